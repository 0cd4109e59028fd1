/-! TurningMilk.jugFor(I)I -/
abbrev RM_X11_jugFor : Room := { frames := 2, cells := 0, slots := 0, locals := 62 }
def cw_X11_jugFor : Cond := Cond.code yX11_jugFor cX11_jugFor 4 (Option.some FieldType.int)
theorem hd_X11_jugFor : yX11_jugFor.cls ≠ "java/lang/invoke/MethodHandle" ∧ yX11_jugFor.cls ≠ "java/lang/invoke/VarHandle" ∧ (parseMethodDescriptor yX11_jugFor.desc).map (fun d => d.parameters.length) = some 1 := by decide +kernel
theorem dX11_jugFor_0 : decode cX11_jugFor 0 = .ok (.aload_n 0, 1) := by decide +kernel
theorem dX11_jugFor_1 : decode cX11_jugFor 1 = .ok (.getfield 19, 3) := by decide +kernel
theorem dX11_jugFor_4 : decode cX11_jugFor 4 = .ok (.getfield 133, 3) := by decide +kernel
theorem dX11_jugFor_7 : decode cX11_jugFor 7 = .ok (.getfield 233, 3) := by decide +kernel
theorem dX11_jugFor_10 : decode cX11_jugFor 10 = .ok (.iload_n 1, 1) := by decide +kernel
theorem dX11_jugFor_11 : decode cX11_jugFor 11 = .ok (.iaload, 1) := by decide +kernel
theorem dX11_jugFor_12 : decode cX11_jugFor 12 = .ok (.iconst (-1), 1) := by decide +kernel
theorem dX11_jugFor_13 : decode cX11_jugFor 13 = .ok (.if_icmp .eq 5, 3) := by decide +kernel
theorem dX11_jugFor_16 : decode cX11_jugFor 16 = .ok (.iconst (-1), 1) := by decide +kernel
theorem dX11_jugFor_17 : decode cX11_jugFor 17 = .ok (.ireturn, 1) := by decide +kernel
theorem dX11_jugFor_18 : decode cX11_jugFor 18 = .ok (.iconst 0, 1) := by decide +kernel
theorem dX11_jugFor_19 : decode cX11_jugFor 19 = .ok (.istore_n 2, 1) := by decide +kernel
theorem dX11_jugFor_20 : decode cX11_jugFor 20 = .ok (.iload_n 2, 1) := by decide +kernel
theorem dX11_jugFor_21 : decode cX11_jugFor 21 = .ok (.aload_n 0, 1) := by decide +kernel
theorem dX11_jugFor_22 : decode cX11_jugFor 22 = .ok (.getfield 19, 3) := by decide +kernel
theorem dX11_jugFor_25 : decode cX11_jugFor 25 = .ok (.getfield 57, 3) := by decide +kernel
theorem dX11_jugFor_28 : decode cX11_jugFor 28 = .ok (.getfield 146, 3) := by decide +kernel
theorem dX11_jugFor_31 : decode cX11_jugFor 31 = .ok (.if_icmp .ge 74, 3) := by decide +kernel
theorem dX11_jugFor_34 : decode cX11_jugFor 34 = .ok (.aload_n 0, 1) := by decide +kernel
theorem dX11_jugFor_35 : decode cX11_jugFor 35 = .ok (.getfield 19, 3) := by decide +kernel
theorem dX11_jugFor_38 : decode cX11_jugFor 38 = .ok (.getfield 133, 3) := by decide +kernel
theorem dX11_jugFor_41 : decode cX11_jugFor 41 = .ok (.getfield 203, 3) := by decide +kernel
theorem dX11_jugFor_44 : decode cX11_jugFor 44 = .ok (.iload_n 2, 1) := by decide +kernel
theorem dX11_jugFor_45 : decode cX11_jugFor 45 = .ok (.iaload, 1) := by decide +kernel
theorem dX11_jugFor_46 : decode cX11_jugFor 46 = .ok (.aload_n 0, 1) := by decide +kernel
theorem dX11_jugFor_47 : decode cX11_jugFor 47 = .ok (.getfield 19, 3) := by decide +kernel
theorem dX11_jugFor_50 : decode cX11_jugFor 50 = .ok (.getfield 57, 3) := by decide +kernel
theorem dX11_jugFor_53 : decode cX11_jugFor 53 = .ok (.getfield 221, 3) := by decide +kernel
theorem dX11_jugFor_56 : decode cX11_jugFor 56 = .ok (.iload_n 1, 1) := by decide +kernel
theorem dX11_jugFor_57 : decode cX11_jugFor 57 = .ok (.iaload, 1) := by decide +kernel
theorem dX11_jugFor_58 : decode cX11_jugFor 58 = .ok (.if_icmp .ne 7, 3) := by decide +kernel
theorem dX11_jugFor_61 : decode cX11_jugFor 61 = .ok (.iconst 1, 1) := by decide +kernel
theorem dX11_jugFor_62 : decode cX11_jugFor 62 = .ok (.goto 4, 3) := by decide +kernel
theorem dX11_jugFor_65 : decode cX11_jugFor 65 = .ok (.iconst 0, 1) := by decide +kernel
theorem dX11_jugFor_66 : decode cX11_jugFor 66 = .ok (.istore_n 3, 1) := by decide +kernel
theorem dX11_jugFor_67 : decode cX11_jugFor 67 = .ok (.iload_n 3, 1) := by decide +kernel
theorem dX11_jugFor_68 : decode cX11_jugFor 68 = .ok (.ifCond .eq 31, 3) := by decide +kernel
theorem dX11_jugFor_71 : decode cX11_jugFor 71 = .ok (.aload_n 0, 1) := by decide +kernel
theorem dX11_jugFor_72 : decode cX11_jugFor 72 = .ok (.getfield 19, 3) := by decide +kernel
theorem dX11_jugFor_75 : decode cX11_jugFor 75 = .ok (.getfield 57, 3) := by decide +kernel
theorem dX11_jugFor_78 : decode cX11_jugFor 78 = .ok (.iload_n 1, 1) := by decide +kernel
theorem dX11_jugFor_79 : decode cX11_jugFor 79 = .ok (.aload_n 0, 1) := by decide +kernel
theorem dX11_jugFor_80 : decode cX11_jugFor 80 = .ok (.getfield 19, 3) := by decide +kernel
theorem dX11_jugFor_83 : decode cX11_jugFor 83 = .ok (.getfield 133, 3) := by decide +kernel
theorem dX11_jugFor_86 : decode cX11_jugFor 86 = .ok (.getfield 209, 3) := by decide +kernel
theorem dX11_jugFor_89 : decode cX11_jugFor 89 = .ok (.iload_n 2, 1) := by decide +kernel
theorem dX11_jugFor_90 : decode cX11_jugFor 90 = .ok (.iaload, 1) := by decide +kernel
theorem dX11_jugFor_91 : decode cX11_jugFor 91 = .ok (.invokevirtual 239, 3) := by decide +kernel
theorem dX11_jugFor_94 : decode cX11_jugFor 94 = .ok (.ifCond .eq 5, 3) := by decide +kernel
theorem dX11_jugFor_97 : decode cX11_jugFor 97 = .ok (.iload_n 2, 1) := by decide +kernel
theorem dX11_jugFor_98 : decode cX11_jugFor 98 = .ok (.ireturn, 1) := by decide +kernel
theorem dX11_jugFor_99 : decode cX11_jugFor 99 = .ok (.iinc 2 1, 3) := by decide +kernel
theorem dX11_jugFor_102 : decode cX11_jugFor 102 = .ok (.goto (-82), 3) := by decide +kernel
theorem dX11_jugFor_105 : decode cX11_jugFor 105 = .ok (.iconst (-1), 1) := by decide +kernel
theorem dX11_jugFor_106 : decode cX11_jugFor 106 = .ok (.ireturn, 1) := by decide +kernel
def wp_X11_jugFor_99 (S : Sh) (k20 : Int → Int → Int → Mm → Prop) (post : Int → Mm → Prop) (u0 : Int) (u1 : Int) (u2 : Int) (M : Mm) : Prop := wA u2 1 fun v1 => k20 u0 u1 v1 M
def wp_X11_jugFor_66 (S : Sh) (k20 : Int → Int → Int → Mm → Prop) (post : Int → Mm → Prop) (u0 : Int) (u1 : Int) (u2 : Int) (t0 : Int) (M : Mm) : Prop := wIf (t0 = 0) (wp_X11_jugFor_99 S k20 post u0 u1 u2 M) (wGetR S M u0 11 1 fun v3 => wGetR S M v3 4 0 fun v5 => wGetR S M u0 11 1 fun v7 => wGetR S M v7 4 1 fun v9 => wGetR S M v9 5 7 fun v11 => wLd S M v11 14 u2 fun v13 => isK S v5 8 ∧ (wp_X8_suits S M v5 u1 v13 <| fun v16 M15 => wIf (v16 = 0) (wp_X11_jugFor_99 S k20 post u0 u1 u2 M15) (post u2 M15)))
def wp_X11_jugFor_20 (S : Sh) (post : Int → Mm → Prop) : Nat → Int → Int → Int → Mm → Prop
  | 0, _, _, _, _ => False
  | n + 1, u0, u1, u2, M => wGetR S M u0 11 1 fun v18 => wGetR S M v18 4 0 fun v20 => wGet S M v20 8 5 fun v22 => wIf (v22 ≤ u2) (wC (-1) fun v24 => post v24 M) (wGetR S M u0 11 1 fun v26 => wGetR S M v26 4 1 fun v28 => wGetR S M v28 5 5 fun v30 => wLd S M v30 14 u2 fun v32 => wGetR S M u0 11 1 fun v34 => wGetR S M v34 4 0 fun v36 => wGetR S M v36 8 15 fun v38 => wLd S M v38 14 u1 fun v40 => wIf (¬ v32 = v40) (wC 0 fun v42 => wp_X11_jugFor_66 S (fun a0 a1 a2 M => wp_X11_jugFor_20 S post n a0 a1 a2 M) post u0 u1 u2 v42 M) (wC 1 fun v44 => wp_X11_jugFor_66 S (fun a0 a1 a2 M => wp_X11_jugFor_20 S post n a0 a1 a2 M) post u0 u1 u2 v44 M))
def wp_X11_jugFor (S : Sh) (M : Mm) (u0 : Int) (u1 : Int) (post : Int → Mm → Prop) : Prop := wGetR S M u0 11 1 fun v46 => wGetR S M v46 4 1 fun v48 => wGetR S M v48 5 8 fun v50 => wLd S M v50 14 u1 fun v52 => wC (-1) fun v54 => wIf (v52 = v54) (wC 0 fun v56 => ∃ n9 : Nat, wp_X11_jugFor_20 S post n9 u0 u1 v56 M) (wC (-1) fun v58 => post v58 M)
set_option maxHeartbeats 4000000 in
set_option maxRecDepth 100000 in
theorem t_X11_jugFor_99 {p : Program} {l : Launch} {e : Env} {s : State} {m : MethodId} {args : Array Value} {below : List Frame} {meth : Method} {c : Code} {D : va_G} {G : Gt} {S : Sh} {post : Int → Mm → Prop} {k20 : Int → Int → Int → Mm → Prop} (C : Cx p s m args meth c D G cX11_jugFor 4 (some .int) (cw_X11_jugFor :: gw) RX11) (hk20 : ∀ (y0 : Int) (y1 : Int32) (y2 : Int32) (M : Mm) (H : Heap) (locs : List Loc) (ls : Array Slot), Wd D G S M H → va_S (aG G) s.heap H locs → lv_has ls 4 [(0, .ref (adr G y0)), (1, .int y1), (2, .int y2)] → k20 y0 y1.toInt y2.toInt M → W p l e RM_X11_jugFor s m args below meth c H locs 0 0 (MQ below (QI D G S post) args s 0 0 (aG G)) (F0 m 20 ls [])) : ∀ (xl0 : Int) (zl1 : Int32) (zl2 : Int32) (M : Mm) (H : Heap) (locs : List Loc) (ls : Array Slot), Wd D G S M H → va_S (aG G) s.heap H locs → lv_has ls 4 [(0, .ref (adr G xl0)), (1, .int zl1), (2, .int zl2)] → wp_X11_jugFor_99 S k20 post xl0 zl1.toInt zl2.toInt  M → W p l e RM_X11_jugFor s m args below meth c H locs 0 0 (MQ below (QI D G S post) args s 0 0 (aG G)) (F0 m 99 ls []) := by
  obtain ⟨hx, hb, hr, hlocks, hml, hown, hts, hK⟩ := id C
  intro xl0 zl1 zl2 M H locs ls hP hS hl h
  unfold wp_X11_jugFor_99 at h
  refine r_iinc hx hb (fun z2 => [(2, .int z2), (0, .ref (adr G xl0)), (1, .int zl1)]) dX11_jugFor_99 (by decide) hl (k := 2) rfl (by decide) (fun _ => rfl) h (fun z2 ls hl h => ?_)
  refine lv_goto (tgt := 20) hx hb dX11_jugFor_102 (by decide) ?_
  exact hk20 xl0 zl1 z2 _ _ _ _ hP hS (lv_sub hl [1, 2, 0] rfl) h
set_option maxHeartbeats 4000000 in
set_option maxRecDepth 100000 in
theorem t_X11_jugFor_66 {p : Program} {l : Launch} {e : Env} {s : State} {m : MethodId} {args : Array Value} {below : List Frame} {meth : Method} {c : Code} {D : va_G} {G : Gt} {S : Sh} {post : Int → Mm → Prop} {k20 : Int → Int → Int → Mm → Prop} (C : Cx p s m args meth c D G cX11_jugFor 4 (some .int) (cw_X11_jugFor :: gw) RX11) (hk20 : ∀ (y0 : Int) (y1 : Int32) (y2 : Int32) (M : Mm) (H : Heap) (locs : List Loc) (ls : Array Slot), Wd D G S M H → va_S (aG G) s.heap H locs → lv_has ls 4 [(0, .ref (adr G y0)), (1, .int y1), (2, .int y2)] → k20 y0 y1.toInt y2.toInt M → W p l e RM_X11_jugFor s m args below meth c H locs 0 0 (MQ below (QI D G S post) args s 0 0 (aG G)) (F0 m 20 ls [])) : ∀ (xl0 : Int) (zl1 : Int32) (zl2 : Int32) (zs0 : Int32) (M : Mm) (H : Heap) (locs : List Loc) (ls : Array Slot), Wd D G S M H → va_S (aG G) s.heap H locs → lv_has ls 4 [(0, .ref (adr G xl0)), (1, .int zl1), (2, .int zl2)] → wp_X11_jugFor_66 S k20 post xl0 zl1.toInt zl2.toInt zs0.toInt M → W p l e RM_X11_jugFor s m args below meth c H locs 0 0 (MQ below (QI D G S post) args s 0 0 (aG G)) (F0 m 66 ls [.int zs0]) := by
  obtain ⟨hx, hb, hr, hlocks, hml, hown, hts, hK⟩ := id C
  intro xl0 zl1 zl2 zs0 M H locs ls hP hS hl h
  unfold wp_X11_jugFor_66 at h
  refine lv_istore_n (lv' := [(3, .int zs0), (0, .ref (adr G xl0)), (1, .int zl1), (2, .int zl2)]) hx hb dX11_jugFor_66 rfl hl (by decide) rfl (fun ls hl => ?_)
  refine lv_iload_n hx hb dX11_jugFor_67 rfl (lv_at hl 0 rfl) ?_
  refine r_if_eq (tgt := 99) hx hb dX11_jugFor_68 (by decide) h (fun h => ?_) (fun h => ?_)
  · exact t_X11_jugFor_99 C hk20 xl0 zl1 zl2 _ _ _ _ hP hS (lv_sub hl [1, 2, 3] rfl) h
  · refine lv_aload_n hx hb dX11_jugFor_71 rfl (lv_at hl 1 rfl) ?_
    refine r_getr (C := RX11) (T := TX11) (N := 16) hx hb hts (fun w h => List.mem_cons_of_mem _ (iX11 w h)) hown hK hP rfl (by decide) rfl 1 (by decide) (hts _ (List.mem_cons_of_mem _ kw_492)) (fun _ h9 => h9) dX11_jugFor_72 (by decide) h (fun x4 h => ?_)
    refine r_getrN (C := RX4) (T := TX4) (N := 10) hx hb hts (fun w h => List.mem_cons_of_mem _ (iX4 w h)) hown hK hP rfl (by decide) rfl 0 (by decide) (nw_70 hK) (fun _ h9 => h9) dX11_jugFor_75 (by decide) h (fun x6 h => ?_)
    refine lv_iload_n hx hb dX11_jugFor_78 rfl (lv_at hl 2 rfl) ?_
    refine lv_aload_n hx hb dX11_jugFor_79 rfl (lv_at hl 1 rfl) ?_
    refine r_getr (C := RX11) (T := TX11) (N := 16) hx hb hts (fun w h => List.mem_cons_of_mem _ (iX11 w h)) hown hK hP rfl (by decide) rfl 1 (by decide) (hts _ (List.mem_cons_of_mem _ kw_492)) (fun _ h9 => h9) dX11_jugFor_80 (by decide) h (fun x8 h => ?_)
    refine r_getrN (C := RX4) (T := TX4) (N := 10) hx hb hts (fun w h => List.mem_cons_of_mem _ (iX4 w h)) hown hK hP rfl (by decide) rfl 1 (by decide) (nw_73 hK) (fun _ h9 => h9) dX11_jugFor_83 (by decide) h (fun x10 h => ?_)
    refine r_getrN (C := RX5) (T := TX5) (N := 9) hx hb hts (fun w h => List.mem_cons_of_mem _ (iX5 w h)) hown hK hP rfl (by decide) rfl 7 (by decide) (nw_67 hK) (fun _ h9 => h9) dX11_jugFor_86 (by decide) h (fun x12 h => ?_)
    refine lv_iload_n hx hb dX11_jugFor_89 rfl (lv_at hl 3 rfl) ?_
    refine r_iald hx hb hK hP dX11_jugFor_90 h (fun z14 h => ?_)
    refine q_Vi hx hb hml hown hts hK hP hS (c_X8_suits l D G S _ x6 zl1 z14 _ h.2) ⟨callB_of 2 hts (gw_good kw_913) rfl rfl rfl (hts _ (List.mem_cons_of_mem _ kw_4)) (hts _ (List.mem_cons_of_mem _ kw_910)) hd_X8_suits ⟨Nat.le_of_ble_eq_true rfl, Nat.le_of_ble_eq_true rfl⟩, (hts _ (List.mem_cons_of_mem _ kw_911)), (hts _ (List.mem_cons_of_mem _ kw_912))⟩ h.1 (ci := 8) rfl (by decide) rfl hl.1 rfl (lv_room (Nat.le_of_ble_eq_true rfl)) dX11_jugFor_91 ⟨Nat.zero_le _, Nat.zero_le _⟩ (fun z17 M15 H locs h hP hS => ?_)
    refine r_if_eq (tgt := 99) hx hb dX11_jugFor_94 (by decide) h (fun h => ?_) (fun h => ?_)
    · exact t_X11_jugFor_99 C hk20 xl0 zl1 zl2 _ _ _ _ hP hS (lv_sub hl [1, 2, 3] rfl) h
    · refine lv_iload_n hx hb dX11_jugFor_97 rfl (lv_at hl 3 rfl) ?_
      exact r_iret hx hb hr hlocks hP hS dX11_jugFor_98 h
set_option maxHeartbeats 4000000 in
set_option maxRecDepth 100000 in
theorem t_X11_jugFor_20 {p : Program} {l : Launch} {e : Env} {s : State} {m : MethodId} {args : Array Value} {below : List Frame} {meth : Method} {c : Code} {D : va_G} {G : Gt} {S : Sh} {post : Int → Mm → Prop} (C : Cx p s m args meth c D G cX11_jugFor 4 (some .int) (cw_X11_jugFor :: gw) RX11) : ∀ (n : Nat) (xl0 : Int) (zl1 : Int32) (zl2 : Int32) (M : Mm) (H : Heap) (locs : List Loc) (ls : Array Slot), Wd D G S M H → va_S (aG G) s.heap H locs → lv_has ls 4 [(0, .ref (adr G xl0)), (1, .int zl1), (2, .int zl2)] → wp_X11_jugFor_20 S post n xl0 zl1.toInt zl2.toInt  M → W p l e RM_X11_jugFor s m args below meth c H locs 0 0 (MQ below (QI D G S post) args s 0 0 (aG G)) (F0 m 20 ls []) := by
  obtain ⟨hx, hb, hr, hlocks, hml, hown, hts, hK⟩ := id C
  intro n
  induction n with
  | zero => intro xl0 zl1 zl2 M H locs ls hP hS hl h; exact h.elim
  | succ n ih =>
    intro xl0 zl1 zl2 M H locs ls hP hS hl h
    unfold wp_X11_jugFor_20 at h
    refine lv_iload_n hx hb dX11_jugFor_20 rfl (lv_at hl 2 rfl) ?_
    refine lv_aload_n hx hb dX11_jugFor_21 rfl (lv_at hl 0 rfl) ?_
    refine r_getr (C := RX11) (T := TX11) (N := 16) hx hb hts (fun w h => List.mem_cons_of_mem _ (iX11 w h)) hown hK hP rfl (by decide) rfl 1 (by decide) (hts _ (List.mem_cons_of_mem _ kw_492)) (fun _ h9 => h9) dX11_jugFor_22 (by decide) h (fun x19 h => ?_)
    refine r_getrN (C := RX4) (T := TX4) (N := 10) hx hb hts (fun w h => List.mem_cons_of_mem _ (iX4 w h)) hown hK hP rfl (by decide) rfl 0 (by decide) (nw_70 hK) (fun _ h9 => h9) dX11_jugFor_25 (by decide) h (fun x21 h => ?_)
    refine r_getiN (C := RX8) (T := TX8) (N := 19) hx hb hts (fun w h => List.mem_cons_of_mem _ (iX8 w h)) hown hK hP rfl (by decide) rfl 5 (by decide) (nw_20 hK) (fun _ h9 => h9) dX11_jugFor_28 (by decide) h (fun z23 h => ?_)
    refine r_icmp_ge (tgt := 105) hx hb dX11_jugFor_31 (by decide) h (fun h => ?_) (fun h => ?_)
    · refine r_iconst hx hb dX11_jugFor_105 (by decide) h (fun z25 h => ?_)
      exact r_iret hx hb hr hlocks hP hS dX11_jugFor_106 h
    · refine lv_aload_n hx hb dX11_jugFor_34 rfl (lv_at hl 0 rfl) ?_
      refine r_getr (C := RX11) (T := TX11) (N := 16) hx hb hts (fun w h => List.mem_cons_of_mem _ (iX11 w h)) hown hK hP rfl (by decide) rfl 1 (by decide) (hts _ (List.mem_cons_of_mem _ kw_492)) (fun _ h9 => h9) dX11_jugFor_35 (by decide) h (fun x27 h => ?_)
      refine r_getrN (C := RX4) (T := TX4) (N := 10) hx hb hts (fun w h => List.mem_cons_of_mem _ (iX4 w h)) hown hK hP rfl (by decide) rfl 1 (by decide) (nw_73 hK) (fun _ h9 => h9) dX11_jugFor_38 (by decide) h (fun x29 h => ?_)
      refine r_getrN (C := RX5) (T := TX5) (N := 9) hx hb hts (fun w h => List.mem_cons_of_mem _ (iX5 w h)) hown hK hP rfl (by decide) rfl 5 (by decide) (nw_60 hK) (fun _ h9 => h9) dX11_jugFor_41 (by decide) h (fun x31 h => ?_)
      refine lv_iload_n hx hb dX11_jugFor_44 rfl (lv_at hl 2 rfl) ?_
      refine r_iald hx hb hK hP dX11_jugFor_45 h (fun z33 h => ?_)
      refine lv_aload_n hx hb dX11_jugFor_46 rfl (lv_at hl 0 rfl) ?_
      refine r_getr (C := RX11) (T := TX11) (N := 16) hx hb hts (fun w h => List.mem_cons_of_mem _ (iX11 w h)) hown hK hP rfl (by decide) rfl 1 (by decide) (hts _ (List.mem_cons_of_mem _ kw_492)) (fun _ h9 => h9) dX11_jugFor_47 (by decide) h (fun x35 h => ?_)
      refine r_getrN (C := RX4) (T := TX4) (N := 10) hx hb hts (fun w h => List.mem_cons_of_mem _ (iX4 w h)) hown hK hP rfl (by decide) rfl 0 (by decide) (nw_70 hK) (fun _ h9 => h9) dX11_jugFor_50 (by decide) h (fun x37 h => ?_)
      refine r_getrN (C := RX8) (T := TX8) (N := 19) hx hb hts (fun w h => List.mem_cons_of_mem _ (iX8 w h)) hown hK hP rfl (by decide) rfl 15 (by decide) (nw_38 hK) (fun _ h9 => h9) dX11_jugFor_53 (by decide) h (fun x39 h => ?_)
      refine lv_iload_n hx hb dX11_jugFor_56 rfl (lv_at hl 1 rfl) ?_
      refine r_iald hx hb hK hP dX11_jugFor_57 h (fun z41 h => ?_)
      refine r_icmp_ne (tgt := 65) hx hb dX11_jugFor_58 (by decide) h (fun h => ?_) (fun h => ?_)
      · refine r_iconst hx hb dX11_jugFor_65 (by decide) h (fun z43 h => ?_)
        exact t_X11_jugFor_66 C ih xl0 zl1 zl2 z43 _ _ _ _ hP hS (lv_sub hl [0, 1, 2] rfl) h
      · refine r_iconst hx hb dX11_jugFor_61 (by decide) h (fun z45 h => ?_)
        refine lv_goto (tgt := 66) hx hb dX11_jugFor_62 (by decide) ?_
        exact t_X11_jugFor_66 C ih xl0 zl1 zl2 z45 _ _ _ _ hP hS (lv_sub hl [0, 1, 2] rfl) h
set_option maxHeartbeats 4000000 in
set_option maxRecDepth 100000 in
theorem c_X11_jugFor (l : Launch) (D : va_G) (G : Gt) (S : Sh) (M : Mm) (xl0 : Int) (zl1 : Int32) (post : Int → Mm → Prop) (h : wp_X11_jugFor S M xl0 zl1.toInt post) : Met l yX11_jugFor (cw_X11_jugFor :: gw) RM_X11_jugFor (va_Pc [.ref (adr G xl0), .int zl1] (fun U => KN D G U ∧ Wd D G S M U.heap)) (QI D G S post) 0 0 (aG G) := by
  refine Met.ofW (cc := cX11_jugFor) (maxL := 4) (ret := (some .int)) (by decide) rfl ?_
  intro p e s m args below meth c s₁ B hml hv
  obtain ⟨rfl, hK, hP⟩ := hv
  have hx := B.exec
  have hb := B.bytes
  have hr := B.returns
  have hts := atoms_spec (ws := cw_X11_jugFor :: gw) B.pre
  have hown : s.vm.findClass RX11 = some m.cls := findClass_of_methodNamed B.named
  have hlocks := B.notSynchronized
  have hS : va_S (aG G) s.heap s.heap [] := va_S.rf
  have C : Cx p s m ([.ref (adr G xl0), .int zl1] : List Value).toArray meth c D G cX11_jugFor 4 (some .int) (cw_X11_jugFor :: gw) RX11 := ⟨hx, hb, hr, hlocks, hml, hown, hts, hK⟩
  have hl := lv_entry ([.ref (adr G xl0), .int zl1]) (n := 4) (Nat.le_of_ble_eq_true rfl)
  rw [lg_entry_eq]
  generalize (lg_sl ([.ref (adr G xl0), .int zl1]) ++ List.replicate (4 - (lg_sl ([.ref (adr G xl0), .int zl1])).length) Slot.unset).toArray = ls at hl ⊢
  have hl : lv_has ls 4 [(0, .ref (adr G xl0)), (1, .int zl1)] := hl
  unfold wp_X11_jugFor at h
  refine lv_aload_n hx hb dX11_jugFor_0 rfl (lv_at hl 0 rfl) ?_
  refine r_getr (C := RX11) (T := TX11) (N := 16) hx hb hts (fun w h => List.mem_cons_of_mem _ (iX11 w h)) hown hK hP rfl (by decide) rfl 1 (by decide) (hts _ (List.mem_cons_of_mem _ kw_492)) (fun _ h9 => h9) dX11_jugFor_1 (by decide) h (fun x47 h => ?_)
  refine r_getrN (C := RX4) (T := TX4) (N := 10) hx hb hts (fun w h => List.mem_cons_of_mem _ (iX4 w h)) hown hK hP rfl (by decide) rfl 1 (by decide) (nw_73 hK) (fun _ h9 => h9) dX11_jugFor_4 (by decide) h (fun x49 h => ?_)
  refine r_getrN (C := RX5) (T := TX5) (N := 9) hx hb hts (fun w h => List.mem_cons_of_mem _ (iX5 w h)) hown hK hP rfl (by decide) rfl 8 (by decide) (nw_69 hK) (fun _ h9 => h9) dX11_jugFor_7 (by decide) h (fun x51 h => ?_)
  refine lv_iload_n hx hb dX11_jugFor_10 rfl (lv_at hl 1 rfl) ?_
  refine r_iald hx hb hK hP dX11_jugFor_11 h (fun z53 h => ?_)
  refine r_iconst hx hb dX11_jugFor_12 (by decide) h (fun z55 h => ?_)
  refine r_icmp_eq (tgt := 18) hx hb dX11_jugFor_13 (by decide) h (fun h => ?_) (fun h => ?_)
  · refine r_iconst hx hb dX11_jugFor_18 (by decide) h (fun z57 h => ?_)
    refine lv_istore_n (lv' := [(2, .int z57), (0, .ref (adr G xl0)), (1, .int zl1)]) hx hb dX11_jugFor_19 rfl hl (by decide) rfl (fun ls hl => ?_)
    obtain ⟨n9, h⟩ := h
    exact t_X11_jugFor_20 C n9 xl0 zl1 z57 _ _ _ _ hP hS (lv_sub hl [1, 2, 0] rfl) h
  · refine r_iconst hx hb dX11_jugFor_16 (by decide) h (fun z59 h => ?_)
    exact r_iret hx hb hr hlocks hP hS dX11_jugFor_17 h
/-! TurningMilk.want(II)I -/
abbrev RM_X11_want : Room := { frames := 3, cells := 0, slots := 0, locals := 85 }
def cw_X11_want : Cond := Cond.code yX11_want cX11_want 3 (Option.some FieldType.int)
theorem hd_X11_want : yX11_want.cls ≠ "java/lang/invoke/MethodHandle" ∧ yX11_want.cls ≠ "java/lang/invoke/VarHandle" ∧ (parseMethodDescriptor yX11_want.desc).map (fun d => d.parameters.length) = some 2 := by decide +kernel
theorem dX11_want_0 : decode cX11_want 0 = .ok (.aload_n 0, 1) := by decide +kernel
theorem dX11_want_1 : decode cX11_want 1 = .ok (.iload_n 1, 1) := by decide +kernel
theorem dX11_want_2 : decode cX11_want 2 = .ok (.invokevirtual 218, 3) := by decide +kernel
theorem dX11_want_5 : decode cX11_want 5 = .ok (.ifCond .ne 6, 3) := by decide +kernel
theorem dX11_want_8 : decode cX11_want 8 = .ok (.bipush (-2), 2) := by decide +kernel
theorem dX11_want_10 : decode cX11_want 10 = .ok (.ireturn, 1) := by decide +kernel
theorem dX11_want_11 : decode cX11_want 11 = .ok (.iload_n 2, 1) := by decide +kernel
theorem dX11_want_12 : decode cX11_want 12 = .ok (.tableswitch 120 0 5 #[40, 53, 66, 79, 92, 105], 40) := by decide +kernel
theorem dX11_want_52 : decode cX11_want 52 = .ok (.aload_n 0, 1) := by decide +kernel
theorem dX11_want_53 : decode cX11_want 53 = .ok (.getfield 19, 3) := by decide +kernel
theorem dX11_want_56 : decode cX11_want 56 = .ok (.getfield 57, 3) := by decide +kernel
theorem dX11_want_59 : decode cX11_want 59 = .ok (.getfield 221, 3) := by decide +kernel
theorem dX11_want_62 : decode cX11_want 62 = .ok (.iload_n 1, 1) := by decide +kernel
theorem dX11_want_63 : decode cX11_want 63 = .ok (.iaload, 1) := by decide +kernel
theorem dX11_want_64 : decode cX11_want 64 = .ok (.ireturn, 1) := by decide +kernel
theorem dX11_want_65 : decode cX11_want 65 = .ok (.aload_n 0, 1) := by decide +kernel
theorem dX11_want_66 : decode cX11_want 66 = .ok (.getfield 19, 3) := by decide +kernel
theorem dX11_want_69 : decode cX11_want 69 = .ok (.getfield 57, 3) := by decide +kernel
theorem dX11_want_72 : decode cX11_want 72 = .ok (.getfield 224, 3) := by decide +kernel
theorem dX11_want_75 : decode cX11_want 75 = .ok (.iload_n 1, 1) := by decide +kernel
theorem dX11_want_76 : decode cX11_want 76 = .ok (.iaload, 1) := by decide +kernel
theorem dX11_want_77 : decode cX11_want 77 = .ok (.ireturn, 1) := by decide +kernel
theorem dX11_want_78 : decode cX11_want 78 = .ok (.aload_n 0, 1) := by decide +kernel
theorem dX11_want_79 : decode cX11_want 79 = .ok (.getfield 19, 3) := by decide +kernel
theorem dX11_want_82 : decode cX11_want 82 = .ok (.getfield 57, 3) := by decide +kernel
theorem dX11_want_85 : decode cX11_want 85 = .ok (.getfield 227, 3) := by decide +kernel
theorem dX11_want_88 : decode cX11_want 88 = .ok (.iload_n 1, 1) := by decide +kernel
theorem dX11_want_89 : decode cX11_want 89 = .ok (.iaload, 1) := by decide +kernel
theorem dX11_want_90 : decode cX11_want 90 = .ok (.ireturn, 1) := by decide +kernel
theorem dX11_want_91 : decode cX11_want 91 = .ok (.aload_n 0, 1) := by decide +kernel
theorem dX11_want_92 : decode cX11_want 92 = .ok (.getfield 19, 3) := by decide +kernel
theorem dX11_want_95 : decode cX11_want 95 = .ok (.getfield 57, 3) := by decide +kernel
theorem dX11_want_98 : decode cX11_want 98 = .ok (.getfield 230, 3) := by decide +kernel
theorem dX11_want_101 : decode cX11_want 101 = .ok (.iload_n 1, 1) := by decide +kernel
theorem dX11_want_102 : decode cX11_want 102 = .ok (.iaload, 1) := by decide +kernel
theorem dX11_want_103 : decode cX11_want 103 = .ok (.ireturn, 1) := by decide +kernel
theorem dX11_want_104 : decode cX11_want 104 = .ok (.aload_n 0, 1) := by decide +kernel
theorem dX11_want_105 : decode cX11_want 105 = .ok (.getfield 19, 3) := by decide +kernel
theorem dX11_want_108 : decode cX11_want 108 = .ok (.getfield 133, 3) := by decide +kernel
theorem dX11_want_111 : decode cX11_want 111 = .ok (.getfield 233, 3) := by decide +kernel
theorem dX11_want_114 : decode cX11_want 114 = .ok (.iload_n 1, 1) := by decide +kernel
theorem dX11_want_115 : decode cX11_want 115 = .ok (.iaload, 1) := by decide +kernel
theorem dX11_want_116 : decode cX11_want 116 = .ok (.ireturn, 1) := by decide +kernel
theorem dX11_want_117 : decode cX11_want 117 = .ok (.aload_n 0, 1) := by decide +kernel
theorem dX11_want_118 : decode cX11_want 118 = .ok (.iload_n 1, 1) := by decide +kernel
theorem dX11_want_119 : decode cX11_want 119 = .ok (.invokevirtual 236, 3) := by decide +kernel
theorem dX11_want_122 : decode cX11_want 122 = .ok (.iconst (-1), 1) := by decide +kernel
theorem dX11_want_123 : decode cX11_want 123 = .ok (.if_icmp .ne 7, 3) := by decide +kernel
theorem dX11_want_126 : decode cX11_want 126 = .ok (.iconst 0, 1) := by decide +kernel
theorem dX11_want_127 : decode cX11_want 127 = .ok (.goto 4, 3) := by decide +kernel
theorem dX11_want_130 : decode cX11_want 130 = .ok (.iconst 1, 1) := by decide +kernel
theorem dX11_want_131 : decode cX11_want 131 = .ok (.ireturn, 1) := by decide +kernel
theorem dX11_want_132 : decode cX11_want 132 = .ok (.bipush (-2), 2) := by decide +kernel
theorem dX11_want_134 : decode cX11_want 134 = .ok (.ireturn, 1) := by decide +kernel
def wp_X11_want (S : Sh) (M : Mm) (u0 : Int) (u1 : Int) (u2 : Int) (post : Int → Mm → Prop) : Prop := isK S u0 11 ∧ (wp_X11_isWant S M u0 u1 <| fun v2 M1 => wIf (¬ v2 = 0) (wIf (u2 = 0) (wGetR S M1 u0 11 1 fun v4 => wGetR S M1 v4 4 0 fun v6 => wGetR S M1 v6 8 15 fun v8 => wLd S M1 v8 14 u1 fun v10 => post v10 M1) (wIf (u2 = 1) (wGetR S M1 u0 11 1 fun v12 => wGetR S M1 v12 4 0 fun v14 => wGetR S M1 v14 8 16 fun v16 => wLd S M1 v16 14 u1 fun v18 => post v18 M1) (wIf (u2 = 2) (wGetR S M1 u0 11 1 fun v20 => wGetR S M1 v20 4 0 fun v22 => wGetR S M1 v22 8 17 fun v24 => wLd S M1 v24 14 u1 fun v26 => post v26 M1) (wIf (u2 = 3) (wGetR S M1 u0 11 1 fun v28 => wGetR S M1 v28 4 0 fun v30 => wGetR S M1 v30 8 18 fun v32 => wLd S M1 v32 14 u1 fun v34 => post v34 M1) (wIf (u2 = 4) (wGetR S M1 u0 11 1 fun v36 => wGetR S M1 v36 4 1 fun v38 => wGetR S M1 v38 5 8 fun v40 => wLd S M1 v40 14 u1 fun v42 => post v42 M1) (wIf (u2 = 5) (isK S u0 11 ∧ (wp_X11_jugFor S M1 u0 u1 <| fun v45 M44 => wC (-1) fun v47 => wIf (¬ v45 = v47) (wC 1 fun v49 => post v49 M44) (wC 0 fun v51 => post v51 M44))) (wC (-2) fun v53 => post v53 M1))))))) (wC (-2) fun v55 => post v55 M1))
set_option maxHeartbeats 4000000 in
set_option maxRecDepth 100000 in
theorem c_X11_want (l : Launch) (D : va_G) (G : Gt) (S : Sh) (M : Mm) (xl0 : Int) (zl1 : Int32) (zl2 : Int32) (post : Int → Mm → Prop) (h : wp_X11_want S M xl0 zl1.toInt zl2.toInt post) : Met l yX11_want (cw_X11_want :: gw) RM_X11_want (va_Pc [.ref (adr G xl0), .int zl1, .int zl2] (fun U => KN D G U ∧ Wd D G S M U.heap)) (QI D G S post) 0 0 (aG G) := by
  refine Met.ofW (cc := cX11_want) (maxL := 3) (ret := (some .int)) (by decide) rfl ?_
  intro p e s m args below meth c s₁ B hml hv
  obtain ⟨rfl, hK, hP⟩ := hv
  have hx := B.exec
  have hb := B.bytes
  have hr := B.returns
  have hts := atoms_spec (ws := cw_X11_want :: gw) B.pre
  have hown : s.vm.findClass RX11 = some m.cls := findClass_of_methodNamed B.named
  have hlocks := B.notSynchronized
  have hS : va_S (aG G) s.heap s.heap [] := va_S.rf
  have C : Cx p s m ([.ref (adr G xl0), .int zl1, .int zl2] : List Value).toArray meth c D G cX11_want 3 (some .int) (cw_X11_want :: gw) RX11 := ⟨hx, hb, hr, hlocks, hml, hown, hts, hK⟩
  have hl := lv_entry ([.ref (adr G xl0), .int zl1, .int zl2]) (n := 3) (Nat.le_of_ble_eq_true rfl)
  rw [lg_entry_eq]
  generalize (lg_sl ([.ref (adr G xl0), .int zl1, .int zl2]) ++ List.replicate (3 - (lg_sl ([.ref (adr G xl0), .int zl1, .int zl2])).length) Slot.unset).toArray = ls at hl ⊢
  have hl : lv_has ls 3 [(0, .ref (adr G xl0)), (1, .int zl1), (2, .int zl2)] := hl
  unfold wp_X11_want at h
  refine lv_aload_n hx hb dX11_want_0 rfl (lv_at hl 0 rfl) ?_
  refine lv_iload_n hx hb dX11_want_1 rfl (lv_at hl 1 rfl) ?_
  refine q_Vi hx hb hml hown hts hK hP hS (c_X11_isWant l D G S _ xl0 zl1 _ h.2) ⟨callB_of 1 hts (gw_good kw_905) rfl rfl rfl (hts _ (List.mem_cons_of_mem _ kw_1)) (hts _ (List.mem_cons_of_mem _ kw_902)) hd_X11_isWant ⟨Nat.le_of_ble_eq_true rfl, Nat.le_of_ble_eq_true rfl⟩, (hts _ (List.mem_cons_of_mem _ kw_904)), (hts _ (List.mem_cons_of_mem _ kp_31))⟩ h.1 (ci := 11) rfl (by decide) rfl hl.1 rfl (lv_room (Nat.le_of_ble_eq_true rfl)) dX11_want_2 ⟨Nat.zero_le _, Nat.zero_le _⟩ (fun z3 M1 H locs h hP hS => ?_)
  refine r_if_ne (tgt := 11) hx hb dX11_want_5 (by decide) h (fun h => ?_) (fun h => ?_)
  · refine lv_iload_n hx hb dX11_want_11 rfl (lv_at hl 2 rfl) ?_
    refine sw (c := zl2.toInt = 0) h (fun e0 h => ?_) (fun e0 h => ?_)
    · refine lv_tableIn (tgt := 52) hx hb dX11_want_12 (by omega) (by omega) (by rw [e0]; rfl) (by decide) ?_
      refine lv_aload_n hx hb dX11_want_52 rfl (lv_at hl 0 rfl) ?_
      refine r_getr (C := RX11) (T := TX11) (N := 16) hx hb hts (fun w h => List.mem_cons_of_mem _ (iX11 w h)) hown hK hP rfl (by decide) rfl 1 (by decide) (hts _ (List.mem_cons_of_mem _ kw_492)) (fun _ h9 => h9) dX11_want_53 (by decide) h (fun x5 h => ?_)
      refine r_getrN (C := RX4) (T := TX4) (N := 10) hx hb hts (fun w h => List.mem_cons_of_mem _ (iX4 w h)) hown hK hP rfl (by decide) rfl 0 (by decide) (nw_70 hK) (fun _ h9 => h9) dX11_want_56 (by decide) h (fun x7 h => ?_)
      refine r_getrN (C := RX8) (T := TX8) (N := 19) hx hb hts (fun w h => List.mem_cons_of_mem _ (iX8 w h)) hown hK hP rfl (by decide) rfl 15 (by decide) (nw_38 hK) (fun _ h9 => h9) dX11_want_59 (by decide) h (fun x9 h => ?_)
      refine lv_iload_n hx hb dX11_want_62 rfl (lv_at hl 1 rfl) ?_
      refine r_iald hx hb hK hP dX11_want_63 h (fun z11 h => ?_)
      exact r_iret hx hb hr hlocks hP hS dX11_want_64 h
    · refine sw (c := zl2.toInt = 1) h (fun e1 h => ?_) (fun e1 h => ?_)
      · refine lv_tableIn (tgt := 65) hx hb dX11_want_12 (by omega) (by omega) (by rw [e1]; rfl) (by decide) ?_
        refine lv_aload_n hx hb dX11_want_65 rfl (lv_at hl 0 rfl) ?_
        refine r_getr (C := RX11) (T := TX11) (N := 16) hx hb hts (fun w h => List.mem_cons_of_mem _ (iX11 w h)) hown hK hP rfl (by decide) rfl 1 (by decide) (hts _ (List.mem_cons_of_mem _ kw_492)) (fun _ h9 => h9) dX11_want_66 (by decide) h (fun x13 h => ?_)
        refine r_getrN (C := RX4) (T := TX4) (N := 10) hx hb hts (fun w h => List.mem_cons_of_mem _ (iX4 w h)) hown hK hP rfl (by decide) rfl 0 (by decide) (nw_70 hK) (fun _ h9 => h9) dX11_want_69 (by decide) h (fun x15 h => ?_)
        refine r_getrN (C := RX8) (T := TX8) (N := 19) hx hb hts (fun w h => List.mem_cons_of_mem _ (iX8 w h)) hown hK hP rfl (by decide) rfl 16 (by decide) (nw_40 hK) (fun _ h9 => h9) dX11_want_72 (by decide) h (fun x17 h => ?_)
        refine lv_iload_n hx hb dX11_want_75 rfl (lv_at hl 1 rfl) ?_
        refine r_iald hx hb hK hP dX11_want_76 h (fun z19 h => ?_)
        exact r_iret hx hb hr hlocks hP hS dX11_want_77 h
      · refine sw (c := zl2.toInt = 2) h (fun e2 h => ?_) (fun e2 h => ?_)
        · refine lv_tableIn (tgt := 78) hx hb dX11_want_12 (by omega) (by omega) (by rw [e2]; rfl) (by decide) ?_
          refine lv_aload_n hx hb dX11_want_78 rfl (lv_at hl 0 rfl) ?_
          refine r_getr (C := RX11) (T := TX11) (N := 16) hx hb hts (fun w h => List.mem_cons_of_mem _ (iX11 w h)) hown hK hP rfl (by decide) rfl 1 (by decide) (hts _ (List.mem_cons_of_mem _ kw_492)) (fun _ h9 => h9) dX11_want_79 (by decide) h (fun x21 h => ?_)
          refine r_getrN (C := RX4) (T := TX4) (N := 10) hx hb hts (fun w h => List.mem_cons_of_mem _ (iX4 w h)) hown hK hP rfl (by decide) rfl 0 (by decide) (nw_70 hK) (fun _ h9 => h9) dX11_want_82 (by decide) h (fun x23 h => ?_)
          refine r_getrN (C := RX8) (T := TX8) (N := 19) hx hb hts (fun w h => List.mem_cons_of_mem _ (iX8 w h)) hown hK hP rfl (by decide) rfl 17 (by decide) (nw_42 hK) (fun _ h9 => h9) dX11_want_85 (by decide) h (fun x25 h => ?_)
          refine lv_iload_n hx hb dX11_want_88 rfl (lv_at hl 1 rfl) ?_
          refine r_iald hx hb hK hP dX11_want_89 h (fun z27 h => ?_)
          exact r_iret hx hb hr hlocks hP hS dX11_want_90 h
        · refine sw (c := zl2.toInt = 3) h (fun e3 h => ?_) (fun e3 h => ?_)
          · refine lv_tableIn (tgt := 91) hx hb dX11_want_12 (by omega) (by omega) (by rw [e3]; rfl) (by decide) ?_
            refine lv_aload_n hx hb dX11_want_91 rfl (lv_at hl 0 rfl) ?_
            refine r_getr (C := RX11) (T := TX11) (N := 16) hx hb hts (fun w h => List.mem_cons_of_mem _ (iX11 w h)) hown hK hP rfl (by decide) rfl 1 (by decide) (hts _ (List.mem_cons_of_mem _ kw_492)) (fun _ h9 => h9) dX11_want_92 (by decide) h (fun x29 h => ?_)
            refine r_getrN (C := RX4) (T := TX4) (N := 10) hx hb hts (fun w h => List.mem_cons_of_mem _ (iX4 w h)) hown hK hP rfl (by decide) rfl 0 (by decide) (nw_70 hK) (fun _ h9 => h9) dX11_want_95 (by decide) h (fun x31 h => ?_)
            refine r_getrN (C := RX8) (T := TX8) (N := 19) hx hb hts (fun w h => List.mem_cons_of_mem _ (iX8 w h)) hown hK hP rfl (by decide) rfl 18 (by decide) (nw_45 hK) (fun _ h9 => h9) dX11_want_98 (by decide) h (fun x33 h => ?_)
            refine lv_iload_n hx hb dX11_want_101 rfl (lv_at hl 1 rfl) ?_
            refine r_iald hx hb hK hP dX11_want_102 h (fun z35 h => ?_)
            exact r_iret hx hb hr hlocks hP hS dX11_want_103 h
          · refine sw (c := zl2.toInt = 4) h (fun e4 h => ?_) (fun e4 h => ?_)
            · refine lv_tableIn (tgt := 104) hx hb dX11_want_12 (by omega) (by omega) (by rw [e4]; rfl) (by decide) ?_
              refine lv_aload_n hx hb dX11_want_104 rfl (lv_at hl 0 rfl) ?_
              refine r_getr (C := RX11) (T := TX11) (N := 16) hx hb hts (fun w h => List.mem_cons_of_mem _ (iX11 w h)) hown hK hP rfl (by decide) rfl 1 (by decide) (hts _ (List.mem_cons_of_mem _ kw_492)) (fun _ h9 => h9) dX11_want_105 (by decide) h (fun x37 h => ?_)
              refine r_getrN (C := RX4) (T := TX4) (N := 10) hx hb hts (fun w h => List.mem_cons_of_mem _ (iX4 w h)) hown hK hP rfl (by decide) rfl 1 (by decide) (nw_73 hK) (fun _ h9 => h9) dX11_want_108 (by decide) h (fun x39 h => ?_)
              refine r_getrN (C := RX5) (T := TX5) (N := 9) hx hb hts (fun w h => List.mem_cons_of_mem _ (iX5 w h)) hown hK hP rfl (by decide) rfl 8 (by decide) (nw_69 hK) (fun _ h9 => h9) dX11_want_111 (by decide) h (fun x41 h => ?_)
              refine lv_iload_n hx hb dX11_want_114 rfl (lv_at hl 1 rfl) ?_
              refine r_iald hx hb hK hP dX11_want_115 h (fun z43 h => ?_)
              exact r_iret hx hb hr hlocks hP hS dX11_want_116 h
            · refine sw (c := zl2.toInt = 5) h (fun e5 h => ?_) (fun e5 h => ?_)
              · refine lv_tableIn (tgt := 117) hx hb dX11_want_12 (by omega) (by omega) (by rw [e5]; rfl) (by decide) ?_
                refine lv_aload_n hx hb dX11_want_117 rfl (lv_at hl 0 rfl) ?_
                refine lv_iload_n hx hb dX11_want_118 rfl (lv_at hl 1 rfl) ?_
                refine q_Vi hx hb hml hown hts hK hP hS (c_X11_jugFor l D G S _ xl0 zl1 _ h.2) ⟨callB_of 1 hts (gw_good kw_909) rfl rfl rfl (hts _ (List.mem_cons_of_mem _ kw_1)) (hts _ (List.mem_cons_of_mem _ kw_906)) hd_X11_jugFor ⟨Nat.le_of_ble_eq_true rfl, Nat.le_of_ble_eq_true rfl⟩, (hts _ (List.mem_cons_of_mem _ kw_908)), (hts _ (List.mem_cons_of_mem _ kp_32))⟩ h.1 (ci := 11) rfl (by decide) rfl hl.1 rfl (lv_room (Nat.le_of_ble_eq_true rfl)) dX11_want_119 ⟨Nat.zero_le _, Nat.zero_le _⟩ (fun z46 M44 H locs h hP hS => ?_)
                refine r_iconst hx hb dX11_want_122 (by decide) h (fun z48 h => ?_)
                refine r_icmp_ne (tgt := 130) hx hb dX11_want_123 (by decide) h (fun h => ?_) (fun h => ?_)
                · refine r_iconst hx hb dX11_want_130 (by decide) h (fun z50 h => ?_)
                  exact r_iret hx hb hr hlocks hP hS dX11_want_131 h
                · refine r_iconst hx hb dX11_want_126 (by decide) h (fun z52 h => ?_)
                  refine lv_goto (tgt := 131) hx hb dX11_want_127 (by decide) ?_
                  exact r_iret hx hb hr hlocks hP hS dX11_want_131 h
              · refine lv_tableOut (tgt := 132) hx hb dX11_want_12 (by omega) (by decide) ?_
                refine r_bipush hx hb dX11_want_132 (by decide) h (fun z54 h => ?_)
                exact r_iret hx hb hr hlocks hP hS dX11_want_134 h
  · refine r_bipush hx hb dX11_want_8 (by decide) h (fun z56 h => ?_)
    exact r_iret hx hb hr hlocks hP hS dX11_want_10 h
/-! TurningMilk.keepPast()V -/
abbrev RM_X11_keepPast : Room := { frames := 2, cells := 0, slots := 0, locals := 81 }
def cw_X11_keepPast : Cond := Cond.code yX11_keepPast cX11_keepPast 1 (Option.none : Option FieldType)
theorem hd_X11_keepPast : yX11_keepPast.cls ≠ "java/lang/invoke/MethodHandle" ∧ yX11_keepPast.cls ≠ "java/lang/invoke/VarHandle" ∧ (parseMethodDescriptor yX11_keepPast.desc).map (fun d => d.parameters.length) = some 0 := by decide +kernel
theorem dX11_keepPast_0 : decode cX11_keepPast 0 = .ok (.aload_n 0, 1) := by decide +kernel
theorem dX11_keepPast_1 : decode cX11_keepPast 1 = .ok (.getfield 29, 3) := by decide +kernel
theorem dX11_keepPast_4 : decode cX11_keepPast 4 = .ok (.aload_n 0, 1) := by decide +kernel
theorem dX11_keepPast_5 : decode cX11_keepPast 5 = .ok (.getfield 243, 3) := by decide +kernel
theorem dX11_keepPast_8 : decode cX11_keepPast 8 = .ok (.aaload, 1) := by decide +kernel
theorem dX11_keepPast_9 : decode cX11_keepPast 9 = .ok (.aload_n 0, 1) := by decide +kernel
theorem dX11_keepPast_10 : decode cX11_keepPast 10 = .ok (.getfield 19, 3) := by decide +kernel
theorem dX11_keepPast_13 : decode cX11_keepPast 13 = .ok (.getfield 133, 3) := by decide +kernel
theorem dX11_keepPast_16 : decode cX11_keepPast 16 = .ok (.invokevirtual 137, 3) := by decide +kernel
theorem dX11_keepPast_19 : decode cX11_keepPast 19 = .ok (.aload_n 0, 1) := by decide +kernel
theorem dX11_keepPast_20 : decode cX11_keepPast 20 = .ok (.aload_n 0, 1) := by decide +kernel
theorem dX11_keepPast_21 : decode cX11_keepPast 21 = .ok (.getfield 243, 3) := by decide +kernel
theorem dX11_keepPast_24 : decode cX11_keepPast 24 = .ok (.iconst 1, 1) := by decide +kernel
theorem dX11_keepPast_25 : decode cX11_keepPast 25 = .ok (.iadd, 1) := by decide +kernel
theorem dX11_keepPast_26 : decode cX11_keepPast 26 = .ok (.bipush 20, 2) := by decide +kernel
theorem dX11_keepPast_28 : decode cX11_keepPast 28 = .ok (.irem, 1) := by decide +kernel
theorem dX11_keepPast_29 : decode cX11_keepPast 29 = .ok (.putfield 243, 3) := by decide +kernel
theorem dX11_keepPast_32 : decode cX11_keepPast 32 = .ok (.aload_n 0, 1) := by decide +kernel
theorem dX11_keepPast_33 : decode cX11_keepPast 33 = .ok (.bipush 20, 2) := by decide +kernel
theorem dX11_keepPast_35 : decode cX11_keepPast 35 = .ok (.aload_n 0, 1) := by decide +kernel
theorem dX11_keepPast_36 : decode cX11_keepPast 36 = .ok (.getfield 143, 3) := by decide +kernel
theorem dX11_keepPast_39 : decode cX11_keepPast 39 = .ok (.iconst 1, 1) := by decide +kernel
theorem dX11_keepPast_40 : decode cX11_keepPast 40 = .ok (.iadd, 1) := by decide +kernel
theorem dX11_keepPast_41 : decode cX11_keepPast 41 = .ok (.invokestatic 246, 3) := by decide +kernel
theorem dX11_keepPast_44 : decode cX11_keepPast 44 = .ok (.putfield 143, 3) := by decide +kernel
theorem dX11_keepPast_47 : decode cX11_keepPast 47 = .ok (.return_, 1) := by decide +kernel
def wp_X11_keepPast (S : Sh) (M : Mm) (u0 : Int) (post : Mm → Prop) : Prop := wGetR S M u0 11 3 fun v1 => wGet S M u0 11 4 fun v3 => wLdR S M v1 18 v3 fun v5 => wGetR S M u0 11 1 fun v7 => wGetR S M v7 4 1 fun v9 => isK S v5 5 ∧ (wp_X5_become S M v5 v9 <| fun M11 => wGet S M11 u0 11 4 fun v12 => wC 1 fun v14 => wA v12 v14 fun v16 => wC 20 fun v18 => wD iRem v16 v18 fun v20 => wPut S M11 u0 11 4 v20 fun M22 => wC 20 fun v23 => wGet S M22 u0 11 5 fun v25 => wC 1 fun v27 => wA v25 v27 fun v29 => wO min v23 v29 fun v31 => wPut S M22 u0 11 5 v31 fun M33 => post M33)
set_option maxHeartbeats 4000000 in
set_option maxRecDepth 100000 in
theorem c_X11_keepPast (l : Launch) (D : va_G) (G : Gt) (S : Sh) (M : Mm) (xl0 : Int) (post : Mm → Prop) (h : wp_X11_keepPast S M xl0 post) : Met l yX11_keepPast (cw_X11_keepPast :: gw) RM_X11_keepPast (va_Pc [.ref (adr G xl0)] (fun U => KN D G U ∧ Wd D G S M U.heap)) (QV D G S post) 0 0 (aG G) := by
  refine Met.ofW (cc := cX11_keepPast) (maxL := 1) (ret := none) (by decide) rfl ?_
  intro p e s m args below meth c s₁ B hml hv
  obtain ⟨rfl, hK, hP⟩ := hv
  have hx := B.exec
  have hb := B.bytes
  have hr := B.returns
  have hts := atoms_spec (ws := cw_X11_keepPast :: gw) B.pre
  have hown : s.vm.findClass RX11 = some m.cls := findClass_of_methodNamed B.named
  have hlocks := B.notSynchronized
  have hS : va_S (aG G) s.heap s.heap [] := va_S.rf
  have C : Cx p s m ([.ref (adr G xl0)] : List Value).toArray meth c D G cX11_keepPast 1 none (cw_X11_keepPast :: gw) RX11 := ⟨hx, hb, hr, hlocks, hml, hown, hts, hK⟩
  have hl := lv_entry ([.ref (adr G xl0)]) (n := 1) (Nat.le_of_ble_eq_true rfl)
  rw [lg_entry_eq]
  generalize (lg_sl ([.ref (adr G xl0)]) ++ List.replicate (1 - (lg_sl ([.ref (adr G xl0)])).length) Slot.unset).toArray = ls at hl ⊢
  have hl : lv_has ls 1 [(0, .ref (adr G xl0))] := hl
  unfold wp_X11_keepPast at h
  refine lv_aload_n hx hb dX11_keepPast_0 rfl (lv_at hl 0 rfl) ?_
  refine r_getr (C := RX11) (T := TX11) (N := 16) hx hb hts (fun w h => List.mem_cons_of_mem _ (iX11 w h)) hown hK hP rfl (by decide) rfl 3 (by decide) (hts _ (List.mem_cons_of_mem _ kw_494)) (fun _ h9 => h9) dX11_keepPast_1 (by decide) h (fun x2 h => ?_)
  refine lv_aload_n hx hb dX11_keepPast_4 rfl (lv_at hl 0 rfl) ?_
  refine r_geti (C := RX11) (T := TX11) (N := 16) hx hb hts (fun w h => List.mem_cons_of_mem _ (iX11 w h)) hown hK hP rfl (by decide) rfl 4 (by decide) (hts _ (List.mem_cons_of_mem _ kw_495)) (fun _ h9 => h9) dX11_keepPast_5 (by decide) h (fun z4 h => ?_)
  refine r_aald18 hx hb hK hP dX11_keepPast_8 h (fun x6 h => ?_)
  refine lv_aload_n hx hb dX11_keepPast_9 rfl (lv_at hl 0 rfl) ?_
  refine r_getr (C := RX11) (T := TX11) (N := 16) hx hb hts (fun w h => List.mem_cons_of_mem _ (iX11 w h)) hown hK hP rfl (by decide) rfl 1 (by decide) (hts _ (List.mem_cons_of_mem _ kw_492)) (fun _ h9 => h9) dX11_keepPast_10 (by decide) h (fun x8 h => ?_)
  refine r_getrN (C := RX4) (T := TX4) (N := 10) hx hb hts (fun w h => List.mem_cons_of_mem _ (iX4 w h)) hown hK hP rfl (by decide) rfl 1 (by decide) (nw_73 hK) (fun _ h9 => h9) dX11_keepPast_13 (by decide) h (fun x10 h => ?_)
  refine q_Vv hx hb hml hown hts hK hP hS (c_X5_become l D G S _ x6 x10 _ h.2) ⟨callB_of 1 hts (gw_good kw_735) rfl rfl rfl (hts _ (List.mem_cons_of_mem _ kw_5)) (hts _ (List.mem_cons_of_mem _ kw_732)) hd_X5_become ⟨Nat.le_of_ble_eq_true rfl, Nat.le_of_ble_eq_true rfl⟩, (hts _ (List.mem_cons_of_mem _ kw_733)), (hts _ (List.mem_cons_of_mem _ kw_734))⟩ h.1 (ci := 5) rfl (by decide) rfl hl.1 rfl (lv_room (Nat.le_of_ble_eq_true rfl)) dX11_keepPast_16 ⟨Nat.zero_le _, Nat.zero_le _⟩ (fun M11 H locs h hP hS => ?_)
  refine lv_aload_n hx hb dX11_keepPast_19 rfl (lv_at hl 0 rfl) ?_
  refine lv_aload_n hx hb dX11_keepPast_20 rfl (lv_at hl 0 rfl) ?_
  refine r_geti (C := RX11) (T := TX11) (N := 16) hx hb hts (fun w h => List.mem_cons_of_mem _ (iX11 w h)) hown hK hP rfl (by decide) rfl 4 (by decide) (hts _ (List.mem_cons_of_mem _ kw_495)) (fun _ h9 => h9) dX11_keepPast_21 (by decide) h (fun z13 h => ?_)
  refine r_iconst hx hb dX11_keepPast_24 (by decide) h (fun z15 h => ?_)
  refine r_iadd hx hb dX11_keepPast_25 h (fun z17 h => ?_)
  refine r_bipush hx hb dX11_keepPast_26 (by decide) h (fun z19 h => ?_)
  refine r_irem hx hb dX11_keepPast_28 h (fun z21 h => ?_)
  refine r_puti (C := RX11) (T := TX11) (N := 16) hx hb hts (fun w h => List.mem_cons_of_mem _ (iX11 w h)) hown hK hP tyX11 tyX11_ok nmX11 hS rfl (by decide) rfl 4 (by decide) (hts _ (List.mem_cons_of_mem _ kw_495)) (fun _ h9 => h9) rfl (tyX11_ok 4 (by decide)) rfl rfl dX11_keepPast_29 (by decide) h (fun M22 H locs h hP hS => ?_)
  refine lv_aload_n hx hb dX11_keepPast_32 rfl (lv_at hl 0 rfl) ?_
  refine r_bipush hx hb dX11_keepPast_33 (by decide) h (fun z24 h => ?_)
  refine lv_aload_n hx hb dX11_keepPast_35 rfl (lv_at hl 0 rfl) ?_
  refine r_geti (C := RX11) (T := TX11) (N := 16) hx hb hts (fun w h => List.mem_cons_of_mem _ (iX11 w h)) hown hK hP rfl (by decide) rfl 5 (by decide) (hts _ (List.mem_cons_of_mem _ kw_496)) (fun _ h9 => h9) dX11_keepPast_36 (by decide) h (fun z26 h => ?_)
  refine r_iconst hx hb dX11_keepPast_39 (by decide) h (fun z28 h => ?_)
  refine r_iadd hx hb dX11_keepPast_40 h (fun z30 h => ?_)
  refine r_mmin hx hb (hml.trans hl.1.symm) hown (hts _ (List.mem_cons_of_mem _ kw_922)) (hts _ (List.mem_cons_of_mem _ kw_719)) (hts _ (List.mem_cons_of_mem _ kw_19)) (hts _ (List.mem_cons_of_mem _ kw_720)) (Nat.le_of_ble_eq_true rfl) (Nat.le_of_ble_eq_true rfl) (Nat.zero_le _) (Nat.zero_le _) dX11_keepPast_41 h (fun z32 h => ?_)
  refine r_puti (C := RX11) (T := TX11) (N := 16) hx hb hts (fun w h => List.mem_cons_of_mem _ (iX11 w h)) hown hK hP tyX11 tyX11_ok nmX11 hS rfl (by decide) rfl 5 (by decide) (hts _ (List.mem_cons_of_mem _ kw_496)) (fun _ h9 => h9) rfl (tyX11_ok 5 (by decide)) rfl rfl dX11_keepPast_44 (by decide) h (fun M33 H locs h hP hS => ?_)
  exact r_vret hx hb hr hlocks hP hS dX11_keepPast_47 h
/-! TurningMilk$State.stands(I)Z -/
abbrev RM_X5_stands : Room := { frames := 1, cells := 0, slots := 0, locals := 40 }
def cw_X5_stands : Cond := Cond.code yX5_stands cX5_stands 2 (Option.some FieldType.boolean)
theorem hd_X5_stands : yX5_stands.cls ≠ "java/lang/invoke/MethodHandle" ∧ yX5_stands.cls ≠ "java/lang/invoke/VarHandle" ∧ (parseMethodDescriptor yX5_stands.desc).map (fun d => d.parameters.length) = some 1 := by decide +kernel
theorem dX5_stands_0 : decode cX5_stands 0 = .ok (.aload_n 0, 1) := by decide +kernel
theorem dX5_stands_1 : decode cX5_stands 1 = .ok (.getfield 21, 3) := by decide +kernel
theorem dX5_stands_4 : decode cX5_stands 4 = .ok (.iload_n 1, 1) := by decide +kernel
theorem dX5_stands_5 : decode cX5_stands 5 = .ok (.iaload, 1) := by decide +kernel
theorem dX5_stands_6 : decode cX5_stands 6 = .ok (.iconst (-1), 1) := by decide +kernel
theorem dX5_stands_7 : decode cX5_stands 7 = .ok (.if_icmp .eq 7, 3) := by decide +kernel
theorem dX5_stands_10 : decode cX5_stands 10 = .ok (.iconst 1, 1) := by decide +kernel
theorem dX5_stands_11 : decode cX5_stands 11 = .ok (.goto 4, 3) := by decide +kernel
theorem dX5_stands_14 : decode cX5_stands 14 = .ok (.iconst 0, 1) := by decide +kernel
theorem dX5_stands_15 : decode cX5_stands 15 = .ok (.ireturn, 1) := by decide +kernel
def wp_X5_stands (S : Sh) (M : Mm) (u0 : Int) (u1 : Int) (post : Int → Mm → Prop) : Prop := wGetR S M u0 5 5 fun v1 => wLd S M v1 14 u1 fun v3 => wC (-1) fun v5 => wIf (v3 = v5) (wC 0 fun v7 => (v7 = 0 ∨ v7 = 1) ∧ post v7 M) (wC 1 fun v9 => (v9 = 0 ∨ v9 = 1) ∧ post v9 M)
set_option maxHeartbeats 4000000 in
set_option maxRecDepth 100000 in
theorem c_X5_stands (l : Launch) (D : va_G) (G : Gt) (S : Sh) (M : Mm) (xl0 : Int) (zl1 : Int32) (post : Int → Mm → Prop) (h : wp_X5_stands S M xl0 zl1.toInt post) : Met l yX5_stands (cw_X5_stands :: gw) RM_X5_stands (va_Pc [.ref (adr G xl0), .int zl1] (fun U => KN D G U ∧ Wd D G S M U.heap)) (QI D G S post) 0 0 (aG G) := by
  refine Met.ofW (cc := cX5_stands) (maxL := 2) (ret := (some .boolean)) (by decide) rfl ?_
  intro p e s m args below meth c s₁ B hml hv
  obtain ⟨rfl, hK, hP⟩ := hv
  have hx := B.exec
  have hb := B.bytes
  have hr := B.returns
  have hts := atoms_spec (ws := cw_X5_stands :: gw) B.pre
  have hown : s.vm.findClass RX5 = some m.cls := findClass_of_methodNamed B.named
  have hlocks := B.notSynchronized
  have hS : va_S (aG G) s.heap s.heap [] := va_S.rf
  have C : Cx p s m ([.ref (adr G xl0), .int zl1] : List Value).toArray meth c D G cX5_stands 2 (some .boolean) (cw_X5_stands :: gw) RX5 := ⟨hx, hb, hr, hlocks, hml, hown, hts, hK⟩
  have hl := lv_entry ([.ref (adr G xl0), .int zl1]) (n := 2) (Nat.le_of_ble_eq_true rfl)
  rw [lg_entry_eq]
  generalize (lg_sl ([.ref (adr G xl0), .int zl1]) ++ List.replicate (2 - (lg_sl ([.ref (adr G xl0), .int zl1])).length) Slot.unset).toArray = ls at hl ⊢
  have hl : lv_has ls 2 [(0, .ref (adr G xl0)), (1, .int zl1)] := hl
  unfold wp_X5_stands at h
  refine lv_aload_n hx hb dX5_stands_0 rfl (lv_at hl 0 rfl) ?_
  refine r_getr (C := RX5) (T := TX5) (N := 9) hx hb hts (fun w h => List.mem_cons_of_mem _ (iX5 w h)) hown hK hP rfl (by decide) rfl 5 (by decide) (hts _ (List.mem_cons_of_mem _ kw_197)) (fun _ h9 => h9) dX5_stands_1 (by decide) h (fun x2 h => ?_)
  refine lv_iload_n hx hb dX5_stands_4 rfl (lv_at hl 1 rfl) ?_
  refine r_iald hx hb hK hP dX5_stands_5 h (fun z4 h => ?_)
  refine r_iconst hx hb dX5_stands_6 (by decide) h (fun z6 h => ?_)
  refine r_icmp_eq (tgt := 14) hx hb dX5_stands_7 (by decide) h (fun h => ?_) (fun h => ?_)
  · refine r_iconst hx hb dX5_stands_14 (by decide) h (fun z8 h => ?_)
    exact r_zret hx hb hr hlocks hP hS dX5_stands_15 h
  · refine r_iconst hx hb dX5_stands_10 (by decide) h (fun z10 h => ?_)
    refine lv_goto (tgt := 15) hx hb dX5_stands_11 (by decide) ?_
    exact r_zret hx hb hr hlocks hP hS dX5_stands_15 h
/-! TurningMilk$Told.heatIn(I)I -/
abbrev RM_X8_heatIn : Room := { frames := 1, cells := 0, slots := 0, locals := 40 }
def cw_X8_heatIn : Cond := Cond.code yX8_heatIn cX8_heatIn 4 (Option.some FieldType.int)
theorem hd_X8_heatIn : yX8_heatIn.cls ≠ "java/lang/invoke/MethodHandle" ∧ yX8_heatIn.cls ≠ "java/lang/invoke/VarHandle" ∧ (parseMethodDescriptor yX8_heatIn.desc).map (fun d => d.parameters.length) = some 1 := by decide +kernel
theorem dX8_heatIn_0 : decode cX8_heatIn 0 = .ok (.iconst 0, 1) := by decide +kernel
theorem dX8_heatIn_1 : decode cX8_heatIn 1 = .ok (.istore_n 2, 1) := by decide +kernel
theorem dX8_heatIn_2 : decode cX8_heatIn 2 = .ok (.iconst 0, 1) := by decide +kernel
theorem dX8_heatIn_3 : decode cX8_heatIn 3 = .ok (.istore_n 3, 1) := by decide +kernel
theorem dX8_heatIn_4 : decode cX8_heatIn 4 = .ok (.iload_n 3, 1) := by decide +kernel
theorem dX8_heatIn_5 : decode cX8_heatIn 5 = .ok (.aload_n 0, 1) := by decide +kernel
theorem dX8_heatIn_6 : decode cX8_heatIn 6 = .ok (.getfield 64, 3) := by decide +kernel
theorem dX8_heatIn_9 : decode cX8_heatIn 9 = .ok (.if_icmp .ge 38, 3) := by decide +kernel
theorem dX8_heatIn_12 : decode cX8_heatIn 12 = .ok (.aload_n 0, 1) := by decide +kernel
theorem dX8_heatIn_13 : decode cX8_heatIn 13 = .ok (.getfield 24, 3) := by decide +kernel
theorem dX8_heatIn_16 : decode cX8_heatIn 16 = .ok (.iload_n 3, 1) := by decide +kernel
theorem dX8_heatIn_17 : decode cX8_heatIn 17 = .ok (.iaload, 1) := by decide +kernel
theorem dX8_heatIn_18 : decode cX8_heatIn 18 = .ok (.iload_n 1, 1) := by decide +kernel
theorem dX8_heatIn_19 : decode cX8_heatIn 19 = .ok (.if_icmp .gt 22, 3) := by decide +kernel
theorem dX8_heatIn_22 : decode cX8_heatIn 22 = .ok (.iload_n 1, 1) := by decide +kernel
theorem dX8_heatIn_23 : decode cX8_heatIn 23 = .ok (.aload_n 0, 1) := by decide +kernel
theorem dX8_heatIn_24 : decode cX8_heatIn 24 = .ok (.getfield 27, 3) := by decide +kernel
theorem dX8_heatIn_27 : decode cX8_heatIn 27 = .ok (.iload_n 3, 1) := by decide +kernel
theorem dX8_heatIn_28 : decode cX8_heatIn 28 = .ok (.iaload, 1) := by decide +kernel
theorem dX8_heatIn_29 : decode cX8_heatIn 29 = .ok (.if_icmp .gt 12, 3) := by decide +kernel
theorem dX8_heatIn_32 : decode cX8_heatIn 32 = .ok (.iload_n 2, 1) := by decide +kernel
theorem dX8_heatIn_33 : decode cX8_heatIn 33 = .ok (.aload_n 0, 1) := by decide +kernel
theorem dX8_heatIn_34 : decode cX8_heatIn 34 = .ok (.getfield 30, 3) := by decide +kernel
theorem dX8_heatIn_37 : decode cX8_heatIn 37 = .ok (.iload_n 3, 1) := by decide +kernel
theorem dX8_heatIn_38 : decode cX8_heatIn 38 = .ok (.iaload, 1) := by decide +kernel
theorem dX8_heatIn_39 : decode cX8_heatIn 39 = .ok (.iadd, 1) := by decide +kernel
theorem dX8_heatIn_40 : decode cX8_heatIn 40 = .ok (.istore_n 2, 1) := by decide +kernel
theorem dX8_heatIn_41 : decode cX8_heatIn 41 = .ok (.iinc 3 1, 3) := by decide +kernel
theorem dX8_heatIn_44 : decode cX8_heatIn 44 = .ok (.goto (-40), 3) := by decide +kernel
theorem dX8_heatIn_47 : decode cX8_heatIn 47 = .ok (.iload_n 2, 1) := by decide +kernel
theorem dX8_heatIn_48 : decode cX8_heatIn 48 = .ok (.ireturn, 1) := by decide +kernel
def wp_X8_heatIn_41 (S : Sh) (k4 : Int → Int → Int → Int → Mm → Prop) (post : Int → Mm → Prop) (u0 : Int) (u1 : Int) (u2 : Int) (u3 : Int) (M : Mm) : Prop := wA u3 1 fun v1 => k4 u0 u1 u2 v1 M
def wp_X8_heatIn_4 (S : Sh) (post : Int → Mm → Prop) : Nat → Int → Int → Int → Int → Mm → Prop
  | 0, _, _, _, _, _ => False
  | n + 1, u0, u1, u2, u3, M => wGet S M u0 8 6 fun v3 => wIf (v3 ≤ u3) (post u2 M) (wGetR S M u0 8 12 fun v5 => wLd S M v5 14 u3 fun v7 => wIf (u1 < v7) (wp_X8_heatIn_41 S (fun a0 a1 a2 a3 M => wp_X8_heatIn_4 S post n a0 a1 a2 a3 M) post u0 u1 u2 u3 M) (wGetR S M u0 8 13 fun v9 => wLd S M v9 14 u3 fun v11 => wIf (v11 < u1) (wp_X8_heatIn_41 S (fun a0 a1 a2 a3 M => wp_X8_heatIn_4 S post n a0 a1 a2 a3 M) post u0 u1 u2 u3 M) (wGetR S M u0 8 14 fun v13 => wLd S M v13 14 u3 fun v15 => wA u2 v15 fun v17 => wp_X8_heatIn_41 S (fun a0 a1 a2 a3 M => wp_X8_heatIn_4 S post n a0 a1 a2 a3 M) post u0 u1 v17 u3 M)))
def wp_X8_heatIn (S : Sh) (M : Mm) (u0 : Int) (u1 : Int) (post : Int → Mm → Prop) : Prop := wC 0 fun v19 => wC 0 fun v21 => ∃ n9 : Nat, wp_X8_heatIn_4 S post n9 u0 u1 v19 v21 M
set_option maxHeartbeats 4000000 in
set_option maxRecDepth 100000 in
theorem t_X8_heatIn_41 {p : Program} {l : Launch} {e : Env} {s : State} {m : MethodId} {args : Array Value} {below : List Frame} {meth : Method} {c : Code} {D : va_G} {G : Gt} {S : Sh} {post : Int → Mm → Prop} {k4 : Int → Int → Int → Int → Mm → Prop} (C : Cx p s m args meth c D G cX8_heatIn 4 (some .int) (cw_X8_heatIn :: gw) RX8) (hk4 : ∀ (y0 : Int) (y1 : Int32) (y2 : Int32) (y3 : Int32) (M : Mm) (H : Heap) (locs : List Loc) (ls : Array Slot), Wd D G S M H → va_S (aG G) s.heap H locs → lv_has ls 4 [(0, .ref (adr G y0)), (1, .int y1), (2, .int y2), (3, .int y3)] → k4 y0 y1.toInt y2.toInt y3.toInt M → W p l e RM_X8_heatIn s m args below meth c H locs 0 0 (MQ below (QI D G S post) args s 0 0 (aG G)) (F0 m 4 ls [])) : ∀ (xl0 : Int) (zl1 : Int32) (zl2 : Int32) (zl3 : Int32) (M : Mm) (H : Heap) (locs : List Loc) (ls : Array Slot), Wd D G S M H → va_S (aG G) s.heap H locs → lv_has ls 4 [(0, .ref (adr G xl0)), (1, .int zl1), (2, .int zl2), (3, .int zl3)] → wp_X8_heatIn_41 S k4 post xl0 zl1.toInt zl2.toInt zl3.toInt  M → W p l e RM_X8_heatIn s m args below meth c H locs 0 0 (MQ below (QI D G S post) args s 0 0 (aG G)) (F0 m 41 ls []) := by
  obtain ⟨hx, hb, hr, hlocks, hml, hown, hts, hK⟩ := id C
  intro xl0 zl1 zl2 zl3 M H locs ls hP hS hl h
  unfold wp_X8_heatIn_41 at h
  refine r_iinc hx hb (fun z2 => [(3, .int z2), (0, .ref (adr G xl0)), (1, .int zl1), (2, .int zl2)]) dX8_heatIn_41 (by decide) hl (k := 3) rfl (by decide) (fun _ => rfl) h (fun z2 ls hl h => ?_)
  refine lv_goto (tgt := 4) hx hb dX8_heatIn_44 (by decide) ?_
  exact hk4 xl0 zl1 zl2 z2 _ _ _ _ hP hS (lv_sub hl [1, 2, 3, 0] rfl) h
set_option maxHeartbeats 4000000 in
set_option maxRecDepth 100000 in
theorem t_X8_heatIn_4 {p : Program} {l : Launch} {e : Env} {s : State} {m : MethodId} {args : Array Value} {below : List Frame} {meth : Method} {c : Code} {D : va_G} {G : Gt} {S : Sh} {post : Int → Mm → Prop} (C : Cx p s m args meth c D G cX8_heatIn 4 (some .int) (cw_X8_heatIn :: gw) RX8) : ∀ (n : Nat) (xl0 : Int) (zl1 : Int32) (zl2 : Int32) (zl3 : Int32) (M : Mm) (H : Heap) (locs : List Loc) (ls : Array Slot), Wd D G S M H → va_S (aG G) s.heap H locs → lv_has ls 4 [(0, .ref (adr G xl0)), (1, .int zl1), (2, .int zl2), (3, .int zl3)] → wp_X8_heatIn_4 S post n xl0 zl1.toInt zl2.toInt zl3.toInt  M → W p l e RM_X8_heatIn s m args below meth c H locs 0 0 (MQ below (QI D G S post) args s 0 0 (aG G)) (F0 m 4 ls []) := by
  obtain ⟨hx, hb, hr, hlocks, hml, hown, hts, hK⟩ := id C
  intro n
  induction n with
  | zero => intro xl0 zl1 zl2 zl3 M H locs ls hP hS hl h; exact h.elim
  | succ n ih =>
    intro xl0 zl1 zl2 zl3 M H locs ls hP hS hl h
    unfold wp_X8_heatIn_4 at h
    refine lv_iload_n hx hb dX8_heatIn_4 rfl (lv_at hl 3 rfl) ?_
    refine lv_aload_n hx hb dX8_heatIn_5 rfl (lv_at hl 0 rfl) ?_
    refine r_geti (C := RX8) (T := TX8) (N := 19) hx hb hts (fun w h => List.mem_cons_of_mem _ (iX8 w h)) hown hK hP rfl (by decide) rfl 6 (by decide) (hts _ (List.mem_cons_of_mem _ kw_93)) (fun _ h9 => h9) dX8_heatIn_6 (by decide) h (fun z4 h => ?_)
    refine r_icmp_ge (tgt := 47) hx hb dX8_heatIn_9 (by decide) h (fun h => ?_) (fun h => ?_)
    · refine lv_iload_n hx hb dX8_heatIn_47 rfl (lv_at hl 2 rfl) ?_
      exact r_iret hx hb hr hlocks hP hS dX8_heatIn_48 h
    · refine lv_aload_n hx hb dX8_heatIn_12 rfl (lv_at hl 0 rfl) ?_
      refine r_getr (C := RX8) (T := TX8) (N := 19) hx hb hts (fun w h => List.mem_cons_of_mem _ (iX8 w h)) hown hK hP rfl (by decide) rfl 12 (by decide) (hts _ (List.mem_cons_of_mem _ kw_111)) (fun _ h9 => h9) dX8_heatIn_13 (by decide) h (fun x6 h => ?_)
      refine lv_iload_n hx hb dX8_heatIn_16 rfl (lv_at hl 3 rfl) ?_
      refine r_iald hx hb hK hP dX8_heatIn_17 h (fun z8 h => ?_)
      refine lv_iload_n hx hb dX8_heatIn_18 rfl (lv_at hl 1 rfl) ?_
      refine r_icmp_gt (tgt := 41) hx hb dX8_heatIn_19 (by decide) h (fun h => ?_) (fun h => ?_)
      · exact t_X8_heatIn_41 C ih xl0 zl1 zl2 zl3 _ _ _ _ hP hS (lv_sub hl [0, 1, 2, 3] rfl) h
      · refine lv_iload_n hx hb dX8_heatIn_22 rfl (lv_at hl 1 rfl) ?_
        refine lv_aload_n hx hb dX8_heatIn_23 rfl (lv_at hl 0 rfl) ?_
        refine r_getr (C := RX8) (T := TX8) (N := 19) hx hb hts (fun w h => List.mem_cons_of_mem _ (iX8 w h)) hown hK hP rfl (by decide) rfl 13 (by decide) (hts _ (List.mem_cons_of_mem _ kw_113)) (fun _ h9 => h9) dX8_heatIn_24 (by decide) h (fun x10 h => ?_)
        refine lv_iload_n hx hb dX8_heatIn_27 rfl (lv_at hl 3 rfl) ?_
        refine r_iald hx hb hK hP dX8_heatIn_28 h (fun z12 h => ?_)
        refine r_icmp_gt (tgt := 41) hx hb dX8_heatIn_29 (by decide) h (fun h => ?_) (fun h => ?_)
        · exact t_X8_heatIn_41 C ih xl0 zl1 zl2 zl3 _ _ _ _ hP hS (lv_sub hl [0, 1, 2, 3] rfl) h
        · refine lv_iload_n hx hb dX8_heatIn_32 rfl (lv_at hl 2 rfl) ?_
          refine lv_aload_n hx hb dX8_heatIn_33 rfl (lv_at hl 0 rfl) ?_
          refine r_getr (C := RX8) (T := TX8) (N := 19) hx hb hts (fun w h => List.mem_cons_of_mem _ (iX8 w h)) hown hK hP rfl (by decide) rfl 14 (by decide) (hts _ (List.mem_cons_of_mem _ kw_115)) (fun _ h9 => h9) dX8_heatIn_34 (by decide) h (fun x14 h => ?_)
          refine lv_iload_n hx hb dX8_heatIn_37 rfl (lv_at hl 3 rfl) ?_
          refine r_iald hx hb hK hP dX8_heatIn_38 h (fun z16 h => ?_)
          refine r_iadd hx hb dX8_heatIn_39 h (fun z18 h => ?_)
          refine lv_istore_n (lv' := [(2, .int z18), (0, .ref (adr G xl0)), (1, .int zl1), (3, .int zl3)]) hx hb dX8_heatIn_40 rfl hl (by decide) rfl (fun ls hl => ?_)
          exact t_X8_heatIn_41 C ih xl0 zl1 z18 zl3 _ _ _ _ hP hS (lv_sub hl [1, 2, 0, 3] rfl) h
set_option maxHeartbeats 4000000 in
set_option maxRecDepth 100000 in
theorem c_X8_heatIn (l : Launch) (D : va_G) (G : Gt) (S : Sh) (M : Mm) (xl0 : Int) (zl1 : Int32) (post : Int → Mm → Prop) (h : wp_X8_heatIn S M xl0 zl1.toInt post) : Met l yX8_heatIn (cw_X8_heatIn :: gw) RM_X8_heatIn (va_Pc [.ref (adr G xl0), .int zl1] (fun U => KN D G U ∧ Wd D G S M U.heap)) (QI D G S post) 0 0 (aG G) := by
  refine Met.ofW (cc := cX8_heatIn) (maxL := 4) (ret := (some .int)) (by decide) rfl ?_
  intro p e s m args below meth c s₁ B hml hv
  obtain ⟨rfl, hK, hP⟩ := hv
  have hx := B.exec
  have hb := B.bytes
  have hr := B.returns
  have hts := atoms_spec (ws := cw_X8_heatIn :: gw) B.pre
  have hown : s.vm.findClass RX8 = some m.cls := findClass_of_methodNamed B.named
  have hlocks := B.notSynchronized
  have hS : va_S (aG G) s.heap s.heap [] := va_S.rf
  have C : Cx p s m ([.ref (adr G xl0), .int zl1] : List Value).toArray meth c D G cX8_heatIn 4 (some .int) (cw_X8_heatIn :: gw) RX8 := ⟨hx, hb, hr, hlocks, hml, hown, hts, hK⟩
  have hl := lv_entry ([.ref (adr G xl0), .int zl1]) (n := 4) (Nat.le_of_ble_eq_true rfl)
  rw [lg_entry_eq]
  generalize (lg_sl ([.ref (adr G xl0), .int zl1]) ++ List.replicate (4 - (lg_sl ([.ref (adr G xl0), .int zl1])).length) Slot.unset).toArray = ls at hl ⊢
  have hl : lv_has ls 4 [(0, .ref (adr G xl0)), (1, .int zl1)] := hl
  unfold wp_X8_heatIn at h
  refine r_iconst hx hb dX8_heatIn_0 (by decide) h (fun z20 h => ?_)
  refine lv_istore_n (lv' := [(2, .int z20), (0, .ref (adr G xl0)), (1, .int zl1)]) hx hb dX8_heatIn_1 rfl hl (by decide) rfl (fun ls hl => ?_)
  refine r_iconst hx hb dX8_heatIn_2 (by decide) h (fun z22 h => ?_)
  refine lv_istore_n (lv' := [(3, .int z22), (2, .int z20), (0, .ref (adr G xl0)), (1, .int zl1)]) hx hb dX8_heatIn_3 rfl hl (by decide) rfl (fun ls hl => ?_)
  obtain ⟨n9, h⟩ := h
  exact t_X8_heatIn_4 C n9 xl0 zl1 z20 z22 _ _ _ _ hP hS (lv_sub hl [2, 3, 1, 0] rfl) h
/-! TurningMilk$Turning.heatIn(I)I -/
abbrev RM_X10_heatIn : Room := { frames := 2, cells := 0, slots := 0, locals := 63 }
def cw_X10_heatIn : Cond := Cond.code yX10_heatIn cX10_heatIn 2 (Option.some FieldType.int)
theorem hd_X10_heatIn : yX10_heatIn.cls ≠ "java/lang/invoke/MethodHandle" ∧ yX10_heatIn.cls ≠ "java/lang/invoke/VarHandle" ∧ (parseMethodDescriptor yX10_heatIn.desc).map (fun d => d.parameters.length) = some 1 := by decide +kernel
theorem dX10_heatIn_0 : decode cX10_heatIn 0 = .ok (.aload_n 0, 1) := by decide +kernel
theorem dX10_heatIn_1 : decode cX10_heatIn 1 = .ok (.getfield 69, 3) := by decide +kernel
theorem dX10_heatIn_4 : decode cX10_heatIn 4 = .ok (.ifCond .eq 7, 3) := by decide +kernel
theorem dX10_heatIn_7 : decode cX10_heatIn 7 = .ok (.iconst 0, 1) := by decide +kernel
theorem dX10_heatIn_8 : decode cX10_heatIn 8 = .ok (.goto 11, 3) := by decide +kernel
theorem dX10_heatIn_11 : decode cX10_heatIn 11 = .ok (.aload_n 0, 1) := by decide +kernel
theorem dX10_heatIn_12 : decode cX10_heatIn 12 = .ok (.getfield 22, 3) := by decide +kernel
theorem dX10_heatIn_15 : decode cX10_heatIn 15 = .ok (.iload_n 1, 1) := by decide +kernel
theorem dX10_heatIn_16 : decode cX10_heatIn 16 = .ok (.invokevirtual 73, 3) := by decide +kernel
theorem dX10_heatIn_19 : decode cX10_heatIn 19 = .ok (.ireturn, 1) := by decide +kernel
def wp_X10_heatIn (S : Sh) (M : Mm) (u0 : Int) (u1 : Int) (post : Int → Mm → Prop) : Prop := wGet S M u0 10 2 fun v1 => wIf (v1 = 0) (wGetR S M u0 10 0 fun v3 => isK S v3 8 ∧ (wp_X8_heatIn S M v3 u1 <| fun v6 M5 => post v6 M5)) (wC 0 fun v8 => post v8 M)
set_option maxHeartbeats 4000000 in
set_option maxRecDepth 100000 in
theorem c_X10_heatIn (l : Launch) (D : va_G) (G : Gt) (S : Sh) (M : Mm) (xl0 : Int) (zl1 : Int32) (post : Int → Mm → Prop) (h : wp_X10_heatIn S M xl0 zl1.toInt post) : Met l yX10_heatIn (cw_X10_heatIn :: gw) RM_X10_heatIn (va_Pc [.ref (adr G xl0), .int zl1] (fun U => KN D G U ∧ Wd D G S M U.heap)) (QI D G S post) 0 0 (aG G) := by
  refine Met.ofW (cc := cX10_heatIn) (maxL := 2) (ret := (some .int)) (by decide) rfl ?_
  intro p e s m args below meth c s₁ B hml hv
  obtain ⟨rfl, hK, hP⟩ := hv
  have hx := B.exec
  have hb := B.bytes
  have hr := B.returns
  have hts := atoms_spec (ws := cw_X10_heatIn :: gw) B.pre
  have hown : s.vm.findClass RX10 = some m.cls := findClass_of_methodNamed B.named
  have hlocks := B.notSynchronized
  have hS : va_S (aG G) s.heap s.heap [] := va_S.rf
  have C : Cx p s m ([.ref (adr G xl0), .int zl1] : List Value).toArray meth c D G cX10_heatIn 2 (some .int) (cw_X10_heatIn :: gw) RX10 := ⟨hx, hb, hr, hlocks, hml, hown, hts, hK⟩
  have hl := lv_entry ([.ref (adr G xl0), .int zl1]) (n := 2) (Nat.le_of_ble_eq_true rfl)
  rw [lg_entry_eq]
  generalize (lg_sl ([.ref (adr G xl0), .int zl1]) ++ List.replicate (2 - (lg_sl ([.ref (adr G xl0), .int zl1])).length) Slot.unset).toArray = ls at hl ⊢
  have hl : lv_has ls 2 [(0, .ref (adr G xl0)), (1, .int zl1)] := hl
  unfold wp_X10_heatIn at h
  refine lv_aload_n hx hb dX10_heatIn_0 rfl (lv_at hl 0 rfl) ?_
  refine r_geti (C := RX10) (T := TX10) (N := 12) hx hb hts (fun w h => List.mem_cons_of_mem _ (iX10 w h)) hown hK hP rfl (by decide) rfl 2 (by decide) (hts _ (List.mem_cons_of_mem _ kw_348)) (fun _ h9 => h9) dX10_heatIn_1 (by decide) h (fun z2 h => ?_)
  refine r_if_eq (tgt := 11) hx hb dX10_heatIn_4 (by decide) h (fun h => ?_) (fun h => ?_)
  · refine lv_aload_n hx hb dX10_heatIn_11 rfl (lv_at hl 0 rfl) ?_
    refine r_getr (C := RX10) (T := TX10) (N := 12) hx hb hts (fun w h => List.mem_cons_of_mem _ (iX10 w h)) hown hK hP rfl (by decide) rfl 0 (by decide) (hts _ (List.mem_cons_of_mem _ kw_344)) (fun _ h9 => h9) dX10_heatIn_12 (by decide) h (fun x4 h => ?_)
    refine lv_iload_n hx hb dX10_heatIn_15 rfl (lv_at hl 1 rfl) ?_
    refine q_Vi hx hb hml hown hts hK hP hS (c_X8_heatIn l D G S _ x4 zl1 _ h.2) ⟨callB_of 1 hts (gw_good kw_942) rfl rfl rfl (hts _ (List.mem_cons_of_mem _ kw_4)) (hts _ (List.mem_cons_of_mem _ kw_939)) hd_X8_heatIn ⟨Nat.le_of_ble_eq_true rfl, Nat.le_of_ble_eq_true rfl⟩, (hts _ (List.mem_cons_of_mem _ kw_940)), (hts _ (List.mem_cons_of_mem _ kw_941))⟩ h.1 (ci := 8) rfl (by decide) rfl hl.1 rfl (lv_room (Nat.le_of_ble_eq_true rfl)) dX10_heatIn_16 ⟨Nat.zero_le _, Nat.zero_le _⟩ (fun z7 M5 H locs h hP hS => ?_)
    exact r_iret hx hb hr hlocks hP hS dX10_heatIn_19 h
  · refine r_iconst hx hb dX10_heatIn_7 (by decide) h (fun z9 h => ?_)
    refine lv_goto (tgt := 19) hx hb dX10_heatIn_8 (by decide) ?_
    exact r_iret hx hb hr hlocks hP hS dX10_heatIn_19 h
/-! TurningMilk$State.isAtPlace(I)Z -/
abbrev RM_X5_isAtPlace : Room := { frames := 1, cells := 0, slots := 0, locals := 40 }
def cw_X5_isAtPlace : Cond := Cond.code yX5_isAtPlace cX5_isAtPlace 2 (Option.some FieldType.boolean)
theorem hd_X5_isAtPlace : yX5_isAtPlace.cls ≠ "java/lang/invoke/MethodHandle" ∧ yX5_isAtPlace.cls ≠ "java/lang/invoke/VarHandle" ∧ (parseMethodDescriptor yX5_isAtPlace.desc).map (fun d => d.parameters.length) = some 1 := by decide +kernel
theorem dX5_isAtPlace_0 : decode cX5_isAtPlace 0 = .ok (.aload_n 0, 1) := by decide +kernel
theorem dX5_isAtPlace_1 : decode cX5_isAtPlace 1 = .ok (.getfield 15, 3) := by decide +kernel
theorem dX5_isAtPlace_4 : decode cX5_isAtPlace 4 = .ok (.iload_n 1, 1) := by decide +kernel
theorem dX5_isAtPlace_5 : decode cX5_isAtPlace 5 = .ok (.iaload, 1) := by decide +kernel
theorem dX5_isAtPlace_6 : decode cX5_isAtPlace 6 = .ok (.ifCond .ne 7, 3) := by decide +kernel
theorem dX5_isAtPlace_9 : decode cX5_isAtPlace 9 = .ok (.iconst 1, 1) := by decide +kernel
theorem dX5_isAtPlace_10 : decode cX5_isAtPlace 10 = .ok (.goto 4, 3) := by decide +kernel
theorem dX5_isAtPlace_13 : decode cX5_isAtPlace 13 = .ok (.iconst 0, 1) := by decide +kernel
theorem dX5_isAtPlace_14 : decode cX5_isAtPlace 14 = .ok (.ireturn, 1) := by decide +kernel
def wp_X5_isAtPlace (S : Sh) (M : Mm) (u0 : Int) (u1 : Int) (post : Int → Mm → Prop) : Prop := wGetR S M u0 5 3 fun v1 => wLd S M v1 14 u1 fun v3 => wIf (¬ v3 = 0) (wC 0 fun v5 => (v5 = 0 ∨ v5 = 1) ∧ post v5 M) (wC 1 fun v7 => (v7 = 0 ∨ v7 = 1) ∧ post v7 M)
set_option maxHeartbeats 4000000 in
set_option maxRecDepth 100000 in
theorem c_X5_isAtPlace (l : Launch) (D : va_G) (G : Gt) (S : Sh) (M : Mm) (xl0 : Int) (zl1 : Int32) (post : Int → Mm → Prop) (h : wp_X5_isAtPlace S M xl0 zl1.toInt post) : Met l yX5_isAtPlace (cw_X5_isAtPlace :: gw) RM_X5_isAtPlace (va_Pc [.ref (adr G xl0), .int zl1] (fun U => KN D G U ∧ Wd D G S M U.heap)) (QI D G S post) 0 0 (aG G) := by
  refine Met.ofW (cc := cX5_isAtPlace) (maxL := 2) (ret := (some .boolean)) (by decide) rfl ?_
  intro p e s m args below meth c s₁ B hml hv
  obtain ⟨rfl, hK, hP⟩ := hv
  have hx := B.exec
  have hb := B.bytes
  have hr := B.returns
  have hts := atoms_spec (ws := cw_X5_isAtPlace :: gw) B.pre
  have hown : s.vm.findClass RX5 = some m.cls := findClass_of_methodNamed B.named
  have hlocks := B.notSynchronized
  have hS : va_S (aG G) s.heap s.heap [] := va_S.rf
  have C : Cx p s m ([.ref (adr G xl0), .int zl1] : List Value).toArray meth c D G cX5_isAtPlace 2 (some .boolean) (cw_X5_isAtPlace :: gw) RX5 := ⟨hx, hb, hr, hlocks, hml, hown, hts, hK⟩
  have hl := lv_entry ([.ref (adr G xl0), .int zl1]) (n := 2) (Nat.le_of_ble_eq_true rfl)
  rw [lg_entry_eq]
  generalize (lg_sl ([.ref (adr G xl0), .int zl1]) ++ List.replicate (2 - (lg_sl ([.ref (adr G xl0), .int zl1])).length) Slot.unset).toArray = ls at hl ⊢
  have hl : lv_has ls 2 [(0, .ref (adr G xl0)), (1, .int zl1)] := hl
  unfold wp_X5_isAtPlace at h
  refine lv_aload_n hx hb dX5_isAtPlace_0 rfl (lv_at hl 0 rfl) ?_
  refine r_getr (C := RX5) (T := TX5) (N := 9) hx hb hts (fun w h => List.mem_cons_of_mem _ (iX5 w h)) hown hK hP rfl (by decide) rfl 3 (by decide) (hts _ (List.mem_cons_of_mem _ kw_189)) (fun _ h9 => h9) dX5_isAtPlace_1 (by decide) h (fun x2 h => ?_)
  refine lv_iload_n hx hb dX5_isAtPlace_4 rfl (lv_at hl 1 rfl) ?_
  refine r_iald hx hb hK hP dX5_isAtPlace_5 h (fun z4 h => ?_)
  refine r_if_ne (tgt := 13) hx hb dX5_isAtPlace_6 (by decide) h (fun h => ?_) (fun h => ?_)
  · refine r_iconst hx hb dX5_isAtPlace_13 (by decide) h (fun z6 h => ?_)
    exact r_zret hx hb hr hlocks hP hS dX5_isAtPlace_14 h
  · refine r_iconst hx hb dX5_isAtPlace_9 (by decide) h (fun z8 h => ?_)
    refine lv_goto (tgt := 14) hx hb dX5_isAtPlace_10 (by decide) ?_
    exact r_zret hx hb hr hlocks hP hS dX5_isAtPlace_14 h
/-! TurningMilk$State.howManyHeld(I)I -/
abbrev RM_X5_howManyHeld : Room := { frames := 2, cells := 0, slots := 0, locals := 63 }
def cw_X5_howManyHeld : Cond := Cond.code yX5_howManyHeld cX5_howManyHeld 2 (Option.some FieldType.int)
theorem hd_X5_howManyHeld : yX5_howManyHeld.cls ≠ "java/lang/invoke/MethodHandle" ∧ yX5_howManyHeld.cls ≠ "java/lang/invoke/VarHandle" ∧ (parseMethodDescriptor yX5_howManyHeld.desc).map (fun d => d.parameters.length) = some 1 := by decide +kernel
theorem dX5_howManyHeld_0 : decode cX5_howManyHeld 0 = .ok (.aload_n 0, 1) := by decide +kernel
theorem dX5_howManyHeld_1 : decode cX5_howManyHeld 1 = .ok (.iload_n 1, 1) := by decide +kernel
theorem dX5_howManyHeld_2 : decode cX5_howManyHeld 2 = .ok (.invokevirtual 52, 3) := by decide +kernel
theorem dX5_howManyHeld_5 : decode cX5_howManyHeld 5 = .ok (.invokestatic 56, 3) := by decide +kernel
theorem dX5_howManyHeld_8 : decode cX5_howManyHeld 8 = .ok (.ireturn, 1) := by decide +kernel
def wp_X5_howManyHeld (S : Sh) (M : Mm) (u0 : Int) (u1 : Int) (post : Int → Mm → Prop) : Prop := isK S u0 5 ∧ (wp_X5_heldBits S M u0 u1 <| fun v2 M1 => wp_J6_bitCount_0f7a4 S M1 v2 <| fun v5 M4 => post v5 M4)
set_option maxHeartbeats 4000000 in
set_option maxRecDepth 100000 in
theorem c_X5_howManyHeld (l : Launch) (D : va_G) (G : Gt) (S : Sh) (M : Mm) (xl0 : Int) (zl1 : Int32) (post : Int → Mm → Prop) (h : wp_X5_howManyHeld S M xl0 zl1.toInt post) : Met l yX5_howManyHeld (cw_X5_howManyHeld :: gw) RM_X5_howManyHeld (va_Pc [.ref (adr G xl0), .int zl1] (fun U => KN D G U ∧ Wd D G S M U.heap)) (QI D G S post) 0 0 (aG G) := by
  refine Met.ofW (cc := cX5_howManyHeld) (maxL := 2) (ret := (some .int)) (by decide) rfl ?_
  intro p e s m args below meth c s₁ B hml hv
  obtain ⟨rfl, hK, hP⟩ := hv
  have hx := B.exec
  have hb := B.bytes
  have hr := B.returns
  have hts := atoms_spec (ws := cw_X5_howManyHeld :: gw) B.pre
  have hown : s.vm.findClass RX5 = some m.cls := findClass_of_methodNamed B.named
  have hlocks := B.notSynchronized
  have hS : va_S (aG G) s.heap s.heap [] := va_S.rf
  have C : Cx p s m ([.ref (adr G xl0), .int zl1] : List Value).toArray meth c D G cX5_howManyHeld 2 (some .int) (cw_X5_howManyHeld :: gw) RX5 := ⟨hx, hb, hr, hlocks, hml, hown, hts, hK⟩
  have hl := lv_entry ([.ref (adr G xl0), .int zl1]) (n := 2) (Nat.le_of_ble_eq_true rfl)
  rw [lg_entry_eq]
  generalize (lg_sl ([.ref (adr G xl0), .int zl1]) ++ List.replicate (2 - (lg_sl ([.ref (adr G xl0), .int zl1])).length) Slot.unset).toArray = ls at hl ⊢
  have hl : lv_has ls 2 [(0, .ref (adr G xl0)), (1, .int zl1)] := hl
  unfold wp_X5_howManyHeld at h
  refine lv_aload_n hx hb dX5_howManyHeld_0 rfl (lv_at hl 0 rfl) ?_
  refine lv_iload_n hx hb dX5_howManyHeld_1 rfl (lv_at hl 1 rfl) ?_
  refine q_Vi hx hb hml hown hts hK hP hS (c_X5_heldBits l D G S _ xl0 zl1 _ h.2) ⟨callB_of 1 hts (gw_good kw_885) rfl rfl rfl (hts _ (List.mem_cons_of_mem _ kw_5)) (hts _ (List.mem_cons_of_mem _ kw_956)) hd_X5_heldBits ⟨Nat.le_of_ble_eq_true rfl, Nat.le_of_ble_eq_true rfl⟩, (hts _ (List.mem_cons_of_mem _ kw_883)), (hts _ (List.mem_cons_of_mem _ kw_884))⟩ h.1 (ci := 5) rfl (by decide) rfl hl.1 rfl (lv_room (Nat.le_of_ble_eq_true rfl)) dX5_howManyHeld_2 ⟨Nat.zero_le _, Nat.zero_le _⟩ (fun z3 M1 H locs h hP hS => ?_)
  refine q_Si hx hb hml hown hts hK hP hS (c_J6_bitCount_0f7a4 l D G S _ z3 _ h) ⟨callB_of 1 hts (gw_good kw_959) rfl rfl rfl (hts _ (List.mem_cons_of_mem _ kw_21)) (hts _ (List.mem_cons_of_mem _ kw_957)) hd_J6_bitCount_0f7a4 ⟨Nat.le_of_ble_eq_true rfl, Nat.le_of_ble_eq_true rfl⟩, (hts _ (List.mem_cons_of_mem _ kw_958))⟩ rfl hl.1 rfl (lv_room (Nat.le_of_ble_eq_true rfl)) dX5_howManyHeld_5 ⟨Nat.zero_le _, Nat.zero_le _⟩ (fun z6 M4 H locs h hP hS => ?_)
  exact r_iret hx hb hr hlocks hP hS dX5_howManyHeld_8 h
/-! TurningMilk$Turning.see(LTurningMilk$State;II)V -/
abbrev RM_X10_see : Room := { frames := 3, cells := 0, slots := 0, locals := 84 }
def cw_X10_see : Cond := Cond.code yX10_see cX10_see 4 (Option.none : Option FieldType)
theorem hd_X10_see : yX10_see.cls ≠ "java/lang/invoke/MethodHandle" ∧ yX10_see.cls ≠ "java/lang/invoke/VarHandle" ∧ (parseMethodDescriptor yX10_see.desc).map (fun d => d.parameters.length) = some 3 := by decide +kernel
theorem dX10_see_0 : decode cX10_see 0 = .ok (.aload_n 0, 1) := by decide +kernel
theorem dX10_see_1 : decode cX10_see 1 = .ok (.iload_n 2, 1) := by decide +kernel
theorem dX10_see_2 : decode cX10_see 2 = .ok (.putfield 46, 3) := by decide +kernel
theorem dX10_see_5 : decode cX10_see 5 = .ok (.aload_n 0, 1) := by decide +kernel
theorem dX10_see_6 : decode cX10_see 6 = .ok (.iload_n 3, 1) := by decide +kernel
theorem dX10_see_7 : decode cX10_see 7 = .ok (.putfield 55, 3) := by decide +kernel
theorem dX10_see_10 : decode cX10_see 10 = .ok (.aload_n 0, 1) := by decide +kernel
theorem dX10_see_11 : decode cX10_see 11 = .ok (.aload_n 1, 1) := by decide +kernel
theorem dX10_see_12 : decode cX10_see 12 = .ok (.getfield 77, 3) := by decide +kernel
theorem dX10_see_15 : decode cX10_see 15 = .ok (.iload_n 3, 1) := by decide +kernel
theorem dX10_see_16 : decode cX10_see 16 = .ok (.iaload, 1) := by decide +kernel
theorem dX10_see_17 : decode cX10_see 17 = .ok (.putfield 57, 3) := by decide +kernel
theorem dX10_see_20 : decode cX10_see 20 = .ok (.aload_n 0, 1) := by decide +kernel
theorem dX10_see_21 : decode cX10_see 21 = .ok (.aload_n 1, 1) := by decide +kernel
theorem dX10_see_22 : decode cX10_see 22 = .ok (.getfield 82, 3) := by decide +kernel
theorem dX10_see_25 : decode cX10_see 25 = .ok (.iload_n 2, 1) := by decide +kernel
theorem dX10_see_26 : decode cX10_see 26 = .ok (.iaload, 1) := by decide +kernel
theorem dX10_see_27 : decode cX10_see 27 = .ok (.putfield 53, 3) := by decide +kernel
theorem dX10_see_30 : decode cX10_see 30 = .ok (.aload_n 0, 1) := by decide +kernel
theorem dX10_see_31 : decode cX10_see 31 = .ok (.aload_n 1, 1) := by decide +kernel
theorem dX10_see_32 : decode cX10_see 32 = .ok (.getfield 85, 3) := by decide +kernel
theorem dX10_see_35 : decode cX10_see 35 = .ok (.putfield 61, 3) := by decide +kernel
theorem dX10_see_38 : decode cX10_see 38 = .ok (.aload_n 0, 1) := by decide +kernel
theorem dX10_see_39 : decode cX10_see 39 = .ok (.aload_n 1, 1) := by decide +kernel
theorem dX10_see_40 : decode cX10_see 40 = .ok (.iload_n 2, 1) := by decide +kernel
theorem dX10_see_41 : decode cX10_see 41 = .ok (.invokevirtual 86, 3) := by decide +kernel
theorem dX10_see_44 : decode cX10_see 44 = .ok (.ifCond .eq 7, 3) := by decide +kernel
theorem dX10_see_47 : decode cX10_see 47 = .ok (.iconst 0, 1) := by decide +kernel
theorem dX10_see_48 : decode cX10_see 48 = .ok (.goto 4, 3) := by decide +kernel
theorem dX10_see_51 : decode cX10_see 51 = .ok (.iconst 1, 1) := by decide +kernel
theorem dX10_see_52 : decode cX10_see 52 = .ok (.putfield 63, 3) := by decide +kernel
theorem dX10_see_55 : decode cX10_see 55 = .ok (.aload_n 0, 1) := by decide +kernel
theorem dX10_see_56 : decode cX10_see 56 = .ok (.aload_n 1, 1) := by decide +kernel
theorem dX10_see_57 : decode cX10_see 57 = .ok (.iload_n 2, 1) := by decide +kernel
theorem dX10_see_58 : decode cX10_see 58 = .ok (.invokevirtual 90, 3) := by decide +kernel
theorem dX10_see_61 : decode cX10_see 61 = .ok (.putfield 65, 3) := by decide +kernel
theorem dX10_see_64 : decode cX10_see 64 = .ok (.return_, 1) := by decide +kernel
def wp_X10_see_52 (S : Sh) (post : Mm → Prop) (u0 : Int) (u1 : Int) (u2 : Int) (t0 : Int) (t1 : Int) (M : Mm) : Prop := wPut S M t0 10 10 t1 fun M1 => isK S u1 5 ∧ (wp_X5_howManyHeld S M1 u1 u2 <| fun v3 M2 => wPut S M2 u0 10 11 v3 fun M5 => post M5)
def wp_X10_see (S : Sh) (M : Mm) (u0 : Int) (u1 : Int) (u2 : Int) (u3 : Int) (post : Mm → Prop) : Prop := wPut S M u0 10 4 u2 fun M6 => wPut S M6 u0 10 5 u3 fun M7 => wGetR S M7 u1 5 7 fun v8 => wLd S M7 v8 14 u3 fun v10 => wPut S M7 u0 10 6 v10 fun M12 => wGetR S M12 u1 5 4 fun v13 => wLd S M12 v13 14 u2 fun v15 => wPut S M12 u0 10 7 v15 fun M17 => wGet S M17 u1 5 0 fun v18 => wPut S M17 u0 10 8 v18 fun M20 => isK S u1 5 ∧ (wp_X5_isAtPlace S M20 u1 u2 <| fun v22 M21 => wIf (v22 = 0) (wC 1 fun v24 => wp_X10_see_52 S post u0 u1 u2 u0 v24 M21) (wC 0 fun v26 => wp_X10_see_52 S post u0 u1 u2 u0 v26 M21))
set_option maxHeartbeats 4000000 in
set_option maxRecDepth 100000 in
theorem t_X10_see_52 {p : Program} {l : Launch} {e : Env} {s : State} {m : MethodId} {args : Array Value} {below : List Frame} {meth : Method} {c : Code} {D : va_G} {G : Gt} {S : Sh} {post : Mm → Prop} (C : Cx p s m args meth c D G cX10_see 4 none (cw_X10_see :: gw) RX10) : ∀ (xl0 : Int) (xl1 : Int) (zl2 : Int32) (xs0 : Int) (zs1 : Int32) (M : Mm) (H : Heap) (locs : List Loc) (ls : Array Slot), Wd D G S M H → va_S (aG G) s.heap H locs → lv_has ls 4 [(0, .ref (adr G xl0)), (1, .ref (adr G xl1)), (2, .int zl2)] → wp_X10_see_52 S post xl0 xl1 zl2.toInt xs0 zs1.toInt M → W p l e RM_X10_see s m args below meth c H locs 0 0 (MQ below (QV D G S post) args s 0 0 (aG G)) (F0 m 52 ls [.int zs1, .ref (adr G xs0)]) := by
  obtain ⟨hx, hb, hr, hlocks, hml, hown, hts, hK⟩ := id C
  intro xl0 xl1 zl2 xs0 zs1 M H locs ls hP hS hl h
  unfold wp_X10_see_52 at h
  refine r_puti (C := RX10) (T := TX10) (N := 12) hx hb hts (fun w h => List.mem_cons_of_mem _ (iX10 w h)) hown hK hP tyX10 tyX10_ok nmX10 hS rfl (by decide) rfl 10 (by decide) (hts _ (List.mem_cons_of_mem _ kw_362)) (fun _ h9 => h9) rfl (tyX10_ok 10 (by decide)) rfl rfl dX10_see_52 (by decide) h (fun M1 H locs h hP hS => ?_)
  refine lv_aload_n hx hb dX10_see_55 rfl (lv_at hl 0 rfl) ?_
  refine lv_aload_n hx hb dX10_see_56 rfl (lv_at hl 1 rfl) ?_
  refine lv_iload_n hx hb dX10_see_57 rfl (lv_at hl 2 rfl) ?_
  refine q_Vi hx hb hml hown hts hK hP hS (c_X5_howManyHeld l D G S _ xl1 zl2 _ h.2) ⟨callB_of 1 hts (gw_good kw_955) rfl rfl rfl (hts _ (List.mem_cons_of_mem _ kw_5)) (hts _ (List.mem_cons_of_mem _ kw_952)) hd_X5_howManyHeld ⟨Nat.le_of_ble_eq_true rfl, Nat.le_of_ble_eq_true rfl⟩, (hts _ (List.mem_cons_of_mem _ kw_953)), (hts _ (List.mem_cons_of_mem _ kw_954))⟩ h.1 (ci := 5) rfl (by decide) rfl hl.1 rfl (lv_room (Nat.le_of_ble_eq_true rfl)) dX10_see_58 ⟨Nat.zero_le _, Nat.zero_le _⟩ (fun z4 M2 H locs h hP hS => ?_)
  refine r_puti (C := RX10) (T := TX10) (N := 12) hx hb hts (fun w h => List.mem_cons_of_mem _ (iX10 w h)) hown hK hP tyX10 tyX10_ok nmX10 hS rfl (by decide) rfl 11 (by decide) (hts _ (List.mem_cons_of_mem _ kw_365)) (fun _ h9 => h9) rfl (tyX10_ok 11 (by decide)) rfl rfl dX10_see_61 (by decide) h (fun M5 H locs h hP hS => ?_)
  exact r_vret hx hb hr hlocks hP hS dX10_see_64 h
set_option maxHeartbeats 4000000 in
set_option maxRecDepth 100000 in
theorem c_X10_see (l : Launch) (D : va_G) (G : Gt) (S : Sh) (M : Mm) (xl0 : Int) (xl1 : Int) (zl2 : Int32) (zl3 : Int32) (post : Mm → Prop) (h : wp_X10_see S M xl0 xl1 zl2.toInt zl3.toInt post) : Met l yX10_see (cw_X10_see :: gw) RM_X10_see (va_Pc [.ref (adr G xl0), .ref (adr G xl1), .int zl2, .int zl3] (fun U => KN D G U ∧ Wd D G S M U.heap)) (QV D G S post) 0 0 (aG G) := by
  refine Met.ofW (cc := cX10_see) (maxL := 4) (ret := none) (by decide) rfl ?_
  intro p e s m args below meth c s₁ B hml hv
  obtain ⟨rfl, hK, hP⟩ := hv
  have hx := B.exec
  have hb := B.bytes
  have hr := B.returns
  have hts := atoms_spec (ws := cw_X10_see :: gw) B.pre
  have hown : s.vm.findClass RX10 = some m.cls := findClass_of_methodNamed B.named
  have hlocks := B.notSynchronized
  have hS : va_S (aG G) s.heap s.heap [] := va_S.rf
  have C : Cx p s m ([.ref (adr G xl0), .ref (adr G xl1), .int zl2, .int zl3] : List Value).toArray meth c D G cX10_see 4 none (cw_X10_see :: gw) RX10 := ⟨hx, hb, hr, hlocks, hml, hown, hts, hK⟩
  have hl := lv_entry ([.ref (adr G xl0), .ref (adr G xl1), .int zl2, .int zl3]) (n := 4) (Nat.le_of_ble_eq_true rfl)
  rw [lg_entry_eq]
  generalize (lg_sl ([.ref (adr G xl0), .ref (adr G xl1), .int zl2, .int zl3]) ++ List.replicate (4 - (lg_sl ([.ref (adr G xl0), .ref (adr G xl1), .int zl2, .int zl3])).length) Slot.unset).toArray = ls at hl ⊢
  have hl : lv_has ls 4 [(0, .ref (adr G xl0)), (1, .ref (adr G xl1)), (2, .int zl2), (3, .int zl3)] := hl
  unfold wp_X10_see at h
  refine lv_aload_n hx hb dX10_see_0 rfl (lv_at hl 0 rfl) ?_
  refine lv_iload_n hx hb dX10_see_1 rfl (lv_at hl 2 rfl) ?_
  refine r_puti (C := RX10) (T := TX10) (N := 12) hx hb hts (fun w h => List.mem_cons_of_mem _ (iX10 w h)) hown hK hP tyX10 tyX10_ok nmX10 hS rfl (by decide) rfl 4 (by decide) (hts _ (List.mem_cons_of_mem _ kw_351)) (fun _ h9 => h9) rfl (tyX10_ok 4 (by decide)) rfl rfl dX10_see_2 (by decide) h (fun M6 H locs h hP hS => ?_)
  refine lv_aload_n hx hb dX10_see_5 rfl (lv_at hl 0 rfl) ?_
  refine lv_iload_n hx hb dX10_see_6 rfl (lv_at hl 3 rfl) ?_
  refine r_puti (C := RX10) (T := TX10) (N := 12) hx hb hts (fun w h => List.mem_cons_of_mem _ (iX10 w h)) hown hK hP tyX10 tyX10_ok nmX10 hS rfl (by decide) rfl 5 (by decide) (hts _ (List.mem_cons_of_mem _ kw_352)) (fun _ h9 => h9) rfl (tyX10_ok 5 (by decide)) rfl rfl dX10_see_7 (by decide) h (fun M7 H locs h hP hS => ?_)
  refine lv_aload_n hx hb dX10_see_10 rfl (lv_at hl 0 rfl) ?_
  refine lv_aload_n hx hb dX10_see_11 rfl (lv_at hl 1 rfl) ?_
  refine r_getrN (C := RX5) (T := TX5) (N := 9) hx hb hts (fun w h => List.mem_cons_of_mem _ (iX5 w h)) hown hK hP rfl (by decide) rfl 7 (by decide) (nw_65 hK) (fun _ h9 => h9) dX10_see_12 (by decide) h (fun x9 h => ?_)
  refine lv_iload_n hx hb dX10_see_15 rfl (lv_at hl 3 rfl) ?_
  refine r_iald hx hb hK hP dX10_see_16 h (fun z11 h => ?_)
  refine r_puti (C := RX10) (T := TX10) (N := 12) hx hb hts (fun w h => List.mem_cons_of_mem _ (iX10 w h)) hown hK hP tyX10 tyX10_ok nmX10 hS rfl (by decide) rfl 6 (by decide) (hts _ (List.mem_cons_of_mem _ kw_354)) (fun _ h9 => h9) rfl (tyX10_ok 6 (by decide)) rfl rfl dX10_see_17 (by decide) h (fun M12 H locs h hP hS => ?_)
  refine lv_aload_n hx hb dX10_see_20 rfl (lv_at hl 0 rfl) ?_
  refine lv_aload_n hx hb dX10_see_21 rfl (lv_at hl 1 rfl) ?_
  refine r_getrN (C := RX5) (T := TX5) (N := 9) hx hb hts (fun w h => List.mem_cons_of_mem _ (iX5 w h)) hown hK hP rfl (by decide) rfl 4 (by decide) (nw_57 hK) (fun _ h9 => h9) dX10_see_22 (by decide) h (fun x14 h => ?_)
  refine lv_iload_n hx hb dX10_see_25 rfl (lv_at hl 2 rfl) ?_
  refine r_iald hx hb hK hP dX10_see_26 h (fun z16 h => ?_)
  refine r_puti (C := RX10) (T := TX10) (N := 12) hx hb hts (fun w h => List.mem_cons_of_mem _ (iX10 w h)) hown hK hP tyX10 tyX10_ok nmX10 hS rfl (by decide) rfl 7 (by decide) (hts _ (List.mem_cons_of_mem _ kw_358)) (fun _ h9 => h9) rfl (tyX10_ok 7 (by decide)) rfl rfl dX10_see_27 (by decide) h (fun M17 H locs h hP hS => ?_)
  refine lv_aload_n hx hb dX10_see_30 rfl (lv_at hl 0 rfl) ?_
  refine lv_aload_n hx hb dX10_see_31 rfl (lv_at hl 1 rfl) ?_
  refine r_getiN (C := RX5) (T := TX5) (N := 9) hx hb hts (fun w h => List.mem_cons_of_mem _ (iX5 w h)) hown hK hP rfl (by decide) rfl 0 (by decide) (nw_48 hK) (fun _ h9 => h9) dX10_see_32 (by decide) h (fun z19 h => ?_)
  refine r_puti (C := RX10) (T := TX10) (N := 12) hx hb hts (fun w h => List.mem_cons_of_mem _ (iX10 w h)) hown hK hP tyX10 tyX10_ok nmX10 hS rfl (by decide) rfl 8 (by decide) (hts _ (List.mem_cons_of_mem _ kw_359)) (fun _ h9 => h9) rfl (tyX10_ok 8 (by decide)) rfl rfl dX10_see_35 (by decide) h (fun M20 H locs h hP hS => ?_)
  refine lv_aload_n hx hb dX10_see_38 rfl (lv_at hl 0 rfl) ?_
  refine lv_aload_n hx hb dX10_see_39 rfl (lv_at hl 1 rfl) ?_
  refine lv_iload_n hx hb dX10_see_40 rfl (lv_at hl 2 rfl) ?_
  refine q_Vi hx hb hml hown hts hK hP hS (c_X5_isAtPlace l D G S _ xl1 zl2 _ h.2) ⟨callB_of 1 hts (gw_good kw_951) rfl rfl rfl (hts _ (List.mem_cons_of_mem _ kw_5)) (hts _ (List.mem_cons_of_mem _ kw_948)) hd_X5_isAtPlace ⟨Nat.le_of_ble_eq_true rfl, Nat.le_of_ble_eq_true rfl⟩, (hts _ (List.mem_cons_of_mem _ kw_949)), (hts _ (List.mem_cons_of_mem _ kw_950))⟩ h.1 (ci := 5) rfl (by decide) rfl hl.1 rfl (lv_room (Nat.le_of_ble_eq_true rfl)) dX10_see_41 ⟨Nat.zero_le _, Nat.zero_le _⟩ (fun z23 M21 H locs h hP hS => ?_)
  refine r_if_eq (tgt := 51) hx hb dX10_see_44 (by decide) h (fun h => ?_) (fun h => ?_)
  · refine r_iconst hx hb dX10_see_51 (by decide) h (fun z25 h => ?_)
    exact t_X10_see_52 C xl0 xl1 zl2 xl0 z25 _ _ _ _ hP hS (lv_sub hl [0, 1, 2] rfl) h
  · refine r_iconst hx hb dX10_see_47 (by decide) h (fun z27 h => ?_)
    refine lv_goto (tgt := 52) hx hb dX10_see_48 (by decide) ?_
    exact t_X10_see_52 C xl0 xl1 zl2 xl0 z27 _ _ _ _ hP hS (lv_sub hl [0, 1, 2] rfl) h
/-! TurningMilk$Turning.valueOf(I)J -/
abbrev RM_X10_valueOf : Room := { frames := 1, cells := 0, slots := 0, locals := 40 }
def cw_X10_valueOf : Cond := Cond.code yX10_valueOf cX10_valueOf 2 (Option.some FieldType.long)
theorem hd_X10_valueOf : yX10_valueOf.cls ≠ "java/lang/invoke/MethodHandle" ∧ yX10_valueOf.cls ≠ "java/lang/invoke/VarHandle" ∧ (parseMethodDescriptor yX10_valueOf.desc).map (fun d => d.parameters.length) = some 1 := by decide +kernel
theorem dX10_valueOf_0 : decode cX10_valueOf 0 = .ok (.bipush (-2), 2) := by decide +kernel
theorem dX10_valueOf_2 : decode cX10_valueOf 2 = .ok (.iload_n 1, 1) := by decide +kernel
theorem dX10_valueOf_3 : decode cX10_valueOf 3 = .ok (.isub, 1) := by decide +kernel
theorem dX10_valueOf_4 : decode cX10_valueOf 4 = .ok (.tableswitch 114 0 8 #[52, 58, 72, 78, 84, 90, 96, 102, 108], 52) := by decide +kernel
theorem dX10_valueOf_56 : decode cX10_valueOf 56 = .ok (.aload_n 0, 1) := by decide +kernel
theorem dX10_valueOf_57 : decode cX10_valueOf 57 = .ok (.getfield 46, 3) := by decide +kernel
theorem dX10_valueOf_60 : decode cX10_valueOf 60 = .ok (.i2l, 1) := by decide +kernel
theorem dX10_valueOf_61 : decode cX10_valueOf 61 = .ok (.lreturn, 1) := by decide +kernel
theorem dX10_valueOf_62 : decode cX10_valueOf 62 = .ok (.aload_n 0, 1) := by decide +kernel
theorem dX10_valueOf_63 : decode cX10_valueOf 63 = .ok (.getfield 22, 3) := by decide +kernel
theorem dX10_valueOf_66 : decode cX10_valueOf 66 = .ok (.getfield 49, 3) := by decide +kernel
theorem dX10_valueOf_69 : decode cX10_valueOf 69 = .ok (.aload_n 0, 1) := by decide +kernel
theorem dX10_valueOf_70 : decode cX10_valueOf 70 = .ok (.getfield 46, 3) := by decide +kernel
theorem dX10_valueOf_73 : decode cX10_valueOf 73 = .ok (.iaload, 1) := by decide +kernel
theorem dX10_valueOf_74 : decode cX10_valueOf 74 = .ok (.i2l, 1) := by decide +kernel
theorem dX10_valueOf_75 : decode cX10_valueOf 75 = .ok (.lreturn, 1) := by decide +kernel
theorem dX10_valueOf_76 : decode cX10_valueOf 76 = .ok (.aload_n 0, 1) := by decide +kernel
theorem dX10_valueOf_77 : decode cX10_valueOf 77 = .ok (.getfield 53, 3) := by decide +kernel
theorem dX10_valueOf_80 : decode cX10_valueOf 80 = .ok (.i2l, 1) := by decide +kernel
theorem dX10_valueOf_81 : decode cX10_valueOf 81 = .ok (.lreturn, 1) := by decide +kernel
theorem dX10_valueOf_82 : decode cX10_valueOf 82 = .ok (.aload_n 0, 1) := by decide +kernel
theorem dX10_valueOf_83 : decode cX10_valueOf 83 = .ok (.getfield 55, 3) := by decide +kernel
theorem dX10_valueOf_86 : decode cX10_valueOf 86 = .ok (.i2l, 1) := by decide +kernel
theorem dX10_valueOf_87 : decode cX10_valueOf 87 = .ok (.lreturn, 1) := by decide +kernel
theorem dX10_valueOf_88 : decode cX10_valueOf 88 = .ok (.aload_n 0, 1) := by decide +kernel
theorem dX10_valueOf_89 : decode cX10_valueOf 89 = .ok (.getfield 57, 3) := by decide +kernel
theorem dX10_valueOf_92 : decode cX10_valueOf 92 = .ok (.i2l, 1) := by decide +kernel
theorem dX10_valueOf_93 : decode cX10_valueOf 93 = .ok (.lreturn, 1) := by decide +kernel
theorem dX10_valueOf_94 : decode cX10_valueOf 94 = .ok (.aload_n 0, 1) := by decide +kernel
theorem dX10_valueOf_95 : decode cX10_valueOf 95 = .ok (.getfield 59, 3) := by decide +kernel
theorem dX10_valueOf_98 : decode cX10_valueOf 98 = .ok (.i2l, 1) := by decide +kernel
theorem dX10_valueOf_99 : decode cX10_valueOf 99 = .ok (.lreturn, 1) := by decide +kernel
theorem dX10_valueOf_100 : decode cX10_valueOf 100 = .ok (.aload_n 0, 1) := by decide +kernel
theorem dX10_valueOf_101 : decode cX10_valueOf 101 = .ok (.getfield 61, 3) := by decide +kernel
theorem dX10_valueOf_104 : decode cX10_valueOf 104 = .ok (.i2l, 1) := by decide +kernel
theorem dX10_valueOf_105 : decode cX10_valueOf 105 = .ok (.lreturn, 1) := by decide +kernel
theorem dX10_valueOf_106 : decode cX10_valueOf 106 = .ok (.aload_n 0, 1) := by decide +kernel
theorem dX10_valueOf_107 : decode cX10_valueOf 107 = .ok (.getfield 63, 3) := by decide +kernel
theorem dX10_valueOf_110 : decode cX10_valueOf 110 = .ok (.i2l, 1) := by decide +kernel
theorem dX10_valueOf_111 : decode cX10_valueOf 111 = .ok (.lreturn, 1) := by decide +kernel
theorem dX10_valueOf_112 : decode cX10_valueOf 112 = .ok (.aload_n 0, 1) := by decide +kernel
theorem dX10_valueOf_113 : decode cX10_valueOf 113 = .ok (.getfield 65, 3) := by decide +kernel
theorem dX10_valueOf_116 : decode cX10_valueOf 116 = .ok (.i2l, 1) := by decide +kernel
theorem dX10_valueOf_117 : decode cX10_valueOf 117 = .ok (.lreturn, 1) := by decide +kernel
theorem dX10_valueOf_118 : decode cX10_valueOf 118 = .ok (.aload_n 0, 1) := by decide +kernel
theorem dX10_valueOf_119 : decode cX10_valueOf 119 = .ok (.getfield 57, 3) := by decide +kernel
theorem dX10_valueOf_122 : decode cX10_valueOf 122 = .ok (.aload_n 0, 1) := by decide +kernel
theorem dX10_valueOf_123 : decode cX10_valueOf 123 = .ok (.getfield 22, 3) := by decide +kernel
theorem dX10_valueOf_126 : decode cX10_valueOf 126 = .ok (.getfield 67, 3) := by decide +kernel
theorem dX10_valueOf_129 : decode cX10_valueOf 129 = .ok (.if_icmp .lt 7, 3) := by decide +kernel
theorem dX10_valueOf_132 : decode cX10_valueOf 132 = .ok (.lconst 1, 1) := by decide +kernel
theorem dX10_valueOf_133 : decode cX10_valueOf 133 = .ok (.goto 4, 3) := by decide +kernel
theorem dX10_valueOf_136 : decode cX10_valueOf 136 = .ok (.lconst 0, 1) := by decide +kernel
theorem dX10_valueOf_137 : decode cX10_valueOf 137 = .ok (.lreturn, 1) := by decide +kernel
def wp_X10_valueOf (S : Sh) (M : Mm) (u0 : Int) (u1 : Int) (post : Int → Mm → Prop) : Prop := wC (-2) fun v1 => wS v1 u1 fun v3 => wIf (v3 = 0) (wGet S M u0 10 4 fun v5 => wC v5 fun v7 => post v7 M) (wIf (v3 = 1) (wGetR S M u0 10 0 fun v9 => wGetR S M v9 8 10 fun v11 => wGet S M u0 10 4 fun v13 => wLd S M v11 14 v13 fun v15 => wC v15 fun v17 => post v17 M) (wIf (v3 = 2) (wGet S M u0 10 7 fun v19 => wC v19 fun v21 => post v21 M) (wIf (v3 = 3) (wGet S M u0 10 5 fun v23 => wC v23 fun v25 => post v25 M) (wIf (v3 = 4) (wGet S M u0 10 6 fun v27 => wC v27 fun v29 => post v29 M) (wIf (v3 = 5) (wGet S M u0 10 9 fun v31 => wC v31 fun v33 => post v33 M) (wIf (v3 = 6) (wGet S M u0 10 8 fun v35 => wC v35 fun v37 => post v37 M) (wIf (v3 = 7) (wGet S M u0 10 10 fun v39 => wC v39 fun v41 => post v41 M) (wIf (v3 = 8) (wGet S M u0 10 11 fun v43 => wC v43 fun v45 => post v45 M) (wGet S M u0 10 6 fun v47 => wGetR S M u0 10 0 fun v49 => wGet S M v49 8 2 fun v51 => wIf (v47 < v51) (wC 0 fun v53 => post v53 M) (wC 1 fun v55 => post v55 M))))))))))
set_option maxHeartbeats 4000000 in
set_option maxRecDepth 100000 in
theorem c_X10_valueOf (l : Launch) (D : va_G) (G : Gt) (S : Sh) (M : Mm) (xl0 : Int) (zl1 : Int32) (post : Int → Mm → Prop) (h : wp_X10_valueOf S M xl0 zl1.toInt post) : Met l yX10_valueOf (cw_X10_valueOf :: gw) RM_X10_valueOf (va_Pc [.ref (adr G xl0), .int zl1] (fun U => KN D G U ∧ Wd D G S M U.heap)) (QL D G S post) 0 0 (aG G) := by
  refine Met.ofW (cc := cX10_valueOf) (maxL := 2) (ret := (some .long)) (by decide) rfl ?_
  intro p e s m args below meth c s₁ B hml hv
  obtain ⟨rfl, hK, hP⟩ := hv
  have hx := B.exec
  have hb := B.bytes
  have hr := B.returns
  have hts := atoms_spec (ws := cw_X10_valueOf :: gw) B.pre
  have hown : s.vm.findClass RX10 = some m.cls := findClass_of_methodNamed B.named
  have hlocks := B.notSynchronized
  have hS : va_S (aG G) s.heap s.heap [] := va_S.rf
  have C : Cx p s m ([.ref (adr G xl0), .int zl1] : List Value).toArray meth c D G cX10_valueOf 2 (some .long) (cw_X10_valueOf :: gw) RX10 := ⟨hx, hb, hr, hlocks, hml, hown, hts, hK⟩
  have hl := lv_entry ([.ref (adr G xl0), .int zl1]) (n := 2) (Nat.le_of_ble_eq_true rfl)
  rw [lg_entry_eq]
  generalize (lg_sl ([.ref (adr G xl0), .int zl1]) ++ List.replicate (2 - (lg_sl ([.ref (adr G xl0), .int zl1])).length) Slot.unset).toArray = ls at hl ⊢
  have hl : lv_has ls 2 [(0, .ref (adr G xl0)), (1, .int zl1)] := hl
  unfold wp_X10_valueOf at h
  refine r_bipush hx hb dX10_valueOf_0 (by decide) h (fun z2 h => ?_)
  refine lv_iload_n hx hb dX10_valueOf_2 rfl (lv_at hl 1 rfl) ?_
  refine r_isub hx hb dX10_valueOf_3 h (fun z4 h => ?_)
  refine sw (c := z4.toInt = 0) h (fun e0 h => ?_) (fun e0 h => ?_)
  · refine lv_tableIn (tgt := 56) hx hb dX10_valueOf_4 (by omega) (by omega) (by rw [e0]; rfl) (by decide) ?_
    refine lv_aload_n hx hb dX10_valueOf_56 rfl (lv_at hl 0 rfl) ?_
    refine r_geti (C := RX10) (T := TX10) (N := 12) hx hb hts (fun w h => List.mem_cons_of_mem _ (iX10 w h)) hown hK hP rfl (by decide) rfl 4 (by decide) (hts _ (List.mem_cons_of_mem _ kw_351)) (fun _ h9 => h9) dX10_valueOf_57 (by decide) h (fun z6 h => ?_)
    refine r_i2l hx hb dX10_valueOf_60 h (fun z8 h => ?_)
    exact r_lret hx hb hr hlocks hP hS dX10_valueOf_61 h
  · refine sw (c := z4.toInt = 1) h (fun e1 h => ?_) (fun e1 h => ?_)
    · refine lv_tableIn (tgt := 62) hx hb dX10_valueOf_4 (by omega) (by omega) (by rw [e1]; rfl) (by decide) ?_
      refine lv_aload_n hx hb dX10_valueOf_62 rfl (lv_at hl 0 rfl) ?_
      refine r_getr (C := RX10) (T := TX10) (N := 12) hx hb hts (fun w h => List.mem_cons_of_mem _ (iX10 w h)) hown hK hP rfl (by decide) rfl 0 (by decide) (hts _ (List.mem_cons_of_mem _ kw_344)) (fun _ h9 => h9) dX10_valueOf_63 (by decide) h (fun x10 h => ?_)
      refine r_getrN (C := RX8) (T := TX8) (N := 19) hx hb hts (fun w h => List.mem_cons_of_mem _ (iX8 w h)) hown hK hP rfl (by decide) rfl 10 (by decide) (nw_26 hK) (fun _ h9 => h9) dX10_valueOf_66 (by decide) h (fun x12 h => ?_)
      refine lv_aload_n hx hb dX10_valueOf_69 rfl (lv_at hl 0 rfl) ?_
      refine r_geti (C := RX10) (T := TX10) (N := 12) hx hb hts (fun w h => List.mem_cons_of_mem _ (iX10 w h)) hown hK hP rfl (by decide) rfl 4 (by decide) (hts _ (List.mem_cons_of_mem _ kw_351)) (fun _ h9 => h9) dX10_valueOf_70 (by decide) h (fun z14 h => ?_)
      refine r_iald hx hb hK hP dX10_valueOf_73 h (fun z16 h => ?_)
      refine r_i2l hx hb dX10_valueOf_74 h (fun z18 h => ?_)
      exact r_lret hx hb hr hlocks hP hS dX10_valueOf_75 h
    · refine sw (c := z4.toInt = 2) h (fun e2 h => ?_) (fun e2 h => ?_)
      · refine lv_tableIn (tgt := 76) hx hb dX10_valueOf_4 (by omega) (by omega) (by rw [e2]; rfl) (by decide) ?_
        refine lv_aload_n hx hb dX10_valueOf_76 rfl (lv_at hl 0 rfl) ?_
        refine r_geti (C := RX10) (T := TX10) (N := 12) hx hb hts (fun w h => List.mem_cons_of_mem _ (iX10 w h)) hown hK hP rfl (by decide) rfl 7 (by decide) (hts _ (List.mem_cons_of_mem _ kw_358)) (fun _ h9 => h9) dX10_valueOf_77 (by decide) h (fun z20 h => ?_)
        refine r_i2l hx hb dX10_valueOf_80 h (fun z22 h => ?_)
        exact r_lret hx hb hr hlocks hP hS dX10_valueOf_81 h
      · refine sw (c := z4.toInt = 3) h (fun e3 h => ?_) (fun e3 h => ?_)
        · refine lv_tableIn (tgt := 82) hx hb dX10_valueOf_4 (by omega) (by omega) (by rw [e3]; rfl) (by decide) ?_
          refine lv_aload_n hx hb dX10_valueOf_82 rfl (lv_at hl 0 rfl) ?_
          refine r_geti (C := RX10) (T := TX10) (N := 12) hx hb hts (fun w h => List.mem_cons_of_mem _ (iX10 w h)) hown hK hP rfl (by decide) rfl 5 (by decide) (hts _ (List.mem_cons_of_mem _ kw_352)) (fun _ h9 => h9) dX10_valueOf_83 (by decide) h (fun z24 h => ?_)
          refine r_i2l hx hb dX10_valueOf_86 h (fun z26 h => ?_)
          exact r_lret hx hb hr hlocks hP hS dX10_valueOf_87 h
        · refine sw (c := z4.toInt = 4) h (fun e4 h => ?_) (fun e4 h => ?_)
          · refine lv_tableIn (tgt := 88) hx hb dX10_valueOf_4 (by omega) (by omega) (by rw [e4]; rfl) (by decide) ?_
            refine lv_aload_n hx hb dX10_valueOf_88 rfl (lv_at hl 0 rfl) ?_
            refine r_geti (C := RX10) (T := TX10) (N := 12) hx hb hts (fun w h => List.mem_cons_of_mem _ (iX10 w h)) hown hK hP rfl (by decide) rfl 6 (by decide) (hts _ (List.mem_cons_of_mem _ kw_354)) (fun _ h9 => h9) dX10_valueOf_89 (by decide) h (fun z28 h => ?_)
            refine r_i2l hx hb dX10_valueOf_92 h (fun z30 h => ?_)
            exact r_lret hx hb hr hlocks hP hS dX10_valueOf_93 h
          · refine sw (c := z4.toInt = 5) h (fun e5 h => ?_) (fun e5 h => ?_)
            · refine lv_tableIn (tgt := 94) hx hb dX10_valueOf_4 (by omega) (by omega) (by rw [e5]; rfl) (by decide) ?_
              refine lv_aload_n hx hb dX10_valueOf_94 rfl (lv_at hl 0 rfl) ?_
              refine r_geti (C := RX10) (T := TX10) (N := 12) hx hb hts (fun w h => List.mem_cons_of_mem _ (iX10 w h)) hown hK hP rfl (by decide) rfl 9 (by decide) (hts _ (List.mem_cons_of_mem _ kw_360)) (fun _ h9 => h9) dX10_valueOf_95 (by decide) h (fun z32 h => ?_)
              refine r_i2l hx hb dX10_valueOf_98 h (fun z34 h => ?_)
              exact r_lret hx hb hr hlocks hP hS dX10_valueOf_99 h
            · refine sw (c := z4.toInt = 6) h (fun e6 h => ?_) (fun e6 h => ?_)
              · refine lv_tableIn (tgt := 100) hx hb dX10_valueOf_4 (by omega) (by omega) (by rw [e6]; rfl) (by decide) ?_
                refine lv_aload_n hx hb dX10_valueOf_100 rfl (lv_at hl 0 rfl) ?_
                refine r_geti (C := RX10) (T := TX10) (N := 12) hx hb hts (fun w h => List.mem_cons_of_mem _ (iX10 w h)) hown hK hP rfl (by decide) rfl 8 (by decide) (hts _ (List.mem_cons_of_mem _ kw_359)) (fun _ h9 => h9) dX10_valueOf_101 (by decide) h (fun z36 h => ?_)
                refine r_i2l hx hb dX10_valueOf_104 h (fun z38 h => ?_)
                exact r_lret hx hb hr hlocks hP hS dX10_valueOf_105 h
              · refine sw (c := z4.toInt = 7) h (fun e7 h => ?_) (fun e7 h => ?_)
                · refine lv_tableIn (tgt := 106) hx hb dX10_valueOf_4 (by omega) (by omega) (by rw [e7]; rfl) (by decide) ?_
                  refine lv_aload_n hx hb dX10_valueOf_106 rfl (lv_at hl 0 rfl) ?_
                  refine r_geti (C := RX10) (T := TX10) (N := 12) hx hb hts (fun w h => List.mem_cons_of_mem _ (iX10 w h)) hown hK hP rfl (by decide) rfl 10 (by decide) (hts _ (List.mem_cons_of_mem _ kw_362)) (fun _ h9 => h9) dX10_valueOf_107 (by decide) h (fun z40 h => ?_)
                  refine r_i2l hx hb dX10_valueOf_110 h (fun z42 h => ?_)
                  exact r_lret hx hb hr hlocks hP hS dX10_valueOf_111 h
                · refine sw (c := z4.toInt = 8) h (fun e8 h => ?_) (fun e8 h => ?_)
                  · refine lv_tableIn (tgt := 112) hx hb dX10_valueOf_4 (by omega) (by omega) (by rw [e8]; rfl) (by decide) ?_
                    refine lv_aload_n hx hb dX10_valueOf_112 rfl (lv_at hl 0 rfl) ?_
                    refine r_geti (C := RX10) (T := TX10) (N := 12) hx hb hts (fun w h => List.mem_cons_of_mem _ (iX10 w h)) hown hK hP rfl (by decide) rfl 11 (by decide) (hts _ (List.mem_cons_of_mem _ kw_365)) (fun _ h9 => h9) dX10_valueOf_113 (by decide) h (fun z44 h => ?_)
                    refine r_i2l hx hb dX10_valueOf_116 h (fun z46 h => ?_)
                    exact r_lret hx hb hr hlocks hP hS dX10_valueOf_117 h
                  · refine lv_tableOut (tgt := 118) hx hb dX10_valueOf_4 (by omega) (by decide) ?_
                    refine lv_aload_n hx hb dX10_valueOf_118 rfl (lv_at hl 0 rfl) ?_
                    refine r_geti (C := RX10) (T := TX10) (N := 12) hx hb hts (fun w h => List.mem_cons_of_mem _ (iX10 w h)) hown hK hP rfl (by decide) rfl 6 (by decide) (hts _ (List.mem_cons_of_mem _ kw_354)) (fun _ h9 => h9) dX10_valueOf_119 (by decide) h (fun z48 h => ?_)
                    refine lv_aload_n hx hb dX10_valueOf_122 rfl (lv_at hl 0 rfl) ?_
                    refine r_getr (C := RX10) (T := TX10) (N := 12) hx hb hts (fun w h => List.mem_cons_of_mem _ (iX10 w h)) hown hK hP rfl (by decide) rfl 0 (by decide) (hts _ (List.mem_cons_of_mem _ kw_344)) (fun _ h9 => h9) dX10_valueOf_123 (by decide) h (fun x50 h => ?_)
                    refine r_getiN (C := RX8) (T := TX8) (N := 19) hx hb hts (fun w h => List.mem_cons_of_mem _ (iX8 w h)) hown hK hP rfl (by decide) rfl 2 (by decide) (nw_8 hK) (fun _ h9 => h9) dX10_valueOf_126 (by decide) h (fun z52 h => ?_)
                    refine r_icmp_lt (tgt := 136) hx hb dX10_valueOf_129 (by decide) h (fun h => ?_) (fun h => ?_)
                    · refine r_lconst hx hb dX10_valueOf_136 (v := 0) (by decide) h (fun z54 h => ?_)
                      exact r_lret hx hb hr hlocks hP hS dX10_valueOf_137 h
                    · refine r_lconst hx hb dX10_valueOf_132 (v := 1) (by decide) h (fun z56 h => ?_)
                      refine lv_goto (tgt := 137) hx hb dX10_valueOf_133 (by decide) ?_
                      exact r_lret hx hb hr hlocks hP hS dX10_valueOf_137 h
/-! TurningMilk$Turning.joined(IJJ)J -/
abbrev RM_X10_joined : Room := { frames := 1, cells := 0, slots := 0, locals := 40 }
def cw_X10_joined : Cond := Cond.code yX10_joined cX10_joined 5 (Option.some FieldType.long)
theorem hd_X10_joined : yX10_joined.cls ≠ "java/lang/invoke/MethodHandle" ∧ yX10_joined.cls ≠ "java/lang/invoke/VarHandle" ∧ (parseMethodDescriptor yX10_joined.desc).map (fun d => d.parameters.length) = some 3 := by decide +kernel
theorem dX10_joined_0 : decode cX10_joined 0 = .ok (.iload_n 0, 1) := by decide +kernel
theorem dX10_joined_1 : decode cX10_joined 1 = .ok (.tableswitch 167 (-23) (-12) #[163, 167, 151, 139, 127, 115, 103, 99, 95, 81, 67, 63], 63) := by decide +kernel
theorem dX10_joined_64 : decode cX10_joined 64 = .ok (.lload_n 1, 1) := by decide +kernel
theorem dX10_joined_65 : decode cX10_joined 65 = .ok (.lload_n 3, 1) := by decide +kernel
theorem dX10_joined_66 : decode cX10_joined 66 = .ok (.lmul, 1) := by decide +kernel
theorem dX10_joined_67 : decode cX10_joined 67 = .ok (.lreturn, 1) := by decide +kernel
theorem dX10_joined_68 : decode cX10_joined 68 = .ok (.lload_n 3, 1) := by decide +kernel
theorem dX10_joined_69 : decode cX10_joined 69 = .ok (.lconst 0, 1) := by decide +kernel
theorem dX10_joined_70 : decode cX10_joined 70 = .ok (.lcmp, 1) := by decide +kernel
theorem dX10_joined_71 : decode cX10_joined 71 = .ok (.ifCond .ne 7, 3) := by decide +kernel
theorem dX10_joined_74 : decode cX10_joined 74 = .ok (.lconst 0, 1) := by decide +kernel
theorem dX10_joined_75 : decode cX10_joined 75 = .ok (.goto 6, 3) := by decide +kernel
theorem dX10_joined_78 : decode cX10_joined 78 = .ok (.lload_n 1, 1) := by decide +kernel
theorem dX10_joined_79 : decode cX10_joined 79 = .ok (.lload_n 3, 1) := by decide +kernel
theorem dX10_joined_80 : decode cX10_joined 80 = .ok (.ldiv, 1) := by decide +kernel
theorem dX10_joined_81 : decode cX10_joined 81 = .ok (.lreturn, 1) := by decide +kernel
theorem dX10_joined_82 : decode cX10_joined 82 = .ok (.lload_n 3, 1) := by decide +kernel
theorem dX10_joined_83 : decode cX10_joined 83 = .ok (.lconst 0, 1) := by decide +kernel
theorem dX10_joined_84 : decode cX10_joined 84 = .ok (.lcmp, 1) := by decide +kernel
theorem dX10_joined_85 : decode cX10_joined 85 = .ok (.ifCond .ne 7, 3) := by decide +kernel
theorem dX10_joined_88 : decode cX10_joined 88 = .ok (.lconst 0, 1) := by decide +kernel
theorem dX10_joined_89 : decode cX10_joined 89 = .ok (.goto 6, 3) := by decide +kernel
theorem dX10_joined_92 : decode cX10_joined 92 = .ok (.lload_n 1, 1) := by decide +kernel
theorem dX10_joined_93 : decode cX10_joined 93 = .ok (.lload_n 3, 1) := by decide +kernel
theorem dX10_joined_94 : decode cX10_joined 94 = .ok (.lrem, 1) := by decide +kernel
theorem dX10_joined_95 : decode cX10_joined 95 = .ok (.lreturn, 1) := by decide +kernel
theorem dX10_joined_96 : decode cX10_joined 96 = .ok (.lload_n 1, 1) := by decide +kernel
theorem dX10_joined_97 : decode cX10_joined 97 = .ok (.lload_n 3, 1) := by decide +kernel
theorem dX10_joined_98 : decode cX10_joined 98 = .ok (.ladd, 1) := by decide +kernel
theorem dX10_joined_99 : decode cX10_joined 99 = .ok (.lreturn, 1) := by decide +kernel
theorem dX10_joined_100 : decode cX10_joined 100 = .ok (.lload_n 1, 1) := by decide +kernel
theorem dX10_joined_101 : decode cX10_joined 101 = .ok (.lload_n 3, 1) := by decide +kernel
theorem dX10_joined_102 : decode cX10_joined 102 = .ok (.lsub, 1) := by decide +kernel
theorem dX10_joined_103 : decode cX10_joined 103 = .ok (.lreturn, 1) := by decide +kernel
theorem dX10_joined_104 : decode cX10_joined 104 = .ok (.lload_n 1, 1) := by decide +kernel
theorem dX10_joined_105 : decode cX10_joined 105 = .ok (.lload_n 3, 1) := by decide +kernel
theorem dX10_joined_106 : decode cX10_joined 106 = .ok (.lcmp, 1) := by decide +kernel
theorem dX10_joined_107 : decode cX10_joined 107 = .ok (.ifCond .ge 7, 3) := by decide +kernel
theorem dX10_joined_110 : decode cX10_joined 110 = .ok (.lconst 1, 1) := by decide +kernel
theorem dX10_joined_111 : decode cX10_joined 111 = .ok (.goto 4, 3) := by decide +kernel
theorem dX10_joined_114 : decode cX10_joined 114 = .ok (.lconst 0, 1) := by decide +kernel
theorem dX10_joined_115 : decode cX10_joined 115 = .ok (.lreturn, 1) := by decide +kernel
theorem dX10_joined_116 : decode cX10_joined 116 = .ok (.lload_n 1, 1) := by decide +kernel
theorem dX10_joined_117 : decode cX10_joined 117 = .ok (.lload_n 3, 1) := by decide +kernel
theorem dX10_joined_118 : decode cX10_joined 118 = .ok (.lcmp, 1) := by decide +kernel
theorem dX10_joined_119 : decode cX10_joined 119 = .ok (.ifCond .gt 7, 3) := by decide +kernel
theorem dX10_joined_122 : decode cX10_joined 122 = .ok (.lconst 1, 1) := by decide +kernel
theorem dX10_joined_123 : decode cX10_joined 123 = .ok (.goto 4, 3) := by decide +kernel
theorem dX10_joined_126 : decode cX10_joined 126 = .ok (.lconst 0, 1) := by decide +kernel
theorem dX10_joined_127 : decode cX10_joined 127 = .ok (.lreturn, 1) := by decide +kernel
theorem dX10_joined_128 : decode cX10_joined 128 = .ok (.lload_n 1, 1) := by decide +kernel
theorem dX10_joined_129 : decode cX10_joined 129 = .ok (.lload_n 3, 1) := by decide +kernel
theorem dX10_joined_130 : decode cX10_joined 130 = .ok (.lcmp, 1) := by decide +kernel
theorem dX10_joined_131 : decode cX10_joined 131 = .ok (.ifCond .ne 7, 3) := by decide +kernel
theorem dX10_joined_134 : decode cX10_joined 134 = .ok (.lconst 1, 1) := by decide +kernel
theorem dX10_joined_135 : decode cX10_joined 135 = .ok (.goto 4, 3) := by decide +kernel
theorem dX10_joined_138 : decode cX10_joined 138 = .ok (.lconst 0, 1) := by decide +kernel
theorem dX10_joined_139 : decode cX10_joined 139 = .ok (.lreturn, 1) := by decide +kernel
theorem dX10_joined_140 : decode cX10_joined 140 = .ok (.lload_n 1, 1) := by decide +kernel
theorem dX10_joined_141 : decode cX10_joined 141 = .ok (.lload_n 3, 1) := by decide +kernel
theorem dX10_joined_142 : decode cX10_joined 142 = .ok (.lcmp, 1) := by decide +kernel
theorem dX10_joined_143 : decode cX10_joined 143 = .ok (.ifCond .lt 7, 3) := by decide +kernel
theorem dX10_joined_146 : decode cX10_joined 146 = .ok (.lconst 1, 1) := by decide +kernel
theorem dX10_joined_147 : decode cX10_joined 147 = .ok (.goto 4, 3) := by decide +kernel
theorem dX10_joined_150 : decode cX10_joined 150 = .ok (.lconst 0, 1) := by decide +kernel
theorem dX10_joined_151 : decode cX10_joined 151 = .ok (.lreturn, 1) := by decide +kernel
theorem dX10_joined_152 : decode cX10_joined 152 = .ok (.lload_n 1, 1) := by decide +kernel
theorem dX10_joined_153 : decode cX10_joined 153 = .ok (.lload_n 3, 1) := by decide +kernel
theorem dX10_joined_154 : decode cX10_joined 154 = .ok (.lcmp, 1) := by decide +kernel
theorem dX10_joined_155 : decode cX10_joined 155 = .ok (.ifCond .le 7, 3) := by decide +kernel
theorem dX10_joined_158 : decode cX10_joined 158 = .ok (.lconst 1, 1) := by decide +kernel
theorem dX10_joined_159 : decode cX10_joined 159 = .ok (.goto 4, 3) := by decide +kernel
theorem dX10_joined_162 : decode cX10_joined 162 = .ok (.lconst 0, 1) := by decide +kernel
theorem dX10_joined_163 : decode cX10_joined 163 = .ok (.lreturn, 1) := by decide +kernel
theorem dX10_joined_164 : decode cX10_joined 164 = .ok (.lload_n 1, 1) := by decide +kernel
theorem dX10_joined_165 : decode cX10_joined 165 = .ok (.lload_n 3, 1) := by decide +kernel
theorem dX10_joined_166 : decode cX10_joined 166 = .ok (.land, 1) := by decide +kernel
theorem dX10_joined_167 : decode cX10_joined 167 = .ok (.lreturn, 1) := by decide +kernel
theorem dX10_joined_168 : decode cX10_joined 168 = .ok (.lload_n 1, 1) := by decide +kernel
theorem dX10_joined_169 : decode cX10_joined 169 = .ok (.lload_n 3, 1) := by decide +kernel
theorem dX10_joined_170 : decode cX10_joined 170 = .ok (.lor, 1) := by decide +kernel
theorem dX10_joined_171 : decode cX10_joined 171 = .ok (.lreturn, 1) := by decide +kernel
def wp_X10_joined (S : Sh) (M : Mm) (u0 : Int) (u1 : Int) (u3 : Int) (post : Int → Mm → Prop) : Prop := wIf (u0 = (-23)) (wO lAnd u1 u3 fun v1 => post v1 M) (wIf (u0 = (-22)) (wO lOr u1 u3 fun v3 => post v3 M) (wIf (u0 = (-21)) (wCmp u1 u3 fun v5 => wIf (v5 ≤ 0) (wC 0 fun v7 => post v7 M) (wC 1 fun v9 => post v9 M)) (wIf (u0 = (-20)) (wCmp u1 u3 fun v11 => wIf (v11 < 0) (wC 0 fun v13 => post v13 M) (wC 1 fun v15 => post v15 M)) (wIf (u0 = (-19)) (wCmp u1 u3 fun v17 => wIf (¬ v17 = 0) (wC 0 fun v19 => post v19 M) (wC 1 fun v21 => post v21 M)) (wIf (u0 = (-18)) (wCmp u1 u3 fun v23 => wIf (0 < v23) (wC 0 fun v25 => post v25 M) (wC 1 fun v27 => post v27 M)) (wIf (u0 = (-17)) (wCmp u1 u3 fun v29 => wIf (0 ≤ v29) (wC 0 fun v31 => post v31 M) (wC 1 fun v33 => post v33 M)) (wIf (u0 = (-16)) (wLS u1 u3 fun v35 => post v35 M) (wIf (u0 = (-15)) (wLA u1 u3 fun v37 => post v37 M) (wIf (u0 = (-14)) (wC 0 fun v39 => wCmp u3 v39 fun v41 => wIf (¬ v41 = 0) (wD lRem u1 u3 fun v43 => post v43 M) (wC 0 fun v45 => post v45 M)) (wIf (u0 = (-13)) (wC 0 fun v47 => wCmp u3 v47 fun v49 => wIf (¬ v49 = 0) (wD lDiv u1 u3 fun v51 => post v51 M) (wC 0 fun v53 => post v53 M)) (wIf (u0 = (-12)) (wLM u1 u3 fun v55 => post v55 M) (wO lOr u1 u3 fun v57 => post v57 M))))))))))))
set_option maxHeartbeats 4000000 in
set_option maxRecDepth 100000 in
theorem c_X10_joined (l : Launch) (D : va_G) (G : Gt) (S : Sh) (M : Mm) (zl0 : Int32) (zl1 : Int64) (zl3 : Int64) (post : Int → Mm → Prop) (h : wp_X10_joined S M zl0.toInt zl1.toInt zl3.toInt post) : Met l yX10_joined (cw_X10_joined :: gw) RM_X10_joined (va_Pc [.int zl0, .long zl1, .long zl3] (fun U => KN D G U ∧ Wd D G S M U.heap)) (QL D G S post) 0 0 (aG G) := by
  refine Met.ofW (cc := cX10_joined) (maxL := 5) (ret := (some .long)) (by decide) rfl ?_
  intro p e s m args below meth c s₁ B hml hv
  obtain ⟨rfl, hK, hP⟩ := hv
  have hx := B.exec
  have hb := B.bytes
  have hr := B.returns
  have hts := atoms_spec (ws := cw_X10_joined :: gw) B.pre
  have hown : s.vm.findClass RX10 = some m.cls := findClass_of_methodNamed B.named
  have hlocks := B.notSynchronized
  have hS : va_S (aG G) s.heap s.heap [] := va_S.rf
  have C : Cx p s m ([.int zl0, .long zl1, .long zl3] : List Value).toArray meth c D G cX10_joined 5 (some .long) (cw_X10_joined :: gw) RX10 := ⟨hx, hb, hr, hlocks, hml, hown, hts, hK⟩
  have hl := lv_entry ([.int zl0, .long zl1, .long zl3]) (n := 5) (Nat.le_of_ble_eq_true rfl)
  rw [lg_entry_eq]
  generalize (lg_sl ([.int zl0, .long zl1, .long zl3]) ++ List.replicate (5 - (lg_sl ([.int zl0, .long zl1, .long zl3])).length) Slot.unset).toArray = ls at hl ⊢
  have hl : lv_has ls 5 [(0, .int zl0), (1, .long zl1), (3, .long zl3)] := hl
  unfold wp_X10_joined at h
  refine lv_iload_n hx hb dX10_joined_0 rfl (lv_at hl 0 rfl) ?_
  refine sw (c := zl0.toInt = (-23)) h (fun e0 h => ?_) (fun e0 h => ?_)
  · refine lv_tableIn (tgt := 164) hx hb dX10_joined_1 (by omega) (by omega) (by rw [e0]; rfl) (by decide) ?_
    refine lv_lload_n hx hb dX10_joined_164 rfl (lv_at hl 1 rfl) ?_
    refine lv_lload_n hx hb dX10_joined_165 rfl (lv_at hl 2 rfl) ?_
    refine r_land hx hb dX10_joined_166 h (fun z2 h => ?_)
    exact r_lret hx hb hr hlocks hP hS dX10_joined_167 h
  · refine sw (c := zl0.toInt = (-22)) h (fun e1 h => ?_) (fun e1 h => ?_)
    · refine lv_tableIn (tgt := 168) hx hb dX10_joined_1 (by omega) (by omega) (by rw [e1]; rfl) (by decide) ?_
      refine lv_lload_n hx hb dX10_joined_168 rfl (lv_at hl 1 rfl) ?_
      refine lv_lload_n hx hb dX10_joined_169 rfl (lv_at hl 2 rfl) ?_
      refine r_lor hx hb dX10_joined_170 h (fun z4 h => ?_)
      exact r_lret hx hb hr hlocks hP hS dX10_joined_171 h
    · refine sw (c := zl0.toInt = (-21)) h (fun e2 h => ?_) (fun e2 h => ?_)
      · refine lv_tableIn (tgt := 152) hx hb dX10_joined_1 (by omega) (by omega) (by rw [e2]; rfl) (by decide) ?_
        refine lv_lload_n hx hb dX10_joined_152 rfl (lv_at hl 1 rfl) ?_
        refine lv_lload_n hx hb dX10_joined_153 rfl (lv_at hl 2 rfl) ?_
        refine r_lcmp hx hb dX10_joined_154 h (fun z6 h => ?_)
        refine r_if_le (tgt := 162) hx hb dX10_joined_155 (by decide) h (fun h => ?_) (fun h => ?_)
        · refine r_lconst hx hb dX10_joined_162 (v := 0) (by decide) h (fun z8 h => ?_)
          exact r_lret hx hb hr hlocks hP hS dX10_joined_163 h
        · refine r_lconst hx hb dX10_joined_158 (v := 1) (by decide) h (fun z10 h => ?_)
          refine lv_goto (tgt := 163) hx hb dX10_joined_159 (by decide) ?_
          exact r_lret hx hb hr hlocks hP hS dX10_joined_163 h
      · refine sw (c := zl0.toInt = (-20)) h (fun e3 h => ?_) (fun e3 h => ?_)
        · refine lv_tableIn (tgt := 140) hx hb dX10_joined_1 (by omega) (by omega) (by rw [e3]; rfl) (by decide) ?_
          refine lv_lload_n hx hb dX10_joined_140 rfl (lv_at hl 1 rfl) ?_
          refine lv_lload_n hx hb dX10_joined_141 rfl (lv_at hl 2 rfl) ?_
          refine r_lcmp hx hb dX10_joined_142 h (fun z12 h => ?_)
          refine r_if_lt (tgt := 150) hx hb dX10_joined_143 (by decide) h (fun h => ?_) (fun h => ?_)
          · refine r_lconst hx hb dX10_joined_150 (v := 0) (by decide) h (fun z14 h => ?_)
            exact r_lret hx hb hr hlocks hP hS dX10_joined_151 h
          · refine r_lconst hx hb dX10_joined_146 (v := 1) (by decide) h (fun z16 h => ?_)
            refine lv_goto (tgt := 151) hx hb dX10_joined_147 (by decide) ?_
            exact r_lret hx hb hr hlocks hP hS dX10_joined_151 h
        · refine sw (c := zl0.toInt = (-19)) h (fun e4 h => ?_) (fun e4 h => ?_)
          · refine lv_tableIn (tgt := 128) hx hb dX10_joined_1 (by omega) (by omega) (by rw [e4]; rfl) (by decide) ?_
            refine lv_lload_n hx hb dX10_joined_128 rfl (lv_at hl 1 rfl) ?_
            refine lv_lload_n hx hb dX10_joined_129 rfl (lv_at hl 2 rfl) ?_
            refine r_lcmp hx hb dX10_joined_130 h (fun z18 h => ?_)
            refine r_if_ne (tgt := 138) hx hb dX10_joined_131 (by decide) h (fun h => ?_) (fun h => ?_)
            · refine r_lconst hx hb dX10_joined_138 (v := 0) (by decide) h (fun z20 h => ?_)
              exact r_lret hx hb hr hlocks hP hS dX10_joined_139 h
            · refine r_lconst hx hb dX10_joined_134 (v := 1) (by decide) h (fun z22 h => ?_)
              refine lv_goto (tgt := 139) hx hb dX10_joined_135 (by decide) ?_
              exact r_lret hx hb hr hlocks hP hS dX10_joined_139 h
          · refine sw (c := zl0.toInt = (-18)) h (fun e5 h => ?_) (fun e5 h => ?_)
            · refine lv_tableIn (tgt := 116) hx hb dX10_joined_1 (by omega) (by omega) (by rw [e5]; rfl) (by decide) ?_
              refine lv_lload_n hx hb dX10_joined_116 rfl (lv_at hl 1 rfl) ?_
              refine lv_lload_n hx hb dX10_joined_117 rfl (lv_at hl 2 rfl) ?_
              refine r_lcmp hx hb dX10_joined_118 h (fun z24 h => ?_)
              refine r_if_gt (tgt := 126) hx hb dX10_joined_119 (by decide) h (fun h => ?_) (fun h => ?_)
              · refine r_lconst hx hb dX10_joined_126 (v := 0) (by decide) h (fun z26 h => ?_)
                exact r_lret hx hb hr hlocks hP hS dX10_joined_127 h
              · refine r_lconst hx hb dX10_joined_122 (v := 1) (by decide) h (fun z28 h => ?_)
                refine lv_goto (tgt := 127) hx hb dX10_joined_123 (by decide) ?_
                exact r_lret hx hb hr hlocks hP hS dX10_joined_127 h
            · refine sw (c := zl0.toInt = (-17)) h (fun e6 h => ?_) (fun e6 h => ?_)
              · refine lv_tableIn (tgt := 104) hx hb dX10_joined_1 (by omega) (by omega) (by rw [e6]; rfl) (by decide) ?_
                refine lv_lload_n hx hb dX10_joined_104 rfl (lv_at hl 1 rfl) ?_
                refine lv_lload_n hx hb dX10_joined_105 rfl (lv_at hl 2 rfl) ?_
                refine r_lcmp hx hb dX10_joined_106 h (fun z30 h => ?_)
                refine r_if_ge (tgt := 114) hx hb dX10_joined_107 (by decide) h (fun h => ?_) (fun h => ?_)
                · refine r_lconst hx hb dX10_joined_114 (v := 0) (by decide) h (fun z32 h => ?_)
                  exact r_lret hx hb hr hlocks hP hS dX10_joined_115 h
                · refine r_lconst hx hb dX10_joined_110 (v := 1) (by decide) h (fun z34 h => ?_)
                  refine lv_goto (tgt := 115) hx hb dX10_joined_111 (by decide) ?_
                  exact r_lret hx hb hr hlocks hP hS dX10_joined_115 h
              · refine sw (c := zl0.toInt = (-16)) h (fun e7 h => ?_) (fun e7 h => ?_)
                · refine lv_tableIn (tgt := 100) hx hb dX10_joined_1 (by omega) (by omega) (by rw [e7]; rfl) (by decide) ?_
                  refine lv_lload_n hx hb dX10_joined_100 rfl (lv_at hl 1 rfl) ?_
                  refine lv_lload_n hx hb dX10_joined_101 rfl (lv_at hl 2 rfl) ?_
                  refine r_lsub hx hb dX10_joined_102 h (fun z36 h => ?_)
                  exact r_lret hx hb hr hlocks hP hS dX10_joined_103 h
                · refine sw (c := zl0.toInt = (-15)) h (fun e8 h => ?_) (fun e8 h => ?_)
                  · refine lv_tableIn (tgt := 96) hx hb dX10_joined_1 (by omega) (by omega) (by rw [e8]; rfl) (by decide) ?_
                    refine lv_lload_n hx hb dX10_joined_96 rfl (lv_at hl 1 rfl) ?_
                    refine lv_lload_n hx hb dX10_joined_97 rfl (lv_at hl 2 rfl) ?_
                    refine r_ladd hx hb dX10_joined_98 h (fun z38 h => ?_)
                    exact r_lret hx hb hr hlocks hP hS dX10_joined_99 h
                  · refine sw (c := zl0.toInt = (-14)) h (fun e9 h => ?_) (fun e9 h => ?_)
                    · refine lv_tableIn (tgt := 82) hx hb dX10_joined_1 (by omega) (by omega) (by rw [e9]; rfl) (by decide) ?_
                      refine lv_lload_n hx hb dX10_joined_82 rfl (lv_at hl 2 rfl) ?_
                      refine r_lconst hx hb dX10_joined_83 (v := 0) (by decide) h (fun z40 h => ?_)
                      refine r_lcmp hx hb dX10_joined_84 h (fun z42 h => ?_)
                      refine r_if_ne (tgt := 92) hx hb dX10_joined_85 (by decide) h (fun h => ?_) (fun h => ?_)
                      · refine lv_lload_n hx hb dX10_joined_92 rfl (lv_at hl 1 rfl) ?_
                        refine lv_lload_n hx hb dX10_joined_93 rfl (lv_at hl 2 rfl) ?_
                        refine r_lrem hx hb dX10_joined_94 h (fun z44 h => ?_)
                        exact r_lret hx hb hr hlocks hP hS dX10_joined_95 h
                      · refine r_lconst hx hb dX10_joined_88 (v := 0) (by decide) h (fun z46 h => ?_)
                        refine lv_goto (tgt := 95) hx hb dX10_joined_89 (by decide) ?_
                        exact r_lret hx hb hr hlocks hP hS dX10_joined_95 h
                    · refine sw (c := zl0.toInt = (-13)) h (fun e10 h => ?_) (fun e10 h => ?_)
                      · refine lv_tableIn (tgt := 68) hx hb dX10_joined_1 (by omega) (by omega) (by rw [e10]; rfl) (by decide) ?_
                        refine lv_lload_n hx hb dX10_joined_68 rfl (lv_at hl 2 rfl) ?_
                        refine r_lconst hx hb dX10_joined_69 (v := 0) (by decide) h (fun z48 h => ?_)
                        refine r_lcmp hx hb dX10_joined_70 h (fun z50 h => ?_)
                        refine r_if_ne (tgt := 78) hx hb dX10_joined_71 (by decide) h (fun h => ?_) (fun h => ?_)
                        · refine lv_lload_n hx hb dX10_joined_78 rfl (lv_at hl 1 rfl) ?_
                          refine lv_lload_n hx hb dX10_joined_79 rfl (lv_at hl 2 rfl) ?_
                          refine r_ldiv hx hb dX10_joined_80 h (fun z52 h => ?_)
                          exact r_lret hx hb hr hlocks hP hS dX10_joined_81 h
                        · refine r_lconst hx hb dX10_joined_74 (v := 0) (by decide) h (fun z54 h => ?_)
                          refine lv_goto (tgt := 81) hx hb dX10_joined_75 (by decide) ?_
                          exact r_lret hx hb hr hlocks hP hS dX10_joined_81 h
                      · refine sw (c := zl0.toInt = (-12)) h (fun e11 h => ?_) (fun e11 h => ?_)
                        · refine lv_tableIn (tgt := 64) hx hb dX10_joined_1 (by omega) (by omega) (by rw [e11]; rfl) (by decide) ?_
                          refine lv_lload_n hx hb dX10_joined_64 rfl (lv_at hl 1 rfl) ?_
                          refine lv_lload_n hx hb dX10_joined_65 rfl (lv_at hl 2 rfl) ?_
                          refine r_lmul hx hb dX10_joined_66 h (fun z56 h => ?_)
                          exact r_lret hx hb hr hlocks hP hS dX10_joined_67 h
                        · refine lv_tableOut (tgt := 168) hx hb dX10_joined_1 (by omega) (by decide) ?_
                          refine lv_lload_n hx hb dX10_joined_168 rfl (lv_at hl 1 rfl) ?_
                          refine lv_lload_n hx hb dX10_joined_169 rfl (lv_at hl 2 rfl) ?_
                          refine r_lor hx hb dX10_joined_170 h (fun z58 h => ?_)
                          exact r_lret hx hb hr hlocks hP hS dX10_joined_171 h
