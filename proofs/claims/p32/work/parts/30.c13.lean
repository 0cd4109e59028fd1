/-! TurningMilk$Tables.handsInRows(III)I -/
abbrev RM_X6_handsInRows : Room := { frames := 2, cells := 0, slots := 0, locals := 62 }
def cw_X6_handsInRows : Cond := Cond.code yX6_handsInRows cX6_handsInRows 8 (Option.some FieldType.int)
theorem hd_X6_handsInRows : yX6_handsInRows.cls ≠ "java/lang/invoke/MethodHandle" ∧ yX6_handsInRows.cls ≠ "java/lang/invoke/VarHandle" ∧ (parseMethodDescriptor yX6_handsInRows.desc).map (fun d => d.parameters.length) = some 3 := by decide +kernel
theorem dX6_handsInRows_0 : decode cX6_handsInRows 0 = .ok (.iconst 0, 1) := by decide +kernel
theorem dX6_handsInRows_1 : decode cX6_handsInRows 1 = .ok (.istore 4, 2) := by decide +kernel
theorem dX6_handsInRows_3 : decode cX6_handsInRows 3 = .ok (.iconst 0, 1) := by decide +kernel
theorem dX6_handsInRows_4 : decode cX6_handsInRows 4 = .ok (.istore 5, 2) := by decide +kernel
theorem dX6_handsInRows_6 : decode cX6_handsInRows 6 = .ok (.iload 5, 2) := by decide +kernel
theorem dX6_handsInRows_8 : decode cX6_handsInRows 8 = .ok (.aload_n 0, 1) := by decide +kernel
theorem dX6_handsInRows_9 : decode cX6_handsInRows 9 = .ok (.getfield 18, 3) := by decide +kernel
theorem dX6_handsInRows_12 : decode cX6_handsInRows 12 = .ok (.getfield 73, 3) := by decide +kernel
theorem dX6_handsInRows_15 : decode cX6_handsInRows 15 = .ok (.if_icmp .ge 74, 3) := by decide +kernel
theorem dX6_handsInRows_18 : decode cX6_handsInRows 18 = .ok (.iconst 0, 1) := by decide +kernel
theorem dX6_handsInRows_19 : decode cX6_handsInRows 19 = .ok (.istore 6, 2) := by decide +kernel
theorem dX6_handsInRows_21 : decode cX6_handsInRows 21 = .ok (.iload 6, 2) := by decide +kernel
theorem dX6_handsInRows_23 : decode cX6_handsInRows 23 = .ok (.iload_n 2, 1) := by decide +kernel
theorem dX6_handsInRows_24 : decode cX6_handsInRows 24 = .ok (.if_icmp .gt 59, 3) := by decide +kernel
theorem dX6_handsInRows_27 : decode cX6_handsInRows 27 = .ok (.iload_n 2, 1) := by decide +kernel
theorem dX6_handsInRows_28 : decode cX6_handsInRows 28 = .ok (.iload 6, 2) := by decide +kernel
theorem dX6_handsInRows_30 : decode cX6_handsInRows 30 = .ok (.isub, 1) := by decide +kernel
theorem dX6_handsInRows_31 : decode cX6_handsInRows 31 = .ok (.aload_n 0, 1) := by decide +kernel
theorem dX6_handsInRows_32 : decode cX6_handsInRows 32 = .ok (.getfield 18, 3) := by decide +kernel
theorem dX6_handsInRows_35 : decode cX6_handsInRows 35 = .ok (.getfield 76, 3) := by decide +kernel
theorem dX6_handsInRows_38 : decode cX6_handsInRows 38 = .ok (.iload 5, 2) := by decide +kernel
theorem dX6_handsInRows_40 : decode cX6_handsInRows 40 = .ok (.iaload, 1) := by decide +kernel
theorem dX6_handsInRows_41 : decode cX6_handsInRows 41 = .ok (.isub, 1) := by decide +kernel
theorem dX6_handsInRows_42 : decode cX6_handsInRows 42 = .ok (.istore 7, 2) := by decide +kernel
theorem dX6_handsInRows_44 : decode cX6_handsInRows 44 = .ok (.aload_n 0, 1) := by decide +kernel
theorem dX6_handsInRows_45 : decode cX6_handsInRows 45 = .ok (.iload_n 3, 1) := by decide +kernel
theorem dX6_handsInRows_46 : decode cX6_handsInRows 46 = .ok (.iload 6, 2) := by decide +kernel
theorem dX6_handsInRows_48 : decode cX6_handsInRows 48 = .ok (.invokevirtual 79, 3) := by decide +kernel
theorem dX6_handsInRows_51 : decode cX6_handsInRows 51 = .ok (.ifCond .le 26, 3) := by decide +kernel
theorem dX6_handsInRows_54 : decode cX6_handsInRows 54 = .ok (.aload_n 0, 1) := by decide +kernel
theorem dX6_handsInRows_55 : decode cX6_handsInRows 55 = .ok (.iload_n 1, 1) := by decide +kernel
theorem dX6_handsInRows_56 : decode cX6_handsInRows 56 = .ok (.iload_n 3, 1) := by decide +kernel
theorem dX6_handsInRows_57 : decode cX6_handsInRows 57 = .ok (.isub, 1) := by decide +kernel
theorem dX6_handsInRows_58 : decode cX6_handsInRows 58 = .ok (.iconst 1, 1) := by decide +kernel
theorem dX6_handsInRows_59 : decode cX6_handsInRows 59 = .ok (.isub, 1) := by decide +kernel
theorem dX6_handsInRows_60 : decode cX6_handsInRows 60 = .ok (.iload 7, 2) := by decide +kernel
theorem dX6_handsInRows_62 : decode cX6_handsInRows 62 = .ok (.invokevirtual 79, 3) := by decide +kernel
theorem dX6_handsInRows_65 : decode cX6_handsInRows 65 = .ok (.ifCond .le 12, 3) := by decide +kernel
theorem dX6_handsInRows_68 : decode cX6_handsInRows 68 = .ok (.iload 4, 2) := by decide +kernel
theorem dX6_handsInRows_70 : decode cX6_handsInRows 70 = .ok (.iconst 1, 1) := by decide +kernel
theorem dX6_handsInRows_71 : decode cX6_handsInRows 71 = .ok (.iload 5, 2) := by decide +kernel
theorem dX6_handsInRows_73 : decode cX6_handsInRows 73 = .ok (.ishl, 1) := by decide +kernel
theorem dX6_handsInRows_74 : decode cX6_handsInRows 74 = .ok (.ior, 1) := by decide +kernel
theorem dX6_handsInRows_75 : decode cX6_handsInRows 75 = .ok (.istore 4, 2) := by decide +kernel
theorem dX6_handsInRows_77 : decode cX6_handsInRows 77 = .ok (.iinc 6 1, 3) := by decide +kernel
theorem dX6_handsInRows_80 : decode cX6_handsInRows 80 = .ok (.goto (-59), 3) := by decide +kernel
theorem dX6_handsInRows_83 : decode cX6_handsInRows 83 = .ok (.iinc 5 1, 3) := by decide +kernel
theorem dX6_handsInRows_86 : decode cX6_handsInRows 86 = .ok (.goto (-80), 3) := by decide +kernel
theorem dX6_handsInRows_89 : decode cX6_handsInRows 89 = .ok (.iload 4, 2) := by decide +kernel
theorem dX6_handsInRows_91 : decode cX6_handsInRows 91 = .ok (.ireturn, 1) := by decide +kernel
def wp_X6_handsInRows_77 (S : Sh) (k6 : Int → Int → Int → Int → Int → Int → Mm → Prop) (k21 : Int → Int → Int → Int → Int → Int → Int → Mm → Prop) (post : Int → Mm → Prop) (u0 : Int) (u1 : Int) (u2 : Int) (u3 : Int) (u4 : Int) (u5 : Int) (u6 : Int) (M : Mm) : Prop := wA u6 1 fun v1 => k21 u0 u1 u2 u3 u4 u5 v1 M
def wp_X6_handsInRows_21 (S : Sh) (k6 : Int → Int → Int → Int → Int → Int → Mm → Prop) (post : Int → Mm → Prop) : Nat → Int → Int → Int → Int → Int → Int → Int → Mm → Prop
  | 0, _, _, _, _, _, _, _, _ => False
  | n + 1, u0, u1, u2, u3, u4, u5, u6, M => wIf (u2 < u6) (wA u5 1 fun v3 => k6 u0 u1 u2 u3 u4 v3 M) (wS u2 u6 fun v5 => wGetR S M u0 6 0 fun v7 => wGetR S M v7 8 10 fun v9 => wLd S M v9 14 u5 fun v11 => wS v5 v11 fun v13 => isK S u0 6 ∧ (wp_X6_rowsOf S M u0 u3 u6 <| fun v16 M15 => wIf (v16 ≤ 0) (wp_X6_handsInRows_77 S k6 (fun a0 a1 a2 a3 a4 a5 a6 M => wp_X6_handsInRows_21 S k6 post n a0 a1 a2 a3 a4 a5 a6 M) post u0 u1 u2 u3 u4 u5 u6 M15) (wS u1 u3 fun v18 => wC 1 fun v20 => wS v18 v20 fun v22 => isK S u0 6 ∧ (wp_X6_rowsOf S M15 u0 v22 v13 <| fun v25 M24 => wIf (v25 ≤ 0) (wp_X6_handsInRows_77 S k6 (fun a0 a1 a2 a3 a4 a5 a6 M => wp_X6_handsInRows_21 S k6 post n a0 a1 a2 a3 a4 a5 a6 M) post u0 u1 u2 u3 u4 u5 u6 M24) (wC 1 fun v27 => wO iShl v27 u5 fun v29 => wO iOr u4 v29 fun v31 => wp_X6_handsInRows_77 S k6 (fun a0 a1 a2 a3 a4 a5 a6 M => wp_X6_handsInRows_21 S k6 post n a0 a1 a2 a3 a4 a5 a6 M) post u0 u1 u2 u3 v31 u5 u6 M24)))))
def wp_X6_handsInRows_6 (S : Sh) (post : Int → Mm → Prop) : Nat → Int → Int → Int → Int → Int → Int → Mm → Prop
  | 0, _, _, _, _, _, _, _ => False
  | n + 1, u0, u1, u2, u3, u4, u5, M => wGetR S M u0 6 0 fun v33 => wGet S M v33 8 4 fun v35 => wIf (v35 ≤ u5) (post u4 M) (wC 0 fun v37 => ∃ n9 : Nat, wp_X6_handsInRows_21 S (fun a0 a1 a2 a3 a4 a5 M => wp_X6_handsInRows_6 S post n a0 a1 a2 a3 a4 a5 M) post n9 u0 u1 u2 u3 u4 u5 v37 M)
def wp_X6_handsInRows (S : Sh) (M : Mm) (u0 : Int) (u1 : Int) (u2 : Int) (u3 : Int) (post : Int → Mm → Prop) : Prop := wC 0 fun v39 => wC 0 fun v41 => ∃ n9 : Nat, wp_X6_handsInRows_6 S post n9 u0 u1 u2 u3 v39 v41 M
set_option maxHeartbeats 4000000 in
set_option maxRecDepth 100000 in
theorem t_X6_handsInRows_77 {p : Program} {l : Launch} {e : Env} {s : State} {m : MethodId} {args : Array Value} {below : List Frame} {meth : Method} {c : Code} {D : va_G} {G : Gt} {S : Sh} {post : Int → Mm → Prop} {k6 : Int → Int → Int → Int → Int → Int → Mm → Prop} {k21 : Int → Int → Int → Int → Int → Int → Int → Mm → Prop} (C : Cx p s m args meth c D G cX6_handsInRows 8 (some .int) (cw_X6_handsInRows :: gw) RX6) (hk6 : ∀ (y0 : Int) (y1 : Int32) (y2 : Int32) (y3 : Int32) (y4 : Int32) (y5 : Int32) (M : Mm) (H : Heap) (locs : List Loc) (ls : Array Slot), Wd D G S M H → va_S (aG G) s.heap H locs → lv_has ls 8 [(0, .ref (adr G y0)), (1, .int y1), (2, .int y2), (3, .int y3), (4, .int y4), (5, .int y5)] → k6 y0 y1.toInt y2.toInt y3.toInt y4.toInt y5.toInt M → W p l e RM_X6_handsInRows s m args below meth c H locs 0 0 (MQ below (QI D G S post) args s 0 0 (aG G)) (F0 m 6 ls [])) (hk21 : ∀ (y0 : Int) (y1 : Int32) (y2 : Int32) (y3 : Int32) (y4 : Int32) (y5 : Int32) (y6 : Int32) (M : Mm) (H : Heap) (locs : List Loc) (ls : Array Slot), Wd D G S M H → va_S (aG G) s.heap H locs → lv_has ls 8 [(0, .ref (adr G y0)), (1, .int y1), (2, .int y2), (3, .int y3), (4, .int y4), (5, .int y5), (6, .int y6)] → k21 y0 y1.toInt y2.toInt y3.toInt y4.toInt y5.toInt y6.toInt M → W p l e RM_X6_handsInRows s m args below meth c H locs 0 0 (MQ below (QI D G S post) args s 0 0 (aG G)) (F0 m 21 ls [])) : ∀ (xl0 : Int) (zl1 : Int32) (zl2 : Int32) (zl3 : Int32) (zl4 : Int32) (zl5 : Int32) (zl6 : Int32) (M : Mm) (H : Heap) (locs : List Loc) (ls : Array Slot), Wd D G S M H → va_S (aG G) s.heap H locs → lv_has ls 8 [(0, .ref (adr G xl0)), (1, .int zl1), (2, .int zl2), (3, .int zl3), (4, .int zl4), (5, .int zl5), (6, .int zl6)] → wp_X6_handsInRows_77 S k6 k21 post xl0 zl1.toInt zl2.toInt zl3.toInt zl4.toInt zl5.toInt zl6.toInt  M → W p l e RM_X6_handsInRows s m args below meth c H locs 0 0 (MQ below (QI D G S post) args s 0 0 (aG G)) (F0 m 77 ls []) := by
  obtain ⟨hx, hb, hr, hlocks, hml, hown, hts, hK⟩ := id C
  intro xl0 zl1 zl2 zl3 zl4 zl5 zl6 M H locs ls hP hS hl h
  unfold wp_X6_handsInRows_77 at h
  refine r_iinc hx hb (fun z2 => [(6, .int z2), (0, .ref (adr G xl0)), (1, .int zl1), (2, .int zl2), (3, .int zl3), (4, .int zl4), (5, .int zl5)]) dX6_handsInRows_77 (by decide) hl (k := 6) rfl (by decide) (fun _ => rfl) h (fun z2 ls hl h => ?_)
  refine lv_goto (tgt := 21) hx hb dX6_handsInRows_80 (by decide) ?_
  exact hk21 xl0 zl1 zl2 zl3 zl4 zl5 z2 _ _ _ _ hP hS (lv_sub hl [1, 2, 3, 4, 5, 6, 0] rfl) h
set_option maxHeartbeats 4000000 in
set_option maxRecDepth 100000 in
theorem t_X6_handsInRows_21 {p : Program} {l : Launch} {e : Env} {s : State} {m : MethodId} {args : Array Value} {below : List Frame} {meth : Method} {c : Code} {D : va_G} {G : Gt} {S : Sh} {post : Int → Mm → Prop} {k6 : Int → Int → Int → Int → Int → Int → Mm → Prop} (C : Cx p s m args meth c D G cX6_handsInRows 8 (some .int) (cw_X6_handsInRows :: gw) RX6) (hk6 : ∀ (y0 : Int) (y1 : Int32) (y2 : Int32) (y3 : Int32) (y4 : Int32) (y5 : Int32) (M : Mm) (H : Heap) (locs : List Loc) (ls : Array Slot), Wd D G S M H → va_S (aG G) s.heap H locs → lv_has ls 8 [(0, .ref (adr G y0)), (1, .int y1), (2, .int y2), (3, .int y3), (4, .int y4), (5, .int y5)] → k6 y0 y1.toInt y2.toInt y3.toInt y4.toInt y5.toInt M → W p l e RM_X6_handsInRows s m args below meth c H locs 0 0 (MQ below (QI D G S post) args s 0 0 (aG G)) (F0 m 6 ls [])) : ∀ (n : Nat) (xl0 : Int) (zl1 : Int32) (zl2 : Int32) (zl3 : Int32) (zl4 : Int32) (zl5 : Int32) (zl6 : Int32) (M : Mm) (H : Heap) (locs : List Loc) (ls : Array Slot), Wd D G S M H → va_S (aG G) s.heap H locs → lv_has ls 8 [(0, .ref (adr G xl0)), (1, .int zl1), (2, .int zl2), (3, .int zl3), (4, .int zl4), (5, .int zl5), (6, .int zl6)] → wp_X6_handsInRows_21 S k6 post n xl0 zl1.toInt zl2.toInt zl3.toInt zl4.toInt zl5.toInt zl6.toInt  M → W p l e RM_X6_handsInRows s m args below meth c H locs 0 0 (MQ below (QI D G S post) args s 0 0 (aG G)) (F0 m 21 ls []) := by
  obtain ⟨hx, hb, hr, hlocks, hml, hown, hts, hK⟩ := id C
  intro n
  induction n with
  | zero => intro xl0 zl1 zl2 zl3 zl4 zl5 zl6 M H locs ls hP hS hl h; exact h.elim
  | succ n ih =>
    intro xl0 zl1 zl2 zl3 zl4 zl5 zl6 M H locs ls hP hS hl h
    unfold wp_X6_handsInRows_21 at h
    refine lv_iload hx hb dX6_handsInRows_21 (lv_at hl 6 rfl) ?_
    refine lv_iload_n hx hb dX6_handsInRows_23 rfl (lv_at hl 2 rfl) ?_
    refine r_icmp_gt (tgt := 83) hx hb dX6_handsInRows_24 (by decide) h (fun h => ?_) (fun h => ?_)
    · refine r_iinc hx hb (fun z4 => [(5, .int z4), (0, .ref (adr G xl0)), (1, .int zl1), (2, .int zl2), (3, .int zl3), (4, .int zl4), (6, .int zl6)]) dX6_handsInRows_83 (by decide) hl (k := 5) rfl (by decide) (fun _ => rfl) h (fun z4 ls hl h => ?_)
      refine lv_goto (tgt := 6) hx hb dX6_handsInRows_86 (by decide) ?_
      exact hk6 xl0 zl1 zl2 zl3 zl4 z4 _ _ _ _ hP hS (lv_sub hl [1, 2, 3, 4, 5, 0] rfl) h
    · refine lv_iload_n hx hb dX6_handsInRows_27 rfl (lv_at hl 2 rfl) ?_
      refine lv_iload hx hb dX6_handsInRows_28 (lv_at hl 6 rfl) ?_
      refine r_isub hx hb dX6_handsInRows_30 h (fun z6 h => ?_)
      refine lv_aload_n hx hb dX6_handsInRows_31 rfl (lv_at hl 0 rfl) ?_
      refine r_getr (C := RX6) (T := TX6) (N := 3) hx hb hts (fun w h => List.mem_cons_of_mem _ (iX6 w h)) hown hK hP rfl (by decide) rfl 0 (by decide) (hts _ (List.mem_cons_of_mem _ kw_455)) (fun _ h9 => h9) dX6_handsInRows_32 (by decide) h (fun x8 h => ?_)
      refine r_getrN (C := RX8) (T := TX8) (N := 19) hx hb hts (fun w h => List.mem_cons_of_mem _ (iX8 w h)) hown hK hP rfl (by decide) rfl 10 (by decide) (nw_27 hK) (fun _ h9 => h9) dX6_handsInRows_35 (by decide) h (fun x10 h => ?_)
      refine lv_iload hx hb dX6_handsInRows_38 (lv_at hl 5 rfl) ?_
      refine r_iald hx hb hK hP dX6_handsInRows_40 h (fun z12 h => ?_)
      refine r_isub hx hb dX6_handsInRows_41 h (fun z14 h => ?_)
      refine lv_istore (lv' := [(7, .int z14), (0, .ref (adr G xl0)), (1, .int zl1), (2, .int zl2), (3, .int zl3), (4, .int zl4), (5, .int zl5), (6, .int zl6)]) hx hb dX6_handsInRows_42 hl (by decide) rfl (fun ls hl => ?_)
      refine lv_aload_n hx hb dX6_handsInRows_44 rfl (lv_at hl 1 rfl) ?_
      refine lv_iload_n hx hb dX6_handsInRows_45 rfl (lv_at hl 4 rfl) ?_
      refine lv_iload hx hb dX6_handsInRows_46 (lv_at hl 7 rfl) ?_
      refine q_Vi hx hb hml hown hts hK hP hS (c_X6_rowsOf l D G S _ xl0 zl3 zl6 _ h.2) ⟨callB_of 2 hts (gw_good kw_1243) rfl rfl rfl (hts _ (List.mem_cons_of_mem _ kw_12)) (hts _ (List.mem_cons_of_mem _ kw_1240)) hd_X6_rowsOf ⟨Nat.le_of_ble_eq_true rfl, Nat.le_of_ble_eq_true rfl⟩, (hts _ (List.mem_cons_of_mem _ kw_1241)), (hts _ (List.mem_cons_of_mem _ kw_1242))⟩ h.1 (ci := 6) rfl (by decide) rfl hl.1 rfl (lv_room (Nat.le_of_ble_eq_true rfl)) dX6_handsInRows_48 ⟨Nat.zero_le _, Nat.zero_le _⟩ (fun z17 M15 H locs h hP hS => ?_)
      refine r_if_le (tgt := 77) hx hb dX6_handsInRows_51 (by decide) h (fun h => ?_) (fun h => ?_)
      · exact t_X6_handsInRows_77 C hk6 ih xl0 zl1 zl2 zl3 zl4 zl5 zl6 _ _ _ _ hP hS (lv_sub hl [1, 2, 3, 4, 5, 6, 7] rfl) h
      · refine lv_aload_n hx hb dX6_handsInRows_54 rfl (lv_at hl 1 rfl) ?_
        refine lv_iload_n hx hb dX6_handsInRows_55 rfl (lv_at hl 2 rfl) ?_
        refine lv_iload_n hx hb dX6_handsInRows_56 rfl (lv_at hl 4 rfl) ?_
        refine r_isub hx hb dX6_handsInRows_57 h (fun z19 h => ?_)
        refine r_iconst hx hb dX6_handsInRows_58 (by decide) h (fun z21 h => ?_)
        refine r_isub hx hb dX6_handsInRows_59 h (fun z23 h => ?_)
        refine lv_iload hx hb dX6_handsInRows_60 (lv_at hl 0 rfl) ?_
        refine q_Vi hx hb hml hown hts hK hP hS (c_X6_rowsOf l D G S _ xl0 z23 z14 _ h.2) ⟨callB_of 2 hts (gw_good kw_1243) rfl rfl rfl (hts _ (List.mem_cons_of_mem _ kw_12)) (hts _ (List.mem_cons_of_mem _ kw_1240)) hd_X6_rowsOf ⟨Nat.le_of_ble_eq_true rfl, Nat.le_of_ble_eq_true rfl⟩, (hts _ (List.mem_cons_of_mem _ kw_1241)), (hts _ (List.mem_cons_of_mem _ kw_1242))⟩ h.1 (ci := 6) rfl (by decide) rfl hl.1 rfl (lv_room (Nat.le_of_ble_eq_true rfl)) dX6_handsInRows_62 ⟨Nat.zero_le _, Nat.zero_le _⟩ (fun z26 M24 H locs h hP hS => ?_)
        refine r_if_le (tgt := 77) hx hb dX6_handsInRows_65 (by decide) h (fun h => ?_) (fun h => ?_)
        · exact t_X6_handsInRows_77 C hk6 ih xl0 zl1 zl2 zl3 zl4 zl5 zl6 _ _ _ _ hP hS (lv_sub hl [1, 2, 3, 4, 5, 6, 7] rfl) h
        · refine lv_iload hx hb dX6_handsInRows_68 (lv_at hl 5 rfl) ?_
          refine r_iconst hx hb dX6_handsInRows_70 (by decide) h (fun z28 h => ?_)
          refine lv_iload hx hb dX6_handsInRows_71 (lv_at hl 6 rfl) ?_
          refine r_ishl hx hb dX6_handsInRows_73 h (fun z30 h => ?_)
          refine r_ior hx hb dX6_handsInRows_74 h (fun z32 h => ?_)
          refine lv_istore (lv' := [(4, .int z32), (7, .int z14), (0, .ref (adr G xl0)), (1, .int zl1), (2, .int zl2), (3, .int zl3), (5, .int zl5), (6, .int zl6)]) hx hb dX6_handsInRows_75 hl (by decide) rfl (fun ls hl => ?_)
          exact t_X6_handsInRows_77 C hk6 ih xl0 zl1 zl2 zl3 z32 zl5 zl6 _ _ _ _ hP hS (lv_sub hl [2, 3, 4, 5, 0, 6, 7] rfl) h
set_option maxHeartbeats 4000000 in
set_option maxRecDepth 100000 in
theorem t_X6_handsInRows_6 {p : Program} {l : Launch} {e : Env} {s : State} {m : MethodId} {args : Array Value} {below : List Frame} {meth : Method} {c : Code} {D : va_G} {G : Gt} {S : Sh} {post : Int → Mm → Prop} (C : Cx p s m args meth c D G cX6_handsInRows 8 (some .int) (cw_X6_handsInRows :: gw) RX6) : ∀ (n : Nat) (xl0 : Int) (zl1 : Int32) (zl2 : Int32) (zl3 : Int32) (zl4 : Int32) (zl5 : Int32) (M : Mm) (H : Heap) (locs : List Loc) (ls : Array Slot), Wd D G S M H → va_S (aG G) s.heap H locs → lv_has ls 8 [(0, .ref (adr G xl0)), (1, .int zl1), (2, .int zl2), (3, .int zl3), (4, .int zl4), (5, .int zl5)] → wp_X6_handsInRows_6 S post n xl0 zl1.toInt zl2.toInt zl3.toInt zl4.toInt zl5.toInt  M → W p l e RM_X6_handsInRows s m args below meth c H locs 0 0 (MQ below (QI D G S post) args s 0 0 (aG G)) (F0 m 6 ls []) := by
  obtain ⟨hx, hb, hr, hlocks, hml, hown, hts, hK⟩ := id C
  intro n
  induction n with
  | zero => intro xl0 zl1 zl2 zl3 zl4 zl5 M H locs ls hP hS hl h; exact h.elim
  | succ n ih =>
    intro xl0 zl1 zl2 zl3 zl4 zl5 M H locs ls hP hS hl h
    unfold wp_X6_handsInRows_6 at h
    refine lv_iload hx hb dX6_handsInRows_6 (lv_at hl 5 rfl) ?_
    refine lv_aload_n hx hb dX6_handsInRows_8 rfl (lv_at hl 0 rfl) ?_
    refine r_getr (C := RX6) (T := TX6) (N := 3) hx hb hts (fun w h => List.mem_cons_of_mem _ (iX6 w h)) hown hK hP rfl (by decide) rfl 0 (by decide) (hts _ (List.mem_cons_of_mem _ kw_455)) (fun _ h9 => h9) dX6_handsInRows_9 (by decide) h (fun x34 h => ?_)
    refine r_getiN (C := RX8) (T := TX8) (N := 19) hx hb hts (fun w h => List.mem_cons_of_mem _ (iX8 w h)) hown hK hP rfl (by decide) rfl 4 (by decide) (nw_16 hK) (fun _ h9 => h9) dX6_handsInRows_12 (by decide) h (fun z36 h => ?_)
    refine r_icmp_ge (tgt := 89) hx hb dX6_handsInRows_15 (by decide) h (fun h => ?_) (fun h => ?_)
    · refine lv_iload hx hb dX6_handsInRows_89 (lv_at hl 4 rfl) ?_
      exact r_iret hx hb hr hlocks hP hS dX6_handsInRows_91 h
    · refine r_iconst hx hb dX6_handsInRows_18 (by decide) h (fun z38 h => ?_)
      refine lv_istore (lv' := [(6, .int z38), (0, .ref (adr G xl0)), (1, .int zl1), (2, .int zl2), (3, .int zl3), (4, .int zl4), (5, .int zl5)]) hx hb dX6_handsInRows_19 hl (by decide) rfl (fun ls hl => ?_)
      obtain ⟨n9, h⟩ := h
      exact t_X6_handsInRows_21 C ih n9 xl0 zl1 zl2 zl3 zl4 zl5 z38 _ _ _ _ hP hS (lv_sub hl [1, 2, 3, 4, 5, 6, 0] rfl) h
set_option maxHeartbeats 4000000 in
set_option maxRecDepth 100000 in
theorem c_X6_handsInRows (l : Launch) (D : va_G) (G : Gt) (S : Sh) (M : Mm) (xl0 : Int) (zl1 : Int32) (zl2 : Int32) (zl3 : Int32) (post : Int → Mm → Prop) (h : wp_X6_handsInRows S M xl0 zl1.toInt zl2.toInt zl3.toInt post) : Met l yX6_handsInRows (cw_X6_handsInRows :: gw) RM_X6_handsInRows (va_Pc [.ref (adr G xl0), .int zl1, .int zl2, .int zl3] (fun U => KN D G U ∧ Wd D G S M U.heap)) (QI D G S post) 0 0 (aG G) := by
  refine Met.ofW (cc := cX6_handsInRows) (maxL := 8) (ret := (some .int)) (by decide) rfl ?_
  intro p e s m args below meth c s₁ B hml hv
  obtain ⟨rfl, hK, hP⟩ := hv
  have hx := B.exec
  have hb := B.bytes
  have hr := B.returns
  have hts := atoms_spec (ws := cw_X6_handsInRows :: gw) B.pre
  have hown : s.vm.findClass RX6 = some m.cls := findClass_of_methodNamed B.named
  have hlocks := B.notSynchronized
  have hS : va_S (aG G) s.heap s.heap [] := va_S.rf
  have C : Cx p s m ([.ref (adr G xl0), .int zl1, .int zl2, .int zl3] : List Value).toArray meth c D G cX6_handsInRows 8 (some .int) (cw_X6_handsInRows :: gw) RX6 := ⟨hx, hb, hr, hlocks, hml, hown, hts, hK⟩
  have hl := lv_entry ([.ref (adr G xl0), .int zl1, .int zl2, .int zl3]) (n := 8) (Nat.le_of_ble_eq_true rfl)
  rw [lg_entry_eq]
  generalize (lg_sl ([.ref (adr G xl0), .int zl1, .int zl2, .int zl3]) ++ List.replicate (8 - (lg_sl ([.ref (adr G xl0), .int zl1, .int zl2, .int zl3])).length) Slot.unset).toArray = ls at hl ⊢
  have hl : lv_has ls 8 [(0, .ref (adr G xl0)), (1, .int zl1), (2, .int zl2), (3, .int zl3)] := hl
  unfold wp_X6_handsInRows at h
  refine r_iconst hx hb dX6_handsInRows_0 (by decide) h (fun z40 h => ?_)
  refine lv_istore (lv' := [(4, .int z40), (0, .ref (adr G xl0)), (1, .int zl1), (2, .int zl2), (3, .int zl3)]) hx hb dX6_handsInRows_1 hl (by decide) rfl (fun ls hl => ?_)
  refine r_iconst hx hb dX6_handsInRows_3 (by decide) h (fun z42 h => ?_)
  refine lv_istore (lv' := [(5, .int z42), (4, .int z40), (0, .ref (adr G xl0)), (1, .int zl1), (2, .int zl2), (3, .int zl3)]) hx hb dX6_handsInRows_4 hl (by decide) rfl (fun ls hl => ?_)
  obtain ⟨n9, h⟩ := h
  exact t_X6_handsInRows_6 C n9 xl0 zl1 zl2 zl3 z40 z42 _ _ _ _ hP hS (lv_sub hl [2, 3, 4, 5, 1, 0] rfl) h
/-! TurningMilk.rows(III)I -/
abbrev RM_X11_rows : Room := { frames := 4, cells := 0, slots := 0, locals := 113 }
def cw_X11_rows : Cond := Cond.code yX11_rows cX11_rows 8 (Option.some FieldType.int)
theorem hd_X11_rows : yX11_rows.cls ≠ "java/lang/invoke/MethodHandle" ∧ yX11_rows.cls ≠ "java/lang/invoke/VarHandle" ∧ (parseMethodDescriptor yX11_rows.desc).map (fun d => d.parameters.length) = some 3 := by decide +kernel
theorem dX11_rows_0 : decode cX11_rows 0 = .ok (.iload_n 3, 1) := by decide +kernel
theorem dX11_rows_1 : decode cX11_rows 1 = .ok (.ifCond .lt 13, 3) := by decide +kernel
theorem dX11_rows_4 : decode cX11_rows 4 = .ok (.iload_n 3, 1) := by decide +kernel
theorem dX11_rows_5 : decode cX11_rows 5 = .ok (.bipush 11, 2) := by decide +kernel
theorem dX11_rows_7 : decode cX11_rows 7 = .ok (.if_icmp .gt 7, 3) := by decide +kernel
theorem dX11_rows_10 : decode cX11_rows 10 = .ok (.iconst 1, 1) := by decide +kernel
theorem dX11_rows_11 : decode cX11_rows 11 = .ok (.goto 4, 3) := by decide +kernel
theorem dX11_rows_14 : decode cX11_rows 14 = .ok (.iconst 0, 1) := by decide +kernel
theorem dX11_rows_15 : decode cX11_rows 15 = .ok (.istore 4, 2) := by decide +kernel
theorem dX11_rows_17 : decode cX11_rows 17 = .ok (.iload_n 3, 1) := by decide +kernel
theorem dX11_rows_18 : decode cX11_rows 18 = .ok (.bipush 20, 2) := by decide +kernel
theorem dX11_rows_20 : decode cX11_rows 20 = .ok (.if_icmp .lt 13, 3) := by decide +kernel
theorem dX11_rows_23 : decode cX11_rows 23 = .ok (.iload_n 3, 1) := by decide +kernel
theorem dX11_rows_24 : decode cX11_rows 24 = .ok (.bipush 31, 2) := by decide +kernel
theorem dX11_rows_26 : decode cX11_rows 26 = .ok (.if_icmp .gt 7, 3) := by decide +kernel
theorem dX11_rows_29 : decode cX11_rows 29 = .ok (.iconst 1, 1) := by decide +kernel
theorem dX11_rows_30 : decode cX11_rows 30 = .ok (.goto 4, 3) := by decide +kernel
theorem dX11_rows_33 : decode cX11_rows 33 = .ok (.iconst 0, 1) := by decide +kernel
theorem dX11_rows_34 : decode cX11_rows 34 = .ok (.istore 5, 2) := by decide +kernel
theorem dX11_rows_36 : decode cX11_rows 36 = .ok (.aload_n 0, 1) := by decide +kernel
theorem dX11_rows_37 : decode cX11_rows 37 = .ok (.getfield 19, 3) := by decide +kernel
theorem dX11_rows_40 : decode cX11_rows 40 = .ok (.getfield 57, 3) := by decide +kernel
theorem dX11_rows_43 : decode cX11_rows 43 = .ok (.getfield 166, 3) := by decide +kernel
theorem dX11_rows_46 : decode cX11_rows 46 = .ok (.ifCond .eq 25, 3) := by decide +kernel
theorem dX11_rows_49 : decode cX11_rows 49 = .ok (.iload_n 1, 1) := by decide +kernel
theorem dX11_rows_50 : decode cX11_rows 50 = .ok (.iconst 1, 1) := by decide +kernel
theorem dX11_rows_51 : decode cX11_rows 51 = .ok (.if_icmp .lt 20, 3) := by decide +kernel
theorem dX11_rows_54 : decode cX11_rows 54 = .ok (.iload_n 1, 1) := by decide +kernel
theorem dX11_rows_55 : decode cX11_rows 55 = .ok (.bipush 12, 2) := by decide +kernel
theorem dX11_rows_57 : decode cX11_rows 57 = .ok (.if_icmp .gt 14, 3) := by decide +kernel
theorem dX11_rows_60 : decode cX11_rows 60 = .ok (.iload_n 2, 1) := by decide +kernel
theorem dX11_rows_61 : decode cX11_rows 61 = .ok (.ifCond .lt 10, 3) := by decide +kernel
theorem dX11_rows_64 : decode cX11_rows 64 = .ok (.iload_n 2, 1) := by decide +kernel
theorem dX11_rows_65 : decode cX11_rows 65 = .ok (.sipush 300, 3) := by decide +kernel
theorem dX11_rows_68 : decode cX11_rows 68 = .ok (.if_icmp .le 6, 3) := by decide +kernel
theorem dX11_rows_71 : decode cX11_rows 71 = .ok (.bipush (-3), 2) := by decide +kernel
theorem dX11_rows_73 : decode cX11_rows 73 = .ok (.ireturn, 1) := by decide +kernel
theorem dX11_rows_74 : decode cX11_rows 74 = .ok (.iload_n 3, 1) := by decide +kernel
theorem dX11_rows_75 : decode cX11_rows 75 = .ok (.iconst (-1), 1) := by decide +kernel
theorem dX11_rows_76 : decode cX11_rows 76 = .ok (.if_icmp .eq 16, 3) := by decide +kernel
theorem dX11_rows_79 : decode cX11_rows 79 = .ok (.iload 4, 2) := by decide +kernel
theorem dX11_rows_81 : decode cX11_rows 81 = .ok (.ifCond .ne 11, 3) := by decide +kernel
theorem dX11_rows_84 : decode cX11_rows 84 = .ok (.iload 5, 2) := by decide +kernel
theorem dX11_rows_86 : decode cX11_rows 86 = .ok (.ifCond .ne 6, 3) := by decide +kernel
theorem dX11_rows_89 : decode cX11_rows 89 = .ok (.bipush (-3), 2) := by decide +kernel
theorem dX11_rows_91 : decode cX11_rows 91 = .ok (.ireturn, 1) := by decide +kernel
theorem dX11_rows_92 : decode cX11_rows 92 = .ok (.aload_n 0, 1) := by decide +kernel
theorem dX11_rows_93 : decode cX11_rows 93 = .ok (.getfield 87, 3) := by decide +kernel
theorem dX11_rows_96 : decode cX11_rows 96 = .ok (.iload_n 1, 1) := by decide +kernel
theorem dX11_rows_97 : decode cX11_rows 97 = .ok (.iload_n 2, 1) := by decide +kernel
theorem dX11_rows_98 : decode cX11_rows 98 = .ok (.invokevirtual 374, 3) := by decide +kernel
theorem dX11_rows_101 : decode cX11_rows 101 = .ok (.aload_n 0, 1) := by decide +kernel
theorem dX11_rows_102 : decode cX11_rows 102 = .ok (.getfield 87, 3) := by decide +kernel
theorem dX11_rows_105 : decode cX11_rows 105 = .ok (.iload_n 1, 1) := by decide +kernel
theorem dX11_rows_106 : decode cX11_rows 106 = .ok (.iload_n 2, 1) := by decide +kernel
theorem dX11_rows_107 : decode cX11_rows 107 = .ok (.invokevirtual 377, 3) := by decide +kernel
theorem dX11_rows_110 : decode cX11_rows 110 = .ok (.istore 6, 2) := by decide +kernel
theorem dX11_rows_112 : decode cX11_rows 112 = .ok (.iload_n 3, 1) := by decide +kernel
theorem dX11_rows_113 : decode cX11_rows 113 = .ok (.iconst (-1), 1) := by decide +kernel
theorem dX11_rows_114 : decode cX11_rows 114 = .ok (.if_icmp .ne 6, 3) := by decide +kernel
theorem dX11_rows_117 : decode cX11_rows 117 = .ok (.iload 6, 2) := by decide +kernel
theorem dX11_rows_119 : decode cX11_rows 119 = .ok (.ireturn, 1) := by decide +kernel
theorem dX11_rows_120 : decode cX11_rows 120 = .ok (.iload 4, 2) := by decide +kernel
theorem dX11_rows_122 : decode cX11_rows 122 = .ok (.ifCond .eq 7, 3) := by decide +kernel
theorem dX11_rows_125 : decode cX11_rows 125 = .ok (.iload_n 3, 1) := by decide +kernel
theorem dX11_rows_126 : decode cX11_rows 126 = .ok (.goto 7, 3) := by decide +kernel
theorem dX11_rows_129 : decode cX11_rows 129 = .ok (.iload_n 3, 1) := by decide +kernel
theorem dX11_rows_130 : decode cX11_rows 130 = .ok (.bipush 20, 2) := by decide +kernel
theorem dX11_rows_132 : decode cX11_rows 132 = .ok (.isub, 1) := by decide +kernel
theorem dX11_rows_133 : decode cX11_rows 133 = .ok (.istore 7, 2) := by decide +kernel
theorem dX11_rows_135 : decode cX11_rows 135 = .ok (.iload 6, 2) := by decide +kernel
theorem dX11_rows_137 : decode cX11_rows 137 = .ok (.ifCond .eq 9, 3) := by decide +kernel
theorem dX11_rows_140 : decode cX11_rows 140 = .ok (.iload 7, 2) := by decide +kernel
theorem dX11_rows_142 : decode cX11_rows 142 = .ok (.iload_n 1, 1) := by decide +kernel
theorem dX11_rows_143 : decode cX11_rows 143 = .ok (.if_icmp .lt 6, 3) := by decide +kernel
theorem dX11_rows_146 : decode cX11_rows 146 = .ok (.bipush (-2), 2) := by decide +kernel
theorem dX11_rows_148 : decode cX11_rows 148 = .ok (.ireturn, 1) := by decide +kernel
theorem dX11_rows_149 : decode cX11_rows 149 = .ok (.iload 4, 2) := by decide +kernel
theorem dX11_rows_151 : decode cX11_rows 151 = .ok (.ifCond .eq 17, 3) := by decide +kernel
theorem dX11_rows_154 : decode cX11_rows 154 = .ok (.aload_n 0, 1) := by decide +kernel
theorem dX11_rows_155 : decode cX11_rows 155 = .ok (.getfield 87, 3) := by decide +kernel
theorem dX11_rows_158 : decode cX11_rows 158 = .ok (.iload_n 1, 1) := by decide +kernel
theorem dX11_rows_159 : decode cX11_rows 159 = .ok (.iload_n 2, 1) := by decide +kernel
theorem dX11_rows_160 : decode cX11_rows 160 = .ok (.iload 7, 2) := by decide +kernel
theorem dX11_rows_162 : decode cX11_rows 162 = .ok (.invokevirtual 380, 3) := by decide +kernel
theorem dX11_rows_165 : decode cX11_rows 165 = .ok (.goto 14, 3) := by decide +kernel
theorem dX11_rows_168 : decode cX11_rows 168 = .ok (.aload_n 0, 1) := by decide +kernel
theorem dX11_rows_169 : decode cX11_rows 169 = .ok (.getfield 87, 3) := by decide +kernel
theorem dX11_rows_172 : decode cX11_rows 172 = .ok (.iload_n 1, 1) := by decide +kernel
theorem dX11_rows_173 : decode cX11_rows 173 = .ok (.iload_n 2, 1) := by decide +kernel
theorem dX11_rows_174 : decode cX11_rows 174 = .ok (.iload 7, 2) := by decide +kernel
theorem dX11_rows_176 : decode cX11_rows 176 = .ok (.invokevirtual 383, 3) := by decide +kernel
theorem dX11_rows_179 : decode cX11_rows 179 = .ok (.ireturn, 1) := by decide +kernel
def wp_X11_rows_133 (S : Sh) (post : Int → Mm → Prop) (u0 : Int) (u1 : Int) (u2 : Int) (u4 : Int) (u6 : Int) (t0 : Int) (M : Mm) : Prop := wIf (u6 = 0) (wC (-2) fun v1 => post v1 M) (wIf (t0 < u1) (wIf (u4 = 0) (wGetR S M u0 11 13 fun v3 => isK S v3 6 ∧ (wp_X6_handsInRows S M v3 u1 u2 t0 <| fun v6 M5 => post v6 M5)) (wGetR S M u0 11 13 fun v8 => isK S v8 6 ∧ (wp_X6_handInFirstRow S M v8 u1 u2 t0 <| fun v11 M10 => post v11 M10))) (wC (-2) fun v13 => post v13 M))
def wp_X11_rows_92 (S : Sh) (post : Int → Mm → Prop) (u0 : Int) (u1 : Int) (u2 : Int) (u3 : Int) (u4 : Int) (M : Mm) : Prop := wGetR S M u0 11 13 fun v15 => isK S v15 6 ∧ (wp_X6_countRows S M v15 u1 u2 <| fun M17 => wGetR S M17 u0 11 13 fun v18 => isK S v18 6 ∧ (wp_X6_rowsOf S M17 v18 u1 u2 <| fun v21 M20 => wC (-1) fun v23 => wIf (¬ u3 = v23) (wIf (u4 = 0) (wC 20 fun v25 => wS u3 v25 fun v27 => wp_X11_rows_133 S post u0 u1 u2 u4 v21 v27 M20) (wp_X11_rows_133 S post u0 u1 u2 u4 v21 u3 M20)) (post v21 M20)))
def wp_X11_rows_34 (S : Sh) (post : Int → Mm → Prop) (u0 : Int) (u1 : Int) (u2 : Int) (u3 : Int) (u4 : Int) (t0 : Int) (M : Mm) : Prop := wGetR S M u0 11 1 fun v29 => wGetR S M v29 4 0 fun v31 => wGet S M v31 8 0 fun v33 => wIf (v33 = 0) (wC (-3) fun v35 => post v35 M) (wC 1 fun v37 => wIf (u1 < v37) (wC (-3) fun v39 => post v39 M) (wC 12 fun v41 => wIf (v41 < u1) (wC (-3) fun v43 => post v43 M) (wIf (u2 < 0) (wC (-3) fun v45 => post v45 M) (wC 300 fun v47 => wIf (u2 ≤ v47) (wC (-1) fun v49 => wIf (u3 = v49) (wp_X11_rows_92 S post u0 u1 u2 u3 u4 M) (wIf (¬ u4 = 0) (wp_X11_rows_92 S post u0 u1 u2 u3 u4 M) (wIf (¬ t0 = 0) (wp_X11_rows_92 S post u0 u1 u2 u3 u4 M) (wC (-3) fun v51 => post v51 M)))) (wC (-3) fun v53 => post v53 M)))))
def wp_X11_rows_33 (S : Sh) (post : Int → Mm → Prop) (u0 : Int) (u1 : Int) (u2 : Int) (u3 : Int) (u4 : Int) (M : Mm) : Prop := wC 0 fun v55 => wp_X11_rows_34 S post u0 u1 u2 u3 u4 v55 M
def wp_X11_rows_15 (S : Sh) (post : Int → Mm → Prop) (u0 : Int) (u1 : Int) (u2 : Int) (u3 : Int) (t0 : Int) (M : Mm) : Prop := wC 20 fun v57 => wIf (u3 < v57) (wp_X11_rows_33 S post u0 u1 u2 u3 t0 M) (wC 31 fun v59 => wIf (v59 < u3) (wp_X11_rows_33 S post u0 u1 u2 u3 t0 M) (wC 1 fun v61 => wp_X11_rows_34 S post u0 u1 u2 u3 t0 v61 M))
def wp_X11_rows_14 (S : Sh) (post : Int → Mm → Prop) (u0 : Int) (u1 : Int) (u2 : Int) (u3 : Int) (M : Mm) : Prop := wC 0 fun v63 => wp_X11_rows_15 S post u0 u1 u2 u3 v63 M
def wp_X11_rows (S : Sh) (M : Mm) (u0 : Int) (u1 : Int) (u2 : Int) (u3 : Int) (post : Int → Mm → Prop) : Prop := wIf (u3 < 0) (wp_X11_rows_14 S post u0 u1 u2 u3 M) (wC 11 fun v65 => wIf (v65 < u3) (wp_X11_rows_14 S post u0 u1 u2 u3 M) (wC 1 fun v67 => wp_X11_rows_15 S post u0 u1 u2 u3 v67 M))
set_option maxHeartbeats 4000000 in
set_option maxRecDepth 100000 in
theorem t_X11_rows_133 {p : Program} {l : Launch} {e : Env} {s : State} {m : MethodId} {args : Array Value} {below : List Frame} {meth : Method} {c : Code} {D : va_G} {G : Gt} {S : Sh} {post : Int → Mm → Prop} (C : Cx p s m args meth c D G cX11_rows 8 (some .int) (cw_X11_rows :: gw) RX11) : ∀ (xl0 : Int) (zl1 : Int32) (zl2 : Int32) (zl4 : Int32) (zl6 : Int32) (zs0 : Int32) (M : Mm) (H : Heap) (locs : List Loc) (ls : Array Slot), Wd D G S M H → va_S (aG G) s.heap H locs → lv_has ls 8 [(0, .ref (adr G xl0)), (1, .int zl1), (2, .int zl2), (4, .int zl4), (6, .int zl6)] → wp_X11_rows_133 S post xl0 zl1.toInt zl2.toInt zl4.toInt zl6.toInt zs0.toInt M → W p l e RM_X11_rows s m args below meth c H locs 0 0 (MQ below (QI D G S post) args s 0 0 (aG G)) (F0 m 133 ls [.int zs0]) := by
  obtain ⟨hx, hb, hr, hlocks, hml, hown, hts, hK⟩ := id C
  intro xl0 zl1 zl2 zl4 zl6 zs0 M H locs ls hP hS hl h
  unfold wp_X11_rows_133 at h
  refine lv_istore (lv' := [(7, .int zs0), (0, .ref (adr G xl0)), (1, .int zl1), (2, .int zl2), (4, .int zl4), (6, .int zl6)]) hx hb dX11_rows_133 hl (by decide) rfl (fun ls hl => ?_)
  refine lv_iload hx hb dX11_rows_135 (lv_at hl 5 rfl) ?_
  refine r_if_eq (tgt := 146) hx hb dX11_rows_137 (by decide) h (fun h => ?_) (fun h => ?_)
  · refine r_bipush hx hb dX11_rows_146 (by decide) h (fun z2 h => ?_)
    exact r_iret hx hb hr hlocks hP hS dX11_rows_148 h
  · refine lv_iload hx hb dX11_rows_140 (lv_at hl 0 rfl) ?_
    refine lv_iload_n hx hb dX11_rows_142 rfl (lv_at hl 2 rfl) ?_
    refine r_icmp_lt (tgt := 149) hx hb dX11_rows_143 (by decide) h (fun h => ?_) (fun h => ?_)
    · refine lv_iload hx hb dX11_rows_149 (lv_at hl 4 rfl) ?_
      refine r_if_eq (tgt := 168) hx hb dX11_rows_151 (by decide) h (fun h => ?_) (fun h => ?_)
      · refine lv_aload_n hx hb dX11_rows_168 rfl (lv_at hl 1 rfl) ?_
        refine r_getr (C := RX11) (T := TX11) (N := 16) hx hb hts (fun w h => List.mem_cons_of_mem _ (iX11 w h)) hown hK hP rfl (by decide) rfl 13 (by decide) (hts _ (List.mem_cons_of_mem _ kw_504)) (fun _ h9 => h9) dX11_rows_169 (by decide) h (fun x4 h => ?_)
        refine lv_iload_n hx hb dX11_rows_172 rfl (lv_at hl 2 rfl) ?_
        refine lv_iload_n hx hb dX11_rows_173 rfl (lv_at hl 3 rfl) ?_
        refine lv_iload hx hb dX11_rows_174 (lv_at hl 0 rfl) ?_
        refine q_Vi hx hb hml hown hts hK hP hS (c_X6_handsInRows l D G S _ x4 zl1 zl2 zs0 _ h.2) ⟨callB_of 3 hts (gw_good kw_1257) rfl rfl rfl (hts _ (List.mem_cons_of_mem _ kw_12)) (hts _ (List.mem_cons_of_mem _ kw_1254)) hd_X6_handsInRows ⟨Nat.le_of_ble_eq_true rfl, Nat.le_of_ble_eq_true rfl⟩, (hts _ (List.mem_cons_of_mem _ kw_1255)), (hts _ (List.mem_cons_of_mem _ kw_1256))⟩ h.1 (ci := 6) rfl (by decide) rfl hl.1 rfl (lv_room (Nat.le_of_ble_eq_true rfl)) dX11_rows_176 ⟨Nat.zero_le _, Nat.zero_le _⟩ (fun z7 M5 H locs h hP hS => ?_)
        exact r_iret hx hb hr hlocks hP hS dX11_rows_179 h
      · refine lv_aload_n hx hb dX11_rows_154 rfl (lv_at hl 1 rfl) ?_
        refine r_getr (C := RX11) (T := TX11) (N := 16) hx hb hts (fun w h => List.mem_cons_of_mem _ (iX11 w h)) hown hK hP rfl (by decide) rfl 13 (by decide) (hts _ (List.mem_cons_of_mem _ kw_504)) (fun _ h9 => h9) dX11_rows_155 (by decide) h (fun x9 h => ?_)
        refine lv_iload_n hx hb dX11_rows_158 rfl (lv_at hl 2 rfl) ?_
        refine lv_iload_n hx hb dX11_rows_159 rfl (lv_at hl 3 rfl) ?_
        refine lv_iload hx hb dX11_rows_160 (lv_at hl 0 rfl) ?_
        refine q_Vi hx hb hml hown hts hK hP hS (c_X6_handInFirstRow l D G S _ x9 zl1 zl2 zs0 _ h.2) ⟨callB_of 3 hts (gw_good kw_1249) rfl rfl rfl (hts _ (List.mem_cons_of_mem _ kw_12)) (hts _ (List.mem_cons_of_mem _ kw_1246)) hd_X6_handInFirstRow ⟨Nat.le_of_ble_eq_true rfl, Nat.le_of_ble_eq_true rfl⟩, (hts _ (List.mem_cons_of_mem _ kw_1247)), (hts _ (List.mem_cons_of_mem _ kw_1248))⟩ h.1 (ci := 6) rfl (by decide) rfl hl.1 rfl (lv_room (Nat.le_of_ble_eq_true rfl)) dX11_rows_162 ⟨Nat.zero_le _, Nat.zero_le _⟩ (fun z12 M10 H locs h hP hS => ?_)
        refine lv_goto (tgt := 179) hx hb dX11_rows_165 (by decide) ?_
        exact r_iret hx hb hr hlocks hP hS dX11_rows_179 h
    · refine r_bipush hx hb dX11_rows_146 (by decide) h (fun z14 h => ?_)
      exact r_iret hx hb hr hlocks hP hS dX11_rows_148 h
set_option maxHeartbeats 4000000 in
set_option maxRecDepth 100000 in
theorem t_X11_rows_92 {p : Program} {l : Launch} {e : Env} {s : State} {m : MethodId} {args : Array Value} {below : List Frame} {meth : Method} {c : Code} {D : va_G} {G : Gt} {S : Sh} {post : Int → Mm → Prop} (C : Cx p s m args meth c D G cX11_rows 8 (some .int) (cw_X11_rows :: gw) RX11) : ∀ (xl0 : Int) (zl1 : Int32) (zl2 : Int32) (zl3 : Int32) (zl4 : Int32) (M : Mm) (H : Heap) (locs : List Loc) (ls : Array Slot), Wd D G S M H → va_S (aG G) s.heap H locs → lv_has ls 8 [(0, .ref (adr G xl0)), (1, .int zl1), (2, .int zl2), (3, .int zl3), (4, .int zl4)] → wp_X11_rows_92 S post xl0 zl1.toInt zl2.toInt zl3.toInt zl4.toInt  M → W p l e RM_X11_rows s m args below meth c H locs 0 0 (MQ below (QI D G S post) args s 0 0 (aG G)) (F0 m 92 ls []) := by
  obtain ⟨hx, hb, hr, hlocks, hml, hown, hts, hK⟩ := id C
  intro xl0 zl1 zl2 zl3 zl4 M H locs ls hP hS hl h
  unfold wp_X11_rows_92 at h
  refine lv_aload_n hx hb dX11_rows_92 rfl (lv_at hl 0 rfl) ?_
  refine r_getr (C := RX11) (T := TX11) (N := 16) hx hb hts (fun w h => List.mem_cons_of_mem _ (iX11 w h)) hown hK hP rfl (by decide) rfl 13 (by decide) (hts _ (List.mem_cons_of_mem _ kw_504)) (fun _ h9 => h9) dX11_rows_93 (by decide) h (fun x16 h => ?_)
  refine lv_iload_n hx hb dX11_rows_96 rfl (lv_at hl 1 rfl) ?_
  refine lv_iload_n hx hb dX11_rows_97 rfl (lv_at hl 2 rfl) ?_
  refine q_Vv hx hb hml hown hts hK hP hS (c_X6_countRows l D G S _ x16 zl1 zl2 _ h.2) ⟨callB_of 2 hts (gw_good kw_1238) rfl rfl rfl (hts _ (List.mem_cons_of_mem _ kw_12)) (hts _ (List.mem_cons_of_mem _ kw_1235)) hd_X6_countRows ⟨Nat.le_of_ble_eq_true rfl, Nat.le_of_ble_eq_true rfl⟩, (hts _ (List.mem_cons_of_mem _ kw_1236)), (hts _ (List.mem_cons_of_mem _ kw_1237))⟩ h.1 (ci := 6) rfl (by decide) rfl hl.1 rfl (lv_room (Nat.le_of_ble_eq_true rfl)) dX11_rows_98 ⟨Nat.zero_le _, Nat.zero_le _⟩ (fun M17 H locs h hP hS => ?_)
  refine lv_aload_n hx hb dX11_rows_101 rfl (lv_at hl 0 rfl) ?_
  refine r_getr (C := RX11) (T := TX11) (N := 16) hx hb hts (fun w h => List.mem_cons_of_mem _ (iX11 w h)) hown hK hP rfl (by decide) rfl 13 (by decide) (hts _ (List.mem_cons_of_mem _ kw_504)) (fun _ h9 => h9) dX11_rows_102 (by decide) h (fun x19 h => ?_)
  refine lv_iload_n hx hb dX11_rows_105 rfl (lv_at hl 1 rfl) ?_
  refine lv_iload_n hx hb dX11_rows_106 rfl (lv_at hl 2 rfl) ?_
  refine q_Vi hx hb hml hown hts hK hP hS (c_X6_rowsOf l D G S _ x19 zl1 zl2 _ h.2) ⟨callB_of 2 hts (gw_good kw_1243) rfl rfl rfl (hts _ (List.mem_cons_of_mem _ kw_12)) (hts _ (List.mem_cons_of_mem _ kw_1245)) hd_X6_rowsOf ⟨Nat.le_of_ble_eq_true rfl, Nat.le_of_ble_eq_true rfl⟩, (hts _ (List.mem_cons_of_mem _ kw_1241)), (hts _ (List.mem_cons_of_mem _ kw_1242))⟩ h.1 (ci := 6) rfl (by decide) rfl hl.1 rfl (lv_room (Nat.le_of_ble_eq_true rfl)) dX11_rows_107 ⟨Nat.zero_le _, Nat.zero_le _⟩ (fun z22 M20 H locs h hP hS => ?_)
  refine lv_istore (lv' := [(6, .int z22), (0, .ref (adr G xl0)), (1, .int zl1), (2, .int zl2), (3, .int zl3), (4, .int zl4)]) hx hb dX11_rows_110 hl (by decide) rfl (fun ls hl => ?_)
  refine lv_iload_n hx hb dX11_rows_112 rfl (lv_at hl 4 rfl) ?_
  refine r_iconst hx hb dX11_rows_113 (by decide) h (fun z24 h => ?_)
  refine r_icmp_ne (tgt := 120) hx hb dX11_rows_114 (by decide) h (fun h => ?_) (fun h => ?_)
  · refine lv_iload hx hb dX11_rows_120 (lv_at hl 5 rfl) ?_
    refine r_if_eq (tgt := 129) hx hb dX11_rows_122 (by decide) h (fun h => ?_) (fun h => ?_)
    · refine lv_iload_n hx hb dX11_rows_129 rfl (lv_at hl 4 rfl) ?_
      refine r_bipush hx hb dX11_rows_130 (by decide) h (fun z26 h => ?_)
      refine r_isub hx hb dX11_rows_132 h (fun z28 h => ?_)
      exact t_X11_rows_133 C xl0 zl1 zl2 zl4 z22 z28 _ _ _ _ hP hS (lv_sub hl [1, 2, 3, 5, 0] rfl) h
    · refine lv_iload_n hx hb dX11_rows_125 rfl (lv_at hl 4 rfl) ?_
      refine lv_goto (tgt := 133) hx hb dX11_rows_126 (by decide) ?_
      exact t_X11_rows_133 C xl0 zl1 zl2 zl4 z22 zl3 _ _ _ _ hP hS (lv_sub hl [1, 2, 3, 5, 0] rfl) h
  · refine lv_iload hx hb dX11_rows_117 (lv_at hl 0 rfl) ?_
    exact r_iret hx hb hr hlocks hP hS dX11_rows_119 h
set_option maxHeartbeats 4000000 in
set_option maxRecDepth 100000 in
theorem t_X11_rows_34 {p : Program} {l : Launch} {e : Env} {s : State} {m : MethodId} {args : Array Value} {below : List Frame} {meth : Method} {c : Code} {D : va_G} {G : Gt} {S : Sh} {post : Int → Mm → Prop} (C : Cx p s m args meth c D G cX11_rows 8 (some .int) (cw_X11_rows :: gw) RX11) : ∀ (xl0 : Int) (zl1 : Int32) (zl2 : Int32) (zl3 : Int32) (zl4 : Int32) (zs0 : Int32) (M : Mm) (H : Heap) (locs : List Loc) (ls : Array Slot), Wd D G S M H → va_S (aG G) s.heap H locs → lv_has ls 8 [(0, .ref (adr G xl0)), (1, .int zl1), (2, .int zl2), (3, .int zl3), (4, .int zl4)] → wp_X11_rows_34 S post xl0 zl1.toInt zl2.toInt zl3.toInt zl4.toInt zs0.toInt M → W p l e RM_X11_rows s m args below meth c H locs 0 0 (MQ below (QI D G S post) args s 0 0 (aG G)) (F0 m 34 ls [.int zs0]) := by
  obtain ⟨hx, hb, hr, hlocks, hml, hown, hts, hK⟩ := id C
  intro xl0 zl1 zl2 zl3 zl4 zs0 M H locs ls hP hS hl h
  unfold wp_X11_rows_34 at h
  refine lv_istore (lv' := [(5, .int zs0), (0, .ref (adr G xl0)), (1, .int zl1), (2, .int zl2), (3, .int zl3), (4, .int zl4)]) hx hb dX11_rows_34 hl (by decide) rfl (fun ls hl => ?_)
  refine lv_aload_n hx hb dX11_rows_36 rfl (lv_at hl 1 rfl) ?_
  refine r_getr (C := RX11) (T := TX11) (N := 16) hx hb hts (fun w h => List.mem_cons_of_mem _ (iX11 w h)) hown hK hP rfl (by decide) rfl 1 (by decide) (hts _ (List.mem_cons_of_mem _ kw_492)) (fun _ h9 => h9) dX11_rows_37 (by decide) h (fun x30 h => ?_)
  refine r_getrN (C := RX4) (T := TX4) (N := 10) hx hb hts (fun w h => List.mem_cons_of_mem _ (iX4 w h)) hown hK hP rfl (by decide) rfl 0 (by decide) (nw_70 hK) (fun _ h9 => h9) dX11_rows_40 (by decide) h (fun x32 h => ?_)
  refine r_getiN (C := RX8) (T := TX8) (N := 19) hx hb hts (fun w h => List.mem_cons_of_mem _ (iX8 w h)) hown hK hP rfl (by decide) rfl 0 (by decide) (nw_4 hK) (fun _ h9 => h9) dX11_rows_43 (by decide) h (fun z34 h => ?_)
  refine r_if_eq (tgt := 71) hx hb dX11_rows_46 (by decide) h (fun h => ?_) (fun h => ?_)
  · refine r_bipush hx hb dX11_rows_71 (by decide) h (fun z36 h => ?_)
    exact r_iret hx hb hr hlocks hP hS dX11_rows_73 h
  · refine lv_iload_n hx hb dX11_rows_49 rfl (lv_at hl 2 rfl) ?_
    refine r_iconst hx hb dX11_rows_50 (by decide) h (fun z38 h => ?_)
    refine r_icmp_lt (tgt := 71) hx hb dX11_rows_51 (by decide) h (fun h => ?_) (fun h => ?_)
    · refine r_bipush hx hb dX11_rows_71 (by decide) h (fun z40 h => ?_)
      exact r_iret hx hb hr hlocks hP hS dX11_rows_73 h
    · refine lv_iload_n hx hb dX11_rows_54 rfl (lv_at hl 2 rfl) ?_
      refine r_bipush hx hb dX11_rows_55 (by decide) h (fun z42 h => ?_)
      refine r_icmp_gt (tgt := 71) hx hb dX11_rows_57 (by decide) h (fun h => ?_) (fun h => ?_)
      · refine r_bipush hx hb dX11_rows_71 (by decide) h (fun z44 h => ?_)
        exact r_iret hx hb hr hlocks hP hS dX11_rows_73 h
      · refine lv_iload_n hx hb dX11_rows_60 rfl (lv_at hl 3 rfl) ?_
        refine r_if_lt (tgt := 71) hx hb dX11_rows_61 (by decide) h (fun h => ?_) (fun h => ?_)
        · refine r_bipush hx hb dX11_rows_71 (by decide) h (fun z46 h => ?_)
          exact r_iret hx hb hr hlocks hP hS dX11_rows_73 h
        · refine lv_iload_n hx hb dX11_rows_64 rfl (lv_at hl 3 rfl) ?_
          refine r_sipush hx hb dX11_rows_65 (by decide) h (fun z48 h => ?_)
          refine r_icmp_le (tgt := 74) hx hb dX11_rows_68 (by decide) h (fun h => ?_) (fun h => ?_)
          · refine lv_iload_n hx hb dX11_rows_74 rfl (lv_at hl 4 rfl) ?_
            refine r_iconst hx hb dX11_rows_75 (by decide) h (fun z50 h => ?_)
            refine r_icmp_eq (tgt := 92) hx hb dX11_rows_76 (by decide) h (fun h => ?_) (fun h => ?_)
            · exact t_X11_rows_92 C xl0 zl1 zl2 zl3 zl4 _ _ _ _ hP hS (lv_sub hl [1, 2, 3, 4, 5] rfl) h
            · refine lv_iload hx hb dX11_rows_79 (lv_at hl 5 rfl) ?_
              refine r_if_ne (tgt := 92) hx hb dX11_rows_81 (by decide) h (fun h => ?_) (fun h => ?_)
              · exact t_X11_rows_92 C xl0 zl1 zl2 zl3 zl4 _ _ _ _ hP hS (lv_sub hl [1, 2, 3, 4, 5] rfl) h
              · refine lv_iload hx hb dX11_rows_84 (lv_at hl 0 rfl) ?_
                refine r_if_ne (tgt := 92) hx hb dX11_rows_86 (by decide) h (fun h => ?_) (fun h => ?_)
                · exact t_X11_rows_92 C xl0 zl1 zl2 zl3 zl4 _ _ _ _ hP hS (lv_sub hl [1, 2, 3, 4, 5] rfl) h
                · refine r_bipush hx hb dX11_rows_89 (by decide) h (fun z52 h => ?_)
                  exact r_iret hx hb hr hlocks hP hS dX11_rows_91 h
          · refine r_bipush hx hb dX11_rows_71 (by decide) h (fun z54 h => ?_)
            exact r_iret hx hb hr hlocks hP hS dX11_rows_73 h
set_option maxHeartbeats 4000000 in
set_option maxRecDepth 100000 in
theorem t_X11_rows_33 {p : Program} {l : Launch} {e : Env} {s : State} {m : MethodId} {args : Array Value} {below : List Frame} {meth : Method} {c : Code} {D : va_G} {G : Gt} {S : Sh} {post : Int → Mm → Prop} (C : Cx p s m args meth c D G cX11_rows 8 (some .int) (cw_X11_rows :: gw) RX11) : ∀ (xl0 : Int) (zl1 : Int32) (zl2 : Int32) (zl3 : Int32) (zl4 : Int32) (M : Mm) (H : Heap) (locs : List Loc) (ls : Array Slot), Wd D G S M H → va_S (aG G) s.heap H locs → lv_has ls 8 [(0, .ref (adr G xl0)), (1, .int zl1), (2, .int zl2), (3, .int zl3), (4, .int zl4)] → wp_X11_rows_33 S post xl0 zl1.toInt zl2.toInt zl3.toInt zl4.toInt  M → W p l e RM_X11_rows s m args below meth c H locs 0 0 (MQ below (QI D G S post) args s 0 0 (aG G)) (F0 m 33 ls []) := by
  obtain ⟨hx, hb, hr, hlocks, hml, hown, hts, hK⟩ := id C
  intro xl0 zl1 zl2 zl3 zl4 M H locs ls hP hS hl h
  unfold wp_X11_rows_33 at h
  refine r_iconst hx hb dX11_rows_33 (by decide) h (fun z56 h => ?_)
  exact t_X11_rows_34 C xl0 zl1 zl2 zl3 zl4 z56 _ _ _ _ hP hS (lv_sub hl [0, 1, 2, 3, 4] rfl) h
set_option maxHeartbeats 4000000 in
set_option maxRecDepth 100000 in
theorem t_X11_rows_15 {p : Program} {l : Launch} {e : Env} {s : State} {m : MethodId} {args : Array Value} {below : List Frame} {meth : Method} {c : Code} {D : va_G} {G : Gt} {S : Sh} {post : Int → Mm → Prop} (C : Cx p s m args meth c D G cX11_rows 8 (some .int) (cw_X11_rows :: gw) RX11) : ∀ (xl0 : Int) (zl1 : Int32) (zl2 : Int32) (zl3 : Int32) (zs0 : Int32) (M : Mm) (H : Heap) (locs : List Loc) (ls : Array Slot), Wd D G S M H → va_S (aG G) s.heap H locs → lv_has ls 8 [(0, .ref (adr G xl0)), (1, .int zl1), (2, .int zl2), (3, .int zl3)] → wp_X11_rows_15 S post xl0 zl1.toInt zl2.toInt zl3.toInt zs0.toInt M → W p l e RM_X11_rows s m args below meth c H locs 0 0 (MQ below (QI D G S post) args s 0 0 (aG G)) (F0 m 15 ls [.int zs0]) := by
  obtain ⟨hx, hb, hr, hlocks, hml, hown, hts, hK⟩ := id C
  intro xl0 zl1 zl2 zl3 zs0 M H locs ls hP hS hl h
  unfold wp_X11_rows_15 at h
  refine lv_istore (lv' := [(4, .int zs0), (0, .ref (adr G xl0)), (1, .int zl1), (2, .int zl2), (3, .int zl3)]) hx hb dX11_rows_15 hl (by decide) rfl (fun ls hl => ?_)
  refine lv_iload_n hx hb dX11_rows_17 rfl (lv_at hl 4 rfl) ?_
  refine r_bipush hx hb dX11_rows_18 (by decide) h (fun z58 h => ?_)
  refine r_icmp_lt (tgt := 33) hx hb dX11_rows_20 (by decide) h (fun h => ?_) (fun h => ?_)
  · exact t_X11_rows_33 C xl0 zl1 zl2 zl3 zs0 _ _ _ _ hP hS (lv_sub hl [1, 2, 3, 4, 0] rfl) h
  · refine lv_iload_n hx hb dX11_rows_23 rfl (lv_at hl 4 rfl) ?_
    refine r_bipush hx hb dX11_rows_24 (by decide) h (fun z60 h => ?_)
    refine r_icmp_gt (tgt := 33) hx hb dX11_rows_26 (by decide) h (fun h => ?_) (fun h => ?_)
    · exact t_X11_rows_33 C xl0 zl1 zl2 zl3 zs0 _ _ _ _ hP hS (lv_sub hl [1, 2, 3, 4, 0] rfl) h
    · refine r_iconst hx hb dX11_rows_29 (by decide) h (fun z62 h => ?_)
      refine lv_goto (tgt := 34) hx hb dX11_rows_30 (by decide) ?_
      exact t_X11_rows_34 C xl0 zl1 zl2 zl3 zs0 z62 _ _ _ _ hP hS (lv_sub hl [1, 2, 3, 4, 0] rfl) h
set_option maxHeartbeats 4000000 in
set_option maxRecDepth 100000 in
theorem t_X11_rows_14 {p : Program} {l : Launch} {e : Env} {s : State} {m : MethodId} {args : Array Value} {below : List Frame} {meth : Method} {c : Code} {D : va_G} {G : Gt} {S : Sh} {post : Int → Mm → Prop} (C : Cx p s m args meth c D G cX11_rows 8 (some .int) (cw_X11_rows :: gw) RX11) : ∀ (xl0 : Int) (zl1 : Int32) (zl2 : Int32) (zl3 : Int32) (M : Mm) (H : Heap) (locs : List Loc) (ls : Array Slot), Wd D G S M H → va_S (aG G) s.heap H locs → lv_has ls 8 [(0, .ref (adr G xl0)), (1, .int zl1), (2, .int zl2), (3, .int zl3)] → wp_X11_rows_14 S post xl0 zl1.toInt zl2.toInt zl3.toInt  M → W p l e RM_X11_rows s m args below meth c H locs 0 0 (MQ below (QI D G S post) args s 0 0 (aG G)) (F0 m 14 ls []) := by
  obtain ⟨hx, hb, hr, hlocks, hml, hown, hts, hK⟩ := id C
  intro xl0 zl1 zl2 zl3 M H locs ls hP hS hl h
  unfold wp_X11_rows_14 at h
  refine r_iconst hx hb dX11_rows_14 (by decide) h (fun z64 h => ?_)
  exact t_X11_rows_15 C xl0 zl1 zl2 zl3 z64 _ _ _ _ hP hS (lv_sub hl [0, 1, 2, 3] rfl) h
set_option maxHeartbeats 4000000 in
set_option maxRecDepth 100000 in
theorem c_X11_rows (l : Launch) (D : va_G) (G : Gt) (S : Sh) (M : Mm) (xl0 : Int) (zl1 : Int32) (zl2 : Int32) (zl3 : Int32) (post : Int → Mm → Prop) (h : wp_X11_rows S M xl0 zl1.toInt zl2.toInt zl3.toInt post) : Met l yX11_rows (cw_X11_rows :: gw) RM_X11_rows (va_Pc [.ref (adr G xl0), .int zl1, .int zl2, .int zl3] (fun U => KN D G U ∧ Wd D G S M U.heap)) (QI D G S post) 0 0 (aG G) := by
  refine Met.ofW (cc := cX11_rows) (maxL := 8) (ret := (some .int)) (by decide) rfl ?_
  intro p e s m args below meth c s₁ B hml hv
  obtain ⟨rfl, hK, hP⟩ := hv
  have hx := B.exec
  have hb := B.bytes
  have hr := B.returns
  have hts := atoms_spec (ws := cw_X11_rows :: gw) B.pre
  have hown : s.vm.findClass RX11 = some m.cls := findClass_of_methodNamed B.named
  have hlocks := B.notSynchronized
  have hS : va_S (aG G) s.heap s.heap [] := va_S.rf
  have C : Cx p s m ([.ref (adr G xl0), .int zl1, .int zl2, .int zl3] : List Value).toArray meth c D G cX11_rows 8 (some .int) (cw_X11_rows :: gw) RX11 := ⟨hx, hb, hr, hlocks, hml, hown, hts, hK⟩
  have hl := lv_entry ([.ref (adr G xl0), .int zl1, .int zl2, .int zl3]) (n := 8) (Nat.le_of_ble_eq_true rfl)
  rw [lg_entry_eq]
  generalize (lg_sl ([.ref (adr G xl0), .int zl1, .int zl2, .int zl3]) ++ List.replicate (8 - (lg_sl ([.ref (adr G xl0), .int zl1, .int zl2, .int zl3])).length) Slot.unset).toArray = ls at hl ⊢
  have hl : lv_has ls 8 [(0, .ref (adr G xl0)), (1, .int zl1), (2, .int zl2), (3, .int zl3)] := hl
  unfold wp_X11_rows at h
  refine lv_iload_n hx hb dX11_rows_0 rfl (lv_at hl 3 rfl) ?_
  refine r_if_lt (tgt := 14) hx hb dX11_rows_1 (by decide) h (fun h => ?_) (fun h => ?_)
  · exact t_X11_rows_14 C xl0 zl1 zl2 zl3 _ _ _ _ hP hS (lv_sub hl [0, 1, 2, 3] rfl) h
  · refine lv_iload_n hx hb dX11_rows_4 rfl (lv_at hl 3 rfl) ?_
    refine r_bipush hx hb dX11_rows_5 (by decide) h (fun z66 h => ?_)
    refine r_icmp_gt (tgt := 14) hx hb dX11_rows_7 (by decide) h (fun h => ?_) (fun h => ?_)
    · exact t_X11_rows_14 C xl0 zl1 zl2 zl3 _ _ _ _ hP hS (lv_sub hl [0, 1, 2, 3] rfl) h
    · refine r_iconst hx hb dX11_rows_10 (by decide) h (fun z68 h => ?_)
      refine lv_goto (tgt := 15) hx hb dX11_rows_11 (by decide) ?_
      exact t_X11_rows_15 C xl0 zl1 zl2 zl3 z68 _ _ _ _ hP hS (lv_sub hl [0, 1, 2, 3] rfl) h
/-! TurningMilk$State.turnedTogether()I -/
abbrev RM_X5_turnedTogether : Room := { frames := 2, cells := 0, slots := 0, locals := 61 }
def cw_X5_turnedTogether : Cond := Cond.code yX5_turnedTogether cX5_turnedTogether 3 (Option.some FieldType.int)
theorem hd_X5_turnedTogether : yX5_turnedTogether.cls ≠ "java/lang/invoke/MethodHandle" ∧ yX5_turnedTogether.cls ≠ "java/lang/invoke/VarHandle" ∧ (parseMethodDescriptor yX5_turnedTogether.desc).map (fun d => d.parameters.length) = some 0 := by decide +kernel
theorem dX5_turnedTogether_0 : decode cX5_turnedTogether 0 = .ok (.iconst 0, 1) := by decide +kernel
theorem dX5_turnedTogether_1 : decode cX5_turnedTogether 1 = .ok (.istore_n 1, 1) := by decide +kernel
theorem dX5_turnedTogether_2 : decode cX5_turnedTogether 2 = .ok (.iconst 0, 1) := by decide +kernel
theorem dX5_turnedTogether_3 : decode cX5_turnedTogether 3 = .ok (.istore_n 2, 1) := by decide +kernel
theorem dX5_turnedTogether_4 : decode cX5_turnedTogether 4 = .ok (.iload_n 2, 1) := by decide +kernel
theorem dX5_turnedTogether_5 : decode cX5_turnedTogether 5 = .ok (.iconst 4, 1) := by decide +kernel
theorem dX5_turnedTogether_6 : decode cX5_turnedTogether 6 = .ok (.if_icmp .ge 30, 3) := by decide +kernel
theorem dX5_turnedTogether_9 : decode cX5_turnedTogether 9 = .ok (.iload_n 1, 1) := by decide +kernel
theorem dX5_turnedTogether_10 : decode cX5_turnedTogether 10 = .ok (.aload_n 0, 1) := by decide +kernel
theorem dX5_turnedTogether_11 : decode cX5_turnedTogether 11 = .ok (.iload_n 2, 1) := by decide +kernel
theorem dX5_turnedTogether_12 : decode cX5_turnedTogether 12 = .ok (.invokevirtual 88, 3) := by decide +kernel
theorem dX5_turnedTogether_15 : decode cX5_turnedTogether 15 = .ok (.ifCond .eq 7, 3) := by decide +kernel
theorem dX5_turnedTogether_18 : decode cX5_turnedTogether 18 = .ok (.iconst 0, 1) := by decide +kernel
theorem dX5_turnedTogether_19 : decode cX5_turnedTogether 19 = .ok (.goto 9, 3) := by decide +kernel
theorem dX5_turnedTogether_22 : decode cX5_turnedTogether 22 = .ok (.aload_n 0, 1) := by decide +kernel
theorem dX5_turnedTogether_23 : decode cX5_turnedTogether 23 = .ok (.getfield 27, 3) := by decide +kernel
theorem dX5_turnedTogether_26 : decode cX5_turnedTogether 26 = .ok (.iload_n 2, 1) := by decide +kernel
theorem dX5_turnedTogether_27 : decode cX5_turnedTogether 27 = .ok (.iaload, 1) := by decide +kernel
theorem dX5_turnedTogether_28 : decode cX5_turnedTogether 28 = .ok (.iadd, 1) := by decide +kernel
theorem dX5_turnedTogether_29 : decode cX5_turnedTogether 29 = .ok (.istore_n 1, 1) := by decide +kernel
theorem dX5_turnedTogether_30 : decode cX5_turnedTogether 30 = .ok (.iinc 2 1, 3) := by decide +kernel
theorem dX5_turnedTogether_33 : decode cX5_turnedTogether 33 = .ok (.goto (-29), 3) := by decide +kernel
theorem dX5_turnedTogether_36 : decode cX5_turnedTogether 36 = .ok (.iload_n 1, 1) := by decide +kernel
theorem dX5_turnedTogether_37 : decode cX5_turnedTogether 37 = .ok (.ireturn, 1) := by decide +kernel
def wp_X5_turnedTogether_28 (S : Sh) (k4 : Int → Int → Int → Mm → Prop) (post : Int → Mm → Prop) (u0 : Int) (u2 : Int) (t0 : Int) (t1 : Int) (M : Mm) : Prop := wA t0 t1 fun v1 => wA u2 1 fun v3 => k4 u0 v1 v3 M
def wp_X5_turnedTogether_4 (S : Sh) (post : Int → Mm → Prop) : Nat → Int → Int → Int → Mm → Prop
  | 0, _, _, _, _ => False
  | n + 1, u0, u1, u2, M => wC 4 fun v5 => wIf (v5 ≤ u2) (post u1 M) (isK S u0 5 ∧ (wp_X5_isGone S M u0 u2 <| fun v8 M7 => wIf (v8 = 0) (wGetR S M7 u0 5 7 fun v10 => wLd S M7 v10 14 u2 fun v12 => wp_X5_turnedTogether_28 S (fun a0 a1 a2 M => wp_X5_turnedTogether_4 S post n a0 a1 a2 M) post u0 u2 u1 v12 M7) (wC 0 fun v14 => wp_X5_turnedTogether_28 S (fun a0 a1 a2 M => wp_X5_turnedTogether_4 S post n a0 a1 a2 M) post u0 u2 u1 v14 M7)))
def wp_X5_turnedTogether (S : Sh) (M : Mm) (u0 : Int) (post : Int → Mm → Prop) : Prop := wC 0 fun v16 => wC 0 fun v18 => ∃ n9 : Nat, wp_X5_turnedTogether_4 S post n9 u0 v16 v18 M
set_option maxHeartbeats 4000000 in
set_option maxRecDepth 100000 in
theorem t_X5_turnedTogether_28 {p : Program} {l : Launch} {e : Env} {s : State} {m : MethodId} {args : Array Value} {below : List Frame} {meth : Method} {c : Code} {D : va_G} {G : Gt} {S : Sh} {post : Int → Mm → Prop} {k4 : Int → Int → Int → Mm → Prop} (C : Cx p s m args meth c D G cX5_turnedTogether 3 (some .int) (cw_X5_turnedTogether :: gw) RX5) (hk4 : ∀ (y0 : Int) (y1 : Int32) (y2 : Int32) (M : Mm) (H : Heap) (locs : List Loc) (ls : Array Slot), Wd D G S M H → va_S (aG G) s.heap H locs → lv_has ls 3 [(0, .ref (adr G y0)), (1, .int y1), (2, .int y2)] → k4 y0 y1.toInt y2.toInt M → W p l e RM_X5_turnedTogether s m args below meth c H locs 0 0 (MQ below (QI D G S post) args s 0 0 (aG G)) (F0 m 4 ls [])) : ∀ (xl0 : Int) (zl2 : Int32) (zs0 : Int32) (zs1 : Int32) (M : Mm) (H : Heap) (locs : List Loc) (ls : Array Slot), Wd D G S M H → va_S (aG G) s.heap H locs → lv_has ls 3 [(0, .ref (adr G xl0)), (2, .int zl2)] → wp_X5_turnedTogether_28 S k4 post xl0 zl2.toInt zs0.toInt zs1.toInt M → W p l e RM_X5_turnedTogether s m args below meth c H locs 0 0 (MQ below (QI D G S post) args s 0 0 (aG G)) (F0 m 28 ls [.int zs1, .int zs0]) := by
  obtain ⟨hx, hb, hr, hlocks, hml, hown, hts, hK⟩ := id C
  intro xl0 zl2 zs0 zs1 M H locs ls hP hS hl h
  unfold wp_X5_turnedTogether_28 at h
  refine r_iadd hx hb dX5_turnedTogether_28 h (fun z2 h => ?_)
  refine lv_istore_n (lv' := [(1, .int z2), (0, .ref (adr G xl0)), (2, .int zl2)]) hx hb dX5_turnedTogether_29 rfl hl (by decide) rfl (fun ls hl => ?_)
  refine r_iinc hx hb (fun z4 => [(2, .int z4), (1, .int z2), (0, .ref (adr G xl0))]) dX5_turnedTogether_30 (by decide) hl (k := 2) rfl (by decide) (fun _ => rfl) h (fun z4 ls hl h => ?_)
  refine lv_goto (tgt := 4) hx hb dX5_turnedTogether_33 (by decide) ?_
  exact hk4 xl0 z2 z4 _ _ _ _ hP hS (lv_sub hl [2, 1, 0] rfl) h
set_option maxHeartbeats 4000000 in
set_option maxRecDepth 100000 in
theorem t_X5_turnedTogether_4 {p : Program} {l : Launch} {e : Env} {s : State} {m : MethodId} {args : Array Value} {below : List Frame} {meth : Method} {c : Code} {D : va_G} {G : Gt} {S : Sh} {post : Int → Mm → Prop} (C : Cx p s m args meth c D G cX5_turnedTogether 3 (some .int) (cw_X5_turnedTogether :: gw) RX5) : ∀ (n : Nat) (xl0 : Int) (zl1 : Int32) (zl2 : Int32) (M : Mm) (H : Heap) (locs : List Loc) (ls : Array Slot), Wd D G S M H → va_S (aG G) s.heap H locs → lv_has ls 3 [(0, .ref (adr G xl0)), (1, .int zl1), (2, .int zl2)] → wp_X5_turnedTogether_4 S post n xl0 zl1.toInt zl2.toInt  M → W p l e RM_X5_turnedTogether s m args below meth c H locs 0 0 (MQ below (QI D G S post) args s 0 0 (aG G)) (F0 m 4 ls []) := by
  obtain ⟨hx, hb, hr, hlocks, hml, hown, hts, hK⟩ := id C
  intro n
  induction n with
  | zero => intro xl0 zl1 zl2 M H locs ls hP hS hl h; exact h.elim
  | succ n ih =>
    intro xl0 zl1 zl2 M H locs ls hP hS hl h
    unfold wp_X5_turnedTogether_4 at h
    refine lv_iload_n hx hb dX5_turnedTogether_4 rfl (lv_at hl 2 rfl) ?_
    refine r_iconst hx hb dX5_turnedTogether_5 (by decide) h (fun z6 h => ?_)
    refine r_icmp_ge (tgt := 36) hx hb dX5_turnedTogether_6 (by decide) h (fun h => ?_) (fun h => ?_)
    · refine lv_iload_n hx hb dX5_turnedTogether_36 rfl (lv_at hl 1 rfl) ?_
      exact r_iret hx hb hr hlocks hP hS dX5_turnedTogether_37 h
    · refine lv_iload_n hx hb dX5_turnedTogether_9 rfl (lv_at hl 1 rfl) ?_
      refine lv_aload_n hx hb dX5_turnedTogether_10 rfl (lv_at hl 0 rfl) ?_
      refine lv_iload_n hx hb dX5_turnedTogether_11 rfl (lv_at hl 2 rfl) ?_
      refine q_Vi hx hb hml hown hts hK hP hS (c_X5_isGone l D G S _ xl0 zl2 _ h.2) ⟨callB_of 1 hts (gw_good kw_897) rfl rfl rfl (hts _ (List.mem_cons_of_mem _ kw_5)) (hts _ (List.mem_cons_of_mem _ kw_1266)) hd_X5_isGone ⟨Nat.le_of_ble_eq_true rfl, Nat.le_of_ble_eq_true rfl⟩, (hts _ (List.mem_cons_of_mem _ kw_895)), (hts _ (List.mem_cons_of_mem _ kw_896))⟩ h.1 (ci := 5) rfl (by decide) rfl hl.1 rfl (lv_room (Nat.le_of_ble_eq_true rfl)) dX5_turnedTogether_12 ⟨Nat.zero_le _, Nat.zero_le _⟩ (fun z9 M7 H locs h hP hS => ?_)
      refine r_if_eq (tgt := 22) hx hb dX5_turnedTogether_15 (by decide) h (fun h => ?_) (fun h => ?_)
      · refine lv_aload_n hx hb dX5_turnedTogether_22 rfl (lv_at hl 0 rfl) ?_
        refine r_getr (C := RX5) (T := TX5) (N := 9) hx hb hts (fun w h => List.mem_cons_of_mem _ (iX5 w h)) hown hK hP rfl (by decide) rfl 7 (by decide) (hts _ (List.mem_cons_of_mem _ kw_203)) (fun _ h9 => h9) dX5_turnedTogether_23 (by decide) h (fun x11 h => ?_)
        refine lv_iload_n hx hb dX5_turnedTogether_26 rfl (lv_at hl 2 rfl) ?_
        refine r_iald hx hb hK hP dX5_turnedTogether_27 h (fun z13 h => ?_)
        exact t_X5_turnedTogether_28 C ih xl0 zl2 zl1 z13 _ _ _ _ hP hS (lv_sub hl [0, 2] rfl) h
      · refine r_iconst hx hb dX5_turnedTogether_18 (by decide) h (fun z15 h => ?_)
        refine lv_goto (tgt := 28) hx hb dX5_turnedTogether_19 (by decide) ?_
        exact t_X5_turnedTogether_28 C ih xl0 zl2 zl1 z15 _ _ _ _ hP hS (lv_sub hl [0, 2] rfl) h
set_option maxHeartbeats 4000000 in
set_option maxRecDepth 100000 in
theorem c_X5_turnedTogether (l : Launch) (D : va_G) (G : Gt) (S : Sh) (M : Mm) (xl0 : Int) (post : Int → Mm → Prop) (h : wp_X5_turnedTogether S M xl0 post) : Met l yX5_turnedTogether (cw_X5_turnedTogether :: gw) RM_X5_turnedTogether (va_Pc [.ref (adr G xl0)] (fun U => KN D G U ∧ Wd D G S M U.heap)) (QI D G S post) 0 0 (aG G) := by
  refine Met.ofW (cc := cX5_turnedTogether) (maxL := 3) (ret := (some .int)) (by decide) rfl ?_
  intro p e s m args below meth c s₁ B hml hv
  obtain ⟨rfl, hK, hP⟩ := hv
  have hx := B.exec
  have hb := B.bytes
  have hr := B.returns
  have hts := atoms_spec (ws := cw_X5_turnedTogether :: gw) B.pre
  have hown : s.vm.findClass RX5 = some m.cls := findClass_of_methodNamed B.named
  have hlocks := B.notSynchronized
  have hS : va_S (aG G) s.heap s.heap [] := va_S.rf
  have C : Cx p s m ([.ref (adr G xl0)] : List Value).toArray meth c D G cX5_turnedTogether 3 (some .int) (cw_X5_turnedTogether :: gw) RX5 := ⟨hx, hb, hr, hlocks, hml, hown, hts, hK⟩
  have hl := lv_entry ([.ref (adr G xl0)]) (n := 3) (Nat.le_of_ble_eq_true rfl)
  rw [lg_entry_eq]
  generalize (lg_sl ([.ref (adr G xl0)]) ++ List.replicate (3 - (lg_sl ([.ref (adr G xl0)])).length) Slot.unset).toArray = ls at hl ⊢
  have hl : lv_has ls 3 [(0, .ref (adr G xl0))] := hl
  unfold wp_X5_turnedTogether at h
  refine r_iconst hx hb dX5_turnedTogether_0 (by decide) h (fun z17 h => ?_)
  refine lv_istore_n (lv' := [(1, .int z17), (0, .ref (adr G xl0))]) hx hb dX5_turnedTogether_1 rfl hl (by decide) rfl (fun ls hl => ?_)
  refine r_iconst hx hb dX5_turnedTogether_2 (by decide) h (fun z19 h => ?_)
  refine lv_istore_n (lv' := [(2, .int z19), (1, .int z17), (0, .ref (adr G xl0))]) hx hb dX5_turnedTogether_3 rfl hl (by decide) rfl (fun ls hl => ?_)
  obtain ⟨n9, h⟩ := h
  exact t_X5_turnedTogether_4 C n9 xl0 z17 z19 _ _ _ _ hP hS (lv_sub hl [2, 1, 0] rfl) h
/-! TurningMilk.ice(I)I -/
abbrev RM_X11_ice : Room := { frames := 7, cells := 0, slots := 0, locals := 176 }
def cw_X11_ice : Cond := Cond.code yX11_ice cX11_ice 3 (Option.some FieldType.int)
theorem hd_X11_ice : yX11_ice.cls ≠ "java/lang/invoke/MethodHandle" ∧ yX11_ice.cls ≠ "java/lang/invoke/VarHandle" ∧ (parseMethodDescriptor yX11_ice.desc).map (fun d => d.parameters.length) = some 1 := by decide +kernel
theorem dX11_ice_0 : decode cX11_ice 0 = .ok (.aload_n 0, 1) := by decide +kernel
theorem dX11_ice_1 : decode cX11_ice 1 = .ok (.getfield 19, 3) := by decide +kernel
theorem dX11_ice_4 : decode cX11_ice 4 = .ok (.getfield 57, 3) := by decide +kernel
theorem dX11_ice_7 : decode cX11_ice 7 = .ok (.getfield 166, 3) := by decide +kernel
theorem dX11_ice_10 : decode cX11_ice 10 = .ok (.ifCond .eq 14, 3) := by decide +kernel
theorem dX11_ice_13 : decode cX11_ice 13 = .ok (.iload_n 1, 1) := by decide +kernel
theorem dX11_ice_14 : decode cX11_ice 14 = .ok (.iconst 1, 1) := by decide +kernel
theorem dX11_ice_15 : decode cX11_ice 15 = .ok (.if_icmp .lt 9, 3) := by decide +kernel
theorem dX11_ice_18 : decode cX11_ice 18 = .ok (.iload_n 1, 1) := by decide +kernel
theorem dX11_ice_19 : decode cX11_ice 19 = .ok (.bipush 60, 2) := by decide +kernel
theorem dX11_ice_21 : decode cX11_ice 21 = .ok (.if_icmp .le 5, 3) := by decide +kernel
theorem dX11_ice_24 : decode cX11_ice 24 = .ok (.iconst (-1), 1) := by decide +kernel
theorem dX11_ice_25 : decode cX11_ice 25 = .ok (.ireturn, 1) := by decide +kernel
theorem dX11_ice_26 : decode cX11_ice 26 = .ok (.aload_n 0, 1) := by decide +kernel
theorem dX11_ice_27 : decode cX11_ice 27 = .ok (.getfield 101, 3) := by decide +kernel
theorem dX11_ice_30 : decode cX11_ice 30 = .ok (.aload_n 0, 1) := by decide +kernel
theorem dX11_ice_31 : decode cX11_ice 31 = .ok (.getfield 19, 3) := by decide +kernel
theorem dX11_ice_34 : decode cX11_ice 34 = .ok (.getfield 133, 3) := by decide +kernel
theorem dX11_ice_37 : decode cX11_ice 37 = .ok (.invokevirtual 137, 3) := by decide +kernel
theorem dX11_ice_40 : decode cX11_ice 40 = .ok (.aload_n 0, 1) := by decide +kernel
theorem dX11_ice_41 : decode cX11_ice 41 = .ok (.getfield 73, 3) := by decide +kernel
theorem dX11_ice_44 : decode cX11_ice 44 = .ok (.aload_n 0, 1) := by decide +kernel
theorem dX11_ice_45 : decode cX11_ice 45 = .ok (.getfield 101, 3) := by decide +kernel
theorem dX11_ice_48 : decode cX11_ice 48 = .ok (.iload_n 1, 1) := by decide +kernel
theorem dX11_ice_49 : decode cX11_ice 49 = .ok (.invokevirtual 289, 3) := by decide +kernel
theorem dX11_ice_52 : decode cX11_ice 52 = .ok (.aload_n 0, 1) := by decide +kernel
theorem dX11_ice_53 : decode cX11_ice 53 = .ok (.getfield 101, 3) := by decide +kernel
theorem dX11_ice_56 : decode cX11_ice 56 = .ok (.invokevirtual 386, 3) := by decide +kernel
theorem dX11_ice_59 : decode cX11_ice 59 = .ok (.istore_n 2, 1) := by decide +kernel
theorem dX11_ice_60 : decode cX11_ice 60 = .ok (.aload_n 0, 1) := by decide +kernel
theorem dX11_ice_61 : decode cX11_ice 61 = .ok (.getfield 101, 3) := by decide +kernel
theorem dX11_ice_64 : decode cX11_ice 64 = .ok (.aload_n 0, 1) := by decide +kernel
theorem dX11_ice_65 : decode cX11_ice 65 = .ok (.getfield 19, 3) := by decide +kernel
theorem dX11_ice_68 : decode cX11_ice 68 = .ok (.getfield 133, 3) := by decide +kernel
theorem dX11_ice_71 : decode cX11_ice 71 = .ok (.invokevirtual 137, 3) := by decide +kernel
theorem dX11_ice_74 : decode cX11_ice 74 = .ok (.aload_n 0, 1) := by decide +kernel
theorem dX11_ice_75 : decode cX11_ice 75 = .ok (.getfield 64, 3) := by decide +kernel
theorem dX11_ice_78 : decode cX11_ice 78 = .ok (.iconst 1, 1) := by decide +kernel
theorem dX11_ice_79 : decode cX11_ice 79 = .ok (.putfield 389, 3) := by decide +kernel
theorem dX11_ice_82 : decode cX11_ice 82 = .ok (.aload_n 0, 1) := by decide +kernel
theorem dX11_ice_83 : decode cX11_ice 83 = .ok (.getfield 73, 3) := by decide +kernel
theorem dX11_ice_86 : decode cX11_ice 86 = .ok (.aload_n 0, 1) := by decide +kernel
theorem dX11_ice_87 : decode cX11_ice 87 = .ok (.getfield 101, 3) := by decide +kernel
theorem dX11_ice_90 : decode cX11_ice 90 = .ok (.iload_n 1, 1) := by decide +kernel
theorem dX11_ice_91 : decode cX11_ice 91 = .ok (.invokevirtual 289, 3) := by decide +kernel
theorem dX11_ice_94 : decode cX11_ice 94 = .ok (.aload_n 0, 1) := by decide +kernel
theorem dX11_ice_95 : decode cX11_ice 95 = .ok (.getfield 64, 3) := by decide +kernel
theorem dX11_ice_98 : decode cX11_ice 98 = .ok (.iconst 0, 1) := by decide +kernel
theorem dX11_ice_99 : decode cX11_ice 99 = .ok (.putfield 389, 3) := by decide +kernel
theorem dX11_ice_102 : decode cX11_ice 102 = .ok (.iload_n 2, 1) := by decide +kernel
theorem dX11_ice_103 : decode cX11_ice 103 = .ok (.aload_n 0, 1) := by decide +kernel
theorem dX11_ice_104 : decode cX11_ice 104 = .ok (.getfield 101, 3) := by decide +kernel
theorem dX11_ice_107 : decode cX11_ice 107 = .ok (.invokevirtual 386, 3) := by decide +kernel
theorem dX11_ice_110 : decode cX11_ice 110 = .ok (.isub, 1) := by decide +kernel
theorem dX11_ice_111 : decode cX11_ice 111 = .ok (.ireturn, 1) := by decide +kernel
def wp_X11_ice (S : Sh) (M : Mm) (u0 : Int) (u1 : Int) (post : Int → Mm → Prop) : Prop := wGetR S M u0 11 1 fun v1 => wGetR S M v1 4 0 fun v3 => wGet S M v3 8 0 fun v5 => wIf (v5 = 0) (wC (-1) fun v7 => post v7 M) (wC 1 fun v9 => wIf (u1 < v9) (wC (-1) fun v11 => post v11 M) (wC 60 fun v13 => wIf (u1 ≤ v13) (wGetR S M u0 11 15 fun v15 => wGetR S M u0 11 1 fun v17 => wGetR S M v17 4 1 fun v19 => isK S v15 5 ∧ (wp_X5_become S M v15 v19 <| fun M21 => wGetR S M21 u0 11 11 fun v22 => wGetR S M21 u0 11 15 fun v24 => isK S v22 1 ∧ (wp_X1_passSeveral S M21 v22 v24 u1 <| fun M26 => wGetR S M26 u0 11 15 fun v27 => isK S v27 5 ∧ (wp_X5_turnedTogether S M26 v27 <| fun v30 M29 => wGetR S M29 u0 11 15 fun v32 => wGetR S M29 u0 11 1 fun v34 => wGetR S M29 v34 4 1 fun v36 => isK S v32 5 ∧ (wp_X5_become S M29 v32 v36 <| fun M38 => wGetR S M38 u0 11 10 fun v39 => wC 1 fun v41 => wPutZ S M38 v39 10 2 v41 fun M43 => wGetR S M43 u0 11 11 fun v44 => wGetR S M43 u0 11 15 fun v46 => isK S v44 1 ∧ (wp_X1_passSeveral S M43 v44 v46 u1 <| fun M48 => wGetR S M48 u0 11 10 fun v49 => wC 0 fun v51 => wPutZ S M48 v49 10 2 v51 fun M53 => wGetR S M53 u0 11 15 fun v54 => isK S v54 5 ∧ (wp_X5_turnedTogether S M53 v54 <| fun v57 M56 => wS v30 v57 fun v59 => post v59 M56))))))) (wC (-1) fun v61 => post v61 M)))
set_option maxHeartbeats 4000000 in
set_option maxRecDepth 100000 in
theorem c_X11_ice (l : Launch) (D : va_G) (G : Gt) (S : Sh) (M : Mm) (xl0 : Int) (zl1 : Int32) (post : Int → Mm → Prop) (h : wp_X11_ice S M xl0 zl1.toInt post) : Met l yX11_ice (cw_X11_ice :: gw) RM_X11_ice (va_Pc [.ref (adr G xl0), .int zl1] (fun U => KN D G U ∧ Wd D G S M U.heap)) (QI D G S post) 0 0 (aG G) := by
  refine Met.ofW (cc := cX11_ice) (maxL := 3) (ret := (some .int)) (by decide) rfl ?_
  intro p e s m args below meth c s₁ B hml hv
  obtain ⟨rfl, hK, hP⟩ := hv
  have hx := B.exec
  have hb := B.bytes
  have hr := B.returns
  have hts := atoms_spec (ws := cw_X11_ice :: gw) B.pre
  have hown : s.vm.findClass RX11 = some m.cls := findClass_of_methodNamed B.named
  have hlocks := B.notSynchronized
  have hS : va_S (aG G) s.heap s.heap [] := va_S.rf
  have C : Cx p s m ([.ref (adr G xl0), .int zl1] : List Value).toArray meth c D G cX11_ice 3 (some .int) (cw_X11_ice :: gw) RX11 := ⟨hx, hb, hr, hlocks, hml, hown, hts, hK⟩
  have hl := lv_entry ([.ref (adr G xl0), .int zl1]) (n := 3) (Nat.le_of_ble_eq_true rfl)
  rw [lg_entry_eq]
  generalize (lg_sl ([.ref (adr G xl0), .int zl1]) ++ List.replicate (3 - (lg_sl ([.ref (adr G xl0), .int zl1])).length) Slot.unset).toArray = ls at hl ⊢
  have hl : lv_has ls 3 [(0, .ref (adr G xl0)), (1, .int zl1)] := hl
  unfold wp_X11_ice at h
  refine lv_aload_n hx hb dX11_ice_0 rfl (lv_at hl 0 rfl) ?_
  refine r_getr (C := RX11) (T := TX11) (N := 16) hx hb hts (fun w h => List.mem_cons_of_mem _ (iX11 w h)) hown hK hP rfl (by decide) rfl 1 (by decide) (hts _ (List.mem_cons_of_mem _ kw_492)) (fun _ h9 => h9) dX11_ice_1 (by decide) h (fun x2 h => ?_)
  refine r_getrN (C := RX4) (T := TX4) (N := 10) hx hb hts (fun w h => List.mem_cons_of_mem _ (iX4 w h)) hown hK hP rfl (by decide) rfl 0 (by decide) (nw_70 hK) (fun _ h9 => h9) dX11_ice_4 (by decide) h (fun x4 h => ?_)
  refine r_getiN (C := RX8) (T := TX8) (N := 19) hx hb hts (fun w h => List.mem_cons_of_mem _ (iX8 w h)) hown hK hP rfl (by decide) rfl 0 (by decide) (nw_4 hK) (fun _ h9 => h9) dX11_ice_7 (by decide) h (fun z6 h => ?_)
  refine r_if_eq (tgt := 24) hx hb dX11_ice_10 (by decide) h (fun h => ?_) (fun h => ?_)
  · refine r_iconst hx hb dX11_ice_24 (by decide) h (fun z8 h => ?_)
    exact r_iret hx hb hr hlocks hP hS dX11_ice_25 h
  · refine lv_iload_n hx hb dX11_ice_13 rfl (lv_at hl 1 rfl) ?_
    refine r_iconst hx hb dX11_ice_14 (by decide) h (fun z10 h => ?_)
    refine r_icmp_lt (tgt := 24) hx hb dX11_ice_15 (by decide) h (fun h => ?_) (fun h => ?_)
    · refine r_iconst hx hb dX11_ice_24 (by decide) h (fun z12 h => ?_)
      exact r_iret hx hb hr hlocks hP hS dX11_ice_25 h
    · refine lv_iload_n hx hb dX11_ice_18 rfl (lv_at hl 1 rfl) ?_
      refine r_bipush hx hb dX11_ice_19 (by decide) h (fun z14 h => ?_)
      refine r_icmp_le (tgt := 26) hx hb dX11_ice_21 (by decide) h (fun h => ?_) (fun h => ?_)
      · refine lv_aload_n hx hb dX11_ice_26 rfl (lv_at hl 0 rfl) ?_
        refine r_getr (C := RX11) (T := TX11) (N := 16) hx hb hts (fun w h => List.mem_cons_of_mem _ (iX11 w h)) hown hK hP rfl (by decide) rfl 15 (by decide) (hts _ (List.mem_cons_of_mem _ kw_506)) (fun _ h9 => h9) dX11_ice_27 (by decide) h (fun x16 h => ?_)
        refine lv_aload_n hx hb dX11_ice_30 rfl (lv_at hl 0 rfl) ?_
        refine r_getr (C := RX11) (T := TX11) (N := 16) hx hb hts (fun w h => List.mem_cons_of_mem _ (iX11 w h)) hown hK hP rfl (by decide) rfl 1 (by decide) (hts _ (List.mem_cons_of_mem _ kw_492)) (fun _ h9 => h9) dX11_ice_31 (by decide) h (fun x18 h => ?_)
        refine r_getrN (C := RX4) (T := TX4) (N := 10) hx hb hts (fun w h => List.mem_cons_of_mem _ (iX4 w h)) hown hK hP rfl (by decide) rfl 1 (by decide) (nw_73 hK) (fun _ h9 => h9) dX11_ice_34 (by decide) h (fun x20 h => ?_)
        refine q_Vv hx hb hml hown hts hK hP hS (c_X5_become l D G S _ x16 x20 _ h.2) ⟨callB_of 1 hts (gw_good kw_735) rfl rfl rfl (hts _ (List.mem_cons_of_mem _ kw_5)) (hts _ (List.mem_cons_of_mem _ kw_732)) hd_X5_become ⟨Nat.le_of_ble_eq_true rfl, Nat.le_of_ble_eq_true rfl⟩, (hts _ (List.mem_cons_of_mem _ kw_733)), (hts _ (List.mem_cons_of_mem _ kw_734))⟩ h.1 (ci := 5) rfl (by decide) rfl hl.1 rfl (lv_room (Nat.le_of_ble_eq_true rfl)) dX11_ice_37 ⟨Nat.zero_le _, Nat.zero_le _⟩ (fun M21 H locs h hP hS => ?_)
        refine lv_aload_n hx hb dX11_ice_40 rfl (lv_at hl 0 rfl) ?_
        refine r_getr (C := RX11) (T := TX11) (N := 16) hx hb hts (fun w h => List.mem_cons_of_mem _ (iX11 w h)) hown hK hP rfl (by decide) rfl 11 (by decide) (hts _ (List.mem_cons_of_mem _ kw_502)) (fun _ h9 => h9) dX11_ice_41 (by decide) h (fun x23 h => ?_)
        refine lv_aload_n hx hb dX11_ice_44 rfl (lv_at hl 0 rfl) ?_
        refine r_getr (C := RX11) (T := TX11) (N := 16) hx hb hts (fun w h => List.mem_cons_of_mem _ (iX11 w h)) hown hK hP rfl (by decide) rfl 15 (by decide) (hts _ (List.mem_cons_of_mem _ kw_506)) (fun _ h9 => h9) dX11_ice_45 (by decide) h (fun x25 h => ?_)
        refine lv_iload_n hx hb dX11_ice_48 rfl (lv_at hl 1 rfl) ?_
        refine q_Vv hx hb hml hown hts hK hP hS (c_X1_passSeveral l D G S _ x23 x25 zl1 _ h.2) ⟨callB_of 2 hts (gw_good kw_1060) rfl rfl rfl (hts _ (List.mem_cons_of_mem _ kw_10)) (hts _ (List.mem_cons_of_mem _ kw_1057)) hd_X1_passSeveral ⟨Nat.le_of_ble_eq_true rfl, Nat.le_of_ble_eq_true rfl⟩, (hts _ (List.mem_cons_of_mem _ kw_1058)), (hts _ (List.mem_cons_of_mem _ kw_1059))⟩ h.1 (ci := 1) rfl (by decide) rfl hl.1 rfl (lv_room (Nat.le_of_ble_eq_true rfl)) dX11_ice_49 ⟨Nat.zero_le _, Nat.zero_le _⟩ (fun M26 H locs h hP hS => ?_)
        refine lv_aload_n hx hb dX11_ice_52 rfl (lv_at hl 0 rfl) ?_
        refine r_getr (C := RX11) (T := TX11) (N := 16) hx hb hts (fun w h => List.mem_cons_of_mem _ (iX11 w h)) hown hK hP rfl (by decide) rfl 15 (by decide) (hts _ (List.mem_cons_of_mem _ kw_506)) (fun _ h9 => h9) dX11_ice_53 (by decide) h (fun x28 h => ?_)
        refine q_Vi hx hb hml hown hts hK hP hS (c_X5_turnedTogether l D G S _ x28 _ h.2) ⟨callB_of 0 hts (gw_good kw_1265) rfl rfl rfl (hts _ (List.mem_cons_of_mem _ kw_5)) (hts _ (List.mem_cons_of_mem _ kw_1262)) hd_X5_turnedTogether ⟨Nat.le_of_ble_eq_true rfl, Nat.le_of_ble_eq_true rfl⟩, (hts _ (List.mem_cons_of_mem _ kw_1263)), (hts _ (List.mem_cons_of_mem _ kw_1264))⟩ h.1 (ci := 5) rfl (by decide) rfl hl.1 rfl (lv_room (Nat.le_of_ble_eq_true rfl)) dX11_ice_56 ⟨Nat.zero_le _, Nat.zero_le _⟩ (fun z31 M29 H locs h hP hS => ?_)
        refine lv_istore_n (lv' := [(2, .int z31), (0, .ref (adr G xl0)), (1, .int zl1)]) hx hb dX11_ice_59 rfl hl (by decide) rfl (fun ls hl => ?_)
        refine lv_aload_n hx hb dX11_ice_60 rfl (lv_at hl 1 rfl) ?_
        refine r_getr (C := RX11) (T := TX11) (N := 16) hx hb hts (fun w h => List.mem_cons_of_mem _ (iX11 w h)) hown hK hP rfl (by decide) rfl 15 (by decide) (hts _ (List.mem_cons_of_mem _ kw_506)) (fun _ h9 => h9) dX11_ice_61 (by decide) h (fun x33 h => ?_)
        refine lv_aload_n hx hb dX11_ice_64 rfl (lv_at hl 1 rfl) ?_
        refine r_getr (C := RX11) (T := TX11) (N := 16) hx hb hts (fun w h => List.mem_cons_of_mem _ (iX11 w h)) hown hK hP rfl (by decide) rfl 1 (by decide) (hts _ (List.mem_cons_of_mem _ kw_492)) (fun _ h9 => h9) dX11_ice_65 (by decide) h (fun x35 h => ?_)
        refine r_getrN (C := RX4) (T := TX4) (N := 10) hx hb hts (fun w h => List.mem_cons_of_mem _ (iX4 w h)) hown hK hP rfl (by decide) rfl 1 (by decide) (nw_73 hK) (fun _ h9 => h9) dX11_ice_68 (by decide) h (fun x37 h => ?_)
        refine q_Vv hx hb hml hown hts hK hP hS (c_X5_become l D G S _ x33 x37 _ h.2) ⟨callB_of 1 hts (gw_good kw_735) rfl rfl rfl (hts _ (List.mem_cons_of_mem _ kw_5)) (hts _ (List.mem_cons_of_mem _ kw_732)) hd_X5_become ⟨Nat.le_of_ble_eq_true rfl, Nat.le_of_ble_eq_true rfl⟩, (hts _ (List.mem_cons_of_mem _ kw_733)), (hts _ (List.mem_cons_of_mem _ kw_734))⟩ h.1 (ci := 5) rfl (by decide) rfl hl.1 rfl (lv_room (Nat.le_of_ble_eq_true rfl)) dX11_ice_71 ⟨Nat.zero_le _, Nat.zero_le _⟩ (fun M38 H locs h hP hS => ?_)
        refine lv_aload_n hx hb dX11_ice_74 rfl (lv_at hl 1 rfl) ?_
        refine r_getr (C := RX11) (T := TX11) (N := 16) hx hb hts (fun w h => List.mem_cons_of_mem _ (iX11 w h)) hown hK hP rfl (by decide) rfl 10 (by decide) (hts _ (List.mem_cons_of_mem _ kw_501)) (fun _ h9 => h9) dX11_ice_75 (by decide) h (fun x40 h => ?_)
        refine r_iconst hx hb dX11_ice_78 (by decide) h (fun z42 h => ?_)
        refine r_putzN (C := RX10) (T := TX10) (N := 12) hx hb hts (fun w h => List.mem_cons_of_mem _ (iX10 w h)) hown hK hP tyX10 tyX10_ok nmX10 hS rfl (by decide) rfl 2 (by decide) (nw_89 hK) (fun _ h9 => h9) rfl (tyX10_ok 2 (by decide))  dX11_ice_79 (by decide) h (fun M43 H locs h hP hS => ?_)
        refine lv_aload_n hx hb dX11_ice_82 rfl (lv_at hl 1 rfl) ?_
        refine r_getr (C := RX11) (T := TX11) (N := 16) hx hb hts (fun w h => List.mem_cons_of_mem _ (iX11 w h)) hown hK hP rfl (by decide) rfl 11 (by decide) (hts _ (List.mem_cons_of_mem _ kw_502)) (fun _ h9 => h9) dX11_ice_83 (by decide) h (fun x45 h => ?_)
        refine lv_aload_n hx hb dX11_ice_86 rfl (lv_at hl 1 rfl) ?_
        refine r_getr (C := RX11) (T := TX11) (N := 16) hx hb hts (fun w h => List.mem_cons_of_mem _ (iX11 w h)) hown hK hP rfl (by decide) rfl 15 (by decide) (hts _ (List.mem_cons_of_mem _ kw_506)) (fun _ h9 => h9) dX11_ice_87 (by decide) h (fun x47 h => ?_)
        refine lv_iload_n hx hb dX11_ice_90 rfl (lv_at hl 2 rfl) ?_
        refine q_Vv hx hb hml hown hts hK hP hS (c_X1_passSeveral l D G S _ x45 x47 zl1 _ h.2) ⟨callB_of 2 hts (gw_good kw_1060) rfl rfl rfl (hts _ (List.mem_cons_of_mem _ kw_10)) (hts _ (List.mem_cons_of_mem _ kw_1057)) hd_X1_passSeveral ⟨Nat.le_of_ble_eq_true rfl, Nat.le_of_ble_eq_true rfl⟩, (hts _ (List.mem_cons_of_mem _ kw_1058)), (hts _ (List.mem_cons_of_mem _ kw_1059))⟩ h.1 (ci := 1) rfl (by decide) rfl hl.1 rfl (lv_room (Nat.le_of_ble_eq_true rfl)) dX11_ice_91 ⟨Nat.zero_le _, Nat.zero_le _⟩ (fun M48 H locs h hP hS => ?_)
        refine lv_aload_n hx hb dX11_ice_94 rfl (lv_at hl 1 rfl) ?_
        refine r_getr (C := RX11) (T := TX11) (N := 16) hx hb hts (fun w h => List.mem_cons_of_mem _ (iX11 w h)) hown hK hP rfl (by decide) rfl 10 (by decide) (hts _ (List.mem_cons_of_mem _ kw_501)) (fun _ h9 => h9) dX11_ice_95 (by decide) h (fun x50 h => ?_)
        refine r_iconst hx hb dX11_ice_98 (by decide) h (fun z52 h => ?_)
        refine r_putzN (C := RX10) (T := TX10) (N := 12) hx hb hts (fun w h => List.mem_cons_of_mem _ (iX10 w h)) hown hK hP tyX10 tyX10_ok nmX10 hS rfl (by decide) rfl 2 (by decide) (nw_89 hK) (fun _ h9 => h9) rfl (tyX10_ok 2 (by decide))  dX11_ice_99 (by decide) h (fun M53 H locs h hP hS => ?_)
        refine lv_iload_n hx hb dX11_ice_102 rfl (lv_at hl 0 rfl) ?_
        refine lv_aload_n hx hb dX11_ice_103 rfl (lv_at hl 1 rfl) ?_
        refine r_getr (C := RX11) (T := TX11) (N := 16) hx hb hts (fun w h => List.mem_cons_of_mem _ (iX11 w h)) hown hK hP rfl (by decide) rfl 15 (by decide) (hts _ (List.mem_cons_of_mem _ kw_506)) (fun _ h9 => h9) dX11_ice_104 (by decide) h (fun x55 h => ?_)
        refine q_Vi hx hb hml hown hts hK hP hS (c_X5_turnedTogether l D G S _ x55 _ h.2) ⟨callB_of 0 hts (gw_good kw_1265) rfl rfl rfl (hts _ (List.mem_cons_of_mem _ kw_5)) (hts _ (List.mem_cons_of_mem _ kw_1262)) hd_X5_turnedTogether ⟨Nat.le_of_ble_eq_true rfl, Nat.le_of_ble_eq_true rfl⟩, (hts _ (List.mem_cons_of_mem _ kw_1263)), (hts _ (List.mem_cons_of_mem _ kw_1264))⟩ h.1 (ci := 5) rfl (by decide) rfl hl.1 rfl (lv_room (Nat.le_of_ble_eq_true rfl)) dX11_ice_107 ⟨Nat.zero_le _, Nat.zero_le _⟩ (fun z58 M56 H locs h hP hS => ?_)
        refine r_isub hx hb dX11_ice_110 h (fun z60 h => ?_)
        exact r_iret hx hb hr hlocks hP hS dX11_ice_111 h
      · refine r_iconst hx hb dX11_ice_24 (by decide) h (fun z62 h => ?_)
        exact r_iret hx hb hr hlocks hP hS dX11_ice_25 h
/-! TurningMilk.seed(I)I -/
abbrev RM_X11_seed : Room := { frames := 1, cells := 0, slots := 0, locals := 40 }
def cw_X11_seed : Cond := Cond.code yX11_seed cX11_seed 3 (Option.some FieldType.int)
theorem hd_X11_seed : yX11_seed.cls ≠ "java/lang/invoke/MethodHandle" ∧ yX11_seed.cls ≠ "java/lang/invoke/VarHandle" ∧ (parseMethodDescriptor yX11_seed.desc).map (fun d => d.parameters.length) = some 1 := by decide +kernel
theorem dX11_seed_0 : decode cX11_seed 0 = .ok (.iload_n 1, 1) := by decide +kernel
theorem dX11_seed_1 : decode cX11_seed 1 = .ok (.ifCond .ge 5, 3) := by decide +kernel
theorem dX11_seed_4 : decode cX11_seed 4 = .ok (.iconst (-1), 1) := by decide +kernel
theorem dX11_seed_5 : decode cX11_seed 5 = .ok (.ireturn, 1) := by decide +kernel
theorem dX11_seed_6 : decode cX11_seed 6 = .ok (.aload_n 0, 1) := by decide +kernel
theorem dX11_seed_7 : decode cX11_seed 7 = .ok (.getfield 19, 3) := by decide +kernel
theorem dX11_seed_10 : decode cX11_seed 10 = .ok (.getfield 393, 3) := by decide +kernel
theorem dX11_seed_13 : decode cX11_seed 13 = .ok (.istore_n 2, 1) := by decide +kernel
theorem dX11_seed_14 : decode cX11_seed 14 = .ok (.aload_n 0, 1) := by decide +kernel
theorem dX11_seed_15 : decode cX11_seed 15 = .ok (.getfield 19, 3) := by decide +kernel
theorem dX11_seed_18 : decode cX11_seed 18 = .ok (.iload_n 1, 1) := by decide +kernel
theorem dX11_seed_19 : decode cX11_seed 19 = .ok (.putfield 393, 3) := by decide +kernel
theorem dX11_seed_22 : decode cX11_seed 22 = .ok (.iload_n 2, 1) := by decide +kernel
theorem dX11_seed_23 : decode cX11_seed 23 = .ok (.ireturn, 1) := by decide +kernel
def wp_X11_seed (S : Sh) (M : Mm) (u0 : Int) (u1 : Int) (post : Int → Mm → Prop) : Prop := wIf (0 ≤ u1) (wGetR S M u0 11 1 fun v1 => wGet S M v1 4 3 fun v3 => wGetR S M u0 11 1 fun v5 => wPut S M v5 4 3 u1 fun M7 => post v3 M7) (wC (-1) fun v8 => post v8 M)
set_option maxHeartbeats 4000000 in
set_option maxRecDepth 100000 in
theorem c_X11_seed (l : Launch) (D : va_G) (G : Gt) (S : Sh) (M : Mm) (xl0 : Int) (zl1 : Int32) (post : Int → Mm → Prop) (h : wp_X11_seed S M xl0 zl1.toInt post) : Met l yX11_seed (cw_X11_seed :: gw) RM_X11_seed (va_Pc [.ref (adr G xl0), .int zl1] (fun U => KN D G U ∧ Wd D G S M U.heap)) (QI D G S post) 0 0 (aG G) := by
  refine Met.ofW (cc := cX11_seed) (maxL := 3) (ret := (some .int)) (by decide) rfl ?_
  intro p e s m args below meth c s₁ B hml hv
  obtain ⟨rfl, hK, hP⟩ := hv
  have hx := B.exec
  have hb := B.bytes
  have hr := B.returns
  have hts := atoms_spec (ws := cw_X11_seed :: gw) B.pre
  have hown : s.vm.findClass RX11 = some m.cls := findClass_of_methodNamed B.named
  have hlocks := B.notSynchronized
  have hS : va_S (aG G) s.heap s.heap [] := va_S.rf
  have C : Cx p s m ([.ref (adr G xl0), .int zl1] : List Value).toArray meth c D G cX11_seed 3 (some .int) (cw_X11_seed :: gw) RX11 := ⟨hx, hb, hr, hlocks, hml, hown, hts, hK⟩
  have hl := lv_entry ([.ref (adr G xl0), .int zl1]) (n := 3) (Nat.le_of_ble_eq_true rfl)
  rw [lg_entry_eq]
  generalize (lg_sl ([.ref (adr G xl0), .int zl1]) ++ List.replicate (3 - (lg_sl ([.ref (adr G xl0), .int zl1])).length) Slot.unset).toArray = ls at hl ⊢
  have hl : lv_has ls 3 [(0, .ref (adr G xl0)), (1, .int zl1)] := hl
  unfold wp_X11_seed at h
  refine lv_iload_n hx hb dX11_seed_0 rfl (lv_at hl 1 rfl) ?_
  refine r_if_ge (tgt := 6) hx hb dX11_seed_1 (by decide) h (fun h => ?_) (fun h => ?_)
  · refine lv_aload_n hx hb dX11_seed_6 rfl (lv_at hl 0 rfl) ?_
    refine r_getr (C := RX11) (T := TX11) (N := 16) hx hb hts (fun w h => List.mem_cons_of_mem _ (iX11 w h)) hown hK hP rfl (by decide) rfl 1 (by decide) (hts _ (List.mem_cons_of_mem _ kw_492)) (fun _ h9 => h9) dX11_seed_7 (by decide) h (fun x2 h => ?_)
    refine r_getiN (C := RX4) (T := TX4) (N := 10) hx hb hts (fun w h => List.mem_cons_of_mem _ (iX4 w h)) hown hK hP rfl (by decide) rfl 3 (by decide) (nw_75 hK) (fun _ h9 => h9) dX11_seed_10 (by decide) h (fun z4 h => ?_)
    refine lv_istore_n (lv' := [(2, .int z4), (0, .ref (adr G xl0)), (1, .int zl1)]) hx hb dX11_seed_13 rfl hl (by decide) rfl (fun ls hl => ?_)
    refine lv_aload_n hx hb dX11_seed_14 rfl (lv_at hl 1 rfl) ?_
    refine r_getr (C := RX11) (T := TX11) (N := 16) hx hb hts (fun w h => List.mem_cons_of_mem _ (iX11 w h)) hown hK hP rfl (by decide) rfl 1 (by decide) (hts _ (List.mem_cons_of_mem _ kw_492)) (fun _ h9 => h9) dX11_seed_15 (by decide) h (fun x6 h => ?_)
    refine lv_iload_n hx hb dX11_seed_18 rfl (lv_at hl 2 rfl) ?_
    refine r_putiN (C := RX4) (T := TX4) (N := 10) hx hb hts (fun w h => List.mem_cons_of_mem _ (iX4 w h)) hown hK hP tyX4 tyX4_ok nmX4 hS rfl (by decide) rfl 3 (by decide) (nw_75 hK) (fun _ h9 => h9) rfl (tyX4_ok 3 (by decide)) rfl rfl dX11_seed_19 (by decide) h (fun M7 H locs h hP hS => ?_)
    refine lv_iload_n hx hb dX11_seed_22 rfl (lv_at hl 0 rfl) ?_
    exact r_iret hx hb hr hlocks hP hS dX11_seed_23 h
  · refine r_iconst hx hb dX11_seed_4 (by decide) h (fun z9 h => ?_)
    exact r_iret hx hb hr hlocks hP hS dX11_seed_5 h
/-! TurningMilk$Hours.draw()I -/
abbrev RM_X1_draw : Room := { frames := 1, cells := 0, slots := 0, locals := 40 }
def cw_X1_draw : Cond := Cond.code yX1_draw cX1_draw 1 (Option.some FieldType.int)
theorem hd_X1_draw : yX1_draw.cls ≠ "java/lang/invoke/MethodHandle" ∧ yX1_draw.cls ≠ "java/lang/invoke/VarHandle" ∧ (parseMethodDescriptor yX1_draw.desc).map (fun d => d.parameters.length) = some 0 := by decide +kernel
theorem dX1_draw_0 : decode cX1_draw 0 = .ok (.aload_n 0, 1) := by decide +kernel
theorem dX1_draw_1 : decode cX1_draw 1 = .ok (.aload_n 0, 1) := by decide +kernel
theorem dX1_draw_2 : decode cX1_draw 2 = .ok (.getfield 102, 3) := by decide +kernel
theorem dX1_draw_5 : decode cX1_draw 5 = .ok (.i2l, 1) := by decide +kernel
theorem dX1_draw_6 : decode cX1_draw 6 = .ok (.ldc2_w 105, 3) := by decide +kernel
theorem dX1_draw_9 : decode cX1_draw 9 = .ok (.lmul, 1) := by decide +kernel
theorem dX1_draw_10 : decode cX1_draw 10 = .ok (.ldc2_w 107, 3) := by decide +kernel
theorem dX1_draw_13 : decode cX1_draw 13 = .ok (.ladd, 1) := by decide +kernel
theorem dX1_draw_14 : decode cX1_draw 14 = .ok (.ldc2_w 109, 3) := by decide +kernel
theorem dX1_draw_17 : decode cX1_draw 17 = .ok (.land, 1) := by decide +kernel
theorem dX1_draw_18 : decode cX1_draw 18 = .ok (.l2i, 1) := by decide +kernel
theorem dX1_draw_19 : decode cX1_draw 19 = .ok (.putfield 102, 3) := by decide +kernel
theorem dX1_draw_22 : decode cX1_draw 22 = .ok (.aload_n 0, 1) := by decide +kernel
theorem dX1_draw_23 : decode cX1_draw 23 = .ok (.getfield 102, 3) := by decide +kernel
theorem dX1_draw_26 : decode cX1_draw 26 = .ok (.ldc 111, 2) := by decide +kernel
theorem dX1_draw_28 : decode cX1_draw 28 = .ok (.idiv, 1) := by decide +kernel
theorem dX1_draw_29 : decode cX1_draw 29 = .ok (.ireturn, 1) := by decide +kernel
def wp_X1_draw (S : Sh) (M : Mm) (u0 : Int) (post : Int → Mm → Prop) : Prop := wGet S M u0 1 2 fun v1 => wC v1 fun v3 => wC 1103515245 fun v5 => wLM v3 v5 fun v7 => wC 12345 fun v9 => wLA v7 v9 fun v11 => wC 2147483647 fun v13 => wO lAnd v11 v13 fun v15 => wO1 w32 v15 fun v17 => wPut S M u0 1 2 v17 fun M19 => wGet S M19 u0 1 2 fun v20 => wC 65536 fun v22 => wD iDiv v20 v22 fun v24 => post v24 M19
set_option maxHeartbeats 4000000 in
set_option maxRecDepth 100000 in
theorem c_X1_draw (l : Launch) (D : va_G) (G : Gt) (S : Sh) (M : Mm) (xl0 : Int) (post : Int → Mm → Prop) (h : wp_X1_draw S M xl0 post) : Met l yX1_draw (cw_X1_draw :: gw) RM_X1_draw (va_Pc [.ref (adr G xl0)] (fun U => KN D G U ∧ Wd D G S M U.heap)) (QI D G S post) 0 0 (aG G) := by
  refine Met.ofW (cc := cX1_draw) (maxL := 1) (ret := (some .int)) (by decide) rfl ?_
  intro p e s m args below meth c s₁ B hml hv
  obtain ⟨rfl, hK, hP⟩ := hv
  have hx := B.exec
  have hb := B.bytes
  have hr := B.returns
  have hts := atoms_spec (ws := cw_X1_draw :: gw) B.pre
  have hown : s.vm.findClass RX1 = some m.cls := findClass_of_methodNamed B.named
  have hlocks := B.notSynchronized
  have hS : va_S (aG G) s.heap s.heap [] := va_S.rf
  have C : Cx p s m ([.ref (adr G xl0)] : List Value).toArray meth c D G cX1_draw 1 (some .int) (cw_X1_draw :: gw) RX1 := ⟨hx, hb, hr, hlocks, hml, hown, hts, hK⟩
  have hl := lv_entry ([.ref (adr G xl0)]) (n := 1) (Nat.le_of_ble_eq_true rfl)
  rw [lg_entry_eq]
  generalize (lg_sl ([.ref (adr G xl0)]) ++ List.replicate (1 - (lg_sl ([.ref (adr G xl0)])).length) Slot.unset).toArray = ls at hl ⊢
  have hl : lv_has ls 1 [(0, .ref (adr G xl0))] := hl
  unfold wp_X1_draw at h
  refine lv_aload_n hx hb dX1_draw_0 rfl (lv_at hl 0 rfl) ?_
  refine lv_aload_n hx hb dX1_draw_1 rfl (lv_at hl 0 rfl) ?_
  refine r_geti (C := RX1) (T := TX1) (N := 3) hx hb hts (fun w h => List.mem_cons_of_mem _ (iX1 w h)) hown hK hP rfl (by decide) rfl 2 (by decide) (hts _ (List.mem_cons_of_mem _ kw_400)) (fun _ h9 => h9) dX1_draw_2 (by decide) h (fun z2 h => ?_)
  refine r_i2l hx hb dX1_draw_5 h (fun z4 h => ?_)
  refine r_ldc2 hx hb hown (hts _ (List.mem_cons_of_mem _ kw_1288)) dX1_draw_6 (n := 1103515245) (by decide) h (fun z6 h => ?_)
  refine r_lmul hx hb dX1_draw_9 h (fun z8 h => ?_)
  refine r_ldc2 hx hb hown (hts _ (List.mem_cons_of_mem _ kw_1289)) dX1_draw_10 (n := 12345) (by decide) h (fun z10 h => ?_)
  refine r_ladd hx hb dX1_draw_13 h (fun z12 h => ?_)
  refine r_ldc2 hx hb hown (hts _ (List.mem_cons_of_mem _ kw_1290)) dX1_draw_14 (n := 2147483647) (by decide) h (fun z14 h => ?_)
  refine r_land hx hb dX1_draw_17 h (fun z16 h => ?_)
  refine r_l2i hx hb dX1_draw_18 h (fun z18 h => ?_)
  refine r_puti (C := RX1) (T := TX1) (N := 3) hx hb hts (fun w h => List.mem_cons_of_mem _ (iX1 w h)) hown hK hP tyX1 tyX1_ok nmX1 hS rfl (by decide) rfl 2 (by decide) (hts _ (List.mem_cons_of_mem _ kw_400)) (fun _ h9 => h9) rfl (tyX1_ok 2 (by decide)) rfl rfl dX1_draw_19 (by decide) h (fun M19 H locs h hP hS => ?_)
  refine lv_aload_n hx hb dX1_draw_22 rfl (lv_at hl 0 rfl) ?_
  refine r_geti (C := RX1) (T := TX1) (N := 3) hx hb hts (fun w h => List.mem_cons_of_mem _ (iX1 w h)) hown hK hP rfl (by decide) rfl 2 (by decide) (hts _ (List.mem_cons_of_mem _ kw_400)) (fun _ h9 => h9) dX1_draw_23 (by decide) h (fun z21 h => ?_)
  refine r_ldc hx hb hown (hts _ (List.mem_cons_of_mem _ kw_1291)) dX1_draw_26 (n := 65536) (by decide) h (fun z23 h => ?_)
  refine r_idiv hx hb dX1_draw_28 h (fun z25 h => ?_)
  exact r_iret hx hb hr hlocks hP hS dX1_draw_29 h
/-! TurningMilk$Hours.drawRoads(LTurningMilk$State;)V -/
abbrev RM_X1_drawRoads : Room := { frames := 4, cells := 0, slots := 0, locals := 106 }
def cw_X1_drawRoads : Cond := Cond.code yX1_drawRoads cX1_drawRoads 5 (Option.none : Option FieldType)
theorem hd_X1_drawRoads : yX1_drawRoads.cls ≠ "java/lang/invoke/MethodHandle" ∧ yX1_drawRoads.cls ≠ "java/lang/invoke/VarHandle" ∧ (parseMethodDescriptor yX1_drawRoads.desc).map (fun d => d.parameters.length) = some 1 := by decide +kernel
theorem dX1_drawRoads_0 : decode cX1_drawRoads 0 = .ok (.iconst 0, 1) := by decide +kernel
theorem dX1_drawRoads_1 : decode cX1_drawRoads 1 = .ok (.istore_n 2, 1) := by decide +kernel
theorem dX1_drawRoads_2 : decode cX1_drawRoads 2 = .ok (.iload_n 2, 1) := by decide +kernel
theorem dX1_drawRoads_3 : decode cX1_drawRoads 3 = .ok (.aload_n 0, 1) := by decide +kernel
theorem dX1_drawRoads_4 : decode cX1_drawRoads 4 = .ok (.getfield 21, 3) := by decide +kernel
theorem dX1_drawRoads_7 : decode cX1_drawRoads 7 = .ok (.getfield 47, 3) := by decide +kernel
theorem dX1_drawRoads_10 : decode cX1_drawRoads 10 = .ok (.if_icmp .ge 65, 3) := by decide +kernel
theorem dX1_drawRoads_13 : decode cX1_drawRoads 13 = .ok (.aload_n 1, 1) := by decide +kernel
theorem dX1_drawRoads_14 : decode cX1_drawRoads 14 = .ok (.iload_n 2, 1) := by decide +kernel
theorem dX1_drawRoads_15 : decode cX1_drawRoads 15 = .ok (.invokevirtual 112, 3) := by decide +kernel
theorem dX1_drawRoads_18 : decode cX1_drawRoads 18 = .ok (.ifCond .eq 51, 3) := by decide +kernel
theorem dX1_drawRoads_21 : decode cX1_drawRoads 21 = .ok (.aload_n 0, 1) := by decide +kernel
theorem dX1_drawRoads_22 : decode cX1_drawRoads 22 = .ok (.getfield 21, 3) := by decide +kernel
theorem dX1_drawRoads_25 : decode cX1_drawRoads 25 = .ok (.getfield 115, 3) := by decide +kernel
theorem dX1_drawRoads_28 : decode cX1_drawRoads 28 = .ok (.ifCond .le 41, 3) := by decide +kernel
theorem dX1_drawRoads_31 : decode cX1_drawRoads 31 = .ok (.aload_n 0, 1) := by decide +kernel
theorem dX1_drawRoads_32 : decode cX1_drawRoads 32 = .ok (.invokevirtual 118, 3) := by decide +kernel
theorem dX1_drawRoads_35 : decode cX1_drawRoads 35 = .ok (.aload_n 0, 1) := by decide +kernel
theorem dX1_drawRoads_36 : decode cX1_drawRoads 36 = .ok (.getfield 21, 3) := by decide +kernel
theorem dX1_drawRoads_39 : decode cX1_drawRoads 39 = .ok (.getfield 115, 3) := by decide +kernel
theorem dX1_drawRoads_42 : decode cX1_drawRoads 42 = .ok (.irem, 1) := by decide +kernel
theorem dX1_drawRoads_43 : decode cX1_drawRoads 43 = .ok (.istore_n 3, 1) := by decide +kernel
theorem dX1_drawRoads_44 : decode cX1_drawRoads 44 = .ok (.aload_n 1, 1) := by decide +kernel
theorem dX1_drawRoads_45 : decode cX1_drawRoads 45 = .ok (.aload_n 0, 1) := by decide +kernel
theorem dX1_drawRoads_46 : decode cX1_drawRoads 46 = .ok (.getfield 21, 3) := by decide +kernel
theorem dX1_drawRoads_49 : decode cX1_drawRoads 49 = .ok (.iload_n 2, 1) := by decide +kernel
theorem dX1_drawRoads_50 : decode cX1_drawRoads 50 = .ok (.iload_n 3, 1) := by decide +kernel
theorem dX1_drawRoads_51 : decode cX1_drawRoads 51 = .ok (.invokevirtual 121, 3) := by decide +kernel
theorem dX1_drawRoads_54 : decode cX1_drawRoads 54 = .ok (.istore 4, 2) := by decide +kernel
theorem dX1_drawRoads_56 : decode cX1_drawRoads 56 = .ok (.iload 4, 2) := by decide +kernel
theorem dX1_drawRoads_58 : decode cX1_drawRoads 58 = .ok (.ifCond .le 11, 3) := by decide +kernel
theorem dX1_drawRoads_61 : decode cX1_drawRoads 61 = .ok (.aload_n 1, 1) := by decide +kernel
theorem dX1_drawRoads_62 : decode cX1_drawRoads 62 = .ok (.iload_n 2, 1) := by decide +kernel
theorem dX1_drawRoads_63 : decode cX1_drawRoads 63 = .ok (.iload_n 3, 1) := by decide +kernel
theorem dX1_drawRoads_64 : decode cX1_drawRoads 64 = .ok (.iload 4, 2) := by decide +kernel
theorem dX1_drawRoads_66 : decode cX1_drawRoads 66 = .ok (.invokevirtual 125, 3) := by decide +kernel
theorem dX1_drawRoads_69 : decode cX1_drawRoads 69 = .ok (.iinc 2 1, 3) := by decide +kernel
theorem dX1_drawRoads_72 : decode cX1_drawRoads 72 = .ok (.goto (-70), 3) := by decide +kernel
theorem dX1_drawRoads_75 : decode cX1_drawRoads 75 = .ok (.return_, 1) := by decide +kernel
def wp_X1_drawRoads_69 (S : Sh) (k2 : Int → Int → Int → Mm → Prop) (post : Mm → Prop) (u0 : Int) (u1 : Int) (u2 : Int) (M : Mm) : Prop := wA u2 1 fun v1 => k2 u0 u1 v1 M
def wp_X1_drawRoads_2 (S : Sh) (post : Mm → Prop) : Nat → Int → Int → Int → Mm → Prop
  | 0, _, _, _, _ => False
  | n + 1, u0, u1, u2, M => wGetR S M u0 1 1 fun v3 => wGet S M v3 8 4 fun v5 => wIf (v5 ≤ u2) (post M) (isK S u1 5 ∧ (wp_X5_isAtPlace S M u1 u2 <| fun v8 M7 => wIf (v8 = 0) (wp_X1_drawRoads_69 S (fun a0 a1 a2 M => wp_X1_drawRoads_2 S post n a0 a1 a2 M) post u0 u1 u2 M7) (wGetR S M7 u0 1 1 fun v10 => wGet S M7 v10 8 0 fun v12 => wIf (v12 ≤ 0) (wp_X1_drawRoads_69 S (fun a0 a1 a2 M => wp_X1_drawRoads_2 S post n a0 a1 a2 M) post u0 u1 u2 M7) (isK S u0 1 ∧ (wp_X1_draw S M7 u0 <| fun v15 M14 => wGetR S M14 u0 1 1 fun v17 => wGet S M14 v17 8 0 fun v19 => wD iRem v15 v19 fun v21 => wGetR S M14 u0 1 1 fun v23 => isK S u1 5 ∧ (wp_X5_roadFor S M14 u1 v23 u2 v21 <| fun v26 M25 => wIf (v26 ≤ 0) (wp_X1_drawRoads_69 S (fun a0 a1 a2 M => wp_X1_drawRoads_2 S post n a0 a1 a2 M) post u0 u1 u2 M25) (isK S u1 5 ∧ (wp_X5_setOut S M25 u1 u2 v21 v26 <| fun M28 => wp_X1_drawRoads_69 S (fun a0 a1 a2 M => wp_X1_drawRoads_2 S post n a0 a1 a2 M) post u0 u1 u2 M28))))))))
def wp_X1_drawRoads (S : Sh) (M : Mm) (u0 : Int) (u1 : Int) (post : Mm → Prop) : Prop := wC 0 fun v29 => ∃ n9 : Nat, wp_X1_drawRoads_2 S post n9 u0 u1 v29 M
set_option maxHeartbeats 4000000 in
set_option maxRecDepth 100000 in
theorem t_X1_drawRoads_69 {p : Program} {l : Launch} {e : Env} {s : State} {m : MethodId} {args : Array Value} {below : List Frame} {meth : Method} {c : Code} {D : va_G} {G : Gt} {S : Sh} {post : Mm → Prop} {k2 : Int → Int → Int → Mm → Prop} (C : Cx p s m args meth c D G cX1_drawRoads 5 none (cw_X1_drawRoads :: gw) RX1) (hk2 : ∀ (y0 : Int) (y1 : Int) (y2 : Int32) (M : Mm) (H : Heap) (locs : List Loc) (ls : Array Slot), Wd D G S M H → va_S (aG G) s.heap H locs → lv_has ls 5 [(0, .ref (adr G y0)), (1, .ref (adr G y1)), (2, .int y2)] → k2 y0 y1 y2.toInt M → W p l e RM_X1_drawRoads s m args below meth c H locs 0 0 (MQ below (QV D G S post) args s 0 0 (aG G)) (F0 m 2 ls [])) : ∀ (xl0 : Int) (xl1 : Int) (zl2 : Int32) (M : Mm) (H : Heap) (locs : List Loc) (ls : Array Slot), Wd D G S M H → va_S (aG G) s.heap H locs → lv_has ls 5 [(0, .ref (adr G xl0)), (1, .ref (adr G xl1)), (2, .int zl2)] → wp_X1_drawRoads_69 S k2 post xl0 xl1 zl2.toInt  M → W p l e RM_X1_drawRoads s m args below meth c H locs 0 0 (MQ below (QV D G S post) args s 0 0 (aG G)) (F0 m 69 ls []) := by
  obtain ⟨hx, hb, hr, hlocks, hml, hown, hts, hK⟩ := id C
  intro xl0 xl1 zl2 M H locs ls hP hS hl h
  unfold wp_X1_drawRoads_69 at h
  refine r_iinc hx hb (fun z2 => [(2, .int z2), (0, .ref (adr G xl0)), (1, .ref (adr G xl1))]) dX1_drawRoads_69 (by decide) hl (k := 2) rfl (by decide) (fun _ => rfl) h (fun z2 ls hl h => ?_)
  refine lv_goto (tgt := 2) hx hb dX1_drawRoads_72 (by decide) ?_
  exact hk2 xl0 xl1 z2 _ _ _ _ hP hS (lv_sub hl [1, 2, 0] rfl) h
set_option maxHeartbeats 4000000 in
set_option maxRecDepth 100000 in
theorem t_X1_drawRoads_2 {p : Program} {l : Launch} {e : Env} {s : State} {m : MethodId} {args : Array Value} {below : List Frame} {meth : Method} {c : Code} {D : va_G} {G : Gt} {S : Sh} {post : Mm → Prop} (C : Cx p s m args meth c D G cX1_drawRoads 5 none (cw_X1_drawRoads :: gw) RX1) : ∀ (n : Nat) (xl0 : Int) (xl1 : Int) (zl2 : Int32) (M : Mm) (H : Heap) (locs : List Loc) (ls : Array Slot), Wd D G S M H → va_S (aG G) s.heap H locs → lv_has ls 5 [(0, .ref (adr G xl0)), (1, .ref (adr G xl1)), (2, .int zl2)] → wp_X1_drawRoads_2 S post n xl0 xl1 zl2.toInt  M → W p l e RM_X1_drawRoads s m args below meth c H locs 0 0 (MQ below (QV D G S post) args s 0 0 (aG G)) (F0 m 2 ls []) := by
  obtain ⟨hx, hb, hr, hlocks, hml, hown, hts, hK⟩ := id C
  intro n
  induction n with
  | zero => intro xl0 xl1 zl2 M H locs ls hP hS hl h; exact h.elim
  | succ n ih =>
    intro xl0 xl1 zl2 M H locs ls hP hS hl h
    unfold wp_X1_drawRoads_2 at h
    refine lv_iload_n hx hb dX1_drawRoads_2 rfl (lv_at hl 2 rfl) ?_
    refine lv_aload_n hx hb dX1_drawRoads_3 rfl (lv_at hl 0 rfl) ?_
    refine r_getr (C := RX1) (T := TX1) (N := 3) hx hb hts (fun w h => List.mem_cons_of_mem _ (iX1 w h)) hown hK hP rfl (by decide) rfl 1 (by decide) (hts _ (List.mem_cons_of_mem _ kw_399)) (fun _ h9 => h9) dX1_drawRoads_4 (by decide) h (fun x4 h => ?_)
    refine r_getiN (C := RX8) (T := TX8) (N := 19) hx hb hts (fun w h => List.mem_cons_of_mem _ (iX8 w h)) hown hK hP rfl (by decide) rfl 4 (by decide) (nw_12 hK) (fun _ h9 => h9) dX1_drawRoads_7 (by decide) h (fun z6 h => ?_)
    refine r_icmp_ge (tgt := 75) hx hb dX1_drawRoads_10 (by decide) h (fun h => ?_) (fun h => ?_)
    · exact r_vret hx hb hr hlocks hP hS dX1_drawRoads_75 h
    · refine lv_aload_n hx hb dX1_drawRoads_13 rfl (lv_at hl 1 rfl) ?_
      refine lv_iload_n hx hb dX1_drawRoads_14 rfl (lv_at hl 2 rfl) ?_
      refine q_Vi hx hb hml hown hts hK hP hS (c_X5_isAtPlace l D G S _ xl1 zl2 _ h.2) ⟨callB_of 1 hts (gw_good kw_951) rfl rfl rfl (hts _ (List.mem_cons_of_mem _ kw_5)) (hts _ (List.mem_cons_of_mem _ kw_1283)) hd_X5_isAtPlace ⟨Nat.le_of_ble_eq_true rfl, Nat.le_of_ble_eq_true rfl⟩, (hts _ (List.mem_cons_of_mem _ kw_949)), (hts _ (List.mem_cons_of_mem _ kw_950))⟩ h.1 (ci := 5) rfl (by decide) rfl hl.1 rfl (lv_room (Nat.le_of_ble_eq_true rfl)) dX1_drawRoads_15 ⟨Nat.zero_le _, Nat.zero_le _⟩ (fun z9 M7 H locs h hP hS => ?_)
      refine r_if_eq (tgt := 69) hx hb dX1_drawRoads_18 (by decide) h (fun h => ?_) (fun h => ?_)
      · exact t_X1_drawRoads_69 C ih xl0 xl1 zl2 _ _ _ _ hP hS (lv_sub hl [0, 1, 2] rfl) h
      · refine lv_aload_n hx hb dX1_drawRoads_21 rfl (lv_at hl 0 rfl) ?_
        refine r_getr (C := RX1) (T := TX1) (N := 3) hx hb hts (fun w h => List.mem_cons_of_mem _ (iX1 w h)) hown hK hP rfl (by decide) rfl 1 (by decide) (hts _ (List.mem_cons_of_mem _ kw_399)) (fun _ h9 => h9) dX1_drawRoads_22 (by decide) h (fun x11 h => ?_)
        refine r_getiN (C := RX8) (T := TX8) (N := 19) hx hb hts (fun w h => List.mem_cons_of_mem _ (iX8 w h)) hown hK hP rfl (by decide) rfl 0 (by decide) (nw_2 hK) (fun _ h9 => h9) dX1_drawRoads_25 (by decide) h (fun z13 h => ?_)
        refine r_if_le (tgt := 69) hx hb dX1_drawRoads_28 (by decide) h (fun h => ?_) (fun h => ?_)
        · exact t_X1_drawRoads_69 C ih xl0 xl1 zl2 _ _ _ _ hP hS (lv_sub hl [0, 1, 2] rfl) h
        · refine lv_aload_n hx hb dX1_drawRoads_31 rfl (lv_at hl 0 rfl) ?_
          refine q_Vi hx hb hml hown hts hK hP hS (c_X1_draw l D G S _ xl0 _ h.2) ⟨callB_of 0 hts (gw_good kw_1287) rfl rfl rfl (hts _ (List.mem_cons_of_mem _ kw_10)) (hts _ (List.mem_cons_of_mem _ kw_1284)) hd_X1_draw ⟨Nat.le_of_ble_eq_true rfl, Nat.le_of_ble_eq_true rfl⟩, (hts _ (List.mem_cons_of_mem _ kw_1286)), (hts _ (List.mem_cons_of_mem _ kp_49))⟩ h.1 (ci := 1) rfl (by decide) rfl hl.1 rfl (lv_room (Nat.le_of_ble_eq_true rfl)) dX1_drawRoads_32 ⟨Nat.zero_le _, Nat.zero_le _⟩ (fun z16 M14 H locs h hP hS => ?_)
          refine lv_aload_n hx hb dX1_drawRoads_35 rfl (lv_at hl 0 rfl) ?_
          refine r_getr (C := RX1) (T := TX1) (N := 3) hx hb hts (fun w h => List.mem_cons_of_mem _ (iX1 w h)) hown hK hP rfl (by decide) rfl 1 (by decide) (hts _ (List.mem_cons_of_mem _ kw_399)) (fun _ h9 => h9) dX1_drawRoads_36 (by decide) h (fun x18 h => ?_)
          refine r_getiN (C := RX8) (T := TX8) (N := 19) hx hb hts (fun w h => List.mem_cons_of_mem _ (iX8 w h)) hown hK hP rfl (by decide) rfl 0 (by decide) (nw_2 hK) (fun _ h9 => h9) dX1_drawRoads_39 (by decide) h (fun z20 h => ?_)
          refine r_irem hx hb dX1_drawRoads_42 h (fun z22 h => ?_)
          refine lv_istore_n (lv' := [(3, .int z22), (0, .ref (adr G xl0)), (1, .ref (adr G xl1)), (2, .int zl2)]) hx hb dX1_drawRoads_43 rfl hl (by decide) rfl (fun ls hl => ?_)
          refine lv_aload_n hx hb dX1_drawRoads_44 rfl (lv_at hl 2 rfl) ?_
          refine lv_aload_n hx hb dX1_drawRoads_45 rfl (lv_at hl 1 rfl) ?_
          refine r_getr (C := RX1) (T := TX1) (N := 3) hx hb hts (fun w h => List.mem_cons_of_mem _ (iX1 w h)) hown hK hP rfl (by decide) rfl 1 (by decide) (hts _ (List.mem_cons_of_mem _ kw_399)) (fun _ h9 => h9) dX1_drawRoads_46 (by decide) h (fun x24 h => ?_)
          refine lv_iload_n hx hb dX1_drawRoads_49 rfl (lv_at hl 3 rfl) ?_
          refine lv_iload_n hx hb dX1_drawRoads_50 rfl (lv_at hl 0 rfl) ?_
          refine q_Vi hx hb hml hown hts hK hP hS (c_X5_roadFor l D G S _ xl1 x24 zl2 z22 _ h.2) ⟨callB_of 3 hts (gw_good kw_1039) rfl rfl rfl (hts _ (List.mem_cons_of_mem _ kw_5)) (hts _ (List.mem_cons_of_mem _ kw_1292)) hd_X5_roadFor ⟨Nat.le_of_ble_eq_true rfl, Nat.le_of_ble_eq_true rfl⟩, (hts _ (List.mem_cons_of_mem _ kw_1037)), (hts _ (List.mem_cons_of_mem _ kw_1038))⟩ h.1 (ci := 5) rfl (by decide) rfl hl.1 rfl (lv_room (Nat.le_of_ble_eq_true rfl)) dX1_drawRoads_51 ⟨Nat.zero_le _, Nat.zero_le _⟩ (fun z27 M25 H locs h hP hS => ?_)
          refine lv_istore (lv' := [(4, .int z27), (3, .int z22), (0, .ref (adr G xl0)), (1, .ref (adr G xl1)), (2, .int zl2)]) hx hb dX1_drawRoads_54 hl (by decide) rfl (fun ls hl => ?_)
          refine lv_iload hx hb dX1_drawRoads_56 (lv_at hl 0 rfl) ?_
          refine r_if_le (tgt := 69) hx hb dX1_drawRoads_58 (by decide) h (fun h => ?_) (fun h => ?_)
          · exact t_X1_drawRoads_69 C ih xl0 xl1 zl2 _ _ _ _ hP hS (lv_sub hl [2, 3, 4] rfl) h
          · refine lv_aload_n hx hb dX1_drawRoads_61 rfl (lv_at hl 3 rfl) ?_
            refine lv_iload_n hx hb dX1_drawRoads_62 rfl (lv_at hl 4 rfl) ?_
            refine lv_iload_n hx hb dX1_drawRoads_63 rfl (lv_at hl 1 rfl) ?_
            refine lv_iload hx hb dX1_drawRoads_64 (lv_at hl 0 rfl) ?_
            refine q_Vv hx hb hml hown hts hK hP hS (c_X5_setOut l D G S _ xl1 zl2 z22 z27 _ h.2) ⟨callB_of 3 hts (gw_good kw_1044) rfl rfl rfl (hts _ (List.mem_cons_of_mem _ kw_5)) (hts _ (List.mem_cons_of_mem _ kw_1293)) hd_X5_setOut ⟨Nat.le_of_ble_eq_true rfl, Nat.le_of_ble_eq_true rfl⟩, (hts _ (List.mem_cons_of_mem _ kw_1042)), (hts _ (List.mem_cons_of_mem _ kw_1043))⟩ h.1 (ci := 5) rfl (by decide) rfl hl.1 rfl (lv_room (Nat.le_of_ble_eq_true rfl)) dX1_drawRoads_66 ⟨Nat.zero_le _, Nat.zero_le _⟩ (fun M28 H locs h hP hS => ?_)
            exact t_X1_drawRoads_69 C ih xl0 xl1 zl2 _ _ _ _ hP hS (lv_sub hl [2, 3, 4] rfl) h
set_option maxHeartbeats 4000000 in
set_option maxRecDepth 100000 in
theorem c_X1_drawRoads (l : Launch) (D : va_G) (G : Gt) (S : Sh) (M : Mm) (xl0 : Int) (xl1 : Int) (post : Mm → Prop) (h : wp_X1_drawRoads S M xl0 xl1 post) : Met l yX1_drawRoads (cw_X1_drawRoads :: gw) RM_X1_drawRoads (va_Pc [.ref (adr G xl0), .ref (adr G xl1)] (fun U => KN D G U ∧ Wd D G S M U.heap)) (QV D G S post) 0 0 (aG G) := by
  refine Met.ofW (cc := cX1_drawRoads) (maxL := 5) (ret := none) (by decide) rfl ?_
  intro p e s m args below meth c s₁ B hml hv
  obtain ⟨rfl, hK, hP⟩ := hv
  have hx := B.exec
  have hb := B.bytes
  have hr := B.returns
  have hts := atoms_spec (ws := cw_X1_drawRoads :: gw) B.pre
  have hown : s.vm.findClass RX1 = some m.cls := findClass_of_methodNamed B.named
  have hlocks := B.notSynchronized
  have hS : va_S (aG G) s.heap s.heap [] := va_S.rf
  have C : Cx p s m ([.ref (adr G xl0), .ref (adr G xl1)] : List Value).toArray meth c D G cX1_drawRoads 5 none (cw_X1_drawRoads :: gw) RX1 := ⟨hx, hb, hr, hlocks, hml, hown, hts, hK⟩
  have hl := lv_entry ([.ref (adr G xl0), .ref (adr G xl1)]) (n := 5) (Nat.le_of_ble_eq_true rfl)
  rw [lg_entry_eq]
  generalize (lg_sl ([.ref (adr G xl0), .ref (adr G xl1)]) ++ List.replicate (5 - (lg_sl ([.ref (adr G xl0), .ref (adr G xl1)])).length) Slot.unset).toArray = ls at hl ⊢
  have hl : lv_has ls 5 [(0, .ref (adr G xl0)), (1, .ref (adr G xl1))] := hl
  unfold wp_X1_drawRoads at h
  refine r_iconst hx hb dX1_drawRoads_0 (by decide) h (fun z30 h => ?_)
  refine lv_istore_n (lv' := [(2, .int z30), (0, .ref (adr G xl0)), (1, .ref (adr G xl1))]) hx hb dX1_drawRoads_1 rfl hl (by decide) rfl (fun ls hl => ?_)
  obtain ⟨n9, h⟩ := h
  exact t_X1_drawRoads_2 C n9 xl0 xl1 z30 _ _ _ _ hP hS (lv_sub hl [1, 2, 0] rfl) h
/-! TurningMilk$Hours.drawHolders(LTurningMilk$State;)V -/
abbrev RM_X1_drawHolders : Room := { frames := 5, cells := 0, slots := 0, locals := 127 }
def cw_X1_drawHolders : Cond := Cond.code yX1_drawHolders cX1_drawHolders 4 (Option.none : Option FieldType)
theorem hd_X1_drawHolders : yX1_drawHolders.cls ≠ "java/lang/invoke/MethodHandle" ∧ yX1_drawHolders.cls ≠ "java/lang/invoke/VarHandle" ∧ (parseMethodDescriptor yX1_drawHolders.desc).map (fun d => d.parameters.length) = some 1 := by decide +kernel
theorem dX1_drawHolders_0 : decode cX1_drawHolders 0 = .ok (.iconst 0, 1) := by decide +kernel
theorem dX1_drawHolders_1 : decode cX1_drawHolders 1 = .ok (.istore_n 2, 1) := by decide +kernel
theorem dX1_drawHolders_2 : decode cX1_drawHolders 2 = .ok (.iload_n 2, 1) := by decide +kernel
theorem dX1_drawHolders_3 : decode cX1_drawHolders 3 = .ok (.aload_n 0, 1) := by decide +kernel
theorem dX1_drawHolders_4 : decode cX1_drawHolders 4 = .ok (.getfield 21, 3) := by decide +kernel
theorem dX1_drawHolders_7 : decode cX1_drawHolders 7 = .ok (.getfield 22, 3) := by decide +kernel
theorem dX1_drawHolders_10 : decode cX1_drawHolders 10 = .ok (.if_icmp .ge 55, 3) := by decide +kernel
theorem dX1_drawHolders_13 : decode cX1_drawHolders 13 = .ok (.aload_n 1, 1) := by decide +kernel
theorem dX1_drawHolders_14 : decode cX1_drawHolders 14 = .ok (.iload_n 2, 1) := by decide +kernel
theorem dX1_drawHolders_15 : decode cX1_drawHolders 15 = .ok (.invokevirtual 66, 3) := by decide +kernel
theorem dX1_drawHolders_18 : decode cX1_drawHolders 18 = .ok (.ifCond .eq 41, 3) := by decide +kernel
theorem dX1_drawHolders_21 : decode cX1_drawHolders 21 = .ok (.aload_n 0, 1) := by decide +kernel
theorem dX1_drawHolders_22 : decode cX1_drawHolders 22 = .ok (.getfield 21, 3) := by decide +kernel
theorem dX1_drawHolders_25 : decode cX1_drawHolders 25 = .ok (.getfield 47, 3) := by decide +kernel
theorem dX1_drawHolders_28 : decode cX1_drawHolders 28 = .ok (.ifCond .le 31, 3) := by decide +kernel
theorem dX1_drawHolders_31 : decode cX1_drawHolders 31 = .ok (.aload_n 0, 1) := by decide +kernel
theorem dX1_drawHolders_32 : decode cX1_drawHolders 32 = .ok (.invokevirtual 118, 3) := by decide +kernel
theorem dX1_drawHolders_35 : decode cX1_drawHolders 35 = .ok (.aload_n 0, 1) := by decide +kernel
theorem dX1_drawHolders_36 : decode cX1_drawHolders 36 = .ok (.getfield 21, 3) := by decide +kernel
theorem dX1_drawHolders_39 : decode cX1_drawHolders 39 = .ok (.getfield 47, 3) := by decide +kernel
theorem dX1_drawHolders_42 : decode cX1_drawHolders 42 = .ok (.irem, 1) := by decide +kernel
theorem dX1_drawHolders_43 : decode cX1_drawHolders 43 = .ok (.istore_n 3, 1) := by decide +kernel
theorem dX1_drawHolders_44 : decode cX1_drawHolders 44 = .ok (.aload_n 1, 1) := by decide +kernel
theorem dX1_drawHolders_45 : decode cX1_drawHolders 45 = .ok (.iload_n 3, 1) := by decide +kernel
theorem dX1_drawHolders_46 : decode cX1_drawHolders 46 = .ok (.iload_n 2, 1) := by decide +kernel
theorem dX1_drawHolders_47 : decode cX1_drawHolders 47 = .ok (.invokevirtual 129, 3) := by decide +kernel
theorem dX1_drawHolders_50 : decode cX1_drawHolders 50 = .ok (.ifCond .eq 9, 3) := by decide +kernel
theorem dX1_drawHolders_53 : decode cX1_drawHolders 53 = .ok (.aload_n 1, 1) := by decide +kernel
theorem dX1_drawHolders_54 : decode cX1_drawHolders 54 = .ok (.iload_n 3, 1) := by decide +kernel
theorem dX1_drawHolders_55 : decode cX1_drawHolders 55 = .ok (.iload_n 2, 1) := by decide +kernel
theorem dX1_drawHolders_56 : decode cX1_drawHolders 56 = .ok (.invokevirtual 133, 3) := by decide +kernel
theorem dX1_drawHolders_59 : decode cX1_drawHolders 59 = .ok (.iinc 2 1, 3) := by decide +kernel
theorem dX1_drawHolders_62 : decode cX1_drawHolders 62 = .ok (.goto (-60), 3) := by decide +kernel
theorem dX1_drawHolders_65 : decode cX1_drawHolders 65 = .ok (.return_, 1) := by decide +kernel
def wp_X1_drawHolders_59 (S : Sh) (k2 : Int → Int → Int → Mm → Prop) (post : Mm → Prop) (u0 : Int) (u1 : Int) (u2 : Int) (M : Mm) : Prop := wA u2 1 fun v1 => k2 u0 u1 v1 M
def wp_X1_drawHolders_2 (S : Sh) (post : Mm → Prop) : Nat → Int → Int → Int → Mm → Prop
  | 0, _, _, _, _ => False
  | n + 1, u0, u1, u2, M => wGetR S M u0 1 1 fun v3 => wGet S M v3 8 5 fun v5 => wIf (v5 ≤ u2) (post M) (isK S u1 5 ∧ (wp_X5_stands S M u1 u2 <| fun v8 M7 => wIf (v8 = 0) (wp_X1_drawHolders_59 S (fun a0 a1 a2 M => wp_X1_drawHolders_2 S post n a0 a1 a2 M) post u0 u1 u2 M7) (wGetR S M7 u0 1 1 fun v10 => wGet S M7 v10 8 4 fun v12 => wIf (v12 ≤ 0) (wp_X1_drawHolders_59 S (fun a0 a1 a2 M => wp_X1_drawHolders_2 S post n a0 a1 a2 M) post u0 u1 u2 M7) (isK S u0 1 ∧ (wp_X1_draw S M7 u0 <| fun v15 M14 => wGetR S M14 u0 1 1 fun v17 => wGet S M14 v17 8 4 fun v19 => wD iRem v15 v19 fun v21 => isK S u1 5 ∧ (wp_X5_canTake S M14 u1 v21 u2 <| fun v24 M23 => wIf (v24 = 0) (wp_X1_drawHolders_59 S (fun a0 a1 a2 M => wp_X1_drawHolders_2 S post n a0 a1 a2 M) post u0 u1 u2 M23) (isK S u1 5 ∧ (wp_X5_giveTo S M23 u1 v21 u2 <| fun M26 => wp_X1_drawHolders_59 S (fun a0 a1 a2 M => wp_X1_drawHolders_2 S post n a0 a1 a2 M) post u0 u1 u2 M26))))))))
def wp_X1_drawHolders (S : Sh) (M : Mm) (u0 : Int) (u1 : Int) (post : Mm → Prop) : Prop := wC 0 fun v27 => ∃ n9 : Nat, wp_X1_drawHolders_2 S post n9 u0 u1 v27 M
set_option maxHeartbeats 4000000 in
set_option maxRecDepth 100000 in
theorem t_X1_drawHolders_59 {p : Program} {l : Launch} {e : Env} {s : State} {m : MethodId} {args : Array Value} {below : List Frame} {meth : Method} {c : Code} {D : va_G} {G : Gt} {S : Sh} {post : Mm → Prop} {k2 : Int → Int → Int → Mm → Prop} (C : Cx p s m args meth c D G cX1_drawHolders 4 none (cw_X1_drawHolders :: gw) RX1) (hk2 : ∀ (y0 : Int) (y1 : Int) (y2 : Int32) (M : Mm) (H : Heap) (locs : List Loc) (ls : Array Slot), Wd D G S M H → va_S (aG G) s.heap H locs → lv_has ls 4 [(0, .ref (adr G y0)), (1, .ref (adr G y1)), (2, .int y2)] → k2 y0 y1 y2.toInt M → W p l e RM_X1_drawHolders s m args below meth c H locs 0 0 (MQ below (QV D G S post) args s 0 0 (aG G)) (F0 m 2 ls [])) : ∀ (xl0 : Int) (xl1 : Int) (zl2 : Int32) (M : Mm) (H : Heap) (locs : List Loc) (ls : Array Slot), Wd D G S M H → va_S (aG G) s.heap H locs → lv_has ls 4 [(0, .ref (adr G xl0)), (1, .ref (adr G xl1)), (2, .int zl2)] → wp_X1_drawHolders_59 S k2 post xl0 xl1 zl2.toInt  M → W p l e RM_X1_drawHolders s m args below meth c H locs 0 0 (MQ below (QV D G S post) args s 0 0 (aG G)) (F0 m 59 ls []) := by
  obtain ⟨hx, hb, hr, hlocks, hml, hown, hts, hK⟩ := id C
  intro xl0 xl1 zl2 M H locs ls hP hS hl h
  unfold wp_X1_drawHolders_59 at h
  refine r_iinc hx hb (fun z2 => [(2, .int z2), (0, .ref (adr G xl0)), (1, .ref (adr G xl1))]) dX1_drawHolders_59 (by decide) hl (k := 2) rfl (by decide) (fun _ => rfl) h (fun z2 ls hl h => ?_)
  refine lv_goto (tgt := 2) hx hb dX1_drawHolders_62 (by decide) ?_
  exact hk2 xl0 xl1 z2 _ _ _ _ hP hS (lv_sub hl [1, 2, 0] rfl) h
set_option maxHeartbeats 4000000 in
set_option maxRecDepth 100000 in
theorem t_X1_drawHolders_2 {p : Program} {l : Launch} {e : Env} {s : State} {m : MethodId} {args : Array Value} {below : List Frame} {meth : Method} {c : Code} {D : va_G} {G : Gt} {S : Sh} {post : Mm → Prop} (C : Cx p s m args meth c D G cX1_drawHolders 4 none (cw_X1_drawHolders :: gw) RX1) : ∀ (n : Nat) (xl0 : Int) (xl1 : Int) (zl2 : Int32) (M : Mm) (H : Heap) (locs : List Loc) (ls : Array Slot), Wd D G S M H → va_S (aG G) s.heap H locs → lv_has ls 4 [(0, .ref (adr G xl0)), (1, .ref (adr G xl1)), (2, .int zl2)] → wp_X1_drawHolders_2 S post n xl0 xl1 zl2.toInt  M → W p l e RM_X1_drawHolders s m args below meth c H locs 0 0 (MQ below (QV D G S post) args s 0 0 (aG G)) (F0 m 2 ls []) := by
  obtain ⟨hx, hb, hr, hlocks, hml, hown, hts, hK⟩ := id C
  intro n
  induction n with
  | zero => intro xl0 xl1 zl2 M H locs ls hP hS hl h; exact h.elim
  | succ n ih =>
    intro xl0 xl1 zl2 M H locs ls hP hS hl h
    unfold wp_X1_drawHolders_2 at h
    refine lv_iload_n hx hb dX1_drawHolders_2 rfl (lv_at hl 2 rfl) ?_
    refine lv_aload_n hx hb dX1_drawHolders_3 rfl (lv_at hl 0 rfl) ?_
    refine r_getr (C := RX1) (T := TX1) (N := 3) hx hb hts (fun w h => List.mem_cons_of_mem _ (iX1 w h)) hown hK hP rfl (by decide) rfl 1 (by decide) (hts _ (List.mem_cons_of_mem _ kw_399)) (fun _ h9 => h9) dX1_drawHolders_4 (by decide) h (fun x4 h => ?_)
    refine r_getiN (C := RX8) (T := TX8) (N := 19) hx hb hts (fun w h => List.mem_cons_of_mem _ (iX8 w h)) hown hK hP rfl (by decide) rfl 5 (by decide) (nw_18 hK) (fun _ h9 => h9) dX1_drawHolders_7 (by decide) h (fun z6 h => ?_)
    refine r_icmp_ge (tgt := 65) hx hb dX1_drawHolders_10 (by decide) h (fun h => ?_) (fun h => ?_)
    · exact r_vret hx hb hr hlocks hP hS dX1_drawHolders_65 h
    · refine lv_aload_n hx hb dX1_drawHolders_13 rfl (lv_at hl 1 rfl) ?_
      refine lv_iload_n hx hb dX1_drawHolders_14 rfl (lv_at hl 2 rfl) ?_
      refine q_Vi hx hb hml hown hts hK hP hS (c_X5_stands l D G S _ xl1 zl2 _ h.2) ⟨callB_of 1 hts (gw_good kw_934) rfl rfl rfl (hts _ (List.mem_cons_of_mem _ kw_5)) (hts _ (List.mem_cons_of_mem _ kw_931)) hd_X5_stands ⟨Nat.le_of_ble_eq_true rfl, Nat.le_of_ble_eq_true rfl⟩, (hts _ (List.mem_cons_of_mem _ kw_932)), (hts _ (List.mem_cons_of_mem _ kw_933))⟩ h.1 (ci := 5) rfl (by decide) rfl hl.1 rfl (lv_room (Nat.le_of_ble_eq_true rfl)) dX1_drawHolders_15 ⟨Nat.zero_le _, Nat.zero_le _⟩ (fun z9 M7 H locs h hP hS => ?_)
      refine r_if_eq (tgt := 59) hx hb dX1_drawHolders_18 (by decide) h (fun h => ?_) (fun h => ?_)
      · exact t_X1_drawHolders_59 C ih xl0 xl1 zl2 _ _ _ _ hP hS (lv_sub hl [0, 1, 2] rfl) h
      · refine lv_aload_n hx hb dX1_drawHolders_21 rfl (lv_at hl 0 rfl) ?_
        refine r_getr (C := RX1) (T := TX1) (N := 3) hx hb hts (fun w h => List.mem_cons_of_mem _ (iX1 w h)) hown hK hP rfl (by decide) rfl 1 (by decide) (hts _ (List.mem_cons_of_mem _ kw_399)) (fun _ h9 => h9) dX1_drawHolders_22 (by decide) h (fun x11 h => ?_)
        refine r_getiN (C := RX8) (T := TX8) (N := 19) hx hb hts (fun w h => List.mem_cons_of_mem _ (iX8 w h)) hown hK hP rfl (by decide) rfl 4 (by decide) (nw_12 hK) (fun _ h9 => h9) dX1_drawHolders_25 (by decide) h (fun z13 h => ?_)
        refine r_if_le (tgt := 59) hx hb dX1_drawHolders_28 (by decide) h (fun h => ?_) (fun h => ?_)
        · exact t_X1_drawHolders_59 C ih xl0 xl1 zl2 _ _ _ _ hP hS (lv_sub hl [0, 1, 2] rfl) h
        · refine lv_aload_n hx hb dX1_drawHolders_31 rfl (lv_at hl 0 rfl) ?_
          refine q_Vi hx hb hml hown hts hK hP hS (c_X1_draw l D G S _ xl0 _ h.2) ⟨callB_of 0 hts (gw_good kw_1287) rfl rfl rfl (hts _ (List.mem_cons_of_mem _ kw_10)) (hts _ (List.mem_cons_of_mem _ kw_1284)) hd_X1_draw ⟨Nat.le_of_ble_eq_true rfl, Nat.le_of_ble_eq_true rfl⟩, (hts _ (List.mem_cons_of_mem _ kw_1286)), (hts _ (List.mem_cons_of_mem _ kp_49))⟩ h.1 (ci := 1) rfl (by decide) rfl hl.1 rfl (lv_room (Nat.le_of_ble_eq_true rfl)) dX1_drawHolders_32 ⟨Nat.zero_le _, Nat.zero_le _⟩ (fun z16 M14 H locs h hP hS => ?_)
          refine lv_aload_n hx hb dX1_drawHolders_35 rfl (lv_at hl 0 rfl) ?_
          refine r_getr (C := RX1) (T := TX1) (N := 3) hx hb hts (fun w h => List.mem_cons_of_mem _ (iX1 w h)) hown hK hP rfl (by decide) rfl 1 (by decide) (hts _ (List.mem_cons_of_mem _ kw_399)) (fun _ h9 => h9) dX1_drawHolders_36 (by decide) h (fun x18 h => ?_)
          refine r_getiN (C := RX8) (T := TX8) (N := 19) hx hb hts (fun w h => List.mem_cons_of_mem _ (iX8 w h)) hown hK hP rfl (by decide) rfl 4 (by decide) (nw_12 hK) (fun _ h9 => h9) dX1_drawHolders_39 (by decide) h (fun z20 h => ?_)
          refine r_irem hx hb dX1_drawHolders_42 h (fun z22 h => ?_)
          refine lv_istore_n (lv' := [(3, .int z22), (0, .ref (adr G xl0)), (1, .ref (adr G xl1)), (2, .int zl2)]) hx hb dX1_drawHolders_43 rfl hl (by decide) rfl (fun ls hl => ?_)
          refine lv_aload_n hx hb dX1_drawHolders_44 rfl (lv_at hl 2 rfl) ?_
          refine lv_iload_n hx hb dX1_drawHolders_45 rfl (lv_at hl 0 rfl) ?_
          refine lv_iload_n hx hb dX1_drawHolders_46 rfl (lv_at hl 3 rfl) ?_
          refine q_Vi hx hb hml hown hts hK hP hS (c_X5_canTake l D G S _ xl1 z22 zl2 _ h.2) ⟨callB_of 2 hts (gw_good kw_1003) rfl rfl rfl (hts _ (List.mem_cons_of_mem _ kw_5)) (hts _ (List.mem_cons_of_mem _ kw_1298)) hd_X5_canTake ⟨Nat.le_of_ble_eq_true rfl, Nat.le_of_ble_eq_true rfl⟩, (hts _ (List.mem_cons_of_mem _ kw_1001)), (hts _ (List.mem_cons_of_mem _ kw_1002))⟩ h.1 (ci := 5) rfl (by decide) rfl hl.1 rfl (lv_room (Nat.le_of_ble_eq_true rfl)) dX1_drawHolders_47 ⟨Nat.zero_le _, Nat.zero_le _⟩ (fun z25 M23 H locs h hP hS => ?_)
          refine r_if_eq (tgt := 59) hx hb dX1_drawHolders_50 (by decide) h (fun h => ?_) (fun h => ?_)
          · exact t_X1_drawHolders_59 C ih xl0 xl1 zl2 _ _ _ _ hP hS (lv_sub hl [1, 2, 3] rfl) h
          · refine lv_aload_n hx hb dX1_drawHolders_53 rfl (lv_at hl 2 rfl) ?_
            refine lv_iload_n hx hb dX1_drawHolders_54 rfl (lv_at hl 0 rfl) ?_
            refine lv_iload_n hx hb dX1_drawHolders_55 rfl (lv_at hl 3 rfl) ?_
            refine q_Vv hx hb hml hown hts hK hP hS (c_X5_giveTo l D G S _ xl1 z22 zl2 _ h.2) ⟨callB_of 2 hts (gw_good kw_1014) rfl rfl rfl (hts _ (List.mem_cons_of_mem _ kw_5)) (hts _ (List.mem_cons_of_mem _ kw_1299)) hd_X5_giveTo ⟨Nat.le_of_ble_eq_true rfl, Nat.le_of_ble_eq_true rfl⟩, (hts _ (List.mem_cons_of_mem _ kw_1012)), (hts _ (List.mem_cons_of_mem _ kw_1013))⟩ h.1 (ci := 5) rfl (by decide) rfl hl.1 rfl (lv_room (Nat.le_of_ble_eq_true rfl)) dX1_drawHolders_56 ⟨Nat.zero_le _, Nat.zero_le _⟩ (fun M26 H locs h hP hS => ?_)
            exact t_X1_drawHolders_59 C ih xl0 xl1 zl2 _ _ _ _ hP hS (lv_sub hl [1, 2, 3] rfl) h
set_option maxHeartbeats 4000000 in
set_option maxRecDepth 100000 in
theorem c_X1_drawHolders (l : Launch) (D : va_G) (G : Gt) (S : Sh) (M : Mm) (xl0 : Int) (xl1 : Int) (post : Mm → Prop) (h : wp_X1_drawHolders S M xl0 xl1 post) : Met l yX1_drawHolders (cw_X1_drawHolders :: gw) RM_X1_drawHolders (va_Pc [.ref (adr G xl0), .ref (adr G xl1)] (fun U => KN D G U ∧ Wd D G S M U.heap)) (QV D G S post) 0 0 (aG G) := by
  refine Met.ofW (cc := cX1_drawHolders) (maxL := 4) (ret := none) (by decide) rfl ?_
  intro p e s m args below meth c s₁ B hml hv
  obtain ⟨rfl, hK, hP⟩ := hv
  have hx := B.exec
  have hb := B.bytes
  have hr := B.returns
  have hts := atoms_spec (ws := cw_X1_drawHolders :: gw) B.pre
  have hown : s.vm.findClass RX1 = some m.cls := findClass_of_methodNamed B.named
  have hlocks := B.notSynchronized
  have hS : va_S (aG G) s.heap s.heap [] := va_S.rf
  have C : Cx p s m ([.ref (adr G xl0), .ref (adr G xl1)] : List Value).toArray meth c D G cX1_drawHolders 4 none (cw_X1_drawHolders :: gw) RX1 := ⟨hx, hb, hr, hlocks, hml, hown, hts, hK⟩
  have hl := lv_entry ([.ref (adr G xl0), .ref (adr G xl1)]) (n := 4) (Nat.le_of_ble_eq_true rfl)
  rw [lg_entry_eq]
  generalize (lg_sl ([.ref (adr G xl0), .ref (adr G xl1)]) ++ List.replicate (4 - (lg_sl ([.ref (adr G xl0), .ref (adr G xl1)])).length) Slot.unset).toArray = ls at hl ⊢
  have hl : lv_has ls 4 [(0, .ref (adr G xl0)), (1, .ref (adr G xl1))] := hl
  unfold wp_X1_drawHolders at h
  refine r_iconst hx hb dX1_drawHolders_0 (by decide) h (fun z28 h => ?_)
  refine lv_istore_n (lv' := [(2, .int z28), (0, .ref (adr G xl0)), (1, .ref (adr G xl1))]) hx hb dX1_drawHolders_1 rfl hl (by decide) rfl (fun ls hl => ?_)
  obtain ⟨n9, h⟩ := h
  exact t_X1_drawHolders_2 C n9 xl0 xl1 z28 _ _ _ _ hP hS (lv_sub hl [1, 2, 0] rfl) h
