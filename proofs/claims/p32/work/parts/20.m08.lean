/-! TurningMilkModel.roadOf(II)I -/
abbrev RM_X12_roadOf : Room := { frames := 1, cells := 0, slots := 0, locals := 40 }
def cw_X12_roadOf : Cond := Cond.code yX12_roadOf cX12_roadOf 5 (Option.some FieldType.int)
theorem hd_X12_roadOf : yX12_roadOf.cls ≠ "java/lang/invoke/MethodHandle" ∧ yX12_roadOf.cls ≠ "java/lang/invoke/VarHandle" ∧ (parseMethodDescriptor yX12_roadOf.desc).map (fun d => d.parameters.length) = some 2 := by decide +kernel
theorem dX12_roadOf_0 : decode cX12_roadOf 0 = .ok (.iconst 0, 1) := by decide +kernel
theorem dX12_roadOf_1 : decode cX12_roadOf 1 = .ok (.istore_n 3, 1) := by decide +kernel
theorem dX12_roadOf_2 : decode cX12_roadOf 2 = .ok (.iload_n 3, 1) := by decide +kernel
theorem dX12_roadOf_3 : decode cX12_roadOf 3 = .ok (.aload_n 0, 1) := by decide +kernel
theorem dX12_roadOf_4 : decode cX12_roadOf 4 = .ok (.getfield 39, 3) := by decide +kernel
theorem dX12_roadOf_7 : decode cX12_roadOf 7 = .ok (.iconst 3, 1) := by decide +kernel
theorem dX12_roadOf_8 : decode cX12_roadOf 8 = .ok (.iaload, 1) := by decide +kernel
theorem dX12_roadOf_9 : decode cX12_roadOf 9 = .ok (.if_icmp .ge 75, 3) := by decide +kernel
theorem dX12_roadOf_12 : decode cX12_roadOf 12 = .ok (.bipush 57, 2) := by decide +kernel
theorem dX12_roadOf_14 : decode cX12_roadOf 14 = .ok (.iconst 3, 1) := by decide +kernel
theorem dX12_roadOf_15 : decode cX12_roadOf 15 = .ok (.iload_n 3, 1) := by decide +kernel
theorem dX12_roadOf_16 : decode cX12_roadOf 16 = .ok (.imul, 1) := by decide +kernel
theorem dX12_roadOf_17 : decode cX12_roadOf 17 = .ok (.iadd, 1) := by decide +kernel
theorem dX12_roadOf_18 : decode cX12_roadOf 18 = .ok (.istore 4, 2) := by decide +kernel
theorem dX12_roadOf_20 : decode cX12_roadOf 20 = .ok (.aload_n 0, 1) := by decide +kernel
theorem dX12_roadOf_21 : decode cX12_roadOf 21 = .ok (.getfield 39, 3) := by decide +kernel
theorem dX12_roadOf_24 : decode cX12_roadOf 24 = .ok (.iload 4, 2) := by decide +kernel
theorem dX12_roadOf_26 : decode cX12_roadOf 26 = .ok (.iaload, 1) := by decide +kernel
theorem dX12_roadOf_27 : decode cX12_roadOf 27 = .ok (.iload_n 1, 1) := by decide +kernel
theorem dX12_roadOf_28 : decode cX12_roadOf 28 = .ok (.if_icmp .ne 16, 3) := by decide +kernel
theorem dX12_roadOf_31 : decode cX12_roadOf 31 = .ok (.aload_n 0, 1) := by decide +kernel
theorem dX12_roadOf_32 : decode cX12_roadOf 32 = .ok (.getfield 39, 3) := by decide +kernel
theorem dX12_roadOf_35 : decode cX12_roadOf 35 = .ok (.iload 4, 2) := by decide +kernel
theorem dX12_roadOf_37 : decode cX12_roadOf 37 = .ok (.iconst 1, 1) := by decide +kernel
theorem dX12_roadOf_38 : decode cX12_roadOf 38 = .ok (.iadd, 1) := by decide +kernel
theorem dX12_roadOf_39 : decode cX12_roadOf 39 = .ok (.iaload, 1) := by decide +kernel
theorem dX12_roadOf_40 : decode cX12_roadOf 40 = .ok (.iload_n 2, 1) := by decide +kernel
theorem dX12_roadOf_41 : decode cX12_roadOf 41 = .ok (.if_icmp .eq 27, 3) := by decide +kernel
theorem dX12_roadOf_44 : decode cX12_roadOf 44 = .ok (.aload_n 0, 1) := by decide +kernel
theorem dX12_roadOf_45 : decode cX12_roadOf 45 = .ok (.getfield 39, 3) := by decide +kernel
theorem dX12_roadOf_48 : decode cX12_roadOf 48 = .ok (.iload 4, 2) := by decide +kernel
theorem dX12_roadOf_50 : decode cX12_roadOf 50 = .ok (.iaload, 1) := by decide +kernel
theorem dX12_roadOf_51 : decode cX12_roadOf 51 = .ok (.iload_n 2, 1) := by decide +kernel
theorem dX12_roadOf_52 : decode cX12_roadOf 52 = .ok (.if_icmp .ne 26, 3) := by decide +kernel
theorem dX12_roadOf_55 : decode cX12_roadOf 55 = .ok (.aload_n 0, 1) := by decide +kernel
theorem dX12_roadOf_56 : decode cX12_roadOf 56 = .ok (.getfield 39, 3) := by decide +kernel
theorem dX12_roadOf_59 : decode cX12_roadOf 59 = .ok (.iload 4, 2) := by decide +kernel
theorem dX12_roadOf_61 : decode cX12_roadOf 61 = .ok (.iconst 1, 1) := by decide +kernel
theorem dX12_roadOf_62 : decode cX12_roadOf 62 = .ok (.iadd, 1) := by decide +kernel
theorem dX12_roadOf_63 : decode cX12_roadOf 63 = .ok (.iaload, 1) := by decide +kernel
theorem dX12_roadOf_64 : decode cX12_roadOf 64 = .ok (.iload_n 1, 1) := by decide +kernel
theorem dX12_roadOf_65 : decode cX12_roadOf 65 = .ok (.if_icmp .ne 13, 3) := by decide +kernel
theorem dX12_roadOf_68 : decode cX12_roadOf 68 = .ok (.aload_n 0, 1) := by decide +kernel
theorem dX12_roadOf_69 : decode cX12_roadOf 69 = .ok (.getfield 39, 3) := by decide +kernel
theorem dX12_roadOf_72 : decode cX12_roadOf 72 = .ok (.iload 4, 2) := by decide +kernel
theorem dX12_roadOf_74 : decode cX12_roadOf 74 = .ok (.iconst 2, 1) := by decide +kernel
theorem dX12_roadOf_75 : decode cX12_roadOf 75 = .ok (.iadd, 1) := by decide +kernel
theorem dX12_roadOf_76 : decode cX12_roadOf 76 = .ok (.iaload, 1) := by decide +kernel
theorem dX12_roadOf_77 : decode cX12_roadOf 77 = .ok (.ireturn, 1) := by decide +kernel
theorem dX12_roadOf_78 : decode cX12_roadOf 78 = .ok (.iinc 3 1, 3) := by decide +kernel
theorem dX12_roadOf_81 : decode cX12_roadOf 81 = .ok (.goto (-79), 3) := by decide +kernel
theorem dX12_roadOf_84 : decode cX12_roadOf 84 = .ok (.iconst 0, 1) := by decide +kernel
theorem dX12_roadOf_85 : decode cX12_roadOf 85 = .ok (.ireturn, 1) := by decide +kernel
def wp_X12_roadOf_78 (S : Sh) (k2 : Int → Int → Int → Int → Mm → Prop) (post : Int → Mm → Prop) (u0 : Int) (u1 : Int) (u2 : Int) (u3 : Int) (M : Mm) : Prop := wA u3 1 fun v1 => k2 u0 u1 u2 v1 M
def wp_X12_roadOf_68 (S : Sh) (post : Int → Mm → Prop) (u0 : Int) (u4 : Int) (M : Mm) : Prop := wGetR S M u0 12 20 fun v3 => wC 2 fun v5 => wA u4 v5 fun v7 => wLd S M v3 14 v7 fun v9 => post v9 M
def wp_X12_roadOf_44 (S : Sh) (k2 : Int → Int → Int → Int → Mm → Prop) (post : Int → Mm → Prop) (u0 : Int) (u1 : Int) (u2 : Int) (u3 : Int) (u4 : Int) (M : Mm) : Prop := wGetR S M u0 12 20 fun v11 => wLd S M v11 14 u4 fun v13 => wIf (¬ v13 = u2) (wp_X12_roadOf_78 S k2 post u0 u1 u2 u3 M) (wGetR S M u0 12 20 fun v15 => wC 1 fun v17 => wA u4 v17 fun v19 => wLd S M v15 14 v19 fun v21 => wIf (¬ v21 = u1) (wp_X12_roadOf_78 S k2 post u0 u1 u2 u3 M) (wp_X12_roadOf_68 S post u0 u4 M))
def wp_X12_roadOf_2 (S : Sh) (post : Int → Mm → Prop) : Nat → Int → Int → Int → Int → Mm → Prop
  | 0, _, _, _, _, _ => False
  | n + 1, u0, u1, u2, u3, M => wGetR S M u0 12 20 fun v23 => wC 3 fun v25 => wLd S M v23 14 v25 fun v27 => wIf (v27 ≤ u3) (wC 0 fun v29 => post v29 M) (wC 57 fun v31 => wC 3 fun v33 => wM v33 u3 fun v35 => wA v31 v35 fun v37 => wGetR S M u0 12 20 fun v39 => wLd S M v39 14 v37 fun v41 => wIf (¬ v41 = u1) (wp_X12_roadOf_44 S (fun a0 a1 a2 a3 M => wp_X12_roadOf_2 S post n a0 a1 a2 a3 M) post u0 u1 u2 u3 v37 M) (wGetR S M u0 12 20 fun v43 => wC 1 fun v45 => wA v37 v45 fun v47 => wLd S M v43 14 v47 fun v49 => wIf (v49 = u2) (wp_X12_roadOf_68 S post u0 v37 M) (wp_X12_roadOf_44 S (fun a0 a1 a2 a3 M => wp_X12_roadOf_2 S post n a0 a1 a2 a3 M) post u0 u1 u2 u3 v37 M)))
def wp_X12_roadOf (S : Sh) (M : Mm) (u0 : Int) (u1 : Int) (u2 : Int) (post : Int → Mm → Prop) : Prop := wC 0 fun v51 => ∃ n9 : Nat, wp_X12_roadOf_2 S post n9 u0 u1 u2 v51 M
set_option maxHeartbeats 4000000 in
set_option maxRecDepth 100000 in
theorem t_X12_roadOf_78 {p : Program} {l : Launch} {e : Env} {s : State} {m : MethodId} {args : Array Value} {below : List Frame} {meth : Method} {c : Code} {D : va_G} {G : Gt} {S : Sh} {post : Int → Mm → Prop} {k2 : Int → Int → Int → Int → Mm → Prop} (C : Cx p s m args meth c D G cX12_roadOf 5 (some .int) (cw_X12_roadOf :: gw) RX12) (hk2 : ∀ (y0 : Int) (y1 : Int32) (y2 : Int32) (y3 : Int32) (M : Mm) (H : Heap) (locs : List Loc) (ls : Array Slot), Wd D G S M H → va_S (aG G) s.heap H locs → lv_has ls 5 [(0, .ref (adr G y0)), (1, .int y1), (2, .int y2), (3, .int y3)] → k2 y0 y1.toInt y2.toInt y3.toInt M → W p l e RM_X12_roadOf s m args below meth c H locs 0 0 (MQ below (QI D G S post) args s 0 0 (aG G)) (F0 m 2 ls [])) : ∀ (xl0 : Int) (zl1 : Int32) (zl2 : Int32) (zl3 : Int32) (M : Mm) (H : Heap) (locs : List Loc) (ls : Array Slot), Wd D G S M H → va_S (aG G) s.heap H locs → lv_has ls 5 [(0, .ref (adr G xl0)), (1, .int zl1), (2, .int zl2), (3, .int zl3)] → wp_X12_roadOf_78 S k2 post xl0 zl1.toInt zl2.toInt zl3.toInt  M → W p l e RM_X12_roadOf s m args below meth c H locs 0 0 (MQ below (QI D G S post) args s 0 0 (aG G)) (F0 m 78 ls []) := by
  obtain ⟨hx, hb, hr, hlocks, hml, hown, hts, hK⟩ := id C
  intro xl0 zl1 zl2 zl3 M H locs ls hP hS hl h
  unfold wp_X12_roadOf_78 at h
  refine r_iinc hx hb (fun z2 => [(3, .int z2), (0, .ref (adr G xl0)), (1, .int zl1), (2, .int zl2)]) dX12_roadOf_78 (by decide) hl (k := 3) rfl (by decide) (fun _ => rfl) h (fun z2 ls hl h => ?_)
  refine lv_goto (tgt := 2) hx hb dX12_roadOf_81 (by decide) ?_
  exact hk2 xl0 zl1 zl2 z2 _ _ _ _ hP hS (lv_sub hl [1, 2, 3, 0] rfl) h
set_option maxHeartbeats 4000000 in
set_option maxRecDepth 100000 in
theorem t_X12_roadOf_68 {p : Program} {l : Launch} {e : Env} {s : State} {m : MethodId} {args : Array Value} {below : List Frame} {meth : Method} {c : Code} {D : va_G} {G : Gt} {S : Sh} {post : Int → Mm → Prop} (C : Cx p s m args meth c D G cX12_roadOf 5 (some .int) (cw_X12_roadOf :: gw) RX12) : ∀ (xl0 : Int) (zl4 : Int32) (M : Mm) (H : Heap) (locs : List Loc) (ls : Array Slot), Wd D G S M H → va_S (aG G) s.heap H locs → lv_has ls 5 [(0, .ref (adr G xl0)), (4, .int zl4)] → wp_X12_roadOf_68 S post xl0 zl4.toInt  M → W p l e RM_X12_roadOf s m args below meth c H locs 0 0 (MQ below (QI D G S post) args s 0 0 (aG G)) (F0 m 68 ls []) := by
  obtain ⟨hx, hb, hr, hlocks, hml, hown, hts, hK⟩ := id C
  intro xl0 zl4 M H locs ls hP hS hl h
  unfold wp_X12_roadOf_68 at h
  refine lv_aload_n hx hb dX12_roadOf_68 rfl (lv_at hl 0 rfl) ?_
  refine r_getr (C := RX12) (T := TX12) (N := 38) hx hb hts (fun w h => List.mem_cons_of_mem _ (iX12 w h)) hown hK hP rfl (by decide) rfl 20 (by decide) (hts _ (List.mem_cons_of_mem _ kw_1354)) (fun _ h9 => h9) dX12_roadOf_69 (by decide) h (fun x4 h => ?_)
  refine lv_iload hx hb dX12_roadOf_72 (lv_at hl 1 rfl) ?_
  refine r_iconst hx hb dX12_roadOf_74 (by decide) h (fun z6 h => ?_)
  refine r_iadd hx hb dX12_roadOf_75 h (fun z8 h => ?_)
  refine r_iald hx hb hK hP dX12_roadOf_76 h (fun z10 h => ?_)
  exact r_iret hx hb hr hlocks hP hS dX12_roadOf_77 h
set_option maxHeartbeats 4000000 in
set_option maxRecDepth 100000 in
theorem t_X12_roadOf_44 {p : Program} {l : Launch} {e : Env} {s : State} {m : MethodId} {args : Array Value} {below : List Frame} {meth : Method} {c : Code} {D : va_G} {G : Gt} {S : Sh} {post : Int → Mm → Prop} {k2 : Int → Int → Int → Int → Mm → Prop} (C : Cx p s m args meth c D G cX12_roadOf 5 (some .int) (cw_X12_roadOf :: gw) RX12) (hk2 : ∀ (y0 : Int) (y1 : Int32) (y2 : Int32) (y3 : Int32) (M : Mm) (H : Heap) (locs : List Loc) (ls : Array Slot), Wd D G S M H → va_S (aG G) s.heap H locs → lv_has ls 5 [(0, .ref (adr G y0)), (1, .int y1), (2, .int y2), (3, .int y3)] → k2 y0 y1.toInt y2.toInt y3.toInt M → W p l e RM_X12_roadOf s m args below meth c H locs 0 0 (MQ below (QI D G S post) args s 0 0 (aG G)) (F0 m 2 ls [])) : ∀ (xl0 : Int) (zl1 : Int32) (zl2 : Int32) (zl3 : Int32) (zl4 : Int32) (M : Mm) (H : Heap) (locs : List Loc) (ls : Array Slot), Wd D G S M H → va_S (aG G) s.heap H locs → lv_has ls 5 [(0, .ref (adr G xl0)), (1, .int zl1), (2, .int zl2), (3, .int zl3), (4, .int zl4)] → wp_X12_roadOf_44 S k2 post xl0 zl1.toInt zl2.toInt zl3.toInt zl4.toInt  M → W p l e RM_X12_roadOf s m args below meth c H locs 0 0 (MQ below (QI D G S post) args s 0 0 (aG G)) (F0 m 44 ls []) := by
  obtain ⟨hx, hb, hr, hlocks, hml, hown, hts, hK⟩ := id C
  intro xl0 zl1 zl2 zl3 zl4 M H locs ls hP hS hl h
  unfold wp_X12_roadOf_44 at h
  refine lv_aload_n hx hb dX12_roadOf_44 rfl (lv_at hl 0 rfl) ?_
  refine r_getr (C := RX12) (T := TX12) (N := 38) hx hb hts (fun w h => List.mem_cons_of_mem _ (iX12 w h)) hown hK hP rfl (by decide) rfl 20 (by decide) (hts _ (List.mem_cons_of_mem _ kw_1354)) (fun _ h9 => h9) dX12_roadOf_45 (by decide) h (fun x12 h => ?_)
  refine lv_iload hx hb dX12_roadOf_48 (lv_at hl 4 rfl) ?_
  refine r_iald hx hb hK hP dX12_roadOf_50 h (fun z14 h => ?_)
  refine lv_iload_n hx hb dX12_roadOf_51 rfl (lv_at hl 2 rfl) ?_
  refine r_icmp_ne (tgt := 78) hx hb dX12_roadOf_52 (by decide) h (fun h => ?_) (fun h => ?_)
  · exact t_X12_roadOf_78 C hk2 xl0 zl1 zl2 zl3 _ _ _ _ hP hS (lv_sub hl [0, 1, 2, 3] rfl) h
  · refine lv_aload_n hx hb dX12_roadOf_55 rfl (lv_at hl 0 rfl) ?_
    refine r_getr (C := RX12) (T := TX12) (N := 38) hx hb hts (fun w h => List.mem_cons_of_mem _ (iX12 w h)) hown hK hP rfl (by decide) rfl 20 (by decide) (hts _ (List.mem_cons_of_mem _ kw_1354)) (fun _ h9 => h9) dX12_roadOf_56 (by decide) h (fun x16 h => ?_)
    refine lv_iload hx hb dX12_roadOf_59 (lv_at hl 4 rfl) ?_
    refine r_iconst hx hb dX12_roadOf_61 (by decide) h (fun z18 h => ?_)
    refine r_iadd hx hb dX12_roadOf_62 h (fun z20 h => ?_)
    refine r_iald hx hb hK hP dX12_roadOf_63 h (fun z22 h => ?_)
    refine lv_iload_n hx hb dX12_roadOf_64 rfl (lv_at hl 1 rfl) ?_
    refine r_icmp_ne (tgt := 78) hx hb dX12_roadOf_65 (by decide) h (fun h => ?_) (fun h => ?_)
    · exact t_X12_roadOf_78 C hk2 xl0 zl1 zl2 zl3 _ _ _ _ hP hS (lv_sub hl [0, 1, 2, 3] rfl) h
    · exact t_X12_roadOf_68 C xl0 zl4 _ _ _ _ hP hS (lv_sub hl [0, 4] rfl) h
set_option maxHeartbeats 4000000 in
set_option maxRecDepth 100000 in
theorem t_X12_roadOf_2 {p : Program} {l : Launch} {e : Env} {s : State} {m : MethodId} {args : Array Value} {below : List Frame} {meth : Method} {c : Code} {D : va_G} {G : Gt} {S : Sh} {post : Int → Mm → Prop} (C : Cx p s m args meth c D G cX12_roadOf 5 (some .int) (cw_X12_roadOf :: gw) RX12) : ∀ (n : Nat) (xl0 : Int) (zl1 : Int32) (zl2 : Int32) (zl3 : Int32) (M : Mm) (H : Heap) (locs : List Loc) (ls : Array Slot), Wd D G S M H → va_S (aG G) s.heap H locs → lv_has ls 5 [(0, .ref (adr G xl0)), (1, .int zl1), (2, .int zl2), (3, .int zl3)] → wp_X12_roadOf_2 S post n xl0 zl1.toInt zl2.toInt zl3.toInt  M → W p l e RM_X12_roadOf s m args below meth c H locs 0 0 (MQ below (QI D G S post) args s 0 0 (aG G)) (F0 m 2 ls []) := by
  obtain ⟨hx, hb, hr, hlocks, hml, hown, hts, hK⟩ := id C
  intro n
  induction n with
  | zero => intro xl0 zl1 zl2 zl3 M H locs ls hP hS hl h; exact h.elim
  | succ n ih =>
    intro xl0 zl1 zl2 zl3 M H locs ls hP hS hl h
    unfold wp_X12_roadOf_2 at h
    refine lv_iload_n hx hb dX12_roadOf_2 rfl (lv_at hl 3 rfl) ?_
    refine lv_aload_n hx hb dX12_roadOf_3 rfl (lv_at hl 0 rfl) ?_
    refine r_getr (C := RX12) (T := TX12) (N := 38) hx hb hts (fun w h => List.mem_cons_of_mem _ (iX12 w h)) hown hK hP rfl (by decide) rfl 20 (by decide) (hts _ (List.mem_cons_of_mem _ kw_1354)) (fun _ h9 => h9) dX12_roadOf_4 (by decide) h (fun x24 h => ?_)
    refine r_iconst hx hb dX12_roadOf_7 (by decide) h (fun z26 h => ?_)
    refine r_iald hx hb hK hP dX12_roadOf_8 h (fun z28 h => ?_)
    refine r_icmp_ge (tgt := 84) hx hb dX12_roadOf_9 (by decide) h (fun h => ?_) (fun h => ?_)
    · refine r_iconst hx hb dX12_roadOf_84 (by decide) h (fun z30 h => ?_)
      exact r_iret hx hb hr hlocks hP hS dX12_roadOf_85 h
    · refine r_bipush hx hb dX12_roadOf_12 (by decide) h (fun z32 h => ?_)
      refine r_iconst hx hb dX12_roadOf_14 (by decide) h (fun z34 h => ?_)
      refine lv_iload_n hx hb dX12_roadOf_15 rfl (lv_at hl 3 rfl) ?_
      refine r_imul hx hb dX12_roadOf_16 h (fun z36 h => ?_)
      refine r_iadd hx hb dX12_roadOf_17 h (fun z38 h => ?_)
      refine lv_istore (lv' := [(4, .int z38), (0, .ref (adr G xl0)), (1, .int zl1), (2, .int zl2), (3, .int zl3)]) hx hb dX12_roadOf_18 hl (by decide) rfl (fun ls hl => ?_)
      refine lv_aload_n hx hb dX12_roadOf_20 rfl (lv_at hl 1 rfl) ?_
      refine r_getr (C := RX12) (T := TX12) (N := 38) hx hb hts (fun w h => List.mem_cons_of_mem _ (iX12 w h)) hown hK hP rfl (by decide) rfl 20 (by decide) (hts _ (List.mem_cons_of_mem _ kw_1354)) (fun _ h9 => h9) dX12_roadOf_21 (by decide) h (fun x40 h => ?_)
      refine lv_iload hx hb dX12_roadOf_24 (lv_at hl 0 rfl) ?_
      refine r_iald hx hb hK hP dX12_roadOf_26 h (fun z42 h => ?_)
      refine lv_iload_n hx hb dX12_roadOf_27 rfl (lv_at hl 2 rfl) ?_
      refine r_icmp_ne (tgt := 44) hx hb dX12_roadOf_28 (by decide) h (fun h => ?_) (fun h => ?_)
      · exact t_X12_roadOf_44 C ih xl0 zl1 zl2 zl3 z38 _ _ _ _ hP hS (lv_sub hl [1, 2, 3, 4, 0] rfl) h
      · refine lv_aload_n hx hb dX12_roadOf_31 rfl (lv_at hl 1 rfl) ?_
        refine r_getr (C := RX12) (T := TX12) (N := 38) hx hb hts (fun w h => List.mem_cons_of_mem _ (iX12 w h)) hown hK hP rfl (by decide) rfl 20 (by decide) (hts _ (List.mem_cons_of_mem _ kw_1354)) (fun _ h9 => h9) dX12_roadOf_32 (by decide) h (fun x44 h => ?_)
        refine lv_iload hx hb dX12_roadOf_35 (lv_at hl 0 rfl) ?_
        refine r_iconst hx hb dX12_roadOf_37 (by decide) h (fun z46 h => ?_)
        refine r_iadd hx hb dX12_roadOf_38 h (fun z48 h => ?_)
        refine r_iald hx hb hK hP dX12_roadOf_39 h (fun z50 h => ?_)
        refine lv_iload_n hx hb dX12_roadOf_40 rfl (lv_at hl 3 rfl) ?_
        refine r_icmp_eq (tgt := 68) hx hb dX12_roadOf_41 (by decide) h (fun h => ?_) (fun h => ?_)
        · exact t_X12_roadOf_68 C xl0 z38 _ _ _ _ hP hS (lv_sub hl [1, 0] rfl) h
        · exact t_X12_roadOf_44 C ih xl0 zl1 zl2 zl3 z38 _ _ _ _ hP hS (lv_sub hl [1, 2, 3, 4, 0] rfl) h
set_option maxHeartbeats 4000000 in
set_option maxRecDepth 100000 in
theorem c_X12_roadOf (l : Launch) (D : va_G) (G : Gt) (S : Sh) (M : Mm) (xl0 : Int) (zl1 : Int32) (zl2 : Int32) (post : Int → Mm → Prop) (h : wp_X12_roadOf S M xl0 zl1.toInt zl2.toInt post) : Met l yX12_roadOf (cw_X12_roadOf :: gw) RM_X12_roadOf (va_Pc [.ref (adr G xl0), .int zl1, .int zl2] (fun U => KN D G U ∧ Wd D G S M U.heap)) (QI D G S post) 0 0 (aG G) := by
  refine Met.ofW (cc := cX12_roadOf) (maxL := 5) (ret := (some .int)) (by decide) rfl ?_
  intro p e s m args below meth c s₁ B hml hv
  obtain ⟨rfl, hK, hP⟩ := hv
  have hx := B.exec
  have hb := B.bytes
  have hr := B.returns
  have hts := atoms_spec (ws := cw_X12_roadOf :: gw) B.pre
  have hown : s.vm.findClass RX12 = some m.cls := findClass_of_methodNamed B.named
  have hlocks := B.notSynchronized
  have hS : va_S (aG G) s.heap s.heap [] := va_S.rf
  have C : Cx p s m ([.ref (adr G xl0), .int zl1, .int zl2] : List Value).toArray meth c D G cX12_roadOf 5 (some .int) (cw_X12_roadOf :: gw) RX12 := ⟨hx, hb, hr, hlocks, hml, hown, hts, hK⟩
  have hl := lv_entry ([.ref (adr G xl0), .int zl1, .int zl2]) (n := 5) (Nat.le_of_ble_eq_true rfl)
  rw [lg_entry_eq]
  generalize (lg_sl ([.ref (adr G xl0), .int zl1, .int zl2]) ++ List.replicate (5 - (lg_sl ([.ref (adr G xl0), .int zl1, .int zl2])).length) Slot.unset).toArray = ls at hl ⊢
  have hl : lv_has ls 5 [(0, .ref (adr G xl0)), (1, .int zl1), (2, .int zl2)] := hl
  unfold wp_X12_roadOf at h
  refine r_iconst hx hb dX12_roadOf_0 (by decide) h (fun z52 h => ?_)
  refine lv_istore_n (lv' := [(3, .int z52), (0, .ref (adr G xl0)), (1, .int zl1), (2, .int zl2)]) hx hb dX12_roadOf_1 rfl hl (by decide) rfl (fun ls hl => ?_)
  obtain ⟨n9, h⟩ := h
  exact t_X12_roadOf_2 C n9 xl0 zl1 zl2 z52 _ _ _ _ hP hS (lv_sub hl [1, 2, 3, 0] rfl) h
/-! TurningMilkModel.canGo(II)Z -/
abbrev RM_X12_canGo : Room := { frames := 3, cells := 0, slots := 0, locals := 83 }
def cw_X12_canGo : Cond := Cond.code yX12_canGo cX12_canGo 3 (Option.some FieldType.boolean)
theorem hd_X12_canGo : yX12_canGo.cls ≠ "java/lang/invoke/MethodHandle" ∧ yX12_canGo.cls ≠ "java/lang/invoke/VarHandle" ∧ (parseMethodDescriptor yX12_canGo.desc).map (fun d => d.parameters.length) = some 2 := by decide +kernel
theorem dX12_canGo_0 : decode cX12_canGo 0 = .ok (.aload_n 0, 1) := by decide +kernel
theorem dX12_canGo_1 : decode cX12_canGo 1 = .ok (.iload_n 1, 1) := by decide +kernel
theorem dX12_canGo_2 : decode cX12_canGo 2 = .ok (.invokevirtual 359, 3) := by decide +kernel
theorem dX12_canGo_5 : decode cX12_canGo 5 = .ok (.ifCond .eq 21, 3) := by decide +kernel
theorem dX12_canGo_8 : decode cX12_canGo 8 = .ok (.aload_n 0, 1) := by decide +kernel
theorem dX12_canGo_9 : decode cX12_canGo 9 = .ok (.aload_n 0, 1) := by decide +kernel
theorem dX12_canGo_10 : decode cX12_canGo 10 = .ok (.iload_n 1, 1) := by decide +kernel
theorem dX12_canGo_11 : decode cX12_canGo 11 = .ok (.iconst 0, 1) := by decide +kernel
theorem dX12_canGo_12 : decode cX12_canGo 12 = .ok (.invokevirtual 306, 3) := by decide +kernel
theorem dX12_canGo_15 : decode cX12_canGo 15 = .ok (.iload_n 2, 1) := by decide +kernel
theorem dX12_canGo_16 : decode cX12_canGo 16 = .ok (.invokevirtual 368, 3) := by decide +kernel
theorem dX12_canGo_19 : decode cX12_canGo 19 = .ok (.ifCond .le 7, 3) := by decide +kernel
theorem dX12_canGo_22 : decode cX12_canGo 22 = .ok (.iconst 1, 1) := by decide +kernel
theorem dX12_canGo_23 : decode cX12_canGo 23 = .ok (.goto 4, 3) := by decide +kernel
theorem dX12_canGo_26 : decode cX12_canGo 26 = .ok (.iconst 0, 1) := by decide +kernel
theorem dX12_canGo_27 : decode cX12_canGo 27 = .ok (.ireturn, 1) := by decide +kernel
def wp_X12_canGo (S : Sh) (M : Mm) (u0 : Int) (u1 : Int) (u2 : Int) (post : Int → Mm → Prop) : Prop := isK S u0 12 ∧ (wp_X12_isAtPlace S M u0 u1 <| fun v2 M1 => wIf (v2 = 0) (wC 0 fun v4 => (v4 = 0 ∨ v4 = 1) ∧ post v4 M1) (wC 0 fun v6 => isK S u0 12 ∧ (wp_X12_handOf S M1 u0 u1 v6 <| fun v9 M8 => isK S u0 12 ∧ (wp_X12_roadOf S M8 u0 v9 u2 <| fun v12 M11 => wIf (v12 ≤ 0) (wC 0 fun v14 => (v14 = 0 ∨ v14 = 1) ∧ post v14 M11) (wC 1 fun v16 => (v16 = 0 ∨ v16 = 1) ∧ post v16 M11)))))
set_option maxHeartbeats 4000000 in
set_option maxRecDepth 100000 in
theorem c_X12_canGo (l : Launch) (D : va_G) (G : Gt) (S : Sh) (M : Mm) (xl0 : Int) (zl1 : Int32) (zl2 : Int32) (post : Int → Mm → Prop) (h : wp_X12_canGo S M xl0 zl1.toInt zl2.toInt post) : Met l yX12_canGo (cw_X12_canGo :: gw) RM_X12_canGo (va_Pc [.ref (adr G xl0), .int zl1, .int zl2] (fun U => KN D G U ∧ Wd D G S M U.heap)) (QI D G S post) 0 0 (aG G) := by
  refine Met.ofW (cc := cX12_canGo) (maxL := 3) (ret := (some .boolean)) (by decide) rfl ?_
  intro p e s m args below meth c s₁ B hml hv
  obtain ⟨rfl, hK, hP⟩ := hv
  have hx := B.exec
  have hb := B.bytes
  have hr := B.returns
  have hts := atoms_spec (ws := cw_X12_canGo :: gw) B.pre
  have hown : s.vm.findClass RX12 = some m.cls := findClass_of_methodNamed B.named
  have hlocks := B.notSynchronized
  have hS : va_S (aG G) s.heap s.heap [] := va_S.rf
  have C : Cx p s m ([.ref (adr G xl0), .int zl1, .int zl2] : List Value).toArray meth c D G cX12_canGo 3 (some .boolean) (cw_X12_canGo :: gw) RX12 := ⟨hx, hb, hr, hlocks, hml, hown, hts, hK⟩
  have hl := lv_entry ([.ref (adr G xl0), .int zl1, .int zl2]) (n := 3) (Nat.le_of_ble_eq_true rfl)
  rw [lg_entry_eq]
  generalize (lg_sl ([.ref (adr G xl0), .int zl1, .int zl2]) ++ List.replicate (3 - (lg_sl ([.ref (adr G xl0), .int zl1, .int zl2])).length) Slot.unset).toArray = ls at hl ⊢
  have hl : lv_has ls 3 [(0, .ref (adr G xl0)), (1, .int zl1), (2, .int zl2)] := hl
  unfold wp_X12_canGo at h
  refine lv_aload_n hx hb dX12_canGo_0 rfl (lv_at hl 0 rfl) ?_
  refine lv_iload_n hx hb dX12_canGo_1 rfl (lv_at hl 1 rfl) ?_
  refine q_Vi hx hb hml hown hts hK hP hS (c_X12_isAtPlace l D G S _ xl0 zl1 _ h.2) ⟨callB_of 1 hts (gw_good kw_1760) rfl rfl rfl (hts _ (List.mem_cons_of_mem _ kw_14)) (hts _ (List.mem_cons_of_mem _ kw_1757)) hd_X12_isAtPlace ⟨Nat.le_of_ble_eq_true rfl, Nat.le_of_ble_eq_true rfl⟩, (hts _ (List.mem_cons_of_mem _ kw_1759)), (hts _ (List.mem_cons_of_mem _ kp_108))⟩ h.1 (ci := 12) rfl (by decide) rfl hl.1 rfl (lv_room (Nat.le_of_ble_eq_true rfl)) dX12_canGo_2 ⟨Nat.zero_le _, Nat.zero_le _⟩ (fun z3 M1 H locs h hP hS => ?_)
  refine r_if_eq (tgt := 26) hx hb dX12_canGo_5 (by decide) h (fun h => ?_) (fun h => ?_)
  · refine r_iconst hx hb dX12_canGo_26 (by decide) h (fun z5 h => ?_)
    exact r_zret hx hb hr hlocks hP hS dX12_canGo_27 h
  · refine lv_aload_n hx hb dX12_canGo_8 rfl (lv_at hl 0 rfl) ?_
    refine lv_aload_n hx hb dX12_canGo_9 rfl (lv_at hl 0 rfl) ?_
    refine lv_iload_n hx hb dX12_canGo_10 rfl (lv_at hl 1 rfl) ?_
    refine r_iconst hx hb dX12_canGo_11 (by decide) h (fun z7 h => ?_)
    refine q_Vi hx hb hml hown hts hK hP hS (c_X12_handOf l D G S _ xl0 zl1 z7 _ h.2) ⟨callB_of 2 hts (gw_good kw_1650) rfl rfl rfl (hts _ (List.mem_cons_of_mem _ kw_14)) (hts _ (List.mem_cons_of_mem _ kw_1647)) hd_X12_handOf ⟨Nat.le_of_ble_eq_true rfl, Nat.le_of_ble_eq_true rfl⟩, (hts _ (List.mem_cons_of_mem _ kw_1649)), (hts _ (List.mem_cons_of_mem _ kp_88))⟩ h.1 (ci := 12) rfl (by decide) rfl hl.1 rfl (lv_room (Nat.le_of_ble_eq_true rfl)) dX12_canGo_12 ⟨Nat.zero_le _, Nat.zero_le _⟩ (fun z10 M8 H locs h hP hS => ?_)
    refine lv_iload_n hx hb dX12_canGo_15 rfl (lv_at hl 2 rfl) ?_
    refine q_Vi hx hb hml hown hts hK hP hS (c_X12_roadOf l D G S _ xl0 z10 zl2 _ h.2) ⟨callB_of 2 hts (gw_good kw_1788) rfl rfl rfl (hts _ (List.mem_cons_of_mem _ kw_14)) (hts _ (List.mem_cons_of_mem _ kw_1785)) hd_X12_roadOf ⟨Nat.le_of_ble_eq_true rfl, Nat.le_of_ble_eq_true rfl⟩, (hts _ (List.mem_cons_of_mem _ kw_1787)), (hts _ (List.mem_cons_of_mem _ kp_112))⟩ h.1 (ci := 12) rfl (by decide) rfl hl.1 rfl (lv_room (Nat.le_of_ble_eq_true rfl)) dX12_canGo_16 ⟨Nat.zero_le _, Nat.zero_le _⟩ (fun z13 M11 H locs h hP hS => ?_)
    refine r_if_le (tgt := 26) hx hb dX12_canGo_19 (by decide) h (fun h => ?_) (fun h => ?_)
    · refine r_iconst hx hb dX12_canGo_26 (by decide) h (fun z15 h => ?_)
      exact r_zret hx hb hr hlocks hP hS dX12_canGo_27 h
    · refine r_iconst hx hb dX12_canGo_22 (by decide) h (fun z17 h => ?_)
      refine lv_goto (tgt := 27) hx hb dX12_canGo_23 (by decide) ?_
      exact r_zret hx hb hr hlocks hP hS dX12_canGo_27 h
/-! TurningMilkModel.goes(II)V -/
abbrev RM_X12_goes : Room := { frames := 2, cells := 0, slots := 0, locals := 64 }
def cw_X12_goes : Cond := Cond.code yX12_goes cX12_goes 3 (Option.none : Option FieldType)
theorem hd_X12_goes : yX12_goes.cls ≠ "java/lang/invoke/MethodHandle" ∧ yX12_goes.cls ≠ "java/lang/invoke/VarHandle" ∧ (parseMethodDescriptor yX12_goes.desc).map (fun d => d.parameters.length) = some 2 := by decide +kernel
theorem dX12_goes_0 : decode cX12_goes 0 = .ok (.aload_n 0, 1) := by decide +kernel
theorem dX12_goes_1 : decode cX12_goes 1 = .ok (.getfield 39, 3) := by decide +kernel
theorem dX12_goes_4 : decode cX12_goes 4 = .ok (.bipush 10, 2) := by decide +kernel
theorem dX12_goes_6 : decode cX12_goes 6 = .ok (.iconst 5, 1) := by decide +kernel
theorem dX12_goes_7 : decode cX12_goes 7 = .ok (.iload_n 1, 1) := by decide +kernel
theorem dX12_goes_8 : decode cX12_goes 8 = .ok (.imul, 1) := by decide +kernel
theorem dX12_goes_9 : decode cX12_goes 9 = .ok (.iadd, 1) := by decide +kernel
theorem dX12_goes_10 : decode cX12_goes 10 = .ok (.iconst 1, 1) := by decide +kernel
theorem dX12_goes_11 : decode cX12_goes 11 = .ok (.iadd, 1) := by decide +kernel
theorem dX12_goes_12 : decode cX12_goes 12 = .ok (.aload_n 0, 1) := by decide +kernel
theorem dX12_goes_13 : decode cX12_goes 13 = .ok (.aload_n 0, 1) := by decide +kernel
theorem dX12_goes_14 : decode cX12_goes 14 = .ok (.iload_n 1, 1) := by decide +kernel
theorem dX12_goes_15 : decode cX12_goes 15 = .ok (.iconst 0, 1) := by decide +kernel
theorem dX12_goes_16 : decode cX12_goes 16 = .ok (.invokevirtual 306, 3) := by decide +kernel
theorem dX12_goes_19 : decode cX12_goes 19 = .ok (.iload_n 2, 1) := by decide +kernel
theorem dX12_goes_20 : decode cX12_goes 20 = .ok (.invokevirtual 368, 3) := by decide +kernel
theorem dX12_goes_23 : decode cX12_goes 23 = .ok (.iastore, 1) := by decide +kernel
theorem dX12_goes_24 : decode cX12_goes 24 = .ok (.aload_n 0, 1) := by decide +kernel
theorem dX12_goes_25 : decode cX12_goes 25 = .ok (.getfield 39, 3) := by decide +kernel
theorem dX12_goes_28 : decode cX12_goes 28 = .ok (.bipush 10, 2) := by decide +kernel
theorem dX12_goes_30 : decode cX12_goes 30 = .ok (.iconst 5, 1) := by decide +kernel
theorem dX12_goes_31 : decode cX12_goes 31 = .ok (.iload_n 1, 1) := by decide +kernel
theorem dX12_goes_32 : decode cX12_goes 32 = .ok (.imul, 1) := by decide +kernel
theorem dX12_goes_33 : decode cX12_goes 33 = .ok (.iadd, 1) := by decide +kernel
theorem dX12_goes_34 : decode cX12_goes 34 = .ok (.iload_n 2, 1) := by decide +kernel
theorem dX12_goes_35 : decode cX12_goes 35 = .ok (.iastore, 1) := by decide +kernel
theorem dX12_goes_36 : decode cX12_goes 36 = .ok (.return_, 1) := by decide +kernel
def wp_X12_goes (S : Sh) (M : Mm) (u0 : Int) (u1 : Int) (u2 : Int) (post : Mm → Prop) : Prop := wGetR S M u0 12 20 fun v1 => wC 10 fun v3 => wC 5 fun v5 => wM v5 u1 fun v7 => wA v3 v7 fun v9 => wC 1 fun v11 => wA v9 v11 fun v13 => wC 0 fun v15 => isK S u0 12 ∧ (wp_X12_handOf S M u0 u1 v15 <| fun v18 M17 => isK S u0 12 ∧ (wp_X12_roadOf S M17 u0 v18 u2 <| fun v21 M20 => wSt S M20 v1 14 v13 v21 fun M23 => wGetR S M23 u0 12 20 fun v24 => wC 10 fun v26 => wC 5 fun v28 => wM v28 u1 fun v30 => wA v26 v30 fun v32 => wSt S M23 v24 14 v32 u2 fun M34 => post M34))
set_option maxHeartbeats 4000000 in
set_option maxRecDepth 100000 in
theorem c_X12_goes (l : Launch) (D : va_G) (G : Gt) (S : Sh) (M : Mm) (xl0 : Int) (zl1 : Int32) (zl2 : Int32) (post : Mm → Prop) (h : wp_X12_goes S M xl0 zl1.toInt zl2.toInt post) : Met l yX12_goes (cw_X12_goes :: gw) RM_X12_goes (va_Pc [.ref (adr G xl0), .int zl1, .int zl2] (fun U => KN D G U ∧ Wd D G S M U.heap)) (QV D G S post) 0 0 (aG G) := by
  refine Met.ofW (cc := cX12_goes) (maxL := 3) (ret := none) (by decide) rfl ?_
  intro p e s m args below meth c s₁ B hml hv
  obtain ⟨rfl, hK, hP⟩ := hv
  have hx := B.exec
  have hb := B.bytes
  have hr := B.returns
  have hts := atoms_spec (ws := cw_X12_goes :: gw) B.pre
  have hown : s.vm.findClass RX12 = some m.cls := findClass_of_methodNamed B.named
  have hlocks := B.notSynchronized
  have hS : va_S (aG G) s.heap s.heap [] := va_S.rf
  have C : Cx p s m ([.ref (adr G xl0), .int zl1, .int zl2] : List Value).toArray meth c D G cX12_goes 3 none (cw_X12_goes :: gw) RX12 := ⟨hx, hb, hr, hlocks, hml, hown, hts, hK⟩
  have hl := lv_entry ([.ref (adr G xl0), .int zl1, .int zl2]) (n := 3) (Nat.le_of_ble_eq_true rfl)
  rw [lg_entry_eq]
  generalize (lg_sl ([.ref (adr G xl0), .int zl1, .int zl2]) ++ List.replicate (3 - (lg_sl ([.ref (adr G xl0), .int zl1, .int zl2])).length) Slot.unset).toArray = ls at hl ⊢
  have hl : lv_has ls 3 [(0, .ref (adr G xl0)), (1, .int zl1), (2, .int zl2)] := hl
  unfold wp_X12_goes at h
  refine lv_aload_n hx hb dX12_goes_0 rfl (lv_at hl 0 rfl) ?_
  refine r_getr (C := RX12) (T := TX12) (N := 38) hx hb hts (fun w h => List.mem_cons_of_mem _ (iX12 w h)) hown hK hP rfl (by decide) rfl 20 (by decide) (hts _ (List.mem_cons_of_mem _ kw_1354)) (fun _ h9 => h9) dX12_goes_1 (by decide) h (fun x2 h => ?_)
  refine r_bipush hx hb dX12_goes_4 (by decide) h (fun z4 h => ?_)
  refine r_iconst hx hb dX12_goes_6 (by decide) h (fun z6 h => ?_)
  refine lv_iload_n hx hb dX12_goes_7 rfl (lv_at hl 1 rfl) ?_
  refine r_imul hx hb dX12_goes_8 h (fun z8 h => ?_)
  refine r_iadd hx hb dX12_goes_9 h (fun z10 h => ?_)
  refine r_iconst hx hb dX12_goes_10 (by decide) h (fun z12 h => ?_)
  refine r_iadd hx hb dX12_goes_11 h (fun z14 h => ?_)
  refine lv_aload_n hx hb dX12_goes_12 rfl (lv_at hl 0 rfl) ?_
  refine lv_aload_n hx hb dX12_goes_13 rfl (lv_at hl 0 rfl) ?_
  refine lv_iload_n hx hb dX12_goes_14 rfl (lv_at hl 1 rfl) ?_
  refine r_iconst hx hb dX12_goes_15 (by decide) h (fun z16 h => ?_)
  refine q_Vi hx hb hml hown hts hK hP hS (c_X12_handOf l D G S _ xl0 zl1 z16 _ h.2) ⟨callB_of 2 hts (gw_good kw_1650) rfl rfl rfl (hts _ (List.mem_cons_of_mem _ kw_14)) (hts _ (List.mem_cons_of_mem _ kw_1647)) hd_X12_handOf ⟨Nat.le_of_ble_eq_true rfl, Nat.le_of_ble_eq_true rfl⟩, (hts _ (List.mem_cons_of_mem _ kw_1649)), (hts _ (List.mem_cons_of_mem _ kp_88))⟩ h.1 (ci := 12) rfl (by decide) rfl hl.1 rfl (lv_room (Nat.le_of_ble_eq_true rfl)) dX12_goes_16 ⟨Nat.zero_le _, Nat.zero_le _⟩ (fun z19 M17 H locs h hP hS => ?_)
  refine lv_iload_n hx hb dX12_goes_19 rfl (lv_at hl 2 rfl) ?_
  refine q_Vi hx hb hml hown hts hK hP hS (c_X12_roadOf l D G S _ xl0 z19 zl2 _ h.2) ⟨callB_of 2 hts (gw_good kw_1788) rfl rfl rfl (hts _ (List.mem_cons_of_mem _ kw_14)) (hts _ (List.mem_cons_of_mem _ kw_1785)) hd_X12_roadOf ⟨Nat.le_of_ble_eq_true rfl, Nat.le_of_ble_eq_true rfl⟩, (hts _ (List.mem_cons_of_mem _ kw_1787)), (hts _ (List.mem_cons_of_mem _ kp_112))⟩ h.1 (ci := 12) rfl (by decide) rfl hl.1 rfl (lv_room (Nat.le_of_ble_eq_true rfl)) dX12_goes_20 ⟨Nat.zero_le _, Nat.zero_le _⟩ (fun z22 M20 H locs h hP hS => ?_)
  refine r_iast hx hb hK hP hS dX12_goes_23 h (fun M23 H locs h hP hS => ?_)
  refine lv_aload_n hx hb dX12_goes_24 rfl (lv_at hl 0 rfl) ?_
  refine r_getr (C := RX12) (T := TX12) (N := 38) hx hb hts (fun w h => List.mem_cons_of_mem _ (iX12 w h)) hown hK hP rfl (by decide) rfl 20 (by decide) (hts _ (List.mem_cons_of_mem _ kw_1354)) (fun _ h9 => h9) dX12_goes_25 (by decide) h (fun x25 h => ?_)
  refine r_bipush hx hb dX12_goes_28 (by decide) h (fun z27 h => ?_)
  refine r_iconst hx hb dX12_goes_30 (by decide) h (fun z29 h => ?_)
  refine lv_iload_n hx hb dX12_goes_31 rfl (lv_at hl 1 rfl) ?_
  refine r_imul hx hb dX12_goes_32 h (fun z31 h => ?_)
  refine r_iadd hx hb dX12_goes_33 h (fun z33 h => ?_)
  refine lv_iload_n hx hb dX12_goes_34 rfl (lv_at hl 2 rfl) ?_
  refine r_iast hx hb hK hP hS dX12_goes_35 h (fun M34 H locs h hP hS => ?_)
  exact r_vret hx hb hr hlocks hP hS dX12_goes_36 h
/-! TurningMilkModel.go(II)I -/
abbrev RM_X12_go : Room := { frames := 4, cells := 0, slots := 0, locals := 105 }
def cw_X12_go : Cond := Cond.code yX12_go cX12_go 3 (Option.some FieldType.int)
theorem hd_X12_go : yX12_go.cls ≠ "java/lang/invoke/MethodHandle" ∧ yX12_go.cls ≠ "java/lang/invoke/VarHandle" ∧ (parseMethodDescriptor yX12_go.desc).map (fun d => d.parameters.length) = some 2 := by decide +kernel
theorem dX12_go_0 : decode cX12_go 0 = .ok (.aload_n 0, 1) := by decide +kernel
theorem dX12_go_1 : decode cX12_go 1 = .ok (.iload_n 1, 1) := by decide +kernel
theorem dX12_go_2 : decode cX12_go 2 = .ok (.invokevirtual 301, 3) := by decide +kernel
theorem dX12_go_5 : decode cX12_go 5 = .ok (.ifCond .eq 20, 3) := by decide +kernel
theorem dX12_go_8 : decode cX12_go 8 = .ok (.aload_n 0, 1) := by decide +kernel
theorem dX12_go_9 : decode cX12_go 9 = .ok (.iload_n 2, 1) := by decide +kernel
theorem dX12_go_10 : decode cX12_go 10 = .ok (.invokevirtual 371, 3) := by decide +kernel
theorem dX12_go_13 : decode cX12_go 13 = .ok (.ifCond .eq 12, 3) := by decide +kernel
theorem dX12_go_16 : decode cX12_go 16 = .ok (.aload_n 0, 1) := by decide +kernel
theorem dX12_go_17 : decode cX12_go 17 = .ok (.iload_n 1, 1) := by decide +kernel
theorem dX12_go_18 : decode cX12_go 18 = .ok (.iload_n 2, 1) := by decide +kernel
theorem dX12_go_19 : decode cX12_go 19 = .ok (.invokevirtual 374, 3) := by decide +kernel
theorem dX12_go_22 : decode cX12_go 22 = .ok (.ifCond .ne 5, 3) := by decide +kernel
theorem dX12_go_25 : decode cX12_go 25 = .ok (.iconst (-1), 1) := by decide +kernel
theorem dX12_go_26 : decode cX12_go 26 = .ok (.ireturn, 1) := by decide +kernel
theorem dX12_go_27 : decode cX12_go 27 = .ok (.aload_n 0, 1) := by decide +kernel
theorem dX12_go_28 : decode cX12_go 28 = .ok (.invokevirtual 353, 3) := by decide +kernel
theorem dX12_go_31 : decode cX12_go 31 = .ok (.aload_n 0, 1) := by decide +kernel
theorem dX12_go_32 : decode cX12_go 32 = .ok (.iload_n 1, 1) := by decide +kernel
theorem dX12_go_33 : decode cX12_go 33 = .ok (.iload_n 2, 1) := by decide +kernel
theorem dX12_go_34 : decode cX12_go 34 = .ok (.invokevirtual 377, 3) := by decide +kernel
theorem dX12_go_37 : decode cX12_go 37 = .ok (.aload_n 0, 1) := by decide +kernel
theorem dX12_go_38 : decode cX12_go 38 = .ok (.iload_n 1, 1) := by decide +kernel
theorem dX12_go_39 : decode cX12_go 39 = .ok (.iconst 1, 1) := by decide +kernel
theorem dX12_go_40 : decode cX12_go 40 = .ok (.invokevirtual 306, 3) := by decide +kernel
theorem dX12_go_43 : decode cX12_go 43 = .ok (.ireturn, 1) := by decide +kernel
def wp_X12_go (S : Sh) (M : Mm) (u0 : Int) (u1 : Int) (u2 : Int) (post : Int → Mm → Prop) : Prop := isK S u0 12 ∧ (wp_X12_isHand S M u0 u1 <| fun v2 M1 => wIf (v2 = 0) (wC (-1) fun v4 => post v4 M1) (isK S u0 12 ∧ (wp_X12_isPlace S M1 u0 u2 <| fun v7 M6 => wIf (v7 = 0) (wC (-1) fun v9 => post v9 M6) (isK S u0 12 ∧ (wp_X12_canGo S M6 u0 u1 u2 <| fun v12 M11 => wIf (¬ v12 = 0) (isK S u0 12 ∧ (wp_X12_keepsAct S M11 u0 <| fun M14 => isK S u0 12 ∧ (wp_X12_goes S M14 u0 u1 u2 <| fun M15 => wC 1 fun v16 => isK S u0 12 ∧ (wp_X12_handOf S M15 u0 u1 v16 <| fun v19 M18 => post v19 M18)))) (wC (-1) fun v21 => post v21 M11))))))
set_option maxHeartbeats 4000000 in
set_option maxRecDepth 100000 in
theorem c_X12_go (l : Launch) (D : va_G) (G : Gt) (S : Sh) (M : Mm) (xl0 : Int) (zl1 : Int32) (zl2 : Int32) (post : Int → Mm → Prop) (h : wp_X12_go S M xl0 zl1.toInt zl2.toInt post) : Met l yX12_go (cw_X12_go :: gw) RM_X12_go (va_Pc [.ref (adr G xl0), .int zl1, .int zl2] (fun U => KN D G U ∧ Wd D G S M U.heap)) (QI D G S post) 0 0 (aG G) := by
  refine Met.ofW (cc := cX12_go) (maxL := 3) (ret := (some .int)) (by decide) rfl ?_
  intro p e s m args below meth c s₁ B hml hv
  obtain ⟨rfl, hK, hP⟩ := hv
  have hx := B.exec
  have hb := B.bytes
  have hr := B.returns
  have hts := atoms_spec (ws := cw_X12_go :: gw) B.pre
  have hown : s.vm.findClass RX12 = some m.cls := findClass_of_methodNamed B.named
  have hlocks := B.notSynchronized
  have hS : va_S (aG G) s.heap s.heap [] := va_S.rf
  have C : Cx p s m ([.ref (adr G xl0), .int zl1, .int zl2] : List Value).toArray meth c D G cX12_go 3 (some .int) (cw_X12_go :: gw) RX12 := ⟨hx, hb, hr, hlocks, hml, hown, hts, hK⟩
  have hl := lv_entry ([.ref (adr G xl0), .int zl1, .int zl2]) (n := 3) (Nat.le_of_ble_eq_true rfl)
  rw [lg_entry_eq]
  generalize (lg_sl ([.ref (adr G xl0), .int zl1, .int zl2]) ++ List.replicate (3 - (lg_sl ([.ref (adr G xl0), .int zl1, .int zl2])).length) Slot.unset).toArray = ls at hl ⊢
  have hl : lv_has ls 3 [(0, .ref (adr G xl0)), (1, .int zl1), (2, .int zl2)] := hl
  unfold wp_X12_go at h
  refine lv_aload_n hx hb dX12_go_0 rfl (lv_at hl 0 rfl) ?_
  refine lv_iload_n hx hb dX12_go_1 rfl (lv_at hl 1 rfl) ?_
  refine q_Vi hx hb hml hown hts hK hP hS (c_X12_isHand l D G S _ xl0 zl1 _ h.2) ⟨callB_of 1 hts (gw_good kw_1645) rfl rfl rfl (hts _ (List.mem_cons_of_mem _ kw_14)) (hts _ (List.mem_cons_of_mem _ kw_1642)) hd_X12_isHand ⟨Nat.le_of_ble_eq_true rfl, Nat.le_of_ble_eq_true rfl⟩, (hts _ (List.mem_cons_of_mem _ kw_1644)), (hts _ (List.mem_cons_of_mem _ kp_87))⟩ h.1 (ci := 12) rfl (by decide) rfl hl.1 rfl (lv_room (Nat.le_of_ble_eq_true rfl)) dX12_go_2 ⟨Nat.zero_le _, Nat.zero_le _⟩ (fun z3 M1 H locs h hP hS => ?_)
  refine r_if_eq (tgt := 25) hx hb dX12_go_5 (by decide) h (fun h => ?_) (fun h => ?_)
  · refine r_iconst hx hb dX12_go_25 (by decide) h (fun z5 h => ?_)
    exact r_iret hx hb hr hlocks hP hS dX12_go_26 h
  · refine lv_aload_n hx hb dX12_go_8 rfl (lv_at hl 0 rfl) ?_
    refine lv_iload_n hx hb dX12_go_9 rfl (lv_at hl 2 rfl) ?_
    refine q_Vi hx hb hml hown hts hK hP hS (c_X12_isPlace l D G S _ xl0 zl2 _ h.2) ⟨callB_of 1 hts (gw_good kw_1780) rfl rfl rfl (hts _ (List.mem_cons_of_mem _ kw_14)) (hts _ (List.mem_cons_of_mem _ kw_1777)) hd_X12_isPlace ⟨Nat.le_of_ble_eq_true rfl, Nat.le_of_ble_eq_true rfl⟩, (hts _ (List.mem_cons_of_mem _ kw_1779)), (hts _ (List.mem_cons_of_mem _ kp_110))⟩ h.1 (ci := 12) rfl (by decide) rfl hl.1 rfl (lv_room (Nat.le_of_ble_eq_true rfl)) dX12_go_10 ⟨Nat.zero_le _, Nat.zero_le _⟩ (fun z8 M6 H locs h hP hS => ?_)
    refine r_if_eq (tgt := 25) hx hb dX12_go_13 (by decide) h (fun h => ?_) (fun h => ?_)
    · refine r_iconst hx hb dX12_go_25 (by decide) h (fun z10 h => ?_)
      exact r_iret hx hb hr hlocks hP hS dX12_go_26 h
    · refine lv_aload_n hx hb dX12_go_16 rfl (lv_at hl 0 rfl) ?_
      refine lv_iload_n hx hb dX12_go_17 rfl (lv_at hl 1 rfl) ?_
      refine lv_iload_n hx hb dX12_go_18 rfl (lv_at hl 2 rfl) ?_
      refine q_Vi hx hb hml hown hts hK hP hS (c_X12_canGo l D G S _ xl0 zl1 zl2 _ h.2) ⟨callB_of 2 hts (gw_good kw_1784) rfl rfl rfl (hts _ (List.mem_cons_of_mem _ kw_14)) (hts _ (List.mem_cons_of_mem _ kw_1781)) hd_X12_canGo ⟨Nat.le_of_ble_eq_true rfl, Nat.le_of_ble_eq_true rfl⟩, (hts _ (List.mem_cons_of_mem _ kw_1783)), (hts _ (List.mem_cons_of_mem _ kp_111))⟩ h.1 (ci := 12) rfl (by decide) rfl hl.1 rfl (lv_room (Nat.le_of_ble_eq_true rfl)) dX12_go_19 ⟨Nat.zero_le _, Nat.zero_le _⟩ (fun z13 M11 H locs h hP hS => ?_)
      refine r_if_ne (tgt := 27) hx hb dX12_go_22 (by decide) h (fun h => ?_) (fun h => ?_)
      · refine lv_aload_n hx hb dX12_go_27 rfl (lv_at hl 0 rfl) ?_
        refine q_Vv hx hb hml hown hts hK hP hS (c_X12_keepsAct l D G S _ xl0 _ h.2) ⟨callB_of 0 hts (gw_good kw_1702) rfl rfl rfl (hts _ (List.mem_cons_of_mem _ kw_14)) (hts _ (List.mem_cons_of_mem _ kw_1699)) hd_X12_keepsAct ⟨Nat.le_of_ble_eq_true rfl, Nat.le_of_ble_eq_true rfl⟩, (hts _ (List.mem_cons_of_mem _ kw_1701)), (hts _ (List.mem_cons_of_mem _ kp_97))⟩ h.1 (ci := 12) rfl (by decide) rfl hl.1 rfl (lv_room (Nat.le_of_ble_eq_true rfl)) dX12_go_28 ⟨Nat.zero_le _, Nat.zero_le _⟩ (fun M14 H locs h hP hS => ?_)
        refine lv_aload_n hx hb dX12_go_31 rfl (lv_at hl 0 rfl) ?_
        refine lv_iload_n hx hb dX12_go_32 rfl (lv_at hl 1 rfl) ?_
        refine lv_iload_n hx hb dX12_go_33 rfl (lv_at hl 2 rfl) ?_
        refine q_Vv hx hb hml hown hts hK hP hS (c_X12_goes l D G S _ xl0 zl1 zl2 _ h.2) ⟨callB_of 2 hts (gw_good kw_1792) rfl rfl rfl (hts _ (List.mem_cons_of_mem _ kw_14)) (hts _ (List.mem_cons_of_mem _ kw_1789)) hd_X12_goes ⟨Nat.le_of_ble_eq_true rfl, Nat.le_of_ble_eq_true rfl⟩, (hts _ (List.mem_cons_of_mem _ kw_1791)), (hts _ (List.mem_cons_of_mem _ kp_113))⟩ h.1 (ci := 12) rfl (by decide) rfl hl.1 rfl (lv_room (Nat.le_of_ble_eq_true rfl)) dX12_go_34 ⟨Nat.zero_le _, Nat.zero_le _⟩ (fun M15 H locs h hP hS => ?_)
        refine lv_aload_n hx hb dX12_go_37 rfl (lv_at hl 0 rfl) ?_
        refine lv_iload_n hx hb dX12_go_38 rfl (lv_at hl 1 rfl) ?_
        refine r_iconst hx hb dX12_go_39 (by decide) h (fun z17 h => ?_)
        refine q_Vi hx hb hml hown hts hK hP hS (c_X12_handOf l D G S _ xl0 zl1 z17 _ h.2) ⟨callB_of 2 hts (gw_good kw_1650) rfl rfl rfl (hts _ (List.mem_cons_of_mem _ kw_14)) (hts _ (List.mem_cons_of_mem _ kw_1647)) hd_X12_handOf ⟨Nat.le_of_ble_eq_true rfl, Nat.le_of_ble_eq_true rfl⟩, (hts _ (List.mem_cons_of_mem _ kw_1649)), (hts _ (List.mem_cons_of_mem _ kp_88))⟩ h.1 (ci := 12) rfl (by decide) rfl hl.1 rfl (lv_room (Nat.le_of_ble_eq_true rfl)) dX12_go_40 ⟨Nat.zero_le _, Nat.zero_le _⟩ (fun z20 M18 H locs h hP hS => ?_)
        exact r_iret hx hb hr hlocks hP hS dX12_go_43 h
      · refine r_iconst hx hb dX12_go_25 (by decide) h (fun z22 h => ?_)
        exact r_iret hx hb hr hlocks hP hS dX12_go_26 h
/-! TurningMilkModel.meet(I)I -/
abbrev RM_X12_meet : Room := { frames := 4, cells := 0, slots := 0, locals := 105 }
def cw_X12_meet : Cond := Cond.code yX12_meet cX12_meet 3 (Option.some FieldType.int)
theorem hd_X12_meet : yX12_meet.cls ≠ "java/lang/invoke/MethodHandle" ∧ yX12_meet.cls ≠ "java/lang/invoke/VarHandle" ∧ (parseMethodDescriptor yX12_meet.desc).map (fun d => d.parameters.length) = some 1 := by decide +kernel
theorem dX12_meet_0 : decode cX12_meet 0 = .ok (.aload_n 0, 1) := by decide +kernel
theorem dX12_meet_1 : decode cX12_meet 1 = .ok (.iload_n 1, 1) := by decide +kernel
theorem dX12_meet_2 : decode cX12_meet 2 = .ok (.invokevirtual 315, 3) := by decide +kernel
theorem dX12_meet_5 : decode cX12_meet 5 = .ok (.ifCond .ne 5, 3) := by decide +kernel
theorem dX12_meet_8 : decode cX12_meet 8 = .ok (.iconst (-1), 1) := by decide +kernel
theorem dX12_meet_9 : decode cX12_meet 9 = .ok (.ireturn, 1) := by decide +kernel
theorem dX12_meet_10 : decode cX12_meet 10 = .ok (.aload_n 0, 1) := by decide +kernel
theorem dX12_meet_11 : decode cX12_meet 11 = .ok (.iload_n 1, 1) := by decide +kernel
theorem dX12_meet_12 : decode cX12_meet 12 = .ok (.invokevirtual 318, 3) := by decide +kernel
theorem dX12_meet_15 : decode cX12_meet 15 = .ok (.istore_n 2, 1) := by decide +kernel
theorem dX12_meet_16 : decode cX12_meet 16 = .ok (.iload_n 2, 1) := by decide +kernel
theorem dX12_meet_17 : decode cX12_meet 17 = .ok (.ifCond .ge 5, 3) := by decide +kernel
theorem dX12_meet_20 : decode cX12_meet 20 = .ok (.iconst (-1), 1) := by decide +kernel
theorem dX12_meet_21 : decode cX12_meet 21 = .ok (.ireturn, 1) := by decide +kernel
theorem dX12_meet_22 : decode cX12_meet 22 = .ok (.aload_n 0, 1) := by decide +kernel
theorem dX12_meet_23 : decode cX12_meet 23 = .ok (.invokevirtual 353, 3) := by decide +kernel
theorem dX12_meet_26 : decode cX12_meet 26 = .ok (.aload_n 0, 1) := by decide +kernel
theorem dX12_meet_27 : decode cX12_meet 27 = .ok (.getfield 39, 3) := by decide +kernel
theorem dX12_meet_30 : decode cX12_meet 30 = .ok (.bipush 35, 2) := by decide +kernel
theorem dX12_meet_32 : decode cX12_meet 32 = .ok (.iconst 4, 1) := by decide +kernel
theorem dX12_meet_33 : decode cX12_meet 33 = .ok (.iload_n 2, 1) := by decide +kernel
theorem dX12_meet_34 : decode cX12_meet 34 = .ok (.imul, 1) := by decide +kernel
theorem dX12_meet_35 : decode cX12_meet 35 = .ok (.iadd, 1) := by decide +kernel
theorem dX12_meet_36 : decode cX12_meet 36 = .ok (.iconst 3, 1) := by decide +kernel
theorem dX12_meet_37 : decode cX12_meet 37 = .ok (.iadd, 1) := by decide +kernel
theorem dX12_meet_38 : decode cX12_meet 38 = .ok (.iconst 1, 1) := by decide +kernel
theorem dX12_meet_39 : decode cX12_meet 39 = .ok (.iastore, 1) := by decide +kernel
theorem dX12_meet_40 : decode cX12_meet 40 = .ok (.aload_n 0, 1) := by decide +kernel
theorem dX12_meet_41 : decode cX12_meet 41 = .ok (.getfield 39, 3) := by decide +kernel
theorem dX12_meet_44 : decode cX12_meet 44 = .ok (.bipush 51, 2) := by decide +kernel
theorem dX12_meet_46 : decode cX12_meet 46 = .ok (.iload_n 1, 1) := by decide +kernel
theorem dX12_meet_47 : decode cX12_meet 47 = .ok (.iadd, 1) := by decide +kernel
theorem dX12_meet_48 : decode cX12_meet 48 = .ok (.aload_n 0, 1) := by decide +kernel
theorem dX12_meet_49 : decode cX12_meet 49 = .ok (.getfield 39, 3) := by decide +kernel
theorem dX12_meet_52 : decode cX12_meet 52 = .ok (.bipush 7, 2) := by decide +kernel
theorem dX12_meet_54 : decode cX12_meet 54 = .ok (.iaload, 1) := by decide +kernel
theorem dX12_meet_55 : decode cX12_meet 55 = .ok (.iastore, 1) := by decide +kernel
theorem dX12_meet_56 : decode cX12_meet 56 = .ok (.aload_n 0, 1) := by decide +kernel
theorem dX12_meet_57 : decode cX12_meet 57 = .ok (.getfield 39, 3) := by decide +kernel
theorem dX12_meet_60 : decode cX12_meet 60 = .ok (.bipush 8, 2) := by decide +kernel
theorem dX12_meet_62 : decode cX12_meet 62 = .ok (.dup2, 1) := by decide +kernel
theorem dX12_meet_63 : decode cX12_meet 63 = .ok (.iaload, 1) := by decide +kernel
theorem dX12_meet_64 : decode cX12_meet 64 = .ok (.aload_n 0, 1) := by decide +kernel
theorem dX12_meet_65 : decode cX12_meet 65 = .ok (.iload_n 1, 1) := by decide +kernel
theorem dX12_meet_66 : decode cX12_meet 66 = .ok (.iconst 3, 1) := by decide +kernel
theorem dX12_meet_67 : decode cX12_meet 67 = .ok (.invokevirtual 295, 3) := by decide +kernel
theorem dX12_meet_70 : decode cX12_meet 70 = .ok (.iadd, 1) := by decide +kernel
theorem dX12_meet_71 : decode cX12_meet 71 = .ok (.iastore, 1) := by decide +kernel
theorem dX12_meet_72 : decode cX12_meet 72 = .ok (.iload_n 2, 1) := by decide +kernel
theorem dX12_meet_73 : decode cX12_meet 73 = .ok (.ireturn, 1) := by decide +kernel
def wp_X12_meet (S : Sh) (M : Mm) (u0 : Int) (u1 : Int) (post : Int → Mm → Prop) : Prop := isK S u0 12 ∧ (wp_X12_isWant S M u0 u1 <| fun v2 M1 => wIf (¬ v2 = 0) (isK S u0 12 ∧ (wp_X12_firstFor S M1 u0 u1 <| fun v5 M4 => wIf (0 ≤ v5) (isK S u0 12 ∧ (wp_X12_keepsAct S M4 u0 <| fun M7 => wGetR S M7 u0 12 20 fun v8 => wC 35 fun v10 => wC 4 fun v12 => wM v12 v5 fun v14 => wA v10 v14 fun v16 => wC 3 fun v18 => wA v16 v18 fun v20 => wC 1 fun v22 => wSt S M7 v8 14 v20 v22 fun M24 => wGetR S M24 u0 12 20 fun v25 => wC 51 fun v27 => wA v27 u1 fun v29 => wGetR S M24 u0 12 20 fun v31 => wC 7 fun v33 => wLd S M24 v31 14 v33 fun v35 => wSt S M24 v25 14 v29 v35 fun M37 => wGetR S M37 u0 12 20 fun v38 => wC 8 fun v40 => wLd S M37 v38 14 v40 fun v42 => wC 3 fun v44 => isK S u0 12 ∧ (wp_X12_wantOf S M37 u0 u1 v44 <| fun v47 M46 => wA v42 v47 fun v49 => wSt S M46 v38 14 v40 v49 fun M51 => post v5 M51))) (wC (-1) fun v52 => post v52 M4))) (wC (-1) fun v54 => post v54 M1))
set_option maxHeartbeats 4000000 in
set_option maxRecDepth 100000 in
theorem c_X12_meet (l : Launch) (D : va_G) (G : Gt) (S : Sh) (M : Mm) (xl0 : Int) (zl1 : Int32) (post : Int → Mm → Prop) (h : wp_X12_meet S M xl0 zl1.toInt post) : Met l yX12_meet (cw_X12_meet :: gw) RM_X12_meet (va_Pc [.ref (adr G xl0), .int zl1] (fun U => KN D G U ∧ Wd D G S M U.heap)) (QI D G S post) 0 0 (aG G) := by
  refine Met.ofW (cc := cX12_meet) (maxL := 3) (ret := (some .int)) (by decide) rfl ?_
  intro p e s m args below meth c s₁ B hml hv
  obtain ⟨rfl, hK, hP⟩ := hv
  have hx := B.exec
  have hb := B.bytes
  have hr := B.returns
  have hts := atoms_spec (ws := cw_X12_meet :: gw) B.pre
  have hown : s.vm.findClass RX12 = some m.cls := findClass_of_methodNamed B.named
  have hlocks := B.notSynchronized
  have hS : va_S (aG G) s.heap s.heap [] := va_S.rf
  have C : Cx p s m ([.ref (adr G xl0), .int zl1] : List Value).toArray meth c D G cX12_meet 3 (some .int) (cw_X12_meet :: gw) RX12 := ⟨hx, hb, hr, hlocks, hml, hown, hts, hK⟩
  have hl := lv_entry ([.ref (adr G xl0), .int zl1]) (n := 3) (Nat.le_of_ble_eq_true rfl)
  rw [lg_entry_eq]
  generalize (lg_sl ([.ref (adr G xl0), .int zl1]) ++ List.replicate (3 - (lg_sl ([.ref (adr G xl0), .int zl1])).length) Slot.unset).toArray = ls at hl ⊢
  have hl : lv_has ls 3 [(0, .ref (adr G xl0)), (1, .int zl1)] := hl
  unfold wp_X12_meet at h
  refine lv_aload_n hx hb dX12_meet_0 rfl (lv_at hl 0 rfl) ?_
  refine lv_iload_n hx hb dX12_meet_1 rfl (lv_at hl 1 rfl) ?_
  refine q_Vi hx hb hml hown hts hK hP hS (c_X12_isWant l D G S _ xl0 zl1 _ h.2) ⟨callB_of 1 hts (gw_good kw_1678) rfl rfl rfl (hts _ (List.mem_cons_of_mem _ kw_14)) (hts _ (List.mem_cons_of_mem _ kw_1675)) hd_X12_isWant ⟨Nat.le_of_ble_eq_true rfl, Nat.le_of_ble_eq_true rfl⟩, (hts _ (List.mem_cons_of_mem _ kw_1677)), (hts _ (List.mem_cons_of_mem _ kp_93))⟩ h.1 (ci := 12) rfl (by decide) rfl hl.1 rfl (lv_room (Nat.le_of_ble_eq_true rfl)) dX12_meet_2 ⟨Nat.zero_le _, Nat.zero_le _⟩ (fun z3 M1 H locs h hP hS => ?_)
  refine r_if_ne (tgt := 10) hx hb dX12_meet_5 (by decide) h (fun h => ?_) (fun h => ?_)
  · refine lv_aload_n hx hb dX12_meet_10 rfl (lv_at hl 0 rfl) ?_
    refine lv_iload_n hx hb dX12_meet_11 rfl (lv_at hl 1 rfl) ?_
    refine q_Vi hx hb hml hown hts hK hP hS (c_X12_firstFor l D G S _ xl0 zl1 _ h.2) ⟨callB_of 1 hts (gw_good kw_1686) rfl rfl rfl (hts _ (List.mem_cons_of_mem _ kw_14)) (hts _ (List.mem_cons_of_mem _ kw_1683)) hd_X12_firstFor ⟨Nat.le_of_ble_eq_true rfl, Nat.le_of_ble_eq_true rfl⟩, (hts _ (List.mem_cons_of_mem _ kw_1685)), (hts _ (List.mem_cons_of_mem _ kp_95))⟩ h.1 (ci := 12) rfl (by decide) rfl hl.1 rfl (lv_room (Nat.le_of_ble_eq_true rfl)) dX12_meet_12 ⟨Nat.zero_le _, Nat.zero_le _⟩ (fun z6 M4 H locs h hP hS => ?_)
    refine lv_istore_n (lv' := [(2, .int z6), (0, .ref (adr G xl0)), (1, .int zl1)]) hx hb dX12_meet_15 rfl hl (by decide) rfl (fun ls hl => ?_)
    refine lv_iload_n hx hb dX12_meet_16 rfl (lv_at hl 0 rfl) ?_
    refine r_if_ge (tgt := 22) hx hb dX12_meet_17 (by decide) h (fun h => ?_) (fun h => ?_)
    · refine lv_aload_n hx hb dX12_meet_22 rfl (lv_at hl 1 rfl) ?_
      refine q_Vv hx hb hml hown hts hK hP hS (c_X12_keepsAct l D G S _ xl0 _ h.2) ⟨callB_of 0 hts (gw_good kw_1702) rfl rfl rfl (hts _ (List.mem_cons_of_mem _ kw_14)) (hts _ (List.mem_cons_of_mem _ kw_1699)) hd_X12_keepsAct ⟨Nat.le_of_ble_eq_true rfl, Nat.le_of_ble_eq_true rfl⟩, (hts _ (List.mem_cons_of_mem _ kw_1701)), (hts _ (List.mem_cons_of_mem _ kp_97))⟩ h.1 (ci := 12) rfl (by decide) rfl hl.1 rfl (lv_room (Nat.le_of_ble_eq_true rfl)) dX12_meet_23 ⟨Nat.zero_le _, Nat.zero_le _⟩ (fun M7 H locs h hP hS => ?_)
      refine lv_aload_n hx hb dX12_meet_26 rfl (lv_at hl 1 rfl) ?_
      refine r_getr (C := RX12) (T := TX12) (N := 38) hx hb hts (fun w h => List.mem_cons_of_mem _ (iX12 w h)) hown hK hP rfl (by decide) rfl 20 (by decide) (hts _ (List.mem_cons_of_mem _ kw_1354)) (fun _ h9 => h9) dX12_meet_27 (by decide) h (fun x9 h => ?_)
      refine r_bipush hx hb dX12_meet_30 (by decide) h (fun z11 h => ?_)
      refine r_iconst hx hb dX12_meet_32 (by decide) h (fun z13 h => ?_)
      refine lv_iload_n hx hb dX12_meet_33 rfl (lv_at hl 0 rfl) ?_
      refine r_imul hx hb dX12_meet_34 h (fun z15 h => ?_)
      refine r_iadd hx hb dX12_meet_35 h (fun z17 h => ?_)
      refine r_iconst hx hb dX12_meet_36 (by decide) h (fun z19 h => ?_)
      refine r_iadd hx hb dX12_meet_37 h (fun z21 h => ?_)
      refine r_iconst hx hb dX12_meet_38 (by decide) h (fun z23 h => ?_)
      refine r_iast hx hb hK hP hS dX12_meet_39 h (fun M24 H locs h hP hS => ?_)
      refine lv_aload_n hx hb dX12_meet_40 rfl (lv_at hl 1 rfl) ?_
      refine r_getr (C := RX12) (T := TX12) (N := 38) hx hb hts (fun w h => List.mem_cons_of_mem _ (iX12 w h)) hown hK hP rfl (by decide) rfl 20 (by decide) (hts _ (List.mem_cons_of_mem _ kw_1354)) (fun _ h9 => h9) dX12_meet_41 (by decide) h (fun x26 h => ?_)
      refine r_bipush hx hb dX12_meet_44 (by decide) h (fun z28 h => ?_)
      refine lv_iload_n hx hb dX12_meet_46 rfl (lv_at hl 2 rfl) ?_
      refine r_iadd hx hb dX12_meet_47 h (fun z30 h => ?_)
      refine lv_aload_n hx hb dX12_meet_48 rfl (lv_at hl 1 rfl) ?_
      refine r_getr (C := RX12) (T := TX12) (N := 38) hx hb hts (fun w h => List.mem_cons_of_mem _ (iX12 w h)) hown hK hP rfl (by decide) rfl 20 (by decide) (hts _ (List.mem_cons_of_mem _ kw_1354)) (fun _ h9 => h9) dX12_meet_49 (by decide) h (fun x32 h => ?_)
      refine r_bipush hx hb dX12_meet_52 (by decide) h (fun z34 h => ?_)
      refine r_iald hx hb hK hP dX12_meet_54 h (fun z36 h => ?_)
      refine r_iast hx hb hK hP hS dX12_meet_55 h (fun M37 H locs h hP hS => ?_)
      refine lv_aload_n hx hb dX12_meet_56 rfl (lv_at hl 1 rfl) ?_
      refine r_getr (C := RX12) (T := TX12) (N := 38) hx hb hts (fun w h => List.mem_cons_of_mem _ (iX12 w h)) hown hK hP rfl (by decide) rfl 20 (by decide) (hts _ (List.mem_cons_of_mem _ kw_1354)) (fun _ h9 => h9) dX12_meet_57 (by decide) h (fun x39 h => ?_)
      refine r_bipush hx hb dX12_meet_60 (by decide) h (fun z41 h => ?_)
      refine lv_dup2_11 hx hb dX12_meet_62 rfl rfl ?_
      refine r_iald hx hb hK hP dX12_meet_63 h (fun z43 h => ?_)
      refine lv_aload_n hx hb dX12_meet_64 rfl (lv_at hl 1 rfl) ?_
      refine lv_iload_n hx hb dX12_meet_65 rfl (lv_at hl 2 rfl) ?_
      refine r_iconst hx hb dX12_meet_66 (by decide) h (fun z45 h => ?_)
      refine q_Vi hx hb hml hown hts hK hP hS (c_X12_wantOf l D G S _ xl0 zl1 z45 _ h.2) ⟨callB_of 2 hts (gw_good kw_1682) rfl rfl rfl (hts _ (List.mem_cons_of_mem _ kw_14)) (hts _ (List.mem_cons_of_mem _ kw_1679)) hd_X12_wantOf ⟨Nat.le_of_ble_eq_true rfl, Nat.le_of_ble_eq_true rfl⟩, (hts _ (List.mem_cons_of_mem _ kw_1681)), (hts _ (List.mem_cons_of_mem _ kp_94))⟩ h.1 (ci := 12) rfl (by decide) rfl hl.1 rfl (lv_room (Nat.le_of_ble_eq_true rfl)) dX12_meet_67 ⟨Nat.zero_le _, Nat.zero_le _⟩ (fun z48 M46 H locs h hP hS => ?_)
      refine r_iadd hx hb dX12_meet_70 h (fun z50 h => ?_)
      refine r_iast hx hb hK hP hS dX12_meet_71 h (fun M51 H locs h hP hS => ?_)
      refine lv_iload_n hx hb dX12_meet_72 rfl (lv_at hl 0 rfl) ?_
      exact r_iret hx hb hr hlocks hP hS dX12_meet_73 h
    · refine r_iconst hx hb dX12_meet_20 (by decide) h (fun z53 h => ?_)
      exact r_iret hx hb hr hlocks hP hS dX12_meet_21 h
  · refine r_iconst hx hb dX12_meet_8 (by decide) h (fun z55 h => ?_)
    exact r_iret hx hb hr hlocks hP hS dX12_meet_9 h
/-! TurningMilkModel.keeps()V -/
abbrev RM_X12_keeps : Room := { frames := 1, cells := 0, slots := 0, locals := 40 }
def cw_X12_keeps : Cond := Cond.code yX12_keeps cX12_keeps 2 (Option.none : Option FieldType)
theorem hd_X12_keeps : yX12_keeps.cls ≠ "java/lang/invoke/MethodHandle" ∧ yX12_keeps.cls ≠ "java/lang/invoke/VarHandle" ∧ (parseMethodDescriptor yX12_keeps.desc).map (fun d => d.parameters.length) = some 0 := by decide +kernel
theorem dX12_keeps_0 : decode cX12_keeps 0 = .ok (.iconst 0, 1) := by decide +kernel
theorem dX12_keeps_1 : decode cX12_keeps 1 = .ok (.istore_n 1, 1) := by decide +kernel
theorem dX12_keeps_2 : decode cX12_keeps 2 = .ok (.iload_n 1, 1) := by decide +kernel
theorem dX12_keeps_3 : decode cX12_keeps 3 = .ok (.bipush 57, 2) := by decide +kernel
theorem dX12_keeps_5 : decode cX12_keeps 5 = .ok (.if_icmp .ge 21, 3) := by decide +kernel
theorem dX12_keeps_8 : decode cX12_keeps 8 = .ok (.aload_n 0, 1) := by decide +kernel
theorem dX12_keeps_9 : decode cX12_keeps 9 = .ok (.getfield 49, 3) := by decide +kernel
theorem dX12_keeps_12 : decode cX12_keeps 12 = .ok (.iload_n 1, 1) := by decide +kernel
theorem dX12_keeps_13 : decode cX12_keeps 13 = .ok (.aload_n 0, 1) := by decide +kernel
theorem dX12_keeps_14 : decode cX12_keeps 14 = .ok (.getfield 39, 3) := by decide +kernel
theorem dX12_keeps_17 : decode cX12_keeps 17 = .ok (.iload_n 1, 1) := by decide +kernel
theorem dX12_keeps_18 : decode cX12_keeps 18 = .ok (.iaload, 1) := by decide +kernel
theorem dX12_keeps_19 : decode cX12_keeps 19 = .ok (.iastore, 1) := by decide +kernel
theorem dX12_keeps_20 : decode cX12_keeps 20 = .ok (.iinc 1 1, 3) := by decide +kernel
theorem dX12_keeps_23 : decode cX12_keeps 23 = .ok (.goto (-21), 3) := by decide +kernel
theorem dX12_keeps_26 : decode cX12_keeps 26 = .ok (.return_, 1) := by decide +kernel
def wp_X12_keeps_2 (S : Sh) (post : Mm → Prop) : Nat → Int → Int → Mm → Prop
  | 0, _, _, _ => False
  | n + 1, u0, u1, M => wC 57 fun v1 => wIf (v1 ≤ u1) (post M) (wGetR S M u0 12 26 fun v3 => wGetR S M u0 12 20 fun v5 => wLd S M v5 14 u1 fun v7 => wSt S M v3 14 u1 v7 fun M9 => wA u1 1 fun v10 => wp_X12_keeps_2 S post n u0 v10 M9)
def wp_X12_keeps (S : Sh) (M : Mm) (u0 : Int) (post : Mm → Prop) : Prop := wC 0 fun v12 => ∃ n9 : Nat, wp_X12_keeps_2 S post n9 u0 v12 M
set_option maxHeartbeats 4000000 in
set_option maxRecDepth 100000 in
theorem t_X12_keeps_2 {p : Program} {l : Launch} {e : Env} {s : State} {m : MethodId} {args : Array Value} {below : List Frame} {meth : Method} {c : Code} {D : va_G} {G : Gt} {S : Sh} {post : Mm → Prop} (C : Cx p s m args meth c D G cX12_keeps 2 none (cw_X12_keeps :: gw) RX12) : ∀ (n : Nat) (xl0 : Int) (zl1 : Int32) (M : Mm) (H : Heap) (locs : List Loc) (ls : Array Slot), Wd D G S M H → va_S (aG G) s.heap H locs → lv_has ls 2 [(0, .ref (adr G xl0)), (1, .int zl1)] → wp_X12_keeps_2 S post n xl0 zl1.toInt  M → W p l e RM_X12_keeps s m args below meth c H locs 0 0 (MQ below (QV D G S post) args s 0 0 (aG G)) (F0 m 2 ls []) := by
  obtain ⟨hx, hb, hr, hlocks, hml, hown, hts, hK⟩ := id C
  intro n
  induction n with
  | zero => intro xl0 zl1 M H locs ls hP hS hl h; exact h.elim
  | succ n ih =>
    intro xl0 zl1 M H locs ls hP hS hl h
    unfold wp_X12_keeps_2 at h
    refine lv_iload_n hx hb dX12_keeps_2 rfl (lv_at hl 1 rfl) ?_
    refine r_bipush hx hb dX12_keeps_3 (by decide) h (fun z2 h => ?_)
    refine r_icmp_ge (tgt := 26) hx hb dX12_keeps_5 (by decide) h (fun h => ?_) (fun h => ?_)
    · exact r_vret hx hb hr hlocks hP hS dX12_keeps_26 h
    · refine lv_aload_n hx hb dX12_keeps_8 rfl (lv_at hl 0 rfl) ?_
      refine r_getr (C := RX12) (T := TX12) (N := 38) hx hb hts (fun w h => List.mem_cons_of_mem _ (iX12 w h)) hown hK hP rfl (by decide) rfl 26 (by decide) (hts _ (List.mem_cons_of_mem _ kw_1360)) (fun _ h9 => h9) dX12_keeps_9 (by decide) h (fun x4 h => ?_)
      refine lv_iload_n hx hb dX12_keeps_12 rfl (lv_at hl 1 rfl) ?_
      refine lv_aload_n hx hb dX12_keeps_13 rfl (lv_at hl 0 rfl) ?_
      refine r_getr (C := RX12) (T := TX12) (N := 38) hx hb hts (fun w h => List.mem_cons_of_mem _ (iX12 w h)) hown hK hP rfl (by decide) rfl 20 (by decide) (hts _ (List.mem_cons_of_mem _ kw_1354)) (fun _ h9 => h9) dX12_keeps_14 (by decide) h (fun x6 h => ?_)
      refine lv_iload_n hx hb dX12_keeps_17 rfl (lv_at hl 1 rfl) ?_
      refine r_iald hx hb hK hP dX12_keeps_18 h (fun z8 h => ?_)
      refine r_iast hx hb hK hP hS dX12_keeps_19 h (fun M9 H locs h hP hS => ?_)
      refine r_iinc hx hb (fun z11 => [(1, .int z11), (0, .ref (adr G xl0))]) dX12_keeps_20 (by decide) hl (k := 1) rfl (by decide) (fun _ => rfl) h (fun z11 ls hl h => ?_)
      refine lv_goto (tgt := 2) hx hb dX12_keeps_23 (by decide) ?_
      exact ih xl0 z11 _ _ _ _ hP hS (lv_sub hl [1, 0] rfl) h
set_option maxHeartbeats 4000000 in
set_option maxRecDepth 100000 in
theorem c_X12_keeps (l : Launch) (D : va_G) (G : Gt) (S : Sh) (M : Mm) (xl0 : Int) (post : Mm → Prop) (h : wp_X12_keeps S M xl0 post) : Met l yX12_keeps (cw_X12_keeps :: gw) RM_X12_keeps (va_Pc [.ref (adr G xl0)] (fun U => KN D G U ∧ Wd D G S M U.heap)) (QV D G S post) 0 0 (aG G) := by
  refine Met.ofW (cc := cX12_keeps) (maxL := 2) (ret := none) (by decide) rfl ?_
  intro p e s m args below meth c s₁ B hml hv
  obtain ⟨rfl, hK, hP⟩ := hv
  have hx := B.exec
  have hb := B.bytes
  have hr := B.returns
  have hts := atoms_spec (ws := cw_X12_keeps :: gw) B.pre
  have hown : s.vm.findClass RX12 = some m.cls := findClass_of_methodNamed B.named
  have hlocks := B.notSynchronized
  have hS : va_S (aG G) s.heap s.heap [] := va_S.rf
  have C : Cx p s m ([.ref (adr G xl0)] : List Value).toArray meth c D G cX12_keeps 2 none (cw_X12_keeps :: gw) RX12 := ⟨hx, hb, hr, hlocks, hml, hown, hts, hK⟩
  have hl := lv_entry ([.ref (adr G xl0)]) (n := 2) (Nat.le_of_ble_eq_true rfl)
  rw [lg_entry_eq]
  generalize (lg_sl ([.ref (adr G xl0)]) ++ List.replicate (2 - (lg_sl ([.ref (adr G xl0)])).length) Slot.unset).toArray = ls at hl ⊢
  have hl : lv_has ls 2 [(0, .ref (adr G xl0))] := hl
  unfold wp_X12_keeps at h
  refine r_iconst hx hb dX12_keeps_0 (by decide) h (fun z13 h => ?_)
  refine lv_istore_n (lv' := [(1, .int z13), (0, .ref (adr G xl0))]) hx hb dX12_keeps_1 rfl hl (by decide) rfl (fun ls hl => ?_)
  obtain ⟨n9, h⟩ := h
  exact t_X12_keeps_2 C n9 xl0 z13 _ _ _ _ hP hS (lv_sub hl [1, 0] rfl) h
/-! TurningMilkModel.laysBack()V -/
abbrev RM_X12_laysBack : Room := { frames := 1, cells := 0, slots := 0, locals := 40 }
def cw_X12_laysBack : Cond := Cond.code yX12_laysBack cX12_laysBack 2 (Option.none : Option FieldType)
theorem hd_X12_laysBack : yX12_laysBack.cls ≠ "java/lang/invoke/MethodHandle" ∧ yX12_laysBack.cls ≠ "java/lang/invoke/VarHandle" ∧ (parseMethodDescriptor yX12_laysBack.desc).map (fun d => d.parameters.length) = some 0 := by decide +kernel
theorem dX12_laysBack_0 : decode cX12_laysBack 0 = .ok (.iconst 0, 1) := by decide +kernel
theorem dX12_laysBack_1 : decode cX12_laysBack 1 = .ok (.istore_n 1, 1) := by decide +kernel
theorem dX12_laysBack_2 : decode cX12_laysBack 2 = .ok (.iload_n 1, 1) := by decide +kernel
theorem dX12_laysBack_3 : decode cX12_laysBack 3 = .ok (.bipush 57, 2) := by decide +kernel
theorem dX12_laysBack_5 : decode cX12_laysBack 5 = .ok (.if_icmp .ge 21, 3) := by decide +kernel
theorem dX12_laysBack_8 : decode cX12_laysBack 8 = .ok (.aload_n 0, 1) := by decide +kernel
theorem dX12_laysBack_9 : decode cX12_laysBack 9 = .ok (.getfield 39, 3) := by decide +kernel
theorem dX12_laysBack_12 : decode cX12_laysBack 12 = .ok (.iload_n 1, 1) := by decide +kernel
theorem dX12_laysBack_13 : decode cX12_laysBack 13 = .ok (.aload_n 0, 1) := by decide +kernel
theorem dX12_laysBack_14 : decode cX12_laysBack 14 = .ok (.getfield 49, 3) := by decide +kernel
theorem dX12_laysBack_17 : decode cX12_laysBack 17 = .ok (.iload_n 1, 1) := by decide +kernel
theorem dX12_laysBack_18 : decode cX12_laysBack 18 = .ok (.iaload, 1) := by decide +kernel
theorem dX12_laysBack_19 : decode cX12_laysBack 19 = .ok (.iastore, 1) := by decide +kernel
theorem dX12_laysBack_20 : decode cX12_laysBack 20 = .ok (.iinc 1 1, 3) := by decide +kernel
theorem dX12_laysBack_23 : decode cX12_laysBack 23 = .ok (.goto (-21), 3) := by decide +kernel
theorem dX12_laysBack_26 : decode cX12_laysBack 26 = .ok (.return_, 1) := by decide +kernel
def wp_X12_laysBack_2 (S : Sh) (post : Mm → Prop) : Nat → Int → Int → Mm → Prop
  | 0, _, _, _ => False
  | n + 1, u0, u1, M => wC 57 fun v1 => wIf (v1 ≤ u1) (post M) (wGetR S M u0 12 20 fun v3 => wGetR S M u0 12 26 fun v5 => wLd S M v5 14 u1 fun v7 => wSt S M v3 14 u1 v7 fun M9 => wA u1 1 fun v10 => wp_X12_laysBack_2 S post n u0 v10 M9)
def wp_X12_laysBack (S : Sh) (M : Mm) (u0 : Int) (post : Mm → Prop) : Prop := wC 0 fun v12 => ∃ n9 : Nat, wp_X12_laysBack_2 S post n9 u0 v12 M
set_option maxHeartbeats 4000000 in
set_option maxRecDepth 100000 in
theorem t_X12_laysBack_2 {p : Program} {l : Launch} {e : Env} {s : State} {m : MethodId} {args : Array Value} {below : List Frame} {meth : Method} {c : Code} {D : va_G} {G : Gt} {S : Sh} {post : Mm → Prop} (C : Cx p s m args meth c D G cX12_laysBack 2 none (cw_X12_laysBack :: gw) RX12) : ∀ (n : Nat) (xl0 : Int) (zl1 : Int32) (M : Mm) (H : Heap) (locs : List Loc) (ls : Array Slot), Wd D G S M H → va_S (aG G) s.heap H locs → lv_has ls 2 [(0, .ref (adr G xl0)), (1, .int zl1)] → wp_X12_laysBack_2 S post n xl0 zl1.toInt  M → W p l e RM_X12_laysBack s m args below meth c H locs 0 0 (MQ below (QV D G S post) args s 0 0 (aG G)) (F0 m 2 ls []) := by
  obtain ⟨hx, hb, hr, hlocks, hml, hown, hts, hK⟩ := id C
  intro n
  induction n with
  | zero => intro xl0 zl1 M H locs ls hP hS hl h; exact h.elim
  | succ n ih =>
    intro xl0 zl1 M H locs ls hP hS hl h
    unfold wp_X12_laysBack_2 at h
    refine lv_iload_n hx hb dX12_laysBack_2 rfl (lv_at hl 1 rfl) ?_
    refine r_bipush hx hb dX12_laysBack_3 (by decide) h (fun z2 h => ?_)
    refine r_icmp_ge (tgt := 26) hx hb dX12_laysBack_5 (by decide) h (fun h => ?_) (fun h => ?_)
    · exact r_vret hx hb hr hlocks hP hS dX12_laysBack_26 h
    · refine lv_aload_n hx hb dX12_laysBack_8 rfl (lv_at hl 0 rfl) ?_
      refine r_getr (C := RX12) (T := TX12) (N := 38) hx hb hts (fun w h => List.mem_cons_of_mem _ (iX12 w h)) hown hK hP rfl (by decide) rfl 20 (by decide) (hts _ (List.mem_cons_of_mem _ kw_1354)) (fun _ h9 => h9) dX12_laysBack_9 (by decide) h (fun x4 h => ?_)
      refine lv_iload_n hx hb dX12_laysBack_12 rfl (lv_at hl 1 rfl) ?_
      refine lv_aload_n hx hb dX12_laysBack_13 rfl (lv_at hl 0 rfl) ?_
      refine r_getr (C := RX12) (T := TX12) (N := 38) hx hb hts (fun w h => List.mem_cons_of_mem _ (iX12 w h)) hown hK hP rfl (by decide) rfl 26 (by decide) (hts _ (List.mem_cons_of_mem _ kw_1360)) (fun _ h9 => h9) dX12_laysBack_14 (by decide) h (fun x6 h => ?_)
      refine lv_iload_n hx hb dX12_laysBack_17 rfl (lv_at hl 1 rfl) ?_
      refine r_iald hx hb hK hP dX12_laysBack_18 h (fun z8 h => ?_)
      refine r_iast hx hb hK hP hS dX12_laysBack_19 h (fun M9 H locs h hP hS => ?_)
      refine r_iinc hx hb (fun z11 => [(1, .int z11), (0, .ref (adr G xl0))]) dX12_laysBack_20 (by decide) hl (k := 1) rfl (by decide) (fun _ => rfl) h (fun z11 ls hl h => ?_)
      refine lv_goto (tgt := 2) hx hb dX12_laysBack_23 (by decide) ?_
      exact ih xl0 z11 _ _ _ _ hP hS (lv_sub hl [1, 0] rfl) h
set_option maxHeartbeats 4000000 in
set_option maxRecDepth 100000 in
theorem c_X12_laysBack (l : Launch) (D : va_G) (G : Gt) (S : Sh) (M : Mm) (xl0 : Int) (post : Mm → Prop) (h : wp_X12_laysBack S M xl0 post) : Met l yX12_laysBack (cw_X12_laysBack :: gw) RM_X12_laysBack (va_Pc [.ref (adr G xl0)] (fun U => KN D G U ∧ Wd D G S M U.heap)) (QV D G S post) 0 0 (aG G) := by
  refine Met.ofW (cc := cX12_laysBack) (maxL := 2) (ret := none) (by decide) rfl ?_
  intro p e s m args below meth c s₁ B hml hv
  obtain ⟨rfl, hK, hP⟩ := hv
  have hx := B.exec
  have hb := B.bytes
  have hr := B.returns
  have hts := atoms_spec (ws := cw_X12_laysBack :: gw) B.pre
  have hown : s.vm.findClass RX12 = some m.cls := findClass_of_methodNamed B.named
  have hlocks := B.notSynchronized
  have hS : va_S (aG G) s.heap s.heap [] := va_S.rf
  have C : Cx p s m ([.ref (adr G xl0)] : List Value).toArray meth c D G cX12_laysBack 2 none (cw_X12_laysBack :: gw) RX12 := ⟨hx, hb, hr, hlocks, hml, hown, hts, hK⟩
  have hl := lv_entry ([.ref (adr G xl0)]) (n := 2) (Nat.le_of_ble_eq_true rfl)
  rw [lg_entry_eq]
  generalize (lg_sl ([.ref (adr G xl0)]) ++ List.replicate (2 - (lg_sl ([.ref (adr G xl0)])).length) Slot.unset).toArray = ls at hl ⊢
  have hl : lv_has ls 2 [(0, .ref (adr G xl0))] := hl
  unfold wp_X12_laysBack at h
  refine r_iconst hx hb dX12_laysBack_0 (by decide) h (fun z13 h => ?_)
  refine lv_istore_n (lv' := [(1, .int z13), (0, .ref (adr G xl0))]) hx hb dX12_laysBack_1 rfl hl (by decide) rfl (fun ls hl => ?_)
  obtain ⟨n9, h⟩ := h
  exact t_X12_laysBack_2 C n9 xl0 z13 _ _ _ _ hP hS (lv_sub hl [1, 0] rfl) h
/-! TurningMilkModel.ahead(III)I -/
abbrev RM_X12_ahead : Room := { frames := 7, cells := 0, slots := 0, locals := 195 }
def cw_X12_ahead : Cond := Cond.code yX12_ahead cX12_ahead 5 (Option.some FieldType.int)
theorem hd_X12_ahead : yX12_ahead.cls ≠ "java/lang/invoke/MethodHandle" ∧ yX12_ahead.cls ≠ "java/lang/invoke/VarHandle" ∧ (parseMethodDescriptor yX12_ahead.desc).map (fun d => d.parameters.length) = some 3 := by decide +kernel
theorem dX12_ahead_0 : decode cX12_ahead 0 = .ok (.iload_n 2, 1) := by decide +kernel
theorem dX12_ahead_1 : decode cX12_ahead 1 = .ok (.i2l, 1) := by decide +kernel
theorem dX12_ahead_2 : decode cX12_ahead 2 = .ok (.lconst 0, 1) := by decide +kernel
theorem dX12_ahead_3 : decode cX12_ahead 3 = .ok (.ldc2_w 380, 3) := by decide +kernel
theorem dX12_ahead_6 : decode cX12_ahead 6 = .ok (.invokestatic 118, 3) := by decide +kernel
theorem dX12_ahead_9 : decode cX12_ahead 9 = .ok (.ifCond .eq 36, 3) := by decide +kernel
theorem dX12_ahead_12 : decode cX12_ahead 12 = .ok (.iload_n 3, 1) := by decide +kernel
theorem dX12_ahead_13 : decode cX12_ahead 13 = .ok (.i2l, 1) := by decide +kernel
theorem dX12_ahead_14 : decode cX12_ahead 14 = .ok (.lconst 0, 1) := by decide +kernel
theorem dX12_ahead_15 : decode cX12_ahead 15 = .ok (.lconst 1, 1) := by decide +kernel
theorem dX12_ahead_16 : decode cX12_ahead 16 = .ok (.invokestatic 118, 3) := by decide +kernel
theorem dX12_ahead_19 : decode cX12_ahead 19 = .ok (.ifCond .eq 26, 3) := by decide +kernel
theorem dX12_ahead_22 : decode cX12_ahead 22 = .ok (.iload_n 3, 1) := by decide +kernel
theorem dX12_ahead_23 : decode cX12_ahead 23 = .ok (.ifCond .ne 14, 3) := by decide +kernel
theorem dX12_ahead_26 : decode cX12_ahead 26 = .ok (.aload_n 0, 1) := by decide +kernel
theorem dX12_ahead_27 : decode cX12_ahead 27 = .ok (.iload_n 1, 1) := by decide +kernel
theorem dX12_ahead_28 : decode cX12_ahead 28 = .ok (.invokevirtual 312, 3) := by decide +kernel
theorem dX12_ahead_31 : decode cX12_ahead 31 = .ok (.ifCond .ne 17, 3) := by decide +kernel
theorem dX12_ahead_34 : decode cX12_ahead 34 = .ok (.goto 11, 3) := by decide +kernel
theorem dX12_ahead_37 : decode cX12_ahead 37 = .ok (.aload_n 0, 1) := by decide +kernel
theorem dX12_ahead_38 : decode cX12_ahead 38 = .ok (.iload_n 1, 1) := by decide +kernel
theorem dX12_ahead_39 : decode cX12_ahead 39 = .ok (.invokevirtual 301, 3) := by decide +kernel
theorem dX12_ahead_42 : decode cX12_ahead 42 = .ok (.ifCond .ne 6, 3) := by decide +kernel
theorem dX12_ahead_45 : decode cX12_ahead 45 = .ok (.bipush (-2), 2) := by decide +kernel
theorem dX12_ahead_47 : decode cX12_ahead 47 = .ok (.ireturn, 1) := by decide +kernel
theorem dX12_ahead_48 : decode cX12_ahead 48 = .ok (.aload_n 0, 1) := by decide +kernel
theorem dX12_ahead_49 : decode cX12_ahead 49 = .ok (.invokevirtual 382, 3) := by decide +kernel
theorem dX12_ahead_52 : decode cX12_ahead 52 = .ok (.iconst 0, 1) := by decide +kernel
theorem dX12_ahead_53 : decode cX12_ahead 53 = .ok (.istore 4, 2) := by decide +kernel
theorem dX12_ahead_55 : decode cX12_ahead 55 = .ok (.iload 4, 2) := by decide +kernel
theorem dX12_ahead_57 : decode cX12_ahead 57 = .ok (.iload_n 2, 1) := by decide +kernel
theorem dX12_ahead_58 : decode cX12_ahead 58 = .ok (.if_icmp .ge 14, 3) := by decide +kernel
theorem dX12_ahead_61 : decode cX12_ahead 61 = .ok (.aload_n 0, 1) := by decide +kernel
theorem dX12_ahead_62 : decode cX12_ahead 62 = .ok (.invokevirtual 356, 3) := by decide +kernel
theorem dX12_ahead_65 : decode cX12_ahead 65 = .ok (.pop, 1) := by decide +kernel
theorem dX12_ahead_66 : decode cX12_ahead 66 = .ok (.iinc 4 1, 3) := by decide +kernel
theorem dX12_ahead_69 : decode cX12_ahead 69 = .ok (.goto (-14), 3) := by decide +kernel
theorem dX12_ahead_72 : decode cX12_ahead 72 = .ok (.iload_n 3, 1) := by decide +kernel
theorem dX12_ahead_73 : decode cX12_ahead 73 = .ok (.iconst 1, 1) := by decide +kernel
theorem dX12_ahead_74 : decode cX12_ahead 74 = .ok (.if_icmp .ne 12, 3) := by decide +kernel
theorem dX12_ahead_77 : decode cX12_ahead 77 = .ok (.aload_n 0, 1) := by decide +kernel
theorem dX12_ahead_78 : decode cX12_ahead 78 = .ok (.iload_n 1, 1) := by decide +kernel
theorem dX12_ahead_79 : decode cX12_ahead 79 = .ok (.iconst 2, 1) := by decide +kernel
theorem dX12_ahead_80 : decode cX12_ahead 80 = .ok (.invokevirtual 306, 3) := by decide +kernel
theorem dX12_ahead_83 : decode cX12_ahead 83 = .ok (.goto 23, 3) := by decide +kernel
theorem dX12_ahead_86 : decode cX12_ahead 86 = .ok (.aload_n 0, 1) := by decide +kernel
theorem dX12_ahead_87 : decode cX12_ahead 87 = .ok (.iload_n 1, 1) := by decide +kernel
theorem dX12_ahead_88 : decode cX12_ahead 88 = .ok (.iconst 3, 1) := by decide +kernel
theorem dX12_ahead_89 : decode cX12_ahead 89 = .ok (.invokevirtual 284, 3) := by decide +kernel
theorem dX12_ahead_92 : decode cX12_ahead 92 = .ok (.iconst 1, 1) := by decide +kernel
theorem dX12_ahead_93 : decode cX12_ahead 93 = .ok (.if_icmp .ne 7, 3) := by decide +kernel
theorem dX12_ahead_96 : decode cX12_ahead 96 = .ok (.iconst (-1), 1) := by decide +kernel
theorem dX12_ahead_97 : decode cX12_ahead 97 = .ok (.goto 9, 3) := by decide +kernel
theorem dX12_ahead_100 : decode cX12_ahead 100 = .ok (.aload_n 0, 1) := by decide +kernel
theorem dX12_ahead_101 : decode cX12_ahead 101 = .ok (.iload_n 1, 1) := by decide +kernel
theorem dX12_ahead_102 : decode cX12_ahead 102 = .ok (.iconst 2, 1) := by decide +kernel
theorem dX12_ahead_103 : decode cX12_ahead 103 = .ok (.invokevirtual 284, 3) := by decide +kernel
theorem dX12_ahead_106 : decode cX12_ahead 106 = .ok (.istore 4, 2) := by decide +kernel
theorem dX12_ahead_108 : decode cX12_ahead 108 = .ok (.aload_n 0, 1) := by decide +kernel
theorem dX12_ahead_109 : decode cX12_ahead 109 = .ok (.invokevirtual 385, 3) := by decide +kernel
theorem dX12_ahead_112 : decode cX12_ahead 112 = .ok (.iload 4, 2) := by decide +kernel
theorem dX12_ahead_114 : decode cX12_ahead 114 = .ok (.ireturn, 1) := by decide +kernel
def wp_X12_ahead_106 (S : Sh) (post : Int → Mm → Prop) (u0 : Int) (t0 : Int) (M : Mm) : Prop := isK S u0 12 ∧ (wp_X12_laysBack S M u0 <| fun M1 => post t0 M1)
def wp_X12_ahead_55 (S : Sh) (post : Int → Mm → Prop) : Nat → Int → Int → Int → Int → Int → Mm → Prop
  | 0, _, _, _, _, _, _ => False
  | n + 1, u0, u1, u2, u3, u4, M => wIf (u2 ≤ u4) (wC 1 fun v2 => wIf (¬ u3 = v2) (wC 3 fun v4 => isK S u0 12 ∧ (wp_X12_jugOf S M u0 u1 v4 <| fun v7 M6 => wC 1 fun v9 => wIf (¬ v7 = v9) (wC 2 fun v11 => isK S u0 12 ∧ (wp_X12_jugOf S M6 u0 u1 v11 <| fun v14 M13 => wp_X12_ahead_106 S post u0 v14 M13)) (wC (-1) fun v16 => wp_X12_ahead_106 S post u0 v16 M6))) (wC 2 fun v18 => isK S u0 12 ∧ (wp_X12_handOf S M u0 u1 v18 <| fun v21 M20 => wp_X12_ahead_106 S post u0 v21 M20))) (isK S u0 12 ∧ (wp_X12_passes S M u0 <| fun v24 M23 => wA u4 1 fun v26 => wp_X12_ahead_55 S post n u0 u1 u2 u3 v26 M23))
def wp_X12_ahead_48 (S : Sh) (post : Int → Mm → Prop) (u0 : Int) (u1 : Int) (u2 : Int) (u3 : Int) (M : Mm) : Prop := isK S u0 12 ∧ (wp_X12_keeps S M u0 <| fun M28 => wC 0 fun v29 => ∃ n9 : Nat, wp_X12_ahead_55 S post n9 u0 u1 u2 u3 v29 M28)
def wp_X12_ahead (S : Sh) (M : Mm) (u0 : Int) (u1 : Int) (u2 : Int) (u3 : Int) (post : Int → Mm → Prop) : Prop := wC u2 fun v31 => wC 0 fun v33 => wC 100 fun v35 => wp_X12_in S M v31 v33 v35 <| fun v38 M37 => wIf (v38 = 0) (wC (-2) fun v40 => post v40 M37) (wC u3 fun v42 => wC 0 fun v44 => wC 1 fun v46 => wp_X12_in S M37 v42 v44 v46 <| fun v49 M48 => wIf (v49 = 0) (wC (-2) fun v51 => post v51 M48) (wIf (¬ u3 = 0) (isK S u0 12 ∧ (wp_X12_isHand S M48 u0 u1 <| fun v54 M53 => wIf (¬ v54 = 0) (wp_X12_ahead_48 S post u0 u1 u2 u3 M53) (wC (-2) fun v56 => post v56 M53))) (isK S u0 12 ∧ (wp_X12_isJug S M48 u0 u1 <| fun v59 M58 => wIf (¬ v59 = 0) (wp_X12_ahead_48 S post u0 u1 u2 u3 M58) (wC (-2) fun v61 => post v61 M58)))))
set_option maxHeartbeats 4000000 in
set_option maxRecDepth 100000 in
theorem t_X12_ahead_106 {p : Program} {l : Launch} {e : Env} {s : State} {m : MethodId} {args : Array Value} {below : List Frame} {meth : Method} {c : Code} {D : va_G} {G : Gt} {S : Sh} {post : Int → Mm → Prop} (C : Cx p s m args meth c D G cX12_ahead 5 (some .int) (cw_X12_ahead :: gw) RX12) : ∀ (xl0 : Int) (zs0 : Int32) (M : Mm) (H : Heap) (locs : List Loc) (ls : Array Slot), Wd D G S M H → va_S (aG G) s.heap H locs → lv_has ls 5 [(0, .ref (adr G xl0))] → wp_X12_ahead_106 S post xl0 zs0.toInt M → W p l e RM_X12_ahead s m args below meth c H locs 0 0 (MQ below (QI D G S post) args s 0 0 (aG G)) (F0 m 106 ls [.int zs0]) := by
  obtain ⟨hx, hb, hr, hlocks, hml, hown, hts, hK⟩ := id C
  intro xl0 zs0 M H locs ls hP hS hl h
  unfold wp_X12_ahead_106 at h
  refine lv_istore (lv' := [(4, .int zs0), (0, .ref (adr G xl0))]) hx hb dX12_ahead_106 hl (by decide) rfl (fun ls hl => ?_)
  refine lv_aload_n hx hb dX12_ahead_108 rfl (lv_at hl 1 rfl) ?_
  refine q_Vv hx hb hml hown hts hK hP hS (c_X12_laysBack l D G S _ xl0 _ h.2) ⟨callB_of 0 hts (gw_good kw_1809) rfl rfl rfl (hts _ (List.mem_cons_of_mem _ kw_14)) (hts _ (List.mem_cons_of_mem _ kw_1806)) hd_X12_laysBack ⟨Nat.le_of_ble_eq_true rfl, Nat.le_of_ble_eq_true rfl⟩, (hts _ (List.mem_cons_of_mem _ kw_1808)), (hts _ (List.mem_cons_of_mem _ kp_115))⟩ h.1 (ci := 12) rfl (by decide) rfl hl.1 rfl (lv_room (Nat.le_of_ble_eq_true rfl)) dX12_ahead_109 ⟨Nat.zero_le _, Nat.zero_le _⟩ (fun M1 H locs h hP hS => ?_)
  refine lv_iload hx hb dX12_ahead_112 (lv_at hl 0 rfl) ?_
  exact r_iret hx hb hr hlocks hP hS dX12_ahead_114 h
set_option maxHeartbeats 4000000 in
set_option maxRecDepth 100000 in
theorem t_X12_ahead_55 {p : Program} {l : Launch} {e : Env} {s : State} {m : MethodId} {args : Array Value} {below : List Frame} {meth : Method} {c : Code} {D : va_G} {G : Gt} {S : Sh} {post : Int → Mm → Prop} (C : Cx p s m args meth c D G cX12_ahead 5 (some .int) (cw_X12_ahead :: gw) RX12) : ∀ (n : Nat) (xl0 : Int) (zl1 : Int32) (zl2 : Int32) (zl3 : Int32) (zl4 : Int32) (M : Mm) (H : Heap) (locs : List Loc) (ls : Array Slot), Wd D G S M H → va_S (aG G) s.heap H locs → lv_has ls 5 [(0, .ref (adr G xl0)), (1, .int zl1), (2, .int zl2), (3, .int zl3), (4, .int zl4)] → wp_X12_ahead_55 S post n xl0 zl1.toInt zl2.toInt zl3.toInt zl4.toInt  M → W p l e RM_X12_ahead s m args below meth c H locs 0 0 (MQ below (QI D G S post) args s 0 0 (aG G)) (F0 m 55 ls []) := by
  obtain ⟨hx, hb, hr, hlocks, hml, hown, hts, hK⟩ := id C
  intro n
  induction n with
  | zero => intro xl0 zl1 zl2 zl3 zl4 M H locs ls hP hS hl h; exact h.elim
  | succ n ih =>
    intro xl0 zl1 zl2 zl3 zl4 M H locs ls hP hS hl h
    unfold wp_X12_ahead_55 at h
    refine lv_iload hx hb dX12_ahead_55 (lv_at hl 4 rfl) ?_
    refine lv_iload_n hx hb dX12_ahead_57 rfl (lv_at hl 2 rfl) ?_
    refine r_icmp_ge (tgt := 72) hx hb dX12_ahead_58 (by decide) h (fun h => ?_) (fun h => ?_)
    · refine lv_iload_n hx hb dX12_ahead_72 rfl (lv_at hl 3 rfl) ?_
      refine r_iconst hx hb dX12_ahead_73 (by decide) h (fun z3 h => ?_)
      refine r_icmp_ne (tgt := 86) hx hb dX12_ahead_74 (by decide) h (fun h => ?_) (fun h => ?_)
      · refine lv_aload_n hx hb dX12_ahead_86 rfl (lv_at hl 0 rfl) ?_
        refine lv_iload_n hx hb dX12_ahead_87 rfl (lv_at hl 1 rfl) ?_
        refine r_iconst hx hb dX12_ahead_88 (by decide) h (fun z5 h => ?_)
        refine q_Vi hx hb hml hown hts hK hP hS (c_X12_jugOf l D G S _ xl0 zl1 z5 _ h.2) ⟨callB_of 2 hts (gw_good kw_1658) rfl rfl rfl (hts _ (List.mem_cons_of_mem _ kw_14)) (hts _ (List.mem_cons_of_mem _ kw_1655)) hd_X12_jugOf ⟨Nat.le_of_ble_eq_true rfl, Nat.le_of_ble_eq_true rfl⟩, (hts _ (List.mem_cons_of_mem _ kw_1657)), (hts _ (List.mem_cons_of_mem _ kp_90))⟩ h.1 (ci := 12) rfl (by decide) rfl hl.1 rfl (lv_room (Nat.le_of_ble_eq_true rfl)) dX12_ahead_89 ⟨Nat.zero_le _, Nat.zero_le _⟩ (fun z8 M6 H locs h hP hS => ?_)
        refine r_iconst hx hb dX12_ahead_92 (by decide) h (fun z10 h => ?_)
        refine r_icmp_ne (tgt := 100) hx hb dX12_ahead_93 (by decide) h (fun h => ?_) (fun h => ?_)
        · refine lv_aload_n hx hb dX12_ahead_100 rfl (lv_at hl 0 rfl) ?_
          refine lv_iload_n hx hb dX12_ahead_101 rfl (lv_at hl 1 rfl) ?_
          refine r_iconst hx hb dX12_ahead_102 (by decide) h (fun z12 h => ?_)
          refine q_Vi hx hb hml hown hts hK hP hS (c_X12_jugOf l D G S _ xl0 zl1 z12 _ h.2) ⟨callB_of 2 hts (gw_good kw_1658) rfl rfl rfl (hts _ (List.mem_cons_of_mem _ kw_14)) (hts _ (List.mem_cons_of_mem _ kw_1655)) hd_X12_jugOf ⟨Nat.le_of_ble_eq_true rfl, Nat.le_of_ble_eq_true rfl⟩, (hts _ (List.mem_cons_of_mem _ kw_1657)), (hts _ (List.mem_cons_of_mem _ kp_90))⟩ h.1 (ci := 12) rfl (by decide) rfl hl.1 rfl (lv_room (Nat.le_of_ble_eq_true rfl)) dX12_ahead_103 ⟨Nat.zero_le _, Nat.zero_le _⟩ (fun z15 M13 H locs h hP hS => ?_)
          exact t_X12_ahead_106 C xl0 z15 _ _ _ _ hP hS (lv_sub hl [0] rfl) h
        · refine r_iconst hx hb dX12_ahead_96 (by decide) h (fun z17 h => ?_)
          refine lv_goto (tgt := 106) hx hb dX12_ahead_97 (by decide) ?_
          exact t_X12_ahead_106 C xl0 z17 _ _ _ _ hP hS (lv_sub hl [0] rfl) h
      · refine lv_aload_n hx hb dX12_ahead_77 rfl (lv_at hl 0 rfl) ?_
        refine lv_iload_n hx hb dX12_ahead_78 rfl (lv_at hl 1 rfl) ?_
        refine r_iconst hx hb dX12_ahead_79 (by decide) h (fun z19 h => ?_)
        refine q_Vi hx hb hml hown hts hK hP hS (c_X12_handOf l D G S _ xl0 zl1 z19 _ h.2) ⟨callB_of 2 hts (gw_good kw_1650) rfl rfl rfl (hts _ (List.mem_cons_of_mem _ kw_14)) (hts _ (List.mem_cons_of_mem _ kw_1647)) hd_X12_handOf ⟨Nat.le_of_ble_eq_true rfl, Nat.le_of_ble_eq_true rfl⟩, (hts _ (List.mem_cons_of_mem _ kw_1649)), (hts _ (List.mem_cons_of_mem _ kp_88))⟩ h.1 (ci := 12) rfl (by decide) rfl hl.1 rfl (lv_room (Nat.le_of_ble_eq_true rfl)) dX12_ahead_80 ⟨Nat.zero_le _, Nat.zero_le _⟩ (fun z22 M20 H locs h hP hS => ?_)
        refine lv_goto (tgt := 106) hx hb dX12_ahead_83 (by decide) ?_
        exact t_X12_ahead_106 C xl0 z22 _ _ _ _ hP hS (lv_sub hl [0] rfl) h
    · refine lv_aload_n hx hb dX12_ahead_61 rfl (lv_at hl 0 rfl) ?_
      refine q_Vi hx hb hml hown hts hK hP hS (c_X12_passes l D G S _ xl0 _ h.2) ⟨callB_of 0 hts (gw_good kw_1706) rfl rfl rfl (hts _ (List.mem_cons_of_mem _ kw_14)) (hts _ (List.mem_cons_of_mem _ kw_1703)) hd_X12_passes ⟨Nat.le_of_ble_eq_true rfl, Nat.le_of_ble_eq_true rfl⟩, (hts _ (List.mem_cons_of_mem _ kw_1705)), (hts _ (List.mem_cons_of_mem _ kp_98))⟩ h.1 (ci := 12) rfl (by decide) rfl hl.1 rfl (lv_room (Nat.le_of_ble_eq_true rfl)) dX12_ahead_62 ⟨Nat.zero_le _, Nat.zero_le _⟩ (fun z25 M23 H locs h hP hS => ?_)
      refine lv_pop hx hb dX12_ahead_65 rfl ?_
      refine r_iinc hx hb (fun z27 => [(4, .int z27), (0, .ref (adr G xl0)), (1, .int zl1), (2, .int zl2), (3, .int zl3)]) dX12_ahead_66 (by decide) hl (k := 4) rfl (by decide) (fun _ => rfl) h (fun z27 ls hl h => ?_)
      refine lv_goto (tgt := 55) hx hb dX12_ahead_69 (by decide) ?_
      exact ih xl0 zl1 zl2 zl3 z27 _ _ _ _ hP hS (lv_sub hl [1, 2, 3, 4, 0] rfl) h
set_option maxHeartbeats 4000000 in
set_option maxRecDepth 100000 in
theorem t_X12_ahead_48 {p : Program} {l : Launch} {e : Env} {s : State} {m : MethodId} {args : Array Value} {below : List Frame} {meth : Method} {c : Code} {D : va_G} {G : Gt} {S : Sh} {post : Int → Mm → Prop} (C : Cx p s m args meth c D G cX12_ahead 5 (some .int) (cw_X12_ahead :: gw) RX12) : ∀ (xl0 : Int) (zl1 : Int32) (zl2 : Int32) (zl3 : Int32) (M : Mm) (H : Heap) (locs : List Loc) (ls : Array Slot), Wd D G S M H → va_S (aG G) s.heap H locs → lv_has ls 5 [(0, .ref (adr G xl0)), (1, .int zl1), (2, .int zl2), (3, .int zl3)] → wp_X12_ahead_48 S post xl0 zl1.toInt zl2.toInt zl3.toInt  M → W p l e RM_X12_ahead s m args below meth c H locs 0 0 (MQ below (QI D G S post) args s 0 0 (aG G)) (F0 m 48 ls []) := by
  obtain ⟨hx, hb, hr, hlocks, hml, hown, hts, hK⟩ := id C
  intro xl0 zl1 zl2 zl3 M H locs ls hP hS hl h
  unfold wp_X12_ahead_48 at h
  refine lv_aload_n hx hb dX12_ahead_48 rfl (lv_at hl 0 rfl) ?_
  refine q_Vv hx hb hml hown hts hK hP hS (c_X12_keeps l D G S _ xl0 _ h.2) ⟨callB_of 0 hts (gw_good kw_1805) rfl rfl rfl (hts _ (List.mem_cons_of_mem _ kw_14)) (hts _ (List.mem_cons_of_mem _ kw_1802)) hd_X12_keeps ⟨Nat.le_of_ble_eq_true rfl, Nat.le_of_ble_eq_true rfl⟩, (hts _ (List.mem_cons_of_mem _ kw_1804)), (hts _ (List.mem_cons_of_mem _ kp_114))⟩ h.1 (ci := 12) rfl (by decide) rfl hl.1 rfl (lv_room (Nat.le_of_ble_eq_true rfl)) dX12_ahead_49 ⟨Nat.zero_le _, Nat.zero_le _⟩ (fun M28 H locs h hP hS => ?_)
  refine r_iconst hx hb dX12_ahead_52 (by decide) h (fun z30 h => ?_)
  refine lv_istore (lv' := [(4, .int z30), (0, .ref (adr G xl0)), (1, .int zl1), (2, .int zl2), (3, .int zl3)]) hx hb dX12_ahead_53 hl (by decide) rfl (fun ls hl => ?_)
  obtain ⟨n9, h⟩ := h
  exact t_X12_ahead_55 C n9 xl0 zl1 zl2 zl3 z30 _ _ _ _ hP hS (lv_sub hl [1, 2, 3, 4, 0] rfl) h
set_option maxHeartbeats 4000000 in
set_option maxRecDepth 100000 in
theorem c_X12_ahead (l : Launch) (D : va_G) (G : Gt) (S : Sh) (M : Mm) (xl0 : Int) (zl1 : Int32) (zl2 : Int32) (zl3 : Int32) (post : Int → Mm → Prop) (h : wp_X12_ahead S M xl0 zl1.toInt zl2.toInt zl3.toInt post) : Met l yX12_ahead (cw_X12_ahead :: gw) RM_X12_ahead (va_Pc [.ref (adr G xl0), .int zl1, .int zl2, .int zl3] (fun U => KN D G U ∧ Wd D G S M U.heap)) (QI D G S post) 0 0 (aG G) := by
  refine Met.ofW (cc := cX12_ahead) (maxL := 5) (ret := (some .int)) (by decide) rfl ?_
  intro p e s m args below meth c s₁ B hml hv
  obtain ⟨rfl, hK, hP⟩ := hv
  have hx := B.exec
  have hb := B.bytes
  have hr := B.returns
  have hts := atoms_spec (ws := cw_X12_ahead :: gw) B.pre
  have hown : s.vm.findClass RX12 = some m.cls := findClass_of_methodNamed B.named
  have hlocks := B.notSynchronized
  have hS : va_S (aG G) s.heap s.heap [] := va_S.rf
  have C : Cx p s m ([.ref (adr G xl0), .int zl1, .int zl2, .int zl3] : List Value).toArray meth c D G cX12_ahead 5 (some .int) (cw_X12_ahead :: gw) RX12 := ⟨hx, hb, hr, hlocks, hml, hown, hts, hK⟩
  have hl := lv_entry ([.ref (adr G xl0), .int zl1, .int zl2, .int zl3]) (n := 5) (Nat.le_of_ble_eq_true rfl)
  rw [lg_entry_eq]
  generalize (lg_sl ([.ref (adr G xl0), .int zl1, .int zl2, .int zl3]) ++ List.replicate (5 - (lg_sl ([.ref (adr G xl0), .int zl1, .int zl2, .int zl3])).length) Slot.unset).toArray = ls at hl ⊢
  have hl : lv_has ls 5 [(0, .ref (adr G xl0)), (1, .int zl1), (2, .int zl2), (3, .int zl3)] := hl
  unfold wp_X12_ahead at h
  refine lv_iload_n hx hb dX12_ahead_0 rfl (lv_at hl 2 rfl) ?_
  refine r_i2l hx hb dX12_ahead_1 h (fun z32 h => ?_)
  refine r_lconst hx hb dX12_ahead_2 (v := 0) (by decide) h (fun z34 h => ?_)
  refine r_ldc2 hx hb hown (hts _ (List.mem_cons_of_mem _ kw_1801)) dX12_ahead_3 (n := 100) (by decide) h (fun z36 h => ?_)
  refine q_Si hx hb hml hown hts hK hP hS (c_X12_in l D G S _ z32 z34 z36 _ h) ⟨callB_of 3 hts (gw_good kw_1523) rfl rfl rfl (hts _ (List.mem_cons_of_mem _ kw_14)) (hts _ (List.mem_cons_of_mem _ kw_1521)) hd_X12_in ⟨Nat.le_of_ble_eq_true rfl, Nat.le_of_ble_eq_true rfl⟩, (hts _ (List.mem_cons_of_mem _ kw_1522))⟩ rfl hl.1 rfl (lv_room (Nat.le_of_ble_eq_true rfl)) dX12_ahead_6 ⟨Nat.zero_le _, Nat.zero_le _⟩ (fun z39 M37 H locs h hP hS => ?_)
  refine r_if_eq (tgt := 45) hx hb dX12_ahead_9 (by decide) h (fun h => ?_) (fun h => ?_)
  · refine r_bipush hx hb dX12_ahead_45 (by decide) h (fun z41 h => ?_)
    exact r_iret hx hb hr hlocks hP hS dX12_ahead_47 h
  · refine lv_iload_n hx hb dX12_ahead_12 rfl (lv_at hl 3 rfl) ?_
    refine r_i2l hx hb dX12_ahead_13 h (fun z43 h => ?_)
    refine r_lconst hx hb dX12_ahead_14 (v := 0) (by decide) h (fun z45 h => ?_)
    refine r_lconst hx hb dX12_ahead_15 (v := 1) (by decide) h (fun z47 h => ?_)
    refine q_Si hx hb hml hown hts hK hP hS (c_X12_in l D G S _ z43 z45 z47 _ h) ⟨callB_of 3 hts (gw_good kw_1523) rfl rfl rfl (hts _ (List.mem_cons_of_mem _ kw_14)) (hts _ (List.mem_cons_of_mem _ kw_1521)) hd_X12_in ⟨Nat.le_of_ble_eq_true rfl, Nat.le_of_ble_eq_true rfl⟩, (hts _ (List.mem_cons_of_mem _ kw_1522))⟩ rfl hl.1 rfl (lv_room (Nat.le_of_ble_eq_true rfl)) dX12_ahead_16 ⟨Nat.zero_le _, Nat.zero_le _⟩ (fun z50 M48 H locs h hP hS => ?_)
    refine r_if_eq (tgt := 45) hx hb dX12_ahead_19 (by decide) h (fun h => ?_) (fun h => ?_)
    · refine r_bipush hx hb dX12_ahead_45 (by decide) h (fun z52 h => ?_)
      exact r_iret hx hb hr hlocks hP hS dX12_ahead_47 h
    · refine lv_iload_n hx hb dX12_ahead_22 rfl (lv_at hl 3 rfl) ?_
      refine r_if_ne (tgt := 37) hx hb dX12_ahead_23 (by decide) h (fun h => ?_) (fun h => ?_)
      · refine lv_aload_n hx hb dX12_ahead_37 rfl (lv_at hl 0 rfl) ?_
        refine lv_iload_n hx hb dX12_ahead_38 rfl (lv_at hl 1 rfl) ?_
        refine q_Vi hx hb hml hown hts hK hP hS (c_X12_isHand l D G S _ xl0 zl1 _ h.2) ⟨callB_of 1 hts (gw_good kw_1645) rfl rfl rfl (hts _ (List.mem_cons_of_mem _ kw_14)) (hts _ (List.mem_cons_of_mem _ kw_1642)) hd_X12_isHand ⟨Nat.le_of_ble_eq_true rfl, Nat.le_of_ble_eq_true rfl⟩, (hts _ (List.mem_cons_of_mem _ kw_1644)), (hts _ (List.mem_cons_of_mem _ kp_87))⟩ h.1 (ci := 12) rfl (by decide) rfl hl.1 rfl (lv_room (Nat.le_of_ble_eq_true rfl)) dX12_ahead_39 ⟨Nat.zero_le _, Nat.zero_le _⟩ (fun z55 M53 H locs h hP hS => ?_)
        refine r_if_ne (tgt := 48) hx hb dX12_ahead_42 (by decide) h (fun h => ?_) (fun h => ?_)
        · exact t_X12_ahead_48 C xl0 zl1 zl2 zl3 _ _ _ _ hP hS (lv_sub hl [0, 1, 2, 3] rfl) h
        · refine r_bipush hx hb dX12_ahead_45 (by decide) h (fun z57 h => ?_)
          exact r_iret hx hb hr hlocks hP hS dX12_ahead_47 h
      · refine lv_aload_n hx hb dX12_ahead_26 rfl (lv_at hl 0 rfl) ?_
        refine lv_iload_n hx hb dX12_ahead_27 rfl (lv_at hl 1 rfl) ?_
        refine q_Vi hx hb hml hown hts hK hP hS (c_X12_isJug l D G S _ xl0 zl1 _ h.2) ⟨callB_of 1 hts (gw_good kw_1666) rfl rfl rfl (hts _ (List.mem_cons_of_mem _ kw_14)) (hts _ (List.mem_cons_of_mem _ kw_1663)) hd_X12_isJug ⟨Nat.le_of_ble_eq_true rfl, Nat.le_of_ble_eq_true rfl⟩, (hts _ (List.mem_cons_of_mem _ kw_1665)), (hts _ (List.mem_cons_of_mem _ kp_91))⟩ h.1 (ci := 12) rfl (by decide) rfl hl.1 rfl (lv_room (Nat.le_of_ble_eq_true rfl)) dX12_ahead_28 ⟨Nat.zero_le _, Nat.zero_le _⟩ (fun z60 M58 H locs h hP hS => ?_)
        refine r_if_ne (tgt := 48) hx hb dX12_ahead_31 (by decide) h (fun h => ?_) (fun h => ?_)
        · exact t_X12_ahead_48 C xl0 zl1 zl2 zl3 _ _ _ _ hP hS (lv_sub hl [0, 1, 2, 3] rfl) h
        · refine lv_goto (tgt := 45) hx hb dX12_ahead_34 (by decide) ?_
          refine r_bipush hx hb dX12_ahead_45 (by decide) h (fun z62 h => ?_)
          exact r_iret hx hb hr hlocks hP hS dX12_ahead_47 h
/-! TurningMilkModel.fillsHours(I)V -/
abbrev RM_X12_fillsHours : Room := { frames := 2, cells := 0, slots := 0, locals := 64 }
def cw_X12_fillsHours : Cond := Cond.code yX12_fillsHours cX12_fillsHours 6 (Option.none : Option FieldType)
theorem hd_X12_fillsHours : yX12_fillsHours.cls ≠ "java/lang/invoke/MethodHandle" ∧ yX12_fillsHours.cls ≠ "java/lang/invoke/VarHandle" ∧ (parseMethodDescriptor yX12_fillsHours.desc).map (fun d => d.parameters.length) = some 1 := by decide +kernel
theorem dX12_fillsHours_0 : decode cX12_fillsHours 0 = .ok (.iconst 0, 1) := by decide +kernel
theorem dX12_fillsHours_1 : decode cX12_fillsHours 1 = .ok (.istore_n 2, 1) := by decide +kernel
theorem dX12_fillsHours_2 : decode cX12_fillsHours 2 = .ok (.iload_n 2, 1) := by decide +kernel
theorem dX12_fillsHours_3 : decode cX12_fillsHours 3 = .ok (.aload_n 0, 1) := by decide +kernel
theorem dX12_fillsHours_4 : decode cX12_fillsHours 4 = .ok (.getfield 39, 3) := by decide +kernel
theorem dX12_fillsHours_7 : decode cX12_fillsHours 7 = .ok (.iconst 0, 1) := by decide +kernel
theorem dX12_fillsHours_8 : decode cX12_fillsHours 8 = .ok (.iaload, 1) := by decide +kernel
theorem dX12_fillsHours_9 : decode cX12_fillsHours 9 = .ok (.if_icmp .ge 26, 3) := by decide +kernel
theorem dX12_fillsHours_12 : decode cX12_fillsHours 12 = .ok (.aload_n 0, 1) := by decide +kernel
theorem dX12_fillsHours_13 : decode cX12_fillsHours 13 = .ok (.getfield 52, 3) := by decide +kernel
theorem dX12_fillsHours_16 : decode cX12_fillsHours 16 = .ok (.iload_n 2, 1) := by decide +kernel
theorem dX12_fillsHours_17 : decode cX12_fillsHours 17 = .ok (.iload_n 2, 1) := by decide +kernel
theorem dX12_fillsHours_18 : decode cX12_fillsHours 18 = .ok (.iload_n 1, 1) := by decide +kernel
theorem dX12_fillsHours_19 : decode cX12_fillsHours 19 = .ok (.if_icmp .ne 7, 3) := by decide +kernel
theorem dX12_fillsHours_22 : decode cX12_fillsHours 22 = .ok (.iconst 0, 1) := by decide +kernel
theorem dX12_fillsHours_23 : decode cX12_fillsHours 23 = .ok (.goto 5, 3) := by decide +kernel
theorem dX12_fillsHours_26 : decode cX12_fillsHours 26 = .ok (.bipush 99, 2) := by decide +kernel
theorem dX12_fillsHours_28 : decode cX12_fillsHours 28 = .ok (.iastore, 1) := by decide +kernel
theorem dX12_fillsHours_29 : decode cX12_fillsHours 29 = .ok (.iinc 2 1, 3) := by decide +kernel
theorem dX12_fillsHours_32 : decode cX12_fillsHours 32 = .ok (.goto (-30), 3) := by decide +kernel
theorem dX12_fillsHours_35 : decode cX12_fillsHours 35 = .ok (.iconst 1, 1) := by decide +kernel
theorem dX12_fillsHours_36 : decode cX12_fillsHours 36 = .ok (.istore_n 2, 1) := by decide +kernel
theorem dX12_fillsHours_37 : decode cX12_fillsHours 37 = .ok (.iload_n 2, 1) := by decide +kernel
theorem dX12_fillsHours_38 : decode cX12_fillsHours 38 = .ok (.ifCond .eq 100, 3) := by decide +kernel
theorem dX12_fillsHours_41 : decode cX12_fillsHours 41 = .ok (.iconst 0, 1) := by decide +kernel
theorem dX12_fillsHours_42 : decode cX12_fillsHours 42 = .ok (.istore_n 2, 1) := by decide +kernel
theorem dX12_fillsHours_43 : decode cX12_fillsHours 43 = .ok (.iconst 0, 1) := by decide +kernel
theorem dX12_fillsHours_44 : decode cX12_fillsHours 44 = .ok (.istore_n 3, 1) := by decide +kernel
theorem dX12_fillsHours_45 : decode cX12_fillsHours 45 = .ok (.iload_n 3, 1) := by decide +kernel
theorem dX12_fillsHours_46 : decode cX12_fillsHours 46 = .ok (.aload_n 0, 1) := by decide +kernel
theorem dX12_fillsHours_47 : decode cX12_fillsHours 47 = .ok (.getfield 39, 3) := by decide +kernel
theorem dX12_fillsHours_50 : decode cX12_fillsHours 50 = .ok (.iconst 0, 1) := by decide +kernel
theorem dX12_fillsHours_51 : decode cX12_fillsHours 51 = .ok (.iaload, 1) := by decide +kernel
theorem dX12_fillsHours_52 : decode cX12_fillsHours 52 = .ok (.if_icmp .ge 83, 3) := by decide +kernel
theorem dX12_fillsHours_55 : decode cX12_fillsHours 55 = .ok (.iconst 0, 1) := by decide +kernel
theorem dX12_fillsHours_56 : decode cX12_fillsHours 56 = .ok (.istore 4, 2) := by decide +kernel
theorem dX12_fillsHours_58 : decode cX12_fillsHours 58 = .ok (.iload 4, 2) := by decide +kernel
theorem dX12_fillsHours_60 : decode cX12_fillsHours 60 = .ok (.aload_n 0, 1) := by decide +kernel
theorem dX12_fillsHours_61 : decode cX12_fillsHours 61 = .ok (.getfield 39, 3) := by decide +kernel
theorem dX12_fillsHours_64 : decode cX12_fillsHours 64 = .ok (.iconst 0, 1) := by decide +kernel
theorem dX12_fillsHours_65 : decode cX12_fillsHours 65 = .ok (.iaload, 1) := by decide +kernel
theorem dX12_fillsHours_66 : decode cX12_fillsHours 66 = .ok (.if_icmp .ge 63, 3) := by decide +kernel
theorem dX12_fillsHours_69 : decode cX12_fillsHours 69 = .ok (.aload_n 0, 1) := by decide +kernel
theorem dX12_fillsHours_70 : decode cX12_fillsHours 70 = .ok (.iload_n 3, 1) := by decide +kernel
theorem dX12_fillsHours_71 : decode cX12_fillsHours 71 = .ok (.iload 4, 2) := by decide +kernel
theorem dX12_fillsHours_73 : decode cX12_fillsHours 73 = .ok (.invokevirtual 368, 3) := by decide +kernel
theorem dX12_fillsHours_76 : decode cX12_fillsHours 76 = .ok (.istore 5, 2) := by decide +kernel
theorem dX12_fillsHours_78 : decode cX12_fillsHours 78 = .ok (.iload 5, 2) := by decide +kernel
theorem dX12_fillsHours_80 : decode cX12_fillsHours 80 = .ok (.ifCond .eq 43, 3) := by decide +kernel
theorem dX12_fillsHours_83 : decode cX12_fillsHours 83 = .ok (.aload_n 0, 1) := by decide +kernel
theorem dX12_fillsHours_84 : decode cX12_fillsHours 84 = .ok (.getfield 52, 3) := by decide +kernel
theorem dX12_fillsHours_87 : decode cX12_fillsHours 87 = .ok (.iload 4, 2) := by decide +kernel
theorem dX12_fillsHours_89 : decode cX12_fillsHours 89 = .ok (.iaload, 1) := by decide +kernel
theorem dX12_fillsHours_90 : decode cX12_fillsHours 90 = .ok (.iload 5, 2) := by decide +kernel
theorem dX12_fillsHours_92 : decode cX12_fillsHours 92 = .ok (.iadd, 1) := by decide +kernel
theorem dX12_fillsHours_93 : decode cX12_fillsHours 93 = .ok (.aload_n 0, 1) := by decide +kernel
theorem dX12_fillsHours_94 : decode cX12_fillsHours 94 = .ok (.getfield 52, 3) := by decide +kernel
theorem dX12_fillsHours_97 : decode cX12_fillsHours 97 = .ok (.iload_n 3, 1) := by decide +kernel
theorem dX12_fillsHours_98 : decode cX12_fillsHours 98 = .ok (.iaload, 1) := by decide +kernel
theorem dX12_fillsHours_99 : decode cX12_fillsHours 99 = .ok (.if_icmp .lt 6, 3) := by decide +kernel
theorem dX12_fillsHours_102 : decode cX12_fillsHours 102 = .ok (.goto 21, 3) := by decide +kernel
theorem dX12_fillsHours_105 : decode cX12_fillsHours 105 = .ok (.aload_n 0, 1) := by decide +kernel
theorem dX12_fillsHours_106 : decode cX12_fillsHours 106 = .ok (.getfield 52, 3) := by decide +kernel
theorem dX12_fillsHours_109 : decode cX12_fillsHours 109 = .ok (.iload_n 3, 1) := by decide +kernel
theorem dX12_fillsHours_110 : decode cX12_fillsHours 110 = .ok (.aload_n 0, 1) := by decide +kernel
theorem dX12_fillsHours_111 : decode cX12_fillsHours 111 = .ok (.getfield 52, 3) := by decide +kernel
theorem dX12_fillsHours_114 : decode cX12_fillsHours 114 = .ok (.iload 4, 2) := by decide +kernel
theorem dX12_fillsHours_116 : decode cX12_fillsHours 116 = .ok (.iaload, 1) := by decide +kernel
theorem dX12_fillsHours_117 : decode cX12_fillsHours 117 = .ok (.iload 5, 2) := by decide +kernel
theorem dX12_fillsHours_119 : decode cX12_fillsHours 119 = .ok (.iadd, 1) := by decide +kernel
theorem dX12_fillsHours_120 : decode cX12_fillsHours 120 = .ok (.iastore, 1) := by decide +kernel
theorem dX12_fillsHours_121 : decode cX12_fillsHours 121 = .ok (.iconst 1, 1) := by decide +kernel
theorem dX12_fillsHours_122 : decode cX12_fillsHours 122 = .ok (.istore_n 2, 1) := by decide +kernel
theorem dX12_fillsHours_123 : decode cX12_fillsHours 123 = .ok (.iinc 4 1, 3) := by decide +kernel
theorem dX12_fillsHours_126 : decode cX12_fillsHours 126 = .ok (.goto (-68), 3) := by decide +kernel
theorem dX12_fillsHours_129 : decode cX12_fillsHours 129 = .ok (.iinc 3 1, 3) := by decide +kernel
theorem dX12_fillsHours_132 : decode cX12_fillsHours 132 = .ok (.goto (-87), 3) := by decide +kernel
theorem dX12_fillsHours_135 : decode cX12_fillsHours 135 = .ok (.goto (-98), 3) := by decide +kernel
theorem dX12_fillsHours_138 : decode cX12_fillsHours 138 = .ok (.return_, 1) := by decide +kernel
def wp_X12_fillsHours_123 (S : Sh) (k37 : Int → Int → Mm → Prop) (k45 : Int → Int → Int → Mm → Prop) (k58 : Int → Int → Int → Int → Mm → Prop) (post : Mm → Prop) (u0 : Int) (u2 : Int) (u3 : Int) (u4 : Int) (M : Mm) : Prop := wA u4 1 fun v1 => k58 u0 u2 u3 v1 M
def wp_X12_fillsHours_58 (S : Sh) (k37 : Int → Int → Mm → Prop) (k45 : Int → Int → Int → Mm → Prop) (post : Mm → Prop) : Nat → Int → Int → Int → Int → Mm → Prop
  | 0, _, _, _, _, _ => False
  | n + 1, u0, u2, u3, u4, M => wGetR S M u0 12 20 fun v3 => wC 0 fun v5 => wLd S M v3 14 v5 fun v7 => wIf (v7 ≤ u4) (wA u3 1 fun v9 => k45 u0 u2 v9 M) (isK S u0 12 ∧ (wp_X12_roadOf S M u0 u3 u4 <| fun v12 M11 => wIf (v12 = 0) (wp_X12_fillsHours_123 S k37 k45 (fun a0 a1 a2 a3 M => wp_X12_fillsHours_58 S k37 k45 post n a0 a1 a2 a3 M) post u0 u2 u3 u4 M11) (wGetR S M11 u0 12 27 fun v14 => wLd S M11 v14 14 u4 fun v16 => wA v16 v12 fun v18 => wGetR S M11 u0 12 27 fun v20 => wLd S M11 v20 14 u3 fun v22 => wIf (v18 < v22) (wGetR S M11 u0 12 27 fun v24 => wGetR S M11 u0 12 27 fun v26 => wLd S M11 v26 14 u4 fun v28 => wA v28 v12 fun v30 => wSt S M11 v24 14 u3 v30 fun M32 => wC 1 fun v33 => wp_X12_fillsHours_123 S k37 k45 (fun a0 a1 a2 a3 M => wp_X12_fillsHours_58 S k37 k45 post n a0 a1 a2 a3 M) post u0 v33 u3 u4 M32) (wp_X12_fillsHours_123 S k37 k45 (fun a0 a1 a2 a3 M => wp_X12_fillsHours_58 S k37 k45 post n a0 a1 a2 a3 M) post u0 u2 u3 u4 M11))))
def wp_X12_fillsHours_45 (S : Sh) (k37 : Int → Int → Mm → Prop) (post : Mm → Prop) : Nat → Int → Int → Int → Mm → Prop
  | 0, _, _, _, _ => False
  | n + 1, u0, u2, u3, M => wGetR S M u0 12 20 fun v35 => wC 0 fun v37 => wLd S M v35 14 v37 fun v39 => wIf (v39 ≤ u3) (k37 u0 u2 M) (wC 0 fun v41 => ∃ n9 : Nat, wp_X12_fillsHours_58 S k37 (fun a0 a1 a2 M => wp_X12_fillsHours_45 S k37 post n a0 a1 a2 M) post n9 u0 u2 u3 v41 M)
def wp_X12_fillsHours_37 (S : Sh) (post : Mm → Prop) : Nat → Int → Int → Mm → Prop
  | 0, _, _, _ => False
  | n + 1, u0, u2, M => wIf (u2 = 0) (post M) (wC 0 fun v43 => wC 0 fun v45 => ∃ n9 : Nat, wp_X12_fillsHours_45 S (fun a0 a1 M => wp_X12_fillsHours_37 S post n a0 a1 M) post n9 u0 v43 v45 M)
def wp_X12_fillsHours_28 (S : Sh) (k2 : Int → Int → Int → Mm → Prop) (post : Mm → Prop) (u0 : Int) (u1 : Int) (u2 : Int) (t0 : Int) (t1 : Int) (t2 : Int) (M : Mm) : Prop := wSt S M t0 14 t1 t2 fun M47 => wA u2 1 fun v48 => k2 u0 u1 v48 M47
def wp_X12_fillsHours_2 (S : Sh) (post : Mm → Prop) : Nat → Int → Int → Int → Mm → Prop
  | 0, _, _, _, _ => False
  | n + 1, u0, u1, u2, M => wGetR S M u0 12 20 fun v50 => wC 0 fun v52 => wLd S M v50 14 v52 fun v54 => wIf (v54 ≤ u2) (wC 1 fun v56 => ∃ n9 : Nat, wp_X12_fillsHours_37 S post n9 u0 v56 M) (wGetR S M u0 12 27 fun v58 => wIf (¬ u2 = u1) (wC 99 fun v60 => wp_X12_fillsHours_28 S (fun a0 a1 a2 M => wp_X12_fillsHours_2 S post n a0 a1 a2 M) post u0 u1 u2 v58 u2 v60 M) (wC 0 fun v62 => wp_X12_fillsHours_28 S (fun a0 a1 a2 M => wp_X12_fillsHours_2 S post n a0 a1 a2 M) post u0 u1 u2 v58 u2 v62 M))
def wp_X12_fillsHours (S : Sh) (M : Mm) (u0 : Int) (u1 : Int) (post : Mm → Prop) : Prop := wC 0 fun v64 => ∃ n9 : Nat, wp_X12_fillsHours_2 S post n9 u0 u1 v64 M
set_option maxHeartbeats 4000000 in
set_option maxRecDepth 100000 in
theorem t_X12_fillsHours_123 {p : Program} {l : Launch} {e : Env} {s : State} {m : MethodId} {args : Array Value} {below : List Frame} {meth : Method} {c : Code} {D : va_G} {G : Gt} {S : Sh} {post : Mm → Prop} {k37 : Int → Int → Mm → Prop} {k45 : Int → Int → Int → Mm → Prop} {k58 : Int → Int → Int → Int → Mm → Prop} (C : Cx p s m args meth c D G cX12_fillsHours 6 none (cw_X12_fillsHours :: gw) RX12) (hk37 : ∀ (y0 : Int) (y2 : Int32) (M : Mm) (H : Heap) (locs : List Loc) (ls : Array Slot), Wd D G S M H → va_S (aG G) s.heap H locs → lv_has ls 6 [(0, .ref (adr G y0)), (2, .int y2)] → k37 y0 y2.toInt M → W p l e RM_X12_fillsHours s m args below meth c H locs 0 0 (MQ below (QV D G S post) args s 0 0 (aG G)) (F0 m 37 ls [])) (hk45 : ∀ (y0 : Int) (y2 : Int32) (y3 : Int32) (M : Mm) (H : Heap) (locs : List Loc) (ls : Array Slot), Wd D G S M H → va_S (aG G) s.heap H locs → lv_has ls 6 [(0, .ref (adr G y0)), (2, .int y2), (3, .int y3)] → k45 y0 y2.toInt y3.toInt M → W p l e RM_X12_fillsHours s m args below meth c H locs 0 0 (MQ below (QV D G S post) args s 0 0 (aG G)) (F0 m 45 ls [])) (hk58 : ∀ (y0 : Int) (y2 : Int32) (y3 : Int32) (y4 : Int32) (M : Mm) (H : Heap) (locs : List Loc) (ls : Array Slot), Wd D G S M H → va_S (aG G) s.heap H locs → lv_has ls 6 [(0, .ref (adr G y0)), (2, .int y2), (3, .int y3), (4, .int y4)] → k58 y0 y2.toInt y3.toInt y4.toInt M → W p l e RM_X12_fillsHours s m args below meth c H locs 0 0 (MQ below (QV D G S post) args s 0 0 (aG G)) (F0 m 58 ls [])) : ∀ (xl0 : Int) (zl2 : Int32) (zl3 : Int32) (zl4 : Int32) (M : Mm) (H : Heap) (locs : List Loc) (ls : Array Slot), Wd D G S M H → va_S (aG G) s.heap H locs → lv_has ls 6 [(0, .ref (adr G xl0)), (2, .int zl2), (3, .int zl3), (4, .int zl4)] → wp_X12_fillsHours_123 S k37 k45 k58 post xl0 zl2.toInt zl3.toInt zl4.toInt  M → W p l e RM_X12_fillsHours s m args below meth c H locs 0 0 (MQ below (QV D G S post) args s 0 0 (aG G)) (F0 m 123 ls []) := by
  obtain ⟨hx, hb, hr, hlocks, hml, hown, hts, hK⟩ := id C
  intro xl0 zl2 zl3 zl4 M H locs ls hP hS hl h
  unfold wp_X12_fillsHours_123 at h
  refine r_iinc hx hb (fun z2 => [(4, .int z2), (0, .ref (adr G xl0)), (2, .int zl2), (3, .int zl3)]) dX12_fillsHours_123 (by decide) hl (k := 3) rfl (by decide) (fun _ => rfl) h (fun z2 ls hl h => ?_)
  refine lv_goto (tgt := 58) hx hb dX12_fillsHours_126 (by decide) ?_
  exact hk58 xl0 zl2 zl3 z2 _ _ _ _ hP hS (lv_sub hl [1, 2, 3, 0] rfl) h
set_option maxHeartbeats 4000000 in
set_option maxRecDepth 100000 in
theorem t_X12_fillsHours_58 {p : Program} {l : Launch} {e : Env} {s : State} {m : MethodId} {args : Array Value} {below : List Frame} {meth : Method} {c : Code} {D : va_G} {G : Gt} {S : Sh} {post : Mm → Prop} {k37 : Int → Int → Mm → Prop} {k45 : Int → Int → Int → Mm → Prop} (C : Cx p s m args meth c D G cX12_fillsHours 6 none (cw_X12_fillsHours :: gw) RX12) (hk37 : ∀ (y0 : Int) (y2 : Int32) (M : Mm) (H : Heap) (locs : List Loc) (ls : Array Slot), Wd D G S M H → va_S (aG G) s.heap H locs → lv_has ls 6 [(0, .ref (adr G y0)), (2, .int y2)] → k37 y0 y2.toInt M → W p l e RM_X12_fillsHours s m args below meth c H locs 0 0 (MQ below (QV D G S post) args s 0 0 (aG G)) (F0 m 37 ls [])) (hk45 : ∀ (y0 : Int) (y2 : Int32) (y3 : Int32) (M : Mm) (H : Heap) (locs : List Loc) (ls : Array Slot), Wd D G S M H → va_S (aG G) s.heap H locs → lv_has ls 6 [(0, .ref (adr G y0)), (2, .int y2), (3, .int y3)] → k45 y0 y2.toInt y3.toInt M → W p l e RM_X12_fillsHours s m args below meth c H locs 0 0 (MQ below (QV D G S post) args s 0 0 (aG G)) (F0 m 45 ls [])) : ∀ (n : Nat) (xl0 : Int) (zl2 : Int32) (zl3 : Int32) (zl4 : Int32) (M : Mm) (H : Heap) (locs : List Loc) (ls : Array Slot), Wd D G S M H → va_S (aG G) s.heap H locs → lv_has ls 6 [(0, .ref (adr G xl0)), (2, .int zl2), (3, .int zl3), (4, .int zl4)] → wp_X12_fillsHours_58 S k37 k45 post n xl0 zl2.toInt zl3.toInt zl4.toInt  M → W p l e RM_X12_fillsHours s m args below meth c H locs 0 0 (MQ below (QV D G S post) args s 0 0 (aG G)) (F0 m 58 ls []) := by
  obtain ⟨hx, hb, hr, hlocks, hml, hown, hts, hK⟩ := id C
  intro n
  induction n with
  | zero => intro xl0 zl2 zl3 zl4 M H locs ls hP hS hl h; exact h.elim
  | succ n ih =>
    intro xl0 zl2 zl3 zl4 M H locs ls hP hS hl h
    unfold wp_X12_fillsHours_58 at h
    refine lv_iload hx hb dX12_fillsHours_58 (lv_at hl 3 rfl) ?_
    refine lv_aload_n hx hb dX12_fillsHours_60 rfl (lv_at hl 0 rfl) ?_
    refine r_getr (C := RX12) (T := TX12) (N := 38) hx hb hts (fun w h => List.mem_cons_of_mem _ (iX12 w h)) hown hK hP rfl (by decide) rfl 20 (by decide) (hts _ (List.mem_cons_of_mem _ kw_1354)) (fun _ h9 => h9) dX12_fillsHours_61 (by decide) h (fun x4 h => ?_)
    refine r_iconst hx hb dX12_fillsHours_64 (by decide) h (fun z6 h => ?_)
    refine r_iald hx hb hK hP dX12_fillsHours_65 h (fun z8 h => ?_)
    refine r_icmp_ge (tgt := 129) hx hb dX12_fillsHours_66 (by decide) h (fun h => ?_) (fun h => ?_)
    · refine r_iinc hx hb (fun z10 => [(3, .int z10), (0, .ref (adr G xl0)), (2, .int zl2), (4, .int zl4)]) dX12_fillsHours_129 (by decide) hl (k := 2) rfl (by decide) (fun _ => rfl) h (fun z10 ls hl h => ?_)
      refine lv_goto (tgt := 45) hx hb dX12_fillsHours_132 (by decide) ?_
      exact hk45 xl0 zl2 z10 _ _ _ _ hP hS (lv_sub hl [1, 2, 0] rfl) h
    · refine lv_aload_n hx hb dX12_fillsHours_69 rfl (lv_at hl 0 rfl) ?_
      refine lv_iload_n hx hb dX12_fillsHours_70 rfl (lv_at hl 2 rfl) ?_
      refine lv_iload hx hb dX12_fillsHours_71 (lv_at hl 3 rfl) ?_
      refine q_Vi hx hb hml hown hts hK hP hS (c_X12_roadOf l D G S _ xl0 zl3 zl4 _ h.2) ⟨callB_of 2 hts (gw_good kw_1788) rfl rfl rfl (hts _ (List.mem_cons_of_mem _ kw_14)) (hts _ (List.mem_cons_of_mem _ kw_1785)) hd_X12_roadOf ⟨Nat.le_of_ble_eq_true rfl, Nat.le_of_ble_eq_true rfl⟩, (hts _ (List.mem_cons_of_mem _ kw_1787)), (hts _ (List.mem_cons_of_mem _ kp_112))⟩ h.1 (ci := 12) rfl (by decide) rfl hl.1 rfl (lv_room (Nat.le_of_ble_eq_true rfl)) dX12_fillsHours_73 ⟨Nat.zero_le _, Nat.zero_le _⟩ (fun z13 M11 H locs h hP hS => ?_)
      refine lv_istore (lv' := [(5, .int z13), (0, .ref (adr G xl0)), (2, .int zl2), (3, .int zl3), (4, .int zl4)]) hx hb dX12_fillsHours_76 hl (by decide) rfl (fun ls hl => ?_)
      refine lv_iload hx hb dX12_fillsHours_78 (lv_at hl 0 rfl) ?_
      refine r_if_eq (tgt := 123) hx hb dX12_fillsHours_80 (by decide) h (fun h => ?_) (fun h => ?_)
      · exact t_X12_fillsHours_123 C hk37 hk45 ih xl0 zl2 zl3 zl4 _ _ _ _ hP hS (lv_sub hl [1, 2, 3, 4] rfl) h
      · refine lv_aload_n hx hb dX12_fillsHours_83 rfl (lv_at hl 1 rfl) ?_
        refine r_getr (C := RX12) (T := TX12) (N := 38) hx hb hts (fun w h => List.mem_cons_of_mem _ (iX12 w h)) hown hK hP rfl (by decide) rfl 27 (by decide) (hts _ (List.mem_cons_of_mem _ kw_1361)) (fun _ h9 => h9) dX12_fillsHours_84 (by decide) h (fun x15 h => ?_)
        refine lv_iload hx hb dX12_fillsHours_87 (lv_at hl 4 rfl) ?_
        refine r_iald hx hb hK hP dX12_fillsHours_89 h (fun z17 h => ?_)
        refine lv_iload hx hb dX12_fillsHours_90 (lv_at hl 0 rfl) ?_
        refine r_iadd hx hb dX12_fillsHours_92 h (fun z19 h => ?_)
        refine lv_aload_n hx hb dX12_fillsHours_93 rfl (lv_at hl 1 rfl) ?_
        refine r_getr (C := RX12) (T := TX12) (N := 38) hx hb hts (fun w h => List.mem_cons_of_mem _ (iX12 w h)) hown hK hP rfl (by decide) rfl 27 (by decide) (hts _ (List.mem_cons_of_mem _ kw_1361)) (fun _ h9 => h9) dX12_fillsHours_94 (by decide) h (fun x21 h => ?_)
        refine lv_iload_n hx hb dX12_fillsHours_97 rfl (lv_at hl 3 rfl) ?_
        refine r_iald hx hb hK hP dX12_fillsHours_98 h (fun z23 h => ?_)
        refine r_icmp_lt (tgt := 105) hx hb dX12_fillsHours_99 (by decide) h (fun h => ?_) (fun h => ?_)
        · refine lv_aload_n hx hb dX12_fillsHours_105 rfl (lv_at hl 1 rfl) ?_
          refine r_getr (C := RX12) (T := TX12) (N := 38) hx hb hts (fun w h => List.mem_cons_of_mem _ (iX12 w h)) hown hK hP rfl (by decide) rfl 27 (by decide) (hts _ (List.mem_cons_of_mem _ kw_1361)) (fun _ h9 => h9) dX12_fillsHours_106 (by decide) h (fun x25 h => ?_)
          refine lv_iload_n hx hb dX12_fillsHours_109 rfl (lv_at hl 3 rfl) ?_
          refine lv_aload_n hx hb dX12_fillsHours_110 rfl (lv_at hl 1 rfl) ?_
          refine r_getr (C := RX12) (T := TX12) (N := 38) hx hb hts (fun w h => List.mem_cons_of_mem _ (iX12 w h)) hown hK hP rfl (by decide) rfl 27 (by decide) (hts _ (List.mem_cons_of_mem _ kw_1361)) (fun _ h9 => h9) dX12_fillsHours_111 (by decide) h (fun x27 h => ?_)
          refine lv_iload hx hb dX12_fillsHours_114 (lv_at hl 4 rfl) ?_
          refine r_iald hx hb hK hP dX12_fillsHours_116 h (fun z29 h => ?_)
          refine lv_iload hx hb dX12_fillsHours_117 (lv_at hl 0 rfl) ?_
          refine r_iadd hx hb dX12_fillsHours_119 h (fun z31 h => ?_)
          refine r_iast hx hb hK hP hS dX12_fillsHours_120 h (fun M32 H locs h hP hS => ?_)
          refine r_iconst hx hb dX12_fillsHours_121 (by decide) h (fun z34 h => ?_)
          refine lv_istore_n (lv' := [(2, .int z34), (5, .int z13), (0, .ref (adr G xl0)), (3, .int zl3), (4, .int zl4)]) hx hb dX12_fillsHours_122 rfl hl (by decide) rfl (fun ls hl => ?_)
          exact t_X12_fillsHours_123 C hk37 hk45 ih xl0 z34 zl3 zl4 _ _ _ _ hP hS (lv_sub hl [2, 0, 3, 4] rfl) h
        · refine lv_goto (tgt := 123) hx hb dX12_fillsHours_102 (by decide) ?_
          exact t_X12_fillsHours_123 C hk37 hk45 ih xl0 zl2 zl3 zl4 _ _ _ _ hP hS (lv_sub hl [1, 2, 3, 4] rfl) h
set_option maxHeartbeats 4000000 in
set_option maxRecDepth 100000 in
theorem t_X12_fillsHours_45 {p : Program} {l : Launch} {e : Env} {s : State} {m : MethodId} {args : Array Value} {below : List Frame} {meth : Method} {c : Code} {D : va_G} {G : Gt} {S : Sh} {post : Mm → Prop} {k37 : Int → Int → Mm → Prop} (C : Cx p s m args meth c D G cX12_fillsHours 6 none (cw_X12_fillsHours :: gw) RX12) (hk37 : ∀ (y0 : Int) (y2 : Int32) (M : Mm) (H : Heap) (locs : List Loc) (ls : Array Slot), Wd D G S M H → va_S (aG G) s.heap H locs → lv_has ls 6 [(0, .ref (adr G y0)), (2, .int y2)] → k37 y0 y2.toInt M → W p l e RM_X12_fillsHours s m args below meth c H locs 0 0 (MQ below (QV D G S post) args s 0 0 (aG G)) (F0 m 37 ls [])) : ∀ (n : Nat) (xl0 : Int) (zl2 : Int32) (zl3 : Int32) (M : Mm) (H : Heap) (locs : List Loc) (ls : Array Slot), Wd D G S M H → va_S (aG G) s.heap H locs → lv_has ls 6 [(0, .ref (adr G xl0)), (2, .int zl2), (3, .int zl3)] → wp_X12_fillsHours_45 S k37 post n xl0 zl2.toInt zl3.toInt  M → W p l e RM_X12_fillsHours s m args below meth c H locs 0 0 (MQ below (QV D G S post) args s 0 0 (aG G)) (F0 m 45 ls []) := by
  obtain ⟨hx, hb, hr, hlocks, hml, hown, hts, hK⟩ := id C
  intro n
  induction n with
  | zero => intro xl0 zl2 zl3 M H locs ls hP hS hl h; exact h.elim
  | succ n ih =>
    intro xl0 zl2 zl3 M H locs ls hP hS hl h
    unfold wp_X12_fillsHours_45 at h
    refine lv_iload_n hx hb dX12_fillsHours_45 rfl (lv_at hl 2 rfl) ?_
    refine lv_aload_n hx hb dX12_fillsHours_46 rfl (lv_at hl 0 rfl) ?_
    refine r_getr (C := RX12) (T := TX12) (N := 38) hx hb hts (fun w h => List.mem_cons_of_mem _ (iX12 w h)) hown hK hP rfl (by decide) rfl 20 (by decide) (hts _ (List.mem_cons_of_mem _ kw_1354)) (fun _ h9 => h9) dX12_fillsHours_47 (by decide) h (fun x36 h => ?_)
    refine r_iconst hx hb dX12_fillsHours_50 (by decide) h (fun z38 h => ?_)
    refine r_iald hx hb hK hP dX12_fillsHours_51 h (fun z40 h => ?_)
    refine r_icmp_ge (tgt := 135) hx hb dX12_fillsHours_52 (by decide) h (fun h => ?_) (fun h => ?_)
    · refine lv_goto (tgt := 37) hx hb dX12_fillsHours_135 (by decide) ?_
      exact hk37 xl0 zl2 _ _ _ _ hP hS (lv_sub hl [0, 1] rfl) h
    · refine r_iconst hx hb dX12_fillsHours_55 (by decide) h (fun z42 h => ?_)
      refine lv_istore (lv' := [(4, .int z42), (0, .ref (adr G xl0)), (2, .int zl2), (3, .int zl3)]) hx hb dX12_fillsHours_56 hl (by decide) rfl (fun ls hl => ?_)
      obtain ⟨n9, h⟩ := h
      exact t_X12_fillsHours_58 C hk37 ih n9 xl0 zl2 zl3 z42 _ _ _ _ hP hS (lv_sub hl [1, 2, 3, 0] rfl) h
set_option maxHeartbeats 4000000 in
set_option maxRecDepth 100000 in
theorem t_X12_fillsHours_37 {p : Program} {l : Launch} {e : Env} {s : State} {m : MethodId} {args : Array Value} {below : List Frame} {meth : Method} {c : Code} {D : va_G} {G : Gt} {S : Sh} {post : Mm → Prop} (C : Cx p s m args meth c D G cX12_fillsHours 6 none (cw_X12_fillsHours :: gw) RX12) : ∀ (n : Nat) (xl0 : Int) (zl2 : Int32) (M : Mm) (H : Heap) (locs : List Loc) (ls : Array Slot), Wd D G S M H → va_S (aG G) s.heap H locs → lv_has ls 6 [(0, .ref (adr G xl0)), (2, .int zl2)] → wp_X12_fillsHours_37 S post n xl0 zl2.toInt  M → W p l e RM_X12_fillsHours s m args below meth c H locs 0 0 (MQ below (QV D G S post) args s 0 0 (aG G)) (F0 m 37 ls []) := by
  obtain ⟨hx, hb, hr, hlocks, hml, hown, hts, hK⟩ := id C
  intro n
  induction n with
  | zero => intro xl0 zl2 M H locs ls hP hS hl h; exact h.elim
  | succ n ih =>
    intro xl0 zl2 M H locs ls hP hS hl h
    unfold wp_X12_fillsHours_37 at h
    refine lv_iload_n hx hb dX12_fillsHours_37 rfl (lv_at hl 1 rfl) ?_
    refine r_if_eq (tgt := 138) hx hb dX12_fillsHours_38 (by decide) h (fun h => ?_) (fun h => ?_)
    · exact r_vret hx hb hr hlocks hP hS dX12_fillsHours_138 h
    · refine r_iconst hx hb dX12_fillsHours_41 (by decide) h (fun z44 h => ?_)
      refine lv_istore_n (lv' := [(2, .int z44), (0, .ref (adr G xl0))]) hx hb dX12_fillsHours_42 rfl hl (by decide) rfl (fun ls hl => ?_)
      refine r_iconst hx hb dX12_fillsHours_43 (by decide) h (fun z46 h => ?_)
      refine lv_istore_n (lv' := [(3, .int z46), (2, .int z44), (0, .ref (adr G xl0))]) hx hb dX12_fillsHours_44 rfl hl (by decide) rfl (fun ls hl => ?_)
      obtain ⟨n9, h⟩ := h
      exact t_X12_fillsHours_45 C ih n9 xl0 z44 z46 _ _ _ _ hP hS (lv_sub hl [2, 1, 0] rfl) h
set_option maxHeartbeats 4000000 in
set_option maxRecDepth 100000 in
theorem t_X12_fillsHours_28 {p : Program} {l : Launch} {e : Env} {s : State} {m : MethodId} {args : Array Value} {below : List Frame} {meth : Method} {c : Code} {D : va_G} {G : Gt} {S : Sh} {post : Mm → Prop} {k2 : Int → Int → Int → Mm → Prop} (C : Cx p s m args meth c D G cX12_fillsHours 6 none (cw_X12_fillsHours :: gw) RX12) (hk2 : ∀ (y0 : Int) (y1 : Int32) (y2 : Int32) (M : Mm) (H : Heap) (locs : List Loc) (ls : Array Slot), Wd D G S M H → va_S (aG G) s.heap H locs → lv_has ls 6 [(0, .ref (adr G y0)), (1, .int y1), (2, .int y2)] → k2 y0 y1.toInt y2.toInt M → W p l e RM_X12_fillsHours s m args below meth c H locs 0 0 (MQ below (QV D G S post) args s 0 0 (aG G)) (F0 m 2 ls [])) : ∀ (xl0 : Int) (zl1 : Int32) (zl2 : Int32) (xs0 : Int) (zs1 : Int32) (zs2 : Int32) (M : Mm) (H : Heap) (locs : List Loc) (ls : Array Slot), Wd D G S M H → va_S (aG G) s.heap H locs → lv_has ls 6 [(0, .ref (adr G xl0)), (1, .int zl1), (2, .int zl2)] → wp_X12_fillsHours_28 S k2 post xl0 zl1.toInt zl2.toInt xs0 zs1.toInt zs2.toInt M → W p l e RM_X12_fillsHours s m args below meth c H locs 0 0 (MQ below (QV D G S post) args s 0 0 (aG G)) (F0 m 28 ls [.int zs2, .int zs1, .ref (adr G xs0)]) := by
  obtain ⟨hx, hb, hr, hlocks, hml, hown, hts, hK⟩ := id C
  intro xl0 zl1 zl2 xs0 zs1 zs2 M H locs ls hP hS hl h
  unfold wp_X12_fillsHours_28 at h
  refine r_iast hx hb hK hP hS dX12_fillsHours_28 h (fun M47 H locs h hP hS => ?_)
  refine r_iinc hx hb (fun z49 => [(2, .int z49), (0, .ref (adr G xl0)), (1, .int zl1)]) dX12_fillsHours_29 (by decide) hl (k := 2) rfl (by decide) (fun _ => rfl) h (fun z49 ls hl h => ?_)
  refine lv_goto (tgt := 2) hx hb dX12_fillsHours_32 (by decide) ?_
  exact hk2 xl0 zl1 z49 _ _ _ _ hP hS (lv_sub hl [1, 2, 0] rfl) h
set_option maxHeartbeats 4000000 in
set_option maxRecDepth 100000 in
theorem t_X12_fillsHours_2 {p : Program} {l : Launch} {e : Env} {s : State} {m : MethodId} {args : Array Value} {below : List Frame} {meth : Method} {c : Code} {D : va_G} {G : Gt} {S : Sh} {post : Mm → Prop} (C : Cx p s m args meth c D G cX12_fillsHours 6 none (cw_X12_fillsHours :: gw) RX12) : ∀ (n : Nat) (xl0 : Int) (zl1 : Int32) (zl2 : Int32) (M : Mm) (H : Heap) (locs : List Loc) (ls : Array Slot), Wd D G S M H → va_S (aG G) s.heap H locs → lv_has ls 6 [(0, .ref (adr G xl0)), (1, .int zl1), (2, .int zl2)] → wp_X12_fillsHours_2 S post n xl0 zl1.toInt zl2.toInt  M → W p l e RM_X12_fillsHours s m args below meth c H locs 0 0 (MQ below (QV D G S post) args s 0 0 (aG G)) (F0 m 2 ls []) := by
  obtain ⟨hx, hb, hr, hlocks, hml, hown, hts, hK⟩ := id C
  intro n
  induction n with
  | zero => intro xl0 zl1 zl2 M H locs ls hP hS hl h; exact h.elim
  | succ n ih =>
    intro xl0 zl1 zl2 M H locs ls hP hS hl h
    unfold wp_X12_fillsHours_2 at h
    refine lv_iload_n hx hb dX12_fillsHours_2 rfl (lv_at hl 2 rfl) ?_
    refine lv_aload_n hx hb dX12_fillsHours_3 rfl (lv_at hl 0 rfl) ?_
    refine r_getr (C := RX12) (T := TX12) (N := 38) hx hb hts (fun w h => List.mem_cons_of_mem _ (iX12 w h)) hown hK hP rfl (by decide) rfl 20 (by decide) (hts _ (List.mem_cons_of_mem _ kw_1354)) (fun _ h9 => h9) dX12_fillsHours_4 (by decide) h (fun x51 h => ?_)
    refine r_iconst hx hb dX12_fillsHours_7 (by decide) h (fun z53 h => ?_)
    refine r_iald hx hb hK hP dX12_fillsHours_8 h (fun z55 h => ?_)
    refine r_icmp_ge (tgt := 35) hx hb dX12_fillsHours_9 (by decide) h (fun h => ?_) (fun h => ?_)
    · refine r_iconst hx hb dX12_fillsHours_35 (by decide) h (fun z57 h => ?_)
      refine lv_istore_n (lv' := [(2, .int z57), (0, .ref (adr G xl0)), (1, .int zl1)]) hx hb dX12_fillsHours_36 rfl hl (by decide) rfl (fun ls hl => ?_)
      obtain ⟨n9, h⟩ := h
      exact t_X12_fillsHours_37 C n9 xl0 z57 _ _ _ _ hP hS (lv_sub hl [1, 0] rfl) h
    · refine lv_aload_n hx hb dX12_fillsHours_12 rfl (lv_at hl 0 rfl) ?_
      refine r_getr (C := RX12) (T := TX12) (N := 38) hx hb hts (fun w h => List.mem_cons_of_mem _ (iX12 w h)) hown hK hP rfl (by decide) rfl 27 (by decide) (hts _ (List.mem_cons_of_mem _ kw_1361)) (fun _ h9 => h9) dX12_fillsHours_13 (by decide) h (fun x59 h => ?_)
      refine lv_iload_n hx hb dX12_fillsHours_16 rfl (lv_at hl 2 rfl) ?_
      refine lv_iload_n hx hb dX12_fillsHours_17 rfl (lv_at hl 2 rfl) ?_
      refine lv_iload_n hx hb dX12_fillsHours_18 rfl (lv_at hl 1 rfl) ?_
      refine r_icmp_ne (tgt := 26) hx hb dX12_fillsHours_19 (by decide) h (fun h => ?_) (fun h => ?_)
      · refine r_bipush hx hb dX12_fillsHours_26 (by decide) h (fun z61 h => ?_)
        exact t_X12_fillsHours_28 C ih xl0 zl1 zl2 x59 zl2 z61 _ _ _ _ hP hS (lv_sub hl [0, 1, 2] rfl) h
      · refine r_iconst hx hb dX12_fillsHours_22 (by decide) h (fun z63 h => ?_)
        refine lv_goto (tgt := 28) hx hb dX12_fillsHours_23 (by decide) ?_
        exact t_X12_fillsHours_28 C ih xl0 zl1 zl2 x59 zl2 z63 _ _ _ _ hP hS (lv_sub hl [0, 1, 2] rfl) h
set_option maxHeartbeats 4000000 in
set_option maxRecDepth 100000 in
theorem c_X12_fillsHours (l : Launch) (D : va_G) (G : Gt) (S : Sh) (M : Mm) (xl0 : Int) (zl1 : Int32) (post : Mm → Prop) (h : wp_X12_fillsHours S M xl0 zl1.toInt post) : Met l yX12_fillsHours (cw_X12_fillsHours :: gw) RM_X12_fillsHours (va_Pc [.ref (adr G xl0), .int zl1] (fun U => KN D G U ∧ Wd D G S M U.heap)) (QV D G S post) 0 0 (aG G) := by
  refine Met.ofW (cc := cX12_fillsHours) (maxL := 6) (ret := none) (by decide) rfl ?_
  intro p e s m args below meth c s₁ B hml hv
  obtain ⟨rfl, hK, hP⟩ := hv
  have hx := B.exec
  have hb := B.bytes
  have hr := B.returns
  have hts := atoms_spec (ws := cw_X12_fillsHours :: gw) B.pre
  have hown : s.vm.findClass RX12 = some m.cls := findClass_of_methodNamed B.named
  have hlocks := B.notSynchronized
  have hS : va_S (aG G) s.heap s.heap [] := va_S.rf
  have C : Cx p s m ([.ref (adr G xl0), .int zl1] : List Value).toArray meth c D G cX12_fillsHours 6 none (cw_X12_fillsHours :: gw) RX12 := ⟨hx, hb, hr, hlocks, hml, hown, hts, hK⟩
  have hl := lv_entry ([.ref (adr G xl0), .int zl1]) (n := 6) (Nat.le_of_ble_eq_true rfl)
  rw [lg_entry_eq]
  generalize (lg_sl ([.ref (adr G xl0), .int zl1]) ++ List.replicate (6 - (lg_sl ([.ref (adr G xl0), .int zl1])).length) Slot.unset).toArray = ls at hl ⊢
  have hl : lv_has ls 6 [(0, .ref (adr G xl0)), (1, .int zl1)] := hl
  unfold wp_X12_fillsHours at h
  refine r_iconst hx hb dX12_fillsHours_0 (by decide) h (fun z65 h => ?_)
  refine lv_istore_n (lv' := [(2, .int z65), (0, .ref (adr G xl0)), (1, .int zl1)]) hx hb dX12_fillsHours_1 rfl hl (by decide) rfl (fun ls hl => ?_)
  obtain ⟨n9, h⟩ := h
  exact t_X12_fillsHours_2 C n9 xl0 zl1 z65 _ _ _ _ hP hS (lv_sub hl [1, 2, 0] rfl) h
