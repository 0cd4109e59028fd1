/-! TurningMilk$DairyReader.readWant()Z -/
abbrev RM_X0_readWant : Room := { frames := 4, cells := 0, slots := 0, locals := 104 }
def cw_X0_readWant : Cond := Cond.code yX0_readWant cX0_readWant 5 (Option.some FieldType.boolean)
theorem hd_X0_readWant : yX0_readWant.cls ≠ "java/lang/invoke/MethodHandle" ∧ yX0_readWant.cls ≠ "java/lang/invoke/VarHandle" ∧ (parseMethodDescriptor yX0_readWant.desc).map (fun d => d.parameters.length) = some 0 := by decide +kernel
theorem dX0_readWant_0 : decode cX0_readWant 0 = .ok (.aload_n 0, 1) := by decide +kernel
theorem dX0_readWant_1 : decode cX0_readWant 1 = .ok (.invokevirtual 130, 3) := by decide +kernel
theorem dX0_readWant_4 : decode cX0_readWant 4 = .ok (.istore_n 1, 1) := by decide +kernel
theorem dX0_readWant_5 : decode cX0_readWant 5 = .ok (.iload_n 1, 1) := by decide +kernel
theorem dX0_readWant_6 : decode cX0_readWant 6 = .ok (.iconst (-1), 1) := by decide +kernel
theorem dX0_readWant_7 : decode cX0_readWant 7 = .ok (.if_icmp .ne 7, 3) := by decide +kernel
theorem dX0_readWant_10 : decode cX0_readWant 10 = .ok (.iconst (-1), 1) := by decide +kernel
theorem dX0_readWant_11 : decode cX0_readWant 11 = .ok (.goto 13, 3) := by decide +kernel
theorem dX0_readWant_14 : decode cX0_readWant 14 = .ok (.aload_n 0, 1) := by decide +kernel
theorem dX0_readWant_15 : decode cX0_readWant 15 = .ok (.getfield 25, 3) := by decide +kernel
theorem dX0_readWant_18 : decode cX0_readWant 18 = .ok (.iconst 0, 1) := by decide +kernel
theorem dX0_readWant_19 : decode cX0_readWant 19 = .ok (.bipush 99, 2) := by decide +kernel
theorem dX0_readWant_21 : decode cX0_readWant 21 = .ok (.invokevirtual 117, 3) := by decide +kernel
theorem dX0_readWant_24 : decode cX0_readWant 24 = .ok (.istore_n 2, 1) := by decide +kernel
theorem dX0_readWant_25 : decode cX0_readWant 25 = .ok (.iload_n 2, 1) := by decide +kernel
theorem dX0_readWant_26 : decode cX0_readWant 26 = .ok (.iconst (-1), 1) := by decide +kernel
theorem dX0_readWant_27 : decode cX0_readWant 27 = .ok (.if_icmp .ne 7, 3) := by decide +kernel
theorem dX0_readWant_30 : decode cX0_readWant 30 = .ok (.iconst (-1), 1) := by decide +kernel
theorem dX0_readWant_31 : decode cX0_readWant 31 = .ok (.goto 13, 3) := by decide +kernel
theorem dX0_readWant_34 : decode cX0_readWant 34 = .ok (.aload_n 0, 1) := by decide +kernel
theorem dX0_readWant_35 : decode cX0_readWant 35 = .ok (.getfield 25, 3) := by decide +kernel
theorem dX0_readWant_38 : decode cX0_readWant 38 = .ok (.iload_n 2, 1) := by decide +kernel
theorem dX0_readWant_39 : decode cX0_readWant 39 = .ok (.bipush 99, 2) := by decide +kernel
theorem dX0_readWant_41 : decode cX0_readWant 41 = .ok (.invokevirtual 117, 3) := by decide +kernel
theorem dX0_readWant_44 : decode cX0_readWant 44 = .ok (.istore_n 3, 1) := by decide +kernel
theorem dX0_readWant_45 : decode cX0_readWant 45 = .ok (.iload_n 3, 1) := by decide +kernel
theorem dX0_readWant_46 : decode cX0_readWant 46 = .ok (.iconst (-1), 1) := by decide +kernel
theorem dX0_readWant_47 : decode cX0_readWant 47 = .ok (.if_icmp .ne 7, 3) := by decide +kernel
theorem dX0_readWant_50 : decode cX0_readWant 50 = .ok (.iconst (-1), 1) := by decide +kernel
theorem dX0_readWant_51 : decode cX0_readWant 51 = .ok (.goto 13, 3) := by decide +kernel
theorem dX0_readWant_54 : decode cX0_readWant 54 = .ok (.aload_n 0, 1) := by decide +kernel
theorem dX0_readWant_55 : decode cX0_readWant 55 = .ok (.getfield 25, 3) := by decide +kernel
theorem dX0_readWant_58 : decode cX0_readWant 58 = .ok (.iconst 1, 1) := by decide +kernel
theorem dX0_readWant_59 : decode cX0_readWant 59 = .ok (.bipush 50, 2) := by decide +kernel
theorem dX0_readWant_61 : decode cX0_readWant 61 = .ok (.invokevirtual 117, 3) := by decide +kernel
theorem dX0_readWant_64 : decode cX0_readWant 64 = .ok (.istore 4, 2) := by decide +kernel
theorem dX0_readWant_66 : decode cX0_readWant 66 = .ok (.iload 4, 2) := by decide +kernel
theorem dX0_readWant_68 : decode cX0_readWant 68 = .ok (.iconst (-1), 1) := by decide +kernel
theorem dX0_readWant_69 : decode cX0_readWant 69 = .ok (.if_icmp .ne 5, 3) := by decide +kernel
theorem dX0_readWant_72 : decode cX0_readWant 72 = .ok (.iconst 0, 1) := by decide +kernel
theorem dX0_readWant_73 : decode cX0_readWant 73 = .ok (.ireturn, 1) := by decide +kernel
theorem dX0_readWant_74 : decode cX0_readWant 74 = .ok (.aload_n 0, 1) := by decide +kernel
theorem dX0_readWant_75 : decode cX0_readWant 75 = .ok (.getfield 12, 3) := by decide +kernel
theorem dX0_readWant_78 : decode cX0_readWant 78 = .ok (.getfield 165, 3) := by decide +kernel
theorem dX0_readWant_81 : decode cX0_readWant 81 = .ok (.aload_n 0, 1) := by decide +kernel
theorem dX0_readWant_82 : decode cX0_readWant 82 = .ok (.getfield 12, 3) := by decide +kernel
theorem dX0_readWant_85 : decode cX0_readWant 85 = .ok (.getfield 89, 3) := by decide +kernel
theorem dX0_readWant_88 : decode cX0_readWant 88 = .ok (.iload_n 1, 1) := by decide +kernel
theorem dX0_readWant_89 : decode cX0_readWant 89 = .ok (.iastore, 1) := by decide +kernel
theorem dX0_readWant_90 : decode cX0_readWant 90 = .ok (.aload_n 0, 1) := by decide +kernel
theorem dX0_readWant_91 : decode cX0_readWant 91 = .ok (.getfield 12, 3) := by decide +kernel
theorem dX0_readWant_94 : decode cX0_readWant 94 = .ok (.getfield 168, 3) := by decide +kernel
theorem dX0_readWant_97 : decode cX0_readWant 97 = .ok (.aload_n 0, 1) := by decide +kernel
theorem dX0_readWant_98 : decode cX0_readWant 98 = .ok (.getfield 12, 3) := by decide +kernel
theorem dX0_readWant_101 : decode cX0_readWant 101 = .ok (.getfield 89, 3) := by decide +kernel
theorem dX0_readWant_104 : decode cX0_readWant 104 = .ok (.iload_n 2, 1) := by decide +kernel
theorem dX0_readWant_105 : decode cX0_readWant 105 = .ok (.iastore, 1) := by decide +kernel
theorem dX0_readWant_106 : decode cX0_readWant 106 = .ok (.aload_n 0, 1) := by decide +kernel
theorem dX0_readWant_107 : decode cX0_readWant 107 = .ok (.getfield 12, 3) := by decide +kernel
theorem dX0_readWant_110 : decode cX0_readWant 110 = .ok (.getfield 171, 3) := by decide +kernel
theorem dX0_readWant_113 : decode cX0_readWant 113 = .ok (.aload_n 0, 1) := by decide +kernel
theorem dX0_readWant_114 : decode cX0_readWant 114 = .ok (.getfield 12, 3) := by decide +kernel
theorem dX0_readWant_117 : decode cX0_readWant 117 = .ok (.getfield 89, 3) := by decide +kernel
theorem dX0_readWant_120 : decode cX0_readWant 120 = .ok (.iload_n 3, 1) := by decide +kernel
theorem dX0_readWant_121 : decode cX0_readWant 121 = .ok (.iastore, 1) := by decide +kernel
theorem dX0_readWant_122 : decode cX0_readWant 122 = .ok (.aload_n 0, 1) := by decide +kernel
theorem dX0_readWant_123 : decode cX0_readWant 123 = .ok (.getfield 12, 3) := by decide +kernel
theorem dX0_readWant_126 : decode cX0_readWant 126 = .ok (.getfield 174, 3) := by decide +kernel
theorem dX0_readWant_129 : decode cX0_readWant 129 = .ok (.aload_n 0, 1) := by decide +kernel
theorem dX0_readWant_130 : decode cX0_readWant 130 = .ok (.getfield 12, 3) := by decide +kernel
theorem dX0_readWant_133 : decode cX0_readWant 133 = .ok (.getfield 89, 3) := by decide +kernel
theorem dX0_readWant_136 : decode cX0_readWant 136 = .ok (.iload 4, 2) := by decide +kernel
theorem dX0_readWant_138 : decode cX0_readWant 138 = .ok (.iastore, 1) := by decide +kernel
theorem dX0_readWant_139 : decode cX0_readWant 139 = .ok (.aload_n 0, 1) := by decide +kernel
theorem dX0_readWant_140 : decode cX0_readWant 140 = .ok (.getfield 12, 3) := by decide +kernel
theorem dX0_readWant_143 : decode cX0_readWant 143 = .ok (.dup, 1) := by decide +kernel
theorem dX0_readWant_144 : decode cX0_readWant 144 = .ok (.getfield 89, 3) := by decide +kernel
theorem dX0_readWant_147 : decode cX0_readWant 147 = .ok (.iconst 1, 1) := by decide +kernel
theorem dX0_readWant_148 : decode cX0_readWant 148 = .ok (.iadd, 1) := by decide +kernel
theorem dX0_readWant_149 : decode cX0_readWant 149 = .ok (.putfield 89, 3) := by decide +kernel
theorem dX0_readWant_152 : decode cX0_readWant 152 = .ok (.iconst 1, 1) := by decide +kernel
theorem dX0_readWant_153 : decode cX0_readWant 153 = .ok (.ireturn, 1) := by decide +kernel
def wp_X0_readWant_64 (S : Sh) (post : Int → Mm → Prop) (u0 : Int) (u1 : Int) (u2 : Int) (u3 : Int) (t0 : Int) (M : Mm) : Prop := wC (-1) fun v1 => wIf (¬ t0 = v1) (wGetR S M u0 0 1 fun v3 => wGetR S M v3 8 15 fun v5 => wGetR S M u0 0 1 fun v7 => wGet S M v7 8 7 fun v9 => wSt S M v5 14 v9 u1 fun M11 => wGetR S M11 u0 0 1 fun v12 => wGetR S M11 v12 8 16 fun v14 => wGetR S M11 u0 0 1 fun v16 => wGet S M11 v16 8 7 fun v18 => wSt S M11 v14 14 v18 u2 fun M20 => wGetR S M20 u0 0 1 fun v21 => wGetR S M20 v21 8 17 fun v23 => wGetR S M20 u0 0 1 fun v25 => wGet S M20 v25 8 7 fun v27 => wSt S M20 v23 14 v27 u3 fun M29 => wGetR S M29 u0 0 1 fun v30 => wGetR S M29 v30 8 18 fun v32 => wGetR S M29 u0 0 1 fun v34 => wGet S M29 v34 8 7 fun v36 => wSt S M29 v32 14 v36 t0 fun M38 => wGetR S M38 u0 0 1 fun v39 => wGet S M38 v39 8 7 fun v41 => wC 1 fun v43 => wA v41 v43 fun v45 => wPut S M38 v39 8 7 v45 fun M47 => wC 1 fun v48 => (v48 = 0 ∨ v48 = 1) ∧ post v48 M47) (wC 0 fun v50 => (v50 = 0 ∨ v50 = 1) ∧ post v50 M)
def wp_X0_readWant_44 (S : Sh) (post : Int → Mm → Prop) (u0 : Int) (u1 : Int) (u2 : Int) (t0 : Int) (M : Mm) : Prop := wC (-1) fun v52 => wIf (¬ t0 = v52) (wGetR S M u0 0 0 fun v54 => wC 1 fun v56 => wC 50 fun v58 => isK S v54 7 ∧ (wp_X7_takeNumber S M v54 v56 v58 <| fun v61 M60 => wp_X0_readWant_64 S post u0 u1 u2 t0 v61 M60)) (wC (-1) fun v63 => wp_X0_readWant_64 S post u0 u1 u2 t0 v63 M)
def wp_X0_readWant_24 (S : Sh) (post : Int → Mm → Prop) (u0 : Int) (u1 : Int) (t0 : Int) (M : Mm) : Prop := wC (-1) fun v65 => wIf (¬ t0 = v65) (wGetR S M u0 0 0 fun v67 => wC 99 fun v69 => isK S v67 7 ∧ (wp_X7_takeNumber S M v67 t0 v69 <| fun v72 M71 => wp_X0_readWant_44 S post u0 u1 t0 v72 M71)) (wC (-1) fun v74 => wp_X0_readWant_44 S post u0 u1 t0 v74 M)
def wp_X0_readWant (S : Sh) (M : Mm) (u0 : Int) (post : Int → Mm → Prop) : Prop := isK S u0 0 ∧ (wp_X0_takePlace S M u0 <| fun v77 M76 => wC (-1) fun v79 => wIf (¬ v77 = v79) (wGetR S M76 u0 0 0 fun v81 => wC 0 fun v83 => wC 99 fun v85 => isK S v81 7 ∧ (wp_X7_takeNumber S M76 v81 v83 v85 <| fun v88 M87 => wp_X0_readWant_24 S post u0 v77 v88 M87)) (wC (-1) fun v90 => wp_X0_readWant_24 S post u0 v77 v90 M76))
set_option maxHeartbeats 4000000 in
set_option maxRecDepth 100000 in
theorem t_X0_readWant_64 {p : Program} {l : Launch} {e : Env} {s : State} {m : MethodId} {args : Array Value} {below : List Frame} {meth : Method} {c : Code} {D : va_G} {G : Gt} {S : Sh} {post : Int → Mm → Prop} (C : Cx p s m args meth c D G cX0_readWant 5 (some .boolean) (cw_X0_readWant :: gw) RX0) : ∀ (xl0 : Int) (zl1 : Int32) (zl2 : Int32) (zl3 : Int32) (zs0 : Int32) (M : Mm) (H : Heap) (locs : List Loc) (ls : Array Slot), Wd D G S M H → va_S (aG G) s.heap H locs → lv_has ls 5 [(0, .ref (adr G xl0)), (1, .int zl1), (2, .int zl2), (3, .int zl3)] → wp_X0_readWant_64 S post xl0 zl1.toInt zl2.toInt zl3.toInt zs0.toInt M → W p l e RM_X0_readWant s m args below meth c H locs 0 0 (MQ below (QI D G S post) args s 0 0 (aG G)) (F0 m 64 ls [.int zs0]) := by
  obtain ⟨hx, hb, hr, hlocks, hml, hown, hts, hK⟩ := id C
  intro xl0 zl1 zl2 zl3 zs0 M H locs ls hP hS hl h
  unfold wp_X0_readWant_64 at h
  refine lv_istore (lv' := [(4, .int zs0), (0, .ref (adr G xl0)), (1, .int zl1), (2, .int zl2), (3, .int zl3)]) hx hb dX0_readWant_64 hl (by decide) rfl (fun ls hl => ?_)
  refine lv_iload hx hb dX0_readWant_66 (lv_at hl 0 rfl) ?_
  refine r_iconst hx hb dX0_readWant_68 (by decide) h (fun z2 h => ?_)
  refine r_icmp_ne (tgt := 74) hx hb dX0_readWant_69 (by decide) h (fun h => ?_) (fun h => ?_)
  · refine lv_aload_n hx hb dX0_readWant_74 rfl (lv_at hl 1 rfl) ?_
    refine r_getr (C := RX0) (T := TX0) (N := 3) hx hb hts (fun w h => List.mem_cons_of_mem _ (iX0 w h)) hown hK hP rfl (by decide) rfl 1 (by decide) (hts _ (List.mem_cons_of_mem _ kw_290)) (fun _ h9 => h9) dX0_readWant_75 (by decide) h (fun x4 h => ?_)
    refine r_getrN (C := RX8) (T := TX8) (N := 19) hx hb hts (fun w h => List.mem_cons_of_mem _ (iX8 w h)) hown hK hP rfl (by decide) rfl 15 (by decide) (nw_37 hK) (fun _ h9 => h9) dX0_readWant_78 (by decide) h (fun x6 h => ?_)
    refine lv_aload_n hx hb dX0_readWant_81 rfl (lv_at hl 1 rfl) ?_
    refine r_getr (C := RX0) (T := TX0) (N := 3) hx hb hts (fun w h => List.mem_cons_of_mem _ (iX0 w h)) hown hK hP rfl (by decide) rfl 1 (by decide) (hts _ (List.mem_cons_of_mem _ kw_290)) (fun _ h9 => h9) dX0_readWant_82 (by decide) h (fun x8 h => ?_)
    refine r_getiN (C := RX8) (T := TX8) (N := 19) hx hb hts (fun w h => List.mem_cons_of_mem _ (iX8 w h)) hown hK hP rfl (by decide) rfl 7 (by decide) (nw_24 hK) (fun _ h9 => h9) dX0_readWant_85 (by decide) h (fun z10 h => ?_)
    refine lv_iload_n hx hb dX0_readWant_88 rfl (lv_at hl 2 rfl) ?_
    refine r_iast hx hb hK hP hS dX0_readWant_89 h (fun M11 H locs h hP hS => ?_)
    refine lv_aload_n hx hb dX0_readWant_90 rfl (lv_at hl 1 rfl) ?_
    refine r_getr (C := RX0) (T := TX0) (N := 3) hx hb hts (fun w h => List.mem_cons_of_mem _ (iX0 w h)) hown hK hP rfl (by decide) rfl 1 (by decide) (hts _ (List.mem_cons_of_mem _ kw_290)) (fun _ h9 => h9) dX0_readWant_91 (by decide) h (fun x13 h => ?_)
    refine r_getrN (C := RX8) (T := TX8) (N := 19) hx hb hts (fun w h => List.mem_cons_of_mem _ (iX8 w h)) hown hK hP rfl (by decide) rfl 16 (by decide) (nw_39 hK) (fun _ h9 => h9) dX0_readWant_94 (by decide) h (fun x15 h => ?_)
    refine lv_aload_n hx hb dX0_readWant_97 rfl (lv_at hl 1 rfl) ?_
    refine r_getr (C := RX0) (T := TX0) (N := 3) hx hb hts (fun w h => List.mem_cons_of_mem _ (iX0 w h)) hown hK hP rfl (by decide) rfl 1 (by decide) (hts _ (List.mem_cons_of_mem _ kw_290)) (fun _ h9 => h9) dX0_readWant_98 (by decide) h (fun x17 h => ?_)
    refine r_getiN (C := RX8) (T := TX8) (N := 19) hx hb hts (fun w h => List.mem_cons_of_mem _ (iX8 w h)) hown hK hP rfl (by decide) rfl 7 (by decide) (nw_24 hK) (fun _ h9 => h9) dX0_readWant_101 (by decide) h (fun z19 h => ?_)
    refine lv_iload_n hx hb dX0_readWant_104 rfl (lv_at hl 3 rfl) ?_
    refine r_iast hx hb hK hP hS dX0_readWant_105 h (fun M20 H locs h hP hS => ?_)
    refine lv_aload_n hx hb dX0_readWant_106 rfl (lv_at hl 1 rfl) ?_
    refine r_getr (C := RX0) (T := TX0) (N := 3) hx hb hts (fun w h => List.mem_cons_of_mem _ (iX0 w h)) hown hK hP rfl (by decide) rfl 1 (by decide) (hts _ (List.mem_cons_of_mem _ kw_290)) (fun _ h9 => h9) dX0_readWant_107 (by decide) h (fun x22 h => ?_)
    refine r_getrN (C := RX8) (T := TX8) (N := 19) hx hb hts (fun w h => List.mem_cons_of_mem _ (iX8 w h)) hown hK hP rfl (by decide) rfl 17 (by decide) (nw_41 hK) (fun _ h9 => h9) dX0_readWant_110 (by decide) h (fun x24 h => ?_)
    refine lv_aload_n hx hb dX0_readWant_113 rfl (lv_at hl 1 rfl) ?_
    refine r_getr (C := RX0) (T := TX0) (N := 3) hx hb hts (fun w h => List.mem_cons_of_mem _ (iX0 w h)) hown hK hP rfl (by decide) rfl 1 (by decide) (hts _ (List.mem_cons_of_mem _ kw_290)) (fun _ h9 => h9) dX0_readWant_114 (by decide) h (fun x26 h => ?_)
    refine r_getiN (C := RX8) (T := TX8) (N := 19) hx hb hts (fun w h => List.mem_cons_of_mem _ (iX8 w h)) hown hK hP rfl (by decide) rfl 7 (by decide) (nw_24 hK) (fun _ h9 => h9) dX0_readWant_117 (by decide) h (fun z28 h => ?_)
    refine lv_iload_n hx hb dX0_readWant_120 rfl (lv_at hl 4 rfl) ?_
    refine r_iast hx hb hK hP hS dX0_readWant_121 h (fun M29 H locs h hP hS => ?_)
    refine lv_aload_n hx hb dX0_readWant_122 rfl (lv_at hl 1 rfl) ?_
    refine r_getr (C := RX0) (T := TX0) (N := 3) hx hb hts (fun w h => List.mem_cons_of_mem _ (iX0 w h)) hown hK hP rfl (by decide) rfl 1 (by decide) (hts _ (List.mem_cons_of_mem _ kw_290)) (fun _ h9 => h9) dX0_readWant_123 (by decide) h (fun x31 h => ?_)
    refine r_getrN (C := RX8) (T := TX8) (N := 19) hx hb hts (fun w h => List.mem_cons_of_mem _ (iX8 w h)) hown hK hP rfl (by decide) rfl 18 (by decide) (nw_44 hK) (fun _ h9 => h9) dX0_readWant_126 (by decide) h (fun x33 h => ?_)
    refine lv_aload_n hx hb dX0_readWant_129 rfl (lv_at hl 1 rfl) ?_
    refine r_getr (C := RX0) (T := TX0) (N := 3) hx hb hts (fun w h => List.mem_cons_of_mem _ (iX0 w h)) hown hK hP rfl (by decide) rfl 1 (by decide) (hts _ (List.mem_cons_of_mem _ kw_290)) (fun _ h9 => h9) dX0_readWant_130 (by decide) h (fun x35 h => ?_)
    refine r_getiN (C := RX8) (T := TX8) (N := 19) hx hb hts (fun w h => List.mem_cons_of_mem _ (iX8 w h)) hown hK hP rfl (by decide) rfl 7 (by decide) (nw_24 hK) (fun _ h9 => h9) dX0_readWant_133 (by decide) h (fun z37 h => ?_)
    refine lv_iload hx hb dX0_readWant_136 (lv_at hl 0 rfl) ?_
    refine r_iast hx hb hK hP hS dX0_readWant_138 h (fun M38 H locs h hP hS => ?_)
    refine lv_aload_n hx hb dX0_readWant_139 rfl (lv_at hl 1 rfl) ?_
    refine r_getr (C := RX0) (T := TX0) (N := 3) hx hb hts (fun w h => List.mem_cons_of_mem _ (iX0 w h)) hown hK hP rfl (by decide) rfl 1 (by decide) (hts _ (List.mem_cons_of_mem _ kw_290)) (fun _ h9 => h9) dX0_readWant_140 (by decide) h (fun x40 h => ?_)
    refine lv_dup hx hb dX0_readWant_143 rfl ?_
    refine r_getiN (C := RX8) (T := TX8) (N := 19) hx hb hts (fun w h => List.mem_cons_of_mem _ (iX8 w h)) hown hK hP rfl (by decide) rfl 7 (by decide) (nw_24 hK) (fun _ h9 => h9) dX0_readWant_144 (by decide) h (fun z42 h => ?_)
    refine r_iconst hx hb dX0_readWant_147 (by decide) h (fun z44 h => ?_)
    refine r_iadd hx hb dX0_readWant_148 h (fun z46 h => ?_)
    refine r_putiN (C := RX8) (T := TX8) (N := 19) hx hb hts (fun w h => List.mem_cons_of_mem _ (iX8 w h)) hown hK hP tyX8 tyX8_ok nmX8 hS rfl (by decide) rfl 7 (by decide) (nw_24 hK) (fun _ h9 => h9) rfl (tyX8_ok 7 (by decide)) rfl rfl dX0_readWant_149 (by decide) h (fun M47 H locs h hP hS => ?_)
    refine r_iconst hx hb dX0_readWant_152 (by decide) h (fun z49 h => ?_)
    exact r_zret hx hb hr hlocks hP hS dX0_readWant_153 h
  · refine r_iconst hx hb dX0_readWant_72 (by decide) h (fun z51 h => ?_)
    exact r_zret hx hb hr hlocks hP hS dX0_readWant_73 h
set_option maxHeartbeats 4000000 in
set_option maxRecDepth 100000 in
theorem t_X0_readWant_44 {p : Program} {l : Launch} {e : Env} {s : State} {m : MethodId} {args : Array Value} {below : List Frame} {meth : Method} {c : Code} {D : va_G} {G : Gt} {S : Sh} {post : Int → Mm → Prop} (C : Cx p s m args meth c D G cX0_readWant 5 (some .boolean) (cw_X0_readWant :: gw) RX0) : ∀ (xl0 : Int) (zl1 : Int32) (zl2 : Int32) (zs0 : Int32) (M : Mm) (H : Heap) (locs : List Loc) (ls : Array Slot), Wd D G S M H → va_S (aG G) s.heap H locs → lv_has ls 5 [(0, .ref (adr G xl0)), (1, .int zl1), (2, .int zl2)] → wp_X0_readWant_44 S post xl0 zl1.toInt zl2.toInt zs0.toInt M → W p l e RM_X0_readWant s m args below meth c H locs 0 0 (MQ below (QI D G S post) args s 0 0 (aG G)) (F0 m 44 ls [.int zs0]) := by
  obtain ⟨hx, hb, hr, hlocks, hml, hown, hts, hK⟩ := id C
  intro xl0 zl1 zl2 zs0 M H locs ls hP hS hl h
  unfold wp_X0_readWant_44 at h
  refine lv_istore_n (lv' := [(3, .int zs0), (0, .ref (adr G xl0)), (1, .int zl1), (2, .int zl2)]) hx hb dX0_readWant_44 rfl hl (by decide) rfl (fun ls hl => ?_)
  refine lv_iload_n hx hb dX0_readWant_45 rfl (lv_at hl 0 rfl) ?_
  refine r_iconst hx hb dX0_readWant_46 (by decide) h (fun z53 h => ?_)
  refine r_icmp_ne (tgt := 54) hx hb dX0_readWant_47 (by decide) h (fun h => ?_) (fun h => ?_)
  · refine lv_aload_n hx hb dX0_readWant_54 rfl (lv_at hl 1 rfl) ?_
    refine r_getr (C := RX0) (T := TX0) (N := 3) hx hb hts (fun w h => List.mem_cons_of_mem _ (iX0 w h)) hown hK hP rfl (by decide) rfl 0 (by decide) (hts _ (List.mem_cons_of_mem _ kw_289)) (fun _ h9 => h9) dX0_readWant_55 (by decide) h (fun x55 h => ?_)
    refine r_iconst hx hb dX0_readWant_58 (by decide) h (fun z57 h => ?_)
    refine r_bipush hx hb dX0_readWant_59 (by decide) h (fun z59 h => ?_)
    refine q_Vi hx hb hml hown hts hK hP hS (c_X7_takeNumber l D G S _ x55 z57 z59 _ h.2) ⟨callB_of 2 hts (gw_good kw_669) rfl rfl rfl (hts _ (List.mem_cons_of_mem _ kw_2)) (hts _ (List.mem_cons_of_mem _ kw_666)) hd_X7_takeNumber ⟨Nat.le_of_ble_eq_true rfl, Nat.le_of_ble_eq_true rfl⟩, (hts _ (List.mem_cons_of_mem _ kw_667)), (hts _ (List.mem_cons_of_mem _ kw_668))⟩ h.1 (ci := 7) rfl (by decide) rfl hl.1 rfl (lv_room (Nat.le_of_ble_eq_true rfl)) dX0_readWant_61 ⟨Nat.zero_le _, Nat.zero_le _⟩ (fun z62 M60 H locs h hP hS => ?_)
    exact t_X0_readWant_64 C xl0 zl1 zl2 zs0 z62 _ _ _ _ hP hS (lv_sub hl [1, 2, 3, 0] rfl) h
  · refine r_iconst hx hb dX0_readWant_50 (by decide) h (fun z64 h => ?_)
    refine lv_goto (tgt := 64) hx hb dX0_readWant_51 (by decide) ?_
    exact t_X0_readWant_64 C xl0 zl1 zl2 zs0 z64 _ _ _ _ hP hS (lv_sub hl [1, 2, 3, 0] rfl) h
set_option maxHeartbeats 4000000 in
set_option maxRecDepth 100000 in
theorem t_X0_readWant_24 {p : Program} {l : Launch} {e : Env} {s : State} {m : MethodId} {args : Array Value} {below : List Frame} {meth : Method} {c : Code} {D : va_G} {G : Gt} {S : Sh} {post : Int → Mm → Prop} (C : Cx p s m args meth c D G cX0_readWant 5 (some .boolean) (cw_X0_readWant :: gw) RX0) : ∀ (xl0 : Int) (zl1 : Int32) (zs0 : Int32) (M : Mm) (H : Heap) (locs : List Loc) (ls : Array Slot), Wd D G S M H → va_S (aG G) s.heap H locs → lv_has ls 5 [(0, .ref (adr G xl0)), (1, .int zl1)] → wp_X0_readWant_24 S post xl0 zl1.toInt zs0.toInt M → W p l e RM_X0_readWant s m args below meth c H locs 0 0 (MQ below (QI D G S post) args s 0 0 (aG G)) (F0 m 24 ls [.int zs0]) := by
  obtain ⟨hx, hb, hr, hlocks, hml, hown, hts, hK⟩ := id C
  intro xl0 zl1 zs0 M H locs ls hP hS hl h
  unfold wp_X0_readWant_24 at h
  refine lv_istore_n (lv' := [(2, .int zs0), (0, .ref (adr G xl0)), (1, .int zl1)]) hx hb dX0_readWant_24 rfl hl (by decide) rfl (fun ls hl => ?_)
  refine lv_iload_n hx hb dX0_readWant_25 rfl (lv_at hl 0 rfl) ?_
  refine r_iconst hx hb dX0_readWant_26 (by decide) h (fun z66 h => ?_)
  refine r_icmp_ne (tgt := 34) hx hb dX0_readWant_27 (by decide) h (fun h => ?_) (fun h => ?_)
  · refine lv_aload_n hx hb dX0_readWant_34 rfl (lv_at hl 1 rfl) ?_
    refine r_getr (C := RX0) (T := TX0) (N := 3) hx hb hts (fun w h => List.mem_cons_of_mem _ (iX0 w h)) hown hK hP rfl (by decide) rfl 0 (by decide) (hts _ (List.mem_cons_of_mem _ kw_289)) (fun _ h9 => h9) dX0_readWant_35 (by decide) h (fun x68 h => ?_)
    refine lv_iload_n hx hb dX0_readWant_38 rfl (lv_at hl 0 rfl) ?_
    refine r_bipush hx hb dX0_readWant_39 (by decide) h (fun z70 h => ?_)
    refine q_Vi hx hb hml hown hts hK hP hS (c_X7_takeNumber l D G S _ x68 zs0 z70 _ h.2) ⟨callB_of 2 hts (gw_good kw_669) rfl rfl rfl (hts _ (List.mem_cons_of_mem _ kw_2)) (hts _ (List.mem_cons_of_mem _ kw_666)) hd_X7_takeNumber ⟨Nat.le_of_ble_eq_true rfl, Nat.le_of_ble_eq_true rfl⟩, (hts _ (List.mem_cons_of_mem _ kw_667)), (hts _ (List.mem_cons_of_mem _ kw_668))⟩ h.1 (ci := 7) rfl (by decide) rfl hl.1 rfl (lv_room (Nat.le_of_ble_eq_true rfl)) dX0_readWant_41 ⟨Nat.zero_le _, Nat.zero_le _⟩ (fun z73 M71 H locs h hP hS => ?_)
    exact t_X0_readWant_44 C xl0 zl1 zs0 z73 _ _ _ _ hP hS (lv_sub hl [1, 2, 0] rfl) h
  · refine r_iconst hx hb dX0_readWant_30 (by decide) h (fun z75 h => ?_)
    refine lv_goto (tgt := 44) hx hb dX0_readWant_31 (by decide) ?_
    exact t_X0_readWant_44 C xl0 zl1 zs0 z75 _ _ _ _ hP hS (lv_sub hl [1, 2, 0] rfl) h
set_option maxHeartbeats 4000000 in
set_option maxRecDepth 100000 in
theorem c_X0_readWant (l : Launch) (D : va_G) (G : Gt) (S : Sh) (M : Mm) (xl0 : Int) (post : Int → Mm → Prop) (h : wp_X0_readWant S M xl0 post) : Met l yX0_readWant (cw_X0_readWant :: gw) RM_X0_readWant (va_Pc [.ref (adr G xl0)] (fun U => KN D G U ∧ Wd D G S M U.heap)) (QI D G S post) 0 0 (aG G) := by
  refine Met.ofW (cc := cX0_readWant) (maxL := 5) (ret := (some .boolean)) (by decide) rfl ?_
  intro p e s m args below meth c s₁ B hml hv
  obtain ⟨rfl, hK, hP⟩ := hv
  have hx := B.exec
  have hb := B.bytes
  have hr := B.returns
  have hts := atoms_spec (ws := cw_X0_readWant :: gw) B.pre
  have hown : s.vm.findClass RX0 = some m.cls := findClass_of_methodNamed B.named
  have hlocks := B.notSynchronized
  have hS : va_S (aG G) s.heap s.heap [] := va_S.rf
  have C : Cx p s m ([.ref (adr G xl0)] : List Value).toArray meth c D G cX0_readWant 5 (some .boolean) (cw_X0_readWant :: gw) RX0 := ⟨hx, hb, hr, hlocks, hml, hown, hts, hK⟩
  have hl := lv_entry ([.ref (adr G xl0)]) (n := 5) (Nat.le_of_ble_eq_true rfl)
  rw [lg_entry_eq]
  generalize (lg_sl ([.ref (adr G xl0)]) ++ List.replicate (5 - (lg_sl ([.ref (adr G xl0)])).length) Slot.unset).toArray = ls at hl ⊢
  have hl : lv_has ls 5 [(0, .ref (adr G xl0))] := hl
  unfold wp_X0_readWant at h
  refine lv_aload_n hx hb dX0_readWant_0 rfl (lv_at hl 0 rfl) ?_
  refine q_Vi hx hb hml hown hts hK hP hS (c_X0_takePlace l D G S _ xl0 _ h.2) ⟨callB_of 0 hts (gw_good kw_681) rfl rfl rfl (hts _ (List.mem_cons_of_mem _ kw_7)) (hts _ (List.mem_cons_of_mem _ kw_678)) hd_X0_takePlace ⟨Nat.le_of_ble_eq_true rfl, Nat.le_of_ble_eq_true rfl⟩, (hts _ (List.mem_cons_of_mem _ kw_680)), (hts _ (List.mem_cons_of_mem _ kp_6))⟩ h.1 (ci := 0) rfl (by decide) rfl hl.1 rfl (lv_room (Nat.le_of_ble_eq_true rfl)) dX0_readWant_1 ⟨Nat.zero_le _, Nat.zero_le _⟩ (fun z78 M76 H locs h hP hS => ?_)
  refine lv_istore_n (lv' := [(1, .int z78), (0, .ref (adr G xl0))]) hx hb dX0_readWant_4 rfl hl (by decide) rfl (fun ls hl => ?_)
  refine lv_iload_n hx hb dX0_readWant_5 rfl (lv_at hl 0 rfl) ?_
  refine r_iconst hx hb dX0_readWant_6 (by decide) h (fun z80 h => ?_)
  refine r_icmp_ne (tgt := 14) hx hb dX0_readWant_7 (by decide) h (fun h => ?_) (fun h => ?_)
  · refine lv_aload_n hx hb dX0_readWant_14 rfl (lv_at hl 1 rfl) ?_
    refine r_getr (C := RX0) (T := TX0) (N := 3) hx hb hts (fun w h => List.mem_cons_of_mem _ (iX0 w h)) hown hK hP rfl (by decide) rfl 0 (by decide) (hts _ (List.mem_cons_of_mem _ kw_289)) (fun _ h9 => h9) dX0_readWant_15 (by decide) h (fun x82 h => ?_)
    refine r_iconst hx hb dX0_readWant_18 (by decide) h (fun z84 h => ?_)
    refine r_bipush hx hb dX0_readWant_19 (by decide) h (fun z86 h => ?_)
    refine q_Vi hx hb hml hown hts hK hP hS (c_X7_takeNumber l D G S _ x82 z84 z86 _ h.2) ⟨callB_of 2 hts (gw_good kw_669) rfl rfl rfl (hts _ (List.mem_cons_of_mem _ kw_2)) (hts _ (List.mem_cons_of_mem _ kw_666)) hd_X7_takeNumber ⟨Nat.le_of_ble_eq_true rfl, Nat.le_of_ble_eq_true rfl⟩, (hts _ (List.mem_cons_of_mem _ kw_667)), (hts _ (List.mem_cons_of_mem _ kw_668))⟩ h.1 (ci := 7) rfl (by decide) rfl hl.1 rfl (lv_room (Nat.le_of_ble_eq_true rfl)) dX0_readWant_21 ⟨Nat.zero_le _, Nat.zero_le _⟩ (fun z89 M87 H locs h hP hS => ?_)
    exact t_X0_readWant_24 C xl0 z78 z89 _ _ _ _ hP hS (lv_sub hl [1, 0] rfl) h
  · refine r_iconst hx hb dX0_readWant_10 (by decide) h (fun z91 h => ?_)
    refine lv_goto (tgt := 24) hx hb dX0_readWant_11 (by decide) ?_
    exact t_X0_readWant_24 C xl0 z78 z91 _ _ _ _ hP hS (lv_sub hl [1, 0] rfl) h
/-! TurningMilk$DairyReader.readClause(I)Z -/
abbrev RM_X0_readClause : Room := { frames := 8, cells := 0, slots := 0, locals := 325 }
def cw_X0_readClause : Cond := Cond.code yX0_readClause cX0_readClause 4 (Option.some FieldType.boolean)
theorem hd_X0_readClause : yX0_readClause.cls ≠ "java/lang/invoke/MethodHandle" ∧ yX0_readClause.cls ≠ "java/lang/invoke/VarHandle" ∧ (parseMethodDescriptor yX0_readClause.desc).map (fun d => d.parameters.length) = some 1 := by decide +kernel
theorem dX0_readClause_0 : decode cX0_readClause 0 = .ok (.aload_n 0, 1) := by decide +kernel
theorem dX0_readClause_1 : decode cX0_readClause 1 = .ok (.invokevirtual 92, 3) := by decide +kernel
theorem dX0_readClause_4 : decode cX0_readClause 4 = .ok (.istore_n 2, 1) := by decide +kernel
theorem dX0_readClause_5 : decode cX0_readClause 5 = .ok (.iload_n 2, 1) := by decide +kernel
theorem dX0_readClause_6 : decode cX0_readClause 6 = .ok (.iconst (-1), 1) := by decide +kernel
theorem dX0_readClause_7 : decode cX0_readClause 7 = .ok (.if_icmp .ne 12, 3) := by decide +kernel
theorem dX0_readClause_10 : decode cX0_readClause 10 = .ok (.aload_n 0, 1) := by decide +kernel
theorem dX0_readClause_11 : decode cX0_readClause 11 = .ok (.getfield 25, 3) := by decide +kernel
theorem dX0_readClause_14 : decode cX0_readClause 14 = .ok (.iconst 0, 1) := by decide +kernel
theorem dX0_readClause_15 : decode cX0_readClause 15 = .ok (.invokevirtual 53, 3) := by decide +kernel
theorem dX0_readClause_18 : decode cX0_readClause 18 = .ok (.ireturn, 1) := by decide +kernel
theorem dX0_readClause_19 : decode cX0_readClause 19 = .ok (.iload_n 2, 1) := by decide +kernel
theorem dX0_readClause_20 : decode cX0_readClause 20 = .ok (.ifCond .ne 7, 3) := by decide +kernel
theorem dX0_readClause_23 : decode cX0_readClause 23 = .ok (.iconst 1, 1) := by decide +kernel
theorem dX0_readClause_24 : decode cX0_readClause 24 = .ok (.goto 4, 3) := by decide +kernel
theorem dX0_readClause_27 : decode cX0_readClause 27 = .ok (.iconst 0, 1) := by decide +kernel
theorem dX0_readClause_28 : decode cX0_readClause 28 = .ok (.iload_n 1, 1) := by decide +kernel
theorem dX0_readClause_29 : decode cX0_readClause 29 = .ok (.ifCond .ne 7, 3) := by decide +kernel
theorem dX0_readClause_32 : decode cX0_readClause 32 = .ok (.iconst 1, 1) := by decide +kernel
theorem dX0_readClause_33 : decode cX0_readClause 33 = .ok (.goto 4, 3) := by decide +kernel
theorem dX0_readClause_36 : decode cX0_readClause 36 = .ok (.iconst 0, 1) := by decide +kernel
theorem dX0_readClause_37 : decode cX0_readClause 37 = .ok (.if_icmp .ne 7, 3) := by decide +kernel
theorem dX0_readClause_40 : decode cX0_readClause 40 = .ok (.iconst 1, 1) := by decide +kernel
theorem dX0_readClause_41 : decode cX0_readClause 41 = .ok (.goto 4, 3) := by decide +kernel
theorem dX0_readClause_44 : decode cX0_readClause 44 = .ok (.iconst 0, 1) := by decide +kernel
theorem dX0_readClause_45 : decode cX0_readClause 45 = .ok (.istore_n 3, 1) := by decide +kernel
theorem dX0_readClause_46 : decode cX0_readClause 46 = .ok (.iload_n 1, 1) := by decide +kernel
theorem dX0_readClause_47 : decode cX0_readClause 47 = .ok (.bipush 40, 2) := by decide +kernel
theorem dX0_readClause_49 : decode cX0_readClause 49 = .ok (.if_icmp .ge 15, 3) := by decide +kernel
theorem dX0_readClause_52 : decode cX0_readClause 52 = .ok (.iload_n 3, 1) := by decide +kernel
theorem dX0_readClause_53 : decode cX0_readClause 53 = .ok (.ifCond .eq 11, 3) := by decide +kernel
theorem dX0_readClause_56 : decode cX0_readClause 56 = .ok (.aload_n 0, 1) := by decide +kernel
theorem dX0_readClause_57 : decode cX0_readClause 57 = .ok (.iload_n 2, 1) := by decide +kernel
theorem dX0_readClause_58 : decode cX0_readClause 58 = .ok (.invokevirtual 96, 3) := by decide +kernel
theorem dX0_readClause_61 : decode cX0_readClause 61 = .ok (.ifCond .ne 12, 3) := by decide +kernel
theorem dX0_readClause_64 : decode cX0_readClause 64 = .ok (.aload_n 0, 1) := by decide +kernel
theorem dX0_readClause_65 : decode cX0_readClause 65 = .ok (.getfield 25, 3) := by decide +kernel
theorem dX0_readClause_68 : decode cX0_readClause 68 = .ok (.iconst 4, 1) := by decide +kernel
theorem dX0_readClause_69 : decode cX0_readClause 69 = .ok (.invokevirtual 53, 3) := by decide +kernel
theorem dX0_readClause_72 : decode cX0_readClause 72 = .ok (.ireturn, 1) := by decide +kernel
theorem dX0_readClause_73 : decode cX0_readClause 73 = .ok (.iload_n 2, 1) := by decide +kernel
theorem dX0_readClause_74 : decode cX0_readClause 74 = .ok (.tableswitch 59 0 4 #[34, 39, 44, 49, 54], 34) := by decide +kernel
theorem dX0_readClause_108 : decode cX0_readClause 108 = .ok (.aload_n 0, 1) := by decide +kernel
theorem dX0_readClause_109 : decode cX0_readClause 109 = .ok (.invokevirtual 99, 3) := by decide +kernel
theorem dX0_readClause_112 : decode cX0_readClause 112 = .ok (.ireturn, 1) := by decide +kernel
theorem dX0_readClause_113 : decode cX0_readClause 113 = .ok (.aload_n 0, 1) := by decide +kernel
theorem dX0_readClause_114 : decode cX0_readClause 114 = .ok (.invokevirtual 102, 3) := by decide +kernel
theorem dX0_readClause_117 : decode cX0_readClause 117 = .ok (.ireturn, 1) := by decide +kernel
theorem dX0_readClause_118 : decode cX0_readClause 118 = .ok (.aload_n 0, 1) := by decide +kernel
theorem dX0_readClause_119 : decode cX0_readClause 119 = .ok (.invokevirtual 105, 3) := by decide +kernel
theorem dX0_readClause_122 : decode cX0_readClause 122 = .ok (.ireturn, 1) := by decide +kernel
theorem dX0_readClause_123 : decode cX0_readClause 123 = .ok (.aload_n 0, 1) := by decide +kernel
theorem dX0_readClause_124 : decode cX0_readClause 124 = .ok (.invokevirtual 108, 3) := by decide +kernel
theorem dX0_readClause_127 : decode cX0_readClause 127 = .ok (.ireturn, 1) := by decide +kernel
theorem dX0_readClause_128 : decode cX0_readClause 128 = .ok (.aload_n 0, 1) := by decide +kernel
theorem dX0_readClause_129 : decode cX0_readClause 129 = .ok (.invokevirtual 111, 3) := by decide +kernel
theorem dX0_readClause_132 : decode cX0_readClause 132 = .ok (.ireturn, 1) := by decide +kernel
theorem dX0_readClause_133 : decode cX0_readClause 133 = .ok (.aload_n 0, 1) := by decide +kernel
theorem dX0_readClause_134 : decode cX0_readClause 134 = .ok (.invokevirtual 114, 3) := by decide +kernel
theorem dX0_readClause_137 : decode cX0_readClause 137 = .ok (.ireturn, 1) := by decide +kernel
def wp_X0_readClause_64 (S : Sh) (post : Int → Mm → Prop) (u0 : Int) (M : Mm) : Prop := wGetR S M u0 0 0 fun v1 => wC 4 fun v3 => isK S v1 7 ∧ (wp_X7_refuse S M v1 v3 <| fun v6 M5 => (v6 = 0 ∨ v6 = 1) ∧ post v6 M5)
def wp_X0_readClause_45 (S : Sh) (post : Int → Mm → Prop) (u0 : Int) (u1 : Int) (u2 : Int) (t0 : Int) (M : Mm) : Prop := wC 40 fun v8 => wIf (v8 ≤ u1) (wp_X0_readClause_64 S post u0 M) (wIf (t0 = 0) (wp_X0_readClause_64 S post u0 M) (isK S u0 0 ∧ (wp_X0_hasRoomFor S M u0 u2 <| fun v11 M10 => wIf (¬ v11 = 0) (wIf (u2 = 0) (isK S u0 0 ∧ (wp_X0_readDairy S M10 u0 <| fun v14 M13 => (v14 = 0 ∨ v14 = 1) ∧ post v14 M13)) (wIf (u2 = 1) (isK S u0 0 ∧ (wp_X0_readRoad S M10 u0 <| fun v17 M16 => (v17 = 0 ∨ v17 = 1) ∧ post v17 M16)) (wIf (u2 = 2) (isK S u0 0 ∧ (wp_X0_readHand S M10 u0 <| fun v20 M19 => (v20 = 0 ∨ v20 = 1) ∧ post v20 M19)) (wIf (u2 = 3) (isK S u0 0 ∧ (wp_X0_readJug S M10 u0 <| fun v23 M22 => (v23 = 0 ∨ v23 = 1) ∧ post v23 M22)) (wIf (u2 = 4) (isK S u0 0 ∧ (wp_X0_readHeat S M10 u0 <| fun v26 M25 => (v26 = 0 ∨ v26 = 1) ∧ post v26 M25)) (isK S u0 0 ∧ (wp_X0_readWant S M10 u0 <| fun v29 M28 => (v29 = 0 ∨ v29 = 1) ∧ post v29 M28))))))) (wp_X0_readClause_64 S post u0 M10))))
def wp_X0_readClause_37 (S : Sh) (post : Int → Mm → Prop) (u0 : Int) (u1 : Int) (u2 : Int) (t0 : Int) (t1 : Int) (M : Mm) : Prop := wIf (¬ t0 = t1) (wC 0 fun v31 => wp_X0_readClause_45 S post u0 u1 u2 v31 M) (wC 1 fun v33 => wp_X0_readClause_45 S post u0 u1 u2 v33 M)
def wp_X0_readClause_28 (S : Sh) (post : Int → Mm → Prop) (u0 : Int) (u1 : Int) (u2 : Int) (t0 : Int) (M : Mm) : Prop := wIf (¬ u1 = 0) (wC 0 fun v35 => wp_X0_readClause_37 S post u0 u1 u2 t0 v35 M) (wC 1 fun v37 => wp_X0_readClause_37 S post u0 u1 u2 t0 v37 M)
def wp_X0_readClause (S : Sh) (M : Mm) (u0 : Int) (u1 : Int) (post : Int → Mm → Prop) : Prop := isK S u0 0 ∧ (wp_X0_takeKind S M u0 <| fun v40 M39 => wC (-1) fun v42 => wIf (¬ v40 = v42) (wIf (¬ v40 = 0) (wC 0 fun v44 => wp_X0_readClause_28 S post u0 u1 v40 v44 M39) (wC 1 fun v46 => wp_X0_readClause_28 S post u0 u1 v40 v46 M39)) (wGetR S M39 u0 0 0 fun v48 => wC 0 fun v50 => isK S v48 7 ∧ (wp_X7_refuse S M39 v48 v50 <| fun v53 M52 => (v53 = 0 ∨ v53 = 1) ∧ post v53 M52)))
set_option maxHeartbeats 4000000 in
set_option maxRecDepth 100000 in
theorem t_X0_readClause_64 {p : Program} {l : Launch} {e : Env} {s : State} {m : MethodId} {args : Array Value} {below : List Frame} {meth : Method} {c : Code} {D : va_G} {G : Gt} {S : Sh} {post : Int → Mm → Prop} (C : Cx p s m args meth c D G cX0_readClause 4 (some .boolean) (cw_X0_readClause :: gw) RX0) : ∀ (xl0 : Int) (M : Mm) (H : Heap) (locs : List Loc) (ls : Array Slot), Wd D G S M H → va_S (aG G) s.heap H locs → lv_has ls 4 [(0, .ref (adr G xl0))] → wp_X0_readClause_64 S post xl0  M → W p l e RM_X0_readClause s m args below meth c H locs 0 0 (MQ below (QI D G S post) args s 0 0 (aG G)) (F0 m 64 ls []) := by
  obtain ⟨hx, hb, hr, hlocks, hml, hown, hts, hK⟩ := id C
  intro xl0 M H locs ls hP hS hl h
  unfold wp_X0_readClause_64 at h
  refine lv_aload_n hx hb dX0_readClause_64 rfl (lv_at hl 0 rfl) ?_
  refine r_getr (C := RX0) (T := TX0) (N := 3) hx hb hts (fun w h => List.mem_cons_of_mem _ (iX0 w h)) hown hK hP rfl (by decide) rfl 0 (by decide) (hts _ (List.mem_cons_of_mem _ kw_289)) (fun _ h9 => h9) dX0_readClause_65 (by decide) h (fun x2 h => ?_)
  refine r_iconst hx hb dX0_readClause_68 (by decide) h (fun z4 h => ?_)
  refine q_Vi hx hb hml hown hts hK hP hS (c_X7_refuse l D G S _ x2 z4 _ h.2) ⟨callB_of 1 hts (gw_good kw_657) rfl rfl rfl (hts _ (List.mem_cons_of_mem _ kw_2)) (hts _ (List.mem_cons_of_mem _ kw_654)) hd_X7_refuse ⟨Nat.le_of_ble_eq_true rfl, Nat.le_of_ble_eq_true rfl⟩, (hts _ (List.mem_cons_of_mem _ kw_655)), (hts _ (List.mem_cons_of_mem _ kw_656))⟩ h.1 (ci := 7) rfl (by decide) rfl hl.1 rfl (lv_room (Nat.le_of_ble_eq_true rfl)) dX0_readClause_69 ⟨Nat.zero_le _, Nat.zero_le _⟩ (fun z7 M5 H locs h hP hS => ?_)
  exact r_zret hx hb hr hlocks hP hS dX0_readClause_72 h
set_option maxHeartbeats 4000000 in
set_option maxRecDepth 100000 in
theorem t_X0_readClause_45 {p : Program} {l : Launch} {e : Env} {s : State} {m : MethodId} {args : Array Value} {below : List Frame} {meth : Method} {c : Code} {D : va_G} {G : Gt} {S : Sh} {post : Int → Mm → Prop} (C : Cx p s m args meth c D G cX0_readClause 4 (some .boolean) (cw_X0_readClause :: gw) RX0) : ∀ (xl0 : Int) (zl1 : Int32) (zl2 : Int32) (zs0 : Int32) (M : Mm) (H : Heap) (locs : List Loc) (ls : Array Slot), Wd D G S M H → va_S (aG G) s.heap H locs → lv_has ls 4 [(0, .ref (adr G xl0)), (1, .int zl1), (2, .int zl2)] → wp_X0_readClause_45 S post xl0 zl1.toInt zl2.toInt zs0.toInt M → W p l e RM_X0_readClause s m args below meth c H locs 0 0 (MQ below (QI D G S post) args s 0 0 (aG G)) (F0 m 45 ls [.int zs0]) := by
  obtain ⟨hx, hb, hr, hlocks, hml, hown, hts, hK⟩ := id C
  intro xl0 zl1 zl2 zs0 M H locs ls hP hS hl h
  unfold wp_X0_readClause_45 at h
  refine lv_istore_n (lv' := [(3, .int zs0), (0, .ref (adr G xl0)), (1, .int zl1), (2, .int zl2)]) hx hb dX0_readClause_45 rfl hl (by decide) rfl (fun ls hl => ?_)
  refine lv_iload_n hx hb dX0_readClause_46 rfl (lv_at hl 2 rfl) ?_
  refine r_bipush hx hb dX0_readClause_47 (by decide) h (fun z9 h => ?_)
  refine r_icmp_ge (tgt := 64) hx hb dX0_readClause_49 (by decide) h (fun h => ?_) (fun h => ?_)
  · exact t_X0_readClause_64 C xl0 _ _ _ _ hP hS (lv_sub hl [1] rfl) h
  · refine lv_iload_n hx hb dX0_readClause_52 rfl (lv_at hl 0 rfl) ?_
    refine r_if_eq (tgt := 64) hx hb dX0_readClause_53 (by decide) h (fun h => ?_) (fun h => ?_)
    · exact t_X0_readClause_64 C xl0 _ _ _ _ hP hS (lv_sub hl [1] rfl) h
    · refine lv_aload_n hx hb dX0_readClause_56 rfl (lv_at hl 1 rfl) ?_
      refine lv_iload_n hx hb dX0_readClause_57 rfl (lv_at hl 3 rfl) ?_
      refine q_Vi hx hb hml hown hts hK hP hS (c_X0_hasRoomFor l D G S _ xl0 zl2 _ h.2) ⟨callB_of 1 hts (gw_good kw_661) rfl rfl rfl (hts _ (List.mem_cons_of_mem _ kw_7)) (hts _ (List.mem_cons_of_mem _ kw_658)) hd_X0_hasRoomFor ⟨Nat.le_of_ble_eq_true rfl, Nat.le_of_ble_eq_true rfl⟩, (hts _ (List.mem_cons_of_mem _ kw_660)), (hts _ (List.mem_cons_of_mem _ kp_3))⟩ h.1 (ci := 0) rfl (by decide) rfl hl.1 rfl (lv_room (Nat.le_of_ble_eq_true rfl)) dX0_readClause_58 ⟨Nat.zero_le _, Nat.zero_le _⟩ (fun z12 M10 H locs h hP hS => ?_)
      refine r_if_ne (tgt := 73) hx hb dX0_readClause_61 (by decide) h (fun h => ?_) (fun h => ?_)
      · refine lv_iload_n hx hb dX0_readClause_73 rfl (lv_at hl 3 rfl) ?_
        refine sw (c := zl2.toInt = 0) h (fun e0 h => ?_) (fun e0 h => ?_)
        · refine lv_tableIn (tgt := 108) hx hb dX0_readClause_74 (by omega) (by omega) (by rw [e0]; rfl) (by decide) ?_
          refine lv_aload_n hx hb dX0_readClause_108 rfl (lv_at hl 1 rfl) ?_
          refine q_Vi hx hb hml hown hts hK hP hS (c_X0_readDairy l D G S _ xl0 _ h.2) ⟨callB_of 0 hts (gw_good kw_665) rfl rfl rfl (hts _ (List.mem_cons_of_mem _ kw_7)) (hts _ (List.mem_cons_of_mem _ kw_662)) hd_X0_readDairy ⟨Nat.le_of_ble_eq_true rfl, Nat.le_of_ble_eq_true rfl⟩, (hts _ (List.mem_cons_of_mem _ kw_664)), (hts _ (List.mem_cons_of_mem _ kp_4))⟩ h.1 (ci := 0) rfl (by decide) rfl hl.1 rfl (lv_room (Nat.le_of_ble_eq_true rfl)) dX0_readClause_109 ⟨Nat.zero_le _, Nat.zero_le _⟩ (fun z15 M13 H locs h hP hS => ?_)
          exact r_zret hx hb hr hlocks hP hS dX0_readClause_112 h
        · refine sw (c := zl2.toInt = 1) h (fun e1 h => ?_) (fun e1 h => ?_)
          · refine lv_tableIn (tgt := 113) hx hb dX0_readClause_74 (by omega) (by omega) (by rw [e1]; rfl) (by decide) ?_
            refine lv_aload_n hx hb dX0_readClause_113 rfl (lv_at hl 1 rfl) ?_
            refine q_Vi hx hb hml hown hts hK hP hS (c_X0_readRoad l D G S _ xl0 _ h.2) ⟨callB_of 0 hts (gw_good kw_677) rfl rfl rfl (hts _ (List.mem_cons_of_mem _ kw_7)) (hts _ (List.mem_cons_of_mem _ kw_674)) hd_X0_readRoad ⟨Nat.le_of_ble_eq_true rfl, Nat.le_of_ble_eq_true rfl⟩, (hts _ (List.mem_cons_of_mem _ kw_676)), (hts _ (List.mem_cons_of_mem _ kp_5))⟩ h.1 (ci := 0) rfl (by decide) rfl hl.1 rfl (lv_room (Nat.le_of_ble_eq_true rfl)) dX0_readClause_114 ⟨Nat.zero_le _, Nat.zero_le _⟩ (fun z18 M16 H locs h hP hS => ?_)
            exact r_zret hx hb hr hlocks hP hS dX0_readClause_117 h
          · refine sw (c := zl2.toInt = 2) h (fun e2 h => ?_) (fun e2 h => ?_)
            · refine lv_tableIn (tgt := 118) hx hb dX0_readClause_74 (by omega) (by omega) (by rw [e2]; rfl) (by decide) ?_
              refine lv_aload_n hx hb dX0_readClause_118 rfl (lv_at hl 1 rfl) ?_
              refine q_Vi hx hb hml hown hts hK hP hS (c_X0_readHand l D G S _ xl0 _ h.2) ⟨callB_of 0 hts (gw_good kw_696) rfl rfl rfl (hts _ (List.mem_cons_of_mem _ kw_7)) (hts _ (List.mem_cons_of_mem _ kw_693)) hd_X0_readHand ⟨Nat.le_of_ble_eq_true rfl, Nat.le_of_ble_eq_true rfl⟩, (hts _ (List.mem_cons_of_mem _ kw_695)), (hts _ (List.mem_cons_of_mem _ kp_7))⟩ h.1 (ci := 0) rfl (by decide) rfl hl.1 rfl (lv_room (Nat.le_of_ble_eq_true rfl)) dX0_readClause_119 ⟨Nat.zero_le _, Nat.zero_le _⟩ (fun z21 M19 H locs h hP hS => ?_)
              exact r_zret hx hb hr hlocks hP hS dX0_readClause_122 h
            · refine sw (c := zl2.toInt = 3) h (fun e3 h => ?_) (fun e3 h => ?_)
              · refine lv_tableIn (tgt := 123) hx hb dX0_readClause_74 (by omega) (by omega) (by rw [e3]; rfl) (by decide) ?_
                refine lv_aload_n hx hb dX0_readClause_123 rfl (lv_at hl 1 rfl) ?_
                refine q_Vi hx hb hml hown hts hK hP hS (c_X0_readJug l D G S _ xl0 _ h.2) ⟨callB_of 0 hts (gw_good kw_700) rfl rfl rfl (hts _ (List.mem_cons_of_mem _ kw_7)) (hts _ (List.mem_cons_of_mem _ kw_697)) hd_X0_readJug ⟨Nat.le_of_ble_eq_true rfl, Nat.le_of_ble_eq_true rfl⟩, (hts _ (List.mem_cons_of_mem _ kw_699)), (hts _ (List.mem_cons_of_mem _ kp_8))⟩ h.1 (ci := 0) rfl (by decide) rfl hl.1 rfl (lv_room (Nat.le_of_ble_eq_true rfl)) dX0_readClause_124 ⟨Nat.zero_le _, Nat.zero_le _⟩ (fun z24 M22 H locs h hP hS => ?_)
                exact r_zret hx hb hr hlocks hP hS dX0_readClause_127 h
              · refine sw (c := zl2.toInt = 4) h (fun e4 h => ?_) (fun e4 h => ?_)
                · refine lv_tableIn (tgt := 128) hx hb dX0_readClause_74 (by omega) (by omega) (by rw [e4]; rfl) (by decide) ?_
                  refine lv_aload_n hx hb dX0_readClause_128 rfl (lv_at hl 1 rfl) ?_
                  refine q_Vi hx hb hml hown hts hK hP hS (c_X0_readHeat l D G S _ xl0 _ h.2) ⟨callB_of 0 hts (gw_good kw_704) rfl rfl rfl (hts _ (List.mem_cons_of_mem _ kw_7)) (hts _ (List.mem_cons_of_mem _ kw_701)) hd_X0_readHeat ⟨Nat.le_of_ble_eq_true rfl, Nat.le_of_ble_eq_true rfl⟩, (hts _ (List.mem_cons_of_mem _ kw_703)), (hts _ (List.mem_cons_of_mem _ kp_9))⟩ h.1 (ci := 0) rfl (by decide) rfl hl.1 rfl (lv_room (Nat.le_of_ble_eq_true rfl)) dX0_readClause_129 ⟨Nat.zero_le _, Nat.zero_le _⟩ (fun z27 M25 H locs h hP hS => ?_)
                  exact r_zret hx hb hr hlocks hP hS dX0_readClause_132 h
                · refine lv_tableOut (tgt := 133) hx hb dX0_readClause_74 (by omega) (by decide) ?_
                  refine lv_aload_n hx hb dX0_readClause_133 rfl (lv_at hl 1 rfl) ?_
                  refine q_Vi hx hb hml hown hts hK hP hS (c_X0_readWant l D G S _ xl0 _ h.2) ⟨callB_of 0 hts (gw_good kw_708) rfl rfl rfl (hts _ (List.mem_cons_of_mem _ kw_7)) (hts _ (List.mem_cons_of_mem _ kw_705)) hd_X0_readWant ⟨Nat.le_of_ble_eq_true rfl, Nat.le_of_ble_eq_true rfl⟩, (hts _ (List.mem_cons_of_mem _ kw_707)), (hts _ (List.mem_cons_of_mem _ kp_10))⟩ h.1 (ci := 0) rfl (by decide) rfl hl.1 rfl (lv_room (Nat.le_of_ble_eq_true rfl)) dX0_readClause_134 ⟨Nat.zero_le _, Nat.zero_le _⟩ (fun z30 M28 H locs h hP hS => ?_)
                  exact r_zret hx hb hr hlocks hP hS dX0_readClause_137 h
      · exact t_X0_readClause_64 C xl0 _ _ _ _ hP hS (lv_sub hl [1] rfl) h
set_option maxHeartbeats 4000000 in
set_option maxRecDepth 100000 in
theorem t_X0_readClause_37 {p : Program} {l : Launch} {e : Env} {s : State} {m : MethodId} {args : Array Value} {below : List Frame} {meth : Method} {c : Code} {D : va_G} {G : Gt} {S : Sh} {post : Int → Mm → Prop} (C : Cx p s m args meth c D G cX0_readClause 4 (some .boolean) (cw_X0_readClause :: gw) RX0) : ∀ (xl0 : Int) (zl1 : Int32) (zl2 : Int32) (zs0 : Int32) (zs1 : Int32) (M : Mm) (H : Heap) (locs : List Loc) (ls : Array Slot), Wd D G S M H → va_S (aG G) s.heap H locs → lv_has ls 4 [(0, .ref (adr G xl0)), (1, .int zl1), (2, .int zl2)] → wp_X0_readClause_37 S post xl0 zl1.toInt zl2.toInt zs0.toInt zs1.toInt M → W p l e RM_X0_readClause s m args below meth c H locs 0 0 (MQ below (QI D G S post) args s 0 0 (aG G)) (F0 m 37 ls [.int zs1, .int zs0]) := by
  obtain ⟨hx, hb, hr, hlocks, hml, hown, hts, hK⟩ := id C
  intro xl0 zl1 zl2 zs0 zs1 M H locs ls hP hS hl h
  unfold wp_X0_readClause_37 at h
  refine r_icmp_ne (tgt := 44) hx hb dX0_readClause_37 (by decide) h (fun h => ?_) (fun h => ?_)
  · refine r_iconst hx hb dX0_readClause_44 (by decide) h (fun z32 h => ?_)
    exact t_X0_readClause_45 C xl0 zl1 zl2 z32 _ _ _ _ hP hS (lv_sub hl [0, 1, 2] rfl) h
  · refine r_iconst hx hb dX0_readClause_40 (by decide) h (fun z34 h => ?_)
    refine lv_goto (tgt := 45) hx hb dX0_readClause_41 (by decide) ?_
    exact t_X0_readClause_45 C xl0 zl1 zl2 z34 _ _ _ _ hP hS (lv_sub hl [0, 1, 2] rfl) h
set_option maxHeartbeats 4000000 in
set_option maxRecDepth 100000 in
theorem t_X0_readClause_28 {p : Program} {l : Launch} {e : Env} {s : State} {m : MethodId} {args : Array Value} {below : List Frame} {meth : Method} {c : Code} {D : va_G} {G : Gt} {S : Sh} {post : Int → Mm → Prop} (C : Cx p s m args meth c D G cX0_readClause 4 (some .boolean) (cw_X0_readClause :: gw) RX0) : ∀ (xl0 : Int) (zl1 : Int32) (zl2 : Int32) (zs0 : Int32) (M : Mm) (H : Heap) (locs : List Loc) (ls : Array Slot), Wd D G S M H → va_S (aG G) s.heap H locs → lv_has ls 4 [(0, .ref (adr G xl0)), (1, .int zl1), (2, .int zl2)] → wp_X0_readClause_28 S post xl0 zl1.toInt zl2.toInt zs0.toInt M → W p l e RM_X0_readClause s m args below meth c H locs 0 0 (MQ below (QI D G S post) args s 0 0 (aG G)) (F0 m 28 ls [.int zs0]) := by
  obtain ⟨hx, hb, hr, hlocks, hml, hown, hts, hK⟩ := id C
  intro xl0 zl1 zl2 zs0 M H locs ls hP hS hl h
  unfold wp_X0_readClause_28 at h
  refine lv_iload_n hx hb dX0_readClause_28 rfl (lv_at hl 1 rfl) ?_
  refine r_if_ne (tgt := 36) hx hb dX0_readClause_29 (by decide) h (fun h => ?_) (fun h => ?_)
  · refine r_iconst hx hb dX0_readClause_36 (by decide) h (fun z36 h => ?_)
    exact t_X0_readClause_37 C xl0 zl1 zl2 zs0 z36 _ _ _ _ hP hS (lv_sub hl [0, 1, 2] rfl) h
  · refine r_iconst hx hb dX0_readClause_32 (by decide) h (fun z38 h => ?_)
    refine lv_goto (tgt := 37) hx hb dX0_readClause_33 (by decide) ?_
    exact t_X0_readClause_37 C xl0 zl1 zl2 zs0 z38 _ _ _ _ hP hS (lv_sub hl [0, 1, 2] rfl) h
set_option maxHeartbeats 4000000 in
set_option maxRecDepth 100000 in
theorem c_X0_readClause (l : Launch) (D : va_G) (G : Gt) (S : Sh) (M : Mm) (xl0 : Int) (zl1 : Int32) (post : Int → Mm → Prop) (h : wp_X0_readClause S M xl0 zl1.toInt post) : Met l yX0_readClause (cw_X0_readClause :: gw) RM_X0_readClause (va_Pc [.ref (adr G xl0), .int zl1] (fun U => KN D G U ∧ Wd D G S M U.heap)) (QI D G S post) 0 0 (aG G) := by
  refine Met.ofW (cc := cX0_readClause) (maxL := 4) (ret := (some .boolean)) (by decide) rfl ?_
  intro p e s m args below meth c s₁ B hml hv
  obtain ⟨rfl, hK, hP⟩ := hv
  have hx := B.exec
  have hb := B.bytes
  have hr := B.returns
  have hts := atoms_spec (ws := cw_X0_readClause :: gw) B.pre
  have hown : s.vm.findClass RX0 = some m.cls := findClass_of_methodNamed B.named
  have hlocks := B.notSynchronized
  have hS : va_S (aG G) s.heap s.heap [] := va_S.rf
  have C : Cx p s m ([.ref (adr G xl0), .int zl1] : List Value).toArray meth c D G cX0_readClause 4 (some .boolean) (cw_X0_readClause :: gw) RX0 := ⟨hx, hb, hr, hlocks, hml, hown, hts, hK⟩
  have hl := lv_entry ([.ref (adr G xl0), .int zl1]) (n := 4) (Nat.le_of_ble_eq_true rfl)
  rw [lg_entry_eq]
  generalize (lg_sl ([.ref (adr G xl0), .int zl1]) ++ List.replicate (4 - (lg_sl ([.ref (adr G xl0), .int zl1])).length) Slot.unset).toArray = ls at hl ⊢
  have hl : lv_has ls 4 [(0, .ref (adr G xl0)), (1, .int zl1)] := hl
  unfold wp_X0_readClause at h
  refine lv_aload_n hx hb dX0_readClause_0 rfl (lv_at hl 0 rfl) ?_
  refine q_Vi hx hb hml hown hts hK hP hS (c_X0_takeKind l D G S _ xl0 _ h.2) ⟨callB_of 0 hts (gw_good kw_584) rfl rfl rfl (hts _ (List.mem_cons_of_mem _ kw_7)) (hts _ (List.mem_cons_of_mem _ kw_581)) hd_X0_takeKind ⟨Nat.le_of_ble_eq_true rfl, Nat.le_of_ble_eq_true rfl⟩, (hts _ (List.mem_cons_of_mem _ kw_583)), (hts _ (List.mem_cons_of_mem _ kp_1))⟩ h.1 (ci := 0) rfl (by decide) rfl hl.1 rfl (lv_room (Nat.le_of_ble_eq_true rfl)) dX0_readClause_1 ⟨Nat.zero_le _, Nat.zero_le _⟩ (fun z41 M39 H locs h hP hS => ?_)
  refine lv_istore_n (lv' := [(2, .int z41), (0, .ref (adr G xl0)), (1, .int zl1)]) hx hb dX0_readClause_4 rfl hl (by decide) rfl (fun ls hl => ?_)
  refine lv_iload_n hx hb dX0_readClause_5 rfl (lv_at hl 0 rfl) ?_
  refine r_iconst hx hb dX0_readClause_6 (by decide) h (fun z43 h => ?_)
  refine r_icmp_ne (tgt := 19) hx hb dX0_readClause_7 (by decide) h (fun h => ?_) (fun h => ?_)
  · refine lv_iload_n hx hb dX0_readClause_19 rfl (lv_at hl 0 rfl) ?_
    refine r_if_ne (tgt := 27) hx hb dX0_readClause_20 (by decide) h (fun h => ?_) (fun h => ?_)
    · refine r_iconst hx hb dX0_readClause_27 (by decide) h (fun z45 h => ?_)
      exact t_X0_readClause_28 C xl0 zl1 z41 z45 _ _ _ _ hP hS (lv_sub hl [1, 2, 0] rfl) h
    · refine r_iconst hx hb dX0_readClause_23 (by decide) h (fun z47 h => ?_)
      refine lv_goto (tgt := 28) hx hb dX0_readClause_24 (by decide) ?_
      exact t_X0_readClause_28 C xl0 zl1 z41 z47 _ _ _ _ hP hS (lv_sub hl [1, 2, 0] rfl) h
  · refine lv_aload_n hx hb dX0_readClause_10 rfl (lv_at hl 1 rfl) ?_
    refine r_getr (C := RX0) (T := TX0) (N := 3) hx hb hts (fun w h => List.mem_cons_of_mem _ (iX0 w h)) hown hK hP rfl (by decide) rfl 0 (by decide) (hts _ (List.mem_cons_of_mem _ kw_289)) (fun _ h9 => h9) dX0_readClause_11 (by decide) h (fun x49 h => ?_)
    refine r_iconst hx hb dX0_readClause_14 (by decide) h (fun z51 h => ?_)
    refine q_Vi hx hb hml hown hts hK hP hS (c_X7_refuse l D G S _ x49 z51 _ h.2) ⟨callB_of 1 hts (gw_good kw_657) rfl rfl rfl (hts _ (List.mem_cons_of_mem _ kw_2)) (hts _ (List.mem_cons_of_mem _ kw_654)) hd_X7_refuse ⟨Nat.le_of_ble_eq_true rfl, Nat.le_of_ble_eq_true rfl⟩, (hts _ (List.mem_cons_of_mem _ kw_655)), (hts _ (List.mem_cons_of_mem _ kw_656))⟩ h.1 (ci := 7) rfl (by decide) rfl hl.1 rfl (lv_room (Nat.le_of_ble_eq_true rfl)) dX0_readClause_15 ⟨Nat.zero_le _, Nat.zero_le _⟩ (fun z54 M52 H locs h hP hS => ?_)
    exact r_zret hx hb hr hlocks hP hS dX0_readClause_18 h
/-! TurningMilk$Tape.isAtEnd()Z -/
abbrev RM_X7_isAtEnd : Room := { frames := 2, cells := 0, slots := 0, locals := 60 }
def cw_X7_isAtEnd : Cond := Cond.code yX7_isAtEnd cX7_isAtEnd 1 (Option.some FieldType.boolean)
theorem hd_X7_isAtEnd : yX7_isAtEnd.cls ≠ "java/lang/invoke/MethodHandle" ∧ yX7_isAtEnd.cls ≠ "java/lang/invoke/VarHandle" ∧ (parseMethodDescriptor yX7_isAtEnd.desc).map (fun d => d.parameters.length) = some 0 := by decide +kernel
theorem dX7_isAtEnd_0 : decode cX7_isAtEnd 0 = .ok (.aload_n 0, 1) := by decide +kernel
theorem dX7_isAtEnd_1 : decode cX7_isAtEnd 1 = .ok (.invokevirtual 28, 3) := by decide +kernel
theorem dX7_isAtEnd_4 : decode cX7_isAtEnd 4 = .ok (.iconst (-1), 1) := by decide +kernel
theorem dX7_isAtEnd_5 : decode cX7_isAtEnd 5 = .ok (.if_icmp .ne 7, 3) := by decide +kernel
theorem dX7_isAtEnd_8 : decode cX7_isAtEnd 8 = .ok (.iconst 1, 1) := by decide +kernel
theorem dX7_isAtEnd_9 : decode cX7_isAtEnd 9 = .ok (.goto 4, 3) := by decide +kernel
theorem dX7_isAtEnd_12 : decode cX7_isAtEnd 12 = .ok (.iconst 0, 1) := by decide +kernel
theorem dX7_isAtEnd_13 : decode cX7_isAtEnd 13 = .ok (.ireturn, 1) := by decide +kernel
def wp_X7_isAtEnd (S : Sh) (M : Mm) (u0 : Int) (post : Int → Mm → Prop) : Prop := isK S u0 7 ∧ (wp_X7_look S M u0 <| fun v2 M1 => wC (-1) fun v4 => wIf (¬ v2 = v4) (wC 0 fun v6 => (v6 = 0 ∨ v6 = 1) ∧ post v6 M1) (wC 1 fun v8 => (v8 = 0 ∨ v8 = 1) ∧ post v8 M1))
set_option maxHeartbeats 4000000 in
set_option maxRecDepth 100000 in
theorem c_X7_isAtEnd (l : Launch) (D : va_G) (G : Gt) (S : Sh) (M : Mm) (xl0 : Int) (post : Int → Mm → Prop) (h : wp_X7_isAtEnd S M xl0 post) : Met l yX7_isAtEnd (cw_X7_isAtEnd :: gw) RM_X7_isAtEnd (va_Pc [.ref (adr G xl0)] (fun U => KN D G U ∧ Wd D G S M U.heap)) (QI D G S post) 0 0 (aG G) := by
  refine Met.ofW (cc := cX7_isAtEnd) (maxL := 1) (ret := (some .boolean)) (by decide) rfl ?_
  intro p e s m args below meth c s₁ B hml hv
  obtain ⟨rfl, hK, hP⟩ := hv
  have hx := B.exec
  have hb := B.bytes
  have hr := B.returns
  have hts := atoms_spec (ws := cw_X7_isAtEnd :: gw) B.pre
  have hown : s.vm.findClass RX7 = some m.cls := findClass_of_methodNamed B.named
  have hlocks := B.notSynchronized
  have hS : va_S (aG G) s.heap s.heap [] := va_S.rf
  have C : Cx p s m ([.ref (adr G xl0)] : List Value).toArray meth c D G cX7_isAtEnd 1 (some .boolean) (cw_X7_isAtEnd :: gw) RX7 := ⟨hx, hb, hr, hlocks, hml, hown, hts, hK⟩
  have hl := lv_entry ([.ref (adr G xl0)]) (n := 1) (Nat.le_of_ble_eq_true rfl)
  rw [lg_entry_eq]
  generalize (lg_sl ([.ref (adr G xl0)]) ++ List.replicate (1 - (lg_sl ([.ref (adr G xl0)])).length) Slot.unset).toArray = ls at hl ⊢
  have hl : lv_has ls 1 [(0, .ref (adr G xl0))] := hl
  unfold wp_X7_isAtEnd at h
  refine lv_aload_n hx hb dX7_isAtEnd_0 rfl (lv_at hl 0 rfl) ?_
  refine q_Vi hx hb hml hown hts hK hP hS (c_X7_look l D G S _ xl0 _ h.2) ⟨callB_of 0 hts (gw_good kw_601) rfl rfl rfl (hts _ (List.mem_cons_of_mem _ kw_2)) (hts _ (List.mem_cons_of_mem _ kw_598)) hd_X7_look ⟨Nat.le_of_ble_eq_true rfl, Nat.le_of_ble_eq_true rfl⟩, (hts _ (List.mem_cons_of_mem _ kw_599)), (hts _ (List.mem_cons_of_mem _ kw_600))⟩ h.1 (ci := 7) rfl (by decide) rfl hl.1 rfl (lv_room (Nat.le_of_ble_eq_true rfl)) dX7_isAtEnd_1 ⟨Nat.zero_le _, Nat.zero_le _⟩ (fun z3 M1 H locs h hP hS => ?_)
  refine r_iconst hx hb dX7_isAtEnd_4 (by decide) h (fun z5 h => ?_)
  refine r_icmp_ne (tgt := 12) hx hb dX7_isAtEnd_5 (by decide) h (fun h => ?_) (fun h => ?_)
  · refine r_iconst hx hb dX7_isAtEnd_12 (by decide) h (fun z7 h => ?_)
    exact r_zret hx hb hr hlocks hP hS dX7_isAtEnd_13 h
  · refine r_iconst hx hb dX7_isAtEnd_8 (by decide) h (fun z9 h => ?_)
    refine lv_goto (tgt := 13) hx hb dX7_isAtEnd_9 (by decide) ?_
    exact r_zret hx hb hr hlocks hP hS dX7_isAtEnd_13 h
/-! TurningMilk$Told.measureWays()V -/
abbrev RM_X8_measureWays : Room := { frames := 3, cells := 0, slots := 0, locals := 83 }
def cw_X8_measureWays : Cond := Cond.code yX8_measureWays cX8_measureWays 5 (Option.none : Option FieldType)
theorem hd_X8_measureWays : yX8_measureWays.cls ≠ "java/lang/invoke/MethodHandle" ∧ yX8_measureWays.cls ≠ "java/lang/invoke/VarHandle" ∧ (parseMethodDescriptor yX8_measureWays.desc).map (fun d => d.parameters.length) = some 0 := by decide +kernel
theorem dX8_measureWays_0 : decode cX8_measureWays 0 = .ok (.iconst 0, 1) := by decide +kernel
theorem dX8_measureWays_1 : decode cX8_measureWays 1 = .ok (.istore_n 1, 1) := by decide +kernel
theorem dX8_measureWays_2 : decode cX8_measureWays 2 = .ok (.iload_n 1, 1) := by decide +kernel
theorem dX8_measureWays_3 : decode cX8_measureWays 3 = .ok (.aload_n 0, 1) := by decide +kernel
theorem dX8_measureWays_4 : decode cX8_measureWays 4 = .ok (.getfield 45, 3) := by decide +kernel
theorem dX8_measureWays_7 : decode cX8_measureWays 7 = .ok (.if_icmp .ge 62, 3) := by decide +kernel
theorem dX8_measureWays_10 : decode cX8_measureWays 10 = .ok (.iconst 0, 1) := by decide +kernel
theorem dX8_measureWays_11 : decode cX8_measureWays 11 = .ok (.istore_n 2, 1) := by decide +kernel
theorem dX8_measureWays_12 : decode cX8_measureWays 12 = .ok (.iload_n 2, 1) := by decide +kernel
theorem dX8_measureWays_13 : decode cX8_measureWays 13 = .ok (.aload_n 0, 1) := by decide +kernel
theorem dX8_measureWays_14 : decode cX8_measureWays 14 = .ok (.getfield 45, 3) := by decide +kernel
theorem dX8_measureWays_17 : decode cX8_measureWays 17 = .ok (.if_icmp .ge 46, 3) := by decide +kernel
theorem dX8_measureWays_20 : decode cX8_measureWays 20 = .ok (.aload_n 0, 1) := by decide +kernel
theorem dX8_measureWays_21 : decode cX8_measureWays 21 = .ok (.iload_n 1, 1) := by decide +kernel
theorem dX8_measureWays_22 : decode cX8_measureWays 22 = .ok (.iload_n 2, 1) := by decide +kernel
theorem dX8_measureWays_23 : decode cX8_measureWays 23 = .ok (.invokevirtual 86, 3) := by decide +kernel
theorem dX8_measureWays_26 : decode cX8_measureWays 26 = .ok (.istore_n 3, 1) := by decide +kernel
theorem dX8_measureWays_27 : decode cX8_measureWays 27 = .ok (.aload_n 0, 1) := by decide +kernel
theorem dX8_measureWays_28 : decode cX8_measureWays 28 = .ok (.getfield 15, 3) := by decide +kernel
theorem dX8_measureWays_31 : decode cX8_measureWays 31 = .ok (.iload_n 1, 1) := by decide +kernel
theorem dX8_measureWays_32 : decode cX8_measureWays 32 = .ok (.iload_n 2, 1) := by decide +kernel
theorem dX8_measureWays_33 : decode cX8_measureWays 33 = .ok (.invokestatic 82, 3) := by decide +kernel
theorem dX8_measureWays_36 : decode cX8_measureWays 36 = .ok (.iload_n 1, 1) := by decide +kernel
theorem dX8_measureWays_37 : decode cX8_measureWays 37 = .ok (.iload_n 2, 1) := by decide +kernel
theorem dX8_measureWays_38 : decode cX8_measureWays 38 = .ok (.if_icmp .ne 7, 3) := by decide +kernel
theorem dX8_measureWays_41 : decode cX8_measureWays 41 = .ok (.iconst 0, 1) := by decide +kernel
theorem dX8_measureWays_42 : decode cX8_measureWays 42 = .ok (.goto 14, 3) := by decide +kernel
theorem dX8_measureWays_45 : decode cX8_measureWays 45 = .ok (.iload_n 3, 1) := by decide +kernel
theorem dX8_measureWays_46 : decode cX8_measureWays 46 = .ok (.ifCond .le 7, 3) := by decide +kernel
theorem dX8_measureWays_49 : decode cX8_measureWays 49 = .ok (.iload_n 3, 1) := by decide +kernel
theorem dX8_measureWays_50 : decode cX8_measureWays 50 = .ok (.goto 6, 3) := by decide +kernel
theorem dX8_measureWays_53 : decode cX8_measureWays 53 = .ok (.sipush 1000, 3) := by decide +kernel
theorem dX8_measureWays_56 : decode cX8_measureWays 56 = .ok (.iastore, 1) := by decide +kernel
theorem dX8_measureWays_57 : decode cX8_measureWays 57 = .ok (.iinc 2 1, 3) := by decide +kernel
theorem dX8_measureWays_60 : decode cX8_measureWays 60 = .ok (.goto (-48), 3) := by decide +kernel
theorem dX8_measureWays_63 : decode cX8_measureWays 63 = .ok (.iinc 1 1, 3) := by decide +kernel
theorem dX8_measureWays_66 : decode cX8_measureWays 66 = .ok (.goto (-64), 3) := by decide +kernel
theorem dX8_measureWays_69 : decode cX8_measureWays 69 = .ok (.iconst 0, 1) := by decide +kernel
theorem dX8_measureWays_70 : decode cX8_measureWays 70 = .ok (.istore_n 1, 1) := by decide +kernel
theorem dX8_measureWays_71 : decode cX8_measureWays 71 = .ok (.iload_n 1, 1) := by decide +kernel
theorem dX8_measureWays_72 : decode cX8_measureWays 72 = .ok (.aload_n 0, 1) := by decide +kernel
theorem dX8_measureWays_73 : decode cX8_measureWays 73 = .ok (.getfield 45, 3) := by decide +kernel
theorem dX8_measureWays_76 : decode cX8_measureWays 76 = .ok (.if_icmp .ge 89, 3) := by decide +kernel
theorem dX8_measureWays_79 : decode cX8_measureWays 79 = .ok (.iconst 0, 1) := by decide +kernel
theorem dX8_measureWays_80 : decode cX8_measureWays 80 = .ok (.istore_n 2, 1) := by decide +kernel
theorem dX8_measureWays_81 : decode cX8_measureWays 81 = .ok (.iload_n 2, 1) := by decide +kernel
theorem dX8_measureWays_82 : decode cX8_measureWays 82 = .ok (.aload_n 0, 1) := by decide +kernel
theorem dX8_measureWays_83 : decode cX8_measureWays 83 = .ok (.getfield 45, 3) := by decide +kernel
theorem dX8_measureWays_86 : decode cX8_measureWays 86 = .ok (.if_icmp .ge 73, 3) := by decide +kernel
theorem dX8_measureWays_89 : decode cX8_measureWays 89 = .ok (.iconst 0, 1) := by decide +kernel
theorem dX8_measureWays_90 : decode cX8_measureWays 90 = .ok (.istore_n 3, 1) := by decide +kernel
theorem dX8_measureWays_91 : decode cX8_measureWays 91 = .ok (.iload_n 3, 1) := by decide +kernel
theorem dX8_measureWays_92 : decode cX8_measureWays 92 = .ok (.aload_n 0, 1) := by decide +kernel
theorem dX8_measureWays_93 : decode cX8_measureWays 93 = .ok (.getfield 45, 3) := by decide +kernel
theorem dX8_measureWays_96 : decode cX8_measureWays 96 = .ok (.if_icmp .ge 57, 3) := by decide +kernel
theorem dX8_measureWays_99 : decode cX8_measureWays 99 = .ok (.aload_n 0, 1) := by decide +kernel
theorem dX8_measureWays_100 : decode cX8_measureWays 100 = .ok (.getfield 15, 3) := by decide +kernel
theorem dX8_measureWays_103 : decode cX8_measureWays 103 = .ok (.iload_n 2, 1) := by decide +kernel
theorem dX8_measureWays_104 : decode cX8_measureWays 104 = .ok (.iload_n 1, 1) := by decide +kernel
theorem dX8_measureWays_105 : decode cX8_measureWays 105 = .ok (.invokestatic 82, 3) := by decide +kernel
theorem dX8_measureWays_108 : decode cX8_measureWays 108 = .ok (.iaload, 1) := by decide +kernel
theorem dX8_measureWays_109 : decode cX8_measureWays 109 = .ok (.aload_n 0, 1) := by decide +kernel
theorem dX8_measureWays_110 : decode cX8_measureWays 110 = .ok (.getfield 15, 3) := by decide +kernel
theorem dX8_measureWays_113 : decode cX8_measureWays 113 = .ok (.iload_n 1, 1) := by decide +kernel
theorem dX8_measureWays_114 : decode cX8_measureWays 114 = .ok (.iload_n 3, 1) := by decide +kernel
theorem dX8_measureWays_115 : decode cX8_measureWays 115 = .ok (.invokestatic 82, 3) := by decide +kernel
theorem dX8_measureWays_118 : decode cX8_measureWays 118 = .ok (.iaload, 1) := by decide +kernel
theorem dX8_measureWays_119 : decode cX8_measureWays 119 = .ok (.iadd, 1) := by decide +kernel
theorem dX8_measureWays_120 : decode cX8_measureWays 120 = .ok (.istore 4, 2) := by decide +kernel
theorem dX8_measureWays_122 : decode cX8_measureWays 122 = .ok (.aload_n 0, 1) := by decide +kernel
theorem dX8_measureWays_123 : decode cX8_measureWays 123 = .ok (.getfield 15, 3) := by decide +kernel
theorem dX8_measureWays_126 : decode cX8_measureWays 126 = .ok (.iload_n 2, 1) := by decide +kernel
theorem dX8_measureWays_127 : decode cX8_measureWays 127 = .ok (.iload_n 3, 1) := by decide +kernel
theorem dX8_measureWays_128 : decode cX8_measureWays 128 = .ok (.invokestatic 82, 3) := by decide +kernel
theorem dX8_measureWays_131 : decode cX8_measureWays 131 = .ok (.aload_n 0, 1) := by decide +kernel
theorem dX8_measureWays_132 : decode cX8_measureWays 132 = .ok (.getfield 15, 3) := by decide +kernel
theorem dX8_measureWays_135 : decode cX8_measureWays 135 = .ok (.iload_n 2, 1) := by decide +kernel
theorem dX8_measureWays_136 : decode cX8_measureWays 136 = .ok (.iload_n 3, 1) := by decide +kernel
theorem dX8_measureWays_137 : decode cX8_measureWays 137 = .ok (.invokestatic 82, 3) := by decide +kernel
theorem dX8_measureWays_140 : decode cX8_measureWays 140 = .ok (.iaload, 1) := by decide +kernel
theorem dX8_measureWays_141 : decode cX8_measureWays 141 = .ok (.iload 4, 2) := by decide +kernel
theorem dX8_measureWays_143 : decode cX8_measureWays 143 = .ok (.invokestatic 89, 3) := by decide +kernel
theorem dX8_measureWays_146 : decode cX8_measureWays 146 = .ok (.iastore, 1) := by decide +kernel
theorem dX8_measureWays_147 : decode cX8_measureWays 147 = .ok (.iinc 3 1, 3) := by decide +kernel
theorem dX8_measureWays_150 : decode cX8_measureWays 150 = .ok (.goto (-59), 3) := by decide +kernel
theorem dX8_measureWays_153 : decode cX8_measureWays 153 = .ok (.iinc 2 1, 3) := by decide +kernel
theorem dX8_measureWays_156 : decode cX8_measureWays 156 = .ok (.goto (-75), 3) := by decide +kernel
theorem dX8_measureWays_159 : decode cX8_measureWays 159 = .ok (.iinc 1 1, 3) := by decide +kernel
theorem dX8_measureWays_162 : decode cX8_measureWays 162 = .ok (.goto (-91), 3) := by decide +kernel
theorem dX8_measureWays_165 : decode cX8_measureWays 165 = .ok (.return_, 1) := by decide +kernel
def wp_X8_measureWays_91 (S : Sh) (k71 : Int → Int → Mm → Prop) (k81 : Int → Int → Int → Mm → Prop) (post : Mm → Prop) : Nat → Int → Int → Int → Int → Mm → Prop
  | 0, _, _, _, _, _ => False
  | n + 1, u0, u1, u2, u3, M => wGet S M u0 8 0 fun v1 => wIf (v1 ≤ u3) (wA u2 1 fun v3 => k81 u0 u1 v3 M) (wGetR S M u0 8 9 fun v5 => wp_X8_pair S M u2 u1 <| fun v8 M7 => wLd S M7 v5 14 v8 fun v10 => wGetR S M7 u0 8 9 fun v12 => wp_X8_pair S M7 u1 u3 <| fun v15 M14 => wLd S M14 v12 14 v15 fun v17 => wA v10 v17 fun v19 => wGetR S M14 u0 8 9 fun v21 => wp_X8_pair S M14 u2 u3 <| fun v24 M23 => wGetR S M23 u0 8 9 fun v26 => wp_X8_pair S M23 u2 u3 <| fun v29 M28 => wLd S M28 v26 14 v29 fun v31 => wO min v31 v19 fun v33 => wSt S M28 v21 14 v24 v33 fun M35 => wA u3 1 fun v36 => wp_X8_measureWays_91 S k71 k81 post n u0 u1 u2 v36 M35)
def wp_X8_measureWays_81 (S : Sh) (k71 : Int → Int → Mm → Prop) (post : Mm → Prop) : Nat → Int → Int → Int → Mm → Prop
  | 0, _, _, _, _ => False
  | n + 1, u0, u1, u2, M => wGet S M u0 8 0 fun v38 => wIf (v38 ≤ u2) (wA u1 1 fun v40 => k71 u0 v40 M) (wC 0 fun v42 => ∃ n9 : Nat, wp_X8_measureWays_91 S k71 (fun a0 a1 a2 M => wp_X8_measureWays_81 S k71 post n a0 a1 a2 M) post n9 u0 u1 u2 v42 M)
def wp_X8_measureWays_71 (S : Sh) (post : Mm → Prop) : Nat → Int → Int → Mm → Prop
  | 0, _, _, _ => False
  | n + 1, u0, u1, M => wGet S M u0 8 0 fun v44 => wIf (v44 ≤ u1) (post M) (wC 0 fun v46 => ∃ n9 : Nat, wp_X8_measureWays_81 S (fun a0 a1 M => wp_X8_measureWays_71 S post n a0 a1 M) post n9 u0 u1 v46 M)
def wp_X8_measureWays_56 (S : Sh) (k2 : Int → Int → Mm → Prop) (k12 : Int → Int → Int → Mm → Prop) (post : Mm → Prop) (u0 : Int) (u1 : Int) (u2 : Int) (t0 : Int) (t1 : Int) (t2 : Int) (M : Mm) : Prop := wSt S M t0 14 t1 t2 fun M48 => wA u2 1 fun v49 => k12 u0 u1 v49 M48
def wp_X8_measureWays_12 (S : Sh) (k2 : Int → Int → Mm → Prop) (post : Mm → Prop) : Nat → Int → Int → Int → Mm → Prop
  | 0, _, _, _, _ => False
  | n + 1, u0, u1, u2, M => wGet S M u0 8 0 fun v51 => wIf (v51 ≤ u2) (wA u1 1 fun v53 => k2 u0 v53 M) (isK S u0 8 ∧ (wp_X8_roadHours S M u0 u1 u2 <| fun v56 M55 => wGetR S M55 u0 8 9 fun v58 => wp_X8_pair S M55 u1 u2 <| fun v61 M60 => wIf (¬ u1 = u2) (wIf (v56 ≤ 0) (wC 1000 fun v63 => wp_X8_measureWays_56 S k2 (fun a0 a1 a2 M => wp_X8_measureWays_12 S k2 post n a0 a1 a2 M) post u0 u1 u2 v58 v61 v63 M60) (wp_X8_measureWays_56 S k2 (fun a0 a1 a2 M => wp_X8_measureWays_12 S k2 post n a0 a1 a2 M) post u0 u1 u2 v58 v61 v56 M60)) (wC 0 fun v65 => wp_X8_measureWays_56 S k2 (fun a0 a1 a2 M => wp_X8_measureWays_12 S k2 post n a0 a1 a2 M) post u0 u1 u2 v58 v61 v65 M60)))
def wp_X8_measureWays_2 (S : Sh) (post : Mm → Prop) : Nat → Int → Int → Mm → Prop
  | 0, _, _, _ => False
  | n + 1, u0, u1, M => wGet S M u0 8 0 fun v67 => wIf (v67 ≤ u1) (wC 0 fun v69 => ∃ n9 : Nat, wp_X8_measureWays_71 S post n9 u0 v69 M) (wC 0 fun v71 => ∃ n9 : Nat, wp_X8_measureWays_12 S (fun a0 a1 M => wp_X8_measureWays_2 S post n a0 a1 M) post n9 u0 u1 v71 M)
def wp_X8_measureWays (S : Sh) (M : Mm) (u0 : Int) (post : Mm → Prop) : Prop := wC 0 fun v73 => ∃ n9 : Nat, wp_X8_measureWays_2 S post n9 u0 v73 M
set_option maxHeartbeats 4000000 in
set_option maxRecDepth 100000 in
theorem t_X8_measureWays_91 {p : Program} {l : Launch} {e : Env} {s : State} {m : MethodId} {args : Array Value} {below : List Frame} {meth : Method} {c : Code} {D : va_G} {G : Gt} {S : Sh} {post : Mm → Prop} {k71 : Int → Int → Mm → Prop} {k81 : Int → Int → Int → Mm → Prop} (C : Cx p s m args meth c D G cX8_measureWays 5 none (cw_X8_measureWays :: gw) RX8) (hk71 : ∀ (y0 : Int) (y1 : Int32) (M : Mm) (H : Heap) (locs : List Loc) (ls : Array Slot), Wd D G S M H → va_S (aG G) s.heap H locs → lv_has ls 5 [(0, .ref (adr G y0)), (1, .int y1)] → k71 y0 y1.toInt M → W p l e RM_X8_measureWays s m args below meth c H locs 0 0 (MQ below (QV D G S post) args s 0 0 (aG G)) (F0 m 71 ls [])) (hk81 : ∀ (y0 : Int) (y1 : Int32) (y2 : Int32) (M : Mm) (H : Heap) (locs : List Loc) (ls : Array Slot), Wd D G S M H → va_S (aG G) s.heap H locs → lv_has ls 5 [(0, .ref (adr G y0)), (1, .int y1), (2, .int y2)] → k81 y0 y1.toInt y2.toInt M → W p l e RM_X8_measureWays s m args below meth c H locs 0 0 (MQ below (QV D G S post) args s 0 0 (aG G)) (F0 m 81 ls [])) : ∀ (n : Nat) (xl0 : Int) (zl1 : Int32) (zl2 : Int32) (zl3 : Int32) (M : Mm) (H : Heap) (locs : List Loc) (ls : Array Slot), Wd D G S M H → va_S (aG G) s.heap H locs → lv_has ls 5 [(0, .ref (adr G xl0)), (1, .int zl1), (2, .int zl2), (3, .int zl3)] → wp_X8_measureWays_91 S k71 k81 post n xl0 zl1.toInt zl2.toInt zl3.toInt  M → W p l e RM_X8_measureWays s m args below meth c H locs 0 0 (MQ below (QV D G S post) args s 0 0 (aG G)) (F0 m 91 ls []) := by
  obtain ⟨hx, hb, hr, hlocks, hml, hown, hts, hK⟩ := id C
  intro n
  induction n with
  | zero => intro xl0 zl1 zl2 zl3 M H locs ls hP hS hl h; exact h.elim
  | succ n ih =>
    intro xl0 zl1 zl2 zl3 M H locs ls hP hS hl h
    unfold wp_X8_measureWays_91 at h
    refine lv_iload_n hx hb dX8_measureWays_91 rfl (lv_at hl 3 rfl) ?_
    refine lv_aload_n hx hb dX8_measureWays_92 rfl (lv_at hl 0 rfl) ?_
    refine r_geti (C := RX8) (T := TX8) (N := 19) hx hb hts (fun w h => List.mem_cons_of_mem _ (iX8 w h)) hown hK hP rfl (by decide) rfl 0 (by decide) (hts _ (List.mem_cons_of_mem _ kw_67)) (fun _ h9 => h9) dX8_measureWays_93 (by decide) h (fun z2 h => ?_)
    refine r_icmp_ge (tgt := 153) hx hb dX8_measureWays_96 (by decide) h (fun h => ?_) (fun h => ?_)
    · refine r_iinc hx hb (fun z4 => [(2, .int z4), (0, .ref (adr G xl0)), (1, .int zl1), (3, .int zl3)]) dX8_measureWays_153 (by decide) hl (k := 2) rfl (by decide) (fun _ => rfl) h (fun z4 ls hl h => ?_)
      refine lv_goto (tgt := 81) hx hb dX8_measureWays_156 (by decide) ?_
      exact hk81 xl0 zl1 z4 _ _ _ _ hP hS (lv_sub hl [1, 2, 0] rfl) h
    · refine lv_aload_n hx hb dX8_measureWays_99 rfl (lv_at hl 0 rfl) ?_
      refine r_getr (C := RX8) (T := TX8) (N := 19) hx hb hts (fun w h => List.mem_cons_of_mem _ (iX8 w h)) hown hK hP rfl (by decide) rfl 9 (by decide) (hts _ (List.mem_cons_of_mem _ kw_100)) (fun _ h9 => h9) dX8_measureWays_100 (by decide) h (fun x6 h => ?_)
      refine lv_iload_n hx hb dX8_measureWays_103 rfl (lv_at hl 2 rfl) ?_
      refine lv_iload_n hx hb dX8_measureWays_104 rfl (lv_at hl 1 rfl) ?_
      refine q_Si hx hb hml hown hts hK hP hS (c_X8_pair l D G S _ zl2 zl1 _ h) ⟨callB_of 2 hts (gw_good kw_688) rfl rfl rfl (hts _ (List.mem_cons_of_mem _ kw_4)) (hts _ (List.mem_cons_of_mem _ kw_686)) hd_X8_pair ⟨Nat.le_of_ble_eq_true rfl, Nat.le_of_ble_eq_true rfl⟩, (hts _ (List.mem_cons_of_mem _ kw_687))⟩ rfl hl.1 rfl (lv_room (Nat.le_of_ble_eq_true rfl)) dX8_measureWays_105 ⟨Nat.zero_le _, Nat.zero_le _⟩ (fun z9 M7 H locs h hP hS => ?_)
      refine r_iald hx hb hK hP dX8_measureWays_108 h (fun z11 h => ?_)
      refine lv_aload_n hx hb dX8_measureWays_109 rfl (lv_at hl 0 rfl) ?_
      refine r_getr (C := RX8) (T := TX8) (N := 19) hx hb hts (fun w h => List.mem_cons_of_mem _ (iX8 w h)) hown hK hP rfl (by decide) rfl 9 (by decide) (hts _ (List.mem_cons_of_mem _ kw_100)) (fun _ h9 => h9) dX8_measureWays_110 (by decide) h (fun x13 h => ?_)
      refine lv_iload_n hx hb dX8_measureWays_113 rfl (lv_at hl 1 rfl) ?_
      refine lv_iload_n hx hb dX8_measureWays_114 rfl (lv_at hl 3 rfl) ?_
      refine q_Si hx hb hml hown hts hK hP hS (c_X8_pair l D G S _ zl1 zl3 _ h) ⟨callB_of 2 hts (gw_good kw_688) rfl rfl rfl (hts _ (List.mem_cons_of_mem _ kw_4)) (hts _ (List.mem_cons_of_mem _ kw_686)) hd_X8_pair ⟨Nat.le_of_ble_eq_true rfl, Nat.le_of_ble_eq_true rfl⟩, (hts _ (List.mem_cons_of_mem _ kw_687))⟩ rfl hl.1 rfl (lv_room (Nat.le_of_ble_eq_true rfl)) dX8_measureWays_115 ⟨Nat.zero_le _, Nat.zero_le _⟩ (fun z16 M14 H locs h hP hS => ?_)
      refine r_iald hx hb hK hP dX8_measureWays_118 h (fun z18 h => ?_)
      refine r_iadd hx hb dX8_measureWays_119 h (fun z20 h => ?_)
      refine lv_istore (lv' := [(4, .int z20), (0, .ref (adr G xl0)), (1, .int zl1), (2, .int zl2), (3, .int zl3)]) hx hb dX8_measureWays_120 hl (by decide) rfl (fun ls hl => ?_)
      refine lv_aload_n hx hb dX8_measureWays_122 rfl (lv_at hl 1 rfl) ?_
      refine r_getr (C := RX8) (T := TX8) (N := 19) hx hb hts (fun w h => List.mem_cons_of_mem _ (iX8 w h)) hown hK hP rfl (by decide) rfl 9 (by decide) (hts _ (List.mem_cons_of_mem _ kw_100)) (fun _ h9 => h9) dX8_measureWays_123 (by decide) h (fun x22 h => ?_)
      refine lv_iload_n hx hb dX8_measureWays_126 rfl (lv_at hl 3 rfl) ?_
      refine lv_iload_n hx hb dX8_measureWays_127 rfl (lv_at hl 4 rfl) ?_
      refine q_Si hx hb hml hown hts hK hP hS (c_X8_pair l D G S _ zl2 zl3 _ h) ⟨callB_of 2 hts (gw_good kw_688) rfl rfl rfl (hts _ (List.mem_cons_of_mem _ kw_4)) (hts _ (List.mem_cons_of_mem _ kw_686)) hd_X8_pair ⟨Nat.le_of_ble_eq_true rfl, Nat.le_of_ble_eq_true rfl⟩, (hts _ (List.mem_cons_of_mem _ kw_687))⟩ rfl hl.1 rfl (lv_room (Nat.le_of_ble_eq_true rfl)) dX8_measureWays_128 ⟨Nat.zero_le _, Nat.zero_le _⟩ (fun z25 M23 H locs h hP hS => ?_)
      refine lv_aload_n hx hb dX8_measureWays_131 rfl (lv_at hl 1 rfl) ?_
      refine r_getr (C := RX8) (T := TX8) (N := 19) hx hb hts (fun w h => List.mem_cons_of_mem _ (iX8 w h)) hown hK hP rfl (by decide) rfl 9 (by decide) (hts _ (List.mem_cons_of_mem _ kw_100)) (fun _ h9 => h9) dX8_measureWays_132 (by decide) h (fun x27 h => ?_)
      refine lv_iload_n hx hb dX8_measureWays_135 rfl (lv_at hl 3 rfl) ?_
      refine lv_iload_n hx hb dX8_measureWays_136 rfl (lv_at hl 4 rfl) ?_
      refine q_Si hx hb hml hown hts hK hP hS (c_X8_pair l D G S _ zl2 zl3 _ h) ⟨callB_of 2 hts (gw_good kw_688) rfl rfl rfl (hts _ (List.mem_cons_of_mem _ kw_4)) (hts _ (List.mem_cons_of_mem _ kw_686)) hd_X8_pair ⟨Nat.le_of_ble_eq_true rfl, Nat.le_of_ble_eq_true rfl⟩, (hts _ (List.mem_cons_of_mem _ kw_687))⟩ rfl hl.1 rfl (lv_room (Nat.le_of_ble_eq_true rfl)) dX8_measureWays_137 ⟨Nat.zero_le _, Nat.zero_le _⟩ (fun z30 M28 H locs h hP hS => ?_)
      refine r_iald hx hb hK hP dX8_measureWays_140 h (fun z32 h => ?_)
      refine lv_iload hx hb dX8_measureWays_141 (lv_at hl 0 rfl) ?_
      refine r_mmin hx hb (hml.trans hl.1.symm) hown (hts _ (List.mem_cons_of_mem _ kw_718)) (hts _ (List.mem_cons_of_mem _ kw_719)) (hts _ (List.mem_cons_of_mem _ kw_19)) (hts _ (List.mem_cons_of_mem _ kw_720)) (Nat.le_of_ble_eq_true rfl) (Nat.le_of_ble_eq_true rfl) (Nat.zero_le _) (Nat.zero_le _) dX8_measureWays_143 h (fun z34 h => ?_)
      refine r_iast hx hb hK hP hS dX8_measureWays_146 h (fun M35 H locs h hP hS => ?_)
      refine r_iinc hx hb (fun z37 => [(3, .int z37), (4, .int z20), (0, .ref (adr G xl0)), (1, .int zl1), (2, .int zl2)]) dX8_measureWays_147 (by decide) hl (k := 4) rfl (by decide) (fun _ => rfl) h (fun z37 ls hl h => ?_)
      refine lv_goto (tgt := 91) hx hb dX8_measureWays_150 (by decide) ?_
      exact ih xl0 zl1 zl2 z37 _ _ _ _ hP hS (lv_sub hl [2, 3, 4, 0] rfl) h
set_option maxHeartbeats 4000000 in
set_option maxRecDepth 100000 in
theorem t_X8_measureWays_81 {p : Program} {l : Launch} {e : Env} {s : State} {m : MethodId} {args : Array Value} {below : List Frame} {meth : Method} {c : Code} {D : va_G} {G : Gt} {S : Sh} {post : Mm → Prop} {k71 : Int → Int → Mm → Prop} (C : Cx p s m args meth c D G cX8_measureWays 5 none (cw_X8_measureWays :: gw) RX8) (hk71 : ∀ (y0 : Int) (y1 : Int32) (M : Mm) (H : Heap) (locs : List Loc) (ls : Array Slot), Wd D G S M H → va_S (aG G) s.heap H locs → lv_has ls 5 [(0, .ref (adr G y0)), (1, .int y1)] → k71 y0 y1.toInt M → W p l e RM_X8_measureWays s m args below meth c H locs 0 0 (MQ below (QV D G S post) args s 0 0 (aG G)) (F0 m 71 ls [])) : ∀ (n : Nat) (xl0 : Int) (zl1 : Int32) (zl2 : Int32) (M : Mm) (H : Heap) (locs : List Loc) (ls : Array Slot), Wd D G S M H → va_S (aG G) s.heap H locs → lv_has ls 5 [(0, .ref (adr G xl0)), (1, .int zl1), (2, .int zl2)] → wp_X8_measureWays_81 S k71 post n xl0 zl1.toInt zl2.toInt  M → W p l e RM_X8_measureWays s m args below meth c H locs 0 0 (MQ below (QV D G S post) args s 0 0 (aG G)) (F0 m 81 ls []) := by
  obtain ⟨hx, hb, hr, hlocks, hml, hown, hts, hK⟩ := id C
  intro n
  induction n with
  | zero => intro xl0 zl1 zl2 M H locs ls hP hS hl h; exact h.elim
  | succ n ih =>
    intro xl0 zl1 zl2 M H locs ls hP hS hl h
    unfold wp_X8_measureWays_81 at h
    refine lv_iload_n hx hb dX8_measureWays_81 rfl (lv_at hl 2 rfl) ?_
    refine lv_aload_n hx hb dX8_measureWays_82 rfl (lv_at hl 0 rfl) ?_
    refine r_geti (C := RX8) (T := TX8) (N := 19) hx hb hts (fun w h => List.mem_cons_of_mem _ (iX8 w h)) hown hK hP rfl (by decide) rfl 0 (by decide) (hts _ (List.mem_cons_of_mem _ kw_67)) (fun _ h9 => h9) dX8_measureWays_83 (by decide) h (fun z39 h => ?_)
    refine r_icmp_ge (tgt := 159) hx hb dX8_measureWays_86 (by decide) h (fun h => ?_) (fun h => ?_)
    · refine r_iinc hx hb (fun z41 => [(1, .int z41), (0, .ref (adr G xl0)), (2, .int zl2)]) dX8_measureWays_159 (by decide) hl (k := 1) rfl (by decide) (fun _ => rfl) h (fun z41 ls hl h => ?_)
      refine lv_goto (tgt := 71) hx hb dX8_measureWays_162 (by decide) ?_
      exact hk71 xl0 z41 _ _ _ _ hP hS (lv_sub hl [1, 0] rfl) h
    · refine r_iconst hx hb dX8_measureWays_89 (by decide) h (fun z43 h => ?_)
      refine lv_istore_n (lv' := [(3, .int z43), (0, .ref (adr G xl0)), (1, .int zl1), (2, .int zl2)]) hx hb dX8_measureWays_90 rfl hl (by decide) rfl (fun ls hl => ?_)
      obtain ⟨n9, h⟩ := h
      exact t_X8_measureWays_91 C hk71 ih n9 xl0 zl1 zl2 z43 _ _ _ _ hP hS (lv_sub hl [1, 2, 3, 0] rfl) h
set_option maxHeartbeats 4000000 in
set_option maxRecDepth 100000 in
theorem t_X8_measureWays_71 {p : Program} {l : Launch} {e : Env} {s : State} {m : MethodId} {args : Array Value} {below : List Frame} {meth : Method} {c : Code} {D : va_G} {G : Gt} {S : Sh} {post : Mm → Prop} (C : Cx p s m args meth c D G cX8_measureWays 5 none (cw_X8_measureWays :: gw) RX8) : ∀ (n : Nat) (xl0 : Int) (zl1 : Int32) (M : Mm) (H : Heap) (locs : List Loc) (ls : Array Slot), Wd D G S M H → va_S (aG G) s.heap H locs → lv_has ls 5 [(0, .ref (adr G xl0)), (1, .int zl1)] → wp_X8_measureWays_71 S post n xl0 zl1.toInt  M → W p l e RM_X8_measureWays s m args below meth c H locs 0 0 (MQ below (QV D G S post) args s 0 0 (aG G)) (F0 m 71 ls []) := by
  obtain ⟨hx, hb, hr, hlocks, hml, hown, hts, hK⟩ := id C
  intro n
  induction n with
  | zero => intro xl0 zl1 M H locs ls hP hS hl h; exact h.elim
  | succ n ih =>
    intro xl0 zl1 M H locs ls hP hS hl h
    unfold wp_X8_measureWays_71 at h
    refine lv_iload_n hx hb dX8_measureWays_71 rfl (lv_at hl 1 rfl) ?_
    refine lv_aload_n hx hb dX8_measureWays_72 rfl (lv_at hl 0 rfl) ?_
    refine r_geti (C := RX8) (T := TX8) (N := 19) hx hb hts (fun w h => List.mem_cons_of_mem _ (iX8 w h)) hown hK hP rfl (by decide) rfl 0 (by decide) (hts _ (List.mem_cons_of_mem _ kw_67)) (fun _ h9 => h9) dX8_measureWays_73 (by decide) h (fun z45 h => ?_)
    refine r_icmp_ge (tgt := 165) hx hb dX8_measureWays_76 (by decide) h (fun h => ?_) (fun h => ?_)
    · exact r_vret hx hb hr hlocks hP hS dX8_measureWays_165 h
    · refine r_iconst hx hb dX8_measureWays_79 (by decide) h (fun z47 h => ?_)
      refine lv_istore_n (lv' := [(2, .int z47), (0, .ref (adr G xl0)), (1, .int zl1)]) hx hb dX8_measureWays_80 rfl hl (by decide) rfl (fun ls hl => ?_)
      obtain ⟨n9, h⟩ := h
      exact t_X8_measureWays_81 C ih n9 xl0 zl1 z47 _ _ _ _ hP hS (lv_sub hl [1, 2, 0] rfl) h
set_option maxHeartbeats 4000000 in
set_option maxRecDepth 100000 in
theorem t_X8_measureWays_56 {p : Program} {l : Launch} {e : Env} {s : State} {m : MethodId} {args : Array Value} {below : List Frame} {meth : Method} {c : Code} {D : va_G} {G : Gt} {S : Sh} {post : Mm → Prop} {k2 : Int → Int → Mm → Prop} {k12 : Int → Int → Int → Mm → Prop} (C : Cx p s m args meth c D G cX8_measureWays 5 none (cw_X8_measureWays :: gw) RX8) (hk2 : ∀ (y0 : Int) (y1 : Int32) (M : Mm) (H : Heap) (locs : List Loc) (ls : Array Slot), Wd D G S M H → va_S (aG G) s.heap H locs → lv_has ls 5 [(0, .ref (adr G y0)), (1, .int y1)] → k2 y0 y1.toInt M → W p l e RM_X8_measureWays s m args below meth c H locs 0 0 (MQ below (QV D G S post) args s 0 0 (aG G)) (F0 m 2 ls [])) (hk12 : ∀ (y0 : Int) (y1 : Int32) (y2 : Int32) (M : Mm) (H : Heap) (locs : List Loc) (ls : Array Slot), Wd D G S M H → va_S (aG G) s.heap H locs → lv_has ls 5 [(0, .ref (adr G y0)), (1, .int y1), (2, .int y2)] → k12 y0 y1.toInt y2.toInt M → W p l e RM_X8_measureWays s m args below meth c H locs 0 0 (MQ below (QV D G S post) args s 0 0 (aG G)) (F0 m 12 ls [])) : ∀ (xl0 : Int) (zl1 : Int32) (zl2 : Int32) (xs0 : Int) (zs1 : Int32) (zs2 : Int32) (M : Mm) (H : Heap) (locs : List Loc) (ls : Array Slot), Wd D G S M H → va_S (aG G) s.heap H locs → lv_has ls 5 [(0, .ref (adr G xl0)), (1, .int zl1), (2, .int zl2)] → wp_X8_measureWays_56 S k2 k12 post xl0 zl1.toInt zl2.toInt xs0 zs1.toInt zs2.toInt M → W p l e RM_X8_measureWays s m args below meth c H locs 0 0 (MQ below (QV D G S post) args s 0 0 (aG G)) (F0 m 56 ls [.int zs2, .int zs1, .ref (adr G xs0)]) := by
  obtain ⟨hx, hb, hr, hlocks, hml, hown, hts, hK⟩ := id C
  intro xl0 zl1 zl2 xs0 zs1 zs2 M H locs ls hP hS hl h
  unfold wp_X8_measureWays_56 at h
  refine r_iast hx hb hK hP hS dX8_measureWays_56 h (fun M48 H locs h hP hS => ?_)
  refine r_iinc hx hb (fun z50 => [(2, .int z50), (0, .ref (adr G xl0)), (1, .int zl1)]) dX8_measureWays_57 (by decide) hl (k := 2) rfl (by decide) (fun _ => rfl) h (fun z50 ls hl h => ?_)
  refine lv_goto (tgt := 12) hx hb dX8_measureWays_60 (by decide) ?_
  exact hk12 xl0 zl1 z50 _ _ _ _ hP hS (lv_sub hl [1, 2, 0] rfl) h
set_option maxHeartbeats 4000000 in
set_option maxRecDepth 100000 in
theorem t_X8_measureWays_12 {p : Program} {l : Launch} {e : Env} {s : State} {m : MethodId} {args : Array Value} {below : List Frame} {meth : Method} {c : Code} {D : va_G} {G : Gt} {S : Sh} {post : Mm → Prop} {k2 : Int → Int → Mm → Prop} (C : Cx p s m args meth c D G cX8_measureWays 5 none (cw_X8_measureWays :: gw) RX8) (hk2 : ∀ (y0 : Int) (y1 : Int32) (M : Mm) (H : Heap) (locs : List Loc) (ls : Array Slot), Wd D G S M H → va_S (aG G) s.heap H locs → lv_has ls 5 [(0, .ref (adr G y0)), (1, .int y1)] → k2 y0 y1.toInt M → W p l e RM_X8_measureWays s m args below meth c H locs 0 0 (MQ below (QV D G S post) args s 0 0 (aG G)) (F0 m 2 ls [])) : ∀ (n : Nat) (xl0 : Int) (zl1 : Int32) (zl2 : Int32) (M : Mm) (H : Heap) (locs : List Loc) (ls : Array Slot), Wd D G S M H → va_S (aG G) s.heap H locs → lv_has ls 5 [(0, .ref (adr G xl0)), (1, .int zl1), (2, .int zl2)] → wp_X8_measureWays_12 S k2 post n xl0 zl1.toInt zl2.toInt  M → W p l e RM_X8_measureWays s m args below meth c H locs 0 0 (MQ below (QV D G S post) args s 0 0 (aG G)) (F0 m 12 ls []) := by
  obtain ⟨hx, hb, hr, hlocks, hml, hown, hts, hK⟩ := id C
  intro n
  induction n with
  | zero => intro xl0 zl1 zl2 M H locs ls hP hS hl h; exact h.elim
  | succ n ih =>
    intro xl0 zl1 zl2 M H locs ls hP hS hl h
    unfold wp_X8_measureWays_12 at h
    refine lv_iload_n hx hb dX8_measureWays_12 rfl (lv_at hl 2 rfl) ?_
    refine lv_aload_n hx hb dX8_measureWays_13 rfl (lv_at hl 0 rfl) ?_
    refine r_geti (C := RX8) (T := TX8) (N := 19) hx hb hts (fun w h => List.mem_cons_of_mem _ (iX8 w h)) hown hK hP rfl (by decide) rfl 0 (by decide) (hts _ (List.mem_cons_of_mem _ kw_67)) (fun _ h9 => h9) dX8_measureWays_14 (by decide) h (fun z52 h => ?_)
    refine r_icmp_ge (tgt := 63) hx hb dX8_measureWays_17 (by decide) h (fun h => ?_) (fun h => ?_)
    · refine r_iinc hx hb (fun z54 => [(1, .int z54), (0, .ref (adr G xl0)), (2, .int zl2)]) dX8_measureWays_63 (by decide) hl (k := 1) rfl (by decide) (fun _ => rfl) h (fun z54 ls hl h => ?_)
      refine lv_goto (tgt := 2) hx hb dX8_measureWays_66 (by decide) ?_
      exact hk2 xl0 z54 _ _ _ _ hP hS (lv_sub hl [1, 0] rfl) h
    · refine lv_aload_n hx hb dX8_measureWays_20 rfl (lv_at hl 0 rfl) ?_
      refine lv_iload_n hx hb dX8_measureWays_21 rfl (lv_at hl 1 rfl) ?_
      refine lv_iload_n hx hb dX8_measureWays_22 rfl (lv_at hl 2 rfl) ?_
      refine q_Vi hx hb hml hown hts hK hP hS (c_X8_roadHours l D G S _ xl0 zl1 zl2 _ h.2) ⟨callB_of 2 hts (gw_good kw_685) rfl rfl rfl (hts _ (List.mem_cons_of_mem _ kw_4)) (hts _ (List.mem_cons_of_mem _ kw_717)) hd_X8_roadHours ⟨Nat.le_of_ble_eq_true rfl, Nat.le_of_ble_eq_true rfl⟩, (hts _ (List.mem_cons_of_mem _ kw_683)), (hts _ (List.mem_cons_of_mem _ kw_684))⟩ h.1 (ci := 8) rfl (by decide) rfl hl.1 rfl (lv_room (Nat.le_of_ble_eq_true rfl)) dX8_measureWays_23 ⟨Nat.zero_le _, Nat.zero_le _⟩ (fun z57 M55 H locs h hP hS => ?_)
      refine lv_istore_n (lv' := [(3, .int z57), (0, .ref (adr G xl0)), (1, .int zl1), (2, .int zl2)]) hx hb dX8_measureWays_26 rfl hl (by decide) rfl (fun ls hl => ?_)
      refine lv_aload_n hx hb dX8_measureWays_27 rfl (lv_at hl 1 rfl) ?_
      refine r_getr (C := RX8) (T := TX8) (N := 19) hx hb hts (fun w h => List.mem_cons_of_mem _ (iX8 w h)) hown hK hP rfl (by decide) rfl 9 (by decide) (hts _ (List.mem_cons_of_mem _ kw_100)) (fun _ h9 => h9) dX8_measureWays_28 (by decide) h (fun x59 h => ?_)
      refine lv_iload_n hx hb dX8_measureWays_31 rfl (lv_at hl 2 rfl) ?_
      refine lv_iload_n hx hb dX8_measureWays_32 rfl (lv_at hl 3 rfl) ?_
      refine q_Si hx hb hml hown hts hK hP hS (c_X8_pair l D G S _ zl1 zl2 _ h) ⟨callB_of 2 hts (gw_good kw_688) rfl rfl rfl (hts _ (List.mem_cons_of_mem _ kw_4)) (hts _ (List.mem_cons_of_mem _ kw_686)) hd_X8_pair ⟨Nat.le_of_ble_eq_true rfl, Nat.le_of_ble_eq_true rfl⟩, (hts _ (List.mem_cons_of_mem _ kw_687))⟩ rfl hl.1 rfl (lv_room (Nat.le_of_ble_eq_true rfl)) dX8_measureWays_33 ⟨Nat.zero_le _, Nat.zero_le _⟩ (fun z62 M60 H locs h hP hS => ?_)
      refine lv_iload_n hx hb dX8_measureWays_36 rfl (lv_at hl 2 rfl) ?_
      refine lv_iload_n hx hb dX8_measureWays_37 rfl (lv_at hl 3 rfl) ?_
      refine r_icmp_ne (tgt := 45) hx hb dX8_measureWays_38 (by decide) h (fun h => ?_) (fun h => ?_)
      · refine lv_iload_n hx hb dX8_measureWays_45 rfl (lv_at hl 0 rfl) ?_
        refine r_if_le (tgt := 53) hx hb dX8_measureWays_46 (by decide) h (fun h => ?_) (fun h => ?_)
        · refine r_sipush hx hb dX8_measureWays_53 (by decide) h (fun z64 h => ?_)
          exact t_X8_measureWays_56 C hk2 ih xl0 zl1 zl2 x59 z62 z64 _ _ _ _ hP hS (lv_sub hl [1, 2, 3] rfl) h
        · refine lv_iload_n hx hb dX8_measureWays_49 rfl (lv_at hl 0 rfl) ?_
          refine lv_goto (tgt := 56) hx hb dX8_measureWays_50 (by decide) ?_
          exact t_X8_measureWays_56 C hk2 ih xl0 zl1 zl2 x59 z62 z57 _ _ _ _ hP hS (lv_sub hl [1, 2, 3] rfl) h
      · refine r_iconst hx hb dX8_measureWays_41 (by decide) h (fun z66 h => ?_)
        refine lv_goto (tgt := 56) hx hb dX8_measureWays_42 (by decide) ?_
        exact t_X8_measureWays_56 C hk2 ih xl0 zl1 zl2 x59 z62 z66 _ _ _ _ hP hS (lv_sub hl [1, 2, 3] rfl) h
set_option maxHeartbeats 4000000 in
set_option maxRecDepth 100000 in
theorem t_X8_measureWays_2 {p : Program} {l : Launch} {e : Env} {s : State} {m : MethodId} {args : Array Value} {below : List Frame} {meth : Method} {c : Code} {D : va_G} {G : Gt} {S : Sh} {post : Mm → Prop} (C : Cx p s m args meth c D G cX8_measureWays 5 none (cw_X8_measureWays :: gw) RX8) : ∀ (n : Nat) (xl0 : Int) (zl1 : Int32) (M : Mm) (H : Heap) (locs : List Loc) (ls : Array Slot), Wd D G S M H → va_S (aG G) s.heap H locs → lv_has ls 5 [(0, .ref (adr G xl0)), (1, .int zl1)] → wp_X8_measureWays_2 S post n xl0 zl1.toInt  M → W p l e RM_X8_measureWays s m args below meth c H locs 0 0 (MQ below (QV D G S post) args s 0 0 (aG G)) (F0 m 2 ls []) := by
  obtain ⟨hx, hb, hr, hlocks, hml, hown, hts, hK⟩ := id C
  intro n
  induction n with
  | zero => intro xl0 zl1 M H locs ls hP hS hl h; exact h.elim
  | succ n ih =>
    intro xl0 zl1 M H locs ls hP hS hl h
    unfold wp_X8_measureWays_2 at h
    refine lv_iload_n hx hb dX8_measureWays_2 rfl (lv_at hl 1 rfl) ?_
    refine lv_aload_n hx hb dX8_measureWays_3 rfl (lv_at hl 0 rfl) ?_
    refine r_geti (C := RX8) (T := TX8) (N := 19) hx hb hts (fun w h => List.mem_cons_of_mem _ (iX8 w h)) hown hK hP rfl (by decide) rfl 0 (by decide) (hts _ (List.mem_cons_of_mem _ kw_67)) (fun _ h9 => h9) dX8_measureWays_4 (by decide) h (fun z68 h => ?_)
    refine r_icmp_ge (tgt := 69) hx hb dX8_measureWays_7 (by decide) h (fun h => ?_) (fun h => ?_)
    · refine r_iconst hx hb dX8_measureWays_69 (by decide) h (fun z70 h => ?_)
      refine lv_istore_n (lv' := [(1, .int z70), (0, .ref (adr G xl0))]) hx hb dX8_measureWays_70 rfl hl (by decide) rfl (fun ls hl => ?_)
      obtain ⟨n9, h⟩ := h
      exact t_X8_measureWays_71 C n9 xl0 z70 _ _ _ _ hP hS (lv_sub hl [1, 0] rfl) h
    · refine r_iconst hx hb dX8_measureWays_10 (by decide) h (fun z72 h => ?_)
      refine lv_istore_n (lv' := [(2, .int z72), (0, .ref (adr G xl0)), (1, .int zl1)]) hx hb dX8_measureWays_11 rfl hl (by decide) rfl (fun ls hl => ?_)
      obtain ⟨n9, h⟩ := h
      exact t_X8_measureWays_12 C ih n9 xl0 zl1 z72 _ _ _ _ hP hS (lv_sub hl [1, 2, 0] rfl) h
set_option maxHeartbeats 4000000 in
set_option maxRecDepth 100000 in
theorem c_X8_measureWays (l : Launch) (D : va_G) (G : Gt) (S : Sh) (M : Mm) (xl0 : Int) (post : Mm → Prop) (h : wp_X8_measureWays S M xl0 post) : Met l yX8_measureWays (cw_X8_measureWays :: gw) RM_X8_measureWays (va_Pc [.ref (adr G xl0)] (fun U => KN D G U ∧ Wd D G S M U.heap)) (QV D G S post) 0 0 (aG G) := by
  refine Met.ofW (cc := cX8_measureWays) (maxL := 5) (ret := none) (by decide) rfl ?_
  intro p e s m args below meth c s₁ B hml hv
  obtain ⟨rfl, hK, hP⟩ := hv
  have hx := B.exec
  have hb := B.bytes
  have hr := B.returns
  have hts := atoms_spec (ws := cw_X8_measureWays :: gw) B.pre
  have hown : s.vm.findClass RX8 = some m.cls := findClass_of_methodNamed B.named
  have hlocks := B.notSynchronized
  have hS : va_S (aG G) s.heap s.heap [] := va_S.rf
  have C : Cx p s m ([.ref (adr G xl0)] : List Value).toArray meth c D G cX8_measureWays 5 none (cw_X8_measureWays :: gw) RX8 := ⟨hx, hb, hr, hlocks, hml, hown, hts, hK⟩
  have hl := lv_entry ([.ref (adr G xl0)]) (n := 5) (Nat.le_of_ble_eq_true rfl)
  rw [lg_entry_eq]
  generalize (lg_sl ([.ref (adr G xl0)]) ++ List.replicate (5 - (lg_sl ([.ref (adr G xl0)])).length) Slot.unset).toArray = ls at hl ⊢
  have hl : lv_has ls 5 [(0, .ref (adr G xl0))] := hl
  unfold wp_X8_measureWays at h
  refine r_iconst hx hb dX8_measureWays_0 (by decide) h (fun z74 h => ?_)
  refine lv_istore_n (lv' := [(1, .int z74), (0, .ref (adr G xl0))]) hx hb dX8_measureWays_1 rfl hl (by decide) rfl (fun ls hl => ?_)
  obtain ⟨n9, h⟩ := h
  exact t_X8_measureWays_2 C n9 xl0 z74 _ _ _ _ hP hS (lv_sub hl [1, 0] rfl) h
/-! TurningMilk$Tape.takesSign(C)Z -/
abbrev RM_X7_takesSign : Room := { frames := 2, cells := 0, slots := 0, locals := 60 }
def cw_X7_takesSign : Cond := Cond.code yX7_takesSign cX7_takesSign 2 (Option.some FieldType.boolean)
theorem hd_X7_takesSign : yX7_takesSign.cls ≠ "java/lang/invoke/MethodHandle" ∧ yX7_takesSign.cls ≠ "java/lang/invoke/VarHandle" ∧ (parseMethodDescriptor yX7_takesSign.desc).map (fun d => d.parameters.length) = some 1 := by decide +kernel
theorem dX7_takesSign_0 : decode cX7_takesSign 0 = .ok (.aload_n 0, 1) := by decide +kernel
theorem dX7_takesSign_1 : decode cX7_takesSign 1 = .ok (.invokevirtual 28, 3) := by decide +kernel
theorem dX7_takesSign_4 : decode cX7_takesSign 4 = .ok (.iload_n 1, 1) := by decide +kernel
theorem dX7_takesSign_5 : decode cX7_takesSign 5 = .ok (.if_icmp .eq 5, 3) := by decide +kernel
theorem dX7_takesSign_8 : decode cX7_takesSign 8 = .ok (.iconst 0, 1) := by decide +kernel
theorem dX7_takesSign_9 : decode cX7_takesSign 9 = .ok (.ireturn, 1) := by decide +kernel
theorem dX7_takesSign_10 : decode cX7_takesSign 10 = .ok (.aload_n 0, 1) := by decide +kernel
theorem dX7_takesSign_11 : decode cX7_takesSign 11 = .ok (.dup, 1) := by decide +kernel
theorem dX7_takesSign_12 : decode cX7_takesSign 12 = .ok (.getfield 19, 3) := by decide +kernel
theorem dX7_takesSign_15 : decode cX7_takesSign 15 = .ok (.iconst 1, 1) := by decide +kernel
theorem dX7_takesSign_16 : decode cX7_takesSign 16 = .ok (.iadd, 1) := by decide +kernel
theorem dX7_takesSign_17 : decode cX7_takesSign 17 = .ok (.putfield 19, 3) := by decide +kernel
theorem dX7_takesSign_20 : decode cX7_takesSign 20 = .ok (.iconst 1, 1) := by decide +kernel
theorem dX7_takesSign_21 : decode cX7_takesSign 21 = .ok (.ireturn, 1) := by decide +kernel
def wp_X7_takesSign (S : Sh) (M : Mm) (u0 : Int) (u1 : Int) (post : Int → Mm → Prop) : Prop := isK S u0 7 ∧ (wp_X7_look S M u0 <| fun v2 M1 => wIf (v2 = u1) (wGet S M1 u0 7 2 fun v4 => wC 1 fun v6 => wA v4 v6 fun v8 => wPut S M1 u0 7 2 v8 fun M10 => wC 1 fun v11 => (v11 = 0 ∨ v11 = 1) ∧ post v11 M10) (wC 0 fun v13 => (v13 = 0 ∨ v13 = 1) ∧ post v13 M1))
set_option maxHeartbeats 4000000 in
set_option maxRecDepth 100000 in
theorem c_X7_takesSign (l : Launch) (D : va_G) (G : Gt) (S : Sh) (M : Mm) (xl0 : Int) (zl1 : Int32) (post : Int → Mm → Prop) (h : wp_X7_takesSign S M xl0 zl1.toInt post) : Met l yX7_takesSign (cw_X7_takesSign :: gw) RM_X7_takesSign (va_Pc [.ref (adr G xl0), .int zl1] (fun U => KN D G U ∧ Wd D G S M U.heap)) (QI D G S post) 0 0 (aG G) := by
  refine Met.ofW (cc := cX7_takesSign) (maxL := 2) (ret := (some .boolean)) (by decide) rfl ?_
  intro p e s m args below meth c s₁ B hml hv
  obtain ⟨rfl, hK, hP⟩ := hv
  have hx := B.exec
  have hb := B.bytes
  have hr := B.returns
  have hts := atoms_spec (ws := cw_X7_takesSign :: gw) B.pre
  have hown : s.vm.findClass RX7 = some m.cls := findClass_of_methodNamed B.named
  have hlocks := B.notSynchronized
  have hS : va_S (aG G) s.heap s.heap [] := va_S.rf
  have C : Cx p s m ([.ref (adr G xl0), .int zl1] : List Value).toArray meth c D G cX7_takesSign 2 (some .boolean) (cw_X7_takesSign :: gw) RX7 := ⟨hx, hb, hr, hlocks, hml, hown, hts, hK⟩
  have hl := lv_entry ([.ref (adr G xl0), .int zl1]) (n := 2) (Nat.le_of_ble_eq_true rfl)
  rw [lg_entry_eq]
  generalize (lg_sl ([.ref (adr G xl0), .int zl1]) ++ List.replicate (2 - (lg_sl ([.ref (adr G xl0), .int zl1])).length) Slot.unset).toArray = ls at hl ⊢
  have hl : lv_has ls 2 [(0, .ref (adr G xl0)), (1, .int zl1)] := hl
  unfold wp_X7_takesSign at h
  refine lv_aload_n hx hb dX7_takesSign_0 rfl (lv_at hl 0 rfl) ?_
  refine q_Vi hx hb hml hown hts hK hP hS (c_X7_look l D G S _ xl0 _ h.2) ⟨callB_of 0 hts (gw_good kw_601) rfl rfl rfl (hts _ (List.mem_cons_of_mem _ kw_2)) (hts _ (List.mem_cons_of_mem _ kw_598)) hd_X7_look ⟨Nat.le_of_ble_eq_true rfl, Nat.le_of_ble_eq_true rfl⟩, (hts _ (List.mem_cons_of_mem _ kw_599)), (hts _ (List.mem_cons_of_mem _ kw_600))⟩ h.1 (ci := 7) rfl (by decide) rfl hl.1 rfl (lv_room (Nat.le_of_ble_eq_true rfl)) dX7_takesSign_1 ⟨Nat.zero_le _, Nat.zero_le _⟩ (fun z3 M1 H locs h hP hS => ?_)
  refine lv_iload_n hx hb dX7_takesSign_4 rfl (lv_at hl 1 rfl) ?_
  refine r_icmp_eq (tgt := 10) hx hb dX7_takesSign_5 (by decide) h (fun h => ?_) (fun h => ?_)
  · refine lv_aload_n hx hb dX7_takesSign_10 rfl (lv_at hl 0 rfl) ?_
    refine lv_dup hx hb dX7_takesSign_11 rfl ?_
    refine r_geti (C := RX7) (T := TX7) (N := 5) hx hb hts (fun w h => List.mem_cons_of_mem _ (iX7 w h)) hown hK hP rfl (by decide) rfl 2 (by decide) (hts _ (List.mem_cons_of_mem _ kw_39)) (fun _ h9 => h9) dX7_takesSign_12 (by decide) h (fun z5 h => ?_)
    refine r_iconst hx hb dX7_takesSign_15 (by decide) h (fun z7 h => ?_)
    refine r_iadd hx hb dX7_takesSign_16 h (fun z9 h => ?_)
    refine r_puti (C := RX7) (T := TX7) (N := 5) hx hb hts (fun w h => List.mem_cons_of_mem _ (iX7 w h)) hown hK hP tyX7 tyX7_ok nmX7 hS rfl (by decide) rfl 2 (by decide) (hts _ (List.mem_cons_of_mem _ kw_39)) (fun _ h9 => h9) rfl (tyX7_ok 2 (by decide)) rfl rfl dX7_takesSign_17 (by decide) h (fun M10 H locs h hP hS => ?_)
    refine r_iconst hx hb dX7_takesSign_20 (by decide) h (fun z12 h => ?_)
    exact r_zret hx hb hr hlocks hP hS dX7_takesSign_21 h
  · refine r_iconst hx hb dX7_takesSign_8 (by decide) h (fun z14 h => ?_)
    exact r_zret hx hb hr hlocks hP hS dX7_takesSign_9 h
/-! TurningMilk$DairyReader.read()Z -/
abbrev RM_X0_read : Room := { frames := 9, cells := 0, slots := 0, locals := 348 }
def cw_X0_read : Cond := Cond.code yX0_read cX0_read 2 (Option.some FieldType.boolean)
theorem hd_X0_read : yX0_read.cls ≠ "java/lang/invoke/MethodHandle" ∧ yX0_read.cls ≠ "java/lang/invoke/VarHandle" ∧ (parseMethodDescriptor yX0_read.desc).map (fun d => d.parameters.length) = some 0 := by decide +kernel
theorem dX0_read_0 : decode cX0_read 0 = .ok (.aload_n 0, 1) := by decide +kernel
theorem dX0_read_1 : decode cX0_read 1 = .ok (.getfield 12, 3) := by decide +kernel
theorem dX0_read_4 : decode cX0_read 4 = .ok (.invokevirtual 29, 3) := by decide +kernel
theorem dX0_read_7 : decode cX0_read 7 = .ok (.aload_n 0, 1) := by decide +kernel
theorem dX0_read_8 : decode cX0_read 8 = .ok (.getfield 21, 3) := by decide +kernel
theorem dX0_read_11 : decode cX0_read 11 = .ok (.invokevirtual 32, 3) := by decide +kernel
theorem dX0_read_14 : decode cX0_read 14 = .ok (.aload_n 0, 1) := by decide +kernel
theorem dX0_read_15 : decode cX0_read 15 = .ok (.getfield 25, 3) := by decide +kernel
theorem dX0_read_18 : decode cX0_read 18 = .ok (.invokevirtual 33, 3) := by decide +kernel
theorem dX0_read_21 : decode cX0_read 21 = .ok (.iconst 0, 1) := by decide +kernel
theorem dX0_read_22 : decode cX0_read 22 = .ok (.istore_n 1, 1) := by decide +kernel
theorem dX0_read_23 : decode cX0_read 23 = .ok (.iload_n 1, 1) := by decide +kernel
theorem dX0_read_24 : decode cX0_read 24 = .ok (.bipush 40, 2) := by decide +kernel
theorem dX0_read_26 : decode cX0_read 26 = .ok (.if_icmp .gt 59, 3) := by decide +kernel
theorem dX0_read_29 : decode cX0_read 29 = .ok (.aload_n 0, 1) := by decide +kernel
theorem dX0_read_30 : decode cX0_read 30 = .ok (.iload_n 1, 1) := by decide +kernel
theorem dX0_read_31 : decode cX0_read 31 = .ok (.invokevirtual 38, 3) := by decide +kernel
theorem dX0_read_34 : decode cX0_read 34 = .ok (.ifCond .ne 5, 3) := by decide +kernel
theorem dX0_read_37 : decode cX0_read 37 = .ok (.iconst 0, 1) := by decide +kernel
theorem dX0_read_38 : decode cX0_read 38 = .ok (.ireturn, 1) := by decide +kernel
theorem dX0_read_39 : decode cX0_read 39 = .ok (.aload_n 0, 1) := by decide +kernel
theorem dX0_read_40 : decode cX0_read 40 = .ok (.getfield 25, 3) := by decide +kernel
theorem dX0_read_43 : decode cX0_read 43 = .ok (.invokevirtual 42, 3) := by decide +kernel
theorem dX0_read_46 : decode cX0_read 46 = .ok (.ifCond .eq 12, 3) := by decide +kernel
theorem dX0_read_49 : decode cX0_read 49 = .ok (.aload_n 0, 1) := by decide +kernel
theorem dX0_read_50 : decode cX0_read 50 = .ok (.getfield 12, 3) := by decide +kernel
theorem dX0_read_53 : decode cX0_read 53 = .ok (.invokevirtual 46, 3) := by decide +kernel
theorem dX0_read_56 : decode cX0_read 56 = .ok (.iconst 1, 1) := by decide +kernel
theorem dX0_read_57 : decode cX0_read 57 = .ok (.ireturn, 1) := by decide +kernel
theorem dX0_read_58 : decode cX0_read 58 = .ok (.aload_n 0, 1) := by decide +kernel
theorem dX0_read_59 : decode cX0_read 59 = .ok (.getfield 25, 3) := by decide +kernel
theorem dX0_read_62 : decode cX0_read 62 = .ok (.bipush 59, 2) := by decide +kernel
theorem dX0_read_64 : decode cX0_read 64 = .ok (.invokevirtual 49, 3) := by decide +kernel
theorem dX0_read_67 : decode cX0_read 67 = .ok (.ifCond .ne 12, 3) := by decide +kernel
theorem dX0_read_70 : decode cX0_read 70 = .ok (.aload_n 0, 1) := by decide +kernel
theorem dX0_read_71 : decode cX0_read 71 = .ok (.getfield 25, 3) := by decide +kernel
theorem dX0_read_74 : decode cX0_read 74 = .ok (.iconst 0, 1) := by decide +kernel
theorem dX0_read_75 : decode cX0_read 75 = .ok (.invokevirtual 53, 3) := by decide +kernel
theorem dX0_read_78 : decode cX0_read 78 = .ok (.ireturn, 1) := by decide +kernel
theorem dX0_read_79 : decode cX0_read 79 = .ok (.iinc 1 1, 3) := by decide +kernel
theorem dX0_read_82 : decode cX0_read 82 = .ok (.goto (-59), 3) := by decide +kernel
theorem dX0_read_85 : decode cX0_read 85 = .ok (.iconst 0, 1) := by decide +kernel
theorem dX0_read_86 : decode cX0_read 86 = .ok (.ireturn, 1) := by decide +kernel
def wp_X0_read_23 (S : Sh) (post : Int → Mm → Prop) : Nat → Int → Int → Mm → Prop
  | 0, _, _, _ => False
  | n + 1, u0, u1, M => wC 40 fun v1 => wIf (v1 < u1) (wC 0 fun v3 => (v3 = 0 ∨ v3 = 1) ∧ post v3 M) (isK S u0 0 ∧ (wp_X0_readClause S M u0 u1 <| fun v6 M5 => wIf (¬ v6 = 0) (wGetR S M5 u0 0 0 fun v8 => isK S v8 7 ∧ (wp_X7_isAtEnd S M5 v8 <| fun v11 M10 => wIf (v11 = 0) (wGetR S M10 u0 0 0 fun v13 => wC 59 fun v15 => isK S v13 7 ∧ (wp_X7_takesSign S M10 v13 v15 <| fun v18 M17 => wIf (¬ v18 = 0) (wA u1 1 fun v20 => wp_X0_read_23 S post n u0 v20 M17) (wGetR S M17 u0 0 0 fun v22 => wC 0 fun v24 => isK S v22 7 ∧ (wp_X7_refuse S M17 v22 v24 <| fun v27 M26 => (v27 = 0 ∨ v27 = 1) ∧ post v27 M26)))) (wGetR S M10 u0 0 1 fun v29 => isK S v29 8 ∧ (wp_X8_measureWays S M10 v29 <| fun M31 => wC 1 fun v32 => (v32 = 0 ∨ v32 = 1) ∧ post v32 M31)))) (wC 0 fun v34 => (v34 = 0 ∨ v34 = 1) ∧ post v34 M5)))
def wp_X0_read (S : Sh) (M : Mm) (u0 : Int) (post : Int → Mm → Prop) : Prop := wGetR S M u0 0 1 fun v36 => isK S v36 8 ∧ (wp_X8_clear S M v36 <| fun M38 => wGetR S M38 u0 0 2 fun v39 => isK S v39 5 ∧ (wp_X5_clear S M38 v39 <| fun M41 => wGetR S M41 u0 0 0 fun v42 => isK S v42 7 ∧ (wp_X7_rewind S M41 v42 <| fun M44 => wC 0 fun v45 => ∃ n9 : Nat, wp_X0_read_23 S post n9 u0 v45 M44)))
set_option maxHeartbeats 4000000 in
set_option maxRecDepth 100000 in
theorem t_X0_read_23 {p : Program} {l : Launch} {e : Env} {s : State} {m : MethodId} {args : Array Value} {below : List Frame} {meth : Method} {c : Code} {D : va_G} {G : Gt} {S : Sh} {post : Int → Mm → Prop} (C : Cx p s m args meth c D G cX0_read 2 (some .boolean) (cw_X0_read :: gw) RX0) : ∀ (n : Nat) (xl0 : Int) (zl1 : Int32) (M : Mm) (H : Heap) (locs : List Loc) (ls : Array Slot), Wd D G S M H → va_S (aG G) s.heap H locs → lv_has ls 2 [(0, .ref (adr G xl0)), (1, .int zl1)] → wp_X0_read_23 S post n xl0 zl1.toInt  M → W p l e RM_X0_read s m args below meth c H locs 0 0 (MQ below (QI D G S post) args s 0 0 (aG G)) (F0 m 23 ls []) := by
  obtain ⟨hx, hb, hr, hlocks, hml, hown, hts, hK⟩ := id C
  intro n
  induction n with
  | zero => intro xl0 zl1 M H locs ls hP hS hl h; exact h.elim
  | succ n ih =>
    intro xl0 zl1 M H locs ls hP hS hl h
    unfold wp_X0_read_23 at h
    refine lv_iload_n hx hb dX0_read_23 rfl (lv_at hl 1 rfl) ?_
    refine r_bipush hx hb dX0_read_24 (by decide) h (fun z2 h => ?_)
    refine r_icmp_gt (tgt := 85) hx hb dX0_read_26 (by decide) h (fun h => ?_) (fun h => ?_)
    · refine r_iconst hx hb dX0_read_85 (by decide) h (fun z4 h => ?_)
      exact r_zret hx hb hr hlocks hP hS dX0_read_86 h
    · refine lv_aload_n hx hb dX0_read_29 rfl (lv_at hl 0 rfl) ?_
      refine lv_iload_n hx hb dX0_read_30 rfl (lv_at hl 1 rfl) ?_
      refine q_Vi hx hb hml hown hts hK hP hS (c_X0_readClause l D G S _ xl0 zl1 _ h.2) ⟨callB_of 1 hts (gw_good kw_580) rfl rfl rfl (hts _ (List.mem_cons_of_mem _ kw_7)) (hts _ (List.mem_cons_of_mem _ kw_577)) hd_X0_readClause ⟨Nat.le_of_ble_eq_true rfl, Nat.le_of_ble_eq_true rfl⟩, (hts _ (List.mem_cons_of_mem _ kw_579)), (hts _ (List.mem_cons_of_mem _ kp_0))⟩ h.1 (ci := 0) rfl (by decide) rfl hl.1 rfl (lv_room (Nat.le_of_ble_eq_true rfl)) dX0_read_31 ⟨Nat.zero_le _, Nat.zero_le _⟩ (fun z7 M5 H locs h hP hS => ?_)
      refine r_if_ne (tgt := 39) hx hb dX0_read_34 (by decide) h (fun h => ?_) (fun h => ?_)
      · refine lv_aload_n hx hb dX0_read_39 rfl (lv_at hl 0 rfl) ?_
        refine r_getr (C := RX0) (T := TX0) (N := 3) hx hb hts (fun w h => List.mem_cons_of_mem _ (iX0 w h)) hown hK hP rfl (by decide) rfl 0 (by decide) (hts _ (List.mem_cons_of_mem _ kw_289)) (fun _ h9 => h9) dX0_read_40 (by decide) h (fun x9 h => ?_)
        refine q_Vi hx hb hml hown hts hK hP hS (c_X7_isAtEnd l D G S _ x9 _ h.2) ⟨callB_of 0 hts (gw_good kw_712) rfl rfl rfl (hts _ (List.mem_cons_of_mem _ kw_2)) (hts _ (List.mem_cons_of_mem _ kw_709)) hd_X7_isAtEnd ⟨Nat.le_of_ble_eq_true rfl, Nat.le_of_ble_eq_true rfl⟩, (hts _ (List.mem_cons_of_mem _ kw_710)), (hts _ (List.mem_cons_of_mem _ kw_711))⟩ h.1 (ci := 7) rfl (by decide) rfl hl.1 rfl (lv_room (Nat.le_of_ble_eq_true rfl)) dX0_read_43 ⟨Nat.zero_le _, Nat.zero_le _⟩ (fun z12 M10 H locs h hP hS => ?_)
        refine r_if_eq (tgt := 58) hx hb dX0_read_46 (by decide) h (fun h => ?_) (fun h => ?_)
        · refine lv_aload_n hx hb dX0_read_58 rfl (lv_at hl 0 rfl) ?_
          refine r_getr (C := RX0) (T := TX0) (N := 3) hx hb hts (fun w h => List.mem_cons_of_mem _ (iX0 w h)) hown hK hP rfl (by decide) rfl 0 (by decide) (hts _ (List.mem_cons_of_mem _ kw_289)) (fun _ h9 => h9) dX0_read_59 (by decide) h (fun x14 h => ?_)
          refine r_bipush hx hb dX0_read_62 (by decide) h (fun z16 h => ?_)
          refine q_Vi hx hb hml hown hts hK hP hS (c_X7_takesSign l D G S _ x14 z16 _ h.2) ⟨callB_of 1 hts (gw_good kw_724) rfl rfl rfl (hts _ (List.mem_cons_of_mem _ kw_2)) (hts _ (List.mem_cons_of_mem _ kw_721)) hd_X7_takesSign ⟨Nat.le_of_ble_eq_true rfl, Nat.le_of_ble_eq_true rfl⟩, (hts _ (List.mem_cons_of_mem _ kw_722)), (hts _ (List.mem_cons_of_mem _ kw_723))⟩ h.1 (ci := 7) rfl (by decide) rfl hl.1 rfl (lv_room (Nat.le_of_ble_eq_true rfl)) dX0_read_64 ⟨Nat.zero_le _, Nat.zero_le _⟩ (fun z19 M17 H locs h hP hS => ?_)
          refine r_if_ne (tgt := 79) hx hb dX0_read_67 (by decide) h (fun h => ?_) (fun h => ?_)
          · refine r_iinc hx hb (fun z21 => [(1, .int z21), (0, .ref (adr G xl0))]) dX0_read_79 (by decide) hl (k := 1) rfl (by decide) (fun _ => rfl) h (fun z21 ls hl h => ?_)
            refine lv_goto (tgt := 23) hx hb dX0_read_82 (by decide) ?_
            exact ih xl0 z21 _ _ _ _ hP hS (lv_sub hl [1, 0] rfl) h
          · refine lv_aload_n hx hb dX0_read_70 rfl (lv_at hl 0 rfl) ?_
            refine r_getr (C := RX0) (T := TX0) (N := 3) hx hb hts (fun w h => List.mem_cons_of_mem _ (iX0 w h)) hown hK hP rfl (by decide) rfl 0 (by decide) (hts _ (List.mem_cons_of_mem _ kw_289)) (fun _ h9 => h9) dX0_read_71 (by decide) h (fun x23 h => ?_)
            refine r_iconst hx hb dX0_read_74 (by decide) h (fun z25 h => ?_)
            refine q_Vi hx hb hml hown hts hK hP hS (c_X7_refuse l D G S _ x23 z25 _ h.2) ⟨callB_of 1 hts (gw_good kw_657) rfl rfl rfl (hts _ (List.mem_cons_of_mem _ kw_2)) (hts _ (List.mem_cons_of_mem _ kw_654)) hd_X7_refuse ⟨Nat.le_of_ble_eq_true rfl, Nat.le_of_ble_eq_true rfl⟩, (hts _ (List.mem_cons_of_mem _ kw_655)), (hts _ (List.mem_cons_of_mem _ kw_656))⟩ h.1 (ci := 7) rfl (by decide) rfl hl.1 rfl (lv_room (Nat.le_of_ble_eq_true rfl)) dX0_read_75 ⟨Nat.zero_le _, Nat.zero_le _⟩ (fun z28 M26 H locs h hP hS => ?_)
            exact r_zret hx hb hr hlocks hP hS dX0_read_78 h
        · refine lv_aload_n hx hb dX0_read_49 rfl (lv_at hl 0 rfl) ?_
          refine r_getr (C := RX0) (T := TX0) (N := 3) hx hb hts (fun w h => List.mem_cons_of_mem _ (iX0 w h)) hown hK hP rfl (by decide) rfl 1 (by decide) (hts _ (List.mem_cons_of_mem _ kw_290)) (fun _ h9 => h9) dX0_read_50 (by decide) h (fun x30 h => ?_)
          refine q_Vv hx hb hml hown hts hK hP hS (c_X8_measureWays l D G S _ x30 _ h.2) ⟨callB_of 0 hts (gw_good kw_716) rfl rfl rfl (hts _ (List.mem_cons_of_mem _ kw_4)) (hts _ (List.mem_cons_of_mem _ kw_713)) hd_X8_measureWays ⟨Nat.le_of_ble_eq_true rfl, Nat.le_of_ble_eq_true rfl⟩, (hts _ (List.mem_cons_of_mem _ kw_714)), (hts _ (List.mem_cons_of_mem _ kw_715))⟩ h.1 (ci := 8) rfl (by decide) rfl hl.1 rfl (lv_room (Nat.le_of_ble_eq_true rfl)) dX0_read_53 ⟨Nat.zero_le _, Nat.zero_le _⟩ (fun M31 H locs h hP hS => ?_)
          refine r_iconst hx hb dX0_read_56 (by decide) h (fun z33 h => ?_)
          exact r_zret hx hb hr hlocks hP hS dX0_read_57 h
      · refine r_iconst hx hb dX0_read_37 (by decide) h (fun z35 h => ?_)
        exact r_zret hx hb hr hlocks hP hS dX0_read_38 h
set_option maxHeartbeats 4000000 in
set_option maxRecDepth 100000 in
theorem c_X0_read (l : Launch) (D : va_G) (G : Gt) (S : Sh) (M : Mm) (xl0 : Int) (post : Int → Mm → Prop) (h : wp_X0_read S M xl0 post) : Met l yX0_read (cw_X0_read :: gw) RM_X0_read (va_Pc [.ref (adr G xl0)] (fun U => KN D G U ∧ Wd D G S M U.heap)) (QI D G S post) 0 0 (aG G) := by
  refine Met.ofW (cc := cX0_read) (maxL := 2) (ret := (some .boolean)) (by decide) rfl ?_
  intro p e s m args below meth c s₁ B hml hv
  obtain ⟨rfl, hK, hP⟩ := hv
  have hx := B.exec
  have hb := B.bytes
  have hr := B.returns
  have hts := atoms_spec (ws := cw_X0_read :: gw) B.pre
  have hown : s.vm.findClass RX0 = some m.cls := findClass_of_methodNamed B.named
  have hlocks := B.notSynchronized
  have hS : va_S (aG G) s.heap s.heap [] := va_S.rf
  have C : Cx p s m ([.ref (adr G xl0)] : List Value).toArray meth c D G cX0_read 2 (some .boolean) (cw_X0_read :: gw) RX0 := ⟨hx, hb, hr, hlocks, hml, hown, hts, hK⟩
  have hl := lv_entry ([.ref (adr G xl0)]) (n := 2) (Nat.le_of_ble_eq_true rfl)
  rw [lg_entry_eq]
  generalize (lg_sl ([.ref (adr G xl0)]) ++ List.replicate (2 - (lg_sl ([.ref (adr G xl0)])).length) Slot.unset).toArray = ls at hl ⊢
  have hl : lv_has ls 2 [(0, .ref (adr G xl0))] := hl
  unfold wp_X0_read at h
  refine lv_aload_n hx hb dX0_read_0 rfl (lv_at hl 0 rfl) ?_
  refine r_getr (C := RX0) (T := TX0) (N := 3) hx hb hts (fun w h => List.mem_cons_of_mem _ (iX0 w h)) hown hK hP rfl (by decide) rfl 1 (by decide) (hts _ (List.mem_cons_of_mem _ kw_290)) (fun _ h9 => h9) dX0_read_1 (by decide) h (fun x37 h => ?_)
  refine q_Vv hx hb hml hown hts hK hP hS (c_X8_clear l D G S _ x37 _ h.2) ⟨callB_of 0 hts (gw_good kw_567) rfl rfl rfl (hts _ (List.mem_cons_of_mem _ kw_4)) (hts _ (List.mem_cons_of_mem _ kw_564)) hd_X8_clear ⟨Nat.le_of_ble_eq_true rfl, Nat.le_of_ble_eq_true rfl⟩, (hts _ (List.mem_cons_of_mem _ kw_565)), (hts _ (List.mem_cons_of_mem _ kw_566))⟩ h.1 (ci := 8) rfl (by decide) rfl hl.1 rfl (lv_room (Nat.le_of_ble_eq_true rfl)) dX0_read_4 ⟨Nat.zero_le _, Nat.zero_le _⟩ (fun M38 H locs h hP hS => ?_)
  refine lv_aload_n hx hb dX0_read_7 rfl (lv_at hl 0 rfl) ?_
  refine r_getr (C := RX0) (T := TX0) (N := 3) hx hb hts (fun w h => List.mem_cons_of_mem _ (iX0 w h)) hown hK hP rfl (by decide) rfl 2 (by decide) (hts _ (List.mem_cons_of_mem _ kw_292)) (fun _ h9 => h9) dX0_read_8 (by decide) h (fun x40 h => ?_)
  refine q_Vv hx hb hml hown hts hK hP hS (c_X5_clear l D G S _ x40 _ h.2) ⟨callB_of 0 hts (gw_good kw_572) rfl rfl rfl (hts _ (List.mem_cons_of_mem _ kw_5)) (hts _ (List.mem_cons_of_mem _ kw_569)) hd_X5_clear ⟨Nat.le_of_ble_eq_true rfl, Nat.le_of_ble_eq_true rfl⟩, (hts _ (List.mem_cons_of_mem _ kw_570)), (hts _ (List.mem_cons_of_mem _ kw_571))⟩ h.1 (ci := 5) rfl (by decide) rfl hl.1 rfl (lv_room (Nat.le_of_ble_eq_true rfl)) dX0_read_11 ⟨Nat.zero_le _, Nat.zero_le _⟩ (fun M41 H locs h hP hS => ?_)
  refine lv_aload_n hx hb dX0_read_14 rfl (lv_at hl 0 rfl) ?_
  refine r_getr (C := RX0) (T := TX0) (N := 3) hx hb hts (fun w h => List.mem_cons_of_mem _ (iX0 w h)) hown hK hP rfl (by decide) rfl 0 (by decide) (hts _ (List.mem_cons_of_mem _ kw_289)) (fun _ h9 => h9) dX0_read_15 (by decide) h (fun x43 h => ?_)
  refine q_Vv hx hb hml hown hts hK hP hS (c_X7_rewind l D G S _ x43 _ h.2) ⟨callB_of 0 hts (gw_good kw_576) rfl rfl rfl (hts _ (List.mem_cons_of_mem _ kw_2)) (hts _ (List.mem_cons_of_mem _ kw_573)) hd_X7_rewind ⟨Nat.le_of_ble_eq_true rfl, Nat.le_of_ble_eq_true rfl⟩, (hts _ (List.mem_cons_of_mem _ kw_574)), (hts _ (List.mem_cons_of_mem _ kw_575))⟩ h.1 (ci := 7) rfl (by decide) rfl hl.1 rfl (lv_room (Nat.le_of_ble_eq_true rfl)) dX0_read_18 ⟨Nat.zero_le _, Nat.zero_le _⟩ (fun M44 H locs h hP hS => ?_)
  refine r_iconst hx hb dX0_read_21 (by decide) h (fun z46 h => ?_)
  refine lv_istore_n (lv' := [(1, .int z46), (0, .ref (adr G xl0))]) hx hb dX0_read_22 rfl hl (by decide) rfl (fun ls hl => ?_)
  obtain ⟨n9, h⟩ := h
  exact t_X0_read_23 C n9 xl0 z46 _ _ _ _ hP hS (lv_sub hl [1, 0] rfl) h
/-! TurningMilk$Told.become(LTurningMilk$Told;)V -/
abbrev RM_X8_become : Room := { frames := 1, cells := 0, slots := 0, locals := 60 }
def cw_X8_become : Cond := Cond.code yX8_become cX8_become 2 (Option.none : Option FieldType)
theorem hd_X8_become : yX8_become.cls ≠ "java/lang/invoke/MethodHandle" ∧ yX8_become.cls ≠ "java/lang/invoke/VarHandle" ∧ (parseMethodDescriptor yX8_become.desc).map (fun d => d.parameters.length) = some 1 := by decide +kernel
theorem dX8_become_0 : decode cX8_become 0 = .ok (.aload_n 0, 1) := by decide +kernel
theorem dX8_become_1 : decode cX8_become 1 = .ok (.aload_n 1, 1) := by decide +kernel
theorem dX8_become_2 : decode cX8_become 2 = .ok (.getfield 45, 3) := by decide +kernel
theorem dX8_become_5 : decode cX8_become 5 = .ok (.putfield 45, 3) := by decide +kernel
theorem dX8_become_8 : decode cX8_become 8 = .ok (.aload_n 0, 1) := by decide +kernel
theorem dX8_become_9 : decode cX8_become 9 = .ok (.aload_n 1, 1) := by decide +kernel
theorem dX8_become_10 : decode cX8_become 10 = .ok (.getfield 49, 3) := by decide +kernel
theorem dX8_become_13 : decode cX8_become 13 = .ok (.putfield 49, 3) := by decide +kernel
theorem dX8_become_16 : decode cX8_become 16 = .ok (.aload_n 0, 1) := by decide +kernel
theorem dX8_become_17 : decode cX8_become 17 = .ok (.aload_n 1, 1) := by decide +kernel
theorem dX8_become_18 : decode cX8_become 18 = .ok (.getfield 52, 3) := by decide +kernel
theorem dX8_become_21 : decode cX8_become 21 = .ok (.putfield 52, 3) := by decide +kernel
theorem dX8_become_24 : decode cX8_become 24 = .ok (.aload_n 0, 1) := by decide +kernel
theorem dX8_become_25 : decode cX8_become 25 = .ok (.aload_n 1, 1) := by decide +kernel
theorem dX8_become_26 : decode cX8_become 26 = .ok (.getfield 55, 3) := by decide +kernel
theorem dX8_become_29 : decode cX8_become 29 = .ok (.putfield 55, 3) := by decide +kernel
theorem dX8_become_32 : decode cX8_become 32 = .ok (.aload_n 0, 1) := by decide +kernel
theorem dX8_become_33 : decode cX8_become 33 = .ok (.aload_n 1, 1) := by decide +kernel
theorem dX8_become_34 : decode cX8_become 34 = .ok (.getfield 58, 3) := by decide +kernel
theorem dX8_become_37 : decode cX8_become 37 = .ok (.putfield 58, 3) := by decide +kernel
theorem dX8_become_40 : decode cX8_become 40 = .ok (.aload_n 0, 1) := by decide +kernel
theorem dX8_become_41 : decode cX8_become 41 = .ok (.aload_n 1, 1) := by decide +kernel
theorem dX8_become_42 : decode cX8_become 42 = .ok (.getfield 61, 3) := by decide +kernel
theorem dX8_become_45 : decode cX8_become 45 = .ok (.putfield 61, 3) := by decide +kernel
theorem dX8_become_48 : decode cX8_become 48 = .ok (.aload_n 0, 1) := by decide +kernel
theorem dX8_become_49 : decode cX8_become 49 = .ok (.aload_n 1, 1) := by decide +kernel
theorem dX8_become_50 : decode cX8_become 50 = .ok (.getfield 64, 3) := by decide +kernel
theorem dX8_become_53 : decode cX8_become 53 = .ok (.putfield 64, 3) := by decide +kernel
theorem dX8_become_56 : decode cX8_become 56 = .ok (.aload_n 0, 1) := by decide +kernel
theorem dX8_become_57 : decode cX8_become 57 = .ok (.aload_n 1, 1) := by decide +kernel
theorem dX8_become_58 : decode cX8_become 58 = .ok (.getfield 67, 3) := by decide +kernel
theorem dX8_become_61 : decode cX8_become 61 = .ok (.putfield 67, 3) := by decide +kernel
theorem dX8_become_64 : decode cX8_become 64 = .ok (.aload_n 1, 1) := by decide +kernel
theorem dX8_become_65 : decode cX8_become 65 = .ok (.getfield 9, 3) := by decide +kernel
theorem dX8_become_68 : decode cX8_become 68 = .ok (.iconst 0, 1) := by decide +kernel
theorem dX8_become_69 : decode cX8_become 69 = .ok (.aload_n 0, 1) := by decide +kernel
theorem dX8_become_70 : decode cX8_become 70 = .ok (.getfield 9, 3) := by decide +kernel
theorem dX8_become_73 : decode cX8_become 73 = .ok (.iconst 0, 1) := by decide +kernel
theorem dX8_become_74 : decode cX8_become 74 = .ok (.aload_n 0, 1) := by decide +kernel
theorem dX8_become_75 : decode cX8_become 75 = .ok (.getfield 9, 3) := by decide +kernel
theorem dX8_become_78 : decode cX8_become 78 = .ok (.arraylength, 1) := by decide +kernel
theorem dX8_become_79 : decode cX8_become 79 = .ok (.invokestatic 76, 3) := by decide +kernel
theorem dX8_become_82 : decode cX8_become 82 = .ok (.aload_n 1, 1) := by decide +kernel
theorem dX8_become_83 : decode cX8_become 83 = .ok (.getfield 15, 3) := by decide +kernel
theorem dX8_become_86 : decode cX8_become 86 = .ok (.iconst 0, 1) := by decide +kernel
theorem dX8_become_87 : decode cX8_become 87 = .ok (.aload_n 0, 1) := by decide +kernel
theorem dX8_become_88 : decode cX8_become 88 = .ok (.getfield 15, 3) := by decide +kernel
theorem dX8_become_91 : decode cX8_become 91 = .ok (.iconst 0, 1) := by decide +kernel
theorem dX8_become_92 : decode cX8_become 92 = .ok (.aload_n 0, 1) := by decide +kernel
theorem dX8_become_93 : decode cX8_become 93 = .ok (.getfield 15, 3) := by decide +kernel
theorem dX8_become_96 : decode cX8_become 96 = .ok (.arraylength, 1) := by decide +kernel
theorem dX8_become_97 : decode cX8_become 97 = .ok (.invokestatic 76, 3) := by decide +kernel
theorem dX8_become_100 : decode cX8_become 100 = .ok (.aload_n 1, 1) := by decide +kernel
theorem dX8_become_101 : decode cX8_become 101 = .ok (.getfield 18, 3) := by decide +kernel
theorem dX8_become_104 : decode cX8_become 104 = .ok (.iconst 0, 1) := by decide +kernel
theorem dX8_become_105 : decode cX8_become 105 = .ok (.aload_n 0, 1) := by decide +kernel
theorem dX8_become_106 : decode cX8_become 106 = .ok (.getfield 18, 3) := by decide +kernel
theorem dX8_become_109 : decode cX8_become 109 = .ok (.iconst 0, 1) := by decide +kernel
theorem dX8_become_110 : decode cX8_become 110 = .ok (.iconst 5, 1) := by decide +kernel
theorem dX8_become_111 : decode cX8_become 111 = .ok (.invokestatic 76, 3) := by decide +kernel
theorem dX8_become_114 : decode cX8_become 114 = .ok (.aload_n 1, 1) := by decide +kernel
theorem dX8_become_115 : decode cX8_become 115 = .ok (.getfield 21, 3) := by decide +kernel
theorem dX8_become_118 : decode cX8_become 118 = .ok (.iconst 0, 1) := by decide +kernel
theorem dX8_become_119 : decode cX8_become 119 = .ok (.aload_n 0, 1) := by decide +kernel
theorem dX8_become_120 : decode cX8_become 120 = .ok (.getfield 21, 3) := by decide +kernel
theorem dX8_become_123 : decode cX8_become 123 = .ok (.iconst 0, 1) := by decide +kernel
theorem dX8_become_124 : decode cX8_become 124 = .ok (.iconst 5, 1) := by decide +kernel
theorem dX8_become_125 : decode cX8_become 125 = .ok (.invokestatic 76, 3) := by decide +kernel
theorem dX8_become_128 : decode cX8_become 128 = .ok (.aload_n 1, 1) := by decide +kernel
theorem dX8_become_129 : decode cX8_become 129 = .ok (.getfield 24, 3) := by decide +kernel
theorem dX8_become_132 : decode cX8_become 132 = .ok (.iconst 0, 1) := by decide +kernel
theorem dX8_become_133 : decode cX8_become 133 = .ok (.aload_n 0, 1) := by decide +kernel
theorem dX8_become_134 : decode cX8_become 134 = .ok (.getfield 24, 3) := by decide +kernel
theorem dX8_become_137 : decode cX8_become 137 = .ok (.iconst 0, 1) := by decide +kernel
theorem dX8_become_138 : decode cX8_become 138 = .ok (.iconst 4, 1) := by decide +kernel
theorem dX8_become_139 : decode cX8_become 139 = .ok (.invokestatic 76, 3) := by decide +kernel
theorem dX8_become_142 : decode cX8_become 142 = .ok (.aload_n 1, 1) := by decide +kernel
theorem dX8_become_143 : decode cX8_become 143 = .ok (.getfield 27, 3) := by decide +kernel
theorem dX8_become_146 : decode cX8_become 146 = .ok (.iconst 0, 1) := by decide +kernel
theorem dX8_become_147 : decode cX8_become 147 = .ok (.aload_n 0, 1) := by decide +kernel
theorem dX8_become_148 : decode cX8_become 148 = .ok (.getfield 27, 3) := by decide +kernel
theorem dX8_become_151 : decode cX8_become 151 = .ok (.iconst 0, 1) := by decide +kernel
theorem dX8_become_152 : decode cX8_become 152 = .ok (.iconst 4, 1) := by decide +kernel
theorem dX8_become_153 : decode cX8_become 153 = .ok (.invokestatic 76, 3) := by decide +kernel
theorem dX8_become_156 : decode cX8_become 156 = .ok (.aload_n 1, 1) := by decide +kernel
theorem dX8_become_157 : decode cX8_become 157 = .ok (.getfield 30, 3) := by decide +kernel
theorem dX8_become_160 : decode cX8_become 160 = .ok (.iconst 0, 1) := by decide +kernel
theorem dX8_become_161 : decode cX8_become 161 = .ok (.aload_n 0, 1) := by decide +kernel
theorem dX8_become_162 : decode cX8_become 162 = .ok (.getfield 30, 3) := by decide +kernel
theorem dX8_become_165 : decode cX8_become 165 = .ok (.iconst 0, 1) := by decide +kernel
theorem dX8_become_166 : decode cX8_become 166 = .ok (.iconst 4, 1) := by decide +kernel
theorem dX8_become_167 : decode cX8_become 167 = .ok (.invokestatic 76, 3) := by decide +kernel
theorem dX8_become_170 : decode cX8_become 170 = .ok (.aload_n 1, 1) := by decide +kernel
theorem dX8_become_171 : decode cX8_become 171 = .ok (.getfield 33, 3) := by decide +kernel
theorem dX8_become_174 : decode cX8_become 174 = .ok (.iconst 0, 1) := by decide +kernel
theorem dX8_become_175 : decode cX8_become 175 = .ok (.aload_n 0, 1) := by decide +kernel
theorem dX8_become_176 : decode cX8_become 176 = .ok (.getfield 33, 3) := by decide +kernel
theorem dX8_become_179 : decode cX8_become 179 = .ok (.iconst 0, 1) := by decide +kernel
theorem dX8_become_180 : decode cX8_become 180 = .ok (.bipush 6, 2) := by decide +kernel
theorem dX8_become_182 : decode cX8_become 182 = .ok (.invokestatic 76, 3) := by decide +kernel
theorem dX8_become_185 : decode cX8_become 185 = .ok (.aload_n 1, 1) := by decide +kernel
theorem dX8_become_186 : decode cX8_become 186 = .ok (.getfield 36, 3) := by decide +kernel
theorem dX8_become_189 : decode cX8_become 189 = .ok (.iconst 0, 1) := by decide +kernel
theorem dX8_become_190 : decode cX8_become 190 = .ok (.aload_n 0, 1) := by decide +kernel
theorem dX8_become_191 : decode cX8_become 191 = .ok (.getfield 36, 3) := by decide +kernel
theorem dX8_become_194 : decode cX8_become 194 = .ok (.iconst 0, 1) := by decide +kernel
theorem dX8_become_195 : decode cX8_become 195 = .ok (.bipush 6, 2) := by decide +kernel
theorem dX8_become_197 : decode cX8_become 197 = .ok (.invokestatic 76, 3) := by decide +kernel
theorem dX8_become_200 : decode cX8_become 200 = .ok (.aload_n 1, 1) := by decide +kernel
theorem dX8_become_201 : decode cX8_become 201 = .ok (.getfield 39, 3) := by decide +kernel
theorem dX8_become_204 : decode cX8_become 204 = .ok (.iconst 0, 1) := by decide +kernel
theorem dX8_become_205 : decode cX8_become 205 = .ok (.aload_n 0, 1) := by decide +kernel
theorem dX8_become_206 : decode cX8_become 206 = .ok (.getfield 39, 3) := by decide +kernel
theorem dX8_become_209 : decode cX8_become 209 = .ok (.iconst 0, 1) := by decide +kernel
theorem dX8_become_210 : decode cX8_become 210 = .ok (.bipush 6, 2) := by decide +kernel
theorem dX8_become_212 : decode cX8_become 212 = .ok (.invokestatic 76, 3) := by decide +kernel
theorem dX8_become_215 : decode cX8_become 215 = .ok (.aload_n 1, 1) := by decide +kernel
theorem dX8_become_216 : decode cX8_become 216 = .ok (.getfield 42, 3) := by decide +kernel
theorem dX8_become_219 : decode cX8_become 219 = .ok (.iconst 0, 1) := by decide +kernel
theorem dX8_become_220 : decode cX8_become 220 = .ok (.aload_n 0, 1) := by decide +kernel
theorem dX8_become_221 : decode cX8_become 221 = .ok (.getfield 42, 3) := by decide +kernel
theorem dX8_become_224 : decode cX8_become 224 = .ok (.iconst 0, 1) := by decide +kernel
theorem dX8_become_225 : decode cX8_become 225 = .ok (.bipush 6, 2) := by decide +kernel
theorem dX8_become_227 : decode cX8_become 227 = .ok (.invokestatic 76, 3) := by decide +kernel
theorem dX8_become_230 : decode cX8_become 230 = .ok (.return_, 1) := by decide +kernel
def wp_X8_become (S : Sh) (M : Mm) (u0 : Int) (u1 : Int) (post : Mm → Prop) : Prop := wGet S M u1 8 0 fun v1 => wPut S M u0 8 0 v1 fun M3 => wGet S M3 u1 8 1 fun v4 => wPut S M3 u0 8 1 v4 fun M6 => wGet S M6 u1 8 2 fun v7 => wPut S M6 u0 8 2 v7 fun M9 => wGet S M9 u1 8 3 fun v10 => wPut S M9 u0 8 3 v10 fun M12 => wGet S M12 u1 8 4 fun v13 => wPut S M12 u0 8 4 v13 fun M15 => wGet S M15 u1 8 5 fun v16 => wPut S M15 u0 8 5 v16 fun M18 => wGet S M18 u1 8 6 fun v19 => wPut S M18 u0 8 6 v19 fun M21 => wGet S M21 u1 8 7 fun v22 => wPut S M21 u0 8 7 v22 fun M24 => wGetR S M24 u1 8 8 fun v25 => wC 0 fun v27 => wGetR S M24 u0 8 8 fun v29 => wC 0 fun v31 => wGetR S M24 u0 8 8 fun v33 => wLen S v33 14 fun v35 => wCpy S M24 v25 v27 v29 v31 v35 fun M37 => wGetR S M37 u1 8 9 fun v38 => wC 0 fun v40 => wGetR S M37 u0 8 9 fun v42 => wC 0 fun v44 => wGetR S M37 u0 8 9 fun v46 => wLen S v46 14 fun v48 => wCpy S M37 v38 v40 v42 v44 v48 fun M50 => wGetR S M50 u1 8 10 fun v51 => wC 0 fun v53 => wGetR S M50 u0 8 10 fun v55 => wC 0 fun v57 => wC 5 fun v59 => wCpy S M50 v51 v53 v55 v57 v59 fun M61 => wGetR S M61 u1 8 11 fun v62 => wC 0 fun v64 => wGetR S M61 u0 8 11 fun v66 => wC 0 fun v68 => wC 5 fun v70 => wCpy S M61 v62 v64 v66 v68 v70 fun M72 => wGetR S M72 u1 8 12 fun v73 => wC 0 fun v75 => wGetR S M72 u0 8 12 fun v77 => wC 0 fun v79 => wC 4 fun v81 => wCpy S M72 v73 v75 v77 v79 v81 fun M83 => wGetR S M83 u1 8 13 fun v84 => wC 0 fun v86 => wGetR S M83 u0 8 13 fun v88 => wC 0 fun v90 => wC 4 fun v92 => wCpy S M83 v84 v86 v88 v90 v92 fun M94 => wGetR S M94 u1 8 14 fun v95 => wC 0 fun v97 => wGetR S M94 u0 8 14 fun v99 => wC 0 fun v101 => wC 4 fun v103 => wCpy S M94 v95 v97 v99 v101 v103 fun M105 => wGetR S M105 u1 8 15 fun v106 => wC 0 fun v108 => wGetR S M105 u0 8 15 fun v110 => wC 0 fun v112 => wC 6 fun v114 => wCpy S M105 v106 v108 v110 v112 v114 fun M116 => wGetR S M116 u1 8 16 fun v117 => wC 0 fun v119 => wGetR S M116 u0 8 16 fun v121 => wC 0 fun v123 => wC 6 fun v125 => wCpy S M116 v117 v119 v121 v123 v125 fun M127 => wGetR S M127 u1 8 17 fun v128 => wC 0 fun v130 => wGetR S M127 u0 8 17 fun v132 => wC 0 fun v134 => wC 6 fun v136 => wCpy S M127 v128 v130 v132 v134 v136 fun M138 => wGetR S M138 u1 8 18 fun v139 => wC 0 fun v141 => wGetR S M138 u0 8 18 fun v143 => wC 0 fun v145 => wC 6 fun v147 => wCpy S M138 v139 v141 v143 v145 v147 fun M149 => post M149
set_option maxHeartbeats 4000000 in
set_option maxRecDepth 100000 in
theorem c_X8_become (l : Launch) (D : va_G) (G : Gt) (S : Sh) (M : Mm) (xl0 : Int) (xl1 : Int) (post : Mm → Prop) (h : wp_X8_become S M xl0 xl1 post) : Met l yX8_become (cw_X8_become :: gw) RM_X8_become (va_Pc [.ref (adr G xl0), .ref (adr G xl1)] (fun U => KN D G U ∧ Wd D G S M U.heap)) (QV D G S post) 0 0 (aG G) := by
  refine Met.ofW (cc := cX8_become) (maxL := 2) (ret := none) (by decide) rfl ?_
  intro p e s m args below meth c s₁ B hml hv
  obtain ⟨rfl, hK, hP⟩ := hv
  have hx := B.exec
  have hb := B.bytes
  have hr := B.returns
  have hts := atoms_spec (ws := cw_X8_become :: gw) B.pre
  have hown : s.vm.findClass RX8 = some m.cls := findClass_of_methodNamed B.named
  have hlocks := B.notSynchronized
  have hS : va_S (aG G) s.heap s.heap [] := va_S.rf
  have C : Cx p s m ([.ref (adr G xl0), .ref (adr G xl1)] : List Value).toArray meth c D G cX8_become 2 none (cw_X8_become :: gw) RX8 := ⟨hx, hb, hr, hlocks, hml, hown, hts, hK⟩
  have hl := lv_entry ([.ref (adr G xl0), .ref (adr G xl1)]) (n := 2) (Nat.le_of_ble_eq_true rfl)
  rw [lg_entry_eq]
  generalize (lg_sl ([.ref (adr G xl0), .ref (adr G xl1)]) ++ List.replicate (2 - (lg_sl ([.ref (adr G xl0), .ref (adr G xl1)])).length) Slot.unset).toArray = ls at hl ⊢
  have hl : lv_has ls 2 [(0, .ref (adr G xl0)), (1, .ref (adr G xl1))] := hl
  unfold wp_X8_become at h
  refine lv_aload_n hx hb dX8_become_0 rfl (lv_at hl 0 rfl) ?_
  refine lv_aload_n hx hb dX8_become_1 rfl (lv_at hl 1 rfl) ?_
  refine r_geti (C := RX8) (T := TX8) (N := 19) hx hb hts (fun w h => List.mem_cons_of_mem _ (iX8 w h)) hown hK hP rfl (by decide) rfl 0 (by decide) (hts _ (List.mem_cons_of_mem _ kw_67)) (fun _ h9 => h9) dX8_become_2 (by decide) h (fun z2 h => ?_)
  refine r_puti (C := RX8) (T := TX8) (N := 19) hx hb hts (fun w h => List.mem_cons_of_mem _ (iX8 w h)) hown hK hP tyX8 tyX8_ok nmX8 hS rfl (by decide) rfl 0 (by decide) (hts _ (List.mem_cons_of_mem _ kw_67)) (fun _ h9 => h9) rfl (tyX8_ok 0 (by decide)) rfl rfl dX8_become_5 (by decide) h (fun M3 H locs h hP hS => ?_)
  refine lv_aload_n hx hb dX8_become_8 rfl (lv_at hl 0 rfl) ?_
  refine lv_aload_n hx hb dX8_become_9 rfl (lv_at hl 1 rfl) ?_
  refine r_geti (C := RX8) (T := TX8) (N := 19) hx hb hts (fun w h => List.mem_cons_of_mem _ (iX8 w h)) hown hK hP rfl (by decide) rfl 1 (by decide) (hts _ (List.mem_cons_of_mem _ kw_71)) (fun _ h9 => h9) dX8_become_10 (by decide) h (fun z5 h => ?_)
  refine r_puti (C := RX8) (T := TX8) (N := 19) hx hb hts (fun w h => List.mem_cons_of_mem _ (iX8 w h)) hown hK hP tyX8 tyX8_ok nmX8 hS rfl (by decide) rfl 1 (by decide) (hts _ (List.mem_cons_of_mem _ kw_71)) (fun _ h9 => h9) rfl (tyX8_ok 1 (by decide)) rfl rfl dX8_become_13 (by decide) h (fun M6 H locs h hP hS => ?_)
  refine lv_aload_n hx hb dX8_become_16 rfl (lv_at hl 0 rfl) ?_
  refine lv_aload_n hx hb dX8_become_17 rfl (lv_at hl 1 rfl) ?_
  refine r_geti (C := RX8) (T := TX8) (N := 19) hx hb hts (fun w h => List.mem_cons_of_mem _ (iX8 w h)) hown hK hP rfl (by decide) rfl 2 (by decide) (hts _ (List.mem_cons_of_mem _ kw_74)) (fun _ h9 => h9) dX8_become_18 (by decide) h (fun z8 h => ?_)
  refine r_puti (C := RX8) (T := TX8) (N := 19) hx hb hts (fun w h => List.mem_cons_of_mem _ (iX8 w h)) hown hK hP tyX8 tyX8_ok nmX8 hS rfl (by decide) rfl 2 (by decide) (hts _ (List.mem_cons_of_mem _ kw_74)) (fun _ h9 => h9) rfl (tyX8_ok 2 (by decide)) rfl rfl dX8_become_21 (by decide) h (fun M9 H locs h hP hS => ?_)
  refine lv_aload_n hx hb dX8_become_24 rfl (lv_at hl 0 rfl) ?_
  refine lv_aload_n hx hb dX8_become_25 rfl (lv_at hl 1 rfl) ?_
  refine r_geti (C := RX8) (T := TX8) (N := 19) hx hb hts (fun w h => List.mem_cons_of_mem _ (iX8 w h)) hown hK hP rfl (by decide) rfl 3 (by decide) (hts _ (List.mem_cons_of_mem _ kw_79)) (fun _ h9 => h9) dX8_become_26 (by decide) h (fun z11 h => ?_)
  refine r_puti (C := RX8) (T := TX8) (N := 19) hx hb hts (fun w h => List.mem_cons_of_mem _ (iX8 w h)) hown hK hP tyX8 tyX8_ok nmX8 hS rfl (by decide) rfl 3 (by decide) (hts _ (List.mem_cons_of_mem _ kw_79)) (fun _ h9 => h9) rfl (tyX8_ok 3 (by decide)) rfl rfl dX8_become_29 (by decide) h (fun M12 H locs h hP hS => ?_)
  refine lv_aload_n hx hb dX8_become_32 rfl (lv_at hl 0 rfl) ?_
  refine lv_aload_n hx hb dX8_become_33 rfl (lv_at hl 1 rfl) ?_
  refine r_geti (C := RX8) (T := TX8) (N := 19) hx hb hts (fun w h => List.mem_cons_of_mem _ (iX8 w h)) hown hK hP rfl (by decide) rfl 4 (by decide) (hts _ (List.mem_cons_of_mem _ kw_81)) (fun _ h9 => h9) dX8_become_34 (by decide) h (fun z14 h => ?_)
  refine r_puti (C := RX8) (T := TX8) (N := 19) hx hb hts (fun w h => List.mem_cons_of_mem _ (iX8 w h)) hown hK hP tyX8 tyX8_ok nmX8 hS rfl (by decide) rfl 4 (by decide) (hts _ (List.mem_cons_of_mem _ kw_81)) (fun _ h9 => h9) rfl (tyX8_ok 4 (by decide)) rfl rfl dX8_become_37 (by decide) h (fun M15 H locs h hP hS => ?_)
  refine lv_aload_n hx hb dX8_become_40 rfl (lv_at hl 0 rfl) ?_
  refine lv_aload_n hx hb dX8_become_41 rfl (lv_at hl 1 rfl) ?_
  refine r_geti (C := RX8) (T := TX8) (N := 19) hx hb hts (fun w h => List.mem_cons_of_mem _ (iX8 w h)) hown hK hP rfl (by decide) rfl 5 (by decide) (hts _ (List.mem_cons_of_mem _ kw_89)) (fun _ h9 => h9) dX8_become_42 (by decide) h (fun z17 h => ?_)
  refine r_puti (C := RX8) (T := TX8) (N := 19) hx hb hts (fun w h => List.mem_cons_of_mem _ (iX8 w h)) hown hK hP tyX8 tyX8_ok nmX8 hS rfl (by decide) rfl 5 (by decide) (hts _ (List.mem_cons_of_mem _ kw_89)) (fun _ h9 => h9) rfl (tyX8_ok 5 (by decide)) rfl rfl dX8_become_45 (by decide) h (fun M18 H locs h hP hS => ?_)
  refine lv_aload_n hx hb dX8_become_48 rfl (lv_at hl 0 rfl) ?_
  refine lv_aload_n hx hb dX8_become_49 rfl (lv_at hl 1 rfl) ?_
  refine r_geti (C := RX8) (T := TX8) (N := 19) hx hb hts (fun w h => List.mem_cons_of_mem _ (iX8 w h)) hown hK hP rfl (by decide) rfl 6 (by decide) (hts _ (List.mem_cons_of_mem _ kw_93)) (fun _ h9 => h9) dX8_become_50 (by decide) h (fun z20 h => ?_)
  refine r_puti (C := RX8) (T := TX8) (N := 19) hx hb hts (fun w h => List.mem_cons_of_mem _ (iX8 w h)) hown hK hP tyX8 tyX8_ok nmX8 hS rfl (by decide) rfl 6 (by decide) (hts _ (List.mem_cons_of_mem _ kw_93)) (fun _ h9 => h9) rfl (tyX8_ok 6 (by decide)) rfl rfl dX8_become_53 (by decide) h (fun M21 H locs h hP hS => ?_)
  refine lv_aload_n hx hb dX8_become_56 rfl (lv_at hl 0 rfl) ?_
  refine lv_aload_n hx hb dX8_become_57 rfl (lv_at hl 1 rfl) ?_
  refine r_geti (C := RX8) (T := TX8) (N := 19) hx hb hts (fun w h => List.mem_cons_of_mem _ (iX8 w h)) hown hK hP rfl (by decide) rfl 7 (by decide) (hts _ (List.mem_cons_of_mem _ kw_96)) (fun _ h9 => h9) dX8_become_58 (by decide) h (fun z23 h => ?_)
  refine r_puti (C := RX8) (T := TX8) (N := 19) hx hb hts (fun w h => List.mem_cons_of_mem _ (iX8 w h)) hown hK hP tyX8 tyX8_ok nmX8 hS rfl (by decide) rfl 7 (by decide) (hts _ (List.mem_cons_of_mem _ kw_96)) (fun _ h9 => h9) rfl (tyX8_ok 7 (by decide)) rfl rfl dX8_become_61 (by decide) h (fun M24 H locs h hP hS => ?_)
  refine lv_aload_n hx hb dX8_become_64 rfl (lv_at hl 1 rfl) ?_
  refine r_getr (C := RX8) (T := TX8) (N := 19) hx hb hts (fun w h => List.mem_cons_of_mem _ (iX8 w h)) hown hK hP rfl (by decide) rfl 8 (by decide) (hts _ (List.mem_cons_of_mem _ kw_99)) (fun _ h9 => h9) dX8_become_65 (by decide) h (fun x26 h => ?_)
  refine r_iconst hx hb dX8_become_68 (by decide) h (fun z28 h => ?_)
  refine lv_aload_n hx hb dX8_become_69 rfl (lv_at hl 0 rfl) ?_
  refine r_getr (C := RX8) (T := TX8) (N := 19) hx hb hts (fun w h => List.mem_cons_of_mem _ (iX8 w h)) hown hK hP rfl (by decide) rfl 8 (by decide) (hts _ (List.mem_cons_of_mem _ kw_99)) (fun _ h9 => h9) dX8_become_70 (by decide) h (fun x30 h => ?_)
  refine r_iconst hx hb dX8_become_73 (by decide) h (fun z32 h => ?_)
  refine lv_aload_n hx hb dX8_become_74 rfl (lv_at hl 0 rfl) ?_
  refine r_getr (C := RX8) (T := TX8) (N := 19) hx hb hts (fun w h => List.mem_cons_of_mem _ (iX8 w h)) hown hK hP rfl (by decide) rfl 8 (by decide) (hts _ (List.mem_cons_of_mem _ kw_99)) (fun _ h9 => h9) dX8_become_75 (by decide) h (fun x34 h => ?_)
  refine r_len hx hb hK hP hS dX8_become_78 h (fun z36 h => ?_)
  refine r_copy hx hb (hml.trans hl.1.symm) hK hP hS hown (hts _ (List.mem_cons_of_mem _ kw_729)) (hts _ (List.mem_cons_of_mem _ kw_731)) (hts _ (List.mem_cons_of_mem _ kw_730)) (hts _ (List.mem_cons_of_mem _ kw_20)) (Nat.le_of_ble_eq_true rfl) (Nat.le_of_ble_eq_true rfl) dX8_become_79 h (fun M37 H locs h hP hS => ?_)
  refine lv_aload_n hx hb dX8_become_82 rfl (lv_at hl 1 rfl) ?_
  refine r_getr (C := RX8) (T := TX8) (N := 19) hx hb hts (fun w h => List.mem_cons_of_mem _ (iX8 w h)) hown hK hP rfl (by decide) rfl 9 (by decide) (hts _ (List.mem_cons_of_mem _ kw_100)) (fun _ h9 => h9) dX8_become_83 (by decide) h (fun x39 h => ?_)
  refine r_iconst hx hb dX8_become_86 (by decide) h (fun z41 h => ?_)
  refine lv_aload_n hx hb dX8_become_87 rfl (lv_at hl 0 rfl) ?_
  refine r_getr (C := RX8) (T := TX8) (N := 19) hx hb hts (fun w h => List.mem_cons_of_mem _ (iX8 w h)) hown hK hP rfl (by decide) rfl 9 (by decide) (hts _ (List.mem_cons_of_mem _ kw_100)) (fun _ h9 => h9) dX8_become_88 (by decide) h (fun x43 h => ?_)
  refine r_iconst hx hb dX8_become_91 (by decide) h (fun z45 h => ?_)
  refine lv_aload_n hx hb dX8_become_92 rfl (lv_at hl 0 rfl) ?_
  refine r_getr (C := RX8) (T := TX8) (N := 19) hx hb hts (fun w h => List.mem_cons_of_mem _ (iX8 w h)) hown hK hP rfl (by decide) rfl 9 (by decide) (hts _ (List.mem_cons_of_mem _ kw_100)) (fun _ h9 => h9) dX8_become_93 (by decide) h (fun x47 h => ?_)
  refine r_len hx hb hK hP hS dX8_become_96 h (fun z49 h => ?_)
  refine r_copy hx hb (hml.trans hl.1.symm) hK hP hS hown (hts _ (List.mem_cons_of_mem _ kw_729)) (hts _ (List.mem_cons_of_mem _ kw_731)) (hts _ (List.mem_cons_of_mem _ kw_730)) (hts _ (List.mem_cons_of_mem _ kw_20)) (Nat.le_of_ble_eq_true rfl) (Nat.le_of_ble_eq_true rfl) dX8_become_97 h (fun M50 H locs h hP hS => ?_)
  refine lv_aload_n hx hb dX8_become_100 rfl (lv_at hl 1 rfl) ?_
  refine r_getr (C := RX8) (T := TX8) (N := 19) hx hb hts (fun w h => List.mem_cons_of_mem _ (iX8 w h)) hown hK hP rfl (by decide) rfl 10 (by decide) (hts _ (List.mem_cons_of_mem _ kw_101)) (fun _ h9 => h9) dX8_become_101 (by decide) h (fun x52 h => ?_)
  refine r_iconst hx hb dX8_become_104 (by decide) h (fun z54 h => ?_)
  refine lv_aload_n hx hb dX8_become_105 rfl (lv_at hl 0 rfl) ?_
  refine r_getr (C := RX8) (T := TX8) (N := 19) hx hb hts (fun w h => List.mem_cons_of_mem _ (iX8 w h)) hown hK hP rfl (by decide) rfl 10 (by decide) (hts _ (List.mem_cons_of_mem _ kw_101)) (fun _ h9 => h9) dX8_become_106 (by decide) h (fun x56 h => ?_)
  refine r_iconst hx hb dX8_become_109 (by decide) h (fun z58 h => ?_)
  refine r_iconst hx hb dX8_become_110 (by decide) h (fun z60 h => ?_)
  refine r_copy hx hb (hml.trans hl.1.symm) hK hP hS hown (hts _ (List.mem_cons_of_mem _ kw_729)) (hts _ (List.mem_cons_of_mem _ kw_731)) (hts _ (List.mem_cons_of_mem _ kw_730)) (hts _ (List.mem_cons_of_mem _ kw_20)) (Nat.le_of_ble_eq_true rfl) (Nat.le_of_ble_eq_true rfl) dX8_become_111 h (fun M61 H locs h hP hS => ?_)
  refine lv_aload_n hx hb dX8_become_114 rfl (lv_at hl 1 rfl) ?_
  refine r_getr (C := RX8) (T := TX8) (N := 19) hx hb hts (fun w h => List.mem_cons_of_mem _ (iX8 w h)) hown hK hP rfl (by decide) rfl 11 (by decide) (hts _ (List.mem_cons_of_mem _ kw_106)) (fun _ h9 => h9) dX8_become_115 (by decide) h (fun x63 h => ?_)
  refine r_iconst hx hb dX8_become_118 (by decide) h (fun z65 h => ?_)
  refine lv_aload_n hx hb dX8_become_119 rfl (lv_at hl 0 rfl) ?_
  refine r_getr (C := RX8) (T := TX8) (N := 19) hx hb hts (fun w h => List.mem_cons_of_mem _ (iX8 w h)) hown hK hP rfl (by decide) rfl 11 (by decide) (hts _ (List.mem_cons_of_mem _ kw_106)) (fun _ h9 => h9) dX8_become_120 (by decide) h (fun x67 h => ?_)
  refine r_iconst hx hb dX8_become_123 (by decide) h (fun z69 h => ?_)
  refine r_iconst hx hb dX8_become_124 (by decide) h (fun z71 h => ?_)
  refine r_copy hx hb (hml.trans hl.1.symm) hK hP hS hown (hts _ (List.mem_cons_of_mem _ kw_729)) (hts _ (List.mem_cons_of_mem _ kw_731)) (hts _ (List.mem_cons_of_mem _ kw_730)) (hts _ (List.mem_cons_of_mem _ kw_20)) (Nat.le_of_ble_eq_true rfl) (Nat.le_of_ble_eq_true rfl) dX8_become_125 h (fun M72 H locs h hP hS => ?_)
  refine lv_aload_n hx hb dX8_become_128 rfl (lv_at hl 1 rfl) ?_
  refine r_getr (C := RX8) (T := TX8) (N := 19) hx hb hts (fun w h => List.mem_cons_of_mem _ (iX8 w h)) hown hK hP rfl (by decide) rfl 12 (by decide) (hts _ (List.mem_cons_of_mem _ kw_111)) (fun _ h9 => h9) dX8_become_129 (by decide) h (fun x74 h => ?_)
  refine r_iconst hx hb dX8_become_132 (by decide) h (fun z76 h => ?_)
  refine lv_aload_n hx hb dX8_become_133 rfl (lv_at hl 0 rfl) ?_
  refine r_getr (C := RX8) (T := TX8) (N := 19) hx hb hts (fun w h => List.mem_cons_of_mem _ (iX8 w h)) hown hK hP rfl (by decide) rfl 12 (by decide) (hts _ (List.mem_cons_of_mem _ kw_111)) (fun _ h9 => h9) dX8_become_134 (by decide) h (fun x78 h => ?_)
  refine r_iconst hx hb dX8_become_137 (by decide) h (fun z80 h => ?_)
  refine r_iconst hx hb dX8_become_138 (by decide) h (fun z82 h => ?_)
  refine r_copy hx hb (hml.trans hl.1.symm) hK hP hS hown (hts _ (List.mem_cons_of_mem _ kw_729)) (hts _ (List.mem_cons_of_mem _ kw_731)) (hts _ (List.mem_cons_of_mem _ kw_730)) (hts _ (List.mem_cons_of_mem _ kw_20)) (Nat.le_of_ble_eq_true rfl) (Nat.le_of_ble_eq_true rfl) dX8_become_139 h (fun M83 H locs h hP hS => ?_)
  refine lv_aload_n hx hb dX8_become_142 rfl (lv_at hl 1 rfl) ?_
  refine r_getr (C := RX8) (T := TX8) (N := 19) hx hb hts (fun w h => List.mem_cons_of_mem _ (iX8 w h)) hown hK hP rfl (by decide) rfl 13 (by decide) (hts _ (List.mem_cons_of_mem _ kw_113)) (fun _ h9 => h9) dX8_become_143 (by decide) h (fun x85 h => ?_)
  refine r_iconst hx hb dX8_become_146 (by decide) h (fun z87 h => ?_)
  refine lv_aload_n hx hb dX8_become_147 rfl (lv_at hl 0 rfl) ?_
  refine r_getr (C := RX8) (T := TX8) (N := 19) hx hb hts (fun w h => List.mem_cons_of_mem _ (iX8 w h)) hown hK hP rfl (by decide) rfl 13 (by decide) (hts _ (List.mem_cons_of_mem _ kw_113)) (fun _ h9 => h9) dX8_become_148 (by decide) h (fun x89 h => ?_)
  refine r_iconst hx hb dX8_become_151 (by decide) h (fun z91 h => ?_)
  refine r_iconst hx hb dX8_become_152 (by decide) h (fun z93 h => ?_)
  refine r_copy hx hb (hml.trans hl.1.symm) hK hP hS hown (hts _ (List.mem_cons_of_mem _ kw_729)) (hts _ (List.mem_cons_of_mem _ kw_731)) (hts _ (List.mem_cons_of_mem _ kw_730)) (hts _ (List.mem_cons_of_mem _ kw_20)) (Nat.le_of_ble_eq_true rfl) (Nat.le_of_ble_eq_true rfl) dX8_become_153 h (fun M94 H locs h hP hS => ?_)
  refine lv_aload_n hx hb dX8_become_156 rfl (lv_at hl 1 rfl) ?_
  refine r_getr (C := RX8) (T := TX8) (N := 19) hx hb hts (fun w h => List.mem_cons_of_mem _ (iX8 w h)) hown hK hP rfl (by decide) rfl 14 (by decide) (hts _ (List.mem_cons_of_mem _ kw_115)) (fun _ h9 => h9) dX8_become_157 (by decide) h (fun x96 h => ?_)
  refine r_iconst hx hb dX8_become_160 (by decide) h (fun z98 h => ?_)
  refine lv_aload_n hx hb dX8_become_161 rfl (lv_at hl 0 rfl) ?_
  refine r_getr (C := RX8) (T := TX8) (N := 19) hx hb hts (fun w h => List.mem_cons_of_mem _ (iX8 w h)) hown hK hP rfl (by decide) rfl 14 (by decide) (hts _ (List.mem_cons_of_mem _ kw_115)) (fun _ h9 => h9) dX8_become_162 (by decide) h (fun x100 h => ?_)
  refine r_iconst hx hb dX8_become_165 (by decide) h (fun z102 h => ?_)
  refine r_iconst hx hb dX8_become_166 (by decide) h (fun z104 h => ?_)
  refine r_copy hx hb (hml.trans hl.1.symm) hK hP hS hown (hts _ (List.mem_cons_of_mem _ kw_729)) (hts _ (List.mem_cons_of_mem _ kw_731)) (hts _ (List.mem_cons_of_mem _ kw_730)) (hts _ (List.mem_cons_of_mem _ kw_20)) (Nat.le_of_ble_eq_true rfl) (Nat.le_of_ble_eq_true rfl) dX8_become_167 h (fun M105 H locs h hP hS => ?_)
  refine lv_aload_n hx hb dX8_become_170 rfl (lv_at hl 1 rfl) ?_
  refine r_getr (C := RX8) (T := TX8) (N := 19) hx hb hts (fun w h => List.mem_cons_of_mem _ (iX8 w h)) hown hK hP rfl (by decide) rfl 15 (by decide) (hts _ (List.mem_cons_of_mem _ kw_117)) (fun _ h9 => h9) dX8_become_171 (by decide) h (fun x107 h => ?_)
  refine r_iconst hx hb dX8_become_174 (by decide) h (fun z109 h => ?_)
  refine lv_aload_n hx hb dX8_become_175 rfl (lv_at hl 0 rfl) ?_
  refine r_getr (C := RX8) (T := TX8) (N := 19) hx hb hts (fun w h => List.mem_cons_of_mem _ (iX8 w h)) hown hK hP rfl (by decide) rfl 15 (by decide) (hts _ (List.mem_cons_of_mem _ kw_117)) (fun _ h9 => h9) dX8_become_176 (by decide) h (fun x111 h => ?_)
  refine r_iconst hx hb dX8_become_179 (by decide) h (fun z113 h => ?_)
  refine r_bipush hx hb dX8_become_180 (by decide) h (fun z115 h => ?_)
  refine r_copy hx hb (hml.trans hl.1.symm) hK hP hS hown (hts _ (List.mem_cons_of_mem _ kw_729)) (hts _ (List.mem_cons_of_mem _ kw_731)) (hts _ (List.mem_cons_of_mem _ kw_730)) (hts _ (List.mem_cons_of_mem _ kw_20)) (Nat.le_of_ble_eq_true rfl) (Nat.le_of_ble_eq_true rfl) dX8_become_182 h (fun M116 H locs h hP hS => ?_)
  refine lv_aload_n hx hb dX8_become_185 rfl (lv_at hl 1 rfl) ?_
  refine r_getr (C := RX8) (T := TX8) (N := 19) hx hb hts (fun w h => List.mem_cons_of_mem _ (iX8 w h)) hown hK hP rfl (by decide) rfl 16 (by decide) (hts _ (List.mem_cons_of_mem _ kw_120)) (fun _ h9 => h9) dX8_become_186 (by decide) h (fun x118 h => ?_)
  refine r_iconst hx hb dX8_become_189 (by decide) h (fun z120 h => ?_)
  refine lv_aload_n hx hb dX8_become_190 rfl (lv_at hl 0 rfl) ?_
  refine r_getr (C := RX8) (T := TX8) (N := 19) hx hb hts (fun w h => List.mem_cons_of_mem _ (iX8 w h)) hown hK hP rfl (by decide) rfl 16 (by decide) (hts _ (List.mem_cons_of_mem _ kw_120)) (fun _ h9 => h9) dX8_become_191 (by decide) h (fun x122 h => ?_)
  refine r_iconst hx hb dX8_become_194 (by decide) h (fun z124 h => ?_)
  refine r_bipush hx hb dX8_become_195 (by decide) h (fun z126 h => ?_)
  refine r_copy hx hb (hml.trans hl.1.symm) hK hP hS hown (hts _ (List.mem_cons_of_mem _ kw_729)) (hts _ (List.mem_cons_of_mem _ kw_731)) (hts _ (List.mem_cons_of_mem _ kw_730)) (hts _ (List.mem_cons_of_mem _ kw_20)) (Nat.le_of_ble_eq_true rfl) (Nat.le_of_ble_eq_true rfl) dX8_become_197 h (fun M127 H locs h hP hS => ?_)
  refine lv_aload_n hx hb dX8_become_200 rfl (lv_at hl 1 rfl) ?_
  refine r_getr (C := RX8) (T := TX8) (N := 19) hx hb hts (fun w h => List.mem_cons_of_mem _ (iX8 w h)) hown hK hP rfl (by decide) rfl 17 (by decide) (hts _ (List.mem_cons_of_mem _ kw_123)) (fun _ h9 => h9) dX8_become_201 (by decide) h (fun x129 h => ?_)
  refine r_iconst hx hb dX8_become_204 (by decide) h (fun z131 h => ?_)
  refine lv_aload_n hx hb dX8_become_205 rfl (lv_at hl 0 rfl) ?_
  refine r_getr (C := RX8) (T := TX8) (N := 19) hx hb hts (fun w h => List.mem_cons_of_mem _ (iX8 w h)) hown hK hP rfl (by decide) rfl 17 (by decide) (hts _ (List.mem_cons_of_mem _ kw_123)) (fun _ h9 => h9) dX8_become_206 (by decide) h (fun x133 h => ?_)
  refine r_iconst hx hb dX8_become_209 (by decide) h (fun z135 h => ?_)
  refine r_bipush hx hb dX8_become_210 (by decide) h (fun z137 h => ?_)
  refine r_copy hx hb (hml.trans hl.1.symm) hK hP hS hown (hts _ (List.mem_cons_of_mem _ kw_729)) (hts _ (List.mem_cons_of_mem _ kw_731)) (hts _ (List.mem_cons_of_mem _ kw_730)) (hts _ (List.mem_cons_of_mem _ kw_20)) (Nat.le_of_ble_eq_true rfl) (Nat.le_of_ble_eq_true rfl) dX8_become_212 h (fun M138 H locs h hP hS => ?_)
  refine lv_aload_n hx hb dX8_become_215 rfl (lv_at hl 1 rfl) ?_
  refine r_getr (C := RX8) (T := TX8) (N := 19) hx hb hts (fun w h => List.mem_cons_of_mem _ (iX8 w h)) hown hK hP rfl (by decide) rfl 18 (by decide) (hts _ (List.mem_cons_of_mem _ kw_126)) (fun _ h9 => h9) dX8_become_216 (by decide) h (fun x140 h => ?_)
  refine r_iconst hx hb dX8_become_219 (by decide) h (fun z142 h => ?_)
  refine lv_aload_n hx hb dX8_become_220 rfl (lv_at hl 0 rfl) ?_
  refine r_getr (C := RX8) (T := TX8) (N := 19) hx hb hts (fun w h => List.mem_cons_of_mem _ (iX8 w h)) hown hK hP rfl (by decide) rfl 18 (by decide) (hts _ (List.mem_cons_of_mem _ kw_126)) (fun _ h9 => h9) dX8_become_221 (by decide) h (fun x144 h => ?_)
  refine r_iconst hx hb dX8_become_224 (by decide) h (fun z146 h => ?_)
  refine r_bipush hx hb dX8_become_225 (by decide) h (fun z148 h => ?_)
  refine r_copy hx hb (hml.trans hl.1.symm) hK hP hS hown (hts _ (List.mem_cons_of_mem _ kw_729)) (hts _ (List.mem_cons_of_mem _ kw_731)) (hts _ (List.mem_cons_of_mem _ kw_730)) (hts _ (List.mem_cons_of_mem _ kw_20)) (Nat.le_of_ble_eq_true rfl) (Nat.le_of_ble_eq_true rfl) dX8_become_227 h (fun M149 H locs h hP hS => ?_)
  exact r_vret hx hb hr hlocks hP hS dX8_become_230 h
