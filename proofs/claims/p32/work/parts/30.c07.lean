/-! TurningMilk$Turning.sumByRule()J -/
abbrev RM_X10_sumByRule : Room := { frames := 2, cells := 0, slots := 0, locals := 64 }
def cw_X10_sumByRule : Cond := Cond.code yX10_sumByRule cX10_sumByRule 4 (Option.some FieldType.long)
theorem hd_X10_sumByRule : yX10_sumByRule.cls ≠ "java/lang/invoke/MethodHandle" ∧ yX10_sumByRule.cls ≠ "java/lang/invoke/VarHandle" ∧ (parseMethodDescriptor yX10_sumByRule.desc).map (fun d => d.parameters.length) = some 0 := by decide +kernel
theorem dX10_sumByRule_0 : decode cX10_sumByRule 0 = .ok (.iconst (-1), 1) := by decide +kernel
theorem dX10_sumByRule_1 : decode cX10_sumByRule 1 = .ok (.istore_n 1, 1) := by decide +kernel
theorem dX10_sumByRule_2 : decode cX10_sumByRule 2 = .ok (.iconst 0, 1) := by decide +kernel
theorem dX10_sumByRule_3 : decode cX10_sumByRule 3 = .ok (.istore_n 2, 1) := by decide +kernel
theorem dX10_sumByRule_4 : decode cX10_sumByRule 4 = .ok (.iload_n 2, 1) := by decide +kernel
theorem dX10_sumByRule_5 : decode cX10_sumByRule 5 = .ok (.aload_n 0, 1) := by decide +kernel
theorem dX10_sumByRule_6 : decode cX10_sumByRule 6 = .ok (.getfield 15, 3) := by decide +kernel
theorem dX10_sumByRule_9 : decode cX10_sumByRule 9 = .ok (.arraylength, 1) := by decide +kernel
theorem dX10_sumByRule_10 : decode cX10_sumByRule 10 = .ok (.if_icmp .ge 166, 3) := by decide +kernel
theorem dX10_sumByRule_13 : decode cX10_sumByRule 13 = .ok (.aload_n 0, 1) := by decide +kernel
theorem dX10_sumByRule_14 : decode cX10_sumByRule 14 = .ok (.getfield 15, 3) := by decide +kernel
theorem dX10_sumByRule_17 : decode cX10_sumByRule 17 = .ok (.iload_n 2, 1) := by decide +kernel
theorem dX10_sumByRule_18 : decode cX10_sumByRule 18 = .ok (.iaload, 1) := by decide +kernel
theorem dX10_sumByRule_19 : decode cX10_sumByRule 19 = .ok (.istore_n 3, 1) := by decide +kernel
theorem dX10_sumByRule_20 : decode cX10_sumByRule 20 = .ok (.iload_n 3, 1) := by decide +kernel
theorem dX10_sumByRule_21 : decode cX10_sumByRule 21 = .ok (.bipush (-11), 2) := by decide +kernel
theorem dX10_sumByRule_23 : decode cX10_sumByRule 23 = .ok (.if_icmp .lt 39, 3) := by decide +kernel
theorem dX10_sumByRule_26 : decode cX10_sumByRule 26 = .ok (.iload_n 1, 1) := by decide +kernel
theorem dX10_sumByRule_27 : decode cX10_sumByRule 27 = .ok (.iconst 1, 1) := by decide +kernel
theorem dX10_sumByRule_28 : decode cX10_sumByRule 28 = .ok (.iadd, 1) := by decide +kernel
theorem dX10_sumByRule_29 : decode cX10_sumByRule 29 = .ok (.bipush 64, 2) := by decide +kernel
theorem dX10_sumByRule_31 : decode cX10_sumByRule 31 = .ok (.if_icmp .lt 5, 3) := by decide +kernel
theorem dX10_sumByRule_34 : decode cX10_sumByRule 34 = .ok (.lconst 0, 1) := by decide +kernel
theorem dX10_sumByRule_35 : decode cX10_sumByRule 35 = .ok (.lreturn, 1) := by decide +kernel
theorem dX10_sumByRule_36 : decode cX10_sumByRule 36 = .ok (.iinc 1 1, 3) := by decide +kernel
theorem dX10_sumByRule_39 : decode cX10_sumByRule 39 = .ok (.aload_n 0, 1) := by decide +kernel
theorem dX10_sumByRule_40 : decode cX10_sumByRule 40 = .ok (.getfield 18, 3) := by decide +kernel
theorem dX10_sumByRule_43 : decode cX10_sumByRule 43 = .ok (.iload_n 1, 1) := by decide +kernel
theorem dX10_sumByRule_44 : decode cX10_sumByRule 44 = .ok (.iload_n 3, 1) := by decide +kernel
theorem dX10_sumByRule_45 : decode cX10_sumByRule 45 = .ok (.ifCond .lt 8, 3) := by decide +kernel
theorem dX10_sumByRule_48 : decode cX10_sumByRule 48 = .ok (.iload_n 3, 1) := by decide +kernel
theorem dX10_sumByRule_49 : decode cX10_sumByRule 49 = .ok (.i2l, 1) := by decide +kernel
theorem dX10_sumByRule_50 : decode cX10_sumByRule 50 = .ok (.goto 8, 3) := by decide +kernel
theorem dX10_sumByRule_53 : decode cX10_sumByRule 53 = .ok (.aload_n 0, 1) := by decide +kernel
theorem dX10_sumByRule_54 : decode cX10_sumByRule 54 = .ok (.iload_n 3, 1) := by decide +kernel
theorem dX10_sumByRule_55 : decode cX10_sumByRule 55 = .ok (.invokevirtual 121, 3) := by decide +kernel
theorem dX10_sumByRule_58 : decode cX10_sumByRule 58 = .ok (.lastore, 1) := by decide +kernel
theorem dX10_sumByRule_59 : decode cX10_sumByRule 59 = .ok (.goto 111, 3) := by decide +kernel
theorem dX10_sumByRule_62 : decode cX10_sumByRule 62 = .ok (.iload_n 1, 1) := by decide +kernel
theorem dX10_sumByRule_63 : decode cX10_sumByRule 63 = .ok (.ifCond .ge 5, 3) := by decide +kernel
theorem dX10_sumByRule_66 : decode cX10_sumByRule 66 = .ok (.lconst 0, 1) := by decide +kernel
theorem dX10_sumByRule_67 : decode cX10_sumByRule 67 = .ok (.lreturn, 1) := by decide +kernel
theorem dX10_sumByRule_68 : decode cX10_sumByRule 68 = .ok (.iload_n 3, 1) := by decide +kernel
theorem dX10_sumByRule_69 : decode cX10_sumByRule 69 = .ok (.bipush (-25), 2) := by decide +kernel
theorem dX10_sumByRule_71 : decode cX10_sumByRule 71 = .ok (.if_icmp .ne 10, 3) := by decide +kernel
theorem dX10_sumByRule_74 : decode cX10_sumByRule 74 = .ok (.aload_n 0, 1) := by decide +kernel
theorem dX10_sumByRule_75 : decode cX10_sumByRule 75 = .ok (.getfield 18, 3) := by decide +kernel
theorem dX10_sumByRule_78 : decode cX10_sumByRule 78 = .ok (.iload_n 1, 1) := by decide +kernel
theorem dX10_sumByRule_79 : decode cX10_sumByRule 79 = .ok (.laload, 1) := by decide +kernel
theorem dX10_sumByRule_80 : decode cX10_sumByRule 80 = .ok (.lreturn, 1) := by decide +kernel
theorem dX10_sumByRule_81 : decode cX10_sumByRule 81 = .ok (.iload_n 3, 1) := by decide +kernel
theorem dX10_sumByRule_82 : decode cX10_sumByRule 82 = .ok (.bipush (-22), 2) := by decide +kernel
theorem dX10_sumByRule_84 : decode cX10_sumByRule 84 = .ok (.if_icmp .ne 20, 3) := by decide +kernel
theorem dX10_sumByRule_87 : decode cX10_sumByRule 87 = .ok (.aload_n 0, 1) := by decide +kernel
theorem dX10_sumByRule_88 : decode cX10_sumByRule 88 = .ok (.getfield 18, 3) := by decide +kernel
theorem dX10_sumByRule_91 : decode cX10_sumByRule 91 = .ok (.iload_n 1, 1) := by decide +kernel
theorem dX10_sumByRule_92 : decode cX10_sumByRule 92 = .ok (.lconst 1, 1) := by decide +kernel
theorem dX10_sumByRule_93 : decode cX10_sumByRule 93 = .ok (.aload_n 0, 1) := by decide +kernel
theorem dX10_sumByRule_94 : decode cX10_sumByRule 94 = .ok (.getfield 18, 3) := by decide +kernel
theorem dX10_sumByRule_97 : decode cX10_sumByRule 97 = .ok (.iload_n 1, 1) := by decide +kernel
theorem dX10_sumByRule_98 : decode cX10_sumByRule 98 = .ok (.laload, 1) := by decide +kernel
theorem dX10_sumByRule_99 : decode cX10_sumByRule 99 = .ok (.lsub, 1) := by decide +kernel
theorem dX10_sumByRule_100 : decode cX10_sumByRule 100 = .ok (.lastore, 1) := by decide +kernel
theorem dX10_sumByRule_101 : decode cX10_sumByRule 101 = .ok (.goto 69, 3) := by decide +kernel
theorem dX10_sumByRule_104 : decode cX10_sumByRule 104 = .ok (.iload_n 1, 1) := by decide +kernel
theorem dX10_sumByRule_105 : decode cX10_sumByRule 105 = .ok (.iconst 1, 1) := by decide +kernel
theorem dX10_sumByRule_106 : decode cX10_sumByRule 106 = .ok (.if_icmp .ge 5, 3) := by decide +kernel
theorem dX10_sumByRule_109 : decode cX10_sumByRule 109 = .ok (.lconst 0, 1) := by decide +kernel
theorem dX10_sumByRule_110 : decode cX10_sumByRule 110 = .ok (.lreturn, 1) := by decide +kernel
theorem dX10_sumByRule_111 : decode cX10_sumByRule 111 = .ok (.iload_n 3, 1) := by decide +kernel
theorem dX10_sumByRule_112 : decode cX10_sumByRule 112 = .ok (.bipush (-26), 2) := by decide +kernel
theorem dX10_sumByRule_114 : decode cX10_sumByRule 114 = .ok (.if_icmp .ne 29, 3) := by decide +kernel
theorem dX10_sumByRule_117 : decode cX10_sumByRule 117 = .ok (.aload_n 0, 1) := by decide +kernel
theorem dX10_sumByRule_118 : decode cX10_sumByRule 118 = .ok (.getfield 18, 3) := by decide +kernel
theorem dX10_sumByRule_121 : decode cX10_sumByRule 121 = .ok (.iload_n 1, 1) := by decide +kernel
theorem dX10_sumByRule_122 : decode cX10_sumByRule 122 = .ok (.laload, 1) := by decide +kernel
theorem dX10_sumByRule_123 : decode cX10_sumByRule 123 = .ok (.lconst 0, 1) := by decide +kernel
theorem dX10_sumByRule_124 : decode cX10_sumByRule 124 = .ok (.lcmp, 1) := by decide +kernel
theorem dX10_sumByRule_125 : decode cX10_sumByRule 125 = .ok (.ifCond .eq 12, 3) := by decide +kernel
theorem dX10_sumByRule_128 : decode cX10_sumByRule 128 = .ok (.aload_n 0, 1) := by decide +kernel
theorem dX10_sumByRule_129 : decode cX10_sumByRule 129 = .ok (.getfield 18, 3) := by decide +kernel
theorem dX10_sumByRule_132 : decode cX10_sumByRule 132 = .ok (.iload_n 1, 1) := by decide +kernel
theorem dX10_sumByRule_133 : decode cX10_sumByRule 133 = .ok (.iconst 1, 1) := by decide +kernel
theorem dX10_sumByRule_134 : decode cX10_sumByRule 134 = .ok (.isub, 1) := by decide +kernel
theorem dX10_sumByRule_135 : decode cX10_sumByRule 135 = .ok (.laload, 1) := by decide +kernel
theorem dX10_sumByRule_136 : decode cX10_sumByRule 136 = .ok (.lreturn, 1) := by decide +kernel
theorem dX10_sumByRule_137 : decode cX10_sumByRule 137 = .ok (.iinc 1 (-2), 3) := by decide +kernel
theorem dX10_sumByRule_140 : decode cX10_sumByRule 140 = .ok (.goto 30, 3) := by decide +kernel
theorem dX10_sumByRule_143 : decode cX10_sumByRule 143 = .ok (.iinc 1 (-1), 3) := by decide +kernel
theorem dX10_sumByRule_146 : decode cX10_sumByRule 146 = .ok (.aload_n 0, 1) := by decide +kernel
theorem dX10_sumByRule_147 : decode cX10_sumByRule 147 = .ok (.getfield 18, 3) := by decide +kernel
theorem dX10_sumByRule_150 : decode cX10_sumByRule 150 = .ok (.iload_n 1, 1) := by decide +kernel
theorem dX10_sumByRule_151 : decode cX10_sumByRule 151 = .ok (.iload_n 3, 1) := by decide +kernel
theorem dX10_sumByRule_152 : decode cX10_sumByRule 152 = .ok (.aload_n 0, 1) := by decide +kernel
theorem dX10_sumByRule_153 : decode cX10_sumByRule 153 = .ok (.getfield 18, 3) := by decide +kernel
theorem dX10_sumByRule_156 : decode cX10_sumByRule 156 = .ok (.iload_n 1, 1) := by decide +kernel
theorem dX10_sumByRule_157 : decode cX10_sumByRule 157 = .ok (.laload, 1) := by decide +kernel
theorem dX10_sumByRule_158 : decode cX10_sumByRule 158 = .ok (.aload_n 0, 1) := by decide +kernel
theorem dX10_sumByRule_159 : decode cX10_sumByRule 159 = .ok (.getfield 18, 3) := by decide +kernel
theorem dX10_sumByRule_162 : decode cX10_sumByRule 162 = .ok (.iload_n 1, 1) := by decide +kernel
theorem dX10_sumByRule_163 : decode cX10_sumByRule 163 = .ok (.iconst 1, 1) := by decide +kernel
theorem dX10_sumByRule_164 : decode cX10_sumByRule 164 = .ok (.iadd, 1) := by decide +kernel
theorem dX10_sumByRule_165 : decode cX10_sumByRule 165 = .ok (.laload, 1) := by decide +kernel
theorem dX10_sumByRule_166 : decode cX10_sumByRule 166 = .ok (.invokestatic 125, 3) := by decide +kernel
theorem dX10_sumByRule_169 : decode cX10_sumByRule 169 = .ok (.lastore, 1) := by decide +kernel
theorem dX10_sumByRule_170 : decode cX10_sumByRule 170 = .ok (.iinc 2 1, 3) := by decide +kernel
theorem dX10_sumByRule_173 : decode cX10_sumByRule 173 = .ok (.goto (-169), 3) := by decide +kernel
theorem dX10_sumByRule_176 : decode cX10_sumByRule 176 = .ok (.lconst 0, 1) := by decide +kernel
theorem dX10_sumByRule_177 : decode cX10_sumByRule 177 = .ok (.lreturn, 1) := by decide +kernel
def wp_X10_sumByRule_170 (S : Sh) (k4 : Int → Int → Int → Mm → Prop) (post : Int → Mm → Prop) (u0 : Int) (u1 : Int) (u2 : Int) (M : Mm) : Prop := wA u2 1 fun v1 => k4 u0 u1 v1 M
def wp_X10_sumByRule_58 (S : Sh) (k4 : Int → Int → Int → Mm → Prop) (post : Int → Mm → Prop) (u0 : Int) (u1 : Int) (u2 : Int) (t0 : Int) (t1 : Int) (t2 : Int) (M : Mm) : Prop := wSt S M t0 16 t1 t2 fun M3 => wp_X10_sumByRule_170 S k4 post u0 u1 u2 M3
def wp_X10_sumByRule_4 (S : Sh) (post : Int → Mm → Prop) : Nat → Int → Int → Int → Mm → Prop
  | 0, _, _, _, _ => False
  | n + 1, u0, u1, u2, M => wGetR S M u0 10 1 fun v4 => wLen S v4 14 fun v6 => wIf (v6 ≤ u2) (wC 0 fun v8 => post v8 M) (wGetR S M u0 10 1 fun v10 => wLd S M v10 14 u2 fun v12 => wC (-11) fun v14 => wIf (v12 < v14) (wIf (0 ≤ u1) (wC (-25) fun v16 => wIf (¬ v12 = v16) (wC (-22) fun v18 => wIf (¬ v12 = v18) (wC 1 fun v20 => wIf (v20 ≤ u1) (wC (-26) fun v22 => wIf (¬ v12 = v22) (wA u1 (-1) fun v24 => wGetR S M u0 10 3 fun v26 => wGetR S M u0 10 3 fun v28 => wLd S M v28 16 v24 fun v30 => wGetR S M u0 10 3 fun v32 => wC 1 fun v34 => wA v24 v34 fun v36 => wLd S M v32 16 v36 fun v38 => wp_X10_joined S M v12 v30 v38 <| fun v41 M40 => wSt S M40 v26 16 v24 v41 fun M43 => wp_X10_sumByRule_170 S (fun a0 a1 a2 M => wp_X10_sumByRule_4 S post n a0 a1 a2 M) post u0 v24 u2 M43) (wGetR S M u0 10 3 fun v44 => wLd S M v44 16 u1 fun v46 => wC 0 fun v48 => wCmp v46 v48 fun v50 => wIf (v50 = 0) (wA u1 (-2) fun v52 => wp_X10_sumByRule_170 S (fun a0 a1 a2 M => wp_X10_sumByRule_4 S post n a0 a1 a2 M) post u0 v52 u2 M) (wGetR S M u0 10 3 fun v54 => wC 1 fun v56 => wS u1 v56 fun v58 => wLd S M v54 16 v58 fun v60 => post v60 M))) (wC 0 fun v62 => post v62 M)) (wGetR S M u0 10 3 fun v64 => wC 1 fun v66 => wGetR S M u0 10 3 fun v68 => wLd S M v68 16 u1 fun v70 => wLS v66 v70 fun v72 => wSt S M v64 16 u1 v72 fun M74 => wp_X10_sumByRule_170 S (fun a0 a1 a2 M => wp_X10_sumByRule_4 S post n a0 a1 a2 M) post u0 u1 u2 M74)) (wGetR S M u0 10 3 fun v75 => wLd S M v75 16 u1 fun v77 => post v77 M)) (wC 0 fun v79 => post v79 M)) (wC 1 fun v81 => wA u1 v81 fun v83 => wC 64 fun v85 => wIf (v83 < v85) (wA u1 1 fun v87 => wGetR S M u0 10 3 fun v89 => wIf (v12 < 0) (isK S u0 10 ∧ (wp_X10_valueOf S M u0 v12 <| fun v92 M91 => wp_X10_sumByRule_58 S (fun a0 a1 a2 M => wp_X10_sumByRule_4 S post n a0 a1 a2 M) post u0 v87 u2 v89 v87 v92 M91)) (wC v12 fun v94 => wp_X10_sumByRule_58 S (fun a0 a1 a2 M => wp_X10_sumByRule_4 S post n a0 a1 a2 M) post u0 v87 u2 v89 v87 v94 M)) (wC 0 fun v96 => post v96 M)))
def wp_X10_sumByRule (S : Sh) (M : Mm) (u0 : Int) (post : Int → Mm → Prop) : Prop := wC (-1) fun v98 => wC 0 fun v100 => ∃ n9 : Nat, wp_X10_sumByRule_4 S post n9 u0 v98 v100 M
set_option maxHeartbeats 4000000 in
set_option maxRecDepth 100000 in
theorem t_X10_sumByRule_170 {p : Program} {l : Launch} {e : Env} {s : State} {m : MethodId} {args : Array Value} {below : List Frame} {meth : Method} {c : Code} {D : va_G} {G : Gt} {S : Sh} {post : Int → Mm → Prop} {k4 : Int → Int → Int → Mm → Prop} (C : Cx p s m args meth c D G cX10_sumByRule 4 (some .long) (cw_X10_sumByRule :: gw) RX10) (hk4 : ∀ (y0 : Int) (y1 : Int32) (y2 : Int32) (M : Mm) (H : Heap) (locs : List Loc) (ls : Array Slot), Wd D G S M H → va_S (aG G) s.heap H locs → lv_has ls 4 [(0, .ref (adr G y0)), (1, .int y1), (2, .int y2)] → k4 y0 y1.toInt y2.toInt M → W p l e RM_X10_sumByRule s m args below meth c H locs 0 0 (MQ below (QL D G S post) args s 0 0 (aG G)) (F0 m 4 ls [])) : ∀ (xl0 : Int) (zl1 : Int32) (zl2 : Int32) (M : Mm) (H : Heap) (locs : List Loc) (ls : Array Slot), Wd D G S M H → va_S (aG G) s.heap H locs → lv_has ls 4 [(0, .ref (adr G xl0)), (1, .int zl1), (2, .int zl2)] → wp_X10_sumByRule_170 S k4 post xl0 zl1.toInt zl2.toInt  M → W p l e RM_X10_sumByRule s m args below meth c H locs 0 0 (MQ below (QL D G S post) args s 0 0 (aG G)) (F0 m 170 ls []) := by
  obtain ⟨hx, hb, hr, hlocks, hml, hown, hts, hK⟩ := id C
  intro xl0 zl1 zl2 M H locs ls hP hS hl h
  unfold wp_X10_sumByRule_170 at h
  refine r_iinc hx hb (fun z2 => [(2, .int z2), (0, .ref (adr G xl0)), (1, .int zl1)]) dX10_sumByRule_170 (by decide) hl (k := 2) rfl (by decide) (fun _ => rfl) h (fun z2 ls hl h => ?_)
  refine lv_goto (tgt := 4) hx hb dX10_sumByRule_173 (by decide) ?_
  exact hk4 xl0 zl1 z2 _ _ _ _ hP hS (lv_sub hl [1, 2, 0] rfl) h
set_option maxHeartbeats 4000000 in
set_option maxRecDepth 100000 in
theorem t_X10_sumByRule_58 {p : Program} {l : Launch} {e : Env} {s : State} {m : MethodId} {args : Array Value} {below : List Frame} {meth : Method} {c : Code} {D : va_G} {G : Gt} {S : Sh} {post : Int → Mm → Prop} {k4 : Int → Int → Int → Mm → Prop} (C : Cx p s m args meth c D G cX10_sumByRule 4 (some .long) (cw_X10_sumByRule :: gw) RX10) (hk4 : ∀ (y0 : Int) (y1 : Int32) (y2 : Int32) (M : Mm) (H : Heap) (locs : List Loc) (ls : Array Slot), Wd D G S M H → va_S (aG G) s.heap H locs → lv_has ls 4 [(0, .ref (adr G y0)), (1, .int y1), (2, .int y2)] → k4 y0 y1.toInt y2.toInt M → W p l e RM_X10_sumByRule s m args below meth c H locs 0 0 (MQ below (QL D G S post) args s 0 0 (aG G)) (F0 m 4 ls [])) : ∀ (xl0 : Int) (zl1 : Int32) (zl2 : Int32) (xs0 : Int) (zs1 : Int32) (zs2 : Int64) (M : Mm) (H : Heap) (locs : List Loc) (ls : Array Slot), Wd D G S M H → va_S (aG G) s.heap H locs → lv_has ls 4 [(0, .ref (adr G xl0)), (1, .int zl1), (2, .int zl2)] → wp_X10_sumByRule_58 S k4 post xl0 zl1.toInt zl2.toInt xs0 zs1.toInt zs2.toInt M → W p l e RM_X10_sumByRule s m args below meth c H locs 0 0 (MQ below (QL D G S post) args s 0 0 (aG G)) (F0 m 58 ls [.long zs2, .int zs1, .ref (adr G xs0)]) := by
  obtain ⟨hx, hb, hr, hlocks, hml, hown, hts, hK⟩ := id C
  intro xl0 zl1 zl2 xs0 zs1 zs2 M H locs ls hP hS hl h
  unfold wp_X10_sumByRule_58 at h
  refine r_last hx hb hK hP hS dX10_sumByRule_58 h (fun M3 H locs h hP hS => ?_)
  refine lv_goto (tgt := 170) hx hb dX10_sumByRule_59 (by decide) ?_
  exact t_X10_sumByRule_170 C hk4 xl0 zl1 zl2 _ _ _ _ hP hS (lv_sub hl [0, 1, 2] rfl) h
set_option maxHeartbeats 4000000 in
set_option maxRecDepth 100000 in
theorem t_X10_sumByRule_4 {p : Program} {l : Launch} {e : Env} {s : State} {m : MethodId} {args : Array Value} {below : List Frame} {meth : Method} {c : Code} {D : va_G} {G : Gt} {S : Sh} {post : Int → Mm → Prop} (C : Cx p s m args meth c D G cX10_sumByRule 4 (some .long) (cw_X10_sumByRule :: gw) RX10) : ∀ (n : Nat) (xl0 : Int) (zl1 : Int32) (zl2 : Int32) (M : Mm) (H : Heap) (locs : List Loc) (ls : Array Slot), Wd D G S M H → va_S (aG G) s.heap H locs → lv_has ls 4 [(0, .ref (adr G xl0)), (1, .int zl1), (2, .int zl2)] → wp_X10_sumByRule_4 S post n xl0 zl1.toInt zl2.toInt  M → W p l e RM_X10_sumByRule s m args below meth c H locs 0 0 (MQ below (QL D G S post) args s 0 0 (aG G)) (F0 m 4 ls []) := by
  obtain ⟨hx, hb, hr, hlocks, hml, hown, hts, hK⟩ := id C
  intro n
  induction n with
  | zero => intro xl0 zl1 zl2 M H locs ls hP hS hl h; exact h.elim
  | succ n ih =>
    intro xl0 zl1 zl2 M H locs ls hP hS hl h
    unfold wp_X10_sumByRule_4 at h
    refine lv_iload_n hx hb dX10_sumByRule_4 rfl (lv_at hl 2 rfl) ?_
    refine lv_aload_n hx hb dX10_sumByRule_5 rfl (lv_at hl 0 rfl) ?_
    refine r_getr (C := RX10) (T := TX10) (N := 12) hx hb hts (fun w h => List.mem_cons_of_mem _ (iX10 w h)) hown hK hP rfl (by decide) rfl 1 (by decide) (hts _ (List.mem_cons_of_mem _ kw_346)) (fun _ h9 => h9) dX10_sumByRule_6 (by decide) h (fun x5 h => ?_)
    refine r_len hx hb hK hP hS dX10_sumByRule_9 h (fun z7 h => ?_)
    refine r_icmp_ge (tgt := 176) hx hb dX10_sumByRule_10 (by decide) h (fun h => ?_) (fun h => ?_)
    · refine r_lconst hx hb dX10_sumByRule_176 (v := 0) (by decide) h (fun z9 h => ?_)
      exact r_lret hx hb hr hlocks hP hS dX10_sumByRule_177 h
    · refine lv_aload_n hx hb dX10_sumByRule_13 rfl (lv_at hl 0 rfl) ?_
      refine r_getr (C := RX10) (T := TX10) (N := 12) hx hb hts (fun w h => List.mem_cons_of_mem _ (iX10 w h)) hown hK hP rfl (by decide) rfl 1 (by decide) (hts _ (List.mem_cons_of_mem _ kw_346)) (fun _ h9 => h9) dX10_sumByRule_14 (by decide) h (fun x11 h => ?_)
      refine lv_iload_n hx hb dX10_sumByRule_17 rfl (lv_at hl 2 rfl) ?_
      refine r_iald hx hb hK hP dX10_sumByRule_18 h (fun z13 h => ?_)
      refine lv_istore_n (lv' := [(3, .int z13), (0, .ref (adr G xl0)), (1, .int zl1), (2, .int zl2)]) hx hb dX10_sumByRule_19 rfl hl (by decide) rfl (fun ls hl => ?_)
      refine lv_iload_n hx hb dX10_sumByRule_20 rfl (lv_at hl 0 rfl) ?_
      refine r_bipush hx hb dX10_sumByRule_21 (by decide) h (fun z15 h => ?_)
      refine r_icmp_lt (tgt := 62) hx hb dX10_sumByRule_23 (by decide) h (fun h => ?_) (fun h => ?_)
      · refine lv_iload_n hx hb dX10_sumByRule_62 rfl (lv_at hl 2 rfl) ?_
        refine r_if_ge (tgt := 68) hx hb dX10_sumByRule_63 (by decide) h (fun h => ?_) (fun h => ?_)
        · refine lv_iload_n hx hb dX10_sumByRule_68 rfl (lv_at hl 0 rfl) ?_
          refine r_bipush hx hb dX10_sumByRule_69 (by decide) h (fun z17 h => ?_)
          refine r_icmp_ne (tgt := 81) hx hb dX10_sumByRule_71 (by decide) h (fun h => ?_) (fun h => ?_)
          · refine lv_iload_n hx hb dX10_sumByRule_81 rfl (lv_at hl 0 rfl) ?_
            refine r_bipush hx hb dX10_sumByRule_82 (by decide) h (fun z19 h => ?_)
            refine r_icmp_ne (tgt := 104) hx hb dX10_sumByRule_84 (by decide) h (fun h => ?_) (fun h => ?_)
            · refine lv_iload_n hx hb dX10_sumByRule_104 rfl (lv_at hl 2 rfl) ?_
              refine r_iconst hx hb dX10_sumByRule_105 (by decide) h (fun z21 h => ?_)
              refine r_icmp_ge (tgt := 111) hx hb dX10_sumByRule_106 (by decide) h (fun h => ?_) (fun h => ?_)
              · refine lv_iload_n hx hb dX10_sumByRule_111 rfl (lv_at hl 0 rfl) ?_
                refine r_bipush hx hb dX10_sumByRule_112 (by decide) h (fun z23 h => ?_)
                refine r_icmp_ne (tgt := 143) hx hb dX10_sumByRule_114 (by decide) h (fun h => ?_) (fun h => ?_)
                · refine r_iinc hx hb (fun z25 => [(1, .int z25), (3, .int z13), (0, .ref (adr G xl0)), (2, .int zl2)]) dX10_sumByRule_143 (by decide) hl (k := 2) rfl (by decide) (fun _ => rfl) h (fun z25 ls hl h => ?_)
                  refine lv_aload_n hx hb dX10_sumByRule_146 rfl (lv_at hl 2 rfl) ?_
                  refine r_getr (C := RX10) (T := TX10) (N := 12) hx hb hts (fun w h => List.mem_cons_of_mem _ (iX10 w h)) hown hK hP rfl (by decide) rfl 3 (by decide) (hts _ (List.mem_cons_of_mem _ kw_350)) (fun _ h9 => h9) dX10_sumByRule_147 (by decide) h (fun x27 h => ?_)
                  refine lv_iload_n hx hb dX10_sumByRule_150 rfl (lv_at hl 0 rfl) ?_
                  refine lv_iload_n hx hb dX10_sumByRule_151 rfl (lv_at hl 1 rfl) ?_
                  refine lv_aload_n hx hb dX10_sumByRule_152 rfl (lv_at hl 2 rfl) ?_
                  refine r_getr (C := RX10) (T := TX10) (N := 12) hx hb hts (fun w h => List.mem_cons_of_mem _ (iX10 w h)) hown hK hP rfl (by decide) rfl 3 (by decide) (hts _ (List.mem_cons_of_mem _ kw_350)) (fun _ h9 => h9) dX10_sumByRule_153 (by decide) h (fun x29 h => ?_)
                  refine lv_iload_n hx hb dX10_sumByRule_156 rfl (lv_at hl 0 rfl) ?_
                  refine r_lald hx hb hK hP dX10_sumByRule_157 h (fun z31 h => ?_)
                  refine lv_aload_n hx hb dX10_sumByRule_158 rfl (lv_at hl 2 rfl) ?_
                  refine r_getr (C := RX10) (T := TX10) (N := 12) hx hb hts (fun w h => List.mem_cons_of_mem _ (iX10 w h)) hown hK hP rfl (by decide) rfl 3 (by decide) (hts _ (List.mem_cons_of_mem _ kw_350)) (fun _ h9 => h9) dX10_sumByRule_159 (by decide) h (fun x33 h => ?_)
                  refine lv_iload_n hx hb dX10_sumByRule_162 rfl (lv_at hl 0 rfl) ?_
                  refine r_iconst hx hb dX10_sumByRule_163 (by decide) h (fun z35 h => ?_)
                  refine r_iadd hx hb dX10_sumByRule_164 h (fun z37 h => ?_)
                  refine r_lald hx hb hK hP dX10_sumByRule_165 h (fun z39 h => ?_)
                  refine q_Sl hx hb hml hown hts hK hP hS (c_X10_joined l D G S _ z13 z31 z39 _ h) ⟨callB_of 3 hts (gw_good kw_979) rfl rfl rfl (hts _ (List.mem_cons_of_mem _ kw_9)) (hts _ (List.mem_cons_of_mem _ kw_977)) hd_X10_joined ⟨Nat.le_of_ble_eq_true rfl, Nat.le_of_ble_eq_true rfl⟩, (hts _ (List.mem_cons_of_mem _ kw_978))⟩ rfl hl.1 rfl (lv_room (Nat.le_of_ble_eq_true rfl)) dX10_sumByRule_166 ⟨Nat.zero_le _, Nat.zero_le _⟩ (fun z42 M40 H locs h hP hS => ?_)
                  refine r_last hx hb hK hP hS dX10_sumByRule_169 h (fun M43 H locs h hP hS => ?_)
                  exact t_X10_sumByRule_170 C ih xl0 z25 zl2 _ _ _ _ hP hS (lv_sub hl [2, 0, 3] rfl) h
                · refine lv_aload_n hx hb dX10_sumByRule_117 rfl (lv_at hl 1 rfl) ?_
                  refine r_getr (C := RX10) (T := TX10) (N := 12) hx hb hts (fun w h => List.mem_cons_of_mem _ (iX10 w h)) hown hK hP rfl (by decide) rfl 3 (by decide) (hts _ (List.mem_cons_of_mem _ kw_350)) (fun _ h9 => h9) dX10_sumByRule_118 (by decide) h (fun x45 h => ?_)
                  refine lv_iload_n hx hb dX10_sumByRule_121 rfl (lv_at hl 2 rfl) ?_
                  refine r_lald hx hb hK hP dX10_sumByRule_122 h (fun z47 h => ?_)
                  refine r_lconst hx hb dX10_sumByRule_123 (v := 0) (by decide) h (fun z49 h => ?_)
                  refine r_lcmp hx hb dX10_sumByRule_124 h (fun z51 h => ?_)
                  refine r_if_eq (tgt := 137) hx hb dX10_sumByRule_125 (by decide) h (fun h => ?_) (fun h => ?_)
                  · refine r_iinc hx hb (fun z53 => [(1, .int z53), (3, .int z13), (0, .ref (adr G xl0)), (2, .int zl2)]) dX10_sumByRule_137 (by decide) hl (k := 2) rfl (by decide) (fun _ => rfl) h (fun z53 ls hl h => ?_)
                    refine lv_goto (tgt := 170) hx hb dX10_sumByRule_140 (by decide) ?_
                    exact t_X10_sumByRule_170 C ih xl0 z53 zl2 _ _ _ _ hP hS (lv_sub hl [2, 0, 3] rfl) h
                  · refine lv_aload_n hx hb dX10_sumByRule_128 rfl (lv_at hl 1 rfl) ?_
                    refine r_getr (C := RX10) (T := TX10) (N := 12) hx hb hts (fun w h => List.mem_cons_of_mem _ (iX10 w h)) hown hK hP rfl (by decide) rfl 3 (by decide) (hts _ (List.mem_cons_of_mem _ kw_350)) (fun _ h9 => h9) dX10_sumByRule_129 (by decide) h (fun x55 h => ?_)
                    refine lv_iload_n hx hb dX10_sumByRule_132 rfl (lv_at hl 2 rfl) ?_
                    refine r_iconst hx hb dX10_sumByRule_133 (by decide) h (fun z57 h => ?_)
                    refine r_isub hx hb dX10_sumByRule_134 h (fun z59 h => ?_)
                    refine r_lald hx hb hK hP dX10_sumByRule_135 h (fun z61 h => ?_)
                    exact r_lret hx hb hr hlocks hP hS dX10_sumByRule_136 h
              · refine r_lconst hx hb dX10_sumByRule_109 (v := 0) (by decide) h (fun z63 h => ?_)
                exact r_lret hx hb hr hlocks hP hS dX10_sumByRule_110 h
            · refine lv_aload_n hx hb dX10_sumByRule_87 rfl (lv_at hl 1 rfl) ?_
              refine r_getr (C := RX10) (T := TX10) (N := 12) hx hb hts (fun w h => List.mem_cons_of_mem _ (iX10 w h)) hown hK hP rfl (by decide) rfl 3 (by decide) (hts _ (List.mem_cons_of_mem _ kw_350)) (fun _ h9 => h9) dX10_sumByRule_88 (by decide) h (fun x65 h => ?_)
              refine lv_iload_n hx hb dX10_sumByRule_91 rfl (lv_at hl 2 rfl) ?_
              refine r_lconst hx hb dX10_sumByRule_92 (v := 1) (by decide) h (fun z67 h => ?_)
              refine lv_aload_n hx hb dX10_sumByRule_93 rfl (lv_at hl 1 rfl) ?_
              refine r_getr (C := RX10) (T := TX10) (N := 12) hx hb hts (fun w h => List.mem_cons_of_mem _ (iX10 w h)) hown hK hP rfl (by decide) rfl 3 (by decide) (hts _ (List.mem_cons_of_mem _ kw_350)) (fun _ h9 => h9) dX10_sumByRule_94 (by decide) h (fun x69 h => ?_)
              refine lv_iload_n hx hb dX10_sumByRule_97 rfl (lv_at hl 2 rfl) ?_
              refine r_lald hx hb hK hP dX10_sumByRule_98 h (fun z71 h => ?_)
              refine r_lsub hx hb dX10_sumByRule_99 h (fun z73 h => ?_)
              refine r_last hx hb hK hP hS dX10_sumByRule_100 h (fun M74 H locs h hP hS => ?_)
              refine lv_goto (tgt := 170) hx hb dX10_sumByRule_101 (by decide) ?_
              exact t_X10_sumByRule_170 C ih xl0 zl1 zl2 _ _ _ _ hP hS (lv_sub hl [1, 2, 3] rfl) h
          · refine lv_aload_n hx hb dX10_sumByRule_74 rfl (lv_at hl 1 rfl) ?_
            refine r_getr (C := RX10) (T := TX10) (N := 12) hx hb hts (fun w h => List.mem_cons_of_mem _ (iX10 w h)) hown hK hP rfl (by decide) rfl 3 (by decide) (hts _ (List.mem_cons_of_mem _ kw_350)) (fun _ h9 => h9) dX10_sumByRule_75 (by decide) h (fun x76 h => ?_)
            refine lv_iload_n hx hb dX10_sumByRule_78 rfl (lv_at hl 2 rfl) ?_
            refine r_lald hx hb hK hP dX10_sumByRule_79 h (fun z78 h => ?_)
            exact r_lret hx hb hr hlocks hP hS dX10_sumByRule_80 h
        · refine r_lconst hx hb dX10_sumByRule_66 (v := 0) (by decide) h (fun z80 h => ?_)
          exact r_lret hx hb hr hlocks hP hS dX10_sumByRule_67 h
      · refine lv_iload_n hx hb dX10_sumByRule_26 rfl (lv_at hl 2 rfl) ?_
        refine r_iconst hx hb dX10_sumByRule_27 (by decide) h (fun z82 h => ?_)
        refine r_iadd hx hb dX10_sumByRule_28 h (fun z84 h => ?_)
        refine r_bipush hx hb dX10_sumByRule_29 (by decide) h (fun z86 h => ?_)
        refine r_icmp_lt (tgt := 36) hx hb dX10_sumByRule_31 (by decide) h (fun h => ?_) (fun h => ?_)
        · refine r_iinc hx hb (fun z88 => [(1, .int z88), (3, .int z13), (0, .ref (adr G xl0)), (2, .int zl2)]) dX10_sumByRule_36 (by decide) hl (k := 2) rfl (by decide) (fun _ => rfl) h (fun z88 ls hl h => ?_)
          refine lv_aload_n hx hb dX10_sumByRule_39 rfl (lv_at hl 2 rfl) ?_
          refine r_getr (C := RX10) (T := TX10) (N := 12) hx hb hts (fun w h => List.mem_cons_of_mem _ (iX10 w h)) hown hK hP rfl (by decide) rfl 3 (by decide) (hts _ (List.mem_cons_of_mem _ kw_350)) (fun _ h9 => h9) dX10_sumByRule_40 (by decide) h (fun x90 h => ?_)
          refine lv_iload_n hx hb dX10_sumByRule_43 rfl (lv_at hl 0 rfl) ?_
          refine lv_iload_n hx hb dX10_sumByRule_44 rfl (lv_at hl 1 rfl) ?_
          refine r_if_lt (tgt := 53) hx hb dX10_sumByRule_45 (by decide) h (fun h => ?_) (fun h => ?_)
          · refine lv_aload_n hx hb dX10_sumByRule_53 rfl (lv_at hl 2 rfl) ?_
            refine lv_iload_n hx hb dX10_sumByRule_54 rfl (lv_at hl 1 rfl) ?_
            refine q_Vl hx hb hml hown hts hK hP hS (c_X10_valueOf l D G S _ xl0 z13 _ h.2) ⟨callB_of 1 hts (gw_good kw_976) rfl rfl rfl (hts _ (List.mem_cons_of_mem _ kw_9)) (hts _ (List.mem_cons_of_mem _ kw_973)) hd_X10_valueOf ⟨Nat.le_of_ble_eq_true rfl, Nat.le_of_ble_eq_true rfl⟩, (hts _ (List.mem_cons_of_mem _ kw_975)), (hts _ (List.mem_cons_of_mem _ kp_36))⟩ h.1 (ci := 10) rfl (by decide) rfl hl.1 rfl (lv_room (Nat.le_of_ble_eq_true rfl)) dX10_sumByRule_55 ⟨Nat.zero_le _, Nat.zero_le _⟩ (fun z93 M91 H locs h hP hS => ?_)
            exact t_X10_sumByRule_58 C ih xl0 z88 zl2 x90 z88 z93 _ _ _ _ hP hS (lv_sub hl [2, 0, 3] rfl) h
          · refine lv_iload_n hx hb dX10_sumByRule_48 rfl (lv_at hl 1 rfl) ?_
            refine r_i2l hx hb dX10_sumByRule_49 h (fun z95 h => ?_)
            refine lv_goto (tgt := 58) hx hb dX10_sumByRule_50 (by decide) ?_
            exact t_X10_sumByRule_58 C ih xl0 z88 zl2 x90 z88 z95 _ _ _ _ hP hS (lv_sub hl [2, 0, 3] rfl) h
        · refine r_lconst hx hb dX10_sumByRule_34 (v := 0) (by decide) h (fun z97 h => ?_)
          exact r_lret hx hb hr hlocks hP hS dX10_sumByRule_35 h
set_option maxHeartbeats 4000000 in
set_option maxRecDepth 100000 in
theorem c_X10_sumByRule (l : Launch) (D : va_G) (G : Gt) (S : Sh) (M : Mm) (xl0 : Int) (post : Int → Mm → Prop) (h : wp_X10_sumByRule S M xl0 post) : Met l yX10_sumByRule (cw_X10_sumByRule :: gw) RM_X10_sumByRule (va_Pc [.ref (adr G xl0)] (fun U => KN D G U ∧ Wd D G S M U.heap)) (QL D G S post) 0 0 (aG G) := by
  refine Met.ofW (cc := cX10_sumByRule) (maxL := 4) (ret := (some .long)) (by decide) rfl ?_
  intro p e s m args below meth c s₁ B hml hv
  obtain ⟨rfl, hK, hP⟩ := hv
  have hx := B.exec
  have hb := B.bytes
  have hr := B.returns
  have hts := atoms_spec (ws := cw_X10_sumByRule :: gw) B.pre
  have hown : s.vm.findClass RX10 = some m.cls := findClass_of_methodNamed B.named
  have hlocks := B.notSynchronized
  have hS : va_S (aG G) s.heap s.heap [] := va_S.rf
  have C : Cx p s m ([.ref (adr G xl0)] : List Value).toArray meth c D G cX10_sumByRule 4 (some .long) (cw_X10_sumByRule :: gw) RX10 := ⟨hx, hb, hr, hlocks, hml, hown, hts, hK⟩
  have hl := lv_entry ([.ref (adr G xl0)]) (n := 4) (Nat.le_of_ble_eq_true rfl)
  rw [lg_entry_eq]
  generalize (lg_sl ([.ref (adr G xl0)]) ++ List.replicate (4 - (lg_sl ([.ref (adr G xl0)])).length) Slot.unset).toArray = ls at hl ⊢
  have hl : lv_has ls 4 [(0, .ref (adr G xl0))] := hl
  unfold wp_X10_sumByRule at h
  refine r_iconst hx hb dX10_sumByRule_0 (by decide) h (fun z99 h => ?_)
  refine lv_istore_n (lv' := [(1, .int z99), (0, .ref (adr G xl0))]) hx hb dX10_sumByRule_1 rfl hl (by decide) rfl (fun ls hl => ?_)
  refine r_iconst hx hb dX10_sumByRule_2 (by decide) h (fun z101 h => ?_)
  refine lv_istore_n (lv' := [(2, .int z101), (1, .int z99), (0, .ref (adr G xl0))]) hx hb dX10_sumByRule_3 rfl hl (by decide) rfl (fun ls hl => ?_)
  obtain ⟨n9, h⟩ := h
  exact t_X10_sumByRule_4 C n9 xl0 z99 z101 _ _ _ _ hP hS (lv_sub hl [2, 1, 0] rfl) h
/-! TurningMilk$Turning.turns()I -/
abbrev RM_X10_turns : Room := { frames := 3, cells := 0, slots := 0, locals := 87 }
def cw_X10_turns : Cond := Cond.code yX10_turns cX10_turns 1 (Option.some FieldType.int)
theorem hd_X10_turns : yX10_turns.cls ≠ "java/lang/invoke/MethodHandle" ∧ yX10_turns.cls ≠ "java/lang/invoke/VarHandle" ∧ (parseMethodDescriptor yX10_turns.desc).map (fun d => d.parameters.length) = some 0 := by decide +kernel
theorem dX10_turns_0 : decode cX10_turns 0 = .ok (.aload_n 0, 1) := by decide +kernel
theorem dX10_turns_1 : decode cX10_turns 1 = .ok (.aload_n 0, 1) := by decide +kernel
theorem dX10_turns_2 : decode cX10_turns 2 = .ok (.aload_n 0, 1) := by decide +kernel
theorem dX10_turns_3 : decode cX10_turns 3 = .ok (.getfield 61, 3) := by decide +kernel
theorem dX10_turns_6 : decode cX10_turns 6 = .ok (.invokevirtual 109, 3) := by decide +kernel
theorem dX10_turns_9 : decode cX10_turns 9 = .ok (.putfield 59, 3) := by decide +kernel
theorem dX10_turns_12 : decode cX10_turns 12 = .ok (.aload_n 0, 1) := by decide +kernel
theorem dX10_turns_13 : decode cX10_turns 13 = .ok (.getfield 15, 3) := by decide +kernel
theorem dX10_turns_16 : decode cX10_turns 16 = .ok (.arraylength, 1) := by decide +kernel
theorem dX10_turns_17 : decode cX10_turns 17 = .ok (.ifCond .ne 28, 3) := by decide +kernel
theorem dX10_turns_20 : decode cX10_turns 20 = .ok (.aload_n 0, 1) := by decide +kernel
theorem dX10_turns_21 : decode cX10_turns 21 = .ok (.getfield 22, 3) := by decide +kernel
theorem dX10_turns_24 : decode cX10_turns 24 = .ok (.getfield 49, 3) := by decide +kernel
theorem dX10_turns_27 : decode cX10_turns 27 = .ok (.aload_n 0, 1) := by decide +kernel
theorem dX10_turns_28 : decode cX10_turns 28 = .ok (.getfield 46, 3) := by decide +kernel
theorem dX10_turns_31 : decode cX10_turns 31 = .ok (.iaload, 1) := by decide +kernel
theorem dX10_turns_32 : decode cX10_turns 32 = .ok (.aload_n 0, 1) := by decide +kernel
theorem dX10_turns_33 : decode cX10_turns 33 = .ok (.getfield 53, 3) := by decide +kernel
theorem dX10_turns_36 : decode cX10_turns 36 = .ok (.iconst 4, 1) := by decide +kernel
theorem dX10_turns_37 : decode cX10_turns 37 = .ok (.idiv, 1) := by decide +kernel
theorem dX10_turns_38 : decode cX10_turns 38 = .ok (.iadd, 1) := by decide +kernel
theorem dX10_turns_39 : decode cX10_turns 39 = .ok (.aload_n 0, 1) := by decide +kernel
theorem dX10_turns_40 : decode cX10_turns 40 = .ok (.getfield 59, 3) := by decide +kernel
theorem dX10_turns_43 : decode cX10_turns 43 = .ok (.iadd, 1) := by decide +kernel
theorem dX10_turns_44 : decode cX10_turns 44 = .ok (.ireturn, 1) := by decide +kernel
theorem dX10_turns_45 : decode cX10_turns 45 = .ok (.lconst 0, 1) := by decide +kernel
theorem dX10_turns_46 : decode cX10_turns 46 = .ok (.ldc2_w 110, 3) := by decide +kernel
theorem dX10_turns_49 : decode cX10_turns 49 = .ok (.aload_n 0, 1) := by decide +kernel
theorem dX10_turns_50 : decode cX10_turns 50 = .ok (.invokevirtual 112, 3) := by decide +kernel
theorem dX10_turns_53 : decode cX10_turns 53 = .ok (.invokestatic 116, 3) := by decide +kernel
theorem dX10_turns_56 : decode cX10_turns 56 = .ok (.invokestatic 119, 3) := by decide +kernel
theorem dX10_turns_59 : decode cX10_turns 59 = .ok (.l2i, 1) := by decide +kernel
theorem dX10_turns_60 : decode cX10_turns 60 = .ok (.ireturn, 1) := by decide +kernel
def wp_X10_turns (S : Sh) (M : Mm) (u0 : Int) (post : Int → Mm → Prop) : Prop := wGet S M u0 10 8 fun v1 => isK S u0 10 ∧ (wp_X10_heatIn S M u0 v1 <| fun v4 M3 => wPut S M3 u0 10 9 v4 fun M6 => wGetR S M6 u0 10 1 fun v7 => wLen S v7 14 fun v9 => wIf (¬ v9 = 0) (wC 0 fun v11 => wC 50 fun v13 => isK S u0 10 ∧ (wp_X10_sumByRule S M6 u0 <| fun v16 M15 => wO min v13 v16 fun v18 => wO max v11 v18 fun v20 => wO1 w32 v20 fun v22 => post v22 M15)) (wGetR S M6 u0 10 0 fun v24 => wGetR S M6 v24 8 10 fun v26 => wGet S M6 u0 10 4 fun v28 => wLd S M6 v26 14 v28 fun v30 => wGet S M6 u0 10 7 fun v32 => wC 4 fun v34 => wD iDiv v32 v34 fun v36 => wA v30 v36 fun v38 => wGet S M6 u0 10 9 fun v40 => wA v38 v40 fun v42 => post v42 M6))
set_option maxHeartbeats 4000000 in
set_option maxRecDepth 100000 in
theorem c_X10_turns (l : Launch) (D : va_G) (G : Gt) (S : Sh) (M : Mm) (xl0 : Int) (post : Int → Mm → Prop) (h : wp_X10_turns S M xl0 post) : Met l yX10_turns (cw_X10_turns :: gw) RM_X10_turns (va_Pc [.ref (adr G xl0)] (fun U => KN D G U ∧ Wd D G S M U.heap)) (QI D G S post) 0 0 (aG G) := by
  refine Met.ofW (cc := cX10_turns) (maxL := 1) (ret := (some .int)) (by decide) rfl ?_
  intro p e s m args below meth c s₁ B hml hv
  obtain ⟨rfl, hK, hP⟩ := hv
  have hx := B.exec
  have hb := B.bytes
  have hr := B.returns
  have hts := atoms_spec (ws := cw_X10_turns :: gw) B.pre
  have hown : s.vm.findClass RX10 = some m.cls := findClass_of_methodNamed B.named
  have hlocks := B.notSynchronized
  have hS : va_S (aG G) s.heap s.heap [] := va_S.rf
  have C : Cx p s m ([.ref (adr G xl0)] : List Value).toArray meth c D G cX10_turns 1 (some .int) (cw_X10_turns :: gw) RX10 := ⟨hx, hb, hr, hlocks, hml, hown, hts, hK⟩
  have hl := lv_entry ([.ref (adr G xl0)]) (n := 1) (Nat.le_of_ble_eq_true rfl)
  rw [lg_entry_eq]
  generalize (lg_sl ([.ref (adr G xl0)]) ++ List.replicate (1 - (lg_sl ([.ref (adr G xl0)])).length) Slot.unset).toArray = ls at hl ⊢
  have hl : lv_has ls 1 [(0, .ref (adr G xl0))] := hl
  unfold wp_X10_turns at h
  refine lv_aload_n hx hb dX10_turns_0 rfl (lv_at hl 0 rfl) ?_
  refine lv_aload_n hx hb dX10_turns_1 rfl (lv_at hl 0 rfl) ?_
  refine lv_aload_n hx hb dX10_turns_2 rfl (lv_at hl 0 rfl) ?_
  refine r_geti (C := RX10) (T := TX10) (N := 12) hx hb hts (fun w h => List.mem_cons_of_mem _ (iX10 w h)) hown hK hP rfl (by decide) rfl 8 (by decide) (hts _ (List.mem_cons_of_mem _ kw_359)) (fun _ h9 => h9) dX10_turns_3 (by decide) h (fun z2 h => ?_)
  refine q_Vi hx hb hml hown hts hK hP hS (c_X10_heatIn l D G S _ xl0 z2 _ h.2) ⟨callB_of 1 hts (gw_good kw_938) rfl rfl rfl (hts _ (List.mem_cons_of_mem _ kw_9)) (hts _ (List.mem_cons_of_mem _ kw_967)) hd_X10_heatIn ⟨Nat.le_of_ble_eq_true rfl, Nat.le_of_ble_eq_true rfl⟩, (hts _ (List.mem_cons_of_mem _ kw_936)), (hts _ (List.mem_cons_of_mem _ kw_937))⟩ h.1 (ci := 10) rfl (by decide) rfl hl.1 rfl (lv_room (Nat.le_of_ble_eq_true rfl)) dX10_turns_6 ⟨Nat.zero_le _, Nat.zero_le _⟩ (fun z5 M3 H locs h hP hS => ?_)
  refine r_puti (C := RX10) (T := TX10) (N := 12) hx hb hts (fun w h => List.mem_cons_of_mem _ (iX10 w h)) hown hK hP tyX10 tyX10_ok nmX10 hS rfl (by decide) rfl 9 (by decide) (hts _ (List.mem_cons_of_mem _ kw_360)) (fun _ h9 => h9) rfl (tyX10_ok 9 (by decide)) rfl rfl dX10_turns_9 (by decide) h (fun M6 H locs h hP hS => ?_)
  refine lv_aload_n hx hb dX10_turns_12 rfl (lv_at hl 0 rfl) ?_
  refine r_getr (C := RX10) (T := TX10) (N := 12) hx hb hts (fun w h => List.mem_cons_of_mem _ (iX10 w h)) hown hK hP rfl (by decide) rfl 1 (by decide) (hts _ (List.mem_cons_of_mem _ kw_346)) (fun _ h9 => h9) dX10_turns_13 (by decide) h (fun x8 h => ?_)
  refine r_len hx hb hK hP hS dX10_turns_16 h (fun z10 h => ?_)
  refine r_if_ne (tgt := 45) hx hb dX10_turns_17 (by decide) h (fun h => ?_) (fun h => ?_)
  · refine r_lconst hx hb dX10_turns_45 (v := 0) (by decide) h (fun z12 h => ?_)
    refine r_ldc2 hx hb hown (hts _ (List.mem_cons_of_mem _ kw_968)) dX10_turns_46 (n := 50) (by decide) h (fun z14 h => ?_)
    refine lv_aload_n hx hb dX10_turns_49 rfl (lv_at hl 0 rfl) ?_
    refine q_Vl hx hb hml hown hts hK hP hS (c_X10_sumByRule l D G S _ xl0 _ h.2) ⟨callB_of 0 hts (gw_good kw_972) rfl rfl rfl (hts _ (List.mem_cons_of_mem _ kw_9)) (hts _ (List.mem_cons_of_mem _ kw_969)) hd_X10_sumByRule ⟨Nat.le_of_ble_eq_true rfl, Nat.le_of_ble_eq_true rfl⟩, (hts _ (List.mem_cons_of_mem _ kw_971)), (hts _ (List.mem_cons_of_mem _ kp_35))⟩ h.1 (ci := 10) rfl (by decide) rfl hl.1 rfl (lv_room (Nat.le_of_ble_eq_true rfl)) dX10_turns_50 ⟨Nat.zero_le _, Nat.zero_le _⟩ (fun z17 M15 H locs h hP hS => ?_)
    refine r_mminl hx hb (hml.trans hl.1.symm) hown (hts _ (List.mem_cons_of_mem _ kw_980)) (hts _ (List.mem_cons_of_mem _ kw_981)) (hts _ (List.mem_cons_of_mem _ kw_19)) (hts _ (List.mem_cons_of_mem _ kw_982)) (Nat.le_of_ble_eq_true rfl) (Nat.le_of_ble_eq_true rfl) (Nat.zero_le _) (Nat.zero_le _) dX10_turns_53 h (fun z19 h => ?_)
    refine r_mmaxl hx hb (hml.trans hl.1.symm) hown (hts _ (List.mem_cons_of_mem _ kw_983)) (hts _ (List.mem_cons_of_mem _ kw_984)) (hts _ (List.mem_cons_of_mem _ kw_19)) (hts _ (List.mem_cons_of_mem _ kw_985)) (Nat.le_of_ble_eq_true rfl) (Nat.le_of_ble_eq_true rfl) (Nat.zero_le _) (Nat.zero_le _) dX10_turns_56 h (fun z21 h => ?_)
    refine r_l2i hx hb dX10_turns_59 h (fun z23 h => ?_)
    exact r_iret hx hb hr hlocks hP hS dX10_turns_60 h
  · refine lv_aload_n hx hb dX10_turns_20 rfl (lv_at hl 0 rfl) ?_
    refine r_getr (C := RX10) (T := TX10) (N := 12) hx hb hts (fun w h => List.mem_cons_of_mem _ (iX10 w h)) hown hK hP rfl (by decide) rfl 0 (by decide) (hts _ (List.mem_cons_of_mem _ kw_344)) (fun _ h9 => h9) dX10_turns_21 (by decide) h (fun x25 h => ?_)
    refine r_getrN (C := RX8) (T := TX8) (N := 19) hx hb hts (fun w h => List.mem_cons_of_mem _ (iX8 w h)) hown hK hP rfl (by decide) rfl 10 (by decide) (nw_26 hK) (fun _ h9 => h9) dX10_turns_24 (by decide) h (fun x27 h => ?_)
    refine lv_aload_n hx hb dX10_turns_27 rfl (lv_at hl 0 rfl) ?_
    refine r_geti (C := RX10) (T := TX10) (N := 12) hx hb hts (fun w h => List.mem_cons_of_mem _ (iX10 w h)) hown hK hP rfl (by decide) rfl 4 (by decide) (hts _ (List.mem_cons_of_mem _ kw_351)) (fun _ h9 => h9) dX10_turns_28 (by decide) h (fun z29 h => ?_)
    refine r_iald hx hb hK hP dX10_turns_31 h (fun z31 h => ?_)
    refine lv_aload_n hx hb dX10_turns_32 rfl (lv_at hl 0 rfl) ?_
    refine r_geti (C := RX10) (T := TX10) (N := 12) hx hb hts (fun w h => List.mem_cons_of_mem _ (iX10 w h)) hown hK hP rfl (by decide) rfl 7 (by decide) (hts _ (List.mem_cons_of_mem _ kw_358)) (fun _ h9 => h9) dX10_turns_33 (by decide) h (fun z33 h => ?_)
    refine r_iconst hx hb dX10_turns_36 (by decide) h (fun z35 h => ?_)
    refine r_idiv hx hb dX10_turns_37 h (fun z37 h => ?_)
    refine r_iadd hx hb dX10_turns_38 h (fun z39 h => ?_)
    refine lv_aload_n hx hb dX10_turns_39 rfl (lv_at hl 0 rfl) ?_
    refine r_geti (C := RX10) (T := TX10) (N := 12) hx hb hts (fun w h => List.mem_cons_of_mem _ (iX10 w h)) hown hK hP rfl (by decide) rfl 9 (by decide) (hts _ (List.mem_cons_of_mem _ kw_360)) (fun _ h9 => h9) dX10_turns_40 (by decide) h (fun z41 h => ?_)
    refine r_iadd hx hb dX10_turns_43 h (fun z43 h => ?_)
    exact r_iret hx hb hr hlocks hP hS dX10_turns_44 h
/-! TurningMilk$Hours.turnsIn(LTurningMilk$State;I)I -/
abbrev RM_X1_turnsIn : Room := { frames := 4, cells := 0, slots := 0, locals := 107 }
def cw_X1_turnsIn : Cond := Cond.code yX1_turnsIn cX1_turnsIn 3 (Option.some FieldType.int)
theorem hd_X1_turnsIn : yX1_turnsIn.cls ≠ "java/lang/invoke/MethodHandle" ∧ yX1_turnsIn.cls ≠ "java/lang/invoke/VarHandle" ∧ (parseMethodDescriptor yX1_turnsIn.desc).map (fun d => d.parameters.length) = some 2 := by decide +kernel
theorem dX1_turnsIn_0 : decode cX1_turnsIn 0 = .ok (.aload_n 1, 1) := by decide +kernel
theorem dX1_turnsIn_1 : decode cX1_turnsIn 1 = .ok (.iload_n 2, 1) := by decide +kernel
theorem dX1_turnsIn_2 : decode cX1_turnsIn 2 = .ok (.invokevirtual 66, 3) := by decide +kernel
theorem dX1_turnsIn_5 : decode cX1_turnsIn 5 = .ok (.ifCond .eq 23, 3) := by decide +kernel
theorem dX1_turnsIn_8 : decode cX1_turnsIn 8 = .ok (.aload_n 0, 1) := by decide +kernel
theorem dX1_turnsIn_9 : decode cX1_turnsIn 9 = .ok (.getfield 21, 3) := by decide +kernel
theorem dX1_turnsIn_12 : decode cX1_turnsIn 12 = .ok (.getfield 70, 3) := by decide +kernel
theorem dX1_turnsIn_15 : decode cX1_turnsIn 15 = .ok (.aload_n 0, 1) := by decide +kernel
theorem dX1_turnsIn_16 : decode cX1_turnsIn 16 = .ok (.getfield 9, 3) := by decide +kernel
theorem dX1_turnsIn_19 : decode cX1_turnsIn 19 = .ok (.aload_n 1, 1) := by decide +kernel
theorem dX1_turnsIn_20 : decode cX1_turnsIn 20 = .ok (.getfield 63, 3) := by decide +kernel
theorem dX1_turnsIn_23 : decode cX1_turnsIn 23 = .ok (.invokevirtual 73, 3) := by decide +kernel
theorem dX1_turnsIn_26 : decode cX1_turnsIn 26 = .ok (.iadd, 1) := by decide +kernel
theorem dX1_turnsIn_27 : decode cX1_turnsIn 27 = .ok (.ireturn, 1) := by decide +kernel
theorem dX1_turnsIn_28 : decode cX1_turnsIn 28 = .ok (.aload_n 1, 1) := by decide +kernel
theorem dX1_turnsIn_29 : decode cX1_turnsIn 29 = .ok (.iload_n 2, 1) := by decide +kernel
theorem dX1_turnsIn_30 : decode cX1_turnsIn 30 = .ok (.invokevirtual 77, 3) := by decide +kernel
theorem dX1_turnsIn_33 : decode cX1_turnsIn 33 = .ok (.ifCond .eq 5, 3) := by decide +kernel
theorem dX1_turnsIn_36 : decode cX1_turnsIn 36 = .ok (.iconst 0, 1) := by decide +kernel
theorem dX1_turnsIn_37 : decode cX1_turnsIn 37 = .ok (.ireturn, 1) := by decide +kernel
theorem dX1_turnsIn_38 : decode cX1_turnsIn 38 = .ok (.aload_n 0, 1) := by decide +kernel
theorem dX1_turnsIn_39 : decode cX1_turnsIn 39 = .ok (.getfield 9, 3) := by decide +kernel
theorem dX1_turnsIn_42 : decode cX1_turnsIn 42 = .ok (.aload_n 1, 1) := by decide +kernel
theorem dX1_turnsIn_43 : decode cX1_turnsIn 43 = .ok (.aload_n 1, 1) := by decide +kernel
theorem dX1_turnsIn_44 : decode cX1_turnsIn 44 = .ok (.getfield 80, 3) := by decide +kernel
theorem dX1_turnsIn_47 : decode cX1_turnsIn 47 = .ok (.iload_n 2, 1) := by decide +kernel
theorem dX1_turnsIn_48 : decode cX1_turnsIn 48 = .ok (.iaload, 1) := by decide +kernel
theorem dX1_turnsIn_49 : decode cX1_turnsIn 49 = .ok (.iload_n 2, 1) := by decide +kernel
theorem dX1_turnsIn_50 : decode cX1_turnsIn 50 = .ok (.invokevirtual 83, 3) := by decide +kernel
theorem dX1_turnsIn_53 : decode cX1_turnsIn 53 = .ok (.aload_n 0, 1) := by decide +kernel
theorem dX1_turnsIn_54 : decode cX1_turnsIn 54 = .ok (.getfield 9, 3) := by decide +kernel
theorem dX1_turnsIn_57 : decode cX1_turnsIn 57 = .ok (.invokevirtual 87, 3) := by decide +kernel
theorem dX1_turnsIn_60 : decode cX1_turnsIn 60 = .ok (.ireturn, 1) := by decide +kernel
def wp_X1_turnsIn (S : Sh) (M : Mm) (u0 : Int) (u1 : Int) (u2 : Int) (post : Int → Mm → Prop) : Prop := isK S u1 5 ∧ (wp_X5_stands S M u1 u2 <| fun v2 M1 => wIf (v2 = 0) (isK S u1 5 ∧ (wp_X5_isGone S M1 u1 u2 <| fun v5 M4 => wIf (v5 = 0) (wGetR S M4 u0 1 0 fun v7 => wGetR S M4 u1 5 6 fun v9 => wLd S M4 v9 14 u2 fun v11 => isK S v7 10 ∧ (wp_X10_see S M4 v7 u1 v11 u2 <| fun M13 => wGetR S M13 u0 1 0 fun v14 => isK S v14 10 ∧ (wp_X10_turns S M13 v14 <| fun v17 M16 => post v17 M16))) (wC 0 fun v19 => post v19 M4))) (wGetR S M1 u0 1 1 fun v21 => wGet S M1 v21 8 1 fun v23 => wGetR S M1 u0 1 0 fun v25 => wGet S M1 u1 5 0 fun v27 => isK S v25 10 ∧ (wp_X10_heatIn S M1 v25 v27 <| fun v30 M29 => wA v23 v30 fun v32 => post v32 M29)))
set_option maxHeartbeats 4000000 in
set_option maxRecDepth 100000 in
theorem c_X1_turnsIn (l : Launch) (D : va_G) (G : Gt) (S : Sh) (M : Mm) (xl0 : Int) (xl1 : Int) (zl2 : Int32) (post : Int → Mm → Prop) (h : wp_X1_turnsIn S M xl0 xl1 zl2.toInt post) : Met l yX1_turnsIn (cw_X1_turnsIn :: gw) RM_X1_turnsIn (va_Pc [.ref (adr G xl0), .ref (adr G xl1), .int zl2] (fun U => KN D G U ∧ Wd D G S M U.heap)) (QI D G S post) 0 0 (aG G) := by
  refine Met.ofW (cc := cX1_turnsIn) (maxL := 3) (ret := (some .int)) (by decide) rfl ?_
  intro p e s m args below meth c s₁ B hml hv
  obtain ⟨rfl, hK, hP⟩ := hv
  have hx := B.exec
  have hb := B.bytes
  have hr := B.returns
  have hts := atoms_spec (ws := cw_X1_turnsIn :: gw) B.pre
  have hown : s.vm.findClass RX1 = some m.cls := findClass_of_methodNamed B.named
  have hlocks := B.notSynchronized
  have hS : va_S (aG G) s.heap s.heap [] := va_S.rf
  have C : Cx p s m ([.ref (adr G xl0), .ref (adr G xl1), .int zl2] : List Value).toArray meth c D G cX1_turnsIn 3 (some .int) (cw_X1_turnsIn :: gw) RX1 := ⟨hx, hb, hr, hlocks, hml, hown, hts, hK⟩
  have hl := lv_entry ([.ref (adr G xl0), .ref (adr G xl1), .int zl2]) (n := 3) (Nat.le_of_ble_eq_true rfl)
  rw [lg_entry_eq]
  generalize (lg_sl ([.ref (adr G xl0), .ref (adr G xl1), .int zl2]) ++ List.replicate (3 - (lg_sl ([.ref (adr G xl0), .ref (adr G xl1), .int zl2])).length) Slot.unset).toArray = ls at hl ⊢
  have hl : lv_has ls 3 [(0, .ref (adr G xl0)), (1, .ref (adr G xl1)), (2, .int zl2)] := hl
  unfold wp_X1_turnsIn at h
  refine lv_aload_n hx hb dX1_turnsIn_0 rfl (lv_at hl 1 rfl) ?_
  refine lv_iload_n hx hb dX1_turnsIn_1 rfl (lv_at hl 2 rfl) ?_
  refine q_Vi hx hb hml hown hts hK hP hS (c_X5_stands l D G S _ xl1 zl2 _ h.2) ⟨callB_of 1 hts (gw_good kw_934) rfl rfl rfl (hts _ (List.mem_cons_of_mem _ kw_5)) (hts _ (List.mem_cons_of_mem _ kw_931)) hd_X5_stands ⟨Nat.le_of_ble_eq_true rfl, Nat.le_of_ble_eq_true rfl⟩, (hts _ (List.mem_cons_of_mem _ kw_932)), (hts _ (List.mem_cons_of_mem _ kw_933))⟩ h.1 (ci := 5) rfl (by decide) rfl hl.1 rfl (lv_room (Nat.le_of_ble_eq_true rfl)) dX1_turnsIn_2 ⟨Nat.zero_le _, Nat.zero_le _⟩ (fun z3 M1 H locs h hP hS => ?_)
  refine r_if_eq (tgt := 28) hx hb dX1_turnsIn_5 (by decide) h (fun h => ?_) (fun h => ?_)
  · refine lv_aload_n hx hb dX1_turnsIn_28 rfl (lv_at hl 1 rfl) ?_
    refine lv_iload_n hx hb dX1_turnsIn_29 rfl (lv_at hl 2 rfl) ?_
    refine q_Vi hx hb hml hown hts hK hP hS (c_X5_isGone l D G S _ xl1 zl2 _ h.2) ⟨callB_of 1 hts (gw_good kw_897) rfl rfl rfl (hts _ (List.mem_cons_of_mem _ kw_5)) (hts _ (List.mem_cons_of_mem _ kw_943)) hd_X5_isGone ⟨Nat.le_of_ble_eq_true rfl, Nat.le_of_ble_eq_true rfl⟩, (hts _ (List.mem_cons_of_mem _ kw_895)), (hts _ (List.mem_cons_of_mem _ kw_896))⟩ h.1 (ci := 5) rfl (by decide) rfl hl.1 rfl (lv_room (Nat.le_of_ble_eq_true rfl)) dX1_turnsIn_30 ⟨Nat.zero_le _, Nat.zero_le _⟩ (fun z6 M4 H locs h hP hS => ?_)
    refine r_if_eq (tgt := 38) hx hb dX1_turnsIn_33 (by decide) h (fun h => ?_) (fun h => ?_)
    · refine lv_aload_n hx hb dX1_turnsIn_38 rfl (lv_at hl 0 rfl) ?_
      refine r_getr (C := RX1) (T := TX1) (N := 3) hx hb hts (fun w h => List.mem_cons_of_mem _ (iX1 w h)) hown hK hP rfl (by decide) rfl 0 (by decide) (hts _ (List.mem_cons_of_mem _ kw_398)) (fun _ h9 => h9) dX1_turnsIn_39 (by decide) h (fun x8 h => ?_)
      refine lv_aload_n hx hb dX1_turnsIn_42 rfl (lv_at hl 1 rfl) ?_
      refine lv_aload_n hx hb dX1_turnsIn_43 rfl (lv_at hl 1 rfl) ?_
      refine r_getrN (C := RX5) (T := TX5) (N := 9) hx hb hts (fun w h => List.mem_cons_of_mem _ (iX5 w h)) hown hK hP rfl (by decide) rfl 6 (by decide) (nw_61 hK) (fun _ h9 => h9) dX1_turnsIn_44 (by decide) h (fun x10 h => ?_)
      refine lv_iload_n hx hb dX1_turnsIn_47 rfl (lv_at hl 2 rfl) ?_
      refine r_iald hx hb hK hP dX1_turnsIn_48 h (fun z12 h => ?_)
      refine lv_iload_n hx hb dX1_turnsIn_49 rfl (lv_at hl 2 rfl) ?_
      refine q_Vv hx hb hml hown hts hK hP hS (c_X10_see l D G S _ x8 xl1 z12 zl2 _ h.2) ⟨callB_of 3 hts (gw_good kw_947) rfl rfl rfl (hts _ (List.mem_cons_of_mem _ kw_9)) (hts _ (List.mem_cons_of_mem _ kw_944)) hd_X10_see ⟨Nat.le_of_ble_eq_true rfl, Nat.le_of_ble_eq_true rfl⟩, (hts _ (List.mem_cons_of_mem _ kw_945)), (hts _ (List.mem_cons_of_mem _ kw_946))⟩ h.1 (ci := 10) rfl (by decide) rfl hl.1 rfl (lv_room (Nat.le_of_ble_eq_true rfl)) dX1_turnsIn_50 ⟨Nat.zero_le _, Nat.zero_le _⟩ (fun M13 H locs h hP hS => ?_)
      refine lv_aload_n hx hb dX1_turnsIn_53 rfl (lv_at hl 0 rfl) ?_
      refine r_getr (C := RX1) (T := TX1) (N := 3) hx hb hts (fun w h => List.mem_cons_of_mem _ (iX1 w h)) hown hK hP rfl (by decide) rfl 0 (by decide) (hts _ (List.mem_cons_of_mem _ kw_398)) (fun _ h9 => h9) dX1_turnsIn_54 (by decide) h (fun x15 h => ?_)
      refine q_Vi hx hb hml hown hts hK hP hS (c_X10_turns l D G S _ x15 _ h.2) ⟨callB_of 0 hts (gw_good kw_966) rfl rfl rfl (hts _ (List.mem_cons_of_mem _ kw_9)) (hts _ (List.mem_cons_of_mem _ kw_963)) hd_X10_turns ⟨Nat.le_of_ble_eq_true rfl, Nat.le_of_ble_eq_true rfl⟩, (hts _ (List.mem_cons_of_mem _ kw_964)), (hts _ (List.mem_cons_of_mem _ kw_965))⟩ h.1 (ci := 10) rfl (by decide) rfl hl.1 rfl (lv_room (Nat.le_of_ble_eq_true rfl)) dX1_turnsIn_57 ⟨Nat.zero_le _, Nat.zero_le _⟩ (fun z18 M16 H locs h hP hS => ?_)
      exact r_iret hx hb hr hlocks hP hS dX1_turnsIn_60 h
    · refine r_iconst hx hb dX1_turnsIn_36 (by decide) h (fun z20 h => ?_)
      exact r_iret hx hb hr hlocks hP hS dX1_turnsIn_37 h
  · refine lv_aload_n hx hb dX1_turnsIn_8 rfl (lv_at hl 0 rfl) ?_
    refine r_getr (C := RX1) (T := TX1) (N := 3) hx hb hts (fun w h => List.mem_cons_of_mem _ (iX1 w h)) hown hK hP rfl (by decide) rfl 1 (by decide) (hts _ (List.mem_cons_of_mem _ kw_399)) (fun _ h9 => h9) dX1_turnsIn_9 (by decide) h (fun x22 h => ?_)
    refine r_getiN (C := RX8) (T := TX8) (N := 19) hx hb hts (fun w h => List.mem_cons_of_mem _ (iX8 w h)) hown hK hP rfl (by decide) rfl 1 (by decide) (nw_5 hK) (fun _ h9 => h9) dX1_turnsIn_12 (by decide) h (fun z24 h => ?_)
    refine lv_aload_n hx hb dX1_turnsIn_15 rfl (lv_at hl 0 rfl) ?_
    refine r_getr (C := RX1) (T := TX1) (N := 3) hx hb hts (fun w h => List.mem_cons_of_mem _ (iX1 w h)) hown hK hP rfl (by decide) rfl 0 (by decide) (hts _ (List.mem_cons_of_mem _ kw_398)) (fun _ h9 => h9) dX1_turnsIn_16 (by decide) h (fun x26 h => ?_)
    refine lv_aload_n hx hb dX1_turnsIn_19 rfl (lv_at hl 1 rfl) ?_
    refine r_getiN (C := RX5) (T := TX5) (N := 9) hx hb hts (fun w h => List.mem_cons_of_mem _ (iX5 w h)) hown hK hP rfl (by decide) rfl 0 (by decide) (nw_47 hK) (fun _ h9 => h9) dX1_turnsIn_20 (by decide) h (fun z28 h => ?_)
    refine q_Vi hx hb hml hown hts hK hP hS (c_X10_heatIn l D G S _ x26 z28 _ h.2) ⟨callB_of 1 hts (gw_good kw_938) rfl rfl rfl (hts _ (List.mem_cons_of_mem _ kw_9)) (hts _ (List.mem_cons_of_mem _ kw_935)) hd_X10_heatIn ⟨Nat.le_of_ble_eq_true rfl, Nat.le_of_ble_eq_true rfl⟩, (hts _ (List.mem_cons_of_mem _ kw_936)), (hts _ (List.mem_cons_of_mem _ kw_937))⟩ h.1 (ci := 10) rfl (by decide) rfl hl.1 rfl (lv_room (Nat.le_of_ble_eq_true rfl)) dX1_turnsIn_23 ⟨Nat.zero_le _, Nat.zero_le _⟩ (fun z31 M29 H locs h hP hS => ?_)
    refine r_iadd hx hb dX1_turnsIn_26 h (fun z33 h => ?_)
    exact r_iret hx hb hr hlocks hP hS dX1_turnsIn_27 h
/-! TurningMilk$State.tire(II)V -/
abbrev RM_X5_tire : Room := { frames := 2, cells := 0, slots := 0, locals := 63 }
def cw_X5_tire : Cond := Cond.code yX5_tire cX5_tire 3 (Option.none : Option FieldType)
theorem hd_X5_tire : yX5_tire.cls ≠ "java/lang/invoke/MethodHandle" ∧ yX5_tire.cls ≠ "java/lang/invoke/VarHandle" ∧ (parseMethodDescriptor yX5_tire.desc).map (fun d => d.parameters.length) = some 2 := by decide +kernel
theorem dX5_tire_0 : decode cX5_tire 0 = .ok (.aload_n 0, 1) := by decide +kernel
theorem dX5_tire_1 : decode cX5_tire 1 = .ok (.iload_n 1, 1) := by decide +kernel
theorem dX5_tire_2 : decode cX5_tire 2 = .ok (.invokevirtual 52, 3) := by decide +kernel
theorem dX5_tire_5 : decode cX5_tire 5 = .ok (.ifCond .eq 25, 3) := by decide +kernel
theorem dX5_tire_8 : decode cX5_tire 8 = .ok (.aload_n 0, 1) := by decide +kernel
theorem dX5_tire_9 : decode cX5_tire 9 = .ok (.getfield 18, 3) := by decide +kernel
theorem dX5_tire_12 : decode cX5_tire 12 = .ok (.iload_n 1, 1) := by decide +kernel
theorem dX5_tire_13 : decode cX5_tire 13 = .ok (.bipush 99, 2) := by decide +kernel
theorem dX5_tire_15 : decode cX5_tire 15 = .ok (.aload_n 0, 1) := by decide +kernel
theorem dX5_tire_16 : decode cX5_tire 16 = .ok (.getfield 18, 3) := by decide +kernel
theorem dX5_tire_19 : decode cX5_tire 19 = .ok (.iload_n 1, 1) := by decide +kernel
theorem dX5_tire_20 : decode cX5_tire 20 = .ok (.iaload, 1) := by decide +kernel
theorem dX5_tire_21 : decode cX5_tire 21 = .ok (.iload_n 2, 1) := by decide +kernel
theorem dX5_tire_22 : decode cX5_tire 22 = .ok (.iadd, 1) := by decide +kernel
theorem dX5_tire_23 : decode cX5_tire 23 = .ok (.invokestatic 80, 3) := by decide +kernel
theorem dX5_tire_26 : decode cX5_tire 26 = .ok (.iastore, 1) := by decide +kernel
theorem dX5_tire_27 : decode cX5_tire 27 = .ok (.goto 21, 3) := by decide +kernel
theorem dX5_tire_30 : decode cX5_tire 30 = .ok (.aload_n 0, 1) := by decide +kernel
theorem dX5_tire_31 : decode cX5_tire 31 = .ok (.getfield 18, 3) := by decide +kernel
theorem dX5_tire_34 : decode cX5_tire 34 = .ok (.iload_n 1, 1) := by decide +kernel
theorem dX5_tire_35 : decode cX5_tire 35 = .ok (.iconst 0, 1) := by decide +kernel
theorem dX5_tire_36 : decode cX5_tire 36 = .ok (.aload_n 0, 1) := by decide +kernel
theorem dX5_tire_37 : decode cX5_tire 37 = .ok (.getfield 18, 3) := by decide +kernel
theorem dX5_tire_40 : decode cX5_tire 40 = .ok (.iload_n 1, 1) := by decide +kernel
theorem dX5_tire_41 : decode cX5_tire 41 = .ok (.iaload, 1) := by decide +kernel
theorem dX5_tire_42 : decode cX5_tire 42 = .ok (.iconst 1, 1) := by decide +kernel
theorem dX5_tire_43 : decode cX5_tire 43 = .ok (.isub, 1) := by decide +kernel
theorem dX5_tire_44 : decode cX5_tire 44 = .ok (.invokestatic 85, 3) := by decide +kernel
theorem dX5_tire_47 : decode cX5_tire 47 = .ok (.iastore, 1) := by decide +kernel
theorem dX5_tire_48 : decode cX5_tire 48 = .ok (.return_, 1) := by decide +kernel
def wp_X5_tire (S : Sh) (M : Mm) (u0 : Int) (u1 : Int) (u2 : Int) (post : Mm → Prop) : Prop := isK S u0 5 ∧ (wp_X5_heldBits S M u0 u1 <| fun v2 M1 => wIf (v2 = 0) (wGetR S M1 u0 5 4 fun v4 => wC 0 fun v6 => wGetR S M1 u0 5 4 fun v8 => wLd S M1 v8 14 u1 fun v10 => wC 1 fun v12 => wS v10 v12 fun v14 => wO max v6 v14 fun v16 => wSt S M1 v4 14 u1 v16 fun M18 => post M18) (wGetR S M1 u0 5 4 fun v19 => wC 99 fun v21 => wGetR S M1 u0 5 4 fun v23 => wLd S M1 v23 14 u1 fun v25 => wA v25 u2 fun v27 => wO min v21 v27 fun v29 => wSt S M1 v19 14 u1 v29 fun M31 => post M31))
set_option maxHeartbeats 4000000 in
set_option maxRecDepth 100000 in
theorem c_X5_tire (l : Launch) (D : va_G) (G : Gt) (S : Sh) (M : Mm) (xl0 : Int) (zl1 : Int32) (zl2 : Int32) (post : Mm → Prop) (h : wp_X5_tire S M xl0 zl1.toInt zl2.toInt post) : Met l yX5_tire (cw_X5_tire :: gw) RM_X5_tire (va_Pc [.ref (adr G xl0), .int zl1, .int zl2] (fun U => KN D G U ∧ Wd D G S M U.heap)) (QV D G S post) 0 0 (aG G) := by
  refine Met.ofW (cc := cX5_tire) (maxL := 3) (ret := none) (by decide) rfl ?_
  intro p e s m args below meth c s₁ B hml hv
  obtain ⟨rfl, hK, hP⟩ := hv
  have hx := B.exec
  have hb := B.bytes
  have hr := B.returns
  have hts := atoms_spec (ws := cw_X5_tire :: gw) B.pre
  have hown : s.vm.findClass RX5 = some m.cls := findClass_of_methodNamed B.named
  have hlocks := B.notSynchronized
  have hS : va_S (aG G) s.heap s.heap [] := va_S.rf
  have C : Cx p s m ([.ref (adr G xl0), .int zl1, .int zl2] : List Value).toArray meth c D G cX5_tire 3 none (cw_X5_tire :: gw) RX5 := ⟨hx, hb, hr, hlocks, hml, hown, hts, hK⟩
  have hl := lv_entry ([.ref (adr G xl0), .int zl1, .int zl2]) (n := 3) (Nat.le_of_ble_eq_true rfl)
  rw [lg_entry_eq]
  generalize (lg_sl ([.ref (adr G xl0), .int zl1, .int zl2]) ++ List.replicate (3 - (lg_sl ([.ref (adr G xl0), .int zl1, .int zl2])).length) Slot.unset).toArray = ls at hl ⊢
  have hl : lv_has ls 3 [(0, .ref (adr G xl0)), (1, .int zl1), (2, .int zl2)] := hl
  unfold wp_X5_tire at h
  refine lv_aload_n hx hb dX5_tire_0 rfl (lv_at hl 0 rfl) ?_
  refine lv_iload_n hx hb dX5_tire_1 rfl (lv_at hl 1 rfl) ?_
  refine q_Vi hx hb hml hown hts hK hP hS (c_X5_heldBits l D G S _ xl0 zl1 _ h.2) ⟨callB_of 1 hts (gw_good kw_885) rfl rfl rfl (hts _ (List.mem_cons_of_mem _ kw_5)) (hts _ (List.mem_cons_of_mem _ kw_956)) hd_X5_heldBits ⟨Nat.le_of_ble_eq_true rfl, Nat.le_of_ble_eq_true rfl⟩, (hts _ (List.mem_cons_of_mem _ kw_883)), (hts _ (List.mem_cons_of_mem _ kw_884))⟩ h.1 (ci := 5) rfl (by decide) rfl hl.1 rfl (lv_room (Nat.le_of_ble_eq_true rfl)) dX5_tire_2 ⟨Nat.zero_le _, Nat.zero_le _⟩ (fun z3 M1 H locs h hP hS => ?_)
  refine r_if_eq (tgt := 30) hx hb dX5_tire_5 (by decide) h (fun h => ?_) (fun h => ?_)
  · refine lv_aload_n hx hb dX5_tire_30 rfl (lv_at hl 0 rfl) ?_
    refine r_getr (C := RX5) (T := TX5) (N := 9) hx hb hts (fun w h => List.mem_cons_of_mem _ (iX5 w h)) hown hK hP rfl (by decide) rfl 4 (by decide) (hts _ (List.mem_cons_of_mem _ kw_193)) (fun _ h9 => h9) dX5_tire_31 (by decide) h (fun x5 h => ?_)
    refine lv_iload_n hx hb dX5_tire_34 rfl (lv_at hl 1 rfl) ?_
    refine r_iconst hx hb dX5_tire_35 (by decide) h (fun z7 h => ?_)
    refine lv_aload_n hx hb dX5_tire_36 rfl (lv_at hl 0 rfl) ?_
    refine r_getr (C := RX5) (T := TX5) (N := 9) hx hb hts (fun w h => List.mem_cons_of_mem _ (iX5 w h)) hown hK hP rfl (by decide) rfl 4 (by decide) (hts _ (List.mem_cons_of_mem _ kw_193)) (fun _ h9 => h9) dX5_tire_37 (by decide) h (fun x9 h => ?_)
    refine lv_iload_n hx hb dX5_tire_40 rfl (lv_at hl 1 rfl) ?_
    refine r_iald hx hb hK hP dX5_tire_41 h (fun z11 h => ?_)
    refine r_iconst hx hb dX5_tire_42 (by decide) h (fun z13 h => ?_)
    refine r_isub hx hb dX5_tire_43 h (fun z15 h => ?_)
    refine r_mmax hx hb (hml.trans hl.1.symm) hown (hts _ (List.mem_cons_of_mem _ kw_992)) (hts _ (List.mem_cons_of_mem _ kw_993)) (hts _ (List.mem_cons_of_mem _ kw_19)) (hts _ (List.mem_cons_of_mem _ kw_994)) (Nat.le_of_ble_eq_true rfl) (Nat.le_of_ble_eq_true rfl) (Nat.zero_le _) (Nat.zero_le _) dX5_tire_44 h (fun z17 h => ?_)
    refine r_iast hx hb hK hP hS dX5_tire_47 h (fun M18 H locs h hP hS => ?_)
    exact r_vret hx hb hr hlocks hP hS dX5_tire_48 h
  · refine lv_aload_n hx hb dX5_tire_8 rfl (lv_at hl 0 rfl) ?_
    refine r_getr (C := RX5) (T := TX5) (N := 9) hx hb hts (fun w h => List.mem_cons_of_mem _ (iX5 w h)) hown hK hP rfl (by decide) rfl 4 (by decide) (hts _ (List.mem_cons_of_mem _ kw_193)) (fun _ h9 => h9) dX5_tire_9 (by decide) h (fun x20 h => ?_)
    refine lv_iload_n hx hb dX5_tire_12 rfl (lv_at hl 1 rfl) ?_
    refine r_bipush hx hb dX5_tire_13 (by decide) h (fun z22 h => ?_)
    refine lv_aload_n hx hb dX5_tire_15 rfl (lv_at hl 0 rfl) ?_
    refine r_getr (C := RX5) (T := TX5) (N := 9) hx hb hts (fun w h => List.mem_cons_of_mem _ (iX5 w h)) hown hK hP rfl (by decide) rfl 4 (by decide) (hts _ (List.mem_cons_of_mem _ kw_193)) (fun _ h9 => h9) dX5_tire_16 (by decide) h (fun x24 h => ?_)
    refine lv_iload_n hx hb dX5_tire_19 rfl (lv_at hl 1 rfl) ?_
    refine r_iald hx hb hK hP dX5_tire_20 h (fun z26 h => ?_)
    refine lv_iload_n hx hb dX5_tire_21 rfl (lv_at hl 2 rfl) ?_
    refine r_iadd hx hb dX5_tire_22 h (fun z28 h => ?_)
    refine r_mmin hx hb (hml.trans hl.1.symm) hown (hts _ (List.mem_cons_of_mem _ kw_991)) (hts _ (List.mem_cons_of_mem _ kw_719)) (hts _ (List.mem_cons_of_mem _ kw_19)) (hts _ (List.mem_cons_of_mem _ kw_720)) (Nat.le_of_ble_eq_true rfl) (Nat.le_of_ble_eq_true rfl) (Nat.zero_le _) (Nat.zero_le _) dX5_tire_23 h (fun z30 h => ?_)
    refine r_iast hx hb hK hP hS dX5_tire_26 h (fun M31 H locs h hP hS => ?_)
    refine lv_goto (tgt := 48) hx hb dX5_tire_27 (by decide) ?_
    exact r_vret hx hb hr hlocks hP hS dX5_tire_48 h
/-! TurningMilk$Hours.pass(LTurningMilk$State;)I -/
abbrev RM_X1_pass : Room := { frames := 5, cells := 0, slots := 0, locals := 129 }
def cw_X1_pass : Cond := Cond.code yX1_pass cX1_pass 5 (Option.some FieldType.int)
theorem hd_X1_pass : yX1_pass.cls ≠ "java/lang/invoke/MethodHandle" ∧ yX1_pass.cls ≠ "java/lang/invoke/VarHandle" ∧ (parseMethodDescriptor yX1_pass.desc).map (fun d => d.parameters.length) = some 1 := by decide +kernel
theorem dX1_pass_0 : decode cX1_pass 0 = .ok (.iconst 0, 1) := by decide +kernel
theorem dX1_pass_1 : decode cX1_pass 1 = .ok (.istore_n 2, 1) := by decide +kernel
theorem dX1_pass_2 : decode cX1_pass 2 = .ok (.iconst 0, 1) := by decide +kernel
theorem dX1_pass_3 : decode cX1_pass 3 = .ok (.istore_n 3, 1) := by decide +kernel
theorem dX1_pass_4 : decode cX1_pass 4 = .ok (.iload_n 3, 1) := by decide +kernel
theorem dX1_pass_5 : decode cX1_pass 5 = .ok (.aload_n 0, 1) := by decide +kernel
theorem dX1_pass_6 : decode cX1_pass 6 = .ok (.getfield 21, 3) := by decide +kernel
theorem dX1_pass_9 : decode cX1_pass 9 = .ok (.getfield 22, 3) := by decide +kernel
theorem dX1_pass_12 : decode cX1_pass 12 = .ok (.if_icmp .ge 69, 3) := by decide +kernel
theorem dX1_pass_15 : decode cX1_pass 15 = .ok (.aload_n 1, 1) := by decide +kernel
theorem dX1_pass_16 : decode cX1_pass 16 = .ok (.getfield 28, 3) := by decide +kernel
theorem dX1_pass_19 : decode cX1_pass 19 = .ok (.iload_n 3, 1) := by decide +kernel
theorem dX1_pass_20 : decode cX1_pass 20 = .ok (.iaload, 1) := by decide +kernel
theorem dX1_pass_21 : decode cX1_pass 21 = .ok (.istore 4, 2) := by decide +kernel
theorem dX1_pass_23 : decode cX1_pass 23 = .ok (.aload_n 1, 1) := by decide +kernel
theorem dX1_pass_24 : decode cX1_pass 24 = .ok (.getfield 28, 3) := by decide +kernel
theorem dX1_pass_27 : decode cX1_pass 27 = .ok (.iload_n 3, 1) := by decide +kernel
theorem dX1_pass_28 : decode cX1_pass 28 = .ok (.sipush 999, 3) := by decide +kernel
theorem dX1_pass_31 : decode cX1_pass 31 = .ok (.iload 4, 2) := by decide +kernel
theorem dX1_pass_33 : decode cX1_pass 33 = .ok (.aload_n 0, 1) := by decide +kernel
theorem dX1_pass_34 : decode cX1_pass 34 = .ok (.aload_n 1, 1) := by decide +kernel
theorem dX1_pass_35 : decode cX1_pass 35 = .ok (.iload_n 3, 1) := by decide +kernel
theorem dX1_pass_36 : decode cX1_pass 36 = .ok (.invokevirtual 34, 3) := by decide +kernel
theorem dX1_pass_39 : decode cX1_pass 39 = .ok (.iadd, 1) := by decide +kernel
theorem dX1_pass_40 : decode cX1_pass 40 = .ok (.invokestatic 38, 3) := by decide +kernel
theorem dX1_pass_43 : decode cX1_pass 43 = .ok (.iastore, 1) := by decide +kernel
theorem dX1_pass_44 : decode cX1_pass 44 = .ok (.iload 4, 2) := by decide +kernel
theorem dX1_pass_46 : decode cX1_pass 46 = .ok (.aload_n 0, 1) := by decide +kernel
theorem dX1_pass_47 : decode cX1_pass 47 = .ok (.getfield 21, 3) := by decide +kernel
theorem dX1_pass_50 : decode cX1_pass 50 = .ok (.getfield 44, 3) := by decide +kernel
theorem dX1_pass_53 : decode cX1_pass 53 = .ok (.if_icmp .ge 22, 3) := by decide +kernel
theorem dX1_pass_56 : decode cX1_pass 56 = .ok (.aload_n 1, 1) := by decide +kernel
theorem dX1_pass_57 : decode cX1_pass 57 = .ok (.getfield 28, 3) := by decide +kernel
theorem dX1_pass_60 : decode cX1_pass 60 = .ok (.iload_n 3, 1) := by decide +kernel
theorem dX1_pass_61 : decode cX1_pass 61 = .ok (.iaload, 1) := by decide +kernel
theorem dX1_pass_62 : decode cX1_pass 62 = .ok (.aload_n 0, 1) := by decide +kernel
theorem dX1_pass_63 : decode cX1_pass 63 = .ok (.getfield 21, 3) := by decide +kernel
theorem dX1_pass_66 : decode cX1_pass 66 = .ok (.getfield 44, 3) := by decide +kernel
theorem dX1_pass_69 : decode cX1_pass 69 = .ok (.if_icmp .lt 6, 3) := by decide +kernel
theorem dX1_pass_72 : decode cX1_pass 72 = .ok (.iinc 2 1, 3) := by decide +kernel
theorem dX1_pass_75 : decode cX1_pass 75 = .ok (.iinc 3 1, 3) := by decide +kernel
theorem dX1_pass_78 : decode cX1_pass 78 = .ok (.goto (-74), 3) := by decide +kernel
theorem dX1_pass_81 : decode cX1_pass 81 = .ok (.iconst 0, 1) := by decide +kernel
theorem dX1_pass_82 : decode cX1_pass 82 = .ok (.istore_n 3, 1) := by decide +kernel
theorem dX1_pass_83 : decode cX1_pass 83 = .ok (.iload_n 3, 1) := by decide +kernel
theorem dX1_pass_84 : decode cX1_pass 84 = .ok (.aload_n 0, 1) := by decide +kernel
theorem dX1_pass_85 : decode cX1_pass 85 = .ok (.getfield 21, 3) := by decide +kernel
theorem dX1_pass_88 : decode cX1_pass 88 = .ok (.getfield 47, 3) := by decide +kernel
theorem dX1_pass_91 : decode cX1_pass 91 = .ok (.if_icmp .ge 41, 3) := by decide +kernel
theorem dX1_pass_94 : decode cX1_pass 94 = .ok (.aload_n 1, 1) := by decide +kernel
theorem dX1_pass_95 : decode cX1_pass 95 = .ok (.iload_n 3, 1) := by decide +kernel
theorem dX1_pass_96 : decode cX1_pass 96 = .ok (.aload_n 0, 1) := by decide +kernel
theorem dX1_pass_97 : decode cX1_pass 97 = .ok (.getfield 21, 3) := by decide +kernel
theorem dX1_pass_100 : decode cX1_pass 100 = .ok (.getfield 50, 3) := by decide +kernel
theorem dX1_pass_103 : decode cX1_pass 103 = .ok (.iload_n 3, 1) := by decide +kernel
theorem dX1_pass_104 : decode cX1_pass 104 = .ok (.iaload, 1) := by decide +kernel
theorem dX1_pass_105 : decode cX1_pass 105 = .ok (.invokevirtual 53, 3) := by decide +kernel
theorem dX1_pass_108 : decode cX1_pass 108 = .ok (.aload_n 1, 1) := by decide +kernel
theorem dX1_pass_109 : decode cX1_pass 109 = .ok (.getfield 57, 3) := by decide +kernel
theorem dX1_pass_112 : decode cX1_pass 112 = .ok (.iload_n 3, 1) := by decide +kernel
theorem dX1_pass_113 : decode cX1_pass 113 = .ok (.iconst 0, 1) := by decide +kernel
theorem dX1_pass_114 : decode cX1_pass 114 = .ok (.aload_n 1, 1) := by decide +kernel
theorem dX1_pass_115 : decode cX1_pass 115 = .ok (.getfield 57, 3) := by decide +kernel
theorem dX1_pass_118 : decode cX1_pass 118 = .ok (.iload_n 3, 1) := by decide +kernel
theorem dX1_pass_119 : decode cX1_pass 119 = .ok (.iaload, 1) := by decide +kernel
theorem dX1_pass_120 : decode cX1_pass 120 = .ok (.iconst 1, 1) := by decide +kernel
theorem dX1_pass_121 : decode cX1_pass 121 = .ok (.isub, 1) := by decide +kernel
theorem dX1_pass_122 : decode cX1_pass 122 = .ok (.invokestatic 60, 3) := by decide +kernel
theorem dX1_pass_125 : decode cX1_pass 125 = .ok (.iastore, 1) := by decide +kernel
theorem dX1_pass_126 : decode cX1_pass 126 = .ok (.iinc 3 1, 3) := by decide +kernel
theorem dX1_pass_129 : decode cX1_pass 129 = .ok (.goto (-46), 3) := by decide +kernel
theorem dX1_pass_132 : decode cX1_pass 132 = .ok (.aload_n 1, 1) := by decide +kernel
theorem dX1_pass_133 : decode cX1_pass 133 = .ok (.sipush 999, 3) := by decide +kernel
theorem dX1_pass_136 : decode cX1_pass 136 = .ok (.aload_n 1, 1) := by decide +kernel
theorem dX1_pass_137 : decode cX1_pass 137 = .ok (.getfield 63, 3) := by decide +kernel
theorem dX1_pass_140 : decode cX1_pass 140 = .ok (.iconst 1, 1) := by decide +kernel
theorem dX1_pass_141 : decode cX1_pass 141 = .ok (.iadd, 1) := by decide +kernel
theorem dX1_pass_142 : decode cX1_pass 142 = .ok (.invokestatic 38, 3) := by decide +kernel
theorem dX1_pass_145 : decode cX1_pass 145 = .ok (.putfield 63, 3) := by decide +kernel
theorem dX1_pass_148 : decode cX1_pass 148 = .ok (.iload_n 2, 1) := by decide +kernel
theorem dX1_pass_149 : decode cX1_pass 149 = .ok (.ireturn, 1) := by decide +kernel
def wp_X1_pass_83 (S : Sh) (post : Int → Mm → Prop) : Nat → Int → Int → Int → Int → Mm → Prop
  | 0, _, _, _, _, _ => False
  | n + 1, u0, u1, u2, u3, M => wGetR S M u0 1 1 fun v1 => wGet S M v1 8 4 fun v3 => wIf (v3 ≤ u3) (wC 999 fun v5 => wGet S M u1 5 0 fun v7 => wC 1 fun v9 => wA v7 v9 fun v11 => wO min v5 v11 fun v13 => wPut S M u1 5 0 v13 fun M15 => post u2 M15) (wGetR S M u0 1 1 fun v16 => wGetR S M v16 8 11 fun v18 => wLd S M v18 14 u3 fun v20 => isK S u1 5 ∧ (wp_X5_tire S M u1 u3 v20 <| fun M22 => wGetR S M22 u1 5 3 fun v23 => wC 0 fun v25 => wGetR S M22 u1 5 3 fun v27 => wLd S M22 v27 14 u3 fun v29 => wC 1 fun v31 => wS v29 v31 fun v33 => wO max v25 v33 fun v35 => wSt S M22 v23 14 u3 v35 fun M37 => wA u3 1 fun v38 => wp_X1_pass_83 S post n u0 u1 u2 v38 M37))
def wp_X1_pass_75 (S : Sh) (k4 : Int → Int → Int → Int → Mm → Prop) (post : Int → Mm → Prop) (u0 : Int) (u1 : Int) (u2 : Int) (u3 : Int) (M : Mm) : Prop := wA u3 1 fun v40 => k4 u0 u1 u2 v40 M
def wp_X1_pass_4 (S : Sh) (post : Int → Mm → Prop) : Nat → Int → Int → Int → Int → Mm → Prop
  | 0, _, _, _, _, _ => False
  | n + 1, u0, u1, u2, u3, M => wGetR S M u0 1 1 fun v42 => wGet S M v42 8 5 fun v44 => wIf (v44 ≤ u3) (wC 0 fun v46 => ∃ n9 : Nat, wp_X1_pass_83 S post n9 u0 u1 u2 v46 M) (wGetR S M u1 5 7 fun v48 => wLd S M v48 14 u3 fun v50 => wGetR S M u1 5 7 fun v52 => wC 999 fun v54 => isK S u0 1 ∧ (wp_X1_turnsIn S M u0 u1 u3 <| fun v57 M56 => wA v50 v57 fun v59 => wO min v54 v59 fun v61 => wSt S M56 v52 14 u3 v61 fun M63 => wGetR S M63 u0 1 1 fun v64 => wGet S M63 v64 8 2 fun v66 => wIf (v66 ≤ v50) (wp_X1_pass_75 S (fun a0 a1 a2 a3 M => wp_X1_pass_4 S post n a0 a1 a2 a3 M) post u0 u1 u2 u3 M63) (wGetR S M63 u1 5 7 fun v68 => wLd S M63 v68 14 u3 fun v70 => wGetR S M63 u0 1 1 fun v72 => wGet S M63 v72 8 2 fun v74 => wIf (v70 < v74) (wp_X1_pass_75 S (fun a0 a1 a2 a3 M => wp_X1_pass_4 S post n a0 a1 a2 a3 M) post u0 u1 u2 u3 M63) (wA u2 1 fun v76 => wp_X1_pass_75 S (fun a0 a1 a2 a3 M => wp_X1_pass_4 S post n a0 a1 a2 a3 M) post u0 u1 v76 u3 M63))))
def wp_X1_pass (S : Sh) (M : Mm) (u0 : Int) (u1 : Int) (post : Int → Mm → Prop) : Prop := wC 0 fun v78 => wC 0 fun v80 => ∃ n9 : Nat, wp_X1_pass_4 S post n9 u0 u1 v78 v80 M
set_option maxHeartbeats 4000000 in
set_option maxRecDepth 100000 in
theorem t_X1_pass_83 {p : Program} {l : Launch} {e : Env} {s : State} {m : MethodId} {args : Array Value} {below : List Frame} {meth : Method} {c : Code} {D : va_G} {G : Gt} {S : Sh} {post : Int → Mm → Prop} (C : Cx p s m args meth c D G cX1_pass 5 (some .int) (cw_X1_pass :: gw) RX1) : ∀ (n : Nat) (xl0 : Int) (xl1 : Int) (zl2 : Int32) (zl3 : Int32) (M : Mm) (H : Heap) (locs : List Loc) (ls : Array Slot), Wd D G S M H → va_S (aG G) s.heap H locs → lv_has ls 5 [(0, .ref (adr G xl0)), (1, .ref (adr G xl1)), (2, .int zl2), (3, .int zl3)] → wp_X1_pass_83 S post n xl0 xl1 zl2.toInt zl3.toInt  M → W p l e RM_X1_pass s m args below meth c H locs 0 0 (MQ below (QI D G S post) args s 0 0 (aG G)) (F0 m 83 ls []) := by
  obtain ⟨hx, hb, hr, hlocks, hml, hown, hts, hK⟩ := id C
  intro n
  induction n with
  | zero => intro xl0 xl1 zl2 zl3 M H locs ls hP hS hl h; exact h.elim
  | succ n ih =>
    intro xl0 xl1 zl2 zl3 M H locs ls hP hS hl h
    unfold wp_X1_pass_83 at h
    refine lv_iload_n hx hb dX1_pass_83 rfl (lv_at hl 3 rfl) ?_
    refine lv_aload_n hx hb dX1_pass_84 rfl (lv_at hl 0 rfl) ?_
    refine r_getr (C := RX1) (T := TX1) (N := 3) hx hb hts (fun w h => List.mem_cons_of_mem _ (iX1 w h)) hown hK hP rfl (by decide) rfl 1 (by decide) (hts _ (List.mem_cons_of_mem _ kw_399)) (fun _ h9 => h9) dX1_pass_85 (by decide) h (fun x2 h => ?_)
    refine r_getiN (C := RX8) (T := TX8) (N := 19) hx hb hts (fun w h => List.mem_cons_of_mem _ (iX8 w h)) hown hK hP rfl (by decide) rfl 4 (by decide) (nw_12 hK) (fun _ h9 => h9) dX1_pass_88 (by decide) h (fun z4 h => ?_)
    refine r_icmp_ge (tgt := 132) hx hb dX1_pass_91 (by decide) h (fun h => ?_) (fun h => ?_)
    · refine lv_aload_n hx hb dX1_pass_132 rfl (lv_at hl 1 rfl) ?_
      refine r_sipush hx hb dX1_pass_133 (by decide) h (fun z6 h => ?_)
      refine lv_aload_n hx hb dX1_pass_136 rfl (lv_at hl 1 rfl) ?_
      refine r_getiN (C := RX5) (T := TX5) (N := 9) hx hb hts (fun w h => List.mem_cons_of_mem _ (iX5 w h)) hown hK hP rfl (by decide) rfl 0 (by decide) (nw_47 hK) (fun _ h9 => h9) dX1_pass_137 (by decide) h (fun z8 h => ?_)
      refine r_iconst hx hb dX1_pass_140 (by decide) h (fun z10 h => ?_)
      refine r_iadd hx hb dX1_pass_141 h (fun z12 h => ?_)
      refine r_mmin hx hb (hml.trans hl.1.symm) hown (hts _ (List.mem_cons_of_mem _ kw_986)) (hts _ (List.mem_cons_of_mem _ kw_719)) (hts _ (List.mem_cons_of_mem _ kw_19)) (hts _ (List.mem_cons_of_mem _ kw_720)) (Nat.le_of_ble_eq_true rfl) (Nat.le_of_ble_eq_true rfl) (Nat.zero_le _) (Nat.zero_le _) dX1_pass_142 h (fun z14 h => ?_)
      refine r_putiN (C := RX5) (T := TX5) (N := 9) hx hb hts (fun w h => List.mem_cons_of_mem _ (iX5 w h)) hown hK hP tyX5 tyX5_ok nmX5 hS rfl (by decide) rfl 0 (by decide) (nw_47 hK) (fun _ h9 => h9) rfl (tyX5_ok 0 (by decide)) rfl rfl dX1_pass_145 (by decide) h (fun M15 H locs h hP hS => ?_)
      refine lv_iload_n hx hb dX1_pass_148 rfl (lv_at hl 2 rfl) ?_
      exact r_iret hx hb hr hlocks hP hS dX1_pass_149 h
    · refine lv_aload_n hx hb dX1_pass_94 rfl (lv_at hl 1 rfl) ?_
      refine lv_iload_n hx hb dX1_pass_95 rfl (lv_at hl 3 rfl) ?_
      refine lv_aload_n hx hb dX1_pass_96 rfl (lv_at hl 0 rfl) ?_
      refine r_getr (C := RX1) (T := TX1) (N := 3) hx hb hts (fun w h => List.mem_cons_of_mem _ (iX1 w h)) hown hK hP rfl (by decide) rfl 1 (by decide) (hts _ (List.mem_cons_of_mem _ kw_399)) (fun _ h9 => h9) dX1_pass_97 (by decide) h (fun x17 h => ?_)
      refine r_getrN (C := RX8) (T := TX8) (N := 19) hx hb hts (fun w h => List.mem_cons_of_mem _ (iX8 w h)) hown hK hP rfl (by decide) rfl 11 (by decide) (nw_30 hK) (fun _ h9 => h9) dX1_pass_100 (by decide) h (fun x19 h => ?_)
      refine lv_iload_n hx hb dX1_pass_103 rfl (lv_at hl 3 rfl) ?_
      refine r_iald hx hb hK hP dX1_pass_104 h (fun z21 h => ?_)
      refine q_Vv hx hb hml hown hts hK hP hS (c_X5_tire l D G S _ xl1 zl3 z21 _ h.2) ⟨callB_of 2 hts (gw_good kw_990) rfl rfl rfl (hts _ (List.mem_cons_of_mem _ kw_5)) (hts _ (List.mem_cons_of_mem _ kw_987)) hd_X5_tire ⟨Nat.le_of_ble_eq_true rfl, Nat.le_of_ble_eq_true rfl⟩, (hts _ (List.mem_cons_of_mem _ kw_988)), (hts _ (List.mem_cons_of_mem _ kw_989))⟩ h.1 (ci := 5) rfl (by decide) rfl hl.1 rfl (lv_room (Nat.le_of_ble_eq_true rfl)) dX1_pass_105 ⟨Nat.zero_le _, Nat.zero_le _⟩ (fun M22 H locs h hP hS => ?_)
      refine lv_aload_n hx hb dX1_pass_108 rfl (lv_at hl 1 rfl) ?_
      refine r_getrN (C := RX5) (T := TX5) (N := 9) hx hb hts (fun w h => List.mem_cons_of_mem _ (iX5 w h)) hown hK hP rfl (by decide) rfl 3 (by decide) (nw_54 hK) (fun _ h9 => h9) dX1_pass_109 (by decide) h (fun x24 h => ?_)
      refine lv_iload_n hx hb dX1_pass_112 rfl (lv_at hl 3 rfl) ?_
      refine r_iconst hx hb dX1_pass_113 (by decide) h (fun z26 h => ?_)
      refine lv_aload_n hx hb dX1_pass_114 rfl (lv_at hl 1 rfl) ?_
      refine r_getrN (C := RX5) (T := TX5) (N := 9) hx hb hts (fun w h => List.mem_cons_of_mem _ (iX5 w h)) hown hK hP rfl (by decide) rfl 3 (by decide) (nw_54 hK) (fun _ h9 => h9) dX1_pass_115 (by decide) h (fun x28 h => ?_)
      refine lv_iload_n hx hb dX1_pass_118 rfl (lv_at hl 3 rfl) ?_
      refine r_iald hx hb hK hP dX1_pass_119 h (fun z30 h => ?_)
      refine r_iconst hx hb dX1_pass_120 (by decide) h (fun z32 h => ?_)
      refine r_isub hx hb dX1_pass_121 h (fun z34 h => ?_)
      refine r_mmax hx hb (hml.trans hl.1.symm) hown (hts _ (List.mem_cons_of_mem _ kw_995)) (hts _ (List.mem_cons_of_mem _ kw_993)) (hts _ (List.mem_cons_of_mem _ kw_19)) (hts _ (List.mem_cons_of_mem _ kw_994)) (Nat.le_of_ble_eq_true rfl) (Nat.le_of_ble_eq_true rfl) (Nat.zero_le _) (Nat.zero_le _) dX1_pass_122 h (fun z36 h => ?_)
      refine r_iast hx hb hK hP hS dX1_pass_125 h (fun M37 H locs h hP hS => ?_)
      refine r_iinc hx hb (fun z39 => [(3, .int z39), (0, .ref (adr G xl0)), (1, .ref (adr G xl1)), (2, .int zl2)]) dX1_pass_126 (by decide) hl (k := 3) rfl (by decide) (fun _ => rfl) h (fun z39 ls hl h => ?_)
      refine lv_goto (tgt := 83) hx hb dX1_pass_129 (by decide) ?_
      exact ih xl0 xl1 zl2 z39 _ _ _ _ hP hS (lv_sub hl [1, 2, 3, 0] rfl) h
set_option maxHeartbeats 4000000 in
set_option maxRecDepth 100000 in
theorem t_X1_pass_75 {p : Program} {l : Launch} {e : Env} {s : State} {m : MethodId} {args : Array Value} {below : List Frame} {meth : Method} {c : Code} {D : va_G} {G : Gt} {S : Sh} {post : Int → Mm → Prop} {k4 : Int → Int → Int → Int → Mm → Prop} (C : Cx p s m args meth c D G cX1_pass 5 (some .int) (cw_X1_pass :: gw) RX1) (hk4 : ∀ (y0 : Int) (y1 : Int) (y2 : Int32) (y3 : Int32) (M : Mm) (H : Heap) (locs : List Loc) (ls : Array Slot), Wd D G S M H → va_S (aG G) s.heap H locs → lv_has ls 5 [(0, .ref (adr G y0)), (1, .ref (adr G y1)), (2, .int y2), (3, .int y3)] → k4 y0 y1 y2.toInt y3.toInt M → W p l e RM_X1_pass s m args below meth c H locs 0 0 (MQ below (QI D G S post) args s 0 0 (aG G)) (F0 m 4 ls [])) : ∀ (xl0 : Int) (xl1 : Int) (zl2 : Int32) (zl3 : Int32) (M : Mm) (H : Heap) (locs : List Loc) (ls : Array Slot), Wd D G S M H → va_S (aG G) s.heap H locs → lv_has ls 5 [(0, .ref (adr G xl0)), (1, .ref (adr G xl1)), (2, .int zl2), (3, .int zl3)] → wp_X1_pass_75 S k4 post xl0 xl1 zl2.toInt zl3.toInt  M → W p l e RM_X1_pass s m args below meth c H locs 0 0 (MQ below (QI D G S post) args s 0 0 (aG G)) (F0 m 75 ls []) := by
  obtain ⟨hx, hb, hr, hlocks, hml, hown, hts, hK⟩ := id C
  intro xl0 xl1 zl2 zl3 M H locs ls hP hS hl h
  unfold wp_X1_pass_75 at h
  refine r_iinc hx hb (fun z41 => [(3, .int z41), (0, .ref (adr G xl0)), (1, .ref (adr G xl1)), (2, .int zl2)]) dX1_pass_75 (by decide) hl (k := 3) rfl (by decide) (fun _ => rfl) h (fun z41 ls hl h => ?_)
  refine lv_goto (tgt := 4) hx hb dX1_pass_78 (by decide) ?_
  exact hk4 xl0 xl1 zl2 z41 _ _ _ _ hP hS (lv_sub hl [1, 2, 3, 0] rfl) h
set_option maxHeartbeats 4000000 in
set_option maxRecDepth 100000 in
theorem t_X1_pass_4 {p : Program} {l : Launch} {e : Env} {s : State} {m : MethodId} {args : Array Value} {below : List Frame} {meth : Method} {c : Code} {D : va_G} {G : Gt} {S : Sh} {post : Int → Mm → Prop} (C : Cx p s m args meth c D G cX1_pass 5 (some .int) (cw_X1_pass :: gw) RX1) : ∀ (n : Nat) (xl0 : Int) (xl1 : Int) (zl2 : Int32) (zl3 : Int32) (M : Mm) (H : Heap) (locs : List Loc) (ls : Array Slot), Wd D G S M H → va_S (aG G) s.heap H locs → lv_has ls 5 [(0, .ref (adr G xl0)), (1, .ref (adr G xl1)), (2, .int zl2), (3, .int zl3)] → wp_X1_pass_4 S post n xl0 xl1 zl2.toInt zl3.toInt  M → W p l e RM_X1_pass s m args below meth c H locs 0 0 (MQ below (QI D G S post) args s 0 0 (aG G)) (F0 m 4 ls []) := by
  obtain ⟨hx, hb, hr, hlocks, hml, hown, hts, hK⟩ := id C
  intro n
  induction n with
  | zero => intro xl0 xl1 zl2 zl3 M H locs ls hP hS hl h; exact h.elim
  | succ n ih =>
    intro xl0 xl1 zl2 zl3 M H locs ls hP hS hl h
    unfold wp_X1_pass_4 at h
    refine lv_iload_n hx hb dX1_pass_4 rfl (lv_at hl 3 rfl) ?_
    refine lv_aload_n hx hb dX1_pass_5 rfl (lv_at hl 0 rfl) ?_
    refine r_getr (C := RX1) (T := TX1) (N := 3) hx hb hts (fun w h => List.mem_cons_of_mem _ (iX1 w h)) hown hK hP rfl (by decide) rfl 1 (by decide) (hts _ (List.mem_cons_of_mem _ kw_399)) (fun _ h9 => h9) dX1_pass_6 (by decide) h (fun x43 h => ?_)
    refine r_getiN (C := RX8) (T := TX8) (N := 19) hx hb hts (fun w h => List.mem_cons_of_mem _ (iX8 w h)) hown hK hP rfl (by decide) rfl 5 (by decide) (nw_18 hK) (fun _ h9 => h9) dX1_pass_9 (by decide) h (fun z45 h => ?_)
    refine r_icmp_ge (tgt := 81) hx hb dX1_pass_12 (by decide) h (fun h => ?_) (fun h => ?_)
    · refine r_iconst hx hb dX1_pass_81 (by decide) h (fun z47 h => ?_)
      refine lv_istore_n (lv' := [(3, .int z47), (0, .ref (adr G xl0)), (1, .ref (adr G xl1)), (2, .int zl2)]) hx hb dX1_pass_82 rfl hl (by decide) rfl (fun ls hl => ?_)
      obtain ⟨n9, h⟩ := h
      exact t_X1_pass_83 C n9 xl0 xl1 zl2 z47 _ _ _ _ hP hS (lv_sub hl [1, 2, 3, 0] rfl) h
    · refine lv_aload_n hx hb dX1_pass_15 rfl (lv_at hl 1 rfl) ?_
      refine r_getrN (C := RX5) (T := TX5) (N := 9) hx hb hts (fun w h => List.mem_cons_of_mem _ (iX5 w h)) hown hK hP rfl (by decide) rfl 7 (by decide) (nw_63 hK) (fun _ h9 => h9) dX1_pass_16 (by decide) h (fun x49 h => ?_)
      refine lv_iload_n hx hb dX1_pass_19 rfl (lv_at hl 3 rfl) ?_
      refine r_iald hx hb hK hP dX1_pass_20 h (fun z51 h => ?_)
      refine lv_istore (lv' := [(4, .int z51), (0, .ref (adr G xl0)), (1, .ref (adr G xl1)), (2, .int zl2), (3, .int zl3)]) hx hb dX1_pass_21 hl (by decide) rfl (fun ls hl => ?_)
      refine lv_aload_n hx hb dX1_pass_23 rfl (lv_at hl 2 rfl) ?_
      refine r_getrN (C := RX5) (T := TX5) (N := 9) hx hb hts (fun w h => List.mem_cons_of_mem _ (iX5 w h)) hown hK hP rfl (by decide) rfl 7 (by decide) (nw_63 hK) (fun _ h9 => h9) dX1_pass_24 (by decide) h (fun x53 h => ?_)
      refine lv_iload_n hx hb dX1_pass_27 rfl (lv_at hl 4 rfl) ?_
      refine r_sipush hx hb dX1_pass_28 (by decide) h (fun z55 h => ?_)
      refine lv_iload hx hb dX1_pass_31 (lv_at hl 0 rfl) ?_
      refine lv_aload_n hx hb dX1_pass_33 rfl (lv_at hl 1 rfl) ?_
      refine lv_aload_n hx hb dX1_pass_34 rfl (lv_at hl 2 rfl) ?_
      refine lv_iload_n hx hb dX1_pass_35 rfl (lv_at hl 4 rfl) ?_
      refine q_Vi hx hb hml hown hts hK hP hS (c_X1_turnsIn l D G S _ xl0 xl1 zl3 _ h.2) ⟨callB_of 2 hts (gw_good kw_930) rfl rfl rfl (hts _ (List.mem_cons_of_mem _ kw_10)) (hts _ (List.mem_cons_of_mem _ kw_927)) hd_X1_turnsIn ⟨Nat.le_of_ble_eq_true rfl, Nat.le_of_ble_eq_true rfl⟩, (hts _ (List.mem_cons_of_mem _ kw_929)), (hts _ (List.mem_cons_of_mem _ kp_34))⟩ h.1 (ci := 1) rfl (by decide) rfl hl.1 rfl (lv_room (Nat.le_of_ble_eq_true rfl)) dX1_pass_36 ⟨Nat.zero_le _, Nat.zero_le _⟩ (fun z58 M56 H locs h hP hS => ?_)
      refine r_iadd hx hb dX1_pass_39 h (fun z60 h => ?_)
      refine r_mmin hx hb (hml.trans hl.1.symm) hown (hts _ (List.mem_cons_of_mem _ kw_986)) (hts _ (List.mem_cons_of_mem _ kw_719)) (hts _ (List.mem_cons_of_mem _ kw_19)) (hts _ (List.mem_cons_of_mem _ kw_720)) (Nat.le_of_ble_eq_true rfl) (Nat.le_of_ble_eq_true rfl) (Nat.zero_le _) (Nat.zero_le _) dX1_pass_40 h (fun z62 h => ?_)
      refine r_iast hx hb hK hP hS dX1_pass_43 h (fun M63 H locs h hP hS => ?_)
      refine lv_iload hx hb dX1_pass_44 (lv_at hl 0 rfl) ?_
      refine lv_aload_n hx hb dX1_pass_46 rfl (lv_at hl 1 rfl) ?_
      refine r_getr (C := RX1) (T := TX1) (N := 3) hx hb hts (fun w h => List.mem_cons_of_mem _ (iX1 w h)) hown hK hP rfl (by decide) rfl 1 (by decide) (hts _ (List.mem_cons_of_mem _ kw_399)) (fun _ h9 => h9) dX1_pass_47 (by decide) h (fun x65 h => ?_)
      refine r_getiN (C := RX8) (T := TX8) (N := 19) hx hb hts (fun w h => List.mem_cons_of_mem _ (iX8 w h)) hown hK hP rfl (by decide) rfl 2 (by decide) (nw_7 hK) (fun _ h9 => h9) dX1_pass_50 (by decide) h (fun z67 h => ?_)
      refine r_icmp_ge (tgt := 75) hx hb dX1_pass_53 (by decide) h (fun h => ?_) (fun h => ?_)
      · exact t_X1_pass_75 C ih xl0 xl1 zl2 zl3 _ _ _ _ hP hS (lv_sub hl [1, 2, 3, 4] rfl) h
      · refine lv_aload_n hx hb dX1_pass_56 rfl (lv_at hl 2 rfl) ?_
        refine r_getrN (C := RX5) (T := TX5) (N := 9) hx hb hts (fun w h => List.mem_cons_of_mem _ (iX5 w h)) hown hK hP rfl (by decide) rfl 7 (by decide) (nw_63 hK) (fun _ h9 => h9) dX1_pass_57 (by decide) h (fun x69 h => ?_)
        refine lv_iload_n hx hb dX1_pass_60 rfl (lv_at hl 4 rfl) ?_
        refine r_iald hx hb hK hP dX1_pass_61 h (fun z71 h => ?_)
        refine lv_aload_n hx hb dX1_pass_62 rfl (lv_at hl 1 rfl) ?_
        refine r_getr (C := RX1) (T := TX1) (N := 3) hx hb hts (fun w h => List.mem_cons_of_mem _ (iX1 w h)) hown hK hP rfl (by decide) rfl 1 (by decide) (hts _ (List.mem_cons_of_mem _ kw_399)) (fun _ h9 => h9) dX1_pass_63 (by decide) h (fun x73 h => ?_)
        refine r_getiN (C := RX8) (T := TX8) (N := 19) hx hb hts (fun w h => List.mem_cons_of_mem _ (iX8 w h)) hown hK hP rfl (by decide) rfl 2 (by decide) (nw_7 hK) (fun _ h9 => h9) dX1_pass_66 (by decide) h (fun z75 h => ?_)
        refine r_icmp_lt (tgt := 75) hx hb dX1_pass_69 (by decide) h (fun h => ?_) (fun h => ?_)
        · exact t_X1_pass_75 C ih xl0 xl1 zl2 zl3 _ _ _ _ hP hS (lv_sub hl [1, 2, 3, 4] rfl) h
        · refine r_iinc hx hb (fun z77 => [(2, .int z77), (4, .int z51), (0, .ref (adr G xl0)), (1, .ref (adr G xl1)), (3, .int zl3)]) dX1_pass_72 (by decide) hl (k := 3) rfl (by decide) (fun _ => rfl) h (fun z77 ls hl h => ?_)
          exact t_X1_pass_75 C ih xl0 xl1 z77 zl3 _ _ _ _ hP hS (lv_sub hl [2, 3, 0, 4] rfl) h
set_option maxHeartbeats 4000000 in
set_option maxRecDepth 100000 in
theorem c_X1_pass (l : Launch) (D : va_G) (G : Gt) (S : Sh) (M : Mm) (xl0 : Int) (xl1 : Int) (post : Int → Mm → Prop) (h : wp_X1_pass S M xl0 xl1 post) : Met l yX1_pass (cw_X1_pass :: gw) RM_X1_pass (va_Pc [.ref (adr G xl0), .ref (adr G xl1)] (fun U => KN D G U ∧ Wd D G S M U.heap)) (QI D G S post) 0 0 (aG G) := by
  refine Met.ofW (cc := cX1_pass) (maxL := 5) (ret := (some .int)) (by decide) rfl ?_
  intro p e s m args below meth c s₁ B hml hv
  obtain ⟨rfl, hK, hP⟩ := hv
  have hx := B.exec
  have hb := B.bytes
  have hr := B.returns
  have hts := atoms_spec (ws := cw_X1_pass :: gw) B.pre
  have hown : s.vm.findClass RX1 = some m.cls := findClass_of_methodNamed B.named
  have hlocks := B.notSynchronized
  have hS : va_S (aG G) s.heap s.heap [] := va_S.rf
  have C : Cx p s m ([.ref (adr G xl0), .ref (adr G xl1)] : List Value).toArray meth c D G cX1_pass 5 (some .int) (cw_X1_pass :: gw) RX1 := ⟨hx, hb, hr, hlocks, hml, hown, hts, hK⟩
  have hl := lv_entry ([.ref (adr G xl0), .ref (adr G xl1)]) (n := 5) (Nat.le_of_ble_eq_true rfl)
  rw [lg_entry_eq]
  generalize (lg_sl ([.ref (adr G xl0), .ref (adr G xl1)]) ++ List.replicate (5 - (lg_sl ([.ref (adr G xl0), .ref (adr G xl1)])).length) Slot.unset).toArray = ls at hl ⊢
  have hl : lv_has ls 5 [(0, .ref (adr G xl0)), (1, .ref (adr G xl1))] := hl
  unfold wp_X1_pass at h
  refine r_iconst hx hb dX1_pass_0 (by decide) h (fun z79 h => ?_)
  refine lv_istore_n (lv' := [(2, .int z79), (0, .ref (adr G xl0)), (1, .ref (adr G xl1))]) hx hb dX1_pass_1 rfl hl (by decide) rfl (fun ls hl => ?_)
  refine r_iconst hx hb dX1_pass_2 (by decide) h (fun z81 h => ?_)
  refine lv_istore_n (lv' := [(3, .int z81), (2, .int z79), (0, .ref (adr G xl0)), (1, .ref (adr G xl1))]) hx hb dX1_pass_3 rfl hl (by decide) rfl (fun ls hl => ?_)
  obtain ⟨n9, h⟩ := h
  exact t_X1_pass_4 C n9 xl0 xl1 z79 z81 _ _ _ _ hP hS (lv_sub hl [2, 3, 1, 0] rfl) h
/-! TurningMilk.hour()I -/
abbrev RM_X11_hour : Room := { frames := 6, cells := 0, slots := 0, locals := 153 }
def cw_X11_hour : Cond := Cond.code yX11_hour cX11_hour 1 (Option.some FieldType.int)
theorem hd_X11_hour : yX11_hour.cls ≠ "java/lang/invoke/MethodHandle" ∧ yX11_hour.cls ≠ "java/lang/invoke/VarHandle" ∧ (parseMethodDescriptor yX11_hour.desc).map (fun d => d.parameters.length) = some 0 := by decide +kernel
theorem dX11_hour_0 : decode cX11_hour 0 = .ok (.aload_n 0, 1) := by decide +kernel
theorem dX11_hour_1 : decode cX11_hour 1 = .ok (.getfield 19, 3) := by decide +kernel
theorem dX11_hour_4 : decode cX11_hour 4 = .ok (.getfield 57, 3) := by decide +kernel
theorem dX11_hour_7 : decode cX11_hour 7 = .ok (.getfield 166, 3) := by decide +kernel
theorem dX11_hour_10 : decode cX11_hour 10 = .ok (.ifCond .eq 19, 3) := by decide +kernel
theorem dX11_hour_13 : decode cX11_hour 13 = .ok (.aload_n 0, 1) := by decide +kernel
theorem dX11_hour_14 : decode cX11_hour 14 = .ok (.getfield 19, 3) := by decide +kernel
theorem dX11_hour_17 : decode cX11_hour 17 = .ok (.getfield 133, 3) := by decide +kernel
theorem dX11_hour_20 : decode cX11_hour 20 = .ok (.getfield 252, 3) := by decide +kernel
theorem dX11_hour_23 : decode cX11_hour 23 = .ok (.sipush 999, 3) := by decide +kernel
theorem dX11_hour_26 : decode cX11_hour 26 = .ok (.if_icmp .lt 5, 3) := by decide +kernel
theorem dX11_hour_29 : decode cX11_hour 29 = .ok (.iconst (-1), 1) := by decide +kernel
theorem dX11_hour_30 : decode cX11_hour 30 = .ok (.ireturn, 1) := by decide +kernel
theorem dX11_hour_31 : decode cX11_hour 31 = .ok (.aload_n 0, 1) := by decide +kernel
theorem dX11_hour_32 : decode cX11_hour 32 = .ok (.invokevirtual 255, 3) := by decide +kernel
theorem dX11_hour_35 : decode cX11_hour 35 = .ok (.aload_n 0, 1) := by decide +kernel
theorem dX11_hour_36 : decode cX11_hour 36 = .ok (.getfield 73, 3) := by decide +kernel
theorem dX11_hour_39 : decode cX11_hour 39 = .ok (.aload_n 0, 1) := by decide +kernel
theorem dX11_hour_40 : decode cX11_hour 40 = .ok (.getfield 19, 3) := by decide +kernel
theorem dX11_hour_43 : decode cX11_hour 43 = .ok (.getfield 133, 3) := by decide +kernel
theorem dX11_hour_46 : decode cX11_hour 46 = .ok (.invokevirtual 258, 3) := by decide +kernel
theorem dX11_hour_49 : decode cX11_hour 49 = .ok (.ireturn, 1) := by decide +kernel
def wp_X11_hour (S : Sh) (M : Mm) (u0 : Int) (post : Int → Mm → Prop) : Prop := wGetR S M u0 11 1 fun v1 => wGetR S M v1 4 0 fun v3 => wGet S M v3 8 0 fun v5 => wIf (v5 = 0) (wC (-1) fun v7 => post v7 M) (wGetR S M u0 11 1 fun v9 => wGetR S M v9 4 1 fun v11 => wGet S M v11 5 0 fun v13 => wC 999 fun v15 => wIf (v13 < v15) (isK S u0 11 ∧ (wp_X11_keepPast S M u0 <| fun M17 => wGetR S M17 u0 11 11 fun v18 => wGetR S M17 u0 11 1 fun v20 => wGetR S M17 v20 4 1 fun v22 => isK S v18 1 ∧ (wp_X1_pass S M17 v18 v22 <| fun v25 M24 => post v25 M24))) (wC (-1) fun v27 => post v27 M))
set_option maxHeartbeats 4000000 in
set_option maxRecDepth 100000 in
theorem c_X11_hour (l : Launch) (D : va_G) (G : Gt) (S : Sh) (M : Mm) (xl0 : Int) (post : Int → Mm → Prop) (h : wp_X11_hour S M xl0 post) : Met l yX11_hour (cw_X11_hour :: gw) RM_X11_hour (va_Pc [.ref (adr G xl0)] (fun U => KN D G U ∧ Wd D G S M U.heap)) (QI D G S post) 0 0 (aG G) := by
  refine Met.ofW (cc := cX11_hour) (maxL := 1) (ret := (some .int)) (by decide) rfl ?_
  intro p e s m args below meth c s₁ B hml hv
  obtain ⟨rfl, hK, hP⟩ := hv
  have hx := B.exec
  have hb := B.bytes
  have hr := B.returns
  have hts := atoms_spec (ws := cw_X11_hour :: gw) B.pre
  have hown : s.vm.findClass RX11 = some m.cls := findClass_of_methodNamed B.named
  have hlocks := B.notSynchronized
  have hS : va_S (aG G) s.heap s.heap [] := va_S.rf
  have C : Cx p s m ([.ref (adr G xl0)] : List Value).toArray meth c D G cX11_hour 1 (some .int) (cw_X11_hour :: gw) RX11 := ⟨hx, hb, hr, hlocks, hml, hown, hts, hK⟩
  have hl := lv_entry ([.ref (adr G xl0)]) (n := 1) (Nat.le_of_ble_eq_true rfl)
  rw [lg_entry_eq]
  generalize (lg_sl ([.ref (adr G xl0)]) ++ List.replicate (1 - (lg_sl ([.ref (adr G xl0)])).length) Slot.unset).toArray = ls at hl ⊢
  have hl : lv_has ls 1 [(0, .ref (adr G xl0))] := hl
  unfold wp_X11_hour at h
  refine lv_aload_n hx hb dX11_hour_0 rfl (lv_at hl 0 rfl) ?_
  refine r_getr (C := RX11) (T := TX11) (N := 16) hx hb hts (fun w h => List.mem_cons_of_mem _ (iX11 w h)) hown hK hP rfl (by decide) rfl 1 (by decide) (hts _ (List.mem_cons_of_mem _ kw_492)) (fun _ h9 => h9) dX11_hour_1 (by decide) h (fun x2 h => ?_)
  refine r_getrN (C := RX4) (T := TX4) (N := 10) hx hb hts (fun w h => List.mem_cons_of_mem _ (iX4 w h)) hown hK hP rfl (by decide) rfl 0 (by decide) (nw_70 hK) (fun _ h9 => h9) dX11_hour_4 (by decide) h (fun x4 h => ?_)
  refine r_getiN (C := RX8) (T := TX8) (N := 19) hx hb hts (fun w h => List.mem_cons_of_mem _ (iX8 w h)) hown hK hP rfl (by decide) rfl 0 (by decide) (nw_4 hK) (fun _ h9 => h9) dX11_hour_7 (by decide) h (fun z6 h => ?_)
  refine r_if_eq (tgt := 29) hx hb dX11_hour_10 (by decide) h (fun h => ?_) (fun h => ?_)
  · refine r_iconst hx hb dX11_hour_29 (by decide) h (fun z8 h => ?_)
    exact r_iret hx hb hr hlocks hP hS dX11_hour_30 h
  · refine lv_aload_n hx hb dX11_hour_13 rfl (lv_at hl 0 rfl) ?_
    refine r_getr (C := RX11) (T := TX11) (N := 16) hx hb hts (fun w h => List.mem_cons_of_mem _ (iX11 w h)) hown hK hP rfl (by decide) rfl 1 (by decide) (hts _ (List.mem_cons_of_mem _ kw_492)) (fun _ h9 => h9) dX11_hour_14 (by decide) h (fun x10 h => ?_)
    refine r_getrN (C := RX4) (T := TX4) (N := 10) hx hb hts (fun w h => List.mem_cons_of_mem _ (iX4 w h)) hown hK hP rfl (by decide) rfl 1 (by decide) (nw_73 hK) (fun _ h9 => h9) dX11_hour_17 (by decide) h (fun x12 h => ?_)
    refine r_getiN (C := RX5) (T := TX5) (N := 9) hx hb hts (fun w h => List.mem_cons_of_mem _ (iX5 w h)) hown hK hP rfl (by decide) rfl 0 (by decide) (nw_49 hK) (fun _ h9 => h9) dX11_hour_20 (by decide) h (fun z14 h => ?_)
    refine r_sipush hx hb dX11_hour_23 (by decide) h (fun z16 h => ?_)
    refine r_icmp_lt (tgt := 31) hx hb dX11_hour_26 (by decide) h (fun h => ?_) (fun h => ?_)
    · refine lv_aload_n hx hb dX11_hour_31 rfl (lv_at hl 0 rfl) ?_
      refine q_Vv hx hb hml hown hts hK hP hS (c_X11_keepPast l D G S _ xl0 _ h.2) ⟨callB_of 0 hts (gw_good kw_921) rfl rfl rfl (hts _ (List.mem_cons_of_mem _ kw_1)) (hts _ (List.mem_cons_of_mem _ kw_918)) hd_X11_keepPast ⟨Nat.le_of_ble_eq_true rfl, Nat.le_of_ble_eq_true rfl⟩, (hts _ (List.mem_cons_of_mem _ kw_920)), (hts _ (List.mem_cons_of_mem _ kp_33))⟩ h.1 (ci := 11) rfl (by decide) rfl hl.1 rfl (lv_room (Nat.le_of_ble_eq_true rfl)) dX11_hour_32 ⟨Nat.zero_le _, Nat.zero_le _⟩ (fun M17 H locs h hP hS => ?_)
      refine lv_aload_n hx hb dX11_hour_35 rfl (lv_at hl 0 rfl) ?_
      refine r_getr (C := RX11) (T := TX11) (N := 16) hx hb hts (fun w h => List.mem_cons_of_mem _ (iX11 w h)) hown hK hP rfl (by decide) rfl 11 (by decide) (hts _ (List.mem_cons_of_mem _ kw_502)) (fun _ h9 => h9) dX11_hour_36 (by decide) h (fun x19 h => ?_)
      refine lv_aload_n hx hb dX11_hour_39 rfl (lv_at hl 0 rfl) ?_
      refine r_getr (C := RX11) (T := TX11) (N := 16) hx hb hts (fun w h => List.mem_cons_of_mem _ (iX11 w h)) hown hK hP rfl (by decide) rfl 1 (by decide) (hts _ (List.mem_cons_of_mem _ kw_492)) (fun _ h9 => h9) dX11_hour_40 (by decide) h (fun x21 h => ?_)
      refine r_getrN (C := RX4) (T := TX4) (N := 10) hx hb hts (fun w h => List.mem_cons_of_mem _ (iX4 w h)) hown hK hP rfl (by decide) rfl 1 (by decide) (nw_73 hK) (fun _ h9 => h9) dX11_hour_43 (by decide) h (fun x23 h => ?_)
      refine q_Vi hx hb hml hown hts hK hP hS (c_X1_pass l D G S _ x19 x23 _ h.2) ⟨callB_of 1 hts (gw_good kw_926) rfl rfl rfl (hts _ (List.mem_cons_of_mem _ kw_10)) (hts _ (List.mem_cons_of_mem _ kw_923)) hd_X1_pass ⟨Nat.le_of_ble_eq_true rfl, Nat.le_of_ble_eq_true rfl⟩, (hts _ (List.mem_cons_of_mem _ kw_924)), (hts _ (List.mem_cons_of_mem _ kw_925))⟩ h.1 (ci := 1) rfl (by decide) rfl hl.1 rfl (lv_room (Nat.le_of_ble_eq_true rfl)) dX11_hour_46 ⟨Nat.zero_le _, Nat.zero_le _⟩ (fun z26 M24 H locs h hP hS => ?_)
      exact r_iret hx hb hr hlocks hP hS dX11_hour_49 h
    · refine r_iconst hx hb dX11_hour_29 (by decide) h (fun z28 h => ?_)
      exact r_iret hx hb hr hlocks hP hS dX11_hour_30 h
/-! TurningMilk$State.canHoldMore(I)Z -/
abbrev RM_X5_canHoldMore : Room := { frames := 3, cells := 0, slots := 0, locals := 84 }
def cw_X5_canHoldMore : Cond := Cond.code yX5_canHoldMore cX5_canHoldMore 2 (Option.some FieldType.boolean)
theorem hd_X5_canHoldMore : yX5_canHoldMore.cls ≠ "java/lang/invoke/MethodHandle" ∧ yX5_canHoldMore.cls ≠ "java/lang/invoke/VarHandle" ∧ (parseMethodDescriptor yX5_canHoldMore.desc).map (fun d => d.parameters.length) = some 1 := by decide +kernel
theorem dX5_canHoldMore_0 : decode cX5_canHoldMore 0 = .ok (.aload_n 0, 1) := by decide +kernel
theorem dX5_canHoldMore_1 : decode cX5_canHoldMore 1 = .ok (.iload_n 1, 1) := by decide +kernel
theorem dX5_canHoldMore_2 : decode cX5_canHoldMore 2 = .ok (.invokevirtual 61, 3) := by decide +kernel
theorem dX5_canHoldMore_5 : decode cX5_canHoldMore 5 = .ok (.ifCond .eq 16, 3) := by decide +kernel
theorem dX5_canHoldMore_8 : decode cX5_canHoldMore 8 = .ok (.aload_n 0, 1) := by decide +kernel
theorem dX5_canHoldMore_9 : decode cX5_canHoldMore 9 = .ok (.iload_n 1, 1) := by decide +kernel
theorem dX5_canHoldMore_10 : decode cX5_canHoldMore 10 = .ok (.invokevirtual 65, 3) := by decide +kernel
theorem dX5_canHoldMore_13 : decode cX5_canHoldMore 13 = .ok (.iconst 2, 1) := by decide +kernel
theorem dX5_canHoldMore_14 : decode cX5_canHoldMore 14 = .ok (.if_icmp .ge 7, 3) := by decide +kernel
theorem dX5_canHoldMore_17 : decode cX5_canHoldMore 17 = .ok (.iconst 1, 1) := by decide +kernel
theorem dX5_canHoldMore_18 : decode cX5_canHoldMore 18 = .ok (.goto 4, 3) := by decide +kernel
theorem dX5_canHoldMore_21 : decode cX5_canHoldMore 21 = .ok (.iconst 0, 1) := by decide +kernel
theorem dX5_canHoldMore_22 : decode cX5_canHoldMore 22 = .ok (.ireturn, 1) := by decide +kernel
def wp_X5_canHoldMore (S : Sh) (M : Mm) (u0 : Int) (u1 : Int) (post : Int → Mm → Prop) : Prop := isK S u0 5 ∧ (wp_X5_isAtPlace S M u0 u1 <| fun v2 M1 => wIf (v2 = 0) (wC 0 fun v4 => (v4 = 0 ∨ v4 = 1) ∧ post v4 M1) (isK S u0 5 ∧ (wp_X5_howManyHeld S M1 u0 u1 <| fun v7 M6 => wC 2 fun v9 => wIf (v9 ≤ v7) (wC 0 fun v11 => (v11 = 0 ∨ v11 = 1) ∧ post v11 M6) (wC 1 fun v13 => (v13 = 0 ∨ v13 = 1) ∧ post v13 M6))))
set_option maxHeartbeats 4000000 in
set_option maxRecDepth 100000 in
theorem c_X5_canHoldMore (l : Launch) (D : va_G) (G : Gt) (S : Sh) (M : Mm) (xl0 : Int) (zl1 : Int32) (post : Int → Mm → Prop) (h : wp_X5_canHoldMore S M xl0 zl1.toInt post) : Met l yX5_canHoldMore (cw_X5_canHoldMore :: gw) RM_X5_canHoldMore (va_Pc [.ref (adr G xl0), .int zl1] (fun U => KN D G U ∧ Wd D G S M U.heap)) (QI D G S post) 0 0 (aG G) := by
  refine Met.ofW (cc := cX5_canHoldMore) (maxL := 2) (ret := (some .boolean)) (by decide) rfl ?_
  intro p e s m args below meth c s₁ B hml hv
  obtain ⟨rfl, hK, hP⟩ := hv
  have hx := B.exec
  have hb := B.bytes
  have hr := B.returns
  have hts := atoms_spec (ws := cw_X5_canHoldMore :: gw) B.pre
  have hown : s.vm.findClass RX5 = some m.cls := findClass_of_methodNamed B.named
  have hlocks := B.notSynchronized
  have hS : va_S (aG G) s.heap s.heap [] := va_S.rf
  have C : Cx p s m ([.ref (adr G xl0), .int zl1] : List Value).toArray meth c D G cX5_canHoldMore 2 (some .boolean) (cw_X5_canHoldMore :: gw) RX5 := ⟨hx, hb, hr, hlocks, hml, hown, hts, hK⟩
  have hl := lv_entry ([.ref (adr G xl0), .int zl1]) (n := 2) (Nat.le_of_ble_eq_true rfl)
  rw [lg_entry_eq]
  generalize (lg_sl ([.ref (adr G xl0), .int zl1]) ++ List.replicate (2 - (lg_sl ([.ref (adr G xl0), .int zl1])).length) Slot.unset).toArray = ls at hl ⊢
  have hl : lv_has ls 2 [(0, .ref (adr G xl0)), (1, .int zl1)] := hl
  unfold wp_X5_canHoldMore at h
  refine lv_aload_n hx hb dX5_canHoldMore_0 rfl (lv_at hl 0 rfl) ?_
  refine lv_iload_n hx hb dX5_canHoldMore_1 rfl (lv_at hl 1 rfl) ?_
  refine q_Vi hx hb hml hown hts hK hP hS (c_X5_isAtPlace l D G S _ xl0 zl1 _ h.2) ⟨callB_of 1 hts (gw_good kw_951) rfl rfl rfl (hts _ (List.mem_cons_of_mem _ kw_5)) (hts _ (List.mem_cons_of_mem _ kw_1009)) hd_X5_isAtPlace ⟨Nat.le_of_ble_eq_true rfl, Nat.le_of_ble_eq_true rfl⟩, (hts _ (List.mem_cons_of_mem _ kw_949)), (hts _ (List.mem_cons_of_mem _ kw_950))⟩ h.1 (ci := 5) rfl (by decide) rfl hl.1 rfl (lv_room (Nat.le_of_ble_eq_true rfl)) dX5_canHoldMore_2 ⟨Nat.zero_le _, Nat.zero_le _⟩ (fun z3 M1 H locs h hP hS => ?_)
  refine r_if_eq (tgt := 21) hx hb dX5_canHoldMore_5 (by decide) h (fun h => ?_) (fun h => ?_)
  · refine r_iconst hx hb dX5_canHoldMore_21 (by decide) h (fun z5 h => ?_)
    exact r_zret hx hb hr hlocks hP hS dX5_canHoldMore_22 h
  · refine lv_aload_n hx hb dX5_canHoldMore_8 rfl (lv_at hl 0 rfl) ?_
    refine lv_iload_n hx hb dX5_canHoldMore_9 rfl (lv_at hl 1 rfl) ?_
    refine q_Vi hx hb hml hown hts hK hP hS (c_X5_howManyHeld l D G S _ xl0 zl1 _ h.2) ⟨callB_of 1 hts (gw_good kw_955) rfl rfl rfl (hts _ (List.mem_cons_of_mem _ kw_5)) (hts _ (List.mem_cons_of_mem _ kw_1010)) hd_X5_howManyHeld ⟨Nat.le_of_ble_eq_true rfl, Nat.le_of_ble_eq_true rfl⟩, (hts _ (List.mem_cons_of_mem _ kw_953)), (hts _ (List.mem_cons_of_mem _ kw_954))⟩ h.1 (ci := 5) rfl (by decide) rfl hl.1 rfl (lv_room (Nat.le_of_ble_eq_true rfl)) dX5_canHoldMore_10 ⟨Nat.zero_le _, Nat.zero_le _⟩ (fun z8 M6 H locs h hP hS => ?_)
    refine r_iconst hx hb dX5_canHoldMore_13 (by decide) h (fun z10 h => ?_)
    refine r_icmp_ge (tgt := 21) hx hb dX5_canHoldMore_14 (by decide) h (fun h => ?_) (fun h => ?_)
    · refine r_iconst hx hb dX5_canHoldMore_21 (by decide) h (fun z12 h => ?_)
      exact r_zret hx hb hr hlocks hP hS dX5_canHoldMore_22 h
    · refine r_iconst hx hb dX5_canHoldMore_17 (by decide) h (fun z14 h => ?_)
      refine lv_goto (tgt := 22) hx hb dX5_canHoldMore_18 (by decide) ?_
      exact r_zret hx hb hr hlocks hP hS dX5_canHoldMore_22 h
/-! TurningMilk$State.canTake(II)Z -/
abbrev RM_X5_canTake : Room := { frames := 4, cells := 0, slots := 0, locals := 105 }
def cw_X5_canTake : Cond := Cond.code yX5_canTake cX5_canTake 3 (Option.some FieldType.boolean)
theorem hd_X5_canTake : yX5_canTake.cls ≠ "java/lang/invoke/MethodHandle" ∧ yX5_canTake.cls ≠ "java/lang/invoke/VarHandle" ∧ (parseMethodDescriptor yX5_canTake.desc).map (fun d => d.parameters.length) = some 2 := by decide +kernel
theorem dX5_canTake_0 : decode cX5_canTake 0 = .ok (.aload_n 0, 1) := by decide +kernel
theorem dX5_canTake_1 : decode cX5_canTake 1 = .ok (.iload_n 2, 1) := by decide +kernel
theorem dX5_canTake_2 : decode cX5_canTake 2 = .ok (.invokevirtual 68, 3) := by decide +kernel
theorem dX5_canTake_5 : decode cX5_canTake 5 = .ok (.ifCond .eq 30, 3) := by decide +kernel
theorem dX5_canTake_8 : decode cX5_canTake 8 = .ok (.aload_n 0, 1) := by decide +kernel
theorem dX5_canTake_9 : decode cX5_canTake 9 = .ok (.getfield 21, 3) := by decide +kernel
theorem dX5_canTake_12 : decode cX5_canTake 12 = .ok (.iload_n 2, 1) := by decide +kernel
theorem dX5_canTake_13 : decode cX5_canTake 13 = .ok (.iaload, 1) := by decide +kernel
theorem dX5_canTake_14 : decode cX5_canTake 14 = .ok (.aload_n 0, 1) := by decide +kernel
theorem dX5_canTake_15 : decode cX5_canTake 15 = .ok (.getfield 9, 3) := by decide +kernel
theorem dX5_canTake_18 : decode cX5_canTake 18 = .ok (.iload_n 1, 1) := by decide +kernel
theorem dX5_canTake_19 : decode cX5_canTake 19 = .ok (.iaload, 1) := by decide +kernel
theorem dX5_canTake_20 : decode cX5_canTake 20 = .ok (.if_icmp .ne 15, 3) := by decide +kernel
theorem dX5_canTake_23 : decode cX5_canTake 23 = .ok (.aload_n 0, 1) := by decide +kernel
theorem dX5_canTake_24 : decode cX5_canTake 24 = .ok (.iload_n 1, 1) := by decide +kernel
theorem dX5_canTake_25 : decode cX5_canTake 25 = .ok (.invokevirtual 71, 3) := by decide +kernel
theorem dX5_canTake_28 : decode cX5_canTake 28 = .ok (.ifCond .eq 7, 3) := by decide +kernel
theorem dX5_canTake_31 : decode cX5_canTake 31 = .ok (.iconst 1, 1) := by decide +kernel
theorem dX5_canTake_32 : decode cX5_canTake 32 = .ok (.goto 4, 3) := by decide +kernel
theorem dX5_canTake_35 : decode cX5_canTake 35 = .ok (.iconst 0, 1) := by decide +kernel
theorem dX5_canTake_36 : decode cX5_canTake 36 = .ok (.ireturn, 1) := by decide +kernel
def wp_X5_canTake (S : Sh) (M : Mm) (u0 : Int) (u1 : Int) (u2 : Int) (post : Int → Mm → Prop) : Prop := isK S u0 5 ∧ (wp_X5_stands S M u0 u2 <| fun v2 M1 => wIf (v2 = 0) (wC 0 fun v4 => (v4 = 0 ∨ v4 = 1) ∧ post v4 M1) (wGetR S M1 u0 5 5 fun v6 => wLd S M1 v6 14 u2 fun v8 => wGetR S M1 u0 5 2 fun v10 => wLd S M1 v10 14 u1 fun v12 => wIf (¬ v8 = v12) (wC 0 fun v14 => (v14 = 0 ∨ v14 = 1) ∧ post v14 M1) (isK S u0 5 ∧ (wp_X5_canHoldMore S M1 u0 u1 <| fun v17 M16 => wIf (v17 = 0) (wC 0 fun v19 => (v19 = 0 ∨ v19 = 1) ∧ post v19 M16) (wC 1 fun v21 => (v21 = 0 ∨ v21 = 1) ∧ post v21 M16)))))
set_option maxHeartbeats 4000000 in
set_option maxRecDepth 100000 in
theorem c_X5_canTake (l : Launch) (D : va_G) (G : Gt) (S : Sh) (M : Mm) (xl0 : Int) (zl1 : Int32) (zl2 : Int32) (post : Int → Mm → Prop) (h : wp_X5_canTake S M xl0 zl1.toInt zl2.toInt post) : Met l yX5_canTake (cw_X5_canTake :: gw) RM_X5_canTake (va_Pc [.ref (adr G xl0), .int zl1, .int zl2] (fun U => KN D G U ∧ Wd D G S M U.heap)) (QI D G S post) 0 0 (aG G) := by
  refine Met.ofW (cc := cX5_canTake) (maxL := 3) (ret := (some .boolean)) (by decide) rfl ?_
  intro p e s m args below meth c s₁ B hml hv
  obtain ⟨rfl, hK, hP⟩ := hv
  have hx := B.exec
  have hb := B.bytes
  have hr := B.returns
  have hts := atoms_spec (ws := cw_X5_canTake :: gw) B.pre
  have hown : s.vm.findClass RX5 = some m.cls := findClass_of_methodNamed B.named
  have hlocks := B.notSynchronized
  have hS : va_S (aG G) s.heap s.heap [] := va_S.rf
  have C : Cx p s m ([.ref (adr G xl0), .int zl1, .int zl2] : List Value).toArray meth c D G cX5_canTake 3 (some .boolean) (cw_X5_canTake :: gw) RX5 := ⟨hx, hb, hr, hlocks, hml, hown, hts, hK⟩
  have hl := lv_entry ([.ref (adr G xl0), .int zl1, .int zl2]) (n := 3) (Nat.le_of_ble_eq_true rfl)
  rw [lg_entry_eq]
  generalize (lg_sl ([.ref (adr G xl0), .int zl1, .int zl2]) ++ List.replicate (3 - (lg_sl ([.ref (adr G xl0), .int zl1, .int zl2])).length) Slot.unset).toArray = ls at hl ⊢
  have hl : lv_has ls 3 [(0, .ref (adr G xl0)), (1, .int zl1), (2, .int zl2)] := hl
  unfold wp_X5_canTake at h
  refine lv_aload_n hx hb dX5_canTake_0 rfl (lv_at hl 0 rfl) ?_
  refine lv_iload_n hx hb dX5_canTake_1 rfl (lv_at hl 2 rfl) ?_
  refine q_Vi hx hb hml hown hts hK hP hS (c_X5_stands l D G S _ xl0 zl2 _ h.2) ⟨callB_of 1 hts (gw_good kw_934) rfl rfl rfl (hts _ (List.mem_cons_of_mem _ kw_5)) (hts _ (List.mem_cons_of_mem _ kw_1004)) hd_X5_stands ⟨Nat.le_of_ble_eq_true rfl, Nat.le_of_ble_eq_true rfl⟩, (hts _ (List.mem_cons_of_mem _ kw_932)), (hts _ (List.mem_cons_of_mem _ kw_933))⟩ h.1 (ci := 5) rfl (by decide) rfl hl.1 rfl (lv_room (Nat.le_of_ble_eq_true rfl)) dX5_canTake_2 ⟨Nat.zero_le _, Nat.zero_le _⟩ (fun z3 M1 H locs h hP hS => ?_)
  refine r_if_eq (tgt := 35) hx hb dX5_canTake_5 (by decide) h (fun h => ?_) (fun h => ?_)
  · refine r_iconst hx hb dX5_canTake_35 (by decide) h (fun z5 h => ?_)
    exact r_zret hx hb hr hlocks hP hS dX5_canTake_36 h
  · refine lv_aload_n hx hb dX5_canTake_8 rfl (lv_at hl 0 rfl) ?_
    refine r_getr (C := RX5) (T := TX5) (N := 9) hx hb hts (fun w h => List.mem_cons_of_mem _ (iX5 w h)) hown hK hP rfl (by decide) rfl 5 (by decide) (hts _ (List.mem_cons_of_mem _ kw_197)) (fun _ h9 => h9) dX5_canTake_9 (by decide) h (fun x7 h => ?_)
    refine lv_iload_n hx hb dX5_canTake_12 rfl (lv_at hl 2 rfl) ?_
    refine r_iald hx hb hK hP dX5_canTake_13 h (fun z9 h => ?_)
    refine lv_aload_n hx hb dX5_canTake_14 rfl (lv_at hl 0 rfl) ?_
    refine r_getr (C := RX5) (T := TX5) (N := 9) hx hb hts (fun w h => List.mem_cons_of_mem _ (iX5 w h)) hown hK hP rfl (by decide) rfl 2 (by decide) (hts _ (List.mem_cons_of_mem _ kw_186)) (fun _ h9 => h9) dX5_canTake_15 (by decide) h (fun x11 h => ?_)
    refine lv_iload_n hx hb dX5_canTake_18 rfl (lv_at hl 1 rfl) ?_
    refine r_iald hx hb hK hP dX5_canTake_19 h (fun z13 h => ?_)
    refine r_icmp_ne (tgt := 35) hx hb dX5_canTake_20 (by decide) h (fun h => ?_) (fun h => ?_)
    · refine r_iconst hx hb dX5_canTake_35 (by decide) h (fun z15 h => ?_)
      exact r_zret hx hb hr hlocks hP hS dX5_canTake_36 h
    · refine lv_aload_n hx hb dX5_canTake_23 rfl (lv_at hl 0 rfl) ?_
      refine lv_iload_n hx hb dX5_canTake_24 rfl (lv_at hl 1 rfl) ?_
      refine q_Vi hx hb hml hown hts hK hP hS (c_X5_canHoldMore l D G S _ xl0 zl1 _ h.2) ⟨callB_of 1 hts (gw_good kw_1008) rfl rfl rfl (hts _ (List.mem_cons_of_mem _ kw_5)) (hts _ (List.mem_cons_of_mem _ kw_1005)) hd_X5_canHoldMore ⟨Nat.le_of_ble_eq_true rfl, Nat.le_of_ble_eq_true rfl⟩, (hts _ (List.mem_cons_of_mem _ kw_1007)), (hts _ (List.mem_cons_of_mem _ kp_37))⟩ h.1 (ci := 5) rfl (by decide) rfl hl.1 rfl (lv_room (Nat.le_of_ble_eq_true rfl)) dX5_canTake_25 ⟨Nat.zero_le _, Nat.zero_le _⟩ (fun z18 M16 H locs h hP hS => ?_)
      refine r_if_eq (tgt := 35) hx hb dX5_canTake_28 (by decide) h (fun h => ?_) (fun h => ?_)
      · refine r_iconst hx hb dX5_canTake_35 (by decide) h (fun z20 h => ?_)
        exact r_zret hx hb hr hlocks hP hS dX5_canTake_36 h
      · refine r_iconst hx hb dX5_canTake_31 (by decide) h (fun z22 h => ?_)
        refine lv_goto (tgt := 36) hx hb dX5_canTake_32 (by decide) ?_
        exact r_zret hx hb hr hlocks hP hS dX5_canTake_36 h
/-! TurningMilk$State.giveTo(II)V -/
abbrev RM_X5_giveTo : Room := { frames := 1, cells := 0, slots := 0, locals := 40 }
def cw_X5_giveTo : Cond := Cond.code yX5_giveTo cX5_giveTo 3 (Option.none : Option FieldType)
theorem hd_X5_giveTo : yX5_giveTo.cls ≠ "java/lang/invoke/MethodHandle" ∧ yX5_giveTo.cls ≠ "java/lang/invoke/VarHandle" ∧ (parseMethodDescriptor yX5_giveTo.desc).map (fun d => d.parameters.length) = some 2 := by decide +kernel
theorem dX5_giveTo_0 : decode cX5_giveTo 0 = .ok (.aload_n 0, 1) := by decide +kernel
theorem dX5_giveTo_1 : decode cX5_giveTo 1 = .ok (.getfield 24, 3) := by decide +kernel
theorem dX5_giveTo_4 : decode cX5_giveTo 4 = .ok (.iload_n 2, 1) := by decide +kernel
theorem dX5_giveTo_5 : decode cX5_giveTo 5 = .ok (.iload_n 1, 1) := by decide +kernel
theorem dX5_giveTo_6 : decode cX5_giveTo 6 = .ok (.iastore, 1) := by decide +kernel
theorem dX5_giveTo_7 : decode cX5_giveTo 7 = .ok (.aload_n 0, 1) := by decide +kernel
theorem dX5_giveTo_8 : decode cX5_giveTo 8 = .ok (.getfield 21, 3) := by decide +kernel
theorem dX5_giveTo_11 : decode cX5_giveTo 11 = .ok (.iload_n 2, 1) := by decide +kernel
theorem dX5_giveTo_12 : decode cX5_giveTo 12 = .ok (.iconst (-1), 1) := by decide +kernel
theorem dX5_giveTo_13 : decode cX5_giveTo 13 = .ok (.iastore, 1) := by decide +kernel
theorem dX5_giveTo_14 : decode cX5_giveTo 14 = .ok (.return_, 1) := by decide +kernel
def wp_X5_giveTo (S : Sh) (M : Mm) (u0 : Int) (u1 : Int) (u2 : Int) (post : Mm → Prop) : Prop := wGetR S M u0 5 6 fun v1 => wSt S M v1 14 u2 u1 fun M3 => wGetR S M3 u0 5 5 fun v4 => wC (-1) fun v6 => wSt S M3 v4 14 u2 v6 fun M8 => post M8
set_option maxHeartbeats 4000000 in
set_option maxRecDepth 100000 in
theorem c_X5_giveTo (l : Launch) (D : va_G) (G : Gt) (S : Sh) (M : Mm) (xl0 : Int) (zl1 : Int32) (zl2 : Int32) (post : Mm → Prop) (h : wp_X5_giveTo S M xl0 zl1.toInt zl2.toInt post) : Met l yX5_giveTo (cw_X5_giveTo :: gw) RM_X5_giveTo (va_Pc [.ref (adr G xl0), .int zl1, .int zl2] (fun U => KN D G U ∧ Wd D G S M U.heap)) (QV D G S post) 0 0 (aG G) := by
  refine Met.ofW (cc := cX5_giveTo) (maxL := 3) (ret := none) (by decide) rfl ?_
  intro p e s m args below meth c s₁ B hml hv
  obtain ⟨rfl, hK, hP⟩ := hv
  have hx := B.exec
  have hb := B.bytes
  have hr := B.returns
  have hts := atoms_spec (ws := cw_X5_giveTo :: gw) B.pre
  have hown : s.vm.findClass RX5 = some m.cls := findClass_of_methodNamed B.named
  have hlocks := B.notSynchronized
  have hS : va_S (aG G) s.heap s.heap [] := va_S.rf
  have C : Cx p s m ([.ref (adr G xl0), .int zl1, .int zl2] : List Value).toArray meth c D G cX5_giveTo 3 none (cw_X5_giveTo :: gw) RX5 := ⟨hx, hb, hr, hlocks, hml, hown, hts, hK⟩
  have hl := lv_entry ([.ref (adr G xl0), .int zl1, .int zl2]) (n := 3) (Nat.le_of_ble_eq_true rfl)
  rw [lg_entry_eq]
  generalize (lg_sl ([.ref (adr G xl0), .int zl1, .int zl2]) ++ List.replicate (3 - (lg_sl ([.ref (adr G xl0), .int zl1, .int zl2])).length) Slot.unset).toArray = ls at hl ⊢
  have hl : lv_has ls 3 [(0, .ref (adr G xl0)), (1, .int zl1), (2, .int zl2)] := hl
  unfold wp_X5_giveTo at h
  refine lv_aload_n hx hb dX5_giveTo_0 rfl (lv_at hl 0 rfl) ?_
  refine r_getr (C := RX5) (T := TX5) (N := 9) hx hb hts (fun w h => List.mem_cons_of_mem _ (iX5 w h)) hown hK hP rfl (by decide) rfl 6 (by decide) (hts _ (List.mem_cons_of_mem _ kw_200)) (fun _ h9 => h9) dX5_giveTo_1 (by decide) h (fun x2 h => ?_)
  refine lv_iload_n hx hb dX5_giveTo_4 rfl (lv_at hl 2 rfl) ?_
  refine lv_iload_n hx hb dX5_giveTo_5 rfl (lv_at hl 1 rfl) ?_
  refine r_iast hx hb hK hP hS dX5_giveTo_6 h (fun M3 H locs h hP hS => ?_)
  refine lv_aload_n hx hb dX5_giveTo_7 rfl (lv_at hl 0 rfl) ?_
  refine r_getr (C := RX5) (T := TX5) (N := 9) hx hb hts (fun w h => List.mem_cons_of_mem _ (iX5 w h)) hown hK hP rfl (by decide) rfl 5 (by decide) (hts _ (List.mem_cons_of_mem _ kw_197)) (fun _ h9 => h9) dX5_giveTo_8 (by decide) h (fun x5 h => ?_)
  refine lv_iload_n hx hb dX5_giveTo_11 rfl (lv_at hl 2 rfl) ?_
  refine r_iconst hx hb dX5_giveTo_12 (by decide) h (fun z7 h => ?_)
  refine r_iast hx hb hK hP hS dX5_giveTo_13 h (fun M8 H locs h hP hS => ?_)
  exact r_vret hx hb hr hlocks hP hS dX5_giveTo_14 h
/-! TurningMilk.take(II)I -/
abbrev RM_X11_take : Room := { frames := 5, cells := 0, slots := 0, locals := 127 }
def cw_X11_take : Cond := Cond.code yX11_take cX11_take 3 (Option.some FieldType.int)
theorem hd_X11_take : yX11_take.cls ≠ "java/lang/invoke/MethodHandle" ∧ yX11_take.cls ≠ "java/lang/invoke/VarHandle" ∧ (parseMethodDescriptor yX11_take.desc).map (fun d => d.parameters.length) = some 2 := by decide +kernel
theorem dX11_take_0 : decode cX11_take 0 = .ok (.aload_n 0, 1) := by decide +kernel
theorem dX11_take_1 : decode cX11_take 1 = .ok (.iload_n 1, 1) := by decide +kernel
theorem dX11_take_2 : decode cX11_take 2 = .ok (.invokevirtual 181, 3) := by decide +kernel
theorem dX11_take_5 : decode cX11_take 5 = .ok (.ifCond .eq 26, 3) := by decide +kernel
theorem dX11_take_8 : decode cX11_take 8 = .ok (.aload_n 0, 1) := by decide +kernel
theorem dX11_take_9 : decode cX11_take 9 = .ok (.iload_n 2, 1) := by decide +kernel
theorem dX11_take_10 : decode cX11_take 10 = .ok (.invokevirtual 175, 3) := by decide +kernel
theorem dX11_take_13 : decode cX11_take 13 = .ok (.ifCond .eq 18, 3) := by decide +kernel
theorem dX11_take_16 : decode cX11_take 16 = .ok (.aload_n 0, 1) := by decide +kernel
theorem dX11_take_17 : decode cX11_take 17 = .ok (.getfield 19, 3) := by decide +kernel
theorem dX11_take_20 : decode cX11_take 20 = .ok (.getfield 133, 3) := by decide +kernel
theorem dX11_take_23 : decode cX11_take 23 = .ok (.iload_n 1, 1) := by decide +kernel
theorem dX11_take_24 : decode cX11_take 24 = .ok (.iload_n 2, 1) := by decide +kernel
theorem dX11_take_25 : decode cX11_take 25 = .ok (.invokevirtual 262, 3) := by decide +kernel
theorem dX11_take_28 : decode cX11_take 28 = .ok (.ifCond .ne 5, 3) := by decide +kernel
theorem dX11_take_31 : decode cX11_take 31 = .ok (.iconst (-1), 1) := by decide +kernel
theorem dX11_take_32 : decode cX11_take 32 = .ok (.ireturn, 1) := by decide +kernel
theorem dX11_take_33 : decode cX11_take 33 = .ok (.aload_n 0, 1) := by decide +kernel
theorem dX11_take_34 : decode cX11_take 34 = .ok (.invokevirtual 255, 3) := by decide +kernel
theorem dX11_take_37 : decode cX11_take 37 = .ok (.aload_n 0, 1) := by decide +kernel
theorem dX11_take_38 : decode cX11_take 38 = .ok (.getfield 19, 3) := by decide +kernel
theorem dX11_take_41 : decode cX11_take 41 = .ok (.getfield 133, 3) := by decide +kernel
theorem dX11_take_44 : decode cX11_take 44 = .ok (.iload_n 1, 1) := by decide +kernel
theorem dX11_take_45 : decode cX11_take 45 = .ok (.iload_n 2, 1) := by decide +kernel
theorem dX11_take_46 : decode cX11_take 46 = .ok (.invokevirtual 265, 3) := by decide +kernel
theorem dX11_take_49 : decode cX11_take 49 = .ok (.aload_n 0, 1) := by decide +kernel
theorem dX11_take_50 : decode cX11_take 50 = .ok (.getfield 19, 3) := by decide +kernel
theorem dX11_take_53 : decode cX11_take 53 = .ok (.getfield 133, 3) := by decide +kernel
theorem dX11_take_56 : decode cX11_take 56 = .ok (.iload_n 1, 1) := by decide +kernel
theorem dX11_take_57 : decode cX11_take 57 = .ok (.invokevirtual 193, 3) := by decide +kernel
theorem dX11_take_60 : decode cX11_take 60 = .ok (.ireturn, 1) := by decide +kernel
def wp_X11_take (S : Sh) (M : Mm) (u0 : Int) (u1 : Int) (u2 : Int) (post : Int → Mm → Prop) : Prop := isK S u0 11 ∧ (wp_X11_isHand S M u0 u1 <| fun v2 M1 => wIf (v2 = 0) (wC (-1) fun v4 => post v4 M1) (isK S u0 11 ∧ (wp_X11_isJug S M1 u0 u2 <| fun v7 M6 => wIf (v7 = 0) (wC (-1) fun v9 => post v9 M6) (wGetR S M6 u0 11 1 fun v11 => wGetR S M6 v11 4 1 fun v13 => isK S v13 5 ∧ (wp_X5_canTake S M6 v13 u1 u2 <| fun v16 M15 => wIf (¬ v16 = 0) (isK S u0 11 ∧ (wp_X11_keepPast S M15 u0 <| fun M18 => wGetR S M18 u0 11 1 fun v19 => wGetR S M18 v19 4 1 fun v21 => isK S v21 5 ∧ (wp_X5_giveTo S M18 v21 u1 u2 <| fun M23 => wGetR S M23 u0 11 1 fun v24 => wGetR S M23 v24 4 1 fun v26 => isK S v26 5 ∧ (wp_X5_heldBits S M23 v26 u1 <| fun v29 M28 => post v29 M28)))) (wC (-1) fun v31 => post v31 M15))))))
set_option maxHeartbeats 4000000 in
set_option maxRecDepth 100000 in
theorem c_X11_take (l : Launch) (D : va_G) (G : Gt) (S : Sh) (M : Mm) (xl0 : Int) (zl1 : Int32) (zl2 : Int32) (post : Int → Mm → Prop) (h : wp_X11_take S M xl0 zl1.toInt zl2.toInt post) : Met l yX11_take (cw_X11_take :: gw) RM_X11_take (va_Pc [.ref (adr G xl0), .int zl1, .int zl2] (fun U => KN D G U ∧ Wd D G S M U.heap)) (QI D G S post) 0 0 (aG G) := by
  refine Met.ofW (cc := cX11_take) (maxL := 3) (ret := (some .int)) (by decide) rfl ?_
  intro p e s m args below meth c s₁ B hml hv
  obtain ⟨rfl, hK, hP⟩ := hv
  have hx := B.exec
  have hb := B.bytes
  have hr := B.returns
  have hts := atoms_spec (ws := cw_X11_take :: gw) B.pre
  have hown : s.vm.findClass RX11 = some m.cls := findClass_of_methodNamed B.named
  have hlocks := B.notSynchronized
  have hS : va_S (aG G) s.heap s.heap [] := va_S.rf
  have C : Cx p s m ([.ref (adr G xl0), .int zl1, .int zl2] : List Value).toArray meth c D G cX11_take 3 (some .int) (cw_X11_take :: gw) RX11 := ⟨hx, hb, hr, hlocks, hml, hown, hts, hK⟩
  have hl := lv_entry ([.ref (adr G xl0), .int zl1, .int zl2]) (n := 3) (Nat.le_of_ble_eq_true rfl)
  rw [lg_entry_eq]
  generalize (lg_sl ([.ref (adr G xl0), .int zl1, .int zl2]) ++ List.replicate (3 - (lg_sl ([.ref (adr G xl0), .int zl1, .int zl2])).length) Slot.unset).toArray = ls at hl ⊢
  have hl : lv_has ls 3 [(0, .ref (adr G xl0)), (1, .int zl1), (2, .int zl2)] := hl
  unfold wp_X11_take at h
  refine lv_aload_n hx hb dX11_take_0 rfl (lv_at hl 0 rfl) ?_
  refine lv_iload_n hx hb dX11_take_1 rfl (lv_at hl 1 rfl) ?_
  refine q_Vi hx hb hml hown hts hK hP hS (c_X11_isHand l D G S _ xl0 zl1 _ h.2) ⟨callB_of 1 hts (gw_good kw_881) rfl rfl rfl (hts _ (List.mem_cons_of_mem _ kw_1)) (hts _ (List.mem_cons_of_mem _ kw_878)) hd_X11_isHand ⟨Nat.le_of_ble_eq_true rfl, Nat.le_of_ble_eq_true rfl⟩, (hts _ (List.mem_cons_of_mem _ kw_880)), (hts _ (List.mem_cons_of_mem _ kp_29))⟩ h.1 (ci := 11) rfl (by decide) rfl hl.1 rfl (lv_room (Nat.le_of_ble_eq_true rfl)) dX11_take_2 ⟨Nat.zero_le _, Nat.zero_le _⟩ (fun z3 M1 H locs h hP hS => ?_)
  refine r_if_eq (tgt := 31) hx hb dX11_take_5 (by decide) h (fun h => ?_) (fun h => ?_)
  · refine r_iconst hx hb dX11_take_31 (by decide) h (fun z5 h => ?_)
    exact r_iret hx hb hr hlocks hP hS dX11_take_32 h
  · refine lv_aload_n hx hb dX11_take_8 rfl (lv_at hl 0 rfl) ?_
    refine lv_iload_n hx hb dX11_take_9 rfl (lv_at hl 2 rfl) ?_
    refine q_Vi hx hb hml hown hts hK hP hS (c_X11_isJug l D G S _ xl0 zl2 _ h.2) ⟨callB_of 1 hts (gw_good kw_893) rfl rfl rfl (hts _ (List.mem_cons_of_mem _ kw_1)) (hts _ (List.mem_cons_of_mem _ kw_890)) hd_X11_isJug ⟨Nat.le_of_ble_eq_true rfl, Nat.le_of_ble_eq_true rfl⟩, (hts _ (List.mem_cons_of_mem _ kw_892)), (hts _ (List.mem_cons_of_mem _ kp_30))⟩ h.1 (ci := 11) rfl (by decide) rfl hl.1 rfl (lv_room (Nat.le_of_ble_eq_true rfl)) dX11_take_10 ⟨Nat.zero_le _, Nat.zero_le _⟩ (fun z8 M6 H locs h hP hS => ?_)
    refine r_if_eq (tgt := 31) hx hb dX11_take_13 (by decide) h (fun h => ?_) (fun h => ?_)
    · refine r_iconst hx hb dX11_take_31 (by decide) h (fun z10 h => ?_)
      exact r_iret hx hb hr hlocks hP hS dX11_take_32 h
    · refine lv_aload_n hx hb dX11_take_16 rfl (lv_at hl 0 rfl) ?_
      refine r_getr (C := RX11) (T := TX11) (N := 16) hx hb hts (fun w h => List.mem_cons_of_mem _ (iX11 w h)) hown hK hP rfl (by decide) rfl 1 (by decide) (hts _ (List.mem_cons_of_mem _ kw_492)) (fun _ h9 => h9) dX11_take_17 (by decide) h (fun x12 h => ?_)
      refine r_getrN (C := RX4) (T := TX4) (N := 10) hx hb hts (fun w h => List.mem_cons_of_mem _ (iX4 w h)) hown hK hP rfl (by decide) rfl 1 (by decide) (nw_73 hK) (fun _ h9 => h9) dX11_take_20 (by decide) h (fun x14 h => ?_)
      refine lv_iload_n hx hb dX11_take_23 rfl (lv_at hl 1 rfl) ?_
      refine lv_iload_n hx hb dX11_take_24 rfl (lv_at hl 2 rfl) ?_
      refine q_Vi hx hb hml hown hts hK hP hS (c_X5_canTake l D G S _ x14 zl1 zl2 _ h.2) ⟨callB_of 2 hts (gw_good kw_1003) rfl rfl rfl (hts _ (List.mem_cons_of_mem _ kw_5)) (hts _ (List.mem_cons_of_mem _ kw_1000)) hd_X5_canTake ⟨Nat.le_of_ble_eq_true rfl, Nat.le_of_ble_eq_true rfl⟩, (hts _ (List.mem_cons_of_mem _ kw_1001)), (hts _ (List.mem_cons_of_mem _ kw_1002))⟩ h.1 (ci := 5) rfl (by decide) rfl hl.1 rfl (lv_room (Nat.le_of_ble_eq_true rfl)) dX11_take_25 ⟨Nat.zero_le _, Nat.zero_le _⟩ (fun z17 M15 H locs h hP hS => ?_)
      refine r_if_ne (tgt := 33) hx hb dX11_take_28 (by decide) h (fun h => ?_) (fun h => ?_)
      · refine lv_aload_n hx hb dX11_take_33 rfl (lv_at hl 0 rfl) ?_
        refine q_Vv hx hb hml hown hts hK hP hS (c_X11_keepPast l D G S _ xl0 _ h.2) ⟨callB_of 0 hts (gw_good kw_921) rfl rfl rfl (hts _ (List.mem_cons_of_mem _ kw_1)) (hts _ (List.mem_cons_of_mem _ kw_918)) hd_X11_keepPast ⟨Nat.le_of_ble_eq_true rfl, Nat.le_of_ble_eq_true rfl⟩, (hts _ (List.mem_cons_of_mem _ kw_920)), (hts _ (List.mem_cons_of_mem _ kp_33))⟩ h.1 (ci := 11) rfl (by decide) rfl hl.1 rfl (lv_room (Nat.le_of_ble_eq_true rfl)) dX11_take_34 ⟨Nat.zero_le _, Nat.zero_le _⟩ (fun M18 H locs h hP hS => ?_)
        refine lv_aload_n hx hb dX11_take_37 rfl (lv_at hl 0 rfl) ?_
        refine r_getr (C := RX11) (T := TX11) (N := 16) hx hb hts (fun w h => List.mem_cons_of_mem _ (iX11 w h)) hown hK hP rfl (by decide) rfl 1 (by decide) (hts _ (List.mem_cons_of_mem _ kw_492)) (fun _ h9 => h9) dX11_take_38 (by decide) h (fun x20 h => ?_)
        refine r_getrN (C := RX4) (T := TX4) (N := 10) hx hb hts (fun w h => List.mem_cons_of_mem _ (iX4 w h)) hown hK hP rfl (by decide) rfl 1 (by decide) (nw_73 hK) (fun _ h9 => h9) dX11_take_41 (by decide) h (fun x22 h => ?_)
        refine lv_iload_n hx hb dX11_take_44 rfl (lv_at hl 1 rfl) ?_
        refine lv_iload_n hx hb dX11_take_45 rfl (lv_at hl 2 rfl) ?_
        refine q_Vv hx hb hml hown hts hK hP hS (c_X5_giveTo l D G S _ x22 zl1 zl2 _ h.2) ⟨callB_of 2 hts (gw_good kw_1014) rfl rfl rfl (hts _ (List.mem_cons_of_mem _ kw_5)) (hts _ (List.mem_cons_of_mem _ kw_1011)) hd_X5_giveTo ⟨Nat.le_of_ble_eq_true rfl, Nat.le_of_ble_eq_true rfl⟩, (hts _ (List.mem_cons_of_mem _ kw_1012)), (hts _ (List.mem_cons_of_mem _ kw_1013))⟩ h.1 (ci := 5) rfl (by decide) rfl hl.1 rfl (lv_room (Nat.le_of_ble_eq_true rfl)) dX11_take_46 ⟨Nat.zero_le _, Nat.zero_le _⟩ (fun M23 H locs h hP hS => ?_)
        refine lv_aload_n hx hb dX11_take_49 rfl (lv_at hl 0 rfl) ?_
        refine r_getr (C := RX11) (T := TX11) (N := 16) hx hb hts (fun w h => List.mem_cons_of_mem _ (iX11 w h)) hown hK hP rfl (by decide) rfl 1 (by decide) (hts _ (List.mem_cons_of_mem _ kw_492)) (fun _ h9 => h9) dX11_take_50 (by decide) h (fun x25 h => ?_)
        refine r_getrN (C := RX4) (T := TX4) (N := 10) hx hb hts (fun w h => List.mem_cons_of_mem _ (iX4 w h)) hown hK hP rfl (by decide) rfl 1 (by decide) (nw_73 hK) (fun _ h9 => h9) dX11_take_53 (by decide) h (fun x27 h => ?_)
        refine lv_iload_n hx hb dX11_take_56 rfl (lv_at hl 1 rfl) ?_
        refine q_Vi hx hb hml hown hts hK hP hS (c_X5_heldBits l D G S _ x27 zl1 _ h.2) ⟨callB_of 1 hts (gw_good kw_885) rfl rfl rfl (hts _ (List.mem_cons_of_mem _ kw_5)) (hts _ (List.mem_cons_of_mem _ kw_882)) hd_X5_heldBits ⟨Nat.le_of_ble_eq_true rfl, Nat.le_of_ble_eq_true rfl⟩, (hts _ (List.mem_cons_of_mem _ kw_883)), (hts _ (List.mem_cons_of_mem _ kw_884))⟩ h.1 (ci := 5) rfl (by decide) rfl hl.1 rfl (lv_room (Nat.le_of_ble_eq_true rfl)) dX11_take_57 ⟨Nat.zero_le _, Nat.zero_le _⟩ (fun z30 M28 H locs h hP hS => ?_)
        exact r_iret hx hb hr hlocks hP hS dX11_take_60 h
      · refine r_iconst hx hb dX11_take_31 (by decide) h (fun z32 h => ?_)
        exact r_iret hx hb hr hlocks hP hS dX11_take_32 h
