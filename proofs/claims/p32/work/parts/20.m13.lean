/-! TurningMilkModel.years(III)I -/
abbrev RM_X12_years : Room := { frames := 7, cells := 0, slots := 0, locals := 195 }
def cw_X12_years : Cond := Cond.code yX12_years cX12_years 8 (Option.some FieldType.int)
theorem hd_X12_years : yX12_years.cls ≠ "java/lang/invoke/MethodHandle" ∧ yX12_years.cls ≠ "java/lang/invoke/VarHandle" ∧ (parseMethodDescriptor yX12_years.desc).map (fun d => d.parameters.length) = some 3 := by decide +kernel
theorem dX12_years_0 : decode cX12_years 0 = .ok (.aload_n 0, 1) := by decide +kernel
theorem dX12_years_1 : decode cX12_years 1 = .ok (.invokevirtual 350, 3) := by decide +kernel
theorem dX12_years_4 : decode cX12_years 4 = .ok (.ifCond .eq 37, 3) := by decide +kernel
theorem dX12_years_7 : decode cX12_years 7 = .ok (.iload_n 1, 1) := by decide +kernel
theorem dX12_years_8 : decode cX12_years 8 = .ok (.i2l, 1) := by decide +kernel
theorem dX12_years_9 : decode cX12_years 9 = .ok (.lconst 1, 1) := by decide +kernel
theorem dX12_years_10 : decode cX12_years 10 = .ok (.ldc2_w 426, 3) := by decide +kernel
theorem dX12_years_13 : decode cX12_years 13 = .ok (.invokestatic 118, 3) := by decide +kernel
theorem dX12_years_16 : decode cX12_years 16 = .ok (.ifCond .eq 25, 3) := by decide +kernel
theorem dX12_years_19 : decode cX12_years 19 = .ok (.iload_n 2, 1) := by decide +kernel
theorem dX12_years_20 : decode cX12_years 20 = .ok (.i2l, 1) := by decide +kernel
theorem dX12_years_21 : decode cX12_years 21 = .ok (.lconst 1, 1) := by decide +kernel
theorem dX12_years_22 : decode cX12_years 22 = .ok (.ldc2_w 471, 3) := by decide +kernel
theorem dX12_years_25 : decode cX12_years 25 = .ok (.invokestatic 118, 3) := by decide +kernel
theorem dX12_years_28 : decode cX12_years 28 = .ok (.ifCond .eq 13, 3) := by decide +kernel
theorem dX12_years_31 : decode cX12_years 31 = .ok (.iload_n 3, 1) := by decide +kernel
theorem dX12_years_32 : decode cX12_years 32 = .ok (.i2l, 1) := by decide +kernel
theorem dX12_years_33 : decode cX12_years 33 = .ok (.lconst 0, 1) := by decide +kernel
theorem dX12_years_34 : decode cX12_years 34 = .ok (.lconst 1, 1) := by decide +kernel
theorem dX12_years_35 : decode cX12_years 35 = .ok (.invokestatic 118, 3) := by decide +kernel
theorem dX12_years_38 : decode cX12_years 38 = .ok (.ifCond .ne 5, 3) := by decide +kernel
theorem dX12_years_41 : decode cX12_years 41 = .ok (.iconst (-1), 1) := by decide +kernel
theorem dX12_years_42 : decode cX12_years 42 = .ok (.ireturn, 1) := by decide +kernel
theorem dX12_years_43 : decode cX12_years 43 = .ok (.aload_n 0, 1) := by decide +kernel
theorem dX12_years_44 : decode cX12_years 44 = .ok (.aload_n 0, 1) := by decide +kernel
theorem dX12_years_45 : decode cX12_years 45 = .ok (.getfield 477, 3) := by decide +kernel
theorem dX12_years_48 : decode cX12_years 48 = .ok (.i2l, 1) := by decide +kernel
theorem dX12_years_49 : decode cX12_years 49 = .ok (.putfield 480, 3) := by decide +kernel
theorem dX12_years_52 : decode cX12_years 52 = .ok (.iconst 0, 1) := by decide +kernel
theorem dX12_years_53 : decode cX12_years 53 = .ok (.istore 4, 2) := by decide +kernel
theorem dX12_years_55 : decode cX12_years 55 = .ok (.iconst 0, 1) := by decide +kernel
theorem dX12_years_56 : decode cX12_years 56 = .ok (.istore 5, 2) := by decide +kernel
theorem dX12_years_58 : decode cX12_years 58 = .ok (.aload_n 0, 1) := by decide +kernel
theorem dX12_years_59 : decode cX12_years 59 = .ok (.invokevirtual 382, 3) := by decide +kernel
theorem dX12_years_62 : decode cX12_years 62 = .ok (.iconst 0, 1) := by decide +kernel
theorem dX12_years_63 : decode cX12_years 63 = .ok (.istore 6, 2) := by decide +kernel
theorem dX12_years_65 : decode cX12_years 65 = .ok (.iload 6, 2) := by decide +kernel
theorem dX12_years_67 : decode cX12_years 67 = .ok (.iload_n 1, 1) := by decide +kernel
theorem dX12_years_68 : decode cX12_years 68 = .ok (.if_icmp .ge 102, 3) := by decide +kernel
theorem dX12_years_71 : decode cX12_years 71 = .ok (.iconst 0, 1) := by decide +kernel
theorem dX12_years_72 : decode cX12_years 72 = .ok (.istore 7, 2) := by decide +kernel
theorem dX12_years_74 : decode cX12_years 74 = .ok (.iload 7, 2) := by decide +kernel
theorem dX12_years_76 : decode cX12_years 76 = .ok (.iload_n 2, 1) := by decide +kernel
theorem dX12_years_77 : decode cX12_years 77 = .ok (.if_icmp .ge 18, 3) := by decide +kernel
theorem dX12_years_80 : decode cX12_years 80 = .ok (.aload_n 0, 1) := by decide +kernel
theorem dX12_years_81 : decode cX12_years 81 = .ok (.invokevirtual 495, 3) := by decide +kernel
theorem dX12_years_84 : decode cX12_years 84 = .ok (.aload_n 0, 1) := by decide +kernel
theorem dX12_years_85 : decode cX12_years 85 = .ok (.invokevirtual 356, 3) := by decide +kernel
theorem dX12_years_88 : decode cX12_years 88 = .ok (.pop, 1) := by decide +kernel
theorem dX12_years_89 : decode cX12_years 89 = .ok (.iinc 7 1, 3) := by decide +kernel
theorem dX12_years_92 : decode cX12_years 92 = .ok (.goto (-18), 3) := by decide +kernel
theorem dX12_years_95 : decode cX12_years 95 = .ok (.iconst 0, 1) := by decide +kernel
theorem dX12_years_96 : decode cX12_years 96 = .ok (.istore 7, 2) := by decide +kernel
theorem dX12_years_98 : decode cX12_years 98 = .ok (.iload 7, 2) := by decide +kernel
theorem dX12_years_100 : decode cX12_years 100 = .ok (.aload_n 0, 1) := by decide +kernel
theorem dX12_years_101 : decode cX12_years 101 = .ok (.getfield 39, 3) := by decide +kernel
theorem dX12_years_104 : decode cX12_years 104 = .ok (.iconst 5, 1) := by decide +kernel
theorem dX12_years_105 : decode cX12_years 105 = .ok (.iaload, 1) := by decide +kernel
theorem dX12_years_106 : decode cX12_years 106 = .ok (.if_icmp .ge 45, 3) := by decide +kernel
theorem dX12_years_109 : decode cX12_years 109 = .ok (.iload 4, 2) := by decide +kernel
theorem dX12_years_111 : decode cX12_years 111 = .ok (.aload_n 0, 1) := by decide +kernel
theorem dX12_years_112 : decode cX12_years 112 = .ok (.iload 7, 2) := by decide +kernel
theorem dX12_years_114 : decode cX12_years 114 = .ok (.iconst 3, 1) := by decide +kernel
theorem dX12_years_115 : decode cX12_years 115 = .ok (.invokevirtual 284, 3) := by decide +kernel
theorem dX12_years_118 : decode cX12_years 118 = .ok (.ifCond .ne 23, 3) := by decide +kernel
theorem dX12_years_121 : decode cX12_years 121 = .ok (.aload_n 0, 1) := by decide +kernel
theorem dX12_years_122 : decode cX12_years 122 = .ok (.iload 7, 2) := by decide +kernel
theorem dX12_years_124 : decode cX12_years 124 = .ok (.iconst 2, 1) := by decide +kernel
theorem dX12_years_125 : decode cX12_years 125 = .ok (.invokevirtual 284, 3) := by decide +kernel
theorem dX12_years_128 : decode cX12_years 128 = .ok (.aload_n 0, 1) := by decide +kernel
theorem dX12_years_129 : decode cX12_years 129 = .ok (.getfield 39, 3) := by decide +kernel
theorem dX12_years_132 : decode cX12_years 132 = .ok (.iconst 2, 1) := by decide +kernel
theorem dX12_years_133 : decode cX12_years 133 = .ok (.iaload, 1) := by decide +kernel
theorem dX12_years_134 : decode cX12_years 134 = .ok (.if_icmp .lt 7, 3) := by decide +kernel
theorem dX12_years_137 : decode cX12_years 137 = .ok (.iconst 1, 1) := by decide +kernel
theorem dX12_years_138 : decode cX12_years 138 = .ok (.goto 4, 3) := by decide +kernel
theorem dX12_years_141 : decode cX12_years 141 = .ok (.iconst 0, 1) := by decide +kernel
theorem dX12_years_142 : decode cX12_years 142 = .ok (.iadd, 1) := by decide +kernel
theorem dX12_years_143 : decode cX12_years 143 = .ok (.istore 4, 2) := by decide +kernel
theorem dX12_years_145 : decode cX12_years 145 = .ok (.iinc 7 1, 3) := by decide +kernel
theorem dX12_years_148 : decode cX12_years 148 = .ok (.goto (-50), 3) := by decide +kernel
theorem dX12_years_151 : decode cX12_years 151 = .ok (.iload 5, 2) := by decide +kernel
theorem dX12_years_153 : decode cX12_years 153 = .ok (.aload_n 0, 1) := by decide +kernel
theorem dX12_years_154 : decode cX12_years 154 = .ok (.invokevirtual 468, 3) := by decide +kernel
theorem dX12_years_157 : decode cX12_years 157 = .ok (.iadd, 1) := by decide +kernel
theorem dX12_years_158 : decode cX12_years 158 = .ok (.istore 5, 2) := by decide +kernel
theorem dX12_years_160 : decode cX12_years 160 = .ok (.aload_n 0, 1) := by decide +kernel
theorem dX12_years_161 : decode cX12_years 161 = .ok (.invokevirtual 385, 3) := by decide +kernel
theorem dX12_years_164 : decode cX12_years 164 = .ok (.iinc 6 1, 3) := by decide +kernel
theorem dX12_years_167 : decode cX12_years 167 = .ok (.goto (-102), 3) := by decide +kernel
theorem dX12_years_170 : decode cX12_years 170 = .ok (.iload_n 3, 1) := by decide +kernel
theorem dX12_years_171 : decode cX12_years 171 = .ok (.ifCond .ne 8, 3) := by decide +kernel
theorem dX12_years_174 : decode cX12_years 174 = .ok (.iload 4, 2) := by decide +kernel
theorem dX12_years_176 : decode cX12_years 176 = .ok (.goto 5, 3) := by decide +kernel
theorem dX12_years_179 : decode cX12_years 179 = .ok (.iload 5, 2) := by decide +kernel
theorem dX12_years_181 : decode cX12_years 181 = .ok (.ireturn, 1) := by decide +kernel
def wp_X12_years_142 (S : Sh) (k65 : Int → Int → Int → Int → Int → Int → Int → Mm → Prop) (k98 : Int → Int → Int → Int → Int → Int → Int → Int → Mm → Prop) (post : Int → Mm → Prop) (u0 : Int) (u1 : Int) (u2 : Int) (u3 : Int) (u5 : Int) (u6 : Int) (u7 : Int) (t0 : Int) (t1 : Int) (M : Mm) : Prop := wA t0 t1 fun v1 => wA u7 1 fun v3 => k98 u0 u1 u2 u3 v1 u5 u6 v3 M
def wp_X12_years_141 (S : Sh) (k65 : Int → Int → Int → Int → Int → Int → Int → Mm → Prop) (k98 : Int → Int → Int → Int → Int → Int → Int → Int → Mm → Prop) (post : Int → Mm → Prop) (u0 : Int) (u1 : Int) (u2 : Int) (u3 : Int) (u5 : Int) (u6 : Int) (u7 : Int) (t0 : Int) (M : Mm) : Prop := wC 0 fun v5 => wp_X12_years_142 S k65 k98 post u0 u1 u2 u3 u5 u6 u7 t0 v5 M
def wp_X12_years_98 (S : Sh) (k65 : Int → Int → Int → Int → Int → Int → Int → Mm → Prop) (post : Int → Mm → Prop) : Nat → Int → Int → Int → Int → Int → Int → Int → Int → Mm → Prop
  | 0, _, _, _, _, _, _, _, _, _ => False
  | n + 1, u0, u1, u2, u3, u4, u5, u6, u7, M => wGetR S M u0 12 20 fun v7 => wC 5 fun v9 => wLd S M v7 14 v9 fun v11 => wIf (v11 ≤ u7) (isK S u0 12 ∧ (wp_X12_turnedAll S M u0 <| fun v14 M13 => wA u5 v14 fun v16 => isK S u0 12 ∧ (wp_X12_laysBack S M13 u0 <| fun M18 => wA u6 1 fun v19 => k65 u0 u1 u2 u3 u4 v16 v19 M18))) (wC 3 fun v21 => isK S u0 12 ∧ (wp_X12_jugOf S M u0 u7 v21 <| fun v24 M23 => wIf (¬ v24 = 0) (wp_X12_years_141 S k65 (fun a0 a1 a2 a3 a4 a5 a6 a7 M => wp_X12_years_98 S k65 post n a0 a1 a2 a3 a4 a5 a6 a7 M) post u0 u1 u2 u3 u5 u6 u7 u4 M23) (wC 2 fun v26 => isK S u0 12 ∧ (wp_X12_jugOf S M23 u0 u7 v26 <| fun v29 M28 => wGetR S M28 u0 12 20 fun v31 => wC 2 fun v33 => wLd S M28 v31 14 v33 fun v35 => wIf (v29 < v35) (wp_X12_years_141 S k65 (fun a0 a1 a2 a3 a4 a5 a6 a7 M => wp_X12_years_98 S k65 post n a0 a1 a2 a3 a4 a5 a6 a7 M) post u0 u1 u2 u3 u5 u6 u7 u4 M28) (wC 1 fun v37 => wp_X12_years_142 S k65 (fun a0 a1 a2 a3 a4 a5 a6 a7 M => wp_X12_years_98 S k65 post n a0 a1 a2 a3 a4 a5 a6 a7 M) post u0 u1 u2 u3 u5 u6 u7 u4 v37 M28)))))
def wp_X12_years_74 (S : Sh) (k65 : Int → Int → Int → Int → Int → Int → Int → Mm → Prop) (post : Int → Mm → Prop) : Nat → Int → Int → Int → Int → Int → Int → Int → Int → Mm → Prop
  | 0, _, _, _, _, _, _, _, _, _ => False
  | n + 1, u0, u1, u2, u3, u4, u5, u6, u7, M => wIf (u2 ≤ u7) (wC 0 fun v39 => ∃ n9 : Nat, wp_X12_years_98 S k65 post n9 u0 u1 u2 u3 u4 u5 u6 v39 M) (isK S u0 12 ∧ (wp_X12_actsDrawn S M u0 <| fun M41 => isK S u0 12 ∧ (wp_X12_passes S M41 u0 <| fun v43 M42 => wA u7 1 fun v45 => wp_X12_years_74 S k65 post n u0 u1 u2 u3 u4 u5 u6 v45 M42)))
def wp_X12_years_65 (S : Sh) (post : Int → Mm → Prop) : Nat → Int → Int → Int → Int → Int → Int → Int → Mm → Prop
  | 0, _, _, _, _, _, _, _, _ => False
  | n + 1, u0, u1, u2, u3, u4, u5, u6, M => wIf (u1 ≤ u6) (wIf (¬ u3 = 0) (post u5 M) (post u4 M)) (wC 0 fun v47 => ∃ n9 : Nat, wp_X12_years_74 S (fun a0 a1 a2 a3 a4 a5 a6 M => wp_X12_years_65 S post n a0 a1 a2 a3 a4 a5 a6 M) post n9 u0 u1 u2 u3 u4 u5 u6 v47 M)
def wp_X12_years (S : Sh) (M : Mm) (u0 : Int) (u1 : Int) (u2 : Int) (u3 : Int) (post : Int → Mm → Prop) : Prop := isK S u0 12 ∧ (wp_X12_isDairy S M u0 <| fun v50 M49 => wIf (v50 = 0) (wC (-1) fun v52 => post v52 M49) (wC u1 fun v54 => wC 1 fun v56 => wC 10 fun v58 => wp_X12_in S M49 v54 v56 v58 <| fun v61 M60 => wIf (v61 = 0) (wC (-1) fun v63 => post v63 M60) (wC u2 fun v65 => wC 1 fun v67 => wC 60 fun v69 => wp_X12_in S M60 v65 v67 v69 <| fun v72 M71 => wIf (v72 = 0) (wC (-1) fun v74 => post v74 M71) (wC u3 fun v76 => wC 0 fun v78 => wC 1 fun v80 => wp_X12_in S M71 v76 v78 v80 <| fun v83 M82 => wIf (¬ v83 = 0) (wGet S M82 u0 12 22 fun v85 => wC v85 fun v87 => wPut S M82 u0 12 33 v87 fun M89 => wC 0 fun v90 => wC 0 fun v92 => isK S u0 12 ∧ (wp_X12_keeps S M89 u0 <| fun M94 => wC 0 fun v95 => ∃ n9 : Nat, wp_X12_years_65 S post n9 u0 u1 u2 u3 v90 v92 v95 M94)) (wC (-1) fun v97 => post v97 M82)))))
set_option maxHeartbeats 4000000 in
set_option maxRecDepth 100000 in
theorem t_X12_years_142 {p : Program} {l : Launch} {e : Env} {s : State} {m : MethodId} {args : Array Value} {below : List Frame} {meth : Method} {c : Code} {D : va_G} {G : Gt} {S : Sh} {post : Int → Mm → Prop} {k65 : Int → Int → Int → Int → Int → Int → Int → Mm → Prop} {k98 : Int → Int → Int → Int → Int → Int → Int → Int → Mm → Prop} (C : Cx p s m args meth c D G cX12_years 8 (some .int) (cw_X12_years :: gw) RX12) (hk65 : ∀ (y0 : Int) (y1 : Int32) (y2 : Int32) (y3 : Int32) (y4 : Int32) (y5 : Int32) (y6 : Int32) (M : Mm) (H : Heap) (locs : List Loc) (ls : Array Slot), Wd D G S M H → va_S (aG G) s.heap H locs → lv_has ls 8 [(0, .ref (adr G y0)), (1, .int y1), (2, .int y2), (3, .int y3), (4, .int y4), (5, .int y5), (6, .int y6)] → k65 y0 y1.toInt y2.toInt y3.toInt y4.toInt y5.toInt y6.toInt M → W p l e RM_X12_years s m args below meth c H locs 0 0 (MQ below (QI D G S post) args s 0 0 (aG G)) (F0 m 65 ls [])) (hk98 : ∀ (y0 : Int) (y1 : Int32) (y2 : Int32) (y3 : Int32) (y4 : Int32) (y5 : Int32) (y6 : Int32) (y7 : Int32) (M : Mm) (H : Heap) (locs : List Loc) (ls : Array Slot), Wd D G S M H → va_S (aG G) s.heap H locs → lv_has ls 8 [(0, .ref (adr G y0)), (1, .int y1), (2, .int y2), (3, .int y3), (4, .int y4), (5, .int y5), (6, .int y6), (7, .int y7)] → k98 y0 y1.toInt y2.toInt y3.toInt y4.toInt y5.toInt y6.toInt y7.toInt M → W p l e RM_X12_years s m args below meth c H locs 0 0 (MQ below (QI D G S post) args s 0 0 (aG G)) (F0 m 98 ls [])) : ∀ (xl0 : Int) (zl1 : Int32) (zl2 : Int32) (zl3 : Int32) (zl5 : Int32) (zl6 : Int32) (zl7 : Int32) (zs0 : Int32) (zs1 : Int32) (M : Mm) (H : Heap) (locs : List Loc) (ls : Array Slot), Wd D G S M H → va_S (aG G) s.heap H locs → lv_has ls 8 [(0, .ref (adr G xl0)), (1, .int zl1), (2, .int zl2), (3, .int zl3), (5, .int zl5), (6, .int zl6), (7, .int zl7)] → wp_X12_years_142 S k65 k98 post xl0 zl1.toInt zl2.toInt zl3.toInt zl5.toInt zl6.toInt zl7.toInt zs0.toInt zs1.toInt M → W p l e RM_X12_years s m args below meth c H locs 0 0 (MQ below (QI D G S post) args s 0 0 (aG G)) (F0 m 142 ls [.int zs1, .int zs0]) := by
  obtain ⟨hx, hb, hr, hlocks, hml, hown, hts, hK⟩ := id C
  intro xl0 zl1 zl2 zl3 zl5 zl6 zl7 zs0 zs1 M H locs ls hP hS hl h
  unfold wp_X12_years_142 at h
  refine r_iadd hx hb dX12_years_142 h (fun z2 h => ?_)
  refine lv_istore (lv' := [(4, .int z2), (0, .ref (adr G xl0)), (1, .int zl1), (2, .int zl2), (3, .int zl3), (5, .int zl5), (6, .int zl6), (7, .int zl7)]) hx hb dX12_years_143 hl (by decide) rfl (fun ls hl => ?_)
  refine r_iinc hx hb (fun z4 => [(7, .int z4), (4, .int z2), (0, .ref (adr G xl0)), (1, .int zl1), (2, .int zl2), (3, .int zl3), (5, .int zl5), (6, .int zl6)]) dX12_years_145 (by decide) hl (k := 7) rfl (by decide) (fun _ => rfl) h (fun z4 ls hl h => ?_)
  refine lv_goto (tgt := 98) hx hb dX12_years_148 (by decide) ?_
  exact hk98 xl0 zl1 zl2 zl3 z2 zl5 zl6 z4 _ _ _ _ hP hS (lv_sub hl [2, 3, 4, 5, 1, 6, 7, 0] rfl) h
set_option maxHeartbeats 4000000 in
set_option maxRecDepth 100000 in
theorem t_X12_years_141 {p : Program} {l : Launch} {e : Env} {s : State} {m : MethodId} {args : Array Value} {below : List Frame} {meth : Method} {c : Code} {D : va_G} {G : Gt} {S : Sh} {post : Int → Mm → Prop} {k65 : Int → Int → Int → Int → Int → Int → Int → Mm → Prop} {k98 : Int → Int → Int → Int → Int → Int → Int → Int → Mm → Prop} (C : Cx p s m args meth c D G cX12_years 8 (some .int) (cw_X12_years :: gw) RX12) (hk65 : ∀ (y0 : Int) (y1 : Int32) (y2 : Int32) (y3 : Int32) (y4 : Int32) (y5 : Int32) (y6 : Int32) (M : Mm) (H : Heap) (locs : List Loc) (ls : Array Slot), Wd D G S M H → va_S (aG G) s.heap H locs → lv_has ls 8 [(0, .ref (adr G y0)), (1, .int y1), (2, .int y2), (3, .int y3), (4, .int y4), (5, .int y5), (6, .int y6)] → k65 y0 y1.toInt y2.toInt y3.toInt y4.toInt y5.toInt y6.toInt M → W p l e RM_X12_years s m args below meth c H locs 0 0 (MQ below (QI D G S post) args s 0 0 (aG G)) (F0 m 65 ls [])) (hk98 : ∀ (y0 : Int) (y1 : Int32) (y2 : Int32) (y3 : Int32) (y4 : Int32) (y5 : Int32) (y6 : Int32) (y7 : Int32) (M : Mm) (H : Heap) (locs : List Loc) (ls : Array Slot), Wd D G S M H → va_S (aG G) s.heap H locs → lv_has ls 8 [(0, .ref (adr G y0)), (1, .int y1), (2, .int y2), (3, .int y3), (4, .int y4), (5, .int y5), (6, .int y6), (7, .int y7)] → k98 y0 y1.toInt y2.toInt y3.toInt y4.toInt y5.toInt y6.toInt y7.toInt M → W p l e RM_X12_years s m args below meth c H locs 0 0 (MQ below (QI D G S post) args s 0 0 (aG G)) (F0 m 98 ls [])) : ∀ (xl0 : Int) (zl1 : Int32) (zl2 : Int32) (zl3 : Int32) (zl5 : Int32) (zl6 : Int32) (zl7 : Int32) (zs0 : Int32) (M : Mm) (H : Heap) (locs : List Loc) (ls : Array Slot), Wd D G S M H → va_S (aG G) s.heap H locs → lv_has ls 8 [(0, .ref (adr G xl0)), (1, .int zl1), (2, .int zl2), (3, .int zl3), (5, .int zl5), (6, .int zl6), (7, .int zl7)] → wp_X12_years_141 S k65 k98 post xl0 zl1.toInt zl2.toInt zl3.toInt zl5.toInt zl6.toInt zl7.toInt zs0.toInt M → W p l e RM_X12_years s m args below meth c H locs 0 0 (MQ below (QI D G S post) args s 0 0 (aG G)) (F0 m 141 ls [.int zs0]) := by
  obtain ⟨hx, hb, hr, hlocks, hml, hown, hts, hK⟩ := id C
  intro xl0 zl1 zl2 zl3 zl5 zl6 zl7 zs0 M H locs ls hP hS hl h
  unfold wp_X12_years_141 at h
  refine r_iconst hx hb dX12_years_141 (by decide) h (fun z6 h => ?_)
  exact t_X12_years_142 C hk65 hk98 xl0 zl1 zl2 zl3 zl5 zl6 zl7 zs0 z6 _ _ _ _ hP hS (lv_sub hl [0, 1, 2, 3, 4, 5, 6] rfl) h
set_option maxHeartbeats 4000000 in
set_option maxRecDepth 100000 in
theorem t_X12_years_98 {p : Program} {l : Launch} {e : Env} {s : State} {m : MethodId} {args : Array Value} {below : List Frame} {meth : Method} {c : Code} {D : va_G} {G : Gt} {S : Sh} {post : Int → Mm → Prop} {k65 : Int → Int → Int → Int → Int → Int → Int → Mm → Prop} (C : Cx p s m args meth c D G cX12_years 8 (some .int) (cw_X12_years :: gw) RX12) (hk65 : ∀ (y0 : Int) (y1 : Int32) (y2 : Int32) (y3 : Int32) (y4 : Int32) (y5 : Int32) (y6 : Int32) (M : Mm) (H : Heap) (locs : List Loc) (ls : Array Slot), Wd D G S M H → va_S (aG G) s.heap H locs → lv_has ls 8 [(0, .ref (adr G y0)), (1, .int y1), (2, .int y2), (3, .int y3), (4, .int y4), (5, .int y5), (6, .int y6)] → k65 y0 y1.toInt y2.toInt y3.toInt y4.toInt y5.toInt y6.toInt M → W p l e RM_X12_years s m args below meth c H locs 0 0 (MQ below (QI D G S post) args s 0 0 (aG G)) (F0 m 65 ls [])) : ∀ (n : Nat) (xl0 : Int) (zl1 : Int32) (zl2 : Int32) (zl3 : Int32) (zl4 : Int32) (zl5 : Int32) (zl6 : Int32) (zl7 : Int32) (M : Mm) (H : Heap) (locs : List Loc) (ls : Array Slot), Wd D G S M H → va_S (aG G) s.heap H locs → lv_has ls 8 [(0, .ref (adr G xl0)), (1, .int zl1), (2, .int zl2), (3, .int zl3), (4, .int zl4), (5, .int zl5), (6, .int zl6), (7, .int zl7)] → wp_X12_years_98 S k65 post n xl0 zl1.toInt zl2.toInt zl3.toInt zl4.toInt zl5.toInt zl6.toInt zl7.toInt  M → W p l e RM_X12_years s m args below meth c H locs 0 0 (MQ below (QI D G S post) args s 0 0 (aG G)) (F0 m 98 ls []) := by
  obtain ⟨hx, hb, hr, hlocks, hml, hown, hts, hK⟩ := id C
  intro n
  induction n with
  | zero => intro xl0 zl1 zl2 zl3 zl4 zl5 zl6 zl7 M H locs ls hP hS hl h; exact h.elim
  | succ n ih =>
    intro xl0 zl1 zl2 zl3 zl4 zl5 zl6 zl7 M H locs ls hP hS hl h
    unfold wp_X12_years_98 at h
    refine lv_iload hx hb dX12_years_98 (lv_at hl 7 rfl) ?_
    refine lv_aload_n hx hb dX12_years_100 rfl (lv_at hl 0 rfl) ?_
    refine r_getr (C := RX12) (T := TX12) (N := 38) hx hb hts (fun w h => List.mem_cons_of_mem _ (iX12 w h)) hown hK hP rfl (by decide) rfl 20 (by decide) (hts _ (List.mem_cons_of_mem _ kw_1354)) (fun _ h9 => h9) dX12_years_101 (by decide) h (fun x8 h => ?_)
    refine r_iconst hx hb dX12_years_104 (by decide) h (fun z10 h => ?_)
    refine r_iald hx hb hK hP dX12_years_105 h (fun z12 h => ?_)
    refine r_icmp_ge (tgt := 151) hx hb dX12_years_106 (by decide) h (fun h => ?_) (fun h => ?_)
    · refine lv_iload hx hb dX12_years_151 (lv_at hl 5 rfl) ?_
      refine lv_aload_n hx hb dX12_years_153 rfl (lv_at hl 0 rfl) ?_
      refine q_Vi hx hb hml hown hts hK hP hS (c_X12_turnedAll l D G S _ xl0 _ h.2) ⟨callB_of 0 hts (gw_good kw_1935) rfl rfl rfl (hts _ (List.mem_cons_of_mem _ kw_14)) (hts _ (List.mem_cons_of_mem _ kw_1932)) hd_X12_turnedAll ⟨Nat.le_of_ble_eq_true rfl, Nat.le_of_ble_eq_true rfl⟩, (hts _ (List.mem_cons_of_mem _ kw_1934)), (hts _ (List.mem_cons_of_mem _ kp_131))⟩ h.1 (ci := 12) rfl (by decide) rfl hl.1 rfl (lv_room (Nat.le_of_ble_eq_true rfl)) dX12_years_154 ⟨Nat.zero_le _, Nat.zero_le _⟩ (fun z15 M13 H locs h hP hS => ?_)
      refine r_iadd hx hb dX12_years_157 h (fun z17 h => ?_)
      refine lv_istore (lv' := [(5, .int z17), (0, .ref (adr G xl0)), (1, .int zl1), (2, .int zl2), (3, .int zl3), (4, .int zl4), (6, .int zl6), (7, .int zl7)]) hx hb dX12_years_158 hl (by decide) rfl (fun ls hl => ?_)
      refine lv_aload_n hx hb dX12_years_160 rfl (lv_at hl 1 rfl) ?_
      refine q_Vv hx hb hml hown hts hK hP hS (c_X12_laysBack l D G S _ xl0 _ h.2) ⟨callB_of 0 hts (gw_good kw_1809) rfl rfl rfl (hts _ (List.mem_cons_of_mem _ kw_14)) (hts _ (List.mem_cons_of_mem _ kw_1806)) hd_X12_laysBack ⟨Nat.le_of_ble_eq_true rfl, Nat.le_of_ble_eq_true rfl⟩, (hts _ (List.mem_cons_of_mem _ kw_1808)), (hts _ (List.mem_cons_of_mem _ kp_115))⟩ h.1 (ci := 12) rfl (by decide) rfl hl.1 rfl (lv_room (Nat.le_of_ble_eq_true rfl)) dX12_years_161 ⟨Nat.zero_le _, Nat.zero_le _⟩ (fun M18 H locs h hP hS => ?_)
      refine r_iinc hx hb (fun z20 => [(6, .int z20), (5, .int z17), (0, .ref (adr G xl0)), (1, .int zl1), (2, .int zl2), (3, .int zl3), (4, .int zl4), (7, .int zl7)]) dX12_years_164 (by decide) hl (k := 6) rfl (by decide) (fun _ => rfl) h (fun z20 ls hl h => ?_)
      refine lv_goto (tgt := 65) hx hb dX12_years_167 (by decide) ?_
      exact hk65 xl0 zl1 zl2 zl3 zl4 z17 z20 _ _ _ _ hP hS (lv_sub hl [2, 3, 4, 5, 6, 1, 0] rfl) h
    · refine lv_iload hx hb dX12_years_109 (lv_at hl 4 rfl) ?_
      refine lv_aload_n hx hb dX12_years_111 rfl (lv_at hl 0 rfl) ?_
      refine lv_iload hx hb dX12_years_112 (lv_at hl 7 rfl) ?_
      refine r_iconst hx hb dX12_years_114 (by decide) h (fun z22 h => ?_)
      refine q_Vi hx hb hml hown hts hK hP hS (c_X12_jugOf l D G S _ xl0 zl7 z22 _ h.2) ⟨callB_of 2 hts (gw_good kw_1658) rfl rfl rfl (hts _ (List.mem_cons_of_mem _ kw_14)) (hts _ (List.mem_cons_of_mem _ kw_1655)) hd_X12_jugOf ⟨Nat.le_of_ble_eq_true rfl, Nat.le_of_ble_eq_true rfl⟩, (hts _ (List.mem_cons_of_mem _ kw_1657)), (hts _ (List.mem_cons_of_mem _ kp_90))⟩ h.1 (ci := 12) rfl (by decide) rfl hl.1 rfl (lv_room (Nat.le_of_ble_eq_true rfl)) dX12_years_115 ⟨Nat.zero_le _, Nat.zero_le _⟩ (fun z25 M23 H locs h hP hS => ?_)
      refine r_if_ne (tgt := 141) hx hb dX12_years_118 (by decide) h (fun h => ?_) (fun h => ?_)
      · exact t_X12_years_141 C hk65 ih xl0 zl1 zl2 zl3 zl5 zl6 zl7 zl4 _ _ _ _ hP hS (lv_sub hl [0, 1, 2, 3, 5, 6, 7] rfl) h
      · refine lv_aload_n hx hb dX12_years_121 rfl (lv_at hl 0 rfl) ?_
        refine lv_iload hx hb dX12_years_122 (lv_at hl 7 rfl) ?_
        refine r_iconst hx hb dX12_years_124 (by decide) h (fun z27 h => ?_)
        refine q_Vi hx hb hml hown hts hK hP hS (c_X12_jugOf l D G S _ xl0 zl7 z27 _ h.2) ⟨callB_of 2 hts (gw_good kw_1658) rfl rfl rfl (hts _ (List.mem_cons_of_mem _ kw_14)) (hts _ (List.mem_cons_of_mem _ kw_1655)) hd_X12_jugOf ⟨Nat.le_of_ble_eq_true rfl, Nat.le_of_ble_eq_true rfl⟩, (hts _ (List.mem_cons_of_mem _ kw_1657)), (hts _ (List.mem_cons_of_mem _ kp_90))⟩ h.1 (ci := 12) rfl (by decide) rfl hl.1 rfl (lv_room (Nat.le_of_ble_eq_true rfl)) dX12_years_125 ⟨Nat.zero_le _, Nat.zero_le _⟩ (fun z30 M28 H locs h hP hS => ?_)
        refine lv_aload_n hx hb dX12_years_128 rfl (lv_at hl 0 rfl) ?_
        refine r_getr (C := RX12) (T := TX12) (N := 38) hx hb hts (fun w h => List.mem_cons_of_mem _ (iX12 w h)) hown hK hP rfl (by decide) rfl 20 (by decide) (hts _ (List.mem_cons_of_mem _ kw_1354)) (fun _ h9 => h9) dX12_years_129 (by decide) h (fun x32 h => ?_)
        refine r_iconst hx hb dX12_years_132 (by decide) h (fun z34 h => ?_)
        refine r_iald hx hb hK hP dX12_years_133 h (fun z36 h => ?_)
        refine r_icmp_lt (tgt := 141) hx hb dX12_years_134 (by decide) h (fun h => ?_) (fun h => ?_)
        · exact t_X12_years_141 C hk65 ih xl0 zl1 zl2 zl3 zl5 zl6 zl7 zl4 _ _ _ _ hP hS (lv_sub hl [0, 1, 2, 3, 5, 6, 7] rfl) h
        · refine r_iconst hx hb dX12_years_137 (by decide) h (fun z38 h => ?_)
          refine lv_goto (tgt := 142) hx hb dX12_years_138 (by decide) ?_
          exact t_X12_years_142 C hk65 ih xl0 zl1 zl2 zl3 zl5 zl6 zl7 zl4 z38 _ _ _ _ hP hS (lv_sub hl [0, 1, 2, 3, 5, 6, 7] rfl) h
set_option maxHeartbeats 4000000 in
set_option maxRecDepth 100000 in
theorem t_X12_years_74 {p : Program} {l : Launch} {e : Env} {s : State} {m : MethodId} {args : Array Value} {below : List Frame} {meth : Method} {c : Code} {D : va_G} {G : Gt} {S : Sh} {post : Int → Mm → Prop} {k65 : Int → Int → Int → Int → Int → Int → Int → Mm → Prop} (C : Cx p s m args meth c D G cX12_years 8 (some .int) (cw_X12_years :: gw) RX12) (hk65 : ∀ (y0 : Int) (y1 : Int32) (y2 : Int32) (y3 : Int32) (y4 : Int32) (y5 : Int32) (y6 : Int32) (M : Mm) (H : Heap) (locs : List Loc) (ls : Array Slot), Wd D G S M H → va_S (aG G) s.heap H locs → lv_has ls 8 [(0, .ref (adr G y0)), (1, .int y1), (2, .int y2), (3, .int y3), (4, .int y4), (5, .int y5), (6, .int y6)] → k65 y0 y1.toInt y2.toInt y3.toInt y4.toInt y5.toInt y6.toInt M → W p l e RM_X12_years s m args below meth c H locs 0 0 (MQ below (QI D G S post) args s 0 0 (aG G)) (F0 m 65 ls [])) : ∀ (n : Nat) (xl0 : Int) (zl1 : Int32) (zl2 : Int32) (zl3 : Int32) (zl4 : Int32) (zl5 : Int32) (zl6 : Int32) (zl7 : Int32) (M : Mm) (H : Heap) (locs : List Loc) (ls : Array Slot), Wd D G S M H → va_S (aG G) s.heap H locs → lv_has ls 8 [(0, .ref (adr G xl0)), (1, .int zl1), (2, .int zl2), (3, .int zl3), (4, .int zl4), (5, .int zl5), (6, .int zl6), (7, .int zl7)] → wp_X12_years_74 S k65 post n xl0 zl1.toInt zl2.toInt zl3.toInt zl4.toInt zl5.toInt zl6.toInt zl7.toInt  M → W p l e RM_X12_years s m args below meth c H locs 0 0 (MQ below (QI D G S post) args s 0 0 (aG G)) (F0 m 74 ls []) := by
  obtain ⟨hx, hb, hr, hlocks, hml, hown, hts, hK⟩ := id C
  intro n
  induction n with
  | zero => intro xl0 zl1 zl2 zl3 zl4 zl5 zl6 zl7 M H locs ls hP hS hl h; exact h.elim
  | succ n ih =>
    intro xl0 zl1 zl2 zl3 zl4 zl5 zl6 zl7 M H locs ls hP hS hl h
    unfold wp_X12_years_74 at h
    refine lv_iload hx hb dX12_years_74 (lv_at hl 7 rfl) ?_
    refine lv_iload_n hx hb dX12_years_76 rfl (lv_at hl 2 rfl) ?_
    refine r_icmp_ge (tgt := 95) hx hb dX12_years_77 (by decide) h (fun h => ?_) (fun h => ?_)
    · refine r_iconst hx hb dX12_years_95 (by decide) h (fun z40 h => ?_)
      refine lv_istore (lv' := [(7, .int z40), (0, .ref (adr G xl0)), (1, .int zl1), (2, .int zl2), (3, .int zl3), (4, .int zl4), (5, .int zl5), (6, .int zl6)]) hx hb dX12_years_96 hl (by decide) rfl (fun ls hl => ?_)
      obtain ⟨n9, h⟩ := h
      exact t_X12_years_98 C hk65 n9 xl0 zl1 zl2 zl3 zl4 zl5 zl6 z40 _ _ _ _ hP hS (lv_sub hl [1, 2, 3, 4, 5, 6, 7, 0] rfl) h
    · refine lv_aload_n hx hb dX12_years_80 rfl (lv_at hl 0 rfl) ?_
      refine q_Vv hx hb hml hown hts hK hP hS (c_X12_actsDrawn l D G S _ xl0 _ h.2) ⟨callB_of 0 hts (gw_good kw_1947) rfl rfl rfl (hts _ (List.mem_cons_of_mem _ kw_14)) (hts _ (List.mem_cons_of_mem _ kw_1944)) hd_X12_actsDrawn ⟨Nat.le_of_ble_eq_true rfl, Nat.le_of_ble_eq_true rfl⟩, (hts _ (List.mem_cons_of_mem _ kw_1946)), (hts _ (List.mem_cons_of_mem _ kp_132))⟩ h.1 (ci := 12) rfl (by decide) rfl hl.1 rfl (lv_room (Nat.le_of_ble_eq_true rfl)) dX12_years_81 ⟨Nat.zero_le _, Nat.zero_le _⟩ (fun M41 H locs h hP hS => ?_)
      refine lv_aload_n hx hb dX12_years_84 rfl (lv_at hl 0 rfl) ?_
      refine q_Vi hx hb hml hown hts hK hP hS (c_X12_passes l D G S _ xl0 _ h.2) ⟨callB_of 0 hts (gw_good kw_1706) rfl rfl rfl (hts _ (List.mem_cons_of_mem _ kw_14)) (hts _ (List.mem_cons_of_mem _ kw_1703)) hd_X12_passes ⟨Nat.le_of_ble_eq_true rfl, Nat.le_of_ble_eq_true rfl⟩, (hts _ (List.mem_cons_of_mem _ kw_1705)), (hts _ (List.mem_cons_of_mem _ kp_98))⟩ h.1 (ci := 12) rfl (by decide) rfl hl.1 rfl (lv_room (Nat.le_of_ble_eq_true rfl)) dX12_years_85 ⟨Nat.zero_le _, Nat.zero_le _⟩ (fun z44 M42 H locs h hP hS => ?_)
      refine lv_pop hx hb dX12_years_88 rfl ?_
      refine r_iinc hx hb (fun z46 => [(7, .int z46), (0, .ref (adr G xl0)), (1, .int zl1), (2, .int zl2), (3, .int zl3), (4, .int zl4), (5, .int zl5), (6, .int zl6)]) dX12_years_89 (by decide) hl (k := 7) rfl (by decide) (fun _ => rfl) h (fun z46 ls hl h => ?_)
      refine lv_goto (tgt := 74) hx hb dX12_years_92 (by decide) ?_
      exact ih xl0 zl1 zl2 zl3 zl4 zl5 zl6 z46 _ _ _ _ hP hS (lv_sub hl [1, 2, 3, 4, 5, 6, 7, 0] rfl) h
set_option maxHeartbeats 4000000 in
set_option maxRecDepth 100000 in
theorem t_X12_years_65 {p : Program} {l : Launch} {e : Env} {s : State} {m : MethodId} {args : Array Value} {below : List Frame} {meth : Method} {c : Code} {D : va_G} {G : Gt} {S : Sh} {post : Int → Mm → Prop} (C : Cx p s m args meth c D G cX12_years 8 (some .int) (cw_X12_years :: gw) RX12) : ∀ (n : Nat) (xl0 : Int) (zl1 : Int32) (zl2 : Int32) (zl3 : Int32) (zl4 : Int32) (zl5 : Int32) (zl6 : Int32) (M : Mm) (H : Heap) (locs : List Loc) (ls : Array Slot), Wd D G S M H → va_S (aG G) s.heap H locs → lv_has ls 8 [(0, .ref (adr G xl0)), (1, .int zl1), (2, .int zl2), (3, .int zl3), (4, .int zl4), (5, .int zl5), (6, .int zl6)] → wp_X12_years_65 S post n xl0 zl1.toInt zl2.toInt zl3.toInt zl4.toInt zl5.toInt zl6.toInt  M → W p l e RM_X12_years s m args below meth c H locs 0 0 (MQ below (QI D G S post) args s 0 0 (aG G)) (F0 m 65 ls []) := by
  obtain ⟨hx, hb, hr, hlocks, hml, hown, hts, hK⟩ := id C
  intro n
  induction n with
  | zero => intro xl0 zl1 zl2 zl3 zl4 zl5 zl6 M H locs ls hP hS hl h; exact h.elim
  | succ n ih =>
    intro xl0 zl1 zl2 zl3 zl4 zl5 zl6 M H locs ls hP hS hl h
    unfold wp_X12_years_65 at h
    refine lv_iload hx hb dX12_years_65 (lv_at hl 6 rfl) ?_
    refine lv_iload_n hx hb dX12_years_67 rfl (lv_at hl 1 rfl) ?_
    refine r_icmp_ge (tgt := 170) hx hb dX12_years_68 (by decide) h (fun h => ?_) (fun h => ?_)
    · refine lv_iload_n hx hb dX12_years_170 rfl (lv_at hl 3 rfl) ?_
      refine r_if_ne (tgt := 179) hx hb dX12_years_171 (by decide) h (fun h => ?_) (fun h => ?_)
      · refine lv_iload hx hb dX12_years_179 (lv_at hl 5 rfl) ?_
        exact r_iret hx hb hr hlocks hP hS dX12_years_181 h
      · refine lv_iload hx hb dX12_years_174 (lv_at hl 4 rfl) ?_
        refine lv_goto (tgt := 181) hx hb dX12_years_176 (by decide) ?_
        exact r_iret hx hb hr hlocks hP hS dX12_years_181 h
    · refine r_iconst hx hb dX12_years_71 (by decide) h (fun z48 h => ?_)
      refine lv_istore (lv' := [(7, .int z48), (0, .ref (adr G xl0)), (1, .int zl1), (2, .int zl2), (3, .int zl3), (4, .int zl4), (5, .int zl5), (6, .int zl6)]) hx hb dX12_years_72 hl (by decide) rfl (fun ls hl => ?_)
      obtain ⟨n9, h⟩ := h
      exact t_X12_years_74 C ih n9 xl0 zl1 zl2 zl3 zl4 zl5 zl6 z48 _ _ _ _ hP hS (lv_sub hl [1, 2, 3, 4, 5, 6, 7, 0] rfl) h
set_option maxHeartbeats 4000000 in
set_option maxRecDepth 100000 in
theorem c_X12_years (l : Launch) (D : va_G) (G : Gt) (S : Sh) (M : Mm) (xl0 : Int) (zl1 : Int32) (zl2 : Int32) (zl3 : Int32) (post : Int → Mm → Prop) (h : wp_X12_years S M xl0 zl1.toInt zl2.toInt zl3.toInt post) : Met l yX12_years (cw_X12_years :: gw) RM_X12_years (va_Pc [.ref (adr G xl0), .int zl1, .int zl2, .int zl3] (fun U => KN D G U ∧ Wd D G S M U.heap)) (QI D G S post) 0 0 (aG G) := by
  refine Met.ofW (cc := cX12_years) (maxL := 8) (ret := (some .int)) (by decide) rfl ?_
  intro p e s m args below meth c s₁ B hml hv
  obtain ⟨rfl, hK, hP⟩ := hv
  have hx := B.exec
  have hb := B.bytes
  have hr := B.returns
  have hts := atoms_spec (ws := cw_X12_years :: gw) B.pre
  have hown : s.vm.findClass RX12 = some m.cls := findClass_of_methodNamed B.named
  have hlocks := B.notSynchronized
  have hS : va_S (aG G) s.heap s.heap [] := va_S.rf
  have C : Cx p s m ([.ref (adr G xl0), .int zl1, .int zl2, .int zl3] : List Value).toArray meth c D G cX12_years 8 (some .int) (cw_X12_years :: gw) RX12 := ⟨hx, hb, hr, hlocks, hml, hown, hts, hK⟩
  have hl := lv_entry ([.ref (adr G xl0), .int zl1, .int zl2, .int zl3]) (n := 8) (Nat.le_of_ble_eq_true rfl)
  rw [lg_entry_eq]
  generalize (lg_sl ([.ref (adr G xl0), .int zl1, .int zl2, .int zl3]) ++ List.replicate (8 - (lg_sl ([.ref (adr G xl0), .int zl1, .int zl2, .int zl3])).length) Slot.unset).toArray = ls at hl ⊢
  have hl : lv_has ls 8 [(0, .ref (adr G xl0)), (1, .int zl1), (2, .int zl2), (3, .int zl3)] := hl
  unfold wp_X12_years at h
  refine lv_aload_n hx hb dX12_years_0 rfl (lv_at hl 0 rfl) ?_
  refine q_Vi hx hb hml hown hts hK hP hS (c_X12_isDairy l D G S _ xl0 _ h.2) ⟨callB_of 0 hts (gw_good kw_1698) rfl rfl rfl (hts _ (List.mem_cons_of_mem _ kw_14)) (hts _ (List.mem_cons_of_mem _ kw_1695)) hd_X12_isDairy ⟨Nat.le_of_ble_eq_true rfl, Nat.le_of_ble_eq_true rfl⟩, (hts _ (List.mem_cons_of_mem _ kw_1697)), (hts _ (List.mem_cons_of_mem _ kp_96))⟩ h.1 (ci := 12) rfl (by decide) rfl hl.1 rfl (lv_room (Nat.le_of_ble_eq_true rfl)) dX12_years_1 ⟨Nat.zero_le _, Nat.zero_le _⟩ (fun z51 M49 H locs h hP hS => ?_)
  refine r_if_eq (tgt := 41) hx hb dX12_years_4 (by decide) h (fun h => ?_) (fun h => ?_)
  · refine r_iconst hx hb dX12_years_41 (by decide) h (fun z53 h => ?_)
    exact r_iret hx hb hr hlocks hP hS dX12_years_42 h
  · refine lv_iload_n hx hb dX12_years_7 rfl (lv_at hl 1 rfl) ?_
    refine r_i2l hx hb dX12_years_8 h (fun z55 h => ?_)
    refine r_lconst hx hb dX12_years_9 (v := 1) (by decide) h (fun z57 h => ?_)
    refine r_ldc2 hx hb hown (hts _ (List.mem_cons_of_mem _ kw_1870)) dX12_years_10 (n := 10) (by decide) h (fun z59 h => ?_)
    refine q_Si hx hb hml hown hts hK hP hS (c_X12_in l D G S _ z55 z57 z59 _ h) ⟨callB_of 3 hts (gw_good kw_1523) rfl rfl rfl (hts _ (List.mem_cons_of_mem _ kw_14)) (hts _ (List.mem_cons_of_mem _ kw_1521)) hd_X12_in ⟨Nat.le_of_ble_eq_true rfl, Nat.le_of_ble_eq_true rfl⟩, (hts _ (List.mem_cons_of_mem _ kw_1522))⟩ rfl hl.1 rfl (lv_room (Nat.le_of_ble_eq_true rfl)) dX12_years_13 ⟨Nat.zero_le _, Nat.zero_le _⟩ (fun z62 M60 H locs h hP hS => ?_)
    refine r_if_eq (tgt := 41) hx hb dX12_years_16 (by decide) h (fun h => ?_) (fun h => ?_)
    · refine r_iconst hx hb dX12_years_41 (by decide) h (fun z64 h => ?_)
      exact r_iret hx hb hr hlocks hP hS dX12_years_42 h
    · refine lv_iload_n hx hb dX12_years_19 rfl (lv_at hl 2 rfl) ?_
      refine r_i2l hx hb dX12_years_20 h (fun z66 h => ?_)
      refine r_lconst hx hb dX12_years_21 (v := 1) (by decide) h (fun z68 h => ?_)
      refine r_ldc2 hx hb hown (hts _ (List.mem_cons_of_mem _ kw_1927)) dX12_years_22 (n := 60) (by decide) h (fun z70 h => ?_)
      refine q_Si hx hb hml hown hts hK hP hS (c_X12_in l D G S _ z66 z68 z70 _ h) ⟨callB_of 3 hts (gw_good kw_1523) rfl rfl rfl (hts _ (List.mem_cons_of_mem _ kw_14)) (hts _ (List.mem_cons_of_mem _ kw_1521)) hd_X12_in ⟨Nat.le_of_ble_eq_true rfl, Nat.le_of_ble_eq_true rfl⟩, (hts _ (List.mem_cons_of_mem _ kw_1522))⟩ rfl hl.1 rfl (lv_room (Nat.le_of_ble_eq_true rfl)) dX12_years_25 ⟨Nat.zero_le _, Nat.zero_le _⟩ (fun z73 M71 H locs h hP hS => ?_)
      refine r_if_eq (tgt := 41) hx hb dX12_years_28 (by decide) h (fun h => ?_) (fun h => ?_)
      · refine r_iconst hx hb dX12_years_41 (by decide) h (fun z75 h => ?_)
        exact r_iret hx hb hr hlocks hP hS dX12_years_42 h
      · refine lv_iload_n hx hb dX12_years_31 rfl (lv_at hl 3 rfl) ?_
        refine r_i2l hx hb dX12_years_32 h (fun z77 h => ?_)
        refine r_lconst hx hb dX12_years_33 (v := 0) (by decide) h (fun z79 h => ?_)
        refine r_lconst hx hb dX12_years_34 (v := 1) (by decide) h (fun z81 h => ?_)
        refine q_Si hx hb hml hown hts hK hP hS (c_X12_in l D G S _ z77 z79 z81 _ h) ⟨callB_of 3 hts (gw_good kw_1523) rfl rfl rfl (hts _ (List.mem_cons_of_mem _ kw_14)) (hts _ (List.mem_cons_of_mem _ kw_1521)) hd_X12_in ⟨Nat.le_of_ble_eq_true rfl, Nat.le_of_ble_eq_true rfl⟩, (hts _ (List.mem_cons_of_mem _ kw_1522))⟩ rfl hl.1 rfl (lv_room (Nat.le_of_ble_eq_true rfl)) dX12_years_35 ⟨Nat.zero_le _, Nat.zero_le _⟩ (fun z84 M82 H locs h hP hS => ?_)
        refine r_if_ne (tgt := 43) hx hb dX12_years_38 (by decide) h (fun h => ?_) (fun h => ?_)
        · refine lv_aload_n hx hb dX12_years_43 rfl (lv_at hl 0 rfl) ?_
          refine lv_aload_n hx hb dX12_years_44 rfl (lv_at hl 0 rfl) ?_
          refine r_geti (C := RX12) (T := TX12) (N := 38) hx hb hts (fun w h => List.mem_cons_of_mem _ (iX12 w h)) hown hK hP rfl (by decide) rfl 22 (by decide) (hts _ (List.mem_cons_of_mem _ kw_1356)) (fun _ h9 => h9) dX12_years_45 (by decide) h (fun z86 h => ?_)
          refine r_i2l hx hb dX12_years_48 h (fun z88 h => ?_)
          refine r_putl (C := RX12) (T := TX12) (N := 38) hx hb hts (fun w h => List.mem_cons_of_mem _ (iX12 w h)) hown hK hP tyX12 tyX12_ok nmX12 hS rfl (by decide) rfl 33 (by decide) (hts _ (List.mem_cons_of_mem _ kw_1367)) (fun _ h9 => h9) rfl (tyX12_ok 33 (by decide)) rfl rfl dX12_years_49 (by decide) h (fun M89 H locs h hP hS => ?_)
          refine r_iconst hx hb dX12_years_52 (by decide) h (fun z91 h => ?_)
          refine lv_istore (lv' := [(4, .int z91), (0, .ref (adr G xl0)), (1, .int zl1), (2, .int zl2), (3, .int zl3)]) hx hb dX12_years_53 hl (by decide) rfl (fun ls hl => ?_)
          refine r_iconst hx hb dX12_years_55 (by decide) h (fun z93 h => ?_)
          refine lv_istore (lv' := [(5, .int z93), (4, .int z91), (0, .ref (adr G xl0)), (1, .int zl1), (2, .int zl2), (3, .int zl3)]) hx hb dX12_years_56 hl (by decide) rfl (fun ls hl => ?_)
          refine lv_aload_n hx hb dX12_years_58 rfl (lv_at hl 2 rfl) ?_
          refine q_Vv hx hb hml hown hts hK hP hS (c_X12_keeps l D G S _ xl0 _ h.2) ⟨callB_of 0 hts (gw_good kw_1805) rfl rfl rfl (hts _ (List.mem_cons_of_mem _ kw_14)) (hts _ (List.mem_cons_of_mem _ kw_1802)) hd_X12_keeps ⟨Nat.le_of_ble_eq_true rfl, Nat.le_of_ble_eq_true rfl⟩, (hts _ (List.mem_cons_of_mem _ kw_1804)), (hts _ (List.mem_cons_of_mem _ kp_114))⟩ h.1 (ci := 12) rfl (by decide) rfl hl.1 rfl (lv_room (Nat.le_of_ble_eq_true rfl)) dX12_years_59 ⟨Nat.zero_le _, Nat.zero_le _⟩ (fun M94 H locs h hP hS => ?_)
          refine r_iconst hx hb dX12_years_62 (by decide) h (fun z96 h => ?_)
          refine lv_istore (lv' := [(6, .int z96), (5, .int z93), (4, .int z91), (0, .ref (adr G xl0)), (1, .int zl1), (2, .int zl2), (3, .int zl3)]) hx hb dX12_years_63 hl (by decide) rfl (fun ls hl => ?_)
          obtain ⟨n9, h⟩ := h
          exact t_X12_years_65 C n9 xl0 zl1 zl2 zl3 z91 z93 z96 _ _ _ _ hP hS (lv_sub hl [3, 4, 5, 6, 2, 1, 0] rfl) h
        · refine r_iconst hx hb dX12_years_41 (by decide) h (fun z98 h => ?_)
          exact r_iret hx hb hr hlocks hP hS dX12_years_42 h
/-! TurningMilkModel.count(I)I -/
abbrev RM_X12_count : Room := { frames := 2, cells := 0, slots := 0, locals := 64 }
def cw_X12_count : Cond := Cond.code yX12_count cX12_count 2 (Option.some FieldType.int)
theorem hd_X12_count : yX12_count.cls ≠ "java/lang/invoke/MethodHandle" ∧ yX12_count.cls ≠ "java/lang/invoke/VarHandle" ∧ (parseMethodDescriptor yX12_count.desc).map (fun d => d.parameters.length) = some 1 := by decide +kernel
theorem dX12_count_0 : decode cX12_count 0 = .ok (.iload_n 1, 1) := by decide +kernel
theorem dX12_count_1 : decode cX12_count 1 = .ok (.tableswitch 148 0 15 #[79, 79, 79, 79, 79, 79, 79, 86, 91, 96, 104, 116, 124, 133, 138, 143], 79) := by decide +kernel
theorem dX12_count_80 : decode cX12_count 80 = .ok (.aload_n 0, 1) := by decide +kernel
theorem dX12_count_81 : decode cX12_count 81 = .ok (.getfield 39, 3) := by decide +kernel
theorem dX12_count_84 : decode cX12_count 84 = .ok (.iload_n 1, 1) := by decide +kernel
theorem dX12_count_85 : decode cX12_count 85 = .ok (.iaload, 1) := by decide +kernel
theorem dX12_count_86 : decode cX12_count 86 = .ok (.ireturn, 1) := by decide +kernel
theorem dX12_count_87 : decode cX12_count 87 = .ok (.aload_n 0, 1) := by decide +kernel
theorem dX12_count_88 : decode cX12_count 88 = .ok (.getfield 260, 3) := by decide +kernel
theorem dX12_count_91 : decode cX12_count 91 = .ok (.ireturn, 1) := by decide +kernel
theorem dX12_count_92 : decode cX12_count 92 = .ok (.aload_n 0, 1) := by decide +kernel
theorem dX12_count_93 : decode cX12_count 93 = .ok (.getfield 42, 3) := by decide +kernel
theorem dX12_count_96 : decode cX12_count 96 = .ok (.ireturn, 1) := by decide +kernel
theorem dX12_count_97 : decode cX12_count 97 = .ok (.aload_n 0, 1) := by decide +kernel
theorem dX12_count_98 : decode cX12_count 98 = .ok (.getfield 39, 3) := by decide +kernel
theorem dX12_count_101 : decode cX12_count 101 = .ok (.bipush 7, 2) := by decide +kernel
theorem dX12_count_103 : decode cX12_count 103 = .ok (.iaload, 1) := by decide +kernel
theorem dX12_count_104 : decode cX12_count 104 = .ok (.ireturn, 1) := by decide +kernel
theorem dX12_count_105 : decode cX12_count 105 = .ok (.aload_n 0, 1) := by decide +kernel
theorem dX12_count_106 : decode cX12_count 106 = .ok (.aload_n 0, 1) := by decide +kernel
theorem dX12_count_107 : decode cX12_count 107 = .ok (.getfield 39, 3) := by decide +kernel
theorem dX12_count_110 : decode cX12_count 110 = .ok (.bipush 7, 2) := by decide +kernel
theorem dX12_count_112 : decode cX12_count 112 = .ok (.iaload, 1) := by decide +kernel
theorem dX12_count_113 : decode cX12_count 113 = .ok (.invokevirtual 325, 3) := by decide +kernel
theorem dX12_count_116 : decode cX12_count 116 = .ok (.ireturn, 1) := by decide +kernel
theorem dX12_count_117 : decode cX12_count 117 = .ok (.aload_n 0, 1) := by decide +kernel
theorem dX12_count_118 : decode cX12_count 118 = .ok (.getfield 39, 3) := by decide +kernel
theorem dX12_count_121 : decode cX12_count 121 = .ok (.bipush 8, 2) := by decide +kernel
theorem dX12_count_123 : decode cX12_count 123 = .ok (.iaload, 1) := by decide +kernel
theorem dX12_count_124 : decode cX12_count 124 = .ok (.ireturn, 1) := by decide +kernel
theorem dX12_count_125 : decode cX12_count 125 = .ok (.aload_n 0, 1) := by decide +kernel
theorem dX12_count_126 : decode cX12_count 126 = .ok (.getfield 39, 3) := by decide +kernel
theorem dX12_count_129 : decode cX12_count 129 = .ok (.sipush 157, 3) := by decide +kernel
theorem dX12_count_132 : decode cX12_count 132 = .ok (.iaload, 1) := by decide +kernel
theorem dX12_count_133 : decode cX12_count 133 = .ok (.ireturn, 1) := by decide +kernel
theorem dX12_count_134 : decode cX12_count 134 = .ok (.aload_n 0, 1) := by decide +kernel
theorem dX12_count_135 : decode cX12_count 135 = .ok (.getfield 266, 3) := by decide +kernel
theorem dX12_count_138 : decode cX12_count 138 = .ok (.ireturn, 1) := by decide +kernel
theorem dX12_count_139 : decode cX12_count 139 = .ok (.aload_n 0, 1) := by decide +kernel
theorem dX12_count_140 : decode cX12_count 140 = .ok (.getfield 477, 3) := by decide +kernel
theorem dX12_count_143 : decode cX12_count 143 = .ok (.ireturn, 1) := by decide +kernel
theorem dX12_count_144 : decode cX12_count 144 = .ok (.aload_n 0, 1) := by decide +kernel
theorem dX12_count_145 : decode cX12_count 145 = .ok (.getfield 80, 3) := by decide +kernel
theorem dX12_count_148 : decode cX12_count 148 = .ok (.ireturn, 1) := by decide +kernel
theorem dX12_count_149 : decode cX12_count 149 = .ok (.iconst (-1), 1) := by decide +kernel
theorem dX12_count_150 : decode cX12_count 150 = .ok (.ireturn, 1) := by decide +kernel
def wp_X12_count (S : Sh) (M : Mm) (u0 : Int) (u1 : Int) (post : Int → Mm → Prop) : Prop := wIf (u1 = 0) (wGetR S M u0 12 20 fun v1 => wLd S M v1 14 u1 fun v3 => post v3 M) (wIf (u1 = 1) (wGetR S M u0 12 20 fun v5 => wLd S M v5 14 u1 fun v7 => post v7 M) (wIf (u1 = 2) (wGetR S M u0 12 20 fun v9 => wLd S M v9 14 u1 fun v11 => post v11 M) (wIf (u1 = 3) (wGetR S M u0 12 20 fun v13 => wLd S M v13 14 u1 fun v15 => post v15 M) (wIf (u1 = 4) (wGetR S M u0 12 20 fun v17 => wLd S M v17 14 u1 fun v19 => post v19 M) (wIf (u1 = 5) (wGetR S M u0 12 20 fun v21 => wLd S M v21 14 u1 fun v23 => post v23 M) (wIf (u1 = 6) (wGetR S M u0 12 20 fun v25 => wLd S M v25 14 u1 fun v27 => post v27 M) (wIf (u1 = 7) (wGet S M u0 12 2 fun v29 => post v29 M) (wIf (u1 = 8) (wGet S M u0 12 21 fun v31 => post v31 M) (wIf (u1 = 9) (wGetR S M u0 12 20 fun v33 => wC 7 fun v35 => wLd S M v33 14 v35 fun v37 => post v37 M) (wIf (u1 = 10) (wGetR S M u0 12 20 fun v39 => wC 7 fun v41 => wLd S M v39 14 v41 fun v43 => isK S u0 12 ∧ (wp_X12_heatIn S M u0 v43 <| fun v46 M45 => post v46 M45)) (wIf (u1 = 11) (wGetR S M u0 12 20 fun v48 => wC 8 fun v50 => wLd S M v48 14 v50 fun v52 => post v52 M) (wIf (u1 = 12) (wGetR S M u0 12 20 fun v54 => wC 157 fun v56 => wLd S M v54 14 v56 fun v58 => post v58 M) (wIf (u1 = 13) (wGet S M u0 12 25 fun v60 => post v60 M) (wIf (u1 = 14) (wGet S M u0 12 22 fun v62 => post v62 M) (wIf (u1 = 15) (wGet S M u0 12 1 fun v64 => post v64 M) (wC (-1) fun v66 => post v66 M))))))))))))))))
set_option maxHeartbeats 4000000 in
set_option maxRecDepth 100000 in
theorem c_X12_count (l : Launch) (D : va_G) (G : Gt) (S : Sh) (M : Mm) (xl0 : Int) (zl1 : Int32) (post : Int → Mm → Prop) (h : wp_X12_count S M xl0 zl1.toInt post) : Met l yX12_count (cw_X12_count :: gw) RM_X12_count (va_Pc [.ref (adr G xl0), .int zl1] (fun U => KN D G U ∧ Wd D G S M U.heap)) (QI D G S post) 0 0 (aG G) := by
  refine Met.ofW (cc := cX12_count) (maxL := 2) (ret := (some .int)) (by decide) rfl ?_
  intro p e s m args below meth c s₁ B hml hv
  obtain ⟨rfl, hK, hP⟩ := hv
  have hx := B.exec
  have hb := B.bytes
  have hr := B.returns
  have hts := atoms_spec (ws := cw_X12_count :: gw) B.pre
  have hown : s.vm.findClass RX12 = some m.cls := findClass_of_methodNamed B.named
  have hlocks := B.notSynchronized
  have hS : va_S (aG G) s.heap s.heap [] := va_S.rf
  have C : Cx p s m ([.ref (adr G xl0), .int zl1] : List Value).toArray meth c D G cX12_count 2 (some .int) (cw_X12_count :: gw) RX12 := ⟨hx, hb, hr, hlocks, hml, hown, hts, hK⟩
  have hl := lv_entry ([.ref (adr G xl0), .int zl1]) (n := 2) (Nat.le_of_ble_eq_true rfl)
  rw [lg_entry_eq]
  generalize (lg_sl ([.ref (adr G xl0), .int zl1]) ++ List.replicate (2 - (lg_sl ([.ref (adr G xl0), .int zl1])).length) Slot.unset).toArray = ls at hl ⊢
  have hl : lv_has ls 2 [(0, .ref (adr G xl0)), (1, .int zl1)] := hl
  unfold wp_X12_count at h
  refine lv_iload_n hx hb dX12_count_0 rfl (lv_at hl 1 rfl) ?_
  refine sw (c := zl1.toInt = 0) h (fun e0 h => ?_) (fun e0 h => ?_)
  · refine lv_tableIn (tgt := 80) hx hb dX12_count_1 (by omega) (by omega) (by rw [e0]; rfl) (by decide) ?_
    refine lv_aload_n hx hb dX12_count_80 rfl (lv_at hl 0 rfl) ?_
    refine r_getr (C := RX12) (T := TX12) (N := 38) hx hb hts (fun w h => List.mem_cons_of_mem _ (iX12 w h)) hown hK hP rfl (by decide) rfl 20 (by decide) (hts _ (List.mem_cons_of_mem _ kw_1354)) (fun _ h9 => h9) dX12_count_81 (by decide) h (fun x2 h => ?_)
    refine lv_iload_n hx hb dX12_count_84 rfl (lv_at hl 1 rfl) ?_
    refine r_iald hx hb hK hP dX12_count_85 h (fun z4 h => ?_)
    exact r_iret hx hb hr hlocks hP hS dX12_count_86 h
  · refine sw (c := zl1.toInt = 1) h (fun e1 h => ?_) (fun e1 h => ?_)
    · refine lv_tableIn (tgt := 80) hx hb dX12_count_1 (by omega) (by omega) (by rw [e1]; rfl) (by decide) ?_
      refine lv_aload_n hx hb dX12_count_80 rfl (lv_at hl 0 rfl) ?_
      refine r_getr (C := RX12) (T := TX12) (N := 38) hx hb hts (fun w h => List.mem_cons_of_mem _ (iX12 w h)) hown hK hP rfl (by decide) rfl 20 (by decide) (hts _ (List.mem_cons_of_mem _ kw_1354)) (fun _ h9 => h9) dX12_count_81 (by decide) h (fun x6 h => ?_)
      refine lv_iload_n hx hb dX12_count_84 rfl (lv_at hl 1 rfl) ?_
      refine r_iald hx hb hK hP dX12_count_85 h (fun z8 h => ?_)
      exact r_iret hx hb hr hlocks hP hS dX12_count_86 h
    · refine sw (c := zl1.toInt = 2) h (fun e2 h => ?_) (fun e2 h => ?_)
      · refine lv_tableIn (tgt := 80) hx hb dX12_count_1 (by omega) (by omega) (by rw [e2]; rfl) (by decide) ?_
        refine lv_aload_n hx hb dX12_count_80 rfl (lv_at hl 0 rfl) ?_
        refine r_getr (C := RX12) (T := TX12) (N := 38) hx hb hts (fun w h => List.mem_cons_of_mem _ (iX12 w h)) hown hK hP rfl (by decide) rfl 20 (by decide) (hts _ (List.mem_cons_of_mem _ kw_1354)) (fun _ h9 => h9) dX12_count_81 (by decide) h (fun x10 h => ?_)
        refine lv_iload_n hx hb dX12_count_84 rfl (lv_at hl 1 rfl) ?_
        refine r_iald hx hb hK hP dX12_count_85 h (fun z12 h => ?_)
        exact r_iret hx hb hr hlocks hP hS dX12_count_86 h
      · refine sw (c := zl1.toInt = 3) h (fun e3 h => ?_) (fun e3 h => ?_)
        · refine lv_tableIn (tgt := 80) hx hb dX12_count_1 (by omega) (by omega) (by rw [e3]; rfl) (by decide) ?_
          refine lv_aload_n hx hb dX12_count_80 rfl (lv_at hl 0 rfl) ?_
          refine r_getr (C := RX12) (T := TX12) (N := 38) hx hb hts (fun w h => List.mem_cons_of_mem _ (iX12 w h)) hown hK hP rfl (by decide) rfl 20 (by decide) (hts _ (List.mem_cons_of_mem _ kw_1354)) (fun _ h9 => h9) dX12_count_81 (by decide) h (fun x14 h => ?_)
          refine lv_iload_n hx hb dX12_count_84 rfl (lv_at hl 1 rfl) ?_
          refine r_iald hx hb hK hP dX12_count_85 h (fun z16 h => ?_)
          exact r_iret hx hb hr hlocks hP hS dX12_count_86 h
        · refine sw (c := zl1.toInt = 4) h (fun e4 h => ?_) (fun e4 h => ?_)
          · refine lv_tableIn (tgt := 80) hx hb dX12_count_1 (by omega) (by omega) (by rw [e4]; rfl) (by decide) ?_
            refine lv_aload_n hx hb dX12_count_80 rfl (lv_at hl 0 rfl) ?_
            refine r_getr (C := RX12) (T := TX12) (N := 38) hx hb hts (fun w h => List.mem_cons_of_mem _ (iX12 w h)) hown hK hP rfl (by decide) rfl 20 (by decide) (hts _ (List.mem_cons_of_mem _ kw_1354)) (fun _ h9 => h9) dX12_count_81 (by decide) h (fun x18 h => ?_)
            refine lv_iload_n hx hb dX12_count_84 rfl (lv_at hl 1 rfl) ?_
            refine r_iald hx hb hK hP dX12_count_85 h (fun z20 h => ?_)
            exact r_iret hx hb hr hlocks hP hS dX12_count_86 h
          · refine sw (c := zl1.toInt = 5) h (fun e5 h => ?_) (fun e5 h => ?_)
            · refine lv_tableIn (tgt := 80) hx hb dX12_count_1 (by omega) (by omega) (by rw [e5]; rfl) (by decide) ?_
              refine lv_aload_n hx hb dX12_count_80 rfl (lv_at hl 0 rfl) ?_
              refine r_getr (C := RX12) (T := TX12) (N := 38) hx hb hts (fun w h => List.mem_cons_of_mem _ (iX12 w h)) hown hK hP rfl (by decide) rfl 20 (by decide) (hts _ (List.mem_cons_of_mem _ kw_1354)) (fun _ h9 => h9) dX12_count_81 (by decide) h (fun x22 h => ?_)
              refine lv_iload_n hx hb dX12_count_84 rfl (lv_at hl 1 rfl) ?_
              refine r_iald hx hb hK hP dX12_count_85 h (fun z24 h => ?_)
              exact r_iret hx hb hr hlocks hP hS dX12_count_86 h
            · refine sw (c := zl1.toInt = 6) h (fun e6 h => ?_) (fun e6 h => ?_)
              · refine lv_tableIn (tgt := 80) hx hb dX12_count_1 (by omega) (by omega) (by rw [e6]; rfl) (by decide) ?_
                refine lv_aload_n hx hb dX12_count_80 rfl (lv_at hl 0 rfl) ?_
                refine r_getr (C := RX12) (T := TX12) (N := 38) hx hb hts (fun w h => List.mem_cons_of_mem _ (iX12 w h)) hown hK hP rfl (by decide) rfl 20 (by decide) (hts _ (List.mem_cons_of_mem _ kw_1354)) (fun _ h9 => h9) dX12_count_81 (by decide) h (fun x26 h => ?_)
                refine lv_iload_n hx hb dX12_count_84 rfl (lv_at hl 1 rfl) ?_
                refine r_iald hx hb hK hP dX12_count_85 h (fun z28 h => ?_)
                exact r_iret hx hb hr hlocks hP hS dX12_count_86 h
              · refine sw (c := zl1.toInt = 7) h (fun e7 h => ?_) (fun e7 h => ?_)
                · refine lv_tableIn (tgt := 87) hx hb dX12_count_1 (by omega) (by omega) (by rw [e7]; rfl) (by decide) ?_
                  refine lv_aload_n hx hb dX12_count_87 rfl (lv_at hl 0 rfl) ?_
                  refine r_geti (C := RX12) (T := TX12) (N := 38) hx hb hts (fun w h => List.mem_cons_of_mem _ (iX12 w h)) hown hK hP rfl (by decide) rfl 2 (by decide) (hts _ (List.mem_cons_of_mem _ kw_1336)) (fun _ h9 => h9) dX12_count_88 (by decide) h (fun z30 h => ?_)
                  exact r_iret hx hb hr hlocks hP hS dX12_count_91 h
                · refine sw (c := zl1.toInt = 8) h (fun e8 h => ?_) (fun e8 h => ?_)
                  · refine lv_tableIn (tgt := 92) hx hb dX12_count_1 (by omega) (by omega) (by rw [e8]; rfl) (by decide) ?_
                    refine lv_aload_n hx hb dX12_count_92 rfl (lv_at hl 0 rfl) ?_
                    refine r_geti (C := RX12) (T := TX12) (N := 38) hx hb hts (fun w h => List.mem_cons_of_mem _ (iX12 w h)) hown hK hP rfl (by decide) rfl 21 (by decide) (hts _ (List.mem_cons_of_mem _ kw_1355)) (fun _ h9 => h9) dX12_count_93 (by decide) h (fun z32 h => ?_)
                    exact r_iret hx hb hr hlocks hP hS dX12_count_96 h
                  · refine sw (c := zl1.toInt = 9) h (fun e9 h => ?_) (fun e9 h => ?_)
                    · refine lv_tableIn (tgt := 97) hx hb dX12_count_1 (by omega) (by omega) (by rw [e9]; rfl) (by decide) ?_
                      refine lv_aload_n hx hb dX12_count_97 rfl (lv_at hl 0 rfl) ?_
                      refine r_getr (C := RX12) (T := TX12) (N := 38) hx hb hts (fun w h => List.mem_cons_of_mem _ (iX12 w h)) hown hK hP rfl (by decide) rfl 20 (by decide) (hts _ (List.mem_cons_of_mem _ kw_1354)) (fun _ h9 => h9) dX12_count_98 (by decide) h (fun x34 h => ?_)
                      refine r_bipush hx hb dX12_count_101 (by decide) h (fun z36 h => ?_)
                      refine r_iald hx hb hK hP dX12_count_103 h (fun z38 h => ?_)
                      exact r_iret hx hb hr hlocks hP hS dX12_count_104 h
                    · refine sw (c := zl1.toInt = 10) h (fun e10 h => ?_) (fun e10 h => ?_)
                      · refine lv_tableIn (tgt := 105) hx hb dX12_count_1 (by omega) (by omega) (by rw [e10]; rfl) (by decide) ?_
                        refine lv_aload_n hx hb dX12_count_105 rfl (lv_at hl 0 rfl) ?_
                        refine lv_aload_n hx hb dX12_count_106 rfl (lv_at hl 0 rfl) ?_
                        refine r_getr (C := RX12) (T := TX12) (N := 38) hx hb hts (fun w h => List.mem_cons_of_mem _ (iX12 w h)) hown hK hP rfl (by decide) rfl 20 (by decide) (hts _ (List.mem_cons_of_mem _ kw_1354)) (fun _ h9 => h9) dX12_count_107 (by decide) h (fun x40 h => ?_)
                        refine r_bipush hx hb dX12_count_110 (by decide) h (fun z42 h => ?_)
                        refine r_iald hx hb hK hP dX12_count_112 h (fun z44 h => ?_)
                        refine q_Vi hx hb hml hown hts hK hP hS (c_X12_heatIn l D G S _ xl0 z44 _ h.2) ⟨callB_of 1 hts (gw_good kw_1714) rfl rfl rfl (hts _ (List.mem_cons_of_mem _ kw_14)) (hts _ (List.mem_cons_of_mem _ kw_1711)) hd_X12_heatIn ⟨Nat.le_of_ble_eq_true rfl, Nat.le_of_ble_eq_true rfl⟩, (hts _ (List.mem_cons_of_mem _ kw_1713)), (hts _ (List.mem_cons_of_mem _ kp_100))⟩ h.1 (ci := 12) rfl (by decide) rfl hl.1 rfl (lv_room (Nat.le_of_ble_eq_true rfl)) dX12_count_113 ⟨Nat.zero_le _, Nat.zero_le _⟩ (fun z47 M45 H locs h hP hS => ?_)
                        exact r_iret hx hb hr hlocks hP hS dX12_count_116 h
                      · refine sw (c := zl1.toInt = 11) h (fun e11 h => ?_) (fun e11 h => ?_)
                        · refine lv_tableIn (tgt := 117) hx hb dX12_count_1 (by omega) (by omega) (by rw [e11]; rfl) (by decide) ?_
                          refine lv_aload_n hx hb dX12_count_117 rfl (lv_at hl 0 rfl) ?_
                          refine r_getr (C := RX12) (T := TX12) (N := 38) hx hb hts (fun w h => List.mem_cons_of_mem _ (iX12 w h)) hown hK hP rfl (by decide) rfl 20 (by decide) (hts _ (List.mem_cons_of_mem _ kw_1354)) (fun _ h9 => h9) dX12_count_118 (by decide) h (fun x49 h => ?_)
                          refine r_bipush hx hb dX12_count_121 (by decide) h (fun z51 h => ?_)
                          refine r_iald hx hb hK hP dX12_count_123 h (fun z53 h => ?_)
                          exact r_iret hx hb hr hlocks hP hS dX12_count_124 h
                        · refine sw (c := zl1.toInt = 12) h (fun e12 h => ?_) (fun e12 h => ?_)
                          · refine lv_tableIn (tgt := 125) hx hb dX12_count_1 (by omega) (by omega) (by rw [e12]; rfl) (by decide) ?_
                            refine lv_aload_n hx hb dX12_count_125 rfl (lv_at hl 0 rfl) ?_
                            refine r_getr (C := RX12) (T := TX12) (N := 38) hx hb hts (fun w h => List.mem_cons_of_mem _ (iX12 w h)) hown hK hP rfl (by decide) rfl 20 (by decide) (hts _ (List.mem_cons_of_mem _ kw_1354)) (fun _ h9 => h9) dX12_count_126 (by decide) h (fun x55 h => ?_)
                            refine r_sipush hx hb dX12_count_129 (by decide) h (fun z57 h => ?_)
                            refine r_iald hx hb hK hP dX12_count_132 h (fun z59 h => ?_)
                            exact r_iret hx hb hr hlocks hP hS dX12_count_133 h
                          · refine sw (c := zl1.toInt = 13) h (fun e13 h => ?_) (fun e13 h => ?_)
                            · refine lv_tableIn (tgt := 134) hx hb dX12_count_1 (by omega) (by omega) (by rw [e13]; rfl) (by decide) ?_
                              refine lv_aload_n hx hb dX12_count_134 rfl (lv_at hl 0 rfl) ?_
                              refine r_geti (C := RX12) (T := TX12) (N := 38) hx hb hts (fun w h => List.mem_cons_of_mem _ (iX12 w h)) hown hK hP rfl (by decide) rfl 25 (by decide) (hts _ (List.mem_cons_of_mem _ kw_1359)) (fun _ h9 => h9) dX12_count_135 (by decide) h (fun z61 h => ?_)
                              exact r_iret hx hb hr hlocks hP hS dX12_count_138 h
                            · refine sw (c := zl1.toInt = 14) h (fun e14 h => ?_) (fun e14 h => ?_)
                              · refine lv_tableIn (tgt := 139) hx hb dX12_count_1 (by omega) (by omega) (by rw [e14]; rfl) (by decide) ?_
                                refine lv_aload_n hx hb dX12_count_139 rfl (lv_at hl 0 rfl) ?_
                                refine r_geti (C := RX12) (T := TX12) (N := 38) hx hb hts (fun w h => List.mem_cons_of_mem _ (iX12 w h)) hown hK hP rfl (by decide) rfl 22 (by decide) (hts _ (List.mem_cons_of_mem _ kw_1356)) (fun _ h9 => h9) dX12_count_140 (by decide) h (fun z63 h => ?_)
                                exact r_iret hx hb hr hlocks hP hS dX12_count_143 h
                              · refine sw (c := zl1.toInt = 15) h (fun e15 h => ?_) (fun e15 h => ?_)
                                · refine lv_tableIn (tgt := 144) hx hb dX12_count_1 (by omega) (by omega) (by rw [e15]; rfl) (by decide) ?_
                                  refine lv_aload_n hx hb dX12_count_144 rfl (lv_at hl 0 rfl) ?_
                                  refine r_geti (C := RX12) (T := TX12) (N := 38) hx hb hts (fun w h => List.mem_cons_of_mem _ (iX12 w h)) hown hK hP rfl (by decide) rfl 1 (by decide) (hts _ (List.mem_cons_of_mem _ kw_1335)) (fun _ h9 => h9) dX12_count_145 (by decide) h (fun z65 h => ?_)
                                  exact r_iret hx hb hr hlocks hP hS dX12_count_148 h
                                · refine lv_tableOut (tgt := 149) hx hb dX12_count_1 (by omega) (by decide) ?_
                                  refine r_iconst hx hb dX12_count_149 (by decide) h (fun z67 h => ?_)
                                  exact r_iret hx hb hr hlocks hP hS dX12_count_150 h
/-! TurningMilkModel.image(I)I -/
abbrev RM_X12_image : Room := { frames := 2, cells := 0, slots := 0, locals := 65 }
def cw_X12_image : Cond := Cond.code yX12_image cX12_image 3 (Option.some FieldType.int)
theorem hd_X12_image : yX12_image.cls ≠ "java/lang/invoke/MethodHandle" ∧ yX12_image.cls ≠ "java/lang/invoke/VarHandle" ∧ (parseMethodDescriptor yX12_image.desc).map (fun d => d.parameters.length) = some 1 := by decide +kernel
theorem dX12_image_0 : decode cX12_image 0 = .ok (.iload_n 1, 1) := by decide +kernel
theorem dX12_image_1 : decode cX12_image 1 = .ok (.i2l, 1) := by decide +kernel
theorem dX12_image_2 : decode cX12_image 2 = .ok (.lconst 0, 1) := by decide +kernel
theorem dX12_image_3 : decode cX12_image 3 = .ok (.ldc2_w 498, 3) := by decide +kernel
theorem dX12_image_6 : decode cX12_image 6 = .ok (.invokestatic 118, 3) := by decide +kernel
theorem dX12_image_9 : decode cX12_image 9 = .ok (.ifCond .ne 5, 3) := by decide +kernel
theorem dX12_image_12 : decode cX12_image 12 = .ok (.iconst (-1), 1) := by decide +kernel
theorem dX12_image_13 : decode cX12_image 13 = .ok (.ireturn, 1) := by decide +kernel
theorem dX12_image_14 : decode cX12_image 14 = .ok (.aload_n 0, 1) := by decide +kernel
theorem dX12_image_15 : decode cX12_image 15 = .ok (.getfield 77, 3) := by decide +kernel
theorem dX12_image_18 : decode cX12_image 18 = .ok (.iload_n 1, 1) := by decide +kernel
theorem dX12_image_19 : decode cX12_image 19 = .ok (.iconst 1, 1) := by decide +kernel
theorem dX12_image_20 : decode cX12_image 20 = .ok (.bastore, 1) := by decide +kernel
theorem dX12_image_21 : decode cX12_image 21 = .ok (.aload_n 0, 1) := by decide +kernel
theorem dX12_image_22 : decode cX12_image 22 = .ok (.getfield 71, 3) := by decide +kernel
theorem dX12_image_25 : decode cX12_image 25 = .ok (.iload_n 1, 1) := by decide +kernel
theorem dX12_image_26 : decode cX12_image 26 = .ok (.aload_n 0, 1) := by decide +kernel
theorem dX12_image_27 : decode cX12_image 27 = .ok (.getfield 42, 3) := by decide +kernel
theorem dX12_image_30 : decode cX12_image 30 = .ok (.iastore, 1) := by decide +kernel
theorem dX12_image_31 : decode cX12_image 31 = .ok (.aload_n 0, 1) := by decide +kernel
theorem dX12_image_32 : decode cX12_image 32 = .ok (.getfield 74, 3) := by decide +kernel
theorem dX12_image_35 : decode cX12_image 35 = .ok (.iload_n 1, 1) := by decide +kernel
theorem dX12_image_36 : decode cX12_image 36 = .ok (.aload_n 0, 1) := by decide +kernel
theorem dX12_image_37 : decode cX12_image 37 = .ok (.getfield 477, 3) := by decide +kernel
theorem dX12_image_40 : decode cX12_image 40 = .ok (.iastore, 1) := by decide +kernel
theorem dX12_image_41 : decode cX12_image 41 = .ok (.iconst 0, 1) := by decide +kernel
theorem dX12_image_42 : decode cX12_image 42 = .ok (.istore_n 2, 1) := by decide +kernel
theorem dX12_image_43 : decode cX12_image 43 = .ok (.iload_n 2, 1) := by decide +kernel
theorem dX12_image_44 : decode cX12_image 44 = .ok (.sipush 158, 3) := by decide +kernel
theorem dX12_image_47 : decode cX12_image 47 = .ok (.if_icmp .ge 27, 3) := by decide +kernel
theorem dX12_image_50 : decode cX12_image 50 = .ok (.aload_n 0, 1) := by decide +kernel
theorem dX12_image_51 : decode cX12_image 51 = .ok (.getfield 68, 3) := by decide +kernel
theorem dX12_image_54 : decode cX12_image 54 = .ok (.sipush 158, 3) := by decide +kernel
theorem dX12_image_57 : decode cX12_image 57 = .ok (.iload_n 1, 1) := by decide +kernel
theorem dX12_image_58 : decode cX12_image 58 = .ok (.imul, 1) := by decide +kernel
theorem dX12_image_59 : decode cX12_image 59 = .ok (.iload_n 2, 1) := by decide +kernel
theorem dX12_image_60 : decode cX12_image 60 = .ok (.iadd, 1) := by decide +kernel
theorem dX12_image_61 : decode cX12_image 61 = .ok (.aload_n 0, 1) := by decide +kernel
theorem dX12_image_62 : decode cX12_image 62 = .ok (.getfield 39, 3) := by decide +kernel
theorem dX12_image_65 : decode cX12_image 65 = .ok (.iload_n 2, 1) := by decide +kernel
theorem dX12_image_66 : decode cX12_image 66 = .ok (.iaload, 1) := by decide +kernel
theorem dX12_image_67 : decode cX12_image 67 = .ok (.iastore, 1) := by decide +kernel
theorem dX12_image_68 : decode cX12_image 68 = .ok (.iinc 2 1, 3) := by decide +kernel
theorem dX12_image_71 : decode cX12_image 71 = .ok (.goto (-28), 3) := by decide +kernel
theorem dX12_image_74 : decode cX12_image 74 = .ok (.aload_n 0, 1) := by decide +kernel
theorem dX12_image_75 : decode cX12_image 75 = .ok (.getfield 39, 3) := by decide +kernel
theorem dX12_image_78 : decode cX12_image 78 = .ok (.bipush 7, 2) := by decide +kernel
theorem dX12_image_80 : decode cX12_image 80 = .ok (.iaload, 1) := by decide +kernel
theorem dX12_image_81 : decode cX12_image 81 = .ok (.ireturn, 1) := by decide +kernel
def wp_X12_image_43 (S : Sh) (post : Int → Mm → Prop) : Nat → Int → Int → Int → Mm → Prop
  | 0, _, _, _, _ => False
  | n + 1, u0, u1, u2, M => wC 158 fun v1 => wIf (v1 ≤ u2) (wGetR S M u0 12 20 fun v3 => wC 7 fun v5 => wLd S M v3 14 v5 fun v7 => post v7 M) (wGetR S M u0 12 34 fun v9 => wC 158 fun v11 => wM v11 u1 fun v13 => wA v13 u2 fun v15 => wGetR S M u0 12 20 fun v17 => wLd S M v17 14 u2 fun v19 => wSt S M v9 14 v15 v19 fun M21 => wA u2 1 fun v22 => wp_X12_image_43 S post n u0 u1 v22 M21)
def wp_X12_image (S : Sh) (M : Mm) (u0 : Int) (u1 : Int) (post : Int → Mm → Prop) : Prop := wC u1 fun v24 => wC 0 fun v26 => wC 3 fun v28 => wp_X12_in S M v24 v26 v28 <| fun v31 M30 => wIf (¬ v31 = 0) (wGetR S M30 u0 12 37 fun v33 => wC 1 fun v35 => wStZ S M30 v33 15 u1 v35 fun M37 => wGetR S M37 u0 12 35 fun v38 => wGet S M37 u0 12 21 fun v40 => wSt S M37 v38 14 u1 v40 fun M42 => wGetR S M42 u0 12 36 fun v43 => wGet S M42 u0 12 22 fun v45 => wSt S M42 v43 14 u1 v45 fun M47 => wC 0 fun v48 => ∃ n9 : Nat, wp_X12_image_43 S post n9 u0 u1 v48 M47) (wC (-1) fun v50 => post v50 M30)
set_option maxHeartbeats 4000000 in
set_option maxRecDepth 100000 in
theorem t_X12_image_43 {p : Program} {l : Launch} {e : Env} {s : State} {m : MethodId} {args : Array Value} {below : List Frame} {meth : Method} {c : Code} {D : va_G} {G : Gt} {S : Sh} {post : Int → Mm → Prop} (C : Cx p s m args meth c D G cX12_image 3 (some .int) (cw_X12_image :: gw) RX12) : ∀ (n : Nat) (xl0 : Int) (zl1 : Int32) (zl2 : Int32) (M : Mm) (H : Heap) (locs : List Loc) (ls : Array Slot), Wd D G S M H → va_S (aG G) s.heap H locs → lv_has ls 3 [(0, .ref (adr G xl0)), (1, .int zl1), (2, .int zl2)] → wp_X12_image_43 S post n xl0 zl1.toInt zl2.toInt  M → W p l e RM_X12_image s m args below meth c H locs 0 0 (MQ below (QI D G S post) args s 0 0 (aG G)) (F0 m 43 ls []) := by
  obtain ⟨hx, hb, hr, hlocks, hml, hown, hts, hK⟩ := id C
  intro n
  induction n with
  | zero => intro xl0 zl1 zl2 M H locs ls hP hS hl h; exact h.elim
  | succ n ih =>
    intro xl0 zl1 zl2 M H locs ls hP hS hl h
    unfold wp_X12_image_43 at h
    refine lv_iload_n hx hb dX12_image_43 rfl (lv_at hl 2 rfl) ?_
    refine r_sipush hx hb dX12_image_44 (by decide) h (fun z2 h => ?_)
    refine r_icmp_ge (tgt := 74) hx hb dX12_image_47 (by decide) h (fun h => ?_) (fun h => ?_)
    · refine lv_aload_n hx hb dX12_image_74 rfl (lv_at hl 0 rfl) ?_
      refine r_getr (C := RX12) (T := TX12) (N := 38) hx hb hts (fun w h => List.mem_cons_of_mem _ (iX12 w h)) hown hK hP rfl (by decide) rfl 20 (by decide) (hts _ (List.mem_cons_of_mem _ kw_1354)) (fun _ h9 => h9) dX12_image_75 (by decide) h (fun x4 h => ?_)
      refine r_bipush hx hb dX12_image_78 (by decide) h (fun z6 h => ?_)
      refine r_iald hx hb hK hP dX12_image_80 h (fun z8 h => ?_)
      exact r_iret hx hb hr hlocks hP hS dX12_image_81 h
    · refine lv_aload_n hx hb dX12_image_50 rfl (lv_at hl 0 rfl) ?_
      refine r_getr (C := RX12) (T := TX12) (N := 38) hx hb hts (fun w h => List.mem_cons_of_mem _ (iX12 w h)) hown hK hP rfl (by decide) rfl 34 (by decide) (hts _ (List.mem_cons_of_mem _ kw_1368)) (fun _ h9 => h9) dX12_image_51 (by decide) h (fun x10 h => ?_)
      refine r_sipush hx hb dX12_image_54 (by decide) h (fun z12 h => ?_)
      refine lv_iload_n hx hb dX12_image_57 rfl (lv_at hl 1 rfl) ?_
      refine r_imul hx hb dX12_image_58 h (fun z14 h => ?_)
      refine lv_iload_n hx hb dX12_image_59 rfl (lv_at hl 2 rfl) ?_
      refine r_iadd hx hb dX12_image_60 h (fun z16 h => ?_)
      refine lv_aload_n hx hb dX12_image_61 rfl (lv_at hl 0 rfl) ?_
      refine r_getr (C := RX12) (T := TX12) (N := 38) hx hb hts (fun w h => List.mem_cons_of_mem _ (iX12 w h)) hown hK hP rfl (by decide) rfl 20 (by decide) (hts _ (List.mem_cons_of_mem _ kw_1354)) (fun _ h9 => h9) dX12_image_62 (by decide) h (fun x18 h => ?_)
      refine lv_iload_n hx hb dX12_image_65 rfl (lv_at hl 2 rfl) ?_
      refine r_iald hx hb hK hP dX12_image_66 h (fun z20 h => ?_)
      refine r_iast hx hb hK hP hS dX12_image_67 h (fun M21 H locs h hP hS => ?_)
      refine r_iinc hx hb (fun z23 => [(2, .int z23), (0, .ref (adr G xl0)), (1, .int zl1)]) dX12_image_68 (by decide) hl (k := 2) rfl (by decide) (fun _ => rfl) h (fun z23 ls hl h => ?_)
      refine lv_goto (tgt := 43) hx hb dX12_image_71 (by decide) ?_
      exact ih xl0 zl1 z23 _ _ _ _ hP hS (lv_sub hl [1, 2, 0] rfl) h
set_option maxHeartbeats 4000000 in
set_option maxRecDepth 100000 in
theorem c_X12_image (l : Launch) (D : va_G) (G : Gt) (S : Sh) (M : Mm) (xl0 : Int) (zl1 : Int32) (post : Int → Mm → Prop) (h : wp_X12_image S M xl0 zl1.toInt post) : Met l yX12_image (cw_X12_image :: gw) RM_X12_image (va_Pc [.ref (adr G xl0), .int zl1] (fun U => KN D G U ∧ Wd D G S M U.heap)) (QI D G S post) 0 0 (aG G) := by
  refine Met.ofW (cc := cX12_image) (maxL := 3) (ret := (some .int)) (by decide) rfl ?_
  intro p e s m args below meth c s₁ B hml hv
  obtain ⟨rfl, hK, hP⟩ := hv
  have hx := B.exec
  have hb := B.bytes
  have hr := B.returns
  have hts := atoms_spec (ws := cw_X12_image :: gw) B.pre
  have hown : s.vm.findClass RX12 = some m.cls := findClass_of_methodNamed B.named
  have hlocks := B.notSynchronized
  have hS : va_S (aG G) s.heap s.heap [] := va_S.rf
  have C : Cx p s m ([.ref (adr G xl0), .int zl1] : List Value).toArray meth c D G cX12_image 3 (some .int) (cw_X12_image :: gw) RX12 := ⟨hx, hb, hr, hlocks, hml, hown, hts, hK⟩
  have hl := lv_entry ([.ref (adr G xl0), .int zl1]) (n := 3) (Nat.le_of_ble_eq_true rfl)
  rw [lg_entry_eq]
  generalize (lg_sl ([.ref (adr G xl0), .int zl1]) ++ List.replicate (3 - (lg_sl ([.ref (adr G xl0), .int zl1])).length) Slot.unset).toArray = ls at hl ⊢
  have hl : lv_has ls 3 [(0, .ref (adr G xl0)), (1, .int zl1)] := hl
  unfold wp_X12_image at h
  refine lv_iload_n hx hb dX12_image_0 rfl (lv_at hl 1 rfl) ?_
  refine r_i2l hx hb dX12_image_1 h (fun z25 h => ?_)
  refine r_lconst hx hb dX12_image_2 (v := 0) (by decide) h (fun z27 h => ?_)
  refine r_ldc2 hx hb hown (hts _ (List.mem_cons_of_mem _ kw_1964)) dX12_image_3 (n := 3) (by decide) h (fun z29 h => ?_)
  refine q_Si hx hb hml hown hts hK hP hS (c_X12_in l D G S _ z25 z27 z29 _ h) ⟨callB_of 3 hts (gw_good kw_1523) rfl rfl rfl (hts _ (List.mem_cons_of_mem _ kw_14)) (hts _ (List.mem_cons_of_mem _ kw_1521)) hd_X12_in ⟨Nat.le_of_ble_eq_true rfl, Nat.le_of_ble_eq_true rfl⟩, (hts _ (List.mem_cons_of_mem _ kw_1522))⟩ rfl hl.1 rfl (lv_room (Nat.le_of_ble_eq_true rfl)) dX12_image_6 ⟨Nat.zero_le _, Nat.zero_le _⟩ (fun z32 M30 H locs h hP hS => ?_)
  refine r_if_ne (tgt := 14) hx hb dX12_image_9 (by decide) h (fun h => ?_) (fun h => ?_)
  · refine lv_aload_n hx hb dX12_image_14 rfl (lv_at hl 0 rfl) ?_
    refine r_getr (C := RX12) (T := TX12) (N := 38) hx hb hts (fun w h => List.mem_cons_of_mem _ (iX12 w h)) hown hK hP rfl (by decide) rfl 37 (by decide) (hts _ (List.mem_cons_of_mem _ kw_1371)) (fun _ h9 => h9) dX12_image_15 (by decide) h (fun x34 h => ?_)
    refine lv_iload_n hx hb dX12_image_18 rfl (lv_at hl 1 rfl) ?_
    refine r_iconst hx hb dX12_image_19 (by decide) h (fun z36 h => ?_)
    refine r_zast hx hb hK hP hS dX12_image_20 h (fun M37 H locs h hP hS => ?_)
    refine lv_aload_n hx hb dX12_image_21 rfl (lv_at hl 0 rfl) ?_
    refine r_getr (C := RX12) (T := TX12) (N := 38) hx hb hts (fun w h => List.mem_cons_of_mem _ (iX12 w h)) hown hK hP rfl (by decide) rfl 35 (by decide) (hts _ (List.mem_cons_of_mem _ kw_1369)) (fun _ h9 => h9) dX12_image_22 (by decide) h (fun x39 h => ?_)
    refine lv_iload_n hx hb dX12_image_25 rfl (lv_at hl 1 rfl) ?_
    refine lv_aload_n hx hb dX12_image_26 rfl (lv_at hl 0 rfl) ?_
    refine r_geti (C := RX12) (T := TX12) (N := 38) hx hb hts (fun w h => List.mem_cons_of_mem _ (iX12 w h)) hown hK hP rfl (by decide) rfl 21 (by decide) (hts _ (List.mem_cons_of_mem _ kw_1355)) (fun _ h9 => h9) dX12_image_27 (by decide) h (fun z41 h => ?_)
    refine r_iast hx hb hK hP hS dX12_image_30 h (fun M42 H locs h hP hS => ?_)
    refine lv_aload_n hx hb dX12_image_31 rfl (lv_at hl 0 rfl) ?_
    refine r_getr (C := RX12) (T := TX12) (N := 38) hx hb hts (fun w h => List.mem_cons_of_mem _ (iX12 w h)) hown hK hP rfl (by decide) rfl 36 (by decide) (hts _ (List.mem_cons_of_mem _ kw_1370)) (fun _ h9 => h9) dX12_image_32 (by decide) h (fun x44 h => ?_)
    refine lv_iload_n hx hb dX12_image_35 rfl (lv_at hl 1 rfl) ?_
    refine lv_aload_n hx hb dX12_image_36 rfl (lv_at hl 0 rfl) ?_
    refine r_geti (C := RX12) (T := TX12) (N := 38) hx hb hts (fun w h => List.mem_cons_of_mem _ (iX12 w h)) hown hK hP rfl (by decide) rfl 22 (by decide) (hts _ (List.mem_cons_of_mem _ kw_1356)) (fun _ h9 => h9) dX12_image_37 (by decide) h (fun z46 h => ?_)
    refine r_iast hx hb hK hP hS dX12_image_40 h (fun M47 H locs h hP hS => ?_)
    refine r_iconst hx hb dX12_image_41 (by decide) h (fun z49 h => ?_)
    refine lv_istore_n (lv' := [(2, .int z49), (0, .ref (adr G xl0)), (1, .int zl1)]) hx hb dX12_image_42 rfl hl (by decide) rfl (fun ls hl => ?_)
    obtain ⟨n9, h⟩ := h
    exact t_X12_image_43 C n9 xl0 zl1 z49 _ _ _ _ hP hS (lv_sub hl [1, 2, 0] rfl) h
  · refine r_iconst hx hb dX12_image_12 (by decide) h (fun z51 h => ?_)
    exact r_iret hx hb hr hlocks hP hS dX12_image_13 h
/-! TurningMilkModel.back(I)I -/
abbrev RM_X12_back : Room := { frames := 2, cells := 0, slots := 0, locals := 65 }
def cw_X12_back : Cond := Cond.code yX12_back cX12_back 3 (Option.some FieldType.int)
theorem hd_X12_back : yX12_back.cls ≠ "java/lang/invoke/MethodHandle" ∧ yX12_back.cls ≠ "java/lang/invoke/VarHandle" ∧ (parseMethodDescriptor yX12_back.desc).map (fun d => d.parameters.length) = some 1 := by decide +kernel
theorem dX12_back_0 : decode cX12_back 0 = .ok (.iload_n 1, 1) := by decide +kernel
theorem dX12_back_1 : decode cX12_back 1 = .ok (.i2l, 1) := by decide +kernel
theorem dX12_back_2 : decode cX12_back 2 = .ok (.lconst 0, 1) := by decide +kernel
theorem dX12_back_3 : decode cX12_back 3 = .ok (.ldc2_w 498, 3) := by decide +kernel
theorem dX12_back_6 : decode cX12_back 6 = .ok (.invokestatic 118, 3) := by decide +kernel
theorem dX12_back_9 : decode cX12_back 9 = .ok (.ifCond .eq 12, 3) := by decide +kernel
theorem dX12_back_12 : decode cX12_back 12 = .ok (.aload_n 0, 1) := by decide +kernel
theorem dX12_back_13 : decode cX12_back 13 = .ok (.getfield 77, 3) := by decide +kernel
theorem dX12_back_16 : decode cX12_back 16 = .ok (.iload_n 1, 1) := by decide +kernel
theorem dX12_back_17 : decode cX12_back 17 = .ok (.baload, 1) := by decide +kernel
theorem dX12_back_18 : decode cX12_back 18 = .ok (.ifCond .ne 5, 3) := by decide +kernel
theorem dX12_back_21 : decode cX12_back 21 = .ok (.iconst (-1), 1) := by decide +kernel
theorem dX12_back_22 : decode cX12_back 22 = .ok (.ireturn, 1) := by decide +kernel
theorem dX12_back_23 : decode cX12_back 23 = .ok (.aload_n 0, 1) := by decide +kernel
theorem dX12_back_24 : decode cX12_back 24 = .ok (.aload_n 0, 1) := by decide +kernel
theorem dX12_back_25 : decode cX12_back 25 = .ok (.getfield 71, 3) := by decide +kernel
theorem dX12_back_28 : decode cX12_back 28 = .ok (.iload_n 1, 1) := by decide +kernel
theorem dX12_back_29 : decode cX12_back 29 = .ok (.iaload, 1) := by decide +kernel
theorem dX12_back_30 : decode cX12_back 30 = .ok (.putfield 42, 3) := by decide +kernel
theorem dX12_back_33 : decode cX12_back 33 = .ok (.aload_n 0, 1) := by decide +kernel
theorem dX12_back_34 : decode cX12_back 34 = .ok (.aload_n 0, 1) := by decide +kernel
theorem dX12_back_35 : decode cX12_back 35 = .ok (.getfield 74, 3) := by decide +kernel
theorem dX12_back_38 : decode cX12_back 38 = .ok (.iload_n 1, 1) := by decide +kernel
theorem dX12_back_39 : decode cX12_back 39 = .ok (.iaload, 1) := by decide +kernel
theorem dX12_back_40 : decode cX12_back 40 = .ok (.putfield 477, 3) := by decide +kernel
theorem dX12_back_43 : decode cX12_back 43 = .ok (.aload_n 0, 1) := by decide +kernel
theorem dX12_back_44 : decode cX12_back 44 = .ok (.iconst 0, 1) := by decide +kernel
theorem dX12_back_45 : decode cX12_back 45 = .ok (.putfield 266, 3) := by decide +kernel
theorem dX12_back_48 : decode cX12_back 48 = .ok (.iconst 0, 1) := by decide +kernel
theorem dX12_back_49 : decode cX12_back 49 = .ok (.istore_n 2, 1) := by decide +kernel
theorem dX12_back_50 : decode cX12_back 50 = .ok (.iload_n 2, 1) := by decide +kernel
theorem dX12_back_51 : decode cX12_back 51 = .ok (.sipush 158, 3) := by decide +kernel
theorem dX12_back_54 : decode cX12_back 54 = .ok (.if_icmp .ge 27, 3) := by decide +kernel
theorem dX12_back_57 : decode cX12_back 57 = .ok (.aload_n 0, 1) := by decide +kernel
theorem dX12_back_58 : decode cX12_back 58 = .ok (.getfield 39, 3) := by decide +kernel
theorem dX12_back_61 : decode cX12_back 61 = .ok (.iload_n 2, 1) := by decide +kernel
theorem dX12_back_62 : decode cX12_back 62 = .ok (.aload_n 0, 1) := by decide +kernel
theorem dX12_back_63 : decode cX12_back 63 = .ok (.getfield 68, 3) := by decide +kernel
theorem dX12_back_66 : decode cX12_back 66 = .ok (.sipush 158, 3) := by decide +kernel
theorem dX12_back_69 : decode cX12_back 69 = .ok (.iload_n 1, 1) := by decide +kernel
theorem dX12_back_70 : decode cX12_back 70 = .ok (.imul, 1) := by decide +kernel
theorem dX12_back_71 : decode cX12_back 71 = .ok (.iload_n 2, 1) := by decide +kernel
theorem dX12_back_72 : decode cX12_back 72 = .ok (.iadd, 1) := by decide +kernel
theorem dX12_back_73 : decode cX12_back 73 = .ok (.iaload, 1) := by decide +kernel
theorem dX12_back_74 : decode cX12_back 74 = .ok (.iastore, 1) := by decide +kernel
theorem dX12_back_75 : decode cX12_back 75 = .ok (.iinc 2 1, 3) := by decide +kernel
theorem dX12_back_78 : decode cX12_back 78 = .ok (.goto (-28), 3) := by decide +kernel
theorem dX12_back_81 : decode cX12_back 81 = .ok (.aload_n 0, 1) := by decide +kernel
theorem dX12_back_82 : decode cX12_back 82 = .ok (.getfield 39, 3) := by decide +kernel
theorem dX12_back_85 : decode cX12_back 85 = .ok (.bipush 7, 2) := by decide +kernel
theorem dX12_back_87 : decode cX12_back 87 = .ok (.iaload, 1) := by decide +kernel
theorem dX12_back_88 : decode cX12_back 88 = .ok (.ireturn, 1) := by decide +kernel
def wp_X12_back_50 (S : Sh) (post : Int → Mm → Prop) : Nat → Int → Int → Int → Mm → Prop
  | 0, _, _, _, _ => False
  | n + 1, u0, u1, u2, M => wC 158 fun v1 => wIf (v1 ≤ u2) (wGetR S M u0 12 20 fun v3 => wC 7 fun v5 => wLd S M v3 14 v5 fun v7 => post v7 M) (wGetR S M u0 12 20 fun v9 => wGetR S M u0 12 34 fun v11 => wC 158 fun v13 => wM v13 u1 fun v15 => wA v15 u2 fun v17 => wLd S M v11 14 v17 fun v19 => wSt S M v9 14 u2 v19 fun M21 => wA u2 1 fun v22 => wp_X12_back_50 S post n u0 u1 v22 M21)
def wp_X12_back (S : Sh) (M : Mm) (u0 : Int) (u1 : Int) (post : Int → Mm → Prop) : Prop := wC u1 fun v24 => wC 0 fun v26 => wC 3 fun v28 => wp_X12_in S M v24 v26 v28 <| fun v31 M30 => wIf (v31 = 0) (wC (-1) fun v33 => post v33 M30) (wGetR S M30 u0 12 37 fun v35 => wLd S M30 v35 15 u1 fun v37 => wIf (¬ v37 = 0) (wGetR S M30 u0 12 35 fun v39 => wLd S M30 v39 14 u1 fun v41 => wPut S M30 u0 12 21 v41 fun M43 => wGetR S M43 u0 12 36 fun v44 => wLd S M43 v44 14 u1 fun v46 => wPut S M43 u0 12 22 v46 fun M48 => wC 0 fun v49 => wPut S M48 u0 12 25 v49 fun M51 => wC 0 fun v52 => ∃ n9 : Nat, wp_X12_back_50 S post n9 u0 u1 v52 M51) (wC (-1) fun v54 => post v54 M30))
set_option maxHeartbeats 4000000 in
set_option maxRecDepth 100000 in
theorem t_X12_back_50 {p : Program} {l : Launch} {e : Env} {s : State} {m : MethodId} {args : Array Value} {below : List Frame} {meth : Method} {c : Code} {D : va_G} {G : Gt} {S : Sh} {post : Int → Mm → Prop} (C : Cx p s m args meth c D G cX12_back 3 (some .int) (cw_X12_back :: gw) RX12) : ∀ (n : Nat) (xl0 : Int) (zl1 : Int32) (zl2 : Int32) (M : Mm) (H : Heap) (locs : List Loc) (ls : Array Slot), Wd D G S M H → va_S (aG G) s.heap H locs → lv_has ls 3 [(0, .ref (adr G xl0)), (1, .int zl1), (2, .int zl2)] → wp_X12_back_50 S post n xl0 zl1.toInt zl2.toInt  M → W p l e RM_X12_back s m args below meth c H locs 0 0 (MQ below (QI D G S post) args s 0 0 (aG G)) (F0 m 50 ls []) := by
  obtain ⟨hx, hb, hr, hlocks, hml, hown, hts, hK⟩ := id C
  intro n
  induction n with
  | zero => intro xl0 zl1 zl2 M H locs ls hP hS hl h; exact h.elim
  | succ n ih =>
    intro xl0 zl1 zl2 M H locs ls hP hS hl h
    unfold wp_X12_back_50 at h
    refine lv_iload_n hx hb dX12_back_50 rfl (lv_at hl 2 rfl) ?_
    refine r_sipush hx hb dX12_back_51 (by decide) h (fun z2 h => ?_)
    refine r_icmp_ge (tgt := 81) hx hb dX12_back_54 (by decide) h (fun h => ?_) (fun h => ?_)
    · refine lv_aload_n hx hb dX12_back_81 rfl (lv_at hl 0 rfl) ?_
      refine r_getr (C := RX12) (T := TX12) (N := 38) hx hb hts (fun w h => List.mem_cons_of_mem _ (iX12 w h)) hown hK hP rfl (by decide) rfl 20 (by decide) (hts _ (List.mem_cons_of_mem _ kw_1354)) (fun _ h9 => h9) dX12_back_82 (by decide) h (fun x4 h => ?_)
      refine r_bipush hx hb dX12_back_85 (by decide) h (fun z6 h => ?_)
      refine r_iald hx hb hK hP dX12_back_87 h (fun z8 h => ?_)
      exact r_iret hx hb hr hlocks hP hS dX12_back_88 h
    · refine lv_aload_n hx hb dX12_back_57 rfl (lv_at hl 0 rfl) ?_
      refine r_getr (C := RX12) (T := TX12) (N := 38) hx hb hts (fun w h => List.mem_cons_of_mem _ (iX12 w h)) hown hK hP rfl (by decide) rfl 20 (by decide) (hts _ (List.mem_cons_of_mem _ kw_1354)) (fun _ h9 => h9) dX12_back_58 (by decide) h (fun x10 h => ?_)
      refine lv_iload_n hx hb dX12_back_61 rfl (lv_at hl 2 rfl) ?_
      refine lv_aload_n hx hb dX12_back_62 rfl (lv_at hl 0 rfl) ?_
      refine r_getr (C := RX12) (T := TX12) (N := 38) hx hb hts (fun w h => List.mem_cons_of_mem _ (iX12 w h)) hown hK hP rfl (by decide) rfl 34 (by decide) (hts _ (List.mem_cons_of_mem _ kw_1368)) (fun _ h9 => h9) dX12_back_63 (by decide) h (fun x12 h => ?_)
      refine r_sipush hx hb dX12_back_66 (by decide) h (fun z14 h => ?_)
      refine lv_iload_n hx hb dX12_back_69 rfl (lv_at hl 1 rfl) ?_
      refine r_imul hx hb dX12_back_70 h (fun z16 h => ?_)
      refine lv_iload_n hx hb dX12_back_71 rfl (lv_at hl 2 rfl) ?_
      refine r_iadd hx hb dX12_back_72 h (fun z18 h => ?_)
      refine r_iald hx hb hK hP dX12_back_73 h (fun z20 h => ?_)
      refine r_iast hx hb hK hP hS dX12_back_74 h (fun M21 H locs h hP hS => ?_)
      refine r_iinc hx hb (fun z23 => [(2, .int z23), (0, .ref (adr G xl0)), (1, .int zl1)]) dX12_back_75 (by decide) hl (k := 2) rfl (by decide) (fun _ => rfl) h (fun z23 ls hl h => ?_)
      refine lv_goto (tgt := 50) hx hb dX12_back_78 (by decide) ?_
      exact ih xl0 zl1 z23 _ _ _ _ hP hS (lv_sub hl [1, 2, 0] rfl) h
set_option maxHeartbeats 4000000 in
set_option maxRecDepth 100000 in
theorem c_X12_back (l : Launch) (D : va_G) (G : Gt) (S : Sh) (M : Mm) (xl0 : Int) (zl1 : Int32) (post : Int → Mm → Prop) (h : wp_X12_back S M xl0 zl1.toInt post) : Met l yX12_back (cw_X12_back :: gw) RM_X12_back (va_Pc [.ref (adr G xl0), .int zl1] (fun U => KN D G U ∧ Wd D G S M U.heap)) (QI D G S post) 0 0 (aG G) := by
  refine Met.ofW (cc := cX12_back) (maxL := 3) (ret := (some .int)) (by decide) rfl ?_
  intro p e s m args below meth c s₁ B hml hv
  obtain ⟨rfl, hK, hP⟩ := hv
  have hx := B.exec
  have hb := B.bytes
  have hr := B.returns
  have hts := atoms_spec (ws := cw_X12_back :: gw) B.pre
  have hown : s.vm.findClass RX12 = some m.cls := findClass_of_methodNamed B.named
  have hlocks := B.notSynchronized
  have hS : va_S (aG G) s.heap s.heap [] := va_S.rf
  have C : Cx p s m ([.ref (adr G xl0), .int zl1] : List Value).toArray meth c D G cX12_back 3 (some .int) (cw_X12_back :: gw) RX12 := ⟨hx, hb, hr, hlocks, hml, hown, hts, hK⟩
  have hl := lv_entry ([.ref (adr G xl0), .int zl1]) (n := 3) (Nat.le_of_ble_eq_true rfl)
  rw [lg_entry_eq]
  generalize (lg_sl ([.ref (adr G xl0), .int zl1]) ++ List.replicate (3 - (lg_sl ([.ref (adr G xl0), .int zl1])).length) Slot.unset).toArray = ls at hl ⊢
  have hl : lv_has ls 3 [(0, .ref (adr G xl0)), (1, .int zl1)] := hl
  unfold wp_X12_back at h
  refine lv_iload_n hx hb dX12_back_0 rfl (lv_at hl 1 rfl) ?_
  refine r_i2l hx hb dX12_back_1 h (fun z25 h => ?_)
  refine r_lconst hx hb dX12_back_2 (v := 0) (by decide) h (fun z27 h => ?_)
  refine r_ldc2 hx hb hown (hts _ (List.mem_cons_of_mem _ kw_1964)) dX12_back_3 (n := 3) (by decide) h (fun z29 h => ?_)
  refine q_Si hx hb hml hown hts hK hP hS (c_X12_in l D G S _ z25 z27 z29 _ h) ⟨callB_of 3 hts (gw_good kw_1523) rfl rfl rfl (hts _ (List.mem_cons_of_mem _ kw_14)) (hts _ (List.mem_cons_of_mem _ kw_1521)) hd_X12_in ⟨Nat.le_of_ble_eq_true rfl, Nat.le_of_ble_eq_true rfl⟩, (hts _ (List.mem_cons_of_mem _ kw_1522))⟩ rfl hl.1 rfl (lv_room (Nat.le_of_ble_eq_true rfl)) dX12_back_6 ⟨Nat.zero_le _, Nat.zero_le _⟩ (fun z32 M30 H locs h hP hS => ?_)
  refine r_if_eq (tgt := 21) hx hb dX12_back_9 (by decide) h (fun h => ?_) (fun h => ?_)
  · refine r_iconst hx hb dX12_back_21 (by decide) h (fun z34 h => ?_)
    exact r_iret hx hb hr hlocks hP hS dX12_back_22 h
  · refine lv_aload_n hx hb dX12_back_12 rfl (lv_at hl 0 rfl) ?_
    refine r_getr (C := RX12) (T := TX12) (N := 38) hx hb hts (fun w h => List.mem_cons_of_mem _ (iX12 w h)) hown hK hP rfl (by decide) rfl 37 (by decide) (hts _ (List.mem_cons_of_mem _ kw_1371)) (fun _ h9 => h9) dX12_back_13 (by decide) h (fun x36 h => ?_)
    refine lv_iload_n hx hb dX12_back_16 rfl (lv_at hl 1 rfl) ?_
    refine r_zald hx hb hK hP dX12_back_17 h (fun z38 h => ?_)
    refine r_if_ne (tgt := 23) hx hb dX12_back_18 (by decide) h (fun h => ?_) (fun h => ?_)
    · refine lv_aload_n hx hb dX12_back_23 rfl (lv_at hl 0 rfl) ?_
      refine lv_aload_n hx hb dX12_back_24 rfl (lv_at hl 0 rfl) ?_
      refine r_getr (C := RX12) (T := TX12) (N := 38) hx hb hts (fun w h => List.mem_cons_of_mem _ (iX12 w h)) hown hK hP rfl (by decide) rfl 35 (by decide) (hts _ (List.mem_cons_of_mem _ kw_1369)) (fun _ h9 => h9) dX12_back_25 (by decide) h (fun x40 h => ?_)
      refine lv_iload_n hx hb dX12_back_28 rfl (lv_at hl 1 rfl) ?_
      refine r_iald hx hb hK hP dX12_back_29 h (fun z42 h => ?_)
      refine r_puti (C := RX12) (T := TX12) (N := 38) hx hb hts (fun w h => List.mem_cons_of_mem _ (iX12 w h)) hown hK hP tyX12 tyX12_ok nmX12 hS rfl (by decide) rfl 21 (by decide) (hts _ (List.mem_cons_of_mem _ kw_1355)) (fun _ h9 => h9) rfl (tyX12_ok 21 (by decide)) rfl rfl dX12_back_30 (by decide) h (fun M43 H locs h hP hS => ?_)
      refine lv_aload_n hx hb dX12_back_33 rfl (lv_at hl 0 rfl) ?_
      refine lv_aload_n hx hb dX12_back_34 rfl (lv_at hl 0 rfl) ?_
      refine r_getr (C := RX12) (T := TX12) (N := 38) hx hb hts (fun w h => List.mem_cons_of_mem _ (iX12 w h)) hown hK hP rfl (by decide) rfl 36 (by decide) (hts _ (List.mem_cons_of_mem _ kw_1370)) (fun _ h9 => h9) dX12_back_35 (by decide) h (fun x45 h => ?_)
      refine lv_iload_n hx hb dX12_back_38 rfl (lv_at hl 1 rfl) ?_
      refine r_iald hx hb hK hP dX12_back_39 h (fun z47 h => ?_)
      refine r_puti (C := RX12) (T := TX12) (N := 38) hx hb hts (fun w h => List.mem_cons_of_mem _ (iX12 w h)) hown hK hP tyX12 tyX12_ok nmX12 hS rfl (by decide) rfl 22 (by decide) (hts _ (List.mem_cons_of_mem _ kw_1356)) (fun _ h9 => h9) rfl (tyX12_ok 22 (by decide)) rfl rfl dX12_back_40 (by decide) h (fun M48 H locs h hP hS => ?_)
      refine lv_aload_n hx hb dX12_back_43 rfl (lv_at hl 0 rfl) ?_
      refine r_iconst hx hb dX12_back_44 (by decide) h (fun z50 h => ?_)
      refine r_puti (C := RX12) (T := TX12) (N := 38) hx hb hts (fun w h => List.mem_cons_of_mem _ (iX12 w h)) hown hK hP tyX12 tyX12_ok nmX12 hS rfl (by decide) rfl 25 (by decide) (hts _ (List.mem_cons_of_mem _ kw_1359)) (fun _ h9 => h9) rfl (tyX12_ok 25 (by decide)) rfl rfl dX12_back_45 (by decide) h (fun M51 H locs h hP hS => ?_)
      refine r_iconst hx hb dX12_back_48 (by decide) h (fun z53 h => ?_)
      refine lv_istore_n (lv' := [(2, .int z53), (0, .ref (adr G xl0)), (1, .int zl1)]) hx hb dX12_back_49 rfl hl (by decide) rfl (fun ls hl => ?_)
      obtain ⟨n9, h⟩ := h
      exact t_X12_back_50 C n9 xl0 zl1 z53 _ _ _ _ hP hS (lv_sub hl [1, 2, 0] rfl) h
    · refine r_iconst hx hb dX12_back_21 (by decide) h (fun z55 h => ?_)
      exact r_iret hx hb hr hlocks hP hS dX12_back_22 h
