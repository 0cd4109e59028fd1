/-! TurningMilkModel.passes()I -/
abbrev RM_X12_passes : Room := { frames := 6, cells := 0, slots := 0, locals := 171 }
def cw_X12_passes : Cond := Cond.code yX12_passes cX12_passes 5 (Option.some FieldType.int)
theorem hd_X12_passes : yX12_passes.cls ≠ "java/lang/invoke/MethodHandle" ∧ yX12_passes.cls ≠ "java/lang/invoke/VarHandle" ∧ (parseMethodDescriptor yX12_passes.desc).map (fun d => d.parameters.length) = some 0 := by decide +kernel
theorem dX12_passes_0 : decode cX12_passes 0 = .ok (.iconst 0, 1) := by decide +kernel
theorem dX12_passes_1 : decode cX12_passes 1 = .ok (.istore_n 1, 1) := by decide +kernel
theorem dX12_passes_2 : decode cX12_passes 2 = .ok (.iconst 0, 1) := by decide +kernel
theorem dX12_passes_3 : decode cX12_passes 3 = .ok (.istore_n 2, 1) := by decide +kernel
theorem dX12_passes_4 : decode cX12_passes 4 = .ok (.iload_n 2, 1) := by decide +kernel
theorem dX12_passes_5 : decode cX12_passes 5 = .ok (.aload_n 0, 1) := by decide +kernel
theorem dX12_passes_6 : decode cX12_passes 6 = .ok (.getfield 39, 3) := by decide +kernel
theorem dX12_passes_9 : decode cX12_passes 9 = .ok (.iconst 5, 1) := by decide +kernel
theorem dX12_passes_10 : decode cX12_passes 10 = .ok (.iaload, 1) := by decide +kernel
theorem dX12_passes_11 : decode cX12_passes 11 = .ok (.if_icmp .ge 67, 3) := by decide +kernel
theorem dX12_passes_14 : decode cX12_passes 14 = .ok (.aload_n 0, 1) := by decide +kernel
theorem dX12_passes_15 : decode cX12_passes 15 = .ok (.iload_n 2, 1) := by decide +kernel
theorem dX12_passes_16 : decode cX12_passes 16 = .ok (.iconst 3, 1) := by decide +kernel
theorem dX12_passes_17 : decode cX12_passes 17 = .ok (.invokevirtual 284, 3) := by decide +kernel
theorem dX12_passes_20 : decode cX12_passes 20 = .ok (.iconst 1, 1) := by decide +kernel
theorem dX12_passes_21 : decode cX12_passes 21 = .ok (.if_icmp .ne 6, 3) := by decide +kernel
theorem dX12_passes_24 : decode cX12_passes 24 = .ok (.goto 48, 3) := by decide +kernel
theorem dX12_passes_27 : decode cX12_passes 27 = .ok (.aload_n 0, 1) := by decide +kernel
theorem dX12_passes_28 : decode cX12_passes 28 = .ok (.iload_n 2, 1) := by decide +kernel
theorem dX12_passes_29 : decode cX12_passes 29 = .ok (.iconst 2, 1) := by decide +kernel
theorem dX12_passes_30 : decode cX12_passes 30 = .ok (.invokevirtual 284, 3) := by decide +kernel
theorem dX12_passes_33 : decode cX12_passes 33 = .ok (.istore_n 3, 1) := by decide +kernel
theorem dX12_passes_34 : decode cX12_passes 34 = .ok (.aload_n 0, 1) := by decide +kernel
theorem dX12_passes_35 : decode cX12_passes 35 = .ok (.iload_n 2, 1) := by decide +kernel
theorem dX12_passes_36 : decode cX12_passes 36 = .ok (.invokevirtual 347, 3) := by decide +kernel
theorem dX12_passes_39 : decode cX12_passes 39 = .ok (.iload_n 1, 1) := by decide +kernel
theorem dX12_passes_40 : decode cX12_passes 40 = .ok (.iload_n 3, 1) := by decide +kernel
theorem dX12_passes_41 : decode cX12_passes 41 = .ok (.aload_n 0, 1) := by decide +kernel
theorem dX12_passes_42 : decode cX12_passes 42 = .ok (.getfield 39, 3) := by decide +kernel
theorem dX12_passes_45 : decode cX12_passes 45 = .ok (.iconst 2, 1) := by decide +kernel
theorem dX12_passes_46 : decode cX12_passes 46 = .ok (.iaload, 1) := by decide +kernel
theorem dX12_passes_47 : decode cX12_passes 47 = .ok (.if_icmp .ge 22, 3) := by decide +kernel
theorem dX12_passes_50 : decode cX12_passes 50 = .ok (.aload_n 0, 1) := by decide +kernel
theorem dX12_passes_51 : decode cX12_passes 51 = .ok (.iload_n 2, 1) := by decide +kernel
theorem dX12_passes_52 : decode cX12_passes 52 = .ok (.iconst 2, 1) := by decide +kernel
theorem dX12_passes_53 : decode cX12_passes 53 = .ok (.invokevirtual 284, 3) := by decide +kernel
theorem dX12_passes_56 : decode cX12_passes 56 = .ok (.aload_n 0, 1) := by decide +kernel
theorem dX12_passes_57 : decode cX12_passes 57 = .ok (.getfield 39, 3) := by decide +kernel
theorem dX12_passes_60 : decode cX12_passes 60 = .ok (.iconst 2, 1) := by decide +kernel
theorem dX12_passes_61 : decode cX12_passes 61 = .ok (.iaload, 1) := by decide +kernel
theorem dX12_passes_62 : decode cX12_passes 62 = .ok (.if_icmp .lt 7, 3) := by decide +kernel
theorem dX12_passes_65 : decode cX12_passes 65 = .ok (.iconst 1, 1) := by decide +kernel
theorem dX12_passes_66 : decode cX12_passes 66 = .ok (.goto 4, 3) := by decide +kernel
theorem dX12_passes_69 : decode cX12_passes 69 = .ok (.iconst 0, 1) := by decide +kernel
theorem dX12_passes_70 : decode cX12_passes 70 = .ok (.iadd, 1) := by decide +kernel
theorem dX12_passes_71 : decode cX12_passes 71 = .ok (.istore_n 1, 1) := by decide +kernel
theorem dX12_passes_72 : decode cX12_passes 72 = .ok (.iinc 2 1, 3) := by decide +kernel
theorem dX12_passes_75 : decode cX12_passes 75 = .ok (.goto (-71), 3) := by decide +kernel
theorem dX12_passes_78 : decode cX12_passes 78 = .ok (.iconst 0, 1) := by decide +kernel
theorem dX12_passes_79 : decode cX12_passes 79 = .ok (.istore_n 2, 1) := by decide +kernel
theorem dX12_passes_80 : decode cX12_passes 80 = .ok (.iload_n 2, 1) := by decide +kernel
theorem dX12_passes_81 : decode cX12_passes 81 = .ok (.aload_n 0, 1) := by decide +kernel
theorem dX12_passes_82 : decode cX12_passes 82 = .ok (.getfield 39, 3) := by decide +kernel
theorem dX12_passes_85 : decode cX12_passes 85 = .ok (.iconst 4, 1) := by decide +kernel
theorem dX12_passes_86 : decode cX12_passes 86 = .ok (.iaload, 1) := by decide +kernel
theorem dX12_passes_87 : decode cX12_passes 87 = .ok (.if_icmp .ge 104, 3) := by decide +kernel
theorem dX12_passes_90 : decode cX12_passes 90 = .ok (.bipush 10, 2) := by decide +kernel
theorem dX12_passes_92 : decode cX12_passes 92 = .ok (.iconst 5, 1) := by decide +kernel
theorem dX12_passes_93 : decode cX12_passes 93 = .ok (.iload_n 2, 1) := by decide +kernel
theorem dX12_passes_94 : decode cX12_passes 94 = .ok (.imul, 1) := by decide +kernel
theorem dX12_passes_95 : decode cX12_passes 95 = .ok (.iadd, 1) := by decide +kernel
theorem dX12_passes_96 : decode cX12_passes 96 = .ok (.istore_n 3, 1) := by decide +kernel
theorem dX12_passes_97 : decode cX12_passes 97 = .ok (.aload_n 0, 1) := by decide +kernel
theorem dX12_passes_98 : decode cX12_passes 98 = .ok (.getfield 39, 3) := by decide +kernel
theorem dX12_passes_101 : decode cX12_passes 101 = .ok (.iload_n 3, 1) := by decide +kernel
theorem dX12_passes_102 : decode cX12_passes 102 = .ok (.iconst 2, 1) := by decide +kernel
theorem dX12_passes_103 : decode cX12_passes 103 = .ok (.iadd, 1) := by decide +kernel
theorem dX12_passes_104 : decode cX12_passes 104 = .ok (.iaload, 1) := by decide +kernel
theorem dX12_passes_105 : decode cX12_passes 105 = .ok (.ifCond .ne 7, 3) := by decide +kernel
theorem dX12_passes_108 : decode cX12_passes 108 = .ok (.iconst 0, 1) := by decide +kernel
theorem dX12_passes_109 : decode cX12_passes 109 = .ok (.goto 13, 3) := by decide +kernel
theorem dX12_passes_112 : decode cX12_passes 112 = .ok (.aload_n 0, 1) := by decide +kernel
theorem dX12_passes_113 : decode cX12_passes 113 = .ok (.getfield 39, 3) := by decide +kernel
theorem dX12_passes_116 : decode cX12_passes 116 = .ok (.iload_n 3, 1) := by decide +kernel
theorem dX12_passes_117 : decode cX12_passes 117 = .ok (.iconst 2, 1) := by decide +kernel
theorem dX12_passes_118 : decode cX12_passes 118 = .ok (.iadd, 1) := by decide +kernel
theorem dX12_passes_119 : decode cX12_passes 119 = .ok (.iaload, 1) := by decide +kernel
theorem dX12_passes_120 : decode cX12_passes 120 = .ok (.iconst 1, 1) := by decide +kernel
theorem dX12_passes_121 : decode cX12_passes 121 = .ok (.isub, 1) := by decide +kernel
theorem dX12_passes_122 : decode cX12_passes 122 = .ok (.istore 4, 2) := by decide +kernel
theorem dX12_passes_124 : decode cX12_passes 124 = .ok (.aload_n 0, 1) := by decide +kernel
theorem dX12_passes_125 : decode cX12_passes 125 = .ok (.getfield 39, 3) := by decide +kernel
theorem dX12_passes_128 : decode cX12_passes 128 = .ok (.iload_n 3, 1) := by decide +kernel
theorem dX12_passes_129 : decode cX12_passes 129 = .ok (.iconst 2, 1) := by decide +kernel
theorem dX12_passes_130 : decode cX12_passes 130 = .ok (.iadd, 1) := by decide +kernel
theorem dX12_passes_131 : decode cX12_passes 131 = .ok (.aload_n 0, 1) := by decide +kernel
theorem dX12_passes_132 : decode cX12_passes 132 = .ok (.iload_n 2, 1) := by decide +kernel
theorem dX12_passes_133 : decode cX12_passes 133 = .ok (.invokevirtual 309, 3) := by decide +kernel
theorem dX12_passes_136 : decode cX12_passes 136 = .ok (.ifCond .eq 19, 3) := by decide +kernel
theorem dX12_passes_139 : decode cX12_passes 139 = .ok (.aload_n 0, 1) := by decide +kernel
theorem dX12_passes_140 : decode cX12_passes 140 = .ok (.iload_n 2, 1) := by decide +kernel
theorem dX12_passes_141 : decode cX12_passes 141 = .ok (.aload_n 0, 1) := by decide +kernel
theorem dX12_passes_142 : decode cX12_passes 142 = .ok (.getfield 39, 3) := by decide +kernel
theorem dX12_passes_145 : decode cX12_passes 145 = .ok (.iload_n 3, 1) := by decide +kernel
theorem dX12_passes_146 : decode cX12_passes 146 = .ok (.iconst 2, 1) := by decide +kernel
theorem dX12_passes_147 : decode cX12_passes 147 = .ok (.iadd, 1) := by decide +kernel
theorem dX12_passes_148 : decode cX12_passes 148 = .ok (.iaload, 1) := by decide +kernel
theorem dX12_passes_149 : decode cX12_passes 149 = .ok (.invokevirtual 341, 3) := by decide +kernel
theorem dX12_passes_152 : decode cX12_passes 152 = .ok (.goto 5, 3) := by decide +kernel
theorem dX12_passes_155 : decode cX12_passes 155 = .ok (.iload 4, 2) := by decide +kernel
theorem dX12_passes_157 : decode cX12_passes 157 = .ok (.iastore, 1) := by decide +kernel
theorem dX12_passes_158 : decode cX12_passes 158 = .ok (.aload_n 0, 1) := by decide +kernel
theorem dX12_passes_159 : decode cX12_passes 159 = .ok (.getfield 39, 3) := by decide +kernel
theorem dX12_passes_162 : decode cX12_passes 162 = .ok (.iload_n 3, 1) := by decide +kernel
theorem dX12_passes_163 : decode cX12_passes 163 = .ok (.iconst 1, 1) := by decide +kernel
theorem dX12_passes_164 : decode cX12_passes 164 = .ok (.iadd, 1) := by decide +kernel
theorem dX12_passes_165 : decode cX12_passes 165 = .ok (.dup2, 1) := by decide +kernel
theorem dX12_passes_166 : decode cX12_passes 166 = .ok (.iaload, 1) := by decide +kernel
theorem dX12_passes_167 : decode cX12_passes 167 = .ok (.aload_n 0, 1) := by decide +kernel
theorem dX12_passes_168 : decode cX12_passes 168 = .ok (.getfield 39, 3) := by decide +kernel
theorem dX12_passes_171 : decode cX12_passes 171 = .ok (.iload_n 3, 1) := by decide +kernel
theorem dX12_passes_172 : decode cX12_passes 172 = .ok (.iconst 1, 1) := by decide +kernel
theorem dX12_passes_173 : decode cX12_passes 173 = .ok (.iadd, 1) := by decide +kernel
theorem dX12_passes_174 : decode cX12_passes 174 = .ok (.iaload, 1) := by decide +kernel
theorem dX12_passes_175 : decode cX12_passes 175 = .ok (.ifCond .le 7, 3) := by decide +kernel
theorem dX12_passes_178 : decode cX12_passes 178 = .ok (.iconst 1, 1) := by decide +kernel
theorem dX12_passes_179 : decode cX12_passes 179 = .ok (.goto 4, 3) := by decide +kernel
theorem dX12_passes_182 : decode cX12_passes 182 = .ok (.iconst 0, 1) := by decide +kernel
theorem dX12_passes_183 : decode cX12_passes 183 = .ok (.isub, 1) := by decide +kernel
theorem dX12_passes_184 : decode cX12_passes 184 = .ok (.iastore, 1) := by decide +kernel
theorem dX12_passes_185 : decode cX12_passes 185 = .ok (.iinc 2 1, 3) := by decide +kernel
theorem dX12_passes_188 : decode cX12_passes 188 = .ok (.goto (-108), 3) := by decide +kernel
theorem dX12_passes_191 : decode cX12_passes 191 = .ok (.aload_n 0, 1) := by decide +kernel
theorem dX12_passes_192 : decode cX12_passes 192 = .ok (.getfield 39, 3) := by decide +kernel
theorem dX12_passes_195 : decode cX12_passes 195 = .ok (.bipush 7, 2) := by decide +kernel
theorem dX12_passes_197 : decode cX12_passes 197 = .ok (.dup2, 1) := by decide +kernel
theorem dX12_passes_198 : decode cX12_passes 198 = .ok (.iaload, 1) := by decide +kernel
theorem dX12_passes_199 : decode cX12_passes 199 = .ok (.iconst 1, 1) := by decide +kernel
theorem dX12_passes_200 : decode cX12_passes 200 = .ok (.iadd, 1) := by decide +kernel
theorem dX12_passes_201 : decode cX12_passes 201 = .ok (.iastore, 1) := by decide +kernel
theorem dX12_passes_202 : decode cX12_passes 202 = .ok (.iload_n 1, 1) := by decide +kernel
theorem dX12_passes_203 : decode cX12_passes 203 = .ok (.ireturn, 1) := by decide +kernel
def wp_X12_passes_183 (S : Sh) (k80 : Int → Int → Int → Mm → Prop) (post : Int → Mm → Prop) (u0 : Int) (u1 : Int) (u2 : Int) (t0 : Int) (t1 : Int) (t2 : Int) (t3 : Int) (M : Mm) : Prop := wS t2 t3 fun v1 => wSt S M t0 14 t1 v1 fun M3 => wA u2 1 fun v4 => k80 u0 u1 v4 M3
def wp_X12_passes_157 (S : Sh) (k80 : Int → Int → Int → Mm → Prop) (post : Int → Mm → Prop) (u0 : Int) (u1 : Int) (u2 : Int) (u3 : Int) (t0 : Int) (t1 : Int) (t2 : Int) (M : Mm) : Prop := wSt S M t0 14 t1 t2 fun M6 => wGetR S M6 u0 12 20 fun v7 => wC 1 fun v9 => wA u3 v9 fun v11 => wLd S M6 v7 14 v11 fun v13 => wGetR S M6 u0 12 20 fun v15 => wC 1 fun v17 => wA u3 v17 fun v19 => wLd S M6 v15 14 v19 fun v21 => wIf (v21 ≤ 0) (wC 0 fun v23 => wp_X12_passes_183 S k80 post u0 u1 u2 v7 v11 v13 v23 M6) (wC 1 fun v25 => wp_X12_passes_183 S k80 post u0 u1 u2 v7 v11 v13 v25 M6)
def wp_X12_passes_122 (S : Sh) (k80 : Int → Int → Int → Mm → Prop) (post : Int → Mm → Prop) (u0 : Int) (u1 : Int) (u2 : Int) (u3 : Int) (t0 : Int) (M : Mm) : Prop := wGetR S M u0 12 20 fun v27 => wC 2 fun v29 => wA u3 v29 fun v31 => isK S u0 12 ∧ (wp_X12_held S M u0 u2 <| fun v34 M33 => wIf (v34 = 0) (wp_X12_passes_157 S k80 post u0 u1 u2 u3 v27 v31 t0 M33) (wGetR S M33 u0 12 20 fun v36 => wC 2 fun v38 => wA u3 v38 fun v40 => wLd S M33 v36 14 v40 fun v42 => isK S u0 12 ∧ (wp_X12_moreTired S M33 u0 u2 v42 <| fun v45 M44 => wp_X12_passes_157 S k80 post u0 u1 u2 u3 v27 v31 v45 M44)))
def wp_X12_passes_80 (S : Sh) (post : Int → Mm → Prop) : Nat → Int → Int → Int → Mm → Prop
  | 0, _, _, _, _ => False
  | n + 1, u0, u1, u2, M => wGetR S M u0 12 20 fun v47 => wC 4 fun v49 => wLd S M v47 14 v49 fun v51 => wIf (v51 ≤ u2) (wGetR S M u0 12 20 fun v53 => wC 7 fun v55 => wLd S M v53 14 v55 fun v57 => wC 1 fun v59 => wA v57 v59 fun v61 => wSt S M v53 14 v55 v61 fun M63 => post u1 M63) (wC 10 fun v64 => wC 5 fun v66 => wM v66 u2 fun v68 => wA v64 v68 fun v70 => wGetR S M u0 12 20 fun v72 => wC 2 fun v74 => wA v70 v74 fun v76 => wLd S M v72 14 v76 fun v78 => wIf (¬ v78 = 0) (wGetR S M u0 12 20 fun v80 => wC 2 fun v82 => wA v70 v82 fun v84 => wLd S M v80 14 v84 fun v86 => wC 1 fun v88 => wS v86 v88 fun v90 => wp_X12_passes_122 S (fun a0 a1 a2 M => wp_X12_passes_80 S post n a0 a1 a2 M) post u0 u1 u2 v70 v90 M) (wC 0 fun v92 => wp_X12_passes_122 S (fun a0 a1 a2 M => wp_X12_passes_80 S post n a0 a1 a2 M) post u0 u1 u2 v70 v92 M))
def wp_X12_passes_72 (S : Sh) (k4 : Int → Int → Int → Mm → Prop) (post : Int → Mm → Prop) (u0 : Int) (u1 : Int) (u2 : Int) (M : Mm) : Prop := wA u2 1 fun v94 => k4 u0 u1 v94 M
def wp_X12_passes_70 (S : Sh) (k4 : Int → Int → Int → Mm → Prop) (post : Int → Mm → Prop) (u0 : Int) (u2 : Int) (t0 : Int) (t1 : Int) (M : Mm) : Prop := wA t0 t1 fun v96 => wp_X12_passes_72 S k4 post u0 v96 u2 M
def wp_X12_passes_69 (S : Sh) (k4 : Int → Int → Int → Mm → Prop) (post : Int → Mm → Prop) (u0 : Int) (u2 : Int) (t0 : Int) (M : Mm) : Prop := wC 0 fun v98 => wp_X12_passes_70 S k4 post u0 u2 t0 v98 M
def wp_X12_passes_4 (S : Sh) (post : Int → Mm → Prop) : Nat → Int → Int → Int → Mm → Prop
  | 0, _, _, _, _ => False
  | n + 1, u0, u1, u2, M => wGetR S M u0 12 20 fun v100 => wC 5 fun v102 => wLd S M v100 14 v102 fun v104 => wIf (v104 ≤ u2) (wC 0 fun v106 => ∃ n9 : Nat, wp_X12_passes_80 S post n9 u0 u1 v106 M) (wC 3 fun v108 => isK S u0 12 ∧ (wp_X12_jugOf S M u0 u2 v108 <| fun v111 M110 => wC 1 fun v113 => wIf (¬ v111 = v113) (wC 2 fun v115 => isK S u0 12 ∧ (wp_X12_jugOf S M110 u0 u2 v115 <| fun v118 M117 => isK S u0 12 ∧ (wp_X12_turns S M117 u0 u2 <| fun M120 => wGetR S M120 u0 12 20 fun v121 => wC 2 fun v123 => wLd S M120 v121 14 v123 fun v125 => wIf (v125 ≤ v118) (wp_X12_passes_69 S (fun a0 a1 a2 M => wp_X12_passes_4 S post n a0 a1 a2 M) post u0 u2 u1 M120) (wC 2 fun v127 => isK S u0 12 ∧ (wp_X12_jugOf S M120 u0 u2 v127 <| fun v130 M129 => wGetR S M129 u0 12 20 fun v132 => wC 2 fun v134 => wLd S M129 v132 14 v134 fun v136 => wIf (v130 < v136) (wp_X12_passes_69 S (fun a0 a1 a2 M => wp_X12_passes_4 S post n a0 a1 a2 M) post u0 u2 u1 M129) (wC 1 fun v138 => wp_X12_passes_70 S (fun a0 a1 a2 M => wp_X12_passes_4 S post n a0 a1 a2 M) post u0 u2 u1 v138 M129)))))) (wp_X12_passes_72 S (fun a0 a1 a2 M => wp_X12_passes_4 S post n a0 a1 a2 M) post u0 u1 u2 M110)))
def wp_X12_passes (S : Sh) (M : Mm) (u0 : Int) (post : Int → Mm → Prop) : Prop := wC 0 fun v140 => wC 0 fun v142 => ∃ n9 : Nat, wp_X12_passes_4 S post n9 u0 v140 v142 M
set_option maxHeartbeats 4000000 in
set_option maxRecDepth 100000 in
theorem t_X12_passes_183 {p : Program} {l : Launch} {e : Env} {s : State} {m : MethodId} {args : Array Value} {below : List Frame} {meth : Method} {c : Code} {D : va_G} {G : Gt} {S : Sh} {post : Int → Mm → Prop} {k80 : Int → Int → Int → Mm → Prop} (C : Cx p s m args meth c D G cX12_passes 5 (some .int) (cw_X12_passes :: gw) RX12) (hk80 : ∀ (y0 : Int) (y1 : Int32) (y2 : Int32) (M : Mm) (H : Heap) (locs : List Loc) (ls : Array Slot), Wd D G S M H → va_S (aG G) s.heap H locs → lv_has ls 5 [(0, .ref (adr G y0)), (1, .int y1), (2, .int y2)] → k80 y0 y1.toInt y2.toInt M → W p l e RM_X12_passes s m args below meth c H locs 0 0 (MQ below (QI D G S post) args s 0 0 (aG G)) (F0 m 80 ls [])) : ∀ (xl0 : Int) (zl1 : Int32) (zl2 : Int32) (xs0 : Int) (zs1 : Int32) (zs2 : Int32) (zs3 : Int32) (M : Mm) (H : Heap) (locs : List Loc) (ls : Array Slot), Wd D G S M H → va_S (aG G) s.heap H locs → lv_has ls 5 [(0, .ref (adr G xl0)), (1, .int zl1), (2, .int zl2)] → wp_X12_passes_183 S k80 post xl0 zl1.toInt zl2.toInt xs0 zs1.toInt zs2.toInt zs3.toInt M → W p l e RM_X12_passes s m args below meth c H locs 0 0 (MQ below (QI D G S post) args s 0 0 (aG G)) (F0 m 183 ls [.int zs3, .int zs2, .int zs1, .ref (adr G xs0)]) := by
  obtain ⟨hx, hb, hr, hlocks, hml, hown, hts, hK⟩ := id C
  intro xl0 zl1 zl2 xs0 zs1 zs2 zs3 M H locs ls hP hS hl h
  unfold wp_X12_passes_183 at h
  refine r_isub hx hb dX12_passes_183 h (fun z2 h => ?_)
  refine r_iast hx hb hK hP hS dX12_passes_184 h (fun M3 H locs h hP hS => ?_)
  refine r_iinc hx hb (fun z5 => [(2, .int z5), (0, .ref (adr G xl0)), (1, .int zl1)]) dX12_passes_185 (by decide) hl (k := 2) rfl (by decide) (fun _ => rfl) h (fun z5 ls hl h => ?_)
  refine lv_goto (tgt := 80) hx hb dX12_passes_188 (by decide) ?_
  exact hk80 xl0 zl1 z5 _ _ _ _ hP hS (lv_sub hl [1, 2, 0] rfl) h
set_option maxHeartbeats 4000000 in
set_option maxRecDepth 100000 in
theorem t_X12_passes_157 {p : Program} {l : Launch} {e : Env} {s : State} {m : MethodId} {args : Array Value} {below : List Frame} {meth : Method} {c : Code} {D : va_G} {G : Gt} {S : Sh} {post : Int → Mm → Prop} {k80 : Int → Int → Int → Mm → Prop} (C : Cx p s m args meth c D G cX12_passes 5 (some .int) (cw_X12_passes :: gw) RX12) (hk80 : ∀ (y0 : Int) (y1 : Int32) (y2 : Int32) (M : Mm) (H : Heap) (locs : List Loc) (ls : Array Slot), Wd D G S M H → va_S (aG G) s.heap H locs → lv_has ls 5 [(0, .ref (adr G y0)), (1, .int y1), (2, .int y2)] → k80 y0 y1.toInt y2.toInt M → W p l e RM_X12_passes s m args below meth c H locs 0 0 (MQ below (QI D G S post) args s 0 0 (aG G)) (F0 m 80 ls [])) : ∀ (xl0 : Int) (zl1 : Int32) (zl2 : Int32) (zl3 : Int32) (xs0 : Int) (zs1 : Int32) (zs2 : Int32) (M : Mm) (H : Heap) (locs : List Loc) (ls : Array Slot), Wd D G S M H → va_S (aG G) s.heap H locs → lv_has ls 5 [(0, .ref (adr G xl0)), (1, .int zl1), (2, .int zl2), (3, .int zl3)] → wp_X12_passes_157 S k80 post xl0 zl1.toInt zl2.toInt zl3.toInt xs0 zs1.toInt zs2.toInt M → W p l e RM_X12_passes s m args below meth c H locs 0 0 (MQ below (QI D G S post) args s 0 0 (aG G)) (F0 m 157 ls [.int zs2, .int zs1, .ref (adr G xs0)]) := by
  obtain ⟨hx, hb, hr, hlocks, hml, hown, hts, hK⟩ := id C
  intro xl0 zl1 zl2 zl3 xs0 zs1 zs2 M H locs ls hP hS hl h
  unfold wp_X12_passes_157 at h
  refine r_iast hx hb hK hP hS dX12_passes_157 h (fun M6 H locs h hP hS => ?_)
  refine lv_aload_n hx hb dX12_passes_158 rfl (lv_at hl 0 rfl) ?_
  refine r_getr (C := RX12) (T := TX12) (N := 38) hx hb hts (fun w h => List.mem_cons_of_mem _ (iX12 w h)) hown hK hP rfl (by decide) rfl 20 (by decide) (hts _ (List.mem_cons_of_mem _ kw_1354)) (fun _ h9 => h9) dX12_passes_159 (by decide) h (fun x8 h => ?_)
  refine lv_iload_n hx hb dX12_passes_162 rfl (lv_at hl 3 rfl) ?_
  refine r_iconst hx hb dX12_passes_163 (by decide) h (fun z10 h => ?_)
  refine r_iadd hx hb dX12_passes_164 h (fun z12 h => ?_)
  refine lv_dup2_11 hx hb dX12_passes_165 rfl rfl ?_
  refine r_iald hx hb hK hP dX12_passes_166 h (fun z14 h => ?_)
  refine lv_aload_n hx hb dX12_passes_167 rfl (lv_at hl 0 rfl) ?_
  refine r_getr (C := RX12) (T := TX12) (N := 38) hx hb hts (fun w h => List.mem_cons_of_mem _ (iX12 w h)) hown hK hP rfl (by decide) rfl 20 (by decide) (hts _ (List.mem_cons_of_mem _ kw_1354)) (fun _ h9 => h9) dX12_passes_168 (by decide) h (fun x16 h => ?_)
  refine lv_iload_n hx hb dX12_passes_171 rfl (lv_at hl 3 rfl) ?_
  refine r_iconst hx hb dX12_passes_172 (by decide) h (fun z18 h => ?_)
  refine r_iadd hx hb dX12_passes_173 h (fun z20 h => ?_)
  refine r_iald hx hb hK hP dX12_passes_174 h (fun z22 h => ?_)
  refine r_if_le (tgt := 182) hx hb dX12_passes_175 (by decide) h (fun h => ?_) (fun h => ?_)
  · refine r_iconst hx hb dX12_passes_182 (by decide) h (fun z24 h => ?_)
    exact t_X12_passes_183 C hk80 xl0 zl1 zl2 x8 z12 z14 z24 _ _ _ _ hP hS (lv_sub hl [0, 1, 2] rfl) h
  · refine r_iconst hx hb dX12_passes_178 (by decide) h (fun z26 h => ?_)
    refine lv_goto (tgt := 183) hx hb dX12_passes_179 (by decide) ?_
    exact t_X12_passes_183 C hk80 xl0 zl1 zl2 x8 z12 z14 z26 _ _ _ _ hP hS (lv_sub hl [0, 1, 2] rfl) h
set_option maxHeartbeats 4000000 in
set_option maxRecDepth 100000 in
theorem t_X12_passes_122 {p : Program} {l : Launch} {e : Env} {s : State} {m : MethodId} {args : Array Value} {below : List Frame} {meth : Method} {c : Code} {D : va_G} {G : Gt} {S : Sh} {post : Int → Mm → Prop} {k80 : Int → Int → Int → Mm → Prop} (C : Cx p s m args meth c D G cX12_passes 5 (some .int) (cw_X12_passes :: gw) RX12) (hk80 : ∀ (y0 : Int) (y1 : Int32) (y2 : Int32) (M : Mm) (H : Heap) (locs : List Loc) (ls : Array Slot), Wd D G S M H → va_S (aG G) s.heap H locs → lv_has ls 5 [(0, .ref (adr G y0)), (1, .int y1), (2, .int y2)] → k80 y0 y1.toInt y2.toInt M → W p l e RM_X12_passes s m args below meth c H locs 0 0 (MQ below (QI D G S post) args s 0 0 (aG G)) (F0 m 80 ls [])) : ∀ (xl0 : Int) (zl1 : Int32) (zl2 : Int32) (zl3 : Int32) (zs0 : Int32) (M : Mm) (H : Heap) (locs : List Loc) (ls : Array Slot), Wd D G S M H → va_S (aG G) s.heap H locs → lv_has ls 5 [(0, .ref (adr G xl0)), (1, .int zl1), (2, .int zl2), (3, .int zl3)] → wp_X12_passes_122 S k80 post xl0 zl1.toInt zl2.toInt zl3.toInt zs0.toInt M → W p l e RM_X12_passes s m args below meth c H locs 0 0 (MQ below (QI D G S post) args s 0 0 (aG G)) (F0 m 122 ls [.int zs0]) := by
  obtain ⟨hx, hb, hr, hlocks, hml, hown, hts, hK⟩ := id C
  intro xl0 zl1 zl2 zl3 zs0 M H locs ls hP hS hl h
  unfold wp_X12_passes_122 at h
  refine lv_istore (lv' := [(4, .int zs0), (0, .ref (adr G xl0)), (1, .int zl1), (2, .int zl2), (3, .int zl3)]) hx hb dX12_passes_122 hl (by decide) rfl (fun ls hl => ?_)
  refine lv_aload_n hx hb dX12_passes_124 rfl (lv_at hl 1 rfl) ?_
  refine r_getr (C := RX12) (T := TX12) (N := 38) hx hb hts (fun w h => List.mem_cons_of_mem _ (iX12 w h)) hown hK hP rfl (by decide) rfl 20 (by decide) (hts _ (List.mem_cons_of_mem _ kw_1354)) (fun _ h9 => h9) dX12_passes_125 (by decide) h (fun x28 h => ?_)
  refine lv_iload_n hx hb dX12_passes_128 rfl (lv_at hl 4 rfl) ?_
  refine r_iconst hx hb dX12_passes_129 (by decide) h (fun z30 h => ?_)
  refine r_iadd hx hb dX12_passes_130 h (fun z32 h => ?_)
  refine lv_aload_n hx hb dX12_passes_131 rfl (lv_at hl 1 rfl) ?_
  refine lv_iload_n hx hb dX12_passes_132 rfl (lv_at hl 3 rfl) ?_
  refine q_Vi hx hb hml hown hts hK hP hS (c_X12_held l D G S _ xl0 zl2 _ h.2) ⟨callB_of 1 hts (gw_good kw_1654) rfl rfl rfl (hts _ (List.mem_cons_of_mem _ kw_14)) (hts _ (List.mem_cons_of_mem _ kw_1651)) hd_X12_held ⟨Nat.le_of_ble_eq_true rfl, Nat.le_of_ble_eq_true rfl⟩, (hts _ (List.mem_cons_of_mem _ kw_1653)), (hts _ (List.mem_cons_of_mem _ kp_89))⟩ h.1 (ci := 12) rfl (by decide) rfl hl.1 rfl (lv_room (Nat.le_of_ble_eq_true rfl)) dX12_passes_133 ⟨Nat.zero_le _, Nat.zero_le _⟩ (fun z35 M33 H locs h hP hS => ?_)
  refine r_if_eq (tgt := 155) hx hb dX12_passes_136 (by decide) h (fun h => ?_) (fun h => ?_)
  · refine lv_iload hx hb dX12_passes_155 (lv_at hl 0 rfl) ?_
    exact t_X12_passes_157 C hk80 xl0 zl1 zl2 zl3 x28 z32 zs0 _ _ _ _ hP hS (lv_sub hl [1, 2, 3, 4] rfl) h
  · refine lv_aload_n hx hb dX12_passes_139 rfl (lv_at hl 1 rfl) ?_
    refine lv_iload_n hx hb dX12_passes_140 rfl (lv_at hl 3 rfl) ?_
    refine lv_aload_n hx hb dX12_passes_141 rfl (lv_at hl 1 rfl) ?_
    refine r_getr (C := RX12) (T := TX12) (N := 38) hx hb hts (fun w h => List.mem_cons_of_mem _ (iX12 w h)) hown hK hP rfl (by decide) rfl 20 (by decide) (hts _ (List.mem_cons_of_mem _ kw_1354)) (fun _ h9 => h9) dX12_passes_142 (by decide) h (fun x37 h => ?_)
    refine lv_iload_n hx hb dX12_passes_145 rfl (lv_at hl 4 rfl) ?_
    refine r_iconst hx hb dX12_passes_146 (by decide) h (fun z39 h => ?_)
    refine r_iadd hx hb dX12_passes_147 h (fun z41 h => ?_)
    refine r_iald hx hb hK hP dX12_passes_148 h (fun z43 h => ?_)
    refine q_Vi hx hb hml hown hts hK hP hS (c_X12_moreTired l D G S _ xl0 zl2 z43 _ h.2) ⟨callB_of 2 hts (gw_good kw_1748) rfl rfl rfl (hts _ (List.mem_cons_of_mem _ kw_14)) (hts _ (List.mem_cons_of_mem _ kw_1745)) hd_X12_moreTired ⟨Nat.le_of_ble_eq_true rfl, Nat.le_of_ble_eq_true rfl⟩, (hts _ (List.mem_cons_of_mem _ kw_1747)), (hts _ (List.mem_cons_of_mem _ kp_106))⟩ h.1 (ci := 12) rfl (by decide) rfl hl.1 rfl (lv_room (Nat.le_of_ble_eq_true rfl)) dX12_passes_149 ⟨Nat.zero_le _, Nat.zero_le _⟩ (fun z46 M44 H locs h hP hS => ?_)
    refine lv_goto (tgt := 157) hx hb dX12_passes_152 (by decide) ?_
    exact t_X12_passes_157 C hk80 xl0 zl1 zl2 zl3 x28 z32 z46 _ _ _ _ hP hS (lv_sub hl [1, 2, 3, 4] rfl) h
set_option maxHeartbeats 4000000 in
set_option maxRecDepth 100000 in
theorem t_X12_passes_80 {p : Program} {l : Launch} {e : Env} {s : State} {m : MethodId} {args : Array Value} {below : List Frame} {meth : Method} {c : Code} {D : va_G} {G : Gt} {S : Sh} {post : Int → Mm → Prop} (C : Cx p s m args meth c D G cX12_passes 5 (some .int) (cw_X12_passes :: gw) RX12) : ∀ (n : Nat) (xl0 : Int) (zl1 : Int32) (zl2 : Int32) (M : Mm) (H : Heap) (locs : List Loc) (ls : Array Slot), Wd D G S M H → va_S (aG G) s.heap H locs → lv_has ls 5 [(0, .ref (adr G xl0)), (1, .int zl1), (2, .int zl2)] → wp_X12_passes_80 S post n xl0 zl1.toInt zl2.toInt  M → W p l e RM_X12_passes s m args below meth c H locs 0 0 (MQ below (QI D G S post) args s 0 0 (aG G)) (F0 m 80 ls []) := by
  obtain ⟨hx, hb, hr, hlocks, hml, hown, hts, hK⟩ := id C
  intro n
  induction n with
  | zero => intro xl0 zl1 zl2 M H locs ls hP hS hl h; exact h.elim
  | succ n ih =>
    intro xl0 zl1 zl2 M H locs ls hP hS hl h
    unfold wp_X12_passes_80 at h
    refine lv_iload_n hx hb dX12_passes_80 rfl (lv_at hl 2 rfl) ?_
    refine lv_aload_n hx hb dX12_passes_81 rfl (lv_at hl 0 rfl) ?_
    refine r_getr (C := RX12) (T := TX12) (N := 38) hx hb hts (fun w h => List.mem_cons_of_mem _ (iX12 w h)) hown hK hP rfl (by decide) rfl 20 (by decide) (hts _ (List.mem_cons_of_mem _ kw_1354)) (fun _ h9 => h9) dX12_passes_82 (by decide) h (fun x48 h => ?_)
    refine r_iconst hx hb dX12_passes_85 (by decide) h (fun z50 h => ?_)
    refine r_iald hx hb hK hP dX12_passes_86 h (fun z52 h => ?_)
    refine r_icmp_ge (tgt := 191) hx hb dX12_passes_87 (by decide) h (fun h => ?_) (fun h => ?_)
    · refine lv_aload_n hx hb dX12_passes_191 rfl (lv_at hl 0 rfl) ?_
      refine r_getr (C := RX12) (T := TX12) (N := 38) hx hb hts (fun w h => List.mem_cons_of_mem _ (iX12 w h)) hown hK hP rfl (by decide) rfl 20 (by decide) (hts _ (List.mem_cons_of_mem _ kw_1354)) (fun _ h9 => h9) dX12_passes_192 (by decide) h (fun x54 h => ?_)
      refine r_bipush hx hb dX12_passes_195 (by decide) h (fun z56 h => ?_)
      refine lv_dup2_11 hx hb dX12_passes_197 rfl rfl ?_
      refine r_iald hx hb hK hP dX12_passes_198 h (fun z58 h => ?_)
      refine r_iconst hx hb dX12_passes_199 (by decide) h (fun z60 h => ?_)
      refine r_iadd hx hb dX12_passes_200 h (fun z62 h => ?_)
      refine r_iast hx hb hK hP hS dX12_passes_201 h (fun M63 H locs h hP hS => ?_)
      refine lv_iload_n hx hb dX12_passes_202 rfl (lv_at hl 1 rfl) ?_
      exact r_iret hx hb hr hlocks hP hS dX12_passes_203 h
    · refine r_bipush hx hb dX12_passes_90 (by decide) h (fun z65 h => ?_)
      refine r_iconst hx hb dX12_passes_92 (by decide) h (fun z67 h => ?_)
      refine lv_iload_n hx hb dX12_passes_93 rfl (lv_at hl 2 rfl) ?_
      refine r_imul hx hb dX12_passes_94 h (fun z69 h => ?_)
      refine r_iadd hx hb dX12_passes_95 h (fun z71 h => ?_)
      refine lv_istore_n (lv' := [(3, .int z71), (0, .ref (adr G xl0)), (1, .int zl1), (2, .int zl2)]) hx hb dX12_passes_96 rfl hl (by decide) rfl (fun ls hl => ?_)
      refine lv_aload_n hx hb dX12_passes_97 rfl (lv_at hl 1 rfl) ?_
      refine r_getr (C := RX12) (T := TX12) (N := 38) hx hb hts (fun w h => List.mem_cons_of_mem _ (iX12 w h)) hown hK hP rfl (by decide) rfl 20 (by decide) (hts _ (List.mem_cons_of_mem _ kw_1354)) (fun _ h9 => h9) dX12_passes_98 (by decide) h (fun x73 h => ?_)
      refine lv_iload_n hx hb dX12_passes_101 rfl (lv_at hl 0 rfl) ?_
      refine r_iconst hx hb dX12_passes_102 (by decide) h (fun z75 h => ?_)
      refine r_iadd hx hb dX12_passes_103 h (fun z77 h => ?_)
      refine r_iald hx hb hK hP dX12_passes_104 h (fun z79 h => ?_)
      refine r_if_ne (tgt := 112) hx hb dX12_passes_105 (by decide) h (fun h => ?_) (fun h => ?_)
      · refine lv_aload_n hx hb dX12_passes_112 rfl (lv_at hl 1 rfl) ?_
        refine r_getr (C := RX12) (T := TX12) (N := 38) hx hb hts (fun w h => List.mem_cons_of_mem _ (iX12 w h)) hown hK hP rfl (by decide) rfl 20 (by decide) (hts _ (List.mem_cons_of_mem _ kw_1354)) (fun _ h9 => h9) dX12_passes_113 (by decide) h (fun x81 h => ?_)
        refine lv_iload_n hx hb dX12_passes_116 rfl (lv_at hl 0 rfl) ?_
        refine r_iconst hx hb dX12_passes_117 (by decide) h (fun z83 h => ?_)
        refine r_iadd hx hb dX12_passes_118 h (fun z85 h => ?_)
        refine r_iald hx hb hK hP dX12_passes_119 h (fun z87 h => ?_)
        refine r_iconst hx hb dX12_passes_120 (by decide) h (fun z89 h => ?_)
        refine r_isub hx hb dX12_passes_121 h (fun z91 h => ?_)
        exact t_X12_passes_122 C ih xl0 zl1 zl2 z71 z91 _ _ _ _ hP hS (lv_sub hl [1, 2, 3, 0] rfl) h
      · refine r_iconst hx hb dX12_passes_108 (by decide) h (fun z93 h => ?_)
        refine lv_goto (tgt := 122) hx hb dX12_passes_109 (by decide) ?_
        exact t_X12_passes_122 C ih xl0 zl1 zl2 z71 z93 _ _ _ _ hP hS (lv_sub hl [1, 2, 3, 0] rfl) h
set_option maxHeartbeats 4000000 in
set_option maxRecDepth 100000 in
theorem t_X12_passes_72 {p : Program} {l : Launch} {e : Env} {s : State} {m : MethodId} {args : Array Value} {below : List Frame} {meth : Method} {c : Code} {D : va_G} {G : Gt} {S : Sh} {post : Int → Mm → Prop} {k4 : Int → Int → Int → Mm → Prop} (C : Cx p s m args meth c D G cX12_passes 5 (some .int) (cw_X12_passes :: gw) RX12) (hk4 : ∀ (y0 : Int) (y1 : Int32) (y2 : Int32) (M : Mm) (H : Heap) (locs : List Loc) (ls : Array Slot), Wd D G S M H → va_S (aG G) s.heap H locs → lv_has ls 5 [(0, .ref (adr G y0)), (1, .int y1), (2, .int y2)] → k4 y0 y1.toInt y2.toInt M → W p l e RM_X12_passes s m args below meth c H locs 0 0 (MQ below (QI D G S post) args s 0 0 (aG G)) (F0 m 4 ls [])) : ∀ (xl0 : Int) (zl1 : Int32) (zl2 : Int32) (M : Mm) (H : Heap) (locs : List Loc) (ls : Array Slot), Wd D G S M H → va_S (aG G) s.heap H locs → lv_has ls 5 [(0, .ref (adr G xl0)), (1, .int zl1), (2, .int zl2)] → wp_X12_passes_72 S k4 post xl0 zl1.toInt zl2.toInt  M → W p l e RM_X12_passes s m args below meth c H locs 0 0 (MQ below (QI D G S post) args s 0 0 (aG G)) (F0 m 72 ls []) := by
  obtain ⟨hx, hb, hr, hlocks, hml, hown, hts, hK⟩ := id C
  intro xl0 zl1 zl2 M H locs ls hP hS hl h
  unfold wp_X12_passes_72 at h
  refine r_iinc hx hb (fun z95 => [(2, .int z95), (0, .ref (adr G xl0)), (1, .int zl1)]) dX12_passes_72 (by decide) hl (k := 2) rfl (by decide) (fun _ => rfl) h (fun z95 ls hl h => ?_)
  refine lv_goto (tgt := 4) hx hb dX12_passes_75 (by decide) ?_
  exact hk4 xl0 zl1 z95 _ _ _ _ hP hS (lv_sub hl [1, 2, 0] rfl) h
set_option maxHeartbeats 4000000 in
set_option maxRecDepth 100000 in
theorem t_X12_passes_70 {p : Program} {l : Launch} {e : Env} {s : State} {m : MethodId} {args : Array Value} {below : List Frame} {meth : Method} {c : Code} {D : va_G} {G : Gt} {S : Sh} {post : Int → Mm → Prop} {k4 : Int → Int → Int → Mm → Prop} (C : Cx p s m args meth c D G cX12_passes 5 (some .int) (cw_X12_passes :: gw) RX12) (hk4 : ∀ (y0 : Int) (y1 : Int32) (y2 : Int32) (M : Mm) (H : Heap) (locs : List Loc) (ls : Array Slot), Wd D G S M H → va_S (aG G) s.heap H locs → lv_has ls 5 [(0, .ref (adr G y0)), (1, .int y1), (2, .int y2)] → k4 y0 y1.toInt y2.toInt M → W p l e RM_X12_passes s m args below meth c H locs 0 0 (MQ below (QI D G S post) args s 0 0 (aG G)) (F0 m 4 ls [])) : ∀ (xl0 : Int) (zl2 : Int32) (zs0 : Int32) (zs1 : Int32) (M : Mm) (H : Heap) (locs : List Loc) (ls : Array Slot), Wd D G S M H → va_S (aG G) s.heap H locs → lv_has ls 5 [(0, .ref (adr G xl0)), (2, .int zl2)] → wp_X12_passes_70 S k4 post xl0 zl2.toInt zs0.toInt zs1.toInt M → W p l e RM_X12_passes s m args below meth c H locs 0 0 (MQ below (QI D G S post) args s 0 0 (aG G)) (F0 m 70 ls [.int zs1, .int zs0]) := by
  obtain ⟨hx, hb, hr, hlocks, hml, hown, hts, hK⟩ := id C
  intro xl0 zl2 zs0 zs1 M H locs ls hP hS hl h
  unfold wp_X12_passes_70 at h
  refine r_iadd hx hb dX12_passes_70 h (fun z97 h => ?_)
  refine lv_istore_n (lv' := [(1, .int z97), (0, .ref (adr G xl0)), (2, .int zl2)]) hx hb dX12_passes_71 rfl hl (by decide) rfl (fun ls hl => ?_)
  exact t_X12_passes_72 C hk4 xl0 z97 zl2 _ _ _ _ hP hS (lv_sub hl [1, 0, 2] rfl) h
set_option maxHeartbeats 4000000 in
set_option maxRecDepth 100000 in
theorem t_X12_passes_69 {p : Program} {l : Launch} {e : Env} {s : State} {m : MethodId} {args : Array Value} {below : List Frame} {meth : Method} {c : Code} {D : va_G} {G : Gt} {S : Sh} {post : Int → Mm → Prop} {k4 : Int → Int → Int → Mm → Prop} (C : Cx p s m args meth c D G cX12_passes 5 (some .int) (cw_X12_passes :: gw) RX12) (hk4 : ∀ (y0 : Int) (y1 : Int32) (y2 : Int32) (M : Mm) (H : Heap) (locs : List Loc) (ls : Array Slot), Wd D G S M H → va_S (aG G) s.heap H locs → lv_has ls 5 [(0, .ref (adr G y0)), (1, .int y1), (2, .int y2)] → k4 y0 y1.toInt y2.toInt M → W p l e RM_X12_passes s m args below meth c H locs 0 0 (MQ below (QI D G S post) args s 0 0 (aG G)) (F0 m 4 ls [])) : ∀ (xl0 : Int) (zl2 : Int32) (zs0 : Int32) (M : Mm) (H : Heap) (locs : List Loc) (ls : Array Slot), Wd D G S M H → va_S (aG G) s.heap H locs → lv_has ls 5 [(0, .ref (adr G xl0)), (2, .int zl2)] → wp_X12_passes_69 S k4 post xl0 zl2.toInt zs0.toInt M → W p l e RM_X12_passes s m args below meth c H locs 0 0 (MQ below (QI D G S post) args s 0 0 (aG G)) (F0 m 69 ls [.int zs0]) := by
  obtain ⟨hx, hb, hr, hlocks, hml, hown, hts, hK⟩ := id C
  intro xl0 zl2 zs0 M H locs ls hP hS hl h
  unfold wp_X12_passes_69 at h
  refine r_iconst hx hb dX12_passes_69 (by decide) h (fun z99 h => ?_)
  exact t_X12_passes_70 C hk4 xl0 zl2 zs0 z99 _ _ _ _ hP hS (lv_sub hl [0, 1] rfl) h
set_option maxHeartbeats 4000000 in
set_option maxRecDepth 100000 in
theorem t_X12_passes_4 {p : Program} {l : Launch} {e : Env} {s : State} {m : MethodId} {args : Array Value} {below : List Frame} {meth : Method} {c : Code} {D : va_G} {G : Gt} {S : Sh} {post : Int → Mm → Prop} (C : Cx p s m args meth c D G cX12_passes 5 (some .int) (cw_X12_passes :: gw) RX12) : ∀ (n : Nat) (xl0 : Int) (zl1 : Int32) (zl2 : Int32) (M : Mm) (H : Heap) (locs : List Loc) (ls : Array Slot), Wd D G S M H → va_S (aG G) s.heap H locs → lv_has ls 5 [(0, .ref (adr G xl0)), (1, .int zl1), (2, .int zl2)] → wp_X12_passes_4 S post n xl0 zl1.toInt zl2.toInt  M → W p l e RM_X12_passes s m args below meth c H locs 0 0 (MQ below (QI D G S post) args s 0 0 (aG G)) (F0 m 4 ls []) := by
  obtain ⟨hx, hb, hr, hlocks, hml, hown, hts, hK⟩ := id C
  intro n
  induction n with
  | zero => intro xl0 zl1 zl2 M H locs ls hP hS hl h; exact h.elim
  | succ n ih =>
    intro xl0 zl1 zl2 M H locs ls hP hS hl h
    unfold wp_X12_passes_4 at h
    refine lv_iload_n hx hb dX12_passes_4 rfl (lv_at hl 2 rfl) ?_
    refine lv_aload_n hx hb dX12_passes_5 rfl (lv_at hl 0 rfl) ?_
    refine r_getr (C := RX12) (T := TX12) (N := 38) hx hb hts (fun w h => List.mem_cons_of_mem _ (iX12 w h)) hown hK hP rfl (by decide) rfl 20 (by decide) (hts _ (List.mem_cons_of_mem _ kw_1354)) (fun _ h9 => h9) dX12_passes_6 (by decide) h (fun x101 h => ?_)
    refine r_iconst hx hb dX12_passes_9 (by decide) h (fun z103 h => ?_)
    refine r_iald hx hb hK hP dX12_passes_10 h (fun z105 h => ?_)
    refine r_icmp_ge (tgt := 78) hx hb dX12_passes_11 (by decide) h (fun h => ?_) (fun h => ?_)
    · refine r_iconst hx hb dX12_passes_78 (by decide) h (fun z107 h => ?_)
      refine lv_istore_n (lv' := [(2, .int z107), (0, .ref (adr G xl0)), (1, .int zl1)]) hx hb dX12_passes_79 rfl hl (by decide) rfl (fun ls hl => ?_)
      obtain ⟨n9, h⟩ := h
      exact t_X12_passes_80 C n9 xl0 zl1 z107 _ _ _ _ hP hS (lv_sub hl [1, 2, 0] rfl) h
    · refine lv_aload_n hx hb dX12_passes_14 rfl (lv_at hl 0 rfl) ?_
      refine lv_iload_n hx hb dX12_passes_15 rfl (lv_at hl 2 rfl) ?_
      refine r_iconst hx hb dX12_passes_16 (by decide) h (fun z109 h => ?_)
      refine q_Vi hx hb hml hown hts hK hP hS (c_X12_jugOf l D G S _ xl0 zl2 z109 _ h.2) ⟨callB_of 2 hts (gw_good kw_1658) rfl rfl rfl (hts _ (List.mem_cons_of_mem _ kw_14)) (hts _ (List.mem_cons_of_mem _ kw_1655)) hd_X12_jugOf ⟨Nat.le_of_ble_eq_true rfl, Nat.le_of_ble_eq_true rfl⟩, (hts _ (List.mem_cons_of_mem _ kw_1657)), (hts _ (List.mem_cons_of_mem _ kp_90))⟩ h.1 (ci := 12) rfl (by decide) rfl hl.1 rfl (lv_room (Nat.le_of_ble_eq_true rfl)) dX12_passes_17 ⟨Nat.zero_le _, Nat.zero_le _⟩ (fun z112 M110 H locs h hP hS => ?_)
      refine r_iconst hx hb dX12_passes_20 (by decide) h (fun z114 h => ?_)
      refine r_icmp_ne (tgt := 27) hx hb dX12_passes_21 (by decide) h (fun h => ?_) (fun h => ?_)
      · refine lv_aload_n hx hb dX12_passes_27 rfl (lv_at hl 0 rfl) ?_
        refine lv_iload_n hx hb dX12_passes_28 rfl (lv_at hl 2 rfl) ?_
        refine r_iconst hx hb dX12_passes_29 (by decide) h (fun z116 h => ?_)
        refine q_Vi hx hb hml hown hts hK hP hS (c_X12_jugOf l D G S _ xl0 zl2 z116 _ h.2) ⟨callB_of 2 hts (gw_good kw_1658) rfl rfl rfl (hts _ (List.mem_cons_of_mem _ kw_14)) (hts _ (List.mem_cons_of_mem _ kw_1655)) hd_X12_jugOf ⟨Nat.le_of_ble_eq_true rfl, Nat.le_of_ble_eq_true rfl⟩, (hts _ (List.mem_cons_of_mem _ kw_1657)), (hts _ (List.mem_cons_of_mem _ kp_90))⟩ h.1 (ci := 12) rfl (by decide) rfl hl.1 rfl (lv_room (Nat.le_of_ble_eq_true rfl)) dX12_passes_30 ⟨Nat.zero_le _, Nat.zero_le _⟩ (fun z119 M117 H locs h hP hS => ?_)
        refine lv_istore_n (lv' := [(3, .int z119), (0, .ref (adr G xl0)), (1, .int zl1), (2, .int zl2)]) hx hb dX12_passes_33 rfl hl (by decide) rfl (fun ls hl => ?_)
        refine lv_aload_n hx hb dX12_passes_34 rfl (lv_at hl 1 rfl) ?_
        refine lv_iload_n hx hb dX12_passes_35 rfl (lv_at hl 3 rfl) ?_
        refine q_Vv hx hb hml hown hts hK hP hS (c_X12_turns l D G S _ xl0 zl2 _ h.2) ⟨callB_of 1 hts (gw_good kw_1710) rfl rfl rfl (hts _ (List.mem_cons_of_mem _ kw_14)) (hts _ (List.mem_cons_of_mem _ kw_1707)) hd_X12_turns ⟨Nat.le_of_ble_eq_true rfl, Nat.le_of_ble_eq_true rfl⟩, (hts _ (List.mem_cons_of_mem _ kw_1709)), (hts _ (List.mem_cons_of_mem _ kp_99))⟩ h.1 (ci := 12) rfl (by decide) rfl hl.1 rfl (lv_room (Nat.le_of_ble_eq_true rfl)) dX12_passes_36 ⟨Nat.zero_le _, Nat.zero_le _⟩ (fun M120 H locs h hP hS => ?_)
        refine lv_iload_n hx hb dX12_passes_39 rfl (lv_at hl 2 rfl) ?_
        refine lv_iload_n hx hb dX12_passes_40 rfl (lv_at hl 0 rfl) ?_
        refine lv_aload_n hx hb dX12_passes_41 rfl (lv_at hl 1 rfl) ?_
        refine r_getr (C := RX12) (T := TX12) (N := 38) hx hb hts (fun w h => List.mem_cons_of_mem _ (iX12 w h)) hown hK hP rfl (by decide) rfl 20 (by decide) (hts _ (List.mem_cons_of_mem _ kw_1354)) (fun _ h9 => h9) dX12_passes_42 (by decide) h (fun x122 h => ?_)
        refine r_iconst hx hb dX12_passes_45 (by decide) h (fun z124 h => ?_)
        refine r_iald hx hb hK hP dX12_passes_46 h (fun z126 h => ?_)
        refine r_icmp_ge (tgt := 69) hx hb dX12_passes_47 (by decide) h (fun h => ?_) (fun h => ?_)
        · exact t_X12_passes_69 C ih xl0 zl2 zl1 _ _ _ _ hP hS (lv_sub hl [1, 3] rfl) h
        · refine lv_aload_n hx hb dX12_passes_50 rfl (lv_at hl 1 rfl) ?_
          refine lv_iload_n hx hb dX12_passes_51 rfl (lv_at hl 3 rfl) ?_
          refine r_iconst hx hb dX12_passes_52 (by decide) h (fun z128 h => ?_)
          refine q_Vi hx hb hml hown hts hK hP hS (c_X12_jugOf l D G S _ xl0 zl2 z128 _ h.2) ⟨callB_of 2 hts (gw_good kw_1658) rfl rfl rfl (hts _ (List.mem_cons_of_mem _ kw_14)) (hts _ (List.mem_cons_of_mem _ kw_1655)) hd_X12_jugOf ⟨Nat.le_of_ble_eq_true rfl, Nat.le_of_ble_eq_true rfl⟩, (hts _ (List.mem_cons_of_mem _ kw_1657)), (hts _ (List.mem_cons_of_mem _ kp_90))⟩ h.1 (ci := 12) rfl (by decide) rfl hl.1 rfl (lv_room (Nat.le_of_ble_eq_true rfl)) dX12_passes_53 ⟨Nat.zero_le _, Nat.zero_le _⟩ (fun z131 M129 H locs h hP hS => ?_)
          refine lv_aload_n hx hb dX12_passes_56 rfl (lv_at hl 1 rfl) ?_
          refine r_getr (C := RX12) (T := TX12) (N := 38) hx hb hts (fun w h => List.mem_cons_of_mem _ (iX12 w h)) hown hK hP rfl (by decide) rfl 20 (by decide) (hts _ (List.mem_cons_of_mem _ kw_1354)) (fun _ h9 => h9) dX12_passes_57 (by decide) h (fun x133 h => ?_)
          refine r_iconst hx hb dX12_passes_60 (by decide) h (fun z135 h => ?_)
          refine r_iald hx hb hK hP dX12_passes_61 h (fun z137 h => ?_)
          refine r_icmp_lt (tgt := 69) hx hb dX12_passes_62 (by decide) h (fun h => ?_) (fun h => ?_)
          · exact t_X12_passes_69 C ih xl0 zl2 zl1 _ _ _ _ hP hS (lv_sub hl [1, 3] rfl) h
          · refine r_iconst hx hb dX12_passes_65 (by decide) h (fun z139 h => ?_)
            refine lv_goto (tgt := 70) hx hb dX12_passes_66 (by decide) ?_
            exact t_X12_passes_70 C ih xl0 zl2 zl1 z139 _ _ _ _ hP hS (lv_sub hl [1, 3] rfl) h
      · refine lv_goto (tgt := 72) hx hb dX12_passes_24 (by decide) ?_
        exact t_X12_passes_72 C ih xl0 zl1 zl2 _ _ _ _ hP hS (lv_sub hl [0, 1, 2] rfl) h
set_option maxHeartbeats 4000000 in
set_option maxRecDepth 100000 in
theorem c_X12_passes (l : Launch) (D : va_G) (G : Gt) (S : Sh) (M : Mm) (xl0 : Int) (post : Int → Mm → Prop) (h : wp_X12_passes S M xl0 post) : Met l yX12_passes (cw_X12_passes :: gw) RM_X12_passes (va_Pc [.ref (adr G xl0)] (fun U => KN D G U ∧ Wd D G S M U.heap)) (QI D G S post) 0 0 (aG G) := by
  refine Met.ofW (cc := cX12_passes) (maxL := 5) (ret := (some .int)) (by decide) rfl ?_
  intro p e s m args below meth c s₁ B hml hv
  obtain ⟨rfl, hK, hP⟩ := hv
  have hx := B.exec
  have hb := B.bytes
  have hr := B.returns
  have hts := atoms_spec (ws := cw_X12_passes :: gw) B.pre
  have hown : s.vm.findClass RX12 = some m.cls := findClass_of_methodNamed B.named
  have hlocks := B.notSynchronized
  have hS : va_S (aG G) s.heap s.heap [] := va_S.rf
  have C : Cx p s m ([.ref (adr G xl0)] : List Value).toArray meth c D G cX12_passes 5 (some .int) (cw_X12_passes :: gw) RX12 := ⟨hx, hb, hr, hlocks, hml, hown, hts, hK⟩
  have hl := lv_entry ([.ref (adr G xl0)]) (n := 5) (Nat.le_of_ble_eq_true rfl)
  rw [lg_entry_eq]
  generalize (lg_sl ([.ref (adr G xl0)]) ++ List.replicate (5 - (lg_sl ([.ref (adr G xl0)])).length) Slot.unset).toArray = ls at hl ⊢
  have hl : lv_has ls 5 [(0, .ref (adr G xl0))] := hl
  unfold wp_X12_passes at h
  refine r_iconst hx hb dX12_passes_0 (by decide) h (fun z141 h => ?_)
  refine lv_istore_n (lv' := [(1, .int z141), (0, .ref (adr G xl0))]) hx hb dX12_passes_1 rfl hl (by decide) rfl (fun ls hl => ?_)
  refine r_iconst hx hb dX12_passes_2 (by decide) h (fun z143 h => ?_)
  refine lv_istore_n (lv' := [(2, .int z143), (1, .int z141), (0, .ref (adr G xl0))]) hx hb dX12_passes_3 rfl hl (by decide) rfl (fun ls hl => ?_)
  obtain ⟨n9, h⟩ := h
  exact t_X12_passes_4 C n9 xl0 z141 z143 _ _ _ _ hP hS (lv_sub hl [2, 1, 0] rfl) h
/-! TurningMilkModel.hour()I -/
abbrev RM_X12_hour : Room := { frames := 7, cells := 0, slots := 0, locals := 195 }
def cw_X12_hour : Cond := Cond.code yX12_hour cX12_hour 1 (Option.some FieldType.int)
theorem hd_X12_hour : yX12_hour.cls ≠ "java/lang/invoke/MethodHandle" ∧ yX12_hour.cls ≠ "java/lang/invoke/VarHandle" ∧ (parseMethodDescriptor yX12_hour.desc).map (fun d => d.parameters.length) = some 0 := by decide +kernel
theorem dX12_hour_0 : decode cX12_hour 0 = .ok (.aload_n 0, 1) := by decide +kernel
theorem dX12_hour_1 : decode cX12_hour 1 = .ok (.invokevirtual 350, 3) := by decide +kernel
theorem dX12_hour_4 : decode cX12_hour 4 = .ok (.ifCond .eq 16, 3) := by decide +kernel
theorem dX12_hour_7 : decode cX12_hour 7 = .ok (.aload_n 0, 1) := by decide +kernel
theorem dX12_hour_8 : decode cX12_hour 8 = .ok (.getfield 39, 3) := by decide +kernel
theorem dX12_hour_11 : decode cX12_hour 11 = .ok (.bipush 7, 2) := by decide +kernel
theorem dX12_hour_13 : decode cX12_hour 13 = .ok (.iaload, 1) := by decide +kernel
theorem dX12_hour_14 : decode cX12_hour 14 = .ok (.sipush 999, 3) := by decide +kernel
theorem dX12_hour_17 : decode cX12_hour 17 = .ok (.if_icmp .ne 5, 3) := by decide +kernel
theorem dX12_hour_20 : decode cX12_hour 20 = .ok (.iconst (-1), 1) := by decide +kernel
theorem dX12_hour_21 : decode cX12_hour 21 = .ok (.ireturn, 1) := by decide +kernel
theorem dX12_hour_22 : decode cX12_hour 22 = .ok (.aload_n 0, 1) := by decide +kernel
theorem dX12_hour_23 : decode cX12_hour 23 = .ok (.invokevirtual 353, 3) := by decide +kernel
theorem dX12_hour_26 : decode cX12_hour 26 = .ok (.aload_n 0, 1) := by decide +kernel
theorem dX12_hour_27 : decode cX12_hour 27 = .ok (.invokevirtual 356, 3) := by decide +kernel
theorem dX12_hour_30 : decode cX12_hour 30 = .ok (.ireturn, 1) := by decide +kernel
def wp_X12_hour (S : Sh) (M : Mm) (u0 : Int) (post : Int → Mm → Prop) : Prop := isK S u0 12 ∧ (wp_X12_isDairy S M u0 <| fun v2 M1 => wIf (v2 = 0) (wC (-1) fun v4 => post v4 M1) (wGetR S M1 u0 12 20 fun v6 => wC 7 fun v8 => wLd S M1 v6 14 v8 fun v10 => wC 999 fun v12 => wIf (¬ v10 = v12) (isK S u0 12 ∧ (wp_X12_keepsAct S M1 u0 <| fun M14 => isK S u0 12 ∧ (wp_X12_passes S M14 u0 <| fun v16 M15 => post v16 M15))) (wC (-1) fun v18 => post v18 M1)))
set_option maxHeartbeats 4000000 in
set_option maxRecDepth 100000 in
theorem c_X12_hour (l : Launch) (D : va_G) (G : Gt) (S : Sh) (M : Mm) (xl0 : Int) (post : Int → Mm → Prop) (h : wp_X12_hour S M xl0 post) : Met l yX12_hour (cw_X12_hour :: gw) RM_X12_hour (va_Pc [.ref (adr G xl0)] (fun U => KN D G U ∧ Wd D G S M U.heap)) (QI D G S post) 0 0 (aG G) := by
  refine Met.ofW (cc := cX12_hour) (maxL := 1) (ret := (some .int)) (by decide) rfl ?_
  intro p e s m args below meth c s₁ B hml hv
  obtain ⟨rfl, hK, hP⟩ := hv
  have hx := B.exec
  have hb := B.bytes
  have hr := B.returns
  have hts := atoms_spec (ws := cw_X12_hour :: gw) B.pre
  have hown : s.vm.findClass RX12 = some m.cls := findClass_of_methodNamed B.named
  have hlocks := B.notSynchronized
  have hS : va_S (aG G) s.heap s.heap [] := va_S.rf
  have C : Cx p s m ([.ref (adr G xl0)] : List Value).toArray meth c D G cX12_hour 1 (some .int) (cw_X12_hour :: gw) RX12 := ⟨hx, hb, hr, hlocks, hml, hown, hts, hK⟩
  have hl := lv_entry ([.ref (adr G xl0)]) (n := 1) (Nat.le_of_ble_eq_true rfl)
  rw [lg_entry_eq]
  generalize (lg_sl ([.ref (adr G xl0)]) ++ List.replicate (1 - (lg_sl ([.ref (adr G xl0)])).length) Slot.unset).toArray = ls at hl ⊢
  have hl : lv_has ls 1 [(0, .ref (adr G xl0))] := hl
  unfold wp_X12_hour at h
  refine lv_aload_n hx hb dX12_hour_0 rfl (lv_at hl 0 rfl) ?_
  refine q_Vi hx hb hml hown hts hK hP hS (c_X12_isDairy l D G S _ xl0 _ h.2) ⟨callB_of 0 hts (gw_good kw_1698) rfl rfl rfl (hts _ (List.mem_cons_of_mem _ kw_14)) (hts _ (List.mem_cons_of_mem _ kw_1695)) hd_X12_isDairy ⟨Nat.le_of_ble_eq_true rfl, Nat.le_of_ble_eq_true rfl⟩, (hts _ (List.mem_cons_of_mem _ kw_1697)), (hts _ (List.mem_cons_of_mem _ kp_96))⟩ h.1 (ci := 12) rfl (by decide) rfl hl.1 rfl (lv_room (Nat.le_of_ble_eq_true rfl)) dX12_hour_1 ⟨Nat.zero_le _, Nat.zero_le _⟩ (fun z3 M1 H locs h hP hS => ?_)
  refine r_if_eq (tgt := 20) hx hb dX12_hour_4 (by decide) h (fun h => ?_) (fun h => ?_)
  · refine r_iconst hx hb dX12_hour_20 (by decide) h (fun z5 h => ?_)
    exact r_iret hx hb hr hlocks hP hS dX12_hour_21 h
  · refine lv_aload_n hx hb dX12_hour_7 rfl (lv_at hl 0 rfl) ?_
    refine r_getr (C := RX12) (T := TX12) (N := 38) hx hb hts (fun w h => List.mem_cons_of_mem _ (iX12 w h)) hown hK hP rfl (by decide) rfl 20 (by decide) (hts _ (List.mem_cons_of_mem _ kw_1354)) (fun _ h9 => h9) dX12_hour_8 (by decide) h (fun x7 h => ?_)
    refine r_bipush hx hb dX12_hour_11 (by decide) h (fun z9 h => ?_)
    refine r_iald hx hb hK hP dX12_hour_13 h (fun z11 h => ?_)
    refine r_sipush hx hb dX12_hour_14 (by decide) h (fun z13 h => ?_)
    refine r_icmp_ne (tgt := 22) hx hb dX12_hour_17 (by decide) h (fun h => ?_) (fun h => ?_)
    · refine lv_aload_n hx hb dX12_hour_22 rfl (lv_at hl 0 rfl) ?_
      refine q_Vv hx hb hml hown hts hK hP hS (c_X12_keepsAct l D G S _ xl0 _ h.2) ⟨callB_of 0 hts (gw_good kw_1702) rfl rfl rfl (hts _ (List.mem_cons_of_mem _ kw_14)) (hts _ (List.mem_cons_of_mem _ kw_1699)) hd_X12_keepsAct ⟨Nat.le_of_ble_eq_true rfl, Nat.le_of_ble_eq_true rfl⟩, (hts _ (List.mem_cons_of_mem _ kw_1701)), (hts _ (List.mem_cons_of_mem _ kp_97))⟩ h.1 (ci := 12) rfl (by decide) rfl hl.1 rfl (lv_room (Nat.le_of_ble_eq_true rfl)) dX12_hour_23 ⟨Nat.zero_le _, Nat.zero_le _⟩ (fun M14 H locs h hP hS => ?_)
      refine lv_aload_n hx hb dX12_hour_26 rfl (lv_at hl 0 rfl) ?_
      refine q_Vi hx hb hml hown hts hK hP hS (c_X12_passes l D G S _ xl0 _ h.2) ⟨callB_of 0 hts (gw_good kw_1706) rfl rfl rfl (hts _ (List.mem_cons_of_mem _ kw_14)) (hts _ (List.mem_cons_of_mem _ kw_1703)) hd_X12_passes ⟨Nat.le_of_ble_eq_true rfl, Nat.le_of_ble_eq_true rfl⟩, (hts _ (List.mem_cons_of_mem _ kw_1705)), (hts _ (List.mem_cons_of_mem _ kp_98))⟩ h.1 (ci := 12) rfl (by decide) rfl hl.1 rfl (lv_room (Nat.le_of_ble_eq_true rfl)) dX12_hour_27 ⟨Nat.zero_le _, Nat.zero_le _⟩ (fun z17 M15 H locs h hP hS => ?_)
      exact r_iret hx hb hr hlocks hP hS dX12_hour_30 h
    · refine r_iconst hx hb dX12_hour_20 (by decide) h (fun z19 h => ?_)
      exact r_iret hx hb hr hlocks hP hS dX12_hour_21 h
/-! TurningMilkModel.isAtPlace(I)Z -/
abbrev RM_X12_isAtPlace : Room := { frames := 2, cells := 0, slots := 0, locals := 62 }
def cw_X12_isAtPlace : Cond := Cond.code yX12_isAtPlace cX12_isAtPlace 2 (Option.some FieldType.boolean)
theorem hd_X12_isAtPlace : yX12_isAtPlace.cls ≠ "java/lang/invoke/MethodHandle" ∧ yX12_isAtPlace.cls ≠ "java/lang/invoke/VarHandle" ∧ (parseMethodDescriptor yX12_isAtPlace.desc).map (fun d => d.parameters.length) = some 1 := by decide +kernel
theorem dX12_isAtPlace_0 : decode cX12_isAtPlace 0 = .ok (.aload_n 0, 1) := by decide +kernel
theorem dX12_isAtPlace_1 : decode cX12_isAtPlace 1 = .ok (.iload_n 1, 1) := by decide +kernel
theorem dX12_isAtPlace_2 : decode cX12_isAtPlace 2 = .ok (.iconst 1, 1) := by decide +kernel
theorem dX12_isAtPlace_3 : decode cX12_isAtPlace 3 = .ok (.invokevirtual 306, 3) := by decide +kernel
theorem dX12_isAtPlace_6 : decode cX12_isAtPlace 6 = .ok (.ifCond .ne 7, 3) := by decide +kernel
theorem dX12_isAtPlace_9 : decode cX12_isAtPlace 9 = .ok (.iconst 1, 1) := by decide +kernel
theorem dX12_isAtPlace_10 : decode cX12_isAtPlace 10 = .ok (.goto 4, 3) := by decide +kernel
theorem dX12_isAtPlace_13 : decode cX12_isAtPlace 13 = .ok (.iconst 0, 1) := by decide +kernel
theorem dX12_isAtPlace_14 : decode cX12_isAtPlace 14 = .ok (.ireturn, 1) := by decide +kernel
def wp_X12_isAtPlace (S : Sh) (M : Mm) (u0 : Int) (u1 : Int) (post : Int → Mm → Prop) : Prop := wC 1 fun v1 => isK S u0 12 ∧ (wp_X12_handOf S M u0 u1 v1 <| fun v4 M3 => wIf (¬ v4 = 0) (wC 0 fun v6 => (v6 = 0 ∨ v6 = 1) ∧ post v6 M3) (wC 1 fun v8 => (v8 = 0 ∨ v8 = 1) ∧ post v8 M3))
set_option maxHeartbeats 4000000 in
set_option maxRecDepth 100000 in
theorem c_X12_isAtPlace (l : Launch) (D : va_G) (G : Gt) (S : Sh) (M : Mm) (xl0 : Int) (zl1 : Int32) (post : Int → Mm → Prop) (h : wp_X12_isAtPlace S M xl0 zl1.toInt post) : Met l yX12_isAtPlace (cw_X12_isAtPlace :: gw) RM_X12_isAtPlace (va_Pc [.ref (adr G xl0), .int zl1] (fun U => KN D G U ∧ Wd D G S M U.heap)) (QI D G S post) 0 0 (aG G) := by
  refine Met.ofW (cc := cX12_isAtPlace) (maxL := 2) (ret := (some .boolean)) (by decide) rfl ?_
  intro p e s m args below meth c s₁ B hml hv
  obtain ⟨rfl, hK, hP⟩ := hv
  have hx := B.exec
  have hb := B.bytes
  have hr := B.returns
  have hts := atoms_spec (ws := cw_X12_isAtPlace :: gw) B.pre
  have hown : s.vm.findClass RX12 = some m.cls := findClass_of_methodNamed B.named
  have hlocks := B.notSynchronized
  have hS : va_S (aG G) s.heap s.heap [] := va_S.rf
  have C : Cx p s m ([.ref (adr G xl0), .int zl1] : List Value).toArray meth c D G cX12_isAtPlace 2 (some .boolean) (cw_X12_isAtPlace :: gw) RX12 := ⟨hx, hb, hr, hlocks, hml, hown, hts, hK⟩
  have hl := lv_entry ([.ref (adr G xl0), .int zl1]) (n := 2) (Nat.le_of_ble_eq_true rfl)
  rw [lg_entry_eq]
  generalize (lg_sl ([.ref (adr G xl0), .int zl1]) ++ List.replicate (2 - (lg_sl ([.ref (adr G xl0), .int zl1])).length) Slot.unset).toArray = ls at hl ⊢
  have hl : lv_has ls 2 [(0, .ref (adr G xl0)), (1, .int zl1)] := hl
  unfold wp_X12_isAtPlace at h
  refine lv_aload_n hx hb dX12_isAtPlace_0 rfl (lv_at hl 0 rfl) ?_
  refine lv_iload_n hx hb dX12_isAtPlace_1 rfl (lv_at hl 1 rfl) ?_
  refine r_iconst hx hb dX12_isAtPlace_2 (by decide) h (fun z2 h => ?_)
  refine q_Vi hx hb hml hown hts hK hP hS (c_X12_handOf l D G S _ xl0 zl1 z2 _ h.2) ⟨callB_of 2 hts (gw_good kw_1650) rfl rfl rfl (hts _ (List.mem_cons_of_mem _ kw_14)) (hts _ (List.mem_cons_of_mem _ kw_1647)) hd_X12_handOf ⟨Nat.le_of_ble_eq_true rfl, Nat.le_of_ble_eq_true rfl⟩, (hts _ (List.mem_cons_of_mem _ kw_1649)), (hts _ (List.mem_cons_of_mem _ kp_88))⟩ h.1 (ci := 12) rfl (by decide) rfl hl.1 rfl (lv_room (Nat.le_of_ble_eq_true rfl)) dX12_isAtPlace_3 ⟨Nat.zero_le _, Nat.zero_le _⟩ (fun z5 M3 H locs h hP hS => ?_)
  refine r_if_ne (tgt := 13) hx hb dX12_isAtPlace_6 (by decide) h (fun h => ?_) (fun h => ?_)
  · refine r_iconst hx hb dX12_isAtPlace_13 (by decide) h (fun z7 h => ?_)
    exact r_zret hx hb hr hlocks hP hS dX12_isAtPlace_14 h
  · refine r_iconst hx hb dX12_isAtPlace_9 (by decide) h (fun z9 h => ?_)
    refine lv_goto (tgt := 14) hx hb dX12_isAtPlace_10 (by decide) ?_
    exact r_zret hx hb hr hlocks hP hS dX12_isAtPlace_14 h
/-! TurningMilkModel.canTake(II)Z -/
abbrev RM_X12_canTake : Room := { frames := 3, cells := 0, slots := 0, locals := 85 }
def cw_X12_canTake : Cond := Cond.code yX12_canTake cX12_canTake 3 (Option.some FieldType.boolean)
theorem hd_X12_canTake : yX12_canTake.cls ≠ "java/lang/invoke/MethodHandle" ∧ yX12_canTake.cls ≠ "java/lang/invoke/VarHandle" ∧ (parseMethodDescriptor yX12_canTake.desc).map (fun d => d.parameters.length) = some 2 := by decide +kernel
theorem dX12_canTake_0 : decode cX12_canTake 0 = .ok (.aload_n 0, 1) := by decide +kernel
theorem dX12_canTake_1 : decode cX12_canTake 1 = .ok (.iload_n 1, 1) := by decide +kernel
theorem dX12_canTake_2 : decode cX12_canTake 2 = .ok (.invokevirtual 359, 3) := by decide +kernel
theorem dX12_canTake_5 : decode cX12_canTake 5 = .ok (.ifCond .eq 42, 3) := by decide +kernel
theorem dX12_canTake_8 : decode cX12_canTake 8 = .ok (.aload_n 0, 1) := by decide +kernel
theorem dX12_canTake_9 : decode cX12_canTake 9 = .ok (.iload_n 2, 1) := by decide +kernel
theorem dX12_canTake_10 : decode cX12_canTake 10 = .ok (.invokevirtual 292, 3) := by decide +kernel
theorem dX12_canTake_13 : decode cX12_canTake 13 = .ok (.ifCond .eq 34, 3) := by decide +kernel
theorem dX12_canTake_16 : decode cX12_canTake 16 = .ok (.aload_n 0, 1) := by decide +kernel
theorem dX12_canTake_17 : decode cX12_canTake 17 = .ok (.iload_n 2, 1) := by decide +kernel
theorem dX12_canTake_18 : decode cX12_canTake 18 = .ok (.iconst 0, 1) := by decide +kernel
theorem dX12_canTake_19 : decode cX12_canTake 19 = .ok (.invokevirtual 284, 3) := by decide +kernel
theorem dX12_canTake_22 : decode cX12_canTake 22 = .ok (.aload_n 0, 1) := by decide +kernel
theorem dX12_canTake_23 : decode cX12_canTake 23 = .ok (.iload_n 1, 1) := by decide +kernel
theorem dX12_canTake_24 : decode cX12_canTake 24 = .ok (.iconst 0, 1) := by decide +kernel
theorem dX12_canTake_25 : decode cX12_canTake 25 = .ok (.invokevirtual 306, 3) := by decide +kernel
theorem dX12_canTake_28 : decode cX12_canTake 28 = .ok (.if_icmp .ne 19, 3) := by decide +kernel
theorem dX12_canTake_31 : decode cX12_canTake 31 = .ok (.aload_n 0, 1) := by decide +kernel
theorem dX12_canTake_32 : decode cX12_canTake 32 = .ok (.iload_n 1, 1) := by decide +kernel
theorem dX12_canTake_33 : decode cX12_canTake 33 = .ok (.invokevirtual 309, 3) := by decide +kernel
theorem dX12_canTake_36 : decode cX12_canTake 36 = .ok (.invokestatic 344, 3) := by decide +kernel
theorem dX12_canTake_39 : decode cX12_canTake 39 = .ok (.iconst 2, 1) := by decide +kernel
theorem dX12_canTake_40 : decode cX12_canTake 40 = .ok (.if_icmp .ge 7, 3) := by decide +kernel
theorem dX12_canTake_43 : decode cX12_canTake 43 = .ok (.iconst 1, 1) := by decide +kernel
theorem dX12_canTake_44 : decode cX12_canTake 44 = .ok (.goto 4, 3) := by decide +kernel
theorem dX12_canTake_47 : decode cX12_canTake 47 = .ok (.iconst 0, 1) := by decide +kernel
theorem dX12_canTake_48 : decode cX12_canTake 48 = .ok (.ireturn, 1) := by decide +kernel
def wp_X12_canTake (S : Sh) (M : Mm) (u0 : Int) (u1 : Int) (u2 : Int) (post : Int → Mm → Prop) : Prop := isK S u0 12 ∧ (wp_X12_isAtPlace S M u0 u1 <| fun v2 M1 => wIf (v2 = 0) (wC 0 fun v4 => (v4 = 0 ∨ v4 = 1) ∧ post v4 M1) (isK S u0 12 ∧ (wp_X12_stands S M1 u0 u2 <| fun v7 M6 => wIf (v7 = 0) (wC 0 fun v9 => (v9 = 0 ∨ v9 = 1) ∧ post v9 M6) (wC 0 fun v11 => isK S u0 12 ∧ (wp_X12_jugOf S M6 u0 u2 v11 <| fun v14 M13 => wC 0 fun v16 => isK S u0 12 ∧ (wp_X12_handOf S M13 u0 u1 v16 <| fun v19 M18 => wIf (¬ v14 = v19) (wC 0 fun v21 => (v21 = 0 ∨ v21 = 1) ∧ post v21 M18) (isK S u0 12 ∧ (wp_X12_held S M18 u0 u1 <| fun v24 M23 => wp_X12_bits S M23 v24 <| fun v27 M26 => wC 2 fun v29 => wIf (v29 ≤ v27) (wC 0 fun v31 => (v31 = 0 ∨ v31 = 1) ∧ post v31 M26) (wC 1 fun v33 => (v33 = 0 ∨ v33 = 1) ∧ post v33 M26)))))))))
set_option maxHeartbeats 4000000 in
set_option maxRecDepth 100000 in
theorem c_X12_canTake (l : Launch) (D : va_G) (G : Gt) (S : Sh) (M : Mm) (xl0 : Int) (zl1 : Int32) (zl2 : Int32) (post : Int → Mm → Prop) (h : wp_X12_canTake S M xl0 zl1.toInt zl2.toInt post) : Met l yX12_canTake (cw_X12_canTake :: gw) RM_X12_canTake (va_Pc [.ref (adr G xl0), .int zl1, .int zl2] (fun U => KN D G U ∧ Wd D G S M U.heap)) (QI D G S post) 0 0 (aG G) := by
  refine Met.ofW (cc := cX12_canTake) (maxL := 3) (ret := (some .boolean)) (by decide) rfl ?_
  intro p e s m args below meth c s₁ B hml hv
  obtain ⟨rfl, hK, hP⟩ := hv
  have hx := B.exec
  have hb := B.bytes
  have hr := B.returns
  have hts := atoms_spec (ws := cw_X12_canTake :: gw) B.pre
  have hown : s.vm.findClass RX12 = some m.cls := findClass_of_methodNamed B.named
  have hlocks := B.notSynchronized
  have hS : va_S (aG G) s.heap s.heap [] := va_S.rf
  have C : Cx p s m ([.ref (adr G xl0), .int zl1, .int zl2] : List Value).toArray meth c D G cX12_canTake 3 (some .boolean) (cw_X12_canTake :: gw) RX12 := ⟨hx, hb, hr, hlocks, hml, hown, hts, hK⟩
  have hl := lv_entry ([.ref (adr G xl0), .int zl1, .int zl2]) (n := 3) (Nat.le_of_ble_eq_true rfl)
  rw [lg_entry_eq]
  generalize (lg_sl ([.ref (adr G xl0), .int zl1, .int zl2]) ++ List.replicate (3 - (lg_sl ([.ref (adr G xl0), .int zl1, .int zl2])).length) Slot.unset).toArray = ls at hl ⊢
  have hl : lv_has ls 3 [(0, .ref (adr G xl0)), (1, .int zl1), (2, .int zl2)] := hl
  unfold wp_X12_canTake at h
  refine lv_aload_n hx hb dX12_canTake_0 rfl (lv_at hl 0 rfl) ?_
  refine lv_iload_n hx hb dX12_canTake_1 rfl (lv_at hl 1 rfl) ?_
  refine q_Vi hx hb hml hown hts hK hP hS (c_X12_isAtPlace l D G S _ xl0 zl1 _ h.2) ⟨callB_of 1 hts (gw_good kw_1760) rfl rfl rfl (hts _ (List.mem_cons_of_mem _ kw_14)) (hts _ (List.mem_cons_of_mem _ kw_1757)) hd_X12_isAtPlace ⟨Nat.le_of_ble_eq_true rfl, Nat.le_of_ble_eq_true rfl⟩, (hts _ (List.mem_cons_of_mem _ kw_1759)), (hts _ (List.mem_cons_of_mem _ kp_108))⟩ h.1 (ci := 12) rfl (by decide) rfl hl.1 rfl (lv_room (Nat.le_of_ble_eq_true rfl)) dX12_canTake_2 ⟨Nat.zero_le _, Nat.zero_le _⟩ (fun z3 M1 H locs h hP hS => ?_)
  refine r_if_eq (tgt := 47) hx hb dX12_canTake_5 (by decide) h (fun h => ?_) (fun h => ?_)
  · refine r_iconst hx hb dX12_canTake_47 (by decide) h (fun z5 h => ?_)
    exact r_zret hx hb hr hlocks hP hS dX12_canTake_48 h
  · refine lv_aload_n hx hb dX12_canTake_8 rfl (lv_at hl 0 rfl) ?_
    refine lv_iload_n hx hb dX12_canTake_9 rfl (lv_at hl 2 rfl) ?_
    refine q_Vi hx hb hml hown hts hK hP hS (c_X12_stands l D G S _ xl0 zl2 _ h.2) ⟨callB_of 1 hts (gw_good kw_1670) rfl rfl rfl (hts _ (List.mem_cons_of_mem _ kw_14)) (hts _ (List.mem_cons_of_mem _ kw_1667)) hd_X12_stands ⟨Nat.le_of_ble_eq_true rfl, Nat.le_of_ble_eq_true rfl⟩, (hts _ (List.mem_cons_of_mem _ kw_1669)), (hts _ (List.mem_cons_of_mem _ kp_92))⟩ h.1 (ci := 12) rfl (by decide) rfl hl.1 rfl (lv_room (Nat.le_of_ble_eq_true rfl)) dX12_canTake_10 ⟨Nat.zero_le _, Nat.zero_le _⟩ (fun z8 M6 H locs h hP hS => ?_)
    refine r_if_eq (tgt := 47) hx hb dX12_canTake_13 (by decide) h (fun h => ?_) (fun h => ?_)
    · refine r_iconst hx hb dX12_canTake_47 (by decide) h (fun z10 h => ?_)
      exact r_zret hx hb hr hlocks hP hS dX12_canTake_48 h
    · refine lv_aload_n hx hb dX12_canTake_16 rfl (lv_at hl 0 rfl) ?_
      refine lv_iload_n hx hb dX12_canTake_17 rfl (lv_at hl 2 rfl) ?_
      refine r_iconst hx hb dX12_canTake_18 (by decide) h (fun z12 h => ?_)
      refine q_Vi hx hb hml hown hts hK hP hS (c_X12_jugOf l D G S _ xl0 zl2 z12 _ h.2) ⟨callB_of 2 hts (gw_good kw_1658) rfl rfl rfl (hts _ (List.mem_cons_of_mem _ kw_14)) (hts _ (List.mem_cons_of_mem _ kw_1655)) hd_X12_jugOf ⟨Nat.le_of_ble_eq_true rfl, Nat.le_of_ble_eq_true rfl⟩, (hts _ (List.mem_cons_of_mem _ kw_1657)), (hts _ (List.mem_cons_of_mem _ kp_90))⟩ h.1 (ci := 12) rfl (by decide) rfl hl.1 rfl (lv_room (Nat.le_of_ble_eq_true rfl)) dX12_canTake_19 ⟨Nat.zero_le _, Nat.zero_le _⟩ (fun z15 M13 H locs h hP hS => ?_)
      refine lv_aload_n hx hb dX12_canTake_22 rfl (lv_at hl 0 rfl) ?_
      refine lv_iload_n hx hb dX12_canTake_23 rfl (lv_at hl 1 rfl) ?_
      refine r_iconst hx hb dX12_canTake_24 (by decide) h (fun z17 h => ?_)
      refine q_Vi hx hb hml hown hts hK hP hS (c_X12_handOf l D G S _ xl0 zl1 z17 _ h.2) ⟨callB_of 2 hts (gw_good kw_1650) rfl rfl rfl (hts _ (List.mem_cons_of_mem _ kw_14)) (hts _ (List.mem_cons_of_mem _ kw_1647)) hd_X12_handOf ⟨Nat.le_of_ble_eq_true rfl, Nat.le_of_ble_eq_true rfl⟩, (hts _ (List.mem_cons_of_mem _ kw_1649)), (hts _ (List.mem_cons_of_mem _ kp_88))⟩ h.1 (ci := 12) rfl (by decide) rfl hl.1 rfl (lv_room (Nat.le_of_ble_eq_true rfl)) dX12_canTake_25 ⟨Nat.zero_le _, Nat.zero_le _⟩ (fun z20 M18 H locs h hP hS => ?_)
      refine r_icmp_ne (tgt := 47) hx hb dX12_canTake_28 (by decide) h (fun h => ?_) (fun h => ?_)
      · refine r_iconst hx hb dX12_canTake_47 (by decide) h (fun z22 h => ?_)
        exact r_zret hx hb hr hlocks hP hS dX12_canTake_48 h
      · refine lv_aload_n hx hb dX12_canTake_31 rfl (lv_at hl 0 rfl) ?_
        refine lv_iload_n hx hb dX12_canTake_32 rfl (lv_at hl 1 rfl) ?_
        refine q_Vi hx hb hml hown hts hK hP hS (c_X12_held l D G S _ xl0 zl1 _ h.2) ⟨callB_of 1 hts (gw_good kw_1654) rfl rfl rfl (hts _ (List.mem_cons_of_mem _ kw_14)) (hts _ (List.mem_cons_of_mem _ kw_1651)) hd_X12_held ⟨Nat.le_of_ble_eq_true rfl, Nat.le_of_ble_eq_true rfl⟩, (hts _ (List.mem_cons_of_mem _ kw_1653)), (hts _ (List.mem_cons_of_mem _ kp_89))⟩ h.1 (ci := 12) rfl (by decide) rfl hl.1 rfl (lv_room (Nat.le_of_ble_eq_true rfl)) dX12_canTake_33 ⟨Nat.zero_le _, Nat.zero_le _⟩ (fun z25 M23 H locs h hP hS => ?_)
        refine q_Si hx hb hml hown hts hK hP hS (c_X12_bits l D G S _ z25 _ h) ⟨callB_of 1 hts (gw_good kw_1717) rfl rfl rfl (hts _ (List.mem_cons_of_mem _ kw_14)) (hts _ (List.mem_cons_of_mem _ kw_1715)) hd_X12_bits ⟨Nat.le_of_ble_eq_true rfl, Nat.le_of_ble_eq_true rfl⟩, (hts _ (List.mem_cons_of_mem _ kw_1716))⟩ rfl hl.1 rfl (lv_room (Nat.le_of_ble_eq_true rfl)) dX12_canTake_36 ⟨Nat.zero_le _, Nat.zero_le _⟩ (fun z28 M26 H locs h hP hS => ?_)
        refine r_iconst hx hb dX12_canTake_39 (by decide) h (fun z30 h => ?_)
        refine r_icmp_ge (tgt := 47) hx hb dX12_canTake_40 (by decide) h (fun h => ?_) (fun h => ?_)
        · refine r_iconst hx hb dX12_canTake_47 (by decide) h (fun z32 h => ?_)
          exact r_zret hx hb hr hlocks hP hS dX12_canTake_48 h
        · refine r_iconst hx hb dX12_canTake_43 (by decide) h (fun z34 h => ?_)
          refine lv_goto (tgt := 48) hx hb dX12_canTake_44 (by decide) ?_
          exact r_zret hx hb hr hlocks hP hS dX12_canTake_48 h
/-! TurningMilkModel.takes(II)V -/
abbrev RM_X12_takes : Room := { frames := 1, cells := 0, slots := 0, locals := 40 }
def cw_X12_takes : Cond := Cond.code yX12_takes cX12_takes 3 (Option.none : Option FieldType)
theorem hd_X12_takes : yX12_takes.cls ≠ "java/lang/invoke/MethodHandle" ∧ yX12_takes.cls ≠ "java/lang/invoke/VarHandle" ∧ (parseMethodDescriptor yX12_takes.desc).map (fun d => d.parameters.length) = some 2 := by decide +kernel
theorem dX12_takes_0 : decode cX12_takes 0 = .ok (.aload_n 0, 1) := by decide +kernel
theorem dX12_takes_1 : decode cX12_takes 1 = .ok (.getfield 39, 3) := by decide +kernel
theorem dX12_takes_4 : decode cX12_takes 4 = .ok (.bipush 35, 2) := by decide +kernel
theorem dX12_takes_6 : decode cX12_takes 6 = .ok (.iconst 4, 1) := by decide +kernel
theorem dX12_takes_7 : decode cX12_takes 7 = .ok (.iload_n 2, 1) := by decide +kernel
theorem dX12_takes_8 : decode cX12_takes 8 = .ok (.imul, 1) := by decide +kernel
theorem dX12_takes_9 : decode cX12_takes 9 = .ok (.iadd, 1) := by decide +kernel
theorem dX12_takes_10 : decode cX12_takes 10 = .ok (.iconst 1, 1) := by decide +kernel
theorem dX12_takes_11 : decode cX12_takes 11 = .ok (.iadd, 1) := by decide +kernel
theorem dX12_takes_12 : decode cX12_takes 12 = .ok (.iload_n 1, 1) := by decide +kernel
theorem dX12_takes_13 : decode cX12_takes 13 = .ok (.iastore, 1) := by decide +kernel
theorem dX12_takes_14 : decode cX12_takes 14 = .ok (.return_, 1) := by decide +kernel
def wp_X12_takes (S : Sh) (M : Mm) (u0 : Int) (u1 : Int) (u2 : Int) (post : Mm → Prop) : Prop := wGetR S M u0 12 20 fun v1 => wC 35 fun v3 => wC 4 fun v5 => wM v5 u2 fun v7 => wA v3 v7 fun v9 => wC 1 fun v11 => wA v9 v11 fun v13 => wSt S M v1 14 v13 u1 fun M15 => post M15
set_option maxHeartbeats 4000000 in
set_option maxRecDepth 100000 in
theorem c_X12_takes (l : Launch) (D : va_G) (G : Gt) (S : Sh) (M : Mm) (xl0 : Int) (zl1 : Int32) (zl2 : Int32) (post : Mm → Prop) (h : wp_X12_takes S M xl0 zl1.toInt zl2.toInt post) : Met l yX12_takes (cw_X12_takes :: gw) RM_X12_takes (va_Pc [.ref (adr G xl0), .int zl1, .int zl2] (fun U => KN D G U ∧ Wd D G S M U.heap)) (QV D G S post) 0 0 (aG G) := by
  refine Met.ofW (cc := cX12_takes) (maxL := 3) (ret := none) (by decide) rfl ?_
  intro p e s m args below meth c s₁ B hml hv
  obtain ⟨rfl, hK, hP⟩ := hv
  have hx := B.exec
  have hb := B.bytes
  have hr := B.returns
  have hts := atoms_spec (ws := cw_X12_takes :: gw) B.pre
  have hown : s.vm.findClass RX12 = some m.cls := findClass_of_methodNamed B.named
  have hlocks := B.notSynchronized
  have hS : va_S (aG G) s.heap s.heap [] := va_S.rf
  have C : Cx p s m ([.ref (adr G xl0), .int zl1, .int zl2] : List Value).toArray meth c D G cX12_takes 3 none (cw_X12_takes :: gw) RX12 := ⟨hx, hb, hr, hlocks, hml, hown, hts, hK⟩
  have hl := lv_entry ([.ref (adr G xl0), .int zl1, .int zl2]) (n := 3) (Nat.le_of_ble_eq_true rfl)
  rw [lg_entry_eq]
  generalize (lg_sl ([.ref (adr G xl0), .int zl1, .int zl2]) ++ List.replicate (3 - (lg_sl ([.ref (adr G xl0), .int zl1, .int zl2])).length) Slot.unset).toArray = ls at hl ⊢
  have hl : lv_has ls 3 [(0, .ref (adr G xl0)), (1, .int zl1), (2, .int zl2)] := hl
  unfold wp_X12_takes at h
  refine lv_aload_n hx hb dX12_takes_0 rfl (lv_at hl 0 rfl) ?_
  refine r_getr (C := RX12) (T := TX12) (N := 38) hx hb hts (fun w h => List.mem_cons_of_mem _ (iX12 w h)) hown hK hP rfl (by decide) rfl 20 (by decide) (hts _ (List.mem_cons_of_mem _ kw_1354)) (fun _ h9 => h9) dX12_takes_1 (by decide) h (fun x2 h => ?_)
  refine r_bipush hx hb dX12_takes_4 (by decide) h (fun z4 h => ?_)
  refine r_iconst hx hb dX12_takes_6 (by decide) h (fun z6 h => ?_)
  refine lv_iload_n hx hb dX12_takes_7 rfl (lv_at hl 2 rfl) ?_
  refine r_imul hx hb dX12_takes_8 h (fun z8 h => ?_)
  refine r_iadd hx hb dX12_takes_9 h (fun z10 h => ?_)
  refine r_iconst hx hb dX12_takes_10 (by decide) h (fun z12 h => ?_)
  refine r_iadd hx hb dX12_takes_11 h (fun z14 h => ?_)
  refine lv_iload_n hx hb dX12_takes_12 rfl (lv_at hl 1 rfl) ?_
  refine r_iast hx hb hK hP hS dX12_takes_13 h (fun M15 H locs h hP hS => ?_)
  exact r_vret hx hb hr hlocks hP hS dX12_takes_14 h
/-! TurningMilkModel.take(II)I -/
abbrev RM_X12_take : Room := { frames := 4, cells := 0, slots := 0, locals := 107 }
def cw_X12_take : Cond := Cond.code yX12_take cX12_take 3 (Option.some FieldType.int)
theorem hd_X12_take : yX12_take.cls ≠ "java/lang/invoke/MethodHandle" ∧ yX12_take.cls ≠ "java/lang/invoke/VarHandle" ∧ (parseMethodDescriptor yX12_take.desc).map (fun d => d.parameters.length) = some 2 := by decide +kernel
theorem dX12_take_0 : decode cX12_take 0 = .ok (.aload_n 0, 1) := by decide +kernel
theorem dX12_take_1 : decode cX12_take 1 = .ok (.iload_n 1, 1) := by decide +kernel
theorem dX12_take_2 : decode cX12_take 2 = .ok (.invokevirtual 301, 3) := by decide +kernel
theorem dX12_take_5 : decode cX12_take 5 = .ok (.ifCond .eq 20, 3) := by decide +kernel
theorem dX12_take_8 : decode cX12_take 8 = .ok (.aload_n 0, 1) := by decide +kernel
theorem dX12_take_9 : decode cX12_take 9 = .ok (.iload_n 2, 1) := by decide +kernel
theorem dX12_take_10 : decode cX12_take 10 = .ok (.invokevirtual 312, 3) := by decide +kernel
theorem dX12_take_13 : decode cX12_take 13 = .ok (.ifCond .eq 12, 3) := by decide +kernel
theorem dX12_take_16 : decode cX12_take 16 = .ok (.aload_n 0, 1) := by decide +kernel
theorem dX12_take_17 : decode cX12_take 17 = .ok (.iload_n 1, 1) := by decide +kernel
theorem dX12_take_18 : decode cX12_take 18 = .ok (.iload_n 2, 1) := by decide +kernel
theorem dX12_take_19 : decode cX12_take 19 = .ok (.invokevirtual 362, 3) := by decide +kernel
theorem dX12_take_22 : decode cX12_take 22 = .ok (.ifCond .ne 5, 3) := by decide +kernel
theorem dX12_take_25 : decode cX12_take 25 = .ok (.iconst (-1), 1) := by decide +kernel
theorem dX12_take_26 : decode cX12_take 26 = .ok (.ireturn, 1) := by decide +kernel
theorem dX12_take_27 : decode cX12_take 27 = .ok (.aload_n 0, 1) := by decide +kernel
theorem dX12_take_28 : decode cX12_take 28 = .ok (.invokevirtual 353, 3) := by decide +kernel
theorem dX12_take_31 : decode cX12_take 31 = .ok (.aload_n 0, 1) := by decide +kernel
theorem dX12_take_32 : decode cX12_take 32 = .ok (.iload_n 1, 1) := by decide +kernel
theorem dX12_take_33 : decode cX12_take 33 = .ok (.iload_n 2, 1) := by decide +kernel
theorem dX12_take_34 : decode cX12_take 34 = .ok (.invokevirtual 365, 3) := by decide +kernel
theorem dX12_take_37 : decode cX12_take 37 = .ok (.aload_n 0, 1) := by decide +kernel
theorem dX12_take_38 : decode cX12_take 38 = .ok (.iload_n 1, 1) := by decide +kernel
theorem dX12_take_39 : decode cX12_take 39 = .ok (.invokevirtual 309, 3) := by decide +kernel
theorem dX12_take_42 : decode cX12_take 42 = .ok (.ireturn, 1) := by decide +kernel
def wp_X12_take (S : Sh) (M : Mm) (u0 : Int) (u1 : Int) (u2 : Int) (post : Int → Mm → Prop) : Prop := isK S u0 12 ∧ (wp_X12_isHand S M u0 u1 <| fun v2 M1 => wIf (v2 = 0) (wC (-1) fun v4 => post v4 M1) (isK S u0 12 ∧ (wp_X12_isJug S M1 u0 u2 <| fun v7 M6 => wIf (v7 = 0) (wC (-1) fun v9 => post v9 M6) (isK S u0 12 ∧ (wp_X12_canTake S M6 u0 u1 u2 <| fun v12 M11 => wIf (¬ v12 = 0) (isK S u0 12 ∧ (wp_X12_keepsAct S M11 u0 <| fun M14 => isK S u0 12 ∧ (wp_X12_takes S M14 u0 u1 u2 <| fun M15 => isK S u0 12 ∧ (wp_X12_held S M15 u0 u1 <| fun v17 M16 => post v17 M16)))) (wC (-1) fun v19 => post v19 M11))))))
set_option maxHeartbeats 4000000 in
set_option maxRecDepth 100000 in
theorem c_X12_take (l : Launch) (D : va_G) (G : Gt) (S : Sh) (M : Mm) (xl0 : Int) (zl1 : Int32) (zl2 : Int32) (post : Int → Mm → Prop) (h : wp_X12_take S M xl0 zl1.toInt zl2.toInt post) : Met l yX12_take (cw_X12_take :: gw) RM_X12_take (va_Pc [.ref (adr G xl0), .int zl1, .int zl2] (fun U => KN D G U ∧ Wd D G S M U.heap)) (QI D G S post) 0 0 (aG G) := by
  refine Met.ofW (cc := cX12_take) (maxL := 3) (ret := (some .int)) (by decide) rfl ?_
  intro p e s m args below meth c s₁ B hml hv
  obtain ⟨rfl, hK, hP⟩ := hv
  have hx := B.exec
  have hb := B.bytes
  have hr := B.returns
  have hts := atoms_spec (ws := cw_X12_take :: gw) B.pre
  have hown : s.vm.findClass RX12 = some m.cls := findClass_of_methodNamed B.named
  have hlocks := B.notSynchronized
  have hS : va_S (aG G) s.heap s.heap [] := va_S.rf
  have C : Cx p s m ([.ref (adr G xl0), .int zl1, .int zl2] : List Value).toArray meth c D G cX12_take 3 (some .int) (cw_X12_take :: gw) RX12 := ⟨hx, hb, hr, hlocks, hml, hown, hts, hK⟩
  have hl := lv_entry ([.ref (adr G xl0), .int zl1, .int zl2]) (n := 3) (Nat.le_of_ble_eq_true rfl)
  rw [lg_entry_eq]
  generalize (lg_sl ([.ref (adr G xl0), .int zl1, .int zl2]) ++ List.replicate (3 - (lg_sl ([.ref (adr G xl0), .int zl1, .int zl2])).length) Slot.unset).toArray = ls at hl ⊢
  have hl : lv_has ls 3 [(0, .ref (adr G xl0)), (1, .int zl1), (2, .int zl2)] := hl
  unfold wp_X12_take at h
  refine lv_aload_n hx hb dX12_take_0 rfl (lv_at hl 0 rfl) ?_
  refine lv_iload_n hx hb dX12_take_1 rfl (lv_at hl 1 rfl) ?_
  refine q_Vi hx hb hml hown hts hK hP hS (c_X12_isHand l D G S _ xl0 zl1 _ h.2) ⟨callB_of 1 hts (gw_good kw_1645) rfl rfl rfl (hts _ (List.mem_cons_of_mem _ kw_14)) (hts _ (List.mem_cons_of_mem _ kw_1642)) hd_X12_isHand ⟨Nat.le_of_ble_eq_true rfl, Nat.le_of_ble_eq_true rfl⟩, (hts _ (List.mem_cons_of_mem _ kw_1644)), (hts _ (List.mem_cons_of_mem _ kp_87))⟩ h.1 (ci := 12) rfl (by decide) rfl hl.1 rfl (lv_room (Nat.le_of_ble_eq_true rfl)) dX12_take_2 ⟨Nat.zero_le _, Nat.zero_le _⟩ (fun z3 M1 H locs h hP hS => ?_)
  refine r_if_eq (tgt := 25) hx hb dX12_take_5 (by decide) h (fun h => ?_) (fun h => ?_)
  · refine r_iconst hx hb dX12_take_25 (by decide) h (fun z5 h => ?_)
    exact r_iret hx hb hr hlocks hP hS dX12_take_26 h
  · refine lv_aload_n hx hb dX12_take_8 rfl (lv_at hl 0 rfl) ?_
    refine lv_iload_n hx hb dX12_take_9 rfl (lv_at hl 2 rfl) ?_
    refine q_Vi hx hb hml hown hts hK hP hS (c_X12_isJug l D G S _ xl0 zl2 _ h.2) ⟨callB_of 1 hts (gw_good kw_1666) rfl rfl rfl (hts _ (List.mem_cons_of_mem _ kw_14)) (hts _ (List.mem_cons_of_mem _ kw_1663)) hd_X12_isJug ⟨Nat.le_of_ble_eq_true rfl, Nat.le_of_ble_eq_true rfl⟩, (hts _ (List.mem_cons_of_mem _ kw_1665)), (hts _ (List.mem_cons_of_mem _ kp_91))⟩ h.1 (ci := 12) rfl (by decide) rfl hl.1 rfl (lv_room (Nat.le_of_ble_eq_true rfl)) dX12_take_10 ⟨Nat.zero_le _, Nat.zero_le _⟩ (fun z8 M6 H locs h hP hS => ?_)
    refine r_if_eq (tgt := 25) hx hb dX12_take_13 (by decide) h (fun h => ?_) (fun h => ?_)
    · refine r_iconst hx hb dX12_take_25 (by decide) h (fun z10 h => ?_)
      exact r_iret hx hb hr hlocks hP hS dX12_take_26 h
    · refine lv_aload_n hx hb dX12_take_16 rfl (lv_at hl 0 rfl) ?_
      refine lv_iload_n hx hb dX12_take_17 rfl (lv_at hl 1 rfl) ?_
      refine lv_iload_n hx hb dX12_take_18 rfl (lv_at hl 2 rfl) ?_
      refine q_Vi hx hb hml hown hts hK hP hS (c_X12_canTake l D G S _ xl0 zl1 zl2 _ h.2) ⟨callB_of 2 hts (gw_good kw_1756) rfl rfl rfl (hts _ (List.mem_cons_of_mem _ kw_14)) (hts _ (List.mem_cons_of_mem _ kw_1753)) hd_X12_canTake ⟨Nat.le_of_ble_eq_true rfl, Nat.le_of_ble_eq_true rfl⟩, (hts _ (List.mem_cons_of_mem _ kw_1755)), (hts _ (List.mem_cons_of_mem _ kp_107))⟩ h.1 (ci := 12) rfl (by decide) rfl hl.1 rfl (lv_room (Nat.le_of_ble_eq_true rfl)) dX12_take_19 ⟨Nat.zero_le _, Nat.zero_le _⟩ (fun z13 M11 H locs h hP hS => ?_)
      refine r_if_ne (tgt := 27) hx hb dX12_take_22 (by decide) h (fun h => ?_) (fun h => ?_)
      · refine lv_aload_n hx hb dX12_take_27 rfl (lv_at hl 0 rfl) ?_
        refine q_Vv hx hb hml hown hts hK hP hS (c_X12_keepsAct l D G S _ xl0 _ h.2) ⟨callB_of 0 hts (gw_good kw_1702) rfl rfl rfl (hts _ (List.mem_cons_of_mem _ kw_14)) (hts _ (List.mem_cons_of_mem _ kw_1699)) hd_X12_keepsAct ⟨Nat.le_of_ble_eq_true rfl, Nat.le_of_ble_eq_true rfl⟩, (hts _ (List.mem_cons_of_mem _ kw_1701)), (hts _ (List.mem_cons_of_mem _ kp_97))⟩ h.1 (ci := 12) rfl (by decide) rfl hl.1 rfl (lv_room (Nat.le_of_ble_eq_true rfl)) dX12_take_28 ⟨Nat.zero_le _, Nat.zero_le _⟩ (fun M14 H locs h hP hS => ?_)
        refine lv_aload_n hx hb dX12_take_31 rfl (lv_at hl 0 rfl) ?_
        refine lv_iload_n hx hb dX12_take_32 rfl (lv_at hl 1 rfl) ?_
        refine lv_iload_n hx hb dX12_take_33 rfl (lv_at hl 2 rfl) ?_
        refine q_Vv hx hb hml hown hts hK hP hS (c_X12_takes l D G S _ xl0 zl1 zl2 _ h.2) ⟨callB_of 2 hts (gw_good kw_1764) rfl rfl rfl (hts _ (List.mem_cons_of_mem _ kw_14)) (hts _ (List.mem_cons_of_mem _ kw_1761)) hd_X12_takes ⟨Nat.le_of_ble_eq_true rfl, Nat.le_of_ble_eq_true rfl⟩, (hts _ (List.mem_cons_of_mem _ kw_1763)), (hts _ (List.mem_cons_of_mem _ kp_109))⟩ h.1 (ci := 12) rfl (by decide) rfl hl.1 rfl (lv_room (Nat.le_of_ble_eq_true rfl)) dX12_take_34 ⟨Nat.zero_le _, Nat.zero_le _⟩ (fun M15 H locs h hP hS => ?_)
        refine lv_aload_n hx hb dX12_take_37 rfl (lv_at hl 0 rfl) ?_
        refine lv_iload_n hx hb dX12_take_38 rfl (lv_at hl 1 rfl) ?_
        refine q_Vi hx hb hml hown hts hK hP hS (c_X12_held l D G S _ xl0 zl1 _ h.2) ⟨callB_of 1 hts (gw_good kw_1654) rfl rfl rfl (hts _ (List.mem_cons_of_mem _ kw_14)) (hts _ (List.mem_cons_of_mem _ kw_1651)) hd_X12_held ⟨Nat.le_of_ble_eq_true rfl, Nat.le_of_ble_eq_true rfl⟩, (hts _ (List.mem_cons_of_mem _ kw_1653)), (hts _ (List.mem_cons_of_mem _ kp_89))⟩ h.1 (ci := 12) rfl (by decide) rfl hl.1 rfl (lv_room (Nat.le_of_ble_eq_true rfl)) dX12_take_39 ⟨Nat.zero_le _, Nat.zero_le _⟩ (fun z18 M16 H locs h hP hS => ?_)
        exact r_iret hx hb hr hlocks hP hS dX12_take_42 h
      · refine r_iconst hx hb dX12_take_25 (by decide) h (fun z20 h => ?_)
        exact r_iret hx hb hr hlocks hP hS dX12_take_26 h
/-! TurningMilkModel.put(II)I -/
abbrev RM_X12_put : Room := { frames := 3, cells := 0, slots := 0, locals := 83 }
def cw_X12_put : Cond := Cond.code yX12_put cX12_put 3 (Option.some FieldType.int)
theorem hd_X12_put : yX12_put.cls ≠ "java/lang/invoke/MethodHandle" ∧ yX12_put.cls ≠ "java/lang/invoke/VarHandle" ∧ (parseMethodDescriptor yX12_put.desc).map (fun d => d.parameters.length) = some 2 := by decide +kernel
theorem dX12_put_0 : decode cX12_put 0 = .ok (.aload_n 0, 1) := by decide +kernel
theorem dX12_put_1 : decode cX12_put 1 = .ok (.iload_n 1, 1) := by decide +kernel
theorem dX12_put_2 : decode cX12_put 2 = .ok (.invokevirtual 301, 3) := by decide +kernel
theorem dX12_put_5 : decode cX12_put 5 = .ok (.ifCond .eq 29, 3) := by decide +kernel
theorem dX12_put_8 : decode cX12_put 8 = .ok (.aload_n 0, 1) := by decide +kernel
theorem dX12_put_9 : decode cX12_put 9 = .ok (.iload_n 2, 1) := by decide +kernel
theorem dX12_put_10 : decode cX12_put 10 = .ok (.invokevirtual 312, 3) := by decide +kernel
theorem dX12_put_13 : decode cX12_put 13 = .ok (.ifCond .eq 21, 3) := by decide +kernel
theorem dX12_put_16 : decode cX12_put 16 = .ok (.aload_n 0, 1) := by decide +kernel
theorem dX12_put_17 : decode cX12_put 17 = .ok (.iload_n 2, 1) := by decide +kernel
theorem dX12_put_18 : decode cX12_put 18 = .ok (.iconst 1, 1) := by decide +kernel
theorem dX12_put_19 : decode cX12_put 19 = .ok (.invokevirtual 284, 3) := by decide +kernel
theorem dX12_put_22 : decode cX12_put 22 = .ok (.iload_n 1, 1) := by decide +kernel
theorem dX12_put_23 : decode cX12_put 23 = .ok (.if_icmp .ne 11, 3) := by decide +kernel
theorem dX12_put_26 : decode cX12_put 26 = .ok (.aload_n 0, 1) := by decide +kernel
theorem dX12_put_27 : decode cX12_put 27 = .ok (.iload_n 1, 1) := by decide +kernel
theorem dX12_put_28 : decode cX12_put 28 = .ok (.invokevirtual 359, 3) := by decide +kernel
theorem dX12_put_31 : decode cX12_put 31 = .ok (.ifCond .ne 5, 3) := by decide +kernel
theorem dX12_put_34 : decode cX12_put 34 = .ok (.iconst (-1), 1) := by decide +kernel
theorem dX12_put_35 : decode cX12_put 35 = .ok (.ireturn, 1) := by decide +kernel
theorem dX12_put_36 : decode cX12_put 36 = .ok (.aload_n 0, 1) := by decide +kernel
theorem dX12_put_37 : decode cX12_put 37 = .ok (.invokevirtual 353, 3) := by decide +kernel
theorem dX12_put_40 : decode cX12_put 40 = .ok (.aload_n 0, 1) := by decide +kernel
theorem dX12_put_41 : decode cX12_put 41 = .ok (.getfield 39, 3) := by decide +kernel
theorem dX12_put_44 : decode cX12_put 44 = .ok (.bipush 35, 2) := by decide +kernel
theorem dX12_put_46 : decode cX12_put 46 = .ok (.iconst 4, 1) := by decide +kernel
theorem dX12_put_47 : decode cX12_put 47 = .ok (.iload_n 2, 1) := by decide +kernel
theorem dX12_put_48 : decode cX12_put 48 = .ok (.imul, 1) := by decide +kernel
theorem dX12_put_49 : decode cX12_put 49 = .ok (.iadd, 1) := by decide +kernel
theorem dX12_put_50 : decode cX12_put 50 = .ok (.iconst 1, 1) := by decide +kernel
theorem dX12_put_51 : decode cX12_put 51 = .ok (.iadd, 1) := by decide +kernel
theorem dX12_put_52 : decode cX12_put 52 = .ok (.iconst (-1), 1) := by decide +kernel
theorem dX12_put_53 : decode cX12_put 53 = .ok (.iastore, 1) := by decide +kernel
theorem dX12_put_54 : decode cX12_put 54 = .ok (.aload_n 0, 1) := by decide +kernel
theorem dX12_put_55 : decode cX12_put 55 = .ok (.getfield 39, 3) := by decide +kernel
theorem dX12_put_58 : decode cX12_put 58 = .ok (.bipush 35, 2) := by decide +kernel
theorem dX12_put_60 : decode cX12_put 60 = .ok (.iconst 4, 1) := by decide +kernel
theorem dX12_put_61 : decode cX12_put 61 = .ok (.iload_n 2, 1) := by decide +kernel
theorem dX12_put_62 : decode cX12_put 62 = .ok (.imul, 1) := by decide +kernel
theorem dX12_put_63 : decode cX12_put 63 = .ok (.iadd, 1) := by decide +kernel
theorem dX12_put_64 : decode cX12_put 64 = .ok (.aload_n 0, 1) := by decide +kernel
theorem dX12_put_65 : decode cX12_put 65 = .ok (.iload_n 1, 1) := by decide +kernel
theorem dX12_put_66 : decode cX12_put 66 = .ok (.iconst 0, 1) := by decide +kernel
theorem dX12_put_67 : decode cX12_put 67 = .ok (.invokevirtual 306, 3) := by decide +kernel
theorem dX12_put_70 : decode cX12_put 70 = .ok (.iastore, 1) := by decide +kernel
theorem dX12_put_71 : decode cX12_put 71 = .ok (.aload_n 0, 1) := by decide +kernel
theorem dX12_put_72 : decode cX12_put 72 = .ok (.iload_n 1, 1) := by decide +kernel
theorem dX12_put_73 : decode cX12_put 73 = .ok (.iconst 0, 1) := by decide +kernel
theorem dX12_put_74 : decode cX12_put 74 = .ok (.invokevirtual 306, 3) := by decide +kernel
theorem dX12_put_77 : decode cX12_put 77 = .ok (.ireturn, 1) := by decide +kernel
def wp_X12_put (S : Sh) (M : Mm) (u0 : Int) (u1 : Int) (u2 : Int) (post : Int → Mm → Prop) : Prop := isK S u0 12 ∧ (wp_X12_isHand S M u0 u1 <| fun v2 M1 => wIf (v2 = 0) (wC (-1) fun v4 => post v4 M1) (isK S u0 12 ∧ (wp_X12_isJug S M1 u0 u2 <| fun v7 M6 => wIf (v7 = 0) (wC (-1) fun v9 => post v9 M6) (wC 1 fun v11 => isK S u0 12 ∧ (wp_X12_jugOf S M6 u0 u2 v11 <| fun v14 M13 => wIf (¬ v14 = u1) (wC (-1) fun v16 => post v16 M13) (isK S u0 12 ∧ (wp_X12_isAtPlace S M13 u0 u1 <| fun v19 M18 => wIf (¬ v19 = 0) (isK S u0 12 ∧ (wp_X12_keepsAct S M18 u0 <| fun M21 => wGetR S M21 u0 12 20 fun v22 => wC 35 fun v24 => wC 4 fun v26 => wM v26 u2 fun v28 => wA v24 v28 fun v30 => wC 1 fun v32 => wA v30 v32 fun v34 => wC (-1) fun v36 => wSt S M21 v22 14 v34 v36 fun M38 => wGetR S M38 u0 12 20 fun v39 => wC 35 fun v41 => wC 4 fun v43 => wM v43 u2 fun v45 => wA v41 v45 fun v47 => wC 0 fun v49 => isK S u0 12 ∧ (wp_X12_handOf S M38 u0 u1 v49 <| fun v52 M51 => wSt S M51 v39 14 v47 v52 fun M54 => wC 0 fun v55 => isK S u0 12 ∧ (wp_X12_handOf S M54 u0 u1 v55 <| fun v58 M57 => post v58 M57)))) (wC (-1) fun v60 => post v60 M18))))))))
set_option maxHeartbeats 4000000 in
set_option maxRecDepth 100000 in
theorem c_X12_put (l : Launch) (D : va_G) (G : Gt) (S : Sh) (M : Mm) (xl0 : Int) (zl1 : Int32) (zl2 : Int32) (post : Int → Mm → Prop) (h : wp_X12_put S M xl0 zl1.toInt zl2.toInt post) : Met l yX12_put (cw_X12_put :: gw) RM_X12_put (va_Pc [.ref (adr G xl0), .int zl1, .int zl2] (fun U => KN D G U ∧ Wd D G S M U.heap)) (QI D G S post) 0 0 (aG G) := by
  refine Met.ofW (cc := cX12_put) (maxL := 3) (ret := (some .int)) (by decide) rfl ?_
  intro p e s m args below meth c s₁ B hml hv
  obtain ⟨rfl, hK, hP⟩ := hv
  have hx := B.exec
  have hb := B.bytes
  have hr := B.returns
  have hts := atoms_spec (ws := cw_X12_put :: gw) B.pre
  have hown : s.vm.findClass RX12 = some m.cls := findClass_of_methodNamed B.named
  have hlocks := B.notSynchronized
  have hS : va_S (aG G) s.heap s.heap [] := va_S.rf
  have C : Cx p s m ([.ref (adr G xl0), .int zl1, .int zl2] : List Value).toArray meth c D G cX12_put 3 (some .int) (cw_X12_put :: gw) RX12 := ⟨hx, hb, hr, hlocks, hml, hown, hts, hK⟩
  have hl := lv_entry ([.ref (adr G xl0), .int zl1, .int zl2]) (n := 3) (Nat.le_of_ble_eq_true rfl)
  rw [lg_entry_eq]
  generalize (lg_sl ([.ref (adr G xl0), .int zl1, .int zl2]) ++ List.replicate (3 - (lg_sl ([.ref (adr G xl0), .int zl1, .int zl2])).length) Slot.unset).toArray = ls at hl ⊢
  have hl : lv_has ls 3 [(0, .ref (adr G xl0)), (1, .int zl1), (2, .int zl2)] := hl
  unfold wp_X12_put at h
  refine lv_aload_n hx hb dX12_put_0 rfl (lv_at hl 0 rfl) ?_
  refine lv_iload_n hx hb dX12_put_1 rfl (lv_at hl 1 rfl) ?_
  refine q_Vi hx hb hml hown hts hK hP hS (c_X12_isHand l D G S _ xl0 zl1 _ h.2) ⟨callB_of 1 hts (gw_good kw_1645) rfl rfl rfl (hts _ (List.mem_cons_of_mem _ kw_14)) (hts _ (List.mem_cons_of_mem _ kw_1642)) hd_X12_isHand ⟨Nat.le_of_ble_eq_true rfl, Nat.le_of_ble_eq_true rfl⟩, (hts _ (List.mem_cons_of_mem _ kw_1644)), (hts _ (List.mem_cons_of_mem _ kp_87))⟩ h.1 (ci := 12) rfl (by decide) rfl hl.1 rfl (lv_room (Nat.le_of_ble_eq_true rfl)) dX12_put_2 ⟨Nat.zero_le _, Nat.zero_le _⟩ (fun z3 M1 H locs h hP hS => ?_)
  refine r_if_eq (tgt := 34) hx hb dX12_put_5 (by decide) h (fun h => ?_) (fun h => ?_)
  · refine r_iconst hx hb dX12_put_34 (by decide) h (fun z5 h => ?_)
    exact r_iret hx hb hr hlocks hP hS dX12_put_35 h
  · refine lv_aload_n hx hb dX12_put_8 rfl (lv_at hl 0 rfl) ?_
    refine lv_iload_n hx hb dX12_put_9 rfl (lv_at hl 2 rfl) ?_
    refine q_Vi hx hb hml hown hts hK hP hS (c_X12_isJug l D G S _ xl0 zl2 _ h.2) ⟨callB_of 1 hts (gw_good kw_1666) rfl rfl rfl (hts _ (List.mem_cons_of_mem _ kw_14)) (hts _ (List.mem_cons_of_mem _ kw_1663)) hd_X12_isJug ⟨Nat.le_of_ble_eq_true rfl, Nat.le_of_ble_eq_true rfl⟩, (hts _ (List.mem_cons_of_mem _ kw_1665)), (hts _ (List.mem_cons_of_mem _ kp_91))⟩ h.1 (ci := 12) rfl (by decide) rfl hl.1 rfl (lv_room (Nat.le_of_ble_eq_true rfl)) dX12_put_10 ⟨Nat.zero_le _, Nat.zero_le _⟩ (fun z8 M6 H locs h hP hS => ?_)
    refine r_if_eq (tgt := 34) hx hb dX12_put_13 (by decide) h (fun h => ?_) (fun h => ?_)
    · refine r_iconst hx hb dX12_put_34 (by decide) h (fun z10 h => ?_)
      exact r_iret hx hb hr hlocks hP hS dX12_put_35 h
    · refine lv_aload_n hx hb dX12_put_16 rfl (lv_at hl 0 rfl) ?_
      refine lv_iload_n hx hb dX12_put_17 rfl (lv_at hl 2 rfl) ?_
      refine r_iconst hx hb dX12_put_18 (by decide) h (fun z12 h => ?_)
      refine q_Vi hx hb hml hown hts hK hP hS (c_X12_jugOf l D G S _ xl0 zl2 z12 _ h.2) ⟨callB_of 2 hts (gw_good kw_1658) rfl rfl rfl (hts _ (List.mem_cons_of_mem _ kw_14)) (hts _ (List.mem_cons_of_mem _ kw_1655)) hd_X12_jugOf ⟨Nat.le_of_ble_eq_true rfl, Nat.le_of_ble_eq_true rfl⟩, (hts _ (List.mem_cons_of_mem _ kw_1657)), (hts _ (List.mem_cons_of_mem _ kp_90))⟩ h.1 (ci := 12) rfl (by decide) rfl hl.1 rfl (lv_room (Nat.le_of_ble_eq_true rfl)) dX12_put_19 ⟨Nat.zero_le _, Nat.zero_le _⟩ (fun z15 M13 H locs h hP hS => ?_)
      refine lv_iload_n hx hb dX12_put_22 rfl (lv_at hl 1 rfl) ?_
      refine r_icmp_ne (tgt := 34) hx hb dX12_put_23 (by decide) h (fun h => ?_) (fun h => ?_)
      · refine r_iconst hx hb dX12_put_34 (by decide) h (fun z17 h => ?_)
        exact r_iret hx hb hr hlocks hP hS dX12_put_35 h
      · refine lv_aload_n hx hb dX12_put_26 rfl (lv_at hl 0 rfl) ?_
        refine lv_iload_n hx hb dX12_put_27 rfl (lv_at hl 1 rfl) ?_
        refine q_Vi hx hb hml hown hts hK hP hS (c_X12_isAtPlace l D G S _ xl0 zl1 _ h.2) ⟨callB_of 1 hts (gw_good kw_1760) rfl rfl rfl (hts _ (List.mem_cons_of_mem _ kw_14)) (hts _ (List.mem_cons_of_mem _ kw_1757)) hd_X12_isAtPlace ⟨Nat.le_of_ble_eq_true rfl, Nat.le_of_ble_eq_true rfl⟩, (hts _ (List.mem_cons_of_mem _ kw_1759)), (hts _ (List.mem_cons_of_mem _ kp_108))⟩ h.1 (ci := 12) rfl (by decide) rfl hl.1 rfl (lv_room (Nat.le_of_ble_eq_true rfl)) dX12_put_28 ⟨Nat.zero_le _, Nat.zero_le _⟩ (fun z20 M18 H locs h hP hS => ?_)
        refine r_if_ne (tgt := 36) hx hb dX12_put_31 (by decide) h (fun h => ?_) (fun h => ?_)
        · refine lv_aload_n hx hb dX12_put_36 rfl (lv_at hl 0 rfl) ?_
          refine q_Vv hx hb hml hown hts hK hP hS (c_X12_keepsAct l D G S _ xl0 _ h.2) ⟨callB_of 0 hts (gw_good kw_1702) rfl rfl rfl (hts _ (List.mem_cons_of_mem _ kw_14)) (hts _ (List.mem_cons_of_mem _ kw_1699)) hd_X12_keepsAct ⟨Nat.le_of_ble_eq_true rfl, Nat.le_of_ble_eq_true rfl⟩, (hts _ (List.mem_cons_of_mem _ kw_1701)), (hts _ (List.mem_cons_of_mem _ kp_97))⟩ h.1 (ci := 12) rfl (by decide) rfl hl.1 rfl (lv_room (Nat.le_of_ble_eq_true rfl)) dX12_put_37 ⟨Nat.zero_le _, Nat.zero_le _⟩ (fun M21 H locs h hP hS => ?_)
          refine lv_aload_n hx hb dX12_put_40 rfl (lv_at hl 0 rfl) ?_
          refine r_getr (C := RX12) (T := TX12) (N := 38) hx hb hts (fun w h => List.mem_cons_of_mem _ (iX12 w h)) hown hK hP rfl (by decide) rfl 20 (by decide) (hts _ (List.mem_cons_of_mem _ kw_1354)) (fun _ h9 => h9) dX12_put_41 (by decide) h (fun x23 h => ?_)
          refine r_bipush hx hb dX12_put_44 (by decide) h (fun z25 h => ?_)
          refine r_iconst hx hb dX12_put_46 (by decide) h (fun z27 h => ?_)
          refine lv_iload_n hx hb dX12_put_47 rfl (lv_at hl 2 rfl) ?_
          refine r_imul hx hb dX12_put_48 h (fun z29 h => ?_)
          refine r_iadd hx hb dX12_put_49 h (fun z31 h => ?_)
          refine r_iconst hx hb dX12_put_50 (by decide) h (fun z33 h => ?_)
          refine r_iadd hx hb dX12_put_51 h (fun z35 h => ?_)
          refine r_iconst hx hb dX12_put_52 (by decide) h (fun z37 h => ?_)
          refine r_iast hx hb hK hP hS dX12_put_53 h (fun M38 H locs h hP hS => ?_)
          refine lv_aload_n hx hb dX12_put_54 rfl (lv_at hl 0 rfl) ?_
          refine r_getr (C := RX12) (T := TX12) (N := 38) hx hb hts (fun w h => List.mem_cons_of_mem _ (iX12 w h)) hown hK hP rfl (by decide) rfl 20 (by decide) (hts _ (List.mem_cons_of_mem _ kw_1354)) (fun _ h9 => h9) dX12_put_55 (by decide) h (fun x40 h => ?_)
          refine r_bipush hx hb dX12_put_58 (by decide) h (fun z42 h => ?_)
          refine r_iconst hx hb dX12_put_60 (by decide) h (fun z44 h => ?_)
          refine lv_iload_n hx hb dX12_put_61 rfl (lv_at hl 2 rfl) ?_
          refine r_imul hx hb dX12_put_62 h (fun z46 h => ?_)
          refine r_iadd hx hb dX12_put_63 h (fun z48 h => ?_)
          refine lv_aload_n hx hb dX12_put_64 rfl (lv_at hl 0 rfl) ?_
          refine lv_iload_n hx hb dX12_put_65 rfl (lv_at hl 1 rfl) ?_
          refine r_iconst hx hb dX12_put_66 (by decide) h (fun z50 h => ?_)
          refine q_Vi hx hb hml hown hts hK hP hS (c_X12_handOf l D G S _ xl0 zl1 z50 _ h.2) ⟨callB_of 2 hts (gw_good kw_1650) rfl rfl rfl (hts _ (List.mem_cons_of_mem _ kw_14)) (hts _ (List.mem_cons_of_mem _ kw_1647)) hd_X12_handOf ⟨Nat.le_of_ble_eq_true rfl, Nat.le_of_ble_eq_true rfl⟩, (hts _ (List.mem_cons_of_mem _ kw_1649)), (hts _ (List.mem_cons_of_mem _ kp_88))⟩ h.1 (ci := 12) rfl (by decide) rfl hl.1 rfl (lv_room (Nat.le_of_ble_eq_true rfl)) dX12_put_67 ⟨Nat.zero_le _, Nat.zero_le _⟩ (fun z53 M51 H locs h hP hS => ?_)
          refine r_iast hx hb hK hP hS dX12_put_70 h (fun M54 H locs h hP hS => ?_)
          refine lv_aload_n hx hb dX12_put_71 rfl (lv_at hl 0 rfl) ?_
          refine lv_iload_n hx hb dX12_put_72 rfl (lv_at hl 1 rfl) ?_
          refine r_iconst hx hb dX12_put_73 (by decide) h (fun z56 h => ?_)
          refine q_Vi hx hb hml hown hts hK hP hS (c_X12_handOf l D G S _ xl0 zl1 z56 _ h.2) ⟨callB_of 2 hts (gw_good kw_1650) rfl rfl rfl (hts _ (List.mem_cons_of_mem _ kw_14)) (hts _ (List.mem_cons_of_mem _ kw_1647)) hd_X12_handOf ⟨Nat.le_of_ble_eq_true rfl, Nat.le_of_ble_eq_true rfl⟩, (hts _ (List.mem_cons_of_mem _ kw_1649)), (hts _ (List.mem_cons_of_mem _ kp_88))⟩ h.1 (ci := 12) rfl (by decide) rfl hl.1 rfl (lv_room (Nat.le_of_ble_eq_true rfl)) dX12_put_74 ⟨Nat.zero_le _, Nat.zero_le _⟩ (fun z59 M57 H locs h hP hS => ?_)
          exact r_iret hx hb hr hlocks hP hS dX12_put_77 h
        · refine r_iconst hx hb dX12_put_34 (by decide) h (fun z61 h => ?_)
          exact r_iret hx hb hr hlocks hP hS dX12_put_35 h
/-! TurningMilkModel.handOn(II)I -/
abbrev RM_X12_handOn : Room := { frames := 3, cells := 0, slots := 0, locals := 85 }
def cw_X12_handOn : Cond := Cond.code yX12_handOn cX12_handOn 4 (Option.some FieldType.int)
theorem hd_X12_handOn : yX12_handOn.cls ≠ "java/lang/invoke/MethodHandle" ∧ yX12_handOn.cls ≠ "java/lang/invoke/VarHandle" ∧ (parseMethodDescriptor yX12_handOn.desc).map (fun d => d.parameters.length) = some 2 := by decide +kernel
theorem dX12_handOn_0 : decode cX12_handOn 0 = .ok (.aload_n 0, 1) := by decide +kernel
theorem dX12_handOn_1 : decode cX12_handOn 1 = .ok (.iload_n 1, 1) := by decide +kernel
theorem dX12_handOn_2 : decode cX12_handOn 2 = .ok (.invokevirtual 312, 3) := by decide +kernel
theorem dX12_handOn_5 : decode cX12_handOn 5 = .ok (.ifCond .eq 30, 3) := by decide +kernel
theorem dX12_handOn_8 : decode cX12_handOn 8 = .ok (.aload_n 0, 1) := by decide +kernel
theorem dX12_handOn_9 : decode cX12_handOn 9 = .ok (.iload_n 2, 1) := by decide +kernel
theorem dX12_handOn_10 : decode cX12_handOn 10 = .ok (.invokevirtual 301, 3) := by decide +kernel
theorem dX12_handOn_13 : decode cX12_handOn 13 = .ok (.ifCond .eq 22, 3) := by decide +kernel
theorem dX12_handOn_16 : decode cX12_handOn 16 = .ok (.aload_n 0, 1) := by decide +kernel
theorem dX12_handOn_17 : decode cX12_handOn 17 = .ok (.iload_n 1, 1) := by decide +kernel
theorem dX12_handOn_18 : decode cX12_handOn 18 = .ok (.iconst 1, 1) := by decide +kernel
theorem dX12_handOn_19 : decode cX12_handOn 19 = .ok (.invokevirtual 284, 3) := by decide +kernel
theorem dX12_handOn_22 : decode cX12_handOn 22 = .ok (.ifCond .lt 13, 3) := by decide +kernel
theorem dX12_handOn_25 : decode cX12_handOn 25 = .ok (.aload_n 0, 1) := by decide +kernel
theorem dX12_handOn_26 : decode cX12_handOn 26 = .ok (.iload_n 1, 1) := by decide +kernel
theorem dX12_handOn_27 : decode cX12_handOn 27 = .ok (.iconst 1, 1) := by decide +kernel
theorem dX12_handOn_28 : decode cX12_handOn 28 = .ok (.invokevirtual 284, 3) := by decide +kernel
theorem dX12_handOn_31 : decode cX12_handOn 31 = .ok (.iload_n 2, 1) := by decide +kernel
theorem dX12_handOn_32 : decode cX12_handOn 32 = .ok (.if_icmp .ne 5, 3) := by decide +kernel
theorem dX12_handOn_35 : decode cX12_handOn 35 = .ok (.iconst (-1), 1) := by decide +kernel
theorem dX12_handOn_36 : decode cX12_handOn 36 = .ok (.ireturn, 1) := by decide +kernel
theorem dX12_handOn_37 : decode cX12_handOn 37 = .ok (.aload_n 0, 1) := by decide +kernel
theorem dX12_handOn_38 : decode cX12_handOn 38 = .ok (.iload_n 1, 1) := by decide +kernel
theorem dX12_handOn_39 : decode cX12_handOn 39 = .ok (.iconst 1, 1) := by decide +kernel
theorem dX12_handOn_40 : decode cX12_handOn 40 = .ok (.invokevirtual 284, 3) := by decide +kernel
theorem dX12_handOn_43 : decode cX12_handOn 43 = .ok (.istore_n 3, 1) := by decide +kernel
theorem dX12_handOn_44 : decode cX12_handOn 44 = .ok (.aload_n 0, 1) := by decide +kernel
theorem dX12_handOn_45 : decode cX12_handOn 45 = .ok (.iload_n 3, 1) := by decide +kernel
theorem dX12_handOn_46 : decode cX12_handOn 46 = .ok (.invokevirtual 359, 3) := by decide +kernel
theorem dX12_handOn_49 : decode cX12_handOn 49 = .ok (.ifCond .eq 38, 3) := by decide +kernel
theorem dX12_handOn_52 : decode cX12_handOn 52 = .ok (.aload_n 0, 1) := by decide +kernel
theorem dX12_handOn_53 : decode cX12_handOn 53 = .ok (.iload_n 2, 1) := by decide +kernel
theorem dX12_handOn_54 : decode cX12_handOn 54 = .ok (.invokevirtual 359, 3) := by decide +kernel
theorem dX12_handOn_57 : decode cX12_handOn 57 = .ok (.ifCond .eq 30, 3) := by decide +kernel
theorem dX12_handOn_60 : decode cX12_handOn 60 = .ok (.aload_n 0, 1) := by decide +kernel
theorem dX12_handOn_61 : decode cX12_handOn 61 = .ok (.iload_n 3, 1) := by decide +kernel
theorem dX12_handOn_62 : decode cX12_handOn 62 = .ok (.iconst 0, 1) := by decide +kernel
theorem dX12_handOn_63 : decode cX12_handOn 63 = .ok (.invokevirtual 306, 3) := by decide +kernel
theorem dX12_handOn_66 : decode cX12_handOn 66 = .ok (.aload_n 0, 1) := by decide +kernel
theorem dX12_handOn_67 : decode cX12_handOn 67 = .ok (.iload_n 2, 1) := by decide +kernel
theorem dX12_handOn_68 : decode cX12_handOn 68 = .ok (.iconst 0, 1) := by decide +kernel
theorem dX12_handOn_69 : decode cX12_handOn 69 = .ok (.invokevirtual 306, 3) := by decide +kernel
theorem dX12_handOn_72 : decode cX12_handOn 72 = .ok (.if_icmp .ne 15, 3) := by decide +kernel
theorem dX12_handOn_75 : decode cX12_handOn 75 = .ok (.aload_n 0, 1) := by decide +kernel
theorem dX12_handOn_76 : decode cX12_handOn 76 = .ok (.iload_n 2, 1) := by decide +kernel
theorem dX12_handOn_77 : decode cX12_handOn 77 = .ok (.invokevirtual 309, 3) := by decide +kernel
theorem dX12_handOn_80 : decode cX12_handOn 80 = .ok (.invokestatic 344, 3) := by decide +kernel
theorem dX12_handOn_83 : decode cX12_handOn 83 = .ok (.iconst 2, 1) := by decide +kernel
theorem dX12_handOn_84 : decode cX12_handOn 84 = .ok (.if_icmp .ne 5, 3) := by decide +kernel
theorem dX12_handOn_87 : decode cX12_handOn 87 = .ok (.iconst (-1), 1) := by decide +kernel
theorem dX12_handOn_88 : decode cX12_handOn 88 = .ok (.ireturn, 1) := by decide +kernel
theorem dX12_handOn_89 : decode cX12_handOn 89 = .ok (.aload_n 0, 1) := by decide +kernel
theorem dX12_handOn_90 : decode cX12_handOn 90 = .ok (.invokevirtual 353, 3) := by decide +kernel
theorem dX12_handOn_93 : decode cX12_handOn 93 = .ok (.aload_n 0, 1) := by decide +kernel
theorem dX12_handOn_94 : decode cX12_handOn 94 = .ok (.iload_n 2, 1) := by decide +kernel
theorem dX12_handOn_95 : decode cX12_handOn 95 = .ok (.iload_n 1, 1) := by decide +kernel
theorem dX12_handOn_96 : decode cX12_handOn 96 = .ok (.invokevirtual 365, 3) := by decide +kernel
theorem dX12_handOn_99 : decode cX12_handOn 99 = .ok (.iload_n 3, 1) := by decide +kernel
theorem dX12_handOn_100 : decode cX12_handOn 100 = .ok (.ireturn, 1) := by decide +kernel
def wp_X12_handOn (S : Sh) (M : Mm) (u0 : Int) (u1 : Int) (u2 : Int) (post : Int → Mm → Prop) : Prop := isK S u0 12 ∧ (wp_X12_isJug S M u0 u1 <| fun v2 M1 => wIf (v2 = 0) (wC (-1) fun v4 => post v4 M1) (isK S u0 12 ∧ (wp_X12_isHand S M1 u0 u2 <| fun v7 M6 => wIf (v7 = 0) (wC (-1) fun v9 => post v9 M6) (wC 1 fun v11 => isK S u0 12 ∧ (wp_X12_jugOf S M6 u0 u1 v11 <| fun v14 M13 => wIf (v14 < 0) (wC (-1) fun v16 => post v16 M13) (wC 1 fun v18 => isK S u0 12 ∧ (wp_X12_jugOf S M13 u0 u1 v18 <| fun v21 M20 => wIf (¬ v21 = u2) (wC 1 fun v23 => isK S u0 12 ∧ (wp_X12_jugOf S M20 u0 u1 v23 <| fun v26 M25 => isK S u0 12 ∧ (wp_X12_isAtPlace S M25 u0 v26 <| fun v29 M28 => wIf (v29 = 0) (wC (-1) fun v31 => post v31 M28) (isK S u0 12 ∧ (wp_X12_isAtPlace S M28 u0 u2 <| fun v34 M33 => wIf (v34 = 0) (wC (-1) fun v36 => post v36 M33) (wC 0 fun v38 => isK S u0 12 ∧ (wp_X12_handOf S M33 u0 v26 v38 <| fun v41 M40 => wC 0 fun v43 => isK S u0 12 ∧ (wp_X12_handOf S M40 u0 u2 v43 <| fun v46 M45 => wIf (¬ v41 = v46) (wC (-1) fun v48 => post v48 M45) (isK S u0 12 ∧ (wp_X12_held S M45 u0 u2 <| fun v51 M50 => wp_X12_bits S M50 v51 <| fun v54 M53 => wC 2 fun v56 => wIf (¬ v54 = v56) (isK S u0 12 ∧ (wp_X12_keepsAct S M53 u0 <| fun M58 => isK S u0 12 ∧ (wp_X12_takes S M58 u0 u2 u1 <| fun M59 => post v26 M59))) (wC (-1) fun v60 => post v60 M53))))))))))) (wC (-1) fun v62 => post v62 M20))))))))
set_option maxHeartbeats 4000000 in
set_option maxRecDepth 100000 in
theorem c_X12_handOn (l : Launch) (D : va_G) (G : Gt) (S : Sh) (M : Mm) (xl0 : Int) (zl1 : Int32) (zl2 : Int32) (post : Int → Mm → Prop) (h : wp_X12_handOn S M xl0 zl1.toInt zl2.toInt post) : Met l yX12_handOn (cw_X12_handOn :: gw) RM_X12_handOn (va_Pc [.ref (adr G xl0), .int zl1, .int zl2] (fun U => KN D G U ∧ Wd D G S M U.heap)) (QI D G S post) 0 0 (aG G) := by
  refine Met.ofW (cc := cX12_handOn) (maxL := 4) (ret := (some .int)) (by decide) rfl ?_
  intro p e s m args below meth c s₁ B hml hv
  obtain ⟨rfl, hK, hP⟩ := hv
  have hx := B.exec
  have hb := B.bytes
  have hr := B.returns
  have hts := atoms_spec (ws := cw_X12_handOn :: gw) B.pre
  have hown : s.vm.findClass RX12 = some m.cls := findClass_of_methodNamed B.named
  have hlocks := B.notSynchronized
  have hS : va_S (aG G) s.heap s.heap [] := va_S.rf
  have C : Cx p s m ([.ref (adr G xl0), .int zl1, .int zl2] : List Value).toArray meth c D G cX12_handOn 4 (some .int) (cw_X12_handOn :: gw) RX12 := ⟨hx, hb, hr, hlocks, hml, hown, hts, hK⟩
  have hl := lv_entry ([.ref (adr G xl0), .int zl1, .int zl2]) (n := 4) (Nat.le_of_ble_eq_true rfl)
  rw [lg_entry_eq]
  generalize (lg_sl ([.ref (adr G xl0), .int zl1, .int zl2]) ++ List.replicate (4 - (lg_sl ([.ref (adr G xl0), .int zl1, .int zl2])).length) Slot.unset).toArray = ls at hl ⊢
  have hl : lv_has ls 4 [(0, .ref (adr G xl0)), (1, .int zl1), (2, .int zl2)] := hl
  unfold wp_X12_handOn at h
  refine lv_aload_n hx hb dX12_handOn_0 rfl (lv_at hl 0 rfl) ?_
  refine lv_iload_n hx hb dX12_handOn_1 rfl (lv_at hl 1 rfl) ?_
  refine q_Vi hx hb hml hown hts hK hP hS (c_X12_isJug l D G S _ xl0 zl1 _ h.2) ⟨callB_of 1 hts (gw_good kw_1666) rfl rfl rfl (hts _ (List.mem_cons_of_mem _ kw_14)) (hts _ (List.mem_cons_of_mem _ kw_1663)) hd_X12_isJug ⟨Nat.le_of_ble_eq_true rfl, Nat.le_of_ble_eq_true rfl⟩, (hts _ (List.mem_cons_of_mem _ kw_1665)), (hts _ (List.mem_cons_of_mem _ kp_91))⟩ h.1 (ci := 12) rfl (by decide) rfl hl.1 rfl (lv_room (Nat.le_of_ble_eq_true rfl)) dX12_handOn_2 ⟨Nat.zero_le _, Nat.zero_le _⟩ (fun z3 M1 H locs h hP hS => ?_)
  refine r_if_eq (tgt := 35) hx hb dX12_handOn_5 (by decide) h (fun h => ?_) (fun h => ?_)
  · refine r_iconst hx hb dX12_handOn_35 (by decide) h (fun z5 h => ?_)
    exact r_iret hx hb hr hlocks hP hS dX12_handOn_36 h
  · refine lv_aload_n hx hb dX12_handOn_8 rfl (lv_at hl 0 rfl) ?_
    refine lv_iload_n hx hb dX12_handOn_9 rfl (lv_at hl 2 rfl) ?_
    refine q_Vi hx hb hml hown hts hK hP hS (c_X12_isHand l D G S _ xl0 zl2 _ h.2) ⟨callB_of 1 hts (gw_good kw_1645) rfl rfl rfl (hts _ (List.mem_cons_of_mem _ kw_14)) (hts _ (List.mem_cons_of_mem _ kw_1642)) hd_X12_isHand ⟨Nat.le_of_ble_eq_true rfl, Nat.le_of_ble_eq_true rfl⟩, (hts _ (List.mem_cons_of_mem _ kw_1644)), (hts _ (List.mem_cons_of_mem _ kp_87))⟩ h.1 (ci := 12) rfl (by decide) rfl hl.1 rfl (lv_room (Nat.le_of_ble_eq_true rfl)) dX12_handOn_10 ⟨Nat.zero_le _, Nat.zero_le _⟩ (fun z8 M6 H locs h hP hS => ?_)
    refine r_if_eq (tgt := 35) hx hb dX12_handOn_13 (by decide) h (fun h => ?_) (fun h => ?_)
    · refine r_iconst hx hb dX12_handOn_35 (by decide) h (fun z10 h => ?_)
      exact r_iret hx hb hr hlocks hP hS dX12_handOn_36 h
    · refine lv_aload_n hx hb dX12_handOn_16 rfl (lv_at hl 0 rfl) ?_
      refine lv_iload_n hx hb dX12_handOn_17 rfl (lv_at hl 1 rfl) ?_
      refine r_iconst hx hb dX12_handOn_18 (by decide) h (fun z12 h => ?_)
      refine q_Vi hx hb hml hown hts hK hP hS (c_X12_jugOf l D G S _ xl0 zl1 z12 _ h.2) ⟨callB_of 2 hts (gw_good kw_1658) rfl rfl rfl (hts _ (List.mem_cons_of_mem _ kw_14)) (hts _ (List.mem_cons_of_mem _ kw_1655)) hd_X12_jugOf ⟨Nat.le_of_ble_eq_true rfl, Nat.le_of_ble_eq_true rfl⟩, (hts _ (List.mem_cons_of_mem _ kw_1657)), (hts _ (List.mem_cons_of_mem _ kp_90))⟩ h.1 (ci := 12) rfl (by decide) rfl hl.1 rfl (lv_room (Nat.le_of_ble_eq_true rfl)) dX12_handOn_19 ⟨Nat.zero_le _, Nat.zero_le _⟩ (fun z15 M13 H locs h hP hS => ?_)
      refine r_if_lt (tgt := 35) hx hb dX12_handOn_22 (by decide) h (fun h => ?_) (fun h => ?_)
      · refine r_iconst hx hb dX12_handOn_35 (by decide) h (fun z17 h => ?_)
        exact r_iret hx hb hr hlocks hP hS dX12_handOn_36 h
      · refine lv_aload_n hx hb dX12_handOn_25 rfl (lv_at hl 0 rfl) ?_
        refine lv_iload_n hx hb dX12_handOn_26 rfl (lv_at hl 1 rfl) ?_
        refine r_iconst hx hb dX12_handOn_27 (by decide) h (fun z19 h => ?_)
        refine q_Vi hx hb hml hown hts hK hP hS (c_X12_jugOf l D G S _ xl0 zl1 z19 _ h.2) ⟨callB_of 2 hts (gw_good kw_1658) rfl rfl rfl (hts _ (List.mem_cons_of_mem _ kw_14)) (hts _ (List.mem_cons_of_mem _ kw_1655)) hd_X12_jugOf ⟨Nat.le_of_ble_eq_true rfl, Nat.le_of_ble_eq_true rfl⟩, (hts _ (List.mem_cons_of_mem _ kw_1657)), (hts _ (List.mem_cons_of_mem _ kp_90))⟩ h.1 (ci := 12) rfl (by decide) rfl hl.1 rfl (lv_room (Nat.le_of_ble_eq_true rfl)) dX12_handOn_28 ⟨Nat.zero_le _, Nat.zero_le _⟩ (fun z22 M20 H locs h hP hS => ?_)
        refine lv_iload_n hx hb dX12_handOn_31 rfl (lv_at hl 2 rfl) ?_
        refine r_icmp_ne (tgt := 37) hx hb dX12_handOn_32 (by decide) h (fun h => ?_) (fun h => ?_)
        · refine lv_aload_n hx hb dX12_handOn_37 rfl (lv_at hl 0 rfl) ?_
          refine lv_iload_n hx hb dX12_handOn_38 rfl (lv_at hl 1 rfl) ?_
          refine r_iconst hx hb dX12_handOn_39 (by decide) h (fun z24 h => ?_)
          refine q_Vi hx hb hml hown hts hK hP hS (c_X12_jugOf l D G S _ xl0 zl1 z24 _ h.2) ⟨callB_of 2 hts (gw_good kw_1658) rfl rfl rfl (hts _ (List.mem_cons_of_mem _ kw_14)) (hts _ (List.mem_cons_of_mem _ kw_1655)) hd_X12_jugOf ⟨Nat.le_of_ble_eq_true rfl, Nat.le_of_ble_eq_true rfl⟩, (hts _ (List.mem_cons_of_mem _ kw_1657)), (hts _ (List.mem_cons_of_mem _ kp_90))⟩ h.1 (ci := 12) rfl (by decide) rfl hl.1 rfl (lv_room (Nat.le_of_ble_eq_true rfl)) dX12_handOn_40 ⟨Nat.zero_le _, Nat.zero_le _⟩ (fun z27 M25 H locs h hP hS => ?_)
          refine lv_istore_n (lv' := [(3, .int z27), (0, .ref (adr G xl0)), (1, .int zl1), (2, .int zl2)]) hx hb dX12_handOn_43 rfl hl (by decide) rfl (fun ls hl => ?_)
          refine lv_aload_n hx hb dX12_handOn_44 rfl (lv_at hl 1 rfl) ?_
          refine lv_iload_n hx hb dX12_handOn_45 rfl (lv_at hl 0 rfl) ?_
          refine q_Vi hx hb hml hown hts hK hP hS (c_X12_isAtPlace l D G S _ xl0 z27 _ h.2) ⟨callB_of 1 hts (gw_good kw_1760) rfl rfl rfl (hts _ (List.mem_cons_of_mem _ kw_14)) (hts _ (List.mem_cons_of_mem _ kw_1757)) hd_X12_isAtPlace ⟨Nat.le_of_ble_eq_true rfl, Nat.le_of_ble_eq_true rfl⟩, (hts _ (List.mem_cons_of_mem _ kw_1759)), (hts _ (List.mem_cons_of_mem _ kp_108))⟩ h.1 (ci := 12) rfl (by decide) rfl hl.1 rfl (lv_room (Nat.le_of_ble_eq_true rfl)) dX12_handOn_46 ⟨Nat.zero_le _, Nat.zero_le _⟩ (fun z30 M28 H locs h hP hS => ?_)
          refine r_if_eq (tgt := 87) hx hb dX12_handOn_49 (by decide) h (fun h => ?_) (fun h => ?_)
          · refine r_iconst hx hb dX12_handOn_87 (by decide) h (fun z32 h => ?_)
            exact r_iret hx hb hr hlocks hP hS dX12_handOn_88 h
          · refine lv_aload_n hx hb dX12_handOn_52 rfl (lv_at hl 1 rfl) ?_
            refine lv_iload_n hx hb dX12_handOn_53 rfl (lv_at hl 3 rfl) ?_
            refine q_Vi hx hb hml hown hts hK hP hS (c_X12_isAtPlace l D G S _ xl0 zl2 _ h.2) ⟨callB_of 1 hts (gw_good kw_1760) rfl rfl rfl (hts _ (List.mem_cons_of_mem _ kw_14)) (hts _ (List.mem_cons_of_mem _ kw_1757)) hd_X12_isAtPlace ⟨Nat.le_of_ble_eq_true rfl, Nat.le_of_ble_eq_true rfl⟩, (hts _ (List.mem_cons_of_mem _ kw_1759)), (hts _ (List.mem_cons_of_mem _ kp_108))⟩ h.1 (ci := 12) rfl (by decide) rfl hl.1 rfl (lv_room (Nat.le_of_ble_eq_true rfl)) dX12_handOn_54 ⟨Nat.zero_le _, Nat.zero_le _⟩ (fun z35 M33 H locs h hP hS => ?_)
            refine r_if_eq (tgt := 87) hx hb dX12_handOn_57 (by decide) h (fun h => ?_) (fun h => ?_)
            · refine r_iconst hx hb dX12_handOn_87 (by decide) h (fun z37 h => ?_)
              exact r_iret hx hb hr hlocks hP hS dX12_handOn_88 h
            · refine lv_aload_n hx hb dX12_handOn_60 rfl (lv_at hl 1 rfl) ?_
              refine lv_iload_n hx hb dX12_handOn_61 rfl (lv_at hl 0 rfl) ?_
              refine r_iconst hx hb dX12_handOn_62 (by decide) h (fun z39 h => ?_)
              refine q_Vi hx hb hml hown hts hK hP hS (c_X12_handOf l D G S _ xl0 z27 z39 _ h.2) ⟨callB_of 2 hts (gw_good kw_1650) rfl rfl rfl (hts _ (List.mem_cons_of_mem _ kw_14)) (hts _ (List.mem_cons_of_mem _ kw_1647)) hd_X12_handOf ⟨Nat.le_of_ble_eq_true rfl, Nat.le_of_ble_eq_true rfl⟩, (hts _ (List.mem_cons_of_mem _ kw_1649)), (hts _ (List.mem_cons_of_mem _ kp_88))⟩ h.1 (ci := 12) rfl (by decide) rfl hl.1 rfl (lv_room (Nat.le_of_ble_eq_true rfl)) dX12_handOn_63 ⟨Nat.zero_le _, Nat.zero_le _⟩ (fun z42 M40 H locs h hP hS => ?_)
              refine lv_aload_n hx hb dX12_handOn_66 rfl (lv_at hl 1 rfl) ?_
              refine lv_iload_n hx hb dX12_handOn_67 rfl (lv_at hl 3 rfl) ?_
              refine r_iconst hx hb dX12_handOn_68 (by decide) h (fun z44 h => ?_)
              refine q_Vi hx hb hml hown hts hK hP hS (c_X12_handOf l D G S _ xl0 zl2 z44 _ h.2) ⟨callB_of 2 hts (gw_good kw_1650) rfl rfl rfl (hts _ (List.mem_cons_of_mem _ kw_14)) (hts _ (List.mem_cons_of_mem _ kw_1647)) hd_X12_handOf ⟨Nat.le_of_ble_eq_true rfl, Nat.le_of_ble_eq_true rfl⟩, (hts _ (List.mem_cons_of_mem _ kw_1649)), (hts _ (List.mem_cons_of_mem _ kp_88))⟩ h.1 (ci := 12) rfl (by decide) rfl hl.1 rfl (lv_room (Nat.le_of_ble_eq_true rfl)) dX12_handOn_69 ⟨Nat.zero_le _, Nat.zero_le _⟩ (fun z47 M45 H locs h hP hS => ?_)
              refine r_icmp_ne (tgt := 87) hx hb dX12_handOn_72 (by decide) h (fun h => ?_) (fun h => ?_)
              · refine r_iconst hx hb dX12_handOn_87 (by decide) h (fun z49 h => ?_)
                exact r_iret hx hb hr hlocks hP hS dX12_handOn_88 h
              · refine lv_aload_n hx hb dX12_handOn_75 rfl (lv_at hl 1 rfl) ?_
                refine lv_iload_n hx hb dX12_handOn_76 rfl (lv_at hl 3 rfl) ?_
                refine q_Vi hx hb hml hown hts hK hP hS (c_X12_held l D G S _ xl0 zl2 _ h.2) ⟨callB_of 1 hts (gw_good kw_1654) rfl rfl rfl (hts _ (List.mem_cons_of_mem _ kw_14)) (hts _ (List.mem_cons_of_mem _ kw_1651)) hd_X12_held ⟨Nat.le_of_ble_eq_true rfl, Nat.le_of_ble_eq_true rfl⟩, (hts _ (List.mem_cons_of_mem _ kw_1653)), (hts _ (List.mem_cons_of_mem _ kp_89))⟩ h.1 (ci := 12) rfl (by decide) rfl hl.1 rfl (lv_room (Nat.le_of_ble_eq_true rfl)) dX12_handOn_77 ⟨Nat.zero_le _, Nat.zero_le _⟩ (fun z52 M50 H locs h hP hS => ?_)
                refine q_Si hx hb hml hown hts hK hP hS (c_X12_bits l D G S _ z52 _ h) ⟨callB_of 1 hts (gw_good kw_1717) rfl rfl rfl (hts _ (List.mem_cons_of_mem _ kw_14)) (hts _ (List.mem_cons_of_mem _ kw_1715)) hd_X12_bits ⟨Nat.le_of_ble_eq_true rfl, Nat.le_of_ble_eq_true rfl⟩, (hts _ (List.mem_cons_of_mem _ kw_1716))⟩ rfl hl.1 rfl (lv_room (Nat.le_of_ble_eq_true rfl)) dX12_handOn_80 ⟨Nat.zero_le _, Nat.zero_le _⟩ (fun z55 M53 H locs h hP hS => ?_)
                refine r_iconst hx hb dX12_handOn_83 (by decide) h (fun z57 h => ?_)
                refine r_icmp_ne (tgt := 89) hx hb dX12_handOn_84 (by decide) h (fun h => ?_) (fun h => ?_)
                · refine lv_aload_n hx hb dX12_handOn_89 rfl (lv_at hl 1 rfl) ?_
                  refine q_Vv hx hb hml hown hts hK hP hS (c_X12_keepsAct l D G S _ xl0 _ h.2) ⟨callB_of 0 hts (gw_good kw_1702) rfl rfl rfl (hts _ (List.mem_cons_of_mem _ kw_14)) (hts _ (List.mem_cons_of_mem _ kw_1699)) hd_X12_keepsAct ⟨Nat.le_of_ble_eq_true rfl, Nat.le_of_ble_eq_true rfl⟩, (hts _ (List.mem_cons_of_mem _ kw_1701)), (hts _ (List.mem_cons_of_mem _ kp_97))⟩ h.1 (ci := 12) rfl (by decide) rfl hl.1 rfl (lv_room (Nat.le_of_ble_eq_true rfl)) dX12_handOn_90 ⟨Nat.zero_le _, Nat.zero_le _⟩ (fun M58 H locs h hP hS => ?_)
                  refine lv_aload_n hx hb dX12_handOn_93 rfl (lv_at hl 1 rfl) ?_
                  refine lv_iload_n hx hb dX12_handOn_94 rfl (lv_at hl 3 rfl) ?_
                  refine lv_iload_n hx hb dX12_handOn_95 rfl (lv_at hl 2 rfl) ?_
                  refine q_Vv hx hb hml hown hts hK hP hS (c_X12_takes l D G S _ xl0 zl2 zl1 _ h.2) ⟨callB_of 2 hts (gw_good kw_1764) rfl rfl rfl (hts _ (List.mem_cons_of_mem _ kw_14)) (hts _ (List.mem_cons_of_mem _ kw_1761)) hd_X12_takes ⟨Nat.le_of_ble_eq_true rfl, Nat.le_of_ble_eq_true rfl⟩, (hts _ (List.mem_cons_of_mem _ kw_1763)), (hts _ (List.mem_cons_of_mem _ kp_109))⟩ h.1 (ci := 12) rfl (by decide) rfl hl.1 rfl (lv_room (Nat.le_of_ble_eq_true rfl)) dX12_handOn_96 ⟨Nat.zero_le _, Nat.zero_le _⟩ (fun M59 H locs h hP hS => ?_)
                  refine lv_iload_n hx hb dX12_handOn_99 rfl (lv_at hl 0 rfl) ?_
                  exact r_iret hx hb hr hlocks hP hS dX12_handOn_100 h
                · refine r_iconst hx hb dX12_handOn_87 (by decide) h (fun z61 h => ?_)
                  exact r_iret hx hb hr hlocks hP hS dX12_handOn_88 h
        · refine r_iconst hx hb dX12_handOn_35 (by decide) h (fun z63 h => ?_)
          exact r_iret hx hb hr hlocks hP hS dX12_handOn_36 h
/-! TurningMilkModel.isPlace(I)Z -/
abbrev RM_X12_isPlace : Room := { frames := 1, cells := 0, slots := 0, locals := 40 }
def cw_X12_isPlace : Cond := Cond.code yX12_isPlace cX12_isPlace 2 (Option.some FieldType.boolean)
theorem hd_X12_isPlace : yX12_isPlace.cls ≠ "java/lang/invoke/MethodHandle" ∧ yX12_isPlace.cls ≠ "java/lang/invoke/VarHandle" ∧ (parseMethodDescriptor yX12_isPlace.desc).map (fun d => d.parameters.length) = some 1 := by decide +kernel
theorem dX12_isPlace_0 : decode cX12_isPlace 0 = .ok (.iload_n 1, 1) := by decide +kernel
theorem dX12_isPlace_1 : decode cX12_isPlace 1 = .ok (.ifCond .lt 17, 3) := by decide +kernel
theorem dX12_isPlace_4 : decode cX12_isPlace 4 = .ok (.iload_n 1, 1) := by decide +kernel
theorem dX12_isPlace_5 : decode cX12_isPlace 5 = .ok (.aload_n 0, 1) := by decide +kernel
theorem dX12_isPlace_6 : decode cX12_isPlace 6 = .ok (.getfield 39, 3) := by decide +kernel
theorem dX12_isPlace_9 : decode cX12_isPlace 9 = .ok (.iconst 0, 1) := by decide +kernel
theorem dX12_isPlace_10 : decode cX12_isPlace 10 = .ok (.iaload, 1) := by decide +kernel
theorem dX12_isPlace_11 : decode cX12_isPlace 11 = .ok (.if_icmp .ge 7, 3) := by decide +kernel
theorem dX12_isPlace_14 : decode cX12_isPlace 14 = .ok (.iconst 1, 1) := by decide +kernel
theorem dX12_isPlace_15 : decode cX12_isPlace 15 = .ok (.goto 4, 3) := by decide +kernel
theorem dX12_isPlace_18 : decode cX12_isPlace 18 = .ok (.iconst 0, 1) := by decide +kernel
theorem dX12_isPlace_19 : decode cX12_isPlace 19 = .ok (.ireturn, 1) := by decide +kernel
def wp_X12_isPlace (S : Sh) (M : Mm) (u0 : Int) (u1 : Int) (post : Int → Mm → Prop) : Prop := wIf (u1 < 0) (wC 0 fun v1 => (v1 = 0 ∨ v1 = 1) ∧ post v1 M) (wGetR S M u0 12 20 fun v3 => wC 0 fun v5 => wLd S M v3 14 v5 fun v7 => wIf (v7 ≤ u1) (wC 0 fun v9 => (v9 = 0 ∨ v9 = 1) ∧ post v9 M) (wC 1 fun v11 => (v11 = 0 ∨ v11 = 1) ∧ post v11 M))
set_option maxHeartbeats 4000000 in
set_option maxRecDepth 100000 in
theorem c_X12_isPlace (l : Launch) (D : va_G) (G : Gt) (S : Sh) (M : Mm) (xl0 : Int) (zl1 : Int32) (post : Int → Mm → Prop) (h : wp_X12_isPlace S M xl0 zl1.toInt post) : Met l yX12_isPlace (cw_X12_isPlace :: gw) RM_X12_isPlace (va_Pc [.ref (adr G xl0), .int zl1] (fun U => KN D G U ∧ Wd D G S M U.heap)) (QI D G S post) 0 0 (aG G) := by
  refine Met.ofW (cc := cX12_isPlace) (maxL := 2) (ret := (some .boolean)) (by decide) rfl ?_
  intro p e s m args below meth c s₁ B hml hv
  obtain ⟨rfl, hK, hP⟩ := hv
  have hx := B.exec
  have hb := B.bytes
  have hr := B.returns
  have hts := atoms_spec (ws := cw_X12_isPlace :: gw) B.pre
  have hown : s.vm.findClass RX12 = some m.cls := findClass_of_methodNamed B.named
  have hlocks := B.notSynchronized
  have hS : va_S (aG G) s.heap s.heap [] := va_S.rf
  have C : Cx p s m ([.ref (adr G xl0), .int zl1] : List Value).toArray meth c D G cX12_isPlace 2 (some .boolean) (cw_X12_isPlace :: gw) RX12 := ⟨hx, hb, hr, hlocks, hml, hown, hts, hK⟩
  have hl := lv_entry ([.ref (adr G xl0), .int zl1]) (n := 2) (Nat.le_of_ble_eq_true rfl)
  rw [lg_entry_eq]
  generalize (lg_sl ([.ref (adr G xl0), .int zl1]) ++ List.replicate (2 - (lg_sl ([.ref (adr G xl0), .int zl1])).length) Slot.unset).toArray = ls at hl ⊢
  have hl : lv_has ls 2 [(0, .ref (adr G xl0)), (1, .int zl1)] := hl
  unfold wp_X12_isPlace at h
  refine lv_iload_n hx hb dX12_isPlace_0 rfl (lv_at hl 1 rfl) ?_
  refine r_if_lt (tgt := 18) hx hb dX12_isPlace_1 (by decide) h (fun h => ?_) (fun h => ?_)
  · refine r_iconst hx hb dX12_isPlace_18 (by decide) h (fun z2 h => ?_)
    exact r_zret hx hb hr hlocks hP hS dX12_isPlace_19 h
  · refine lv_iload_n hx hb dX12_isPlace_4 rfl (lv_at hl 1 rfl) ?_
    refine lv_aload_n hx hb dX12_isPlace_5 rfl (lv_at hl 0 rfl) ?_
    refine r_getr (C := RX12) (T := TX12) (N := 38) hx hb hts (fun w h => List.mem_cons_of_mem _ (iX12 w h)) hown hK hP rfl (by decide) rfl 20 (by decide) (hts _ (List.mem_cons_of_mem _ kw_1354)) (fun _ h9 => h9) dX12_isPlace_6 (by decide) h (fun x4 h => ?_)
    refine r_iconst hx hb dX12_isPlace_9 (by decide) h (fun z6 h => ?_)
    refine r_iald hx hb hK hP dX12_isPlace_10 h (fun z8 h => ?_)
    refine r_icmp_ge (tgt := 18) hx hb dX12_isPlace_11 (by decide) h (fun h => ?_) (fun h => ?_)
    · refine r_iconst hx hb dX12_isPlace_18 (by decide) h (fun z10 h => ?_)
      exact r_zret hx hb hr hlocks hP hS dX12_isPlace_19 h
    · refine r_iconst hx hb dX12_isPlace_14 (by decide) h (fun z12 h => ?_)
      refine lv_goto (tgt := 19) hx hb dX12_isPlace_15 (by decide) ?_
      exact r_zret hx hb hr hlocks hP hS dX12_isPlace_19 h
