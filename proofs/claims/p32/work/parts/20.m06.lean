/-! TurningMilkModel.one(IJJ)J -/
abbrev RM_X12_one : Room := { frames := 1, cells := 0, slots := 0, locals := 40 }
def cw_X12_one : Cond := Cond.code yX12_one cX12_one 5 (Option.some FieldType.long)
theorem hd_X12_one : yX12_one.cls ≠ "java/lang/invoke/MethodHandle" ∧ yX12_one.cls ≠ "java/lang/invoke/VarHandle" ∧ (parseMethodDescriptor yX12_one.desc).map (fun d => d.parameters.length) = some 3 := by decide +kernel
theorem dX12_one_0 : decode cX12_one 0 = .ok (.iload_n 0, 1) := by decide +kernel
theorem dX12_one_1 : decode cX12_one 1 = .ok (.tableswitch 171 2 14 #[67, 71, 75, 79, 107, 119, 131, 143, 155, 171, 167, 171, 93], 67) := by decide +kernel
theorem dX12_one_68 : decode cX12_one 68 = .ok (.lload_n 1, 1) := by decide +kernel
theorem dX12_one_69 : decode cX12_one 69 = .ok (.lload_n 3, 1) := by decide +kernel
theorem dX12_one_70 : decode cX12_one 70 = .ok (.ladd, 1) := by decide +kernel
theorem dX12_one_71 : decode cX12_one 71 = .ok (.lreturn, 1) := by decide +kernel
theorem dX12_one_72 : decode cX12_one 72 = .ok (.lload_n 1, 1) := by decide +kernel
theorem dX12_one_73 : decode cX12_one 73 = .ok (.lload_n 3, 1) := by decide +kernel
theorem dX12_one_74 : decode cX12_one 74 = .ok (.lsub, 1) := by decide +kernel
theorem dX12_one_75 : decode cX12_one 75 = .ok (.lreturn, 1) := by decide +kernel
theorem dX12_one_76 : decode cX12_one 76 = .ok (.lload_n 1, 1) := by decide +kernel
theorem dX12_one_77 : decode cX12_one 77 = .ok (.lload_n 3, 1) := by decide +kernel
theorem dX12_one_78 : decode cX12_one 78 = .ok (.lmul, 1) := by decide +kernel
theorem dX12_one_79 : decode cX12_one 79 = .ok (.lreturn, 1) := by decide +kernel
theorem dX12_one_80 : decode cX12_one 80 = .ok (.lload_n 3, 1) := by decide +kernel
theorem dX12_one_81 : decode cX12_one 81 = .ok (.lconst 0, 1) := by decide +kernel
theorem dX12_one_82 : decode cX12_one 82 = .ok (.lcmp, 1) := by decide +kernel
theorem dX12_one_83 : decode cX12_one 83 = .ok (.ifCond .ne 7, 3) := by decide +kernel
theorem dX12_one_86 : decode cX12_one 86 = .ok (.lconst 0, 1) := by decide +kernel
theorem dX12_one_87 : decode cX12_one 87 = .ok (.goto 6, 3) := by decide +kernel
theorem dX12_one_90 : decode cX12_one 90 = .ok (.lload_n 1, 1) := by decide +kernel
theorem dX12_one_91 : decode cX12_one 91 = .ok (.lload_n 3, 1) := by decide +kernel
theorem dX12_one_92 : decode cX12_one 92 = .ok (.ldiv, 1) := by decide +kernel
theorem dX12_one_93 : decode cX12_one 93 = .ok (.lreturn, 1) := by decide +kernel
theorem dX12_one_94 : decode cX12_one 94 = .ok (.lload_n 3, 1) := by decide +kernel
theorem dX12_one_95 : decode cX12_one 95 = .ok (.lconst 0, 1) := by decide +kernel
theorem dX12_one_96 : decode cX12_one 96 = .ok (.lcmp, 1) := by decide +kernel
theorem dX12_one_97 : decode cX12_one 97 = .ok (.ifCond .ne 7, 3) := by decide +kernel
theorem dX12_one_100 : decode cX12_one 100 = .ok (.lconst 0, 1) := by decide +kernel
theorem dX12_one_101 : decode cX12_one 101 = .ok (.goto 6, 3) := by decide +kernel
theorem dX12_one_104 : decode cX12_one 104 = .ok (.lload_n 1, 1) := by decide +kernel
theorem dX12_one_105 : decode cX12_one 105 = .ok (.lload_n 3, 1) := by decide +kernel
theorem dX12_one_106 : decode cX12_one 106 = .ok (.lrem, 1) := by decide +kernel
theorem dX12_one_107 : decode cX12_one 107 = .ok (.lreturn, 1) := by decide +kernel
theorem dX12_one_108 : decode cX12_one 108 = .ok (.lload_n 1, 1) := by decide +kernel
theorem dX12_one_109 : decode cX12_one 109 = .ok (.lload_n 3, 1) := by decide +kernel
theorem dX12_one_110 : decode cX12_one 110 = .ok (.lcmp, 1) := by decide +kernel
theorem dX12_one_111 : decode cX12_one 111 = .ok (.ifCond .ge 7, 3) := by decide +kernel
theorem dX12_one_114 : decode cX12_one 114 = .ok (.lconst 1, 1) := by decide +kernel
theorem dX12_one_115 : decode cX12_one 115 = .ok (.goto 4, 3) := by decide +kernel
theorem dX12_one_118 : decode cX12_one 118 = .ok (.lconst 0, 1) := by decide +kernel
theorem dX12_one_119 : decode cX12_one 119 = .ok (.lreturn, 1) := by decide +kernel
theorem dX12_one_120 : decode cX12_one 120 = .ok (.lload_n 1, 1) := by decide +kernel
theorem dX12_one_121 : decode cX12_one 121 = .ok (.lload_n 3, 1) := by decide +kernel
theorem dX12_one_122 : decode cX12_one 122 = .ok (.lcmp, 1) := by decide +kernel
theorem dX12_one_123 : decode cX12_one 123 = .ok (.ifCond .gt 7, 3) := by decide +kernel
theorem dX12_one_126 : decode cX12_one 126 = .ok (.lconst 1, 1) := by decide +kernel
theorem dX12_one_127 : decode cX12_one 127 = .ok (.goto 4, 3) := by decide +kernel
theorem dX12_one_130 : decode cX12_one 130 = .ok (.lconst 0, 1) := by decide +kernel
theorem dX12_one_131 : decode cX12_one 131 = .ok (.lreturn, 1) := by decide +kernel
theorem dX12_one_132 : decode cX12_one 132 = .ok (.lload_n 1, 1) := by decide +kernel
theorem dX12_one_133 : decode cX12_one 133 = .ok (.lload_n 3, 1) := by decide +kernel
theorem dX12_one_134 : decode cX12_one 134 = .ok (.lcmp, 1) := by decide +kernel
theorem dX12_one_135 : decode cX12_one 135 = .ok (.ifCond .ne 7, 3) := by decide +kernel
theorem dX12_one_138 : decode cX12_one 138 = .ok (.lconst 1, 1) := by decide +kernel
theorem dX12_one_139 : decode cX12_one 139 = .ok (.goto 4, 3) := by decide +kernel
theorem dX12_one_142 : decode cX12_one 142 = .ok (.lconst 0, 1) := by decide +kernel
theorem dX12_one_143 : decode cX12_one 143 = .ok (.lreturn, 1) := by decide +kernel
theorem dX12_one_144 : decode cX12_one 144 = .ok (.lload_n 1, 1) := by decide +kernel
theorem dX12_one_145 : decode cX12_one 145 = .ok (.lload_n 3, 1) := by decide +kernel
theorem dX12_one_146 : decode cX12_one 146 = .ok (.lcmp, 1) := by decide +kernel
theorem dX12_one_147 : decode cX12_one 147 = .ok (.ifCond .lt 7, 3) := by decide +kernel
theorem dX12_one_150 : decode cX12_one 150 = .ok (.lconst 1, 1) := by decide +kernel
theorem dX12_one_151 : decode cX12_one 151 = .ok (.goto 4, 3) := by decide +kernel
theorem dX12_one_154 : decode cX12_one 154 = .ok (.lconst 0, 1) := by decide +kernel
theorem dX12_one_155 : decode cX12_one 155 = .ok (.lreturn, 1) := by decide +kernel
theorem dX12_one_156 : decode cX12_one 156 = .ok (.lload_n 1, 1) := by decide +kernel
theorem dX12_one_157 : decode cX12_one 157 = .ok (.lload_n 3, 1) := by decide +kernel
theorem dX12_one_158 : decode cX12_one 158 = .ok (.lcmp, 1) := by decide +kernel
theorem dX12_one_159 : decode cX12_one 159 = .ok (.ifCond .le 7, 3) := by decide +kernel
theorem dX12_one_162 : decode cX12_one 162 = .ok (.lconst 1, 1) := by decide +kernel
theorem dX12_one_163 : decode cX12_one 163 = .ok (.goto 4, 3) := by decide +kernel
theorem dX12_one_166 : decode cX12_one 166 = .ok (.lconst 0, 1) := by decide +kernel
theorem dX12_one_167 : decode cX12_one 167 = .ok (.lreturn, 1) := by decide +kernel
theorem dX12_one_168 : decode cX12_one 168 = .ok (.lload_n 1, 1) := by decide +kernel
theorem dX12_one_169 : decode cX12_one 169 = .ok (.lload_n 3, 1) := by decide +kernel
theorem dX12_one_170 : decode cX12_one 170 = .ok (.land, 1) := by decide +kernel
theorem dX12_one_171 : decode cX12_one 171 = .ok (.lreturn, 1) := by decide +kernel
theorem dX12_one_172 : decode cX12_one 172 = .ok (.lload_n 1, 1) := by decide +kernel
theorem dX12_one_173 : decode cX12_one 173 = .ok (.lload_n 3, 1) := by decide +kernel
theorem dX12_one_174 : decode cX12_one 174 = .ok (.lor, 1) := by decide +kernel
theorem dX12_one_175 : decode cX12_one 175 = .ok (.lreturn, 1) := by decide +kernel
def wp_X12_one (S : Sh) (M : Mm) (u0 : Int) (u1 : Int) (u3 : Int) (post : Int → Mm → Prop) : Prop := wIf (u0 = 2) (wLA u1 u3 fun v1 => post v1 M) (wIf (u0 = 3) (wLS u1 u3 fun v3 => post v3 M) (wIf (u0 = 4) (wLM u1 u3 fun v5 => post v5 M) (wIf (u0 = 5) (wC 0 fun v7 => wCmp u3 v7 fun v9 => wIf (¬ v9 = 0) (wD lDiv u1 u3 fun v11 => post v11 M) (wC 0 fun v13 => post v13 M)) (wIf (u0 = 6) (wCmp u1 u3 fun v15 => wIf (0 ≤ v15) (wC 0 fun v17 => post v17 M) (wC 1 fun v19 => post v19 M)) (wIf (u0 = 7) (wCmp u1 u3 fun v21 => wIf (0 < v21) (wC 0 fun v23 => post v23 M) (wC 1 fun v25 => post v25 M)) (wIf (u0 = 8) (wCmp u1 u3 fun v27 => wIf (¬ v27 = 0) (wC 0 fun v29 => post v29 M) (wC 1 fun v31 => post v31 M)) (wIf (u0 = 9) (wCmp u1 u3 fun v33 => wIf (v33 < 0) (wC 0 fun v35 => post v35 M) (wC 1 fun v37 => post v37 M)) (wIf (u0 = 10) (wCmp u1 u3 fun v39 => wIf (v39 ≤ 0) (wC 0 fun v41 => post v41 M) (wC 1 fun v43 => post v43 M)) (wIf (u0 = 11) (wO lOr u1 u3 fun v45 => post v45 M) (wIf (u0 = 12) (wO lAnd u1 u3 fun v47 => post v47 M) (wIf (u0 = 13) (wO lOr u1 u3 fun v49 => post v49 M) (wIf (u0 = 14) (wC 0 fun v51 => wCmp u3 v51 fun v53 => wIf (¬ v53 = 0) (wD lRem u1 u3 fun v55 => post v55 M) (wC 0 fun v57 => post v57 M)) (wO lOr u1 u3 fun v59 => post v59 M)))))))))))))
set_option maxHeartbeats 4000000 in
set_option maxRecDepth 100000 in
theorem c_X12_one (l : Launch) (D : va_G) (G : Gt) (S : Sh) (M : Mm) (zl0 : Int32) (zl1 : Int64) (zl3 : Int64) (post : Int → Mm → Prop) (h : wp_X12_one S M zl0.toInt zl1.toInt zl3.toInt post) : Met l yX12_one (cw_X12_one :: gw) RM_X12_one (va_Pc [.int zl0, .long zl1, .long zl3] (fun U => KN D G U ∧ Wd D G S M U.heap)) (QL D G S post) 0 0 (aG G) := by
  refine Met.ofW (cc := cX12_one) (maxL := 5) (ret := (some .long)) (by decide) rfl ?_
  intro p e s m args below meth c s₁ B hml hv
  obtain ⟨rfl, hK, hP⟩ := hv
  have hx := B.exec
  have hb := B.bytes
  have hr := B.returns
  have hts := atoms_spec (ws := cw_X12_one :: gw) B.pre
  have hown : s.vm.findClass RX12 = some m.cls := findClass_of_methodNamed B.named
  have hlocks := B.notSynchronized
  have hS : va_S (aG G) s.heap s.heap [] := va_S.rf
  have C : Cx p s m ([.int zl0, .long zl1, .long zl3] : List Value).toArray meth c D G cX12_one 5 (some .long) (cw_X12_one :: gw) RX12 := ⟨hx, hb, hr, hlocks, hml, hown, hts, hK⟩
  have hl := lv_entry ([.int zl0, .long zl1, .long zl3]) (n := 5) (Nat.le_of_ble_eq_true rfl)
  rw [lg_entry_eq]
  generalize (lg_sl ([.int zl0, .long zl1, .long zl3]) ++ List.replicate (5 - (lg_sl ([.int zl0, .long zl1, .long zl3])).length) Slot.unset).toArray = ls at hl ⊢
  have hl : lv_has ls 5 [(0, .int zl0), (1, .long zl1), (3, .long zl3)] := hl
  unfold wp_X12_one at h
  refine lv_iload_n hx hb dX12_one_0 rfl (lv_at hl 0 rfl) ?_
  refine sw (c := zl0.toInt = 2) h (fun e0 h => ?_) (fun e0 h => ?_)
  · refine lv_tableIn (tgt := 68) hx hb dX12_one_1 (by omega) (by omega) (by rw [e0]; rfl) (by decide) ?_
    refine lv_lload_n hx hb dX12_one_68 rfl (lv_at hl 1 rfl) ?_
    refine lv_lload_n hx hb dX12_one_69 rfl (lv_at hl 2 rfl) ?_
    refine r_ladd hx hb dX12_one_70 h (fun z2 h => ?_)
    exact r_lret hx hb hr hlocks hP hS dX12_one_71 h
  · refine sw (c := zl0.toInt = 3) h (fun e1 h => ?_) (fun e1 h => ?_)
    · refine lv_tableIn (tgt := 72) hx hb dX12_one_1 (by omega) (by omega) (by rw [e1]; rfl) (by decide) ?_
      refine lv_lload_n hx hb dX12_one_72 rfl (lv_at hl 1 rfl) ?_
      refine lv_lload_n hx hb dX12_one_73 rfl (lv_at hl 2 rfl) ?_
      refine r_lsub hx hb dX12_one_74 h (fun z4 h => ?_)
      exact r_lret hx hb hr hlocks hP hS dX12_one_75 h
    · refine sw (c := zl0.toInt = 4) h (fun e2 h => ?_) (fun e2 h => ?_)
      · refine lv_tableIn (tgt := 76) hx hb dX12_one_1 (by omega) (by omega) (by rw [e2]; rfl) (by decide) ?_
        refine lv_lload_n hx hb dX12_one_76 rfl (lv_at hl 1 rfl) ?_
        refine lv_lload_n hx hb dX12_one_77 rfl (lv_at hl 2 rfl) ?_
        refine r_lmul hx hb dX12_one_78 h (fun z6 h => ?_)
        exact r_lret hx hb hr hlocks hP hS dX12_one_79 h
      · refine sw (c := zl0.toInt = 5) h (fun e3 h => ?_) (fun e3 h => ?_)
        · refine lv_tableIn (tgt := 80) hx hb dX12_one_1 (by omega) (by omega) (by rw [e3]; rfl) (by decide) ?_
          refine lv_lload_n hx hb dX12_one_80 rfl (lv_at hl 2 rfl) ?_
          refine r_lconst hx hb dX12_one_81 (v := 0) (by decide) h (fun z8 h => ?_)
          refine r_lcmp hx hb dX12_one_82 h (fun z10 h => ?_)
          refine r_if_ne (tgt := 90) hx hb dX12_one_83 (by decide) h (fun h => ?_) (fun h => ?_)
          · refine lv_lload_n hx hb dX12_one_90 rfl (lv_at hl 1 rfl) ?_
            refine lv_lload_n hx hb dX12_one_91 rfl (lv_at hl 2 rfl) ?_
            refine r_ldiv hx hb dX12_one_92 h (fun z12 h => ?_)
            exact r_lret hx hb hr hlocks hP hS dX12_one_93 h
          · refine r_lconst hx hb dX12_one_86 (v := 0) (by decide) h (fun z14 h => ?_)
            refine lv_goto (tgt := 93) hx hb dX12_one_87 (by decide) ?_
            exact r_lret hx hb hr hlocks hP hS dX12_one_93 h
        · refine sw (c := zl0.toInt = 6) h (fun e4 h => ?_) (fun e4 h => ?_)
          · refine lv_tableIn (tgt := 108) hx hb dX12_one_1 (by omega) (by omega) (by rw [e4]; rfl) (by decide) ?_
            refine lv_lload_n hx hb dX12_one_108 rfl (lv_at hl 1 rfl) ?_
            refine lv_lload_n hx hb dX12_one_109 rfl (lv_at hl 2 rfl) ?_
            refine r_lcmp hx hb dX12_one_110 h (fun z16 h => ?_)
            refine r_if_ge (tgt := 118) hx hb dX12_one_111 (by decide) h (fun h => ?_) (fun h => ?_)
            · refine r_lconst hx hb dX12_one_118 (v := 0) (by decide) h (fun z18 h => ?_)
              exact r_lret hx hb hr hlocks hP hS dX12_one_119 h
            · refine r_lconst hx hb dX12_one_114 (v := 1) (by decide) h (fun z20 h => ?_)
              refine lv_goto (tgt := 119) hx hb dX12_one_115 (by decide) ?_
              exact r_lret hx hb hr hlocks hP hS dX12_one_119 h
          · refine sw (c := zl0.toInt = 7) h (fun e5 h => ?_) (fun e5 h => ?_)
            · refine lv_tableIn (tgt := 120) hx hb dX12_one_1 (by omega) (by omega) (by rw [e5]; rfl) (by decide) ?_
              refine lv_lload_n hx hb dX12_one_120 rfl (lv_at hl 1 rfl) ?_
              refine lv_lload_n hx hb dX12_one_121 rfl (lv_at hl 2 rfl) ?_
              refine r_lcmp hx hb dX12_one_122 h (fun z22 h => ?_)
              refine r_if_gt (tgt := 130) hx hb dX12_one_123 (by decide) h (fun h => ?_) (fun h => ?_)
              · refine r_lconst hx hb dX12_one_130 (v := 0) (by decide) h (fun z24 h => ?_)
                exact r_lret hx hb hr hlocks hP hS dX12_one_131 h
              · refine r_lconst hx hb dX12_one_126 (v := 1) (by decide) h (fun z26 h => ?_)
                refine lv_goto (tgt := 131) hx hb dX12_one_127 (by decide) ?_
                exact r_lret hx hb hr hlocks hP hS dX12_one_131 h
            · refine sw (c := zl0.toInt = 8) h (fun e6 h => ?_) (fun e6 h => ?_)
              · refine lv_tableIn (tgt := 132) hx hb dX12_one_1 (by omega) (by omega) (by rw [e6]; rfl) (by decide) ?_
                refine lv_lload_n hx hb dX12_one_132 rfl (lv_at hl 1 rfl) ?_
                refine lv_lload_n hx hb dX12_one_133 rfl (lv_at hl 2 rfl) ?_
                refine r_lcmp hx hb dX12_one_134 h (fun z28 h => ?_)
                refine r_if_ne (tgt := 142) hx hb dX12_one_135 (by decide) h (fun h => ?_) (fun h => ?_)
                · refine r_lconst hx hb dX12_one_142 (v := 0) (by decide) h (fun z30 h => ?_)
                  exact r_lret hx hb hr hlocks hP hS dX12_one_143 h
                · refine r_lconst hx hb dX12_one_138 (v := 1) (by decide) h (fun z32 h => ?_)
                  refine lv_goto (tgt := 143) hx hb dX12_one_139 (by decide) ?_
                  exact r_lret hx hb hr hlocks hP hS dX12_one_143 h
              · refine sw (c := zl0.toInt = 9) h (fun e7 h => ?_) (fun e7 h => ?_)
                · refine lv_tableIn (tgt := 144) hx hb dX12_one_1 (by omega) (by omega) (by rw [e7]; rfl) (by decide) ?_
                  refine lv_lload_n hx hb dX12_one_144 rfl (lv_at hl 1 rfl) ?_
                  refine lv_lload_n hx hb dX12_one_145 rfl (lv_at hl 2 rfl) ?_
                  refine r_lcmp hx hb dX12_one_146 h (fun z34 h => ?_)
                  refine r_if_lt (tgt := 154) hx hb dX12_one_147 (by decide) h (fun h => ?_) (fun h => ?_)
                  · refine r_lconst hx hb dX12_one_154 (v := 0) (by decide) h (fun z36 h => ?_)
                    exact r_lret hx hb hr hlocks hP hS dX12_one_155 h
                  · refine r_lconst hx hb dX12_one_150 (v := 1) (by decide) h (fun z38 h => ?_)
                    refine lv_goto (tgt := 155) hx hb dX12_one_151 (by decide) ?_
                    exact r_lret hx hb hr hlocks hP hS dX12_one_155 h
                · refine sw (c := zl0.toInt = 10) h (fun e8 h => ?_) (fun e8 h => ?_)
                  · refine lv_tableIn (tgt := 156) hx hb dX12_one_1 (by omega) (by omega) (by rw [e8]; rfl) (by decide) ?_
                    refine lv_lload_n hx hb dX12_one_156 rfl (lv_at hl 1 rfl) ?_
                    refine lv_lload_n hx hb dX12_one_157 rfl (lv_at hl 2 rfl) ?_
                    refine r_lcmp hx hb dX12_one_158 h (fun z40 h => ?_)
                    refine r_if_le (tgt := 166) hx hb dX12_one_159 (by decide) h (fun h => ?_) (fun h => ?_)
                    · refine r_lconst hx hb dX12_one_166 (v := 0) (by decide) h (fun z42 h => ?_)
                      exact r_lret hx hb hr hlocks hP hS dX12_one_167 h
                    · refine r_lconst hx hb dX12_one_162 (v := 1) (by decide) h (fun z44 h => ?_)
                      refine lv_goto (tgt := 167) hx hb dX12_one_163 (by decide) ?_
                      exact r_lret hx hb hr hlocks hP hS dX12_one_167 h
                  · refine sw (c := zl0.toInt = 11) h (fun e9 h => ?_) (fun e9 h => ?_)
                    · refine lv_tableIn (tgt := 172) hx hb dX12_one_1 (by omega) (by omega) (by rw [e9]; rfl) (by decide) ?_
                      refine lv_lload_n hx hb dX12_one_172 rfl (lv_at hl 1 rfl) ?_
                      refine lv_lload_n hx hb dX12_one_173 rfl (lv_at hl 2 rfl) ?_
                      refine r_lor hx hb dX12_one_174 h (fun z46 h => ?_)
                      exact r_lret hx hb hr hlocks hP hS dX12_one_175 h
                    · refine sw (c := zl0.toInt = 12) h (fun e10 h => ?_) (fun e10 h => ?_)
                      · refine lv_tableIn (tgt := 168) hx hb dX12_one_1 (by omega) (by omega) (by rw [e10]; rfl) (by decide) ?_
                        refine lv_lload_n hx hb dX12_one_168 rfl (lv_at hl 1 rfl) ?_
                        refine lv_lload_n hx hb dX12_one_169 rfl (lv_at hl 2 rfl) ?_
                        refine r_land hx hb dX12_one_170 h (fun z48 h => ?_)
                        exact r_lret hx hb hr hlocks hP hS dX12_one_171 h
                      · refine sw (c := zl0.toInt = 13) h (fun e11 h => ?_) (fun e11 h => ?_)
                        · refine lv_tableIn (tgt := 172) hx hb dX12_one_1 (by omega) (by omega) (by rw [e11]; rfl) (by decide) ?_
                          refine lv_lload_n hx hb dX12_one_172 rfl (lv_at hl 1 rfl) ?_
                          refine lv_lload_n hx hb dX12_one_173 rfl (lv_at hl 2 rfl) ?_
                          refine r_lor hx hb dX12_one_174 h (fun z50 h => ?_)
                          exact r_lret hx hb hr hlocks hP hS dX12_one_175 h
                        · refine sw (c := zl0.toInt = 14) h (fun e12 h => ?_) (fun e12 h => ?_)
                          · refine lv_tableIn (tgt := 94) hx hb dX12_one_1 (by omega) (by omega) (by rw [e12]; rfl) (by decide) ?_
                            refine lv_lload_n hx hb dX12_one_94 rfl (lv_at hl 2 rfl) ?_
                            refine r_lconst hx hb dX12_one_95 (v := 0) (by decide) h (fun z52 h => ?_)
                            refine r_lcmp hx hb dX12_one_96 h (fun z54 h => ?_)
                            refine r_if_ne (tgt := 104) hx hb dX12_one_97 (by decide) h (fun h => ?_) (fun h => ?_)
                            · refine lv_lload_n hx hb dX12_one_104 rfl (lv_at hl 1 rfl) ?_
                              refine lv_lload_n hx hb dX12_one_105 rfl (lv_at hl 2 rfl) ?_
                              refine r_lrem hx hb dX12_one_106 h (fun z56 h => ?_)
                              exact r_lret hx hb hr hlocks hP hS dX12_one_107 h
                            · refine r_lconst hx hb dX12_one_100 (v := 0) (by decide) h (fun z58 h => ?_)
                              refine lv_goto (tgt := 107) hx hb dX12_one_101 (by decide) ?_
                              exact r_lret hx hb hr hlocks hP hS dX12_one_107 h
                          · refine lv_tableOut (tgt := 172) hx hb dX12_one_1 (by omega) (by decide) ?_
                            refine lv_lload_n hx hb dX12_one_172 rfl (lv_at hl 1 rfl) ?_
                            refine lv_lload_n hx hb dX12_one_173 rfl (lv_at hl 2 rfl) ?_
                            refine r_lor hx hb dX12_one_174 h (fun z60 h => ?_)
                            exact r_lret hx hb hr hlocks hP hS dX12_one_175 h
/-! TurningMilkModel.reckons(III)J -/
abbrev RM_X12_reckons : Room := { frames := 2, cells := 0, slots := 0, locals := 64 }
def cw_X12_reckons : Cond := Cond.code yX12_reckons cX12_reckons 11 (Option.some FieldType.long)
theorem hd_X12_reckons : yX12_reckons.cls ≠ "java/lang/invoke/MethodHandle" ∧ yX12_reckons.cls ≠ "java/lang/invoke/VarHandle" ∧ (parseMethodDescriptor yX12_reckons.desc).map (fun d => d.parameters.length) = some 3 := by decide +kernel
theorem dX12_reckons_0 : decode cX12_reckons 0 = .ok (.aload_n 0, 1) := by decide +kernel
theorem dX12_reckons_1 : decode cX12_reckons 1 = .ok (.iconst 0, 1) := by decide +kernel
theorem dX12_reckons_2 : decode cX12_reckons 2 = .ok (.putfield 269, 3) := by decide +kernel
theorem dX12_reckons_5 : decode cX12_reckons 5 = .ok (.iload_n 2, 1) := by decide +kernel
theorem dX12_reckons_6 : decode cX12_reckons 6 = .ok (.istore 4, 2) := by decide +kernel
theorem dX12_reckons_8 : decode cX12_reckons 8 = .ok (.iload 4, 2) := by decide +kernel
theorem dX12_reckons_10 : decode cX12_reckons 10 = .ok (.iload_n 3, 1) := by decide +kernel
theorem dX12_reckons_11 : decode cX12_reckons 11 = .ok (.if_icmp .ge 124, 3) := by decide +kernel
theorem dX12_reckons_14 : decode cX12_reckons 14 = .ok (.aload_n 0, 1) := by decide +kernel
theorem dX12_reckons_15 : decode cX12_reckons 15 = .ok (.getfield 13, 3) := by decide +kernel
theorem dX12_reckons_18 : decode cX12_reckons 18 = .ok (.sipush 400, 3) := by decide +kernel
theorem dX12_reckons_21 : decode cX12_reckons 21 = .ok (.iload_n 1, 1) := by decide +kernel
theorem dX12_reckons_22 : decode cX12_reckons 22 = .ok (.imul, 1) := by decide +kernel
theorem dX12_reckons_23 : decode cX12_reckons 23 = .ok (.iload 4, 2) := by decide +kernel
theorem dX12_reckons_25 : decode cX12_reckons 25 = .ok (.iadd, 1) := by decide +kernel
theorem dX12_reckons_26 : decode cX12_reckons 26 = .ok (.iaload, 1) := by decide +kernel
theorem dX12_reckons_27 : decode cX12_reckons 27 = .ok (.bipush 15, 2) := by decide +kernel
theorem dX12_reckons_29 : decode cX12_reckons 29 = .ok (.iand, 1) := by decide +kernel
theorem dX12_reckons_30 : decode cX12_reckons 30 = .ok (.istore 5, 2) := by decide +kernel
theorem dX12_reckons_32 : decode cX12_reckons 32 = .ok (.aload_n 0, 1) := by decide +kernel
theorem dX12_reckons_33 : decode cX12_reckons 33 = .ok (.getfield 13, 3) := by decide +kernel
theorem dX12_reckons_36 : decode cX12_reckons 36 = .ok (.sipush 400, 3) := by decide +kernel
theorem dX12_reckons_39 : decode cX12_reckons 39 = .ok (.iload_n 1, 1) := by decide +kernel
theorem dX12_reckons_40 : decode cX12_reckons 40 = .ok (.imul, 1) := by decide +kernel
theorem dX12_reckons_41 : decode cX12_reckons 41 = .ok (.iload 4, 2) := by decide +kernel
theorem dX12_reckons_43 : decode cX12_reckons 43 = .ok (.iadd, 1) := by decide +kernel
theorem dX12_reckons_44 : decode cX12_reckons 44 = .ok (.iaload, 1) := by decide +kernel
theorem dX12_reckons_45 : decode cX12_reckons 45 = .ok (.iconst 4, 1) := by decide +kernel
theorem dX12_reckons_46 : decode cX12_reckons 46 = .ok (.ishr, 1) := by decide +kernel
theorem dX12_reckons_47 : decode cX12_reckons 47 = .ok (.istore 6, 2) := by decide +kernel
theorem dX12_reckons_49 : decode cX12_reckons 49 = .ok (.iload 5, 2) := by decide +kernel
theorem dX12_reckons_51 : decode cX12_reckons 51 = .ok (.ifCond .ne 13, 3) := by decide +kernel
theorem dX12_reckons_54 : decode cX12_reckons 54 = .ok (.aload_n 0, 1) := by decide +kernel
theorem dX12_reckons_55 : decode cX12_reckons 55 = .ok (.iload 6, 2) := by decide +kernel
theorem dX12_reckons_57 : decode cX12_reckons 57 = .ok (.i2l, 1) := by decide +kernel
theorem dX12_reckons_58 : decode cX12_reckons 58 = .ok (.invokevirtual 272, 3) := by decide +kernel
theorem dX12_reckons_61 : decode cX12_reckons 61 = .ok (.goto 68, 3) := by decide +kernel
theorem dX12_reckons_64 : decode cX12_reckons 64 = .ok (.iload 5, 2) := by decide +kernel
theorem dX12_reckons_66 : decode cX12_reckons 66 = .ok (.iconst 1, 1) := by decide +kernel
theorem dX12_reckons_67 : decode cX12_reckons 67 = .ok (.if_icmp .ne 17, 3) := by decide +kernel
theorem dX12_reckons_70 : decode cX12_reckons 70 = .ok (.aload_n 0, 1) := by decide +kernel
theorem dX12_reckons_71 : decode cX12_reckons 71 = .ok (.aload_n 0, 1) := by decide +kernel
theorem dX12_reckons_72 : decode cX12_reckons 72 = .ok (.getfield 36, 3) := by decide +kernel
theorem dX12_reckons_75 : decode cX12_reckons 75 = .ok (.iload 6, 2) := by decide +kernel
theorem dX12_reckons_77 : decode cX12_reckons 77 = .ok (.laload, 1) := by decide +kernel
theorem dX12_reckons_78 : decode cX12_reckons 78 = .ok (.invokevirtual 272, 3) := by decide +kernel
theorem dX12_reckons_81 : decode cX12_reckons 81 = .ok (.goto 48, 3) := by decide +kernel
theorem dX12_reckons_84 : decode cX12_reckons 84 = .ok (.iload 5, 2) := by decide +kernel
theorem dX12_reckons_86 : decode cX12_reckons 86 = .ok (.bipush 11, 2) := by decide +kernel
theorem dX12_reckons_88 : decode cX12_reckons 88 = .ok (.if_icmp .ne 16, 3) := by decide +kernel
theorem dX12_reckons_91 : decode cX12_reckons 91 = .ok (.aload_n 0, 1) := by decide +kernel
theorem dX12_reckons_92 : decode cX12_reckons 92 = .ok (.lconst 1, 1) := by decide +kernel
theorem dX12_reckons_93 : decode cX12_reckons 93 = .ok (.aload_n 0, 1) := by decide +kernel
theorem dX12_reckons_94 : decode cX12_reckons 94 = .ok (.invokevirtual 276, 3) := by decide +kernel
theorem dX12_reckons_97 : decode cX12_reckons 97 = .ok (.lsub, 1) := by decide +kernel
theorem dX12_reckons_98 : decode cX12_reckons 98 = .ok (.invokevirtual 272, 3) := by decide +kernel
theorem dX12_reckons_101 : decode cX12_reckons 101 = .ok (.goto 28, 3) := by decide +kernel
theorem dX12_reckons_104 : decode cX12_reckons 104 = .ok (.aload_n 0, 1) := by decide +kernel
theorem dX12_reckons_105 : decode cX12_reckons 105 = .ok (.invokevirtual 276, 3) := by decide +kernel
theorem dX12_reckons_108 : decode cX12_reckons 108 = .ok (.lstore 7, 2) := by decide +kernel
theorem dX12_reckons_110 : decode cX12_reckons 110 = .ok (.aload_n 0, 1) := by decide +kernel
theorem dX12_reckons_111 : decode cX12_reckons 111 = .ok (.invokevirtual 276, 3) := by decide +kernel
theorem dX12_reckons_114 : decode cX12_reckons 114 = .ok (.lstore 9, 2) := by decide +kernel
theorem dX12_reckons_116 : decode cX12_reckons 116 = .ok (.aload_n 0, 1) := by decide +kernel
theorem dX12_reckons_117 : decode cX12_reckons 117 = .ok (.iload 5, 2) := by decide +kernel
theorem dX12_reckons_119 : decode cX12_reckons 119 = .ok (.lload 9, 2) := by decide +kernel
theorem dX12_reckons_121 : decode cX12_reckons 121 = .ok (.lload 7, 2) := by decide +kernel
theorem dX12_reckons_123 : decode cX12_reckons 123 = .ok (.invokestatic 280, 3) := by decide +kernel
theorem dX12_reckons_126 : decode cX12_reckons 126 = .ok (.invokevirtual 272, 3) := by decide +kernel
theorem dX12_reckons_129 : decode cX12_reckons 129 = .ok (.iinc 4 1, 3) := by decide +kernel
theorem dX12_reckons_132 : decode cX12_reckons 132 = .ok (.goto (-124), 3) := by decide +kernel
theorem dX12_reckons_135 : decode cX12_reckons 135 = .ok (.aload_n 0, 1) := by decide +kernel
theorem dX12_reckons_136 : decode cX12_reckons 136 = .ok (.invokevirtual 276, 3) := by decide +kernel
theorem dX12_reckons_139 : decode cX12_reckons 139 = .ok (.lreturn, 1) := by decide +kernel
def wp_X12_reckons_129 (S : Sh) (k8 : Int → Int → Int → Int → Mm → Prop) (post : Int → Mm → Prop) (u0 : Int) (u1 : Int) (u3 : Int) (u4 : Int) (M : Mm) : Prop := wA u4 1 fun v1 => k8 u0 u1 u3 v1 M
def wp_X12_reckons_8 (S : Sh) (post : Int → Mm → Prop) : Nat → Int → Int → Int → Int → Mm → Prop
  | 0, _, _, _, _, _ => False
  | n + 1, u0, u1, u3, u4, M => wIf (u3 ≤ u4) (isK S u0 12 ∧ (wp_X12_pop S M u0 <| fun v4 M3 => post v4 M3)) (wGetR S M u0 12 3 fun v6 => wC 400 fun v8 => wM v8 u1 fun v10 => wA v10 u4 fun v12 => wLd S M v6 14 v12 fun v14 => wC 15 fun v16 => wO iAnd v14 v16 fun v18 => wGetR S M u0 12 3 fun v20 => wC 400 fun v22 => wM v22 u1 fun v24 => wA v24 u4 fun v26 => wLd S M v20 14 v26 fun v28 => wC 4 fun v30 => wO iShr v28 v30 fun v32 => wIf (¬ v18 = 0) (wC 1 fun v34 => wIf (¬ v18 = v34) (wC 11 fun v36 => wIf (¬ v18 = v36) (isK S u0 12 ∧ (wp_X12_pop S M u0 <| fun v39 M38 => isK S u0 12 ∧ (wp_X12_pop S M38 u0 <| fun v42 M41 => wp_X12_one S M41 v18 v42 v39 <| fun v45 M44 => isK S u0 12 ∧ (wp_X12_push S M44 u0 v45 <| fun M47 => wp_X12_reckons_129 S (fun a0 a1 a2 a3 M => wp_X12_reckons_8 S post n a0 a1 a2 a3 M) post u0 u1 u3 u4 M47)))) (wC 1 fun v48 => isK S u0 12 ∧ (wp_X12_pop S M u0 <| fun v51 M50 => wLS v48 v51 fun v53 => isK S u0 12 ∧ (wp_X12_push S M50 u0 v53 <| fun M55 => wp_X12_reckons_129 S (fun a0 a1 a2 a3 M => wp_X12_reckons_8 S post n a0 a1 a2 a3 M) post u0 u1 u3 u4 M55)))) (wGetR S M u0 12 19 fun v56 => wLd S M v56 16 v32 fun v58 => isK S u0 12 ∧ (wp_X12_push S M u0 v58 <| fun M60 => wp_X12_reckons_129 S (fun a0 a1 a2 a3 M => wp_X12_reckons_8 S post n a0 a1 a2 a3 M) post u0 u1 u3 u4 M60))) (wC v32 fun v61 => isK S u0 12 ∧ (wp_X12_push S M u0 v61 <| fun M63 => wp_X12_reckons_129 S (fun a0 a1 a2 a3 M => wp_X12_reckons_8 S post n a0 a1 a2 a3 M) post u0 u1 u3 u4 M63)))
def wp_X12_reckons (S : Sh) (M : Mm) (u0 : Int) (u1 : Int) (u2 : Int) (u3 : Int) (post : Int → Mm → Prop) : Prop := wC 0 fun v64 => wPut S M u0 12 18 v64 fun M66 => ∃ n9 : Nat, wp_X12_reckons_8 S post n9 u0 u1 u3 u2 M66
set_option maxHeartbeats 4000000 in
set_option maxRecDepth 100000 in
theorem t_X12_reckons_129 {p : Program} {l : Launch} {e : Env} {s : State} {m : MethodId} {args : Array Value} {below : List Frame} {meth : Method} {c : Code} {D : va_G} {G : Gt} {S : Sh} {post : Int → Mm → Prop} {k8 : Int → Int → Int → Int → Mm → Prop} (C : Cx p s m args meth c D G cX12_reckons 11 (some .long) (cw_X12_reckons :: gw) RX12) (hk8 : ∀ (y0 : Int) (y1 : Int32) (y3 : Int32) (y4 : Int32) (M : Mm) (H : Heap) (locs : List Loc) (ls : Array Slot), Wd D G S M H → va_S (aG G) s.heap H locs → lv_has ls 11 [(0, .ref (adr G y0)), (1, .int y1), (3, .int y3), (4, .int y4)] → k8 y0 y1.toInt y3.toInt y4.toInt M → W p l e RM_X12_reckons s m args below meth c H locs 0 0 (MQ below (QL D G S post) args s 0 0 (aG G)) (F0 m 8 ls [])) : ∀ (xl0 : Int) (zl1 : Int32) (zl3 : Int32) (zl4 : Int32) (M : Mm) (H : Heap) (locs : List Loc) (ls : Array Slot), Wd D G S M H → va_S (aG G) s.heap H locs → lv_has ls 11 [(0, .ref (adr G xl0)), (1, .int zl1), (3, .int zl3), (4, .int zl4)] → wp_X12_reckons_129 S k8 post xl0 zl1.toInt zl3.toInt zl4.toInt  M → W p l e RM_X12_reckons s m args below meth c H locs 0 0 (MQ below (QL D G S post) args s 0 0 (aG G)) (F0 m 129 ls []) := by
  obtain ⟨hx, hb, hr, hlocks, hml, hown, hts, hK⟩ := id C
  intro xl0 zl1 zl3 zl4 M H locs ls hP hS hl h
  unfold wp_X12_reckons_129 at h
  refine r_iinc hx hb (fun z2 => [(4, .int z2), (0, .ref (adr G xl0)), (1, .int zl1), (3, .int zl3)]) dX12_reckons_129 (by decide) hl (k := 3) rfl (by decide) (fun _ => rfl) h (fun z2 ls hl h => ?_)
  refine lv_goto (tgt := 8) hx hb dX12_reckons_132 (by decide) ?_
  exact hk8 xl0 zl1 zl3 z2 _ _ _ _ hP hS (lv_sub hl [1, 2, 3, 0] rfl) h
set_option maxHeartbeats 4000000 in
set_option maxRecDepth 100000 in
theorem t_X12_reckons_8 {p : Program} {l : Launch} {e : Env} {s : State} {m : MethodId} {args : Array Value} {below : List Frame} {meth : Method} {c : Code} {D : va_G} {G : Gt} {S : Sh} {post : Int → Mm → Prop} (C : Cx p s m args meth c D G cX12_reckons 11 (some .long) (cw_X12_reckons :: gw) RX12) : ∀ (n : Nat) (xl0 : Int) (zl1 : Int32) (zl3 : Int32) (zl4 : Int32) (M : Mm) (H : Heap) (locs : List Loc) (ls : Array Slot), Wd D G S M H → va_S (aG G) s.heap H locs → lv_has ls 11 [(0, .ref (adr G xl0)), (1, .int zl1), (3, .int zl3), (4, .int zl4)] → wp_X12_reckons_8 S post n xl0 zl1.toInt zl3.toInt zl4.toInt  M → W p l e RM_X12_reckons s m args below meth c H locs 0 0 (MQ below (QL D G S post) args s 0 0 (aG G)) (F0 m 8 ls []) := by
  obtain ⟨hx, hb, hr, hlocks, hml, hown, hts, hK⟩ := id C
  intro n
  induction n with
  | zero => intro xl0 zl1 zl3 zl4 M H locs ls hP hS hl h; exact h.elim
  | succ n ih =>
    intro xl0 zl1 zl3 zl4 M H locs ls hP hS hl h
    unfold wp_X12_reckons_8 at h
    refine lv_iload hx hb dX12_reckons_8 (lv_at hl 3 rfl) ?_
    refine lv_iload_n hx hb dX12_reckons_10 rfl (lv_at hl 2 rfl) ?_
    refine r_icmp_ge (tgt := 135) hx hb dX12_reckons_11 (by decide) h (fun h => ?_) (fun h => ?_)
    · refine lv_aload_n hx hb dX12_reckons_135 rfl (lv_at hl 0 rfl) ?_
      refine q_Vl hx hb hml hown hts hK hP hS (c_X12_pop l D G S _ xl0 _ h.2) ⟨callB_of 0 hts (gw_good kw_1737) rfl rfl rfl (hts _ (List.mem_cons_of_mem _ kw_14)) (hts _ (List.mem_cons_of_mem _ kw_1734)) hd_X12_pop ⟨Nat.le_of_ble_eq_true rfl, Nat.le_of_ble_eq_true rfl⟩, (hts _ (List.mem_cons_of_mem _ kw_1736)), (hts _ (List.mem_cons_of_mem _ kp_105))⟩ h.1 (ci := 12) rfl (by decide) rfl hl.1 rfl (lv_room (Nat.le_of_ble_eq_true rfl)) dX12_reckons_136 ⟨Nat.zero_le _, Nat.zero_le _⟩ (fun z5 M3 H locs h hP hS => ?_)
      exact r_lret hx hb hr hlocks hP hS dX12_reckons_139 h
    · refine lv_aload_n hx hb dX12_reckons_14 rfl (lv_at hl 0 rfl) ?_
      refine r_getr (C := RX12) (T := TX12) (N := 38) hx hb hts (fun w h => List.mem_cons_of_mem _ (iX12 w h)) hown hK hP rfl (by decide) rfl 3 (by decide) (hts _ (List.mem_cons_of_mem _ kw_1337)) (fun _ h9 => h9) dX12_reckons_15 (by decide) h (fun x7 h => ?_)
      refine r_sipush hx hb dX12_reckons_18 (by decide) h (fun z9 h => ?_)
      refine lv_iload_n hx hb dX12_reckons_21 rfl (lv_at hl 1 rfl) ?_
      refine r_imul hx hb dX12_reckons_22 h (fun z11 h => ?_)
      refine lv_iload hx hb dX12_reckons_23 (lv_at hl 3 rfl) ?_
      refine r_iadd hx hb dX12_reckons_25 h (fun z13 h => ?_)
      refine r_iald hx hb hK hP dX12_reckons_26 h (fun z15 h => ?_)
      refine r_bipush hx hb dX12_reckons_27 (by decide) h (fun z17 h => ?_)
      refine r_iand hx hb dX12_reckons_29 h (fun z19 h => ?_)
      refine lv_istore (lv' := [(5, .int z19), (0, .ref (adr G xl0)), (1, .int zl1), (3, .int zl3), (4, .int zl4)]) hx hb dX12_reckons_30 hl (by decide) rfl (fun ls hl => ?_)
      refine lv_aload_n hx hb dX12_reckons_32 rfl (lv_at hl 1 rfl) ?_
      refine r_getr (C := RX12) (T := TX12) (N := 38) hx hb hts (fun w h => List.mem_cons_of_mem _ (iX12 w h)) hown hK hP rfl (by decide) rfl 3 (by decide) (hts _ (List.mem_cons_of_mem _ kw_1337)) (fun _ h9 => h9) dX12_reckons_33 (by decide) h (fun x21 h => ?_)
      refine r_sipush hx hb dX12_reckons_36 (by decide) h (fun z23 h => ?_)
      refine lv_iload_n hx hb dX12_reckons_39 rfl (lv_at hl 2 rfl) ?_
      refine r_imul hx hb dX12_reckons_40 h (fun z25 h => ?_)
      refine lv_iload hx hb dX12_reckons_41 (lv_at hl 4 rfl) ?_
      refine r_iadd hx hb dX12_reckons_43 h (fun z27 h => ?_)
      refine r_iald hx hb hK hP dX12_reckons_44 h (fun z29 h => ?_)
      refine r_iconst hx hb dX12_reckons_45 (by decide) h (fun z31 h => ?_)
      refine r_ishr hx hb dX12_reckons_46 h (fun z33 h => ?_)
      refine lv_istore (lv' := [(6, .int z33), (5, .int z19), (0, .ref (adr G xl0)), (1, .int zl1), (3, .int zl3), (4, .int zl4)]) hx hb dX12_reckons_47 hl (by decide) rfl (fun ls hl => ?_)
      refine lv_iload hx hb dX12_reckons_49 (lv_at hl 1 rfl) ?_
      refine r_if_ne (tgt := 64) hx hb dX12_reckons_51 (by decide) h (fun h => ?_) (fun h => ?_)
      · refine lv_iload hx hb dX12_reckons_64 (lv_at hl 1 rfl) ?_
        refine r_iconst hx hb dX12_reckons_66 (by decide) h (fun z35 h => ?_)
        refine r_icmp_ne (tgt := 84) hx hb dX12_reckons_67 (by decide) h (fun h => ?_) (fun h => ?_)
        · refine lv_iload hx hb dX12_reckons_84 (lv_at hl 1 rfl) ?_
          refine r_bipush hx hb dX12_reckons_86 (by decide) h (fun z37 h => ?_)
          refine r_icmp_ne (tgt := 104) hx hb dX12_reckons_88 (by decide) h (fun h => ?_) (fun h => ?_)
          · refine lv_aload_n hx hb dX12_reckons_104 rfl (lv_at hl 2 rfl) ?_
            refine q_Vl hx hb hml hown hts hK hP hS (c_X12_pop l D G S _ xl0 _ h.2) ⟨callB_of 0 hts (gw_good kw_1737) rfl rfl rfl (hts _ (List.mem_cons_of_mem _ kw_14)) (hts _ (List.mem_cons_of_mem _ kw_1734)) hd_X12_pop ⟨Nat.le_of_ble_eq_true rfl, Nat.le_of_ble_eq_true rfl⟩, (hts _ (List.mem_cons_of_mem _ kw_1736)), (hts _ (List.mem_cons_of_mem _ kp_105))⟩ h.1 (ci := 12) rfl (by decide) rfl hl.1 rfl (lv_room (Nat.le_of_ble_eq_true rfl)) dX12_reckons_105 ⟨Nat.zero_le _, Nat.zero_le _⟩ (fun z40 M38 H locs h hP hS => ?_)
            refine lv_lstore (lv' := [(7, .long z40), (6, .int z33), (5, .int z19), (0, .ref (adr G xl0)), (1, .int zl1), (3, .int zl3), (4, .int zl4)]) hx hb dX12_reckons_108 hl (by decide) rfl (fun ls hl => ?_)
            refine lv_aload_n hx hb dX12_reckons_110 rfl (lv_at hl 3 rfl) ?_
            refine q_Vl hx hb hml hown hts hK hP hS (c_X12_pop l D G S _ xl0 _ h.2) ⟨callB_of 0 hts (gw_good kw_1737) rfl rfl rfl (hts _ (List.mem_cons_of_mem _ kw_14)) (hts _ (List.mem_cons_of_mem _ kw_1734)) hd_X12_pop ⟨Nat.le_of_ble_eq_true rfl, Nat.le_of_ble_eq_true rfl⟩, (hts _ (List.mem_cons_of_mem _ kw_1736)), (hts _ (List.mem_cons_of_mem _ kp_105))⟩ h.1 (ci := 12) rfl (by decide) rfl hl.1 rfl (lv_room (Nat.le_of_ble_eq_true rfl)) dX12_reckons_111 ⟨Nat.zero_le _, Nat.zero_le _⟩ (fun z43 M41 H locs h hP hS => ?_)
            refine lv_lstore (lv' := [(9, .long z43), (7, .long z40), (6, .int z33), (5, .int z19), (0, .ref (adr G xl0)), (1, .int zl1), (3, .int zl3), (4, .int zl4)]) hx hb dX12_reckons_114 hl (by decide) rfl (fun ls hl => ?_)
            refine lv_aload_n hx hb dX12_reckons_116 rfl (lv_at hl 4 rfl) ?_
            refine lv_iload hx hb dX12_reckons_117 (lv_at hl 3 rfl) ?_
            refine lv_lload hx hb dX12_reckons_119 (lv_at hl 0 rfl) ?_
            refine lv_lload hx hb dX12_reckons_121 (lv_at hl 1 rfl) ?_
            refine q_Sl hx hb hml hown hts hK hP hS (c_X12_one l D G S _ z19 z43 z40 _ h) ⟨callB_of 3 hts (gw_good kw_1740) rfl rfl rfl (hts _ (List.mem_cons_of_mem _ kw_14)) (hts _ (List.mem_cons_of_mem _ kw_1738)) hd_X12_one ⟨Nat.le_of_ble_eq_true rfl, Nat.le_of_ble_eq_true rfl⟩, (hts _ (List.mem_cons_of_mem _ kw_1739))⟩ rfl hl.1 rfl (lv_room (Nat.le_of_ble_eq_true rfl)) dX12_reckons_123 ⟨Nat.zero_le _, Nat.zero_le _⟩ (fun z46 M44 H locs h hP hS => ?_)
            refine q_Vv hx hb hml hown hts hK hP hS (c_X12_push l D G S _ xl0 z46 _ h.2) ⟨callB_of 1 hts (gw_good kw_1733) rfl rfl rfl (hts _ (List.mem_cons_of_mem _ kw_14)) (hts _ (List.mem_cons_of_mem _ kw_1730)) hd_X12_push ⟨Nat.le_of_ble_eq_true rfl, Nat.le_of_ble_eq_true rfl⟩, (hts _ (List.mem_cons_of_mem _ kw_1732)), (hts _ (List.mem_cons_of_mem _ kp_104))⟩ h.1 (ci := 12) rfl (by decide) rfl hl.1 rfl (lv_room (Nat.le_of_ble_eq_true rfl)) dX12_reckons_126 ⟨Nat.zero_le _, Nat.zero_le _⟩ (fun M47 H locs h hP hS => ?_)
            exact t_X12_reckons_129 C ih xl0 zl1 zl3 zl4 _ _ _ _ hP hS (lv_sub hl [4, 5, 6, 7] rfl) h
          · refine lv_aload_n hx hb dX12_reckons_91 rfl (lv_at hl 2 rfl) ?_
            refine r_lconst hx hb dX12_reckons_92 (v := 1) (by decide) h (fun z49 h => ?_)
            refine lv_aload_n hx hb dX12_reckons_93 rfl (lv_at hl 2 rfl) ?_
            refine q_Vl hx hb hml hown hts hK hP hS (c_X12_pop l D G S _ xl0 _ h.2) ⟨callB_of 0 hts (gw_good kw_1737) rfl rfl rfl (hts _ (List.mem_cons_of_mem _ kw_14)) (hts _ (List.mem_cons_of_mem _ kw_1734)) hd_X12_pop ⟨Nat.le_of_ble_eq_true rfl, Nat.le_of_ble_eq_true rfl⟩, (hts _ (List.mem_cons_of_mem _ kw_1736)), (hts _ (List.mem_cons_of_mem _ kp_105))⟩ h.1 (ci := 12) rfl (by decide) rfl hl.1 rfl (lv_room (Nat.le_of_ble_eq_true rfl)) dX12_reckons_94 ⟨Nat.zero_le _, Nat.zero_le _⟩ (fun z52 M50 H locs h hP hS => ?_)
            refine r_lsub hx hb dX12_reckons_97 h (fun z54 h => ?_)
            refine q_Vv hx hb hml hown hts hK hP hS (c_X12_push l D G S _ xl0 z54 _ h.2) ⟨callB_of 1 hts (gw_good kw_1733) rfl rfl rfl (hts _ (List.mem_cons_of_mem _ kw_14)) (hts _ (List.mem_cons_of_mem _ kw_1730)) hd_X12_push ⟨Nat.le_of_ble_eq_true rfl, Nat.le_of_ble_eq_true rfl⟩, (hts _ (List.mem_cons_of_mem _ kw_1732)), (hts _ (List.mem_cons_of_mem _ kp_104))⟩ h.1 (ci := 12) rfl (by decide) rfl hl.1 rfl (lv_room (Nat.le_of_ble_eq_true rfl)) dX12_reckons_98 ⟨Nat.zero_le _, Nat.zero_le _⟩ (fun M55 H locs h hP hS => ?_)
            refine lv_goto (tgt := 129) hx hb dX12_reckons_101 (by decide) ?_
            exact t_X12_reckons_129 C ih xl0 zl1 zl3 zl4 _ _ _ _ hP hS (lv_sub hl [2, 3, 4, 5] rfl) h
        · refine lv_aload_n hx hb dX12_reckons_70 rfl (lv_at hl 2 rfl) ?_
          refine lv_aload_n hx hb dX12_reckons_71 rfl (lv_at hl 2 rfl) ?_
          refine r_getr (C := RX12) (T := TX12) (N := 38) hx hb hts (fun w h => List.mem_cons_of_mem _ (iX12 w h)) hown hK hP rfl (by decide) rfl 19 (by decide) (hts _ (List.mem_cons_of_mem _ kw_1353)) (fun _ h9 => h9) dX12_reckons_72 (by decide) h (fun x57 h => ?_)
          refine lv_iload hx hb dX12_reckons_75 (lv_at hl 0 rfl) ?_
          refine r_lald hx hb hK hP dX12_reckons_77 h (fun z59 h => ?_)
          refine q_Vv hx hb hml hown hts hK hP hS (c_X12_push l D G S _ xl0 z59 _ h.2) ⟨callB_of 1 hts (gw_good kw_1733) rfl rfl rfl (hts _ (List.mem_cons_of_mem _ kw_14)) (hts _ (List.mem_cons_of_mem _ kw_1730)) hd_X12_push ⟨Nat.le_of_ble_eq_true rfl, Nat.le_of_ble_eq_true rfl⟩, (hts _ (List.mem_cons_of_mem _ kw_1732)), (hts _ (List.mem_cons_of_mem _ kp_104))⟩ h.1 (ci := 12) rfl (by decide) rfl hl.1 rfl (lv_room (Nat.le_of_ble_eq_true rfl)) dX12_reckons_78 ⟨Nat.zero_le _, Nat.zero_le _⟩ (fun M60 H locs h hP hS => ?_)
          refine lv_goto (tgt := 129) hx hb dX12_reckons_81 (by decide) ?_
          exact t_X12_reckons_129 C ih xl0 zl1 zl3 zl4 _ _ _ _ hP hS (lv_sub hl [2, 3, 4, 5] rfl) h
      · refine lv_aload_n hx hb dX12_reckons_54 rfl (lv_at hl 2 rfl) ?_
        refine lv_iload hx hb dX12_reckons_55 (lv_at hl 0 rfl) ?_
        refine r_i2l hx hb dX12_reckons_57 h (fun z62 h => ?_)
        refine q_Vv hx hb hml hown hts hK hP hS (c_X12_push l D G S _ xl0 z62 _ h.2) ⟨callB_of 1 hts (gw_good kw_1733) rfl rfl rfl (hts _ (List.mem_cons_of_mem _ kw_14)) (hts _ (List.mem_cons_of_mem _ kw_1730)) hd_X12_push ⟨Nat.le_of_ble_eq_true rfl, Nat.le_of_ble_eq_true rfl⟩, (hts _ (List.mem_cons_of_mem _ kw_1732)), (hts _ (List.mem_cons_of_mem _ kp_104))⟩ h.1 (ci := 12) rfl (by decide) rfl hl.1 rfl (lv_room (Nat.le_of_ble_eq_true rfl)) dX12_reckons_58 ⟨Nat.zero_le _, Nat.zero_le _⟩ (fun M63 H locs h hP hS => ?_)
        refine lv_goto (tgt := 129) hx hb dX12_reckons_61 (by decide) ?_
        exact t_X12_reckons_129 C ih xl0 zl1 zl3 zl4 _ _ _ _ hP hS (lv_sub hl [2, 3, 4, 5] rfl) h
set_option maxHeartbeats 4000000 in
set_option maxRecDepth 100000 in
theorem c_X12_reckons (l : Launch) (D : va_G) (G : Gt) (S : Sh) (M : Mm) (xl0 : Int) (zl1 : Int32) (zl2 : Int32) (zl3 : Int32) (post : Int → Mm → Prop) (h : wp_X12_reckons S M xl0 zl1.toInt zl2.toInt zl3.toInt post) : Met l yX12_reckons (cw_X12_reckons :: gw) RM_X12_reckons (va_Pc [.ref (adr G xl0), .int zl1, .int zl2, .int zl3] (fun U => KN D G U ∧ Wd D G S M U.heap)) (QL D G S post) 0 0 (aG G) := by
  refine Met.ofW (cc := cX12_reckons) (maxL := 11) (ret := (some .long)) (by decide) rfl ?_
  intro p e s m args below meth c s₁ B hml hv
  obtain ⟨rfl, hK, hP⟩ := hv
  have hx := B.exec
  have hb := B.bytes
  have hr := B.returns
  have hts := atoms_spec (ws := cw_X12_reckons :: gw) B.pre
  have hown : s.vm.findClass RX12 = some m.cls := findClass_of_methodNamed B.named
  have hlocks := B.notSynchronized
  have hS : va_S (aG G) s.heap s.heap [] := va_S.rf
  have C : Cx p s m ([.ref (adr G xl0), .int zl1, .int zl2, .int zl3] : List Value).toArray meth c D G cX12_reckons 11 (some .long) (cw_X12_reckons :: gw) RX12 := ⟨hx, hb, hr, hlocks, hml, hown, hts, hK⟩
  have hl := lv_entry ([.ref (adr G xl0), .int zl1, .int zl2, .int zl3]) (n := 11) (Nat.le_of_ble_eq_true rfl)
  rw [lg_entry_eq]
  generalize (lg_sl ([.ref (adr G xl0), .int zl1, .int zl2, .int zl3]) ++ List.replicate (11 - (lg_sl ([.ref (adr G xl0), .int zl1, .int zl2, .int zl3])).length) Slot.unset).toArray = ls at hl ⊢
  have hl : lv_has ls 11 [(0, .ref (adr G xl0)), (1, .int zl1), (2, .int zl2), (3, .int zl3)] := hl
  unfold wp_X12_reckons at h
  refine lv_aload_n hx hb dX12_reckons_0 rfl (lv_at hl 0 rfl) ?_
  refine r_iconst hx hb dX12_reckons_1 (by decide) h (fun z65 h => ?_)
  refine r_puti (C := RX12) (T := TX12) (N := 38) hx hb hts (fun w h => List.mem_cons_of_mem _ (iX12 w h)) hown hK hP tyX12 tyX12_ok nmX12 hS rfl (by decide) rfl 18 (by decide) (hts _ (List.mem_cons_of_mem _ kw_1352)) (fun _ h9 => h9) rfl (tyX12_ok 18 (by decide)) rfl rfl dX12_reckons_2 (by decide) h (fun M66 H locs h hP hS => ?_)
  refine lv_iload_n hx hb dX12_reckons_5 rfl (lv_at hl 2 rfl) ?_
  refine lv_istore (lv' := [(4, .int zl2), (0, .ref (adr G xl0)), (1, .int zl1), (2, .int zl2), (3, .int zl3)]) hx hb dX12_reckons_6 hl (by decide) rfl (fun ls hl => ?_)
  obtain ⟨n9, h⟩ := h
  exact t_X12_reckons_8 C n9 xl0 zl1 zl3 zl2 _ _ _ _ hP hS (lv_sub hl [1, 2, 4, 0] rfl) h
/-! TurningMilkModel.summedBy(I)J -/
abbrev RM_X12_summedBy : Room := { frames := 3, cells := 0, slots := 0, locals := 94 }
def cw_X12_summedBy : Cond := Cond.code yX12_summedBy cX12_summedBy 4 (Option.some FieldType.long)
theorem hd_X12_summedBy : yX12_summedBy.cls ≠ "java/lang/invoke/MethodHandle" ∧ yX12_summedBy.cls ≠ "java/lang/invoke/VarHandle" ∧ (parseMethodDescriptor yX12_summedBy.desc).map (fun d => d.parameters.length) = some 1 := by decide +kernel
theorem dX12_summedBy_0 : decode cX12_summedBy 0 = .ok (.iconst 0, 1) := by decide +kernel
theorem dX12_summedBy_1 : decode cX12_summedBy 1 = .ok (.istore_n 2, 1) := by decide +kernel
theorem dX12_summedBy_2 : decode cX12_summedBy 2 = .ok (.iload_n 2, 1) := by decide +kernel
theorem dX12_summedBy_3 : decode cX12_summedBy 3 = .ok (.aload_n 0, 1) := by decide +kernel
theorem dX12_summedBy_4 : decode cX12_summedBy 4 = .ok (.getfield 23, 3) := by decide +kernel
theorem dX12_summedBy_7 : decode cX12_summedBy 7 = .ok (.iload_n 1, 1) := by decide +kernel
theorem dX12_summedBy_8 : decode cX12_summedBy 8 = .ok (.iaload, 1) := by decide +kernel
theorem dX12_summedBy_9 : decode cX12_summedBy 9 = .ok (.if_icmp .ge 75, 3) := by decide +kernel
theorem dX12_summedBy_12 : decode cX12_summedBy 12 = .ok (.bipush 48, 2) := by decide +kernel
theorem dX12_summedBy_14 : decode cX12_summedBy 14 = .ok (.iload_n 1, 1) := by decide +kernel
theorem dX12_summedBy_15 : decode cX12_summedBy 15 = .ok (.imul, 1) := by decide +kernel
theorem dX12_summedBy_16 : decode cX12_summedBy 16 = .ok (.iconst 4, 1) := by decide +kernel
theorem dX12_summedBy_17 : decode cX12_summedBy 17 = .ok (.iload_n 2, 1) := by decide +kernel
theorem dX12_summedBy_18 : decode cX12_summedBy 18 = .ok (.imul, 1) := by decide +kernel
theorem dX12_summedBy_19 : decode cX12_summedBy 19 = .ok (.iadd, 1) := by decide +kernel
theorem dX12_summedBy_20 : decode cX12_summedBy 20 = .ok (.istore_n 3, 1) := by decide +kernel
theorem dX12_summedBy_21 : decode cX12_summedBy 21 = .ok (.aload_n 0, 1) := by decide +kernel
theorem dX12_summedBy_22 : decode cX12_summedBy 22 = .ok (.getfield 20, 3) := by decide +kernel
theorem dX12_summedBy_25 : decode cX12_summedBy 25 = .ok (.iload_n 3, 1) := by decide +kernel
theorem dX12_summedBy_26 : decode cX12_summedBy 26 = .ok (.iconst 2, 1) := by decide +kernel
theorem dX12_summedBy_27 : decode cX12_summedBy 27 = .ok (.iadd, 1) := by decide +kernel
theorem dX12_summedBy_28 : decode cX12_summedBy 28 = .ok (.iaload, 1) := by decide +kernel
theorem dX12_summedBy_29 : decode cX12_summedBy 29 = .ok (.ifCond .lt 29, 3) := by decide +kernel
theorem dX12_summedBy_32 : decode cX12_summedBy 32 = .ok (.aload_n 0, 1) := by decide +kernel
theorem dX12_summedBy_33 : decode cX12_summedBy 33 = .ok (.iload_n 1, 1) := by decide +kernel
theorem dX12_summedBy_34 : decode cX12_summedBy 34 = .ok (.aload_n 0, 1) := by decide +kernel
theorem dX12_summedBy_35 : decode cX12_summedBy 35 = .ok (.getfield 20, 3) := by decide +kernel
theorem dX12_summedBy_38 : decode cX12_summedBy 38 = .ok (.iload_n 3, 1) := by decide +kernel
theorem dX12_summedBy_39 : decode cX12_summedBy 39 = .ok (.iconst 2, 1) := by decide +kernel
theorem dX12_summedBy_40 : decode cX12_summedBy 40 = .ok (.iadd, 1) := by decide +kernel
theorem dX12_summedBy_41 : decode cX12_summedBy 41 = .ok (.iaload, 1) := by decide +kernel
theorem dX12_summedBy_42 : decode cX12_summedBy 42 = .ok (.aload_n 0, 1) := by decide +kernel
theorem dX12_summedBy_43 : decode cX12_summedBy 43 = .ok (.getfield 20, 3) := by decide +kernel
theorem dX12_summedBy_46 : decode cX12_summedBy 46 = .ok (.iload_n 3, 1) := by decide +kernel
theorem dX12_summedBy_47 : decode cX12_summedBy 47 = .ok (.iconst 3, 1) := by decide +kernel
theorem dX12_summedBy_48 : decode cX12_summedBy 48 = .ok (.iadd, 1) := by decide +kernel
theorem dX12_summedBy_49 : decode cX12_summedBy 49 = .ok (.iaload, 1) := by decide +kernel
theorem dX12_summedBy_50 : decode cX12_summedBy 50 = .ok (.invokevirtual 321, 3) := by decide +kernel
theorem dX12_summedBy_53 : decode cX12_summedBy 53 = .ok (.lconst 1, 1) := by decide +kernel
theorem dX12_summedBy_54 : decode cX12_summedBy 54 = .ok (.lcmp, 1) := by decide +kernel
theorem dX12_summedBy_55 : decode cX12_summedBy 55 = .ok (.ifCond .ne 23, 3) := by decide +kernel
theorem dX12_summedBy_58 : decode cX12_summedBy 58 = .ok (.aload_n 0, 1) := by decide +kernel
theorem dX12_summedBy_59 : decode cX12_summedBy 59 = .ok (.iload_n 1, 1) := by decide +kernel
theorem dX12_summedBy_60 : decode cX12_summedBy 60 = .ok (.aload_n 0, 1) := by decide +kernel
theorem dX12_summedBy_61 : decode cX12_summedBy 61 = .ok (.getfield 20, 3) := by decide +kernel
theorem dX12_summedBy_64 : decode cX12_summedBy 64 = .ok (.iload_n 3, 1) := by decide +kernel
theorem dX12_summedBy_65 : decode cX12_summedBy 65 = .ok (.iaload, 1) := by decide +kernel
theorem dX12_summedBy_66 : decode cX12_summedBy 66 = .ok (.aload_n 0, 1) := by decide +kernel
theorem dX12_summedBy_67 : decode cX12_summedBy 67 = .ok (.getfield 20, 3) := by decide +kernel
theorem dX12_summedBy_70 : decode cX12_summedBy 70 = .ok (.iload_n 3, 1) := by decide +kernel
theorem dX12_summedBy_71 : decode cX12_summedBy 71 = .ok (.iconst 1, 1) := by decide +kernel
theorem dX12_summedBy_72 : decode cX12_summedBy 72 = .ok (.iadd, 1) := by decide +kernel
theorem dX12_summedBy_73 : decode cX12_summedBy 73 = .ok (.iaload, 1) := by decide +kernel
theorem dX12_summedBy_74 : decode cX12_summedBy 74 = .ok (.invokevirtual 321, 3) := by decide +kernel
theorem dX12_summedBy_77 : decode cX12_summedBy 77 = .ok (.lreturn, 1) := by decide +kernel
theorem dX12_summedBy_78 : decode cX12_summedBy 78 = .ok (.iinc 2 1, 3) := by decide +kernel
theorem dX12_summedBy_81 : decode cX12_summedBy 81 = .ok (.goto (-79), 3) := by decide +kernel
theorem dX12_summedBy_84 : decode cX12_summedBy 84 = .ok (.lconst 0, 1) := by decide +kernel
theorem dX12_summedBy_85 : decode cX12_summedBy 85 = .ok (.lreturn, 1) := by decide +kernel
def wp_X12_summedBy_58 (S : Sh) (post : Int → Mm → Prop) (u0 : Int) (u1 : Int) (u3 : Int) (M : Mm) : Prop := wGetR S M u0 12 5 fun v1 => wLd S M v1 14 u3 fun v3 => wGetR S M u0 12 5 fun v5 => wC 1 fun v7 => wA u3 v7 fun v9 => wLd S M v5 14 v9 fun v11 => isK S u0 12 ∧ (wp_X12_reckons S M u0 u1 v3 v11 <| fun v14 M13 => post v14 M13)
def wp_X12_summedBy_2 (S : Sh) (post : Int → Mm → Prop) : Nat → Int → Int → Int → Mm → Prop
  | 0, _, _, _, _ => False
  | n + 1, u0, u1, u2, M => wGetR S M u0 12 6 fun v16 => wLd S M v16 14 u1 fun v18 => wIf (v18 ≤ u2) (wC 0 fun v20 => post v20 M) (wC 48 fun v22 => wM v22 u1 fun v24 => wC 4 fun v26 => wM v26 u2 fun v28 => wA v24 v28 fun v30 => wGetR S M u0 12 5 fun v32 => wC 2 fun v34 => wA v30 v34 fun v36 => wLd S M v32 14 v36 fun v38 => wIf (v38 < 0) (wp_X12_summedBy_58 S post u0 u1 v30 M) (wGetR S M u0 12 5 fun v40 => wC 2 fun v42 => wA v30 v42 fun v44 => wLd S M v40 14 v44 fun v46 => wGetR S M u0 12 5 fun v48 => wC 3 fun v50 => wA v30 v50 fun v52 => wLd S M v48 14 v52 fun v54 => isK S u0 12 ∧ (wp_X12_reckons S M u0 u1 v46 v54 <| fun v57 M56 => wC 1 fun v59 => wCmp v57 v59 fun v61 => wIf (¬ v61 = 0) (wA u2 1 fun v63 => wp_X12_summedBy_2 S post n u0 u1 v63 M56) (wp_X12_summedBy_58 S post u0 u1 v30 M56))))
def wp_X12_summedBy (S : Sh) (M : Mm) (u0 : Int) (u1 : Int) (post : Int → Mm → Prop) : Prop := wC 0 fun v65 => ∃ n9 : Nat, wp_X12_summedBy_2 S post n9 u0 u1 v65 M
set_option maxHeartbeats 4000000 in
set_option maxRecDepth 100000 in
theorem t_X12_summedBy_58 {p : Program} {l : Launch} {e : Env} {s : State} {m : MethodId} {args : Array Value} {below : List Frame} {meth : Method} {c : Code} {D : va_G} {G : Gt} {S : Sh} {post : Int → Mm → Prop} (C : Cx p s m args meth c D G cX12_summedBy 4 (some .long) (cw_X12_summedBy :: gw) RX12) : ∀ (xl0 : Int) (zl1 : Int32) (zl3 : Int32) (M : Mm) (H : Heap) (locs : List Loc) (ls : Array Slot), Wd D G S M H → va_S (aG G) s.heap H locs → lv_has ls 4 [(0, .ref (adr G xl0)), (1, .int zl1), (3, .int zl3)] → wp_X12_summedBy_58 S post xl0 zl1.toInt zl3.toInt  M → W p l e RM_X12_summedBy s m args below meth c H locs 0 0 (MQ below (QL D G S post) args s 0 0 (aG G)) (F0 m 58 ls []) := by
  obtain ⟨hx, hb, hr, hlocks, hml, hown, hts, hK⟩ := id C
  intro xl0 zl1 zl3 M H locs ls hP hS hl h
  unfold wp_X12_summedBy_58 at h
  refine lv_aload_n hx hb dX12_summedBy_58 rfl (lv_at hl 0 rfl) ?_
  refine lv_iload_n hx hb dX12_summedBy_59 rfl (lv_at hl 1 rfl) ?_
  refine lv_aload_n hx hb dX12_summedBy_60 rfl (lv_at hl 0 rfl) ?_
  refine r_getr (C := RX12) (T := TX12) (N := 38) hx hb hts (fun w h => List.mem_cons_of_mem _ (iX12 w h)) hown hK hP rfl (by decide) rfl 5 (by decide) (hts _ (List.mem_cons_of_mem _ kw_1339)) (fun _ h9 => h9) dX12_summedBy_61 (by decide) h (fun x2 h => ?_)
  refine lv_iload_n hx hb dX12_summedBy_64 rfl (lv_at hl 2 rfl) ?_
  refine r_iald hx hb hK hP dX12_summedBy_65 h (fun z4 h => ?_)
  refine lv_aload_n hx hb dX12_summedBy_66 rfl (lv_at hl 0 rfl) ?_
  refine r_getr (C := RX12) (T := TX12) (N := 38) hx hb hts (fun w h => List.mem_cons_of_mem _ (iX12 w h)) hown hK hP rfl (by decide) rfl 5 (by decide) (hts _ (List.mem_cons_of_mem _ kw_1339)) (fun _ h9 => h9) dX12_summedBy_67 (by decide) h (fun x6 h => ?_)
  refine lv_iload_n hx hb dX12_summedBy_70 rfl (lv_at hl 2 rfl) ?_
  refine r_iconst hx hb dX12_summedBy_71 (by decide) h (fun z8 h => ?_)
  refine r_iadd hx hb dX12_summedBy_72 h (fun z10 h => ?_)
  refine r_iald hx hb hK hP dX12_summedBy_73 h (fun z12 h => ?_)
  refine q_Vl hx hb hml hown hts hK hP hS (c_X12_reckons l D G S _ xl0 zl1 z4 z12 _ h.2) ⟨callB_of 3 hts (gw_good kw_1729) rfl rfl rfl (hts _ (List.mem_cons_of_mem _ kw_14)) (hts _ (List.mem_cons_of_mem _ kw_1726)) hd_X12_reckons ⟨Nat.le_of_ble_eq_true rfl, Nat.le_of_ble_eq_true rfl⟩, (hts _ (List.mem_cons_of_mem _ kw_1728)), (hts _ (List.mem_cons_of_mem _ kp_103))⟩ h.1 (ci := 12) rfl (by decide) rfl hl.1 rfl (lv_room (Nat.le_of_ble_eq_true rfl)) dX12_summedBy_74 ⟨Nat.zero_le _, Nat.zero_le _⟩ (fun z15 M13 H locs h hP hS => ?_)
  exact r_lret hx hb hr hlocks hP hS dX12_summedBy_77 h
set_option maxHeartbeats 4000000 in
set_option maxRecDepth 100000 in
theorem t_X12_summedBy_2 {p : Program} {l : Launch} {e : Env} {s : State} {m : MethodId} {args : Array Value} {below : List Frame} {meth : Method} {c : Code} {D : va_G} {G : Gt} {S : Sh} {post : Int → Mm → Prop} (C : Cx p s m args meth c D G cX12_summedBy 4 (some .long) (cw_X12_summedBy :: gw) RX12) : ∀ (n : Nat) (xl0 : Int) (zl1 : Int32) (zl2 : Int32) (M : Mm) (H : Heap) (locs : List Loc) (ls : Array Slot), Wd D G S M H → va_S (aG G) s.heap H locs → lv_has ls 4 [(0, .ref (adr G xl0)), (1, .int zl1), (2, .int zl2)] → wp_X12_summedBy_2 S post n xl0 zl1.toInt zl2.toInt  M → W p l e RM_X12_summedBy s m args below meth c H locs 0 0 (MQ below (QL D G S post) args s 0 0 (aG G)) (F0 m 2 ls []) := by
  obtain ⟨hx, hb, hr, hlocks, hml, hown, hts, hK⟩ := id C
  intro n
  induction n with
  | zero => intro xl0 zl1 zl2 M H locs ls hP hS hl h; exact h.elim
  | succ n ih =>
    intro xl0 zl1 zl2 M H locs ls hP hS hl h
    unfold wp_X12_summedBy_2 at h
    refine lv_iload_n hx hb dX12_summedBy_2 rfl (lv_at hl 2 rfl) ?_
    refine lv_aload_n hx hb dX12_summedBy_3 rfl (lv_at hl 0 rfl) ?_
    refine r_getr (C := RX12) (T := TX12) (N := 38) hx hb hts (fun w h => List.mem_cons_of_mem _ (iX12 w h)) hown hK hP rfl (by decide) rfl 6 (by decide) (hts _ (List.mem_cons_of_mem _ kw_1340)) (fun _ h9 => h9) dX12_summedBy_4 (by decide) h (fun x17 h => ?_)
    refine lv_iload_n hx hb dX12_summedBy_7 rfl (lv_at hl 1 rfl) ?_
    refine r_iald hx hb hK hP dX12_summedBy_8 h (fun z19 h => ?_)
    refine r_icmp_ge (tgt := 84) hx hb dX12_summedBy_9 (by decide) h (fun h => ?_) (fun h => ?_)
    · refine r_lconst hx hb dX12_summedBy_84 (v := 0) (by decide) h (fun z21 h => ?_)
      exact r_lret hx hb hr hlocks hP hS dX12_summedBy_85 h
    · refine r_bipush hx hb dX12_summedBy_12 (by decide) h (fun z23 h => ?_)
      refine lv_iload_n hx hb dX12_summedBy_14 rfl (lv_at hl 1 rfl) ?_
      refine r_imul hx hb dX12_summedBy_15 h (fun z25 h => ?_)
      refine r_iconst hx hb dX12_summedBy_16 (by decide) h (fun z27 h => ?_)
      refine lv_iload_n hx hb dX12_summedBy_17 rfl (lv_at hl 2 rfl) ?_
      refine r_imul hx hb dX12_summedBy_18 h (fun z29 h => ?_)
      refine r_iadd hx hb dX12_summedBy_19 h (fun z31 h => ?_)
      refine lv_istore_n (lv' := [(3, .int z31), (0, .ref (adr G xl0)), (1, .int zl1), (2, .int zl2)]) hx hb dX12_summedBy_20 rfl hl (by decide) rfl (fun ls hl => ?_)
      refine lv_aload_n hx hb dX12_summedBy_21 rfl (lv_at hl 1 rfl) ?_
      refine r_getr (C := RX12) (T := TX12) (N := 38) hx hb hts (fun w h => List.mem_cons_of_mem _ (iX12 w h)) hown hK hP rfl (by decide) rfl 5 (by decide) (hts _ (List.mem_cons_of_mem _ kw_1339)) (fun _ h9 => h9) dX12_summedBy_22 (by decide) h (fun x33 h => ?_)
      refine lv_iload_n hx hb dX12_summedBy_25 rfl (lv_at hl 0 rfl) ?_
      refine r_iconst hx hb dX12_summedBy_26 (by decide) h (fun z35 h => ?_)
      refine r_iadd hx hb dX12_summedBy_27 h (fun z37 h => ?_)
      refine r_iald hx hb hK hP dX12_summedBy_28 h (fun z39 h => ?_)
      refine r_if_lt (tgt := 58) hx hb dX12_summedBy_29 (by decide) h (fun h => ?_) (fun h => ?_)
      · exact t_X12_summedBy_58 C xl0 zl1 z31 _ _ _ _ hP hS (lv_sub hl [1, 2, 0] rfl) h
      · refine lv_aload_n hx hb dX12_summedBy_32 rfl (lv_at hl 1 rfl) ?_
        refine lv_iload_n hx hb dX12_summedBy_33 rfl (lv_at hl 2 rfl) ?_
        refine lv_aload_n hx hb dX12_summedBy_34 rfl (lv_at hl 1 rfl) ?_
        refine r_getr (C := RX12) (T := TX12) (N := 38) hx hb hts (fun w h => List.mem_cons_of_mem _ (iX12 w h)) hown hK hP rfl (by decide) rfl 5 (by decide) (hts _ (List.mem_cons_of_mem _ kw_1339)) (fun _ h9 => h9) dX12_summedBy_35 (by decide) h (fun x41 h => ?_)
        refine lv_iload_n hx hb dX12_summedBy_38 rfl (lv_at hl 0 rfl) ?_
        refine r_iconst hx hb dX12_summedBy_39 (by decide) h (fun z43 h => ?_)
        refine r_iadd hx hb dX12_summedBy_40 h (fun z45 h => ?_)
        refine r_iald hx hb hK hP dX12_summedBy_41 h (fun z47 h => ?_)
        refine lv_aload_n hx hb dX12_summedBy_42 rfl (lv_at hl 1 rfl) ?_
        refine r_getr (C := RX12) (T := TX12) (N := 38) hx hb hts (fun w h => List.mem_cons_of_mem _ (iX12 w h)) hown hK hP rfl (by decide) rfl 5 (by decide) (hts _ (List.mem_cons_of_mem _ kw_1339)) (fun _ h9 => h9) dX12_summedBy_43 (by decide) h (fun x49 h => ?_)
        refine lv_iload_n hx hb dX12_summedBy_46 rfl (lv_at hl 0 rfl) ?_
        refine r_iconst hx hb dX12_summedBy_47 (by decide) h (fun z51 h => ?_)
        refine r_iadd hx hb dX12_summedBy_48 h (fun z53 h => ?_)
        refine r_iald hx hb hK hP dX12_summedBy_49 h (fun z55 h => ?_)
        refine q_Vl hx hb hml hown hts hK hP hS (c_X12_reckons l D G S _ xl0 zl1 z47 z55 _ h.2) ⟨callB_of 3 hts (gw_good kw_1729) rfl rfl rfl (hts _ (List.mem_cons_of_mem _ kw_14)) (hts _ (List.mem_cons_of_mem _ kw_1726)) hd_X12_reckons ⟨Nat.le_of_ble_eq_true rfl, Nat.le_of_ble_eq_true rfl⟩, (hts _ (List.mem_cons_of_mem _ kw_1728)), (hts _ (List.mem_cons_of_mem _ kp_103))⟩ h.1 (ci := 12) rfl (by decide) rfl hl.1 rfl (lv_room (Nat.le_of_ble_eq_true rfl)) dX12_summedBy_50 ⟨Nat.zero_le _, Nat.zero_le _⟩ (fun z58 M56 H locs h hP hS => ?_)
        refine r_lconst hx hb dX12_summedBy_53 (v := 1) (by decide) h (fun z60 h => ?_)
        refine r_lcmp hx hb dX12_summedBy_54 h (fun z62 h => ?_)
        refine r_if_ne (tgt := 78) hx hb dX12_summedBy_55 (by decide) h (fun h => ?_) (fun h => ?_)
        · refine r_iinc hx hb (fun z64 => [(2, .int z64), (3, .int z31), (0, .ref (adr G xl0)), (1, .int zl1)]) dX12_summedBy_78 (by decide) hl (k := 3) rfl (by decide) (fun _ => rfl) h (fun z64 ls hl h => ?_)
          refine lv_goto (tgt := 2) hx hb dX12_summedBy_81 (by decide) ?_
          exact ih xl0 zl1 z64 _ _ _ _ hP hS (lv_sub hl [2, 3, 0] rfl) h
        · exact t_X12_summedBy_58 C xl0 zl1 z31 _ _ _ _ hP hS (lv_sub hl [1, 2, 0] rfl) h
set_option maxHeartbeats 4000000 in
set_option maxRecDepth 100000 in
theorem c_X12_summedBy (l : Launch) (D : va_G) (G : Gt) (S : Sh) (M : Mm) (xl0 : Int) (zl1 : Int32) (post : Int → Mm → Prop) (h : wp_X12_summedBy S M xl0 zl1.toInt post) : Met l yX12_summedBy (cw_X12_summedBy :: gw) RM_X12_summedBy (va_Pc [.ref (adr G xl0), .int zl1] (fun U => KN D G U ∧ Wd D G S M U.heap)) (QL D G S post) 0 0 (aG G) := by
  refine Met.ofW (cc := cX12_summedBy) (maxL := 4) (ret := (some .long)) (by decide) rfl ?_
  intro p e s m args below meth c s₁ B hml hv
  obtain ⟨rfl, hK, hP⟩ := hv
  have hx := B.exec
  have hb := B.bytes
  have hr := B.returns
  have hts := atoms_spec (ws := cw_X12_summedBy :: gw) B.pre
  have hown : s.vm.findClass RX12 = some m.cls := findClass_of_methodNamed B.named
  have hlocks := B.notSynchronized
  have hS : va_S (aG G) s.heap s.heap [] := va_S.rf
  have C : Cx p s m ([.ref (adr G xl0), .int zl1] : List Value).toArray meth c D G cX12_summedBy 4 (some .long) (cw_X12_summedBy :: gw) RX12 := ⟨hx, hb, hr, hlocks, hml, hown, hts, hK⟩
  have hl := lv_entry ([.ref (adr G xl0), .int zl1]) (n := 4) (Nat.le_of_ble_eq_true rfl)
  rw [lg_entry_eq]
  generalize (lg_sl ([.ref (adr G xl0), .int zl1]) ++ List.replicate (4 - (lg_sl ([.ref (adr G xl0), .int zl1])).length) Slot.unset).toArray = ls at hl ⊢
  have hl : lv_has ls 4 [(0, .ref (adr G xl0)), (1, .int zl1)] := hl
  unfold wp_X12_summedBy at h
  refine r_iconst hx hb dX12_summedBy_0 (by decide) h (fun z66 h => ?_)
  refine lv_istore_n (lv' := [(2, .int z66), (0, .ref (adr G xl0)), (1, .int zl1)]) hx hb dX12_summedBy_1 rfl hl (by decide) rfl (fun ls hl => ?_)
  obtain ⟨n9, h⟩ := h
  exact t_X12_summedBy_2 C n9 xl0 zl1 z66 _ _ _ _ hP hS (lv_sub hl [1, 2, 0] rfl) h
/-! TurningMilkModel.turnsIn(IIIIIII)I -/
abbrev RM_X12_turnsIn : Room := { frames := 4, cells := 0, slots := 0, locals := 117 }
def cw_X12_turnsIn : Cond := Cond.code yX12_turnsIn cX12_turnsIn 11 (Option.some FieldType.int)
theorem hd_X12_turnsIn : yX12_turnsIn.cls ≠ "java/lang/invoke/MethodHandle" ∧ yX12_turnsIn.cls ≠ "java/lang/invoke/VarHandle" ∧ (parseMethodDescriptor yX12_turnsIn.desc).map (fun d => d.parameters.length) = some 7 := by decide +kernel
theorem dX12_turnsIn_0 : decode cX12_turnsIn 0 = .ok (.aload_n 0, 1) := by decide +kernel
theorem dX12_turnsIn_1 : decode cX12_turnsIn 1 = .ok (.iload 5, 2) := by decide +kernel
theorem dX12_turnsIn_3 : decode cX12_turnsIn 3 = .ok (.invokevirtual 325, 3) := by decide +kernel
theorem dX12_turnsIn_6 : decode cX12_turnsIn 6 = .ok (.istore 8, 2) := by decide +kernel
theorem dX12_turnsIn_8 : decode cX12_turnsIn 8 = .ok (.aload_n 0, 1) := by decide +kernel
theorem dX12_turnsIn_9 : decode cX12_turnsIn 9 = .ok (.getfield 42, 3) := by decide +kernel
theorem dX12_turnsIn_12 : decode cX12_turnsIn 12 = .ok (.ifCond .ge 17, 3) := by decide +kernel
theorem dX12_turnsIn_15 : decode cX12_turnsIn 15 = .ok (.aload_n 0, 1) := by decide +kernel
theorem dX12_turnsIn_16 : decode cX12_turnsIn 16 = .ok (.iload_n 1, 1) := by decide +kernel
theorem dX12_turnsIn_17 : decode cX12_turnsIn 17 = .ok (.iconst 3, 1) := by decide +kernel
theorem dX12_turnsIn_18 : decode cX12_turnsIn 18 = .ok (.invokevirtual 306, 3) := by decide +kernel
theorem dX12_turnsIn_21 : decode cX12_turnsIn 21 = .ok (.iload_n 2, 1) := by decide +kernel
theorem dX12_turnsIn_22 : decode cX12_turnsIn 22 = .ok (.iconst 4, 1) := by decide +kernel
theorem dX12_turnsIn_23 : decode cX12_turnsIn 23 = .ok (.idiv, 1) := by decide +kernel
theorem dX12_turnsIn_24 : decode cX12_turnsIn 24 = .ok (.iadd, 1) := by decide +kernel
theorem dX12_turnsIn_25 : decode cX12_turnsIn 25 = .ok (.iload 8, 2) := by decide +kernel
theorem dX12_turnsIn_27 : decode cX12_turnsIn 27 = .ok (.iadd, 1) := by decide +kernel
theorem dX12_turnsIn_28 : decode cX12_turnsIn 28 = .ok (.ireturn, 1) := by decide +kernel
theorem dX12_turnsIn_29 : decode cX12_turnsIn 29 = .ok (.aload_n 0, 1) := by decide +kernel
theorem dX12_turnsIn_30 : decode cX12_turnsIn 30 = .ok (.getfield 36, 3) := by decide +kernel
theorem dX12_turnsIn_33 : decode cX12_turnsIn 33 = .ok (.iconst 0, 1) := by decide +kernel
theorem dX12_turnsIn_34 : decode cX12_turnsIn 34 = .ok (.iload_n 1, 1) := by decide +kernel
theorem dX12_turnsIn_35 : decode cX12_turnsIn 35 = .ok (.i2l, 1) := by decide +kernel
theorem dX12_turnsIn_36 : decode cX12_turnsIn 36 = .ok (.lastore, 1) := by decide +kernel
theorem dX12_turnsIn_37 : decode cX12_turnsIn 37 = .ok (.aload_n 0, 1) := by decide +kernel
theorem dX12_turnsIn_38 : decode cX12_turnsIn 38 = .ok (.getfield 36, 3) := by decide +kernel
theorem dX12_turnsIn_41 : decode cX12_turnsIn 41 = .ok (.iconst 1, 1) := by decide +kernel
theorem dX12_turnsIn_42 : decode cX12_turnsIn 42 = .ok (.aload_n 0, 1) := by decide +kernel
theorem dX12_turnsIn_43 : decode cX12_turnsIn 43 = .ok (.iload_n 1, 1) := by decide +kernel
theorem dX12_turnsIn_44 : decode cX12_turnsIn 44 = .ok (.iconst 3, 1) := by decide +kernel
theorem dX12_turnsIn_45 : decode cX12_turnsIn 45 = .ok (.invokevirtual 306, 3) := by decide +kernel
theorem dX12_turnsIn_48 : decode cX12_turnsIn 48 = .ok (.i2l, 1) := by decide +kernel
theorem dX12_turnsIn_49 : decode cX12_turnsIn 49 = .ok (.lastore, 1) := by decide +kernel
theorem dX12_turnsIn_50 : decode cX12_turnsIn 50 = .ok (.aload_n 0, 1) := by decide +kernel
theorem dX12_turnsIn_51 : decode cX12_turnsIn 51 = .ok (.getfield 36, 3) := by decide +kernel
theorem dX12_turnsIn_54 : decode cX12_turnsIn 54 = .ok (.iconst 2, 1) := by decide +kernel
theorem dX12_turnsIn_55 : decode cX12_turnsIn 55 = .ok (.iload_n 2, 1) := by decide +kernel
theorem dX12_turnsIn_56 : decode cX12_turnsIn 56 = .ok (.i2l, 1) := by decide +kernel
theorem dX12_turnsIn_57 : decode cX12_turnsIn 57 = .ok (.lastore, 1) := by decide +kernel
theorem dX12_turnsIn_58 : decode cX12_turnsIn 58 = .ok (.aload_n 0, 1) := by decide +kernel
theorem dX12_turnsIn_59 : decode cX12_turnsIn 59 = .ok (.getfield 36, 3) := by decide +kernel
theorem dX12_turnsIn_62 : decode cX12_turnsIn 62 = .ok (.iconst 3, 1) := by decide +kernel
theorem dX12_turnsIn_63 : decode cX12_turnsIn 63 = .ok (.iload_n 3, 1) := by decide +kernel
theorem dX12_turnsIn_64 : decode cX12_turnsIn 64 = .ok (.i2l, 1) := by decide +kernel
theorem dX12_turnsIn_65 : decode cX12_turnsIn 65 = .ok (.lastore, 1) := by decide +kernel
theorem dX12_turnsIn_66 : decode cX12_turnsIn 66 = .ok (.aload_n 0, 1) := by decide +kernel
theorem dX12_turnsIn_67 : decode cX12_turnsIn 67 = .ok (.getfield 36, 3) := by decide +kernel
theorem dX12_turnsIn_70 : decode cX12_turnsIn 70 = .ok (.iconst 4, 1) := by decide +kernel
theorem dX12_turnsIn_71 : decode cX12_turnsIn 71 = .ok (.iload 4, 2) := by decide +kernel
theorem dX12_turnsIn_73 : decode cX12_turnsIn 73 = .ok (.i2l, 1) := by decide +kernel
theorem dX12_turnsIn_74 : decode cX12_turnsIn 74 = .ok (.lastore, 1) := by decide +kernel
theorem dX12_turnsIn_75 : decode cX12_turnsIn 75 = .ok (.aload_n 0, 1) := by decide +kernel
theorem dX12_turnsIn_76 : decode cX12_turnsIn 76 = .ok (.getfield 36, 3) := by decide +kernel
theorem dX12_turnsIn_79 : decode cX12_turnsIn 79 = .ok (.iconst 5, 1) := by decide +kernel
theorem dX12_turnsIn_80 : decode cX12_turnsIn 80 = .ok (.iload 8, 2) := by decide +kernel
theorem dX12_turnsIn_82 : decode cX12_turnsIn 82 = .ok (.i2l, 1) := by decide +kernel
theorem dX12_turnsIn_83 : decode cX12_turnsIn 83 = .ok (.lastore, 1) := by decide +kernel
theorem dX12_turnsIn_84 : decode cX12_turnsIn 84 = .ok (.aload_n 0, 1) := by decide +kernel
theorem dX12_turnsIn_85 : decode cX12_turnsIn 85 = .ok (.getfield 36, 3) := by decide +kernel
theorem dX12_turnsIn_88 : decode cX12_turnsIn 88 = .ok (.bipush 6, 2) := by decide +kernel
theorem dX12_turnsIn_90 : decode cX12_turnsIn 90 = .ok (.iload 5, 2) := by decide +kernel
theorem dX12_turnsIn_92 : decode cX12_turnsIn 92 = .ok (.i2l, 1) := by decide +kernel
theorem dX12_turnsIn_93 : decode cX12_turnsIn 93 = .ok (.lastore, 1) := by decide +kernel
theorem dX12_turnsIn_94 : decode cX12_turnsIn 94 = .ok (.aload_n 0, 1) := by decide +kernel
theorem dX12_turnsIn_95 : decode cX12_turnsIn 95 = .ok (.getfield 36, 3) := by decide +kernel
theorem dX12_turnsIn_98 : decode cX12_turnsIn 98 = .ok (.bipush 7, 2) := by decide +kernel
theorem dX12_turnsIn_100 : decode cX12_turnsIn 100 = .ok (.iload 6, 2) := by decide +kernel
theorem dX12_turnsIn_102 : decode cX12_turnsIn 102 = .ok (.i2l, 1) := by decide +kernel
theorem dX12_turnsIn_103 : decode cX12_turnsIn 103 = .ok (.lastore, 1) := by decide +kernel
theorem dX12_turnsIn_104 : decode cX12_turnsIn 104 = .ok (.aload_n 0, 1) := by decide +kernel
theorem dX12_turnsIn_105 : decode cX12_turnsIn 105 = .ok (.getfield 36, 3) := by decide +kernel
theorem dX12_turnsIn_108 : decode cX12_turnsIn 108 = .ok (.bipush 8, 2) := by decide +kernel
theorem dX12_turnsIn_110 : decode cX12_turnsIn 110 = .ok (.iload 7, 2) := by decide +kernel
theorem dX12_turnsIn_112 : decode cX12_turnsIn 112 = .ok (.i2l, 1) := by decide +kernel
theorem dX12_turnsIn_113 : decode cX12_turnsIn 113 = .ok (.lastore, 1) := by decide +kernel
theorem dX12_turnsIn_114 : decode cX12_turnsIn 114 = .ok (.aload_n 0, 1) := by decide +kernel
theorem dX12_turnsIn_115 : decode cX12_turnsIn 115 = .ok (.getfield 36, 3) := by decide +kernel
theorem dX12_turnsIn_118 : decode cX12_turnsIn 118 = .ok (.bipush 9, 2) := by decide +kernel
theorem dX12_turnsIn_120 : decode cX12_turnsIn 120 = .ok (.iload 4, 2) := by decide +kernel
theorem dX12_turnsIn_122 : decode cX12_turnsIn 122 = .ok (.aload_n 0, 1) := by decide +kernel
theorem dX12_turnsIn_123 : decode cX12_turnsIn 123 = .ok (.getfield 39, 3) := by decide +kernel
theorem dX12_turnsIn_126 : decode cX12_turnsIn 126 = .ok (.iconst 2, 1) := by decide +kernel
theorem dX12_turnsIn_127 : decode cX12_turnsIn 127 = .ok (.iaload, 1) := by decide +kernel
theorem dX12_turnsIn_128 : decode cX12_turnsIn 128 = .ok (.if_icmp .lt 7, 3) := by decide +kernel
theorem dX12_turnsIn_131 : decode cX12_turnsIn 131 = .ok (.lconst 1, 1) := by decide +kernel
theorem dX12_turnsIn_132 : decode cX12_turnsIn 132 = .ok (.goto 4, 3) := by decide +kernel
theorem dX12_turnsIn_135 : decode cX12_turnsIn 135 = .ok (.lconst 0, 1) := by decide +kernel
theorem dX12_turnsIn_136 : decode cX12_turnsIn 136 = .ok (.lastore, 1) := by decide +kernel
theorem dX12_turnsIn_137 : decode cX12_turnsIn 137 = .ok (.aload_n 0, 1) := by decide +kernel
theorem dX12_turnsIn_138 : decode cX12_turnsIn 138 = .ok (.aload_n 0, 1) := by decide +kernel
theorem dX12_turnsIn_139 : decode cX12_turnsIn 139 = .ok (.getfield 42, 3) := by decide +kernel
theorem dX12_turnsIn_142 : decode cX12_turnsIn 142 = .ok (.invokevirtual 328, 3) := by decide +kernel
theorem dX12_turnsIn_145 : decode cX12_turnsIn 145 = .ok (.lstore 9, 2) := by decide +kernel
theorem dX12_turnsIn_147 : decode cX12_turnsIn 147 = .ok (.lload 9, 2) := by decide +kernel
theorem dX12_turnsIn_149 : decode cX12_turnsIn 149 = .ok (.lconst 0, 1) := by decide +kernel
theorem dX12_turnsIn_150 : decode cX12_turnsIn 150 = .ok (.lcmp, 1) := by decide +kernel
theorem dX12_turnsIn_151 : decode cX12_turnsIn 151 = .ok (.ifCond .ge 7, 3) := by decide +kernel
theorem dX12_turnsIn_154 : decode cX12_turnsIn 154 = .ok (.iconst 0, 1) := by decide +kernel
theorem dX12_turnsIn_155 : decode cX12_turnsIn 155 = .ok (.goto 20, 3) := by decide +kernel
theorem dX12_turnsIn_158 : decode cX12_turnsIn 158 = .ok (.lload 9, 2) := by decide +kernel
theorem dX12_turnsIn_160 : decode cX12_turnsIn 160 = .ok (.ldc2_w 332, 3) := by decide +kernel
theorem dX12_turnsIn_163 : decode cX12_turnsIn 163 = .ok (.lcmp, 1) := by decide +kernel
theorem dX12_turnsIn_164 : decode cX12_turnsIn 164 = .ok (.ifCond .le 8, 3) := by decide +kernel
theorem dX12_turnsIn_167 : decode cX12_turnsIn 167 = .ok (.bipush 50, 2) := by decide +kernel
theorem dX12_turnsIn_169 : decode cX12_turnsIn 169 = .ok (.goto 6, 3) := by decide +kernel
theorem dX12_turnsIn_172 : decode cX12_turnsIn 172 = .ok (.lload 9, 2) := by decide +kernel
theorem dX12_turnsIn_174 : decode cX12_turnsIn 174 = .ok (.l2i, 1) := by decide +kernel
theorem dX12_turnsIn_175 : decode cX12_turnsIn 175 = .ok (.ireturn, 1) := by decide +kernel
def wp_X12_turnsIn_136 (S : Sh) (post : Int → Mm → Prop) (u0 : Int) (t0 : Int) (t1 : Int) (t2 : Int) (M : Mm) : Prop := wSt S M t0 16 t1 t2 fun M1 => wGet S M1 u0 12 21 fun v2 => isK S u0 12 ∧ (wp_X12_summedBy S M1 u0 v2 <| fun v5 M4 => wC 0 fun v7 => wCmp v5 v7 fun v9 => wIf (0 ≤ v9) (wC 50 fun v11 => wCmp v5 v11 fun v13 => wIf (v13 ≤ 0) (wO1 w32 v5 fun v15 => post v15 M4) (wC 50 fun v17 => post v17 M4)) (wC 0 fun v19 => post v19 M4))
def wp_X12_turnsIn (S : Sh) (M : Mm) (u0 : Int) (u1 : Int) (u2 : Int) (u3 : Int) (u4 : Int) (u5 : Int) (u6 : Int) (u7 : Int) (post : Int → Mm → Prop) : Prop := isK S u0 12 ∧ (wp_X12_heatIn S M u0 u5 <| fun v22 M21 => wGet S M21 u0 12 21 fun v24 => wIf (0 ≤ v24) (wGetR S M21 u0 12 19 fun v26 => wC 0 fun v28 => wC u1 fun v30 => wSt S M21 v26 16 v28 v30 fun M32 => wGetR S M32 u0 12 19 fun v33 => wC 1 fun v35 => wC 3 fun v37 => isK S u0 12 ∧ (wp_X12_handOf S M32 u0 u1 v37 <| fun v40 M39 => wC v40 fun v42 => wSt S M39 v33 16 v35 v42 fun M44 => wGetR S M44 u0 12 19 fun v45 => wC 2 fun v47 => wC u2 fun v49 => wSt S M44 v45 16 v47 v49 fun M51 => wGetR S M51 u0 12 19 fun v52 => wC 3 fun v54 => wC u3 fun v56 => wSt S M51 v52 16 v54 v56 fun M58 => wGetR S M58 u0 12 19 fun v59 => wC 4 fun v61 => wC u4 fun v63 => wSt S M58 v59 16 v61 v63 fun M65 => wGetR S M65 u0 12 19 fun v66 => wC 5 fun v68 => wC v22 fun v70 => wSt S M65 v66 16 v68 v70 fun M72 => wGetR S M72 u0 12 19 fun v73 => wC 6 fun v75 => wC u5 fun v77 => wSt S M72 v73 16 v75 v77 fun M79 => wGetR S M79 u0 12 19 fun v80 => wC 7 fun v82 => wC u6 fun v84 => wSt S M79 v80 16 v82 v84 fun M86 => wGetR S M86 u0 12 19 fun v87 => wC 8 fun v89 => wC u7 fun v91 => wSt S M86 v87 16 v89 v91 fun M93 => wGetR S M93 u0 12 19 fun v94 => wC 9 fun v96 => wGetR S M93 u0 12 20 fun v98 => wC 2 fun v100 => wLd S M93 v98 14 v100 fun v102 => wIf (u4 < v102) (wC 0 fun v104 => wp_X12_turnsIn_136 S post u0 v94 v96 v104 M93) (wC 1 fun v106 => wp_X12_turnsIn_136 S post u0 v94 v96 v106 M93))) (wC 3 fun v108 => isK S u0 12 ∧ (wp_X12_handOf S M21 u0 u1 v108 <| fun v111 M110 => wC 4 fun v113 => wD iDiv u2 v113 fun v115 => wA v111 v115 fun v117 => wA v117 v22 fun v119 => post v119 M110)))
set_option maxHeartbeats 4000000 in
set_option maxRecDepth 100000 in
theorem t_X12_turnsIn_136 {p : Program} {l : Launch} {e : Env} {s : State} {m : MethodId} {args : Array Value} {below : List Frame} {meth : Method} {c : Code} {D : va_G} {G : Gt} {S : Sh} {post : Int → Mm → Prop} (C : Cx p s m args meth c D G cX12_turnsIn 11 (some .int) (cw_X12_turnsIn :: gw) RX12) : ∀ (xl0 : Int) (xs0 : Int) (zs1 : Int32) (zs2 : Int64) (M : Mm) (H : Heap) (locs : List Loc) (ls : Array Slot), Wd D G S M H → va_S (aG G) s.heap H locs → lv_has ls 11 [(0, .ref (adr G xl0))] → wp_X12_turnsIn_136 S post xl0 xs0 zs1.toInt zs2.toInt M → W p l e RM_X12_turnsIn s m args below meth c H locs 0 0 (MQ below (QI D G S post) args s 0 0 (aG G)) (F0 m 136 ls [.long zs2, .int zs1, .ref (adr G xs0)]) := by
  obtain ⟨hx, hb, hr, hlocks, hml, hown, hts, hK⟩ := id C
  intro xl0 xs0 zs1 zs2 M H locs ls hP hS hl h
  unfold wp_X12_turnsIn_136 at h
  refine r_last hx hb hK hP hS dX12_turnsIn_136 h (fun M1 H locs h hP hS => ?_)
  refine lv_aload_n hx hb dX12_turnsIn_137 rfl (lv_at hl 0 rfl) ?_
  refine lv_aload_n hx hb dX12_turnsIn_138 rfl (lv_at hl 0 rfl) ?_
  refine r_geti (C := RX12) (T := TX12) (N := 38) hx hb hts (fun w h => List.mem_cons_of_mem _ (iX12 w h)) hown hK hP rfl (by decide) rfl 21 (by decide) (hts _ (List.mem_cons_of_mem _ kw_1355)) (fun _ h9 => h9) dX12_turnsIn_139 (by decide) h (fun z3 h => ?_)
  refine q_Vl hx hb hml hown hts hK hP hS (c_X12_summedBy l D G S _ xl0 z3 _ h.2) ⟨callB_of 1 hts (gw_good kw_1725) rfl rfl rfl (hts _ (List.mem_cons_of_mem _ kw_14)) (hts _ (List.mem_cons_of_mem _ kw_1722)) hd_X12_summedBy ⟨Nat.le_of_ble_eq_true rfl, Nat.le_of_ble_eq_true rfl⟩, (hts _ (List.mem_cons_of_mem _ kw_1724)), (hts _ (List.mem_cons_of_mem _ kp_102))⟩ h.1 (ci := 12) rfl (by decide) rfl hl.1 rfl (lv_room (Nat.le_of_ble_eq_true rfl)) dX12_turnsIn_142 ⟨Nat.zero_le _, Nat.zero_le _⟩ (fun z6 M4 H locs h hP hS => ?_)
  refine lv_lstore (lv' := [(9, .long z6), (0, .ref (adr G xl0))]) hx hb dX12_turnsIn_145 hl (by decide) rfl (fun ls hl => ?_)
  refine lv_lload hx hb dX12_turnsIn_147 (lv_at hl 0 rfl) ?_
  refine r_lconst hx hb dX12_turnsIn_149 (v := 0) (by decide) h (fun z8 h => ?_)
  refine r_lcmp hx hb dX12_turnsIn_150 h (fun z10 h => ?_)
  refine r_if_ge (tgt := 158) hx hb dX12_turnsIn_151 (by decide) h (fun h => ?_) (fun h => ?_)
  · refine lv_lload hx hb dX12_turnsIn_158 (lv_at hl 0 rfl) ?_
    refine r_ldc2 hx hb hown (hts _ (List.mem_cons_of_mem _ kw_1741)) dX12_turnsIn_160 (n := 50) (by decide) h (fun z12 h => ?_)
    refine r_lcmp hx hb dX12_turnsIn_163 h (fun z14 h => ?_)
    refine r_if_le (tgt := 172) hx hb dX12_turnsIn_164 (by decide) h (fun h => ?_) (fun h => ?_)
    · refine lv_lload hx hb dX12_turnsIn_172 (lv_at hl 0 rfl) ?_
      refine r_l2i hx hb dX12_turnsIn_174 h (fun z16 h => ?_)
      exact r_iret hx hb hr hlocks hP hS dX12_turnsIn_175 h
    · refine r_bipush hx hb dX12_turnsIn_167 (by decide) h (fun z18 h => ?_)
      refine lv_goto (tgt := 175) hx hb dX12_turnsIn_169 (by decide) ?_
      exact r_iret hx hb hr hlocks hP hS dX12_turnsIn_175 h
  · refine r_iconst hx hb dX12_turnsIn_154 (by decide) h (fun z20 h => ?_)
    refine lv_goto (tgt := 175) hx hb dX12_turnsIn_155 (by decide) ?_
    exact r_iret hx hb hr hlocks hP hS dX12_turnsIn_175 h
set_option maxHeartbeats 4000000 in
set_option maxRecDepth 100000 in
theorem c_X12_turnsIn (l : Launch) (D : va_G) (G : Gt) (S : Sh) (M : Mm) (xl0 : Int) (zl1 : Int32) (zl2 : Int32) (zl3 : Int32) (zl4 : Int32) (zl5 : Int32) (zl6 : Int32) (zl7 : Int32) (post : Int → Mm → Prop) (h : wp_X12_turnsIn S M xl0 zl1.toInt zl2.toInt zl3.toInt zl4.toInt zl5.toInt zl6.toInt zl7.toInt post) : Met l yX12_turnsIn (cw_X12_turnsIn :: gw) RM_X12_turnsIn (va_Pc [.ref (adr G xl0), .int zl1, .int zl2, .int zl3, .int zl4, .int zl5, .int zl6, .int zl7] (fun U => KN D G U ∧ Wd D G S M U.heap)) (QI D G S post) 0 0 (aG G) := by
  refine Met.ofW (cc := cX12_turnsIn) (maxL := 11) (ret := (some .int)) (by decide) rfl ?_
  intro p e s m args below meth c s₁ B hml hv
  obtain ⟨rfl, hK, hP⟩ := hv
  have hx := B.exec
  have hb := B.bytes
  have hr := B.returns
  have hts := atoms_spec (ws := cw_X12_turnsIn :: gw) B.pre
  have hown : s.vm.findClass RX12 = some m.cls := findClass_of_methodNamed B.named
  have hlocks := B.notSynchronized
  have hS : va_S (aG G) s.heap s.heap [] := va_S.rf
  have C : Cx p s m ([.ref (adr G xl0), .int zl1, .int zl2, .int zl3, .int zl4, .int zl5, .int zl6, .int zl7] : List Value).toArray meth c D G cX12_turnsIn 11 (some .int) (cw_X12_turnsIn :: gw) RX12 := ⟨hx, hb, hr, hlocks, hml, hown, hts, hK⟩
  have hl := lv_entry ([.ref (adr G xl0), .int zl1, .int zl2, .int zl3, .int zl4, .int zl5, .int zl6, .int zl7]) (n := 11) (Nat.le_of_ble_eq_true rfl)
  rw [lg_entry_eq]
  generalize (lg_sl ([.ref (adr G xl0), .int zl1, .int zl2, .int zl3, .int zl4, .int zl5, .int zl6, .int zl7]) ++ List.replicate (11 - (lg_sl ([.ref (adr G xl0), .int zl1, .int zl2, .int zl3, .int zl4, .int zl5, .int zl6, .int zl7])).length) Slot.unset).toArray = ls at hl ⊢
  have hl : lv_has ls 11 [(0, .ref (adr G xl0)), (1, .int zl1), (2, .int zl2), (3, .int zl3), (4, .int zl4), (5, .int zl5), (6, .int zl6), (7, .int zl7)] := hl
  unfold wp_X12_turnsIn at h
  refine lv_aload_n hx hb dX12_turnsIn_0 rfl (lv_at hl 0 rfl) ?_
  refine lv_iload hx hb dX12_turnsIn_1 (lv_at hl 5 rfl) ?_
  refine q_Vi hx hb hml hown hts hK hP hS (c_X12_heatIn l D G S _ xl0 zl5 _ h.2) ⟨callB_of 1 hts (gw_good kw_1714) rfl rfl rfl (hts _ (List.mem_cons_of_mem _ kw_14)) (hts _ (List.mem_cons_of_mem _ kw_1711)) hd_X12_heatIn ⟨Nat.le_of_ble_eq_true rfl, Nat.le_of_ble_eq_true rfl⟩, (hts _ (List.mem_cons_of_mem _ kw_1713)), (hts _ (List.mem_cons_of_mem _ kp_100))⟩ h.1 (ci := 12) rfl (by decide) rfl hl.1 rfl (lv_room (Nat.le_of_ble_eq_true rfl)) dX12_turnsIn_3 ⟨Nat.zero_le _, Nat.zero_le _⟩ (fun z23 M21 H locs h hP hS => ?_)
  refine lv_istore (lv' := [(8, .int z23), (0, .ref (adr G xl0)), (1, .int zl1), (2, .int zl2), (3, .int zl3), (4, .int zl4), (5, .int zl5), (6, .int zl6), (7, .int zl7)]) hx hb dX12_turnsIn_6 hl (by decide) rfl (fun ls hl => ?_)
  refine lv_aload_n hx hb dX12_turnsIn_8 rfl (lv_at hl 1 rfl) ?_
  refine r_geti (C := RX12) (T := TX12) (N := 38) hx hb hts (fun w h => List.mem_cons_of_mem _ (iX12 w h)) hown hK hP rfl (by decide) rfl 21 (by decide) (hts _ (List.mem_cons_of_mem _ kw_1355)) (fun _ h9 => h9) dX12_turnsIn_9 (by decide) h (fun z25 h => ?_)
  refine r_if_ge (tgt := 29) hx hb dX12_turnsIn_12 (by decide) h (fun h => ?_) (fun h => ?_)
  · refine lv_aload_n hx hb dX12_turnsIn_29 rfl (lv_at hl 1 rfl) ?_
    refine r_getr (C := RX12) (T := TX12) (N := 38) hx hb hts (fun w h => List.mem_cons_of_mem _ (iX12 w h)) hown hK hP rfl (by decide) rfl 19 (by decide) (hts _ (List.mem_cons_of_mem _ kw_1353)) (fun _ h9 => h9) dX12_turnsIn_30 (by decide) h (fun x27 h => ?_)
    refine r_iconst hx hb dX12_turnsIn_33 (by decide) h (fun z29 h => ?_)
    refine lv_iload_n hx hb dX12_turnsIn_34 rfl (lv_at hl 2 rfl) ?_
    refine r_i2l hx hb dX12_turnsIn_35 h (fun z31 h => ?_)
    refine r_last hx hb hK hP hS dX12_turnsIn_36 h (fun M32 H locs h hP hS => ?_)
    refine lv_aload_n hx hb dX12_turnsIn_37 rfl (lv_at hl 1 rfl) ?_
    refine r_getr (C := RX12) (T := TX12) (N := 38) hx hb hts (fun w h => List.mem_cons_of_mem _ (iX12 w h)) hown hK hP rfl (by decide) rfl 19 (by decide) (hts _ (List.mem_cons_of_mem _ kw_1353)) (fun _ h9 => h9) dX12_turnsIn_38 (by decide) h (fun x34 h => ?_)
    refine r_iconst hx hb dX12_turnsIn_41 (by decide) h (fun z36 h => ?_)
    refine lv_aload_n hx hb dX12_turnsIn_42 rfl (lv_at hl 1 rfl) ?_
    refine lv_iload_n hx hb dX12_turnsIn_43 rfl (lv_at hl 2 rfl) ?_
    refine r_iconst hx hb dX12_turnsIn_44 (by decide) h (fun z38 h => ?_)
    refine q_Vi hx hb hml hown hts hK hP hS (c_X12_handOf l D G S _ xl0 zl1 z38 _ h.2) ⟨callB_of 2 hts (gw_good kw_1650) rfl rfl rfl (hts _ (List.mem_cons_of_mem _ kw_14)) (hts _ (List.mem_cons_of_mem _ kw_1647)) hd_X12_handOf ⟨Nat.le_of_ble_eq_true rfl, Nat.le_of_ble_eq_true rfl⟩, (hts _ (List.mem_cons_of_mem _ kw_1649)), (hts _ (List.mem_cons_of_mem _ kp_88))⟩ h.1 (ci := 12) rfl (by decide) rfl hl.1 rfl (lv_room (Nat.le_of_ble_eq_true rfl)) dX12_turnsIn_45 ⟨Nat.zero_le _, Nat.zero_le _⟩ (fun z41 M39 H locs h hP hS => ?_)
    refine r_i2l hx hb dX12_turnsIn_48 h (fun z43 h => ?_)
    refine r_last hx hb hK hP hS dX12_turnsIn_49 h (fun M44 H locs h hP hS => ?_)
    refine lv_aload_n hx hb dX12_turnsIn_50 rfl (lv_at hl 1 rfl) ?_
    refine r_getr (C := RX12) (T := TX12) (N := 38) hx hb hts (fun w h => List.mem_cons_of_mem _ (iX12 w h)) hown hK hP rfl (by decide) rfl 19 (by decide) (hts _ (List.mem_cons_of_mem _ kw_1353)) (fun _ h9 => h9) dX12_turnsIn_51 (by decide) h (fun x46 h => ?_)
    refine r_iconst hx hb dX12_turnsIn_54 (by decide) h (fun z48 h => ?_)
    refine lv_iload_n hx hb dX12_turnsIn_55 rfl (lv_at hl 3 rfl) ?_
    refine r_i2l hx hb dX12_turnsIn_56 h (fun z50 h => ?_)
    refine r_last hx hb hK hP hS dX12_turnsIn_57 h (fun M51 H locs h hP hS => ?_)
    refine lv_aload_n hx hb dX12_turnsIn_58 rfl (lv_at hl 1 rfl) ?_
    refine r_getr (C := RX12) (T := TX12) (N := 38) hx hb hts (fun w h => List.mem_cons_of_mem _ (iX12 w h)) hown hK hP rfl (by decide) rfl 19 (by decide) (hts _ (List.mem_cons_of_mem _ kw_1353)) (fun _ h9 => h9) dX12_turnsIn_59 (by decide) h (fun x53 h => ?_)
    refine r_iconst hx hb dX12_turnsIn_62 (by decide) h (fun z55 h => ?_)
    refine lv_iload_n hx hb dX12_turnsIn_63 rfl (lv_at hl 4 rfl) ?_
    refine r_i2l hx hb dX12_turnsIn_64 h (fun z57 h => ?_)
    refine r_last hx hb hK hP hS dX12_turnsIn_65 h (fun M58 H locs h hP hS => ?_)
    refine lv_aload_n hx hb dX12_turnsIn_66 rfl (lv_at hl 1 rfl) ?_
    refine r_getr (C := RX12) (T := TX12) (N := 38) hx hb hts (fun w h => List.mem_cons_of_mem _ (iX12 w h)) hown hK hP rfl (by decide) rfl 19 (by decide) (hts _ (List.mem_cons_of_mem _ kw_1353)) (fun _ h9 => h9) dX12_turnsIn_67 (by decide) h (fun x60 h => ?_)
    refine r_iconst hx hb dX12_turnsIn_70 (by decide) h (fun z62 h => ?_)
    refine lv_iload hx hb dX12_turnsIn_71 (lv_at hl 5 rfl) ?_
    refine r_i2l hx hb dX12_turnsIn_73 h (fun z64 h => ?_)
    refine r_last hx hb hK hP hS dX12_turnsIn_74 h (fun M65 H locs h hP hS => ?_)
    refine lv_aload_n hx hb dX12_turnsIn_75 rfl (lv_at hl 1 rfl) ?_
    refine r_getr (C := RX12) (T := TX12) (N := 38) hx hb hts (fun w h => List.mem_cons_of_mem _ (iX12 w h)) hown hK hP rfl (by decide) rfl 19 (by decide) (hts _ (List.mem_cons_of_mem _ kw_1353)) (fun _ h9 => h9) dX12_turnsIn_76 (by decide) h (fun x67 h => ?_)
    refine r_iconst hx hb dX12_turnsIn_79 (by decide) h (fun z69 h => ?_)
    refine lv_iload hx hb dX12_turnsIn_80 (lv_at hl 0 rfl) ?_
    refine r_i2l hx hb dX12_turnsIn_82 h (fun z71 h => ?_)
    refine r_last hx hb hK hP hS dX12_turnsIn_83 h (fun M72 H locs h hP hS => ?_)
    refine lv_aload_n hx hb dX12_turnsIn_84 rfl (lv_at hl 1 rfl) ?_
    refine r_getr (C := RX12) (T := TX12) (N := 38) hx hb hts (fun w h => List.mem_cons_of_mem _ (iX12 w h)) hown hK hP rfl (by decide) rfl 19 (by decide) (hts _ (List.mem_cons_of_mem _ kw_1353)) (fun _ h9 => h9) dX12_turnsIn_85 (by decide) h (fun x74 h => ?_)
    refine r_bipush hx hb dX12_turnsIn_88 (by decide) h (fun z76 h => ?_)
    refine lv_iload hx hb dX12_turnsIn_90 (lv_at hl 6 rfl) ?_
    refine r_i2l hx hb dX12_turnsIn_92 h (fun z78 h => ?_)
    refine r_last hx hb hK hP hS dX12_turnsIn_93 h (fun M79 H locs h hP hS => ?_)
    refine lv_aload_n hx hb dX12_turnsIn_94 rfl (lv_at hl 1 rfl) ?_
    refine r_getr (C := RX12) (T := TX12) (N := 38) hx hb hts (fun w h => List.mem_cons_of_mem _ (iX12 w h)) hown hK hP rfl (by decide) rfl 19 (by decide) (hts _ (List.mem_cons_of_mem _ kw_1353)) (fun _ h9 => h9) dX12_turnsIn_95 (by decide) h (fun x81 h => ?_)
    refine r_bipush hx hb dX12_turnsIn_98 (by decide) h (fun z83 h => ?_)
    refine lv_iload hx hb dX12_turnsIn_100 (lv_at hl 7 rfl) ?_
    refine r_i2l hx hb dX12_turnsIn_102 h (fun z85 h => ?_)
    refine r_last hx hb hK hP hS dX12_turnsIn_103 h (fun M86 H locs h hP hS => ?_)
    refine lv_aload_n hx hb dX12_turnsIn_104 rfl (lv_at hl 1 rfl) ?_
    refine r_getr (C := RX12) (T := TX12) (N := 38) hx hb hts (fun w h => List.mem_cons_of_mem _ (iX12 w h)) hown hK hP rfl (by decide) rfl 19 (by decide) (hts _ (List.mem_cons_of_mem _ kw_1353)) (fun _ h9 => h9) dX12_turnsIn_105 (by decide) h (fun x88 h => ?_)
    refine r_bipush hx hb dX12_turnsIn_108 (by decide) h (fun z90 h => ?_)
    refine lv_iload hx hb dX12_turnsIn_110 (lv_at hl 8 rfl) ?_
    refine r_i2l hx hb dX12_turnsIn_112 h (fun z92 h => ?_)
    refine r_last hx hb hK hP hS dX12_turnsIn_113 h (fun M93 H locs h hP hS => ?_)
    refine lv_aload_n hx hb dX12_turnsIn_114 rfl (lv_at hl 1 rfl) ?_
    refine r_getr (C := RX12) (T := TX12) (N := 38) hx hb hts (fun w h => List.mem_cons_of_mem _ (iX12 w h)) hown hK hP rfl (by decide) rfl 19 (by decide) (hts _ (List.mem_cons_of_mem _ kw_1353)) (fun _ h9 => h9) dX12_turnsIn_115 (by decide) h (fun x95 h => ?_)
    refine r_bipush hx hb dX12_turnsIn_118 (by decide) h (fun z97 h => ?_)
    refine lv_iload hx hb dX12_turnsIn_120 (lv_at hl 5 rfl) ?_
    refine lv_aload_n hx hb dX12_turnsIn_122 rfl (lv_at hl 1 rfl) ?_
    refine r_getr (C := RX12) (T := TX12) (N := 38) hx hb hts (fun w h => List.mem_cons_of_mem _ (iX12 w h)) hown hK hP rfl (by decide) rfl 20 (by decide) (hts _ (List.mem_cons_of_mem _ kw_1354)) (fun _ h9 => h9) dX12_turnsIn_123 (by decide) h (fun x99 h => ?_)
    refine r_iconst hx hb dX12_turnsIn_126 (by decide) h (fun z101 h => ?_)
    refine r_iald hx hb hK hP dX12_turnsIn_127 h (fun z103 h => ?_)
    refine r_icmp_lt (tgt := 135) hx hb dX12_turnsIn_128 (by decide) h (fun h => ?_) (fun h => ?_)
    · refine r_lconst hx hb dX12_turnsIn_135 (v := 0) (by decide) h (fun z105 h => ?_)
      exact t_X12_turnsIn_136 C xl0 x95 z97 z105 _ _ _ _ hP hS (lv_sub hl [1] rfl) h
    · refine r_lconst hx hb dX12_turnsIn_131 (v := 1) (by decide) h (fun z107 h => ?_)
      refine lv_goto (tgt := 136) hx hb dX12_turnsIn_132 (by decide) ?_
      exact t_X12_turnsIn_136 C xl0 x95 z97 z107 _ _ _ _ hP hS (lv_sub hl [1] rfl) h
  · refine lv_aload_n hx hb dX12_turnsIn_15 rfl (lv_at hl 1 rfl) ?_
    refine lv_iload_n hx hb dX12_turnsIn_16 rfl (lv_at hl 2 rfl) ?_
    refine r_iconst hx hb dX12_turnsIn_17 (by decide) h (fun z109 h => ?_)
    refine q_Vi hx hb hml hown hts hK hP hS (c_X12_handOf l D G S _ xl0 zl1 z109 _ h.2) ⟨callB_of 2 hts (gw_good kw_1650) rfl rfl rfl (hts _ (List.mem_cons_of_mem _ kw_14)) (hts _ (List.mem_cons_of_mem _ kw_1647)) hd_X12_handOf ⟨Nat.le_of_ble_eq_true rfl, Nat.le_of_ble_eq_true rfl⟩, (hts _ (List.mem_cons_of_mem _ kw_1649)), (hts _ (List.mem_cons_of_mem _ kp_88))⟩ h.1 (ci := 12) rfl (by decide) rfl hl.1 rfl (lv_room (Nat.le_of_ble_eq_true rfl)) dX12_turnsIn_18 ⟨Nat.zero_le _, Nat.zero_le _⟩ (fun z112 M110 H locs h hP hS => ?_)
    refine lv_iload_n hx hb dX12_turnsIn_21 rfl (lv_at hl 3 rfl) ?_
    refine r_iconst hx hb dX12_turnsIn_22 (by decide) h (fun z114 h => ?_)
    refine r_idiv hx hb dX12_turnsIn_23 h (fun z116 h => ?_)
    refine r_iadd hx hb dX12_turnsIn_24 h (fun z118 h => ?_)
    refine lv_iload hx hb dX12_turnsIn_25 (lv_at hl 0 rfl) ?_
    refine r_iadd hx hb dX12_turnsIn_27 h (fun z120 h => ?_)
    exact r_iret hx hb hr hlocks hP hS dX12_turnsIn_28 h
/-! TurningMilkModel.atMost(II)I -/
abbrev RM_X12_atMost : Room := { frames := 1, cells := 0, slots := 0, locals := 40 }
def cw_X12_atMost : Cond := Cond.code yX12_atMost cX12_atMost 2 (Option.some FieldType.int)
theorem hd_X12_atMost : yX12_atMost.cls ≠ "java/lang/invoke/MethodHandle" ∧ yX12_atMost.cls ≠ "java/lang/invoke/VarHandle" ∧ (parseMethodDescriptor yX12_atMost.desc).map (fun d => d.parameters.length) = some 2 := by decide +kernel
theorem dX12_atMost_0 : decode cX12_atMost 0 = .ok (.iload_n 0, 1) := by decide +kernel
theorem dX12_atMost_1 : decode cX12_atMost 1 = .ok (.iload_n 1, 1) := by decide +kernel
theorem dX12_atMost_2 : decode cX12_atMost 2 = .ok (.if_icmp .le 7, 3) := by decide +kernel
theorem dX12_atMost_5 : decode cX12_atMost 5 = .ok (.iload_n 1, 1) := by decide +kernel
theorem dX12_atMost_6 : decode cX12_atMost 6 = .ok (.goto 4, 3) := by decide +kernel
theorem dX12_atMost_9 : decode cX12_atMost 9 = .ok (.iload_n 0, 1) := by decide +kernel
theorem dX12_atMost_10 : decode cX12_atMost 10 = .ok (.ireturn, 1) := by decide +kernel
def wp_X12_atMost (S : Sh) (M : Mm) (u0 : Int) (u1 : Int) (post : Int → Mm → Prop) : Prop := wIf (u0 ≤ u1) (post u0 M) (post u1 M)
set_option maxHeartbeats 4000000 in
set_option maxRecDepth 100000 in
theorem c_X12_atMost (l : Launch) (D : va_G) (G : Gt) (S : Sh) (M : Mm) (zl0 : Int32) (zl1 : Int32) (post : Int → Mm → Prop) (h : wp_X12_atMost S M zl0.toInt zl1.toInt post) : Met l yX12_atMost (cw_X12_atMost :: gw) RM_X12_atMost (va_Pc [.int zl0, .int zl1] (fun U => KN D G U ∧ Wd D G S M U.heap)) (QI D G S post) 0 0 (aG G) := by
  refine Met.ofW (cc := cX12_atMost) (maxL := 2) (ret := (some .int)) (by decide) rfl ?_
  intro p e s m args below meth c s₁ B hml hv
  obtain ⟨rfl, hK, hP⟩ := hv
  have hx := B.exec
  have hb := B.bytes
  have hr := B.returns
  have hts := atoms_spec (ws := cw_X12_atMost :: gw) B.pre
  have hown : s.vm.findClass RX12 = some m.cls := findClass_of_methodNamed B.named
  have hlocks := B.notSynchronized
  have hS : va_S (aG G) s.heap s.heap [] := va_S.rf
  have C : Cx p s m ([.int zl0, .int zl1] : List Value).toArray meth c D G cX12_atMost 2 (some .int) (cw_X12_atMost :: gw) RX12 := ⟨hx, hb, hr, hlocks, hml, hown, hts, hK⟩
  have hl := lv_entry ([.int zl0, .int zl1]) (n := 2) (Nat.le_of_ble_eq_true rfl)
  rw [lg_entry_eq]
  generalize (lg_sl ([.int zl0, .int zl1]) ++ List.replicate (2 - (lg_sl ([.int zl0, .int zl1])).length) Slot.unset).toArray = ls at hl ⊢
  have hl : lv_has ls 2 [(0, .int zl0), (1, .int zl1)] := hl
  unfold wp_X12_atMost at h
  refine lv_iload_n hx hb dX12_atMost_0 rfl (lv_at hl 0 rfl) ?_
  refine lv_iload_n hx hb dX12_atMost_1 rfl (lv_at hl 1 rfl) ?_
  refine r_icmp_le (tgt := 9) hx hb dX12_atMost_2 (by decide) h (fun h => ?_) (fun h => ?_)
  · refine lv_iload_n hx hb dX12_atMost_9 rfl (lv_at hl 0 rfl) ?_
    exact r_iret hx hb hr hlocks hP hS dX12_atMost_10 h
  · refine lv_iload_n hx hb dX12_atMost_5 rfl (lv_at hl 1 rfl) ?_
    refine lv_goto (tgt := 10) hx hb dX12_atMost_6 (by decide) ?_
    exact r_iret hx hb hr hlocks hP hS dX12_atMost_10 h
/-! TurningMilkModel.turns(I)V -/
abbrev RM_X12_turns : Room := { frames := 5, cells := 0, slots := 0, locals := 147 }
def cw_X12_turns : Cond := Cond.code yX12_turns cX12_turns 5 (Option.none : Option FieldType)
theorem hd_X12_turns : yX12_turns.cls ≠ "java/lang/invoke/MethodHandle" ∧ yX12_turns.cls ≠ "java/lang/invoke/VarHandle" ∧ (parseMethodDescriptor yX12_turns.desc).map (fun d => d.parameters.length) = some 1 := by decide +kernel
theorem dX12_turns_0 : decode cX12_turns 0 = .ok (.bipush 35, 2) := by decide +kernel
theorem dX12_turns_2 : decode cX12_turns 2 = .ok (.iconst 4, 1) := by decide +kernel
theorem dX12_turns_3 : decode cX12_turns 3 = .ok (.iload_n 1, 1) := by decide +kernel
theorem dX12_turns_4 : decode cX12_turns 4 = .ok (.imul, 1) := by decide +kernel
theorem dX12_turns_5 : decode cX12_turns 5 = .ok (.iadd, 1) := by decide +kernel
theorem dX12_turns_6 : decode cX12_turns 6 = .ok (.istore_n 2, 1) := by decide +kernel
theorem dX12_turns_7 : decode cX12_turns 7 = .ok (.aload_n 0, 1) := by decide +kernel
theorem dX12_turns_8 : decode cX12_turns 8 = .ok (.getfield 39, 3) := by decide +kernel
theorem dX12_turns_11 : decode cX12_turns 11 = .ok (.iload_n 2, 1) := by decide +kernel
theorem dX12_turns_12 : decode cX12_turns 12 = .ok (.iconst 1, 1) := by decide +kernel
theorem dX12_turns_13 : decode cX12_turns 13 = .ok (.iadd, 1) := by decide +kernel
theorem dX12_turns_14 : decode cX12_turns 14 = .ok (.iaload, 1) := by decide +kernel
theorem dX12_turns_15 : decode cX12_turns 15 = .ok (.istore_n 3, 1) := by decide +kernel
theorem dX12_turns_16 : decode cX12_turns 16 = .ok (.iload_n 3, 1) := by decide +kernel
theorem dX12_turns_17 : decode cX12_turns 17 = .ok (.ifCond .ge 24, 3) := by decide +kernel
theorem dX12_turns_20 : decode cX12_turns 20 = .ok (.aload_n 0, 1) := by decide +kernel
theorem dX12_turns_21 : decode cX12_turns 21 = .ok (.getfield 39, 3) := by decide +kernel
theorem dX12_turns_24 : decode cX12_turns 24 = .ok (.iconst 1, 1) := by decide +kernel
theorem dX12_turns_25 : decode cX12_turns 25 = .ok (.iaload, 1) := by decide +kernel
theorem dX12_turns_26 : decode cX12_turns 26 = .ok (.aload_n 0, 1) := by decide +kernel
theorem dX12_turns_27 : decode cX12_turns 27 = .ok (.aload_n 0, 1) := by decide +kernel
theorem dX12_turns_28 : decode cX12_turns 28 = .ok (.getfield 39, 3) := by decide +kernel
theorem dX12_turns_31 : decode cX12_turns 31 = .ok (.bipush 7, 2) := by decide +kernel
theorem dX12_turns_33 : decode cX12_turns 33 = .ok (.iaload, 1) := by decide +kernel
theorem dX12_turns_34 : decode cX12_turns 34 = .ok (.invokevirtual 325, 3) := by decide +kernel
theorem dX12_turns_37 : decode cX12_turns 37 = .ok (.iadd, 1) := by decide +kernel
theorem dX12_turns_38 : decode cX12_turns 38 = .ok (.goto 52, 3) := by decide +kernel
theorem dX12_turns_41 : decode cX12_turns 41 = .ok (.aload_n 0, 1) := by decide +kernel
theorem dX12_turns_42 : decode cX12_turns 42 = .ok (.iload_n 3, 1) := by decide +kernel
theorem dX12_turns_43 : decode cX12_turns 43 = .ok (.aload_n 0, 1) := by decide +kernel
theorem dX12_turns_44 : decode cX12_turns 44 = .ok (.iload_n 3, 1) := by decide +kernel
theorem dX12_turns_45 : decode cX12_turns 45 = .ok (.iconst 2, 1) := by decide +kernel
theorem dX12_turns_46 : decode cX12_turns 46 = .ok (.invokevirtual 306, 3) := by decide +kernel
theorem dX12_turns_49 : decode cX12_turns 49 = .ok (.iload_n 1, 1) := by decide +kernel
theorem dX12_turns_50 : decode cX12_turns 50 = .ok (.aload_n 0, 1) := by decide +kernel
theorem dX12_turns_51 : decode cX12_turns 51 = .ok (.getfield 39, 3) := by decide +kernel
theorem dX12_turns_54 : decode cX12_turns 54 = .ok (.iload_n 2, 1) := by decide +kernel
theorem dX12_turns_55 : decode cX12_turns 55 = .ok (.iconst 2, 1) := by decide +kernel
theorem dX12_turns_56 : decode cX12_turns 56 = .ok (.iadd, 1) := by decide +kernel
theorem dX12_turns_57 : decode cX12_turns 57 = .ok (.iaload, 1) := by decide +kernel
theorem dX12_turns_58 : decode cX12_turns 58 = .ok (.aload_n 0, 1) := by decide +kernel
theorem dX12_turns_59 : decode cX12_turns 59 = .ok (.getfield 39, 3) := by decide +kernel
theorem dX12_turns_62 : decode cX12_turns 62 = .ok (.bipush 7, 2) := by decide +kernel
theorem dX12_turns_64 : decode cX12_turns 64 = .ok (.iaload, 1) := by decide +kernel
theorem dX12_turns_65 : decode cX12_turns 65 = .ok (.aload_n 0, 1) := by decide +kernel
theorem dX12_turns_66 : decode cX12_turns 66 = .ok (.iload_n 3, 1) := by decide +kernel
theorem dX12_turns_67 : decode cX12_turns 67 = .ok (.iconst 1, 1) := by decide +kernel
theorem dX12_turns_68 : decode cX12_turns 68 = .ok (.invokevirtual 306, 3) := by decide +kernel
theorem dX12_turns_71 : decode cX12_turns 71 = .ok (.ifCond .le 7, 3) := by decide +kernel
theorem dX12_turns_74 : decode cX12_turns 74 = .ok (.iconst 1, 1) := by decide +kernel
theorem dX12_turns_75 : decode cX12_turns 75 = .ok (.goto 4, 3) := by decide +kernel
theorem dX12_turns_78 : decode cX12_turns 78 = .ok (.iconst 0, 1) := by decide +kernel
theorem dX12_turns_79 : decode cX12_turns 79 = .ok (.aload_n 0, 1) := by decide +kernel
theorem dX12_turns_80 : decode cX12_turns 80 = .ok (.iload_n 3, 1) := by decide +kernel
theorem dX12_turns_81 : decode cX12_turns 81 = .ok (.invokevirtual 309, 3) := by decide +kernel
theorem dX12_turns_84 : decode cX12_turns 84 = .ok (.invokestatic 344, 3) := by decide +kernel
theorem dX12_turns_87 : decode cX12_turns 87 = .ok (.invokevirtual 337, 3) := by decide +kernel
theorem dX12_turns_90 : decode cX12_turns 90 = .ok (.istore 4, 2) := by decide +kernel
theorem dX12_turns_92 : decode cX12_turns 92 = .ok (.aload_n 0, 1) := by decide +kernel
theorem dX12_turns_93 : decode cX12_turns 93 = .ok (.getfield 39, 3) := by decide +kernel
theorem dX12_turns_96 : decode cX12_turns 96 = .ok (.iload_n 2, 1) := by decide +kernel
theorem dX12_turns_97 : decode cX12_turns 97 = .ok (.iconst 2, 1) := by decide +kernel
theorem dX12_turns_98 : decode cX12_turns 98 = .ok (.iadd, 1) := by decide +kernel
theorem dX12_turns_99 : decode cX12_turns 99 = .ok (.aload_n 0, 1) := by decide +kernel
theorem dX12_turns_100 : decode cX12_turns 100 = .ok (.getfield 39, 3) := by decide +kernel
theorem dX12_turns_103 : decode cX12_turns 103 = .ok (.iload_n 2, 1) := by decide +kernel
theorem dX12_turns_104 : decode cX12_turns 104 = .ok (.iconst 2, 1) := by decide +kernel
theorem dX12_turns_105 : decode cX12_turns 105 = .ok (.iadd, 1) := by decide +kernel
theorem dX12_turns_106 : decode cX12_turns 106 = .ok (.iaload, 1) := by decide +kernel
theorem dX12_turns_107 : decode cX12_turns 107 = .ok (.iload 4, 2) := by decide +kernel
theorem dX12_turns_109 : decode cX12_turns 109 = .ok (.iadd, 1) := by decide +kernel
theorem dX12_turns_110 : decode cX12_turns 110 = .ok (.sipush 999, 3) := by decide +kernel
theorem dX12_turns_113 : decode cX12_turns 113 = .ok (.invokestatic 334, 3) := by decide +kernel
theorem dX12_turns_116 : decode cX12_turns 116 = .ok (.iastore, 1) := by decide +kernel
theorem dX12_turns_117 : decode cX12_turns 117 = .ok (.return_, 1) := by decide +kernel
def wp_X12_turns_90 (S : Sh) (post : Mm → Prop) (u0 : Int) (u2 : Int) (t0 : Int) (M : Mm) : Prop := wGetR S M u0 12 20 fun v1 => wC 2 fun v3 => wA u2 v3 fun v5 => wGetR S M u0 12 20 fun v7 => wC 2 fun v9 => wA u2 v9 fun v11 => wLd S M v7 14 v11 fun v13 => wA v13 t0 fun v15 => wC 999 fun v17 => wp_X12_atMost S M v15 v17 <| fun v20 M19 => wSt S M19 v1 14 v5 v20 fun M22 => post M22
def wp_X12_turns_79 (S : Sh) (post : Mm → Prop) (u0 : Int) (u2 : Int) (u3 : Int) (t0 : Int) (t1 : Int) (t2 : Int) (t3 : Int) (t4 : Int) (t5 : Int) (t6 : Int) (M : Mm) : Prop := isK S u0 12 ∧ (wp_X12_held S M u0 u3 <| fun v24 M23 => wp_X12_bits S M23 v24 <| fun v27 M26 => isK S t0 12 ∧ (wp_X12_turnsIn S M26 t0 t1 t2 t3 t4 t5 t6 v27 <| fun v30 M29 => wp_X12_turns_90 S post u0 u2 v30 M29))
def wp_X12_turns (S : Sh) (M : Mm) (u0 : Int) (u1 : Int) (post : Mm → Prop) : Prop := wC 35 fun v32 => wC 4 fun v34 => wM v34 u1 fun v36 => wA v32 v36 fun v38 => wGetR S M u0 12 20 fun v40 => wC 1 fun v42 => wA v38 v42 fun v44 => wLd S M v40 14 v44 fun v46 => wIf (0 ≤ v46) (wC 2 fun v48 => isK S u0 12 ∧ (wp_X12_handOf S M u0 v46 v48 <| fun v51 M50 => wGetR S M50 u0 12 20 fun v53 => wC 2 fun v55 => wA v38 v55 fun v57 => wLd S M50 v53 14 v57 fun v59 => wGetR S M50 u0 12 20 fun v61 => wC 7 fun v63 => wLd S M50 v61 14 v63 fun v65 => wC 1 fun v67 => isK S u0 12 ∧ (wp_X12_handOf S M50 u0 v46 v67 <| fun v70 M69 => wIf (v70 ≤ 0) (wC 0 fun v72 => wp_X12_turns_79 S post u0 v38 v46 u0 v46 v51 u1 v59 v65 v72 M69) (wC 1 fun v74 => wp_X12_turns_79 S post u0 v38 v46 u0 v46 v51 u1 v59 v65 v74 M69)))) (wGetR S M u0 12 20 fun v76 => wC 1 fun v78 => wLd S M v76 14 v78 fun v80 => wGetR S M u0 12 20 fun v82 => wC 7 fun v84 => wLd S M v82 14 v84 fun v86 => isK S u0 12 ∧ (wp_X12_heatIn S M u0 v86 <| fun v89 M88 => wA v80 v89 fun v91 => wp_X12_turns_90 S post u0 v38 v91 M88))
set_option maxHeartbeats 4000000 in
set_option maxRecDepth 100000 in
theorem t_X12_turns_90 {p : Program} {l : Launch} {e : Env} {s : State} {m : MethodId} {args : Array Value} {below : List Frame} {meth : Method} {c : Code} {D : va_G} {G : Gt} {S : Sh} {post : Mm → Prop} (C : Cx p s m args meth c D G cX12_turns 5 none (cw_X12_turns :: gw) RX12) : ∀ (xl0 : Int) (zl2 : Int32) (zs0 : Int32) (M : Mm) (H : Heap) (locs : List Loc) (ls : Array Slot), Wd D G S M H → va_S (aG G) s.heap H locs → lv_has ls 5 [(0, .ref (adr G xl0)), (2, .int zl2)] → wp_X12_turns_90 S post xl0 zl2.toInt zs0.toInt M → W p l e RM_X12_turns s m args below meth c H locs 0 0 (MQ below (QV D G S post) args s 0 0 (aG G)) (F0 m 90 ls [.int zs0]) := by
  obtain ⟨hx, hb, hr, hlocks, hml, hown, hts, hK⟩ := id C
  intro xl0 zl2 zs0 M H locs ls hP hS hl h
  unfold wp_X12_turns_90 at h
  refine lv_istore (lv' := [(4, .int zs0), (0, .ref (adr G xl0)), (2, .int zl2)]) hx hb dX12_turns_90 hl (by decide) rfl (fun ls hl => ?_)
  refine lv_aload_n hx hb dX12_turns_92 rfl (lv_at hl 1 rfl) ?_
  refine r_getr (C := RX12) (T := TX12) (N := 38) hx hb hts (fun w h => List.mem_cons_of_mem _ (iX12 w h)) hown hK hP rfl (by decide) rfl 20 (by decide) (hts _ (List.mem_cons_of_mem _ kw_1354)) (fun _ h9 => h9) dX12_turns_93 (by decide) h (fun x2 h => ?_)
  refine lv_iload_n hx hb dX12_turns_96 rfl (lv_at hl 2 rfl) ?_
  refine r_iconst hx hb dX12_turns_97 (by decide) h (fun z4 h => ?_)
  refine r_iadd hx hb dX12_turns_98 h (fun z6 h => ?_)
  refine lv_aload_n hx hb dX12_turns_99 rfl (lv_at hl 1 rfl) ?_
  refine r_getr (C := RX12) (T := TX12) (N := 38) hx hb hts (fun w h => List.mem_cons_of_mem _ (iX12 w h)) hown hK hP rfl (by decide) rfl 20 (by decide) (hts _ (List.mem_cons_of_mem _ kw_1354)) (fun _ h9 => h9) dX12_turns_100 (by decide) h (fun x8 h => ?_)
  refine lv_iload_n hx hb dX12_turns_103 rfl (lv_at hl 2 rfl) ?_
  refine r_iconst hx hb dX12_turns_104 (by decide) h (fun z10 h => ?_)
  refine r_iadd hx hb dX12_turns_105 h (fun z12 h => ?_)
  refine r_iald hx hb hK hP dX12_turns_106 h (fun z14 h => ?_)
  refine lv_iload hx hb dX12_turns_107 (lv_at hl 0 rfl) ?_
  refine r_iadd hx hb dX12_turns_109 h (fun z16 h => ?_)
  refine r_sipush hx hb dX12_turns_110 (by decide) h (fun z18 h => ?_)
  refine q_Si hx hb hml hown hts hK hP hS (c_X12_atMost l D G S _ z16 z18 _ h) ⟨callB_of 2 hts (gw_good kw_1744) rfl rfl rfl (hts _ (List.mem_cons_of_mem _ kw_14)) (hts _ (List.mem_cons_of_mem _ kw_1742)) hd_X12_atMost ⟨Nat.le_of_ble_eq_true rfl, Nat.le_of_ble_eq_true rfl⟩, (hts _ (List.mem_cons_of_mem _ kw_1743))⟩ rfl hl.1 rfl (lv_room (Nat.le_of_ble_eq_true rfl)) dX12_turns_113 ⟨Nat.zero_le _, Nat.zero_le _⟩ (fun z21 M19 H locs h hP hS => ?_)
  refine r_iast hx hb hK hP hS dX12_turns_116 h (fun M22 H locs h hP hS => ?_)
  exact r_vret hx hb hr hlocks hP hS dX12_turns_117 h
set_option maxHeartbeats 4000000 in
set_option maxRecDepth 100000 in
theorem t_X12_turns_79 {p : Program} {l : Launch} {e : Env} {s : State} {m : MethodId} {args : Array Value} {below : List Frame} {meth : Method} {c : Code} {D : va_G} {G : Gt} {S : Sh} {post : Mm → Prop} (C : Cx p s m args meth c D G cX12_turns 5 none (cw_X12_turns :: gw) RX12) : ∀ (xl0 : Int) (zl2 : Int32) (zl3 : Int32) (xs0 : Int) (zs1 : Int32) (zs2 : Int32) (zs3 : Int32) (zs4 : Int32) (zs5 : Int32) (zs6 : Int32) (M : Mm) (H : Heap) (locs : List Loc) (ls : Array Slot), Wd D G S M H → va_S (aG G) s.heap H locs → lv_has ls 5 [(0, .ref (adr G xl0)), (2, .int zl2), (3, .int zl3)] → wp_X12_turns_79 S post xl0 zl2.toInt zl3.toInt xs0 zs1.toInt zs2.toInt zs3.toInt zs4.toInt zs5.toInt zs6.toInt M → W p l e RM_X12_turns s m args below meth c H locs 0 0 (MQ below (QV D G S post) args s 0 0 (aG G)) (F0 m 79 ls [.int zs6, .int zs5, .int zs4, .int zs3, .int zs2, .int zs1, .ref (adr G xs0)]) := by
  obtain ⟨hx, hb, hr, hlocks, hml, hown, hts, hK⟩ := id C
  intro xl0 zl2 zl3 xs0 zs1 zs2 zs3 zs4 zs5 zs6 M H locs ls hP hS hl h
  unfold wp_X12_turns_79 at h
  refine lv_aload_n hx hb dX12_turns_79 rfl (lv_at hl 0 rfl) ?_
  refine lv_iload_n hx hb dX12_turns_80 rfl (lv_at hl 2 rfl) ?_
  refine q_Vi hx hb hml hown hts hK hP hS (c_X12_held l D G S _ xl0 zl3 _ h.2) ⟨callB_of 1 hts (gw_good kw_1654) rfl rfl rfl (hts _ (List.mem_cons_of_mem _ kw_14)) (hts _ (List.mem_cons_of_mem _ kw_1651)) hd_X12_held ⟨Nat.le_of_ble_eq_true rfl, Nat.le_of_ble_eq_true rfl⟩, (hts _ (List.mem_cons_of_mem _ kw_1653)), (hts _ (List.mem_cons_of_mem _ kp_89))⟩ h.1 (ci := 12) rfl (by decide) rfl hl.1 rfl (lv_room (Nat.le_of_ble_eq_true rfl)) dX12_turns_81 ⟨Nat.zero_le _, Nat.zero_le _⟩ (fun z25 M23 H locs h hP hS => ?_)
  refine q_Si hx hb hml hown hts hK hP hS (c_X12_bits l D G S _ z25 _ h) ⟨callB_of 1 hts (gw_good kw_1717) rfl rfl rfl (hts _ (List.mem_cons_of_mem _ kw_14)) (hts _ (List.mem_cons_of_mem _ kw_1715)) hd_X12_bits ⟨Nat.le_of_ble_eq_true rfl, Nat.le_of_ble_eq_true rfl⟩, (hts _ (List.mem_cons_of_mem _ kw_1716))⟩ rfl hl.1 rfl (lv_room (Nat.le_of_ble_eq_true rfl)) dX12_turns_84 ⟨Nat.zero_le _, Nat.zero_le _⟩ (fun z28 M26 H locs h hP hS => ?_)
  refine q_Vi hx hb hml hown hts hK hP hS (c_X12_turnsIn l D G S _ xs0 zs1 zs2 zs3 zs4 zs5 zs6 z28 _ h.2) ⟨callB_of 7 hts (gw_good kw_1721) rfl rfl rfl (hts _ (List.mem_cons_of_mem _ kw_14)) (hts _ (List.mem_cons_of_mem _ kw_1718)) hd_X12_turnsIn ⟨Nat.le_of_ble_eq_true rfl, Nat.le_of_ble_eq_true rfl⟩, (hts _ (List.mem_cons_of_mem _ kw_1720)), (hts _ (List.mem_cons_of_mem _ kp_101))⟩ h.1 (ci := 12) rfl (by decide) rfl hl.1 rfl (lv_room (Nat.le_of_ble_eq_true rfl)) dX12_turns_87 ⟨Nat.zero_le _, Nat.zero_le _⟩ (fun z31 M29 H locs h hP hS => ?_)
  exact t_X12_turns_90 C xl0 zl2 z31 _ _ _ _ hP hS (lv_sub hl [0, 1] rfl) h
set_option maxHeartbeats 4000000 in
set_option maxRecDepth 100000 in
theorem c_X12_turns (l : Launch) (D : va_G) (G : Gt) (S : Sh) (M : Mm) (xl0 : Int) (zl1 : Int32) (post : Mm → Prop) (h : wp_X12_turns S M xl0 zl1.toInt post) : Met l yX12_turns (cw_X12_turns :: gw) RM_X12_turns (va_Pc [.ref (adr G xl0), .int zl1] (fun U => KN D G U ∧ Wd D G S M U.heap)) (QV D G S post) 0 0 (aG G) := by
  refine Met.ofW (cc := cX12_turns) (maxL := 5) (ret := none) (by decide) rfl ?_
  intro p e s m args below meth c s₁ B hml hv
  obtain ⟨rfl, hK, hP⟩ := hv
  have hx := B.exec
  have hb := B.bytes
  have hr := B.returns
  have hts := atoms_spec (ws := cw_X12_turns :: gw) B.pre
  have hown : s.vm.findClass RX12 = some m.cls := findClass_of_methodNamed B.named
  have hlocks := B.notSynchronized
  have hS : va_S (aG G) s.heap s.heap [] := va_S.rf
  have C : Cx p s m ([.ref (adr G xl0), .int zl1] : List Value).toArray meth c D G cX12_turns 5 none (cw_X12_turns :: gw) RX12 := ⟨hx, hb, hr, hlocks, hml, hown, hts, hK⟩
  have hl := lv_entry ([.ref (adr G xl0), .int zl1]) (n := 5) (Nat.le_of_ble_eq_true rfl)
  rw [lg_entry_eq]
  generalize (lg_sl ([.ref (adr G xl0), .int zl1]) ++ List.replicate (5 - (lg_sl ([.ref (adr G xl0), .int zl1])).length) Slot.unset).toArray = ls at hl ⊢
  have hl : lv_has ls 5 [(0, .ref (adr G xl0)), (1, .int zl1)] := hl
  unfold wp_X12_turns at h
  refine r_bipush hx hb dX12_turns_0 (by decide) h (fun z33 h => ?_)
  refine r_iconst hx hb dX12_turns_2 (by decide) h (fun z35 h => ?_)
  refine lv_iload_n hx hb dX12_turns_3 rfl (lv_at hl 1 rfl) ?_
  refine r_imul hx hb dX12_turns_4 h (fun z37 h => ?_)
  refine r_iadd hx hb dX12_turns_5 h (fun z39 h => ?_)
  refine lv_istore_n (lv' := [(2, .int z39), (0, .ref (adr G xl0)), (1, .int zl1)]) hx hb dX12_turns_6 rfl hl (by decide) rfl (fun ls hl => ?_)
  refine lv_aload_n hx hb dX12_turns_7 rfl (lv_at hl 1 rfl) ?_
  refine r_getr (C := RX12) (T := TX12) (N := 38) hx hb hts (fun w h => List.mem_cons_of_mem _ (iX12 w h)) hown hK hP rfl (by decide) rfl 20 (by decide) (hts _ (List.mem_cons_of_mem _ kw_1354)) (fun _ h9 => h9) dX12_turns_8 (by decide) h (fun x41 h => ?_)
  refine lv_iload_n hx hb dX12_turns_11 rfl (lv_at hl 0 rfl) ?_
  refine r_iconst hx hb dX12_turns_12 (by decide) h (fun z43 h => ?_)
  refine r_iadd hx hb dX12_turns_13 h (fun z45 h => ?_)
  refine r_iald hx hb hK hP dX12_turns_14 h (fun z47 h => ?_)
  refine lv_istore_n (lv' := [(3, .int z47), (2, .int z39), (0, .ref (adr G xl0)), (1, .int zl1)]) hx hb dX12_turns_15 rfl hl (by decide) rfl (fun ls hl => ?_)
  refine lv_iload_n hx hb dX12_turns_16 rfl (lv_at hl 0 rfl) ?_
  refine r_if_ge (tgt := 41) hx hb dX12_turns_17 (by decide) h (fun h => ?_) (fun h => ?_)
  · refine lv_aload_n hx hb dX12_turns_41 rfl (lv_at hl 2 rfl) ?_
    refine lv_iload_n hx hb dX12_turns_42 rfl (lv_at hl 0 rfl) ?_
    refine lv_aload_n hx hb dX12_turns_43 rfl (lv_at hl 2 rfl) ?_
    refine lv_iload_n hx hb dX12_turns_44 rfl (lv_at hl 0 rfl) ?_
    refine r_iconst hx hb dX12_turns_45 (by decide) h (fun z49 h => ?_)
    refine q_Vi hx hb hml hown hts hK hP hS (c_X12_handOf l D G S _ xl0 z47 z49 _ h.2) ⟨callB_of 2 hts (gw_good kw_1650) rfl rfl rfl (hts _ (List.mem_cons_of_mem _ kw_14)) (hts _ (List.mem_cons_of_mem _ kw_1647)) hd_X12_handOf ⟨Nat.le_of_ble_eq_true rfl, Nat.le_of_ble_eq_true rfl⟩, (hts _ (List.mem_cons_of_mem _ kw_1649)), (hts _ (List.mem_cons_of_mem _ kp_88))⟩ h.1 (ci := 12) rfl (by decide) rfl hl.1 rfl (lv_room (Nat.le_of_ble_eq_true rfl)) dX12_turns_46 ⟨Nat.zero_le _, Nat.zero_le _⟩ (fun z52 M50 H locs h hP hS => ?_)
    refine lv_iload_n hx hb dX12_turns_49 rfl (lv_at hl 3 rfl) ?_
    refine lv_aload_n hx hb dX12_turns_50 rfl (lv_at hl 2 rfl) ?_
    refine r_getr (C := RX12) (T := TX12) (N := 38) hx hb hts (fun w h => List.mem_cons_of_mem _ (iX12 w h)) hown hK hP rfl (by decide) rfl 20 (by decide) (hts _ (List.mem_cons_of_mem _ kw_1354)) (fun _ h9 => h9) dX12_turns_51 (by decide) h (fun x54 h => ?_)
    refine lv_iload_n hx hb dX12_turns_54 rfl (lv_at hl 1 rfl) ?_
    refine r_iconst hx hb dX12_turns_55 (by decide) h (fun z56 h => ?_)
    refine r_iadd hx hb dX12_turns_56 h (fun z58 h => ?_)
    refine r_iald hx hb hK hP dX12_turns_57 h (fun z60 h => ?_)
    refine lv_aload_n hx hb dX12_turns_58 rfl (lv_at hl 2 rfl) ?_
    refine r_getr (C := RX12) (T := TX12) (N := 38) hx hb hts (fun w h => List.mem_cons_of_mem _ (iX12 w h)) hown hK hP rfl (by decide) rfl 20 (by decide) (hts _ (List.mem_cons_of_mem _ kw_1354)) (fun _ h9 => h9) dX12_turns_59 (by decide) h (fun x62 h => ?_)
    refine r_bipush hx hb dX12_turns_62 (by decide) h (fun z64 h => ?_)
    refine r_iald hx hb hK hP dX12_turns_64 h (fun z66 h => ?_)
    refine lv_aload_n hx hb dX12_turns_65 rfl (lv_at hl 2 rfl) ?_
    refine lv_iload_n hx hb dX12_turns_66 rfl (lv_at hl 0 rfl) ?_
    refine r_iconst hx hb dX12_turns_67 (by decide) h (fun z68 h => ?_)
    refine q_Vi hx hb hml hown hts hK hP hS (c_X12_handOf l D G S _ xl0 z47 z68 _ h.2) ⟨callB_of 2 hts (gw_good kw_1650) rfl rfl rfl (hts _ (List.mem_cons_of_mem _ kw_14)) (hts _ (List.mem_cons_of_mem _ kw_1647)) hd_X12_handOf ⟨Nat.le_of_ble_eq_true rfl, Nat.le_of_ble_eq_true rfl⟩, (hts _ (List.mem_cons_of_mem _ kw_1649)), (hts _ (List.mem_cons_of_mem _ kp_88))⟩ h.1 (ci := 12) rfl (by decide) rfl hl.1 rfl (lv_room (Nat.le_of_ble_eq_true rfl)) dX12_turns_68 ⟨Nat.zero_le _, Nat.zero_le _⟩ (fun z71 M69 H locs h hP hS => ?_)
    refine r_if_le (tgt := 78) hx hb dX12_turns_71 (by decide) h (fun h => ?_) (fun h => ?_)
    · refine r_iconst hx hb dX12_turns_78 (by decide) h (fun z73 h => ?_)
      exact t_X12_turns_79 C xl0 z39 z47 xl0 z47 z52 zl1 z60 z66 z73 _ _ _ _ hP hS (lv_sub hl [2, 1, 0] rfl) h
    · refine r_iconst hx hb dX12_turns_74 (by decide) h (fun z75 h => ?_)
      refine lv_goto (tgt := 79) hx hb dX12_turns_75 (by decide) ?_
      exact t_X12_turns_79 C xl0 z39 z47 xl0 z47 z52 zl1 z60 z66 z75 _ _ _ _ hP hS (lv_sub hl [2, 1, 0] rfl) h
  · refine lv_aload_n hx hb dX12_turns_20 rfl (lv_at hl 2 rfl) ?_
    refine r_getr (C := RX12) (T := TX12) (N := 38) hx hb hts (fun w h => List.mem_cons_of_mem _ (iX12 w h)) hown hK hP rfl (by decide) rfl 20 (by decide) (hts _ (List.mem_cons_of_mem _ kw_1354)) (fun _ h9 => h9) dX12_turns_21 (by decide) h (fun x77 h => ?_)
    refine r_iconst hx hb dX12_turns_24 (by decide) h (fun z79 h => ?_)
    refine r_iald hx hb hK hP dX12_turns_25 h (fun z81 h => ?_)
    refine lv_aload_n hx hb dX12_turns_26 rfl (lv_at hl 2 rfl) ?_
    refine lv_aload_n hx hb dX12_turns_27 rfl (lv_at hl 2 rfl) ?_
    refine r_getr (C := RX12) (T := TX12) (N := 38) hx hb hts (fun w h => List.mem_cons_of_mem _ (iX12 w h)) hown hK hP rfl (by decide) rfl 20 (by decide) (hts _ (List.mem_cons_of_mem _ kw_1354)) (fun _ h9 => h9) dX12_turns_28 (by decide) h (fun x83 h => ?_)
    refine r_bipush hx hb dX12_turns_31 (by decide) h (fun z85 h => ?_)
    refine r_iald hx hb hK hP dX12_turns_33 h (fun z87 h => ?_)
    refine q_Vi hx hb hml hown hts hK hP hS (c_X12_heatIn l D G S _ xl0 z87 _ h.2) ⟨callB_of 1 hts (gw_good kw_1714) rfl rfl rfl (hts _ (List.mem_cons_of_mem _ kw_14)) (hts _ (List.mem_cons_of_mem _ kw_1711)) hd_X12_heatIn ⟨Nat.le_of_ble_eq_true rfl, Nat.le_of_ble_eq_true rfl⟩, (hts _ (List.mem_cons_of_mem _ kw_1713)), (hts _ (List.mem_cons_of_mem _ kp_100))⟩ h.1 (ci := 12) rfl (by decide) rfl hl.1 rfl (lv_room (Nat.le_of_ble_eq_true rfl)) dX12_turns_34 ⟨Nat.zero_le _, Nat.zero_le _⟩ (fun z90 M88 H locs h hP hS => ?_)
    refine r_iadd hx hb dX12_turns_37 h (fun z92 h => ?_)
    refine lv_goto (tgt := 90) hx hb dX12_turns_38 (by decide) ?_
    exact t_X12_turns_90 C xl0 z39 z92 _ _ _ _ hP hS (lv_sub hl [2, 1] rfl) h
/-! TurningMilkModel.moreTired(II)I -/
abbrev RM_X12_moreTired : Room := { frames := 2, cells := 0, slots := 0, locals := 62 }
def cw_X12_moreTired : Cond := Cond.code yX12_moreTired cX12_moreTired 3 (Option.some FieldType.int)
theorem hd_X12_moreTired : yX12_moreTired.cls ≠ "java/lang/invoke/MethodHandle" ∧ yX12_moreTired.cls ≠ "java/lang/invoke/VarHandle" ∧ (parseMethodDescriptor yX12_moreTired.desc).map (fun d => d.parameters.length) = some 2 := by decide +kernel
theorem dX12_moreTired_0 : decode cX12_moreTired 0 = .ok (.iload_n 2, 1) := by decide +kernel
theorem dX12_moreTired_1 : decode cX12_moreTired 1 = .ok (.aload_n 0, 1) := by decide +kernel
theorem dX12_moreTired_2 : decode cX12_moreTired 2 = .ok (.iload_n 1, 1) := by decide +kernel
theorem dX12_moreTired_3 : decode cX12_moreTired 3 = .ok (.iconst 4, 1) := by decide +kernel
theorem dX12_moreTired_4 : decode cX12_moreTired 4 = .ok (.invokevirtual 306, 3) := by decide +kernel
theorem dX12_moreTired_7 : decode cX12_moreTired 7 = .ok (.iadd, 1) := by decide +kernel
theorem dX12_moreTired_8 : decode cX12_moreTired 8 = .ok (.bipush 99, 2) := by decide +kernel
theorem dX12_moreTired_10 : decode cX12_moreTired 10 = .ok (.invokestatic 334, 3) := by decide +kernel
theorem dX12_moreTired_13 : decode cX12_moreTired 13 = .ok (.ireturn, 1) := by decide +kernel
def wp_X12_moreTired (S : Sh) (M : Mm) (u0 : Int) (u1 : Int) (u2 : Int) (post : Int → Mm → Prop) : Prop := wC 4 fun v1 => isK S u0 12 ∧ (wp_X12_handOf S M u0 u1 v1 <| fun v4 M3 => wA u2 v4 fun v6 => wC 99 fun v8 => wp_X12_atMost S M3 v6 v8 <| fun v11 M10 => post v11 M10)
set_option maxHeartbeats 4000000 in
set_option maxRecDepth 100000 in
theorem c_X12_moreTired (l : Launch) (D : va_G) (G : Gt) (S : Sh) (M : Mm) (xl0 : Int) (zl1 : Int32) (zl2 : Int32) (post : Int → Mm → Prop) (h : wp_X12_moreTired S M xl0 zl1.toInt zl2.toInt post) : Met l yX12_moreTired (cw_X12_moreTired :: gw) RM_X12_moreTired (va_Pc [.ref (adr G xl0), .int zl1, .int zl2] (fun U => KN D G U ∧ Wd D G S M U.heap)) (QI D G S post) 0 0 (aG G) := by
  refine Met.ofW (cc := cX12_moreTired) (maxL := 3) (ret := (some .int)) (by decide) rfl ?_
  intro p e s m args below meth c s₁ B hml hv
  obtain ⟨rfl, hK, hP⟩ := hv
  have hx := B.exec
  have hb := B.bytes
  have hr := B.returns
  have hts := atoms_spec (ws := cw_X12_moreTired :: gw) B.pre
  have hown : s.vm.findClass RX12 = some m.cls := findClass_of_methodNamed B.named
  have hlocks := B.notSynchronized
  have hS : va_S (aG G) s.heap s.heap [] := va_S.rf
  have C : Cx p s m ([.ref (adr G xl0), .int zl1, .int zl2] : List Value).toArray meth c D G cX12_moreTired 3 (some .int) (cw_X12_moreTired :: gw) RX12 := ⟨hx, hb, hr, hlocks, hml, hown, hts, hK⟩
  have hl := lv_entry ([.ref (adr G xl0), .int zl1, .int zl2]) (n := 3) (Nat.le_of_ble_eq_true rfl)
  rw [lg_entry_eq]
  generalize (lg_sl ([.ref (adr G xl0), .int zl1, .int zl2]) ++ List.replicate (3 - (lg_sl ([.ref (adr G xl0), .int zl1, .int zl2])).length) Slot.unset).toArray = ls at hl ⊢
  have hl : lv_has ls 3 [(0, .ref (adr G xl0)), (1, .int zl1), (2, .int zl2)] := hl
  unfold wp_X12_moreTired at h
  refine lv_iload_n hx hb dX12_moreTired_0 rfl (lv_at hl 2 rfl) ?_
  refine lv_aload_n hx hb dX12_moreTired_1 rfl (lv_at hl 0 rfl) ?_
  refine lv_iload_n hx hb dX12_moreTired_2 rfl (lv_at hl 1 rfl) ?_
  refine r_iconst hx hb dX12_moreTired_3 (by decide) h (fun z2 h => ?_)
  refine q_Vi hx hb hml hown hts hK hP hS (c_X12_handOf l D G S _ xl0 zl1 z2 _ h.2) ⟨callB_of 2 hts (gw_good kw_1650) rfl rfl rfl (hts _ (List.mem_cons_of_mem _ kw_14)) (hts _ (List.mem_cons_of_mem _ kw_1647)) hd_X12_handOf ⟨Nat.le_of_ble_eq_true rfl, Nat.le_of_ble_eq_true rfl⟩, (hts _ (List.mem_cons_of_mem _ kw_1649)), (hts _ (List.mem_cons_of_mem _ kp_88))⟩ h.1 (ci := 12) rfl (by decide) rfl hl.1 rfl (lv_room (Nat.le_of_ble_eq_true rfl)) dX12_moreTired_4 ⟨Nat.zero_le _, Nat.zero_le _⟩ (fun z5 M3 H locs h hP hS => ?_)
  refine r_iadd hx hb dX12_moreTired_7 h (fun z7 h => ?_)
  refine r_bipush hx hb dX12_moreTired_8 (by decide) h (fun z9 h => ?_)
  refine q_Si hx hb hml hown hts hK hP hS (c_X12_atMost l D G S _ z7 z9 _ h) ⟨callB_of 2 hts (gw_good kw_1744) rfl rfl rfl (hts _ (List.mem_cons_of_mem _ kw_14)) (hts _ (List.mem_cons_of_mem _ kw_1742)) hd_X12_atMost ⟨Nat.le_of_ble_eq_true rfl, Nat.le_of_ble_eq_true rfl⟩, (hts _ (List.mem_cons_of_mem _ kw_1743))⟩ rfl hl.1 rfl (lv_room (Nat.le_of_ble_eq_true rfl)) dX12_moreTired_10 ⟨Nat.zero_le _, Nat.zero_le _⟩ (fun z12 M10 H locs h hP hS => ?_)
  exact r_iret hx hb hr hlocks hP hS dX12_moreTired_13 h
