def gw : List Cond := lw_tbl.filter goodWord
theorem gw_of {w : Cond} (h : w ∈ tables_1) (g : goodWord w = true) : w ∈ gw := List.mem_filter.mpr ⟨List.mem_append_right _ h, g⟩
theorem gw_priv {q : MethodName × Nat} (h : q ∈ lw_privs) {w : Cond} (e : Cond.selects q.1.cls q.1 q.1 = w) : w ∈ gw := e ▸ List.mem_filter.mpr ⟨List.mem_append_left _ (List.mem_map.mpr ⟨q, h, rfl⟩), rfl⟩
theorem gw_in : ∀ w ∈ gw, w ∈ lw_tbl := fun w h => (List.mem_filter.mp h).1
theorem gw_good {a b : Cond} (h : b ∈ gw) : GoodIn (a :: gw) (b :: gw) := by
  intro w hw
  have h1 : w ∈ gw := by
    rcases List.mem_cons.mp hw with rfl | h2
    · exact h
    · exact h2
  exact ⟨List.mem_cons_of_mem _ h1, good_of_word (List.mem_filter.mp h1).2⟩
theorem gw_goodL {b : Cond} (h : b ∈ gw) : GoodIn lw_tbl (b :: gw) := by
  intro w hw
  have h1 : w ∈ gw := by
    rcases List.mem_cons.mp hw with rfl | h2
    · exact h
    · exact h2
  exact ⟨gw_in w h1, good_of_word (List.mem_filter.mp h1).2⟩
theorem kw_0 : Cond.initialized RL ∈ gw := gw_of (List.mem_of_getElem? (i := 0) (by decide +kernel)) rfl
theorem kw_1 : Cond.initialized RX11 ∈ gw := gw_of (List.mem_of_getElem? (i := 1) (by decide +kernel)) rfl
theorem kw_2 : Cond.initialized RX7 ∈ gw := gw_of (List.mem_of_getElem? (i := 2) (by decide +kernel)) rfl
theorem kw_3 : Cond.initialized RX4 ∈ gw := gw_of (List.mem_of_getElem? (i := 3) (by decide +kernel)) rfl
theorem kw_4 : Cond.initialized RX8 ∈ gw := gw_of (List.mem_of_getElem? (i := 4) (by decide +kernel)) rfl
theorem kw_5 : Cond.initialized RX5 ∈ gw := gw_of (List.mem_of_getElem? (i := 5) (by decide +kernel)) rfl
theorem kw_6 : Cond.initialized RJ7 ∈ gw := gw_of (List.mem_of_getElem? (i := 6) (by decide +kernel)) rfl
theorem kw_7 : Cond.initialized RX0 ∈ gw := gw_of (List.mem_of_getElem? (i := 7) (by decide +kernel)) rfl
theorem kw_8 : Cond.initialized RX3 ∈ gw := gw_of (List.mem_of_getElem? (i := 8) (by decide +kernel)) rfl
theorem kw_9 : Cond.initialized RX10 ∈ gw := gw_of (List.mem_of_getElem? (i := 9) (by decide +kernel)) rfl
theorem kw_10 : Cond.initialized RX1 ∈ gw := gw_of (List.mem_of_getElem? (i := 10) (by decide +kernel)) rfl
theorem kw_11 : Cond.initialized RX2 ∈ gw := gw_of (List.mem_of_getElem? (i := 11) (by decide +kernel)) rfl
theorem kw_12 : Cond.initialized RX6 ∈ gw := gw_of (List.mem_of_getElem? (i := 12) (by decide +kernel)) rfl
theorem kw_13 : Cond.initialized RX9 ∈ gw := gw_of (List.mem_of_getElem? (i := 13) (by decide +kernel)) rfl
theorem kw_14 : Cond.initialized RX12 ∈ gw := gw_of (List.mem_of_getElem? (i := 14) (by decide +kernel)) rfl
theorem kw_15 : Cond.initialized RJ0 ∈ gw := gw_of (List.mem_of_getElem? (i := 15) (by decide +kernel)) rfl
theorem kw_16 : Cond.initialized RJ1 ∈ gw := gw_of (List.mem_of_getElem? (i := 16) (by decide +kernel)) rfl
theorem kw_17 : Cond.initialized RJ3 ∈ gw := gw_of (List.mem_of_getElem? (i := 17) (by decide +kernel)) rfl
theorem kw_18 : Cond.initialized RJ2 ∈ gw := gw_of (List.mem_of_getElem? (i := 18) (by decide +kernel)) rfl
theorem kw_19 : Cond.initialized RJ9 ∈ gw := gw_of (List.mem_of_getElem? (i := 19) (by decide +kernel)) rfl
theorem kw_20 : Cond.initialized RJ10 ∈ gw := gw_of (List.mem_of_getElem? (i := 20) (by decide +kernel)) rfl
theorem kw_21 : Cond.initialized RJ6 ∈ gw := gw_of (List.mem_of_getElem? (i := 21) (by decide +kernel)) rfl
theorem kw_22 : Cond.classLink RL 7 RX11 ∈ gw := gw_of (List.mem_of_getElem? (i := 22) (by decide +kernel)) rfl
theorem kw_23 : Cond.instantiable RX11 16 ∈ gw := gw_of (List.mem_of_getElem? (i := 23) (by decide +kernel)) rfl
theorem kw_24 : Cond.methodLink RL 9 yX11_init ∈ gw := gw_of (List.mem_of_getElem? (i := 24) (by decide +kernel)) rfl
theorem kw_25 : Cond.instanceMethod yX11_init ∈ gw := gw_of (List.mem_of_getElem? (i := 25) (by decide +kernel)) rfl
theorem kw_26 : Cond.code yX11_init cX11_init 2 (Option.none : Option FieldType) ∈ gw := gw_of (List.mem_of_getElem? (i := 26) (by decide +kernel)) rfl
theorem kw_27 : Cond.methodLink RX11 1 ⟨"java/lang/Object", "<init>", "()V"⟩ ∈ gw := gw_of (List.mem_of_getElem? (i := 27) (by decide +kernel)) rfl
theorem kw_28 : Cond.instanceMethod ⟨"java/lang/Object", "<init>", "()V"⟩ ∈ gw := gw_of (List.mem_of_getElem? (i := 28) (by decide +kernel)) rfl
theorem kw_29 : Cond.code ⟨"java/lang/Object", "<init>", "()V"⟩ object_method_1_code 1 (Option.none : Option FieldType) ∈ gw := gw_of (List.mem_of_getElem? (i := 29) (by decide +kernel)) rfl
theorem kw_30 : Cond.classLink RX11 7 RX7 ∈ gw := gw_of (List.mem_of_getElem? (i := 30) (by decide +kernel)) rfl
theorem kw_31 : Cond.instantiable RX7 5 ∈ gw := gw_of (List.mem_of_getElem? (i := 31) (by decide +kernel)) rfl
theorem kw_32 : Cond.methodLink RX11 9 yX7_init ∈ gw := gw_of (List.mem_of_getElem? (i := 32) (by decide +kernel)) rfl
theorem kw_33 : Cond.instanceMethod yX7_init ∈ gw := gw_of (List.mem_of_getElem? (i := 33) (by decide +kernel)) rfl
theorem kw_34 : Cond.code yX7_init cX7_init 1 (Option.none : Option FieldType) ∈ gw := gw_of (List.mem_of_getElem? (i := 34) (by decide +kernel)) rfl
theorem kw_35 : Cond.methodLink RX7 3 ⟨"java/lang/Object", "<init>", "()V"⟩ ∈ gw := gw_of (List.mem_of_getElem? (i := 35) (by decide +kernel)) rfl
theorem kw_36 : Cond.fieldLink RX7 9 "TurningMilk$Tape" "bytes" "[B" ∈ gw := gw_of (List.mem_of_getElem? (i := 36) (by decide +kernel)) rfl
theorem kw_37 : Cond.fieldLink RX7 15 "TurningMilk$Tape" "length" "I" ∈ gw := gw_of (List.mem_of_getElem? (i := 37) (by decide +kernel)) rfl
theorem kw_39 : Cond.fieldLink RX7 19 "TurningMilk$Tape" "at" "I" ∈ gw := gw_of (List.mem_of_getElem? (i := 39) (by decide +kernel)) rfl
theorem kw_40 : Cond.fieldLink RX7 22 "TurningMilk$Tape" "start" "I" ∈ gw := gw_of (List.mem_of_getElem? (i := 40) (by decide +kernel)) rfl
theorem kw_41 : Cond.fieldLink RX7 25 "TurningMilk$Tape" "fault" "I" ∈ gw := gw_of (List.mem_of_getElem? (i := 41) (by decide +kernel)) rfl
theorem kw_43 : Cond.laysFinal "TurningMilk$Tape" "TurningMilk$Tape" "bytes" "[B" ∈ gw := gw_of (List.mem_of_getElem? (i := 43) (by decide +kernel)) rfl
theorem kw_45 : Cond.lays "TurningMilk$Tape" "TurningMilk$Tape" "length" "I" ∈ gw := gw_of (List.mem_of_getElem? (i := 45) (by decide +kernel)) rfl
theorem kw_47 : Cond.lays "TurningMilk$Tape" "TurningMilk$Tape" "at" "I" ∈ gw := gw_of (List.mem_of_getElem? (i := 47) (by decide +kernel)) rfl
theorem kw_49 : Cond.lays "TurningMilk$Tape" "TurningMilk$Tape" "start" "I" ∈ gw := gw_of (List.mem_of_getElem? (i := 49) (by decide +kernel)) rfl
theorem kw_51 : Cond.lays "TurningMilk$Tape" "TurningMilk$Tape" "fault" "I" ∈ gw := gw_of (List.mem_of_getElem? (i := 51) (by decide +kernel)) rfl
theorem kw_53 : Cond.superclass "TurningMilk$Tape" "java/lang/Object" ∈ gw := gw_of (List.mem_of_getElem? (i := 53) (by decide +kernel)) rfl
theorem kw_54 : Cond.arrayClass FieldType.byte ∈ gw := gw_of (List.mem_of_getElem? (i := 54) (by decide +kernel)) rfl
theorem kw_55 : Cond.classLink RX11 16 RX4 ∈ gw := gw_of (List.mem_of_getElem? (i := 55) (by decide +kernel)) rfl
theorem kw_56 : Cond.instantiable RX4 10 ∈ gw := gw_of (List.mem_of_getElem? (i := 56) (by decide +kernel)) rfl
theorem kw_57 : Cond.methodLink RX11 18 yX4_init ∈ gw := gw_of (List.mem_of_getElem? (i := 57) (by decide +kernel)) rfl
theorem kw_58 : Cond.instanceMethod yX4_init ∈ gw := gw_of (List.mem_of_getElem? (i := 58) (by decide +kernel)) rfl
theorem kw_59 : Cond.code yX4_init cX4_init 1 (Option.none : Option FieldType) ∈ gw := gw_of (List.mem_of_getElem? (i := 59) (by decide +kernel)) rfl
theorem kw_60 : Cond.methodLink RX4 3 ⟨"java/lang/Object", "<init>", "()V"⟩ ∈ gw := gw_of (List.mem_of_getElem? (i := 60) (by decide +kernel)) rfl
theorem kw_61 : Cond.classLink RX4 9 RX8 ∈ gw := gw_of (List.mem_of_getElem? (i := 61) (by decide +kernel)) rfl
theorem kw_62 : Cond.instantiable RX8 19 ∈ gw := gw_of (List.mem_of_getElem? (i := 62) (by decide +kernel)) rfl
theorem kw_63 : Cond.methodLink RX4 11 yX8_init ∈ gw := gw_of (List.mem_of_getElem? (i := 63) (by decide +kernel)) rfl
theorem kw_64 : Cond.instanceMethod yX8_init ∈ gw := gw_of (List.mem_of_getElem? (i := 64) (by decide +kernel)) rfl
theorem kw_65 : Cond.code yX8_init cX8_init 1 (Option.none : Option FieldType) ∈ gw := gw_of (List.mem_of_getElem? (i := 65) (by decide +kernel)) rfl
theorem kw_66 : Cond.methodLink RX8 3 ⟨"java/lang/Object", "<init>", "()V"⟩ ∈ gw := gw_of (List.mem_of_getElem? (i := 66) (by decide +kernel)) rfl
theorem kw_67 : Cond.fieldLink RX8 45 "TurningMilk$Told" "places" "I" ∈ gw := gw_of (List.mem_of_getElem? (i := 67) (by decide +kernel)) rfl
theorem kw_71 : Cond.fieldLink RX8 49 "TurningMilk$Told" "ground" "I" ∈ gw := gw_of (List.mem_of_getElem? (i := 71) (by decide +kernel)) rfl
theorem kw_74 : Cond.fieldLink RX8 52 "TurningMilk$Told" "sour" "I" ∈ gw := gw_of (List.mem_of_getElem? (i := 74) (by decide +kernel)) rfl
theorem kw_79 : Cond.fieldLink RX8 55 "TurningMilk$Told" "roads" "I" ∈ gw := gw_of (List.mem_of_getElem? (i := 79) (by decide +kernel)) rfl
theorem kw_81 : Cond.fieldLink RX8 58 "TurningMilk$Told" "hands" "I" ∈ gw := gw_of (List.mem_of_getElem? (i := 81) (by decide +kernel)) rfl
theorem kw_89 : Cond.fieldLink RX8 61 "TurningMilk$Told" "jugs" "I" ∈ gw := gw_of (List.mem_of_getElem? (i := 89) (by decide +kernel)) rfl
theorem kw_93 : Cond.fieldLink RX8 64 "TurningMilk$Told" "heats" "I" ∈ gw := gw_of (List.mem_of_getElem? (i := 93) (by decide +kernel)) rfl
theorem kw_96 : Cond.fieldLink RX8 67 "TurningMilk$Told" "wants" "I" ∈ gw := gw_of (List.mem_of_getElem? (i := 96) (by decide +kernel)) rfl
theorem kw_99 : Cond.fieldLink RX8 9 "TurningMilk$Told" "road" "[I" ∈ gw := gw_of (List.mem_of_getElem? (i := 99) (by decide +kernel)) rfl
theorem kw_100 : Cond.fieldLink RX8 15 "TurningMilk$Told" "way" "[I" ∈ gw := gw_of (List.mem_of_getElem? (i := 100) (by decide +kernel)) rfl
theorem kw_101 : Cond.fieldLink RX8 18 "TurningMilk$Told" "speed" "[I" ∈ gw := gw_of (List.mem_of_getElem? (i := 101) (by decide +kernel)) rfl
theorem kw_106 : Cond.fieldLink RX8 21 "TurningMilk$Told" "tires" "[I" ∈ gw := gw_of (List.mem_of_getElem? (i := 106) (by decide +kernel)) rfl
theorem kw_111 : Cond.fieldLink RX8 24 "TurningMilk$Told" "heatFirst" "[I" ∈ gw := gw_of (List.mem_of_getElem? (i := 111) (by decide +kernel)) rfl
theorem kw_113 : Cond.fieldLink RX8 27 "TurningMilk$Told" "heatLast" "[I" ∈ gw := gw_of (List.mem_of_getElem? (i := 113) (by decide +kernel)) rfl
theorem kw_115 : Cond.fieldLink RX8 30 "TurningMilk$Told" "heatMore" "[I" ∈ gw := gw_of (List.mem_of_getElem? (i := 115) (by decide +kernel)) rfl
theorem kw_117 : Cond.fieldLink RX8 33 "TurningMilk$Told" "wantPlace" "[I" ∈ gw := gw_of (List.mem_of_getElem? (i := 117) (by decide +kernel)) rfl
theorem kw_120 : Cond.fieldLink RX8 36 "TurningMilk$Told" "wantLeast" "[I" ∈ gw := gw_of (List.mem_of_getElem? (i := 120) (by decide +kernel)) rfl
theorem kw_123 : Cond.fieldLink RX8 39 "TurningMilk$Told" "wantMost" "[I" ∈ gw := gw_of (List.mem_of_getElem? (i := 123) (by decide +kernel)) rfl
theorem kw_126 : Cond.fieldLink RX8 42 "TurningMilk$Told" "wantPay" "[I" ∈ gw := gw_of (List.mem_of_getElem? (i := 126) (by decide +kernel)) rfl
theorem kw_130 : Cond.lays "TurningMilk$Told" "TurningMilk$Told" "places" "I" ∈ gw := gw_of (List.mem_of_getElem? (i := 130) (by decide +kernel)) rfl
theorem kw_132 : Cond.lays "TurningMilk$Told" "TurningMilk$Told" "ground" "I" ∈ gw := gw_of (List.mem_of_getElem? (i := 132) (by decide +kernel)) rfl
theorem kw_134 : Cond.lays "TurningMilk$Told" "TurningMilk$Told" "sour" "I" ∈ gw := gw_of (List.mem_of_getElem? (i := 134) (by decide +kernel)) rfl
theorem kw_136 : Cond.lays "TurningMilk$Told" "TurningMilk$Told" "roads" "I" ∈ gw := gw_of (List.mem_of_getElem? (i := 136) (by decide +kernel)) rfl
theorem kw_138 : Cond.lays "TurningMilk$Told" "TurningMilk$Told" "hands" "I" ∈ gw := gw_of (List.mem_of_getElem? (i := 138) (by decide +kernel)) rfl
theorem kw_140 : Cond.lays "TurningMilk$Told" "TurningMilk$Told" "jugs" "I" ∈ gw := gw_of (List.mem_of_getElem? (i := 140) (by decide +kernel)) rfl
theorem kw_142 : Cond.lays "TurningMilk$Told" "TurningMilk$Told" "heats" "I" ∈ gw := gw_of (List.mem_of_getElem? (i := 142) (by decide +kernel)) rfl
theorem kw_144 : Cond.lays "TurningMilk$Told" "TurningMilk$Told" "wants" "I" ∈ gw := gw_of (List.mem_of_getElem? (i := 144) (by decide +kernel)) rfl
theorem kw_146 : Cond.laysFinal "TurningMilk$Told" "TurningMilk$Told" "road" "[I" ∈ gw := gw_of (List.mem_of_getElem? (i := 146) (by decide +kernel)) rfl
theorem kw_148 : Cond.laysFinal "TurningMilk$Told" "TurningMilk$Told" "way" "[I" ∈ gw := gw_of (List.mem_of_getElem? (i := 148) (by decide +kernel)) rfl
theorem kw_150 : Cond.laysFinal "TurningMilk$Told" "TurningMilk$Told" "speed" "[I" ∈ gw := gw_of (List.mem_of_getElem? (i := 150) (by decide +kernel)) rfl
theorem kw_152 : Cond.laysFinal "TurningMilk$Told" "TurningMilk$Told" "tires" "[I" ∈ gw := gw_of (List.mem_of_getElem? (i := 152) (by decide +kernel)) rfl
theorem kw_154 : Cond.laysFinal "TurningMilk$Told" "TurningMilk$Told" "heatFirst" "[I" ∈ gw := gw_of (List.mem_of_getElem? (i := 154) (by decide +kernel)) rfl
theorem kw_156 : Cond.laysFinal "TurningMilk$Told" "TurningMilk$Told" "heatLast" "[I" ∈ gw := gw_of (List.mem_of_getElem? (i := 156) (by decide +kernel)) rfl
theorem kw_158 : Cond.laysFinal "TurningMilk$Told" "TurningMilk$Told" "heatMore" "[I" ∈ gw := gw_of (List.mem_of_getElem? (i := 158) (by decide +kernel)) rfl
theorem kw_160 : Cond.laysFinal "TurningMilk$Told" "TurningMilk$Told" "wantPlace" "[I" ∈ gw := gw_of (List.mem_of_getElem? (i := 160) (by decide +kernel)) rfl
theorem kw_162 : Cond.laysFinal "TurningMilk$Told" "TurningMilk$Told" "wantLeast" "[I" ∈ gw := gw_of (List.mem_of_getElem? (i := 162) (by decide +kernel)) rfl
theorem kw_164 : Cond.laysFinal "TurningMilk$Told" "TurningMilk$Told" "wantMost" "[I" ∈ gw := gw_of (List.mem_of_getElem? (i := 164) (by decide +kernel)) rfl
theorem kw_166 : Cond.laysFinal "TurningMilk$Told" "TurningMilk$Told" "wantPay" "[I" ∈ gw := gw_of (List.mem_of_getElem? (i := 166) (by decide +kernel)) rfl
theorem kw_168 : Cond.superclass "TurningMilk$Told" "java/lang/Object" ∈ gw := gw_of (List.mem_of_getElem? (i := 168) (by decide +kernel)) rfl
theorem kw_169 : Cond.arrayClass FieldType.int ∈ gw := gw_of (List.mem_of_getElem? (i := 169) (by decide +kernel)) rfl
theorem kw_170 : Cond.classLink RX4 18 RX5 ∈ gw := gw_of (List.mem_of_getElem? (i := 170) (by decide +kernel)) rfl
theorem kw_171 : Cond.instantiable RX5 9 ∈ gw := gw_of (List.mem_of_getElem? (i := 171) (by decide +kernel)) rfl
theorem kw_172 : Cond.methodLink RX4 20 yX5_init ∈ gw := gw_of (List.mem_of_getElem? (i := 172) (by decide +kernel)) rfl
theorem kw_173 : Cond.instanceMethod yX5_init ∈ gw := gw_of (List.mem_of_getElem? (i := 173) (by decide +kernel)) rfl
theorem kw_174 : Cond.code yX5_init cX5_init 1 (Option.none : Option FieldType) ∈ gw := gw_of (List.mem_of_getElem? (i := 174) (by decide +kernel)) rfl
theorem kw_175 : Cond.methodLink RX5 3 ⟨"java/lang/Object", "<init>", "()V"⟩ ∈ gw := gw_of (List.mem_of_getElem? (i := 175) (by decide +kernel)) rfl
theorem kw_176 : Cond.methodLink RX5 33 yJ7_fill_53178 ∈ gw := gw_of (List.mem_of_getElem? (i := 176) (by decide +kernel)) rfl
theorem kw_177 : Cond.static yJ7_fill_53178 ∈ gw := gw_of (List.mem_of_getElem? (i := 177) (by decide +kernel)) rfl
theorem kw_178 : Cond.code yJ7_fill_53178 cJ7_fill_53178 4 (Option.none : Option FieldType) ∈ gw := gw_of (List.mem_of_getElem? (i := 178) (by decide +kernel)) rfl
theorem kw_179 : Cond.fieldLink RX5 39 "TurningMilk$State" "hour" "I" ∈ gw := gw_of (List.mem_of_getElem? (i := 179) (by decide +kernel)) rfl
theorem kw_184 : Cond.fieldLink RX5 43 "TurningMilk$State" "pay" "I" ∈ gw := gw_of (List.mem_of_getElem? (i := 184) (by decide +kernel)) rfl
theorem kw_186 : Cond.fieldLink RX5 9 "TurningMilk$State" "handPlace" "[I" ∈ gw := gw_of (List.mem_of_getElem? (i := 186) (by decide +kernel)) rfl
theorem kw_189 : Cond.fieldLink RX5 15 "TurningMilk$State" "handToGo" "[I" ∈ gw := gw_of (List.mem_of_getElem? (i := 189) (by decide +kernel)) rfl
theorem kw_193 : Cond.fieldLink RX5 18 "TurningMilk$State" "handTired" "[I" ∈ gw := gw_of (List.mem_of_getElem? (i := 193) (by decide +kernel)) rfl
theorem kw_197 : Cond.fieldLink RX5 21 "TurningMilk$State" "jugPlace" "[I" ∈ gw := gw_of (List.mem_of_getElem? (i := 197) (by decide +kernel)) rfl
theorem kw_200 : Cond.fieldLink RX5 24 "TurningMilk$State" "jugHolder" "[I" ∈ gw := gw_of (List.mem_of_getElem? (i := 200) (by decide +kernel)) rfl
theorem kw_203 : Cond.fieldLink RX5 27 "TurningMilk$State" "jugTurned" "[I" ∈ gw := gw_of (List.mem_of_getElem? (i := 203) (by decide +kernel)) rfl
theorem kw_209 : Cond.fieldLink RX5 30 "TurningMilk$State" "wantMet" "[I" ∈ gw := gw_of (List.mem_of_getElem? (i := 209) (by decide +kernel)) rfl
theorem kw_212 : Cond.lays "TurningMilk$State" "TurningMilk$State" "hour" "I" ∈ gw := gw_of (List.mem_of_getElem? (i := 212) (by decide +kernel)) rfl
theorem kw_214 : Cond.lays "TurningMilk$State" "TurningMilk$State" "pay" "I" ∈ gw := gw_of (List.mem_of_getElem? (i := 214) (by decide +kernel)) rfl
theorem kw_216 : Cond.laysFinal "TurningMilk$State" "TurningMilk$State" "handPlace" "[I" ∈ gw := gw_of (List.mem_of_getElem? (i := 216) (by decide +kernel)) rfl
theorem kw_218 : Cond.laysFinal "TurningMilk$State" "TurningMilk$State" "handToGo" "[I" ∈ gw := gw_of (List.mem_of_getElem? (i := 218) (by decide +kernel)) rfl
theorem kw_220 : Cond.laysFinal "TurningMilk$State" "TurningMilk$State" "handTired" "[I" ∈ gw := gw_of (List.mem_of_getElem? (i := 220) (by decide +kernel)) rfl
theorem kw_222 : Cond.laysFinal "TurningMilk$State" "TurningMilk$State" "jugPlace" "[I" ∈ gw := gw_of (List.mem_of_getElem? (i := 222) (by decide +kernel)) rfl
theorem kw_224 : Cond.laysFinal "TurningMilk$State" "TurningMilk$State" "jugHolder" "[I" ∈ gw := gw_of (List.mem_of_getElem? (i := 224) (by decide +kernel)) rfl
theorem kw_226 : Cond.laysFinal "TurningMilk$State" "TurningMilk$State" "jugTurned" "[I" ∈ gw := gw_of (List.mem_of_getElem? (i := 226) (by decide +kernel)) rfl
theorem kw_228 : Cond.laysFinal "TurningMilk$State" "TurningMilk$State" "wantMet" "[I" ∈ gw := gw_of (List.mem_of_getElem? (i := 228) (by decide +kernel)) rfl
theorem kw_230 : Cond.superclass "TurningMilk$State" "java/lang/Object" ∈ gw := gw_of (List.mem_of_getElem? (i := 230) (by decide +kernel)) rfl
theorem kw_231 : Cond.fieldLink RX4 12 "TurningMilk$Scene" "told" "LTurningMilk$Told;" ∈ gw := gw_of (List.mem_of_getElem? (i := 231) (by decide +kernel)) rfl
theorem kw_234 : Cond.fieldLink RX4 21 "TurningMilk$Scene" "state" "LTurningMilk$State;" ∈ gw := gw_of (List.mem_of_getElem? (i := 234) (by decide +kernel)) rfl
theorem kw_237 : Cond.fieldLink RX4 25 "TurningMilk$Scene" "force" "I" ∈ gw := gw_of (List.mem_of_getElem? (i := 237) (by decide +kernel)) rfl
theorem kw_239 : Cond.fieldLink RX4 49 "TurningMilk$Scene" "x" "I" ∈ gw := gw_of (List.mem_of_getElem? (i := 239) (by decide +kernel)) rfl
theorem kw_241 : Cond.fieldLink RX4 52 "TurningMilk$Scene" "tests" "I" ∈ gw := gw_of (List.mem_of_getElem? (i := 241) (by decide +kernel)) rfl
theorem kw_244 : Cond.fieldLink RX4 29 "TurningMilk$Scene" "testFrom" "[I" ∈ gw := gw_of (List.mem_of_getElem? (i := 244) (by decide +kernel)) rfl
theorem kw_246 : Cond.fieldLink RX4 33 "TurningMilk$Scene" "testHours" "[I" ∈ gw := gw_of (List.mem_of_getElem? (i := 246) (by decide +kernel)) rfl
theorem kw_248 : Cond.fieldLink RX4 36 "TurningMilk$Scene" "testAt" "[I" ∈ gw := gw_of (List.mem_of_getElem? (i := 248) (by decide +kernel)) rfl
theorem kw_250 : Cond.fieldLink RX4 39 "TurningMilk$Scene" "testTo" "[I" ∈ gw := gw_of (List.mem_of_getElem? (i := 250) (by decide +kernel)) rfl
theorem kw_253 : Cond.laysFinal "TurningMilk$Scene" "TurningMilk$Scene" "told" "LTurningMilk$Told;" ∈ gw := gw_of (List.mem_of_getElem? (i := 253) (by decide +kernel)) rfl
theorem kw_255 : Cond.laysFinal "TurningMilk$Scene" "TurningMilk$Scene" "state" "LTurningMilk$State;" ∈ gw := gw_of (List.mem_of_getElem? (i := 255) (by decide +kernel)) rfl
theorem kw_257 : Cond.lays "TurningMilk$Scene" "TurningMilk$Scene" "force" "I" ∈ gw := gw_of (List.mem_of_getElem? (i := 257) (by decide +kernel)) rfl
theorem kw_259 : Cond.lays "TurningMilk$Scene" "TurningMilk$Scene" "x" "I" ∈ gw := gw_of (List.mem_of_getElem? (i := 259) (by decide +kernel)) rfl
theorem kw_261 : Cond.lays "TurningMilk$Scene" "TurningMilk$Scene" "tests" "I" ∈ gw := gw_of (List.mem_of_getElem? (i := 261) (by decide +kernel)) rfl
theorem kw_263 : Cond.laysFinal "TurningMilk$Scene" "TurningMilk$Scene" "testFrom" "[I" ∈ gw := gw_of (List.mem_of_getElem? (i := 263) (by decide +kernel)) rfl
theorem kw_265 : Cond.laysFinal "TurningMilk$Scene" "TurningMilk$Scene" "testHours" "[I" ∈ gw := gw_of (List.mem_of_getElem? (i := 265) (by decide +kernel)) rfl
theorem kw_267 : Cond.laysFinal "TurningMilk$Scene" "TurningMilk$Scene" "testAt" "[I" ∈ gw := gw_of (List.mem_of_getElem? (i := 267) (by decide +kernel)) rfl
theorem kw_269 : Cond.laysFinal "TurningMilk$Scene" "TurningMilk$Scene" "testTo" "[I" ∈ gw := gw_of (List.mem_of_getElem? (i := 269) (by decide +kernel)) rfl
theorem kw_271 : Cond.lays "TurningMilk$Scene" "TurningMilk$Scene" "isMade" "Z" ∈ gw := gw_of (List.mem_of_getElem? (i := 271) (by decide +kernel)) rfl
theorem kw_273 : Cond.superclass "TurningMilk$Scene" "java/lang/Object" ∈ gw := gw_of (List.mem_of_getElem? (i := 273) (by decide +kernel)) rfl
theorem kw_275 : Cond.classLink RX11 27 RX5 ∈ gw := gw_of (List.mem_of_getElem? (i := 275) (by decide +kernel)) rfl
theorem kw_277 : Cond.classLink RX11 33 "[I" ∈ gw := gw_of (List.mem_of_getElem? (i := 277) (by decide +kernel)) rfl
theorem kw_279 : Cond.classLink RX11 39 RX0 ∈ gw := gw_of (List.mem_of_getElem? (i := 279) (by decide +kernel)) rfl
theorem kw_280 : Cond.instantiable RX0 3 ∈ gw := gw_of (List.mem_of_getElem? (i := 280) (by decide +kernel)) rfl
theorem kw_281 : Cond.methodLink RX11 41 yX0_init ∈ gw := gw_of (List.mem_of_getElem? (i := 281) (by decide +kernel)) rfl
theorem kw_282 : Cond.instanceMethod yX0_init ∈ gw := gw_of (List.mem_of_getElem? (i := 282) (by decide +kernel)) rfl
theorem kw_283 : Cond.code yX0_init cX0_init 2 (Option.none : Option FieldType) ∈ gw := gw_of (List.mem_of_getElem? (i := 283) (by decide +kernel)) rfl
theorem kw_284 : Cond.methodLink RX0 3 ⟨"java/lang/Object", "<init>", "()V"⟩ ∈ gw := gw_of (List.mem_of_getElem? (i := 284) (by decide +kernel)) rfl
theorem kw_285 : Cond.classLink RX0 9 RX8 ∈ gw := gw_of (List.mem_of_getElem? (i := 285) (by decide +kernel)) rfl
theorem kw_286 : Cond.methodLink RX0 11 yX8_init ∈ gw := gw_of (List.mem_of_getElem? (i := 286) (by decide +kernel)) rfl
theorem kw_287 : Cond.classLink RX0 18 RX5 ∈ gw := gw_of (List.mem_of_getElem? (i := 287) (by decide +kernel)) rfl
theorem kw_288 : Cond.methodLink RX0 20 yX5_init ∈ gw := gw_of (List.mem_of_getElem? (i := 288) (by decide +kernel)) rfl
theorem kw_289 : Cond.fieldLink RX0 25 "TurningMilk$DairyReader" "tape" "LTurningMilk$Tape;" ∈ gw := gw_of (List.mem_of_getElem? (i := 289) (by decide +kernel)) rfl
theorem kw_290 : Cond.fieldLink RX0 12 "TurningMilk$DairyReader" "told" "LTurningMilk$Told;" ∈ gw := gw_of (List.mem_of_getElem? (i := 290) (by decide +kernel)) rfl
theorem kw_292 : Cond.fieldLink RX0 21 "TurningMilk$DairyReader" "state" "LTurningMilk$State;" ∈ gw := gw_of (List.mem_of_getElem? (i := 292) (by decide +kernel)) rfl
theorem kw_294 : Cond.laysFinal "TurningMilk$DairyReader" "TurningMilk$DairyReader" "tape" "LTurningMilk$Tape;" ∈ gw := gw_of (List.mem_of_getElem? (i := 294) (by decide +kernel)) rfl
theorem kw_296 : Cond.laysFinal "TurningMilk$DairyReader" "TurningMilk$DairyReader" "told" "LTurningMilk$Told;" ∈ gw := gw_of (List.mem_of_getElem? (i := 296) (by decide +kernel)) rfl
theorem kw_298 : Cond.laysFinal "TurningMilk$DairyReader" "TurningMilk$DairyReader" "state" "LTurningMilk$State;" ∈ gw := gw_of (List.mem_of_getElem? (i := 298) (by decide +kernel)) rfl
theorem kw_300 : Cond.superclass "TurningMilk$DairyReader" "java/lang/Object" ∈ gw := gw_of (List.mem_of_getElem? (i := 300) (by decide +kernel)) rfl
theorem kw_301 : Cond.classLink RX11 48 RX3 ∈ gw := gw_of (List.mem_of_getElem? (i := 301) (by decide +kernel)) rfl
theorem kw_302 : Cond.instantiable RX3 9 ∈ gw := gw_of (List.mem_of_getElem? (i := 302) (by decide +kernel)) rfl
theorem kw_303 : Cond.methodLink RX11 50 yX3_init ∈ gw := gw_of (List.mem_of_getElem? (i := 303) (by decide +kernel)) rfl
theorem kw_304 : Cond.instanceMethod yX3_init ∈ gw := gw_of (List.mem_of_getElem? (i := 304) (by decide +kernel)) rfl
theorem kw_305 : Cond.code yX3_init cX3_init 2 (Option.none : Option FieldType) ∈ gw := gw_of (List.mem_of_getElem? (i := 305) (by decide +kernel)) rfl
theorem kw_306 : Cond.methodLink RX3 3 ⟨"java/lang/Object", "<init>", "()V"⟩ ∈ gw := gw_of (List.mem_of_getElem? (i := 306) (by decide +kernel)) rfl
theorem kw_307 : Cond.fieldLink RX3 18 "TurningMilk$RuleReader" "tape" "LTurningMilk$Tape;" ∈ gw := gw_of (List.mem_of_getElem? (i := 307) (by decide +kernel)) rfl
theorem kw_308 : Cond.fieldLink RX3 9 "TurningMilk$RuleReader" "code" "[I" ∈ gw := gw_of (List.mem_of_getElem? (i := 308) (by decide +kernel)) rfl
theorem kw_309 : Cond.fieldLink RX3 22 "TurningMilk$RuleReader" "length" "I" ∈ gw := gw_of (List.mem_of_getElem? (i := 309) (by decide +kernel)) rfl
theorem kw_310 : Cond.fieldLink RX3 32 "TurningMilk$RuleReader" "parts" "I" ∈ gw := gw_of (List.mem_of_getElem? (i := 310) (by decide +kernel)) rfl
theorem kw_311 : Cond.fieldLink RX3 15 "TurningMilk$RuleReader" "pile" "[I" ∈ gw := gw_of (List.mem_of_getElem? (i := 311) (by decide +kernel)) rfl
theorem kw_312 : Cond.fieldLink RX3 61 "TurningMilk$RuleReader" "piled" "I" ∈ gw := gw_of (List.mem_of_getElem? (i := 312) (by decide +kernel)) rfl
theorem kw_313 : Cond.fieldLink RX3 64 "TurningMilk$RuleReader" "deep" "I" ∈ gw := gw_of (List.mem_of_getElem? (i := 313) (by decide +kernel)) rfl
theorem kw_314 : Cond.fieldLink RX3 67 "TurningMilk$RuleReader" "opened" "I" ∈ gw := gw_of (List.mem_of_getElem? (i := 314) (by decide +kernel)) rfl
theorem kw_315 : Cond.fieldLink RX3 70 "TurningMilk$RuleReader" "where" "I" ∈ gw := gw_of (List.mem_of_getElem? (i := 315) (by decide +kernel)) rfl
theorem kw_316 : Cond.laysFinal "TurningMilk$RuleReader" "TurningMilk$RuleReader" "tape" "LTurningMilk$Tape;" ∈ gw := gw_of (List.mem_of_getElem? (i := 316) (by decide +kernel)) rfl
theorem kw_318 : Cond.laysFinal "TurningMilk$RuleReader" "TurningMilk$RuleReader" "code" "[I" ∈ gw := gw_of (List.mem_of_getElem? (i := 318) (by decide +kernel)) rfl
theorem kw_320 : Cond.lays "TurningMilk$RuleReader" "TurningMilk$RuleReader" "length" "I" ∈ gw := gw_of (List.mem_of_getElem? (i := 320) (by decide +kernel)) rfl
theorem kw_322 : Cond.lays "TurningMilk$RuleReader" "TurningMilk$RuleReader" "parts" "I" ∈ gw := gw_of (List.mem_of_getElem? (i := 322) (by decide +kernel)) rfl
theorem kw_324 : Cond.laysFinal "TurningMilk$RuleReader" "TurningMilk$RuleReader" "pile" "[I" ∈ gw := gw_of (List.mem_of_getElem? (i := 324) (by decide +kernel)) rfl
theorem kw_326 : Cond.lays "TurningMilk$RuleReader" "TurningMilk$RuleReader" "piled" "I" ∈ gw := gw_of (List.mem_of_getElem? (i := 326) (by decide +kernel)) rfl
theorem kw_328 : Cond.lays "TurningMilk$RuleReader" "TurningMilk$RuleReader" "deep" "I" ∈ gw := gw_of (List.mem_of_getElem? (i := 328) (by decide +kernel)) rfl
theorem kw_330 : Cond.lays "TurningMilk$RuleReader" "TurningMilk$RuleReader" "opened" "I" ∈ gw := gw_of (List.mem_of_getElem? (i := 330) (by decide +kernel)) rfl
theorem kw_332 : Cond.lays "TurningMilk$RuleReader" "TurningMilk$RuleReader" "where" "I" ∈ gw := gw_of (List.mem_of_getElem? (i := 332) (by decide +kernel)) rfl
theorem kw_334 : Cond.superclass "TurningMilk$RuleReader" "java/lang/Object" ∈ gw := gw_of (List.mem_of_getElem? (i := 334) (by decide +kernel)) rfl
theorem kw_335 : Cond.classLink RX11 55 RX10 ∈ gw := gw_of (List.mem_of_getElem? (i := 335) (by decide +kernel)) rfl
theorem kw_336 : Cond.instantiable RX10 12 ∈ gw := gw_of (List.mem_of_getElem? (i := 336) (by decide +kernel)) rfl
theorem kw_337 : Cond.methodLink RX11 61 yX10_init ∈ gw := gw_of (List.mem_of_getElem? (i := 337) (by decide +kernel)) rfl
theorem kw_338 : Cond.instanceMethod yX10_init ∈ gw := gw_of (List.mem_of_getElem? (i := 338) (by decide +kernel)) rfl
theorem kw_339 : Cond.code yX10_init cX10_init 2 (Option.none : Option FieldType) ∈ gw := gw_of (List.mem_of_getElem? (i := 339) (by decide +kernel)) rfl
theorem kw_340 : Cond.methodLink RX10 5 ⟨"java/lang/Object", "<init>", "()V"⟩ ∈ gw := gw_of (List.mem_of_getElem? (i := 340) (by decide +kernel)) rfl
theorem kw_344 : Cond.fieldLink RX10 22 "TurningMilk$Turning" "told" "LTurningMilk$Told;" ∈ gw := gw_of (List.mem_of_getElem? (i := 344) (by decide +kernel)) rfl
theorem kw_346 : Cond.fieldLink RX10 15 "TurningMilk$Turning" "code" "[I" ∈ gw := gw_of (List.mem_of_getElem? (i := 346) (by decide +kernel)) rfl
theorem kw_348 : Cond.fieldLink RX10 69 "TurningMilk$Turning" "iced" "Z" ∈ gw := gw_of (List.mem_of_getElem? (i := 348) (by decide +kernel)) rfl
theorem kw_350 : Cond.fieldLink RX10 18 "TurningMilk$Turning" "stack" "[J" ∈ gw := gw_of (List.mem_of_getElem? (i := 350) (by decide +kernel)) rfl
theorem kw_351 : Cond.fieldLink RX10 46 "TurningMilk$Turning" "hand" "I" ∈ gw := gw_of (List.mem_of_getElem? (i := 351) (by decide +kernel)) rfl
theorem kw_352 : Cond.fieldLink RX10 55 "TurningMilk$Turning" "jug" "I" ∈ gw := gw_of (List.mem_of_getElem? (i := 352) (by decide +kernel)) rfl
theorem kw_354 : Cond.fieldLink RX10 57 "TurningMilk$Turning" "turned" "I" ∈ gw := gw_of (List.mem_of_getElem? (i := 354) (by decide +kernel)) rfl
theorem kw_358 : Cond.fieldLink RX10 53 "TurningMilk$Turning" "tired" "I" ∈ gw := gw_of (List.mem_of_getElem? (i := 358) (by decide +kernel)) rfl
theorem kw_359 : Cond.fieldLink RX10 61 "TurningMilk$Turning" "hour" "I" ∈ gw := gw_of (List.mem_of_getElem? (i := 359) (by decide +kernel)) rfl
theorem kw_360 : Cond.fieldLink RX10 59 "TurningMilk$Turning" "heat" "I" ∈ gw := gw_of (List.mem_of_getElem? (i := 360) (by decide +kernel)) rfl
theorem kw_362 : Cond.fieldLink RX10 63 "TurningMilk$Turning" "road" "I" ∈ gw := gw_of (List.mem_of_getElem? (i := 362) (by decide +kernel)) rfl
theorem kw_365 : Cond.fieldLink RX10 65 "TurningMilk$Turning" "held" "I" ∈ gw := gw_of (List.mem_of_getElem? (i := 365) (by decide +kernel)) rfl
theorem kw_366 : Cond.laysFinal "TurningMilk$Turning" "TurningMilk$Turning" "told" "LTurningMilk$Told;" ∈ gw := gw_of (List.mem_of_getElem? (i := 366) (by decide +kernel)) rfl
theorem kw_368 : Cond.lays "TurningMilk$Turning" "TurningMilk$Turning" "code" "[I" ∈ gw := gw_of (List.mem_of_getElem? (i := 368) (by decide +kernel)) rfl
theorem kw_370 : Cond.lays "TurningMilk$Turning" "TurningMilk$Turning" "iced" "Z" ∈ gw := gw_of (List.mem_of_getElem? (i := 370) (by decide +kernel)) rfl
theorem kw_372 : Cond.laysFinal "TurningMilk$Turning" "TurningMilk$Turning" "stack" "[J" ∈ gw := gw_of (List.mem_of_getElem? (i := 372) (by decide +kernel)) rfl
theorem kw_374 : Cond.lays "TurningMilk$Turning" "TurningMilk$Turning" "hand" "I" ∈ gw := gw_of (List.mem_of_getElem? (i := 374) (by decide +kernel)) rfl
theorem kw_376 : Cond.lays "TurningMilk$Turning" "TurningMilk$Turning" "jug" "I" ∈ gw := gw_of (List.mem_of_getElem? (i := 376) (by decide +kernel)) rfl
theorem kw_378 : Cond.lays "TurningMilk$Turning" "TurningMilk$Turning" "turned" "I" ∈ gw := gw_of (List.mem_of_getElem? (i := 378) (by decide +kernel)) rfl
theorem kw_380 : Cond.lays "TurningMilk$Turning" "TurningMilk$Turning" "tired" "I" ∈ gw := gw_of (List.mem_of_getElem? (i := 380) (by decide +kernel)) rfl
theorem kw_382 : Cond.lays "TurningMilk$Turning" "TurningMilk$Turning" "hour" "I" ∈ gw := gw_of (List.mem_of_getElem? (i := 382) (by decide +kernel)) rfl
theorem kw_384 : Cond.lays "TurningMilk$Turning" "TurningMilk$Turning" "heat" "I" ∈ gw := gw_of (List.mem_of_getElem? (i := 384) (by decide +kernel)) rfl
theorem kw_386 : Cond.lays "TurningMilk$Turning" "TurningMilk$Turning" "road" "I" ∈ gw := gw_of (List.mem_of_getElem? (i := 386) (by decide +kernel)) rfl
theorem kw_388 : Cond.lays "TurningMilk$Turning" "TurningMilk$Turning" "held" "I" ∈ gw := gw_of (List.mem_of_getElem? (i := 388) (by decide +kernel)) rfl
theorem kw_390 : Cond.superclass "TurningMilk$Turning" "java/lang/Object" ∈ gw := gw_of (List.mem_of_getElem? (i := 390) (by decide +kernel)) rfl
theorem kw_391 : Cond.arrayClass FieldType.long ∈ gw := gw_of (List.mem_of_getElem? (i := 391) (by decide +kernel)) rfl
theorem kw_392 : Cond.classLink RX11 68 RX1 ∈ gw := gw_of (List.mem_of_getElem? (i := 392) (by decide +kernel)) rfl
theorem kw_393 : Cond.instantiable RX1 3 ∈ gw := gw_of (List.mem_of_getElem? (i := 393) (by decide +kernel)) rfl
theorem kw_394 : Cond.methodLink RX11 70 yX1_init ∈ gw := gw_of (List.mem_of_getElem? (i := 394) (by decide +kernel)) rfl
theorem kw_395 : Cond.instanceMethod yX1_init ∈ gw := gw_of (List.mem_of_getElem? (i := 395) (by decide +kernel)) rfl
theorem kw_396 : Cond.code yX1_init cX1_init 2 (Option.none : Option FieldType) ∈ gw := gw_of (List.mem_of_getElem? (i := 396) (by decide +kernel)) rfl
theorem kw_397 : Cond.methodLink RX1 3 ⟨"java/lang/Object", "<init>", "()V"⟩ ∈ gw := gw_of (List.mem_of_getElem? (i := 397) (by decide +kernel)) rfl
theorem kw_398 : Cond.fieldLink RX1 9 "TurningMilk$Hours" "turning" "LTurningMilk$Turning;" ∈ gw := gw_of (List.mem_of_getElem? (i := 398) (by decide +kernel)) rfl
theorem kw_399 : Cond.fieldLink RX1 21 "TurningMilk$Hours" "told" "LTurningMilk$Told;" ∈ gw := gw_of (List.mem_of_getElem? (i := 399) (by decide +kernel)) rfl
theorem kw_400 : Cond.fieldLink RX1 102 "TurningMilk$Hours" "x" "I" ∈ gw := gw_of (List.mem_of_getElem? (i := 400) (by decide +kernel)) rfl
theorem kw_402 : Cond.laysFinal "TurningMilk$Hours" "TurningMilk$Hours" "turning" "LTurningMilk$Turning;" ∈ gw := gw_of (List.mem_of_getElem? (i := 402) (by decide +kernel)) rfl
theorem kw_404 : Cond.laysFinal "TurningMilk$Hours" "TurningMilk$Hours" "told" "LTurningMilk$Told;" ∈ gw := gw_of (List.mem_of_getElem? (i := 404) (by decide +kernel)) rfl
theorem kw_406 : Cond.lays "TurningMilk$Hours" "TurningMilk$Hours" "x" "I" ∈ gw := gw_of (List.mem_of_getElem? (i := 406) (by decide +kernel)) rfl
theorem kw_408 : Cond.superclass "TurningMilk$Hours" "java/lang/Object" ∈ gw := gw_of (List.mem_of_getElem? (i := 408) (by decide +kernel)) rfl
theorem kw_409 : Cond.classLink RX11 77 RX2 ∈ gw := gw_of (List.mem_of_getElem? (i := 409) (by decide +kernel)) rfl
theorem kw_410 : Cond.instantiable RX2 11 ∈ gw := gw_of (List.mem_of_getElem? (i := 410) (by decide +kernel)) rfl
theorem kw_411 : Cond.methodLink RX11 79 yX2_init ∈ gw := gw_of (List.mem_of_getElem? (i := 411) (by decide +kernel)) rfl
theorem kw_412 : Cond.instanceMethod yX2_init ∈ gw := gw_of (List.mem_of_getElem? (i := 412) (by decide +kernel)) rfl
theorem kw_413 : Cond.code yX2_init cX2_init 2 (Option.none : Option FieldType) ∈ gw := gw_of (List.mem_of_getElem? (i := 413) (by decide +kernel)) rfl
theorem kw_414 : Cond.methodLink RX2 3 ⟨"java/lang/Object", "<init>", "()V"⟩ ∈ gw := gw_of (List.mem_of_getElem? (i := 414) (by decide +kernel)) rfl
theorem kw_415 : Cond.fieldLink RX2 24 "TurningMilk$Relay" "turning" "LTurningMilk$Turning;" ∈ gw := gw_of (List.mem_of_getElem? (i := 415) (by decide +kernel)) rfl
theorem kw_416 : Cond.fieldLink RX2 34 "TurningMilk$Relay" "told" "LTurningMilk$Told;" ∈ gw := gw_of (List.mem_of_getElem? (i := 416) (by decide +kernel)) rfl
theorem kw_417 : Cond.fieldLink RX2 11 "TurningMilk$Relay" "legHours" "[I" ∈ gw := gw_of (List.mem_of_getElem? (i := 417) (by decide +kernel)) rfl
theorem kw_418 : Cond.fieldLink RX2 15 "TurningMilk$Relay" "legBegin" "[I" ∈ gw := gw_of (List.mem_of_getElem? (i := 418) (by decide +kernel)) rfl
theorem kw_419 : Cond.fieldLink RX2 18 "TurningMilk$Relay" "rowsFrom" "[I" ∈ gw := gw_of (List.mem_of_getElem? (i := 419) (by decide +kernel)) rfl
theorem kw_420 : Cond.fieldLink RX2 21 "TurningMilk$Relay" "leastFrom" "[I" ∈ gw := gw_of (List.mem_of_getElem? (i := 420) (by decide +kernel)) rfl
theorem kw_421 : Cond.fieldLink RX2 39 "TurningMilk$Relay" "legs" "I" ∈ gw := gw_of (List.mem_of_getElem? (i := 421) (by decide +kernel)) rfl
theorem kw_422 : Cond.fieldLink RX2 35 "TurningMilk$Relay" "jug" "I" ∈ gw := gw_of (List.mem_of_getElem? (i := 422) (by decide +kernel)) rfl
theorem kw_423 : Cond.fieldLink RX2 56 "TurningMilk$Relay" "begin" "I" ∈ gw := gw_of (List.mem_of_getElem? (i := 423) (by decide +kernel)) rfl
theorem kw_424 : Cond.fieldLink RX2 59 "TurningMilk$Relay" "least" "I" ∈ gw := gw_of (List.mem_of_getElem? (i := 424) (by decide +kernel)) rfl
theorem kw_425 : Cond.fieldLink RX2 62 "TurningMilk$Relay" "most" "I" ∈ gw := gw_of (List.mem_of_getElem? (i := 425) (by decide +kernel)) rfl
theorem kw_426 : Cond.laysFinal "TurningMilk$Relay" "TurningMilk$Relay" "turning" "LTurningMilk$Turning;" ∈ gw := gw_of (List.mem_of_getElem? (i := 426) (by decide +kernel)) rfl
theorem kw_428 : Cond.laysFinal "TurningMilk$Relay" "TurningMilk$Relay" "told" "LTurningMilk$Told;" ∈ gw := gw_of (List.mem_of_getElem? (i := 428) (by decide +kernel)) rfl
theorem kw_430 : Cond.laysFinal "TurningMilk$Relay" "TurningMilk$Relay" "legHours" "[I" ∈ gw := gw_of (List.mem_of_getElem? (i := 430) (by decide +kernel)) rfl
theorem kw_432 : Cond.laysFinal "TurningMilk$Relay" "TurningMilk$Relay" "legBegin" "[I" ∈ gw := gw_of (List.mem_of_getElem? (i := 432) (by decide +kernel)) rfl
theorem kw_434 : Cond.laysFinal "TurningMilk$Relay" "TurningMilk$Relay" "rowsFrom" "[I" ∈ gw := gw_of (List.mem_of_getElem? (i := 434) (by decide +kernel)) rfl
theorem kw_436 : Cond.laysFinal "TurningMilk$Relay" "TurningMilk$Relay" "leastFrom" "[I" ∈ gw := gw_of (List.mem_of_getElem? (i := 436) (by decide +kernel)) rfl
theorem kw_438 : Cond.lays "TurningMilk$Relay" "TurningMilk$Relay" "legs" "I" ∈ gw := gw_of (List.mem_of_getElem? (i := 438) (by decide +kernel)) rfl
theorem kw_440 : Cond.lays "TurningMilk$Relay" "TurningMilk$Relay" "jug" "I" ∈ gw := gw_of (List.mem_of_getElem? (i := 440) (by decide +kernel)) rfl
theorem kw_442 : Cond.lays "TurningMilk$Relay" "TurningMilk$Relay" "begin" "I" ∈ gw := gw_of (List.mem_of_getElem? (i := 442) (by decide +kernel)) rfl
theorem kw_444 : Cond.lays "TurningMilk$Relay" "TurningMilk$Relay" "least" "I" ∈ gw := gw_of (List.mem_of_getElem? (i := 444) (by decide +kernel)) rfl
theorem kw_446 : Cond.lays "TurningMilk$Relay" "TurningMilk$Relay" "most" "I" ∈ gw := gw_of (List.mem_of_getElem? (i := 446) (by decide +kernel)) rfl
theorem kw_448 : Cond.superclass "TurningMilk$Relay" "java/lang/Object" ∈ gw := gw_of (List.mem_of_getElem? (i := 448) (by decide +kernel)) rfl
theorem kw_449 : Cond.classLink RX11 84 RX6 ∈ gw := gw_of (List.mem_of_getElem? (i := 449) (by decide +kernel)) rfl
theorem kw_450 : Cond.instantiable RX6 3 ∈ gw := gw_of (List.mem_of_getElem? (i := 450) (by decide +kernel)) rfl
theorem kw_451 : Cond.methodLink RX11 86 yX6_init ∈ gw := gw_of (List.mem_of_getElem? (i := 451) (by decide +kernel)) rfl
theorem kw_452 : Cond.instanceMethod yX6_init ∈ gw := gw_of (List.mem_of_getElem? (i := 452) (by decide +kernel)) rfl
theorem kw_453 : Cond.code yX6_init cX6_init 2 (Option.none : Option FieldType) ∈ gw := gw_of (List.mem_of_getElem? (i := 453) (by decide +kernel)) rfl
theorem kw_454 : Cond.methodLink RX6 3 ⟨"java/lang/Object", "<init>", "()V"⟩ ∈ gw := gw_of (List.mem_of_getElem? (i := 454) (by decide +kernel)) rfl
theorem kw_455 : Cond.fieldLink RX6 18 "TurningMilk$Tables" "told" "LTurningMilk$Told;" ∈ gw := gw_of (List.mem_of_getElem? (i := 455) (by decide +kernel)) rfl
theorem kw_456 : Cond.fieldLink RX6 11 "TurningMilk$Tables" "payFrom" "[I" ∈ gw := gw_of (List.mem_of_getElem? (i := 456) (by decide +kernel)) rfl
theorem kw_457 : Cond.fieldLink RX6 15 "TurningMilk$Tables" "rowsTo" "[I" ∈ gw := gw_of (List.mem_of_getElem? (i := 457) (by decide +kernel)) rfl
theorem kw_458 : Cond.laysFinal "TurningMilk$Tables" "TurningMilk$Tables" "told" "LTurningMilk$Told;" ∈ gw := gw_of (List.mem_of_getElem? (i := 458) (by decide +kernel)) rfl
theorem kw_460 : Cond.laysFinal "TurningMilk$Tables" "TurningMilk$Tables" "payFrom" "[I" ∈ gw := gw_of (List.mem_of_getElem? (i := 460) (by decide +kernel)) rfl
theorem kw_462 : Cond.laysFinal "TurningMilk$Tables" "TurningMilk$Tables" "rowsTo" "[I" ∈ gw := gw_of (List.mem_of_getElem? (i := 462) (by decide +kernel)) rfl
theorem kw_464 : Cond.superclass "TurningMilk$Tables" "java/lang/Object" ∈ gw := gw_of (List.mem_of_getElem? (i := 464) (by decide +kernel)) rfl
theorem kw_465 : Cond.classLink RX11 91 RX9 ∈ gw := gw_of (List.mem_of_getElem? (i := 465) (by decide +kernel)) rfl
theorem kw_466 : Cond.instantiable RX9 5 ∈ gw := gw_of (List.mem_of_getElem? (i := 466) (by decide +kernel)) rfl
theorem kw_467 : Cond.methodLink RX11 93 yX9_init ∈ gw := gw_of (List.mem_of_getElem? (i := 467) (by decide +kernel)) rfl
theorem kw_468 : Cond.instanceMethod yX9_init ∈ gw := gw_of (List.mem_of_getElem? (i := 468) (by decide +kernel)) rfl
theorem kw_469 : Cond.code yX9_init cX9_init 3 (Option.none : Option FieldType) ∈ gw := gw_of (List.mem_of_getElem? (i := 469) (by decide +kernel)) rfl
theorem kw_470 : Cond.methodLink RX9 3 ⟨"java/lang/Object", "<init>", "()V"⟩ ∈ gw := gw_of (List.mem_of_getElem? (i := 470) (by decide +kernel)) rfl
theorem kw_471 : Cond.fieldLink RX9 15 "TurningMilk$Trials" "scene" "LTurningMilk$Scene;" ∈ gw := gw_of (List.mem_of_getElem? (i := 471) (by decide +kernel)) rfl
theorem kw_472 : Cond.fieldLink RX9 19 "TurningMilk$Trials" "turning" "LTurningMilk$Turning;" ∈ gw := gw_of (List.mem_of_getElem? (i := 472) (by decide +kernel)) rfl
theorem kw_473 : Cond.fieldLink RX9 11 "TurningMilk$Trials" "turnedAfter" "[I" ∈ gw := gw_of (List.mem_of_getElem? (i := 473) (by decide +kernel)) rfl
theorem kw_474 : Cond.fieldLink RX9 98 "TurningMilk$Trials" "probeHours" "I" ∈ gw := gw_of (List.mem_of_getElem? (i := 474) (by decide +kernel)) rfl
theorem kw_476 : Cond.fieldLink RX9 91 "TurningMilk$Trials" "probeAlike" "I" ∈ gw := gw_of (List.mem_of_getElem? (i := 476) (by decide +kernel)) rfl
theorem kw_478 : Cond.laysFinal "TurningMilk$Trials" "TurningMilk$Trials" "scene" "LTurningMilk$Scene;" ∈ gw := gw_of (List.mem_of_getElem? (i := 478) (by decide +kernel)) rfl
theorem kw_480 : Cond.laysFinal "TurningMilk$Trials" "TurningMilk$Trials" "turning" "LTurningMilk$Turning;" ∈ gw := gw_of (List.mem_of_getElem? (i := 480) (by decide +kernel)) rfl
theorem kw_482 : Cond.laysFinal "TurningMilk$Trials" "TurningMilk$Trials" "turnedAfter" "[I" ∈ gw := gw_of (List.mem_of_getElem? (i := 482) (by decide +kernel)) rfl
theorem kw_484 : Cond.lays "TurningMilk$Trials" "TurningMilk$Trials" "probeHours" "I" ∈ gw := gw_of (List.mem_of_getElem? (i := 484) (by decide +kernel)) rfl
theorem kw_486 : Cond.lays "TurningMilk$Trials" "TurningMilk$Trials" "probeAlike" "I" ∈ gw := gw_of (List.mem_of_getElem? (i := 486) (by decide +kernel)) rfl
theorem kw_488 : Cond.superclass "TurningMilk$Trials" "java/lang/Object" ∈ gw := gw_of (List.mem_of_getElem? (i := 488) (by decide +kernel)) rfl
theorem kw_489 : Cond.methodLink RX11 100 yX5_init ∈ gw := gw_of (List.mem_of_getElem? (i := 489) (by decide +kernel)) rfl
theorem kw_490 : Cond.fieldLink RX11 105 "TurningMilk" "NO_RULE" "[I" ∈ gw := gw_of (List.mem_of_getElem? (i := 490) (by decide +kernel)) rfl
theorem kw_491 : Cond.fieldLink RX11 10 "TurningMilk" "tape" "LTurningMilk$Tape;" ∈ gw := gw_of (List.mem_of_getElem? (i := 491) (by decide +kernel)) rfl
theorem kw_492 : Cond.fieldLink RX11 19 "TurningMilk" "now" "LTurningMilk$Scene;" ∈ gw := gw_of (List.mem_of_getElem? (i := 492) (by decide +kernel)) rfl
theorem kw_493 : Cond.fieldLink RX11 23 "TurningMilk" "images" "[LTurningMilk$Scene;" ∈ gw := gw_of (List.mem_of_getElem? (i := 493) (by decide +kernel)) rfl
theorem kw_494 : Cond.fieldLink RX11 29 "TurningMilk" "past" "[LTurningMilk$State;" ∈ gw := gw_of (List.mem_of_getElem? (i := 494) (by decide +kernel)) rfl
theorem kw_495 : Cond.fieldLink RX11 243 "TurningMilk" "nextPast" "I" ∈ gw := gw_of (List.mem_of_getElem? (i := 495) (by decide +kernel)) rfl
theorem kw_496 : Cond.fieldLink RX11 143 "TurningMilk" "undoable" "I" ∈ gw := gw_of (List.mem_of_getElem? (i := 496) (by decide +kernel)) rfl
theorem kw_497 : Cond.fieldLink RX11 35 "TurningMilk" "codes" "[[I" ∈ gw := gw_of (List.mem_of_getElem? (i := 497) (by decide +kernel)) rfl
theorem kw_498 : Cond.fieldLink RX11 149 "TurningMilk" "rules" "I" ∈ gw := gw_of (List.mem_of_getElem? (i := 498) (by decide +kernel)) rfl
theorem kw_499 : Cond.fieldLink RX11 44 "TurningMilk" "dairyReader" "LTurningMilk$DairyReader;" ∈ gw := gw_of (List.mem_of_getElem? (i := 499) (by decide +kernel)) rfl
theorem kw_500 : Cond.fieldLink RX11 51 "TurningMilk" "ruleReader" "LTurningMilk$RuleReader;" ∈ gw := gw_of (List.mem_of_getElem? (i := 500) (by decide +kernel)) rfl
theorem kw_501 : Cond.fieldLink RX11 64 "TurningMilk" "turning" "LTurningMilk$Turning;" ∈ gw := gw_of (List.mem_of_getElem? (i := 501) (by decide +kernel)) rfl
theorem kw_502 : Cond.fieldLink RX11 73 "TurningMilk" "passing" "LTurningMilk$Hours;" ∈ gw := gw_of (List.mem_of_getElem? (i := 502) (by decide +kernel)) rfl
theorem kw_503 : Cond.fieldLink RX11 80 "TurningMilk" "rowsOfHands" "LTurningMilk$Relay;" ∈ gw := gw_of (List.mem_of_getElem? (i := 503) (by decide +kernel)) rfl
theorem kw_504 : Cond.fieldLink RX11 87 "TurningMilk" "tables" "LTurningMilk$Tables;" ∈ gw := gw_of (List.mem_of_getElem? (i := 504) (by decide +kernel)) rfl
theorem kw_505 : Cond.fieldLink RX11 96 "TurningMilk" "trials" "LTurningMilk$Trials;" ∈ gw := gw_of (List.mem_of_getElem? (i := 505) (by decide +kernel)) rfl
theorem kw_506 : Cond.fieldLink RX11 101 "TurningMilk" "supposed" "LTurningMilk$State;" ∈ gw := gw_of (List.mem_of_getElem? (i := 506) (by decide +kernel)) rfl
theorem kw_507 : Cond.laysFinal "TurningMilk" "TurningMilk" "tape" "LTurningMilk$Tape;" ∈ gw := gw_of (List.mem_of_getElem? (i := 507) (by decide +kernel)) rfl
theorem kw_509 : Cond.laysFinal "TurningMilk" "TurningMilk" "now" "LTurningMilk$Scene;" ∈ gw := gw_of (List.mem_of_getElem? (i := 509) (by decide +kernel)) rfl
theorem kw_511 : Cond.laysFinal "TurningMilk" "TurningMilk" "images" "[LTurningMilk$Scene;" ∈ gw := gw_of (List.mem_of_getElem? (i := 511) (by decide +kernel)) rfl
theorem kw_513 : Cond.laysFinal "TurningMilk" "TurningMilk" "past" "[LTurningMilk$State;" ∈ gw := gw_of (List.mem_of_getElem? (i := 513) (by decide +kernel)) rfl
theorem kw_515 : Cond.lays "TurningMilk" "TurningMilk" "nextPast" "I" ∈ gw := gw_of (List.mem_of_getElem? (i := 515) (by decide +kernel)) rfl
theorem kw_517 : Cond.lays "TurningMilk" "TurningMilk" "undoable" "I" ∈ gw := gw_of (List.mem_of_getElem? (i := 517) (by decide +kernel)) rfl
theorem kw_519 : Cond.laysFinal "TurningMilk" "TurningMilk" "codes" "[[I" ∈ gw := gw_of (List.mem_of_getElem? (i := 519) (by decide +kernel)) rfl
theorem kw_521 : Cond.lays "TurningMilk" "TurningMilk" "rules" "I" ∈ gw := gw_of (List.mem_of_getElem? (i := 521) (by decide +kernel)) rfl
theorem kw_523 : Cond.laysFinal "TurningMilk" "TurningMilk" "dairyReader" "LTurningMilk$DairyReader;" ∈ gw := gw_of (List.mem_of_getElem? (i := 523) (by decide +kernel)) rfl
theorem kw_525 : Cond.laysFinal "TurningMilk" "TurningMilk" "ruleReader" "LTurningMilk$RuleReader;" ∈ gw := gw_of (List.mem_of_getElem? (i := 525) (by decide +kernel)) rfl
theorem kw_527 : Cond.laysFinal "TurningMilk" "TurningMilk" "turning" "LTurningMilk$Turning;" ∈ gw := gw_of (List.mem_of_getElem? (i := 527) (by decide +kernel)) rfl
theorem kw_529 : Cond.laysFinal "TurningMilk" "TurningMilk" "passing" "LTurningMilk$Hours;" ∈ gw := gw_of (List.mem_of_getElem? (i := 529) (by decide +kernel)) rfl
theorem kw_531 : Cond.laysFinal "TurningMilk" "TurningMilk" "rowsOfHands" "LTurningMilk$Relay;" ∈ gw := gw_of (List.mem_of_getElem? (i := 531) (by decide +kernel)) rfl
theorem kw_533 : Cond.laysFinal "TurningMilk" "TurningMilk" "tables" "LTurningMilk$Tables;" ∈ gw := gw_of (List.mem_of_getElem? (i := 533) (by decide +kernel)) rfl
theorem kw_535 : Cond.laysFinal "TurningMilk" "TurningMilk" "trials" "LTurningMilk$Trials;" ∈ gw := gw_of (List.mem_of_getElem? (i := 535) (by decide +kernel)) rfl
theorem kw_537 : Cond.laysFinal "TurningMilk" "TurningMilk" "supposed" "LTurningMilk$State;" ∈ gw := gw_of (List.mem_of_getElem? (i := 537) (by decide +kernel)) rfl
theorem kw_539 : Cond.superclass "TurningMilk" "java/lang/Object" ∈ gw := gw_of (List.mem_of_getElem? (i := 539) (by decide +kernel)) rfl
theorem kw_540 : Cond.methodLink RL 13 yX11_feed ∈ gw := gw_of (List.mem_of_getElem? (i := 540) (by decide +kernel)) rfl
theorem kw_541 : Cond.instanceMethod yX11_feed ∈ gw := gw_of (List.mem_of_getElem? (i := 541) (by decide +kernel)) rfl
theorem kw_542 : Cond.selects RX11 yX11_feed yX11_feed ∈ gw := gw_of (List.mem_of_getElem? (i := 542) (by decide +kernel)) rfl
theorem kw_543 : Cond.code yX11_feed cX11_feed 6 (Option.some FieldType.int) ∈ gw := gw_of (List.mem_of_getElem? (i := 543) (by decide +kernel)) rfl
theorem kw_544 : Cond.methodLink RX11 108 yX7_hasRoomFor ∈ gw := gw_of (List.mem_of_getElem? (i := 544) (by decide +kernel)) rfl
theorem kw_545 : Cond.instanceMethod yX7_hasRoomFor ∈ gw := gw_of (List.mem_of_getElem? (i := 545) (by decide +kernel)) rfl
theorem kw_546 : Cond.selects RX7 yX7_hasRoomFor yX7_hasRoomFor ∈ gw := gw_of (List.mem_of_getElem? (i := 546) (by decide +kernel)) rfl
theorem kw_547 : Cond.code yX7_hasRoomFor cX7_hasRoomFor 2 (Option.some FieldType.boolean) ∈ gw := gw_of (List.mem_of_getElem? (i := 547) (by decide +kernel)) rfl
theorem kw_548 : Cond.methodLink RX11 112 yX7_add ∈ gw := gw_of (List.mem_of_getElem? (i := 548) (by decide +kernel)) rfl
