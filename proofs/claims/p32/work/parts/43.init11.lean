abbrev PA2 (D : va_G) (G : Gt) (S : Sh) (M : Mm) (av : List Value) : Array Value → State → Prop := va_Pc av (fun U => KN D G U ∧ Wd D G S M U.heap ∧ U.heap.size = gB G + S.1 ∧ va_O "[I" (gZ G) (aG G) U U.heap)
theorem PA2_blind {D : va_G} {G : Gt} {S : Sh} {M : Mm} {av : List Value} : FrameBlind (PA2 D G S M av) := fun a U g mk q => ⟨q.1, q.2.1.calling, q.2.2.1, q.2.2.2.1, va_O.moved (u := U) (Vm.Alike.refl U.vm) q.2.2.2.2⟩
theorem dX11_init_0 : decode cX11_init 0 = .ok (.aload_n 0, 1) := by decide +kernel
theorem dX11_init_1 : decode cX11_init 1 = .ok (.invokespecial 1, 3) := by decide +kernel
theorem dX11_init_4 : decode cX11_init 4 = .ok (.aload_n 0, 1) := by decide +kernel
theorem dX11_init_5 : decode cX11_init 5 = .ok (.new 7, 3) := by decide +kernel
theorem dX11_init_8 : decode cX11_init 8 = .ok (.dup, 1) := by decide +kernel
theorem dX11_init_9 : decode cX11_init 9 = .ok (.invokespecial 9, 3) := by decide +kernel
theorem dX11_init_12 : decode cX11_init 12 = .ok (.putfield 10, 3) := by decide +kernel
theorem dX11_init_15 : decode cX11_init 15 = .ok (.aload_n 0, 1) := by decide +kernel
theorem dX11_init_16 : decode cX11_init 16 = .ok (.new 16, 3) := by decide +kernel
theorem dX11_init_19 : decode cX11_init 19 = .ok (.dup, 1) := by decide +kernel
theorem dX11_init_20 : decode cX11_init 20 = .ok (.invokespecial 18, 3) := by decide +kernel
theorem dX11_init_23 : decode cX11_init 23 = .ok (.putfield 19, 3) := by decide +kernel
theorem dX11_init_26 : decode cX11_init 26 = .ok (.aload_n 0, 1) := by decide +kernel
theorem dX11_init_27 : decode cX11_init 27 = .ok (.iconst 4, 1) := by decide +kernel
theorem dX11_init_28 : decode cX11_init 28 = .ok (.anewarray 16, 3) := by decide +kernel
theorem dX11_init_31 : decode cX11_init 31 = .ok (.putfield 23, 3) := by decide +kernel
theorem dX11_init_34 : decode cX11_init 34 = .ok (.aload_n 0, 1) := by decide +kernel
theorem dX11_init_35 : decode cX11_init 35 = .ok (.bipush 20, 2) := by decide +kernel
theorem dX11_init_37 : decode cX11_init 37 = .ok (.anewarray 27, 3) := by decide +kernel
theorem dX11_init_40 : decode cX11_init 40 = .ok (.putfield 29, 3) := by decide +kernel
theorem dX11_init_43 : decode cX11_init 43 = .ok (.aload_n 0, 1) := by decide +kernel
theorem dX11_init_44 : decode cX11_init 44 = .ok (.bipush 6, 2) := by decide +kernel
theorem dX11_init_46 : decode cX11_init 46 = .ok (.anewarray 33, 3) := by decide +kernel
theorem dX11_init_49 : decode cX11_init 49 = .ok (.putfield 35, 3) := by decide +kernel
theorem dX11_init_52 : decode cX11_init 52 = .ok (.aload_n 0, 1) := by decide +kernel
theorem dX11_init_53 : decode cX11_init 53 = .ok (.new 39, 3) := by decide +kernel
theorem dX11_init_56 : decode cX11_init 56 = .ok (.dup, 1) := by decide +kernel
theorem dX11_init_57 : decode cX11_init 57 = .ok (.aload_n 0, 1) := by decide +kernel
theorem dX11_init_58 : decode cX11_init 58 = .ok (.getfield 10, 3) := by decide +kernel
theorem dX11_init_61 : decode cX11_init 61 = .ok (.invokespecial 41, 3) := by decide +kernel
theorem dX11_init_64 : decode cX11_init 64 = .ok (.putfield 44, 3) := by decide +kernel
theorem dX11_init_67 : decode cX11_init 67 = .ok (.aload_n 0, 1) := by decide +kernel
theorem dX11_init_68 : decode cX11_init 68 = .ok (.new 48, 3) := by decide +kernel
theorem dX11_init_71 : decode cX11_init 71 = .ok (.dup, 1) := by decide +kernel
theorem dX11_init_72 : decode cX11_init 72 = .ok (.aload_n 0, 1) := by decide +kernel
theorem dX11_init_73 : decode cX11_init 73 = .ok (.getfield 10, 3) := by decide +kernel
theorem dX11_init_76 : decode cX11_init 76 = .ok (.invokespecial 50, 3) := by decide +kernel
theorem dX11_init_79 : decode cX11_init 79 = .ok (.putfield 51, 3) := by decide +kernel
theorem dX11_init_82 : decode cX11_init 82 = .ok (.aload_n 0, 1) := by decide +kernel
theorem dX11_init_83 : decode cX11_init 83 = .ok (.new 55, 3) := by decide +kernel
theorem dX11_init_86 : decode cX11_init 86 = .ok (.dup, 1) := by decide +kernel
theorem dX11_init_87 : decode cX11_init 87 = .ok (.aload_n 0, 1) := by decide +kernel
theorem dX11_init_88 : decode cX11_init 88 = .ok (.getfield 19, 3) := by decide +kernel
theorem dX11_init_91 : decode cX11_init 91 = .ok (.getfield 57, 3) := by decide +kernel
theorem dX11_init_94 : decode cX11_init 94 = .ok (.invokespecial 61, 3) := by decide +kernel
theorem dX11_init_97 : decode cX11_init 97 = .ok (.putfield 64, 3) := by decide +kernel
theorem dX11_init_100 : decode cX11_init 100 = .ok (.aload_n 0, 1) := by decide +kernel
theorem dX11_init_101 : decode cX11_init 101 = .ok (.new 68, 3) := by decide +kernel
theorem dX11_init_104 : decode cX11_init 104 = .ok (.dup, 1) := by decide +kernel
theorem dX11_init_105 : decode cX11_init 105 = .ok (.aload_n 0, 1) := by decide +kernel
theorem dX11_init_106 : decode cX11_init 106 = .ok (.getfield 64, 3) := by decide +kernel
theorem dX11_init_109 : decode cX11_init 109 = .ok (.invokespecial 70, 3) := by decide +kernel
theorem dX11_init_112 : decode cX11_init 112 = .ok (.putfield 73, 3) := by decide +kernel
theorem dX11_init_115 : decode cX11_init 115 = .ok (.aload_n 0, 1) := by decide +kernel
theorem dX11_init_116 : decode cX11_init 116 = .ok (.new 77, 3) := by decide +kernel
theorem dX11_init_119 : decode cX11_init 119 = .ok (.dup, 1) := by decide +kernel
theorem dX11_init_120 : decode cX11_init 120 = .ok (.aload_n 0, 1) := by decide +kernel
theorem dX11_init_121 : decode cX11_init 121 = .ok (.getfield 64, 3) := by decide +kernel
theorem dX11_init_124 : decode cX11_init 124 = .ok (.invokespecial 79, 3) := by decide +kernel
theorem dX11_init_127 : decode cX11_init 127 = .ok (.putfield 80, 3) := by decide +kernel
theorem dX11_init_130 : decode cX11_init 130 = .ok (.aload_n 0, 1) := by decide +kernel
theorem dX11_init_131 : decode cX11_init 131 = .ok (.new 84, 3) := by decide +kernel
theorem dX11_init_134 : decode cX11_init 134 = .ok (.dup, 1) := by decide +kernel
theorem dX11_init_135 : decode cX11_init 135 = .ok (.aload_n 0, 1) := by decide +kernel
theorem dX11_init_136 : decode cX11_init 136 = .ok (.getfield 19, 3) := by decide +kernel
theorem dX11_init_139 : decode cX11_init 139 = .ok (.getfield 57, 3) := by decide +kernel
theorem dX11_init_142 : decode cX11_init 142 = .ok (.invokespecial 86, 3) := by decide +kernel
theorem dX11_init_145 : decode cX11_init 145 = .ok (.putfield 87, 3) := by decide +kernel
theorem dX11_init_148 : decode cX11_init 148 = .ok (.aload_n 0, 1) := by decide +kernel
theorem dX11_init_149 : decode cX11_init 149 = .ok (.new 91, 3) := by decide +kernel
theorem dX11_init_152 : decode cX11_init 152 = .ok (.dup, 1) := by decide +kernel
theorem dX11_init_153 : decode cX11_init 153 = .ok (.aload_n 0, 1) := by decide +kernel
theorem dX11_init_154 : decode cX11_init 154 = .ok (.getfield 19, 3) := by decide +kernel
theorem dX11_init_157 : decode cX11_init 157 = .ok (.aload_n 0, 1) := by decide +kernel
theorem dX11_init_158 : decode cX11_init 158 = .ok (.getfield 64, 3) := by decide +kernel
theorem dX11_init_161 : decode cX11_init 161 = .ok (.invokespecial 93, 3) := by decide +kernel
theorem dX11_init_164 : decode cX11_init 164 = .ok (.putfield 96, 3) := by decide +kernel
theorem dX11_init_167 : decode cX11_init 167 = .ok (.aload_n 0, 1) := by decide +kernel
theorem dX11_init_168 : decode cX11_init 168 = .ok (.new 27, 3) := by decide +kernel
theorem dX11_init_171 : decode cX11_init 171 = .ok (.dup, 1) := by decide +kernel
theorem dX11_init_172 : decode cX11_init 172 = .ok (.invokespecial 100, 3) := by decide +kernel
theorem dX11_init_175 : decode cX11_init 175 = .ok (.putfield 101, 3) := by decide +kernel
theorem dX11_init_178 : decode cX11_init 178 = .ok (.iconst 0, 1) := by decide +kernel
theorem dX11_init_179 : decode cX11_init 179 = .ok (.istore_n 1, 1) := by decide +kernel
theorem dX11_init_180 : decode cX11_init 180 = .ok (.iload_n 1, 1) := by decide +kernel
theorem dX11_init_181 : decode cX11_init 181 = .ok (.iconst 4, 1) := by decide +kernel
theorem dX11_init_182 : decode cX11_init 182 = .ok (.if_icmp .ge 22, 3) := by decide +kernel
theorem dX11_init_185 : decode cX11_init 185 = .ok (.aload_n 0, 1) := by decide +kernel
theorem dX11_init_186 : decode cX11_init 186 = .ok (.getfield 23, 3) := by decide +kernel
theorem dX11_init_189 : decode cX11_init 189 = .ok (.iload_n 1, 1) := by decide +kernel
theorem dX11_init_190 : decode cX11_init 190 = .ok (.new 16, 3) := by decide +kernel
theorem dX11_init_193 : decode cX11_init 193 = .ok (.dup, 1) := by decide +kernel
theorem dX11_init_194 : decode cX11_init 194 = .ok (.invokespecial 18, 3) := by decide +kernel
theorem dX11_init_197 : decode cX11_init 197 = .ok (.aastore, 1) := by decide +kernel
theorem dX11_init_198 : decode cX11_init 198 = .ok (.iinc 1 1, 3) := by decide +kernel
theorem dX11_init_201 : decode cX11_init 201 = .ok (.goto (-21), 3) := by decide +kernel
theorem dX11_init_204 : decode cX11_init 204 = .ok (.iconst 0, 1) := by decide +kernel
theorem dX11_init_205 : decode cX11_init 205 = .ok (.istore_n 1, 1) := by decide +kernel
theorem dX11_init_206 : decode cX11_init 206 = .ok (.iload_n 1, 1) := by decide +kernel
theorem dX11_init_207 : decode cX11_init 207 = .ok (.bipush 6, 2) := by decide +kernel
theorem dX11_init_209 : decode cX11_init 209 = .ok (.if_icmp .ge 18, 3) := by decide +kernel
theorem dX11_init_212 : decode cX11_init 212 = .ok (.aload_n 0, 1) := by decide +kernel
theorem dX11_init_213 : decode cX11_init 213 = .ok (.getfield 35, 3) := by decide +kernel
theorem dX11_init_216 : decode cX11_init 216 = .ok (.iload_n 1, 1) := by decide +kernel
theorem dX11_init_217 : decode cX11_init 217 = .ok (.getstatic 105, 3) := by decide +kernel
theorem dX11_init_220 : decode cX11_init 220 = .ok (.aastore, 1) := by decide +kernel
theorem dX11_init_221 : decode cX11_init 221 = .ok (.iinc 1 1, 3) := by decide +kernel
theorem dX11_init_224 : decode cX11_init 224 = .ok (.goto (-18), 3) := by decide +kernel
theorem dX11_init_227 : decode cX11_init 227 = .ok (.iconst 0, 1) := by decide +kernel
theorem dX11_init_228 : decode cX11_init 228 = .ok (.istore_n 1, 1) := by decide +kernel
theorem dX11_init_229 : decode cX11_init 229 = .ok (.iload_n 1, 1) := by decide +kernel
theorem dX11_init_230 : decode cX11_init 230 = .ok (.bipush 20, 2) := by decide +kernel
theorem dX11_init_232 : decode cX11_init 232 = .ok (.if_icmp .ge 22, 3) := by decide +kernel
theorem dX11_init_235 : decode cX11_init 235 = .ok (.aload_n 0, 1) := by decide +kernel
theorem dX11_init_236 : decode cX11_init 236 = .ok (.getfield 29, 3) := by decide +kernel
theorem dX11_init_239 : decode cX11_init 239 = .ok (.iload_n 1, 1) := by decide +kernel
theorem dX11_init_240 : decode cX11_init 240 = .ok (.new 27, 3) := by decide +kernel
theorem dX11_init_243 : decode cX11_init 243 = .ok (.dup, 1) := by decide +kernel
theorem dX11_init_244 : decode cX11_init 244 = .ok (.invokespecial 100, 3) := by decide +kernel
theorem dX11_init_247 : decode cX11_init 247 = .ok (.aastore, 1) := by decide +kernel
theorem dX11_init_248 : decode cX11_init 248 = .ok (.iinc 1 1, 3) := by decide +kernel
theorem dX11_init_251 : decode cX11_init 251 = .ok (.goto (-22), 3) := by decide +kernel
theorem dX11_init_254 : decode cX11_init 254 = .ok (.return_, 1) := by decide +kernel
abbrev RM_X11_init : Room := { frames := 4, cells := 335, slots := 19686, locals := 104 }
def cw_X11_init : Cond := Cond.code yX11_init cX11_init 2 (Option.none : Option FieldType)
theorem hd_X11_init : yX11_init.cls ≠ "java/lang/invoke/MethodHandle" ∧ yX11_init.cls ≠ "java/lang/invoke/VarHandle" ∧ (parseMethodDescriptor yX11_init.desc).map (fun d => d.parameters.length) = some 0 := by decide +kernel
def wp_X11_init (S : Sh) (M : Mm) (u0 : Int) (post : Sh → Mm → Prop) : Prop := wNew S M 7 fun S1 M2 x3 => isK S1 x3 7 ∧ (wp_X7_init S1 M2 x3 <| fun S4 M5 => wPutR S4 M5 u0 11 0 x3 fun M6 => wNew S4 M6 4 fun S7 M8 x9 => isK S7 x9 4 ∧ (wp_X4_init S7 M8 x9 <| fun S10 M11 => wPutR S10 M11 u0 11 1 x9 fun M12 => wNewA S10 M12 17 4 fun S13 M14 x15 => wPutR S13 M14 u0 11 2 x15 fun M16 => wNewA S13 M16 18 20 fun S17 M18 x19 => wPutR S17 M18 u0 11 3 x19 fun M20 => wNewA S17 M20 19 6 fun S21 M22 x23 => wPutR S21 M22 u0 11 6 x23 fun M24 => wNew S21 M24 0 fun S25 M26 x27 => wGetR S25 M26 u0 11 0 fun v28 => isK S25 x27 0 ∧ (wp_X0_init S25 M26 x27 v28 <| fun S30 M31 => wPutR S30 M31 u0 11 8 x27 fun M32 => wNew S30 M32 3 fun S33 M34 x35 => wGetR S33 M34 u0 11 0 fun v36 => isK S33 x35 3 ∧ (wp_X3_init S33 M34 x35 v36 <| fun S38 M39 => wPutR S38 M39 u0 11 9 x35 fun M40 => wNew S38 M40 10 fun S41 M42 x43 => wGetR S41 M42 u0 11 1 fun v44 => wGetR S41 M42 v44 4 0 fun v46 => isK S41 x43 10 ∧ (wp_X10_init S41 M42 x43 v46 <| fun S48 M49 => wPutR S48 M49 u0 11 10 x43 fun M50 => wNew S48 M50 1 fun S51 M52 x53 => wGetR S51 M52 u0 11 10 fun v54 => isK S51 x53 1 ∧ (wp_X1_init S51 M52 x53 v54 <| fun S56 M57 => wPutR S56 M57 u0 11 11 x53 fun M58 => wNew S56 M58 2 fun S59 M60 x61 => wGetR S59 M60 u0 11 10 fun v62 => isK S59 x61 2 ∧ (wp_X2_init S59 M60 x61 v62 <| fun S64 M65 => wPutR S64 M65 u0 11 12 x61 fun M66 => wNew S64 M66 6 fun S67 M68 x69 => wGetR S67 M68 u0 11 1 fun v70 => wGetR S67 M68 v70 4 0 fun v72 => isK S67 x69 6 ∧ (wp_X6_init S67 M68 x69 v72 <| fun S74 M75 => wPutR S74 M75 u0 11 13 x69 fun M76 => wNew S74 M76 9 fun S77 M78 x79 => wGetR S77 M78 u0 11 1 fun v80 => wGetR S77 M78 u0 11 10 fun v82 => isK S77 x79 9 ∧ (wp_X9_init S77 M78 x79 v80 v82 <| fun S84 M85 => wPutR S84 M85 u0 11 14 x79 fun M86 => wNew S84 M86 5 fun S87 M88 x89 => isK S87 x89 5 ∧ (wp_X5_init S87 M88 x89 <| fun S90 M91 => wPutR S90 M91 u0 11 15 x89 fun M92 => wGetR S90 M92 u0 11 2 fun v93 => wNew S90 M92 4 fun S95 M96 x97 => isK S95 x97 4 ∧ (wp_X4_init S95 M96 x97 <| fun S98 M99 => wStR S98 M99 v93 17 0 x97 4 fun M100 => wGetR S98 M100 u0 11 2 fun v101 => wNew S98 M100 4 fun S103 M104 x105 => isK S103 x105 4 ∧ (wp_X4_init S103 M104 x105 <| fun S106 M107 => wStR S106 M107 v101 17 1 x105 4 fun M108 => wGetR S106 M108 u0 11 2 fun v109 => wNew S106 M108 4 fun S111 M112 x113 => isK S111 x113 4 ∧ (wp_X4_init S111 M112 x113 <| fun S114 M115 => wStR S114 M115 v109 17 2 x113 4 fun M116 => wGetR S114 M116 u0 11 2 fun v117 => wNew S114 M116 4 fun S119 M120 x121 => isK S119 x121 4 ∧ (wp_X4_init S119 M120 x121 <| fun S122 M123 => wStR S122 M123 v117 17 3 x121 4 fun M124 => wGetR S122 M124 u0 11 6 fun v125 => wC (-2) fun v127 => wSt19 S122 M124 v125 0 v127 fun M129 => wGetR S122 M129 u0 11 6 fun v130 => wC (-2) fun v132 => wSt19 S122 M129 v130 1 v132 fun M134 => wGetR S122 M134 u0 11 6 fun v135 => wC (-2) fun v137 => wSt19 S122 M134 v135 2 v137 fun M139 => wGetR S122 M139 u0 11 6 fun v140 => wC (-2) fun v142 => wSt19 S122 M139 v140 3 v142 fun M144 => wGetR S122 M144 u0 11 6 fun v145 => wC (-2) fun v147 => wSt19 S122 M144 v145 4 v147 fun M149 => wGetR S122 M149 u0 11 6 fun v150 => wC (-2) fun v152 => wSt19 S122 M149 v150 5 v152 fun M154 => wGetR S122 M154 u0 11 3 fun v155 => wNew S122 M154 5 fun S157 M158 x159 => isK S157 x159 5 ∧ (wp_X5_init S157 M158 x159 <| fun S160 M161 => wStR S160 M161 v155 18 0 x159 5 fun M162 => wGetR S160 M162 u0 11 3 fun v163 => wNew S160 M162 5 fun S165 M166 x167 => isK S165 x167 5 ∧ (wp_X5_init S165 M166 x167 <| fun S168 M169 => wStR S168 M169 v163 18 1 x167 5 fun M170 => wGetR S168 M170 u0 11 3 fun v171 => wNew S168 M170 5 fun S173 M174 x175 => isK S173 x175 5 ∧ (wp_X5_init S173 M174 x175 <| fun S176 M177 => wStR S176 M177 v171 18 2 x175 5 fun M178 => wGetR S176 M178 u0 11 3 fun v179 => wNew S176 M178 5 fun S181 M182 x183 => isK S181 x183 5 ∧ (wp_X5_init S181 M182 x183 <| fun S184 M185 => wStR S184 M185 v179 18 3 x183 5 fun M186 => wGetR S184 M186 u0 11 3 fun v187 => wNew S184 M186 5 fun S189 M190 x191 => isK S189 x191 5 ∧ (wp_X5_init S189 M190 x191 <| fun S192 M193 => wStR S192 M193 v187 18 4 x191 5 fun M194 => wGetR S192 M194 u0 11 3 fun v195 => wNew S192 M194 5 fun S197 M198 x199 => isK S197 x199 5 ∧ (wp_X5_init S197 M198 x199 <| fun S200 M201 => wStR S200 M201 v195 18 5 x199 5 fun M202 => wGetR S200 M202 u0 11 3 fun v203 => wNew S200 M202 5 fun S205 M206 x207 => isK S205 x207 5 ∧ (wp_X5_init S205 M206 x207 <| fun S208 M209 => wStR S208 M209 v203 18 6 x207 5 fun M210 => wGetR S208 M210 u0 11 3 fun v211 => wNew S208 M210 5 fun S213 M214 x215 => isK S213 x215 5 ∧ (wp_X5_init S213 M214 x215 <| fun S216 M217 => wStR S216 M217 v211 18 7 x215 5 fun M218 => wGetR S216 M218 u0 11 3 fun v219 => wNew S216 M218 5 fun S221 M222 x223 => isK S221 x223 5 ∧ (wp_X5_init S221 M222 x223 <| fun S224 M225 => wStR S224 M225 v219 18 8 x223 5 fun M226 => wGetR S224 M226 u0 11 3 fun v227 => wNew S224 M226 5 fun S229 M230 x231 => isK S229 x231 5 ∧ (wp_X5_init S229 M230 x231 <| fun S232 M233 => wStR S232 M233 v227 18 9 x231 5 fun M234 => wGetR S232 M234 u0 11 3 fun v235 => wNew S232 M234 5 fun S237 M238 x239 => isK S237 x239 5 ∧ (wp_X5_init S237 M238 x239 <| fun S240 M241 => wStR S240 M241 v235 18 10 x239 5 fun M242 => wGetR S240 M242 u0 11 3 fun v243 => wNew S240 M242 5 fun S245 M246 x247 => isK S245 x247 5 ∧ (wp_X5_init S245 M246 x247 <| fun S248 M249 => wStR S248 M249 v243 18 11 x247 5 fun M250 => wGetR S248 M250 u0 11 3 fun v251 => wNew S248 M250 5 fun S253 M254 x255 => isK S253 x255 5 ∧ (wp_X5_init S253 M254 x255 <| fun S256 M257 => wStR S256 M257 v251 18 12 x255 5 fun M258 => wGetR S256 M258 u0 11 3 fun v259 => wNew S256 M258 5 fun S261 M262 x263 => isK S261 x263 5 ∧ (wp_X5_init S261 M262 x263 <| fun S264 M265 => wStR S264 M265 v259 18 13 x263 5 fun M266 => wGetR S264 M266 u0 11 3 fun v267 => wNew S264 M266 5 fun S269 M270 x271 => isK S269 x271 5 ∧ (wp_X5_init S269 M270 x271 <| fun S272 M273 => wStR S272 M273 v267 18 14 x271 5 fun M274 => wGetR S272 M274 u0 11 3 fun v275 => wNew S272 M274 5 fun S277 M278 x279 => isK S277 x279 5 ∧ (wp_X5_init S277 M278 x279 <| fun S280 M281 => wStR S280 M281 v275 18 15 x279 5 fun M282 => wGetR S280 M282 u0 11 3 fun v283 => wNew S280 M282 5 fun S285 M286 x287 => isK S285 x287 5 ∧ (wp_X5_init S285 M286 x287 <| fun S288 M289 => wStR S288 M289 v283 18 16 x287 5 fun M290 => wGetR S288 M290 u0 11 3 fun v291 => wNew S288 M290 5 fun S293 M294 x295 => isK S293 x295 5 ∧ (wp_X5_init S293 M294 x295 <| fun S296 M297 => wStR S296 M297 v291 18 17 x295 5 fun M298 => wGetR S296 M298 u0 11 3 fun v299 => wNew S296 M298 5 fun S301 M302 x303 => isK S301 x303 5 ∧ (wp_X5_init S301 M302 x303 <| fun S304 M305 => wStR S304 M305 v299 18 18 x303 5 fun M306 => wGetR S304 M306 u0 11 3 fun v307 => wNew S304 M306 5 fun S309 M310 x311 => isK S309 x311 5 ∧ (wp_X5_init S309 M310 x311 <| fun S312 M313 => wStR S312 M313 v307 18 19 x311 5 fun M314 => post S312 M314))))))))))))))))))))))))))))))))))
set_option maxHeartbeats 8000000 in
set_option maxRecDepth 100000 in
theorem c_X11_init (l : Launch) (D : va_G) (G : Gt) (S : Sh) (M : Mm) (hG : ∀ a : Nat, G.1 a = gB G + a) (xl0 : Int) (post : Sh → Mm → Prop) (h : wp_X11_init S M xl0 post) : Met l yX11_init (cw_X11_init :: gw) RM_X11_init (PA2 D G S M [.ref (adr G xl0)]) (QA D G S 335 post) 335 19686 (aG G) := by
  refine Met.ofW (cc := cX11_init) (maxL := 2) (ret := none) (by decide) rfl ?_
  intro p e s m args below meth c s₁ B hml hv
  obtain ⟨rfl, hK, hP, hsz0, hO⟩ := hv
  have hx := B.exec
  have hb := B.bytes
  have hr := B.returns
  have hts := atoms_spec (ws := cw_X11_init :: gw) B.pre
  have hown : s.vm.findClass RX11 = some m.cls := findClass_of_methodNamed B.named
  have hlocks := B.notSynchronized
  have hin : meth.name = "<init>" := (name_of_methodNamed B.named B.method).1
  have hb0 : gB G ≤ s.heap.size := by omega
  have hsz : s.heap.size + 0 = gB G + S.1 := by omega
  have hS : va_S (aG G) s.heap s.heap [] := va_S.rf
  have hl := lv_entry ([.ref (adr G xl0)]) (n := 2) (Nat.le_of_ble_eq_true rfl)
  rw [lg_entry_eq]
  generalize (lg_sl ([.ref (adr G xl0)]) ++ List.replicate (2 - (lg_sl ([.ref (adr G xl0)])).length) Slot.unset).toArray = ls at hl ⊢
  have hl : lv_has ls 2 [(0, .ref (adr G xl0))] := hl
  unfold wp_X11_init at h
  refine lv_aload_n hx hb dX11_init_0 rfl (lv_at hl 0 rfl) ?_
  refine W.objInit hx hb hown (hts _ (List.mem_cons_of_mem _ kw_27)) (hts _ (List.mem_cons_of_mem _ kw_28)) (hts _ (List.mem_cons_of_mem _ kw_29)) rfl (by rw [hml]; exact hl.1) rfl dX11_init_1 (Nat.le_of_ble_eq_true rfl) (Nat.le_of_ble_eq_true rfl) ?_
  refine W.eq (g2 := F0 m 4 ls []) rfl ?_
  refine lv_aload_n hx hb dX11_init_4 rfl (lv_at hl 0 rfl) ?_
  refine r_new (C := RX7) (T := TX7) (N := 5) hx hb hts (fun w h => List.mem_cons_of_mem _ (iX7 w h)) tyX7 tyX7_ok hown (hts _ (List.mem_cons_of_mem _ kw_30)) (hts _ (List.mem_cons_of_mem _ kw_31)) (hts _ (List.mem_cons_of_mem _ kw_2)) hK hP hS hG hb0 hsz rfl (by decide) rfl df_7 (Nat.le_of_ble_eq_true rfl) (Nat.le_of_ble_eq_true rfl) dX11_init_5 h (fun S1 M2 x3 H h e1 hP hS => ?_)
  replace hsz : s.heap.size + 1 = gB G + S1.1 := by omega
  clear e1
  refine lv_dup hx hb dX11_init_8 rfl ?_
  refine q_I hx hb hml hown hts hK hP hS hG hb0 hsz h.1 (c_X7_init l D G _ _ hG x3 _ h.2) ⟨callB_of 0 hts (gw_good kw_34) rfl rfl rfl (hts _ (List.mem_cons_of_mem _ kw_2)) (hts _ (List.mem_cons_of_mem _ kw_32)) hd_X7_init ⟨Nat.le_of_ble_eq_true rfl, Nat.le_of_ble_eq_true rfl⟩, rfl, (hts _ (List.mem_cons_of_mem _ kw_33))⟩ rfl hl.1 rfl (lv_room (Nat.le_of_ble_eq_true rfl)) dX11_init_9 ⟨Nat.le_of_ble_eq_true rfl, Nat.le_of_ble_eq_true rfl⟩ (fun S4 M5 H locs h e1 hP hS => ?_)
  replace hsz : s.heap.size + 2 = gB G + S4.1 := by omega
  clear e1
  refine r_pRF (C := RX11) (T := TX11) (N := 16) hx hb hts (fun w h => List.mem_cons_of_mem _ (iX11 w h)) hown hK hP tyX11 tyX11_ok nmX11 hS rfl (by decide) rfl 0 (by decide) (hts _ (List.mem_cons_of_mem _ kw_491)) (fun _ h9 => h9) rfl hin rfl (tyX11_ok 0 (by decide)) rfl rfl dX11_init_12 (by decide) h (fun M6 H locs h hP hS => ?_)
  refine lv_aload_n hx hb dX11_init_15 rfl (lv_at hl 0 rfl) ?_
  refine r_new (C := RX4) (T := TX4) (N := 10) hx hb hts (fun w h => List.mem_cons_of_mem _ (iX4 w h)) tyX4 tyX4_ok hown (hts _ (List.mem_cons_of_mem _ kw_55)) (hts _ (List.mem_cons_of_mem _ kw_56)) (hts _ (List.mem_cons_of_mem _ kw_3)) hK hP hS hG hb0 hsz rfl (by decide) rfl df_4 (Nat.le_of_ble_eq_true rfl) (Nat.le_of_ble_eq_true rfl) dX11_init_16 h (fun S7 M8 x9 H h e1 hP hS => ?_)
  replace hsz : s.heap.size + 3 = gB G + S7.1 := by omega
  clear e1
  refine lv_dup hx hb dX11_init_19 rfl ?_
  refine q_I hx hb hml hown hts hK hP hS hG hb0 hsz h.1 (c_X4_init l D G _ _ hG x9 _ h.2) ⟨callB_of 0 hts (gw_good kw_59) rfl rfl rfl (hts _ (List.mem_cons_of_mem _ kw_3)) (hts _ (List.mem_cons_of_mem _ kw_57)) hd_X4_init ⟨Nat.le_of_ble_eq_true rfl, Nat.le_of_ble_eq_true rfl⟩, rfl, (hts _ (List.mem_cons_of_mem _ kw_58))⟩ rfl hl.1 rfl (lv_room (Nat.le_of_ble_eq_true rfl)) dX11_init_20 ⟨Nat.le_of_ble_eq_true rfl, Nat.le_of_ble_eq_true rfl⟩ (fun S10 M11 H locs h e1 hP hS => ?_)
  replace hsz : s.heap.size + 27 = gB G + S10.1 := by omega
  clear e1
  refine r_pRF (C := RX11) (T := TX11) (N := 16) hx hb hts (fun w h => List.mem_cons_of_mem _ (iX11 w h)) hown hK hP tyX11 tyX11_ok nmX11 hS rfl (by decide) rfl 1 (by decide) (hts _ (List.mem_cons_of_mem _ kw_492)) (fun _ h9 => h9) rfl hin rfl (tyX11_ok 1 (by decide)) rfl rfl dX11_init_23 (by decide) h (fun M12 H locs h hP hS => ?_)
  refine lv_aload_n hx hb dX11_init_26 rfl (lv_at hl 0 rfl) ?_
  refine lv_iconst (v := 4) hx hb dX11_init_27 (by decide) ?_
  refine r_anew17 hx hb hown (hts _ (List.mem_cons_of_mem _ kw_55)) hK hP hS hG hb0 hsz (N := 4) (by decide) (by decide) (Nat.le_of_ble_eq_true rfl) (Nat.le_of_ble_eq_true rfl) dX11_init_28 h (fun S13 M14 x15 H h e1 hP hS => ?_)
  replace hsz : s.heap.size + 28 = gB G + S13.1 := by omega
  clear e1
  refine r_pRF (C := RX11) (T := TX11) (N := 16) hx hb hts (fun w h => List.mem_cons_of_mem _ (iX11 w h)) hown hK hP tyX11 tyX11_ok nmX11 hS rfl (by decide) rfl 2 (by decide) (hts _ (List.mem_cons_of_mem _ kw_493)) (fun _ h9 => h9) rfl hin rfl (tyX11_ok 2 (by decide)) rfl rfl dX11_init_31 (by decide) h (fun M16 H locs h hP hS => ?_)
  refine lv_aload_n hx hb dX11_init_34 rfl (lv_at hl 0 rfl) ?_
  refine lv_bipush (v := 20) hx hb dX11_init_35 (by decide) ?_
  refine r_anew18 hx hb hown (hts _ (List.mem_cons_of_mem _ kw_275)) hK hP hS hG hb0 hsz (N := 20) (by decide) (by decide) (Nat.le_of_ble_eq_true rfl) (Nat.le_of_ble_eq_true rfl) dX11_init_37 h (fun S17 M18 x19 H h e1 hP hS => ?_)
  replace hsz : s.heap.size + 29 = gB G + S17.1 := by omega
  clear e1
  refine r_pRF (C := RX11) (T := TX11) (N := 16) hx hb hts (fun w h => List.mem_cons_of_mem _ (iX11 w h)) hown hK hP tyX11 tyX11_ok nmX11 hS rfl (by decide) rfl 3 (by decide) (hts _ (List.mem_cons_of_mem _ kw_494)) (fun _ h9 => h9) rfl hin rfl (tyX11_ok 3 (by decide)) rfl rfl dX11_init_40 (by decide) h (fun M20 H locs h hP hS => ?_)
  refine lv_aload_n hx hb dX11_init_43 rfl (lv_at hl 0 rfl) ?_
  refine lv_bipush (v := 6) hx hb dX11_init_44 (by decide) ?_
  refine r_anew19 hx hb hown (hts _ (List.mem_cons_of_mem _ kw_277)) hK hP hS hG hb0 hsz (N := 6) (by decide) (by decide) (by omega) (Nat.le_of_ble_eq_true rfl) (Nat.le_of_ble_eq_true rfl) dX11_init_46 h (fun S21 M22 x23 H h e1 hP hS => ?_)
  replace hsz : s.heap.size + 30 = gB G + S21.1 := by omega
  clear e1
  refine r_pRF (C := RX11) (T := TX11) (N := 16) hx hb hts (fun w h => List.mem_cons_of_mem _ (iX11 w h)) hown hK hP tyX11 tyX11_ok nmX11 hS rfl (by decide) rfl 6 (by decide) (hts _ (List.mem_cons_of_mem _ kw_497)) (fun _ h9 => h9) rfl hin rfl (tyX11_ok 6 (by decide)) rfl rfl dX11_init_49 (by decide) h (fun M24 H locs h hP hS => ?_)
  refine lv_aload_n hx hb dX11_init_52 rfl (lv_at hl 0 rfl) ?_
  refine r_new (C := RX0) (T := TX0) (N := 3) hx hb hts (fun w h => List.mem_cons_of_mem _ (iX0 w h)) tyX0 tyX0_ok hown (hts _ (List.mem_cons_of_mem _ kw_279)) (hts _ (List.mem_cons_of_mem _ kw_280)) (hts _ (List.mem_cons_of_mem _ kw_7)) hK hP hS hG hb0 hsz rfl (by decide) rfl df_0 (Nat.le_of_ble_eq_true rfl) (Nat.le_of_ble_eq_true rfl) dX11_init_53 h (fun S25 M26 x27 H h e1 hP hS => ?_)
  replace hsz : s.heap.size + 31 = gB G + S25.1 := by omega
  clear e1
  refine lv_dup hx hb dX11_init_56 rfl ?_
  refine lv_aload_n hx hb dX11_init_57 rfl (lv_at hl 0 rfl) ?_
  refine r_getr (C := RX11) (T := TX11) (N := 16) hx hb hts (fun w h => List.mem_cons_of_mem _ (iX11 w h)) hown hK hP rfl (by decide) rfl 0 (by decide) (hts _ (List.mem_cons_of_mem _ kw_491)) (fun _ h9 => h9) dX11_init_58 (by decide) h (fun x29 h => ?_)
  refine q_I hx hb hml hown hts hK hP hS hG hb0 hsz h.1 (c_X0_init l D G _ _ hG x27 x29 _ h.2) ⟨callB_of 1 hts (gw_good kw_283) rfl rfl rfl (hts _ (List.mem_cons_of_mem _ kw_7)) (hts _ (List.mem_cons_of_mem _ kw_281)) hd_X0_init ⟨Nat.le_of_ble_eq_true rfl, Nat.le_of_ble_eq_true rfl⟩, rfl, (hts _ (List.mem_cons_of_mem _ kw_282))⟩ rfl hl.1 rfl (lv_room (Nat.le_of_ble_eq_true rfl)) dX11_init_61 ⟨Nat.le_of_ble_eq_true rfl, Nat.le_of_ble_eq_true rfl⟩ (fun S30 M31 H locs h e1 hP hS => ?_)
  replace hsz : s.heap.size + 51 = gB G + S30.1 := by omega
  clear e1
  refine r_pRF (C := RX11) (T := TX11) (N := 16) hx hb hts (fun w h => List.mem_cons_of_mem _ (iX11 w h)) hown hK hP tyX11 tyX11_ok nmX11 hS rfl (by decide) rfl 8 (by decide) (hts _ (List.mem_cons_of_mem _ kw_499)) (fun _ h9 => h9) rfl hin rfl (tyX11_ok 8 (by decide)) rfl rfl dX11_init_64 (by decide) h (fun M32 H locs h hP hS => ?_)
  refine lv_aload_n hx hb dX11_init_67 rfl (lv_at hl 0 rfl) ?_
  refine r_new (C := RX3) (T := TX3) (N := 9) hx hb hts (fun w h => List.mem_cons_of_mem _ (iX3 w h)) tyX3 tyX3_ok hown (hts _ (List.mem_cons_of_mem _ kw_301)) (hts _ (List.mem_cons_of_mem _ kw_302)) (hts _ (List.mem_cons_of_mem _ kw_8)) hK hP hS hG hb0 hsz rfl (by decide) rfl df_3 (Nat.le_of_ble_eq_true rfl) (Nat.le_of_ble_eq_true rfl) dX11_init_68 h (fun S33 M34 x35 H h e1 hP hS => ?_)
  replace hsz : s.heap.size + 52 = gB G + S33.1 := by omega
  clear e1
  refine lv_dup hx hb dX11_init_71 rfl ?_
  refine lv_aload_n hx hb dX11_init_72 rfl (lv_at hl 0 rfl) ?_
  refine r_getr (C := RX11) (T := TX11) (N := 16) hx hb hts (fun w h => List.mem_cons_of_mem _ (iX11 w h)) hown hK hP rfl (by decide) rfl 0 (by decide) (hts _ (List.mem_cons_of_mem _ kw_491)) (fun _ h9 => h9) dX11_init_73 (by decide) h (fun x37 h => ?_)
  refine q_I hx hb hml hown hts hK hP hS hG hb0 hsz h.1 (c_X3_init l D G _ _ hG x35 x37 _ h.2) ⟨callB_of 1 hts (gw_good kw_305) rfl rfl rfl (hts _ (List.mem_cons_of_mem _ kw_8)) (hts _ (List.mem_cons_of_mem _ kw_303)) hd_X3_init ⟨Nat.le_of_ble_eq_true rfl, Nat.le_of_ble_eq_true rfl⟩, rfl, (hts _ (List.mem_cons_of_mem _ kw_304))⟩ rfl hl.1 rfl (lv_room (Nat.le_of_ble_eq_true rfl)) dX11_init_76 ⟨Nat.le_of_ble_eq_true rfl, Nat.le_of_ble_eq_true rfl⟩ (fun S38 M39 H locs h e1 hP hS => ?_)
  replace hsz : s.heap.size + 54 = gB G + S38.1 := by omega
  clear e1
  refine r_pRF (C := RX11) (T := TX11) (N := 16) hx hb hts (fun w h => List.mem_cons_of_mem _ (iX11 w h)) hown hK hP tyX11 tyX11_ok nmX11 hS rfl (by decide) rfl 9 (by decide) (hts _ (List.mem_cons_of_mem _ kw_500)) (fun _ h9 => h9) rfl hin rfl (tyX11_ok 9 (by decide)) rfl rfl dX11_init_79 (by decide) h (fun M40 H locs h hP hS => ?_)
  refine lv_aload_n hx hb dX11_init_82 rfl (lv_at hl 0 rfl) ?_
  refine r_new (C := RX10) (T := TX10) (N := 12) hx hb hts (fun w h => List.mem_cons_of_mem _ (iX10 w h)) tyX10 tyX10_ok hown (hts _ (List.mem_cons_of_mem _ kw_335)) (hts _ (List.mem_cons_of_mem _ kw_336)) (hts _ (List.mem_cons_of_mem _ kw_9)) hK hP hS hG hb0 hsz rfl (by decide) rfl df_10 (Nat.le_of_ble_eq_true rfl) (Nat.le_of_ble_eq_true rfl) dX11_init_83 h (fun S41 M42 x43 H h e1 hP hS => ?_)
  replace hsz : s.heap.size + 55 = gB G + S41.1 := by omega
  clear e1
  refine lv_dup hx hb dX11_init_86 rfl ?_
  refine lv_aload_n hx hb dX11_init_87 rfl (lv_at hl 0 rfl) ?_
  refine r_getr (C := RX11) (T := TX11) (N := 16) hx hb hts (fun w h => List.mem_cons_of_mem _ (iX11 w h)) hown hK hP rfl (by decide) rfl 1 (by decide) (hts _ (List.mem_cons_of_mem _ kw_492)) (fun _ h9 => h9) dX11_init_88 (by decide) h (fun x45 h => ?_)
  refine r_getrN (C := RX4) (T := TX4) (N := 10) hx hb hts (fun w h => List.mem_cons_of_mem _ (iX4 w h)) hown hK hP rfl (by decide) rfl 0 (by decide) (nw_70 hK) (fun _ h9 => h9) dX11_init_91 (by decide) h (fun x47 h => ?_)
  refine q_I hx hb hml hown hts hK hP hS hG hb0 hsz h.1 (c_X10_init l D G _ _ hG x43 x47 _ h.2) ⟨callB_of 1 hts (gw_good kw_339) rfl rfl rfl (hts _ (List.mem_cons_of_mem _ kw_9)) (hts _ (List.mem_cons_of_mem _ kw_337)) hd_X10_init ⟨Nat.le_of_ble_eq_true rfl, Nat.le_of_ble_eq_true rfl⟩, rfl, (hts _ (List.mem_cons_of_mem _ kw_338))⟩ rfl hl.1 rfl (lv_room (Nat.le_of_ble_eq_true rfl)) dX11_init_94 ⟨Nat.le_of_ble_eq_true rfl, Nat.le_of_ble_eq_true rfl⟩ (fun S48 M49 H locs h e1 hP hS => ?_)
  replace hsz : s.heap.size + 56 = gB G + S48.1 := by omega
  clear e1
  refine r_pRF (C := RX11) (T := TX11) (N := 16) hx hb hts (fun w h => List.mem_cons_of_mem _ (iX11 w h)) hown hK hP tyX11 tyX11_ok nmX11 hS rfl (by decide) rfl 10 (by decide) (hts _ (List.mem_cons_of_mem _ kw_501)) (fun _ h9 => h9) rfl hin rfl (tyX11_ok 10 (by decide)) rfl rfl dX11_init_97 (by decide) h (fun M50 H locs h hP hS => ?_)
  refine lv_aload_n hx hb dX11_init_100 rfl (lv_at hl 0 rfl) ?_
  refine r_new (C := RX1) (T := TX1) (N := 3) hx hb hts (fun w h => List.mem_cons_of_mem _ (iX1 w h)) tyX1 tyX1_ok hown (hts _ (List.mem_cons_of_mem _ kw_392)) (hts _ (List.mem_cons_of_mem _ kw_393)) (hts _ (List.mem_cons_of_mem _ kw_10)) hK hP hS hG hb0 hsz rfl (by decide) rfl df_1 (Nat.le_of_ble_eq_true rfl) (Nat.le_of_ble_eq_true rfl) dX11_init_101 h (fun S51 M52 x53 H h e1 hP hS => ?_)
  replace hsz : s.heap.size + 57 = gB G + S51.1 := by omega
  clear e1
  refine lv_dup hx hb dX11_init_104 rfl ?_
  refine lv_aload_n hx hb dX11_init_105 rfl (lv_at hl 0 rfl) ?_
  refine r_getr (C := RX11) (T := TX11) (N := 16) hx hb hts (fun w h => List.mem_cons_of_mem _ (iX11 w h)) hown hK hP rfl (by decide) rfl 10 (by decide) (hts _ (List.mem_cons_of_mem _ kw_501)) (fun _ h9 => h9) dX11_init_106 (by decide) h (fun x55 h => ?_)
  refine q_I hx hb hml hown hts hK hP hS hG hb0 hsz h.1 (c_X1_init l D G _ _ hG x53 x55 _ h.2) ⟨callB_of 1 hts (gw_good kw_396) rfl rfl rfl (hts _ (List.mem_cons_of_mem _ kw_10)) (hts _ (List.mem_cons_of_mem _ kw_394)) hd_X1_init ⟨Nat.le_of_ble_eq_true rfl, Nat.le_of_ble_eq_true rfl⟩, rfl, (hts _ (List.mem_cons_of_mem _ kw_395))⟩ rfl hl.1 rfl (lv_room (Nat.le_of_ble_eq_true rfl)) dX11_init_109 ⟨Nat.le_of_ble_eq_true rfl, Nat.le_of_ble_eq_true rfl⟩ (fun S56 M57 H locs h e1 hP hS => ?_)
  replace hsz : s.heap.size + 57 = gB G + S56.1 := by omega
  clear e1
  refine r_pRF (C := RX11) (T := TX11) (N := 16) hx hb hts (fun w h => List.mem_cons_of_mem _ (iX11 w h)) hown hK hP tyX11 tyX11_ok nmX11 hS rfl (by decide) rfl 11 (by decide) (hts _ (List.mem_cons_of_mem _ kw_502)) (fun _ h9 => h9) rfl hin rfl (tyX11_ok 11 (by decide)) rfl rfl dX11_init_112 (by decide) h (fun M58 H locs h hP hS => ?_)
  refine lv_aload_n hx hb dX11_init_115 rfl (lv_at hl 0 rfl) ?_
  refine r_new (C := RX2) (T := TX2) (N := 11) hx hb hts (fun w h => List.mem_cons_of_mem _ (iX2 w h)) tyX2 tyX2_ok hown (hts _ (List.mem_cons_of_mem _ kw_409)) (hts _ (List.mem_cons_of_mem _ kw_410)) (hts _ (List.mem_cons_of_mem _ kw_11)) hK hP hS hG hb0 hsz rfl (by decide) rfl df_2 (Nat.le_of_ble_eq_true rfl) (Nat.le_of_ble_eq_true rfl) dX11_init_116 h (fun S59 M60 x61 H h e1 hP hS => ?_)
  replace hsz : s.heap.size + 58 = gB G + S59.1 := by omega
  clear e1
  refine lv_dup hx hb dX11_init_119 rfl ?_
  refine lv_aload_n hx hb dX11_init_120 rfl (lv_at hl 0 rfl) ?_
  refine r_getr (C := RX11) (T := TX11) (N := 16) hx hb hts (fun w h => List.mem_cons_of_mem _ (iX11 w h)) hown hK hP rfl (by decide) rfl 10 (by decide) (hts _ (List.mem_cons_of_mem _ kw_501)) (fun _ h9 => h9) dX11_init_121 (by decide) h (fun x63 h => ?_)
  refine q_I hx hb hml hown hts hK hP hS hG hb0 hsz h.1 (c_X2_init l D G _ _ hG x61 x63 _ h.2) ⟨callB_of 1 hts (gw_good kw_413) rfl rfl rfl (hts _ (List.mem_cons_of_mem _ kw_11)) (hts _ (List.mem_cons_of_mem _ kw_411)) hd_X2_init ⟨Nat.le_of_ble_eq_true rfl, Nat.le_of_ble_eq_true rfl⟩, rfl, (hts _ (List.mem_cons_of_mem _ kw_412))⟩ rfl hl.1 rfl (lv_room (Nat.le_of_ble_eq_true rfl)) dX11_init_124 ⟨Nat.le_of_ble_eq_true rfl, Nat.le_of_ble_eq_true rfl⟩ (fun S64 M65 H locs h e1 hP hS => ?_)
  replace hsz : s.heap.size + 62 = gB G + S64.1 := by omega
  clear e1
  refine r_pRF (C := RX11) (T := TX11) (N := 16) hx hb hts (fun w h => List.mem_cons_of_mem _ (iX11 w h)) hown hK hP tyX11 tyX11_ok nmX11 hS rfl (by decide) rfl 12 (by decide) (hts _ (List.mem_cons_of_mem _ kw_503)) (fun _ h9 => h9) rfl hin rfl (tyX11_ok 12 (by decide)) rfl rfl dX11_init_127 (by decide) h (fun M66 H locs h hP hS => ?_)
  refine lv_aload_n hx hb dX11_init_130 rfl (lv_at hl 0 rfl) ?_
  refine r_new (C := RX6) (T := TX6) (N := 3) hx hb hts (fun w h => List.mem_cons_of_mem _ (iX6 w h)) tyX6 tyX6_ok hown (hts _ (List.mem_cons_of_mem _ kw_449)) (hts _ (List.mem_cons_of_mem _ kw_450)) (hts _ (List.mem_cons_of_mem _ kw_12)) hK hP hS hG hb0 hsz rfl (by decide) rfl df_6 (Nat.le_of_ble_eq_true rfl) (Nat.le_of_ble_eq_true rfl) dX11_init_131 h (fun S67 M68 x69 H h e1 hP hS => ?_)
  replace hsz : s.heap.size + 63 = gB G + S67.1 := by omega
  clear e1
  refine lv_dup hx hb dX11_init_134 rfl ?_
  refine lv_aload_n hx hb dX11_init_135 rfl (lv_at hl 0 rfl) ?_
  refine r_getr (C := RX11) (T := TX11) (N := 16) hx hb hts (fun w h => List.mem_cons_of_mem _ (iX11 w h)) hown hK hP rfl (by decide) rfl 1 (by decide) (hts _ (List.mem_cons_of_mem _ kw_492)) (fun _ h9 => h9) dX11_init_136 (by decide) h (fun x71 h => ?_)
  refine r_getrN (C := RX4) (T := TX4) (N := 10) hx hb hts (fun w h => List.mem_cons_of_mem _ (iX4 w h)) hown hK hP rfl (by decide) rfl 0 (by decide) (nw_70 hK) (fun _ h9 => h9) dX11_init_139 (by decide) h (fun x73 h => ?_)
  refine q_I hx hb hml hown hts hK hP hS hG hb0 hsz h.1 (c_X6_init l D G _ _ hG x69 x73 _ h.2) ⟨callB_of 1 hts (gw_good kw_453) rfl rfl rfl (hts _ (List.mem_cons_of_mem _ kw_12)) (hts _ (List.mem_cons_of_mem _ kw_451)) hd_X6_init ⟨Nat.le_of_ble_eq_true rfl, Nat.le_of_ble_eq_true rfl⟩, rfl, (hts _ (List.mem_cons_of_mem _ kw_452))⟩ rfl hl.1 rfl (lv_room (Nat.le_of_ble_eq_true rfl)) dX11_init_142 ⟨Nat.le_of_ble_eq_true rfl, Nat.le_of_ble_eq_true rfl⟩ (fun S74 M75 H locs h e1 hP hS => ?_)
  replace hsz : s.heap.size + 65 = gB G + S74.1 := by omega
  clear e1
  refine r_pRF (C := RX11) (T := TX11) (N := 16) hx hb hts (fun w h => List.mem_cons_of_mem _ (iX11 w h)) hown hK hP tyX11 tyX11_ok nmX11 hS rfl (by decide) rfl 13 (by decide) (hts _ (List.mem_cons_of_mem _ kw_504)) (fun _ h9 => h9) rfl hin rfl (tyX11_ok 13 (by decide)) rfl rfl dX11_init_145 (by decide) h (fun M76 H locs h hP hS => ?_)
  refine lv_aload_n hx hb dX11_init_148 rfl (lv_at hl 0 rfl) ?_
  refine r_new (C := RX9) (T := TX9) (N := 5) hx hb hts (fun w h => List.mem_cons_of_mem _ (iX9 w h)) tyX9 tyX9_ok hown (hts _ (List.mem_cons_of_mem _ kw_465)) (hts _ (List.mem_cons_of_mem _ kw_466)) (hts _ (List.mem_cons_of_mem _ kw_13)) hK hP hS hG hb0 hsz rfl (by decide) rfl df_9 (Nat.le_of_ble_eq_true rfl) (Nat.le_of_ble_eq_true rfl) dX11_init_149 h (fun S77 M78 x79 H h e1 hP hS => ?_)
  replace hsz : s.heap.size + 66 = gB G + S77.1 := by omega
  clear e1
  refine lv_dup hx hb dX11_init_152 rfl ?_
  refine lv_aload_n hx hb dX11_init_153 rfl (lv_at hl 0 rfl) ?_
  refine r_getr (C := RX11) (T := TX11) (N := 16) hx hb hts (fun w h => List.mem_cons_of_mem _ (iX11 w h)) hown hK hP rfl (by decide) rfl 1 (by decide) (hts _ (List.mem_cons_of_mem _ kw_492)) (fun _ h9 => h9) dX11_init_154 (by decide) h (fun x81 h => ?_)
  refine lv_aload_n hx hb dX11_init_157 rfl (lv_at hl 0 rfl) ?_
  refine r_getr (C := RX11) (T := TX11) (N := 16) hx hb hts (fun w h => List.mem_cons_of_mem _ (iX11 w h)) hown hK hP rfl (by decide) rfl 10 (by decide) (hts _ (List.mem_cons_of_mem _ kw_501)) (fun _ h9 => h9) dX11_init_158 (by decide) h (fun x83 h => ?_)
  refine q_I hx hb hml hown hts hK hP hS hG hb0 hsz h.1 (c_X9_init l D G _ _ hG x79 x81 x83 _ h.2) ⟨callB_of 2 hts (gw_good kw_469) rfl rfl rfl (hts _ (List.mem_cons_of_mem _ kw_13)) (hts _ (List.mem_cons_of_mem _ kw_467)) hd_X9_init ⟨Nat.le_of_ble_eq_true rfl, Nat.le_of_ble_eq_true rfl⟩, rfl, (hts _ (List.mem_cons_of_mem _ kw_468))⟩ rfl hl.1 rfl (lv_room (Nat.le_of_ble_eq_true rfl)) dX11_init_161 ⟨Nat.le_of_ble_eq_true rfl, Nat.le_of_ble_eq_true rfl⟩ (fun S84 M85 H locs h e1 hP hS => ?_)
  replace hsz : s.heap.size + 67 = gB G + S84.1 := by omega
  clear e1
  refine r_pRF (C := RX11) (T := TX11) (N := 16) hx hb hts (fun w h => List.mem_cons_of_mem _ (iX11 w h)) hown hK hP tyX11 tyX11_ok nmX11 hS rfl (by decide) rfl 14 (by decide) (hts _ (List.mem_cons_of_mem _ kw_505)) (fun _ h9 => h9) rfl hin rfl (tyX11_ok 14 (by decide)) rfl rfl dX11_init_164 (by decide) h (fun M86 H locs h hP hS => ?_)
  refine lv_aload_n hx hb dX11_init_167 rfl (lv_at hl 0 rfl) ?_
  refine r_new (C := RX5) (T := TX5) (N := 9) hx hb hts (fun w h => List.mem_cons_of_mem _ (iX5 w h)) tyX5 tyX5_ok hown (hts _ (List.mem_cons_of_mem _ kw_275)) (hts _ (List.mem_cons_of_mem _ kw_171)) (hts _ (List.mem_cons_of_mem _ kw_5)) hK hP hS hG hb0 hsz rfl (by decide) rfl df_5 (Nat.le_of_ble_eq_true rfl) (Nat.le_of_ble_eq_true rfl) dX11_init_168 h (fun S87 M88 x89 H h e1 hP hS => ?_)
  replace hsz : s.heap.size + 68 = gB G + S87.1 := by omega
  clear e1
  refine lv_dup hx hb dX11_init_171 rfl ?_
  refine q_I hx hb hml hown hts hK hP hS hG hb0 hsz h.1 (c_X5_init l D G _ _ hG x89 _ h.2) ⟨callB_of 0 hts (gw_good kw_174) rfl rfl rfl (hts _ (List.mem_cons_of_mem _ kw_5)) (hts _ (List.mem_cons_of_mem _ kw_489)) hd_X5_init ⟨Nat.le_of_ble_eq_true rfl, Nat.le_of_ble_eq_true rfl⟩, rfl, (hts _ (List.mem_cons_of_mem _ kw_173))⟩ rfl hl.1 rfl (lv_room (Nat.le_of_ble_eq_true rfl)) dX11_init_172 ⟨Nat.le_of_ble_eq_true rfl, Nat.le_of_ble_eq_true rfl⟩ (fun S90 M91 H locs h e1 hP hS => ?_)
  replace hsz : s.heap.size + 75 = gB G + S90.1 := by omega
  clear e1
  refine r_pRF (C := RX11) (T := TX11) (N := 16) hx hb hts (fun w h => List.mem_cons_of_mem _ (iX11 w h)) hown hK hP tyX11 tyX11_ok nmX11 hS rfl (by decide) rfl 15 (by decide) (hts _ (List.mem_cons_of_mem _ kw_506)) (fun _ h9 => h9) rfl hin rfl (tyX11_ok 15 (by decide)) rfl rfl dX11_init_175 (by decide) h (fun M92 H locs h hP hS => ?_)
  refine lv_iconst (v := 0) hx hb dX11_init_178 (by decide) ?_
  refine lv_istore_n (lv' := [(1, .int 0), (0, .ref (adr G xl0))]) hx hb dX11_init_179 rfl hl (by decide) rfl (fun ls hl => ?_)
  refine lv_iload_n hx hb dX11_init_180 rfl (lv_at hl 0 rfl) ?_
  refine lv_iconst (v := 4) hx hb dX11_init_181 (by decide) ?_
  refine lv_icmp_ge (tgt := 204) hx hb dX11_init_182 (by decide) (fun q => absurd q (by decide)) (fun _ => ?_)
  refine lv_aload_n hx hb dX11_init_185 rfl (lv_at hl 1 rfl) ?_
  refine r_getr (C := RX11) (T := TX11) (N := 16) hx hb hts (fun w h => List.mem_cons_of_mem _ (iX11 w h)) hown hK hP rfl (by decide) rfl 2 (by decide) (hts _ (List.mem_cons_of_mem _ kw_493)) (fun _ h9 => h9) dX11_init_186 (by decide) h (fun x94 h => ?_)
  refine lv_iload_n hx hb dX11_init_189 rfl (lv_at hl 0 rfl) ?_
  refine r_new (C := RX4) (T := TX4) (N := 10) hx hb hts (fun w h => List.mem_cons_of_mem _ (iX4 w h)) tyX4 tyX4_ok hown (hts _ (List.mem_cons_of_mem _ kw_55)) (hts _ (List.mem_cons_of_mem _ kw_56)) (hts _ (List.mem_cons_of_mem _ kw_3)) hK hP hS hG hb0 hsz rfl (by decide) rfl df_4 (Nat.le_of_ble_eq_true rfl) (Nat.le_of_ble_eq_true rfl) dX11_init_190 h (fun S95 M96 x97 H h e1 hP hS => ?_)
  replace hsz : s.heap.size + 76 = gB G + S95.1 := by omega
  clear e1
  refine lv_dup hx hb dX11_init_193 rfl ?_
  refine q_I hx hb hml hown hts hK hP hS hG hb0 hsz h.1 (c_X4_init l D G _ _ hG x97 _ h.2) ⟨callB_of 0 hts (gw_good kw_59) rfl rfl rfl (hts _ (List.mem_cons_of_mem _ kw_3)) (hts _ (List.mem_cons_of_mem _ kw_57)) hd_X4_init ⟨Nat.le_of_ble_eq_true rfl, Nat.le_of_ble_eq_true rfl⟩, rfl, (hts _ (List.mem_cons_of_mem _ kw_58))⟩ rfl hl.1 rfl (lv_room (Nat.le_of_ble_eq_true rfl)) dX11_init_194 ⟨Nat.le_of_ble_eq_true rfl, Nat.le_of_ble_eq_true rfl⟩ (fun S98 M99 H locs h e1 hP hS => ?_)
  replace hsz : s.heap.size + 100 = gB G + S98.1 := by omega
  clear e1
  refine r_aast17 hx hb hK hP hS (iz := 0) (by decide) dX11_init_197 h (fun M100 H locs h hP hS => ?_)
  refine lv_iinc (v := 1) (lv' := [(1, .int 1), (0, .ref (adr G xl0))]) hx hb dX11_init_198 hl (k := 0) rfl (by decide) (by decide) rfl (fun ls hl => ?_)
  refine lv_goto (tgt := 180) hx hb dX11_init_201 (by decide) ?_
  refine lv_iload_n hx hb dX11_init_180 rfl (lv_at hl 0 rfl) ?_
  refine lv_iconst (v := 4) hx hb dX11_init_181 (by decide) ?_
  refine lv_icmp_ge (tgt := 204) hx hb dX11_init_182 (by decide) (fun q => absurd q (by decide)) (fun _ => ?_)
  refine lv_aload_n hx hb dX11_init_185 rfl (lv_at hl 1 rfl) ?_
  refine r_getr (C := RX11) (T := TX11) (N := 16) hx hb hts (fun w h => List.mem_cons_of_mem _ (iX11 w h)) hown hK hP rfl (by decide) rfl 2 (by decide) (hts _ (List.mem_cons_of_mem _ kw_493)) (fun _ h9 => h9) dX11_init_186 (by decide) h (fun x102 h => ?_)
  refine lv_iload_n hx hb dX11_init_189 rfl (lv_at hl 0 rfl) ?_
  refine r_new (C := RX4) (T := TX4) (N := 10) hx hb hts (fun w h => List.mem_cons_of_mem _ (iX4 w h)) tyX4 tyX4_ok hown (hts _ (List.mem_cons_of_mem _ kw_55)) (hts _ (List.mem_cons_of_mem _ kw_56)) (hts _ (List.mem_cons_of_mem _ kw_3)) hK hP hS hG hb0 hsz rfl (by decide) rfl df_4 (Nat.le_of_ble_eq_true rfl) (Nat.le_of_ble_eq_true rfl) dX11_init_190 h (fun S103 M104 x105 H h e1 hP hS => ?_)
  replace hsz : s.heap.size + 101 = gB G + S103.1 := by omega
  clear e1
  refine lv_dup hx hb dX11_init_193 rfl ?_
  refine q_I hx hb hml hown hts hK hP hS hG hb0 hsz h.1 (c_X4_init l D G _ _ hG x105 _ h.2) ⟨callB_of 0 hts (gw_good kw_59) rfl rfl rfl (hts _ (List.mem_cons_of_mem _ kw_3)) (hts _ (List.mem_cons_of_mem _ kw_57)) hd_X4_init ⟨Nat.le_of_ble_eq_true rfl, Nat.le_of_ble_eq_true rfl⟩, rfl, (hts _ (List.mem_cons_of_mem _ kw_58))⟩ rfl hl.1 rfl (lv_room (Nat.le_of_ble_eq_true rfl)) dX11_init_194 ⟨Nat.le_of_ble_eq_true rfl, Nat.le_of_ble_eq_true rfl⟩ (fun S106 M107 H locs h e1 hP hS => ?_)
  replace hsz : s.heap.size + 125 = gB G + S106.1 := by omega
  clear e1
  refine r_aast17 hx hb hK hP hS (iz := 1) (by decide) dX11_init_197 h (fun M108 H locs h hP hS => ?_)
  refine lv_iinc (v := 2) (lv' := [(1, .int 2), (0, .ref (adr G xl0))]) hx hb dX11_init_198 hl (k := 0) rfl (by decide) (by decide) rfl (fun ls hl => ?_)
  refine lv_goto (tgt := 180) hx hb dX11_init_201 (by decide) ?_
  refine lv_iload_n hx hb dX11_init_180 rfl (lv_at hl 0 rfl) ?_
  refine lv_iconst (v := 4) hx hb dX11_init_181 (by decide) ?_
  refine lv_icmp_ge (tgt := 204) hx hb dX11_init_182 (by decide) (fun q => absurd q (by decide)) (fun _ => ?_)
  refine lv_aload_n hx hb dX11_init_185 rfl (lv_at hl 1 rfl) ?_
  refine r_getr (C := RX11) (T := TX11) (N := 16) hx hb hts (fun w h => List.mem_cons_of_mem _ (iX11 w h)) hown hK hP rfl (by decide) rfl 2 (by decide) (hts _ (List.mem_cons_of_mem _ kw_493)) (fun _ h9 => h9) dX11_init_186 (by decide) h (fun x110 h => ?_)
  refine lv_iload_n hx hb dX11_init_189 rfl (lv_at hl 0 rfl) ?_
  refine r_new (C := RX4) (T := TX4) (N := 10) hx hb hts (fun w h => List.mem_cons_of_mem _ (iX4 w h)) tyX4 tyX4_ok hown (hts _ (List.mem_cons_of_mem _ kw_55)) (hts _ (List.mem_cons_of_mem _ kw_56)) (hts _ (List.mem_cons_of_mem _ kw_3)) hK hP hS hG hb0 hsz rfl (by decide) rfl df_4 (Nat.le_of_ble_eq_true rfl) (Nat.le_of_ble_eq_true rfl) dX11_init_190 h (fun S111 M112 x113 H h e1 hP hS => ?_)
  replace hsz : s.heap.size + 126 = gB G + S111.1 := by omega
  clear e1
  refine lv_dup hx hb dX11_init_193 rfl ?_
  refine q_I hx hb hml hown hts hK hP hS hG hb0 hsz h.1 (c_X4_init l D G _ _ hG x113 _ h.2) ⟨callB_of 0 hts (gw_good kw_59) rfl rfl rfl (hts _ (List.mem_cons_of_mem _ kw_3)) (hts _ (List.mem_cons_of_mem _ kw_57)) hd_X4_init ⟨Nat.le_of_ble_eq_true rfl, Nat.le_of_ble_eq_true rfl⟩, rfl, (hts _ (List.mem_cons_of_mem _ kw_58))⟩ rfl hl.1 rfl (lv_room (Nat.le_of_ble_eq_true rfl)) dX11_init_194 ⟨Nat.le_of_ble_eq_true rfl, Nat.le_of_ble_eq_true rfl⟩ (fun S114 M115 H locs h e1 hP hS => ?_)
  replace hsz : s.heap.size + 150 = gB G + S114.1 := by omega
  clear e1
  refine r_aast17 hx hb hK hP hS (iz := 2) (by decide) dX11_init_197 h (fun M116 H locs h hP hS => ?_)
  refine lv_iinc (v := 3) (lv' := [(1, .int 3), (0, .ref (adr G xl0))]) hx hb dX11_init_198 hl (k := 0) rfl (by decide) (by decide) rfl (fun ls hl => ?_)
  refine lv_goto (tgt := 180) hx hb dX11_init_201 (by decide) ?_
  refine lv_iload_n hx hb dX11_init_180 rfl (lv_at hl 0 rfl) ?_
  refine lv_iconst (v := 4) hx hb dX11_init_181 (by decide) ?_
  refine lv_icmp_ge (tgt := 204) hx hb dX11_init_182 (by decide) (fun q => absurd q (by decide)) (fun _ => ?_)
  refine lv_aload_n hx hb dX11_init_185 rfl (lv_at hl 1 rfl) ?_
  refine r_getr (C := RX11) (T := TX11) (N := 16) hx hb hts (fun w h => List.mem_cons_of_mem _ (iX11 w h)) hown hK hP rfl (by decide) rfl 2 (by decide) (hts _ (List.mem_cons_of_mem _ kw_493)) (fun _ h9 => h9) dX11_init_186 (by decide) h (fun x118 h => ?_)
  refine lv_iload_n hx hb dX11_init_189 rfl (lv_at hl 0 rfl) ?_
  refine r_new (C := RX4) (T := TX4) (N := 10) hx hb hts (fun w h => List.mem_cons_of_mem _ (iX4 w h)) tyX4 tyX4_ok hown (hts _ (List.mem_cons_of_mem _ kw_55)) (hts _ (List.mem_cons_of_mem _ kw_56)) (hts _ (List.mem_cons_of_mem _ kw_3)) hK hP hS hG hb0 hsz rfl (by decide) rfl df_4 (Nat.le_of_ble_eq_true rfl) (Nat.le_of_ble_eq_true rfl) dX11_init_190 h (fun S119 M120 x121 H h e1 hP hS => ?_)
  replace hsz : s.heap.size + 151 = gB G + S119.1 := by omega
  clear e1
  refine lv_dup hx hb dX11_init_193 rfl ?_
  refine q_I hx hb hml hown hts hK hP hS hG hb0 hsz h.1 (c_X4_init l D G _ _ hG x121 _ h.2) ⟨callB_of 0 hts (gw_good kw_59) rfl rfl rfl (hts _ (List.mem_cons_of_mem _ kw_3)) (hts _ (List.mem_cons_of_mem _ kw_57)) hd_X4_init ⟨Nat.le_of_ble_eq_true rfl, Nat.le_of_ble_eq_true rfl⟩, rfl, (hts _ (List.mem_cons_of_mem _ kw_58))⟩ rfl hl.1 rfl (lv_room (Nat.le_of_ble_eq_true rfl)) dX11_init_194 ⟨Nat.le_of_ble_eq_true rfl, Nat.le_of_ble_eq_true rfl⟩ (fun S122 M123 H locs h e1 hP hS => ?_)
  replace hsz : s.heap.size + 175 = gB G + S122.1 := by omega
  clear e1
  refine r_aast17 hx hb hK hP hS (iz := 3) (by decide) dX11_init_197 h (fun M124 H locs h hP hS => ?_)
  refine lv_iinc (v := 4) (lv' := [(1, .int 4), (0, .ref (adr G xl0))]) hx hb dX11_init_198 hl (k := 0) rfl (by decide) (by decide) rfl (fun ls hl => ?_)
  refine lv_goto (tgt := 180) hx hb dX11_init_201 (by decide) ?_
  refine lv_iload_n hx hb dX11_init_180 rfl (lv_at hl 0 rfl) ?_
  refine lv_iconst (v := 4) hx hb dX11_init_181 (by decide) ?_
  refine lv_icmp_ge (tgt := 204) hx hb dX11_init_182 (by decide) (fun _ => ?_) (fun q => absurd (by decide) q)
  refine lv_iconst (v := 0) hx hb dX11_init_204 (by decide) ?_
  refine lv_istore_n (lv' := [(1, .int 0), (0, .ref (adr G xl0))]) hx hb dX11_init_205 rfl hl (by decide) rfl (fun ls hl => ?_)
  refine lv_iload_n hx hb dX11_init_206 rfl (lv_at hl 0 rfl) ?_
  refine lv_bipush (v := 6) hx hb dX11_init_207 (by decide) ?_
  refine lv_icmp_ge (tgt := 227) hx hb dX11_init_209 (by decide) (fun q => absurd q (by decide)) (fun _ => ?_)
  refine lv_aload_n hx hb dX11_init_212 rfl (lv_at hl 1 rfl) ?_
  refine r_getr (C := RX11) (T := TX11) (N := 16) hx hb hts (fun w h => List.mem_cons_of_mem _ (iX11 w h)) hown hK hP rfl (by decide) rfl 6 (by decide) (hts _ (List.mem_cons_of_mem _ kw_497)) (fun _ h9 => h9) dX11_init_213 (by decide) h (fun x126 h => ?_)
  refine lv_iload_n hx hb dX11_init_216 rfl (lv_at hl 0 rfl) ?_
  refine r_gets hx hb hK hS hown (hts _ (List.mem_cons_of_mem _ kw_490)) (fun _ h9 => h9) dX11_init_217 h (fun x128 h => ?_)
  refine r_aast19 hx hb hK hO hP hS (iz := 0) (by decide) dX11_init_220 h (fun M129 H locs h hP hS => ?_)
  refine lv_iinc (v := 1) (lv' := [(1, .int 1), (0, .ref (adr G xl0))]) hx hb dX11_init_221 hl (k := 0) rfl (by decide) (by decide) rfl (fun ls hl => ?_)
  refine lv_goto (tgt := 206) hx hb dX11_init_224 (by decide) ?_
  refine lv_iload_n hx hb dX11_init_206 rfl (lv_at hl 0 rfl) ?_
  refine lv_bipush (v := 6) hx hb dX11_init_207 (by decide) ?_
  refine lv_icmp_ge (tgt := 227) hx hb dX11_init_209 (by decide) (fun q => absurd q (by decide)) (fun _ => ?_)
  refine lv_aload_n hx hb dX11_init_212 rfl (lv_at hl 1 rfl) ?_
  refine r_getr (C := RX11) (T := TX11) (N := 16) hx hb hts (fun w h => List.mem_cons_of_mem _ (iX11 w h)) hown hK hP rfl (by decide) rfl 6 (by decide) (hts _ (List.mem_cons_of_mem _ kw_497)) (fun _ h9 => h9) dX11_init_213 (by decide) h (fun x131 h => ?_)
  refine lv_iload_n hx hb dX11_init_216 rfl (lv_at hl 0 rfl) ?_
  refine r_gets hx hb hK hS hown (hts _ (List.mem_cons_of_mem _ kw_490)) (fun _ h9 => h9) dX11_init_217 h (fun x133 h => ?_)
  refine r_aast19 hx hb hK hO hP hS (iz := 1) (by decide) dX11_init_220 h (fun M134 H locs h hP hS => ?_)
  refine lv_iinc (v := 2) (lv' := [(1, .int 2), (0, .ref (adr G xl0))]) hx hb dX11_init_221 hl (k := 0) rfl (by decide) (by decide) rfl (fun ls hl => ?_)
  refine lv_goto (tgt := 206) hx hb dX11_init_224 (by decide) ?_
  refine lv_iload_n hx hb dX11_init_206 rfl (lv_at hl 0 rfl) ?_
  refine lv_bipush (v := 6) hx hb dX11_init_207 (by decide) ?_
  refine lv_icmp_ge (tgt := 227) hx hb dX11_init_209 (by decide) (fun q => absurd q (by decide)) (fun _ => ?_)
  refine lv_aload_n hx hb dX11_init_212 rfl (lv_at hl 1 rfl) ?_
  refine r_getr (C := RX11) (T := TX11) (N := 16) hx hb hts (fun w h => List.mem_cons_of_mem _ (iX11 w h)) hown hK hP rfl (by decide) rfl 6 (by decide) (hts _ (List.mem_cons_of_mem _ kw_497)) (fun _ h9 => h9) dX11_init_213 (by decide) h (fun x136 h => ?_)
  refine lv_iload_n hx hb dX11_init_216 rfl (lv_at hl 0 rfl) ?_
  refine r_gets hx hb hK hS hown (hts _ (List.mem_cons_of_mem _ kw_490)) (fun _ h9 => h9) dX11_init_217 h (fun x138 h => ?_)
  refine r_aast19 hx hb hK hO hP hS (iz := 2) (by decide) dX11_init_220 h (fun M139 H locs h hP hS => ?_)
  refine lv_iinc (v := 3) (lv' := [(1, .int 3), (0, .ref (adr G xl0))]) hx hb dX11_init_221 hl (k := 0) rfl (by decide) (by decide) rfl (fun ls hl => ?_)
  refine lv_goto (tgt := 206) hx hb dX11_init_224 (by decide) ?_
  refine lv_iload_n hx hb dX11_init_206 rfl (lv_at hl 0 rfl) ?_
  refine lv_bipush (v := 6) hx hb dX11_init_207 (by decide) ?_
  refine lv_icmp_ge (tgt := 227) hx hb dX11_init_209 (by decide) (fun q => absurd q (by decide)) (fun _ => ?_)
  refine lv_aload_n hx hb dX11_init_212 rfl (lv_at hl 1 rfl) ?_
  refine r_getr (C := RX11) (T := TX11) (N := 16) hx hb hts (fun w h => List.mem_cons_of_mem _ (iX11 w h)) hown hK hP rfl (by decide) rfl 6 (by decide) (hts _ (List.mem_cons_of_mem _ kw_497)) (fun _ h9 => h9) dX11_init_213 (by decide) h (fun x141 h => ?_)
  refine lv_iload_n hx hb dX11_init_216 rfl (lv_at hl 0 rfl) ?_
  refine r_gets hx hb hK hS hown (hts _ (List.mem_cons_of_mem _ kw_490)) (fun _ h9 => h9) dX11_init_217 h (fun x143 h => ?_)
  refine r_aast19 hx hb hK hO hP hS (iz := 3) (by decide) dX11_init_220 h (fun M144 H locs h hP hS => ?_)
  refine lv_iinc (v := 4) (lv' := [(1, .int 4), (0, .ref (adr G xl0))]) hx hb dX11_init_221 hl (k := 0) rfl (by decide) (by decide) rfl (fun ls hl => ?_)
  refine lv_goto (tgt := 206) hx hb dX11_init_224 (by decide) ?_
  refine lv_iload_n hx hb dX11_init_206 rfl (lv_at hl 0 rfl) ?_
  refine lv_bipush (v := 6) hx hb dX11_init_207 (by decide) ?_
  refine lv_icmp_ge (tgt := 227) hx hb dX11_init_209 (by decide) (fun q => absurd q (by decide)) (fun _ => ?_)
  refine lv_aload_n hx hb dX11_init_212 rfl (lv_at hl 1 rfl) ?_
  refine r_getr (C := RX11) (T := TX11) (N := 16) hx hb hts (fun w h => List.mem_cons_of_mem _ (iX11 w h)) hown hK hP rfl (by decide) rfl 6 (by decide) (hts _ (List.mem_cons_of_mem _ kw_497)) (fun _ h9 => h9) dX11_init_213 (by decide) h (fun x146 h => ?_)
  refine lv_iload_n hx hb dX11_init_216 rfl (lv_at hl 0 rfl) ?_
  refine r_gets hx hb hK hS hown (hts _ (List.mem_cons_of_mem _ kw_490)) (fun _ h9 => h9) dX11_init_217 h (fun x148 h => ?_)
  refine r_aast19 hx hb hK hO hP hS (iz := 4) (by decide) dX11_init_220 h (fun M149 H locs h hP hS => ?_)
  refine lv_iinc (v := 5) (lv' := [(1, .int 5), (0, .ref (adr G xl0))]) hx hb dX11_init_221 hl (k := 0) rfl (by decide) (by decide) rfl (fun ls hl => ?_)
  refine lv_goto (tgt := 206) hx hb dX11_init_224 (by decide) ?_
  refine lv_iload_n hx hb dX11_init_206 rfl (lv_at hl 0 rfl) ?_
  refine lv_bipush (v := 6) hx hb dX11_init_207 (by decide) ?_
  refine lv_icmp_ge (tgt := 227) hx hb dX11_init_209 (by decide) (fun q => absurd q (by decide)) (fun _ => ?_)
  refine lv_aload_n hx hb dX11_init_212 rfl (lv_at hl 1 rfl) ?_
  refine r_getr (C := RX11) (T := TX11) (N := 16) hx hb hts (fun w h => List.mem_cons_of_mem _ (iX11 w h)) hown hK hP rfl (by decide) rfl 6 (by decide) (hts _ (List.mem_cons_of_mem _ kw_497)) (fun _ h9 => h9) dX11_init_213 (by decide) h (fun x151 h => ?_)
  refine lv_iload_n hx hb dX11_init_216 rfl (lv_at hl 0 rfl) ?_
  refine r_gets hx hb hK hS hown (hts _ (List.mem_cons_of_mem _ kw_490)) (fun _ h9 => h9) dX11_init_217 h (fun x153 h => ?_)
  refine r_aast19 hx hb hK hO hP hS (iz := 5) (by decide) dX11_init_220 h (fun M154 H locs h hP hS => ?_)
  refine lv_iinc (v := 6) (lv' := [(1, .int 6), (0, .ref (adr G xl0))]) hx hb dX11_init_221 hl (k := 0) rfl (by decide) (by decide) rfl (fun ls hl => ?_)
  refine lv_goto (tgt := 206) hx hb dX11_init_224 (by decide) ?_
  refine lv_iload_n hx hb dX11_init_206 rfl (lv_at hl 0 rfl) ?_
  refine lv_bipush (v := 6) hx hb dX11_init_207 (by decide) ?_
  refine lv_icmp_ge (tgt := 227) hx hb dX11_init_209 (by decide) (fun _ => ?_) (fun q => absurd (by decide) q)
  refine lv_iconst (v := 0) hx hb dX11_init_227 (by decide) ?_
  refine lv_istore_n (lv' := [(1, .int 0), (0, .ref (adr G xl0))]) hx hb dX11_init_228 rfl hl (by decide) rfl (fun ls hl => ?_)
  refine lv_iload_n hx hb dX11_init_229 rfl (lv_at hl 0 rfl) ?_
  refine lv_bipush (v := 20) hx hb dX11_init_230 (by decide) ?_
  refine lv_icmp_ge (tgt := 254) hx hb dX11_init_232 (by decide) (fun q => absurd q (by decide)) (fun _ => ?_)
  refine lv_aload_n hx hb dX11_init_235 rfl (lv_at hl 1 rfl) ?_
  refine r_getr (C := RX11) (T := TX11) (N := 16) hx hb hts (fun w h => List.mem_cons_of_mem _ (iX11 w h)) hown hK hP rfl (by decide) rfl 3 (by decide) (hts _ (List.mem_cons_of_mem _ kw_494)) (fun _ h9 => h9) dX11_init_236 (by decide) h (fun x156 h => ?_)
  refine lv_iload_n hx hb dX11_init_239 rfl (lv_at hl 0 rfl) ?_
  refine r_new (C := RX5) (T := TX5) (N := 9) hx hb hts (fun w h => List.mem_cons_of_mem _ (iX5 w h)) tyX5 tyX5_ok hown (hts _ (List.mem_cons_of_mem _ kw_275)) (hts _ (List.mem_cons_of_mem _ kw_171)) (hts _ (List.mem_cons_of_mem _ kw_5)) hK hP hS hG hb0 hsz rfl (by decide) rfl df_5 (Nat.le_of_ble_eq_true rfl) (Nat.le_of_ble_eq_true rfl) dX11_init_240 h (fun S157 M158 x159 H h e1 hP hS => ?_)
  replace hsz : s.heap.size + 176 = gB G + S157.1 := by omega
  clear e1
  refine lv_dup hx hb dX11_init_243 rfl ?_
  refine q_I hx hb hml hown hts hK hP hS hG hb0 hsz h.1 (c_X5_init l D G _ _ hG x159 _ h.2) ⟨callB_of 0 hts (gw_good kw_174) rfl rfl rfl (hts _ (List.mem_cons_of_mem _ kw_5)) (hts _ (List.mem_cons_of_mem _ kw_489)) hd_X5_init ⟨Nat.le_of_ble_eq_true rfl, Nat.le_of_ble_eq_true rfl⟩, rfl, (hts _ (List.mem_cons_of_mem _ kw_173))⟩ rfl hl.1 rfl (lv_room (Nat.le_of_ble_eq_true rfl)) dX11_init_244 ⟨Nat.le_of_ble_eq_true rfl, Nat.le_of_ble_eq_true rfl⟩ (fun S160 M161 H locs h e1 hP hS => ?_)
  replace hsz : s.heap.size + 183 = gB G + S160.1 := by omega
  clear e1
  refine r_aast18 hx hb hK hP hS (iz := 0) (by decide) dX11_init_247 h (fun M162 H locs h hP hS => ?_)
  refine lv_iinc (v := 1) (lv' := [(1, .int 1), (0, .ref (adr G xl0))]) hx hb dX11_init_248 hl (k := 0) rfl (by decide) (by decide) rfl (fun ls hl => ?_)
  refine lv_goto (tgt := 229) hx hb dX11_init_251 (by decide) ?_
  refine lv_iload_n hx hb dX11_init_229 rfl (lv_at hl 0 rfl) ?_
  refine lv_bipush (v := 20) hx hb dX11_init_230 (by decide) ?_
  refine lv_icmp_ge (tgt := 254) hx hb dX11_init_232 (by decide) (fun q => absurd q (by decide)) (fun _ => ?_)
  refine lv_aload_n hx hb dX11_init_235 rfl (lv_at hl 1 rfl) ?_
  refine r_getr (C := RX11) (T := TX11) (N := 16) hx hb hts (fun w h => List.mem_cons_of_mem _ (iX11 w h)) hown hK hP rfl (by decide) rfl 3 (by decide) (hts _ (List.mem_cons_of_mem _ kw_494)) (fun _ h9 => h9) dX11_init_236 (by decide) h (fun x164 h => ?_)
  refine lv_iload_n hx hb dX11_init_239 rfl (lv_at hl 0 rfl) ?_
  refine r_new (C := RX5) (T := TX5) (N := 9) hx hb hts (fun w h => List.mem_cons_of_mem _ (iX5 w h)) tyX5 tyX5_ok hown (hts _ (List.mem_cons_of_mem _ kw_275)) (hts _ (List.mem_cons_of_mem _ kw_171)) (hts _ (List.mem_cons_of_mem _ kw_5)) hK hP hS hG hb0 hsz rfl (by decide) rfl df_5 (Nat.le_of_ble_eq_true rfl) (Nat.le_of_ble_eq_true rfl) dX11_init_240 h (fun S165 M166 x167 H h e1 hP hS => ?_)
  replace hsz : s.heap.size + 184 = gB G + S165.1 := by omega
  clear e1
  refine lv_dup hx hb dX11_init_243 rfl ?_
  refine q_I hx hb hml hown hts hK hP hS hG hb0 hsz h.1 (c_X5_init l D G _ _ hG x167 _ h.2) ⟨callB_of 0 hts (gw_good kw_174) rfl rfl rfl (hts _ (List.mem_cons_of_mem _ kw_5)) (hts _ (List.mem_cons_of_mem _ kw_489)) hd_X5_init ⟨Nat.le_of_ble_eq_true rfl, Nat.le_of_ble_eq_true rfl⟩, rfl, (hts _ (List.mem_cons_of_mem _ kw_173))⟩ rfl hl.1 rfl (lv_room (Nat.le_of_ble_eq_true rfl)) dX11_init_244 ⟨Nat.le_of_ble_eq_true rfl, Nat.le_of_ble_eq_true rfl⟩ (fun S168 M169 H locs h e1 hP hS => ?_)
  replace hsz : s.heap.size + 191 = gB G + S168.1 := by omega
  clear e1
  refine r_aast18 hx hb hK hP hS (iz := 1) (by decide) dX11_init_247 h (fun M170 H locs h hP hS => ?_)
  refine lv_iinc (v := 2) (lv' := [(1, .int 2), (0, .ref (adr G xl0))]) hx hb dX11_init_248 hl (k := 0) rfl (by decide) (by decide) rfl (fun ls hl => ?_)
  refine lv_goto (tgt := 229) hx hb dX11_init_251 (by decide) ?_
  refine lv_iload_n hx hb dX11_init_229 rfl (lv_at hl 0 rfl) ?_
  refine lv_bipush (v := 20) hx hb dX11_init_230 (by decide) ?_
  refine lv_icmp_ge (tgt := 254) hx hb dX11_init_232 (by decide) (fun q => absurd q (by decide)) (fun _ => ?_)
  refine lv_aload_n hx hb dX11_init_235 rfl (lv_at hl 1 rfl) ?_
  refine r_getr (C := RX11) (T := TX11) (N := 16) hx hb hts (fun w h => List.mem_cons_of_mem _ (iX11 w h)) hown hK hP rfl (by decide) rfl 3 (by decide) (hts _ (List.mem_cons_of_mem _ kw_494)) (fun _ h9 => h9) dX11_init_236 (by decide) h (fun x172 h => ?_)
  refine lv_iload_n hx hb dX11_init_239 rfl (lv_at hl 0 rfl) ?_
  refine r_new (C := RX5) (T := TX5) (N := 9) hx hb hts (fun w h => List.mem_cons_of_mem _ (iX5 w h)) tyX5 tyX5_ok hown (hts _ (List.mem_cons_of_mem _ kw_275)) (hts _ (List.mem_cons_of_mem _ kw_171)) (hts _ (List.mem_cons_of_mem _ kw_5)) hK hP hS hG hb0 hsz rfl (by decide) rfl df_5 (Nat.le_of_ble_eq_true rfl) (Nat.le_of_ble_eq_true rfl) dX11_init_240 h (fun S173 M174 x175 H h e1 hP hS => ?_)
  replace hsz : s.heap.size + 192 = gB G + S173.1 := by omega
  clear e1
  refine lv_dup hx hb dX11_init_243 rfl ?_
  refine q_I hx hb hml hown hts hK hP hS hG hb0 hsz h.1 (c_X5_init l D G _ _ hG x175 _ h.2) ⟨callB_of 0 hts (gw_good kw_174) rfl rfl rfl (hts _ (List.mem_cons_of_mem _ kw_5)) (hts _ (List.mem_cons_of_mem _ kw_489)) hd_X5_init ⟨Nat.le_of_ble_eq_true rfl, Nat.le_of_ble_eq_true rfl⟩, rfl, (hts _ (List.mem_cons_of_mem _ kw_173))⟩ rfl hl.1 rfl (lv_room (Nat.le_of_ble_eq_true rfl)) dX11_init_244 ⟨Nat.le_of_ble_eq_true rfl, Nat.le_of_ble_eq_true rfl⟩ (fun S176 M177 H locs h e1 hP hS => ?_)
  replace hsz : s.heap.size + 199 = gB G + S176.1 := by omega
  clear e1
  refine r_aast18 hx hb hK hP hS (iz := 2) (by decide) dX11_init_247 h (fun M178 H locs h hP hS => ?_)
  refine lv_iinc (v := 3) (lv' := [(1, .int 3), (0, .ref (adr G xl0))]) hx hb dX11_init_248 hl (k := 0) rfl (by decide) (by decide) rfl (fun ls hl => ?_)
  refine lv_goto (tgt := 229) hx hb dX11_init_251 (by decide) ?_
  refine lv_iload_n hx hb dX11_init_229 rfl (lv_at hl 0 rfl) ?_
  refine lv_bipush (v := 20) hx hb dX11_init_230 (by decide) ?_
  refine lv_icmp_ge (tgt := 254) hx hb dX11_init_232 (by decide) (fun q => absurd q (by decide)) (fun _ => ?_)
  refine lv_aload_n hx hb dX11_init_235 rfl (lv_at hl 1 rfl) ?_
  refine r_getr (C := RX11) (T := TX11) (N := 16) hx hb hts (fun w h => List.mem_cons_of_mem _ (iX11 w h)) hown hK hP rfl (by decide) rfl 3 (by decide) (hts _ (List.mem_cons_of_mem _ kw_494)) (fun _ h9 => h9) dX11_init_236 (by decide) h (fun x180 h => ?_)
  refine lv_iload_n hx hb dX11_init_239 rfl (lv_at hl 0 rfl) ?_
  refine r_new (C := RX5) (T := TX5) (N := 9) hx hb hts (fun w h => List.mem_cons_of_mem _ (iX5 w h)) tyX5 tyX5_ok hown (hts _ (List.mem_cons_of_mem _ kw_275)) (hts _ (List.mem_cons_of_mem _ kw_171)) (hts _ (List.mem_cons_of_mem _ kw_5)) hK hP hS hG hb0 hsz rfl (by decide) rfl df_5 (Nat.le_of_ble_eq_true rfl) (Nat.le_of_ble_eq_true rfl) dX11_init_240 h (fun S181 M182 x183 H h e1 hP hS => ?_)
  replace hsz : s.heap.size + 200 = gB G + S181.1 := by omega
  clear e1
  refine lv_dup hx hb dX11_init_243 rfl ?_
  refine q_I hx hb hml hown hts hK hP hS hG hb0 hsz h.1 (c_X5_init l D G _ _ hG x183 _ h.2) ⟨callB_of 0 hts (gw_good kw_174) rfl rfl rfl (hts _ (List.mem_cons_of_mem _ kw_5)) (hts _ (List.mem_cons_of_mem _ kw_489)) hd_X5_init ⟨Nat.le_of_ble_eq_true rfl, Nat.le_of_ble_eq_true rfl⟩, rfl, (hts _ (List.mem_cons_of_mem _ kw_173))⟩ rfl hl.1 rfl (lv_room (Nat.le_of_ble_eq_true rfl)) dX11_init_244 ⟨Nat.le_of_ble_eq_true rfl, Nat.le_of_ble_eq_true rfl⟩ (fun S184 M185 H locs h e1 hP hS => ?_)
  replace hsz : s.heap.size + 207 = gB G + S184.1 := by omega
  clear e1
  refine r_aast18 hx hb hK hP hS (iz := 3) (by decide) dX11_init_247 h (fun M186 H locs h hP hS => ?_)
  refine lv_iinc (v := 4) (lv' := [(1, .int 4), (0, .ref (adr G xl0))]) hx hb dX11_init_248 hl (k := 0) rfl (by decide) (by decide) rfl (fun ls hl => ?_)
  refine lv_goto (tgt := 229) hx hb dX11_init_251 (by decide) ?_
  refine lv_iload_n hx hb dX11_init_229 rfl (lv_at hl 0 rfl) ?_
  refine lv_bipush (v := 20) hx hb dX11_init_230 (by decide) ?_
  refine lv_icmp_ge (tgt := 254) hx hb dX11_init_232 (by decide) (fun q => absurd q (by decide)) (fun _ => ?_)
  refine lv_aload_n hx hb dX11_init_235 rfl (lv_at hl 1 rfl) ?_
  refine r_getr (C := RX11) (T := TX11) (N := 16) hx hb hts (fun w h => List.mem_cons_of_mem _ (iX11 w h)) hown hK hP rfl (by decide) rfl 3 (by decide) (hts _ (List.mem_cons_of_mem _ kw_494)) (fun _ h9 => h9) dX11_init_236 (by decide) h (fun x188 h => ?_)
  refine lv_iload_n hx hb dX11_init_239 rfl (lv_at hl 0 rfl) ?_
  refine r_new (C := RX5) (T := TX5) (N := 9) hx hb hts (fun w h => List.mem_cons_of_mem _ (iX5 w h)) tyX5 tyX5_ok hown (hts _ (List.mem_cons_of_mem _ kw_275)) (hts _ (List.mem_cons_of_mem _ kw_171)) (hts _ (List.mem_cons_of_mem _ kw_5)) hK hP hS hG hb0 hsz rfl (by decide) rfl df_5 (Nat.le_of_ble_eq_true rfl) (Nat.le_of_ble_eq_true rfl) dX11_init_240 h (fun S189 M190 x191 H h e1 hP hS => ?_)
  replace hsz : s.heap.size + 208 = gB G + S189.1 := by omega
  clear e1
  refine lv_dup hx hb dX11_init_243 rfl ?_
  refine q_I hx hb hml hown hts hK hP hS hG hb0 hsz h.1 (c_X5_init l D G _ _ hG x191 _ h.2) ⟨callB_of 0 hts (gw_good kw_174) rfl rfl rfl (hts _ (List.mem_cons_of_mem _ kw_5)) (hts _ (List.mem_cons_of_mem _ kw_489)) hd_X5_init ⟨Nat.le_of_ble_eq_true rfl, Nat.le_of_ble_eq_true rfl⟩, rfl, (hts _ (List.mem_cons_of_mem _ kw_173))⟩ rfl hl.1 rfl (lv_room (Nat.le_of_ble_eq_true rfl)) dX11_init_244 ⟨Nat.le_of_ble_eq_true rfl, Nat.le_of_ble_eq_true rfl⟩ (fun S192 M193 H locs h e1 hP hS => ?_)
  replace hsz : s.heap.size + 215 = gB G + S192.1 := by omega
  clear e1
  refine r_aast18 hx hb hK hP hS (iz := 4) (by decide) dX11_init_247 h (fun M194 H locs h hP hS => ?_)
  refine lv_iinc (v := 5) (lv' := [(1, .int 5), (0, .ref (adr G xl0))]) hx hb dX11_init_248 hl (k := 0) rfl (by decide) (by decide) rfl (fun ls hl => ?_)
  refine lv_goto (tgt := 229) hx hb dX11_init_251 (by decide) ?_
  refine lv_iload_n hx hb dX11_init_229 rfl (lv_at hl 0 rfl) ?_
  refine lv_bipush (v := 20) hx hb dX11_init_230 (by decide) ?_
  refine lv_icmp_ge (tgt := 254) hx hb dX11_init_232 (by decide) (fun q => absurd q (by decide)) (fun _ => ?_)
  refine lv_aload_n hx hb dX11_init_235 rfl (lv_at hl 1 rfl) ?_
  refine r_getr (C := RX11) (T := TX11) (N := 16) hx hb hts (fun w h => List.mem_cons_of_mem _ (iX11 w h)) hown hK hP rfl (by decide) rfl 3 (by decide) (hts _ (List.mem_cons_of_mem _ kw_494)) (fun _ h9 => h9) dX11_init_236 (by decide) h (fun x196 h => ?_)
  refine lv_iload_n hx hb dX11_init_239 rfl (lv_at hl 0 rfl) ?_
  refine r_new (C := RX5) (T := TX5) (N := 9) hx hb hts (fun w h => List.mem_cons_of_mem _ (iX5 w h)) tyX5 tyX5_ok hown (hts _ (List.mem_cons_of_mem _ kw_275)) (hts _ (List.mem_cons_of_mem _ kw_171)) (hts _ (List.mem_cons_of_mem _ kw_5)) hK hP hS hG hb0 hsz rfl (by decide) rfl df_5 (Nat.le_of_ble_eq_true rfl) (Nat.le_of_ble_eq_true rfl) dX11_init_240 h (fun S197 M198 x199 H h e1 hP hS => ?_)
  replace hsz : s.heap.size + 216 = gB G + S197.1 := by omega
  clear e1
  refine lv_dup hx hb dX11_init_243 rfl ?_
  refine q_I hx hb hml hown hts hK hP hS hG hb0 hsz h.1 (c_X5_init l D G _ _ hG x199 _ h.2) ⟨callB_of 0 hts (gw_good kw_174) rfl rfl rfl (hts _ (List.mem_cons_of_mem _ kw_5)) (hts _ (List.mem_cons_of_mem _ kw_489)) hd_X5_init ⟨Nat.le_of_ble_eq_true rfl, Nat.le_of_ble_eq_true rfl⟩, rfl, (hts _ (List.mem_cons_of_mem _ kw_173))⟩ rfl hl.1 rfl (lv_room (Nat.le_of_ble_eq_true rfl)) dX11_init_244 ⟨Nat.le_of_ble_eq_true rfl, Nat.le_of_ble_eq_true rfl⟩ (fun S200 M201 H locs h e1 hP hS => ?_)
  replace hsz : s.heap.size + 223 = gB G + S200.1 := by omega
  clear e1
  refine r_aast18 hx hb hK hP hS (iz := 5) (by decide) dX11_init_247 h (fun M202 H locs h hP hS => ?_)
  refine lv_iinc (v := 6) (lv' := [(1, .int 6), (0, .ref (adr G xl0))]) hx hb dX11_init_248 hl (k := 0) rfl (by decide) (by decide) rfl (fun ls hl => ?_)
  refine lv_goto (tgt := 229) hx hb dX11_init_251 (by decide) ?_
  refine lv_iload_n hx hb dX11_init_229 rfl (lv_at hl 0 rfl) ?_
  refine lv_bipush (v := 20) hx hb dX11_init_230 (by decide) ?_
  refine lv_icmp_ge (tgt := 254) hx hb dX11_init_232 (by decide) (fun q => absurd q (by decide)) (fun _ => ?_)
  refine lv_aload_n hx hb dX11_init_235 rfl (lv_at hl 1 rfl) ?_
  refine r_getr (C := RX11) (T := TX11) (N := 16) hx hb hts (fun w h => List.mem_cons_of_mem _ (iX11 w h)) hown hK hP rfl (by decide) rfl 3 (by decide) (hts _ (List.mem_cons_of_mem _ kw_494)) (fun _ h9 => h9) dX11_init_236 (by decide) h (fun x204 h => ?_)
  refine lv_iload_n hx hb dX11_init_239 rfl (lv_at hl 0 rfl) ?_
  refine r_new (C := RX5) (T := TX5) (N := 9) hx hb hts (fun w h => List.mem_cons_of_mem _ (iX5 w h)) tyX5 tyX5_ok hown (hts _ (List.mem_cons_of_mem _ kw_275)) (hts _ (List.mem_cons_of_mem _ kw_171)) (hts _ (List.mem_cons_of_mem _ kw_5)) hK hP hS hG hb0 hsz rfl (by decide) rfl df_5 (Nat.le_of_ble_eq_true rfl) (Nat.le_of_ble_eq_true rfl) dX11_init_240 h (fun S205 M206 x207 H h e1 hP hS => ?_)
  replace hsz : s.heap.size + 224 = gB G + S205.1 := by omega
  clear e1
  refine lv_dup hx hb dX11_init_243 rfl ?_
  refine q_I hx hb hml hown hts hK hP hS hG hb0 hsz h.1 (c_X5_init l D G _ _ hG x207 _ h.2) ⟨callB_of 0 hts (gw_good kw_174) rfl rfl rfl (hts _ (List.mem_cons_of_mem _ kw_5)) (hts _ (List.mem_cons_of_mem _ kw_489)) hd_X5_init ⟨Nat.le_of_ble_eq_true rfl, Nat.le_of_ble_eq_true rfl⟩, rfl, (hts _ (List.mem_cons_of_mem _ kw_173))⟩ rfl hl.1 rfl (lv_room (Nat.le_of_ble_eq_true rfl)) dX11_init_244 ⟨Nat.le_of_ble_eq_true rfl, Nat.le_of_ble_eq_true rfl⟩ (fun S208 M209 H locs h e1 hP hS => ?_)
  replace hsz : s.heap.size + 231 = gB G + S208.1 := by omega
  clear e1
  refine r_aast18 hx hb hK hP hS (iz := 6) (by decide) dX11_init_247 h (fun M210 H locs h hP hS => ?_)
  refine lv_iinc (v := 7) (lv' := [(1, .int 7), (0, .ref (adr G xl0))]) hx hb dX11_init_248 hl (k := 0) rfl (by decide) (by decide) rfl (fun ls hl => ?_)
  refine lv_goto (tgt := 229) hx hb dX11_init_251 (by decide) ?_
  refine lv_iload_n hx hb dX11_init_229 rfl (lv_at hl 0 rfl) ?_
  refine lv_bipush (v := 20) hx hb dX11_init_230 (by decide) ?_
  refine lv_icmp_ge (tgt := 254) hx hb dX11_init_232 (by decide) (fun q => absurd q (by decide)) (fun _ => ?_)
  refine lv_aload_n hx hb dX11_init_235 rfl (lv_at hl 1 rfl) ?_
  refine r_getr (C := RX11) (T := TX11) (N := 16) hx hb hts (fun w h => List.mem_cons_of_mem _ (iX11 w h)) hown hK hP rfl (by decide) rfl 3 (by decide) (hts _ (List.mem_cons_of_mem _ kw_494)) (fun _ h9 => h9) dX11_init_236 (by decide) h (fun x212 h => ?_)
  refine lv_iload_n hx hb dX11_init_239 rfl (lv_at hl 0 rfl) ?_
  refine r_new (C := RX5) (T := TX5) (N := 9) hx hb hts (fun w h => List.mem_cons_of_mem _ (iX5 w h)) tyX5 tyX5_ok hown (hts _ (List.mem_cons_of_mem _ kw_275)) (hts _ (List.mem_cons_of_mem _ kw_171)) (hts _ (List.mem_cons_of_mem _ kw_5)) hK hP hS hG hb0 hsz rfl (by decide) rfl df_5 (Nat.le_of_ble_eq_true rfl) (Nat.le_of_ble_eq_true rfl) dX11_init_240 h (fun S213 M214 x215 H h e1 hP hS => ?_)
  replace hsz : s.heap.size + 232 = gB G + S213.1 := by omega
  clear e1
  refine lv_dup hx hb dX11_init_243 rfl ?_
  refine q_I hx hb hml hown hts hK hP hS hG hb0 hsz h.1 (c_X5_init l D G _ _ hG x215 _ h.2) ⟨callB_of 0 hts (gw_good kw_174) rfl rfl rfl (hts _ (List.mem_cons_of_mem _ kw_5)) (hts _ (List.mem_cons_of_mem _ kw_489)) hd_X5_init ⟨Nat.le_of_ble_eq_true rfl, Nat.le_of_ble_eq_true rfl⟩, rfl, (hts _ (List.mem_cons_of_mem _ kw_173))⟩ rfl hl.1 rfl (lv_room (Nat.le_of_ble_eq_true rfl)) dX11_init_244 ⟨Nat.le_of_ble_eq_true rfl, Nat.le_of_ble_eq_true rfl⟩ (fun S216 M217 H locs h e1 hP hS => ?_)
  replace hsz : s.heap.size + 239 = gB G + S216.1 := by omega
  clear e1
  refine r_aast18 hx hb hK hP hS (iz := 7) (by decide) dX11_init_247 h (fun M218 H locs h hP hS => ?_)
  refine lv_iinc (v := 8) (lv' := [(1, .int 8), (0, .ref (adr G xl0))]) hx hb dX11_init_248 hl (k := 0) rfl (by decide) (by decide) rfl (fun ls hl => ?_)
  refine lv_goto (tgt := 229) hx hb dX11_init_251 (by decide) ?_
  refine lv_iload_n hx hb dX11_init_229 rfl (lv_at hl 0 rfl) ?_
  refine lv_bipush (v := 20) hx hb dX11_init_230 (by decide) ?_
  refine lv_icmp_ge (tgt := 254) hx hb dX11_init_232 (by decide) (fun q => absurd q (by decide)) (fun _ => ?_)
  refine lv_aload_n hx hb dX11_init_235 rfl (lv_at hl 1 rfl) ?_
  refine r_getr (C := RX11) (T := TX11) (N := 16) hx hb hts (fun w h => List.mem_cons_of_mem _ (iX11 w h)) hown hK hP rfl (by decide) rfl 3 (by decide) (hts _ (List.mem_cons_of_mem _ kw_494)) (fun _ h9 => h9) dX11_init_236 (by decide) h (fun x220 h => ?_)
  refine lv_iload_n hx hb dX11_init_239 rfl (lv_at hl 0 rfl) ?_
  refine r_new (C := RX5) (T := TX5) (N := 9) hx hb hts (fun w h => List.mem_cons_of_mem _ (iX5 w h)) tyX5 tyX5_ok hown (hts _ (List.mem_cons_of_mem _ kw_275)) (hts _ (List.mem_cons_of_mem _ kw_171)) (hts _ (List.mem_cons_of_mem _ kw_5)) hK hP hS hG hb0 hsz rfl (by decide) rfl df_5 (Nat.le_of_ble_eq_true rfl) (Nat.le_of_ble_eq_true rfl) dX11_init_240 h (fun S221 M222 x223 H h e1 hP hS => ?_)
  replace hsz : s.heap.size + 240 = gB G + S221.1 := by omega
  clear e1
  refine lv_dup hx hb dX11_init_243 rfl ?_
  refine q_I hx hb hml hown hts hK hP hS hG hb0 hsz h.1 (c_X5_init l D G _ _ hG x223 _ h.2) ⟨callB_of 0 hts (gw_good kw_174) rfl rfl rfl (hts _ (List.mem_cons_of_mem _ kw_5)) (hts _ (List.mem_cons_of_mem _ kw_489)) hd_X5_init ⟨Nat.le_of_ble_eq_true rfl, Nat.le_of_ble_eq_true rfl⟩, rfl, (hts _ (List.mem_cons_of_mem _ kw_173))⟩ rfl hl.1 rfl (lv_room (Nat.le_of_ble_eq_true rfl)) dX11_init_244 ⟨Nat.le_of_ble_eq_true rfl, Nat.le_of_ble_eq_true rfl⟩ (fun S224 M225 H locs h e1 hP hS => ?_)
  replace hsz : s.heap.size + 247 = gB G + S224.1 := by omega
  clear e1
  refine r_aast18 hx hb hK hP hS (iz := 8) (by decide) dX11_init_247 h (fun M226 H locs h hP hS => ?_)
  refine lv_iinc (v := 9) (lv' := [(1, .int 9), (0, .ref (adr G xl0))]) hx hb dX11_init_248 hl (k := 0) rfl (by decide) (by decide) rfl (fun ls hl => ?_)
  refine lv_goto (tgt := 229) hx hb dX11_init_251 (by decide) ?_
  refine lv_iload_n hx hb dX11_init_229 rfl (lv_at hl 0 rfl) ?_
  refine lv_bipush (v := 20) hx hb dX11_init_230 (by decide) ?_
  refine lv_icmp_ge (tgt := 254) hx hb dX11_init_232 (by decide) (fun q => absurd q (by decide)) (fun _ => ?_)
  refine lv_aload_n hx hb dX11_init_235 rfl (lv_at hl 1 rfl) ?_
  refine r_getr (C := RX11) (T := TX11) (N := 16) hx hb hts (fun w h => List.mem_cons_of_mem _ (iX11 w h)) hown hK hP rfl (by decide) rfl 3 (by decide) (hts _ (List.mem_cons_of_mem _ kw_494)) (fun _ h9 => h9) dX11_init_236 (by decide) h (fun x228 h => ?_)
  refine lv_iload_n hx hb dX11_init_239 rfl (lv_at hl 0 rfl) ?_
  refine r_new (C := RX5) (T := TX5) (N := 9) hx hb hts (fun w h => List.mem_cons_of_mem _ (iX5 w h)) tyX5 tyX5_ok hown (hts _ (List.mem_cons_of_mem _ kw_275)) (hts _ (List.mem_cons_of_mem _ kw_171)) (hts _ (List.mem_cons_of_mem _ kw_5)) hK hP hS hG hb0 hsz rfl (by decide) rfl df_5 (Nat.le_of_ble_eq_true rfl) (Nat.le_of_ble_eq_true rfl) dX11_init_240 h (fun S229 M230 x231 H h e1 hP hS => ?_)
  replace hsz : s.heap.size + 248 = gB G + S229.1 := by omega
  clear e1
  refine lv_dup hx hb dX11_init_243 rfl ?_
  refine q_I hx hb hml hown hts hK hP hS hG hb0 hsz h.1 (c_X5_init l D G _ _ hG x231 _ h.2) ⟨callB_of 0 hts (gw_good kw_174) rfl rfl rfl (hts _ (List.mem_cons_of_mem _ kw_5)) (hts _ (List.mem_cons_of_mem _ kw_489)) hd_X5_init ⟨Nat.le_of_ble_eq_true rfl, Nat.le_of_ble_eq_true rfl⟩, rfl, (hts _ (List.mem_cons_of_mem _ kw_173))⟩ rfl hl.1 rfl (lv_room (Nat.le_of_ble_eq_true rfl)) dX11_init_244 ⟨Nat.le_of_ble_eq_true rfl, Nat.le_of_ble_eq_true rfl⟩ (fun S232 M233 H locs h e1 hP hS => ?_)
  replace hsz : s.heap.size + 255 = gB G + S232.1 := by omega
  clear e1
  refine r_aast18 hx hb hK hP hS (iz := 9) (by decide) dX11_init_247 h (fun M234 H locs h hP hS => ?_)
  refine lv_iinc (v := 10) (lv' := [(1, .int 10), (0, .ref (adr G xl0))]) hx hb dX11_init_248 hl (k := 0) rfl (by decide) (by decide) rfl (fun ls hl => ?_)
  refine lv_goto (tgt := 229) hx hb dX11_init_251 (by decide) ?_
  refine lv_iload_n hx hb dX11_init_229 rfl (lv_at hl 0 rfl) ?_
  refine lv_bipush (v := 20) hx hb dX11_init_230 (by decide) ?_
  refine lv_icmp_ge (tgt := 254) hx hb dX11_init_232 (by decide) (fun q => absurd q (by decide)) (fun _ => ?_)
  refine lv_aload_n hx hb dX11_init_235 rfl (lv_at hl 1 rfl) ?_
  refine r_getr (C := RX11) (T := TX11) (N := 16) hx hb hts (fun w h => List.mem_cons_of_mem _ (iX11 w h)) hown hK hP rfl (by decide) rfl 3 (by decide) (hts _ (List.mem_cons_of_mem _ kw_494)) (fun _ h9 => h9) dX11_init_236 (by decide) h (fun x236 h => ?_)
  refine lv_iload_n hx hb dX11_init_239 rfl (lv_at hl 0 rfl) ?_
  refine r_new (C := RX5) (T := TX5) (N := 9) hx hb hts (fun w h => List.mem_cons_of_mem _ (iX5 w h)) tyX5 tyX5_ok hown (hts _ (List.mem_cons_of_mem _ kw_275)) (hts _ (List.mem_cons_of_mem _ kw_171)) (hts _ (List.mem_cons_of_mem _ kw_5)) hK hP hS hG hb0 hsz rfl (by decide) rfl df_5 (Nat.le_of_ble_eq_true rfl) (Nat.le_of_ble_eq_true rfl) dX11_init_240 h (fun S237 M238 x239 H h e1 hP hS => ?_)
  replace hsz : s.heap.size + 256 = gB G + S237.1 := by omega
  clear e1
  refine lv_dup hx hb dX11_init_243 rfl ?_
  refine q_I hx hb hml hown hts hK hP hS hG hb0 hsz h.1 (c_X5_init l D G _ _ hG x239 _ h.2) ⟨callB_of 0 hts (gw_good kw_174) rfl rfl rfl (hts _ (List.mem_cons_of_mem _ kw_5)) (hts _ (List.mem_cons_of_mem _ kw_489)) hd_X5_init ⟨Nat.le_of_ble_eq_true rfl, Nat.le_of_ble_eq_true rfl⟩, rfl, (hts _ (List.mem_cons_of_mem _ kw_173))⟩ rfl hl.1 rfl (lv_room (Nat.le_of_ble_eq_true rfl)) dX11_init_244 ⟨Nat.le_of_ble_eq_true rfl, Nat.le_of_ble_eq_true rfl⟩ (fun S240 M241 H locs h e1 hP hS => ?_)
  replace hsz : s.heap.size + 263 = gB G + S240.1 := by omega
  clear e1
  refine r_aast18 hx hb hK hP hS (iz := 10) (by decide) dX11_init_247 h (fun M242 H locs h hP hS => ?_)
  refine lv_iinc (v := 11) (lv' := [(1, .int 11), (0, .ref (adr G xl0))]) hx hb dX11_init_248 hl (k := 0) rfl (by decide) (by decide) rfl (fun ls hl => ?_)
  refine lv_goto (tgt := 229) hx hb dX11_init_251 (by decide) ?_
  refine lv_iload_n hx hb dX11_init_229 rfl (lv_at hl 0 rfl) ?_
  refine lv_bipush (v := 20) hx hb dX11_init_230 (by decide) ?_
  refine lv_icmp_ge (tgt := 254) hx hb dX11_init_232 (by decide) (fun q => absurd q (by decide)) (fun _ => ?_)
  refine lv_aload_n hx hb dX11_init_235 rfl (lv_at hl 1 rfl) ?_
  refine r_getr (C := RX11) (T := TX11) (N := 16) hx hb hts (fun w h => List.mem_cons_of_mem _ (iX11 w h)) hown hK hP rfl (by decide) rfl 3 (by decide) (hts _ (List.mem_cons_of_mem _ kw_494)) (fun _ h9 => h9) dX11_init_236 (by decide) h (fun x244 h => ?_)
  refine lv_iload_n hx hb dX11_init_239 rfl (lv_at hl 0 rfl) ?_
  refine r_new (C := RX5) (T := TX5) (N := 9) hx hb hts (fun w h => List.mem_cons_of_mem _ (iX5 w h)) tyX5 tyX5_ok hown (hts _ (List.mem_cons_of_mem _ kw_275)) (hts _ (List.mem_cons_of_mem _ kw_171)) (hts _ (List.mem_cons_of_mem _ kw_5)) hK hP hS hG hb0 hsz rfl (by decide) rfl df_5 (Nat.le_of_ble_eq_true rfl) (Nat.le_of_ble_eq_true rfl) dX11_init_240 h (fun S245 M246 x247 H h e1 hP hS => ?_)
  replace hsz : s.heap.size + 264 = gB G + S245.1 := by omega
  clear e1
  refine lv_dup hx hb dX11_init_243 rfl ?_
  refine q_I hx hb hml hown hts hK hP hS hG hb0 hsz h.1 (c_X5_init l D G _ _ hG x247 _ h.2) ⟨callB_of 0 hts (gw_good kw_174) rfl rfl rfl (hts _ (List.mem_cons_of_mem _ kw_5)) (hts _ (List.mem_cons_of_mem _ kw_489)) hd_X5_init ⟨Nat.le_of_ble_eq_true rfl, Nat.le_of_ble_eq_true rfl⟩, rfl, (hts _ (List.mem_cons_of_mem _ kw_173))⟩ rfl hl.1 rfl (lv_room (Nat.le_of_ble_eq_true rfl)) dX11_init_244 ⟨Nat.le_of_ble_eq_true rfl, Nat.le_of_ble_eq_true rfl⟩ (fun S248 M249 H locs h e1 hP hS => ?_)
  replace hsz : s.heap.size + 271 = gB G + S248.1 := by omega
  clear e1
  refine r_aast18 hx hb hK hP hS (iz := 11) (by decide) dX11_init_247 h (fun M250 H locs h hP hS => ?_)
  refine lv_iinc (v := 12) (lv' := [(1, .int 12), (0, .ref (adr G xl0))]) hx hb dX11_init_248 hl (k := 0) rfl (by decide) (by decide) rfl (fun ls hl => ?_)
  refine lv_goto (tgt := 229) hx hb dX11_init_251 (by decide) ?_
  refine lv_iload_n hx hb dX11_init_229 rfl (lv_at hl 0 rfl) ?_
  refine lv_bipush (v := 20) hx hb dX11_init_230 (by decide) ?_
  refine lv_icmp_ge (tgt := 254) hx hb dX11_init_232 (by decide) (fun q => absurd q (by decide)) (fun _ => ?_)
  refine lv_aload_n hx hb dX11_init_235 rfl (lv_at hl 1 rfl) ?_
  refine r_getr (C := RX11) (T := TX11) (N := 16) hx hb hts (fun w h => List.mem_cons_of_mem _ (iX11 w h)) hown hK hP rfl (by decide) rfl 3 (by decide) (hts _ (List.mem_cons_of_mem _ kw_494)) (fun _ h9 => h9) dX11_init_236 (by decide) h (fun x252 h => ?_)
  refine lv_iload_n hx hb dX11_init_239 rfl (lv_at hl 0 rfl) ?_
  refine r_new (C := RX5) (T := TX5) (N := 9) hx hb hts (fun w h => List.mem_cons_of_mem _ (iX5 w h)) tyX5 tyX5_ok hown (hts _ (List.mem_cons_of_mem _ kw_275)) (hts _ (List.mem_cons_of_mem _ kw_171)) (hts _ (List.mem_cons_of_mem _ kw_5)) hK hP hS hG hb0 hsz rfl (by decide) rfl df_5 (Nat.le_of_ble_eq_true rfl) (Nat.le_of_ble_eq_true rfl) dX11_init_240 h (fun S253 M254 x255 H h e1 hP hS => ?_)
  replace hsz : s.heap.size + 272 = gB G + S253.1 := by omega
  clear e1
  refine lv_dup hx hb dX11_init_243 rfl ?_
  refine q_I hx hb hml hown hts hK hP hS hG hb0 hsz h.1 (c_X5_init l D G _ _ hG x255 _ h.2) ⟨callB_of 0 hts (gw_good kw_174) rfl rfl rfl (hts _ (List.mem_cons_of_mem _ kw_5)) (hts _ (List.mem_cons_of_mem _ kw_489)) hd_X5_init ⟨Nat.le_of_ble_eq_true rfl, Nat.le_of_ble_eq_true rfl⟩, rfl, (hts _ (List.mem_cons_of_mem _ kw_173))⟩ rfl hl.1 rfl (lv_room (Nat.le_of_ble_eq_true rfl)) dX11_init_244 ⟨Nat.le_of_ble_eq_true rfl, Nat.le_of_ble_eq_true rfl⟩ (fun S256 M257 H locs h e1 hP hS => ?_)
  replace hsz : s.heap.size + 279 = gB G + S256.1 := by omega
  clear e1
  refine r_aast18 hx hb hK hP hS (iz := 12) (by decide) dX11_init_247 h (fun M258 H locs h hP hS => ?_)
  refine lv_iinc (v := 13) (lv' := [(1, .int 13), (0, .ref (adr G xl0))]) hx hb dX11_init_248 hl (k := 0) rfl (by decide) (by decide) rfl (fun ls hl => ?_)
  refine lv_goto (tgt := 229) hx hb dX11_init_251 (by decide) ?_
  refine lv_iload_n hx hb dX11_init_229 rfl (lv_at hl 0 rfl) ?_
  refine lv_bipush (v := 20) hx hb dX11_init_230 (by decide) ?_
  refine lv_icmp_ge (tgt := 254) hx hb dX11_init_232 (by decide) (fun q => absurd q (by decide)) (fun _ => ?_)
  refine lv_aload_n hx hb dX11_init_235 rfl (lv_at hl 1 rfl) ?_
  refine r_getr (C := RX11) (T := TX11) (N := 16) hx hb hts (fun w h => List.mem_cons_of_mem _ (iX11 w h)) hown hK hP rfl (by decide) rfl 3 (by decide) (hts _ (List.mem_cons_of_mem _ kw_494)) (fun _ h9 => h9) dX11_init_236 (by decide) h (fun x260 h => ?_)
  refine lv_iload_n hx hb dX11_init_239 rfl (lv_at hl 0 rfl) ?_
  refine r_new (C := RX5) (T := TX5) (N := 9) hx hb hts (fun w h => List.mem_cons_of_mem _ (iX5 w h)) tyX5 tyX5_ok hown (hts _ (List.mem_cons_of_mem _ kw_275)) (hts _ (List.mem_cons_of_mem _ kw_171)) (hts _ (List.mem_cons_of_mem _ kw_5)) hK hP hS hG hb0 hsz rfl (by decide) rfl df_5 (Nat.le_of_ble_eq_true rfl) (Nat.le_of_ble_eq_true rfl) dX11_init_240 h (fun S261 M262 x263 H h e1 hP hS => ?_)
  replace hsz : s.heap.size + 280 = gB G + S261.1 := by omega
  clear e1
  refine lv_dup hx hb dX11_init_243 rfl ?_
  refine q_I hx hb hml hown hts hK hP hS hG hb0 hsz h.1 (c_X5_init l D G _ _ hG x263 _ h.2) ⟨callB_of 0 hts (gw_good kw_174) rfl rfl rfl (hts _ (List.mem_cons_of_mem _ kw_5)) (hts _ (List.mem_cons_of_mem _ kw_489)) hd_X5_init ⟨Nat.le_of_ble_eq_true rfl, Nat.le_of_ble_eq_true rfl⟩, rfl, (hts _ (List.mem_cons_of_mem _ kw_173))⟩ rfl hl.1 rfl (lv_room (Nat.le_of_ble_eq_true rfl)) dX11_init_244 ⟨Nat.le_of_ble_eq_true rfl, Nat.le_of_ble_eq_true rfl⟩ (fun S264 M265 H locs h e1 hP hS => ?_)
  replace hsz : s.heap.size + 287 = gB G + S264.1 := by omega
  clear e1
  refine r_aast18 hx hb hK hP hS (iz := 13) (by decide) dX11_init_247 h (fun M266 H locs h hP hS => ?_)
  refine lv_iinc (v := 14) (lv' := [(1, .int 14), (0, .ref (adr G xl0))]) hx hb dX11_init_248 hl (k := 0) rfl (by decide) (by decide) rfl (fun ls hl => ?_)
  refine lv_goto (tgt := 229) hx hb dX11_init_251 (by decide) ?_
  refine lv_iload_n hx hb dX11_init_229 rfl (lv_at hl 0 rfl) ?_
  refine lv_bipush (v := 20) hx hb dX11_init_230 (by decide) ?_
  refine lv_icmp_ge (tgt := 254) hx hb dX11_init_232 (by decide) (fun q => absurd q (by decide)) (fun _ => ?_)
  refine lv_aload_n hx hb dX11_init_235 rfl (lv_at hl 1 rfl) ?_
  refine r_getr (C := RX11) (T := TX11) (N := 16) hx hb hts (fun w h => List.mem_cons_of_mem _ (iX11 w h)) hown hK hP rfl (by decide) rfl 3 (by decide) (hts _ (List.mem_cons_of_mem _ kw_494)) (fun _ h9 => h9) dX11_init_236 (by decide) h (fun x268 h => ?_)
  refine lv_iload_n hx hb dX11_init_239 rfl (lv_at hl 0 rfl) ?_
  refine r_new (C := RX5) (T := TX5) (N := 9) hx hb hts (fun w h => List.mem_cons_of_mem _ (iX5 w h)) tyX5 tyX5_ok hown (hts _ (List.mem_cons_of_mem _ kw_275)) (hts _ (List.mem_cons_of_mem _ kw_171)) (hts _ (List.mem_cons_of_mem _ kw_5)) hK hP hS hG hb0 hsz rfl (by decide) rfl df_5 (Nat.le_of_ble_eq_true rfl) (Nat.le_of_ble_eq_true rfl) dX11_init_240 h (fun S269 M270 x271 H h e1 hP hS => ?_)
  replace hsz : s.heap.size + 288 = gB G + S269.1 := by omega
  clear e1
  refine lv_dup hx hb dX11_init_243 rfl ?_
  refine q_I hx hb hml hown hts hK hP hS hG hb0 hsz h.1 (c_X5_init l D G _ _ hG x271 _ h.2) ⟨callB_of 0 hts (gw_good kw_174) rfl rfl rfl (hts _ (List.mem_cons_of_mem _ kw_5)) (hts _ (List.mem_cons_of_mem _ kw_489)) hd_X5_init ⟨Nat.le_of_ble_eq_true rfl, Nat.le_of_ble_eq_true rfl⟩, rfl, (hts _ (List.mem_cons_of_mem _ kw_173))⟩ rfl hl.1 rfl (lv_room (Nat.le_of_ble_eq_true rfl)) dX11_init_244 ⟨Nat.le_of_ble_eq_true rfl, Nat.le_of_ble_eq_true rfl⟩ (fun S272 M273 H locs h e1 hP hS => ?_)
  replace hsz : s.heap.size + 295 = gB G + S272.1 := by omega
  clear e1
  refine r_aast18 hx hb hK hP hS (iz := 14) (by decide) dX11_init_247 h (fun M274 H locs h hP hS => ?_)
  refine lv_iinc (v := 15) (lv' := [(1, .int 15), (0, .ref (adr G xl0))]) hx hb dX11_init_248 hl (k := 0) rfl (by decide) (by decide) rfl (fun ls hl => ?_)
  refine lv_goto (tgt := 229) hx hb dX11_init_251 (by decide) ?_
  refine lv_iload_n hx hb dX11_init_229 rfl (lv_at hl 0 rfl) ?_
  refine lv_bipush (v := 20) hx hb dX11_init_230 (by decide) ?_
  refine lv_icmp_ge (tgt := 254) hx hb dX11_init_232 (by decide) (fun q => absurd q (by decide)) (fun _ => ?_)
  refine lv_aload_n hx hb dX11_init_235 rfl (lv_at hl 1 rfl) ?_
  refine r_getr (C := RX11) (T := TX11) (N := 16) hx hb hts (fun w h => List.mem_cons_of_mem _ (iX11 w h)) hown hK hP rfl (by decide) rfl 3 (by decide) (hts _ (List.mem_cons_of_mem _ kw_494)) (fun _ h9 => h9) dX11_init_236 (by decide) h (fun x276 h => ?_)
  refine lv_iload_n hx hb dX11_init_239 rfl (lv_at hl 0 rfl) ?_
  refine r_new (C := RX5) (T := TX5) (N := 9) hx hb hts (fun w h => List.mem_cons_of_mem _ (iX5 w h)) tyX5 tyX5_ok hown (hts _ (List.mem_cons_of_mem _ kw_275)) (hts _ (List.mem_cons_of_mem _ kw_171)) (hts _ (List.mem_cons_of_mem _ kw_5)) hK hP hS hG hb0 hsz rfl (by decide) rfl df_5 (Nat.le_of_ble_eq_true rfl) (Nat.le_of_ble_eq_true rfl) dX11_init_240 h (fun S277 M278 x279 H h e1 hP hS => ?_)
  replace hsz : s.heap.size + 296 = gB G + S277.1 := by omega
  clear e1
  refine lv_dup hx hb dX11_init_243 rfl ?_
  refine q_I hx hb hml hown hts hK hP hS hG hb0 hsz h.1 (c_X5_init l D G _ _ hG x279 _ h.2) ⟨callB_of 0 hts (gw_good kw_174) rfl rfl rfl (hts _ (List.mem_cons_of_mem _ kw_5)) (hts _ (List.mem_cons_of_mem _ kw_489)) hd_X5_init ⟨Nat.le_of_ble_eq_true rfl, Nat.le_of_ble_eq_true rfl⟩, rfl, (hts _ (List.mem_cons_of_mem _ kw_173))⟩ rfl hl.1 rfl (lv_room (Nat.le_of_ble_eq_true rfl)) dX11_init_244 ⟨Nat.le_of_ble_eq_true rfl, Nat.le_of_ble_eq_true rfl⟩ (fun S280 M281 H locs h e1 hP hS => ?_)
  replace hsz : s.heap.size + 303 = gB G + S280.1 := by omega
  clear e1
  refine r_aast18 hx hb hK hP hS (iz := 15) (by decide) dX11_init_247 h (fun M282 H locs h hP hS => ?_)
  refine lv_iinc (v := 16) (lv' := [(1, .int 16), (0, .ref (adr G xl0))]) hx hb dX11_init_248 hl (k := 0) rfl (by decide) (by decide) rfl (fun ls hl => ?_)
  refine lv_goto (tgt := 229) hx hb dX11_init_251 (by decide) ?_
  refine lv_iload_n hx hb dX11_init_229 rfl (lv_at hl 0 rfl) ?_
  refine lv_bipush (v := 20) hx hb dX11_init_230 (by decide) ?_
  refine lv_icmp_ge (tgt := 254) hx hb dX11_init_232 (by decide) (fun q => absurd q (by decide)) (fun _ => ?_)
  refine lv_aload_n hx hb dX11_init_235 rfl (lv_at hl 1 rfl) ?_
  refine r_getr (C := RX11) (T := TX11) (N := 16) hx hb hts (fun w h => List.mem_cons_of_mem _ (iX11 w h)) hown hK hP rfl (by decide) rfl 3 (by decide) (hts _ (List.mem_cons_of_mem _ kw_494)) (fun _ h9 => h9) dX11_init_236 (by decide) h (fun x284 h => ?_)
  refine lv_iload_n hx hb dX11_init_239 rfl (lv_at hl 0 rfl) ?_
  refine r_new (C := RX5) (T := TX5) (N := 9) hx hb hts (fun w h => List.mem_cons_of_mem _ (iX5 w h)) tyX5 tyX5_ok hown (hts _ (List.mem_cons_of_mem _ kw_275)) (hts _ (List.mem_cons_of_mem _ kw_171)) (hts _ (List.mem_cons_of_mem _ kw_5)) hK hP hS hG hb0 hsz rfl (by decide) rfl df_5 (Nat.le_of_ble_eq_true rfl) (Nat.le_of_ble_eq_true rfl) dX11_init_240 h (fun S285 M286 x287 H h e1 hP hS => ?_)
  replace hsz : s.heap.size + 304 = gB G + S285.1 := by omega
  clear e1
  refine lv_dup hx hb dX11_init_243 rfl ?_
  refine q_I hx hb hml hown hts hK hP hS hG hb0 hsz h.1 (c_X5_init l D G _ _ hG x287 _ h.2) ⟨callB_of 0 hts (gw_good kw_174) rfl rfl rfl (hts _ (List.mem_cons_of_mem _ kw_5)) (hts _ (List.mem_cons_of_mem _ kw_489)) hd_X5_init ⟨Nat.le_of_ble_eq_true rfl, Nat.le_of_ble_eq_true rfl⟩, rfl, (hts _ (List.mem_cons_of_mem _ kw_173))⟩ rfl hl.1 rfl (lv_room (Nat.le_of_ble_eq_true rfl)) dX11_init_244 ⟨Nat.le_of_ble_eq_true rfl, Nat.le_of_ble_eq_true rfl⟩ (fun S288 M289 H locs h e1 hP hS => ?_)
  replace hsz : s.heap.size + 311 = gB G + S288.1 := by omega
  clear e1
  refine r_aast18 hx hb hK hP hS (iz := 16) (by decide) dX11_init_247 h (fun M290 H locs h hP hS => ?_)
  refine lv_iinc (v := 17) (lv' := [(1, .int 17), (0, .ref (adr G xl0))]) hx hb dX11_init_248 hl (k := 0) rfl (by decide) (by decide) rfl (fun ls hl => ?_)
  refine lv_goto (tgt := 229) hx hb dX11_init_251 (by decide) ?_
  refine lv_iload_n hx hb dX11_init_229 rfl (lv_at hl 0 rfl) ?_
  refine lv_bipush (v := 20) hx hb dX11_init_230 (by decide) ?_
  refine lv_icmp_ge (tgt := 254) hx hb dX11_init_232 (by decide) (fun q => absurd q (by decide)) (fun _ => ?_)
  refine lv_aload_n hx hb dX11_init_235 rfl (lv_at hl 1 rfl) ?_
  refine r_getr (C := RX11) (T := TX11) (N := 16) hx hb hts (fun w h => List.mem_cons_of_mem _ (iX11 w h)) hown hK hP rfl (by decide) rfl 3 (by decide) (hts _ (List.mem_cons_of_mem _ kw_494)) (fun _ h9 => h9) dX11_init_236 (by decide) h (fun x292 h => ?_)
  refine lv_iload_n hx hb dX11_init_239 rfl (lv_at hl 0 rfl) ?_
  refine r_new (C := RX5) (T := TX5) (N := 9) hx hb hts (fun w h => List.mem_cons_of_mem _ (iX5 w h)) tyX5 tyX5_ok hown (hts _ (List.mem_cons_of_mem _ kw_275)) (hts _ (List.mem_cons_of_mem _ kw_171)) (hts _ (List.mem_cons_of_mem _ kw_5)) hK hP hS hG hb0 hsz rfl (by decide) rfl df_5 (Nat.le_of_ble_eq_true rfl) (Nat.le_of_ble_eq_true rfl) dX11_init_240 h (fun S293 M294 x295 H h e1 hP hS => ?_)
  replace hsz : s.heap.size + 312 = gB G + S293.1 := by omega
  clear e1
  refine lv_dup hx hb dX11_init_243 rfl ?_
  refine q_I hx hb hml hown hts hK hP hS hG hb0 hsz h.1 (c_X5_init l D G _ _ hG x295 _ h.2) ⟨callB_of 0 hts (gw_good kw_174) rfl rfl rfl (hts _ (List.mem_cons_of_mem _ kw_5)) (hts _ (List.mem_cons_of_mem _ kw_489)) hd_X5_init ⟨Nat.le_of_ble_eq_true rfl, Nat.le_of_ble_eq_true rfl⟩, rfl, (hts _ (List.mem_cons_of_mem _ kw_173))⟩ rfl hl.1 rfl (lv_room (Nat.le_of_ble_eq_true rfl)) dX11_init_244 ⟨Nat.le_of_ble_eq_true rfl, Nat.le_of_ble_eq_true rfl⟩ (fun S296 M297 H locs h e1 hP hS => ?_)
  replace hsz : s.heap.size + 319 = gB G + S296.1 := by omega
  clear e1
  refine r_aast18 hx hb hK hP hS (iz := 17) (by decide) dX11_init_247 h (fun M298 H locs h hP hS => ?_)
  refine lv_iinc (v := 18) (lv' := [(1, .int 18), (0, .ref (adr G xl0))]) hx hb dX11_init_248 hl (k := 0) rfl (by decide) (by decide) rfl (fun ls hl => ?_)
  refine lv_goto (tgt := 229) hx hb dX11_init_251 (by decide) ?_
  refine lv_iload_n hx hb dX11_init_229 rfl (lv_at hl 0 rfl) ?_
  refine lv_bipush (v := 20) hx hb dX11_init_230 (by decide) ?_
  refine lv_icmp_ge (tgt := 254) hx hb dX11_init_232 (by decide) (fun q => absurd q (by decide)) (fun _ => ?_)
  refine lv_aload_n hx hb dX11_init_235 rfl (lv_at hl 1 rfl) ?_
  refine r_getr (C := RX11) (T := TX11) (N := 16) hx hb hts (fun w h => List.mem_cons_of_mem _ (iX11 w h)) hown hK hP rfl (by decide) rfl 3 (by decide) (hts _ (List.mem_cons_of_mem _ kw_494)) (fun _ h9 => h9) dX11_init_236 (by decide) h (fun x300 h => ?_)
  refine lv_iload_n hx hb dX11_init_239 rfl (lv_at hl 0 rfl) ?_
  refine r_new (C := RX5) (T := TX5) (N := 9) hx hb hts (fun w h => List.mem_cons_of_mem _ (iX5 w h)) tyX5 tyX5_ok hown (hts _ (List.mem_cons_of_mem _ kw_275)) (hts _ (List.mem_cons_of_mem _ kw_171)) (hts _ (List.mem_cons_of_mem _ kw_5)) hK hP hS hG hb0 hsz rfl (by decide) rfl df_5 (Nat.le_of_ble_eq_true rfl) (Nat.le_of_ble_eq_true rfl) dX11_init_240 h (fun S301 M302 x303 H h e1 hP hS => ?_)
  replace hsz : s.heap.size + 320 = gB G + S301.1 := by omega
  clear e1
  refine lv_dup hx hb dX11_init_243 rfl ?_
  refine q_I hx hb hml hown hts hK hP hS hG hb0 hsz h.1 (c_X5_init l D G _ _ hG x303 _ h.2) ⟨callB_of 0 hts (gw_good kw_174) rfl rfl rfl (hts _ (List.mem_cons_of_mem _ kw_5)) (hts _ (List.mem_cons_of_mem _ kw_489)) hd_X5_init ⟨Nat.le_of_ble_eq_true rfl, Nat.le_of_ble_eq_true rfl⟩, rfl, (hts _ (List.mem_cons_of_mem _ kw_173))⟩ rfl hl.1 rfl (lv_room (Nat.le_of_ble_eq_true rfl)) dX11_init_244 ⟨Nat.le_of_ble_eq_true rfl, Nat.le_of_ble_eq_true rfl⟩ (fun S304 M305 H locs h e1 hP hS => ?_)
  replace hsz : s.heap.size + 327 = gB G + S304.1 := by omega
  clear e1
  refine r_aast18 hx hb hK hP hS (iz := 18) (by decide) dX11_init_247 h (fun M306 H locs h hP hS => ?_)
  refine lv_iinc (v := 19) (lv' := [(1, .int 19), (0, .ref (adr G xl0))]) hx hb dX11_init_248 hl (k := 0) rfl (by decide) (by decide) rfl (fun ls hl => ?_)
  refine lv_goto (tgt := 229) hx hb dX11_init_251 (by decide) ?_
  refine lv_iload_n hx hb dX11_init_229 rfl (lv_at hl 0 rfl) ?_
  refine lv_bipush (v := 20) hx hb dX11_init_230 (by decide) ?_
  refine lv_icmp_ge (tgt := 254) hx hb dX11_init_232 (by decide) (fun q => absurd q (by decide)) (fun _ => ?_)
  refine lv_aload_n hx hb dX11_init_235 rfl (lv_at hl 1 rfl) ?_
  refine r_getr (C := RX11) (T := TX11) (N := 16) hx hb hts (fun w h => List.mem_cons_of_mem _ (iX11 w h)) hown hK hP rfl (by decide) rfl 3 (by decide) (hts _ (List.mem_cons_of_mem _ kw_494)) (fun _ h9 => h9) dX11_init_236 (by decide) h (fun x308 h => ?_)
  refine lv_iload_n hx hb dX11_init_239 rfl (lv_at hl 0 rfl) ?_
  refine r_new (C := RX5) (T := TX5) (N := 9) hx hb hts (fun w h => List.mem_cons_of_mem _ (iX5 w h)) tyX5 tyX5_ok hown (hts _ (List.mem_cons_of_mem _ kw_275)) (hts _ (List.mem_cons_of_mem _ kw_171)) (hts _ (List.mem_cons_of_mem _ kw_5)) hK hP hS hG hb0 hsz rfl (by decide) rfl df_5 (Nat.le_of_ble_eq_true rfl) (Nat.le_of_ble_eq_true rfl) dX11_init_240 h (fun S309 M310 x311 H h e1 hP hS => ?_)
  replace hsz : s.heap.size + 328 = gB G + S309.1 := by omega
  clear e1
  refine lv_dup hx hb dX11_init_243 rfl ?_
  refine q_I hx hb hml hown hts hK hP hS hG hb0 hsz h.1 (c_X5_init l D G _ _ hG x311 _ h.2) ⟨callB_of 0 hts (gw_good kw_174) rfl rfl rfl (hts _ (List.mem_cons_of_mem _ kw_5)) (hts _ (List.mem_cons_of_mem _ kw_489)) hd_X5_init ⟨Nat.le_of_ble_eq_true rfl, Nat.le_of_ble_eq_true rfl⟩, rfl, (hts _ (List.mem_cons_of_mem _ kw_173))⟩ rfl hl.1 rfl (lv_room (Nat.le_of_ble_eq_true rfl)) dX11_init_244 ⟨Nat.le_of_ble_eq_true rfl, Nat.le_of_ble_eq_true rfl⟩ (fun S312 M313 H locs h e1 hP hS => ?_)
  replace hsz : s.heap.size + 335 = gB G + S312.1 := by omega
  clear e1
  refine r_aast18 hx hb hK hP hS (iz := 19) (by decide) dX11_init_247 h (fun M314 H locs h hP hS => ?_)
  refine lv_iinc (v := 20) (lv' := [(1, .int 20), (0, .ref (adr G xl0))]) hx hb dX11_init_248 hl (k := 0) rfl (by decide) (by decide) rfl (fun ls hl => ?_)
  refine lv_goto (tgt := 229) hx hb dX11_init_251 (by decide) ?_
  refine lv_iload_n hx hb dX11_init_229 rfl (lv_at hl 0 rfl) ?_
  refine lv_bipush (v := 20) hx hb dX11_init_230 (by decide) ?_
  refine lv_icmp_ge (tgt := 254) hx hb dX11_init_232 (by decide) (fun _ => ?_) (fun q => absurd (by decide) q)
  exact r_vretA (S0 := S) hx hb hr hlocks hP hS dX11_init_254 h (by omega)
