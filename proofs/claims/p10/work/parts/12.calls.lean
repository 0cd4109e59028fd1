def Cx (p : Program) (s : State) (m : MethodId) (args : Array Value) (meth : Method) (c : Code) (D : va_G) (G : Gt) (cc : ByteArray) (nL : Nat) (ret : Option FieldType) (Ts : List Cond) (own : String) : Prop :=
  p.tables.exec = Jvm.exec ∧ c.code = cc ∧ meth.sig.returnType = ret ∧ meth.locks = false ∧ c.maxLocals = nL ∧ s.vm.findClass own = some m.cls ∧ (∀ w ∈ Ts, w.before args s = true) ∧ KN D G s
abbrev QI (D : va_G) (G : Gt) (S : Sh) (post : Int → Mm → Prop) : Array Value → State → Outcome → State → Prop := va_Qi (fun r (M' : Mm) => post r.toInt M') (fun M' t => Wd D G S M' t.heap) (aG G)
abbrev QL (D : va_G) (G : Gt) (S : Sh) (post : Int → Mm → Prop) : Array Value → State → Outcome → State → Prop := va_Ql (fun r (M' : Mm) => post r.toInt M') (fun M' t => Wd D G S M' t.heap) (aG G)
abbrev QV (D : va_G) (G : Gt) (S : Sh) (post : Mm → Prop) : Array Value → State → Outcome → State → Prop := va_Qv post (fun M' t => Wd D G S M' t.heap) (aG G)
abbrev QR (D : va_G) (G : Gt) (S : Sh) (post : Int → Mm → Prop) : Array Value → State → Outcome → State → Prop := va_Qr (fun u : Int × Mm => post u.1 u.2) (fun u a t => a = adr G u.1 ∧ Wd D G S u.2 t.heap) (aG G)
abbrev PC (D : va_G) (G : Gt) (S : Sh) (M : Mm) (av : List Value) : Array Value → State → Prop := va_Pc av (fun U => KN D G U ∧ Wd D G S M U.heap)
theorem PC_blind {D : va_G} {G : Gt} {S : Sh} {M : Mm} {av : List Value} : FrameBlind (PC D G S M av) := fun a U g mk q => ⟨q.1, q.2.1.calling, q.2.2⟩
theorem sw {c A B Z : Prop} (h : wIf c A B) (f : c → A → Z) (g : ¬ c → B → Z) : Z := by
  by_cases hc : c
  · exact f hc (h.1 hc)
  · exact g hc (h.2 hc)
theorem vpn_z {v : Int32} (h : v.toInt = 0 ∨ v.toInt = 1) : vp_nar .boolean v = v := by
  rcases h with h | h
  · have : v = 0 := Int32.toInt_inj.mp h
    subst this; rfl
  · have : v = 1 := Int32.toInt_inj.mp h
    subst this; rfl
theorem vpn_b {v : Int32} (h : -128 ≤ v.toInt ∧ v.toInt ≤ 127) : vp_nar .byte v = v := by
  rw [vp_nar_byte]
  apply Int32.toInt_inj.mp
  rw [Int8.toInt_toInt32, Int32.toInt_toInt8, Int.bmod_def]
  split <;> omega
section ROWS2
variable {p : Program} {l : Launch} {e : Env} {R : Room} {s : State} {m : MethodId} {args : Array Value} {below : List Frame} {meth : Method} {c : Code} {H : Heap} {locs : List Loc} {cells slots : Nat} {Q : State → Prop} {cc : ByteArray} {pc : Nat} {ls : Array Slot} {rest : List Value} {K : Int → Prop} {D : va_G} {G : Gt} {S : Sh} {M : Mm} {H0 : Heap}
theorem r_iret {post : Int → Mm → Prop} (hexec : p.tables.exec = Jvm.exec) (hb : c.code = cc) (hr : meth.sig.returnType = some .int) (hlocks : meth.locks = false) (hP : Wd D G S M H) (hS : va_S (aG G) s.heap H locs) {v : Int32} (hdg : decode cc pc = .ok (.ireturn, 1)) (h : post v.toInt M) : W p l e R s m args below meth c H locs cells slots (MQ below (QI D G S post) args s cells slots (aG G)) (F0 m pc ls [.int v]) := W.iret hexec hb hr (fun t ht hW => ⟨⟨v, M, rfl, h, by show Wd D G S M t.heap; rw [ht]; exact hP⟩, hS.F ht⟩) hS.2.2 hdg hlocks
theorem r_zret {post : Int → Mm → Prop} (hexec : p.tables.exec = Jvm.exec) (hb : c.code = cc) (hr : meth.sig.returnType = some .boolean) (hlocks : meth.locks = false) (hP : Wd D G S M H) (hS : va_S (aG G) s.heap H locs) {v : Int32} (hdg : decode cc pc = .ok (.ireturn, 1)) (h : (v.toInt = 0 ∨ v.toInt = 1) ∧ post v.toInt M) : W p l e R s m args below meth c H locs cells slots (MQ below (QI D G S post) args s cells slots (aG G)) (F0 m pc ls [.int v]) := W.zret hexec hb hr (nar_z h.1) (fun t ht hW => ⟨⟨v, M, rfl, h.2, by show Wd D G S M t.heap; rw [ht]; exact hP⟩, hS.F ht⟩) hS.2.2 hdg hlocks
theorem r_lret {post : Int → Mm → Prop} (hexec : p.tables.exec = Jvm.exec) (hb : c.code = cc) (hr : meth.sig.returnType = some .long) (hlocks : meth.locks = false) (hP : Wd D G S M H) (hS : va_S (aG G) s.heap H locs) {v : Int64} (hdg : decode cc pc = .ok (.lreturn, 1)) (h : post v.toInt M) : W p l e R s m args below meth c H locs cells slots (MQ below (QL D G S post) args s cells slots (aG G)) (F0 m pc ls [.long v]) := W.lret hexec hb hr (fun t ht hW => ⟨⟨v, M, rfl, h, by show Wd D G S M t.heap; rw [ht]; exact hP⟩, hS.F ht⟩) hS.2.2 hdg hlocks
theorem r_vret {post : Mm → Prop} (hexec : p.tables.exec = Jvm.exec) (hb : c.code = cc) (hr : meth.sig.returnType = none) (hlocks : meth.locks = false) (hP : Wd D G S M H) (hS : va_S (aG G) s.heap H locs) (hdg : decode cc pc = .ok (.return_, 1)) (h : post M) : W p l e R s m args below meth c H locs cells slots (MQ below (QV D G S post) args s cells slots (aG G)) (F0 m pc ls []) := W.vret hexec hb hr (fun t ht hW => ⟨⟨M, rfl, h, by show Wd D G S M t.heap; rw [ht]; exact hP⟩, hS.F ht⟩) hS.2.2 hdg hlocks
theorem q_Vi (hexec : p.tables.exec = Jvm.exec) (hb : c.code = cc) {nL : Nat} (hml : c.maxLocals = nL) {own : String} (hown : s.vm.findClass own = some m.cls) {Ts : List Cond} (hts : ∀ w ∈ Ts, w.before args s = true) (hK : KN D G s) (hP : Wd D G S M H) (hS : va_S (aG G) s.heap H locs) {y : MethodName} {ws : List Cond} {rm : Room} {post : Int → Mm → Prop} {As : List Value} {x : Int} (hM : Met l y ws rm (PC D G S M (.ref (adr G x) :: As)) (QI D G S post) 0 0 (aG G)) {C : String} {T : u_T} {N ci index n maxL : Nat} {bytes : ByteArray} {ret : Option FieldType} (cw : CallW R s args own C index y bytes maxL ret ws rm 0 0 n) (hk : isK S x ci) (hc : vwCl[ci]? = some (C, T, N)) (hci : ci < 13) (hn : As.length = n) (hsize : ls.size = nL) {st0 : List Value} (hstack : st0 = As.reverse ++ .ref (adr G x) :: rest) (hW : 2 * (F0 m pc ls st0).monitorRoom + (rest.map fun v => v.category).sum ≤ 8) (hdg : decode cc pc = .ok (.invokevirtual index, 3)) (hf : cells + 0 ≤ R.cells ∧ slots + 0 ≤ R.slots) (kk : ∀ (z : Int32) (M1 : Mm) (H1 : Heap) (locs1 : List Loc), post z.toInt M1 → Wd D G S M1 H1 → va_S (aG G) s.heap H1 locs1 → W p l e R s m args below meth c H1 locs1 cells slots Q (F0 m (pc + 3) ls (.int z :: rest))) : W p l e R s m args below meth c H locs cells slots Q (F0 m pc ls st0) := by
  have he := wsM_get (G := G) (M := M) hk.2.1
  rw [cE_obj hk hci] at he
  refine va_calli (A1 := aG G) (va_runV (As := As) (rest := rest) (b := adr G x) ⟨hexec, hb, hml, hown, hts⟩ hM cw ⟨PC_blind, ?_, fun U hU hW => ⟨rfl, hK.on hS hU hW, by rw [hU]; exact hP⟩⟩ rfl hn hsize hstack hW hdg hf) hS (fun q _ h => h) (fun q h => h) (fun r u t H1 locs1 ht hvm hw hB hz hk hS1 => kk r  u H1 locs1 hw (by rw [← ht]; exact hB) hS1)
  have := va_recv (H := H) hK.1 hP.P hc he
  rw [adr_of hk.1]
  exact this
theorem q_Si (hexec : p.tables.exec = Jvm.exec) (hb : c.code = cc) {nL : Nat} (hml : c.maxLocals = nL) {own : String} (hown : s.vm.findClass own = some m.cls) {Ts : List Cond} (hts : ∀ w ∈ Ts, w.before args s = true) (hK : KN D G s) (hP : Wd D G S M H) (hS : va_S (aG G) s.heap H locs) {y : MethodName} {ws : List Cond} {rm : Room} {post : Int → Mm → Prop} {As : List Value} (hM : Met l y ws rm (PC D G S M As) (QI D G S post) 0 0 (aG G)) {index n maxL : Nat} {bytes : ByteArray} {ret : Option FieldType} (cw : CallB R s args own index y bytes maxL ret ws rm 0 0 n ∧ (Cond.static y).before args s = true) (hn : As.length = n) (hsize : ls.size = nL) {st0 : List Value} (hstack : st0 = As.reverse ++ rest) (hW : 2 * (F0 m pc ls st0).monitorRoom + (rest.map fun v => v.category).sum ≤ 8) (hdg : decode cc pc = .ok (.invokestatic index, 3)) (hf : cells + 0 ≤ R.cells ∧ slots + 0 ≤ R.slots) (kk : ∀ (z : Int32) (M1 : Mm) (H1 : Heap) (locs1 : List Loc), post z.toInt M1 → Wd D G S M1 H1 → va_S (aG G) s.heap H1 locs1 → W p l e R s m args below meth c H1 locs1 cells slots Q (F0 m (pc + 3) ls (.int z :: rest))) : W p l e R s m args below meth c H locs cells slots Q (F0 m pc ls st0) := by
  exact va_calli (A1 := aG G) (va_runS (As := As) (rest := rest) ⟨hexec, hb, hml, hown, hts⟩ hM cw ⟨PC_blind, fun U hU hW => ⟨rfl, hK.on hS hU hW, by rw [hU]; exact hP⟩⟩ rfl hn hsize hstack hW hdg hf) hS (fun q _ h => h) (fun q h => h) (fun r u t H1 locs1 ht hvm hw hB hz hk hS1 => kk r  u H1 locs1 hw (by rw [← ht]; exact hB) hS1)
theorem q_Vl (hexec : p.tables.exec = Jvm.exec) (hb : c.code = cc) {nL : Nat} (hml : c.maxLocals = nL) {own : String} (hown : s.vm.findClass own = some m.cls) {Ts : List Cond} (hts : ∀ w ∈ Ts, w.before args s = true) (hK : KN D G s) (hP : Wd D G S M H) (hS : va_S (aG G) s.heap H locs) {y : MethodName} {ws : List Cond} {rm : Room} {post : Int → Mm → Prop} {As : List Value} {x : Int} (hM : Met l y ws rm (PC D G S M (.ref (adr G x) :: As)) (QL D G S post) 0 0 (aG G)) {C : String} {T : u_T} {N ci index n maxL : Nat} {bytes : ByteArray} {ret : Option FieldType} (cw : CallW R s args own C index y bytes maxL ret ws rm 0 0 n) (hk : isK S x ci) (hc : vwCl[ci]? = some (C, T, N)) (hci : ci < 13) (hn : As.length = n) (hsize : ls.size = nL) {st0 : List Value} (hstack : st0 = As.reverse ++ .ref (adr G x) :: rest) (hW : 2 * (F0 m pc ls st0).monitorRoom + (rest.map fun v => v.category).sum ≤ 8) (hdg : decode cc pc = .ok (.invokevirtual index, 3)) (hf : cells + 0 ≤ R.cells ∧ slots + 0 ≤ R.slots) (kk : ∀ (z : Int64) (M1 : Mm) (H1 : Heap) (locs1 : List Loc), post z.toInt M1 → Wd D G S M1 H1 → va_S (aG G) s.heap H1 locs1 → W p l e R s m args below meth c H1 locs1 cells slots Q (F0 m (pc + 3) ls (.long z :: rest))) : W p l e R s m args below meth c H locs cells slots Q (F0 m pc ls st0) := by
  have he := wsM_get (G := G) (M := M) hk.2.1
  rw [cE_obj hk hci] at he
  refine va_calll (A1 := aG G) (va_runV (As := As) (rest := rest) (b := adr G x) ⟨hexec, hb, hml, hown, hts⟩ hM cw ⟨PC_blind, ?_, fun U hU hW => ⟨rfl, hK.on hS hU hW, by rw [hU]; exact hP⟩⟩ rfl hn hsize hstack hW hdg hf) hS (fun q _ h => h) (fun q h => h) (fun r u t H1 locs1 ht hvm hw hB hz hk hS1 => kk r  u H1 locs1 hw (by rw [← ht]; exact hB) hS1)
  have := va_recv (H := H) hK.1 hP.P hc he
  rw [adr_of hk.1]
  exact this
theorem q_Sl (hexec : p.tables.exec = Jvm.exec) (hb : c.code = cc) {nL : Nat} (hml : c.maxLocals = nL) {own : String} (hown : s.vm.findClass own = some m.cls) {Ts : List Cond} (hts : ∀ w ∈ Ts, w.before args s = true) (hK : KN D G s) (hP : Wd D G S M H) (hS : va_S (aG G) s.heap H locs) {y : MethodName} {ws : List Cond} {rm : Room} {post : Int → Mm → Prop} {As : List Value} (hM : Met l y ws rm (PC D G S M As) (QL D G S post) 0 0 (aG G)) {index n maxL : Nat} {bytes : ByteArray} {ret : Option FieldType} (cw : CallB R s args own index y bytes maxL ret ws rm 0 0 n ∧ (Cond.static y).before args s = true) (hn : As.length = n) (hsize : ls.size = nL) {st0 : List Value} (hstack : st0 = As.reverse ++ rest) (hW : 2 * (F0 m pc ls st0).monitorRoom + (rest.map fun v => v.category).sum ≤ 8) (hdg : decode cc pc = .ok (.invokestatic index, 3)) (hf : cells + 0 ≤ R.cells ∧ slots + 0 ≤ R.slots) (kk : ∀ (z : Int64) (M1 : Mm) (H1 : Heap) (locs1 : List Loc), post z.toInt M1 → Wd D G S M1 H1 → va_S (aG G) s.heap H1 locs1 → W p l e R s m args below meth c H1 locs1 cells slots Q (F0 m (pc + 3) ls (.long z :: rest))) : W p l e R s m args below meth c H locs cells slots Q (F0 m pc ls st0) := by
  exact va_calll (A1 := aG G) (va_runS (As := As) (rest := rest) ⟨hexec, hb, hml, hown, hts⟩ hM cw ⟨PC_blind, fun U hU hW => ⟨rfl, hK.on hS hU hW, by rw [hU]; exact hP⟩⟩ rfl hn hsize hstack hW hdg hf) hS (fun q _ h => h) (fun q h => h) (fun r u t H1 locs1 ht hvm hw hB hz hk hS1 => kk r  u H1 locs1 hw (by rw [← ht]; exact hB) hS1)
theorem q_Vv (hexec : p.tables.exec = Jvm.exec) (hb : c.code = cc) {nL : Nat} (hml : c.maxLocals = nL) {own : String} (hown : s.vm.findClass own = some m.cls) {Ts : List Cond} (hts : ∀ w ∈ Ts, w.before args s = true) (hK : KN D G s) (hP : Wd D G S M H) (hS : va_S (aG G) s.heap H locs) {y : MethodName} {ws : List Cond} {rm : Room} {post : Mm → Prop} {As : List Value} {x : Int} (hM : Met l y ws rm (PC D G S M (.ref (adr G x) :: As)) (QV D G S post) 0 0 (aG G)) {C : String} {T : u_T} {N ci index n maxL : Nat} {bytes : ByteArray} {ret : Option FieldType} (cw : CallW R s args own C index y bytes maxL ret ws rm 0 0 n) (hk : isK S x ci) (hc : vwCl[ci]? = some (C, T, N)) (hci : ci < 13) (hn : As.length = n) (hsize : ls.size = nL) {st0 : List Value} (hstack : st0 = As.reverse ++ .ref (adr G x) :: rest) (hW : 2 * (F0 m pc ls st0).monitorRoom + (rest.map fun v => v.category).sum ≤ 8) (hdg : decode cc pc = .ok (.invokevirtual index, 3)) (hf : cells + 0 ≤ R.cells ∧ slots + 0 ≤ R.slots) (kk : ∀ (M1 : Mm) (H1 : Heap) (locs1 : List Loc), post M1 → Wd D G S M1 H1 → va_S (aG G) s.heap H1 locs1 → W p l e R s m args below meth c H1 locs1 cells slots Q (F0 m (pc + 3) ls (rest))) : W p l e R s m args below meth c H locs cells slots Q (F0 m pc ls st0) := by
  have he := wsM_get (G := G) (M := M) hk.2.1
  rw [cE_obj hk hci] at he
  refine va_callv (A1 := aG G) (va_runV (As := As) (rest := rest) (b := adr G x) ⟨hexec, hb, hml, hown, hts⟩ hM cw ⟨PC_blind, ?_, fun U hU hW => ⟨rfl, hK.on hS hU hW, by rw [hU]; exact hP⟩⟩ rfl hn hsize hstack hW hdg hf) hS (fun q _ h => h) (fun q h => h) (fun u t H1 locs1 ht hvm hw hB hz hk hS1 => kk  u H1 locs1 hw (by rw [← ht]; exact hB) hS1)
  have := va_recv (H := H) hK.1 hP.P hc he
  rw [adr_of hk.1]
  exact this
theorem q_Sv (hexec : p.tables.exec = Jvm.exec) (hb : c.code = cc) {nL : Nat} (hml : c.maxLocals = nL) {own : String} (hown : s.vm.findClass own = some m.cls) {Ts : List Cond} (hts : ∀ w ∈ Ts, w.before args s = true) (hK : KN D G s) (hP : Wd D G S M H) (hS : va_S (aG G) s.heap H locs) {y : MethodName} {ws : List Cond} {rm : Room} {post : Mm → Prop} {As : List Value} (hM : Met l y ws rm (PC D G S M As) (QV D G S post) 0 0 (aG G)) {index n maxL : Nat} {bytes : ByteArray} {ret : Option FieldType} (cw : CallB R s args own index y bytes maxL ret ws rm 0 0 n ∧ (Cond.static y).before args s = true) (hn : As.length = n) (hsize : ls.size = nL) {st0 : List Value} (hstack : st0 = As.reverse ++ rest) (hW : 2 * (F0 m pc ls st0).monitorRoom + (rest.map fun v => v.category).sum ≤ 8) (hdg : decode cc pc = .ok (.invokestatic index, 3)) (hf : cells + 0 ≤ R.cells ∧ slots + 0 ≤ R.slots) (kk : ∀ (M1 : Mm) (H1 : Heap) (locs1 : List Loc), post M1 → Wd D G S M1 H1 → va_S (aG G) s.heap H1 locs1 → W p l e R s m args below meth c H1 locs1 cells slots Q (F0 m (pc + 3) ls (rest))) : W p l e R s m args below meth c H locs cells slots Q (F0 m pc ls st0) := by
  exact va_callv (A1 := aG G) (va_runS (As := As) (rest := rest) ⟨hexec, hb, hml, hown, hts⟩ hM cw ⟨PC_blind, fun U hU hW => ⟨rfl, hK.on hS hU hW, by rw [hU]; exact hP⟩⟩ rfl hn hsize hstack hW hdg hf) hS (fun q _ h => h) (fun q h => h) (fun u t H1 locs1 ht hvm hw hB hz hk hS1 => kk  u H1 locs1 hw (by rw [← ht]; exact hB) hS1)
theorem arr_up {M : Mm} {x : Int} {i : Int32} {v : Int32} (h0 : 0 ≤ i.toInt) : (fun j : Nat => Int32.ofInt (up M x i.toInt v.toInt x j)) = upd (fun j : Nat => Int32.ofInt (M x j)) i.toNatClampNeg v := by
  have hi : ((i.toNatClampNeg : Nat) : Int) = i.toInt := Int.toNat_of_nonneg h0
  funext j
  by_cases e : j = i.toNatClampNeg
  · subst e
    rw [hi, up_at, pk_us, ofInt_toInt32]
  · rw [pk_un e, up_ne (fun q => e (by omega))]
theorem arr_upL {M : Mm} {x : Int} {i : Int32} {v : Int64} (h0 : 0 ≤ i.toInt) : (fun j : Nat => Int64.ofInt (up M x i.toInt v.toInt x j)) = vp_updL (fun j : Nat => Int64.ofInt (M x j)) i.toNatClampNeg v := by
  have hi : ((i.toNatClampNeg : Nat) : Int) = i.toInt := Int.toNat_of_nonneg h0
  funext j
  by_cases e : j = i.toNatClampNeg
  · subst e
    rw [hi, up_at, pk_uLs, ofInt_toInt64]
  · rw [pk_uLn e, up_ne (fun q => e (by omega))]
theorem r_iast (hexec : p.tables.exec = Jvm.exec) (hb : c.code = cc) (hK : KN D G s) (hP : Wd D G S M H) (hS : va_S (aG G) H0 H locs) {x : Int} {i v : Int32} {K2 : Mm → Prop} (hdg : decode cc pc = .ok (.iastore, 1)) (h : wSt S M x 14 i.toInt v.toInt K2) (kk : ∀ (M1 : Mm) (H1 : Heap) (locs1 : List Loc), K2 M1 → Wd D G S M1 H1 → va_S (aG G) H0 H1 locs1 → W p l e R s m args below meth c H1 locs1 cells slots Q (F0 m (pc + 1) ls rest)) : W p l e R s m args below meth c H locs cells slots Q (F0 m pc ls (.int v :: .int i :: .ref (adr G x) :: rest)) := by
  rw [adr_of h.1.1]
  have he := wsM_get (G := G) (M := M) h.1.2.1
  rw [cE_ints h.1 (by decide) (by decide)] at he
  have hi : ((i.toNatClampNeg : Nat) : Int) = i.toInt := Int.toNat_of_nonneg h.2.1.1
  refine va_iast hexec hb hK.1 hP.P hP.D hS x.toNat 1 he rfl (vp_in_iff.mpr h.2.1) hdg (fun H1 locs1 hP1 hD1 hS1 => ?_)
  refine kk (up M x i.toInt v.toInt) H1 locs1 h.2.2 ⟨hP.1, hP.2.1, ?_, ?_⟩ hS1
  · rw [← wsM_set h.1.1 h.1.2.1 rfl, cE_ints h.1 (by decide) (by decide), arr_up h.2.1.1]
    exact hP1
  · rw [← hi]
    exact hP.R.put (fun _ => k32_r _) (fun q => by simp [stT, h.1.2.2] at q)
theorem r_bast (hexec : p.tables.exec = Jvm.exec) (hb : c.code = cc) (hK : KN D G s) (hP : Wd D G S M H) (hS : va_S (aG G) H0 H locs) {x : Int} {i v : Int32} {K2 : Mm → Prop} (hdg : decode cc pc = .ok (.bastore, 1)) (h : wStB S M x 13 i.toInt v.toInt K2) (kk : ∀ (M1 : Mm) (H1 : Heap) (locs1 : List Loc), K2 M1 → Wd D G S M1 H1 → va_S (aG G) H0 H1 locs1 → W p l e R s m args below meth c H1 locs1 cells slots Q (F0 m (pc + 1) ls rest)) : W p l e R s m args below meth c H locs cells slots Q (F0 m pc ls (.int v :: .int i :: .ref (adr G x) :: rest)) := by
  rw [adr_of h.1.1]
  have he := wsM_get (G := G) (M := M) h.1.2.1
  rw [cE_ints h.1 (by decide) (by decide)] at he
  have hi : ((i.toNatClampNeg : Nat) : Int) = i.toInt := Int.toNat_of_nonneg h.2.1.1
  refine va_bast hexec hb hK.1 hP.P hP.D hS x.toNat 0 he rfl (vp_in_iff.mpr h.2.1) hdg (fun H1 locs1 hP1 hD1 hS1 => ?_)
  rw [vpn_b h.2.2.1] at hP1
  refine kk (up M x i.toInt v.toInt) H1 locs1 h.2.2.2 ⟨hP.1, hP.2.1, ?_, ?_⟩ hS1
  · rw [← wsM_set h.1.1 h.1.2.1 rfl, cE_ints h.1 (by decide) (by decide), arr_up h.2.1.1]
    exact hP1
  · rw [← hi]
    exact hP.R.put (fun _ => k32_r _) (fun q => by simp [stT, h.1.2.2] at q)
theorem r_zast (hexec : p.tables.exec = Jvm.exec) (hb : c.code = cc) (hK : KN D G s) (hP : Wd D G S M H) (hS : va_S (aG G) H0 H locs) {x : Int} {i v : Int32} {K2 : Mm → Prop} (hdg : decode cc pc = .ok (.bastore, 1)) (h : wStZ S M x 15 i.toInt v.toInt K2) (kk : ∀ (M1 : Mm) (H1 : Heap) (locs1 : List Loc), K2 M1 → Wd D G S M1 H1 → va_S (aG G) H0 H1 locs1 → W p l e R s m args below meth c H1 locs1 cells slots Q (F0 m (pc + 1) ls rest)) : W p l e R s m args below meth c H locs cells slots Q (F0 m pc ls (.int v :: .int i :: .ref (adr G x) :: rest)) := by
  rw [adr_of h.1.1]
  have he := wsM_get (G := G) (M := M) h.1.2.1
  rw [cE_ints h.1 (by decide) (by decide)] at he
  have hi : ((i.toNatClampNeg : Nat) : Int) = i.toInt := Int.toNat_of_nonneg h.2.1.1
  refine va_zast hexec hb hK.1 hP.P hP.D hS x.toNat 2 he rfl (vp_in_iff.mpr h.2.1) hdg (fun H1 locs1 hP1 hD1 hS1 => ?_)
  rw [vpn_z h.2.2.1] at hP1
  refine kk (up M x i.toInt v.toInt) H1 locs1 h.2.2.2 ⟨hP.1, hP.2.1, ?_, ?_⟩ hS1
  · rw [← wsM_set h.1.1 h.1.2.1 rfl, cE_ints h.1 (by decide) (by decide), arr_up h.2.1.1]
    exact hP1
  · rw [← hi]
    exact hP.R.put (fun _ => k32_r _) (fun q => by simp [stT, h.1.2.2] at q)
theorem r_last (hexec : p.tables.exec = Jvm.exec) (hb : c.code = cc) (hK : KN D G s) (hP : Wd D G S M H) (hS : va_S (aG G) H0 H locs) {x : Int} {i : Int32} {v : Int64} {K2 : Mm → Prop} (hdg : decode cc pc = .ok (.lastore, 1)) (h : wSt S M x 16 i.toInt v.toInt K2) (kk : ∀ (M1 : Mm) (H1 : Heap) (locs1 : List Loc), K2 M1 → Wd D G S M1 H1 → va_S (aG G) H0 H1 locs1 → W p l e R s m args below meth c H1 locs1 cells slots Q (F0 m (pc + 1) ls rest)) : W p l e R s m args below meth c H locs cells slots Q (F0 m pc ls (.long v :: .int i :: .ref (adr G x) :: rest)) := by
  rw [adr_of h.1.1]
  have he := wsM_get (G := G) (M := M) h.1.2.1
  rw [cE_longs h.1] at he
  have hi : ((i.toNatClampNeg : Nat) : Int) = i.toInt := Int.toNat_of_nonneg h.2.1.1
  refine va_last hexec hb hK.1 hP.P hP.D hS x.toNat 3 he rfl (vp_in_iff.mpr h.2.1) hdg (fun H1 locs1 hP1 hD1 hS1 => ?_)
  refine kk (up M x i.toInt v.toInt) H1 locs1 h.2.2 ⟨hP.1, hP.2.1, ?_, ?_⟩ hS1
  · rw [← wsM_set h.1.1 h.1.2.1 rfl, cE_longs h.1, arr_upL h.2.1.1]
    exact hP1
  · rw [← hi]
    exact hP.R.put (fun q => by simp [stT, h.1.2.2] at q) (fun _ => k64_r _)
end ROWS2
theorem iX0 : ∀ w ∈ u_ws RX0 TX0 3, w ∈ gw := by
  intro w hw
  obtain ⟨k, hk, rfl⟩ := List.mem_map.mp hw
  have hk := List.mem_range.mp hk
  match k, hk with
  | 0, _ => exact kw_294
  | 1, _ => exact kw_296
  | 2, _ => exact kw_298
  | q + 3, h => exact absurd h (by omega)
theorem iX1 : ∀ w ∈ u_ws RX1 TX1 3, w ∈ gw := by
  intro w hw
  obtain ⟨k, hk, rfl⟩ := List.mem_map.mp hw
  have hk := List.mem_range.mp hk
  match k, hk with
  | 0, _ => exact kw_402
  | 1, _ => exact kw_404
  | 2, _ => exact kw_406
  | q + 3, h => exact absurd h (by omega)
theorem iX2 : ∀ w ∈ u_ws RX2 TX2 11, w ∈ gw := by
  intro w hw
  obtain ⟨k, hk, rfl⟩ := List.mem_map.mp hw
  have hk := List.mem_range.mp hk
  match k, hk with
  | 0, _ => exact kw_426
  | 1, _ => exact kw_428
  | 2, _ => exact kw_430
  | 3, _ => exact kw_432
  | 4, _ => exact kw_434
  | 5, _ => exact kw_436
  | 6, _ => exact kw_438
  | 7, _ => exact kw_440
  | 8, _ => exact kw_442
  | 9, _ => exact kw_444
  | 10, _ => exact kw_446
  | q + 11, h => exact absurd h (by omega)
theorem iX3 : ∀ w ∈ u_ws RX3 TX3 9, w ∈ gw := by
  intro w hw
  obtain ⟨k, hk, rfl⟩ := List.mem_map.mp hw
  have hk := List.mem_range.mp hk
  match k, hk with
  | 0, _ => exact kw_316
  | 1, _ => exact kw_318
  | 2, _ => exact kw_320
  | 3, _ => exact kw_322
  | 4, _ => exact kw_324
  | 5, _ => exact kw_326
  | 6, _ => exact kw_328
  | 7, _ => exact kw_330
  | 8, _ => exact kw_332
  | q + 9, h => exact absurd h (by omega)
theorem iX4 : ∀ w ∈ u_ws RX4 TX4 10, w ∈ gw := by
  intro w hw
  obtain ⟨k, hk, rfl⟩ := List.mem_map.mp hw
  have hk := List.mem_range.mp hk
  match k, hk with
  | 0, _ => exact kw_253
  | 1, _ => exact kw_255
  | 2, _ => exact kw_257
  | 3, _ => exact kw_259
  | 4, _ => exact kw_261
  | 5, _ => exact kw_263
  | 6, _ => exact kw_265
  | 7, _ => exact kw_267
  | 8, _ => exact kw_269
  | 9, _ => exact kw_271
  | q + 10, h => exact absurd h (by omega)
theorem iX5 : ∀ w ∈ u_ws RX5 TX5 9, w ∈ gw := by
  intro w hw
  obtain ⟨k, hk, rfl⟩ := List.mem_map.mp hw
  have hk := List.mem_range.mp hk
  match k, hk with
  | 0, _ => exact kw_212
  | 1, _ => exact kw_214
  | 2, _ => exact kw_216
  | 3, _ => exact kw_218
  | 4, _ => exact kw_220
  | 5, _ => exact kw_222
  | 6, _ => exact kw_224
  | 7, _ => exact kw_226
  | 8, _ => exact kw_228
  | q + 9, h => exact absurd h (by omega)
theorem iX6 : ∀ w ∈ u_ws RX6 TX6 3, w ∈ gw := by
  intro w hw
  obtain ⟨k, hk, rfl⟩ := List.mem_map.mp hw
  have hk := List.mem_range.mp hk
  match k, hk with
  | 0, _ => exact kw_458
  | 1, _ => exact kw_460
  | 2, _ => exact kw_462
  | q + 3, h => exact absurd h (by omega)
theorem iX7 : ∀ w ∈ u_ws RX7 TX7 5, w ∈ gw := by
  intro w hw
  obtain ⟨k, hk, rfl⟩ := List.mem_map.mp hw
  have hk := List.mem_range.mp hk
  match k, hk with
  | 0, _ => exact kw_43
  | 1, _ => exact kw_45
  | 2, _ => exact kw_47
  | 3, _ => exact kw_49
  | 4, _ => exact kw_51
  | q + 5, h => exact absurd h (by omega)
theorem iX8 : ∀ w ∈ u_ws RX8 TX8 19, w ∈ gw := by
  intro w hw
  obtain ⟨k, hk, rfl⟩ := List.mem_map.mp hw
  have hk := List.mem_range.mp hk
  match k, hk with
  | 0, _ => exact kw_130
  | 1, _ => exact kw_132
  | 2, _ => exact kw_134
  | 3, _ => exact kw_136
  | 4, _ => exact kw_138
  | 5, _ => exact kw_140
  | 6, _ => exact kw_142
  | 7, _ => exact kw_144
  | 8, _ => exact kw_146
  | 9, _ => exact kw_148
  | 10, _ => exact kw_150
  | 11, _ => exact kw_152
  | 12, _ => exact kw_154
  | 13, _ => exact kw_156
  | 14, _ => exact kw_158
  | 15, _ => exact kw_160
  | 16, _ => exact kw_162
  | 17, _ => exact kw_164
  | 18, _ => exact kw_166
  | q + 19, h => exact absurd h (by omega)
theorem iX9 : ∀ w ∈ u_ws RX9 TX9 5, w ∈ gw := by
  intro w hw
  obtain ⟨k, hk, rfl⟩ := List.mem_map.mp hw
  have hk := List.mem_range.mp hk
  match k, hk with
  | 0, _ => exact kw_478
  | 1, _ => exact kw_480
  | 2, _ => exact kw_482
  | 3, _ => exact kw_484
  | 4, _ => exact kw_486
  | q + 5, h => exact absurd h (by omega)
theorem iX10 : ∀ w ∈ u_ws RX10 TX10 12, w ∈ gw := by
  intro w hw
  obtain ⟨k, hk, rfl⟩ := List.mem_map.mp hw
  have hk := List.mem_range.mp hk
  match k, hk with
  | 0, _ => exact kw_366
  | 1, _ => exact kw_368
  | 2, _ => exact kw_370
  | 3, _ => exact kw_372
  | 4, _ => exact kw_374
  | 5, _ => exact kw_376
  | 6, _ => exact kw_378
  | 7, _ => exact kw_380
  | 8, _ => exact kw_382
  | 9, _ => exact kw_384
  | 10, _ => exact kw_386
  | 11, _ => exact kw_388
  | q + 12, h => exact absurd h (by omega)
theorem iX11 : ∀ w ∈ u_ws RX11 TX11 16, w ∈ gw := by
  intro w hw
  obtain ⟨k, hk, rfl⟩ := List.mem_map.mp hw
  have hk := List.mem_range.mp hk
  match k, hk with
  | 0, _ => exact kw_507
  | 1, _ => exact kw_509
  | 2, _ => exact kw_511
  | 3, _ => exact kw_513
  | 4, _ => exact kw_515
  | 5, _ => exact kw_517
  | 6, _ => exact kw_519
  | 7, _ => exact kw_521
  | 8, _ => exact kw_523
  | 9, _ => exact kw_525
  | 10, _ => exact kw_527
  | 11, _ => exact kw_529
  | 12, _ => exact kw_531
  | 13, _ => exact kw_533
  | 14, _ => exact kw_535
  | 15, _ => exact kw_537
  | q + 16, h => exact absurd h (by omega)
theorem iX12 : ∀ w ∈ u_ws RX12 TX12 38, w ∈ gw := by
  intro w hw
  obtain ⟨k, hk, rfl⟩ := List.mem_map.mp hw
  have hk := List.mem_range.mp hk
  match k, hk with
  | 0, _ => exact kw_1372
  | 1, _ => exact kw_1374
  | 2, _ => exact kw_1376
  | 3, _ => exact kw_1378
  | 4, _ => exact kw_1380
  | 5, _ => exact kw_1382
  | 6, _ => exact kw_1384
  | 7, _ => exact kw_1386
  | 8, _ => exact kw_1388
  | 9, _ => exact kw_1390
  | 10, _ => exact kw_1392
  | 11, _ => exact kw_1394
  | 12, _ => exact kw_1396
  | 13, _ => exact kw_1398
  | 14, _ => exact kw_1400
  | 15, _ => exact kw_1402
  | 16, _ => exact kw_1404
  | 17, _ => exact kw_1406
  | 18, _ => exact kw_1408
  | 19, _ => exact kw_1410
  | 20, _ => exact kw_1412
  | 21, _ => exact kw_1414
  | 22, _ => exact kw_1416
  | 23, _ => exact kw_1418
  | 24, _ => exact kw_1420
  | 25, _ => exact kw_1422
  | 26, _ => exact kw_1424
  | 27, _ => exact kw_1426
  | 28, _ => exact kw_1428
  | 29, _ => exact kw_1430
  | 30, _ => exact kw_1432
  | 31, _ => exact kw_1434
  | 32, _ => exact kw_1436
  | 33, _ => exact kw_1438
  | 34, _ => exact kw_1440
  | 35, _ => exact kw_1442
  | 36, _ => exact kw_1444
  | 37, _ => exact kw_1446
  | q + 38, h => exact absurd h (by omega)
