section
abbrev QN (D : va_G) (G : Gt) (S : Sh) (post : Sh → Mm → Int → Prop) : Array Value → State → Outcome → State → Prop := va_Qr (fun u : Sh × Mm × Int => u.1.1 = S.1 + 1 ∧ post u.1 u.2.1 u.2.2) (fun u a t => a = adr G u.2.2 ∧ Wd D G u.1 u.2.1 t.heap) (aG G)
section CO
variable {p : Program} {l : Launch} {e : Env} {R : Room} {s : State} {m : MethodId} {args : Array Value} {below : List Frame} {meth : Method} {c : Code} {H : Heap} {locs : List Loc} {cells slots : Nat} {Q : State → Prop} {cc : ByteArray} {pc : Nat} {ls : Array Slot} {rest : List Value} {D : va_G} {G : Gt} {S : Sh} {M : Mm}
theorem r_aretN {S0 : Sh} {post : Sh → Mm → Int → Prop} {rt : FieldType} (hexec : p.tables.exec = Jvm.exec) (hb : c.code = cc) (hr : meth.sig.returnType = some rt) (hrt : (∃ n, rt = .object n) ∨ ∃ t, rt = .array t) (hlocks : meth.locks = false) (hP : Wd D G S M H) (hS : va_S (aG G) s.heap H locs) {x : Int} (hdg : decode cc pc = .ok (.areturn, 1)) (h : post S M x) (hz : S.1 = S0.1 + 1) : W p l e R s m args below meth c H locs cells slots (MQ below (QN D G S0 post) args s cells slots (aG G)) (F0 m pc ls [.ref (adr G x)]) := W.aret hexec hb hr hrt (Or.inr ⟨_, rfl⟩) (fun t ht hW => ⟨⟨(S, M, x), adr G x, rfl, ⟨hz, h⟩, rfl, by show Wd D G S M t.heap; rw [ht]; exact hP⟩, hS.F ht⟩) hS.2.2 hdg hlocks
theorem hsize_of (hP : Wd D G S M H) (hG : ∀ a : Nat, G.1 a = gB G + a) (hpos : 0 < S.1) (hle : H.size ≤ s.heap.size + cells) (hsz : s.heap.size + cells = gB G + S.1) : H.size = gB G + S.1 := by
  have hlo := (hP.P (S.1 - 1) _ (wsM_get (by omega))).lt
  dsimp only at hlo
  rw [hG] at hlo
  omega
theorem q_SN (hexec : p.tables.exec = Jvm.exec) (hb : c.code = cc) {nL : Nat} (hml : c.maxLocals = nL) {own : String} (hown : s.vm.findClass own = some m.cls) {Ts : List Cond} (hts : ∀ w ∈ Ts, w.before args s = true) (hK : KN D G s) (hP : Wd D G S M H) (hS : va_S (aG G) s.heap H locs) (hG : ∀ a : Nat, G.1 a = gB G + a) (hpos : 0 < S.1) (hsz : s.heap.size + cells = gB G + S.1) {y : MethodName} {ws : List Cond} {rm : Room} {ms : Nat} {post : Sh → Mm → Int → Prop} {As : List Value} (hM : Met l y ws rm (PA D G S M As) (QN D G S post) 1 ms (aG G)) {index n maxL : Nat} {bytes : ByteArray} {ret : Option FieldType} (cw : CallB R s args own index y bytes maxL ret ws rm 1 ms n ∧ (Cond.static y).before args s = true) (hn : As.length = n) (hsize : ls.size = nL) {st0 : List Value} (hstack : st0 = As.reverse ++ rest) (hW : 2 * (F0 m pc ls st0).monitorRoom + (rest.map fun v => v.category).sum ≤ 8) (hdg : decode cc pc = .ok (.invokestatic index, 3)) (hf : cells + 1 ≤ R.cells ∧ slots + ms ≤ R.slots) (kk : ∀ (S1 : Sh) (M1 : Mm) (x1 : Int) (H1 : Heap) (locs1 : List Loc), post S1 M1 x1 → S1.1 = S.1 + 1 → Wd D G S1 M1 H1 → va_S (aG G) s.heap H1 locs1 → W p l e R s m args below meth c H1 locs1 (cells + 1) (slots + ms) Q (F0 m (pc + 3) ls (.ref (adr G x1) :: rest))) : W p l e R s m args below meth c H locs cells slots Q (F0 m pc ls st0) := by
  refine W_sz (fun hle => ?_)
  have hH := hsize_of hP hG hpos hle hsz
  refine va_callr (A1 := aG G) (va_runS (As := As) (rest := rest) ⟨hexec, hb, hml, hown, hts⟩ hM cw ⟨PA_blind, fun U hU hW => ⟨rfl, hK.on hS hU hW, by rw [hU]; exact hP, by rw [hU]; exact hH⟩⟩ rfl hn hsize hstack hW hdg hf) hS (fun q _ h => h) (fun q h => h) (fun u ra t H1 locs1 ht hvm hw hB hz hk hS1 => ?_)
  obtain ⟨e1, e2⟩ := hB
  subst e1
  exact kk u.1 u.2.1 u.2.2 H1 locs1 hw.2 hw.1 (by rw [← ht]; exact e2) hS1
theorem q_VN (hexec : p.tables.exec = Jvm.exec) (hb : c.code = cc) {nL : Nat} (hml : c.maxLocals = nL) {own : String} (hown : s.vm.findClass own = some m.cls) {Ts : List Cond} (hts : ∀ w ∈ Ts, w.before args s = true) (hK : KN D G s) (hP : Wd D G S M H) (hS : va_S (aG G) s.heap H locs) (hG : ∀ a : Nat, G.1 a = gB G + a) (hpos : 0 < S.1) (hsz : s.heap.size + cells = gB G + S.1) {y : MethodName} {ws : List Cond} {rm : Room} {ms : Nat} {post : Sh → Mm → Int → Prop} {As : List Value} {x : Int} (hM : Met l y ws rm (PA D G S M (.ref (adr G x) :: As)) (QN D G S post) 1 ms (aG G)) {C : String} {T : u_T} {N ci index n maxL : Nat} {bytes : ByteArray} {ret : Option FieldType} (cw : CallW R s args own C index y bytes maxL ret ws rm 1 ms n) (hk : isK S x ci) (hc : vwCl[ci]? = some (C, T, N)) (hci : ci < 13) (hn : As.length = n) (hsize : ls.size = nL) {st0 : List Value} (hstack : st0 = As.reverse ++ .ref (adr G x) :: rest) (hW : 2 * (F0 m pc ls st0).monitorRoom + (rest.map fun v => v.category).sum ≤ 8) (hdg : decode cc pc = .ok (.invokevirtual index, 3)) (hf : cells + 1 ≤ R.cells ∧ slots + ms ≤ R.slots) (kk : ∀ (S1 : Sh) (M1 : Mm) (x1 : Int) (H1 : Heap) (locs1 : List Loc), post S1 M1 x1 → S1.1 = S.1 + 1 → Wd D G S1 M1 H1 → va_S (aG G) s.heap H1 locs1 → W p l e R s m args below meth c H1 locs1 (cells + 1) (slots + ms) Q (F0 m (pc + 3) ls (.ref (adr G x1) :: rest))) : W p l e R s m args below meth c H locs cells slots Q (F0 m pc ls st0) := by
  refine W_sz (fun hle => ?_)
  have hH := hsize_of hP hG hpos hle hsz
  have he := wsM_get (G := G) (M := M) hk.2.1
  rw [cE_obj hk hci] at he
  refine va_callr (A1 := aG G) (va_runV (As := As) (rest := rest) (b := adr G x) ⟨hexec, hb, hml, hown, hts⟩ hM cw ⟨PA_blind, ?_, fun U hU hW => ⟨rfl, hK.on hS hU hW, by rw [hU]; exact hP, by rw [hU]; exact hH⟩⟩ rfl hn hsize hstack hW hdg hf) hS (fun q _ h => h) (fun q h => h) (fun u ra t H1 locs1 ht hvm hw hB hz hk hS1 => ?_)
  · have := va_recv (H := H) hK.1 hP.P hc he
    rw [adr_of hk.1]
    exact this
  · obtain ⟨e1, e2⟩ := hB
    subst e1
    exact kk u.1 u.2.1 u.2.2 H1 locs1 hw.2 hw.1 (by rw [← ht]; exact e2) hS1
end CO
def wp_J7_copyOf_59c91 (S : Sh) (M : Mm) (u0 u1 : Int) (post : Sh → Mm → Int → Prop) : Prop := wLen S u0 14 fun v1 => ¬ u1 = v1 ∧ 0 ≤ u1 ∧ u1 ≤ 400 ∧ 0 < S.1 ∧ (wNewA S M 14 u1.toNat fun S2 M2 x2 => wC 0 fun v3 => wC 0 fun v4 => wLen S2 u0 14 fun v5 => wO min v5 u1 fun v6 => wCpy S2 M2 u0 v3 x2 v4 v6 fun M7 => post S2 M7 x2)
theorem dJ7_copyOf_59c91_0 : decode cJ7_copyOf_59c91 0 = .ok (.iload_n 1, 1) := by decide +kernel
theorem dJ7_copyOf_59c91_1 : decode cJ7_copyOf_59c91 1 = .ok (.aload_n 0, 1) := by decide +kernel
theorem dJ7_copyOf_59c91_2 : decode cJ7_copyOf_59c91 2 = .ok (.arraylength, 1) := by decide +kernel
theorem dJ7_copyOf_59c91_3 : decode cJ7_copyOf_59c91 3 = .ok (.if_icmp .ne 11, 3) := by decide +kernel
theorem dJ7_copyOf_59c91_14 : decode cJ7_copyOf_59c91 14 = .ok (.iload_n 1, 1) := by decide +kernel
theorem dJ7_copyOf_59c91_15 : decode cJ7_copyOf_59c91 15 = .ok (.newarray .int, 2) := by decide +kernel
theorem dJ7_copyOf_59c91_17 : decode cJ7_copyOf_59c91 17 = .ok (.astore_n 2, 1) := by decide +kernel
theorem dJ7_copyOf_59c91_18 : decode cJ7_copyOf_59c91 18 = .ok (.aload_n 0, 1) := by decide +kernel
theorem dJ7_copyOf_59c91_19 : decode cJ7_copyOf_59c91 19 = .ok (.iconst 0, 1) := by decide +kernel
theorem dJ7_copyOf_59c91_20 : decode cJ7_copyOf_59c91 20 = .ok (.aload_n 2, 1) := by decide +kernel
theorem dJ7_copyOf_59c91_21 : decode cJ7_copyOf_59c91 21 = .ok (.iconst 0, 1) := by decide +kernel
theorem dJ7_copyOf_59c91_22 : decode cJ7_copyOf_59c91 22 = .ok (.aload_n 0, 1) := by decide +kernel
theorem dJ7_copyOf_59c91_23 : decode cJ7_copyOf_59c91 23 = .ok (.arraylength, 1) := by decide +kernel
theorem dJ7_copyOf_59c91_24 : decode cJ7_copyOf_59c91 24 = .ok (.iload_n 1, 1) := by decide +kernel
theorem dJ7_copyOf_59c91_25 : decode cJ7_copyOf_59c91 25 = .ok (.invokestatic 304, 3) := by decide +kernel
theorem dJ7_copyOf_59c91_28 : decode cJ7_copyOf_59c91 28 = .ok (.invokestatic 150, 3) := by decide +kernel
theorem dJ7_copyOf_59c91_31 : decode cJ7_copyOf_59c91 31 = .ok (.aload_n 2, 1) := by decide +kernel
theorem dJ7_copyOf_59c91_32 : decode cJ7_copyOf_59c91 32 = .ok (.areturn, 1) := by decide +kernel
abbrev RM_J7_copyOf_59c91 : Room := { frames := 1, cells := 1, slots := 400, locals := 60 }
def cw_J7_copyOf_59c91 : Cond := Cond.code yJ7_copyOf_59c91 cJ7_copyOf_59c91 3 (Option.some (FieldType.array FieldType.int))
theorem hd_J7_copyOf_59c91 : yJ7_copyOf_59c91.cls ≠ "java/lang/invoke/MethodHandle" ∧ yJ7_copyOf_59c91.cls ≠ "java/lang/invoke/VarHandle" ∧ (parseMethodDescriptor yJ7_copyOf_59c91.desc).map (fun d => d.parameters.length) = some 2 := by decide +kernel
set_option maxHeartbeats 4000000 in
set_option maxRecDepth 100000 in
theorem c_J7_copyOf_59c91 (l : Launch) (D : va_G) (G : Gt) (S : Sh) (M : Mm) (hG : ∀ a : Nat, G.1 a = gB G + a) (xl0 : Int) (zl1 : Int32) (post : Sh → Mm → Int → Prop) (h : wp_J7_copyOf_59c91 S M xl0 zl1.toInt post) : Met l yJ7_copyOf_59c91 (cw_J7_copyOf_59c91 :: gw) RM_J7_copyOf_59c91 (PA D G S M [.ref (adr G xl0), .int zl1]) (QN D G S post) 1 400 (aG G) := by
  refine Met.ofW (cc := cJ7_copyOf_59c91) (maxL := 3) (ret := (some (.array .int))) (by decide) rfl ?_
  intro p e s m args below meth c s₁ B hml hv
  obtain ⟨rfl, hK, hP, hsz0⟩ := hv
  have hx := B.exec
  have hb := B.bytes
  have hr := B.returns
  have hts := atoms_spec (ws := cw_J7_copyOf_59c91 :: gw) B.pre
  have hown : s.vm.findClass RJ7 = some m.cls := findClass_of_methodNamed B.named
  have hlocks := B.notSynchronized
  have hb0 : gB G ≤ s.heap.size := by omega
  have hsz : s.heap.size + 0 = gB G + S.1 := by omega
  have hS : va_S (aG G) s.heap s.heap [] := va_S.rf
  have hl := lv_entry ([.ref (adr G xl0), .int zl1]) (n := 3) (Nat.le_of_ble_eq_true rfl)
  rw [lg_entry_eq]
  generalize (lg_sl ([.ref (adr G xl0), .int zl1]) ++ List.replicate (3 - (lg_sl ([.ref (adr G xl0), .int zl1])).length) Slot.unset).toArray = ls at hl ⊢
  have hl : lv_has ls 3 [(0, .ref (adr G xl0)), (1, .int zl1)] := hl
  unfold wp_J7_copyOf_59c91 at h
  refine lv_iload_n hx hb dJ7_copyOf_59c91_0 rfl (lv_at hl 1 rfl) ?_
  refine lv_aload_n hx hb dJ7_copyOf_59c91_1 rfl (lv_at hl 0 rfl) ?_
  refine r_len hx hb hK hP hS dJ7_copyOf_59c91_2 h (fun z1 h => ?_)
  obtain ⟨hne, h0, h4, hpos, h⟩ := h
  refine lv_icmp_ne (tgt := 14) hx hb dJ7_copyOf_59c91_3 (by decide) (fun _ => ?_) (fun q => absurd (by rw [q]) hne)
  refine lv_iload_n hx hb dJ7_copyOf_59c91_14 rfl (lv_at hl 1 rfl) ?_
  refine r_newaI hx hb (hts _ (List.mem_cons_of_mem _ kw_169)) hK hP hS hG hb0 hsz (N := zl1.toInt.toNat) (by omega) (by omega) (Nat.le_of_ble_eq_true rfl) (by show 0 + zl1.toInt.toNat ≤ 400; omega) dJ7_copyOf_59c91_15 h (fun S2 M2 x2 H h e1 hP hS => ?_)
  refine lv_astore_n (lv' := [(2, .ref (adr G x2)), (0, .ref (adr G xl0)), (1, .int zl1)]) hx hb dJ7_copyOf_59c91_17 rfl hl (by decide) rfl (fun ls hl => ?_)
  refine lv_aload_n hx hb dJ7_copyOf_59c91_18 rfl (lv_at hl 1 rfl) ?_
  refine r_iconst hx hb dJ7_copyOf_59c91_19 (by decide) h (fun z3 h => ?_)
  refine lv_aload_n hx hb dJ7_copyOf_59c91_20 rfl (lv_at hl 0 rfl) ?_
  refine r_iconst hx hb dJ7_copyOf_59c91_21 (by decide) h (fun z4 h => ?_)
  refine lv_aload_n hx hb dJ7_copyOf_59c91_22 rfl (lv_at hl 1 rfl) ?_
  refine r_len hx hb hK hP hS dJ7_copyOf_59c91_23 h (fun z5 h => ?_)
  refine lv_iload_n hx hb dJ7_copyOf_59c91_24 rfl (lv_at hl 2 rfl) ?_
  refine r_mmin hx hb (hml.trans hl.1.symm) hown (hts _ (List.mem_cons_of_mem _ kw_864)) (hts _ (List.mem_cons_of_mem _ kw_719)) (hts _ (List.mem_cons_of_mem _ kw_19)) (hts _ (List.mem_cons_of_mem _ kw_720)) (Nat.le_of_ble_eq_true rfl) (Nat.le_of_ble_eq_true rfl) (Nat.le_of_ble_eq_true rfl) (by show 0 + zl1.toInt.toNat ≤ 400; omega) dJ7_copyOf_59c91_25 h (fun z6 h => ?_)
  refine r_copy hx hb (hml.trans hl.1.symm) hK hP hS hown (hts _ (List.mem_cons_of_mem _ kw_865)) (hts _ (List.mem_cons_of_mem _ kw_731)) (hts _ (List.mem_cons_of_mem _ kw_730)) (hts _ (List.mem_cons_of_mem _ kw_20)) (Nat.le_of_ble_eq_true rfl) (Nat.le_of_ble_eq_true rfl) dJ7_copyOf_59c91_28 h (fun M7 H locs h hP hS => ?_)
  refine lv_aload_n hx hb dJ7_copyOf_59c91_31 rfl (lv_at hl 0 rfl) ?_
  refine W.widen (k := 1) (n := 400) (by omega) (by omega) ?_
  exact r_aretN hx hb hr (Or.inr ⟨_, rfl⟩) hlocks hP hS dJ7_copyOf_59c91_32 h e1
def wp_X3_copyOfCode (S : Sh) (M : Mm) (u0 : Int) (post : Sh → Mm → Int → Prop) : Prop := 0 < S.1 ∧ (wGetR S M u0 3 1 fun v1 => wGet S M u0 3 2 fun v2 => wp_J7_copyOf_59c91 S M v1 v2 fun S3 M3 x3 => post S3 M3 x3)
theorem dX3_copyOfCode_0 : decode cX3_copyOfCode 0 = .ok (.aload_n 0, 1) := by decide +kernel
theorem dX3_copyOfCode_1 : decode cX3_copyOfCode 1 = .ok (.getfield 9, 3) := by decide +kernel
theorem dX3_copyOfCode_4 : decode cX3_copyOfCode 4 = .ok (.aload_n 0, 1) := by decide +kernel
theorem dX3_copyOfCode_5 : decode cX3_copyOfCode 5 = .ok (.getfield 22, 3) := by decide +kernel
theorem dX3_copyOfCode_8 : decode cX3_copyOfCode 8 = .ok (.invokestatic 26, 3) := by decide +kernel
theorem dX3_copyOfCode_11 : decode cX3_copyOfCode 11 = .ok (.areturn, 1) := by decide +kernel
abbrev RM_X3_copyOfCode : Room := { frames := 2, cells := 1, slots := 400, locals := 82 }
def cw_X3_copyOfCode : Cond := Cond.code yX3_copyOfCode cX3_copyOfCode 1 (Option.some (FieldType.array FieldType.int))
theorem hd_X3_copyOfCode : yX3_copyOfCode.cls ≠ "java/lang/invoke/MethodHandle" ∧ yX3_copyOfCode.cls ≠ "java/lang/invoke/VarHandle" ∧ (parseMethodDescriptor yX3_copyOfCode.desc).map (fun d => d.parameters.length) = some 0 := by decide +kernel
set_option maxHeartbeats 4000000 in
set_option maxRecDepth 100000 in
theorem c_X3_copyOfCode (l : Launch) (D : va_G) (G : Gt) (S : Sh) (M : Mm) (hG : ∀ a : Nat, G.1 a = gB G + a) (xl0 : Int) (post : Sh → Mm → Int → Prop) (h : wp_X3_copyOfCode S M xl0 post) : Met l yX3_copyOfCode (cw_X3_copyOfCode :: gw) RM_X3_copyOfCode (PA D G S M [.ref (adr G xl0)]) (QN D G S post) 1 400 (aG G) := by
  refine Met.ofW (cc := cX3_copyOfCode) (maxL := 1) (ret := (some (.array .int))) (by decide) rfl ?_
  intro p e s m args below meth c s₁ B hml hv
  obtain ⟨rfl, hK, hP, hsz0⟩ := hv
  have hx := B.exec
  have hb := B.bytes
  have hr := B.returns
  have hts := atoms_spec (ws := cw_X3_copyOfCode :: gw) B.pre
  have hown : s.vm.findClass RX3 = some m.cls := findClass_of_methodNamed B.named
  have hlocks := B.notSynchronized
  have hb0 : gB G ≤ s.heap.size := by omega
  have hsz : s.heap.size + 0 = gB G + S.1 := by omega
  have hS : va_S (aG G) s.heap s.heap [] := va_S.rf
  have hl := lv_entry ([.ref (adr G xl0)]) (n := 1) (Nat.le_of_ble_eq_true rfl)
  rw [lg_entry_eq]
  generalize (lg_sl ([.ref (adr G xl0)]) ++ List.replicate (1 - (lg_sl ([.ref (adr G xl0)])).length) Slot.unset).toArray = ls at hl ⊢
  have hl : lv_has ls 1 [(0, .ref (adr G xl0))] := hl
  unfold wp_X3_copyOfCode at h
  obtain ⟨hpos, h⟩ := h
  refine lv_aload_n hx hb dX3_copyOfCode_0 rfl (lv_at hl 0 rfl) ?_
  refine r_getr (C := RX3) (T := TX3) (N := 9) hx hb hts (fun w h => List.mem_cons_of_mem _ (iX3 w h)) hown hK hP rfl (by decide) rfl 1 (by decide) (hts _ (List.mem_cons_of_mem _ kw_308)) (fun _ h9 => h9) dX3_copyOfCode_1 (by decide) h (fun x1 h => ?_)
  refine lv_aload_n hx hb dX3_copyOfCode_4 rfl (lv_at hl 0 rfl) ?_
  refine r_geti (C := RX3) (T := TX3) (N := 9) hx hb hts (fun w h => List.mem_cons_of_mem _ (iX3 w h)) hown hK hP rfl (by decide) rfl 2 (by decide) (hts _ (List.mem_cons_of_mem _ kw_309)) (fun _ h9 => h9) dX3_copyOfCode_5 (by decide) h (fun z2 h => ?_)
  refine q_SN hx hb hml hown hts hK hP hS hG hpos hsz (c_J7_copyOf_59c91 l D G _ _ hG x1 z2 _ h) ⟨callB_of 2 hts (gw_good kw_856) rfl rfl rfl (hts _ (List.mem_cons_of_mem _ kw_6)) (hts _ (List.mem_cons_of_mem _ kw_854)) hd_J7_copyOf_59c91 ⟨Nat.le_of_ble_eq_true rfl, Nat.le_of_ble_eq_true rfl⟩, (hts _ (List.mem_cons_of_mem _ kw_855))⟩ rfl hl.1 rfl (lv_room (Nat.le_of_ble_eq_true rfl)) dX3_copyOfCode_8 ⟨Nat.le_of_ble_eq_true rfl, Nat.le_of_ble_eq_true rfl⟩ (fun S3 M3 x3 H locs h e1 hP hS => ?_)
  exact r_aretN hx hb hr (Or.inr ⟨_, rfl⟩) hlocks hP hS dX3_copyOfCode_11 h e1
end
section
abbrev QRu (D : va_G) (G : Gt) (post : Int → Sh → Mm → Prop) : Array Value → State → Outcome → State → Prop := va_Qi (fun r (u : Sh × Mm) => post r.toInt u.1 u.2) (fun u t => Wd D G u.1 u.2 t.heap ∧ t.heap.size = gB G + u.1.1) (aG G)
theorem r_iretR {p : Program} {l : Launch} {e : Env} {R : Room} {s : State} {m : MethodId} {args : Array Value} {below : List Frame} {meth : Method} {c : Code} {H : Heap} {locs : List Loc} {cells slots : Nat} {cc : ByteArray} {pc : Nat} {ls : Array Slot} {D : va_G} {G : Gt} {S : Sh} {M : Mm} {post : Int → Sh → Mm → Prop} (hexec : p.tables.exec = Jvm.exec) (hb : c.code = cc) (hr : meth.sig.returnType = some .int) (hlocks : meth.locks = false) (hG : ∀ a : Nat, G.1 a = gB G + a) (hpos : 0 < S.1) (hsz : s.heap.size + cells = gB G + S.1) (hc : cells ≤ 1) (hs : slots ≤ 400) (hP : Wd D G S M H) (hS : va_S (aG G) s.heap H locs) {v : Int32} (hdg : decode cc pc = .ok (.ireturn, 1)) (h : post v.toInt S M) : W p l e R s m args below meth c H locs cells slots (MQ below (QRu D G post) args s 1 400 (aG G)) (F0 m pc ls [.int v]) := by
  refine W_sz (fun hle => ?_)
  have hH := hsize_of hP hG hpos hle hsz
  refine W.widen (k := 1) (n := 400) hc hs ?_
  exact W.iret hexec hb hr (fun t ht hW => ⟨⟨v, (S, M), rfl, h, by show Wd D G S M t.heap; rw [ht]; exact hP, by rw [ht]; exact hH⟩, hS.F ht⟩) hS.2.2 hdg hlocks
theorem dX11_rule_0 : decode cX11_rule 0 = .ok (.aload_n 0, 1) := by decide +kernel
theorem dX11_rule_1 : decode cX11_rule 1 = .ok (.getfield 149, 3) := by decide +kernel
theorem dX11_rule_4 : decode cX11_rule 4 = .ok (.bipush 6, 2) := by decide +kernel
theorem dX11_rule_6 : decode cX11_rule 6 = .ok (.if_icmp .lt 5, 3) := by decide +kernel
theorem dX11_rule_9 : decode cX11_rule 9 = .ok (.iconst (-1), 1) := by decide +kernel
theorem dX11_rule_10 : decode cX11_rule 10 = .ok (.ireturn, 1) := by decide +kernel
theorem dX11_rule_11 : decode cX11_rule 11 = .ok (.aload_n 0, 1) := by decide +kernel
theorem dX11_rule_12 : decode cX11_rule 12 = .ok (.getfield 51, 3) := by decide +kernel
theorem dX11_rule_15 : decode cX11_rule 15 = .ok (.invokevirtual 152, 3) := by decide +kernel
theorem dX11_rule_18 : decode cX11_rule 18 = .ok (.istore_n 1, 1) := by decide +kernel
theorem dX11_rule_19 : decode cX11_rule 19 = .ok (.aload_n 0, 1) := by decide +kernel
theorem dX11_rule_20 : decode cX11_rule 20 = .ok (.getfield 10, 3) := by decide +kernel
theorem dX11_rule_23 : decode cX11_rule 23 = .ok (.iconst 0, 1) := by decide +kernel
theorem dX11_rule_24 : decode cX11_rule 24 = .ok (.putfield 116, 3) := by decide +kernel
theorem dX11_rule_27 : decode cX11_rule 27 = .ok (.iload_n 1, 1) := by decide +kernel
theorem dX11_rule_28 : decode cX11_rule 28 = .ok (.ifCond .ne 14, 3) := by decide +kernel
theorem dX11_rule_31 : decode cX11_rule 31 = .ok (.bipush (-2), 2) := by decide +kernel
theorem dX11_rule_33 : decode cX11_rule 33 = .ok (.aload_n 0, 1) := by decide +kernel
theorem dX11_rule_34 : decode cX11_rule 34 = .ok (.getfield 10, 3) := by decide +kernel
theorem dX11_rule_37 : decode cX11_rule 37 = .ok (.getfield 124, 3) := by decide +kernel
theorem dX11_rule_40 : decode cX11_rule 40 = .ok (.isub, 1) := by decide +kernel
theorem dX11_rule_41 : decode cX11_rule 41 = .ok (.ireturn, 1) := by decide +kernel
theorem dX11_rule_42 : decode cX11_rule 42 = .ok (.aload_n 0, 1) := by decide +kernel
theorem dX11_rule_43 : decode cX11_rule 43 = .ok (.getfield 35, 3) := by decide +kernel
theorem dX11_rule_46 : decode cX11_rule 46 = .ok (.aload_n 0, 1) := by decide +kernel
theorem dX11_rule_47 : decode cX11_rule 47 = .ok (.getfield 149, 3) := by decide +kernel
theorem dX11_rule_50 : decode cX11_rule 50 = .ok (.aload_n 0, 1) := by decide +kernel
theorem dX11_rule_51 : decode cX11_rule 51 = .ok (.getfield 51, 3) := by decide +kernel
theorem dX11_rule_54 : decode cX11_rule 54 = .ok (.invokevirtual 153, 3) := by decide +kernel
theorem dX11_rule_57 : decode cX11_rule 57 = .ok (.aastore, 1) := by decide +kernel
theorem dX11_rule_58 : decode cX11_rule 58 = .ok (.aload_n 0, 1) := by decide +kernel
theorem dX11_rule_59 : decode cX11_rule 59 = .ok (.dup, 1) := by decide +kernel
theorem dX11_rule_60 : decode cX11_rule 60 = .ok (.getfield 149, 3) := by decide +kernel
theorem dX11_rule_63 : decode cX11_rule 63 = .ok (.iconst 1, 1) := by decide +kernel
theorem dX11_rule_64 : decode cX11_rule 64 = .ok (.iadd, 1) := by decide +kernel
theorem dX11_rule_65 : decode cX11_rule 65 = .ok (.putfield 149, 3) := by decide +kernel
theorem dX11_rule_68 : decode cX11_rule 68 = .ok (.aload_n 0, 1) := by decide +kernel
theorem dX11_rule_69 : decode cX11_rule 69 = .ok (.getfield 149, 3) := by decide +kernel
theorem dX11_rule_72 : decode cX11_rule 72 = .ok (.iconst 1, 1) := by decide +kernel
theorem dX11_rule_73 : decode cX11_rule 73 = .ok (.isub, 1) := by decide +kernel
theorem dX11_rule_74 : decode cX11_rule 74 = .ok (.ireturn, 1) := by decide +kernel
abbrev RM_X11_rule : Room := { frames := 12, cells := 1, slots := 400, locals := 410 }
def cw_X11_rule : Cond := Cond.code yX11_rule cX11_rule 2 (Option.some FieldType.int)
theorem hd_X11_rule : yX11_rule.cls ≠ "java/lang/invoke/MethodHandle" ∧ yX11_rule.cls ≠ "java/lang/invoke/VarHandle" ∧ (parseMethodDescriptor yX11_rule.desc).map (fun d => d.parameters.length) = some 0 := by decide +kernel
def wp_X11_rule (S : Sh) (M : Mm) (u0 : Int) (post : Int → Sh → Mm → Prop) : Prop := 0 < S.1 ∧ (wGet S M u0 11 7 fun v1 => wC 6 fun v3 => wIf (v1 < v3) (wGetR S M u0 11 9 fun v5 => isK S v5 3 ∧ (wp_X3_read S M v5 <| fun v7 M9 => wGetR S M9 u0 11 0 fun v10 => wC 0 fun v12 => wPut S M9 v10 7 1 v12 fun M14 => wIf (¬ v7 = 0) (wGetR S M14 u0 11 6 fun v15 => wGet S M14 u0 11 7 fun v17 => wGetR S M14 u0 11 9 fun v19 => isK S v19 3 ∧ (wp_X3_copyOfCode S M14 v19 <| fun S21 M22 x23 => wSt19 S21 M22 v15 v17 x23 fun M24 => wGet S21 M24 u0 11 7 fun v25 => wC 1 fun v27 => wA v25 v27 fun v29 => wPut S21 M24 u0 11 7 v29 fun M31 => wGet S21 M31 u0 11 7 fun v32 => wC 1 fun v34 => wS v32 v34 fun v36 => post v36 S21 M31)) (wC (-2) fun v38 => wGetR S M14 u0 11 0 fun v40 => wGet S M14 v40 7 4 fun v42 => wS v38 v42 fun v44 => post v44 S M14))) (wC (-1) fun v46 => post v46 S M))
set_option maxHeartbeats 4000000 in
set_option maxRecDepth 100000 in
theorem c_X11_rule (l : Launch) (D : va_G) (G : Gt) (S : Sh) (M : Mm) (hG : ∀ a : Nat, G.1 a = gB G + a) (xl0 : Int) (post : Int → Sh → Mm → Prop) (h : wp_X11_rule S M xl0 post) : Met l yX11_rule (cw_X11_rule :: gw) RM_X11_rule (PA2 D G S M [.ref (adr G xl0)]) (QRu D G post) 1 400 (aG G) := by
  refine Met.ofW (cc := cX11_rule) (maxL := 2) (ret := (some .int)) (by decide) rfl ?_
  intro p e s m args below meth c s₁ B hml hv
  obtain ⟨rfl, hK, hP, hsz0, hO⟩ := hv
  have hx := B.exec
  have hb := B.bytes
  have hr := B.returns
  have hts := atoms_spec (ws := cw_X11_rule :: gw) B.pre
  have hown : s.vm.findClass RX11 = some m.cls := findClass_of_methodNamed B.named
  have hlocks := B.notSynchronized
  have hsz : s.heap.size + 0 = gB G + S.1 := by omega
  have hS : va_S (aG G) s.heap s.heap [] := va_S.rf
  have hl := lv_entry ([.ref (adr G xl0)]) (n := 2) (Nat.le_of_ble_eq_true rfl)
  rw [lg_entry_eq]
  generalize (lg_sl ([.ref (adr G xl0)]) ++ List.replicate (2 - (lg_sl ([.ref (adr G xl0)])).length) Slot.unset).toArray = ls at hl ⊢
  have hl : lv_has ls 2 [(0, .ref (adr G xl0))] := hl
  unfold wp_X11_rule at h
  obtain ⟨hpos, h⟩ := h
  refine lv_aload_n hx hb dX11_rule_0 rfl (lv_at hl 0 rfl) ?_
  refine r_geti (C := RX11) (T := TX11) (N := 16) hx hb hts (fun w h => List.mem_cons_of_mem _ (iX11 w h)) hown hK hP rfl (by decide) rfl 7 (by decide) (hts _ (List.mem_cons_of_mem _ kw_498)) (fun _ h9 => h9) dX11_rule_1 (by decide) h (fun z2 h => ?_)
  refine r_bipush hx hb dX11_rule_4 (by decide) h (fun z4 h => ?_)
  refine r_icmp_lt (tgt := 11) hx hb dX11_rule_6 (by decide) h (fun h => ?_) (fun h => ?_)
  · refine lv_aload_n hx hb dX11_rule_11 rfl (lv_at hl 0 rfl) ?_
    refine r_getr (C := RX11) (T := TX11) (N := 16) hx hb hts (fun w h => List.mem_cons_of_mem _ (iX11 w h)) hown hK hP rfl (by decide) rfl 9 (by decide) (hts _ (List.mem_cons_of_mem _ kw_500)) (fun _ h9 => h9) dX11_rule_12 (by decide) h (fun x6 h => ?_)
    refine q_Vi hx hb hml hown hts hK hP hS (c_X3_read l D G _ _ x6 _ h.2) ⟨callB_of 0 hts (gw_good kw_744) rfl rfl rfl (hts _ (List.mem_cons_of_mem _ kw_8)) (hts _ (List.mem_cons_of_mem _ kw_741)) hd_X3_read ⟨Nat.le_of_ble_eq_true rfl, Nat.le_of_ble_eq_true rfl⟩, (hts _ (List.mem_cons_of_mem _ kw_742)), (hts _ (List.mem_cons_of_mem _ kw_743))⟩ h.1 (ci := 3) rfl (by decide) rfl hl.1 rfl (lv_room (Nat.le_of_ble_eq_true rfl)) dX11_rule_15 ⟨Nat.zero_le _, Nat.zero_le _⟩ (fun z8 M9 H locs h hP hS => ?_)
    refine lv_istore_n (lv' := [(1, .int z8), (0, .ref (adr G xl0))]) hx hb dX11_rule_18 rfl hl (by decide) rfl (fun ls hl => ?_)
    refine lv_aload_n hx hb dX11_rule_19 rfl (lv_at hl 1 rfl) ?_
    refine r_getr (C := RX11) (T := TX11) (N := 16) hx hb hts (fun w h => List.mem_cons_of_mem _ (iX11 w h)) hown hK hP rfl (by decide) rfl 0 (by decide) (hts _ (List.mem_cons_of_mem _ kw_491)) (fun _ h9 => h9) dX11_rule_20 (by decide) h (fun x11 h => ?_)
    refine r_iconst hx hb dX11_rule_23 (by decide) h (fun z13 h => ?_)
    refine r_putiN (C := RX7) (T := TX7) (N := 5) hx hb hts (fun w h => List.mem_cons_of_mem _ (iX7 w h)) hown hK hP tyX7 tyX7_ok nmX7 hS rfl (by decide) rfl 1 (by decide) (nw_0 hK) (fun _ h9 => h9) rfl (tyX7_ok 1 (by decide)) rfl rfl dX11_rule_24 (by decide) h (fun M14 H locs h hP hS => ?_)
    refine lv_iload_n hx hb dX11_rule_27 rfl (lv_at hl 0 rfl) ?_
    refine r_if_ne (tgt := 42) hx hb dX11_rule_28 (by decide) h (fun h => ?_) (fun h => ?_)
    · refine lv_aload_n hx hb dX11_rule_42 rfl (lv_at hl 1 rfl) ?_
      refine r_getr (C := RX11) (T := TX11) (N := 16) hx hb hts (fun w h => List.mem_cons_of_mem _ (iX11 w h)) hown hK hP rfl (by decide) rfl 6 (by decide) (hts _ (List.mem_cons_of_mem _ kw_497)) (fun _ h9 => h9) dX11_rule_43 (by decide) h (fun x16 h => ?_)
      refine lv_aload_n hx hb dX11_rule_46 rfl (lv_at hl 1 rfl) ?_
      refine r_geti (C := RX11) (T := TX11) (N := 16) hx hb hts (fun w h => List.mem_cons_of_mem _ (iX11 w h)) hown hK hP rfl (by decide) rfl 7 (by decide) (hts _ (List.mem_cons_of_mem _ kw_498)) (fun _ h9 => h9) dX11_rule_47 (by decide) h (fun z18 h => ?_)
      refine lv_aload_n hx hb dX11_rule_50 rfl (lv_at hl 1 rfl) ?_
      refine r_getr (C := RX11) (T := TX11) (N := 16) hx hb hts (fun w h => List.mem_cons_of_mem _ (iX11 w h)) hown hK hP rfl (by decide) rfl 9 (by decide) (hts _ (List.mem_cons_of_mem _ kw_500)) (fun _ h9 => h9) dX11_rule_51 (by decide) h (fun x20 h => ?_)
      refine q_VN hx hb hml hown hts hK hP hS hG hpos hsz (c_X3_copyOfCode l D G _ _ hG x20 _ h.2) ⟨callB_of 0 hts (gw_good kw_853) rfl rfl rfl (hts _ (List.mem_cons_of_mem _ kw_8)) (hts _ (List.mem_cons_of_mem _ kw_850)) hd_X3_copyOfCode ⟨Nat.le_of_ble_eq_true rfl, Nat.le_of_ble_eq_true rfl⟩, (hts _ (List.mem_cons_of_mem _ kw_851)), (hts _ (List.mem_cons_of_mem _ kw_852))⟩ h.1 (ci := 3) rfl (by decide) rfl hl.1 rfl (lv_room (Nat.le_of_ble_eq_true rfl)) dX11_rule_54 ⟨Nat.le_of_ble_eq_true rfl, Nat.le_of_ble_eq_true rfl⟩ (fun S21 M22 x23 H locs h e1 hP hS => ?_)
      have hsz : s.heap.size + 1 = gB G + S21.1 := by omega
      have hpos : 0 < S21.1 := by omega
      refine r_aast19 hx hb hK hO hP hS (iz := z18.toInt) rfl dX11_rule_57 h (fun M24 H locs h hP hS => ?_)
      refine lv_aload_n hx hb dX11_rule_58 rfl (lv_at hl 1 rfl) ?_
      refine lv_dup hx hb dX11_rule_59 rfl ?_
      refine r_geti (C := RX11) (T := TX11) (N := 16) hx hb hts (fun w h => List.mem_cons_of_mem _ (iX11 w h)) hown hK hP rfl (by decide) rfl 7 (by decide) (hts _ (List.mem_cons_of_mem _ kw_498)) (fun _ h9 => h9) dX11_rule_60 (by decide) h (fun z26 h => ?_)
      refine r_iconst hx hb dX11_rule_63 (by decide) h (fun z28 h => ?_)
      refine r_iadd hx hb dX11_rule_64 h (fun z30 h => ?_)
      refine r_puti (C := RX11) (T := TX11) (N := 16) hx hb hts (fun w h => List.mem_cons_of_mem _ (iX11 w h)) hown hK hP tyX11 tyX11_ok nmX11 hS rfl (by decide) rfl 7 (by decide) (hts _ (List.mem_cons_of_mem _ kw_498)) (fun _ h9 => h9) rfl (tyX11_ok 7 (by decide)) rfl rfl dX11_rule_65 (by decide) h (fun M31 H locs h hP hS => ?_)
      refine lv_aload_n hx hb dX11_rule_68 rfl (lv_at hl 1 rfl) ?_
      refine r_geti (C := RX11) (T := TX11) (N := 16) hx hb hts (fun w h => List.mem_cons_of_mem _ (iX11 w h)) hown hK hP rfl (by decide) rfl 7 (by decide) (hts _ (List.mem_cons_of_mem _ kw_498)) (fun _ h9 => h9) dX11_rule_69 (by decide) h (fun z33 h => ?_)
      refine r_iconst hx hb dX11_rule_72 (by decide) h (fun z35 h => ?_)
      refine r_isub hx hb dX11_rule_73 h (fun z37 h => ?_)
      exact r_iretR hx hb hr hlocks hG hpos hsz (Nat.le_of_ble_eq_true rfl) (Nat.le_of_ble_eq_true rfl) hP hS dX11_rule_74 h
    · refine r_bipush hx hb dX11_rule_31 (by decide) h (fun z39 h => ?_)
      refine lv_aload_n hx hb dX11_rule_33 rfl (lv_at hl 1 rfl) ?_
      refine r_getr (C := RX11) (T := TX11) (N := 16) hx hb hts (fun w h => List.mem_cons_of_mem _ (iX11 w h)) hown hK hP rfl (by decide) rfl 0 (by decide) (hts _ (List.mem_cons_of_mem _ kw_491)) (fun _ h9 => h9) dX11_rule_34 (by decide) h (fun x41 h => ?_)
      refine r_getiN (C := RX7) (T := TX7) (N := 5) hx hb hts (fun w h => List.mem_cons_of_mem _ (iX7 w h)) hown hK hP rfl (by decide) rfl 4 (by decide) (nw_1 hK) (fun _ h9 => h9) dX11_rule_37 (by decide) h (fun z43 h => ?_)
      refine r_isub hx hb dX11_rule_40 h (fun z45 h => ?_)
      exact r_iretR hx hb hr hlocks hG hpos hsz (Nat.le_of_ble_eq_true rfl) (Nat.le_of_ble_eq_true rfl) hP hS dX11_rule_41 h
  · refine r_iconst hx hb dX11_rule_9 (by decide) h (fun z47 h => ?_)
    exact r_iretR hx hb hr hlocks hG hpos hsz (Nat.le_of_ble_eq_true rfl) (Nat.le_of_ble_eq_true rfl) hP hS dX11_rule_10 h
end
section
/-! THE CLAIM OUT OF ONE WALK OF THE LAW'S BODY. Your part is whole_start (and what it stands on); all else here is the same for every law, but numbers. -/
def R_law : String := "TurningMilkLaw"
def lw_P (b : Addr) (xs : List Int32) (args : Array Value) (s : State) : Prop := args = #[.ref b] ∧ s.IntsAt b xs ∧ xs.length ≤ 3072 ∧ (Jvm.Cond.and given_1 narrow_1).before args s = true
def lw_Q (_ : Array Value) (s : State) (o : Outcome) (t : State) : Prop := o = .returned (some (.int 1)) ∧ Framed s o t [] 600000 7302250
def lw_Z (below : List Frame) (a : Array Value) (s : State) : State → Prop := fun t => ∃ o, t.status = .running ∧ Ended t below o ∧ lw_Q a s o t
/-- the law's own end, with 1 on the stack, nothing written that was there before, its room as the claim has it -/
theorem lw_ret {p : Program} {l : Launch} {e : Env} {s : State} {m : MethodId} {below : List Frame} {meth : Method} {c : Code} {b : Nat} (hx : p.tables.exec = Jvm.exec) (hb : c.code = code) (hr : meth.sig.returnType = ret) (hlocks : meth.locks = false) {pc : Nat} {H : Heap} {ls : Array Slot} (hdg : decode code pc = .ok (.ireturn, 1)) : W p l e room_1 s m #[Value.ref b] below meth c H [] 600000 7302250 (lw_Z below #[Value.ref b] s) (F0 m pc ls [.int 1]) := by
  intro T hT X
  obtain ⟨fs, hret, hrun, hended, hW, hframe⟩ := X.leave (v := some (.int 1)) (hlocks := hlocks) (fun h => by rw [hr] at h; cases h)
  have hmeth' : T.vm.method? m = some meth := X.method'
  refine ⟨T.setFrames fs, ?_, .returned (some (.int 1)), hrun, hended, rfl, ⟨_, rfl⟩, hW, hframe⟩
  jvm_step X.here [X.here.top, hx, hb, hdg, hmeth', hr, ret, narrow_b1]
  (try refine ⟨rfl, ?_⟩); (try refine ⟨rfl, ?_⟩)
  first | (intro acts; rw [hret _ acts rfl rfl rfl]) | rw [hret _ _ rfl rfl rfl]
  exact Steps.refl _
/-- what holds at the law's entry: the machine, the code, the tables' words (any of lw_tbl by 'hts w (by decide +kernel)'), the script of L ints xs at the cell b, what the Statement gives of the start (any of its parts by flat_of_before) -/
def lw_At (p : Program) (s : State) (m : MethodId) (meth : Method) (c : Code) (b L : Nat) (xs : Nat → Int32) : Prop :=
  p.tables.exec = Jvm.exec ∧ c.code = code ∧ meth.sig.returnType = ret ∧ c.maxLocals = 4 ∧ s.vm.findClass R_law = some m.cls ∧ (∀ w ∈ lw_tbl, w.before #[Value.ref b] s = true) ∧ va_X b L xs s s.heap ∧ b < s.heap.size ∧ meth.locks = false ∧ (Jvm.Cond.and given_1 narrow_1).before #[Value.ref b] s = true
abbrev PZ (D : va_G) (G : Gt) (S : Sh) (M : Mm) (n0 : Nat) (av : List Value) : Array Value → State → Prop := va_Pc av (fun U => KN D G U ∧ Wd D G S M U.heap ∧ U.heap.size = n0)
abbrev QZ (D : va_G) (G : Gt) (S : Sh) (n0 : Nat) (post : Int → Mm → Prop) : Array Value → State → Outcome → State → Prop := va_Qi (fun r (M' : Mm) => post r.toInt M') (fun M' t => Wd D G S M' t.heap ∧ t.heap.size = n0) (aG G)
theorem PZ_blind {D : va_G} {G : Gt} {S : Sh} {M : Mm} {n0 : Nat} {av : List Value} : FrameBlind (PZ D G S M n0 av) := fun a U g mk q => ⟨q.1, q.2.1.calling, q.2.2⟩
/-- a method that makes no cell leaves the heap's size -/
theorem Met.keepI {l : Launch} {y : MethodName} {ws : List Cond} {rm : Room} {D : va_G} {G : Gt} {S : Sh} {M : Mm} {av : List Value} {post : Int → Mm → Prop} (h : Met l y ws rm (PC D G S M av) (QI D G S post) 0 0 (aG G)) (n0 : Nat) : Met l y ws rm (PZ D G S M n0 av) (QZ D G S n0 post) 0 0 (aG G) := by
  intro p e ha hc hk s m args below hf happ hp hK
  obtain ⟨n, o, h1, h2, h3, ⟨⟨r, u, ho, hpo, hB⟩, hFr⟩, L, hF, hL⟩ := h p e ha hc hk s m args below hf happ ⟨hp.1, hp.2.1, hp.2.2.1⟩ hK
  have hle : (stepsAlone p.tables e n s).heap.size ≤ s.heap.size + 0 := hF.2.2.2.2.1
  have hge := hFr.1
  have hn := hp.2.2.2
  exact ⟨n, o, h1, h2, h3, ⟨⟨r, u, ho, hpo, hB, by omega⟩, hFr⟩, L, hF, hL⟩
section LR
variable {p : Program} {l : Launch} {e : Env} {R : Room} {s : State} {m : MethodId} {args : Array Value} {below : List Frame} {meth : Method} {c : Code} {H : Heap} {locs : List Loc} {cells slots : Nat} {Q : State → Prop} {cc : ByteArray} {pc : Nat} {ls : Array Slot} {rest : List Value} {K : Int → Prop} {D : va_G} {G : Gt} {S : Sh} {M : Mm} {H0 : Heap}
theorem q_Li (hexec : p.tables.exec = Jvm.exec) (hb : c.code = cc) {nL : Nat} (hml : c.maxLocals = nL) {own : String} (hown : s.vm.findClass own = some m.cls) {Ts : List Cond} (hts : ∀ w ∈ Ts, w.before args s = true) (hK : KN D G s) (hP : Wd D G S M H) (hS : va_S (aG G) s.heap H locs) {n0 : Nat} (hH : H.size = n0) {y : MethodName} {ws : List Cond} {rm : Room} {post : Int → Mm → Prop} {As : List Value} {x : Int} (hM : Met l y ws rm (PC D G S M (.ref (adr G x) :: As)) (QI D G S post) 0 0 (aG G)) {C : String} {T : u_T} {N ci index n maxL : Nat} {bytes : ByteArray} {ret : Option FieldType} (cw : CallW R s args own C index y bytes maxL ret ws rm 0 0 n) (hk : isK S x ci) (hc : vwCl[ci]? = some (C, T, N)) (hci : ci < 13) (hn : As.length = n) (hsize : ls.size = nL) {st0 : List Value} (hstack : st0 = As.reverse ++ .ref (adr G x) :: rest) (hW : 2 * (F0 m pc ls st0).monitorRoom + (rest.map fun v => v.category).sum ≤ 8) (hdg : decode cc pc = .ok (.invokevirtual index, 3)) (hf : cells + 0 ≤ R.cells ∧ slots + 0 ≤ R.slots) (kk : ∀ (z : Int32) (M1 : Mm) (H1 : Heap) (locs1 : List Loc), post z.toInt M1 → Wd D G S M1 H1 → va_S (aG G) s.heap H1 locs1 → H1.size = n0 → W p l e R s m args below meth c H1 locs1 cells slots Q (F0 m (pc + 3) ls (.int z :: rest))) : W p l e R s m args below meth c H locs cells slots Q (F0 m pc ls st0) := by
  have he := wsM_get (G := G) (M := M) hk.2.1
  rw [cE_obj hk hci] at he
  refine va_calli (A1 := aG G) (va_runV (As := As) (rest := rest) (b := adr G x) ⟨hexec, hb, hml, hown, hts⟩ (hM.keepI n0) cw ⟨PZ_blind, ?_, fun U hU hW => ⟨rfl, hK.on hS hU hW, by rw [hU]; exact hP, by rw [hU]; exact hH⟩⟩ rfl hn hsize hstack hW hdg hf) hS (fun q _ h => h) (fun q h => h) (fun r u t H1 locs1 ht hvm hw hB hz hk hS1 => kk r u H1 locs1 hw (by rw [← ht]; exact hB.1) hS1 (by rw [← ht]; exact hB.2))
  have := va_recv (H := H) hK.1 hP.P hc he
  rw [adr_of hk.1]
  exact this
theorem q_LR (hexec : p.tables.exec = Jvm.exec) (hb : c.code = cc) {nL : Nat} (hml : c.maxLocals = nL) {own : String} (hown : s.vm.findClass own = some m.cls) {Ts : List Cond} (hts : ∀ w ∈ Ts, w.before args s = true) (hK : KN D G s) (hP : Wd D G S M H) (hS : va_S (aG G) s.heap H locs) (hO : va_O "[I" (gZ G) (aG G) s s.heap) (hH : H.size = gB G + S.1) {y : MethodName} {ws : List Cond} {rm : Room} {post : Int → Sh → Mm → Prop} {x : Int} (hM : Met l y ws rm (PA2 D G S M [.ref (adr G x)]) (QRu D G post) 1 400 (aG G)) {C : String} {T : u_T} {N ci index maxL : Nat} {bytes : ByteArray} {ret : Option FieldType} (cw : CallW R s args own C index y bytes maxL ret ws rm 1 400 0) (hk : isK S x ci) (hc : vwCl[ci]? = some (C, T, N)) (hci : ci < 13) (hsize : ls.size = nL) {st0 : List Value} (hstack : st0 = .ref (adr G x) :: rest) (hW : 2 * (F0 m pc ls st0).monitorRoom + (rest.map fun v => v.category).sum ≤ 8) (hdg : decode cc pc = .ok (.invokevirtual index, 3)) (hf : cells + 1 ≤ R.cells ∧ slots + 400 ≤ R.slots) (kk : ∀ (z : Int32) (S1 : Sh) (M1 : Mm) (H1 : Heap) (locs1 : List Loc), post z.toInt S1 M1 → Wd D G S1 M1 H1 → va_S (aG G) s.heap H1 locs1 → H1.size = gB G + S1.1 → W p l e R s m args below meth c H1 locs1 (cells + 1) (slots + 400) Q (F0 m (pc + 3) ls (.int z :: rest))) : W p l e R s m args below meth c H locs cells slots Q (F0 m pc ls st0) := by
  have he := wsM_get (G := G) (M := M) hk.2.1
  rw [cE_obj hk hci] at he
  refine va_calli (A1 := aG G) (va_runV (As := []) (rest := rest) (b := adr G x) ⟨hexec, hb, hml, hown, hts⟩ hM cw ⟨PA2_blind, ?_, fun U hU hW => ⟨rfl, hK.on hS hU hW, by rw [hU]; exact hP, by rw [hU]; exact hH, (hO.moved hW.alike).kept (fun a ha hn => by rw [hU]; exact hS.2.1 a ha hn)⟩⟩ rfl rfl hsize hstack hW hdg hf) hS (fun q _ h => h) (fun q h => h) (fun r u t H1 locs1 ht hvm hw hB hz hk hS1 => kk r u.1 u.2 H1 locs1 hw (by rw [← ht]; exact hB.1) hS1 (by rw [← ht]; exact hB.2))
  have := va_recv (H := H) hK.1 hP.P hc he
  rw [adr_of hk.1]
  exact this
theorem q_I2 (hexec : p.tables.exec = Jvm.exec) (hb : c.code = cc) {nL : Nat} (hml : c.maxLocals = nL) {own : String} (hown : s.vm.findClass own = some m.cls) {Ts : List Cond} (hts : ∀ w ∈ Ts, w.before args s = true) (hK : KN D G s) (hP : Wd D G S M H) (hS : va_S (aG G) s.heap H locs) (hO : va_O "[I" (gZ G) (aG G) s s.heap) (hH : H.size = gB G + S.1) {y : MethodName} {ws : List Cond} {rm : Room} {mc ms : Nat} {post : Sh → Mm → Prop} {x : Int} (hM : Met l y ws rm (PA2 D G S M [.ref (adr G x)]) (QA D G S mc post) mc ms (aG G)) {index maxL : Nat} {bytes : ByteArray} (cw : CallB R s args own index y bytes maxL none ws rm mc ms 0 ∧ y.name = "<init>" ∧ (Cond.instanceMethod y).before args s = true) (hsize : ls.size = nL) {st0 : List Value} (hstack : st0 = .ref (adr G x) :: rest) (hW : 2 * (F0 m pc ls st0).monitorRoom + (rest.map fun v => v.category).sum ≤ 8) (hdg : decode cc pc = .ok (.invokespecial index, 3)) (hf : cells + mc ≤ R.cells ∧ slots + ms ≤ R.slots) (kk : ∀ (S1 : Sh) (M1 : Mm) (H1 : Heap) (locs1 : List Loc), post S1 M1 → S1.1 = S.1 + mc → Wd D G S1 M1 H1 → va_S (aG G) s.heap H1 locs1 → W p l e R s m args below meth c H1 locs1 (cells + mc) (slots + ms) Q (F0 m (pc + 3) ls rest)) : W p l e R s m args below meth c H locs cells slots Q (F0 m pc ls st0) :=
  va_callv (A1 := aG G) (va_runI (As := []) (rest := rest) (b := adr G x) ⟨hexec, hb, hml, hown, hts⟩ hM cw ⟨PA2_blind, fun U hU hW => ⟨rfl, hK.on hS hU hW, by rw [hU]; exact hP, by rw [hU]; exact hH, (hO.moved hW.alike).kept (fun a ha hn => by rw [hU]; exact hS.2.1 a ha hn)⟩⟩ rfl rfl hsize hstack hW hdg hf) hS (fun q _ h => h) (fun q h => h) (fun u t H1 locs1 ht hvm hw hB hz hk hS1 => kk u.1 u.2 H1 locs1 hw.2 hw.1 (by rw [← ht]; exact hB) hS1)
def wSc (L : Nat) (xs : Nat → Int32) (i : Int) (K : Int → Prop) : Prop := (0 ≤ i ∧ i < L) ∧ K (xs i.toNat).toInt
theorem r_sc (hexec : p.tables.exec = Jvm.exec) (hb : c.code = cc) {b L : Nat} {xs : Nat → Int32} (hX : va_X b L xs s s.heap) (hbl : b < s.heap.size) (hbA : ¬ aG G b) (hS : va_S (aG G) s.heap H locs) {i : Int32} (hdg : decode cc pc = .ok (.iaload, 1)) (h : wSc L xs i.toInt K) (kk : ∀ z : Int32, K z.toInt → W p l e R s m args below meth c H locs cells slots Q (F0 m (pc + 1) ls (.int z :: rest))) : W p l e R s m args below meth c H locs cells slots Q (F0 m pc ls (.int i :: .ref b :: rest)) := va_sld hexec hb hX hbl hbA hS (vp_in_iff.mpr h.1) hdg (kk _ h.2)
theorem r_sl (hexec : p.tables.exec = Jvm.exec) (hb : c.code = cc) {b L : Nat} {xs : Nat → Int32} (hL : L ≤ 3072) (hX : va_X b L xs s s.heap) (hbl : b < s.heap.size) (hbA : ¬ aG G b) (hS : va_S (aG G) s.heap H locs) (hdg : decode cc pc = .ok (.arraylength, 1)) (h : wC L K) (kk : ∀ z : Int32, K z.toInt → W p l e R s m args below meth c H locs cells slots Q (F0 m (pc + 1) ls (.int z :: rest))) : W p l e R s m args below meth c H locs cells slots Q (F0 m pc ls (.ref b :: rest)) := by
  refine va_slen hexec hb hX hbl hbA hS hdg (kk _ ?_)
  have e : (Int32.ofNat L).toInt = (L : Int) := Int32.toInt_ofNat_of_lt (by omega)
  first | (rw [e]; exact h) | (rw [show nI L = Int32.ofNat L from rfl, e]; exact h)
theorem r_iinc2 (hexec : p.tables.exec = Jvm.exec) (hb : c.code = cc) {i nL k : Nat} {n : Int} {x : Int32} {lv : List (Nat × Value)} (lv' : Int32 → List (Nat × Value)) (hdg : decode cc pc = .ok (.iinc i n, 3)) (hn2 : (Int32.ofInt n).toInt = n) (h : lv_has ls nL lv) (hk : lv[k]? = some (i, .int x)) (hn : i < nL) (hl : ∀ v : Int32, (i, Value.int v) :: lv.filter (fun q => !(q.1 == i) && !(q.1 + 1 == i && q.2.category == 2)) = lv' v) (hw : wA x.toInt n K) (kk : ∀ (z : Int32) (ls' : Array Slot), lv_has ls' nL (lv' z) → z.toInt = w32 (x.toInt + n) → K z.toInt → W p l e R s m args below meth c H locs cells slots Q (F0 m (pc + 3) ls' rest)) : W p l e R s m args below meth c H locs cells slots Q (F0 m pc ls rest) := lv_iinc hexec hb hdg h hk rfl hn (hl _) (fun ls' q => kk _ ls' q (by rw [Int32.toInt_add, hn2]; rfl) (by rw [Int32.toInt_add, hn2]; exact hw))
end LR
end
