abbrev QN (D : va_G) (G : Gt) (S : Sh) (post : Sh → Mm → Int → Prop) : Array Value → State → Outcome → State → Prop := va_Qr (fun u : Sh × Mm × Int => u.1.1 = S.1 + 1 ∧ post u.1 u.2.1 u.2.2) (fun u a t => a = adr G u.2.2 ∧ Wd D G u.1 u.2.1 t.heap) (aG G)
section CO
variable {p : Program} {l : Launch} {e : Env} {R : Room} {s : State} {m : MethodId} {args : Array Value} {below : List Frame} {meth : Method} {c : Code} {H : Heap} {locs : List Loc} {cells slots : Nat} {Q : State → Prop} {cc : ByteArray} {pc : Nat} {ls : Array Slot} {rest : List Value} {D : va_G} {G : Gt} {S : Sh} {M : Mm}
theorem r_aretN {S0 : Sh} {post : Sh → Mm → Int → Prop} {rt : FieldType} (hexec : p.tables.exec = Jvm.exec) (hb : c.code = cc) (hr : meth.sig.returnType = some rt) (hrt : (∃ n, rt = .object n) ∨ ∃ t, rt = .array t) (hlocks : meth.locks = false) (hP : Wd D G S M H) (hS : va_S (aG G) s.heap H locs) {x : Int} (hdg : decode cc pc = .ok (.areturn, 1)) (h : post S M x) (hz : S.1 = S0.1 + 1) : W p l e R s m args below meth c H locs cells slots (MQ below (QN D G S0 post) args s cells slots (aG G)) (F0 m pc ls [.ref (adr G x)]) := W.aret hexec hb hr hrt (Or.inr ⟨_, rfl⟩) (fun t ht hW => ⟨⟨(S, M, x), adr G x, rfl, ⟨hz, h⟩, rfl, by show Wd D G S M t.heap; rw [ht]; exact hP⟩, hS.F ht⟩) hS.2.2 hdg hlocks
theorem hsize_of (hP : Wd D G S M H) (hG : ∀ a : Nat, G.1 a = gB G + a) (hpos : 0 < S.1) (hle : H.size ≤ s.heap.size + cells) (hsz : s.heap.size + cells = gB G + S.1) : H.size = gB G + S.1 := by
  have hlo := (hP.P (S.1 - 1) _ (wsM_get (by omega))).lt
  dsimp only at hlo
  rw [hG] at hlo
  omega
theorem q_SN (hexec : p.tables.exec = Jvm.exec) (hb : c.code = cc) {nL : Nat} (hml : c.maxLocals = nL) {own : String} (hown : s.vm.findClass own = some m.cls) {Ts : List Cond} (hts : ∀ w ∈ Ts, w.before args s = true) (hK : KN D G s) (hP : Wd D G S M H) (hS : va_S (aG G) s.heap H locs) (hG : ∀ a : Nat, G.1 a = gB G + a) (hpos : 0 < S.1) (hsz : s.heap.size + cells = gB G + S.1) {y : MethodName} {ws : List Cond} {rm : Room} {ms : Nat} {post : Sh → Mm → Int → Prop} {As : List Value} (hM : Met l y ws rm (PA D G S M As) (QN D G S post) 1 ms (aG G)) {index n maxL : Nat} {bytes : ByteArray} {ret : Option FieldType} (cw : CallB R s args own index y bytes maxL ret ws rm 1 ms n ∧ (Cond.static y).before args s = true) (hn : As.length = n) (hsize : ls.size = nL) {st0 : List Value} (hstack : st0 = As.reverse ++ rest) (hW : 2 * (F0 m pc ls st0).monitorRoom + (rest.map fun v => v.category).sum ≤ 8) (hdg : decode cc pc = .ok (.invokestatic index, 3)) (hf : cells + 1 ≤ R.cells ∧ slots + ms ≤ R.slots) (kk : ∀ (S1 : Sh) (M1 : Mm) (x1 : Int) (H1 : Heap) (locs1 : List Loc), post S1 M1 x1 → S1.1 = S.1 + 1 → Wd D G S1 M1 H1 → va_S (aG G) s.heap H1 locs1 → W p l e R s m args below meth c H1 locs1 (cells + 1) (slots + ms) Q (F0 m (pc + 3) ls (.ref (adr G x1) :: rest))) : W p l e R s m args below meth c H locs cells slots Q (F0 m pc ls st0) := by
  refine W_sz (fun hle => ?_)
  have hH := hsize_of hP hG hpos hle hsz
  refine va_callr (A1 := aG G) (va_runS (As := As) (rest := rest) ⟨hexec, hb, hml, hown, hts⟩ hM cw ⟨PA_blind, fun U hU hW => ⟨rfl, hK.on hS hU hW, by rw [hU]; exact hP, by rw [hU]; exact hH⟩⟩ rfl hn hsize hstack hW hdg hf) hS (fun q _ h => h) (fun q h => h) (fun u ra t H1 locs1 ht hvm hw hB hz hk hS1 => ?_)
  obtain ⟨e1, e2⟩ := hB
  subst e1
  exact kk u.1 u.2.1 u.2.2 H1 locs1 hw.2 hw.1 (by rw [← ht]; exact e2) hS1
theorem q_VN (hexec : p.tables.exec = Jvm.exec) (hb : c.code = cc) {nL : Nat} (hml : c.maxLocals = nL) {own : String} (hown : s.vm.findClass own = some m.cls) {Ts : List Cond} (hts : ∀ w ∈ Ts, w.before args s = true) (hK : KN D G s) (hP : Wd D G S M H) (hS : va_S (aG G) s.heap H locs) (hG : ∀ a : Nat, G.1 a = gB G + a) (hpos : 0 < S.1) (hsz : s.heap.size + cells = gB G + S.1) {y : MethodName} {ws : List Cond} {rm : Room} {ms : Nat} {post : Sh → Mm → Int → Prop} {As : List Value} {x : Int} (hM : Met l y ws rm (PA D G S M (.ref (adr G x) :: As)) (QN D G S post) 1 ms (aG G)) {C : String} {T : u_T} {N ci index n maxL : Nat} {bytes : ByteArray} {ret : Option FieldType} (cw : CallW R s args own C index y bytes maxL ret ws rm 1 ms n) (hk : isK S x ci) (hc : vwCl[ci]? = some (C, T, N)) (hci : ci < 13) (hn : As.length = n) (hsize : ls.size = nL) {st0 : List Value} (hstack : st0 = As.reverse ++ .ref (adr G x) :: rest) (hW : 2 * (F0 m pc ls st0).monitorRoom + (rest.map fun v => v.category).sum ≤ 8) (hdg : decode cc pc = .ok (.invokevirtual index, 3)) (hf : cells + 1 ≤ R.cells ∧ slots + ms ≤ R.slots) (kk : ∀ (S1 : Sh) (M1 : Mm) (x1 : Int) (H1 : Heap) (locs1 : List Loc), post S1 M1 x1 → S1.1 = S.1 + 1 → Wd D G S1 M1 H1 → va_S (aG G) s.heap H1 locs1 → W p l e R s m args below meth c H1 locs1 (cells + 1) (slots + ms) Q (F0 m (pc + 3) ls (.ref (adr G x1) :: rest))) : W p l e R s m args below meth c H locs cells slots Q (F0 m pc ls st0) := by
  refine W_sz (fun hle => ?_)
  have hH := hsize_of hP hG hpos hle hsz
  have he := wsM_get (G := G) (M := M) hk.2.1
  rw [cE_obj hk hci] at he
  refine va_callr (A1 := aG G) (va_runV (As := As) (rest := rest) (b := adr G x) ⟨hexec, hb, hml, hown, hts⟩ hM cw ⟨PA_blind, ?_, fun U hU hW => ⟨rfl, hK.on hS hU hW, by rw [hU]; exact hP, by rw [hU]; exact hH⟩⟩ rfl hn hsize hstack hW hdg hf) hS (fun q _ h => h) (fun q h => h) (fun u ra t H1 locs1 ht hvm hw hB hz hk hS1 => ?_)
  · have := va_recv (H := H) hK.1 hP.P hc he
    rw [adr_of hk.1]
    exact this
  · obtain ⟨e1, e2⟩ := hB
    subst e1
    exact kk u.1 u.2.1 u.2.2 H1 locs1 hw.2 hw.1 (by rw [← ht]; exact e2) hS1
end CO
def wp_J7_copyOf_59c91 (S : Sh) (M : Mm) (u0 u1 : Int) (post : Sh → Mm → Int → Prop) : Prop := wLen S u0 14 fun v1 => ¬ u1 = v1 ∧ 0 ≤ u1 ∧ u1 ≤ 400 ∧ 0 < S.1 ∧ (wNewA S M 14 u1.toNat fun S2 M2 x2 => wC 0 fun v3 => wC 0 fun v4 => wLen S2 u0 14 fun v5 => wO min v5 u1 fun v6 => wCpy S2 M2 u0 v3 x2 v4 v6 fun M7 => post S2 M7 x2)
theorem dJ7_copyOf_59c91_0 : decode cJ7_copyOf_59c91 0 = .ok (.iload_n 1, 1) := by decide +kernel
theorem dJ7_copyOf_59c91_1 : decode cJ7_copyOf_59c91 1 = .ok (.aload_n 0, 1) := by decide +kernel
theorem dJ7_copyOf_59c91_2 : decode cJ7_copyOf_59c91 2 = .ok (.arraylength, 1) := by decide +kernel
theorem dJ7_copyOf_59c91_3 : decode cJ7_copyOf_59c91 3 = .ok (.if_icmp .ne 11, 3) := by decide +kernel
theorem dJ7_copyOf_59c91_14 : decode cJ7_copyOf_59c91 14 = .ok (.iload_n 1, 1) := by decide +kernel
theorem dJ7_copyOf_59c91_15 : decode cJ7_copyOf_59c91 15 = .ok (.newarray .int, 2) := by decide +kernel
theorem dJ7_copyOf_59c91_17 : decode cJ7_copyOf_59c91 17 = .ok (.astore_n 2, 1) := by decide +kernel
theorem dJ7_copyOf_59c91_18 : decode cJ7_copyOf_59c91 18 = .ok (.aload_n 0, 1) := by decide +kernel
theorem dJ7_copyOf_59c91_19 : decode cJ7_copyOf_59c91 19 = .ok (.iconst 0, 1) := by decide +kernel
theorem dJ7_copyOf_59c91_20 : decode cJ7_copyOf_59c91 20 = .ok (.aload_n 2, 1) := by decide +kernel
theorem dJ7_copyOf_59c91_21 : decode cJ7_copyOf_59c91 21 = .ok (.iconst 0, 1) := by decide +kernel
theorem dJ7_copyOf_59c91_22 : decode cJ7_copyOf_59c91 22 = .ok (.aload_n 0, 1) := by decide +kernel
theorem dJ7_copyOf_59c91_23 : decode cJ7_copyOf_59c91 23 = .ok (.arraylength, 1) := by decide +kernel
theorem dJ7_copyOf_59c91_24 : decode cJ7_copyOf_59c91 24 = .ok (.iload_n 1, 1) := by decide +kernel
theorem dJ7_copyOf_59c91_25 : decode cJ7_copyOf_59c91 25 = .ok (.invokestatic 304, 3) := by decide +kernel
theorem dJ7_copyOf_59c91_28 : decode cJ7_copyOf_59c91 28 = .ok (.invokestatic 150, 3) := by decide +kernel
theorem dJ7_copyOf_59c91_31 : decode cJ7_copyOf_59c91 31 = .ok (.aload_n 2, 1) := by decide +kernel
theorem dJ7_copyOf_59c91_32 : decode cJ7_copyOf_59c91 32 = .ok (.areturn, 1) := by decide +kernel
abbrev RM_J7_copyOf_59c91 : Room := { frames := 1, cells := 1, slots := 400, locals := 60 }
def cw_J7_copyOf_59c91 : Cond := Cond.code yJ7_copyOf_59c91 cJ7_copyOf_59c91 3 (Option.some (FieldType.array FieldType.int))
theorem hd_J7_copyOf_59c91 : yJ7_copyOf_59c91.cls ≠ "java/lang/invoke/MethodHandle" ∧ yJ7_copyOf_59c91.cls ≠ "java/lang/invoke/VarHandle" ∧ (parseMethodDescriptor yJ7_copyOf_59c91.desc).map (fun d => d.parameters.length) = some 2 := by decide +kernel
set_option maxHeartbeats 4000000 in
set_option maxRecDepth 100000 in
theorem c_J7_copyOf_59c91 (l : Launch) (D : va_G) (G : Gt) (S : Sh) (M : Mm) (hG : ∀ a : Nat, G.1 a = gB G + a) (xl0 : Int) (zl1 : Int32) (post : Sh → Mm → Int → Prop) (h : wp_J7_copyOf_59c91 S M xl0 zl1.toInt post) : Met l yJ7_copyOf_59c91 (cw_J7_copyOf_59c91 :: gw) RM_J7_copyOf_59c91 (PA D G S M [.ref (adr G xl0), .int zl1]) (QN D G S post) 1 400 (aG G) := by
  refine Met.ofW (cc := cJ7_copyOf_59c91) (maxL := 3) (ret := (some (.array .int))) (by decide) rfl ?_
  intro p e s m args below meth c s₁ B hml hv
  obtain ⟨rfl, hK, hP, hsz0⟩ := hv
  have hx := B.exec
  have hb := B.bytes
  have hr := B.returns
  have hts := atoms_spec (ws := cw_J7_copyOf_59c91 :: gw) B.pre
  have hown : s.vm.findClass RJ7 = some m.cls := findClass_of_methodNamed B.named
  have hlocks := B.notSynchronized
  have hb0 : gB G ≤ s.heap.size := by omega
  have hsz : s.heap.size + 0 = gB G + S.1 := by omega
  have hS : va_S (aG G) s.heap s.heap [] := va_S.rf
  have hl := lv_entry ([.ref (adr G xl0), .int zl1]) (n := 3) (Nat.le_of_ble_eq_true rfl)
  rw [lg_entry_eq]
  generalize (lg_sl ([.ref (adr G xl0), .int zl1]) ++ List.replicate (3 - (lg_sl ([.ref (adr G xl0), .int zl1])).length) Slot.unset).toArray = ls at hl ⊢
  have hl : lv_has ls 3 [(0, .ref (adr G xl0)), (1, .int zl1)] := hl
  unfold wp_J7_copyOf_59c91 at h
  refine lv_iload_n hx hb dJ7_copyOf_59c91_0 rfl (lv_at hl 1 rfl) ?_
  refine lv_aload_n hx hb dJ7_copyOf_59c91_1 rfl (lv_at hl 0 rfl) ?_
  refine r_len hx hb hK hP hS dJ7_copyOf_59c91_2 h (fun z1 h => ?_)
  obtain ⟨hne, h0, h4, hpos, h⟩ := h
  refine lv_icmp_ne (tgt := 14) hx hb dJ7_copyOf_59c91_3 (by decide) (fun _ => ?_) (fun q => absurd (by rw [q]) hne)
  refine lv_iload_n hx hb dJ7_copyOf_59c91_14 rfl (lv_at hl 1 rfl) ?_
  refine r_newaI hx hb (hts _ (List.mem_cons_of_mem _ kw_169)) hK hP hS hG hb0 hsz (N := zl1.toInt.toNat) (by omega) (by omega) (Nat.le_of_ble_eq_true rfl) (by show 0 + zl1.toInt.toNat ≤ 400; omega) dJ7_copyOf_59c91_15 h (fun S2 M2 x2 H h e1 hP hS => ?_)
  refine lv_astore_n (lv' := [(2, .ref (adr G x2)), (0, .ref (adr G xl0)), (1, .int zl1)]) hx hb dJ7_copyOf_59c91_17 rfl hl (by decide) rfl (fun ls hl => ?_)
  refine lv_aload_n hx hb dJ7_copyOf_59c91_18 rfl (lv_at hl 1 rfl) ?_
  refine r_iconst hx hb dJ7_copyOf_59c91_19 (by decide) h (fun z3 h => ?_)
  refine lv_aload_n hx hb dJ7_copyOf_59c91_20 rfl (lv_at hl 0 rfl) ?_
  refine r_iconst hx hb dJ7_copyOf_59c91_21 (by decide) h (fun z4 h => ?_)
  refine lv_aload_n hx hb dJ7_copyOf_59c91_22 rfl (lv_at hl 1 rfl) ?_
  refine r_len hx hb hK hP hS dJ7_copyOf_59c91_23 h (fun z5 h => ?_)
  refine lv_iload_n hx hb dJ7_copyOf_59c91_24 rfl (lv_at hl 2 rfl) ?_
  refine r_mmin hx hb (hml.trans hl.1.symm) hown (hts _ (List.mem_cons_of_mem _ kw_864)) (hts _ (List.mem_cons_of_mem _ kw_719)) (hts _ (List.mem_cons_of_mem _ kw_19)) (hts _ (List.mem_cons_of_mem _ kw_720)) (Nat.le_of_ble_eq_true rfl) (Nat.le_of_ble_eq_true rfl) (Nat.le_of_ble_eq_true rfl) (by show 0 + zl1.toInt.toNat ≤ 400; omega) dJ7_copyOf_59c91_25 h (fun z6 h => ?_)
  refine r_copy hx hb (hml.trans hl.1.symm) hK hP hS hown (hts _ (List.mem_cons_of_mem _ kw_865)) (hts _ (List.mem_cons_of_mem _ kw_731)) (hts _ (List.mem_cons_of_mem _ kw_730)) (hts _ (List.mem_cons_of_mem _ kw_20)) (Nat.le_of_ble_eq_true rfl) (Nat.le_of_ble_eq_true rfl) dJ7_copyOf_59c91_28 h (fun M7 H locs h hP hS => ?_)
  refine lv_aload_n hx hb dJ7_copyOf_59c91_31 rfl (lv_at hl 0 rfl) ?_
  refine W.widen (k := 1) (n := 400) (by omega) (by omega) ?_
  exact r_aretN hx hb hr (Or.inr ⟨_, rfl⟩) hlocks hP hS dJ7_copyOf_59c91_32 h e1
def wp_X3_copyOfCode (S : Sh) (M : Mm) (u0 : Int) (post : Sh → Mm → Int → Prop) : Prop := 0 < S.1 ∧ (wGetR S M u0 3 1 fun v1 => wGet S M u0 3 2 fun v2 => wp_J7_copyOf_59c91 S M v1 v2 fun S3 M3 x3 => post S3 M3 x3)
theorem dX3_copyOfCode_0 : decode cX3_copyOfCode 0 = .ok (.aload_n 0, 1) := by decide +kernel
theorem dX3_copyOfCode_1 : decode cX3_copyOfCode 1 = .ok (.getfield 9, 3) := by decide +kernel
theorem dX3_copyOfCode_4 : decode cX3_copyOfCode 4 = .ok (.aload_n 0, 1) := by decide +kernel
theorem dX3_copyOfCode_5 : decode cX3_copyOfCode 5 = .ok (.getfield 22, 3) := by decide +kernel
theorem dX3_copyOfCode_8 : decode cX3_copyOfCode 8 = .ok (.invokestatic 26, 3) := by decide +kernel
theorem dX3_copyOfCode_11 : decode cX3_copyOfCode 11 = .ok (.areturn, 1) := by decide +kernel
abbrev RM_X3_copyOfCode : Room := { frames := 2, cells := 1, slots := 400, locals := 82 }
def cw_X3_copyOfCode : Cond := Cond.code yX3_copyOfCode cX3_copyOfCode 1 (Option.some (FieldType.array FieldType.int))
theorem hd_X3_copyOfCode : yX3_copyOfCode.cls ≠ "java/lang/invoke/MethodHandle" ∧ yX3_copyOfCode.cls ≠ "java/lang/invoke/VarHandle" ∧ (parseMethodDescriptor yX3_copyOfCode.desc).map (fun d => d.parameters.length) = some 0 := by decide +kernel
set_option maxHeartbeats 4000000 in
set_option maxRecDepth 100000 in
theorem c_X3_copyOfCode (l : Launch) (D : va_G) (G : Gt) (S : Sh) (M : Mm) (hG : ∀ a : Nat, G.1 a = gB G + a) (xl0 : Int) (post : Sh → Mm → Int → Prop) (h : wp_X3_copyOfCode S M xl0 post) : Met l yX3_copyOfCode (cw_X3_copyOfCode :: gw) RM_X3_copyOfCode (PA D G S M [.ref (adr G xl0)]) (QN D G S post) 1 400 (aG G) := by
  refine Met.ofW (cc := cX3_copyOfCode) (maxL := 1) (ret := (some (.array .int))) (by decide) rfl ?_
  intro p e s m args below meth c s₁ B hml hv
  obtain ⟨rfl, hK, hP, hsz0⟩ := hv
  have hx := B.exec
  have hb := B.bytes
  have hr := B.returns
  have hts := atoms_spec (ws := cw_X3_copyOfCode :: gw) B.pre
  have hown : s.vm.findClass RX3 = some m.cls := findClass_of_methodNamed B.named
  have hlocks := B.notSynchronized
  have hb0 : gB G ≤ s.heap.size := by omega
  have hsz : s.heap.size + 0 = gB G + S.1 := by omega
  have hS : va_S (aG G) s.heap s.heap [] := va_S.rf
  have hl := lv_entry ([.ref (adr G xl0)]) (n := 1) (Nat.le_of_ble_eq_true rfl)
  rw [lg_entry_eq]
  generalize (lg_sl ([.ref (adr G xl0)]) ++ List.replicate (1 - (lg_sl ([.ref (adr G xl0)])).length) Slot.unset).toArray = ls at hl ⊢
  have hl : lv_has ls 1 [(0, .ref (adr G xl0))] := hl
  unfold wp_X3_copyOfCode at h
  obtain ⟨hpos, h⟩ := h
  refine lv_aload_n hx hb dX3_copyOfCode_0 rfl (lv_at hl 0 rfl) ?_
  refine r_getr (C := RX3) (T := TX3) (N := 9) hx hb hts (fun w h => List.mem_cons_of_mem _ (iX3 w h)) hown hK hP rfl (by decide) rfl 1 (by decide) (hts _ (List.mem_cons_of_mem _ kw_308)) (fun _ h9 => h9) dX3_copyOfCode_1 (by decide) h (fun x1 h => ?_)
  refine lv_aload_n hx hb dX3_copyOfCode_4 rfl (lv_at hl 0 rfl) ?_
  refine r_geti (C := RX3) (T := TX3) (N := 9) hx hb hts (fun w h => List.mem_cons_of_mem _ (iX3 w h)) hown hK hP rfl (by decide) rfl 2 (by decide) (hts _ (List.mem_cons_of_mem _ kw_309)) (fun _ h9 => h9) dX3_copyOfCode_5 (by decide) h (fun z2 h => ?_)
  refine q_SN hx hb hml hown hts hK hP hS hG hpos hsz (c_J7_copyOf_59c91 l D G _ _ hG x1 z2 _ h) ⟨callB_of 2 hts (gw_good kw_856) rfl rfl rfl (hts _ (List.mem_cons_of_mem _ kw_6)) (hts _ (List.mem_cons_of_mem _ kw_854)) hd_J7_copyOf_59c91 ⟨Nat.le_of_ble_eq_true rfl, Nat.le_of_ble_eq_true rfl⟩, (hts _ (List.mem_cons_of_mem _ kw_855))⟩ rfl hl.1 rfl (lv_room (Nat.le_of_ble_eq_true rfl)) dX3_copyOfCode_8 ⟨Nat.le_of_ble_eq_true rfl, Nat.le_of_ble_eq_true rfl⟩ (fun S3 M3 x3 H locs h e1 hP hS => ?_)
  exact r_aretN hx hb hr (Or.inr ⟨_, rfl⟩) hlocks hP hS dX3_copyOfCode_11 h e1
