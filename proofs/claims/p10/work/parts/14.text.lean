theorem tx_len : ∀ k : Nat, k < txN → (txB.getD k []).length = txL.getD k 0 ∧ txL.getD k 0 < 100 := by decide +kernel
theorem tx_byte : ∀ k : Nat, k < txN → ∀ j : Nat, j < txL.getD k 0 → (((((txB.getD k []).getD j 0) &&& 255).toUInt32 % 65536).toInt32) = (txB.getD k []).getD j 0 ∧ narrow .char (.int ((txB.getD k []).getD j 0)) = .int ((txB.getD k []).getD j 0) := by decide +kernel
theorem dJ0_coder_7d493_0 : decode cJ0_coder_7d493 0 = .ok (.getstatic 38, 3) := by decide +kernel
theorem dJ0_coder_7d493_3 : decode cJ0_coder_7d493 3 = .ok (.ifCond .eq 10, 3) := by decide +kernel
theorem dJ0_coder_7d493_6 : decode cJ0_coder_7d493 6 = .ok (.aload_n 0, 1) := by decide +kernel
theorem dJ0_coder_7d493_7 : decode cJ0_coder_7d493 7 = .ok (.getfield 15, 3) := by decide +kernel
theorem dJ0_coder_7d493_10 : decode cJ0_coder_7d493 10 = .ok (.goto 4, 3) := by decide +kernel
theorem dJ0_coder_7d493_14 : decode cJ0_coder_7d493 14 = .ok (.ireturn, 1) := by decide +kernel
abbrev RM_J0_coder_7d493 : Room := { frames := 1, cells := 0, slots := 0, locals := 40 }
def cw_J0_coder_7d493 : Cond := Cond.code yJ0_coder_7d493 cJ0_coder_7d493 1 (Option.some FieldType.byte)
theorem hd_J0_coder_7d493 : yJ0_coder_7d493.cls ≠ "java/lang/invoke/MethodHandle" ∧ yJ0_coder_7d493.cls ≠ "java/lang/invoke/VarHandle" ∧ (parseMethodDescriptor yJ0_coder_7d493.desc).map (fun d => d.parameters.length) = some 0 := by decide +kernel
set_option maxHeartbeats 4000000 in
set_option maxRecDepth 100000 in
theorem c_J0_coder_7d493 (l : Launch) (D : va_G) (G : Gt) (S : Sh) (M : Mm) (k : Nat) (hk : k < txN) (post : Int → Mm → Prop) (h : post 0 M) : Met l yJ0_coder_7d493 (cw_J0_coder_7d493 :: gw) RM_J0_coder_7d493 (PC D G S M [.ref (gK G k)]) (QI D G S post) 0 0 (aG G) := by
  refine Met.ofW (cc := cJ0_coder_7d493) (maxL := 1) (ret := (some .byte)) (by decide) rfl ?_
  intro p e s m args below meth c s₁ B hml hv
  obtain ⟨rfl, hK, hP⟩ := hv
  have hx := B.exec
  have hb := B.bytes
  have hr := B.returns
  have hts := atoms_spec (ws := cw_J0_coder_7d493 :: gw) B.pre
  have hown : s.vm.findClass RJ0 = some m.cls := findClass_of_methodNamed B.named
  have hlocks := B.notSynchronized
  have hS : va_S (aG G) s.heap s.heap [] := va_S.rf
  have hl := lv_entry ([.ref (gK G k)]) (n := 1) (Nat.le_of_ble_eq_true rfl)
  rw [lg_entry_eq]
  generalize (lg_sl ([.ref (gK G k)]) ++ List.replicate (1 - (lg_sl ([.ref (gK G k)])).length) Slot.unset).toArray = ls at hl ⊢
  have hl : lv_has ls 1 [(0, .ref (gK G k))] := hl
  refine va_gets hx hb hK.2.2.2.2.2.2.1 hS hown (hts _ (List.mem_cons_of_mem _ kw_610)) (fun _ h9 => h9) dJ0_coder_7d493_0 ?_
  refine lv_if_eq (tgt := 13) hx hb dJ0_coder_7d493_3 (by decide) (fun q => absurd q (by decide)) (fun _ => ?_)
  refine lv_aload_n hx hb dJ0_coder_7d493_6 rfl (lv_at hl 0 rfl) ?_
  refine vk_getf hx hb (hK.2.2.2.1.1 k hk).2.1 hS hown (hts _ (List.mem_cons_of_mem _ kw_1970)) (fun _ h9 => h9) dJ0_coder_7d493_7 ?_
  refine lv_goto (tgt := 14) hx hb dJ0_coder_7d493_10 (by decide) ?_
  exact r_xret hx hb hr hlocks hP hS rfl dJ0_coder_7d493_14 h
theorem dJ0_isLatin1_aae02_0 : decode cJ0_isLatin1_aae02 0 = .ok (.getstatic 38, 3) := by decide +kernel
theorem dJ0_isLatin1_aae02_3 : decode cJ0_isLatin1_aae02 3 = .ok (.ifCond .eq 14, 3) := by decide +kernel
theorem dJ0_isLatin1_aae02_6 : decode cJ0_isLatin1_aae02 6 = .ok (.aload_n 0, 1) := by decide +kernel
theorem dJ0_isLatin1_aae02_7 : decode cJ0_isLatin1_aae02 7 = .ok (.getfield 15, 3) := by decide +kernel
theorem dJ0_isLatin1_aae02_10 : decode cJ0_isLatin1_aae02 10 = .ok (.ifCond .ne 7, 3) := by decide +kernel
theorem dJ0_isLatin1_aae02_13 : decode cJ0_isLatin1_aae02 13 = .ok (.iconst 1, 1) := by decide +kernel
theorem dJ0_isLatin1_aae02_14 : decode cJ0_isLatin1_aae02 14 = .ok (.goto 4, 3) := by decide +kernel
theorem dJ0_isLatin1_aae02_18 : decode cJ0_isLatin1_aae02 18 = .ok (.ireturn, 1) := by decide +kernel
abbrev RM_J0_isLatin1_aae02 : Room := { frames := 1, cells := 0, slots := 0, locals := 40 }
def cw_J0_isLatin1_aae02 : Cond := Cond.code yJ0_isLatin1_aae02 cJ0_isLatin1_aae02 1 (Option.some FieldType.boolean)
theorem hd_J0_isLatin1_aae02 : yJ0_isLatin1_aae02.cls ≠ "java/lang/invoke/MethodHandle" ∧ yJ0_isLatin1_aae02.cls ≠ "java/lang/invoke/VarHandle" ∧ (parseMethodDescriptor yJ0_isLatin1_aae02.desc).map (fun d => d.parameters.length) = some 0 := by decide +kernel
set_option maxHeartbeats 4000000 in
set_option maxRecDepth 100000 in
theorem c_J0_isLatin1_aae02 (l : Launch) (D : va_G) (G : Gt) (S : Sh) (M : Mm) (k : Nat) (hk : k < txN) (post : Int → Mm → Prop) (h : post 1 M) : Met l yJ0_isLatin1_aae02 (cw_J0_isLatin1_aae02 :: gw) RM_J0_isLatin1_aae02 (PC D G S M [.ref (gK G k)]) (QI D G S post) 0 0 (aG G) := by
  refine Met.ofW (cc := cJ0_isLatin1_aae02) (maxL := 1) (ret := (some .boolean)) (by decide) rfl ?_
  intro p e s m args below meth c s₁ B hml hv
  obtain ⟨rfl, hK, hP⟩ := hv
  have hx := B.exec
  have hb := B.bytes
  have hr := B.returns
  have hts := atoms_spec (ws := cw_J0_isLatin1_aae02 :: gw) B.pre
  have hown : s.vm.findClass RJ0 = some m.cls := findClass_of_methodNamed B.named
  have hlocks := B.notSynchronized
  have hS : va_S (aG G) s.heap s.heap [] := va_S.rf
  have hl := lv_entry ([.ref (gK G k)]) (n := 1) (Nat.le_of_ble_eq_true rfl)
  rw [lg_entry_eq]
  generalize (lg_sl ([.ref (gK G k)]) ++ List.replicate (1 - (lg_sl ([.ref (gK G k)])).length) Slot.unset).toArray = ls at hl ⊢
  have hl : lv_has ls 1 [(0, .ref (gK G k))] := hl
  refine va_gets hx hb hK.2.2.2.2.2.2.1 hS hown (hts _ (List.mem_cons_of_mem _ kw_610)) (fun _ h9 => h9) dJ0_isLatin1_aae02_0 ?_
  refine lv_if_eq (tgt := 17) hx hb dJ0_isLatin1_aae02_3 (by decide) (fun q => absurd q (by decide)) (fun _ => ?_)
  refine lv_aload_n hx hb dJ0_isLatin1_aae02_6 rfl (lv_at hl 0 rfl) ?_
  refine vk_getf hx hb (hK.2.2.2.1.1 k hk).2.1 hS hown (hts _ (List.mem_cons_of_mem _ kw_1970)) (fun _ h9 => h9) dJ0_isLatin1_aae02_7 ?_
  refine lv_if_ne (tgt := 17) hx hb dJ0_isLatin1_aae02_10 (by decide) (fun q => absurd rfl q) (fun _ => ?_)
  refine lv_iconst (v := 1) hx hb dJ0_isLatin1_aae02_13 (by decide) ?_
  refine lv_goto (tgt := 18) hx hb dJ0_isLatin1_aae02_14 (by decide) ?_
  exact r_xret hx hb hr hlocks hP hS rfl dJ0_isLatin1_aae02_18 h
theorem dJ0_length_8abf5_0 : decode cJ0_length_8abf5 0 = .ok (.aload_n 0, 1) := by decide +kernel
theorem dJ0_length_8abf5_1 : decode cJ0_length_8abf5 1 = .ok (.getfield 9, 3) := by decide +kernel
theorem dJ0_length_8abf5_4 : decode cJ0_length_8abf5 4 = .ok (.arraylength, 1) := by decide +kernel
theorem dJ0_length_8abf5_5 : decode cJ0_length_8abf5 5 = .ok (.aload_n 0, 1) := by decide +kernel
theorem dJ0_length_8abf5_6 : decode cJ0_length_8abf5 6 = .ok (.invokevirtual 335, 3) := by decide +kernel
theorem dJ0_length_8abf5_9 : decode cJ0_length_8abf5 9 = .ok (.ishr, 1) := by decide +kernel
theorem dJ0_length_8abf5_10 : decode cJ0_length_8abf5 10 = .ok (.ireturn, 1) := by decide +kernel
abbrev RM_J0_length_8abf5 : Room := { frames := 2, cells := 0, slots := 0, locals := 100 }
def cw_J0_length_8abf5 : Cond := Cond.code yJ0_length_8abf5 cJ0_length_8abf5 1 (Option.some FieldType.int)
theorem hd_J0_length_8abf5 : yJ0_length_8abf5.cls ≠ "java/lang/invoke/MethodHandle" ∧ yJ0_length_8abf5.cls ≠ "java/lang/invoke/VarHandle" ∧ (parseMethodDescriptor yJ0_length_8abf5.desc).map (fun d => d.parameters.length) = some 0 := by decide +kernel
set_option maxHeartbeats 4000000 in
set_option maxRecDepth 100000 in
theorem c_J0_length_8abf5 (l : Launch) (D : va_G) (G : Gt) (S : Sh) (M : Mm) (k : Nat) (hk : k < txN) (post : Int → Mm → Prop) (h : post (txL.getD k 0) M) : Met l yJ0_length_8abf5 (cw_J0_length_8abf5 :: gw) RM_J0_length_8abf5 (PC D G S M [.ref (gK G k)]) (QI D G S post) 0 0 (aG G) := by
  refine Met.ofW (cc := cJ0_length_8abf5) (maxL := 1) (ret := (some .int)) (by decide) rfl ?_
  intro p e s m args below meth c s₁ B hml hv
  obtain ⟨rfl, hK, hP⟩ := hv
  have hx := B.exec
  have hb := B.bytes
  have hr := B.returns
  have hts := atoms_spec (ws := cw_J0_length_8abf5 :: gw) B.pre
  have hown : s.vm.findClass RJ0 = some m.cls := findClass_of_methodNamed B.named
  have hlocks := B.notSynchronized
  have hS : va_S (aG G) s.heap s.heap [] := va_S.rf
  have hl := lv_entry ([.ref (gK G k)]) (n := 1) (Nat.le_of_ble_eq_true rfl)
  rw [lg_entry_eq]
  generalize (lg_sl ([.ref (gK G k)]) ++ List.replicate (1 - (lg_sl ([.ref (gK G k)])).length) Slot.unset).toArray = ls at hl ⊢
  have hl : lv_has ls 1 [(0, .ref (gK G k))] := hl
  refine lv_aload_n hx hb dJ0_length_8abf5_0 rfl (lv_at hl 0 rfl) ?_
  refine vk_getf hx hb (hK.2.2.2.1.1 k hk).2.2.1 hS hown (hts _ (List.mem_cons_of_mem _ kw_1969)) (fun _ h9 => h9) dJ0_length_8abf5_1 ?_
  refine va_tlen hx hb (hK.2.2.2.1.1 k hk).2.2.2 hS rfl dJ0_length_8abf5_4 ?_
  refine lv_aload_n hx hb dJ0_length_8abf5_5 rfl (lv_at hl 0 rfl) ?_
  refine q_Ti hx hb hml hown hts hK hP hS hk (c_J0_coder_7d493 l D G S _ k hk (fun r M1 => r = 0 ∧ post (txL.getD k 0) M1) ⟨rfl, h⟩) ⟨callB_of 0 hts (gw_good kw_609) rfl rfl rfl (hts _ (List.mem_cons_of_mem _ kw_15)) (hts _ (List.mem_cons_of_mem _ kw_606)) hd_J0_coder_7d493 ⟨Nat.le_of_ble_eq_true rfl, Nat.le_of_ble_eq_true rfl⟩, (hts _ (List.mem_cons_of_mem _ kw_607)), (hts _ (List.mem_cons_of_mem _ kw_608))⟩ rfl hl.1 rfl (lv_room (Nat.le_of_ble_eq_true rfl)) dJ0_length_8abf5_6 ⟨Nat.zero_le _, Nat.zero_le _⟩ (fun z M H locs h hP hS => ?_)
  obtain ⟨h0, h⟩ := h
  have hz : z = 0 := Int32.toInt_inj.mp h0
  subst hz
  refine lv_ishr hx hb dJ0_length_8abf5_9 ?_
  refine r_iret hx hb hr hlocks hP hS dJ0_length_8abf5_10 ?_
  have hlt := (tx_len k hk).2
  have e : (Int32.ofNat (txL.getD k 0) >>> (0 &&& 31)).toInt = ((txL.getD k 0 : Nat) : Int) := by
    have e1 : ((0 : Int32) &&& 31) = 0 := by decide
    rw [e1, Int32.shiftRight_zero]
    exact Int32.toInt_ofNat_of_lt (by omega)
  rw [e]
  exact h
theorem dJ3_checkIndex_8e157_0 : decode cJ3_checkIndex_8e157 0 = .ok (.iload_n 0, 1) := by decide +kernel
theorem dJ3_checkIndex_8e157_1 : decode cJ3_checkIndex_8e157 1 = .ok (.ifCond .lt 8, 3) := by decide +kernel
theorem dJ3_checkIndex_8e157_4 : decode cJ3_checkIndex_8e157 4 = .ok (.iload_n 0, 1) := by decide +kernel
theorem dJ3_checkIndex_8e157_5 : decode cJ3_checkIndex_8e157 5 = .ok (.iload_n 1, 1) := by decide +kernel
theorem dJ3_checkIndex_8e157_6 : decode cJ3_checkIndex_8e157 6 = .ok (.if_icmp .lt 10, 3) := by decide +kernel
theorem dJ3_checkIndex_8e157_16 : decode cJ3_checkIndex_8e157 16 = .ok (.iload_n 0, 1) := by decide +kernel
theorem dJ3_checkIndex_8e157_17 : decode cJ3_checkIndex_8e157 17 = .ok (.ireturn, 1) := by decide +kernel
abbrev RM_J3_checkIndex_8e157 : Room := { frames := 1, cells := 0, slots := 0, locals := 40 }
def cw_J3_checkIndex_8e157 : Cond := Cond.code yJ3_checkIndex_8e157 cJ3_checkIndex_8e157 3 (Option.some FieldType.int)
theorem hd_J3_checkIndex_8e157 : yJ3_checkIndex_8e157.cls ≠ "java/lang/invoke/MethodHandle" ∧ yJ3_checkIndex_8e157.cls ≠ "java/lang/invoke/VarHandle" ∧ (parseMethodDescriptor yJ3_checkIndex_8e157.desc).map (fun d => d.parameters.length) = some 3 := by decide +kernel
set_option maxHeartbeats 4000000 in
set_option maxRecDepth 100000 in
theorem c_J3_checkIndex_8e157 (l : Launch) (D : va_G) (G : Gt) (S : Sh) (M : Mm) (z0 z1 : Int32) (f : Nat) (post : Int → Mm → Prop) (h0 : 0 ≤ z0.toInt) (h1 : z0.toInt < z1.toInt) (h : post z0.toInt M) : Met l yJ3_checkIndex_8e157 (cw_J3_checkIndex_8e157 :: gw) RM_J3_checkIndex_8e157 (PC D G S M [.int z0, .int z1, .ref f]) (QI D G S post) 0 0 (aG G) := by
  refine Met.ofW (cc := cJ3_checkIndex_8e157) (maxL := 3) (ret := (some .int)) (by decide) rfl ?_
  intro p e s m args below meth c s₁ B hml hv
  obtain ⟨rfl, hK, hP⟩ := hv
  have hx := B.exec
  have hb := B.bytes
  have hr := B.returns
  have hts := atoms_spec (ws := cw_J3_checkIndex_8e157 :: gw) B.pre
  have hown : s.vm.findClass RJ3 = some m.cls := findClass_of_methodNamed B.named
  have hlocks := B.notSynchronized
  have hS : va_S (aG G) s.heap s.heap [] := va_S.rf
  have hl := lv_entry ([.int z0, .int z1, .ref f]) (n := 3) (Nat.le_of_ble_eq_true rfl)
  rw [lg_entry_eq]
  generalize (lg_sl ([.int z0, .int z1, .ref f]) ++ List.replicate (3 - (lg_sl ([.int z0, .int z1, .ref f])).length) Slot.unset).toArray = ls at hl ⊢
  have hl : lv_has ls 3 [(0, .int z0), (1, .int z1), (2, .ref f)] := hl
  refine lv_iload_n hx hb dJ3_checkIndex_8e157_0 rfl (lv_at hl 0 rfl) ?_
  refine lv_if_lt (tgt := 9) hx hb dJ3_checkIndex_8e157_1 (by decide) (fun q => absurd (Int32.lt_iff_toInt_lt.mp q) (by rw [Int32.toInt_zero]; omega)) (fun _ => ?_)
  refine lv_iload_n hx hb dJ3_checkIndex_8e157_4 rfl (lv_at hl 0 rfl) ?_
  refine lv_iload_n hx hb dJ3_checkIndex_8e157_5 rfl (lv_at hl 1 rfl) ?_
  refine lv_icmp_lt (tgt := 16) hx hb dJ3_checkIndex_8e157_6 (by decide) (fun _ => ?_) (fun q => absurd (Int32.lt_iff_toInt_lt.mpr h1) q)
  refine lv_iload_n hx hb dJ3_checkIndex_8e157_16 rfl (lv_at hl 0 rfl) ?_
  exact r_iret hx hb hr hlocks hP hS dJ3_checkIndex_8e157_17 h
set_option maxHeartbeats 4000000 in
set_option maxRecDepth 100000 in
theorem cN_J3_checkIndex_8e157 (l : Launch) (D : va_G) (G : Gt) (S : Sh) (M : Mm) (z0 z1 : Int32) (post : Int → Mm → Prop) (h0 : 0 ≤ z0.toInt) (h1 : z0.toInt < z1.toInt) (h : post z0.toInt M) : Met l yJ3_checkIndex_8e157 (cw_J3_checkIndex_8e157 :: gw) RM_J3_checkIndex_8e157 (PC D G S M [.int z0, .int z1, .null]) (QI D G S post) 0 0 (aG G) := by
  refine Met.ofW (cc := cJ3_checkIndex_8e157) (maxL := 3) (ret := (some .int)) (by decide) rfl ?_
  intro p e s m args below meth c s₁ B hml hv
  obtain ⟨rfl, hK, hP⟩ := hv
  have hx := B.exec
  have hb := B.bytes
  have hr := B.returns
  have hts := atoms_spec (ws := cw_J3_checkIndex_8e157 :: gw) B.pre
  have hown : s.vm.findClass RJ3 = some m.cls := findClass_of_methodNamed B.named
  have hlocks := B.notSynchronized
  have hS : va_S (aG G) s.heap s.heap [] := va_S.rf
  have hl := lv_entry ([.int z0, .int z1, .null]) (n := 3) (Nat.le_of_ble_eq_true rfl)
  rw [lg_entry_eq]
  generalize (lg_sl ([.int z0, .int z1, .null]) ++ List.replicate (3 - (lg_sl ([.int z0, .int z1, .null])).length) Slot.unset).toArray = ls at hl ⊢
  have hl : lv_has ls 3 [(0, .int z0), (1, .int z1), (2, .null)] := hl
  refine lv_iload_n hx hb dJ3_checkIndex_8e157_0 rfl (lv_at hl 0 rfl) ?_
  refine lv_if_lt (tgt := 9) hx hb dJ3_checkIndex_8e157_1 (by decide) (fun q => absurd (Int32.lt_iff_toInt_lt.mp q) (by rw [Int32.toInt_zero]; omega)) (fun _ => ?_)
  refine lv_iload_n hx hb dJ3_checkIndex_8e157_4 rfl (lv_at hl 0 rfl) ?_
  refine lv_iload_n hx hb dJ3_checkIndex_8e157_5 rfl (lv_at hl 1 rfl) ?_
  refine lv_icmp_lt (tgt := 16) hx hb dJ3_checkIndex_8e157_6 (by decide) (fun _ => ?_) (fun q => absurd (Int32.lt_iff_toInt_lt.mpr h1) q)
  refine lv_iload_n hx hb dJ3_checkIndex_8e157_16 rfl (lv_at hl 0 rfl) ?_
  exact r_iret hx hb hr hlocks hP hS dJ3_checkIndex_8e157_17 h
theorem dJ0_checkIndex_df160_0 : decode cJ0_checkIndex_df160 0 = .ok (.iload_n 0, 1) := by decide +kernel
theorem dJ0_checkIndex_df160_1 : decode cJ0_checkIndex_df160 1 = .ok (.iload_n 1, 1) := by decide +kernel
theorem dJ0_checkIndex_df160_2 : decode cJ0_checkIndex_df160 2 = .ok (.getstatic 1053, 3) := by decide +kernel
theorem dJ0_checkIndex_df160_5 : decode cJ0_checkIndex_df160 5 = .ok (.invokestatic 1059, 3) := by decide +kernel
theorem dJ0_checkIndex_df160_8 : decode cJ0_checkIndex_df160 8 = .ok (.pop, 1) := by decide +kernel
theorem dJ0_checkIndex_df160_9 : decode cJ0_checkIndex_df160 9 = .ok (.return_, 1) := by decide +kernel
abbrev RM_J0_checkIndex_df160 : Room := { frames := 2, cells := 0, slots := 0, locals := 100 }
def cw_J0_checkIndex_df160 : Cond := Cond.code yJ0_checkIndex_df160 cJ0_checkIndex_df160 2 (Option.none : Option FieldType)
theorem hd_J0_checkIndex_df160 : yJ0_checkIndex_df160.cls ≠ "java/lang/invoke/MethodHandle" ∧ yJ0_checkIndex_df160.cls ≠ "java/lang/invoke/VarHandle" ∧ (parseMethodDescriptor yJ0_checkIndex_df160.desc).map (fun d => d.parameters.length) = some 2 := by decide +kernel
set_option maxHeartbeats 4000000 in
set_option maxRecDepth 100000 in
theorem c_J0_checkIndex_df160 (l : Launch) (D : va_G) (G : Gt) (S : Sh) (M : Mm) (z0 z1 : Int32) (post : Mm → Prop) (h0 : 0 ≤ z0.toInt) (h1 : z0.toInt < z1.toInt) (h : post M) : Met l yJ0_checkIndex_df160 (cw_J0_checkIndex_df160 :: gw) RM_J0_checkIndex_df160 (PC D G S M [.int z0, .int z1]) (QV D G S post) 0 0 (aG G) := by
  refine Met.ofW (cc := cJ0_checkIndex_df160) (maxL := 2) (ret := none) (by decide) rfl ?_
  intro p e s m args below meth c s₁ B hml hv
  obtain ⟨rfl, hK, hP⟩ := hv
  have hx := B.exec
  have hb := B.bytes
  have hr := B.returns
  have hts := atoms_spec (ws := cw_J0_checkIndex_df160 :: gw) B.pre
  have hown : s.vm.findClass RJ0 = some m.cls := findClass_of_methodNamed B.named
  have hlocks := B.notSynchronized
  have hS : va_S (aG G) s.heap s.heap [] := va_S.rf
  have hl := lv_entry ([.int z0, .int z1]) (n := 2) (Nat.le_of_ble_eq_true rfl)
  rw [lg_entry_eq]
  generalize (lg_sl ([.int z0, .int z1]) ++ List.replicate (2 - (lg_sl ([.int z0, .int z1])).length) Slot.unset).toArray = ls at hl ⊢
  have hl : lv_has ls 2 [(0, .int z0), (1, .int z1)] := hl
  refine lv_iload_n hx hb dJ0_checkIndex_df160_0 rfl (lv_at hl 0 rfl) ?_
  refine lv_iload_n hx hb dJ0_checkIndex_df160_1 rfl (lv_at hl 1 rfl) ?_
  rcases hK.2.2.2.2.2.2.2.1 with hZ | ⟨f, hZ⟩
  · refine va_gets hx hb hZ hS hown (hts _ (List.mem_cons_of_mem _ kw_630)) (fun _ h9 => h9) dJ0_checkIndex_df160_2 ?_
    refine q_Si hx hb hml hown hts hK hP hS (cN_J3_checkIndex_8e157 l D G S _ z0 z1 (fun _ M1 => post M1) h0 h1 h) ⟨callB_of 3 hts (gw_good kw_634) rfl rfl rfl (hts _ (List.mem_cons_of_mem _ kw_17)) (hts _ (List.mem_cons_of_mem _ kw_632)) hd_J3_checkIndex_8e157 ⟨Nat.le_of_ble_eq_true rfl, Nat.le_of_ble_eq_true rfl⟩, (hts _ (List.mem_cons_of_mem _ kw_633))⟩ rfl hl.1 rfl (lv_room (Nat.le_of_ble_eq_true rfl)) dJ0_checkIndex_df160_5 ⟨Nat.zero_le _, Nat.zero_le _⟩ (fun z M H locs h hP hS => ?_)
    refine lv_pop hx hb dJ0_checkIndex_df160_8 rfl ?_
    exact r_vret hx hb hr hlocks hP hS dJ0_checkIndex_df160_9 h
  · refine va_gets hx hb hZ hS hown (hts _ (List.mem_cons_of_mem _ kw_630)) (fun _ h9 => h9) dJ0_checkIndex_df160_2 ?_
    refine q_Si hx hb hml hown hts hK hP hS (c_J3_checkIndex_8e157 l D G S _ z0 z1 f (fun _ M1 => post M1) h0 h1 h) ⟨callB_of 3 hts (gw_good kw_634) rfl rfl rfl (hts _ (List.mem_cons_of_mem _ kw_17)) (hts _ (List.mem_cons_of_mem _ kw_632)) hd_J3_checkIndex_8e157 ⟨Nat.le_of_ble_eq_true rfl, Nat.le_of_ble_eq_true rfl⟩, (hts _ (List.mem_cons_of_mem _ kw_633))⟩ rfl hl.1 rfl (lv_room (Nat.le_of_ble_eq_true rfl)) dJ0_checkIndex_df160_5 ⟨Nat.zero_le _, Nat.zero_le _⟩ (fun z M H locs h hP hS => ?_)
    refine lv_pop hx hb dJ0_checkIndex_df160_8 rfl ?_
    exact r_vret hx hb hr hlocks hP hS dJ0_checkIndex_df160_9 h
theorem dJ1_charAt_3b067_0 : decode cJ1_charAt_3b067 0 = .ok (.iload_n 1, 1) := by decide +kernel
theorem dJ1_charAt_3b067_1 : decode cJ1_charAt_3b067 1 = .ok (.aload_n 0, 1) := by decide +kernel
theorem dJ1_charAt_3b067_2 : decode cJ1_charAt_3b067 2 = .ok (.arraylength, 1) := by decide +kernel
theorem dJ1_charAt_3b067_3 : decode cJ1_charAt_3b067 3 = .ok (.invokestatic 9, 3) := by decide +kernel
theorem dJ1_charAt_3b067_6 : decode cJ1_charAt_3b067 6 = .ok (.aload_n 0, 1) := by decide +kernel
theorem dJ1_charAt_3b067_7 : decode cJ1_charAt_3b067 7 = .ok (.iload_n 1, 1) := by decide +kernel
theorem dJ1_charAt_3b067_8 : decode cJ1_charAt_3b067 8 = .ok (.baload, 1) := by decide +kernel
theorem dJ1_charAt_3b067_9 : decode cJ1_charAt_3b067 9 = .ok (.sipush 255, 3) := by decide +kernel
theorem dJ1_charAt_3b067_12 : decode cJ1_charAt_3b067 12 = .ok (.iand, 1) := by decide +kernel
theorem dJ1_charAt_3b067_13 : decode cJ1_charAt_3b067 13 = .ok (.i2c, 1) := by decide +kernel
theorem dJ1_charAt_3b067_14 : decode cJ1_charAt_3b067 14 = .ok (.ireturn, 1) := by decide +kernel
abbrev RM_J1_charAt_3b067 : Room := { frames := 3, cells := 0, slots := 0, locals := 160 }
def cw_J1_charAt_3b067 : Cond := Cond.code yJ1_charAt_3b067 cJ1_charAt_3b067 2 (Option.some FieldType.char)
theorem hd_J1_charAt_3b067 : yJ1_charAt_3b067.cls ≠ "java/lang/invoke/MethodHandle" ∧ yJ1_charAt_3b067.cls ≠ "java/lang/invoke/VarHandle" ∧ (parseMethodDescriptor yJ1_charAt_3b067.desc).map (fun d => d.parameters.length) = some 2 := by decide +kernel
set_option maxHeartbeats 4000000 in
set_option maxRecDepth 100000 in
theorem c_J1_charAt_3b067 (l : Launch) (D : va_G) (G : Gt) (S : Sh) (M : Mm) (k : Nat) (hk : k < txN) (z1 : Int32) (post : Int → Mm → Prop) (h0 : 0 ≤ z1.toInt) (h1 : z1.toInt < txL.getD k 0) (h : post ((txB.getD k []).getD z1.toInt.toNat 0).toInt M) : Met l yJ1_charAt_3b067 (cw_J1_charAt_3b067 :: gw) RM_J1_charAt_3b067 (PC D G S M [.ref (gV G k), .int z1]) (QI D G S post) 0 0 (aG G) := by
  refine Met.ofW (cc := cJ1_charAt_3b067) (maxL := 2) (ret := (some .char)) (by decide) rfl ?_
  intro p e s m args below meth c s₁ B hml hv
  obtain ⟨rfl, hK, hP⟩ := hv
  have hx := B.exec
  have hb := B.bytes
  have hr := B.returns
  have hts := atoms_spec (ws := cw_J1_charAt_3b067 :: gw) B.pre
  have hown : s.vm.findClass RJ1 = some m.cls := findClass_of_methodNamed B.named
  have hlocks := B.notSynchronized
  have hS : va_S (aG G) s.heap s.heap [] := va_S.rf
  have hl := lv_entry ([.ref (gV G k), .int z1]) (n := 2) (Nat.le_of_ble_eq_true rfl)
  rw [lg_entry_eq]
  generalize (lg_sl ([.ref (gV G k), .int z1]) ++ List.replicate (2 - (lg_sl ([.ref (gV G k), .int z1])).length) Slot.unset).toArray = ls at hl ⊢
  have hl : lv_has ls 2 [(0, .ref (gV G k)), (1, .int z1)] := hl
  have hlt := (tx_len k hk).2
  have eL : (Int32.ofNat (txL.getD k 0)).toInt = ((txL.getD k 0 : Nat) : Int) := Int32.toInt_ofNat_of_lt (by omega)
  refine lv_iload_n hx hb dJ1_charAt_3b067_0 rfl (lv_at hl 1 rfl) ?_
  refine lv_aload_n hx hb dJ1_charAt_3b067_1 rfl (lv_at hl 0 rfl) ?_
  refine va_tlen hx hb (hK.2.2.2.1.1 k hk).2.2.2 hS rfl dJ1_charAt_3b067_2 ?_
  refine q_Sv hx hb hml hown hts hK hP hS (c_J0_checkIndex_df160 l D G S _ z1 (Int32.ofNat (txL.getD k 0)) (fun M1 => post ((txB.getD k []).getD z1.toInt.toNat 0).toInt M1) h0 (by rw [eL]; exact h1) h) ⟨callB_of 2 hts (gw_good kw_629) rfl rfl rfl (hts _ (List.mem_cons_of_mem _ kw_15)) (hts _ (List.mem_cons_of_mem _ kw_627)) hd_J0_checkIndex_df160 ⟨Nat.le_of_ble_eq_true rfl, Nat.le_of_ble_eq_true rfl⟩, (hts _ (List.mem_cons_of_mem _ kw_628))⟩ rfl hl.1 rfl (lv_room (Nat.le_of_ble_eq_true rfl)) dJ1_charAt_3b067_3 ⟨Nat.zero_le _, Nat.zero_le _⟩ (fun M H locs h hP hS => ?_)
  refine lv_aload_n hx hb dJ1_charAt_3b067_6 rfl (lv_at hl 0 rfl) ?_
  refine lv_iload_n hx hb dJ1_charAt_3b067_7 rfl (lv_at hl 1 rfl) ?_
  refine va_tb hx hb (hK.2.2.2.1.1 k hk).2.2.2 hS (vp_in_iff.mpr ⟨h0, h1⟩) rfl dJ1_charAt_3b067_8 ?_
  refine lv_sipush (v := 255) hx hb dJ1_charAt_3b067_9 (by decide) ?_
  refine lv_iand hx hb dJ1_charAt_3b067_12 ?_
  obtain ⟨b1, b2⟩ := tx_byte k hk z1.toNatClampNeg (by have : ((z1.toNatClampNeg : Nat) : Int) = z1.toInt := Int.toNat_of_nonneg h0; omega)
  refine lv_i2c (v := (txB.getD k []).getD z1.toNatClampNeg 0) hx hb dJ1_charAt_3b067_13 b1 ?_
  exact r_xret hx hb hr hlocks hP hS b2 dJ1_charAt_3b067_14 h
theorem dJ0_charAt_5068e_0 : decode cJ0_charAt_5068e 0 = .ok (.aload_n 0, 1) := by decide +kernel
theorem dJ0_charAt_5068e_1 : decode cJ0_charAt_5068e 1 = .ok (.invokevirtual 492, 3) := by decide +kernel
theorem dJ0_charAt_5068e_4 : decode cJ0_charAt_5068e 4 = .ok (.ifCond .eq 12, 3) := by decide +kernel
theorem dJ0_charAt_5068e_7 : decode cJ0_charAt_5068e 7 = .ok (.aload_n 0, 1) := by decide +kernel
theorem dJ0_charAt_5068e_8 : decode cJ0_charAt_5068e 8 = .ok (.getfield 9, 3) := by decide +kernel
theorem dJ0_charAt_5068e_11 : decode cJ0_charAt_5068e 11 = .ok (.iload_n 1, 1) := by decide +kernel
theorem dJ0_charAt_5068e_12 : decode cJ0_charAt_5068e 12 = .ok (.invokestatic 495, 3) := by decide +kernel
theorem dJ0_charAt_5068e_15 : decode cJ0_charAt_5068e 15 = .ok (.ireturn, 1) := by decide +kernel
abbrev RM_J0_charAt_5068e : Room := { frames := 4, cells := 0, slots := 0, locals := 220 }
def cw_J0_charAt_5068e : Cond := Cond.code yJ0_charAt_5068e cJ0_charAt_5068e 2 (Option.some FieldType.char)
theorem hd_J0_charAt_5068e : yJ0_charAt_5068e.cls ≠ "java/lang/invoke/MethodHandle" ∧ yJ0_charAt_5068e.cls ≠ "java/lang/invoke/VarHandle" ∧ (parseMethodDescriptor yJ0_charAt_5068e.desc).map (fun d => d.parameters.length) = some 1 := by decide +kernel
set_option maxHeartbeats 4000000 in
set_option maxRecDepth 100000 in
theorem c_J0_charAt_5068e (l : Launch) (D : va_G) (G : Gt) (S : Sh) (M : Mm) (k : Nat) (hk : k < txN) (z1 : Int32) (post : Int → Mm → Prop) (h0 : 0 ≤ z1.toInt) (h1 : z1.toInt < txL.getD k 0) (h : post ((txB.getD k []).getD z1.toInt.toNat 0).toInt M) : Met l yJ0_charAt_5068e (cw_J0_charAt_5068e :: gw) RM_J0_charAt_5068e (PC D G S M [.ref (gK G k), .int z1]) (QI D G S post) 0 0 (aG G) := by
  refine Met.ofW (cc := cJ0_charAt_5068e) (maxL := 2) (ret := (some .char)) (by decide) rfl ?_
  intro p e s m args below meth c s₁ B hml hv
  obtain ⟨rfl, hK, hP⟩ := hv
  have hx := B.exec
  have hb := B.bytes
  have hr := B.returns
  have hts := atoms_spec (ws := cw_J0_charAt_5068e :: gw) B.pre
  have hown : s.vm.findClass RJ0 = some m.cls := findClass_of_methodNamed B.named
  have hlocks := B.notSynchronized
  have hS : va_S (aG G) s.heap s.heap [] := va_S.rf
  have hl := lv_entry ([.ref (gK G k), .int z1]) (n := 2) (Nat.le_of_ble_eq_true rfl)
  rw [lg_entry_eq]
  generalize (lg_sl ([.ref (gK G k), .int z1]) ++ List.replicate (2 - (lg_sl ([.ref (gK G k), .int z1])).length) Slot.unset).toArray = ls at hl ⊢
  have hl : lv_has ls 2 [(0, .ref (gK G k)), (1, .int z1)] := hl
  refine lv_aload_n hx hb dJ0_charAt_5068e_0 rfl (lv_at hl 0 rfl) ?_
  refine q_Ti hx hb hml hown hts hK hP hS hk (c_J0_isLatin1_aae02 l D G S _ k hk (fun r M1 => r = 1 ∧ post ((txB.getD k []).getD z1.toInt.toNat 0).toInt M1) ⟨rfl, h⟩) ⟨callB_of 0 hts (gw_good kw_623) rfl rfl rfl (hts _ (List.mem_cons_of_mem _ kw_15)) (hts _ (List.mem_cons_of_mem _ kw_620)) hd_J0_isLatin1_aae02 ⟨Nat.le_of_ble_eq_true rfl, Nat.le_of_ble_eq_true rfl⟩, (hts _ (List.mem_cons_of_mem _ kw_621)), (hts _ (List.mem_cons_of_mem _ kw_622))⟩ rfl hl.1 rfl (lv_room (Nat.le_of_ble_eq_true rfl)) dJ0_charAt_5068e_1 ⟨Nat.zero_le _, Nat.zero_le _⟩ (fun z M H locs h hP hS => ?_)
  obtain ⟨hz, h⟩ := h
  refine lv_if_eq (tgt := 16) hx hb dJ0_charAt_5068e_4 (by decide) (fun q => absurd hz (by rw [q]; decide)) (fun _ => ?_)
  refine lv_aload_n hx hb dJ0_charAt_5068e_7 rfl (lv_at hl 0 rfl) ?_
  refine vk_getf hx hb (hK.2.2.2.1.1 k hk).2.2.1 hS hown (hts _ (List.mem_cons_of_mem _ kw_1969)) (fun _ h9 => h9) dJ0_charAt_5068e_8 ?_
  refine lv_iload_n hx hb dJ0_charAt_5068e_11 rfl (lv_at hl 1 rfl) ?_
  refine q_Si hx hb hml hown hts hK hP hS (c_J1_charAt_3b067 l D G S _ k hk z1 (fun r M1 => r = ((txB.getD k []).getD z1.toInt.toNat 0).toInt ∧ post r M1) h0 h1 ⟨rfl, h⟩) ⟨callB_of 2 hts (gw_good kw_626) rfl rfl rfl (hts _ (List.mem_cons_of_mem _ kw_16)) (hts _ (List.mem_cons_of_mem _ kw_624)) hd_J1_charAt_3b067 ⟨Nat.le_of_ble_eq_true rfl, Nat.le_of_ble_eq_true rfl⟩, (hts _ (List.mem_cons_of_mem _ kw_625))⟩ rfl hl.1 rfl (lv_room (Nat.le_of_ble_eq_true rfl)) dJ0_charAt_5068e_12 ⟨Nat.zero_le _, Nat.zero_le _⟩ (fun z M H locs h hP hS => ?_)
  obtain ⟨e1, h⟩ := h
  have e2 : z = (txB.getD k []).getD z1.toNatClampNeg 0 := Int32.toInt_inj.mp e1
  obtain ⟨-, b2⟩ := tx_byte k hk z1.toNatClampNeg (by have : ((z1.toNatClampNeg : Nat) : Int) = z1.toInt := Int.toNat_of_nonneg h0; omega)
  exact r_xret hx hb hr hlocks hP hS (by rw [e2]; exact b2) dJ0_charAt_5068e_15 h
