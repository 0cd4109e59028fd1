section
theorem tx_len : ∀ k : Nat, k < txN → (txB.getD k []).length = txL.getD k 0 ∧ txL.getD k 0 < 100 := by decide +kernel
theorem tx_byte : ∀ k : Nat, k < txN → ∀ j : Nat, j < txL.getD k 0 → (((((txB.getD k []).getD j 0) &&& 255).toUInt32 % 65536).toInt32) = (txB.getD k []).getD j 0 ∧ narrow .char (.int ((txB.getD k []).getD j 0)) = .int ((txB.getD k []).getD j 0) := by decide +kernel
theorem dJ0_coder_7d493_0 : decode cJ0_coder_7d493 0 = .ok (.getstatic 38, 3) := by decide +kernel
theorem dJ0_coder_7d493_3 : decode cJ0_coder_7d493 3 = .ok (.ifCond .eq 10, 3) := by decide +kernel
theorem dJ0_coder_7d493_6 : decode cJ0_coder_7d493 6 = .ok (.aload_n 0, 1) := by decide +kernel
theorem dJ0_coder_7d493_7 : decode cJ0_coder_7d493 7 = .ok (.getfield 15, 3) := by decide +kernel
theorem dJ0_coder_7d493_10 : decode cJ0_coder_7d493 10 = .ok (.goto 4, 3) := by decide +kernel
theorem dJ0_coder_7d493_14 : decode cJ0_coder_7d493 14 = .ok (.ireturn, 1) := by decide +kernel
abbrev RM_J0_coder_7d493 : Room := { frames := 1, cells := 0, slots := 0, locals := 40 }
def cw_J0_coder_7d493 : Cond := Cond.code yJ0_coder_7d493 cJ0_coder_7d493 1 (Option.some FieldType.byte)
theorem hd_J0_coder_7d493 : yJ0_coder_7d493.cls ≠ "java/lang/invoke/MethodHandle" ∧ yJ0_coder_7d493.cls ≠ "java/lang/invoke/VarHandle" ∧ (parseMethodDescriptor yJ0_coder_7d493.desc).map (fun d => d.parameters.length) = some 0 := by decide +kernel
set_option maxHeartbeats 4000000 in
set_option maxRecDepth 100000 in
theorem c_J0_coder_7d493 (l : Launch) (D : va_G) (G : Gt) (S : Sh) (M : Mm) (k : Nat) (hk : k < txN) (post : Int → Mm → Prop) (h : post 0 M) : Met l yJ0_coder_7d493 (cw_J0_coder_7d493 :: gw) RM_J0_coder_7d493 (PC D G S M [.ref (gK G k)]) (QI D G S post) 0 0 (aG G) := by
  refine Met.ofW (cc := cJ0_coder_7d493) (maxL := 1) (ret := (some .byte)) (by decide) rfl ?_
  intro p e s m args below meth c s₁ B hml hv
  obtain ⟨rfl, hK, hP⟩ := hv
  have hx := B.exec
  have hb := B.bytes
  have hr := B.returns
  have hts := atoms_spec (ws := cw_J0_coder_7d493 :: gw) B.pre
  have hown : s.vm.findClass RJ0 = some m.cls := findClass_of_methodNamed B.named
  have hlocks := B.notSynchronized
  have hS : va_S (aG G) s.heap s.heap [] := va_S.rf
  have hl := lv_entry ([.ref (gK G k)]) (n := 1) (Nat.le_of_ble_eq_true rfl)
  rw [lg_entry_eq]
  generalize (lg_sl ([.ref (gK G k)]) ++ List.replicate (1 - (lg_sl ([.ref (gK G k)])).length) Slot.unset).toArray = ls at hl ⊢
  have hl : lv_has ls 1 [(0, .ref (gK G k))] := hl
  refine va_gets hx hb hK.2.2.2.2.2.2.1 hS hown (hts _ (List.mem_cons_of_mem _ kw_610)) (fun _ h9 => h9) dJ0_coder_7d493_0 ?_
  refine lv_if_eq (tgt := 13) hx hb dJ0_coder_7d493_3 (by decide) (fun q => absurd q (by decide)) (fun _ => ?_)
  refine lv_aload_n hx hb dJ0_coder_7d493_6 rfl (lv_at hl 0 rfl) ?_
  refine vk_getf hx hb (hK.2.2.2.1.1 k hk).2.1 hS hown (hts _ (List.mem_cons_of_mem _ kw_1970)) (fun _ h9 => h9) dJ0_coder_7d493_7 ?_
  refine lv_goto (tgt := 14) hx hb dJ0_coder_7d493_10 (by decide) ?_
  exact r_xret hx hb hr hlocks hP hS rfl dJ0_coder_7d493_14 h
theorem dJ0_isLatin1_aae02_0 : decode cJ0_isLatin1_aae02 0 = .ok (.getstatic 38, 3) := by decide +kernel
theorem dJ0_isLatin1_aae02_3 : decode cJ0_isLatin1_aae02 3 = .ok (.ifCond .eq 14, 3) := by decide +kernel
theorem dJ0_isLatin1_aae02_6 : decode cJ0_isLatin1_aae02 6 = .ok (.aload_n 0, 1) := by decide +kernel
theorem dJ0_isLatin1_aae02_7 : decode cJ0_isLatin1_aae02 7 = .ok (.getfield 15, 3) := by decide +kernel
theorem dJ0_isLatin1_aae02_10 : decode cJ0_isLatin1_aae02 10 = .ok (.ifCond .ne 7, 3) := by decide +kernel
theorem dJ0_isLatin1_aae02_13 : decode cJ0_isLatin1_aae02 13 = .ok (.iconst 1, 1) := by decide +kernel
theorem dJ0_isLatin1_aae02_14 : decode cJ0_isLatin1_aae02 14 = .ok (.goto 4, 3) := by decide +kernel
theorem dJ0_isLatin1_aae02_18 : decode cJ0_isLatin1_aae02 18 = .ok (.ireturn, 1) := by decide +kernel
abbrev RM_J0_isLatin1_aae02 : Room := { frames := 1, cells := 0, slots := 0, locals := 40 }
def cw_J0_isLatin1_aae02 : Cond := Cond.code yJ0_isLatin1_aae02 cJ0_isLatin1_aae02 1 (Option.some FieldType.boolean)
theorem hd_J0_isLatin1_aae02 : yJ0_isLatin1_aae02.cls ≠ "java/lang/invoke/MethodHandle" ∧ yJ0_isLatin1_aae02.cls ≠ "java/lang/invoke/VarHandle" ∧ (parseMethodDescriptor yJ0_isLatin1_aae02.desc).map (fun d => d.parameters.length) = some 0 := by decide +kernel
set_option maxHeartbeats 4000000 in
set_option maxRecDepth 100000 in
theorem c_J0_isLatin1_aae02 (l : Launch) (D : va_G) (G : Gt) (S : Sh) (M : Mm) (k : Nat) (hk : k < txN) (post : Int → Mm → Prop) (h : post 1 M) : Met l yJ0_isLatin1_aae02 (cw_J0_isLatin1_aae02 :: gw) RM_J0_isLatin1_aae02 (PC D G S M [.ref (gK G k)]) (QI D G S post) 0 0 (aG G) := by
  refine Met.ofW (cc := cJ0_isLatin1_aae02) (maxL := 1) (ret := (some .boolean)) (by decide) rfl ?_
  intro p e s m args below meth c s₁ B hml hv
  obtain ⟨rfl, hK, hP⟩ := hv
  have hx := B.exec
  have hb := B.bytes
  have hr := B.returns
  have hts := atoms_spec (ws := cw_J0_isLatin1_aae02 :: gw) B.pre
  have hown : s.vm.findClass RJ0 = some m.cls := findClass_of_methodNamed B.named
  have hlocks := B.notSynchronized
  have hS : va_S (aG G) s.heap s.heap [] := va_S.rf
  have hl := lv_entry ([.ref (gK G k)]) (n := 1) (Nat.le_of_ble_eq_true rfl)
  rw [lg_entry_eq]
  generalize (lg_sl ([.ref (gK G k)]) ++ List.replicate (1 - (lg_sl ([.ref (gK G k)])).length) Slot.unset).toArray = ls at hl ⊢
  have hl : lv_has ls 1 [(0, .ref (gK G k))] := hl
  refine va_gets hx hb hK.2.2.2.2.2.2.1 hS hown (hts _ (List.mem_cons_of_mem _ kw_610)) (fun _ h9 => h9) dJ0_isLatin1_aae02_0 ?_
  refine lv_if_eq (tgt := 17) hx hb dJ0_isLatin1_aae02_3 (by decide) (fun q => absurd q (by decide)) (fun _ => ?_)
  refine lv_aload_n hx hb dJ0_isLatin1_aae02_6 rfl (lv_at hl 0 rfl) ?_
  refine vk_getf hx hb (hK.2.2.2.1.1 k hk).2.1 hS hown (hts _ (List.mem_cons_of_mem _ kw_1970)) (fun _ h9 => h9) dJ0_isLatin1_aae02_7 ?_
  refine lv_if_ne (tgt := 17) hx hb dJ0_isLatin1_aae02_10 (by decide) (fun q => absurd rfl q) (fun _ => ?_)
  refine lv_iconst (v := 1) hx hb dJ0_isLatin1_aae02_13 (by decide) ?_
  refine lv_goto (tgt := 18) hx hb dJ0_isLatin1_aae02_14 (by decide) ?_
  exact r_xret hx hb hr hlocks hP hS rfl dJ0_isLatin1_aae02_18 h
theorem dJ0_length_8abf5_0 : decode cJ0_length_8abf5 0 = .ok (.aload_n 0, 1) := by decide +kernel
theorem dJ0_length_8abf5_1 : decode cJ0_length_8abf5 1 = .ok (.getfield 9, 3) := by decide +kernel
theorem dJ0_length_8abf5_4 : decode cJ0_length_8abf5 4 = .ok (.arraylength, 1) := by decide +kernel
theorem dJ0_length_8abf5_5 : decode cJ0_length_8abf5 5 = .ok (.aload_n 0, 1) := by decide +kernel
theorem dJ0_length_8abf5_6 : decode cJ0_length_8abf5 6 = .ok (.invokevirtual 335, 3) := by decide +kernel
theorem dJ0_length_8abf5_9 : decode cJ0_length_8abf5 9 = .ok (.ishr, 1) := by decide +kernel
theorem dJ0_length_8abf5_10 : decode cJ0_length_8abf5 10 = .ok (.ireturn, 1) := by decide +kernel
abbrev RM_J0_length_8abf5 : Room := { frames := 2, cells := 0, slots := 0, locals := 100 }
def cw_J0_length_8abf5 : Cond := Cond.code yJ0_length_8abf5 cJ0_length_8abf5 1 (Option.some FieldType.int)
theorem hd_J0_length_8abf5 : yJ0_length_8abf5.cls ≠ "java/lang/invoke/MethodHandle" ∧ yJ0_length_8abf5.cls ≠ "java/lang/invoke/VarHandle" ∧ (parseMethodDescriptor yJ0_length_8abf5.desc).map (fun d => d.parameters.length) = some 0 := by decide +kernel
set_option maxHeartbeats 4000000 in
set_option maxRecDepth 100000 in
theorem c_J0_length_8abf5 (l : Launch) (D : va_G) (G : Gt) (S : Sh) (M : Mm) (k : Nat) (hk : k < txN) (post : Int → Mm → Prop) (h : post (txL.getD k 0) M) : Met l yJ0_length_8abf5 (cw_J0_length_8abf5 :: gw) RM_J0_length_8abf5 (PC D G S M [.ref (gK G k)]) (QI D G S post) 0 0 (aG G) := by
  refine Met.ofW (cc := cJ0_length_8abf5) (maxL := 1) (ret := (some .int)) (by decide) rfl ?_
  intro p e s m args below meth c s₁ B hml hv
  obtain ⟨rfl, hK, hP⟩ := hv
  have hx := B.exec
  have hb := B.bytes
  have hr := B.returns
  have hts := atoms_spec (ws := cw_J0_length_8abf5 :: gw) B.pre
  have hown : s.vm.findClass RJ0 = some m.cls := findClass_of_methodNamed B.named
  have hlocks := B.notSynchronized
  have hS : va_S (aG G) s.heap s.heap [] := va_S.rf
  have hl := lv_entry ([.ref (gK G k)]) (n := 1) (Nat.le_of_ble_eq_true rfl)
  rw [lg_entry_eq]
  generalize (lg_sl ([.ref (gK G k)]) ++ List.replicate (1 - (lg_sl ([.ref (gK G k)])).length) Slot.unset).toArray = ls at hl ⊢
  have hl : lv_has ls 1 [(0, .ref (gK G k))] := hl
  refine lv_aload_n hx hb dJ0_length_8abf5_0 rfl (lv_at hl 0 rfl) ?_
  refine vk_getf hx hb (hK.2.2.2.1.1 k hk).2.2.1 hS hown (hts _ (List.mem_cons_of_mem _ kw_1969)) (fun _ h9 => h9) dJ0_length_8abf5_1 ?_
  refine va_tlen hx hb (hK.2.2.2.1.1 k hk).2.2.2 hS rfl dJ0_length_8abf5_4 ?_
  refine lv_aload_n hx hb dJ0_length_8abf5_5 rfl (lv_at hl 0 rfl) ?_
  refine q_Ti hx hb hml hown hts hK hP hS hk (c_J0_coder_7d493 l D G S _ k hk (fun r M1 => r = 0 ∧ post (txL.getD k 0) M1) ⟨rfl, h⟩) ⟨callB_of 0 hts (gw_good kw_609) rfl rfl rfl (hts _ (List.mem_cons_of_mem _ kw_15)) (hts _ (List.mem_cons_of_mem _ kw_606)) hd_J0_coder_7d493 ⟨Nat.le_of_ble_eq_true rfl, Nat.le_of_ble_eq_true rfl⟩, (hts _ (List.mem_cons_of_mem _ kw_607)), (hts _ (List.mem_cons_of_mem _ kw_608))⟩ rfl hl.1 rfl (lv_room (Nat.le_of_ble_eq_true rfl)) dJ0_length_8abf5_6 ⟨Nat.zero_le _, Nat.zero_le _⟩ (fun z M H locs h hP hS => ?_)
  obtain ⟨h0, h⟩ := h
  have hz : z = 0 := Int32.toInt_inj.mp h0
  subst hz
  refine lv_ishr hx hb dJ0_length_8abf5_9 ?_
  refine r_iret hx hb hr hlocks hP hS dJ0_length_8abf5_10 ?_
  have hlt := (tx_len k hk).2
  have e : (Int32.ofNat (txL.getD k 0) >>> (0 &&& 31)).toInt = ((txL.getD k 0 : Nat) : Int) := by
    have e1 : ((0 : Int32) &&& 31) = 0 := by decide
    rw [e1, Int32.shiftRight_zero]
    exact Int32.toInt_ofNat_of_lt (by omega)
  rw [e]
  exact h
theorem dJ3_checkIndex_8e157_0 : decode cJ3_checkIndex_8e157 0 = .ok (.iload_n 0, 1) := by decide +kernel
theorem dJ3_checkIndex_8e157_1 : decode cJ3_checkIndex_8e157 1 = .ok (.ifCond .lt 8, 3) := by decide +kernel
theorem dJ3_checkIndex_8e157_4 : decode cJ3_checkIndex_8e157 4 = .ok (.iload_n 0, 1) := by decide +kernel
theorem dJ3_checkIndex_8e157_5 : decode cJ3_checkIndex_8e157 5 = .ok (.iload_n 1, 1) := by decide +kernel
theorem dJ3_checkIndex_8e157_6 : decode cJ3_checkIndex_8e157 6 = .ok (.if_icmp .lt 10, 3) := by decide +kernel
theorem dJ3_checkIndex_8e157_16 : decode cJ3_checkIndex_8e157 16 = .ok (.iload_n 0, 1) := by decide +kernel
theorem dJ3_checkIndex_8e157_17 : decode cJ3_checkIndex_8e157 17 = .ok (.ireturn, 1) := by decide +kernel
abbrev RM_J3_checkIndex_8e157 : Room := { frames := 1, cells := 0, slots := 0, locals := 40 }
def cw_J3_checkIndex_8e157 : Cond := Cond.code yJ3_checkIndex_8e157 cJ3_checkIndex_8e157 3 (Option.some FieldType.int)
theorem hd_J3_checkIndex_8e157 : yJ3_checkIndex_8e157.cls ≠ "java/lang/invoke/MethodHandle" ∧ yJ3_checkIndex_8e157.cls ≠ "java/lang/invoke/VarHandle" ∧ (parseMethodDescriptor yJ3_checkIndex_8e157.desc).map (fun d => d.parameters.length) = some 3 := by decide +kernel
set_option maxHeartbeats 4000000 in
set_option maxRecDepth 100000 in
theorem c_J3_checkIndex_8e157 (l : Launch) (D : va_G) (G : Gt) (S : Sh) (M : Mm) (z0 z1 : Int32) (f : Nat) (post : Int → Mm → Prop) (h0 : 0 ≤ z0.toInt) (h1 : z0.toInt < z1.toInt) (h : post z0.toInt M) : Met l yJ3_checkIndex_8e157 (cw_J3_checkIndex_8e157 :: gw) RM_J3_checkIndex_8e157 (PC D G S M [.int z0, .int z1, .ref f]) (QI D G S post) 0 0 (aG G) := by
  refine Met.ofW (cc := cJ3_checkIndex_8e157) (maxL := 3) (ret := (some .int)) (by decide) rfl ?_
  intro p e s m args below meth c s₁ B hml hv
  obtain ⟨rfl, hK, hP⟩ := hv
  have hx := B.exec
  have hb := B.bytes
  have hr := B.returns
  have hts := atoms_spec (ws := cw_J3_checkIndex_8e157 :: gw) B.pre
  have hown : s.vm.findClass RJ3 = some m.cls := findClass_of_methodNamed B.named
  have hlocks := B.notSynchronized
  have hS : va_S (aG G) s.heap s.heap [] := va_S.rf
  have hl := lv_entry ([.int z0, .int z1, .ref f]) (n := 3) (Nat.le_of_ble_eq_true rfl)
  rw [lg_entry_eq]
  generalize (lg_sl ([.int z0, .int z1, .ref f]) ++ List.replicate (3 - (lg_sl ([.int z0, .int z1, .ref f])).length) Slot.unset).toArray = ls at hl ⊢
  have hl : lv_has ls 3 [(0, .int z0), (1, .int z1), (2, .ref f)] := hl
  refine lv_iload_n hx hb dJ3_checkIndex_8e157_0 rfl (lv_at hl 0 rfl) ?_
  refine lv_if_lt (tgt := 9) hx hb dJ3_checkIndex_8e157_1 (by decide) (fun q => absurd (Int32.lt_iff_toInt_lt.mp q) (by rw [Int32.toInt_zero]; omega)) (fun _ => ?_)
  refine lv_iload_n hx hb dJ3_checkIndex_8e157_4 rfl (lv_at hl 0 rfl) ?_
  refine lv_iload_n hx hb dJ3_checkIndex_8e157_5 rfl (lv_at hl 1 rfl) ?_
  refine lv_icmp_lt (tgt := 16) hx hb dJ3_checkIndex_8e157_6 (by decide) (fun _ => ?_) (fun q => absurd (Int32.lt_iff_toInt_lt.mpr h1) q)
  refine lv_iload_n hx hb dJ3_checkIndex_8e157_16 rfl (lv_at hl 0 rfl) ?_
  exact r_iret hx hb hr hlocks hP hS dJ3_checkIndex_8e157_17 h
set_option maxHeartbeats 4000000 in
set_option maxRecDepth 100000 in
theorem cN_J3_checkIndex_8e157 (l : Launch) (D : va_G) (G : Gt) (S : Sh) (M : Mm) (z0 z1 : Int32) (post : Int → Mm → Prop) (h0 : 0 ≤ z0.toInt) (h1 : z0.toInt < z1.toInt) (h : post z0.toInt M) : Met l yJ3_checkIndex_8e157 (cw_J3_checkIndex_8e157 :: gw) RM_J3_checkIndex_8e157 (PC D G S M [.int z0, .int z1, .null]) (QI D G S post) 0 0 (aG G) := by
  refine Met.ofW (cc := cJ3_checkIndex_8e157) (maxL := 3) (ret := (some .int)) (by decide) rfl ?_
  intro p e s m args below meth c s₁ B hml hv
  obtain ⟨rfl, hK, hP⟩ := hv
  have hx := B.exec
  have hb := B.bytes
  have hr := B.returns
  have hts := atoms_spec (ws := cw_J3_checkIndex_8e157 :: gw) B.pre
  have hown : s.vm.findClass RJ3 = some m.cls := findClass_of_methodNamed B.named
  have hlocks := B.notSynchronized
  have hS : va_S (aG G) s.heap s.heap [] := va_S.rf
  have hl := lv_entry ([.int z0, .int z1, .null]) (n := 3) (Nat.le_of_ble_eq_true rfl)
  rw [lg_entry_eq]
  generalize (lg_sl ([.int z0, .int z1, .null]) ++ List.replicate (3 - (lg_sl ([.int z0, .int z1, .null])).length) Slot.unset).toArray = ls at hl ⊢
  have hl : lv_has ls 3 [(0, .int z0), (1, .int z1), (2, .null)] := hl
  refine lv_iload_n hx hb dJ3_checkIndex_8e157_0 rfl (lv_at hl 0 rfl) ?_
  refine lv_if_lt (tgt := 9) hx hb dJ3_checkIndex_8e157_1 (by decide) (fun q => absurd (Int32.lt_iff_toInt_lt.mp q) (by rw [Int32.toInt_zero]; omega)) (fun _ => ?_)
  refine lv_iload_n hx hb dJ3_checkIndex_8e157_4 rfl (lv_at hl 0 rfl) ?_
  refine lv_iload_n hx hb dJ3_checkIndex_8e157_5 rfl (lv_at hl 1 rfl) ?_
  refine lv_icmp_lt (tgt := 16) hx hb dJ3_checkIndex_8e157_6 (by decide) (fun _ => ?_) (fun q => absurd (Int32.lt_iff_toInt_lt.mpr h1) q)
  refine lv_iload_n hx hb dJ3_checkIndex_8e157_16 rfl (lv_at hl 0 rfl) ?_
  exact r_iret hx hb hr hlocks hP hS dJ3_checkIndex_8e157_17 h
theorem dJ0_checkIndex_df160_0 : decode cJ0_checkIndex_df160 0 = .ok (.iload_n 0, 1) := by decide +kernel
theorem dJ0_checkIndex_df160_1 : decode cJ0_checkIndex_df160 1 = .ok (.iload_n 1, 1) := by decide +kernel
theorem dJ0_checkIndex_df160_2 : decode cJ0_checkIndex_df160 2 = .ok (.getstatic 1053, 3) := by decide +kernel
theorem dJ0_checkIndex_df160_5 : decode cJ0_checkIndex_df160 5 = .ok (.invokestatic 1059, 3) := by decide +kernel
theorem dJ0_checkIndex_df160_8 : decode cJ0_checkIndex_df160 8 = .ok (.pop, 1) := by decide +kernel
theorem dJ0_checkIndex_df160_9 : decode cJ0_checkIndex_df160 9 = .ok (.return_, 1) := by decide +kernel
abbrev RM_J0_checkIndex_df160 : Room := { frames := 2, cells := 0, slots := 0, locals := 100 }
def cw_J0_checkIndex_df160 : Cond := Cond.code yJ0_checkIndex_df160 cJ0_checkIndex_df160 2 (Option.none : Option FieldType)
theorem hd_J0_checkIndex_df160 : yJ0_checkIndex_df160.cls ≠ "java/lang/invoke/MethodHandle" ∧ yJ0_checkIndex_df160.cls ≠ "java/lang/invoke/VarHandle" ∧ (parseMethodDescriptor yJ0_checkIndex_df160.desc).map (fun d => d.parameters.length) = some 2 := by decide +kernel
set_option maxHeartbeats 4000000 in
set_option maxRecDepth 100000 in
theorem c_J0_checkIndex_df160 (l : Launch) (D : va_G) (G : Gt) (S : Sh) (M : Mm) (z0 z1 : Int32) (post : Mm → Prop) (h0 : 0 ≤ z0.toInt) (h1 : z0.toInt < z1.toInt) (h : post M) : Met l yJ0_checkIndex_df160 (cw_J0_checkIndex_df160 :: gw) RM_J0_checkIndex_df160 (PC D G S M [.int z0, .int z1]) (QV D G S post) 0 0 (aG G) := by
  refine Met.ofW (cc := cJ0_checkIndex_df160) (maxL := 2) (ret := none) (by decide) rfl ?_
  intro p e s m args below meth c s₁ B hml hv
  obtain ⟨rfl, hK, hP⟩ := hv
  have hx := B.exec
  have hb := B.bytes
  have hr := B.returns
  have hts := atoms_spec (ws := cw_J0_checkIndex_df160 :: gw) B.pre
  have hown : s.vm.findClass RJ0 = some m.cls := findClass_of_methodNamed B.named
  have hlocks := B.notSynchronized
  have hS : va_S (aG G) s.heap s.heap [] := va_S.rf
  have hl := lv_entry ([.int z0, .int z1]) (n := 2) (Nat.le_of_ble_eq_true rfl)
  rw [lg_entry_eq]
  generalize (lg_sl ([.int z0, .int z1]) ++ List.replicate (2 - (lg_sl ([.int z0, .int z1])).length) Slot.unset).toArray = ls at hl ⊢
  have hl : lv_has ls 2 [(0, .int z0), (1, .int z1)] := hl
  refine lv_iload_n hx hb dJ0_checkIndex_df160_0 rfl (lv_at hl 0 rfl) ?_
  refine lv_iload_n hx hb dJ0_checkIndex_df160_1 rfl (lv_at hl 1 rfl) ?_
  rcases hK.2.2.2.2.2.2.2.1 with hZ | ⟨f, hZ⟩
  · refine va_gets hx hb hZ hS hown (hts _ (List.mem_cons_of_mem _ kw_630)) (fun _ h9 => h9) dJ0_checkIndex_df160_2 ?_
    refine q_Si hx hb hml hown hts hK hP hS (cN_J3_checkIndex_8e157 l D G S _ z0 z1 (fun _ M1 => post M1) h0 h1 h) ⟨callB_of 3 hts (gw_good kw_634) rfl rfl rfl (hts _ (List.mem_cons_of_mem _ kw_17)) (hts _ (List.mem_cons_of_mem _ kw_632)) hd_J3_checkIndex_8e157 ⟨Nat.le_of_ble_eq_true rfl, Nat.le_of_ble_eq_true rfl⟩, (hts _ (List.mem_cons_of_mem _ kw_633))⟩ rfl hl.1 rfl (lv_room (Nat.le_of_ble_eq_true rfl)) dJ0_checkIndex_df160_5 ⟨Nat.zero_le _, Nat.zero_le _⟩ (fun z M H locs h hP hS => ?_)
    refine lv_pop hx hb dJ0_checkIndex_df160_8 rfl ?_
    exact r_vret hx hb hr hlocks hP hS dJ0_checkIndex_df160_9 h
  · refine va_gets hx hb hZ hS hown (hts _ (List.mem_cons_of_mem _ kw_630)) (fun _ h9 => h9) dJ0_checkIndex_df160_2 ?_
    refine q_Si hx hb hml hown hts hK hP hS (c_J3_checkIndex_8e157 l D G S _ z0 z1 f (fun _ M1 => post M1) h0 h1 h) ⟨callB_of 3 hts (gw_good kw_634) rfl rfl rfl (hts _ (List.mem_cons_of_mem _ kw_17)) (hts _ (List.mem_cons_of_mem _ kw_632)) hd_J3_checkIndex_8e157 ⟨Nat.le_of_ble_eq_true rfl, Nat.le_of_ble_eq_true rfl⟩, (hts _ (List.mem_cons_of_mem _ kw_633))⟩ rfl hl.1 rfl (lv_room (Nat.le_of_ble_eq_true rfl)) dJ0_checkIndex_df160_5 ⟨Nat.zero_le _, Nat.zero_le _⟩ (fun z M H locs h hP hS => ?_)
    refine lv_pop hx hb dJ0_checkIndex_df160_8 rfl ?_
    exact r_vret hx hb hr hlocks hP hS dJ0_checkIndex_df160_9 h
theorem dJ1_charAt_3b067_0 : decode cJ1_charAt_3b067 0 = .ok (.iload_n 1, 1) := by decide +kernel
theorem dJ1_charAt_3b067_1 : decode cJ1_charAt_3b067 1 = .ok (.aload_n 0, 1) := by decide +kernel
theorem dJ1_charAt_3b067_2 : decode cJ1_charAt_3b067 2 = .ok (.arraylength, 1) := by decide +kernel
theorem dJ1_charAt_3b067_3 : decode cJ1_charAt_3b067 3 = .ok (.invokestatic 9, 3) := by decide +kernel
theorem dJ1_charAt_3b067_6 : decode cJ1_charAt_3b067 6 = .ok (.aload_n 0, 1) := by decide +kernel
theorem dJ1_charAt_3b067_7 : decode cJ1_charAt_3b067 7 = .ok (.iload_n 1, 1) := by decide +kernel
theorem dJ1_charAt_3b067_8 : decode cJ1_charAt_3b067 8 = .ok (.baload, 1) := by decide +kernel
theorem dJ1_charAt_3b067_9 : decode cJ1_charAt_3b067 9 = .ok (.sipush 255, 3) := by decide +kernel
theorem dJ1_charAt_3b067_12 : decode cJ1_charAt_3b067 12 = .ok (.iand, 1) := by decide +kernel
theorem dJ1_charAt_3b067_13 : decode cJ1_charAt_3b067 13 = .ok (.i2c, 1) := by decide +kernel
theorem dJ1_charAt_3b067_14 : decode cJ1_charAt_3b067 14 = .ok (.ireturn, 1) := by decide +kernel
abbrev RM_J1_charAt_3b067 : Room := { frames := 3, cells := 0, slots := 0, locals := 160 }
def cw_J1_charAt_3b067 : Cond := Cond.code yJ1_charAt_3b067 cJ1_charAt_3b067 2 (Option.some FieldType.char)
theorem hd_J1_charAt_3b067 : yJ1_charAt_3b067.cls ≠ "java/lang/invoke/MethodHandle" ∧ yJ1_charAt_3b067.cls ≠ "java/lang/invoke/VarHandle" ∧ (parseMethodDescriptor yJ1_charAt_3b067.desc).map (fun d => d.parameters.length) = some 2 := by decide +kernel
set_option maxHeartbeats 4000000 in
set_option maxRecDepth 100000 in
theorem c_J1_charAt_3b067 (l : Launch) (D : va_G) (G : Gt) (S : Sh) (M : Mm) (k : Nat) (hk : k < txN) (z1 : Int32) (post : Int → Mm → Prop) (h0 : 0 ≤ z1.toInt) (h1 : z1.toInt < txL.getD k 0) (h : post ((txB.getD k []).getD z1.toInt.toNat 0).toInt M) : Met l yJ1_charAt_3b067 (cw_J1_charAt_3b067 :: gw) RM_J1_charAt_3b067 (PC D G S M [.ref (gV G k), .int z1]) (QI D G S post) 0 0 (aG G) := by
  refine Met.ofW (cc := cJ1_charAt_3b067) (maxL := 2) (ret := (some .char)) (by decide) rfl ?_
  intro p e s m args below meth c s₁ B hml hv
  obtain ⟨rfl, hK, hP⟩ := hv
  have hx := B.exec
  have hb := B.bytes
  have hr := B.returns
  have hts := atoms_spec (ws := cw_J1_charAt_3b067 :: gw) B.pre
  have hown : s.vm.findClass RJ1 = some m.cls := findClass_of_methodNamed B.named
  have hlocks := B.notSynchronized
  have hS : va_S (aG G) s.heap s.heap [] := va_S.rf
  have hl := lv_entry ([.ref (gV G k), .int z1]) (n := 2) (Nat.le_of_ble_eq_true rfl)
  rw [lg_entry_eq]
  generalize (lg_sl ([.ref (gV G k), .int z1]) ++ List.replicate (2 - (lg_sl ([.ref (gV G k), .int z1])).length) Slot.unset).toArray = ls at hl ⊢
  have hl : lv_has ls 2 [(0, .ref (gV G k)), (1, .int z1)] := hl
  have hlt := (tx_len k hk).2
  have eL : (Int32.ofNat (txL.getD k 0)).toInt = ((txL.getD k 0 : Nat) : Int) := Int32.toInt_ofNat_of_lt (by omega)
  refine lv_iload_n hx hb dJ1_charAt_3b067_0 rfl (lv_at hl 1 rfl) ?_
  refine lv_aload_n hx hb dJ1_charAt_3b067_1 rfl (lv_at hl 0 rfl) ?_
  refine va_tlen hx hb (hK.2.2.2.1.1 k hk).2.2.2 hS rfl dJ1_charAt_3b067_2 ?_
  refine q_Sv hx hb hml hown hts hK hP hS (c_J0_checkIndex_df160 l D G S _ z1 (Int32.ofNat (txL.getD k 0)) (fun M1 => post ((txB.getD k []).getD z1.toInt.toNat 0).toInt M1) h0 (by rw [eL]; exact h1) h) ⟨callB_of 2 hts (gw_good kw_629) rfl rfl rfl (hts _ (List.mem_cons_of_mem _ kw_15)) (hts _ (List.mem_cons_of_mem _ kw_627)) hd_J0_checkIndex_df160 ⟨Nat.le_of_ble_eq_true rfl, Nat.le_of_ble_eq_true rfl⟩, (hts _ (List.mem_cons_of_mem _ kw_628))⟩ rfl hl.1 rfl (lv_room (Nat.le_of_ble_eq_true rfl)) dJ1_charAt_3b067_3 ⟨Nat.zero_le _, Nat.zero_le _⟩ (fun M H locs h hP hS => ?_)
  refine lv_aload_n hx hb dJ1_charAt_3b067_6 rfl (lv_at hl 0 rfl) ?_
  refine lv_iload_n hx hb dJ1_charAt_3b067_7 rfl (lv_at hl 1 rfl) ?_
  refine va_tb hx hb (hK.2.2.2.1.1 k hk).2.2.2 hS (vp_in_iff.mpr ⟨h0, h1⟩) rfl dJ1_charAt_3b067_8 ?_
  refine lv_sipush (v := 255) hx hb dJ1_charAt_3b067_9 (by decide) ?_
  refine lv_iand hx hb dJ1_charAt_3b067_12 ?_
  obtain ⟨b1, b2⟩ := tx_byte k hk z1.toNatClampNeg (by have : ((z1.toNatClampNeg : Nat) : Int) = z1.toInt := Int.toNat_of_nonneg h0; omega)
  refine lv_i2c (v := (txB.getD k []).getD z1.toNatClampNeg 0) hx hb dJ1_charAt_3b067_13 b1 ?_
  exact r_xret hx hb hr hlocks hP hS b2 dJ1_charAt_3b067_14 h
theorem dJ0_charAt_5068e_0 : decode cJ0_charAt_5068e 0 = .ok (.aload_n 0, 1) := by decide +kernel
theorem dJ0_charAt_5068e_1 : decode cJ0_charAt_5068e 1 = .ok (.invokevirtual 492, 3) := by decide +kernel
theorem dJ0_charAt_5068e_4 : decode cJ0_charAt_5068e 4 = .ok (.ifCond .eq 12, 3) := by decide +kernel
theorem dJ0_charAt_5068e_7 : decode cJ0_charAt_5068e 7 = .ok (.aload_n 0, 1) := by decide +kernel
theorem dJ0_charAt_5068e_8 : decode cJ0_charAt_5068e 8 = .ok (.getfield 9, 3) := by decide +kernel
theorem dJ0_charAt_5068e_11 : decode cJ0_charAt_5068e 11 = .ok (.iload_n 1, 1) := by decide +kernel
theorem dJ0_charAt_5068e_12 : decode cJ0_charAt_5068e 12 = .ok (.invokestatic 495, 3) := by decide +kernel
theorem dJ0_charAt_5068e_15 : decode cJ0_charAt_5068e 15 = .ok (.ireturn, 1) := by decide +kernel
abbrev RM_J0_charAt_5068e : Room := { frames := 4, cells := 0, slots := 0, locals := 220 }
def cw_J0_charAt_5068e : Cond := Cond.code yJ0_charAt_5068e cJ0_charAt_5068e 2 (Option.some FieldType.char)
theorem hd_J0_charAt_5068e : yJ0_charAt_5068e.cls ≠ "java/lang/invoke/MethodHandle" ∧ yJ0_charAt_5068e.cls ≠ "java/lang/invoke/VarHandle" ∧ (parseMethodDescriptor yJ0_charAt_5068e.desc).map (fun d => d.parameters.length) = some 1 := by decide +kernel
set_option maxHeartbeats 4000000 in
set_option maxRecDepth 100000 in
theorem c_J0_charAt_5068e (l : Launch) (D : va_G) (G : Gt) (S : Sh) (M : Mm) (k : Nat) (hk : k < txN) (z1 : Int32) (post : Int → Mm → Prop) (h0 : 0 ≤ z1.toInt) (h1 : z1.toInt < txL.getD k 0) (h : post ((txB.getD k []).getD z1.toInt.toNat 0).toInt M) : Met l yJ0_charAt_5068e (cw_J0_charAt_5068e :: gw) RM_J0_charAt_5068e (PC D G S M [.ref (gK G k), .int z1]) (QI D G S post) 0 0 (aG G) := by
  refine Met.ofW (cc := cJ0_charAt_5068e) (maxL := 2) (ret := (some .char)) (by decide) rfl ?_
  intro p e s m args below meth c s₁ B hml hv
  obtain ⟨rfl, hK, hP⟩ := hv
  have hx := B.exec
  have hb := B.bytes
  have hr := B.returns
  have hts := atoms_spec (ws := cw_J0_charAt_5068e :: gw) B.pre
  have hown : s.vm.findClass RJ0 = some m.cls := findClass_of_methodNamed B.named
  have hlocks := B.notSynchronized
  have hS : va_S (aG G) s.heap s.heap [] := va_S.rf
  have hl := lv_entry ([.ref (gK G k), .int z1]) (n := 2) (Nat.le_of_ble_eq_true rfl)
  rw [lg_entry_eq]
  generalize (lg_sl ([.ref (gK G k), .int z1]) ++ List.replicate (2 - (lg_sl ([.ref (gK G k), .int z1])).length) Slot.unset).toArray = ls at hl ⊢
  have hl : lv_has ls 2 [(0, .ref (gK G k)), (1, .int z1)] := hl
  refine lv_aload_n hx hb dJ0_charAt_5068e_0 rfl (lv_at hl 0 rfl) ?_
  refine q_Ti hx hb hml hown hts hK hP hS hk (c_J0_isLatin1_aae02 l D G S _ k hk (fun r M1 => r = 1 ∧ post ((txB.getD k []).getD z1.toInt.toNat 0).toInt M1) ⟨rfl, h⟩) ⟨callB_of 0 hts (gw_good kw_623) rfl rfl rfl (hts _ (List.mem_cons_of_mem _ kw_15)) (hts _ (List.mem_cons_of_mem _ kw_620)) hd_J0_isLatin1_aae02 ⟨Nat.le_of_ble_eq_true rfl, Nat.le_of_ble_eq_true rfl⟩, (hts _ (List.mem_cons_of_mem _ kw_621)), (hts _ (List.mem_cons_of_mem _ kw_622))⟩ rfl hl.1 rfl (lv_room (Nat.le_of_ble_eq_true rfl)) dJ0_charAt_5068e_1 ⟨Nat.zero_le _, Nat.zero_le _⟩ (fun z M H locs h hP hS => ?_)
  obtain ⟨hz, h⟩ := h
  refine lv_if_eq (tgt := 16) hx hb dJ0_charAt_5068e_4 (by decide) (fun q => absurd hz (by rw [q]; decide)) (fun _ => ?_)
  refine lv_aload_n hx hb dJ0_charAt_5068e_7 rfl (lv_at hl 0 rfl) ?_
  refine vk_getf hx hb (hK.2.2.2.1.1 k hk).2.2.1 hS hown (hts _ (List.mem_cons_of_mem _ kw_1969)) (fun _ h9 => h9) dJ0_charAt_5068e_8 ?_
  refine lv_iload_n hx hb dJ0_charAt_5068e_11 rfl (lv_at hl 1 rfl) ?_
  refine q_Si hx hb hml hown hts hK hP hS (c_J1_charAt_3b067 l D G S _ k hk z1 (fun r M1 => r = ((txB.getD k []).getD z1.toInt.toNat 0).toInt ∧ post r M1) h0 h1 ⟨rfl, h⟩) ⟨callB_of 2 hts (gw_good kw_626) rfl rfl rfl (hts _ (List.mem_cons_of_mem _ kw_16)) (hts _ (List.mem_cons_of_mem _ kw_624)) hd_J1_charAt_3b067 ⟨Nat.le_of_ble_eq_true rfl, Nat.le_of_ble_eq_true rfl⟩, (hts _ (List.mem_cons_of_mem _ kw_625))⟩ rfl hl.1 rfl (lv_room (Nat.le_of_ble_eq_true rfl)) dJ0_charAt_5068e_12 ⟨Nat.zero_le _, Nat.zero_le _⟩ (fun z M H locs h hP hS => ?_)
  obtain ⟨e1, h⟩ := h
  have e2 : z = (txB.getD k []).getD z1.toNatClampNeg 0 := Int32.toInt_inj.mp e1
  obtain ⟨-, b2⟩ := tx_byte k hk z1.toNatClampNeg (by have : ((z1.toNatClampNeg : Nat) : Int) = z1.toInt := Int.toNat_of_nonneg h0; omega)
  exact r_xret hx hb hr hlocks hP hS (by rw [e2]; exact b2) dJ0_charAt_5068e_15 h
end
section
/-! java/util/Arrays.fill([II)V -/
abbrev RM_J7_fill_53178 : Room := { frames := 1, cells := 0, slots := 0, locals := 40 }
def cw_J7_fill_53178 : Cond := Cond.code yJ7_fill_53178 cJ7_fill_53178 4 (Option.none : Option FieldType)
theorem hd_J7_fill_53178 : yJ7_fill_53178.cls ≠ "java/lang/invoke/MethodHandle" ∧ yJ7_fill_53178.cls ≠ "java/lang/invoke/VarHandle" ∧ (parseMethodDescriptor yJ7_fill_53178.desc).map (fun d => d.parameters.length) = some 2 := by decide +kernel
theorem dJ7_fill_53178_0 : decode cJ7_fill_53178 0 = .ok (.iconst 0, 1) := by decide +kernel
theorem dJ7_fill_53178_1 : decode cJ7_fill_53178 1 = .ok (.istore_n 2, 1) := by decide +kernel
theorem dJ7_fill_53178_2 : decode cJ7_fill_53178 2 = .ok (.aload_n 0, 1) := by decide +kernel
theorem dJ7_fill_53178_3 : decode cJ7_fill_53178 3 = .ok (.arraylength, 1) := by decide +kernel
theorem dJ7_fill_53178_4 : decode cJ7_fill_53178 4 = .ok (.istore_n 3, 1) := by decide +kernel
theorem dJ7_fill_53178_5 : decode cJ7_fill_53178 5 = .ok (.iload_n 2, 1) := by decide +kernel
theorem dJ7_fill_53178_6 : decode cJ7_fill_53178 6 = .ok (.iload_n 3, 1) := by decide +kernel
theorem dJ7_fill_53178_7 : decode cJ7_fill_53178 7 = .ok (.if_icmp .ge 13, 3) := by decide +kernel
theorem dJ7_fill_53178_10 : decode cJ7_fill_53178 10 = .ok (.aload_n 0, 1) := by decide +kernel
theorem dJ7_fill_53178_11 : decode cJ7_fill_53178 11 = .ok (.iload_n 2, 1) := by decide +kernel
theorem dJ7_fill_53178_12 : decode cJ7_fill_53178 12 = .ok (.iload_n 1, 1) := by decide +kernel
theorem dJ7_fill_53178_13 : decode cJ7_fill_53178 13 = .ok (.iastore, 1) := by decide +kernel
theorem dJ7_fill_53178_14 : decode cJ7_fill_53178 14 = .ok (.iinc 2 1, 3) := by decide +kernel
theorem dJ7_fill_53178_17 : decode cJ7_fill_53178 17 = .ok (.goto (-12), 3) := by decide +kernel
theorem dJ7_fill_53178_20 : decode cJ7_fill_53178 20 = .ok (.return_, 1) := by decide +kernel
def wp_J7_fill_53178_5 (S : Sh) (post : Mm → Prop) : Nat → Int → Int → Int → Int → Mm → Prop
  | 0, _, _, _, _, _ => False
  | n + 1, u0, u1, u2, u3, M => wIf (u3 ≤ u2) (post M) (wSt S M u0 14 u2 u1 fun M1 => wA u2 1 fun v2 => wp_J7_fill_53178_5 S post n u0 u1 v2 u3 M1)
def wp_J7_fill_53178 (S : Sh) (M : Mm) (u0 : Int) (u1 : Int) (post : Mm → Prop) : Prop := wC 0 fun v4 => wLen S u0 14 fun v6 => ∃ n9 : Nat, wp_J7_fill_53178_5 S post n9 u0 u1 v4 v6 M
set_option maxHeartbeats 4000000 in
set_option maxRecDepth 100000 in
theorem t_J7_fill_53178_5 {p : Program} {l : Launch} {e : Env} {s : State} {m : MethodId} {args : Array Value} {below : List Frame} {meth : Method} {c : Code} {D : va_G} {G : Gt} {S : Sh} {post : Mm → Prop} (C : Cx p s m args meth c D G cJ7_fill_53178 4 none (cw_J7_fill_53178 :: gw) RJ7) : ∀ (n : Nat) (xl0 : Int) (zl1 : Int32) (zl2 : Int32) (zl3 : Int32) (M : Mm) (H : Heap) (locs : List Loc) (ls : Array Slot), Wd D G S M H → va_S (aG G) s.heap H locs → lv_has ls 4 [(0, .ref (adr G xl0)), (1, .int zl1), (2, .int zl2), (3, .int zl3)] → wp_J7_fill_53178_5 S post n xl0 zl1.toInt zl2.toInt zl3.toInt  M → W p l e RM_J7_fill_53178 s m args below meth c H locs 0 0 (MQ below (QV D G S post) args s 0 0 (aG G)) (F0 m 5 ls []) := by
  obtain ⟨hx, hb, hr, hlocks, hml, hown, hts, hK⟩ := id C
  intro n
  induction n with
  | zero => intro xl0 zl1 zl2 zl3 M H locs ls hP hS hl h; exact h.elim
  | succ n ih =>
    intro xl0 zl1 zl2 zl3 M H locs ls hP hS hl h
    unfold wp_J7_fill_53178_5 at h
    refine lv_iload_n hx hb dJ7_fill_53178_5 rfl (lv_at hl 2 rfl) ?_
    refine lv_iload_n hx hb dJ7_fill_53178_6 rfl (lv_at hl 3 rfl) ?_
    refine r_icmp_ge (tgt := 20) hx hb dJ7_fill_53178_7 (by decide) h (fun h => ?_) (fun h => ?_)
    · exact r_vret hx hb hr hlocks hP hS dJ7_fill_53178_20 h
    · refine lv_aload_n hx hb dJ7_fill_53178_10 rfl (lv_at hl 0 rfl) ?_
      refine lv_iload_n hx hb dJ7_fill_53178_11 rfl (lv_at hl 2 rfl) ?_
      refine lv_iload_n hx hb dJ7_fill_53178_12 rfl (lv_at hl 1 rfl) ?_
      refine r_iast hx hb hK hP hS dJ7_fill_53178_13 h (fun M1 H locs h hP hS => ?_)
      refine r_iinc hx hb (fun z3 => [(2, .int z3), (0, .ref (adr G xl0)), (1, .int zl1), (3, .int zl3)]) dJ7_fill_53178_14 (by decide) hl (k := 2) rfl (by decide) (fun _ => rfl) h (fun z3 ls hl h => ?_)
      refine lv_goto (tgt := 5) hx hb dJ7_fill_53178_17 (by decide) ?_
      exact ih xl0 zl1 z3 zl3 _ _ _ _ hP hS (lv_sub hl [1, 2, 0, 3] rfl) h
set_option maxHeartbeats 4000000 in
set_option maxRecDepth 100000 in
theorem c_J7_fill_53178 (l : Launch) (D : va_G) (G : Gt) (S : Sh) (M : Mm) (xl0 : Int) (zl1 : Int32) (post : Mm → Prop) (h : wp_J7_fill_53178 S M xl0 zl1.toInt post) : Met l yJ7_fill_53178 (cw_J7_fill_53178 :: gw) RM_J7_fill_53178 (va_Pc [.ref (adr G xl0), .int zl1] (fun U => KN D G U ∧ Wd D G S M U.heap)) (QV D G S post) 0 0 (aG G) := by
  refine Met.ofW (cc := cJ7_fill_53178) (maxL := 4) (ret := none) (by decide) rfl ?_
  intro p e s m args below meth c s₁ B hml hv
  obtain ⟨rfl, hK, hP⟩ := hv
  have hx := B.exec
  have hb := B.bytes
  have hr := B.returns
  have hts := atoms_spec (ws := cw_J7_fill_53178 :: gw) B.pre
  have hown : s.vm.findClass RJ7 = some m.cls := findClass_of_methodNamed B.named
  have hlocks := B.notSynchronized
  have hS : va_S (aG G) s.heap s.heap [] := va_S.rf
  have C : Cx p s m ([.ref (adr G xl0), .int zl1] : List Value).toArray meth c D G cJ7_fill_53178 4 none (cw_J7_fill_53178 :: gw) RJ7 := ⟨hx, hb, hr, hlocks, hml, hown, hts, hK⟩
  have hl := lv_entry ([.ref (adr G xl0), .int zl1]) (n := 4) (Nat.le_of_ble_eq_true rfl)
  rw [lg_entry_eq]
  generalize (lg_sl ([.ref (adr G xl0), .int zl1]) ++ List.replicate (4 - (lg_sl ([.ref (adr G xl0), .int zl1])).length) Slot.unset).toArray = ls at hl ⊢
  have hl : lv_has ls 4 [(0, .ref (adr G xl0)), (1, .int zl1)] := hl
  unfold wp_J7_fill_53178 at h
  refine r_iconst hx hb dJ7_fill_53178_0 (by decide) h (fun z5 h => ?_)
  refine lv_istore_n (lv' := [(2, .int z5), (0, .ref (adr G xl0)), (1, .int zl1)]) hx hb dJ7_fill_53178_1 rfl hl (by decide) rfl (fun ls hl => ?_)
  refine lv_aload_n hx hb dJ7_fill_53178_2 rfl (lv_at hl 1 rfl) ?_
  refine r_len hx hb hK hP hS dJ7_fill_53178_3 h (fun z7 h => ?_)
  refine lv_istore_n (lv' := [(3, .int z7), (2, .int z5), (0, .ref (adr G xl0)), (1, .int zl1)]) hx hb dJ7_fill_53178_4 rfl hl (by decide) rfl (fun ls hl => ?_)
  obtain ⟨n9, h⟩ := h
  exact t_J7_fill_53178_5 C n9 xl0 zl1 z5 z7 _ _ _ _ hP hS (lv_sub hl [2, 3, 1, 0] rfl) h
/-! java/lang/Integer.bitCount(I)I -/
abbrev RM_J6_bitCount_0f7a4 : Room := { frames := 1, cells := 0, slots := 0, locals := 40 }
def cw_J6_bitCount_0f7a4 : Cond := Cond.code yJ6_bitCount_0f7a4 cJ6_bitCount_0f7a4 1 (Option.some FieldType.int)
theorem hd_J6_bitCount_0f7a4 : yJ6_bitCount_0f7a4.cls ≠ "java/lang/invoke/MethodHandle" ∧ yJ6_bitCount_0f7a4.cls ≠ "java/lang/invoke/VarHandle" ∧ (parseMethodDescriptor yJ6_bitCount_0f7a4.desc).map (fun d => d.parameters.length) = some 1 := by decide +kernel
theorem dJ6_bitCount_0f7a4_0 : decode cJ6_bitCount_0f7a4 0 = .ok (.iload_n 0, 1) := by decide +kernel
theorem dJ6_bitCount_0f7a4_1 : decode cJ6_bitCount_0f7a4 1 = .ok (.iload_n 0, 1) := by decide +kernel
theorem dJ6_bitCount_0f7a4_2 : decode cJ6_bitCount_0f7a4 2 = .ok (.iconst 1, 1) := by decide +kernel
theorem dJ6_bitCount_0f7a4_3 : decode cJ6_bitCount_0f7a4 3 = .ok (.iushr, 1) := by decide +kernel
theorem dJ6_bitCount_0f7a4_4 : decode cJ6_bitCount_0f7a4 4 = .ok (.ldc_w 265, 3) := by decide +kernel
theorem dJ6_bitCount_0f7a4_7 : decode cJ6_bitCount_0f7a4 7 = .ok (.iand, 1) := by decide +kernel
theorem dJ6_bitCount_0f7a4_8 : decode cJ6_bitCount_0f7a4 8 = .ok (.isub, 1) := by decide +kernel
theorem dJ6_bitCount_0f7a4_9 : decode cJ6_bitCount_0f7a4 9 = .ok (.istore_n 0, 1) := by decide +kernel
theorem dJ6_bitCount_0f7a4_10 : decode cJ6_bitCount_0f7a4 10 = .ok (.iload_n 0, 1) := by decide +kernel
theorem dJ6_bitCount_0f7a4_11 : decode cJ6_bitCount_0f7a4 11 = .ok (.ldc_w 266, 3) := by decide +kernel
theorem dJ6_bitCount_0f7a4_14 : decode cJ6_bitCount_0f7a4 14 = .ok (.iand, 1) := by decide +kernel
theorem dJ6_bitCount_0f7a4_15 : decode cJ6_bitCount_0f7a4 15 = .ok (.iload_n 0, 1) := by decide +kernel
theorem dJ6_bitCount_0f7a4_16 : decode cJ6_bitCount_0f7a4 16 = .ok (.iconst 2, 1) := by decide +kernel
theorem dJ6_bitCount_0f7a4_17 : decode cJ6_bitCount_0f7a4 17 = .ok (.iushr, 1) := by decide +kernel
theorem dJ6_bitCount_0f7a4_18 : decode cJ6_bitCount_0f7a4 18 = .ok (.ldc_w 266, 3) := by decide +kernel
theorem dJ6_bitCount_0f7a4_21 : decode cJ6_bitCount_0f7a4 21 = .ok (.iand, 1) := by decide +kernel
theorem dJ6_bitCount_0f7a4_22 : decode cJ6_bitCount_0f7a4 22 = .ok (.iadd, 1) := by decide +kernel
theorem dJ6_bitCount_0f7a4_23 : decode cJ6_bitCount_0f7a4 23 = .ok (.istore_n 0, 1) := by decide +kernel
theorem dJ6_bitCount_0f7a4_24 : decode cJ6_bitCount_0f7a4 24 = .ok (.iload_n 0, 1) := by decide +kernel
theorem dJ6_bitCount_0f7a4_25 : decode cJ6_bitCount_0f7a4 25 = .ok (.iload_n 0, 1) := by decide +kernel
theorem dJ6_bitCount_0f7a4_26 : decode cJ6_bitCount_0f7a4 26 = .ok (.iconst 4, 1) := by decide +kernel
theorem dJ6_bitCount_0f7a4_27 : decode cJ6_bitCount_0f7a4 27 = .ok (.iushr, 1) := by decide +kernel
theorem dJ6_bitCount_0f7a4_28 : decode cJ6_bitCount_0f7a4 28 = .ok (.iadd, 1) := by decide +kernel
theorem dJ6_bitCount_0f7a4_29 : decode cJ6_bitCount_0f7a4 29 = .ok (.ldc_w 267, 3) := by decide +kernel
theorem dJ6_bitCount_0f7a4_32 : decode cJ6_bitCount_0f7a4 32 = .ok (.iand, 1) := by decide +kernel
theorem dJ6_bitCount_0f7a4_33 : decode cJ6_bitCount_0f7a4 33 = .ok (.istore_n 0, 1) := by decide +kernel
theorem dJ6_bitCount_0f7a4_34 : decode cJ6_bitCount_0f7a4 34 = .ok (.iload_n 0, 1) := by decide +kernel
theorem dJ6_bitCount_0f7a4_35 : decode cJ6_bitCount_0f7a4 35 = .ok (.iload_n 0, 1) := by decide +kernel
theorem dJ6_bitCount_0f7a4_36 : decode cJ6_bitCount_0f7a4 36 = .ok (.bipush 8, 2) := by decide +kernel
theorem dJ6_bitCount_0f7a4_38 : decode cJ6_bitCount_0f7a4 38 = .ok (.iushr, 1) := by decide +kernel
theorem dJ6_bitCount_0f7a4_39 : decode cJ6_bitCount_0f7a4 39 = .ok (.iadd, 1) := by decide +kernel
theorem dJ6_bitCount_0f7a4_40 : decode cJ6_bitCount_0f7a4 40 = .ok (.istore_n 0, 1) := by decide +kernel
theorem dJ6_bitCount_0f7a4_41 : decode cJ6_bitCount_0f7a4 41 = .ok (.iload_n 0, 1) := by decide +kernel
theorem dJ6_bitCount_0f7a4_42 : decode cJ6_bitCount_0f7a4 42 = .ok (.iload_n 0, 1) := by decide +kernel
theorem dJ6_bitCount_0f7a4_43 : decode cJ6_bitCount_0f7a4 43 = .ok (.bipush 16, 2) := by decide +kernel
theorem dJ6_bitCount_0f7a4_45 : decode cJ6_bitCount_0f7a4 45 = .ok (.iushr, 1) := by decide +kernel
theorem dJ6_bitCount_0f7a4_46 : decode cJ6_bitCount_0f7a4 46 = .ok (.iadd, 1) := by decide +kernel
theorem dJ6_bitCount_0f7a4_47 : decode cJ6_bitCount_0f7a4 47 = .ok (.istore_n 0, 1) := by decide +kernel
theorem dJ6_bitCount_0f7a4_48 : decode cJ6_bitCount_0f7a4 48 = .ok (.iload_n 0, 1) := by decide +kernel
theorem dJ6_bitCount_0f7a4_49 : decode cJ6_bitCount_0f7a4 49 = .ok (.bipush 63, 2) := by decide +kernel
theorem dJ6_bitCount_0f7a4_51 : decode cJ6_bitCount_0f7a4 51 = .ok (.iand, 1) := by decide +kernel
theorem dJ6_bitCount_0f7a4_52 : decode cJ6_bitCount_0f7a4 52 = .ok (.ireturn, 1) := by decide +kernel
def wp_J6_bitCount_0f7a4 (S : Sh) (M : Mm) (u0 : Int) (post : Int → Mm → Prop) : Prop := wC 1 fun v1 => wO iUshr u0 v1 fun v3 => wC 1431655765 fun v5 => wO iAnd v3 v5 fun v7 => wS u0 v7 fun v9 => wC 858993459 fun v11 => wO iAnd v9 v11 fun v13 => wC 2 fun v15 => wO iUshr v9 v15 fun v17 => wC 858993459 fun v19 => wO iAnd v17 v19 fun v21 => wA v13 v21 fun v23 => wC 4 fun v25 => wO iUshr v23 v25 fun v27 => wA v23 v27 fun v29 => wC 252645135 fun v31 => wO iAnd v29 v31 fun v33 => wC 8 fun v35 => wO iUshr v33 v35 fun v37 => wA v33 v37 fun v39 => wC 16 fun v41 => wO iUshr v39 v41 fun v43 => wA v39 v43 fun v45 => wC 63 fun v47 => wO iAnd v45 v47 fun v49 => post v49 M
set_option maxHeartbeats 4000000 in
set_option maxRecDepth 100000 in
theorem c_J6_bitCount_0f7a4 (l : Launch) (D : va_G) (G : Gt) (S : Sh) (M : Mm) (zl0 : Int32) (post : Int → Mm → Prop) (h : wp_J6_bitCount_0f7a4 S M zl0.toInt post) : Met l yJ6_bitCount_0f7a4 (cw_J6_bitCount_0f7a4 :: gw) RM_J6_bitCount_0f7a4 (va_Pc [.int zl0] (fun U => KN D G U ∧ Wd D G S M U.heap)) (QI D G S post) 0 0 (aG G) := by
  refine Met.ofW (cc := cJ6_bitCount_0f7a4) (maxL := 1) (ret := (some .int)) (by decide) rfl ?_
  intro p e s m args below meth c s₁ B hml hv
  obtain ⟨rfl, hK, hP⟩ := hv
  have hx := B.exec
  have hb := B.bytes
  have hr := B.returns
  have hts := atoms_spec (ws := cw_J6_bitCount_0f7a4 :: gw) B.pre
  have hown : s.vm.findClass RJ6 = some m.cls := findClass_of_methodNamed B.named
  have hlocks := B.notSynchronized
  have hS : va_S (aG G) s.heap s.heap [] := va_S.rf
  have C : Cx p s m ([.int zl0] : List Value).toArray meth c D G cJ6_bitCount_0f7a4 1 (some .int) (cw_J6_bitCount_0f7a4 :: gw) RJ6 := ⟨hx, hb, hr, hlocks, hml, hown, hts, hK⟩
  have hl := lv_entry ([.int zl0]) (n := 1) (Nat.le_of_ble_eq_true rfl)
  rw [lg_entry_eq]
  generalize (lg_sl ([.int zl0]) ++ List.replicate (1 - (lg_sl ([.int zl0])).length) Slot.unset).toArray = ls at hl ⊢
  have hl : lv_has ls 1 [(0, .int zl0)] := hl
  unfold wp_J6_bitCount_0f7a4 at h
  refine lv_iload_n hx hb dJ6_bitCount_0f7a4_0 rfl (lv_at hl 0 rfl) ?_
  refine lv_iload_n hx hb dJ6_bitCount_0f7a4_1 rfl (lv_at hl 0 rfl) ?_
  refine r_iconst hx hb dJ6_bitCount_0f7a4_2 (by decide) h (fun z2 h => ?_)
  refine r_iushr hx hb dJ6_bitCount_0f7a4_3 h (fun z4 h => ?_)
  refine r_ldc_w hx hb hown (hts _ (List.mem_cons_of_mem _ kw_960)) dJ6_bitCount_0f7a4_4 (n := 1431655765) (by decide) h (fun z6 h => ?_)
  refine r_iand hx hb dJ6_bitCount_0f7a4_7 h (fun z8 h => ?_)
  refine r_isub hx hb dJ6_bitCount_0f7a4_8 h (fun z10 h => ?_)
  refine lv_istore_n (lv' := [(0, .int z10)]) hx hb dJ6_bitCount_0f7a4_9 rfl hl (by decide) rfl (fun ls hl => ?_)
  refine lv_iload_n hx hb dJ6_bitCount_0f7a4_10 rfl (lv_at hl 0 rfl) ?_
  refine r_ldc_w hx hb hown (hts _ (List.mem_cons_of_mem _ kw_961)) dJ6_bitCount_0f7a4_11 (n := 858993459) (by decide) h (fun z12 h => ?_)
  refine r_iand hx hb dJ6_bitCount_0f7a4_14 h (fun z14 h => ?_)
  refine lv_iload_n hx hb dJ6_bitCount_0f7a4_15 rfl (lv_at hl 0 rfl) ?_
  refine r_iconst hx hb dJ6_bitCount_0f7a4_16 (by decide) h (fun z16 h => ?_)
  refine r_iushr hx hb dJ6_bitCount_0f7a4_17 h (fun z18 h => ?_)
  refine r_ldc_w hx hb hown (hts _ (List.mem_cons_of_mem _ kw_961)) dJ6_bitCount_0f7a4_18 (n := 858993459) (by decide) h (fun z20 h => ?_)
  refine r_iand hx hb dJ6_bitCount_0f7a4_21 h (fun z22 h => ?_)
  refine r_iadd hx hb dJ6_bitCount_0f7a4_22 h (fun z24 h => ?_)
  refine lv_istore_n (lv' := [(0, .int z24)]) hx hb dJ6_bitCount_0f7a4_23 rfl hl (by decide) rfl (fun ls hl => ?_)
  refine lv_iload_n hx hb dJ6_bitCount_0f7a4_24 rfl (lv_at hl 0 rfl) ?_
  refine lv_iload_n hx hb dJ6_bitCount_0f7a4_25 rfl (lv_at hl 0 rfl) ?_
  refine r_iconst hx hb dJ6_bitCount_0f7a4_26 (by decide) h (fun z26 h => ?_)
  refine r_iushr hx hb dJ6_bitCount_0f7a4_27 h (fun z28 h => ?_)
  refine r_iadd hx hb dJ6_bitCount_0f7a4_28 h (fun z30 h => ?_)
  refine r_ldc_w hx hb hown (hts _ (List.mem_cons_of_mem _ kw_962)) dJ6_bitCount_0f7a4_29 (n := 252645135) (by decide) h (fun z32 h => ?_)
  refine r_iand hx hb dJ6_bitCount_0f7a4_32 h (fun z34 h => ?_)
  refine lv_istore_n (lv' := [(0, .int z34)]) hx hb dJ6_bitCount_0f7a4_33 rfl hl (by decide) rfl (fun ls hl => ?_)
  refine lv_iload_n hx hb dJ6_bitCount_0f7a4_34 rfl (lv_at hl 0 rfl) ?_
  refine lv_iload_n hx hb dJ6_bitCount_0f7a4_35 rfl (lv_at hl 0 rfl) ?_
  refine r_bipush hx hb dJ6_bitCount_0f7a4_36 (by decide) h (fun z36 h => ?_)
  refine r_iushr hx hb dJ6_bitCount_0f7a4_38 h (fun z38 h => ?_)
  refine r_iadd hx hb dJ6_bitCount_0f7a4_39 h (fun z40 h => ?_)
  refine lv_istore_n (lv' := [(0, .int z40)]) hx hb dJ6_bitCount_0f7a4_40 rfl hl (by decide) rfl (fun ls hl => ?_)
  refine lv_iload_n hx hb dJ6_bitCount_0f7a4_41 rfl (lv_at hl 0 rfl) ?_
  refine lv_iload_n hx hb dJ6_bitCount_0f7a4_42 rfl (lv_at hl 0 rfl) ?_
  refine r_bipush hx hb dJ6_bitCount_0f7a4_43 (by decide) h (fun z42 h => ?_)
  refine r_iushr hx hb dJ6_bitCount_0f7a4_45 h (fun z44 h => ?_)
  refine r_iadd hx hb dJ6_bitCount_0f7a4_46 h (fun z46 h => ?_)
  refine lv_istore_n (lv' := [(0, .int z46)]) hx hb dJ6_bitCount_0f7a4_47 rfl hl (by decide) rfl (fun ls hl => ?_)
  refine lv_iload_n hx hb dJ6_bitCount_0f7a4_48 rfl (lv_at hl 0 rfl) ?_
  refine r_bipush hx hb dJ6_bitCount_0f7a4_49 (by decide) h (fun z48 h => ?_)
  refine r_iand hx hb dJ6_bitCount_0f7a4_51 h (fun z50 h => ?_)
  exact r_iret hx hb hr hlocks hP hS dJ6_bitCount_0f7a4_52 h
/-! java/util/Arrays.rangeCheck(III)V -/
abbrev RM_J7_rangeCheck_23922 : Room := { frames := 1, cells := 0, slots := 0, locals := 40 }
def cw_J7_rangeCheck_23922 : Cond := Cond.code yJ7_rangeCheck_23922 cJ7_rangeCheck_23922 3 (Option.none : Option FieldType)
theorem hd_J7_rangeCheck_23922 : yJ7_rangeCheck_23922.cls ≠ "java/lang/invoke/MethodHandle" ∧ yJ7_rangeCheck_23922.cls ≠ "java/lang/invoke/VarHandle" ∧ (parseMethodDescriptor yJ7_rangeCheck_23922.desc).map (fun d => d.parameters.length) = some 3 := by decide +kernel
theorem dJ7_rangeCheck_23922_0 : decode cJ7_rangeCheck_23922 0 = .ok (.iload_n 1, 1) := by decide +kernel
theorem dJ7_rangeCheck_23922_1 : decode cJ7_rangeCheck_23922 1 = .ok (.iload_n 2, 1) := by decide +kernel
theorem dJ7_rangeCheck_23922_2 : decode cJ7_rangeCheck_23922 2 = .ok (.if_icmp .le 44, 3) := by decide +kernel
theorem dJ7_rangeCheck_23922_46 : decode cJ7_rangeCheck_23922 46 = .ok (.iload_n 1, 1) := by decide +kernel
theorem dJ7_rangeCheck_23922_47 : decode cJ7_rangeCheck_23922 47 = .ok (.ifCond .ge 12, 3) := by decide +kernel
theorem dJ7_rangeCheck_23922_59 : decode cJ7_rangeCheck_23922 59 = .ok (.iload_n 2, 1) := by decide +kernel
theorem dJ7_rangeCheck_23922_60 : decode cJ7_rangeCheck_23922 60 = .ok (.iload_n 0, 1) := by decide +kernel
theorem dJ7_rangeCheck_23922_61 : decode cJ7_rangeCheck_23922 61 = .ok (.if_icmp .le 12, 3) := by decide +kernel
theorem dJ7_rangeCheck_23922_73 : decode cJ7_rangeCheck_23922 73 = .ok (.return_, 1) := by decide +kernel
def wp_J7_rangeCheck_23922 (S : Sh) (M : Mm) (u0 : Int) (u1 : Int) (u2 : Int) (post : Mm → Prop) : Prop := wIf (u1 ≤ u2) (wIf (0 ≤ u1) (wIf (u2 ≤ u0) (post M) (False)) (False)) (False)
set_option maxHeartbeats 4000000 in
set_option maxRecDepth 100000 in
theorem c_J7_rangeCheck_23922 (l : Launch) (D : va_G) (G : Gt) (S : Sh) (M : Mm) (zl0 : Int32) (zl1 : Int32) (zl2 : Int32) (post : Mm → Prop) (h : wp_J7_rangeCheck_23922 S M zl0.toInt zl1.toInt zl2.toInt post) : Met l yJ7_rangeCheck_23922 (cw_J7_rangeCheck_23922 :: gw) RM_J7_rangeCheck_23922 (va_Pc [.int zl0, .int zl1, .int zl2] (fun U => KN D G U ∧ Wd D G S M U.heap)) (QV D G S post) 0 0 (aG G) := by
  refine Met.ofW (cc := cJ7_rangeCheck_23922) (maxL := 3) (ret := none) (by decide) rfl ?_
  intro p e s m args below meth c s₁ B hml hv
  obtain ⟨rfl, hK, hP⟩ := hv
  have hx := B.exec
  have hb := B.bytes
  have hr := B.returns
  have hts := atoms_spec (ws := cw_J7_rangeCheck_23922 :: gw) B.pre
  have hown : s.vm.findClass RJ7 = some m.cls := findClass_of_methodNamed B.named
  have hlocks := B.notSynchronized
  have hS : va_S (aG G) s.heap s.heap [] := va_S.rf
  have C : Cx p s m ([.int zl0, .int zl1, .int zl2] : List Value).toArray meth c D G cJ7_rangeCheck_23922 3 none (cw_J7_rangeCheck_23922 :: gw) RJ7 := ⟨hx, hb, hr, hlocks, hml, hown, hts, hK⟩
  have hl := lv_entry ([.int zl0, .int zl1, .int zl2]) (n := 3) (Nat.le_of_ble_eq_true rfl)
  rw [lg_entry_eq]
  generalize (lg_sl ([.int zl0, .int zl1, .int zl2]) ++ List.replicate (3 - (lg_sl ([.int zl0, .int zl1, .int zl2])).length) Slot.unset).toArray = ls at hl ⊢
  have hl : lv_has ls 3 [(0, .int zl0), (1, .int zl1), (2, .int zl2)] := hl
  unfold wp_J7_rangeCheck_23922 at h
  refine lv_iload_n hx hb dJ7_rangeCheck_23922_0 rfl (lv_at hl 1 rfl) ?_
  refine lv_iload_n hx hb dJ7_rangeCheck_23922_1 rfl (lv_at hl 2 rfl) ?_
  refine r_icmp_le (tgt := 46) hx hb dJ7_rangeCheck_23922_2 (by decide) h (fun h => ?_) (fun h => ?_)
  · refine lv_iload_n hx hb dJ7_rangeCheck_23922_46 rfl (lv_at hl 1 rfl) ?_
    refine r_if_ge (tgt := 59) hx hb dJ7_rangeCheck_23922_47 (by decide) h (fun h => ?_) (fun h => ?_)
    · refine lv_iload_n hx hb dJ7_rangeCheck_23922_59 rfl (lv_at hl 2 rfl) ?_
      refine lv_iload_n hx hb dJ7_rangeCheck_23922_60 rfl (lv_at hl 0 rfl) ?_
      refine r_icmp_le (tgt := 73) hx hb dJ7_rangeCheck_23922_61 (by decide) h (fun h => ?_) (fun h => ?_)
      · exact r_vret hx hb hr hlocks hP hS dJ7_rangeCheck_23922_73 h
      · exact False.elim h
    · exact False.elim h
  · exact False.elim h
/-! java/util/Arrays.fill([IIII)V -/
abbrev RM_J7_fill_fda19 : Room := { frames := 2, cells := 0, slots := 0, locals := 62 }
def cw_J7_fill_fda19 : Cond := Cond.code yJ7_fill_fda19 cJ7_fill_fda19 5 (Option.none : Option FieldType)
theorem hd_J7_fill_fda19 : yJ7_fill_fda19.cls ≠ "java/lang/invoke/MethodHandle" ∧ yJ7_fill_fda19.cls ≠ "java/lang/invoke/VarHandle" ∧ (parseMethodDescriptor yJ7_fill_fda19.desc).map (fun d => d.parameters.length) = some 4 := by decide +kernel
theorem dJ7_fill_fda19_0 : decode cJ7_fill_fda19 0 = .ok (.aload_n 0, 1) := by decide +kernel
theorem dJ7_fill_fda19_1 : decode cJ7_fill_fda19 1 = .ok (.arraylength, 1) := by decide +kernel
theorem dJ7_fill_fda19_2 : decode cJ7_fill_fda19 2 = .ok (.iload_n 1, 1) := by decide +kernel
theorem dJ7_fill_fda19_3 : decode cJ7_fill_fda19 3 = .ok (.iload_n 2, 1) := by decide +kernel
theorem dJ7_fill_fda19_4 : decode cJ7_fill_fda19 4 = .ok (.invokestatic 13, 3) := by decide +kernel
theorem dJ7_fill_fda19_7 : decode cJ7_fill_fda19 7 = .ok (.iload_n 1, 1) := by decide +kernel
theorem dJ7_fill_fda19_8 : decode cJ7_fill_fda19 8 = .ok (.istore 4, 2) := by decide +kernel
theorem dJ7_fill_fda19_10 : decode cJ7_fill_fda19 10 = .ok (.iload 4, 2) := by decide +kernel
theorem dJ7_fill_fda19_12 : decode cJ7_fill_fda19 12 = .ok (.iload_n 2, 1) := by decide +kernel
theorem dJ7_fill_fda19_13 : decode cJ7_fill_fda19 13 = .ok (.if_icmp .ge 14, 3) := by decide +kernel
theorem dJ7_fill_fda19_16 : decode cJ7_fill_fda19 16 = .ok (.aload_n 0, 1) := by decide +kernel
theorem dJ7_fill_fda19_17 : decode cJ7_fill_fda19 17 = .ok (.iload 4, 2) := by decide +kernel
theorem dJ7_fill_fda19_19 : decode cJ7_fill_fda19 19 = .ok (.iload_n 3, 1) := by decide +kernel
theorem dJ7_fill_fda19_20 : decode cJ7_fill_fda19 20 = .ok (.iastore, 1) := by decide +kernel
theorem dJ7_fill_fda19_21 : decode cJ7_fill_fda19 21 = .ok (.iinc 4 1, 3) := by decide +kernel
theorem dJ7_fill_fda19_24 : decode cJ7_fill_fda19 24 = .ok (.goto (-14), 3) := by decide +kernel
theorem dJ7_fill_fda19_27 : decode cJ7_fill_fda19 27 = .ok (.return_, 1) := by decide +kernel
def wp_J7_fill_fda19_10 (S : Sh) (post : Mm → Prop) : Nat → Int → Int → Int → Int → Mm → Prop
  | 0, _, _, _, _, _ => False
  | n + 1, u0, u2, u3, u4, M => wIf (u2 ≤ u4) (post M) (wSt S M u0 14 u4 u3 fun M1 => wA u4 1 fun v2 => wp_J7_fill_fda19_10 S post n u0 u2 u3 v2 M1)
def wp_J7_fill_fda19 (S : Sh) (M : Mm) (u0 : Int) (u1 : Int) (u2 : Int) (u3 : Int) (post : Mm → Prop) : Prop := wLen S u0 14 fun v4 => wp_J7_rangeCheck_23922 S M v4 u1 u2 <| fun M6 => ∃ n9 : Nat, wp_J7_fill_fda19_10 S post n9 u0 u2 u3 u1 M6
set_option maxHeartbeats 4000000 in
set_option maxRecDepth 100000 in
theorem t_J7_fill_fda19_10 {p : Program} {l : Launch} {e : Env} {s : State} {m : MethodId} {args : Array Value} {below : List Frame} {meth : Method} {c : Code} {D : va_G} {G : Gt} {S : Sh} {post : Mm → Prop} (C : Cx p s m args meth c D G cJ7_fill_fda19 5 none (cw_J7_fill_fda19 :: gw) RJ7) : ∀ (n : Nat) (xl0 : Int) (zl2 : Int32) (zl3 : Int32) (zl4 : Int32) (M : Mm) (H : Heap) (locs : List Loc) (ls : Array Slot), Wd D G S M H → va_S (aG G) s.heap H locs → lv_has ls 5 [(0, .ref (adr G xl0)), (2, .int zl2), (3, .int zl3), (4, .int zl4)] → wp_J7_fill_fda19_10 S post n xl0 zl2.toInt zl3.toInt zl4.toInt  M → W p l e RM_J7_fill_fda19 s m args below meth c H locs 0 0 (MQ below (QV D G S post) args s 0 0 (aG G)) (F0 m 10 ls []) := by
  obtain ⟨hx, hb, hr, hlocks, hml, hown, hts, hK⟩ := id C
  intro n
  induction n with
  | zero => intro xl0 zl2 zl3 zl4 M H locs ls hP hS hl h; exact h.elim
  | succ n ih =>
    intro xl0 zl2 zl3 zl4 M H locs ls hP hS hl h
    unfold wp_J7_fill_fda19_10 at h
    refine lv_iload hx hb dJ7_fill_fda19_10 (lv_at hl 3 rfl) ?_
    refine lv_iload_n hx hb dJ7_fill_fda19_12 rfl (lv_at hl 1 rfl) ?_
    refine r_icmp_ge (tgt := 27) hx hb dJ7_fill_fda19_13 (by decide) h (fun h => ?_) (fun h => ?_)
    · exact r_vret hx hb hr hlocks hP hS dJ7_fill_fda19_27 h
    · refine lv_aload_n hx hb dJ7_fill_fda19_16 rfl (lv_at hl 0 rfl) ?_
      refine lv_iload hx hb dJ7_fill_fda19_17 (lv_at hl 3 rfl) ?_
      refine lv_iload_n hx hb dJ7_fill_fda19_19 rfl (lv_at hl 2 rfl) ?_
      refine r_iast hx hb hK hP hS dJ7_fill_fda19_20 h (fun M1 H locs h hP hS => ?_)
      refine r_iinc hx hb (fun z3 => [(4, .int z3), (0, .ref (adr G xl0)), (2, .int zl2), (3, .int zl3)]) dJ7_fill_fda19_21 (by decide) hl (k := 3) rfl (by decide) (fun _ => rfl) h (fun z3 ls hl h => ?_)
      refine lv_goto (tgt := 10) hx hb dJ7_fill_fda19_24 (by decide) ?_
      exact ih xl0 zl2 zl3 z3 _ _ _ _ hP hS (lv_sub hl [1, 2, 3, 0] rfl) h
set_option maxHeartbeats 4000000 in
set_option maxRecDepth 100000 in
theorem c_J7_fill_fda19 (l : Launch) (D : va_G) (G : Gt) (S : Sh) (M : Mm) (xl0 : Int) (zl1 : Int32) (zl2 : Int32) (zl3 : Int32) (post : Mm → Prop) (h : wp_J7_fill_fda19 S M xl0 zl1.toInt zl2.toInt zl3.toInt post) : Met l yJ7_fill_fda19 (cw_J7_fill_fda19 :: gw) RM_J7_fill_fda19 (va_Pc [.ref (adr G xl0), .int zl1, .int zl2, .int zl3] (fun U => KN D G U ∧ Wd D G S M U.heap)) (QV D G S post) 0 0 (aG G) := by
  refine Met.ofW (cc := cJ7_fill_fda19) (maxL := 5) (ret := none) (by decide) rfl ?_
  intro p e s m args below meth c s₁ B hml hv
  obtain ⟨rfl, hK, hP⟩ := hv
  have hx := B.exec
  have hb := B.bytes
  have hr := B.returns
  have hts := atoms_spec (ws := cw_J7_fill_fda19 :: gw) B.pre
  have hown : s.vm.findClass RJ7 = some m.cls := findClass_of_methodNamed B.named
  have hlocks := B.notSynchronized
  have hS : va_S (aG G) s.heap s.heap [] := va_S.rf
  have C : Cx p s m ([.ref (adr G xl0), .int zl1, .int zl2, .int zl3] : List Value).toArray meth c D G cJ7_fill_fda19 5 none (cw_J7_fill_fda19 :: gw) RJ7 := ⟨hx, hb, hr, hlocks, hml, hown, hts, hK⟩
  have hl := lv_entry ([.ref (adr G xl0), .int zl1, .int zl2, .int zl3]) (n := 5) (Nat.le_of_ble_eq_true rfl)
  rw [lg_entry_eq]
  generalize (lg_sl ([.ref (adr G xl0), .int zl1, .int zl2, .int zl3]) ++ List.replicate (5 - (lg_sl ([.ref (adr G xl0), .int zl1, .int zl2, .int zl3])).length) Slot.unset).toArray = ls at hl ⊢
  have hl : lv_has ls 5 [(0, .ref (adr G xl0)), (1, .int zl1), (2, .int zl2), (3, .int zl3)] := hl
  unfold wp_J7_fill_fda19 at h
  refine lv_aload_n hx hb dJ7_fill_fda19_0 rfl (lv_at hl 0 rfl) ?_
  refine r_len hx hb hK hP hS dJ7_fill_fda19_1 h (fun z5 h => ?_)
  refine lv_iload_n hx hb dJ7_fill_fda19_2 rfl (lv_at hl 1 rfl) ?_
  refine lv_iload_n hx hb dJ7_fill_fda19_3 rfl (lv_at hl 2 rfl) ?_
  refine q_Sv hx hb hml hown hts hK hP hS (c_J7_rangeCheck_23922 l D G S _ z5 zl1 zl2 _ h) ⟨callB_of 3 hts (gw_good kw_1121) rfl rfl rfl (hts _ (List.mem_cons_of_mem _ kw_6)) (hts _ (List.mem_cons_of_mem _ kw_1119)) hd_J7_rangeCheck_23922 ⟨Nat.le_of_ble_eq_true rfl, Nat.le_of_ble_eq_true rfl⟩, (hts _ (List.mem_cons_of_mem _ kw_1120))⟩ rfl hl.1 rfl (lv_room (Nat.le_of_ble_eq_true rfl)) dJ7_fill_fda19_4 ⟨Nat.zero_le _, Nat.zero_le _⟩ (fun M6 H locs h hP hS => ?_)
  refine lv_iload_n hx hb dJ7_fill_fda19_7 rfl (lv_at hl 1 rfl) ?_
  refine lv_istore (lv' := [(4, .int zl1), (0, .ref (adr G xl0)), (1, .int zl1), (2, .int zl2), (3, .int zl3)]) hx hb dJ7_fill_fda19_8 hl (by decide) rfl (fun ls hl => ?_)
  obtain ⟨n9, h⟩ := h
  exact t_J7_fill_fda19_10 C n9 xl0 zl2 zl3 zl1 _ _ _ _ hP hS (lv_sub hl [1, 3, 4, 0] rfl) h
/-! java/lang/Integer.numberOfTrailingZeros(I)I -/
abbrev RM_J6_numberOfTrailingZeros_0f7a4 : Room := { frames := 1, cells := 0, slots := 0, locals := 40 }
def cw_J6_numberOfTrailingZeros_0f7a4 : Cond := Cond.code yJ6_numberOfTrailingZeros_0f7a4 cJ6_numberOfTrailingZeros_0f7a4 2 (Option.some FieldType.int)
theorem hd_J6_numberOfTrailingZeros_0f7a4 : yJ6_numberOfTrailingZeros_0f7a4.cls ≠ "java/lang/invoke/MethodHandle" ∧ yJ6_numberOfTrailingZeros_0f7a4.cls ≠ "java/lang/invoke/VarHandle" ∧ (parseMethodDescriptor yJ6_numberOfTrailingZeros_0f7a4.desc).map (fun d => d.parameters.length) = some 1 := by decide +kernel
theorem dJ6_numberOfTrailingZeros_0f7a4_0 : decode cJ6_numberOfTrailingZeros_0f7a4 0 = .ok (.iload_n 0, 1) := by decide +kernel
theorem dJ6_numberOfTrailingZeros_0f7a4_1 : decode cJ6_numberOfTrailingZeros_0f7a4 1 = .ok (.iconst (-1), 1) := by decide +kernel
theorem dJ6_numberOfTrailingZeros_0f7a4_2 : decode cJ6_numberOfTrailingZeros_0f7a4 2 = .ok (.ixor, 1) := by decide +kernel
theorem dJ6_numberOfTrailingZeros_0f7a4_3 : decode cJ6_numberOfTrailingZeros_0f7a4 3 = .ok (.iload_n 0, 1) := by decide +kernel
theorem dJ6_numberOfTrailingZeros_0f7a4_4 : decode cJ6_numberOfTrailingZeros_0f7a4 4 = .ok (.iconst 1, 1) := by decide +kernel
theorem dJ6_numberOfTrailingZeros_0f7a4_5 : decode cJ6_numberOfTrailingZeros_0f7a4 5 = .ok (.isub, 1) := by decide +kernel
theorem dJ6_numberOfTrailingZeros_0f7a4_6 : decode cJ6_numberOfTrailingZeros_0f7a4 6 = .ok (.iand, 1) := by decide +kernel
theorem dJ6_numberOfTrailingZeros_0f7a4_7 : decode cJ6_numberOfTrailingZeros_0f7a4 7 = .ok (.istore_n 0, 1) := by decide +kernel
theorem dJ6_numberOfTrailingZeros_0f7a4_8 : decode cJ6_numberOfTrailingZeros_0f7a4 8 = .ok (.iload_n 0, 1) := by decide +kernel
theorem dJ6_numberOfTrailingZeros_0f7a4_9 : decode cJ6_numberOfTrailingZeros_0f7a4 9 = .ok (.ifCond .gt 8, 3) := by decide +kernel
theorem dJ6_numberOfTrailingZeros_0f7a4_12 : decode cJ6_numberOfTrailingZeros_0f7a4 12 = .ok (.iload_n 0, 1) := by decide +kernel
theorem dJ6_numberOfTrailingZeros_0f7a4_13 : decode cJ6_numberOfTrailingZeros_0f7a4 13 = .ok (.bipush 32, 2) := by decide +kernel
theorem dJ6_numberOfTrailingZeros_0f7a4_15 : decode cJ6_numberOfTrailingZeros_0f7a4 15 = .ok (.iand, 1) := by decide +kernel
theorem dJ6_numberOfTrailingZeros_0f7a4_16 : decode cJ6_numberOfTrailingZeros_0f7a4 16 = .ok (.ireturn, 1) := by decide +kernel
theorem dJ6_numberOfTrailingZeros_0f7a4_17 : decode cJ6_numberOfTrailingZeros_0f7a4 17 = .ok (.iconst 1, 1) := by decide +kernel
theorem dJ6_numberOfTrailingZeros_0f7a4_18 : decode cJ6_numberOfTrailingZeros_0f7a4 18 = .ok (.istore_n 1, 1) := by decide +kernel
theorem dJ6_numberOfTrailingZeros_0f7a4_19 : decode cJ6_numberOfTrailingZeros_0f7a4 19 = .ok (.iload_n 0, 1) := by decide +kernel
theorem dJ6_numberOfTrailingZeros_0f7a4_20 : decode cJ6_numberOfTrailingZeros_0f7a4 20 = .ok (.ldc_w 264, 3) := by decide +kernel
theorem dJ6_numberOfTrailingZeros_0f7a4_23 : decode cJ6_numberOfTrailingZeros_0f7a4 23 = .ok (.if_icmp .le 11, 3) := by decide +kernel
theorem dJ6_numberOfTrailingZeros_0f7a4_26 : decode cJ6_numberOfTrailingZeros_0f7a4 26 = .ok (.iinc 1 16, 3) := by decide +kernel
theorem dJ6_numberOfTrailingZeros_0f7a4_29 : decode cJ6_numberOfTrailingZeros_0f7a4 29 = .ok (.iload_n 0, 1) := by decide +kernel
theorem dJ6_numberOfTrailingZeros_0f7a4_30 : decode cJ6_numberOfTrailingZeros_0f7a4 30 = .ok (.bipush 16, 2) := by decide +kernel
theorem dJ6_numberOfTrailingZeros_0f7a4_32 : decode cJ6_numberOfTrailingZeros_0f7a4 32 = .ok (.iushr, 1) := by decide +kernel
theorem dJ6_numberOfTrailingZeros_0f7a4_33 : decode cJ6_numberOfTrailingZeros_0f7a4 33 = .ok (.istore_n 0, 1) := by decide +kernel
theorem dJ6_numberOfTrailingZeros_0f7a4_34 : decode cJ6_numberOfTrailingZeros_0f7a4 34 = .ok (.iload_n 0, 1) := by decide +kernel
theorem dJ6_numberOfTrailingZeros_0f7a4_35 : decode cJ6_numberOfTrailingZeros_0f7a4 35 = .ok (.sipush 256, 3) := by decide +kernel
theorem dJ6_numberOfTrailingZeros_0f7a4_38 : decode cJ6_numberOfTrailingZeros_0f7a4 38 = .ok (.if_icmp .le 11, 3) := by decide +kernel
theorem dJ6_numberOfTrailingZeros_0f7a4_41 : decode cJ6_numberOfTrailingZeros_0f7a4 41 = .ok (.iinc 1 8, 3) := by decide +kernel
theorem dJ6_numberOfTrailingZeros_0f7a4_44 : decode cJ6_numberOfTrailingZeros_0f7a4 44 = .ok (.iload_n 0, 1) := by decide +kernel
theorem dJ6_numberOfTrailingZeros_0f7a4_45 : decode cJ6_numberOfTrailingZeros_0f7a4 45 = .ok (.bipush 8, 2) := by decide +kernel
theorem dJ6_numberOfTrailingZeros_0f7a4_47 : decode cJ6_numberOfTrailingZeros_0f7a4 47 = .ok (.iushr, 1) := by decide +kernel
theorem dJ6_numberOfTrailingZeros_0f7a4_48 : decode cJ6_numberOfTrailingZeros_0f7a4 48 = .ok (.istore_n 0, 1) := by decide +kernel
theorem dJ6_numberOfTrailingZeros_0f7a4_49 : decode cJ6_numberOfTrailingZeros_0f7a4 49 = .ok (.iload_n 0, 1) := by decide +kernel
theorem dJ6_numberOfTrailingZeros_0f7a4_50 : decode cJ6_numberOfTrailingZeros_0f7a4 50 = .ok (.bipush 16, 2) := by decide +kernel
theorem dJ6_numberOfTrailingZeros_0f7a4_52 : decode cJ6_numberOfTrailingZeros_0f7a4 52 = .ok (.if_icmp .le 10, 3) := by decide +kernel
theorem dJ6_numberOfTrailingZeros_0f7a4_55 : decode cJ6_numberOfTrailingZeros_0f7a4 55 = .ok (.iinc 1 4, 3) := by decide +kernel
theorem dJ6_numberOfTrailingZeros_0f7a4_58 : decode cJ6_numberOfTrailingZeros_0f7a4 58 = .ok (.iload_n 0, 1) := by decide +kernel
theorem dJ6_numberOfTrailingZeros_0f7a4_59 : decode cJ6_numberOfTrailingZeros_0f7a4 59 = .ok (.iconst 4, 1) := by decide +kernel
theorem dJ6_numberOfTrailingZeros_0f7a4_60 : decode cJ6_numberOfTrailingZeros_0f7a4 60 = .ok (.iushr, 1) := by decide +kernel
theorem dJ6_numberOfTrailingZeros_0f7a4_61 : decode cJ6_numberOfTrailingZeros_0f7a4 61 = .ok (.istore_n 0, 1) := by decide +kernel
theorem dJ6_numberOfTrailingZeros_0f7a4_62 : decode cJ6_numberOfTrailingZeros_0f7a4 62 = .ok (.iload_n 0, 1) := by decide +kernel
theorem dJ6_numberOfTrailingZeros_0f7a4_63 : decode cJ6_numberOfTrailingZeros_0f7a4 63 = .ok (.iconst 4, 1) := by decide +kernel
theorem dJ6_numberOfTrailingZeros_0f7a4_64 : decode cJ6_numberOfTrailingZeros_0f7a4 64 = .ok (.if_icmp .le 10, 3) := by decide +kernel
theorem dJ6_numberOfTrailingZeros_0f7a4_67 : decode cJ6_numberOfTrailingZeros_0f7a4 67 = .ok (.iinc 1 2, 3) := by decide +kernel
theorem dJ6_numberOfTrailingZeros_0f7a4_70 : decode cJ6_numberOfTrailingZeros_0f7a4 70 = .ok (.iload_n 0, 1) := by decide +kernel
theorem dJ6_numberOfTrailingZeros_0f7a4_71 : decode cJ6_numberOfTrailingZeros_0f7a4 71 = .ok (.iconst 2, 1) := by decide +kernel
theorem dJ6_numberOfTrailingZeros_0f7a4_72 : decode cJ6_numberOfTrailingZeros_0f7a4 72 = .ok (.iushr, 1) := by decide +kernel
theorem dJ6_numberOfTrailingZeros_0f7a4_73 : decode cJ6_numberOfTrailingZeros_0f7a4 73 = .ok (.istore_n 0, 1) := by decide +kernel
theorem dJ6_numberOfTrailingZeros_0f7a4_74 : decode cJ6_numberOfTrailingZeros_0f7a4 74 = .ok (.iload_n 1, 1) := by decide +kernel
theorem dJ6_numberOfTrailingZeros_0f7a4_75 : decode cJ6_numberOfTrailingZeros_0f7a4 75 = .ok (.iload_n 0, 1) := by decide +kernel
theorem dJ6_numberOfTrailingZeros_0f7a4_76 : decode cJ6_numberOfTrailingZeros_0f7a4 76 = .ok (.iconst 1, 1) := by decide +kernel
theorem dJ6_numberOfTrailingZeros_0f7a4_77 : decode cJ6_numberOfTrailingZeros_0f7a4 77 = .ok (.iushr, 1) := by decide +kernel
theorem dJ6_numberOfTrailingZeros_0f7a4_78 : decode cJ6_numberOfTrailingZeros_0f7a4 78 = .ok (.iadd, 1) := by decide +kernel
theorem dJ6_numberOfTrailingZeros_0f7a4_79 : decode cJ6_numberOfTrailingZeros_0f7a4 79 = .ok (.ireturn, 1) := by decide +kernel
def wp_J6_numberOfTrailingZeros_0f7a4_74 (S : Sh) (post : Int → Mm → Prop) (u0 : Int) (u1 : Int) (M : Mm) : Prop := wC 1 fun v1 => wO iUshr u0 v1 fun v3 => wA u1 v3 fun v5 => post v5 M
def wp_J6_numberOfTrailingZeros_0f7a4_62 (S : Sh) (post : Int → Mm → Prop) (u0 : Int) (u1 : Int) (M : Mm) : Prop := wC 4 fun v7 => wIf (u0 ≤ v7) (wp_J6_numberOfTrailingZeros_0f7a4_74 S post u0 u1 M) (wA u1 2 fun v9 => wC 2 fun v11 => wO iUshr u0 v11 fun v13 => wp_J6_numberOfTrailingZeros_0f7a4_74 S post v13 v9 M)
def wp_J6_numberOfTrailingZeros_0f7a4_49 (S : Sh) (post : Int → Mm → Prop) (u0 : Int) (u1 : Int) (M : Mm) : Prop := wC 16 fun v15 => wIf (u0 ≤ v15) (wp_J6_numberOfTrailingZeros_0f7a4_62 S post u0 u1 M) (wA u1 4 fun v17 => wC 4 fun v19 => wO iUshr u0 v19 fun v21 => wp_J6_numberOfTrailingZeros_0f7a4_62 S post v21 v17 M)
def wp_J6_numberOfTrailingZeros_0f7a4_34 (S : Sh) (post : Int → Mm → Prop) (u0 : Int) (u1 : Int) (M : Mm) : Prop := wC 256 fun v23 => wIf (u0 ≤ v23) (wp_J6_numberOfTrailingZeros_0f7a4_49 S post u0 u1 M) (wA u1 8 fun v25 => wC 8 fun v27 => wO iUshr u0 v27 fun v29 => wp_J6_numberOfTrailingZeros_0f7a4_49 S post v29 v25 M)
def wp_J6_numberOfTrailingZeros_0f7a4 (S : Sh) (M : Mm) (u0 : Int) (post : Int → Mm → Prop) : Prop := wC (-1) fun v31 => wO iXor u0 v31 fun v33 => wC 1 fun v35 => wS u0 v35 fun v37 => wO iAnd v33 v37 fun v39 => wIf (0 < v39) (wC 1 fun v41 => wC 65536 fun v43 => wIf (v39 ≤ v43) (wp_J6_numberOfTrailingZeros_0f7a4_34 S post v39 v41 M) (wA v41 16 fun v45 => wC 16 fun v47 => wO iUshr v39 v47 fun v49 => wp_J6_numberOfTrailingZeros_0f7a4_34 S post v49 v45 M)) (wC 32 fun v51 => wO iAnd v39 v51 fun v53 => post v53 M)
set_option maxHeartbeats 4000000 in
set_option maxRecDepth 100000 in
theorem t_J6_numberOfTrailingZeros_0f7a4_74 {p : Program} {l : Launch} {e : Env} {s : State} {m : MethodId} {args : Array Value} {below : List Frame} {meth : Method} {c : Code} {D : va_G} {G : Gt} {S : Sh} {post : Int → Mm → Prop} (C : Cx p s m args meth c D G cJ6_numberOfTrailingZeros_0f7a4 2 (some .int) (cw_J6_numberOfTrailingZeros_0f7a4 :: gw) RJ6) : ∀ (zl0 : Int32) (zl1 : Int32) (M : Mm) (H : Heap) (locs : List Loc) (ls : Array Slot), Wd D G S M H → va_S (aG G) s.heap H locs → lv_has ls 2 [(0, .int zl0), (1, .int zl1)] → wp_J6_numberOfTrailingZeros_0f7a4_74 S post zl0.toInt zl1.toInt  M → W p l e RM_J6_numberOfTrailingZeros_0f7a4 s m args below meth c H locs 0 0 (MQ below (QI D G S post) args s 0 0 (aG G)) (F0 m 74 ls []) := by
  obtain ⟨hx, hb, hr, hlocks, hml, hown, hts, hK⟩ := id C
  intro zl0 zl1 M H locs ls hP hS hl h
  unfold wp_J6_numberOfTrailingZeros_0f7a4_74 at h
  refine lv_iload_n hx hb dJ6_numberOfTrailingZeros_0f7a4_74 rfl (lv_at hl 1 rfl) ?_
  refine lv_iload_n hx hb dJ6_numberOfTrailingZeros_0f7a4_75 rfl (lv_at hl 0 rfl) ?_
  refine r_iconst hx hb dJ6_numberOfTrailingZeros_0f7a4_76 (by decide) h (fun z2 h => ?_)
  refine r_iushr hx hb dJ6_numberOfTrailingZeros_0f7a4_77 h (fun z4 h => ?_)
  refine r_iadd hx hb dJ6_numberOfTrailingZeros_0f7a4_78 h (fun z6 h => ?_)
  exact r_iret hx hb hr hlocks hP hS dJ6_numberOfTrailingZeros_0f7a4_79 h
set_option maxHeartbeats 4000000 in
set_option maxRecDepth 100000 in
theorem t_J6_numberOfTrailingZeros_0f7a4_62 {p : Program} {l : Launch} {e : Env} {s : State} {m : MethodId} {args : Array Value} {below : List Frame} {meth : Method} {c : Code} {D : va_G} {G : Gt} {S : Sh} {post : Int → Mm → Prop} (C : Cx p s m args meth c D G cJ6_numberOfTrailingZeros_0f7a4 2 (some .int) (cw_J6_numberOfTrailingZeros_0f7a4 :: gw) RJ6) : ∀ (zl0 : Int32) (zl1 : Int32) (M : Mm) (H : Heap) (locs : List Loc) (ls : Array Slot), Wd D G S M H → va_S (aG G) s.heap H locs → lv_has ls 2 [(0, .int zl0), (1, .int zl1)] → wp_J6_numberOfTrailingZeros_0f7a4_62 S post zl0.toInt zl1.toInt  M → W p l e RM_J6_numberOfTrailingZeros_0f7a4 s m args below meth c H locs 0 0 (MQ below (QI D G S post) args s 0 0 (aG G)) (F0 m 62 ls []) := by
  obtain ⟨hx, hb, hr, hlocks, hml, hown, hts, hK⟩ := id C
  intro zl0 zl1 M H locs ls hP hS hl h
  unfold wp_J6_numberOfTrailingZeros_0f7a4_62 at h
  refine lv_iload_n hx hb dJ6_numberOfTrailingZeros_0f7a4_62 rfl (lv_at hl 0 rfl) ?_
  refine r_iconst hx hb dJ6_numberOfTrailingZeros_0f7a4_63 (by decide) h (fun z8 h => ?_)
  refine r_icmp_le (tgt := 74) hx hb dJ6_numberOfTrailingZeros_0f7a4_64 (by decide) h (fun h => ?_) (fun h => ?_)
  · exact t_J6_numberOfTrailingZeros_0f7a4_74 C zl0 zl1 _ _ _ _ hP hS (lv_sub hl [0, 1] rfl) h
  · refine r_iinc hx hb (fun z10 => [(1, .int z10), (0, .int zl0)]) dJ6_numberOfTrailingZeros_0f7a4_67 (by decide) hl (k := 1) rfl (by decide) (fun _ => rfl) h (fun z10 ls hl h => ?_)
    refine lv_iload_n hx hb dJ6_numberOfTrailingZeros_0f7a4_70 rfl (lv_at hl 1 rfl) ?_
    refine r_iconst hx hb dJ6_numberOfTrailingZeros_0f7a4_71 (by decide) h (fun z12 h => ?_)
    refine r_iushr hx hb dJ6_numberOfTrailingZeros_0f7a4_72 h (fun z14 h => ?_)
    refine lv_istore_n (lv' := [(0, .int z14), (1, .int z10)]) hx hb dJ6_numberOfTrailingZeros_0f7a4_73 rfl hl (by decide) rfl (fun ls hl => ?_)
    exact t_J6_numberOfTrailingZeros_0f7a4_74 C z14 z10 _ _ _ _ hP hS (lv_sub hl [0, 1] rfl) h
set_option maxHeartbeats 4000000 in
set_option maxRecDepth 100000 in
theorem t_J6_numberOfTrailingZeros_0f7a4_49 {p : Program} {l : Launch} {e : Env} {s : State} {m : MethodId} {args : Array Value} {below : List Frame} {meth : Method} {c : Code} {D : va_G} {G : Gt} {S : Sh} {post : Int → Mm → Prop} (C : Cx p s m args meth c D G cJ6_numberOfTrailingZeros_0f7a4 2 (some .int) (cw_J6_numberOfTrailingZeros_0f7a4 :: gw) RJ6) : ∀ (zl0 : Int32) (zl1 : Int32) (M : Mm) (H : Heap) (locs : List Loc) (ls : Array Slot), Wd D G S M H → va_S (aG G) s.heap H locs → lv_has ls 2 [(0, .int zl0), (1, .int zl1)] → wp_J6_numberOfTrailingZeros_0f7a4_49 S post zl0.toInt zl1.toInt  M → W p l e RM_J6_numberOfTrailingZeros_0f7a4 s m args below meth c H locs 0 0 (MQ below (QI D G S post) args s 0 0 (aG G)) (F0 m 49 ls []) := by
  obtain ⟨hx, hb, hr, hlocks, hml, hown, hts, hK⟩ := id C
  intro zl0 zl1 M H locs ls hP hS hl h
  unfold wp_J6_numberOfTrailingZeros_0f7a4_49 at h
  refine lv_iload_n hx hb dJ6_numberOfTrailingZeros_0f7a4_49 rfl (lv_at hl 0 rfl) ?_
  refine r_bipush hx hb dJ6_numberOfTrailingZeros_0f7a4_50 (by decide) h (fun z16 h => ?_)
  refine r_icmp_le (tgt := 62) hx hb dJ6_numberOfTrailingZeros_0f7a4_52 (by decide) h (fun h => ?_) (fun h => ?_)
  · exact t_J6_numberOfTrailingZeros_0f7a4_62 C zl0 zl1 _ _ _ _ hP hS (lv_sub hl [0, 1] rfl) h
  · refine r_iinc hx hb (fun z18 => [(1, .int z18), (0, .int zl0)]) dJ6_numberOfTrailingZeros_0f7a4_55 (by decide) hl (k := 1) rfl (by decide) (fun _ => rfl) h (fun z18 ls hl h => ?_)
    refine lv_iload_n hx hb dJ6_numberOfTrailingZeros_0f7a4_58 rfl (lv_at hl 1 rfl) ?_
    refine r_iconst hx hb dJ6_numberOfTrailingZeros_0f7a4_59 (by decide) h (fun z20 h => ?_)
    refine r_iushr hx hb dJ6_numberOfTrailingZeros_0f7a4_60 h (fun z22 h => ?_)
    refine lv_istore_n (lv' := [(0, .int z22), (1, .int z18)]) hx hb dJ6_numberOfTrailingZeros_0f7a4_61 rfl hl (by decide) rfl (fun ls hl => ?_)
    exact t_J6_numberOfTrailingZeros_0f7a4_62 C z22 z18 _ _ _ _ hP hS (lv_sub hl [0, 1] rfl) h
set_option maxHeartbeats 4000000 in
set_option maxRecDepth 100000 in
theorem t_J6_numberOfTrailingZeros_0f7a4_34 {p : Program} {l : Launch} {e : Env} {s : State} {m : MethodId} {args : Array Value} {below : List Frame} {meth : Method} {c : Code} {D : va_G} {G : Gt} {S : Sh} {post : Int → Mm → Prop} (C : Cx p s m args meth c D G cJ6_numberOfTrailingZeros_0f7a4 2 (some .int) (cw_J6_numberOfTrailingZeros_0f7a4 :: gw) RJ6) : ∀ (zl0 : Int32) (zl1 : Int32) (M : Mm) (H : Heap) (locs : List Loc) (ls : Array Slot), Wd D G S M H → va_S (aG G) s.heap H locs → lv_has ls 2 [(0, .int zl0), (1, .int zl1)] → wp_J6_numberOfTrailingZeros_0f7a4_34 S post zl0.toInt zl1.toInt  M → W p l e RM_J6_numberOfTrailingZeros_0f7a4 s m args below meth c H locs 0 0 (MQ below (QI D G S post) args s 0 0 (aG G)) (F0 m 34 ls []) := by
  obtain ⟨hx, hb, hr, hlocks, hml, hown, hts, hK⟩ := id C
  intro zl0 zl1 M H locs ls hP hS hl h
  unfold wp_J6_numberOfTrailingZeros_0f7a4_34 at h
  refine lv_iload_n hx hb dJ6_numberOfTrailingZeros_0f7a4_34 rfl (lv_at hl 0 rfl) ?_
  refine r_sipush hx hb dJ6_numberOfTrailingZeros_0f7a4_35 (by decide) h (fun z24 h => ?_)
  refine r_icmp_le (tgt := 49) hx hb dJ6_numberOfTrailingZeros_0f7a4_38 (by decide) h (fun h => ?_) (fun h => ?_)
  · exact t_J6_numberOfTrailingZeros_0f7a4_49 C zl0 zl1 _ _ _ _ hP hS (lv_sub hl [0, 1] rfl) h
  · refine r_iinc hx hb (fun z26 => [(1, .int z26), (0, .int zl0)]) dJ6_numberOfTrailingZeros_0f7a4_41 (by decide) hl (k := 1) rfl (by decide) (fun _ => rfl) h (fun z26 ls hl h => ?_)
    refine lv_iload_n hx hb dJ6_numberOfTrailingZeros_0f7a4_44 rfl (lv_at hl 1 rfl) ?_
    refine r_bipush hx hb dJ6_numberOfTrailingZeros_0f7a4_45 (by decide) h (fun z28 h => ?_)
    refine r_iushr hx hb dJ6_numberOfTrailingZeros_0f7a4_47 h (fun z30 h => ?_)
    refine lv_istore_n (lv' := [(0, .int z30), (1, .int z26)]) hx hb dJ6_numberOfTrailingZeros_0f7a4_48 rfl hl (by decide) rfl (fun ls hl => ?_)
    exact t_J6_numberOfTrailingZeros_0f7a4_49 C z30 z26 _ _ _ _ hP hS (lv_sub hl [0, 1] rfl) h
set_option maxHeartbeats 4000000 in
set_option maxRecDepth 100000 in
theorem c_J6_numberOfTrailingZeros_0f7a4 (l : Launch) (D : va_G) (G : Gt) (S : Sh) (M : Mm) (zl0 : Int32) (post : Int → Mm → Prop) (h : wp_J6_numberOfTrailingZeros_0f7a4 S M zl0.toInt post) : Met l yJ6_numberOfTrailingZeros_0f7a4 (cw_J6_numberOfTrailingZeros_0f7a4 :: gw) RM_J6_numberOfTrailingZeros_0f7a4 (va_Pc [.int zl0] (fun U => KN D G U ∧ Wd D G S M U.heap)) (QI D G S post) 0 0 (aG G) := by
  refine Met.ofW (cc := cJ6_numberOfTrailingZeros_0f7a4) (maxL := 2) (ret := (some .int)) (by decide) rfl ?_
  intro p e s m args below meth c s₁ B hml hv
  obtain ⟨rfl, hK, hP⟩ := hv
  have hx := B.exec
  have hb := B.bytes
  have hr := B.returns
  have hts := atoms_spec (ws := cw_J6_numberOfTrailingZeros_0f7a4 :: gw) B.pre
  have hown : s.vm.findClass RJ6 = some m.cls := findClass_of_methodNamed B.named
  have hlocks := B.notSynchronized
  have hS : va_S (aG G) s.heap s.heap [] := va_S.rf
  have C : Cx p s m ([.int zl0] : List Value).toArray meth c D G cJ6_numberOfTrailingZeros_0f7a4 2 (some .int) (cw_J6_numberOfTrailingZeros_0f7a4 :: gw) RJ6 := ⟨hx, hb, hr, hlocks, hml, hown, hts, hK⟩
  have hl := lv_entry ([.int zl0]) (n := 2) (Nat.le_of_ble_eq_true rfl)
  rw [lg_entry_eq]
  generalize (lg_sl ([.int zl0]) ++ List.replicate (2 - (lg_sl ([.int zl0])).length) Slot.unset).toArray = ls at hl ⊢
  have hl : lv_has ls 2 [(0, .int zl0)] := hl
  unfold wp_J6_numberOfTrailingZeros_0f7a4 at h
  refine lv_iload_n hx hb dJ6_numberOfTrailingZeros_0f7a4_0 rfl (lv_at hl 0 rfl) ?_
  refine r_iconst hx hb dJ6_numberOfTrailingZeros_0f7a4_1 (by decide) h (fun z32 h => ?_)
  refine r_ixor hx hb dJ6_numberOfTrailingZeros_0f7a4_2 h (fun z34 h => ?_)
  refine lv_iload_n hx hb dJ6_numberOfTrailingZeros_0f7a4_3 rfl (lv_at hl 0 rfl) ?_
  refine r_iconst hx hb dJ6_numberOfTrailingZeros_0f7a4_4 (by decide) h (fun z36 h => ?_)
  refine r_isub hx hb dJ6_numberOfTrailingZeros_0f7a4_5 h (fun z38 h => ?_)
  refine r_iand hx hb dJ6_numberOfTrailingZeros_0f7a4_6 h (fun z40 h => ?_)
  refine lv_istore_n (lv' := [(0, .int z40)]) hx hb dJ6_numberOfTrailingZeros_0f7a4_7 rfl hl (by decide) rfl (fun ls hl => ?_)
  refine lv_iload_n hx hb dJ6_numberOfTrailingZeros_0f7a4_8 rfl (lv_at hl 0 rfl) ?_
  refine r_if_gt (tgt := 17) hx hb dJ6_numberOfTrailingZeros_0f7a4_9 (by decide) h (fun h => ?_) (fun h => ?_)
  · refine r_iconst hx hb dJ6_numberOfTrailingZeros_0f7a4_17 (by decide) h (fun z42 h => ?_)
    refine lv_istore_n (lv' := [(1, .int z42), (0, .int z40)]) hx hb dJ6_numberOfTrailingZeros_0f7a4_18 rfl hl (by decide) rfl (fun ls hl => ?_)
    refine lv_iload_n hx hb dJ6_numberOfTrailingZeros_0f7a4_19 rfl (lv_at hl 1 rfl) ?_
    refine r_ldc_w hx hb hown (hts _ (List.mem_cons_of_mem _ kw_1217)) dJ6_numberOfTrailingZeros_0f7a4_20 (n := 65536) (by decide) h (fun z44 h => ?_)
    refine r_icmp_le (tgt := 34) hx hb dJ6_numberOfTrailingZeros_0f7a4_23 (by decide) h (fun h => ?_) (fun h => ?_)
    · exact t_J6_numberOfTrailingZeros_0f7a4_34 C z40 z42 _ _ _ _ hP hS (lv_sub hl [1, 0] rfl) h
    · refine r_iinc hx hb (fun z46 => [(1, .int z46), (0, .int z40)]) dJ6_numberOfTrailingZeros_0f7a4_26 (by decide) hl (k := 0) rfl (by decide) (fun _ => rfl) h (fun z46 ls hl h => ?_)
      refine lv_iload_n hx hb dJ6_numberOfTrailingZeros_0f7a4_29 rfl (lv_at hl 1 rfl) ?_
      refine r_bipush hx hb dJ6_numberOfTrailingZeros_0f7a4_30 (by decide) h (fun z48 h => ?_)
      refine r_iushr hx hb dJ6_numberOfTrailingZeros_0f7a4_32 h (fun z50 h => ?_)
      refine lv_istore_n (lv' := [(0, .int z50), (1, .int z46)]) hx hb dJ6_numberOfTrailingZeros_0f7a4_33 rfl hl (by decide) rfl (fun ls hl => ?_)
      exact t_J6_numberOfTrailingZeros_0f7a4_34 C z50 z46 _ _ _ _ hP hS (lv_sub hl [0, 1] rfl) h
  · refine lv_iload_n hx hb dJ6_numberOfTrailingZeros_0f7a4_12 rfl (lv_at hl 0 rfl) ?_
    refine r_bipush hx hb dJ6_numberOfTrailingZeros_0f7a4_13 (by decide) h (fun z52 h => ?_)
    refine r_iand hx hb dJ6_numberOfTrailingZeros_0f7a4_15 h (fun z54 h => ?_)
    exact r_iret hx hb hr hlocks hP hS dJ6_numberOfTrailingZeros_0f7a4_16 h
end
section
/-! the rule language over a tape: bytes b, length n -/
def u8 (x : Int) : Int := if 0 ≤ x then x else x + 256
theorem u8_eq {x v : Int} (h1 : -128 ≤ x) (h2 : x ≤ 127) (h3 : 0 ≤ v) (h4 : v ≤ 127) : u8 x = v ↔ x = v := by
  unfold u8
  split <;> omega
theorem u8_r {x : Int} (h1 : -128 ≤ x) (h2 : x ≤ 127) : 0 ≤ u8 x ∧ u8 x ≤ 255 := by
  unfold u8
  split <;> omega
theorem and255 : ∀ k : Nat, k < 256 → iAnd ((k : Int) - 128) 255 = u8 ((k : Int) - 128) := by decide +kernel
theorem iAnd_u8 {x : Int} (h1 : -128 ≤ x) (h2 : x ≤ 127) : iAnd x 255 = u8 x := by
  have q := and255 (x + 128).toNat (by omega)
  rw [show (((x + 128).toNat : Nat) : Int) - 128 = x by omega] at q
  exact q
def Sk (b : Int → Int) (n p q : Int) : Prop := p ≤ q ∧ (∀ j : Int, p ≤ j → j < q → j < n ∧ b j = 32) ∧ (n ≤ q ∨ ¬ b q = 32)
theorem Sk.uniq {b : Int → Int} {n p q r : Int} (h : Sk b n p q) (k : Sk b n p r) : q = r := by
  obtain ⟨h1, h2, h3⟩ := h
  obtain ⟨k1, k2, k3⟩ := k
  by_cases e : q < r
  · have z := k2 q h1 e
    omega
  · by_cases e2 : r < q
    · have z := h2 r k1 e2
      omega
    · omega
theorem Sk.self {b : Int → Int} {n q : Int} (h : n ≤ q ∨ ¬ b q = 32) : Sk b n q q := ⟨Int.le_refl _, fun j a c => absurd c (by omega), h⟩
theorem Sk.idem {b : Int → Int} {n p q : Int} (h : Sk b n p q) : Sk b n q q := Sk.self h.2.2
theorem Sk.le {b : Int → Int} {n p q : Int} (h : Sk b n p q) (hp : p ≤ n) : q ≤ n := by
  by_cases e : q ≤ p
  · omega
  · have z := h.2.1 (q - 1) (by omega) (by omega)
    omega
theorem Sk.cons {b : Int → Int} {n p q : Int} (h : Sk b n (p + 1) q) (h1 : p < n) (h2 : b p = 32) : Sk b n p q := by
  obtain ⟨a1, a2, a3⟩ := h
  refine ⟨by omega, fun j j1 j2 => ?_, a3⟩
  by_cases e : j = p
  · rw [e]; exact ⟨h1, h2⟩
  · exact a2 j (by omega) j2
def tl (k : Nat) : Int := txL.getD k 0
def tw (k : Nat) (i : Nat) : Int := ((txB.getD k []).getD i 0).toInt
def Wk (b : Int → Int) (n : Int) (k : Nat) (q : Int) : Prop := (∀ i : Int, 0 ≤ i → i < tl k → q + i < n ∧ b (q + i) = tw k i.toNat) ∧ ¬ (q + tl k < n ∧ 97 ≤ b (q + tl k) ∧ b (q + tl k) ≤ 122)
def Dg (x : Int) : Prop := 48 ≤ x ∧ x ≤ 57
def Dr (b : Int → Int) (n q r : Int) : Prop := q ≤ r ∧ (∀ j : Int, q ≤ j → j < r → j < n ∧ Dg (b j)) ∧ ¬ (r < n ∧ Dg (b r))
theorem Dr.uniq {b : Int → Int} {n p q r : Int} (h : Dr b n p q) (k : Dr b n p r) : q = r := by
  obtain ⟨h1, h2, h3⟩ := h
  obtain ⟨k1, k2, k3⟩ := k
  by_cases e : q < r
  · exact absurd (k2 q h1 e) h3
  · by_cases e2 : r < q
    · exact absurd (h2 r k1 e2) k3
    · omega
def Ar (x : Int) : Prop := x = 42 ∨ x = 47 ∨ x = 37 ∨ x = 43 ∨ x = 45
def Cm (x : Int) : Prop := x = 60 ∨ x = 61 ∨ x = 62
abbrev Ac : Type := Int → Int → Int → List Bool → Int → Int → Prop
/-- without the nots on top -/
def dropN : List Bool → List Bool
  | [] => []
  | true :: s => true :: s
  | false :: s => dropN s
/-- down through the first bracket -/
def clos : List Bool → List Bool
  | [] => []
  | true :: s => s
  | false :: s => clos s
def st0 (b : Int → Int) (n : Int) (A : Ac) (q c k f : Int) : Prop := wIf (Wk b n 6 q) (wIf (k = 12) (f = 5 + 8 * q) (A 1 (q + 4) c [] (k + 1) f)) (f = 1 + 8 * q)
def vch (b : Int → Int) (n : Int) (A : Ac) (m q c : Int) (st : List Bool) (k f : Int) : List Nat → Prop
  | [] => f = 1 + 8 * q
  | j :: js => wIf (Wk b n j q) (wIf (c = 60) (f = 4 + 8 * q) (A (m + 3) (q + tl j) (c + 1) st k f)) (vch b n A m q c st k f js)
def vws : List Nat := [2, 7, 8, 3, 9, 4, 10, 1, 11, 12]
def stV (b : Int → Int) (n : Int) (A : Ac) (m q c : Int) (st : List Bool) (k f : Int) : Prop := wIf (q < n ∧ Dg (b q)) (∃ r : Int, Dr b n q r ∧ wIf (5 < r - q) (f = 2 + 8 * q) (wIf (c = 60) (f = 4 + 8 * q) (A (m + 3) r (c + 1) st k f))) (vch b n A m q c st k f vws)
def stA0 (b : Int → Int) (n : Int) (A : Ac) (q c : Int) (st : List Bool) (k f : Int) : Prop := wIf (n ≤ q ∨ b q = 59) (A 9 q c st k f) (wIf (Ar (b q)) (A 1 (q + 1) c st k f) (wIf (Wk b n 13 q) (A 8 (q + 2) c [] k f) (f = 1 + 8 * q)))
def stA1 (b : Int → Int) (n : Int) (A : Ac) (q c : Int) (st : List Bool) (k f : Int) : Prop := wIf (q < n ∧ Ar (b q)) (A 2 (q + 1) c st k f) (wIf (q < n ∧ Cm (b q)) (wIf (c = 60) (f = 4 + 8 * q) (wIf (¬ b q = 61 ∧ q + 1 < n ∧ b (q + 1) = 61) (A 3 (q + 2) (c + 1) st k f) (A 3 (q + 1) (c + 1) st k f))) (f = 1 + 8 * q))
def stB (b : Int → Int) (n : Int) (A : Ac) (q c : Int) (st : List Bool) (k f : Int) : Prop := wIf (Wk b n 15 q) (A 8 (q + 3) c (dropN st) k f) (wIf (Wk b n 16 q) (A 8 (q + 2) c (dropN st) k f) (f = 1 + 8 * q))
def stA2 (b : Int → Int) (n : Int) (A : Ac) (q c : Int) (st : List Bool) (k f : Int) : Prop := wIf (q < n ∧ b q = 93 ∧ true ∈ st) (A 7 (q + 1) c (clos st) k f) (wIf (¬ true ∈ st ∧ (n ≤ q ∨ b q = 59)) (A 9 q c st k f) (wIf (q < n ∧ Ar (b q)) (A 3 (q + 1) c st k f) (stB b n A q c st k f)))
def stA3 (b : Int → Int) (n : Int) (A : Ac) (q c : Int) (st : List Bool) (k f : Int) : Prop := wIf (q < n ∧ b q = 93 ∧ true ∈ st) (A 7 (q + 1) c (clos st) k f) (wIf (¬ true ∈ st ∧ (n ≤ q ∨ b q = 59)) (A 9 q c st k f) (stB b n A q c st k f))
def stO (b : Int → Int) (n : Int) (A : Ac) (q c : Int) (st : List Bool) (k f : Int) : Prop := wIf (q < n ∧ b q = 91) (wIf (st.length = 10) (f = 3 + 8 * q) (A 8 (q + 1) c (true :: st) k f)) (wIf (Wk b n 14 q) (wIf (st.length = 10) (f = 3 + 8 * q) (A 8 (q + 3) c (false :: st) k f)) (A 2 q c st k f))
def stE (b : Int → Int) (n : Int) (A : Ac) (q c k f : Int) : Prop := wIf (n ≤ q) (f = 0) (wIf (b q = 59) (A 0 (q + 1) c [] k f) (f = 1 + 8 * q))
def stp (b : Int → Int) (n : Int) (A : Ac) (m q c : Int) (st : List Bool) (k f : Int) : Prop := wIf (m = 0) (st0 b n A q c k f) (wIf (m = 1 ∨ m = 2 ∨ m = 3) (stV b n A m q c st k f) (wIf (m = 4) (stA0 b n A q c st k f) (wIf (m = 5) (stA1 b n A q c st k f) (wIf (m = 6) (stA2 b n A q c st k f) (wIf (m = 7) (stA3 b n A q c st k f) (wIf (m = 8) (stO b n A q c st k f) (stE b n A q c k f)))))))
def acc (b : Int → Int) (n : Int) : Nat → Ac
  | 0 => fun _ _ _ _ _ _ => False
  | N + 1 => fun m p c st k f => ∃ q : Int, Sk b n p q ∧ stp b n (acc b n N) m q c st k f
/-- how a reading ends: 0 if well, else its FAULT -/
def Acc (b : Int → Int) (n : Int) : Ac := fun m p c st k f => ∃ N : Nat, acc b n N m p c st k f
theorem ex_if {c : Prop} {P Q : Nat → Prop} (h1 : c → ∃ N : Nat, P N) (h2 : ¬ c → ∃ N : Nat, Q N) : ∃ N : Nat, wIf c (P N) (Q N) := by
  by_cases e : c
  · obtain ⟨N, h⟩ := h1 e
    exact ⟨N, fun _ => h, fun z => absurd e z⟩
  · obtain ⟨N, h⟩ := h2 e
    exact ⟨N, fun z => absurd z e, fun _ => h⟩
theorem a_vch {b : Int → Int} {n m q c : Int} {st : List Bool} {k f : Int} : ∀ l : List Nat, vch b n (Acc b n) m q c st k f l → ∃ N : Nat, vch b n (acc b n N) m q c st k f l := by
  intro l
  induction l with
  | nil => intro h; exact ⟨0, h⟩
  | cons j js ih =>
    intro h
    exact ex_if (fun e => ex_if (fun e2 => ⟨0, (h.1 e).1 e2⟩) (fun e2 => (h.1 e).2 e2)) (fun e => ih (h.2 e))
theorem a_step {b : Int → Int} {n m p q c : Int} {st : List Bool} {k f : Int} (hs : Sk b n p q) (h : stp b n (Acc b n) m q c st k f) : Acc b n m p c st k f := by
  have z : ∃ N : Nat, stp b n (acc b n N) m q c st k f := by
    refine ex_if (fun e => ?_) (fun e0 => ex_if (fun e => ?_) (fun e1 => ex_if (fun e => ?_) (fun e2 => ex_if (fun e => ?_) (fun e3 => ex_if (fun e => ?_) (fun e4 => ex_if (fun e => ?_) (fun e5 => ex_if (fun e => ?_) (fun e6 => ?_)))))))
    · have g := h.1 e
      exact ex_if (fun a => ex_if (fun a2 => ⟨0, (g.1 a).1 a2⟩) (fun a2 => (g.1 a).2 a2)) (fun a => ⟨0, g.2 a⟩)
    · have g := (h.2 e0).1 e
      refine ex_if (fun a => ?_) (fun a => a_vch _ (g.2 a))
      obtain ⟨r, hr, g2⟩ := g.1 a
      obtain ⟨N, hN⟩ : ∃ N : Nat, wIf (5 < r - q) (f = 2 + 8 * q) (wIf (c = 60) (f = 4 + 8 * q) (acc b n N (m + 3) r (c + 1) st k f)) := ex_if (fun a2 => ⟨0, g2.1 a2⟩) (fun a2 => ex_if (fun a3 => ⟨0, (g2.2 a2).1 a3⟩) (fun a3 => (g2.2 a2).2 a3))
      exact ⟨N, r, hr, hN⟩
    · have g := ((h.2 e0).2 e1).1 e
      exact ex_if (fun a => g.1 a) (fun a => ex_if (fun a2 => (g.2 a).1 a2) (fun a2 => ex_if (fun a3 => ((g.2 a).2 a2).1 a3) (fun a3 => ⟨0, ((g.2 a).2 a2).2 a3⟩)))
    · have g := (((h.2 e0).2 e1).2 e2).1 e
      exact ex_if (fun a => g.1 a) (fun a => ex_if (fun a2 => ex_if (fun a3 => ⟨0, ((g.2 a).1 a2).1 a3⟩) (fun a3 => ex_if (fun a4 => (((g.2 a).1 a2).2 a3).1 a4) (fun a4 => (((g.2 a).1 a2).2 a3).2 a4))) (fun a2 => ⟨0, (g.2 a).2 a2⟩))
    · have g := ((((h.2 e0).2 e1).2 e2).2 e3).1 e
      exact ex_if (fun a => g.1 a) (fun a => ex_if (fun a2 => (g.2 a).1 a2) (fun a2 => ex_if (fun a3 => ((g.2 a).2 a2).1 a3) (fun a3 => ex_if (fun a4 => (((g.2 a).2 a2).2 a3).1 a4) (fun a4 => ex_if (fun a5 => ((((g.2 a).2 a2).2 a3).2 a4).1 a5) (fun a5 => ⟨0, ((((g.2 a).2 a2).2 a3).2 a4).2 a5⟩)))))
    · have g := (((((h.2 e0).2 e1).2 e2).2 e3).2 e4).1 e
      exact ex_if (fun a => g.1 a) (fun a => ex_if (fun a2 => (g.2 a).1 a2) (fun a2 => ex_if (fun a4 => ((g.2 a).2 a2).1 a4) (fun a4 => ex_if (fun a5 => (((g.2 a).2 a2).2 a4).1 a5) (fun a5 => ⟨0, (((g.2 a).2 a2).2 a4).2 a5⟩))))
    · have g := ((((((h.2 e0).2 e1).2 e2).2 e3).2 e4).2 e5).1 e
      exact ex_if (fun a => ex_if (fun a2 => ⟨0, (g.1 a).1 a2⟩) (fun a2 => (g.1 a).2 a2)) (fun a => ex_if (fun a2 => ex_if (fun a3 => ⟨0, ((g.2 a).1 a2).1 a3⟩) (fun a3 => ((g.2 a).1 a2).2 a3)) (fun a2 => (g.2 a).2 a2))
    · have g := ((((((h.2 e0).2 e1).2 e2).2 e3).2 e4).2 e5).2 e6
      exact ex_if (fun a => ⟨0, g.1 a⟩) (fun a => ex_if (fun a2 => (g.2 a).1 a2) (fun a2 => ⟨0, (g.2 a).2 a2⟩))
  obtain ⟨N, hN⟩ := z
  exact ⟨N + 1, q, hs, hN⟩
def Dt (A B : Ac) : Prop := ∀ m p c st k f g, A m p c st k f → B m p c st k g → f = g
theorem if_det {c P Q P' Q' : Prop} {f g : Int} (h : wIf c P Q) (h' : wIf c P' Q') (h1 : P → P' → f = g) (h2 : Q → Q' → f = g) : f = g := by
  by_cases e : c
  · exact h1 (h.1 e) (h'.1 e)
  · exact h2 (h.2 e) (h'.2 e)
theorem eq_det {a f g : Int} (h : f = a) (h' : g = a) : f = g := h.trans h'.symm
theorem vch_det {b : Int → Int} {n m q c : Int} {st : List Bool} {k f g : Int} {A B : Ac} (d : Dt A B) : ∀ l : List Nat, vch b n A m q c st k f l → vch b n B m q c st k g l → f = g := by
  intro l
  induction l with
  | nil => intro h h'; exact eq_det h h'
  | cons j js ih =>
    intro h h'
    exact if_det h h' (fun h h' => if_det h h' eq_det (fun h h' => d _ _ _ _ _ _ _ h h')) ih
theorem acc_det {b : Int → Int} {n : Int} : ∀ N N' : Nat, Dt (acc b n N) (acc b n N') := by
  intro N
  induction N with
  | zero => intro N' m p c st k f g h; exact h.elim
  | succ N ih =>
    intro N'
    cases N' with
    | zero => intro m p c st k f g _ h; exact h.elim
    | succ N' =>
      intro m p c st k f g h h'
      have d := ih N'
      obtain ⟨q, hs, h⟩ := h
      obtain ⟨q', hs', h'⟩ := h'
      have e := hs.uniq hs'
      subst e
      have L : ∀ {m p c st k}, acc b n N m p c st k f → acc b n N' m p c st k g → f = g := fun h h' => d _ _ _ _ _ _ _ h h'
      refine if_det h h' (fun h h' => if_det h h' (fun h h' => if_det h h' eq_det L) eq_det) (fun h h' => if_det h h' (fun h h' => if_det h h' (fun h h' => ?_) (vch_det d _)) (fun h h' => if_det h h' (fun h h' => if_det h h' L (fun h h' => if_det h h' L (fun h h' => if_det h h' L eq_det))) (fun h h' => if_det h h' (fun h h' => if_det h h' L (fun h h' => if_det h h' (fun h h' => if_det h h' eq_det (fun h h' => if_det h h' L L)) eq_det)) (fun h h' => if_det h h' (fun h h' => if_det h h' L (fun h h' => if_det h h' L (fun h h' => if_det h h' L (fun h h' => if_det h h' L (fun h h' => if_det h h' L eq_det))))) (fun h h' => if_det h h' (fun h h' => if_det h h' L (fun h h' => if_det h h' L (fun h h' => if_det h h' L (fun h h' => if_det h h' L eq_det)))) (fun h h' => if_det h h' (fun h h' => if_det h h' (fun h h' => if_det h h' eq_det L) (fun h h' => if_det h h' (fun h h' => if_det h h' eq_det L) L)) (fun h h' => if_det h h' eq_det (fun h h' => if_det h h' L eq_det))))))))
      obtain ⟨r, hr, h⟩ := h
      obtain ⟨r', hr', h'⟩ := h'
      have e := hr.uniq hr'
      subst e
      exact if_det h h' eq_det (fun h h' => if_det h h' eq_det L)
theorem Acc.det {b : Int → Int} {n m p c : Int} {st : List Bool} {k f g : Int} (h : Acc b n m p c st k f) (h' : Acc b n m p c st k g) : f = g := by
  obtain ⟨N, h⟩ := h
  obtain ⟨N', h'⟩ := h'
  exact acc_det N N' _ _ _ _ _ _ _ h h'
end
