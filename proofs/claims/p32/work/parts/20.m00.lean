/-! TurningMilkModel.four(I)V -/
abbrev RM_X12_four : Room := { frames := 1, cells := 0, slots := 0, locals := 40 }
def cw_X12_four : Cond := Cond.code yX12_four cX12_four 3 (Option.none : Option FieldType)
theorem hd_X12_four : yX12_four.cls ≠ "java/lang/invoke/MethodHandle" ∧ yX12_four.cls ≠ "java/lang/invoke/VarHandle" ∧ (parseMethodDescriptor yX12_four.desc).map (fun d => d.parameters.length) = some 1 := by decide +kernel
theorem dX12_four_0 : decode cX12_four 0 = .ok (.bipush 24, 2) := by decide +kernel
theorem dX12_four_2 : decode cX12_four 2 = .ok (.istore_n 2, 1) := by decide +kernel
theorem dX12_four_3 : decode cX12_four 3 = .ok (.iload_n 2, 1) := by decide +kernel
theorem dX12_four_4 : decode cX12_four 4 = .ok (.ifCond .lt 32, 3) := by decide +kernel
theorem dX12_four_7 : decode cX12_four 7 = .ok (.aload_n 0, 1) := by decide +kernel
theorem dX12_four_8 : decode cX12_four 8 = .ok (.getfield 7, 3) := by decide +kernel
theorem dX12_four_11 : decode cX12_four 11 = .ok (.aload_n 0, 1) := by decide +kernel
theorem dX12_four_12 : decode cX12_four 12 = .ok (.getfield 80, 3) := by decide +kernel
theorem dX12_four_15 : decode cX12_four 15 = .ok (.iload_n 1, 1) := by decide +kernel
theorem dX12_four_16 : decode cX12_four 16 = .ok (.iload_n 2, 1) := by decide +kernel
theorem dX12_four_17 : decode cX12_four 17 = .ok (.ishr, 1) := by decide +kernel
theorem dX12_four_18 : decode cX12_four 18 = .ok (.i2b, 1) := by decide +kernel
theorem dX12_four_19 : decode cX12_four 19 = .ok (.bastore, 1) := by decide +kernel
theorem dX12_four_20 : decode cX12_four 20 = .ok (.aload_n 0, 1) := by decide +kernel
theorem dX12_four_21 : decode cX12_four 21 = .ok (.dup, 1) := by decide +kernel
theorem dX12_four_22 : decode cX12_four 22 = .ok (.getfield 80, 3) := by decide +kernel
theorem dX12_four_25 : decode cX12_four 25 = .ok (.iconst 1, 1) := by decide +kernel
theorem dX12_four_26 : decode cX12_four 26 = .ok (.iadd, 1) := by decide +kernel
theorem dX12_four_27 : decode cX12_four 27 = .ok (.putfield 80, 3) := by decide +kernel
theorem dX12_four_30 : decode cX12_four 30 = .ok (.iinc 2 (-8), 3) := by decide +kernel
theorem dX12_four_33 : decode cX12_four 33 = .ok (.goto (-30), 3) := by decide +kernel
theorem dX12_four_36 : decode cX12_four 36 = .ok (.return_, 1) := by decide +kernel
def wp_X12_four_3 (S : Sh) (post : Mm → Prop) : Nat → Int → Int → Int → Mm → Prop
  | 0, _, _, _, _ => False
  | n + 1, u0, u1, u2, M => wIf (u2 < 0) (post M) (wGetR S M u0 12 0 fun v1 => wGet S M u0 12 1 fun v3 => wO iShr u1 u2 fun v5 => wO1 i2b v5 fun v7 => wStB S M v1 13 v3 v7 fun M9 => wGet S M9 u0 12 1 fun v10 => wC 1 fun v12 => wA v10 v12 fun v14 => wPut S M9 u0 12 1 v14 fun M16 => wA u2 (-8) fun v17 => wp_X12_four_3 S post n u0 u1 v17 M16)
def wp_X12_four (S : Sh) (M : Mm) (u0 : Int) (u1 : Int) (post : Mm → Prop) : Prop := wC 24 fun v19 => ∃ n9 : Nat, wp_X12_four_3 S post n9 u0 u1 v19 M
set_option maxHeartbeats 4000000 in
set_option maxRecDepth 100000 in
theorem t_X12_four_3 {p : Program} {l : Launch} {e : Env} {s : State} {m : MethodId} {args : Array Value} {below : List Frame} {meth : Method} {c : Code} {D : va_G} {G : Gt} {S : Sh} {post : Mm → Prop} (C : Cx p s m args meth c D G cX12_four 3 none (cw_X12_four :: gw) RX12) : ∀ (n : Nat) (xl0 : Int) (zl1 : Int32) (zl2 : Int32) (M : Mm) (H : Heap) (locs : List Loc) (ls : Array Slot), Wd D G S M H → va_S (aG G) s.heap H locs → lv_has ls 3 [(0, .ref (adr G xl0)), (1, .int zl1), (2, .int zl2)] → wp_X12_four_3 S post n xl0 zl1.toInt zl2.toInt  M → W p l e RM_X12_four s m args below meth c H locs 0 0 (MQ below (QV D G S post) args s 0 0 (aG G)) (F0 m 3 ls []) := by
  obtain ⟨hx, hb, hr, hlocks, hml, hown, hts, hK⟩ := id C
  intro n
  induction n with
  | zero => intro xl0 zl1 zl2 M H locs ls hP hS hl h; exact h.elim
  | succ n ih =>
    intro xl0 zl1 zl2 M H locs ls hP hS hl h
    unfold wp_X12_four_3 at h
    refine lv_iload_n hx hb dX12_four_3 rfl (lv_at hl 2 rfl) ?_
    refine r_if_lt (tgt := 36) hx hb dX12_four_4 (by decide) h (fun h => ?_) (fun h => ?_)
    · exact r_vret hx hb hr hlocks hP hS dX12_four_36 h
    · refine lv_aload_n hx hb dX12_four_7 rfl (lv_at hl 0 rfl) ?_
      refine r_getr (C := RX12) (T := TX12) (N := 38) hx hb hts (fun w h => List.mem_cons_of_mem _ (iX12 w h)) hown hK hP rfl (by decide) rfl 0 (by decide) (hts _ (List.mem_cons_of_mem _ kw_1334)) (fun _ h9 => h9) dX12_four_8 (by decide) h (fun x2 h => ?_)
      refine lv_aload_n hx hb dX12_four_11 rfl (lv_at hl 0 rfl) ?_
      refine r_geti (C := RX12) (T := TX12) (N := 38) hx hb hts (fun w h => List.mem_cons_of_mem _ (iX12 w h)) hown hK hP rfl (by decide) rfl 1 (by decide) (hts _ (List.mem_cons_of_mem _ kw_1335)) (fun _ h9 => h9) dX12_four_12 (by decide) h (fun z4 h => ?_)
      refine lv_iload_n hx hb dX12_four_15 rfl (lv_at hl 1 rfl) ?_
      refine lv_iload_n hx hb dX12_four_16 rfl (lv_at hl 2 rfl) ?_
      refine r_ishr hx hb dX12_four_17 h (fun z6 h => ?_)
      refine r_i2b hx hb dX12_four_18 h (fun z8 h => ?_)
      refine r_bast hx hb hK hP hS dX12_four_19 h (fun M9 H locs h hP hS => ?_)
      refine lv_aload_n hx hb dX12_four_20 rfl (lv_at hl 0 rfl) ?_
      refine lv_dup hx hb dX12_four_21 rfl ?_
      refine r_geti (C := RX12) (T := TX12) (N := 38) hx hb hts (fun w h => List.mem_cons_of_mem _ (iX12 w h)) hown hK hP rfl (by decide) rfl 1 (by decide) (hts _ (List.mem_cons_of_mem _ kw_1335)) (fun _ h9 => h9) dX12_four_22 (by decide) h (fun z11 h => ?_)
      refine r_iconst hx hb dX12_four_25 (by decide) h (fun z13 h => ?_)
      refine r_iadd hx hb dX12_four_26 h (fun z15 h => ?_)
      refine r_puti (C := RX12) (T := TX12) (N := 38) hx hb hts (fun w h => List.mem_cons_of_mem _ (iX12 w h)) hown hK hP tyX12 tyX12_ok nmX12 hS rfl (by decide) rfl 1 (by decide) (hts _ (List.mem_cons_of_mem _ kw_1335)) (fun _ h9 => h9) rfl (tyX12_ok 1 (by decide)) rfl rfl dX12_four_27 (by decide) h (fun M16 H locs h hP hS => ?_)
      refine r_iinc hx hb (fun z18 => [(2, .int z18), (0, .ref (adr G xl0)), (1, .int zl1)]) dX12_four_30 (by decide) hl (k := 2) rfl (by decide) (fun _ => rfl) h (fun z18 ls hl h => ?_)
      refine lv_goto (tgt := 3) hx hb dX12_four_33 (by decide) ?_
      exact ih xl0 zl1 z18 _ _ _ _ hP hS (lv_sub hl [1, 2, 0] rfl) h
set_option maxHeartbeats 4000000 in
set_option maxRecDepth 100000 in
theorem c_X12_four (l : Launch) (D : va_G) (G : Gt) (S : Sh) (M : Mm) (xl0 : Int) (zl1 : Int32) (post : Mm → Prop) (h : wp_X12_four S M xl0 zl1.toInt post) : Met l yX12_four (cw_X12_four :: gw) RM_X12_four (va_Pc [.ref (adr G xl0), .int zl1] (fun U => KN D G U ∧ Wd D G S M U.heap)) (QV D G S post) 0 0 (aG G) := by
  refine Met.ofW (cc := cX12_four) (maxL := 3) (ret := none) (by decide) rfl ?_
  intro p e s m args below meth c s₁ B hml hv
  obtain ⟨rfl, hK, hP⟩ := hv
  have hx := B.exec
  have hb := B.bytes
  have hr := B.returns
  have hts := atoms_spec (ws := cw_X12_four :: gw) B.pre
  have hown : s.vm.findClass RX12 = some m.cls := findClass_of_methodNamed B.named
  have hlocks := B.notSynchronized
  have hS : va_S (aG G) s.heap s.heap [] := va_S.rf
  have C : Cx p s m ([.ref (adr G xl0), .int zl1] : List Value).toArray meth c D G cX12_four 3 none (cw_X12_four :: gw) RX12 := ⟨hx, hb, hr, hlocks, hml, hown, hts, hK⟩
  have hl := lv_entry ([.ref (adr G xl0), .int zl1]) (n := 3) (Nat.le_of_ble_eq_true rfl)
  rw [lg_entry_eq]
  generalize (lg_sl ([.ref (adr G xl0), .int zl1]) ++ List.replicate (3 - (lg_sl ([.ref (adr G xl0), .int zl1])).length) Slot.unset).toArray = ls at hl ⊢
  have hl : lv_has ls 3 [(0, .ref (adr G xl0)), (1, .int zl1)] := hl
  unfold wp_X12_four at h
  refine r_bipush hx hb dX12_four_0 (by decide) h (fun z20 h => ?_)
  refine lv_istore_n (lv' := [(2, .int z20), (0, .ref (adr G xl0)), (1, .int zl1)]) hx hb dX12_four_2 rfl hl (by decide) rfl (fun ls hl => ?_)
  obtain ⟨n9, h⟩ := h
  exact t_X12_four_3 C n9 xl0 zl1 z20 _ _ _ _ hP hS (lv_sub hl [1, 2, 0] rfl) h
/-! TurningMilkModel.feed(IIIII)I -/
abbrev RM_X12_feed : Room := { frames := 2, cells := 0, slots := 0, locals := 62 }
def cw_X12_feed : Cond := Cond.code yX12_feed cX12_feed 6 (Option.some FieldType.int)
theorem hd_X12_feed : yX12_feed.cls ≠ "java/lang/invoke/MethodHandle" ∧ yX12_feed.cls ≠ "java/lang/invoke/VarHandle" ∧ (parseMethodDescriptor yX12_feed.desc).map (fun d => d.parameters.length) = some 5 := by decide +kernel
theorem dX12_feed_0 : decode cX12_feed 0 = .ok (.aload_n 0, 1) := by decide +kernel
theorem dX12_feed_1 : decode cX12_feed 1 = .ok (.getfield 80, 3) := by decide +kernel
theorem dX12_feed_4 : decode cX12_feed 4 = .ok (.bipush 20, 2) := by decide +kernel
theorem dX12_feed_6 : decode cX12_feed 6 = .ok (.iadd, 1) := by decide +kernel
theorem dX12_feed_7 : decode cX12_feed 7 = .ok (.sipush 400, 3) := by decide +kernel
theorem dX12_feed_10 : decode cX12_feed 10 = .ok (.if_icmp .le 5, 3) := by decide +kernel
theorem dX12_feed_13 : decode cX12_feed 13 = .ok (.iconst (-1), 1) := by decide +kernel
theorem dX12_feed_14 : decode cX12_feed 14 = .ok (.ireturn, 1) := by decide +kernel
theorem dX12_feed_15 : decode cX12_feed 15 = .ok (.aload_n 0, 1) := by decide +kernel
theorem dX12_feed_16 : decode cX12_feed 16 = .ok (.iload_n 1, 1) := by decide +kernel
theorem dX12_feed_17 : decode cX12_feed 17 = .ok (.invokevirtual 83, 3) := by decide +kernel
theorem dX12_feed_20 : decode cX12_feed 20 = .ok (.aload_n 0, 1) := by decide +kernel
theorem dX12_feed_21 : decode cX12_feed 21 = .ok (.iload_n 2, 1) := by decide +kernel
theorem dX12_feed_22 : decode cX12_feed 22 = .ok (.invokevirtual 83, 3) := by decide +kernel
theorem dX12_feed_25 : decode cX12_feed 25 = .ok (.aload_n 0, 1) := by decide +kernel
theorem dX12_feed_26 : decode cX12_feed 26 = .ok (.iload_n 3, 1) := by decide +kernel
theorem dX12_feed_27 : decode cX12_feed 27 = .ok (.invokevirtual 83, 3) := by decide +kernel
theorem dX12_feed_30 : decode cX12_feed 30 = .ok (.aload_n 0, 1) := by decide +kernel
theorem dX12_feed_31 : decode cX12_feed 31 = .ok (.iload 4, 2) := by decide +kernel
theorem dX12_feed_33 : decode cX12_feed 33 = .ok (.invokevirtual 83, 3) := by decide +kernel
theorem dX12_feed_36 : decode cX12_feed 36 = .ok (.aload_n 0, 1) := by decide +kernel
theorem dX12_feed_37 : decode cX12_feed 37 = .ok (.iload 5, 2) := by decide +kernel
theorem dX12_feed_39 : decode cX12_feed 39 = .ok (.invokevirtual 83, 3) := by decide +kernel
theorem dX12_feed_42 : decode cX12_feed 42 = .ok (.aload_n 0, 1) := by decide +kernel
theorem dX12_feed_43 : decode cX12_feed 43 = .ok (.getfield 80, 3) := by decide +kernel
theorem dX12_feed_46 : decode cX12_feed 46 = .ok (.ireturn, 1) := by decide +kernel
def wp_X12_feed (S : Sh) (M : Mm) (u0 : Int) (u1 : Int) (u2 : Int) (u3 : Int) (u4 : Int) (u5 : Int) (post : Int → Mm → Prop) : Prop := wGet S M u0 12 1 fun v1 => wC 20 fun v3 => wA v1 v3 fun v5 => wC 400 fun v7 => wIf (v5 ≤ v7) (isK S u0 12 ∧ (wp_X12_four S M u0 u1 <| fun M9 => isK S u0 12 ∧ (wp_X12_four S M9 u0 u2 <| fun M10 => isK S u0 12 ∧ (wp_X12_four S M10 u0 u3 <| fun M11 => isK S u0 12 ∧ (wp_X12_four S M11 u0 u4 <| fun M12 => isK S u0 12 ∧ (wp_X12_four S M12 u0 u5 <| fun M13 => wGet S M13 u0 12 1 fun v14 => post v14 M13)))))) (wC (-1) fun v16 => post v16 M)
set_option maxHeartbeats 4000000 in
set_option maxRecDepth 100000 in
theorem c_X12_feed (l : Launch) (D : va_G) (G : Gt) (S : Sh) (M : Mm) (xl0 : Int) (zl1 : Int32) (zl2 : Int32) (zl3 : Int32) (zl4 : Int32) (zl5 : Int32) (post : Int → Mm → Prop) (h : wp_X12_feed S M xl0 zl1.toInt zl2.toInt zl3.toInt zl4.toInt zl5.toInt post) : Met l yX12_feed (cw_X12_feed :: gw) RM_X12_feed (va_Pc [.ref (adr G xl0), .int zl1, .int zl2, .int zl3, .int zl4, .int zl5] (fun U => KN D G U ∧ Wd D G S M U.heap)) (QI D G S post) 0 0 (aG G) := by
  refine Met.ofW (cc := cX12_feed) (maxL := 6) (ret := (some .int)) (by decide) rfl ?_
  intro p e s m args below meth c s₁ B hml hv
  obtain ⟨rfl, hK, hP⟩ := hv
  have hx := B.exec
  have hb := B.bytes
  have hr := B.returns
  have hts := atoms_spec (ws := cw_X12_feed :: gw) B.pre
  have hown : s.vm.findClass RX12 = some m.cls := findClass_of_methodNamed B.named
  have hlocks := B.notSynchronized
  have hS : va_S (aG G) s.heap s.heap [] := va_S.rf
  have C : Cx p s m ([.ref (adr G xl0), .int zl1, .int zl2, .int zl3, .int zl4, .int zl5] : List Value).toArray meth c D G cX12_feed 6 (some .int) (cw_X12_feed :: gw) RX12 := ⟨hx, hb, hr, hlocks, hml, hown, hts, hK⟩
  have hl := lv_entry ([.ref (adr G xl0), .int zl1, .int zl2, .int zl3, .int zl4, .int zl5]) (n := 6) (Nat.le_of_ble_eq_true rfl)
  rw [lg_entry_eq]
  generalize (lg_sl ([.ref (adr G xl0), .int zl1, .int zl2, .int zl3, .int zl4, .int zl5]) ++ List.replicate (6 - (lg_sl ([.ref (adr G xl0), .int zl1, .int zl2, .int zl3, .int zl4, .int zl5])).length) Slot.unset).toArray = ls at hl ⊢
  have hl : lv_has ls 6 [(0, .ref (adr G xl0)), (1, .int zl1), (2, .int zl2), (3, .int zl3), (4, .int zl4), (5, .int zl5)] := hl
  unfold wp_X12_feed at h
  refine lv_aload_n hx hb dX12_feed_0 rfl (lv_at hl 0 rfl) ?_
  refine r_geti (C := RX12) (T := TX12) (N := 38) hx hb hts (fun w h => List.mem_cons_of_mem _ (iX12 w h)) hown hK hP rfl (by decide) rfl 1 (by decide) (hts _ (List.mem_cons_of_mem _ kw_1335)) (fun _ h9 => h9) dX12_feed_1 (by decide) h (fun z2 h => ?_)
  refine r_bipush hx hb dX12_feed_4 (by decide) h (fun z4 h => ?_)
  refine r_iadd hx hb dX12_feed_6 h (fun z6 h => ?_)
  refine r_sipush hx hb dX12_feed_7 (by decide) h (fun z8 h => ?_)
  refine r_icmp_le (tgt := 15) hx hb dX12_feed_10 (by decide) h (fun h => ?_) (fun h => ?_)
  · refine lv_aload_n hx hb dX12_feed_15 rfl (lv_at hl 0 rfl) ?_
    refine lv_iload_n hx hb dX12_feed_16 rfl (lv_at hl 1 rfl) ?_
    refine q_Vv hx hb hml hown hts hK hP hS (c_X12_four l D G S _ xl0 zl1 _ h.2) ⟨callB_of 1 hts (gw_good kw_1457) rfl rfl rfl (hts _ (List.mem_cons_of_mem _ kw_14)) (hts _ (List.mem_cons_of_mem _ kw_1454)) hd_X12_four ⟨Nat.le_of_ble_eq_true rfl, Nat.le_of_ble_eq_true rfl⟩, (hts _ (List.mem_cons_of_mem _ kw_1456)), (hts _ (List.mem_cons_of_mem _ kp_51))⟩ h.1 (ci := 12) rfl (by decide) rfl hl.1 rfl (lv_room (Nat.le_of_ble_eq_true rfl)) dX12_feed_17 ⟨Nat.zero_le _, Nat.zero_le _⟩ (fun M9 H locs h hP hS => ?_)
    refine lv_aload_n hx hb dX12_feed_20 rfl (lv_at hl 0 rfl) ?_
    refine lv_iload_n hx hb dX12_feed_21 rfl (lv_at hl 2 rfl) ?_
    refine q_Vv hx hb hml hown hts hK hP hS (c_X12_four l D G S _ xl0 zl2 _ h.2) ⟨callB_of 1 hts (gw_good kw_1457) rfl rfl rfl (hts _ (List.mem_cons_of_mem _ kw_14)) (hts _ (List.mem_cons_of_mem _ kw_1454)) hd_X12_four ⟨Nat.le_of_ble_eq_true rfl, Nat.le_of_ble_eq_true rfl⟩, (hts _ (List.mem_cons_of_mem _ kw_1456)), (hts _ (List.mem_cons_of_mem _ kp_51))⟩ h.1 (ci := 12) rfl (by decide) rfl hl.1 rfl (lv_room (Nat.le_of_ble_eq_true rfl)) dX12_feed_22 ⟨Nat.zero_le _, Nat.zero_le _⟩ (fun M10 H locs h hP hS => ?_)
    refine lv_aload_n hx hb dX12_feed_25 rfl (lv_at hl 0 rfl) ?_
    refine lv_iload_n hx hb dX12_feed_26 rfl (lv_at hl 3 rfl) ?_
    refine q_Vv hx hb hml hown hts hK hP hS (c_X12_four l D G S _ xl0 zl3 _ h.2) ⟨callB_of 1 hts (gw_good kw_1457) rfl rfl rfl (hts _ (List.mem_cons_of_mem _ kw_14)) (hts _ (List.mem_cons_of_mem _ kw_1454)) hd_X12_four ⟨Nat.le_of_ble_eq_true rfl, Nat.le_of_ble_eq_true rfl⟩, (hts _ (List.mem_cons_of_mem _ kw_1456)), (hts _ (List.mem_cons_of_mem _ kp_51))⟩ h.1 (ci := 12) rfl (by decide) rfl hl.1 rfl (lv_room (Nat.le_of_ble_eq_true rfl)) dX12_feed_27 ⟨Nat.zero_le _, Nat.zero_le _⟩ (fun M11 H locs h hP hS => ?_)
    refine lv_aload_n hx hb dX12_feed_30 rfl (lv_at hl 0 rfl) ?_
    refine lv_iload hx hb dX12_feed_31 (lv_at hl 4 rfl) ?_
    refine q_Vv hx hb hml hown hts hK hP hS (c_X12_four l D G S _ xl0 zl4 _ h.2) ⟨callB_of 1 hts (gw_good kw_1457) rfl rfl rfl (hts _ (List.mem_cons_of_mem _ kw_14)) (hts _ (List.mem_cons_of_mem _ kw_1454)) hd_X12_four ⟨Nat.le_of_ble_eq_true rfl, Nat.le_of_ble_eq_true rfl⟩, (hts _ (List.mem_cons_of_mem _ kw_1456)), (hts _ (List.mem_cons_of_mem _ kp_51))⟩ h.1 (ci := 12) rfl (by decide) rfl hl.1 rfl (lv_room (Nat.le_of_ble_eq_true rfl)) dX12_feed_33 ⟨Nat.zero_le _, Nat.zero_le _⟩ (fun M12 H locs h hP hS => ?_)
    refine lv_aload_n hx hb dX12_feed_36 rfl (lv_at hl 0 rfl) ?_
    refine lv_iload hx hb dX12_feed_37 (lv_at hl 5 rfl) ?_
    refine q_Vv hx hb hml hown hts hK hP hS (c_X12_four l D G S _ xl0 zl5 _ h.2) ⟨callB_of 1 hts (gw_good kw_1457) rfl rfl rfl (hts _ (List.mem_cons_of_mem _ kw_14)) (hts _ (List.mem_cons_of_mem _ kw_1454)) hd_X12_four ⟨Nat.le_of_ble_eq_true rfl, Nat.le_of_ble_eq_true rfl⟩, (hts _ (List.mem_cons_of_mem _ kw_1456)), (hts _ (List.mem_cons_of_mem _ kp_51))⟩ h.1 (ci := 12) rfl (by decide) rfl hl.1 rfl (lv_room (Nat.le_of_ble_eq_true rfl)) dX12_feed_39 ⟨Nat.zero_le _, Nat.zero_le _⟩ (fun M13 H locs h hP hS => ?_)
    refine lv_aload_n hx hb dX12_feed_42 rfl (lv_at hl 0 rfl) ?_
    refine r_geti (C := RX12) (T := TX12) (N := 38) hx hb hts (fun w h => List.mem_cons_of_mem _ (iX12 w h)) hown hK hP rfl (by decide) rfl 1 (by decide) (hts _ (List.mem_cons_of_mem _ kw_1335)) (fun _ h9 => h9) dX12_feed_43 (by decide) h (fun z15 h => ?_)
    exact r_iret hx hb hr hlocks hP hS dX12_feed_46 h
  · refine r_iconst hx hb dX12_feed_13 (by decide) h (fun z17 h => ?_)
    exact r_iret hx hb hr hlocks hP hS dX12_feed_14 h
/-! TurningMilkModel.end(I)I -/
abbrev RM_X12_end : Room := { frames := 1, cells := 0, slots := 0, locals := 40 }
def cw_X12_end : Cond := Cond.code yX12_end cX12_end 2 (Option.some FieldType.int)
theorem hd_X12_end : yX12_end.cls ≠ "java/lang/invoke/MethodHandle" ∧ yX12_end.cls ≠ "java/lang/invoke/VarHandle" ∧ (parseMethodDescriptor yX12_end.desc).map (fun d => d.parameters.length) = some 1 := by decide +kernel
theorem dX12_end_0 : decode cX12_end 0 = .ok (.iload_n 1, 1) := by decide +kernel
theorem dX12_end_1 : decode cX12_end 1 = .ok (.ifCond .lt 11, 3) := by decide +kernel
theorem dX12_end_4 : decode cX12_end 4 = .ok (.iload_n 1, 1) := by decide +kernel
theorem dX12_end_5 : decode cX12_end 5 = .ok (.aload_n 0, 1) := by decide +kernel
theorem dX12_end_6 : decode cX12_end 6 = .ok (.getfield 80, 3) := by decide +kernel
theorem dX12_end_9 : decode cX12_end 9 = .ok (.if_icmp .le 5, 3) := by decide +kernel
theorem dX12_end_12 : decode cX12_end 12 = .ok (.iconst (-1), 1) := by decide +kernel
theorem dX12_end_13 : decode cX12_end 13 = .ok (.ireturn, 1) := by decide +kernel
theorem dX12_end_14 : decode cX12_end 14 = .ok (.aload_n 0, 1) := by decide +kernel
theorem dX12_end_15 : decode cX12_end 15 = .ok (.iload_n 1, 1) := by decide +kernel
theorem dX12_end_16 : decode cX12_end 16 = .ok (.putfield 80, 3) := by decide +kernel
theorem dX12_end_19 : decode cX12_end 19 = .ok (.iload_n 1, 1) := by decide +kernel
theorem dX12_end_20 : decode cX12_end 20 = .ok (.ireturn, 1) := by decide +kernel
def wp_X12_end (S : Sh) (M : Mm) (u0 : Int) (u1 : Int) (post : Int → Mm → Prop) : Prop := wIf (u1 < 0) (wC (-1) fun v1 => post v1 M) (wGet S M u0 12 1 fun v3 => wIf (u1 ≤ v3) (wPut S M u0 12 1 u1 fun M5 => post u1 M5) (wC (-1) fun v6 => post v6 M))
set_option maxHeartbeats 4000000 in
set_option maxRecDepth 100000 in
theorem c_X12_end (l : Launch) (D : va_G) (G : Gt) (S : Sh) (M : Mm) (xl0 : Int) (zl1 : Int32) (post : Int → Mm → Prop) (h : wp_X12_end S M xl0 zl1.toInt post) : Met l yX12_end (cw_X12_end :: gw) RM_X12_end (va_Pc [.ref (adr G xl0), .int zl1] (fun U => KN D G U ∧ Wd D G S M U.heap)) (QI D G S post) 0 0 (aG G) := by
  refine Met.ofW (cc := cX12_end) (maxL := 2) (ret := (some .int)) (by decide) rfl ?_
  intro p e s m args below meth c s₁ B hml hv
  obtain ⟨rfl, hK, hP⟩ := hv
  have hx := B.exec
  have hb := B.bytes
  have hr := B.returns
  have hts := atoms_spec (ws := cw_X12_end :: gw) B.pre
  have hown : s.vm.findClass RX12 = some m.cls := findClass_of_methodNamed B.named
  have hlocks := B.notSynchronized
  have hS : va_S (aG G) s.heap s.heap [] := va_S.rf
  have C : Cx p s m ([.ref (adr G xl0), .int zl1] : List Value).toArray meth c D G cX12_end 2 (some .int) (cw_X12_end :: gw) RX12 := ⟨hx, hb, hr, hlocks, hml, hown, hts, hK⟩
  have hl := lv_entry ([.ref (adr G xl0), .int zl1]) (n := 2) (Nat.le_of_ble_eq_true rfl)
  rw [lg_entry_eq]
  generalize (lg_sl ([.ref (adr G xl0), .int zl1]) ++ List.replicate (2 - (lg_sl ([.ref (adr G xl0), .int zl1])).length) Slot.unset).toArray = ls at hl ⊢
  have hl : lv_has ls 2 [(0, .ref (adr G xl0)), (1, .int zl1)] := hl
  unfold wp_X12_end at h
  refine lv_iload_n hx hb dX12_end_0 rfl (lv_at hl 1 rfl) ?_
  refine r_if_lt (tgt := 12) hx hb dX12_end_1 (by decide) h (fun h => ?_) (fun h => ?_)
  · refine r_iconst hx hb dX12_end_12 (by decide) h (fun z2 h => ?_)
    exact r_iret hx hb hr hlocks hP hS dX12_end_13 h
  · refine lv_iload_n hx hb dX12_end_4 rfl (lv_at hl 1 rfl) ?_
    refine lv_aload_n hx hb dX12_end_5 rfl (lv_at hl 0 rfl) ?_
    refine r_geti (C := RX12) (T := TX12) (N := 38) hx hb hts (fun w h => List.mem_cons_of_mem _ (iX12 w h)) hown hK hP rfl (by decide) rfl 1 (by decide) (hts _ (List.mem_cons_of_mem _ kw_1335)) (fun _ h9 => h9) dX12_end_6 (by decide) h (fun z4 h => ?_)
    refine r_icmp_le (tgt := 14) hx hb dX12_end_9 (by decide) h (fun h => ?_) (fun h => ?_)
    · refine lv_aload_n hx hb dX12_end_14 rfl (lv_at hl 0 rfl) ?_
      refine lv_iload_n hx hb dX12_end_15 rfl (lv_at hl 1 rfl) ?_
      refine r_puti (C := RX12) (T := TX12) (N := 38) hx hb hts (fun w h => List.mem_cons_of_mem _ (iX12 w h)) hown hK hP tyX12 tyX12_ok nmX12 hS rfl (by decide) rfl 1 (by decide) (hts _ (List.mem_cons_of_mem _ kw_1335)) (fun _ h9 => h9) rfl (tyX12_ok 1 (by decide)) rfl rfl dX12_end_16 (by decide) h (fun M5 H locs h hP hS => ?_)
      refine lv_iload_n hx hb dX12_end_19 rfl (lv_at hl 1 rfl) ?_
      exact r_iret hx hb hr hlocks hP hS dX12_end_20 h
    · refine r_iconst hx hb dX12_end_12 (by decide) h (fun z7 h => ?_)
      exact r_iret hx hb hr hlocks hP hS dX12_end_13 h
/-! TurningMilkModel.see()I -/
abbrev RM_X12_see : Room := { frames := 1, cells := 0, slots := 0, locals := 40 }
def cw_X12_see : Cond := Cond.code yX12_see cX12_see 1 (Option.some FieldType.int)
theorem hd_X12_see : yX12_see.cls ≠ "java/lang/invoke/MethodHandle" ∧ yX12_see.cls ≠ "java/lang/invoke/VarHandle" ∧ (parseMethodDescriptor yX12_see.desc).map (fun d => d.parameters.length) = some 0 := by decide +kernel
theorem dX12_see_0 : decode cX12_see 0 = .ok (.aload_n 0, 1) := by decide +kernel
theorem dX12_see_1 : decode cX12_see 1 = .ok (.getfield 90, 3) := by decide +kernel
theorem dX12_see_4 : decode cX12_see 4 = .ok (.aload_n 0, 1) := by decide +kernel
theorem dX12_see_5 : decode cX12_see 5 = .ok (.getfield 80, 3) := by decide +kernel
theorem dX12_see_8 : decode cX12_see 8 = .ok (.if_icmp .ge 30, 3) := by decide +kernel
theorem dX12_see_11 : decode cX12_see 11 = .ok (.aload_n 0, 1) := by decide +kernel
theorem dX12_see_12 : decode cX12_see 12 = .ok (.getfield 7, 3) := by decide +kernel
theorem dX12_see_15 : decode cX12_see 15 = .ok (.aload_n 0, 1) := by decide +kernel
theorem dX12_see_16 : decode cX12_see 16 = .ok (.getfield 90, 3) := by decide +kernel
theorem dX12_see_19 : decode cX12_see 19 = .ok (.baload, 1) := by decide +kernel
theorem dX12_see_20 : decode cX12_see 20 = .ok (.bipush 32, 2) := by decide +kernel
theorem dX12_see_22 : decode cX12_see 22 = .ok (.if_icmp .ne 16, 3) := by decide +kernel
theorem dX12_see_25 : decode cX12_see 25 = .ok (.aload_n 0, 1) := by decide +kernel
theorem dX12_see_26 : decode cX12_see 26 = .ok (.dup, 1) := by decide +kernel
theorem dX12_see_27 : decode cX12_see 27 = .ok (.getfield 90, 3) := by decide +kernel
theorem dX12_see_30 : decode cX12_see 30 = .ok (.iconst 1, 1) := by decide +kernel
theorem dX12_see_31 : decode cX12_see 31 = .ok (.iadd, 1) := by decide +kernel
theorem dX12_see_32 : decode cX12_see 32 = .ok (.putfield 90, 3) := by decide +kernel
theorem dX12_see_35 : decode cX12_see 35 = .ok (.goto (-35), 3) := by decide +kernel
theorem dX12_see_38 : decode cX12_see 38 = .ok (.aload_n 0, 1) := by decide +kernel
theorem dX12_see_39 : decode cX12_see 39 = .ok (.getfield 90, 3) := by decide +kernel
theorem dX12_see_42 : decode cX12_see 42 = .ok (.aload_n 0, 1) := by decide +kernel
theorem dX12_see_43 : decode cX12_see 43 = .ok (.getfield 80, 3) := by decide +kernel
theorem dX12_see_46 : decode cX12_see 46 = .ok (.if_icmp .ge 19, 3) := by decide +kernel
theorem dX12_see_49 : decode cX12_see 49 = .ok (.aload_n 0, 1) := by decide +kernel
theorem dX12_see_50 : decode cX12_see 50 = .ok (.getfield 7, 3) := by decide +kernel
theorem dX12_see_53 : decode cX12_see 53 = .ok (.aload_n 0, 1) := by decide +kernel
theorem dX12_see_54 : decode cX12_see 54 = .ok (.getfield 90, 3) := by decide +kernel
theorem dX12_see_57 : decode cX12_see 57 = .ok (.baload, 1) := by decide +kernel
theorem dX12_see_58 : decode cX12_see 58 = .ok (.sipush 255, 3) := by decide +kernel
theorem dX12_see_61 : decode cX12_see 61 = .ok (.iand, 1) := by decide +kernel
theorem dX12_see_62 : decode cX12_see 62 = .ok (.goto 4, 3) := by decide +kernel
theorem dX12_see_65 : decode cX12_see 65 = .ok (.iconst (-1), 1) := by decide +kernel
theorem dX12_see_66 : decode cX12_see 66 = .ok (.ireturn, 1) := by decide +kernel
def wp_X12_see_38 (S : Sh) (post : Int → Mm → Prop) (u0 : Int) (M : Mm) : Prop := wGet S M u0 12 8 fun v1 => wGet S M u0 12 1 fun v3 => wIf (v3 ≤ v1) (wC (-1) fun v5 => post v5 M) (wGetR S M u0 12 0 fun v7 => wGet S M u0 12 8 fun v9 => wLd S M v7 13 v9 fun v11 => wC 255 fun v13 => wO iAnd v11 v13 fun v15 => post v15 M)
def wp_X12_see_0 (S : Sh) (post : Int → Mm → Prop) : Nat → Int → Mm → Prop
  | 0, _, _ => False
  | n + 1, u0, M => wGet S M u0 12 8 fun v17 => wGet S M u0 12 1 fun v19 => wIf (v19 ≤ v17) (wp_X12_see_38 S post u0 M) (wGetR S M u0 12 0 fun v21 => wGet S M u0 12 8 fun v23 => wLd S M v21 13 v23 fun v25 => wC 32 fun v27 => wIf (¬ v25 = v27) (wp_X12_see_38 S post u0 M) (wGet S M u0 12 8 fun v29 => wC 1 fun v31 => wA v29 v31 fun v33 => wPut S M u0 12 8 v33 fun M35 => wp_X12_see_0 S post n u0 M35))
def wp_X12_see (S : Sh) (M : Mm) (u0 : Int) (post : Int → Mm → Prop) : Prop := ∃ n9 : Nat, wp_X12_see_0 S post n9 u0 M
set_option maxHeartbeats 4000000 in
set_option maxRecDepth 100000 in
theorem t_X12_see_38 {p : Program} {l : Launch} {e : Env} {s : State} {m : MethodId} {args : Array Value} {below : List Frame} {meth : Method} {c : Code} {D : va_G} {G : Gt} {S : Sh} {post : Int → Mm → Prop} (C : Cx p s m args meth c D G cX12_see 1 (some .int) (cw_X12_see :: gw) RX12) : ∀ (xl0 : Int) (M : Mm) (H : Heap) (locs : List Loc) (ls : Array Slot), Wd D G S M H → va_S (aG G) s.heap H locs → lv_has ls 1 [(0, .ref (adr G xl0))] → wp_X12_see_38 S post xl0  M → W p l e RM_X12_see s m args below meth c H locs 0 0 (MQ below (QI D G S post) args s 0 0 (aG G)) (F0 m 38 ls []) := by
  obtain ⟨hx, hb, hr, hlocks, hml, hown, hts, hK⟩ := id C
  intro xl0 M H locs ls hP hS hl h
  unfold wp_X12_see_38 at h
  refine lv_aload_n hx hb dX12_see_38 rfl (lv_at hl 0 rfl) ?_
  refine r_geti (C := RX12) (T := TX12) (N := 38) hx hb hts (fun w h => List.mem_cons_of_mem _ (iX12 w h)) hown hK hP rfl (by decide) rfl 8 (by decide) (hts _ (List.mem_cons_of_mem _ kw_1342)) (fun _ h9 => h9) dX12_see_39 (by decide) h (fun z2 h => ?_)
  refine lv_aload_n hx hb dX12_see_42 rfl (lv_at hl 0 rfl) ?_
  refine r_geti (C := RX12) (T := TX12) (N := 38) hx hb hts (fun w h => List.mem_cons_of_mem _ (iX12 w h)) hown hK hP rfl (by decide) rfl 1 (by decide) (hts _ (List.mem_cons_of_mem _ kw_1335)) (fun _ h9 => h9) dX12_see_43 (by decide) h (fun z4 h => ?_)
  refine r_icmp_ge (tgt := 65) hx hb dX12_see_46 (by decide) h (fun h => ?_) (fun h => ?_)
  · refine r_iconst hx hb dX12_see_65 (by decide) h (fun z6 h => ?_)
    exact r_iret hx hb hr hlocks hP hS dX12_see_66 h
  · refine lv_aload_n hx hb dX12_see_49 rfl (lv_at hl 0 rfl) ?_
    refine r_getr (C := RX12) (T := TX12) (N := 38) hx hb hts (fun w h => List.mem_cons_of_mem _ (iX12 w h)) hown hK hP rfl (by decide) rfl 0 (by decide) (hts _ (List.mem_cons_of_mem _ kw_1334)) (fun _ h9 => h9) dX12_see_50 (by decide) h (fun x8 h => ?_)
    refine lv_aload_n hx hb dX12_see_53 rfl (lv_at hl 0 rfl) ?_
    refine r_geti (C := RX12) (T := TX12) (N := 38) hx hb hts (fun w h => List.mem_cons_of_mem _ (iX12 w h)) hown hK hP rfl (by decide) rfl 8 (by decide) (hts _ (List.mem_cons_of_mem _ kw_1342)) (fun _ h9 => h9) dX12_see_54 (by decide) h (fun z10 h => ?_)
    refine r_bald hx hb hK hP dX12_see_57 h (fun z12 h => ?_)
    refine r_sipush hx hb dX12_see_58 (by decide) h (fun z14 h => ?_)
    refine r_iand hx hb dX12_see_61 h (fun z16 h => ?_)
    refine lv_goto (tgt := 66) hx hb dX12_see_62 (by decide) ?_
    exact r_iret hx hb hr hlocks hP hS dX12_see_66 h
set_option maxHeartbeats 4000000 in
set_option maxRecDepth 100000 in
theorem t_X12_see_0 {p : Program} {l : Launch} {e : Env} {s : State} {m : MethodId} {args : Array Value} {below : List Frame} {meth : Method} {c : Code} {D : va_G} {G : Gt} {S : Sh} {post : Int → Mm → Prop} (C : Cx p s m args meth c D G cX12_see 1 (some .int) (cw_X12_see :: gw) RX12) : ∀ (n : Nat) (xl0 : Int) (M : Mm) (H : Heap) (locs : List Loc) (ls : Array Slot), Wd D G S M H → va_S (aG G) s.heap H locs → lv_has ls 1 [(0, .ref (adr G xl0))] → wp_X12_see_0 S post n xl0  M → W p l e RM_X12_see s m args below meth c H locs 0 0 (MQ below (QI D G S post) args s 0 0 (aG G)) (F0 m 0 ls []) := by
  obtain ⟨hx, hb, hr, hlocks, hml, hown, hts, hK⟩ := id C
  intro n
  induction n with
  | zero => intro xl0 M H locs ls hP hS hl h; exact h.elim
  | succ n ih =>
    intro xl0 M H locs ls hP hS hl h
    unfold wp_X12_see_0 at h
    refine lv_aload_n hx hb dX12_see_0 rfl (lv_at hl 0 rfl) ?_
    refine r_geti (C := RX12) (T := TX12) (N := 38) hx hb hts (fun w h => List.mem_cons_of_mem _ (iX12 w h)) hown hK hP rfl (by decide) rfl 8 (by decide) (hts _ (List.mem_cons_of_mem _ kw_1342)) (fun _ h9 => h9) dX12_see_1 (by decide) h (fun z18 h => ?_)
    refine lv_aload_n hx hb dX12_see_4 rfl (lv_at hl 0 rfl) ?_
    refine r_geti (C := RX12) (T := TX12) (N := 38) hx hb hts (fun w h => List.mem_cons_of_mem _ (iX12 w h)) hown hK hP rfl (by decide) rfl 1 (by decide) (hts _ (List.mem_cons_of_mem _ kw_1335)) (fun _ h9 => h9) dX12_see_5 (by decide) h (fun z20 h => ?_)
    refine r_icmp_ge (tgt := 38) hx hb dX12_see_8 (by decide) h (fun h => ?_) (fun h => ?_)
    · exact t_X12_see_38 C xl0 _ _ _ _ hP hS (lv_sub hl [0] rfl) h
    · refine lv_aload_n hx hb dX12_see_11 rfl (lv_at hl 0 rfl) ?_
      refine r_getr (C := RX12) (T := TX12) (N := 38) hx hb hts (fun w h => List.mem_cons_of_mem _ (iX12 w h)) hown hK hP rfl (by decide) rfl 0 (by decide) (hts _ (List.mem_cons_of_mem _ kw_1334)) (fun _ h9 => h9) dX12_see_12 (by decide) h (fun x22 h => ?_)
      refine lv_aload_n hx hb dX12_see_15 rfl (lv_at hl 0 rfl) ?_
      refine r_geti (C := RX12) (T := TX12) (N := 38) hx hb hts (fun w h => List.mem_cons_of_mem _ (iX12 w h)) hown hK hP rfl (by decide) rfl 8 (by decide) (hts _ (List.mem_cons_of_mem _ kw_1342)) (fun _ h9 => h9) dX12_see_16 (by decide) h (fun z24 h => ?_)
      refine r_bald hx hb hK hP dX12_see_19 h (fun z26 h => ?_)
      refine r_bipush hx hb dX12_see_20 (by decide) h (fun z28 h => ?_)
      refine r_icmp_ne (tgt := 38) hx hb dX12_see_22 (by decide) h (fun h => ?_) (fun h => ?_)
      · exact t_X12_see_38 C xl0 _ _ _ _ hP hS (lv_sub hl [0] rfl) h
      · refine lv_aload_n hx hb dX12_see_25 rfl (lv_at hl 0 rfl) ?_
        refine lv_dup hx hb dX12_see_26 rfl ?_
        refine r_geti (C := RX12) (T := TX12) (N := 38) hx hb hts (fun w h => List.mem_cons_of_mem _ (iX12 w h)) hown hK hP rfl (by decide) rfl 8 (by decide) (hts _ (List.mem_cons_of_mem _ kw_1342)) (fun _ h9 => h9) dX12_see_27 (by decide) h (fun z30 h => ?_)
        refine r_iconst hx hb dX12_see_30 (by decide) h (fun z32 h => ?_)
        refine r_iadd hx hb dX12_see_31 h (fun z34 h => ?_)
        refine r_puti (C := RX12) (T := TX12) (N := 38) hx hb hts (fun w h => List.mem_cons_of_mem _ (iX12 w h)) hown hK hP tyX12 tyX12_ok nmX12 hS rfl (by decide) rfl 8 (by decide) (hts _ (List.mem_cons_of_mem _ kw_1342)) (fun _ h9 => h9) rfl (tyX12_ok 8 (by decide)) rfl rfl dX12_see_32 (by decide) h (fun M35 H locs h hP hS => ?_)
        refine lv_goto (tgt := 0) hx hb dX12_see_35 (by decide) ?_
        exact ih xl0 _ _ _ _ hP hS (lv_sub hl [0] rfl) h
set_option maxHeartbeats 4000000 in
set_option maxRecDepth 100000 in
theorem c_X12_see (l : Launch) (D : va_G) (G : Gt) (S : Sh) (M : Mm) (xl0 : Int) (post : Int → Mm → Prop) (h : wp_X12_see S M xl0 post) : Met l yX12_see (cw_X12_see :: gw) RM_X12_see (va_Pc [.ref (adr G xl0)] (fun U => KN D G U ∧ Wd D G S M U.heap)) (QI D G S post) 0 0 (aG G) := by
  refine Met.ofW (cc := cX12_see) (maxL := 1) (ret := (some .int)) (by decide) rfl ?_
  intro p e s m args below meth c s₁ B hml hv
  obtain ⟨rfl, hK, hP⟩ := hv
  have hx := B.exec
  have hb := B.bytes
  have hr := B.returns
  have hts := atoms_spec (ws := cw_X12_see :: gw) B.pre
  have hown : s.vm.findClass RX12 = some m.cls := findClass_of_methodNamed B.named
  have hlocks := B.notSynchronized
  have hS : va_S (aG G) s.heap s.heap [] := va_S.rf
  have C : Cx p s m ([.ref (adr G xl0)] : List Value).toArray meth c D G cX12_see 1 (some .int) (cw_X12_see :: gw) RX12 := ⟨hx, hb, hr, hlocks, hml, hown, hts, hK⟩
  have hl := lv_entry ([.ref (adr G xl0)]) (n := 1) (Nat.le_of_ble_eq_true rfl)
  rw [lg_entry_eq]
  generalize (lg_sl ([.ref (adr G xl0)]) ++ List.replicate (1 - (lg_sl ([.ref (adr G xl0)])).length) Slot.unset).toArray = ls at hl ⊢
  have hl : lv_has ls 1 [(0, .ref (adr G xl0))] := hl
  unfold wp_X12_see at h
  obtain ⟨n9, h⟩ := h
  exact t_X12_see_0 C n9 xl0 _ _ _ _ hP hS (lv_sub hl [0] rfl) h
/-! TurningMilkModel.isLetter(I)Z -/
abbrev RM_X12_isLetter : Room := { frames := 1, cells := 0, slots := 0, locals := 40 }
def cw_X12_isLetter : Cond := Cond.code yX12_isLetter cX12_isLetter 2 (Option.some FieldType.boolean)
theorem hd_X12_isLetter : yX12_isLetter.cls ≠ "java/lang/invoke/MethodHandle" ∧ yX12_isLetter.cls ≠ "java/lang/invoke/VarHandle" ∧ (parseMethodDescriptor yX12_isLetter.desc).map (fun d => d.parameters.length) = some 1 := by decide +kernel
theorem dX12_isLetter_0 : decode cX12_isLetter 0 = .ok (.iload_n 1, 1) := by decide +kernel
theorem dX12_isLetter_1 : decode cX12_isLetter 1 = .ok (.aload_n 0, 1) := by decide +kernel
theorem dX12_isLetter_2 : decode cX12_isLetter 2 = .ok (.getfield 80, 3) := by decide +kernel
theorem dX12_isLetter_5 : decode cX12_isLetter 5 = .ok (.if_icmp .ge 29, 3) := by decide +kernel
theorem dX12_isLetter_8 : decode cX12_isLetter 8 = .ok (.aload_n 0, 1) := by decide +kernel
theorem dX12_isLetter_9 : decode cX12_isLetter 9 = .ok (.getfield 7, 3) := by decide +kernel
theorem dX12_isLetter_12 : decode cX12_isLetter 12 = .ok (.iload_n 1, 1) := by decide +kernel
theorem dX12_isLetter_13 : decode cX12_isLetter 13 = .ok (.baload, 1) := by decide +kernel
theorem dX12_isLetter_14 : decode cX12_isLetter 14 = .ok (.bipush 97, 2) := by decide +kernel
theorem dX12_isLetter_16 : decode cX12_isLetter 16 = .ok (.if_icmp .lt 18, 3) := by decide +kernel
theorem dX12_isLetter_19 : decode cX12_isLetter 19 = .ok (.aload_n 0, 1) := by decide +kernel
theorem dX12_isLetter_20 : decode cX12_isLetter 20 = .ok (.getfield 7, 3) := by decide +kernel
theorem dX12_isLetter_23 : decode cX12_isLetter 23 = .ok (.iload_n 1, 1) := by decide +kernel
theorem dX12_isLetter_24 : decode cX12_isLetter 24 = .ok (.baload, 1) := by decide +kernel
theorem dX12_isLetter_25 : decode cX12_isLetter 25 = .ok (.bipush 122, 2) := by decide +kernel
theorem dX12_isLetter_27 : decode cX12_isLetter 27 = .ok (.if_icmp .gt 7, 3) := by decide +kernel
theorem dX12_isLetter_30 : decode cX12_isLetter 30 = .ok (.iconst 1, 1) := by decide +kernel
theorem dX12_isLetter_31 : decode cX12_isLetter 31 = .ok (.goto 4, 3) := by decide +kernel
theorem dX12_isLetter_34 : decode cX12_isLetter 34 = .ok (.iconst 0, 1) := by decide +kernel
theorem dX12_isLetter_35 : decode cX12_isLetter 35 = .ok (.ireturn, 1) := by decide +kernel
def wp_X12_isLetter (S : Sh) (M : Mm) (u0 : Int) (u1 : Int) (post : Int → Mm → Prop) : Prop := wGet S M u0 12 1 fun v1 => wIf (v1 ≤ u1) (wC 0 fun v3 => (v3 = 0 ∨ v3 = 1) ∧ post v3 M) (wGetR S M u0 12 0 fun v5 => wLd S M v5 13 u1 fun v7 => wC 97 fun v9 => wIf (v7 < v9) (wC 0 fun v11 => (v11 = 0 ∨ v11 = 1) ∧ post v11 M) (wGetR S M u0 12 0 fun v13 => wLd S M v13 13 u1 fun v15 => wC 122 fun v17 => wIf (v17 < v15) (wC 0 fun v19 => (v19 = 0 ∨ v19 = 1) ∧ post v19 M) (wC 1 fun v21 => (v21 = 0 ∨ v21 = 1) ∧ post v21 M)))
set_option maxHeartbeats 4000000 in
set_option maxRecDepth 100000 in
theorem c_X12_isLetter (l : Launch) (D : va_G) (G : Gt) (S : Sh) (M : Mm) (xl0 : Int) (zl1 : Int32) (post : Int → Mm → Prop) (h : wp_X12_isLetter S M xl0 zl1.toInt post) : Met l yX12_isLetter (cw_X12_isLetter :: gw) RM_X12_isLetter (va_Pc [.ref (adr G xl0), .int zl1] (fun U => KN D G U ∧ Wd D G S M U.heap)) (QI D G S post) 0 0 (aG G) := by
  refine Met.ofW (cc := cX12_isLetter) (maxL := 2) (ret := (some .boolean)) (by decide) rfl ?_
  intro p e s m args below meth c s₁ B hml hv
  obtain ⟨rfl, hK, hP⟩ := hv
  have hx := B.exec
  have hb := B.bytes
  have hr := B.returns
  have hts := atoms_spec (ws := cw_X12_isLetter :: gw) B.pre
  have hown : s.vm.findClass RX12 = some m.cls := findClass_of_methodNamed B.named
  have hlocks := B.notSynchronized
  have hS : va_S (aG G) s.heap s.heap [] := va_S.rf
  have C : Cx p s m ([.ref (adr G xl0), .int zl1] : List Value).toArray meth c D G cX12_isLetter 2 (some .boolean) (cw_X12_isLetter :: gw) RX12 := ⟨hx, hb, hr, hlocks, hml, hown, hts, hK⟩
  have hl := lv_entry ([.ref (adr G xl0), .int zl1]) (n := 2) (Nat.le_of_ble_eq_true rfl)
  rw [lg_entry_eq]
  generalize (lg_sl ([.ref (adr G xl0), .int zl1]) ++ List.replicate (2 - (lg_sl ([.ref (adr G xl0), .int zl1])).length) Slot.unset).toArray = ls at hl ⊢
  have hl : lv_has ls 2 [(0, .ref (adr G xl0)), (1, .int zl1)] := hl
  unfold wp_X12_isLetter at h
  refine lv_iload_n hx hb dX12_isLetter_0 rfl (lv_at hl 1 rfl) ?_
  refine lv_aload_n hx hb dX12_isLetter_1 rfl (lv_at hl 0 rfl) ?_
  refine r_geti (C := RX12) (T := TX12) (N := 38) hx hb hts (fun w h => List.mem_cons_of_mem _ (iX12 w h)) hown hK hP rfl (by decide) rfl 1 (by decide) (hts _ (List.mem_cons_of_mem _ kw_1335)) (fun _ h9 => h9) dX12_isLetter_2 (by decide) h (fun z2 h => ?_)
  refine r_icmp_ge (tgt := 34) hx hb dX12_isLetter_5 (by decide) h (fun h => ?_) (fun h => ?_)
  · refine r_iconst hx hb dX12_isLetter_34 (by decide) h (fun z4 h => ?_)
    exact r_zret hx hb hr hlocks hP hS dX12_isLetter_35 h
  · refine lv_aload_n hx hb dX12_isLetter_8 rfl (lv_at hl 0 rfl) ?_
    refine r_getr (C := RX12) (T := TX12) (N := 38) hx hb hts (fun w h => List.mem_cons_of_mem _ (iX12 w h)) hown hK hP rfl (by decide) rfl 0 (by decide) (hts _ (List.mem_cons_of_mem _ kw_1334)) (fun _ h9 => h9) dX12_isLetter_9 (by decide) h (fun x6 h => ?_)
    refine lv_iload_n hx hb dX12_isLetter_12 rfl (lv_at hl 1 rfl) ?_
    refine r_bald hx hb hK hP dX12_isLetter_13 h (fun z8 h => ?_)
    refine r_bipush hx hb dX12_isLetter_14 (by decide) h (fun z10 h => ?_)
    refine r_icmp_lt (tgt := 34) hx hb dX12_isLetter_16 (by decide) h (fun h => ?_) (fun h => ?_)
    · refine r_iconst hx hb dX12_isLetter_34 (by decide) h (fun z12 h => ?_)
      exact r_zret hx hb hr hlocks hP hS dX12_isLetter_35 h
    · refine lv_aload_n hx hb dX12_isLetter_19 rfl (lv_at hl 0 rfl) ?_
      refine r_getr (C := RX12) (T := TX12) (N := 38) hx hb hts (fun w h => List.mem_cons_of_mem _ (iX12 w h)) hown hK hP rfl (by decide) rfl 0 (by decide) (hts _ (List.mem_cons_of_mem _ kw_1334)) (fun _ h9 => h9) dX12_isLetter_20 (by decide) h (fun x14 h => ?_)
      refine lv_iload_n hx hb dX12_isLetter_23 rfl (lv_at hl 1 rfl) ?_
      refine r_bald hx hb hK hP dX12_isLetter_24 h (fun z16 h => ?_)
      refine r_bipush hx hb dX12_isLetter_25 (by decide) h (fun z18 h => ?_)
      refine r_icmp_gt (tgt := 34) hx hb dX12_isLetter_27 (by decide) h (fun h => ?_) (fun h => ?_)
      · refine r_iconst hx hb dX12_isLetter_34 (by decide) h (fun z20 h => ?_)
        exact r_zret hx hb hr hlocks hP hS dX12_isLetter_35 h
      · refine r_iconst hx hb dX12_isLetter_30 (by decide) h (fun z22 h => ?_)
        refine lv_goto (tgt := 35) hx hb dX12_isLetter_31 (by decide) ?_
        exact r_zret hx hb hr hlocks hP hS dX12_isLetter_35 h
/-! TurningMilkModel.isWord(J)Z -/
abbrev RM_X12_isWord : Room := { frames := 2, cells := 0, slots := 0, locals := 61 }
def cw_X12_isWord : Cond := Cond.code yX12_isWord cX12_isWord 6 (Option.some FieldType.boolean)
theorem hd_X12_isWord : yX12_isWord.cls ≠ "java/lang/invoke/MethodHandle" ∧ yX12_isWord.cls ≠ "java/lang/invoke/VarHandle" ∧ (parseMethodDescriptor yX12_isWord.desc).map (fun d => d.parameters.length) = some 1 := by decide +kernel
theorem dX12_isWord_0 : decode cX12_isWord 0 = .ok (.aload_n 0, 1) := by decide +kernel
theorem dX12_isWord_1 : decode cX12_isWord 1 = .ok (.invokevirtual 93, 3) := by decide +kernel
theorem dX12_isWord_4 : decode cX12_isWord 4 = .ok (.pop, 1) := by decide +kernel
theorem dX12_isWord_5 : decode cX12_isWord 5 = .ok (.lconst 0, 1) := by decide +kernel
theorem dX12_isWord_6 : decode cX12_isWord 6 = .ok (.lstore_n 3, 1) := by decide +kernel
theorem dX12_isWord_7 : decode cX12_isWord 7 = .ok (.iconst 0, 1) := by decide +kernel
theorem dX12_isWord_8 : decode cX12_isWord 8 = .ok (.istore 5, 2) := by decide +kernel
theorem dX12_isWord_10 : decode cX12_isWord 10 = .ok (.aload_n 0, 1) := by decide +kernel
theorem dX12_isWord_11 : decode cX12_isWord 11 = .ok (.aload_n 0, 1) := by decide +kernel
theorem dX12_isWord_12 : decode cX12_isWord 12 = .ok (.getfield 90, 3) := by decide +kernel
theorem dX12_isWord_15 : decode cX12_isWord 15 = .ok (.iload 5, 2) := by decide +kernel
theorem dX12_isWord_17 : decode cX12_isWord 17 = .ok (.iadd, 1) := by decide +kernel
theorem dX12_isWord_18 : decode cX12_isWord 18 = .ok (.invokevirtual 97, 3) := by decide +kernel
theorem dX12_isWord_21 : decode cX12_isWord 21 = .ok (.ifCond .eq 35, 3) := by decide +kernel
theorem dX12_isWord_24 : decode cX12_isWord 24 = .ok (.iload 5, 2) := by decide +kernel
theorem dX12_isWord_26 : decode cX12_isWord 26 = .ok (.bipush 8, 2) := by decide +kernel
theorem dX12_isWord_28 : decode cX12_isWord 28 = .ok (.if_icmp .ge 22, 3) := by decide +kernel
theorem dX12_isWord_31 : decode cX12_isWord 31 = .ok (.lload_n 3, 1) := by decide +kernel
theorem dX12_isWord_32 : decode cX12_isWord 32 = .ok (.bipush 8, 2) := by decide +kernel
theorem dX12_isWord_34 : decode cX12_isWord 34 = .ok (.lshl, 1) := by decide +kernel
theorem dX12_isWord_35 : decode cX12_isWord 35 = .ok (.aload_n 0, 1) := by decide +kernel
theorem dX12_isWord_36 : decode cX12_isWord 36 = .ok (.getfield 7, 3) := by decide +kernel
theorem dX12_isWord_39 : decode cX12_isWord 39 = .ok (.aload_n 0, 1) := by decide +kernel
theorem dX12_isWord_40 : decode cX12_isWord 40 = .ok (.getfield 90, 3) := by decide +kernel
theorem dX12_isWord_43 : decode cX12_isWord 43 = .ok (.iload 5, 2) := by decide +kernel
theorem dX12_isWord_45 : decode cX12_isWord 45 = .ok (.iadd, 1) := by decide +kernel
theorem dX12_isWord_46 : decode cX12_isWord 46 = .ok (.baload, 1) := by decide +kernel
theorem dX12_isWord_47 : decode cX12_isWord 47 = .ok (.i2l, 1) := by decide +kernel
theorem dX12_isWord_48 : decode cX12_isWord 48 = .ok (.lor, 1) := by decide +kernel
theorem dX12_isWord_49 : decode cX12_isWord 49 = .ok (.lstore_n 3, 1) := by decide +kernel
theorem dX12_isWord_50 : decode cX12_isWord 50 = .ok (.iinc 5 1, 3) := by decide +kernel
theorem dX12_isWord_53 : decode cX12_isWord 53 = .ok (.goto (-43), 3) := by decide +kernel
theorem dX12_isWord_56 : decode cX12_isWord 56 = .ok (.iload 5, 2) := by decide +kernel
theorem dX12_isWord_58 : decode cX12_isWord 58 = .ok (.ifCond .le 20, 3) := by decide +kernel
theorem dX12_isWord_61 : decode cX12_isWord 61 = .ok (.iload 5, 2) := by decide +kernel
theorem dX12_isWord_63 : decode cX12_isWord 63 = .ok (.bipush 8, 2) := by decide +kernel
theorem dX12_isWord_65 : decode cX12_isWord 65 = .ok (.if_icmp .ge 13, 3) := by decide +kernel
theorem dX12_isWord_68 : decode cX12_isWord 68 = .ok (.lload_n 3, 1) := by decide +kernel
theorem dX12_isWord_69 : decode cX12_isWord 69 = .ok (.lload_n 1, 1) := by decide +kernel
theorem dX12_isWord_70 : decode cX12_isWord 70 = .ok (.lcmp, 1) := by decide +kernel
theorem dX12_isWord_71 : decode cX12_isWord 71 = .ok (.ifCond .ne 7, 3) := by decide +kernel
theorem dX12_isWord_74 : decode cX12_isWord 74 = .ok (.iconst 1, 1) := by decide +kernel
theorem dX12_isWord_75 : decode cX12_isWord 75 = .ok (.goto 4, 3) := by decide +kernel
theorem dX12_isWord_78 : decode cX12_isWord 78 = .ok (.iconst 0, 1) := by decide +kernel
theorem dX12_isWord_79 : decode cX12_isWord 79 = .ok (.ireturn, 1) := by decide +kernel
def wp_X12_isWord_50 (S : Sh) (k10 : Int → Int → Int → Int → Mm → Prop) (post : Int → Mm → Prop) (u0 : Int) (u1 : Int) (u3 : Int) (u5 : Int) (M : Mm) : Prop := wA u5 1 fun v1 => k10 u0 u1 u3 v1 M
def wp_X12_isWord_10 (S : Sh) (post : Int → Mm → Prop) : Nat → Int → Int → Int → Int → Mm → Prop
  | 0, _, _, _, _, _ => False
  | n + 1, u0, u1, u3, u5, M => wGet S M u0 12 8 fun v3 => wA v3 u5 fun v5 => isK S u0 12 ∧ (wp_X12_isLetter S M u0 v5 <| fun v8 M7 => wIf (v8 = 0) (wIf (u5 ≤ 0) (wC 0 fun v10 => (v10 = 0 ∨ v10 = 1) ∧ post v10 M7) (wC 8 fun v12 => wIf (v12 ≤ u5) (wC 0 fun v14 => (v14 = 0 ∨ v14 = 1) ∧ post v14 M7) (wCmp u3 u1 fun v16 => wIf (¬ v16 = 0) (wC 0 fun v18 => (v18 = 0 ∨ v18 = 1) ∧ post v18 M7) (wC 1 fun v20 => (v20 = 0 ∨ v20 = 1) ∧ post v20 M7)))) (wC 8 fun v22 => wIf (v22 ≤ u5) (wp_X12_isWord_50 S (fun a0 a1 a2 a3 M => wp_X12_isWord_10 S post n a0 a1 a2 a3 M) post u0 u1 u3 u5 M7) (wC 8 fun v24 => wO lShl u3 v24 fun v26 => wGetR S M7 u0 12 0 fun v28 => wGet S M7 u0 12 8 fun v30 => wA v30 u5 fun v32 => wLd S M7 v28 13 v32 fun v34 => wC v34 fun v36 => wO lOr v26 v36 fun v38 => wp_X12_isWord_50 S (fun a0 a1 a2 a3 M => wp_X12_isWord_10 S post n a0 a1 a2 a3 M) post u0 u1 v38 u5 M7)))
def wp_X12_isWord (S : Sh) (M : Mm) (u0 : Int) (u1 : Int) (post : Int → Mm → Prop) : Prop := isK S u0 12 ∧ (wp_X12_see S M u0 <| fun v41 M40 => wC 0 fun v43 => wC 0 fun v45 => ∃ n9 : Nat, wp_X12_isWord_10 S post n9 u0 u1 v43 v45 M40)
set_option maxHeartbeats 4000000 in
set_option maxRecDepth 100000 in
theorem t_X12_isWord_50 {p : Program} {l : Launch} {e : Env} {s : State} {m : MethodId} {args : Array Value} {below : List Frame} {meth : Method} {c : Code} {D : va_G} {G : Gt} {S : Sh} {post : Int → Mm → Prop} {k10 : Int → Int → Int → Int → Mm → Prop} (C : Cx p s m args meth c D G cX12_isWord 6 (some .boolean) (cw_X12_isWord :: gw) RX12) (hk10 : ∀ (y0 : Int) (y1 : Int64) (y3 : Int64) (y5 : Int32) (M : Mm) (H : Heap) (locs : List Loc) (ls : Array Slot), Wd D G S M H → va_S (aG G) s.heap H locs → lv_has ls 6 [(0, .ref (adr G y0)), (1, .long y1), (3, .long y3), (5, .int y5)] → k10 y0 y1.toInt y3.toInt y5.toInt M → W p l e RM_X12_isWord s m args below meth c H locs 0 0 (MQ below (QI D G S post) args s 0 0 (aG G)) (F0 m 10 ls [])) : ∀ (xl0 : Int) (zl1 : Int64) (zl3 : Int64) (zl5 : Int32) (M : Mm) (H : Heap) (locs : List Loc) (ls : Array Slot), Wd D G S M H → va_S (aG G) s.heap H locs → lv_has ls 6 [(0, .ref (adr G xl0)), (1, .long zl1), (3, .long zl3), (5, .int zl5)] → wp_X12_isWord_50 S k10 post xl0 zl1.toInt zl3.toInt zl5.toInt  M → W p l e RM_X12_isWord s m args below meth c H locs 0 0 (MQ below (QI D G S post) args s 0 0 (aG G)) (F0 m 50 ls []) := by
  obtain ⟨hx, hb, hr, hlocks, hml, hown, hts, hK⟩ := id C
  intro xl0 zl1 zl3 zl5 M H locs ls hP hS hl h
  unfold wp_X12_isWord_50 at h
  refine r_iinc hx hb (fun z2 => [(5, .int z2), (0, .ref (adr G xl0)), (1, .long zl1), (3, .long zl3)]) dX12_isWord_50 (by decide) hl (k := 3) rfl (by decide) (fun _ => rfl) h (fun z2 ls hl h => ?_)
  refine lv_goto (tgt := 10) hx hb dX12_isWord_53 (by decide) ?_
  exact hk10 xl0 zl1 zl3 z2 _ _ _ _ hP hS (lv_sub hl [1, 2, 3, 0] rfl) h
set_option maxHeartbeats 4000000 in
set_option maxRecDepth 100000 in
theorem t_X12_isWord_10 {p : Program} {l : Launch} {e : Env} {s : State} {m : MethodId} {args : Array Value} {below : List Frame} {meth : Method} {c : Code} {D : va_G} {G : Gt} {S : Sh} {post : Int → Mm → Prop} (C : Cx p s m args meth c D G cX12_isWord 6 (some .boolean) (cw_X12_isWord :: gw) RX12) : ∀ (n : Nat) (xl0 : Int) (zl1 : Int64) (zl3 : Int64) (zl5 : Int32) (M : Mm) (H : Heap) (locs : List Loc) (ls : Array Slot), Wd D G S M H → va_S (aG G) s.heap H locs → lv_has ls 6 [(0, .ref (adr G xl0)), (1, .long zl1), (3, .long zl3), (5, .int zl5)] → wp_X12_isWord_10 S post n xl0 zl1.toInt zl3.toInt zl5.toInt  M → W p l e RM_X12_isWord s m args below meth c H locs 0 0 (MQ below (QI D G S post) args s 0 0 (aG G)) (F0 m 10 ls []) := by
  obtain ⟨hx, hb, hr, hlocks, hml, hown, hts, hK⟩ := id C
  intro n
  induction n with
  | zero => intro xl0 zl1 zl3 zl5 M H locs ls hP hS hl h; exact h.elim
  | succ n ih =>
    intro xl0 zl1 zl3 zl5 M H locs ls hP hS hl h
    unfold wp_X12_isWord_10 at h
    refine lv_aload_n hx hb dX12_isWord_10 rfl (lv_at hl 0 rfl) ?_
    refine lv_aload_n hx hb dX12_isWord_11 rfl (lv_at hl 0 rfl) ?_
    refine r_geti (C := RX12) (T := TX12) (N := 38) hx hb hts (fun w h => List.mem_cons_of_mem _ (iX12 w h)) hown hK hP rfl (by decide) rfl 8 (by decide) (hts _ (List.mem_cons_of_mem _ kw_1342)) (fun _ h9 => h9) dX12_isWord_12 (by decide) h (fun z4 h => ?_)
    refine lv_iload hx hb dX12_isWord_15 (lv_at hl 3 rfl) ?_
    refine r_iadd hx hb dX12_isWord_17 h (fun z6 h => ?_)
    refine q_Vi hx hb hml hown hts hK hP hS (c_X12_isLetter l D G S _ xl0 z6 _ h.2) ⟨callB_of 1 hts (gw_good kw_1490) rfl rfl rfl (hts _ (List.mem_cons_of_mem _ kw_14)) (hts _ (List.mem_cons_of_mem _ kw_1487)) hd_X12_isLetter ⟨Nat.le_of_ble_eq_true rfl, Nat.le_of_ble_eq_true rfl⟩, (hts _ (List.mem_cons_of_mem _ kw_1489)), (hts _ (List.mem_cons_of_mem _ kp_57))⟩ h.1 (ci := 12) rfl (by decide) rfl hl.1 rfl (lv_room (Nat.le_of_ble_eq_true rfl)) dX12_isWord_18 ⟨Nat.zero_le _, Nat.zero_le _⟩ (fun z9 M7 H locs h hP hS => ?_)
    refine r_if_eq (tgt := 56) hx hb dX12_isWord_21 (by decide) h (fun h => ?_) (fun h => ?_)
    · refine lv_iload hx hb dX12_isWord_56 (lv_at hl 3 rfl) ?_
      refine r_if_le (tgt := 78) hx hb dX12_isWord_58 (by decide) h (fun h => ?_) (fun h => ?_)
      · refine r_iconst hx hb dX12_isWord_78 (by decide) h (fun z11 h => ?_)
        exact r_zret hx hb hr hlocks hP hS dX12_isWord_79 h
      · refine lv_iload hx hb dX12_isWord_61 (lv_at hl 3 rfl) ?_
        refine r_bipush hx hb dX12_isWord_63 (by decide) h (fun z13 h => ?_)
        refine r_icmp_ge (tgt := 78) hx hb dX12_isWord_65 (by decide) h (fun h => ?_) (fun h => ?_)
        · refine r_iconst hx hb dX12_isWord_78 (by decide) h (fun z15 h => ?_)
          exact r_zret hx hb hr hlocks hP hS dX12_isWord_79 h
        · refine lv_lload_n hx hb dX12_isWord_68 rfl (lv_at hl 2 rfl) ?_
          refine lv_lload_n hx hb dX12_isWord_69 rfl (lv_at hl 1 rfl) ?_
          refine r_lcmp hx hb dX12_isWord_70 h (fun z17 h => ?_)
          refine r_if_ne (tgt := 78) hx hb dX12_isWord_71 (by decide) h (fun h => ?_) (fun h => ?_)
          · refine r_iconst hx hb dX12_isWord_78 (by decide) h (fun z19 h => ?_)
            exact r_zret hx hb hr hlocks hP hS dX12_isWord_79 h
          · refine r_iconst hx hb dX12_isWord_74 (by decide) h (fun z21 h => ?_)
            refine lv_goto (tgt := 79) hx hb dX12_isWord_75 (by decide) ?_
            exact r_zret hx hb hr hlocks hP hS dX12_isWord_79 h
    · refine lv_iload hx hb dX12_isWord_24 (lv_at hl 3 rfl) ?_
      refine r_bipush hx hb dX12_isWord_26 (by decide) h (fun z23 h => ?_)
      refine r_icmp_ge (tgt := 50) hx hb dX12_isWord_28 (by decide) h (fun h => ?_) (fun h => ?_)
      · exact t_X12_isWord_50 C ih xl0 zl1 zl3 zl5 _ _ _ _ hP hS (lv_sub hl [0, 1, 2, 3] rfl) h
      · refine lv_lload_n hx hb dX12_isWord_31 rfl (lv_at hl 2 rfl) ?_
        refine r_bipush hx hb dX12_isWord_32 (by decide) h (fun z25 h => ?_)
        refine r_lshl hx hb dX12_isWord_34 h (fun z27 h => ?_)
        refine lv_aload_n hx hb dX12_isWord_35 rfl (lv_at hl 0 rfl) ?_
        refine r_getr (C := RX12) (T := TX12) (N := 38) hx hb hts (fun w h => List.mem_cons_of_mem _ (iX12 w h)) hown hK hP rfl (by decide) rfl 0 (by decide) (hts _ (List.mem_cons_of_mem _ kw_1334)) (fun _ h9 => h9) dX12_isWord_36 (by decide) h (fun x29 h => ?_)
        refine lv_aload_n hx hb dX12_isWord_39 rfl (lv_at hl 0 rfl) ?_
        refine r_geti (C := RX12) (T := TX12) (N := 38) hx hb hts (fun w h => List.mem_cons_of_mem _ (iX12 w h)) hown hK hP rfl (by decide) rfl 8 (by decide) (hts _ (List.mem_cons_of_mem _ kw_1342)) (fun _ h9 => h9) dX12_isWord_40 (by decide) h (fun z31 h => ?_)
        refine lv_iload hx hb dX12_isWord_43 (lv_at hl 3 rfl) ?_
        refine r_iadd hx hb dX12_isWord_45 h (fun z33 h => ?_)
        refine r_bald hx hb hK hP dX12_isWord_46 h (fun z35 h => ?_)
        refine r_i2l hx hb dX12_isWord_47 h (fun z37 h => ?_)
        refine r_lor hx hb dX12_isWord_48 h (fun z39 h => ?_)
        refine lv_lstore_n (lv' := [(3, .long z39), (0, .ref (adr G xl0)), (1, .long zl1), (5, .int zl5)]) hx hb dX12_isWord_49 rfl hl (by decide) rfl (fun ls hl => ?_)
        exact t_X12_isWord_50 C ih xl0 zl1 z39 zl5 _ _ _ _ hP hS (lv_sub hl [1, 2, 0, 3] rfl) h
set_option maxHeartbeats 4000000 in
set_option maxRecDepth 100000 in
theorem c_X12_isWord (l : Launch) (D : va_G) (G : Gt) (S : Sh) (M : Mm) (xl0 : Int) (zl1 : Int64) (post : Int → Mm → Prop) (h : wp_X12_isWord S M xl0 zl1.toInt post) : Met l yX12_isWord (cw_X12_isWord :: gw) RM_X12_isWord (va_Pc [.ref (adr G xl0), .long zl1] (fun U => KN D G U ∧ Wd D G S M U.heap)) (QI D G S post) 0 0 (aG G) := by
  refine Met.ofW (cc := cX12_isWord) (maxL := 6) (ret := (some .boolean)) (by decide) rfl ?_
  intro p e s m args below meth c s₁ B hml hv
  obtain ⟨rfl, hK, hP⟩ := hv
  have hx := B.exec
  have hb := B.bytes
  have hr := B.returns
  have hts := atoms_spec (ws := cw_X12_isWord :: gw) B.pre
  have hown : s.vm.findClass RX12 = some m.cls := findClass_of_methodNamed B.named
  have hlocks := B.notSynchronized
  have hS : va_S (aG G) s.heap s.heap [] := va_S.rf
  have C : Cx p s m ([.ref (adr G xl0), .long zl1] : List Value).toArray meth c D G cX12_isWord 6 (some .boolean) (cw_X12_isWord :: gw) RX12 := ⟨hx, hb, hr, hlocks, hml, hown, hts, hK⟩
  have hl := lv_entry ([.ref (adr G xl0), .long zl1]) (n := 6) (Nat.le_of_ble_eq_true rfl)
  rw [lg_entry_eq]
  generalize (lg_sl ([.ref (adr G xl0), .long zl1]) ++ List.replicate (6 - (lg_sl ([.ref (adr G xl0), .long zl1])).length) Slot.unset).toArray = ls at hl ⊢
  have hl : lv_has ls 6 [(0, .ref (adr G xl0)), (1, .long zl1)] := hl
  unfold wp_X12_isWord at h
  refine lv_aload_n hx hb dX12_isWord_0 rfl (lv_at hl 0 rfl) ?_
  refine q_Vi hx hb hml hown hts hK hP hS (c_X12_see l D G S _ xl0 _ h.2) ⟨callB_of 0 hts (gw_good kw_1477) rfl rfl rfl (hts _ (List.mem_cons_of_mem _ kw_14)) (hts _ (List.mem_cons_of_mem _ kw_1474)) hd_X12_see ⟨Nat.le_of_ble_eq_true rfl, Nat.le_of_ble_eq_true rfl⟩, (hts _ (List.mem_cons_of_mem _ kw_1476)), (hts _ (List.mem_cons_of_mem _ kp_54))⟩ h.1 (ci := 12) rfl (by decide) rfl hl.1 rfl (lv_room (Nat.le_of_ble_eq_true rfl)) dX12_isWord_1 ⟨Nat.zero_le _, Nat.zero_le _⟩ (fun z42 M40 H locs h hP hS => ?_)
  refine lv_pop hx hb dX12_isWord_4 rfl ?_
  refine r_lconst hx hb dX12_isWord_5 (v := 0) (by decide) h (fun z44 h => ?_)
  refine lv_lstore_n (lv' := [(3, .long z44), (0, .ref (adr G xl0)), (1, .long zl1)]) hx hb dX12_isWord_6 rfl hl (by decide) rfl (fun ls hl => ?_)
  refine r_iconst hx hb dX12_isWord_7 (by decide) h (fun z46 h => ?_)
  refine lv_istore (lv' := [(5, .int z46), (3, .long z44), (0, .ref (adr G xl0)), (1, .long zl1)]) hx hb dX12_isWord_8 hl (by decide) rfl (fun ls hl => ?_)
  obtain ⟨n9, h⟩ := h
  exact t_X12_isWord_10 C n9 xl0 zl1 z44 z46 _ _ _ _ hP hS (lv_sub hl [2, 3, 1, 0] rfl) h
/-! TurningMilkModel.isDairyWord()Z -/
abbrev RM_X12_isDairyWord : Room := { frames := 3, cells := 0, slots := 0, locals := 86 }
def cw_X12_isDairyWord : Cond := Cond.code yX12_isDairyWord cX12_isDairyWord 1 (Option.some FieldType.boolean)
theorem hd_X12_isDairyWord : yX12_isDairyWord.cls ≠ "java/lang/invoke/MethodHandle" ∧ yX12_isDairyWord.cls ≠ "java/lang/invoke/VarHandle" ∧ (parseMethodDescriptor yX12_isDairyWord.desc).map (fun d => d.parameters.length) = some 0 := by decide +kernel
theorem dX12_isDairyWord_0 : decode cX12_isDairyWord 0 = .ok (.aload_n 0, 1) := by decide +kernel
theorem dX12_isDairyWord_1 : decode cX12_isDairyWord 1 = .ok (.ldc2_w 221, 3) := by decide +kernel
theorem dX12_isDairyWord_4 : decode cX12_isDairyWord 4 = .ok (.invokevirtual 101, 3) := by decide +kernel
theorem dX12_isDairyWord_7 : decode cX12_isDairyWord 7 = .ok (.ifCond .ne 53, 3) := by decide +kernel
theorem dX12_isDairyWord_10 : decode cX12_isDairyWord 10 = .ok (.aload_n 0, 1) := by decide +kernel
theorem dX12_isDairyWord_11 : decode cX12_isDairyWord 11 = .ok (.ldc2_w 136, 3) := by decide +kernel
theorem dX12_isDairyWord_14 : decode cX12_isDairyWord 14 = .ok (.invokevirtual 101, 3) := by decide +kernel
theorem dX12_isDairyWord_17 : decode cX12_isDairyWord 17 = .ok (.ifCond .ne 43, 3) := by decide +kernel
theorem dX12_isDairyWord_20 : decode cX12_isDairyWord 20 = .ok (.aload_n 0, 1) := by decide +kernel
theorem dX12_isDairyWord_21 : decode cX12_isDairyWord 21 = .ok (.ldc2_w 122, 3) := by decide +kernel
theorem dX12_isDairyWord_24 : decode cX12_isDairyWord 24 = .ok (.invokevirtual 101, 3) := by decide +kernel
theorem dX12_isDairyWord_27 : decode cX12_isDairyWord 27 = .ok (.ifCond .ne 33, 3) := by decide +kernel
theorem dX12_isDairyWord_30 : decode cX12_isDairyWord 30 = .ok (.aload_n 0, 1) := by decide +kernel
theorem dX12_isDairyWord_31 : decode cX12_isDairyWord 31 = .ok (.ldc2_w 128, 3) := by decide +kernel
theorem dX12_isDairyWord_34 : decode cX12_isDairyWord 34 = .ok (.invokevirtual 101, 3) := by decide +kernel
theorem dX12_isDairyWord_37 : decode cX12_isDairyWord 37 = .ok (.ifCond .ne 23, 3) := by decide +kernel
theorem dX12_isDairyWord_40 : decode cX12_isDairyWord 40 = .ok (.aload_n 0, 1) := by decide +kernel
theorem dX12_isDairyWord_41 : decode cX12_isDairyWord 41 = .ok (.ldc2_w 132, 3) := by decide +kernel
theorem dX12_isDairyWord_44 : decode cX12_isDairyWord 44 = .ok (.invokevirtual 101, 3) := by decide +kernel
theorem dX12_isDairyWord_47 : decode cX12_isDairyWord 47 = .ok (.ifCond .ne 13, 3) := by decide +kernel
theorem dX12_isDairyWord_50 : decode cX12_isDairyWord 50 = .ok (.aload_n 0, 1) := by decide +kernel
theorem dX12_isDairyWord_51 : decode cX12_isDairyWord 51 = .ok (.ldc2_w 241, 3) := by decide +kernel
theorem dX12_isDairyWord_54 : decode cX12_isDairyWord 54 = .ok (.invokevirtual 101, 3) := by decide +kernel
theorem dX12_isDairyWord_57 : decode cX12_isDairyWord 57 = .ok (.ifCond .eq 7, 3) := by decide +kernel
theorem dX12_isDairyWord_60 : decode cX12_isDairyWord 60 = .ok (.iconst 1, 1) := by decide +kernel
theorem dX12_isDairyWord_61 : decode cX12_isDairyWord 61 = .ok (.goto 4, 3) := by decide +kernel
theorem dX12_isDairyWord_64 : decode cX12_isDairyWord 64 = .ok (.iconst 0, 1) := by decide +kernel
theorem dX12_isDairyWord_65 : decode cX12_isDairyWord 65 = .ok (.ireturn, 1) := by decide +kernel
def wp_X12_isDairyWord_60 (S : Sh) (post : Int → Mm → Prop) (M : Mm) : Prop := wC 1 fun v1 => (v1 = 0 ∨ v1 = 1) ∧ post v1 M
def wp_X12_isDairyWord (S : Sh) (M : Mm) (u0 : Int) (post : Int → Mm → Prop) : Prop := wC 431131030137 fun v3 => isK S u0 12 ∧ (wp_X12_isWord S M u0 v3 <| fun v6 M5 => wIf (¬ v6 = 0) (wp_X12_isDairyWord_60 S post M5) (wC 1919902052 fun v8 => isK S u0 12 ∧ (wp_X12_isWord S M5 u0 v8 <| fun v11 M10 => wIf (¬ v11 = 0) (wp_X12_isDairyWord_60 S post M10) (wC 1751215716 fun v13 => isK S u0 12 ∧ (wp_X12_isWord S M10 u0 v13 <| fun v16 M15 => wIf (¬ v16 = 0) (wp_X12_isDairyWord_60 S post M15) (wC 6976871 fun v18 => isK S u0 12 ∧ (wp_X12_isWord S M15 u0 v18 <| fun v21 M20 => wIf (¬ v21 = 0) (wp_X12_isDairyWord_60 S post M20) (wC 1751474548 fun v23 => isK S u0 12 ∧ (wp_X12_isWord S M20 u0 v23 <| fun v26 M25 => wIf (¬ v26 = 0) (wp_X12_isDairyWord_60 S post M25) (wC 2002873972 fun v28 => isK S u0 12 ∧ (wp_X12_isWord S M25 u0 v28 <| fun v31 M30 => wIf (v31 = 0) (wC 0 fun v33 => (v33 = 0 ∨ v33 = 1) ∧ post v33 M30) (wp_X12_isDairyWord_60 S post M30))))))))))))
set_option maxHeartbeats 4000000 in
set_option maxRecDepth 100000 in
theorem t_X12_isDairyWord_60 {p : Program} {l : Launch} {e : Env} {s : State} {m : MethodId} {args : Array Value} {below : List Frame} {meth : Method} {c : Code} {D : va_G} {G : Gt} {S : Sh} {post : Int → Mm → Prop} (C : Cx p s m args meth c D G cX12_isDairyWord 1 (some .boolean) (cw_X12_isDairyWord :: gw) RX12) : ∀ (M : Mm) (H : Heap) (locs : List Loc) (ls : Array Slot), Wd D G S M H → va_S (aG G) s.heap H locs → lv_has ls 1 [] → wp_X12_isDairyWord_60 S post  M → W p l e RM_X12_isDairyWord s m args below meth c H locs 0 0 (MQ below (QI D G S post) args s 0 0 (aG G)) (F0 m 60 ls []) := by
  obtain ⟨hx, hb, hr, hlocks, hml, hown, hts, hK⟩ := id C
  intro  M H locs ls hP hS hl h
  unfold wp_X12_isDairyWord_60 at h
  refine r_iconst hx hb dX12_isDairyWord_60 (by decide) h (fun z2 h => ?_)
  refine lv_goto (tgt := 65) hx hb dX12_isDairyWord_61 (by decide) ?_
  exact r_zret hx hb hr hlocks hP hS dX12_isDairyWord_65 h
set_option maxHeartbeats 4000000 in
set_option maxRecDepth 100000 in
theorem c_X12_isDairyWord (l : Launch) (D : va_G) (G : Gt) (S : Sh) (M : Mm) (xl0 : Int) (post : Int → Mm → Prop) (h : wp_X12_isDairyWord S M xl0 post) : Met l yX12_isDairyWord (cw_X12_isDairyWord :: gw) RM_X12_isDairyWord (va_Pc [.ref (adr G xl0)] (fun U => KN D G U ∧ Wd D G S M U.heap)) (QI D G S post) 0 0 (aG G) := by
  refine Met.ofW (cc := cX12_isDairyWord) (maxL := 1) (ret := (some .boolean)) (by decide) rfl ?_
  intro p e s m args below meth c s₁ B hml hv
  obtain ⟨rfl, hK, hP⟩ := hv
  have hx := B.exec
  have hb := B.bytes
  have hr := B.returns
  have hts := atoms_spec (ws := cw_X12_isDairyWord :: gw) B.pre
  have hown : s.vm.findClass RX12 = some m.cls := findClass_of_methodNamed B.named
  have hlocks := B.notSynchronized
  have hS : va_S (aG G) s.heap s.heap [] := va_S.rf
  have C : Cx p s m ([.ref (adr G xl0)] : List Value).toArray meth c D G cX12_isDairyWord 1 (some .boolean) (cw_X12_isDairyWord :: gw) RX12 := ⟨hx, hb, hr, hlocks, hml, hown, hts, hK⟩
  have hl := lv_entry ([.ref (adr G xl0)]) (n := 1) (Nat.le_of_ble_eq_true rfl)
  rw [lg_entry_eq]
  generalize (lg_sl ([.ref (adr G xl0)]) ++ List.replicate (1 - (lg_sl ([.ref (adr G xl0)])).length) Slot.unset).toArray = ls at hl ⊢
  have hl : lv_has ls 1 [(0, .ref (adr G xl0))] := hl
  unfold wp_X12_isDairyWord at h
  refine lv_aload_n hx hb dX12_isDairyWord_0 rfl (lv_at hl 0 rfl) ?_
  refine r_ldc2 hx hb hown (hts _ (List.mem_cons_of_mem _ kw_1482)) dX12_isDairyWord_1 (n := 431131030137) (by decide) h (fun z4 h => ?_)
  refine q_Vi hx hb hml hown hts hK hP hS (c_X12_isWord l D G S _ xl0 z4 _ h.2) ⟨callB_of 1 hts (gw_good kw_1486) rfl rfl rfl (hts _ (List.mem_cons_of_mem _ kw_14)) (hts _ (List.mem_cons_of_mem _ kw_1483)) hd_X12_isWord ⟨Nat.le_of_ble_eq_true rfl, Nat.le_of_ble_eq_true rfl⟩, (hts _ (List.mem_cons_of_mem _ kw_1485)), (hts _ (List.mem_cons_of_mem _ kp_56))⟩ h.1 (ci := 12) rfl (by decide) rfl hl.1 rfl (lv_room (Nat.le_of_ble_eq_true rfl)) dX12_isDairyWord_4 ⟨Nat.zero_le _, Nat.zero_le _⟩ (fun z7 M5 H locs h hP hS => ?_)
  refine r_if_ne (tgt := 60) hx hb dX12_isDairyWord_7 (by decide) h (fun h => ?_) (fun h => ?_)
  · exact t_X12_isDairyWord_60 C _ _ _ _ hP hS (lv_sub hl [] rfl) h
  · refine lv_aload_n hx hb dX12_isDairyWord_10 rfl (lv_at hl 0 rfl) ?_
    refine r_ldc2 hx hb hown (hts _ (List.mem_cons_of_mem _ kw_1491)) dX12_isDairyWord_11 (n := 1919902052) (by decide) h (fun z9 h => ?_)
    refine q_Vi hx hb hml hown hts hK hP hS (c_X12_isWord l D G S _ xl0 z9 _ h.2) ⟨callB_of 1 hts (gw_good kw_1486) rfl rfl rfl (hts _ (List.mem_cons_of_mem _ kw_14)) (hts _ (List.mem_cons_of_mem _ kw_1483)) hd_X12_isWord ⟨Nat.le_of_ble_eq_true rfl, Nat.le_of_ble_eq_true rfl⟩, (hts _ (List.mem_cons_of_mem _ kw_1485)), (hts _ (List.mem_cons_of_mem _ kp_56))⟩ h.1 (ci := 12) rfl (by decide) rfl hl.1 rfl (lv_room (Nat.le_of_ble_eq_true rfl)) dX12_isDairyWord_14 ⟨Nat.zero_le _, Nat.zero_le _⟩ (fun z12 M10 H locs h hP hS => ?_)
    refine r_if_ne (tgt := 60) hx hb dX12_isDairyWord_17 (by decide) h (fun h => ?_) (fun h => ?_)
    · exact t_X12_isDairyWord_60 C _ _ _ _ hP hS (lv_sub hl [] rfl) h
    · refine lv_aload_n hx hb dX12_isDairyWord_20 rfl (lv_at hl 0 rfl) ?_
      refine r_ldc2 hx hb hown (hts _ (List.mem_cons_of_mem _ kw_1492)) dX12_isDairyWord_21 (n := 1751215716) (by decide) h (fun z14 h => ?_)
      refine q_Vi hx hb hml hown hts hK hP hS (c_X12_isWord l D G S _ xl0 z14 _ h.2) ⟨callB_of 1 hts (gw_good kw_1486) rfl rfl rfl (hts _ (List.mem_cons_of_mem _ kw_14)) (hts _ (List.mem_cons_of_mem _ kw_1483)) hd_X12_isWord ⟨Nat.le_of_ble_eq_true rfl, Nat.le_of_ble_eq_true rfl⟩, (hts _ (List.mem_cons_of_mem _ kw_1485)), (hts _ (List.mem_cons_of_mem _ kp_56))⟩ h.1 (ci := 12) rfl (by decide) rfl hl.1 rfl (lv_room (Nat.le_of_ble_eq_true rfl)) dX12_isDairyWord_24 ⟨Nat.zero_le _, Nat.zero_le _⟩ (fun z17 M15 H locs h hP hS => ?_)
      refine r_if_ne (tgt := 60) hx hb dX12_isDairyWord_27 (by decide) h (fun h => ?_) (fun h => ?_)
      · exact t_X12_isDairyWord_60 C _ _ _ _ hP hS (lv_sub hl [] rfl) h
      · refine lv_aload_n hx hb dX12_isDairyWord_30 rfl (lv_at hl 0 rfl) ?_
        refine r_ldc2 hx hb hown (hts _ (List.mem_cons_of_mem _ kw_1493)) dX12_isDairyWord_31 (n := 6976871) (by decide) h (fun z19 h => ?_)
        refine q_Vi hx hb hml hown hts hK hP hS (c_X12_isWord l D G S _ xl0 z19 _ h.2) ⟨callB_of 1 hts (gw_good kw_1486) rfl rfl rfl (hts _ (List.mem_cons_of_mem _ kw_14)) (hts _ (List.mem_cons_of_mem _ kw_1483)) hd_X12_isWord ⟨Nat.le_of_ble_eq_true rfl, Nat.le_of_ble_eq_true rfl⟩, (hts _ (List.mem_cons_of_mem _ kw_1485)), (hts _ (List.mem_cons_of_mem _ kp_56))⟩ h.1 (ci := 12) rfl (by decide) rfl hl.1 rfl (lv_room (Nat.le_of_ble_eq_true rfl)) dX12_isDairyWord_34 ⟨Nat.zero_le _, Nat.zero_le _⟩ (fun z22 M20 H locs h hP hS => ?_)
        refine r_if_ne (tgt := 60) hx hb dX12_isDairyWord_37 (by decide) h (fun h => ?_) (fun h => ?_)
        · exact t_X12_isDairyWord_60 C _ _ _ _ hP hS (lv_sub hl [] rfl) h
        · refine lv_aload_n hx hb dX12_isDairyWord_40 rfl (lv_at hl 0 rfl) ?_
          refine r_ldc2 hx hb hown (hts _ (List.mem_cons_of_mem _ kw_1494)) dX12_isDairyWord_41 (n := 1751474548) (by decide) h (fun z24 h => ?_)
          refine q_Vi hx hb hml hown hts hK hP hS (c_X12_isWord l D G S _ xl0 z24 _ h.2) ⟨callB_of 1 hts (gw_good kw_1486) rfl rfl rfl (hts _ (List.mem_cons_of_mem _ kw_14)) (hts _ (List.mem_cons_of_mem _ kw_1483)) hd_X12_isWord ⟨Nat.le_of_ble_eq_true rfl, Nat.le_of_ble_eq_true rfl⟩, (hts _ (List.mem_cons_of_mem _ kw_1485)), (hts _ (List.mem_cons_of_mem _ kp_56))⟩ h.1 (ci := 12) rfl (by decide) rfl hl.1 rfl (lv_room (Nat.le_of_ble_eq_true rfl)) dX12_isDairyWord_44 ⟨Nat.zero_le _, Nat.zero_le _⟩ (fun z27 M25 H locs h hP hS => ?_)
          refine r_if_ne (tgt := 60) hx hb dX12_isDairyWord_47 (by decide) h (fun h => ?_) (fun h => ?_)
          · exact t_X12_isDairyWord_60 C _ _ _ _ hP hS (lv_sub hl [] rfl) h
          · refine lv_aload_n hx hb dX12_isDairyWord_50 rfl (lv_at hl 0 rfl) ?_
            refine r_ldc2 hx hb hown (hts _ (List.mem_cons_of_mem _ kw_1495)) dX12_isDairyWord_51 (n := 2002873972) (by decide) h (fun z29 h => ?_)
            refine q_Vi hx hb hml hown hts hK hP hS (c_X12_isWord l D G S _ xl0 z29 _ h.2) ⟨callB_of 1 hts (gw_good kw_1486) rfl rfl rfl (hts _ (List.mem_cons_of_mem _ kw_14)) (hts _ (List.mem_cons_of_mem _ kw_1483)) hd_X12_isWord ⟨Nat.le_of_ble_eq_true rfl, Nat.le_of_ble_eq_true rfl⟩, (hts _ (List.mem_cons_of_mem _ kw_1485)), (hts _ (List.mem_cons_of_mem _ kp_56))⟩ h.1 (ci := 12) rfl (by decide) rfl hl.1 rfl (lv_room (Nat.le_of_ble_eq_true rfl)) dX12_isDairyWord_54 ⟨Nat.zero_le _, Nat.zero_le _⟩ (fun z32 M30 H locs h hP hS => ?_)
            refine r_if_eq (tgt := 64) hx hb dX12_isDairyWord_57 (by decide) h (fun h => ?_) (fun h => ?_)
            · refine r_iconst hx hb dX12_isDairyWord_64 (by decide) h (fun z34 h => ?_)
              exact r_zret hx hb hr hlocks hP hS dX12_isDairyWord_65 h
            · exact t_X12_isDairyWord_60 C _ _ _ _ hP hS (lv_sub hl [] rfl) h
/-! TurningMilkModel.fails(II)Z -/
abbrev RM_X12_fails : Room := { frames := 1, cells := 0, slots := 0, locals := 40 }
def cw_X12_fails : Cond := Cond.code yX12_fails cX12_fails 3 (Option.some FieldType.boolean)
theorem hd_X12_fails : yX12_fails.cls ≠ "java/lang/invoke/MethodHandle" ∧ yX12_fails.cls ≠ "java/lang/invoke/VarHandle" ∧ (parseMethodDescriptor yX12_fails.desc).map (fun d => d.parameters.length) = some 2 := by decide +kernel
theorem dX12_fails_0 : decode cX12_fails 0 = .ok (.aload_n 0, 1) := by decide +kernel
theorem dX12_fails_1 : decode cX12_fails 1 = .ok (.getfield 87, 3) := by decide +kernel
theorem dX12_fails_4 : decode cX12_fails 4 = .ok (.ifCond .ne 15, 3) := by decide +kernel
theorem dX12_fails_7 : decode cX12_fails 7 = .ok (.aload_n 0, 1) := by decide +kernel
theorem dX12_fails_8 : decode cX12_fails 8 = .ok (.iconst 1, 1) := by decide +kernel
theorem dX12_fails_9 : decode cX12_fails 9 = .ok (.bipush 8, 2) := by decide +kernel
theorem dX12_fails_11 : decode cX12_fails 11 = .ok (.iload_n 2, 1) := by decide +kernel
theorem dX12_fails_12 : decode cX12_fails 12 = .ok (.imul, 1) := by decide +kernel
theorem dX12_fails_13 : decode cX12_fails 13 = .ok (.iadd, 1) := by decide +kernel
theorem dX12_fails_14 : decode cX12_fails 14 = .ok (.iload_n 1, 1) := by decide +kernel
theorem dX12_fails_15 : decode cX12_fails 15 = .ok (.iadd, 1) := by decide +kernel
theorem dX12_fails_16 : decode cX12_fails 16 = .ok (.putfield 87, 3) := by decide +kernel
theorem dX12_fails_19 : decode cX12_fails 19 = .ok (.iconst 0, 1) := by decide +kernel
theorem dX12_fails_20 : decode cX12_fails 20 = .ok (.ireturn, 1) := by decide +kernel
def wp_X12_fails (S : Sh) (M : Mm) (u0 : Int) (u1 : Int) (u2 : Int) (post : Int → Mm → Prop) : Prop := wGet S M u0 12 9 fun v1 => wIf (¬ v1 = 0) (wC 0 fun v3 => (v3 = 0 ∨ v3 = 1) ∧ post v3 M) (wC 1 fun v5 => wC 8 fun v7 => wM v7 u2 fun v9 => wA v5 v9 fun v11 => wA v11 u1 fun v13 => wPut S M u0 12 9 v13 fun M15 => wC 0 fun v16 => (v16 = 0 ∨ v16 = 1) ∧ post v16 M15)
set_option maxHeartbeats 4000000 in
set_option maxRecDepth 100000 in
theorem c_X12_fails (l : Launch) (D : va_G) (G : Gt) (S : Sh) (M : Mm) (xl0 : Int) (zl1 : Int32) (zl2 : Int32) (post : Int → Mm → Prop) (h : wp_X12_fails S M xl0 zl1.toInt zl2.toInt post) : Met l yX12_fails (cw_X12_fails :: gw) RM_X12_fails (va_Pc [.ref (adr G xl0), .int zl1, .int zl2] (fun U => KN D G U ∧ Wd D G S M U.heap)) (QI D G S post) 0 0 (aG G) := by
  refine Met.ofW (cc := cX12_fails) (maxL := 3) (ret := (some .boolean)) (by decide) rfl ?_
  intro p e s m args below meth c s₁ B hml hv
  obtain ⟨rfl, hK, hP⟩ := hv
  have hx := B.exec
  have hb := B.bytes
  have hr := B.returns
  have hts := atoms_spec (ws := cw_X12_fails :: gw) B.pre
  have hown : s.vm.findClass RX12 = some m.cls := findClass_of_methodNamed B.named
  have hlocks := B.notSynchronized
  have hS : va_S (aG G) s.heap s.heap [] := va_S.rf
  have C : Cx p s m ([.ref (adr G xl0), .int zl1, .int zl2] : List Value).toArray meth c D G cX12_fails 3 (some .boolean) (cw_X12_fails :: gw) RX12 := ⟨hx, hb, hr, hlocks, hml, hown, hts, hK⟩
  have hl := lv_entry ([.ref (adr G xl0), .int zl1, .int zl2]) (n := 3) (Nat.le_of_ble_eq_true rfl)
  rw [lg_entry_eq]
  generalize (lg_sl ([.ref (adr G xl0), .int zl1, .int zl2]) ++ List.replicate (3 - (lg_sl ([.ref (adr G xl0), .int zl1, .int zl2])).length) Slot.unset).toArray = ls at hl ⊢
  have hl : lv_has ls 3 [(0, .ref (adr G xl0)), (1, .int zl1), (2, .int zl2)] := hl
  unfold wp_X12_fails at h
  refine lv_aload_n hx hb dX12_fails_0 rfl (lv_at hl 0 rfl) ?_
  refine r_geti (C := RX12) (T := TX12) (N := 38) hx hb hts (fun w h => List.mem_cons_of_mem _ (iX12 w h)) hown hK hP rfl (by decide) rfl 9 (by decide) (hts _ (List.mem_cons_of_mem _ kw_1343)) (fun _ h9 => h9) dX12_fails_1 (by decide) h (fun z2 h => ?_)
  refine r_if_ne (tgt := 19) hx hb dX12_fails_4 (by decide) h (fun h => ?_) (fun h => ?_)
  · refine r_iconst hx hb dX12_fails_19 (by decide) h (fun z4 h => ?_)
    exact r_zret hx hb hr hlocks hP hS dX12_fails_20 h
  · refine lv_aload_n hx hb dX12_fails_7 rfl (lv_at hl 0 rfl) ?_
    refine r_iconst hx hb dX12_fails_8 (by decide) h (fun z6 h => ?_)
    refine r_bipush hx hb dX12_fails_9 (by decide) h (fun z8 h => ?_)
    refine lv_iload_n hx hb dX12_fails_11 rfl (lv_at hl 2 rfl) ?_
    refine r_imul hx hb dX12_fails_12 h (fun z10 h => ?_)
    refine r_iadd hx hb dX12_fails_13 h (fun z12 h => ?_)
    refine lv_iload_n hx hb dX12_fails_14 rfl (lv_at hl 1 rfl) ?_
    refine r_iadd hx hb dX12_fails_15 h (fun z14 h => ?_)
    refine r_puti (C := RX12) (T := TX12) (N := 38) hx hb hts (fun w h => List.mem_cons_of_mem _ (iX12 w h)) hown hK hP tyX12 tyX12_ok nmX12 hS rfl (by decide) rfl 9 (by decide) (hts _ (List.mem_cons_of_mem _ kw_1343)) (fun _ h9 => h9) rfl (tyX12_ok 9 (by decide)) rfl rfl dX12_fails_16 (by decide) h (fun M15 H locs h hP hS => ?_)
    refine r_iconst hx hb dX12_fails_19 (by decide) h (fun z17 h => ?_)
    exact r_zret hx hb hr hlocks hP hS dX12_fails_20 h
/-! TurningMilkModel.passWord()V -/
abbrev RM_X12_passWord : Room := { frames := 2, cells := 0, slots := 0, locals := 61 }
def cw_X12_passWord : Cond := Cond.code yX12_passWord cX12_passWord 1 (Option.none : Option FieldType)
theorem hd_X12_passWord : yX12_passWord.cls ≠ "java/lang/invoke/MethodHandle" ∧ yX12_passWord.cls ≠ "java/lang/invoke/VarHandle" ∧ (parseMethodDescriptor yX12_passWord.desc).map (fun d => d.parameters.length) = some 0 := by decide +kernel
theorem dX12_passWord_0 : decode cX12_passWord 0 = .ok (.aload_n 0, 1) := by decide +kernel
theorem dX12_passWord_1 : decode cX12_passWord 1 = .ok (.aload_n 0, 1) := by decide +kernel
theorem dX12_passWord_2 : decode cX12_passWord 2 = .ok (.getfield 90, 3) := by decide +kernel
theorem dX12_passWord_5 : decode cX12_passWord 5 = .ok (.invokevirtual 97, 3) := by decide +kernel
theorem dX12_passWord_8 : decode cX12_passWord 8 = .ok (.ifCond .eq 16, 3) := by decide +kernel
theorem dX12_passWord_11 : decode cX12_passWord 11 = .ok (.aload_n 0, 1) := by decide +kernel
theorem dX12_passWord_12 : decode cX12_passWord 12 = .ok (.dup, 1) := by decide +kernel
theorem dX12_passWord_13 : decode cX12_passWord 13 = .ok (.getfield 90, 3) := by decide +kernel
theorem dX12_passWord_16 : decode cX12_passWord 16 = .ok (.iconst 1, 1) := by decide +kernel
theorem dX12_passWord_17 : decode cX12_passWord 17 = .ok (.iadd, 1) := by decide +kernel
theorem dX12_passWord_18 : decode cX12_passWord 18 = .ok (.putfield 90, 3) := by decide +kernel
theorem dX12_passWord_21 : decode cX12_passWord 21 = .ok (.goto (-21), 3) := by decide +kernel
theorem dX12_passWord_24 : decode cX12_passWord 24 = .ok (.return_, 1) := by decide +kernel
def wp_X12_passWord_0 (S : Sh) (post : Mm → Prop) : Nat → Int → Mm → Prop
  | 0, _, _ => False
  | n + 1, u0, M => wGet S M u0 12 8 fun v1 => isK S u0 12 ∧ (wp_X12_isLetter S M u0 v1 <| fun v4 M3 => wIf (v4 = 0) (post M3) (wGet S M3 u0 12 8 fun v6 => wC 1 fun v8 => wA v6 v8 fun v10 => wPut S M3 u0 12 8 v10 fun M12 => wp_X12_passWord_0 S post n u0 M12))
def wp_X12_passWord (S : Sh) (M : Mm) (u0 : Int) (post : Mm → Prop) : Prop := ∃ n9 : Nat, wp_X12_passWord_0 S post n9 u0 M
set_option maxHeartbeats 4000000 in
set_option maxRecDepth 100000 in
theorem t_X12_passWord_0 {p : Program} {l : Launch} {e : Env} {s : State} {m : MethodId} {args : Array Value} {below : List Frame} {meth : Method} {c : Code} {D : va_G} {G : Gt} {S : Sh} {post : Mm → Prop} (C : Cx p s m args meth c D G cX12_passWord 1 none (cw_X12_passWord :: gw) RX12) : ∀ (n : Nat) (xl0 : Int) (M : Mm) (H : Heap) (locs : List Loc) (ls : Array Slot), Wd D G S M H → va_S (aG G) s.heap H locs → lv_has ls 1 [(0, .ref (adr G xl0))] → wp_X12_passWord_0 S post n xl0  M → W p l e RM_X12_passWord s m args below meth c H locs 0 0 (MQ below (QV D G S post) args s 0 0 (aG G)) (F0 m 0 ls []) := by
  obtain ⟨hx, hb, hr, hlocks, hml, hown, hts, hK⟩ := id C
  intro n
  induction n with
  | zero => intro xl0 M H locs ls hP hS hl h; exact h.elim
  | succ n ih =>
    intro xl0 M H locs ls hP hS hl h
    unfold wp_X12_passWord_0 at h
    refine lv_aload_n hx hb dX12_passWord_0 rfl (lv_at hl 0 rfl) ?_
    refine lv_aload_n hx hb dX12_passWord_1 rfl (lv_at hl 0 rfl) ?_
    refine r_geti (C := RX12) (T := TX12) (N := 38) hx hb hts (fun w h => List.mem_cons_of_mem _ (iX12 w h)) hown hK hP rfl (by decide) rfl 8 (by decide) (hts _ (List.mem_cons_of_mem _ kw_1342)) (fun _ h9 => h9) dX12_passWord_2 (by decide) h (fun z2 h => ?_)
    refine q_Vi hx hb hml hown hts hK hP hS (c_X12_isLetter l D G S _ xl0 z2 _ h.2) ⟨callB_of 1 hts (gw_good kw_1490) rfl rfl rfl (hts _ (List.mem_cons_of_mem _ kw_14)) (hts _ (List.mem_cons_of_mem _ kw_1487)) hd_X12_isLetter ⟨Nat.le_of_ble_eq_true rfl, Nat.le_of_ble_eq_true rfl⟩, (hts _ (List.mem_cons_of_mem _ kw_1489)), (hts _ (List.mem_cons_of_mem _ kp_57))⟩ h.1 (ci := 12) rfl (by decide) rfl hl.1 rfl (lv_room (Nat.le_of_ble_eq_true rfl)) dX12_passWord_5 ⟨Nat.zero_le _, Nat.zero_le _⟩ (fun z5 M3 H locs h hP hS => ?_)
    refine r_if_eq (tgt := 24) hx hb dX12_passWord_8 (by decide) h (fun h => ?_) (fun h => ?_)
    · exact r_vret hx hb hr hlocks hP hS dX12_passWord_24 h
    · refine lv_aload_n hx hb dX12_passWord_11 rfl (lv_at hl 0 rfl) ?_
      refine lv_dup hx hb dX12_passWord_12 rfl ?_
      refine r_geti (C := RX12) (T := TX12) (N := 38) hx hb hts (fun w h => List.mem_cons_of_mem _ (iX12 w h)) hown hK hP rfl (by decide) rfl 8 (by decide) (hts _ (List.mem_cons_of_mem _ kw_1342)) (fun _ h9 => h9) dX12_passWord_13 (by decide) h (fun z7 h => ?_)
      refine r_iconst hx hb dX12_passWord_16 (by decide) h (fun z9 h => ?_)
      refine r_iadd hx hb dX12_passWord_17 h (fun z11 h => ?_)
      refine r_puti (C := RX12) (T := TX12) (N := 38) hx hb hts (fun w h => List.mem_cons_of_mem _ (iX12 w h)) hown hK hP tyX12 tyX12_ok nmX12 hS rfl (by decide) rfl 8 (by decide) (hts _ (List.mem_cons_of_mem _ kw_1342)) (fun _ h9 => h9) rfl (tyX12_ok 8 (by decide)) rfl rfl dX12_passWord_18 (by decide) h (fun M12 H locs h hP hS => ?_)
      refine lv_goto (tgt := 0) hx hb dX12_passWord_21 (by decide) ?_
      exact ih xl0 _ _ _ _ hP hS (lv_sub hl [0] rfl) h
set_option maxHeartbeats 4000000 in
set_option maxRecDepth 100000 in
theorem c_X12_passWord (l : Launch) (D : va_G) (G : Gt) (S : Sh) (M : Mm) (xl0 : Int) (post : Mm → Prop) (h : wp_X12_passWord S M xl0 post) : Met l yX12_passWord (cw_X12_passWord :: gw) RM_X12_passWord (va_Pc [.ref (adr G xl0)] (fun U => KN D G U ∧ Wd D G S M U.heap)) (QV D G S post) 0 0 (aG G) := by
  refine Met.ofW (cc := cX12_passWord) (maxL := 1) (ret := none) (by decide) rfl ?_
  intro p e s m args below meth c s₁ B hml hv
  obtain ⟨rfl, hK, hP⟩ := hv
  have hx := B.exec
  have hb := B.bytes
  have hr := B.returns
  have hts := atoms_spec (ws := cw_X12_passWord :: gw) B.pre
  have hown : s.vm.findClass RX12 = some m.cls := findClass_of_methodNamed B.named
  have hlocks := B.notSynchronized
  have hS : va_S (aG G) s.heap s.heap [] := va_S.rf
  have C : Cx p s m ([.ref (adr G xl0)] : List Value).toArray meth c D G cX12_passWord 1 none (cw_X12_passWord :: gw) RX12 := ⟨hx, hb, hr, hlocks, hml, hown, hts, hK⟩
  have hl := lv_entry ([.ref (adr G xl0)]) (n := 1) (Nat.le_of_ble_eq_true rfl)
  rw [lg_entry_eq]
  generalize (lg_sl ([.ref (adr G xl0)]) ++ List.replicate (1 - (lg_sl ([.ref (adr G xl0)])).length) Slot.unset).toArray = ls at hl ⊢
  have hl : lv_has ls 1 [(0, .ref (adr G xl0))] := hl
  unfold wp_X12_passWord at h
  obtain ⟨n9, h⟩ := h
  exact t_X12_passWord_0 C n9 xl0 _ _ _ _ hP hS (lv_sub hl [0] rfl) h
/-! TurningMilkModel.isDigit(I)Z -/
abbrev RM_X12_isDigit : Room := { frames := 1, cells := 0, slots := 0, locals := 40 }
def cw_X12_isDigit : Cond := Cond.code yX12_isDigit cX12_isDigit 2 (Option.some FieldType.boolean)
theorem hd_X12_isDigit : yX12_isDigit.cls ≠ "java/lang/invoke/MethodHandle" ∧ yX12_isDigit.cls ≠ "java/lang/invoke/VarHandle" ∧ (parseMethodDescriptor yX12_isDigit.desc).map (fun d => d.parameters.length) = some 1 := by decide +kernel
theorem dX12_isDigit_0 : decode cX12_isDigit 0 = .ok (.iload_n 1, 1) := by decide +kernel
theorem dX12_isDigit_1 : decode cX12_isDigit 1 = .ok (.aload_n 0, 1) := by decide +kernel
theorem dX12_isDigit_2 : decode cX12_isDigit 2 = .ok (.getfield 80, 3) := by decide +kernel
theorem dX12_isDigit_5 : decode cX12_isDigit 5 = .ok (.if_icmp .ge 29, 3) := by decide +kernel
theorem dX12_isDigit_8 : decode cX12_isDigit 8 = .ok (.aload_n 0, 1) := by decide +kernel
theorem dX12_isDigit_9 : decode cX12_isDigit 9 = .ok (.getfield 7, 3) := by decide +kernel
theorem dX12_isDigit_12 : decode cX12_isDigit 12 = .ok (.iload_n 1, 1) := by decide +kernel
theorem dX12_isDigit_13 : decode cX12_isDigit 13 = .ok (.baload, 1) := by decide +kernel
theorem dX12_isDigit_14 : decode cX12_isDigit 14 = .ok (.bipush 48, 2) := by decide +kernel
theorem dX12_isDigit_16 : decode cX12_isDigit 16 = .ok (.if_icmp .lt 18, 3) := by decide +kernel
theorem dX12_isDigit_19 : decode cX12_isDigit 19 = .ok (.aload_n 0, 1) := by decide +kernel
theorem dX12_isDigit_20 : decode cX12_isDigit 20 = .ok (.getfield 7, 3) := by decide +kernel
theorem dX12_isDigit_23 : decode cX12_isDigit 23 = .ok (.iload_n 1, 1) := by decide +kernel
theorem dX12_isDigit_24 : decode cX12_isDigit 24 = .ok (.baload, 1) := by decide +kernel
theorem dX12_isDigit_25 : decode cX12_isDigit 25 = .ok (.bipush 57, 2) := by decide +kernel
theorem dX12_isDigit_27 : decode cX12_isDigit 27 = .ok (.if_icmp .gt 7, 3) := by decide +kernel
theorem dX12_isDigit_30 : decode cX12_isDigit 30 = .ok (.iconst 1, 1) := by decide +kernel
theorem dX12_isDigit_31 : decode cX12_isDigit 31 = .ok (.goto 4, 3) := by decide +kernel
theorem dX12_isDigit_34 : decode cX12_isDigit 34 = .ok (.iconst 0, 1) := by decide +kernel
theorem dX12_isDigit_35 : decode cX12_isDigit 35 = .ok (.ireturn, 1) := by decide +kernel
def wp_X12_isDigit (S : Sh) (M : Mm) (u0 : Int) (u1 : Int) (post : Int → Mm → Prop) : Prop := wGet S M u0 12 1 fun v1 => wIf (v1 ≤ u1) (wC 0 fun v3 => (v3 = 0 ∨ v3 = 1) ∧ post v3 M) (wGetR S M u0 12 0 fun v5 => wLd S M v5 13 u1 fun v7 => wC 48 fun v9 => wIf (v7 < v9) (wC 0 fun v11 => (v11 = 0 ∨ v11 = 1) ∧ post v11 M) (wGetR S M u0 12 0 fun v13 => wLd S M v13 13 u1 fun v15 => wC 57 fun v17 => wIf (v17 < v15) (wC 0 fun v19 => (v19 = 0 ∨ v19 = 1) ∧ post v19 M) (wC 1 fun v21 => (v21 = 0 ∨ v21 = 1) ∧ post v21 M)))
set_option maxHeartbeats 4000000 in
set_option maxRecDepth 100000 in
theorem c_X12_isDigit (l : Launch) (D : va_G) (G : Gt) (S : Sh) (M : Mm) (xl0 : Int) (zl1 : Int32) (post : Int → Mm → Prop) (h : wp_X12_isDigit S M xl0 zl1.toInt post) : Met l yX12_isDigit (cw_X12_isDigit :: gw) RM_X12_isDigit (va_Pc [.ref (adr G xl0), .int zl1] (fun U => KN D G U ∧ Wd D G S M U.heap)) (QI D G S post) 0 0 (aG G) := by
  refine Met.ofW (cc := cX12_isDigit) (maxL := 2) (ret := (some .boolean)) (by decide) rfl ?_
  intro p e s m args below meth c s₁ B hml hv
  obtain ⟨rfl, hK, hP⟩ := hv
  have hx := B.exec
  have hb := B.bytes
  have hr := B.returns
  have hts := atoms_spec (ws := cw_X12_isDigit :: gw) B.pre
  have hown : s.vm.findClass RX12 = some m.cls := findClass_of_methodNamed B.named
  have hlocks := B.notSynchronized
  have hS : va_S (aG G) s.heap s.heap [] := va_S.rf
  have C : Cx p s m ([.ref (adr G xl0), .int zl1] : List Value).toArray meth c D G cX12_isDigit 2 (some .boolean) (cw_X12_isDigit :: gw) RX12 := ⟨hx, hb, hr, hlocks, hml, hown, hts, hK⟩
  have hl := lv_entry ([.ref (adr G xl0), .int zl1]) (n := 2) (Nat.le_of_ble_eq_true rfl)
  rw [lg_entry_eq]
  generalize (lg_sl ([.ref (adr G xl0), .int zl1]) ++ List.replicate (2 - (lg_sl ([.ref (adr G xl0), .int zl1])).length) Slot.unset).toArray = ls at hl ⊢
  have hl : lv_has ls 2 [(0, .ref (adr G xl0)), (1, .int zl1)] := hl
  unfold wp_X12_isDigit at h
  refine lv_iload_n hx hb dX12_isDigit_0 rfl (lv_at hl 1 rfl) ?_
  refine lv_aload_n hx hb dX12_isDigit_1 rfl (lv_at hl 0 rfl) ?_
  refine r_geti (C := RX12) (T := TX12) (N := 38) hx hb hts (fun w h => List.mem_cons_of_mem _ (iX12 w h)) hown hK hP rfl (by decide) rfl 1 (by decide) (hts _ (List.mem_cons_of_mem _ kw_1335)) (fun _ h9 => h9) dX12_isDigit_2 (by decide) h (fun z2 h => ?_)
  refine r_icmp_ge (tgt := 34) hx hb dX12_isDigit_5 (by decide) h (fun h => ?_) (fun h => ?_)
  · refine r_iconst hx hb dX12_isDigit_34 (by decide) h (fun z4 h => ?_)
    exact r_zret hx hb hr hlocks hP hS dX12_isDigit_35 h
  · refine lv_aload_n hx hb dX12_isDigit_8 rfl (lv_at hl 0 rfl) ?_
    refine r_getr (C := RX12) (T := TX12) (N := 38) hx hb hts (fun w h => List.mem_cons_of_mem _ (iX12 w h)) hown hK hP rfl (by decide) rfl 0 (by decide) (hts _ (List.mem_cons_of_mem _ kw_1334)) (fun _ h9 => h9) dX12_isDigit_9 (by decide) h (fun x6 h => ?_)
    refine lv_iload_n hx hb dX12_isDigit_12 rfl (lv_at hl 1 rfl) ?_
    refine r_bald hx hb hK hP dX12_isDigit_13 h (fun z8 h => ?_)
    refine r_bipush hx hb dX12_isDigit_14 (by decide) h (fun z10 h => ?_)
    refine r_icmp_lt (tgt := 34) hx hb dX12_isDigit_16 (by decide) h (fun h => ?_) (fun h => ?_)
    · refine r_iconst hx hb dX12_isDigit_34 (by decide) h (fun z12 h => ?_)
      exact r_zret hx hb hr hlocks hP hS dX12_isDigit_35 h
    · refine lv_aload_n hx hb dX12_isDigit_19 rfl (lv_at hl 0 rfl) ?_
      refine r_getr (C := RX12) (T := TX12) (N := 38) hx hb hts (fun w h => List.mem_cons_of_mem _ (iX12 w h)) hown hK hP rfl (by decide) rfl 0 (by decide) (hts _ (List.mem_cons_of_mem _ kw_1334)) (fun _ h9 => h9) dX12_isDigit_20 (by decide) h (fun x14 h => ?_)
      refine lv_iload_n hx hb dX12_isDigit_23 rfl (lv_at hl 1 rfl) ?_
      refine r_bald hx hb hK hP dX12_isDigit_24 h (fun z16 h => ?_)
      refine r_bipush hx hb dX12_isDigit_25 (by decide) h (fun z18 h => ?_)
      refine r_icmp_gt (tgt := 34) hx hb dX12_isDigit_27 (by decide) h (fun h => ?_) (fun h => ?_)
      · refine r_iconst hx hb dX12_isDigit_34 (by decide) h (fun z20 h => ?_)
        exact r_zret hx hb hr hlocks hP hS dX12_isDigit_35 h
      · refine r_iconst hx hb dX12_isDigit_30 (by decide) h (fun z22 h => ?_)
        refine lv_goto (tgt := 35) hx hb dX12_isDigit_31 (by decide) ?_
        exact r_zret hx hb hr hlocks hP hS dX12_isDigit_35 h
/-! TurningMilkModel.in(JJJ)Z -/
abbrev RM_X12_in : Room := { frames := 1, cells := 0, slots := 0, locals := 40 }
def cw_X12_in : Cond := Cond.code yX12_in cX12_in 6 (Option.some FieldType.boolean)
theorem hd_X12_in : yX12_in.cls ≠ "java/lang/invoke/MethodHandle" ∧ yX12_in.cls ≠ "java/lang/invoke/VarHandle" ∧ (parseMethodDescriptor yX12_in.desc).map (fun d => d.parameters.length) = some 3 := by decide +kernel
theorem dX12_in_0 : decode cX12_in 0 = .ok (.lload_n 0, 1) := by decide +kernel
theorem dX12_in_1 : decode cX12_in 1 = .ok (.lload_n 2, 1) := by decide +kernel
theorem dX12_in_2 : decode cX12_in 2 = .ok (.lcmp, 1) := by decide +kernel
theorem dX12_in_3 : decode cX12_in 3 = .ok (.ifCond .lt 14, 3) := by decide +kernel
theorem dX12_in_6 : decode cX12_in 6 = .ok (.lload_n 0, 1) := by decide +kernel
theorem dX12_in_7 : decode cX12_in 7 = .ok (.lload 4, 2) := by decide +kernel
theorem dX12_in_9 : decode cX12_in 9 = .ok (.lcmp, 1) := by decide +kernel
theorem dX12_in_10 : decode cX12_in 10 = .ok (.ifCond .gt 7, 3) := by decide +kernel
theorem dX12_in_13 : decode cX12_in 13 = .ok (.iconst 1, 1) := by decide +kernel
theorem dX12_in_14 : decode cX12_in 14 = .ok (.goto 4, 3) := by decide +kernel
theorem dX12_in_17 : decode cX12_in 17 = .ok (.iconst 0, 1) := by decide +kernel
theorem dX12_in_18 : decode cX12_in 18 = .ok (.ireturn, 1) := by decide +kernel
def wp_X12_in (S : Sh) (M : Mm) (u0 : Int) (u2 : Int) (u4 : Int) (post : Int → Mm → Prop) : Prop := wCmp u0 u2 fun v1 => wIf (v1 < 0) (wC 0 fun v3 => (v3 = 0 ∨ v3 = 1) ∧ post v3 M) (wCmp u0 u4 fun v5 => wIf (0 < v5) (wC 0 fun v7 => (v7 = 0 ∨ v7 = 1) ∧ post v7 M) (wC 1 fun v9 => (v9 = 0 ∨ v9 = 1) ∧ post v9 M))
set_option maxHeartbeats 4000000 in
set_option maxRecDepth 100000 in
theorem c_X12_in (l : Launch) (D : va_G) (G : Gt) (S : Sh) (M : Mm) (zl0 : Int64) (zl2 : Int64) (zl4 : Int64) (post : Int → Mm → Prop) (h : wp_X12_in S M zl0.toInt zl2.toInt zl4.toInt post) : Met l yX12_in (cw_X12_in :: gw) RM_X12_in (va_Pc [.long zl0, .long zl2, .long zl4] (fun U => KN D G U ∧ Wd D G S M U.heap)) (QI D G S post) 0 0 (aG G) := by
  refine Met.ofW (cc := cX12_in) (maxL := 6) (ret := (some .boolean)) (by decide) rfl ?_
  intro p e s m args below meth c s₁ B hml hv
  obtain ⟨rfl, hK, hP⟩ := hv
  have hx := B.exec
  have hb := B.bytes
  have hr := B.returns
  have hts := atoms_spec (ws := cw_X12_in :: gw) B.pre
  have hown : s.vm.findClass RX12 = some m.cls := findClass_of_methodNamed B.named
  have hlocks := B.notSynchronized
  have hS : va_S (aG G) s.heap s.heap [] := va_S.rf
  have C : Cx p s m ([.long zl0, .long zl2, .long zl4] : List Value).toArray meth c D G cX12_in 6 (some .boolean) (cw_X12_in :: gw) RX12 := ⟨hx, hb, hr, hlocks, hml, hown, hts, hK⟩
  have hl := lv_entry ([.long zl0, .long zl2, .long zl4]) (n := 6) (Nat.le_of_ble_eq_true rfl)
  rw [lg_entry_eq]
  generalize (lg_sl ([.long zl0, .long zl2, .long zl4]) ++ List.replicate (6 - (lg_sl ([.long zl0, .long zl2, .long zl4])).length) Slot.unset).toArray = ls at hl ⊢
  have hl : lv_has ls 6 [(0, .long zl0), (2, .long zl2), (4, .long zl4)] := hl
  unfold wp_X12_in at h
  refine lv_lload_n hx hb dX12_in_0 rfl (lv_at hl 0 rfl) ?_
  refine lv_lload_n hx hb dX12_in_1 rfl (lv_at hl 1 rfl) ?_
  refine r_lcmp hx hb dX12_in_2 h (fun z2 h => ?_)
  refine r_if_lt (tgt := 17) hx hb dX12_in_3 (by decide) h (fun h => ?_) (fun h => ?_)
  · refine r_iconst hx hb dX12_in_17 (by decide) h (fun z4 h => ?_)
    exact r_zret hx hb hr hlocks hP hS dX12_in_18 h
  · refine lv_lload_n hx hb dX12_in_6 rfl (lv_at hl 0 rfl) ?_
    refine lv_lload hx hb dX12_in_7 (lv_at hl 2 rfl) ?_
    refine r_lcmp hx hb dX12_in_9 h (fun z6 h => ?_)
    refine r_if_gt (tgt := 17) hx hb dX12_in_10 (by decide) h (fun h => ?_) (fun h => ?_)
    · refine r_iconst hx hb dX12_in_17 (by decide) h (fun z8 h => ?_)
      exact r_zret hx hb hr hlocks hP hS dX12_in_18 h
    · refine r_iconst hx hb dX12_in_13 (by decide) h (fun z10 h => ?_)
      refine lv_goto (tgt := 18) hx hb dX12_in_14 (by decide) ?_
      exact r_zret hx hb hr hlocks hP hS dX12_in_18 h
/-! TurningMilkModel.numberHere(II)Z -/
abbrev RM_X12_numberHere : Room := { frames := 2, cells := 0, slots := 0, locals := 65 }
def cw_X12_numberHere : Cond := Cond.code yX12_numberHere cX12_numberHere 5 (Option.some FieldType.boolean)
theorem hd_X12_numberHere : yX12_numberHere.cls ≠ "java/lang/invoke/MethodHandle" ∧ yX12_numberHere.cls ≠ "java/lang/invoke/VarHandle" ∧ (parseMethodDescriptor yX12_numberHere.desc).map (fun d => d.parameters.length) = some 2 := by decide +kernel
theorem dX12_numberHere_0 : decode cX12_numberHere 0 = .ok (.aload_n 0, 1) := by decide +kernel
theorem dX12_numberHere_1 : decode cX12_numberHere 1 = .ok (.invokevirtual 93, 3) := by decide +kernel
theorem dX12_numberHere_4 : decode cX12_numberHere 4 = .ok (.pop, 1) := by decide +kernel
theorem dX12_numberHere_5 : decode cX12_numberHere 5 = .ok (.aload_n 0, 1) := by decide +kernel
theorem dX12_numberHere_6 : decode cX12_numberHere 6 = .ok (.aload_n 0, 1) := by decide +kernel
theorem dX12_numberHere_7 : decode cX12_numberHere 7 = .ok (.getfield 90, 3) := by decide +kernel
theorem dX12_numberHere_10 : decode cX12_numberHere 10 = .ok (.invokevirtual 108, 3) := by decide +kernel
theorem dX12_numberHere_13 : decode cX12_numberHere 13 = .ok (.ifCond .ne 13, 3) := by decide +kernel
theorem dX12_numberHere_16 : decode cX12_numberHere 16 = .ok (.aload_n 0, 1) := by decide +kernel
theorem dX12_numberHere_17 : decode cX12_numberHere 17 = .ok (.iconst 0, 1) := by decide +kernel
theorem dX12_numberHere_18 : decode cX12_numberHere 18 = .ok (.aload_n 0, 1) := by decide +kernel
theorem dX12_numberHere_19 : decode cX12_numberHere 19 = .ok (.getfield 90, 3) := by decide +kernel
theorem dX12_numberHere_22 : decode cX12_numberHere 22 = .ok (.invokevirtual 111, 3) := by decide +kernel
theorem dX12_numberHere_25 : decode cX12_numberHere 25 = .ok (.ireturn, 1) := by decide +kernel
theorem dX12_numberHere_26 : decode cX12_numberHere 26 = .ok (.aload_n 0, 1) := by decide +kernel
theorem dX12_numberHere_27 : decode cX12_numberHere 27 = .ok (.getfield 90, 3) := by decide +kernel
theorem dX12_numberHere_30 : decode cX12_numberHere 30 = .ok (.istore_n 3, 1) := by decide +kernel
theorem dX12_numberHere_31 : decode cX12_numberHere 31 = .ok (.iconst 0, 1) := by decide +kernel
theorem dX12_numberHere_32 : decode cX12_numberHere 32 = .ok (.istore 4, 2) := by decide +kernel
theorem dX12_numberHere_34 : decode cX12_numberHere 34 = .ok (.aload_n 0, 1) := by decide +kernel
theorem dX12_numberHere_35 : decode cX12_numberHere 35 = .ok (.aload_n 0, 1) := by decide +kernel
theorem dX12_numberHere_36 : decode cX12_numberHere 36 = .ok (.getfield 90, 3) := by decide +kernel
theorem dX12_numberHere_39 : decode cX12_numberHere 39 = .ok (.invokevirtual 108, 3) := by decide +kernel
theorem dX12_numberHere_42 : decode cX12_numberHere 42 = .ok (.ifCond .eq 46, 3) := by decide +kernel
theorem dX12_numberHere_45 : decode cX12_numberHere 45 = .ok (.aload_n 0, 1) := by decide +kernel
theorem dX12_numberHere_46 : decode cX12_numberHere 46 = .ok (.getfield 90, 3) := by decide +kernel
theorem dX12_numberHere_49 : decode cX12_numberHere 49 = .ok (.iload_n 3, 1) := by decide +kernel
theorem dX12_numberHere_50 : decode cX12_numberHere 50 = .ok (.isub, 1) := by decide +kernel
theorem dX12_numberHere_51 : decode cX12_numberHere 51 = .ok (.iconst 5, 1) := by decide +kernel
theorem dX12_numberHere_52 : decode cX12_numberHere 52 = .ok (.if_icmp .ge 23, 3) := by decide +kernel
theorem dX12_numberHere_55 : decode cX12_numberHere 55 = .ok (.bipush 10, 2) := by decide +kernel
theorem dX12_numberHere_57 : decode cX12_numberHere 57 = .ok (.iload 4, 2) := by decide +kernel
theorem dX12_numberHere_59 : decode cX12_numberHere 59 = .ok (.imul, 1) := by decide +kernel
theorem dX12_numberHere_60 : decode cX12_numberHere 60 = .ok (.aload_n 0, 1) := by decide +kernel
theorem dX12_numberHere_61 : decode cX12_numberHere 61 = .ok (.getfield 7, 3) := by decide +kernel
theorem dX12_numberHere_64 : decode cX12_numberHere 64 = .ok (.aload_n 0, 1) := by decide +kernel
theorem dX12_numberHere_65 : decode cX12_numberHere 65 = .ok (.getfield 90, 3) := by decide +kernel
theorem dX12_numberHere_68 : decode cX12_numberHere 68 = .ok (.baload, 1) := by decide +kernel
theorem dX12_numberHere_69 : decode cX12_numberHere 69 = .ok (.iadd, 1) := by decide +kernel
theorem dX12_numberHere_70 : decode cX12_numberHere 70 = .ok (.bipush 48, 2) := by decide +kernel
theorem dX12_numberHere_72 : decode cX12_numberHere 72 = .ok (.isub, 1) := by decide +kernel
theorem dX12_numberHere_73 : decode cX12_numberHere 73 = .ok (.istore 4, 2) := by decide +kernel
theorem dX12_numberHere_75 : decode cX12_numberHere 75 = .ok (.aload_n 0, 1) := by decide +kernel
theorem dX12_numberHere_76 : decode cX12_numberHere 76 = .ok (.dup, 1) := by decide +kernel
theorem dX12_numberHere_77 : decode cX12_numberHere 77 = .ok (.getfield 90, 3) := by decide +kernel
theorem dX12_numberHere_80 : decode cX12_numberHere 80 = .ok (.iconst 1, 1) := by decide +kernel
theorem dX12_numberHere_81 : decode cX12_numberHere 81 = .ok (.iadd, 1) := by decide +kernel
theorem dX12_numberHere_82 : decode cX12_numberHere 82 = .ok (.putfield 90, 3) := by decide +kernel
theorem dX12_numberHere_85 : decode cX12_numberHere 85 = .ok (.goto (-51), 3) := by decide +kernel
theorem dX12_numberHere_88 : decode cX12_numberHere 88 = .ok (.aload_n 0, 1) := by decide +kernel
theorem dX12_numberHere_89 : decode cX12_numberHere 89 = .ok (.iload 4, 2) := by decide +kernel
theorem dX12_numberHere_91 : decode cX12_numberHere 91 = .ok (.putfield 115, 3) := by decide +kernel
theorem dX12_numberHere_94 : decode cX12_numberHere 94 = .ok (.aload_n 0, 1) := by decide +kernel
theorem dX12_numberHere_95 : decode cX12_numberHere 95 = .ok (.getfield 90, 3) := by decide +kernel
theorem dX12_numberHere_98 : decode cX12_numberHere 98 = .ok (.iload_n 3, 1) := by decide +kernel
theorem dX12_numberHere_99 : decode cX12_numberHere 99 = .ok (.isub, 1) := by decide +kernel
theorem dX12_numberHere_100 : decode cX12_numberHere 100 = .ok (.iconst 5, 1) := by decide +kernel
theorem dX12_numberHere_101 : decode cX12_numberHere 101 = .ok (.if_icmp .gt 16, 3) := by decide +kernel
theorem dX12_numberHere_104 : decode cX12_numberHere 104 = .ok (.iload 4, 2) := by decide +kernel
theorem dX12_numberHere_106 : decode cX12_numberHere 106 = .ok (.i2l, 1) := by decide +kernel
theorem dX12_numberHere_107 : decode cX12_numberHere 107 = .ok (.iload_n 1, 1) := by decide +kernel
theorem dX12_numberHere_108 : decode cX12_numberHere 108 = .ok (.i2l, 1) := by decide +kernel
theorem dX12_numberHere_109 : decode cX12_numberHere 109 = .ok (.iload_n 2, 1) := by decide +kernel
theorem dX12_numberHere_110 : decode cX12_numberHere 110 = .ok (.i2l, 1) := by decide +kernel
theorem dX12_numberHere_111 : decode cX12_numberHere 111 = .ok (.invokestatic 118, 3) := by decide +kernel
theorem dX12_numberHere_114 : decode cX12_numberHere 114 = .ok (.ifCond .ne 12, 3) := by decide +kernel
theorem dX12_numberHere_117 : decode cX12_numberHere 117 = .ok (.aload_n 0, 1) := by decide +kernel
theorem dX12_numberHere_118 : decode cX12_numberHere 118 = .ok (.iconst 1, 1) := by decide +kernel
theorem dX12_numberHere_119 : decode cX12_numberHere 119 = .ok (.iload_n 3, 1) := by decide +kernel
theorem dX12_numberHere_120 : decode cX12_numberHere 120 = .ok (.invokevirtual 111, 3) := by decide +kernel
theorem dX12_numberHere_123 : decode cX12_numberHere 123 = .ok (.ifCond .eq 7, 3) := by decide +kernel
theorem dX12_numberHere_126 : decode cX12_numberHere 126 = .ok (.iconst 1, 1) := by decide +kernel
theorem dX12_numberHere_127 : decode cX12_numberHere 127 = .ok (.goto 4, 3) := by decide +kernel
theorem dX12_numberHere_130 : decode cX12_numberHere 130 = .ok (.iconst 0, 1) := by decide +kernel
theorem dX12_numberHere_131 : decode cX12_numberHere 131 = .ok (.ireturn, 1) := by decide +kernel
def wp_X12_numberHere_126 (S : Sh) (post : Int → Mm → Prop) (M : Mm) : Prop := wC 1 fun v1 => (v1 = 0 ∨ v1 = 1) ∧ post v1 M
def wp_X12_numberHere_117 (S : Sh) (post : Int → Mm → Prop) (u0 : Int) (u3 : Int) (M : Mm) : Prop := wC 1 fun v3 => isK S u0 12 ∧ (wp_X12_fails S M u0 v3 u3 <| fun v6 M5 => wIf (v6 = 0) (wC 0 fun v8 => (v8 = 0 ∨ v8 = 1) ∧ post v8 M5) (wp_X12_numberHere_126 S post M5))
def wp_X12_numberHere_75 (S : Sh) (k34 : Int → Int → Int → Int → Int → Mm → Prop) (post : Int → Mm → Prop) (u0 : Int) (u1 : Int) (u2 : Int) (u3 : Int) (u4 : Int) (M : Mm) : Prop := wGet S M u0 12 8 fun v10 => wC 1 fun v12 => wA v10 v12 fun v14 => wPut S M u0 12 8 v14 fun M16 => k34 u0 u1 u2 u3 u4 M16
def wp_X12_numberHere_34 (S : Sh) (post : Int → Mm → Prop) : Nat → Int → Int → Int → Int → Int → Mm → Prop
  | 0, _, _, _, _, _, _ => False
  | n + 1, u0, u1, u2, u3, u4, M => wGet S M u0 12 8 fun v17 => isK S u0 12 ∧ (wp_X12_isDigit S M u0 v17 <| fun v20 M19 => wIf (v20 = 0) (wPut S M19 u0 12 10 u4 fun M22 => wGet S M22 u0 12 8 fun v23 => wS v23 u3 fun v25 => wC 5 fun v27 => wIf (v27 < v25) (wp_X12_numberHere_117 S post u0 u3 M22) (wC u4 fun v29 => wC u1 fun v31 => wC u2 fun v33 => wp_X12_in S M22 v29 v31 v33 <| fun v36 M35 => wIf (¬ v36 = 0) (wp_X12_numberHere_126 S post M35) (wp_X12_numberHere_117 S post u0 u3 M35))) (wGet S M19 u0 12 8 fun v38 => wS v38 u3 fun v40 => wC 5 fun v42 => wIf (v42 ≤ v40) (wp_X12_numberHere_75 S (fun a0 a1 a2 a3 a4 M => wp_X12_numberHere_34 S post n a0 a1 a2 a3 a4 M) post u0 u1 u2 u3 u4 M19) (wC 10 fun v44 => wM v44 u4 fun v46 => wGetR S M19 u0 12 0 fun v48 => wGet S M19 u0 12 8 fun v50 => wLd S M19 v48 13 v50 fun v52 => wA v46 v52 fun v54 => wC 48 fun v56 => wS v54 v56 fun v58 => wp_X12_numberHere_75 S (fun a0 a1 a2 a3 a4 M => wp_X12_numberHere_34 S post n a0 a1 a2 a3 a4 M) post u0 u1 u2 u3 v58 M19)))
def wp_X12_numberHere (S : Sh) (M : Mm) (u0 : Int) (u1 : Int) (u2 : Int) (post : Int → Mm → Prop) : Prop := isK S u0 12 ∧ (wp_X12_see S M u0 <| fun v61 M60 => wGet S M60 u0 12 8 fun v63 => isK S u0 12 ∧ (wp_X12_isDigit S M60 u0 v63 <| fun v66 M65 => wIf (¬ v66 = 0) (wGet S M65 u0 12 8 fun v68 => wC 0 fun v70 => ∃ n9 : Nat, wp_X12_numberHere_34 S post n9 u0 u1 u2 v68 v70 M65) (wC 0 fun v72 => wGet S M65 u0 12 8 fun v74 => isK S u0 12 ∧ (wp_X12_fails S M65 u0 v72 v74 <| fun v77 M76 => (v77 = 0 ∨ v77 = 1) ∧ post v77 M76))))
set_option maxHeartbeats 4000000 in
set_option maxRecDepth 100000 in
theorem t_X12_numberHere_126 {p : Program} {l : Launch} {e : Env} {s : State} {m : MethodId} {args : Array Value} {below : List Frame} {meth : Method} {c : Code} {D : va_G} {G : Gt} {S : Sh} {post : Int → Mm → Prop} (C : Cx p s m args meth c D G cX12_numberHere 5 (some .boolean) (cw_X12_numberHere :: gw) RX12) : ∀ (M : Mm) (H : Heap) (locs : List Loc) (ls : Array Slot), Wd D G S M H → va_S (aG G) s.heap H locs → lv_has ls 5 [] → wp_X12_numberHere_126 S post  M → W p l e RM_X12_numberHere s m args below meth c H locs 0 0 (MQ below (QI D G S post) args s 0 0 (aG G)) (F0 m 126 ls []) := by
  obtain ⟨hx, hb, hr, hlocks, hml, hown, hts, hK⟩ := id C
  intro  M H locs ls hP hS hl h
  unfold wp_X12_numberHere_126 at h
  refine r_iconst hx hb dX12_numberHere_126 (by decide) h (fun z2 h => ?_)
  refine lv_goto (tgt := 131) hx hb dX12_numberHere_127 (by decide) ?_
  exact r_zret hx hb hr hlocks hP hS dX12_numberHere_131 h
set_option maxHeartbeats 4000000 in
set_option maxRecDepth 100000 in
theorem t_X12_numberHere_117 {p : Program} {l : Launch} {e : Env} {s : State} {m : MethodId} {args : Array Value} {below : List Frame} {meth : Method} {c : Code} {D : va_G} {G : Gt} {S : Sh} {post : Int → Mm → Prop} (C : Cx p s m args meth c D G cX12_numberHere 5 (some .boolean) (cw_X12_numberHere :: gw) RX12) : ∀ (xl0 : Int) (zl3 : Int32) (M : Mm) (H : Heap) (locs : List Loc) (ls : Array Slot), Wd D G S M H → va_S (aG G) s.heap H locs → lv_has ls 5 [(0, .ref (adr G xl0)), (3, .int zl3)] → wp_X12_numberHere_117 S post xl0 zl3.toInt  M → W p l e RM_X12_numberHere s m args below meth c H locs 0 0 (MQ below (QI D G S post) args s 0 0 (aG G)) (F0 m 117 ls []) := by
  obtain ⟨hx, hb, hr, hlocks, hml, hown, hts, hK⟩ := id C
  intro xl0 zl3 M H locs ls hP hS hl h
  unfold wp_X12_numberHere_117 at h
  refine lv_aload_n hx hb dX12_numberHere_117 rfl (lv_at hl 0 rfl) ?_
  refine r_iconst hx hb dX12_numberHere_118 (by decide) h (fun z4 h => ?_)
  refine lv_iload_n hx hb dX12_numberHere_119 rfl (lv_at hl 1 rfl) ?_
  refine q_Vi hx hb hml hown hts hK hP hS (c_X12_fails l D G S _ xl0 z4 zl3 _ h.2) ⟨callB_of 2 hts (gw_good kw_1500) rfl rfl rfl (hts _ (List.mem_cons_of_mem _ kw_14)) (hts _ (List.mem_cons_of_mem _ kw_1497)) hd_X12_fails ⟨Nat.le_of_ble_eq_true rfl, Nat.le_of_ble_eq_true rfl⟩, (hts _ (List.mem_cons_of_mem _ kw_1499)), (hts _ (List.mem_cons_of_mem _ kp_58))⟩ h.1 (ci := 12) rfl (by decide) rfl hl.1 rfl (lv_room (Nat.le_of_ble_eq_true rfl)) dX12_numberHere_120 ⟨Nat.zero_le _, Nat.zero_le _⟩ (fun z7 M5 H locs h hP hS => ?_)
  refine r_if_eq (tgt := 130) hx hb dX12_numberHere_123 (by decide) h (fun h => ?_) (fun h => ?_)
  · refine r_iconst hx hb dX12_numberHere_130 (by decide) h (fun z9 h => ?_)
    exact r_zret hx hb hr hlocks hP hS dX12_numberHere_131 h
  · exact t_X12_numberHere_126 C _ _ _ _ hP hS (lv_sub hl [] rfl) h
set_option maxHeartbeats 4000000 in
set_option maxRecDepth 100000 in
theorem t_X12_numberHere_75 {p : Program} {l : Launch} {e : Env} {s : State} {m : MethodId} {args : Array Value} {below : List Frame} {meth : Method} {c : Code} {D : va_G} {G : Gt} {S : Sh} {post : Int → Mm → Prop} {k34 : Int → Int → Int → Int → Int → Mm → Prop} (C : Cx p s m args meth c D G cX12_numberHere 5 (some .boolean) (cw_X12_numberHere :: gw) RX12) (hk34 : ∀ (y0 : Int) (y1 : Int32) (y2 : Int32) (y3 : Int32) (y4 : Int32) (M : Mm) (H : Heap) (locs : List Loc) (ls : Array Slot), Wd D G S M H → va_S (aG G) s.heap H locs → lv_has ls 5 [(0, .ref (adr G y0)), (1, .int y1), (2, .int y2), (3, .int y3), (4, .int y4)] → k34 y0 y1.toInt y2.toInt y3.toInt y4.toInt M → W p l e RM_X12_numberHere s m args below meth c H locs 0 0 (MQ below (QI D G S post) args s 0 0 (aG G)) (F0 m 34 ls [])) : ∀ (xl0 : Int) (zl1 : Int32) (zl2 : Int32) (zl3 : Int32) (zl4 : Int32) (M : Mm) (H : Heap) (locs : List Loc) (ls : Array Slot), Wd D G S M H → va_S (aG G) s.heap H locs → lv_has ls 5 [(0, .ref (adr G xl0)), (1, .int zl1), (2, .int zl2), (3, .int zl3), (4, .int zl4)] → wp_X12_numberHere_75 S k34 post xl0 zl1.toInt zl2.toInt zl3.toInt zl4.toInt  M → W p l e RM_X12_numberHere s m args below meth c H locs 0 0 (MQ below (QI D G S post) args s 0 0 (aG G)) (F0 m 75 ls []) := by
  obtain ⟨hx, hb, hr, hlocks, hml, hown, hts, hK⟩ := id C
  intro xl0 zl1 zl2 zl3 zl4 M H locs ls hP hS hl h
  unfold wp_X12_numberHere_75 at h
  refine lv_aload_n hx hb dX12_numberHere_75 rfl (lv_at hl 0 rfl) ?_
  refine lv_dup hx hb dX12_numberHere_76 rfl ?_
  refine r_geti (C := RX12) (T := TX12) (N := 38) hx hb hts (fun w h => List.mem_cons_of_mem _ (iX12 w h)) hown hK hP rfl (by decide) rfl 8 (by decide) (hts _ (List.mem_cons_of_mem _ kw_1342)) (fun _ h9 => h9) dX12_numberHere_77 (by decide) h (fun z11 h => ?_)
  refine r_iconst hx hb dX12_numberHere_80 (by decide) h (fun z13 h => ?_)
  refine r_iadd hx hb dX12_numberHere_81 h (fun z15 h => ?_)
  refine r_puti (C := RX12) (T := TX12) (N := 38) hx hb hts (fun w h => List.mem_cons_of_mem _ (iX12 w h)) hown hK hP tyX12 tyX12_ok nmX12 hS rfl (by decide) rfl 8 (by decide) (hts _ (List.mem_cons_of_mem _ kw_1342)) (fun _ h9 => h9) rfl (tyX12_ok 8 (by decide)) rfl rfl dX12_numberHere_82 (by decide) h (fun M16 H locs h hP hS => ?_)
  refine lv_goto (tgt := 34) hx hb dX12_numberHere_85 (by decide) ?_
  exact hk34 xl0 zl1 zl2 zl3 zl4 _ _ _ _ hP hS (lv_sub hl [0, 1, 2, 3, 4] rfl) h
set_option maxHeartbeats 4000000 in
set_option maxRecDepth 100000 in
theorem t_X12_numberHere_34 {p : Program} {l : Launch} {e : Env} {s : State} {m : MethodId} {args : Array Value} {below : List Frame} {meth : Method} {c : Code} {D : va_G} {G : Gt} {S : Sh} {post : Int → Mm → Prop} (C : Cx p s m args meth c D G cX12_numberHere 5 (some .boolean) (cw_X12_numberHere :: gw) RX12) : ∀ (n : Nat) (xl0 : Int) (zl1 : Int32) (zl2 : Int32) (zl3 : Int32) (zl4 : Int32) (M : Mm) (H : Heap) (locs : List Loc) (ls : Array Slot), Wd D G S M H → va_S (aG G) s.heap H locs → lv_has ls 5 [(0, .ref (adr G xl0)), (1, .int zl1), (2, .int zl2), (3, .int zl3), (4, .int zl4)] → wp_X12_numberHere_34 S post n xl0 zl1.toInt zl2.toInt zl3.toInt zl4.toInt  M → W p l e RM_X12_numberHere s m args below meth c H locs 0 0 (MQ below (QI D G S post) args s 0 0 (aG G)) (F0 m 34 ls []) := by
  obtain ⟨hx, hb, hr, hlocks, hml, hown, hts, hK⟩ := id C
  intro n
  induction n with
  | zero => intro xl0 zl1 zl2 zl3 zl4 M H locs ls hP hS hl h; exact h.elim
  | succ n ih =>
    intro xl0 zl1 zl2 zl3 zl4 M H locs ls hP hS hl h
    unfold wp_X12_numberHere_34 at h
    refine lv_aload_n hx hb dX12_numberHere_34 rfl (lv_at hl 0 rfl) ?_
    refine lv_aload_n hx hb dX12_numberHere_35 rfl (lv_at hl 0 rfl) ?_
    refine r_geti (C := RX12) (T := TX12) (N := 38) hx hb hts (fun w h => List.mem_cons_of_mem _ (iX12 w h)) hown hK hP rfl (by decide) rfl 8 (by decide) (hts _ (List.mem_cons_of_mem _ kw_1342)) (fun _ h9 => h9) dX12_numberHere_36 (by decide) h (fun z18 h => ?_)
    refine q_Vi hx hb hml hown hts hK hP hS (c_X12_isDigit l D G S _ xl0 z18 _ h.2) ⟨callB_of 1 hts (gw_good kw_1520) rfl rfl rfl (hts _ (List.mem_cons_of_mem _ kw_14)) (hts _ (List.mem_cons_of_mem _ kw_1517)) hd_X12_isDigit ⟨Nat.le_of_ble_eq_true rfl, Nat.le_of_ble_eq_true rfl⟩, (hts _ (List.mem_cons_of_mem _ kw_1519)), (hts _ (List.mem_cons_of_mem _ kp_63))⟩ h.1 (ci := 12) rfl (by decide) rfl hl.1 rfl (lv_room (Nat.le_of_ble_eq_true rfl)) dX12_numberHere_39 ⟨Nat.zero_le _, Nat.zero_le _⟩ (fun z21 M19 H locs h hP hS => ?_)
    refine r_if_eq (tgt := 88) hx hb dX12_numberHere_42 (by decide) h (fun h => ?_) (fun h => ?_)
    · refine lv_aload_n hx hb dX12_numberHere_88 rfl (lv_at hl 0 rfl) ?_
      refine lv_iload hx hb dX12_numberHere_89 (lv_at hl 4 rfl) ?_
      refine r_puti (C := RX12) (T := TX12) (N := 38) hx hb hts (fun w h => List.mem_cons_of_mem _ (iX12 w h)) hown hK hP tyX12 tyX12_ok nmX12 hS rfl (by decide) rfl 10 (by decide) (hts _ (List.mem_cons_of_mem _ kw_1344)) (fun _ h9 => h9) rfl (tyX12_ok 10 (by decide)) rfl rfl dX12_numberHere_91 (by decide) h (fun M22 H locs h hP hS => ?_)
      refine lv_aload_n hx hb dX12_numberHere_94 rfl (lv_at hl 0 rfl) ?_
      refine r_geti (C := RX12) (T := TX12) (N := 38) hx hb hts (fun w h => List.mem_cons_of_mem _ (iX12 w h)) hown hK hP rfl (by decide) rfl 8 (by decide) (hts _ (List.mem_cons_of_mem _ kw_1342)) (fun _ h9 => h9) dX12_numberHere_95 (by decide) h (fun z24 h => ?_)
      refine lv_iload_n hx hb dX12_numberHere_98 rfl (lv_at hl 3 rfl) ?_
      refine r_isub hx hb dX12_numberHere_99 h (fun z26 h => ?_)
      refine r_iconst hx hb dX12_numberHere_100 (by decide) h (fun z28 h => ?_)
      refine r_icmp_gt (tgt := 117) hx hb dX12_numberHere_101 (by decide) h (fun h => ?_) (fun h => ?_)
      · exact t_X12_numberHere_117 C xl0 zl3 _ _ _ _ hP hS (lv_sub hl [0, 3] rfl) h
      · refine lv_iload hx hb dX12_numberHere_104 (lv_at hl 4 rfl) ?_
        refine r_i2l hx hb dX12_numberHere_106 h (fun z30 h => ?_)
        refine lv_iload_n hx hb dX12_numberHere_107 rfl (lv_at hl 1 rfl) ?_
        refine r_i2l hx hb dX12_numberHere_108 h (fun z32 h => ?_)
        refine lv_iload_n hx hb dX12_numberHere_109 rfl (lv_at hl 2 rfl) ?_
        refine r_i2l hx hb dX12_numberHere_110 h (fun z34 h => ?_)
        refine q_Si hx hb hml hown hts hK hP hS (c_X12_in l D G S _ z30 z32 z34 _ h) ⟨callB_of 3 hts (gw_good kw_1523) rfl rfl rfl (hts _ (List.mem_cons_of_mem _ kw_14)) (hts _ (List.mem_cons_of_mem _ kw_1521)) hd_X12_in ⟨Nat.le_of_ble_eq_true rfl, Nat.le_of_ble_eq_true rfl⟩, (hts _ (List.mem_cons_of_mem _ kw_1522))⟩ rfl hl.1 rfl (lv_room (Nat.le_of_ble_eq_true rfl)) dX12_numberHere_111 ⟨Nat.zero_le _, Nat.zero_le _⟩ (fun z37 M35 H locs h hP hS => ?_)
        refine r_if_ne (tgt := 126) hx hb dX12_numberHere_114 (by decide) h (fun h => ?_) (fun h => ?_)
        · exact t_X12_numberHere_126 C _ _ _ _ hP hS (lv_sub hl [] rfl) h
        · exact t_X12_numberHere_117 C xl0 zl3 _ _ _ _ hP hS (lv_sub hl [0, 3] rfl) h
    · refine lv_aload_n hx hb dX12_numberHere_45 rfl (lv_at hl 0 rfl) ?_
      refine r_geti (C := RX12) (T := TX12) (N := 38) hx hb hts (fun w h => List.mem_cons_of_mem _ (iX12 w h)) hown hK hP rfl (by decide) rfl 8 (by decide) (hts _ (List.mem_cons_of_mem _ kw_1342)) (fun _ h9 => h9) dX12_numberHere_46 (by decide) h (fun z39 h => ?_)
      refine lv_iload_n hx hb dX12_numberHere_49 rfl (lv_at hl 3 rfl) ?_
      refine r_isub hx hb dX12_numberHere_50 h (fun z41 h => ?_)
      refine r_iconst hx hb dX12_numberHere_51 (by decide) h (fun z43 h => ?_)
      refine r_icmp_ge (tgt := 75) hx hb dX12_numberHere_52 (by decide) h (fun h => ?_) (fun h => ?_)
      · exact t_X12_numberHere_75 C ih xl0 zl1 zl2 zl3 zl4 _ _ _ _ hP hS (lv_sub hl [0, 1, 2, 3, 4] rfl) h
      · refine r_bipush hx hb dX12_numberHere_55 (by decide) h (fun z45 h => ?_)
        refine lv_iload hx hb dX12_numberHere_57 (lv_at hl 4 rfl) ?_
        refine r_imul hx hb dX12_numberHere_59 h (fun z47 h => ?_)
        refine lv_aload_n hx hb dX12_numberHere_60 rfl (lv_at hl 0 rfl) ?_
        refine r_getr (C := RX12) (T := TX12) (N := 38) hx hb hts (fun w h => List.mem_cons_of_mem _ (iX12 w h)) hown hK hP rfl (by decide) rfl 0 (by decide) (hts _ (List.mem_cons_of_mem _ kw_1334)) (fun _ h9 => h9) dX12_numberHere_61 (by decide) h (fun x49 h => ?_)
        refine lv_aload_n hx hb dX12_numberHere_64 rfl (lv_at hl 0 rfl) ?_
        refine r_geti (C := RX12) (T := TX12) (N := 38) hx hb hts (fun w h => List.mem_cons_of_mem _ (iX12 w h)) hown hK hP rfl (by decide) rfl 8 (by decide) (hts _ (List.mem_cons_of_mem _ kw_1342)) (fun _ h9 => h9) dX12_numberHere_65 (by decide) h (fun z51 h => ?_)
        refine r_bald hx hb hK hP dX12_numberHere_68 h (fun z53 h => ?_)
        refine r_iadd hx hb dX12_numberHere_69 h (fun z55 h => ?_)
        refine r_bipush hx hb dX12_numberHere_70 (by decide) h (fun z57 h => ?_)
        refine r_isub hx hb dX12_numberHere_72 h (fun z59 h => ?_)
        refine lv_istore (lv' := [(4, .int z59), (0, .ref (adr G xl0)), (1, .int zl1), (2, .int zl2), (3, .int zl3)]) hx hb dX12_numberHere_73 hl (by decide) rfl (fun ls hl => ?_)
        exact t_X12_numberHere_75 C ih xl0 zl1 zl2 zl3 z59 _ _ _ _ hP hS (lv_sub hl [1, 2, 3, 4, 0] rfl) h
set_option maxHeartbeats 4000000 in
set_option maxRecDepth 100000 in
theorem c_X12_numberHere (l : Launch) (D : va_G) (G : Gt) (S : Sh) (M : Mm) (xl0 : Int) (zl1 : Int32) (zl2 : Int32) (post : Int → Mm → Prop) (h : wp_X12_numberHere S M xl0 zl1.toInt zl2.toInt post) : Met l yX12_numberHere (cw_X12_numberHere :: gw) RM_X12_numberHere (va_Pc [.ref (adr G xl0), .int zl1, .int zl2] (fun U => KN D G U ∧ Wd D G S M U.heap)) (QI D G S post) 0 0 (aG G) := by
  refine Met.ofW (cc := cX12_numberHere) (maxL := 5) (ret := (some .boolean)) (by decide) rfl ?_
  intro p e s m args below meth c s₁ B hml hv
  obtain ⟨rfl, hK, hP⟩ := hv
  have hx := B.exec
  have hb := B.bytes
  have hr := B.returns
  have hts := atoms_spec (ws := cw_X12_numberHere :: gw) B.pre
  have hown : s.vm.findClass RX12 = some m.cls := findClass_of_methodNamed B.named
  have hlocks := B.notSynchronized
  have hS : va_S (aG G) s.heap s.heap [] := va_S.rf
  have C : Cx p s m ([.ref (adr G xl0), .int zl1, .int zl2] : List Value).toArray meth c D G cX12_numberHere 5 (some .boolean) (cw_X12_numberHere :: gw) RX12 := ⟨hx, hb, hr, hlocks, hml, hown, hts, hK⟩
  have hl := lv_entry ([.ref (adr G xl0), .int zl1, .int zl2]) (n := 5) (Nat.le_of_ble_eq_true rfl)
  rw [lg_entry_eq]
  generalize (lg_sl ([.ref (adr G xl0), .int zl1, .int zl2]) ++ List.replicate (5 - (lg_sl ([.ref (adr G xl0), .int zl1, .int zl2])).length) Slot.unset).toArray = ls at hl ⊢
  have hl : lv_has ls 5 [(0, .ref (adr G xl0)), (1, .int zl1), (2, .int zl2)] := hl
  unfold wp_X12_numberHere at h
  refine lv_aload_n hx hb dX12_numberHere_0 rfl (lv_at hl 0 rfl) ?_
  refine q_Vi hx hb hml hown hts hK hP hS (c_X12_see l D G S _ xl0 _ h.2) ⟨callB_of 0 hts (gw_good kw_1477) rfl rfl rfl (hts _ (List.mem_cons_of_mem _ kw_14)) (hts _ (List.mem_cons_of_mem _ kw_1474)) hd_X12_see ⟨Nat.le_of_ble_eq_true rfl, Nat.le_of_ble_eq_true rfl⟩, (hts _ (List.mem_cons_of_mem _ kw_1476)), (hts _ (List.mem_cons_of_mem _ kp_54))⟩ h.1 (ci := 12) rfl (by decide) rfl hl.1 rfl (lv_room (Nat.le_of_ble_eq_true rfl)) dX12_numberHere_1 ⟨Nat.zero_le _, Nat.zero_le _⟩ (fun z62 M60 H locs h hP hS => ?_)
  refine lv_pop hx hb dX12_numberHere_4 rfl ?_
  refine lv_aload_n hx hb dX12_numberHere_5 rfl (lv_at hl 0 rfl) ?_
  refine lv_aload_n hx hb dX12_numberHere_6 rfl (lv_at hl 0 rfl) ?_
  refine r_geti (C := RX12) (T := TX12) (N := 38) hx hb hts (fun w h => List.mem_cons_of_mem _ (iX12 w h)) hown hK hP rfl (by decide) rfl 8 (by decide) (hts _ (List.mem_cons_of_mem _ kw_1342)) (fun _ h9 => h9) dX12_numberHere_7 (by decide) h (fun z64 h => ?_)
  refine q_Vi hx hb hml hown hts hK hP hS (c_X12_isDigit l D G S _ xl0 z64 _ h.2) ⟨callB_of 1 hts (gw_good kw_1520) rfl rfl rfl (hts _ (List.mem_cons_of_mem _ kw_14)) (hts _ (List.mem_cons_of_mem _ kw_1517)) hd_X12_isDigit ⟨Nat.le_of_ble_eq_true rfl, Nat.le_of_ble_eq_true rfl⟩, (hts _ (List.mem_cons_of_mem _ kw_1519)), (hts _ (List.mem_cons_of_mem _ kp_63))⟩ h.1 (ci := 12) rfl (by decide) rfl hl.1 rfl (lv_room (Nat.le_of_ble_eq_true rfl)) dX12_numberHere_10 ⟨Nat.zero_le _, Nat.zero_le _⟩ (fun z67 M65 H locs h hP hS => ?_)
  refine r_if_ne (tgt := 26) hx hb dX12_numberHere_13 (by decide) h (fun h => ?_) (fun h => ?_)
  · refine lv_aload_n hx hb dX12_numberHere_26 rfl (lv_at hl 0 rfl) ?_
    refine r_geti (C := RX12) (T := TX12) (N := 38) hx hb hts (fun w h => List.mem_cons_of_mem _ (iX12 w h)) hown hK hP rfl (by decide) rfl 8 (by decide) (hts _ (List.mem_cons_of_mem _ kw_1342)) (fun _ h9 => h9) dX12_numberHere_27 (by decide) h (fun z69 h => ?_)
    refine lv_istore_n (lv' := [(3, .int z69), (0, .ref (adr G xl0)), (1, .int zl1), (2, .int zl2)]) hx hb dX12_numberHere_30 rfl hl (by decide) rfl (fun ls hl => ?_)
    refine r_iconst hx hb dX12_numberHere_31 (by decide) h (fun z71 h => ?_)
    refine lv_istore (lv' := [(4, .int z71), (3, .int z69), (0, .ref (adr G xl0)), (1, .int zl1), (2, .int zl2)]) hx hb dX12_numberHere_32 hl (by decide) rfl (fun ls hl => ?_)
    obtain ⟨n9, h⟩ := h
    exact t_X12_numberHere_34 C n9 xl0 zl1 zl2 z69 z71 _ _ _ _ hP hS (lv_sub hl [2, 3, 4, 1, 0] rfl) h
  · refine lv_aload_n hx hb dX12_numberHere_16 rfl (lv_at hl 0 rfl) ?_
    refine r_iconst hx hb dX12_numberHere_17 (by decide) h (fun z73 h => ?_)
    refine lv_aload_n hx hb dX12_numberHere_18 rfl (lv_at hl 0 rfl) ?_
    refine r_geti (C := RX12) (T := TX12) (N := 38) hx hb hts (fun w h => List.mem_cons_of_mem _ (iX12 w h)) hown hK hP rfl (by decide) rfl 8 (by decide) (hts _ (List.mem_cons_of_mem _ kw_1342)) (fun _ h9 => h9) dX12_numberHere_19 (by decide) h (fun z75 h => ?_)
    refine q_Vi hx hb hml hown hts hK hP hS (c_X12_fails l D G S _ xl0 z73 z75 _ h.2) ⟨callB_of 2 hts (gw_good kw_1500) rfl rfl rfl (hts _ (List.mem_cons_of_mem _ kw_14)) (hts _ (List.mem_cons_of_mem _ kw_1497)) hd_X12_fails ⟨Nat.le_of_ble_eq_true rfl, Nat.le_of_ble_eq_true rfl⟩, (hts _ (List.mem_cons_of_mem _ kw_1499)), (hts _ (List.mem_cons_of_mem _ kp_58))⟩ h.1 (ci := 12) rfl (by decide) rfl hl.1 rfl (lv_room (Nat.le_of_ble_eq_true rfl)) dX12_numberHere_22 ⟨Nat.zero_le _, Nat.zero_le _⟩ (fun z78 M76 H locs h hP hS => ?_)
    exact r_zret hx hb hr hlocks hP hS dX12_numberHere_25 h
/-! TurningMilkModel.cellHere(III)Z -/
abbrev RM_X12_cellHere : Room := { frames := 3, cells := 0, slots := 0, locals := 89 }
def cw_X12_cellHere : Cond := Cond.code yX12_cellHere cX12_cellHere 4 (Option.some FieldType.boolean)
theorem hd_X12_cellHere : yX12_cellHere.cls ≠ "java/lang/invoke/MethodHandle" ∧ yX12_cellHere.cls ≠ "java/lang/invoke/VarHandle" ∧ (parseMethodDescriptor yX12_cellHere.desc).map (fun d => d.parameters.length) = some 3 := by decide +kernel
theorem dX12_cellHere_0 : decode cX12_cellHere 0 = .ok (.aload_n 0, 1) := by decide +kernel
theorem dX12_cellHere_1 : decode cX12_cellHere 1 = .ok (.iload_n 2, 1) := by decide +kernel
theorem dX12_cellHere_2 : decode cX12_cellHere 2 = .ok (.iload_n 3, 1) := by decide +kernel
theorem dX12_cellHere_3 : decode cX12_cellHere 3 = .ok (.invokevirtual 163, 3) := by decide +kernel
theorem dX12_cellHere_6 : decode cX12_cellHere 6 = .ok (.ifCond .ne 5, 3) := by decide +kernel
theorem dX12_cellHere_9 : decode cX12_cellHere 9 = .ok (.iconst 0, 1) := by decide +kernel
theorem dX12_cellHere_10 : decode cX12_cellHere 10 = .ok (.ireturn, 1) := by decide +kernel
theorem dX12_cellHere_11 : decode cX12_cellHere 11 = .ok (.aload_n 0, 1) := by decide +kernel
theorem dX12_cellHere_12 : decode cX12_cellHere 12 = .ok (.getfield 26, 3) := by decide +kernel
theorem dX12_cellHere_15 : decode cX12_cellHere 15 = .ok (.iload_n 1, 1) := by decide +kernel
theorem dX12_cellHere_16 : decode cX12_cellHere 16 = .ok (.aload_n 0, 1) := by decide +kernel
theorem dX12_cellHere_17 : decode cX12_cellHere 17 = .ok (.getfield 115, 3) := by decide +kernel
theorem dX12_cellHere_20 : decode cX12_cellHere 20 = .ok (.iastore, 1) := by decide +kernel
theorem dX12_cellHere_21 : decode cX12_cellHere 21 = .ok (.iconst 1, 1) := by decide +kernel
theorem dX12_cellHere_22 : decode cX12_cellHere 22 = .ok (.ireturn, 1) := by decide +kernel
def wp_X12_cellHere (S : Sh) (M : Mm) (u0 : Int) (u1 : Int) (u2 : Int) (u3 : Int) (post : Int → Mm → Prop) : Prop := isK S u0 12 ∧ (wp_X12_numberHere S M u0 u2 u3 <| fun v2 M1 => wIf (¬ v2 = 0) (wGetR S M1 u0 12 7 fun v4 => wGet S M1 u0 12 10 fun v6 => wSt S M1 v4 14 u1 v6 fun M8 => wC 1 fun v9 => (v9 = 0 ∨ v9 = 1) ∧ post v9 M8) (wC 0 fun v11 => (v11 = 0 ∨ v11 = 1) ∧ post v11 M1))
set_option maxHeartbeats 4000000 in
set_option maxRecDepth 100000 in
theorem c_X12_cellHere (l : Launch) (D : va_G) (G : Gt) (S : Sh) (M : Mm) (xl0 : Int) (zl1 : Int32) (zl2 : Int32) (zl3 : Int32) (post : Int → Mm → Prop) (h : wp_X12_cellHere S M xl0 zl1.toInt zl2.toInt zl3.toInt post) : Met l yX12_cellHere (cw_X12_cellHere :: gw) RM_X12_cellHere (va_Pc [.ref (adr G xl0), .int zl1, .int zl2, .int zl3] (fun U => KN D G U ∧ Wd D G S M U.heap)) (QI D G S post) 0 0 (aG G) := by
  refine Met.ofW (cc := cX12_cellHere) (maxL := 4) (ret := (some .boolean)) (by decide) rfl ?_
  intro p e s m args below meth c s₁ B hml hv
  obtain ⟨rfl, hK, hP⟩ := hv
  have hx := B.exec
  have hb := B.bytes
  have hr := B.returns
  have hts := atoms_spec (ws := cw_X12_cellHere :: gw) B.pre
  have hown : s.vm.findClass RX12 = some m.cls := findClass_of_methodNamed B.named
  have hlocks := B.notSynchronized
  have hS : va_S (aG G) s.heap s.heap [] := va_S.rf
  have C : Cx p s m ([.ref (adr G xl0), .int zl1, .int zl2, .int zl3] : List Value).toArray meth c D G cX12_cellHere 4 (some .boolean) (cw_X12_cellHere :: gw) RX12 := ⟨hx, hb, hr, hlocks, hml, hown, hts, hK⟩
  have hl := lv_entry ([.ref (adr G xl0), .int zl1, .int zl2, .int zl3]) (n := 4) (Nat.le_of_ble_eq_true rfl)
  rw [lg_entry_eq]
  generalize (lg_sl ([.ref (adr G xl0), .int zl1, .int zl2, .int zl3]) ++ List.replicate (4 - (lg_sl ([.ref (adr G xl0), .int zl1, .int zl2, .int zl3])).length) Slot.unset).toArray = ls at hl ⊢
  have hl : lv_has ls 4 [(0, .ref (adr G xl0)), (1, .int zl1), (2, .int zl2), (3, .int zl3)] := hl
  unfold wp_X12_cellHere at h
  refine lv_aload_n hx hb dX12_cellHere_0 rfl (lv_at hl 0 rfl) ?_
  refine lv_iload_n hx hb dX12_cellHere_1 rfl (lv_at hl 2 rfl) ?_
  refine lv_iload_n hx hb dX12_cellHere_2 rfl (lv_at hl 3 rfl) ?_
  refine q_Vi hx hb hml hown hts hK hP hS (c_X12_numberHere l D G S _ xl0 zl2 zl3 _ h.2) ⟨callB_of 2 hts (gw_good kw_1516) rfl rfl rfl (hts _ (List.mem_cons_of_mem _ kw_14)) (hts _ (List.mem_cons_of_mem _ kw_1513)) hd_X12_numberHere ⟨Nat.le_of_ble_eq_true rfl, Nat.le_of_ble_eq_true rfl⟩, (hts _ (List.mem_cons_of_mem _ kw_1515)), (hts _ (List.mem_cons_of_mem _ kp_62))⟩ h.1 (ci := 12) rfl (by decide) rfl hl.1 rfl (lv_room (Nat.le_of_ble_eq_true rfl)) dX12_cellHere_3 ⟨Nat.zero_le _, Nat.zero_le _⟩ (fun z3 M1 H locs h hP hS => ?_)
  refine r_if_ne (tgt := 11) hx hb dX12_cellHere_6 (by decide) h (fun h => ?_) (fun h => ?_)
  · refine lv_aload_n hx hb dX12_cellHere_11 rfl (lv_at hl 0 rfl) ?_
    refine r_getr (C := RX12) (T := TX12) (N := 38) hx hb hts (fun w h => List.mem_cons_of_mem _ (iX12 w h)) hown hK hP rfl (by decide) rfl 7 (by decide) (hts _ (List.mem_cons_of_mem _ kw_1341)) (fun _ h9 => h9) dX12_cellHere_12 (by decide) h (fun x5 h => ?_)
    refine lv_iload_n hx hb dX12_cellHere_15 rfl (lv_at hl 1 rfl) ?_
    refine lv_aload_n hx hb dX12_cellHere_16 rfl (lv_at hl 0 rfl) ?_
    refine r_geti (C := RX12) (T := TX12) (N := 38) hx hb hts (fun w h => List.mem_cons_of_mem _ (iX12 w h)) hown hK hP rfl (by decide) rfl 10 (by decide) (hts _ (List.mem_cons_of_mem _ kw_1344)) (fun _ h9 => h9) dX12_cellHere_17 (by decide) h (fun z7 h => ?_)
    refine r_iast hx hb hK hP hS dX12_cellHere_20 h (fun M8 H locs h hP hS => ?_)
    refine r_iconst hx hb dX12_cellHere_21 (by decide) h (fun z10 h => ?_)
    exact r_zret hx hb hr hlocks hP hS dX12_cellHere_22 h
  · refine r_iconst hx hb dX12_cellHere_9 (by decide) h (fun z12 h => ?_)
    exact r_zret hx hb hr hlocks hP hS dX12_cellHere_10 h
