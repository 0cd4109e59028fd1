/-! TurningMilkModel.nextPlace(I)I -/
abbrev RM_X12_nextPlace : Room := { frames := 2, cells := 0, slots := 0, locals := 64 }
def cw_X12_nextPlace : Cond := Cond.code yX12_nextPlace cX12_nextPlace 3 (Option.some FieldType.int)
theorem hd_X12_nextPlace : yX12_nextPlace.cls ≠ "java/lang/invoke/MethodHandle" ∧ yX12_nextPlace.cls ≠ "java/lang/invoke/VarHandle" ∧ (parseMethodDescriptor yX12_nextPlace.desc).map (fun d => d.parameters.length) = some 1 := by decide +kernel
theorem dX12_nextPlace_0 : decode cX12_nextPlace 0 = .ok (.iconst 0, 1) := by decide +kernel
theorem dX12_nextPlace_1 : decode cX12_nextPlace 1 = .ok (.istore_n 2, 1) := by decide +kernel
theorem dX12_nextPlace_2 : decode cX12_nextPlace 2 = .ok (.iload_n 2, 1) := by decide +kernel
theorem dX12_nextPlace_3 : decode cX12_nextPlace 3 = .ok (.aload_n 0, 1) := by decide +kernel
theorem dX12_nextPlace_4 : decode cX12_nextPlace 4 = .ok (.getfield 39, 3) := by decide +kernel
theorem dX12_nextPlace_7 : decode cX12_nextPlace 7 = .ok (.iconst 0, 1) := by decide +kernel
theorem dX12_nextPlace_8 : decode cX12_nextPlace 8 = .ok (.iaload, 1) := by decide +kernel
theorem dX12_nextPlace_9 : decode cX12_nextPlace 9 = .ok (.if_icmp .ge 42, 3) := by decide +kernel
theorem dX12_nextPlace_12 : decode cX12_nextPlace 12 = .ok (.aload_n 0, 1) := by decide +kernel
theorem dX12_nextPlace_13 : decode cX12_nextPlace 13 = .ok (.iload_n 1, 1) := by decide +kernel
theorem dX12_nextPlace_14 : decode cX12_nextPlace 14 = .ok (.iload_n 2, 1) := by decide +kernel
theorem dX12_nextPlace_15 : decode cX12_nextPlace 15 = .ok (.invokevirtual 368, 3) := by decide +kernel
theorem dX12_nextPlace_18 : decode cX12_nextPlace 18 = .ok (.ifCond .le 27, 3) := by decide +kernel
theorem dX12_nextPlace_21 : decode cX12_nextPlace 21 = .ok (.aload_n 0, 1) := by decide +kernel
theorem dX12_nextPlace_22 : decode cX12_nextPlace 22 = .ok (.getfield 52, 3) := by decide +kernel
theorem dX12_nextPlace_25 : decode cX12_nextPlace 25 = .ok (.iload_n 2, 1) := by decide +kernel
theorem dX12_nextPlace_26 : decode cX12_nextPlace 26 = .ok (.iaload, 1) := by decide +kernel
theorem dX12_nextPlace_27 : decode cX12_nextPlace 27 = .ok (.aload_n 0, 1) := by decide +kernel
theorem dX12_nextPlace_28 : decode cX12_nextPlace 28 = .ok (.iload_n 1, 1) := by decide +kernel
theorem dX12_nextPlace_29 : decode cX12_nextPlace 29 = .ok (.iload_n 2, 1) := by decide +kernel
theorem dX12_nextPlace_30 : decode cX12_nextPlace 30 = .ok (.invokevirtual 368, 3) := by decide +kernel
theorem dX12_nextPlace_33 : decode cX12_nextPlace 33 = .ok (.iadd, 1) := by decide +kernel
theorem dX12_nextPlace_34 : decode cX12_nextPlace 34 = .ok (.aload_n 0, 1) := by decide +kernel
theorem dX12_nextPlace_35 : decode cX12_nextPlace 35 = .ok (.getfield 52, 3) := by decide +kernel
theorem dX12_nextPlace_38 : decode cX12_nextPlace 38 = .ok (.iload_n 1, 1) := by decide +kernel
theorem dX12_nextPlace_39 : decode cX12_nextPlace 39 = .ok (.iaload, 1) := by decide +kernel
theorem dX12_nextPlace_40 : decode cX12_nextPlace 40 = .ok (.if_icmp .ne 5, 3) := by decide +kernel
theorem dX12_nextPlace_43 : decode cX12_nextPlace 43 = .ok (.iload_n 2, 1) := by decide +kernel
theorem dX12_nextPlace_44 : decode cX12_nextPlace 44 = .ok (.ireturn, 1) := by decide +kernel
theorem dX12_nextPlace_45 : decode cX12_nextPlace 45 = .ok (.iinc 2 1, 3) := by decide +kernel
theorem dX12_nextPlace_48 : decode cX12_nextPlace 48 = .ok (.goto (-46), 3) := by decide +kernel
theorem dX12_nextPlace_51 : decode cX12_nextPlace 51 = .ok (.iconst (-1), 1) := by decide +kernel
theorem dX12_nextPlace_52 : decode cX12_nextPlace 52 = .ok (.ireturn, 1) := by decide +kernel
def wp_X12_nextPlace_45 (S : Sh) (k2 : Int → Int → Int → Mm → Prop) (post : Int → Mm → Prop) (u0 : Int) (u1 : Int) (u2 : Int) (M : Mm) : Prop := wA u2 1 fun v1 => k2 u0 u1 v1 M
def wp_X12_nextPlace_2 (S : Sh) (post : Int → Mm → Prop) : Nat → Int → Int → Int → Mm → Prop
  | 0, _, _, _, _ => False
  | n + 1, u0, u1, u2, M => wGetR S M u0 12 20 fun v3 => wC 0 fun v5 => wLd S M v3 14 v5 fun v7 => wIf (v7 ≤ u2) (wC (-1) fun v9 => post v9 M) (isK S u0 12 ∧ (wp_X12_roadOf S M u0 u1 u2 <| fun v12 M11 => wIf (v12 ≤ 0) (wp_X12_nextPlace_45 S (fun a0 a1 a2 M => wp_X12_nextPlace_2 S post n a0 a1 a2 M) post u0 u1 u2 M11) (wGetR S M11 u0 12 27 fun v14 => wLd S M11 v14 14 u2 fun v16 => isK S u0 12 ∧ (wp_X12_roadOf S M11 u0 u1 u2 <| fun v19 M18 => wA v16 v19 fun v21 => wGetR S M18 u0 12 27 fun v23 => wLd S M18 v23 14 u1 fun v25 => wIf (¬ v21 = v25) (wp_X12_nextPlace_45 S (fun a0 a1 a2 M => wp_X12_nextPlace_2 S post n a0 a1 a2 M) post u0 u1 u2 M18) (post u2 M18)))))
def wp_X12_nextPlace (S : Sh) (M : Mm) (u0 : Int) (u1 : Int) (post : Int → Mm → Prop) : Prop := wC 0 fun v27 => ∃ n9 : Nat, wp_X12_nextPlace_2 S post n9 u0 u1 v27 M
set_option maxHeartbeats 4000000 in
set_option maxRecDepth 100000 in
theorem t_X12_nextPlace_45 {p : Program} {l : Launch} {e : Env} {s : State} {m : MethodId} {args : Array Value} {below : List Frame} {meth : Method} {c : Code} {D : va_G} {G : Gt} {S : Sh} {post : Int → Mm → Prop} {k2 : Int → Int → Int → Mm → Prop} (C : Cx p s m args meth c D G cX12_nextPlace 3 (some .int) (cw_X12_nextPlace :: gw) RX12) (hk2 : ∀ (y0 : Int) (y1 : Int32) (y2 : Int32) (M : Mm) (H : Heap) (locs : List Loc) (ls : Array Slot), Wd D G S M H → va_S (aG G) s.heap H locs → lv_has ls 3 [(0, .ref (adr G y0)), (1, .int y1), (2, .int y2)] → k2 y0 y1.toInt y2.toInt M → W p l e RM_X12_nextPlace s m args below meth c H locs 0 0 (MQ below (QI D G S post) args s 0 0 (aG G)) (F0 m 2 ls [])) : ∀ (xl0 : Int) (zl1 : Int32) (zl2 : Int32) (M : Mm) (H : Heap) (locs : List Loc) (ls : Array Slot), Wd D G S M H → va_S (aG G) s.heap H locs → lv_has ls 3 [(0, .ref (adr G xl0)), (1, .int zl1), (2, .int zl2)] → wp_X12_nextPlace_45 S k2 post xl0 zl1.toInt zl2.toInt  M → W p l e RM_X12_nextPlace s m args below meth c H locs 0 0 (MQ below (QI D G S post) args s 0 0 (aG G)) (F0 m 45 ls []) := by
  obtain ⟨hx, hb, hr, hlocks, hml, hown, hts, hK⟩ := id C
  intro xl0 zl1 zl2 M H locs ls hP hS hl h
  unfold wp_X12_nextPlace_45 at h
  refine r_iinc hx hb (fun z2 => [(2, .int z2), (0, .ref (adr G xl0)), (1, .int zl1)]) dX12_nextPlace_45 (by decide) hl (k := 2) rfl (by decide) (fun _ => rfl) h (fun z2 ls hl h => ?_)
  refine lv_goto (tgt := 2) hx hb dX12_nextPlace_48 (by decide) ?_
  exact hk2 xl0 zl1 z2 _ _ _ _ hP hS (lv_sub hl [1, 2, 0] rfl) h
set_option maxHeartbeats 4000000 in
set_option maxRecDepth 100000 in
theorem t_X12_nextPlace_2 {p : Program} {l : Launch} {e : Env} {s : State} {m : MethodId} {args : Array Value} {below : List Frame} {meth : Method} {c : Code} {D : va_G} {G : Gt} {S : Sh} {post : Int → Mm → Prop} (C : Cx p s m args meth c D G cX12_nextPlace 3 (some .int) (cw_X12_nextPlace :: gw) RX12) : ∀ (n : Nat) (xl0 : Int) (zl1 : Int32) (zl2 : Int32) (M : Mm) (H : Heap) (locs : List Loc) (ls : Array Slot), Wd D G S M H → va_S (aG G) s.heap H locs → lv_has ls 3 [(0, .ref (adr G xl0)), (1, .int zl1), (2, .int zl2)] → wp_X12_nextPlace_2 S post n xl0 zl1.toInt zl2.toInt  M → W p l e RM_X12_nextPlace s m args below meth c H locs 0 0 (MQ below (QI D G S post) args s 0 0 (aG G)) (F0 m 2 ls []) := by
  obtain ⟨hx, hb, hr, hlocks, hml, hown, hts, hK⟩ := id C
  intro n
  induction n with
  | zero => intro xl0 zl1 zl2 M H locs ls hP hS hl h; exact h.elim
  | succ n ih =>
    intro xl0 zl1 zl2 M H locs ls hP hS hl h
    unfold wp_X12_nextPlace_2 at h
    refine lv_iload_n hx hb dX12_nextPlace_2 rfl (lv_at hl 2 rfl) ?_
    refine lv_aload_n hx hb dX12_nextPlace_3 rfl (lv_at hl 0 rfl) ?_
    refine r_getr (C := RX12) (T := TX12) (N := 38) hx hb hts (fun w h => List.mem_cons_of_mem _ (iX12 w h)) hown hK hP rfl (by decide) rfl 20 (by decide) (hts _ (List.mem_cons_of_mem _ kw_1354)) (fun _ h9 => h9) dX12_nextPlace_4 (by decide) h (fun x4 h => ?_)
    refine r_iconst hx hb dX12_nextPlace_7 (by decide) h (fun z6 h => ?_)
    refine r_iald hx hb hK hP dX12_nextPlace_8 h (fun z8 h => ?_)
    refine r_icmp_ge (tgt := 51) hx hb dX12_nextPlace_9 (by decide) h (fun h => ?_) (fun h => ?_)
    · refine r_iconst hx hb dX12_nextPlace_51 (by decide) h (fun z10 h => ?_)
      exact r_iret hx hb hr hlocks hP hS dX12_nextPlace_52 h
    · refine lv_aload_n hx hb dX12_nextPlace_12 rfl (lv_at hl 0 rfl) ?_
      refine lv_iload_n hx hb dX12_nextPlace_13 rfl (lv_at hl 1 rfl) ?_
      refine lv_iload_n hx hb dX12_nextPlace_14 rfl (lv_at hl 2 rfl) ?_
      refine q_Vi hx hb hml hown hts hK hP hS (c_X12_roadOf l D G S _ xl0 zl1 zl2 _ h.2) ⟨callB_of 2 hts (gw_good kw_1788) rfl rfl rfl (hts _ (List.mem_cons_of_mem _ kw_14)) (hts _ (List.mem_cons_of_mem _ kw_1785)) hd_X12_roadOf ⟨Nat.le_of_ble_eq_true rfl, Nat.le_of_ble_eq_true rfl⟩, (hts _ (List.mem_cons_of_mem _ kw_1787)), (hts _ (List.mem_cons_of_mem _ kp_112))⟩ h.1 (ci := 12) rfl (by decide) rfl hl.1 rfl (lv_room (Nat.le_of_ble_eq_true rfl)) dX12_nextPlace_15 ⟨Nat.zero_le _, Nat.zero_le _⟩ (fun z13 M11 H locs h hP hS => ?_)
      refine r_if_le (tgt := 45) hx hb dX12_nextPlace_18 (by decide) h (fun h => ?_) (fun h => ?_)
      · exact t_X12_nextPlace_45 C ih xl0 zl1 zl2 _ _ _ _ hP hS (lv_sub hl [0, 1, 2] rfl) h
      · refine lv_aload_n hx hb dX12_nextPlace_21 rfl (lv_at hl 0 rfl) ?_
        refine r_getr (C := RX12) (T := TX12) (N := 38) hx hb hts (fun w h => List.mem_cons_of_mem _ (iX12 w h)) hown hK hP rfl (by decide) rfl 27 (by decide) (hts _ (List.mem_cons_of_mem _ kw_1361)) (fun _ h9 => h9) dX12_nextPlace_22 (by decide) h (fun x15 h => ?_)
        refine lv_iload_n hx hb dX12_nextPlace_25 rfl (lv_at hl 2 rfl) ?_
        refine r_iald hx hb hK hP dX12_nextPlace_26 h (fun z17 h => ?_)
        refine lv_aload_n hx hb dX12_nextPlace_27 rfl (lv_at hl 0 rfl) ?_
        refine lv_iload_n hx hb dX12_nextPlace_28 rfl (lv_at hl 1 rfl) ?_
        refine lv_iload_n hx hb dX12_nextPlace_29 rfl (lv_at hl 2 rfl) ?_
        refine q_Vi hx hb hml hown hts hK hP hS (c_X12_roadOf l D G S _ xl0 zl1 zl2 _ h.2) ⟨callB_of 2 hts (gw_good kw_1788) rfl rfl rfl (hts _ (List.mem_cons_of_mem _ kw_14)) (hts _ (List.mem_cons_of_mem _ kw_1785)) hd_X12_roadOf ⟨Nat.le_of_ble_eq_true rfl, Nat.le_of_ble_eq_true rfl⟩, (hts _ (List.mem_cons_of_mem _ kw_1787)), (hts _ (List.mem_cons_of_mem _ kp_112))⟩ h.1 (ci := 12) rfl (by decide) rfl hl.1 rfl (lv_room (Nat.le_of_ble_eq_true rfl)) dX12_nextPlace_30 ⟨Nat.zero_le _, Nat.zero_le _⟩ (fun z20 M18 H locs h hP hS => ?_)
        refine r_iadd hx hb dX12_nextPlace_33 h (fun z22 h => ?_)
        refine lv_aload_n hx hb dX12_nextPlace_34 rfl (lv_at hl 0 rfl) ?_
        refine r_getr (C := RX12) (T := TX12) (N := 38) hx hb hts (fun w h => List.mem_cons_of_mem _ (iX12 w h)) hown hK hP rfl (by decide) rfl 27 (by decide) (hts _ (List.mem_cons_of_mem _ kw_1361)) (fun _ h9 => h9) dX12_nextPlace_35 (by decide) h (fun x24 h => ?_)
        refine lv_iload_n hx hb dX12_nextPlace_38 rfl (lv_at hl 1 rfl) ?_
        refine r_iald hx hb hK hP dX12_nextPlace_39 h (fun z26 h => ?_)
        refine r_icmp_ne (tgt := 45) hx hb dX12_nextPlace_40 (by decide) h (fun h => ?_) (fun h => ?_)
        · exact t_X12_nextPlace_45 C ih xl0 zl1 zl2 _ _ _ _ hP hS (lv_sub hl [0, 1, 2] rfl) h
        · refine lv_iload_n hx hb dX12_nextPlace_43 rfl (lv_at hl 2 rfl) ?_
          exact r_iret hx hb hr hlocks hP hS dX12_nextPlace_44 h
set_option maxHeartbeats 4000000 in
set_option maxRecDepth 100000 in
theorem c_X12_nextPlace (l : Launch) (D : va_G) (G : Gt) (S : Sh) (M : Mm) (xl0 : Int) (zl1 : Int32) (post : Int → Mm → Prop) (h : wp_X12_nextPlace S M xl0 zl1.toInt post) : Met l yX12_nextPlace (cw_X12_nextPlace :: gw) RM_X12_nextPlace (va_Pc [.ref (adr G xl0), .int zl1] (fun U => KN D G U ∧ Wd D G S M U.heap)) (QI D G S post) 0 0 (aG G) := by
  refine Met.ofW (cc := cX12_nextPlace) (maxL := 3) (ret := (some .int)) (by decide) rfl ?_
  intro p e s m args below meth c s₁ B hml hv
  obtain ⟨rfl, hK, hP⟩ := hv
  have hx := B.exec
  have hb := B.bytes
  have hr := B.returns
  have hts := atoms_spec (ws := cw_X12_nextPlace :: gw) B.pre
  have hown : s.vm.findClass RX12 = some m.cls := findClass_of_methodNamed B.named
  have hlocks := B.notSynchronized
  have hS : va_S (aG G) s.heap s.heap [] := va_S.rf
  have C : Cx p s m ([.ref (adr G xl0), .int zl1] : List Value).toArray meth c D G cX12_nextPlace 3 (some .int) (cw_X12_nextPlace :: gw) RX12 := ⟨hx, hb, hr, hlocks, hml, hown, hts, hK⟩
  have hl := lv_entry ([.ref (adr G xl0), .int zl1]) (n := 3) (Nat.le_of_ble_eq_true rfl)
  rw [lg_entry_eq]
  generalize (lg_sl ([.ref (adr G xl0), .int zl1]) ++ List.replicate (3 - (lg_sl ([.ref (adr G xl0), .int zl1])).length) Slot.unset).toArray = ls at hl ⊢
  have hl : lv_has ls 3 [(0, .ref (adr G xl0)), (1, .int zl1)] := hl
  unfold wp_X12_nextPlace at h
  refine r_iconst hx hb dX12_nextPlace_0 (by decide) h (fun z28 h => ?_)
  refine lv_istore_n (lv' := [(2, .int z28), (0, .ref (adr G xl0)), (1, .int zl1)]) hx hb dX12_nextPlace_1 rfl hl (by decide) rfl (fun ls hl => ?_)
  obtain ⟨n9, h⟩ := h
  exact t_X12_nextPlace_2 C n9 xl0 zl1 z28 _ _ _ _ hP hS (lv_sub hl [1, 2, 0] rfl) h
/-! TurningMilkModel.way(III)I -/
abbrev RM_X12_way : Room := { frames := 3, cells := 0, slots := 0, locals := 89 }
def cw_X12_way : Cond := Cond.code yX12_way cX12_way 4 (Option.some FieldType.int)
theorem hd_X12_way : yX12_way.cls ≠ "java/lang/invoke/MethodHandle" ∧ yX12_way.cls ≠ "java/lang/invoke/VarHandle" ∧ (parseMethodDescriptor yX12_way.desc).map (fun d => d.parameters.length) = some 3 := by decide +kernel
theorem dX12_way_0 : decode cX12_way 0 = .ok (.aload_n 0, 1) := by decide +kernel
theorem dX12_way_1 : decode cX12_way 1 = .ok (.iload_n 1, 1) := by decide +kernel
theorem dX12_way_2 : decode cX12_way 2 = .ok (.invokevirtual 371, 3) := by decide +kernel
theorem dX12_way_5 : decode cX12_way 5 = .ok (.ifCond .eq 21, 3) := by decide +kernel
theorem dX12_way_8 : decode cX12_way 8 = .ok (.aload_n 0, 1) := by decide +kernel
theorem dX12_way_9 : decode cX12_way 9 = .ok (.iload_n 2, 1) := by decide +kernel
theorem dX12_way_10 : decode cX12_way 10 = .ok (.invokevirtual 371, 3) := by decide +kernel
theorem dX12_way_13 : decode cX12_way 13 = .ok (.ifCond .eq 13, 3) := by decide +kernel
theorem dX12_way_16 : decode cX12_way 16 = .ok (.iload_n 3, 1) := by decide +kernel
theorem dX12_way_17 : decode cX12_way 17 = .ok (.i2l, 1) := by decide +kernel
theorem dX12_way_18 : decode cX12_way 18 = .ok (.lconst 0, 1) := by decide +kernel
theorem dX12_way_19 : decode cX12_way 19 = .ok (.lconst 1, 1) := by decide +kernel
theorem dX12_way_20 : decode cX12_way 20 = .ok (.invokestatic 118, 3) := by decide +kernel
theorem dX12_way_23 : decode cX12_way 23 = .ok (.ifCond .ne 6, 3) := by decide +kernel
theorem dX12_way_26 : decode cX12_way 26 = .ok (.bipush (-3), 2) := by decide +kernel
theorem dX12_way_28 : decode cX12_way 28 = .ok (.ireturn, 1) := by decide +kernel
theorem dX12_way_29 : decode cX12_way 29 = .ok (.aload_n 0, 1) := by decide +kernel
theorem dX12_way_30 : decode cX12_way 30 = .ok (.iload_n 2, 1) := by decide +kernel
theorem dX12_way_31 : decode cX12_way 31 = .ok (.invokevirtual 388, 3) := by decide +kernel
theorem dX12_way_34 : decode cX12_way 34 = .ok (.aload_n 0, 1) := by decide +kernel
theorem dX12_way_35 : decode cX12_way 35 = .ok (.getfield 52, 3) := by decide +kernel
theorem dX12_way_38 : decode cX12_way 38 = .ok (.iload_n 1, 1) := by decide +kernel
theorem dX12_way_39 : decode cX12_way 39 = .ok (.iaload, 1) := by decide +kernel
theorem dX12_way_40 : decode cX12_way 40 = .ok (.bipush 99, 2) := by decide +kernel
theorem dX12_way_42 : decode cX12_way 42 = .ok (.if_icmp .lt 6, 3) := by decide +kernel
theorem dX12_way_45 : decode cX12_way 45 = .ok (.bipush (-2), 2) := by decide +kernel
theorem dX12_way_47 : decode cX12_way 47 = .ok (.ireturn, 1) := by decide +kernel
theorem dX12_way_48 : decode cX12_way 48 = .ok (.iload_n 3, 1) := by decide +kernel
theorem dX12_way_49 : decode cX12_way 49 = .ok (.ifCond .ne 12, 3) := by decide +kernel
theorem dX12_way_52 : decode cX12_way 52 = .ok (.aload_n 0, 1) := by decide +kernel
theorem dX12_way_53 : decode cX12_way 53 = .ok (.getfield 52, 3) := by decide +kernel
theorem dX12_way_56 : decode cX12_way 56 = .ok (.iload_n 1, 1) := by decide +kernel
theorem dX12_way_57 : decode cX12_way 57 = .ok (.iaload, 1) := by decide +kernel
theorem dX12_way_58 : decode cX12_way 58 = .ok (.goto 17, 3) := by decide +kernel
theorem dX12_way_61 : decode cX12_way 61 = .ok (.iload_n 1, 1) := by decide +kernel
theorem dX12_way_62 : decode cX12_way 62 = .ok (.iload_n 2, 1) := by decide +kernel
theorem dX12_way_63 : decode cX12_way 63 = .ok (.if_icmp .ne 7, 3) := by decide +kernel
theorem dX12_way_66 : decode cX12_way 66 = .ok (.iconst (-1), 1) := by decide +kernel
theorem dX12_way_67 : decode cX12_way 67 = .ok (.goto 8, 3) := by decide +kernel
theorem dX12_way_70 : decode cX12_way 70 = .ok (.aload_n 0, 1) := by decide +kernel
theorem dX12_way_71 : decode cX12_way 71 = .ok (.iload_n 1, 1) := by decide +kernel
theorem dX12_way_72 : decode cX12_way 72 = .ok (.invokevirtual 391, 3) := by decide +kernel
theorem dX12_way_75 : decode cX12_way 75 = .ok (.ireturn, 1) := by decide +kernel
def wp_X12_way (S : Sh) (M : Mm) (u0 : Int) (u1 : Int) (u2 : Int) (u3 : Int) (post : Int → Mm → Prop) : Prop := isK S u0 12 ∧ (wp_X12_isPlace S M u0 u1 <| fun v2 M1 => wIf (v2 = 0) (wC (-3) fun v4 => post v4 M1) (isK S u0 12 ∧ (wp_X12_isPlace S M1 u0 u2 <| fun v7 M6 => wIf (v7 = 0) (wC (-3) fun v9 => post v9 M6) (wC u3 fun v11 => wC 0 fun v13 => wC 1 fun v15 => wp_X12_in S M6 v11 v13 v15 <| fun v18 M17 => wIf (¬ v18 = 0) (isK S u0 12 ∧ (wp_X12_fillsHours S M17 u0 u2 <| fun M20 => wGetR S M20 u0 12 27 fun v21 => wLd S M20 v21 14 u1 fun v23 => wC 99 fun v25 => wIf (v23 < v25) (wIf (¬ u3 = 0) (wIf (¬ u1 = u2) (isK S u0 12 ∧ (wp_X12_nextPlace S M20 u0 u1 <| fun v28 M27 => post v28 M27)) (wC (-1) fun v30 => post v30 M20)) (wGetR S M20 u0 12 27 fun v32 => wLd S M20 v32 14 u1 fun v34 => post v34 M20)) (wC (-2) fun v36 => post v36 M20))) (wC (-3) fun v38 => post v38 M17)))))
set_option maxHeartbeats 4000000 in
set_option maxRecDepth 100000 in
theorem c_X12_way (l : Launch) (D : va_G) (G : Gt) (S : Sh) (M : Mm) (xl0 : Int) (zl1 : Int32) (zl2 : Int32) (zl3 : Int32) (post : Int → Mm → Prop) (h : wp_X12_way S M xl0 zl1.toInt zl2.toInt zl3.toInt post) : Met l yX12_way (cw_X12_way :: gw) RM_X12_way (va_Pc [.ref (adr G xl0), .int zl1, .int zl2, .int zl3] (fun U => KN D G U ∧ Wd D G S M U.heap)) (QI D G S post) 0 0 (aG G) := by
  refine Met.ofW (cc := cX12_way) (maxL := 4) (ret := (some .int)) (by decide) rfl ?_
  intro p e s m args below meth c s₁ B hml hv
  obtain ⟨rfl, hK, hP⟩ := hv
  have hx := B.exec
  have hb := B.bytes
  have hr := B.returns
  have hts := atoms_spec (ws := cw_X12_way :: gw) B.pre
  have hown : s.vm.findClass RX12 = some m.cls := findClass_of_methodNamed B.named
  have hlocks := B.notSynchronized
  have hS : va_S (aG G) s.heap s.heap [] := va_S.rf
  have C : Cx p s m ([.ref (adr G xl0), .int zl1, .int zl2, .int zl3] : List Value).toArray meth c D G cX12_way 4 (some .int) (cw_X12_way :: gw) RX12 := ⟨hx, hb, hr, hlocks, hml, hown, hts, hK⟩
  have hl := lv_entry ([.ref (adr G xl0), .int zl1, .int zl2, .int zl3]) (n := 4) (Nat.le_of_ble_eq_true rfl)
  rw [lg_entry_eq]
  generalize (lg_sl ([.ref (adr G xl0), .int zl1, .int zl2, .int zl3]) ++ List.replicate (4 - (lg_sl ([.ref (adr G xl0), .int zl1, .int zl2, .int zl3])).length) Slot.unset).toArray = ls at hl ⊢
  have hl : lv_has ls 4 [(0, .ref (adr G xl0)), (1, .int zl1), (2, .int zl2), (3, .int zl3)] := hl
  unfold wp_X12_way at h
  refine lv_aload_n hx hb dX12_way_0 rfl (lv_at hl 0 rfl) ?_
  refine lv_iload_n hx hb dX12_way_1 rfl (lv_at hl 1 rfl) ?_
  refine q_Vi hx hb hml hown hts hK hP hS (c_X12_isPlace l D G S _ xl0 zl1 _ h.2) ⟨callB_of 1 hts (gw_good kw_1780) rfl rfl rfl (hts _ (List.mem_cons_of_mem _ kw_14)) (hts _ (List.mem_cons_of_mem _ kw_1777)) hd_X12_isPlace ⟨Nat.le_of_ble_eq_true rfl, Nat.le_of_ble_eq_true rfl⟩, (hts _ (List.mem_cons_of_mem _ kw_1779)), (hts _ (List.mem_cons_of_mem _ kp_110))⟩ h.1 (ci := 12) rfl (by decide) rfl hl.1 rfl (lv_room (Nat.le_of_ble_eq_true rfl)) dX12_way_2 ⟨Nat.zero_le _, Nat.zero_le _⟩ (fun z3 M1 H locs h hP hS => ?_)
  refine r_if_eq (tgt := 26) hx hb dX12_way_5 (by decide) h (fun h => ?_) (fun h => ?_)
  · refine r_bipush hx hb dX12_way_26 (by decide) h (fun z5 h => ?_)
    exact r_iret hx hb hr hlocks hP hS dX12_way_28 h
  · refine lv_aload_n hx hb dX12_way_8 rfl (lv_at hl 0 rfl) ?_
    refine lv_iload_n hx hb dX12_way_9 rfl (lv_at hl 2 rfl) ?_
    refine q_Vi hx hb hml hown hts hK hP hS (c_X12_isPlace l D G S _ xl0 zl2 _ h.2) ⟨callB_of 1 hts (gw_good kw_1780) rfl rfl rfl (hts _ (List.mem_cons_of_mem _ kw_14)) (hts _ (List.mem_cons_of_mem _ kw_1777)) hd_X12_isPlace ⟨Nat.le_of_ble_eq_true rfl, Nat.le_of_ble_eq_true rfl⟩, (hts _ (List.mem_cons_of_mem _ kw_1779)), (hts _ (List.mem_cons_of_mem _ kp_110))⟩ h.1 (ci := 12) rfl (by decide) rfl hl.1 rfl (lv_room (Nat.le_of_ble_eq_true rfl)) dX12_way_10 ⟨Nat.zero_le _, Nat.zero_le _⟩ (fun z8 M6 H locs h hP hS => ?_)
    refine r_if_eq (tgt := 26) hx hb dX12_way_13 (by decide) h (fun h => ?_) (fun h => ?_)
    · refine r_bipush hx hb dX12_way_26 (by decide) h (fun z10 h => ?_)
      exact r_iret hx hb hr hlocks hP hS dX12_way_28 h
    · refine lv_iload_n hx hb dX12_way_16 rfl (lv_at hl 3 rfl) ?_
      refine r_i2l hx hb dX12_way_17 h (fun z12 h => ?_)
      refine r_lconst hx hb dX12_way_18 (v := 0) (by decide) h (fun z14 h => ?_)
      refine r_lconst hx hb dX12_way_19 (v := 1) (by decide) h (fun z16 h => ?_)
      refine q_Si hx hb hml hown hts hK hP hS (c_X12_in l D G S _ z12 z14 z16 _ h) ⟨callB_of 3 hts (gw_good kw_1523) rfl rfl rfl (hts _ (List.mem_cons_of_mem _ kw_14)) (hts _ (List.mem_cons_of_mem _ kw_1521)) hd_X12_in ⟨Nat.le_of_ble_eq_true rfl, Nat.le_of_ble_eq_true rfl⟩, (hts _ (List.mem_cons_of_mem _ kw_1522))⟩ rfl hl.1 rfl (lv_room (Nat.le_of_ble_eq_true rfl)) dX12_way_20 ⟨Nat.zero_le _, Nat.zero_le _⟩ (fun z19 M17 H locs h hP hS => ?_)
      refine r_if_ne (tgt := 29) hx hb dX12_way_23 (by decide) h (fun h => ?_) (fun h => ?_)
      · refine lv_aload_n hx hb dX12_way_29 rfl (lv_at hl 0 rfl) ?_
        refine lv_iload_n hx hb dX12_way_30 rfl (lv_at hl 2 rfl) ?_
        refine q_Vv hx hb hml hown hts hK hP hS (c_X12_fillsHours l D G S _ xl0 zl2 _ h.2) ⟨callB_of 1 hts (gw_good kw_1817) rfl rfl rfl (hts _ (List.mem_cons_of_mem _ kw_14)) (hts _ (List.mem_cons_of_mem _ kw_1814)) hd_X12_fillsHours ⟨Nat.le_of_ble_eq_true rfl, Nat.le_of_ble_eq_true rfl⟩, (hts _ (List.mem_cons_of_mem _ kw_1816)), (hts _ (List.mem_cons_of_mem _ kp_116))⟩ h.1 (ci := 12) rfl (by decide) rfl hl.1 rfl (lv_room (Nat.le_of_ble_eq_true rfl)) dX12_way_31 ⟨Nat.zero_le _, Nat.zero_le _⟩ (fun M20 H locs h hP hS => ?_)
        refine lv_aload_n hx hb dX12_way_34 rfl (lv_at hl 0 rfl) ?_
        refine r_getr (C := RX12) (T := TX12) (N := 38) hx hb hts (fun w h => List.mem_cons_of_mem _ (iX12 w h)) hown hK hP rfl (by decide) rfl 27 (by decide) (hts _ (List.mem_cons_of_mem _ kw_1361)) (fun _ h9 => h9) dX12_way_35 (by decide) h (fun x22 h => ?_)
        refine lv_iload_n hx hb dX12_way_38 rfl (lv_at hl 1 rfl) ?_
        refine r_iald hx hb hK hP dX12_way_39 h (fun z24 h => ?_)
        refine r_bipush hx hb dX12_way_40 (by decide) h (fun z26 h => ?_)
        refine r_icmp_lt (tgt := 48) hx hb dX12_way_42 (by decide) h (fun h => ?_) (fun h => ?_)
        · refine lv_iload_n hx hb dX12_way_48 rfl (lv_at hl 3 rfl) ?_
          refine r_if_ne (tgt := 61) hx hb dX12_way_49 (by decide) h (fun h => ?_) (fun h => ?_)
          · refine lv_iload_n hx hb dX12_way_61 rfl (lv_at hl 1 rfl) ?_
            refine lv_iload_n hx hb dX12_way_62 rfl (lv_at hl 2 rfl) ?_
            refine r_icmp_ne (tgt := 70) hx hb dX12_way_63 (by decide) h (fun h => ?_) (fun h => ?_)
            · refine lv_aload_n hx hb dX12_way_70 rfl (lv_at hl 0 rfl) ?_
              refine lv_iload_n hx hb dX12_way_71 rfl (lv_at hl 1 rfl) ?_
              refine q_Vi hx hb hml hown hts hK hP hS (c_X12_nextPlace l D G S _ xl0 zl1 _ h.2) ⟨callB_of 1 hts (gw_good kw_1821) rfl rfl rfl (hts _ (List.mem_cons_of_mem _ kw_14)) (hts _ (List.mem_cons_of_mem _ kw_1818)) hd_X12_nextPlace ⟨Nat.le_of_ble_eq_true rfl, Nat.le_of_ble_eq_true rfl⟩, (hts _ (List.mem_cons_of_mem _ kw_1820)), (hts _ (List.mem_cons_of_mem _ kp_117))⟩ h.1 (ci := 12) rfl (by decide) rfl hl.1 rfl (lv_room (Nat.le_of_ble_eq_true rfl)) dX12_way_72 ⟨Nat.zero_le _, Nat.zero_le _⟩ (fun z29 M27 H locs h hP hS => ?_)
              exact r_iret hx hb hr hlocks hP hS dX12_way_75 h
            · refine r_iconst hx hb dX12_way_66 (by decide) h (fun z31 h => ?_)
              refine lv_goto (tgt := 75) hx hb dX12_way_67 (by decide) ?_
              exact r_iret hx hb hr hlocks hP hS dX12_way_75 h
          · refine lv_aload_n hx hb dX12_way_52 rfl (lv_at hl 0 rfl) ?_
            refine r_getr (C := RX12) (T := TX12) (N := 38) hx hb hts (fun w h => List.mem_cons_of_mem _ (iX12 w h)) hown hK hP rfl (by decide) rfl 27 (by decide) (hts _ (List.mem_cons_of_mem _ kw_1361)) (fun _ h9 => h9) dX12_way_53 (by decide) h (fun x33 h => ?_)
            refine lv_iload_n hx hb dX12_way_56 rfl (lv_at hl 1 rfl) ?_
            refine r_iald hx hb hK hP dX12_way_57 h (fun z35 h => ?_)
            refine lv_goto (tgt := 75) hx hb dX12_way_58 (by decide) ?_
            exact r_iret hx hb hr hlocks hP hS dX12_way_75 h
        · refine r_bipush hx hb dX12_way_45 (by decide) h (fun z37 h => ?_)
          exact r_iret hx hb hr hlocks hP hS dX12_way_47 h
      · refine r_bipush hx hb dX12_way_26 (by decide) h (fun z39 h => ?_)
        exact r_iret hx hb hr hlocks hP hS dX12_way_28 h
/-! TurningMilkModel.turnedBy(IIIIII)I -/
abbrev RM_X12_turnedBy : Room := { frames := 5, cells := 0, slots := 0, locals := 147 }
def cw_X12_turnedBy : Cond := Cond.code yX12_turnedBy cX12_turnedBy 10 (Option.some FieldType.int)
theorem hd_X12_turnedBy : yX12_turnedBy.cls ≠ "java/lang/invoke/MethodHandle" ∧ yX12_turnedBy.cls ≠ "java/lang/invoke/VarHandle" ∧ (parseMethodDescriptor yX12_turnedBy.desc).map (fun d => d.parameters.length) = some 6 := by decide +kernel
theorem dX12_turnedBy_0 : decode cX12_turnedBy 0 = .ok (.iload_n 3, 1) := by decide +kernel
theorem dX12_turnedBy_1 : decode cX12_turnedBy 1 = .ok (.istore 7, 2) := by decide +kernel
theorem dX12_turnedBy_3 : decode cX12_turnedBy 3 = .ok (.iconst 0, 1) := by decide +kernel
theorem dX12_turnedBy_4 : decode cX12_turnedBy 4 = .ok (.istore 8, 2) := by decide +kernel
theorem dX12_turnedBy_6 : decode cX12_turnedBy 6 = .ok (.iconst 0, 1) := by decide +kernel
theorem dX12_turnedBy_7 : decode cX12_turnedBy 7 = .ok (.istore 9, 2) := by decide +kernel
theorem dX12_turnedBy_9 : decode cX12_turnedBy 9 = .ok (.iload 9, 2) := by decide +kernel
theorem dX12_turnedBy_11 : decode cX12_turnedBy 11 = .ok (.iload 4, 2) := by decide +kernel
theorem dX12_turnedBy_13 : decode cX12_turnedBy 13 = .ok (.if_icmp .ge 47, 3) := by decide +kernel
theorem dX12_turnedBy_16 : decode cX12_turnedBy 16 = .ok (.iload 7, 2) := by decide +kernel
theorem dX12_turnedBy_18 : decode cX12_turnedBy 18 = .ok (.aload_n 0, 1) := by decide +kernel
theorem dX12_turnedBy_19 : decode cX12_turnedBy 19 = .ok (.iload_n 1, 1) := by decide +kernel
theorem dX12_turnedBy_20 : decode cX12_turnedBy 20 = .ok (.iload 8, 2) := by decide +kernel
theorem dX12_turnedBy_22 : decode cX12_turnedBy 22 = .ok (.iload_n 2, 1) := by decide +kernel
theorem dX12_turnedBy_23 : decode cX12_turnedBy 23 = .ok (.iload 7, 2) := by decide +kernel
theorem dX12_turnedBy_25 : decode cX12_turnedBy 25 = .ok (.iload 5, 2) := by decide +kernel
theorem dX12_turnedBy_27 : decode cX12_turnedBy 27 = .ok (.iload 9, 2) := by decide +kernel
theorem dX12_turnedBy_29 : decode cX12_turnedBy 29 = .ok (.iadd, 1) := by decide +kernel
theorem dX12_turnedBy_30 : decode cX12_turnedBy 30 = .ok (.iload 6, 2) := by decide +kernel
theorem dX12_turnedBy_32 : decode cX12_turnedBy 32 = .ok (.iconst 1, 1) := by decide +kernel
theorem dX12_turnedBy_33 : decode cX12_turnedBy 33 = .ok (.invokevirtual 337, 3) := by decide +kernel
theorem dX12_turnedBy_36 : decode cX12_turnedBy 36 = .ok (.iadd, 1) := by decide +kernel
theorem dX12_turnedBy_37 : decode cX12_turnedBy 37 = .ok (.sipush 999, 3) := by decide +kernel
theorem dX12_turnedBy_40 : decode cX12_turnedBy 40 = .ok (.invokestatic 334, 3) := by decide +kernel
theorem dX12_turnedBy_43 : decode cX12_turnedBy 43 = .ok (.istore 7, 2) := by decide +kernel
theorem dX12_turnedBy_45 : decode cX12_turnedBy 45 = .ok (.aload_n 0, 1) := by decide +kernel
theorem dX12_turnedBy_46 : decode cX12_turnedBy 46 = .ok (.iload_n 1, 1) := by decide +kernel
theorem dX12_turnedBy_47 : decode cX12_turnedBy 47 = .ok (.iload 8, 2) := by decide +kernel
theorem dX12_turnedBy_49 : decode cX12_turnedBy 49 = .ok (.invokevirtual 341, 3) := by decide +kernel
theorem dX12_turnedBy_52 : decode cX12_turnedBy 52 = .ok (.istore 8, 2) := by decide +kernel
theorem dX12_turnedBy_54 : decode cX12_turnedBy 54 = .ok (.iinc 9 1, 3) := by decide +kernel
theorem dX12_turnedBy_57 : decode cX12_turnedBy 57 = .ok (.goto (-48), 3) := by decide +kernel
theorem dX12_turnedBy_60 : decode cX12_turnedBy 60 = .ok (.iload 7, 2) := by decide +kernel
theorem dX12_turnedBy_62 : decode cX12_turnedBy 62 = .ok (.ireturn, 1) := by decide +kernel
def wp_X12_turnedBy_9 (S : Sh) (post : Int → Mm → Prop) : Nat → Int → Int → Int → Int → Int → Int → Int → Int → Int → Mm → Prop
  | 0, _, _, _, _, _, _, _, _, _, _ => False
  | n + 1, u0, u1, u2, u4, u5, u6, u7, u8, u9, M => wIf (u4 ≤ u9) (post u7 M) (wA u5 u9 fun v1 => wC 1 fun v3 => isK S u0 12 ∧ (wp_X12_turnsIn S M u0 u1 u8 u2 u7 v1 u6 v3 <| fun v6 M5 => wA u7 v6 fun v8 => wC 999 fun v10 => wp_X12_atMost S M5 v8 v10 <| fun v13 M12 => isK S u0 12 ∧ (wp_X12_moreTired S M12 u0 u1 u8 <| fun v16 M15 => wA u9 1 fun v18 => wp_X12_turnedBy_9 S post n u0 u1 u2 u4 u5 u6 v13 v16 v18 M15)))
def wp_X12_turnedBy (S : Sh) (M : Mm) (u0 : Int) (u1 : Int) (u2 : Int) (u3 : Int) (u4 : Int) (u5 : Int) (u6 : Int) (post : Int → Mm → Prop) : Prop := wC 0 fun v20 => wC 0 fun v22 => ∃ n9 : Nat, wp_X12_turnedBy_9 S post n9 u0 u1 u2 u4 u5 u6 u3 v20 v22 M
set_option maxHeartbeats 4000000 in
set_option maxRecDepth 100000 in
theorem t_X12_turnedBy_9 {p : Program} {l : Launch} {e : Env} {s : State} {m : MethodId} {args : Array Value} {below : List Frame} {meth : Method} {c : Code} {D : va_G} {G : Gt} {S : Sh} {post : Int → Mm → Prop} (C : Cx p s m args meth c D G cX12_turnedBy 10 (some .int) (cw_X12_turnedBy :: gw) RX12) : ∀ (n : Nat) (xl0 : Int) (zl1 : Int32) (zl2 : Int32) (zl4 : Int32) (zl5 : Int32) (zl6 : Int32) (zl7 : Int32) (zl8 : Int32) (zl9 : Int32) (M : Mm) (H : Heap) (locs : List Loc) (ls : Array Slot), Wd D G S M H → va_S (aG G) s.heap H locs → lv_has ls 10 [(0, .ref (adr G xl0)), (1, .int zl1), (2, .int zl2), (4, .int zl4), (5, .int zl5), (6, .int zl6), (7, .int zl7), (8, .int zl8), (9, .int zl9)] → wp_X12_turnedBy_9 S post n xl0 zl1.toInt zl2.toInt zl4.toInt zl5.toInt zl6.toInt zl7.toInt zl8.toInt zl9.toInt  M → W p l e RM_X12_turnedBy s m args below meth c H locs 0 0 (MQ below (QI D G S post) args s 0 0 (aG G)) (F0 m 9 ls []) := by
  obtain ⟨hx, hb, hr, hlocks, hml, hown, hts, hK⟩ := id C
  intro n
  induction n with
  | zero => intro xl0 zl1 zl2 zl4 zl5 zl6 zl7 zl8 zl9 M H locs ls hP hS hl h; exact h.elim
  | succ n ih =>
    intro xl0 zl1 zl2 zl4 zl5 zl6 zl7 zl8 zl9 M H locs ls hP hS hl h
    unfold wp_X12_turnedBy_9 at h
    refine lv_iload hx hb dX12_turnedBy_9 (lv_at hl 8 rfl) ?_
    refine lv_iload hx hb dX12_turnedBy_11 (lv_at hl 3 rfl) ?_
    refine r_icmp_ge (tgt := 60) hx hb dX12_turnedBy_13 (by decide) h (fun h => ?_) (fun h => ?_)
    · refine lv_iload hx hb dX12_turnedBy_60 (lv_at hl 6 rfl) ?_
      exact r_iret hx hb hr hlocks hP hS dX12_turnedBy_62 h
    · refine lv_iload hx hb dX12_turnedBy_16 (lv_at hl 6 rfl) ?_
      refine lv_aload_n hx hb dX12_turnedBy_18 rfl (lv_at hl 0 rfl) ?_
      refine lv_iload_n hx hb dX12_turnedBy_19 rfl (lv_at hl 1 rfl) ?_
      refine lv_iload hx hb dX12_turnedBy_20 (lv_at hl 7 rfl) ?_
      refine lv_iload_n hx hb dX12_turnedBy_22 rfl (lv_at hl 2 rfl) ?_
      refine lv_iload hx hb dX12_turnedBy_23 (lv_at hl 6 rfl) ?_
      refine lv_iload hx hb dX12_turnedBy_25 (lv_at hl 4 rfl) ?_
      refine lv_iload hx hb dX12_turnedBy_27 (lv_at hl 8 rfl) ?_
      refine r_iadd hx hb dX12_turnedBy_29 h (fun z2 h => ?_)
      refine lv_iload hx hb dX12_turnedBy_30 (lv_at hl 5 rfl) ?_
      refine r_iconst hx hb dX12_turnedBy_32 (by decide) h (fun z4 h => ?_)
      refine q_Vi hx hb hml hown hts hK hP hS (c_X12_turnsIn l D G S _ xl0 zl1 zl8 zl2 zl7 z2 zl6 z4 _ h.2) ⟨callB_of 7 hts (gw_good kw_1721) rfl rfl rfl (hts _ (List.mem_cons_of_mem _ kw_14)) (hts _ (List.mem_cons_of_mem _ kw_1718)) hd_X12_turnsIn ⟨Nat.le_of_ble_eq_true rfl, Nat.le_of_ble_eq_true rfl⟩, (hts _ (List.mem_cons_of_mem _ kw_1720)), (hts _ (List.mem_cons_of_mem _ kp_101))⟩ h.1 (ci := 12) rfl (by decide) rfl hl.1 rfl (lv_room (Nat.le_of_ble_eq_true rfl)) dX12_turnedBy_33 ⟨Nat.zero_le _, Nat.zero_le _⟩ (fun z7 M5 H locs h hP hS => ?_)
      refine r_iadd hx hb dX12_turnedBy_36 h (fun z9 h => ?_)
      refine r_sipush hx hb dX12_turnedBy_37 (by decide) h (fun z11 h => ?_)
      refine q_Si hx hb hml hown hts hK hP hS (c_X12_atMost l D G S _ z9 z11 _ h) ⟨callB_of 2 hts (gw_good kw_1744) rfl rfl rfl (hts _ (List.mem_cons_of_mem _ kw_14)) (hts _ (List.mem_cons_of_mem _ kw_1742)) hd_X12_atMost ⟨Nat.le_of_ble_eq_true rfl, Nat.le_of_ble_eq_true rfl⟩, (hts _ (List.mem_cons_of_mem _ kw_1743))⟩ rfl hl.1 rfl (lv_room (Nat.le_of_ble_eq_true rfl)) dX12_turnedBy_40 ⟨Nat.zero_le _, Nat.zero_le _⟩ (fun z14 M12 H locs h hP hS => ?_)
      refine lv_istore (lv' := [(7, .int z14), (0, .ref (adr G xl0)), (1, .int zl1), (2, .int zl2), (4, .int zl4), (5, .int zl5), (6, .int zl6), (8, .int zl8), (9, .int zl9)]) hx hb dX12_turnedBy_43 hl (by decide) rfl (fun ls hl => ?_)
      refine lv_aload_n hx hb dX12_turnedBy_45 rfl (lv_at hl 1 rfl) ?_
      refine lv_iload_n hx hb dX12_turnedBy_46 rfl (lv_at hl 2 rfl) ?_
      refine lv_iload hx hb dX12_turnedBy_47 (lv_at hl 7 rfl) ?_
      refine q_Vi hx hb hml hown hts hK hP hS (c_X12_moreTired l D G S _ xl0 zl1 zl8 _ h.2) ⟨callB_of 2 hts (gw_good kw_1748) rfl rfl rfl (hts _ (List.mem_cons_of_mem _ kw_14)) (hts _ (List.mem_cons_of_mem _ kw_1745)) hd_X12_moreTired ⟨Nat.le_of_ble_eq_true rfl, Nat.le_of_ble_eq_true rfl⟩, (hts _ (List.mem_cons_of_mem _ kw_1747)), (hts _ (List.mem_cons_of_mem _ kp_106))⟩ h.1 (ci := 12) rfl (by decide) rfl hl.1 rfl (lv_room (Nat.le_of_ble_eq_true rfl)) dX12_turnedBy_49 ⟨Nat.zero_le _, Nat.zero_le _⟩ (fun z17 M15 H locs h hP hS => ?_)
      refine lv_istore (lv' := [(8, .int z17), (7, .int z14), (0, .ref (adr G xl0)), (1, .int zl1), (2, .int zl2), (4, .int zl4), (5, .int zl5), (6, .int zl6), (9, .int zl9)]) hx hb dX12_turnedBy_52 hl (by decide) rfl (fun ls hl => ?_)
      refine r_iinc hx hb (fun z19 => [(9, .int z19), (8, .int z17), (7, .int z14), (0, .ref (adr G xl0)), (1, .int zl1), (2, .int zl2), (4, .int zl4), (5, .int zl5), (6, .int zl6)]) dX12_turnedBy_54 (by decide) hl (k := 8) rfl (by decide) (fun _ => rfl) h (fun z19 ls hl h => ?_)
      refine lv_goto (tgt := 9) hx hb dX12_turnedBy_57 (by decide) ?_
      exact ih xl0 zl1 zl2 zl4 zl5 zl6 z14 z17 z19 _ _ _ _ hP hS (lv_sub hl [3, 4, 5, 6, 7, 8, 2, 1, 0] rfl) h
set_option maxHeartbeats 4000000 in
set_option maxRecDepth 100000 in
theorem c_X12_turnedBy (l : Launch) (D : va_G) (G : Gt) (S : Sh) (M : Mm) (xl0 : Int) (zl1 : Int32) (zl2 : Int32) (zl3 : Int32) (zl4 : Int32) (zl5 : Int32) (zl6 : Int32) (post : Int → Mm → Prop) (h : wp_X12_turnedBy S M xl0 zl1.toInt zl2.toInt zl3.toInt zl4.toInt zl5.toInt zl6.toInt post) : Met l yX12_turnedBy (cw_X12_turnedBy :: gw) RM_X12_turnedBy (va_Pc [.ref (adr G xl0), .int zl1, .int zl2, .int zl3, .int zl4, .int zl5, .int zl6] (fun U => KN D G U ∧ Wd D G S M U.heap)) (QI D G S post) 0 0 (aG G) := by
  refine Met.ofW (cc := cX12_turnedBy) (maxL := 10) (ret := (some .int)) (by decide) rfl ?_
  intro p e s m args below meth c s₁ B hml hv
  obtain ⟨rfl, hK, hP⟩ := hv
  have hx := B.exec
  have hb := B.bytes
  have hr := B.returns
  have hts := atoms_spec (ws := cw_X12_turnedBy :: gw) B.pre
  have hown : s.vm.findClass RX12 = some m.cls := findClass_of_methodNamed B.named
  have hlocks := B.notSynchronized
  have hS : va_S (aG G) s.heap s.heap [] := va_S.rf
  have C : Cx p s m ([.ref (adr G xl0), .int zl1, .int zl2, .int zl3, .int zl4, .int zl5, .int zl6] : List Value).toArray meth c D G cX12_turnedBy 10 (some .int) (cw_X12_turnedBy :: gw) RX12 := ⟨hx, hb, hr, hlocks, hml, hown, hts, hK⟩
  have hl := lv_entry ([.ref (adr G xl0), .int zl1, .int zl2, .int zl3, .int zl4, .int zl5, .int zl6]) (n := 10) (Nat.le_of_ble_eq_true rfl)
  rw [lg_entry_eq]
  generalize (lg_sl ([.ref (adr G xl0), .int zl1, .int zl2, .int zl3, .int zl4, .int zl5, .int zl6]) ++ List.replicate (10 - (lg_sl ([.ref (adr G xl0), .int zl1, .int zl2, .int zl3, .int zl4, .int zl5, .int zl6])).length) Slot.unset).toArray = ls at hl ⊢
  have hl : lv_has ls 10 [(0, .ref (adr G xl0)), (1, .int zl1), (2, .int zl2), (3, .int zl3), (4, .int zl4), (5, .int zl5), (6, .int zl6)] := hl
  unfold wp_X12_turnedBy at h
  refine lv_iload_n hx hb dX12_turnedBy_0 rfl (lv_at hl 3 rfl) ?_
  refine lv_istore (lv' := [(7, .int zl3), (0, .ref (adr G xl0)), (1, .int zl1), (2, .int zl2), (3, .int zl3), (4, .int zl4), (5, .int zl5), (6, .int zl6)]) hx hb dX12_turnedBy_1 hl (by decide) rfl (fun ls hl => ?_)
  refine r_iconst hx hb dX12_turnedBy_3 (by decide) h (fun z21 h => ?_)
  refine lv_istore (lv' := [(8, .int z21), (7, .int zl3), (0, .ref (adr G xl0)), (1, .int zl1), (2, .int zl2), (3, .int zl3), (4, .int zl4), (5, .int zl5), (6, .int zl6)]) hx hb dX12_turnedBy_4 hl (by decide) rfl (fun ls hl => ?_)
  refine r_iconst hx hb dX12_turnedBy_6 (by decide) h (fun z23 h => ?_)
  refine lv_istore (lv' := [(9, .int z23), (8, .int z21), (7, .int zl3), (0, .ref (adr G xl0)), (1, .int zl1), (2, .int zl2), (3, .int zl3), (4, .int zl4), (5, .int zl5), (6, .int zl6)]) hx hb dX12_turnedBy_7 hl (by decide) rfl (fun ls hl => ?_)
  obtain ⟨n9, h⟩ := h
  exact t_X12_turnedBy_9 C n9 xl0 zl1 zl2 zl4 zl5 zl6 zl3 z21 z23 _ _ _ _ hP hS (lv_sub hl [3, 4, 5, 7, 8, 9, 2, 1, 0] rfl) h
/-! TurningMilkModel.brings(III)I -/
abbrev RM_X12_brings : Room := { frames := 6, cells := 0, slots := 0, locals := 176 }
def cw_X12_brings : Cond := Cond.code yX12_brings cX12_brings 5 (Option.some FieldType.int)
theorem hd_X12_brings : yX12_brings.cls ≠ "java/lang/invoke/MethodHandle" ∧ yX12_brings.cls ≠ "java/lang/invoke/VarHandle" ∧ (parseMethodDescriptor yX12_brings.desc).map (fun d => d.parameters.length) = some 3 := by decide +kernel
theorem dX12_brings_0 : decode cX12_brings 0 = .ok (.aload_n 0, 1) := by decide +kernel
theorem dX12_brings_1 : decode cX12_brings 1 = .ok (.iload_n 1, 1) := by decide +kernel
theorem dX12_brings_2 : decode cX12_brings 2 = .ok (.invokevirtual 301, 3) := by decide +kernel
theorem dX12_brings_5 : decode cX12_brings 5 = .ok (.ifCond .eq 27, 3) := by decide +kernel
theorem dX12_brings_8 : decode cX12_brings 8 = .ok (.aload_n 0, 1) := by decide +kernel
theorem dX12_brings_9 : decode cX12_brings 9 = .ok (.iload_n 2, 1) := by decide +kernel
theorem dX12_brings_10 : decode cX12_brings 10 = .ok (.invokevirtual 312, 3) := by decide +kernel
theorem dX12_brings_13 : decode cX12_brings 13 = .ok (.ifCond .eq 19, 3) := by decide +kernel
theorem dX12_brings_16 : decode cX12_brings 16 = .ok (.aload_n 0, 1) := by decide +kernel
theorem dX12_brings_17 : decode cX12_brings 17 = .ok (.iload_n 2, 1) := by decide +kernel
theorem dX12_brings_18 : decode cX12_brings 18 = .ok (.invokevirtual 292, 3) := by decide +kernel
theorem dX12_brings_21 : decode cX12_brings 21 = .ok (.ifCond .eq 11, 3) := by decide +kernel
theorem dX12_brings_24 : decode cX12_brings 24 = .ok (.aload_n 0, 1) := by decide +kernel
theorem dX12_brings_25 : decode cX12_brings 25 = .ok (.iload_n 3, 1) := by decide +kernel
theorem dX12_brings_26 : decode cX12_brings 26 = .ok (.invokevirtual 371, 3) := by decide +kernel
theorem dX12_brings_29 : decode cX12_brings 29 = .ok (.ifCond .ne 5, 3) := by decide +kernel
theorem dX12_brings_32 : decode cX12_brings 32 = .ok (.iconst (-1), 1) := by decide +kernel
theorem dX12_brings_33 : decode cX12_brings 33 = .ok (.ireturn, 1) := by decide +kernel
theorem dX12_brings_34 : decode cX12_brings 34 = .ok (.aload_n 0, 1) := by decide +kernel
theorem dX12_brings_35 : decode cX12_brings 35 = .ok (.iload_n 3, 1) := by decide +kernel
theorem dX12_brings_36 : decode cX12_brings 36 = .ok (.invokevirtual 388, 3) := by decide +kernel
theorem dX12_brings_39 : decode cX12_brings 39 = .ok (.aload_n 0, 1) := by decide +kernel
theorem dX12_brings_40 : decode cX12_brings 40 = .ok (.getfield 52, 3) := by decide +kernel
theorem dX12_brings_43 : decode cX12_brings 43 = .ok (.aload_n 0, 1) := by decide +kernel
theorem dX12_brings_44 : decode cX12_brings 44 = .ok (.iload_n 2, 1) := by decide +kernel
theorem dX12_brings_45 : decode cX12_brings 45 = .ok (.iconst 0, 1) := by decide +kernel
theorem dX12_brings_46 : decode cX12_brings 46 = .ok (.invokevirtual 284, 3) := by decide +kernel
theorem dX12_brings_49 : decode cX12_brings 49 = .ok (.iaload, 1) := by decide +kernel
theorem dX12_brings_50 : decode cX12_brings 50 = .ok (.istore 4, 2) := by decide +kernel
theorem dX12_brings_52 : decode cX12_brings 52 = .ok (.iload 4, 2) := by decide +kernel
theorem dX12_brings_54 : decode cX12_brings 54 = .ok (.bipush 99, 2) := by decide +kernel
theorem dX12_brings_56 : decode cX12_brings 56 = .ok (.if_icmp .lt 8, 3) := by decide +kernel
theorem dX12_brings_59 : decode cX12_brings 59 = .ok (.bipush (-2), 2) := by decide +kernel
theorem dX12_brings_61 : decode cX12_brings 61 = .ok (.goto 25, 3) := by decide +kernel
theorem dX12_brings_64 : decode cX12_brings 64 = .ok (.aload_n 0, 1) := by decide +kernel
theorem dX12_brings_65 : decode cX12_brings 65 = .ok (.iload_n 1, 1) := by decide +kernel
theorem dX12_brings_66 : decode cX12_brings 66 = .ok (.iload_n 2, 1) := by decide +kernel
theorem dX12_brings_67 : decode cX12_brings 67 = .ok (.aload_n 0, 1) := by decide +kernel
theorem dX12_brings_68 : decode cX12_brings 68 = .ok (.iload_n 2, 1) := by decide +kernel
theorem dX12_brings_69 : decode cX12_brings 69 = .ok (.iconst 2, 1) := by decide +kernel
theorem dX12_brings_70 : decode cX12_brings 70 = .ok (.invokevirtual 284, 3) := by decide +kernel
theorem dX12_brings_73 : decode cX12_brings 73 = .ok (.iload 4, 2) := by decide +kernel
theorem dX12_brings_75 : decode cX12_brings 75 = .ok (.aload_n 0, 1) := by decide +kernel
theorem dX12_brings_76 : decode cX12_brings 76 = .ok (.getfield 39, 3) := by decide +kernel
theorem dX12_brings_79 : decode cX12_brings 79 = .ok (.bipush 7, 2) := by decide +kernel
theorem dX12_brings_81 : decode cX12_brings 81 = .ok (.iaload, 1) := by decide +kernel
theorem dX12_brings_82 : decode cX12_brings 82 = .ok (.iconst 1, 1) := by decide +kernel
theorem dX12_brings_83 : decode cX12_brings 83 = .ok (.invokevirtual 394, 3) := by decide +kernel
theorem dX12_brings_86 : decode cX12_brings 86 = .ok (.ireturn, 1) := by decide +kernel
def wp_X12_brings (S : Sh) (M : Mm) (u0 : Int) (u1 : Int) (u2 : Int) (u3 : Int) (post : Int → Mm → Prop) : Prop := isK S u0 12 ∧ (wp_X12_isHand S M u0 u1 <| fun v2 M1 => wIf (v2 = 0) (wC (-1) fun v4 => post v4 M1) (isK S u0 12 ∧ (wp_X12_isJug S M1 u0 u2 <| fun v7 M6 => wIf (v7 = 0) (wC (-1) fun v9 => post v9 M6) (isK S u0 12 ∧ (wp_X12_stands S M6 u0 u2 <| fun v12 M11 => wIf (v12 = 0) (wC (-1) fun v14 => post v14 M11) (isK S u0 12 ∧ (wp_X12_isPlace S M11 u0 u3 <| fun v17 M16 => wIf (¬ v17 = 0) (isK S u0 12 ∧ (wp_X12_fillsHours S M16 u0 u3 <| fun M19 => wGetR S M19 u0 12 27 fun v20 => wC 0 fun v22 => isK S u0 12 ∧ (wp_X12_jugOf S M19 u0 u2 v22 <| fun v25 M24 => wLd S M24 v20 14 v25 fun v27 => wC 99 fun v29 => wIf (v27 < v29) (wC 2 fun v31 => isK S u0 12 ∧ (wp_X12_jugOf S M24 u0 u2 v31 <| fun v34 M33 => wGetR S M33 u0 12 20 fun v36 => wC 7 fun v38 => wLd S M33 v36 14 v38 fun v40 => wC 1 fun v42 => isK S u0 12 ∧ (wp_X12_turnedBy S M33 u0 u1 u2 v34 v27 v40 v42 <| fun v45 M44 => post v45 M44))) (wC (-2) fun v47 => post v47 M24)))) (wC (-1) fun v49 => post v49 M16))))))))
set_option maxHeartbeats 4000000 in
set_option maxRecDepth 100000 in
theorem c_X12_brings (l : Launch) (D : va_G) (G : Gt) (S : Sh) (M : Mm) (xl0 : Int) (zl1 : Int32) (zl2 : Int32) (zl3 : Int32) (post : Int → Mm → Prop) (h : wp_X12_brings S M xl0 zl1.toInt zl2.toInt zl3.toInt post) : Met l yX12_brings (cw_X12_brings :: gw) RM_X12_brings (va_Pc [.ref (adr G xl0), .int zl1, .int zl2, .int zl3] (fun U => KN D G U ∧ Wd D G S M U.heap)) (QI D G S post) 0 0 (aG G) := by
  refine Met.ofW (cc := cX12_brings) (maxL := 5) (ret := (some .int)) (by decide) rfl ?_
  intro p e s m args below meth c s₁ B hml hv
  obtain ⟨rfl, hK, hP⟩ := hv
  have hx := B.exec
  have hb := B.bytes
  have hr := B.returns
  have hts := atoms_spec (ws := cw_X12_brings :: gw) B.pre
  have hown : s.vm.findClass RX12 = some m.cls := findClass_of_methodNamed B.named
  have hlocks := B.notSynchronized
  have hS : va_S (aG G) s.heap s.heap [] := va_S.rf
  have C : Cx p s m ([.ref (adr G xl0), .int zl1, .int zl2, .int zl3] : List Value).toArray meth c D G cX12_brings 5 (some .int) (cw_X12_brings :: gw) RX12 := ⟨hx, hb, hr, hlocks, hml, hown, hts, hK⟩
  have hl := lv_entry ([.ref (adr G xl0), .int zl1, .int zl2, .int zl3]) (n := 5) (Nat.le_of_ble_eq_true rfl)
  rw [lg_entry_eq]
  generalize (lg_sl ([.ref (adr G xl0), .int zl1, .int zl2, .int zl3]) ++ List.replicate (5 - (lg_sl ([.ref (adr G xl0), .int zl1, .int zl2, .int zl3])).length) Slot.unset).toArray = ls at hl ⊢
  have hl : lv_has ls 5 [(0, .ref (adr G xl0)), (1, .int zl1), (2, .int zl2), (3, .int zl3)] := hl
  unfold wp_X12_brings at h
  refine lv_aload_n hx hb dX12_brings_0 rfl (lv_at hl 0 rfl) ?_
  refine lv_iload_n hx hb dX12_brings_1 rfl (lv_at hl 1 rfl) ?_
  refine q_Vi hx hb hml hown hts hK hP hS (c_X12_isHand l D G S _ xl0 zl1 _ h.2) ⟨callB_of 1 hts (gw_good kw_1645) rfl rfl rfl (hts _ (List.mem_cons_of_mem _ kw_14)) (hts _ (List.mem_cons_of_mem _ kw_1642)) hd_X12_isHand ⟨Nat.le_of_ble_eq_true rfl, Nat.le_of_ble_eq_true rfl⟩, (hts _ (List.mem_cons_of_mem _ kw_1644)), (hts _ (List.mem_cons_of_mem _ kp_87))⟩ h.1 (ci := 12) rfl (by decide) rfl hl.1 rfl (lv_room (Nat.le_of_ble_eq_true rfl)) dX12_brings_2 ⟨Nat.zero_le _, Nat.zero_le _⟩ (fun z3 M1 H locs h hP hS => ?_)
  refine r_if_eq (tgt := 32) hx hb dX12_brings_5 (by decide) h (fun h => ?_) (fun h => ?_)
  · refine r_iconst hx hb dX12_brings_32 (by decide) h (fun z5 h => ?_)
    exact r_iret hx hb hr hlocks hP hS dX12_brings_33 h
  · refine lv_aload_n hx hb dX12_brings_8 rfl (lv_at hl 0 rfl) ?_
    refine lv_iload_n hx hb dX12_brings_9 rfl (lv_at hl 2 rfl) ?_
    refine q_Vi hx hb hml hown hts hK hP hS (c_X12_isJug l D G S _ xl0 zl2 _ h.2) ⟨callB_of 1 hts (gw_good kw_1666) rfl rfl rfl (hts _ (List.mem_cons_of_mem _ kw_14)) (hts _ (List.mem_cons_of_mem _ kw_1663)) hd_X12_isJug ⟨Nat.le_of_ble_eq_true rfl, Nat.le_of_ble_eq_true rfl⟩, (hts _ (List.mem_cons_of_mem _ kw_1665)), (hts _ (List.mem_cons_of_mem _ kp_91))⟩ h.1 (ci := 12) rfl (by decide) rfl hl.1 rfl (lv_room (Nat.le_of_ble_eq_true rfl)) dX12_brings_10 ⟨Nat.zero_le _, Nat.zero_le _⟩ (fun z8 M6 H locs h hP hS => ?_)
    refine r_if_eq (tgt := 32) hx hb dX12_brings_13 (by decide) h (fun h => ?_) (fun h => ?_)
    · refine r_iconst hx hb dX12_brings_32 (by decide) h (fun z10 h => ?_)
      exact r_iret hx hb hr hlocks hP hS dX12_brings_33 h
    · refine lv_aload_n hx hb dX12_brings_16 rfl (lv_at hl 0 rfl) ?_
      refine lv_iload_n hx hb dX12_brings_17 rfl (lv_at hl 2 rfl) ?_
      refine q_Vi hx hb hml hown hts hK hP hS (c_X12_stands l D G S _ xl0 zl2 _ h.2) ⟨callB_of 1 hts (gw_good kw_1670) rfl rfl rfl (hts _ (List.mem_cons_of_mem _ kw_14)) (hts _ (List.mem_cons_of_mem _ kw_1667)) hd_X12_stands ⟨Nat.le_of_ble_eq_true rfl, Nat.le_of_ble_eq_true rfl⟩, (hts _ (List.mem_cons_of_mem _ kw_1669)), (hts _ (List.mem_cons_of_mem _ kp_92))⟩ h.1 (ci := 12) rfl (by decide) rfl hl.1 rfl (lv_room (Nat.le_of_ble_eq_true rfl)) dX12_brings_18 ⟨Nat.zero_le _, Nat.zero_le _⟩ (fun z13 M11 H locs h hP hS => ?_)
      refine r_if_eq (tgt := 32) hx hb dX12_brings_21 (by decide) h (fun h => ?_) (fun h => ?_)
      · refine r_iconst hx hb dX12_brings_32 (by decide) h (fun z15 h => ?_)
        exact r_iret hx hb hr hlocks hP hS dX12_brings_33 h
      · refine lv_aload_n hx hb dX12_brings_24 rfl (lv_at hl 0 rfl) ?_
        refine lv_iload_n hx hb dX12_brings_25 rfl (lv_at hl 3 rfl) ?_
        refine q_Vi hx hb hml hown hts hK hP hS (c_X12_isPlace l D G S _ xl0 zl3 _ h.2) ⟨callB_of 1 hts (gw_good kw_1780) rfl rfl rfl (hts _ (List.mem_cons_of_mem _ kw_14)) (hts _ (List.mem_cons_of_mem _ kw_1777)) hd_X12_isPlace ⟨Nat.le_of_ble_eq_true rfl, Nat.le_of_ble_eq_true rfl⟩, (hts _ (List.mem_cons_of_mem _ kw_1779)), (hts _ (List.mem_cons_of_mem _ kp_110))⟩ h.1 (ci := 12) rfl (by decide) rfl hl.1 rfl (lv_room (Nat.le_of_ble_eq_true rfl)) dX12_brings_26 ⟨Nat.zero_le _, Nat.zero_le _⟩ (fun z18 M16 H locs h hP hS => ?_)
        refine r_if_ne (tgt := 34) hx hb dX12_brings_29 (by decide) h (fun h => ?_) (fun h => ?_)
        · refine lv_aload_n hx hb dX12_brings_34 rfl (lv_at hl 0 rfl) ?_
          refine lv_iload_n hx hb dX12_brings_35 rfl (lv_at hl 3 rfl) ?_
          refine q_Vv hx hb hml hown hts hK hP hS (c_X12_fillsHours l D G S _ xl0 zl3 _ h.2) ⟨callB_of 1 hts (gw_good kw_1817) rfl rfl rfl (hts _ (List.mem_cons_of_mem _ kw_14)) (hts _ (List.mem_cons_of_mem _ kw_1814)) hd_X12_fillsHours ⟨Nat.le_of_ble_eq_true rfl, Nat.le_of_ble_eq_true rfl⟩, (hts _ (List.mem_cons_of_mem _ kw_1816)), (hts _ (List.mem_cons_of_mem _ kp_116))⟩ h.1 (ci := 12) rfl (by decide) rfl hl.1 rfl (lv_room (Nat.le_of_ble_eq_true rfl)) dX12_brings_36 ⟨Nat.zero_le _, Nat.zero_le _⟩ (fun M19 H locs h hP hS => ?_)
          refine lv_aload_n hx hb dX12_brings_39 rfl (lv_at hl 0 rfl) ?_
          refine r_getr (C := RX12) (T := TX12) (N := 38) hx hb hts (fun w h => List.mem_cons_of_mem _ (iX12 w h)) hown hK hP rfl (by decide) rfl 27 (by decide) (hts _ (List.mem_cons_of_mem _ kw_1361)) (fun _ h9 => h9) dX12_brings_40 (by decide) h (fun x21 h => ?_)
          refine lv_aload_n hx hb dX12_brings_43 rfl (lv_at hl 0 rfl) ?_
          refine lv_iload_n hx hb dX12_brings_44 rfl (lv_at hl 2 rfl) ?_
          refine r_iconst hx hb dX12_brings_45 (by decide) h (fun z23 h => ?_)
          refine q_Vi hx hb hml hown hts hK hP hS (c_X12_jugOf l D G S _ xl0 zl2 z23 _ h.2) ⟨callB_of 2 hts (gw_good kw_1658) rfl rfl rfl (hts _ (List.mem_cons_of_mem _ kw_14)) (hts _ (List.mem_cons_of_mem _ kw_1655)) hd_X12_jugOf ⟨Nat.le_of_ble_eq_true rfl, Nat.le_of_ble_eq_true rfl⟩, (hts _ (List.mem_cons_of_mem _ kw_1657)), (hts _ (List.mem_cons_of_mem _ kp_90))⟩ h.1 (ci := 12) rfl (by decide) rfl hl.1 rfl (lv_room (Nat.le_of_ble_eq_true rfl)) dX12_brings_46 ⟨Nat.zero_le _, Nat.zero_le _⟩ (fun z26 M24 H locs h hP hS => ?_)
          refine r_iald hx hb hK hP dX12_brings_49 h (fun z28 h => ?_)
          refine lv_istore (lv' := [(4, .int z28), (0, .ref (adr G xl0)), (1, .int zl1), (2, .int zl2), (3, .int zl3)]) hx hb dX12_brings_50 hl (by decide) rfl (fun ls hl => ?_)
          refine lv_iload hx hb dX12_brings_52 (lv_at hl 0 rfl) ?_
          refine r_bipush hx hb dX12_brings_54 (by decide) h (fun z30 h => ?_)
          refine r_icmp_lt (tgt := 64) hx hb dX12_brings_56 (by decide) h (fun h => ?_) (fun h => ?_)
          · refine lv_aload_n hx hb dX12_brings_64 rfl (lv_at hl 1 rfl) ?_
            refine lv_iload_n hx hb dX12_brings_65 rfl (lv_at hl 2 rfl) ?_
            refine lv_iload_n hx hb dX12_brings_66 rfl (lv_at hl 3 rfl) ?_
            refine lv_aload_n hx hb dX12_brings_67 rfl (lv_at hl 1 rfl) ?_
            refine lv_iload_n hx hb dX12_brings_68 rfl (lv_at hl 3 rfl) ?_
            refine r_iconst hx hb dX12_brings_69 (by decide) h (fun z32 h => ?_)
            refine q_Vi hx hb hml hown hts hK hP hS (c_X12_jugOf l D G S _ xl0 zl2 z32 _ h.2) ⟨callB_of 2 hts (gw_good kw_1658) rfl rfl rfl (hts _ (List.mem_cons_of_mem _ kw_14)) (hts _ (List.mem_cons_of_mem _ kw_1655)) hd_X12_jugOf ⟨Nat.le_of_ble_eq_true rfl, Nat.le_of_ble_eq_true rfl⟩, (hts _ (List.mem_cons_of_mem _ kw_1657)), (hts _ (List.mem_cons_of_mem _ kp_90))⟩ h.1 (ci := 12) rfl (by decide) rfl hl.1 rfl (lv_room (Nat.le_of_ble_eq_true rfl)) dX12_brings_70 ⟨Nat.zero_le _, Nat.zero_le _⟩ (fun z35 M33 H locs h hP hS => ?_)
            refine lv_iload hx hb dX12_brings_73 (lv_at hl 0 rfl) ?_
            refine lv_aload_n hx hb dX12_brings_75 rfl (lv_at hl 1 rfl) ?_
            refine r_getr (C := RX12) (T := TX12) (N := 38) hx hb hts (fun w h => List.mem_cons_of_mem _ (iX12 w h)) hown hK hP rfl (by decide) rfl 20 (by decide) (hts _ (List.mem_cons_of_mem _ kw_1354)) (fun _ h9 => h9) dX12_brings_76 (by decide) h (fun x37 h => ?_)
            refine r_bipush hx hb dX12_brings_79 (by decide) h (fun z39 h => ?_)
            refine r_iald hx hb hK hP dX12_brings_81 h (fun z41 h => ?_)
            refine r_iconst hx hb dX12_brings_82 (by decide) h (fun z43 h => ?_)
            refine q_Vi hx hb hml hown hts hK hP hS (c_X12_turnedBy l D G S _ xl0 zl1 zl2 z35 z28 z41 z43 _ h.2) ⟨callB_of 6 hts (gw_good kw_1829) rfl rfl rfl (hts _ (List.mem_cons_of_mem _ kw_14)) (hts _ (List.mem_cons_of_mem _ kw_1826)) hd_X12_turnedBy ⟨Nat.le_of_ble_eq_true rfl, Nat.le_of_ble_eq_true rfl⟩, (hts _ (List.mem_cons_of_mem _ kw_1828)), (hts _ (List.mem_cons_of_mem _ kp_118))⟩ h.1 (ci := 12) rfl (by decide) rfl hl.1 rfl (lv_room (Nat.le_of_ble_eq_true rfl)) dX12_brings_83 ⟨Nat.zero_le _, Nat.zero_le _⟩ (fun z46 M44 H locs h hP hS => ?_)
            exact r_iret hx hb hr hlocks hP hS dX12_brings_86 h
          · refine r_bipush hx hb dX12_brings_59 (by decide) h (fun z48 h => ?_)
            refine lv_goto (tgt := 86) hx hb dX12_brings_61 (by decide) ?_
            exact r_iret hx hb hr hlocks hP hS dX12_brings_86 h
        · refine r_iconst hx hb dX12_brings_32 (by decide) h (fun z50 h => ?_)
          exact r_iret hx hb hr hlocks hP hS dX12_brings_33 h
/-! TurningMilkModel.fillsRoads(II)V -/
abbrev RM_X12_fillsRoads : Room := { frames := 3, cells := 0, slots := 0, locals := 86 }
def cw_X12_fillsRoads : Cond := Cond.code yX12_fillsRoads cX12_fillsRoads 5 (Option.none : Option FieldType)
theorem hd_X12_fillsRoads : yX12_fillsRoads.cls ≠ "java/lang/invoke/MethodHandle" ∧ yX12_fillsRoads.cls ≠ "java/lang/invoke/VarHandle" ∧ (parseMethodDescriptor yX12_fillsRoads.desc).map (fun d => d.parameters.length) = some 2 := by decide +kernel
theorem dX12_fillsRoads_0 : decode cX12_fillsRoads 0 = .ok (.iload_n 1, 1) := by decide +kernel
theorem dX12_fillsRoads_1 : decode cX12_fillsRoads 1 = .ok (.istore_n 3, 1) := by decide +kernel
theorem dX12_fillsRoads_2 : decode cX12_fillsRoads 2 = .ok (.aload_n 0, 1) := by decide +kernel
theorem dX12_fillsRoads_3 : decode cX12_fillsRoads 3 = .ok (.iconst 0, 1) := by decide +kernel
theorem dX12_fillsRoads_4 : decode cX12_fillsRoads 4 = .ok (.putfield 398, 3) := by decide +kernel
theorem dX12_fillsRoads_7 : decode cX12_fillsRoads 7 = .ok (.iload_n 3, 1) := by decide +kernel
theorem dX12_fillsRoads_8 : decode cX12_fillsRoads 8 = .ok (.iload_n 2, 1) := by decide +kernel
theorem dX12_fillsRoads_9 : decode cX12_fillsRoads 9 = .ok (.if_icmp .eq 42, 3) := by decide +kernel
theorem dX12_fillsRoads_12 : decode cX12_fillsRoads 12 = .ok (.aload_n 0, 1) := by decide +kernel
theorem dX12_fillsRoads_13 : decode cX12_fillsRoads 13 = .ok (.iload_n 3, 1) := by decide +kernel
theorem dX12_fillsRoads_14 : decode cX12_fillsRoads 14 = .ok (.invokevirtual 391, 3) := by decide +kernel
theorem dX12_fillsRoads_17 : decode cX12_fillsRoads 17 = .ok (.istore 4, 2) := by decide +kernel
theorem dX12_fillsRoads_19 : decode cX12_fillsRoads 19 = .ok (.aload_n 0, 1) := by decide +kernel
theorem dX12_fillsRoads_20 : decode cX12_fillsRoads 20 = .ok (.getfield 55, 3) := by decide +kernel
theorem dX12_fillsRoads_23 : decode cX12_fillsRoads 23 = .ok (.aload_n 0, 1) := by decide +kernel
theorem dX12_fillsRoads_24 : decode cX12_fillsRoads 24 = .ok (.getfield 398, 3) := by decide +kernel
theorem dX12_fillsRoads_27 : decode cX12_fillsRoads 27 = .ok (.aload_n 0, 1) := by decide +kernel
theorem dX12_fillsRoads_28 : decode cX12_fillsRoads 28 = .ok (.iload_n 3, 1) := by decide +kernel
theorem dX12_fillsRoads_29 : decode cX12_fillsRoads 29 = .ok (.iload 4, 2) := by decide +kernel
theorem dX12_fillsRoads_31 : decode cX12_fillsRoads 31 = .ok (.invokevirtual 368, 3) := by decide +kernel
theorem dX12_fillsRoads_34 : decode cX12_fillsRoads 34 = .ok (.iastore, 1) := by decide +kernel
theorem dX12_fillsRoads_35 : decode cX12_fillsRoads 35 = .ok (.aload_n 0, 1) := by decide +kernel
theorem dX12_fillsRoads_36 : decode cX12_fillsRoads 36 = .ok (.dup, 1) := by decide +kernel
theorem dX12_fillsRoads_37 : decode cX12_fillsRoads 37 = .ok (.getfield 398, 3) := by decide +kernel
theorem dX12_fillsRoads_40 : decode cX12_fillsRoads 40 = .ok (.iconst 1, 1) := by decide +kernel
theorem dX12_fillsRoads_41 : decode cX12_fillsRoads 41 = .ok (.iadd, 1) := by decide +kernel
theorem dX12_fillsRoads_42 : decode cX12_fillsRoads 42 = .ok (.putfield 398, 3) := by decide +kernel
theorem dX12_fillsRoads_45 : decode cX12_fillsRoads 45 = .ok (.iload 4, 2) := by decide +kernel
theorem dX12_fillsRoads_47 : decode cX12_fillsRoads 47 = .ok (.istore_n 3, 1) := by decide +kernel
theorem dX12_fillsRoads_48 : decode cX12_fillsRoads 48 = .ok (.goto (-41), 3) := by decide +kernel
theorem dX12_fillsRoads_51 : decode cX12_fillsRoads 51 = .ok (.return_, 1) := by decide +kernel
def wp_X12_fillsRoads_7 (S : Sh) (post : Mm → Prop) : Nat → Int → Int → Int → Mm → Prop
  | 0, _, _, _, _ => False
  | n + 1, u0, u2, u3, M => wIf (u3 = u2) (post M) (isK S u0 12 ∧ (wp_X12_nextPlace S M u0 u3 <| fun v2 M1 => wGetR S M1 u0 12 28 fun v4 => wGet S M1 u0 12 29 fun v6 => isK S u0 12 ∧ (wp_X12_roadOf S M1 u0 u3 v2 <| fun v9 M8 => wSt S M8 v4 14 v6 v9 fun M11 => wGet S M11 u0 12 29 fun v12 => wC 1 fun v14 => wA v12 v14 fun v16 => wPut S M11 u0 12 29 v16 fun M18 => wp_X12_fillsRoads_7 S post n u0 u2 v2 M18)))
def wp_X12_fillsRoads (S : Sh) (M : Mm) (u0 : Int) (u1 : Int) (u2 : Int) (post : Mm → Prop) : Prop := wC 0 fun v19 => wPut S M u0 12 29 v19 fun M21 => ∃ n9 : Nat, wp_X12_fillsRoads_7 S post n9 u0 u2 u1 M21
set_option maxHeartbeats 4000000 in
set_option maxRecDepth 100000 in
theorem t_X12_fillsRoads_7 {p : Program} {l : Launch} {e : Env} {s : State} {m : MethodId} {args : Array Value} {below : List Frame} {meth : Method} {c : Code} {D : va_G} {G : Gt} {S : Sh} {post : Mm → Prop} (C : Cx p s m args meth c D G cX12_fillsRoads 5 none (cw_X12_fillsRoads :: gw) RX12) : ∀ (n : Nat) (xl0 : Int) (zl2 : Int32) (zl3 : Int32) (M : Mm) (H : Heap) (locs : List Loc) (ls : Array Slot), Wd D G S M H → va_S (aG G) s.heap H locs → lv_has ls 5 [(0, .ref (adr G xl0)), (2, .int zl2), (3, .int zl3)] → wp_X12_fillsRoads_7 S post n xl0 zl2.toInt zl3.toInt  M → W p l e RM_X12_fillsRoads s m args below meth c H locs 0 0 (MQ below (QV D G S post) args s 0 0 (aG G)) (F0 m 7 ls []) := by
  obtain ⟨hx, hb, hr, hlocks, hml, hown, hts, hK⟩ := id C
  intro n
  induction n with
  | zero => intro xl0 zl2 zl3 M H locs ls hP hS hl h; exact h.elim
  | succ n ih =>
    intro xl0 zl2 zl3 M H locs ls hP hS hl h
    unfold wp_X12_fillsRoads_7 at h
    refine lv_iload_n hx hb dX12_fillsRoads_7 rfl (lv_at hl 2 rfl) ?_
    refine lv_iload_n hx hb dX12_fillsRoads_8 rfl (lv_at hl 1 rfl) ?_
    refine r_icmp_eq (tgt := 51) hx hb dX12_fillsRoads_9 (by decide) h (fun h => ?_) (fun h => ?_)
    · exact r_vret hx hb hr hlocks hP hS dX12_fillsRoads_51 h
    · refine lv_aload_n hx hb dX12_fillsRoads_12 rfl (lv_at hl 0 rfl) ?_
      refine lv_iload_n hx hb dX12_fillsRoads_13 rfl (lv_at hl 2 rfl) ?_
      refine q_Vi hx hb hml hown hts hK hP hS (c_X12_nextPlace l D G S _ xl0 zl3 _ h.2) ⟨callB_of 1 hts (gw_good kw_1821) rfl rfl rfl (hts _ (List.mem_cons_of_mem _ kw_14)) (hts _ (List.mem_cons_of_mem _ kw_1818)) hd_X12_nextPlace ⟨Nat.le_of_ble_eq_true rfl, Nat.le_of_ble_eq_true rfl⟩, (hts _ (List.mem_cons_of_mem _ kw_1820)), (hts _ (List.mem_cons_of_mem _ kp_117))⟩ h.1 (ci := 12) rfl (by decide) rfl hl.1 rfl (lv_room (Nat.le_of_ble_eq_true rfl)) dX12_fillsRoads_14 ⟨Nat.zero_le _, Nat.zero_le _⟩ (fun z3 M1 H locs h hP hS => ?_)
      refine lv_istore (lv' := [(4, .int z3), (0, .ref (adr G xl0)), (2, .int zl2), (3, .int zl3)]) hx hb dX12_fillsRoads_17 hl (by decide) rfl (fun ls hl => ?_)
      refine lv_aload_n hx hb dX12_fillsRoads_19 rfl (lv_at hl 1 rfl) ?_
      refine r_getr (C := RX12) (T := TX12) (N := 38) hx hb hts (fun w h => List.mem_cons_of_mem _ (iX12 w h)) hown hK hP rfl (by decide) rfl 28 (by decide) (hts _ (List.mem_cons_of_mem _ kw_1362)) (fun _ h9 => h9) dX12_fillsRoads_20 (by decide) h (fun x5 h => ?_)
      refine lv_aload_n hx hb dX12_fillsRoads_23 rfl (lv_at hl 1 rfl) ?_
      refine r_geti (C := RX12) (T := TX12) (N := 38) hx hb hts (fun w h => List.mem_cons_of_mem _ (iX12 w h)) hown hK hP rfl (by decide) rfl 29 (by decide) (hts _ (List.mem_cons_of_mem _ kw_1363)) (fun _ h9 => h9) dX12_fillsRoads_24 (by decide) h (fun z7 h => ?_)
      refine lv_aload_n hx hb dX12_fillsRoads_27 rfl (lv_at hl 1 rfl) ?_
      refine lv_iload_n hx hb dX12_fillsRoads_28 rfl (lv_at hl 3 rfl) ?_
      refine lv_iload hx hb dX12_fillsRoads_29 (lv_at hl 0 rfl) ?_
      refine q_Vi hx hb hml hown hts hK hP hS (c_X12_roadOf l D G S _ xl0 zl3 z3 _ h.2) ⟨callB_of 2 hts (gw_good kw_1788) rfl rfl rfl (hts _ (List.mem_cons_of_mem _ kw_14)) (hts _ (List.mem_cons_of_mem _ kw_1785)) hd_X12_roadOf ⟨Nat.le_of_ble_eq_true rfl, Nat.le_of_ble_eq_true rfl⟩, (hts _ (List.mem_cons_of_mem _ kw_1787)), (hts _ (List.mem_cons_of_mem _ kp_112))⟩ h.1 (ci := 12) rfl (by decide) rfl hl.1 rfl (lv_room (Nat.le_of_ble_eq_true rfl)) dX12_fillsRoads_31 ⟨Nat.zero_le _, Nat.zero_le _⟩ (fun z10 M8 H locs h hP hS => ?_)
      refine r_iast hx hb hK hP hS dX12_fillsRoads_34 h (fun M11 H locs h hP hS => ?_)
      refine lv_aload_n hx hb dX12_fillsRoads_35 rfl (lv_at hl 1 rfl) ?_
      refine lv_dup hx hb dX12_fillsRoads_36 rfl ?_
      refine r_geti (C := RX12) (T := TX12) (N := 38) hx hb hts (fun w h => List.mem_cons_of_mem _ (iX12 w h)) hown hK hP rfl (by decide) rfl 29 (by decide) (hts _ (List.mem_cons_of_mem _ kw_1363)) (fun _ h9 => h9) dX12_fillsRoads_37 (by decide) h (fun z13 h => ?_)
      refine r_iconst hx hb dX12_fillsRoads_40 (by decide) h (fun z15 h => ?_)
      refine r_iadd hx hb dX12_fillsRoads_41 h (fun z17 h => ?_)
      refine r_puti (C := RX12) (T := TX12) (N := 38) hx hb hts (fun w h => List.mem_cons_of_mem _ (iX12 w h)) hown hK hP tyX12 tyX12_ok nmX12 hS rfl (by decide) rfl 29 (by decide) (hts _ (List.mem_cons_of_mem _ kw_1363)) (fun _ h9 => h9) rfl (tyX12_ok 29 (by decide)) rfl rfl dX12_fillsRoads_42 (by decide) h (fun M18 H locs h hP hS => ?_)
      refine lv_iload hx hb dX12_fillsRoads_45 (lv_at hl 0 rfl) ?_
      refine lv_istore_n (lv' := [(3, .int z3), (4, .int z3), (0, .ref (adr G xl0)), (2, .int zl2)]) hx hb dX12_fillsRoads_47 rfl hl (by decide) rfl (fun ls hl => ?_)
      refine lv_goto (tgt := 7) hx hb dX12_fillsRoads_48 (by decide) ?_
      exact ih xl0 zl2 z3 _ _ _ _ hP hS (lv_sub hl [2, 3, 0] rfl) h
set_option maxHeartbeats 4000000 in
set_option maxRecDepth 100000 in
theorem c_X12_fillsRoads (l : Launch) (D : va_G) (G : Gt) (S : Sh) (M : Mm) (xl0 : Int) (zl1 : Int32) (zl2 : Int32) (post : Mm → Prop) (h : wp_X12_fillsRoads S M xl0 zl1.toInt zl2.toInt post) : Met l yX12_fillsRoads (cw_X12_fillsRoads :: gw) RM_X12_fillsRoads (va_Pc [.ref (adr G xl0), .int zl1, .int zl2] (fun U => KN D G U ∧ Wd D G S M U.heap)) (QV D G S post) 0 0 (aG G) := by
  refine Met.ofW (cc := cX12_fillsRoads) (maxL := 5) (ret := none) (by decide) rfl ?_
  intro p e s m args below meth c s₁ B hml hv
  obtain ⟨rfl, hK, hP⟩ := hv
  have hx := B.exec
  have hb := B.bytes
  have hr := B.returns
  have hts := atoms_spec (ws := cw_X12_fillsRoads :: gw) B.pre
  have hown : s.vm.findClass RX12 = some m.cls := findClass_of_methodNamed B.named
  have hlocks := B.notSynchronized
  have hS : va_S (aG G) s.heap s.heap [] := va_S.rf
  have C : Cx p s m ([.ref (adr G xl0), .int zl1, .int zl2] : List Value).toArray meth c D G cX12_fillsRoads 5 none (cw_X12_fillsRoads :: gw) RX12 := ⟨hx, hb, hr, hlocks, hml, hown, hts, hK⟩
  have hl := lv_entry ([.ref (adr G xl0), .int zl1, .int zl2]) (n := 5) (Nat.le_of_ble_eq_true rfl)
  rw [lg_entry_eq]
  generalize (lg_sl ([.ref (adr G xl0), .int zl1, .int zl2]) ++ List.replicate (5 - (lg_sl ([.ref (adr G xl0), .int zl1, .int zl2])).length) Slot.unset).toArray = ls at hl ⊢
  have hl : lv_has ls 5 [(0, .ref (adr G xl0)), (1, .int zl1), (2, .int zl2)] := hl
  unfold wp_X12_fillsRoads at h
  refine lv_iload_n hx hb dX12_fillsRoads_0 rfl (lv_at hl 1 rfl) ?_
  refine lv_istore_n (lv' := [(3, .int zl1), (0, .ref (adr G xl0)), (1, .int zl1), (2, .int zl2)]) hx hb dX12_fillsRoads_1 rfl hl (by decide) rfl (fun ls hl => ?_)
  refine lv_aload_n hx hb dX12_fillsRoads_2 rfl (lv_at hl 1 rfl) ?_
  refine r_iconst hx hb dX12_fillsRoads_3 (by decide) h (fun z20 h => ?_)
  refine r_puti (C := RX12) (T := TX12) (N := 38) hx hb hts (fun w h => List.mem_cons_of_mem _ (iX12 w h)) hown hK hP tyX12 tyX12_ok nmX12 hS rfl (by decide) rfl 29 (by decide) (hts _ (List.mem_cons_of_mem _ kw_1363)) (fun _ h9 => h9) rfl (tyX12_ok 29 (by decide)) rfl rfl dX12_fillsRoads_4 (by decide) h (fun M21 H locs h hP hS => ?_)
  obtain ⟨n9, h⟩ := h
  exact t_X12_fillsRoads_7 C n9 xl0 zl2 zl1 _ _ _ _ hP hS (lv_sub hl [1, 3, 0] rfl) h
/-! TurningMilkModel.power(II)I -/
abbrev RM_X12_power : Room := { frames := 1, cells := 0, slots := 0, locals := 40 }
def cw_X12_power : Cond := Cond.code yX12_power cX12_power 4 (Option.some FieldType.int)
theorem hd_X12_power : yX12_power.cls ≠ "java/lang/invoke/MethodHandle" ∧ yX12_power.cls ≠ "java/lang/invoke/VarHandle" ∧ (parseMethodDescriptor yX12_power.desc).map (fun d => d.parameters.length) = some 2 := by decide +kernel
theorem dX12_power_0 : decode cX12_power 0 = .ok (.iconst 1, 1) := by decide +kernel
theorem dX12_power_1 : decode cX12_power 1 = .ok (.istore_n 2, 1) := by decide +kernel
theorem dX12_power_2 : decode cX12_power 2 = .ok (.iconst 0, 1) := by decide +kernel
theorem dX12_power_3 : decode cX12_power 3 = .ok (.istore_n 3, 1) := by decide +kernel
theorem dX12_power_4 : decode cX12_power 4 = .ok (.iload_n 3, 1) := by decide +kernel
theorem dX12_power_5 : decode cX12_power 5 = .ok (.iload_n 1, 1) := by decide +kernel
theorem dX12_power_6 : decode cX12_power 6 = .ok (.if_icmp .ge 13, 3) := by decide +kernel
theorem dX12_power_9 : decode cX12_power 9 = .ok (.iload_n 2, 1) := by decide +kernel
theorem dX12_power_10 : decode cX12_power 10 = .ok (.iload_n 0, 1) := by decide +kernel
theorem dX12_power_11 : decode cX12_power 11 = .ok (.imul, 1) := by decide +kernel
theorem dX12_power_12 : decode cX12_power 12 = .ok (.istore_n 2, 1) := by decide +kernel
theorem dX12_power_13 : decode cX12_power 13 = .ok (.iinc 3 1, 3) := by decide +kernel
theorem dX12_power_16 : decode cX12_power 16 = .ok (.goto (-12), 3) := by decide +kernel
theorem dX12_power_19 : decode cX12_power 19 = .ok (.iload_n 2, 1) := by decide +kernel
theorem dX12_power_20 : decode cX12_power 20 = .ok (.ireturn, 1) := by decide +kernel
def wp_X12_power_4 (S : Sh) (post : Int → Mm → Prop) : Nat → Int → Int → Int → Int → Mm → Prop
  | 0, _, _, _, _, _ => False
  | n + 1, u0, u1, u2, u3, M => wIf (u1 ≤ u3) (post u2 M) (wM u2 u0 fun v1 => wA u3 1 fun v3 => wp_X12_power_4 S post n u0 u1 v1 v3 M)
def wp_X12_power (S : Sh) (M : Mm) (u0 : Int) (u1 : Int) (post : Int → Mm → Prop) : Prop := wC 1 fun v5 => wC 0 fun v7 => ∃ n9 : Nat, wp_X12_power_4 S post n9 u0 u1 v5 v7 M
set_option maxHeartbeats 4000000 in
set_option maxRecDepth 100000 in
theorem t_X12_power_4 {p : Program} {l : Launch} {e : Env} {s : State} {m : MethodId} {args : Array Value} {below : List Frame} {meth : Method} {c : Code} {D : va_G} {G : Gt} {S : Sh} {post : Int → Mm → Prop} (C : Cx p s m args meth c D G cX12_power 4 (some .int) (cw_X12_power :: gw) RX12) : ∀ (n : Nat) (zl0 : Int32) (zl1 : Int32) (zl2 : Int32) (zl3 : Int32) (M : Mm) (H : Heap) (locs : List Loc) (ls : Array Slot), Wd D G S M H → va_S (aG G) s.heap H locs → lv_has ls 4 [(0, .int zl0), (1, .int zl1), (2, .int zl2), (3, .int zl3)] → wp_X12_power_4 S post n zl0.toInt zl1.toInt zl2.toInt zl3.toInt  M → W p l e RM_X12_power s m args below meth c H locs 0 0 (MQ below (QI D G S post) args s 0 0 (aG G)) (F0 m 4 ls []) := by
  obtain ⟨hx, hb, hr, hlocks, hml, hown, hts, hK⟩ := id C
  intro n
  induction n with
  | zero => intro zl0 zl1 zl2 zl3 M H locs ls hP hS hl h; exact h.elim
  | succ n ih =>
    intro zl0 zl1 zl2 zl3 M H locs ls hP hS hl h
    unfold wp_X12_power_4 at h
    refine lv_iload_n hx hb dX12_power_4 rfl (lv_at hl 3 rfl) ?_
    refine lv_iload_n hx hb dX12_power_5 rfl (lv_at hl 1 rfl) ?_
    refine r_icmp_ge (tgt := 19) hx hb dX12_power_6 (by decide) h (fun h => ?_) (fun h => ?_)
    · refine lv_iload_n hx hb dX12_power_19 rfl (lv_at hl 2 rfl) ?_
      exact r_iret hx hb hr hlocks hP hS dX12_power_20 h
    · refine lv_iload_n hx hb dX12_power_9 rfl (lv_at hl 2 rfl) ?_
      refine lv_iload_n hx hb dX12_power_10 rfl (lv_at hl 0 rfl) ?_
      refine r_imul hx hb dX12_power_11 h (fun z2 h => ?_)
      refine lv_istore_n (lv' := [(2, .int z2), (0, .int zl0), (1, .int zl1), (3, .int zl3)]) hx hb dX12_power_12 rfl hl (by decide) rfl (fun ls hl => ?_)
      refine r_iinc hx hb (fun z4 => [(3, .int z4), (2, .int z2), (0, .int zl0), (1, .int zl1)]) dX12_power_13 (by decide) hl (k := 3) rfl (by decide) (fun _ => rfl) h (fun z4 ls hl h => ?_)
      refine lv_goto (tgt := 4) hx hb dX12_power_16 (by decide) ?_
      exact ih zl0 zl1 z2 z4 _ _ _ _ hP hS (lv_sub hl [2, 3, 1, 0] rfl) h
set_option maxHeartbeats 4000000 in
set_option maxRecDepth 100000 in
theorem c_X12_power (l : Launch) (D : va_G) (G : Gt) (S : Sh) (M : Mm) (zl0 : Int32) (zl1 : Int32) (post : Int → Mm → Prop) (h : wp_X12_power S M zl0.toInt zl1.toInt post) : Met l yX12_power (cw_X12_power :: gw) RM_X12_power (va_Pc [.int zl0, .int zl1] (fun U => KN D G U ∧ Wd D G S M U.heap)) (QI D G S post) 0 0 (aG G) := by
  refine Met.ofW (cc := cX12_power) (maxL := 4) (ret := (some .int)) (by decide) rfl ?_
  intro p e s m args below meth c s₁ B hml hv
  obtain ⟨rfl, hK, hP⟩ := hv
  have hx := B.exec
  have hb := B.bytes
  have hr := B.returns
  have hts := atoms_spec (ws := cw_X12_power :: gw) B.pre
  have hown : s.vm.findClass RX12 = some m.cls := findClass_of_methodNamed B.named
  have hlocks := B.notSynchronized
  have hS : va_S (aG G) s.heap s.heap [] := va_S.rf
  have C : Cx p s m ([.int zl0, .int zl1] : List Value).toArray meth c D G cX12_power 4 (some .int) (cw_X12_power :: gw) RX12 := ⟨hx, hb, hr, hlocks, hml, hown, hts, hK⟩
  have hl := lv_entry ([.int zl0, .int zl1]) (n := 4) (Nat.le_of_ble_eq_true rfl)
  rw [lg_entry_eq]
  generalize (lg_sl ([.int zl0, .int zl1]) ++ List.replicate (4 - (lg_sl ([.int zl0, .int zl1])).length) Slot.unset).toArray = ls at hl ⊢
  have hl : lv_has ls 4 [(0, .int zl0), (1, .int zl1)] := hl
  unfold wp_X12_power at h
  refine r_iconst hx hb dX12_power_0 (by decide) h (fun z6 h => ?_)
  refine lv_istore_n (lv' := [(2, .int z6), (0, .int zl0), (1, .int zl1)]) hx hb dX12_power_1 rfl hl (by decide) rfl (fun ls hl => ?_)
  refine r_iconst hx hb dX12_power_2 (by decide) h (fun z8 h => ?_)
  refine lv_istore_n (lv' := [(3, .int z8), (2, .int z6), (0, .int zl0), (1, .int zl1)]) hx hb dX12_power_3 rfl hl (by decide) rfl (fun ls hl => ?_)
  obtain ⟨n9, h⟩ := h
  exact t_X12_power_4 C n9 zl0 zl1 z6 z8 _ _ _ _ hP hS (lv_sub hl [2, 3, 1, 0] rfl) h
/-! TurningMilkModel.handIn(II)I -/
abbrev RM_X12_handIn : Room := { frames := 2, cells := 0, slots := 0, locals := 63 }
def cw_X12_handIn : Cond := Cond.code yX12_handIn cX12_handIn 3 (Option.some FieldType.int)
theorem hd_X12_handIn : yX12_handIn.cls ≠ "java/lang/invoke/MethodHandle" ∧ yX12_handIn.cls ≠ "java/lang/invoke/VarHandle" ∧ (parseMethodDescriptor yX12_handIn.desc).map (fun d => d.parameters.length) = some 2 := by decide +kernel
theorem dX12_handIn_0 : decode cX12_handIn 0 = .ok (.iload_n 1, 1) := by decide +kernel
theorem dX12_handIn_1 : decode cX12_handIn 1 = .ok (.aload_n 0, 1) := by decide +kernel
theorem dX12_handIn_2 : decode cX12_handIn 2 = .ok (.getfield 39, 3) := by decide +kernel
theorem dX12_handIn_5 : decode cX12_handIn 5 = .ok (.iconst 4, 1) := by decide +kernel
theorem dX12_handIn_6 : decode cX12_handIn 6 = .ok (.iaload, 1) := by decide +kernel
theorem dX12_handIn_7 : decode cX12_handIn 7 = .ok (.aload_n 0, 1) := by decide +kernel
theorem dX12_handIn_8 : decode cX12_handIn 8 = .ok (.getfield 398, 3) := by decide +kernel
theorem dX12_handIn_11 : decode cX12_handIn 11 = .ok (.iconst 1, 1) := by decide +kernel
theorem dX12_handIn_12 : decode cX12_handIn 12 = .ok (.isub, 1) := by decide +kernel
theorem dX12_handIn_13 : decode cX12_handIn 13 = .ok (.iload_n 2, 1) := by decide +kernel
theorem dX12_handIn_14 : decode cX12_handIn 14 = .ok (.isub, 1) := by decide +kernel
theorem dX12_handIn_15 : decode cX12_handIn 15 = .ok (.invokestatic 401, 3) := by decide +kernel
theorem dX12_handIn_18 : decode cX12_handIn 18 = .ok (.idiv, 1) := by decide +kernel
theorem dX12_handIn_19 : decode cX12_handIn 19 = .ok (.aload_n 0, 1) := by decide +kernel
theorem dX12_handIn_20 : decode cX12_handIn 20 = .ok (.getfield 39, 3) := by decide +kernel
theorem dX12_handIn_23 : decode cX12_handIn 23 = .ok (.iconst 4, 1) := by decide +kernel
theorem dX12_handIn_24 : decode cX12_handIn 24 = .ok (.iaload, 1) := by decide +kernel
theorem dX12_handIn_25 : decode cX12_handIn 25 = .ok (.irem, 1) := by decide +kernel
theorem dX12_handIn_26 : decode cX12_handIn 26 = .ok (.ireturn, 1) := by decide +kernel
def wp_X12_handIn (S : Sh) (M : Mm) (u0 : Int) (u1 : Int) (u2 : Int) (post : Int → Mm → Prop) : Prop := wGetR S M u0 12 20 fun v1 => wC 4 fun v3 => wLd S M v1 14 v3 fun v5 => wGet S M u0 12 29 fun v7 => wC 1 fun v9 => wS v7 v9 fun v11 => wS v11 u2 fun v13 => wp_X12_power S M v5 v13 <| fun v16 M15 => wD iDiv u1 v16 fun v18 => wGetR S M15 u0 12 20 fun v20 => wC 4 fun v22 => wLd S M15 v20 14 v22 fun v24 => wD iRem v18 v24 fun v26 => post v26 M15
set_option maxHeartbeats 4000000 in
set_option maxRecDepth 100000 in
theorem c_X12_handIn (l : Launch) (D : va_G) (G : Gt) (S : Sh) (M : Mm) (xl0 : Int) (zl1 : Int32) (zl2 : Int32) (post : Int → Mm → Prop) (h : wp_X12_handIn S M xl0 zl1.toInt zl2.toInt post) : Met l yX12_handIn (cw_X12_handIn :: gw) RM_X12_handIn (va_Pc [.ref (adr G xl0), .int zl1, .int zl2] (fun U => KN D G U ∧ Wd D G S M U.heap)) (QI D G S post) 0 0 (aG G) := by
  refine Met.ofW (cc := cX12_handIn) (maxL := 3) (ret := (some .int)) (by decide) rfl ?_
  intro p e s m args below meth c s₁ B hml hv
  obtain ⟨rfl, hK, hP⟩ := hv
  have hx := B.exec
  have hb := B.bytes
  have hr := B.returns
  have hts := atoms_spec (ws := cw_X12_handIn :: gw) B.pre
  have hown : s.vm.findClass RX12 = some m.cls := findClass_of_methodNamed B.named
  have hlocks := B.notSynchronized
  have hS : va_S (aG G) s.heap s.heap [] := va_S.rf
  have C : Cx p s m ([.ref (adr G xl0), .int zl1, .int zl2] : List Value).toArray meth c D G cX12_handIn 3 (some .int) (cw_X12_handIn :: gw) RX12 := ⟨hx, hb, hr, hlocks, hml, hown, hts, hK⟩
  have hl := lv_entry ([.ref (adr G xl0), .int zl1, .int zl2]) (n := 3) (Nat.le_of_ble_eq_true rfl)
  rw [lg_entry_eq]
  generalize (lg_sl ([.ref (adr G xl0), .int zl1, .int zl2]) ++ List.replicate (3 - (lg_sl ([.ref (adr G xl0), .int zl1, .int zl2])).length) Slot.unset).toArray = ls at hl ⊢
  have hl : lv_has ls 3 [(0, .ref (adr G xl0)), (1, .int zl1), (2, .int zl2)] := hl
  unfold wp_X12_handIn at h
  refine lv_iload_n hx hb dX12_handIn_0 rfl (lv_at hl 1 rfl) ?_
  refine lv_aload_n hx hb dX12_handIn_1 rfl (lv_at hl 0 rfl) ?_
  refine r_getr (C := RX12) (T := TX12) (N := 38) hx hb hts (fun w h => List.mem_cons_of_mem _ (iX12 w h)) hown hK hP rfl (by decide) rfl 20 (by decide) (hts _ (List.mem_cons_of_mem _ kw_1354)) (fun _ h9 => h9) dX12_handIn_2 (by decide) h (fun x2 h => ?_)
  refine r_iconst hx hb dX12_handIn_5 (by decide) h (fun z4 h => ?_)
  refine r_iald hx hb hK hP dX12_handIn_6 h (fun z6 h => ?_)
  refine lv_aload_n hx hb dX12_handIn_7 rfl (lv_at hl 0 rfl) ?_
  refine r_geti (C := RX12) (T := TX12) (N := 38) hx hb hts (fun w h => List.mem_cons_of_mem _ (iX12 w h)) hown hK hP rfl (by decide) rfl 29 (by decide) (hts _ (List.mem_cons_of_mem _ kw_1363)) (fun _ h9 => h9) dX12_handIn_8 (by decide) h (fun z8 h => ?_)
  refine r_iconst hx hb dX12_handIn_11 (by decide) h (fun z10 h => ?_)
  refine r_isub hx hb dX12_handIn_12 h (fun z12 h => ?_)
  refine lv_iload_n hx hb dX12_handIn_13 rfl (lv_at hl 2 rfl) ?_
  refine r_isub hx hb dX12_handIn_14 h (fun z14 h => ?_)
  refine q_Si hx hb hml hown hts hK hP hS (c_X12_power l D G S _ z6 z14 _ h) ⟨callB_of 2 hts (gw_good kw_1842) rfl rfl rfl (hts _ (List.mem_cons_of_mem _ kw_14)) (hts _ (List.mem_cons_of_mem _ kw_1840)) hd_X12_power ⟨Nat.le_of_ble_eq_true rfl, Nat.le_of_ble_eq_true rfl⟩, (hts _ (List.mem_cons_of_mem _ kw_1841))⟩ rfl hl.1 rfl (lv_room (Nat.le_of_ble_eq_true rfl)) dX12_handIn_15 ⟨Nat.zero_le _, Nat.zero_le _⟩ (fun z17 M15 H locs h hP hS => ?_)
  refine r_idiv hx hb dX12_handIn_18 h (fun z19 h => ?_)
  refine lv_aload_n hx hb dX12_handIn_19 rfl (lv_at hl 0 rfl) ?_
  refine r_getr (C := RX12) (T := TX12) (N := 38) hx hb hts (fun w h => List.mem_cons_of_mem _ (iX12 w h)) hown hK hP rfl (by decide) rfl 20 (by decide) (hts _ (List.mem_cons_of_mem _ kw_1354)) (fun _ h9 => h9) dX12_handIn_20 (by decide) h (fun x21 h => ?_)
  refine r_iconst hx hb dX12_handIn_23 (by decide) h (fun z23 h => ?_)
  refine r_iald hx hb hK hP dX12_handIn_24 h (fun z25 h => ?_)
  refine r_irem hx hb dX12_handIn_25 h (fun z27 h => ?_)
  exact r_iret hx hb hr hlocks hP hS dX12_handIn_26 h
/-! TurningMilkModel.turnedByRow(II)I -/
abbrev RM_X12_turnedByRow : Room := { frames := 6, cells := 0, slots := 0, locals := 176 }
def cw_X12_turnedByRow : Cond := Cond.code yX12_turnedByRow cX12_turnedByRow 6 (Option.some FieldType.int)
theorem hd_X12_turnedByRow : yX12_turnedByRow.cls ≠ "java/lang/invoke/MethodHandle" ∧ yX12_turnedByRow.cls ≠ "java/lang/invoke/VarHandle" ∧ (parseMethodDescriptor yX12_turnedByRow.desc).map (fun d => d.parameters.length) = some 2 := by decide +kernel
theorem dX12_turnedByRow_0 : decode cX12_turnedByRow 0 = .ok (.aload_n 0, 1) := by decide +kernel
theorem dX12_turnedByRow_1 : decode cX12_turnedByRow 1 = .ok (.iload_n 1, 1) := by decide +kernel
theorem dX12_turnedByRow_2 : decode cX12_turnedByRow 2 = .ok (.iconst 2, 1) := by decide +kernel
theorem dX12_turnedByRow_3 : decode cX12_turnedByRow 3 = .ok (.invokevirtual 284, 3) := by decide +kernel
theorem dX12_turnedByRow_6 : decode cX12_turnedByRow 6 = .ok (.istore_n 3, 1) := by decide +kernel
theorem dX12_turnedByRow_7 : decode cX12_turnedByRow 7 = .ok (.aload_n 0, 1) := by decide +kernel
theorem dX12_turnedByRow_8 : decode cX12_turnedByRow 8 = .ok (.getfield 39, 3) := by decide +kernel
theorem dX12_turnedByRow_11 : decode cX12_turnedByRow 11 = .ok (.bipush 7, 2) := by decide +kernel
theorem dX12_turnedByRow_13 : decode cX12_turnedByRow 13 = .ok (.iaload, 1) := by decide +kernel
theorem dX12_turnedByRow_14 : decode cX12_turnedByRow 14 = .ok (.istore 4, 2) := by decide +kernel
theorem dX12_turnedByRow_16 : decode cX12_turnedByRow 16 = .ok (.iconst 0, 1) := by decide +kernel
theorem dX12_turnedByRow_17 : decode cX12_turnedByRow 17 = .ok (.istore 5, 2) := by decide +kernel
theorem dX12_turnedByRow_19 : decode cX12_turnedByRow 19 = .ok (.iload 5, 2) := by decide +kernel
theorem dX12_turnedByRow_21 : decode cX12_turnedByRow 21 = .ok (.aload_n 0, 1) := by decide +kernel
theorem dX12_turnedByRow_22 : decode cX12_turnedByRow 22 = .ok (.getfield 398, 3) := by decide +kernel
theorem dX12_turnedByRow_25 : decode cX12_turnedByRow 25 = .ok (.if_icmp .ge 45, 3) := by decide +kernel
theorem dX12_turnedByRow_28 : decode cX12_turnedByRow 28 = .ok (.aload_n 0, 1) := by decide +kernel
theorem dX12_turnedByRow_29 : decode cX12_turnedByRow 29 = .ok (.aload_n 0, 1) := by decide +kernel
theorem dX12_turnedByRow_30 : decode cX12_turnedByRow 30 = .ok (.iload_n 2, 1) := by decide +kernel
theorem dX12_turnedByRow_31 : decode cX12_turnedByRow 31 = .ok (.iload 5, 2) := by decide +kernel
theorem dX12_turnedByRow_33 : decode cX12_turnedByRow 33 = .ok (.invokevirtual 404, 3) := by decide +kernel
theorem dX12_turnedByRow_36 : decode cX12_turnedByRow 36 = .ok (.iload_n 1, 1) := by decide +kernel
theorem dX12_turnedByRow_37 : decode cX12_turnedByRow 37 = .ok (.iload_n 3, 1) := by decide +kernel
theorem dX12_turnedByRow_38 : decode cX12_turnedByRow 38 = .ok (.aload_n 0, 1) := by decide +kernel
theorem dX12_turnedByRow_39 : decode cX12_turnedByRow 39 = .ok (.getfield 55, 3) := by decide +kernel
theorem dX12_turnedByRow_42 : decode cX12_turnedByRow 42 = .ok (.iload 5, 2) := by decide +kernel
theorem dX12_turnedByRow_44 : decode cX12_turnedByRow 44 = .ok (.iaload, 1) := by decide +kernel
theorem dX12_turnedByRow_45 : decode cX12_turnedByRow 45 = .ok (.iload 4, 2) := by decide +kernel
theorem dX12_turnedByRow_47 : decode cX12_turnedByRow 47 = .ok (.iconst 1, 1) := by decide +kernel
theorem dX12_turnedByRow_48 : decode cX12_turnedByRow 48 = .ok (.invokevirtual 394, 3) := by decide +kernel
theorem dX12_turnedByRow_51 : decode cX12_turnedByRow 51 = .ok (.istore_n 3, 1) := by decide +kernel
theorem dX12_turnedByRow_52 : decode cX12_turnedByRow 52 = .ok (.iload 4, 2) := by decide +kernel
theorem dX12_turnedByRow_54 : decode cX12_turnedByRow 54 = .ok (.aload_n 0, 1) := by decide +kernel
theorem dX12_turnedByRow_55 : decode cX12_turnedByRow 55 = .ok (.getfield 55, 3) := by decide +kernel
theorem dX12_turnedByRow_58 : decode cX12_turnedByRow 58 = .ok (.iload 5, 2) := by decide +kernel
theorem dX12_turnedByRow_60 : decode cX12_turnedByRow 60 = .ok (.iaload, 1) := by decide +kernel
theorem dX12_turnedByRow_61 : decode cX12_turnedByRow 61 = .ok (.iadd, 1) := by decide +kernel
theorem dX12_turnedByRow_62 : decode cX12_turnedByRow 62 = .ok (.istore 4, 2) := by decide +kernel
theorem dX12_turnedByRow_64 : decode cX12_turnedByRow 64 = .ok (.iinc 5 1, 3) := by decide +kernel
theorem dX12_turnedByRow_67 : decode cX12_turnedByRow 67 = .ok (.goto (-48), 3) := by decide +kernel
theorem dX12_turnedByRow_70 : decode cX12_turnedByRow 70 = .ok (.iload_n 3, 1) := by decide +kernel
theorem dX12_turnedByRow_71 : decode cX12_turnedByRow 71 = .ok (.ireturn, 1) := by decide +kernel
def wp_X12_turnedByRow_19 (S : Sh) (post : Int → Mm → Prop) : Nat → Int → Int → Int → Int → Int → Int → Mm → Prop
  | 0, _, _, _, _, _, _, _ => False
  | n + 1, u0, u1, u2, u3, u4, u5, M => wGet S M u0 12 29 fun v1 => wIf (v1 ≤ u5) (post u3 M) (isK S u0 12 ∧ (wp_X12_handIn S M u0 u2 u5 <| fun v4 M3 => wGetR S M3 u0 12 28 fun v6 => wLd S M3 v6 14 u5 fun v8 => wC 1 fun v10 => isK S u0 12 ∧ (wp_X12_turnedBy S M3 u0 v4 u1 u3 v8 u4 v10 <| fun v13 M12 => wGetR S M12 u0 12 28 fun v15 => wLd S M12 v15 14 u5 fun v17 => wA u4 v17 fun v19 => wA u5 1 fun v21 => wp_X12_turnedByRow_19 S post n u0 u1 u2 v13 v19 v21 M12)))
def wp_X12_turnedByRow (S : Sh) (M : Mm) (u0 : Int) (u1 : Int) (u2 : Int) (post : Int → Mm → Prop) : Prop := wC 2 fun v23 => isK S u0 12 ∧ (wp_X12_jugOf S M u0 u1 v23 <| fun v26 M25 => wGetR S M25 u0 12 20 fun v28 => wC 7 fun v30 => wLd S M25 v28 14 v30 fun v32 => wC 0 fun v34 => ∃ n9 : Nat, wp_X12_turnedByRow_19 S post n9 u0 u1 u2 v26 v32 v34 M25)
set_option maxHeartbeats 4000000 in
set_option maxRecDepth 100000 in
theorem t_X12_turnedByRow_19 {p : Program} {l : Launch} {e : Env} {s : State} {m : MethodId} {args : Array Value} {below : List Frame} {meth : Method} {c : Code} {D : va_G} {G : Gt} {S : Sh} {post : Int → Mm → Prop} (C : Cx p s m args meth c D G cX12_turnedByRow 6 (some .int) (cw_X12_turnedByRow :: gw) RX12) : ∀ (n : Nat) (xl0 : Int) (zl1 : Int32) (zl2 : Int32) (zl3 : Int32) (zl4 : Int32) (zl5 : Int32) (M : Mm) (H : Heap) (locs : List Loc) (ls : Array Slot), Wd D G S M H → va_S (aG G) s.heap H locs → lv_has ls 6 [(0, .ref (adr G xl0)), (1, .int zl1), (2, .int zl2), (3, .int zl3), (4, .int zl4), (5, .int zl5)] → wp_X12_turnedByRow_19 S post n xl0 zl1.toInt zl2.toInt zl3.toInt zl4.toInt zl5.toInt  M → W p l e RM_X12_turnedByRow s m args below meth c H locs 0 0 (MQ below (QI D G S post) args s 0 0 (aG G)) (F0 m 19 ls []) := by
  obtain ⟨hx, hb, hr, hlocks, hml, hown, hts, hK⟩ := id C
  intro n
  induction n with
  | zero => intro xl0 zl1 zl2 zl3 zl4 zl5 M H locs ls hP hS hl h; exact h.elim
  | succ n ih =>
    intro xl0 zl1 zl2 zl3 zl4 zl5 M H locs ls hP hS hl h
    unfold wp_X12_turnedByRow_19 at h
    refine lv_iload hx hb dX12_turnedByRow_19 (lv_at hl 5 rfl) ?_
    refine lv_aload_n hx hb dX12_turnedByRow_21 rfl (lv_at hl 0 rfl) ?_
    refine r_geti (C := RX12) (T := TX12) (N := 38) hx hb hts (fun w h => List.mem_cons_of_mem _ (iX12 w h)) hown hK hP rfl (by decide) rfl 29 (by decide) (hts _ (List.mem_cons_of_mem _ kw_1363)) (fun _ h9 => h9) dX12_turnedByRow_22 (by decide) h (fun z2 h => ?_)
    refine r_icmp_ge (tgt := 70) hx hb dX12_turnedByRow_25 (by decide) h (fun h => ?_) (fun h => ?_)
    · refine lv_iload_n hx hb dX12_turnedByRow_70 rfl (lv_at hl 3 rfl) ?_
      exact r_iret hx hb hr hlocks hP hS dX12_turnedByRow_71 h
    · refine lv_aload_n hx hb dX12_turnedByRow_28 rfl (lv_at hl 0 rfl) ?_
      refine lv_aload_n hx hb dX12_turnedByRow_29 rfl (lv_at hl 0 rfl) ?_
      refine lv_iload_n hx hb dX12_turnedByRow_30 rfl (lv_at hl 2 rfl) ?_
      refine lv_iload hx hb dX12_turnedByRow_31 (lv_at hl 5 rfl) ?_
      refine q_Vi hx hb hml hown hts hK hP hS (c_X12_handIn l D G S _ xl0 zl2 zl5 _ h.2) ⟨callB_of 2 hts (gw_good kw_1850) rfl rfl rfl (hts _ (List.mem_cons_of_mem _ kw_14)) (hts _ (List.mem_cons_of_mem _ kw_1847)) hd_X12_handIn ⟨Nat.le_of_ble_eq_true rfl, Nat.le_of_ble_eq_true rfl⟩, (hts _ (List.mem_cons_of_mem _ kw_1849)), (hts _ (List.mem_cons_of_mem _ kp_121))⟩ h.1 (ci := 12) rfl (by decide) rfl hl.1 rfl (lv_room (Nat.le_of_ble_eq_true rfl)) dX12_turnedByRow_33 ⟨Nat.zero_le _, Nat.zero_le _⟩ (fun z5 M3 H locs h hP hS => ?_)
      refine lv_iload_n hx hb dX12_turnedByRow_36 rfl (lv_at hl 1 rfl) ?_
      refine lv_iload_n hx hb dX12_turnedByRow_37 rfl (lv_at hl 3 rfl) ?_
      refine lv_aload_n hx hb dX12_turnedByRow_38 rfl (lv_at hl 0 rfl) ?_
      refine r_getr (C := RX12) (T := TX12) (N := 38) hx hb hts (fun w h => List.mem_cons_of_mem _ (iX12 w h)) hown hK hP rfl (by decide) rfl 28 (by decide) (hts _ (List.mem_cons_of_mem _ kw_1362)) (fun _ h9 => h9) dX12_turnedByRow_39 (by decide) h (fun x7 h => ?_)
      refine lv_iload hx hb dX12_turnedByRow_42 (lv_at hl 5 rfl) ?_
      refine r_iald hx hb hK hP dX12_turnedByRow_44 h (fun z9 h => ?_)
      refine lv_iload hx hb dX12_turnedByRow_45 (lv_at hl 4 rfl) ?_
      refine r_iconst hx hb dX12_turnedByRow_47 (by decide) h (fun z11 h => ?_)
      refine q_Vi hx hb hml hown hts hK hP hS (c_X12_turnedBy l D G S _ xl0 z5 zl1 zl3 z9 zl4 z11 _ h.2) ⟨callB_of 6 hts (gw_good kw_1829) rfl rfl rfl (hts _ (List.mem_cons_of_mem _ kw_14)) (hts _ (List.mem_cons_of_mem _ kw_1826)) hd_X12_turnedBy ⟨Nat.le_of_ble_eq_true rfl, Nat.le_of_ble_eq_true rfl⟩, (hts _ (List.mem_cons_of_mem _ kw_1828)), (hts _ (List.mem_cons_of_mem _ kp_118))⟩ h.1 (ci := 12) rfl (by decide) rfl hl.1 rfl (lv_room (Nat.le_of_ble_eq_true rfl)) dX12_turnedByRow_48 ⟨Nat.zero_le _, Nat.zero_le _⟩ (fun z14 M12 H locs h hP hS => ?_)
      refine lv_istore_n (lv' := [(3, .int z14), (0, .ref (adr G xl0)), (1, .int zl1), (2, .int zl2), (4, .int zl4), (5, .int zl5)]) hx hb dX12_turnedByRow_51 rfl hl (by decide) rfl (fun ls hl => ?_)
      refine lv_iload hx hb dX12_turnedByRow_52 (lv_at hl 4 rfl) ?_
      refine lv_aload_n hx hb dX12_turnedByRow_54 rfl (lv_at hl 1 rfl) ?_
      refine r_getr (C := RX12) (T := TX12) (N := 38) hx hb hts (fun w h => List.mem_cons_of_mem _ (iX12 w h)) hown hK hP rfl (by decide) rfl 28 (by decide) (hts _ (List.mem_cons_of_mem _ kw_1362)) (fun _ h9 => h9) dX12_turnedByRow_55 (by decide) h (fun x16 h => ?_)
      refine lv_iload hx hb dX12_turnedByRow_58 (lv_at hl 5 rfl) ?_
      refine r_iald hx hb hK hP dX12_turnedByRow_60 h (fun z18 h => ?_)
      refine r_iadd hx hb dX12_turnedByRow_61 h (fun z20 h => ?_)
      refine lv_istore (lv' := [(4, .int z20), (3, .int z14), (0, .ref (adr G xl0)), (1, .int zl1), (2, .int zl2), (5, .int zl5)]) hx hb dX12_turnedByRow_62 hl (by decide) rfl (fun ls hl => ?_)
      refine r_iinc hx hb (fun z22 => [(5, .int z22), (4, .int z20), (3, .int z14), (0, .ref (adr G xl0)), (1, .int zl1), (2, .int zl2)]) dX12_turnedByRow_64 (by decide) hl (k := 5) rfl (by decide) (fun _ => rfl) h (fun z22 ls hl h => ?_)
      refine lv_goto (tgt := 19) hx hb dX12_turnedByRow_67 (by decide) ?_
      exact ih xl0 zl1 zl2 z14 z20 z22 _ _ _ _ hP hS (lv_sub hl [3, 4, 5, 2, 1, 0] rfl) h
set_option maxHeartbeats 4000000 in
set_option maxRecDepth 100000 in
theorem c_X12_turnedByRow (l : Launch) (D : va_G) (G : Gt) (S : Sh) (M : Mm) (xl0 : Int) (zl1 : Int32) (zl2 : Int32) (post : Int → Mm → Prop) (h : wp_X12_turnedByRow S M xl0 zl1.toInt zl2.toInt post) : Met l yX12_turnedByRow (cw_X12_turnedByRow :: gw) RM_X12_turnedByRow (va_Pc [.ref (adr G xl0), .int zl1, .int zl2] (fun U => KN D G U ∧ Wd D G S M U.heap)) (QI D G S post) 0 0 (aG G) := by
  refine Met.ofW (cc := cX12_turnedByRow) (maxL := 6) (ret := (some .int)) (by decide) rfl ?_
  intro p e s m args below meth c s₁ B hml hv
  obtain ⟨rfl, hK, hP⟩ := hv
  have hx := B.exec
  have hb := B.bytes
  have hr := B.returns
  have hts := atoms_spec (ws := cw_X12_turnedByRow :: gw) B.pre
  have hown : s.vm.findClass RX12 = some m.cls := findClass_of_methodNamed B.named
  have hlocks := B.notSynchronized
  have hS : va_S (aG G) s.heap s.heap [] := va_S.rf
  have C : Cx p s m ([.ref (adr G xl0), .int zl1, .int zl2] : List Value).toArray meth c D G cX12_turnedByRow 6 (some .int) (cw_X12_turnedByRow :: gw) RX12 := ⟨hx, hb, hr, hlocks, hml, hown, hts, hK⟩
  have hl := lv_entry ([.ref (adr G xl0), .int zl1, .int zl2]) (n := 6) (Nat.le_of_ble_eq_true rfl)
  rw [lg_entry_eq]
  generalize (lg_sl ([.ref (adr G xl0), .int zl1, .int zl2]) ++ List.replicate (6 - (lg_sl ([.ref (adr G xl0), .int zl1, .int zl2])).length) Slot.unset).toArray = ls at hl ⊢
  have hl : lv_has ls 6 [(0, .ref (adr G xl0)), (1, .int zl1), (2, .int zl2)] := hl
  unfold wp_X12_turnedByRow at h
  refine lv_aload_n hx hb dX12_turnedByRow_0 rfl (lv_at hl 0 rfl) ?_
  refine lv_iload_n hx hb dX12_turnedByRow_1 rfl (lv_at hl 1 rfl) ?_
  refine r_iconst hx hb dX12_turnedByRow_2 (by decide) h (fun z24 h => ?_)
  refine q_Vi hx hb hml hown hts hK hP hS (c_X12_jugOf l D G S _ xl0 zl1 z24 _ h.2) ⟨callB_of 2 hts (gw_good kw_1658) rfl rfl rfl (hts _ (List.mem_cons_of_mem _ kw_14)) (hts _ (List.mem_cons_of_mem _ kw_1655)) hd_X12_jugOf ⟨Nat.le_of_ble_eq_true rfl, Nat.le_of_ble_eq_true rfl⟩, (hts _ (List.mem_cons_of_mem _ kw_1657)), (hts _ (List.mem_cons_of_mem _ kp_90))⟩ h.1 (ci := 12) rfl (by decide) rfl hl.1 rfl (lv_room (Nat.le_of_ble_eq_true rfl)) dX12_turnedByRow_3 ⟨Nat.zero_le _, Nat.zero_le _⟩ (fun z27 M25 H locs h hP hS => ?_)
  refine lv_istore_n (lv' := [(3, .int z27), (0, .ref (adr G xl0)), (1, .int zl1), (2, .int zl2)]) hx hb dX12_turnedByRow_6 rfl hl (by decide) rfl (fun ls hl => ?_)
  refine lv_aload_n hx hb dX12_turnedByRow_7 rfl (lv_at hl 1 rfl) ?_
  refine r_getr (C := RX12) (T := TX12) (N := 38) hx hb hts (fun w h => List.mem_cons_of_mem _ (iX12 w h)) hown hK hP rfl (by decide) rfl 20 (by decide) (hts _ (List.mem_cons_of_mem _ kw_1354)) (fun _ h9 => h9) dX12_turnedByRow_8 (by decide) h (fun x29 h => ?_)
  refine r_bipush hx hb dX12_turnedByRow_11 (by decide) h (fun z31 h => ?_)
  refine r_iald hx hb hK hP dX12_turnedByRow_13 h (fun z33 h => ?_)
  refine lv_istore (lv' := [(4, .int z33), (3, .int z27), (0, .ref (adr G xl0)), (1, .int zl1), (2, .int zl2)]) hx hb dX12_turnedByRow_14 hl (by decide) rfl (fun ls hl => ?_)
  refine r_iconst hx hb dX12_turnedByRow_16 (by decide) h (fun z35 h => ?_)
  refine lv_istore (lv' := [(5, .int z35), (4, .int z33), (3, .int z27), (0, .ref (adr G xl0)), (1, .int zl1), (2, .int zl2)]) hx hb dX12_turnedByRow_17 hl (by decide) rfl (fun ls hl => ?_)
  obtain ⟨n9, h⟩ := h
  exact t_X12_turnedByRow_19 C n9 xl0 zl1 zl2 z27 z33 z35 _ _ _ _ hP hS (lv_sub hl [3, 4, 5, 2, 1, 0] rfl) h
/-! TurningMilkModel.relay(IIIII)I -/
abbrev RM_X12_relay : Room := { frames := 7, cells := 0, slots := 0, locals := 201 }
def cw_X12_relay : Cond := Cond.code yX12_relay cX12_relay 11 (Option.some FieldType.int)
theorem hd_X12_relay : yX12_relay.cls ≠ "java/lang/invoke/MethodHandle" ∧ yX12_relay.cls ≠ "java/lang/invoke/VarHandle" ∧ (parseMethodDescriptor yX12_relay.desc).map (fun d => d.parameters.length) = some 5 := by decide +kernel
theorem dX12_relay_0 : decode cX12_relay 0 = .ok (.aload_n 0, 1) := by decide +kernel
theorem dX12_relay_1 : decode cX12_relay 1 = .ok (.iload_n 1, 1) := by decide +kernel
theorem dX12_relay_2 : decode cX12_relay 2 = .ok (.invokevirtual 312, 3) := by decide +kernel
theorem dX12_relay_5 : decode cX12_relay 5 = .ok (.ifCond .eq 58, 3) := by decide +kernel
theorem dX12_relay_8 : decode cX12_relay 8 = .ok (.aload_n 0, 1) := by decide +kernel
theorem dX12_relay_9 : decode cX12_relay 9 = .ok (.iload_n 1, 1) := by decide +kernel
theorem dX12_relay_10 : decode cX12_relay 10 = .ok (.invokevirtual 292, 3) := by decide +kernel
theorem dX12_relay_13 : decode cX12_relay 13 = .ok (.ifCond .eq 50, 3) := by decide +kernel
theorem dX12_relay_16 : decode cX12_relay 16 = .ok (.aload_n 0, 1) := by decide +kernel
theorem dX12_relay_17 : decode cX12_relay 17 = .ok (.iload_n 2, 1) := by decide +kernel
theorem dX12_relay_18 : decode cX12_relay 18 = .ok (.invokevirtual 371, 3) := by decide +kernel
theorem dX12_relay_21 : decode cX12_relay 21 = .ok (.ifCond .eq 42, 3) := by decide +kernel
theorem dX12_relay_24 : decode cX12_relay 24 = .ok (.iload_n 3, 1) := by decide +kernel
theorem dX12_relay_25 : decode cX12_relay 25 = .ok (.i2l, 1) := by decide +kernel
theorem dX12_relay_26 : decode cX12_relay 26 = .ok (.lconst 0, 1) := by decide +kernel
theorem dX12_relay_27 : decode cX12_relay 27 = .ok (.ldc2_w 407, 3) := by decide +kernel
theorem dX12_relay_30 : decode cX12_relay 30 = .ok (.invokestatic 118, 3) := by decide +kernel
theorem dX12_relay_33 : decode cX12_relay 33 = .ok (.ifCond .eq 30, 3) := by decide +kernel
theorem dX12_relay_36 : decode cX12_relay 36 = .ok (.iload 4, 2) := by decide +kernel
theorem dX12_relay_38 : decode cX12_relay 38 = .ok (.i2l, 1) := by decide +kernel
theorem dX12_relay_39 : decode cX12_relay 39 = .ok (.iload_n 3, 1) := by decide +kernel
theorem dX12_relay_40 : decode cX12_relay 40 = .ok (.i2l, 1) := by decide +kernel
theorem dX12_relay_41 : decode cX12_relay 41 = .ok (.ldc2_w 407, 3) := by decide +kernel
theorem dX12_relay_44 : decode cX12_relay 44 = .ok (.invokestatic 118, 3) := by decide +kernel
theorem dX12_relay_47 : decode cX12_relay 47 = .ok (.ifCond .eq 16, 3) := by decide +kernel
theorem dX12_relay_50 : decode cX12_relay 50 = .ok (.iload 5, 2) := by decide +kernel
theorem dX12_relay_52 : decode cX12_relay 52 = .ok (.i2l, 1) := by decide +kernel
theorem dX12_relay_53 : decode cX12_relay 53 = .ok (.lconst 0, 1) := by decide +kernel
theorem dX12_relay_54 : decode cX12_relay 54 = .ok (.ldc2_w 409, 3) := by decide +kernel
theorem dX12_relay_57 : decode cX12_relay 57 = .ok (.invokestatic 118, 3) := by decide +kernel
theorem dX12_relay_60 : decode cX12_relay 60 = .ok (.ifCond .ne 6, 3) := by decide +kernel
theorem dX12_relay_63 : decode cX12_relay 63 = .ok (.bipush (-3), 2) := by decide +kernel
theorem dX12_relay_65 : decode cX12_relay 65 = .ok (.ireturn, 1) := by decide +kernel
theorem dX12_relay_66 : decode cX12_relay 66 = .ok (.aload_n 0, 1) := by decide +kernel
theorem dX12_relay_67 : decode cX12_relay 67 = .ok (.iload_n 2, 1) := by decide +kernel
theorem dX12_relay_68 : decode cX12_relay 68 = .ok (.invokevirtual 388, 3) := by decide +kernel
theorem dX12_relay_71 : decode cX12_relay 71 = .ok (.aload_n 0, 1) := by decide +kernel
theorem dX12_relay_72 : decode cX12_relay 72 = .ok (.getfield 52, 3) := by decide +kernel
theorem dX12_relay_75 : decode cX12_relay 75 = .ok (.aload_n 0, 1) := by decide +kernel
theorem dX12_relay_76 : decode cX12_relay 76 = .ok (.iload_n 1, 1) := by decide +kernel
theorem dX12_relay_77 : decode cX12_relay 77 = .ok (.iconst 0, 1) := by decide +kernel
theorem dX12_relay_78 : decode cX12_relay 78 = .ok (.invokevirtual 284, 3) := by decide +kernel
theorem dX12_relay_81 : decode cX12_relay 81 = .ok (.iaload, 1) := by decide +kernel
theorem dX12_relay_82 : decode cX12_relay 82 = .ok (.bipush 99, 2) := by decide +kernel
theorem dX12_relay_84 : decode cX12_relay 84 = .ok (.if_icmp .lt 6, 3) := by decide +kernel
theorem dX12_relay_87 : decode cX12_relay 87 = .ok (.bipush (-2), 2) := by decide +kernel
theorem dX12_relay_89 : decode cX12_relay 89 = .ok (.ireturn, 1) := by decide +kernel
theorem dX12_relay_90 : decode cX12_relay 90 = .ok (.aload_n 0, 1) := by decide +kernel
theorem dX12_relay_91 : decode cX12_relay 91 = .ok (.aload_n 0, 1) := by decide +kernel
theorem dX12_relay_92 : decode cX12_relay 92 = .ok (.iload_n 1, 1) := by decide +kernel
theorem dX12_relay_93 : decode cX12_relay 93 = .ok (.iconst 0, 1) := by decide +kernel
theorem dX12_relay_94 : decode cX12_relay 94 = .ok (.invokevirtual 284, 3) := by decide +kernel
theorem dX12_relay_97 : decode cX12_relay 97 = .ok (.iload_n 2, 1) := by decide +kernel
theorem dX12_relay_98 : decode cX12_relay 98 = .ok (.invokevirtual 411, 3) := by decide +kernel
theorem dX12_relay_101 : decode cX12_relay 101 = .ok (.aload_n 0, 1) := by decide +kernel
theorem dX12_relay_102 : decode cX12_relay 102 = .ok (.getfield 398, 3) := by decide +kernel
theorem dX12_relay_105 : decode cX12_relay 105 = .ok (.ifCond .le 15, 3) := by decide +kernel
theorem dX12_relay_108 : decode cX12_relay 108 = .ok (.aload_n 0, 1) := by decide +kernel
theorem dX12_relay_109 : decode cX12_relay 109 = .ok (.getfield 39, 3) := by decide +kernel
theorem dX12_relay_112 : decode cX12_relay 112 = .ok (.iconst 4, 1) := by decide +kernel
theorem dX12_relay_113 : decode cX12_relay 113 = .ok (.iaload, 1) := by decide +kernel
theorem dX12_relay_114 : decode cX12_relay 114 = .ok (.ifCond .ne 6, 3) := by decide +kernel
theorem dX12_relay_117 : decode cX12_relay 117 = .ok (.bipush (-2), 2) := by decide +kernel
theorem dX12_relay_119 : decode cX12_relay 119 = .ok (.ireturn, 1) := by decide +kernel
theorem dX12_relay_120 : decode cX12_relay 120 = .ok (.iconst 0, 1) := by decide +kernel
theorem dX12_relay_121 : decode cX12_relay 121 = .ok (.istore 6, 2) := by decide +kernel
theorem dX12_relay_123 : decode cX12_relay 123 = .ok (.iconst (-1), 1) := by decide +kernel
theorem dX12_relay_124 : decode cX12_relay 124 = .ok (.istore 7, 2) := by decide +kernel
theorem dX12_relay_126 : decode cX12_relay 126 = .ok (.iconst (-1), 1) := by decide +kernel
theorem dX12_relay_127 : decode cX12_relay 127 = .ok (.istore 8, 2) := by decide +kernel
theorem dX12_relay_129 : decode cX12_relay 129 = .ok (.iconst 0, 1) := by decide +kernel
theorem dX12_relay_130 : decode cX12_relay 130 = .ok (.istore 9, 2) := by decide +kernel
theorem dX12_relay_132 : decode cX12_relay 132 = .ok (.iload 9, 2) := by decide +kernel
theorem dX12_relay_134 : decode cX12_relay 134 = .ok (.aload_n 0, 1) := by decide +kernel
theorem dX12_relay_135 : decode cX12_relay 135 = .ok (.getfield 39, 3) := by decide +kernel
theorem dX12_relay_138 : decode cX12_relay 138 = .ok (.iconst 4, 1) := by decide +kernel
theorem dX12_relay_139 : decode cX12_relay 139 = .ok (.iaload, 1) := by decide +kernel
theorem dX12_relay_140 : decode cX12_relay 140 = .ok (.aload_n 0, 1) := by decide +kernel
theorem dX12_relay_141 : decode cX12_relay 141 = .ok (.getfield 398, 3) := by decide +kernel
theorem dX12_relay_144 : decode cX12_relay 144 = .ok (.invokestatic 401, 3) := by decide +kernel
theorem dX12_relay_147 : decode cX12_relay 147 = .ok (.if_icmp .ge 68, 3) := by decide +kernel
theorem dX12_relay_150 : decode cX12_relay 150 = .ok (.aload_n 0, 1) := by decide +kernel
theorem dX12_relay_151 : decode cX12_relay 151 = .ok (.iload_n 1, 1) := by decide +kernel
theorem dX12_relay_152 : decode cX12_relay 152 = .ok (.iload 9, 2) := by decide +kernel
theorem dX12_relay_154 : decode cX12_relay 154 = .ok (.invokevirtual 414, 3) := by decide +kernel
theorem dX12_relay_157 : decode cX12_relay 157 = .ok (.istore 10, 2) := by decide +kernel
theorem dX12_relay_159 : decode cX12_relay 159 = .ok (.iload 8, 2) := by decide +kernel
theorem dX12_relay_161 : decode cX12_relay 161 = .ok (.ifCond .lt 10, 3) := by decide +kernel
theorem dX12_relay_164 : decode cX12_relay 164 = .ok (.iload 10, 2) := by decide +kernel
theorem dX12_relay_166 : decode cX12_relay 166 = .ok (.iload 8, 2) := by decide +kernel
theorem dX12_relay_168 : decode cX12_relay 168 = .ok (.if_icmp .ge 8, 3) := by decide +kernel
theorem dX12_relay_171 : decode cX12_relay 171 = .ok (.iload 10, 2) := by decide +kernel
theorem dX12_relay_173 : decode cX12_relay 173 = .ok (.goto 5, 3) := by decide +kernel
theorem dX12_relay_176 : decode cX12_relay 176 = .ok (.iload 8, 2) := by decide +kernel
theorem dX12_relay_178 : decode cX12_relay 178 = .ok (.istore 8, 2) := by decide +kernel
theorem dX12_relay_180 : decode cX12_relay 180 = .ok (.iload 10, 2) := by decide +kernel
theorem dX12_relay_182 : decode cX12_relay 182 = .ok (.i2l, 1) := by decide +kernel
theorem dX12_relay_183 : decode cX12_relay 183 = .ok (.iload_n 3, 1) := by decide +kernel
theorem dX12_relay_184 : decode cX12_relay 184 = .ok (.i2l, 1) := by decide +kernel
theorem dX12_relay_185 : decode cX12_relay 185 = .ok (.iload 4, 2) := by decide +kernel
theorem dX12_relay_187 : decode cX12_relay 187 = .ok (.i2l, 1) := by decide +kernel
theorem dX12_relay_188 : decode cX12_relay 188 = .ok (.invokestatic 118, 3) := by decide +kernel
theorem dX12_relay_191 : decode cX12_relay 191 = .ok (.ifCond .ne 6, 3) := by decide +kernel
theorem dX12_relay_194 : decode cX12_relay 194 = .ok (.goto 15, 3) := by decide +kernel
theorem dX12_relay_197 : decode cX12_relay 197 = .ok (.iload 6, 2) := by decide +kernel
theorem dX12_relay_199 : decode cX12_relay 199 = .ok (.ifCond .ne 7, 3) := by decide +kernel
theorem dX12_relay_202 : decode cX12_relay 202 = .ok (.iload 9, 2) := by decide +kernel
theorem dX12_relay_204 : decode cX12_relay 204 = .ok (.istore 7, 2) := by decide +kernel
theorem dX12_relay_206 : decode cX12_relay 206 = .ok (.iinc 6 1, 3) := by decide +kernel
theorem dX12_relay_209 : decode cX12_relay 209 = .ok (.iinc 9 1, 3) := by decide +kernel
theorem dX12_relay_212 : decode cX12_relay 212 = .ok (.goto (-80), 3) := by decide +kernel
theorem dX12_relay_215 : decode cX12_relay 215 = .ok (.iload 5, 2) := by decide +kernel
theorem dX12_relay_217 : decode cX12_relay 217 = .ok (.iconst 2, 1) := by decide +kernel
theorem dX12_relay_218 : decode cX12_relay 218 = .ok (.if_icmp .ge 16, 3) := by decide +kernel
theorem dX12_relay_221 : decode cX12_relay 221 = .ok (.iload 5, 2) := by decide +kernel
theorem dX12_relay_223 : decode cX12_relay 223 = .ok (.ifCond .ne 8, 3) := by decide +kernel
theorem dX12_relay_226 : decode cX12_relay 226 = .ok (.iload 6, 2) := by decide +kernel
theorem dX12_relay_228 : decode cX12_relay 228 = .ok (.goto 5, 3) := by decide +kernel
theorem dX12_relay_231 : decode cX12_relay 231 = .ok (.iload 8, 2) := by decide +kernel
theorem dX12_relay_233 : decode cX12_relay 233 = .ok (.ireturn, 1) := by decide +kernel
theorem dX12_relay_234 : decode cX12_relay 234 = .ok (.iload 7, 2) := by decide +kernel
theorem dX12_relay_236 : decode cX12_relay 236 = .ok (.ifCond .lt 14, 3) := by decide +kernel
theorem dX12_relay_239 : decode cX12_relay 239 = .ok (.iload 5, 2) := by decide +kernel
theorem dX12_relay_241 : decode cX12_relay 241 = .ok (.iconst 2, 1) := by decide +kernel
theorem dX12_relay_242 : decode cX12_relay 242 = .ok (.isub, 1) := by decide +kernel
theorem dX12_relay_243 : decode cX12_relay 243 = .ok (.aload_n 0, 1) := by decide +kernel
theorem dX12_relay_244 : decode cX12_relay 244 = .ok (.getfield 398, 3) := by decide +kernel
theorem dX12_relay_247 : decode cX12_relay 247 = .ok (.if_icmp .lt 8, 3) := by decide +kernel
theorem dX12_relay_250 : decode cX12_relay 250 = .ok (.bipush (-2), 2) := by decide +kernel
theorem dX12_relay_252 : decode cX12_relay 252 = .ok (.goto 13, 3) := by decide +kernel
theorem dX12_relay_255 : decode cX12_relay 255 = .ok (.aload_n 0, 1) := by decide +kernel
theorem dX12_relay_256 : decode cX12_relay 256 = .ok (.iload 7, 2) := by decide +kernel
theorem dX12_relay_258 : decode cX12_relay 258 = .ok (.iload 5, 2) := by decide +kernel
theorem dX12_relay_260 : decode cX12_relay 260 = .ok (.iconst 2, 1) := by decide +kernel
theorem dX12_relay_261 : decode cX12_relay 261 = .ok (.isub, 1) := by decide +kernel
theorem dX12_relay_262 : decode cX12_relay 262 = .ok (.invokevirtual 404, 3) := by decide +kernel
theorem dX12_relay_265 : decode cX12_relay 265 = .ok (.ireturn, 1) := by decide +kernel
def wp_X12_relay_250 (S : Sh) (post : Int → Mm → Prop) (M : Mm) : Prop := wC (-2) fun v1 => post v1 M
def wp_X12_relay_209 (S : Sh) (k132 : Int → Int → Int → Int → Int → Int → Int → Int → Int → Mm → Prop) (post : Int → Mm → Prop) (u0 : Int) (u1 : Int) (u3 : Int) (u4 : Int) (u5 : Int) (u6 : Int) (u7 : Int) (u8 : Int) (u9 : Int) (M : Mm) : Prop := wA u9 1 fun v3 => k132 u0 u1 u3 u4 u5 u6 u7 u8 v3 M
def wp_X12_relay_206 (S : Sh) (k132 : Int → Int → Int → Int → Int → Int → Int → Int → Int → Mm → Prop) (post : Int → Mm → Prop) (u0 : Int) (u1 : Int) (u3 : Int) (u4 : Int) (u5 : Int) (u6 : Int) (u7 : Int) (u8 : Int) (u9 : Int) (M : Mm) : Prop := wA u6 1 fun v5 => wp_X12_relay_209 S k132 post u0 u1 u3 u4 u5 v5 u7 u8 u9 M
def wp_X12_relay_178 (S : Sh) (k132 : Int → Int → Int → Int → Int → Int → Int → Int → Int → Mm → Prop) (post : Int → Mm → Prop) (u0 : Int) (u1 : Int) (u3 : Int) (u4 : Int) (u5 : Int) (u6 : Int) (u7 : Int) (u9 : Int) (u10 : Int) (t0 : Int) (M : Mm) : Prop := wC u10 fun v7 => wC u3 fun v9 => wC u4 fun v11 => wp_X12_in S M v7 v9 v11 <| fun v14 M13 => wIf (¬ v14 = 0) (wIf (¬ u6 = 0) (wp_X12_relay_206 S k132 post u0 u1 u3 u4 u5 u6 u7 t0 u9 M13) (wp_X12_relay_206 S k132 post u0 u1 u3 u4 u5 u6 u9 t0 u9 M13)) (wp_X12_relay_209 S k132 post u0 u1 u3 u4 u5 u6 u7 t0 u9 M13)
def wp_X12_relay_171 (S : Sh) (k132 : Int → Int → Int → Int → Int → Int → Int → Int → Int → Mm → Prop) (post : Int → Mm → Prop) (u0 : Int) (u1 : Int) (u3 : Int) (u4 : Int) (u5 : Int) (u6 : Int) (u7 : Int) (u9 : Int) (u10 : Int) (M : Mm) : Prop := wp_X12_relay_178 S k132 post u0 u1 u3 u4 u5 u6 u7 u9 u10 u10 M
def wp_X12_relay_132 (S : Sh) (post : Int → Mm → Prop) : Nat → Int → Int → Int → Int → Int → Int → Int → Int → Int → Mm → Prop
  | 0, _, _, _, _, _, _, _, _, _, _ => False
  | n + 1, u0, u1, u3, u4, u5, u6, u7, u8, u9, M => wGetR S M u0 12 20 fun v16 => wC 4 fun v18 => wLd S M v16 14 v18 fun v20 => wGet S M u0 12 29 fun v22 => wp_X12_power S M v20 v22 <| fun v25 M24 => wIf (v25 ≤ u9) (wC 2 fun v27 => wIf (v27 ≤ u5) (wIf (u7 < 0) (wp_X12_relay_250 S post M24) (wC 2 fun v29 => wS u5 v29 fun v31 => wGet S M24 u0 12 29 fun v33 => wIf (v31 < v33) (wC 2 fun v35 => wS u5 v35 fun v37 => isK S u0 12 ∧ (wp_X12_handIn S M24 u0 u7 v37 <| fun v40 M39 => post v40 M39)) (wp_X12_relay_250 S post M24))) (wIf (¬ u5 = 0) (post u8 M24) (post u6 M24))) (isK S u0 12 ∧ (wp_X12_turnedByRow S M24 u0 u1 u9 <| fun v43 M42 => wIf (u8 < 0) (wp_X12_relay_171 S (fun a0 a1 a2 a3 a4 a5 a6 a7 a8 M => wp_X12_relay_132 S post n a0 a1 a2 a3 a4 a5 a6 a7 a8 M) post u0 u1 u3 u4 u5 u6 u7 u9 v43 M42) (wIf (u8 ≤ v43) (wp_X12_relay_178 S (fun a0 a1 a2 a3 a4 a5 a6 a7 a8 M => wp_X12_relay_132 S post n a0 a1 a2 a3 a4 a5 a6 a7 a8 M) post u0 u1 u3 u4 u5 u6 u7 u9 v43 u8 M42) (wp_X12_relay_171 S (fun a0 a1 a2 a3 a4 a5 a6 a7 a8 M => wp_X12_relay_132 S post n a0 a1 a2 a3 a4 a5 a6 a7 a8 M) post u0 u1 u3 u4 u5 u6 u7 u9 v43 M42))))
def wp_X12_relay_120 (S : Sh) (post : Int → Mm → Prop) (u0 : Int) (u1 : Int) (u3 : Int) (u4 : Int) (u5 : Int) (M : Mm) : Prop := wC 0 fun v45 => wC (-1) fun v47 => wC (-1) fun v49 => wC 0 fun v51 => ∃ n9 : Nat, wp_X12_relay_132 S post n9 u0 u1 u3 u4 u5 v45 v47 v49 v51 M
def wp_X12_relay (S : Sh) (M : Mm) (u0 : Int) (u1 : Int) (u2 : Int) (u3 : Int) (u4 : Int) (u5 : Int) (post : Int → Mm → Prop) : Prop := isK S u0 12 ∧ (wp_X12_isJug S M u0 u1 <| fun v54 M53 => wIf (v54 = 0) (wC (-3) fun v56 => post v56 M53) (isK S u0 12 ∧ (wp_X12_stands S M53 u0 u1 <| fun v59 M58 => wIf (v59 = 0) (wC (-3) fun v61 => post v61 M58) (isK S u0 12 ∧ (wp_X12_isPlace S M58 u0 u2 <| fun v64 M63 => wIf (v64 = 0) (wC (-3) fun v66 => post v66 M63) (wC u3 fun v68 => wC 0 fun v70 => wC 999 fun v72 => wp_X12_in S M63 v68 v70 v72 <| fun v75 M74 => wIf (v75 = 0) (wC (-3) fun v77 => post v77 M74) (wC u4 fun v79 => wC u3 fun v81 => wC 999 fun v83 => wp_X12_in S M74 v79 v81 v83 <| fun v86 M85 => wIf (v86 = 0) (wC (-3) fun v88 => post v88 M85) (wC u5 fun v90 => wC 0 fun v92 => wC 6 fun v94 => wp_X12_in S M85 v90 v92 v94 <| fun v97 M96 => wIf (¬ v97 = 0) (isK S u0 12 ∧ (wp_X12_fillsHours S M96 u0 u2 <| fun M99 => wGetR S M99 u0 12 27 fun v100 => wC 0 fun v102 => isK S u0 12 ∧ (wp_X12_jugOf S M99 u0 u1 v102 <| fun v105 M104 => wLd S M104 v100 14 v105 fun v107 => wC 99 fun v109 => wIf (v107 < v109) (wC 0 fun v111 => isK S u0 12 ∧ (wp_X12_jugOf S M104 u0 u1 v111 <| fun v114 M113 => isK S u0 12 ∧ (wp_X12_fillsRoads S M113 u0 v114 u2 <| fun M116 => wGet S M116 u0 12 29 fun v117 => wIf (v117 ≤ 0) (wp_X12_relay_120 S post u0 u1 u3 u4 u5 M116) (wGetR S M116 u0 12 20 fun v119 => wC 4 fun v121 => wLd S M116 v119 14 v121 fun v123 => wIf (¬ v123 = 0) (wp_X12_relay_120 S post u0 u1 u3 u4 u5 M116) (wC (-2) fun v125 => post v125 M116))))) (wC (-2) fun v127 => post v127 M104)))) (wC (-3) fun v129 => post v129 M96)))))))))
set_option maxHeartbeats 4000000 in
set_option maxRecDepth 100000 in
theorem t_X12_relay_250 {p : Program} {l : Launch} {e : Env} {s : State} {m : MethodId} {args : Array Value} {below : List Frame} {meth : Method} {c : Code} {D : va_G} {G : Gt} {S : Sh} {post : Int → Mm → Prop} (C : Cx p s m args meth c D G cX12_relay 11 (some .int) (cw_X12_relay :: gw) RX12) : ∀ (M : Mm) (H : Heap) (locs : List Loc) (ls : Array Slot), Wd D G S M H → va_S (aG G) s.heap H locs → lv_has ls 11 [] → wp_X12_relay_250 S post  M → W p l e RM_X12_relay s m args below meth c H locs 0 0 (MQ below (QI D G S post) args s 0 0 (aG G)) (F0 m 250 ls []) := by
  obtain ⟨hx, hb, hr, hlocks, hml, hown, hts, hK⟩ := id C
  intro  M H locs ls hP hS hl h
  unfold wp_X12_relay_250 at h
  refine r_bipush hx hb dX12_relay_250 (by decide) h (fun z2 h => ?_)
  refine lv_goto (tgt := 265) hx hb dX12_relay_252 (by decide) ?_
  exact r_iret hx hb hr hlocks hP hS dX12_relay_265 h
set_option maxHeartbeats 4000000 in
set_option maxRecDepth 100000 in
theorem t_X12_relay_209 {p : Program} {l : Launch} {e : Env} {s : State} {m : MethodId} {args : Array Value} {below : List Frame} {meth : Method} {c : Code} {D : va_G} {G : Gt} {S : Sh} {post : Int → Mm → Prop} {k132 : Int → Int → Int → Int → Int → Int → Int → Int → Int → Mm → Prop} (C : Cx p s m args meth c D G cX12_relay 11 (some .int) (cw_X12_relay :: gw) RX12) (hk132 : ∀ (y0 : Int) (y1 : Int32) (y3 : Int32) (y4 : Int32) (y5 : Int32) (y6 : Int32) (y7 : Int32) (y8 : Int32) (y9 : Int32) (M : Mm) (H : Heap) (locs : List Loc) (ls : Array Slot), Wd D G S M H → va_S (aG G) s.heap H locs → lv_has ls 11 [(0, .ref (adr G y0)), (1, .int y1), (3, .int y3), (4, .int y4), (5, .int y5), (6, .int y6), (7, .int y7), (8, .int y8), (9, .int y9)] → k132 y0 y1.toInt y3.toInt y4.toInt y5.toInt y6.toInt y7.toInt y8.toInt y9.toInt M → W p l e RM_X12_relay s m args below meth c H locs 0 0 (MQ below (QI D G S post) args s 0 0 (aG G)) (F0 m 132 ls [])) : ∀ (xl0 : Int) (zl1 : Int32) (zl3 : Int32) (zl4 : Int32) (zl5 : Int32) (zl6 : Int32) (zl7 : Int32) (zl8 : Int32) (zl9 : Int32) (M : Mm) (H : Heap) (locs : List Loc) (ls : Array Slot), Wd D G S M H → va_S (aG G) s.heap H locs → lv_has ls 11 [(0, .ref (adr G xl0)), (1, .int zl1), (3, .int zl3), (4, .int zl4), (5, .int zl5), (6, .int zl6), (7, .int zl7), (8, .int zl8), (9, .int zl9)] → wp_X12_relay_209 S k132 post xl0 zl1.toInt zl3.toInt zl4.toInt zl5.toInt zl6.toInt zl7.toInt zl8.toInt zl9.toInt  M → W p l e RM_X12_relay s m args below meth c H locs 0 0 (MQ below (QI D G S post) args s 0 0 (aG G)) (F0 m 209 ls []) := by
  obtain ⟨hx, hb, hr, hlocks, hml, hown, hts, hK⟩ := id C
  intro xl0 zl1 zl3 zl4 zl5 zl6 zl7 zl8 zl9 M H locs ls hP hS hl h
  unfold wp_X12_relay_209 at h
  refine r_iinc hx hb (fun z4 => [(9, .int z4), (0, .ref (adr G xl0)), (1, .int zl1), (3, .int zl3), (4, .int zl4), (5, .int zl5), (6, .int zl6), (7, .int zl7), (8, .int zl8)]) dX12_relay_209 (by decide) hl (k := 8) rfl (by decide) (fun _ => rfl) h (fun z4 ls hl h => ?_)
  refine lv_goto (tgt := 132) hx hb dX12_relay_212 (by decide) ?_
  exact hk132 xl0 zl1 zl3 zl4 zl5 zl6 zl7 zl8 z4 _ _ _ _ hP hS (lv_sub hl [1, 2, 3, 4, 5, 6, 7, 8, 0] rfl) h
set_option maxHeartbeats 4000000 in
set_option maxRecDepth 100000 in
theorem t_X12_relay_206 {p : Program} {l : Launch} {e : Env} {s : State} {m : MethodId} {args : Array Value} {below : List Frame} {meth : Method} {c : Code} {D : va_G} {G : Gt} {S : Sh} {post : Int → Mm → Prop} {k132 : Int → Int → Int → Int → Int → Int → Int → Int → Int → Mm → Prop} (C : Cx p s m args meth c D G cX12_relay 11 (some .int) (cw_X12_relay :: gw) RX12) (hk132 : ∀ (y0 : Int) (y1 : Int32) (y3 : Int32) (y4 : Int32) (y5 : Int32) (y6 : Int32) (y7 : Int32) (y8 : Int32) (y9 : Int32) (M : Mm) (H : Heap) (locs : List Loc) (ls : Array Slot), Wd D G S M H → va_S (aG G) s.heap H locs → lv_has ls 11 [(0, .ref (adr G y0)), (1, .int y1), (3, .int y3), (4, .int y4), (5, .int y5), (6, .int y6), (7, .int y7), (8, .int y8), (9, .int y9)] → k132 y0 y1.toInt y3.toInt y4.toInt y5.toInt y6.toInt y7.toInt y8.toInt y9.toInt M → W p l e RM_X12_relay s m args below meth c H locs 0 0 (MQ below (QI D G S post) args s 0 0 (aG G)) (F0 m 132 ls [])) : ∀ (xl0 : Int) (zl1 : Int32) (zl3 : Int32) (zl4 : Int32) (zl5 : Int32) (zl6 : Int32) (zl7 : Int32) (zl8 : Int32) (zl9 : Int32) (M : Mm) (H : Heap) (locs : List Loc) (ls : Array Slot), Wd D G S M H → va_S (aG G) s.heap H locs → lv_has ls 11 [(0, .ref (adr G xl0)), (1, .int zl1), (3, .int zl3), (4, .int zl4), (5, .int zl5), (6, .int zl6), (7, .int zl7), (8, .int zl8), (9, .int zl9)] → wp_X12_relay_206 S k132 post xl0 zl1.toInt zl3.toInt zl4.toInt zl5.toInt zl6.toInt zl7.toInt zl8.toInt zl9.toInt  M → W p l e RM_X12_relay s m args below meth c H locs 0 0 (MQ below (QI D G S post) args s 0 0 (aG G)) (F0 m 206 ls []) := by
  obtain ⟨hx, hb, hr, hlocks, hml, hown, hts, hK⟩ := id C
  intro xl0 zl1 zl3 zl4 zl5 zl6 zl7 zl8 zl9 M H locs ls hP hS hl h
  unfold wp_X12_relay_206 at h
  refine r_iinc hx hb (fun z6 => [(6, .int z6), (0, .ref (adr G xl0)), (1, .int zl1), (3, .int zl3), (4, .int zl4), (5, .int zl5), (7, .int zl7), (8, .int zl8), (9, .int zl9)]) dX12_relay_206 (by decide) hl (k := 5) rfl (by decide) (fun _ => rfl) h (fun z6 ls hl h => ?_)
  exact t_X12_relay_209 C hk132 xl0 zl1 zl3 zl4 zl5 z6 zl7 zl8 zl9 _ _ _ _ hP hS (lv_sub hl [1, 2, 3, 4, 5, 0, 6, 7, 8] rfl) h
set_option maxHeartbeats 4000000 in
set_option maxRecDepth 100000 in
theorem t_X12_relay_178 {p : Program} {l : Launch} {e : Env} {s : State} {m : MethodId} {args : Array Value} {below : List Frame} {meth : Method} {c : Code} {D : va_G} {G : Gt} {S : Sh} {post : Int → Mm → Prop} {k132 : Int → Int → Int → Int → Int → Int → Int → Int → Int → Mm → Prop} (C : Cx p s m args meth c D G cX12_relay 11 (some .int) (cw_X12_relay :: gw) RX12) (hk132 : ∀ (y0 : Int) (y1 : Int32) (y3 : Int32) (y4 : Int32) (y5 : Int32) (y6 : Int32) (y7 : Int32) (y8 : Int32) (y9 : Int32) (M : Mm) (H : Heap) (locs : List Loc) (ls : Array Slot), Wd D G S M H → va_S (aG G) s.heap H locs → lv_has ls 11 [(0, .ref (adr G y0)), (1, .int y1), (3, .int y3), (4, .int y4), (5, .int y5), (6, .int y6), (7, .int y7), (8, .int y8), (9, .int y9)] → k132 y0 y1.toInt y3.toInt y4.toInt y5.toInt y6.toInt y7.toInt y8.toInt y9.toInt M → W p l e RM_X12_relay s m args below meth c H locs 0 0 (MQ below (QI D G S post) args s 0 0 (aG G)) (F0 m 132 ls [])) : ∀ (xl0 : Int) (zl1 : Int32) (zl3 : Int32) (zl4 : Int32) (zl5 : Int32) (zl6 : Int32) (zl7 : Int32) (zl9 : Int32) (zl10 : Int32) (zs0 : Int32) (M : Mm) (H : Heap) (locs : List Loc) (ls : Array Slot), Wd D G S M H → va_S (aG G) s.heap H locs → lv_has ls 11 [(0, .ref (adr G xl0)), (1, .int zl1), (3, .int zl3), (4, .int zl4), (5, .int zl5), (6, .int zl6), (7, .int zl7), (9, .int zl9), (10, .int zl10)] → wp_X12_relay_178 S k132 post xl0 zl1.toInt zl3.toInt zl4.toInt zl5.toInt zl6.toInt zl7.toInt zl9.toInt zl10.toInt zs0.toInt M → W p l e RM_X12_relay s m args below meth c H locs 0 0 (MQ below (QI D G S post) args s 0 0 (aG G)) (F0 m 178 ls [.int zs0]) := by
  obtain ⟨hx, hb, hr, hlocks, hml, hown, hts, hK⟩ := id C
  intro xl0 zl1 zl3 zl4 zl5 zl6 zl7 zl9 zl10 zs0 M H locs ls hP hS hl h
  unfold wp_X12_relay_178 at h
  refine lv_istore (lv' := [(8, .int zs0), (0, .ref (adr G xl0)), (1, .int zl1), (3, .int zl3), (4, .int zl4), (5, .int zl5), (6, .int zl6), (7, .int zl7), (9, .int zl9), (10, .int zl10)]) hx hb dX12_relay_178 hl (by decide) rfl (fun ls hl => ?_)
  refine lv_iload hx hb dX12_relay_180 (lv_at hl 9 rfl) ?_
  refine r_i2l hx hb dX12_relay_182 h (fun z8 h => ?_)
  refine lv_iload_n hx hb dX12_relay_183 rfl (lv_at hl 3 rfl) ?_
  refine r_i2l hx hb dX12_relay_184 h (fun z10 h => ?_)
  refine lv_iload hx hb dX12_relay_185 (lv_at hl 4 rfl) ?_
  refine r_i2l hx hb dX12_relay_187 h (fun z12 h => ?_)
  refine q_Si hx hb hml hown hts hK hP hS (c_X12_in l D G S _ z8 z10 z12 _ h) ⟨callB_of 3 hts (gw_good kw_1523) rfl rfl rfl (hts _ (List.mem_cons_of_mem _ kw_14)) (hts _ (List.mem_cons_of_mem _ kw_1521)) hd_X12_in ⟨Nat.le_of_ble_eq_true rfl, Nat.le_of_ble_eq_true rfl⟩, (hts _ (List.mem_cons_of_mem _ kw_1522))⟩ rfl hl.1 rfl (lv_room (Nat.le_of_ble_eq_true rfl)) dX12_relay_188 ⟨Nat.zero_le _, Nat.zero_le _⟩ (fun z15 M13 H locs h hP hS => ?_)
  refine r_if_ne (tgt := 197) hx hb dX12_relay_191 (by decide) h (fun h => ?_) (fun h => ?_)
  · refine lv_iload hx hb dX12_relay_197 (lv_at hl 6 rfl) ?_
    refine r_if_ne (tgt := 206) hx hb dX12_relay_199 (by decide) h (fun h => ?_) (fun h => ?_)
    · exact t_X12_relay_206 C hk132 xl0 zl1 zl3 zl4 zl5 zl6 zl7 zs0 zl9 _ _ _ _ hP hS (lv_sub hl [1, 2, 3, 4, 5, 6, 7, 0, 8] rfl) h
    · refine lv_iload hx hb dX12_relay_202 (lv_at hl 8 rfl) ?_
      refine lv_istore (lv' := [(7, .int zl9), (8, .int zs0), (0, .ref (adr G xl0)), (1, .int zl1), (3, .int zl3), (4, .int zl4), (5, .int zl5), (6, .int zl6), (9, .int zl9), (10, .int zl10)]) hx hb dX12_relay_204 hl (by decide) rfl (fun ls hl => ?_)
      exact t_X12_relay_206 C hk132 xl0 zl1 zl3 zl4 zl5 zl6 zl9 zs0 zl9 _ _ _ _ hP hS (lv_sub hl [2, 3, 4, 5, 6, 7, 0, 1, 8] rfl) h
  · refine lv_goto (tgt := 209) hx hb dX12_relay_194 (by decide) ?_
    exact t_X12_relay_209 C hk132 xl0 zl1 zl3 zl4 zl5 zl6 zl7 zs0 zl9 _ _ _ _ hP hS (lv_sub hl [1, 2, 3, 4, 5, 6, 7, 0, 8] rfl) h
set_option maxHeartbeats 4000000 in
set_option maxRecDepth 100000 in
theorem t_X12_relay_171 {p : Program} {l : Launch} {e : Env} {s : State} {m : MethodId} {args : Array Value} {below : List Frame} {meth : Method} {c : Code} {D : va_G} {G : Gt} {S : Sh} {post : Int → Mm → Prop} {k132 : Int → Int → Int → Int → Int → Int → Int → Int → Int → Mm → Prop} (C : Cx p s m args meth c D G cX12_relay 11 (some .int) (cw_X12_relay :: gw) RX12) (hk132 : ∀ (y0 : Int) (y1 : Int32) (y3 : Int32) (y4 : Int32) (y5 : Int32) (y6 : Int32) (y7 : Int32) (y8 : Int32) (y9 : Int32) (M : Mm) (H : Heap) (locs : List Loc) (ls : Array Slot), Wd D G S M H → va_S (aG G) s.heap H locs → lv_has ls 11 [(0, .ref (adr G y0)), (1, .int y1), (3, .int y3), (4, .int y4), (5, .int y5), (6, .int y6), (7, .int y7), (8, .int y8), (9, .int y9)] → k132 y0 y1.toInt y3.toInt y4.toInt y5.toInt y6.toInt y7.toInt y8.toInt y9.toInt M → W p l e RM_X12_relay s m args below meth c H locs 0 0 (MQ below (QI D G S post) args s 0 0 (aG G)) (F0 m 132 ls [])) : ∀ (xl0 : Int) (zl1 : Int32) (zl3 : Int32) (zl4 : Int32) (zl5 : Int32) (zl6 : Int32) (zl7 : Int32) (zl9 : Int32) (zl10 : Int32) (M : Mm) (H : Heap) (locs : List Loc) (ls : Array Slot), Wd D G S M H → va_S (aG G) s.heap H locs → lv_has ls 11 [(0, .ref (adr G xl0)), (1, .int zl1), (3, .int zl3), (4, .int zl4), (5, .int zl5), (6, .int zl6), (7, .int zl7), (9, .int zl9), (10, .int zl10)] → wp_X12_relay_171 S k132 post xl0 zl1.toInt zl3.toInt zl4.toInt zl5.toInt zl6.toInt zl7.toInt zl9.toInt zl10.toInt  M → W p l e RM_X12_relay s m args below meth c H locs 0 0 (MQ below (QI D G S post) args s 0 0 (aG G)) (F0 m 171 ls []) := by
  obtain ⟨hx, hb, hr, hlocks, hml, hown, hts, hK⟩ := id C
  intro xl0 zl1 zl3 zl4 zl5 zl6 zl7 zl9 zl10 M H locs ls hP hS hl h
  unfold wp_X12_relay_171 at h
  refine lv_iload hx hb dX12_relay_171 (lv_at hl 8 rfl) ?_
  refine lv_goto (tgt := 178) hx hb dX12_relay_173 (by decide) ?_
  exact t_X12_relay_178 C hk132 xl0 zl1 zl3 zl4 zl5 zl6 zl7 zl9 zl10 zl10 _ _ _ _ hP hS (lv_sub hl [0, 1, 2, 3, 4, 5, 6, 7, 8] rfl) h
set_option maxHeartbeats 4000000 in
set_option maxRecDepth 100000 in
theorem t_X12_relay_132 {p : Program} {l : Launch} {e : Env} {s : State} {m : MethodId} {args : Array Value} {below : List Frame} {meth : Method} {c : Code} {D : va_G} {G : Gt} {S : Sh} {post : Int → Mm → Prop} (C : Cx p s m args meth c D G cX12_relay 11 (some .int) (cw_X12_relay :: gw) RX12) : ∀ (n : Nat) (xl0 : Int) (zl1 : Int32) (zl3 : Int32) (zl4 : Int32) (zl5 : Int32) (zl6 : Int32) (zl7 : Int32) (zl8 : Int32) (zl9 : Int32) (M : Mm) (H : Heap) (locs : List Loc) (ls : Array Slot), Wd D G S M H → va_S (aG G) s.heap H locs → lv_has ls 11 [(0, .ref (adr G xl0)), (1, .int zl1), (3, .int zl3), (4, .int zl4), (5, .int zl5), (6, .int zl6), (7, .int zl7), (8, .int zl8), (9, .int zl9)] → wp_X12_relay_132 S post n xl0 zl1.toInt zl3.toInt zl4.toInt zl5.toInt zl6.toInt zl7.toInt zl8.toInt zl9.toInt  M → W p l e RM_X12_relay s m args below meth c H locs 0 0 (MQ below (QI D G S post) args s 0 0 (aG G)) (F0 m 132 ls []) := by
  obtain ⟨hx, hb, hr, hlocks, hml, hown, hts, hK⟩ := id C
  intro n
  induction n with
  | zero => intro xl0 zl1 zl3 zl4 zl5 zl6 zl7 zl8 zl9 M H locs ls hP hS hl h; exact h.elim
  | succ n ih =>
    intro xl0 zl1 zl3 zl4 zl5 zl6 zl7 zl8 zl9 M H locs ls hP hS hl h
    unfold wp_X12_relay_132 at h
    refine lv_iload hx hb dX12_relay_132 (lv_at hl 8 rfl) ?_
    refine lv_aload_n hx hb dX12_relay_134 rfl (lv_at hl 0 rfl) ?_
    refine r_getr (C := RX12) (T := TX12) (N := 38) hx hb hts (fun w h => List.mem_cons_of_mem _ (iX12 w h)) hown hK hP rfl (by decide) rfl 20 (by decide) (hts _ (List.mem_cons_of_mem _ kw_1354)) (fun _ h9 => h9) dX12_relay_135 (by decide) h (fun x17 h => ?_)
    refine r_iconst hx hb dX12_relay_138 (by decide) h (fun z19 h => ?_)
    refine r_iald hx hb hK hP dX12_relay_139 h (fun z21 h => ?_)
    refine lv_aload_n hx hb dX12_relay_140 rfl (lv_at hl 0 rfl) ?_
    refine r_geti (C := RX12) (T := TX12) (N := 38) hx hb hts (fun w h => List.mem_cons_of_mem _ (iX12 w h)) hown hK hP rfl (by decide) rfl 29 (by decide) (hts _ (List.mem_cons_of_mem _ kw_1363)) (fun _ h9 => h9) dX12_relay_141 (by decide) h (fun z23 h => ?_)
    refine q_Si hx hb hml hown hts hK hP hS (c_X12_power l D G S _ z21 z23 _ h) ⟨callB_of 2 hts (gw_good kw_1842) rfl rfl rfl (hts _ (List.mem_cons_of_mem _ kw_14)) (hts _ (List.mem_cons_of_mem _ kw_1840)) hd_X12_power ⟨Nat.le_of_ble_eq_true rfl, Nat.le_of_ble_eq_true rfl⟩, (hts _ (List.mem_cons_of_mem _ kw_1841))⟩ rfl hl.1 rfl (lv_room (Nat.le_of_ble_eq_true rfl)) dX12_relay_144 ⟨Nat.zero_le _, Nat.zero_le _⟩ (fun z26 M24 H locs h hP hS => ?_)
    refine r_icmp_ge (tgt := 215) hx hb dX12_relay_147 (by decide) h (fun h => ?_) (fun h => ?_)
    · refine lv_iload hx hb dX12_relay_215 (lv_at hl 4 rfl) ?_
      refine r_iconst hx hb dX12_relay_217 (by decide) h (fun z28 h => ?_)
      refine r_icmp_ge (tgt := 234) hx hb dX12_relay_218 (by decide) h (fun h => ?_) (fun h => ?_)
      · refine lv_iload hx hb dX12_relay_234 (lv_at hl 6 rfl) ?_
        refine r_if_lt (tgt := 250) hx hb dX12_relay_236 (by decide) h (fun h => ?_) (fun h => ?_)
        · exact t_X12_relay_250 C _ _ _ _ hP hS (lv_sub hl [] rfl) h
        · refine lv_iload hx hb dX12_relay_239 (lv_at hl 4 rfl) ?_
          refine r_iconst hx hb dX12_relay_241 (by decide) h (fun z30 h => ?_)
          refine r_isub hx hb dX12_relay_242 h (fun z32 h => ?_)
          refine lv_aload_n hx hb dX12_relay_243 rfl (lv_at hl 0 rfl) ?_
          refine r_geti (C := RX12) (T := TX12) (N := 38) hx hb hts (fun w h => List.mem_cons_of_mem _ (iX12 w h)) hown hK hP rfl (by decide) rfl 29 (by decide) (hts _ (List.mem_cons_of_mem _ kw_1363)) (fun _ h9 => h9) dX12_relay_244 (by decide) h (fun z34 h => ?_)
          refine r_icmp_lt (tgt := 255) hx hb dX12_relay_247 (by decide) h (fun h => ?_) (fun h => ?_)
          · refine lv_aload_n hx hb dX12_relay_255 rfl (lv_at hl 0 rfl) ?_
            refine lv_iload hx hb dX12_relay_256 (lv_at hl 6 rfl) ?_
            refine lv_iload hx hb dX12_relay_258 (lv_at hl 4 rfl) ?_
            refine r_iconst hx hb dX12_relay_260 (by decide) h (fun z36 h => ?_)
            refine r_isub hx hb dX12_relay_261 h (fun z38 h => ?_)
            refine q_Vi hx hb hml hown hts hK hP hS (c_X12_handIn l D G S _ xl0 zl7 z38 _ h.2) ⟨callB_of 2 hts (gw_good kw_1850) rfl rfl rfl (hts _ (List.mem_cons_of_mem _ kw_14)) (hts _ (List.mem_cons_of_mem _ kw_1847)) hd_X12_handIn ⟨Nat.le_of_ble_eq_true rfl, Nat.le_of_ble_eq_true rfl⟩, (hts _ (List.mem_cons_of_mem _ kw_1849)), (hts _ (List.mem_cons_of_mem _ kp_121))⟩ h.1 (ci := 12) rfl (by decide) rfl hl.1 rfl (lv_room (Nat.le_of_ble_eq_true rfl)) dX12_relay_262 ⟨Nat.zero_le _, Nat.zero_le _⟩ (fun z41 M39 H locs h hP hS => ?_)
            exact r_iret hx hb hr hlocks hP hS dX12_relay_265 h
          · exact t_X12_relay_250 C _ _ _ _ hP hS (lv_sub hl [] rfl) h
      · refine lv_iload hx hb dX12_relay_221 (lv_at hl 4 rfl) ?_
        refine r_if_ne (tgt := 231) hx hb dX12_relay_223 (by decide) h (fun h => ?_) (fun h => ?_)
        · refine lv_iload hx hb dX12_relay_231 (lv_at hl 7 rfl) ?_
          exact r_iret hx hb hr hlocks hP hS dX12_relay_233 h
        · refine lv_iload hx hb dX12_relay_226 (lv_at hl 5 rfl) ?_
          refine lv_goto (tgt := 233) hx hb dX12_relay_228 (by decide) ?_
          exact r_iret hx hb hr hlocks hP hS dX12_relay_233 h
    · refine lv_aload_n hx hb dX12_relay_150 rfl (lv_at hl 0 rfl) ?_
      refine lv_iload_n hx hb dX12_relay_151 rfl (lv_at hl 1 rfl) ?_
      refine lv_iload hx hb dX12_relay_152 (lv_at hl 8 rfl) ?_
      refine q_Vi hx hb hml hown hts hK hP hS (c_X12_turnedByRow l D G S _ xl0 zl1 zl9 _ h.2) ⟨callB_of 2 hts (gw_good kw_1846) rfl rfl rfl (hts _ (List.mem_cons_of_mem _ kw_14)) (hts _ (List.mem_cons_of_mem _ kw_1843)) hd_X12_turnedByRow ⟨Nat.le_of_ble_eq_true rfl, Nat.le_of_ble_eq_true rfl⟩, (hts _ (List.mem_cons_of_mem _ kw_1845)), (hts _ (List.mem_cons_of_mem _ kp_120))⟩ h.1 (ci := 12) rfl (by decide) rfl hl.1 rfl (lv_room (Nat.le_of_ble_eq_true rfl)) dX12_relay_154 ⟨Nat.zero_le _, Nat.zero_le _⟩ (fun z44 M42 H locs h hP hS => ?_)
      refine lv_istore (lv' := [(10, .int z44), (0, .ref (adr G xl0)), (1, .int zl1), (3, .int zl3), (4, .int zl4), (5, .int zl5), (6, .int zl6), (7, .int zl7), (8, .int zl8), (9, .int zl9)]) hx hb dX12_relay_157 hl (by decide) rfl (fun ls hl => ?_)
      refine lv_iload hx hb dX12_relay_159 (lv_at hl 8 rfl) ?_
      refine r_if_lt (tgt := 171) hx hb dX12_relay_161 (by decide) h (fun h => ?_) (fun h => ?_)
      · exact t_X12_relay_171 C ih xl0 zl1 zl3 zl4 zl5 zl6 zl7 zl9 z44 _ _ _ _ hP hS (lv_sub hl [1, 2, 3, 4, 5, 6, 7, 9, 0] rfl) h
      · refine lv_iload hx hb dX12_relay_164 (lv_at hl 0 rfl) ?_
        refine lv_iload hx hb dX12_relay_166 (lv_at hl 8 rfl) ?_
        refine r_icmp_ge (tgt := 176) hx hb dX12_relay_168 (by decide) h (fun h => ?_) (fun h => ?_)
        · refine lv_iload hx hb dX12_relay_176 (lv_at hl 8 rfl) ?_
          exact t_X12_relay_178 C ih xl0 zl1 zl3 zl4 zl5 zl6 zl7 zl9 z44 zl8 _ _ _ _ hP hS (lv_sub hl [1, 2, 3, 4, 5, 6, 7, 9, 0] rfl) h
        · exact t_X12_relay_171 C ih xl0 zl1 zl3 zl4 zl5 zl6 zl7 zl9 z44 _ _ _ _ hP hS (lv_sub hl [1, 2, 3, 4, 5, 6, 7, 9, 0] rfl) h
set_option maxHeartbeats 4000000 in
set_option maxRecDepth 100000 in
theorem t_X12_relay_120 {p : Program} {l : Launch} {e : Env} {s : State} {m : MethodId} {args : Array Value} {below : List Frame} {meth : Method} {c : Code} {D : va_G} {G : Gt} {S : Sh} {post : Int → Mm → Prop} (C : Cx p s m args meth c D G cX12_relay 11 (some .int) (cw_X12_relay :: gw) RX12) : ∀ (xl0 : Int) (zl1 : Int32) (zl3 : Int32) (zl4 : Int32) (zl5 : Int32) (M : Mm) (H : Heap) (locs : List Loc) (ls : Array Slot), Wd D G S M H → va_S (aG G) s.heap H locs → lv_has ls 11 [(0, .ref (adr G xl0)), (1, .int zl1), (3, .int zl3), (4, .int zl4), (5, .int zl5)] → wp_X12_relay_120 S post xl0 zl1.toInt zl3.toInt zl4.toInt zl5.toInt  M → W p l e RM_X12_relay s m args below meth c H locs 0 0 (MQ below (QI D G S post) args s 0 0 (aG G)) (F0 m 120 ls []) := by
  obtain ⟨hx, hb, hr, hlocks, hml, hown, hts, hK⟩ := id C
  intro xl0 zl1 zl3 zl4 zl5 M H locs ls hP hS hl h
  unfold wp_X12_relay_120 at h
  refine r_iconst hx hb dX12_relay_120 (by decide) h (fun z46 h => ?_)
  refine lv_istore (lv' := [(6, .int z46), (0, .ref (adr G xl0)), (1, .int zl1), (3, .int zl3), (4, .int zl4), (5, .int zl5)]) hx hb dX12_relay_121 hl (by decide) rfl (fun ls hl => ?_)
  refine r_iconst hx hb dX12_relay_123 (by decide) h (fun z48 h => ?_)
  refine lv_istore (lv' := [(7, .int z48), (6, .int z46), (0, .ref (adr G xl0)), (1, .int zl1), (3, .int zl3), (4, .int zl4), (5, .int zl5)]) hx hb dX12_relay_124 hl (by decide) rfl (fun ls hl => ?_)
  refine r_iconst hx hb dX12_relay_126 (by decide) h (fun z50 h => ?_)
  refine lv_istore (lv' := [(8, .int z50), (7, .int z48), (6, .int z46), (0, .ref (adr G xl0)), (1, .int zl1), (3, .int zl3), (4, .int zl4), (5, .int zl5)]) hx hb dX12_relay_127 hl (by decide) rfl (fun ls hl => ?_)
  refine r_iconst hx hb dX12_relay_129 (by decide) h (fun z52 h => ?_)
  refine lv_istore (lv' := [(9, .int z52), (8, .int z50), (7, .int z48), (6, .int z46), (0, .ref (adr G xl0)), (1, .int zl1), (3, .int zl3), (4, .int zl4), (5, .int zl5)]) hx hb dX12_relay_130 hl (by decide) rfl (fun ls hl => ?_)
  obtain ⟨n9, h⟩ := h
  exact t_X12_relay_132 C n9 xl0 zl1 zl3 zl4 zl5 z46 z48 z50 z52 _ _ _ _ hP hS (lv_sub hl [4, 5, 6, 7, 8, 3, 2, 1, 0] rfl) h
set_option maxHeartbeats 4000000 in
set_option maxRecDepth 100000 in
theorem c_X12_relay (l : Launch) (D : va_G) (G : Gt) (S : Sh) (M : Mm) (xl0 : Int) (zl1 : Int32) (zl2 : Int32) (zl3 : Int32) (zl4 : Int32) (zl5 : Int32) (post : Int → Mm → Prop) (h : wp_X12_relay S M xl0 zl1.toInt zl2.toInt zl3.toInt zl4.toInt zl5.toInt post) : Met l yX12_relay (cw_X12_relay :: gw) RM_X12_relay (va_Pc [.ref (adr G xl0), .int zl1, .int zl2, .int zl3, .int zl4, .int zl5] (fun U => KN D G U ∧ Wd D G S M U.heap)) (QI D G S post) 0 0 (aG G) := by
  refine Met.ofW (cc := cX12_relay) (maxL := 11) (ret := (some .int)) (by decide) rfl ?_
  intro p e s m args below meth c s₁ B hml hv
  obtain ⟨rfl, hK, hP⟩ := hv
  have hx := B.exec
  have hb := B.bytes
  have hr := B.returns
  have hts := atoms_spec (ws := cw_X12_relay :: gw) B.pre
  have hown : s.vm.findClass RX12 = some m.cls := findClass_of_methodNamed B.named
  have hlocks := B.notSynchronized
  have hS : va_S (aG G) s.heap s.heap [] := va_S.rf
  have C : Cx p s m ([.ref (adr G xl0), .int zl1, .int zl2, .int zl3, .int zl4, .int zl5] : List Value).toArray meth c D G cX12_relay 11 (some .int) (cw_X12_relay :: gw) RX12 := ⟨hx, hb, hr, hlocks, hml, hown, hts, hK⟩
  have hl := lv_entry ([.ref (adr G xl0), .int zl1, .int zl2, .int zl3, .int zl4, .int zl5]) (n := 11) (Nat.le_of_ble_eq_true rfl)
  rw [lg_entry_eq]
  generalize (lg_sl ([.ref (adr G xl0), .int zl1, .int zl2, .int zl3, .int zl4, .int zl5]) ++ List.replicate (11 - (lg_sl ([.ref (adr G xl0), .int zl1, .int zl2, .int zl3, .int zl4, .int zl5])).length) Slot.unset).toArray = ls at hl ⊢
  have hl : lv_has ls 11 [(0, .ref (adr G xl0)), (1, .int zl1), (2, .int zl2), (3, .int zl3), (4, .int zl4), (5, .int zl5)] := hl
  unfold wp_X12_relay at h
  refine lv_aload_n hx hb dX12_relay_0 rfl (lv_at hl 0 rfl) ?_
  refine lv_iload_n hx hb dX12_relay_1 rfl (lv_at hl 1 rfl) ?_
  refine q_Vi hx hb hml hown hts hK hP hS (c_X12_isJug l D G S _ xl0 zl1 _ h.2) ⟨callB_of 1 hts (gw_good kw_1666) rfl rfl rfl (hts _ (List.mem_cons_of_mem _ kw_14)) (hts _ (List.mem_cons_of_mem _ kw_1663)) hd_X12_isJug ⟨Nat.le_of_ble_eq_true rfl, Nat.le_of_ble_eq_true rfl⟩, (hts _ (List.mem_cons_of_mem _ kw_1665)), (hts _ (List.mem_cons_of_mem _ kp_91))⟩ h.1 (ci := 12) rfl (by decide) rfl hl.1 rfl (lv_room (Nat.le_of_ble_eq_true rfl)) dX12_relay_2 ⟨Nat.zero_le _, Nat.zero_le _⟩ (fun z55 M53 H locs h hP hS => ?_)
  refine r_if_eq (tgt := 63) hx hb dX12_relay_5 (by decide) h (fun h => ?_) (fun h => ?_)
  · refine r_bipush hx hb dX12_relay_63 (by decide) h (fun z57 h => ?_)
    exact r_iret hx hb hr hlocks hP hS dX12_relay_65 h
  · refine lv_aload_n hx hb dX12_relay_8 rfl (lv_at hl 0 rfl) ?_
    refine lv_iload_n hx hb dX12_relay_9 rfl (lv_at hl 1 rfl) ?_
    refine q_Vi hx hb hml hown hts hK hP hS (c_X12_stands l D G S _ xl0 zl1 _ h.2) ⟨callB_of 1 hts (gw_good kw_1670) rfl rfl rfl (hts _ (List.mem_cons_of_mem _ kw_14)) (hts _ (List.mem_cons_of_mem _ kw_1667)) hd_X12_stands ⟨Nat.le_of_ble_eq_true rfl, Nat.le_of_ble_eq_true rfl⟩, (hts _ (List.mem_cons_of_mem _ kw_1669)), (hts _ (List.mem_cons_of_mem _ kp_92))⟩ h.1 (ci := 12) rfl (by decide) rfl hl.1 rfl (lv_room (Nat.le_of_ble_eq_true rfl)) dX12_relay_10 ⟨Nat.zero_le _, Nat.zero_le _⟩ (fun z60 M58 H locs h hP hS => ?_)
    refine r_if_eq (tgt := 63) hx hb dX12_relay_13 (by decide) h (fun h => ?_) (fun h => ?_)
    · refine r_bipush hx hb dX12_relay_63 (by decide) h (fun z62 h => ?_)
      exact r_iret hx hb hr hlocks hP hS dX12_relay_65 h
    · refine lv_aload_n hx hb dX12_relay_16 rfl (lv_at hl 0 rfl) ?_
      refine lv_iload_n hx hb dX12_relay_17 rfl (lv_at hl 2 rfl) ?_
      refine q_Vi hx hb hml hown hts hK hP hS (c_X12_isPlace l D G S _ xl0 zl2 _ h.2) ⟨callB_of 1 hts (gw_good kw_1780) rfl rfl rfl (hts _ (List.mem_cons_of_mem _ kw_14)) (hts _ (List.mem_cons_of_mem _ kw_1777)) hd_X12_isPlace ⟨Nat.le_of_ble_eq_true rfl, Nat.le_of_ble_eq_true rfl⟩, (hts _ (List.mem_cons_of_mem _ kw_1779)), (hts _ (List.mem_cons_of_mem _ kp_110))⟩ h.1 (ci := 12) rfl (by decide) rfl hl.1 rfl (lv_room (Nat.le_of_ble_eq_true rfl)) dX12_relay_18 ⟨Nat.zero_le _, Nat.zero_le _⟩ (fun z65 M63 H locs h hP hS => ?_)
      refine r_if_eq (tgt := 63) hx hb dX12_relay_21 (by decide) h (fun h => ?_) (fun h => ?_)
      · refine r_bipush hx hb dX12_relay_63 (by decide) h (fun z67 h => ?_)
        exact r_iret hx hb hr hlocks hP hS dX12_relay_65 h
      · refine lv_iload_n hx hb dX12_relay_24 rfl (lv_at hl 3 rfl) ?_
        refine r_i2l hx hb dX12_relay_25 h (fun z69 h => ?_)
        refine r_lconst hx hb dX12_relay_26 (v := 0) (by decide) h (fun z71 h => ?_)
        refine r_ldc2 hx hb hown (hts _ (List.mem_cons_of_mem _ kw_1834)) dX12_relay_27 (n := 999) (by decide) h (fun z73 h => ?_)
        refine q_Si hx hb hml hown hts hK hP hS (c_X12_in l D G S _ z69 z71 z73 _ h) ⟨callB_of 3 hts (gw_good kw_1523) rfl rfl rfl (hts _ (List.mem_cons_of_mem _ kw_14)) (hts _ (List.mem_cons_of_mem _ kw_1521)) hd_X12_in ⟨Nat.le_of_ble_eq_true rfl, Nat.le_of_ble_eq_true rfl⟩, (hts _ (List.mem_cons_of_mem _ kw_1522))⟩ rfl hl.1 rfl (lv_room (Nat.le_of_ble_eq_true rfl)) dX12_relay_30 ⟨Nat.zero_le _, Nat.zero_le _⟩ (fun z76 M74 H locs h hP hS => ?_)
        refine r_if_eq (tgt := 63) hx hb dX12_relay_33 (by decide) h (fun h => ?_) (fun h => ?_)
        · refine r_bipush hx hb dX12_relay_63 (by decide) h (fun z78 h => ?_)
          exact r_iret hx hb hr hlocks hP hS dX12_relay_65 h
        · refine lv_iload hx hb dX12_relay_36 (lv_at hl 4 rfl) ?_
          refine r_i2l hx hb dX12_relay_38 h (fun z80 h => ?_)
          refine lv_iload_n hx hb dX12_relay_39 rfl (lv_at hl 3 rfl) ?_
          refine r_i2l hx hb dX12_relay_40 h (fun z82 h => ?_)
          refine r_ldc2 hx hb hown (hts _ (List.mem_cons_of_mem _ kw_1834)) dX12_relay_41 (n := 999) (by decide) h (fun z84 h => ?_)
          refine q_Si hx hb hml hown hts hK hP hS (c_X12_in l D G S _ z80 z82 z84 _ h) ⟨callB_of 3 hts (gw_good kw_1523) rfl rfl rfl (hts _ (List.mem_cons_of_mem _ kw_14)) (hts _ (List.mem_cons_of_mem _ kw_1521)) hd_X12_in ⟨Nat.le_of_ble_eq_true rfl, Nat.le_of_ble_eq_true rfl⟩, (hts _ (List.mem_cons_of_mem _ kw_1522))⟩ rfl hl.1 rfl (lv_room (Nat.le_of_ble_eq_true rfl)) dX12_relay_44 ⟨Nat.zero_le _, Nat.zero_le _⟩ (fun z87 M85 H locs h hP hS => ?_)
          refine r_if_eq (tgt := 63) hx hb dX12_relay_47 (by decide) h (fun h => ?_) (fun h => ?_)
          · refine r_bipush hx hb dX12_relay_63 (by decide) h (fun z89 h => ?_)
            exact r_iret hx hb hr hlocks hP hS dX12_relay_65 h
          · refine lv_iload hx hb dX12_relay_50 (lv_at hl 5 rfl) ?_
            refine r_i2l hx hb dX12_relay_52 h (fun z91 h => ?_)
            refine r_lconst hx hb dX12_relay_53 (v := 0) (by decide) h (fun z93 h => ?_)
            refine r_ldc2 hx hb hown (hts _ (List.mem_cons_of_mem _ kw_1835)) dX12_relay_54 (n := 6) (by decide) h (fun z95 h => ?_)
            refine q_Si hx hb hml hown hts hK hP hS (c_X12_in l D G S _ z91 z93 z95 _ h) ⟨callB_of 3 hts (gw_good kw_1523) rfl rfl rfl (hts _ (List.mem_cons_of_mem _ kw_14)) (hts _ (List.mem_cons_of_mem _ kw_1521)) hd_X12_in ⟨Nat.le_of_ble_eq_true rfl, Nat.le_of_ble_eq_true rfl⟩, (hts _ (List.mem_cons_of_mem _ kw_1522))⟩ rfl hl.1 rfl (lv_room (Nat.le_of_ble_eq_true rfl)) dX12_relay_57 ⟨Nat.zero_le _, Nat.zero_le _⟩ (fun z98 M96 H locs h hP hS => ?_)
            refine r_if_ne (tgt := 66) hx hb dX12_relay_60 (by decide) h (fun h => ?_) (fun h => ?_)
            · refine lv_aload_n hx hb dX12_relay_66 rfl (lv_at hl 0 rfl) ?_
              refine lv_iload_n hx hb dX12_relay_67 rfl (lv_at hl 2 rfl) ?_
              refine q_Vv hx hb hml hown hts hK hP hS (c_X12_fillsHours l D G S _ xl0 zl2 _ h.2) ⟨callB_of 1 hts (gw_good kw_1817) rfl rfl rfl (hts _ (List.mem_cons_of_mem _ kw_14)) (hts _ (List.mem_cons_of_mem _ kw_1814)) hd_X12_fillsHours ⟨Nat.le_of_ble_eq_true rfl, Nat.le_of_ble_eq_true rfl⟩, (hts _ (List.mem_cons_of_mem _ kw_1816)), (hts _ (List.mem_cons_of_mem _ kp_116))⟩ h.1 (ci := 12) rfl (by decide) rfl hl.1 rfl (lv_room (Nat.le_of_ble_eq_true rfl)) dX12_relay_68 ⟨Nat.zero_le _, Nat.zero_le _⟩ (fun M99 H locs h hP hS => ?_)
              refine lv_aload_n hx hb dX12_relay_71 rfl (lv_at hl 0 rfl) ?_
              refine r_getr (C := RX12) (T := TX12) (N := 38) hx hb hts (fun w h => List.mem_cons_of_mem _ (iX12 w h)) hown hK hP rfl (by decide) rfl 27 (by decide) (hts _ (List.mem_cons_of_mem _ kw_1361)) (fun _ h9 => h9) dX12_relay_72 (by decide) h (fun x101 h => ?_)
              refine lv_aload_n hx hb dX12_relay_75 rfl (lv_at hl 0 rfl) ?_
              refine lv_iload_n hx hb dX12_relay_76 rfl (lv_at hl 1 rfl) ?_
              refine r_iconst hx hb dX12_relay_77 (by decide) h (fun z103 h => ?_)
              refine q_Vi hx hb hml hown hts hK hP hS (c_X12_jugOf l D G S _ xl0 zl1 z103 _ h.2) ⟨callB_of 2 hts (gw_good kw_1658) rfl rfl rfl (hts _ (List.mem_cons_of_mem _ kw_14)) (hts _ (List.mem_cons_of_mem _ kw_1655)) hd_X12_jugOf ⟨Nat.le_of_ble_eq_true rfl, Nat.le_of_ble_eq_true rfl⟩, (hts _ (List.mem_cons_of_mem _ kw_1657)), (hts _ (List.mem_cons_of_mem _ kp_90))⟩ h.1 (ci := 12) rfl (by decide) rfl hl.1 rfl (lv_room (Nat.le_of_ble_eq_true rfl)) dX12_relay_78 ⟨Nat.zero_le _, Nat.zero_le _⟩ (fun z106 M104 H locs h hP hS => ?_)
              refine r_iald hx hb hK hP dX12_relay_81 h (fun z108 h => ?_)
              refine r_bipush hx hb dX12_relay_82 (by decide) h (fun z110 h => ?_)
              refine r_icmp_lt (tgt := 90) hx hb dX12_relay_84 (by decide) h (fun h => ?_) (fun h => ?_)
              · refine lv_aload_n hx hb dX12_relay_90 rfl (lv_at hl 0 rfl) ?_
                refine lv_aload_n hx hb dX12_relay_91 rfl (lv_at hl 0 rfl) ?_
                refine lv_iload_n hx hb dX12_relay_92 rfl (lv_at hl 1 rfl) ?_
                refine r_iconst hx hb dX12_relay_93 (by decide) h (fun z112 h => ?_)
                refine q_Vi hx hb hml hown hts hK hP hS (c_X12_jugOf l D G S _ xl0 zl1 z112 _ h.2) ⟨callB_of 2 hts (gw_good kw_1658) rfl rfl rfl (hts _ (List.mem_cons_of_mem _ kw_14)) (hts _ (List.mem_cons_of_mem _ kw_1655)) hd_X12_jugOf ⟨Nat.le_of_ble_eq_true rfl, Nat.le_of_ble_eq_true rfl⟩, (hts _ (List.mem_cons_of_mem _ kw_1657)), (hts _ (List.mem_cons_of_mem _ kp_90))⟩ h.1 (ci := 12) rfl (by decide) rfl hl.1 rfl (lv_room (Nat.le_of_ble_eq_true rfl)) dX12_relay_94 ⟨Nat.zero_le _, Nat.zero_le _⟩ (fun z115 M113 H locs h hP hS => ?_)
                refine lv_iload_n hx hb dX12_relay_97 rfl (lv_at hl 2 rfl) ?_
                refine q_Vv hx hb hml hown hts hK hP hS (c_X12_fillsRoads l D G S _ xl0 z115 zl2 _ h.2) ⟨callB_of 2 hts (gw_good kw_1839) rfl rfl rfl (hts _ (List.mem_cons_of_mem _ kw_14)) (hts _ (List.mem_cons_of_mem _ kw_1836)) hd_X12_fillsRoads ⟨Nat.le_of_ble_eq_true rfl, Nat.le_of_ble_eq_true rfl⟩, (hts _ (List.mem_cons_of_mem _ kw_1838)), (hts _ (List.mem_cons_of_mem _ kp_119))⟩ h.1 (ci := 12) rfl (by decide) rfl hl.1 rfl (lv_room (Nat.le_of_ble_eq_true rfl)) dX12_relay_98 ⟨Nat.zero_le _, Nat.zero_le _⟩ (fun M116 H locs h hP hS => ?_)
                refine lv_aload_n hx hb dX12_relay_101 rfl (lv_at hl 0 rfl) ?_
                refine r_geti (C := RX12) (T := TX12) (N := 38) hx hb hts (fun w h => List.mem_cons_of_mem _ (iX12 w h)) hown hK hP rfl (by decide) rfl 29 (by decide) (hts _ (List.mem_cons_of_mem _ kw_1363)) (fun _ h9 => h9) dX12_relay_102 (by decide) h (fun z118 h => ?_)
                refine r_if_le (tgt := 120) hx hb dX12_relay_105 (by decide) h (fun h => ?_) (fun h => ?_)
                · exact t_X12_relay_120 C xl0 zl1 zl3 zl4 zl5 _ _ _ _ hP hS (lv_sub hl [0, 1, 3, 4, 5] rfl) h
                · refine lv_aload_n hx hb dX12_relay_108 rfl (lv_at hl 0 rfl) ?_
                  refine r_getr (C := RX12) (T := TX12) (N := 38) hx hb hts (fun w h => List.mem_cons_of_mem _ (iX12 w h)) hown hK hP rfl (by decide) rfl 20 (by decide) (hts _ (List.mem_cons_of_mem _ kw_1354)) (fun _ h9 => h9) dX12_relay_109 (by decide) h (fun x120 h => ?_)
                  refine r_iconst hx hb dX12_relay_112 (by decide) h (fun z122 h => ?_)
                  refine r_iald hx hb hK hP dX12_relay_113 h (fun z124 h => ?_)
                  refine r_if_ne (tgt := 120) hx hb dX12_relay_114 (by decide) h (fun h => ?_) (fun h => ?_)
                  · exact t_X12_relay_120 C xl0 zl1 zl3 zl4 zl5 _ _ _ _ hP hS (lv_sub hl [0, 1, 3, 4, 5] rfl) h
                  · refine r_bipush hx hb dX12_relay_117 (by decide) h (fun z126 h => ?_)
                    exact r_iret hx hb hr hlocks hP hS dX12_relay_119 h
              · refine r_bipush hx hb dX12_relay_87 (by decide) h (fun z128 h => ?_)
                exact r_iret hx hb hr hlocks hP hS dX12_relay_89 h
            · refine r_bipush hx hb dX12_relay_63 (by decide) h (fun z130 h => ?_)
              exact r_iret hx hb hr hlocks hP hS dX12_relay_65 h
