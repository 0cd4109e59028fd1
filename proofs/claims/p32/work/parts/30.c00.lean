/-! TurningMilk$Tape.hasRoomFor(I)Z -/
abbrev RM_X7_hasRoomFor : Room := { frames := 1, cells := 0, slots := 0, locals := 40 }
def cw_X7_hasRoomFor : Cond := Cond.code yX7_hasRoomFor cX7_hasRoomFor 2 (Option.some FieldType.boolean)
theorem hd_X7_hasRoomFor : yX7_hasRoomFor.cls ≠ "java/lang/invoke/MethodHandle" ∧ yX7_hasRoomFor.cls ≠ "java/lang/invoke/VarHandle" ∧ (parseMethodDescriptor yX7_hasRoomFor.desc).map (fun d => d.parameters.length) = some 1 := by decide +kernel
theorem dX7_hasRoomFor_0 : decode cX7_hasRoomFor 0 = .ok (.aload_n 0, 1) := by decide +kernel
theorem dX7_hasRoomFor_1 : decode cX7_hasRoomFor 1 = .ok (.getfield 15, 3) := by decide +kernel
theorem dX7_hasRoomFor_4 : decode cX7_hasRoomFor 4 = .ok (.iload_n 1, 1) := by decide +kernel
theorem dX7_hasRoomFor_5 : decode cX7_hasRoomFor 5 = .ok (.iadd, 1) := by decide +kernel
theorem dX7_hasRoomFor_6 : decode cX7_hasRoomFor 6 = .ok (.sipush 400, 3) := by decide +kernel
theorem dX7_hasRoomFor_9 : decode cX7_hasRoomFor 9 = .ok (.if_icmp .gt 7, 3) := by decide +kernel
theorem dX7_hasRoomFor_12 : decode cX7_hasRoomFor 12 = .ok (.iconst 1, 1) := by decide +kernel
theorem dX7_hasRoomFor_13 : decode cX7_hasRoomFor 13 = .ok (.goto 4, 3) := by decide +kernel
theorem dX7_hasRoomFor_16 : decode cX7_hasRoomFor 16 = .ok (.iconst 0, 1) := by decide +kernel
theorem dX7_hasRoomFor_17 : decode cX7_hasRoomFor 17 = .ok (.ireturn, 1) := by decide +kernel
def wp_X7_hasRoomFor (S : Sh) (M : Mm) (u0 : Int) (u1 : Int) (post : Int → Mm → Prop) : Prop := wGet S M u0 7 1 fun v1 => wA v1 u1 fun v3 => wC 400 fun v5 => wIf (v5 < v3) (wC 0 fun v7 => (v7 = 0 ∨ v7 = 1) ∧ post v7 M) (wC 1 fun v9 => (v9 = 0 ∨ v9 = 1) ∧ post v9 M)
set_option maxHeartbeats 4000000 in
set_option maxRecDepth 100000 in
theorem c_X7_hasRoomFor (l : Launch) (D : va_G) (G : Gt) (S : Sh) (M : Mm) (xl0 : Int) (zl1 : Int32) (post : Int → Mm → Prop) (h : wp_X7_hasRoomFor S M xl0 zl1.toInt post) : Met l yX7_hasRoomFor (cw_X7_hasRoomFor :: gw) RM_X7_hasRoomFor (va_Pc [.ref (adr G xl0), .int zl1] (fun U => KN D G U ∧ Wd D G S M U.heap)) (QI D G S post) 0 0 (aG G) := by
  refine Met.ofW (cc := cX7_hasRoomFor) (maxL := 2) (ret := (some .boolean)) (by decide) rfl ?_
  intro p e s m args below meth c s₁ B hml hv
  obtain ⟨rfl, hK, hP⟩ := hv
  have hx := B.exec
  have hb := B.bytes
  have hr := B.returns
  have hts := atoms_spec (ws := cw_X7_hasRoomFor :: gw) B.pre
  have hown : s.vm.findClass RX7 = some m.cls := findClass_of_methodNamed B.named
  have hlocks := B.notSynchronized
  have hS : va_S (aG G) s.heap s.heap [] := va_S.rf
  have C : Cx p s m ([.ref (adr G xl0), .int zl1] : List Value).toArray meth c D G cX7_hasRoomFor 2 (some .boolean) (cw_X7_hasRoomFor :: gw) RX7 := ⟨hx, hb, hr, hlocks, hml, hown, hts, hK⟩
  have hl := lv_entry ([.ref (adr G xl0), .int zl1]) (n := 2) (Nat.le_of_ble_eq_true rfl)
  rw [lg_entry_eq]
  generalize (lg_sl ([.ref (adr G xl0), .int zl1]) ++ List.replicate (2 - (lg_sl ([.ref (adr G xl0), .int zl1])).length) Slot.unset).toArray = ls at hl ⊢
  have hl : lv_has ls 2 [(0, .ref (adr G xl0)), (1, .int zl1)] := hl
  unfold wp_X7_hasRoomFor at h
  refine lv_aload_n hx hb dX7_hasRoomFor_0 rfl (lv_at hl 0 rfl) ?_
  refine r_geti (C := RX7) (T := TX7) (N := 5) hx hb hts (fun w h => List.mem_cons_of_mem _ (iX7 w h)) hown hK hP rfl (by decide) rfl 1 (by decide) (hts _ (List.mem_cons_of_mem _ kw_37)) (fun _ h9 => h9) dX7_hasRoomFor_1 (by decide) h (fun z2 h => ?_)
  refine lv_iload_n hx hb dX7_hasRoomFor_4 rfl (lv_at hl 1 rfl) ?_
  refine r_iadd hx hb dX7_hasRoomFor_5 h (fun z4 h => ?_)
  refine r_sipush hx hb dX7_hasRoomFor_6 (by decide) h (fun z6 h => ?_)
  refine r_icmp_gt (tgt := 16) hx hb dX7_hasRoomFor_9 (by decide) h (fun h => ?_) (fun h => ?_)
  · refine r_iconst hx hb dX7_hasRoomFor_16 (by decide) h (fun z8 h => ?_)
    exact r_zret hx hb hr hlocks hP hS dX7_hasRoomFor_17 h
  · refine r_iconst hx hb dX7_hasRoomFor_12 (by decide) h (fun z10 h => ?_)
    refine lv_goto (tgt := 17) hx hb dX7_hasRoomFor_13 (by decide) ?_
    exact r_zret hx hb hr hlocks hP hS dX7_hasRoomFor_17 h
/-! TurningMilk$Tape.add(I)V -/
abbrev RM_X7_add : Room := { frames := 1, cells := 0, slots := 0, locals := 40 }
def cw_X7_add : Cond := Cond.code yX7_add cX7_add 3 (Option.none : Option FieldType)
theorem hd_X7_add : yX7_add.cls ≠ "java/lang/invoke/MethodHandle" ∧ yX7_add.cls ≠ "java/lang/invoke/VarHandle" ∧ (parseMethodDescriptor yX7_add.desc).map (fun d => d.parameters.length) = some 1 := by decide +kernel
theorem dX7_add_0 : decode cX7_add 0 = .ok (.bipush 24, 2) := by decide +kernel
theorem dX7_add_2 : decode cX7_add 2 = .ok (.istore_n 2, 1) := by decide +kernel
theorem dX7_add_3 : decode cX7_add 3 = .ok (.iload_n 2, 1) := by decide +kernel
theorem dX7_add_4 : decode cX7_add 4 = .ok (.ifCond .lt 42, 3) := by decide +kernel
theorem dX7_add_7 : decode cX7_add 7 = .ok (.aload_n 0, 1) := by decide +kernel
theorem dX7_add_8 : decode cX7_add 8 = .ok (.getfield 15, 3) := by decide +kernel
theorem dX7_add_11 : decode cX7_add 11 = .ok (.sipush 400, 3) := by decide +kernel
theorem dX7_add_14 : decode cX7_add 14 = .ok (.if_icmp .ge 26, 3) := by decide +kernel
theorem dX7_add_17 : decode cX7_add 17 = .ok (.aload_n 0, 1) := by decide +kernel
theorem dX7_add_18 : decode cX7_add 18 = .ok (.getfield 9, 3) := by decide +kernel
theorem dX7_add_21 : decode cX7_add 21 = .ok (.aload_n 0, 1) := by decide +kernel
theorem dX7_add_22 : decode cX7_add 22 = .ok (.getfield 15, 3) := by decide +kernel
theorem dX7_add_25 : decode cX7_add 25 = .ok (.iload_n 1, 1) := by decide +kernel
theorem dX7_add_26 : decode cX7_add 26 = .ok (.iload_n 2, 1) := by decide +kernel
theorem dX7_add_27 : decode cX7_add 27 = .ok (.ishr, 1) := by decide +kernel
theorem dX7_add_28 : decode cX7_add 28 = .ok (.i2b, 1) := by decide +kernel
theorem dX7_add_29 : decode cX7_add 29 = .ok (.bastore, 1) := by decide +kernel
theorem dX7_add_30 : decode cX7_add 30 = .ok (.aload_n 0, 1) := by decide +kernel
theorem dX7_add_31 : decode cX7_add 31 = .ok (.dup, 1) := by decide +kernel
theorem dX7_add_32 : decode cX7_add 32 = .ok (.getfield 15, 3) := by decide +kernel
theorem dX7_add_35 : decode cX7_add 35 = .ok (.iconst 1, 1) := by decide +kernel
theorem dX7_add_36 : decode cX7_add 36 = .ok (.iadd, 1) := by decide +kernel
theorem dX7_add_37 : decode cX7_add 37 = .ok (.putfield 15, 3) := by decide +kernel
theorem dX7_add_40 : decode cX7_add 40 = .ok (.iinc 2 (-8), 3) := by decide +kernel
theorem dX7_add_43 : decode cX7_add 43 = .ok (.goto (-40), 3) := by decide +kernel
theorem dX7_add_46 : decode cX7_add 46 = .ok (.return_, 1) := by decide +kernel
def wp_X7_add_40 (S : Sh) (k3 : Int → Int → Int → Mm → Prop) (post : Mm → Prop) (u0 : Int) (u1 : Int) (u2 : Int) (M : Mm) : Prop := wA u2 (-8) fun v1 => k3 u0 u1 v1 M
def wp_X7_add_3 (S : Sh) (post : Mm → Prop) : Nat → Int → Int → Int → Mm → Prop
  | 0, _, _, _, _ => False
  | n + 1, u0, u1, u2, M => wIf (u2 < 0) (post M) (wGet S M u0 7 1 fun v3 => wC 400 fun v5 => wIf (v5 ≤ v3) (wp_X7_add_40 S (fun a0 a1 a2 M => wp_X7_add_3 S post n a0 a1 a2 M) post u0 u1 u2 M) (wGetR S M u0 7 0 fun v7 => wGet S M u0 7 1 fun v9 => wO iShr u1 u2 fun v11 => wO1 i2b v11 fun v13 => wStB S M v7 13 v9 v13 fun M15 => wGet S M15 u0 7 1 fun v16 => wC 1 fun v18 => wA v16 v18 fun v20 => wPut S M15 u0 7 1 v20 fun M22 => wp_X7_add_40 S (fun a0 a1 a2 M => wp_X7_add_3 S post n a0 a1 a2 M) post u0 u1 u2 M22))
def wp_X7_add (S : Sh) (M : Mm) (u0 : Int) (u1 : Int) (post : Mm → Prop) : Prop := wC 24 fun v23 => ∃ n9 : Nat, wp_X7_add_3 S post n9 u0 u1 v23 M
set_option maxHeartbeats 4000000 in
set_option maxRecDepth 100000 in
theorem t_X7_add_40 {p : Program} {l : Launch} {e : Env} {s : State} {m : MethodId} {args : Array Value} {below : List Frame} {meth : Method} {c : Code} {D : va_G} {G : Gt} {S : Sh} {post : Mm → Prop} {k3 : Int → Int → Int → Mm → Prop} (C : Cx p s m args meth c D G cX7_add 3 none (cw_X7_add :: gw) RX7) (hk3 : ∀ (y0 : Int) (y1 : Int32) (y2 : Int32) (M : Mm) (H : Heap) (locs : List Loc) (ls : Array Slot), Wd D G S M H → va_S (aG G) s.heap H locs → lv_has ls 3 [(0, .ref (adr G y0)), (1, .int y1), (2, .int y2)] → k3 y0 y1.toInt y2.toInt M → W p l e RM_X7_add s m args below meth c H locs 0 0 (MQ below (QV D G S post) args s 0 0 (aG G)) (F0 m 3 ls [])) : ∀ (xl0 : Int) (zl1 : Int32) (zl2 : Int32) (M : Mm) (H : Heap) (locs : List Loc) (ls : Array Slot), Wd D G S M H → va_S (aG G) s.heap H locs → lv_has ls 3 [(0, .ref (adr G xl0)), (1, .int zl1), (2, .int zl2)] → wp_X7_add_40 S k3 post xl0 zl1.toInt zl2.toInt  M → W p l e RM_X7_add s m args below meth c H locs 0 0 (MQ below (QV D G S post) args s 0 0 (aG G)) (F0 m 40 ls []) := by
  obtain ⟨hx, hb, hr, hlocks, hml, hown, hts, hK⟩ := id C
  intro xl0 zl1 zl2 M H locs ls hP hS hl h
  unfold wp_X7_add_40 at h
  refine r_iinc hx hb (fun z2 => [(2, .int z2), (0, .ref (adr G xl0)), (1, .int zl1)]) dX7_add_40 (by decide) hl (k := 2) rfl (by decide) (fun _ => rfl) h (fun z2 ls hl h => ?_)
  refine lv_goto (tgt := 3) hx hb dX7_add_43 (by decide) ?_
  exact hk3 xl0 zl1 z2 _ _ _ _ hP hS (lv_sub hl [1, 2, 0] rfl) h
set_option maxHeartbeats 4000000 in
set_option maxRecDepth 100000 in
theorem t_X7_add_3 {p : Program} {l : Launch} {e : Env} {s : State} {m : MethodId} {args : Array Value} {below : List Frame} {meth : Method} {c : Code} {D : va_G} {G : Gt} {S : Sh} {post : Mm → Prop} (C : Cx p s m args meth c D G cX7_add 3 none (cw_X7_add :: gw) RX7) : ∀ (n : Nat) (xl0 : Int) (zl1 : Int32) (zl2 : Int32) (M : Mm) (H : Heap) (locs : List Loc) (ls : Array Slot), Wd D G S M H → va_S (aG G) s.heap H locs → lv_has ls 3 [(0, .ref (adr G xl0)), (1, .int zl1), (2, .int zl2)] → wp_X7_add_3 S post n xl0 zl1.toInt zl2.toInt  M → W p l e RM_X7_add s m args below meth c H locs 0 0 (MQ below (QV D G S post) args s 0 0 (aG G)) (F0 m 3 ls []) := by
  obtain ⟨hx, hb, hr, hlocks, hml, hown, hts, hK⟩ := id C
  intro n
  induction n with
  | zero => intro xl0 zl1 zl2 M H locs ls hP hS hl h; exact h.elim
  | succ n ih =>
    intro xl0 zl1 zl2 M H locs ls hP hS hl h
    unfold wp_X7_add_3 at h
    refine lv_iload_n hx hb dX7_add_3 rfl (lv_at hl 2 rfl) ?_
    refine r_if_lt (tgt := 46) hx hb dX7_add_4 (by decide) h (fun h => ?_) (fun h => ?_)
    · exact r_vret hx hb hr hlocks hP hS dX7_add_46 h
    · refine lv_aload_n hx hb dX7_add_7 rfl (lv_at hl 0 rfl) ?_
      refine r_geti (C := RX7) (T := TX7) (N := 5) hx hb hts (fun w h => List.mem_cons_of_mem _ (iX7 w h)) hown hK hP rfl (by decide) rfl 1 (by decide) (hts _ (List.mem_cons_of_mem _ kw_37)) (fun _ h9 => h9) dX7_add_8 (by decide) h (fun z4 h => ?_)
      refine r_sipush hx hb dX7_add_11 (by decide) h (fun z6 h => ?_)
      refine r_icmp_ge (tgt := 40) hx hb dX7_add_14 (by decide) h (fun h => ?_) (fun h => ?_)
      · exact t_X7_add_40 C ih xl0 zl1 zl2 _ _ _ _ hP hS (lv_sub hl [0, 1, 2] rfl) h
      · refine lv_aload_n hx hb dX7_add_17 rfl (lv_at hl 0 rfl) ?_
        refine r_getr (C := RX7) (T := TX7) (N := 5) hx hb hts (fun w h => List.mem_cons_of_mem _ (iX7 w h)) hown hK hP rfl (by decide) rfl 0 (by decide) (hts _ (List.mem_cons_of_mem _ kw_36)) (fun _ h9 => h9) dX7_add_18 (by decide) h (fun x8 h => ?_)
        refine lv_aload_n hx hb dX7_add_21 rfl (lv_at hl 0 rfl) ?_
        refine r_geti (C := RX7) (T := TX7) (N := 5) hx hb hts (fun w h => List.mem_cons_of_mem _ (iX7 w h)) hown hK hP rfl (by decide) rfl 1 (by decide) (hts _ (List.mem_cons_of_mem _ kw_37)) (fun _ h9 => h9) dX7_add_22 (by decide) h (fun z10 h => ?_)
        refine lv_iload_n hx hb dX7_add_25 rfl (lv_at hl 1 rfl) ?_
        refine lv_iload_n hx hb dX7_add_26 rfl (lv_at hl 2 rfl) ?_
        refine r_ishr hx hb dX7_add_27 h (fun z12 h => ?_)
        refine r_i2b hx hb dX7_add_28 h (fun z14 h => ?_)
        refine r_bast hx hb hK hP hS dX7_add_29 h (fun M15 H locs h hP hS => ?_)
        refine lv_aload_n hx hb dX7_add_30 rfl (lv_at hl 0 rfl) ?_
        refine lv_dup hx hb dX7_add_31 rfl ?_
        refine r_geti (C := RX7) (T := TX7) (N := 5) hx hb hts (fun w h => List.mem_cons_of_mem _ (iX7 w h)) hown hK hP rfl (by decide) rfl 1 (by decide) (hts _ (List.mem_cons_of_mem _ kw_37)) (fun _ h9 => h9) dX7_add_32 (by decide) h (fun z17 h => ?_)
        refine r_iconst hx hb dX7_add_35 (by decide) h (fun z19 h => ?_)
        refine r_iadd hx hb dX7_add_36 h (fun z21 h => ?_)
        refine r_puti (C := RX7) (T := TX7) (N := 5) hx hb hts (fun w h => List.mem_cons_of_mem _ (iX7 w h)) hown hK hP tyX7 tyX7_ok nmX7 hS rfl (by decide) rfl 1 (by decide) (hts _ (List.mem_cons_of_mem _ kw_37)) (fun _ h9 => h9) rfl (tyX7_ok 1 (by decide)) rfl rfl dX7_add_37 (by decide) h (fun M22 H locs h hP hS => ?_)
        exact t_X7_add_40 C ih xl0 zl1 zl2 _ _ _ _ hP hS (lv_sub hl [0, 1, 2] rfl) h
set_option maxHeartbeats 4000000 in
set_option maxRecDepth 100000 in
theorem c_X7_add (l : Launch) (D : va_G) (G : Gt) (S : Sh) (M : Mm) (xl0 : Int) (zl1 : Int32) (post : Mm → Prop) (h : wp_X7_add S M xl0 zl1.toInt post) : Met l yX7_add (cw_X7_add :: gw) RM_X7_add (va_Pc [.ref (adr G xl0), .int zl1] (fun U => KN D G U ∧ Wd D G S M U.heap)) (QV D G S post) 0 0 (aG G) := by
  refine Met.ofW (cc := cX7_add) (maxL := 3) (ret := none) (by decide) rfl ?_
  intro p e s m args below meth c s₁ B hml hv
  obtain ⟨rfl, hK, hP⟩ := hv
  have hx := B.exec
  have hb := B.bytes
  have hr := B.returns
  have hts := atoms_spec (ws := cw_X7_add :: gw) B.pre
  have hown : s.vm.findClass RX7 = some m.cls := findClass_of_methodNamed B.named
  have hlocks := B.notSynchronized
  have hS : va_S (aG G) s.heap s.heap [] := va_S.rf
  have C : Cx p s m ([.ref (adr G xl0), .int zl1] : List Value).toArray meth c D G cX7_add 3 none (cw_X7_add :: gw) RX7 := ⟨hx, hb, hr, hlocks, hml, hown, hts, hK⟩
  have hl := lv_entry ([.ref (adr G xl0), .int zl1]) (n := 3) (Nat.le_of_ble_eq_true rfl)
  rw [lg_entry_eq]
  generalize (lg_sl ([.ref (adr G xl0), .int zl1]) ++ List.replicate (3 - (lg_sl ([.ref (adr G xl0), .int zl1])).length) Slot.unset).toArray = ls at hl ⊢
  have hl : lv_has ls 3 [(0, .ref (adr G xl0)), (1, .int zl1)] := hl
  unfold wp_X7_add at h
  refine r_bipush hx hb dX7_add_0 (by decide) h (fun z24 h => ?_)
  refine lv_istore_n (lv' := [(2, .int z24), (0, .ref (adr G xl0)), (1, .int zl1)]) hx hb dX7_add_2 rfl hl (by decide) rfl (fun ls hl => ?_)
  obtain ⟨n9, h⟩ := h
  exact t_X7_add_3 C n9 xl0 zl1 z24 _ _ _ _ hP hS (lv_sub hl [1, 2, 0] rfl) h
/-! TurningMilk.feed(IIIII)I -/
abbrev RM_X11_feed : Room := { frames := 2, cells := 0, slots := 0, locals := 62 }
def cw_X11_feed : Cond := Cond.code yX11_feed cX11_feed 6 (Option.some FieldType.int)
theorem hd_X11_feed : yX11_feed.cls ≠ "java/lang/invoke/MethodHandle" ∧ yX11_feed.cls ≠ "java/lang/invoke/VarHandle" ∧ (parseMethodDescriptor yX11_feed.desc).map (fun d => d.parameters.length) = some 5 := by decide +kernel
theorem dX11_feed_0 : decode cX11_feed 0 = .ok (.aload_n 0, 1) := by decide +kernel
theorem dX11_feed_1 : decode cX11_feed 1 = .ok (.getfield 10, 3) := by decide +kernel
theorem dX11_feed_4 : decode cX11_feed 4 = .ok (.bipush 20, 2) := by decide +kernel
theorem dX11_feed_6 : decode cX11_feed 6 = .ok (.invokevirtual 108, 3) := by decide +kernel
theorem dX11_feed_9 : decode cX11_feed 9 = .ok (.ifCond .ne 5, 3) := by decide +kernel
theorem dX11_feed_12 : decode cX11_feed 12 = .ok (.iconst (-1), 1) := by decide +kernel
theorem dX11_feed_13 : decode cX11_feed 13 = .ok (.ireturn, 1) := by decide +kernel
theorem dX11_feed_14 : decode cX11_feed 14 = .ok (.aload_n 0, 1) := by decide +kernel
theorem dX11_feed_15 : decode cX11_feed 15 = .ok (.getfield 10, 3) := by decide +kernel
theorem dX11_feed_18 : decode cX11_feed 18 = .ok (.iload_n 1, 1) := by decide +kernel
theorem dX11_feed_19 : decode cX11_feed 19 = .ok (.invokevirtual 112, 3) := by decide +kernel
theorem dX11_feed_22 : decode cX11_feed 22 = .ok (.aload_n 0, 1) := by decide +kernel
theorem dX11_feed_23 : decode cX11_feed 23 = .ok (.getfield 10, 3) := by decide +kernel
theorem dX11_feed_26 : decode cX11_feed 26 = .ok (.iload_n 2, 1) := by decide +kernel
theorem dX11_feed_27 : decode cX11_feed 27 = .ok (.invokevirtual 112, 3) := by decide +kernel
theorem dX11_feed_30 : decode cX11_feed 30 = .ok (.aload_n 0, 1) := by decide +kernel
theorem dX11_feed_31 : decode cX11_feed 31 = .ok (.getfield 10, 3) := by decide +kernel
theorem dX11_feed_34 : decode cX11_feed 34 = .ok (.iload_n 3, 1) := by decide +kernel
theorem dX11_feed_35 : decode cX11_feed 35 = .ok (.invokevirtual 112, 3) := by decide +kernel
theorem dX11_feed_38 : decode cX11_feed 38 = .ok (.aload_n 0, 1) := by decide +kernel
theorem dX11_feed_39 : decode cX11_feed 39 = .ok (.getfield 10, 3) := by decide +kernel
theorem dX11_feed_42 : decode cX11_feed 42 = .ok (.iload 4, 2) := by decide +kernel
theorem dX11_feed_44 : decode cX11_feed 44 = .ok (.invokevirtual 112, 3) := by decide +kernel
theorem dX11_feed_47 : decode cX11_feed 47 = .ok (.aload_n 0, 1) := by decide +kernel
theorem dX11_feed_48 : decode cX11_feed 48 = .ok (.getfield 10, 3) := by decide +kernel
theorem dX11_feed_51 : decode cX11_feed 51 = .ok (.iload 5, 2) := by decide +kernel
theorem dX11_feed_53 : decode cX11_feed 53 = .ok (.invokevirtual 112, 3) := by decide +kernel
theorem dX11_feed_56 : decode cX11_feed 56 = .ok (.aload_n 0, 1) := by decide +kernel
theorem dX11_feed_57 : decode cX11_feed 57 = .ok (.getfield 10, 3) := by decide +kernel
theorem dX11_feed_60 : decode cX11_feed 60 = .ok (.getfield 116, 3) := by decide +kernel
theorem dX11_feed_63 : decode cX11_feed 63 = .ok (.ireturn, 1) := by decide +kernel
def wp_X11_feed (S : Sh) (M : Mm) (u0 : Int) (u1 : Int) (u2 : Int) (u3 : Int) (u4 : Int) (u5 : Int) (post : Int → Mm → Prop) : Prop := wGetR S M u0 11 0 fun v1 => wC 20 fun v3 => isK S v1 7 ∧ (wp_X7_hasRoomFor S M v1 v3 <| fun v6 M5 => wIf (¬ v6 = 0) (wGetR S M5 u0 11 0 fun v8 => isK S v8 7 ∧ (wp_X7_add S M5 v8 u1 <| fun M10 => wGetR S M10 u0 11 0 fun v11 => isK S v11 7 ∧ (wp_X7_add S M10 v11 u2 <| fun M13 => wGetR S M13 u0 11 0 fun v14 => isK S v14 7 ∧ (wp_X7_add S M13 v14 u3 <| fun M16 => wGetR S M16 u0 11 0 fun v17 => isK S v17 7 ∧ (wp_X7_add S M16 v17 u4 <| fun M19 => wGetR S M19 u0 11 0 fun v20 => isK S v20 7 ∧ (wp_X7_add S M19 v20 u5 <| fun M22 => wGetR S M22 u0 11 0 fun v23 => wGet S M22 v23 7 1 fun v25 => post v25 M22)))))) (wC (-1) fun v27 => post v27 M5))
set_option maxHeartbeats 4000000 in
set_option maxRecDepth 100000 in
theorem c_X11_feed (l : Launch) (D : va_G) (G : Gt) (S : Sh) (M : Mm) (xl0 : Int) (zl1 : Int32) (zl2 : Int32) (zl3 : Int32) (zl4 : Int32) (zl5 : Int32) (post : Int → Mm → Prop) (h : wp_X11_feed S M xl0 zl1.toInt zl2.toInt zl3.toInt zl4.toInt zl5.toInt post) : Met l yX11_feed (cw_X11_feed :: gw) RM_X11_feed (va_Pc [.ref (adr G xl0), .int zl1, .int zl2, .int zl3, .int zl4, .int zl5] (fun U => KN D G U ∧ Wd D G S M U.heap)) (QI D G S post) 0 0 (aG G) := by
  refine Met.ofW (cc := cX11_feed) (maxL := 6) (ret := (some .int)) (by decide) rfl ?_
  intro p e s m args below meth c s₁ B hml hv
  obtain ⟨rfl, hK, hP⟩ := hv
  have hx := B.exec
  have hb := B.bytes
  have hr := B.returns
  have hts := atoms_spec (ws := cw_X11_feed :: gw) B.pre
  have hown : s.vm.findClass RX11 = some m.cls := findClass_of_methodNamed B.named
  have hlocks := B.notSynchronized
  have hS : va_S (aG G) s.heap s.heap [] := va_S.rf
  have C : Cx p s m ([.ref (adr G xl0), .int zl1, .int zl2, .int zl3, .int zl4, .int zl5] : List Value).toArray meth c D G cX11_feed 6 (some .int) (cw_X11_feed :: gw) RX11 := ⟨hx, hb, hr, hlocks, hml, hown, hts, hK⟩
  have hl := lv_entry ([.ref (adr G xl0), .int zl1, .int zl2, .int zl3, .int zl4, .int zl5]) (n := 6) (Nat.le_of_ble_eq_true rfl)
  rw [lg_entry_eq]
  generalize (lg_sl ([.ref (adr G xl0), .int zl1, .int zl2, .int zl3, .int zl4, .int zl5]) ++ List.replicate (6 - (lg_sl ([.ref (adr G xl0), .int zl1, .int zl2, .int zl3, .int zl4, .int zl5])).length) Slot.unset).toArray = ls at hl ⊢
  have hl : lv_has ls 6 [(0, .ref (adr G xl0)), (1, .int zl1), (2, .int zl2), (3, .int zl3), (4, .int zl4), (5, .int zl5)] := hl
  unfold wp_X11_feed at h
  refine lv_aload_n hx hb dX11_feed_0 rfl (lv_at hl 0 rfl) ?_
  refine r_getr (C := RX11) (T := TX11) (N := 16) hx hb hts (fun w h => List.mem_cons_of_mem _ (iX11 w h)) hown hK hP rfl (by decide) rfl 0 (by decide) (hts _ (List.mem_cons_of_mem _ kw_491)) (fun _ h9 => h9) dX11_feed_1 (by decide) h (fun x2 h => ?_)
  refine r_bipush hx hb dX11_feed_4 (by decide) h (fun z4 h => ?_)
  refine q_Vi hx hb hml hown hts hK hP hS (c_X7_hasRoomFor l D G S _ x2 z4 _ h.2) ⟨callB_of 1 hts (gw_good kw_547) rfl rfl rfl (hts _ (List.mem_cons_of_mem _ kw_2)) (hts _ (List.mem_cons_of_mem _ kw_544)) hd_X7_hasRoomFor ⟨Nat.le_of_ble_eq_true rfl, Nat.le_of_ble_eq_true rfl⟩, (hts _ (List.mem_cons_of_mem _ kw_545)), (hts _ (List.mem_cons_of_mem _ kw_546))⟩ h.1 (ci := 7) rfl (by decide) rfl hl.1 rfl (lv_room (Nat.le_of_ble_eq_true rfl)) dX11_feed_6 ⟨Nat.zero_le _, Nat.zero_le _⟩ (fun z7 M5 H locs h hP hS => ?_)
  refine r_if_ne (tgt := 14) hx hb dX11_feed_9 (by decide) h (fun h => ?_) (fun h => ?_)
  · refine lv_aload_n hx hb dX11_feed_14 rfl (lv_at hl 0 rfl) ?_
    refine r_getr (C := RX11) (T := TX11) (N := 16) hx hb hts (fun w h => List.mem_cons_of_mem _ (iX11 w h)) hown hK hP rfl (by decide) rfl 0 (by decide) (hts _ (List.mem_cons_of_mem _ kw_491)) (fun _ h9 => h9) dX11_feed_15 (by decide) h (fun x9 h => ?_)
    refine lv_iload_n hx hb dX11_feed_18 rfl (lv_at hl 1 rfl) ?_
    refine q_Vv hx hb hml hown hts hK hP hS (c_X7_add l D G S _ x9 zl1 _ h.2) ⟨callB_of 1 hts (gw_good kw_551) rfl rfl rfl (hts _ (List.mem_cons_of_mem _ kw_2)) (hts _ (List.mem_cons_of_mem _ kw_548)) hd_X7_add ⟨Nat.le_of_ble_eq_true rfl, Nat.le_of_ble_eq_true rfl⟩, (hts _ (List.mem_cons_of_mem _ kw_549)), (hts _ (List.mem_cons_of_mem _ kw_550))⟩ h.1 (ci := 7) rfl (by decide) rfl hl.1 rfl (lv_room (Nat.le_of_ble_eq_true rfl)) dX11_feed_19 ⟨Nat.zero_le _, Nat.zero_le _⟩ (fun M10 H locs h hP hS => ?_)
    refine lv_aload_n hx hb dX11_feed_22 rfl (lv_at hl 0 rfl) ?_
    refine r_getr (C := RX11) (T := TX11) (N := 16) hx hb hts (fun w h => List.mem_cons_of_mem _ (iX11 w h)) hown hK hP rfl (by decide) rfl 0 (by decide) (hts _ (List.mem_cons_of_mem _ kw_491)) (fun _ h9 => h9) dX11_feed_23 (by decide) h (fun x12 h => ?_)
    refine lv_iload_n hx hb dX11_feed_26 rfl (lv_at hl 2 rfl) ?_
    refine q_Vv hx hb hml hown hts hK hP hS (c_X7_add l D G S _ x12 zl2 _ h.2) ⟨callB_of 1 hts (gw_good kw_551) rfl rfl rfl (hts _ (List.mem_cons_of_mem _ kw_2)) (hts _ (List.mem_cons_of_mem _ kw_548)) hd_X7_add ⟨Nat.le_of_ble_eq_true rfl, Nat.le_of_ble_eq_true rfl⟩, (hts _ (List.mem_cons_of_mem _ kw_549)), (hts _ (List.mem_cons_of_mem _ kw_550))⟩ h.1 (ci := 7) rfl (by decide) rfl hl.1 rfl (lv_room (Nat.le_of_ble_eq_true rfl)) dX11_feed_27 ⟨Nat.zero_le _, Nat.zero_le _⟩ (fun M13 H locs h hP hS => ?_)
    refine lv_aload_n hx hb dX11_feed_30 rfl (lv_at hl 0 rfl) ?_
    refine r_getr (C := RX11) (T := TX11) (N := 16) hx hb hts (fun w h => List.mem_cons_of_mem _ (iX11 w h)) hown hK hP rfl (by decide) rfl 0 (by decide) (hts _ (List.mem_cons_of_mem _ kw_491)) (fun _ h9 => h9) dX11_feed_31 (by decide) h (fun x15 h => ?_)
    refine lv_iload_n hx hb dX11_feed_34 rfl (lv_at hl 3 rfl) ?_
    refine q_Vv hx hb hml hown hts hK hP hS (c_X7_add l D G S _ x15 zl3 _ h.2) ⟨callB_of 1 hts (gw_good kw_551) rfl rfl rfl (hts _ (List.mem_cons_of_mem _ kw_2)) (hts _ (List.mem_cons_of_mem _ kw_548)) hd_X7_add ⟨Nat.le_of_ble_eq_true rfl, Nat.le_of_ble_eq_true rfl⟩, (hts _ (List.mem_cons_of_mem _ kw_549)), (hts _ (List.mem_cons_of_mem _ kw_550))⟩ h.1 (ci := 7) rfl (by decide) rfl hl.1 rfl (lv_room (Nat.le_of_ble_eq_true rfl)) dX11_feed_35 ⟨Nat.zero_le _, Nat.zero_le _⟩ (fun M16 H locs h hP hS => ?_)
    refine lv_aload_n hx hb dX11_feed_38 rfl (lv_at hl 0 rfl) ?_
    refine r_getr (C := RX11) (T := TX11) (N := 16) hx hb hts (fun w h => List.mem_cons_of_mem _ (iX11 w h)) hown hK hP rfl (by decide) rfl 0 (by decide) (hts _ (List.mem_cons_of_mem _ kw_491)) (fun _ h9 => h9) dX11_feed_39 (by decide) h (fun x18 h => ?_)
    refine lv_iload hx hb dX11_feed_42 (lv_at hl 4 rfl) ?_
    refine q_Vv hx hb hml hown hts hK hP hS (c_X7_add l D G S _ x18 zl4 _ h.2) ⟨callB_of 1 hts (gw_good kw_551) rfl rfl rfl (hts _ (List.mem_cons_of_mem _ kw_2)) (hts _ (List.mem_cons_of_mem _ kw_548)) hd_X7_add ⟨Nat.le_of_ble_eq_true rfl, Nat.le_of_ble_eq_true rfl⟩, (hts _ (List.mem_cons_of_mem _ kw_549)), (hts _ (List.mem_cons_of_mem _ kw_550))⟩ h.1 (ci := 7) rfl (by decide) rfl hl.1 rfl (lv_room (Nat.le_of_ble_eq_true rfl)) dX11_feed_44 ⟨Nat.zero_le _, Nat.zero_le _⟩ (fun M19 H locs h hP hS => ?_)
    refine lv_aload_n hx hb dX11_feed_47 rfl (lv_at hl 0 rfl) ?_
    refine r_getr (C := RX11) (T := TX11) (N := 16) hx hb hts (fun w h => List.mem_cons_of_mem _ (iX11 w h)) hown hK hP rfl (by decide) rfl 0 (by decide) (hts _ (List.mem_cons_of_mem _ kw_491)) (fun _ h9 => h9) dX11_feed_48 (by decide) h (fun x21 h => ?_)
    refine lv_iload hx hb dX11_feed_51 (lv_at hl 5 rfl) ?_
    refine q_Vv hx hb hml hown hts hK hP hS (c_X7_add l D G S _ x21 zl5 _ h.2) ⟨callB_of 1 hts (gw_good kw_551) rfl rfl rfl (hts _ (List.mem_cons_of_mem _ kw_2)) (hts _ (List.mem_cons_of_mem _ kw_548)) hd_X7_add ⟨Nat.le_of_ble_eq_true rfl, Nat.le_of_ble_eq_true rfl⟩, (hts _ (List.mem_cons_of_mem _ kw_549)), (hts _ (List.mem_cons_of_mem _ kw_550))⟩ h.1 (ci := 7) rfl (by decide) rfl hl.1 rfl (lv_room (Nat.le_of_ble_eq_true rfl)) dX11_feed_53 ⟨Nat.zero_le _, Nat.zero_le _⟩ (fun M22 H locs h hP hS => ?_)
    refine lv_aload_n hx hb dX11_feed_56 rfl (lv_at hl 0 rfl) ?_
    refine r_getr (C := RX11) (T := TX11) (N := 16) hx hb hts (fun w h => List.mem_cons_of_mem _ (iX11 w h)) hown hK hP rfl (by decide) rfl 0 (by decide) (hts _ (List.mem_cons_of_mem _ kw_491)) (fun _ h9 => h9) dX11_feed_57 (by decide) h (fun x24 h => ?_)
    refine r_getiN (C := RX7) (T := TX7) (N := 5) hx hb hts (fun w h => List.mem_cons_of_mem _ (iX7 w h)) hown hK hP rfl (by decide) rfl 1 (by decide) (nw_0 hK) (fun _ h9 => h9) dX11_feed_60 (by decide) h (fun z26 h => ?_)
    exact r_iret hx hb hr hlocks hP hS dX11_feed_63 h
  · refine r_iconst hx hb dX11_feed_12 (by decide) h (fun z28 h => ?_)
    exact r_iret hx hb hr hlocks hP hS dX11_feed_13 h
/-! TurningMilk.end(I)I -/
abbrev RM_X11_end : Room := { frames := 1, cells := 0, slots := 0, locals := 40 }
def cw_X11_end : Cond := Cond.code yX11_end cX11_end 2 (Option.some FieldType.int)
theorem hd_X11_end : yX11_end.cls ≠ "java/lang/invoke/MethodHandle" ∧ yX11_end.cls ≠ "java/lang/invoke/VarHandle" ∧ (parseMethodDescriptor yX11_end.desc).map (fun d => d.parameters.length) = some 1 := by decide +kernel
theorem dX11_end_0 : decode cX11_end 0 = .ok (.iload_n 1, 1) := by decide +kernel
theorem dX11_end_1 : decode cX11_end 1 = .ok (.ifCond .lt 14, 3) := by decide +kernel
theorem dX11_end_4 : decode cX11_end 4 = .ok (.iload_n 1, 1) := by decide +kernel
theorem dX11_end_5 : decode cX11_end 5 = .ok (.aload_n 0, 1) := by decide +kernel
theorem dX11_end_6 : decode cX11_end 6 = .ok (.getfield 10, 3) := by decide +kernel
theorem dX11_end_9 : decode cX11_end 9 = .ok (.getfield 116, 3) := by decide +kernel
theorem dX11_end_12 : decode cX11_end 12 = .ok (.if_icmp .le 5, 3) := by decide +kernel
theorem dX11_end_15 : decode cX11_end 15 = .ok (.iconst (-1), 1) := by decide +kernel
theorem dX11_end_16 : decode cX11_end 16 = .ok (.ireturn, 1) := by decide +kernel
theorem dX11_end_17 : decode cX11_end 17 = .ok (.aload_n 0, 1) := by decide +kernel
theorem dX11_end_18 : decode cX11_end 18 = .ok (.getfield 10, 3) := by decide +kernel
theorem dX11_end_21 : decode cX11_end 21 = .ok (.iload_n 1, 1) := by decide +kernel
theorem dX11_end_22 : decode cX11_end 22 = .ok (.putfield 116, 3) := by decide +kernel
theorem dX11_end_25 : decode cX11_end 25 = .ok (.iload_n 1, 1) := by decide +kernel
theorem dX11_end_26 : decode cX11_end 26 = .ok (.ireturn, 1) := by decide +kernel
def wp_X11_end (S : Sh) (M : Mm) (u0 : Int) (u1 : Int) (post : Int → Mm → Prop) : Prop := wIf (u1 < 0) (wC (-1) fun v1 => post v1 M) (wGetR S M u0 11 0 fun v3 => wGet S M v3 7 1 fun v5 => wIf (u1 ≤ v5) (wGetR S M u0 11 0 fun v7 => wPut S M v7 7 1 u1 fun M9 => post u1 M9) (wC (-1) fun v10 => post v10 M))
set_option maxHeartbeats 4000000 in
set_option maxRecDepth 100000 in
theorem c_X11_end (l : Launch) (D : va_G) (G : Gt) (S : Sh) (M : Mm) (xl0 : Int) (zl1 : Int32) (post : Int → Mm → Prop) (h : wp_X11_end S M xl0 zl1.toInt post) : Met l yX11_end (cw_X11_end :: gw) RM_X11_end (va_Pc [.ref (adr G xl0), .int zl1] (fun U => KN D G U ∧ Wd D G S M U.heap)) (QI D G S post) 0 0 (aG G) := by
  refine Met.ofW (cc := cX11_end) (maxL := 2) (ret := (some .int)) (by decide) rfl ?_
  intro p e s m args below meth c s₁ B hml hv
  obtain ⟨rfl, hK, hP⟩ := hv
  have hx := B.exec
  have hb := B.bytes
  have hr := B.returns
  have hts := atoms_spec (ws := cw_X11_end :: gw) B.pre
  have hown : s.vm.findClass RX11 = some m.cls := findClass_of_methodNamed B.named
  have hlocks := B.notSynchronized
  have hS : va_S (aG G) s.heap s.heap [] := va_S.rf
  have C : Cx p s m ([.ref (adr G xl0), .int zl1] : List Value).toArray meth c D G cX11_end 2 (some .int) (cw_X11_end :: gw) RX11 := ⟨hx, hb, hr, hlocks, hml, hown, hts, hK⟩
  have hl := lv_entry ([.ref (adr G xl0), .int zl1]) (n := 2) (Nat.le_of_ble_eq_true rfl)
  rw [lg_entry_eq]
  generalize (lg_sl ([.ref (adr G xl0), .int zl1]) ++ List.replicate (2 - (lg_sl ([.ref (adr G xl0), .int zl1])).length) Slot.unset).toArray = ls at hl ⊢
  have hl : lv_has ls 2 [(0, .ref (adr G xl0)), (1, .int zl1)] := hl
  unfold wp_X11_end at h
  refine lv_iload_n hx hb dX11_end_0 rfl (lv_at hl 1 rfl) ?_
  refine r_if_lt (tgt := 15) hx hb dX11_end_1 (by decide) h (fun h => ?_) (fun h => ?_)
  · refine r_iconst hx hb dX11_end_15 (by decide) h (fun z2 h => ?_)
    exact r_iret hx hb hr hlocks hP hS dX11_end_16 h
  · refine lv_iload_n hx hb dX11_end_4 rfl (lv_at hl 1 rfl) ?_
    refine lv_aload_n hx hb dX11_end_5 rfl (lv_at hl 0 rfl) ?_
    refine r_getr (C := RX11) (T := TX11) (N := 16) hx hb hts (fun w h => List.mem_cons_of_mem _ (iX11 w h)) hown hK hP rfl (by decide) rfl 0 (by decide) (hts _ (List.mem_cons_of_mem _ kw_491)) (fun _ h9 => h9) dX11_end_6 (by decide) h (fun x4 h => ?_)
    refine r_getiN (C := RX7) (T := TX7) (N := 5) hx hb hts (fun w h => List.mem_cons_of_mem _ (iX7 w h)) hown hK hP rfl (by decide) rfl 1 (by decide) (nw_0 hK) (fun _ h9 => h9) dX11_end_9 (by decide) h (fun z6 h => ?_)
    refine r_icmp_le (tgt := 17) hx hb dX11_end_12 (by decide) h (fun h => ?_) (fun h => ?_)
    · refine lv_aload_n hx hb dX11_end_17 rfl (lv_at hl 0 rfl) ?_
      refine r_getr (C := RX11) (T := TX11) (N := 16) hx hb hts (fun w h => List.mem_cons_of_mem _ (iX11 w h)) hown hK hP rfl (by decide) rfl 0 (by decide) (hts _ (List.mem_cons_of_mem _ kw_491)) (fun _ h9 => h9) dX11_end_18 (by decide) h (fun x8 h => ?_)
      refine lv_iload_n hx hb dX11_end_21 rfl (lv_at hl 1 rfl) ?_
      refine r_putiN (C := RX7) (T := TX7) (N := 5) hx hb hts (fun w h => List.mem_cons_of_mem _ (iX7 w h)) hown hK hP tyX7 tyX7_ok nmX7 hS rfl (by decide) rfl 1 (by decide) (nw_0 hK) (fun _ h9 => h9) rfl (tyX7_ok 1 (by decide)) rfl rfl dX11_end_22 (by decide) h (fun M9 H locs h hP hS => ?_)
      refine lv_iload_n hx hb dX11_end_25 rfl (lv_at hl 1 rfl) ?_
      exact r_iret hx hb hr hlocks hP hS dX11_end_26 h
    · refine r_iconst hx hb dX11_end_15 (by decide) h (fun z11 h => ?_)
      exact r_iret hx hb hr hlocks hP hS dX11_end_16 h
/-! TurningMilk$Told.clear()V -/
abbrev RM_X8_clear : Room := { frames := 2, cells := 0, slots := 0, locals := 63 }
def cw_X8_clear : Cond := Cond.code yX8_clear cX8_clear 1 (Option.none : Option FieldType)
theorem hd_X8_clear : yX8_clear.cls ≠ "java/lang/invoke/MethodHandle" ∧ yX8_clear.cls ≠ "java/lang/invoke/VarHandle" ∧ (parseMethodDescriptor yX8_clear.desc).map (fun d => d.parameters.length) = some 0 := by decide +kernel
theorem dX8_clear_0 : decode cX8_clear 0 = .ok (.aload_n 0, 1) := by decide +kernel
theorem dX8_clear_1 : decode cX8_clear 1 = .ok (.iconst 0, 1) := by decide +kernel
theorem dX8_clear_2 : decode cX8_clear 2 = .ok (.putfield 45, 3) := by decide +kernel
theorem dX8_clear_5 : decode cX8_clear 5 = .ok (.aload_n 0, 1) := by decide +kernel
theorem dX8_clear_6 : decode cX8_clear 6 = .ok (.iconst 0, 1) := by decide +kernel
theorem dX8_clear_7 : decode cX8_clear 7 = .ok (.putfield 49, 3) := by decide +kernel
theorem dX8_clear_10 : decode cX8_clear 10 = .ok (.aload_n 0, 1) := by decide +kernel
theorem dX8_clear_11 : decode cX8_clear 11 = .ok (.iconst 0, 1) := by decide +kernel
theorem dX8_clear_12 : decode cX8_clear 12 = .ok (.putfield 52, 3) := by decide +kernel
theorem dX8_clear_15 : decode cX8_clear 15 = .ok (.aload_n 0, 1) := by decide +kernel
theorem dX8_clear_16 : decode cX8_clear 16 = .ok (.iconst 0, 1) := by decide +kernel
theorem dX8_clear_17 : decode cX8_clear 17 = .ok (.putfield 55, 3) := by decide +kernel
theorem dX8_clear_20 : decode cX8_clear 20 = .ok (.aload_n 0, 1) := by decide +kernel
theorem dX8_clear_21 : decode cX8_clear 21 = .ok (.iconst 0, 1) := by decide +kernel
theorem dX8_clear_22 : decode cX8_clear 22 = .ok (.putfield 58, 3) := by decide +kernel
theorem dX8_clear_25 : decode cX8_clear 25 = .ok (.aload_n 0, 1) := by decide +kernel
theorem dX8_clear_26 : decode cX8_clear 26 = .ok (.iconst 0, 1) := by decide +kernel
theorem dX8_clear_27 : decode cX8_clear 27 = .ok (.putfield 61, 3) := by decide +kernel
theorem dX8_clear_30 : decode cX8_clear 30 = .ok (.aload_n 0, 1) := by decide +kernel
theorem dX8_clear_31 : decode cX8_clear 31 = .ok (.iconst 0, 1) := by decide +kernel
theorem dX8_clear_32 : decode cX8_clear 32 = .ok (.putfield 64, 3) := by decide +kernel
theorem dX8_clear_35 : decode cX8_clear 35 = .ok (.aload_n 0, 1) := by decide +kernel
theorem dX8_clear_36 : decode cX8_clear 36 = .ok (.iconst 0, 1) := by decide +kernel
theorem dX8_clear_37 : decode cX8_clear 37 = .ok (.putfield 67, 3) := by decide +kernel
theorem dX8_clear_40 : decode cX8_clear 40 = .ok (.aload_n 0, 1) := by decide +kernel
theorem dX8_clear_41 : decode cX8_clear 41 = .ok (.getfield 9, 3) := by decide +kernel
theorem dX8_clear_44 : decode cX8_clear 44 = .ok (.iconst 0, 1) := by decide +kernel
theorem dX8_clear_45 : decode cX8_clear 45 = .ok (.invokestatic 70, 3) := by decide +kernel
theorem dX8_clear_48 : decode cX8_clear 48 = .ok (.return_, 1) := by decide +kernel
def wp_X8_clear (S : Sh) (M : Mm) (u0 : Int) (post : Mm → Prop) : Prop := wC 0 fun v1 => wPut S M u0 8 0 v1 fun M3 => wC 0 fun v4 => wPut S M3 u0 8 1 v4 fun M6 => wC 0 fun v7 => wPut S M6 u0 8 2 v7 fun M9 => wC 0 fun v10 => wPut S M9 u0 8 3 v10 fun M12 => wC 0 fun v13 => wPut S M12 u0 8 4 v13 fun M15 => wC 0 fun v16 => wPut S M15 u0 8 5 v16 fun M18 => wC 0 fun v19 => wPut S M18 u0 8 6 v19 fun M21 => wC 0 fun v22 => wPut S M21 u0 8 7 v22 fun M24 => wGetR S M24 u0 8 8 fun v25 => wC 0 fun v27 => wp_J7_fill_53178 S M24 v25 v27 <| fun M29 => post M29
set_option maxHeartbeats 4000000 in
set_option maxRecDepth 100000 in
theorem c_X8_clear (l : Launch) (D : va_G) (G : Gt) (S : Sh) (M : Mm) (xl0 : Int) (post : Mm → Prop) (h : wp_X8_clear S M xl0 post) : Met l yX8_clear (cw_X8_clear :: gw) RM_X8_clear (va_Pc [.ref (adr G xl0)] (fun U => KN D G U ∧ Wd D G S M U.heap)) (QV D G S post) 0 0 (aG G) := by
  refine Met.ofW (cc := cX8_clear) (maxL := 1) (ret := none) (by decide) rfl ?_
  intro p e s m args below meth c s₁ B hml hv
  obtain ⟨rfl, hK, hP⟩ := hv
  have hx := B.exec
  have hb := B.bytes
  have hr := B.returns
  have hts := atoms_spec (ws := cw_X8_clear :: gw) B.pre
  have hown : s.vm.findClass RX8 = some m.cls := findClass_of_methodNamed B.named
  have hlocks := B.notSynchronized
  have hS : va_S (aG G) s.heap s.heap [] := va_S.rf
  have C : Cx p s m ([.ref (adr G xl0)] : List Value).toArray meth c D G cX8_clear 1 none (cw_X8_clear :: gw) RX8 := ⟨hx, hb, hr, hlocks, hml, hown, hts, hK⟩
  have hl := lv_entry ([.ref (adr G xl0)]) (n := 1) (Nat.le_of_ble_eq_true rfl)
  rw [lg_entry_eq]
  generalize (lg_sl ([.ref (adr G xl0)]) ++ List.replicate (1 - (lg_sl ([.ref (adr G xl0)])).length) Slot.unset).toArray = ls at hl ⊢
  have hl : lv_has ls 1 [(0, .ref (adr G xl0))] := hl
  unfold wp_X8_clear at h
  refine lv_aload_n hx hb dX8_clear_0 rfl (lv_at hl 0 rfl) ?_
  refine r_iconst hx hb dX8_clear_1 (by decide) h (fun z2 h => ?_)
  refine r_puti (C := RX8) (T := TX8) (N := 19) hx hb hts (fun w h => List.mem_cons_of_mem _ (iX8 w h)) hown hK hP tyX8 tyX8_ok nmX8 hS rfl (by decide) rfl 0 (by decide) (hts _ (List.mem_cons_of_mem _ kw_67)) (fun _ h9 => h9) rfl (tyX8_ok 0 (by decide)) rfl rfl dX8_clear_2 (by decide) h (fun M3 H locs h hP hS => ?_)
  refine lv_aload_n hx hb dX8_clear_5 rfl (lv_at hl 0 rfl) ?_
  refine r_iconst hx hb dX8_clear_6 (by decide) h (fun z5 h => ?_)
  refine r_puti (C := RX8) (T := TX8) (N := 19) hx hb hts (fun w h => List.mem_cons_of_mem _ (iX8 w h)) hown hK hP tyX8 tyX8_ok nmX8 hS rfl (by decide) rfl 1 (by decide) (hts _ (List.mem_cons_of_mem _ kw_71)) (fun _ h9 => h9) rfl (tyX8_ok 1 (by decide)) rfl rfl dX8_clear_7 (by decide) h (fun M6 H locs h hP hS => ?_)
  refine lv_aload_n hx hb dX8_clear_10 rfl (lv_at hl 0 rfl) ?_
  refine r_iconst hx hb dX8_clear_11 (by decide) h (fun z8 h => ?_)
  refine r_puti (C := RX8) (T := TX8) (N := 19) hx hb hts (fun w h => List.mem_cons_of_mem _ (iX8 w h)) hown hK hP tyX8 tyX8_ok nmX8 hS rfl (by decide) rfl 2 (by decide) (hts _ (List.mem_cons_of_mem _ kw_74)) (fun _ h9 => h9) rfl (tyX8_ok 2 (by decide)) rfl rfl dX8_clear_12 (by decide) h (fun M9 H locs h hP hS => ?_)
  refine lv_aload_n hx hb dX8_clear_15 rfl (lv_at hl 0 rfl) ?_
  refine r_iconst hx hb dX8_clear_16 (by decide) h (fun z11 h => ?_)
  refine r_puti (C := RX8) (T := TX8) (N := 19) hx hb hts (fun w h => List.mem_cons_of_mem _ (iX8 w h)) hown hK hP tyX8 tyX8_ok nmX8 hS rfl (by decide) rfl 3 (by decide) (hts _ (List.mem_cons_of_mem _ kw_79)) (fun _ h9 => h9) rfl (tyX8_ok 3 (by decide)) rfl rfl dX8_clear_17 (by decide) h (fun M12 H locs h hP hS => ?_)
  refine lv_aload_n hx hb dX8_clear_20 rfl (lv_at hl 0 rfl) ?_
  refine r_iconst hx hb dX8_clear_21 (by decide) h (fun z14 h => ?_)
  refine r_puti (C := RX8) (T := TX8) (N := 19) hx hb hts (fun w h => List.mem_cons_of_mem _ (iX8 w h)) hown hK hP tyX8 tyX8_ok nmX8 hS rfl (by decide) rfl 4 (by decide) (hts _ (List.mem_cons_of_mem _ kw_81)) (fun _ h9 => h9) rfl (tyX8_ok 4 (by decide)) rfl rfl dX8_clear_22 (by decide) h (fun M15 H locs h hP hS => ?_)
  refine lv_aload_n hx hb dX8_clear_25 rfl (lv_at hl 0 rfl) ?_
  refine r_iconst hx hb dX8_clear_26 (by decide) h (fun z17 h => ?_)
  refine r_puti (C := RX8) (T := TX8) (N := 19) hx hb hts (fun w h => List.mem_cons_of_mem _ (iX8 w h)) hown hK hP tyX8 tyX8_ok nmX8 hS rfl (by decide) rfl 5 (by decide) (hts _ (List.mem_cons_of_mem _ kw_89)) (fun _ h9 => h9) rfl (tyX8_ok 5 (by decide)) rfl rfl dX8_clear_27 (by decide) h (fun M18 H locs h hP hS => ?_)
  refine lv_aload_n hx hb dX8_clear_30 rfl (lv_at hl 0 rfl) ?_
  refine r_iconst hx hb dX8_clear_31 (by decide) h (fun z20 h => ?_)
  refine r_puti (C := RX8) (T := TX8) (N := 19) hx hb hts (fun w h => List.mem_cons_of_mem _ (iX8 w h)) hown hK hP tyX8 tyX8_ok nmX8 hS rfl (by decide) rfl 6 (by decide) (hts _ (List.mem_cons_of_mem _ kw_93)) (fun _ h9 => h9) rfl (tyX8_ok 6 (by decide)) rfl rfl dX8_clear_32 (by decide) h (fun M21 H locs h hP hS => ?_)
  refine lv_aload_n hx hb dX8_clear_35 rfl (lv_at hl 0 rfl) ?_
  refine r_iconst hx hb dX8_clear_36 (by decide) h (fun z23 h => ?_)
  refine r_puti (C := RX8) (T := TX8) (N := 19) hx hb hts (fun w h => List.mem_cons_of_mem _ (iX8 w h)) hown hK hP tyX8 tyX8_ok nmX8 hS rfl (by decide) rfl 7 (by decide) (hts _ (List.mem_cons_of_mem _ kw_96)) (fun _ h9 => h9) rfl (tyX8_ok 7 (by decide)) rfl rfl dX8_clear_37 (by decide) h (fun M24 H locs h hP hS => ?_)
  refine lv_aload_n hx hb dX8_clear_40 rfl (lv_at hl 0 rfl) ?_
  refine r_getr (C := RX8) (T := TX8) (N := 19) hx hb hts (fun w h => List.mem_cons_of_mem _ (iX8 w h)) hown hK hP rfl (by decide) rfl 8 (by decide) (hts _ (List.mem_cons_of_mem _ kw_99)) (fun _ h9 => h9) dX8_clear_41 (by decide) h (fun x26 h => ?_)
  refine r_iconst hx hb dX8_clear_44 (by decide) h (fun z28 h => ?_)
  refine q_Sv hx hb hml hown hts hK hP hS (c_J7_fill_53178 l D G S _ x26 z28 _ h) ⟨callB_of 2 hts (gw_good kw_178) rfl rfl rfl (hts _ (List.mem_cons_of_mem _ kw_6)) (hts _ (List.mem_cons_of_mem _ kw_568)) hd_J7_fill_53178 ⟨Nat.le_of_ble_eq_true rfl, Nat.le_of_ble_eq_true rfl⟩, (hts _ (List.mem_cons_of_mem _ kw_177))⟩ rfl hl.1 rfl (lv_room (Nat.le_of_ble_eq_true rfl)) dX8_clear_45 ⟨Nat.zero_le _, Nat.zero_le _⟩ (fun M29 H locs h hP hS => ?_)
  exact r_vret hx hb hr hlocks hP hS dX8_clear_48 h
/-! TurningMilk$State.clear()V -/
abbrev RM_X5_clear : Room := { frames := 2, cells := 0, slots := 0, locals := 63 }
def cw_X5_clear : Cond := Cond.code yX5_clear cX5_clear 1 (Option.none : Option FieldType)
theorem hd_X5_clear : yX5_clear.cls ≠ "java/lang/invoke/MethodHandle" ∧ yX5_clear.cls ≠ "java/lang/invoke/VarHandle" ∧ (parseMethodDescriptor yX5_clear.desc).map (fun d => d.parameters.length) = some 0 := by decide +kernel
theorem dX5_clear_0 : decode cX5_clear 0 = .ok (.aload_n 0, 1) := by decide +kernel
theorem dX5_clear_1 : decode cX5_clear 1 = .ok (.iconst 0, 1) := by decide +kernel
theorem dX5_clear_2 : decode cX5_clear 2 = .ok (.putfield 39, 3) := by decide +kernel
theorem dX5_clear_5 : decode cX5_clear 5 = .ok (.aload_n 0, 1) := by decide +kernel
theorem dX5_clear_6 : decode cX5_clear 6 = .ok (.iconst 0, 1) := by decide +kernel
theorem dX5_clear_7 : decode cX5_clear 7 = .ok (.putfield 43, 3) := by decide +kernel
theorem dX5_clear_10 : decode cX5_clear 10 = .ok (.aload_n 0, 1) := by decide +kernel
theorem dX5_clear_11 : decode cX5_clear 11 = .ok (.getfield 9, 3) := by decide +kernel
theorem dX5_clear_14 : decode cX5_clear 14 = .ok (.iconst 0, 1) := by decide +kernel
theorem dX5_clear_15 : decode cX5_clear 15 = .ok (.invokestatic 33, 3) := by decide +kernel
theorem dX5_clear_18 : decode cX5_clear 18 = .ok (.aload_n 0, 1) := by decide +kernel
theorem dX5_clear_19 : decode cX5_clear 19 = .ok (.getfield 15, 3) := by decide +kernel
theorem dX5_clear_22 : decode cX5_clear 22 = .ok (.iconst 0, 1) := by decide +kernel
theorem dX5_clear_23 : decode cX5_clear 23 = .ok (.invokestatic 33, 3) := by decide +kernel
theorem dX5_clear_26 : decode cX5_clear 26 = .ok (.aload_n 0, 1) := by decide +kernel
theorem dX5_clear_27 : decode cX5_clear 27 = .ok (.getfield 18, 3) := by decide +kernel
theorem dX5_clear_30 : decode cX5_clear 30 = .ok (.iconst 0, 1) := by decide +kernel
theorem dX5_clear_31 : decode cX5_clear 31 = .ok (.invokestatic 33, 3) := by decide +kernel
theorem dX5_clear_34 : decode cX5_clear 34 = .ok (.aload_n 0, 1) := by decide +kernel
theorem dX5_clear_35 : decode cX5_clear 35 = .ok (.getfield 21, 3) := by decide +kernel
theorem dX5_clear_38 : decode cX5_clear 38 = .ok (.iconst (-1), 1) := by decide +kernel
theorem dX5_clear_39 : decode cX5_clear 39 = .ok (.invokestatic 33, 3) := by decide +kernel
theorem dX5_clear_42 : decode cX5_clear 42 = .ok (.aload_n 0, 1) := by decide +kernel
theorem dX5_clear_43 : decode cX5_clear 43 = .ok (.getfield 24, 3) := by decide +kernel
theorem dX5_clear_46 : decode cX5_clear 46 = .ok (.iconst (-1), 1) := by decide +kernel
theorem dX5_clear_47 : decode cX5_clear 47 = .ok (.invokestatic 33, 3) := by decide +kernel
theorem dX5_clear_50 : decode cX5_clear 50 = .ok (.aload_n 0, 1) := by decide +kernel
theorem dX5_clear_51 : decode cX5_clear 51 = .ok (.getfield 27, 3) := by decide +kernel
theorem dX5_clear_54 : decode cX5_clear 54 = .ok (.iconst 0, 1) := by decide +kernel
theorem dX5_clear_55 : decode cX5_clear 55 = .ok (.invokestatic 33, 3) := by decide +kernel
theorem dX5_clear_58 : decode cX5_clear 58 = .ok (.aload_n 0, 1) := by decide +kernel
theorem dX5_clear_59 : decode cX5_clear 59 = .ok (.getfield 30, 3) := by decide +kernel
theorem dX5_clear_62 : decode cX5_clear 62 = .ok (.iconst (-1), 1) := by decide +kernel
theorem dX5_clear_63 : decode cX5_clear 63 = .ok (.invokestatic 33, 3) := by decide +kernel
theorem dX5_clear_66 : decode cX5_clear 66 = .ok (.return_, 1) := by decide +kernel
def wp_X5_clear (S : Sh) (M : Mm) (u0 : Int) (post : Mm → Prop) : Prop := wC 0 fun v1 => wPut S M u0 5 0 v1 fun M3 => wC 0 fun v4 => wPut S M3 u0 5 1 v4 fun M6 => wGetR S M6 u0 5 2 fun v7 => wC 0 fun v9 => wp_J7_fill_53178 S M6 v7 v9 <| fun M11 => wGetR S M11 u0 5 3 fun v12 => wC 0 fun v14 => wp_J7_fill_53178 S M11 v12 v14 <| fun M16 => wGetR S M16 u0 5 4 fun v17 => wC 0 fun v19 => wp_J7_fill_53178 S M16 v17 v19 <| fun M21 => wGetR S M21 u0 5 5 fun v22 => wC (-1) fun v24 => wp_J7_fill_53178 S M21 v22 v24 <| fun M26 => wGetR S M26 u0 5 6 fun v27 => wC (-1) fun v29 => wp_J7_fill_53178 S M26 v27 v29 <| fun M31 => wGetR S M31 u0 5 7 fun v32 => wC 0 fun v34 => wp_J7_fill_53178 S M31 v32 v34 <| fun M36 => wGetR S M36 u0 5 8 fun v37 => wC (-1) fun v39 => wp_J7_fill_53178 S M36 v37 v39 <| fun M41 => post M41
set_option maxHeartbeats 4000000 in
set_option maxRecDepth 100000 in
theorem c_X5_clear (l : Launch) (D : va_G) (G : Gt) (S : Sh) (M : Mm) (xl0 : Int) (post : Mm → Prop) (h : wp_X5_clear S M xl0 post) : Met l yX5_clear (cw_X5_clear :: gw) RM_X5_clear (va_Pc [.ref (adr G xl0)] (fun U => KN D G U ∧ Wd D G S M U.heap)) (QV D G S post) 0 0 (aG G) := by
  refine Met.ofW (cc := cX5_clear) (maxL := 1) (ret := none) (by decide) rfl ?_
  intro p e s m args below meth c s₁ B hml hv
  obtain ⟨rfl, hK, hP⟩ := hv
  have hx := B.exec
  have hb := B.bytes
  have hr := B.returns
  have hts := atoms_spec (ws := cw_X5_clear :: gw) B.pre
  have hown : s.vm.findClass RX5 = some m.cls := findClass_of_methodNamed B.named
  have hlocks := B.notSynchronized
  have hS : va_S (aG G) s.heap s.heap [] := va_S.rf
  have C : Cx p s m ([.ref (adr G xl0)] : List Value).toArray meth c D G cX5_clear 1 none (cw_X5_clear :: gw) RX5 := ⟨hx, hb, hr, hlocks, hml, hown, hts, hK⟩
  have hl := lv_entry ([.ref (adr G xl0)]) (n := 1) (Nat.le_of_ble_eq_true rfl)
  rw [lg_entry_eq]
  generalize (lg_sl ([.ref (adr G xl0)]) ++ List.replicate (1 - (lg_sl ([.ref (adr G xl0)])).length) Slot.unset).toArray = ls at hl ⊢
  have hl : lv_has ls 1 [(0, .ref (adr G xl0))] := hl
  unfold wp_X5_clear at h
  refine lv_aload_n hx hb dX5_clear_0 rfl (lv_at hl 0 rfl) ?_
  refine r_iconst hx hb dX5_clear_1 (by decide) h (fun z2 h => ?_)
  refine r_puti (C := RX5) (T := TX5) (N := 9) hx hb hts (fun w h => List.mem_cons_of_mem _ (iX5 w h)) hown hK hP tyX5 tyX5_ok nmX5 hS rfl (by decide) rfl 0 (by decide) (hts _ (List.mem_cons_of_mem _ kw_179)) (fun _ h9 => h9) rfl (tyX5_ok 0 (by decide)) rfl rfl dX5_clear_2 (by decide) h (fun M3 H locs h hP hS => ?_)
  refine lv_aload_n hx hb dX5_clear_5 rfl (lv_at hl 0 rfl) ?_
  refine r_iconst hx hb dX5_clear_6 (by decide) h (fun z5 h => ?_)
  refine r_puti (C := RX5) (T := TX5) (N := 9) hx hb hts (fun w h => List.mem_cons_of_mem _ (iX5 w h)) hown hK hP tyX5 tyX5_ok nmX5 hS rfl (by decide) rfl 1 (by decide) (hts _ (List.mem_cons_of_mem _ kw_184)) (fun _ h9 => h9) rfl (tyX5_ok 1 (by decide)) rfl rfl dX5_clear_7 (by decide) h (fun M6 H locs h hP hS => ?_)
  refine lv_aload_n hx hb dX5_clear_10 rfl (lv_at hl 0 rfl) ?_
  refine r_getr (C := RX5) (T := TX5) (N := 9) hx hb hts (fun w h => List.mem_cons_of_mem _ (iX5 w h)) hown hK hP rfl (by decide) rfl 2 (by decide) (hts _ (List.mem_cons_of_mem _ kw_186)) (fun _ h9 => h9) dX5_clear_11 (by decide) h (fun x8 h => ?_)
  refine r_iconst hx hb dX5_clear_14 (by decide) h (fun z10 h => ?_)
  refine q_Sv hx hb hml hown hts hK hP hS (c_J7_fill_53178 l D G S _ x8 z10 _ h) ⟨callB_of 2 hts (gw_good kw_178) rfl rfl rfl (hts _ (List.mem_cons_of_mem _ kw_6)) (hts _ (List.mem_cons_of_mem _ kw_176)) hd_J7_fill_53178 ⟨Nat.le_of_ble_eq_true rfl, Nat.le_of_ble_eq_true rfl⟩, (hts _ (List.mem_cons_of_mem _ kw_177))⟩ rfl hl.1 rfl (lv_room (Nat.le_of_ble_eq_true rfl)) dX5_clear_15 ⟨Nat.zero_le _, Nat.zero_le _⟩ (fun M11 H locs h hP hS => ?_)
  refine lv_aload_n hx hb dX5_clear_18 rfl (lv_at hl 0 rfl) ?_
  refine r_getr (C := RX5) (T := TX5) (N := 9) hx hb hts (fun w h => List.mem_cons_of_mem _ (iX5 w h)) hown hK hP rfl (by decide) rfl 3 (by decide) (hts _ (List.mem_cons_of_mem _ kw_189)) (fun _ h9 => h9) dX5_clear_19 (by decide) h (fun x13 h => ?_)
  refine r_iconst hx hb dX5_clear_22 (by decide) h (fun z15 h => ?_)
  refine q_Sv hx hb hml hown hts hK hP hS (c_J7_fill_53178 l D G S _ x13 z15 _ h) ⟨callB_of 2 hts (gw_good kw_178) rfl rfl rfl (hts _ (List.mem_cons_of_mem _ kw_6)) (hts _ (List.mem_cons_of_mem _ kw_176)) hd_J7_fill_53178 ⟨Nat.le_of_ble_eq_true rfl, Nat.le_of_ble_eq_true rfl⟩, (hts _ (List.mem_cons_of_mem _ kw_177))⟩ rfl hl.1 rfl (lv_room (Nat.le_of_ble_eq_true rfl)) dX5_clear_23 ⟨Nat.zero_le _, Nat.zero_le _⟩ (fun M16 H locs h hP hS => ?_)
  refine lv_aload_n hx hb dX5_clear_26 rfl (lv_at hl 0 rfl) ?_
  refine r_getr (C := RX5) (T := TX5) (N := 9) hx hb hts (fun w h => List.mem_cons_of_mem _ (iX5 w h)) hown hK hP rfl (by decide) rfl 4 (by decide) (hts _ (List.mem_cons_of_mem _ kw_193)) (fun _ h9 => h9) dX5_clear_27 (by decide) h (fun x18 h => ?_)
  refine r_iconst hx hb dX5_clear_30 (by decide) h (fun z20 h => ?_)
  refine q_Sv hx hb hml hown hts hK hP hS (c_J7_fill_53178 l D G S _ x18 z20 _ h) ⟨callB_of 2 hts (gw_good kw_178) rfl rfl rfl (hts _ (List.mem_cons_of_mem _ kw_6)) (hts _ (List.mem_cons_of_mem _ kw_176)) hd_J7_fill_53178 ⟨Nat.le_of_ble_eq_true rfl, Nat.le_of_ble_eq_true rfl⟩, (hts _ (List.mem_cons_of_mem _ kw_177))⟩ rfl hl.1 rfl (lv_room (Nat.le_of_ble_eq_true rfl)) dX5_clear_31 ⟨Nat.zero_le _, Nat.zero_le _⟩ (fun M21 H locs h hP hS => ?_)
  refine lv_aload_n hx hb dX5_clear_34 rfl (lv_at hl 0 rfl) ?_
  refine r_getr (C := RX5) (T := TX5) (N := 9) hx hb hts (fun w h => List.mem_cons_of_mem _ (iX5 w h)) hown hK hP rfl (by decide) rfl 5 (by decide) (hts _ (List.mem_cons_of_mem _ kw_197)) (fun _ h9 => h9) dX5_clear_35 (by decide) h (fun x23 h => ?_)
  refine r_iconst hx hb dX5_clear_38 (by decide) h (fun z25 h => ?_)
  refine q_Sv hx hb hml hown hts hK hP hS (c_J7_fill_53178 l D G S _ x23 z25 _ h) ⟨callB_of 2 hts (gw_good kw_178) rfl rfl rfl (hts _ (List.mem_cons_of_mem _ kw_6)) (hts _ (List.mem_cons_of_mem _ kw_176)) hd_J7_fill_53178 ⟨Nat.le_of_ble_eq_true rfl, Nat.le_of_ble_eq_true rfl⟩, (hts _ (List.mem_cons_of_mem _ kw_177))⟩ rfl hl.1 rfl (lv_room (Nat.le_of_ble_eq_true rfl)) dX5_clear_39 ⟨Nat.zero_le _, Nat.zero_le _⟩ (fun M26 H locs h hP hS => ?_)
  refine lv_aload_n hx hb dX5_clear_42 rfl (lv_at hl 0 rfl) ?_
  refine r_getr (C := RX5) (T := TX5) (N := 9) hx hb hts (fun w h => List.mem_cons_of_mem _ (iX5 w h)) hown hK hP rfl (by decide) rfl 6 (by decide) (hts _ (List.mem_cons_of_mem _ kw_200)) (fun _ h9 => h9) dX5_clear_43 (by decide) h (fun x28 h => ?_)
  refine r_iconst hx hb dX5_clear_46 (by decide) h (fun z30 h => ?_)
  refine q_Sv hx hb hml hown hts hK hP hS (c_J7_fill_53178 l D G S _ x28 z30 _ h) ⟨callB_of 2 hts (gw_good kw_178) rfl rfl rfl (hts _ (List.mem_cons_of_mem _ kw_6)) (hts _ (List.mem_cons_of_mem _ kw_176)) hd_J7_fill_53178 ⟨Nat.le_of_ble_eq_true rfl, Nat.le_of_ble_eq_true rfl⟩, (hts _ (List.mem_cons_of_mem _ kw_177))⟩ rfl hl.1 rfl (lv_room (Nat.le_of_ble_eq_true rfl)) dX5_clear_47 ⟨Nat.zero_le _, Nat.zero_le _⟩ (fun M31 H locs h hP hS => ?_)
  refine lv_aload_n hx hb dX5_clear_50 rfl (lv_at hl 0 rfl) ?_
  refine r_getr (C := RX5) (T := TX5) (N := 9) hx hb hts (fun w h => List.mem_cons_of_mem _ (iX5 w h)) hown hK hP rfl (by decide) rfl 7 (by decide) (hts _ (List.mem_cons_of_mem _ kw_203)) (fun _ h9 => h9) dX5_clear_51 (by decide) h (fun x33 h => ?_)
  refine r_iconst hx hb dX5_clear_54 (by decide) h (fun z35 h => ?_)
  refine q_Sv hx hb hml hown hts hK hP hS (c_J7_fill_53178 l D G S _ x33 z35 _ h) ⟨callB_of 2 hts (gw_good kw_178) rfl rfl rfl (hts _ (List.mem_cons_of_mem _ kw_6)) (hts _ (List.mem_cons_of_mem _ kw_176)) hd_J7_fill_53178 ⟨Nat.le_of_ble_eq_true rfl, Nat.le_of_ble_eq_true rfl⟩, (hts _ (List.mem_cons_of_mem _ kw_177))⟩ rfl hl.1 rfl (lv_room (Nat.le_of_ble_eq_true rfl)) dX5_clear_55 ⟨Nat.zero_le _, Nat.zero_le _⟩ (fun M36 H locs h hP hS => ?_)
  refine lv_aload_n hx hb dX5_clear_58 rfl (lv_at hl 0 rfl) ?_
  refine r_getr (C := RX5) (T := TX5) (N := 9) hx hb hts (fun w h => List.mem_cons_of_mem _ (iX5 w h)) hown hK hP rfl (by decide) rfl 8 (by decide) (hts _ (List.mem_cons_of_mem _ kw_209)) (fun _ h9 => h9) dX5_clear_59 (by decide) h (fun x38 h => ?_)
  refine r_iconst hx hb dX5_clear_62 (by decide) h (fun z40 h => ?_)
  refine q_Sv hx hb hml hown hts hK hP hS (c_J7_fill_53178 l D G S _ x38 z40 _ h) ⟨callB_of 2 hts (gw_good kw_178) rfl rfl rfl (hts _ (List.mem_cons_of_mem _ kw_6)) (hts _ (List.mem_cons_of_mem _ kw_176)) hd_J7_fill_53178 ⟨Nat.le_of_ble_eq_true rfl, Nat.le_of_ble_eq_true rfl⟩, (hts _ (List.mem_cons_of_mem _ kw_177))⟩ rfl hl.1 rfl (lv_room (Nat.le_of_ble_eq_true rfl)) dX5_clear_63 ⟨Nat.zero_le _, Nat.zero_le _⟩ (fun M41 H locs h hP hS => ?_)
  exact r_vret hx hb hr hlocks hP hS dX5_clear_66 h
/-! TurningMilk$Tape.rewind()V -/
abbrev RM_X7_rewind : Room := { frames := 1, cells := 0, slots := 0, locals := 40 }
def cw_X7_rewind : Cond := Cond.code yX7_rewind cX7_rewind 1 (Option.none : Option FieldType)
theorem hd_X7_rewind : yX7_rewind.cls ≠ "java/lang/invoke/MethodHandle" ∧ yX7_rewind.cls ≠ "java/lang/invoke/VarHandle" ∧ (parseMethodDescriptor yX7_rewind.desc).map (fun d => d.parameters.length) = some 0 := by decide +kernel
theorem dX7_rewind_0 : decode cX7_rewind 0 = .ok (.aload_n 0, 1) := by decide +kernel
theorem dX7_rewind_1 : decode cX7_rewind 1 = .ok (.iconst 0, 1) := by decide +kernel
theorem dX7_rewind_2 : decode cX7_rewind 2 = .ok (.putfield 19, 3) := by decide +kernel
theorem dX7_rewind_5 : decode cX7_rewind 5 = .ok (.aload_n 0, 1) := by decide +kernel
theorem dX7_rewind_6 : decode cX7_rewind 6 = .ok (.iconst 0, 1) := by decide +kernel
theorem dX7_rewind_7 : decode cX7_rewind 7 = .ok (.putfield 22, 3) := by decide +kernel
theorem dX7_rewind_10 : decode cX7_rewind 10 = .ok (.aload_n 0, 1) := by decide +kernel
theorem dX7_rewind_11 : decode cX7_rewind 11 = .ok (.iconst 0, 1) := by decide +kernel
theorem dX7_rewind_12 : decode cX7_rewind 12 = .ok (.putfield 25, 3) := by decide +kernel
theorem dX7_rewind_15 : decode cX7_rewind 15 = .ok (.return_, 1) := by decide +kernel
def wp_X7_rewind (S : Sh) (M : Mm) (u0 : Int) (post : Mm → Prop) : Prop := wC 0 fun v1 => wPut S M u0 7 2 v1 fun M3 => wC 0 fun v4 => wPut S M3 u0 7 3 v4 fun M6 => wC 0 fun v7 => wPut S M6 u0 7 4 v7 fun M9 => post M9
set_option maxHeartbeats 4000000 in
set_option maxRecDepth 100000 in
theorem c_X7_rewind (l : Launch) (D : va_G) (G : Gt) (S : Sh) (M : Mm) (xl0 : Int) (post : Mm → Prop) (h : wp_X7_rewind S M xl0 post) : Met l yX7_rewind (cw_X7_rewind :: gw) RM_X7_rewind (va_Pc [.ref (adr G xl0)] (fun U => KN D G U ∧ Wd D G S M U.heap)) (QV D G S post) 0 0 (aG G) := by
  refine Met.ofW (cc := cX7_rewind) (maxL := 1) (ret := none) (by decide) rfl ?_
  intro p e s m args below meth c s₁ B hml hv
  obtain ⟨rfl, hK, hP⟩ := hv
  have hx := B.exec
  have hb := B.bytes
  have hr := B.returns
  have hts := atoms_spec (ws := cw_X7_rewind :: gw) B.pre
  have hown : s.vm.findClass RX7 = some m.cls := findClass_of_methodNamed B.named
  have hlocks := B.notSynchronized
  have hS : va_S (aG G) s.heap s.heap [] := va_S.rf
  have C : Cx p s m ([.ref (adr G xl0)] : List Value).toArray meth c D G cX7_rewind 1 none (cw_X7_rewind :: gw) RX7 := ⟨hx, hb, hr, hlocks, hml, hown, hts, hK⟩
  have hl := lv_entry ([.ref (adr G xl0)]) (n := 1) (Nat.le_of_ble_eq_true rfl)
  rw [lg_entry_eq]
  generalize (lg_sl ([.ref (adr G xl0)]) ++ List.replicate (1 - (lg_sl ([.ref (adr G xl0)])).length) Slot.unset).toArray = ls at hl ⊢
  have hl : lv_has ls 1 [(0, .ref (adr G xl0))] := hl
  unfold wp_X7_rewind at h
  refine lv_aload_n hx hb dX7_rewind_0 rfl (lv_at hl 0 rfl) ?_
  refine r_iconst hx hb dX7_rewind_1 (by decide) h (fun z2 h => ?_)
  refine r_puti (C := RX7) (T := TX7) (N := 5) hx hb hts (fun w h => List.mem_cons_of_mem _ (iX7 w h)) hown hK hP tyX7 tyX7_ok nmX7 hS rfl (by decide) rfl 2 (by decide) (hts _ (List.mem_cons_of_mem _ kw_39)) (fun _ h9 => h9) rfl (tyX7_ok 2 (by decide)) rfl rfl dX7_rewind_2 (by decide) h (fun M3 H locs h hP hS => ?_)
  refine lv_aload_n hx hb dX7_rewind_5 rfl (lv_at hl 0 rfl) ?_
  refine r_iconst hx hb dX7_rewind_6 (by decide) h (fun z5 h => ?_)
  refine r_puti (C := RX7) (T := TX7) (N := 5) hx hb hts (fun w h => List.mem_cons_of_mem _ (iX7 w h)) hown hK hP tyX7 tyX7_ok nmX7 hS rfl (by decide) rfl 3 (by decide) (hts _ (List.mem_cons_of_mem _ kw_40)) (fun _ h9 => h9) rfl (tyX7_ok 3 (by decide)) rfl rfl dX7_rewind_7 (by decide) h (fun M6 H locs h hP hS => ?_)
  refine lv_aload_n hx hb dX7_rewind_10 rfl (lv_at hl 0 rfl) ?_
  refine r_iconst hx hb dX7_rewind_11 (by decide) h (fun z8 h => ?_)
  refine r_puti (C := RX7) (T := TX7) (N := 5) hx hb hts (fun w h => List.mem_cons_of_mem _ (iX7 w h)) hown hK hP tyX7 tyX7_ok nmX7 hS rfl (by decide) rfl 4 (by decide) (hts _ (List.mem_cons_of_mem _ kw_41)) (fun _ h9 => h9) rfl (tyX7_ok 4 (by decide)) rfl rfl dX7_rewind_12 (by decide) h (fun M9 H locs h hP hS => ?_)
  exact r_vret hx hb hr hlocks hP hS dX7_rewind_15 h
/-! TurningMilk$DairyReader.nameOf(I)Ljava/lang/String; -/
abbrev RM_X0_nameOf : Room := { frames := 1, cells := 0, slots := 0, locals := 40 }
def cw_X0_nameOf : Cond := Cond.code yX0_nameOf cX0_nameOf 1 (Option.some (FieldType.object "java/lang/String"))
theorem hd_X0_nameOf : yX0_nameOf.cls ≠ "java/lang/invoke/MethodHandle" ∧ yX0_nameOf.cls ≠ "java/lang/invoke/VarHandle" ∧ (parseMethodDescriptor yX0_nameOf.desc).map (fun d => d.parameters.length) = some 1 := by decide +kernel
theorem dX0_nameOf_0 : decode cX0_nameOf 0 = .ok (.iload_n 0, 1) := by decide +kernel
theorem dX0_nameOf_1 : decode cX0_nameOf 1 = .ok (.tableswitch 50 0 4 #[35, 38, 41, 44, 47], 35) := by decide +kernel
theorem dX0_nameOf_36 : decode cX0_nameOf 36 = .ok (.ldc 56, 2) := by decide +kernel
theorem dX0_nameOf_38 : decode cX0_nameOf 38 = .ok (.areturn, 1) := by decide +kernel
theorem dX0_nameOf_39 : decode cX0_nameOf 39 = .ok (.ldc 58, 2) := by decide +kernel
theorem dX0_nameOf_41 : decode cX0_nameOf 41 = .ok (.areturn, 1) := by decide +kernel
theorem dX0_nameOf_42 : decode cX0_nameOf 42 = .ok (.ldc 60, 2) := by decide +kernel
theorem dX0_nameOf_44 : decode cX0_nameOf 44 = .ok (.areturn, 1) := by decide +kernel
theorem dX0_nameOf_45 : decode cX0_nameOf 45 = .ok (.ldc 62, 2) := by decide +kernel
theorem dX0_nameOf_47 : decode cX0_nameOf 47 = .ok (.areturn, 1) := by decide +kernel
theorem dX0_nameOf_48 : decode cX0_nameOf 48 = .ok (.ldc 64, 2) := by decide +kernel
theorem dX0_nameOf_50 : decode cX0_nameOf 50 = .ok (.areturn, 1) := by decide +kernel
theorem dX0_nameOf_51 : decode cX0_nameOf 51 = .ok (.ldc 66, 2) := by decide +kernel
theorem dX0_nameOf_53 : decode cX0_nameOf 53 = .ok (.areturn, 1) := by decide +kernel
def wp_X0_nameOf (S : Sh) (M : Mm) (u0 : Int) (post : Int → Mm → Prop) : Prop := wIf (u0 = 0) (wC (-3) fun v1 => post v1 M) (wIf (u0 = 1) (wC (-4) fun v3 => post v3 M) (wIf (u0 = 2) (wC (-5) fun v5 => post v5 M) (wIf (u0 = 3) (wC (-6) fun v7 => post v7 M) (wIf (u0 = 4) (wC (-7) fun v9 => post v9 M) (wC (-8) fun v11 => post v11 M)))))
set_option maxHeartbeats 4000000 in
set_option maxRecDepth 100000 in
theorem c_X0_nameOf (l : Launch) (D : va_G) (G : Gt) (S : Sh) (M : Mm) (zl0 : Int32) (post : Int → Mm → Prop) (h : wp_X0_nameOf S M zl0.toInt post) : Met l yX0_nameOf (cw_X0_nameOf :: gw) RM_X0_nameOf (va_Pc [.int zl0] (fun U => KN D G U ∧ Wd D G S M U.heap)) (QR D G S post) 0 0 (aG G) := by
  refine Met.ofW (cc := cX0_nameOf) (maxL := 1) (ret := (some (.object "java/lang/String"))) (by decide) rfl ?_
  intro p e s m args below meth c s₁ B hml hv
  obtain ⟨rfl, hK, hP⟩ := hv
  have hx := B.exec
  have hb := B.bytes
  have hr := B.returns
  have hts := atoms_spec (ws := cw_X0_nameOf :: gw) B.pre
  have hown : s.vm.findClass RX0 = some m.cls := findClass_of_methodNamed B.named
  have hlocks := B.notSynchronized
  have hS : va_S (aG G) s.heap s.heap [] := va_S.rf
  have C : Cx p s m ([.int zl0] : List Value).toArray meth c D G cX0_nameOf 1 (some (.object "java/lang/String")) (cw_X0_nameOf :: gw) RX0 := ⟨hx, hb, hr, hlocks, hml, hown, hts, hK⟩
  have hl := lv_entry ([.int zl0]) (n := 1) (Nat.le_of_ble_eq_true rfl)
  rw [lg_entry_eq]
  generalize (lg_sl ([.int zl0]) ++ List.replicate (1 - (lg_sl ([.int zl0])).length) Slot.unset).toArray = ls at hl ⊢
  have hl : lv_has ls 1 [(0, .int zl0)] := hl
  unfold wp_X0_nameOf at h
  refine lv_iload_n hx hb dX0_nameOf_0 rfl (lv_at hl 0 rfl) ?_
  refine sw (c := zl0.toInt = 0) h (fun e0 h => ?_) (fun e0 h => ?_)
  · refine lv_tableIn (tgt := 36) hx hb dX0_nameOf_1 (by omega) (by omega) (by rw [e0]; rfl) (by decide) ?_
    refine r_lds hx hb hK hown (k := 0) (List.mem_of_getElem? (i := 0) rfl) dX0_nameOf_36 (n := (-3)) (by decide) h (fun x2 h => ?_)
    exact r_aret hx hb hr (Or.inl ⟨_, rfl⟩) hlocks hP hS dX0_nameOf_38 h
  · refine sw (c := zl0.toInt = 1) h (fun e1 h => ?_) (fun e1 h => ?_)
    · refine lv_tableIn (tgt := 39) hx hb dX0_nameOf_1 (by omega) (by omega) (by rw [e1]; rfl) (by decide) ?_
      refine r_lds hx hb hK hown (k := 1) (List.mem_of_getElem? (i := 1) rfl) dX0_nameOf_39 (n := (-4)) (by decide) h (fun x4 h => ?_)
      exact r_aret hx hb hr (Or.inl ⟨_, rfl⟩) hlocks hP hS dX0_nameOf_41 h
    · refine sw (c := zl0.toInt = 2) h (fun e2 h => ?_) (fun e2 h => ?_)
      · refine lv_tableIn (tgt := 42) hx hb dX0_nameOf_1 (by omega) (by omega) (by rw [e2]; rfl) (by decide) ?_
        refine r_lds hx hb hK hown (k := 2) (List.mem_of_getElem? (i := 2) rfl) dX0_nameOf_42 (n := (-5)) (by decide) h (fun x6 h => ?_)
        exact r_aret hx hb hr (Or.inl ⟨_, rfl⟩) hlocks hP hS dX0_nameOf_44 h
      · refine sw (c := zl0.toInt = 3) h (fun e3 h => ?_) (fun e3 h => ?_)
        · refine lv_tableIn (tgt := 45) hx hb dX0_nameOf_1 (by omega) (by omega) (by rw [e3]; rfl) (by decide) ?_
          refine r_lds hx hb hK hown (k := 3) (List.mem_of_getElem? (i := 3) rfl) dX0_nameOf_45 (n := (-6)) (by decide) h (fun x8 h => ?_)
          exact r_aret hx hb hr (Or.inl ⟨_, rfl⟩) hlocks hP hS dX0_nameOf_47 h
        · refine sw (c := zl0.toInt = 4) h (fun e4 h => ?_) (fun e4 h => ?_)
          · refine lv_tableIn (tgt := 48) hx hb dX0_nameOf_1 (by omega) (by omega) (by rw [e4]; rfl) (by decide) ?_
            refine r_lds hx hb hK hown (k := 4) (List.mem_of_getElem? (i := 4) rfl) dX0_nameOf_48 (n := (-7)) (by decide) h (fun x10 h => ?_)
            exact r_aret hx hb hr (Or.inl ⟨_, rfl⟩) hlocks hP hS dX0_nameOf_50 h
          · refine lv_tableOut (tgt := 51) hx hb dX0_nameOf_1 (by omega) (by decide) ?_
            refine r_lds hx hb hK hown (k := 5) (List.mem_of_getElem? (i := 5) rfl) dX0_nameOf_51 (n := (-8)) (by decide) h (fun x12 h => ?_)
            exact r_aret hx hb hr (Or.inl ⟨_, rfl⟩) hlocks hP hS dX0_nameOf_53 h
/-! TurningMilk$Tape.look()I -/
abbrev RM_X7_look : Room := { frames := 1, cells := 0, slots := 0, locals := 40 }
def cw_X7_look : Cond := Cond.code yX7_look cX7_look 1 (Option.some FieldType.int)
theorem hd_X7_look : yX7_look.cls ≠ "java/lang/invoke/MethodHandle" ∧ yX7_look.cls ≠ "java/lang/invoke/VarHandle" ∧ (parseMethodDescriptor yX7_look.desc).map (fun d => d.parameters.length) = some 0 := by decide +kernel
theorem dX7_look_0 : decode cX7_look 0 = .ok (.aload_n 0, 1) := by decide +kernel
theorem dX7_look_1 : decode cX7_look 1 = .ok (.getfield 19, 3) := by decide +kernel
theorem dX7_look_4 : decode cX7_look 4 = .ok (.aload_n 0, 1) := by decide +kernel
theorem dX7_look_5 : decode cX7_look 5 = .ok (.getfield 15, 3) := by decide +kernel
theorem dX7_look_8 : decode cX7_look 8 = .ok (.if_icmp .ge 30, 3) := by decide +kernel
theorem dX7_look_11 : decode cX7_look 11 = .ok (.aload_n 0, 1) := by decide +kernel
theorem dX7_look_12 : decode cX7_look 12 = .ok (.getfield 9, 3) := by decide +kernel
theorem dX7_look_15 : decode cX7_look 15 = .ok (.aload_n 0, 1) := by decide +kernel
theorem dX7_look_16 : decode cX7_look 16 = .ok (.getfield 19, 3) := by decide +kernel
theorem dX7_look_19 : decode cX7_look 19 = .ok (.baload, 1) := by decide +kernel
theorem dX7_look_20 : decode cX7_look 20 = .ok (.bipush 32, 2) := by decide +kernel
theorem dX7_look_22 : decode cX7_look 22 = .ok (.if_icmp .ne 16, 3) := by decide +kernel
theorem dX7_look_25 : decode cX7_look 25 = .ok (.aload_n 0, 1) := by decide +kernel
theorem dX7_look_26 : decode cX7_look 26 = .ok (.dup, 1) := by decide +kernel
theorem dX7_look_27 : decode cX7_look 27 = .ok (.getfield 19, 3) := by decide +kernel
theorem dX7_look_30 : decode cX7_look 30 = .ok (.iconst 1, 1) := by decide +kernel
theorem dX7_look_31 : decode cX7_look 31 = .ok (.iadd, 1) := by decide +kernel
theorem dX7_look_32 : decode cX7_look 32 = .ok (.putfield 19, 3) := by decide +kernel
theorem dX7_look_35 : decode cX7_look 35 = .ok (.goto (-35), 3) := by decide +kernel
theorem dX7_look_38 : decode cX7_look 38 = .ok (.aload_n 0, 1) := by decide +kernel
theorem dX7_look_39 : decode cX7_look 39 = .ok (.aload_n 0, 1) := by decide +kernel
theorem dX7_look_40 : decode cX7_look 40 = .ok (.getfield 19, 3) := by decide +kernel
theorem dX7_look_43 : decode cX7_look 43 = .ok (.putfield 22, 3) := by decide +kernel
theorem dX7_look_46 : decode cX7_look 46 = .ok (.aload_n 0, 1) := by decide +kernel
theorem dX7_look_47 : decode cX7_look 47 = .ok (.getfield 19, 3) := by decide +kernel
theorem dX7_look_50 : decode cX7_look 50 = .ok (.aload_n 0, 1) := by decide +kernel
theorem dX7_look_51 : decode cX7_look 51 = .ok (.getfield 15, 3) := by decide +kernel
theorem dX7_look_54 : decode cX7_look 54 = .ok (.if_icmp .ge 19, 3) := by decide +kernel
theorem dX7_look_57 : decode cX7_look 57 = .ok (.aload_n 0, 1) := by decide +kernel
theorem dX7_look_58 : decode cX7_look 58 = .ok (.getfield 9, 3) := by decide +kernel
theorem dX7_look_61 : decode cX7_look 61 = .ok (.aload_n 0, 1) := by decide +kernel
theorem dX7_look_62 : decode cX7_look 62 = .ok (.getfield 19, 3) := by decide +kernel
theorem dX7_look_65 : decode cX7_look 65 = .ok (.baload, 1) := by decide +kernel
theorem dX7_look_66 : decode cX7_look 66 = .ok (.sipush 255, 3) := by decide +kernel
theorem dX7_look_69 : decode cX7_look 69 = .ok (.iand, 1) := by decide +kernel
theorem dX7_look_70 : decode cX7_look 70 = .ok (.goto 4, 3) := by decide +kernel
theorem dX7_look_73 : decode cX7_look 73 = .ok (.iconst (-1), 1) := by decide +kernel
theorem dX7_look_74 : decode cX7_look 74 = .ok (.ireturn, 1) := by decide +kernel
def wp_X7_look_38 (S : Sh) (post : Int → Mm → Prop) (u0 : Int) (M : Mm) : Prop := wGet S M u0 7 2 fun v1 => wPut S M u0 7 3 v1 fun M3 => wGet S M3 u0 7 2 fun v4 => wGet S M3 u0 7 1 fun v6 => wIf (v6 ≤ v4) (wC (-1) fun v8 => post v8 M3) (wGetR S M3 u0 7 0 fun v10 => wGet S M3 u0 7 2 fun v12 => wLd S M3 v10 13 v12 fun v14 => wC 255 fun v16 => wO iAnd v14 v16 fun v18 => post v18 M3)
def wp_X7_look_0 (S : Sh) (post : Int → Mm → Prop) : Nat → Int → Mm → Prop
  | 0, _, _ => False
  | n + 1, u0, M => wGet S M u0 7 2 fun v20 => wGet S M u0 7 1 fun v22 => wIf (v22 ≤ v20) (wp_X7_look_38 S post u0 M) (wGetR S M u0 7 0 fun v24 => wGet S M u0 7 2 fun v26 => wLd S M v24 13 v26 fun v28 => wC 32 fun v30 => wIf (¬ v28 = v30) (wp_X7_look_38 S post u0 M) (wGet S M u0 7 2 fun v32 => wC 1 fun v34 => wA v32 v34 fun v36 => wPut S M u0 7 2 v36 fun M38 => wp_X7_look_0 S post n u0 M38))
def wp_X7_look (S : Sh) (M : Mm) (u0 : Int) (post : Int → Mm → Prop) : Prop := ∃ n9 : Nat, wp_X7_look_0 S post n9 u0 M
set_option maxHeartbeats 4000000 in
set_option maxRecDepth 100000 in
theorem t_X7_look_38 {p : Program} {l : Launch} {e : Env} {s : State} {m : MethodId} {args : Array Value} {below : List Frame} {meth : Method} {c : Code} {D : va_G} {G : Gt} {S : Sh} {post : Int → Mm → Prop} (C : Cx p s m args meth c D G cX7_look 1 (some .int) (cw_X7_look :: gw) RX7) : ∀ (xl0 : Int) (M : Mm) (H : Heap) (locs : List Loc) (ls : Array Slot), Wd D G S M H → va_S (aG G) s.heap H locs → lv_has ls 1 [(0, .ref (adr G xl0))] → wp_X7_look_38 S post xl0  M → W p l e RM_X7_look s m args below meth c H locs 0 0 (MQ below (QI D G S post) args s 0 0 (aG G)) (F0 m 38 ls []) := by
  obtain ⟨hx, hb, hr, hlocks, hml, hown, hts, hK⟩ := id C
  intro xl0 M H locs ls hP hS hl h
  unfold wp_X7_look_38 at h
  refine lv_aload_n hx hb dX7_look_38 rfl (lv_at hl 0 rfl) ?_
  refine lv_aload_n hx hb dX7_look_39 rfl (lv_at hl 0 rfl) ?_
  refine r_geti (C := RX7) (T := TX7) (N := 5) hx hb hts (fun w h => List.mem_cons_of_mem _ (iX7 w h)) hown hK hP rfl (by decide) rfl 2 (by decide) (hts _ (List.mem_cons_of_mem _ kw_39)) (fun _ h9 => h9) dX7_look_40 (by decide) h (fun z2 h => ?_)
  refine r_puti (C := RX7) (T := TX7) (N := 5) hx hb hts (fun w h => List.mem_cons_of_mem _ (iX7 w h)) hown hK hP tyX7 tyX7_ok nmX7 hS rfl (by decide) rfl 3 (by decide) (hts _ (List.mem_cons_of_mem _ kw_40)) (fun _ h9 => h9) rfl (tyX7_ok 3 (by decide)) rfl rfl dX7_look_43 (by decide) h (fun M3 H locs h hP hS => ?_)
  refine lv_aload_n hx hb dX7_look_46 rfl (lv_at hl 0 rfl) ?_
  refine r_geti (C := RX7) (T := TX7) (N := 5) hx hb hts (fun w h => List.mem_cons_of_mem _ (iX7 w h)) hown hK hP rfl (by decide) rfl 2 (by decide) (hts _ (List.mem_cons_of_mem _ kw_39)) (fun _ h9 => h9) dX7_look_47 (by decide) h (fun z5 h => ?_)
  refine lv_aload_n hx hb dX7_look_50 rfl (lv_at hl 0 rfl) ?_
  refine r_geti (C := RX7) (T := TX7) (N := 5) hx hb hts (fun w h => List.mem_cons_of_mem _ (iX7 w h)) hown hK hP rfl (by decide) rfl 1 (by decide) (hts _ (List.mem_cons_of_mem _ kw_37)) (fun _ h9 => h9) dX7_look_51 (by decide) h (fun z7 h => ?_)
  refine r_icmp_ge (tgt := 73) hx hb dX7_look_54 (by decide) h (fun h => ?_) (fun h => ?_)
  · refine r_iconst hx hb dX7_look_73 (by decide) h (fun z9 h => ?_)
    exact r_iret hx hb hr hlocks hP hS dX7_look_74 h
  · refine lv_aload_n hx hb dX7_look_57 rfl (lv_at hl 0 rfl) ?_
    refine r_getr (C := RX7) (T := TX7) (N := 5) hx hb hts (fun w h => List.mem_cons_of_mem _ (iX7 w h)) hown hK hP rfl (by decide) rfl 0 (by decide) (hts _ (List.mem_cons_of_mem _ kw_36)) (fun _ h9 => h9) dX7_look_58 (by decide) h (fun x11 h => ?_)
    refine lv_aload_n hx hb dX7_look_61 rfl (lv_at hl 0 rfl) ?_
    refine r_geti (C := RX7) (T := TX7) (N := 5) hx hb hts (fun w h => List.mem_cons_of_mem _ (iX7 w h)) hown hK hP rfl (by decide) rfl 2 (by decide) (hts _ (List.mem_cons_of_mem _ kw_39)) (fun _ h9 => h9) dX7_look_62 (by decide) h (fun z13 h => ?_)
    refine r_bald hx hb hK hP dX7_look_65 h (fun z15 h => ?_)
    refine r_sipush hx hb dX7_look_66 (by decide) h (fun z17 h => ?_)
    refine r_iand hx hb dX7_look_69 h (fun z19 h => ?_)
    refine lv_goto (tgt := 74) hx hb dX7_look_70 (by decide) ?_
    exact r_iret hx hb hr hlocks hP hS dX7_look_74 h
set_option maxHeartbeats 4000000 in
set_option maxRecDepth 100000 in
theorem t_X7_look_0 {p : Program} {l : Launch} {e : Env} {s : State} {m : MethodId} {args : Array Value} {below : List Frame} {meth : Method} {c : Code} {D : va_G} {G : Gt} {S : Sh} {post : Int → Mm → Prop} (C : Cx p s m args meth c D G cX7_look 1 (some .int) (cw_X7_look :: gw) RX7) : ∀ (n : Nat) (xl0 : Int) (M : Mm) (H : Heap) (locs : List Loc) (ls : Array Slot), Wd D G S M H → va_S (aG G) s.heap H locs → lv_has ls 1 [(0, .ref (adr G xl0))] → wp_X7_look_0 S post n xl0  M → W p l e RM_X7_look s m args below meth c H locs 0 0 (MQ below (QI D G S post) args s 0 0 (aG G)) (F0 m 0 ls []) := by
  obtain ⟨hx, hb, hr, hlocks, hml, hown, hts, hK⟩ := id C
  intro n
  induction n with
  | zero => intro xl0 M H locs ls hP hS hl h; exact h.elim
  | succ n ih =>
    intro xl0 M H locs ls hP hS hl h
    unfold wp_X7_look_0 at h
    refine lv_aload_n hx hb dX7_look_0 rfl (lv_at hl 0 rfl) ?_
    refine r_geti (C := RX7) (T := TX7) (N := 5) hx hb hts (fun w h => List.mem_cons_of_mem _ (iX7 w h)) hown hK hP rfl (by decide) rfl 2 (by decide) (hts _ (List.mem_cons_of_mem _ kw_39)) (fun _ h9 => h9) dX7_look_1 (by decide) h (fun z21 h => ?_)
    refine lv_aload_n hx hb dX7_look_4 rfl (lv_at hl 0 rfl) ?_
    refine r_geti (C := RX7) (T := TX7) (N := 5) hx hb hts (fun w h => List.mem_cons_of_mem _ (iX7 w h)) hown hK hP rfl (by decide) rfl 1 (by decide) (hts _ (List.mem_cons_of_mem _ kw_37)) (fun _ h9 => h9) dX7_look_5 (by decide) h (fun z23 h => ?_)
    refine r_icmp_ge (tgt := 38) hx hb dX7_look_8 (by decide) h (fun h => ?_) (fun h => ?_)
    · exact t_X7_look_38 C xl0 _ _ _ _ hP hS (lv_sub hl [0] rfl) h
    · refine lv_aload_n hx hb dX7_look_11 rfl (lv_at hl 0 rfl) ?_
      refine r_getr (C := RX7) (T := TX7) (N := 5) hx hb hts (fun w h => List.mem_cons_of_mem _ (iX7 w h)) hown hK hP rfl (by decide) rfl 0 (by decide) (hts _ (List.mem_cons_of_mem _ kw_36)) (fun _ h9 => h9) dX7_look_12 (by decide) h (fun x25 h => ?_)
      refine lv_aload_n hx hb dX7_look_15 rfl (lv_at hl 0 rfl) ?_
      refine r_geti (C := RX7) (T := TX7) (N := 5) hx hb hts (fun w h => List.mem_cons_of_mem _ (iX7 w h)) hown hK hP rfl (by decide) rfl 2 (by decide) (hts _ (List.mem_cons_of_mem _ kw_39)) (fun _ h9 => h9) dX7_look_16 (by decide) h (fun z27 h => ?_)
      refine r_bald hx hb hK hP dX7_look_19 h (fun z29 h => ?_)
      refine r_bipush hx hb dX7_look_20 (by decide) h (fun z31 h => ?_)
      refine r_icmp_ne (tgt := 38) hx hb dX7_look_22 (by decide) h (fun h => ?_) (fun h => ?_)
      · exact t_X7_look_38 C xl0 _ _ _ _ hP hS (lv_sub hl [0] rfl) h
      · refine lv_aload_n hx hb dX7_look_25 rfl (lv_at hl 0 rfl) ?_
        refine lv_dup hx hb dX7_look_26 rfl ?_
        refine r_geti (C := RX7) (T := TX7) (N := 5) hx hb hts (fun w h => List.mem_cons_of_mem _ (iX7 w h)) hown hK hP rfl (by decide) rfl 2 (by decide) (hts _ (List.mem_cons_of_mem _ kw_39)) (fun _ h9 => h9) dX7_look_27 (by decide) h (fun z33 h => ?_)
        refine r_iconst hx hb dX7_look_30 (by decide) h (fun z35 h => ?_)
        refine r_iadd hx hb dX7_look_31 h (fun z37 h => ?_)
        refine r_puti (C := RX7) (T := TX7) (N := 5) hx hb hts (fun w h => List.mem_cons_of_mem _ (iX7 w h)) hown hK hP tyX7 tyX7_ok nmX7 hS rfl (by decide) rfl 2 (by decide) (hts _ (List.mem_cons_of_mem _ kw_39)) (fun _ h9 => h9) rfl (tyX7_ok 2 (by decide)) rfl rfl dX7_look_32 (by decide) h (fun M38 H locs h hP hS => ?_)
        refine lv_goto (tgt := 0) hx hb dX7_look_35 (by decide) ?_
        exact ih xl0 _ _ _ _ hP hS (lv_sub hl [0] rfl) h
set_option maxHeartbeats 4000000 in
set_option maxRecDepth 100000 in
theorem c_X7_look (l : Launch) (D : va_G) (G : Gt) (S : Sh) (M : Mm) (xl0 : Int) (post : Int → Mm → Prop) (h : wp_X7_look S M xl0 post) : Met l yX7_look (cw_X7_look :: gw) RM_X7_look (va_Pc [.ref (adr G xl0)] (fun U => KN D G U ∧ Wd D G S M U.heap)) (QI D G S post) 0 0 (aG G) := by
  refine Met.ofW (cc := cX7_look) (maxL := 1) (ret := (some .int)) (by decide) rfl ?_
  intro p e s m args below meth c s₁ B hml hv
  obtain ⟨rfl, hK, hP⟩ := hv
  have hx := B.exec
  have hb := B.bytes
  have hr := B.returns
  have hts := atoms_spec (ws := cw_X7_look :: gw) B.pre
  have hown : s.vm.findClass RX7 = some m.cls := findClass_of_methodNamed B.named
  have hlocks := B.notSynchronized
  have hS : va_S (aG G) s.heap s.heap [] := va_S.rf
  have C : Cx p s m ([.ref (adr G xl0)] : List Value).toArray meth c D G cX7_look 1 (some .int) (cw_X7_look :: gw) RX7 := ⟨hx, hb, hr, hlocks, hml, hown, hts, hK⟩
  have hl := lv_entry ([.ref (adr G xl0)]) (n := 1) (Nat.le_of_ble_eq_true rfl)
  rw [lg_entry_eq]
  generalize (lg_sl ([.ref (adr G xl0)]) ++ List.replicate (1 - (lg_sl ([.ref (adr G xl0)])).length) Slot.unset).toArray = ls at hl ⊢
  have hl : lv_has ls 1 [(0, .ref (adr G xl0))] := hl
  unfold wp_X7_look at h
  obtain ⟨n9, h⟩ := h
  exact t_X7_look_0 C n9 xl0 _ _ _ _ hP hS (lv_sub hl [0] rfl) h
/-! TurningMilk$Tape.byteAt(I)I -/
abbrev RM_X7_byteAt : Room := { frames := 1, cells := 0, slots := 0, locals := 40 }
def cw_X7_byteAt : Cond := Cond.code yX7_byteAt cX7_byteAt 2 (Option.some FieldType.int)
theorem hd_X7_byteAt : yX7_byteAt.cls ≠ "java/lang/invoke/MethodHandle" ∧ yX7_byteAt.cls ≠ "java/lang/invoke/VarHandle" ∧ (parseMethodDescriptor yX7_byteAt.desc).map (fun d => d.parameters.length) = some 1 := by decide +kernel
theorem dX7_byteAt_0 : decode cX7_byteAt 0 = .ok (.iload_n 1, 1) := by decide +kernel
theorem dX7_byteAt_1 : decode cX7_byteAt 1 = .ok (.ifCond .lt 31, 3) := by decide +kernel
theorem dX7_byteAt_4 : decode cX7_byteAt 4 = .ok (.iload_n 1, 1) := by decide +kernel
theorem dX7_byteAt_5 : decode cX7_byteAt 5 = .ok (.aload_n 0, 1) := by decide +kernel
theorem dX7_byteAt_6 : decode cX7_byteAt 6 = .ok (.getfield 15, 3) := by decide +kernel
theorem dX7_byteAt_9 : decode cX7_byteAt 9 = .ok (.if_icmp .ge 23, 3) := by decide +kernel
theorem dX7_byteAt_12 : decode cX7_byteAt 12 = .ok (.iload_n 1, 1) := by decide +kernel
theorem dX7_byteAt_13 : decode cX7_byteAt 13 = .ok (.sipush 400, 3) := by decide +kernel
theorem dX7_byteAt_16 : decode cX7_byteAt 16 = .ok (.if_icmp .ge 16, 3) := by decide +kernel
theorem dX7_byteAt_19 : decode cX7_byteAt 19 = .ok (.aload_n 0, 1) := by decide +kernel
theorem dX7_byteAt_20 : decode cX7_byteAt 20 = .ok (.getfield 9, 3) := by decide +kernel
theorem dX7_byteAt_23 : decode cX7_byteAt 23 = .ok (.iload_n 1, 1) := by decide +kernel
theorem dX7_byteAt_24 : decode cX7_byteAt 24 = .ok (.baload, 1) := by decide +kernel
theorem dX7_byteAt_25 : decode cX7_byteAt 25 = .ok (.sipush 255, 3) := by decide +kernel
theorem dX7_byteAt_28 : decode cX7_byteAt 28 = .ok (.iand, 1) := by decide +kernel
theorem dX7_byteAt_29 : decode cX7_byteAt 29 = .ok (.goto 4, 3) := by decide +kernel
theorem dX7_byteAt_32 : decode cX7_byteAt 32 = .ok (.iconst (-1), 1) := by decide +kernel
theorem dX7_byteAt_33 : decode cX7_byteAt 33 = .ok (.ireturn, 1) := by decide +kernel
def wp_X7_byteAt (S : Sh) (M : Mm) (u0 : Int) (u1 : Int) (post : Int → Mm → Prop) : Prop := wIf (u1 < 0) (wC (-1) fun v1 => post v1 M) (wGet S M u0 7 1 fun v3 => wIf (v3 ≤ u1) (wC (-1) fun v5 => post v5 M) (wC 400 fun v7 => wIf (v7 ≤ u1) (wC (-1) fun v9 => post v9 M) (wGetR S M u0 7 0 fun v11 => wLd S M v11 13 u1 fun v13 => wC 255 fun v15 => wO iAnd v13 v15 fun v17 => post v17 M)))
set_option maxHeartbeats 4000000 in
set_option maxRecDepth 100000 in
theorem c_X7_byteAt (l : Launch) (D : va_G) (G : Gt) (S : Sh) (M : Mm) (xl0 : Int) (zl1 : Int32) (post : Int → Mm → Prop) (h : wp_X7_byteAt S M xl0 zl1.toInt post) : Met l yX7_byteAt (cw_X7_byteAt :: gw) RM_X7_byteAt (va_Pc [.ref (adr G xl0), .int zl1] (fun U => KN D G U ∧ Wd D G S M U.heap)) (QI D G S post) 0 0 (aG G) := by
  refine Met.ofW (cc := cX7_byteAt) (maxL := 2) (ret := (some .int)) (by decide) rfl ?_
  intro p e s m args below meth c s₁ B hml hv
  obtain ⟨rfl, hK, hP⟩ := hv
  have hx := B.exec
  have hb := B.bytes
  have hr := B.returns
  have hts := atoms_spec (ws := cw_X7_byteAt :: gw) B.pre
  have hown : s.vm.findClass RX7 = some m.cls := findClass_of_methodNamed B.named
  have hlocks := B.notSynchronized
  have hS : va_S (aG G) s.heap s.heap [] := va_S.rf
  have C : Cx p s m ([.ref (adr G xl0), .int zl1] : List Value).toArray meth c D G cX7_byteAt 2 (some .int) (cw_X7_byteAt :: gw) RX7 := ⟨hx, hb, hr, hlocks, hml, hown, hts, hK⟩
  have hl := lv_entry ([.ref (adr G xl0), .int zl1]) (n := 2) (Nat.le_of_ble_eq_true rfl)
  rw [lg_entry_eq]
  generalize (lg_sl ([.ref (adr G xl0), .int zl1]) ++ List.replicate (2 - (lg_sl ([.ref (adr G xl0), .int zl1])).length) Slot.unset).toArray = ls at hl ⊢
  have hl : lv_has ls 2 [(0, .ref (adr G xl0)), (1, .int zl1)] := hl
  unfold wp_X7_byteAt at h
  refine lv_iload_n hx hb dX7_byteAt_0 rfl (lv_at hl 1 rfl) ?_
  refine r_if_lt (tgt := 32) hx hb dX7_byteAt_1 (by decide) h (fun h => ?_) (fun h => ?_)
  · refine r_iconst hx hb dX7_byteAt_32 (by decide) h (fun z2 h => ?_)
    exact r_iret hx hb hr hlocks hP hS dX7_byteAt_33 h
  · refine lv_iload_n hx hb dX7_byteAt_4 rfl (lv_at hl 1 rfl) ?_
    refine lv_aload_n hx hb dX7_byteAt_5 rfl (lv_at hl 0 rfl) ?_
    refine r_geti (C := RX7) (T := TX7) (N := 5) hx hb hts (fun w h => List.mem_cons_of_mem _ (iX7 w h)) hown hK hP rfl (by decide) rfl 1 (by decide) (hts _ (List.mem_cons_of_mem _ kw_37)) (fun _ h9 => h9) dX7_byteAt_6 (by decide) h (fun z4 h => ?_)
    refine r_icmp_ge (tgt := 32) hx hb dX7_byteAt_9 (by decide) h (fun h => ?_) (fun h => ?_)
    · refine r_iconst hx hb dX7_byteAt_32 (by decide) h (fun z6 h => ?_)
      exact r_iret hx hb hr hlocks hP hS dX7_byteAt_33 h
    · refine lv_iload_n hx hb dX7_byteAt_12 rfl (lv_at hl 1 rfl) ?_
      refine r_sipush hx hb dX7_byteAt_13 (by decide) h (fun z8 h => ?_)
      refine r_icmp_ge (tgt := 32) hx hb dX7_byteAt_16 (by decide) h (fun h => ?_) (fun h => ?_)
      · refine r_iconst hx hb dX7_byteAt_32 (by decide) h (fun z10 h => ?_)
        exact r_iret hx hb hr hlocks hP hS dX7_byteAt_33 h
      · refine lv_aload_n hx hb dX7_byteAt_19 rfl (lv_at hl 0 rfl) ?_
        refine r_getr (C := RX7) (T := TX7) (N := 5) hx hb hts (fun w h => List.mem_cons_of_mem _ (iX7 w h)) hown hK hP rfl (by decide) rfl 0 (by decide) (hts _ (List.mem_cons_of_mem _ kw_36)) (fun _ h9 => h9) dX7_byteAt_20 (by decide) h (fun x12 h => ?_)
        refine lv_iload_n hx hb dX7_byteAt_23 rfl (lv_at hl 1 rfl) ?_
        refine r_bald hx hb hK hP dX7_byteAt_24 h (fun z14 h => ?_)
        refine r_sipush hx hb dX7_byteAt_25 (by decide) h (fun z16 h => ?_)
        refine r_iand hx hb dX7_byteAt_28 h (fun z18 h => ?_)
        refine lv_goto (tgt := 33) hx hb dX7_byteAt_29 (by decide) ?_
        exact r_iret hx hb hr hlocks hP hS dX7_byteAt_33 h
/-! TurningMilk$Tape.takesWord(Ljava/lang/String;)Z -/
abbrev RM_X7_takesWord : Room := { frames := 6, cells := 0, slots := 0, locals := 281 }
def cw_X7_takesWord : Cond := Cond.code yX7_takesWord cX7_takesWord 4 (Option.some FieldType.boolean)
theorem hd_X7_takesWord : yX7_takesWord.cls ≠ "java/lang/invoke/MethodHandle" ∧ yX7_takesWord.cls ≠ "java/lang/invoke/VarHandle" ∧ (parseMethodDescriptor yX7_takesWord.desc).map (fun d => d.parameters.length) = some 1 := by decide +kernel
theorem dX7_takesWord_0 : decode cX7_takesWord 0 = .ok (.aload_n 0, 1) := by decide +kernel
theorem dX7_takesWord_1 : decode cX7_takesWord 1 = .ok (.invokevirtual 28, 3) := by decide +kernel
theorem dX7_takesWord_4 : decode cX7_takesWord 4 = .ok (.pop, 1) := by decide +kernel
theorem dX7_takesWord_5 : decode cX7_takesWord 5 = .ok (.aload_n 1, 1) := by decide +kernel
theorem dX7_takesWord_6 : decode cX7_takesWord 6 = .ok (.invokevirtual 36, 3) := by decide +kernel
theorem dX7_takesWord_9 : decode cX7_takesWord 9 = .ok (.istore_n 2, 1) := by decide +kernel
theorem dX7_takesWord_10 : decode cX7_takesWord 10 = .ok (.iconst 0, 1) := by decide +kernel
theorem dX7_takesWord_11 : decode cX7_takesWord 11 = .ok (.istore_n 3, 1) := by decide +kernel
theorem dX7_takesWord_12 : decode cX7_takesWord 12 = .ok (.iload_n 3, 1) := by decide +kernel
theorem dX7_takesWord_13 : decode cX7_takesWord 13 = .ok (.iload_n 2, 1) := by decide +kernel
theorem dX7_takesWord_14 : decode cX7_takesWord 14 = .ok (.if_icmp .ge 29, 3) := by decide +kernel
theorem dX7_takesWord_17 : decode cX7_takesWord 17 = .ok (.aload_n 0, 1) := by decide +kernel
theorem dX7_takesWord_18 : decode cX7_takesWord 18 = .ok (.aload_n 0, 1) := by decide +kernel
theorem dX7_takesWord_19 : decode cX7_takesWord 19 = .ok (.getfield 19, 3) := by decide +kernel
theorem dX7_takesWord_22 : decode cX7_takesWord 22 = .ok (.iload_n 3, 1) := by decide +kernel
theorem dX7_takesWord_23 : decode cX7_takesWord 23 = .ok (.iadd, 1) := by decide +kernel
theorem dX7_takesWord_24 : decode cX7_takesWord 24 = .ok (.invokevirtual 32, 3) := by decide +kernel
theorem dX7_takesWord_27 : decode cX7_takesWord 27 = .ok (.aload_n 1, 1) := by decide +kernel
theorem dX7_takesWord_28 : decode cX7_takesWord 28 = .ok (.iload_n 3, 1) := by decide +kernel
theorem dX7_takesWord_29 : decode cX7_takesWord 29 = .ok (.invokevirtual 40, 3) := by decide +kernel
theorem dX7_takesWord_32 : decode cX7_takesWord 32 = .ok (.if_icmp .eq 5, 3) := by decide +kernel
theorem dX7_takesWord_35 : decode cX7_takesWord 35 = .ok (.iconst 0, 1) := by decide +kernel
theorem dX7_takesWord_36 : decode cX7_takesWord 36 = .ok (.ireturn, 1) := by decide +kernel
theorem dX7_takesWord_37 : decode cX7_takesWord 37 = .ok (.iinc 3 1, 3) := by decide +kernel
theorem dX7_takesWord_40 : decode cX7_takesWord 40 = .ok (.goto (-28), 3) := by decide +kernel
theorem dX7_takesWord_43 : decode cX7_takesWord 43 = .ok (.aload_n 0, 1) := by decide +kernel
theorem dX7_takesWord_44 : decode cX7_takesWord 44 = .ok (.aload_n 0, 1) := by decide +kernel
theorem dX7_takesWord_45 : decode cX7_takesWord 45 = .ok (.getfield 19, 3) := by decide +kernel
theorem dX7_takesWord_48 : decode cX7_takesWord 48 = .ok (.iload_n 2, 1) := by decide +kernel
theorem dX7_takesWord_49 : decode cX7_takesWord 49 = .ok (.iadd, 1) := by decide +kernel
theorem dX7_takesWord_50 : decode cX7_takesWord 50 = .ok (.invokevirtual 32, 3) := by decide +kernel
theorem dX7_takesWord_53 : decode cX7_takesWord 53 = .ok (.istore_n 3, 1) := by decide +kernel
theorem dX7_takesWord_54 : decode cX7_takesWord 54 = .ok (.iload_n 3, 1) := by decide +kernel
theorem dX7_takesWord_55 : decode cX7_takesWord 55 = .ok (.bipush 97, 2) := by decide +kernel
theorem dX7_takesWord_57 : decode cX7_takesWord 57 = .ok (.if_icmp .lt 11, 3) := by decide +kernel
theorem dX7_takesWord_60 : decode cX7_takesWord 60 = .ok (.iload_n 3, 1) := by decide +kernel
theorem dX7_takesWord_61 : decode cX7_takesWord 61 = .ok (.bipush 122, 2) := by decide +kernel
theorem dX7_takesWord_63 : decode cX7_takesWord 63 = .ok (.if_icmp .gt 5, 3) := by decide +kernel
theorem dX7_takesWord_66 : decode cX7_takesWord 66 = .ok (.iconst 0, 1) := by decide +kernel
theorem dX7_takesWord_67 : decode cX7_takesWord 67 = .ok (.ireturn, 1) := by decide +kernel
theorem dX7_takesWord_68 : decode cX7_takesWord 68 = .ok (.aload_n 0, 1) := by decide +kernel
theorem dX7_takesWord_69 : decode cX7_takesWord 69 = .ok (.dup, 1) := by decide +kernel
theorem dX7_takesWord_70 : decode cX7_takesWord 70 = .ok (.getfield 19, 3) := by decide +kernel
theorem dX7_takesWord_73 : decode cX7_takesWord 73 = .ok (.iload_n 2, 1) := by decide +kernel
theorem dX7_takesWord_74 : decode cX7_takesWord 74 = .ok (.iadd, 1) := by decide +kernel
theorem dX7_takesWord_75 : decode cX7_takesWord 75 = .ok (.putfield 19, 3) := by decide +kernel
theorem dX7_takesWord_78 : decode cX7_takesWord 78 = .ok (.iconst 1, 1) := by decide +kernel
theorem dX7_takesWord_79 : decode cX7_takesWord 79 = .ok (.ireturn, 1) := by decide +kernel
def wp_X7_takesWord_68 (S : Sh) (post : Int → Mm → Prop) (u0 : Int) (u2 : Int) (M : Mm) : Prop := wGet S M u0 7 2 fun v1 => wA v1 u2 fun v3 => wPut S M u0 7 2 v3 fun M5 => wC 1 fun v6 => (v6 = 0 ∨ v6 = 1) ∧ post v6 M5
def wp_X7_takesWord_12 (S : Sh) (post : Int → Mm → Prop) : Nat → Int → Int → Int → Int → Mm → Prop
  | 0, _, _, _, _, _ => False
  | n + 1, u0, u1, u2, u3, M => wIf (u2 ≤ u3) (wGet S M u0 7 2 fun v8 => wA v8 u2 fun v10 => isK S u0 7 ∧ (wp_X7_byteAt S M u0 v10 <| fun v13 M12 => wC 97 fun v15 => wIf (v13 < v15) (wp_X7_takesWord_68 S post u0 u2 M12) (wC 122 fun v17 => wIf (v17 < v13) (wp_X7_takesWord_68 S post u0 u2 M12) (wC 0 fun v19 => (v19 = 0 ∨ v19 = 1) ∧ post v19 M12)))) (wGet S M u0 7 2 fun v21 => wA v21 u3 fun v23 => isK S u0 7 ∧ (wp_X7_byteAt S M u0 v23 <| fun v26 M25 => wSch u1 u3 fun v28 => wIf (v26 = v28) (wA u3 1 fun v31 => wp_X7_takesWord_12 S post n u0 u1 u2 v31 M25) (wC 0 fun v33 => (v33 = 0 ∨ v33 = 1) ∧ post v33 M25)))
def wp_X7_takesWord (S : Sh) (M : Mm) (u0 : Int) (u1 : Int) (post : Int → Mm → Prop) : Prop := isK S u0 7 ∧ (wp_X7_look S M u0 <| fun v36 M35 => wSlen u1 fun v38 => wC 0 fun v41 => ∃ n9 : Nat, wp_X7_takesWord_12 S post n9 u0 u1 v38 v41 M35)
set_option maxHeartbeats 4000000 in
set_option maxRecDepth 100000 in
theorem t_X7_takesWord_68 {p : Program} {l : Launch} {e : Env} {s : State} {m : MethodId} {args : Array Value} {below : List Frame} {meth : Method} {c : Code} {D : va_G} {G : Gt} {S : Sh} {post : Int → Mm → Prop} (C : Cx p s m args meth c D G cX7_takesWord 4 (some .boolean) (cw_X7_takesWord :: gw) RX7) : ∀ (xl0 : Int) (zl2 : Int32) (M : Mm) (H : Heap) (locs : List Loc) (ls : Array Slot), Wd D G S M H → va_S (aG G) s.heap H locs → lv_has ls 4 [(0, .ref (adr G xl0)), (2, .int zl2)] → wp_X7_takesWord_68 S post xl0 zl2.toInt  M → W p l e RM_X7_takesWord s m args below meth c H locs 0 0 (MQ below (QI D G S post) args s 0 0 (aG G)) (F0 m 68 ls []) := by
  obtain ⟨hx, hb, hr, hlocks, hml, hown, hts, hK⟩ := id C
  intro xl0 zl2 M H locs ls hP hS hl h
  unfold wp_X7_takesWord_68 at h
  refine lv_aload_n hx hb dX7_takesWord_68 rfl (lv_at hl 0 rfl) ?_
  refine lv_dup hx hb dX7_takesWord_69 rfl ?_
  refine r_geti (C := RX7) (T := TX7) (N := 5) hx hb hts (fun w h => List.mem_cons_of_mem _ (iX7 w h)) hown hK hP rfl (by decide) rfl 2 (by decide) (hts _ (List.mem_cons_of_mem _ kw_39)) (fun _ h9 => h9) dX7_takesWord_70 (by decide) h (fun z2 h => ?_)
  refine lv_iload_n hx hb dX7_takesWord_73 rfl (lv_at hl 1 rfl) ?_
  refine r_iadd hx hb dX7_takesWord_74 h (fun z4 h => ?_)
  refine r_puti (C := RX7) (T := TX7) (N := 5) hx hb hts (fun w h => List.mem_cons_of_mem _ (iX7 w h)) hown hK hP tyX7 tyX7_ok nmX7 hS rfl (by decide) rfl 2 (by decide) (hts _ (List.mem_cons_of_mem _ kw_39)) (fun _ h9 => h9) rfl (tyX7_ok 2 (by decide)) rfl rfl dX7_takesWord_75 (by decide) h (fun M5 H locs h hP hS => ?_)
  refine r_iconst hx hb dX7_takesWord_78 (by decide) h (fun z7 h => ?_)
  exact r_zret hx hb hr hlocks hP hS dX7_takesWord_79 h
set_option maxHeartbeats 4000000 in
set_option maxRecDepth 100000 in
theorem t_X7_takesWord_12 {p : Program} {l : Launch} {e : Env} {s : State} {m : MethodId} {args : Array Value} {below : List Frame} {meth : Method} {c : Code} {D : va_G} {G : Gt} {S : Sh} {post : Int → Mm → Prop} (C : Cx p s m args meth c D G cX7_takesWord 4 (some .boolean) (cw_X7_takesWord :: gw) RX7) : ∀ (n : Nat) (xl0 : Int) (xl1 : Int) (zl2 : Int32) (zl3 : Int32) (M : Mm) (H : Heap) (locs : List Loc) (ls : Array Slot), Wd D G S M H → va_S (aG G) s.heap H locs → lv_has ls 4 [(0, .ref (adr G xl0)), (1, .ref (adr G xl1)), (2, .int zl2), (3, .int zl3)] → wp_X7_takesWord_12 S post n xl0 xl1 zl2.toInt zl3.toInt  M → W p l e RM_X7_takesWord s m args below meth c H locs 0 0 (MQ below (QI D G S post) args s 0 0 (aG G)) (F0 m 12 ls []) := by
  obtain ⟨hx, hb, hr, hlocks, hml, hown, hts, hK⟩ := id C
  intro n
  induction n with
  | zero => intro xl0 xl1 zl2 zl3 M H locs ls hP hS hl h; exact h.elim
  | succ n ih =>
    intro xl0 xl1 zl2 zl3 M H locs ls hP hS hl h
    unfold wp_X7_takesWord_12 at h
    refine lv_iload_n hx hb dX7_takesWord_12 rfl (lv_at hl 3 rfl) ?_
    refine lv_iload_n hx hb dX7_takesWord_13 rfl (lv_at hl 2 rfl) ?_
    refine r_icmp_ge (tgt := 43) hx hb dX7_takesWord_14 (by decide) h (fun h => ?_) (fun h => ?_)
    · refine lv_aload_n hx hb dX7_takesWord_43 rfl (lv_at hl 0 rfl) ?_
      refine lv_aload_n hx hb dX7_takesWord_44 rfl (lv_at hl 0 rfl) ?_
      refine r_geti (C := RX7) (T := TX7) (N := 5) hx hb hts (fun w h => List.mem_cons_of_mem _ (iX7 w h)) hown hK hP rfl (by decide) rfl 2 (by decide) (hts _ (List.mem_cons_of_mem _ kw_39)) (fun _ h9 => h9) dX7_takesWord_45 (by decide) h (fun z9 h => ?_)
      refine lv_iload_n hx hb dX7_takesWord_48 rfl (lv_at hl 2 rfl) ?_
      refine r_iadd hx hb dX7_takesWord_49 h (fun z11 h => ?_)
      refine q_Vi hx hb hml hown hts hK hP hS (c_X7_byteAt l D G S _ xl0 z11 _ h.2) ⟨callB_of 1 hts (gw_good kw_615) rfl rfl rfl (hts _ (List.mem_cons_of_mem _ kw_2)) (hts _ (List.mem_cons_of_mem _ kw_612)) hd_X7_byteAt ⟨Nat.le_of_ble_eq_true rfl, Nat.le_of_ble_eq_true rfl⟩, (hts _ (List.mem_cons_of_mem _ kw_614)), (hts _ (List.mem_cons_of_mem _ kp_2))⟩ h.1 (ci := 7) rfl (by decide) rfl hl.1 rfl (lv_room (Nat.le_of_ble_eq_true rfl)) dX7_takesWord_50 ⟨Nat.zero_le _, Nat.zero_le _⟩ (fun z14 M12 H locs h hP hS => ?_)
      refine lv_istore_n (lv' := [(3, .int z14), (0, .ref (adr G xl0)), (1, .ref (adr G xl1)), (2, .int zl2)]) hx hb dX7_takesWord_53 rfl hl (by decide) rfl (fun ls hl => ?_)
      refine lv_iload_n hx hb dX7_takesWord_54 rfl (lv_at hl 0 rfl) ?_
      refine r_bipush hx hb dX7_takesWord_55 (by decide) h (fun z16 h => ?_)
      refine r_icmp_lt (tgt := 68) hx hb dX7_takesWord_57 (by decide) h (fun h => ?_) (fun h => ?_)
      · exact t_X7_takesWord_68 C xl0 zl2 _ _ _ _ hP hS (lv_sub hl [1, 3] rfl) h
      · refine lv_iload_n hx hb dX7_takesWord_60 rfl (lv_at hl 0 rfl) ?_
        refine r_bipush hx hb dX7_takesWord_61 (by decide) h (fun z18 h => ?_)
        refine r_icmp_gt (tgt := 68) hx hb dX7_takesWord_63 (by decide) h (fun h => ?_) (fun h => ?_)
        · exact t_X7_takesWord_68 C xl0 zl2 _ _ _ _ hP hS (lv_sub hl [1, 3] rfl) h
        · refine r_iconst hx hb dX7_takesWord_66 (by decide) h (fun z20 h => ?_)
          exact r_zret hx hb hr hlocks hP hS dX7_takesWord_67 h
    · refine lv_aload_n hx hb dX7_takesWord_17 rfl (lv_at hl 0 rfl) ?_
      refine lv_aload_n hx hb dX7_takesWord_18 rfl (lv_at hl 0 rfl) ?_
      refine r_geti (C := RX7) (T := TX7) (N := 5) hx hb hts (fun w h => List.mem_cons_of_mem _ (iX7 w h)) hown hK hP rfl (by decide) rfl 2 (by decide) (hts _ (List.mem_cons_of_mem _ kw_39)) (fun _ h9 => h9) dX7_takesWord_19 (by decide) h (fun z22 h => ?_)
      refine lv_iload_n hx hb dX7_takesWord_22 rfl (lv_at hl 3 rfl) ?_
      refine r_iadd hx hb dX7_takesWord_23 h (fun z24 h => ?_)
      refine q_Vi hx hb hml hown hts hK hP hS (c_X7_byteAt l D G S _ xl0 z24 _ h.2) ⟨callB_of 1 hts (gw_good kw_615) rfl rfl rfl (hts _ (List.mem_cons_of_mem _ kw_2)) (hts _ (List.mem_cons_of_mem _ kw_612)) hd_X7_byteAt ⟨Nat.le_of_ble_eq_true rfl, Nat.le_of_ble_eq_true rfl⟩, (hts _ (List.mem_cons_of_mem _ kw_614)), (hts _ (List.mem_cons_of_mem _ kp_2))⟩ h.1 (ci := 7) rfl (by decide) rfl hl.1 rfl (lv_room (Nat.le_of_ble_eq_true rfl)) dX7_takesWord_24 ⟨Nat.zero_le _, Nat.zero_le _⟩ (fun z27 M25 H locs h hP hS => ?_)
      refine lv_aload_n hx hb dX7_takesWord_27 rfl (lv_at hl 1 rfl) ?_
      refine lv_iload_n hx hb dX7_takesWord_28 rfl (lv_at hl 3 rfl) ?_
      obtain ⟨k9, hk9, hx9, b9, c9, h⟩ := h
      refine q_Tx hx hb hml hown hts hK hP hS hk9 hx9 (c_J0_charAt_5068e l D G S _ k9 hk9 zl3 (fun r M1 => r = ((txB.getD k9 []).getD zl3.toInt.toNat 0).toInt ∧ M1 = M25) b9 c9 ⟨rfl, rfl⟩) ⟨callB_of 1 hts (gw_good kw_619) rfl rfl rfl (hts _ (List.mem_cons_of_mem _ kw_15)) (hts _ (List.mem_cons_of_mem _ kw_616)) hd_J0_charAt_5068e ⟨Nat.le_of_ble_eq_true rfl, Nat.le_of_ble_eq_true rfl⟩, (hts _ (List.mem_cons_of_mem _ kw_617)), (hts _ (List.mem_cons_of_mem _ kw_618))⟩ rfl hl.1 rfl (lv_room (Nat.le_of_ble_eq_true rfl)) dX7_takesWord_29 ⟨Nat.zero_le _, Nat.zero_le _⟩ (fun z29 M30 H locs h9 hP hS => ?_)
      obtain ⟨e9, f9⟩ := h9
      rw [f9] at hP
      rw [← e9] at h
      refine r_icmp_eq (tgt := 37) hx hb dX7_takesWord_32 (by decide) h (fun h => ?_) (fun h => ?_)
      · refine r_iinc hx hb (fun z32 => [(3, .int z32), (0, .ref (adr G xl0)), (1, .ref (adr G xl1)), (2, .int zl2)]) dX7_takesWord_37 (by decide) hl (k := 3) rfl (by decide) (fun _ => rfl) h (fun z32 ls hl h => ?_)
        refine lv_goto (tgt := 12) hx hb dX7_takesWord_40 (by decide) ?_
        exact ih xl0 xl1 zl2 z32 _ _ _ _ hP hS (lv_sub hl [1, 2, 3, 0] rfl) h
      · refine r_iconst hx hb dX7_takesWord_35 (by decide) h (fun z34 h => ?_)
        exact r_zret hx hb hr hlocks hP hS dX7_takesWord_36 h
set_option maxHeartbeats 4000000 in
set_option maxRecDepth 100000 in
theorem c_X7_takesWord (l : Launch) (D : va_G) (G : Gt) (S : Sh) (M : Mm) (xl0 : Int) (xl1 : Int) (post : Int → Mm → Prop) (h : wp_X7_takesWord S M xl0 xl1 post) : Met l yX7_takesWord (cw_X7_takesWord :: gw) RM_X7_takesWord (va_Pc [.ref (adr G xl0), .ref (adr G xl1)] (fun U => KN D G U ∧ Wd D G S M U.heap)) (QI D G S post) 0 0 (aG G) := by
  refine Met.ofW (cc := cX7_takesWord) (maxL := 4) (ret := (some .boolean)) (by decide) rfl ?_
  intro p e s m args below meth c s₁ B hml hv
  obtain ⟨rfl, hK, hP⟩ := hv
  have hx := B.exec
  have hb := B.bytes
  have hr := B.returns
  have hts := atoms_spec (ws := cw_X7_takesWord :: gw) B.pre
  have hown : s.vm.findClass RX7 = some m.cls := findClass_of_methodNamed B.named
  have hlocks := B.notSynchronized
  have hS : va_S (aG G) s.heap s.heap [] := va_S.rf
  have C : Cx p s m ([.ref (adr G xl0), .ref (adr G xl1)] : List Value).toArray meth c D G cX7_takesWord 4 (some .boolean) (cw_X7_takesWord :: gw) RX7 := ⟨hx, hb, hr, hlocks, hml, hown, hts, hK⟩
  have hl := lv_entry ([.ref (adr G xl0), .ref (adr G xl1)]) (n := 4) (Nat.le_of_ble_eq_true rfl)
  rw [lg_entry_eq]
  generalize (lg_sl ([.ref (adr G xl0), .ref (adr G xl1)]) ++ List.replicate (4 - (lg_sl ([.ref (adr G xl0), .ref (adr G xl1)])).length) Slot.unset).toArray = ls at hl ⊢
  have hl : lv_has ls 4 [(0, .ref (adr G xl0)), (1, .ref (adr G xl1))] := hl
  unfold wp_X7_takesWord at h
  refine lv_aload_n hx hb dX7_takesWord_0 rfl (lv_at hl 0 rfl) ?_
  refine q_Vi hx hb hml hown hts hK hP hS (c_X7_look l D G S _ xl0 _ h.2) ⟨callB_of 0 hts (gw_good kw_601) rfl rfl rfl (hts _ (List.mem_cons_of_mem _ kw_2)) (hts _ (List.mem_cons_of_mem _ kw_598)) hd_X7_look ⟨Nat.le_of_ble_eq_true rfl, Nat.le_of_ble_eq_true rfl⟩, (hts _ (List.mem_cons_of_mem _ kw_599)), (hts _ (List.mem_cons_of_mem _ kw_600))⟩ h.1 (ci := 7) rfl (by decide) rfl hl.1 rfl (lv_room (Nat.le_of_ble_eq_true rfl)) dX7_takesWord_1 ⟨Nat.zero_le _, Nat.zero_le _⟩ (fun z37 M35 H locs h hP hS => ?_)
  refine lv_pop hx hb dX7_takesWord_4 rfl ?_
  refine lv_aload_n hx hb dX7_takesWord_5 rfl (lv_at hl 1 rfl) ?_
  obtain ⟨k9, hk9, hx9, h⟩ := h
  refine q_Tx hx hb hml hown hts hK hP hS hk9 hx9 (c_J0_length_8abf5 l D G S _ k9 hk9 (fun r M1 => r = (txL.getD k9 0 : Nat) ∧ M1 = M35) ⟨rfl, rfl⟩) ⟨callB_of 0 hts (gw_good kw_605) rfl rfl rfl (hts _ (List.mem_cons_of_mem _ kw_15)) (hts _ (List.mem_cons_of_mem _ kw_602)) hd_J0_length_8abf5 ⟨Nat.le_of_ble_eq_true rfl, Nat.le_of_ble_eq_true rfl⟩, (hts _ (List.mem_cons_of_mem _ kw_603)), (hts _ (List.mem_cons_of_mem _ kw_604))⟩ rfl hl.1 rfl (lv_room (Nat.le_of_ble_eq_true rfl)) dX7_takesWord_6 ⟨Nat.zero_le _, Nat.zero_le _⟩ (fun z39 M40 H locs h9 hP hS => ?_)
  obtain ⟨e9, f9⟩ := h9
  rw [f9] at hP
  rw [← e9] at h
  refine lv_istore_n (lv' := [(2, .int z39), (0, .ref (adr G xl0)), (1, .ref (adr G xl1))]) hx hb dX7_takesWord_9 rfl hl (by decide) rfl (fun ls hl => ?_)
  refine r_iconst hx hb dX7_takesWord_10 (by decide) h (fun z42 h => ?_)
  refine lv_istore_n (lv' := [(3, .int z42), (2, .int z39), (0, .ref (adr G xl0)), (1, .ref (adr G xl1))]) hx hb dX7_takesWord_11 rfl hl (by decide) rfl (fun ls hl => ?_)
  obtain ⟨n9, h⟩ := h
  exact t_X7_takesWord_12 C n9 xl0 xl1 z39 z42 _ _ _ _ hP hS (lv_sub hl [2, 3, 1, 0] rfl) h
/-! TurningMilk$DairyReader.takeKind()I -/
abbrev RM_X0_takeKind : Room := { frames := 7, cells := 0, slots := 0, locals := 304 }
def cw_X0_takeKind : Cond := Cond.code yX0_takeKind cX0_takeKind 2 (Option.some FieldType.int)
theorem hd_X0_takeKind : yX0_takeKind.cls ≠ "java/lang/invoke/MethodHandle" ∧ yX0_takeKind.cls ≠ "java/lang/invoke/VarHandle" ∧ (parseMethodDescriptor yX0_takeKind.desc).map (fun d => d.parameters.length) = some 0 := by decide +kernel
theorem dX0_takeKind_0 : decode cX0_takeKind 0 = .ok (.iconst 0, 1) := by decide +kernel
theorem dX0_takeKind_1 : decode cX0_takeKind 1 = .ok (.istore_n 1, 1) := by decide +kernel
theorem dX0_takeKind_2 : decode cX0_takeKind 2 = .ok (.iload_n 1, 1) := by decide +kernel
theorem dX0_takeKind_3 : decode cX0_takeKind 3 = .ok (.bipush 6, 2) := by decide +kernel
theorem dX0_takeKind_5 : decode cX0_takeKind 5 = .ok (.if_icmp .ge 25, 3) := by decide +kernel
theorem dX0_takeKind_8 : decode cX0_takeKind 8 = .ok (.aload_n 0, 1) := by decide +kernel
theorem dX0_takeKind_9 : decode cX0_takeKind 9 = .ok (.getfield 25, 3) := by decide +kernel
theorem dX0_takeKind_12 : decode cX0_takeKind 12 = .ok (.iload_n 1, 1) := by decide +kernel
theorem dX0_takeKind_13 : decode cX0_takeKind 13 = .ok (.invokestatic 68, 3) := by decide +kernel
theorem dX0_takeKind_16 : decode cX0_takeKind 16 = .ok (.invokevirtual 72, 3) := by decide +kernel
theorem dX0_takeKind_19 : decode cX0_takeKind 19 = .ok (.ifCond .eq 5, 3) := by decide +kernel
theorem dX0_takeKind_22 : decode cX0_takeKind 22 = .ok (.iload_n 1, 1) := by decide +kernel
theorem dX0_takeKind_23 : decode cX0_takeKind 23 = .ok (.ireturn, 1) := by decide +kernel
theorem dX0_takeKind_24 : decode cX0_takeKind 24 = .ok (.iinc 1 1, 3) := by decide +kernel
theorem dX0_takeKind_27 : decode cX0_takeKind 27 = .ok (.goto (-25), 3) := by decide +kernel
theorem dX0_takeKind_30 : decode cX0_takeKind 30 = .ok (.iconst (-1), 1) := by decide +kernel
theorem dX0_takeKind_31 : decode cX0_takeKind 31 = .ok (.ireturn, 1) := by decide +kernel
def wp_X0_takeKind_2 (S : Sh) (post : Int → Mm → Prop) : Nat → Int → Int → Mm → Prop
  | 0, _, _, _ => False
  | n + 1, u0, u1, M => wC 6 fun v1 => wIf (v1 ≤ u1) (wC (-1) fun v3 => post v3 M) (wGetR S M u0 0 0 fun v5 => wp_X0_nameOf S M u1 <| fun v8 M7 => isK S v5 7 ∧ (wp_X7_takesWord S M7 v5 v8 <| fun v11 M10 => wIf (v11 = 0) (wA u1 1 fun v13 => wp_X0_takeKind_2 S post n u0 v13 M10) (post u1 M10)))
def wp_X0_takeKind (S : Sh) (M : Mm) (u0 : Int) (post : Int → Mm → Prop) : Prop := wC 0 fun v15 => ∃ n9 : Nat, wp_X0_takeKind_2 S post n9 u0 v15 M
set_option maxHeartbeats 4000000 in
set_option maxRecDepth 100000 in
theorem t_X0_takeKind_2 {p : Program} {l : Launch} {e : Env} {s : State} {m : MethodId} {args : Array Value} {below : List Frame} {meth : Method} {c : Code} {D : va_G} {G : Gt} {S : Sh} {post : Int → Mm → Prop} (C : Cx p s m args meth c D G cX0_takeKind 2 (some .int) (cw_X0_takeKind :: gw) RX0) : ∀ (n : Nat) (xl0 : Int) (zl1 : Int32) (M : Mm) (H : Heap) (locs : List Loc) (ls : Array Slot), Wd D G S M H → va_S (aG G) s.heap H locs → lv_has ls 2 [(0, .ref (adr G xl0)), (1, .int zl1)] → wp_X0_takeKind_2 S post n xl0 zl1.toInt  M → W p l e RM_X0_takeKind s m args below meth c H locs 0 0 (MQ below (QI D G S post) args s 0 0 (aG G)) (F0 m 2 ls []) := by
  obtain ⟨hx, hb, hr, hlocks, hml, hown, hts, hK⟩ := id C
  intro n
  induction n with
  | zero => intro xl0 zl1 M H locs ls hP hS hl h; exact h.elim
  | succ n ih =>
    intro xl0 zl1 M H locs ls hP hS hl h
    unfold wp_X0_takeKind_2 at h
    refine lv_iload_n hx hb dX0_takeKind_2 rfl (lv_at hl 1 rfl) ?_
    refine r_bipush hx hb dX0_takeKind_3 (by decide) h (fun z2 h => ?_)
    refine r_icmp_ge (tgt := 30) hx hb dX0_takeKind_5 (by decide) h (fun h => ?_) (fun h => ?_)
    · refine r_iconst hx hb dX0_takeKind_30 (by decide) h (fun z4 h => ?_)
      exact r_iret hx hb hr hlocks hP hS dX0_takeKind_31 h
    · refine lv_aload_n hx hb dX0_takeKind_8 rfl (lv_at hl 0 rfl) ?_
      refine r_getr (C := RX0) (T := TX0) (N := 3) hx hb hts (fun w h => List.mem_cons_of_mem _ (iX0 w h)) hown hK hP rfl (by decide) rfl 0 (by decide) (hts _ (List.mem_cons_of_mem _ kw_289)) (fun _ h9 => h9) dX0_takeKind_9 (by decide) h (fun x6 h => ?_)
      refine lv_iload_n hx hb dX0_takeKind_12 rfl (lv_at hl 1 rfl) ?_
      refine q_Sr hx hb hml hown hts hK hP hS (c_X0_nameOf l D G S _ zl1 _ h) ⟨callB_of 1 hts (gw_good kw_587) rfl rfl rfl (hts _ (List.mem_cons_of_mem _ kw_7)) (hts _ (List.mem_cons_of_mem _ kw_585)) hd_X0_nameOf ⟨Nat.le_of_ble_eq_true rfl, Nat.le_of_ble_eq_true rfl⟩, (hts _ (List.mem_cons_of_mem _ kw_586))⟩ rfl hl.1 rfl (lv_room (Nat.le_of_ble_eq_true rfl)) dX0_takeKind_13 ⟨Nat.zero_le _, Nat.zero_le _⟩ (fun x9 M7 H locs h hP hS => ?_)
      refine q_Vi hx hb hml hown hts hK hP hS (c_X7_takesWord l D G S _ x6 x9 _ h.2) ⟨callB_of 1 hts (gw_good kw_597) rfl rfl rfl (hts _ (List.mem_cons_of_mem _ kw_2)) (hts _ (List.mem_cons_of_mem _ kw_594)) hd_X7_takesWord ⟨Nat.le_of_ble_eq_true rfl, Nat.le_of_ble_eq_true rfl⟩, (hts _ (List.mem_cons_of_mem _ kw_595)), (hts _ (List.mem_cons_of_mem _ kw_596))⟩ h.1 (ci := 7) rfl (by decide) rfl hl.1 rfl (lv_room (Nat.le_of_ble_eq_true rfl)) dX0_takeKind_16 ⟨Nat.zero_le _, Nat.zero_le _⟩ (fun z12 M10 H locs h hP hS => ?_)
      refine r_if_eq (tgt := 24) hx hb dX0_takeKind_19 (by decide) h (fun h => ?_) (fun h => ?_)
      · refine r_iinc hx hb (fun z14 => [(1, .int z14), (0, .ref (adr G xl0))]) dX0_takeKind_24 (by decide) hl (k := 1) rfl (by decide) (fun _ => rfl) h (fun z14 ls hl h => ?_)
        refine lv_goto (tgt := 2) hx hb dX0_takeKind_27 (by decide) ?_
        exact ih xl0 z14 _ _ _ _ hP hS (lv_sub hl [1, 0] rfl) h
      · refine lv_iload_n hx hb dX0_takeKind_22 rfl (lv_at hl 1 rfl) ?_
        exact r_iret hx hb hr hlocks hP hS dX0_takeKind_23 h
set_option maxHeartbeats 4000000 in
set_option maxRecDepth 100000 in
theorem c_X0_takeKind (l : Launch) (D : va_G) (G : Gt) (S : Sh) (M : Mm) (xl0 : Int) (post : Int → Mm → Prop) (h : wp_X0_takeKind S M xl0 post) : Met l yX0_takeKind (cw_X0_takeKind :: gw) RM_X0_takeKind (va_Pc [.ref (adr G xl0)] (fun U => KN D G U ∧ Wd D G S M U.heap)) (QI D G S post) 0 0 (aG G) := by
  refine Met.ofW (cc := cX0_takeKind) (maxL := 2) (ret := (some .int)) (by decide) rfl ?_
  intro p e s m args below meth c s₁ B hml hv
  obtain ⟨rfl, hK, hP⟩ := hv
  have hx := B.exec
  have hb := B.bytes
  have hr := B.returns
  have hts := atoms_spec (ws := cw_X0_takeKind :: gw) B.pre
  have hown : s.vm.findClass RX0 = some m.cls := findClass_of_methodNamed B.named
  have hlocks := B.notSynchronized
  have hS : va_S (aG G) s.heap s.heap [] := va_S.rf
  have C : Cx p s m ([.ref (adr G xl0)] : List Value).toArray meth c D G cX0_takeKind 2 (some .int) (cw_X0_takeKind :: gw) RX0 := ⟨hx, hb, hr, hlocks, hml, hown, hts, hK⟩
  have hl := lv_entry ([.ref (adr G xl0)]) (n := 2) (Nat.le_of_ble_eq_true rfl)
  rw [lg_entry_eq]
  generalize (lg_sl ([.ref (adr G xl0)]) ++ List.replicate (2 - (lg_sl ([.ref (adr G xl0)])).length) Slot.unset).toArray = ls at hl ⊢
  have hl : lv_has ls 2 [(0, .ref (adr G xl0))] := hl
  unfold wp_X0_takeKind at h
  refine r_iconst hx hb dX0_takeKind_0 (by decide) h (fun z16 h => ?_)
  refine lv_istore_n (lv' := [(1, .int z16), (0, .ref (adr G xl0))]) hx hb dX0_takeKind_1 rfl hl (by decide) rfl (fun ls hl => ?_)
  obtain ⟨n9, h⟩ := h
  exact t_X0_takeKind_2 C n9 xl0 z16 _ _ _ _ hP hS (lv_sub hl [1, 0] rfl) h
/-! TurningMilk$Tape.refuse(I)Z -/
abbrev RM_X7_refuse : Room := { frames := 1, cells := 0, slots := 0, locals := 40 }
def cw_X7_refuse : Cond := Cond.code yX7_refuse cX7_refuse 2 (Option.some FieldType.boolean)
theorem hd_X7_refuse : yX7_refuse.cls ≠ "java/lang/invoke/MethodHandle" ∧ yX7_refuse.cls ≠ "java/lang/invoke/VarHandle" ∧ (parseMethodDescriptor yX7_refuse.desc).map (fun d => d.parameters.length) = some 1 := by decide +kernel
theorem dX7_refuse_0 : decode cX7_refuse 0 = .ok (.aload_n 0, 1) := by decide +kernel
theorem dX7_refuse_1 : decode cX7_refuse 1 = .ok (.getfield 25, 3) := by decide +kernel
theorem dX7_refuse_4 : decode cX7_refuse 4 = .ok (.ifCond .ne 18, 3) := by decide +kernel
theorem dX7_refuse_7 : decode cX7_refuse 7 = .ok (.aload_n 0, 1) := by decide +kernel
theorem dX7_refuse_8 : decode cX7_refuse 8 = .ok (.iconst 1, 1) := by decide +kernel
theorem dX7_refuse_9 : decode cX7_refuse 9 = .ok (.bipush 8, 2) := by decide +kernel
theorem dX7_refuse_11 : decode cX7_refuse 11 = .ok (.aload_n 0, 1) := by decide +kernel
theorem dX7_refuse_12 : decode cX7_refuse 12 = .ok (.getfield 22, 3) := by decide +kernel
theorem dX7_refuse_15 : decode cX7_refuse 15 = .ok (.imul, 1) := by decide +kernel
theorem dX7_refuse_16 : decode cX7_refuse 16 = .ok (.iadd, 1) := by decide +kernel
theorem dX7_refuse_17 : decode cX7_refuse 17 = .ok (.iload_n 1, 1) := by decide +kernel
theorem dX7_refuse_18 : decode cX7_refuse 18 = .ok (.iadd, 1) := by decide +kernel
theorem dX7_refuse_19 : decode cX7_refuse 19 = .ok (.putfield 25, 3) := by decide +kernel
theorem dX7_refuse_22 : decode cX7_refuse 22 = .ok (.iconst 0, 1) := by decide +kernel
theorem dX7_refuse_23 : decode cX7_refuse 23 = .ok (.ireturn, 1) := by decide +kernel
def wp_X7_refuse (S : Sh) (M : Mm) (u0 : Int) (u1 : Int) (post : Int → Mm → Prop) : Prop := wGet S M u0 7 4 fun v1 => wIf (¬ v1 = 0) (wC 0 fun v3 => (v3 = 0 ∨ v3 = 1) ∧ post v3 M) (wC 1 fun v5 => wC 8 fun v7 => wGet S M u0 7 3 fun v9 => wM v7 v9 fun v11 => wA v5 v11 fun v13 => wA v13 u1 fun v15 => wPut S M u0 7 4 v15 fun M17 => wC 0 fun v18 => (v18 = 0 ∨ v18 = 1) ∧ post v18 M17)
set_option maxHeartbeats 4000000 in
set_option maxRecDepth 100000 in
theorem c_X7_refuse (l : Launch) (D : va_G) (G : Gt) (S : Sh) (M : Mm) (xl0 : Int) (zl1 : Int32) (post : Int → Mm → Prop) (h : wp_X7_refuse S M xl0 zl1.toInt post) : Met l yX7_refuse (cw_X7_refuse :: gw) RM_X7_refuse (va_Pc [.ref (adr G xl0), .int zl1] (fun U => KN D G U ∧ Wd D G S M U.heap)) (QI D G S post) 0 0 (aG G) := by
  refine Met.ofW (cc := cX7_refuse) (maxL := 2) (ret := (some .boolean)) (by decide) rfl ?_
  intro p e s m args below meth c s₁ B hml hv
  obtain ⟨rfl, hK, hP⟩ := hv
  have hx := B.exec
  have hb := B.bytes
  have hr := B.returns
  have hts := atoms_spec (ws := cw_X7_refuse :: gw) B.pre
  have hown : s.vm.findClass RX7 = some m.cls := findClass_of_methodNamed B.named
  have hlocks := B.notSynchronized
  have hS : va_S (aG G) s.heap s.heap [] := va_S.rf
  have C : Cx p s m ([.ref (adr G xl0), .int zl1] : List Value).toArray meth c D G cX7_refuse 2 (some .boolean) (cw_X7_refuse :: gw) RX7 := ⟨hx, hb, hr, hlocks, hml, hown, hts, hK⟩
  have hl := lv_entry ([.ref (adr G xl0), .int zl1]) (n := 2) (Nat.le_of_ble_eq_true rfl)
  rw [lg_entry_eq]
  generalize (lg_sl ([.ref (adr G xl0), .int zl1]) ++ List.replicate (2 - (lg_sl ([.ref (adr G xl0), .int zl1])).length) Slot.unset).toArray = ls at hl ⊢
  have hl : lv_has ls 2 [(0, .ref (adr G xl0)), (1, .int zl1)] := hl
  unfold wp_X7_refuse at h
  refine lv_aload_n hx hb dX7_refuse_0 rfl (lv_at hl 0 rfl) ?_
  refine r_geti (C := RX7) (T := TX7) (N := 5) hx hb hts (fun w h => List.mem_cons_of_mem _ (iX7 w h)) hown hK hP rfl (by decide) rfl 4 (by decide) (hts _ (List.mem_cons_of_mem _ kw_41)) (fun _ h9 => h9) dX7_refuse_1 (by decide) h (fun z2 h => ?_)
  refine r_if_ne (tgt := 22) hx hb dX7_refuse_4 (by decide) h (fun h => ?_) (fun h => ?_)
  · refine r_iconst hx hb dX7_refuse_22 (by decide) h (fun z4 h => ?_)
    exact r_zret hx hb hr hlocks hP hS dX7_refuse_23 h
  · refine lv_aload_n hx hb dX7_refuse_7 rfl (lv_at hl 0 rfl) ?_
    refine r_iconst hx hb dX7_refuse_8 (by decide) h (fun z6 h => ?_)
    refine r_bipush hx hb dX7_refuse_9 (by decide) h (fun z8 h => ?_)
    refine lv_aload_n hx hb dX7_refuse_11 rfl (lv_at hl 0 rfl) ?_
    refine r_geti (C := RX7) (T := TX7) (N := 5) hx hb hts (fun w h => List.mem_cons_of_mem _ (iX7 w h)) hown hK hP rfl (by decide) rfl 3 (by decide) (hts _ (List.mem_cons_of_mem _ kw_40)) (fun _ h9 => h9) dX7_refuse_12 (by decide) h (fun z10 h => ?_)
    refine r_imul hx hb dX7_refuse_15 h (fun z12 h => ?_)
    refine r_iadd hx hb dX7_refuse_16 h (fun z14 h => ?_)
    refine lv_iload_n hx hb dX7_refuse_17 rfl (lv_at hl 1 rfl) ?_
    refine r_iadd hx hb dX7_refuse_18 h (fun z16 h => ?_)
    refine r_puti (C := RX7) (T := TX7) (N := 5) hx hb hts (fun w h => List.mem_cons_of_mem _ (iX7 w h)) hown hK hP tyX7 tyX7_ok nmX7 hS rfl (by decide) rfl 4 (by decide) (hts _ (List.mem_cons_of_mem _ kw_41)) (fun _ h9 => h9) rfl (tyX7_ok 4 (by decide)) rfl rfl dX7_refuse_19 (by decide) h (fun M17 H locs h hP hS => ?_)
    refine r_iconst hx hb dX7_refuse_22 (by decide) h (fun z19 h => ?_)
    exact r_zret hx hb hr hlocks hP hS dX7_refuse_23 h
/-! TurningMilk$DairyReader.hasRoomFor(I)Z -/
abbrev RM_X0_hasRoomFor : Room := { frames := 1, cells := 0, slots := 0, locals := 40 }
def cw_X0_hasRoomFor : Cond := Cond.code yX0_hasRoomFor cX0_hasRoomFor 2 (Option.some FieldType.boolean)
theorem hd_X0_hasRoomFor : yX0_hasRoomFor.cls ≠ "java/lang/invoke/MethodHandle" ∧ yX0_hasRoomFor.cls ≠ "java/lang/invoke/VarHandle" ∧ (parseMethodDescriptor yX0_hasRoomFor.desc).map (fun d => d.parameters.length) = some 1 := by decide +kernel
theorem dX0_hasRoomFor_0 : decode cX0_hasRoomFor 0 = .ok (.iload_n 1, 1) := by decide +kernel
theorem dX0_hasRoomFor_1 : decode cX0_hasRoomFor 1 = .ok (.tableswitch 106 0 4 #[35, 37, 55, 72, 89], 35) := by decide +kernel
theorem dX0_hasRoomFor_36 : decode cX0_hasRoomFor 36 = .ok (.iconst 1, 1) := by decide +kernel
theorem dX0_hasRoomFor_37 : decode cX0_hasRoomFor 37 = .ok (.ireturn, 1) := by decide +kernel
theorem dX0_hasRoomFor_38 : decode cX0_hasRoomFor 38 = .ok (.aload_n 0, 1) := by decide +kernel
theorem dX0_hasRoomFor_39 : decode cX0_hasRoomFor 39 = .ok (.getfield 12, 3) := by decide +kernel
theorem dX0_hasRoomFor_42 : decode cX0_hasRoomFor 42 = .ok (.getfield 76, 3) := by decide +kernel
theorem dX0_hasRoomFor_45 : decode cX0_hasRoomFor 45 = .ok (.bipush 8, 2) := by decide +kernel
theorem dX0_hasRoomFor_47 : decode cX0_hasRoomFor 47 = .ok (.if_icmp .ge 7, 3) := by decide +kernel
theorem dX0_hasRoomFor_50 : decode cX0_hasRoomFor 50 = .ok (.iconst 1, 1) := by decide +kernel
theorem dX0_hasRoomFor_51 : decode cX0_hasRoomFor 51 = .ok (.goto 4, 3) := by decide +kernel
theorem dX0_hasRoomFor_54 : decode cX0_hasRoomFor 54 = .ok (.iconst 0, 1) := by decide +kernel
theorem dX0_hasRoomFor_55 : decode cX0_hasRoomFor 55 = .ok (.ireturn, 1) := by decide +kernel
theorem dX0_hasRoomFor_56 : decode cX0_hasRoomFor 56 = .ok (.aload_n 0, 1) := by decide +kernel
theorem dX0_hasRoomFor_57 : decode cX0_hasRoomFor 57 = .ok (.getfield 12, 3) := by decide +kernel
theorem dX0_hasRoomFor_60 : decode cX0_hasRoomFor 60 = .ok (.getfield 80, 3) := by decide +kernel
theorem dX0_hasRoomFor_63 : decode cX0_hasRoomFor 63 = .ok (.iconst 5, 1) := by decide +kernel
theorem dX0_hasRoomFor_64 : decode cX0_hasRoomFor 64 = .ok (.if_icmp .ge 7, 3) := by decide +kernel
theorem dX0_hasRoomFor_67 : decode cX0_hasRoomFor 67 = .ok (.iconst 1, 1) := by decide +kernel
theorem dX0_hasRoomFor_68 : decode cX0_hasRoomFor 68 = .ok (.goto 4, 3) := by decide +kernel
theorem dX0_hasRoomFor_71 : decode cX0_hasRoomFor 71 = .ok (.iconst 0, 1) := by decide +kernel
theorem dX0_hasRoomFor_72 : decode cX0_hasRoomFor 72 = .ok (.ireturn, 1) := by decide +kernel
theorem dX0_hasRoomFor_73 : decode cX0_hasRoomFor 73 = .ok (.aload_n 0, 1) := by decide +kernel
theorem dX0_hasRoomFor_74 : decode cX0_hasRoomFor 74 = .ok (.getfield 12, 3) := by decide +kernel
theorem dX0_hasRoomFor_77 : decode cX0_hasRoomFor 77 = .ok (.getfield 83, 3) := by decide +kernel
theorem dX0_hasRoomFor_80 : decode cX0_hasRoomFor 80 = .ok (.iconst 4, 1) := by decide +kernel
theorem dX0_hasRoomFor_81 : decode cX0_hasRoomFor 81 = .ok (.if_icmp .ge 7, 3) := by decide +kernel
theorem dX0_hasRoomFor_84 : decode cX0_hasRoomFor 84 = .ok (.iconst 1, 1) := by decide +kernel
theorem dX0_hasRoomFor_85 : decode cX0_hasRoomFor 85 = .ok (.goto 4, 3) := by decide +kernel
theorem dX0_hasRoomFor_88 : decode cX0_hasRoomFor 88 = .ok (.iconst 0, 1) := by decide +kernel
theorem dX0_hasRoomFor_89 : decode cX0_hasRoomFor 89 = .ok (.ireturn, 1) := by decide +kernel
theorem dX0_hasRoomFor_90 : decode cX0_hasRoomFor 90 = .ok (.aload_n 0, 1) := by decide +kernel
theorem dX0_hasRoomFor_91 : decode cX0_hasRoomFor 91 = .ok (.getfield 12, 3) := by decide +kernel
theorem dX0_hasRoomFor_94 : decode cX0_hasRoomFor 94 = .ok (.getfield 86, 3) := by decide +kernel
theorem dX0_hasRoomFor_97 : decode cX0_hasRoomFor 97 = .ok (.iconst 4, 1) := by decide +kernel
theorem dX0_hasRoomFor_98 : decode cX0_hasRoomFor 98 = .ok (.if_icmp .ge 7, 3) := by decide +kernel
theorem dX0_hasRoomFor_101 : decode cX0_hasRoomFor 101 = .ok (.iconst 1, 1) := by decide +kernel
theorem dX0_hasRoomFor_102 : decode cX0_hasRoomFor 102 = .ok (.goto 4, 3) := by decide +kernel
theorem dX0_hasRoomFor_105 : decode cX0_hasRoomFor 105 = .ok (.iconst 0, 1) := by decide +kernel
theorem dX0_hasRoomFor_106 : decode cX0_hasRoomFor 106 = .ok (.ireturn, 1) := by decide +kernel
theorem dX0_hasRoomFor_107 : decode cX0_hasRoomFor 107 = .ok (.aload_n 0, 1) := by decide +kernel
theorem dX0_hasRoomFor_108 : decode cX0_hasRoomFor 108 = .ok (.getfield 12, 3) := by decide +kernel
theorem dX0_hasRoomFor_111 : decode cX0_hasRoomFor 111 = .ok (.getfield 89, 3) := by decide +kernel
theorem dX0_hasRoomFor_114 : decode cX0_hasRoomFor 114 = .ok (.bipush 6, 2) := by decide +kernel
theorem dX0_hasRoomFor_116 : decode cX0_hasRoomFor 116 = .ok (.if_icmp .ge 7, 3) := by decide +kernel
theorem dX0_hasRoomFor_119 : decode cX0_hasRoomFor 119 = .ok (.iconst 1, 1) := by decide +kernel
theorem dX0_hasRoomFor_120 : decode cX0_hasRoomFor 120 = .ok (.goto 4, 3) := by decide +kernel
theorem dX0_hasRoomFor_123 : decode cX0_hasRoomFor 123 = .ok (.iconst 0, 1) := by decide +kernel
theorem dX0_hasRoomFor_124 : decode cX0_hasRoomFor 124 = .ok (.ireturn, 1) := by decide +kernel
def wp_X0_hasRoomFor (S : Sh) (M : Mm) (u0 : Int) (u1 : Int) (post : Int → Mm → Prop) : Prop := wIf (u1 = 0) (wC 1 fun v1 => (v1 = 0 ∨ v1 = 1) ∧ post v1 M) (wIf (u1 = 1) (wGetR S M u0 0 1 fun v3 => wGet S M v3 8 3 fun v5 => wC 8 fun v7 => wIf (v7 ≤ v5) (wC 0 fun v9 => (v9 = 0 ∨ v9 = 1) ∧ post v9 M) (wC 1 fun v11 => (v11 = 0 ∨ v11 = 1) ∧ post v11 M)) (wIf (u1 = 2) (wGetR S M u0 0 1 fun v13 => wGet S M v13 8 4 fun v15 => wC 5 fun v17 => wIf (v17 ≤ v15) (wC 0 fun v19 => (v19 = 0 ∨ v19 = 1) ∧ post v19 M) (wC 1 fun v21 => (v21 = 0 ∨ v21 = 1) ∧ post v21 M)) (wIf (u1 = 3) (wGetR S M u0 0 1 fun v23 => wGet S M v23 8 5 fun v25 => wC 4 fun v27 => wIf (v27 ≤ v25) (wC 0 fun v29 => (v29 = 0 ∨ v29 = 1) ∧ post v29 M) (wC 1 fun v31 => (v31 = 0 ∨ v31 = 1) ∧ post v31 M)) (wIf (u1 = 4) (wGetR S M u0 0 1 fun v33 => wGet S M v33 8 6 fun v35 => wC 4 fun v37 => wIf (v37 ≤ v35) (wC 0 fun v39 => (v39 = 0 ∨ v39 = 1) ∧ post v39 M) (wC 1 fun v41 => (v41 = 0 ∨ v41 = 1) ∧ post v41 M)) (wGetR S M u0 0 1 fun v43 => wGet S M v43 8 7 fun v45 => wC 6 fun v47 => wIf (v47 ≤ v45) (wC 0 fun v49 => (v49 = 0 ∨ v49 = 1) ∧ post v49 M) (wC 1 fun v51 => (v51 = 0 ∨ v51 = 1) ∧ post v51 M))))))
set_option maxHeartbeats 4000000 in
set_option maxRecDepth 100000 in
theorem c_X0_hasRoomFor (l : Launch) (D : va_G) (G : Gt) (S : Sh) (M : Mm) (xl0 : Int) (zl1 : Int32) (post : Int → Mm → Prop) (h : wp_X0_hasRoomFor S M xl0 zl1.toInt post) : Met l yX0_hasRoomFor (cw_X0_hasRoomFor :: gw) RM_X0_hasRoomFor (va_Pc [.ref (adr G xl0), .int zl1] (fun U => KN D G U ∧ Wd D G S M U.heap)) (QI D G S post) 0 0 (aG G) := by
  refine Met.ofW (cc := cX0_hasRoomFor) (maxL := 2) (ret := (some .boolean)) (by decide) rfl ?_
  intro p e s m args below meth c s₁ B hml hv
  obtain ⟨rfl, hK, hP⟩ := hv
  have hx := B.exec
  have hb := B.bytes
  have hr := B.returns
  have hts := atoms_spec (ws := cw_X0_hasRoomFor :: gw) B.pre
  have hown : s.vm.findClass RX0 = some m.cls := findClass_of_methodNamed B.named
  have hlocks := B.notSynchronized
  have hS : va_S (aG G) s.heap s.heap [] := va_S.rf
  have C : Cx p s m ([.ref (adr G xl0), .int zl1] : List Value).toArray meth c D G cX0_hasRoomFor 2 (some .boolean) (cw_X0_hasRoomFor :: gw) RX0 := ⟨hx, hb, hr, hlocks, hml, hown, hts, hK⟩
  have hl := lv_entry ([.ref (adr G xl0), .int zl1]) (n := 2) (Nat.le_of_ble_eq_true rfl)
  rw [lg_entry_eq]
  generalize (lg_sl ([.ref (adr G xl0), .int zl1]) ++ List.replicate (2 - (lg_sl ([.ref (adr G xl0), .int zl1])).length) Slot.unset).toArray = ls at hl ⊢
  have hl : lv_has ls 2 [(0, .ref (adr G xl0)), (1, .int zl1)] := hl
  unfold wp_X0_hasRoomFor at h
  refine lv_iload_n hx hb dX0_hasRoomFor_0 rfl (lv_at hl 1 rfl) ?_
  refine sw (c := zl1.toInt = 0) h (fun e0 h => ?_) (fun e0 h => ?_)
  · refine lv_tableIn (tgt := 36) hx hb dX0_hasRoomFor_1 (by omega) (by omega) (by rw [e0]; rfl) (by decide) ?_
    refine r_iconst hx hb dX0_hasRoomFor_36 (by decide) h (fun z2 h => ?_)
    exact r_zret hx hb hr hlocks hP hS dX0_hasRoomFor_37 h
  · refine sw (c := zl1.toInt = 1) h (fun e1 h => ?_) (fun e1 h => ?_)
    · refine lv_tableIn (tgt := 38) hx hb dX0_hasRoomFor_1 (by omega) (by omega) (by rw [e1]; rfl) (by decide) ?_
      refine lv_aload_n hx hb dX0_hasRoomFor_38 rfl (lv_at hl 0 rfl) ?_
      refine r_getr (C := RX0) (T := TX0) (N := 3) hx hb hts (fun w h => List.mem_cons_of_mem _ (iX0 w h)) hown hK hP rfl (by decide) rfl 1 (by decide) (hts _ (List.mem_cons_of_mem _ kw_290)) (fun _ h9 => h9) dX0_hasRoomFor_39 (by decide) h (fun x4 h => ?_)
      refine r_getiN (C := RX8) (T := TX8) (N := 19) hx hb hts (fun w h => List.mem_cons_of_mem _ (iX8 w h)) hown hK hP rfl (by decide) rfl 3 (by decide) (nw_11 hK) (fun _ h9 => h9) dX0_hasRoomFor_42 (by decide) h (fun z6 h => ?_)
      refine r_bipush hx hb dX0_hasRoomFor_45 (by decide) h (fun z8 h => ?_)
      refine r_icmp_ge (tgt := 54) hx hb dX0_hasRoomFor_47 (by decide) h (fun h => ?_) (fun h => ?_)
      · refine r_iconst hx hb dX0_hasRoomFor_54 (by decide) h (fun z10 h => ?_)
        exact r_zret hx hb hr hlocks hP hS dX0_hasRoomFor_55 h
      · refine r_iconst hx hb dX0_hasRoomFor_50 (by decide) h (fun z12 h => ?_)
        refine lv_goto (tgt := 55) hx hb dX0_hasRoomFor_51 (by decide) ?_
        exact r_zret hx hb hr hlocks hP hS dX0_hasRoomFor_55 h
    · refine sw (c := zl1.toInt = 2) h (fun e2 h => ?_) (fun e2 h => ?_)
      · refine lv_tableIn (tgt := 56) hx hb dX0_hasRoomFor_1 (by omega) (by omega) (by rw [e2]; rfl) (by decide) ?_
        refine lv_aload_n hx hb dX0_hasRoomFor_56 rfl (lv_at hl 0 rfl) ?_
        refine r_getr (C := RX0) (T := TX0) (N := 3) hx hb hts (fun w h => List.mem_cons_of_mem _ (iX0 w h)) hown hK hP rfl (by decide) rfl 1 (by decide) (hts _ (List.mem_cons_of_mem _ kw_290)) (fun _ h9 => h9) dX0_hasRoomFor_57 (by decide) h (fun x14 h => ?_)
        refine r_getiN (C := RX8) (T := TX8) (N := 19) hx hb hts (fun w h => List.mem_cons_of_mem _ (iX8 w h)) hown hK hP rfl (by decide) rfl 4 (by decide) (nw_14 hK) (fun _ h9 => h9) dX0_hasRoomFor_60 (by decide) h (fun z16 h => ?_)
        refine r_iconst hx hb dX0_hasRoomFor_63 (by decide) h (fun z18 h => ?_)
        refine r_icmp_ge (tgt := 71) hx hb dX0_hasRoomFor_64 (by decide) h (fun h => ?_) (fun h => ?_)
        · refine r_iconst hx hb dX0_hasRoomFor_71 (by decide) h (fun z20 h => ?_)
          exact r_zret hx hb hr hlocks hP hS dX0_hasRoomFor_72 h
        · refine r_iconst hx hb dX0_hasRoomFor_67 (by decide) h (fun z22 h => ?_)
          refine lv_goto (tgt := 72) hx hb dX0_hasRoomFor_68 (by decide) ?_
          exact r_zret hx hb hr hlocks hP hS dX0_hasRoomFor_72 h
      · refine sw (c := zl1.toInt = 3) h (fun e3 h => ?_) (fun e3 h => ?_)
        · refine lv_tableIn (tgt := 73) hx hb dX0_hasRoomFor_1 (by omega) (by omega) (by rw [e3]; rfl) (by decide) ?_
          refine lv_aload_n hx hb dX0_hasRoomFor_73 rfl (lv_at hl 0 rfl) ?_
          refine r_getr (C := RX0) (T := TX0) (N := 3) hx hb hts (fun w h => List.mem_cons_of_mem _ (iX0 w h)) hown hK hP rfl (by decide) rfl 1 (by decide) (hts _ (List.mem_cons_of_mem _ kw_290)) (fun _ h9 => h9) dX0_hasRoomFor_74 (by decide) h (fun x24 h => ?_)
          refine r_getiN (C := RX8) (T := TX8) (N := 19) hx hb hts (fun w h => List.mem_cons_of_mem _ (iX8 w h)) hown hK hP rfl (by decide) rfl 5 (by decide) (nw_21 hK) (fun _ h9 => h9) dX0_hasRoomFor_77 (by decide) h (fun z26 h => ?_)
          refine r_iconst hx hb dX0_hasRoomFor_80 (by decide) h (fun z28 h => ?_)
          refine r_icmp_ge (tgt := 88) hx hb dX0_hasRoomFor_81 (by decide) h (fun h => ?_) (fun h => ?_)
          · refine r_iconst hx hb dX0_hasRoomFor_88 (by decide) h (fun z30 h => ?_)
            exact r_zret hx hb hr hlocks hP hS dX0_hasRoomFor_89 h
          · refine r_iconst hx hb dX0_hasRoomFor_84 (by decide) h (fun z32 h => ?_)
            refine lv_goto (tgt := 89) hx hb dX0_hasRoomFor_85 (by decide) ?_
            exact r_zret hx hb hr hlocks hP hS dX0_hasRoomFor_89 h
        · refine sw (c := zl1.toInt = 4) h (fun e4 h => ?_) (fun e4 h => ?_)
          · refine lv_tableIn (tgt := 90) hx hb dX0_hasRoomFor_1 (by omega) (by omega) (by rw [e4]; rfl) (by decide) ?_
            refine lv_aload_n hx hb dX0_hasRoomFor_90 rfl (lv_at hl 0 rfl) ?_
            refine r_getr (C := RX0) (T := TX0) (N := 3) hx hb hts (fun w h => List.mem_cons_of_mem _ (iX0 w h)) hown hK hP rfl (by decide) rfl 1 (by decide) (hts _ (List.mem_cons_of_mem _ kw_290)) (fun _ h9 => h9) dX0_hasRoomFor_91 (by decide) h (fun x34 h => ?_)
            refine r_getiN (C := RX8) (T := TX8) (N := 19) hx hb hts (fun w h => List.mem_cons_of_mem _ (iX8 w h)) hown hK hP rfl (by decide) rfl 6 (by decide) (nw_22 hK) (fun _ h9 => h9) dX0_hasRoomFor_94 (by decide) h (fun z36 h => ?_)
            refine r_iconst hx hb dX0_hasRoomFor_97 (by decide) h (fun z38 h => ?_)
            refine r_icmp_ge (tgt := 105) hx hb dX0_hasRoomFor_98 (by decide) h (fun h => ?_) (fun h => ?_)
            · refine r_iconst hx hb dX0_hasRoomFor_105 (by decide) h (fun z40 h => ?_)
              exact r_zret hx hb hr hlocks hP hS dX0_hasRoomFor_106 h
            · refine r_iconst hx hb dX0_hasRoomFor_101 (by decide) h (fun z42 h => ?_)
              refine lv_goto (tgt := 106) hx hb dX0_hasRoomFor_102 (by decide) ?_
              exact r_zret hx hb hr hlocks hP hS dX0_hasRoomFor_106 h
          · refine lv_tableOut (tgt := 107) hx hb dX0_hasRoomFor_1 (by omega) (by decide) ?_
            refine lv_aload_n hx hb dX0_hasRoomFor_107 rfl (lv_at hl 0 rfl) ?_
            refine r_getr (C := RX0) (T := TX0) (N := 3) hx hb hts (fun w h => List.mem_cons_of_mem _ (iX0 w h)) hown hK hP rfl (by decide) rfl 1 (by decide) (hts _ (List.mem_cons_of_mem _ kw_290)) (fun _ h9 => h9) dX0_hasRoomFor_108 (by decide) h (fun x44 h => ?_)
            refine r_getiN (C := RX8) (T := TX8) (N := 19) hx hb hts (fun w h => List.mem_cons_of_mem _ (iX8 w h)) hown hK hP rfl (by decide) rfl 7 (by decide) (nw_24 hK) (fun _ h9 => h9) dX0_hasRoomFor_111 (by decide) h (fun z46 h => ?_)
            refine r_bipush hx hb dX0_hasRoomFor_114 (by decide) h (fun z48 h => ?_)
            refine r_icmp_ge (tgt := 123) hx hb dX0_hasRoomFor_116 (by decide) h (fun h => ?_) (fun h => ?_)
            · refine r_iconst hx hb dX0_hasRoomFor_123 (by decide) h (fun z50 h => ?_)
              exact r_zret hx hb hr hlocks hP hS dX0_hasRoomFor_124 h
            · refine r_iconst hx hb dX0_hasRoomFor_119 (by decide) h (fun z52 h => ?_)
              refine lv_goto (tgt := 124) hx hb dX0_hasRoomFor_120 (by decide) ?_
              exact r_zret hx hb hr hlocks hP hS dX0_hasRoomFor_124 h
