def wp_X3_read (S : Sh) (M : Mm) (u0 : Int) (post : Int → Mm → Prop) : Prop := wC 0 fun v33 => wPut S M u0 3 2 v33 fun M35 => wC 0 fun v36 => wPut S M35 u0 3 3 v36 fun M38 => wGetR S M38 u0 3 0 fun v39 => isK S v39 7 ∧ (wp_X7_rewind S M38 v39 <| fun M41 => wC 0 fun v42 => ∃ n9 : Nat, wp_X3_read_19 S post n9 u0 v42 M41)
set_option maxHeartbeats 4000000 in
set_option maxRecDepth 100000 in
theorem t_X3_read_19 {p : Program} {l : Launch} {e : Env} {s : State} {m : MethodId} {args : Array Value} {below : List Frame} {meth : Method} {c : Code} {D : va_G} {G : Gt} {S : Sh} {post : Int → Mm → Prop} (C : Cx p s m args meth c D G cX3_read 2 (some .boolean) (cw_X3_read :: gw) RX3) : ∀ (n : Nat) (xl0 : Int) (zl1 : Int32) (M : Mm) (H : Heap) (locs : List Loc) (ls : Array Slot), Wd D G S M H → va_S (aG G) s.heap H locs → lv_has ls 2 [(0, .ref (adr G xl0)), (1, .int zl1)] → wp_X3_read_19 S post n xl0 zl1.toInt  M → W p l e RM_X3_read s m args below meth c H locs 0 0 (MQ below (QI D G S post) args s 0 0 (aG G)) (F0 m 19 ls []) := by
  obtain ⟨hx, hb, hr, hlocks, hml, hown, hts, hK⟩ := id C
  intro n
  induction n with
  | zero => intro xl0 zl1 M H locs ls hP hS hl h; exact h.elim
  | succ n ih =>
    intro xl0 zl1 M H locs ls hP hS hl h
    unfold wp_X3_read_19 at h
    refine lv_iload_n hx hb dX3_read_19 rfl (lv_at hl 1 rfl) ?_
    refine r_bipush hx hb dX3_read_20 (by decide) h (fun z2 h => ?_)
    refine r_icmp_gt (tgt := 74) hx hb dX3_read_22 (by decide) h (fun h => ?_) (fun h => ?_)
    · refine r_iconst hx hb dX3_read_74 (by decide) h (fun z4 h => ?_)
      exact r_zret hx hb hr hlocks hP hS dX3_read_75 h
    · refine lv_aload_n hx hb dX3_read_25 rfl (lv_at hl 0 rfl) ?_
      refine lv_iload_n hx hb dX3_read_26 rfl (lv_at hl 1 rfl) ?_
      refine q_Vi hx hb hml hown hts hK hP hS (c_X3_readClause l D G S _ xl0 zl1 _ h.2) ⟨callB_of 1 hts (gw_good kw_749) rfl rfl rfl (hts _ (List.mem_cons_of_mem _ kw_8)) (hts _ (List.mem_cons_of_mem _ kw_746)) hd_X3_readClause ⟨Nat.le_of_ble_eq_true rfl, Nat.le_of_ble_eq_true rfl⟩, (hts _ (List.mem_cons_of_mem _ kw_748)), (hts _ (List.mem_cons_of_mem _ kp_11))⟩ h.1 (ci := 3) rfl (by decide) rfl hl.1 rfl (lv_room (Nat.le_of_ble_eq_true rfl)) dX3_read_27 ⟨Nat.zero_le _, Nat.zero_le _⟩ (fun z7 M5 H locs h hP hS => ?_)
      refine r_if_ne (tgt := 35) hx hb dX3_read_30 (by decide) h (fun h => ?_) (fun h => ?_)
      · refine lv_aload_n hx hb dX3_read_35 rfl (lv_at hl 0 rfl) ?_
        refine r_getr (C := RX3) (T := TX3) (N := 9) hx hb hts (fun w h => List.mem_cons_of_mem _ (iX3 w h)) hown hK hP rfl (by decide) rfl 0 (by decide) (hts _ (List.mem_cons_of_mem _ kw_307)) (fun _ h9 => h9) dX3_read_36 (by decide) h (fun x9 h => ?_)
        refine q_Vi hx hb hml hown hts hK hP hS (c_X7_isAtEnd l D G S _ x9 _ h.2) ⟨callB_of 0 hts (gw_good kw_712) rfl rfl rfl (hts _ (List.mem_cons_of_mem _ kw_2)) (hts _ (List.mem_cons_of_mem _ kw_808)) hd_X7_isAtEnd ⟨Nat.le_of_ble_eq_true rfl, Nat.le_of_ble_eq_true rfl⟩, (hts _ (List.mem_cons_of_mem _ kw_710)), (hts _ (List.mem_cons_of_mem _ kw_711))⟩ h.1 (ci := 7) rfl (by decide) rfl hl.1 rfl (lv_room (Nat.le_of_ble_eq_true rfl)) dX3_read_39 ⟨Nat.zero_le _, Nat.zero_le _⟩ (fun z12 M10 H locs h hP hS => ?_)
        refine r_if_eq (tgt := 47) hx hb dX3_read_42 (by decide) h (fun h => ?_) (fun h => ?_)
        · refine lv_aload_n hx hb dX3_read_47 rfl (lv_at hl 0 rfl) ?_
          refine r_getr (C := RX3) (T := TX3) (N := 9) hx hb hts (fun w h => List.mem_cons_of_mem _ (iX3 w h)) hown hK hP rfl (by decide) rfl 0 (by decide) (hts _ (List.mem_cons_of_mem _ kw_307)) (fun _ h9 => h9) dX3_read_48 (by decide) h (fun x14 h => ?_)
          refine r_bipush hx hb dX3_read_51 (by decide) h (fun z16 h => ?_)
          refine q_Vi hx hb hml hown hts hK hP hS (c_X7_takesSign l D G S _ x14 z16 _ h.2) ⟨callB_of 1 hts (gw_good kw_724) rfl rfl rfl (hts _ (List.mem_cons_of_mem _ kw_2)) (hts _ (List.mem_cons_of_mem _ kw_792)) hd_X7_takesSign ⟨Nat.le_of_ble_eq_true rfl, Nat.le_of_ble_eq_true rfl⟩, (hts _ (List.mem_cons_of_mem _ kw_722)), (hts _ (List.mem_cons_of_mem _ kw_723))⟩ h.1 (ci := 7) rfl (by decide) rfl hl.1 rfl (lv_room (Nat.le_of_ble_eq_true rfl)) dX3_read_53 ⟨Nat.zero_le _, Nat.zero_le _⟩ (fun z19 M17 H locs h hP hS => ?_)
          refine r_if_ne (tgt := 68) hx hb dX3_read_56 (by decide) h (fun h => ?_) (fun h => ?_)
          · refine r_iinc hx hb (fun z21 => [(1, .int z21), (0, .ref (adr G xl0))]) dX3_read_68 (by decide) hl (k := 1) rfl (by decide) (fun _ => rfl) h (fun z21 ls hl h => ?_)
            refine lv_goto (tgt := 19) hx hb dX3_read_71 (by decide) ?_
            exact ih xl0 z21 _ _ _ _ hP hS (lv_sub hl [1, 0] rfl) h
          · refine lv_aload_n hx hb dX3_read_59 rfl (lv_at hl 0 rfl) ?_
            refine r_getr (C := RX3) (T := TX3) (N := 9) hx hb hts (fun w h => List.mem_cons_of_mem _ (iX3 w h)) hown hK hP rfl (by decide) rfl 0 (by decide) (hts _ (List.mem_cons_of_mem _ kw_307)) (fun _ h9 => h9) dX3_read_60 (by decide) h (fun x23 h => ?_)
            refine r_iconst hx hb dX3_read_63 (by decide) h (fun z25 h => ?_)
            refine q_Vi hx hb hml hown hts hK hP hS (c_X7_refuse l D G S _ x23 z25 _ h.2) ⟨callB_of 1 hts (gw_good kw_657) rfl rfl rfl (hts _ (List.mem_cons_of_mem _ kw_2)) (hts _ (List.mem_cons_of_mem _ kw_752)) hd_X7_refuse ⟨Nat.le_of_ble_eq_true rfl, Nat.le_of_ble_eq_true rfl⟩, (hts _ (List.mem_cons_of_mem _ kw_655)), (hts _ (List.mem_cons_of_mem _ kw_656))⟩ h.1 (ci := 7) rfl (by decide) rfl hl.1 rfl (lv_room (Nat.le_of_ble_eq_true rfl)) dX3_read_64 ⟨Nat.zero_le _, Nat.zero_le _⟩ (fun z28 M26 H locs h hP hS => ?_)
            exact r_zret hx hb hr hlocks hP hS dX3_read_67 h
        · refine r_iconst hx hb dX3_read_45 (by decide) h (fun z30 h => ?_)
          exact r_zret hx hb hr hlocks hP hS dX3_read_46 h
      · refine r_iconst hx hb dX3_read_33 (by decide) h (fun z32 h => ?_)
        exact r_zret hx hb hr hlocks hP hS dX3_read_34 h
set_option maxHeartbeats 4000000 in
set_option maxRecDepth 100000 in
theorem c_X3_read (l : Launch) (D : va_G) (G : Gt) (S : Sh) (M : Mm) (xl0 : Int) (post : Int → Mm → Prop) (h : wp_X3_read S M xl0 post) : Met l yX3_read (cw_X3_read :: gw) RM_X3_read (va_Pc [.ref (adr G xl0)] (fun U => KN D G U ∧ Wd D G S M U.heap)) (QI D G S post) 0 0 (aG G) := by
  refine Met.ofW (cc := cX3_read) (maxL := 2) (ret := (some .boolean)) (by decide) rfl ?_
  intro p e s m args below meth c s₁ B hml hv
  obtain ⟨rfl, hK, hP⟩ := hv
  have hx := B.exec
  have hb := B.bytes
  have hr := B.returns
  have hts := atoms_spec (ws := cw_X3_read :: gw) B.pre
  have hown : s.vm.findClass RX3 = some m.cls := findClass_of_methodNamed B.named
  have hlocks := B.notSynchronized
  have hS : va_S (aG G) s.heap s.heap [] := va_S.rf
  have C : Cx p s m ([.ref (adr G xl0)] : List Value).toArray meth c D G cX3_read 2 (some .boolean) (cw_X3_read :: gw) RX3 := ⟨hx, hb, hr, hlocks, hml, hown, hts, hK⟩
  have hl := lv_entry ([.ref (adr G xl0)]) (n := 2) (Nat.le_of_ble_eq_true rfl)
  rw [lg_entry_eq]
  generalize (lg_sl ([.ref (adr G xl0)]) ++ List.replicate (2 - (lg_sl ([.ref (adr G xl0)])).length) Slot.unset).toArray = ls at hl ⊢
  have hl : lv_has ls 2 [(0, .ref (adr G xl0))] := hl
  unfold wp_X3_read at h
  refine lv_aload_n hx hb dX3_read_0 rfl (lv_at hl 0 rfl) ?_
  refine r_iconst hx hb dX3_read_1 (by decide) h (fun z34 h => ?_)
  refine r_puti (C := RX3) (T := TX3) (N := 9) hx hb hts (fun w h => List.mem_cons_of_mem _ (iX3 w h)) hown hK hP tyX3 tyX3_ok nmX3 hS rfl (by decide) rfl 2 (by decide) (hts _ (List.mem_cons_of_mem _ kw_309)) (fun _ h9 => h9) rfl (tyX3_ok 2 (by decide)) rfl rfl dX3_read_2 (by decide) h (fun M35 H locs h hP hS => ?_)
  refine lv_aload_n hx hb dX3_read_5 rfl (lv_at hl 0 rfl) ?_
  refine r_iconst hx hb dX3_read_6 (by decide) h (fun z37 h => ?_)
  refine r_puti (C := RX3) (T := TX3) (N := 9) hx hb hts (fun w h => List.mem_cons_of_mem _ (iX3 w h)) hown hK hP tyX3 tyX3_ok nmX3 hS rfl (by decide) rfl 3 (by decide) (hts _ (List.mem_cons_of_mem _ kw_310)) (fun _ h9 => h9) rfl (tyX3_ok 3 (by decide)) rfl rfl dX3_read_7 (by decide) h (fun M38 H locs h hP hS => ?_)
  refine lv_aload_n hx hb dX3_read_10 rfl (lv_at hl 0 rfl) ?_
  refine r_getr (C := RX3) (T := TX3) (N := 9) hx hb hts (fun w h => List.mem_cons_of_mem _ (iX3 w h)) hown hK hP rfl (by decide) rfl 0 (by decide) (hts _ (List.mem_cons_of_mem _ kw_307)) (fun _ h9 => h9) dX3_read_11 (by decide) h (fun x40 h => ?_)
  refine q_Vv hx hb hml hown hts hK hP hS (c_X7_rewind l D G S _ x40 _ h.2) ⟨callB_of 0 hts (gw_good kw_576) rfl rfl rfl (hts _ (List.mem_cons_of_mem _ kw_2)) (hts _ (List.mem_cons_of_mem _ kw_745)) hd_X7_rewind ⟨Nat.le_of_ble_eq_true rfl, Nat.le_of_ble_eq_true rfl⟩, (hts _ (List.mem_cons_of_mem _ kw_574)), (hts _ (List.mem_cons_of_mem _ kw_575))⟩ h.1 (ci := 7) rfl (by decide) rfl hl.1 rfl (lv_room (Nat.le_of_ble_eq_true rfl)) dX3_read_14 ⟨Nat.zero_le _, Nat.zero_le _⟩ (fun M41 H locs h hP hS => ?_)
  refine r_iconst hx hb dX3_read_17 (by decide) h (fun z43 h => ?_)
  refine lv_istore_n (lv' := [(1, .int z43), (0, .ref (adr G xl0))]) hx hb dX3_read_18 rfl hl (by decide) rfl (fun ls hl => ?_)
  obtain ⟨n9, h⟩ := h
  exact t_X3_read_19 C n9 xl0 z43 _ _ _ _ hP hS (lv_sub hl [1, 0] rfl) h
/-! TurningMilk.enforce()V -/
abbrev RM_X11_enforce : Room := { frames := 1, cells := 0, slots := 0, locals := 40 }
def cw_X11_enforce : Cond := Cond.code yX11_enforce cX11_enforce 2 (Option.none : Option FieldType)
theorem hd_X11_enforce : yX11_enforce.cls ≠ "java/lang/invoke/MethodHandle" ∧ yX11_enforce.cls ≠ "java/lang/invoke/VarHandle" ∧ (parseMethodDescriptor yX11_enforce.desc).map (fun d => d.parameters.length) = some 0 := by decide +kernel
theorem dX11_enforce_0 : decode cX11_enforce 0 = .ok (.aload_n 0, 1) := by decide +kernel
theorem dX11_enforce_1 : decode cX11_enforce 1 = .ok (.getfield 19, 3) := by decide +kernel
theorem dX11_enforce_4 : decode cX11_enforce 4 = .ok (.getfield 157, 3) := by decide +kernel
theorem dX11_enforce_7 : decode cX11_enforce 7 = .ok (.ifCond .lt 19, 3) := by decide +kernel
theorem dX11_enforce_10 : decode cX11_enforce 10 = .ok (.aload_n 0, 1) := by decide +kernel
theorem dX11_enforce_11 : decode cX11_enforce 11 = .ok (.getfield 19, 3) := by decide +kernel
theorem dX11_enforce_14 : decode cX11_enforce 14 = .ok (.getfield 157, 3) := by decide +kernel
theorem dX11_enforce_17 : decode cX11_enforce 17 = .ok (.bipush 6, 2) := by decide +kernel
theorem dX11_enforce_19 : decode cX11_enforce 19 = .ok (.if_icmp .ge 7, 3) := by decide +kernel
theorem dX11_enforce_22 : decode cX11_enforce 22 = .ok (.iconst 1, 1) := by decide +kernel
theorem dX11_enforce_23 : decode cX11_enforce 23 = .ok (.goto 4, 3) := by decide +kernel
theorem dX11_enforce_26 : decode cX11_enforce 26 = .ok (.iconst 0, 1) := by decide +kernel
theorem dX11_enforce_27 : decode cX11_enforce 27 = .ok (.istore_n 1, 1) := by decide +kernel
theorem dX11_enforce_28 : decode cX11_enforce 28 = .ok (.aload_n 0, 1) := by decide +kernel
