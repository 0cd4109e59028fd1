abbrev QRu (D : va_G) (G : Gt) (post : Int → Sh → Mm → Prop) : Array Value → State → Outcome → State → Prop := va_Qi (fun r (u : Sh × Mm) => post r.toInt u.1 u.2) (fun u t => Wd D G u.1 u.2 t.heap ∧ t.heap.size = gB G + u.1.1) (aG G)
theorem r_iretR {p : Program} {l : Launch} {e : Env} {R : Room} {s : State} {m : MethodId} {args : Array Value} {below : List Frame} {meth : Method} {c : Code} {H : Heap} {locs : List Loc} {cells slots : Nat} {cc : ByteArray} {pc : Nat} {ls : Array Slot} {D : va_G} {G : Gt} {S : Sh} {M : Mm} {post : Int → Sh → Mm → Prop} (hexec : p.tables.exec = Jvm.exec) (hb : c.code = cc) (hr : meth.sig.returnType = some .int) (hlocks : meth.locks = false) (hG : ∀ a : Nat, G.1 a = gB G + a) (hpos : 0 < S.1) (hsz : s.heap.size + cells = gB G + S.1) (hc : cells ≤ 1) (hs : slots ≤ 400) (hP : Wd D G S M H) (hS : va_S (aG G) s.heap H locs) {v : Int32} (hdg : decode cc pc = .ok (.ireturn, 1)) (h : post v.toInt S M) : W p l e R s m args below meth c H locs cells slots (MQ below (QRu D G post) args s 1 400 (aG G)) (F0 m pc ls [.int v]) := by
  refine W_sz (fun hle => ?_)
  have hH := hsize_of hP hG hpos hle hsz
  refine W.widen (k := 1) (n := 400) hc hs ?_
  exact W.iret hexec hb hr (fun t ht hW => ⟨⟨v, (S, M), rfl, h, by show Wd D G S M t.heap; rw [ht]; exact hP, by rw [ht]; exact hH⟩, hS.F ht⟩) hS.2.2 hdg hlocks
theorem dX11_rule_0 : decode cX11_rule 0 = .ok (.aload_n 0, 1) := by decide +kernel
theorem dX11_rule_1 : decode cX11_rule 1 = .ok (.getfield 149, 3) := by decide +kernel
theorem dX11_rule_4 : decode cX11_rule 4 = .ok (.bipush 6, 2) := by decide +kernel
theorem dX11_rule_6 : decode cX11_rule 6 = .ok (.if_icmp .lt 5, 3) := by decide +kernel
theorem dX11_rule_9 : decode cX11_rule 9 = .ok (.iconst (-1), 1) := by decide +kernel
theorem dX11_rule_10 : decode cX11_rule 10 = .ok (.ireturn, 1) := by decide +kernel
theorem dX11_rule_11 : decode cX11_rule 11 = .ok (.aload_n 0, 1) := by decide +kernel
theorem dX11_rule_12 : decode cX11_rule 12 = .ok (.getfield 51, 3) := by decide +kernel
theorem dX11_rule_15 : decode cX11_rule 15 = .ok (.invokevirtual 152, 3) := by decide +kernel
theorem dX11_rule_18 : decode cX11_rule 18 = .ok (.istore_n 1, 1) := by decide +kernel
theorem dX11_rule_19 : decode cX11_rule 19 = .ok (.aload_n 0, 1) := by decide +kernel
theorem dX11_rule_20 : decode cX11_rule 20 = .ok (.getfield 10, 3) := by decide +kernel
theorem dX11_rule_23 : decode cX11_rule 23 = .ok (.iconst 0, 1) := by decide +kernel
theorem dX11_rule_24 : decode cX11_rule 24 = .ok (.putfield 116, 3) := by decide +kernel
theorem dX11_rule_27 : decode cX11_rule 27 = .ok (.iload_n 1, 1) := by decide +kernel
theorem dX11_rule_28 : decode cX11_rule 28 = .ok (.ifCond .ne 14, 3) := by decide +kernel
theorem dX11_rule_31 : decode cX11_rule 31 = .ok (.bipush (-2), 2) := by decide +kernel
theorem dX11_rule_33 : decode cX11_rule 33 = .ok (.aload_n 0, 1) := by decide +kernel
theorem dX11_rule_34 : decode cX11_rule 34 = .ok (.getfield 10, 3) := by decide +kernel
theorem dX11_rule_37 : decode cX11_rule 37 = .ok (.getfield 124, 3) := by decide +kernel
theorem dX11_rule_40 : decode cX11_rule 40 = .ok (.isub, 1) := by decide +kernel
theorem dX11_rule_41 : decode cX11_rule 41 = .ok (.ireturn, 1) := by decide +kernel
theorem dX11_rule_42 : decode cX11_rule 42 = .ok (.aload_n 0, 1) := by decide +kernel
theorem dX11_rule_43 : decode cX11_rule 43 = .ok (.getfield 35, 3) := by decide +kernel
theorem dX11_rule_46 : decode cX11_rule 46 = .ok (.aload_n 0, 1) := by decide +kernel
theorem dX11_rule_47 : decode cX11_rule 47 = .ok (.getfield 149, 3) := by decide +kernel
theorem dX11_rule_50 : decode cX11_rule 50 = .ok (.aload_n 0, 1) := by decide +kernel
theorem dX11_rule_51 : decode cX11_rule 51 = .ok (.getfield 51, 3) := by decide +kernel
theorem dX11_rule_54 : decode cX11_rule 54 = .ok (.invokevirtual 153, 3) := by decide +kernel
theorem dX11_rule_57 : decode cX11_rule 57 = .ok (.aastore, 1) := by decide +kernel
theorem dX11_rule_58 : decode cX11_rule 58 = .ok (.aload_n 0, 1) := by decide +kernel
theorem dX11_rule_59 : decode cX11_rule 59 = .ok (.dup, 1) := by decide +kernel
theorem dX11_rule_60 : decode cX11_rule 60 = .ok (.getfield 149, 3) := by decide +kernel
theorem dX11_rule_63 : decode cX11_rule 63 = .ok (.iconst 1, 1) := by decide +kernel
theorem dX11_rule_64 : decode cX11_rule 64 = .ok (.iadd, 1) := by decide +kernel
theorem dX11_rule_65 : decode cX11_rule 65 = .ok (.putfield 149, 3) := by decide +kernel
theorem dX11_rule_68 : decode cX11_rule 68 = .ok (.aload_n 0, 1) := by decide +kernel
theorem dX11_rule_69 : decode cX11_rule 69 = .ok (.getfield 149, 3) := by decide +kernel
theorem dX11_rule_72 : decode cX11_rule 72 = .ok (.iconst 1, 1) := by decide +kernel
theorem dX11_rule_73 : decode cX11_rule 73 = .ok (.isub, 1) := by decide +kernel
theorem dX11_rule_74 : decode cX11_rule 74 = .ok (.ireturn, 1) := by decide +kernel
abbrev RM_X11_rule : Room := { frames := 12, cells := 1, slots := 400, locals := 410 }
def cw_X11_rule : Cond := Cond.code yX11_rule cX11_rule 2 (Option.some FieldType.int)
theorem hd_X11_rule : yX11_rule.cls ≠ "java/lang/invoke/MethodHandle" ∧ yX11_rule.cls ≠ "java/lang/invoke/VarHandle" ∧ (parseMethodDescriptor yX11_rule.desc).map (fun d => d.parameters.length) = some 0 := by decide +kernel
def wp_X11_rule (S : Sh) (M : Mm) (u0 : Int) (post : Int → Sh → Mm → Prop) : Prop := 0 < S.1 ∧ (wGet S M u0 11 7 fun v1 => wC 6 fun v3 => wIf (v1 < v3) (wGetR S M u0 11 9 fun v5 => isK S v5 3 ∧ (wp_X3_read S M v5 <| fun v7 M9 => wGetR S M9 u0 11 0 fun v10 => wC 0 fun v12 => wPut S M9 v10 7 1 v12 fun M14 => wIf (¬ v7 = 0) (wGetR S M14 u0 11 6 fun v15 => wGet S M14 u0 11 7 fun v17 => wGetR S M14 u0 11 9 fun v19 => isK S v19 3 ∧ (wp_X3_copyOfCode S M14 v19 <| fun S21 M22 x23 => wSt19 S21 M22 v15 v17 x23 fun M24 => wGet S21 M24 u0 11 7 fun v25 => wC 1 fun v27 => wA v25 v27 fun v29 => wPut S21 M24 u0 11 7 v29 fun M31 => wGet S21 M31 u0 11 7 fun v32 => wC 1 fun v34 => wS v32 v34 fun v36 => post v36 S21 M31)) (wC (-2) fun v38 => wGetR S M14 u0 11 0 fun v40 => wGet S M14 v40 7 4 fun v42 => wS v38 v42 fun v44 => post v44 S M14))) (wC (-1) fun v46 => post v46 S M))
set_option maxHeartbeats 4000000 in
set_option maxRecDepth 100000 in
theorem c_X11_rule (l : Launch) (D : va_G) (G : Gt) (S : Sh) (M : Mm) (hG : ∀ a : Nat, G.1 a = gB G + a) (xl0 : Int) (post : Int → Sh → Mm → Prop) (h : wp_X11_rule S M xl0 post) : Met l yX11_rule (cw_X11_rule :: gw) RM_X11_rule (PA2 D G S M [.ref (adr G xl0)]) (QRu D G post) 1 400 (aG G) := by
  refine Met.ofW (cc := cX11_rule) (maxL := 2) (ret := (some .int)) (by decide) rfl ?_
  intro p e s m args below meth c s₁ B hml hv
  obtain ⟨rfl, hK, hP, hsz0, hO⟩ := hv
  have hx := B.exec
  have hb := B.bytes
  have hr := B.returns
  have hts := atoms_spec (ws := cw_X11_rule :: gw) B.pre
  have hown : s.vm.findClass RX11 = some m.cls := findClass_of_methodNamed B.named
  have hlocks := B.notSynchronized
  have hsz : s.heap.size + 0 = gB G + S.1 := by omega
  have hS : va_S (aG G) s.heap s.heap [] := va_S.rf
  have hl := lv_entry ([.ref (adr G xl0)]) (n := 2) (Nat.le_of_ble_eq_true rfl)
  rw [lg_entry_eq]
  generalize (lg_sl ([.ref (adr G xl0)]) ++ List.replicate (2 - (lg_sl ([.ref (adr G xl0)])).length) Slot.unset).toArray = ls at hl ⊢
  have hl : lv_has ls 2 [(0, .ref (adr G xl0))] := hl
  unfold wp_X11_rule at h
  obtain ⟨hpos, h⟩ := h
  refine lv_aload_n hx hb dX11_rule_0 rfl (lv_at hl 0 rfl) ?_
  refine r_geti (C := RX11) (T := TX11) (N := 16) hx hb hts (fun w h => List.mem_cons_of_mem _ (iX11 w h)) hown hK hP rfl (by decide) rfl 7 (by decide) (hts _ (List.mem_cons_of_mem _ kw_498)) (fun _ h9 => h9) dX11_rule_1 (by decide) h (fun z2 h => ?_)
  refine r_bipush hx hb dX11_rule_4 (by decide) h (fun z4 h => ?_)
  refine r_icmp_lt (tgt := 11) hx hb dX11_rule_6 (by decide) h (fun h => ?_) (fun h => ?_)
  · refine lv_aload_n hx hb dX11_rule_11 rfl (lv_at hl 0 rfl) ?_
    refine r_getr (C := RX11) (T := TX11) (N := 16) hx hb hts (fun w h => List.mem_cons_of_mem _ (iX11 w h)) hown hK hP rfl (by decide) rfl 9 (by decide) (hts _ (List.mem_cons_of_mem _ kw_500)) (fun _ h9 => h9) dX11_rule_12 (by decide) h (fun x6 h => ?_)
    refine q_Vi hx hb hml hown hts hK hP hS (c_X3_read l D G _ _ x6 _ h.2) ⟨callB_of 0 hts (gw_good kw_744) rfl rfl rfl (hts _ (List.mem_cons_of_mem _ kw_8)) (hts _ (List.mem_cons_of_mem _ kw_741)) hd_X3_read ⟨Nat.le_of_ble_eq_true rfl, Nat.le_of_ble_eq_true rfl⟩, (hts _ (List.mem_cons_of_mem _ kw_742)), (hts _ (List.mem_cons_of_mem _ kw_743))⟩ h.1 (ci := 3) rfl (by decide) rfl hl.1 rfl (lv_room (Nat.le_of_ble_eq_true rfl)) dX11_rule_15 ⟨Nat.zero_le _, Nat.zero_le _⟩ (fun z8 M9 H locs h hP hS => ?_)
    refine lv_istore_n (lv' := [(1, .int z8), (0, .ref (adr G xl0))]) hx hb dX11_rule_18 rfl hl (by decide) rfl (fun ls hl => ?_)
    refine lv_aload_n hx hb dX11_rule_19 rfl (lv_at hl 1 rfl) ?_
    refine r_getr (C := RX11) (T := TX11) (N := 16) hx hb hts (fun w h => List.mem_cons_of_mem _ (iX11 w h)) hown hK hP rfl (by decide) rfl 0 (by decide) (hts _ (List.mem_cons_of_mem _ kw_491)) (fun _ h9 => h9) dX11_rule_20 (by decide) h (fun x11 h => ?_)
    refine r_iconst hx hb dX11_rule_23 (by decide) h (fun z13 h => ?_)
    refine r_putiN (C := RX7) (T := TX7) (N := 5) hx hb hts (fun w h => List.mem_cons_of_mem _ (iX7 w h)) hown hK hP tyX7 tyX7_ok nmX7 hS rfl (by decide) rfl 1 (by decide) (nw_0 hK) (fun _ h9 => h9) rfl (tyX7_ok 1 (by decide)) rfl rfl dX11_rule_24 (by decide) h (fun M14 H locs h hP hS => ?_)
    refine lv_iload_n hx hb dX11_rule_27 rfl (lv_at hl 0 rfl) ?_
    refine r_if_ne (tgt := 42) hx hb dX11_rule_28 (by decide) h (fun h => ?_) (fun h => ?_)
    · refine lv_aload_n hx hb dX11_rule_42 rfl (lv_at hl 1 rfl) ?_
      refine r_getr (C := RX11) (T := TX11) (N := 16) hx hb hts (fun w h => List.mem_cons_of_mem _ (iX11 w h)) hown hK hP rfl (by decide) rfl 6 (by decide) (hts _ (List.mem_cons_of_mem _ kw_497)) (fun _ h9 => h9) dX11_rule_43 (by decide) h (fun x16 h => ?_)
      refine lv_aload_n hx hb dX11_rule_46 rfl (lv_at hl 1 rfl) ?_
      refine r_geti (C := RX11) (T := TX11) (N := 16) hx hb hts (fun w h => List.mem_cons_of_mem _ (iX11 w h)) hown hK hP rfl (by decide) rfl 7 (by decide) (hts _ (List.mem_cons_of_mem _ kw_498)) (fun _ h9 => h9) dX11_rule_47 (by decide) h (fun z18 h => ?_)
      refine lv_aload_n hx hb dX11_rule_50 rfl (lv_at hl 1 rfl) ?_
      refine r_getr (C := RX11) (T := TX11) (N := 16) hx hb hts (fun w h => List.mem_cons_of_mem _ (iX11 w h)) hown hK hP rfl (by decide) rfl 9 (by decide) (hts _ (List.mem_cons_of_mem _ kw_500)) (fun _ h9 => h9) dX11_rule_51 (by decide) h (fun x20 h => ?_)
      refine q_VN hx hb hml hown hts hK hP hS hG hpos hsz (c_X3_copyOfCode l D G _ _ hG x20 _ h.2) ⟨callB_of 0 hts (gw_good kw_853) rfl rfl rfl (hts _ (List.mem_cons_of_mem _ kw_8)) (hts _ (List.mem_cons_of_mem _ kw_850)) hd_X3_copyOfCode ⟨Nat.le_of_ble_eq_true rfl, Nat.le_of_ble_eq_true rfl⟩, (hts _ (List.mem_cons_of_mem _ kw_851)), (hts _ (List.mem_cons_of_mem _ kw_852))⟩ h.1 (ci := 3) rfl (by decide) rfl hl.1 rfl (lv_room (Nat.le_of_ble_eq_true rfl)) dX11_rule_54 ⟨Nat.le_of_ble_eq_true rfl, Nat.le_of_ble_eq_true rfl⟩ (fun S21 M22 x23 H locs h e1 hP hS => ?_)
      have hsz : s.heap.size + 1 = gB G + S21.1 := by omega
      have hpos : 0 < S21.1 := by omega
      refine r_aast19 hx hb hK hO hP hS (iz := z18.toInt) rfl dX11_rule_57 h (fun M24 H locs h hP hS => ?_)
      refine lv_aload_n hx hb dX11_rule_58 rfl (lv_at hl 1 rfl) ?_
      refine lv_dup hx hb dX11_rule_59 rfl ?_
      refine r_geti (C := RX11) (T := TX11) (N := 16) hx hb hts (fun w h => List.mem_cons_of_mem _ (iX11 w h)) hown hK hP rfl (by decide) rfl 7 (by decide) (hts _ (List.mem_cons_of_mem _ kw_498)) (fun _ h9 => h9) dX11_rule_60 (by decide) h (fun z26 h => ?_)
      refine r_iconst hx hb dX11_rule_63 (by decide) h (fun z28 h => ?_)
      refine r_iadd hx hb dX11_rule_64 h (fun z30 h => ?_)
      refine r_puti (C := RX11) (T := TX11) (N := 16) hx hb hts (fun w h => List.mem_cons_of_mem _ (iX11 w h)) hown hK hP tyX11 tyX11_ok nmX11 hS rfl (by decide) rfl 7 (by decide) (hts _ (List.mem_cons_of_mem _ kw_498)) (fun _ h9 => h9) rfl (tyX11_ok 7 (by decide)) rfl rfl dX11_rule_65 (by decide) h (fun M31 H locs h hP hS => ?_)
      refine lv_aload_n hx hb dX11_rule_68 rfl (lv_at hl 1 rfl) ?_
      refine r_geti (C := RX11) (T := TX11) (N := 16) hx hb hts (fun w h => List.mem_cons_of_mem _ (iX11 w h)) hown hK hP rfl (by decide) rfl 7 (by decide) (hts _ (List.mem_cons_of_mem _ kw_498)) (fun _ h9 => h9) dX11_rule_69 (by decide) h (fun z33 h => ?_)
      refine r_iconst hx hb dX11_rule_72 (by decide) h (fun z35 h => ?_)
      refine r_isub hx hb dX11_rule_73 h (fun z37 h => ?_)
      exact r_iretR hx hb hr hlocks hG hpos hsz (Nat.le_of_ble_eq_true rfl) (Nat.le_of_ble_eq_true rfl) hP hS dX11_rule_74 h
    · refine r_bipush hx hb dX11_rule_31 (by decide) h (fun z39 h => ?_)
      refine lv_aload_n hx hb dX11_rule_33 rfl (lv_at hl 1 rfl) ?_
      refine r_getr (C := RX11) (T := TX11) (N := 16) hx hb hts (fun w h => List.mem_cons_of_mem _ (iX11 w h)) hown hK hP rfl (by decide) rfl 0 (by decide) (hts _ (List.mem_cons_of_mem _ kw_491)) (fun _ h9 => h9) dX11_rule_34 (by decide) h (fun x41 h => ?_)
      refine r_getiN (C := RX7) (T := TX7) (N := 5) hx hb hts (fun w h => List.mem_cons_of_mem _ (iX7 w h)) hown hK hP rfl (by decide) rfl 4 (by decide) (nw_1 hK) (fun _ h9 => h9) dX11_rule_37 (by decide) h (fun z43 h => ?_)
      refine r_isub hx hb dX11_rule_40 h (fun z45 h => ?_)
      exact r_iretR hx hb hr hlocks hG hpos hsz (Nat.le_of_ble_eq_true rfl) (Nat.le_of_ble_eq_true rfl) hP hS dX11_rule_41 h
  · refine r_iconst hx hb dX11_rule_9 (by decide) h (fun z47 h => ?_)
    exact r_iretR hx hb hr hlocks hG hpos hsz (Nat.le_of_ble_eq_true rfl) (Nat.le_of_ble_eq_true rfl) hP hS dX11_rule_10 h
