theorem dX11_enforce_29 : decode cX11_enforce 29 = .ok (.getfield 64, 3) := by decide +kernel
theorem dX11_enforce_32 : decode cX11_enforce 32 = .ok (.iload_n 1, 1) := by decide +kernel
theorem dX11_enforce_33 : decode cX11_enforce 33 = .ok (.ifCond .eq 18, 3) := by decide +kernel
theorem dX11_enforce_36 : decode cX11_enforce 36 = .ok (.aload_n 0, 1) := by decide +kernel
theorem dX11_enforce_37 : decode cX11_enforce 37 = .ok (.getfield 35, 3) := by decide +kernel
theorem dX11_enforce_40 : decode cX11_enforce 40 = .ok (.aload_n 0, 1) := by decide +kernel
theorem dX11_enforce_41 : decode cX11_enforce 41 = .ok (.getfield 19, 3) := by decide +kernel
theorem dX11_enforce_44 : decode cX11_enforce 44 = .ok (.getfield 157, 3) := by decide +kernel
theorem dX11_enforce_47 : decode cX11_enforce 47 = .ok (.aaload, 1) := by decide +kernel
theorem dX11_enforce_48 : decode cX11_enforce 48 = .ok (.goto 6, 3) := by decide +kernel
theorem dX11_enforce_51 : decode cX11_enforce 51 = .ok (.getstatic 105, 3) := by decide +kernel
theorem dX11_enforce_54 : decode cX11_enforce 54 = .ok (.putfield 163, 3) := by decide +kernel
theorem dX11_enforce_57 : decode cX11_enforce 57 = .ok (.return_, 1) := by decide +kernel
def wp_X11_enforce_27 (S : Sh) (post : Mm → Prop) (u0 : Int) (t0 : Int) (M : Mm) : Prop := wGetR S M u0 11 10 fun v1 => wIf (t0 = 0) (wC (-2) fun v3 => wPutR S M v1 10 1 v3 fun M5 => post M5) (wGetR S M u0 11 6 fun v6 => wGetR S M u0 11 1 fun v8 => wGet S M v8 4 2 fun v10 => wLdR S M v6 19 v10 fun v12 => wPutR S M v1 10 1 v12 fun M14 => post M14)
def wp_X11_enforce_26 (S : Sh) (post : Mm → Prop) (u0 : Int) (M : Mm) : Prop := wC 0 fun v15 => wp_X11_enforce_27 S post u0 v15 M
def wp_X11_enforce (S : Sh) (M : Mm) (u0 : Int) (post : Mm → Prop) : Prop := wGetR S M u0 11 1 fun v17 => wGet S M v17 4 2 fun v19 => wIf (v19 < 0) (wp_X11_enforce_26 S post u0 M) (wGetR S M u0 11 1 fun v21 => wGet S M v21 4 2 fun v23 => wC 6 fun v25 => wIf (v25 ≤ v23) (wp_X11_enforce_26 S post u0 M) (wC 1 fun v27 => wp_X11_enforce_27 S post u0 v27 M))
set_option maxHeartbeats 4000000 in
set_option maxRecDepth 100000 in
theorem t_X11_enforce_27 {p : Program} {l : Launch} {e : Env} {s : State} {m : MethodId} {args : Array Value} {below : List Frame} {meth : Method} {c : Code} {D : va_G} {G : Gt} {S : Sh} {post : Mm → Prop} (C : Cx p s m args meth c D G cX11_enforce 2 none (cw_X11_enforce :: gw) RX11) : ∀ (xl0 : Int) (zs0 : Int32) (M : Mm) (H : Heap) (locs : List Loc) (ls : Array Slot), Wd D G S M H → va_S (aG G) s.heap H locs → lv_has ls 2 [(0, .ref (adr G xl0))] → wp_X11_enforce_27 S post xl0 zs0.toInt M → W p l e RM_X11_enforce s m args below meth c H locs 0 0 (MQ below (QV D G S post) args s 0 0 (aG G)) (F0 m 27 ls [.int zs0]) := by
  obtain ⟨hx, hb, hr, hlocks, hml, hown, hts, hK⟩ := id C
  intro xl0 zs0 M H locs ls hP hS hl h
  unfold wp_X11_enforce_27 at h
  refine lv_istore_n (lv' := [(1, .int zs0), (0, .ref (adr G xl0))]) hx hb dX11_enforce_27 rfl hl (by decide) rfl (fun ls hl => ?_)
  refine lv_aload_n hx hb dX11_enforce_28 rfl (lv_at hl 1 rfl) ?_
  refine r_getr (C := RX11) (T := TX11) (N := 16) hx hb hts (fun w h => List.mem_cons_of_mem _ (iX11 w h)) hown hK hP rfl (by decide) rfl 10 (by decide) (hts _ (List.mem_cons_of_mem _ kw_501)) (fun _ h9 => h9) dX11_enforce_29 (by decide) h (fun x2 h => ?_)
  refine lv_iload_n hx hb dX11_enforce_32 rfl (lv_at hl 0 rfl) ?_
  refine r_if_eq (tgt := 51) hx hb dX11_enforce_33 (by decide) h (fun h => ?_) (fun h => ?_)
  · refine r_gets hx hb hK hS hown (hts _ (List.mem_cons_of_mem _ kw_490)) (fun _ h9 => h9) dX11_enforce_51 h (fun x4 h => ?_)
    refine r_putrN (C := RX10) (T := TX10) (N := 12) hx hb hts (fun w h => List.mem_cons_of_mem _ (iX10 w h)) hown hK hP tyX10 tyX10_ok nmX10 hS (K2 := _) h.2.1 rfl (by decide) rfl 1 (by decide) (nw_88 hK) (fun _ h9 => h9) rfl (tyX10_ok 1 (by decide)) rfl rfl dX11_enforce_54 (by decide) ⟨h.1, h.2.2⟩ (fun M5 H locs h hP hS => ?_)
    exact r_vret hx hb hr hlocks hP hS dX11_enforce_57 h
  · refine lv_aload_n hx hb dX11_enforce_36 rfl (lv_at hl 1 rfl) ?_
    refine r_getr (C := RX11) (T := TX11) (N := 16) hx hb hts (fun w h => List.mem_cons_of_mem _ (iX11 w h)) hown hK hP rfl (by decide) rfl 6 (by decide) (hts _ (List.mem_cons_of_mem _ kw_497)) (fun _ h9 => h9) dX11_enforce_37 (by decide) h (fun x7 h => ?_)
    refine lv_aload_n hx hb dX11_enforce_40 rfl (lv_at hl 1 rfl) ?_
    refine r_getr (C := RX11) (T := TX11) (N := 16) hx hb hts (fun w h => List.mem_cons_of_mem _ (iX11 w h)) hown hK hP rfl (by decide) rfl 1 (by decide) (hts _ (List.mem_cons_of_mem _ kw_492)) (fun _ h9 => h9) dX11_enforce_41 (by decide) h (fun x9 h => ?_)
    refine r_getiN (C := RX4) (T := TX4) (N := 10) hx hb hts (fun w h => List.mem_cons_of_mem _ (iX4 w h)) hown hK hP rfl (by decide) rfl 2 (by decide) (nw_74 hK) (fun _ h9 => h9) dX11_enforce_44 (by decide) h (fun z11 h => ?_)
    refine r_aald19 hx hb hK hP dX11_enforce_47 h (fun x13 h => ?_)
    refine lv_goto (tgt := 54) hx hb dX11_enforce_48 (by decide) ?_
    refine r_putrN (C := RX10) (T := TX10) (N := 12) hx hb hts (fun w h => List.mem_cons_of_mem _ (iX10 w h)) hown hK hP tyX10 tyX10_ok nmX10 hS (K2 := _) h.2.1 rfl (by decide) rfl 1 (by decide) (nw_88 hK) (fun _ h9 => h9) rfl (tyX10_ok 1 (by decide)) rfl rfl dX11_enforce_54 (by decide) ⟨h.1, h.2.2⟩ (fun M14 H locs h hP hS => ?_)
    exact r_vret hx hb hr hlocks hP hS dX11_enforce_57 h
set_option maxHeartbeats 4000000 in
set_option maxRecDepth 100000 in
theorem t_X11_enforce_26 {p : Program} {l : Launch} {e : Env} {s : State} {m : MethodId} {args : Array Value} {below : List Frame} {meth : Method} {c : Code} {D : va_G} {G : Gt} {S : Sh} {post : Mm → Prop} (C : Cx p s m args meth c D G cX11_enforce 2 none (cw_X11_enforce :: gw) RX11) : ∀ (xl0 : Int) (M : Mm) (H : Heap) (locs : List Loc) (ls : Array Slot), Wd D G S M H → va_S (aG G) s.heap H locs → lv_has ls 2 [(0, .ref (adr G xl0))] → wp_X11_enforce_26 S post xl0  M → W p l e RM_X11_enforce s m args below meth c H locs 0 0 (MQ below (QV D G S post) args s 0 0 (aG G)) (F0 m 26 ls []) := by
  obtain ⟨hx, hb, hr, hlocks, hml, hown, hts, hK⟩ := id C
  intro xl0 M H locs ls hP hS hl h
  unfold wp_X11_enforce_26 at h
  refine r_iconst hx hb dX11_enforce_26 (by decide) h (fun z16 h => ?_)
  exact t_X11_enforce_27 C xl0 z16 _ _ _ _ hP hS (lv_sub hl [0] rfl) h
set_option maxHeartbeats 4000000 in
set_option maxRecDepth 100000 in
theorem c_X11_enforce (l : Launch) (D : va_G) (G : Gt) (S : Sh) (M : Mm) (xl0 : Int) (post : Mm → Prop) (h : wp_X11_enforce S M xl0 post) : Met l yX11_enforce (cw_X11_enforce :: gw) RM_X11_enforce (va_Pc [.ref (adr G xl0)] (fun U => KN D G U ∧ Wd D G S M U.heap)) (QV D G S post) 0 0 (aG G) := by
  refine Met.ofW (cc := cX11_enforce) (maxL := 2) (ret := none) (by decide) rfl ?_
  intro p e s m args below meth c s₁ B hml hv
  obtain ⟨rfl, hK, hP⟩ := hv
  have hx := B.exec
  have hb := B.bytes
  have hr := B.returns
  have hts := atoms_spec (ws := cw_X11_enforce :: gw) B.pre
  have hown : s.vm.findClass RX11 = some m.cls := findClass_of_methodNamed B.named
  have hlocks := B.notSynchronized
  have hS : va_S (aG G) s.heap s.heap [] := va_S.rf
  have C : Cx p s m ([.ref (adr G xl0)] : List Value).toArray meth c D G cX11_enforce 2 none (cw_X11_enforce :: gw) RX11 := ⟨hx, hb, hr, hlocks, hml, hown, hts, hK⟩
  have hl := lv_entry ([.ref (adr G xl0)]) (n := 2) (Nat.le_of_ble_eq_true rfl)
  rw [lg_entry_eq]
  generalize (lg_sl ([.ref (adr G xl0)]) ++ List.replicate (2 - (lg_sl ([.ref (adr G xl0)])).length) Slot.unset).toArray = ls at hl ⊢
  have hl : lv_has ls 2 [(0, .ref (adr G xl0))] := hl
  unfold wp_X11_enforce at h
  refine lv_aload_n hx hb dX11_enforce_0 rfl (lv_at hl 0 rfl) ?_
  refine r_getr (C := RX11) (T := TX11) (N := 16) hx hb hts (fun w h => List.mem_cons_of_mem _ (iX11 w h)) hown hK hP rfl (by decide) rfl 1 (by decide) (hts _ (List.mem_cons_of_mem _ kw_492)) (fun _ h9 => h9) dX11_enforce_1 (by decide) h (fun x18 h => ?_)
  refine r_getiN (C := RX4) (T := TX4) (N := 10) hx hb hts (fun w h => List.mem_cons_of_mem _ (iX4 w h)) hown hK hP rfl (by decide) rfl 2 (by decide) (nw_74 hK) (fun _ h9 => h9) dX11_enforce_4 (by decide) h (fun z20 h => ?_)
  refine r_if_lt (tgt := 26) hx hb dX11_enforce_7 (by decide) h (fun h => ?_) (fun h => ?_)
  · exact t_X11_enforce_26 C xl0 _ _ _ _ hP hS (lv_sub hl [0] rfl) h
  · refine lv_aload_n hx hb dX11_enforce_10 rfl (lv_at hl 0 rfl) ?_
    refine r_getr (C := RX11) (T := TX11) (N := 16) hx hb hts (fun w h => List.mem_cons_of_mem _ (iX11 w h)) hown hK hP rfl (by decide) rfl 1 (by decide) (hts _ (List.mem_cons_of_mem _ kw_492)) (fun _ h9 => h9) dX11_enforce_11 (by decide) h (fun x22 h => ?_)
    refine r_getiN (C := RX4) (T := TX4) (N := 10) hx hb hts (fun w h => List.mem_cons_of_mem _ (iX4 w h)) hown hK hP rfl (by decide) rfl 2 (by decide) (nw_74 hK) (fun _ h9 => h9) dX11_enforce_14 (by decide) h (fun z24 h => ?_)
    refine r_bipush hx hb dX11_enforce_17 (by decide) h (fun z26 h => ?_)
    refine r_icmp_ge (tgt := 26) hx hb dX11_enforce_19 (by decide) h (fun h => ?_) (fun h => ?_)
    · exact t_X11_enforce_26 C xl0 _ _ _ _ hP hS (lv_sub hl [0] rfl) h
    · refine r_iconst hx hb dX11_enforce_22 (by decide) h (fun z28 h => ?_)
      refine lv_goto (tgt := 27) hx hb dX11_enforce_23 (by decide) ?_
      exact t_X11_enforce_27 C xl0 z28 _ _ _ _ hP hS (lv_sub hl [0] rfl) h
/-! TurningMilk.force(I)I -/
abbrev RM_X11_force : Room := { frames := 2, cells := 0, slots := 0, locals := 61 }
