/-! TurningMilk$Tables.jugOfWant(LTurningMilk$State;I)I -/
abbrev RM_X6_jugOfWant : Room := { frames := 4, cells := 0, slots := 0, locals := 112 }
def cw_X6_jugOfWant : Cond := Cond.code yX6_jugOfWant cX6_jugOfWant 6 (Option.some FieldType.int)
theorem hd_X6_jugOfWant : yX6_jugOfWant.cls ≠ "java/lang/invoke/MethodHandle" ∧ yX6_jugOfWant.cls ≠ "java/lang/invoke/VarHandle" ∧ (parseMethodDescriptor yX6_jugOfWant.desc).map (fun d => d.parameters.length) = some 2 := by decide +kernel
theorem dX6_jugOfWant_0 : decode cX6_jugOfWant 0 = .ok (.iconst 0, 1) := by decide +kernel
theorem dX6_jugOfWant_1 : decode cX6_jugOfWant 1 = .ok (.istore_n 3, 1) := by decide +kernel
theorem dX6_jugOfWant_2 : decode cX6_jugOfWant 2 = .ok (.iconst (-1), 1) := by decide +kernel
theorem dX6_jugOfWant_3 : decode cX6_jugOfWant 3 = .ok (.istore 4, 2) := by decide +kernel
theorem dX6_jugOfWant_5 : decode cX6_jugOfWant 5 = .ok (.iconst 0, 1) := by decide +kernel
theorem dX6_jugOfWant_6 : decode cX6_jugOfWant 6 = .ok (.istore 5, 2) := by decide +kernel
theorem dX6_jugOfWant_8 : decode cX6_jugOfWant 8 = .ok (.iload 5, 2) := by decide +kernel
theorem dX6_jugOfWant_10 : decode cX6_jugOfWant 10 = .ok (.iload_n 2, 1) := by decide +kernel
theorem dX6_jugOfWant_11 : decode cX6_jugOfWant 11 = .ok (.if_icmp .gt 36, 3) := by decide +kernel
theorem dX6_jugOfWant_14 : decode cX6_jugOfWant 14 = .ok (.aload_n 0, 1) := by decide +kernel
theorem dX6_jugOfWant_15 : decode cX6_jugOfWant 15 = .ok (.aload_n 1, 1) := by decide +kernel
theorem dX6_jugOfWant_16 : decode cX6_jugOfWant 16 = .ok (.iload 5, 2) := by decide +kernel
theorem dX6_jugOfWant_18 : decode cX6_jugOfWant 18 = .ok (.iload_n 3, 1) := by decide +kernel
theorem dX6_jugOfWant_19 : decode cX6_jugOfWant 19 = .ok (.invokevirtual 66, 3) := by decide +kernel
theorem dX6_jugOfWant_22 : decode cX6_jugOfWant 22 = .ok (.istore 4, 2) := by decide +kernel
theorem dX6_jugOfWant_24 : decode cX6_jugOfWant 24 = .ok (.iload_n 3, 1) := by decide +kernel
theorem dX6_jugOfWant_25 : decode cX6_jugOfWant 25 = .ok (.iload 4, 2) := by decide +kernel
theorem dX6_jugOfWant_27 : decode cX6_jugOfWant 27 = .ok (.iconst (-1), 1) := by decide +kernel
theorem dX6_jugOfWant_28 : decode cX6_jugOfWant 28 = .ok (.if_icmp .ne 7, 3) := by decide +kernel
theorem dX6_jugOfWant_31 : decode cX6_jugOfWant 31 = .ok (.iconst 0, 1) := by decide +kernel
theorem dX6_jugOfWant_32 : decode cX6_jugOfWant 32 = .ok (.goto 7, 3) := by decide +kernel
theorem dX6_jugOfWant_35 : decode cX6_jugOfWant 35 = .ok (.iconst 1, 1) := by decide +kernel
theorem dX6_jugOfWant_36 : decode cX6_jugOfWant 36 = .ok (.iload 4, 2) := by decide +kernel
theorem dX6_jugOfWant_38 : decode cX6_jugOfWant 38 = .ok (.ishl, 1) := by decide +kernel
theorem dX6_jugOfWant_39 : decode cX6_jugOfWant 39 = .ok (.ior, 1) := by decide +kernel
theorem dX6_jugOfWant_40 : decode cX6_jugOfWant 40 = .ok (.istore_n 3, 1) := by decide +kernel
theorem dX6_jugOfWant_41 : decode cX6_jugOfWant 41 = .ok (.iinc 5 1, 3) := by decide +kernel
theorem dX6_jugOfWant_44 : decode cX6_jugOfWant 44 = .ok (.goto (-36), 3) := by decide +kernel
theorem dX6_jugOfWant_47 : decode cX6_jugOfWant 47 = .ok (.iload 4, 2) := by decide +kernel
theorem dX6_jugOfWant_49 : decode cX6_jugOfWant 49 = .ok (.ireturn, 1) := by decide +kernel
def wp_X6_jugOfWant_39 (S : Sh) (k8 : Int → Int → Int → Int → Int → Int → Mm → Prop) (post : Int → Mm → Prop) (u0 : Int) (u1 : Int) (u2 : Int) (u4 : Int) (u5 : Int) (t0 : Int) (t1 : Int) (M : Mm) : Prop := wO iOr t0 t1 fun v1 => wA u5 1 fun v3 => k8 u0 u1 u2 v1 u4 v3 M
def wp_X6_jugOfWant_8 (S : Sh) (post : Int → Mm → Prop) : Nat → Int → Int → Int → Int → Int → Int → Mm → Prop
  | 0, _, _, _, _, _, _, _ => False
  | n + 1, u0, u1, u2, u3, u4, u5, M => wIf (u2 < u5) (post u4 M) (isK S u0 6 ∧ (wp_X6_firstBest S M u0 u1 u5 u3 <| fun v6 M5 => wC (-1) fun v8 => wIf (¬ v6 = v8) (wC 1 fun v10 => wO iShl v10 v6 fun v12 => wp_X6_jugOfWant_39 S (fun a0 a1 a2 a3 a4 a5 M => wp_X6_jugOfWant_8 S post n a0 a1 a2 a3 a4 a5 M) post u0 u1 u2 v6 u5 u3 v12 M5) (wC 0 fun v14 => wp_X6_jugOfWant_39 S (fun a0 a1 a2 a3 a4 a5 M => wp_X6_jugOfWant_8 S post n a0 a1 a2 a3 a4 a5 M) post u0 u1 u2 v6 u5 u3 v14 M5)))
def wp_X6_jugOfWant (S : Sh) (M : Mm) (u0 : Int) (u1 : Int) (u2 : Int) (post : Int → Mm → Prop) : Prop := wC 0 fun v16 => wC (-1) fun v18 => wC 0 fun v20 => ∃ n9 : Nat, wp_X6_jugOfWant_8 S post n9 u0 u1 u2 v16 v18 v20 M
set_option maxHeartbeats 4000000 in
set_option maxRecDepth 100000 in
theorem t_X6_jugOfWant_39 {p : Program} {l : Launch} {e : Env} {s : State} {m : MethodId} {args : Array Value} {below : List Frame} {meth : Method} {c : Code} {D : va_G} {G : Gt} {S : Sh} {post : Int → Mm → Prop} {k8 : Int → Int → Int → Int → Int → Int → Mm → Prop} (C : Cx p s m args meth c D G cX6_jugOfWant 6 (some .int) (cw_X6_jugOfWant :: gw) RX6) (hk8 : ∀ (y0 : Int) (y1 : Int) (y2 : Int32) (y3 : Int32) (y4 : Int32) (y5 : Int32) (M : Mm) (H : Heap) (locs : List Loc) (ls : Array Slot), Wd D G S M H → va_S (aG G) s.heap H locs → lv_has ls 6 [(0, .ref (adr G y0)), (1, .ref (adr G y1)), (2, .int y2), (3, .int y3), (4, .int y4), (5, .int y5)] → k8 y0 y1 y2.toInt y3.toInt y4.toInt y5.toInt M → W p l e RM_X6_jugOfWant s m args below meth c H locs 0 0 (MQ below (QI D G S post) args s 0 0 (aG G)) (F0 m 8 ls [])) : ∀ (xl0 : Int) (xl1 : Int) (zl2 : Int32) (zl4 : Int32) (zl5 : Int32) (zs0 : Int32) (zs1 : Int32) (M : Mm) (H : Heap) (locs : List Loc) (ls : Array Slot), Wd D G S M H → va_S (aG G) s.heap H locs → lv_has ls 6 [(0, .ref (adr G xl0)), (1, .ref (adr G xl1)), (2, .int zl2), (4, .int zl4), (5, .int zl5)] → wp_X6_jugOfWant_39 S k8 post xl0 xl1 zl2.toInt zl4.toInt zl5.toInt zs0.toInt zs1.toInt M → W p l e RM_X6_jugOfWant s m args below meth c H locs 0 0 (MQ below (QI D G S post) args s 0 0 (aG G)) (F0 m 39 ls [.int zs1, .int zs0]) := by
  obtain ⟨hx, hb, hr, hlocks, hml, hown, hts, hK⟩ := id C
  intro xl0 xl1 zl2 zl4 zl5 zs0 zs1 M H locs ls hP hS hl h
  unfold wp_X6_jugOfWant_39 at h
  refine r_ior hx hb dX6_jugOfWant_39 h (fun z2 h => ?_)
  refine lv_istore_n (lv' := [(3, .int z2), (0, .ref (adr G xl0)), (1, .ref (adr G xl1)), (2, .int zl2), (4, .int zl4), (5, .int zl5)]) hx hb dX6_jugOfWant_40 rfl hl (by decide) rfl (fun ls hl => ?_)
  refine r_iinc hx hb (fun z4 => [(5, .int z4), (3, .int z2), (0, .ref (adr G xl0)), (1, .ref (adr G xl1)), (2, .int zl2), (4, .int zl4)]) dX6_jugOfWant_41 (by decide) hl (k := 5) rfl (by decide) (fun _ => rfl) h (fun z4 ls hl h => ?_)
  refine lv_goto (tgt := 8) hx hb dX6_jugOfWant_44 (by decide) ?_
  exact hk8 xl0 xl1 zl2 z2 zl4 z4 _ _ _ _ hP hS (lv_sub hl [2, 3, 4, 1, 5, 0] rfl) h
set_option maxHeartbeats 4000000 in
set_option maxRecDepth 100000 in
theorem t_X6_jugOfWant_8 {p : Program} {l : Launch} {e : Env} {s : State} {m : MethodId} {args : Array Value} {below : List Frame} {meth : Method} {c : Code} {D : va_G} {G : Gt} {S : Sh} {post : Int → Mm → Prop} (C : Cx p s m args meth c D G cX6_jugOfWant 6 (some .int) (cw_X6_jugOfWant :: gw) RX6) : ∀ (n : Nat) (xl0 : Int) (xl1 : Int) (zl2 : Int32) (zl3 : Int32) (zl4 : Int32) (zl5 : Int32) (M : Mm) (H : Heap) (locs : List Loc) (ls : Array Slot), Wd D G S M H → va_S (aG G) s.heap H locs → lv_has ls 6 [(0, .ref (adr G xl0)), (1, .ref (adr G xl1)), (2, .int zl2), (3, .int zl3), (4, .int zl4), (5, .int zl5)] → wp_X6_jugOfWant_8 S post n xl0 xl1 zl2.toInt zl3.toInt zl4.toInt zl5.toInt  M → W p l e RM_X6_jugOfWant s m args below meth c H locs 0 0 (MQ below (QI D G S post) args s 0 0 (aG G)) (F0 m 8 ls []) := by
  obtain ⟨hx, hb, hr, hlocks, hml, hown, hts, hK⟩ := id C
  intro n
  induction n with
  | zero => intro xl0 xl1 zl2 zl3 zl4 zl5 M H locs ls hP hS hl h; exact h.elim
  | succ n ih =>
    intro xl0 xl1 zl2 zl3 zl4 zl5 M H locs ls hP hS hl h
    unfold wp_X6_jugOfWant_8 at h
    refine lv_iload hx hb dX6_jugOfWant_8 (lv_at hl 5 rfl) ?_
    refine lv_iload_n hx hb dX6_jugOfWant_10 rfl (lv_at hl 2 rfl) ?_
    refine r_icmp_gt (tgt := 47) hx hb dX6_jugOfWant_11 (by decide) h (fun h => ?_) (fun h => ?_)
    · refine lv_iload hx hb dX6_jugOfWant_47 (lv_at hl 4 rfl) ?_
      exact r_iret hx hb hr hlocks hP hS dX6_jugOfWant_49 h
    · refine lv_aload_n hx hb dX6_jugOfWant_14 rfl (lv_at hl 0 rfl) ?_
      refine lv_aload_n hx hb dX6_jugOfWant_15 rfl (lv_at hl 1 rfl) ?_
      refine lv_iload hx hb dX6_jugOfWant_16 (lv_at hl 5 rfl) ?_
      refine lv_iload_n hx hb dX6_jugOfWant_18 rfl (lv_at hl 3 rfl) ?_
      refine q_Vi hx hb hml hown hts hK hP hS (c_X6_firstBest l D G S _ xl0 xl1 zl5 zl3 _ h.2) ⟨callB_of 3 hts (gw_good kw_1176) rfl rfl rfl (hts _ (List.mem_cons_of_mem _ kw_12)) (hts _ (List.mem_cons_of_mem _ kw_1173)) hd_X6_firstBest ⟨Nat.le_of_ble_eq_true rfl, Nat.le_of_ble_eq_true rfl⟩, (hts _ (List.mem_cons_of_mem _ kw_1175)), (hts _ (List.mem_cons_of_mem _ kp_44))⟩ h.1 (ci := 6) rfl (by decide) rfl hl.1 rfl (lv_room (Nat.le_of_ble_eq_true rfl)) dX6_jugOfWant_19 ⟨Nat.zero_le _, Nat.zero_le _⟩ (fun z7 M5 H locs h hP hS => ?_)
      refine lv_istore (lv' := [(4, .int z7), (0, .ref (adr G xl0)), (1, .ref (adr G xl1)), (2, .int zl2), (3, .int zl3), (5, .int zl5)]) hx hb dX6_jugOfWant_22 hl (by decide) rfl (fun ls hl => ?_)
      refine lv_iload_n hx hb dX6_jugOfWant_24 rfl (lv_at hl 4 rfl) ?_
      refine lv_iload hx hb dX6_jugOfWant_25 (lv_at hl 0 rfl) ?_
      refine r_iconst hx hb dX6_jugOfWant_27 (by decide) h (fun z9 h => ?_)
      refine r_icmp_ne (tgt := 35) hx hb dX6_jugOfWant_28 (by decide) h (fun h => ?_) (fun h => ?_)
      · refine r_iconst hx hb dX6_jugOfWant_35 (by decide) h (fun z11 h => ?_)
        refine lv_iload hx hb dX6_jugOfWant_36 (lv_at hl 0 rfl) ?_
        refine r_ishl hx hb dX6_jugOfWant_38 h (fun z13 h => ?_)
        exact t_X6_jugOfWant_39 C ih xl0 xl1 zl2 z7 zl5 zl3 z13 _ _ _ _ hP hS (lv_sub hl [1, 2, 3, 0, 5] rfl) h
      · refine r_iconst hx hb dX6_jugOfWant_31 (by decide) h (fun z15 h => ?_)
        refine lv_goto (tgt := 39) hx hb dX6_jugOfWant_32 (by decide) ?_
        exact t_X6_jugOfWant_39 C ih xl0 xl1 zl2 z7 zl5 zl3 z15 _ _ _ _ hP hS (lv_sub hl [1, 2, 3, 0, 5] rfl) h
set_option maxHeartbeats 4000000 in
set_option maxRecDepth 100000 in
theorem c_X6_jugOfWant (l : Launch) (D : va_G) (G : Gt) (S : Sh) (M : Mm) (xl0 : Int) (xl1 : Int) (zl2 : Int32) (post : Int → Mm → Prop) (h : wp_X6_jugOfWant S M xl0 xl1 zl2.toInt post) : Met l yX6_jugOfWant (cw_X6_jugOfWant :: gw) RM_X6_jugOfWant (va_Pc [.ref (adr G xl0), .ref (adr G xl1), .int zl2] (fun U => KN D G U ∧ Wd D G S M U.heap)) (QI D G S post) 0 0 (aG G) := by
  refine Met.ofW (cc := cX6_jugOfWant) (maxL := 6) (ret := (some .int)) (by decide) rfl ?_
  intro p e s m args below meth c s₁ B hml hv
  obtain ⟨rfl, hK, hP⟩ := hv
  have hx := B.exec
  have hb := B.bytes
  have hr := B.returns
  have hts := atoms_spec (ws := cw_X6_jugOfWant :: gw) B.pre
  have hown : s.vm.findClass RX6 = some m.cls := findClass_of_methodNamed B.named
  have hlocks := B.notSynchronized
  have hS : va_S (aG G) s.heap s.heap [] := va_S.rf
  have C : Cx p s m ([.ref (adr G xl0), .ref (adr G xl1), .int zl2] : List Value).toArray meth c D G cX6_jugOfWant 6 (some .int) (cw_X6_jugOfWant :: gw) RX6 := ⟨hx, hb, hr, hlocks, hml, hown, hts, hK⟩
  have hl := lv_entry ([.ref (adr G xl0), .ref (adr G xl1), .int zl2]) (n := 6) (Nat.le_of_ble_eq_true rfl)
  rw [lg_entry_eq]
  generalize (lg_sl ([.ref (adr G xl0), .ref (adr G xl1), .int zl2]) ++ List.replicate (6 - (lg_sl ([.ref (adr G xl0), .ref (adr G xl1), .int zl2])).length) Slot.unset).toArray = ls at hl ⊢
  have hl : lv_has ls 6 [(0, .ref (adr G xl0)), (1, .ref (adr G xl1)), (2, .int zl2)] := hl
  unfold wp_X6_jugOfWant at h
  refine r_iconst hx hb dX6_jugOfWant_0 (by decide) h (fun z17 h => ?_)
  refine lv_istore_n (lv' := [(3, .int z17), (0, .ref (adr G xl0)), (1, .ref (adr G xl1)), (2, .int zl2)]) hx hb dX6_jugOfWant_1 rfl hl (by decide) rfl (fun ls hl => ?_)
  refine r_iconst hx hb dX6_jugOfWant_2 (by decide) h (fun z19 h => ?_)
  refine lv_istore (lv' := [(4, .int z19), (3, .int z17), (0, .ref (adr G xl0)), (1, .ref (adr G xl1)), (2, .int zl2)]) hx hb dX6_jugOfWant_3 hl (by decide) rfl (fun ls hl => ?_)
  refine r_iconst hx hb dX6_jugOfWant_5 (by decide) h (fun z21 h => ?_)
  refine lv_istore (lv' := [(5, .int z21), (4, .int z19), (3, .int z17), (0, .ref (adr G xl0)), (1, .ref (adr G xl1)), (2, .int zl2)]) hx hb dX6_jugOfWant_6 hl (by decide) rfl (fun ls hl => ?_)
  obtain ⟨n9, h⟩ := h
  exact t_X6_jugOfWant_8 C n9 xl0 xl1 zl2 z17 z19 z21 _ _ _ _ hP hS (lv_sub hl [3, 4, 5, 2, 1, 0] rfl) h
/-! TurningMilk.match(I)I -/
abbrev RM_X11_match : Room := { frames := 5, cells := 0, slots := 0, locals := 137 }
def cw_X11_match : Cond := Cond.code yX11_match cX11_match 2 (Option.some FieldType.int)
theorem hd_X11_match : yX11_match.cls ≠ "java/lang/invoke/MethodHandle" ∧ yX11_match.cls ≠ "java/lang/invoke/VarHandle" ∧ (parseMethodDescriptor yX11_match.desc).map (fun d => d.parameters.length) = some 1 := by decide +kernel
theorem dX11_match_0 : decode cX11_match 0 = .ok (.aload_n 0, 1) := by decide +kernel
theorem dX11_match_1 : decode cX11_match 1 = .ok (.getfield 19, 3) := by decide +kernel
theorem dX11_match_4 : decode cX11_match 4 = .ok (.getfield 57, 3) := by decide +kernel
theorem dX11_match_7 : decode cX11_match 7 = .ok (.getfield 166, 3) := by decide +kernel
theorem dX11_match_10 : decode cX11_match 10 = .ok (.ifCond .eq 13, 3) := by decide +kernel
theorem dX11_match_13 : decode cX11_match 13 = .ok (.iload_n 1, 1) := by decide +kernel
theorem dX11_match_14 : decode cX11_match 14 = .ok (.ifCond .lt 9, 3) := by decide +kernel
theorem dX11_match_17 : decode cX11_match 17 = .ok (.iload_n 1, 1) := by decide +kernel
theorem dX11_match_18 : decode cX11_match 18 = .ok (.bipush 6, 2) := by decide +kernel
theorem dX11_match_20 : decode cX11_match 20 = .ok (.if_icmp .le 6, 3) := by decide +kernel
theorem dX11_match_23 : decode cX11_match 23 = .ok (.bipush (-3), 2) := by decide +kernel
theorem dX11_match_25 : decode cX11_match 25 = .ok (.ireturn, 1) := by decide +kernel
theorem dX11_match_26 : decode cX11_match 26 = .ok (.iload_n 1, 1) := by decide +kernel
theorem dX11_match_27 : decode cX11_match 27 = .ok (.aload_n 0, 1) := by decide +kernel
theorem dX11_match_28 : decode cX11_match 28 = .ok (.getfield 19, 3) := by decide +kernel
theorem dX11_match_31 : decode cX11_match 31 = .ok (.getfield 57, 3) := by decide +kernel
theorem dX11_match_34 : decode cX11_match 34 = .ok (.getfield 172, 3) := by decide +kernel
theorem dX11_match_37 : decode cX11_match 37 = .ok (.if_icmp .le 6, 3) := by decide +kernel
theorem dX11_match_40 : decode cX11_match 40 = .ok (.bipush (-2), 2) := by decide +kernel
theorem dX11_match_42 : decode cX11_match 42 = .ok (.ireturn, 1) := by decide +kernel
theorem dX11_match_43 : decode cX11_match 43 = .ok (.aload_n 0, 1) := by decide +kernel
theorem dX11_match_44 : decode cX11_match 44 = .ok (.getfield 87, 3) := by decide +kernel
theorem dX11_match_47 : decode cX11_match 47 = .ok (.aload_n 0, 1) := by decide +kernel
theorem dX11_match_48 : decode cX11_match 48 = .ok (.getfield 19, 3) := by decide +kernel
theorem dX11_match_51 : decode cX11_match 51 = .ok (.getfield 133, 3) := by decide +kernel
theorem dX11_match_54 : decode cX11_match 54 = .ok (.invokevirtual 336, 3) := by decide +kernel
theorem dX11_match_57 : decode cX11_match 57 = .ok (.iload_n 1, 1) := by decide +kernel
theorem dX11_match_58 : decode cX11_match 58 = .ok (.ifCond .ne 13, 3) := by decide +kernel
theorem dX11_match_61 : decode cX11_match 61 = .ok (.aload_n 0, 1) := by decide +kernel
theorem dX11_match_62 : decode cX11_match 62 = .ok (.getfield 87, 3) := by decide +kernel
theorem dX11_match_65 : decode cX11_match 65 = .ok (.invokevirtual 339, 3) := by decide +kernel
theorem dX11_match_68 : decode cX11_match 68 = .ok (.goto 20, 3) := by decide +kernel
theorem dX11_match_71 : decode cX11_match 71 = .ok (.aload_n 0, 1) := by decide +kernel
theorem dX11_match_72 : decode cX11_match 72 = .ok (.getfield 87, 3) := by decide +kernel
theorem dX11_match_75 : decode cX11_match 75 = .ok (.aload_n 0, 1) := by decide +kernel
theorem dX11_match_76 : decode cX11_match 76 = .ok (.getfield 19, 3) := by decide +kernel
theorem dX11_match_79 : decode cX11_match 79 = .ok (.getfield 133, 3) := by decide +kernel
theorem dX11_match_82 : decode cX11_match 82 = .ok (.iload_n 1, 1) := by decide +kernel
theorem dX11_match_83 : decode cX11_match 83 = .ok (.iconst 1, 1) := by decide +kernel
theorem dX11_match_84 : decode cX11_match 84 = .ok (.isub, 1) := by decide +kernel
theorem dX11_match_85 : decode cX11_match 85 = .ok (.invokevirtual 342, 3) := by decide +kernel
theorem dX11_match_88 : decode cX11_match 88 = .ok (.ireturn, 1) := by decide +kernel
def wp_X11_match (S : Sh) (M : Mm) (u0 : Int) (u1 : Int) (post : Int → Mm → Prop) : Prop := wGetR S M u0 11 1 fun v1 => wGetR S M v1 4 0 fun v3 => wGet S M v3 8 0 fun v5 => wIf (v5 = 0) (wC (-3) fun v7 => post v7 M) (wIf (u1 < 0) (wC (-3) fun v9 => post v9 M) (wC 6 fun v11 => wIf (u1 ≤ v11) (wGetR S M u0 11 1 fun v13 => wGetR S M v13 4 0 fun v15 => wGet S M v15 8 7 fun v17 => wIf (u1 ≤ v17) (wGetR S M u0 11 13 fun v19 => wGetR S M u0 11 1 fun v21 => wGetR S M v21 4 1 fun v23 => isK S v19 6 ∧ (wp_X6_matchWants S M v19 v23 <| fun M25 => wIf (¬ u1 = 0) (wGetR S M25 u0 11 13 fun v26 => wGetR S M25 u0 11 1 fun v28 => wGetR S M25 v28 4 1 fun v30 => wC 1 fun v32 => wS u1 v32 fun v34 => isK S v26 6 ∧ (wp_X6_jugOfWant S M25 v26 v30 v34 <| fun v37 M36 => post v37 M36)) (wGetR S M25 u0 11 13 fun v39 => isK S v39 6 ∧ (wp_X6_mostPay S M25 v39 <| fun v42 M41 => post v42 M41)))) (wC (-2) fun v44 => post v44 M)) (wC (-3) fun v46 => post v46 M)))
set_option maxHeartbeats 4000000 in
set_option maxRecDepth 100000 in
theorem c_X11_match (l : Launch) (D : va_G) (G : Gt) (S : Sh) (M : Mm) (xl0 : Int) (zl1 : Int32) (post : Int → Mm → Prop) (h : wp_X11_match S M xl0 zl1.toInt post) : Met l yX11_match (cw_X11_match :: gw) RM_X11_match (va_Pc [.ref (adr G xl0), .int zl1] (fun U => KN D G U ∧ Wd D G S M U.heap)) (QI D G S post) 0 0 (aG G) := by
  refine Met.ofW (cc := cX11_match) (maxL := 2) (ret := (some .int)) (by decide) rfl ?_
  intro p e s m args below meth c s₁ B hml hv
  obtain ⟨rfl, hK, hP⟩ := hv
  have hx := B.exec
  have hb := B.bytes
  have hr := B.returns
  have hts := atoms_spec (ws := cw_X11_match :: gw) B.pre
  have hown : s.vm.findClass RX11 = some m.cls := findClass_of_methodNamed B.named
  have hlocks := B.notSynchronized
  have hS : va_S (aG G) s.heap s.heap [] := va_S.rf
  have C : Cx p s m ([.ref (adr G xl0), .int zl1] : List Value).toArray meth c D G cX11_match 2 (some .int) (cw_X11_match :: gw) RX11 := ⟨hx, hb, hr, hlocks, hml, hown, hts, hK⟩
  have hl := lv_entry ([.ref (adr G xl0), .int zl1]) (n := 2) (Nat.le_of_ble_eq_true rfl)
  rw [lg_entry_eq]
  generalize (lg_sl ([.ref (adr G xl0), .int zl1]) ++ List.replicate (2 - (lg_sl ([.ref (adr G xl0), .int zl1])).length) Slot.unset).toArray = ls at hl ⊢
  have hl : lv_has ls 2 [(0, .ref (adr G xl0)), (1, .int zl1)] := hl
  unfold wp_X11_match at h
  refine lv_aload_n hx hb dX11_match_0 rfl (lv_at hl 0 rfl) ?_
  refine r_getr (C := RX11) (T := TX11) (N := 16) hx hb hts (fun w h => List.mem_cons_of_mem _ (iX11 w h)) hown hK hP rfl (by decide) rfl 1 (by decide) (hts _ (List.mem_cons_of_mem _ kw_492)) (fun _ h9 => h9) dX11_match_1 (by decide) h (fun x2 h => ?_)
  refine r_getrN (C := RX4) (T := TX4) (N := 10) hx hb hts (fun w h => List.mem_cons_of_mem _ (iX4 w h)) hown hK hP rfl (by decide) rfl 0 (by decide) (nw_70 hK) (fun _ h9 => h9) dX11_match_4 (by decide) h (fun x4 h => ?_)
  refine r_getiN (C := RX8) (T := TX8) (N := 19) hx hb hts (fun w h => List.mem_cons_of_mem _ (iX8 w h)) hown hK hP rfl (by decide) rfl 0 (by decide) (nw_4 hK) (fun _ h9 => h9) dX11_match_7 (by decide) h (fun z6 h => ?_)
  refine r_if_eq (tgt := 23) hx hb dX11_match_10 (by decide) h (fun h => ?_) (fun h => ?_)
  · refine r_bipush hx hb dX11_match_23 (by decide) h (fun z8 h => ?_)
    exact r_iret hx hb hr hlocks hP hS dX11_match_25 h
  · refine lv_iload_n hx hb dX11_match_13 rfl (lv_at hl 1 rfl) ?_
    refine r_if_lt (tgt := 23) hx hb dX11_match_14 (by decide) h (fun h => ?_) (fun h => ?_)
    · refine r_bipush hx hb dX11_match_23 (by decide) h (fun z10 h => ?_)
      exact r_iret hx hb hr hlocks hP hS dX11_match_25 h
    · refine lv_iload_n hx hb dX11_match_17 rfl (lv_at hl 1 rfl) ?_
      refine r_bipush hx hb dX11_match_18 (by decide) h (fun z12 h => ?_)
      refine r_icmp_le (tgt := 26) hx hb dX11_match_20 (by decide) h (fun h => ?_) (fun h => ?_)
      · refine lv_iload_n hx hb dX11_match_26 rfl (lv_at hl 1 rfl) ?_
        refine lv_aload_n hx hb dX11_match_27 rfl (lv_at hl 0 rfl) ?_
        refine r_getr (C := RX11) (T := TX11) (N := 16) hx hb hts (fun w h => List.mem_cons_of_mem _ (iX11 w h)) hown hK hP rfl (by decide) rfl 1 (by decide) (hts _ (List.mem_cons_of_mem _ kw_492)) (fun _ h9 => h9) dX11_match_28 (by decide) h (fun x14 h => ?_)
        refine r_getrN (C := RX4) (T := TX4) (N := 10) hx hb hts (fun w h => List.mem_cons_of_mem _ (iX4 w h)) hown hK hP rfl (by decide) rfl 0 (by decide) (nw_70 hK) (fun _ h9 => h9) dX11_match_31 (by decide) h (fun x16 h => ?_)
        refine r_getiN (C := RX8) (T := TX8) (N := 19) hx hb hts (fun w h => List.mem_cons_of_mem _ (iX8 w h)) hown hK hP rfl (by decide) rfl 7 (by decide) (nw_25 hK) (fun _ h9 => h9) dX11_match_34 (by decide) h (fun z18 h => ?_)
        refine r_icmp_le (tgt := 43) hx hb dX11_match_37 (by decide) h (fun h => ?_) (fun h => ?_)
        · refine lv_aload_n hx hb dX11_match_43 rfl (lv_at hl 0 rfl) ?_
          refine r_getr (C := RX11) (T := TX11) (N := 16) hx hb hts (fun w h => List.mem_cons_of_mem _ (iX11 w h)) hown hK hP rfl (by decide) rfl 13 (by decide) (hts _ (List.mem_cons_of_mem _ kw_504)) (fun _ h9 => h9) dX11_match_44 (by decide) h (fun x20 h => ?_)
          refine lv_aload_n hx hb dX11_match_47 rfl (lv_at hl 0 rfl) ?_
          refine r_getr (C := RX11) (T := TX11) (N := 16) hx hb hts (fun w h => List.mem_cons_of_mem _ (iX11 w h)) hown hK hP rfl (by decide) rfl 1 (by decide) (hts _ (List.mem_cons_of_mem _ kw_492)) (fun _ h9 => h9) dX11_match_48 (by decide) h (fun x22 h => ?_)
          refine r_getrN (C := RX4) (T := TX4) (N := 10) hx hb hts (fun w h => List.mem_cons_of_mem _ (iX4 w h)) hown hK hP rfl (by decide) rfl 1 (by decide) (nw_73 hK) (fun _ h9 => h9) dX11_match_51 (by decide) h (fun x24 h => ?_)
          refine q_Vv hx hb hml hown hts hK hP hS (c_X6_matchWants l D G S _ x20 x24 _ h.2) ⟨callB_of 1 hts (gw_good kw_1156) rfl rfl rfl (hts _ (List.mem_cons_of_mem _ kw_12)) (hts _ (List.mem_cons_of_mem _ kw_1153)) hd_X6_matchWants ⟨Nat.le_of_ble_eq_true rfl, Nat.le_of_ble_eq_true rfl⟩, (hts _ (List.mem_cons_of_mem _ kw_1154)), (hts _ (List.mem_cons_of_mem _ kw_1155))⟩ h.1 (ci := 6) rfl (by decide) rfl hl.1 rfl (lv_room (Nat.le_of_ble_eq_true rfl)) dX11_match_54 ⟨Nat.zero_le _, Nat.zero_le _⟩ (fun M25 H locs h hP hS => ?_)
          refine lv_iload_n hx hb dX11_match_57 rfl (lv_at hl 1 rfl) ?_
          refine r_if_ne (tgt := 71) hx hb dX11_match_58 (by decide) h (fun h => ?_) (fun h => ?_)
          · refine lv_aload_n hx hb dX11_match_71 rfl (lv_at hl 0 rfl) ?_
            refine r_getr (C := RX11) (T := TX11) (N := 16) hx hb hts (fun w h => List.mem_cons_of_mem _ (iX11 w h)) hown hK hP rfl (by decide) rfl 13 (by decide) (hts _ (List.mem_cons_of_mem _ kw_504)) (fun _ h9 => h9) dX11_match_72 (by decide) h (fun x27 h => ?_)
            refine lv_aload_n hx hb dX11_match_75 rfl (lv_at hl 0 rfl) ?_
            refine r_getr (C := RX11) (T := TX11) (N := 16) hx hb hts (fun w h => List.mem_cons_of_mem _ (iX11 w h)) hown hK hP rfl (by decide) rfl 1 (by decide) (hts _ (List.mem_cons_of_mem _ kw_492)) (fun _ h9 => h9) dX11_match_76 (by decide) h (fun x29 h => ?_)
            refine r_getrN (C := RX4) (T := TX4) (N := 10) hx hb hts (fun w h => List.mem_cons_of_mem _ (iX4 w h)) hown hK hP rfl (by decide) rfl 1 (by decide) (nw_73 hK) (fun _ h9 => h9) dX11_match_79 (by decide) h (fun x31 h => ?_)
            refine lv_iload_n hx hb dX11_match_82 rfl (lv_at hl 1 rfl) ?_
            refine r_iconst hx hb dX11_match_83 (by decide) h (fun z33 h => ?_)
            refine r_isub hx hb dX11_match_84 h (fun z35 h => ?_)
            refine q_Vi hx hb hml hown hts hK hP hS (c_X6_jugOfWant l D G S _ x27 x31 z35 _ h.2) ⟨callB_of 2 hts (gw_good kw_1172) rfl rfl rfl (hts _ (List.mem_cons_of_mem _ kw_12)) (hts _ (List.mem_cons_of_mem _ kw_1169)) hd_X6_jugOfWant ⟨Nat.le_of_ble_eq_true rfl, Nat.le_of_ble_eq_true rfl⟩, (hts _ (List.mem_cons_of_mem _ kw_1170)), (hts _ (List.mem_cons_of_mem _ kw_1171))⟩ h.1 (ci := 6) rfl (by decide) rfl hl.1 rfl (lv_room (Nat.le_of_ble_eq_true rfl)) dX11_match_85 ⟨Nat.zero_le _, Nat.zero_le _⟩ (fun z38 M36 H locs h hP hS => ?_)
            exact r_iret hx hb hr hlocks hP hS dX11_match_88 h
          · refine lv_aload_n hx hb dX11_match_61 rfl (lv_at hl 0 rfl) ?_
            refine r_getr (C := RX11) (T := TX11) (N := 16) hx hb hts (fun w h => List.mem_cons_of_mem _ (iX11 w h)) hown hK hP rfl (by decide) rfl 13 (by decide) (hts _ (List.mem_cons_of_mem _ kw_504)) (fun _ h9 => h9) dX11_match_62 (by decide) h (fun x40 h => ?_)
            refine q_Vi hx hb hml hown hts hK hP hS (c_X6_mostPay l D G S _ x40 _ h.2) ⟨callB_of 0 hts (gw_good kw_1168) rfl rfl rfl (hts _ (List.mem_cons_of_mem _ kw_12)) (hts _ (List.mem_cons_of_mem _ kw_1165)) hd_X6_mostPay ⟨Nat.le_of_ble_eq_true rfl, Nat.le_of_ble_eq_true rfl⟩, (hts _ (List.mem_cons_of_mem _ kw_1166)), (hts _ (List.mem_cons_of_mem _ kw_1167))⟩ h.1 (ci := 6) rfl (by decide) rfl hl.1 rfl (lv_room (Nat.le_of_ble_eq_true rfl)) dX11_match_65 ⟨Nat.zero_le _, Nat.zero_le _⟩ (fun z43 M41 H locs h hP hS => ?_)
            refine lv_goto (tgt := 88) hx hb dX11_match_68 (by decide) ?_
            exact r_iret hx hb hr hlocks hP hS dX11_match_88 h
        · refine r_bipush hx hb dX11_match_40 (by decide) h (fun z45 h => ?_)
          exact r_iret hx hb hr hlocks hP hS dX11_match_42 h
      · refine r_bipush hx hb dX11_match_23 (by decide) h (fun z47 h => ?_)
        exact r_iret hx hb hr hlocks hP hS dX11_match_25 h
/-! TurningMilk$Turning.restAnHour()V -/
abbrev RM_X10_restAnHour : Room := { frames := 1, cells := 0, slots := 0, locals := 60 }
def cw_X10_restAnHour : Cond := Cond.code yX10_restAnHour cX10_restAnHour 1 (Option.none : Option FieldType)
theorem hd_X10_restAnHour : yX10_restAnHour.cls ≠ "java/lang/invoke/MethodHandle" ∧ yX10_restAnHour.cls ≠ "java/lang/invoke/VarHandle" ∧ (parseMethodDescriptor yX10_restAnHour.desc).map (fun d => d.parameters.length) = some 0 := by decide +kernel
theorem dX10_restAnHour_0 : decode cX10_restAnHour 0 = .ok (.aload_n 0, 1) := by decide +kernel
theorem dX10_restAnHour_1 : decode cX10_restAnHour 1 = .ok (.iconst 0, 1) := by decide +kernel
theorem dX10_restAnHour_2 : decode cX10_restAnHour 2 = .ok (.aload_n 0, 1) := by decide +kernel
theorem dX10_restAnHour_3 : decode cX10_restAnHour 3 = .ok (.getfield 53, 3) := by decide +kernel
theorem dX10_restAnHour_6 : decode cX10_restAnHour 6 = .ok (.iconst 1, 1) := by decide +kernel
theorem dX10_restAnHour_7 : decode cX10_restAnHour 7 = .ok (.isub, 1) := by decide +kernel
theorem dX10_restAnHour_8 : decode cX10_restAnHour 8 = .ok (.invokestatic 106, 3) := by decide +kernel
theorem dX10_restAnHour_11 : decode cX10_restAnHour 11 = .ok (.putfield 53, 3) := by decide +kernel
theorem dX10_restAnHour_14 : decode cX10_restAnHour 14 = .ok (.aload_n 0, 1) := by decide +kernel
theorem dX10_restAnHour_15 : decode cX10_restAnHour 15 = .ok (.sipush 999, 3) := by decide +kernel
theorem dX10_restAnHour_18 : decode cX10_restAnHour 18 = .ok (.aload_n 0, 1) := by decide +kernel
theorem dX10_restAnHour_19 : decode cX10_restAnHour 19 = .ok (.getfield 61, 3) := by decide +kernel
theorem dX10_restAnHour_22 : decode cX10_restAnHour 22 = .ok (.iconst 1, 1) := by decide +kernel
theorem dX10_restAnHour_23 : decode cX10_restAnHour 23 = .ok (.iadd, 1) := by decide +kernel
theorem dX10_restAnHour_24 : decode cX10_restAnHour 24 = .ok (.invokestatic 97, 3) := by decide +kernel
theorem dX10_restAnHour_27 : decode cX10_restAnHour 27 = .ok (.putfield 61, 3) := by decide +kernel
theorem dX10_restAnHour_30 : decode cX10_restAnHour 30 = .ok (.return_, 1) := by decide +kernel
def wp_X10_restAnHour (S : Sh) (M : Mm) (u0 : Int) (post : Mm → Prop) : Prop := wC 0 fun v1 => wGet S M u0 10 7 fun v3 => wC 1 fun v5 => wS v3 v5 fun v7 => wO max v1 v7 fun v9 => wPut S M u0 10 7 v9 fun M11 => wC 999 fun v12 => wGet S M11 u0 10 8 fun v14 => wC 1 fun v16 => wA v14 v16 fun v18 => wO min v12 v18 fun v20 => wPut S M11 u0 10 8 v20 fun M22 => post M22
set_option maxHeartbeats 4000000 in
set_option maxRecDepth 100000 in
theorem c_X10_restAnHour (l : Launch) (D : va_G) (G : Gt) (S : Sh) (M : Mm) (xl0 : Int) (post : Mm → Prop) (h : wp_X10_restAnHour S M xl0 post) : Met l yX10_restAnHour (cw_X10_restAnHour :: gw) RM_X10_restAnHour (va_Pc [.ref (adr G xl0)] (fun U => KN D G U ∧ Wd D G S M U.heap)) (QV D G S post) 0 0 (aG G) := by
  refine Met.ofW (cc := cX10_restAnHour) (maxL := 1) (ret := none) (by decide) rfl ?_
  intro p e s m args below meth c s₁ B hml hv
  obtain ⟨rfl, hK, hP⟩ := hv
  have hx := B.exec
  have hb := B.bytes
  have hr := B.returns
  have hts := atoms_spec (ws := cw_X10_restAnHour :: gw) B.pre
  have hown : s.vm.findClass RX10 = some m.cls := findClass_of_methodNamed B.named
  have hlocks := B.notSynchronized
  have hS : va_S (aG G) s.heap s.heap [] := va_S.rf
  have C : Cx p s m ([.ref (adr G xl0)] : List Value).toArray meth c D G cX10_restAnHour 1 none (cw_X10_restAnHour :: gw) RX10 := ⟨hx, hb, hr, hlocks, hml, hown, hts, hK⟩
  have hl := lv_entry ([.ref (adr G xl0)]) (n := 1) (Nat.le_of_ble_eq_true rfl)
  rw [lg_entry_eq]
  generalize (lg_sl ([.ref (adr G xl0)]) ++ List.replicate (1 - (lg_sl ([.ref (adr G xl0)])).length) Slot.unset).toArray = ls at hl ⊢
  have hl : lv_has ls 1 [(0, .ref (adr G xl0))] := hl
  unfold wp_X10_restAnHour at h
  refine lv_aload_n hx hb dX10_restAnHour_0 rfl (lv_at hl 0 rfl) ?_
  refine r_iconst hx hb dX10_restAnHour_1 (by decide) h (fun z2 h => ?_)
  refine lv_aload_n hx hb dX10_restAnHour_2 rfl (lv_at hl 0 rfl) ?_
  refine r_geti (C := RX10) (T := TX10) (N := 12) hx hb hts (fun w h => List.mem_cons_of_mem _ (iX10 w h)) hown hK hP rfl (by decide) rfl 7 (by decide) (hts _ (List.mem_cons_of_mem _ kw_358)) (fun _ h9 => h9) dX10_restAnHour_3 (by decide) h (fun z4 h => ?_)
  refine r_iconst hx hb dX10_restAnHour_6 (by decide) h (fun z6 h => ?_)
  refine r_isub hx hb dX10_restAnHour_7 h (fun z8 h => ?_)
  refine r_mmax hx hb (hml.trans hl.1.symm) hown (hts _ (List.mem_cons_of_mem _ kw_1193)) (hts _ (List.mem_cons_of_mem _ kw_993)) (hts _ (List.mem_cons_of_mem _ kw_19)) (hts _ (List.mem_cons_of_mem _ kw_994)) (Nat.le_of_ble_eq_true rfl) (Nat.le_of_ble_eq_true rfl) (Nat.zero_le _) (Nat.zero_le _) dX10_restAnHour_8 h (fun z10 h => ?_)
  refine r_puti (C := RX10) (T := TX10) (N := 12) hx hb hts (fun w h => List.mem_cons_of_mem _ (iX10 w h)) hown hK hP tyX10 tyX10_ok nmX10 hS rfl (by decide) rfl 7 (by decide) (hts _ (List.mem_cons_of_mem _ kw_358)) (fun _ h9 => h9) rfl (tyX10_ok 7 (by decide)) rfl rfl dX10_restAnHour_11 (by decide) h (fun M11 H locs h hP hS => ?_)
  refine lv_aload_n hx hb dX10_restAnHour_14 rfl (lv_at hl 0 rfl) ?_
  refine r_sipush hx hb dX10_restAnHour_15 (by decide) h (fun z13 h => ?_)
  refine lv_aload_n hx hb dX10_restAnHour_18 rfl (lv_at hl 0 rfl) ?_
  refine r_geti (C := RX10) (T := TX10) (N := 12) hx hb hts (fun w h => List.mem_cons_of_mem _ (iX10 w h)) hown hK hP rfl (by decide) rfl 8 (by decide) (hts _ (List.mem_cons_of_mem _ kw_359)) (fun _ h9 => h9) dX10_restAnHour_19 (by decide) h (fun z15 h => ?_)
  refine r_iconst hx hb dX10_restAnHour_22 (by decide) h (fun z17 h => ?_)
  refine r_iadd hx hb dX10_restAnHour_23 h (fun z19 h => ?_)
  refine r_mmin hx hb (hml.trans hl.1.symm) hown (hts _ (List.mem_cons_of_mem _ kw_1097)) (hts _ (List.mem_cons_of_mem _ kw_719)) (hts _ (List.mem_cons_of_mem _ kw_19)) (hts _ (List.mem_cons_of_mem _ kw_720)) (Nat.le_of_ble_eq_true rfl) (Nat.le_of_ble_eq_true rfl) (Nat.zero_le _) (Nat.zero_le _) dX10_restAnHour_24 h (fun z21 h => ?_)
  refine r_puti (C := RX10) (T := TX10) (N := 12) hx hb hts (fun w h => List.mem_cons_of_mem _ (iX10 w h)) hown hK hP tyX10 tyX10_ok nmX10 hS rfl (by decide) rfl 8 (by decide) (hts _ (List.mem_cons_of_mem _ kw_359)) (fun _ h9 => h9) rfl (tyX10_ok 8 (by decide)) rfl rfl dX10_restAnHour_27 (by decide) h (fun M22 H locs h hP hS => ?_)
  exact r_vret hx hb hr hlocks hP hS dX10_restAnHour_30 h
/-! TurningMilk$Trials.turnedByTurns(III)I -/
abbrev RM_X9_turnedByTurns : Room := { frames := 5, cells := 0, slots := 0, locals := 129 }
def cw_X9_turnedByTurns : Cond := Cond.code yX9_turnedByTurns cX9_turnedByTurns 5 (Option.some FieldType.int)
theorem hd_X9_turnedByTurns : yX9_turnedByTurns.cls ≠ "java/lang/invoke/MethodHandle" ∧ yX9_turnedByTurns.cls ≠ "java/lang/invoke/VarHandle" ∧ (parseMethodDescriptor yX9_turnedByTurns.desc).map (fun d => d.parameters.length) = some 3 := by decide +kernel
theorem dX9_turnedByTurns_0 : decode cX9_turnedByTurns 0 = .ok (.aload_n 0, 1) := by decide +kernel
theorem dX9_turnedByTurns_1 : decode cX9_turnedByTurns 1 = .ok (.getfield 19, 3) := by decide +kernel
theorem dX9_turnedByTurns_4 : decode cX9_turnedByTurns 4 = .ok (.iload_n 1, 1) := by decide +kernel
theorem dX9_turnedByTurns_5 : decode cX9_turnedByTurns 5 = .ok (.iconst 0, 1) := by decide +kernel
theorem dX9_turnedByTurns_6 : decode cX9_turnedByTurns 6 = .ok (.iconst 0, 1) := by decide +kernel
theorem dX9_turnedByTurns_7 : decode cX9_turnedByTurns 7 = .ok (.aload_n 0, 1) := by decide +kernel
theorem dX9_turnedByTurns_8 : decode cX9_turnedByTurns 8 = .ok (.getfield 15, 3) := by decide +kernel
theorem dX9_turnedByTurns_11 : decode cX9_turnedByTurns 11 = .ok (.getfield 23, 3) := by decide +kernel
theorem dX9_turnedByTurns_14 : decode cX9_turnedByTurns 14 = .ok (.getfield 29, 3) := by decide +kernel
theorem dX9_turnedByTurns_17 : decode cX9_turnedByTurns 17 = .ok (.invokevirtual 35, 3) := by decide +kernel
theorem dX9_turnedByTurns_20 : decode cX9_turnedByTurns 20 = .ok (.aload_n 0, 1) := by decide +kernel
theorem dX9_turnedByTurns_21 : decode cX9_turnedByTurns 21 = .ok (.getfield 19, 3) := by decide +kernel
theorem dX9_turnedByTurns_24 : decode cX9_turnedByTurns 24 = .ok (.aload_n 0, 1) := by decide +kernel
theorem dX9_turnedByTurns_25 : decode cX9_turnedByTurns 25 = .ok (.getfield 15, 3) := by decide +kernel
theorem dX9_turnedByTurns_28 : decode cX9_turnedByTurns 28 = .ok (.getfield 23, 3) := by decide +kernel
theorem dX9_turnedByTurns_31 : decode cX9_turnedByTurns 31 = .ok (.getfield 41, 3) := by decide +kernel
theorem dX9_turnedByTurns_34 : decode cX9_turnedByTurns 34 = .ok (.iload_n 1, 1) := by decide +kernel
theorem dX9_turnedByTurns_35 : decode cX9_turnedByTurns 35 = .ok (.iaload, 1) := by decide +kernel
theorem dX9_turnedByTurns_36 : decode cX9_turnedByTurns 36 = .ok (.putfield 44, 3) := by decide +kernel
theorem dX9_turnedByTurns_39 : decode cX9_turnedByTurns 39 = .ok (.iconst 0, 1) := by decide +kernel
theorem dX9_turnedByTurns_40 : decode cX9_turnedByTurns 40 = .ok (.istore 4, 2) := by decide +kernel
theorem dX9_turnedByTurns_42 : decode cX9_turnedByTurns 42 = .ok (.iload 4, 2) := by decide +kernel
theorem dX9_turnedByTurns_44 : decode cX9_turnedByTurns 44 = .ok (.iload_n 2, 1) := by decide +kernel
theorem dX9_turnedByTurns_45 : decode cX9_turnedByTurns 45 = .ok (.if_icmp .ge 66, 3) := by decide +kernel
theorem dX9_turnedByTurns_48 : decode cX9_turnedByTurns 48 = .ok (.aload_n 0, 1) := by decide +kernel
theorem dX9_turnedByTurns_49 : decode cX9_turnedByTurns 49 = .ok (.getfield 19, 3) := by decide +kernel
theorem dX9_turnedByTurns_52 : decode cX9_turnedByTurns 52 = .ok (.aload_n 0, 1) := by decide +kernel
theorem dX9_turnedByTurns_53 : decode cX9_turnedByTurns 53 = .ok (.getfield 15, 3) := by decide +kernel
theorem dX9_turnedByTurns_56 : decode cX9_turnedByTurns 56 = .ok (.getfield 23, 3) := by decide +kernel
theorem dX9_turnedByTurns_59 : decode cX9_turnedByTurns 59 = .ok (.getfield 47, 3) := by decide +kernel
theorem dX9_turnedByTurns_62 : decode cX9_turnedByTurns 62 = .ok (.iload_n 1, 1) := by decide +kernel
theorem dX9_turnedByTurns_63 : decode cX9_turnedByTurns 63 = .ok (.iaload, 1) := by decide +kernel
theorem dX9_turnedByTurns_64 : decode cX9_turnedByTurns 64 = .ok (.iload 4, 2) := by decide +kernel
theorem dX9_turnedByTurns_66 : decode cX9_turnedByTurns 66 = .ok (.if_icmp .le 7, 3) := by decide +kernel
theorem dX9_turnedByTurns_69 : decode cX9_turnedByTurns 69 = .ok (.iconst 1, 1) := by decide +kernel
theorem dX9_turnedByTurns_70 : decode cX9_turnedByTurns 70 = .ok (.goto 4, 3) := by decide +kernel
theorem dX9_turnedByTurns_73 : decode cX9_turnedByTurns 73 = .ok (.iconst 0, 1) := by decide +kernel
theorem dX9_turnedByTurns_74 : decode cX9_turnedByTurns 74 = .ok (.putfield 50, 3) := by decide +kernel
theorem dX9_turnedByTurns_77 : decode cX9_turnedByTurns 77 = .ok (.iload_n 3, 1) := by decide +kernel
theorem dX9_turnedByTurns_78 : decode cX9_turnedByTurns 78 = .ok (.iload 4, 2) := by decide +kernel
theorem dX9_turnedByTurns_80 : decode cX9_turnedByTurns 80 = .ok (.ishr, 1) := by decide +kernel
theorem dX9_turnedByTurns_81 : decode cX9_turnedByTurns 81 = .ok (.iconst 1, 1) := by decide +kernel
theorem dX9_turnedByTurns_82 : decode cX9_turnedByTurns 82 = .ok (.iand, 1) := by decide +kernel
theorem dX9_turnedByTurns_83 : decode cX9_turnedByTurns 83 = .ok (.iconst 1, 1) := by decide +kernel
theorem dX9_turnedByTurns_84 : decode cX9_turnedByTurns 84 = .ok (.if_icmp .ne 14, 3) := by decide +kernel
theorem dX9_turnedByTurns_87 : decode cX9_turnedByTurns 87 = .ok (.aload_n 0, 1) := by decide +kernel
theorem dX9_turnedByTurns_88 : decode cX9_turnedByTurns 88 = .ok (.getfield 19, 3) := by decide +kernel
theorem dX9_turnedByTurns_91 : decode cX9_turnedByTurns 91 = .ok (.iconst 1, 1) := by decide +kernel
theorem dX9_turnedByTurns_92 : decode cX9_turnedByTurns 92 = .ok (.invokevirtual 53, 3) := by decide +kernel
theorem dX9_turnedByTurns_95 : decode cX9_turnedByTurns 95 = .ok (.goto 10, 3) := by decide +kernel
theorem dX9_turnedByTurns_98 : decode cX9_turnedByTurns 98 = .ok (.aload_n 0, 1) := by decide +kernel
theorem dX9_turnedByTurns_99 : decode cX9_turnedByTurns 99 = .ok (.getfield 19, 3) := by decide +kernel
theorem dX9_turnedByTurns_102 : decode cX9_turnedByTurns 102 = .ok (.invokevirtual 57, 3) := by decide +kernel
theorem dX9_turnedByTurns_105 : decode cX9_turnedByTurns 105 = .ok (.iinc 4 1, 3) := by decide +kernel
theorem dX9_turnedByTurns_108 : decode cX9_turnedByTurns 108 = .ok (.goto (-66), 3) := by decide +kernel
theorem dX9_turnedByTurns_111 : decode cX9_turnedByTurns 111 = .ok (.aload_n 0, 1) := by decide +kernel
theorem dX9_turnedByTurns_112 : decode cX9_turnedByTurns 112 = .ok (.getfield 19, 3) := by decide +kernel
theorem dX9_turnedByTurns_115 : decode cX9_turnedByTurns 115 = .ok (.getfield 60, 3) := by decide +kernel
theorem dX9_turnedByTurns_118 : decode cX9_turnedByTurns 118 = .ok (.ireturn, 1) := by decide +kernel
def wp_X9_turnedByTurns_105 (S : Sh) (k42 : Int → Int → Int → Int → Int → Mm → Prop) (post : Int → Mm → Prop) (u0 : Int) (u1 : Int) (u2 : Int) (u3 : Int) (u4 : Int) (M : Mm) : Prop := wA u4 1 fun v1 => k42 u0 u1 u2 u3 v1 M
def wp_X9_turnedByTurns_74 (S : Sh) (k42 : Int → Int → Int → Int → Int → Mm → Prop) (post : Int → Mm → Prop) (u0 : Int) (u1 : Int) (u2 : Int) (u3 : Int) (u4 : Int) (t0 : Int) (t1 : Int) (M : Mm) : Prop := wPut S M t0 10 10 t1 fun M3 => wO iShr u3 u4 fun v4 => wC 1 fun v6 => wO iAnd v4 v6 fun v8 => wC 1 fun v10 => wIf (¬ v8 = v10) (wGetR S M3 u0 9 1 fun v12 => isK S v12 10 ∧ (wp_X10_restAnHour S M3 v12 <| fun M14 => wp_X9_turnedByTurns_105 S k42 post u0 u1 u2 u3 u4 M14)) (wGetR S M3 u0 9 1 fun v15 => wC 1 fun v17 => isK S v15 10 ∧ (wp_X10_holdFor S M3 v15 v17 <| fun M19 => wp_X9_turnedByTurns_105 S k42 post u0 u1 u2 u3 u4 M19))
def wp_X9_turnedByTurns_42 (S : Sh) (post : Int → Mm → Prop) : Nat → Int → Int → Int → Int → Int → Mm → Prop
  | 0, _, _, _, _, _, _ => False
  | n + 1, u0, u1, u2, u3, u4, M => wIf (u2 ≤ u4) (wGetR S M u0 9 1 fun v20 => wGet S M v20 10 6 fun v22 => post v22 M) (wGetR S M u0 9 1 fun v24 => wGetR S M u0 9 0 fun v26 => wGetR S M v26 4 1 fun v28 => wGetR S M v28 5 3 fun v30 => wLd S M v30 14 u1 fun v32 => wIf (v32 ≤ u4) (wC 0 fun v34 => wp_X9_turnedByTurns_74 S (fun a0 a1 a2 a3 a4 M => wp_X9_turnedByTurns_42 S post n a0 a1 a2 a3 a4 M) post u0 u1 u2 u3 u4 v24 v34 M) (wC 1 fun v36 => wp_X9_turnedByTurns_74 S (fun a0 a1 a2 a3 a4 M => wp_X9_turnedByTurns_42 S post n a0 a1 a2 a3 a4 M) post u0 u1 u2 u3 u4 v24 v36 M))
def wp_X9_turnedByTurns (S : Sh) (M : Mm) (u0 : Int) (u1 : Int) (u2 : Int) (u3 : Int) (post : Int → Mm → Prop) : Prop := wGetR S M u0 9 1 fun v38 => wC 0 fun v40 => wC 0 fun v42 => wGetR S M u0 9 0 fun v44 => wGetR S M v44 4 1 fun v46 => wGet S M v46 5 0 fun v48 => isK S v38 10 ∧ (wp_X10_suppose S M v38 u1 v40 v42 v48 <| fun M50 => wGetR S M50 u0 9 1 fun v51 => wGetR S M50 u0 9 0 fun v53 => wGetR S M50 v53 4 1 fun v55 => wGetR S M50 v55 5 4 fun v57 => wLd S M50 v57 14 u1 fun v59 => wPut S M50 v51 10 7 v59 fun M61 => wC 0 fun v62 => ∃ n9 : Nat, wp_X9_turnedByTurns_42 S post n9 u0 u1 u2 u3 v62 M61)
set_option maxHeartbeats 4000000 in
set_option maxRecDepth 100000 in
theorem t_X9_turnedByTurns_105 {p : Program} {l : Launch} {e : Env} {s : State} {m : MethodId} {args : Array Value} {below : List Frame} {meth : Method} {c : Code} {D : va_G} {G : Gt} {S : Sh} {post : Int → Mm → Prop} {k42 : Int → Int → Int → Int → Int → Mm → Prop} (C : Cx p s m args meth c D G cX9_turnedByTurns 5 (some .int) (cw_X9_turnedByTurns :: gw) RX9) (hk42 : ∀ (y0 : Int) (y1 : Int32) (y2 : Int32) (y3 : Int32) (y4 : Int32) (M : Mm) (H : Heap) (locs : List Loc) (ls : Array Slot), Wd D G S M H → va_S (aG G) s.heap H locs → lv_has ls 5 [(0, .ref (adr G y0)), (1, .int y1), (2, .int y2), (3, .int y3), (4, .int y4)] → k42 y0 y1.toInt y2.toInt y3.toInt y4.toInt M → W p l e RM_X9_turnedByTurns s m args below meth c H locs 0 0 (MQ below (QI D G S post) args s 0 0 (aG G)) (F0 m 42 ls [])) : ∀ (xl0 : Int) (zl1 : Int32) (zl2 : Int32) (zl3 : Int32) (zl4 : Int32) (M : Mm) (H : Heap) (locs : List Loc) (ls : Array Slot), Wd D G S M H → va_S (aG G) s.heap H locs → lv_has ls 5 [(0, .ref (adr G xl0)), (1, .int zl1), (2, .int zl2), (3, .int zl3), (4, .int zl4)] → wp_X9_turnedByTurns_105 S k42 post xl0 zl1.toInt zl2.toInt zl3.toInt zl4.toInt  M → W p l e RM_X9_turnedByTurns s m args below meth c H locs 0 0 (MQ below (QI D G S post) args s 0 0 (aG G)) (F0 m 105 ls []) := by
  obtain ⟨hx, hb, hr, hlocks, hml, hown, hts, hK⟩ := id C
  intro xl0 zl1 zl2 zl3 zl4 M H locs ls hP hS hl h
  unfold wp_X9_turnedByTurns_105 at h
  refine r_iinc hx hb (fun z2 => [(4, .int z2), (0, .ref (adr G xl0)), (1, .int zl1), (2, .int zl2), (3, .int zl3)]) dX9_turnedByTurns_105 (by decide) hl (k := 4) rfl (by decide) (fun _ => rfl) h (fun z2 ls hl h => ?_)
  refine lv_goto (tgt := 42) hx hb dX9_turnedByTurns_108 (by decide) ?_
  exact hk42 xl0 zl1 zl2 zl3 z2 _ _ _ _ hP hS (lv_sub hl [1, 2, 3, 4, 0] rfl) h
set_option maxHeartbeats 4000000 in
set_option maxRecDepth 100000 in
theorem t_X9_turnedByTurns_74 {p : Program} {l : Launch} {e : Env} {s : State} {m : MethodId} {args : Array Value} {below : List Frame} {meth : Method} {c : Code} {D : va_G} {G : Gt} {S : Sh} {post : Int → Mm → Prop} {k42 : Int → Int → Int → Int → Int → Mm → Prop} (C : Cx p s m args meth c D G cX9_turnedByTurns 5 (some .int) (cw_X9_turnedByTurns :: gw) RX9) (hk42 : ∀ (y0 : Int) (y1 : Int32) (y2 : Int32) (y3 : Int32) (y4 : Int32) (M : Mm) (H : Heap) (locs : List Loc) (ls : Array Slot), Wd D G S M H → va_S (aG G) s.heap H locs → lv_has ls 5 [(0, .ref (adr G y0)), (1, .int y1), (2, .int y2), (3, .int y3), (4, .int y4)] → k42 y0 y1.toInt y2.toInt y3.toInt y4.toInt M → W p l e RM_X9_turnedByTurns s m args below meth c H locs 0 0 (MQ below (QI D G S post) args s 0 0 (aG G)) (F0 m 42 ls [])) : ∀ (xl0 : Int) (zl1 : Int32) (zl2 : Int32) (zl3 : Int32) (zl4 : Int32) (xs0 : Int) (zs1 : Int32) (M : Mm) (H : Heap) (locs : List Loc) (ls : Array Slot), Wd D G S M H → va_S (aG G) s.heap H locs → lv_has ls 5 [(0, .ref (adr G xl0)), (1, .int zl1), (2, .int zl2), (3, .int zl3), (4, .int zl4)] → wp_X9_turnedByTurns_74 S k42 post xl0 zl1.toInt zl2.toInt zl3.toInt zl4.toInt xs0 zs1.toInt M → W p l e RM_X9_turnedByTurns s m args below meth c H locs 0 0 (MQ below (QI D G S post) args s 0 0 (aG G)) (F0 m 74 ls [.int zs1, .ref (adr G xs0)]) := by
  obtain ⟨hx, hb, hr, hlocks, hml, hown, hts, hK⟩ := id C
  intro xl0 zl1 zl2 zl3 zl4 xs0 zs1 M H locs ls hP hS hl h
  unfold wp_X9_turnedByTurns_74 at h
  refine r_putiN (C := RX10) (T := TX10) (N := 12) hx hb hts (fun w h => List.mem_cons_of_mem _ (iX10 w h)) hown hK hP tyX10 tyX10_ok nmX10 hS rfl (by decide) rfl 10 (by decide) (nw_94 hK) (fun _ h9 => h9) rfl (tyX10_ok 10 (by decide)) rfl rfl dX9_turnedByTurns_74 (by decide) h (fun M3 H locs h hP hS => ?_)
  refine lv_iload_n hx hb dX9_turnedByTurns_77 rfl (lv_at hl 3 rfl) ?_
  refine lv_iload hx hb dX9_turnedByTurns_78 (lv_at hl 4 rfl) ?_
  refine r_ishr hx hb dX9_turnedByTurns_80 h (fun z5 h => ?_)
  refine r_iconst hx hb dX9_turnedByTurns_81 (by decide) h (fun z7 h => ?_)
  refine r_iand hx hb dX9_turnedByTurns_82 h (fun z9 h => ?_)
  refine r_iconst hx hb dX9_turnedByTurns_83 (by decide) h (fun z11 h => ?_)
  refine r_icmp_ne (tgt := 98) hx hb dX9_turnedByTurns_84 (by decide) h (fun h => ?_) (fun h => ?_)
  · refine lv_aload_n hx hb dX9_turnedByTurns_98 rfl (lv_at hl 0 rfl) ?_
    refine r_getr (C := RX9) (T := TX9) (N := 5) hx hb hts (fun w h => List.mem_cons_of_mem _ (iX9 w h)) hown hK hP rfl (by decide) rfl 1 (by decide) (hts _ (List.mem_cons_of_mem _ kw_472)) (fun _ h9 => h9) dX9_turnedByTurns_99 (by decide) h (fun x13 h => ?_)
    refine q_Vv hx hb hml hown hts hK hP hS (c_X10_restAnHour l D G S _ x13 _ h.2) ⟨callB_of 0 hts (gw_good kw_1192) rfl rfl rfl (hts _ (List.mem_cons_of_mem _ kw_9)) (hts _ (List.mem_cons_of_mem _ kw_1189)) hd_X10_restAnHour ⟨Nat.le_of_ble_eq_true rfl, Nat.le_of_ble_eq_true rfl⟩, (hts _ (List.mem_cons_of_mem _ kw_1190)), (hts _ (List.mem_cons_of_mem _ kw_1191))⟩ h.1 (ci := 10) rfl (by decide) rfl hl.1 rfl (lv_room (Nat.le_of_ble_eq_true rfl)) dX9_turnedByTurns_102 ⟨Nat.zero_le _, Nat.zero_le _⟩ (fun M14 H locs h hP hS => ?_)
    exact t_X9_turnedByTurns_105 C hk42 xl0 zl1 zl2 zl3 zl4 _ _ _ _ hP hS (lv_sub hl [0, 1, 2, 3, 4] rfl) h
  · refine lv_aload_n hx hb dX9_turnedByTurns_87 rfl (lv_at hl 0 rfl) ?_
    refine r_getr (C := RX9) (T := TX9) (N := 5) hx hb hts (fun w h => List.mem_cons_of_mem _ (iX9 w h)) hown hK hP rfl (by decide) rfl 1 (by decide) (hts _ (List.mem_cons_of_mem _ kw_472)) (fun _ h9 => h9) dX9_turnedByTurns_88 (by decide) h (fun x16 h => ?_)
    refine r_iconst hx hb dX9_turnedByTurns_91 (by decide) h (fun z18 h => ?_)
    refine q_Vv hx hb hml hown hts hK hP hS (c_X10_holdFor l D G S _ x16 z18 _ h.2) ⟨callB_of 1 hts (gw_good kw_1095) rfl rfl rfl (hts _ (List.mem_cons_of_mem _ kw_9)) (hts _ (List.mem_cons_of_mem _ kw_1188)) hd_X10_holdFor ⟨Nat.le_of_ble_eq_true rfl, Nat.le_of_ble_eq_true rfl⟩, (hts _ (List.mem_cons_of_mem _ kw_1093)), (hts _ (List.mem_cons_of_mem _ kw_1094))⟩ h.1 (ci := 10) rfl (by decide) rfl hl.1 rfl (lv_room (Nat.le_of_ble_eq_true rfl)) dX9_turnedByTurns_92 ⟨Nat.zero_le _, Nat.zero_le _⟩ (fun M19 H locs h hP hS => ?_)
    refine lv_goto (tgt := 105) hx hb dX9_turnedByTurns_95 (by decide) ?_
    exact t_X9_turnedByTurns_105 C hk42 xl0 zl1 zl2 zl3 zl4 _ _ _ _ hP hS (lv_sub hl [0, 1, 2, 3, 4] rfl) h
set_option maxHeartbeats 4000000 in
set_option maxRecDepth 100000 in
theorem t_X9_turnedByTurns_42 {p : Program} {l : Launch} {e : Env} {s : State} {m : MethodId} {args : Array Value} {below : List Frame} {meth : Method} {c : Code} {D : va_G} {G : Gt} {S : Sh} {post : Int → Mm → Prop} (C : Cx p s m args meth c D G cX9_turnedByTurns 5 (some .int) (cw_X9_turnedByTurns :: gw) RX9) : ∀ (n : Nat) (xl0 : Int) (zl1 : Int32) (zl2 : Int32) (zl3 : Int32) (zl4 : Int32) (M : Mm) (H : Heap) (locs : List Loc) (ls : Array Slot), Wd D G S M H → va_S (aG G) s.heap H locs → lv_has ls 5 [(0, .ref (adr G xl0)), (1, .int zl1), (2, .int zl2), (3, .int zl3), (4, .int zl4)] → wp_X9_turnedByTurns_42 S post n xl0 zl1.toInt zl2.toInt zl3.toInt zl4.toInt  M → W p l e RM_X9_turnedByTurns s m args below meth c H locs 0 0 (MQ below (QI D G S post) args s 0 0 (aG G)) (F0 m 42 ls []) := by
  obtain ⟨hx, hb, hr, hlocks, hml, hown, hts, hK⟩ := id C
  intro n
  induction n with
  | zero => intro xl0 zl1 zl2 zl3 zl4 M H locs ls hP hS hl h; exact h.elim
  | succ n ih =>
    intro xl0 zl1 zl2 zl3 zl4 M H locs ls hP hS hl h
    unfold wp_X9_turnedByTurns_42 at h
    refine lv_iload hx hb dX9_turnedByTurns_42 (lv_at hl 4 rfl) ?_
    refine lv_iload_n hx hb dX9_turnedByTurns_44 rfl (lv_at hl 2 rfl) ?_
    refine r_icmp_ge (tgt := 111) hx hb dX9_turnedByTurns_45 (by decide) h (fun h => ?_) (fun h => ?_)
    · refine lv_aload_n hx hb dX9_turnedByTurns_111 rfl (lv_at hl 0 rfl) ?_
      refine r_getr (C := RX9) (T := TX9) (N := 5) hx hb hts (fun w h => List.mem_cons_of_mem _ (iX9 w h)) hown hK hP rfl (by decide) rfl 1 (by decide) (hts _ (List.mem_cons_of_mem _ kw_472)) (fun _ h9 => h9) dX9_turnedByTurns_112 (by decide) h (fun x21 h => ?_)
      refine r_getiN (C := RX10) (T := TX10) (N := 12) hx hb hts (fun w h => List.mem_cons_of_mem _ (iX10 w h)) hown hK hP rfl (by decide) rfl 6 (by decide) (nw_90 hK) (fun _ h9 => h9) dX9_turnedByTurns_115 (by decide) h (fun z23 h => ?_)
      exact r_iret hx hb hr hlocks hP hS dX9_turnedByTurns_118 h
    · refine lv_aload_n hx hb dX9_turnedByTurns_48 rfl (lv_at hl 0 rfl) ?_
      refine r_getr (C := RX9) (T := TX9) (N := 5) hx hb hts (fun w h => List.mem_cons_of_mem _ (iX9 w h)) hown hK hP rfl (by decide) rfl 1 (by decide) (hts _ (List.mem_cons_of_mem _ kw_472)) (fun _ h9 => h9) dX9_turnedByTurns_49 (by decide) h (fun x25 h => ?_)
      refine lv_aload_n hx hb dX9_turnedByTurns_52 rfl (lv_at hl 0 rfl) ?_
      refine r_getr (C := RX9) (T := TX9) (N := 5) hx hb hts (fun w h => List.mem_cons_of_mem _ (iX9 w h)) hown hK hP rfl (by decide) rfl 0 (by decide) (hts _ (List.mem_cons_of_mem _ kw_471)) (fun _ h9 => h9) dX9_turnedByTurns_53 (by decide) h (fun x27 h => ?_)
      refine r_getrN (C := RX4) (T := TX4) (N := 10) hx hb hts (fun w h => List.mem_cons_of_mem _ (iX4 w h)) hown hK hP rfl (by decide) rfl 1 (by decide) (nw_72 hK) (fun _ h9 => h9) dX9_turnedByTurns_56 (by decide) h (fun x29 h => ?_)
      refine r_getrN (C := RX5) (T := TX5) (N := 9) hx hb hts (fun w h => List.mem_cons_of_mem _ (iX5 w h)) hown hK hP rfl (by decide) rfl 3 (by decide) (nw_53 hK) (fun _ h9 => h9) dX9_turnedByTurns_59 (by decide) h (fun x31 h => ?_)
      refine lv_iload_n hx hb dX9_turnedByTurns_62 rfl (lv_at hl 1 rfl) ?_
      refine r_iald hx hb hK hP dX9_turnedByTurns_63 h (fun z33 h => ?_)
      refine lv_iload hx hb dX9_turnedByTurns_64 (lv_at hl 4 rfl) ?_
      refine r_icmp_le (tgt := 73) hx hb dX9_turnedByTurns_66 (by decide) h (fun h => ?_) (fun h => ?_)
      · refine r_iconst hx hb dX9_turnedByTurns_73 (by decide) h (fun z35 h => ?_)
        exact t_X9_turnedByTurns_74 C ih xl0 zl1 zl2 zl3 zl4 x25 z35 _ _ _ _ hP hS (lv_sub hl [0, 1, 2, 3, 4] rfl) h
      · refine r_iconst hx hb dX9_turnedByTurns_69 (by decide) h (fun z37 h => ?_)
        refine lv_goto (tgt := 74) hx hb dX9_turnedByTurns_70 (by decide) ?_
        exact t_X9_turnedByTurns_74 C ih xl0 zl1 zl2 zl3 zl4 x25 z37 _ _ _ _ hP hS (lv_sub hl [0, 1, 2, 3, 4] rfl) h
set_option maxHeartbeats 4000000 in
set_option maxRecDepth 100000 in
theorem c_X9_turnedByTurns (l : Launch) (D : va_G) (G : Gt) (S : Sh) (M : Mm) (xl0 : Int) (zl1 : Int32) (zl2 : Int32) (zl3 : Int32) (post : Int → Mm → Prop) (h : wp_X9_turnedByTurns S M xl0 zl1.toInt zl2.toInt zl3.toInt post) : Met l yX9_turnedByTurns (cw_X9_turnedByTurns :: gw) RM_X9_turnedByTurns (va_Pc [.ref (adr G xl0), .int zl1, .int zl2, .int zl3] (fun U => KN D G U ∧ Wd D G S M U.heap)) (QI D G S post) 0 0 (aG G) := by
  refine Met.ofW (cc := cX9_turnedByTurns) (maxL := 5) (ret := (some .int)) (by decide) rfl ?_
  intro p e s m args below meth c s₁ B hml hv
  obtain ⟨rfl, hK, hP⟩ := hv
  have hx := B.exec
  have hb := B.bytes
  have hr := B.returns
  have hts := atoms_spec (ws := cw_X9_turnedByTurns :: gw) B.pre
  have hown : s.vm.findClass RX9 = some m.cls := findClass_of_methodNamed B.named
  have hlocks := B.notSynchronized
  have hS : va_S (aG G) s.heap s.heap [] := va_S.rf
  have C : Cx p s m ([.ref (adr G xl0), .int zl1, .int zl2, .int zl3] : List Value).toArray meth c D G cX9_turnedByTurns 5 (some .int) (cw_X9_turnedByTurns :: gw) RX9 := ⟨hx, hb, hr, hlocks, hml, hown, hts, hK⟩
  have hl := lv_entry ([.ref (adr G xl0), .int zl1, .int zl2, .int zl3]) (n := 5) (Nat.le_of_ble_eq_true rfl)
  rw [lg_entry_eq]
  generalize (lg_sl ([.ref (adr G xl0), .int zl1, .int zl2, .int zl3]) ++ List.replicate (5 - (lg_sl ([.ref (adr G xl0), .int zl1, .int zl2, .int zl3])).length) Slot.unset).toArray = ls at hl ⊢
  have hl : lv_has ls 5 [(0, .ref (adr G xl0)), (1, .int zl1), (2, .int zl2), (3, .int zl3)] := hl
  unfold wp_X9_turnedByTurns at h
  refine lv_aload_n hx hb dX9_turnedByTurns_0 rfl (lv_at hl 0 rfl) ?_
  refine r_getr (C := RX9) (T := TX9) (N := 5) hx hb hts (fun w h => List.mem_cons_of_mem _ (iX9 w h)) hown hK hP rfl (by decide) rfl 1 (by decide) (hts _ (List.mem_cons_of_mem _ kw_472)) (fun _ h9 => h9) dX9_turnedByTurns_1 (by decide) h (fun x39 h => ?_)
  refine lv_iload_n hx hb dX9_turnedByTurns_4 rfl (lv_at hl 1 rfl) ?_
  refine r_iconst hx hb dX9_turnedByTurns_5 (by decide) h (fun z41 h => ?_)
  refine r_iconst hx hb dX9_turnedByTurns_6 (by decide) h (fun z43 h => ?_)
  refine lv_aload_n hx hb dX9_turnedByTurns_7 rfl (lv_at hl 0 rfl) ?_
  refine r_getr (C := RX9) (T := TX9) (N := 5) hx hb hts (fun w h => List.mem_cons_of_mem _ (iX9 w h)) hown hK hP rfl (by decide) rfl 0 (by decide) (hts _ (List.mem_cons_of_mem _ kw_471)) (fun _ h9 => h9) dX9_turnedByTurns_8 (by decide) h (fun x45 h => ?_)
  refine r_getrN (C := RX4) (T := TX4) (N := 10) hx hb hts (fun w h => List.mem_cons_of_mem _ (iX4 w h)) hown hK hP rfl (by decide) rfl 1 (by decide) (nw_72 hK) (fun _ h9 => h9) dX9_turnedByTurns_11 (by decide) h (fun x47 h => ?_)
  refine r_getiN (C := RX5) (T := TX5) (N := 9) hx hb hts (fun w h => List.mem_cons_of_mem _ (iX5 w h)) hown hK hP rfl (by decide) rfl 0 (by decide) (nw_46 hK) (fun _ h9 => h9) dX9_turnedByTurns_14 (by decide) h (fun z49 h => ?_)
  refine q_Vv hx hb hml hown hts hK hP hS (c_X10_suppose l D G S _ x39 zl1 z41 z43 z49 _ h.2) ⟨callB_of 4 hts (gw_good kw_1091) rfl rfl rfl (hts _ (List.mem_cons_of_mem _ kw_9)) (hts _ (List.mem_cons_of_mem _ kw_1187)) hd_X10_suppose ⟨Nat.le_of_ble_eq_true rfl, Nat.le_of_ble_eq_true rfl⟩, (hts _ (List.mem_cons_of_mem _ kw_1089)), (hts _ (List.mem_cons_of_mem _ kw_1090))⟩ h.1 (ci := 10) rfl (by decide) rfl hl.1 rfl (lv_room (Nat.le_of_ble_eq_true rfl)) dX9_turnedByTurns_17 ⟨Nat.zero_le _, Nat.zero_le _⟩ (fun M50 H locs h hP hS => ?_)
  refine lv_aload_n hx hb dX9_turnedByTurns_20 rfl (lv_at hl 0 rfl) ?_
  refine r_getr (C := RX9) (T := TX9) (N := 5) hx hb hts (fun w h => List.mem_cons_of_mem _ (iX9 w h)) hown hK hP rfl (by decide) rfl 1 (by decide) (hts _ (List.mem_cons_of_mem _ kw_472)) (fun _ h9 => h9) dX9_turnedByTurns_21 (by decide) h (fun x52 h => ?_)
  refine lv_aload_n hx hb dX9_turnedByTurns_24 rfl (lv_at hl 0 rfl) ?_
  refine r_getr (C := RX9) (T := TX9) (N := 5) hx hb hts (fun w h => List.mem_cons_of_mem _ (iX9 w h)) hown hK hP rfl (by decide) rfl 0 (by decide) (hts _ (List.mem_cons_of_mem _ kw_471)) (fun _ h9 => h9) dX9_turnedByTurns_25 (by decide) h (fun x54 h => ?_)
  refine r_getrN (C := RX4) (T := TX4) (N := 10) hx hb hts (fun w h => List.mem_cons_of_mem _ (iX4 w h)) hown hK hP rfl (by decide) rfl 1 (by decide) (nw_72 hK) (fun _ h9 => h9) dX9_turnedByTurns_28 (by decide) h (fun x56 h => ?_)
  refine r_getrN (C := RX5) (T := TX5) (N := 9) hx hb hts (fun w h => List.mem_cons_of_mem _ (iX5 w h)) hown hK hP rfl (by decide) rfl 4 (by decide) (nw_56 hK) (fun _ h9 => h9) dX9_turnedByTurns_31 (by decide) h (fun x58 h => ?_)
  refine lv_iload_n hx hb dX9_turnedByTurns_34 rfl (lv_at hl 1 rfl) ?_
  refine r_iald hx hb hK hP dX9_turnedByTurns_35 h (fun z60 h => ?_)
  refine r_putiN (C := RX10) (T := TX10) (N := 12) hx hb hts (fun w h => List.mem_cons_of_mem _ (iX10 w h)) hown hK hP tyX10 tyX10_ok nmX10 hS rfl (by decide) rfl 7 (by decide) (nw_93 hK) (fun _ h9 => h9) rfl (tyX10_ok 7 (by decide)) rfl rfl dX9_turnedByTurns_36 (by decide) h (fun M61 H locs h hP hS => ?_)
  refine r_iconst hx hb dX9_turnedByTurns_39 (by decide) h (fun z63 h => ?_)
  refine lv_istore (lv' := [(4, .int z63), (0, .ref (adr G xl0)), (1, .int zl1), (2, .int zl2), (3, .int zl3)]) hx hb dX9_turnedByTurns_40 hl (by decide) rfl (fun ls hl => ?_)
  obtain ⟨n9, h⟩ := h
  exact t_X9_turnedByTurns_42 C n9 xl0 zl1 zl2 zl3 z63 _ _ _ _ hP hS (lv_sub hl [1, 2, 3, 4, 0] rfl) h
/-! TurningMilk.rest(IIII)I -/
abbrev RM_X11_rest : Room := { frames := 6, cells := 0, slots := 0, locals := 153 }
def cw_X11_rest : Cond := Cond.code yX11_rest cX11_rest 9 (Option.some FieldType.int)
theorem hd_X11_rest : yX11_rest.cls ≠ "java/lang/invoke/MethodHandle" ∧ yX11_rest.cls ≠ "java/lang/invoke/VarHandle" ∧ (parseMethodDescriptor yX11_rest.desc).map (fun d => d.parameters.length) = some 4 := by decide +kernel
theorem dX11_rest_0 : decode cX11_rest 0 = .ok (.aload_n 0, 1) := by decide +kernel
theorem dX11_rest_1 : decode cX11_rest 1 = .ok (.iload_n 1, 1) := by decide +kernel
theorem dX11_rest_2 : decode cX11_rest 2 = .ok (.invokevirtual 181, 3) := by decide +kernel
theorem dX11_rest_5 : decode cX11_rest 5 = .ok (.ifCond .eq 34, 3) := by decide +kernel
theorem dX11_rest_8 : decode cX11_rest 8 = .ok (.iload_n 2, 1) := by decide +kernel
theorem dX11_rest_9 : decode cX11_rest 9 = .ok (.iconst 1, 1) := by decide +kernel
theorem dX11_rest_10 : decode cX11_rest 10 = .ok (.if_icmp .lt 29, 3) := by decide +kernel
theorem dX11_rest_13 : decode cX11_rest 13 = .ok (.iload_n 2, 1) := by decide +kernel
theorem dX11_rest_14 : decode cX11_rest 14 = .ok (.bipush 10, 2) := by decide +kernel
theorem dX11_rest_16 : decode cX11_rest 16 = .ok (.if_icmp .gt 23, 3) := by decide +kernel
theorem dX11_rest_19 : decode cX11_rest 19 = .ok (.iload_n 3, 1) := by decide +kernel
theorem dX11_rest_20 : decode cX11_rest 20 = .ok (.ifCond .lt 19, 3) := by decide +kernel
theorem dX11_rest_23 : decode cX11_rest 23 = .ok (.iload_n 3, 1) := by decide +kernel
theorem dX11_rest_24 : decode cX11_rest 24 = .ok (.iload_n 2, 1) := by decide +kernel
theorem dX11_rest_25 : decode cX11_rest 25 = .ok (.if_icmp .gt 14, 3) := by decide +kernel
theorem dX11_rest_28 : decode cX11_rest 28 = .ok (.iload 4, 2) := by decide +kernel
theorem dX11_rest_30 : decode cX11_rest 30 = .ok (.ifCond .lt 9, 3) := by decide +kernel
theorem dX11_rest_33 : decode cX11_rest 33 = .ok (.iload 4, 2) := by decide +kernel
theorem dX11_rest_35 : decode cX11_rest 35 = .ok (.iconst 1, 1) := by decide +kernel
theorem dX11_rest_36 : decode cX11_rest 36 = .ok (.if_icmp .le 5, 3) := by decide +kernel
theorem dX11_rest_39 : decode cX11_rest 39 = .ok (.iconst (-1), 1) := by decide +kernel
theorem dX11_rest_40 : decode cX11_rest 40 = .ok (.ireturn, 1) := by decide +kernel
theorem dX11_rest_41 : decode cX11_rest 41 = .ok (.iconst 0, 1) := by decide +kernel
theorem dX11_rest_42 : decode cX11_rest 42 = .ok (.istore 5, 2) := by decide +kernel
theorem dX11_rest_44 : decode cX11_rest 44 = .ok (.ldc_w 346, 3) := by decide +kernel
theorem dX11_rest_47 : decode cX11_rest 47 = .ok (.istore 6, 2) := by decide +kernel
theorem dX11_rest_49 : decode cX11_rest 49 = .ok (.iconst 0, 1) := by decide +kernel
theorem dX11_rest_50 : decode cX11_rest 50 = .ok (.istore 7, 2) := by decide +kernel
theorem dX11_rest_52 : decode cX11_rest 52 = .ok (.iload 7, 2) := by decide +kernel
theorem dX11_rest_54 : decode cX11_rest 54 = .ok (.iconst 1, 1) := by decide +kernel
theorem dX11_rest_55 : decode cX11_rest 55 = .ok (.iload_n 2, 1) := by decide +kernel
theorem dX11_rest_56 : decode cX11_rest 56 = .ok (.ishl, 1) := by decide +kernel
theorem dX11_rest_57 : decode cX11_rest 57 = .ok (.if_icmp .ge 46, 3) := by decide +kernel
theorem dX11_rest_60 : decode cX11_rest 60 = .ok (.iload 7, 2) := by decide +kernel
theorem dX11_rest_62 : decode cX11_rest 62 = .ok (.invokestatic 347, 3) := by decide +kernel
theorem dX11_rest_65 : decode cX11_rest 65 = .ok (.iload_n 3, 1) := by decide +kernel
theorem dX11_rest_66 : decode cX11_rest 66 = .ok (.if_icmp .ne 31, 3) := by decide +kernel
theorem dX11_rest_69 : decode cX11_rest 69 = .ok (.aload_n 0, 1) := by decide +kernel
theorem dX11_rest_70 : decode cX11_rest 70 = .ok (.getfield 96, 3) := by decide +kernel
theorem dX11_rest_73 : decode cX11_rest 73 = .ok (.iload_n 1, 1) := by decide +kernel
theorem dX11_rest_74 : decode cX11_rest 74 = .ok (.iload_n 2, 1) := by decide +kernel
theorem dX11_rest_75 : decode cX11_rest 75 = .ok (.iload 7, 2) := by decide +kernel
theorem dX11_rest_77 : decode cX11_rest 77 = .ok (.invokevirtual 352, 3) := by decide +kernel
theorem dX11_rest_80 : decode cX11_rest 80 = .ok (.istore 8, 2) := by decide +kernel
theorem dX11_rest_82 : decode cX11_rest 82 = .ok (.iload 8, 2) := by decide +kernel
theorem dX11_rest_84 : decode cX11_rest 84 = .ok (.iload 6, 2) := by decide +kernel
theorem dX11_rest_86 : decode cX11_rest 86 = .ok (.if_icmp .ge 11, 3) := by decide +kernel
theorem dX11_rest_89 : decode cX11_rest 89 = .ok (.iload 8, 2) := by decide +kernel
theorem dX11_rest_91 : decode cX11_rest 91 = .ok (.istore 6, 2) := by decide +kernel
theorem dX11_rest_93 : decode cX11_rest 93 = .ok (.iload 7, 2) := by decide +kernel
theorem dX11_rest_95 : decode cX11_rest 95 = .ok (.istore 5, 2) := by decide +kernel
theorem dX11_rest_97 : decode cX11_rest 97 = .ok (.iinc 7 1, 3) := by decide +kernel
theorem dX11_rest_100 : decode cX11_rest 100 = .ok (.goto (-48), 3) := by decide +kernel
theorem dX11_rest_103 : decode cX11_rest 103 = .ok (.iload 4, 2) := by decide +kernel
theorem dX11_rest_105 : decode cX11_rest 105 = .ok (.ifCond .ne 8, 3) := by decide +kernel
theorem dX11_rest_108 : decode cX11_rest 108 = .ok (.iload 5, 2) := by decide +kernel
theorem dX11_rest_110 : decode cX11_rest 110 = .ok (.goto 5, 3) := by decide +kernel
theorem dX11_rest_113 : decode cX11_rest 113 = .ok (.iload 6, 2) := by decide +kernel
theorem dX11_rest_115 : decode cX11_rest 115 = .ok (.ireturn, 1) := by decide +kernel
def wp_X11_rest_97 (S : Sh) (k52 : Int → Int → Int → Int → Int → Int → Int → Int → Mm → Prop) (post : Int → Mm → Prop) (u0 : Int) (u1 : Int) (u2 : Int) (u3 : Int) (u4 : Int) (u5 : Int) (u6 : Int) (u7 : Int) (M : Mm) : Prop := wA u7 1 fun v1 => k52 u0 u1 u2 u3 u4 u5 u6 v1 M
def wp_X11_rest_52 (S : Sh) (post : Int → Mm → Prop) : Nat → Int → Int → Int → Int → Int → Int → Int → Int → Mm → Prop
  | 0, _, _, _, _, _, _, _, _, _ => False
  | n + 1, u0, u1, u2, u3, u4, u5, u6, u7, M => wC 1 fun v3 => wO iShl v3 u2 fun v5 => wIf (v5 ≤ u7) (wIf (¬ u4 = 0) (post u6 M) (post u5 M)) (wp_J6_bitCount_0f7a4 S M u7 <| fun v8 M7 => wIf (¬ v8 = u3) (wp_X11_rest_97 S (fun a0 a1 a2 a3 a4 a5 a6 a7 M => wp_X11_rest_52 S post n a0 a1 a2 a3 a4 a5 a6 a7 M) post u0 u1 u2 u3 u4 u5 u6 u7 M7) (wGetR S M7 u0 11 14 fun v10 => isK S v10 9 ∧ (wp_X9_turnedByTurns S M7 v10 u1 u2 u7 <| fun v13 M12 => wIf (u6 ≤ v13) (wp_X11_rest_97 S (fun a0 a1 a2 a3 a4 a5 a6 a7 M => wp_X11_rest_52 S post n a0 a1 a2 a3 a4 a5 a6 a7 M) post u0 u1 u2 u3 u4 u5 u6 u7 M12) (wp_X11_rest_97 S (fun a0 a1 a2 a3 a4 a5 a6 a7 M => wp_X11_rest_52 S post n a0 a1 a2 a3 a4 a5 a6 a7 M) post u0 u1 u2 u3 u4 u7 v13 u7 M12))))
def wp_X11_rest (S : Sh) (M : Mm) (u0 : Int) (u1 : Int) (u2 : Int) (u3 : Int) (u4 : Int) (post : Int → Mm → Prop) : Prop := isK S u0 11 ∧ (wp_X11_isHand S M u0 u1 <| fun v16 M15 => wIf (v16 = 0) (wC (-1) fun v18 => post v18 M15) (wC 1 fun v20 => wIf (u2 < v20) (wC (-1) fun v22 => post v22 M15) (wC 10 fun v24 => wIf (v24 < u2) (wC (-1) fun v26 => post v26 M15) (wIf (u3 < 0) (wC (-1) fun v28 => post v28 M15) (wIf (u2 < u3) (wC (-1) fun v30 => post v30 M15) (wIf (u4 < 0) (wC (-1) fun v32 => post v32 M15) (wC 1 fun v34 => wIf (u4 ≤ v34) (wC 0 fun v36 => wC 2147483647 fun v38 => wC 0 fun v40 => ∃ n9 : Nat, wp_X11_rest_52 S post n9 u0 u1 u2 u3 u4 v36 v38 v40 M15) (wC (-1) fun v42 => post v42 M15))))))))
set_option maxHeartbeats 4000000 in
set_option maxRecDepth 100000 in
theorem t_X11_rest_97 {p : Program} {l : Launch} {e : Env} {s : State} {m : MethodId} {args : Array Value} {below : List Frame} {meth : Method} {c : Code} {D : va_G} {G : Gt} {S : Sh} {post : Int → Mm → Prop} {k52 : Int → Int → Int → Int → Int → Int → Int → Int → Mm → Prop} (C : Cx p s m args meth c D G cX11_rest 9 (some .int) (cw_X11_rest :: gw) RX11) (hk52 : ∀ (y0 : Int) (y1 : Int32) (y2 : Int32) (y3 : Int32) (y4 : Int32) (y5 : Int32) (y6 : Int32) (y7 : Int32) (M : Mm) (H : Heap) (locs : List Loc) (ls : Array Slot), Wd D G S M H → va_S (aG G) s.heap H locs → lv_has ls 9 [(0, .ref (adr G y0)), (1, .int y1), (2, .int y2), (3, .int y3), (4, .int y4), (5, .int y5), (6, .int y6), (7, .int y7)] → k52 y0 y1.toInt y2.toInt y3.toInt y4.toInt y5.toInt y6.toInt y7.toInt M → W p l e RM_X11_rest s m args below meth c H locs 0 0 (MQ below (QI D G S post) args s 0 0 (aG G)) (F0 m 52 ls [])) : ∀ (xl0 : Int) (zl1 : Int32) (zl2 : Int32) (zl3 : Int32) (zl4 : Int32) (zl5 : Int32) (zl6 : Int32) (zl7 : Int32) (M : Mm) (H : Heap) (locs : List Loc) (ls : Array Slot), Wd D G S M H → va_S (aG G) s.heap H locs → lv_has ls 9 [(0, .ref (adr G xl0)), (1, .int zl1), (2, .int zl2), (3, .int zl3), (4, .int zl4), (5, .int zl5), (6, .int zl6), (7, .int zl7)] → wp_X11_rest_97 S k52 post xl0 zl1.toInt zl2.toInt zl3.toInt zl4.toInt zl5.toInt zl6.toInt zl7.toInt  M → W p l e RM_X11_rest s m args below meth c H locs 0 0 (MQ below (QI D G S post) args s 0 0 (aG G)) (F0 m 97 ls []) := by
  obtain ⟨hx, hb, hr, hlocks, hml, hown, hts, hK⟩ := id C
  intro xl0 zl1 zl2 zl3 zl4 zl5 zl6 zl7 M H locs ls hP hS hl h
  unfold wp_X11_rest_97 at h
  refine r_iinc hx hb (fun z2 => [(7, .int z2), (0, .ref (adr G xl0)), (1, .int zl1), (2, .int zl2), (3, .int zl3), (4, .int zl4), (5, .int zl5), (6, .int zl6)]) dX11_rest_97 (by decide) hl (k := 7) rfl (by decide) (fun _ => rfl) h (fun z2 ls hl h => ?_)
  refine lv_goto (tgt := 52) hx hb dX11_rest_100 (by decide) ?_
  exact hk52 xl0 zl1 zl2 zl3 zl4 zl5 zl6 z2 _ _ _ _ hP hS (lv_sub hl [1, 2, 3, 4, 5, 6, 7, 0] rfl) h
set_option maxHeartbeats 4000000 in
set_option maxRecDepth 100000 in
theorem t_X11_rest_52 {p : Program} {l : Launch} {e : Env} {s : State} {m : MethodId} {args : Array Value} {below : List Frame} {meth : Method} {c : Code} {D : va_G} {G : Gt} {S : Sh} {post : Int → Mm → Prop} (C : Cx p s m args meth c D G cX11_rest 9 (some .int) (cw_X11_rest :: gw) RX11) : ∀ (n : Nat) (xl0 : Int) (zl1 : Int32) (zl2 : Int32) (zl3 : Int32) (zl4 : Int32) (zl5 : Int32) (zl6 : Int32) (zl7 : Int32) (M : Mm) (H : Heap) (locs : List Loc) (ls : Array Slot), Wd D G S M H → va_S (aG G) s.heap H locs → lv_has ls 9 [(0, .ref (adr G xl0)), (1, .int zl1), (2, .int zl2), (3, .int zl3), (4, .int zl4), (5, .int zl5), (6, .int zl6), (7, .int zl7)] → wp_X11_rest_52 S post n xl0 zl1.toInt zl2.toInt zl3.toInt zl4.toInt zl5.toInt zl6.toInt zl7.toInt  M → W p l e RM_X11_rest s m args below meth c H locs 0 0 (MQ below (QI D G S post) args s 0 0 (aG G)) (F0 m 52 ls []) := by
  obtain ⟨hx, hb, hr, hlocks, hml, hown, hts, hK⟩ := id C
  intro n
  induction n with
  | zero => intro xl0 zl1 zl2 zl3 zl4 zl5 zl6 zl7 M H locs ls hP hS hl h; exact h.elim
  | succ n ih =>
    intro xl0 zl1 zl2 zl3 zl4 zl5 zl6 zl7 M H locs ls hP hS hl h
    unfold wp_X11_rest_52 at h
    refine lv_iload hx hb dX11_rest_52 (lv_at hl 7 rfl) ?_
    refine r_iconst hx hb dX11_rest_54 (by decide) h (fun z4 h => ?_)
    refine lv_iload_n hx hb dX11_rest_55 rfl (lv_at hl 2 rfl) ?_
    refine r_ishl hx hb dX11_rest_56 h (fun z6 h => ?_)
    refine r_icmp_ge (tgt := 103) hx hb dX11_rest_57 (by decide) h (fun h => ?_) (fun h => ?_)
    · refine lv_iload hx hb dX11_rest_103 (lv_at hl 4 rfl) ?_
      refine r_if_ne (tgt := 113) hx hb dX11_rest_105 (by decide) h (fun h => ?_) (fun h => ?_)
      · refine lv_iload hx hb dX11_rest_113 (lv_at hl 6 rfl) ?_
        exact r_iret hx hb hr hlocks hP hS dX11_rest_115 h
      · refine lv_iload hx hb dX11_rest_108 (lv_at hl 5 rfl) ?_
        refine lv_goto (tgt := 115) hx hb dX11_rest_110 (by decide) ?_
        exact r_iret hx hb hr hlocks hP hS dX11_rest_115 h
    · refine lv_iload hx hb dX11_rest_60 (lv_at hl 7 rfl) ?_
      refine q_Si hx hb hml hown hts hK hP hS (c_J6_bitCount_0f7a4 l D G S _ zl7 _ h) ⟨callB_of 1 hts (gw_good kw_959) rfl rfl rfl (hts _ (List.mem_cons_of_mem _ kw_21)) (hts _ (List.mem_cons_of_mem _ kw_1182)) hd_J6_bitCount_0f7a4 ⟨Nat.le_of_ble_eq_true rfl, Nat.le_of_ble_eq_true rfl⟩, (hts _ (List.mem_cons_of_mem _ kw_958))⟩ rfl hl.1 rfl (lv_room (Nat.le_of_ble_eq_true rfl)) dX11_rest_62 ⟨Nat.zero_le _, Nat.zero_le _⟩ (fun z9 M7 H locs h hP hS => ?_)
      refine lv_iload_n hx hb dX11_rest_65 rfl (lv_at hl 3 rfl) ?_
      refine r_icmp_ne (tgt := 97) hx hb dX11_rest_66 (by decide) h (fun h => ?_) (fun h => ?_)
      · exact t_X11_rest_97 C ih xl0 zl1 zl2 zl3 zl4 zl5 zl6 zl7 _ _ _ _ hP hS (lv_sub hl [0, 1, 2, 3, 4, 5, 6, 7] rfl) h
      · refine lv_aload_n hx hb dX11_rest_69 rfl (lv_at hl 0 rfl) ?_
        refine r_getr (C := RX11) (T := TX11) (N := 16) hx hb hts (fun w h => List.mem_cons_of_mem _ (iX11 w h)) hown hK hP rfl (by decide) rfl 14 (by decide) (hts _ (List.mem_cons_of_mem _ kw_505)) (fun _ h9 => h9) dX11_rest_70 (by decide) h (fun x11 h => ?_)
        refine lv_iload_n hx hb dX11_rest_73 rfl (lv_at hl 1 rfl) ?_
        refine lv_iload_n hx hb dX11_rest_74 rfl (lv_at hl 2 rfl) ?_
        refine lv_iload hx hb dX11_rest_75 (lv_at hl 7 rfl) ?_
        refine q_Vi hx hb hml hown hts hK hP hS (c_X9_turnedByTurns l D G S _ x11 zl1 zl2 zl7 _ h.2) ⟨callB_of 3 hts (gw_good kw_1186) rfl rfl rfl (hts _ (List.mem_cons_of_mem _ kw_13)) (hts _ (List.mem_cons_of_mem _ kw_1183)) hd_X9_turnedByTurns ⟨Nat.le_of_ble_eq_true rfl, Nat.le_of_ble_eq_true rfl⟩, (hts _ (List.mem_cons_of_mem _ kw_1184)), (hts _ (List.mem_cons_of_mem _ kw_1185))⟩ h.1 (ci := 9) rfl (by decide) rfl hl.1 rfl (lv_room (Nat.le_of_ble_eq_true rfl)) dX11_rest_77 ⟨Nat.zero_le _, Nat.zero_le _⟩ (fun z14 M12 H locs h hP hS => ?_)
        refine lv_istore (lv' := [(8, .int z14), (0, .ref (adr G xl0)), (1, .int zl1), (2, .int zl2), (3, .int zl3), (4, .int zl4), (5, .int zl5), (6, .int zl6), (7, .int zl7)]) hx hb dX11_rest_80 hl (by decide) rfl (fun ls hl => ?_)
        refine lv_iload hx hb dX11_rest_82 (lv_at hl 0 rfl) ?_
        refine lv_iload hx hb dX11_rest_84 (lv_at hl 7 rfl) ?_
        refine r_icmp_ge (tgt := 97) hx hb dX11_rest_86 (by decide) h (fun h => ?_) (fun h => ?_)
        · exact t_X11_rest_97 C ih xl0 zl1 zl2 zl3 zl4 zl5 zl6 zl7 _ _ _ _ hP hS (lv_sub hl [1, 2, 3, 4, 5, 6, 7, 8] rfl) h
        · refine lv_iload hx hb dX11_rest_89 (lv_at hl 0 rfl) ?_
          refine lv_istore (lv' := [(6, .int z14), (8, .int z14), (0, .ref (adr G xl0)), (1, .int zl1), (2, .int zl2), (3, .int zl3), (4, .int zl4), (5, .int zl5), (7, .int zl7)]) hx hb dX11_rest_91 hl (by decide) rfl (fun ls hl => ?_)
          refine lv_iload hx hb dX11_rest_93 (lv_at hl 8 rfl) ?_
          refine lv_istore (lv' := [(5, .int zl7), (6, .int z14), (8, .int z14), (0, .ref (adr G xl0)), (1, .int zl1), (2, .int zl2), (3, .int zl3), (4, .int zl4), (7, .int zl7)]) hx hb dX11_rest_95 hl (by decide) rfl (fun ls hl => ?_)
          exact t_X11_rest_97 C ih xl0 zl1 zl2 zl3 zl4 zl7 z14 zl7 _ _ _ _ hP hS (lv_sub hl [3, 4, 5, 6, 7, 0, 1, 8] rfl) h
set_option maxHeartbeats 4000000 in
set_option maxRecDepth 100000 in
theorem c_X11_rest (l : Launch) (D : va_G) (G : Gt) (S : Sh) (M : Mm) (xl0 : Int) (zl1 : Int32) (zl2 : Int32) (zl3 : Int32) (zl4 : Int32) (post : Int → Mm → Prop) (h : wp_X11_rest S M xl0 zl1.toInt zl2.toInt zl3.toInt zl4.toInt post) : Met l yX11_rest (cw_X11_rest :: gw) RM_X11_rest (va_Pc [.ref (adr G xl0), .int zl1, .int zl2, .int zl3, .int zl4] (fun U => KN D G U ∧ Wd D G S M U.heap)) (QI D G S post) 0 0 (aG G) := by
  refine Met.ofW (cc := cX11_rest) (maxL := 9) (ret := (some .int)) (by decide) rfl ?_
  intro p e s m args below meth c s₁ B hml hv
  obtain ⟨rfl, hK, hP⟩ := hv
  have hx := B.exec
  have hb := B.bytes
  have hr := B.returns
  have hts := atoms_spec (ws := cw_X11_rest :: gw) B.pre
  have hown : s.vm.findClass RX11 = some m.cls := findClass_of_methodNamed B.named
  have hlocks := B.notSynchronized
  have hS : va_S (aG G) s.heap s.heap [] := va_S.rf
  have C : Cx p s m ([.ref (adr G xl0), .int zl1, .int zl2, .int zl3, .int zl4] : List Value).toArray meth c D G cX11_rest 9 (some .int) (cw_X11_rest :: gw) RX11 := ⟨hx, hb, hr, hlocks, hml, hown, hts, hK⟩
  have hl := lv_entry ([.ref (adr G xl0), .int zl1, .int zl2, .int zl3, .int zl4]) (n := 9) (Nat.le_of_ble_eq_true rfl)
  rw [lg_entry_eq]
  generalize (lg_sl ([.ref (adr G xl0), .int zl1, .int zl2, .int zl3, .int zl4]) ++ List.replicate (9 - (lg_sl ([.ref (adr G xl0), .int zl1, .int zl2, .int zl3, .int zl4])).length) Slot.unset).toArray = ls at hl ⊢
  have hl : lv_has ls 9 [(0, .ref (adr G xl0)), (1, .int zl1), (2, .int zl2), (3, .int zl3), (4, .int zl4)] := hl
  unfold wp_X11_rest at h
  refine lv_aload_n hx hb dX11_rest_0 rfl (lv_at hl 0 rfl) ?_
  refine lv_iload_n hx hb dX11_rest_1 rfl (lv_at hl 1 rfl) ?_
  refine q_Vi hx hb hml hown hts hK hP hS (c_X11_isHand l D G S _ xl0 zl1 _ h.2) ⟨callB_of 1 hts (gw_good kw_881) rfl rfl rfl (hts _ (List.mem_cons_of_mem _ kw_1)) (hts _ (List.mem_cons_of_mem _ kw_878)) hd_X11_isHand ⟨Nat.le_of_ble_eq_true rfl, Nat.le_of_ble_eq_true rfl⟩, (hts _ (List.mem_cons_of_mem _ kw_880)), (hts _ (List.mem_cons_of_mem _ kp_29))⟩ h.1 (ci := 11) rfl (by decide) rfl hl.1 rfl (lv_room (Nat.le_of_ble_eq_true rfl)) dX11_rest_2 ⟨Nat.zero_le _, Nat.zero_le _⟩ (fun z17 M15 H locs h hP hS => ?_)
  refine r_if_eq (tgt := 39) hx hb dX11_rest_5 (by decide) h (fun h => ?_) (fun h => ?_)
  · refine r_iconst hx hb dX11_rest_39 (by decide) h (fun z19 h => ?_)
    exact r_iret hx hb hr hlocks hP hS dX11_rest_40 h
  · refine lv_iload_n hx hb dX11_rest_8 rfl (lv_at hl 2 rfl) ?_
    refine r_iconst hx hb dX11_rest_9 (by decide) h (fun z21 h => ?_)
    refine r_icmp_lt (tgt := 39) hx hb dX11_rest_10 (by decide) h (fun h => ?_) (fun h => ?_)
    · refine r_iconst hx hb dX11_rest_39 (by decide) h (fun z23 h => ?_)
      exact r_iret hx hb hr hlocks hP hS dX11_rest_40 h
    · refine lv_iload_n hx hb dX11_rest_13 rfl (lv_at hl 2 rfl) ?_
      refine r_bipush hx hb dX11_rest_14 (by decide) h (fun z25 h => ?_)
      refine r_icmp_gt (tgt := 39) hx hb dX11_rest_16 (by decide) h (fun h => ?_) (fun h => ?_)
      · refine r_iconst hx hb dX11_rest_39 (by decide) h (fun z27 h => ?_)
        exact r_iret hx hb hr hlocks hP hS dX11_rest_40 h
      · refine lv_iload_n hx hb dX11_rest_19 rfl (lv_at hl 3 rfl) ?_
        refine r_if_lt (tgt := 39) hx hb dX11_rest_20 (by decide) h (fun h => ?_) (fun h => ?_)
        · refine r_iconst hx hb dX11_rest_39 (by decide) h (fun z29 h => ?_)
          exact r_iret hx hb hr hlocks hP hS dX11_rest_40 h
        · refine lv_iload_n hx hb dX11_rest_23 rfl (lv_at hl 3 rfl) ?_
          refine lv_iload_n hx hb dX11_rest_24 rfl (lv_at hl 2 rfl) ?_
          refine r_icmp_gt (tgt := 39) hx hb dX11_rest_25 (by decide) h (fun h => ?_) (fun h => ?_)
          · refine r_iconst hx hb dX11_rest_39 (by decide) h (fun z31 h => ?_)
            exact r_iret hx hb hr hlocks hP hS dX11_rest_40 h
          · refine lv_iload hx hb dX11_rest_28 (lv_at hl 4 rfl) ?_
            refine r_if_lt (tgt := 39) hx hb dX11_rest_30 (by decide) h (fun h => ?_) (fun h => ?_)
            · refine r_iconst hx hb dX11_rest_39 (by decide) h (fun z33 h => ?_)
              exact r_iret hx hb hr hlocks hP hS dX11_rest_40 h
            · refine lv_iload hx hb dX11_rest_33 (lv_at hl 4 rfl) ?_
              refine r_iconst hx hb dX11_rest_35 (by decide) h (fun z35 h => ?_)
              refine r_icmp_le (tgt := 41) hx hb dX11_rest_36 (by decide) h (fun h => ?_) (fun h => ?_)
              · refine r_iconst hx hb dX11_rest_41 (by decide) h (fun z37 h => ?_)
                refine lv_istore (lv' := [(5, .int z37), (0, .ref (adr G xl0)), (1, .int zl1), (2, .int zl2), (3, .int zl3), (4, .int zl4)]) hx hb dX11_rest_42 hl (by decide) rfl (fun ls hl => ?_)
                refine r_ldc_w hx hb hown (hts _ (List.mem_cons_of_mem _ kw_1181)) dX11_rest_44 (n := 2147483647) (by decide) h (fun z39 h => ?_)
                refine lv_istore (lv' := [(6, .int z39), (5, .int z37), (0, .ref (adr G xl0)), (1, .int zl1), (2, .int zl2), (3, .int zl3), (4, .int zl4)]) hx hb dX11_rest_47 hl (by decide) rfl (fun ls hl => ?_)
                refine r_iconst hx hb dX11_rest_49 (by decide) h (fun z41 h => ?_)
                refine lv_istore (lv' := [(7, .int z41), (6, .int z39), (5, .int z37), (0, .ref (adr G xl0)), (1, .int zl1), (2, .int zl2), (3, .int zl3), (4, .int zl4)]) hx hb dX11_rest_50 hl (by decide) rfl (fun ls hl => ?_)
                obtain ⟨n9, h⟩ := h
                exact t_X11_rest_52 C n9 xl0 zl1 zl2 zl3 zl4 z37 z39 z41 _ _ _ _ hP hS (lv_sub hl [3, 4, 5, 6, 7, 2, 1, 0] rfl) h
              · refine r_iconst hx hb dX11_rest_39 (by decide) h (fun z43 h => ?_)
                exact r_iret hx hb hr hlocks hP hS dX11_rest_40 h
/-! TurningMilk$Scene.addTest(IIII)V -/
abbrev RM_X4_addTest : Room := { frames := 1, cells := 0, slots := 0, locals := 40 }
def cw_X4_addTest : Cond := Cond.code yX4_addTest cX4_addTest 5 (Option.none : Option FieldType)
theorem hd_X4_addTest : yX4_addTest.cls ≠ "java/lang/invoke/MethodHandle" ∧ yX4_addTest.cls ≠ "java/lang/invoke/VarHandle" ∧ (parseMethodDescriptor yX4_addTest.desc).map (fun d => d.parameters.length) = some 4 := by decide +kernel
theorem dX4_addTest_0 : decode cX4_addTest 0 = .ok (.aload_n 0, 1) := by decide +kernel
theorem dX4_addTest_1 : decode cX4_addTest 1 = .ok (.getfield 52, 3) := by decide +kernel
theorem dX4_addTest_4 : decode cX4_addTest 4 = .ok (.bipush 10, 2) := by decide +kernel
theorem dX4_addTest_6 : decode cX4_addTest 6 = .ok (.if_icmp .ge 54, 3) := by decide +kernel
theorem dX4_addTest_9 : decode cX4_addTest 9 = .ok (.aload_n 0, 1) := by decide +kernel
theorem dX4_addTest_10 : decode cX4_addTest 10 = .ok (.getfield 29, 3) := by decide +kernel
theorem dX4_addTest_13 : decode cX4_addTest 13 = .ok (.aload_n 0, 1) := by decide +kernel
theorem dX4_addTest_14 : decode cX4_addTest 14 = .ok (.getfield 52, 3) := by decide +kernel
theorem dX4_addTest_17 : decode cX4_addTest 17 = .ok (.iload_n 1, 1) := by decide +kernel
theorem dX4_addTest_18 : decode cX4_addTest 18 = .ok (.iastore, 1) := by decide +kernel
theorem dX4_addTest_19 : decode cX4_addTest 19 = .ok (.aload_n 0, 1) := by decide +kernel
theorem dX4_addTest_20 : decode cX4_addTest 20 = .ok (.getfield 33, 3) := by decide +kernel
theorem dX4_addTest_23 : decode cX4_addTest 23 = .ok (.aload_n 0, 1) := by decide +kernel
theorem dX4_addTest_24 : decode cX4_addTest 24 = .ok (.getfield 52, 3) := by decide +kernel
theorem dX4_addTest_27 : decode cX4_addTest 27 = .ok (.iload_n 2, 1) := by decide +kernel
theorem dX4_addTest_28 : decode cX4_addTest 28 = .ok (.iastore, 1) := by decide +kernel
theorem dX4_addTest_29 : decode cX4_addTest 29 = .ok (.aload_n 0, 1) := by decide +kernel
theorem dX4_addTest_30 : decode cX4_addTest 30 = .ok (.getfield 36, 3) := by decide +kernel
theorem dX4_addTest_33 : decode cX4_addTest 33 = .ok (.aload_n 0, 1) := by decide +kernel
theorem dX4_addTest_34 : decode cX4_addTest 34 = .ok (.getfield 52, 3) := by decide +kernel
theorem dX4_addTest_37 : decode cX4_addTest 37 = .ok (.iload_n 3, 1) := by decide +kernel
theorem dX4_addTest_38 : decode cX4_addTest 38 = .ok (.iastore, 1) := by decide +kernel
theorem dX4_addTest_39 : decode cX4_addTest 39 = .ok (.aload_n 0, 1) := by decide +kernel
theorem dX4_addTest_40 : decode cX4_addTest 40 = .ok (.getfield 39, 3) := by decide +kernel
theorem dX4_addTest_43 : decode cX4_addTest 43 = .ok (.aload_n 0, 1) := by decide +kernel
theorem dX4_addTest_44 : decode cX4_addTest 44 = .ok (.getfield 52, 3) := by decide +kernel
theorem dX4_addTest_47 : decode cX4_addTest 47 = .ok (.iload 4, 2) := by decide +kernel
theorem dX4_addTest_49 : decode cX4_addTest 49 = .ok (.iastore, 1) := by decide +kernel
theorem dX4_addTest_50 : decode cX4_addTest 50 = .ok (.aload_n 0, 1) := by decide +kernel
theorem dX4_addTest_51 : decode cX4_addTest 51 = .ok (.dup, 1) := by decide +kernel
theorem dX4_addTest_52 : decode cX4_addTest 52 = .ok (.getfield 52, 3) := by decide +kernel
theorem dX4_addTest_55 : decode cX4_addTest 55 = .ok (.iconst 1, 1) := by decide +kernel
theorem dX4_addTest_56 : decode cX4_addTest 56 = .ok (.iadd, 1) := by decide +kernel
theorem dX4_addTest_57 : decode cX4_addTest 57 = .ok (.putfield 52, 3) := by decide +kernel
theorem dX4_addTest_60 : decode cX4_addTest 60 = .ok (.return_, 1) := by decide +kernel
def wp_X4_addTest (S : Sh) (M : Mm) (u0 : Int) (u1 : Int) (u2 : Int) (u3 : Int) (u4 : Int) (post : Mm → Prop) : Prop := wGet S M u0 4 4 fun v1 => wC 10 fun v3 => wIf (v3 ≤ v1) (post M) (wGetR S M u0 4 5 fun v5 => wGet S M u0 4 4 fun v7 => wSt S M v5 14 v7 u1 fun M9 => wGetR S M9 u0 4 6 fun v10 => wGet S M9 u0 4 4 fun v12 => wSt S M9 v10 14 v12 u2 fun M14 => wGetR S M14 u0 4 7 fun v15 => wGet S M14 u0 4 4 fun v17 => wSt S M14 v15 14 v17 u3 fun M19 => wGetR S M19 u0 4 8 fun v20 => wGet S M19 u0 4 4 fun v22 => wSt S M19 v20 14 v22 u4 fun M24 => wGet S M24 u0 4 4 fun v25 => wC 1 fun v27 => wA v25 v27 fun v29 => wPut S M24 u0 4 4 v29 fun M31 => post M31)
set_option maxHeartbeats 4000000 in
set_option maxRecDepth 100000 in
theorem c_X4_addTest (l : Launch) (D : va_G) (G : Gt) (S : Sh) (M : Mm) (xl0 : Int) (zl1 : Int32) (zl2 : Int32) (zl3 : Int32) (zl4 : Int32) (post : Mm → Prop) (h : wp_X4_addTest S M xl0 zl1.toInt zl2.toInt zl3.toInt zl4.toInt post) : Met l yX4_addTest (cw_X4_addTest :: gw) RM_X4_addTest (va_Pc [.ref (adr G xl0), .int zl1, .int zl2, .int zl3, .int zl4] (fun U => KN D G U ∧ Wd D G S M U.heap)) (QV D G S post) 0 0 (aG G) := by
  refine Met.ofW (cc := cX4_addTest) (maxL := 5) (ret := none) (by decide) rfl ?_
  intro p e s m args below meth c s₁ B hml hv
  obtain ⟨rfl, hK, hP⟩ := hv
  have hx := B.exec
  have hb := B.bytes
  have hr := B.returns
  have hts := atoms_spec (ws := cw_X4_addTest :: gw) B.pre
  have hown : s.vm.findClass RX4 = some m.cls := findClass_of_methodNamed B.named
  have hlocks := B.notSynchronized
  have hS : va_S (aG G) s.heap s.heap [] := va_S.rf
  have C : Cx p s m ([.ref (adr G xl0), .int zl1, .int zl2, .int zl3, .int zl4] : List Value).toArray meth c D G cX4_addTest 5 none (cw_X4_addTest :: gw) RX4 := ⟨hx, hb, hr, hlocks, hml, hown, hts, hK⟩
  have hl := lv_entry ([.ref (adr G xl0), .int zl1, .int zl2, .int zl3, .int zl4]) (n := 5) (Nat.le_of_ble_eq_true rfl)
  rw [lg_entry_eq]
  generalize (lg_sl ([.ref (adr G xl0), .int zl1, .int zl2, .int zl3, .int zl4]) ++ List.replicate (5 - (lg_sl ([.ref (adr G xl0), .int zl1, .int zl2, .int zl3, .int zl4])).length) Slot.unset).toArray = ls at hl ⊢
  have hl : lv_has ls 5 [(0, .ref (adr G xl0)), (1, .int zl1), (2, .int zl2), (3, .int zl3), (4, .int zl4)] := hl
  unfold wp_X4_addTest at h
  refine lv_aload_n hx hb dX4_addTest_0 rfl (lv_at hl 0 rfl) ?_
  refine r_geti (C := RX4) (T := TX4) (N := 10) hx hb hts (fun w h => List.mem_cons_of_mem _ (iX4 w h)) hown hK hP rfl (by decide) rfl 4 (by decide) (hts _ (List.mem_cons_of_mem _ kw_241)) (fun _ h9 => h9) dX4_addTest_1 (by decide) h (fun z2 h => ?_)
  refine r_bipush hx hb dX4_addTest_4 (by decide) h (fun z4 h => ?_)
  refine r_icmp_ge (tgt := 60) hx hb dX4_addTest_6 (by decide) h (fun h => ?_) (fun h => ?_)
  · exact r_vret hx hb hr hlocks hP hS dX4_addTest_60 h
  · refine lv_aload_n hx hb dX4_addTest_9 rfl (lv_at hl 0 rfl) ?_
    refine r_getr (C := RX4) (T := TX4) (N := 10) hx hb hts (fun w h => List.mem_cons_of_mem _ (iX4 w h)) hown hK hP rfl (by decide) rfl 5 (by decide) (hts _ (List.mem_cons_of_mem _ kw_244)) (fun _ h9 => h9) dX4_addTest_10 (by decide) h (fun x6 h => ?_)
    refine lv_aload_n hx hb dX4_addTest_13 rfl (lv_at hl 0 rfl) ?_
    refine r_geti (C := RX4) (T := TX4) (N := 10) hx hb hts (fun w h => List.mem_cons_of_mem _ (iX4 w h)) hown hK hP rfl (by decide) rfl 4 (by decide) (hts _ (List.mem_cons_of_mem _ kw_241)) (fun _ h9 => h9) dX4_addTest_14 (by decide) h (fun z8 h => ?_)
    refine lv_iload_n hx hb dX4_addTest_17 rfl (lv_at hl 1 rfl) ?_
    refine r_iast hx hb hK hP hS dX4_addTest_18 h (fun M9 H locs h hP hS => ?_)
    refine lv_aload_n hx hb dX4_addTest_19 rfl (lv_at hl 0 rfl) ?_
    refine r_getr (C := RX4) (T := TX4) (N := 10) hx hb hts (fun w h => List.mem_cons_of_mem _ (iX4 w h)) hown hK hP rfl (by decide) rfl 6 (by decide) (hts _ (List.mem_cons_of_mem _ kw_246)) (fun _ h9 => h9) dX4_addTest_20 (by decide) h (fun x11 h => ?_)
    refine lv_aload_n hx hb dX4_addTest_23 rfl (lv_at hl 0 rfl) ?_
    refine r_geti (C := RX4) (T := TX4) (N := 10) hx hb hts (fun w h => List.mem_cons_of_mem _ (iX4 w h)) hown hK hP rfl (by decide) rfl 4 (by decide) (hts _ (List.mem_cons_of_mem _ kw_241)) (fun _ h9 => h9) dX4_addTest_24 (by decide) h (fun z13 h => ?_)
    refine lv_iload_n hx hb dX4_addTest_27 rfl (lv_at hl 2 rfl) ?_
    refine r_iast hx hb hK hP hS dX4_addTest_28 h (fun M14 H locs h hP hS => ?_)
    refine lv_aload_n hx hb dX4_addTest_29 rfl (lv_at hl 0 rfl) ?_
    refine r_getr (C := RX4) (T := TX4) (N := 10) hx hb hts (fun w h => List.mem_cons_of_mem _ (iX4 w h)) hown hK hP rfl (by decide) rfl 7 (by decide) (hts _ (List.mem_cons_of_mem _ kw_248)) (fun _ h9 => h9) dX4_addTest_30 (by decide) h (fun x16 h => ?_)
    refine lv_aload_n hx hb dX4_addTest_33 rfl (lv_at hl 0 rfl) ?_
    refine r_geti (C := RX4) (T := TX4) (N := 10) hx hb hts (fun w h => List.mem_cons_of_mem _ (iX4 w h)) hown hK hP rfl (by decide) rfl 4 (by decide) (hts _ (List.mem_cons_of_mem _ kw_241)) (fun _ h9 => h9) dX4_addTest_34 (by decide) h (fun z18 h => ?_)
    refine lv_iload_n hx hb dX4_addTest_37 rfl (lv_at hl 3 rfl) ?_
    refine r_iast hx hb hK hP hS dX4_addTest_38 h (fun M19 H locs h hP hS => ?_)
    refine lv_aload_n hx hb dX4_addTest_39 rfl (lv_at hl 0 rfl) ?_
    refine r_getr (C := RX4) (T := TX4) (N := 10) hx hb hts (fun w h => List.mem_cons_of_mem _ (iX4 w h)) hown hK hP rfl (by decide) rfl 8 (by decide) (hts _ (List.mem_cons_of_mem _ kw_250)) (fun _ h9 => h9) dX4_addTest_40 (by decide) h (fun x21 h => ?_)
    refine lv_aload_n hx hb dX4_addTest_43 rfl (lv_at hl 0 rfl) ?_
    refine r_geti (C := RX4) (T := TX4) (N := 10) hx hb hts (fun w h => List.mem_cons_of_mem _ (iX4 w h)) hown hK hP rfl (by decide) rfl 4 (by decide) (hts _ (List.mem_cons_of_mem _ kw_241)) (fun _ h9 => h9) dX4_addTest_44 (by decide) h (fun z23 h => ?_)
    refine lv_iload hx hb dX4_addTest_47 (lv_at hl 4 rfl) ?_
    refine r_iast hx hb hK hP hS dX4_addTest_49 h (fun M24 H locs h hP hS => ?_)
    refine lv_aload_n hx hb dX4_addTest_50 rfl (lv_at hl 0 rfl) ?_
    refine lv_dup hx hb dX4_addTest_51 rfl ?_
    refine r_geti (C := RX4) (T := TX4) (N := 10) hx hb hts (fun w h => List.mem_cons_of_mem _ (iX4 w h)) hown hK hP rfl (by decide) rfl 4 (by decide) (hts _ (List.mem_cons_of_mem _ kw_241)) (fun _ h9 => h9) dX4_addTest_52 (by decide) h (fun z26 h => ?_)
    refine r_iconst hx hb dX4_addTest_55 (by decide) h (fun z28 h => ?_)
    refine r_iadd hx hb dX4_addTest_56 h (fun z30 h => ?_)
    refine r_puti (C := RX4) (T := TX4) (N := 10) hx hb hts (fun w h => List.mem_cons_of_mem _ (iX4 w h)) hown hK hP tyX4 tyX4_ok nmX4 hS rfl (by decide) rfl 4 (by decide) (hts _ (List.mem_cons_of_mem _ kw_241)) (fun _ h9 => h9) rfl (tyX4_ok 4 (by decide)) rfl rfl dX4_addTest_57 (by decide) h (fun M31 H locs h hP hS => ?_)
    exact r_vret hx hb hr hlocks hP hS dX4_addTest_60 h
/-! TurningMilk.test(IIII)I -/
abbrev RM_X11_test : Room := { frames := 2, cells := 0, slots := 0, locals := 64 }
def cw_X11_test : Cond := Cond.code yX11_test cX11_test 5 (Option.some FieldType.int)
theorem hd_X11_test : yX11_test.cls ≠ "java/lang/invoke/MethodHandle" ∧ yX11_test.cls ≠ "java/lang/invoke/VarHandle" ∧ (parseMethodDescriptor yX11_test.desc).map (fun d => d.parameters.length) = some 4 := by decide +kernel
theorem dX11_test_0 : decode cX11_test 0 = .ok (.aload_n 0, 1) := by decide +kernel
theorem dX11_test_1 : decode cX11_test 1 = .ok (.getfield 19, 3) := by decide +kernel
theorem dX11_test_4 : decode cX11_test 4 = .ok (.getfield 57, 3) := by decide +kernel
theorem dX11_test_7 : decode cX11_test 7 = .ok (.getfield 166, 3) := by decide +kernel
theorem dX11_test_10 : decode cX11_test 10 = .ok (.ifCond .ne 6, 3) := by decide +kernel
theorem dX11_test_13 : decode cX11_test 13 = .ok (.bipush (-2), 2) := by decide +kernel
theorem dX11_test_15 : decode cX11_test 15 = .ok (.ireturn, 1) := by decide +kernel
theorem dX11_test_16 : decode cX11_test 16 = .ok (.iload_n 2, 1) := by decide +kernel
theorem dX11_test_17 : decode cX11_test 17 = .ok (.iconst (-1), 1) := by decide +kernel
theorem dX11_test_18 : decode cX11_test 18 = .ok (.if_icmp .ne 13, 3) := by decide +kernel
theorem dX11_test_21 : decode cX11_test 21 = .ok (.aload_n 0, 1) := by decide +kernel
theorem dX11_test_22 : decode cX11_test 22 = .ok (.getfield 19, 3) := by decide +kernel
theorem dX11_test_25 : decode cX11_test 25 = .ok (.iconst 0, 1) := by decide +kernel
theorem dX11_test_26 : decode cX11_test 26 = .ok (.putfield 140, 3) := by decide +kernel
theorem dX11_test_29 : decode cX11_test 29 = .ok (.iconst 0, 1) := by decide +kernel
theorem dX11_test_30 : decode cX11_test 30 = .ok (.ireturn, 1) := by decide +kernel
theorem dX11_test_31 : decode cX11_test 31 = .ok (.iload_n 1, 1) := by decide +kernel
theorem dX11_test_32 : decode cX11_test 32 = .ok (.invokestatic 318, 3) := by decide +kernel
theorem dX11_test_35 : decode cX11_test 35 = .ok (.ifCond .eq 32, 3) := by decide +kernel
theorem dX11_test_38 : decode cX11_test 38 = .ok (.iload 4, 2) := by decide +kernel
theorem dX11_test_40 : decode cX11_test 40 = .ok (.invokestatic 318, 3) := by decide +kernel
theorem dX11_test_43 : decode cX11_test 43 = .ok (.ifCond .eq 24, 3) := by decide +kernel
theorem dX11_test_46 : decode cX11_test 46 = .ok (.iload_n 2, 1) := by decide +kernel
theorem dX11_test_47 : decode cX11_test 47 = .ok (.iconst 1, 1) := by decide +kernel
theorem dX11_test_48 : decode cX11_test 48 = .ok (.if_icmp .lt 19, 3) := by decide +kernel
theorem dX11_test_51 : decode cX11_test 51 = .ok (.iload_n 2, 1) := by decide +kernel
theorem dX11_test_52 : decode cX11_test 52 = .ok (.bipush 20, 2) := by decide +kernel
theorem dX11_test_54 : decode cX11_test 54 = .ok (.if_icmp .gt 13, 3) := by decide +kernel
theorem dX11_test_57 : decode cX11_test 57 = .ok (.iload_n 3, 1) := by decide +kernel
theorem dX11_test_58 : decode cX11_test 58 = .ok (.ifCond .lt 9, 3) := by decide +kernel
theorem dX11_test_61 : decode cX11_test 61 = .ok (.iload_n 3, 1) := by decide +kernel
theorem dX11_test_62 : decode cX11_test 62 = .ok (.bipush 99, 2) := by decide +kernel
theorem dX11_test_64 : decode cX11_test 64 = .ok (.if_icmp .le 6, 3) := by decide +kernel
theorem dX11_test_67 : decode cX11_test 67 = .ok (.bipush (-2), 2) := by decide +kernel
theorem dX11_test_69 : decode cX11_test 69 = .ok (.ireturn, 1) := by decide +kernel
theorem dX11_test_70 : decode cX11_test 70 = .ok (.aload_n 0, 1) := by decide +kernel
theorem dX11_test_71 : decode cX11_test 71 = .ok (.getfield 19, 3) := by decide +kernel
theorem dX11_test_74 : decode cX11_test 74 = .ok (.getfield 140, 3) := by decide +kernel
theorem dX11_test_77 : decode cX11_test 77 = .ok (.bipush 10, 2) := by decide +kernel
theorem dX11_test_79 : decode cX11_test 79 = .ok (.if_icmp .lt 6, 3) := by decide +kernel
theorem dX11_test_82 : decode cX11_test 82 = .ok (.bipush (-2), 2) := by decide +kernel
theorem dX11_test_84 : decode cX11_test 84 = .ok (.ireturn, 1) := by decide +kernel
theorem dX11_test_85 : decode cX11_test 85 = .ok (.aload_n 0, 1) := by decide +kernel
theorem dX11_test_86 : decode cX11_test 86 = .ok (.getfield 19, 3) := by decide +kernel
theorem dX11_test_89 : decode cX11_test 89 = .ok (.iload_n 1, 1) := by decide +kernel
theorem dX11_test_90 : decode cX11_test 90 = .ok (.iload_n 2, 1) := by decide +kernel
theorem dX11_test_91 : decode cX11_test 91 = .ok (.iload_n 3, 1) := by decide +kernel
theorem dX11_test_92 : decode cX11_test 92 = .ok (.iload 4, 2) := by decide +kernel
theorem dX11_test_94 : decode cX11_test 94 = .ok (.invokevirtual 356, 3) := by decide +kernel
theorem dX11_test_97 : decode cX11_test 97 = .ok (.aload_n 0, 1) := by decide +kernel
theorem dX11_test_98 : decode cX11_test 98 = .ok (.getfield 19, 3) := by decide +kernel
theorem dX11_test_101 : decode cX11_test 101 = .ok (.getfield 140, 3) := by decide +kernel
theorem dX11_test_104 : decode cX11_test 104 = .ok (.ireturn, 1) := by decide +kernel
def wp_X11_test (S : Sh) (M : Mm) (u0 : Int) (u1 : Int) (u2 : Int) (u3 : Int) (u4 : Int) (post : Int → Mm → Prop) : Prop := wGetR S M u0 11 1 fun v1 => wGetR S M v1 4 0 fun v3 => wGet S M v3 8 0 fun v5 => wIf (¬ v5 = 0) (wC (-1) fun v7 => wIf (¬ u2 = v7) (wp_X11_isTurned S M u1 <| fun v10 M9 => wIf (v10 = 0) (wC (-2) fun v12 => post v12 M9) (wp_X11_isTurned S M9 u4 <| fun v15 M14 => wIf (v15 = 0) (wC (-2) fun v17 => post v17 M14) (wC 1 fun v19 => wIf (u2 < v19) (wC (-2) fun v21 => post v21 M14) (wC 20 fun v23 => wIf (v23 < u2) (wC (-2) fun v25 => post v25 M14) (wIf (u3 < 0) (wC (-2) fun v27 => post v27 M14) (wC 99 fun v29 => wIf (u3 ≤ v29) (wGetR S M14 u0 11 1 fun v31 => wGet S M14 v31 4 4 fun v33 => wC 10 fun v35 => wIf (v33 < v35) (wGetR S M14 u0 11 1 fun v37 => isK S v37 4 ∧ (wp_X4_addTest S M14 v37 u1 u2 u3 u4 <| fun M39 => wGetR S M39 u0 11 1 fun v40 => wGet S M39 v40 4 4 fun v42 => post v42 M39)) (wC (-2) fun v44 => post v44 M14)) (wC (-2) fun v46 => post v46 M14))))))) (wGetR S M u0 11 1 fun v48 => wC 0 fun v50 => wPut S M v48 4 4 v50 fun M52 => wC 0 fun v53 => post v53 M52)) (wC (-2) fun v55 => post v55 M)
set_option maxHeartbeats 4000000 in
set_option maxRecDepth 100000 in
theorem c_X11_test (l : Launch) (D : va_G) (G : Gt) (S : Sh) (M : Mm) (xl0 : Int) (zl1 : Int32) (zl2 : Int32) (zl3 : Int32) (zl4 : Int32) (post : Int → Mm → Prop) (h : wp_X11_test S M xl0 zl1.toInt zl2.toInt zl3.toInt zl4.toInt post) : Met l yX11_test (cw_X11_test :: gw) RM_X11_test (va_Pc [.ref (adr G xl0), .int zl1, .int zl2, .int zl3, .int zl4] (fun U => KN D G U ∧ Wd D G S M U.heap)) (QI D G S post) 0 0 (aG G) := by
  refine Met.ofW (cc := cX11_test) (maxL := 5) (ret := (some .int)) (by decide) rfl ?_
  intro p e s m args below meth c s₁ B hml hv
  obtain ⟨rfl, hK, hP⟩ := hv
  have hx := B.exec
  have hb := B.bytes
  have hr := B.returns
  have hts := atoms_spec (ws := cw_X11_test :: gw) B.pre
  have hown : s.vm.findClass RX11 = some m.cls := findClass_of_methodNamed B.named
  have hlocks := B.notSynchronized
  have hS : va_S (aG G) s.heap s.heap [] := va_S.rf
  have C : Cx p s m ([.ref (adr G xl0), .int zl1, .int zl2, .int zl3, .int zl4] : List Value).toArray meth c D G cX11_test 5 (some .int) (cw_X11_test :: gw) RX11 := ⟨hx, hb, hr, hlocks, hml, hown, hts, hK⟩
  have hl := lv_entry ([.ref (adr G xl0), .int zl1, .int zl2, .int zl3, .int zl4]) (n := 5) (Nat.le_of_ble_eq_true rfl)
  rw [lg_entry_eq]
  generalize (lg_sl ([.ref (adr G xl0), .int zl1, .int zl2, .int zl3, .int zl4]) ++ List.replicate (5 - (lg_sl ([.ref (adr G xl0), .int zl1, .int zl2, .int zl3, .int zl4])).length) Slot.unset).toArray = ls at hl ⊢
  have hl : lv_has ls 5 [(0, .ref (adr G xl0)), (1, .int zl1), (2, .int zl2), (3, .int zl3), (4, .int zl4)] := hl
  unfold wp_X11_test at h
  refine lv_aload_n hx hb dX11_test_0 rfl (lv_at hl 0 rfl) ?_
  refine r_getr (C := RX11) (T := TX11) (N := 16) hx hb hts (fun w h => List.mem_cons_of_mem _ (iX11 w h)) hown hK hP rfl (by decide) rfl 1 (by decide) (hts _ (List.mem_cons_of_mem _ kw_492)) (fun _ h9 => h9) dX11_test_1 (by decide) h (fun x2 h => ?_)
  refine r_getrN (C := RX4) (T := TX4) (N := 10) hx hb hts (fun w h => List.mem_cons_of_mem _ (iX4 w h)) hown hK hP rfl (by decide) rfl 0 (by decide) (nw_70 hK) (fun _ h9 => h9) dX11_test_4 (by decide) h (fun x4 h => ?_)
  refine r_getiN (C := RX8) (T := TX8) (N := 19) hx hb hts (fun w h => List.mem_cons_of_mem _ (iX8 w h)) hown hK hP rfl (by decide) rfl 0 (by decide) (nw_4 hK) (fun _ h9 => h9) dX11_test_7 (by decide) h (fun z6 h => ?_)
  refine r_if_ne (tgt := 16) hx hb dX11_test_10 (by decide) h (fun h => ?_) (fun h => ?_)
  · refine lv_iload_n hx hb dX11_test_16 rfl (lv_at hl 2 rfl) ?_
    refine r_iconst hx hb dX11_test_17 (by decide) h (fun z8 h => ?_)
    refine r_icmp_ne (tgt := 31) hx hb dX11_test_18 (by decide) h (fun h => ?_) (fun h => ?_)
    · refine lv_iload_n hx hb dX11_test_31 rfl (lv_at hl 1 rfl) ?_
      refine q_Si hx hb hml hown hts hK hP hS (c_X11_isTurned l D G S _ zl1 _ h) ⟨callB_of 1 hts (gw_good kw_1104) rfl rfl rfl (hts _ (List.mem_cons_of_mem _ kw_1)) (hts _ (List.mem_cons_of_mem _ kw_1102)) hd_X11_isTurned ⟨Nat.le_of_ble_eq_true rfl, Nat.le_of_ble_eq_true rfl⟩, (hts _ (List.mem_cons_of_mem _ kw_1103))⟩ rfl hl.1 rfl (lv_room (Nat.le_of_ble_eq_true rfl)) dX11_test_32 ⟨Nat.zero_le _, Nat.zero_le _⟩ (fun z11 M9 H locs h hP hS => ?_)
      refine r_if_eq (tgt := 67) hx hb dX11_test_35 (by decide) h (fun h => ?_) (fun h => ?_)
      · refine r_bipush hx hb dX11_test_67 (by decide) h (fun z13 h => ?_)
        exact r_iret hx hb hr hlocks hP hS dX11_test_69 h
      · refine lv_iload hx hb dX11_test_38 (lv_at hl 4 rfl) ?_
        refine q_Si hx hb hml hown hts hK hP hS (c_X11_isTurned l D G S _ zl4 _ h) ⟨callB_of 1 hts (gw_good kw_1104) rfl rfl rfl (hts _ (List.mem_cons_of_mem _ kw_1)) (hts _ (List.mem_cons_of_mem _ kw_1102)) hd_X11_isTurned ⟨Nat.le_of_ble_eq_true rfl, Nat.le_of_ble_eq_true rfl⟩, (hts _ (List.mem_cons_of_mem _ kw_1103))⟩ rfl hl.1 rfl (lv_room (Nat.le_of_ble_eq_true rfl)) dX11_test_40 ⟨Nat.zero_le _, Nat.zero_le _⟩ (fun z16 M14 H locs h hP hS => ?_)
        refine r_if_eq (tgt := 67) hx hb dX11_test_43 (by decide) h (fun h => ?_) (fun h => ?_)
        · refine r_bipush hx hb dX11_test_67 (by decide) h (fun z18 h => ?_)
          exact r_iret hx hb hr hlocks hP hS dX11_test_69 h
        · refine lv_iload_n hx hb dX11_test_46 rfl (lv_at hl 2 rfl) ?_
          refine r_iconst hx hb dX11_test_47 (by decide) h (fun z20 h => ?_)
          refine r_icmp_lt (tgt := 67) hx hb dX11_test_48 (by decide) h (fun h => ?_) (fun h => ?_)
          · refine r_bipush hx hb dX11_test_67 (by decide) h (fun z22 h => ?_)
            exact r_iret hx hb hr hlocks hP hS dX11_test_69 h
          · refine lv_iload_n hx hb dX11_test_51 rfl (lv_at hl 2 rfl) ?_
            refine r_bipush hx hb dX11_test_52 (by decide) h (fun z24 h => ?_)
            refine r_icmp_gt (tgt := 67) hx hb dX11_test_54 (by decide) h (fun h => ?_) (fun h => ?_)
            · refine r_bipush hx hb dX11_test_67 (by decide) h (fun z26 h => ?_)
              exact r_iret hx hb hr hlocks hP hS dX11_test_69 h
            · refine lv_iload_n hx hb dX11_test_57 rfl (lv_at hl 3 rfl) ?_
              refine r_if_lt (tgt := 67) hx hb dX11_test_58 (by decide) h (fun h => ?_) (fun h => ?_)
              · refine r_bipush hx hb dX11_test_67 (by decide) h (fun z28 h => ?_)
                exact r_iret hx hb hr hlocks hP hS dX11_test_69 h
              · refine lv_iload_n hx hb dX11_test_61 rfl (lv_at hl 3 rfl) ?_
                refine r_bipush hx hb dX11_test_62 (by decide) h (fun z30 h => ?_)
                refine r_icmp_le (tgt := 70) hx hb dX11_test_64 (by decide) h (fun h => ?_) (fun h => ?_)
                · refine lv_aload_n hx hb dX11_test_70 rfl (lv_at hl 0 rfl) ?_
                  refine r_getr (C := RX11) (T := TX11) (N := 16) hx hb hts (fun w h => List.mem_cons_of_mem _ (iX11 w h)) hown hK hP rfl (by decide) rfl 1 (by decide) (hts _ (List.mem_cons_of_mem _ kw_492)) (fun _ h9 => h9) dX11_test_71 (by decide) h (fun x32 h => ?_)
                  refine r_getiN (C := RX4) (T := TX4) (N := 10) hx hb hts (fun w h => List.mem_cons_of_mem _ (iX4 w h)) hown hK hP rfl (by decide) rfl 4 (by decide) (nw_77 hK) (fun _ h9 => h9) dX11_test_74 (by decide) h (fun z34 h => ?_)
                  refine r_bipush hx hb dX11_test_77 (by decide) h (fun z36 h => ?_)
                  refine r_icmp_lt (tgt := 85) hx hb dX11_test_79 (by decide) h (fun h => ?_) (fun h => ?_)
                  · refine lv_aload_n hx hb dX11_test_85 rfl (lv_at hl 0 rfl) ?_
                    refine r_getr (C := RX11) (T := TX11) (N := 16) hx hb hts (fun w h => List.mem_cons_of_mem _ (iX11 w h)) hown hK hP rfl (by decide) rfl 1 (by decide) (hts _ (List.mem_cons_of_mem _ kw_492)) (fun _ h9 => h9) dX11_test_86 (by decide) h (fun x38 h => ?_)
                    refine lv_iload_n hx hb dX11_test_89 rfl (lv_at hl 1 rfl) ?_
                    refine lv_iload_n hx hb dX11_test_90 rfl (lv_at hl 2 rfl) ?_
                    refine lv_iload_n hx hb dX11_test_91 rfl (lv_at hl 3 rfl) ?_
                    refine lv_iload hx hb dX11_test_92 (lv_at hl 4 rfl) ?_
                    refine q_Vv hx hb hml hown hts hK hP hS (c_X4_addTest l D G S _ x38 zl1 zl2 zl3 zl4 _ h.2) ⟨callB_of 4 hts (gw_good kw_1201) rfl rfl rfl (hts _ (List.mem_cons_of_mem _ kw_3)) (hts _ (List.mem_cons_of_mem _ kw_1198)) hd_X4_addTest ⟨Nat.le_of_ble_eq_true rfl, Nat.le_of_ble_eq_true rfl⟩, (hts _ (List.mem_cons_of_mem _ kw_1199)), (hts _ (List.mem_cons_of_mem _ kw_1200))⟩ h.1 (ci := 4) rfl (by decide) rfl hl.1 rfl (lv_room (Nat.le_of_ble_eq_true rfl)) dX11_test_94 ⟨Nat.zero_le _, Nat.zero_le _⟩ (fun M39 H locs h hP hS => ?_)
                    refine lv_aload_n hx hb dX11_test_97 rfl (lv_at hl 0 rfl) ?_
                    refine r_getr (C := RX11) (T := TX11) (N := 16) hx hb hts (fun w h => List.mem_cons_of_mem _ (iX11 w h)) hown hK hP rfl (by decide) rfl 1 (by decide) (hts _ (List.mem_cons_of_mem _ kw_492)) (fun _ h9 => h9) dX11_test_98 (by decide) h (fun x41 h => ?_)
                    refine r_getiN (C := RX4) (T := TX4) (N := 10) hx hb hts (fun w h => List.mem_cons_of_mem _ (iX4 w h)) hown hK hP rfl (by decide) rfl 4 (by decide) (nw_77 hK) (fun _ h9 => h9) dX11_test_101 (by decide) h (fun z43 h => ?_)
                    exact r_iret hx hb hr hlocks hP hS dX11_test_104 h
                  · refine r_bipush hx hb dX11_test_82 (by decide) h (fun z45 h => ?_)
                    exact r_iret hx hb hr hlocks hP hS dX11_test_84 h
                · refine r_bipush hx hb dX11_test_67 (by decide) h (fun z47 h => ?_)
                  exact r_iret hx hb hr hlocks hP hS dX11_test_69 h
    · refine lv_aload_n hx hb dX11_test_21 rfl (lv_at hl 0 rfl) ?_
      refine r_getr (C := RX11) (T := TX11) (N := 16) hx hb hts (fun w h => List.mem_cons_of_mem _ (iX11 w h)) hown hK hP rfl (by decide) rfl 1 (by decide) (hts _ (List.mem_cons_of_mem _ kw_492)) (fun _ h9 => h9) dX11_test_22 (by decide) h (fun x49 h => ?_)
      refine r_iconst hx hb dX11_test_25 (by decide) h (fun z51 h => ?_)
      refine r_putiN (C := RX4) (T := TX4) (N := 10) hx hb hts (fun w h => List.mem_cons_of_mem _ (iX4 w h)) hown hK hP tyX4 tyX4_ok nmX4 hS rfl (by decide) rfl 4 (by decide) (nw_77 hK) (fun _ h9 => h9) rfl (tyX4_ok 4 (by decide)) rfl rfl dX11_test_26 (by decide) h (fun M52 H locs h hP hS => ?_)
      refine r_iconst hx hb dX11_test_29 (by decide) h (fun z54 h => ?_)
      exact r_iret hx hb hr hlocks hP hS dX11_test_30 h
  · refine r_bipush hx hb dX11_test_13 (by decide) h (fun z56 h => ?_)
    exact r_iret hx hb hr hlocks hP hS dX11_test_15 h
/-! TurningMilk$Trials.passesAll(I)Z -/
abbrev RM_X9_passesAll : Room := { frames := 5, cells := 0, slots := 0, locals := 129 }
def cw_X9_passesAll : Cond := Cond.code yX9_passesAll cX9_passesAll 3 (Option.some FieldType.boolean)
theorem hd_X9_passesAll : yX9_passesAll.cls ≠ "java/lang/invoke/MethodHandle" ∧ yX9_passesAll.cls ≠ "java/lang/invoke/VarHandle" ∧ (parseMethodDescriptor yX9_passesAll.desc).map (fun d => d.parameters.length) = some 1 := by decide +kernel
theorem dX9_passesAll_0 : decode cX9_passesAll 0 = .ok (.iconst 0, 1) := by decide +kernel
theorem dX9_passesAll_1 : decode cX9_passesAll 1 = .ok (.istore_n 2, 1) := by decide +kernel
theorem dX9_passesAll_2 : decode cX9_passesAll 2 = .ok (.iload_n 2, 1) := by decide +kernel
theorem dX9_passesAll_3 : decode cX9_passesAll 3 = .ok (.aload_n 0, 1) := by decide +kernel
theorem dX9_passesAll_4 : decode cX9_passesAll 4 = .ok (.getfield 15, 3) := by decide +kernel
theorem dX9_passesAll_7 : decode cX9_passesAll 7 = .ok (.getfield 76, 3) := by decide +kernel
theorem dX9_passesAll_10 : decode cX9_passesAll 10 = .ok (.if_icmp .ge 73, 3) := by decide +kernel
theorem dX9_passesAll_13 : decode cX9_passesAll 13 = .ok (.aload_n 0, 1) := by decide +kernel
theorem dX9_passesAll_14 : decode cX9_passesAll 14 = .ok (.getfield 19, 3) := by decide +kernel
theorem dX9_passesAll_17 : decode cX9_passesAll 17 = .ok (.iload_n 1, 1) := by decide +kernel
theorem dX9_passesAll_18 : decode cX9_passesAll 18 = .ok (.iconst 0, 1) := by decide +kernel
theorem dX9_passesAll_19 : decode cX9_passesAll 19 = .ok (.aload_n 0, 1) := by decide +kernel
theorem dX9_passesAll_20 : decode cX9_passesAll 20 = .ok (.getfield 15, 3) := by decide +kernel
theorem dX9_passesAll_23 : decode cX9_passesAll 23 = .ok (.getfield 79, 3) := by decide +kernel
theorem dX9_passesAll_26 : decode cX9_passesAll 26 = .ok (.iload_n 2, 1) := by decide +kernel
theorem dX9_passesAll_27 : decode cX9_passesAll 27 = .ok (.iaload, 1) := by decide +kernel
theorem dX9_passesAll_28 : decode cX9_passesAll 28 = .ok (.aload_n 0, 1) := by decide +kernel
theorem dX9_passesAll_29 : decode cX9_passesAll 29 = .ok (.getfield 15, 3) := by decide +kernel
theorem dX9_passesAll_32 : decode cX9_passesAll 32 = .ok (.getfield 82, 3) := by decide +kernel
theorem dX9_passesAll_35 : decode cX9_passesAll 35 = .ok (.iload_n 2, 1) := by decide +kernel
theorem dX9_passesAll_36 : decode cX9_passesAll 36 = .ok (.iaload, 1) := by decide +kernel
theorem dX9_passesAll_37 : decode cX9_passesAll 37 = .ok (.invokevirtual 35, 3) := by decide +kernel
theorem dX9_passesAll_40 : decode cX9_passesAll 40 = .ok (.aload_n 0, 1) := by decide +kernel
theorem dX9_passesAll_41 : decode cX9_passesAll 41 = .ok (.getfield 19, 3) := by decide +kernel
theorem dX9_passesAll_44 : decode cX9_passesAll 44 = .ok (.aload_n 0, 1) := by decide +kernel
theorem dX9_passesAll_45 : decode cX9_passesAll 45 = .ok (.getfield 15, 3) := by decide +kernel
theorem dX9_passesAll_48 : decode cX9_passesAll 48 = .ok (.getfield 85, 3) := by decide +kernel
theorem dX9_passesAll_51 : decode cX9_passesAll 51 = .ok (.iload_n 2, 1) := by decide +kernel
theorem dX9_passesAll_52 : decode cX9_passesAll 52 = .ok (.iaload, 1) := by decide +kernel
theorem dX9_passesAll_53 : decode cX9_passesAll 53 = .ok (.invokevirtual 53, 3) := by decide +kernel
theorem dX9_passesAll_56 : decode cX9_passesAll 56 = .ok (.aload_n 0, 1) := by decide +kernel
theorem dX9_passesAll_57 : decode cX9_passesAll 57 = .ok (.getfield 19, 3) := by decide +kernel
theorem dX9_passesAll_60 : decode cX9_passesAll 60 = .ok (.getfield 60, 3) := by decide +kernel
theorem dX9_passesAll_63 : decode cX9_passesAll 63 = .ok (.aload_n 0, 1) := by decide +kernel
theorem dX9_passesAll_64 : decode cX9_passesAll 64 = .ok (.getfield 15, 3) := by decide +kernel
theorem dX9_passesAll_67 : decode cX9_passesAll 67 = .ok (.getfield 88, 3) := by decide +kernel
theorem dX9_passesAll_70 : decode cX9_passesAll 70 = .ok (.iload_n 2, 1) := by decide +kernel
theorem dX9_passesAll_71 : decode cX9_passesAll 71 = .ok (.iaload, 1) := by decide +kernel
theorem dX9_passesAll_72 : decode cX9_passesAll 72 = .ok (.if_icmp .eq 5, 3) := by decide +kernel
theorem dX9_passesAll_75 : decode cX9_passesAll 75 = .ok (.iconst 0, 1) := by decide +kernel
theorem dX9_passesAll_76 : decode cX9_passesAll 76 = .ok (.ireturn, 1) := by decide +kernel
theorem dX9_passesAll_77 : decode cX9_passesAll 77 = .ok (.iinc 2 1, 3) := by decide +kernel
theorem dX9_passesAll_80 : decode cX9_passesAll 80 = .ok (.goto (-78), 3) := by decide +kernel
theorem dX9_passesAll_83 : decode cX9_passesAll 83 = .ok (.iconst 1, 1) := by decide +kernel
theorem dX9_passesAll_84 : decode cX9_passesAll 84 = .ok (.ireturn, 1) := by decide +kernel
def wp_X9_passesAll_2 (S : Sh) (post : Int → Mm → Prop) : Nat → Int → Int → Int → Mm → Prop
  | 0, _, _, _, _ => False
  | n + 1, u0, u1, u2, M => wGetR S M u0 9 0 fun v1 => wGet S M v1 4 4 fun v3 => wIf (v3 ≤ u2) (wC 1 fun v5 => (v5 = 0 ∨ v5 = 1) ∧ post v5 M) (wGetR S M u0 9 1 fun v7 => wC 0 fun v9 => wGetR S M u0 9 0 fun v11 => wGetR S M v11 4 5 fun v13 => wLd S M v13 14 u2 fun v15 => wGetR S M u0 9 0 fun v17 => wGetR S M v17 4 7 fun v19 => wLd S M v19 14 u2 fun v21 => isK S v7 10 ∧ (wp_X10_suppose S M v7 u1 v9 v15 v21 <| fun M23 => wGetR S M23 u0 9 1 fun v24 => wGetR S M23 u0 9 0 fun v26 => wGetR S M23 v26 4 6 fun v28 => wLd S M23 v28 14 u2 fun v30 => isK S v24 10 ∧ (wp_X10_holdFor S M23 v24 v30 <| fun M32 => wGetR S M32 u0 9 1 fun v33 => wGet S M32 v33 10 6 fun v35 => wGetR S M32 u0 9 0 fun v37 => wGetR S M32 v37 4 8 fun v39 => wLd S M32 v39 14 u2 fun v41 => wIf (v35 = v41) (wA u2 1 fun v43 => wp_X9_passesAll_2 S post n u0 u1 v43 M32) (wC 0 fun v45 => (v45 = 0 ∨ v45 = 1) ∧ post v45 M32))))
def wp_X9_passesAll (S : Sh) (M : Mm) (u0 : Int) (u1 : Int) (post : Int → Mm → Prop) : Prop := wC 0 fun v47 => ∃ n9 : Nat, wp_X9_passesAll_2 S post n9 u0 u1 v47 M
set_option maxHeartbeats 4000000 in
set_option maxRecDepth 100000 in
theorem t_X9_passesAll_2 {p : Program} {l : Launch} {e : Env} {s : State} {m : MethodId} {args : Array Value} {below : List Frame} {meth : Method} {c : Code} {D : va_G} {G : Gt} {S : Sh} {post : Int → Mm → Prop} (C : Cx p s m args meth c D G cX9_passesAll 3 (some .boolean) (cw_X9_passesAll :: gw) RX9) : ∀ (n : Nat) (xl0 : Int) (zl1 : Int32) (zl2 : Int32) (M : Mm) (H : Heap) (locs : List Loc) (ls : Array Slot), Wd D G S M H → va_S (aG G) s.heap H locs → lv_has ls 3 [(0, .ref (adr G xl0)), (1, .int zl1), (2, .int zl2)] → wp_X9_passesAll_2 S post n xl0 zl1.toInt zl2.toInt  M → W p l e RM_X9_passesAll s m args below meth c H locs 0 0 (MQ below (QI D G S post) args s 0 0 (aG G)) (F0 m 2 ls []) := by
  obtain ⟨hx, hb, hr, hlocks, hml, hown, hts, hK⟩ := id C
  intro n
  induction n with
  | zero => intro xl0 zl1 zl2 M H locs ls hP hS hl h; exact h.elim
  | succ n ih =>
    intro xl0 zl1 zl2 M H locs ls hP hS hl h
    unfold wp_X9_passesAll_2 at h
    refine lv_iload_n hx hb dX9_passesAll_2 rfl (lv_at hl 2 rfl) ?_
    refine lv_aload_n hx hb dX9_passesAll_3 rfl (lv_at hl 0 rfl) ?_
    refine r_getr (C := RX9) (T := TX9) (N := 5) hx hb hts (fun w h => List.mem_cons_of_mem _ (iX9 w h)) hown hK hP rfl (by decide) rfl 0 (by decide) (hts _ (List.mem_cons_of_mem _ kw_471)) (fun _ h9 => h9) dX9_passesAll_4 (by decide) h (fun x2 h => ?_)
    refine r_getiN (C := RX4) (T := TX4) (N := 10) hx hb hts (fun w h => List.mem_cons_of_mem _ (iX4 w h)) hown hK hP rfl (by decide) rfl 4 (by decide) (nw_76 hK) (fun _ h9 => h9) dX9_passesAll_7 (by decide) h (fun z4 h => ?_)
    refine r_icmp_ge (tgt := 83) hx hb dX9_passesAll_10 (by decide) h (fun h => ?_) (fun h => ?_)
    · refine r_iconst hx hb dX9_passesAll_83 (by decide) h (fun z6 h => ?_)
      exact r_zret hx hb hr hlocks hP hS dX9_passesAll_84 h
    · refine lv_aload_n hx hb dX9_passesAll_13 rfl (lv_at hl 0 rfl) ?_
      refine r_getr (C := RX9) (T := TX9) (N := 5) hx hb hts (fun w h => List.mem_cons_of_mem _ (iX9 w h)) hown hK hP rfl (by decide) rfl 1 (by decide) (hts _ (List.mem_cons_of_mem _ kw_472)) (fun _ h9 => h9) dX9_passesAll_14 (by decide) h (fun x8 h => ?_)
      refine lv_iload_n hx hb dX9_passesAll_17 rfl (lv_at hl 1 rfl) ?_
      refine r_iconst hx hb dX9_passesAll_18 (by decide) h (fun z10 h => ?_)
      refine lv_aload_n hx hb dX9_passesAll_19 rfl (lv_at hl 0 rfl) ?_
      refine r_getr (C := RX9) (T := TX9) (N := 5) hx hb hts (fun w h => List.mem_cons_of_mem _ (iX9 w h)) hown hK hP rfl (by decide) rfl 0 (by decide) (hts _ (List.mem_cons_of_mem _ kw_471)) (fun _ h9 => h9) dX9_passesAll_20 (by decide) h (fun x12 h => ?_)
      refine r_getrN (C := RX4) (T := TX4) (N := 10) hx hb hts (fun w h => List.mem_cons_of_mem _ (iX4 w h)) hown hK hP rfl (by decide) rfl 5 (by decide) (nw_78 hK) (fun _ h9 => h9) dX9_passesAll_23 (by decide) h (fun x14 h => ?_)
      refine lv_iload_n hx hb dX9_passesAll_26 rfl (lv_at hl 2 rfl) ?_
      refine r_iald hx hb hK hP dX9_passesAll_27 h (fun z16 h => ?_)
      refine lv_aload_n hx hb dX9_passesAll_28 rfl (lv_at hl 0 rfl) ?_
      refine r_getr (C := RX9) (T := TX9) (N := 5) hx hb hts (fun w h => List.mem_cons_of_mem _ (iX9 w h)) hown hK hP rfl (by decide) rfl 0 (by decide) (hts _ (List.mem_cons_of_mem _ kw_471)) (fun _ h9 => h9) dX9_passesAll_29 (by decide) h (fun x18 h => ?_)
      refine r_getrN (C := RX4) (T := TX4) (N := 10) hx hb hts (fun w h => List.mem_cons_of_mem _ (iX4 w h)) hown hK hP rfl (by decide) rfl 7 (by decide) (nw_80 hK) (fun _ h9 => h9) dX9_passesAll_32 (by decide) h (fun x20 h => ?_)
      refine lv_iload_n hx hb dX9_passesAll_35 rfl (lv_at hl 2 rfl) ?_
      refine r_iald hx hb hK hP dX9_passesAll_36 h (fun z22 h => ?_)
      refine q_Vv hx hb hml hown hts hK hP hS (c_X10_suppose l D G S _ x8 zl1 z10 z16 z22 _ h.2) ⟨callB_of 4 hts (gw_good kw_1091) rfl rfl rfl (hts _ (List.mem_cons_of_mem _ kw_9)) (hts _ (List.mem_cons_of_mem _ kw_1187)) hd_X10_suppose ⟨Nat.le_of_ble_eq_true rfl, Nat.le_of_ble_eq_true rfl⟩, (hts _ (List.mem_cons_of_mem _ kw_1089)), (hts _ (List.mem_cons_of_mem _ kw_1090))⟩ h.1 (ci := 10) rfl (by decide) rfl hl.1 rfl (lv_room (Nat.le_of_ble_eq_true rfl)) dX9_passesAll_37 ⟨Nat.zero_le _, Nat.zero_le _⟩ (fun M23 H locs h hP hS => ?_)
      refine lv_aload_n hx hb dX9_passesAll_40 rfl (lv_at hl 0 rfl) ?_
      refine r_getr (C := RX9) (T := TX9) (N := 5) hx hb hts (fun w h => List.mem_cons_of_mem _ (iX9 w h)) hown hK hP rfl (by decide) rfl 1 (by decide) (hts _ (List.mem_cons_of_mem _ kw_472)) (fun _ h9 => h9) dX9_passesAll_41 (by decide) h (fun x25 h => ?_)
      refine lv_aload_n hx hb dX9_passesAll_44 rfl (lv_at hl 0 rfl) ?_
      refine r_getr (C := RX9) (T := TX9) (N := 5) hx hb hts (fun w h => List.mem_cons_of_mem _ (iX9 w h)) hown hK hP rfl (by decide) rfl 0 (by decide) (hts _ (List.mem_cons_of_mem _ kw_471)) (fun _ h9 => h9) dX9_passesAll_45 (by decide) h (fun x27 h => ?_)
      refine r_getrN (C := RX4) (T := TX4) (N := 10) hx hb hts (fun w h => List.mem_cons_of_mem _ (iX4 w h)) hown hK hP rfl (by decide) rfl 6 (by decide) (nw_79 hK) (fun _ h9 => h9) dX9_passesAll_48 (by decide) h (fun x29 h => ?_)
      refine lv_iload_n hx hb dX9_passesAll_51 rfl (lv_at hl 2 rfl) ?_
      refine r_iald hx hb hK hP dX9_passesAll_52 h (fun z31 h => ?_)
      refine q_Vv hx hb hml hown hts hK hP hS (c_X10_holdFor l D G S _ x25 z31 _ h.2) ⟨callB_of 1 hts (gw_good kw_1095) rfl rfl rfl (hts _ (List.mem_cons_of_mem _ kw_9)) (hts _ (List.mem_cons_of_mem _ kw_1188)) hd_X10_holdFor ⟨Nat.le_of_ble_eq_true rfl, Nat.le_of_ble_eq_true rfl⟩, (hts _ (List.mem_cons_of_mem _ kw_1093)), (hts _ (List.mem_cons_of_mem _ kw_1094))⟩ h.1 (ci := 10) rfl (by decide) rfl hl.1 rfl (lv_room (Nat.le_of_ble_eq_true rfl)) dX9_passesAll_53 ⟨Nat.zero_le _, Nat.zero_le _⟩ (fun M32 H locs h hP hS => ?_)
      refine lv_aload_n hx hb dX9_passesAll_56 rfl (lv_at hl 0 rfl) ?_
      refine r_getr (C := RX9) (T := TX9) (N := 5) hx hb hts (fun w h => List.mem_cons_of_mem _ (iX9 w h)) hown hK hP rfl (by decide) rfl 1 (by decide) (hts _ (List.mem_cons_of_mem _ kw_472)) (fun _ h9 => h9) dX9_passesAll_57 (by decide) h (fun x34 h => ?_)
      refine r_getiN (C := RX10) (T := TX10) (N := 12) hx hb hts (fun w h => List.mem_cons_of_mem _ (iX10 w h)) hown hK hP rfl (by decide) rfl 6 (by decide) (nw_90 hK) (fun _ h9 => h9) dX9_passesAll_60 (by decide) h (fun z36 h => ?_)
      refine lv_aload_n hx hb dX9_passesAll_63 rfl (lv_at hl 0 rfl) ?_
      refine r_getr (C := RX9) (T := TX9) (N := 5) hx hb hts (fun w h => List.mem_cons_of_mem _ (iX9 w h)) hown hK hP rfl (by decide) rfl 0 (by decide) (hts _ (List.mem_cons_of_mem _ kw_471)) (fun _ h9 => h9) dX9_passesAll_64 (by decide) h (fun x38 h => ?_)
      refine r_getrN (C := RX4) (T := TX4) (N := 10) hx hb hts (fun w h => List.mem_cons_of_mem _ (iX4 w h)) hown hK hP rfl (by decide) rfl 8 (by decide) (nw_81 hK) (fun _ h9 => h9) dX9_passesAll_67 (by decide) h (fun x40 h => ?_)
      refine lv_iload_n hx hb dX9_passesAll_70 rfl (lv_at hl 2 rfl) ?_
      refine r_iald hx hb hK hP dX9_passesAll_71 h (fun z42 h => ?_)
      refine r_icmp_eq (tgt := 77) hx hb dX9_passesAll_72 (by decide) h (fun h => ?_) (fun h => ?_)
      · refine r_iinc hx hb (fun z44 => [(2, .int z44), (0, .ref (adr G xl0)), (1, .int zl1)]) dX9_passesAll_77 (by decide) hl (k := 2) rfl (by decide) (fun _ => rfl) h (fun z44 ls hl h => ?_)
        refine lv_goto (tgt := 2) hx hb dX9_passesAll_80 (by decide) ?_
        exact ih xl0 zl1 z44 _ _ _ _ hP hS (lv_sub hl [1, 2, 0] rfl) h
      · refine r_iconst hx hb dX9_passesAll_75 (by decide) h (fun z46 h => ?_)
        exact r_zret hx hb hr hlocks hP hS dX9_passesAll_76 h
set_option maxHeartbeats 4000000 in
set_option maxRecDepth 100000 in
theorem c_X9_passesAll (l : Launch) (D : va_G) (G : Gt) (S : Sh) (M : Mm) (xl0 : Int) (zl1 : Int32) (post : Int → Mm → Prop) (h : wp_X9_passesAll S M xl0 zl1.toInt post) : Met l yX9_passesAll (cw_X9_passesAll :: gw) RM_X9_passesAll (va_Pc [.ref (adr G xl0), .int zl1] (fun U => KN D G U ∧ Wd D G S M U.heap)) (QI D G S post) 0 0 (aG G) := by
  refine Met.ofW (cc := cX9_passesAll) (maxL := 3) (ret := (some .boolean)) (by decide) rfl ?_
  intro p e s m args below meth c s₁ B hml hv
  obtain ⟨rfl, hK, hP⟩ := hv
  have hx := B.exec
  have hb := B.bytes
  have hr := B.returns
  have hts := atoms_spec (ws := cw_X9_passesAll :: gw) B.pre
  have hown : s.vm.findClass RX9 = some m.cls := findClass_of_methodNamed B.named
  have hlocks := B.notSynchronized
  have hS : va_S (aG G) s.heap s.heap [] := va_S.rf
  have C : Cx p s m ([.ref (adr G xl0), .int zl1] : List Value).toArray meth c D G cX9_passesAll 3 (some .boolean) (cw_X9_passesAll :: gw) RX9 := ⟨hx, hb, hr, hlocks, hml, hown, hts, hK⟩
  have hl := lv_entry ([.ref (adr G xl0), .int zl1]) (n := 3) (Nat.le_of_ble_eq_true rfl)
  rw [lg_entry_eq]
  generalize (lg_sl ([.ref (adr G xl0), .int zl1]) ++ List.replicate (3 - (lg_sl ([.ref (adr G xl0), .int zl1])).length) Slot.unset).toArray = ls at hl ⊢
  have hl : lv_has ls 3 [(0, .ref (adr G xl0)), (1, .int zl1)] := hl
  unfold wp_X9_passesAll at h
  refine r_iconst hx hb dX9_passesAll_0 (by decide) h (fun z48 h => ?_)
  refine lv_istore_n (lv' := [(2, .int z48), (0, .ref (adr G xl0)), (1, .int zl1)]) hx hb dX9_passesAll_1 rfl hl (by decide) rfl (fun ls hl => ?_)
  obtain ⟨n9, h⟩ := h
  exact t_X9_passesAll_2 C n9 xl0 zl1 z48 _ _ _ _ hP hS (lv_sub hl [1, 2, 0] rfl) h
/-! TurningMilk$Trials.handsByTests()I -/
abbrev RM_X9_handsByTests : Room := { frames := 6, cells := 0, slots := 0, locals := 151 }
def cw_X9_handsByTests : Cond := Cond.code yX9_handsByTests cX9_handsByTests 3 (Option.some FieldType.int)
theorem hd_X9_handsByTests : yX9_handsByTests.cls ≠ "java/lang/invoke/MethodHandle" ∧ yX9_handsByTests.cls ≠ "java/lang/invoke/VarHandle" ∧ (parseMethodDescriptor yX9_handsByTests.desc).map (fun d => d.parameters.length) = some 0 := by decide +kernel
theorem dX9_handsByTests_0 : decode cX9_handsByTests 0 = .ok (.iconst 0, 1) := by decide +kernel
theorem dX9_handsByTests_1 : decode cX9_handsByTests 1 = .ok (.istore_n 1, 1) := by decide +kernel
theorem dX9_handsByTests_2 : decode cX9_handsByTests 2 = .ok (.iconst 0, 1) := by decide +kernel
theorem dX9_handsByTests_3 : decode cX9_handsByTests 3 = .ok (.istore_n 2, 1) := by decide +kernel
theorem dX9_handsByTests_4 : decode cX9_handsByTests 4 = .ok (.iload_n 2, 1) := by decide +kernel
theorem dX9_handsByTests_5 : decode cX9_handsByTests 5 = .ok (.aload_n 0, 1) := by decide +kernel
theorem dX9_handsByTests_6 : decode cX9_handsByTests 6 = .ok (.getfield 15, 3) := by decide +kernel
theorem dX9_handsByTests_9 : decode cX9_handsByTests 9 = .ok (.getfield 63, 3) := by decide +kernel
theorem dX9_handsByTests_12 : decode cX9_handsByTests 12 = .ok (.getfield 67, 3) := by decide +kernel
theorem dX9_handsByTests_15 : decode cX9_handsByTests 15 = .ok (.if_icmp .ge 23, 3) := by decide +kernel
theorem dX9_handsByTests_18 : decode cX9_handsByTests 18 = .ok (.aload_n 0, 1) := by decide +kernel
theorem dX9_handsByTests_19 : decode cX9_handsByTests 19 = .ok (.iload_n 2, 1) := by decide +kernel
theorem dX9_handsByTests_20 : decode cX9_handsByTests 20 = .ok (.invokevirtual 72, 3) := by decide +kernel
theorem dX9_handsByTests_23 : decode cX9_handsByTests 23 = .ok (.ifCond .eq 9, 3) := by decide +kernel
theorem dX9_handsByTests_26 : decode cX9_handsByTests 26 = .ok (.iload_n 1, 1) := by decide +kernel
theorem dX9_handsByTests_27 : decode cX9_handsByTests 27 = .ok (.iconst 1, 1) := by decide +kernel
theorem dX9_handsByTests_28 : decode cX9_handsByTests 28 = .ok (.iload_n 2, 1) := by decide +kernel
theorem dX9_handsByTests_29 : decode cX9_handsByTests 29 = .ok (.ishl, 1) := by decide +kernel
theorem dX9_handsByTests_30 : decode cX9_handsByTests 30 = .ok (.ior, 1) := by decide +kernel
theorem dX9_handsByTests_31 : decode cX9_handsByTests 31 = .ok (.istore_n 1, 1) := by decide +kernel
theorem dX9_handsByTests_32 : decode cX9_handsByTests 32 = .ok (.iinc 2 1, 3) := by decide +kernel
theorem dX9_handsByTests_35 : decode cX9_handsByTests 35 = .ok (.goto (-31), 3) := by decide +kernel
theorem dX9_handsByTests_38 : decode cX9_handsByTests 38 = .ok (.iload_n 1, 1) := by decide +kernel
theorem dX9_handsByTests_39 : decode cX9_handsByTests 39 = .ok (.ireturn, 1) := by decide +kernel
def wp_X9_handsByTests_32 (S : Sh) (k4 : Int → Int → Int → Mm → Prop) (post : Int → Mm → Prop) (u0 : Int) (u1 : Int) (u2 : Int) (M : Mm) : Prop := wA u2 1 fun v1 => k4 u0 u1 v1 M
def wp_X9_handsByTests_4 (S : Sh) (post : Int → Mm → Prop) : Nat → Int → Int → Int → Mm → Prop
  | 0, _, _, _, _ => False
  | n + 1, u0, u1, u2, M => wGetR S M u0 9 0 fun v3 => wGetR S M v3 4 0 fun v5 => wGet S M v5 8 4 fun v7 => wIf (v7 ≤ u2) (post u1 M) (isK S u0 9 ∧ (wp_X9_passesAll S M u0 u2 <| fun v10 M9 => wIf (v10 = 0) (wp_X9_handsByTests_32 S (fun a0 a1 a2 M => wp_X9_handsByTests_4 S post n a0 a1 a2 M) post u0 u1 u2 M9) (wC 1 fun v12 => wO iShl v12 u2 fun v14 => wO iOr u1 v14 fun v16 => wp_X9_handsByTests_32 S (fun a0 a1 a2 M => wp_X9_handsByTests_4 S post n a0 a1 a2 M) post u0 v16 u2 M9)))
def wp_X9_handsByTests (S : Sh) (M : Mm) (u0 : Int) (post : Int → Mm → Prop) : Prop := wC 0 fun v18 => wC 0 fun v20 => ∃ n9 : Nat, wp_X9_handsByTests_4 S post n9 u0 v18 v20 M
set_option maxHeartbeats 4000000 in
set_option maxRecDepth 100000 in
theorem t_X9_handsByTests_32 {p : Program} {l : Launch} {e : Env} {s : State} {m : MethodId} {args : Array Value} {below : List Frame} {meth : Method} {c : Code} {D : va_G} {G : Gt} {S : Sh} {post : Int → Mm → Prop} {k4 : Int → Int → Int → Mm → Prop} (C : Cx p s m args meth c D G cX9_handsByTests 3 (some .int) (cw_X9_handsByTests :: gw) RX9) (hk4 : ∀ (y0 : Int) (y1 : Int32) (y2 : Int32) (M : Mm) (H : Heap) (locs : List Loc) (ls : Array Slot), Wd D G S M H → va_S (aG G) s.heap H locs → lv_has ls 3 [(0, .ref (adr G y0)), (1, .int y1), (2, .int y2)] → k4 y0 y1.toInt y2.toInt M → W p l e RM_X9_handsByTests s m args below meth c H locs 0 0 (MQ below (QI D G S post) args s 0 0 (aG G)) (F0 m 4 ls [])) : ∀ (xl0 : Int) (zl1 : Int32) (zl2 : Int32) (M : Mm) (H : Heap) (locs : List Loc) (ls : Array Slot), Wd D G S M H → va_S (aG G) s.heap H locs → lv_has ls 3 [(0, .ref (adr G xl0)), (1, .int zl1), (2, .int zl2)] → wp_X9_handsByTests_32 S k4 post xl0 zl1.toInt zl2.toInt  M → W p l e RM_X9_handsByTests s m args below meth c H locs 0 0 (MQ below (QI D G S post) args s 0 0 (aG G)) (F0 m 32 ls []) := by
  obtain ⟨hx, hb, hr, hlocks, hml, hown, hts, hK⟩ := id C
  intro xl0 zl1 zl2 M H locs ls hP hS hl h
  unfold wp_X9_handsByTests_32 at h
  refine r_iinc hx hb (fun z2 => [(2, .int z2), (0, .ref (adr G xl0)), (1, .int zl1)]) dX9_handsByTests_32 (by decide) hl (k := 2) rfl (by decide) (fun _ => rfl) h (fun z2 ls hl h => ?_)
  refine lv_goto (tgt := 4) hx hb dX9_handsByTests_35 (by decide) ?_
  exact hk4 xl0 zl1 z2 _ _ _ _ hP hS (lv_sub hl [1, 2, 0] rfl) h
set_option maxHeartbeats 4000000 in
set_option maxRecDepth 100000 in
theorem t_X9_handsByTests_4 {p : Program} {l : Launch} {e : Env} {s : State} {m : MethodId} {args : Array Value} {below : List Frame} {meth : Method} {c : Code} {D : va_G} {G : Gt} {S : Sh} {post : Int → Mm → Prop} (C : Cx p s m args meth c D G cX9_handsByTests 3 (some .int) (cw_X9_handsByTests :: gw) RX9) : ∀ (n : Nat) (xl0 : Int) (zl1 : Int32) (zl2 : Int32) (M : Mm) (H : Heap) (locs : List Loc) (ls : Array Slot), Wd D G S M H → va_S (aG G) s.heap H locs → lv_has ls 3 [(0, .ref (adr G xl0)), (1, .int zl1), (2, .int zl2)] → wp_X9_handsByTests_4 S post n xl0 zl1.toInt zl2.toInt  M → W p l e RM_X9_handsByTests s m args below meth c H locs 0 0 (MQ below (QI D G S post) args s 0 0 (aG G)) (F0 m 4 ls []) := by
  obtain ⟨hx, hb, hr, hlocks, hml, hown, hts, hK⟩ := id C
  intro n
  induction n with
  | zero => intro xl0 zl1 zl2 M H locs ls hP hS hl h; exact h.elim
  | succ n ih =>
    intro xl0 zl1 zl2 M H locs ls hP hS hl h
    unfold wp_X9_handsByTests_4 at h
    refine lv_iload_n hx hb dX9_handsByTests_4 rfl (lv_at hl 2 rfl) ?_
    refine lv_aload_n hx hb dX9_handsByTests_5 rfl (lv_at hl 0 rfl) ?_
    refine r_getr (C := RX9) (T := TX9) (N := 5) hx hb hts (fun w h => List.mem_cons_of_mem _ (iX9 w h)) hown hK hP rfl (by decide) rfl 0 (by decide) (hts _ (List.mem_cons_of_mem _ kw_471)) (fun _ h9 => h9) dX9_handsByTests_6 (by decide) h (fun x4 h => ?_)
    refine r_getrN (C := RX4) (T := TX4) (N := 10) hx hb hts (fun w h => List.mem_cons_of_mem _ (iX4 w h)) hown hK hP rfl (by decide) rfl 0 (by decide) (nw_71 hK) (fun _ h9 => h9) dX9_handsByTests_9 (by decide) h (fun x6 h => ?_)
    refine r_getiN (C := RX8) (T := TX8) (N := 19) hx hb hts (fun w h => List.mem_cons_of_mem _ (iX8 w h)) hown hK hP rfl (by decide) rfl 4 (by decide) (nw_13 hK) (fun _ h9 => h9) dX9_handsByTests_12 (by decide) h (fun z8 h => ?_)
    refine r_icmp_ge (tgt := 38) hx hb dX9_handsByTests_15 (by decide) h (fun h => ?_) (fun h => ?_)
    · refine lv_iload_n hx hb dX9_handsByTests_38 rfl (lv_at hl 1 rfl) ?_
      exact r_iret hx hb hr hlocks hP hS dX9_handsByTests_39 h
    · refine lv_aload_n hx hb dX9_handsByTests_18 rfl (lv_at hl 0 rfl) ?_
      refine lv_iload_n hx hb dX9_handsByTests_19 rfl (lv_at hl 2 rfl) ?_
      refine q_Vi hx hb hml hown hts hK hP hS (c_X9_passesAll l D G S _ xl0 zl2 _ h.2) ⟨callB_of 1 hts (gw_good kw_1213) rfl rfl rfl (hts _ (List.mem_cons_of_mem _ kw_13)) (hts _ (List.mem_cons_of_mem _ kw_1210)) hd_X9_passesAll ⟨Nat.le_of_ble_eq_true rfl, Nat.le_of_ble_eq_true rfl⟩, (hts _ (List.mem_cons_of_mem _ kw_1212)), (hts _ (List.mem_cons_of_mem _ kp_45))⟩ h.1 (ci := 9) rfl (by decide) rfl hl.1 rfl (lv_room (Nat.le_of_ble_eq_true rfl)) dX9_handsByTests_20 ⟨Nat.zero_le _, Nat.zero_le _⟩ (fun z11 M9 H locs h hP hS => ?_)
      refine r_if_eq (tgt := 32) hx hb dX9_handsByTests_23 (by decide) h (fun h => ?_) (fun h => ?_)
      · exact t_X9_handsByTests_32 C ih xl0 zl1 zl2 _ _ _ _ hP hS (lv_sub hl [0, 1, 2] rfl) h
      · refine lv_iload_n hx hb dX9_handsByTests_26 rfl (lv_at hl 1 rfl) ?_
        refine r_iconst hx hb dX9_handsByTests_27 (by decide) h (fun z13 h => ?_)
        refine lv_iload_n hx hb dX9_handsByTests_28 rfl (lv_at hl 2 rfl) ?_
        refine r_ishl hx hb dX9_handsByTests_29 h (fun z15 h => ?_)
        refine r_ior hx hb dX9_handsByTests_30 h (fun z17 h => ?_)
        refine lv_istore_n (lv' := [(1, .int z17), (0, .ref (adr G xl0)), (2, .int zl2)]) hx hb dX9_handsByTests_31 rfl hl (by decide) rfl (fun ls hl => ?_)
        exact t_X9_handsByTests_32 C ih xl0 z17 zl2 _ _ _ _ hP hS (lv_sub hl [1, 0, 2] rfl) h
set_option maxHeartbeats 4000000 in
set_option maxRecDepth 100000 in
theorem c_X9_handsByTests (l : Launch) (D : va_G) (G : Gt) (S : Sh) (M : Mm) (xl0 : Int) (post : Int → Mm → Prop) (h : wp_X9_handsByTests S M xl0 post) : Met l yX9_handsByTests (cw_X9_handsByTests :: gw) RM_X9_handsByTests (va_Pc [.ref (adr G xl0)] (fun U => KN D G U ∧ Wd D G S M U.heap)) (QI D G S post) 0 0 (aG G) := by
  refine Met.ofW (cc := cX9_handsByTests) (maxL := 3) (ret := (some .int)) (by decide) rfl ?_
  intro p e s m args below meth c s₁ B hml hv
  obtain ⟨rfl, hK, hP⟩ := hv
  have hx := B.exec
  have hb := B.bytes
  have hr := B.returns
  have hts := atoms_spec (ws := cw_X9_handsByTests :: gw) B.pre
  have hown : s.vm.findClass RX9 = some m.cls := findClass_of_methodNamed B.named
  have hlocks := B.notSynchronized
  have hS : va_S (aG G) s.heap s.heap [] := va_S.rf
  have C : Cx p s m ([.ref (adr G xl0)] : List Value).toArray meth c D G cX9_handsByTests 3 (some .int) (cw_X9_handsByTests :: gw) RX9 := ⟨hx, hb, hr, hlocks, hml, hown, hts, hK⟩
  have hl := lv_entry ([.ref (adr G xl0)]) (n := 3) (Nat.le_of_ble_eq_true rfl)
  rw [lg_entry_eq]
  generalize (lg_sl ([.ref (adr G xl0)]) ++ List.replicate (3 - (lg_sl ([.ref (adr G xl0)])).length) Slot.unset).toArray = ls at hl ⊢
  have hl : lv_has ls 3 [(0, .ref (adr G xl0))] := hl
  unfold wp_X9_handsByTests at h
  refine r_iconst hx hb dX9_handsByTests_0 (by decide) h (fun z19 h => ?_)
  refine lv_istore_n (lv' := [(1, .int z19), (0, .ref (adr G xl0))]) hx hb dX9_handsByTests_1 rfl hl (by decide) rfl (fun ls hl => ?_)
  refine r_iconst hx hb dX9_handsByTests_2 (by decide) h (fun z21 h => ?_)
  refine lv_istore_n (lv' := [(2, .int z21), (1, .int z19), (0, .ref (adr G xl0))]) hx hb dX9_handsByTests_3 rfl hl (by decide) rfl (fun ls hl => ?_)
  obtain ⟨n9, h⟩ := h
  exact t_X9_handsByTests_4 C n9 xl0 z19 z21 _ _ _ _ hP hS (lv_sub hl [2, 1, 0] rfl) h
