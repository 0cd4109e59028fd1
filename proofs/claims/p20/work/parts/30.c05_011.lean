theorem dX5_heldBits_21 : decode cX5_heldBits 21 = .ok (.iload_n 3, 1) := by decide +kernel
theorem dX5_heldBits_22 : decode cX5_heldBits 22 = .ok (.ishl, 1) := by decide +kernel
theorem dX5_heldBits_23 : decode cX5_heldBits 23 = .ok (.ior, 1) := by decide +kernel
theorem dX5_heldBits_24 : decode cX5_heldBits 24 = .ok (.istore_n 2, 1) := by decide +kernel
theorem dX5_heldBits_25 : decode cX5_heldBits 25 = .ok (.iinc 3 1, 3) := by decide +kernel
theorem dX5_heldBits_28 : decode cX5_heldBits 28 = .ok (.goto (-24), 3) := by decide +kernel
theorem dX5_heldBits_31 : decode cX5_heldBits 31 = .ok (.iload_n 2, 1) := by decide +kernel
theorem dX5_heldBits_32 : decode cX5_heldBits 32 = .ok (.ireturn, 1) := by decide +kernel
def wp_X5_heldBits_25 (S : Sh) (k4 : Int → Int → Int → Int → Mm → Prop) (post : Int → Mm → Prop) (u0 : Int) (u1 : Int) (u2 : Int) (u3 : Int) (M : Mm) : Prop := wA u3 1 fun v1 => k4 u0 u1 u2 v1 M
def wp_X5_heldBits_4 (S : Sh) (post : Int → Mm → Prop) : Nat → Int → Int → Int → Int → Mm → Prop
  | 0, _, _, _, _, _ => False
  | n + 1, u0, u1, u2, u3, M => wC 4 fun v3 => wIf (v3 ≤ u3) (post u2 M) (wGetR S M u0 5 6 fun v5 => wLd S M v5 14 u3 fun v7 => wIf (¬ v7 = u1) (wp_X5_heldBits_25 S (fun a0 a1 a2 a3 M => wp_X5_heldBits_4 S post n a0 a1 a2 a3 M) post u0 u1 u2 u3 M) (wC 1 fun v9 => wO iShl v9 u3 fun v11 => wO iOr u2 v11 fun v13 => wp_X5_heldBits_25 S (fun a0 a1 a2 a3 M => wp_X5_heldBits_4 S post n a0 a1 a2 a3 M) post u0 u1 v13 u3 M))
def wp_X5_heldBits (S : Sh) (M : Mm) (u0 : Int) (u1 : Int) (post : Int → Mm → Prop) : Prop := wC 0 fun v15 => wC 0 fun v17 => ∃ n9 : Nat, wp_X5_heldBits_4 S post n9 u0 u1 v15 v17 M
set_option maxHeartbeats 4000000 in
set_option maxRecDepth 100000 in
theorem t_X5_heldBits_25 {p : Program} {l : Launch} {e : Env} {s : State} {m : MethodId} {args : Array Value} {below : List Frame} {meth : Method} {c : Code} {D : va_G} {G : Gt} {S : Sh} {post : Int → Mm → Prop} {k4 : Int → Int → Int → Int → Mm → Prop} (C : Cx p s m args meth c D G cX5_heldBits 4 (some .int) (cw_X5_heldBits :: gw) RX5) (hk4 : ∀ (y0 : Int) (y1 : Int32) (y2 : Int32) (y3 : Int32) (M : Mm) (H : Heap) (locs : List Loc) (ls : Array Slot), Wd D G S M H → va_S (aG G) s.heap H locs → lv_has ls 4 [(0, .ref (adr G y0)), (1, .int y1), (2, .int y2), (3, .int y3)] → k4 y0 y1.toInt y2.toInt y3.toInt M → W p l e RM_X5_heldBits s m args below meth c H locs 0 0 (MQ below (QI D G S post) args s 0 0 (aG G)) (F0 m 4 ls [])) : ∀ (xl0 : Int) (zl1 : Int32) (zl2 : Int32) (zl3 : Int32) (M : Mm) (H : Heap) (locs : List Loc) (ls : Array Slot), Wd D G S M H → va_S (aG G) s.heap H locs → lv_has ls 4 [(0, .ref (adr G xl0)), (1, .int zl1), (2, .int zl2), (3, .int zl3)] → wp_X5_heldBits_25 S k4 post xl0 zl1.toInt zl2.toInt zl3.toInt  M → W p l e RM_X5_heldBits s m args below meth c H locs 0 0 (MQ below (QI D G S post) args s 0 0 (aG G)) (F0 m 25 ls []) := by
  obtain ⟨hx, hb, hr, hlocks, hml, hown, hts, hK⟩ := id C
  intro xl0 zl1 zl2 zl3 M H locs ls hP hS hl h
  unfold wp_X5_heldBits_25 at h
  refine r_iinc hx hb (fun z2 => [(3, .int z2), (0, .ref (adr G xl0)), (1, .int zl1), (2, .int zl2)]) dX5_heldBits_25 (by decide) hl (k := 3) rfl (by decide) (fun _ => rfl) h (fun z2 ls hl h => ?_)
  refine lv_goto (tgt := 4) hx hb dX5_heldBits_28 (by decide) ?_
  exact hk4 xl0 zl1 zl2 z2 _ _ _ _ hP hS (lv_sub hl [1, 2, 3, 0] rfl) h
set_option maxHeartbeats 4000000 in
set_option maxRecDepth 100000 in
theorem t_X5_heldBits_4 {p : Program} {l : Launch} {e : Env} {s : State} {m : MethodId} {args : Array Value} {below : List Frame} {meth : Method} {c : Code} {D : va_G} {G : Gt} {S : Sh} {post : Int → Mm → Prop} (C : Cx p s m args meth c D G cX5_heldBits 4 (some .int) (cw_X5_heldBits :: gw) RX5) : ∀ (n : Nat) (xl0 : Int) (zl1 : Int32) (zl2 : Int32) (zl3 : Int32) (M : Mm) (H : Heap) (locs : List Loc) (ls : Array Slot), Wd D G S M H → va_S (aG G) s.heap H locs → lv_has ls 4 [(0, .ref (adr G xl0)), (1, .int zl1), (2, .int zl2), (3, .int zl3)] → wp_X5_heldBits_4 S post n xl0 zl1.toInt zl2.toInt zl3.toInt  M → W p l e RM_X5_heldBits s m args below meth c H locs 0 0 (MQ below (QI D G S post) args s 0 0 (aG G)) (F0 m 4 ls []) := by
  obtain ⟨hx, hb, hr, hlocks, hml, hown, hts, hK⟩ := id C
  intro n
  induction n with
  | zero => intro xl0 zl1 zl2 zl3 M H locs ls hP hS hl h; exact h.elim
  | succ n ih =>
    intro xl0 zl1 zl2 zl3 M H locs ls hP hS hl h
    unfold wp_X5_heldBits_4 at h
    refine lv_iload_n hx hb dX5_heldBits_4 rfl (lv_at hl 3 rfl) ?_
    refine r_iconst hx hb dX5_heldBits_5 (by decide) h (fun z4 h => ?_)
    refine r_icmp_ge (tgt := 31) hx hb dX5_heldBits_6 (by decide) h (fun h => ?_) (fun h => ?_)
    · refine lv_iload_n hx hb dX5_heldBits_31 rfl (lv_at hl 2 rfl) ?_
      exact r_iret hx hb hr hlocks hP hS dX5_heldBits_32 h
    · refine lv_aload_n hx hb dX5_heldBits_9 rfl (lv_at hl 0 rfl) ?_
      refine r_getr (C := RX5) (T := TX5) (N := 9) hx hb hts (fun w h => List.mem_cons_of_mem _ (iX5 w h)) hown hK hP rfl (by decide) rfl 6 (by decide) (hts _ (List.mem_cons_of_mem _ kw_200)) (fun _ h9 => h9) dX5_heldBits_10 (by decide) h (fun x6 h => ?_)
      refine lv_iload_n hx hb dX5_heldBits_13 rfl (lv_at hl 3 rfl) ?_
      refine r_iald hx hb hK hP dX5_heldBits_14 h (fun z8 h => ?_)
      refine lv_iload_n hx hb dX5_heldBits_15 rfl (lv_at hl 1 rfl) ?_
      refine r_icmp_ne (tgt := 25) hx hb dX5_heldBits_16 (by decide) h (fun h => ?_) (fun h => ?_)
      · exact t_X5_heldBits_25 C ih xl0 zl1 zl2 zl3 _ _ _ _ hP hS (lv_sub hl [0, 1, 2, 3] rfl) h
      · refine lv_iload_n hx hb dX5_heldBits_19 rfl (lv_at hl 2 rfl) ?_
        refine r_iconst hx hb dX5_heldBits_20 (by decide) h (fun z10 h => ?_)
        refine lv_iload_n hx hb dX5_heldBits_21 rfl (lv_at hl 3 rfl) ?_
        refine r_ishl hx hb dX5_heldBits_22 h (fun z12 h => ?_)
        refine r_ior hx hb dX5_heldBits_23 h (fun z14 h => ?_)
        refine lv_istore_n (lv' := [(2, .int z14), (0, .ref (adr G xl0)), (1, .int zl1), (3, .int zl3)]) hx hb dX5_heldBits_24 rfl hl (by decide) rfl (fun ls hl => ?_)
        exact t_X5_heldBits_25 C ih xl0 zl1 z14 zl3 _ _ _ _ hP hS (lv_sub hl [1, 2, 0, 3] rfl) h
set_option maxHeartbeats 4000000 in
set_option maxRecDepth 100000 in
theorem c_X5_heldBits (l : Launch) (D : va_G) (G : Gt) (S : Sh) (M : Mm) (xl0 : Int) (zl1 : Int32) (post : Int → Mm → Prop) (h : wp_X5_heldBits S M xl0 zl1.toInt post) : Met l yX5_heldBits (cw_X5_heldBits :: gw) RM_X5_heldBits (va_Pc [.ref (adr G xl0), .int zl1] (fun U => KN D G U ∧ Wd D G S M U.heap)) (QI D G S post) 0 0 (aG G) := by
  refine Met.ofW (cc := cX5_heldBits) (maxL := 4) (ret := (some .int)) (by decide) rfl ?_
  intro p e s m args below meth c s₁ B hml hv
  obtain ⟨rfl, hK, hP⟩ := hv
  have hx := B.exec
  have hb := B.bytes
  have hr := B.returns
  have hts := atoms_spec (ws := cw_X5_heldBits :: gw) B.pre
  have hown : s.vm.findClass RX5 = some m.cls := findClass_of_methodNamed B.named
  have hlocks := B.notSynchronized
  have hS : va_S (aG G) s.heap s.heap [] := va_S.rf
  have C : Cx p s m ([.ref (adr G xl0), .int zl1] : List Value).toArray meth c D G cX5_heldBits 4 (some .int) (cw_X5_heldBits :: gw) RX5 := ⟨hx, hb, hr, hlocks, hml, hown, hts, hK⟩
  have hl := lv_entry ([.ref (adr G xl0), .int zl1]) (n := 4) (Nat.le_of_ble_eq_true rfl)
  rw [lg_entry_eq]
  generalize (lg_sl ([.ref (adr G xl0), .int zl1]) ++ List.replicate (4 - (lg_sl ([.ref (adr G xl0), .int zl1])).length) Slot.unset).toArray = ls at hl ⊢
  have hl : lv_has ls 4 [(0, .ref (adr G xl0)), (1, .int zl1)] := hl
  unfold wp_X5_heldBits at h
  refine r_iconst hx hb dX5_heldBits_0 (by decide) h (fun z16 h => ?_)
  refine lv_istore_n (lv' := [(2, .int z16), (0, .ref (adr G xl0)), (1, .int zl1)]) hx hb dX5_heldBits_1 rfl hl (by decide) rfl (fun ls hl => ?_)
  refine r_iconst hx hb dX5_heldBits_2 (by decide) h (fun z18 h => ?_)
  refine lv_istore_n (lv' := [(3, .int z18), (2, .int z16), (0, .ref (adr G xl0)), (1, .int zl1)]) hx hb dX5_heldBits_3 rfl hl (by decide) rfl (fun ls hl => ?_)
  obtain ⟨n9, h⟩ := h
  exact t_X5_heldBits_4 C n9 xl0 zl1 z16 z18 _ _ _ _ hP hS (lv_sub hl [2, 3, 1, 0] rfl) h
/-! TurningMilk.hand(II)I -/
abbrev RM_X11_hand : Room := { frames := 2, cells := 0, slots := 0, locals := 63 }
def cw_X11_hand : Cond := Cond.code yX11_hand cX11_hand 3 (Option.some FieldType.int)
theorem hd_X11_hand : yX11_hand.cls ≠ "java/lang/invoke/MethodHandle" ∧ yX11_hand.cls ≠ "java/lang/invoke/VarHandle" ∧ (parseMethodDescriptor yX11_hand.desc).map (fun d => d.parameters.length) = some 2 := by decide +kernel
theorem dX11_hand_0 : decode cX11_hand 0 = .ok (.aload_n 0, 1) := by decide +kernel
theorem dX11_hand_1 : decode cX11_hand 1 = .ok (.iload_n 1, 1) := by decide +kernel
theorem dX11_hand_2 : decode cX11_hand 2 = .ok (.invokevirtual 181, 3) := by decide +kernel
