/-! TurningMilkModel.fitsTests(I)Z -/
abbrev RM_X12_fitsTests : Room := { frames := 6, cells := 0, slots := 0, locals := 176 }
def cw_X12_fitsTests : Cond := Cond.code yX12_fitsTests cX12_fitsTests 4 (Option.some FieldType.boolean)
theorem hd_X12_fitsTests : yX12_fitsTests.cls ≠ "java/lang/invoke/MethodHandle" ∧ yX12_fitsTests.cls ≠ "java/lang/invoke/VarHandle" ∧ (parseMethodDescriptor yX12_fitsTests.desc).map (fun d => d.parameters.length) = some 1 := by decide +kernel
theorem dX12_fitsTests_0 : decode cX12_fitsTests 0 = .ok (.iconst 0, 1) := by decide +kernel
theorem dX12_fitsTests_1 : decode cX12_fitsTests 1 = .ok (.istore_n 2, 1) := by decide +kernel
theorem dX12_fitsTests_2 : decode cX12_fitsTests 2 = .ok (.iload_n 2, 1) := by decide +kernel
theorem dX12_fitsTests_3 : decode cX12_fitsTests 3 = .ok (.aload_n 0, 1) := by decide +kernel
theorem dX12_fitsTests_4 : decode cX12_fitsTests 4 = .ok (.getfield 39, 3) := by decide +kernel
theorem dX12_fitsTests_7 : decode cX12_fitsTests 7 = .ok (.sipush 157, 3) := by decide +kernel
theorem dX12_fitsTests_10 : decode cX12_fitsTests 10 = .ok (.iaload, 1) := by decide +kernel
theorem dX12_fitsTests_11 : decode cX12_fitsTests 11 = .ok (.if_icmp .ge 58, 3) := by decide +kernel
theorem dX12_fitsTests_14 : decode cX12_fitsTests 14 = .ok (.bipush 117, 2) := by decide +kernel
theorem dX12_fitsTests_16 : decode cX12_fitsTests 16 = .ok (.iconst 4, 1) := by decide +kernel
theorem dX12_fitsTests_17 : decode cX12_fitsTests 17 = .ok (.iload_n 2, 1) := by decide +kernel
theorem dX12_fitsTests_18 : decode cX12_fitsTests 18 = .ok (.imul, 1) := by decide +kernel
theorem dX12_fitsTests_19 : decode cX12_fitsTests 19 = .ok (.iadd, 1) := by decide +kernel
theorem dX12_fitsTests_20 : decode cX12_fitsTests 20 = .ok (.istore_n 3, 1) := by decide +kernel
theorem dX12_fitsTests_21 : decode cX12_fitsTests 21 = .ok (.aload_n 0, 1) := by decide +kernel
theorem dX12_fitsTests_22 : decode cX12_fitsTests 22 = .ok (.iload_n 1, 1) := by decide +kernel
theorem dX12_fitsTests_23 : decode cX12_fitsTests 23 = .ok (.iconst 0, 1) := by decide +kernel
theorem dX12_fitsTests_24 : decode cX12_fitsTests 24 = .ok (.aload_n 0, 1) := by decide +kernel
theorem dX12_fitsTests_25 : decode cX12_fitsTests 25 = .ok (.getfield 39, 3) := by decide +kernel
theorem dX12_fitsTests_28 : decode cX12_fitsTests 28 = .ok (.iload_n 3, 1) := by decide +kernel
theorem dX12_fitsTests_29 : decode cX12_fitsTests 29 = .ok (.iaload, 1) := by decide +kernel
theorem dX12_fitsTests_30 : decode cX12_fitsTests 30 = .ok (.aload_n 0, 1) := by decide +kernel
theorem dX12_fitsTests_31 : decode cX12_fitsTests 31 = .ok (.getfield 39, 3) := by decide +kernel
theorem dX12_fitsTests_34 : decode cX12_fitsTests 34 = .ok (.iload_n 3, 1) := by decide +kernel
theorem dX12_fitsTests_35 : decode cX12_fitsTests 35 = .ok (.iconst 1, 1) := by decide +kernel
theorem dX12_fitsTests_36 : decode cX12_fitsTests 36 = .ok (.iadd, 1) := by decide +kernel
theorem dX12_fitsTests_37 : decode cX12_fitsTests 37 = .ok (.iaload, 1) := by decide +kernel
theorem dX12_fitsTests_38 : decode cX12_fitsTests 38 = .ok (.aload_n 0, 1) := by decide +kernel
theorem dX12_fitsTests_39 : decode cX12_fitsTests 39 = .ok (.getfield 39, 3) := by decide +kernel
theorem dX12_fitsTests_42 : decode cX12_fitsTests 42 = .ok (.iload_n 3, 1) := by decide +kernel
theorem dX12_fitsTests_43 : decode cX12_fitsTests 43 = .ok (.iconst 2, 1) := by decide +kernel
theorem dX12_fitsTests_44 : decode cX12_fitsTests 44 = .ok (.iadd, 1) := by decide +kernel
theorem dX12_fitsTests_45 : decode cX12_fitsTests 45 = .ok (.iaload, 1) := by decide +kernel
theorem dX12_fitsTests_46 : decode cX12_fitsTests 46 = .ok (.iconst 0, 1) := by decide +kernel
theorem dX12_fitsTests_47 : decode cX12_fitsTests 47 = .ok (.invokevirtual 394, 3) := by decide +kernel
theorem dX12_fitsTests_50 : decode cX12_fitsTests 50 = .ok (.aload_n 0, 1) := by decide +kernel
theorem dX12_fitsTests_51 : decode cX12_fitsTests 51 = .ok (.getfield 39, 3) := by decide +kernel
theorem dX12_fitsTests_54 : decode cX12_fitsTests 54 = .ok (.iload_n 3, 1) := by decide +kernel
theorem dX12_fitsTests_55 : decode cX12_fitsTests 55 = .ok (.iconst 3, 1) := by decide +kernel
theorem dX12_fitsTests_56 : decode cX12_fitsTests 56 = .ok (.iadd, 1) := by decide +kernel
theorem dX12_fitsTests_57 : decode cX12_fitsTests 57 = .ok (.iaload, 1) := by decide +kernel
theorem dX12_fitsTests_58 : decode cX12_fitsTests 58 = .ok (.if_icmp .eq 5, 3) := by decide +kernel
theorem dX12_fitsTests_61 : decode cX12_fitsTests 61 = .ok (.iconst 0, 1) := by decide +kernel
theorem dX12_fitsTests_62 : decode cX12_fitsTests 62 = .ok (.ireturn, 1) := by decide +kernel
theorem dX12_fitsTests_63 : decode cX12_fitsTests 63 = .ok (.iinc 2 1, 3) := by decide +kernel
theorem dX12_fitsTests_66 : decode cX12_fitsTests 66 = .ok (.goto (-64), 3) := by decide +kernel
theorem dX12_fitsTests_69 : decode cX12_fitsTests 69 = .ok (.iconst 1, 1) := by decide +kernel
theorem dX12_fitsTests_70 : decode cX12_fitsTests 70 = .ok (.ireturn, 1) := by decide +kernel
def wp_X12_fitsTests_2 (S : Sh) (post : Int → Mm → Prop) : Nat → Int → Int → Int → Mm → Prop
  | 0, _, _, _, _ => False
  | n + 1, u0, u1, u2, M => wGetR S M u0 12 20 fun v1 => wC 157 fun v3 => wLd S M v1 14 v3 fun v5 => wIf (v5 ≤ u2) (wC 1 fun v7 => (v7 = 0 ∨ v7 = 1) ∧ post v7 M) (wC 117 fun v9 => wC 4 fun v11 => wM v11 u2 fun v13 => wA v9 v13 fun v15 => wC 0 fun v17 => wGetR S M u0 12 20 fun v19 => wLd S M v19 14 v15 fun v21 => wGetR S M u0 12 20 fun v23 => wC 1 fun v25 => wA v15 v25 fun v27 => wLd S M v23 14 v27 fun v29 => wGetR S M u0 12 20 fun v31 => wC 2 fun v33 => wA v15 v33 fun v35 => wLd S M v31 14 v35 fun v37 => wC 0 fun v39 => isK S u0 12 ∧ (wp_X12_turnedBy S M u0 u1 v17 v21 v29 v37 v39 <| fun v42 M41 => wGetR S M41 u0 12 20 fun v44 => wC 3 fun v46 => wA v15 v46 fun v48 => wLd S M41 v44 14 v48 fun v50 => wIf (v42 = v50) (wA u2 1 fun v52 => wp_X12_fitsTests_2 S post n u0 u1 v52 M41) (wC 0 fun v54 => (v54 = 0 ∨ v54 = 1) ∧ post v54 M41)))
def wp_X12_fitsTests (S : Sh) (M : Mm) (u0 : Int) (u1 : Int) (post : Int → Mm → Prop) : Prop := wC 0 fun v56 => ∃ n9 : Nat, wp_X12_fitsTests_2 S post n9 u0 u1 v56 M
set_option maxHeartbeats 4000000 in
set_option maxRecDepth 100000 in
theorem t_X12_fitsTests_2 {p : Program} {l : Launch} {e : Env} {s : State} {m : MethodId} {args : Array Value} {below : List Frame} {meth : Method} {c : Code} {D : va_G} {G : Gt} {S : Sh} {post : Int → Mm → Prop} (C : Cx p s m args meth c D G cX12_fitsTests 4 (some .boolean) (cw_X12_fitsTests :: gw) RX12) : ∀ (n : Nat) (xl0 : Int) (zl1 : Int32) (zl2 : Int32) (M : Mm) (H : Heap) (locs : List Loc) (ls : Array Slot), Wd D G S M H → va_S (aG G) s.heap H locs → lv_has ls 4 [(0, .ref (adr G xl0)), (1, .int zl1), (2, .int zl2)] → wp_X12_fitsTests_2 S post n xl0 zl1.toInt zl2.toInt  M → W p l e RM_X12_fitsTests s m args below meth c H locs 0 0 (MQ below (QI D G S post) args s 0 0 (aG G)) (F0 m 2 ls []) := by
  obtain ⟨hx, hb, hr, hlocks, hml, hown, hts, hK⟩ := id C
  intro n
  induction n with
  | zero => intro xl0 zl1 zl2 M H locs ls hP hS hl h; exact h.elim
  | succ n ih =>
    intro xl0 zl1 zl2 M H locs ls hP hS hl h
    unfold wp_X12_fitsTests_2 at h
    refine lv_iload_n hx hb dX12_fitsTests_2 rfl (lv_at hl 2 rfl) ?_
    refine lv_aload_n hx hb dX12_fitsTests_3 rfl (lv_at hl 0 rfl) ?_
    refine r_getr (C := RX12) (T := TX12) (N := 38) hx hb hts (fun w h => List.mem_cons_of_mem _ (iX12 w h)) hown hK hP rfl (by decide) rfl 20 (by decide) (hts _ (List.mem_cons_of_mem _ kw_1354)) (fun _ h9 => h9) dX12_fitsTests_4 (by decide) h (fun x2 h => ?_)
    refine r_sipush hx hb dX12_fitsTests_7 (by decide) h (fun z4 h => ?_)
    refine r_iald hx hb hK hP dX12_fitsTests_10 h (fun z6 h => ?_)
    refine r_icmp_ge (tgt := 69) hx hb dX12_fitsTests_11 (by decide) h (fun h => ?_) (fun h => ?_)
    · refine r_iconst hx hb dX12_fitsTests_69 (by decide) h (fun z8 h => ?_)
      exact r_zret hx hb hr hlocks hP hS dX12_fitsTests_70 h
    · refine r_bipush hx hb dX12_fitsTests_14 (by decide) h (fun z10 h => ?_)
      refine r_iconst hx hb dX12_fitsTests_16 (by decide) h (fun z12 h => ?_)
      refine lv_iload_n hx hb dX12_fitsTests_17 rfl (lv_at hl 2 rfl) ?_
      refine r_imul hx hb dX12_fitsTests_18 h (fun z14 h => ?_)
      refine r_iadd hx hb dX12_fitsTests_19 h (fun z16 h => ?_)
      refine lv_istore_n (lv' := [(3, .int z16), (0, .ref (adr G xl0)), (1, .int zl1), (2, .int zl2)]) hx hb dX12_fitsTests_20 rfl hl (by decide) rfl (fun ls hl => ?_)
      refine lv_aload_n hx hb dX12_fitsTests_21 rfl (lv_at hl 1 rfl) ?_
      refine lv_iload_n hx hb dX12_fitsTests_22 rfl (lv_at hl 2 rfl) ?_
      refine r_iconst hx hb dX12_fitsTests_23 (by decide) h (fun z18 h => ?_)
      refine lv_aload_n hx hb dX12_fitsTests_24 rfl (lv_at hl 1 rfl) ?_
      refine r_getr (C := RX12) (T := TX12) (N := 38) hx hb hts (fun w h => List.mem_cons_of_mem _ (iX12 w h)) hown hK hP rfl (by decide) rfl 20 (by decide) (hts _ (List.mem_cons_of_mem _ kw_1354)) (fun _ h9 => h9) dX12_fitsTests_25 (by decide) h (fun x20 h => ?_)
      refine lv_iload_n hx hb dX12_fitsTests_28 rfl (lv_at hl 0 rfl) ?_
      refine r_iald hx hb hK hP dX12_fitsTests_29 h (fun z22 h => ?_)
      refine lv_aload_n hx hb dX12_fitsTests_30 rfl (lv_at hl 1 rfl) ?_
      refine r_getr (C := RX12) (T := TX12) (N := 38) hx hb hts (fun w h => List.mem_cons_of_mem _ (iX12 w h)) hown hK hP rfl (by decide) rfl 20 (by decide) (hts _ (List.mem_cons_of_mem _ kw_1354)) (fun _ h9 => h9) dX12_fitsTests_31 (by decide) h (fun x24 h => ?_)
      refine lv_iload_n hx hb dX12_fitsTests_34 rfl (lv_at hl 0 rfl) ?_
      refine r_iconst hx hb dX12_fitsTests_35 (by decide) h (fun z26 h => ?_)
      refine r_iadd hx hb dX12_fitsTests_36 h (fun z28 h => ?_)
      refine r_iald hx hb hK hP dX12_fitsTests_37 h (fun z30 h => ?_)
      refine lv_aload_n hx hb dX12_fitsTests_38 rfl (lv_at hl 1 rfl) ?_
      refine r_getr (C := RX12) (T := TX12) (N := 38) hx hb hts (fun w h => List.mem_cons_of_mem _ (iX12 w h)) hown hK hP rfl (by decide) rfl 20 (by decide) (hts _ (List.mem_cons_of_mem _ kw_1354)) (fun _ h9 => h9) dX12_fitsTests_39 (by decide) h (fun x32 h => ?_)
      refine lv_iload_n hx hb dX12_fitsTests_42 rfl (lv_at hl 0 rfl) ?_
      refine r_iconst hx hb dX12_fitsTests_43 (by decide) h (fun z34 h => ?_)
      refine r_iadd hx hb dX12_fitsTests_44 h (fun z36 h => ?_)
      refine r_iald hx hb hK hP dX12_fitsTests_45 h (fun z38 h => ?_)
      refine r_iconst hx hb dX12_fitsTests_46 (by decide) h (fun z40 h => ?_)
      refine q_Vi hx hb hml hown hts hK hP hS (c_X12_turnedBy l D G S _ xl0 zl1 z18 z22 z30 z38 z40 _ h.2) ⟨callB_of 6 hts (gw_good kw_1829) rfl rfl rfl (hts _ (List.mem_cons_of_mem _ kw_14)) (hts _ (List.mem_cons_of_mem _ kw_1826)) hd_X12_turnedBy ⟨Nat.le_of_ble_eq_true rfl, Nat.le_of_ble_eq_true rfl⟩, (hts _ (List.mem_cons_of_mem _ kw_1828)), (hts _ (List.mem_cons_of_mem _ kp_118))⟩ h.1 (ci := 12) rfl (by decide) rfl hl.1 rfl (lv_room (Nat.le_of_ble_eq_true rfl)) dX12_fitsTests_47 ⟨Nat.zero_le _, Nat.zero_le _⟩ (fun z43 M41 H locs h hP hS => ?_)
      refine lv_aload_n hx hb dX12_fitsTests_50 rfl (lv_at hl 1 rfl) ?_
      refine r_getr (C := RX12) (T := TX12) (N := 38) hx hb hts (fun w h => List.mem_cons_of_mem _ (iX12 w h)) hown hK hP rfl (by decide) rfl 20 (by decide) (hts _ (List.mem_cons_of_mem _ kw_1354)) (fun _ h9 => h9) dX12_fitsTests_51 (by decide) h (fun x45 h => ?_)
      refine lv_iload_n hx hb dX12_fitsTests_54 rfl (lv_at hl 0 rfl) ?_
      refine r_iconst hx hb dX12_fitsTests_55 (by decide) h (fun z47 h => ?_)
      refine r_iadd hx hb dX12_fitsTests_56 h (fun z49 h => ?_)
      refine r_iald hx hb hK hP dX12_fitsTests_57 h (fun z51 h => ?_)
      refine r_icmp_eq (tgt := 63) hx hb dX12_fitsTests_58 (by decide) h (fun h => ?_) (fun h => ?_)
      · refine r_iinc hx hb (fun z53 => [(2, .int z53), (3, .int z16), (0, .ref (adr G xl0)), (1, .int zl1)]) dX12_fitsTests_63 (by decide) hl (k := 3) rfl (by decide) (fun _ => rfl) h (fun z53 ls hl h => ?_)
        refine lv_goto (tgt := 2) hx hb dX12_fitsTests_66 (by decide) ?_
        exact ih xl0 zl1 z53 _ _ _ _ hP hS (lv_sub hl [2, 3, 0] rfl) h
      · refine r_iconst hx hb dX12_fitsTests_61 (by decide) h (fun z55 h => ?_)
        exact r_zret hx hb hr hlocks hP hS dX12_fitsTests_62 h
set_option maxHeartbeats 4000000 in
set_option maxRecDepth 100000 in
theorem c_X12_fitsTests (l : Launch) (D : va_G) (G : Gt) (S : Sh) (M : Mm) (xl0 : Int) (zl1 : Int32) (post : Int → Mm → Prop) (h : wp_X12_fitsTests S M xl0 zl1.toInt post) : Met l yX12_fitsTests (cw_X12_fitsTests :: gw) RM_X12_fitsTests (va_Pc [.ref (adr G xl0), .int zl1] (fun U => KN D G U ∧ Wd D G S M U.heap)) (QI D G S post) 0 0 (aG G) := by
  refine Met.ofW (cc := cX12_fitsTests) (maxL := 4) (ret := (some .boolean)) (by decide) rfl ?_
  intro p e s m args below meth c s₁ B hml hv
  obtain ⟨rfl, hK, hP⟩ := hv
  have hx := B.exec
  have hb := B.bytes
  have hr := B.returns
  have hts := atoms_spec (ws := cw_X12_fitsTests :: gw) B.pre
  have hown : s.vm.findClass RX12 = some m.cls := findClass_of_methodNamed B.named
  have hlocks := B.notSynchronized
  have hS : va_S (aG G) s.heap s.heap [] := va_S.rf
  have C : Cx p s m ([.ref (adr G xl0), .int zl1] : List Value).toArray meth c D G cX12_fitsTests 4 (some .boolean) (cw_X12_fitsTests :: gw) RX12 := ⟨hx, hb, hr, hlocks, hml, hown, hts, hK⟩
  have hl := lv_entry ([.ref (adr G xl0), .int zl1]) (n := 4) (Nat.le_of_ble_eq_true rfl)
  rw [lg_entry_eq]
  generalize (lg_sl ([.ref (adr G xl0), .int zl1]) ++ List.replicate (4 - (lg_sl ([.ref (adr G xl0), .int zl1])).length) Slot.unset).toArray = ls at hl ⊢
  have hl : lv_has ls 4 [(0, .ref (adr G xl0)), (1, .int zl1)] := hl
  unfold wp_X12_fitsTests at h
  refine r_iconst hx hb dX12_fitsTests_0 (by decide) h (fun z57 h => ?_)
  refine lv_istore_n (lv' := [(2, .int z57), (0, .ref (adr G xl0)), (1, .int zl1)]) hx hb dX12_fitsTests_1 rfl hl (by decide) rfl (fun ls hl => ?_)
  obtain ⟨n9, h⟩ := h
  exact t_X12_fitsTests_2 C n9 xl0 zl1 z57 _ _ _ _ hP hS (lv_sub hl [1, 2, 0] rfl) h
/-! TurningMilkModel.fitting()I -/
abbrev RM_X12_fitting : Room := { frames := 7, cells := 0, slots := 0, locals := 199 }
def cw_X12_fitting : Cond := Cond.code yX12_fitting cX12_fitting 3 (Option.some FieldType.int)
theorem hd_X12_fitting : yX12_fitting.cls ≠ "java/lang/invoke/MethodHandle" ∧ yX12_fitting.cls ≠ "java/lang/invoke/VarHandle" ∧ (parseMethodDescriptor yX12_fitting.desc).map (fun d => d.parameters.length) = some 0 := by decide +kernel
theorem dX12_fitting_0 : decode cX12_fitting 0 = .ok (.iconst 0, 1) := by decide +kernel
theorem dX12_fitting_1 : decode cX12_fitting 1 = .ok (.istore_n 1, 1) := by decide +kernel
theorem dX12_fitting_2 : decode cX12_fitting 2 = .ok (.iconst 0, 1) := by decide +kernel
theorem dX12_fitting_3 : decode cX12_fitting 3 = .ok (.istore_n 2, 1) := by decide +kernel
theorem dX12_fitting_4 : decode cX12_fitting 4 = .ok (.iload_n 2, 1) := by decide +kernel
theorem dX12_fitting_5 : decode cX12_fitting 5 = .ok (.aload_n 0, 1) := by decide +kernel
theorem dX12_fitting_6 : decode cX12_fitting 6 = .ok (.getfield 39, 3) := by decide +kernel
theorem dX12_fitting_9 : decode cX12_fitting 9 = .ok (.iconst 4, 1) := by decide +kernel
theorem dX12_fitting_10 : decode cX12_fitting 10 = .ok (.iaload, 1) := by decide +kernel
theorem dX12_fitting_11 : decode cX12_fitting 11 = .ok (.if_icmp .ge 27, 3) := by decide +kernel
theorem dX12_fitting_14 : decode cX12_fitting 14 = .ok (.iload_n 1, 1) := by decide +kernel
theorem dX12_fitting_15 : decode cX12_fitting 15 = .ok (.aload_n 0, 1) := by decide +kernel
theorem dX12_fitting_16 : decode cX12_fitting 16 = .ok (.iload_n 2, 1) := by decide +kernel
theorem dX12_fitting_17 : decode cX12_fitting 17 = .ok (.invokevirtual 436, 3) := by decide +kernel
theorem dX12_fitting_20 : decode cX12_fitting 20 = .ok (.ifCond .eq 9, 3) := by decide +kernel
theorem dX12_fitting_23 : decode cX12_fitting 23 = .ok (.iconst 1, 1) := by decide +kernel
theorem dX12_fitting_24 : decode cX12_fitting 24 = .ok (.iload_n 2, 1) := by decide +kernel
theorem dX12_fitting_25 : decode cX12_fitting 25 = .ok (.ishl, 1) := by decide +kernel
theorem dX12_fitting_26 : decode cX12_fitting 26 = .ok (.goto 4, 3) := by decide +kernel
theorem dX12_fitting_29 : decode cX12_fitting 29 = .ok (.iconst 0, 1) := by decide +kernel
theorem dX12_fitting_30 : decode cX12_fitting 30 = .ok (.ior, 1) := by decide +kernel
theorem dX12_fitting_31 : decode cX12_fitting 31 = .ok (.istore_n 1, 1) := by decide +kernel
theorem dX12_fitting_32 : decode cX12_fitting 32 = .ok (.iinc 2 1, 3) := by decide +kernel
theorem dX12_fitting_35 : decode cX12_fitting 35 = .ok (.goto (-31), 3) := by decide +kernel
theorem dX12_fitting_38 : decode cX12_fitting 38 = .ok (.iload_n 1, 1) := by decide +kernel
theorem dX12_fitting_39 : decode cX12_fitting 39 = .ok (.ireturn, 1) := by decide +kernel
def wp_X12_fitting_30 (S : Sh) (k4 : Int → Int → Int → Mm → Prop) (post : Int → Mm → Prop) (u0 : Int) (u2 : Int) (t0 : Int) (t1 : Int) (M : Mm) : Prop := wO iOr t0 t1 fun v1 => wA u2 1 fun v3 => k4 u0 v1 v3 M
def wp_X12_fitting_4 (S : Sh) (post : Int → Mm → Prop) : Nat → Int → Int → Int → Mm → Prop
  | 0, _, _, _, _ => False
  | n + 1, u0, u1, u2, M => wGetR S M u0 12 20 fun v5 => wC 4 fun v7 => wLd S M v5 14 v7 fun v9 => wIf (v9 ≤ u2) (post u1 M) (isK S u0 12 ∧ (wp_X12_fitsTests S M u0 u2 <| fun v12 M11 => wIf (v12 = 0) (wC 0 fun v14 => wp_X12_fitting_30 S (fun a0 a1 a2 M => wp_X12_fitting_4 S post n a0 a1 a2 M) post u0 u2 u1 v14 M11) (wC 1 fun v16 => wO iShl v16 u2 fun v18 => wp_X12_fitting_30 S (fun a0 a1 a2 M => wp_X12_fitting_4 S post n a0 a1 a2 M) post u0 u2 u1 v18 M11)))
def wp_X12_fitting (S : Sh) (M : Mm) (u0 : Int) (post : Int → Mm → Prop) : Prop := wC 0 fun v20 => wC 0 fun v22 => ∃ n9 : Nat, wp_X12_fitting_4 S post n9 u0 v20 v22 M
set_option maxHeartbeats 4000000 in
set_option maxRecDepth 100000 in
theorem t_X12_fitting_30 {p : Program} {l : Launch} {e : Env} {s : State} {m : MethodId} {args : Array Value} {below : List Frame} {meth : Method} {c : Code} {D : va_G} {G : Gt} {S : Sh} {post : Int → Mm → Prop} {k4 : Int → Int → Int → Mm → Prop} (C : Cx p s m args meth c D G cX12_fitting 3 (some .int) (cw_X12_fitting :: gw) RX12) (hk4 : ∀ (y0 : Int) (y1 : Int32) (y2 : Int32) (M : Mm) (H : Heap) (locs : List Loc) (ls : Array Slot), Wd D G S M H → va_S (aG G) s.heap H locs → lv_has ls 3 [(0, .ref (adr G y0)), (1, .int y1), (2, .int y2)] → k4 y0 y1.toInt y2.toInt M → W p l e RM_X12_fitting s m args below meth c H locs 0 0 (MQ below (QI D G S post) args s 0 0 (aG G)) (F0 m 4 ls [])) : ∀ (xl0 : Int) (zl2 : Int32) (zs0 : Int32) (zs1 : Int32) (M : Mm) (H : Heap) (locs : List Loc) (ls : Array Slot), Wd D G S M H → va_S (aG G) s.heap H locs → lv_has ls 3 [(0, .ref (adr G xl0)), (2, .int zl2)] → wp_X12_fitting_30 S k4 post xl0 zl2.toInt zs0.toInt zs1.toInt M → W p l e RM_X12_fitting s m args below meth c H locs 0 0 (MQ below (QI D G S post) args s 0 0 (aG G)) (F0 m 30 ls [.int zs1, .int zs0]) := by
  obtain ⟨hx, hb, hr, hlocks, hml, hown, hts, hK⟩ := id C
  intro xl0 zl2 zs0 zs1 M H locs ls hP hS hl h
  unfold wp_X12_fitting_30 at h
  refine r_ior hx hb dX12_fitting_30 h (fun z2 h => ?_)
  refine lv_istore_n (lv' := [(1, .int z2), (0, .ref (adr G xl0)), (2, .int zl2)]) hx hb dX12_fitting_31 rfl hl (by decide) rfl (fun ls hl => ?_)
  refine r_iinc hx hb (fun z4 => [(2, .int z4), (1, .int z2), (0, .ref (adr G xl0))]) dX12_fitting_32 (by decide) hl (k := 2) rfl (by decide) (fun _ => rfl) h (fun z4 ls hl h => ?_)
  refine lv_goto (tgt := 4) hx hb dX12_fitting_35 (by decide) ?_
  exact hk4 xl0 z2 z4 _ _ _ _ hP hS (lv_sub hl [2, 1, 0] rfl) h
set_option maxHeartbeats 4000000 in
set_option maxRecDepth 100000 in
theorem t_X12_fitting_4 {p : Program} {l : Launch} {e : Env} {s : State} {m : MethodId} {args : Array Value} {below : List Frame} {meth : Method} {c : Code} {D : va_G} {G : Gt} {S : Sh} {post : Int → Mm → Prop} (C : Cx p s m args meth c D G cX12_fitting 3 (some .int) (cw_X12_fitting :: gw) RX12) : ∀ (n : Nat) (xl0 : Int) (zl1 : Int32) (zl2 : Int32) (M : Mm) (H : Heap) (locs : List Loc) (ls : Array Slot), Wd D G S M H → va_S (aG G) s.heap H locs → lv_has ls 3 [(0, .ref (adr G xl0)), (1, .int zl1), (2, .int zl2)] → wp_X12_fitting_4 S post n xl0 zl1.toInt zl2.toInt  M → W p l e RM_X12_fitting s m args below meth c H locs 0 0 (MQ below (QI D G S post) args s 0 0 (aG G)) (F0 m 4 ls []) := by
  obtain ⟨hx, hb, hr, hlocks, hml, hown, hts, hK⟩ := id C
  intro n
  induction n with
  | zero => intro xl0 zl1 zl2 M H locs ls hP hS hl h; exact h.elim
  | succ n ih =>
    intro xl0 zl1 zl2 M H locs ls hP hS hl h
    unfold wp_X12_fitting_4 at h
    refine lv_iload_n hx hb dX12_fitting_4 rfl (lv_at hl 2 rfl) ?_
    refine lv_aload_n hx hb dX12_fitting_5 rfl (lv_at hl 0 rfl) ?_
    refine r_getr (C := RX12) (T := TX12) (N := 38) hx hb hts (fun w h => List.mem_cons_of_mem _ (iX12 w h)) hown hK hP rfl (by decide) rfl 20 (by decide) (hts _ (List.mem_cons_of_mem _ kw_1354)) (fun _ h9 => h9) dX12_fitting_6 (by decide) h (fun x6 h => ?_)
    refine r_iconst hx hb dX12_fitting_9 (by decide) h (fun z8 h => ?_)
    refine r_iald hx hb hK hP dX12_fitting_10 h (fun z10 h => ?_)
    refine r_icmp_ge (tgt := 38) hx hb dX12_fitting_11 (by decide) h (fun h => ?_) (fun h => ?_)
    · refine lv_iload_n hx hb dX12_fitting_38 rfl (lv_at hl 1 rfl) ?_
      exact r_iret hx hb hr hlocks hP hS dX12_fitting_39 h
    · refine lv_iload_n hx hb dX12_fitting_14 rfl (lv_at hl 1 rfl) ?_
      refine lv_aload_n hx hb dX12_fitting_15 rfl (lv_at hl 0 rfl) ?_
      refine lv_iload_n hx hb dX12_fitting_16 rfl (lv_at hl 2 rfl) ?_
      refine q_Vi hx hb hml hown hts hK hP hS (c_X12_fitsTests l D G S _ xl0 zl2 _ h.2) ⟨callB_of 1 hts (gw_good kw_1893) rfl rfl rfl (hts _ (List.mem_cons_of_mem _ kw_14)) (hts _ (List.mem_cons_of_mem _ kw_1890)) hd_X12_fitsTests ⟨Nat.le_of_ble_eq_true rfl, Nat.le_of_ble_eq_true rfl⟩, (hts _ (List.mem_cons_of_mem _ kw_1892)), (hts _ (List.mem_cons_of_mem _ kp_126))⟩ h.1 (ci := 12) rfl (by decide) rfl hl.1 rfl (lv_room (Nat.le_of_ble_eq_true rfl)) dX12_fitting_17 ⟨Nat.zero_le _, Nat.zero_le _⟩ (fun z13 M11 H locs h hP hS => ?_)
      refine r_if_eq (tgt := 29) hx hb dX12_fitting_20 (by decide) h (fun h => ?_) (fun h => ?_)
      · refine r_iconst hx hb dX12_fitting_29 (by decide) h (fun z15 h => ?_)
        exact t_X12_fitting_30 C ih xl0 zl2 zl1 z15 _ _ _ _ hP hS (lv_sub hl [0, 2] rfl) h
      · refine r_iconst hx hb dX12_fitting_23 (by decide) h (fun z17 h => ?_)
        refine lv_iload_n hx hb dX12_fitting_24 rfl (lv_at hl 2 rfl) ?_
        refine r_ishl hx hb dX12_fitting_25 h (fun z19 h => ?_)
        refine lv_goto (tgt := 30) hx hb dX12_fitting_26 (by decide) ?_
        exact t_X12_fitting_30 C ih xl0 zl2 zl1 z19 _ _ _ _ hP hS (lv_sub hl [0, 2] rfl) h
set_option maxHeartbeats 4000000 in
set_option maxRecDepth 100000 in
theorem c_X12_fitting (l : Launch) (D : va_G) (G : Gt) (S : Sh) (M : Mm) (xl0 : Int) (post : Int → Mm → Prop) (h : wp_X12_fitting S M xl0 post) : Met l yX12_fitting (cw_X12_fitting :: gw) RM_X12_fitting (va_Pc [.ref (adr G xl0)] (fun U => KN D G U ∧ Wd D G S M U.heap)) (QI D G S post) 0 0 (aG G) := by
  refine Met.ofW (cc := cX12_fitting) (maxL := 3) (ret := (some .int)) (by decide) rfl ?_
  intro p e s m args below meth c s₁ B hml hv
  obtain ⟨rfl, hK, hP⟩ := hv
  have hx := B.exec
  have hb := B.bytes
  have hr := B.returns
  have hts := atoms_spec (ws := cw_X12_fitting :: gw) B.pre
  have hown : s.vm.findClass RX12 = some m.cls := findClass_of_methodNamed B.named
  have hlocks := B.notSynchronized
  have hS : va_S (aG G) s.heap s.heap [] := va_S.rf
  have C : Cx p s m ([.ref (adr G xl0)] : List Value).toArray meth c D G cX12_fitting 3 (some .int) (cw_X12_fitting :: gw) RX12 := ⟨hx, hb, hr, hlocks, hml, hown, hts, hK⟩
  have hl := lv_entry ([.ref (adr G xl0)]) (n := 3) (Nat.le_of_ble_eq_true rfl)
  rw [lg_entry_eq]
  generalize (lg_sl ([.ref (adr G xl0)]) ++ List.replicate (3 - (lg_sl ([.ref (adr G xl0)])).length) Slot.unset).toArray = ls at hl ⊢
  have hl : lv_has ls 3 [(0, .ref (adr G xl0))] := hl
  unfold wp_X12_fitting at h
  refine r_iconst hx hb dX12_fitting_0 (by decide) h (fun z21 h => ?_)
  refine lv_istore_n (lv' := [(1, .int z21), (0, .ref (adr G xl0))]) hx hb dX12_fitting_1 rfl hl (by decide) rfl (fun ls hl => ?_)
  refine r_iconst hx hb dX12_fitting_2 (by decide) h (fun z23 h => ?_)
  refine lv_istore_n (lv' := [(2, .int z23), (1, .int z21), (0, .ref (adr G xl0))]) hx hb dX12_fitting_3 rfl hl (by decide) rfl (fun ls hl => ?_)
  obtain ⟨n9, h⟩ := h
  exact t_X12_fitting_4 C n9 xl0 z21 z23 _ _ _ _ hP hS (lv_sub hl [2, 1, 0] rfl) h
/-! TurningMilkModel.who(I)I -/
abbrev RM_X12_who : Room := { frames := 8, cells := 0, slots := 0, locals := 221 }
def cw_X12_who : Cond := Cond.code yX12_who cX12_who 4 (Option.some FieldType.int)
theorem hd_X12_who : yX12_who.cls ≠ "java/lang/invoke/MethodHandle" ∧ yX12_who.cls ≠ "java/lang/invoke/VarHandle" ∧ (parseMethodDescriptor yX12_who.desc).map (fun d => d.parameters.length) = some 1 := by decide +kernel
theorem dX12_who_0 : decode cX12_who 0 = .ok (.aload_n 0, 1) := by decide +kernel
theorem dX12_who_1 : decode cX12_who 1 = .ok (.invokevirtual 350, 3) := by decide +kernel
theorem dX12_who_4 : decode cX12_who 4 = .ok (.ifCond .eq 15, 3) := by decide +kernel
theorem dX12_who_7 : decode cX12_who 7 = .ok (.iload_n 1, 1) := by decide +kernel
theorem dX12_who_8 : decode cX12_who 8 = .ok (.i2l, 1) := by decide +kernel
theorem dX12_who_9 : decode cX12_who 9 = .ok (.lconst 0, 1) := by decide +kernel
theorem dX12_who_10 : decode cX12_who 10 = .ok (.ldc2_w 439, 3) := by decide +kernel
theorem dX12_who_13 : decode cX12_who 13 = .ok (.invokestatic 118, 3) := by decide +kernel
theorem dX12_who_16 : decode cX12_who 16 = .ok (.ifCond .ne 5, 3) := by decide +kernel
theorem dX12_who_19 : decode cX12_who 19 = .ok (.iconst (-1), 1) := by decide +kernel
theorem dX12_who_20 : decode cX12_who 20 = .ok (.ireturn, 1) := by decide +kernel
theorem dX12_who_21 : decode cX12_who 21 = .ok (.aload_n 0, 1) := by decide +kernel
theorem dX12_who_22 : decode cX12_who 22 = .ok (.invokevirtual 441, 3) := by decide +kernel
theorem dX12_who_25 : decode cX12_who 25 = .ok (.istore_n 2, 1) := by decide +kernel
theorem dX12_who_26 : decode cX12_who 26 = .ok (.iload_n 1, 1) := by decide +kernel
theorem dX12_who_27 : decode cX12_who 27 = .ok (.iconst 1, 1) := by decide +kernel
theorem dX12_who_28 : decode cX12_who 28 = .ok (.if_icmp .eq 16, 3) := by decide +kernel
theorem dX12_who_31 : decode cX12_who 31 = .ok (.iload_n 1, 1) := by decide +kernel
theorem dX12_who_32 : decode cX12_who 32 = .ok (.ifCond .ne 10, 3) := by decide +kernel
theorem dX12_who_35 : decode cX12_who 35 = .ok (.iload_n 2, 1) := by decide +kernel
theorem dX12_who_36 : decode cX12_who 36 = .ok (.invokestatic 344, 3) := by decide +kernel
theorem dX12_who_39 : decode cX12_who 39 = .ok (.goto 4, 3) := by decide +kernel
theorem dX12_who_42 : decode cX12_who 42 = .ok (.iload_n 2, 1) := by decide +kernel
theorem dX12_who_43 : decode cX12_who 43 = .ok (.ireturn, 1) := by decide +kernel
theorem dX12_who_44 : decode cX12_who 44 = .ok (.iconst 0, 1) := by decide +kernel
theorem dX12_who_45 : decode cX12_who 45 = .ok (.istore_n 3, 1) := by decide +kernel
theorem dX12_who_46 : decode cX12_who 46 = .ok (.iload_n 3, 1) := by decide +kernel
theorem dX12_who_47 : decode cX12_who 47 = .ok (.aload_n 0, 1) := by decide +kernel
theorem dX12_who_48 : decode cX12_who 48 = .ok (.getfield 39, 3) := by decide +kernel
theorem dX12_who_51 : decode cX12_who 51 = .ok (.iconst 4, 1) := by decide +kernel
theorem dX12_who_52 : decode cX12_who 52 = .ok (.iaload, 1) := by decide +kernel
theorem dX12_who_53 : decode cX12_who 53 = .ok (.if_icmp .ge 19, 3) := by decide +kernel
theorem dX12_who_56 : decode cX12_who 56 = .ok (.iload_n 2, 1) := by decide +kernel
theorem dX12_who_57 : decode cX12_who 57 = .ok (.iload_n 3, 1) := by decide +kernel
theorem dX12_who_58 : decode cX12_who 58 = .ok (.invokestatic 420, 3) := by decide +kernel
theorem dX12_who_61 : decode cX12_who 61 = .ok (.ifCond .eq 5, 3) := by decide +kernel
theorem dX12_who_64 : decode cX12_who 64 = .ok (.iload_n 3, 1) := by decide +kernel
theorem dX12_who_65 : decode cX12_who 65 = .ok (.ireturn, 1) := by decide +kernel
theorem dX12_who_66 : decode cX12_who 66 = .ok (.iinc 3 1, 3) := by decide +kernel
theorem dX12_who_69 : decode cX12_who 69 = .ok (.goto (-23), 3) := by decide +kernel
theorem dX12_who_72 : decode cX12_who 72 = .ok (.bipush (-2), 2) := by decide +kernel
theorem dX12_who_74 : decode cX12_who 74 = .ok (.ireturn, 1) := by decide +kernel
def wp_X12_who_46 (S : Sh) (post : Int → Mm → Prop) : Nat → Int → Int → Int → Mm → Prop
  | 0, _, _, _, _ => False
  | n + 1, u0, u2, u3, M => wGetR S M u0 12 20 fun v1 => wC 4 fun v3 => wLd S M v1 14 v3 fun v5 => wIf (v5 ≤ u3) (wC (-2) fun v7 => post v7 M) (wp_X12_isOf S M u2 u3 <| fun v10 M9 => wIf (v10 = 0) (wA u3 1 fun v12 => wp_X12_who_46 S post n u0 u2 v12 M9) (post u3 M9))
def wp_X12_who (S : Sh) (M : Mm) (u0 : Int) (u1 : Int) (post : Int → Mm → Prop) : Prop := isK S u0 12 ∧ (wp_X12_isDairy S M u0 <| fun v15 M14 => wIf (v15 = 0) (wC (-1) fun v17 => post v17 M14) (wC u1 fun v19 => wC 0 fun v21 => wC 2 fun v23 => wp_X12_in S M14 v19 v21 v23 <| fun v26 M25 => wIf (¬ v26 = 0) (isK S u0 12 ∧ (wp_X12_fitting S M25 u0 <| fun v29 M28 => wC 1 fun v31 => wIf (u1 = v31) (wC 0 fun v33 => ∃ n9 : Nat, wp_X12_who_46 S post n9 u0 v29 v33 M28) (wIf (¬ u1 = 0) (post v29 M28) (wp_X12_bits S M28 v29 <| fun v36 M35 => post v36 M35)))) (wC (-1) fun v38 => post v38 M25)))
set_option maxHeartbeats 4000000 in
set_option maxRecDepth 100000 in
theorem t_X12_who_46 {p : Program} {l : Launch} {e : Env} {s : State} {m : MethodId} {args : Array Value} {below : List Frame} {meth : Method} {c : Code} {D : va_G} {G : Gt} {S : Sh} {post : Int → Mm → Prop} (C : Cx p s m args meth c D G cX12_who 4 (some .int) (cw_X12_who :: gw) RX12) : ∀ (n : Nat) (xl0 : Int) (zl2 : Int32) (zl3 : Int32) (M : Mm) (H : Heap) (locs : List Loc) (ls : Array Slot), Wd D G S M H → va_S (aG G) s.heap H locs → lv_has ls 4 [(0, .ref (adr G xl0)), (2, .int zl2), (3, .int zl3)] → wp_X12_who_46 S post n xl0 zl2.toInt zl3.toInt  M → W p l e RM_X12_who s m args below meth c H locs 0 0 (MQ below (QI D G S post) args s 0 0 (aG G)) (F0 m 46 ls []) := by
  obtain ⟨hx, hb, hr, hlocks, hml, hown, hts, hK⟩ := id C
  intro n
  induction n with
  | zero => intro xl0 zl2 zl3 M H locs ls hP hS hl h; exact h.elim
  | succ n ih =>
    intro xl0 zl2 zl3 M H locs ls hP hS hl h
    unfold wp_X12_who_46 at h
    refine lv_iload_n hx hb dX12_who_46 rfl (lv_at hl 2 rfl) ?_
    refine lv_aload_n hx hb dX12_who_47 rfl (lv_at hl 0 rfl) ?_
    refine r_getr (C := RX12) (T := TX12) (N := 38) hx hb hts (fun w h => List.mem_cons_of_mem _ (iX12 w h)) hown hK hP rfl (by decide) rfl 20 (by decide) (hts _ (List.mem_cons_of_mem _ kw_1354)) (fun _ h9 => h9) dX12_who_48 (by decide) h (fun x2 h => ?_)
    refine r_iconst hx hb dX12_who_51 (by decide) h (fun z4 h => ?_)
    refine r_iald hx hb hK hP dX12_who_52 h (fun z6 h => ?_)
    refine r_icmp_ge (tgt := 72) hx hb dX12_who_53 (by decide) h (fun h => ?_) (fun h => ?_)
    · refine r_bipush hx hb dX12_who_72 (by decide) h (fun z8 h => ?_)
      exact r_iret hx hb hr hlocks hP hS dX12_who_74 h
    · refine lv_iload_n hx hb dX12_who_56 rfl (lv_at hl 1 rfl) ?_
      refine lv_iload_n hx hb dX12_who_57 rfl (lv_at hl 2 rfl) ?_
      refine q_Si hx hb hml hown hts hK hP hS (c_X12_isOf l D G S _ zl2 zl3 _ h) ⟨callB_of 2 hts (gw_good kw_1865) rfl rfl rfl (hts _ (List.mem_cons_of_mem _ kw_14)) (hts _ (List.mem_cons_of_mem _ kw_1863)) hd_X12_isOf ⟨Nat.le_of_ble_eq_true rfl, Nat.le_of_ble_eq_true rfl⟩, (hts _ (List.mem_cons_of_mem _ kw_1864))⟩ rfl hl.1 rfl (lv_room (Nat.le_of_ble_eq_true rfl)) dX12_who_58 ⟨Nat.zero_le _, Nat.zero_le _⟩ (fun z11 M9 H locs h hP hS => ?_)
      refine r_if_eq (tgt := 66) hx hb dX12_who_61 (by decide) h (fun h => ?_) (fun h => ?_)
      · refine r_iinc hx hb (fun z13 => [(3, .int z13), (0, .ref (adr G xl0)), (2, .int zl2)]) dX12_who_66 (by decide) hl (k := 2) rfl (by decide) (fun _ => rfl) h (fun z13 ls hl h => ?_)
        refine lv_goto (tgt := 46) hx hb dX12_who_69 (by decide) ?_
        exact ih xl0 zl2 z13 _ _ _ _ hP hS (lv_sub hl [1, 2, 0] rfl) h
      · refine lv_iload_n hx hb dX12_who_64 rfl (lv_at hl 2 rfl) ?_
        exact r_iret hx hb hr hlocks hP hS dX12_who_65 h
set_option maxHeartbeats 4000000 in
set_option maxRecDepth 100000 in
theorem c_X12_who (l : Launch) (D : va_G) (G : Gt) (S : Sh) (M : Mm) (xl0 : Int) (zl1 : Int32) (post : Int → Mm → Prop) (h : wp_X12_who S M xl0 zl1.toInt post) : Met l yX12_who (cw_X12_who :: gw) RM_X12_who (va_Pc [.ref (adr G xl0), .int zl1] (fun U => KN D G U ∧ Wd D G S M U.heap)) (QI D G S post) 0 0 (aG G) := by
  refine Met.ofW (cc := cX12_who) (maxL := 4) (ret := (some .int)) (by decide) rfl ?_
  intro p e s m args below meth c s₁ B hml hv
  obtain ⟨rfl, hK, hP⟩ := hv
  have hx := B.exec
  have hb := B.bytes
  have hr := B.returns
  have hts := atoms_spec (ws := cw_X12_who :: gw) B.pre
  have hown : s.vm.findClass RX12 = some m.cls := findClass_of_methodNamed B.named
  have hlocks := B.notSynchronized
  have hS : va_S (aG G) s.heap s.heap [] := va_S.rf
  have C : Cx p s m ([.ref (adr G xl0), .int zl1] : List Value).toArray meth c D G cX12_who 4 (some .int) (cw_X12_who :: gw) RX12 := ⟨hx, hb, hr, hlocks, hml, hown, hts, hK⟩
  have hl := lv_entry ([.ref (adr G xl0), .int zl1]) (n := 4) (Nat.le_of_ble_eq_true rfl)
  rw [lg_entry_eq]
  generalize (lg_sl ([.ref (adr G xl0), .int zl1]) ++ List.replicate (4 - (lg_sl ([.ref (adr G xl0), .int zl1])).length) Slot.unset).toArray = ls at hl ⊢
  have hl : lv_has ls 4 [(0, .ref (adr G xl0)), (1, .int zl1)] := hl
  unfold wp_X12_who at h
  refine lv_aload_n hx hb dX12_who_0 rfl (lv_at hl 0 rfl) ?_
  refine q_Vi hx hb hml hown hts hK hP hS (c_X12_isDairy l D G S _ xl0 _ h.2) ⟨callB_of 0 hts (gw_good kw_1698) rfl rfl rfl (hts _ (List.mem_cons_of_mem _ kw_14)) (hts _ (List.mem_cons_of_mem _ kw_1695)) hd_X12_isDairy ⟨Nat.le_of_ble_eq_true rfl, Nat.le_of_ble_eq_true rfl⟩, (hts _ (List.mem_cons_of_mem _ kw_1697)), (hts _ (List.mem_cons_of_mem _ kp_96))⟩ h.1 (ci := 12) rfl (by decide) rfl hl.1 rfl (lv_room (Nat.le_of_ble_eq_true rfl)) dX12_who_1 ⟨Nat.zero_le _, Nat.zero_le _⟩ (fun z16 M14 H locs h hP hS => ?_)
  refine r_if_eq (tgt := 19) hx hb dX12_who_4 (by decide) h (fun h => ?_) (fun h => ?_)
  · refine r_iconst hx hb dX12_who_19 (by decide) h (fun z18 h => ?_)
    exact r_iret hx hb hr hlocks hP hS dX12_who_20 h
  · refine lv_iload_n hx hb dX12_who_7 rfl (lv_at hl 1 rfl) ?_
    refine r_i2l hx hb dX12_who_8 h (fun z20 h => ?_)
    refine r_lconst hx hb dX12_who_9 (v := 0) (by decide) h (fun z22 h => ?_)
    refine r_ldc2 hx hb hown (hts _ (List.mem_cons_of_mem _ kw_1885)) dX12_who_10 (n := 2) (by decide) h (fun z24 h => ?_)
    refine q_Si hx hb hml hown hts hK hP hS (c_X12_in l D G S _ z20 z22 z24 _ h) ⟨callB_of 3 hts (gw_good kw_1523) rfl rfl rfl (hts _ (List.mem_cons_of_mem _ kw_14)) (hts _ (List.mem_cons_of_mem _ kw_1521)) hd_X12_in ⟨Nat.le_of_ble_eq_true rfl, Nat.le_of_ble_eq_true rfl⟩, (hts _ (List.mem_cons_of_mem _ kw_1522))⟩ rfl hl.1 rfl (lv_room (Nat.le_of_ble_eq_true rfl)) dX12_who_13 ⟨Nat.zero_le _, Nat.zero_le _⟩ (fun z27 M25 H locs h hP hS => ?_)
    refine r_if_ne (tgt := 21) hx hb dX12_who_16 (by decide) h (fun h => ?_) (fun h => ?_)
    · refine lv_aload_n hx hb dX12_who_21 rfl (lv_at hl 0 rfl) ?_
      refine q_Vi hx hb hml hown hts hK hP hS (c_X12_fitting l D G S _ xl0 _ h.2) ⟨callB_of 0 hts (gw_good kw_1889) rfl rfl rfl (hts _ (List.mem_cons_of_mem _ kw_14)) (hts _ (List.mem_cons_of_mem _ kw_1886)) hd_X12_fitting ⟨Nat.le_of_ble_eq_true rfl, Nat.le_of_ble_eq_true rfl⟩, (hts _ (List.mem_cons_of_mem _ kw_1888)), (hts _ (List.mem_cons_of_mem _ kp_125))⟩ h.1 (ci := 12) rfl (by decide) rfl hl.1 rfl (lv_room (Nat.le_of_ble_eq_true rfl)) dX12_who_22 ⟨Nat.zero_le _, Nat.zero_le _⟩ (fun z30 M28 H locs h hP hS => ?_)
      refine lv_istore_n (lv' := [(2, .int z30), (0, .ref (adr G xl0)), (1, .int zl1)]) hx hb dX12_who_25 rfl hl (by decide) rfl (fun ls hl => ?_)
      refine lv_iload_n hx hb dX12_who_26 rfl (lv_at hl 2 rfl) ?_
      refine r_iconst hx hb dX12_who_27 (by decide) h (fun z32 h => ?_)
      refine r_icmp_eq (tgt := 44) hx hb dX12_who_28 (by decide) h (fun h => ?_) (fun h => ?_)
      · refine r_iconst hx hb dX12_who_44 (by decide) h (fun z34 h => ?_)
        refine lv_istore_n (lv' := [(3, .int z34), (2, .int z30), (0, .ref (adr G xl0)), (1, .int zl1)]) hx hb dX12_who_45 rfl hl (by decide) rfl (fun ls hl => ?_)
        obtain ⟨n9, h⟩ := h
        exact t_X12_who_46 C n9 xl0 z30 z34 _ _ _ _ hP hS (lv_sub hl [2, 1, 0] rfl) h
      · refine lv_iload_n hx hb dX12_who_31 rfl (lv_at hl 2 rfl) ?_
        refine r_if_ne (tgt := 42) hx hb dX12_who_32 (by decide) h (fun h => ?_) (fun h => ?_)
        · refine lv_iload_n hx hb dX12_who_42 rfl (lv_at hl 0 rfl) ?_
          exact r_iret hx hb hr hlocks hP hS dX12_who_43 h
        · refine lv_iload_n hx hb dX12_who_35 rfl (lv_at hl 0 rfl) ?_
          refine q_Si hx hb hml hown hts hK hP hS (c_X12_bits l D G S _ z30 _ h) ⟨callB_of 1 hts (gw_good kw_1717) rfl rfl rfl (hts _ (List.mem_cons_of_mem _ kw_14)) (hts _ (List.mem_cons_of_mem _ kw_1715)) hd_X12_bits ⟨Nat.le_of_ble_eq_true rfl, Nat.le_of_ble_eq_true rfl⟩, (hts _ (List.mem_cons_of_mem _ kw_1716))⟩ rfl hl.1 rfl (lv_room (Nat.le_of_ble_eq_true rfl)) dX12_who_36 ⟨Nat.zero_le _, Nat.zero_le _⟩ (fun z37 M35 H locs h hP hS => ?_)
          refine lv_goto (tgt := 43) hx hb dX12_who_39 (by decide) ?_
          exact r_iret hx hb hr hlocks hP hS dX12_who_43 h
    · refine r_iconst hx hb dX12_who_19 (by decide) h (fun z39 h => ?_)
      exact r_iret hx hb hr hlocks hP hS dX12_who_20 h
/-! TurningMilkModel.alikeBy(II)I -/
abbrev RM_X12_alikeBy : Room := { frames := 6, cells := 0, slots := 0, locals := 176 }
def cw_X12_alikeBy : Cond := Cond.code yX12_alikeBy cX12_alikeBy 7 (Option.some FieldType.int)
theorem hd_X12_alikeBy : yX12_alikeBy.cls ≠ "java/lang/invoke/MethodHandle" ∧ yX12_alikeBy.cls ≠ "java/lang/invoke/VarHandle" ∧ (parseMethodDescriptor yX12_alikeBy.desc).map (fun d => d.parameters.length) = some 2 := by decide +kernel
theorem dX12_alikeBy_0 : decode cX12_alikeBy 0 = .ok (.iconst 0, 1) := by decide +kernel
theorem dX12_alikeBy_1 : decode cX12_alikeBy 1 = .ok (.istore_n 3, 1) := by decide +kernel
theorem dX12_alikeBy_2 : decode cX12_alikeBy 2 = .ok (.iload_n 3, 1) := by decide +kernel
theorem dX12_alikeBy_3 : decode cX12_alikeBy 3 = .ok (.aload_n 0, 1) := by decide +kernel
theorem dX12_alikeBy_4 : decode cX12_alikeBy 4 = .ok (.getfield 39, 3) := by decide +kernel
theorem dX12_alikeBy_7 : decode cX12_alikeBy 7 = .ok (.iconst 4, 1) := by decide +kernel
theorem dX12_alikeBy_8 : decode cX12_alikeBy 8 = .ok (.iaload, 1) := by decide +kernel
theorem dX12_alikeBy_9 : decode cX12_alikeBy 9 = .ok (.if_icmp .ge 43, 3) := by decide +kernel
theorem dX12_alikeBy_12 : decode cX12_alikeBy 12 = .ok (.aload_n 0, 1) := by decide +kernel
theorem dX12_alikeBy_13 : decode cX12_alikeBy 13 = .ok (.getfield 58, 3) := by decide +kernel
theorem dX12_alikeBy_16 : decode cX12_alikeBy 16 = .ok (.iload_n 3, 1) := by decide +kernel
theorem dX12_alikeBy_17 : decode cX12_alikeBy 17 = .ok (.iload_n 1, 1) := by decide +kernel
theorem dX12_alikeBy_18 : decode cX12_alikeBy 18 = .ok (.iload_n 3, 1) := by decide +kernel
theorem dX12_alikeBy_19 : decode cX12_alikeBy 19 = .ok (.invokestatic 420, 3) := by decide +kernel
theorem dX12_alikeBy_22 : decode cX12_alikeBy 22 = .ok (.ifCond .eq 22, 3) := by decide +kernel
theorem dX12_alikeBy_25 : decode cX12_alikeBy 25 = .ok (.aload_n 0, 1) := by decide +kernel
theorem dX12_alikeBy_26 : decode cX12_alikeBy 26 = .ok (.iload_n 3, 1) := by decide +kernel
theorem dX12_alikeBy_27 : decode cX12_alikeBy 27 = .ok (.iconst 0, 1) := by decide +kernel
theorem dX12_alikeBy_28 : decode cX12_alikeBy 28 = .ok (.iconst 0, 1) := by decide +kernel
theorem dX12_alikeBy_29 : decode cX12_alikeBy 29 = .ok (.iload_n 2, 1) := by decide +kernel
theorem dX12_alikeBy_30 : decode cX12_alikeBy 30 = .ok (.aload_n 0, 1) := by decide +kernel
theorem dX12_alikeBy_31 : decode cX12_alikeBy 31 = .ok (.getfield 39, 3) := by decide +kernel
theorem dX12_alikeBy_34 : decode cX12_alikeBy 34 = .ok (.bipush 7, 2) := by decide +kernel
theorem dX12_alikeBy_36 : decode cX12_alikeBy 36 = .ok (.iaload, 1) := by decide +kernel
theorem dX12_alikeBy_37 : decode cX12_alikeBy 37 = .ok (.iconst 0, 1) := by decide +kernel
theorem dX12_alikeBy_38 : decode cX12_alikeBy 38 = .ok (.invokevirtual 394, 3) := by decide +kernel
theorem dX12_alikeBy_41 : decode cX12_alikeBy 41 = .ok (.goto 4, 3) := by decide +kernel
theorem dX12_alikeBy_44 : decode cX12_alikeBy 44 = .ok (.iconst (-1), 1) := by decide +kernel
theorem dX12_alikeBy_45 : decode cX12_alikeBy 45 = .ok (.iastore, 1) := by decide +kernel
theorem dX12_alikeBy_46 : decode cX12_alikeBy 46 = .ok (.iinc 3 1, 3) := by decide +kernel
theorem dX12_alikeBy_49 : decode cX12_alikeBy 49 = .ok (.goto (-47), 3) := by decide +kernel
theorem dX12_alikeBy_52 : decode cX12_alikeBy 52 = .ok (.iconst 0, 1) := by decide +kernel
theorem dX12_alikeBy_53 : decode cX12_alikeBy 53 = .ok (.istore_n 3, 1) := by decide +kernel
theorem dX12_alikeBy_54 : decode cX12_alikeBy 54 = .ok (.iconst 0, 1) := by decide +kernel
theorem dX12_alikeBy_55 : decode cX12_alikeBy 55 = .ok (.istore 4, 2) := by decide +kernel
theorem dX12_alikeBy_57 : decode cX12_alikeBy 57 = .ok (.iload 4, 2) := by decide +kernel
theorem dX12_alikeBy_59 : decode cX12_alikeBy 59 = .ok (.aload_n 0, 1) := by decide +kernel
theorem dX12_alikeBy_60 : decode cX12_alikeBy 60 = .ok (.getfield 39, 3) := by decide +kernel
theorem dX12_alikeBy_63 : decode cX12_alikeBy 63 = .ok (.iconst 4, 1) := by decide +kernel
theorem dX12_alikeBy_64 : decode cX12_alikeBy 64 = .ok (.iaload, 1) := by decide +kernel
theorem dX12_alikeBy_65 : decode cX12_alikeBy 65 = .ok (.if_icmp .ge 82, 3) := by decide +kernel
theorem dX12_alikeBy_68 : decode cX12_alikeBy 68 = .ok (.iconst 0, 1) := by decide +kernel
theorem dX12_alikeBy_69 : decode cX12_alikeBy 69 = .ok (.istore 5, 2) := by decide +kernel
theorem dX12_alikeBy_71 : decode cX12_alikeBy 71 = .ok (.iconst 0, 1) := by decide +kernel
theorem dX12_alikeBy_72 : decode cX12_alikeBy 72 = .ok (.istore 6, 2) := by decide +kernel
theorem dX12_alikeBy_74 : decode cX12_alikeBy 74 = .ok (.iload 6, 2) := by decide +kernel
theorem dX12_alikeBy_76 : decode cX12_alikeBy 76 = .ok (.aload_n 0, 1) := by decide +kernel
theorem dX12_alikeBy_77 : decode cX12_alikeBy 77 = .ok (.getfield 39, 3) := by decide +kernel
theorem dX12_alikeBy_80 : decode cX12_alikeBy 80 = .ok (.iconst 4, 1) := by decide +kernel
theorem dX12_alikeBy_81 : decode cX12_alikeBy 81 = .ok (.iaload, 1) := by decide +kernel
theorem dX12_alikeBy_82 : decode cX12_alikeBy 82 = .ok (.if_icmp .ge 46, 3) := by decide +kernel
theorem dX12_alikeBy_85 : decode cX12_alikeBy 85 = .ok (.iload 5, 2) := by decide +kernel
theorem dX12_alikeBy_87 : decode cX12_alikeBy 87 = .ok (.aload_n 0, 1) := by decide +kernel
theorem dX12_alikeBy_88 : decode cX12_alikeBy 88 = .ok (.getfield 58, 3) := by decide +kernel
theorem dX12_alikeBy_91 : decode cX12_alikeBy 91 = .ok (.iload 4, 2) := by decide +kernel
theorem dX12_alikeBy_93 : decode cX12_alikeBy 93 = .ok (.iaload, 1) := by decide +kernel
theorem dX12_alikeBy_94 : decode cX12_alikeBy 94 = .ok (.ifCond .lt 24, 3) := by decide +kernel
theorem dX12_alikeBy_97 : decode cX12_alikeBy 97 = .ok (.aload_n 0, 1) := by decide +kernel
theorem dX12_alikeBy_98 : decode cX12_alikeBy 98 = .ok (.getfield 58, 3) := by decide +kernel
theorem dX12_alikeBy_101 : decode cX12_alikeBy 101 = .ok (.iload 4, 2) := by decide +kernel
theorem dX12_alikeBy_103 : decode cX12_alikeBy 103 = .ok (.iaload, 1) := by decide +kernel
theorem dX12_alikeBy_104 : decode cX12_alikeBy 104 = .ok (.aload_n 0, 1) := by decide +kernel
theorem dX12_alikeBy_105 : decode cX12_alikeBy 105 = .ok (.getfield 58, 3) := by decide +kernel
theorem dX12_alikeBy_108 : decode cX12_alikeBy 108 = .ok (.iload 6, 2) := by decide +kernel
theorem dX12_alikeBy_110 : decode cX12_alikeBy 110 = .ok (.iaload, 1) := by decide +kernel
theorem dX12_alikeBy_111 : decode cX12_alikeBy 111 = .ok (.if_icmp .ne 7, 3) := by decide +kernel
theorem dX12_alikeBy_114 : decode cX12_alikeBy 114 = .ok (.iconst 1, 1) := by decide +kernel
theorem dX12_alikeBy_115 : decode cX12_alikeBy 115 = .ok (.goto 4, 3) := by decide +kernel
theorem dX12_alikeBy_118 : decode cX12_alikeBy 118 = .ok (.iconst 0, 1) := by decide +kernel
theorem dX12_alikeBy_119 : decode cX12_alikeBy 119 = .ok (.iadd, 1) := by decide +kernel
theorem dX12_alikeBy_120 : decode cX12_alikeBy 120 = .ok (.istore 5, 2) := by decide +kernel
theorem dX12_alikeBy_122 : decode cX12_alikeBy 122 = .ok (.iinc 6 1, 3) := by decide +kernel
theorem dX12_alikeBy_125 : decode cX12_alikeBy 125 = .ok (.goto (-51), 3) := by decide +kernel
theorem dX12_alikeBy_128 : decode cX12_alikeBy 128 = .ok (.iload 5, 2) := by decide +kernel
theorem dX12_alikeBy_130 : decode cX12_alikeBy 130 = .ok (.iload_n 3, 1) := by decide +kernel
theorem dX12_alikeBy_131 : decode cX12_alikeBy 131 = .ok (.if_icmp .le 8, 3) := by decide +kernel
theorem dX12_alikeBy_134 : decode cX12_alikeBy 134 = .ok (.iload 5, 2) := by decide +kernel
theorem dX12_alikeBy_136 : decode cX12_alikeBy 136 = .ok (.goto 4, 3) := by decide +kernel
theorem dX12_alikeBy_139 : decode cX12_alikeBy 139 = .ok (.iload_n 3, 1) := by decide +kernel
theorem dX12_alikeBy_140 : decode cX12_alikeBy 140 = .ok (.istore_n 3, 1) := by decide +kernel
theorem dX12_alikeBy_141 : decode cX12_alikeBy 141 = .ok (.iinc 4 1, 3) := by decide +kernel
theorem dX12_alikeBy_144 : decode cX12_alikeBy 144 = .ok (.goto (-87), 3) := by decide +kernel
theorem dX12_alikeBy_147 : decode cX12_alikeBy 147 = .ok (.iload_n 3, 1) := by decide +kernel
theorem dX12_alikeBy_148 : decode cX12_alikeBy 148 = .ok (.ireturn, 1) := by decide +kernel
def wp_X12_alikeBy_140 (S : Sh) (k57 : Int → Int → Int → Mm → Prop) (post : Int → Mm → Prop) (u0 : Int) (u4 : Int) (t0 : Int) (M : Mm) : Prop := wA u4 1 fun v1 => k57 u0 t0 v1 M
def wp_X12_alikeBy_119 (S : Sh) (k57 : Int → Int → Int → Mm → Prop) (k74 : Int → Int → Int → Int → Int → Mm → Prop) (post : Int → Mm → Prop) (u0 : Int) (u3 : Int) (u4 : Int) (u6 : Int) (t0 : Int) (t1 : Int) (M : Mm) : Prop := wA t0 t1 fun v3 => wA u6 1 fun v5 => k74 u0 u3 u4 v3 v5 M
def wp_X12_alikeBy_118 (S : Sh) (k57 : Int → Int → Int → Mm → Prop) (k74 : Int → Int → Int → Int → Int → Mm → Prop) (post : Int → Mm → Prop) (u0 : Int) (u3 : Int) (u4 : Int) (u6 : Int) (t0 : Int) (M : Mm) : Prop := wC 0 fun v7 => wp_X12_alikeBy_119 S k57 k74 post u0 u3 u4 u6 t0 v7 M
def wp_X12_alikeBy_74 (S : Sh) (k57 : Int → Int → Int → Mm → Prop) (post : Int → Mm → Prop) : Nat → Int → Int → Int → Int → Int → Mm → Prop
  | 0, _, _, _, _, _, _ => False
  | n + 1, u0, u3, u4, u5, u6, M => wGetR S M u0 12 20 fun v9 => wC 4 fun v11 => wLd S M v9 14 v11 fun v13 => wIf (v13 ≤ u6) (wIf (u5 ≤ u3) (wp_X12_alikeBy_140 S k57 post u0 u4 u3 M) (wp_X12_alikeBy_140 S k57 post u0 u4 u5 M)) (wGetR S M u0 12 30 fun v15 => wLd S M v15 14 u4 fun v17 => wIf (v17 < 0) (wp_X12_alikeBy_118 S k57 (fun a0 a1 a2 a3 a4 M => wp_X12_alikeBy_74 S k57 post n a0 a1 a2 a3 a4 M) post u0 u3 u4 u6 u5 M) (wGetR S M u0 12 30 fun v19 => wLd S M v19 14 u4 fun v21 => wGetR S M u0 12 30 fun v23 => wLd S M v23 14 u6 fun v25 => wIf (¬ v21 = v25) (wp_X12_alikeBy_118 S k57 (fun a0 a1 a2 a3 a4 M => wp_X12_alikeBy_74 S k57 post n a0 a1 a2 a3 a4 M) post u0 u3 u4 u6 u5 M) (wC 1 fun v27 => wp_X12_alikeBy_119 S k57 (fun a0 a1 a2 a3 a4 M => wp_X12_alikeBy_74 S k57 post n a0 a1 a2 a3 a4 M) post u0 u3 u4 u6 u5 v27 M)))
def wp_X12_alikeBy_57 (S : Sh) (post : Int → Mm → Prop) : Nat → Int → Int → Int → Mm → Prop
  | 0, _, _, _, _ => False
  | n + 1, u0, u3, u4, M => wGetR S M u0 12 20 fun v29 => wC 4 fun v31 => wLd S M v29 14 v31 fun v33 => wIf (v33 ≤ u4) (post u3 M) (wC 0 fun v35 => wC 0 fun v37 => ∃ n9 : Nat, wp_X12_alikeBy_74 S (fun a0 a1 a2 M => wp_X12_alikeBy_57 S post n a0 a1 a2 M) post n9 u0 u3 u4 v35 v37 M)
def wp_X12_alikeBy_45 (S : Sh) (k2 : Int → Int → Int → Int → Mm → Prop) (post : Int → Mm → Prop) (u0 : Int) (u1 : Int) (u2 : Int) (u3 : Int) (t0 : Int) (t1 : Int) (t2 : Int) (M : Mm) : Prop := wSt S M t0 14 t1 t2 fun M39 => wA u3 1 fun v40 => k2 u0 u1 u2 v40 M39
def wp_X12_alikeBy_2 (S : Sh) (post : Int → Mm → Prop) : Nat → Int → Int → Int → Int → Mm → Prop
  | 0, _, _, _, _, _ => False
  | n + 1, u0, u1, u2, u3, M => wGetR S M u0 12 20 fun v42 => wC 4 fun v44 => wLd S M v42 14 v44 fun v46 => wIf (v46 ≤ u3) (wC 0 fun v48 => wC 0 fun v50 => ∃ n9 : Nat, wp_X12_alikeBy_57 S post n9 u0 v48 v50 M) (wGetR S M u0 12 30 fun v52 => wp_X12_isOf S M u1 u3 <| fun v55 M54 => wIf (v55 = 0) (wC (-1) fun v57 => wp_X12_alikeBy_45 S (fun a0 a1 a2 a3 M => wp_X12_alikeBy_2 S post n a0 a1 a2 a3 M) post u0 u1 u2 u3 v52 u3 v57 M54) (wC 0 fun v59 => wC 0 fun v61 => wGetR S M54 u0 12 20 fun v63 => wC 7 fun v65 => wLd S M54 v63 14 v65 fun v67 => wC 0 fun v69 => isK S u0 12 ∧ (wp_X12_turnedBy S M54 u0 u3 v59 v61 u2 v67 v69 <| fun v72 M71 => wp_X12_alikeBy_45 S (fun a0 a1 a2 a3 M => wp_X12_alikeBy_2 S post n a0 a1 a2 a3 M) post u0 u1 u2 u3 v52 u3 v72 M71)))
def wp_X12_alikeBy (S : Sh) (M : Mm) (u0 : Int) (u1 : Int) (u2 : Int) (post : Int → Mm → Prop) : Prop := wC 0 fun v74 => ∃ n9 : Nat, wp_X12_alikeBy_2 S post n9 u0 u1 u2 v74 M
set_option maxHeartbeats 4000000 in
set_option maxRecDepth 100000 in
theorem t_X12_alikeBy_140 {p : Program} {l : Launch} {e : Env} {s : State} {m : MethodId} {args : Array Value} {below : List Frame} {meth : Method} {c : Code} {D : va_G} {G : Gt} {S : Sh} {post : Int → Mm → Prop} {k57 : Int → Int → Int → Mm → Prop} (C : Cx p s m args meth c D G cX12_alikeBy 7 (some .int) (cw_X12_alikeBy :: gw) RX12) (hk57 : ∀ (y0 : Int) (y3 : Int32) (y4 : Int32) (M : Mm) (H : Heap) (locs : List Loc) (ls : Array Slot), Wd D G S M H → va_S (aG G) s.heap H locs → lv_has ls 7 [(0, .ref (adr G y0)), (3, .int y3), (4, .int y4)] → k57 y0 y3.toInt y4.toInt M → W p l e RM_X12_alikeBy s m args below meth c H locs 0 0 (MQ below (QI D G S post) args s 0 0 (aG G)) (F0 m 57 ls [])) : ∀ (xl0 : Int) (zl4 : Int32) (zs0 : Int32) (M : Mm) (H : Heap) (locs : List Loc) (ls : Array Slot), Wd D G S M H → va_S (aG G) s.heap H locs → lv_has ls 7 [(0, .ref (adr G xl0)), (4, .int zl4)] → wp_X12_alikeBy_140 S k57 post xl0 zl4.toInt zs0.toInt M → W p l e RM_X12_alikeBy s m args below meth c H locs 0 0 (MQ below (QI D G S post) args s 0 0 (aG G)) (F0 m 140 ls [.int zs0]) := by
  obtain ⟨hx, hb, hr, hlocks, hml, hown, hts, hK⟩ := id C
  intro xl0 zl4 zs0 M H locs ls hP hS hl h
  unfold wp_X12_alikeBy_140 at h
  refine lv_istore_n (lv' := [(3, .int zs0), (0, .ref (adr G xl0)), (4, .int zl4)]) hx hb dX12_alikeBy_140 rfl hl (by decide) rfl (fun ls hl => ?_)
  refine r_iinc hx hb (fun z2 => [(4, .int z2), (3, .int zs0), (0, .ref (adr G xl0))]) dX12_alikeBy_141 (by decide) hl (k := 2) rfl (by decide) (fun _ => rfl) h (fun z2 ls hl h => ?_)
  refine lv_goto (tgt := 57) hx hb dX12_alikeBy_144 (by decide) ?_
  exact hk57 xl0 zs0 z2 _ _ _ _ hP hS (lv_sub hl [2, 1, 0] rfl) h
set_option maxHeartbeats 4000000 in
set_option maxRecDepth 100000 in
theorem t_X12_alikeBy_119 {p : Program} {l : Launch} {e : Env} {s : State} {m : MethodId} {args : Array Value} {below : List Frame} {meth : Method} {c : Code} {D : va_G} {G : Gt} {S : Sh} {post : Int → Mm → Prop} {k57 : Int → Int → Int → Mm → Prop} {k74 : Int → Int → Int → Int → Int → Mm → Prop} (C : Cx p s m args meth c D G cX12_alikeBy 7 (some .int) (cw_X12_alikeBy :: gw) RX12) (hk57 : ∀ (y0 : Int) (y3 : Int32) (y4 : Int32) (M : Mm) (H : Heap) (locs : List Loc) (ls : Array Slot), Wd D G S M H → va_S (aG G) s.heap H locs → lv_has ls 7 [(0, .ref (adr G y0)), (3, .int y3), (4, .int y4)] → k57 y0 y3.toInt y4.toInt M → W p l e RM_X12_alikeBy s m args below meth c H locs 0 0 (MQ below (QI D G S post) args s 0 0 (aG G)) (F0 m 57 ls [])) (hk74 : ∀ (y0 : Int) (y3 : Int32) (y4 : Int32) (y5 : Int32) (y6 : Int32) (M : Mm) (H : Heap) (locs : List Loc) (ls : Array Slot), Wd D G S M H → va_S (aG G) s.heap H locs → lv_has ls 7 [(0, .ref (adr G y0)), (3, .int y3), (4, .int y4), (5, .int y5), (6, .int y6)] → k74 y0 y3.toInt y4.toInt y5.toInt y6.toInt M → W p l e RM_X12_alikeBy s m args below meth c H locs 0 0 (MQ below (QI D G S post) args s 0 0 (aG G)) (F0 m 74 ls [])) : ∀ (xl0 : Int) (zl3 : Int32) (zl4 : Int32) (zl6 : Int32) (zs0 : Int32) (zs1 : Int32) (M : Mm) (H : Heap) (locs : List Loc) (ls : Array Slot), Wd D G S M H → va_S (aG G) s.heap H locs → lv_has ls 7 [(0, .ref (adr G xl0)), (3, .int zl3), (4, .int zl4), (6, .int zl6)] → wp_X12_alikeBy_119 S k57 k74 post xl0 zl3.toInt zl4.toInt zl6.toInt zs0.toInt zs1.toInt M → W p l e RM_X12_alikeBy s m args below meth c H locs 0 0 (MQ below (QI D G S post) args s 0 0 (aG G)) (F0 m 119 ls [.int zs1, .int zs0]) := by
  obtain ⟨hx, hb, hr, hlocks, hml, hown, hts, hK⟩ := id C
  intro xl0 zl3 zl4 zl6 zs0 zs1 M H locs ls hP hS hl h
  unfold wp_X12_alikeBy_119 at h
  refine r_iadd hx hb dX12_alikeBy_119 h (fun z4 h => ?_)
  refine lv_istore (lv' := [(5, .int z4), (0, .ref (adr G xl0)), (3, .int zl3), (4, .int zl4), (6, .int zl6)]) hx hb dX12_alikeBy_120 hl (by decide) rfl (fun ls hl => ?_)
  refine r_iinc hx hb (fun z6 => [(6, .int z6), (5, .int z4), (0, .ref (adr G xl0)), (3, .int zl3), (4, .int zl4)]) dX12_alikeBy_122 (by decide) hl (k := 4) rfl (by decide) (fun _ => rfl) h (fun z6 ls hl h => ?_)
  refine lv_goto (tgt := 74) hx hb dX12_alikeBy_125 (by decide) ?_
  exact hk74 xl0 zl3 zl4 z4 z6 _ _ _ _ hP hS (lv_sub hl [2, 3, 4, 1, 0] rfl) h
set_option maxHeartbeats 4000000 in
set_option maxRecDepth 100000 in
theorem t_X12_alikeBy_118 {p : Program} {l : Launch} {e : Env} {s : State} {m : MethodId} {args : Array Value} {below : List Frame} {meth : Method} {c : Code} {D : va_G} {G : Gt} {S : Sh} {post : Int → Mm → Prop} {k57 : Int → Int → Int → Mm → Prop} {k74 : Int → Int → Int → Int → Int → Mm → Prop} (C : Cx p s m args meth c D G cX12_alikeBy 7 (some .int) (cw_X12_alikeBy :: gw) RX12) (hk57 : ∀ (y0 : Int) (y3 : Int32) (y4 : Int32) (M : Mm) (H : Heap) (locs : List Loc) (ls : Array Slot), Wd D G S M H → va_S (aG G) s.heap H locs → lv_has ls 7 [(0, .ref (adr G y0)), (3, .int y3), (4, .int y4)] → k57 y0 y3.toInt y4.toInt M → W p l e RM_X12_alikeBy s m args below meth c H locs 0 0 (MQ below (QI D G S post) args s 0 0 (aG G)) (F0 m 57 ls [])) (hk74 : ∀ (y0 : Int) (y3 : Int32) (y4 : Int32) (y5 : Int32) (y6 : Int32) (M : Mm) (H : Heap) (locs : List Loc) (ls : Array Slot), Wd D G S M H → va_S (aG G) s.heap H locs → lv_has ls 7 [(0, .ref (adr G y0)), (3, .int y3), (4, .int y4), (5, .int y5), (6, .int y6)] → k74 y0 y3.toInt y4.toInt y5.toInt y6.toInt M → W p l e RM_X12_alikeBy s m args below meth c H locs 0 0 (MQ below (QI D G S post) args s 0 0 (aG G)) (F0 m 74 ls [])) : ∀ (xl0 : Int) (zl3 : Int32) (zl4 : Int32) (zl6 : Int32) (zs0 : Int32) (M : Mm) (H : Heap) (locs : List Loc) (ls : Array Slot), Wd D G S M H → va_S (aG G) s.heap H locs → lv_has ls 7 [(0, .ref (adr G xl0)), (3, .int zl3), (4, .int zl4), (6, .int zl6)] → wp_X12_alikeBy_118 S k57 k74 post xl0 zl3.toInt zl4.toInt zl6.toInt zs0.toInt M → W p l e RM_X12_alikeBy s m args below meth c H locs 0 0 (MQ below (QI D G S post) args s 0 0 (aG G)) (F0 m 118 ls [.int zs0]) := by
  obtain ⟨hx, hb, hr, hlocks, hml, hown, hts, hK⟩ := id C
  intro xl0 zl3 zl4 zl6 zs0 M H locs ls hP hS hl h
  unfold wp_X12_alikeBy_118 at h
  refine r_iconst hx hb dX12_alikeBy_118 (by decide) h (fun z8 h => ?_)
  exact t_X12_alikeBy_119 C hk57 hk74 xl0 zl3 zl4 zl6 zs0 z8 _ _ _ _ hP hS (lv_sub hl [0, 1, 2, 3] rfl) h
set_option maxHeartbeats 4000000 in
set_option maxRecDepth 100000 in
theorem t_X12_alikeBy_74 {p : Program} {l : Launch} {e : Env} {s : State} {m : MethodId} {args : Array Value} {below : List Frame} {meth : Method} {c : Code} {D : va_G} {G : Gt} {S : Sh} {post : Int → Mm → Prop} {k57 : Int → Int → Int → Mm → Prop} (C : Cx p s m args meth c D G cX12_alikeBy 7 (some .int) (cw_X12_alikeBy :: gw) RX12) (hk57 : ∀ (y0 : Int) (y3 : Int32) (y4 : Int32) (M : Mm) (H : Heap) (locs : List Loc) (ls : Array Slot), Wd D G S M H → va_S (aG G) s.heap H locs → lv_has ls 7 [(0, .ref (adr G y0)), (3, .int y3), (4, .int y4)] → k57 y0 y3.toInt y4.toInt M → W p l e RM_X12_alikeBy s m args below meth c H locs 0 0 (MQ below (QI D G S post) args s 0 0 (aG G)) (F0 m 57 ls [])) : ∀ (n : Nat) (xl0 : Int) (zl3 : Int32) (zl4 : Int32) (zl5 : Int32) (zl6 : Int32) (M : Mm) (H : Heap) (locs : List Loc) (ls : Array Slot), Wd D G S M H → va_S (aG G) s.heap H locs → lv_has ls 7 [(0, .ref (adr G xl0)), (3, .int zl3), (4, .int zl4), (5, .int zl5), (6, .int zl6)] → wp_X12_alikeBy_74 S k57 post n xl0 zl3.toInt zl4.toInt zl5.toInt zl6.toInt  M → W p l e RM_X12_alikeBy s m args below meth c H locs 0 0 (MQ below (QI D G S post) args s 0 0 (aG G)) (F0 m 74 ls []) := by
  obtain ⟨hx, hb, hr, hlocks, hml, hown, hts, hK⟩ := id C
  intro n
  induction n with
  | zero => intro xl0 zl3 zl4 zl5 zl6 M H locs ls hP hS hl h; exact h.elim
  | succ n ih =>
    intro xl0 zl3 zl4 zl5 zl6 M H locs ls hP hS hl h
    unfold wp_X12_alikeBy_74 at h
    refine lv_iload hx hb dX12_alikeBy_74 (lv_at hl 4 rfl) ?_
    refine lv_aload_n hx hb dX12_alikeBy_76 rfl (lv_at hl 0 rfl) ?_
    refine r_getr (C := RX12) (T := TX12) (N := 38) hx hb hts (fun w h => List.mem_cons_of_mem _ (iX12 w h)) hown hK hP rfl (by decide) rfl 20 (by decide) (hts _ (List.mem_cons_of_mem _ kw_1354)) (fun _ h9 => h9) dX12_alikeBy_77 (by decide) h (fun x10 h => ?_)
    refine r_iconst hx hb dX12_alikeBy_80 (by decide) h (fun z12 h => ?_)
    refine r_iald hx hb hK hP dX12_alikeBy_81 h (fun z14 h => ?_)
    refine r_icmp_ge (tgt := 128) hx hb dX12_alikeBy_82 (by decide) h (fun h => ?_) (fun h => ?_)
    · refine lv_iload hx hb dX12_alikeBy_128 (lv_at hl 3 rfl) ?_
      refine lv_iload_n hx hb dX12_alikeBy_130 rfl (lv_at hl 1 rfl) ?_
      refine r_icmp_le (tgt := 139) hx hb dX12_alikeBy_131 (by decide) h (fun h => ?_) (fun h => ?_)
      · refine lv_iload_n hx hb dX12_alikeBy_139 rfl (lv_at hl 1 rfl) ?_
        exact t_X12_alikeBy_140 C hk57 xl0 zl4 zl3 _ _ _ _ hP hS (lv_sub hl [0, 2] rfl) h
      · refine lv_iload hx hb dX12_alikeBy_134 (lv_at hl 3 rfl) ?_
        refine lv_goto (tgt := 140) hx hb dX12_alikeBy_136 (by decide) ?_
        exact t_X12_alikeBy_140 C hk57 xl0 zl4 zl5 _ _ _ _ hP hS (lv_sub hl [0, 2] rfl) h
    · refine lv_iload hx hb dX12_alikeBy_85 (lv_at hl 3 rfl) ?_
      refine lv_aload_n hx hb dX12_alikeBy_87 rfl (lv_at hl 0 rfl) ?_
      refine r_getr (C := RX12) (T := TX12) (N := 38) hx hb hts (fun w h => List.mem_cons_of_mem _ (iX12 w h)) hown hK hP rfl (by decide) rfl 30 (by decide) (hts _ (List.mem_cons_of_mem _ kw_1364)) (fun _ h9 => h9) dX12_alikeBy_88 (by decide) h (fun x16 h => ?_)
      refine lv_iload hx hb dX12_alikeBy_91 (lv_at hl 2 rfl) ?_
      refine r_iald hx hb hK hP dX12_alikeBy_93 h (fun z18 h => ?_)
      refine r_if_lt (tgt := 118) hx hb dX12_alikeBy_94 (by decide) h (fun h => ?_) (fun h => ?_)
      · exact t_X12_alikeBy_118 C hk57 ih xl0 zl3 zl4 zl6 zl5 _ _ _ _ hP hS (lv_sub hl [0, 1, 2, 4] rfl) h
      · refine lv_aload_n hx hb dX12_alikeBy_97 rfl (lv_at hl 0 rfl) ?_
        refine r_getr (C := RX12) (T := TX12) (N := 38) hx hb hts (fun w h => List.mem_cons_of_mem _ (iX12 w h)) hown hK hP rfl (by decide) rfl 30 (by decide) (hts _ (List.mem_cons_of_mem _ kw_1364)) (fun _ h9 => h9) dX12_alikeBy_98 (by decide) h (fun x20 h => ?_)
        refine lv_iload hx hb dX12_alikeBy_101 (lv_at hl 2 rfl) ?_
        refine r_iald hx hb hK hP dX12_alikeBy_103 h (fun z22 h => ?_)
        refine lv_aload_n hx hb dX12_alikeBy_104 rfl (lv_at hl 0 rfl) ?_
        refine r_getr (C := RX12) (T := TX12) (N := 38) hx hb hts (fun w h => List.mem_cons_of_mem _ (iX12 w h)) hown hK hP rfl (by decide) rfl 30 (by decide) (hts _ (List.mem_cons_of_mem _ kw_1364)) (fun _ h9 => h9) dX12_alikeBy_105 (by decide) h (fun x24 h => ?_)
        refine lv_iload hx hb dX12_alikeBy_108 (lv_at hl 4 rfl) ?_
        refine r_iald hx hb hK hP dX12_alikeBy_110 h (fun z26 h => ?_)
        refine r_icmp_ne (tgt := 118) hx hb dX12_alikeBy_111 (by decide) h (fun h => ?_) (fun h => ?_)
        · exact t_X12_alikeBy_118 C hk57 ih xl0 zl3 zl4 zl6 zl5 _ _ _ _ hP hS (lv_sub hl [0, 1, 2, 4] rfl) h
        · refine r_iconst hx hb dX12_alikeBy_114 (by decide) h (fun z28 h => ?_)
          refine lv_goto (tgt := 119) hx hb dX12_alikeBy_115 (by decide) ?_
          exact t_X12_alikeBy_119 C hk57 ih xl0 zl3 zl4 zl6 zl5 z28 _ _ _ _ hP hS (lv_sub hl [0, 1, 2, 4] rfl) h
set_option maxHeartbeats 4000000 in
set_option maxRecDepth 100000 in
theorem t_X12_alikeBy_57 {p : Program} {l : Launch} {e : Env} {s : State} {m : MethodId} {args : Array Value} {below : List Frame} {meth : Method} {c : Code} {D : va_G} {G : Gt} {S : Sh} {post : Int → Mm → Prop} (C : Cx p s m args meth c D G cX12_alikeBy 7 (some .int) (cw_X12_alikeBy :: gw) RX12) : ∀ (n : Nat) (xl0 : Int) (zl3 : Int32) (zl4 : Int32) (M : Mm) (H : Heap) (locs : List Loc) (ls : Array Slot), Wd D G S M H → va_S (aG G) s.heap H locs → lv_has ls 7 [(0, .ref (adr G xl0)), (3, .int zl3), (4, .int zl4)] → wp_X12_alikeBy_57 S post n xl0 zl3.toInt zl4.toInt  M → W p l e RM_X12_alikeBy s m args below meth c H locs 0 0 (MQ below (QI D G S post) args s 0 0 (aG G)) (F0 m 57 ls []) := by
  obtain ⟨hx, hb, hr, hlocks, hml, hown, hts, hK⟩ := id C
  intro n
  induction n with
  | zero => intro xl0 zl3 zl4 M H locs ls hP hS hl h; exact h.elim
  | succ n ih =>
    intro xl0 zl3 zl4 M H locs ls hP hS hl h
    unfold wp_X12_alikeBy_57 at h
    refine lv_iload hx hb dX12_alikeBy_57 (lv_at hl 2 rfl) ?_
    refine lv_aload_n hx hb dX12_alikeBy_59 rfl (lv_at hl 0 rfl) ?_
    refine r_getr (C := RX12) (T := TX12) (N := 38) hx hb hts (fun w h => List.mem_cons_of_mem _ (iX12 w h)) hown hK hP rfl (by decide) rfl 20 (by decide) (hts _ (List.mem_cons_of_mem _ kw_1354)) (fun _ h9 => h9) dX12_alikeBy_60 (by decide) h (fun x30 h => ?_)
    refine r_iconst hx hb dX12_alikeBy_63 (by decide) h (fun z32 h => ?_)
    refine r_iald hx hb hK hP dX12_alikeBy_64 h (fun z34 h => ?_)
    refine r_icmp_ge (tgt := 147) hx hb dX12_alikeBy_65 (by decide) h (fun h => ?_) (fun h => ?_)
    · refine lv_iload_n hx hb dX12_alikeBy_147 rfl (lv_at hl 1 rfl) ?_
      exact r_iret hx hb hr hlocks hP hS dX12_alikeBy_148 h
    · refine r_iconst hx hb dX12_alikeBy_68 (by decide) h (fun z36 h => ?_)
      refine lv_istore (lv' := [(5, .int z36), (0, .ref (adr G xl0)), (3, .int zl3), (4, .int zl4)]) hx hb dX12_alikeBy_69 hl (by decide) rfl (fun ls hl => ?_)
      refine r_iconst hx hb dX12_alikeBy_71 (by decide) h (fun z38 h => ?_)
      refine lv_istore (lv' := [(6, .int z38), (5, .int z36), (0, .ref (adr G xl0)), (3, .int zl3), (4, .int zl4)]) hx hb dX12_alikeBy_72 hl (by decide) rfl (fun ls hl => ?_)
      obtain ⟨n9, h⟩ := h
      exact t_X12_alikeBy_74 C ih n9 xl0 zl3 zl4 z36 z38 _ _ _ _ hP hS (lv_sub hl [2, 3, 4, 1, 0] rfl) h
set_option maxHeartbeats 4000000 in
set_option maxRecDepth 100000 in
theorem t_X12_alikeBy_45 {p : Program} {l : Launch} {e : Env} {s : State} {m : MethodId} {args : Array Value} {below : List Frame} {meth : Method} {c : Code} {D : va_G} {G : Gt} {S : Sh} {post : Int → Mm → Prop} {k2 : Int → Int → Int → Int → Mm → Prop} (C : Cx p s m args meth c D G cX12_alikeBy 7 (some .int) (cw_X12_alikeBy :: gw) RX12) (hk2 : ∀ (y0 : Int) (y1 : Int32) (y2 : Int32) (y3 : Int32) (M : Mm) (H : Heap) (locs : List Loc) (ls : Array Slot), Wd D G S M H → va_S (aG G) s.heap H locs → lv_has ls 7 [(0, .ref (adr G y0)), (1, .int y1), (2, .int y2), (3, .int y3)] → k2 y0 y1.toInt y2.toInt y3.toInt M → W p l e RM_X12_alikeBy s m args below meth c H locs 0 0 (MQ below (QI D G S post) args s 0 0 (aG G)) (F0 m 2 ls [])) : ∀ (xl0 : Int) (zl1 : Int32) (zl2 : Int32) (zl3 : Int32) (xs0 : Int) (zs1 : Int32) (zs2 : Int32) (M : Mm) (H : Heap) (locs : List Loc) (ls : Array Slot), Wd D G S M H → va_S (aG G) s.heap H locs → lv_has ls 7 [(0, .ref (adr G xl0)), (1, .int zl1), (2, .int zl2), (3, .int zl3)] → wp_X12_alikeBy_45 S k2 post xl0 zl1.toInt zl2.toInt zl3.toInt xs0 zs1.toInt zs2.toInt M → W p l e RM_X12_alikeBy s m args below meth c H locs 0 0 (MQ below (QI D G S post) args s 0 0 (aG G)) (F0 m 45 ls [.int zs2, .int zs1, .ref (adr G xs0)]) := by
  obtain ⟨hx, hb, hr, hlocks, hml, hown, hts, hK⟩ := id C
  intro xl0 zl1 zl2 zl3 xs0 zs1 zs2 M H locs ls hP hS hl h
  unfold wp_X12_alikeBy_45 at h
  refine r_iast hx hb hK hP hS dX12_alikeBy_45 h (fun M39 H locs h hP hS => ?_)
  refine r_iinc hx hb (fun z41 => [(3, .int z41), (0, .ref (adr G xl0)), (1, .int zl1), (2, .int zl2)]) dX12_alikeBy_46 (by decide) hl (k := 3) rfl (by decide) (fun _ => rfl) h (fun z41 ls hl h => ?_)
  refine lv_goto (tgt := 2) hx hb dX12_alikeBy_49 (by decide) ?_
  exact hk2 xl0 zl1 zl2 z41 _ _ _ _ hP hS (lv_sub hl [1, 2, 3, 0] rfl) h
set_option maxHeartbeats 4000000 in
set_option maxRecDepth 100000 in
theorem t_X12_alikeBy_2 {p : Program} {l : Launch} {e : Env} {s : State} {m : MethodId} {args : Array Value} {below : List Frame} {meth : Method} {c : Code} {D : va_G} {G : Gt} {S : Sh} {post : Int → Mm → Prop} (C : Cx p s m args meth c D G cX12_alikeBy 7 (some .int) (cw_X12_alikeBy :: gw) RX12) : ∀ (n : Nat) (xl0 : Int) (zl1 : Int32) (zl2 : Int32) (zl3 : Int32) (M : Mm) (H : Heap) (locs : List Loc) (ls : Array Slot), Wd D G S M H → va_S (aG G) s.heap H locs → lv_has ls 7 [(0, .ref (adr G xl0)), (1, .int zl1), (2, .int zl2), (3, .int zl3)] → wp_X12_alikeBy_2 S post n xl0 zl1.toInt zl2.toInt zl3.toInt  M → W p l e RM_X12_alikeBy s m args below meth c H locs 0 0 (MQ below (QI D G S post) args s 0 0 (aG G)) (F0 m 2 ls []) := by
  obtain ⟨hx, hb, hr, hlocks, hml, hown, hts, hK⟩ := id C
  intro n
  induction n with
  | zero => intro xl0 zl1 zl2 zl3 M H locs ls hP hS hl h; exact h.elim
  | succ n ih =>
    intro xl0 zl1 zl2 zl3 M H locs ls hP hS hl h
    unfold wp_X12_alikeBy_2 at h
    refine lv_iload_n hx hb dX12_alikeBy_2 rfl (lv_at hl 3 rfl) ?_
    refine lv_aload_n hx hb dX12_alikeBy_3 rfl (lv_at hl 0 rfl) ?_
    refine r_getr (C := RX12) (T := TX12) (N := 38) hx hb hts (fun w h => List.mem_cons_of_mem _ (iX12 w h)) hown hK hP rfl (by decide) rfl 20 (by decide) (hts _ (List.mem_cons_of_mem _ kw_1354)) (fun _ h9 => h9) dX12_alikeBy_4 (by decide) h (fun x43 h => ?_)
    refine r_iconst hx hb dX12_alikeBy_7 (by decide) h (fun z45 h => ?_)
    refine r_iald hx hb hK hP dX12_alikeBy_8 h (fun z47 h => ?_)
    refine r_icmp_ge (tgt := 52) hx hb dX12_alikeBy_9 (by decide) h (fun h => ?_) (fun h => ?_)
    · refine r_iconst hx hb dX12_alikeBy_52 (by decide) h (fun z49 h => ?_)
      refine lv_istore_n (lv' := [(3, .int z49), (0, .ref (adr G xl0)), (1, .int zl1), (2, .int zl2)]) hx hb dX12_alikeBy_53 rfl hl (by decide) rfl (fun ls hl => ?_)
      refine r_iconst hx hb dX12_alikeBy_54 (by decide) h (fun z51 h => ?_)
      refine lv_istore (lv' := [(4, .int z51), (3, .int z49), (0, .ref (adr G xl0)), (1, .int zl1), (2, .int zl2)]) hx hb dX12_alikeBy_55 hl (by decide) rfl (fun ls hl => ?_)
      obtain ⟨n9, h⟩ := h
      exact t_X12_alikeBy_57 C n9 xl0 z49 z51 _ _ _ _ hP hS (lv_sub hl [2, 1, 0] rfl) h
    · refine lv_aload_n hx hb dX12_alikeBy_12 rfl (lv_at hl 0 rfl) ?_
      refine r_getr (C := RX12) (T := TX12) (N := 38) hx hb hts (fun w h => List.mem_cons_of_mem _ (iX12 w h)) hown hK hP rfl (by decide) rfl 30 (by decide) (hts _ (List.mem_cons_of_mem _ kw_1364)) (fun _ h9 => h9) dX12_alikeBy_13 (by decide) h (fun x53 h => ?_)
      refine lv_iload_n hx hb dX12_alikeBy_16 rfl (lv_at hl 3 rfl) ?_
      refine lv_iload_n hx hb dX12_alikeBy_17 rfl (lv_at hl 1 rfl) ?_
      refine lv_iload_n hx hb dX12_alikeBy_18 rfl (lv_at hl 3 rfl) ?_
      refine q_Si hx hb hml hown hts hK hP hS (c_X12_isOf l D G S _ zl1 zl3 _ h) ⟨callB_of 2 hts (gw_good kw_1865) rfl rfl rfl (hts _ (List.mem_cons_of_mem _ kw_14)) (hts _ (List.mem_cons_of_mem _ kw_1863)) hd_X12_isOf ⟨Nat.le_of_ble_eq_true rfl, Nat.le_of_ble_eq_true rfl⟩, (hts _ (List.mem_cons_of_mem _ kw_1864))⟩ rfl hl.1 rfl (lv_room (Nat.le_of_ble_eq_true rfl)) dX12_alikeBy_19 ⟨Nat.zero_le _, Nat.zero_le _⟩ (fun z56 M54 H locs h hP hS => ?_)
      refine r_if_eq (tgt := 44) hx hb dX12_alikeBy_22 (by decide) h (fun h => ?_) (fun h => ?_)
      · refine r_iconst hx hb dX12_alikeBy_44 (by decide) h (fun z58 h => ?_)
        exact t_X12_alikeBy_45 C ih xl0 zl1 zl2 zl3 x53 zl3 z58 _ _ _ _ hP hS (lv_sub hl [0, 1, 2, 3] rfl) h
      · refine lv_aload_n hx hb dX12_alikeBy_25 rfl (lv_at hl 0 rfl) ?_
        refine lv_iload_n hx hb dX12_alikeBy_26 rfl (lv_at hl 3 rfl) ?_
        refine r_iconst hx hb dX12_alikeBy_27 (by decide) h (fun z60 h => ?_)
        refine r_iconst hx hb dX12_alikeBy_28 (by decide) h (fun z62 h => ?_)
        refine lv_iload_n hx hb dX12_alikeBy_29 rfl (lv_at hl 2 rfl) ?_
        refine lv_aload_n hx hb dX12_alikeBy_30 rfl (lv_at hl 0 rfl) ?_
        refine r_getr (C := RX12) (T := TX12) (N := 38) hx hb hts (fun w h => List.mem_cons_of_mem _ (iX12 w h)) hown hK hP rfl (by decide) rfl 20 (by decide) (hts _ (List.mem_cons_of_mem _ kw_1354)) (fun _ h9 => h9) dX12_alikeBy_31 (by decide) h (fun x64 h => ?_)
        refine r_bipush hx hb dX12_alikeBy_34 (by decide) h (fun z66 h => ?_)
        refine r_iald hx hb hK hP dX12_alikeBy_36 h (fun z68 h => ?_)
        refine r_iconst hx hb dX12_alikeBy_37 (by decide) h (fun z70 h => ?_)
        refine q_Vi hx hb hml hown hts hK hP hS (c_X12_turnedBy l D G S _ xl0 zl3 z60 z62 zl2 z68 z70 _ h.2) ⟨callB_of 6 hts (gw_good kw_1829) rfl rfl rfl (hts _ (List.mem_cons_of_mem _ kw_14)) (hts _ (List.mem_cons_of_mem _ kw_1826)) hd_X12_turnedBy ⟨Nat.le_of_ble_eq_true rfl, Nat.le_of_ble_eq_true rfl⟩, (hts _ (List.mem_cons_of_mem _ kw_1828)), (hts _ (List.mem_cons_of_mem _ kp_118))⟩ h.1 (ci := 12) rfl (by decide) rfl hl.1 rfl (lv_room (Nat.le_of_ble_eq_true rfl)) dX12_alikeBy_38 ⟨Nat.zero_le _, Nat.zero_le _⟩ (fun z73 M71 H locs h hP hS => ?_)
        refine lv_goto (tgt := 45) hx hb dX12_alikeBy_41 (by decide) ?_
        exact t_X12_alikeBy_45 C ih xl0 zl1 zl2 zl3 x53 zl3 z73 _ _ _ _ hP hS (lv_sub hl [0, 1, 2, 3] rfl) h
set_option maxHeartbeats 4000000 in
set_option maxRecDepth 100000 in
theorem c_X12_alikeBy (l : Launch) (D : va_G) (G : Gt) (S : Sh) (M : Mm) (xl0 : Int) (zl1 : Int32) (zl2 : Int32) (post : Int → Mm → Prop) (h : wp_X12_alikeBy S M xl0 zl1.toInt zl2.toInt post) : Met l yX12_alikeBy (cw_X12_alikeBy :: gw) RM_X12_alikeBy (va_Pc [.ref (adr G xl0), .int zl1, .int zl2] (fun U => KN D G U ∧ Wd D G S M U.heap)) (QI D G S post) 0 0 (aG G) := by
  refine Met.ofW (cc := cX12_alikeBy) (maxL := 7) (ret := (some .int)) (by decide) rfl ?_
  intro p e s m args below meth c s₁ B hml hv
  obtain ⟨rfl, hK, hP⟩ := hv
  have hx := B.exec
  have hb := B.bytes
  have hr := B.returns
  have hts := atoms_spec (ws := cw_X12_alikeBy :: gw) B.pre
  have hown : s.vm.findClass RX12 = some m.cls := findClass_of_methodNamed B.named
  have hlocks := B.notSynchronized
  have hS : va_S (aG G) s.heap s.heap [] := va_S.rf
  have C : Cx p s m ([.ref (adr G xl0), .int zl1, .int zl2] : List Value).toArray meth c D G cX12_alikeBy 7 (some .int) (cw_X12_alikeBy :: gw) RX12 := ⟨hx, hb, hr, hlocks, hml, hown, hts, hK⟩
  have hl := lv_entry ([.ref (adr G xl0), .int zl1, .int zl2]) (n := 7) (Nat.le_of_ble_eq_true rfl)
  rw [lg_entry_eq]
  generalize (lg_sl ([.ref (adr G xl0), .int zl1, .int zl2]) ++ List.replicate (7 - (lg_sl ([.ref (adr G xl0), .int zl1, .int zl2])).length) Slot.unset).toArray = ls at hl ⊢
  have hl : lv_has ls 7 [(0, .ref (adr G xl0)), (1, .int zl1), (2, .int zl2)] := hl
  unfold wp_X12_alikeBy at h
  refine r_iconst hx hb dX12_alikeBy_0 (by decide) h (fun z75 h => ?_)
  refine lv_istore_n (lv' := [(3, .int z75), (0, .ref (adr G xl0)), (1, .int zl1), (2, .int zl2)]) hx hb dX12_alikeBy_1 rfl hl (by decide) rfl (fun ls hl => ?_)
  obtain ⟨n9, h⟩ := h
  exact t_X12_alikeBy_2 C n9 xl0 zl1 zl2 z75 _ _ _ _ hP hS (lv_sub hl [1, 2, 3, 0] rfl) h
/-! TurningMilkModel.probe(I)I -/
abbrev RM_X12_probe : Room := { frames := 8, cells := 0, slots := 0, locals := 221 }
def cw_X12_probe : Cond := Cond.code yX12_probe cX12_probe 5 (Option.some FieldType.int)
theorem hd_X12_probe : yX12_probe.cls ≠ "java/lang/invoke/MethodHandle" ∧ yX12_probe.cls ≠ "java/lang/invoke/VarHandle" ∧ (parseMethodDescriptor yX12_probe.desc).map (fun d => d.parameters.length) = some 1 := by decide +kernel
theorem dX12_probe_0 : decode cX12_probe 0 = .ok (.aload_n 0, 1) := by decide +kernel
theorem dX12_probe_1 : decode cX12_probe 1 = .ok (.invokevirtual 350, 3) := by decide +kernel
theorem dX12_probe_4 : decode cX12_probe 4 = .ok (.ifCond .eq 13, 3) := by decide +kernel
theorem dX12_probe_7 : decode cX12_probe 7 = .ok (.iload_n 1, 1) := by decide +kernel
theorem dX12_probe_8 : decode cX12_probe 8 = .ok (.i2l, 1) := by decide +kernel
theorem dX12_probe_9 : decode cX12_probe 9 = .ok (.lconst 0, 1) := by decide +kernel
theorem dX12_probe_10 : decode cX12_probe 10 = .ok (.lconst 1, 1) := by decide +kernel
theorem dX12_probe_11 : decode cX12_probe 11 = .ok (.invokestatic 118, 3) := by decide +kernel
theorem dX12_probe_14 : decode cX12_probe 14 = .ok (.ifCond .ne 5, 3) := by decide +kernel
theorem dX12_probe_17 : decode cX12_probe 17 = .ok (.iconst (-1), 1) := by decide +kernel
theorem dX12_probe_18 : decode cX12_probe 18 = .ok (.ireturn, 1) := by decide +kernel
theorem dX12_probe_19 : decode cX12_probe 19 = .ok (.aload_n 0, 1) := by decide +kernel
theorem dX12_probe_20 : decode cX12_probe 20 = .ok (.invokevirtual 441, 3) := by decide +kernel
theorem dX12_probe_23 : decode cX12_probe 23 = .ok (.istore_n 2, 1) := by decide +kernel
theorem dX12_probe_24 : decode cX12_probe 24 = .ok (.iload_n 2, 1) := by decide +kernel
theorem dX12_probe_25 : decode cX12_probe 25 = .ok (.ifCond .ne 6, 3) := by decide +kernel
theorem dX12_probe_28 : decode cX12_probe 28 = .ok (.bipush (-2), 2) := by decide +kernel
theorem dX12_probe_30 : decode cX12_probe 30 = .ok (.ireturn, 1) := by decide +kernel
theorem dX12_probe_31 : decode cX12_probe 31 = .ok (.iconst 1, 1) := by decide +kernel
theorem dX12_probe_32 : decode cX12_probe 32 = .ok (.istore_n 3, 1) := by decide +kernel
theorem dX12_probe_33 : decode cX12_probe 33 = .ok (.iconst 2, 1) := by decide +kernel
theorem dX12_probe_34 : decode cX12_probe 34 = .ok (.istore 4, 2) := by decide +kernel
theorem dX12_probe_36 : decode cX12_probe 36 = .ok (.iload 4, 2) := by decide +kernel
theorem dX12_probe_38 : decode cX12_probe 38 = .ok (.bipush 20, 2) := by decide +kernel
theorem dX12_probe_40 : decode cX12_probe 40 = .ok (.if_icmp .gt 28, 3) := by decide +kernel
theorem dX12_probe_43 : decode cX12_probe 43 = .ok (.aload_n 0, 1) := by decide +kernel
theorem dX12_probe_44 : decode cX12_probe 44 = .ok (.iload_n 2, 1) := by decide +kernel
theorem dX12_probe_45 : decode cX12_probe 45 = .ok (.iload 4, 2) := by decide +kernel
theorem dX12_probe_47 : decode cX12_probe 47 = .ok (.invokevirtual 444, 3) := by decide +kernel
theorem dX12_probe_50 : decode cX12_probe 50 = .ok (.aload_n 0, 1) := by decide +kernel
theorem dX12_probe_51 : decode cX12_probe 51 = .ok (.iload_n 2, 1) := by decide +kernel
theorem dX12_probe_52 : decode cX12_probe 52 = .ok (.iload_n 3, 1) := by decide +kernel
theorem dX12_probe_53 : decode cX12_probe 53 = .ok (.invokevirtual 444, 3) := by decide +kernel
theorem dX12_probe_56 : decode cX12_probe 56 = .ok (.if_icmp .ge 6, 3) := by decide +kernel
theorem dX12_probe_59 : decode cX12_probe 59 = .ok (.iload 4, 2) := by decide +kernel
theorem dX12_probe_61 : decode cX12_probe 61 = .ok (.istore_n 3, 1) := by decide +kernel
theorem dX12_probe_62 : decode cX12_probe 62 = .ok (.iinc 4 1, 3) := by decide +kernel
theorem dX12_probe_65 : decode cX12_probe 65 = .ok (.goto (-29), 3) := by decide +kernel
theorem dX12_probe_68 : decode cX12_probe 68 = .ok (.iload_n 1, 1) := by decide +kernel
theorem dX12_probe_69 : decode cX12_probe 69 = .ok (.ifCond .ne 7, 3) := by decide +kernel
theorem dX12_probe_72 : decode cX12_probe 72 = .ok (.iload_n 3, 1) := by decide +kernel
theorem dX12_probe_73 : decode cX12_probe 73 = .ok (.goto 9, 3) := by decide +kernel
theorem dX12_probe_76 : decode cX12_probe 76 = .ok (.aload_n 0, 1) := by decide +kernel
theorem dX12_probe_77 : decode cX12_probe 77 = .ok (.iload_n 2, 1) := by decide +kernel
theorem dX12_probe_78 : decode cX12_probe 78 = .ok (.iload_n 3, 1) := by decide +kernel
theorem dX12_probe_79 : decode cX12_probe 79 = .ok (.invokevirtual 444, 3) := by decide +kernel
theorem dX12_probe_82 : decode cX12_probe 82 = .ok (.ireturn, 1) := by decide +kernel
def wp_X12_probe_62 (S : Sh) (k36 : Int → Int → Int → Int → Int → Mm → Prop) (post : Int → Mm → Prop) (u0 : Int) (u1 : Int) (u2 : Int) (u3 : Int) (u4 : Int) (M : Mm) : Prop := wA u4 1 fun v1 => k36 u0 u1 u2 u3 v1 M
def wp_X12_probe_36 (S : Sh) (post : Int → Mm → Prop) : Nat → Int → Int → Int → Int → Int → Mm → Prop
  | 0, _, _, _, _, _, _ => False
  | n + 1, u0, u1, u2, u3, u4, M => wC 20 fun v3 => wIf (v3 < u4) (wIf (¬ u1 = 0) (isK S u0 12 ∧ (wp_X12_alikeBy S M u0 u2 u3 <| fun v6 M5 => post v6 M5)) (post u3 M)) (isK S u0 12 ∧ (wp_X12_alikeBy S M u0 u2 u4 <| fun v9 M8 => isK S u0 12 ∧ (wp_X12_alikeBy S M8 u0 u2 u3 <| fun v12 M11 => wIf (v12 ≤ v9) (wp_X12_probe_62 S (fun a0 a1 a2 a3 a4 M => wp_X12_probe_36 S post n a0 a1 a2 a3 a4 M) post u0 u1 u2 u3 u4 M11) (wp_X12_probe_62 S (fun a0 a1 a2 a3 a4 M => wp_X12_probe_36 S post n a0 a1 a2 a3 a4 M) post u0 u1 u2 u4 u4 M11))))
def wp_X12_probe (S : Sh) (M : Mm) (u0 : Int) (u1 : Int) (post : Int → Mm → Prop) : Prop := isK S u0 12 ∧ (wp_X12_isDairy S M u0 <| fun v15 M14 => wIf (v15 = 0) (wC (-1) fun v17 => post v17 M14) (wC u1 fun v19 => wC 0 fun v21 => wC 1 fun v23 => wp_X12_in S M14 v19 v21 v23 <| fun v26 M25 => wIf (¬ v26 = 0) (isK S u0 12 ∧ (wp_X12_fitting S M25 u0 <| fun v29 M28 => wIf (¬ v29 = 0) (wC 1 fun v31 => wC 2 fun v33 => ∃ n9 : Nat, wp_X12_probe_36 S post n9 u0 u1 v29 v31 v33 M28) (wC (-2) fun v35 => post v35 M28))) (wC (-1) fun v37 => post v37 M25)))
set_option maxHeartbeats 4000000 in
set_option maxRecDepth 100000 in
theorem t_X12_probe_62 {p : Program} {l : Launch} {e : Env} {s : State} {m : MethodId} {args : Array Value} {below : List Frame} {meth : Method} {c : Code} {D : va_G} {G : Gt} {S : Sh} {post : Int → Mm → Prop} {k36 : Int → Int → Int → Int → Int → Mm → Prop} (C : Cx p s m args meth c D G cX12_probe 5 (some .int) (cw_X12_probe :: gw) RX12) (hk36 : ∀ (y0 : Int) (y1 : Int32) (y2 : Int32) (y3 : Int32) (y4 : Int32) (M : Mm) (H : Heap) (locs : List Loc) (ls : Array Slot), Wd D G S M H → va_S (aG G) s.heap H locs → lv_has ls 5 [(0, .ref (adr G y0)), (1, .int y1), (2, .int y2), (3, .int y3), (4, .int y4)] → k36 y0 y1.toInt y2.toInt y3.toInt y4.toInt M → W p l e RM_X12_probe s m args below meth c H locs 0 0 (MQ below (QI D G S post) args s 0 0 (aG G)) (F0 m 36 ls [])) : ∀ (xl0 : Int) (zl1 : Int32) (zl2 : Int32) (zl3 : Int32) (zl4 : Int32) (M : Mm) (H : Heap) (locs : List Loc) (ls : Array Slot), Wd D G S M H → va_S (aG G) s.heap H locs → lv_has ls 5 [(0, .ref (adr G xl0)), (1, .int zl1), (2, .int zl2), (3, .int zl3), (4, .int zl4)] → wp_X12_probe_62 S k36 post xl0 zl1.toInt zl2.toInt zl3.toInt zl4.toInt  M → W p l e RM_X12_probe s m args below meth c H locs 0 0 (MQ below (QI D G S post) args s 0 0 (aG G)) (F0 m 62 ls []) := by
  obtain ⟨hx, hb, hr, hlocks, hml, hown, hts, hK⟩ := id C
  intro xl0 zl1 zl2 zl3 zl4 M H locs ls hP hS hl h
  unfold wp_X12_probe_62 at h
  refine r_iinc hx hb (fun z2 => [(4, .int z2), (0, .ref (adr G xl0)), (1, .int zl1), (2, .int zl2), (3, .int zl3)]) dX12_probe_62 (by decide) hl (k := 4) rfl (by decide) (fun _ => rfl) h (fun z2 ls hl h => ?_)
  refine lv_goto (tgt := 36) hx hb dX12_probe_65 (by decide) ?_
  exact hk36 xl0 zl1 zl2 zl3 z2 _ _ _ _ hP hS (lv_sub hl [1, 2, 3, 4, 0] rfl) h
set_option maxHeartbeats 4000000 in
set_option maxRecDepth 100000 in
theorem t_X12_probe_36 {p : Program} {l : Launch} {e : Env} {s : State} {m : MethodId} {args : Array Value} {below : List Frame} {meth : Method} {c : Code} {D : va_G} {G : Gt} {S : Sh} {post : Int → Mm → Prop} (C : Cx p s m args meth c D G cX12_probe 5 (some .int) (cw_X12_probe :: gw) RX12) : ∀ (n : Nat) (xl0 : Int) (zl1 : Int32) (zl2 : Int32) (zl3 : Int32) (zl4 : Int32) (M : Mm) (H : Heap) (locs : List Loc) (ls : Array Slot), Wd D G S M H → va_S (aG G) s.heap H locs → lv_has ls 5 [(0, .ref (adr G xl0)), (1, .int zl1), (2, .int zl2), (3, .int zl3), (4, .int zl4)] → wp_X12_probe_36 S post n xl0 zl1.toInt zl2.toInt zl3.toInt zl4.toInt  M → W p l e RM_X12_probe s m args below meth c H locs 0 0 (MQ below (QI D G S post) args s 0 0 (aG G)) (F0 m 36 ls []) := by
  obtain ⟨hx, hb, hr, hlocks, hml, hown, hts, hK⟩ := id C
  intro n
  induction n with
  | zero => intro xl0 zl1 zl2 zl3 zl4 M H locs ls hP hS hl h; exact h.elim
  | succ n ih =>
    intro xl0 zl1 zl2 zl3 zl4 M H locs ls hP hS hl h
    unfold wp_X12_probe_36 at h
    refine lv_iload hx hb dX12_probe_36 (lv_at hl 4 rfl) ?_
    refine r_bipush hx hb dX12_probe_38 (by decide) h (fun z4 h => ?_)
    refine r_icmp_gt (tgt := 68) hx hb dX12_probe_40 (by decide) h (fun h => ?_) (fun h => ?_)
    · refine lv_iload_n hx hb dX12_probe_68 rfl (lv_at hl 1 rfl) ?_
      refine r_if_ne (tgt := 76) hx hb dX12_probe_69 (by decide) h (fun h => ?_) (fun h => ?_)
      · refine lv_aload_n hx hb dX12_probe_76 rfl (lv_at hl 0 rfl) ?_
        refine lv_iload_n hx hb dX12_probe_77 rfl (lv_at hl 2 rfl) ?_
        refine lv_iload_n hx hb dX12_probe_78 rfl (lv_at hl 3 rfl) ?_
        refine q_Vi hx hb hml hown hts hK hP hS (c_X12_alikeBy l D G S _ xl0 zl2 zl3 _ h.2) ⟨callB_of 2 hts (gw_good kw_1901) rfl rfl rfl (hts _ (List.mem_cons_of_mem _ kw_14)) (hts _ (List.mem_cons_of_mem _ kw_1898)) hd_X12_alikeBy ⟨Nat.le_of_ble_eq_true rfl, Nat.le_of_ble_eq_true rfl⟩, (hts _ (List.mem_cons_of_mem _ kw_1900)), (hts _ (List.mem_cons_of_mem _ kp_127))⟩ h.1 (ci := 12) rfl (by decide) rfl hl.1 rfl (lv_room (Nat.le_of_ble_eq_true rfl)) dX12_probe_79 ⟨Nat.zero_le _, Nat.zero_le _⟩ (fun z7 M5 H locs h hP hS => ?_)
        exact r_iret hx hb hr hlocks hP hS dX12_probe_82 h
      · refine lv_iload_n hx hb dX12_probe_72 rfl (lv_at hl 3 rfl) ?_
        refine lv_goto (tgt := 82) hx hb dX12_probe_73 (by decide) ?_
        exact r_iret hx hb hr hlocks hP hS dX12_probe_82 h
    · refine lv_aload_n hx hb dX12_probe_43 rfl (lv_at hl 0 rfl) ?_
      refine lv_iload_n hx hb dX12_probe_44 rfl (lv_at hl 2 rfl) ?_
      refine lv_iload hx hb dX12_probe_45 (lv_at hl 4 rfl) ?_
      refine q_Vi hx hb hml hown hts hK hP hS (c_X12_alikeBy l D G S _ xl0 zl2 zl4 _ h.2) ⟨callB_of 2 hts (gw_good kw_1901) rfl rfl rfl (hts _ (List.mem_cons_of_mem _ kw_14)) (hts _ (List.mem_cons_of_mem _ kw_1898)) hd_X12_alikeBy ⟨Nat.le_of_ble_eq_true rfl, Nat.le_of_ble_eq_true rfl⟩, (hts _ (List.mem_cons_of_mem _ kw_1900)), (hts _ (List.mem_cons_of_mem _ kp_127))⟩ h.1 (ci := 12) rfl (by decide) rfl hl.1 rfl (lv_room (Nat.le_of_ble_eq_true rfl)) dX12_probe_47 ⟨Nat.zero_le _, Nat.zero_le _⟩ (fun z10 M8 H locs h hP hS => ?_)
      refine lv_aload_n hx hb dX12_probe_50 rfl (lv_at hl 0 rfl) ?_
      refine lv_iload_n hx hb dX12_probe_51 rfl (lv_at hl 2 rfl) ?_
      refine lv_iload_n hx hb dX12_probe_52 rfl (lv_at hl 3 rfl) ?_
      refine q_Vi hx hb hml hown hts hK hP hS (c_X12_alikeBy l D G S _ xl0 zl2 zl3 _ h.2) ⟨callB_of 2 hts (gw_good kw_1901) rfl rfl rfl (hts _ (List.mem_cons_of_mem _ kw_14)) (hts _ (List.mem_cons_of_mem _ kw_1898)) hd_X12_alikeBy ⟨Nat.le_of_ble_eq_true rfl, Nat.le_of_ble_eq_true rfl⟩, (hts _ (List.mem_cons_of_mem _ kw_1900)), (hts _ (List.mem_cons_of_mem _ kp_127))⟩ h.1 (ci := 12) rfl (by decide) rfl hl.1 rfl (lv_room (Nat.le_of_ble_eq_true rfl)) dX12_probe_53 ⟨Nat.zero_le _, Nat.zero_le _⟩ (fun z13 M11 H locs h hP hS => ?_)
      refine r_icmp_ge (tgt := 62) hx hb dX12_probe_56 (by decide) h (fun h => ?_) (fun h => ?_)
      · exact t_X12_probe_62 C ih xl0 zl1 zl2 zl3 zl4 _ _ _ _ hP hS (lv_sub hl [0, 1, 2, 3, 4] rfl) h
      · refine lv_iload hx hb dX12_probe_59 (lv_at hl 4 rfl) ?_
        refine lv_istore_n (lv' := [(3, .int zl4), (0, .ref (adr G xl0)), (1, .int zl1), (2, .int zl2), (4, .int zl4)]) hx hb dX12_probe_61 rfl hl (by decide) rfl (fun ls hl => ?_)
        exact t_X12_probe_62 C ih xl0 zl1 zl2 zl4 zl4 _ _ _ _ hP hS (lv_sub hl [1, 2, 3, 0, 4] rfl) h
set_option maxHeartbeats 4000000 in
set_option maxRecDepth 100000 in
theorem c_X12_probe (l : Launch) (D : va_G) (G : Gt) (S : Sh) (M : Mm) (xl0 : Int) (zl1 : Int32) (post : Int → Mm → Prop) (h : wp_X12_probe S M xl0 zl1.toInt post) : Met l yX12_probe (cw_X12_probe :: gw) RM_X12_probe (va_Pc [.ref (adr G xl0), .int zl1] (fun U => KN D G U ∧ Wd D G S M U.heap)) (QI D G S post) 0 0 (aG G) := by
  refine Met.ofW (cc := cX12_probe) (maxL := 5) (ret := (some .int)) (by decide) rfl ?_
  intro p e s m args below meth c s₁ B hml hv
  obtain ⟨rfl, hK, hP⟩ := hv
  have hx := B.exec
  have hb := B.bytes
  have hr := B.returns
  have hts := atoms_spec (ws := cw_X12_probe :: gw) B.pre
  have hown : s.vm.findClass RX12 = some m.cls := findClass_of_methodNamed B.named
  have hlocks := B.notSynchronized
  have hS : va_S (aG G) s.heap s.heap [] := va_S.rf
  have C : Cx p s m ([.ref (adr G xl0), .int zl1] : List Value).toArray meth c D G cX12_probe 5 (some .int) (cw_X12_probe :: gw) RX12 := ⟨hx, hb, hr, hlocks, hml, hown, hts, hK⟩
  have hl := lv_entry ([.ref (adr G xl0), .int zl1]) (n := 5) (Nat.le_of_ble_eq_true rfl)
  rw [lg_entry_eq]
  generalize (lg_sl ([.ref (adr G xl0), .int zl1]) ++ List.replicate (5 - (lg_sl ([.ref (adr G xl0), .int zl1])).length) Slot.unset).toArray = ls at hl ⊢
  have hl : lv_has ls 5 [(0, .ref (adr G xl0)), (1, .int zl1)] := hl
  unfold wp_X12_probe at h
  refine lv_aload_n hx hb dX12_probe_0 rfl (lv_at hl 0 rfl) ?_
  refine q_Vi hx hb hml hown hts hK hP hS (c_X12_isDairy l D G S _ xl0 _ h.2) ⟨callB_of 0 hts (gw_good kw_1698) rfl rfl rfl (hts _ (List.mem_cons_of_mem _ kw_14)) (hts _ (List.mem_cons_of_mem _ kw_1695)) hd_X12_isDairy ⟨Nat.le_of_ble_eq_true rfl, Nat.le_of_ble_eq_true rfl⟩, (hts _ (List.mem_cons_of_mem _ kw_1697)), (hts _ (List.mem_cons_of_mem _ kp_96))⟩ h.1 (ci := 12) rfl (by decide) rfl hl.1 rfl (lv_room (Nat.le_of_ble_eq_true rfl)) dX12_probe_1 ⟨Nat.zero_le _, Nat.zero_le _⟩ (fun z16 M14 H locs h hP hS => ?_)
  refine r_if_eq (tgt := 17) hx hb dX12_probe_4 (by decide) h (fun h => ?_) (fun h => ?_)
  · refine r_iconst hx hb dX12_probe_17 (by decide) h (fun z18 h => ?_)
    exact r_iret hx hb hr hlocks hP hS dX12_probe_18 h
  · refine lv_iload_n hx hb dX12_probe_7 rfl (lv_at hl 1 rfl) ?_
    refine r_i2l hx hb dX12_probe_8 h (fun z20 h => ?_)
    refine r_lconst hx hb dX12_probe_9 (v := 0) (by decide) h (fun z22 h => ?_)
    refine r_lconst hx hb dX12_probe_10 (v := 1) (by decide) h (fun z24 h => ?_)
    refine q_Si hx hb hml hown hts hK hP hS (c_X12_in l D G S _ z20 z22 z24 _ h) ⟨callB_of 3 hts (gw_good kw_1523) rfl rfl rfl (hts _ (List.mem_cons_of_mem _ kw_14)) (hts _ (List.mem_cons_of_mem _ kw_1521)) hd_X12_in ⟨Nat.le_of_ble_eq_true rfl, Nat.le_of_ble_eq_true rfl⟩, (hts _ (List.mem_cons_of_mem _ kw_1522))⟩ rfl hl.1 rfl (lv_room (Nat.le_of_ble_eq_true rfl)) dX12_probe_11 ⟨Nat.zero_le _, Nat.zero_le _⟩ (fun z27 M25 H locs h hP hS => ?_)
    refine r_if_ne (tgt := 19) hx hb dX12_probe_14 (by decide) h (fun h => ?_) (fun h => ?_)
    · refine lv_aload_n hx hb dX12_probe_19 rfl (lv_at hl 0 rfl) ?_
      refine q_Vi hx hb hml hown hts hK hP hS (c_X12_fitting l D G S _ xl0 _ h.2) ⟨callB_of 0 hts (gw_good kw_1889) rfl rfl rfl (hts _ (List.mem_cons_of_mem _ kw_14)) (hts _ (List.mem_cons_of_mem _ kw_1886)) hd_X12_fitting ⟨Nat.le_of_ble_eq_true rfl, Nat.le_of_ble_eq_true rfl⟩, (hts _ (List.mem_cons_of_mem _ kw_1888)), (hts _ (List.mem_cons_of_mem _ kp_125))⟩ h.1 (ci := 12) rfl (by decide) rfl hl.1 rfl (lv_room (Nat.le_of_ble_eq_true rfl)) dX12_probe_20 ⟨Nat.zero_le _, Nat.zero_le _⟩ (fun z30 M28 H locs h hP hS => ?_)
      refine lv_istore_n (lv' := [(2, .int z30), (0, .ref (adr G xl0)), (1, .int zl1)]) hx hb dX12_probe_23 rfl hl (by decide) rfl (fun ls hl => ?_)
      refine lv_iload_n hx hb dX12_probe_24 rfl (lv_at hl 0 rfl) ?_
      refine r_if_ne (tgt := 31) hx hb dX12_probe_25 (by decide) h (fun h => ?_) (fun h => ?_)
      · refine r_iconst hx hb dX12_probe_31 (by decide) h (fun z32 h => ?_)
        refine lv_istore_n (lv' := [(3, .int z32), (2, .int z30), (0, .ref (adr G xl0)), (1, .int zl1)]) hx hb dX12_probe_32 rfl hl (by decide) rfl (fun ls hl => ?_)
        refine r_iconst hx hb dX12_probe_33 (by decide) h (fun z34 h => ?_)
        refine lv_istore (lv' := [(4, .int z34), (3, .int z32), (2, .int z30), (0, .ref (adr G xl0)), (1, .int zl1)]) hx hb dX12_probe_34 hl (by decide) rfl (fun ls hl => ?_)
        obtain ⟨n9, h⟩ := h
        exact t_X12_probe_36 C n9 xl0 zl1 z30 z32 z34 _ _ _ _ hP hS (lv_sub hl [3, 4, 2, 1, 0] rfl) h
      · refine r_bipush hx hb dX12_probe_28 (by decide) h (fun z36 h => ?_)
        exact r_iret hx hb hr hlocks hP hS dX12_probe_30 h
    · refine r_iconst hx hb dX12_probe_17 (by decide) h (fun z38 h => ?_)
      exact r_iret hx hb hr hlocks hP hS dX12_probe_18 h
/-! TurningMilkModel.spot(II)I -/
abbrev RM_X12_spot : Room := { frames := 1, cells := 0, slots := 0, locals := 40 }
def cw_X12_spot : Cond := Cond.code yX12_spot cX12_spot 2 (Option.some FieldType.int)
theorem hd_X12_spot : yX12_spot.cls ≠ "java/lang/invoke/MethodHandle" ∧ yX12_spot.cls ≠ "java/lang/invoke/VarHandle" ∧ (parseMethodDescriptor yX12_spot.desc).map (fun d => d.parameters.length) = some 2 := by decide +kernel
theorem dX12_spot_0 : decode cX12_spot 0 = .ok (.sipush 301, 3) := by decide +kernel
theorem dX12_spot_3 : decode cX12_spot 3 = .ok (.iload_n 0, 1) := by decide +kernel
theorem dX12_spot_4 : decode cX12_spot 4 = .ok (.imul, 1) := by decide +kernel
theorem dX12_spot_5 : decode cX12_spot 5 = .ok (.iload_n 1, 1) := by decide +kernel
theorem dX12_spot_6 : decode cX12_spot 6 = .ok (.iadd, 1) := by decide +kernel
theorem dX12_spot_7 : decode cX12_spot 7 = .ok (.ireturn, 1) := by decide +kernel
def wp_X12_spot (S : Sh) (M : Mm) (u0 : Int) (u1 : Int) (post : Int → Mm → Prop) : Prop := wC 301 fun v1 => wM v1 u0 fun v3 => wA v3 u1 fun v5 => post v5 M
set_option maxHeartbeats 4000000 in
set_option maxRecDepth 100000 in
theorem c_X12_spot (l : Launch) (D : va_G) (G : Gt) (S : Sh) (M : Mm) (zl0 : Int32) (zl1 : Int32) (post : Int → Mm → Prop) (h : wp_X12_spot S M zl0.toInt zl1.toInt post) : Met l yX12_spot (cw_X12_spot :: gw) RM_X12_spot (va_Pc [.int zl0, .int zl1] (fun U => KN D G U ∧ Wd D G S M U.heap)) (QI D G S post) 0 0 (aG G) := by
  refine Met.ofW (cc := cX12_spot) (maxL := 2) (ret := (some .int)) (by decide) rfl ?_
  intro p e s m args below meth c s₁ B hml hv
  obtain ⟨rfl, hK, hP⟩ := hv
  have hx := B.exec
  have hb := B.bytes
  have hr := B.returns
  have hts := atoms_spec (ws := cw_X12_spot :: gw) B.pre
  have hown : s.vm.findClass RX12 = some m.cls := findClass_of_methodNamed B.named
  have hlocks := B.notSynchronized
  have hS : va_S (aG G) s.heap s.heap [] := va_S.rf
  have C : Cx p s m ([.int zl0, .int zl1] : List Value).toArray meth c D G cX12_spot 2 (some .int) (cw_X12_spot :: gw) RX12 := ⟨hx, hb, hr, hlocks, hml, hown, hts, hK⟩
  have hl := lv_entry ([.int zl0, .int zl1]) (n := 2) (Nat.le_of_ble_eq_true rfl)
  rw [lg_entry_eq]
  generalize (lg_sl ([.int zl0, .int zl1]) ++ List.replicate (2 - (lg_sl ([.int zl0, .int zl1])).length) Slot.unset).toArray = ls at hl ⊢
  have hl : lv_has ls 2 [(0, .int zl0), (1, .int zl1)] := hl
  unfold wp_X12_spot at h
  refine r_sipush hx hb dX12_spot_0 (by decide) h (fun z2 h => ?_)
  refine lv_iload_n hx hb dX12_spot_3 rfl (lv_at hl 0 rfl) ?_
  refine r_imul hx hb dX12_spot_4 h (fun z4 h => ?_)
  refine lv_iload_n hx hb dX12_spot_5 rfl (lv_at hl 1 rfl) ?_
  refine r_iadd hx hb dX12_spot_6 h (fun z6 h => ?_)
  exact r_iret hx hb hr hlocks hP hS dX12_spot_7 h
/-! TurningMilkModel.fillsRows(I)V -/
abbrev RM_X12_fillsRows : Room := { frames := 2, cells := 0, slots := 0, locals := 62 }
def cw_X12_fillsRows : Cond := Cond.code yX12_fillsRows cX12_fillsRows 9 (Option.none : Option FieldType)
theorem hd_X12_fillsRows : yX12_fillsRows.cls ≠ "java/lang/invoke/MethodHandle" ∧ yX12_fillsRows.cls ≠ "java/lang/invoke/VarHandle" ∧ (parseMethodDescriptor yX12_fillsRows.desc).map (fun d => d.parameters.length) = some 1 := by decide +kernel
theorem dX12_fillsRows_0 : decode cX12_fillsRows 0 = .ok (.iconst 0, 1) := by decide +kernel
theorem dX12_fillsRows_1 : decode cX12_fillsRows 1 = .ok (.istore_n 2, 1) := by decide +kernel
theorem dX12_fillsRows_2 : decode cX12_fillsRows 2 = .ok (.iload_n 2, 1) := by decide +kernel
theorem dX12_fillsRows_3 : decode cX12_fillsRows 3 = .ok (.sipush 300, 3) := by decide +kernel
theorem dX12_fillsRows_6 : decode cX12_fillsRows 6 = .ok (.if_icmp .gt 39, 3) := by decide +kernel
theorem dX12_fillsRows_9 : decode cX12_fillsRows 9 = .ok (.aload_n 0, 1) := by decide +kernel
theorem dX12_fillsRows_10 : decode cX12_fillsRows 10 = .ok (.getfield 61, 3) := by decide +kernel
theorem dX12_fillsRows_13 : decode cX12_fillsRows 13 = .ok (.iload_n 2, 1) := by decide +kernel
theorem dX12_fillsRows_14 : decode cX12_fillsRows 14 = .ok (.iload_n 2, 1) := by decide +kernel
theorem dX12_fillsRows_15 : decode cX12_fillsRows 15 = .ok (.ifCond .ne 7, 3) := by decide +kernel
theorem dX12_fillsRows_18 : decode cX12_fillsRows 18 = .ok (.iconst 1, 1) := by decide +kernel
theorem dX12_fillsRows_19 : decode cX12_fillsRows 19 = .ok (.goto 4, 3) := by decide +kernel
theorem dX12_fillsRows_22 : decode cX12_fillsRows 22 = .ok (.iconst 0, 1) := by decide +kernel
theorem dX12_fillsRows_23 : decode cX12_fillsRows 23 = .ok (.iastore, 1) := by decide +kernel
theorem dX12_fillsRows_24 : decode cX12_fillsRows 24 = .ok (.aload_n 0, 1) := by decide +kernel
theorem dX12_fillsRows_25 : decode cX12_fillsRows 25 = .ok (.getfield 64, 3) := by decide +kernel
theorem dX12_fillsRows_28 : decode cX12_fillsRows 28 = .ok (.iload_n 2, 1) := by decide +kernel
theorem dX12_fillsRows_29 : decode cX12_fillsRows 29 = .ok (.iload_n 2, 1) := by decide +kernel
theorem dX12_fillsRows_30 : decode cX12_fillsRows 30 = .ok (.ifCond .ne 7, 3) := by decide +kernel
theorem dX12_fillsRows_33 : decode cX12_fillsRows 33 = .ok (.iconst 1, 1) := by decide +kernel
theorem dX12_fillsRows_34 : decode cX12_fillsRows 34 = .ok (.goto 4, 3) := by decide +kernel
theorem dX12_fillsRows_37 : decode cX12_fillsRows 37 = .ok (.iconst 0, 1) := by decide +kernel
theorem dX12_fillsRows_38 : decode cX12_fillsRows 38 = .ok (.bastore, 1) := by decide +kernel
theorem dX12_fillsRows_39 : decode cX12_fillsRows 39 = .ok (.iinc 2 1, 3) := by decide +kernel
theorem dX12_fillsRows_42 : decode cX12_fillsRows 42 = .ok (.goto (-40), 3) := by decide +kernel
theorem dX12_fillsRows_45 : decode cX12_fillsRows 45 = .ok (.iconst 1, 1) := by decide +kernel
theorem dX12_fillsRows_46 : decode cX12_fillsRows 46 = .ok (.istore_n 2, 1) := by decide +kernel
theorem dX12_fillsRows_47 : decode cX12_fillsRows 47 = .ok (.iload_n 2, 1) := by decide +kernel
theorem dX12_fillsRows_48 : decode cX12_fillsRows 48 = .ok (.iload_n 1, 1) := by decide +kernel
theorem dX12_fillsRows_49 : decode cX12_fillsRows 49 = .ok (.if_icmp .gt 145, 3) := by decide +kernel
theorem dX12_fillsRows_52 : decode cX12_fillsRows 52 = .ok (.iconst 0, 1) := by decide +kernel
theorem dX12_fillsRows_53 : decode cX12_fillsRows 53 = .ok (.istore_n 3, 1) := by decide +kernel
theorem dX12_fillsRows_54 : decode cX12_fillsRows 54 = .ok (.iload_n 3, 1) := by decide +kernel
theorem dX12_fillsRows_55 : decode cX12_fillsRows 55 = .ok (.sipush 300, 3) := by decide +kernel
theorem dX12_fillsRows_58 : decode cX12_fillsRows 58 = .ok (.if_icmp .gt 130, 3) := by decide +kernel
theorem dX12_fillsRows_61 : decode cX12_fillsRows 61 = .ok (.lconst 0, 1) := by decide +kernel
theorem dX12_fillsRows_62 : decode cX12_fillsRows 62 = .ok (.lstore 4, 2) := by decide +kernel
theorem dX12_fillsRows_64 : decode cX12_fillsRows 64 = .ok (.iconst 0, 1) := by decide +kernel
theorem dX12_fillsRows_65 : decode cX12_fillsRows 65 = .ok (.istore 6, 2) := by decide +kernel
theorem dX12_fillsRows_67 : decode cX12_fillsRows 67 = .ok (.iconst 0, 1) := by decide +kernel
theorem dX12_fillsRows_68 : decode cX12_fillsRows 68 = .ok (.istore 7, 2) := by decide +kernel
theorem dX12_fillsRows_70 : decode cX12_fillsRows 70 = .ok (.iload 7, 2) := by decide +kernel
theorem dX12_fillsRows_72 : decode cX12_fillsRows 72 = .ok (.aload_n 0, 1) := by decide +kernel
theorem dX12_fillsRows_73 : decode cX12_fillsRows 73 = .ok (.getfield 39, 3) := by decide +kernel
theorem dX12_fillsRows_76 : decode cX12_fillsRows 76 = .ok (.iconst 4, 1) := by decide +kernel
theorem dX12_fillsRows_77 : decode cX12_fillsRows 77 = .ok (.iaload, 1) := by decide +kernel
theorem dX12_fillsRows_78 : decode cX12_fillsRows 78 = .ok (.if_icmp .ge 75, 3) := by decide +kernel
theorem dX12_fillsRows_81 : decode cX12_fillsRows 81 = .ok (.iload_n 3, 1) := by decide +kernel
theorem dX12_fillsRows_82 : decode cX12_fillsRows 82 = .ok (.aload_n 0, 1) := by decide +kernel
theorem dX12_fillsRows_83 : decode cX12_fillsRows 83 = .ok (.iload 7, 2) := by decide +kernel
theorem dX12_fillsRows_85 : decode cX12_fillsRows 85 = .ok (.iconst 3, 1) := by decide +kernel
theorem dX12_fillsRows_86 : decode cX12_fillsRows 86 = .ok (.invokevirtual 306, 3) := by decide +kernel
theorem dX12_fillsRows_89 : decode cX12_fillsRows 89 = .ok (.isub, 1) := by decide +kernel
theorem dX12_fillsRows_90 : decode cX12_fillsRows 90 = .ok (.istore 8, 2) := by decide +kernel
theorem dX12_fillsRows_92 : decode cX12_fillsRows 92 = .ok (.iload 8, 2) := by decide +kernel
theorem dX12_fillsRows_94 : decode cX12_fillsRows 94 = .ok (.ifCond .ge 6, 3) := by decide +kernel
theorem dX12_fillsRows_97 : decode cX12_fillsRows 97 = .ok (.goto 50, 3) := by decide +kernel
theorem dX12_fillsRows_100 : decode cX12_fillsRows 100 = .ok (.lload 4, 2) := by decide +kernel
theorem dX12_fillsRows_102 : decode cX12_fillsRows 102 = .ok (.aload_n 0, 1) := by decide +kernel
theorem dX12_fillsRows_103 : decode cX12_fillsRows 103 = .ok (.getfield 61, 3) := by decide +kernel
theorem dX12_fillsRows_106 : decode cX12_fillsRows 106 = .ok (.iload_n 2, 1) := by decide +kernel
theorem dX12_fillsRows_107 : decode cX12_fillsRows 107 = .ok (.iconst 1, 1) := by decide +kernel
theorem dX12_fillsRows_108 : decode cX12_fillsRows 108 = .ok (.isub, 1) := by decide +kernel
theorem dX12_fillsRows_109 : decode cX12_fillsRows 109 = .ok (.iload 8, 2) := by decide +kernel
theorem dX12_fillsRows_111 : decode cX12_fillsRows 111 = .ok (.invokestatic 447, 3) := by decide +kernel
theorem dX12_fillsRows_114 : decode cX12_fillsRows 114 = .ok (.iaload, 1) := by decide +kernel
theorem dX12_fillsRows_115 : decode cX12_fillsRows 115 = .ok (.i2l, 1) := by decide +kernel
theorem dX12_fillsRows_116 : decode cX12_fillsRows 116 = .ok (.ladd, 1) := by decide +kernel
theorem dX12_fillsRows_117 : decode cX12_fillsRows 117 = .ok (.lstore 4, 2) := by decide +kernel
theorem dX12_fillsRows_119 : decode cX12_fillsRows 119 = .ok (.iload 6, 2) := by decide +kernel
theorem dX12_fillsRows_121 : decode cX12_fillsRows 121 = .ok (.ifCond .ne 19, 3) := by decide +kernel
theorem dX12_fillsRows_124 : decode cX12_fillsRows 124 = .ok (.aload_n 0, 1) := by decide +kernel
theorem dX12_fillsRows_125 : decode cX12_fillsRows 125 = .ok (.getfield 64, 3) := by decide +kernel
theorem dX12_fillsRows_128 : decode cX12_fillsRows 128 = .ok (.iload_n 2, 1) := by decide +kernel
theorem dX12_fillsRows_129 : decode cX12_fillsRows 129 = .ok (.iconst 1, 1) := by decide +kernel
theorem dX12_fillsRows_130 : decode cX12_fillsRows 130 = .ok (.isub, 1) := by decide +kernel
theorem dX12_fillsRows_131 : decode cX12_fillsRows 131 = .ok (.iload 8, 2) := by decide +kernel
theorem dX12_fillsRows_133 : decode cX12_fillsRows 133 = .ok (.invokestatic 447, 3) := by decide +kernel
theorem dX12_fillsRows_136 : decode cX12_fillsRows 136 = .ok (.baload, 1) := by decide +kernel
theorem dX12_fillsRows_137 : decode cX12_fillsRows 137 = .ok (.ifCond .eq 7, 3) := by decide +kernel
theorem dX12_fillsRows_140 : decode cX12_fillsRows 140 = .ok (.iconst 1, 1) := by decide +kernel
theorem dX12_fillsRows_141 : decode cX12_fillsRows 141 = .ok (.goto 4, 3) := by decide +kernel
theorem dX12_fillsRows_144 : decode cX12_fillsRows 144 = .ok (.iconst 0, 1) := by decide +kernel
theorem dX12_fillsRows_145 : decode cX12_fillsRows 145 = .ok (.istore 6, 2) := by decide +kernel
theorem dX12_fillsRows_147 : decode cX12_fillsRows 147 = .ok (.iinc 7 1, 3) := by decide +kernel
theorem dX12_fillsRows_150 : decode cX12_fillsRows 150 = .ok (.goto (-80), 3) := by decide +kernel
theorem dX12_fillsRows_153 : decode cX12_fillsRows 153 = .ok (.aload_n 0, 1) := by decide +kernel
theorem dX12_fillsRows_154 : decode cX12_fillsRows 154 = .ok (.getfield 61, 3) := by decide +kernel
theorem dX12_fillsRows_157 : decode cX12_fillsRows 157 = .ok (.iload_n 2, 1) := by decide +kernel
theorem dX12_fillsRows_158 : decode cX12_fillsRows 158 = .ok (.iload_n 3, 1) := by decide +kernel
theorem dX12_fillsRows_159 : decode cX12_fillsRows 159 = .ok (.invokestatic 447, 3) := by decide +kernel
theorem dX12_fillsRows_162 : decode cX12_fillsRows 162 = .ok (.lload 4, 2) := by decide +kernel
theorem dX12_fillsRows_164 : decode cX12_fillsRows 164 = .ok (.ldc2_w 450, 3) := by decide +kernel
theorem dX12_fillsRows_167 : decode cX12_fillsRows 167 = .ok (.lrem, 1) := by decide +kernel
theorem dX12_fillsRows_168 : decode cX12_fillsRows 168 = .ok (.l2i, 1) := by decide +kernel
theorem dX12_fillsRows_169 : decode cX12_fillsRows 169 = .ok (.iastore, 1) := by decide +kernel
theorem dX12_fillsRows_170 : decode cX12_fillsRows 170 = .ok (.aload_n 0, 1) := by decide +kernel
theorem dX12_fillsRows_171 : decode cX12_fillsRows 171 = .ok (.getfield 64, 3) := by decide +kernel
theorem dX12_fillsRows_174 : decode cX12_fillsRows 174 = .ok (.iload_n 2, 1) := by decide +kernel
theorem dX12_fillsRows_175 : decode cX12_fillsRows 175 = .ok (.iload_n 3, 1) := by decide +kernel
theorem dX12_fillsRows_176 : decode cX12_fillsRows 176 = .ok (.invokestatic 447, 3) := by decide +kernel
theorem dX12_fillsRows_179 : decode cX12_fillsRows 179 = .ok (.iload 6, 2) := by decide +kernel
theorem dX12_fillsRows_181 : decode cX12_fillsRows 181 = .ok (.bastore, 1) := by decide +kernel
theorem dX12_fillsRows_182 : decode cX12_fillsRows 182 = .ok (.iinc 3 1, 3) := by decide +kernel
theorem dX12_fillsRows_185 : decode cX12_fillsRows 185 = .ok (.goto (-131), 3) := by decide +kernel
theorem dX12_fillsRows_188 : decode cX12_fillsRows 188 = .ok (.iinc 2 1, 3) := by decide +kernel
theorem dX12_fillsRows_191 : decode cX12_fillsRows 191 = .ok (.goto (-144), 3) := by decide +kernel
theorem dX12_fillsRows_194 : decode cX12_fillsRows 194 = .ok (.return_, 1) := by decide +kernel
def wp_X12_fillsRows_147 (S : Sh) (k47 : Int → Int → Int → Mm → Prop) (k54 : Int → Int → Int → Int → Mm → Prop) (k70 : Int → Int → Int → Int → Int → Int → Int → Mm → Prop) (post : Mm → Prop) (u0 : Int) (u1 : Int) (u2 : Int) (u3 : Int) (u4 : Int) (u6 : Int) (u7 : Int) (M : Mm) : Prop := wA u7 1 fun v1 => k70 u0 u1 u2 u3 u4 u6 v1 M
def wp_X12_fillsRows_145 (S : Sh) (k47 : Int → Int → Int → Mm → Prop) (k54 : Int → Int → Int → Int → Mm → Prop) (k70 : Int → Int → Int → Int → Int → Int → Int → Mm → Prop) (post : Mm → Prop) (u0 : Int) (u1 : Int) (u2 : Int) (u3 : Int) (u4 : Int) (u7 : Int) (t0 : Int) (M : Mm) : Prop := wp_X12_fillsRows_147 S k47 k54 k70 post u0 u1 u2 u3 u4 t0 u7 M
def wp_X12_fillsRows_140 (S : Sh) (k47 : Int → Int → Int → Mm → Prop) (k54 : Int → Int → Int → Int → Mm → Prop) (k70 : Int → Int → Int → Int → Int → Int → Int → Mm → Prop) (post : Mm → Prop) (u0 : Int) (u1 : Int) (u2 : Int) (u3 : Int) (u4 : Int) (u7 : Int) (M : Mm) : Prop := wC 1 fun v3 => wp_X12_fillsRows_145 S k47 k54 k70 post u0 u1 u2 u3 u4 u7 v3 M
def wp_X12_fillsRows_70 (S : Sh) (k47 : Int → Int → Int → Mm → Prop) (k54 : Int → Int → Int → Int → Mm → Prop) (post : Mm → Prop) : Nat → Int → Int → Int → Int → Int → Int → Int → Mm → Prop
  | 0, _, _, _, _, _, _, _, _ => False
  | n + 1, u0, u1, u2, u3, u4, u6, u7, M => wGetR S M u0 12 20 fun v5 => wC 4 fun v7 => wLd S M v5 14 v7 fun v9 => wIf (v9 ≤ u7) (wGetR S M u0 12 31 fun v11 => wp_X12_spot S M u2 u3 <| fun v14 M13 => wC 1000000007 fun v16 => wD lRem u4 v16 fun v18 => wO1 w32 v18 fun v20 => wSt S M13 v11 14 v14 v20 fun M22 => wGetR S M22 u0 12 32 fun v23 => wp_X12_spot S M22 u2 u3 <| fun v26 M25 => wStZ S M25 v23 15 v26 u6 fun M28 => wA u3 1 fun v29 => k54 u0 u1 u2 v29 M28) (wC 3 fun v31 => isK S u0 12 ∧ (wp_X12_handOf S M u0 u7 v31 <| fun v34 M33 => wS u3 v34 fun v36 => wIf (0 ≤ v36) (wGetR S M33 u0 12 31 fun v38 => wC 1 fun v40 => wS u2 v40 fun v42 => wp_X12_spot S M33 v42 v36 <| fun v45 M44 => wLd S M44 v38 14 v45 fun v47 => wC v47 fun v49 => wLA u4 v49 fun v51 => wIf (¬ u6 = 0) (wp_X12_fillsRows_140 S k47 k54 (fun a0 a1 a2 a3 a4 a5 a6 M => wp_X12_fillsRows_70 S k47 k54 post n a0 a1 a2 a3 a4 a5 a6 M) post u0 u1 u2 u3 v51 u7 M44) (wGetR S M44 u0 12 32 fun v53 => wC 1 fun v55 => wS u2 v55 fun v57 => wp_X12_spot S M44 v57 v36 <| fun v60 M59 => wLd S M59 v53 15 v60 fun v62 => wIf (v62 = 0) (wC 0 fun v64 => wp_X12_fillsRows_145 S k47 k54 (fun a0 a1 a2 a3 a4 a5 a6 M => wp_X12_fillsRows_70 S k47 k54 post n a0 a1 a2 a3 a4 a5 a6 M) post u0 u1 u2 u3 v51 u7 v64 M59) (wp_X12_fillsRows_140 S k47 k54 (fun a0 a1 a2 a3 a4 a5 a6 M => wp_X12_fillsRows_70 S k47 k54 post n a0 a1 a2 a3 a4 a5 a6 M) post u0 u1 u2 u3 v51 u7 M59))) (wp_X12_fillsRows_147 S k47 k54 (fun a0 a1 a2 a3 a4 a5 a6 M => wp_X12_fillsRows_70 S k47 k54 post n a0 a1 a2 a3 a4 a5 a6 M) post u0 u1 u2 u3 u4 u6 u7 M33)))
def wp_X12_fillsRows_54 (S : Sh) (k47 : Int → Int → Int → Mm → Prop) (post : Mm → Prop) : Nat → Int → Int → Int → Int → Mm → Prop
  | 0, _, _, _, _, _ => False
  | n + 1, u0, u1, u2, u3, M => wC 300 fun v66 => wIf (v66 < u3) (wA u2 1 fun v68 => k47 u0 u1 v68 M) (wC 0 fun v70 => wC 0 fun v72 => wC 0 fun v74 => ∃ n9 : Nat, wp_X12_fillsRows_70 S k47 (fun a0 a1 a2 a3 M => wp_X12_fillsRows_54 S k47 post n a0 a1 a2 a3 M) post n9 u0 u1 u2 u3 v70 v72 v74 M)
def wp_X12_fillsRows_47 (S : Sh) (post : Mm → Prop) : Nat → Int → Int → Int → Mm → Prop
  | 0, _, _, _, _ => False
  | n + 1, u0, u1, u2, M => wIf (u1 < u2) (post M) (wC 0 fun v76 => ∃ n9 : Nat, wp_X12_fillsRows_54 S (fun a0 a1 a2 M => wp_X12_fillsRows_47 S post n a0 a1 a2 M) post n9 u0 u1 u2 v76 M)
def wp_X12_fillsRows_38 (S : Sh) (k2 : Int → Int → Int → Mm → Prop) (post : Mm → Prop) (u0 : Int) (u1 : Int) (u2 : Int) (t0 : Int) (t1 : Int) (t2 : Int) (M : Mm) : Prop := wStZ S M t0 15 t1 t2 fun M78 => wA u2 1 fun v79 => k2 u0 u1 v79 M78
def wp_X12_fillsRows_23 (S : Sh) (k2 : Int → Int → Int → Mm → Prop) (post : Mm → Prop) (u0 : Int) (u1 : Int) (u2 : Int) (t0 : Int) (t1 : Int) (t2 : Int) (M : Mm) : Prop := wSt S M t0 14 t1 t2 fun M81 => wGetR S M81 u0 12 32 fun v82 => wIf (¬ u2 = 0) (wC 0 fun v84 => wp_X12_fillsRows_38 S k2 post u0 u1 u2 v82 u2 v84 M81) (wC 1 fun v86 => wp_X12_fillsRows_38 S k2 post u0 u1 u2 v82 u2 v86 M81)
def wp_X12_fillsRows_2 (S : Sh) (post : Mm → Prop) : Nat → Int → Int → Int → Mm → Prop
  | 0, _, _, _, _ => False
  | n + 1, u0, u1, u2, M => wC 300 fun v88 => wIf (v88 < u2) (wC 1 fun v90 => ∃ n9 : Nat, wp_X12_fillsRows_47 S post n9 u0 u1 v90 M) (wGetR S M u0 12 31 fun v92 => wIf (¬ u2 = 0) (wC 0 fun v94 => wp_X12_fillsRows_23 S (fun a0 a1 a2 M => wp_X12_fillsRows_2 S post n a0 a1 a2 M) post u0 u1 u2 v92 u2 v94 M) (wC 1 fun v96 => wp_X12_fillsRows_23 S (fun a0 a1 a2 M => wp_X12_fillsRows_2 S post n a0 a1 a2 M) post u0 u1 u2 v92 u2 v96 M))
def wp_X12_fillsRows (S : Sh) (M : Mm) (u0 : Int) (u1 : Int) (post : Mm → Prop) : Prop := wC 0 fun v98 => ∃ n9 : Nat, wp_X12_fillsRows_2 S post n9 u0 u1 v98 M
set_option maxHeartbeats 4000000 in
set_option maxRecDepth 100000 in
theorem t_X12_fillsRows_147 {p : Program} {l : Launch} {e : Env} {s : State} {m : MethodId} {args : Array Value} {below : List Frame} {meth : Method} {c : Code} {D : va_G} {G : Gt} {S : Sh} {post : Mm → Prop} {k47 : Int → Int → Int → Mm → Prop} {k54 : Int → Int → Int → Int → Mm → Prop} {k70 : Int → Int → Int → Int → Int → Int → Int → Mm → Prop} (C : Cx p s m args meth c D G cX12_fillsRows 9 none (cw_X12_fillsRows :: gw) RX12) (hk47 : ∀ (y0 : Int) (y1 : Int32) (y2 : Int32) (M : Mm) (H : Heap) (locs : List Loc) (ls : Array Slot), Wd D G S M H → va_S (aG G) s.heap H locs → lv_has ls 9 [(0, .ref (adr G y0)), (1, .int y1), (2, .int y2)] → k47 y0 y1.toInt y2.toInt M → W p l e RM_X12_fillsRows s m args below meth c H locs 0 0 (MQ below (QV D G S post) args s 0 0 (aG G)) (F0 m 47 ls [])) (hk54 : ∀ (y0 : Int) (y1 : Int32) (y2 : Int32) (y3 : Int32) (M : Mm) (H : Heap) (locs : List Loc) (ls : Array Slot), Wd D G S M H → va_S (aG G) s.heap H locs → lv_has ls 9 [(0, .ref (adr G y0)), (1, .int y1), (2, .int y2), (3, .int y3)] → k54 y0 y1.toInt y2.toInt y3.toInt M → W p l e RM_X12_fillsRows s m args below meth c H locs 0 0 (MQ below (QV D G S post) args s 0 0 (aG G)) (F0 m 54 ls [])) (hk70 : ∀ (y0 : Int) (y1 : Int32) (y2 : Int32) (y3 : Int32) (y4 : Int64) (y6 : Int32) (y7 : Int32) (M : Mm) (H : Heap) (locs : List Loc) (ls : Array Slot), Wd D G S M H → va_S (aG G) s.heap H locs → lv_has ls 9 [(0, .ref (adr G y0)), (1, .int y1), (2, .int y2), (3, .int y3), (4, .long y4), (6, .int y6), (7, .int y7)] → k70 y0 y1.toInt y2.toInt y3.toInt y4.toInt y6.toInt y7.toInt M → W p l e RM_X12_fillsRows s m args below meth c H locs 0 0 (MQ below (QV D G S post) args s 0 0 (aG G)) (F0 m 70 ls [])) : ∀ (xl0 : Int) (zl1 : Int32) (zl2 : Int32) (zl3 : Int32) (zl4 : Int64) (zl6 : Int32) (zl7 : Int32) (M : Mm) (H : Heap) (locs : List Loc) (ls : Array Slot), Wd D G S M H → va_S (aG G) s.heap H locs → lv_has ls 9 [(0, .ref (adr G xl0)), (1, .int zl1), (2, .int zl2), (3, .int zl3), (4, .long zl4), (6, .int zl6), (7, .int zl7)] → wp_X12_fillsRows_147 S k47 k54 k70 post xl0 zl1.toInt zl2.toInt zl3.toInt zl4.toInt zl6.toInt zl7.toInt  M → W p l e RM_X12_fillsRows s m args below meth c H locs 0 0 (MQ below (QV D G S post) args s 0 0 (aG G)) (F0 m 147 ls []) := by
  obtain ⟨hx, hb, hr, hlocks, hml, hown, hts, hK⟩ := id C
  intro xl0 zl1 zl2 zl3 zl4 zl6 zl7 M H locs ls hP hS hl h
  unfold wp_X12_fillsRows_147 at h
  refine r_iinc hx hb (fun z2 => [(7, .int z2), (0, .ref (adr G xl0)), (1, .int zl1), (2, .int zl2), (3, .int zl3), (4, .long zl4), (6, .int zl6)]) dX12_fillsRows_147 (by decide) hl (k := 6) rfl (by decide) (fun _ => rfl) h (fun z2 ls hl h => ?_)
  refine lv_goto (tgt := 70) hx hb dX12_fillsRows_150 (by decide) ?_
  exact hk70 xl0 zl1 zl2 zl3 zl4 zl6 z2 _ _ _ _ hP hS (lv_sub hl [1, 2, 3, 4, 5, 6, 0] rfl) h
set_option maxHeartbeats 4000000 in
set_option maxRecDepth 100000 in
theorem t_X12_fillsRows_145 {p : Program} {l : Launch} {e : Env} {s : State} {m : MethodId} {args : Array Value} {below : List Frame} {meth : Method} {c : Code} {D : va_G} {G : Gt} {S : Sh} {post : Mm → Prop} {k47 : Int → Int → Int → Mm → Prop} {k54 : Int → Int → Int → Int → Mm → Prop} {k70 : Int → Int → Int → Int → Int → Int → Int → Mm → Prop} (C : Cx p s m args meth c D G cX12_fillsRows 9 none (cw_X12_fillsRows :: gw) RX12) (hk47 : ∀ (y0 : Int) (y1 : Int32) (y2 : Int32) (M : Mm) (H : Heap) (locs : List Loc) (ls : Array Slot), Wd D G S M H → va_S (aG G) s.heap H locs → lv_has ls 9 [(0, .ref (adr G y0)), (1, .int y1), (2, .int y2)] → k47 y0 y1.toInt y2.toInt M → W p l e RM_X12_fillsRows s m args below meth c H locs 0 0 (MQ below (QV D G S post) args s 0 0 (aG G)) (F0 m 47 ls [])) (hk54 : ∀ (y0 : Int) (y1 : Int32) (y2 : Int32) (y3 : Int32) (M : Mm) (H : Heap) (locs : List Loc) (ls : Array Slot), Wd D G S M H → va_S (aG G) s.heap H locs → lv_has ls 9 [(0, .ref (adr G y0)), (1, .int y1), (2, .int y2), (3, .int y3)] → k54 y0 y1.toInt y2.toInt y3.toInt M → W p l e RM_X12_fillsRows s m args below meth c H locs 0 0 (MQ below (QV D G S post) args s 0 0 (aG G)) (F0 m 54 ls [])) (hk70 : ∀ (y0 : Int) (y1 : Int32) (y2 : Int32) (y3 : Int32) (y4 : Int64) (y6 : Int32) (y7 : Int32) (M : Mm) (H : Heap) (locs : List Loc) (ls : Array Slot), Wd D G S M H → va_S (aG G) s.heap H locs → lv_has ls 9 [(0, .ref (adr G y0)), (1, .int y1), (2, .int y2), (3, .int y3), (4, .long y4), (6, .int y6), (7, .int y7)] → k70 y0 y1.toInt y2.toInt y3.toInt y4.toInt y6.toInt y7.toInt M → W p l e RM_X12_fillsRows s m args below meth c H locs 0 0 (MQ below (QV D G S post) args s 0 0 (aG G)) (F0 m 70 ls [])) : ∀ (xl0 : Int) (zl1 : Int32) (zl2 : Int32) (zl3 : Int32) (zl4 : Int64) (zl7 : Int32) (zs0 : Int32) (M : Mm) (H : Heap) (locs : List Loc) (ls : Array Slot), Wd D G S M H → va_S (aG G) s.heap H locs → lv_has ls 9 [(0, .ref (adr G xl0)), (1, .int zl1), (2, .int zl2), (3, .int zl3), (4, .long zl4), (7, .int zl7)] → wp_X12_fillsRows_145 S k47 k54 k70 post xl0 zl1.toInt zl2.toInt zl3.toInt zl4.toInt zl7.toInt zs0.toInt M → W p l e RM_X12_fillsRows s m args below meth c H locs 0 0 (MQ below (QV D G S post) args s 0 0 (aG G)) (F0 m 145 ls [.int zs0]) := by
  obtain ⟨hx, hb, hr, hlocks, hml, hown, hts, hK⟩ := id C
  intro xl0 zl1 zl2 zl3 zl4 zl7 zs0 M H locs ls hP hS hl h
  unfold wp_X12_fillsRows_145 at h
  refine lv_istore (lv' := [(6, .int zs0), (0, .ref (adr G xl0)), (1, .int zl1), (2, .int zl2), (3, .int zl3), (4, .long zl4), (7, .int zl7)]) hx hb dX12_fillsRows_145 hl (by decide) rfl (fun ls hl => ?_)
  exact t_X12_fillsRows_147 C hk47 hk54 hk70 xl0 zl1 zl2 zl3 zl4 zs0 zl7 _ _ _ _ hP hS (lv_sub hl [1, 2, 3, 4, 5, 0, 6] rfl) h
set_option maxHeartbeats 4000000 in
set_option maxRecDepth 100000 in
theorem t_X12_fillsRows_140 {p : Program} {l : Launch} {e : Env} {s : State} {m : MethodId} {args : Array Value} {below : List Frame} {meth : Method} {c : Code} {D : va_G} {G : Gt} {S : Sh} {post : Mm → Prop} {k47 : Int → Int → Int → Mm → Prop} {k54 : Int → Int → Int → Int → Mm → Prop} {k70 : Int → Int → Int → Int → Int → Int → Int → Mm → Prop} (C : Cx p s m args meth c D G cX12_fillsRows 9 none (cw_X12_fillsRows :: gw) RX12) (hk47 : ∀ (y0 : Int) (y1 : Int32) (y2 : Int32) (M : Mm) (H : Heap) (locs : List Loc) (ls : Array Slot), Wd D G S M H → va_S (aG G) s.heap H locs → lv_has ls 9 [(0, .ref (adr G y0)), (1, .int y1), (2, .int y2)] → k47 y0 y1.toInt y2.toInt M → W p l e RM_X12_fillsRows s m args below meth c H locs 0 0 (MQ below (QV D G S post) args s 0 0 (aG G)) (F0 m 47 ls [])) (hk54 : ∀ (y0 : Int) (y1 : Int32) (y2 : Int32) (y3 : Int32) (M : Mm) (H : Heap) (locs : List Loc) (ls : Array Slot), Wd D G S M H → va_S (aG G) s.heap H locs → lv_has ls 9 [(0, .ref (adr G y0)), (1, .int y1), (2, .int y2), (3, .int y3)] → k54 y0 y1.toInt y2.toInt y3.toInt M → W p l e RM_X12_fillsRows s m args below meth c H locs 0 0 (MQ below (QV D G S post) args s 0 0 (aG G)) (F0 m 54 ls [])) (hk70 : ∀ (y0 : Int) (y1 : Int32) (y2 : Int32) (y3 : Int32) (y4 : Int64) (y6 : Int32) (y7 : Int32) (M : Mm) (H : Heap) (locs : List Loc) (ls : Array Slot), Wd D G S M H → va_S (aG G) s.heap H locs → lv_has ls 9 [(0, .ref (adr G y0)), (1, .int y1), (2, .int y2), (3, .int y3), (4, .long y4), (6, .int y6), (7, .int y7)] → k70 y0 y1.toInt y2.toInt y3.toInt y4.toInt y6.toInt y7.toInt M → W p l e RM_X12_fillsRows s m args below meth c H locs 0 0 (MQ below (QV D G S post) args s 0 0 (aG G)) (F0 m 70 ls [])) : ∀ (xl0 : Int) (zl1 : Int32) (zl2 : Int32) (zl3 : Int32) (zl4 : Int64) (zl7 : Int32) (M : Mm) (H : Heap) (locs : List Loc) (ls : Array Slot), Wd D G S M H → va_S (aG G) s.heap H locs → lv_has ls 9 [(0, .ref (adr G xl0)), (1, .int zl1), (2, .int zl2), (3, .int zl3), (4, .long zl4), (7, .int zl7)] → wp_X12_fillsRows_140 S k47 k54 k70 post xl0 zl1.toInt zl2.toInt zl3.toInt zl4.toInt zl7.toInt  M → W p l e RM_X12_fillsRows s m args below meth c H locs 0 0 (MQ below (QV D G S post) args s 0 0 (aG G)) (F0 m 140 ls []) := by
  obtain ⟨hx, hb, hr, hlocks, hml, hown, hts, hK⟩ := id C
  intro xl0 zl1 zl2 zl3 zl4 zl7 M H locs ls hP hS hl h
  unfold wp_X12_fillsRows_140 at h
  refine r_iconst hx hb dX12_fillsRows_140 (by decide) h (fun z4 h => ?_)
  refine lv_goto (tgt := 145) hx hb dX12_fillsRows_141 (by decide) ?_
  exact t_X12_fillsRows_145 C hk47 hk54 hk70 xl0 zl1 zl2 zl3 zl4 zl7 z4 _ _ _ _ hP hS (lv_sub hl [0, 1, 2, 3, 4, 5] rfl) h
set_option maxHeartbeats 4000000 in
set_option maxRecDepth 100000 in
theorem t_X12_fillsRows_70 {p : Program} {l : Launch} {e : Env} {s : State} {m : MethodId} {args : Array Value} {below : List Frame} {meth : Method} {c : Code} {D : va_G} {G : Gt} {S : Sh} {post : Mm → Prop} {k47 : Int → Int → Int → Mm → Prop} {k54 : Int → Int → Int → Int → Mm → Prop} (C : Cx p s m args meth c D G cX12_fillsRows 9 none (cw_X12_fillsRows :: gw) RX12) (hk47 : ∀ (y0 : Int) (y1 : Int32) (y2 : Int32) (M : Mm) (H : Heap) (locs : List Loc) (ls : Array Slot), Wd D G S M H → va_S (aG G) s.heap H locs → lv_has ls 9 [(0, .ref (adr G y0)), (1, .int y1), (2, .int y2)] → k47 y0 y1.toInt y2.toInt M → W p l e RM_X12_fillsRows s m args below meth c H locs 0 0 (MQ below (QV D G S post) args s 0 0 (aG G)) (F0 m 47 ls [])) (hk54 : ∀ (y0 : Int) (y1 : Int32) (y2 : Int32) (y3 : Int32) (M : Mm) (H : Heap) (locs : List Loc) (ls : Array Slot), Wd D G S M H → va_S (aG G) s.heap H locs → lv_has ls 9 [(0, .ref (adr G y0)), (1, .int y1), (2, .int y2), (3, .int y3)] → k54 y0 y1.toInt y2.toInt y3.toInt M → W p l e RM_X12_fillsRows s m args below meth c H locs 0 0 (MQ below (QV D G S post) args s 0 0 (aG G)) (F0 m 54 ls [])) : ∀ (n : Nat) (xl0 : Int) (zl1 : Int32) (zl2 : Int32) (zl3 : Int32) (zl4 : Int64) (zl6 : Int32) (zl7 : Int32) (M : Mm) (H : Heap) (locs : List Loc) (ls : Array Slot), Wd D G S M H → va_S (aG G) s.heap H locs → lv_has ls 9 [(0, .ref (adr G xl0)), (1, .int zl1), (2, .int zl2), (3, .int zl3), (4, .long zl4), (6, .int zl6), (7, .int zl7)] → wp_X12_fillsRows_70 S k47 k54 post n xl0 zl1.toInt zl2.toInt zl3.toInt zl4.toInt zl6.toInt zl7.toInt  M → W p l e RM_X12_fillsRows s m args below meth c H locs 0 0 (MQ below (QV D G S post) args s 0 0 (aG G)) (F0 m 70 ls []) := by
  obtain ⟨hx, hb, hr, hlocks, hml, hown, hts, hK⟩ := id C
  intro n
  induction n with
  | zero => intro xl0 zl1 zl2 zl3 zl4 zl6 zl7 M H locs ls hP hS hl h; exact h.elim
  | succ n ih =>
    intro xl0 zl1 zl2 zl3 zl4 zl6 zl7 M H locs ls hP hS hl h
    unfold wp_X12_fillsRows_70 at h
    refine lv_iload hx hb dX12_fillsRows_70 (lv_at hl 6 rfl) ?_
    refine lv_aload_n hx hb dX12_fillsRows_72 rfl (lv_at hl 0 rfl) ?_
    refine r_getr (C := RX12) (T := TX12) (N := 38) hx hb hts (fun w h => List.mem_cons_of_mem _ (iX12 w h)) hown hK hP rfl (by decide) rfl 20 (by decide) (hts _ (List.mem_cons_of_mem _ kw_1354)) (fun _ h9 => h9) dX12_fillsRows_73 (by decide) h (fun x6 h => ?_)
    refine r_iconst hx hb dX12_fillsRows_76 (by decide) h (fun z8 h => ?_)
    refine r_iald hx hb hK hP dX12_fillsRows_77 h (fun z10 h => ?_)
    refine r_icmp_ge (tgt := 153) hx hb dX12_fillsRows_78 (by decide) h (fun h => ?_) (fun h => ?_)
    · refine lv_aload_n hx hb dX12_fillsRows_153 rfl (lv_at hl 0 rfl) ?_
      refine r_getr (C := RX12) (T := TX12) (N := 38) hx hb hts (fun w h => List.mem_cons_of_mem _ (iX12 w h)) hown hK hP rfl (by decide) rfl 31 (by decide) (hts _ (List.mem_cons_of_mem _ kw_1365)) (fun _ h9 => h9) dX12_fillsRows_154 (by decide) h (fun x12 h => ?_)
      refine lv_iload_n hx hb dX12_fillsRows_157 rfl (lv_at hl 2 rfl) ?_
      refine lv_iload_n hx hb dX12_fillsRows_158 rfl (lv_at hl 3 rfl) ?_
      refine q_Si hx hb hml hown hts hK hP hS (c_X12_spot l D G S _ zl2 zl3 _ h) ⟨callB_of 2 hts (gw_good kw_1917) rfl rfl rfl (hts _ (List.mem_cons_of_mem _ kw_14)) (hts _ (List.mem_cons_of_mem _ kw_1915)) hd_X12_spot ⟨Nat.le_of_ble_eq_true rfl, Nat.le_of_ble_eq_true rfl⟩, (hts _ (List.mem_cons_of_mem _ kw_1916))⟩ rfl hl.1 rfl (lv_room (Nat.le_of_ble_eq_true rfl)) dX12_fillsRows_159 ⟨Nat.zero_le _, Nat.zero_le _⟩ (fun z15 M13 H locs h hP hS => ?_)
      refine lv_lload hx hb dX12_fillsRows_162 (lv_at hl 4 rfl) ?_
      refine r_ldc2 hx hb hown (hts _ (List.mem_cons_of_mem _ kw_1918)) dX12_fillsRows_164 (n := 1000000007) (by decide) h (fun z17 h => ?_)
      refine r_lrem hx hb dX12_fillsRows_167 h (fun z19 h => ?_)
      refine r_l2i hx hb dX12_fillsRows_168 h (fun z21 h => ?_)
      refine r_iast hx hb hK hP hS dX12_fillsRows_169 h (fun M22 H locs h hP hS => ?_)
      refine lv_aload_n hx hb dX12_fillsRows_170 rfl (lv_at hl 0 rfl) ?_
      refine r_getr (C := RX12) (T := TX12) (N := 38) hx hb hts (fun w h => List.mem_cons_of_mem _ (iX12 w h)) hown hK hP rfl (by decide) rfl 32 (by decide) (hts _ (List.mem_cons_of_mem _ kw_1366)) (fun _ h9 => h9) dX12_fillsRows_171 (by decide) h (fun x24 h => ?_)
      refine lv_iload_n hx hb dX12_fillsRows_174 rfl (lv_at hl 2 rfl) ?_
      refine lv_iload_n hx hb dX12_fillsRows_175 rfl (lv_at hl 3 rfl) ?_
      refine q_Si hx hb hml hown hts hK hP hS (c_X12_spot l D G S _ zl2 zl3 _ h) ⟨callB_of 2 hts (gw_good kw_1917) rfl rfl rfl (hts _ (List.mem_cons_of_mem _ kw_14)) (hts _ (List.mem_cons_of_mem _ kw_1915)) hd_X12_spot ⟨Nat.le_of_ble_eq_true rfl, Nat.le_of_ble_eq_true rfl⟩, (hts _ (List.mem_cons_of_mem _ kw_1916))⟩ rfl hl.1 rfl (lv_room (Nat.le_of_ble_eq_true rfl)) dX12_fillsRows_176 ⟨Nat.zero_le _, Nat.zero_le _⟩ (fun z27 M25 H locs h hP hS => ?_)
      refine lv_iload hx hb dX12_fillsRows_179 (lv_at hl 5 rfl) ?_
      refine r_zast hx hb hK hP hS dX12_fillsRows_181 h (fun M28 H locs h hP hS => ?_)
      refine r_iinc hx hb (fun z30 => [(3, .int z30), (0, .ref (adr G xl0)), (1, .int zl1), (2, .int zl2), (4, .long zl4), (6, .int zl6), (7, .int zl7)]) dX12_fillsRows_182 (by decide) hl (k := 3) rfl (by decide) (fun _ => rfl) h (fun z30 ls hl h => ?_)
      refine lv_goto (tgt := 54) hx hb dX12_fillsRows_185 (by decide) ?_
      exact hk54 xl0 zl1 zl2 z30 _ _ _ _ hP hS (lv_sub hl [1, 2, 3, 0] rfl) h
    · refine lv_iload_n hx hb dX12_fillsRows_81 rfl (lv_at hl 3 rfl) ?_
      refine lv_aload_n hx hb dX12_fillsRows_82 rfl (lv_at hl 0 rfl) ?_
      refine lv_iload hx hb dX12_fillsRows_83 (lv_at hl 6 rfl) ?_
      refine r_iconst hx hb dX12_fillsRows_85 (by decide) h (fun z32 h => ?_)
      refine q_Vi hx hb hml hown hts hK hP hS (c_X12_handOf l D G S _ xl0 zl7 z32 _ h.2) ⟨callB_of 2 hts (gw_good kw_1650) rfl rfl rfl (hts _ (List.mem_cons_of_mem _ kw_14)) (hts _ (List.mem_cons_of_mem _ kw_1647)) hd_X12_handOf ⟨Nat.le_of_ble_eq_true rfl, Nat.le_of_ble_eq_true rfl⟩, (hts _ (List.mem_cons_of_mem _ kw_1649)), (hts _ (List.mem_cons_of_mem _ kp_88))⟩ h.1 (ci := 12) rfl (by decide) rfl hl.1 rfl (lv_room (Nat.le_of_ble_eq_true rfl)) dX12_fillsRows_86 ⟨Nat.zero_le _, Nat.zero_le _⟩ (fun z35 M33 H locs h hP hS => ?_)
      refine r_isub hx hb dX12_fillsRows_89 h (fun z37 h => ?_)
      refine lv_istore (lv' := [(8, .int z37), (0, .ref (adr G xl0)), (1, .int zl1), (2, .int zl2), (3, .int zl3), (4, .long zl4), (6, .int zl6), (7, .int zl7)]) hx hb dX12_fillsRows_90 hl (by decide) rfl (fun ls hl => ?_)
      refine lv_iload hx hb dX12_fillsRows_92 (lv_at hl 0 rfl) ?_
      refine r_if_ge (tgt := 100) hx hb dX12_fillsRows_94 (by decide) h (fun h => ?_) (fun h => ?_)
      · refine lv_lload hx hb dX12_fillsRows_100 (lv_at hl 5 rfl) ?_
        refine lv_aload_n hx hb dX12_fillsRows_102 rfl (lv_at hl 1 rfl) ?_
        refine r_getr (C := RX12) (T := TX12) (N := 38) hx hb hts (fun w h => List.mem_cons_of_mem _ (iX12 w h)) hown hK hP rfl (by decide) rfl 31 (by decide) (hts _ (List.mem_cons_of_mem _ kw_1365)) (fun _ h9 => h9) dX12_fillsRows_103 (by decide) h (fun x39 h => ?_)
        refine lv_iload_n hx hb dX12_fillsRows_106 rfl (lv_at hl 3 rfl) ?_
        refine r_iconst hx hb dX12_fillsRows_107 (by decide) h (fun z41 h => ?_)
        refine r_isub hx hb dX12_fillsRows_108 h (fun z43 h => ?_)
        refine lv_iload hx hb dX12_fillsRows_109 (lv_at hl 0 rfl) ?_
        refine q_Si hx hb hml hown hts hK hP hS (c_X12_spot l D G S _ z43 z37 _ h) ⟨callB_of 2 hts (gw_good kw_1917) rfl rfl rfl (hts _ (List.mem_cons_of_mem _ kw_14)) (hts _ (List.mem_cons_of_mem _ kw_1915)) hd_X12_spot ⟨Nat.le_of_ble_eq_true rfl, Nat.le_of_ble_eq_true rfl⟩, (hts _ (List.mem_cons_of_mem _ kw_1916))⟩ rfl hl.1 rfl (lv_room (Nat.le_of_ble_eq_true rfl)) dX12_fillsRows_111 ⟨Nat.zero_le _, Nat.zero_le _⟩ (fun z46 M44 H locs h hP hS => ?_)
        refine r_iald hx hb hK hP dX12_fillsRows_114 h (fun z48 h => ?_)
        refine r_i2l hx hb dX12_fillsRows_115 h (fun z50 h => ?_)
        refine r_ladd hx hb dX12_fillsRows_116 h (fun z52 h => ?_)
        refine lv_lstore (lv' := [(4, .long z52), (8, .int z37), (0, .ref (adr G xl0)), (1, .int zl1), (2, .int zl2), (3, .int zl3), (6, .int zl6), (7, .int zl7)]) hx hb dX12_fillsRows_117 hl (by decide) rfl (fun ls hl => ?_)
        refine lv_iload hx hb dX12_fillsRows_119 (lv_at hl 6 rfl) ?_
        refine r_if_ne (tgt := 140) hx hb dX12_fillsRows_121 (by decide) h (fun h => ?_) (fun h => ?_)
        · exact t_X12_fillsRows_140 C hk47 hk54 ih xl0 zl1 zl2 zl3 z52 zl7 _ _ _ _ hP hS (lv_sub hl [2, 3, 4, 5, 0, 7] rfl) h
        · refine lv_aload_n hx hb dX12_fillsRows_124 rfl (lv_at hl 2 rfl) ?_
          refine r_getr (C := RX12) (T := TX12) (N := 38) hx hb hts (fun w h => List.mem_cons_of_mem _ (iX12 w h)) hown hK hP rfl (by decide) rfl 32 (by decide) (hts _ (List.mem_cons_of_mem _ kw_1366)) (fun _ h9 => h9) dX12_fillsRows_125 (by decide) h (fun x54 h => ?_)
          refine lv_iload_n hx hb dX12_fillsRows_128 rfl (lv_at hl 4 rfl) ?_
          refine r_iconst hx hb dX12_fillsRows_129 (by decide) h (fun z56 h => ?_)
          refine r_isub hx hb dX12_fillsRows_130 h (fun z58 h => ?_)
          refine lv_iload hx hb dX12_fillsRows_131 (lv_at hl 1 rfl) ?_
          refine q_Si hx hb hml hown hts hK hP hS (c_X12_spot l D G S _ z58 z37 _ h) ⟨callB_of 2 hts (gw_good kw_1917) rfl rfl rfl (hts _ (List.mem_cons_of_mem _ kw_14)) (hts _ (List.mem_cons_of_mem _ kw_1915)) hd_X12_spot ⟨Nat.le_of_ble_eq_true rfl, Nat.le_of_ble_eq_true rfl⟩, (hts _ (List.mem_cons_of_mem _ kw_1916))⟩ rfl hl.1 rfl (lv_room (Nat.le_of_ble_eq_true rfl)) dX12_fillsRows_133 ⟨Nat.zero_le _, Nat.zero_le _⟩ (fun z61 M59 H locs h hP hS => ?_)
          refine r_zald hx hb hK hP dX12_fillsRows_136 h (fun z63 h => ?_)
          refine r_if_eq (tgt := 144) hx hb dX12_fillsRows_137 (by decide) h (fun h => ?_) (fun h => ?_)
          · refine r_iconst hx hb dX12_fillsRows_144 (by decide) h (fun z65 h => ?_)
            exact t_X12_fillsRows_145 C hk47 hk54 ih xl0 zl1 zl2 zl3 z52 zl7 z65 _ _ _ _ hP hS (lv_sub hl [2, 3, 4, 5, 0, 7] rfl) h
          · exact t_X12_fillsRows_140 C hk47 hk54 ih xl0 zl1 zl2 zl3 z52 zl7 _ _ _ _ hP hS (lv_sub hl [2, 3, 4, 5, 0, 7] rfl) h
      · refine lv_goto (tgt := 147) hx hb dX12_fillsRows_97 (by decide) ?_
        exact t_X12_fillsRows_147 C hk47 hk54 ih xl0 zl1 zl2 zl3 zl4 zl6 zl7 _ _ _ _ hP hS (lv_sub hl [1, 2, 3, 4, 5, 6, 7] rfl) h
set_option maxHeartbeats 4000000 in
set_option maxRecDepth 100000 in
theorem t_X12_fillsRows_54 {p : Program} {l : Launch} {e : Env} {s : State} {m : MethodId} {args : Array Value} {below : List Frame} {meth : Method} {c : Code} {D : va_G} {G : Gt} {S : Sh} {post : Mm → Prop} {k47 : Int → Int → Int → Mm → Prop} (C : Cx p s m args meth c D G cX12_fillsRows 9 none (cw_X12_fillsRows :: gw) RX12) (hk47 : ∀ (y0 : Int) (y1 : Int32) (y2 : Int32) (M : Mm) (H : Heap) (locs : List Loc) (ls : Array Slot), Wd D G S M H → va_S (aG G) s.heap H locs → lv_has ls 9 [(0, .ref (adr G y0)), (1, .int y1), (2, .int y2)] → k47 y0 y1.toInt y2.toInt M → W p l e RM_X12_fillsRows s m args below meth c H locs 0 0 (MQ below (QV D G S post) args s 0 0 (aG G)) (F0 m 47 ls [])) : ∀ (n : Nat) (xl0 : Int) (zl1 : Int32) (zl2 : Int32) (zl3 : Int32) (M : Mm) (H : Heap) (locs : List Loc) (ls : Array Slot), Wd D G S M H → va_S (aG G) s.heap H locs → lv_has ls 9 [(0, .ref (adr G xl0)), (1, .int zl1), (2, .int zl2), (3, .int zl3)] → wp_X12_fillsRows_54 S k47 post n xl0 zl1.toInt zl2.toInt zl3.toInt  M → W p l e RM_X12_fillsRows s m args below meth c H locs 0 0 (MQ below (QV D G S post) args s 0 0 (aG G)) (F0 m 54 ls []) := by
  obtain ⟨hx, hb, hr, hlocks, hml, hown, hts, hK⟩ := id C
  intro n
  induction n with
  | zero => intro xl0 zl1 zl2 zl3 M H locs ls hP hS hl h; exact h.elim
  | succ n ih =>
    intro xl0 zl1 zl2 zl3 M H locs ls hP hS hl h
    unfold wp_X12_fillsRows_54 at h
    refine lv_iload_n hx hb dX12_fillsRows_54 rfl (lv_at hl 3 rfl) ?_
    refine r_sipush hx hb dX12_fillsRows_55 (by decide) h (fun z67 h => ?_)
    refine r_icmp_gt (tgt := 188) hx hb dX12_fillsRows_58 (by decide) h (fun h => ?_) (fun h => ?_)
    · refine r_iinc hx hb (fun z69 => [(2, .int z69), (0, .ref (adr G xl0)), (1, .int zl1), (3, .int zl3)]) dX12_fillsRows_188 (by decide) hl (k := 2) rfl (by decide) (fun _ => rfl) h (fun z69 ls hl h => ?_)
      refine lv_goto (tgt := 47) hx hb dX12_fillsRows_191 (by decide) ?_
      exact hk47 xl0 zl1 z69 _ _ _ _ hP hS (lv_sub hl [1, 2, 0] rfl) h
    · refine r_lconst hx hb dX12_fillsRows_61 (v := 0) (by decide) h (fun z71 h => ?_)
      refine lv_lstore (lv' := [(4, .long z71), (0, .ref (adr G xl0)), (1, .int zl1), (2, .int zl2), (3, .int zl3)]) hx hb dX12_fillsRows_62 hl (by decide) rfl (fun ls hl => ?_)
      refine r_iconst hx hb dX12_fillsRows_64 (by decide) h (fun z73 h => ?_)
      refine lv_istore (lv' := [(6, .int z73), (4, .long z71), (0, .ref (adr G xl0)), (1, .int zl1), (2, .int zl2), (3, .int zl3)]) hx hb dX12_fillsRows_65 hl (by decide) rfl (fun ls hl => ?_)
      refine r_iconst hx hb dX12_fillsRows_67 (by decide) h (fun z75 h => ?_)
      refine lv_istore (lv' := [(7, .int z75), (6, .int z73), (4, .long z71), (0, .ref (adr G xl0)), (1, .int zl1), (2, .int zl2), (3, .int zl3)]) hx hb dX12_fillsRows_68 hl (by decide) rfl (fun ls hl => ?_)
      obtain ⟨n9, h⟩ := h
      exact t_X12_fillsRows_70 C hk47 ih n9 xl0 zl1 zl2 zl3 z71 z73 z75 _ _ _ _ hP hS (lv_sub hl [3, 4, 5, 6, 2, 1, 0] rfl) h
set_option maxHeartbeats 4000000 in
set_option maxRecDepth 100000 in
theorem t_X12_fillsRows_47 {p : Program} {l : Launch} {e : Env} {s : State} {m : MethodId} {args : Array Value} {below : List Frame} {meth : Method} {c : Code} {D : va_G} {G : Gt} {S : Sh} {post : Mm → Prop} (C : Cx p s m args meth c D G cX12_fillsRows 9 none (cw_X12_fillsRows :: gw) RX12) : ∀ (n : Nat) (xl0 : Int) (zl1 : Int32) (zl2 : Int32) (M : Mm) (H : Heap) (locs : List Loc) (ls : Array Slot), Wd D G S M H → va_S (aG G) s.heap H locs → lv_has ls 9 [(0, .ref (adr G xl0)), (1, .int zl1), (2, .int zl2)] → wp_X12_fillsRows_47 S post n xl0 zl1.toInt zl2.toInt  M → W p l e RM_X12_fillsRows s m args below meth c H locs 0 0 (MQ below (QV D G S post) args s 0 0 (aG G)) (F0 m 47 ls []) := by
  obtain ⟨hx, hb, hr, hlocks, hml, hown, hts, hK⟩ := id C
  intro n
  induction n with
  | zero => intro xl0 zl1 zl2 M H locs ls hP hS hl h; exact h.elim
  | succ n ih =>
    intro xl0 zl1 zl2 M H locs ls hP hS hl h
    unfold wp_X12_fillsRows_47 at h
    refine lv_iload_n hx hb dX12_fillsRows_47 rfl (lv_at hl 2 rfl) ?_
    refine lv_iload_n hx hb dX12_fillsRows_48 rfl (lv_at hl 1 rfl) ?_
    refine r_icmp_gt (tgt := 194) hx hb dX12_fillsRows_49 (by decide) h (fun h => ?_) (fun h => ?_)
    · exact r_vret hx hb hr hlocks hP hS dX12_fillsRows_194 h
    · refine r_iconst hx hb dX12_fillsRows_52 (by decide) h (fun z77 h => ?_)
      refine lv_istore_n (lv' := [(3, .int z77), (0, .ref (adr G xl0)), (1, .int zl1), (2, .int zl2)]) hx hb dX12_fillsRows_53 rfl hl (by decide) rfl (fun ls hl => ?_)
      obtain ⟨n9, h⟩ := h
      exact t_X12_fillsRows_54 C ih n9 xl0 zl1 zl2 z77 _ _ _ _ hP hS (lv_sub hl [1, 2, 3, 0] rfl) h
set_option maxHeartbeats 4000000 in
set_option maxRecDepth 100000 in
theorem t_X12_fillsRows_38 {p : Program} {l : Launch} {e : Env} {s : State} {m : MethodId} {args : Array Value} {below : List Frame} {meth : Method} {c : Code} {D : va_G} {G : Gt} {S : Sh} {post : Mm → Prop} {k2 : Int → Int → Int → Mm → Prop} (C : Cx p s m args meth c D G cX12_fillsRows 9 none (cw_X12_fillsRows :: gw) RX12) (hk2 : ∀ (y0 : Int) (y1 : Int32) (y2 : Int32) (M : Mm) (H : Heap) (locs : List Loc) (ls : Array Slot), Wd D G S M H → va_S (aG G) s.heap H locs → lv_has ls 9 [(0, .ref (adr G y0)), (1, .int y1), (2, .int y2)] → k2 y0 y1.toInt y2.toInt M → W p l e RM_X12_fillsRows s m args below meth c H locs 0 0 (MQ below (QV D G S post) args s 0 0 (aG G)) (F0 m 2 ls [])) : ∀ (xl0 : Int) (zl1 : Int32) (zl2 : Int32) (xs0 : Int) (zs1 : Int32) (zs2 : Int32) (M : Mm) (H : Heap) (locs : List Loc) (ls : Array Slot), Wd D G S M H → va_S (aG G) s.heap H locs → lv_has ls 9 [(0, .ref (adr G xl0)), (1, .int zl1), (2, .int zl2)] → wp_X12_fillsRows_38 S k2 post xl0 zl1.toInt zl2.toInt xs0 zs1.toInt zs2.toInt M → W p l e RM_X12_fillsRows s m args below meth c H locs 0 0 (MQ below (QV D G S post) args s 0 0 (aG G)) (F0 m 38 ls [.int zs2, .int zs1, .ref (adr G xs0)]) := by
  obtain ⟨hx, hb, hr, hlocks, hml, hown, hts, hK⟩ := id C
  intro xl0 zl1 zl2 xs0 zs1 zs2 M H locs ls hP hS hl h
  unfold wp_X12_fillsRows_38 at h
  refine r_zast hx hb hK hP hS dX12_fillsRows_38 h (fun M78 H locs h hP hS => ?_)
  refine r_iinc hx hb (fun z80 => [(2, .int z80), (0, .ref (adr G xl0)), (1, .int zl1)]) dX12_fillsRows_39 (by decide) hl (k := 2) rfl (by decide) (fun _ => rfl) h (fun z80 ls hl h => ?_)
  refine lv_goto (tgt := 2) hx hb dX12_fillsRows_42 (by decide) ?_
  exact hk2 xl0 zl1 z80 _ _ _ _ hP hS (lv_sub hl [1, 2, 0] rfl) h
set_option maxHeartbeats 4000000 in
set_option maxRecDepth 100000 in
theorem t_X12_fillsRows_23 {p : Program} {l : Launch} {e : Env} {s : State} {m : MethodId} {args : Array Value} {below : List Frame} {meth : Method} {c : Code} {D : va_G} {G : Gt} {S : Sh} {post : Mm → Prop} {k2 : Int → Int → Int → Mm → Prop} (C : Cx p s m args meth c D G cX12_fillsRows 9 none (cw_X12_fillsRows :: gw) RX12) (hk2 : ∀ (y0 : Int) (y1 : Int32) (y2 : Int32) (M : Mm) (H : Heap) (locs : List Loc) (ls : Array Slot), Wd D G S M H → va_S (aG G) s.heap H locs → lv_has ls 9 [(0, .ref (adr G y0)), (1, .int y1), (2, .int y2)] → k2 y0 y1.toInt y2.toInt M → W p l e RM_X12_fillsRows s m args below meth c H locs 0 0 (MQ below (QV D G S post) args s 0 0 (aG G)) (F0 m 2 ls [])) : ∀ (xl0 : Int) (zl1 : Int32) (zl2 : Int32) (xs0 : Int) (zs1 : Int32) (zs2 : Int32) (M : Mm) (H : Heap) (locs : List Loc) (ls : Array Slot), Wd D G S M H → va_S (aG G) s.heap H locs → lv_has ls 9 [(0, .ref (adr G xl0)), (1, .int zl1), (2, .int zl2)] → wp_X12_fillsRows_23 S k2 post xl0 zl1.toInt zl2.toInt xs0 zs1.toInt zs2.toInt M → W p l e RM_X12_fillsRows s m args below meth c H locs 0 0 (MQ below (QV D G S post) args s 0 0 (aG G)) (F0 m 23 ls [.int zs2, .int zs1, .ref (adr G xs0)]) := by
  obtain ⟨hx, hb, hr, hlocks, hml, hown, hts, hK⟩ := id C
  intro xl0 zl1 zl2 xs0 zs1 zs2 M H locs ls hP hS hl h
  unfold wp_X12_fillsRows_23 at h
  refine r_iast hx hb hK hP hS dX12_fillsRows_23 h (fun M81 H locs h hP hS => ?_)
  refine lv_aload_n hx hb dX12_fillsRows_24 rfl (lv_at hl 0 rfl) ?_
  refine r_getr (C := RX12) (T := TX12) (N := 38) hx hb hts (fun w h => List.mem_cons_of_mem _ (iX12 w h)) hown hK hP rfl (by decide) rfl 32 (by decide) (hts _ (List.mem_cons_of_mem _ kw_1366)) (fun _ h9 => h9) dX12_fillsRows_25 (by decide) h (fun x83 h => ?_)
  refine lv_iload_n hx hb dX12_fillsRows_28 rfl (lv_at hl 2 rfl) ?_
  refine lv_iload_n hx hb dX12_fillsRows_29 rfl (lv_at hl 2 rfl) ?_
  refine r_if_ne (tgt := 37) hx hb dX12_fillsRows_30 (by decide) h (fun h => ?_) (fun h => ?_)
  · refine r_iconst hx hb dX12_fillsRows_37 (by decide) h (fun z85 h => ?_)
    exact t_X12_fillsRows_38 C hk2 xl0 zl1 zl2 x83 zl2 z85 _ _ _ _ hP hS (lv_sub hl [0, 1, 2] rfl) h
  · refine r_iconst hx hb dX12_fillsRows_33 (by decide) h (fun z87 h => ?_)
    refine lv_goto (tgt := 38) hx hb dX12_fillsRows_34 (by decide) ?_
    exact t_X12_fillsRows_38 C hk2 xl0 zl1 zl2 x83 zl2 z87 _ _ _ _ hP hS (lv_sub hl [0, 1, 2] rfl) h
set_option maxHeartbeats 4000000 in
set_option maxRecDepth 100000 in
theorem t_X12_fillsRows_2 {p : Program} {l : Launch} {e : Env} {s : State} {m : MethodId} {args : Array Value} {below : List Frame} {meth : Method} {c : Code} {D : va_G} {G : Gt} {S : Sh} {post : Mm → Prop} (C : Cx p s m args meth c D G cX12_fillsRows 9 none (cw_X12_fillsRows :: gw) RX12) : ∀ (n : Nat) (xl0 : Int) (zl1 : Int32) (zl2 : Int32) (M : Mm) (H : Heap) (locs : List Loc) (ls : Array Slot), Wd D G S M H → va_S (aG G) s.heap H locs → lv_has ls 9 [(0, .ref (adr G xl0)), (1, .int zl1), (2, .int zl2)] → wp_X12_fillsRows_2 S post n xl0 zl1.toInt zl2.toInt  M → W p l e RM_X12_fillsRows s m args below meth c H locs 0 0 (MQ below (QV D G S post) args s 0 0 (aG G)) (F0 m 2 ls []) := by
  obtain ⟨hx, hb, hr, hlocks, hml, hown, hts, hK⟩ := id C
  intro n
  induction n with
  | zero => intro xl0 zl1 zl2 M H locs ls hP hS hl h; exact h.elim
  | succ n ih =>
    intro xl0 zl1 zl2 M H locs ls hP hS hl h
    unfold wp_X12_fillsRows_2 at h
    refine lv_iload_n hx hb dX12_fillsRows_2 rfl (lv_at hl 2 rfl) ?_
    refine r_sipush hx hb dX12_fillsRows_3 (by decide) h (fun z89 h => ?_)
    refine r_icmp_gt (tgt := 45) hx hb dX12_fillsRows_6 (by decide) h (fun h => ?_) (fun h => ?_)
    · refine r_iconst hx hb dX12_fillsRows_45 (by decide) h (fun z91 h => ?_)
      refine lv_istore_n (lv' := [(2, .int z91), (0, .ref (adr G xl0)), (1, .int zl1)]) hx hb dX12_fillsRows_46 rfl hl (by decide) rfl (fun ls hl => ?_)
      obtain ⟨n9, h⟩ := h
      exact t_X12_fillsRows_47 C n9 xl0 zl1 z91 _ _ _ _ hP hS (lv_sub hl [1, 2, 0] rfl) h
    · refine lv_aload_n hx hb dX12_fillsRows_9 rfl (lv_at hl 0 rfl) ?_
      refine r_getr (C := RX12) (T := TX12) (N := 38) hx hb hts (fun w h => List.mem_cons_of_mem _ (iX12 w h)) hown hK hP rfl (by decide) rfl 31 (by decide) (hts _ (List.mem_cons_of_mem _ kw_1365)) (fun _ h9 => h9) dX12_fillsRows_10 (by decide) h (fun x93 h => ?_)
      refine lv_iload_n hx hb dX12_fillsRows_13 rfl (lv_at hl 2 rfl) ?_
      refine lv_iload_n hx hb dX12_fillsRows_14 rfl (lv_at hl 2 rfl) ?_
      refine r_if_ne (tgt := 22) hx hb dX12_fillsRows_15 (by decide) h (fun h => ?_) (fun h => ?_)
      · refine r_iconst hx hb dX12_fillsRows_22 (by decide) h (fun z95 h => ?_)
        exact t_X12_fillsRows_23 C ih xl0 zl1 zl2 x93 zl2 z95 _ _ _ _ hP hS (lv_sub hl [0, 1, 2] rfl) h
      · refine r_iconst hx hb dX12_fillsRows_18 (by decide) h (fun z97 h => ?_)
        refine lv_goto (tgt := 23) hx hb dX12_fillsRows_19 (by decide) ?_
        exact t_X12_fillsRows_23 C ih xl0 zl1 zl2 x93 zl2 z97 _ _ _ _ hP hS (lv_sub hl [0, 1, 2] rfl) h
set_option maxHeartbeats 4000000 in
set_option maxRecDepth 100000 in
theorem c_X12_fillsRows (l : Launch) (D : va_G) (G : Gt) (S : Sh) (M : Mm) (xl0 : Int) (zl1 : Int32) (post : Mm → Prop) (h : wp_X12_fillsRows S M xl0 zl1.toInt post) : Met l yX12_fillsRows (cw_X12_fillsRows :: gw) RM_X12_fillsRows (va_Pc [.ref (adr G xl0), .int zl1] (fun U => KN D G U ∧ Wd D G S M U.heap)) (QV D G S post) 0 0 (aG G) := by
  refine Met.ofW (cc := cX12_fillsRows) (maxL := 9) (ret := none) (by decide) rfl ?_
  intro p e s m args below meth c s₁ B hml hv
  obtain ⟨rfl, hK, hP⟩ := hv
  have hx := B.exec
  have hb := B.bytes
  have hr := B.returns
  have hts := atoms_spec (ws := cw_X12_fillsRows :: gw) B.pre
  have hown : s.vm.findClass RX12 = some m.cls := findClass_of_methodNamed B.named
  have hlocks := B.notSynchronized
  have hS : va_S (aG G) s.heap s.heap [] := va_S.rf
  have C : Cx p s m ([.ref (adr G xl0), .int zl1] : List Value).toArray meth c D G cX12_fillsRows 9 none (cw_X12_fillsRows :: gw) RX12 := ⟨hx, hb, hr, hlocks, hml, hown, hts, hK⟩
  have hl := lv_entry ([.ref (adr G xl0), .int zl1]) (n := 9) (Nat.le_of_ble_eq_true rfl)
  rw [lg_entry_eq]
  generalize (lg_sl ([.ref (adr G xl0), .int zl1]) ++ List.replicate (9 - (lg_sl ([.ref (adr G xl0), .int zl1])).length) Slot.unset).toArray = ls at hl ⊢
  have hl : lv_has ls 9 [(0, .ref (adr G xl0)), (1, .int zl1)] := hl
  unfold wp_X12_fillsRows at h
  refine r_iconst hx hb dX12_fillsRows_0 (by decide) h (fun z99 h => ?_)
  refine lv_istore_n (lv' := [(2, .int z99), (0, .ref (adr G xl0)), (1, .int zl1)]) hx hb dX12_fillsRows_1 rfl hl (by decide) rfl (fun ls hl => ?_)
  obtain ⟨n9, h⟩ := h
  exact t_X12_fillsRows_2 C n9 xl0 zl1 z99 _ _ _ _ hP hS (lv_sub hl [1, 2, 0] rfl) h
