theorem dX3_readClause_109 : decode cX3_readClause 109 = .ok (.ireturn, 1) := by decide +kernel
theorem dX3_readClause_110 : decode cX3_readClause 110 = .ok (.aload_n 0, 1) := by decide +kernel
theorem dX3_readClause_111 : decode cX3_readClause 111 = .ok (.invokevirtual 91, 3) := by decide +kernel
theorem dX3_readClause_114 : decode cX3_readClause 114 = .ok (.ifCond .ne 5, 3) := by decide +kernel
theorem dX3_readClause_117 : decode cX3_readClause 117 = .ok (.iconst 0, 1) := by decide +kernel
theorem dX3_readClause_118 : decode cX3_readClause 118 = .ok (.ireturn, 1) := by decide +kernel
theorem dX3_readClause_119 : decode cX3_readClause 119 = .ok (.iinc 2 1, 3) := by decide +kernel
theorem dX3_readClause_122 : decode cX3_readClause 122 = .ok (.goto (-64), 3) := by decide +kernel
theorem dX3_readClause_125 : decode cX3_readClause 125 = .ok (.iconst 0, 1) := by decide +kernel
theorem dX3_readClause_126 : decode cX3_readClause 126 = .ok (.ireturn, 1) := by decide +kernel
def wp_X3_readClause_105 (S : Sh) (post : Int → Mm → Prop) (t0 : Int) (t1 : Int) (M : Mm) : Prop := isK S t0 3 ∧ (wp_X3_write S M t0 t1 <| fun M1 => wC 1 fun v2 => (v2 = 0 ∨ v2 = 1) ∧ post v2 M1)
def wp_X3_readClause_58 (S : Sh) (post : Int → Mm → Prop) : Nat → Int → Int → Mm → Prop
  | 0, _, _, _ => False
  | n + 1, u0, u2, M => wC 400 fun v4 => wIf (v4 ≤ u2) (wC 0 fun v6 => (v6 = 0 ∨ v6 = 1) ∧ post v6 M) (isK S u0 3 ∧ (wp_X3_readValue S M u0 <| fun v9 M8 => wIf (¬ v9 = 0) (isK S u0 3 ∧ (wp_X3_closeBrackets S M8 u0 <| fun M11 => isK S u0 3 ∧ (wp_X3_endsHere S M11 u0 <| fun v13 M12 => wIf (v13 = 0) (isK S u0 3 ∧ (wp_X3_readJoint S M12 u0 <| fun v16 M15 => wIf (¬ v16 = 0) (wA u2 1 fun v18 => wp_X3_readClause_58 S post n u0 v18 M15) (wC 0 fun v20 => (v20 = 0 ∨ v20 = 1) ∧ post v20 M15))) (wC 0 fun v22 => isK S u0 3 ∧ (wp_X3_unpile S M12 u0 v22 <| fun M24 => wGet S M24 u0 3 8 fun v25 => wIf (¬ v25 = 0) (wC (-26) fun v27 => wp_X3_readClause_105 S post u0 v27 M24) (wC (-25) fun v29 => wp_X3_readClause_105 S post u0 v29 M24)))))) (wC 0 fun v31 => (v31 = 0 ∨ v31 = 1) ∧ post v31 M8)))
def wp_X3_readClause (S : Sh) (M : Mm) (u0 : Int) (u1 : Int) (post : Int → Mm → Prop) : Prop := wGetR S M u0 3 0 fun v33 => wC (-9) fun v35 => isK S v33 7 ∧ (wp_X7_takesWord S M v33 v35 <| fun v38 M37 => wIf (¬ v38 = 0) (wC 12 fun v40 => wIf (u1 < v40) (wC 0 fun v42 => wPut S M37 u0 3 5 v42 fun M44 => wC 0 fun v45 => wPut S M44 u0 3 6 v45 fun M47 => wC 0 fun v48 => wPut S M47 u0 3 7 v48 fun M50 => wC 0 fun v51 => wPut S M50 u0 3 8 v51 fun M53 => wC 0 fun v54 => ∃ n9 : Nat, wp_X3_readClause_58 S post n9 u0 v54 M53) (wGetR S M37 u0 3 0 fun v56 => wC 4 fun v58 => isK S v56 7 ∧ (wp_X7_refuse S M37 v56 v58 <| fun v61 M60 => (v61 = 0 ∨ v61 = 1) ∧ post v61 M60))) (wGetR S M37 u0 3 0 fun v63 => wC 0 fun v65 => isK S v63 7 ∧ (wp_X7_refuse S M37 v63 v65 <| fun v68 M67 => (v68 = 0 ∨ v68 = 1) ∧ post v68 M67)))
set_option maxHeartbeats 4000000 in
set_option maxRecDepth 100000 in
theorem t_X3_readClause_105 {p : Program} {l : Launch} {e : Env} {s : State} {m : MethodId} {args : Array Value} {below : List Frame} {meth : Method} {c : Code} {D : va_G} {G : Gt} {S : Sh} {post : Int → Mm → Prop} (C : Cx p s m args meth c D G cX3_readClause 3 (some .boolean) (cw_X3_readClause :: gw) RX3) : ∀ (xs0 : Int) (zs1 : Int32) (M : Mm) (H : Heap) (locs : List Loc) (ls : Array Slot), Wd D G S M H → va_S (aG G) s.heap H locs → lv_has ls 3 [] → wp_X3_readClause_105 S post xs0 zs1.toInt M → W p l e RM_X3_readClause s m args below meth c H locs 0 0 (MQ below (QI D G S post) args s 0 0 (aG G)) (F0 m 105 ls [.int zs1, .ref (adr G xs0)]) := by
  obtain ⟨hx, hb, hr, hlocks, hml, hown, hts, hK⟩ := id C
  intro xs0 zs1 M H locs ls hP hS hl h
  unfold wp_X3_readClause_105 at h
  refine q_Vv hx hb hml hown hts hK hP hS (c_X3_write l D G S _ xs0 zs1 _ h.2) ⟨callB_of 1 hts (gw_good kw_783) rfl rfl rfl (hts _ (List.mem_cons_of_mem _ kw_8)) (hts _ (List.mem_cons_of_mem _ kw_780)) hd_X3_write ⟨Nat.le_of_ble_eq_true rfl, Nat.le_of_ble_eq_true rfl⟩, (hts _ (List.mem_cons_of_mem _ kw_782)), (hts _ (List.mem_cons_of_mem _ kp_14))⟩ h.1 (ci := 3) rfl (by decide) rfl hl.1 rfl (lv_room (Nat.le_of_ble_eq_true rfl)) dX3_readClause_105 ⟨Nat.zero_le _, Nat.zero_le _⟩ (fun M1 H locs h hP hS => ?_)
  refine r_iconst hx hb dX3_readClause_108 (by decide) h (fun z3 h => ?_)
  exact r_zret hx hb hr hlocks hP hS dX3_readClause_109 h
set_option maxHeartbeats 4000000 in
set_option maxRecDepth 100000 in
theorem t_X3_readClause_58 {p : Program} {l : Launch} {e : Env} {s : State} {m : MethodId} {args : Array Value} {below : List Frame} {meth : Method} {c : Code} {D : va_G} {G : Gt} {S : Sh} {post : Int → Mm → Prop} (C : Cx p s m args meth c D G cX3_readClause 3 (some .boolean) (cw_X3_readClause :: gw) RX3) : ∀ (n : Nat) (xl0 : Int) (zl2 : Int32) (M : Mm) (H : Heap) (locs : List Loc) (ls : Array Slot), Wd D G S M H → va_S (aG G) s.heap H locs → lv_has ls 3 [(0, .ref (adr G xl0)), (2, .int zl2)] → wp_X3_readClause_58 S post n xl0 zl2.toInt  M → W p l e RM_X3_readClause s m args below meth c H locs 0 0 (MQ below (QI D G S post) args s 0 0 (aG G)) (F0 m 58 ls []) := by
  obtain ⟨hx, hb, hr, hlocks, hml, hown, hts, hK⟩ := id C
  intro n
  induction n with
  | zero => intro xl0 zl2 M H locs ls hP hS hl h; exact h.elim
  | succ n ih =>
    intro xl0 zl2 M H locs ls hP hS hl h
    unfold wp_X3_readClause_58 at h
    refine lv_iload_n hx hb dX3_readClause_58 rfl (lv_at hl 1 rfl) ?_
    refine r_sipush hx hb dX3_readClause_59 (by decide) h (fun z5 h => ?_)
    refine r_icmp_ge (tgt := 125) hx hb dX3_readClause_62 (by decide) h (fun h => ?_) (fun h => ?_)
    · refine r_iconst hx hb dX3_readClause_125 (by decide) h (fun z7 h => ?_)
      exact r_zret hx hb hr hlocks hP hS dX3_readClause_126 h
    · refine lv_aload_n hx hb dX3_readClause_65 rfl (lv_at hl 0 rfl) ?_
      refine q_Vi hx hb hml hown hts hK hP hS (c_X3_readValue l D G S _ xl0 _ h.2) ⟨callB_of 0 hts (gw_good kw_756) rfl rfl rfl (hts _ (List.mem_cons_of_mem _ kw_8)) (hts _ (List.mem_cons_of_mem _ kw_753)) hd_X3_readValue ⟨Nat.le_of_ble_eq_true rfl, Nat.le_of_ble_eq_true rfl⟩, (hts _ (List.mem_cons_of_mem _ kw_755)), (hts _ (List.mem_cons_of_mem _ kp_12))⟩ h.1 (ci := 3) rfl (by decide) rfl hl.1 rfl (lv_room (Nat.le_of_ble_eq_true rfl)) dX3_readClause_66 ⟨Nat.zero_le _, Nat.zero_le _⟩ (fun z10 M8 H locs h hP hS => ?_)
      refine r_if_ne (tgt := 74) hx hb dX3_readClause_69 (by decide) h (fun h => ?_) (fun h => ?_)
      · refine lv_aload_n hx hb dX3_readClause_74 rfl (lv_at hl 0 rfl) ?_
        refine q_Vv hx hb hml hown hts hK hP hS (c_X3_closeBrackets l D G S _ xl0 _ h.2) ⟨callB_of 0 hts (gw_good kw_787) rfl rfl rfl (hts _ (List.mem_cons_of_mem _ kw_8)) (hts _ (List.mem_cons_of_mem _ kw_784)) hd_X3_closeBrackets ⟨Nat.le_of_ble_eq_true rfl, Nat.le_of_ble_eq_true rfl⟩, (hts _ (List.mem_cons_of_mem _ kw_786)), (hts _ (List.mem_cons_of_mem _ kp_15))⟩ h.1 (ci := 3) rfl (by decide) rfl hl.1 rfl (lv_room (Nat.le_of_ble_eq_true rfl)) dX3_readClause_75 ⟨Nat.zero_le _, Nat.zero_le _⟩ (fun M11 H locs h hP hS => ?_)
        refine lv_aload_n hx hb dX3_readClause_78 rfl (lv_at hl 0 rfl) ?_
        refine q_Vi hx hb hml hown hts hK hP hS (c_X3_endsHere l D G S _ xl0 _ h.2) ⟨callB_of 0 hts (gw_good kw_807) rfl rfl rfl (hts _ (List.mem_cons_of_mem _ kw_8)) (hts _ (List.mem_cons_of_mem _ kw_804)) hd_X3_endsHere ⟨Nat.le_of_ble_eq_true rfl, Nat.le_of_ble_eq_true rfl⟩, (hts _ (List.mem_cons_of_mem _ kw_806)), (hts _ (List.mem_cons_of_mem _ kp_19))⟩ h.1 (ci := 3) rfl (by decide) rfl hl.1 rfl (lv_room (Nat.le_of_ble_eq_true rfl)) dX3_readClause_79 ⟨Nat.zero_le _, Nat.zero_le _⟩ (fun z14 M12 H locs h hP hS => ?_)
        refine r_if_eq (tgt := 110) hx hb dX3_readClause_82 (by decide) h (fun h => ?_) (fun h => ?_)
        · refine lv_aload_n hx hb dX3_readClause_110 rfl (lv_at hl 0 rfl) ?_
          refine q_Vi hx hb hml hown hts hK hP hS (c_X3_readJoint l D G S _ xl0 _ h.2) ⟨callB_of 0 hts (gw_good kw_813) rfl rfl rfl (hts _ (List.mem_cons_of_mem _ kw_8)) (hts _ (List.mem_cons_of_mem _ kw_810)) hd_X3_readJoint ⟨Nat.le_of_ble_eq_true rfl, Nat.le_of_ble_eq_true rfl⟩, (hts _ (List.mem_cons_of_mem _ kw_812)), (hts _ (List.mem_cons_of_mem _ kp_20))⟩ h.1 (ci := 3) rfl (by decide) rfl hl.1 rfl (lv_room (Nat.le_of_ble_eq_true rfl)) dX3_readClause_111 ⟨Nat.zero_le _, Nat.zero_le _⟩ (fun z17 M15 H locs h hP hS => ?_)
          refine r_if_ne (tgt := 119) hx hb dX3_readClause_114 (by decide) h (fun h => ?_) (fun h => ?_)
          · refine r_iinc hx hb (fun z19 => [(2, .int z19), (0, .ref (adr G xl0))]) dX3_readClause_119 (by decide) hl (k := 1) rfl (by decide) (fun _ => rfl) h (fun z19 ls hl h => ?_)
            refine lv_goto (tgt := 58) hx hb dX3_readClause_122 (by decide) ?_
            exact ih xl0 z19 _ _ _ _ hP hS (lv_sub hl [1, 0] rfl) h
          · refine r_iconst hx hb dX3_readClause_117 (by decide) h (fun z21 h => ?_)
            exact r_zret hx hb hr hlocks hP hS dX3_readClause_118 h
        · refine lv_aload_n hx hb dX3_readClause_85 rfl (lv_at hl 0 rfl) ?_
          refine r_iconst hx hb dX3_readClause_86 (by decide) h (fun z23 h => ?_)
          refine q_Vv hx hb hml hown hts hK hP hS (c_X3_unpile l D G S _ xl0 z23 _ h.2) ⟨callB_of 1 hts (gw_good kw_796) rfl rfl rfl (hts _ (List.mem_cons_of_mem _ kw_8)) (hts _ (List.mem_cons_of_mem _ kw_793)) hd_X3_unpile ⟨Nat.le_of_ble_eq_true rfl, Nat.le_of_ble_eq_true rfl⟩, (hts _ (List.mem_cons_of_mem _ kw_795)), (hts _ (List.mem_cons_of_mem _ kp_17))⟩ h.1 (ci := 3) rfl (by decide) rfl hl.1 rfl (lv_room (Nat.le_of_ble_eq_true rfl)) dX3_readClause_87 ⟨Nat.zero_le _, Nat.zero_le _⟩ (fun M24 H locs h hP hS => ?_)
          refine lv_aload_n hx hb dX3_readClause_90 rfl (lv_at hl 0 rfl) ?_
          refine lv_aload_n hx hb dX3_readClause_91 rfl (lv_at hl 0 rfl) ?_
          refine r_geti (C := RX3) (T := TX3) (N := 9) hx hb hts (fun w h => List.mem_cons_of_mem _ (iX3 w h)) hown hK hP rfl (by decide) rfl 8 (by decide) (hts _ (List.mem_cons_of_mem _ kw_315)) (fun _ h9 => h9) dX3_readClause_92 (by decide) h (fun z26 h => ?_)
          refine r_if_ne (tgt := 103) hx hb dX3_readClause_95 (by decide) h (fun h => ?_) (fun h => ?_)
          · refine r_bipush hx hb dX3_readClause_103 (by decide) h (fun z28 h => ?_)
            exact t_X3_readClause_105 C xl0 z28 _ _ _ _ hP hS (lv_sub hl [] rfl) h
          · refine r_bipush hx hb dX3_readClause_98 (by decide) h (fun z30 h => ?_)
            refine lv_goto (tgt := 105) hx hb dX3_readClause_100 (by decide) ?_
            exact t_X3_readClause_105 C xl0 z30 _ _ _ _ hP hS (lv_sub hl [] rfl) h
      · refine r_iconst hx hb dX3_readClause_72 (by decide) h (fun z32 h => ?_)
        exact r_zret hx hb hr hlocks hP hS dX3_readClause_73 h
set_option maxHeartbeats 4000000 in
set_option maxRecDepth 100000 in
theorem c_X3_readClause (l : Launch) (D : va_G) (G : Gt) (S : Sh) (M : Mm) (xl0 : Int) (zl1 : Int32) (post : Int → Mm → Prop) (h : wp_X3_readClause S M xl0 zl1.toInt post) : Met l yX3_readClause (cw_X3_readClause :: gw) RM_X3_readClause (va_Pc [.ref (adr G xl0), .int zl1] (fun U => KN D G U ∧ Wd D G S M U.heap)) (QI D G S post) 0 0 (aG G) := by
  refine Met.ofW (cc := cX3_readClause) (maxL := 3) (ret := (some .boolean)) (by decide) rfl ?_
  intro p e s m args below meth c s₁ B hml hv
  obtain ⟨rfl, hK, hP⟩ := hv
  have hx := B.exec
  have hb := B.bytes
  have hr := B.returns
  have hts := atoms_spec (ws := cw_X3_readClause :: gw) B.pre
  have hown : s.vm.findClass RX3 = some m.cls := findClass_of_methodNamed B.named
  have hlocks := B.notSynchronized
  have hS : va_S (aG G) s.heap s.heap [] := va_S.rf
  have C : Cx p s m ([.ref (adr G xl0), .int zl1] : List Value).toArray meth c D G cX3_readClause 3 (some .boolean) (cw_X3_readClause :: gw) RX3 := ⟨hx, hb, hr, hlocks, hml, hown, hts, hK⟩
  have hl := lv_entry ([.ref (adr G xl0), .int zl1]) (n := 3) (Nat.le_of_ble_eq_true rfl)
  rw [lg_entry_eq]
  generalize (lg_sl ([.ref (adr G xl0), .int zl1]) ++ List.replicate (3 - (lg_sl ([.ref (adr G xl0), .int zl1])).length) Slot.unset).toArray = ls at hl ⊢
  have hl : lv_has ls 3 [(0, .ref (adr G xl0)), (1, .int zl1)] := hl
  unfold wp_X3_readClause at h
  refine lv_aload_n hx hb dX3_readClause_0 rfl (lv_at hl 0 rfl) ?_
  refine r_getr (C := RX3) (T := TX3) (N := 9) hx hb hts (fun w h => List.mem_cons_of_mem _ (iX3 w h)) hown hK hP rfl (by decide) rfl 0 (by decide) (hts _ (List.mem_cons_of_mem _ kw_307)) (fun _ h9 => h9) dX3_readClause_1 (by decide) h (fun x34 h => ?_)
  refine r_lds hx hb hK hown (k := 6) (List.mem_of_getElem? (i := 6) rfl) dX3_readClause_4 (n := (-9)) (by decide) h (fun x36 h => ?_)
  refine q_Vi hx hb hml hown hts hK hP hS (c_X7_takesWord l D G S _ x34 x36 _ h.2) ⟨callB_of 1 hts (gw_good kw_597) rfl rfl rfl (hts _ (List.mem_cons_of_mem _ kw_2)) (hts _ (List.mem_cons_of_mem _ kw_751)) hd_X7_takesWord ⟨Nat.le_of_ble_eq_true rfl, Nat.le_of_ble_eq_true rfl⟩, (hts _ (List.mem_cons_of_mem _ kw_595)), (hts _ (List.mem_cons_of_mem _ kw_596))⟩ h.1 (ci := 7) rfl (by decide) rfl hl.1 rfl (lv_room (Nat.le_of_ble_eq_true rfl)) dX3_readClause_6 ⟨Nat.zero_le _, Nat.zero_le _⟩ (fun z39 M37 H locs h hP hS => ?_)
  refine r_if_ne (tgt := 21) hx hb dX3_readClause_9 (by decide) h (fun h => ?_) (fun h => ?_)
  · refine lv_iload_n hx hb dX3_readClause_21 rfl (lv_at hl 1 rfl) ?_
    refine r_bipush hx hb dX3_readClause_22 (by decide) h (fun z41 h => ?_)
    refine r_icmp_lt (tgt := 36) hx hb dX3_readClause_24 (by decide) h (fun h => ?_) (fun h => ?_)
    · refine lv_aload_n hx hb dX3_readClause_36 rfl (lv_at hl 0 rfl) ?_
      refine r_iconst hx hb dX3_readClause_37 (by decide) h (fun z43 h => ?_)
      refine r_puti (C := RX3) (T := TX3) (N := 9) hx hb hts (fun w h => List.mem_cons_of_mem _ (iX3 w h)) hown hK hP tyX3 tyX3_ok nmX3 hS rfl (by decide) rfl 5 (by decide) (hts _ (List.mem_cons_of_mem _ kw_312)) (fun _ h9 => h9) rfl (tyX3_ok 5 (by decide)) rfl rfl dX3_readClause_38 (by decide) h (fun M44 H locs h hP hS => ?_)
      refine lv_aload_n hx hb dX3_readClause_41 rfl (lv_at hl 0 rfl) ?_
      refine r_iconst hx hb dX3_readClause_42 (by decide) h (fun z46 h => ?_)
      refine r_puti (C := RX3) (T := TX3) (N := 9) hx hb hts (fun w h => List.mem_cons_of_mem _ (iX3 w h)) hown hK hP tyX3 tyX3_ok nmX3 hS rfl (by decide) rfl 6 (by decide) (hts _ (List.mem_cons_of_mem _ kw_313)) (fun _ h9 => h9) rfl (tyX3_ok 6 (by decide)) rfl rfl dX3_readClause_43 (by decide) h (fun M47 H locs h hP hS => ?_)
      refine lv_aload_n hx hb dX3_readClause_46 rfl (lv_at hl 0 rfl) ?_
      refine r_iconst hx hb dX3_readClause_47 (by decide) h (fun z49 h => ?_)
      refine r_puti (C := RX3) (T := TX3) (N := 9) hx hb hts (fun w h => List.mem_cons_of_mem _ (iX3 w h)) hown hK hP tyX3 tyX3_ok nmX3 hS rfl (by decide) rfl 7 (by decide) (hts _ (List.mem_cons_of_mem _ kw_314)) (fun _ h9 => h9) rfl (tyX3_ok 7 (by decide)) rfl rfl dX3_readClause_48 (by decide) h (fun M50 H locs h hP hS => ?_)
      refine lv_aload_n hx hb dX3_readClause_51 rfl (lv_at hl 0 rfl) ?_
      refine r_iconst hx hb dX3_readClause_52 (by decide) h (fun z52 h => ?_)
      refine r_puti (C := RX3) (T := TX3) (N := 9) hx hb hts (fun w h => List.mem_cons_of_mem _ (iX3 w h)) hown hK hP tyX3 tyX3_ok nmX3 hS rfl (by decide) rfl 8 (by decide) (hts _ (List.mem_cons_of_mem _ kw_315)) (fun _ h9 => h9) rfl (tyX3_ok 8 (by decide)) rfl rfl dX3_readClause_53 (by decide) h (fun M53 H locs h hP hS => ?_)
      refine r_iconst hx hb dX3_readClause_56 (by decide) h (fun z55 h => ?_)
      refine lv_istore_n (lv' := [(2, .int z55), (0, .ref (adr G xl0)), (1, .int zl1)]) hx hb dX3_readClause_57 rfl hl (by decide) rfl (fun ls hl => ?_)
      obtain ⟨n9, h⟩ := h
      exact t_X3_readClause_58 C n9 xl0 z55 _ _ _ _ hP hS (lv_sub hl [1, 0] rfl) h
    · refine lv_aload_n hx hb dX3_readClause_27 rfl (lv_at hl 0 rfl) ?_
      refine r_getr (C := RX3) (T := TX3) (N := 9) hx hb hts (fun w h => List.mem_cons_of_mem _ (iX3 w h)) hown hK hP rfl (by decide) rfl 0 (by decide) (hts _ (List.mem_cons_of_mem _ kw_307)) (fun _ h9 => h9) dX3_readClause_28 (by decide) h (fun x57 h => ?_)
      refine r_iconst hx hb dX3_readClause_31 (by decide) h (fun z59 h => ?_)
      refine q_Vi hx hb hml hown hts hK hP hS (c_X7_refuse l D G S _ x57 z59 _ h.2) ⟨callB_of 1 hts (gw_good kw_657) rfl rfl rfl (hts _ (List.mem_cons_of_mem _ kw_2)) (hts _ (List.mem_cons_of_mem _ kw_752)) hd_X7_refuse ⟨Nat.le_of_ble_eq_true rfl, Nat.le_of_ble_eq_true rfl⟩, (hts _ (List.mem_cons_of_mem _ kw_655)), (hts _ (List.mem_cons_of_mem _ kw_656))⟩ h.1 (ci := 7) rfl (by decide) rfl hl.1 rfl (lv_room (Nat.le_of_ble_eq_true rfl)) dX3_readClause_32 ⟨Nat.zero_le _, Nat.zero_le _⟩ (fun z62 M60 H locs h hP hS => ?_)
      exact r_zret hx hb hr hlocks hP hS dX3_readClause_35 h
  · refine lv_aload_n hx hb dX3_readClause_12 rfl (lv_at hl 0 rfl) ?_
    refine r_getr (C := RX3) (T := TX3) (N := 9) hx hb hts (fun w h => List.mem_cons_of_mem _ (iX3 w h)) hown hK hP rfl (by decide) rfl 0 (by decide) (hts _ (List.mem_cons_of_mem _ kw_307)) (fun _ h9 => h9) dX3_readClause_13 (by decide) h (fun x64 h => ?_)
    refine r_iconst hx hb dX3_readClause_16 (by decide) h (fun z66 h => ?_)
    refine q_Vi hx hb hml hown hts hK hP hS (c_X7_refuse l D G S _ x64 z66 _ h.2) ⟨callB_of 1 hts (gw_good kw_657) rfl rfl rfl (hts _ (List.mem_cons_of_mem _ kw_2)) (hts _ (List.mem_cons_of_mem _ kw_752)) hd_X7_refuse ⟨Nat.le_of_ble_eq_true rfl, Nat.le_of_ble_eq_true rfl⟩, (hts _ (List.mem_cons_of_mem _ kw_655)), (hts _ (List.mem_cons_of_mem _ kw_656))⟩ h.1 (ci := 7) rfl (by decide) rfl hl.1 rfl (lv_room (Nat.le_of_ble_eq_true rfl)) dX3_readClause_17 ⟨Nat.zero_le _, Nat.zero_le _⟩ (fun z69 M67 H locs h hP hS => ?_)
    exact r_zret hx hb hr hlocks hP hS dX3_readClause_20 h
/-! TurningMilk$RuleReader.read()Z -/
abbrev RM_X3_read : Room := { frames := 11, cells := 0, slots := 0, locals := 389 }
def cw_X3_read : Cond := Cond.code yX3_read cX3_read 2 (Option.some FieldType.boolean)
theorem hd_X3_read : yX3_read.cls ≠ "java/lang/invoke/MethodHandle" ∧ yX3_read.cls ≠ "java/lang/invoke/VarHandle" ∧ (parseMethodDescriptor yX3_read.desc).map (fun d => d.parameters.length) = some 0 := by decide +kernel
theorem dX3_read_0 : decode cX3_read 0 = .ok (.aload_n 0, 1) := by decide +kernel
