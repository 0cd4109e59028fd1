/-! TurningMilk$State.become(LTurningMilk$State;)V -/
abbrev RM_X5_become : Room := { frames := 1, cells := 0, slots := 0, locals := 60 }
def cw_X5_become : Cond := Cond.code yX5_become cX5_become 2 (Option.none : Option FieldType)
theorem hd_X5_become : yX5_become.cls ≠ "java/lang/invoke/MethodHandle" ∧ yX5_become.cls ≠ "java/lang/invoke/VarHandle" ∧ (parseMethodDescriptor yX5_become.desc).map (fun d => d.parameters.length) = some 1 := by decide +kernel
theorem dX5_become_0 : decode cX5_become 0 = .ok (.aload_n 0, 1) := by decide +kernel
theorem dX5_become_1 : decode cX5_become 1 = .ok (.aload_n 1, 1) := by decide +kernel
theorem dX5_become_2 : decode cX5_become 2 = .ok (.getfield 39, 3) := by decide +kernel
theorem dX5_become_5 : decode cX5_become 5 = .ok (.putfield 39, 3) := by decide +kernel
theorem dX5_become_8 : decode cX5_become 8 = .ok (.aload_n 0, 1) := by decide +kernel
theorem dX5_become_9 : decode cX5_become 9 = .ok (.aload_n 1, 1) := by decide +kernel
theorem dX5_become_10 : decode cX5_become 10 = .ok (.getfield 43, 3) := by decide +kernel
theorem dX5_become_13 : decode cX5_become 13 = .ok (.putfield 43, 3) := by decide +kernel
theorem dX5_become_16 : decode cX5_become 16 = .ok (.aload_n 1, 1) := by decide +kernel
theorem dX5_become_17 : decode cX5_become 17 = .ok (.getfield 9, 3) := by decide +kernel
theorem dX5_become_20 : decode cX5_become 20 = .ok (.iconst 0, 1) := by decide +kernel
theorem dX5_become_21 : decode cX5_become 21 = .ok (.aload_n 0, 1) := by decide +kernel
theorem dX5_become_22 : decode cX5_become 22 = .ok (.getfield 9, 3) := by decide +kernel
theorem dX5_become_25 : decode cX5_become 25 = .ok (.iconst 0, 1) := by decide +kernel
theorem dX5_become_26 : decode cX5_become 26 = .ok (.iconst 5, 1) := by decide +kernel
theorem dX5_become_27 : decode cX5_become 27 = .ok (.invokestatic 46, 3) := by decide +kernel
theorem dX5_become_30 : decode cX5_become 30 = .ok (.aload_n 1, 1) := by decide +kernel
theorem dX5_become_31 : decode cX5_become 31 = .ok (.getfield 15, 3) := by decide +kernel
theorem dX5_become_34 : decode cX5_become 34 = .ok (.iconst 0, 1) := by decide +kernel
theorem dX5_become_35 : decode cX5_become 35 = .ok (.aload_n 0, 1) := by decide +kernel
theorem dX5_become_36 : decode cX5_become 36 = .ok (.getfield 15, 3) := by decide +kernel
theorem dX5_become_39 : decode cX5_become 39 = .ok (.iconst 0, 1) := by decide +kernel
theorem dX5_become_40 : decode cX5_become 40 = .ok (.iconst 5, 1) := by decide +kernel
theorem dX5_become_41 : decode cX5_become 41 = .ok (.invokestatic 46, 3) := by decide +kernel
theorem dX5_become_44 : decode cX5_become 44 = .ok (.aload_n 1, 1) := by decide +kernel
theorem dX5_become_45 : decode cX5_become 45 = .ok (.getfield 18, 3) := by decide +kernel
theorem dX5_become_48 : decode cX5_become 48 = .ok (.iconst 0, 1) := by decide +kernel
theorem dX5_become_49 : decode cX5_become 49 = .ok (.aload_n 0, 1) := by decide +kernel
theorem dX5_become_50 : decode cX5_become 50 = .ok (.getfield 18, 3) := by decide +kernel
theorem dX5_become_53 : decode cX5_become 53 = .ok (.iconst 0, 1) := by decide +kernel
theorem dX5_become_54 : decode cX5_become 54 = .ok (.iconst 5, 1) := by decide +kernel
theorem dX5_become_55 : decode cX5_become 55 = .ok (.invokestatic 46, 3) := by decide +kernel
theorem dX5_become_58 : decode cX5_become 58 = .ok (.aload_n 1, 1) := by decide +kernel
theorem dX5_become_59 : decode cX5_become 59 = .ok (.getfield 21, 3) := by decide +kernel
theorem dX5_become_62 : decode cX5_become 62 = .ok (.iconst 0, 1) := by decide +kernel
theorem dX5_become_63 : decode cX5_become 63 = .ok (.aload_n 0, 1) := by decide +kernel
theorem dX5_become_64 : decode cX5_become 64 = .ok (.getfield 21, 3) := by decide +kernel
theorem dX5_become_67 : decode cX5_become 67 = .ok (.iconst 0, 1) := by decide +kernel
theorem dX5_become_68 : decode cX5_become 68 = .ok (.iconst 4, 1) := by decide +kernel
theorem dX5_become_69 : decode cX5_become 69 = .ok (.invokestatic 46, 3) := by decide +kernel
theorem dX5_become_72 : decode cX5_become 72 = .ok (.aload_n 1, 1) := by decide +kernel
theorem dX5_become_73 : decode cX5_become 73 = .ok (.getfield 24, 3) := by decide +kernel
theorem dX5_become_76 : decode cX5_become 76 = .ok (.iconst 0, 1) := by decide +kernel
theorem dX5_become_77 : decode cX5_become 77 = .ok (.aload_n 0, 1) := by decide +kernel
theorem dX5_become_78 : decode cX5_become 78 = .ok (.getfield 24, 3) := by decide +kernel
theorem dX5_become_81 : decode cX5_become 81 = .ok (.iconst 0, 1) := by decide +kernel
theorem dX5_become_82 : decode cX5_become 82 = .ok (.iconst 4, 1) := by decide +kernel
theorem dX5_become_83 : decode cX5_become 83 = .ok (.invokestatic 46, 3) := by decide +kernel
theorem dX5_become_86 : decode cX5_become 86 = .ok (.aload_n 1, 1) := by decide +kernel
theorem dX5_become_87 : decode cX5_become 87 = .ok (.getfield 27, 3) := by decide +kernel
theorem dX5_become_90 : decode cX5_become 90 = .ok (.iconst 0, 1) := by decide +kernel
theorem dX5_become_91 : decode cX5_become 91 = .ok (.aload_n 0, 1) := by decide +kernel
theorem dX5_become_92 : decode cX5_become 92 = .ok (.getfield 27, 3) := by decide +kernel
theorem dX5_become_95 : decode cX5_become 95 = .ok (.iconst 0, 1) := by decide +kernel
theorem dX5_become_96 : decode cX5_become 96 = .ok (.iconst 4, 1) := by decide +kernel
theorem dX5_become_97 : decode cX5_become 97 = .ok (.invokestatic 46, 3) := by decide +kernel
theorem dX5_become_100 : decode cX5_become 100 = .ok (.aload_n 1, 1) := by decide +kernel
theorem dX5_become_101 : decode cX5_become 101 = .ok (.getfield 30, 3) := by decide +kernel
theorem dX5_become_104 : decode cX5_become 104 = .ok (.iconst 0, 1) := by decide +kernel
theorem dX5_become_105 : decode cX5_become 105 = .ok (.aload_n 0, 1) := by decide +kernel
theorem dX5_become_106 : decode cX5_become 106 = .ok (.getfield 30, 3) := by decide +kernel
theorem dX5_become_109 : decode cX5_become 109 = .ok (.iconst 0, 1) := by decide +kernel
theorem dX5_become_110 : decode cX5_become 110 = .ok (.bipush 6, 2) := by decide +kernel
theorem dX5_become_112 : decode cX5_become 112 = .ok (.invokestatic 46, 3) := by decide +kernel
theorem dX5_become_115 : decode cX5_become 115 = .ok (.return_, 1) := by decide +kernel
def wp_X5_become (S : Sh) (M : Mm) (u0 : Int) (u1 : Int) (post : Mm → Prop) : Prop := wGet S M u1 5 0 fun v1 => wPut S M u0 5 0 v1 fun M3 => wGet S M3 u1 5 1 fun v4 => wPut S M3 u0 5 1 v4 fun M6 => wGetR S M6 u1 5 2 fun v7 => wC 0 fun v9 => wGetR S M6 u0 5 2 fun v11 => wC 0 fun v13 => wC 5 fun v15 => wCpy S M6 v7 v9 v11 v13 v15 fun M17 => wGetR S M17 u1 5 3 fun v18 => wC 0 fun v20 => wGetR S M17 u0 5 3 fun v22 => wC 0 fun v24 => wC 5 fun v26 => wCpy S M17 v18 v20 v22 v24 v26 fun M28 => wGetR S M28 u1 5 4 fun v29 => wC 0 fun v31 => wGetR S M28 u0 5 4 fun v33 => wC 0 fun v35 => wC 5 fun v37 => wCpy S M28 v29 v31 v33 v35 v37 fun M39 => wGetR S M39 u1 5 5 fun v40 => wC 0 fun v42 => wGetR S M39 u0 5 5 fun v44 => wC 0 fun v46 => wC 4 fun v48 => wCpy S M39 v40 v42 v44 v46 v48 fun M50 => wGetR S M50 u1 5 6 fun v51 => wC 0 fun v53 => wGetR S M50 u0 5 6 fun v55 => wC 0 fun v57 => wC 4 fun v59 => wCpy S M50 v51 v53 v55 v57 v59 fun M61 => wGetR S M61 u1 5 7 fun v62 => wC 0 fun v64 => wGetR S M61 u0 5 7 fun v66 => wC 0 fun v68 => wC 4 fun v70 => wCpy S M61 v62 v64 v66 v68 v70 fun M72 => wGetR S M72 u1 5 8 fun v73 => wC 0 fun v75 => wGetR S M72 u0 5 8 fun v77 => wC 0 fun v79 => wC 6 fun v81 => wCpy S M72 v73 v75 v77 v79 v81 fun M83 => post M83
set_option maxHeartbeats 4000000 in
set_option maxRecDepth 100000 in
theorem c_X5_become (l : Launch) (D : va_G) (G : Gt) (S : Sh) (M : Mm) (xl0 : Int) (xl1 : Int) (post : Mm → Prop) (h : wp_X5_become S M xl0 xl1 post) : Met l yX5_become (cw_X5_become :: gw) RM_X5_become (va_Pc [.ref (adr G xl0), .ref (adr G xl1)] (fun U => KN D G U ∧ Wd D G S M U.heap)) (QV D G S post) 0 0 (aG G) := by
  refine Met.ofW (cc := cX5_become) (maxL := 2) (ret := none) (by decide) rfl ?_
  intro p e s m args below meth c s₁ B hml hv
  obtain ⟨rfl, hK, hP⟩ := hv
  have hx := B.exec
  have hb := B.bytes
  have hr := B.returns
  have hts := atoms_spec (ws := cw_X5_become :: gw) B.pre
  have hown : s.vm.findClass RX5 = some m.cls := findClass_of_methodNamed B.named
  have hlocks := B.notSynchronized
  have hS : va_S (aG G) s.heap s.heap [] := va_S.rf
  have C : Cx p s m ([.ref (adr G xl0), .ref (adr G xl1)] : List Value).toArray meth c D G cX5_become 2 none (cw_X5_become :: gw) RX5 := ⟨hx, hb, hr, hlocks, hml, hown, hts, hK⟩
  have hl := lv_entry ([.ref (adr G xl0), .ref (adr G xl1)]) (n := 2) (Nat.le_of_ble_eq_true rfl)
  rw [lg_entry_eq]
  generalize (lg_sl ([.ref (adr G xl0), .ref (adr G xl1)]) ++ List.replicate (2 - (lg_sl ([.ref (adr G xl0), .ref (adr G xl1)])).length) Slot.unset).toArray = ls at hl ⊢
  have hl : lv_has ls 2 [(0, .ref (adr G xl0)), (1, .ref (adr G xl1))] := hl
  unfold wp_X5_become at h
  refine lv_aload_n hx hb dX5_become_0 rfl (lv_at hl 0 rfl) ?_
  refine lv_aload_n hx hb dX5_become_1 rfl (lv_at hl 1 rfl) ?_
  refine r_geti (C := RX5) (T := TX5) (N := 9) hx hb hts (fun w h => List.mem_cons_of_mem _ (iX5 w h)) hown hK hP rfl (by decide) rfl 0 (by decide) (hts _ (List.mem_cons_of_mem _ kw_179)) (fun _ h9 => h9) dX5_become_2 (by decide) h (fun z2 h => ?_)
  refine r_puti (C := RX5) (T := TX5) (N := 9) hx hb hts (fun w h => List.mem_cons_of_mem _ (iX5 w h)) hown hK hP tyX5 tyX5_ok nmX5 hS rfl (by decide) rfl 0 (by decide) (hts _ (List.mem_cons_of_mem _ kw_179)) (fun _ h9 => h9) rfl (tyX5_ok 0 (by decide)) rfl rfl dX5_become_5 (by decide) h (fun M3 H locs h hP hS => ?_)
  refine lv_aload_n hx hb dX5_become_8 rfl (lv_at hl 0 rfl) ?_
  refine lv_aload_n hx hb dX5_become_9 rfl (lv_at hl 1 rfl) ?_
  refine r_geti (C := RX5) (T := TX5) (N := 9) hx hb hts (fun w h => List.mem_cons_of_mem _ (iX5 w h)) hown hK hP rfl (by decide) rfl 1 (by decide) (hts _ (List.mem_cons_of_mem _ kw_184)) (fun _ h9 => h9) dX5_become_10 (by decide) h (fun z5 h => ?_)
  refine r_puti (C := RX5) (T := TX5) (N := 9) hx hb hts (fun w h => List.mem_cons_of_mem _ (iX5 w h)) hown hK hP tyX5 tyX5_ok nmX5 hS rfl (by decide) rfl 1 (by decide) (hts _ (List.mem_cons_of_mem _ kw_184)) (fun _ h9 => h9) rfl (tyX5_ok 1 (by decide)) rfl rfl dX5_become_13 (by decide) h (fun M6 H locs h hP hS => ?_)
  refine lv_aload_n hx hb dX5_become_16 rfl (lv_at hl 1 rfl) ?_
  refine r_getr (C := RX5) (T := TX5) (N := 9) hx hb hts (fun w h => List.mem_cons_of_mem _ (iX5 w h)) hown hK hP rfl (by decide) rfl 2 (by decide) (hts _ (List.mem_cons_of_mem _ kw_186)) (fun _ h9 => h9) dX5_become_17 (by decide) h (fun x8 h => ?_)
  refine r_iconst hx hb dX5_become_20 (by decide) h (fun z10 h => ?_)
  refine lv_aload_n hx hb dX5_become_21 rfl (lv_at hl 0 rfl) ?_
  refine r_getr (C := RX5) (T := TX5) (N := 9) hx hb hts (fun w h => List.mem_cons_of_mem _ (iX5 w h)) hown hK hP rfl (by decide) rfl 2 (by decide) (hts _ (List.mem_cons_of_mem _ kw_186)) (fun _ h9 => h9) dX5_become_22 (by decide) h (fun x12 h => ?_)
  refine r_iconst hx hb dX5_become_25 (by decide) h (fun z14 h => ?_)
  refine r_iconst hx hb dX5_become_26 (by decide) h (fun z16 h => ?_)
  refine r_copy hx hb (hml.trans hl.1.symm) hK hP hS hown (hts _ (List.mem_cons_of_mem _ kw_736)) (hts _ (List.mem_cons_of_mem _ kw_731)) (hts _ (List.mem_cons_of_mem _ kw_730)) (hts _ (List.mem_cons_of_mem _ kw_20)) (Nat.le_of_ble_eq_true rfl) (Nat.le_of_ble_eq_true rfl) dX5_become_27 h (fun M17 H locs h hP hS => ?_)
  refine lv_aload_n hx hb dX5_become_30 rfl (lv_at hl 1 rfl) ?_
  refine r_getr (C := RX5) (T := TX5) (N := 9) hx hb hts (fun w h => List.mem_cons_of_mem _ (iX5 w h)) hown hK hP rfl (by decide) rfl 3 (by decide) (hts _ (List.mem_cons_of_mem _ kw_189)) (fun _ h9 => h9) dX5_become_31 (by decide) h (fun x19 h => ?_)
  refine r_iconst hx hb dX5_become_34 (by decide) h (fun z21 h => ?_)
  refine lv_aload_n hx hb dX5_become_35 rfl (lv_at hl 0 rfl) ?_
  refine r_getr (C := RX5) (T := TX5) (N := 9) hx hb hts (fun w h => List.mem_cons_of_mem _ (iX5 w h)) hown hK hP rfl (by decide) rfl 3 (by decide) (hts _ (List.mem_cons_of_mem _ kw_189)) (fun _ h9 => h9) dX5_become_36 (by decide) h (fun x23 h => ?_)
  refine r_iconst hx hb dX5_become_39 (by decide) h (fun z25 h => ?_)
  refine r_iconst hx hb dX5_become_40 (by decide) h (fun z27 h => ?_)
  refine r_copy hx hb (hml.trans hl.1.symm) hK hP hS hown (hts _ (List.mem_cons_of_mem _ kw_736)) (hts _ (List.mem_cons_of_mem _ kw_731)) (hts _ (List.mem_cons_of_mem _ kw_730)) (hts _ (List.mem_cons_of_mem _ kw_20)) (Nat.le_of_ble_eq_true rfl) (Nat.le_of_ble_eq_true rfl) dX5_become_41 h (fun M28 H locs h hP hS => ?_)
  refine lv_aload_n hx hb dX5_become_44 rfl (lv_at hl 1 rfl) ?_
  refine r_getr (C := RX5) (T := TX5) (N := 9) hx hb hts (fun w h => List.mem_cons_of_mem _ (iX5 w h)) hown hK hP rfl (by decide) rfl 4 (by decide) (hts _ (List.mem_cons_of_mem _ kw_193)) (fun _ h9 => h9) dX5_become_45 (by decide) h (fun x30 h => ?_)
  refine r_iconst hx hb dX5_become_48 (by decide) h (fun z32 h => ?_)
  refine lv_aload_n hx hb dX5_become_49 rfl (lv_at hl 0 rfl) ?_
  refine r_getr (C := RX5) (T := TX5) (N := 9) hx hb hts (fun w h => List.mem_cons_of_mem _ (iX5 w h)) hown hK hP rfl (by decide) rfl 4 (by decide) (hts _ (List.mem_cons_of_mem _ kw_193)) (fun _ h9 => h9) dX5_become_50 (by decide) h (fun x34 h => ?_)
  refine r_iconst hx hb dX5_become_53 (by decide) h (fun z36 h => ?_)
  refine r_iconst hx hb dX5_become_54 (by decide) h (fun z38 h => ?_)
  refine r_copy hx hb (hml.trans hl.1.symm) hK hP hS hown (hts _ (List.mem_cons_of_mem _ kw_736)) (hts _ (List.mem_cons_of_mem _ kw_731)) (hts _ (List.mem_cons_of_mem _ kw_730)) (hts _ (List.mem_cons_of_mem _ kw_20)) (Nat.le_of_ble_eq_true rfl) (Nat.le_of_ble_eq_true rfl) dX5_become_55 h (fun M39 H locs h hP hS => ?_)
  refine lv_aload_n hx hb dX5_become_58 rfl (lv_at hl 1 rfl) ?_
  refine r_getr (C := RX5) (T := TX5) (N := 9) hx hb hts (fun w h => List.mem_cons_of_mem _ (iX5 w h)) hown hK hP rfl (by decide) rfl 5 (by decide) (hts _ (List.mem_cons_of_mem _ kw_197)) (fun _ h9 => h9) dX5_become_59 (by decide) h (fun x41 h => ?_)
  refine r_iconst hx hb dX5_become_62 (by decide) h (fun z43 h => ?_)
  refine lv_aload_n hx hb dX5_become_63 rfl (lv_at hl 0 rfl) ?_
  refine r_getr (C := RX5) (T := TX5) (N := 9) hx hb hts (fun w h => List.mem_cons_of_mem _ (iX5 w h)) hown hK hP rfl (by decide) rfl 5 (by decide) (hts _ (List.mem_cons_of_mem _ kw_197)) (fun _ h9 => h9) dX5_become_64 (by decide) h (fun x45 h => ?_)
  refine r_iconst hx hb dX5_become_67 (by decide) h (fun z47 h => ?_)
  refine r_iconst hx hb dX5_become_68 (by decide) h (fun z49 h => ?_)
  refine r_copy hx hb (hml.trans hl.1.symm) hK hP hS hown (hts _ (List.mem_cons_of_mem _ kw_736)) (hts _ (List.mem_cons_of_mem _ kw_731)) (hts _ (List.mem_cons_of_mem _ kw_730)) (hts _ (List.mem_cons_of_mem _ kw_20)) (Nat.le_of_ble_eq_true rfl) (Nat.le_of_ble_eq_true rfl) dX5_become_69 h (fun M50 H locs h hP hS => ?_)
  refine lv_aload_n hx hb dX5_become_72 rfl (lv_at hl 1 rfl) ?_
  refine r_getr (C := RX5) (T := TX5) (N := 9) hx hb hts (fun w h => List.mem_cons_of_mem _ (iX5 w h)) hown hK hP rfl (by decide) rfl 6 (by decide) (hts _ (List.mem_cons_of_mem _ kw_200)) (fun _ h9 => h9) dX5_become_73 (by decide) h (fun x52 h => ?_)
  refine r_iconst hx hb dX5_become_76 (by decide) h (fun z54 h => ?_)
  refine lv_aload_n hx hb dX5_become_77 rfl (lv_at hl 0 rfl) ?_
  refine r_getr (C := RX5) (T := TX5) (N := 9) hx hb hts (fun w h => List.mem_cons_of_mem _ (iX5 w h)) hown hK hP rfl (by decide) rfl 6 (by decide) (hts _ (List.mem_cons_of_mem _ kw_200)) (fun _ h9 => h9) dX5_become_78 (by decide) h (fun x56 h => ?_)
  refine r_iconst hx hb dX5_become_81 (by decide) h (fun z58 h => ?_)
  refine r_iconst hx hb dX5_become_82 (by decide) h (fun z60 h => ?_)
  refine r_copy hx hb (hml.trans hl.1.symm) hK hP hS hown (hts _ (List.mem_cons_of_mem _ kw_736)) (hts _ (List.mem_cons_of_mem _ kw_731)) (hts _ (List.mem_cons_of_mem _ kw_730)) (hts _ (List.mem_cons_of_mem _ kw_20)) (Nat.le_of_ble_eq_true rfl) (Nat.le_of_ble_eq_true rfl) dX5_become_83 h (fun M61 H locs h hP hS => ?_)
  refine lv_aload_n hx hb dX5_become_86 rfl (lv_at hl 1 rfl) ?_
  refine r_getr (C := RX5) (T := TX5) (N := 9) hx hb hts (fun w h => List.mem_cons_of_mem _ (iX5 w h)) hown hK hP rfl (by decide) rfl 7 (by decide) (hts _ (List.mem_cons_of_mem _ kw_203)) (fun _ h9 => h9) dX5_become_87 (by decide) h (fun x63 h => ?_)
  refine r_iconst hx hb dX5_become_90 (by decide) h (fun z65 h => ?_)
  refine lv_aload_n hx hb dX5_become_91 rfl (lv_at hl 0 rfl) ?_
  refine r_getr (C := RX5) (T := TX5) (N := 9) hx hb hts (fun w h => List.mem_cons_of_mem _ (iX5 w h)) hown hK hP rfl (by decide) rfl 7 (by decide) (hts _ (List.mem_cons_of_mem _ kw_203)) (fun _ h9 => h9) dX5_become_92 (by decide) h (fun x67 h => ?_)
  refine r_iconst hx hb dX5_become_95 (by decide) h (fun z69 h => ?_)
  refine r_iconst hx hb dX5_become_96 (by decide) h (fun z71 h => ?_)
  refine r_copy hx hb (hml.trans hl.1.symm) hK hP hS hown (hts _ (List.mem_cons_of_mem _ kw_736)) (hts _ (List.mem_cons_of_mem _ kw_731)) (hts _ (List.mem_cons_of_mem _ kw_730)) (hts _ (List.mem_cons_of_mem _ kw_20)) (Nat.le_of_ble_eq_true rfl) (Nat.le_of_ble_eq_true rfl) dX5_become_97 h (fun M72 H locs h hP hS => ?_)
  refine lv_aload_n hx hb dX5_become_100 rfl (lv_at hl 1 rfl) ?_
  refine r_getr (C := RX5) (T := TX5) (N := 9) hx hb hts (fun w h => List.mem_cons_of_mem _ (iX5 w h)) hown hK hP rfl (by decide) rfl 8 (by decide) (hts _ (List.mem_cons_of_mem _ kw_209)) (fun _ h9 => h9) dX5_become_101 (by decide) h (fun x74 h => ?_)
  refine r_iconst hx hb dX5_become_104 (by decide) h (fun z76 h => ?_)
  refine lv_aload_n hx hb dX5_become_105 rfl (lv_at hl 0 rfl) ?_
  refine r_getr (C := RX5) (T := TX5) (N := 9) hx hb hts (fun w h => List.mem_cons_of_mem _ (iX5 w h)) hown hK hP rfl (by decide) rfl 8 (by decide) (hts _ (List.mem_cons_of_mem _ kw_209)) (fun _ h9 => h9) dX5_become_106 (by decide) h (fun x78 h => ?_)
  refine r_iconst hx hb dX5_become_109 (by decide) h (fun z80 h => ?_)
  refine r_bipush hx hb dX5_become_110 (by decide) h (fun z82 h => ?_)
  refine r_copy hx hb (hml.trans hl.1.symm) hK hP hS hown (hts _ (List.mem_cons_of_mem _ kw_736)) (hts _ (List.mem_cons_of_mem _ kw_731)) (hts _ (List.mem_cons_of_mem _ kw_730)) (hts _ (List.mem_cons_of_mem _ kw_20)) (Nat.le_of_ble_eq_true rfl) (Nat.le_of_ble_eq_true rfl) dX5_become_112 h (fun M83 H locs h hP hS => ?_)
  exact r_vret hx hb hr hlocks hP hS dX5_become_115 h
/-! TurningMilk.dairy()I -/
abbrev RM_X11_dairy : Room := { frames := 10, cells := 0, slots := 0, locals := 369 }
def cw_X11_dairy : Cond := Cond.code yX11_dairy cX11_dairy 2 (Option.some FieldType.int)
theorem hd_X11_dairy : yX11_dairy.cls ≠ "java/lang/invoke/MethodHandle" ∧ yX11_dairy.cls ≠ "java/lang/invoke/VarHandle" ∧ (parseMethodDescriptor yX11_dairy.desc).map (fun d => d.parameters.length) = some 0 := by decide +kernel
theorem dX11_dairy_0 : decode cX11_dairy 0 = .ok (.aload_n 0, 1) := by decide +kernel
theorem dX11_dairy_1 : decode cX11_dairy 1 = .ok (.getfield 44, 3) := by decide +kernel
theorem dX11_dairy_4 : decode cX11_dairy 4 = .ok (.invokevirtual 120, 3) := by decide +kernel
theorem dX11_dairy_7 : decode cX11_dairy 7 = .ok (.istore_n 1, 1) := by decide +kernel
theorem dX11_dairy_8 : decode cX11_dairy 8 = .ok (.aload_n 0, 1) := by decide +kernel
theorem dX11_dairy_9 : decode cX11_dairy 9 = .ok (.getfield 10, 3) := by decide +kernel
theorem dX11_dairy_12 : decode cX11_dairy 12 = .ok (.iconst 0, 1) := by decide +kernel
theorem dX11_dairy_13 : decode cX11_dairy 13 = .ok (.putfield 116, 3) := by decide +kernel
theorem dX11_dairy_16 : decode cX11_dairy 16 = .ok (.iload_n 1, 1) := by decide +kernel
theorem dX11_dairy_17 : decode cX11_dairy 17 = .ok (.ifCond .ne 14, 3) := by decide +kernel
theorem dX11_dairy_20 : decode cX11_dairy 20 = .ok (.bipush (-2), 2) := by decide +kernel
theorem dX11_dairy_22 : decode cX11_dairy 22 = .ok (.aload_n 0, 1) := by decide +kernel
theorem dX11_dairy_23 : decode cX11_dairy 23 = .ok (.getfield 10, 3) := by decide +kernel
theorem dX11_dairy_26 : decode cX11_dairy 26 = .ok (.getfield 124, 3) := by decide +kernel
theorem dX11_dairy_29 : decode cX11_dairy 29 = .ok (.isub, 1) := by decide +kernel
theorem dX11_dairy_30 : decode cX11_dairy 30 = .ok (.ireturn, 1) := by decide +kernel
theorem dX11_dairy_31 : decode cX11_dairy 31 = .ok (.aload_n 0, 1) := by decide +kernel
theorem dX11_dairy_32 : decode cX11_dairy 32 = .ok (.getfield 19, 3) := by decide +kernel
theorem dX11_dairy_35 : decode cX11_dairy 35 = .ok (.getfield 57, 3) := by decide +kernel
theorem dX11_dairy_38 : decode cX11_dairy 38 = .ok (.aload_n 0, 1) := by decide +kernel
theorem dX11_dairy_39 : decode cX11_dairy 39 = .ok (.getfield 44, 3) := by decide +kernel
theorem dX11_dairy_42 : decode cX11_dairy 42 = .ok (.getfield 127, 3) := by decide +kernel
theorem dX11_dairy_45 : decode cX11_dairy 45 = .ok (.invokevirtual 128, 3) := by decide +kernel
theorem dX11_dairy_48 : decode cX11_dairy 48 = .ok (.aload_n 0, 1) := by decide +kernel
theorem dX11_dairy_49 : decode cX11_dairy 49 = .ok (.getfield 19, 3) := by decide +kernel
theorem dX11_dairy_52 : decode cX11_dairy 52 = .ok (.getfield 133, 3) := by decide +kernel
theorem dX11_dairy_55 : decode cX11_dairy 55 = .ok (.aload_n 0, 1) := by decide +kernel
theorem dX11_dairy_56 : decode cX11_dairy 56 = .ok (.getfield 44, 3) := by decide +kernel
theorem dX11_dairy_59 : decode cX11_dairy 59 = .ok (.getfield 136, 3) := by decide +kernel
theorem dX11_dairy_62 : decode cX11_dairy 62 = .ok (.invokevirtual 137, 3) := by decide +kernel
theorem dX11_dairy_65 : decode cX11_dairy 65 = .ok (.aload_n 0, 1) := by decide +kernel
theorem dX11_dairy_66 : decode cX11_dairy 66 = .ok (.getfield 19, 3) := by decide +kernel
theorem dX11_dairy_69 : decode cX11_dairy 69 = .ok (.iconst 0, 1) := by decide +kernel
theorem dX11_dairy_70 : decode cX11_dairy 70 = .ok (.putfield 140, 3) := by decide +kernel
theorem dX11_dairy_73 : decode cX11_dairy 73 = .ok (.aload_n 0, 1) := by decide +kernel
theorem dX11_dairy_74 : decode cX11_dairy 74 = .ok (.iconst 0, 1) := by decide +kernel
theorem dX11_dairy_75 : decode cX11_dairy 75 = .ok (.putfield 143, 3) := by decide +kernel
theorem dX11_dairy_78 : decode cX11_dairy 78 = .ok (.aload_n 0, 1) := by decide +kernel
theorem dX11_dairy_79 : decode cX11_dairy 79 = .ok (.getfield 19, 3) := by decide +kernel
theorem dX11_dairy_82 : decode cX11_dairy 82 = .ok (.getfield 57, 3) := by decide +kernel
theorem dX11_dairy_85 : decode cX11_dairy 85 = .ok (.getfield 146, 3) := by decide +kernel
theorem dX11_dairy_88 : decode cX11_dairy 88 = .ok (.ireturn, 1) := by decide +kernel
def wp_X11_dairy (S : Sh) (M : Mm) (u0 : Int) (post : Int → Mm → Prop) : Prop := wGetR S M u0 11 8 fun v1 => isK S v1 0 ∧ (wp_X0_read S M v1 <| fun v4 M3 => wGetR S M3 u0 11 0 fun v6 => wC 0 fun v8 => wPut S M3 v6 7 1 v8 fun M10 => wIf (¬ v4 = 0) (wGetR S M10 u0 11 1 fun v11 => wGetR S M10 v11 4 0 fun v13 => wGetR S M10 u0 11 8 fun v15 => wGetR S M10 v15 0 1 fun v17 => isK S v13 8 ∧ (wp_X8_become S M10 v13 v17 <| fun M19 => wGetR S M19 u0 11 1 fun v20 => wGetR S M19 v20 4 1 fun v22 => wGetR S M19 u0 11 8 fun v24 => wGetR S M19 v24 0 2 fun v26 => isK S v22 5 ∧ (wp_X5_become S M19 v22 v26 <| fun M28 => wGetR S M28 u0 11 1 fun v29 => wC 0 fun v31 => wPut S M28 v29 4 4 v31 fun M33 => wC 0 fun v34 => wPut S M33 u0 11 5 v34 fun M36 => wGetR S M36 u0 11 1 fun v37 => wGetR S M36 v37 4 0 fun v39 => wGet S M36 v39 8 5 fun v41 => post v41 M36))) (wC (-2) fun v43 => wGetR S M10 u0 11 0 fun v45 => wGet S M10 v45 7 4 fun v47 => wS v43 v47 fun v49 => post v49 M10))
set_option maxHeartbeats 4000000 in
set_option maxRecDepth 100000 in
theorem c_X11_dairy (l : Launch) (D : va_G) (G : Gt) (S : Sh) (M : Mm) (xl0 : Int) (post : Int → Mm → Prop) (h : wp_X11_dairy S M xl0 post) : Met l yX11_dairy (cw_X11_dairy :: gw) RM_X11_dairy (va_Pc [.ref (adr G xl0)] (fun U => KN D G U ∧ Wd D G S M U.heap)) (QI D G S post) 0 0 (aG G) := by
  refine Met.ofW (cc := cX11_dairy) (maxL := 2) (ret := (some .int)) (by decide) rfl ?_
  intro p e s m args below meth c s₁ B hml hv
  obtain ⟨rfl, hK, hP⟩ := hv
  have hx := B.exec
  have hb := B.bytes
  have hr := B.returns
  have hts := atoms_spec (ws := cw_X11_dairy :: gw) B.pre
  have hown : s.vm.findClass RX11 = some m.cls := findClass_of_methodNamed B.named
  have hlocks := B.notSynchronized
  have hS : va_S (aG G) s.heap s.heap [] := va_S.rf
  have C : Cx p s m ([.ref (adr G xl0)] : List Value).toArray meth c D G cX11_dairy 2 (some .int) (cw_X11_dairy :: gw) RX11 := ⟨hx, hb, hr, hlocks, hml, hown, hts, hK⟩
  have hl := lv_entry ([.ref (adr G xl0)]) (n := 2) (Nat.le_of_ble_eq_true rfl)
  rw [lg_entry_eq]
  generalize (lg_sl ([.ref (adr G xl0)]) ++ List.replicate (2 - (lg_sl ([.ref (adr G xl0)])).length) Slot.unset).toArray = ls at hl ⊢
  have hl : lv_has ls 2 [(0, .ref (adr G xl0))] := hl
  unfold wp_X11_dairy at h
  refine lv_aload_n hx hb dX11_dairy_0 rfl (lv_at hl 0 rfl) ?_
  refine r_getr (C := RX11) (T := TX11) (N := 16) hx hb hts (fun w h => List.mem_cons_of_mem _ (iX11 w h)) hown hK hP rfl (by decide) rfl 8 (by decide) (hts _ (List.mem_cons_of_mem _ kw_499)) (fun _ h9 => h9) dX11_dairy_1 (by decide) h (fun x2 h => ?_)
  refine q_Vi hx hb hml hown hts hK hP hS (c_X0_read l D G S _ x2 _ h.2) ⟨callB_of 0 hts (gw_good kw_563) rfl rfl rfl (hts _ (List.mem_cons_of_mem _ kw_7)) (hts _ (List.mem_cons_of_mem _ kw_560)) hd_X0_read ⟨Nat.le_of_ble_eq_true rfl, Nat.le_of_ble_eq_true rfl⟩, (hts _ (List.mem_cons_of_mem _ kw_561)), (hts _ (List.mem_cons_of_mem _ kw_562))⟩ h.1 (ci := 0) rfl (by decide) rfl hl.1 rfl (lv_room (Nat.le_of_ble_eq_true rfl)) dX11_dairy_4 ⟨Nat.zero_le _, Nat.zero_le _⟩ (fun z5 M3 H locs h hP hS => ?_)
  refine lv_istore_n (lv' := [(1, .int z5), (0, .ref (adr G xl0))]) hx hb dX11_dairy_7 rfl hl (by decide) rfl (fun ls hl => ?_)
  refine lv_aload_n hx hb dX11_dairy_8 rfl (lv_at hl 1 rfl) ?_
  refine r_getr (C := RX11) (T := TX11) (N := 16) hx hb hts (fun w h => List.mem_cons_of_mem _ (iX11 w h)) hown hK hP rfl (by decide) rfl 0 (by decide) (hts _ (List.mem_cons_of_mem _ kw_491)) (fun _ h9 => h9) dX11_dairy_9 (by decide) h (fun x7 h => ?_)
  refine r_iconst hx hb dX11_dairy_12 (by decide) h (fun z9 h => ?_)
  refine r_putiN (C := RX7) (T := TX7) (N := 5) hx hb hts (fun w h => List.mem_cons_of_mem _ (iX7 w h)) hown hK hP tyX7 tyX7_ok nmX7 hS rfl (by decide) rfl 1 (by decide) (nw_0 hK) (fun _ h9 => h9) rfl (tyX7_ok 1 (by decide)) rfl rfl dX11_dairy_13 (by decide) h (fun M10 H locs h hP hS => ?_)
  refine lv_iload_n hx hb dX11_dairy_16 rfl (lv_at hl 0 rfl) ?_
  refine r_if_ne (tgt := 31) hx hb dX11_dairy_17 (by decide) h (fun h => ?_) (fun h => ?_)
  · refine lv_aload_n hx hb dX11_dairy_31 rfl (lv_at hl 1 rfl) ?_
    refine r_getr (C := RX11) (T := TX11) (N := 16) hx hb hts (fun w h => List.mem_cons_of_mem _ (iX11 w h)) hown hK hP rfl (by decide) rfl 1 (by decide) (hts _ (List.mem_cons_of_mem _ kw_492)) (fun _ h9 => h9) dX11_dairy_32 (by decide) h (fun x12 h => ?_)
    refine r_getrN (C := RX4) (T := TX4) (N := 10) hx hb hts (fun w h => List.mem_cons_of_mem _ (iX4 w h)) hown hK hP rfl (by decide) rfl 0 (by decide) (nw_70 hK) (fun _ h9 => h9) dX11_dairy_35 (by decide) h (fun x14 h => ?_)
    refine lv_aload_n hx hb dX11_dairy_38 rfl (lv_at hl 1 rfl) ?_
    refine r_getr (C := RX11) (T := TX11) (N := 16) hx hb hts (fun w h => List.mem_cons_of_mem _ (iX11 w h)) hown hK hP rfl (by decide) rfl 8 (by decide) (hts _ (List.mem_cons_of_mem _ kw_499)) (fun _ h9 => h9) dX11_dairy_39 (by decide) h (fun x16 h => ?_)
    refine r_getrN (C := RX0) (T := TX0) (N := 3) hx hb hts (fun w h => List.mem_cons_of_mem _ (iX0 w h)) hown hK hP rfl (by decide) rfl 1 (by decide) (nw_83 hK) (fun _ h9 => h9) dX11_dairy_42 (by decide) h (fun x18 h => ?_)
    refine q_Vv hx hb hml hown hts hK hP hS (c_X8_become l D G S _ x14 x18 _ h.2) ⟨callB_of 1 hts (gw_good kw_728) rfl rfl rfl (hts _ (List.mem_cons_of_mem _ kw_4)) (hts _ (List.mem_cons_of_mem _ kw_725)) hd_X8_become ⟨Nat.le_of_ble_eq_true rfl, Nat.le_of_ble_eq_true rfl⟩, (hts _ (List.mem_cons_of_mem _ kw_726)), (hts _ (List.mem_cons_of_mem _ kw_727))⟩ h.1 (ci := 8) rfl (by decide) rfl hl.1 rfl (lv_room (Nat.le_of_ble_eq_true rfl)) dX11_dairy_45 ⟨Nat.zero_le _, Nat.zero_le _⟩ (fun M19 H locs h hP hS => ?_)
    refine lv_aload_n hx hb dX11_dairy_48 rfl (lv_at hl 1 rfl) ?_
    refine r_getr (C := RX11) (T := TX11) (N := 16) hx hb hts (fun w h => List.mem_cons_of_mem _ (iX11 w h)) hown hK hP rfl (by decide) rfl 1 (by decide) (hts _ (List.mem_cons_of_mem _ kw_492)) (fun _ h9 => h9) dX11_dairy_49 (by decide) h (fun x21 h => ?_)
    refine r_getrN (C := RX4) (T := TX4) (N := 10) hx hb hts (fun w h => List.mem_cons_of_mem _ (iX4 w h)) hown hK hP rfl (by decide) rfl 1 (by decide) (nw_73 hK) (fun _ h9 => h9) dX11_dairy_52 (by decide) h (fun x23 h => ?_)
    refine lv_aload_n hx hb dX11_dairy_55 rfl (lv_at hl 1 rfl) ?_
    refine r_getr (C := RX11) (T := TX11) (N := 16) hx hb hts (fun w h => List.mem_cons_of_mem _ (iX11 w h)) hown hK hP rfl (by decide) rfl 8 (by decide) (hts _ (List.mem_cons_of_mem _ kw_499)) (fun _ h9 => h9) dX11_dairy_56 (by decide) h (fun x25 h => ?_)
    refine r_getrN (C := RX0) (T := TX0) (N := 3) hx hb hts (fun w h => List.mem_cons_of_mem _ (iX0 w h)) hown hK hP rfl (by decide) rfl 2 (by decide) (nw_84 hK) (fun _ h9 => h9) dX11_dairy_59 (by decide) h (fun x27 h => ?_)
    refine q_Vv hx hb hml hown hts hK hP hS (c_X5_become l D G S _ x23 x27 _ h.2) ⟨callB_of 1 hts (gw_good kw_735) rfl rfl rfl (hts _ (List.mem_cons_of_mem _ kw_5)) (hts _ (List.mem_cons_of_mem _ kw_732)) hd_X5_become ⟨Nat.le_of_ble_eq_true rfl, Nat.le_of_ble_eq_true rfl⟩, (hts _ (List.mem_cons_of_mem _ kw_733)), (hts _ (List.mem_cons_of_mem _ kw_734))⟩ h.1 (ci := 5) rfl (by decide) rfl hl.1 rfl (lv_room (Nat.le_of_ble_eq_true rfl)) dX11_dairy_62 ⟨Nat.zero_le _, Nat.zero_le _⟩ (fun M28 H locs h hP hS => ?_)
    refine lv_aload_n hx hb dX11_dairy_65 rfl (lv_at hl 1 rfl) ?_
    refine r_getr (C := RX11) (T := TX11) (N := 16) hx hb hts (fun w h => List.mem_cons_of_mem _ (iX11 w h)) hown hK hP rfl (by decide) rfl 1 (by decide) (hts _ (List.mem_cons_of_mem _ kw_492)) (fun _ h9 => h9) dX11_dairy_66 (by decide) h (fun x30 h => ?_)
    refine r_iconst hx hb dX11_dairy_69 (by decide) h (fun z32 h => ?_)
    refine r_putiN (C := RX4) (T := TX4) (N := 10) hx hb hts (fun w h => List.mem_cons_of_mem _ (iX4 w h)) hown hK hP tyX4 tyX4_ok nmX4 hS rfl (by decide) rfl 4 (by decide) (nw_77 hK) (fun _ h9 => h9) rfl (tyX4_ok 4 (by decide)) rfl rfl dX11_dairy_70 (by decide) h (fun M33 H locs h hP hS => ?_)
    refine lv_aload_n hx hb dX11_dairy_73 rfl (lv_at hl 1 rfl) ?_
    refine r_iconst hx hb dX11_dairy_74 (by decide) h (fun z35 h => ?_)
    refine r_puti (C := RX11) (T := TX11) (N := 16) hx hb hts (fun w h => List.mem_cons_of_mem _ (iX11 w h)) hown hK hP tyX11 tyX11_ok nmX11 hS rfl (by decide) rfl 5 (by decide) (hts _ (List.mem_cons_of_mem _ kw_496)) (fun _ h9 => h9) rfl (tyX11_ok 5 (by decide)) rfl rfl dX11_dairy_75 (by decide) h (fun M36 H locs h hP hS => ?_)
    refine lv_aload_n hx hb dX11_dairy_78 rfl (lv_at hl 1 rfl) ?_
    refine r_getr (C := RX11) (T := TX11) (N := 16) hx hb hts (fun w h => List.mem_cons_of_mem _ (iX11 w h)) hown hK hP rfl (by decide) rfl 1 (by decide) (hts _ (List.mem_cons_of_mem _ kw_492)) (fun _ h9 => h9) dX11_dairy_79 (by decide) h (fun x38 h => ?_)
    refine r_getrN (C := RX4) (T := TX4) (N := 10) hx hb hts (fun w h => List.mem_cons_of_mem _ (iX4 w h)) hown hK hP rfl (by decide) rfl 0 (by decide) (nw_70 hK) (fun _ h9 => h9) dX11_dairy_82 (by decide) h (fun x40 h => ?_)
    refine r_getiN (C := RX8) (T := TX8) (N := 19) hx hb hts (fun w h => List.mem_cons_of_mem _ (iX8 w h)) hown hK hP rfl (by decide) rfl 5 (by decide) (nw_20 hK) (fun _ h9 => h9) dX11_dairy_85 (by decide) h (fun z42 h => ?_)
    exact r_iret hx hb hr hlocks hP hS dX11_dairy_88 h
  · refine r_bipush hx hb dX11_dairy_20 (by decide) h (fun z44 h => ?_)
    refine lv_aload_n hx hb dX11_dairy_22 rfl (lv_at hl 1 rfl) ?_
    refine r_getr (C := RX11) (T := TX11) (N := 16) hx hb hts (fun w h => List.mem_cons_of_mem _ (iX11 w h)) hown hK hP rfl (by decide) rfl 0 (by decide) (hts _ (List.mem_cons_of_mem _ kw_491)) (fun _ h9 => h9) dX11_dairy_23 (by decide) h (fun x46 h => ?_)
    refine r_getiN (C := RX7) (T := TX7) (N := 5) hx hb hts (fun w h => List.mem_cons_of_mem _ (iX7 w h)) hown hK hP rfl (by decide) rfl 4 (by decide) (nw_1 hK) (fun _ h9 => h9) dX11_dairy_26 (by decide) h (fun z48 h => ?_)
    refine r_isub hx hb dX11_dairy_29 h (fun z50 h => ?_)
    exact r_iret hx hb hr hlocks hP hS dX11_dairy_30 h
/-! TurningMilk$Tape.isAtDigit()Z -/
abbrev RM_X7_isAtDigit : Room := { frames := 2, cells := 0, slots := 0, locals := 60 }
def cw_X7_isAtDigit : Cond := Cond.code yX7_isAtDigit cX7_isAtDigit 1 (Option.some FieldType.boolean)
theorem hd_X7_isAtDigit : yX7_isAtDigit.cls ≠ "java/lang/invoke/MethodHandle" ∧ yX7_isAtDigit.cls ≠ "java/lang/invoke/VarHandle" ∧ (parseMethodDescriptor yX7_isAtDigit.desc).map (fun d => d.parameters.length) = some 0 := by decide +kernel
theorem dX7_isAtDigit_0 : decode cX7_isAtDigit 0 = .ok (.aload_n 0, 1) := by decide +kernel
theorem dX7_isAtDigit_1 : decode cX7_isAtDigit 1 = .ok (.invokevirtual 28, 3) := by decide +kernel
theorem dX7_isAtDigit_4 : decode cX7_isAtDigit 4 = .ok (.invokestatic 44, 3) := by decide +kernel
theorem dX7_isAtDigit_7 : decode cX7_isAtDigit 7 = .ok (.ireturn, 1) := by decide +kernel
def wp_X7_isAtDigit (S : Sh) (M : Mm) (u0 : Int) (post : Int → Mm → Prop) : Prop := isK S u0 7 ∧ (wp_X7_look S M u0 <| fun v2 M1 => wp_X7_isDigit S M1 v2 <| fun v5 M4 => (v5 = 0 ∨ v5 = 1) ∧ post v5 M4)
set_option maxHeartbeats 4000000 in
set_option maxRecDepth 100000 in
theorem c_X7_isAtDigit (l : Launch) (D : va_G) (G : Gt) (S : Sh) (M : Mm) (xl0 : Int) (post : Int → Mm → Prop) (h : wp_X7_isAtDigit S M xl0 post) : Met l yX7_isAtDigit (cw_X7_isAtDigit :: gw) RM_X7_isAtDigit (va_Pc [.ref (adr G xl0)] (fun U => KN D G U ∧ Wd D G S M U.heap)) (QI D G S post) 0 0 (aG G) := by
  refine Met.ofW (cc := cX7_isAtDigit) (maxL := 1) (ret := (some .boolean)) (by decide) rfl ?_
  intro p e s m args below meth c s₁ B hml hv
  obtain ⟨rfl, hK, hP⟩ := hv
  have hx := B.exec
  have hb := B.bytes
  have hr := B.returns
  have hts := atoms_spec (ws := cw_X7_isAtDigit :: gw) B.pre
  have hown : s.vm.findClass RX7 = some m.cls := findClass_of_methodNamed B.named
  have hlocks := B.notSynchronized
  have hS : va_S (aG G) s.heap s.heap [] := va_S.rf
  have C : Cx p s m ([.ref (adr G xl0)] : List Value).toArray meth c D G cX7_isAtDigit 1 (some .boolean) (cw_X7_isAtDigit :: gw) RX7 := ⟨hx, hb, hr, hlocks, hml, hown, hts, hK⟩
  have hl := lv_entry ([.ref (adr G xl0)]) (n := 1) (Nat.le_of_ble_eq_true rfl)
  rw [lg_entry_eq]
  generalize (lg_sl ([.ref (adr G xl0)]) ++ List.replicate (1 - (lg_sl ([.ref (adr G xl0)])).length) Slot.unset).toArray = ls at hl ⊢
  have hl : lv_has ls 1 [(0, .ref (adr G xl0))] := hl
  unfold wp_X7_isAtDigit at h
  refine lv_aload_n hx hb dX7_isAtDigit_0 rfl (lv_at hl 0 rfl) ?_
  refine q_Vi hx hb hml hown hts hK hP hS (c_X7_look l D G S _ xl0 _ h.2) ⟨callB_of 0 hts (gw_good kw_601) rfl rfl rfl (hts _ (List.mem_cons_of_mem _ kw_2)) (hts _ (List.mem_cons_of_mem _ kw_598)) hd_X7_look ⟨Nat.le_of_ble_eq_true rfl, Nat.le_of_ble_eq_true rfl⟩, (hts _ (List.mem_cons_of_mem _ kw_599)), (hts _ (List.mem_cons_of_mem _ kw_600))⟩ h.1 (ci := 7) rfl (by decide) rfl hl.1 rfl (lv_room (Nat.le_of_ble_eq_true rfl)) dX7_isAtDigit_1 ⟨Nat.zero_le _, Nat.zero_le _⟩ (fun z3 M1 H locs h hP hS => ?_)
  refine q_Si hx hb hml hown hts hK hP hS (c_X7_isDigit l D G S _ z3 _ h) ⟨callB_of 1 hts (gw_good kw_672) rfl rfl rfl (hts _ (List.mem_cons_of_mem _ kw_2)) (hts _ (List.mem_cons_of_mem _ kw_670)) hd_X7_isDigit ⟨Nat.le_of_ble_eq_true rfl, Nat.le_of_ble_eq_true rfl⟩, (hts _ (List.mem_cons_of_mem _ kw_671))⟩ rfl hl.1 rfl (lv_room (Nat.le_of_ble_eq_true rfl)) dX7_isAtDigit_4 ⟨Nat.zero_le _, Nat.zero_le _⟩ (fun z6 M4 H locs h hP hS => ?_)
  exact r_zret hx hb hr hlocks hP hS dX7_isAtDigit_7 h
/-! TurningMilk$Turning.nameOf(I)Ljava/lang/String; -/
abbrev RM_X10_nameOf : Room := { frames := 1, cells := 0, slots := 0, locals := 40 }
def cw_X10_nameOf : Cond := Cond.code yX10_nameOf cX10_nameOf 1 (Option.some (FieldType.object "java/lang/String"))
theorem hd_X10_nameOf : yX10_nameOf.cls ≠ "java/lang/invoke/MethodHandle" ∧ yX10_nameOf.cls ≠ "java/lang/invoke/VarHandle" ∧ (parseMethodDescriptor yX10_nameOf.desc).map (fun d => d.parameters.length) = some 1 := by decide +kernel
theorem dX10_nameOf_0 : decode cX10_nameOf 0 = .ok (.iload_n 0, 1) := by decide +kernel
theorem dX10_nameOf_1 : decode cX10_nameOf 1 = .ok (.tableswitch 78 0 8 #[51, 54, 57, 60, 63, 66, 69, 72, 75], 51) := by decide +kernel
theorem dX10_nameOf_52 : decode cX10_nameOf 52 = .ok (.ldc 26, 2) := by decide +kernel
theorem dX10_nameOf_54 : decode cX10_nameOf 54 = .ok (.areturn, 1) := by decide +kernel
theorem dX10_nameOf_55 : decode cX10_nameOf 55 = .ok (.ldc 28, 2) := by decide +kernel
theorem dX10_nameOf_57 : decode cX10_nameOf 57 = .ok (.areturn, 1) := by decide +kernel
theorem dX10_nameOf_58 : decode cX10_nameOf 58 = .ok (.ldc 30, 2) := by decide +kernel
theorem dX10_nameOf_60 : decode cX10_nameOf 60 = .ok (.areturn, 1) := by decide +kernel
theorem dX10_nameOf_61 : decode cX10_nameOf 61 = .ok (.ldc 32, 2) := by decide +kernel
theorem dX10_nameOf_63 : decode cX10_nameOf 63 = .ok (.areturn, 1) := by decide +kernel
theorem dX10_nameOf_64 : decode cX10_nameOf 64 = .ok (.ldc 34, 2) := by decide +kernel
theorem dX10_nameOf_66 : decode cX10_nameOf 66 = .ok (.areturn, 1) := by decide +kernel
theorem dX10_nameOf_67 : decode cX10_nameOf 67 = .ok (.ldc 36, 2) := by decide +kernel
theorem dX10_nameOf_69 : decode cX10_nameOf 69 = .ok (.areturn, 1) := by decide +kernel
theorem dX10_nameOf_70 : decode cX10_nameOf 70 = .ok (.ldc 38, 2) := by decide +kernel
theorem dX10_nameOf_72 : decode cX10_nameOf 72 = .ok (.areturn, 1) := by decide +kernel
theorem dX10_nameOf_73 : decode cX10_nameOf 73 = .ok (.ldc 40, 2) := by decide +kernel
theorem dX10_nameOf_75 : decode cX10_nameOf 75 = .ok (.areturn, 1) := by decide +kernel
theorem dX10_nameOf_76 : decode cX10_nameOf 76 = .ok (.ldc 42, 2) := by decide +kernel
theorem dX10_nameOf_78 : decode cX10_nameOf 78 = .ok (.areturn, 1) := by decide +kernel
theorem dX10_nameOf_79 : decode cX10_nameOf 79 = .ok (.ldc 44, 2) := by decide +kernel
theorem dX10_nameOf_81 : decode cX10_nameOf 81 = .ok (.areturn, 1) := by decide +kernel
def wp_X10_nameOf (S : Sh) (M : Mm) (u0 : Int) (post : Int → Mm → Prop) : Prop := wIf (u0 = 0) (wC (-5) fun v1 => post v1 M) (wIf (u0 = 1) (wC (-10) fun v3 => post v3 M) (wIf (u0 = 2) (wC (-11) fun v5 => post v5 M) (wIf (u0 = 3) (wC (-6) fun v7 => post v7 M) (wIf (u0 = 4) (wC (-12) fun v9 => post v9 M) (wIf (u0 = 5) (wC (-7) fun v11 => post v11 M) (wIf (u0 = 6) (wC (-13) fun v13 => post v13 M) (wIf (u0 = 7) (wC (-4) fun v15 => post v15 M) (wIf (u0 = 8) (wC (-14) fun v17 => post v17 M) (wC (-15) fun v19 => post v19 M)))))))))
set_option maxHeartbeats 4000000 in
set_option maxRecDepth 100000 in
theorem c_X10_nameOf (l : Launch) (D : va_G) (G : Gt) (S : Sh) (M : Mm) (zl0 : Int32) (post : Int → Mm → Prop) (h : wp_X10_nameOf S M zl0.toInt post) : Met l yX10_nameOf (cw_X10_nameOf :: gw) RM_X10_nameOf (va_Pc [.int zl0] (fun U => KN D G U ∧ Wd D G S M U.heap)) (QR D G S post) 0 0 (aG G) := by
  refine Met.ofW (cc := cX10_nameOf) (maxL := 1) (ret := (some (.object "java/lang/String"))) (by decide) rfl ?_
  intro p e s m args below meth c s₁ B hml hv
  obtain ⟨rfl, hK, hP⟩ := hv
  have hx := B.exec
  have hb := B.bytes
  have hr := B.returns
  have hts := atoms_spec (ws := cw_X10_nameOf :: gw) B.pre
  have hown : s.vm.findClass RX10 = some m.cls := findClass_of_methodNamed B.named
  have hlocks := B.notSynchronized
  have hS : va_S (aG G) s.heap s.heap [] := va_S.rf
  have C : Cx p s m ([.int zl0] : List Value).toArray meth c D G cX10_nameOf 1 (some (.object "java/lang/String")) (cw_X10_nameOf :: gw) RX10 := ⟨hx, hb, hr, hlocks, hml, hown, hts, hK⟩
  have hl := lv_entry ([.int zl0]) (n := 1) (Nat.le_of_ble_eq_true rfl)
  rw [lg_entry_eq]
  generalize (lg_sl ([.int zl0]) ++ List.replicate (1 - (lg_sl ([.int zl0])).length) Slot.unset).toArray = ls at hl ⊢
  have hl : lv_has ls 1 [(0, .int zl0)] := hl
  unfold wp_X10_nameOf at h
  refine lv_iload_n hx hb dX10_nameOf_0 rfl (lv_at hl 0 rfl) ?_
  refine sw (c := zl0.toInt = 0) h (fun e0 h => ?_) (fun e0 h => ?_)
  · refine lv_tableIn (tgt := 52) hx hb dX10_nameOf_1 (by omega) (by omega) (by rw [e0]; rfl) (by decide) ?_
    refine r_lds hx hb hK hown (k := 2) (List.mem_of_getElem? (i := 7) rfl) dX10_nameOf_52 (n := (-5)) (by decide) h (fun x2 h => ?_)
    exact r_aret hx hb hr (Or.inl ⟨_, rfl⟩) hlocks hP hS dX10_nameOf_54 h
  · refine sw (c := zl0.toInt = 1) h (fun e1 h => ?_) (fun e1 h => ?_)
    · refine lv_tableIn (tgt := 55) hx hb dX10_nameOf_1 (by omega) (by omega) (by rw [e1]; rfl) (by decide) ?_
      refine r_lds hx hb hK hown (k := 7) (List.mem_of_getElem? (i := 8) rfl) dX10_nameOf_55 (n := (-10)) (by decide) h (fun x4 h => ?_)
      exact r_aret hx hb hr (Or.inl ⟨_, rfl⟩) hlocks hP hS dX10_nameOf_57 h
    · refine sw (c := zl0.toInt = 2) h (fun e2 h => ?_) (fun e2 h => ?_)
      · refine lv_tableIn (tgt := 58) hx hb dX10_nameOf_1 (by omega) (by omega) (by rw [e2]; rfl) (by decide) ?_
        refine r_lds hx hb hK hown (k := 8) (List.mem_of_getElem? (i := 9) rfl) dX10_nameOf_58 (n := (-11)) (by decide) h (fun x6 h => ?_)
        exact r_aret hx hb hr (Or.inl ⟨_, rfl⟩) hlocks hP hS dX10_nameOf_60 h
      · refine sw (c := zl0.toInt = 3) h (fun e3 h => ?_) (fun e3 h => ?_)
        · refine lv_tableIn (tgt := 61) hx hb dX10_nameOf_1 (by omega) (by omega) (by rw [e3]; rfl) (by decide) ?_
          refine r_lds hx hb hK hown (k := 3) (List.mem_of_getElem? (i := 10) rfl) dX10_nameOf_61 (n := (-6)) (by decide) h (fun x8 h => ?_)
          exact r_aret hx hb hr (Or.inl ⟨_, rfl⟩) hlocks hP hS dX10_nameOf_63 h
        · refine sw (c := zl0.toInt = 4) h (fun e4 h => ?_) (fun e4 h => ?_)
          · refine lv_tableIn (tgt := 64) hx hb dX10_nameOf_1 (by omega) (by omega) (by rw [e4]; rfl) (by decide) ?_
            refine r_lds hx hb hK hown (k := 9) (List.mem_of_getElem? (i := 11) rfl) dX10_nameOf_64 (n := (-12)) (by decide) h (fun x10 h => ?_)
            exact r_aret hx hb hr (Or.inl ⟨_, rfl⟩) hlocks hP hS dX10_nameOf_66 h
          · refine sw (c := zl0.toInt = 5) h (fun e5 h => ?_) (fun e5 h => ?_)
            · refine lv_tableIn (tgt := 67) hx hb dX10_nameOf_1 (by omega) (by omega) (by rw [e5]; rfl) (by decide) ?_
              refine r_lds hx hb hK hown (k := 4) (List.mem_of_getElem? (i := 12) rfl) dX10_nameOf_67 (n := (-7)) (by decide) h (fun x12 h => ?_)
              exact r_aret hx hb hr (Or.inl ⟨_, rfl⟩) hlocks hP hS dX10_nameOf_69 h
            · refine sw (c := zl0.toInt = 6) h (fun e6 h => ?_) (fun e6 h => ?_)
              · refine lv_tableIn (tgt := 70) hx hb dX10_nameOf_1 (by omega) (by omega) (by rw [e6]; rfl) (by decide) ?_
                refine r_lds hx hb hK hown (k := 10) (List.mem_of_getElem? (i := 13) rfl) dX10_nameOf_70 (n := (-13)) (by decide) h (fun x14 h => ?_)
                exact r_aret hx hb hr (Or.inl ⟨_, rfl⟩) hlocks hP hS dX10_nameOf_72 h
              · refine sw (c := zl0.toInt = 7) h (fun e7 h => ?_) (fun e7 h => ?_)
                · refine lv_tableIn (tgt := 73) hx hb dX10_nameOf_1 (by omega) (by omega) (by rw [e7]; rfl) (by decide) ?_
                  refine r_lds hx hb hK hown (k := 1) (List.mem_of_getElem? (i := 14) rfl) dX10_nameOf_73 (n := (-4)) (by decide) h (fun x16 h => ?_)
                  exact r_aret hx hb hr (Or.inl ⟨_, rfl⟩) hlocks hP hS dX10_nameOf_75 h
                · refine sw (c := zl0.toInt = 8) h (fun e8 h => ?_) (fun e8 h => ?_)
                  · refine lv_tableIn (tgt := 76) hx hb dX10_nameOf_1 (by omega) (by omega) (by rw [e8]; rfl) (by decide) ?_
                    refine r_lds hx hb hK hown (k := 11) (List.mem_of_getElem? (i := 15) rfl) dX10_nameOf_76 (n := (-14)) (by decide) h (fun x18 h => ?_)
                    exact r_aret hx hb hr (Or.inl ⟨_, rfl⟩) hlocks hP hS dX10_nameOf_78 h
                  · refine lv_tableOut (tgt := 79) hx hb dX10_nameOf_1 (by omega) (by decide) ?_
                    refine r_lds hx hb hK hown (k := 12) (List.mem_of_getElem? (i := 16) rfl) dX10_nameOf_79 (n := (-15)) (by decide) h (fun x20 h => ?_)
                    exact r_aret hx hb hr (Or.inl ⟨_, rfl⟩) hlocks hP hS dX10_nameOf_81 h
/-! TurningMilk$RuleReader.takeValueWord()I -/
abbrev RM_X3_takeValueWord : Room := { frames := 7, cells := 0, slots := 0, locals := 304 }
def cw_X3_takeValueWord : Cond := Cond.code yX3_takeValueWord cX3_takeValueWord 2 (Option.some FieldType.int)
theorem hd_X3_takeValueWord : yX3_takeValueWord.cls ≠ "java/lang/invoke/MethodHandle" ∧ yX3_takeValueWord.cls ≠ "java/lang/invoke/VarHandle" ∧ (parseMethodDescriptor yX3_takeValueWord.desc).map (fun d => d.parameters.length) = some 0 := by decide +kernel
theorem dX3_takeValueWord_0 : decode cX3_takeValueWord 0 = .ok (.iconst 0, 1) := by decide +kernel
theorem dX3_takeValueWord_1 : decode cX3_takeValueWord 1 = .ok (.istore_n 1, 1) := by decide +kernel
theorem dX3_takeValueWord_2 : decode cX3_takeValueWord 2 = .ok (.iload_n 1, 1) := by decide +kernel
theorem dX3_takeValueWord_3 : decode cX3_takeValueWord 3 = .ok (.bipush 10, 2) := by decide +kernel
theorem dX3_takeValueWord_5 : decode cX3_takeValueWord 5 = .ok (.if_icmp .ge 28, 3) := by decide +kernel
theorem dX3_takeValueWord_8 : decode cX3_takeValueWord 8 = .ok (.aload_n 0, 1) := by decide +kernel
theorem dX3_takeValueWord_9 : decode cX3_takeValueWord 9 = .ok (.getfield 18, 3) := by decide +kernel
theorem dX3_takeValueWord_12 : decode cX3_takeValueWord 12 = .ok (.iload_n 1, 1) := by decide +kernel
theorem dX3_takeValueWord_13 : decode cX3_takeValueWord 13 = .ok (.invokestatic 106, 3) := by decide +kernel
theorem dX3_takeValueWord_16 : decode cX3_takeValueWord 16 = .ok (.invokevirtual 57, 3) := by decide +kernel
theorem dX3_takeValueWord_19 : decode cX3_takeValueWord 19 = .ok (.ifCond .eq 8, 3) := by decide +kernel
theorem dX3_takeValueWord_22 : decode cX3_takeValueWord 22 = .ok (.bipush (-2), 2) := by decide +kernel
theorem dX3_takeValueWord_24 : decode cX3_takeValueWord 24 = .ok (.iload_n 1, 1) := by decide +kernel
theorem dX3_takeValueWord_25 : decode cX3_takeValueWord 25 = .ok (.isub, 1) := by decide +kernel
theorem dX3_takeValueWord_26 : decode cX3_takeValueWord 26 = .ok (.ireturn, 1) := by decide +kernel
theorem dX3_takeValueWord_27 : decode cX3_takeValueWord 27 = .ok (.iinc 1 1, 3) := by decide +kernel
theorem dX3_takeValueWord_30 : decode cX3_takeValueWord 30 = .ok (.goto (-28), 3) := by decide +kernel
theorem dX3_takeValueWord_33 : decode cX3_takeValueWord 33 = .ok (.iconst (-1), 1) := by decide +kernel
theorem dX3_takeValueWord_34 : decode cX3_takeValueWord 34 = .ok (.ireturn, 1) := by decide +kernel
def wp_X3_takeValueWord_2 (S : Sh) (post : Int → Mm → Prop) : Nat → Int → Int → Mm → Prop
  | 0, _, _, _ => False
  | n + 1, u0, u1, M => wC 10 fun v1 => wIf (v1 ≤ u1) (wC (-1) fun v3 => post v3 M) (wGetR S M u0 3 0 fun v5 => wp_X10_nameOf S M u1 <| fun v8 M7 => isK S v5 7 ∧ (wp_X7_takesWord S M7 v5 v8 <| fun v11 M10 => wIf (v11 = 0) (wA u1 1 fun v13 => wp_X3_takeValueWord_2 S post n u0 v13 M10) (wC (-2) fun v15 => wS v15 u1 fun v17 => post v17 M10)))
def wp_X3_takeValueWord (S : Sh) (M : Mm) (u0 : Int) (post : Int → Mm → Prop) : Prop := wC 0 fun v19 => ∃ n9 : Nat, wp_X3_takeValueWord_2 S post n9 u0 v19 M
set_option maxHeartbeats 4000000 in
set_option maxRecDepth 100000 in
theorem t_X3_takeValueWord_2 {p : Program} {l : Launch} {e : Env} {s : State} {m : MethodId} {args : Array Value} {below : List Frame} {meth : Method} {c : Code} {D : va_G} {G : Gt} {S : Sh} {post : Int → Mm → Prop} (C : Cx p s m args meth c D G cX3_takeValueWord 2 (some .int) (cw_X3_takeValueWord :: gw) RX3) : ∀ (n : Nat) (xl0 : Int) (zl1 : Int32) (M : Mm) (H : Heap) (locs : List Loc) (ls : Array Slot), Wd D G S M H → va_S (aG G) s.heap H locs → lv_has ls 2 [(0, .ref (adr G xl0)), (1, .int zl1)] → wp_X3_takeValueWord_2 S post n xl0 zl1.toInt  M → W p l e RM_X3_takeValueWord s m args below meth c H locs 0 0 (MQ below (QI D G S post) args s 0 0 (aG G)) (F0 m 2 ls []) := by
  obtain ⟨hx, hb, hr, hlocks, hml, hown, hts, hK⟩ := id C
  intro n
  induction n with
  | zero => intro xl0 zl1 M H locs ls hP hS hl h; exact h.elim
  | succ n ih =>
    intro xl0 zl1 M H locs ls hP hS hl h
    unfold wp_X3_takeValueWord_2 at h
    refine lv_iload_n hx hb dX3_takeValueWord_2 rfl (lv_at hl 1 rfl) ?_
    refine r_bipush hx hb dX3_takeValueWord_3 (by decide) h (fun z2 h => ?_)
    refine r_icmp_ge (tgt := 33) hx hb dX3_takeValueWord_5 (by decide) h (fun h => ?_) (fun h => ?_)
    · refine r_iconst hx hb dX3_takeValueWord_33 (by decide) h (fun z4 h => ?_)
      exact r_iret hx hb hr hlocks hP hS dX3_takeValueWord_34 h
    · refine lv_aload_n hx hb dX3_takeValueWord_8 rfl (lv_at hl 0 rfl) ?_
      refine r_getr (C := RX3) (T := TX3) (N := 9) hx hb hts (fun w h => List.mem_cons_of_mem _ (iX3 w h)) hown hK hP rfl (by decide) rfl 0 (by decide) (hts _ (List.mem_cons_of_mem _ kw_307)) (fun _ h9 => h9) dX3_takeValueWord_9 (by decide) h (fun x6 h => ?_)
      refine lv_iload_n hx hb dX3_takeValueWord_12 rfl (lv_at hl 1 rfl) ?_
      refine q_Sr hx hb hml hown hts hK hP hS (c_X10_nameOf l D G S _ zl1 _ h) ⟨callB_of 1 hts (gw_good kw_769) rfl rfl rfl (hts _ (List.mem_cons_of_mem _ kw_9)) (hts _ (List.mem_cons_of_mem _ kw_767)) hd_X10_nameOf ⟨Nat.le_of_ble_eq_true rfl, Nat.le_of_ble_eq_true rfl⟩, (hts _ (List.mem_cons_of_mem _ kw_768))⟩ rfl hl.1 rfl (lv_room (Nat.le_of_ble_eq_true rfl)) dX3_takeValueWord_13 ⟨Nat.zero_le _, Nat.zero_le _⟩ (fun x9 M7 H locs h hP hS => ?_)
      refine q_Vi hx hb hml hown hts hK hP hS (c_X7_takesWord l D G S _ x6 x9 _ h.2) ⟨callB_of 1 hts (gw_good kw_597) rfl rfl rfl (hts _ (List.mem_cons_of_mem _ kw_2)) (hts _ (List.mem_cons_of_mem _ kw_751)) hd_X7_takesWord ⟨Nat.le_of_ble_eq_true rfl, Nat.le_of_ble_eq_true rfl⟩, (hts _ (List.mem_cons_of_mem _ kw_595)), (hts _ (List.mem_cons_of_mem _ kw_596))⟩ h.1 (ci := 7) rfl (by decide) rfl hl.1 rfl (lv_room (Nat.le_of_ble_eq_true rfl)) dX3_takeValueWord_16 ⟨Nat.zero_le _, Nat.zero_le _⟩ (fun z12 M10 H locs h hP hS => ?_)
      refine r_if_eq (tgt := 27) hx hb dX3_takeValueWord_19 (by decide) h (fun h => ?_) (fun h => ?_)
      · refine r_iinc hx hb (fun z14 => [(1, .int z14), (0, .ref (adr G xl0))]) dX3_takeValueWord_27 (by decide) hl (k := 1) rfl (by decide) (fun _ => rfl) h (fun z14 ls hl h => ?_)
        refine lv_goto (tgt := 2) hx hb dX3_takeValueWord_30 (by decide) ?_
        exact ih xl0 z14 _ _ _ _ hP hS (lv_sub hl [1, 0] rfl) h
      · refine r_bipush hx hb dX3_takeValueWord_22 (by decide) h (fun z16 h => ?_)
        refine lv_iload_n hx hb dX3_takeValueWord_24 rfl (lv_at hl 1 rfl) ?_
        refine r_isub hx hb dX3_takeValueWord_25 h (fun z18 h => ?_)
        exact r_iret hx hb hr hlocks hP hS dX3_takeValueWord_26 h
set_option maxHeartbeats 4000000 in
set_option maxRecDepth 100000 in
theorem c_X3_takeValueWord (l : Launch) (D : va_G) (G : Gt) (S : Sh) (M : Mm) (xl0 : Int) (post : Int → Mm → Prop) (h : wp_X3_takeValueWord S M xl0 post) : Met l yX3_takeValueWord (cw_X3_takeValueWord :: gw) RM_X3_takeValueWord (va_Pc [.ref (adr G xl0)] (fun U => KN D G U ∧ Wd D G S M U.heap)) (QI D G S post) 0 0 (aG G) := by
  refine Met.ofW (cc := cX3_takeValueWord) (maxL := 2) (ret := (some .int)) (by decide) rfl ?_
  intro p e s m args below meth c s₁ B hml hv
  obtain ⟨rfl, hK, hP⟩ := hv
  have hx := B.exec
  have hb := B.bytes
  have hr := B.returns
  have hts := atoms_spec (ws := cw_X3_takeValueWord :: gw) B.pre
  have hown : s.vm.findClass RX3 = some m.cls := findClass_of_methodNamed B.named
  have hlocks := B.notSynchronized
  have hS : va_S (aG G) s.heap s.heap [] := va_S.rf
  have C : Cx p s m ([.ref (adr G xl0)] : List Value).toArray meth c D G cX3_takeValueWord 2 (some .int) (cw_X3_takeValueWord :: gw) RX3 := ⟨hx, hb, hr, hlocks, hml, hown, hts, hK⟩
  have hl := lv_entry ([.ref (adr G xl0)]) (n := 2) (Nat.le_of_ble_eq_true rfl)
  rw [lg_entry_eq]
  generalize (lg_sl ([.ref (adr G xl0)]) ++ List.replicate (2 - (lg_sl ([.ref (adr G xl0)])).length) Slot.unset).toArray = ls at hl ⊢
  have hl : lv_has ls 2 [(0, .ref (adr G xl0))] := hl
  unfold wp_X3_takeValueWord at h
  refine r_iconst hx hb dX3_takeValueWord_0 (by decide) h (fun z20 h => ?_)
  refine lv_istore_n (lv' := [(1, .int z20), (0, .ref (adr G xl0))]) hx hb dX3_takeValueWord_1 rfl hl (by decide) rfl (fun ls hl => ?_)
  obtain ⟨n9, h⟩ := h
  exact t_X3_takeValueWord_2 C n9 xl0 z20 _ _ _ _ hP hS (lv_sub hl [1, 0] rfl) h
/-! TurningMilk$RuleReader.write(I)V -/
abbrev RM_X3_write : Room := { frames := 1, cells := 0, slots := 0, locals := 40 }
def cw_X3_write : Cond := Cond.code yX3_write cX3_write 2 (Option.none : Option FieldType)
theorem hd_X3_write : yX3_write.cls ≠ "java/lang/invoke/MethodHandle" ∧ yX3_write.cls ≠ "java/lang/invoke/VarHandle" ∧ (parseMethodDescriptor yX3_write.desc).map (fun d => d.parameters.length) = some 1 := by decide +kernel
theorem dX3_write_0 : decode cX3_write 0 = .ok (.aload_n 0, 1) := by decide +kernel
theorem dX3_write_1 : decode cX3_write 1 = .ok (.getfield 22, 3) := by decide +kernel
theorem dX3_write_4 : decode cX3_write 4 = .ok (.sipush 400, 3) := by decide +kernel
theorem dX3_write_7 : decode cX3_write 7 = .ok (.if_icmp .ge 23, 3) := by decide +kernel
theorem dX3_write_10 : decode cX3_write 10 = .ok (.aload_n 0, 1) := by decide +kernel
theorem dX3_write_11 : decode cX3_write 11 = .ok (.getfield 9, 3) := by decide +kernel
theorem dX3_write_14 : decode cX3_write 14 = .ok (.aload_n 0, 1) := by decide +kernel
theorem dX3_write_15 : decode cX3_write 15 = .ok (.getfield 22, 3) := by decide +kernel
theorem dX3_write_18 : decode cX3_write 18 = .ok (.iload_n 1, 1) := by decide +kernel
theorem dX3_write_19 : decode cX3_write 19 = .ok (.iastore, 1) := by decide +kernel
theorem dX3_write_20 : decode cX3_write 20 = .ok (.aload_n 0, 1) := by decide +kernel
theorem dX3_write_21 : decode cX3_write 21 = .ok (.dup, 1) := by decide +kernel
theorem dX3_write_22 : decode cX3_write 22 = .ok (.getfield 22, 3) := by decide +kernel
theorem dX3_write_25 : decode cX3_write 25 = .ok (.iconst 1, 1) := by decide +kernel
theorem dX3_write_26 : decode cX3_write 26 = .ok (.iadd, 1) := by decide +kernel
theorem dX3_write_27 : decode cX3_write 27 = .ok (.putfield 22, 3) := by decide +kernel
theorem dX3_write_30 : decode cX3_write 30 = .ok (.return_, 1) := by decide +kernel
def wp_X3_write (S : Sh) (M : Mm) (u0 : Int) (u1 : Int) (post : Mm → Prop) : Prop := wGet S M u0 3 2 fun v1 => wC 400 fun v3 => wIf (v3 ≤ v1) (post M) (wGetR S M u0 3 1 fun v5 => wGet S M u0 3 2 fun v7 => wSt S M v5 14 v7 u1 fun M9 => wGet S M9 u0 3 2 fun v10 => wC 1 fun v12 => wA v10 v12 fun v14 => wPut S M9 u0 3 2 v14 fun M16 => post M16)
set_option maxHeartbeats 4000000 in
set_option maxRecDepth 100000 in
theorem c_X3_write (l : Launch) (D : va_G) (G : Gt) (S : Sh) (M : Mm) (xl0 : Int) (zl1 : Int32) (post : Mm → Prop) (h : wp_X3_write S M xl0 zl1.toInt post) : Met l yX3_write (cw_X3_write :: gw) RM_X3_write (va_Pc [.ref (adr G xl0), .int zl1] (fun U => KN D G U ∧ Wd D G S M U.heap)) (QV D G S post) 0 0 (aG G) := by
  refine Met.ofW (cc := cX3_write) (maxL := 2) (ret := none) (by decide) rfl ?_
  intro p e s m args below meth c s₁ B hml hv
  obtain ⟨rfl, hK, hP⟩ := hv
  have hx := B.exec
  have hb := B.bytes
  have hr := B.returns
  have hts := atoms_spec (ws := cw_X3_write :: gw) B.pre
  have hown : s.vm.findClass RX3 = some m.cls := findClass_of_methodNamed B.named
  have hlocks := B.notSynchronized
  have hS : va_S (aG G) s.heap s.heap [] := va_S.rf
  have C : Cx p s m ([.ref (adr G xl0), .int zl1] : List Value).toArray meth c D G cX3_write 2 none (cw_X3_write :: gw) RX3 := ⟨hx, hb, hr, hlocks, hml, hown, hts, hK⟩
  have hl := lv_entry ([.ref (adr G xl0), .int zl1]) (n := 2) (Nat.le_of_ble_eq_true rfl)
  rw [lg_entry_eq]
  generalize (lg_sl ([.ref (adr G xl0), .int zl1]) ++ List.replicate (2 - (lg_sl ([.ref (adr G xl0), .int zl1])).length) Slot.unset).toArray = ls at hl ⊢
  have hl : lv_has ls 2 [(0, .ref (adr G xl0)), (1, .int zl1)] := hl
  unfold wp_X3_write at h
  refine lv_aload_n hx hb dX3_write_0 rfl (lv_at hl 0 rfl) ?_
  refine r_geti (C := RX3) (T := TX3) (N := 9) hx hb hts (fun w h => List.mem_cons_of_mem _ (iX3 w h)) hown hK hP rfl (by decide) rfl 2 (by decide) (hts _ (List.mem_cons_of_mem _ kw_309)) (fun _ h9 => h9) dX3_write_1 (by decide) h (fun z2 h => ?_)
  refine r_sipush hx hb dX3_write_4 (by decide) h (fun z4 h => ?_)
  refine r_icmp_ge (tgt := 30) hx hb dX3_write_7 (by decide) h (fun h => ?_) (fun h => ?_)
  · exact r_vret hx hb hr hlocks hP hS dX3_write_30 h
  · refine lv_aload_n hx hb dX3_write_10 rfl (lv_at hl 0 rfl) ?_
    refine r_getr (C := RX3) (T := TX3) (N := 9) hx hb hts (fun w h => List.mem_cons_of_mem _ (iX3 w h)) hown hK hP rfl (by decide) rfl 1 (by decide) (hts _ (List.mem_cons_of_mem _ kw_308)) (fun _ h9 => h9) dX3_write_11 (by decide) h (fun x6 h => ?_)
    refine lv_aload_n hx hb dX3_write_14 rfl (lv_at hl 0 rfl) ?_
    refine r_geti (C := RX3) (T := TX3) (N := 9) hx hb hts (fun w h => List.mem_cons_of_mem _ (iX3 w h)) hown hK hP rfl (by decide) rfl 2 (by decide) (hts _ (List.mem_cons_of_mem _ kw_309)) (fun _ h9 => h9) dX3_write_15 (by decide) h (fun z8 h => ?_)
    refine lv_iload_n hx hb dX3_write_18 rfl (lv_at hl 1 rfl) ?_
    refine r_iast hx hb hK hP hS dX3_write_19 h (fun M9 H locs h hP hS => ?_)
    refine lv_aload_n hx hb dX3_write_20 rfl (lv_at hl 0 rfl) ?_
    refine lv_dup hx hb dX3_write_21 rfl ?_
    refine r_geti (C := RX3) (T := TX3) (N := 9) hx hb hts (fun w h => List.mem_cons_of_mem _ (iX3 w h)) hown hK hP rfl (by decide) rfl 2 (by decide) (hts _ (List.mem_cons_of_mem _ kw_309)) (fun _ h9 => h9) dX3_write_22 (by decide) h (fun z11 h => ?_)
    refine r_iconst hx hb dX3_write_25 (by decide) h (fun z13 h => ?_)
    refine r_iadd hx hb dX3_write_26 h (fun z15 h => ?_)
    refine r_puti (C := RX3) (T := TX3) (N := 9) hx hb hts (fun w h => List.mem_cons_of_mem _ (iX3 w h)) hown hK hP tyX3 tyX3_ok nmX3 hS rfl (by decide) rfl 2 (by decide) (hts _ (List.mem_cons_of_mem _ kw_309)) (fun _ h9 => h9) rfl (tyX3_ok 2 (by decide)) rfl rfl dX3_write_27 (by decide) h (fun M16 H locs h hP hS => ?_)
    exact r_vret hx hb hr hlocks hP hS dX3_write_30 h
/-! TurningMilk$RuleReader.readValue()Z -/
abbrev RM_X3_readValue : Room := { frames := 8, cells := 0, slots := 0, locals := 325 }
def cw_X3_readValue : Cond := Cond.code yX3_readValue cX3_readValue 2 (Option.some FieldType.boolean)
theorem hd_X3_readValue : yX3_readValue.cls ≠ "java/lang/invoke/MethodHandle" ∧ yX3_readValue.cls ≠ "java/lang/invoke/VarHandle" ∧ (parseMethodDescriptor yX3_readValue.desc).map (fun d => d.parameters.length) = some 0 := by decide +kernel
theorem dX3_readValue_0 : decode cX3_readValue 0 = .ok (.aload_n 0, 1) := by decide +kernel
theorem dX3_readValue_1 : decode cX3_readValue 1 = .ok (.getfield 18, 3) := by decide +kernel
theorem dX3_readValue_4 : decode cX3_readValue 4 = .ok (.invokevirtual 94, 3) := by decide +kernel
theorem dX3_readValue_7 : decode cX3_readValue 7 = .ok (.ifCond .eq 16, 3) := by decide +kernel
theorem dX3_readValue_10 : decode cX3_readValue 10 = .ok (.aload_n 0, 1) := by decide +kernel
theorem dX3_readValue_11 : decode cX3_readValue 11 = .ok (.getfield 18, 3) := by decide +kernel
theorem dX3_readValue_14 : decode cX3_readValue 14 = .ok (.iconst 0, 1) := by decide +kernel
theorem dX3_readValue_15 : decode cX3_readValue 15 = .ok (.ldc 97, 2) := by decide +kernel
theorem dX3_readValue_17 : decode cX3_readValue 17 = .ok (.invokevirtual 98, 3) := by decide +kernel
theorem dX3_readValue_20 : decode cX3_readValue 20 = .ok (.goto 7, 3) := by decide +kernel
theorem dX3_readValue_23 : decode cX3_readValue 23 = .ok (.aload_n 0, 1) := by decide +kernel
theorem dX3_readValue_24 : decode cX3_readValue 24 = .ok (.invokevirtual 102, 3) := by decide +kernel
theorem dX3_readValue_27 : decode cX3_readValue 27 = .ok (.istore_n 1, 1) := by decide +kernel
theorem dX3_readValue_28 : decode cX3_readValue 28 = .ok (.iload_n 1, 1) := by decide +kernel
theorem dX3_readValue_29 : decode cX3_readValue 29 = .ok (.iconst (-1), 1) := by decide +kernel
theorem dX3_readValue_30 : decode cX3_readValue 30 = .ok (.if_icmp .ne 12, 3) := by decide +kernel
theorem dX3_readValue_33 : decode cX3_readValue 33 = .ok (.aload_n 0, 1) := by decide +kernel
theorem dX3_readValue_34 : decode cX3_readValue 34 = .ok (.getfield 18, 3) := by decide +kernel
theorem dX3_readValue_37 : decode cX3_readValue 37 = .ok (.iconst 0, 1) := by decide +kernel
theorem dX3_readValue_38 : decode cX3_readValue 38 = .ok (.invokevirtual 52, 3) := by decide +kernel
theorem dX3_readValue_41 : decode cX3_readValue 41 = .ok (.ireturn, 1) := by decide +kernel
theorem dX3_readValue_42 : decode cX3_readValue 42 = .ok (.aload_n 0, 1) := by decide +kernel
theorem dX3_readValue_43 : decode cX3_readValue 43 = .ok (.getfield 32, 3) := by decide +kernel
theorem dX3_readValue_46 : decode cX3_readValue 46 = .ok (.bipush 60, 2) := by decide +kernel
theorem dX3_readValue_48 : decode cX3_readValue 48 = .ok (.if_icmp .lt 12, 3) := by decide +kernel
theorem dX3_readValue_51 : decode cX3_readValue 51 = .ok (.aload_n 0, 1) := by decide +kernel
theorem dX3_readValue_52 : decode cX3_readValue 52 = .ok (.getfield 18, 3) := by decide +kernel
theorem dX3_readValue_55 : decode cX3_readValue 55 = .ok (.iconst 3, 1) := by decide +kernel
theorem dX3_readValue_56 : decode cX3_readValue 56 = .ok (.invokevirtual 52, 3) := by decide +kernel
theorem dX3_readValue_59 : decode cX3_readValue 59 = .ok (.ireturn, 1) := by decide +kernel
theorem dX3_readValue_60 : decode cX3_readValue 60 = .ok (.aload_n 0, 1) := by decide +kernel
theorem dX3_readValue_61 : decode cX3_readValue 61 = .ok (.dup, 1) := by decide +kernel
theorem dX3_readValue_62 : decode cX3_readValue 62 = .ok (.getfield 32, 3) := by decide +kernel
theorem dX3_readValue_65 : decode cX3_readValue 65 = .ok (.iconst 1, 1) := by decide +kernel
theorem dX3_readValue_66 : decode cX3_readValue 66 = .ok (.iadd, 1) := by decide +kernel
theorem dX3_readValue_67 : decode cX3_readValue 67 = .ok (.putfield 32, 3) := by decide +kernel
theorem dX3_readValue_70 : decode cX3_readValue 70 = .ok (.aload_n 0, 1) := by decide +kernel
theorem dX3_readValue_71 : decode cX3_readValue 71 = .ok (.iload_n 1, 1) := by decide +kernel
theorem dX3_readValue_72 : decode cX3_readValue 72 = .ok (.invokevirtual 88, 3) := by decide +kernel
theorem dX3_readValue_75 : decode cX3_readValue 75 = .ok (.iconst 1, 1) := by decide +kernel
theorem dX3_readValue_76 : decode cX3_readValue 76 = .ok (.ireturn, 1) := by decide +kernel
def wp_X3_readValue_27 (S : Sh) (post : Int → Mm → Prop) (u0 : Int) (t0 : Int) (M : Mm) : Prop := wC (-1) fun v1 => wIf (¬ t0 = v1) (wGet S M u0 3 3 fun v3 => wC 60 fun v5 => wIf (v3 < v5) (wGet S M u0 3 3 fun v7 => wC 1 fun v9 => wA v7 v9 fun v11 => wPut S M u0 3 3 v11 fun M13 => isK S u0 3 ∧ (wp_X3_write S M13 u0 t0 <| fun M14 => wC 1 fun v15 => (v15 = 0 ∨ v15 = 1) ∧ post v15 M14)) (wGetR S M u0 3 0 fun v17 => wC 3 fun v19 => isK S v17 7 ∧ (wp_X7_refuse S M v17 v19 <| fun v22 M21 => (v22 = 0 ∨ v22 = 1) ∧ post v22 M21))) (wGetR S M u0 3 0 fun v24 => wC 0 fun v26 => isK S v24 7 ∧ (wp_X7_refuse S M v24 v26 <| fun v29 M28 => (v29 = 0 ∨ v29 = 1) ∧ post v29 M28))
def wp_X3_readValue (S : Sh) (M : Mm) (u0 : Int) (post : Int → Mm → Prop) : Prop := wGetR S M u0 3 0 fun v31 => isK S v31 7 ∧ (wp_X7_isAtDigit S M v31 <| fun v34 M33 => wIf (v34 = 0) (isK S u0 3 ∧ (wp_X3_takeValueWord S M33 u0 <| fun v37 M36 => wp_X3_readValue_27 S post u0 v37 M36)) (wGetR S M33 u0 3 0 fun v39 => wC 0 fun v41 => wC 99999 fun v43 => isK S v39 7 ∧ (wp_X7_takeNumber S M33 v39 v41 v43 <| fun v46 M45 => wp_X3_readValue_27 S post u0 v46 M45)))
set_option maxHeartbeats 4000000 in
set_option maxRecDepth 100000 in
theorem t_X3_readValue_27 {p : Program} {l : Launch} {e : Env} {s : State} {m : MethodId} {args : Array Value} {below : List Frame} {meth : Method} {c : Code} {D : va_G} {G : Gt} {S : Sh} {post : Int → Mm → Prop} (C : Cx p s m args meth c D G cX3_readValue 2 (some .boolean) (cw_X3_readValue :: gw) RX3) : ∀ (xl0 : Int) (zs0 : Int32) (M : Mm) (H : Heap) (locs : List Loc) (ls : Array Slot), Wd D G S M H → va_S (aG G) s.heap H locs → lv_has ls 2 [(0, .ref (adr G xl0))] → wp_X3_readValue_27 S post xl0 zs0.toInt M → W p l e RM_X3_readValue s m args below meth c H locs 0 0 (MQ below (QI D G S post) args s 0 0 (aG G)) (F0 m 27 ls [.int zs0]) := by
  obtain ⟨hx, hb, hr, hlocks, hml, hown, hts, hK⟩ := id C
  intro xl0 zs0 M H locs ls hP hS hl h
  unfold wp_X3_readValue_27 at h
  refine lv_istore_n (lv' := [(1, .int zs0), (0, .ref (adr G xl0))]) hx hb dX3_readValue_27 rfl hl (by decide) rfl (fun ls hl => ?_)
  refine lv_iload_n hx hb dX3_readValue_28 rfl (lv_at hl 0 rfl) ?_
  refine r_iconst hx hb dX3_readValue_29 (by decide) h (fun z2 h => ?_)
  refine r_icmp_ne (tgt := 42) hx hb dX3_readValue_30 (by decide) h (fun h => ?_) (fun h => ?_)
  · refine lv_aload_n hx hb dX3_readValue_42 rfl (lv_at hl 1 rfl) ?_
    refine r_geti (C := RX3) (T := TX3) (N := 9) hx hb hts (fun w h => List.mem_cons_of_mem _ (iX3 w h)) hown hK hP rfl (by decide) rfl 3 (by decide) (hts _ (List.mem_cons_of_mem _ kw_310)) (fun _ h9 => h9) dX3_readValue_43 (by decide) h (fun z4 h => ?_)
    refine r_bipush hx hb dX3_readValue_46 (by decide) h (fun z6 h => ?_)
    refine r_icmp_lt (tgt := 60) hx hb dX3_readValue_48 (by decide) h (fun h => ?_) (fun h => ?_)
    · refine lv_aload_n hx hb dX3_readValue_60 rfl (lv_at hl 1 rfl) ?_
      refine lv_dup hx hb dX3_readValue_61 rfl ?_
      refine r_geti (C := RX3) (T := TX3) (N := 9) hx hb hts (fun w h => List.mem_cons_of_mem _ (iX3 w h)) hown hK hP rfl (by decide) rfl 3 (by decide) (hts _ (List.mem_cons_of_mem _ kw_310)) (fun _ h9 => h9) dX3_readValue_62 (by decide) h (fun z8 h => ?_)
      refine r_iconst hx hb dX3_readValue_65 (by decide) h (fun z10 h => ?_)
      refine r_iadd hx hb dX3_readValue_66 h (fun z12 h => ?_)
      refine r_puti (C := RX3) (T := TX3) (N := 9) hx hb hts (fun w h => List.mem_cons_of_mem _ (iX3 w h)) hown hK hP tyX3 tyX3_ok nmX3 hS rfl (by decide) rfl 3 (by decide) (hts _ (List.mem_cons_of_mem _ kw_310)) (fun _ h9 => h9) rfl (tyX3_ok 3 (by decide)) rfl rfl dX3_readValue_67 (by decide) h (fun M13 H locs h hP hS => ?_)
      refine lv_aload_n hx hb dX3_readValue_70 rfl (lv_at hl 1 rfl) ?_
      refine lv_iload_n hx hb dX3_readValue_71 rfl (lv_at hl 0 rfl) ?_
      refine q_Vv hx hb hml hown hts hK hP hS (c_X3_write l D G S _ xl0 zs0 _ h.2) ⟨callB_of 1 hts (gw_good kw_783) rfl rfl rfl (hts _ (List.mem_cons_of_mem _ kw_8)) (hts _ (List.mem_cons_of_mem _ kw_780)) hd_X3_write ⟨Nat.le_of_ble_eq_true rfl, Nat.le_of_ble_eq_true rfl⟩, (hts _ (List.mem_cons_of_mem _ kw_782)), (hts _ (List.mem_cons_of_mem _ kp_14))⟩ h.1 (ci := 3) rfl (by decide) rfl hl.1 rfl (lv_room (Nat.le_of_ble_eq_true rfl)) dX3_readValue_72 ⟨Nat.zero_le _, Nat.zero_le _⟩ (fun M14 H locs h hP hS => ?_)
      refine r_iconst hx hb dX3_readValue_75 (by decide) h (fun z16 h => ?_)
      exact r_zret hx hb hr hlocks hP hS dX3_readValue_76 h
    · refine lv_aload_n hx hb dX3_readValue_51 rfl (lv_at hl 1 rfl) ?_
      refine r_getr (C := RX3) (T := TX3) (N := 9) hx hb hts (fun w h => List.mem_cons_of_mem _ (iX3 w h)) hown hK hP rfl (by decide) rfl 0 (by decide) (hts _ (List.mem_cons_of_mem _ kw_307)) (fun _ h9 => h9) dX3_readValue_52 (by decide) h (fun x18 h => ?_)
      refine r_iconst hx hb dX3_readValue_55 (by decide) h (fun z20 h => ?_)
      refine q_Vi hx hb hml hown hts hK hP hS (c_X7_refuse l D G S _ x18 z20 _ h.2) ⟨callB_of 1 hts (gw_good kw_657) rfl rfl rfl (hts _ (List.mem_cons_of_mem _ kw_2)) (hts _ (List.mem_cons_of_mem _ kw_752)) hd_X7_refuse ⟨Nat.le_of_ble_eq_true rfl, Nat.le_of_ble_eq_true rfl⟩, (hts _ (List.mem_cons_of_mem _ kw_655)), (hts _ (List.mem_cons_of_mem _ kw_656))⟩ h.1 (ci := 7) rfl (by decide) rfl hl.1 rfl (lv_room (Nat.le_of_ble_eq_true rfl)) dX3_readValue_56 ⟨Nat.zero_le _, Nat.zero_le _⟩ (fun z23 M21 H locs h hP hS => ?_)
      exact r_zret hx hb hr hlocks hP hS dX3_readValue_59 h
  · refine lv_aload_n hx hb dX3_readValue_33 rfl (lv_at hl 1 rfl) ?_
    refine r_getr (C := RX3) (T := TX3) (N := 9) hx hb hts (fun w h => List.mem_cons_of_mem _ (iX3 w h)) hown hK hP rfl (by decide) rfl 0 (by decide) (hts _ (List.mem_cons_of_mem _ kw_307)) (fun _ h9 => h9) dX3_readValue_34 (by decide) h (fun x25 h => ?_)
    refine r_iconst hx hb dX3_readValue_37 (by decide) h (fun z27 h => ?_)
    refine q_Vi hx hb hml hown hts hK hP hS (c_X7_refuse l D G S _ x25 z27 _ h.2) ⟨callB_of 1 hts (gw_good kw_657) rfl rfl rfl (hts _ (List.mem_cons_of_mem _ kw_2)) (hts _ (List.mem_cons_of_mem _ kw_752)) hd_X7_refuse ⟨Nat.le_of_ble_eq_true rfl, Nat.le_of_ble_eq_true rfl⟩, (hts _ (List.mem_cons_of_mem _ kw_655)), (hts _ (List.mem_cons_of_mem _ kw_656))⟩ h.1 (ci := 7) rfl (by decide) rfl hl.1 rfl (lv_room (Nat.le_of_ble_eq_true rfl)) dX3_readValue_38 ⟨Nat.zero_le _, Nat.zero_le _⟩ (fun z30 M28 H locs h hP hS => ?_)
    exact r_zret hx hb hr hlocks hP hS dX3_readValue_41 h
set_option maxHeartbeats 4000000 in
set_option maxRecDepth 100000 in
theorem c_X3_readValue (l : Launch) (D : va_G) (G : Gt) (S : Sh) (M : Mm) (xl0 : Int) (post : Int → Mm → Prop) (h : wp_X3_readValue S M xl0 post) : Met l yX3_readValue (cw_X3_readValue :: gw) RM_X3_readValue (va_Pc [.ref (adr G xl0)] (fun U => KN D G U ∧ Wd D G S M U.heap)) (QI D G S post) 0 0 (aG G) := by
  refine Met.ofW (cc := cX3_readValue) (maxL := 2) (ret := (some .boolean)) (by decide) rfl ?_
  intro p e s m args below meth c s₁ B hml hv
  obtain ⟨rfl, hK, hP⟩ := hv
  have hx := B.exec
  have hb := B.bytes
  have hr := B.returns
  have hts := atoms_spec (ws := cw_X3_readValue :: gw) B.pre
  have hown : s.vm.findClass RX3 = some m.cls := findClass_of_methodNamed B.named
  have hlocks := B.notSynchronized
  have hS : va_S (aG G) s.heap s.heap [] := va_S.rf
  have C : Cx p s m ([.ref (adr G xl0)] : List Value).toArray meth c D G cX3_readValue 2 (some .boolean) (cw_X3_readValue :: gw) RX3 := ⟨hx, hb, hr, hlocks, hml, hown, hts, hK⟩
  have hl := lv_entry ([.ref (adr G xl0)]) (n := 2) (Nat.le_of_ble_eq_true rfl)
  rw [lg_entry_eq]
  generalize (lg_sl ([.ref (adr G xl0)]) ++ List.replicate (2 - (lg_sl ([.ref (adr G xl0)])).length) Slot.unset).toArray = ls at hl ⊢
  have hl : lv_has ls 2 [(0, .ref (adr G xl0))] := hl
  unfold wp_X3_readValue at h
  refine lv_aload_n hx hb dX3_readValue_0 rfl (lv_at hl 0 rfl) ?_
  refine r_getr (C := RX3) (T := TX3) (N := 9) hx hb hts (fun w h => List.mem_cons_of_mem _ (iX3 w h)) hown hK hP rfl (by decide) rfl 0 (by decide) (hts _ (List.mem_cons_of_mem _ kw_307)) (fun _ h9 => h9) dX3_readValue_1 (by decide) h (fun x32 h => ?_)
  refine q_Vi hx hb hml hown hts hK hP hS (c_X7_isAtDigit l D G S _ x32 _ h.2) ⟨callB_of 0 hts (gw_good kw_760) rfl rfl rfl (hts _ (List.mem_cons_of_mem _ kw_2)) (hts _ (List.mem_cons_of_mem _ kw_757)) hd_X7_isAtDigit ⟨Nat.le_of_ble_eq_true rfl, Nat.le_of_ble_eq_true rfl⟩, (hts _ (List.mem_cons_of_mem _ kw_758)), (hts _ (List.mem_cons_of_mem _ kw_759))⟩ h.1 (ci := 7) rfl (by decide) rfl hl.1 rfl (lv_room (Nat.le_of_ble_eq_true rfl)) dX3_readValue_4 ⟨Nat.zero_le _, Nat.zero_le _⟩ (fun z35 M33 H locs h hP hS => ?_)
  refine r_if_eq (tgt := 23) hx hb dX3_readValue_7 (by decide) h (fun h => ?_) (fun h => ?_)
  · refine lv_aload_n hx hb dX3_readValue_23 rfl (lv_at hl 0 rfl) ?_
    refine q_Vi hx hb hml hown hts hK hP hS (c_X3_takeValueWord l D G S _ xl0 _ h.2) ⟨callB_of 0 hts (gw_good kw_766) rfl rfl rfl (hts _ (List.mem_cons_of_mem _ kw_8)) (hts _ (List.mem_cons_of_mem _ kw_763)) hd_X3_takeValueWord ⟨Nat.le_of_ble_eq_true rfl, Nat.le_of_ble_eq_true rfl⟩, (hts _ (List.mem_cons_of_mem _ kw_765)), (hts _ (List.mem_cons_of_mem _ kp_13))⟩ h.1 (ci := 3) rfl (by decide) rfl hl.1 rfl (lv_room (Nat.le_of_ble_eq_true rfl)) dX3_readValue_24 ⟨Nat.zero_le _, Nat.zero_le _⟩ (fun z38 M36 H locs h hP hS => ?_)
    exact t_X3_readValue_27 C xl0 z38 _ _ _ _ hP hS (lv_sub hl [0] rfl) h
  · refine lv_aload_n hx hb dX3_readValue_10 rfl (lv_at hl 0 rfl) ?_
    refine r_getr (C := RX3) (T := TX3) (N := 9) hx hb hts (fun w h => List.mem_cons_of_mem _ (iX3 w h)) hown hK hP rfl (by decide) rfl 0 (by decide) (hts _ (List.mem_cons_of_mem _ kw_307)) (fun _ h9 => h9) dX3_readValue_11 (by decide) h (fun x40 h => ?_)
    refine r_iconst hx hb dX3_readValue_14 (by decide) h (fun z42 h => ?_)
    refine r_ldc hx hb hown (hts _ (List.mem_cons_of_mem _ kw_761)) dX3_readValue_15 (n := 99999) (by decide) h (fun z44 h => ?_)
    refine q_Vi hx hb hml hown hts hK hP hS (c_X7_takeNumber l D G S _ x40 z42 z44 _ h.2) ⟨callB_of 2 hts (gw_good kw_669) rfl rfl rfl (hts _ (List.mem_cons_of_mem _ kw_2)) (hts _ (List.mem_cons_of_mem _ kw_762)) hd_X7_takeNumber ⟨Nat.le_of_ble_eq_true rfl, Nat.le_of_ble_eq_true rfl⟩, (hts _ (List.mem_cons_of_mem _ kw_667)), (hts _ (List.mem_cons_of_mem _ kw_668))⟩ h.1 (ci := 7) rfl (by decide) rfl hl.1 rfl (lv_room (Nat.le_of_ble_eq_true rfl)) dX3_readValue_17 ⟨Nat.zero_le _, Nat.zero_le _⟩ (fun z47 M45 H locs h hP hS => ?_)
    refine lv_goto (tgt := 27) hx hb dX3_readValue_20 (by decide) ?_
    exact t_X3_readValue_27 C xl0 z47 _ _ _ _ hP hS (lv_sub hl [0] rfl) h
/-! TurningMilk$RuleReader.isFactWhole()Z -/
abbrev RM_X3_isFactWhole : Room := { frames := 1, cells := 0, slots := 0, locals := 40 }
def cw_X3_isFactWhole : Cond := Cond.code yX3_isFactWhole cX3_isFactWhole 1 (Option.some FieldType.boolean)
theorem hd_X3_isFactWhole : yX3_isFactWhole.cls ≠ "java/lang/invoke/MethodHandle" ∧ yX3_isFactWhole.cls ≠ "java/lang/invoke/VarHandle" ∧ (parseMethodDescriptor yX3_isFactWhole.desc).map (fun d => d.parameters.length) = some 0 := by decide +kernel
theorem dX3_isFactWhole_0 : decode cX3_isFactWhole 0 = .ok (.aload_n 0, 1) := by decide +kernel
theorem dX3_isFactWhole_1 : decode cX3_isFactWhole 1 = .ok (.getfield 70, 3) := by decide +kernel
theorem dX3_isFactWhole_4 : decode cX3_isFactWhole 4 = .ok (.iconst 2, 1) := by decide +kernel
theorem dX3_isFactWhole_5 : decode cX3_isFactWhole 5 = .ok (.if_icmp .eq 11, 3) := by decide +kernel
theorem dX3_isFactWhole_8 : decode cX3_isFactWhole 8 = .ok (.aload_n 0, 1) := by decide +kernel
theorem dX3_isFactWhole_9 : decode cX3_isFactWhole 9 = .ok (.getfield 70, 3) := by decide +kernel
theorem dX3_isFactWhole_12 : decode cX3_isFactWhole 12 = .ok (.iconst 3, 1) := by decide +kernel
theorem dX3_isFactWhole_13 : decode cX3_isFactWhole 13 = .ok (.if_icmp .ne 7, 3) := by decide +kernel
theorem dX3_isFactWhole_16 : decode cX3_isFactWhole 16 = .ok (.iconst 1, 1) := by decide +kernel
theorem dX3_isFactWhole_17 : decode cX3_isFactWhole 17 = .ok (.goto 4, 3) := by decide +kernel
theorem dX3_isFactWhole_20 : decode cX3_isFactWhole 20 = .ok (.iconst 0, 1) := by decide +kernel
theorem dX3_isFactWhole_21 : decode cX3_isFactWhole 21 = .ok (.ireturn, 1) := by decide +kernel
def wp_X3_isFactWhole_16 (S : Sh) (post : Int → Mm → Prop) (M : Mm) : Prop := wC 1 fun v1 => (v1 = 0 ∨ v1 = 1) ∧ post v1 M
def wp_X3_isFactWhole (S : Sh) (M : Mm) (u0 : Int) (post : Int → Mm → Prop) : Prop := wGet S M u0 3 8 fun v3 => wC 2 fun v5 => wIf (v3 = v5) (wp_X3_isFactWhole_16 S post M) (wGet S M u0 3 8 fun v7 => wC 3 fun v9 => wIf (¬ v7 = v9) (wC 0 fun v11 => (v11 = 0 ∨ v11 = 1) ∧ post v11 M) (wp_X3_isFactWhole_16 S post M))
set_option maxHeartbeats 4000000 in
set_option maxRecDepth 100000 in
theorem t_X3_isFactWhole_16 {p : Program} {l : Launch} {e : Env} {s : State} {m : MethodId} {args : Array Value} {below : List Frame} {meth : Method} {c : Code} {D : va_G} {G : Gt} {S : Sh} {post : Int → Mm → Prop} (C : Cx p s m args meth c D G cX3_isFactWhole 1 (some .boolean) (cw_X3_isFactWhole :: gw) RX3) : ∀ (M : Mm) (H : Heap) (locs : List Loc) (ls : Array Slot), Wd D G S M H → va_S (aG G) s.heap H locs → lv_has ls 1 [] → wp_X3_isFactWhole_16 S post  M → W p l e RM_X3_isFactWhole s m args below meth c H locs 0 0 (MQ below (QI D G S post) args s 0 0 (aG G)) (F0 m 16 ls []) := by
  obtain ⟨hx, hb, hr, hlocks, hml, hown, hts, hK⟩ := id C
  intro  M H locs ls hP hS hl h
  unfold wp_X3_isFactWhole_16 at h
  refine r_iconst hx hb dX3_isFactWhole_16 (by decide) h (fun z2 h => ?_)
  refine lv_goto (tgt := 21) hx hb dX3_isFactWhole_17 (by decide) ?_
  exact r_zret hx hb hr hlocks hP hS dX3_isFactWhole_21 h
set_option maxHeartbeats 4000000 in
set_option maxRecDepth 100000 in
theorem c_X3_isFactWhole (l : Launch) (D : va_G) (G : Gt) (S : Sh) (M : Mm) (xl0 : Int) (post : Int → Mm → Prop) (h : wp_X3_isFactWhole S M xl0 post) : Met l yX3_isFactWhole (cw_X3_isFactWhole :: gw) RM_X3_isFactWhole (va_Pc [.ref (adr G xl0)] (fun U => KN D G U ∧ Wd D G S M U.heap)) (QI D G S post) 0 0 (aG G) := by
  refine Met.ofW (cc := cX3_isFactWhole) (maxL := 1) (ret := (some .boolean)) (by decide) rfl ?_
  intro p e s m args below meth c s₁ B hml hv
  obtain ⟨rfl, hK, hP⟩ := hv
  have hx := B.exec
  have hb := B.bytes
  have hr := B.returns
  have hts := atoms_spec (ws := cw_X3_isFactWhole :: gw) B.pre
  have hown : s.vm.findClass RX3 = some m.cls := findClass_of_methodNamed B.named
  have hlocks := B.notSynchronized
  have hS : va_S (aG G) s.heap s.heap [] := va_S.rf
  have C : Cx p s m ([.ref (adr G xl0)] : List Value).toArray meth c D G cX3_isFactWhole 1 (some .boolean) (cw_X3_isFactWhole :: gw) RX3 := ⟨hx, hb, hr, hlocks, hml, hown, hts, hK⟩
  have hl := lv_entry ([.ref (adr G xl0)]) (n := 1) (Nat.le_of_ble_eq_true rfl)
  rw [lg_entry_eq]
  generalize (lg_sl ([.ref (adr G xl0)]) ++ List.replicate (1 - (lg_sl ([.ref (adr G xl0)])).length) Slot.unset).toArray = ls at hl ⊢
  have hl : lv_has ls 1 [(0, .ref (adr G xl0))] := hl
  unfold wp_X3_isFactWhole at h
  refine lv_aload_n hx hb dX3_isFactWhole_0 rfl (lv_at hl 0 rfl) ?_
  refine r_geti (C := RX3) (T := TX3) (N := 9) hx hb hts (fun w h => List.mem_cons_of_mem _ (iX3 w h)) hown hK hP rfl (by decide) rfl 8 (by decide) (hts _ (List.mem_cons_of_mem _ kw_315)) (fun _ h9 => h9) dX3_isFactWhole_1 (by decide) h (fun z4 h => ?_)
  refine r_iconst hx hb dX3_isFactWhole_4 (by decide) h (fun z6 h => ?_)
  refine r_icmp_eq (tgt := 16) hx hb dX3_isFactWhole_5 (by decide) h (fun h => ?_) (fun h => ?_)
  · exact t_X3_isFactWhole_16 C _ _ _ _ hP hS (lv_sub hl [] rfl) h
  · refine lv_aload_n hx hb dX3_isFactWhole_8 rfl (lv_at hl 0 rfl) ?_
    refine r_geti (C := RX3) (T := TX3) (N := 9) hx hb hts (fun w h => List.mem_cons_of_mem _ (iX3 w h)) hown hK hP rfl (by decide) rfl 8 (by decide) (hts _ (List.mem_cons_of_mem _ kw_315)) (fun _ h9 => h9) dX3_isFactWhole_9 (by decide) h (fun z8 h => ?_)
    refine r_iconst hx hb dX3_isFactWhole_12 (by decide) h (fun z10 h => ?_)
    refine r_icmp_ne (tgt := 20) hx hb dX3_isFactWhole_13 (by decide) h (fun h => ?_) (fun h => ?_)
    · refine r_iconst hx hb dX3_isFactWhole_20 (by decide) h (fun z12 h => ?_)
      exact r_zret hx hb hr hlocks hP hS dX3_isFactWhole_21 h
    · exact t_X3_isFactWhole_16 C _ _ _ _ hP hS (lv_sub hl [] rfl) h
/-! TurningMilk$RuleReader.bindingOf(I)I -/
abbrev RM_X3_bindingOf : Room := { frames := 1, cells := 0, slots := 0, locals := 40 }
def cw_X3_bindingOf : Cond := Cond.code yX3_bindingOf cX3_bindingOf 1 (Option.some FieldType.int)
theorem hd_X3_bindingOf : yX3_bindingOf.cls ≠ "java/lang/invoke/MethodHandle" ∧ yX3_bindingOf.cls ≠ "java/lang/invoke/VarHandle" ∧ (parseMethodDescriptor yX3_bindingOf.desc).map (fun d => d.parameters.length) = some 1 := by decide +kernel
theorem dX3_bindingOf_0 : decode cX3_bindingOf 0 = .ok (.iload_n 0, 1) := by decide +kernel
theorem dX3_bindingOf_1 : decode cX3_bindingOf 1 = .ok (.tableswitch 78 (-24) (-12) #[76, 74, 72, 78, 78, 78, 78, 78, 70, 70, 67, 67, 67], 67) := by decide +kernel
theorem dX3_bindingOf_68 : decode cX3_bindingOf 68 = .ok (.bipush 6, 2) := by decide +kernel
theorem dX3_bindingOf_70 : decode cX3_bindingOf 70 = .ok (.ireturn, 1) := by decide +kernel
theorem dX3_bindingOf_71 : decode cX3_bindingOf 71 = .ok (.iconst 5, 1) := by decide +kernel
theorem dX3_bindingOf_72 : decode cX3_bindingOf 72 = .ok (.ireturn, 1) := by decide +kernel
theorem dX3_bindingOf_73 : decode cX3_bindingOf 73 = .ok (.iconst 3, 1) := by decide +kernel
theorem dX3_bindingOf_74 : decode cX3_bindingOf 74 = .ok (.ireturn, 1) := by decide +kernel
theorem dX3_bindingOf_75 : decode cX3_bindingOf 75 = .ok (.iconst 2, 1) := by decide +kernel
theorem dX3_bindingOf_76 : decode cX3_bindingOf 76 = .ok (.ireturn, 1) := by decide +kernel
theorem dX3_bindingOf_77 : decode cX3_bindingOf 77 = .ok (.iconst 1, 1) := by decide +kernel
theorem dX3_bindingOf_78 : decode cX3_bindingOf 78 = .ok (.ireturn, 1) := by decide +kernel
theorem dX3_bindingOf_79 : decode cX3_bindingOf 79 = .ok (.iconst 4, 1) := by decide +kernel
theorem dX3_bindingOf_80 : decode cX3_bindingOf 80 = .ok (.ireturn, 1) := by decide +kernel
def wp_X3_bindingOf (S : Sh) (M : Mm) (u0 : Int) (post : Int → Mm → Prop) : Prop := wIf (u0 = (-24)) (wC 1 fun v1 => post v1 M) (wIf (u0 = (-23)) (wC 2 fun v3 => post v3 M) (wIf (u0 = (-22)) (wC 3 fun v5 => post v5 M) (wIf (u0 = (-21)) (wC 4 fun v7 => post v7 M) (wIf (u0 = (-20)) (wC 4 fun v9 => post v9 M) (wIf (u0 = (-19)) (wC 4 fun v11 => post v11 M) (wIf (u0 = (-18)) (wC 4 fun v13 => post v13 M) (wIf (u0 = (-17)) (wC 4 fun v15 => post v15 M) (wIf (u0 = (-16)) (wC 5 fun v17 => post v17 M) (wIf (u0 = (-15)) (wC 5 fun v19 => post v19 M) (wIf (u0 = (-14)) (wC 6 fun v21 => post v21 M) (wIf (u0 = (-13)) (wC 6 fun v23 => post v23 M) (wIf (u0 = (-12)) (wC 6 fun v25 => post v25 M) (wC 4 fun v27 => post v27 M)))))))))))))
set_option maxHeartbeats 4000000 in
set_option maxRecDepth 100000 in
theorem c_X3_bindingOf (l : Launch) (D : va_G) (G : Gt) (S : Sh) (M : Mm) (zl0 : Int32) (post : Int → Mm → Prop) (h : wp_X3_bindingOf S M zl0.toInt post) : Met l yX3_bindingOf (cw_X3_bindingOf :: gw) RM_X3_bindingOf (va_Pc [.int zl0] (fun U => KN D G U ∧ Wd D G S M U.heap)) (QI D G S post) 0 0 (aG G) := by
  refine Met.ofW (cc := cX3_bindingOf) (maxL := 1) (ret := (some .int)) (by decide) rfl ?_
  intro p e s m args below meth c s₁ B hml hv
  obtain ⟨rfl, hK, hP⟩ := hv
  have hx := B.exec
  have hb := B.bytes
  have hr := B.returns
  have hts := atoms_spec (ws := cw_X3_bindingOf :: gw) B.pre
  have hown : s.vm.findClass RX3 = some m.cls := findClass_of_methodNamed B.named
  have hlocks := B.notSynchronized
  have hS : va_S (aG G) s.heap s.heap [] := va_S.rf
  have C : Cx p s m ([.int zl0] : List Value).toArray meth c D G cX3_bindingOf 1 (some .int) (cw_X3_bindingOf :: gw) RX3 := ⟨hx, hb, hr, hlocks, hml, hown, hts, hK⟩
  have hl := lv_entry ([.int zl0]) (n := 1) (Nat.le_of_ble_eq_true rfl)
  rw [lg_entry_eq]
  generalize (lg_sl ([.int zl0]) ++ List.replicate (1 - (lg_sl ([.int zl0])).length) Slot.unset).toArray = ls at hl ⊢
  have hl : lv_has ls 1 [(0, .int zl0)] := hl
  unfold wp_X3_bindingOf at h
  refine lv_iload_n hx hb dX3_bindingOf_0 rfl (lv_at hl 0 rfl) ?_
  refine sw (c := zl0.toInt = (-24)) h (fun e0 h => ?_) (fun e0 h => ?_)
  · refine lv_tableIn (tgt := 77) hx hb dX3_bindingOf_1 (by omega) (by omega) (by rw [e0]; rfl) (by decide) ?_
    refine r_iconst hx hb dX3_bindingOf_77 (by decide) h (fun z2 h => ?_)
    exact r_iret hx hb hr hlocks hP hS dX3_bindingOf_78 h
  · refine sw (c := zl0.toInt = (-23)) h (fun e1 h => ?_) (fun e1 h => ?_)
    · refine lv_tableIn (tgt := 75) hx hb dX3_bindingOf_1 (by omega) (by omega) (by rw [e1]; rfl) (by decide) ?_
      refine r_iconst hx hb dX3_bindingOf_75 (by decide) h (fun z4 h => ?_)
      exact r_iret hx hb hr hlocks hP hS dX3_bindingOf_76 h
    · refine sw (c := zl0.toInt = (-22)) h (fun e2 h => ?_) (fun e2 h => ?_)
      · refine lv_tableIn (tgt := 73) hx hb dX3_bindingOf_1 (by omega) (by omega) (by rw [e2]; rfl) (by decide) ?_
        refine r_iconst hx hb dX3_bindingOf_73 (by decide) h (fun z6 h => ?_)
        exact r_iret hx hb hr hlocks hP hS dX3_bindingOf_74 h
      · refine sw (c := zl0.toInt = (-21)) h (fun e3 h => ?_) (fun e3 h => ?_)
        · refine lv_tableIn (tgt := 79) hx hb dX3_bindingOf_1 (by omega) (by omega) (by rw [e3]; rfl) (by decide) ?_
          refine r_iconst hx hb dX3_bindingOf_79 (by decide) h (fun z8 h => ?_)
          exact r_iret hx hb hr hlocks hP hS dX3_bindingOf_80 h
        · refine sw (c := zl0.toInt = (-20)) h (fun e4 h => ?_) (fun e4 h => ?_)
          · refine lv_tableIn (tgt := 79) hx hb dX3_bindingOf_1 (by omega) (by omega) (by rw [e4]; rfl) (by decide) ?_
            refine r_iconst hx hb dX3_bindingOf_79 (by decide) h (fun z10 h => ?_)
            exact r_iret hx hb hr hlocks hP hS dX3_bindingOf_80 h
          · refine sw (c := zl0.toInt = (-19)) h (fun e5 h => ?_) (fun e5 h => ?_)
            · refine lv_tableIn (tgt := 79) hx hb dX3_bindingOf_1 (by omega) (by omega) (by rw [e5]; rfl) (by decide) ?_
              refine r_iconst hx hb dX3_bindingOf_79 (by decide) h (fun z12 h => ?_)
              exact r_iret hx hb hr hlocks hP hS dX3_bindingOf_80 h
            · refine sw (c := zl0.toInt = (-18)) h (fun e6 h => ?_) (fun e6 h => ?_)
              · refine lv_tableIn (tgt := 79) hx hb dX3_bindingOf_1 (by omega) (by omega) (by rw [e6]; rfl) (by decide) ?_
                refine r_iconst hx hb dX3_bindingOf_79 (by decide) h (fun z14 h => ?_)
                exact r_iret hx hb hr hlocks hP hS dX3_bindingOf_80 h
              · refine sw (c := zl0.toInt = (-17)) h (fun e7 h => ?_) (fun e7 h => ?_)
                · refine lv_tableIn (tgt := 79) hx hb dX3_bindingOf_1 (by omega) (by omega) (by rw [e7]; rfl) (by decide) ?_
                  refine r_iconst hx hb dX3_bindingOf_79 (by decide) h (fun z16 h => ?_)
                  exact r_iret hx hb hr hlocks hP hS dX3_bindingOf_80 h
                · refine sw (c := zl0.toInt = (-16)) h (fun e8 h => ?_) (fun e8 h => ?_)
                  · refine lv_tableIn (tgt := 71) hx hb dX3_bindingOf_1 (by omega) (by omega) (by rw [e8]; rfl) (by decide) ?_
                    refine r_iconst hx hb dX3_bindingOf_71 (by decide) h (fun z18 h => ?_)
                    exact r_iret hx hb hr hlocks hP hS dX3_bindingOf_72 h
                  · refine sw (c := zl0.toInt = (-15)) h (fun e9 h => ?_) (fun e9 h => ?_)
                    · refine lv_tableIn (tgt := 71) hx hb dX3_bindingOf_1 (by omega) (by omega) (by rw [e9]; rfl) (by decide) ?_
                      refine r_iconst hx hb dX3_bindingOf_71 (by decide) h (fun z20 h => ?_)
                      exact r_iret hx hb hr hlocks hP hS dX3_bindingOf_72 h
                    · refine sw (c := zl0.toInt = (-14)) h (fun e10 h => ?_) (fun e10 h => ?_)
                      · refine lv_tableIn (tgt := 68) hx hb dX3_bindingOf_1 (by omega) (by omega) (by rw [e10]; rfl) (by decide) ?_
                        refine r_bipush hx hb dX3_bindingOf_68 (by decide) h (fun z22 h => ?_)
                        exact r_iret hx hb hr hlocks hP hS dX3_bindingOf_70 h
                      · refine sw (c := zl0.toInt = (-13)) h (fun e11 h => ?_) (fun e11 h => ?_)
                        · refine lv_tableIn (tgt := 68) hx hb dX3_bindingOf_1 (by omega) (by omega) (by rw [e11]; rfl) (by decide) ?_
                          refine r_bipush hx hb dX3_bindingOf_68 (by decide) h (fun z24 h => ?_)
                          exact r_iret hx hb hr hlocks hP hS dX3_bindingOf_70 h
                        · refine sw (c := zl0.toInt = (-12)) h (fun e12 h => ?_) (fun e12 h => ?_)
                          · refine lv_tableIn (tgt := 68) hx hb dX3_bindingOf_1 (by omega) (by omega) (by rw [e12]; rfl) (by decide) ?_
                            refine r_bipush hx hb dX3_bindingOf_68 (by decide) h (fun z26 h => ?_)
                            exact r_iret hx hb hr hlocks hP hS dX3_bindingOf_70 h
                          · refine lv_tableOut (tgt := 79) hx hb dX3_bindingOf_1 (by omega) (by decide) ?_
                            refine r_iconst hx hb dX3_bindingOf_79 (by decide) h (fun z28 h => ?_)
                            exact r_iret hx hb hr hlocks hP hS dX3_bindingOf_80 h
/-! TurningMilk$RuleReader.dropTop()V -/
abbrev RM_X3_dropTop : Room := { frames := 1, cells := 0, slots := 0, locals := 40 }
def cw_X3_dropTop : Cond := Cond.code yX3_dropTop cX3_dropTop 1 (Option.none : Option FieldType)
theorem hd_X3_dropTop : yX3_dropTop.cls ≠ "java/lang/invoke/MethodHandle" ∧ yX3_dropTop.cls ≠ "java/lang/invoke/VarHandle" ∧ (parseMethodDescriptor yX3_dropTop.desc).map (fun d => d.parameters.length) = some 0 := by decide +kernel
theorem dX3_dropTop_0 : decode cX3_dropTop 0 = .ok (.aload_n 0, 1) := by decide +kernel
theorem dX3_dropTop_1 : decode cX3_dropTop 1 = .ok (.getfield 61, 3) := by decide +kernel
theorem dX3_dropTop_4 : decode cX3_dropTop 4 = .ok (.ifCond .le 51, 3) := by decide +kernel
theorem dX3_dropTop_7 : decode cX3_dropTop 7 = .ok (.aload_n 0, 1) := by decide +kernel
theorem dX3_dropTop_8 : decode cX3_dropTop 8 = .ok (.dup, 1) := by decide +kernel
theorem dX3_dropTop_9 : decode cX3_dropTop 9 = .ok (.getfield 61, 3) := by decide +kernel
theorem dX3_dropTop_12 : decode cX3_dropTop 12 = .ok (.iconst 1, 1) := by decide +kernel
theorem dX3_dropTop_13 : decode cX3_dropTop 13 = .ok (.isub, 1) := by decide +kernel
theorem dX3_dropTop_14 : decode cX3_dropTop 14 = .ok (.putfield 61, 3) := by decide +kernel
theorem dX3_dropTop_17 : decode cX3_dropTop 17 = .ok (.aload_n 0, 1) := by decide +kernel
theorem dX3_dropTop_18 : decode cX3_dropTop 18 = .ok (.getfield 15, 3) := by decide +kernel
theorem dX3_dropTop_21 : decode cX3_dropTop 21 = .ok (.aload_n 0, 1) := by decide +kernel
theorem dX3_dropTop_22 : decode cX3_dropTop 22 = .ok (.getfield 61, 3) := by decide +kernel
theorem dX3_dropTop_25 : decode cX3_dropTop 25 = .ok (.iaload, 1) := by decide +kernel
theorem dX3_dropTop_26 : decode cX3_dropTop 26 = .ok (.bipush (-27), 2) := by decide +kernel
theorem dX3_dropTop_28 : decode cX3_dropTop 28 = .ok (.if_icmp .eq 17, 3) := by decide +kernel
theorem dX3_dropTop_31 : decode cX3_dropTop 31 = .ok (.aload_n 0, 1) := by decide +kernel
theorem dX3_dropTop_32 : decode cX3_dropTop 32 = .ok (.getfield 15, 3) := by decide +kernel
theorem dX3_dropTop_35 : decode cX3_dropTop 35 = .ok (.aload_n 0, 1) := by decide +kernel
theorem dX3_dropTop_36 : decode cX3_dropTop 36 = .ok (.getfield 61, 3) := by decide +kernel
theorem dX3_dropTop_39 : decode cX3_dropTop 39 = .ok (.iaload, 1) := by decide +kernel
theorem dX3_dropTop_40 : decode cX3_dropTop 40 = .ok (.bipush (-22), 2) := by decide +kernel
theorem dX3_dropTop_42 : decode cX3_dropTop 42 = .ok (.if_icmp .ne 13, 3) := by decide +kernel
theorem dX3_dropTop_45 : decode cX3_dropTop 45 = .ok (.aload_n 0, 1) := by decide +kernel
theorem dX3_dropTop_46 : decode cX3_dropTop 46 = .ok (.dup, 1) := by decide +kernel
theorem dX3_dropTop_47 : decode cX3_dropTop 47 = .ok (.getfield 64, 3) := by decide +kernel
theorem dX3_dropTop_50 : decode cX3_dropTop 50 = .ok (.iconst 1, 1) := by decide +kernel
theorem dX3_dropTop_51 : decode cX3_dropTop 51 = .ok (.isub, 1) := by decide +kernel
theorem dX3_dropTop_52 : decode cX3_dropTop 52 = .ok (.putfield 64, 3) := by decide +kernel
theorem dX3_dropTop_55 : decode cX3_dropTop 55 = .ok (.return_, 1) := by decide +kernel
def wp_X3_dropTop_45 (S : Sh) (post : Mm → Prop) (u0 : Int) (M : Mm) : Prop := wGet S M u0 3 6 fun v1 => wC 1 fun v3 => wS v1 v3 fun v5 => wPut S M u0 3 6 v5 fun M7 => post M7
def wp_X3_dropTop (S : Sh) (M : Mm) (u0 : Int) (post : Mm → Prop) : Prop := wGet S M u0 3 5 fun v8 => wIf (v8 ≤ 0) (post M) (wGet S M u0 3 5 fun v10 => wC 1 fun v12 => wS v10 v12 fun v14 => wPut S M u0 3 5 v14 fun M16 => wGetR S M16 u0 3 4 fun v17 => wGet S M16 u0 3 5 fun v19 => wLd S M16 v17 14 v19 fun v21 => wC (-27) fun v23 => wIf (v21 = v23) (wp_X3_dropTop_45 S post u0 M16) (wGetR S M16 u0 3 4 fun v25 => wGet S M16 u0 3 5 fun v27 => wLd S M16 v25 14 v27 fun v29 => wC (-22) fun v31 => wIf (¬ v29 = v31) (post M16) (wp_X3_dropTop_45 S post u0 M16)))
set_option maxHeartbeats 4000000 in
set_option maxRecDepth 100000 in
theorem t_X3_dropTop_45 {p : Program} {l : Launch} {e : Env} {s : State} {m : MethodId} {args : Array Value} {below : List Frame} {meth : Method} {c : Code} {D : va_G} {G : Gt} {S : Sh} {post : Mm → Prop} (C : Cx p s m args meth c D G cX3_dropTop 1 none (cw_X3_dropTop :: gw) RX3) : ∀ (xl0 : Int) (M : Mm) (H : Heap) (locs : List Loc) (ls : Array Slot), Wd D G S M H → va_S (aG G) s.heap H locs → lv_has ls 1 [(0, .ref (adr G xl0))] → wp_X3_dropTop_45 S post xl0  M → W p l e RM_X3_dropTop s m args below meth c H locs 0 0 (MQ below (QV D G S post) args s 0 0 (aG G)) (F0 m 45 ls []) := by
  obtain ⟨hx, hb, hr, hlocks, hml, hown, hts, hK⟩ := id C
  intro xl0 M H locs ls hP hS hl h
  unfold wp_X3_dropTop_45 at h
  refine lv_aload_n hx hb dX3_dropTop_45 rfl (lv_at hl 0 rfl) ?_
  refine lv_dup hx hb dX3_dropTop_46 rfl ?_
  refine r_geti (C := RX3) (T := TX3) (N := 9) hx hb hts (fun w h => List.mem_cons_of_mem _ (iX3 w h)) hown hK hP rfl (by decide) rfl 6 (by decide) (hts _ (List.mem_cons_of_mem _ kw_313)) (fun _ h9 => h9) dX3_dropTop_47 (by decide) h (fun z2 h => ?_)
  refine r_iconst hx hb dX3_dropTop_50 (by decide) h (fun z4 h => ?_)
  refine r_isub hx hb dX3_dropTop_51 h (fun z6 h => ?_)
  refine r_puti (C := RX3) (T := TX3) (N := 9) hx hb hts (fun w h => List.mem_cons_of_mem _ (iX3 w h)) hown hK hP tyX3 tyX3_ok nmX3 hS rfl (by decide) rfl 6 (by decide) (hts _ (List.mem_cons_of_mem _ kw_313)) (fun _ h9 => h9) rfl (tyX3_ok 6 (by decide)) rfl rfl dX3_dropTop_52 (by decide) h (fun M7 H locs h hP hS => ?_)
  exact r_vret hx hb hr hlocks hP hS dX3_dropTop_55 h
set_option maxHeartbeats 4000000 in
set_option maxRecDepth 100000 in
theorem c_X3_dropTop (l : Launch) (D : va_G) (G : Gt) (S : Sh) (M : Mm) (xl0 : Int) (post : Mm → Prop) (h : wp_X3_dropTop S M xl0 post) : Met l yX3_dropTop (cw_X3_dropTop :: gw) RM_X3_dropTop (va_Pc [.ref (adr G xl0)] (fun U => KN D G U ∧ Wd D G S M U.heap)) (QV D G S post) 0 0 (aG G) := by
  refine Met.ofW (cc := cX3_dropTop) (maxL := 1) (ret := none) (by decide) rfl ?_
  intro p e s m args below meth c s₁ B hml hv
  obtain ⟨rfl, hK, hP⟩ := hv
  have hx := B.exec
  have hb := B.bytes
  have hr := B.returns
  have hts := atoms_spec (ws := cw_X3_dropTop :: gw) B.pre
  have hown : s.vm.findClass RX3 = some m.cls := findClass_of_methodNamed B.named
  have hlocks := B.notSynchronized
  have hS : va_S (aG G) s.heap s.heap [] := va_S.rf
  have C : Cx p s m ([.ref (adr G xl0)] : List Value).toArray meth c D G cX3_dropTop 1 none (cw_X3_dropTop :: gw) RX3 := ⟨hx, hb, hr, hlocks, hml, hown, hts, hK⟩
  have hl := lv_entry ([.ref (adr G xl0)]) (n := 1) (Nat.le_of_ble_eq_true rfl)
  rw [lg_entry_eq]
  generalize (lg_sl ([.ref (adr G xl0)]) ++ List.replicate (1 - (lg_sl ([.ref (adr G xl0)])).length) Slot.unset).toArray = ls at hl ⊢
  have hl : lv_has ls 1 [(0, .ref (adr G xl0))] := hl
  unfold wp_X3_dropTop at h
  refine lv_aload_n hx hb dX3_dropTop_0 rfl (lv_at hl 0 rfl) ?_
  refine r_geti (C := RX3) (T := TX3) (N := 9) hx hb hts (fun w h => List.mem_cons_of_mem _ (iX3 w h)) hown hK hP rfl (by decide) rfl 5 (by decide) (hts _ (List.mem_cons_of_mem _ kw_312)) (fun _ h9 => h9) dX3_dropTop_1 (by decide) h (fun z9 h => ?_)
  refine r_if_le (tgt := 55) hx hb dX3_dropTop_4 (by decide) h (fun h => ?_) (fun h => ?_)
  · exact r_vret hx hb hr hlocks hP hS dX3_dropTop_55 h
  · refine lv_aload_n hx hb dX3_dropTop_7 rfl (lv_at hl 0 rfl) ?_
    refine lv_dup hx hb dX3_dropTop_8 rfl ?_
    refine r_geti (C := RX3) (T := TX3) (N := 9) hx hb hts (fun w h => List.mem_cons_of_mem _ (iX3 w h)) hown hK hP rfl (by decide) rfl 5 (by decide) (hts _ (List.mem_cons_of_mem _ kw_312)) (fun _ h9 => h9) dX3_dropTop_9 (by decide) h (fun z11 h => ?_)
    refine r_iconst hx hb dX3_dropTop_12 (by decide) h (fun z13 h => ?_)
    refine r_isub hx hb dX3_dropTop_13 h (fun z15 h => ?_)
    refine r_puti (C := RX3) (T := TX3) (N := 9) hx hb hts (fun w h => List.mem_cons_of_mem _ (iX3 w h)) hown hK hP tyX3 tyX3_ok nmX3 hS rfl (by decide) rfl 5 (by decide) (hts _ (List.mem_cons_of_mem _ kw_312)) (fun _ h9 => h9) rfl (tyX3_ok 5 (by decide)) rfl rfl dX3_dropTop_14 (by decide) h (fun M16 H locs h hP hS => ?_)
    refine lv_aload_n hx hb dX3_dropTop_17 rfl (lv_at hl 0 rfl) ?_
    refine r_getr (C := RX3) (T := TX3) (N := 9) hx hb hts (fun w h => List.mem_cons_of_mem _ (iX3 w h)) hown hK hP rfl (by decide) rfl 4 (by decide) (hts _ (List.mem_cons_of_mem _ kw_311)) (fun _ h9 => h9) dX3_dropTop_18 (by decide) h (fun x18 h => ?_)
    refine lv_aload_n hx hb dX3_dropTop_21 rfl (lv_at hl 0 rfl) ?_
    refine r_geti (C := RX3) (T := TX3) (N := 9) hx hb hts (fun w h => List.mem_cons_of_mem _ (iX3 w h)) hown hK hP rfl (by decide) rfl 5 (by decide) (hts _ (List.mem_cons_of_mem _ kw_312)) (fun _ h9 => h9) dX3_dropTop_22 (by decide) h (fun z20 h => ?_)
    refine r_iald hx hb hK hP dX3_dropTop_25 h (fun z22 h => ?_)
    refine r_bipush hx hb dX3_dropTop_26 (by decide) h (fun z24 h => ?_)
    refine r_icmp_eq (tgt := 45) hx hb dX3_dropTop_28 (by decide) h (fun h => ?_) (fun h => ?_)
    · exact t_X3_dropTop_45 C xl0 _ _ _ _ hP hS (lv_sub hl [0] rfl) h
    · refine lv_aload_n hx hb dX3_dropTop_31 rfl (lv_at hl 0 rfl) ?_
      refine r_getr (C := RX3) (T := TX3) (N := 9) hx hb hts (fun w h => List.mem_cons_of_mem _ (iX3 w h)) hown hK hP rfl (by decide) rfl 4 (by decide) (hts _ (List.mem_cons_of_mem _ kw_311)) (fun _ h9 => h9) dX3_dropTop_32 (by decide) h (fun x26 h => ?_)
      refine lv_aload_n hx hb dX3_dropTop_35 rfl (lv_at hl 0 rfl) ?_
      refine r_geti (C := RX3) (T := TX3) (N := 9) hx hb hts (fun w h => List.mem_cons_of_mem _ (iX3 w h)) hown hK hP rfl (by decide) rfl 5 (by decide) (hts _ (List.mem_cons_of_mem _ kw_312)) (fun _ h9 => h9) dX3_dropTop_36 (by decide) h (fun z28 h => ?_)
      refine r_iald hx hb hK hP dX3_dropTop_39 h (fun z30 h => ?_)
      refine r_bipush hx hb dX3_dropTop_40 (by decide) h (fun z32 h => ?_)
      refine r_icmp_ne (tgt := 55) hx hb dX3_dropTop_42 (by decide) h (fun h => ?_) (fun h => ?_)
      · exact r_vret hx hb hr hlocks hP hS dX3_dropTop_55 h
      · exact t_X3_dropTop_45 C xl0 _ _ _ _ hP hS (lv_sub hl [0] rfl) h
/-! TurningMilk$RuleReader.unpile(I)V -/
abbrev RM_X3_unpile : Room := { frames := 2, cells := 0, slots := 0, locals := 61 }
def cw_X3_unpile : Cond := Cond.code yX3_unpile cX3_unpile 3 (Option.none : Option FieldType)
theorem hd_X3_unpile : yX3_unpile.cls ≠ "java/lang/invoke/MethodHandle" ∧ yX3_unpile.cls ≠ "java/lang/invoke/VarHandle" ∧ (parseMethodDescriptor yX3_unpile.desc).map (fun d => d.parameters.length) = some 1 := by decide +kernel
theorem dX3_unpile_0 : decode cX3_unpile 0 = .ok (.aload_n 0, 1) := by decide +kernel
theorem dX3_unpile_1 : decode cX3_unpile 1 = .ok (.getfield 61, 3) := by decide +kernel
theorem dX3_unpile_4 : decode cX3_unpile 4 = .ok (.iconst 1, 1) := by decide +kernel
theorem dX3_unpile_5 : decode cX3_unpile 5 = .ok (.isub, 1) := by decide +kernel
theorem dX3_unpile_6 : decode cX3_unpile 6 = .ok (.istore_n 2, 1) := by decide +kernel
theorem dX3_unpile_7 : decode cX3_unpile 7 = .ok (.iload_n 2, 1) := by decide +kernel
theorem dX3_unpile_8 : decode cX3_unpile 8 = .ok (.ifCond .lt 48, 3) := by decide +kernel
theorem dX3_unpile_11 : decode cX3_unpile 11 = .ok (.aload_n 0, 1) := by decide +kernel
theorem dX3_unpile_12 : decode cX3_unpile 12 = .ok (.getfield 15, 3) := by decide +kernel
theorem dX3_unpile_15 : decode cX3_unpile 15 = .ok (.iload_n 2, 1) := by decide +kernel
theorem dX3_unpile_16 : decode cX3_unpile 16 = .ok (.iaload, 1) := by decide +kernel
theorem dX3_unpile_17 : decode cX3_unpile 17 = .ok (.bipush (-27), 2) := by decide +kernel
theorem dX3_unpile_19 : decode cX3_unpile 19 = .ok (.if_icmp .eq 37, 3) := by decide +kernel
theorem dX3_unpile_22 : decode cX3_unpile 22 = .ok (.aload_n 0, 1) := by decide +kernel
theorem dX3_unpile_23 : decode cX3_unpile 23 = .ok (.getfield 15, 3) := by decide +kernel
theorem dX3_unpile_26 : decode cX3_unpile 26 = .ok (.iload_n 2, 1) := by decide +kernel
theorem dX3_unpile_27 : decode cX3_unpile 27 = .ok (.iaload, 1) := by decide +kernel
theorem dX3_unpile_28 : decode cX3_unpile 28 = .ok (.invokestatic 151, 3) := by decide +kernel
theorem dX3_unpile_31 : decode cX3_unpile 31 = .ok (.iload_n 1, 1) := by decide +kernel
theorem dX3_unpile_32 : decode cX3_unpile 32 = .ok (.if_icmp .ge 4, 3) := by decide +kernel
theorem dX3_unpile_35 : decode cX3_unpile 35 = .ok (.return_, 1) := by decide +kernel
theorem dX3_unpile_36 : decode cX3_unpile 36 = .ok (.aload_n 0, 1) := by decide +kernel
theorem dX3_unpile_37 : decode cX3_unpile 37 = .ok (.aload_n 0, 1) := by decide +kernel
theorem dX3_unpile_38 : decode cX3_unpile 38 = .ok (.getfield 15, 3) := by decide +kernel
theorem dX3_unpile_41 : decode cX3_unpile 41 = .ok (.iload_n 2, 1) := by decide +kernel
theorem dX3_unpile_42 : decode cX3_unpile 42 = .ok (.iaload, 1) := by decide +kernel
theorem dX3_unpile_43 : decode cX3_unpile 43 = .ok (.invokevirtual 88, 3) := by decide +kernel
theorem dX3_unpile_46 : decode cX3_unpile 46 = .ok (.aload_n 0, 1) := by decide +kernel
theorem dX3_unpile_47 : decode cX3_unpile 47 = .ok (.invokevirtual 113, 3) := by decide +kernel
theorem dX3_unpile_50 : decode cX3_unpile 50 = .ok (.iinc 2 (-1), 3) := by decide +kernel
theorem dX3_unpile_53 : decode cX3_unpile 53 = .ok (.goto (-46), 3) := by decide +kernel
theorem dX3_unpile_56 : decode cX3_unpile 56 = .ok (.return_, 1) := by decide +kernel
def wp_X3_unpile_7 (S : Sh) (post : Mm → Prop) : Nat → Int → Int → Int → Mm → Prop
  | 0, _, _, _, _ => False
  | n + 1, u0, u1, u2, M => wIf (u2 < 0) (post M) (wGetR S M u0 3 4 fun v1 => wLd S M v1 14 u2 fun v3 => wC (-27) fun v5 => wIf (v3 = v5) (post M) (wGetR S M u0 3 4 fun v7 => wLd S M v7 14 u2 fun v9 => wp_X3_bindingOf S M v9 <| fun v12 M11 => wIf (u1 ≤ v12) (wGetR S M11 u0 3 4 fun v14 => wLd S M11 v14 14 u2 fun v16 => isK S u0 3 ∧ (wp_X3_write S M11 u0 v16 <| fun M18 => isK S u0 3 ∧ (wp_X3_dropTop S M18 u0 <| fun M19 => wA u2 (-1) fun v20 => wp_X3_unpile_7 S post n u0 u1 v20 M19))) (post M11)))
def wp_X3_unpile (S : Sh) (M : Mm) (u0 : Int) (u1 : Int) (post : Mm → Prop) : Prop := wGet S M u0 3 5 fun v22 => wC 1 fun v24 => wS v22 v24 fun v26 => ∃ n9 : Nat, wp_X3_unpile_7 S post n9 u0 u1 v26 M
set_option maxHeartbeats 4000000 in
set_option maxRecDepth 100000 in
theorem t_X3_unpile_7 {p : Program} {l : Launch} {e : Env} {s : State} {m : MethodId} {args : Array Value} {below : List Frame} {meth : Method} {c : Code} {D : va_G} {G : Gt} {S : Sh} {post : Mm → Prop} (C : Cx p s m args meth c D G cX3_unpile 3 none (cw_X3_unpile :: gw) RX3) : ∀ (n : Nat) (xl0 : Int) (zl1 : Int32) (zl2 : Int32) (M : Mm) (H : Heap) (locs : List Loc) (ls : Array Slot), Wd D G S M H → va_S (aG G) s.heap H locs → lv_has ls 3 [(0, .ref (adr G xl0)), (1, .int zl1), (2, .int zl2)] → wp_X3_unpile_7 S post n xl0 zl1.toInt zl2.toInt  M → W p l e RM_X3_unpile s m args below meth c H locs 0 0 (MQ below (QV D G S post) args s 0 0 (aG G)) (F0 m 7 ls []) := by
  obtain ⟨hx, hb, hr, hlocks, hml, hown, hts, hK⟩ := id C
  intro n
  induction n with
  | zero => intro xl0 zl1 zl2 M H locs ls hP hS hl h; exact h.elim
  | succ n ih =>
    intro xl0 zl1 zl2 M H locs ls hP hS hl h
    unfold wp_X3_unpile_7 at h
    refine lv_iload_n hx hb dX3_unpile_7 rfl (lv_at hl 2 rfl) ?_
    refine r_if_lt (tgt := 56) hx hb dX3_unpile_8 (by decide) h (fun h => ?_) (fun h => ?_)
    · exact r_vret hx hb hr hlocks hP hS dX3_unpile_56 h
    · refine lv_aload_n hx hb dX3_unpile_11 rfl (lv_at hl 0 rfl) ?_
      refine r_getr (C := RX3) (T := TX3) (N := 9) hx hb hts (fun w h => List.mem_cons_of_mem _ (iX3 w h)) hown hK hP rfl (by decide) rfl 4 (by decide) (hts _ (List.mem_cons_of_mem _ kw_311)) (fun _ h9 => h9) dX3_unpile_12 (by decide) h (fun x2 h => ?_)
      refine lv_iload_n hx hb dX3_unpile_15 rfl (lv_at hl 2 rfl) ?_
      refine r_iald hx hb hK hP dX3_unpile_16 h (fun z4 h => ?_)
      refine r_bipush hx hb dX3_unpile_17 (by decide) h (fun z6 h => ?_)
      refine r_icmp_eq (tgt := 56) hx hb dX3_unpile_19 (by decide) h (fun h => ?_) (fun h => ?_)
      · exact r_vret hx hb hr hlocks hP hS dX3_unpile_56 h
      · refine lv_aload_n hx hb dX3_unpile_22 rfl (lv_at hl 0 rfl) ?_
        refine r_getr (C := RX3) (T := TX3) (N := 9) hx hb hts (fun w h => List.mem_cons_of_mem _ (iX3 w h)) hown hK hP rfl (by decide) rfl 4 (by decide) (hts _ (List.mem_cons_of_mem _ kw_311)) (fun _ h9 => h9) dX3_unpile_23 (by decide) h (fun x8 h => ?_)
        refine lv_iload_n hx hb dX3_unpile_26 rfl (lv_at hl 2 rfl) ?_
        refine r_iald hx hb hK hP dX3_unpile_27 h (fun z10 h => ?_)
        refine q_Si hx hb hml hown hts hK hP hS (c_X3_bindingOf l D G S _ z10 _ h) ⟨callB_of 1 hts (gw_good kw_799) rfl rfl rfl (hts _ (List.mem_cons_of_mem _ kw_8)) (hts _ (List.mem_cons_of_mem _ kw_797)) hd_X3_bindingOf ⟨Nat.le_of_ble_eq_true rfl, Nat.le_of_ble_eq_true rfl⟩, (hts _ (List.mem_cons_of_mem _ kw_798))⟩ rfl hl.1 rfl (lv_room (Nat.le_of_ble_eq_true rfl)) dX3_unpile_28 ⟨Nat.zero_le _, Nat.zero_le _⟩ (fun z13 M11 H locs h hP hS => ?_)
        refine lv_iload_n hx hb dX3_unpile_31 rfl (lv_at hl 1 rfl) ?_
        refine r_icmp_ge (tgt := 36) hx hb dX3_unpile_32 (by decide) h (fun h => ?_) (fun h => ?_)
        · refine lv_aload_n hx hb dX3_unpile_36 rfl (lv_at hl 0 rfl) ?_
          refine lv_aload_n hx hb dX3_unpile_37 rfl (lv_at hl 0 rfl) ?_
          refine r_getr (C := RX3) (T := TX3) (N := 9) hx hb hts (fun w h => List.mem_cons_of_mem _ (iX3 w h)) hown hK hP rfl (by decide) rfl 4 (by decide) (hts _ (List.mem_cons_of_mem _ kw_311)) (fun _ h9 => h9) dX3_unpile_38 (by decide) h (fun x15 h => ?_)
          refine lv_iload_n hx hb dX3_unpile_41 rfl (lv_at hl 2 rfl) ?_
          refine r_iald hx hb hK hP dX3_unpile_42 h (fun z17 h => ?_)
          refine q_Vv hx hb hml hown hts hK hP hS (c_X3_write l D G S _ xl0 z17 _ h.2) ⟨callB_of 1 hts (gw_good kw_783) rfl rfl rfl (hts _ (List.mem_cons_of_mem _ kw_8)) (hts _ (List.mem_cons_of_mem _ kw_780)) hd_X3_write ⟨Nat.le_of_ble_eq_true rfl, Nat.le_of_ble_eq_true rfl⟩, (hts _ (List.mem_cons_of_mem _ kw_782)), (hts _ (List.mem_cons_of_mem _ kp_14))⟩ h.1 (ci := 3) rfl (by decide) rfl hl.1 rfl (lv_room (Nat.le_of_ble_eq_true rfl)) dX3_unpile_43 ⟨Nat.zero_le _, Nat.zero_le _⟩ (fun M18 H locs h hP hS => ?_)
          refine lv_aload_n hx hb dX3_unpile_46 rfl (lv_at hl 0 rfl) ?_
          refine q_Vv hx hb hml hown hts hK hP hS (c_X3_dropTop l D G S _ xl0 _ h.2) ⟨callB_of 0 hts (gw_good kw_803) rfl rfl rfl (hts _ (List.mem_cons_of_mem _ kw_8)) (hts _ (List.mem_cons_of_mem _ kw_800)) hd_X3_dropTop ⟨Nat.le_of_ble_eq_true rfl, Nat.le_of_ble_eq_true rfl⟩, (hts _ (List.mem_cons_of_mem _ kw_802)), (hts _ (List.mem_cons_of_mem _ kp_18))⟩ h.1 (ci := 3) rfl (by decide) rfl hl.1 rfl (lv_room (Nat.le_of_ble_eq_true rfl)) dX3_unpile_47 ⟨Nat.zero_le _, Nat.zero_le _⟩ (fun M19 H locs h hP hS => ?_)
          refine r_iinc hx hb (fun z21 => [(2, .int z21), (0, .ref (adr G xl0)), (1, .int zl1)]) dX3_unpile_50 (by decide) hl (k := 2) rfl (by decide) (fun _ => rfl) h (fun z21 ls hl h => ?_)
          refine lv_goto (tgt := 7) hx hb dX3_unpile_53 (by decide) ?_
          exact ih xl0 zl1 z21 _ _ _ _ hP hS (lv_sub hl [1, 2, 0] rfl) h
        · exact r_vret hx hb hr hlocks hP hS dX3_unpile_35 h
set_option maxHeartbeats 4000000 in
set_option maxRecDepth 100000 in
theorem c_X3_unpile (l : Launch) (D : va_G) (G : Gt) (S : Sh) (M : Mm) (xl0 : Int) (zl1 : Int32) (post : Mm → Prop) (h : wp_X3_unpile S M xl0 zl1.toInt post) : Met l yX3_unpile (cw_X3_unpile :: gw) RM_X3_unpile (va_Pc [.ref (adr G xl0), .int zl1] (fun U => KN D G U ∧ Wd D G S M U.heap)) (QV D G S post) 0 0 (aG G) := by
  refine Met.ofW (cc := cX3_unpile) (maxL := 3) (ret := none) (by decide) rfl ?_
  intro p e s m args below meth c s₁ B hml hv
  obtain ⟨rfl, hK, hP⟩ := hv
  have hx := B.exec
  have hb := B.bytes
  have hr := B.returns
  have hts := atoms_spec (ws := cw_X3_unpile :: gw) B.pre
  have hown : s.vm.findClass RX3 = some m.cls := findClass_of_methodNamed B.named
  have hlocks := B.notSynchronized
  have hS : va_S (aG G) s.heap s.heap [] := va_S.rf
  have C : Cx p s m ([.ref (adr G xl0), .int zl1] : List Value).toArray meth c D G cX3_unpile 3 none (cw_X3_unpile :: gw) RX3 := ⟨hx, hb, hr, hlocks, hml, hown, hts, hK⟩
  have hl := lv_entry ([.ref (adr G xl0), .int zl1]) (n := 3) (Nat.le_of_ble_eq_true rfl)
  rw [lg_entry_eq]
  generalize (lg_sl ([.ref (adr G xl0), .int zl1]) ++ List.replicate (3 - (lg_sl ([.ref (adr G xl0), .int zl1])).length) Slot.unset).toArray = ls at hl ⊢
  have hl : lv_has ls 3 [(0, .ref (adr G xl0)), (1, .int zl1)] := hl
  unfold wp_X3_unpile at h
  refine lv_aload_n hx hb dX3_unpile_0 rfl (lv_at hl 0 rfl) ?_
  refine r_geti (C := RX3) (T := TX3) (N := 9) hx hb hts (fun w h => List.mem_cons_of_mem _ (iX3 w h)) hown hK hP rfl (by decide) rfl 5 (by decide) (hts _ (List.mem_cons_of_mem _ kw_312)) (fun _ h9 => h9) dX3_unpile_1 (by decide) h (fun z23 h => ?_)
  refine r_iconst hx hb dX3_unpile_4 (by decide) h (fun z25 h => ?_)
  refine r_isub hx hb dX3_unpile_5 h (fun z27 h => ?_)
  refine lv_istore_n (lv' := [(2, .int z27), (0, .ref (adr G xl0)), (1, .int zl1)]) hx hb dX3_unpile_6 rfl hl (by decide) rfl (fun ls hl => ?_)
  obtain ⟨n9, h⟩ := h
  exact t_X3_unpile_7 C n9 xl0 zl1 z27 _ _ _ _ hP hS (lv_sub hl [1, 2, 0] rfl) h
/-! TurningMilk$RuleReader.closeBrackets()V -/
abbrev RM_X3_closeBrackets : Room := { frames := 3, cells := 0, slots := 0, locals := 83 }
def cw_X3_closeBrackets : Cond := Cond.code yX3_closeBrackets cX3_closeBrackets 1 (Option.none : Option FieldType)
theorem hd_X3_closeBrackets : yX3_closeBrackets.cls ≠ "java/lang/invoke/MethodHandle" ∧ yX3_closeBrackets.cls ≠ "java/lang/invoke/VarHandle" ∧ (parseMethodDescriptor yX3_closeBrackets.desc).map (fun d => d.parameters.length) = some 0 := by decide +kernel
theorem dX3_closeBrackets_0 : decode cX3_closeBrackets 0 = .ok (.aload_n 0, 1) := by decide +kernel
theorem dX3_closeBrackets_1 : decode cX3_closeBrackets 1 = .ok (.getfield 67, 3) := by decide +kernel
theorem dX3_closeBrackets_4 : decode cX3_closeBrackets 4 = .ok (.ifCond .le 49, 3) := by decide +kernel
theorem dX3_closeBrackets_7 : decode cX3_closeBrackets 7 = .ok (.aload_n 0, 1) := by decide +kernel
theorem dX3_closeBrackets_8 : decode cX3_closeBrackets 8 = .ok (.invokevirtual 110, 3) := by decide +kernel
theorem dX3_closeBrackets_11 : decode cX3_closeBrackets 11 = .ok (.ifCond .eq 42, 3) := by decide +kernel
theorem dX3_closeBrackets_14 : decode cX3_closeBrackets 14 = .ok (.aload_n 0, 1) := by decide +kernel
theorem dX3_closeBrackets_15 : decode cX3_closeBrackets 15 = .ok (.getfield 18, 3) := by decide +kernel
theorem dX3_closeBrackets_18 : decode cX3_closeBrackets 18 = .ok (.bipush 93, 2) := by decide +kernel
theorem dX3_closeBrackets_20 : decode cX3_closeBrackets 20 = .ok (.invokevirtual 48, 3) := by decide +kernel
theorem dX3_closeBrackets_23 : decode cX3_closeBrackets 23 = .ok (.ifCond .eq 30, 3) := by decide +kernel
theorem dX3_closeBrackets_26 : decode cX3_closeBrackets 26 = .ok (.aload_n 0, 1) := by decide +kernel
theorem dX3_closeBrackets_27 : decode cX3_closeBrackets 27 = .ok (.iconst 0, 1) := by decide +kernel
theorem dX3_closeBrackets_28 : decode cX3_closeBrackets 28 = .ok (.invokevirtual 82, 3) := by decide +kernel
theorem dX3_closeBrackets_31 : decode cX3_closeBrackets 31 = .ok (.aload_n 0, 1) := by decide +kernel
theorem dX3_closeBrackets_32 : decode cX3_closeBrackets 32 = .ok (.invokevirtual 113, 3) := by decide +kernel
theorem dX3_closeBrackets_35 : decode cX3_closeBrackets 35 = .ok (.aload_n 0, 1) := by decide +kernel
theorem dX3_closeBrackets_36 : decode cX3_closeBrackets 36 = .ok (.dup, 1) := by decide +kernel
theorem dX3_closeBrackets_37 : decode cX3_closeBrackets 37 = .ok (.getfield 67, 3) := by decide +kernel
theorem dX3_closeBrackets_40 : decode cX3_closeBrackets 40 = .ok (.iconst 1, 1) := by decide +kernel
theorem dX3_closeBrackets_41 : decode cX3_closeBrackets 41 = .ok (.isub, 1) := by decide +kernel
theorem dX3_closeBrackets_42 : decode cX3_closeBrackets 42 = .ok (.putfield 67, 3) := by decide +kernel
theorem dX3_closeBrackets_45 : decode cX3_closeBrackets 45 = .ok (.aload_n 0, 1) := by decide +kernel
theorem dX3_closeBrackets_46 : decode cX3_closeBrackets 46 = .ok (.iconst 3, 1) := by decide +kernel
theorem dX3_closeBrackets_47 : decode cX3_closeBrackets 47 = .ok (.putfield 70, 3) := by decide +kernel
theorem dX3_closeBrackets_50 : decode cX3_closeBrackets 50 = .ok (.goto (-50), 3) := by decide +kernel
theorem dX3_closeBrackets_53 : decode cX3_closeBrackets 53 = .ok (.return_, 1) := by decide +kernel
def wp_X3_closeBrackets_0 (S : Sh) (post : Mm → Prop) : Nat → Int → Mm → Prop
  | 0, _, _ => False
  | n + 1, u0, M => wGet S M u0 3 7 fun v1 => wIf (v1 ≤ 0) (post M) (isK S u0 3 ∧ (wp_X3_isFactWhole S M u0 <| fun v4 M3 => wIf (v4 = 0) (post M3) (wGetR S M3 u0 3 0 fun v6 => wC 93 fun v8 => isK S v6 7 ∧ (wp_X7_takesSign S M3 v6 v8 <| fun v11 M10 => wIf (v11 = 0) (post M10) (wC 0 fun v13 => isK S u0 3 ∧ (wp_X3_unpile S M10 u0 v13 <| fun M15 => isK S u0 3 ∧ (wp_X3_dropTop S M15 u0 <| fun M16 => wGet S M16 u0 3 7 fun v17 => wC 1 fun v19 => wS v17 v19 fun v21 => wPut S M16 u0 3 7 v21 fun M23 => wC 3 fun v24 => wPut S M23 u0 3 8 v24 fun M26 => wp_X3_closeBrackets_0 S post n u0 M26)))))))
def wp_X3_closeBrackets (S : Sh) (M : Mm) (u0 : Int) (post : Mm → Prop) : Prop := ∃ n9 : Nat, wp_X3_closeBrackets_0 S post n9 u0 M
set_option maxHeartbeats 4000000 in
set_option maxRecDepth 100000 in
theorem t_X3_closeBrackets_0 {p : Program} {l : Launch} {e : Env} {s : State} {m : MethodId} {args : Array Value} {below : List Frame} {meth : Method} {c : Code} {D : va_G} {G : Gt} {S : Sh} {post : Mm → Prop} (C : Cx p s m args meth c D G cX3_closeBrackets 1 none (cw_X3_closeBrackets :: gw) RX3) : ∀ (n : Nat) (xl0 : Int) (M : Mm) (H : Heap) (locs : List Loc) (ls : Array Slot), Wd D G S M H → va_S (aG G) s.heap H locs → lv_has ls 1 [(0, .ref (adr G xl0))] → wp_X3_closeBrackets_0 S post n xl0  M → W p l e RM_X3_closeBrackets s m args below meth c H locs 0 0 (MQ below (QV D G S post) args s 0 0 (aG G)) (F0 m 0 ls []) := by
  obtain ⟨hx, hb, hr, hlocks, hml, hown, hts, hK⟩ := id C
  intro n
  induction n with
  | zero => intro xl0 M H locs ls hP hS hl h; exact h.elim
  | succ n ih =>
    intro xl0 M H locs ls hP hS hl h
    unfold wp_X3_closeBrackets_0 at h
    refine lv_aload_n hx hb dX3_closeBrackets_0 rfl (lv_at hl 0 rfl) ?_
    refine r_geti (C := RX3) (T := TX3) (N := 9) hx hb hts (fun w h => List.mem_cons_of_mem _ (iX3 w h)) hown hK hP rfl (by decide) rfl 7 (by decide) (hts _ (List.mem_cons_of_mem _ kw_314)) (fun _ h9 => h9) dX3_closeBrackets_1 (by decide) h (fun z2 h => ?_)
    refine r_if_le (tgt := 53) hx hb dX3_closeBrackets_4 (by decide) h (fun h => ?_) (fun h => ?_)
    · exact r_vret hx hb hr hlocks hP hS dX3_closeBrackets_53 h
    · refine lv_aload_n hx hb dX3_closeBrackets_7 rfl (lv_at hl 0 rfl) ?_
      refine q_Vi hx hb hml hown hts hK hP hS (c_X3_isFactWhole l D G S _ xl0 _ h.2) ⟨callB_of 0 hts (gw_good kw_791) rfl rfl rfl (hts _ (List.mem_cons_of_mem _ kw_8)) (hts _ (List.mem_cons_of_mem _ kw_788)) hd_X3_isFactWhole ⟨Nat.le_of_ble_eq_true rfl, Nat.le_of_ble_eq_true rfl⟩, (hts _ (List.mem_cons_of_mem _ kw_790)), (hts _ (List.mem_cons_of_mem _ kp_16))⟩ h.1 (ci := 3) rfl (by decide) rfl hl.1 rfl (lv_room (Nat.le_of_ble_eq_true rfl)) dX3_closeBrackets_8 ⟨Nat.zero_le _, Nat.zero_le _⟩ (fun z5 M3 H locs h hP hS => ?_)
      refine r_if_eq (tgt := 53) hx hb dX3_closeBrackets_11 (by decide) h (fun h => ?_) (fun h => ?_)
      · exact r_vret hx hb hr hlocks hP hS dX3_closeBrackets_53 h
      · refine lv_aload_n hx hb dX3_closeBrackets_14 rfl (lv_at hl 0 rfl) ?_
        refine r_getr (C := RX3) (T := TX3) (N := 9) hx hb hts (fun w h => List.mem_cons_of_mem _ (iX3 w h)) hown hK hP rfl (by decide) rfl 0 (by decide) (hts _ (List.mem_cons_of_mem _ kw_307)) (fun _ h9 => h9) dX3_closeBrackets_15 (by decide) h (fun x7 h => ?_)
        refine r_bipush hx hb dX3_closeBrackets_18 (by decide) h (fun z9 h => ?_)
        refine q_Vi hx hb hml hown hts hK hP hS (c_X7_takesSign l D G S _ x7 z9 _ h.2) ⟨callB_of 1 hts (gw_good kw_724) rfl rfl rfl (hts _ (List.mem_cons_of_mem _ kw_2)) (hts _ (List.mem_cons_of_mem _ kw_792)) hd_X7_takesSign ⟨Nat.le_of_ble_eq_true rfl, Nat.le_of_ble_eq_true rfl⟩, (hts _ (List.mem_cons_of_mem _ kw_722)), (hts _ (List.mem_cons_of_mem _ kw_723))⟩ h.1 (ci := 7) rfl (by decide) rfl hl.1 rfl (lv_room (Nat.le_of_ble_eq_true rfl)) dX3_closeBrackets_20 ⟨Nat.zero_le _, Nat.zero_le _⟩ (fun z12 M10 H locs h hP hS => ?_)
        refine r_if_eq (tgt := 53) hx hb dX3_closeBrackets_23 (by decide) h (fun h => ?_) (fun h => ?_)
        · exact r_vret hx hb hr hlocks hP hS dX3_closeBrackets_53 h
        · refine lv_aload_n hx hb dX3_closeBrackets_26 rfl (lv_at hl 0 rfl) ?_
          refine r_iconst hx hb dX3_closeBrackets_27 (by decide) h (fun z14 h => ?_)
          refine q_Vv hx hb hml hown hts hK hP hS (c_X3_unpile l D G S _ xl0 z14 _ h.2) ⟨callB_of 1 hts (gw_good kw_796) rfl rfl rfl (hts _ (List.mem_cons_of_mem _ kw_8)) (hts _ (List.mem_cons_of_mem _ kw_793)) hd_X3_unpile ⟨Nat.le_of_ble_eq_true rfl, Nat.le_of_ble_eq_true rfl⟩, (hts _ (List.mem_cons_of_mem _ kw_795)), (hts _ (List.mem_cons_of_mem _ kp_17))⟩ h.1 (ci := 3) rfl (by decide) rfl hl.1 rfl (lv_room (Nat.le_of_ble_eq_true rfl)) dX3_closeBrackets_28 ⟨Nat.zero_le _, Nat.zero_le _⟩ (fun M15 H locs h hP hS => ?_)
          refine lv_aload_n hx hb dX3_closeBrackets_31 rfl (lv_at hl 0 rfl) ?_
          refine q_Vv hx hb hml hown hts hK hP hS (c_X3_dropTop l D G S _ xl0 _ h.2) ⟨callB_of 0 hts (gw_good kw_803) rfl rfl rfl (hts _ (List.mem_cons_of_mem _ kw_8)) (hts _ (List.mem_cons_of_mem _ kw_800)) hd_X3_dropTop ⟨Nat.le_of_ble_eq_true rfl, Nat.le_of_ble_eq_true rfl⟩, (hts _ (List.mem_cons_of_mem _ kw_802)), (hts _ (List.mem_cons_of_mem _ kp_18))⟩ h.1 (ci := 3) rfl (by decide) rfl hl.1 rfl (lv_room (Nat.le_of_ble_eq_true rfl)) dX3_closeBrackets_32 ⟨Nat.zero_le _, Nat.zero_le _⟩ (fun M16 H locs h hP hS => ?_)
          refine lv_aload_n hx hb dX3_closeBrackets_35 rfl (lv_at hl 0 rfl) ?_
          refine lv_dup hx hb dX3_closeBrackets_36 rfl ?_
          refine r_geti (C := RX3) (T := TX3) (N := 9) hx hb hts (fun w h => List.mem_cons_of_mem _ (iX3 w h)) hown hK hP rfl (by decide) rfl 7 (by decide) (hts _ (List.mem_cons_of_mem _ kw_314)) (fun _ h9 => h9) dX3_closeBrackets_37 (by decide) h (fun z18 h => ?_)
          refine r_iconst hx hb dX3_closeBrackets_40 (by decide) h (fun z20 h => ?_)
          refine r_isub hx hb dX3_closeBrackets_41 h (fun z22 h => ?_)
          refine r_puti (C := RX3) (T := TX3) (N := 9) hx hb hts (fun w h => List.mem_cons_of_mem _ (iX3 w h)) hown hK hP tyX3 tyX3_ok nmX3 hS rfl (by decide) rfl 7 (by decide) (hts _ (List.mem_cons_of_mem _ kw_314)) (fun _ h9 => h9) rfl (tyX3_ok 7 (by decide)) rfl rfl dX3_closeBrackets_42 (by decide) h (fun M23 H locs h hP hS => ?_)
          refine lv_aload_n hx hb dX3_closeBrackets_45 rfl (lv_at hl 0 rfl) ?_
          refine r_iconst hx hb dX3_closeBrackets_46 (by decide) h (fun z25 h => ?_)
          refine r_puti (C := RX3) (T := TX3) (N := 9) hx hb hts (fun w h => List.mem_cons_of_mem _ (iX3 w h)) hown hK hP tyX3 tyX3_ok nmX3 hS rfl (by decide) rfl 8 (by decide) (hts _ (List.mem_cons_of_mem _ kw_315)) (fun _ h9 => h9) rfl (tyX3_ok 8 (by decide)) rfl rfl dX3_closeBrackets_47 (by decide) h (fun M26 H locs h hP hS => ?_)
          refine lv_goto (tgt := 0) hx hb dX3_closeBrackets_50 (by decide) ?_
          exact ih xl0 _ _ _ _ hP hS (lv_sub hl [0] rfl) h
set_option maxHeartbeats 4000000 in
set_option maxRecDepth 100000 in
theorem c_X3_closeBrackets (l : Launch) (D : va_G) (G : Gt) (S : Sh) (M : Mm) (xl0 : Int) (post : Mm → Prop) (h : wp_X3_closeBrackets S M xl0 post) : Met l yX3_closeBrackets (cw_X3_closeBrackets :: gw) RM_X3_closeBrackets (va_Pc [.ref (adr G xl0)] (fun U => KN D G U ∧ Wd D G S M U.heap)) (QV D G S post) 0 0 (aG G) := by
  refine Met.ofW (cc := cX3_closeBrackets) (maxL := 1) (ret := none) (by decide) rfl ?_
  intro p e s m args below meth c s₁ B hml hv
  obtain ⟨rfl, hK, hP⟩ := hv
  have hx := B.exec
  have hb := B.bytes
  have hr := B.returns
  have hts := atoms_spec (ws := cw_X3_closeBrackets :: gw) B.pre
  have hown : s.vm.findClass RX3 = some m.cls := findClass_of_methodNamed B.named
  have hlocks := B.notSynchronized
  have hS : va_S (aG G) s.heap s.heap [] := va_S.rf
  have C : Cx p s m ([.ref (adr G xl0)] : List Value).toArray meth c D G cX3_closeBrackets 1 none (cw_X3_closeBrackets :: gw) RX3 := ⟨hx, hb, hr, hlocks, hml, hown, hts, hK⟩
  have hl := lv_entry ([.ref (adr G xl0)]) (n := 1) (Nat.le_of_ble_eq_true rfl)
  rw [lg_entry_eq]
  generalize (lg_sl ([.ref (adr G xl0)]) ++ List.replicate (1 - (lg_sl ([.ref (adr G xl0)])).length) Slot.unset).toArray = ls at hl ⊢
  have hl : lv_has ls 1 [(0, .ref (adr G xl0))] := hl
  unfold wp_X3_closeBrackets at h
  obtain ⟨n9, h⟩ := h
  exact t_X3_closeBrackets_0 C n9 xl0 _ _ _ _ hP hS (lv_sub hl [0] rfl) h
