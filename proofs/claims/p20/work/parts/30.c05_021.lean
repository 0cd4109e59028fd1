theorem dX8_suits_17 : decode cX8_suits 17 = .ok (.if_icmp .gt 7, 3) := by decide +kernel
theorem dX8_suits_20 : decode cX8_suits 20 = .ok (.iconst 1, 1) := by decide +kernel
theorem dX8_suits_21 : decode cX8_suits 21 = .ok (.goto 4, 3) := by decide +kernel
theorem dX8_suits_24 : decode cX8_suits 24 = .ok (.iconst 0, 1) := by decide +kernel
theorem dX8_suits_25 : decode cX8_suits 25 = .ok (.ireturn, 1) := by decide +kernel
def wp_X8_suits (S : Sh) (M : Mm) (u0 : Int) (u1 : Int) (u2 : Int) (post : Int → Mm → Prop) : Prop := wGetR S M u0 8 16 fun v1 => wLd S M v1 14 u1 fun v3 => wIf (u2 < v3) (wC 0 fun v5 => (v5 = 0 ∨ v5 = 1) ∧ post v5 M) (wGetR S M u0 8 17 fun v7 => wLd S M v7 14 u1 fun v9 => wIf (v9 < u2) (wC 0 fun v11 => (v11 = 0 ∨ v11 = 1) ∧ post v11 M) (wC 1 fun v13 => (v13 = 0 ∨ v13 = 1) ∧ post v13 M))
set_option maxHeartbeats 4000000 in
set_option maxRecDepth 100000 in
theorem c_X8_suits (l : Launch) (D : va_G) (G : Gt) (S : Sh) (M : Mm) (xl0 : Int) (zl1 : Int32) (zl2 : Int32) (post : Int → Mm → Prop) (h : wp_X8_suits S M xl0 zl1.toInt zl2.toInt post) : Met l yX8_suits (cw_X8_suits :: gw) RM_X8_suits (va_Pc [.ref (adr G xl0), .int zl1, .int zl2] (fun U => KN D G U ∧ Wd D G S M U.heap)) (QI D G S post) 0 0 (aG G) := by
  refine Met.ofW (cc := cX8_suits) (maxL := 3) (ret := (some .boolean)) (by decide) rfl ?_
  intro p e s m args below meth c s₁ B hml hv
  obtain ⟨rfl, hK, hP⟩ := hv
  have hx := B.exec
  have hb := B.bytes
  have hr := B.returns
  have hts := atoms_spec (ws := cw_X8_suits :: gw) B.pre
  have hown : s.vm.findClass RX8 = some m.cls := findClass_of_methodNamed B.named
  have hlocks := B.notSynchronized
  have hS : va_S (aG G) s.heap s.heap [] := va_S.rf
  have C : Cx p s m ([.ref (adr G xl0), .int zl1, .int zl2] : List Value).toArray meth c D G cX8_suits 3 (some .boolean) (cw_X8_suits :: gw) RX8 := ⟨hx, hb, hr, hlocks, hml, hown, hts, hK⟩
  have hl := lv_entry ([.ref (adr G xl0), .int zl1, .int zl2]) (n := 3) (Nat.le_of_ble_eq_true rfl)
  rw [lg_entry_eq]
  generalize (lg_sl ([.ref (adr G xl0), .int zl1, .int zl2]) ++ List.replicate (3 - (lg_sl ([.ref (adr G xl0), .int zl1, .int zl2])).length) Slot.unset).toArray = ls at hl ⊢
  have hl : lv_has ls 3 [(0, .ref (adr G xl0)), (1, .int zl1), (2, .int zl2)] := hl
  unfold wp_X8_suits at h
  refine lv_aload_n hx hb dX8_suits_0 rfl (lv_at hl 0 rfl) ?_
  refine r_getr (C := RX8) (T := TX8) (N := 19) hx hb hts (fun w h => List.mem_cons_of_mem _ (iX8 w h)) hown hK hP rfl (by decide) rfl 16 (by decide) (hts _ (List.mem_cons_of_mem _ kw_120)) (fun _ h9 => h9) dX8_suits_1 (by decide) h (fun x2 h => ?_)
  refine lv_iload_n hx hb dX8_suits_4 rfl (lv_at hl 1 rfl) ?_
  refine r_iald hx hb hK hP dX8_suits_5 h (fun z4 h => ?_)
  refine lv_iload_n hx hb dX8_suits_6 rfl (lv_at hl 2 rfl) ?_
  refine r_icmp_gt (tgt := 24) hx hb dX8_suits_7 (by decide) h (fun h => ?_) (fun h => ?_)
  · refine r_iconst hx hb dX8_suits_24 (by decide) h (fun z6 h => ?_)
    exact r_zret hx hb hr hlocks hP hS dX8_suits_25 h
  · refine lv_iload_n hx hb dX8_suits_10 rfl (lv_at hl 2 rfl) ?_
    refine lv_aload_n hx hb dX8_suits_11 rfl (lv_at hl 0 rfl) ?_
    refine r_getr (C := RX8) (T := TX8) (N := 19) hx hb hts (fun w h => List.mem_cons_of_mem _ (iX8 w h)) hown hK hP rfl (by decide) rfl 17 (by decide) (hts _ (List.mem_cons_of_mem _ kw_123)) (fun _ h9 => h9) dX8_suits_12 (by decide) h (fun x8 h => ?_)
    refine lv_iload_n hx hb dX8_suits_15 rfl (lv_at hl 1 rfl) ?_
    refine r_iald hx hb hK hP dX8_suits_16 h (fun z10 h => ?_)
    refine r_icmp_gt (tgt := 24) hx hb dX8_suits_17 (by decide) h (fun h => ?_) (fun h => ?_)
    · refine r_iconst hx hb dX8_suits_24 (by decide) h (fun z12 h => ?_)
      exact r_zret hx hb hr hlocks hP hS dX8_suits_25 h
    · refine r_iconst hx hb dX8_suits_20 (by decide) h (fun z14 h => ?_)
      refine lv_goto (tgt := 25) hx hb dX8_suits_21 (by decide) ?_
      exact r_zret hx hb hr hlocks hP hS dX8_suits_25 h
