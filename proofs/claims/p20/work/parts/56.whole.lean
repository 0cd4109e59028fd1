def S00 : Sh := (0, fun _ => 0, fun _ => 0)
def M00 : Mm := fun _ _ => 0
/-- the law over numbers, from its entry -/
def wp_start (L : Nat) (xs : Nat → Int32) : Prop := wNew S00 M00 11 fun S1 M1 x1 => isK S1 x1 11 ∧ (wp_X11_init S1 M1 x1 <| fun S2 M2 => wNew S2 M2 12 fun S3 M3 x3 => isK S3 x3 12 ∧ (wp_X12_init S3 M3 x3 <| fun S4 M4 => ∃ n : Nat, wp_L L xs x1 x3 n S4 M4 0))
set_option maxHeartbeats 4000000 in
set_option maxRecDepth 100000 in
/-- THE LAW, from its entry, out of numbers alone -/
theorem whole_of {p : Program} {e : Env} {s : State} {m : MethodId} {below : List Frame} {meth : Method} {c : Code} (l : Launch) {b L : Nat} {xs : Nat → Int32} (hL : L ≤ 3072) (h : wp_start L xs) (C0 : lw_At p s m meth c b L xs) : W p l e room_1 s m #[Value.ref b] below meth c s.heap [] 0 0 (lw_Z below #[Value.ref b] s) (entryFrame m ([Value.ref b] : List Value).toArray 4) := by
  obtain ⟨hx, hb, hr, hml, hown0, hts, hX, hbl, hlocks, hgv⟩ := id C0
  have hown : s.vm.findClass RL = some m.cls := hown0
  obtain ⟨D, G, hK, hO, hgB, hG⟩ := KN_start hts hgv
  have hbA : ¬ aG G b := by unfold aG; rw [hgB]; omega
  have CC : CL p s m meth c b L xs D G := ⟨C0, hK, hO, hbA, hG, hL, hgB⟩
  have hS : va_S (aG G) s.heap s.heap [] := va_S.rf
  have hP : Wd D G S00 M00 s.heap := ⟨fun i j hi _ _ => absurd hi (Nat.not_lt_zero i), fun i hi => absurd hi (Nat.not_lt_zero i), fun k q hq => by simp [wsM, S00] at hq, fun a j => ⟨fun _ => by unfold M00 r32; omega, fun _ => by unfold M00 r64; omega⟩⟩
  have hb0 : gB G ≤ s.heap.size := by omega
  have hsz : s.heap.size + 0 = gB G + S00.1 := by rw [hgB]; rfl
  have hl := lv_entry ([.ref b]) (n := 4) (Nat.le_of_ble_eq_true rfl)
  rw [lg_entry_eq]
  generalize (lg_sl ([.ref b]) ++ List.replicate (4 - (lg_sl ([.ref b])).length) Slot.unset).toArray = ls at hl ⊢
  have hl : lv_has ls 4 [(0, .ref b)] := hl
  unfold wp_start at h
  refine r_new (C := RX11) (T := TX11) (N := 16) hx hb hts (fun w h => gw_in w (iX11 w h)) tyX11 tyX11_ok hown (hts _ (gw_in _ kw_22)) (hts _ (gw_in _ kw_23)) (hts _ (gw_in _ kw_1)) hK hP hS hG hb0 hsz rfl (by decide) rfl df_11 (Nat.le_of_ble_eq_true rfl) (Nat.le_of_ble_eq_true rfl) dL_law_0 h (fun S1 M1 x1 H h e1 hP hS => ?_)
  have hsz : s.heap.size + 1 = gB G + S1.1 := by omega
  refine lv_dup hx hb dL_law_3 rfl ?_
  refine W_sz (fun hle => ?_)
  have hH := hsize_of hP hG (by omega) hle hsz
  refine q_I2 hx hb hml hown hts hK hP hS hO hH (c_X11_init l D G _ _ hG x1 _ h.2) ⟨callB_of 0 hts (gw_goodL kw_26) rfl rfl rfl (hts _ (gw_in _ kw_1)) (hts _ (gw_in _ kw_24)) hd_X11_init ⟨Nat.le_of_ble_eq_true rfl, Nat.le_of_ble_eq_true rfl⟩, rfl, (hts _ (gw_in _ kw_25))⟩ hl.1 rfl (lv_room (Nat.le_of_ble_eq_true rfl)) dL_law_4 ⟨Nat.le_of_ble_eq_true rfl, Nat.le_of_ble_eq_true rfl⟩ (fun S2 M2 H locs h e2 hP hS => ?_)
  have hsz : s.heap.size + 336 = gB G + S2.1 := by omega
  refine lv_astore_n (lv' := [(1, .ref (adr G x1)), (0, .ref b)]) hx hb dL_law_7 rfl hl (by decide) rfl (fun ls hl => ?_)
  refine r_new (C := RX12) (T := TX12) (N := 38) hx hb hts (fun w h => gw_in w (iX12 w h)) tyX12 tyX12_ok hown (hts _ (gw_in _ kw_1328)) (hts _ (gw_in _ kw_1329)) (hts _ (gw_in _ kw_14)) hK hP hS hG hb0 hsz rfl (by decide) rfl df_12 (Nat.le_of_ble_eq_true rfl) (Nat.le_of_ble_eq_true rfl) dL_law_8 h (fun S3 M3 x3 H h e1 hP hS => ?_)
  have hsz : s.heap.size + 337 = gB G + S3.1 := by omega
  refine lv_dup hx hb dL_law_11 rfl ?_
  refine q_I hx hb hml hown hts hK hP hS hG hb0 hsz h.1 (c_X12_init l D G _ _ hG x3 _ h.2) ⟨callB_of 0 hts (gw_goodL kw_1332) rfl rfl rfl (hts _ (gw_in _ kw_14)) (hts _ (gw_in _ kw_1330)) hd_X12_init ⟨Nat.le_of_ble_eq_true rfl, Nat.le_of_ble_eq_true rfl⟩, rfl, (hts _ (gw_in _ kw_1331))⟩ rfl hl.1 rfl (lv_room (Nat.le_of_ble_eq_true rfl)) dL_law_12 ⟨Nat.le_of_ble_eq_true rfl, Nat.le_of_ble_eq_true rfl⟩ (fun S4 M4 H locs h e4 hP hS => ?_)
  have hsz : s.heap.size + 358 = gB G + S4.1 := by omega
  refine lv_astore_n (lv' := [(2, .ref (adr G x3)), (1, .ref (adr G x1)), (0, .ref b)]) hx hb dL_law_15 rfl hl (by decide) rfl (fun ls hl => ?_)
  refine lv_iconst (v := 0) hx hb dL_law_16 (by decide) ?_
  refine lv_istore_n (lv' := [(3, .int 0), (2, .ref (adr G x3)), (1, .ref (adr G x1)), (0, .ref b)]) hx hb dL_law_17 rfl hl (by decide) rfl (fun ls hl => ?_)
  obtain ⟨n, h⟩ := h
  refine W_sz (fun hle => ?_)
  have hH := hsize_of hP hG (by omega) hle hsz
  have z0 : (0 : Int32).toInt = 0 := Int32.toInt_zero
  refine t_L CC x1 x3 n S4 M4 H locs ls _ _ 0 hP hS hH (lv_sub hl [3, 2, 1, 0] rfl) (by rw [z0]; omega) (by rw [z0]; decide) (by rw [z0]; decide) (by rw [z0]; exact h)
