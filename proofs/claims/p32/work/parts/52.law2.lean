def wp_Lc_0 (L : Nat) (xs : Nat → Int32) (x y : Int) (S : Sh) (M : Mm) (i : Int) (K : Sh → Mm → Prop) : Prop := wC 1 fun v1 => wA i v1 fun v3 => wSc L xs v3 fun v5 => wC 2 fun v7 => wA i v7 fun v9 => wSc L xs v9 fun v11 => wC 3 fun v13 => wA i v13 fun v15 => wSc L xs v15 fun v17 => wC 4 fun v19 => wA i v19 fun v21 => wSc L xs v21 fun v23 => wC 5 fun v25 => wA i v25 fun v27 => wSc L xs v27 fun v29 => isK S x 11 ∧ (wp_X11_feed S M x v5 v11 v17 v23 v29 <| fun v31 M33 => wC 1 fun v34 => wA i v34 fun v36 => wSc L xs v36 fun v38 => wC 2 fun v40 => wA i v40 fun v42 => wSc L xs v42 fun v44 => wC 3 fun v46 => wA i v46 fun v48 => wSc L xs v48 fun v50 => wC 4 fun v52 => wA i v52 fun v54 => wSc L xs v54 fun v56 => wC 5 fun v58 => wA i v58 fun v60 => wSc L xs v60 fun v62 => isK S y 12 ∧ (wp_X12_feed S M33 y v38 v44 v50 v56 v62 <| fun v64 M66 => K S M66))
set_option maxHeartbeats 4000000 in
set_option maxRecDepth 100000 in
theorem t_Lc_0 {p : Program} {l : Launch} {e : Env} {s : State} {m : MethodId} {below : List Frame} {meth : Method} {c : Code} {D : va_G} {G : Gt} {b L : Nat} {xs : Nat → Int32} (C0 : CL p s m meth c b L xs D G) (x y : Int) (S : Sh) (M : Mm) (H : Heap) (locs : List Loc) (ls : Array Slot) (cells slots : Nat) (z3 : Int32) {K : Sh → Mm → Prop} (hP : Wd D G S M H) (hS : va_S (aG G) s.heap H locs) (hH : H.size = gB G + S.1) (hl : lv_has ls 4 [(0, .ref b), (1, .ref (adr G x)), (2, .ref (adr G y)), (3, .int z3)]) (hcb : cells + 1 ≤ 600000) (hsb : slots + 400 ≤ 7302250) (h : wp_Lc_0 L xs x y S M z3.toInt K) (kk : ∀ (S1 : Sh) (M1 : Mm) (H1 : Heap) (locs1 : List Loc) (ls1 : Array Slot) (cells1 slots1 : Nat), cells1 ≤ cells + 1 → slots1 ≤ slots + 400 → K S1 M1 → Wd D G S1 M1 H1 → va_S (aG G) s.heap H1 locs1 → H1.size = gB G + S1.1 → lv_has ls1 4 [(0, .ref b), (1, .ref (adr G x)), (2, .ref (adr G y)), (3, .int z3)] → W p l e room_1 s m #[Value.ref b] below meth c H1 locs1 cells1 slots1 (lw_Z below #[Value.ref b] s) (F0 m 1155 ls1 [])) : W p l e room_1 s m #[Value.ref b] below meth c H locs cells slots (lw_Z below #[Value.ref b] s) (F0 m 172 ls []) := by
  obtain ⟨⟨hx, hb, hr, hml, hown0, hts, hX, hbl, hlocks, hgv⟩, hK, hO, hbA, hG, hL, hgB⟩ := id C0
  have hown : s.vm.findClass RL = some m.cls := hown0
  unfold wp_Lc_0 at h
  refine lv_aload_n hx hb dL_law_172 rfl (lv_at hl 1 rfl) ?_
  refine lv_aload_n hx hb dL_law_173 rfl (lv_at hl 0 rfl) ?_
  refine lv_iload_n hx hb dL_law_174 rfl (lv_at hl 3 rfl) ?_
  refine r_iconst hx hb dL_law_175 (by decide) h (fun z2 h => ?_)
  refine r_iadd hx hb dL_law_176 h (fun z4 h => ?_)
  refine r_sc hx hb hX hbl hbA hS dL_law_177 h (fun z6 h => ?_)
  refine lv_aload_n hx hb dL_law_178 rfl (lv_at hl 0 rfl) ?_
  refine lv_iload_n hx hb dL_law_179 rfl (lv_at hl 3 rfl) ?_
  refine r_iconst hx hb dL_law_180 (by decide) h (fun z8 h => ?_)
  refine r_iadd hx hb dL_law_181 h (fun z10 h => ?_)
  refine r_sc hx hb hX hbl hbA hS dL_law_182 h (fun z12 h => ?_)
  refine lv_aload_n hx hb dL_law_183 rfl (lv_at hl 0 rfl) ?_
  refine lv_iload_n hx hb dL_law_184 rfl (lv_at hl 3 rfl) ?_
  refine r_iconst hx hb dL_law_185 (by decide) h (fun z14 h => ?_)
  refine r_iadd hx hb dL_law_186 h (fun z16 h => ?_)
  refine r_sc hx hb hX hbl hbA hS dL_law_187 h (fun z18 h => ?_)
  refine lv_aload_n hx hb dL_law_188 rfl (lv_at hl 0 rfl) ?_
  refine lv_iload_n hx hb dL_law_189 rfl (lv_at hl 3 rfl) ?_
  refine r_iconst hx hb dL_law_190 (by decide) h (fun z20 h => ?_)
  refine r_iadd hx hb dL_law_191 h (fun z22 h => ?_)
  refine r_sc hx hb hX hbl hbA hS dL_law_192 h (fun z24 h => ?_)
  refine lv_aload_n hx hb dL_law_193 rfl (lv_at hl 0 rfl) ?_
  refine lv_iload_n hx hb dL_law_194 rfl (lv_at hl 3 rfl) ?_
  refine r_iconst hx hb dL_law_195 (by decide) h (fun z26 h => ?_)
  refine r_iadd hx hb dL_law_196 h (fun z28 h => ?_)
  refine r_sc hx hb hX hbl hbA hS dL_law_197 h (fun z30 h => ?_)
  refine q_Li hx hb hml hown hts hK hP hS hH (c_X11_feed l D G _ _ x z6 z12 z18 z24 z30 _ h.2) ⟨callB_of 5 hts (gw_goodL kw_543) rfl rfl rfl (hts _ (gw_in _ kw_1)) (hts _ (gw_in _ kw_540)) hd_X11_feed ⟨Nat.le_of_ble_eq_true rfl, Nat.le_of_ble_eq_true rfl⟩, (hts _ (gw_in _ kw_541)), (hts _ (gw_in _ kw_542))⟩ h.1 (ci := 11) rfl (by decide) rfl hl.1 rfl (lv_room (Nat.le_of_ble_eq_true rfl)) dL_law_198 ⟨by show _ ≤ 600000; omega, by show _ ≤ 7302250; omega⟩ (fun z32 M33 H locs h hP hS hH => ?_)
  refine lv_pop hx hb dL_law_201 rfl ?_
  refine lv_aload_n hx hb dL_law_202 rfl (lv_at hl 2 rfl) ?_
  refine lv_aload_n hx hb dL_law_203 rfl (lv_at hl 0 rfl) ?_
  refine lv_iload_n hx hb dL_law_204 rfl (lv_at hl 3 rfl) ?_
  refine r_iconst hx hb dL_law_205 (by decide) h (fun z35 h => ?_)
  refine r_iadd hx hb dL_law_206 h (fun z37 h => ?_)
  refine r_sc hx hb hX hbl hbA hS dL_law_207 h (fun z39 h => ?_)
  refine lv_aload_n hx hb dL_law_208 rfl (lv_at hl 0 rfl) ?_
  refine lv_iload_n hx hb dL_law_209 rfl (lv_at hl 3 rfl) ?_
  refine r_iconst hx hb dL_law_210 (by decide) h (fun z41 h => ?_)
  refine r_iadd hx hb dL_law_211 h (fun z43 h => ?_)
  refine r_sc hx hb hX hbl hbA hS dL_law_212 h (fun z45 h => ?_)
  refine lv_aload_n hx hb dL_law_213 rfl (lv_at hl 0 rfl) ?_
  refine lv_iload_n hx hb dL_law_214 rfl (lv_at hl 3 rfl) ?_
  refine r_iconst hx hb dL_law_215 (by decide) h (fun z47 h => ?_)
  refine r_iadd hx hb dL_law_216 h (fun z49 h => ?_)
  refine r_sc hx hb hX hbl hbA hS dL_law_217 h (fun z51 h => ?_)
  refine lv_aload_n hx hb dL_law_218 rfl (lv_at hl 0 rfl) ?_
  refine lv_iload_n hx hb dL_law_219 rfl (lv_at hl 3 rfl) ?_
  refine r_iconst hx hb dL_law_220 (by decide) h (fun z53 h => ?_)
  refine r_iadd hx hb dL_law_221 h (fun z55 h => ?_)
  refine r_sc hx hb hX hbl hbA hS dL_law_222 h (fun z57 h => ?_)
  refine lv_aload_n hx hb dL_law_223 rfl (lv_at hl 0 rfl) ?_
  refine lv_iload_n hx hb dL_law_224 rfl (lv_at hl 3 rfl) ?_
  refine r_iconst hx hb dL_law_225 (by decide) h (fun z59 h => ?_)
  refine r_iadd hx hb dL_law_226 h (fun z61 h => ?_)
  refine r_sc hx hb hX hbl hbA hS dL_law_227 h (fun z63 h => ?_)
  refine q_Li hx hb hml hown hts hK hP hS hH (c_X12_feed l D G _ _ y z39 z45 z51 z57 z63 _ h.2) ⟨callB_of 5 hts (gw_goodL kw_1453) rfl rfl rfl (hts _ (gw_in _ kw_14)) (hts _ (gw_in _ kw_1450)) hd_X12_feed ⟨Nat.le_of_ble_eq_true rfl, Nat.le_of_ble_eq_true rfl⟩, (hts _ (gw_in _ kw_1451)), (hts _ (gw_in _ kw_1452))⟩ h.1 (ci := 12) rfl (by decide) rfl hl.1 rfl (lv_room (Nat.le_of_ble_eq_true rfl)) dL_law_228 ⟨by show _ ≤ 600000; omega, by show _ ≤ 7302250; omega⟩ (fun z65 M66 H locs h hP hS hH => ?_)
  refine lv_pop hx hb dL_law_231 rfl ?_
  refine lv_goto (tgt := 1155) hx hb dL_law_232 (by decide) ?_
  exact kk S M66 _ _ _ cells slots (by omega) (by omega) h hP hS hH hl
def wp_Lc_1 (L : Nat) (xs : Nat → Int32) (x y : Int) (S : Sh) (M : Mm) (i : Int) (K : Sh → Mm → Prop) : Prop := wC 1 fun v67 => wA i v67 fun v69 => wSc L xs v69 fun v71 => isK S x 11 ∧ (wp_X11_end S M x v71 <| fun v73 M75 => wC 1 fun v76 => wA i v76 fun v78 => wSc L xs v78 fun v80 => isK S y 12 ∧ (wp_X12_end S M75 y v80 <| fun v82 M84 => K S M84))
set_option maxHeartbeats 4000000 in
set_option maxRecDepth 100000 in
theorem t_Lc_1 {p : Program} {l : Launch} {e : Env} {s : State} {m : MethodId} {below : List Frame} {meth : Method} {c : Code} {D : va_G} {G : Gt} {b L : Nat} {xs : Nat → Int32} (C0 : CL p s m meth c b L xs D G) (x y : Int) (S : Sh) (M : Mm) (H : Heap) (locs : List Loc) (ls : Array Slot) (cells slots : Nat) (z3 : Int32) {K : Sh → Mm → Prop} (hP : Wd D G S M H) (hS : va_S (aG G) s.heap H locs) (hH : H.size = gB G + S.1) (hl : lv_has ls 4 [(0, .ref b), (1, .ref (adr G x)), (2, .ref (adr G y)), (3, .int z3)]) (hcb : cells + 1 ≤ 600000) (hsb : slots + 400 ≤ 7302250) (h : wp_Lc_1 L xs x y S M z3.toInt K) (kk : ∀ (S1 : Sh) (M1 : Mm) (H1 : Heap) (locs1 : List Loc) (ls1 : Array Slot) (cells1 slots1 : Nat), cells1 ≤ cells + 1 → slots1 ≤ slots + 400 → K S1 M1 → Wd D G S1 M1 H1 → va_S (aG G) s.heap H1 locs1 → H1.size = gB G + S1.1 → lv_has ls1 4 [(0, .ref b), (1, .ref (adr G x)), (2, .ref (adr G y)), (3, .int z3)] → W p l e room_1 s m #[Value.ref b] below meth c H1 locs1 cells1 slots1 (lw_Z below #[Value.ref b] s) (F0 m 1155 ls1 [])) : W p l e room_1 s m #[Value.ref b] below meth c H locs cells slots (lw_Z below #[Value.ref b] s) (F0 m 235 ls []) := by
  obtain ⟨⟨hx, hb, hr, hml, hown0, hts, hX, hbl, hlocks, hgv⟩, hK, hO, hbA, hG, hL, hgB⟩ := id C0
  have hown : s.vm.findClass RL = some m.cls := hown0
  unfold wp_Lc_1 at h
  refine lv_aload_n hx hb dL_law_235 rfl (lv_at hl 1 rfl) ?_
  refine lv_aload_n hx hb dL_law_236 rfl (lv_at hl 0 rfl) ?_
  refine lv_iload_n hx hb dL_law_237 rfl (lv_at hl 3 rfl) ?_
  refine r_iconst hx hb dL_law_238 (by decide) h (fun z68 h => ?_)
  refine r_iadd hx hb dL_law_239 h (fun z70 h => ?_)
  refine r_sc hx hb hX hbl hbA hS dL_law_240 h (fun z72 h => ?_)
  refine q_Li hx hb hml hown hts hK hP hS hH (c_X11_end l D G _ _ x z72 _ h.2) ⟨callB_of 1 hts (gw_goodL kw_555) rfl rfl rfl (hts _ (gw_in _ kw_1)) (hts _ (gw_in _ kw_552)) hd_X11_end ⟨Nat.le_of_ble_eq_true rfl, Nat.le_of_ble_eq_true rfl⟩, (hts _ (gw_in _ kw_553)), (hts _ (gw_in _ kw_554))⟩ h.1 (ci := 11) rfl (by decide) rfl hl.1 rfl (lv_room (Nat.le_of_ble_eq_true rfl)) dL_law_241 ⟨by show _ ≤ 600000; omega, by show _ ≤ 7302250; omega⟩ (fun z74 M75 H locs h hP hS hH => ?_)
  refine lv_pop hx hb dL_law_244 rfl ?_
  refine lv_aload_n hx hb dL_law_245 rfl (lv_at hl 2 rfl) ?_
  refine lv_aload_n hx hb dL_law_246 rfl (lv_at hl 0 rfl) ?_
  refine lv_iload_n hx hb dL_law_247 rfl (lv_at hl 3 rfl) ?_
  refine r_iconst hx hb dL_law_248 (by decide) h (fun z77 h => ?_)
  refine r_iadd hx hb dL_law_249 h (fun z79 h => ?_)
  refine r_sc hx hb hX hbl hbA hS dL_law_250 h (fun z81 h => ?_)
  refine q_Li hx hb hml hown hts hK hP hS hH (c_X12_end l D G _ _ y z81 _ h.2) ⟨callB_of 1 hts (gw_goodL kw_1461) rfl rfl rfl (hts _ (gw_in _ kw_14)) (hts _ (gw_in _ kw_1458)) hd_X12_end ⟨Nat.le_of_ble_eq_true rfl, Nat.le_of_ble_eq_true rfl⟩, (hts _ (gw_in _ kw_1459)), (hts _ (gw_in _ kw_1460))⟩ h.1 (ci := 12) rfl (by decide) rfl hl.1 rfl (lv_room (Nat.le_of_ble_eq_true rfl)) dL_law_251 ⟨by show _ ≤ 600000; omega, by show _ ≤ 7302250; omega⟩ (fun z83 M84 H locs h hP hS hH => ?_)
  refine lv_pop hx hb dL_law_254 rfl ?_
  refine lv_goto (tgt := 1155) hx hb dL_law_255 (by decide) ?_
  exact kk S M84 _ _ _ cells slots (by omega) (by omega) h hP hS hH hl
def wp_Lc_2 (L : Nat) (xs : Nat → Int32) (x y : Int) (S : Sh) (M : Mm) (i : Int) (K : Sh → Mm → Prop) : Prop := isK S x 11 ∧ (wp_X11_dairy S M x <| fun v85 M87 => isK S y 12 ∧ (wp_X12_dairy S M87 y <| fun v88 M90 => K S M90))
set_option maxHeartbeats 4000000 in
set_option maxRecDepth 100000 in
theorem t_Lc_2 {p : Program} {l : Launch} {e : Env} {s : State} {m : MethodId} {below : List Frame} {meth : Method} {c : Code} {D : va_G} {G : Gt} {b L : Nat} {xs : Nat → Int32} (C0 : CL p s m meth c b L xs D G) (x y : Int) (S : Sh) (M : Mm) (H : Heap) (locs : List Loc) (ls : Array Slot) (cells slots : Nat) (z3 : Int32) {K : Sh → Mm → Prop} (hP : Wd D G S M H) (hS : va_S (aG G) s.heap H locs) (hH : H.size = gB G + S.1) (hl : lv_has ls 4 [(0, .ref b), (1, .ref (adr G x)), (2, .ref (adr G y)), (3, .int z3)]) (hcb : cells + 1 ≤ 600000) (hsb : slots + 400 ≤ 7302250) (h : wp_Lc_2 L xs x y S M z3.toInt K) (kk : ∀ (S1 : Sh) (M1 : Mm) (H1 : Heap) (locs1 : List Loc) (ls1 : Array Slot) (cells1 slots1 : Nat), cells1 ≤ cells + 1 → slots1 ≤ slots + 400 → K S1 M1 → Wd D G S1 M1 H1 → va_S (aG G) s.heap H1 locs1 → H1.size = gB G + S1.1 → lv_has ls1 4 [(0, .ref b), (1, .ref (adr G x)), (2, .ref (adr G y)), (3, .int z3)] → W p l e room_1 s m #[Value.ref b] below meth c H1 locs1 cells1 slots1 (lw_Z below #[Value.ref b] s) (F0 m 1155 ls1 [])) : W p l e room_1 s m #[Value.ref b] below meth c H locs cells slots (lw_Z below #[Value.ref b] s) (F0 m 258 ls []) := by
  obtain ⟨⟨hx, hb, hr, hml, hown0, hts, hX, hbl, hlocks, hgv⟩, hK, hO, hbA, hG, hL, hgB⟩ := id C0
  have hown : s.vm.findClass RL = some m.cls := hown0
  unfold wp_Lc_2 at h
  refine lv_aload_n hx hb dL_law_258 rfl (lv_at hl 1 rfl) ?_
  refine q_Li hx hb hml hown hts hK hP hS hH (c_X11_dairy l D G _ _ x _ h.2) ⟨callB_of 0 hts (gw_goodL kw_559) rfl rfl rfl (hts _ (gw_in _ kw_1)) (hts _ (gw_in _ kw_556)) hd_X11_dairy ⟨Nat.le_of_ble_eq_true rfl, Nat.le_of_ble_eq_true rfl⟩, (hts _ (gw_in _ kw_557)), (hts _ (gw_in _ kw_558))⟩ h.1 (ci := 11) rfl (by decide) rfl hl.1 rfl (lv_room (Nat.le_of_ble_eq_true rfl)) dL_law_259 ⟨by show _ ≤ 600000; omega, by show _ ≤ 7302250; omega⟩ (fun z86 M87 H locs h hP hS hH => ?_)
  refine lv_pop hx hb dL_law_262 rfl ?_
  refine lv_aload_n hx hb dL_law_263 rfl (lv_at hl 2 rfl) ?_
  refine q_Li hx hb hml hown hts hK hP hS hH (c_X12_dairy l D G _ _ y _ h.2) ⟨callB_of 0 hts (gw_goodL kw_1629) rfl rfl rfl (hts _ (gw_in _ kw_14)) (hts _ (gw_in _ kw_1626)) hd_X12_dairy ⟨Nat.le_of_ble_eq_true rfl, Nat.le_of_ble_eq_true rfl⟩, (hts _ (gw_in _ kw_1627)), (hts _ (gw_in _ kw_1628))⟩ h.1 (ci := 12) rfl (by decide) rfl hl.1 rfl (lv_room (Nat.le_of_ble_eq_true rfl)) dL_law_264 ⟨by show _ ≤ 600000; omega, by show _ ≤ 7302250; omega⟩ (fun z89 M90 H locs h hP hS hH => ?_)
  refine lv_pop hx hb dL_law_267 rfl ?_
  refine lv_goto (tgt := 1155) hx hb dL_law_268 (by decide) ?_
  exact kk S M90 _ _ _ cells slots (by omega) (by omega) h hP hS hH hl
def wp_Lc_3 (L : Nat) (xs : Nat → Int32) (x y : Int) (S : Sh) (M : Mm) (i : Int) (K : Sh → Mm → Prop) : Prop := isK S x 11 ∧ (wp_X11_rule S M x <| fun v91 S94 M93 => isK S94 y 12 ∧ (wp_X12_rule S94 M93 y <| fun v95 M97 => K S94 M97))
set_option maxHeartbeats 4000000 in
set_option maxRecDepth 100000 in
theorem t_Lc_3 {p : Program} {l : Launch} {e : Env} {s : State} {m : MethodId} {below : List Frame} {meth : Method} {c : Code} {D : va_G} {G : Gt} {b L : Nat} {xs : Nat → Int32} (C0 : CL p s m meth c b L xs D G) (x y : Int) (S : Sh) (M : Mm) (H : Heap) (locs : List Loc) (ls : Array Slot) (cells slots : Nat) (z3 : Int32) {K : Sh → Mm → Prop} (hP : Wd D G S M H) (hS : va_S (aG G) s.heap H locs) (hH : H.size = gB G + S.1) (hl : lv_has ls 4 [(0, .ref b), (1, .ref (adr G x)), (2, .ref (adr G y)), (3, .int z3)]) (hcb : cells + 1 ≤ 600000) (hsb : slots + 400 ≤ 7302250) (h : wp_Lc_3 L xs x y S M z3.toInt K) (kk : ∀ (S1 : Sh) (M1 : Mm) (H1 : Heap) (locs1 : List Loc) (ls1 : Array Slot) (cells1 slots1 : Nat), cells1 ≤ cells + 1 → slots1 ≤ slots + 400 → K S1 M1 → Wd D G S1 M1 H1 → va_S (aG G) s.heap H1 locs1 → H1.size = gB G + S1.1 → lv_has ls1 4 [(0, .ref b), (1, .ref (adr G x)), (2, .ref (adr G y)), (3, .int z3)] → W p l e room_1 s m #[Value.ref b] below meth c H1 locs1 cells1 slots1 (lw_Z below #[Value.ref b] s) (F0 m 1155 ls1 [])) : W p l e room_1 s m #[Value.ref b] below meth c H locs cells slots (lw_Z below #[Value.ref b] s) (F0 m 271 ls []) := by
  obtain ⟨⟨hx, hb, hr, hml, hown0, hts, hX, hbl, hlocks, hgv⟩, hK, hO, hbA, hG, hL, hgB⟩ := id C0
  have hown : s.vm.findClass RL = some m.cls := hown0
  unfold wp_Lc_3 at h
  refine lv_aload_n hx hb dL_law_271 rfl (lv_at hl 1 rfl) ?_
  refine q_LR hx hb hml hown hts hK hP hS hO hH (c_X11_rule l D G _ _ hG x _ h.2) ⟨callB_of 0 hts (gw_goodL kw_740) rfl rfl rfl (hts _ (gw_in _ kw_1)) (hts _ (gw_in _ kw_737)) hd_X11_rule ⟨Nat.le_of_ble_eq_true rfl, Nat.le_of_ble_eq_true rfl⟩, (hts _ (gw_in _ kw_738)), (hts _ (gw_in _ kw_739))⟩ h.1 (ci := 11) rfl (by decide) hl.1 rfl (lv_room (Nat.le_of_ble_eq_true rfl)) dL_law_272 ⟨hcb, hsb⟩ (fun z92 S94 M93 H locs h hP hS hH => ?_)
  refine lv_pop hx hb dL_law_275 rfl ?_
  refine lv_aload_n hx hb dL_law_276 rfl (lv_at hl 2 rfl) ?_
  refine q_Li hx hb hml hown hts hK hP hS hH (c_X12_rule l D G _ _ y _ h.2) ⟨callB_of 0 hts (gw_goodL kw_1465) rfl rfl rfl (hts _ (gw_in _ kw_14)) (hts _ (gw_in _ kw_1462)) hd_X12_rule ⟨Nat.le_of_ble_eq_true rfl, Nat.le_of_ble_eq_true rfl⟩, (hts _ (gw_in _ kw_1463)), (hts _ (gw_in _ kw_1464))⟩ h.1 (ci := 12) rfl (by decide) rfl hl.1 rfl (lv_room (Nat.le_of_ble_eq_true rfl)) dL_law_277 ⟨by show _ ≤ 600000; omega, by show _ ≤ 7302250; omega⟩ (fun z96 M97 H locs h hP hS hH => ?_)
  refine lv_pop hx hb dL_law_280 rfl ?_
  refine lv_goto (tgt := 1155) hx hb dL_law_281 (by decide) ?_
  exact kk S94 M97 _ _ _ (cells + 1) (slots + 400) (by omega) (by omega) h hP hS hH hl
def wp_Lc_4 (L : Nat) (xs : Nat → Int32) (x y : Int) (S : Sh) (M : Mm) (i : Int) (K : Sh → Mm → Prop) : Prop := wC 1 fun v98 => wA i v98 fun v100 => wSc L xs v100 fun v102 => isK S x 11 ∧ (wp_X11_force S M x v102 <| fun v104 M106 => wC 1 fun v107 => wA i v107 fun v109 => wSc L xs v109 fun v111 => isK S y 12 ∧ (wp_X12_force S M106 y v111 <| fun v113 M115 => K S M115))
set_option maxHeartbeats 4000000 in
set_option maxRecDepth 100000 in
theorem t_Lc_4 {p : Program} {l : Launch} {e : Env} {s : State} {m : MethodId} {below : List Frame} {meth : Method} {c : Code} {D : va_G} {G : Gt} {b L : Nat} {xs : Nat → Int32} (C0 : CL p s m meth c b L xs D G) (x y : Int) (S : Sh) (M : Mm) (H : Heap) (locs : List Loc) (ls : Array Slot) (cells slots : Nat) (z3 : Int32) {K : Sh → Mm → Prop} (hP : Wd D G S M H) (hS : va_S (aG G) s.heap H locs) (hH : H.size = gB G + S.1) (hl : lv_has ls 4 [(0, .ref b), (1, .ref (adr G x)), (2, .ref (adr G y)), (3, .int z3)]) (hcb : cells + 1 ≤ 600000) (hsb : slots + 400 ≤ 7302250) (h : wp_Lc_4 L xs x y S M z3.toInt K) (kk : ∀ (S1 : Sh) (M1 : Mm) (H1 : Heap) (locs1 : List Loc) (ls1 : Array Slot) (cells1 slots1 : Nat), cells1 ≤ cells + 1 → slots1 ≤ slots + 400 → K S1 M1 → Wd D G S1 M1 H1 → va_S (aG G) s.heap H1 locs1 → H1.size = gB G + S1.1 → lv_has ls1 4 [(0, .ref b), (1, .ref (adr G x)), (2, .ref (adr G y)), (3, .int z3)] → W p l e room_1 s m #[Value.ref b] below meth c H1 locs1 cells1 slots1 (lw_Z below #[Value.ref b] s) (F0 m 1155 ls1 [])) : W p l e room_1 s m #[Value.ref b] below meth c H locs cells slots (lw_Z below #[Value.ref b] s) (F0 m 284 ls []) := by
  obtain ⟨⟨hx, hb, hr, hml, hown0, hts, hX, hbl, hlocks, hgv⟩, hK, hO, hbA, hG, hL, hgB⟩ := id C0
  have hown : s.vm.findClass RL = some m.cls := hown0
  unfold wp_Lc_4 at h
  refine lv_aload_n hx hb dL_law_284 rfl (lv_at hl 1 rfl) ?_
  refine lv_aload_n hx hb dL_law_285 rfl (lv_at hl 0 rfl) ?_
  refine lv_iload_n hx hb dL_law_286 rfl (lv_at hl 3 rfl) ?_
  refine r_iconst hx hb dL_law_287 (by decide) h (fun z99 h => ?_)
  refine r_iadd hx hb dL_law_288 h (fun z101 h => ?_)
  refine r_sc hx hb hX hbl hbA hS dL_law_289 h (fun z103 h => ?_)
  refine q_Li hx hb hml hown hts hK hP hS hH (c_X11_force l D G _ _ x z103 _ h.2) ⟨callB_of 1 hts (gw_goodL kw_869) rfl rfl rfl (hts _ (gw_in _ kw_1)) (hts _ (gw_in _ kw_866)) hd_X11_force ⟨Nat.le_of_ble_eq_true rfl, Nat.le_of_ble_eq_true rfl⟩, (hts _ (gw_in _ kw_867)), (hts _ (gw_in _ kw_868))⟩ h.1 (ci := 11) rfl (by decide) rfl hl.1 rfl (lv_room (Nat.le_of_ble_eq_true rfl)) dL_law_290 ⟨by show _ ≤ 600000; omega, by show _ ≤ 7302250; omega⟩ (fun z105 M106 H locs h hP hS hH => ?_)
  refine lv_pop hx hb dL_law_293 rfl ?_
  refine lv_aload_n hx hb dL_law_294 rfl (lv_at hl 2 rfl) ?_
  refine lv_aload_n hx hb dL_law_295 rfl (lv_at hl 0 rfl) ?_
  refine lv_iload_n hx hb dL_law_296 rfl (lv_at hl 3 rfl) ?_
  refine r_iconst hx hb dL_law_297 (by decide) h (fun z108 h => ?_)
  refine r_iadd hx hb dL_law_298 h (fun z110 h => ?_)
  refine r_sc hx hb hX hbl hbA hS dL_law_299 h (fun z112 h => ?_)
  refine q_Li hx hb hml hown hts hK hP hS hH (c_X12_force l D G _ _ y z112 _ h.2) ⟨callB_of 1 hts (gw_goodL kw_1633) rfl rfl rfl (hts _ (gw_in _ kw_14)) (hts _ (gw_in _ kw_1630)) hd_X12_force ⟨Nat.le_of_ble_eq_true rfl, Nat.le_of_ble_eq_true rfl⟩, (hts _ (gw_in _ kw_1631)), (hts _ (gw_in _ kw_1632))⟩ h.1 (ci := 12) rfl (by decide) rfl hl.1 rfl (lv_room (Nat.le_of_ble_eq_true rfl)) dL_law_300 ⟨by show _ ≤ 600000; omega, by show _ ≤ 7302250; omega⟩ (fun z114 M115 H locs h hP hS hH => ?_)
  refine lv_pop hx hb dL_law_303 rfl ?_
  refine lv_goto (tgt := 1155) hx hb dL_law_304 (by decide) ?_
  exact kk S M115 _ _ _ cells slots (by omega) (by omega) h hP hS hH hl
def wp_Lc_5 (L : Nat) (xs : Nat → Int32) (x y : Int) (S : Sh) (M : Mm) (i : Int) (K : Sh → Mm → Prop) : Prop := wC 1 fun v116 => wA i v116 fun v118 => wSc L xs v118 fun v120 => wC 2 fun v122 => wA i v122 fun v124 => wSc L xs v124 fun v126 => isK S x 11 ∧ (wp_X11_hand S M x v120 v126 <| fun v128 M130 => wC 1 fun v131 => wA i v131 fun v133 => wSc L xs v133 fun v135 => wC 2 fun v137 => wA i v137 fun v139 => wSc L xs v139 fun v141 => isK S y 12 ∧ (wp_X12_hand S M130 y v135 v141 <| fun v143 M145 => K S M145))
set_option maxHeartbeats 4000000 in
set_option maxRecDepth 100000 in
theorem t_Lc_5 {p : Program} {l : Launch} {e : Env} {s : State} {m : MethodId} {below : List Frame} {meth : Method} {c : Code} {D : va_G} {G : Gt} {b L : Nat} {xs : Nat → Int32} (C0 : CL p s m meth c b L xs D G) (x y : Int) (S : Sh) (M : Mm) (H : Heap) (locs : List Loc) (ls : Array Slot) (cells slots : Nat) (z3 : Int32) {K : Sh → Mm → Prop} (hP : Wd D G S M H) (hS : va_S (aG G) s.heap H locs) (hH : H.size = gB G + S.1) (hl : lv_has ls 4 [(0, .ref b), (1, .ref (adr G x)), (2, .ref (adr G y)), (3, .int z3)]) (hcb : cells + 1 ≤ 600000) (hsb : slots + 400 ≤ 7302250) (h : wp_Lc_5 L xs x y S M z3.toInt K) (kk : ∀ (S1 : Sh) (M1 : Mm) (H1 : Heap) (locs1 : List Loc) (ls1 : Array Slot) (cells1 slots1 : Nat), cells1 ≤ cells + 1 → slots1 ≤ slots + 400 → K S1 M1 → Wd D G S1 M1 H1 → va_S (aG G) s.heap H1 locs1 → H1.size = gB G + S1.1 → lv_has ls1 4 [(0, .ref b), (1, .ref (adr G x)), (2, .ref (adr G y)), (3, .int z3)] → W p l e room_1 s m #[Value.ref b] below meth c H1 locs1 cells1 slots1 (lw_Z below #[Value.ref b] s) (F0 m 1155 ls1 [])) : W p l e room_1 s m #[Value.ref b] below meth c H locs cells slots (lw_Z below #[Value.ref b] s) (F0 m 307 ls []) := by
  obtain ⟨⟨hx, hb, hr, hml, hown0, hts, hX, hbl, hlocks, hgv⟩, hK, hO, hbA, hG, hL, hgB⟩ := id C0
  have hown : s.vm.findClass RL = some m.cls := hown0
  unfold wp_Lc_5 at h
  refine lv_aload_n hx hb dL_law_307 rfl (lv_at hl 1 rfl) ?_
  refine lv_aload_n hx hb dL_law_308 rfl (lv_at hl 0 rfl) ?_
  refine lv_iload_n hx hb dL_law_309 rfl (lv_at hl 3 rfl) ?_
  refine r_iconst hx hb dL_law_310 (by decide) h (fun z117 h => ?_)
  refine r_iadd hx hb dL_law_311 h (fun z119 h => ?_)
  refine r_sc hx hb hX hbl hbA hS dL_law_312 h (fun z121 h => ?_)
  refine lv_aload_n hx hb dL_law_313 rfl (lv_at hl 0 rfl) ?_
  refine lv_iload_n hx hb dL_law_314 rfl (lv_at hl 3 rfl) ?_
  refine r_iconst hx hb dL_law_315 (by decide) h (fun z123 h => ?_)
  refine r_iadd hx hb dL_law_316 h (fun z125 h => ?_)
  refine r_sc hx hb hX hbl hbA hS dL_law_317 h (fun z127 h => ?_)
  refine q_Li hx hb hml hown hts hK hP hS hH (c_X11_hand l D G _ _ x z121 z127 _ h.2) ⟨callB_of 2 hts (gw_goodL kw_877) rfl rfl rfl (hts _ (gw_in _ kw_1)) (hts _ (gw_in _ kw_874)) hd_X11_hand ⟨Nat.le_of_ble_eq_true rfl, Nat.le_of_ble_eq_true rfl⟩, (hts _ (gw_in _ kw_875)), (hts _ (gw_in _ kw_876))⟩ h.1 (ci := 11) rfl (by decide) rfl hl.1 rfl (lv_room (Nat.le_of_ble_eq_true rfl)) dL_law_318 ⟨by show _ ≤ 600000; omega, by show _ ≤ 7302250; omega⟩ (fun z129 M130 H locs h hP hS hH => ?_)
  refine lv_pop hx hb dL_law_321 rfl ?_
  refine lv_aload_n hx hb dL_law_322 rfl (lv_at hl 2 rfl) ?_
  refine lv_aload_n hx hb dL_law_323 rfl (lv_at hl 0 rfl) ?_
  refine lv_iload_n hx hb dL_law_324 rfl (lv_at hl 3 rfl) ?_
  refine r_iconst hx hb dL_law_325 (by decide) h (fun z132 h => ?_)
  refine r_iadd hx hb dL_law_326 h (fun z134 h => ?_)
  refine r_sc hx hb hX hbl hbA hS dL_law_327 h (fun z136 h => ?_)
  refine lv_aload_n hx hb dL_law_328 rfl (lv_at hl 0 rfl) ?_
  refine lv_iload_n hx hb dL_law_329 rfl (lv_at hl 3 rfl) ?_
  refine r_iconst hx hb dL_law_330 (by decide) h (fun z138 h => ?_)
  refine r_iadd hx hb dL_law_331 h (fun z140 h => ?_)
  refine r_sc hx hb hX hbl hbA hS dL_law_332 h (fun z142 h => ?_)
  refine q_Li hx hb hml hown hts hK hP hS hH (c_X12_hand l D G _ _ y z136 z142 _ h.2) ⟨callB_of 2 hts (gw_goodL kw_1641) rfl rfl rfl (hts _ (gw_in _ kw_14)) (hts _ (gw_in _ kw_1638)) hd_X12_hand ⟨Nat.le_of_ble_eq_true rfl, Nat.le_of_ble_eq_true rfl⟩, (hts _ (gw_in _ kw_1639)), (hts _ (gw_in _ kw_1640))⟩ h.1 (ci := 12) rfl (by decide) rfl hl.1 rfl (lv_room (Nat.le_of_ble_eq_true rfl)) dL_law_333 ⟨by show _ ≤ 600000; omega, by show _ ≤ 7302250; omega⟩ (fun z144 M145 H locs h hP hS hH => ?_)
  refine lv_pop hx hb dL_law_336 rfl ?_
  refine lv_goto (tgt := 1155) hx hb dL_law_337 (by decide) ?_
  exact kk S M145 _ _ _ cells slots (by omega) (by omega) h hP hS hH hl
def wp_Lc_6 (L : Nat) (xs : Nat → Int32) (x y : Int) (S : Sh) (M : Mm) (i : Int) (K : Sh → Mm → Prop) : Prop := wC 1 fun v146 => wA i v146 fun v148 => wSc L xs v148 fun v150 => wC 2 fun v152 => wA i v152 fun v154 => wSc L xs v154 fun v156 => isK S x 11 ∧ (wp_X11_jug S M x v150 v156 <| fun v158 M160 => wC 1 fun v161 => wA i v161 fun v163 => wSc L xs v163 fun v165 => wC 2 fun v167 => wA i v167 fun v169 => wSc L xs v169 fun v171 => isK S y 12 ∧ (wp_X12_jug S M160 y v165 v171 <| fun v173 M175 => K S M175))
set_option maxHeartbeats 4000000 in
set_option maxRecDepth 100000 in
theorem t_Lc_6 {p : Program} {l : Launch} {e : Env} {s : State} {m : MethodId} {below : List Frame} {meth : Method} {c : Code} {D : va_G} {G : Gt} {b L : Nat} {xs : Nat → Int32} (C0 : CL p s m meth c b L xs D G) (x y : Int) (S : Sh) (M : Mm) (H : Heap) (locs : List Loc) (ls : Array Slot) (cells slots : Nat) (z3 : Int32) {K : Sh → Mm → Prop} (hP : Wd D G S M H) (hS : va_S (aG G) s.heap H locs) (hH : H.size = gB G + S.1) (hl : lv_has ls 4 [(0, .ref b), (1, .ref (adr G x)), (2, .ref (adr G y)), (3, .int z3)]) (hcb : cells + 1 ≤ 600000) (hsb : slots + 400 ≤ 7302250) (h : wp_Lc_6 L xs x y S M z3.toInt K) (kk : ∀ (S1 : Sh) (M1 : Mm) (H1 : Heap) (locs1 : List Loc) (ls1 : Array Slot) (cells1 slots1 : Nat), cells1 ≤ cells + 1 → slots1 ≤ slots + 400 → K S1 M1 → Wd D G S1 M1 H1 → va_S (aG G) s.heap H1 locs1 → H1.size = gB G + S1.1 → lv_has ls1 4 [(0, .ref b), (1, .ref (adr G x)), (2, .ref (adr G y)), (3, .int z3)] → W p l e room_1 s m #[Value.ref b] below meth c H1 locs1 cells1 slots1 (lw_Z below #[Value.ref b] s) (F0 m 1155 ls1 [])) : W p l e room_1 s m #[Value.ref b] below meth c H locs cells slots (lw_Z below #[Value.ref b] s) (F0 m 340 ls []) := by
  obtain ⟨⟨hx, hb, hr, hml, hown0, hts, hX, hbl, hlocks, hgv⟩, hK, hO, hbA, hG, hL, hgB⟩ := id C0
  have hown : s.vm.findClass RL = some m.cls := hown0
  unfold wp_Lc_6 at h
  refine lv_aload_n hx hb dL_law_340 rfl (lv_at hl 1 rfl) ?_
  refine lv_aload_n hx hb dL_law_341 rfl (lv_at hl 0 rfl) ?_
  refine lv_iload_n hx hb dL_law_342 rfl (lv_at hl 3 rfl) ?_
  refine r_iconst hx hb dL_law_343 (by decide) h (fun z147 h => ?_)
  refine r_iadd hx hb dL_law_344 h (fun z149 h => ?_)
  refine r_sc hx hb hX hbl hbA hS dL_law_345 h (fun z151 h => ?_)
  refine lv_aload_n hx hb dL_law_346 rfl (lv_at hl 0 rfl) ?_
  refine lv_iload_n hx hb dL_law_347 rfl (lv_at hl 3 rfl) ?_
  refine r_iconst hx hb dL_law_348 (by decide) h (fun z153 h => ?_)
  refine r_iadd hx hb dL_law_349 h (fun z155 h => ?_)
  refine r_sc hx hb hX hbl hbA hS dL_law_350 h (fun z157 h => ?_)
  refine q_Li hx hb hml hown hts hK hP hS hH (c_X11_jug l D G _ _ x z151 z157 _ h.2) ⟨callB_of 2 hts (gw_goodL kw_889) rfl rfl rfl (hts _ (gw_in _ kw_1)) (hts _ (gw_in _ kw_886)) hd_X11_jug ⟨Nat.le_of_ble_eq_true rfl, Nat.le_of_ble_eq_true rfl⟩, (hts _ (gw_in _ kw_887)), (hts _ (gw_in _ kw_888))⟩ h.1 (ci := 11) rfl (by decide) rfl hl.1 rfl (lv_room (Nat.le_of_ble_eq_true rfl)) dL_law_351 ⟨by show _ ≤ 600000; omega, by show _ ≤ 7302250; omega⟩ (fun z159 M160 H locs h hP hS hH => ?_)
  refine lv_pop hx hb dL_law_354 rfl ?_
  refine lv_aload_n hx hb dL_law_355 rfl (lv_at hl 2 rfl) ?_
  refine lv_aload_n hx hb dL_law_356 rfl (lv_at hl 0 rfl) ?_
  refine lv_iload_n hx hb dL_law_357 rfl (lv_at hl 3 rfl) ?_
  refine r_iconst hx hb dL_law_358 (by decide) h (fun z162 h => ?_)
  refine r_iadd hx hb dL_law_359 h (fun z164 h => ?_)
  refine r_sc hx hb hX hbl hbA hS dL_law_360 h (fun z166 h => ?_)
  refine lv_aload_n hx hb dL_law_361 rfl (lv_at hl 0 rfl) ?_
  refine lv_iload_n hx hb dL_law_362 rfl (lv_at hl 3 rfl) ?_
  refine r_iconst hx hb dL_law_363 (by decide) h (fun z168 h => ?_)
  refine r_iadd hx hb dL_law_364 h (fun z170 h => ?_)
  refine r_sc hx hb hX hbl hbA hS dL_law_365 h (fun z172 h => ?_)
  refine q_Li hx hb hml hown hts hK hP hS hH (c_X12_jug l D G _ _ y z166 z172 _ h.2) ⟨callB_of 2 hts (gw_goodL kw_1662) rfl rfl rfl (hts _ (gw_in _ kw_14)) (hts _ (gw_in _ kw_1659)) hd_X12_jug ⟨Nat.le_of_ble_eq_true rfl, Nat.le_of_ble_eq_true rfl⟩, (hts _ (gw_in _ kw_1660)), (hts _ (gw_in _ kw_1661))⟩ h.1 (ci := 12) rfl (by decide) rfl hl.1 rfl (lv_room (Nat.le_of_ble_eq_true rfl)) dL_law_366 ⟨by show _ ≤ 600000; omega, by show _ ≤ 7302250; omega⟩ (fun z174 M175 H locs h hP hS hH => ?_)
  refine lv_pop hx hb dL_law_369 rfl ?_
  refine lv_goto (tgt := 1155) hx hb dL_law_370 (by decide) ?_
  exact kk S M175 _ _ _ cells slots (by omega) (by omega) h hP hS hH hl
def wp_Lc_7 (L : Nat) (xs : Nat → Int32) (x y : Int) (S : Sh) (M : Mm) (i : Int) (K : Sh → Mm → Prop) : Prop := wC 1 fun v176 => wA i v176 fun v178 => wSc L xs v178 fun v180 => wC 2 fun v182 => wA i v182 fun v184 => wSc L xs v184 fun v186 => isK S x 11 ∧ (wp_X11_want S M x v180 v186 <| fun v188 M190 => wC 1 fun v191 => wA i v191 fun v193 => wSc L xs v193 fun v195 => wC 2 fun v197 => wA i v197 fun v199 => wSc L xs v199 fun v201 => isK S y 12 ∧ (wp_X12_want S M190 y v195 v201 <| fun v203 M205 => K S M205))
set_option maxHeartbeats 4000000 in
set_option maxRecDepth 100000 in
theorem t_Lc_7 {p : Program} {l : Launch} {e : Env} {s : State} {m : MethodId} {below : List Frame} {meth : Method} {c : Code} {D : va_G} {G : Gt} {b L : Nat} {xs : Nat → Int32} (C0 : CL p s m meth c b L xs D G) (x y : Int) (S : Sh) (M : Mm) (H : Heap) (locs : List Loc) (ls : Array Slot) (cells slots : Nat) (z3 : Int32) {K : Sh → Mm → Prop} (hP : Wd D G S M H) (hS : va_S (aG G) s.heap H locs) (hH : H.size = gB G + S.1) (hl : lv_has ls 4 [(0, .ref b), (1, .ref (adr G x)), (2, .ref (adr G y)), (3, .int z3)]) (hcb : cells + 1 ≤ 600000) (hsb : slots + 400 ≤ 7302250) (h : wp_Lc_7 L xs x y S M z3.toInt K) (kk : ∀ (S1 : Sh) (M1 : Mm) (H1 : Heap) (locs1 : List Loc) (ls1 : Array Slot) (cells1 slots1 : Nat), cells1 ≤ cells + 1 → slots1 ≤ slots + 400 → K S1 M1 → Wd D G S1 M1 H1 → va_S (aG G) s.heap H1 locs1 → H1.size = gB G + S1.1 → lv_has ls1 4 [(0, .ref b), (1, .ref (adr G x)), (2, .ref (adr G y)), (3, .int z3)] → W p l e room_1 s m #[Value.ref b] below meth c H1 locs1 cells1 slots1 (lw_Z below #[Value.ref b] s) (F0 m 1155 ls1 [])) : W p l e room_1 s m #[Value.ref b] below meth c H locs cells slots (lw_Z below #[Value.ref b] s) (F0 m 373 ls []) := by
  obtain ⟨⟨hx, hb, hr, hml, hown0, hts, hX, hbl, hlocks, hgv⟩, hK, hO, hbA, hG, hL, hgB⟩ := id C0
  have hown : s.vm.findClass RL = some m.cls := hown0
  unfold wp_Lc_7 at h
  refine lv_aload_n hx hb dL_law_373 rfl (lv_at hl 1 rfl) ?_
  refine lv_aload_n hx hb dL_law_374 rfl (lv_at hl 0 rfl) ?_
  refine lv_iload_n hx hb dL_law_375 rfl (lv_at hl 3 rfl) ?_
  refine r_iconst hx hb dL_law_376 (by decide) h (fun z177 h => ?_)
  refine r_iadd hx hb dL_law_377 h (fun z179 h => ?_)
  refine r_sc hx hb hX hbl hbA hS dL_law_378 h (fun z181 h => ?_)
  refine lv_aload_n hx hb dL_law_379 rfl (lv_at hl 0 rfl) ?_
  refine lv_iload_n hx hb dL_law_380 rfl (lv_at hl 3 rfl) ?_
  refine r_iconst hx hb dL_law_381 (by decide) h (fun z183 h => ?_)
  refine r_iadd hx hb dL_law_382 h (fun z185 h => ?_)
  refine r_sc hx hb hX hbl hbA hS dL_law_383 h (fun z187 h => ?_)
  refine q_Li hx hb hml hown hts hK hP hS hH (c_X11_want l D G _ _ x z181 z187 _ h.2) ⟨callB_of 2 hts (gw_goodL kw_901) rfl rfl rfl (hts _ (gw_in _ kw_1)) (hts _ (gw_in _ kw_898)) hd_X11_want ⟨Nat.le_of_ble_eq_true rfl, Nat.le_of_ble_eq_true rfl⟩, (hts _ (gw_in _ kw_899)), (hts _ (gw_in _ kw_900))⟩ h.1 (ci := 11) rfl (by decide) rfl hl.1 rfl (lv_room (Nat.le_of_ble_eq_true rfl)) dL_law_384 ⟨by show _ ≤ 600000; omega, by show _ ≤ 7302250; omega⟩ (fun z189 M190 H locs h hP hS hH => ?_)
  refine lv_pop hx hb dL_law_387 rfl ?_
  refine lv_aload_n hx hb dL_law_388 rfl (lv_at hl 2 rfl) ?_
  refine lv_aload_n hx hb dL_law_389 rfl (lv_at hl 0 rfl) ?_
  refine lv_iload_n hx hb dL_law_390 rfl (lv_at hl 3 rfl) ?_
  refine r_iconst hx hb dL_law_391 (by decide) h (fun z192 h => ?_)
  refine r_iadd hx hb dL_law_392 h (fun z194 h => ?_)
  refine r_sc hx hb hX hbl hbA hS dL_law_393 h (fun z196 h => ?_)
  refine lv_aload_n hx hb dL_law_394 rfl (lv_at hl 0 rfl) ?_
  refine lv_iload_n hx hb dL_law_395 rfl (lv_at hl 3 rfl) ?_
  refine r_iconst hx hb dL_law_396 (by decide) h (fun z198 h => ?_)
  refine r_iadd hx hb dL_law_397 h (fun z200 h => ?_)
  refine r_sc hx hb hX hbl hbA hS dL_law_398 h (fun z202 h => ?_)
  refine q_Li hx hb hml hown hts hK hP hS hH (c_X12_want l D G _ _ y z196 z202 _ h.2) ⟨callB_of 2 hts (gw_goodL kw_1674) rfl rfl rfl (hts _ (gw_in _ kw_14)) (hts _ (gw_in _ kw_1671)) hd_X12_want ⟨Nat.le_of_ble_eq_true rfl, Nat.le_of_ble_eq_true rfl⟩, (hts _ (gw_in _ kw_1672)), (hts _ (gw_in _ kw_1673))⟩ h.1 (ci := 12) rfl (by decide) rfl hl.1 rfl (lv_room (Nat.le_of_ble_eq_true rfl)) dL_law_399 ⟨by show _ ≤ 600000; omega, by show _ ≤ 7302250; omega⟩ (fun z204 M205 H locs h hP hS hH => ?_)
  refine lv_pop hx hb dL_law_402 rfl ?_
  refine lv_goto (tgt := 1155) hx hb dL_law_403 (by decide) ?_
  exact kk S M205 _ _ _ cells slots (by omega) (by omega) h hP hS hH hl
def wp_Lc_8 (L : Nat) (xs : Nat → Int32) (x y : Int) (S : Sh) (M : Mm) (i : Int) (K : Sh → Mm → Prop) : Prop := isK S x 11 ∧ (wp_X11_hour S M x <| fun v206 M208 => isK S y 12 ∧ (wp_X12_hour S M208 y <| fun v209 M211 => K S M211))
set_option maxHeartbeats 4000000 in
set_option maxRecDepth 100000 in
theorem t_Lc_8 {p : Program} {l : Launch} {e : Env} {s : State} {m : MethodId} {below : List Frame} {meth : Method} {c : Code} {D : va_G} {G : Gt} {b L : Nat} {xs : Nat → Int32} (C0 : CL p s m meth c b L xs D G) (x y : Int) (S : Sh) (M : Mm) (H : Heap) (locs : List Loc) (ls : Array Slot) (cells slots : Nat) (z3 : Int32) {K : Sh → Mm → Prop} (hP : Wd D G S M H) (hS : va_S (aG G) s.heap H locs) (hH : H.size = gB G + S.1) (hl : lv_has ls 4 [(0, .ref b), (1, .ref (adr G x)), (2, .ref (adr G y)), (3, .int z3)]) (hcb : cells + 1 ≤ 600000) (hsb : slots + 400 ≤ 7302250) (h : wp_Lc_8 L xs x y S M z3.toInt K) (kk : ∀ (S1 : Sh) (M1 : Mm) (H1 : Heap) (locs1 : List Loc) (ls1 : Array Slot) (cells1 slots1 : Nat), cells1 ≤ cells + 1 → slots1 ≤ slots + 400 → K S1 M1 → Wd D G S1 M1 H1 → va_S (aG G) s.heap H1 locs1 → H1.size = gB G + S1.1 → lv_has ls1 4 [(0, .ref b), (1, .ref (adr G x)), (2, .ref (adr G y)), (3, .int z3)] → W p l e room_1 s m #[Value.ref b] below meth c H1 locs1 cells1 slots1 (lw_Z below #[Value.ref b] s) (F0 m 1155 ls1 [])) : W p l e room_1 s m #[Value.ref b] below meth c H locs cells slots (lw_Z below #[Value.ref b] s) (F0 m 406 ls []) := by
  obtain ⟨⟨hx, hb, hr, hml, hown0, hts, hX, hbl, hlocks, hgv⟩, hK, hO, hbA, hG, hL, hgB⟩ := id C0
  have hown : s.vm.findClass RL = some m.cls := hown0
  unfold wp_Lc_8 at h
  refine lv_aload_n hx hb dL_law_406 rfl (lv_at hl 1 rfl) ?_
  refine q_Li hx hb hml hown hts hK hP hS hH (c_X11_hour l D G _ _ x _ h.2) ⟨callB_of 0 hts (gw_goodL kw_917) rfl rfl rfl (hts _ (gw_in _ kw_1)) (hts _ (gw_in _ kw_914)) hd_X11_hour ⟨Nat.le_of_ble_eq_true rfl, Nat.le_of_ble_eq_true rfl⟩, (hts _ (gw_in _ kw_915)), (hts _ (gw_in _ kw_916))⟩ h.1 (ci := 11) rfl (by decide) rfl hl.1 rfl (lv_room (Nat.le_of_ble_eq_true rfl)) dL_law_407 ⟨by show _ ≤ 600000; omega, by show _ ≤ 7302250; omega⟩ (fun z207 M208 H locs h hP hS hH => ?_)
  refine lv_pop hx hb dL_law_410 rfl ?_
  refine lv_aload_n hx hb dL_law_411 rfl (lv_at hl 2 rfl) ?_
  refine q_Li hx hb hml hown hts hK hP hS hH (c_X12_hour l D G _ _ y _ h.2) ⟨callB_of 0 hts (gw_goodL kw_1694) rfl rfl rfl (hts _ (gw_in _ kw_14)) (hts _ (gw_in _ kw_1691)) hd_X12_hour ⟨Nat.le_of_ble_eq_true rfl, Nat.le_of_ble_eq_true rfl⟩, (hts _ (gw_in _ kw_1692)), (hts _ (gw_in _ kw_1693))⟩ h.1 (ci := 12) rfl (by decide) rfl hl.1 rfl (lv_room (Nat.le_of_ble_eq_true rfl)) dL_law_412 ⟨by show _ ≤ 600000; omega, by show _ ≤ 7302250; omega⟩ (fun z210 M211 H locs h hP hS hH => ?_)
  refine lv_pop hx hb dL_law_415 rfl ?_
  refine lv_goto (tgt := 1155) hx hb dL_law_416 (by decide) ?_
  exact kk S M211 _ _ _ cells slots (by omega) (by omega) h hP hS hH hl
def wp_Lc_9 (L : Nat) (xs : Nat → Int32) (x y : Int) (S : Sh) (M : Mm) (i : Int) (K : Sh → Mm → Prop) : Prop := wC 1 fun v212 => wA i v212 fun v214 => wSc L xs v214 fun v216 => wC 2 fun v218 => wA i v218 fun v220 => wSc L xs v220 fun v222 => isK S x 11 ∧ (wp_X11_take S M x v216 v222 <| fun v224 M226 => wC 1 fun v227 => wA i v227 fun v229 => wSc L xs v229 fun v231 => wC 2 fun v233 => wA i v233 fun v235 => wSc L xs v235 fun v237 => isK S y 12 ∧ (wp_X12_take S M226 y v231 v237 <| fun v239 M241 => K S M241))
set_option maxHeartbeats 4000000 in
set_option maxRecDepth 100000 in
theorem t_Lc_9 {p : Program} {l : Launch} {e : Env} {s : State} {m : MethodId} {below : List Frame} {meth : Method} {c : Code} {D : va_G} {G : Gt} {b L : Nat} {xs : Nat → Int32} (C0 : CL p s m meth c b L xs D G) (x y : Int) (S : Sh) (M : Mm) (H : Heap) (locs : List Loc) (ls : Array Slot) (cells slots : Nat) (z3 : Int32) {K : Sh → Mm → Prop} (hP : Wd D G S M H) (hS : va_S (aG G) s.heap H locs) (hH : H.size = gB G + S.1) (hl : lv_has ls 4 [(0, .ref b), (1, .ref (adr G x)), (2, .ref (adr G y)), (3, .int z3)]) (hcb : cells + 1 ≤ 600000) (hsb : slots + 400 ≤ 7302250) (h : wp_Lc_9 L xs x y S M z3.toInt K) (kk : ∀ (S1 : Sh) (M1 : Mm) (H1 : Heap) (locs1 : List Loc) (ls1 : Array Slot) (cells1 slots1 : Nat), cells1 ≤ cells + 1 → slots1 ≤ slots + 400 → K S1 M1 → Wd D G S1 M1 H1 → va_S (aG G) s.heap H1 locs1 → H1.size = gB G + S1.1 → lv_has ls1 4 [(0, .ref b), (1, .ref (adr G x)), (2, .ref (adr G y)), (3, .int z3)] → W p l e room_1 s m #[Value.ref b] below meth c H1 locs1 cells1 slots1 (lw_Z below #[Value.ref b] s) (F0 m 1155 ls1 [])) : W p l e room_1 s m #[Value.ref b] below meth c H locs cells slots (lw_Z below #[Value.ref b] s) (F0 m 419 ls []) := by
  obtain ⟨⟨hx, hb, hr, hml, hown0, hts, hX, hbl, hlocks, hgv⟩, hK, hO, hbA, hG, hL, hgB⟩ := id C0
  have hown : s.vm.findClass RL = some m.cls := hown0
  unfold wp_Lc_9 at h
  refine lv_aload_n hx hb dL_law_419 rfl (lv_at hl 1 rfl) ?_
  refine lv_aload_n hx hb dL_law_420 rfl (lv_at hl 0 rfl) ?_
  refine lv_iload_n hx hb dL_law_421 rfl (lv_at hl 3 rfl) ?_
  refine r_iconst hx hb dL_law_422 (by decide) h (fun z213 h => ?_)
  refine r_iadd hx hb dL_law_423 h (fun z215 h => ?_)
  refine r_sc hx hb hX hbl hbA hS dL_law_424 h (fun z217 h => ?_)
  refine lv_aload_n hx hb dL_law_425 rfl (lv_at hl 0 rfl) ?_
  refine lv_iload_n hx hb dL_law_426 rfl (lv_at hl 3 rfl) ?_
  refine r_iconst hx hb dL_law_427 (by decide) h (fun z219 h => ?_)
  refine r_iadd hx hb dL_law_428 h (fun z221 h => ?_)
  refine r_sc hx hb hX hbl hbA hS dL_law_429 h (fun z223 h => ?_)
  refine q_Li hx hb hml hown hts hK hP hS hH (c_X11_take l D G _ _ x z217 z223 _ h.2) ⟨callB_of 2 hts (gw_goodL kw_999) rfl rfl rfl (hts _ (gw_in _ kw_1)) (hts _ (gw_in _ kw_996)) hd_X11_take ⟨Nat.le_of_ble_eq_true rfl, Nat.le_of_ble_eq_true rfl⟩, (hts _ (gw_in _ kw_997)), (hts _ (gw_in _ kw_998))⟩ h.1 (ci := 11) rfl (by decide) rfl hl.1 rfl (lv_room (Nat.le_of_ble_eq_true rfl)) dL_law_430 ⟨by show _ ≤ 600000; omega, by show _ ≤ 7302250; omega⟩ (fun z225 M226 H locs h hP hS hH => ?_)
  refine lv_pop hx hb dL_law_433 rfl ?_
  refine lv_aload_n hx hb dL_law_434 rfl (lv_at hl 2 rfl) ?_
  refine lv_aload_n hx hb dL_law_435 rfl (lv_at hl 0 rfl) ?_
  refine lv_iload_n hx hb dL_law_436 rfl (lv_at hl 3 rfl) ?_
  refine r_iconst hx hb dL_law_437 (by decide) h (fun z228 h => ?_)
  refine r_iadd hx hb dL_law_438 h (fun z230 h => ?_)
  refine r_sc hx hb hX hbl hbA hS dL_law_439 h (fun z232 h => ?_)
  refine lv_aload_n hx hb dL_law_440 rfl (lv_at hl 0 rfl) ?_
  refine lv_iload_n hx hb dL_law_441 rfl (lv_at hl 3 rfl) ?_
  refine r_iconst hx hb dL_law_442 (by decide) h (fun z234 h => ?_)
  refine r_iadd hx hb dL_law_443 h (fun z236 h => ?_)
  refine r_sc hx hb hX hbl hbA hS dL_law_444 h (fun z238 h => ?_)
  refine q_Li hx hb hml hown hts hK hP hS hH (c_X12_take l D G _ _ y z232 z238 _ h.2) ⟨callB_of 2 hts (gw_goodL kw_1752) rfl rfl rfl (hts _ (gw_in _ kw_14)) (hts _ (gw_in _ kw_1749)) hd_X12_take ⟨Nat.le_of_ble_eq_true rfl, Nat.le_of_ble_eq_true rfl⟩, (hts _ (gw_in _ kw_1750)), (hts _ (gw_in _ kw_1751))⟩ h.1 (ci := 12) rfl (by decide) rfl hl.1 rfl (lv_room (Nat.le_of_ble_eq_true rfl)) dL_law_445 ⟨by show _ ≤ 600000; omega, by show _ ≤ 7302250; omega⟩ (fun z240 M241 H locs h hP hS hH => ?_)
  refine lv_pop hx hb dL_law_448 rfl ?_
  refine lv_goto (tgt := 1155) hx hb dL_law_449 (by decide) ?_
  exact kk S M241 _ _ _ cells slots (by omega) (by omega) h hP hS hH hl
def wp_Lc_10 (L : Nat) (xs : Nat → Int32) (x y : Int) (S : Sh) (M : Mm) (i : Int) (K : Sh → Mm → Prop) : Prop := wC 1 fun v242 => wA i v242 fun v244 => wSc L xs v244 fun v246 => wC 2 fun v248 => wA i v248 fun v250 => wSc L xs v250 fun v252 => isK S x 11 ∧ (wp_X11_put S M x v246 v252 <| fun v254 M256 => wC 1 fun v257 => wA i v257 fun v259 => wSc L xs v259 fun v261 => wC 2 fun v263 => wA i v263 fun v265 => wSc L xs v265 fun v267 => isK S y 12 ∧ (wp_X12_put S M256 y v261 v267 <| fun v269 M271 => K S M271))
set_option maxHeartbeats 4000000 in
set_option maxRecDepth 100000 in
theorem t_Lc_10 {p : Program} {l : Launch} {e : Env} {s : State} {m : MethodId} {below : List Frame} {meth : Method} {c : Code} {D : va_G} {G : Gt} {b L : Nat} {xs : Nat → Int32} (C0 : CL p s m meth c b L xs D G) (x y : Int) (S : Sh) (M : Mm) (H : Heap) (locs : List Loc) (ls : Array Slot) (cells slots : Nat) (z3 : Int32) {K : Sh → Mm → Prop} (hP : Wd D G S M H) (hS : va_S (aG G) s.heap H locs) (hH : H.size = gB G + S.1) (hl : lv_has ls 4 [(0, .ref b), (1, .ref (adr G x)), (2, .ref (adr G y)), (3, .int z3)]) (hcb : cells + 1 ≤ 600000) (hsb : slots + 400 ≤ 7302250) (h : wp_Lc_10 L xs x y S M z3.toInt K) (kk : ∀ (S1 : Sh) (M1 : Mm) (H1 : Heap) (locs1 : List Loc) (ls1 : Array Slot) (cells1 slots1 : Nat), cells1 ≤ cells + 1 → slots1 ≤ slots + 400 → K S1 M1 → Wd D G S1 M1 H1 → va_S (aG G) s.heap H1 locs1 → H1.size = gB G + S1.1 → lv_has ls1 4 [(0, .ref b), (1, .ref (adr G x)), (2, .ref (adr G y)), (3, .int z3)] → W p l e room_1 s m #[Value.ref b] below meth c H1 locs1 cells1 slots1 (lw_Z below #[Value.ref b] s) (F0 m 1155 ls1 [])) : W p l e room_1 s m #[Value.ref b] below meth c H locs cells slots (lw_Z below #[Value.ref b] s) (F0 m 452 ls []) := by
  obtain ⟨⟨hx, hb, hr, hml, hown0, hts, hX, hbl, hlocks, hgv⟩, hK, hO, hbA, hG, hL, hgB⟩ := id C0
  have hown : s.vm.findClass RL = some m.cls := hown0
  unfold wp_Lc_10 at h
  refine lv_aload_n hx hb dL_law_452 rfl (lv_at hl 1 rfl) ?_
  refine lv_aload_n hx hb dL_law_453 rfl (lv_at hl 0 rfl) ?_
  refine lv_iload_n hx hb dL_law_454 rfl (lv_at hl 3 rfl) ?_
  refine r_iconst hx hb dL_law_455 (by decide) h (fun z243 h => ?_)
  refine r_iadd hx hb dL_law_456 h (fun z245 h => ?_)
  refine r_sc hx hb hX hbl hbA hS dL_law_457 h (fun z247 h => ?_)
  refine lv_aload_n hx hb dL_law_458 rfl (lv_at hl 0 rfl) ?_
  refine lv_iload_n hx hb dL_law_459 rfl (lv_at hl 3 rfl) ?_
  refine r_iconst hx hb dL_law_460 (by decide) h (fun z249 h => ?_)
  refine r_iadd hx hb dL_law_461 h (fun z251 h => ?_)
  refine r_sc hx hb hX hbl hbA hS dL_law_462 h (fun z253 h => ?_)
  refine q_Li hx hb hml hown hts hK hP hS hH (c_X11_put l D G _ _ x z247 z253 _ h.2) ⟨callB_of 2 hts (gw_goodL kw_1018) rfl rfl rfl (hts _ (gw_in _ kw_1)) (hts _ (gw_in _ kw_1015)) hd_X11_put ⟨Nat.le_of_ble_eq_true rfl, Nat.le_of_ble_eq_true rfl⟩, (hts _ (gw_in _ kw_1016)), (hts _ (gw_in _ kw_1017))⟩ h.1 (ci := 11) rfl (by decide) rfl hl.1 rfl (lv_room (Nat.le_of_ble_eq_true rfl)) dL_law_463 ⟨by show _ ≤ 600000; omega, by show _ ≤ 7302250; omega⟩ (fun z255 M256 H locs h hP hS hH => ?_)
  refine lv_pop hx hb dL_law_466 rfl ?_
  refine lv_aload_n hx hb dL_law_467 rfl (lv_at hl 2 rfl) ?_
  refine lv_aload_n hx hb dL_law_468 rfl (lv_at hl 0 rfl) ?_
  refine lv_iload_n hx hb dL_law_469 rfl (lv_at hl 3 rfl) ?_
  refine r_iconst hx hb dL_law_470 (by decide) h (fun z258 h => ?_)
  refine r_iadd hx hb dL_law_471 h (fun z260 h => ?_)
  refine r_sc hx hb hX hbl hbA hS dL_law_472 h (fun z262 h => ?_)
  refine lv_aload_n hx hb dL_law_473 rfl (lv_at hl 0 rfl) ?_
  refine lv_iload_n hx hb dL_law_474 rfl (lv_at hl 3 rfl) ?_
  refine r_iconst hx hb dL_law_475 (by decide) h (fun z264 h => ?_)
  refine r_iadd hx hb dL_law_476 h (fun z266 h => ?_)
  refine r_sc hx hb hX hbl hbA hS dL_law_477 h (fun z268 h => ?_)
  refine q_Li hx hb hml hown hts hK hP hS hH (c_X12_put l D G _ _ y z262 z268 _ h.2) ⟨callB_of 2 hts (gw_goodL kw_1768) rfl rfl rfl (hts _ (gw_in _ kw_14)) (hts _ (gw_in _ kw_1765)) hd_X12_put ⟨Nat.le_of_ble_eq_true rfl, Nat.le_of_ble_eq_true rfl⟩, (hts _ (gw_in _ kw_1766)), (hts _ (gw_in _ kw_1767))⟩ h.1 (ci := 12) rfl (by decide) rfl hl.1 rfl (lv_room (Nat.le_of_ble_eq_true rfl)) dL_law_478 ⟨by show _ ≤ 600000; omega, by show _ ≤ 7302250; omega⟩ (fun z270 M271 H locs h hP hS hH => ?_)
  refine lv_pop hx hb dL_law_481 rfl ?_
  refine lv_goto (tgt := 1155) hx hb dL_law_482 (by decide) ?_
  exact kk S M271 _ _ _ cells slots (by omega) (by omega) h hP hS hH hl
def wp_Lc_11 (L : Nat) (xs : Nat → Int32) (x y : Int) (S : Sh) (M : Mm) (i : Int) (K : Sh → Mm → Prop) : Prop := wC 1 fun v272 => wA i v272 fun v274 => wSc L xs v274 fun v276 => wC 2 fun v278 => wA i v278 fun v280 => wSc L xs v280 fun v282 => isK S x 11 ∧ (wp_X11_handOn S M x v276 v282 <| fun v284 M286 => wC 1 fun v287 => wA i v287 fun v289 => wSc L xs v289 fun v291 => wC 2 fun v293 => wA i v293 fun v295 => wSc L xs v295 fun v297 => isK S y 12 ∧ (wp_X12_handOn S M286 y v291 v297 <| fun v299 M301 => K S M301))
set_option maxHeartbeats 4000000 in
set_option maxRecDepth 100000 in
theorem t_Lc_11 {p : Program} {l : Launch} {e : Env} {s : State} {m : MethodId} {below : List Frame} {meth : Method} {c : Code} {D : va_G} {G : Gt} {b L : Nat} {xs : Nat → Int32} (C0 : CL p s m meth c b L xs D G) (x y : Int) (S : Sh) (M : Mm) (H : Heap) (locs : List Loc) (ls : Array Slot) (cells slots : Nat) (z3 : Int32) {K : Sh → Mm → Prop} (hP : Wd D G S M H) (hS : va_S (aG G) s.heap H locs) (hH : H.size = gB G + S.1) (hl : lv_has ls 4 [(0, .ref b), (1, .ref (adr G x)), (2, .ref (adr G y)), (3, .int z3)]) (hcb : cells + 1 ≤ 600000) (hsb : slots + 400 ≤ 7302250) (h : wp_Lc_11 L xs x y S M z3.toInt K) (kk : ∀ (S1 : Sh) (M1 : Mm) (H1 : Heap) (locs1 : List Loc) (ls1 : Array Slot) (cells1 slots1 : Nat), cells1 ≤ cells + 1 → slots1 ≤ slots + 400 → K S1 M1 → Wd D G S1 M1 H1 → va_S (aG G) s.heap H1 locs1 → H1.size = gB G + S1.1 → lv_has ls1 4 [(0, .ref b), (1, .ref (adr G x)), (2, .ref (adr G y)), (3, .int z3)] → W p l e room_1 s m #[Value.ref b] below meth c H1 locs1 cells1 slots1 (lw_Z below #[Value.ref b] s) (F0 m 1155 ls1 [])) : W p l e room_1 s m #[Value.ref b] below meth c H locs cells slots (lw_Z below #[Value.ref b] s) (F0 m 485 ls []) := by
  obtain ⟨⟨hx, hb, hr, hml, hown0, hts, hX, hbl, hlocks, hgv⟩, hK, hO, hbA, hG, hL, hgB⟩ := id C0
  have hown : s.vm.findClass RL = some m.cls := hown0
  unfold wp_Lc_11 at h
  refine lv_aload_n hx hb dL_law_485 rfl (lv_at hl 1 rfl) ?_
  refine lv_aload_n hx hb dL_law_486 rfl (lv_at hl 0 rfl) ?_
  refine lv_iload_n hx hb dL_law_487 rfl (lv_at hl 3 rfl) ?_
  refine r_iconst hx hb dL_law_488 (by decide) h (fun z273 h => ?_)
  refine r_iadd hx hb dL_law_489 h (fun z275 h => ?_)
  refine r_sc hx hb hX hbl hbA hS dL_law_490 h (fun z277 h => ?_)
  refine lv_aload_n hx hb dL_law_491 rfl (lv_at hl 0 rfl) ?_
  refine lv_iload_n hx hb dL_law_492 rfl (lv_at hl 3 rfl) ?_
  refine r_iconst hx hb dL_law_493 (by decide) h (fun z279 h => ?_)
  refine r_iadd hx hb dL_law_494 h (fun z281 h => ?_)
  refine r_sc hx hb hX hbl hbA hS dL_law_495 h (fun z283 h => ?_)
  refine q_Li hx hb hml hown hts hK hP hS hH (c_X11_handOn l D G _ _ x z277 z283 _ h.2) ⟨callB_of 2 hts (gw_goodL kw_1023) rfl rfl rfl (hts _ (gw_in _ kw_1)) (hts _ (gw_in _ kw_1020)) hd_X11_handOn ⟨Nat.le_of_ble_eq_true rfl, Nat.le_of_ble_eq_true rfl⟩, (hts _ (gw_in _ kw_1021)), (hts _ (gw_in _ kw_1022))⟩ h.1 (ci := 11) rfl (by decide) rfl hl.1 rfl (lv_room (Nat.le_of_ble_eq_true rfl)) dL_law_496 ⟨by show _ ≤ 600000; omega, by show _ ≤ 7302250; omega⟩ (fun z285 M286 H locs h hP hS hH => ?_)
  refine lv_pop hx hb dL_law_499 rfl ?_
  refine lv_aload_n hx hb dL_law_500 rfl (lv_at hl 2 rfl) ?_
  refine lv_aload_n hx hb dL_law_501 rfl (lv_at hl 0 rfl) ?_
  refine lv_iload_n hx hb dL_law_502 rfl (lv_at hl 3 rfl) ?_
  refine r_iconst hx hb dL_law_503 (by decide) h (fun z288 h => ?_)
  refine r_iadd hx hb dL_law_504 h (fun z290 h => ?_)
  refine r_sc hx hb hX hbl hbA hS dL_law_505 h (fun z292 h => ?_)
  refine lv_aload_n hx hb dL_law_506 rfl (lv_at hl 0 rfl) ?_
  refine lv_iload_n hx hb dL_law_507 rfl (lv_at hl 3 rfl) ?_
  refine r_iconst hx hb dL_law_508 (by decide) h (fun z294 h => ?_)
  refine r_iadd hx hb dL_law_509 h (fun z296 h => ?_)
  refine r_sc hx hb hX hbl hbA hS dL_law_510 h (fun z298 h => ?_)
  refine q_Li hx hb hml hown hts hK hP hS hH (c_X12_handOn l D G _ _ y z292 z298 _ h.2) ⟨callB_of 2 hts (gw_goodL kw_1772) rfl rfl rfl (hts _ (gw_in _ kw_14)) (hts _ (gw_in _ kw_1769)) hd_X12_handOn ⟨Nat.le_of_ble_eq_true rfl, Nat.le_of_ble_eq_true rfl⟩, (hts _ (gw_in _ kw_1770)), (hts _ (gw_in _ kw_1771))⟩ h.1 (ci := 12) rfl (by decide) rfl hl.1 rfl (lv_room (Nat.le_of_ble_eq_true rfl)) dL_law_511 ⟨by show _ ≤ 600000; omega, by show _ ≤ 7302250; omega⟩ (fun z300 M301 H locs h hP hS hH => ?_)
  refine lv_pop hx hb dL_law_514 rfl ?_
  refine lv_goto (tgt := 1155) hx hb dL_law_515 (by decide) ?_
  exact kk S M301 _ _ _ cells slots (by omega) (by omega) h hP hS hH hl
def wp_Lc_12 (L : Nat) (xs : Nat → Int32) (x y : Int) (S : Sh) (M : Mm) (i : Int) (K : Sh → Mm → Prop) : Prop := wC 1 fun v302 => wA i v302 fun v304 => wSc L xs v304 fun v306 => wC 2 fun v308 => wA i v308 fun v310 => wSc L xs v310 fun v312 => isK S x 11 ∧ (wp_X11_go S M x v306 v312 <| fun v314 M316 => wC 1 fun v317 => wA i v317 fun v319 => wSc L xs v319 fun v321 => wC 2 fun v323 => wA i v323 fun v325 => wSc L xs v325 fun v327 => isK S y 12 ∧ (wp_X12_go S M316 y v321 v327 <| fun v329 M331 => K S M331))
set_option maxHeartbeats 4000000 in
set_option maxRecDepth 100000 in
theorem t_Lc_12 {p : Program} {l : Launch} {e : Env} {s : State} {m : MethodId} {below : List Frame} {meth : Method} {c : Code} {D : va_G} {G : Gt} {b L : Nat} {xs : Nat → Int32} (C0 : CL p s m meth c b L xs D G) (x y : Int) (S : Sh) (M : Mm) (H : Heap) (locs : List Loc) (ls : Array Slot) (cells slots : Nat) (z3 : Int32) {K : Sh → Mm → Prop} (hP : Wd D G S M H) (hS : va_S (aG G) s.heap H locs) (hH : H.size = gB G + S.1) (hl : lv_has ls 4 [(0, .ref b), (1, .ref (adr G x)), (2, .ref (adr G y)), (3, .int z3)]) (hcb : cells + 1 ≤ 600000) (hsb : slots + 400 ≤ 7302250) (h : wp_Lc_12 L xs x y S M z3.toInt K) (kk : ∀ (S1 : Sh) (M1 : Mm) (H1 : Heap) (locs1 : List Loc) (ls1 : Array Slot) (cells1 slots1 : Nat), cells1 ≤ cells + 1 → slots1 ≤ slots + 400 → K S1 M1 → Wd D G S1 M1 H1 → va_S (aG G) s.heap H1 locs1 → H1.size = gB G + S1.1 → lv_has ls1 4 [(0, .ref b), (1, .ref (adr G x)), (2, .ref (adr G y)), (3, .int z3)] → W p l e room_1 s m #[Value.ref b] below meth c H1 locs1 cells1 slots1 (lw_Z below #[Value.ref b] s) (F0 m 1155 ls1 [])) : W p l e room_1 s m #[Value.ref b] below meth c H locs cells slots (lw_Z below #[Value.ref b] s) (F0 m 518 ls []) := by
  obtain ⟨⟨hx, hb, hr, hml, hown0, hts, hX, hbl, hlocks, hgv⟩, hK, hO, hbA, hG, hL, hgB⟩ := id C0
  have hown : s.vm.findClass RL = some m.cls := hown0
  unfold wp_Lc_12 at h
  refine lv_aload_n hx hb dL_law_518 rfl (lv_at hl 1 rfl) ?_
  refine lv_aload_n hx hb dL_law_519 rfl (lv_at hl 0 rfl) ?_
  refine lv_iload_n hx hb dL_law_520 rfl (lv_at hl 3 rfl) ?_
  refine r_iconst hx hb dL_law_521 (by decide) h (fun z303 h => ?_)
  refine r_iadd hx hb dL_law_522 h (fun z305 h => ?_)
  refine r_sc hx hb hX hbl hbA hS dL_law_523 h (fun z307 h => ?_)
  refine lv_aload_n hx hb dL_law_524 rfl (lv_at hl 0 rfl) ?_
  refine lv_iload_n hx hb dL_law_525 rfl (lv_at hl 3 rfl) ?_
  refine r_iconst hx hb dL_law_526 (by decide) h (fun z309 h => ?_)
  refine r_iadd hx hb dL_law_527 h (fun z311 h => ?_)
  refine r_sc hx hb hX hbl hbA hS dL_law_528 h (fun z313 h => ?_)
  refine q_Li hx hb hml hown hts hK hP hS hH (c_X11_go l D G _ _ x z307 z313 _ h.2) ⟨callB_of 2 hts (gw_goodL kw_1031) rfl rfl rfl (hts _ (gw_in _ kw_1)) (hts _ (gw_in _ kw_1028)) hd_X11_go ⟨Nat.le_of_ble_eq_true rfl, Nat.le_of_ble_eq_true rfl⟩, (hts _ (gw_in _ kw_1029)), (hts _ (gw_in _ kw_1030))⟩ h.1 (ci := 11) rfl (by decide) rfl hl.1 rfl (lv_room (Nat.le_of_ble_eq_true rfl)) dL_law_529 ⟨by show _ ≤ 600000; omega, by show _ ≤ 7302250; omega⟩ (fun z315 M316 H locs h hP hS hH => ?_)
  refine lv_pop hx hb dL_law_532 rfl ?_
  refine lv_aload_n hx hb dL_law_533 rfl (lv_at hl 2 rfl) ?_
  refine lv_aload_n hx hb dL_law_534 rfl (lv_at hl 0 rfl) ?_
  refine lv_iload_n hx hb dL_law_535 rfl (lv_at hl 3 rfl) ?_
  refine r_iconst hx hb dL_law_536 (by decide) h (fun z318 h => ?_)
  refine r_iadd hx hb dL_law_537 h (fun z320 h => ?_)
  refine r_sc hx hb hX hbl hbA hS dL_law_538 h (fun z322 h => ?_)
  refine lv_aload_n hx hb dL_law_539 rfl (lv_at hl 0 rfl) ?_
  refine lv_iload_n hx hb dL_law_540 rfl (lv_at hl 3 rfl) ?_
  refine r_iconst hx hb dL_law_541 (by decide) h (fun z324 h => ?_)
  refine r_iadd hx hb dL_law_542 h (fun z326 h => ?_)
  refine r_sc hx hb hX hbl hbA hS dL_law_543 h (fun z328 h => ?_)
  refine q_Li hx hb hml hown hts hK hP hS hH (c_X12_go l D G _ _ y z322 z328 _ h.2) ⟨callB_of 2 hts (gw_goodL kw_1776) rfl rfl rfl (hts _ (gw_in _ kw_14)) (hts _ (gw_in _ kw_1773)) hd_X12_go ⟨Nat.le_of_ble_eq_true rfl, Nat.le_of_ble_eq_true rfl⟩, (hts _ (gw_in _ kw_1774)), (hts _ (gw_in _ kw_1775))⟩ h.1 (ci := 12) rfl (by decide) rfl hl.1 rfl (lv_room (Nat.le_of_ble_eq_true rfl)) dL_law_544 ⟨by show _ ≤ 600000; omega, by show _ ≤ 7302250; omega⟩ (fun z330 M331 H locs h hP hS hH => ?_)
  refine lv_pop hx hb dL_law_547 rfl ?_
  refine lv_goto (tgt := 1155) hx hb dL_law_548 (by decide) ?_
  exact kk S M331 _ _ _ cells slots (by omega) (by omega) h hP hS hH hl
def wp_Lc_13 (L : Nat) (xs : Nat → Int32) (x y : Int) (S : Sh) (M : Mm) (i : Int) (K : Sh → Mm → Prop) : Prop := wC 1 fun v332 => wA i v332 fun v334 => wSc L xs v334 fun v336 => isK S x 11 ∧ (wp_X11_meet S M x v336 <| fun v338 M340 => wC 1 fun v341 => wA i v341 fun v343 => wSc L xs v343 fun v345 => isK S y 12 ∧ (wp_X12_meet S M340 y v345 <| fun v347 M349 => K S M349))
set_option maxHeartbeats 4000000 in
set_option maxRecDepth 100000 in
theorem t_Lc_13 {p : Program} {l : Launch} {e : Env} {s : State} {m : MethodId} {below : List Frame} {meth : Method} {c : Code} {D : va_G} {G : Gt} {b L : Nat} {xs : Nat → Int32} (C0 : CL p s m meth c b L xs D G) (x y : Int) (S : Sh) (M : Mm) (H : Heap) (locs : List Loc) (ls : Array Slot) (cells slots : Nat) (z3 : Int32) {K : Sh → Mm → Prop} (hP : Wd D G S M H) (hS : va_S (aG G) s.heap H locs) (hH : H.size = gB G + S.1) (hl : lv_has ls 4 [(0, .ref b), (1, .ref (adr G x)), (2, .ref (adr G y)), (3, .int z3)]) (hcb : cells + 1 ≤ 600000) (hsb : slots + 400 ≤ 7302250) (h : wp_Lc_13 L xs x y S M z3.toInt K) (kk : ∀ (S1 : Sh) (M1 : Mm) (H1 : Heap) (locs1 : List Loc) (ls1 : Array Slot) (cells1 slots1 : Nat), cells1 ≤ cells + 1 → slots1 ≤ slots + 400 → K S1 M1 → Wd D G S1 M1 H1 → va_S (aG G) s.heap H1 locs1 → H1.size = gB G + S1.1 → lv_has ls1 4 [(0, .ref b), (1, .ref (adr G x)), (2, .ref (adr G y)), (3, .int z3)] → W p l e room_1 s m #[Value.ref b] below meth c H1 locs1 cells1 slots1 (lw_Z below #[Value.ref b] s) (F0 m 1155 ls1 [])) : W p l e room_1 s m #[Value.ref b] below meth c H locs cells slots (lw_Z below #[Value.ref b] s) (F0 m 551 ls []) := by
  obtain ⟨⟨hx, hb, hr, hml, hown0, hts, hX, hbl, hlocks, hgv⟩, hK, hO, hbA, hG, hL, hgB⟩ := id C0
  have hown : s.vm.findClass RL = some m.cls := hown0
  unfold wp_Lc_13 at h
  refine lv_aload_n hx hb dL_law_551 rfl (lv_at hl 1 rfl) ?_
  refine lv_aload_n hx hb dL_law_552 rfl (lv_at hl 0 rfl) ?_
  refine lv_iload_n hx hb dL_law_553 rfl (lv_at hl 3 rfl) ?_
  refine r_iconst hx hb dL_law_554 (by decide) h (fun z333 h => ?_)
  refine r_iadd hx hb dL_law_555 h (fun z335 h => ?_)
  refine r_sc hx hb hX hbl hbA hS dL_law_556 h (fun z337 h => ?_)
  refine q_Li hx hb hml hown hts hK hP hS hH (c_X11_meet l D G _ _ x z337 _ h.2) ⟨callB_of 1 hts (gw_goodL kw_1048) rfl rfl rfl (hts _ (gw_in _ kw_1)) (hts _ (gw_in _ kw_1045)) hd_X11_meet ⟨Nat.le_of_ble_eq_true rfl, Nat.le_of_ble_eq_true rfl⟩, (hts _ (gw_in _ kw_1046)), (hts _ (gw_in _ kw_1047))⟩ h.1 (ci := 11) rfl (by decide) rfl hl.1 rfl (lv_room (Nat.le_of_ble_eq_true rfl)) dL_law_557 ⟨by show _ ≤ 600000; omega, by show _ ≤ 7302250; omega⟩ (fun z339 M340 H locs h hP hS hH => ?_)
  refine lv_pop hx hb dL_law_560 rfl ?_
  refine lv_aload_n hx hb dL_law_561 rfl (lv_at hl 2 rfl) ?_
  refine lv_aload_n hx hb dL_law_562 rfl (lv_at hl 0 rfl) ?_
  refine lv_iload_n hx hb dL_law_563 rfl (lv_at hl 3 rfl) ?_
  refine r_iconst hx hb dL_law_564 (by decide) h (fun z342 h => ?_)
  refine r_iadd hx hb dL_law_565 h (fun z344 h => ?_)
  refine r_sc hx hb hX hbl hbA hS dL_law_566 h (fun z346 h => ?_)
  refine q_Li hx hb hml hown hts hK hP hS hH (c_X12_meet l D G _ _ y z346 _ h.2) ⟨callB_of 1 hts (gw_goodL kw_1796) rfl rfl rfl (hts _ (gw_in _ kw_14)) (hts _ (gw_in _ kw_1793)) hd_X12_meet ⟨Nat.le_of_ble_eq_true rfl, Nat.le_of_ble_eq_true rfl⟩, (hts _ (gw_in _ kw_1794)), (hts _ (gw_in _ kw_1795))⟩ h.1 (ci := 12) rfl (by decide) rfl hl.1 rfl (lv_room (Nat.le_of_ble_eq_true rfl)) dL_law_567 ⟨by show _ ≤ 600000; omega, by show _ ≤ 7302250; omega⟩ (fun z348 M349 H locs h hP hS hH => ?_)
  refine lv_pop hx hb dL_law_570 rfl ?_
  refine lv_goto (tgt := 1155) hx hb dL_law_571 (by decide) ?_
  exact kk S M349 _ _ _ cells slots (by omega) (by omega) h hP hS hH hl
def wp_Lc_14 (L : Nat) (xs : Nat → Int32) (x y : Int) (S : Sh) (M : Mm) (i : Int) (K : Sh → Mm → Prop) : Prop := isK S x 11 ∧ (wp_X11_undo S M x <| fun v350 M352 => isK S y 12 ∧ (wp_X12_undo S M352 y <| fun v353 M355 => K S M355))
set_option maxHeartbeats 4000000 in
set_option maxRecDepth 100000 in
theorem t_Lc_14 {p : Program} {l : Launch} {e : Env} {s : State} {m : MethodId} {below : List Frame} {meth : Method} {c : Code} {D : va_G} {G : Gt} {b L : Nat} {xs : Nat → Int32} (C0 : CL p s m meth c b L xs D G) (x y : Int) (S : Sh) (M : Mm) (H : Heap) (locs : List Loc) (ls : Array Slot) (cells slots : Nat) (z3 : Int32) {K : Sh → Mm → Prop} (hP : Wd D G S M H) (hS : va_S (aG G) s.heap H locs) (hH : H.size = gB G + S.1) (hl : lv_has ls 4 [(0, .ref b), (1, .ref (adr G x)), (2, .ref (adr G y)), (3, .int z3)]) (hcb : cells + 1 ≤ 600000) (hsb : slots + 400 ≤ 7302250) (h : wp_Lc_14 L xs x y S M z3.toInt K) (kk : ∀ (S1 : Sh) (M1 : Mm) (H1 : Heap) (locs1 : List Loc) (ls1 : Array Slot) (cells1 slots1 : Nat), cells1 ≤ cells + 1 → slots1 ≤ slots + 400 → K S1 M1 → Wd D G S1 M1 H1 → va_S (aG G) s.heap H1 locs1 → H1.size = gB G + S1.1 → lv_has ls1 4 [(0, .ref b), (1, .ref (adr G x)), (2, .ref (adr G y)), (3, .int z3)] → W p l e room_1 s m #[Value.ref b] below meth c H1 locs1 cells1 slots1 (lw_Z below #[Value.ref b] s) (F0 m 1155 ls1 [])) : W p l e room_1 s m #[Value.ref b] below meth c H locs cells slots (lw_Z below #[Value.ref b] s) (F0 m 574 ls []) := by
  obtain ⟨⟨hx, hb, hr, hml, hown0, hts, hX, hbl, hlocks, hgv⟩, hK, hO, hbA, hG, hL, hgB⟩ := id C0
  have hown : s.vm.findClass RL = some m.cls := hown0
  unfold wp_Lc_14 at h
  refine lv_aload_n hx hb dL_law_574 rfl (lv_at hl 1 rfl) ?_
  refine q_Li hx hb hml hown hts hK hP hS hH (c_X11_undo l D G _ _ x _ h.2) ⟨callB_of 0 hts (gw_goodL kw_1052) rfl rfl rfl (hts _ (gw_in _ kw_1)) (hts _ (gw_in _ kw_1049)) hd_X11_undo ⟨Nat.le_of_ble_eq_true rfl, Nat.le_of_ble_eq_true rfl⟩, (hts _ (gw_in _ kw_1050)), (hts _ (gw_in _ kw_1051))⟩ h.1 (ci := 11) rfl (by decide) rfl hl.1 rfl (lv_room (Nat.le_of_ble_eq_true rfl)) dL_law_575 ⟨by show _ ≤ 600000; omega, by show _ ≤ 7302250; omega⟩ (fun z351 M352 H locs h hP hS hH => ?_)
  refine lv_pop hx hb dL_law_578 rfl ?_
  refine lv_aload_n hx hb dL_law_579 rfl (lv_at hl 2 rfl) ?_
  refine q_Li hx hb hml hown hts hK hP hS hH (c_X12_undo l D G _ _ y _ h.2) ⟨callB_of 0 hts (gw_goodL kw_1690) rfl rfl rfl (hts _ (gw_in _ kw_14)) (hts _ (gw_in _ kw_1687)) hd_X12_undo ⟨Nat.le_of_ble_eq_true rfl, Nat.le_of_ble_eq_true rfl⟩, (hts _ (gw_in _ kw_1688)), (hts _ (gw_in _ kw_1689))⟩ h.1 (ci := 12) rfl (by decide) rfl hl.1 rfl (lv_room (Nat.le_of_ble_eq_true rfl)) dL_law_580 ⟨by show _ ≤ 600000; omega, by show _ ≤ 7302250; omega⟩ (fun z354 M355 H locs h hP hS hH => ?_)
  refine lv_pop hx hb dL_law_583 rfl ?_
  refine lv_goto (tgt := 1155) hx hb dL_law_584 (by decide) ?_
  exact kk S M355 _ _ _ cells slots (by omega) (by omega) h hP hS hH hl
def wp_Lc_15 (L : Nat) (xs : Nat → Int32) (x y : Int) (S : Sh) (M : Mm) (i : Int) (K : Sh → Mm → Prop) : Prop := wC 1 fun v356 => wA i v356 fun v358 => wSc L xs v358 fun v360 => wC 2 fun v362 => wA i v362 fun v364 => wSc L xs v364 fun v366 => wC 3 fun v368 => wA i v368 fun v370 => wSc L xs v370 fun v372 => isK S x 11 ∧ (wp_X11_ahead S M x v360 v366 v372 <| fun v374 M376 => wC 1 fun v377 => wA i v377 fun v379 => wSc L xs v379 fun v381 => wC 2 fun v383 => wA i v383 fun v385 => wSc L xs v385 fun v387 => wC 3 fun v389 => wA i v389 fun v391 => wSc L xs v391 fun v393 => isK S y 12 ∧ (wp_X12_ahead S M376 y v381 v387 v393 <| fun v395 M397 => K S M397))
set_option maxHeartbeats 4000000 in
set_option maxRecDepth 100000 in
theorem t_Lc_15 {p : Program} {l : Launch} {e : Env} {s : State} {m : MethodId} {below : List Frame} {meth : Method} {c : Code} {D : va_G} {G : Gt} {b L : Nat} {xs : Nat → Int32} (C0 : CL p s m meth c b L xs D G) (x y : Int) (S : Sh) (M : Mm) (H : Heap) (locs : List Loc) (ls : Array Slot) (cells slots : Nat) (z3 : Int32) {K : Sh → Mm → Prop} (hP : Wd D G S M H) (hS : va_S (aG G) s.heap H locs) (hH : H.size = gB G + S.1) (hl : lv_has ls 4 [(0, .ref b), (1, .ref (adr G x)), (2, .ref (adr G y)), (3, .int z3)]) (hcb : cells + 1 ≤ 600000) (hsb : slots + 400 ≤ 7302250) (h : wp_Lc_15 L xs x y S M z3.toInt K) (kk : ∀ (S1 : Sh) (M1 : Mm) (H1 : Heap) (locs1 : List Loc) (ls1 : Array Slot) (cells1 slots1 : Nat), cells1 ≤ cells + 1 → slots1 ≤ slots + 400 → K S1 M1 → Wd D G S1 M1 H1 → va_S (aG G) s.heap H1 locs1 → H1.size = gB G + S1.1 → lv_has ls1 4 [(0, .ref b), (1, .ref (adr G x)), (2, .ref (adr G y)), (3, .int z3)] → W p l e room_1 s m #[Value.ref b] below meth c H1 locs1 cells1 slots1 (lw_Z below #[Value.ref b] s) (F0 m 1155 ls1 [])) : W p l e room_1 s m #[Value.ref b] below meth c H locs cells slots (lw_Z below #[Value.ref b] s) (F0 m 587 ls []) := by
  obtain ⟨⟨hx, hb, hr, hml, hown0, hts, hX, hbl, hlocks, hgv⟩, hK, hO, hbA, hG, hL, hgB⟩ := id C0
  have hown : s.vm.findClass RL = some m.cls := hown0
  unfold wp_Lc_15 at h
  refine lv_aload_n hx hb dL_law_587 rfl (lv_at hl 1 rfl) ?_
  refine lv_aload_n hx hb dL_law_588 rfl (lv_at hl 0 rfl) ?_
  refine lv_iload_n hx hb dL_law_589 rfl (lv_at hl 3 rfl) ?_
  refine r_iconst hx hb dL_law_590 (by decide) h (fun z357 h => ?_)
  refine r_iadd hx hb dL_law_591 h (fun z359 h => ?_)
  refine r_sc hx hb hX hbl hbA hS dL_law_592 h (fun z361 h => ?_)
  refine lv_aload_n hx hb dL_law_593 rfl (lv_at hl 0 rfl) ?_
  refine lv_iload_n hx hb dL_law_594 rfl (lv_at hl 3 rfl) ?_
  refine r_iconst hx hb dL_law_595 (by decide) h (fun z363 h => ?_)
  refine r_iadd hx hb dL_law_596 h (fun z365 h => ?_)
  refine r_sc hx hb hX hbl hbA hS dL_law_597 h (fun z367 h => ?_)
  refine lv_aload_n hx hb dL_law_598 rfl (lv_at hl 0 rfl) ?_
  refine lv_iload_n hx hb dL_law_599 rfl (lv_at hl 3 rfl) ?_
  refine r_iconst hx hb dL_law_600 (by decide) h (fun z369 h => ?_)
  refine r_iadd hx hb dL_law_601 h (fun z371 h => ?_)
  refine r_sc hx hb hX hbl hbA hS dL_law_602 h (fun z373 h => ?_)
  refine q_Li hx hb hml hown hts hK hP hS hH (c_X11_ahead l D G _ _ x z361 z367 z373 _ h.2) ⟨callB_of 3 hts (gw_goodL kw_1056) rfl rfl rfl (hts _ (gw_in _ kw_1)) (hts _ (gw_in _ kw_1053)) hd_X11_ahead ⟨Nat.le_of_ble_eq_true rfl, Nat.le_of_ble_eq_true rfl⟩, (hts _ (gw_in _ kw_1054)), (hts _ (gw_in _ kw_1055))⟩ h.1 (ci := 11) rfl (by decide) rfl hl.1 rfl (lv_room (Nat.le_of_ble_eq_true rfl)) dL_law_603 ⟨by show _ ≤ 600000; omega, by show _ ≤ 7302250; omega⟩ (fun z375 M376 H locs h hP hS hH => ?_)
  refine lv_pop hx hb dL_law_606 rfl ?_
  refine lv_aload_n hx hb dL_law_607 rfl (lv_at hl 2 rfl) ?_
  refine lv_aload_n hx hb dL_law_608 rfl (lv_at hl 0 rfl) ?_
  refine lv_iload_n hx hb dL_law_609 rfl (lv_at hl 3 rfl) ?_
  refine r_iconst hx hb dL_law_610 (by decide) h (fun z378 h => ?_)
  refine r_iadd hx hb dL_law_611 h (fun z380 h => ?_)
  refine r_sc hx hb hX hbl hbA hS dL_law_612 h (fun z382 h => ?_)
  refine lv_aload_n hx hb dL_law_613 rfl (lv_at hl 0 rfl) ?_
  refine lv_iload_n hx hb dL_law_614 rfl (lv_at hl 3 rfl) ?_
  refine r_iconst hx hb dL_law_615 (by decide) h (fun z384 h => ?_)
  refine r_iadd hx hb dL_law_616 h (fun z386 h => ?_)
  refine r_sc hx hb hX hbl hbA hS dL_law_617 h (fun z388 h => ?_)
  refine lv_aload_n hx hb dL_law_618 rfl (lv_at hl 0 rfl) ?_
  refine lv_iload_n hx hb dL_law_619 rfl (lv_at hl 3 rfl) ?_
  refine r_iconst hx hb dL_law_620 (by decide) h (fun z390 h => ?_)
  refine r_iadd hx hb dL_law_621 h (fun z392 h => ?_)
  refine r_sc hx hb hX hbl hbA hS dL_law_622 h (fun z394 h => ?_)
  refine q_Li hx hb hml hown hts hK hP hS hH (c_X12_ahead l D G _ _ y z382 z388 z394 _ h.2) ⟨callB_of 3 hts (gw_goodL kw_1800) rfl rfl rfl (hts _ (gw_in _ kw_14)) (hts _ (gw_in _ kw_1797)) hd_X12_ahead ⟨Nat.le_of_ble_eq_true rfl, Nat.le_of_ble_eq_true rfl⟩, (hts _ (gw_in _ kw_1798)), (hts _ (gw_in _ kw_1799))⟩ h.1 (ci := 12) rfl (by decide) rfl hl.1 rfl (lv_room (Nat.le_of_ble_eq_true rfl)) dL_law_623 ⟨by show _ ≤ 600000; omega, by show _ ≤ 7302250; omega⟩ (fun z396 M397 H locs h hP hS hH => ?_)
  refine lv_pop hx hb dL_law_626 rfl ?_
  refine lv_goto (tgt := 1155) hx hb dL_law_627 (by decide) ?_
  exact kk S M397 _ _ _ cells slots (by omega) (by omega) h hP hS hH hl
def wp_Lc_16 (L : Nat) (xs : Nat → Int32) (x y : Int) (S : Sh) (M : Mm) (i : Int) (K : Sh → Mm → Prop) : Prop := wC 1 fun v398 => wA i v398 fun v400 => wSc L xs v400 fun v402 => wC 2 fun v404 => wA i v404 fun v406 => wSc L xs v406 fun v408 => wC 3 fun v410 => wA i v410 fun v412 => wSc L xs v412 fun v414 => isK S x 11 ∧ (wp_X11_way S M x v402 v408 v414 <| fun v416 M418 => wC 1 fun v419 => wA i v419 fun v421 => wSc L xs v421 fun v423 => wC 2 fun v425 => wA i v425 fun v427 => wSc L xs v427 fun v429 => wC 3 fun v431 => wA i v431 fun v433 => wSc L xs v433 fun v435 => isK S y 12 ∧ (wp_X12_way S M418 y v423 v429 v435 <| fun v437 M439 => K S M439))
set_option maxHeartbeats 4000000 in
set_option maxRecDepth 100000 in
theorem t_Lc_16 {p : Program} {l : Launch} {e : Env} {s : State} {m : MethodId} {below : List Frame} {meth : Method} {c : Code} {D : va_G} {G : Gt} {b L : Nat} {xs : Nat → Int32} (C0 : CL p s m meth c b L xs D G) (x y : Int) (S : Sh) (M : Mm) (H : Heap) (locs : List Loc) (ls : Array Slot) (cells slots : Nat) (z3 : Int32) {K : Sh → Mm → Prop} (hP : Wd D G S M H) (hS : va_S (aG G) s.heap H locs) (hH : H.size = gB G + S.1) (hl : lv_has ls 4 [(0, .ref b), (1, .ref (adr G x)), (2, .ref (adr G y)), (3, .int z3)]) (hcb : cells + 1 ≤ 600000) (hsb : slots + 400 ≤ 7302250) (h : wp_Lc_16 L xs x y S M z3.toInt K) (kk : ∀ (S1 : Sh) (M1 : Mm) (H1 : Heap) (locs1 : List Loc) (ls1 : Array Slot) (cells1 slots1 : Nat), cells1 ≤ cells + 1 → slots1 ≤ slots + 400 → K S1 M1 → Wd D G S1 M1 H1 → va_S (aG G) s.heap H1 locs1 → H1.size = gB G + S1.1 → lv_has ls1 4 [(0, .ref b), (1, .ref (adr G x)), (2, .ref (adr G y)), (3, .int z3)] → W p l e room_1 s m #[Value.ref b] below meth c H1 locs1 cells1 slots1 (lw_Z below #[Value.ref b] s) (F0 m 1155 ls1 [])) : W p l e room_1 s m #[Value.ref b] below meth c H locs cells slots (lw_Z below #[Value.ref b] s) (F0 m 630 ls []) := by
  obtain ⟨⟨hx, hb, hr, hml, hown0, hts, hX, hbl, hlocks, hgv⟩, hK, hO, hbA, hG, hL, hgB⟩ := id C0
  have hown : s.vm.findClass RL = some m.cls := hown0
  unfold wp_Lc_16 at h
  refine lv_aload_n hx hb dL_law_630 rfl (lv_at hl 1 rfl) ?_
  refine lv_aload_n hx hb dL_law_631 rfl (lv_at hl 0 rfl) ?_
  refine lv_iload_n hx hb dL_law_632 rfl (lv_at hl 3 rfl) ?_
  refine r_iconst hx hb dL_law_633 (by decide) h (fun z399 h => ?_)
  refine r_iadd hx hb dL_law_634 h (fun z401 h => ?_)
  refine r_sc hx hb hX hbl hbA hS dL_law_635 h (fun z403 h => ?_)
  refine lv_aload_n hx hb dL_law_636 rfl (lv_at hl 0 rfl) ?_
  refine lv_iload_n hx hb dL_law_637 rfl (lv_at hl 3 rfl) ?_
  refine r_iconst hx hb dL_law_638 (by decide) h (fun z405 h => ?_)
  refine r_iadd hx hb dL_law_639 h (fun z407 h => ?_)
  refine r_sc hx hb hX hbl hbA hS dL_law_640 h (fun z409 h => ?_)
  refine lv_aload_n hx hb dL_law_641 rfl (lv_at hl 0 rfl) ?_
  refine lv_iload_n hx hb dL_law_642 rfl (lv_at hl 3 rfl) ?_
  refine r_iconst hx hb dL_law_643 (by decide) h (fun z411 h => ?_)
  refine r_iadd hx hb dL_law_644 h (fun z413 h => ?_)
  refine r_sc hx hb hX hbl hbA hS dL_law_645 h (fun z415 h => ?_)
  refine q_Li hx hb hml hown hts hK hP hS hH (c_X11_way l D G _ _ x z403 z409 z415 _ h.2) ⟨callB_of 3 hts (gw_goodL kw_1065) rfl rfl rfl (hts _ (gw_in _ kw_1)) (hts _ (gw_in _ kw_1062)) hd_X11_way ⟨Nat.le_of_ble_eq_true rfl, Nat.le_of_ble_eq_true rfl⟩, (hts _ (gw_in _ kw_1063)), (hts _ (gw_in _ kw_1064))⟩ h.1 (ci := 11) rfl (by decide) rfl hl.1 rfl (lv_room (Nat.le_of_ble_eq_true rfl)) dL_law_646 ⟨by show _ ≤ 600000; omega, by show _ ≤ 7302250; omega⟩ (fun z417 M418 H locs h hP hS hH => ?_)
  refine lv_pop hx hb dL_law_649 rfl ?_
  refine lv_aload_n hx hb dL_law_650 rfl (lv_at hl 2 rfl) ?_
  refine lv_aload_n hx hb dL_law_651 rfl (lv_at hl 0 rfl) ?_
  refine lv_iload_n hx hb dL_law_652 rfl (lv_at hl 3 rfl) ?_
  refine r_iconst hx hb dL_law_653 (by decide) h (fun z420 h => ?_)
  refine r_iadd hx hb dL_law_654 h (fun z422 h => ?_)
  refine r_sc hx hb hX hbl hbA hS dL_law_655 h (fun z424 h => ?_)
  refine lv_aload_n hx hb dL_law_656 rfl (lv_at hl 0 rfl) ?_
  refine lv_iload_n hx hb dL_law_657 rfl (lv_at hl 3 rfl) ?_
  refine r_iconst hx hb dL_law_658 (by decide) h (fun z426 h => ?_)
  refine r_iadd hx hb dL_law_659 h (fun z428 h => ?_)
  refine r_sc hx hb hX hbl hbA hS dL_law_660 h (fun z430 h => ?_)
  refine lv_aload_n hx hb dL_law_661 rfl (lv_at hl 0 rfl) ?_
  refine lv_iload_n hx hb dL_law_662 rfl (lv_at hl 3 rfl) ?_
  refine r_iconst hx hb dL_law_663 (by decide) h (fun z432 h => ?_)
  refine r_iadd hx hb dL_law_664 h (fun z434 h => ?_)
  refine r_sc hx hb hX hbl hbA hS dL_law_665 h (fun z436 h => ?_)
  refine q_Li hx hb hml hown hts hK hP hS hH (c_X12_way l D G _ _ y z424 z430 z436 _ h.2) ⟨callB_of 3 hts (gw_goodL kw_1813) rfl rfl rfl (hts _ (gw_in _ kw_14)) (hts _ (gw_in _ kw_1810)) hd_X12_way ⟨Nat.le_of_ble_eq_true rfl, Nat.le_of_ble_eq_true rfl⟩, (hts _ (gw_in _ kw_1811)), (hts _ (gw_in _ kw_1812))⟩ h.1 (ci := 12) rfl (by decide) rfl hl.1 rfl (lv_room (Nat.le_of_ble_eq_true rfl)) dL_law_666 ⟨by show _ ≤ 600000; omega, by show _ ≤ 7302250; omega⟩ (fun z438 M439 H locs h hP hS hH => ?_)
  refine lv_pop hx hb dL_law_669 rfl ?_
  refine lv_goto (tgt := 1155) hx hb dL_law_670 (by decide) ?_
  exact kk S M439 _ _ _ cells slots (by omega) (by omega) h hP hS hH hl
def wp_Lc_17 (L : Nat) (xs : Nat → Int32) (x y : Int) (S : Sh) (M : Mm) (i : Int) (K : Sh → Mm → Prop) : Prop := wC 1 fun v440 => wA i v440 fun v442 => wSc L xs v442 fun v444 => wC 2 fun v446 => wA i v446 fun v448 => wSc L xs v448 fun v450 => wC 3 fun v452 => wA i v452 fun v454 => wSc L xs v454 fun v456 => isK S x 11 ∧ (wp_X11_brings S M x v444 v450 v456 <| fun v458 M460 => wC 1 fun v461 => wA i v461 fun v463 => wSc L xs v463 fun v465 => wC 2 fun v467 => wA i v467 fun v469 => wSc L xs v469 fun v471 => wC 3 fun v473 => wA i v473 fun v475 => wSc L xs v475 fun v477 => isK S y 12 ∧ (wp_X12_brings S M460 y v465 v471 v477 <| fun v479 M481 => K S M481))
set_option maxHeartbeats 4000000 in
set_option maxRecDepth 100000 in
theorem t_Lc_17 {p : Program} {l : Launch} {e : Env} {s : State} {m : MethodId} {below : List Frame} {meth : Method} {c : Code} {D : va_G} {G : Gt} {b L : Nat} {xs : Nat → Int32} (C0 : CL p s m meth c b L xs D G) (x y : Int) (S : Sh) (M : Mm) (H : Heap) (locs : List Loc) (ls : Array Slot) (cells slots : Nat) (z3 : Int32) {K : Sh → Mm → Prop} (hP : Wd D G S M H) (hS : va_S (aG G) s.heap H locs) (hH : H.size = gB G + S.1) (hl : lv_has ls 4 [(0, .ref b), (1, .ref (adr G x)), (2, .ref (adr G y)), (3, .int z3)]) (hcb : cells + 1 ≤ 600000) (hsb : slots + 400 ≤ 7302250) (h : wp_Lc_17 L xs x y S M z3.toInt K) (kk : ∀ (S1 : Sh) (M1 : Mm) (H1 : Heap) (locs1 : List Loc) (ls1 : Array Slot) (cells1 slots1 : Nat), cells1 ≤ cells + 1 → slots1 ≤ slots + 400 → K S1 M1 → Wd D G S1 M1 H1 → va_S (aG G) s.heap H1 locs1 → H1.size = gB G + S1.1 → lv_has ls1 4 [(0, .ref b), (1, .ref (adr G x)), (2, .ref (adr G y)), (3, .int z3)] → W p l e room_1 s m #[Value.ref b] below meth c H1 locs1 cells1 slots1 (lw_Z below #[Value.ref b] s) (F0 m 1155 ls1 [])) : W p l e room_1 s m #[Value.ref b] below meth c H locs cells slots (lw_Z below #[Value.ref b] s) (F0 m 673 ls []) := by
  obtain ⟨⟨hx, hb, hr, hml, hown0, hts, hX, hbl, hlocks, hgv⟩, hK, hO, hbA, hG, hL, hgB⟩ := id C0
  have hown : s.vm.findClass RL = some m.cls := hown0
  unfold wp_Lc_17 at h
  refine lv_aload_n hx hb dL_law_673 rfl (lv_at hl 1 rfl) ?_
  refine lv_aload_n hx hb dL_law_674 rfl (lv_at hl 0 rfl) ?_
  refine lv_iload_n hx hb dL_law_675 rfl (lv_at hl 3 rfl) ?_
  refine r_iconst hx hb dL_law_676 (by decide) h (fun z441 h => ?_)
  refine r_iadd hx hb dL_law_677 h (fun z443 h => ?_)
  refine r_sc hx hb hX hbl hbA hS dL_law_678 h (fun z445 h => ?_)
  refine lv_aload_n hx hb dL_law_679 rfl (lv_at hl 0 rfl) ?_
  refine lv_iload_n hx hb dL_law_680 rfl (lv_at hl 3 rfl) ?_
  refine r_iconst hx hb dL_law_681 (by decide) h (fun z447 h => ?_)
  refine r_iadd hx hb dL_law_682 h (fun z449 h => ?_)
  refine r_sc hx hb hX hbl hbA hS dL_law_683 h (fun z451 h => ?_)
  refine lv_aload_n hx hb dL_law_684 rfl (lv_at hl 0 rfl) ?_
  refine lv_iload_n hx hb dL_law_685 rfl (lv_at hl 3 rfl) ?_
  refine r_iconst hx hb dL_law_686 (by decide) h (fun z453 h => ?_)
  refine r_iadd hx hb dL_law_687 h (fun z455 h => ?_)
  refine r_sc hx hb hX hbl hbA hS dL_law_688 h (fun z457 h => ?_)
  refine q_Li hx hb hml hown hts hK hP hS hH (c_X11_brings l D G _ _ x z445 z451 z457 _ h.2) ⟨callB_of 3 hts (gw_goodL kw_1082) rfl rfl rfl (hts _ (gw_in _ kw_1)) (hts _ (gw_in _ kw_1079)) hd_X11_brings ⟨Nat.le_of_ble_eq_true rfl, Nat.le_of_ble_eq_true rfl⟩, (hts _ (gw_in _ kw_1080)), (hts _ (gw_in _ kw_1081))⟩ h.1 (ci := 11) rfl (by decide) rfl hl.1 rfl (lv_room (Nat.le_of_ble_eq_true rfl)) dL_law_689 ⟨by show _ ≤ 600000; omega, by show _ ≤ 7302250; omega⟩ (fun z459 M460 H locs h hP hS hH => ?_)
  refine lv_pop hx hb dL_law_692 rfl ?_
  refine lv_aload_n hx hb dL_law_693 rfl (lv_at hl 2 rfl) ?_
  refine lv_aload_n hx hb dL_law_694 rfl (lv_at hl 0 rfl) ?_
  refine lv_iload_n hx hb dL_law_695 rfl (lv_at hl 3 rfl) ?_
  refine r_iconst hx hb dL_law_696 (by decide) h (fun z462 h => ?_)
  refine r_iadd hx hb dL_law_697 h (fun z464 h => ?_)
  refine r_sc hx hb hX hbl hbA hS dL_law_698 h (fun z466 h => ?_)
  refine lv_aload_n hx hb dL_law_699 rfl (lv_at hl 0 rfl) ?_
  refine lv_iload_n hx hb dL_law_700 rfl (lv_at hl 3 rfl) ?_
  refine r_iconst hx hb dL_law_701 (by decide) h (fun z468 h => ?_)
  refine r_iadd hx hb dL_law_702 h (fun z470 h => ?_)
  refine r_sc hx hb hX hbl hbA hS dL_law_703 h (fun z472 h => ?_)
  refine lv_aload_n hx hb dL_law_704 rfl (lv_at hl 0 rfl) ?_
  refine lv_iload_n hx hb dL_law_705 rfl (lv_at hl 3 rfl) ?_
  refine r_iconst hx hb dL_law_706 (by decide) h (fun z474 h => ?_)
  refine r_iadd hx hb dL_law_707 h (fun z476 h => ?_)
  refine r_sc hx hb hX hbl hbA hS dL_law_708 h (fun z478 h => ?_)
  refine q_Li hx hb hml hown hts hK hP hS hH (c_X12_brings l D G _ _ y z466 z472 z478 _ h.2) ⟨callB_of 3 hts (gw_goodL kw_1825) rfl rfl rfl (hts _ (gw_in _ kw_14)) (hts _ (gw_in _ kw_1822)) hd_X12_brings ⟨Nat.le_of_ble_eq_true rfl, Nat.le_of_ble_eq_true rfl⟩, (hts _ (gw_in _ kw_1823)), (hts _ (gw_in _ kw_1824))⟩ h.1 (ci := 12) rfl (by decide) rfl hl.1 rfl (lv_room (Nat.le_of_ble_eq_true rfl)) dL_law_709 ⟨by show _ ≤ 600000; omega, by show _ ≤ 7302250; omega⟩ (fun z480 M481 H locs h hP hS hH => ?_)
  refine lv_pop hx hb dL_law_712 rfl ?_
  refine lv_goto (tgt := 1155) hx hb dL_law_713 (by decide) ?_
  exact kk S M481 _ _ _ cells slots (by omega) (by omega) h hP hS hH hl
def wp_Lc_18 (L : Nat) (xs : Nat → Int32) (x y : Int) (S : Sh) (M : Mm) (i : Int) (K : Sh → Mm → Prop) : Prop := wC 1 fun v482 => wA i v482 fun v484 => wSc L xs v484 fun v486 => wC 2 fun v488 => wA i v488 fun v490 => wSc L xs v490 fun v492 => wC 3 fun v494 => wA i v494 fun v496 => wSc L xs v496 fun v498 => wC 4 fun v500 => wA i v500 fun v502 => wSc L xs v502 fun v504 => wC 5 fun v506 => wA i v506 fun v508 => wSc L xs v508 fun v510 => isK S x 11 ∧ (wp_X11_relay S M x v486 v492 v498 v504 v510 <| fun v512 M514 => wC 1 fun v515 => wA i v515 fun v517 => wSc L xs v517 fun v519 => wC 2 fun v521 => wA i v521 fun v523 => wSc L xs v523 fun v525 => wC 3 fun v527 => wA i v527 fun v529 => wSc L xs v529 fun v531 => wC 4 fun v533 => wA i v533 fun v535 => wSc L xs v535 fun v537 => wC 5 fun v539 => wA i v539 fun v541 => wSc L xs v541 fun v543 => isK S y 12 ∧ (wp_X12_relay S M514 y v519 v525 v531 v537 v543 <| fun v545 M547 => K S M547))
set_option maxHeartbeats 4000000 in
set_option maxRecDepth 100000 in
theorem t_Lc_18 {p : Program} {l : Launch} {e : Env} {s : State} {m : MethodId} {below : List Frame} {meth : Method} {c : Code} {D : va_G} {G : Gt} {b L : Nat} {xs : Nat → Int32} (C0 : CL p s m meth c b L xs D G) (x y : Int) (S : Sh) (M : Mm) (H : Heap) (locs : List Loc) (ls : Array Slot) (cells slots : Nat) (z3 : Int32) {K : Sh → Mm → Prop} (hP : Wd D G S M H) (hS : va_S (aG G) s.heap H locs) (hH : H.size = gB G + S.1) (hl : lv_has ls 4 [(0, .ref b), (1, .ref (adr G x)), (2, .ref (adr G y)), (3, .int z3)]) (hcb : cells + 1 ≤ 600000) (hsb : slots + 400 ≤ 7302250) (h : wp_Lc_18 L xs x y S M z3.toInt K) (kk : ∀ (S1 : Sh) (M1 : Mm) (H1 : Heap) (locs1 : List Loc) (ls1 : Array Slot) (cells1 slots1 : Nat), cells1 ≤ cells + 1 → slots1 ≤ slots + 400 → K S1 M1 → Wd D G S1 M1 H1 → va_S (aG G) s.heap H1 locs1 → H1.size = gB G + S1.1 → lv_has ls1 4 [(0, .ref b), (1, .ref (adr G x)), (2, .ref (adr G y)), (3, .int z3)] → W p l e room_1 s m #[Value.ref b] below meth c H1 locs1 cells1 slots1 (lw_Z below #[Value.ref b] s) (F0 m 1155 ls1 [])) : W p l e room_1 s m #[Value.ref b] below meth c H locs cells slots (lw_Z below #[Value.ref b] s) (F0 m 716 ls []) := by
  obtain ⟨⟨hx, hb, hr, hml, hown0, hts, hX, hbl, hlocks, hgv⟩, hK, hO, hbA, hG, hL, hgB⟩ := id C0
  have hown : s.vm.findClass RL = some m.cls := hown0
  unfold wp_Lc_18 at h
  refine lv_aload_n hx hb dL_law_716 rfl (lv_at hl 1 rfl) ?_
  refine lv_aload_n hx hb dL_law_717 rfl (lv_at hl 0 rfl) ?_
  refine lv_iload_n hx hb dL_law_718 rfl (lv_at hl 3 rfl) ?_
  refine r_iconst hx hb dL_law_719 (by decide) h (fun z483 h => ?_)
  refine r_iadd hx hb dL_law_720 h (fun z485 h => ?_)
  refine r_sc hx hb hX hbl hbA hS dL_law_721 h (fun z487 h => ?_)
  refine lv_aload_n hx hb dL_law_722 rfl (lv_at hl 0 rfl) ?_
  refine lv_iload_n hx hb dL_law_723 rfl (lv_at hl 3 rfl) ?_
  refine r_iconst hx hb dL_law_724 (by decide) h (fun z489 h => ?_)
  refine r_iadd hx hb dL_law_725 h (fun z491 h => ?_)
  refine r_sc hx hb hX hbl hbA hS dL_law_726 h (fun z493 h => ?_)
  refine lv_aload_n hx hb dL_law_727 rfl (lv_at hl 0 rfl) ?_
  refine lv_iload_n hx hb dL_law_728 rfl (lv_at hl 3 rfl) ?_
  refine r_iconst hx hb dL_law_729 (by decide) h (fun z495 h => ?_)
  refine r_iadd hx hb dL_law_730 h (fun z497 h => ?_)
  refine r_sc hx hb hX hbl hbA hS dL_law_731 h (fun z499 h => ?_)
  refine lv_aload_n hx hb dL_law_732 rfl (lv_at hl 0 rfl) ?_
  refine lv_iload_n hx hb dL_law_733 rfl (lv_at hl 3 rfl) ?_
  refine r_iconst hx hb dL_law_734 (by decide) h (fun z501 h => ?_)
  refine r_iadd hx hb dL_law_735 h (fun z503 h => ?_)
  refine r_sc hx hb hX hbl hbA hS dL_law_736 h (fun z505 h => ?_)
  refine lv_aload_n hx hb dL_law_737 rfl (lv_at hl 0 rfl) ?_
  refine lv_iload_n hx hb dL_law_738 rfl (lv_at hl 3 rfl) ?_
  refine r_iconst hx hb dL_law_739 (by decide) h (fun z507 h => ?_)
  refine r_iadd hx hb dL_law_740 h (fun z509 h => ?_)
  refine r_sc hx hb hX hbl hbA hS dL_law_741 h (fun z511 h => ?_)
  refine q_Li hx hb hml hown hts hK hP hS hH (c_X11_relay l D G _ _ x z487 z493 z499 z505 z511 _ h.2) ⟨callB_of 5 hts (gw_goodL kw_1101) rfl rfl rfl (hts _ (gw_in _ kw_1)) (hts _ (gw_in _ kw_1098)) hd_X11_relay ⟨Nat.le_of_ble_eq_true rfl, Nat.le_of_ble_eq_true rfl⟩, (hts _ (gw_in _ kw_1099)), (hts _ (gw_in _ kw_1100))⟩ h.1 (ci := 11) rfl (by decide) rfl hl.1 rfl (lv_room (Nat.le_of_ble_eq_true rfl)) dL_law_742 ⟨by show _ ≤ 600000; omega, by show _ ≤ 7302250; omega⟩ (fun z513 M514 H locs h hP hS hH => ?_)
  refine lv_pop hx hb dL_law_745 rfl ?_
  refine lv_aload_n hx hb dL_law_746 rfl (lv_at hl 2 rfl) ?_
  refine lv_aload_n hx hb dL_law_747 rfl (lv_at hl 0 rfl) ?_
  refine lv_iload_n hx hb dL_law_748 rfl (lv_at hl 3 rfl) ?_
  refine r_iconst hx hb dL_law_749 (by decide) h (fun z516 h => ?_)
  refine r_iadd hx hb dL_law_750 h (fun z518 h => ?_)
  refine r_sc hx hb hX hbl hbA hS dL_law_751 h (fun z520 h => ?_)
  refine lv_aload_n hx hb dL_law_752 rfl (lv_at hl 0 rfl) ?_
  refine lv_iload_n hx hb dL_law_753 rfl (lv_at hl 3 rfl) ?_
  refine r_iconst hx hb dL_law_754 (by decide) h (fun z522 h => ?_)
  refine r_iadd hx hb dL_law_755 h (fun z524 h => ?_)
  refine r_sc hx hb hX hbl hbA hS dL_law_756 h (fun z526 h => ?_)
  refine lv_aload_n hx hb dL_law_757 rfl (lv_at hl 0 rfl) ?_
  refine lv_iload_n hx hb dL_law_758 rfl (lv_at hl 3 rfl) ?_
  refine r_iconst hx hb dL_law_759 (by decide) h (fun z528 h => ?_)
  refine r_iadd hx hb dL_law_760 h (fun z530 h => ?_)
  refine r_sc hx hb hX hbl hbA hS dL_law_761 h (fun z532 h => ?_)
  refine lv_aload_n hx hb dL_law_762 rfl (lv_at hl 0 rfl) ?_
  refine lv_iload_n hx hb dL_law_763 rfl (lv_at hl 3 rfl) ?_
  refine r_iconst hx hb dL_law_764 (by decide) h (fun z534 h => ?_)
  refine r_iadd hx hb dL_law_765 h (fun z536 h => ?_)
  refine r_sc hx hb hX hbl hbA hS dL_law_766 h (fun z538 h => ?_)
  refine lv_aload_n hx hb dL_law_767 rfl (lv_at hl 0 rfl) ?_
  refine lv_iload_n hx hb dL_law_768 rfl (lv_at hl 3 rfl) ?_
  refine r_iconst hx hb dL_law_769 (by decide) h (fun z540 h => ?_)
  refine r_iadd hx hb dL_law_770 h (fun z542 h => ?_)
  refine r_sc hx hb hX hbl hbA hS dL_law_771 h (fun z544 h => ?_)
  refine q_Li hx hb hml hown hts hK hP hS hH (c_X12_relay l D G _ _ y z520 z526 z532 z538 z544 _ h.2) ⟨callB_of 5 hts (gw_goodL kw_1833) rfl rfl rfl (hts _ (gw_in _ kw_14)) (hts _ (gw_in _ kw_1830)) hd_X12_relay ⟨Nat.le_of_ble_eq_true rfl, Nat.le_of_ble_eq_true rfl⟩, (hts _ (gw_in _ kw_1831)), (hts _ (gw_in _ kw_1832))⟩ h.1 (ci := 12) rfl (by decide) rfl hl.1 rfl (lv_room (Nat.le_of_ble_eq_true rfl)) dL_law_772 ⟨by show _ ≤ 600000; omega, by show _ ≤ 7302250; omega⟩ (fun z546 M547 H locs h hP hS hH => ?_)
  refine lv_pop hx hb dL_law_775 rfl ?_
  refine lv_goto (tgt := 1155) hx hb dL_law_776 (by decide) ?_
  exact kk S M547 _ _ _ cells slots (by omega) (by omega) h hP hS hH hl
def wp_Lc_19 (L : Nat) (xs : Nat → Int32) (x y : Int) (S : Sh) (M : Mm) (i : Int) (K : Sh → Mm → Prop) : Prop := wC 1 fun v548 => wA i v548 fun v550 => wSc L xs v550 fun v552 => isK S x 11 ∧ (wp_X11_match S M x v552 <| fun v554 M556 => wC 1 fun v557 => wA i v557 fun v559 => wSc L xs v559 fun v561 => isK S y 12 ∧ (wp_X12_match S M556 y v561 <| fun v563 M565 => K S M565))
set_option maxHeartbeats 4000000 in
set_option maxRecDepth 100000 in
theorem t_Lc_19 {p : Program} {l : Launch} {e : Env} {s : State} {m : MethodId} {below : List Frame} {meth : Method} {c : Code} {D : va_G} {G : Gt} {b L : Nat} {xs : Nat → Int32} (C0 : CL p s m meth c b L xs D G) (x y : Int) (S : Sh) (M : Mm) (H : Heap) (locs : List Loc) (ls : Array Slot) (cells slots : Nat) (z3 : Int32) {K : Sh → Mm → Prop} (hP : Wd D G S M H) (hS : va_S (aG G) s.heap H locs) (hH : H.size = gB G + S.1) (hl : lv_has ls 4 [(0, .ref b), (1, .ref (adr G x)), (2, .ref (adr G y)), (3, .int z3)]) (hcb : cells + 1 ≤ 600000) (hsb : slots + 400 ≤ 7302250) (h : wp_Lc_19 L xs x y S M z3.toInt K) (kk : ∀ (S1 : Sh) (M1 : Mm) (H1 : Heap) (locs1 : List Loc) (ls1 : Array Slot) (cells1 slots1 : Nat), cells1 ≤ cells + 1 → slots1 ≤ slots + 400 → K S1 M1 → Wd D G S1 M1 H1 → va_S (aG G) s.heap H1 locs1 → H1.size = gB G + S1.1 → lv_has ls1 4 [(0, .ref b), (1, .ref (adr G x)), (2, .ref (adr G y)), (3, .int z3)] → W p l e room_1 s m #[Value.ref b] below meth c H1 locs1 cells1 slots1 (lw_Z below #[Value.ref b] s) (F0 m 1155 ls1 [])) : W p l e room_1 s m #[Value.ref b] below meth c H locs cells slots (lw_Z below #[Value.ref b] s) (F0 m 779 ls []) := by
  obtain ⟨⟨hx, hb, hr, hml, hown0, hts, hX, hbl, hlocks, hgv⟩, hK, hO, hbA, hG, hL, hgB⟩ := id C0
  have hown : s.vm.findClass RL = some m.cls := hown0
  unfold wp_Lc_19 at h
  refine lv_aload_n hx hb dL_law_779 rfl (lv_at hl 1 rfl) ?_
  refine lv_aload_n hx hb dL_law_780 rfl (lv_at hl 0 rfl) ?_
  refine lv_iload_n hx hb dL_law_781 rfl (lv_at hl 3 rfl) ?_
  refine r_iconst hx hb dL_law_782 (by decide) h (fun z549 h => ?_)
  refine r_iadd hx hb dL_law_783 h (fun z551 h => ?_)
  refine r_sc hx hb hX hbl hbA hS dL_law_784 h (fun z553 h => ?_)
  refine q_Li hx hb hml hown hts hK hP hS hH (c_X11_match l D G _ _ x z553 _ h.2) ⟨callB_of 1 hts (gw_goodL kw_1152) rfl rfl rfl (hts _ (gw_in _ kw_1)) (hts _ (gw_in _ kw_1149)) hd_X11_match ⟨Nat.le_of_ble_eq_true rfl, Nat.le_of_ble_eq_true rfl⟩, (hts _ (gw_in _ kw_1150)), (hts _ (gw_in _ kw_1151))⟩ h.1 (ci := 11) rfl (by decide) rfl hl.1 rfl (lv_room (Nat.le_of_ble_eq_true rfl)) dL_law_785 ⟨by show _ ≤ 600000; omega, by show _ ≤ 7302250; omega⟩ (fun z555 M556 H locs h hP hS hH => ?_)
  refine lv_pop hx hb dL_law_788 rfl ?_
  refine lv_aload_n hx hb dL_law_789 rfl (lv_at hl 2 rfl) ?_
  refine lv_aload_n hx hb dL_law_790 rfl (lv_at hl 0 rfl) ?_
  refine lv_iload_n hx hb dL_law_791 rfl (lv_at hl 3 rfl) ?_
  refine r_iconst hx hb dL_law_792 (by decide) h (fun z558 h => ?_)
  refine r_iadd hx hb dL_law_793 h (fun z560 h => ?_)
  refine r_sc hx hb hX hbl hbA hS dL_law_794 h (fun z562 h => ?_)
  refine q_Li hx hb hml hown hts hK hP hS hH (c_X12_match l D G _ _ y z562 _ h.2) ⟨callB_of 1 hts (gw_goodL kw_1854) rfl rfl rfl (hts _ (gw_in _ kw_14)) (hts _ (gw_in _ kw_1851)) hd_X12_match ⟨Nat.le_of_ble_eq_true rfl, Nat.le_of_ble_eq_true rfl⟩, (hts _ (gw_in _ kw_1852)), (hts _ (gw_in _ kw_1853))⟩ h.1 (ci := 12) rfl (by decide) rfl hl.1 rfl (lv_room (Nat.le_of_ble_eq_true rfl)) dL_law_795 ⟨by show _ ≤ 600000; omega, by show _ ≤ 7302250; omega⟩ (fun z564 M565 H locs h hP hS hH => ?_)
  refine lv_pop hx hb dL_law_798 rfl ?_
  refine lv_goto (tgt := 1155) hx hb dL_law_799 (by decide) ?_
  exact kk S M565 _ _ _ cells slots (by omega) (by omega) h hP hS hH hl
def wp_Lc_20 (L : Nat) (xs : Nat → Int32) (x y : Int) (S : Sh) (M : Mm) (i : Int) (K : Sh → Mm → Prop) : Prop := wC 1 fun v566 => wA i v566 fun v568 => wSc L xs v568 fun v570 => wC 2 fun v572 => wA i v572 fun v574 => wSc L xs v574 fun v576 => wC 3 fun v578 => wA i v578 fun v580 => wSc L xs v580 fun v582 => wC 4 fun v584 => wA i v584 fun v586 => wSc L xs v586 fun v588 => isK S x 11 ∧ (wp_X11_rest S M x v570 v576 v582 v588 <| fun v590 M592 => wC 1 fun v593 => wA i v593 fun v595 => wSc L xs v595 fun v597 => wC 2 fun v599 => wA i v599 fun v601 => wSc L xs v601 fun v603 => wC 3 fun v605 => wA i v605 fun v607 => wSc L xs v607 fun v609 => wC 4 fun v611 => wA i v611 fun v613 => wSc L xs v613 fun v615 => isK S y 12 ∧ (wp_X12_rest S M592 y v597 v603 v609 v615 <| fun v617 M619 => K S M619))
set_option maxHeartbeats 4000000 in
set_option maxRecDepth 100000 in
theorem t_Lc_20 {p : Program} {l : Launch} {e : Env} {s : State} {m : MethodId} {below : List Frame} {meth : Method} {c : Code} {D : va_G} {G : Gt} {b L : Nat} {xs : Nat → Int32} (C0 : CL p s m meth c b L xs D G) (x y : Int) (S : Sh) (M : Mm) (H : Heap) (locs : List Loc) (ls : Array Slot) (cells slots : Nat) (z3 : Int32) {K : Sh → Mm → Prop} (hP : Wd D G S M H) (hS : va_S (aG G) s.heap H locs) (hH : H.size = gB G + S.1) (hl : lv_has ls 4 [(0, .ref b), (1, .ref (adr G x)), (2, .ref (adr G y)), (3, .int z3)]) (hcb : cells + 1 ≤ 600000) (hsb : slots + 400 ≤ 7302250) (h : wp_Lc_20 L xs x y S M z3.toInt K) (kk : ∀ (S1 : Sh) (M1 : Mm) (H1 : Heap) (locs1 : List Loc) (ls1 : Array Slot) (cells1 slots1 : Nat), cells1 ≤ cells + 1 → slots1 ≤ slots + 400 → K S1 M1 → Wd D G S1 M1 H1 → va_S (aG G) s.heap H1 locs1 → H1.size = gB G + S1.1 → lv_has ls1 4 [(0, .ref b), (1, .ref (adr G x)), (2, .ref (adr G y)), (3, .int z3)] → W p l e room_1 s m #[Value.ref b] below meth c H1 locs1 cells1 slots1 (lw_Z below #[Value.ref b] s) (F0 m 1155 ls1 [])) : W p l e room_1 s m #[Value.ref b] below meth c H locs cells slots (lw_Z below #[Value.ref b] s) (F0 m 802 ls []) := by
  obtain ⟨⟨hx, hb, hr, hml, hown0, hts, hX, hbl, hlocks, hgv⟩, hK, hO, hbA, hG, hL, hgB⟩ := id C0
  have hown : s.vm.findClass RL = some m.cls := hown0
  unfold wp_Lc_20 at h
  refine lv_aload_n hx hb dL_law_802 rfl (lv_at hl 1 rfl) ?_
  refine lv_aload_n hx hb dL_law_803 rfl (lv_at hl 0 rfl) ?_
  refine lv_iload_n hx hb dL_law_804 rfl (lv_at hl 3 rfl) ?_
  refine r_iconst hx hb dL_law_805 (by decide) h (fun z567 h => ?_)
  refine r_iadd hx hb dL_law_806 h (fun z569 h => ?_)
  refine r_sc hx hb hX hbl hbA hS dL_law_807 h (fun z571 h => ?_)
  refine lv_aload_n hx hb dL_law_808 rfl (lv_at hl 0 rfl) ?_
  refine lv_iload_n hx hb dL_law_809 rfl (lv_at hl 3 rfl) ?_
  refine r_iconst hx hb dL_law_810 (by decide) h (fun z573 h => ?_)
  refine r_iadd hx hb dL_law_811 h (fun z575 h => ?_)
  refine r_sc hx hb hX hbl hbA hS dL_law_812 h (fun z577 h => ?_)
  refine lv_aload_n hx hb dL_law_813 rfl (lv_at hl 0 rfl) ?_
  refine lv_iload_n hx hb dL_law_814 rfl (lv_at hl 3 rfl) ?_
  refine r_iconst hx hb dL_law_815 (by decide) h (fun z579 h => ?_)
  refine r_iadd hx hb dL_law_816 h (fun z581 h => ?_)
  refine r_sc hx hb hX hbl hbA hS dL_law_817 h (fun z583 h => ?_)
  refine lv_aload_n hx hb dL_law_818 rfl (lv_at hl 0 rfl) ?_
  refine lv_iload_n hx hb dL_law_819 rfl (lv_at hl 3 rfl) ?_
  refine r_iconst hx hb dL_law_820 (by decide) h (fun z585 h => ?_)
  refine r_iadd hx hb dL_law_821 h (fun z587 h => ?_)
  refine r_sc hx hb hX hbl hbA hS dL_law_822 h (fun z589 h => ?_)
  refine q_Li hx hb hml hown hts hK hP hS hH (c_X11_rest l D G _ _ x z571 z577 z583 z589 _ h.2) ⟨callB_of 4 hts (gw_goodL kw_1180) rfl rfl rfl (hts _ (gw_in _ kw_1)) (hts _ (gw_in _ kw_1177)) hd_X11_rest ⟨Nat.le_of_ble_eq_true rfl, Nat.le_of_ble_eq_true rfl⟩, (hts _ (gw_in _ kw_1178)), (hts _ (gw_in _ kw_1179))⟩ h.1 (ci := 11) rfl (by decide) rfl hl.1 rfl (lv_room (Nat.le_of_ble_eq_true rfl)) dL_law_823 ⟨by show _ ≤ 600000; omega, by show _ ≤ 7302250; omega⟩ (fun z591 M592 H locs h hP hS hH => ?_)
  refine lv_pop hx hb dL_law_826 rfl ?_
  refine lv_aload_n hx hb dL_law_827 rfl (lv_at hl 2 rfl) ?_
  refine lv_aload_n hx hb dL_law_828 rfl (lv_at hl 0 rfl) ?_
  refine lv_iload_n hx hb dL_law_829 rfl (lv_at hl 3 rfl) ?_
  refine r_iconst hx hb dL_law_830 (by decide) h (fun z594 h => ?_)
  refine r_iadd hx hb dL_law_831 h (fun z596 h => ?_)
  refine r_sc hx hb hX hbl hbA hS dL_law_832 h (fun z598 h => ?_)
  refine lv_aload_n hx hb dL_law_833 rfl (lv_at hl 0 rfl) ?_
  refine lv_iload_n hx hb dL_law_834 rfl (lv_at hl 3 rfl) ?_
  refine r_iconst hx hb dL_law_835 (by decide) h (fun z600 h => ?_)
  refine r_iadd hx hb dL_law_836 h (fun z602 h => ?_)
  refine r_sc hx hb hX hbl hbA hS dL_law_837 h (fun z604 h => ?_)
  refine lv_aload_n hx hb dL_law_838 rfl (lv_at hl 0 rfl) ?_
  refine lv_iload_n hx hb dL_law_839 rfl (lv_at hl 3 rfl) ?_
  refine r_iconst hx hb dL_law_840 (by decide) h (fun z606 h => ?_)
  refine r_iadd hx hb dL_law_841 h (fun z608 h => ?_)
  refine r_sc hx hb hX hbl hbA hS dL_law_842 h (fun z610 h => ?_)
  refine lv_aload_n hx hb dL_law_843 rfl (lv_at hl 0 rfl) ?_
  refine lv_iload_n hx hb dL_law_844 rfl (lv_at hl 3 rfl) ?_
  refine r_iconst hx hb dL_law_845 (by decide) h (fun z612 h => ?_)
  refine r_iadd hx hb dL_law_846 h (fun z614 h => ?_)
  refine r_sc hx hb hX hbl hbA hS dL_law_847 h (fun z616 h => ?_)
  refine q_Li hx hb hml hown hts hK hP hS hH (c_X12_rest l D G _ _ y z598 z604 z610 z616 _ h.2) ⟨callB_of 4 hts (gw_goodL kw_1869) rfl rfl rfl (hts _ (gw_in _ kw_14)) (hts _ (gw_in _ kw_1866)) hd_X12_rest ⟨Nat.le_of_ble_eq_true rfl, Nat.le_of_ble_eq_true rfl⟩, (hts _ (gw_in _ kw_1867)), (hts _ (gw_in _ kw_1868))⟩ h.1 (ci := 12) rfl (by decide) rfl hl.1 rfl (lv_room (Nat.le_of_ble_eq_true rfl)) dL_law_848 ⟨by show _ ≤ 600000; omega, by show _ ≤ 7302250; omega⟩ (fun z618 M619 H locs h hP hS hH => ?_)
  refine lv_pop hx hb dL_law_851 rfl ?_
  refine lv_goto (tgt := 1155) hx hb dL_law_852 (by decide) ?_
  exact kk S M619 _ _ _ cells slots (by omega) (by omega) h hP hS hH hl
def wp_Lc_21 (L : Nat) (xs : Nat → Int32) (x y : Int) (S : Sh) (M : Mm) (i : Int) (K : Sh → Mm → Prop) : Prop := wC 1 fun v620 => wA i v620 fun v622 => wSc L xs v622 fun v624 => wC 2 fun v626 => wA i v626 fun v628 => wSc L xs v628 fun v630 => wC 3 fun v632 => wA i v632 fun v634 => wSc L xs v634 fun v636 => wC 4 fun v638 => wA i v638 fun v640 => wSc L xs v640 fun v642 => isK S x 11 ∧ (wp_X11_test S M x v624 v630 v636 v642 <| fun v644 M646 => wC 1 fun v647 => wA i v647 fun v649 => wSc L xs v649 fun v651 => wC 2 fun v653 => wA i v653 fun v655 => wSc L xs v655 fun v657 => wC 3 fun v659 => wA i v659 fun v661 => wSc L xs v661 fun v663 => wC 4 fun v665 => wA i v665 fun v667 => wSc L xs v667 fun v669 => isK S y 12 ∧ (wp_X12_test S M646 y v651 v657 v663 v669 <| fun v671 M673 => K S M673))
set_option maxHeartbeats 4000000 in
set_option maxRecDepth 100000 in
theorem t_Lc_21 {p : Program} {l : Launch} {e : Env} {s : State} {m : MethodId} {below : List Frame} {meth : Method} {c : Code} {D : va_G} {G : Gt} {b L : Nat} {xs : Nat → Int32} (C0 : CL p s m meth c b L xs D G) (x y : Int) (S : Sh) (M : Mm) (H : Heap) (locs : List Loc) (ls : Array Slot) (cells slots : Nat) (z3 : Int32) {K : Sh → Mm → Prop} (hP : Wd D G S M H) (hS : va_S (aG G) s.heap H locs) (hH : H.size = gB G + S.1) (hl : lv_has ls 4 [(0, .ref b), (1, .ref (adr G x)), (2, .ref (adr G y)), (3, .int z3)]) (hcb : cells + 1 ≤ 600000) (hsb : slots + 400 ≤ 7302250) (h : wp_Lc_21 L xs x y S M z3.toInt K) (kk : ∀ (S1 : Sh) (M1 : Mm) (H1 : Heap) (locs1 : List Loc) (ls1 : Array Slot) (cells1 slots1 : Nat), cells1 ≤ cells + 1 → slots1 ≤ slots + 400 → K S1 M1 → Wd D G S1 M1 H1 → va_S (aG G) s.heap H1 locs1 → H1.size = gB G + S1.1 → lv_has ls1 4 [(0, .ref b), (1, .ref (adr G x)), (2, .ref (adr G y)), (3, .int z3)] → W p l e room_1 s m #[Value.ref b] below meth c H1 locs1 cells1 slots1 (lw_Z below #[Value.ref b] s) (F0 m 1155 ls1 [])) : W p l e room_1 s m #[Value.ref b] below meth c H locs cells slots (lw_Z below #[Value.ref b] s) (F0 m 855 ls []) := by
  obtain ⟨⟨hx, hb, hr, hml, hown0, hts, hX, hbl, hlocks, hgv⟩, hK, hO, hbA, hG, hL, hgB⟩ := id C0
  have hown : s.vm.findClass RL = some m.cls := hown0
  unfold wp_Lc_21 at h
  refine lv_aload_n hx hb dL_law_855 rfl (lv_at hl 1 rfl) ?_
  refine lv_aload_n hx hb dL_law_856 rfl (lv_at hl 0 rfl) ?_
  refine lv_iload_n hx hb dL_law_857 rfl (lv_at hl 3 rfl) ?_
  refine r_iconst hx hb dL_law_858 (by decide) h (fun z621 h => ?_)
  refine r_iadd hx hb dL_law_859 h (fun z623 h => ?_)
  refine r_sc hx hb hX hbl hbA hS dL_law_860 h (fun z625 h => ?_)
  refine lv_aload_n hx hb dL_law_861 rfl (lv_at hl 0 rfl) ?_
  refine lv_iload_n hx hb dL_law_862 rfl (lv_at hl 3 rfl) ?_
  refine r_iconst hx hb dL_law_863 (by decide) h (fun z627 h => ?_)
  refine r_iadd hx hb dL_law_864 h (fun z629 h => ?_)
  refine r_sc hx hb hX hbl hbA hS dL_law_865 h (fun z631 h => ?_)
  refine lv_aload_n hx hb dL_law_866 rfl (lv_at hl 0 rfl) ?_
  refine lv_iload_n hx hb dL_law_867 rfl (lv_at hl 3 rfl) ?_
  refine r_iconst hx hb dL_law_868 (by decide) h (fun z633 h => ?_)
  refine r_iadd hx hb dL_law_869 h (fun z635 h => ?_)
  refine r_sc hx hb hX hbl hbA hS dL_law_870 h (fun z637 h => ?_)
  refine lv_aload_n hx hb dL_law_871 rfl (lv_at hl 0 rfl) ?_
  refine lv_iload_n hx hb dL_law_872 rfl (lv_at hl 3 rfl) ?_
  refine r_iconst hx hb dL_law_873 (by decide) h (fun z639 h => ?_)
  refine r_iadd hx hb dL_law_874 h (fun z641 h => ?_)
  refine r_sc hx hb hX hbl hbA hS dL_law_875 h (fun z643 h => ?_)
  refine q_Li hx hb hml hown hts hK hP hS hH (c_X11_test l D G _ _ x z625 z631 z637 z643 _ h.2) ⟨callB_of 4 hts (gw_goodL kw_1197) rfl rfl rfl (hts _ (gw_in _ kw_1)) (hts _ (gw_in _ kw_1194)) hd_X11_test ⟨Nat.le_of_ble_eq_true rfl, Nat.le_of_ble_eq_true rfl⟩, (hts _ (gw_in _ kw_1195)), (hts _ (gw_in _ kw_1196))⟩ h.1 (ci := 11) rfl (by decide) rfl hl.1 rfl (lv_room (Nat.le_of_ble_eq_true rfl)) dL_law_876 ⟨by show _ ≤ 600000; omega, by show _ ≤ 7302250; omega⟩ (fun z645 M646 H locs h hP hS hH => ?_)
  refine lv_pop hx hb dL_law_879 rfl ?_
  refine lv_aload_n hx hb dL_law_880 rfl (lv_at hl 2 rfl) ?_
  refine lv_aload_n hx hb dL_law_881 rfl (lv_at hl 0 rfl) ?_
  refine lv_iload_n hx hb dL_law_882 rfl (lv_at hl 3 rfl) ?_
  refine r_iconst hx hb dL_law_883 (by decide) h (fun z648 h => ?_)
  refine r_iadd hx hb dL_law_884 h (fun z650 h => ?_)
  refine r_sc hx hb hX hbl hbA hS dL_law_885 h (fun z652 h => ?_)
  refine lv_aload_n hx hb dL_law_886 rfl (lv_at hl 0 rfl) ?_
  refine lv_iload_n hx hb dL_law_887 rfl (lv_at hl 3 rfl) ?_
  refine r_iconst hx hb dL_law_888 (by decide) h (fun z654 h => ?_)
  refine r_iadd hx hb dL_law_889 h (fun z656 h => ?_)
  refine r_sc hx hb hX hbl hbA hS dL_law_890 h (fun z658 h => ?_)
  refine lv_aload_n hx hb dL_law_891 rfl (lv_at hl 0 rfl) ?_
  refine lv_iload_n hx hb dL_law_892 rfl (lv_at hl 3 rfl) ?_
  refine r_iconst hx hb dL_law_893 (by decide) h (fun z660 h => ?_)
  refine r_iadd hx hb dL_law_894 h (fun z662 h => ?_)
  refine r_sc hx hb hX hbl hbA hS dL_law_895 h (fun z664 h => ?_)
  refine lv_aload_n hx hb dL_law_896 rfl (lv_at hl 0 rfl) ?_
  refine lv_iload_n hx hb dL_law_897 rfl (lv_at hl 3 rfl) ?_
  refine r_iconst hx hb dL_law_898 (by decide) h (fun z666 h => ?_)
  refine r_iadd hx hb dL_law_899 h (fun z668 h => ?_)
  refine r_sc hx hb hX hbl hbA hS dL_law_900 h (fun z670 h => ?_)
  refine q_Li hx hb hml hown hts hK hP hS hH (c_X12_test l D G _ _ y z652 z658 z664 z670 _ h.2) ⟨callB_of 4 hts (gw_goodL kw_1878) rfl rfl rfl (hts _ (gw_in _ kw_14)) (hts _ (gw_in _ kw_1875)) hd_X12_test ⟨Nat.le_of_ble_eq_true rfl, Nat.le_of_ble_eq_true rfl⟩, (hts _ (gw_in _ kw_1876)), (hts _ (gw_in _ kw_1877))⟩ h.1 (ci := 12) rfl (by decide) rfl hl.1 rfl (lv_room (Nat.le_of_ble_eq_true rfl)) dL_law_901 ⟨by show _ ≤ 600000; omega, by show _ ≤ 7302250; omega⟩ (fun z672 M673 H locs h hP hS hH => ?_)
  refine lv_pop hx hb dL_law_904 rfl ?_
  refine lv_goto (tgt := 1155) hx hb dL_law_905 (by decide) ?_
  exact kk S M673 _ _ _ cells slots (by omega) (by omega) h hP hS hH hl
def wp_Lc_22 (L : Nat) (xs : Nat → Int32) (x y : Int) (S : Sh) (M : Mm) (i : Int) (K : Sh → Mm → Prop) : Prop := wC 1 fun v674 => wA i v674 fun v676 => wSc L xs v676 fun v678 => isK S x 11 ∧ (wp_X11_who S M x v678 <| fun v680 M682 => wC 1 fun v683 => wA i v683 fun v685 => wSc L xs v685 fun v687 => isK S y 12 ∧ (wp_X12_who S M682 y v687 <| fun v689 M691 => K S M691))
set_option maxHeartbeats 4000000 in
set_option maxRecDepth 100000 in
theorem t_Lc_22 {p : Program} {l : Launch} {e : Env} {s : State} {m : MethodId} {below : List Frame} {meth : Method} {c : Code} {D : va_G} {G : Gt} {b L : Nat} {xs : Nat → Int32} (C0 : CL p s m meth c b L xs D G) (x y : Int) (S : Sh) (M : Mm) (H : Heap) (locs : List Loc) (ls : Array Slot) (cells slots : Nat) (z3 : Int32) {K : Sh → Mm → Prop} (hP : Wd D G S M H) (hS : va_S (aG G) s.heap H locs) (hH : H.size = gB G + S.1) (hl : lv_has ls 4 [(0, .ref b), (1, .ref (adr G x)), (2, .ref (adr G y)), (3, .int z3)]) (hcb : cells + 1 ≤ 600000) (hsb : slots + 400 ≤ 7302250) (h : wp_Lc_22 L xs x y S M z3.toInt K) (kk : ∀ (S1 : Sh) (M1 : Mm) (H1 : Heap) (locs1 : List Loc) (ls1 : Array Slot) (cells1 slots1 : Nat), cells1 ≤ cells + 1 → slots1 ≤ slots + 400 → K S1 M1 → Wd D G S1 M1 H1 → va_S (aG G) s.heap H1 locs1 → H1.size = gB G + S1.1 → lv_has ls1 4 [(0, .ref b), (1, .ref (adr G x)), (2, .ref (adr G y)), (3, .int z3)] → W p l e room_1 s m #[Value.ref b] below meth c H1 locs1 cells1 slots1 (lw_Z below #[Value.ref b] s) (F0 m 1155 ls1 [])) : W p l e room_1 s m #[Value.ref b] below meth c H locs cells slots (lw_Z below #[Value.ref b] s) (F0 m 908 ls []) := by
  obtain ⟨⟨hx, hb, hr, hml, hown0, hts, hX, hbl, hlocks, hgv⟩, hK, hO, hbA, hG, hL, hgB⟩ := id C0
  have hown : s.vm.findClass RL = some m.cls := hown0
  unfold wp_Lc_22 at h
  refine lv_aload_n hx hb dL_law_908 rfl (lv_at hl 1 rfl) ?_
  refine lv_aload_n hx hb dL_law_909 rfl (lv_at hl 0 rfl) ?_
  refine lv_iload_n hx hb dL_law_910 rfl (lv_at hl 3 rfl) ?_
  refine r_iconst hx hb dL_law_911 (by decide) h (fun z675 h => ?_)
  refine r_iadd hx hb dL_law_912 h (fun z677 h => ?_)
  refine r_sc hx hb hX hbl hbA hS dL_law_913 h (fun z679 h => ?_)
  refine q_Li hx hb hml hown hts hK hP hS hH (c_X11_who l D G _ _ x z679 _ h.2) ⟨callB_of 1 hts (gw_goodL kw_1205) rfl rfl rfl (hts _ (gw_in _ kw_1)) (hts _ (gw_in _ kw_1202)) hd_X11_who ⟨Nat.le_of_ble_eq_true rfl, Nat.le_of_ble_eq_true rfl⟩, (hts _ (gw_in _ kw_1203)), (hts _ (gw_in _ kw_1204))⟩ h.1 (ci := 11) rfl (by decide) rfl hl.1 rfl (lv_room (Nat.le_of_ble_eq_true rfl)) dL_law_914 ⟨by show _ ≤ 600000; omega, by show _ ≤ 7302250; omega⟩ (fun z681 M682 H locs h hP hS hH => ?_)
  refine lv_pop hx hb dL_law_917 rfl ?_
  refine lv_aload_n hx hb dL_law_918 rfl (lv_at hl 2 rfl) ?_
  refine lv_aload_n hx hb dL_law_919 rfl (lv_at hl 0 rfl) ?_
  refine lv_iload_n hx hb dL_law_920 rfl (lv_at hl 3 rfl) ?_
  refine r_iconst hx hb dL_law_921 (by decide) h (fun z684 h => ?_)
  refine r_iadd hx hb dL_law_922 h (fun z686 h => ?_)
  refine r_sc hx hb hX hbl hbA hS dL_law_923 h (fun z688 h => ?_)
  refine q_Li hx hb hml hown hts hK hP hS hH (c_X12_who l D G _ _ y z688 _ h.2) ⟨callB_of 1 hts (gw_goodL kw_1884) rfl rfl rfl (hts _ (gw_in _ kw_14)) (hts _ (gw_in _ kw_1881)) hd_X12_who ⟨Nat.le_of_ble_eq_true rfl, Nat.le_of_ble_eq_true rfl⟩, (hts _ (gw_in _ kw_1882)), (hts _ (gw_in _ kw_1883))⟩ h.1 (ci := 12) rfl (by decide) rfl hl.1 rfl (lv_room (Nat.le_of_ble_eq_true rfl)) dL_law_924 ⟨by show _ ≤ 600000; omega, by show _ ≤ 7302250; omega⟩ (fun z690 M691 H locs h hP hS hH => ?_)
  refine lv_pop hx hb dL_law_927 rfl ?_
  refine lv_goto (tgt := 1155) hx hb dL_law_928 (by decide) ?_
  exact kk S M691 _ _ _ cells slots (by omega) (by omega) h hP hS hH hl
def wp_Lc_23 (L : Nat) (xs : Nat → Int32) (x y : Int) (S : Sh) (M : Mm) (i : Int) (K : Sh → Mm → Prop) : Prop := wC 1 fun v692 => wA i v692 fun v694 => wSc L xs v694 fun v696 => isK S x 11 ∧ (wp_X11_probe S M x v696 <| fun v698 M700 => wC 1 fun v701 => wA i v701 fun v703 => wSc L xs v703 fun v705 => isK S y 12 ∧ (wp_X12_probe S M700 y v705 <| fun v707 M709 => K S M709))
set_option maxHeartbeats 4000000 in
set_option maxRecDepth 100000 in
theorem t_Lc_23 {p : Program} {l : Launch} {e : Env} {s : State} {m : MethodId} {below : List Frame} {meth : Method} {c : Code} {D : va_G} {G : Gt} {b L : Nat} {xs : Nat → Int32} (C0 : CL p s m meth c b L xs D G) (x y : Int) (S : Sh) (M : Mm) (H : Heap) (locs : List Loc) (ls : Array Slot) (cells slots : Nat) (z3 : Int32) {K : Sh → Mm → Prop} (hP : Wd D G S M H) (hS : va_S (aG G) s.heap H locs) (hH : H.size = gB G + S.1) (hl : lv_has ls 4 [(0, .ref b), (1, .ref (adr G x)), (2, .ref (adr G y)), (3, .int z3)]) (hcb : cells + 1 ≤ 600000) (hsb : slots + 400 ≤ 7302250) (h : wp_Lc_23 L xs x y S M z3.toInt K) (kk : ∀ (S1 : Sh) (M1 : Mm) (H1 : Heap) (locs1 : List Loc) (ls1 : Array Slot) (cells1 slots1 : Nat), cells1 ≤ cells + 1 → slots1 ≤ slots + 400 → K S1 M1 → Wd D G S1 M1 H1 → va_S (aG G) s.heap H1 locs1 → H1.size = gB G + S1.1 → lv_has ls1 4 [(0, .ref b), (1, .ref (adr G x)), (2, .ref (adr G y)), (3, .int z3)] → W p l e room_1 s m #[Value.ref b] below meth c H1 locs1 cells1 slots1 (lw_Z below #[Value.ref b] s) (F0 m 1155 ls1 [])) : W p l e room_1 s m #[Value.ref b] below meth c H locs cells slots (lw_Z below #[Value.ref b] s) (F0 m 931 ls []) := by
  obtain ⟨⟨hx, hb, hr, hml, hown0, hts, hX, hbl, hlocks, hgv⟩, hK, hO, hbA, hG, hL, hgB⟩ := id C0
  have hown : s.vm.findClass RL = some m.cls := hown0
  unfold wp_Lc_23 at h
  refine lv_aload_n hx hb dL_law_931 rfl (lv_at hl 1 rfl) ?_
  refine lv_aload_n hx hb dL_law_932 rfl (lv_at hl 0 rfl) ?_
  refine lv_iload_n hx hb dL_law_933 rfl (lv_at hl 3 rfl) ?_
  refine r_iconst hx hb dL_law_934 (by decide) h (fun z693 h => ?_)
  refine r_iadd hx hb dL_law_935 h (fun z695 h => ?_)
  refine r_sc hx hb hX hbl hbA hS dL_law_936 h (fun z697 h => ?_)
  refine q_Li hx hb hml hown hts hK hP hS hH (c_X11_probe l D G _ _ x z697 _ h.2) ⟨callB_of 1 hts (gw_goodL kw_1221) rfl rfl rfl (hts _ (gw_in _ kw_1)) (hts _ (gw_in _ kw_1218)) hd_X11_probe ⟨Nat.le_of_ble_eq_true rfl, Nat.le_of_ble_eq_true rfl⟩, (hts _ (gw_in _ kw_1219)), (hts _ (gw_in _ kw_1220))⟩ h.1 (ci := 11) rfl (by decide) rfl hl.1 rfl (lv_room (Nat.le_of_ble_eq_true rfl)) dL_law_937 ⟨by show _ ≤ 600000; omega, by show _ ≤ 7302250; omega⟩ (fun z699 M700 H locs h hP hS hH => ?_)
  refine lv_pop hx hb dL_law_940 rfl ?_
  refine lv_aload_n hx hb dL_law_941 rfl (lv_at hl 2 rfl) ?_
  refine lv_aload_n hx hb dL_law_942 rfl (lv_at hl 0 rfl) ?_
  refine lv_iload_n hx hb dL_law_943 rfl (lv_at hl 3 rfl) ?_
  refine r_iconst hx hb dL_law_944 (by decide) h (fun z702 h => ?_)
  refine r_iadd hx hb dL_law_945 h (fun z704 h => ?_)
  refine r_sc hx hb hX hbl hbA hS dL_law_946 h (fun z706 h => ?_)
  refine q_Li hx hb hml hown hts hK hP hS hH (c_X12_probe l D G _ _ y z706 _ h.2) ⟨callB_of 1 hts (gw_goodL kw_1897) rfl rfl rfl (hts _ (gw_in _ kw_14)) (hts _ (gw_in _ kw_1894)) hd_X12_probe ⟨Nat.le_of_ble_eq_true rfl, Nat.le_of_ble_eq_true rfl⟩, (hts _ (gw_in _ kw_1895)), (hts _ (gw_in _ kw_1896))⟩ h.1 (ci := 12) rfl (by decide) rfl hl.1 rfl (lv_room (Nat.le_of_ble_eq_true rfl)) dL_law_947 ⟨by show _ ≤ 600000; omega, by show _ ≤ 7302250; omega⟩ (fun z708 M709 H locs h hP hS hH => ?_)
  refine lv_pop hx hb dL_law_950 rfl ?_
  refine lv_goto (tgt := 1155) hx hb dL_law_951 (by decide) ?_
  exact kk S M709 _ _ _ cells slots (by omega) (by omega) h hP hS hH hl
def wp_Lc_24 (L : Nat) (xs : Nat → Int32) (x y : Int) (S : Sh) (M : Mm) (i : Int) (K : Sh → Mm → Prop) : Prop := wC 1 fun v710 => wA i v710 fun v712 => wSc L xs v712 fun v714 => wC 2 fun v716 => wA i v716 fun v718 => wSc L xs v718 fun v720 => wC 3 fun v722 => wA i v722 fun v724 => wSc L xs v724 fun v726 => isK S x 11 ∧ (wp_X11_rows S M x v714 v720 v726 <| fun v728 M730 => wC 1 fun v731 => wA i v731 fun v733 => wSc L xs v733 fun v735 => wC 2 fun v737 => wA i v737 fun v739 => wSc L xs v739 fun v741 => wC 3 fun v743 => wA i v743 fun v745 => wSc L xs v745 fun v747 => isK S y 12 ∧ (wp_X12_rows S M730 y v735 v741 v747 <| fun v749 M751 => K S M751))
set_option maxHeartbeats 4000000 in
set_option maxRecDepth 100000 in
theorem t_Lc_24 {p : Program} {l : Launch} {e : Env} {s : State} {m : MethodId} {below : List Frame} {meth : Method} {c : Code} {D : va_G} {G : Gt} {b L : Nat} {xs : Nat → Int32} (C0 : CL p s m meth c b L xs D G) (x y : Int) (S : Sh) (M : Mm) (H : Heap) (locs : List Loc) (ls : Array Slot) (cells slots : Nat) (z3 : Int32) {K : Sh → Mm → Prop} (hP : Wd D G S M H) (hS : va_S (aG G) s.heap H locs) (hH : H.size = gB G + S.1) (hl : lv_has ls 4 [(0, .ref b), (1, .ref (adr G x)), (2, .ref (adr G y)), (3, .int z3)]) (hcb : cells + 1 ≤ 600000) (hsb : slots + 400 ≤ 7302250) (h : wp_Lc_24 L xs x y S M z3.toInt K) (kk : ∀ (S1 : Sh) (M1 : Mm) (H1 : Heap) (locs1 : List Loc) (ls1 : Array Slot) (cells1 slots1 : Nat), cells1 ≤ cells + 1 → slots1 ≤ slots + 400 → K S1 M1 → Wd D G S1 M1 H1 → va_S (aG G) s.heap H1 locs1 → H1.size = gB G + S1.1 → lv_has ls1 4 [(0, .ref b), (1, .ref (adr G x)), (2, .ref (adr G y)), (3, .int z3)] → W p l e room_1 s m #[Value.ref b] below meth c H1 locs1 cells1 slots1 (lw_Z below #[Value.ref b] s) (F0 m 1155 ls1 [])) : W p l e room_1 s m #[Value.ref b] below meth c H locs cells slots (lw_Z below #[Value.ref b] s) (F0 m 954 ls []) := by
  obtain ⟨⟨hx, hb, hr, hml, hown0, hts, hX, hbl, hlocks, hgv⟩, hK, hO, hbA, hG, hL, hgB⟩ := id C0
  have hown : s.vm.findClass RL = some m.cls := hown0
  unfold wp_Lc_24 at h
  refine lv_aload_n hx hb dL_law_954 rfl (lv_at hl 1 rfl) ?_
  refine lv_aload_n hx hb dL_law_955 rfl (lv_at hl 0 rfl) ?_
  refine lv_iload_n hx hb dL_law_956 rfl (lv_at hl 3 rfl) ?_
  refine r_iconst hx hb dL_law_957 (by decide) h (fun z711 h => ?_)
  refine r_iadd hx hb dL_law_958 h (fun z713 h => ?_)
  refine r_sc hx hb hX hbl hbA hS dL_law_959 h (fun z715 h => ?_)
  refine lv_aload_n hx hb dL_law_960 rfl (lv_at hl 0 rfl) ?_
  refine lv_iload_n hx hb dL_law_961 rfl (lv_at hl 3 rfl) ?_
  refine r_iconst hx hb dL_law_962 (by decide) h (fun z717 h => ?_)
  refine r_iadd hx hb dL_law_963 h (fun z719 h => ?_)
  refine r_sc hx hb hX hbl hbA hS dL_law_964 h (fun z721 h => ?_)
  refine lv_aload_n hx hb dL_law_965 rfl (lv_at hl 0 rfl) ?_
  refine lv_iload_n hx hb dL_law_966 rfl (lv_at hl 3 rfl) ?_
  refine r_iconst hx hb dL_law_967 (by decide) h (fun z723 h => ?_)
  refine r_iadd hx hb dL_law_968 h (fun z725 h => ?_)
  refine r_sc hx hb hX hbl hbA hS dL_law_969 h (fun z727 h => ?_)
  refine q_Li hx hb hml hown hts hK hP hS hH (c_X11_rows l D G _ _ x z715 z721 z727 _ h.2) ⟨callB_of 3 hts (gw_goodL kw_1234) rfl rfl rfl (hts _ (gw_in _ kw_1)) (hts _ (gw_in _ kw_1231)) hd_X11_rows ⟨Nat.le_of_ble_eq_true rfl, Nat.le_of_ble_eq_true rfl⟩, (hts _ (gw_in _ kw_1232)), (hts _ (gw_in _ kw_1233))⟩ h.1 (ci := 11) rfl (by decide) rfl hl.1 rfl (lv_room (Nat.le_of_ble_eq_true rfl)) dL_law_970 ⟨by show _ ≤ 600000; omega, by show _ ≤ 7302250; omega⟩ (fun z729 M730 H locs h hP hS hH => ?_)
  refine lv_pop hx hb dL_law_973 rfl ?_
  refine lv_aload_n hx hb dL_law_974 rfl (lv_at hl 2 rfl) ?_
  refine lv_aload_n hx hb dL_law_975 rfl (lv_at hl 0 rfl) ?_
  refine lv_iload_n hx hb dL_law_976 rfl (lv_at hl 3 rfl) ?_
  refine r_iconst hx hb dL_law_977 (by decide) h (fun z732 h => ?_)
  refine r_iadd hx hb dL_law_978 h (fun z734 h => ?_)
  refine r_sc hx hb hX hbl hbA hS dL_law_979 h (fun z736 h => ?_)
  refine lv_aload_n hx hb dL_law_980 rfl (lv_at hl 0 rfl) ?_
  refine lv_iload_n hx hb dL_law_981 rfl (lv_at hl 3 rfl) ?_
  refine r_iconst hx hb dL_law_982 (by decide) h (fun z738 h => ?_)
  refine r_iadd hx hb dL_law_983 h (fun z740 h => ?_)
  refine r_sc hx hb hX hbl hbA hS dL_law_984 h (fun z742 h => ?_)
  refine lv_aload_n hx hb dL_law_985 rfl (lv_at hl 0 rfl) ?_
  refine lv_iload_n hx hb dL_law_986 rfl (lv_at hl 3 rfl) ?_
  refine r_iconst hx hb dL_law_987 (by decide) h (fun z744 h => ?_)
  refine r_iadd hx hb dL_law_988 h (fun z746 h => ?_)
  refine r_sc hx hb hX hbl hbA hS dL_law_989 h (fun z748 h => ?_)
  refine q_Li hx hb hml hown hts hK hP hS hH (c_X12_rows l D G _ _ y z736 z742 z748 _ h.2) ⟨callB_of 3 hts (gw_goodL kw_1905) rfl rfl rfl (hts _ (gw_in _ kw_14)) (hts _ (gw_in _ kw_1902)) hd_X12_rows ⟨Nat.le_of_ble_eq_true rfl, Nat.le_of_ble_eq_true rfl⟩, (hts _ (gw_in _ kw_1903)), (hts _ (gw_in _ kw_1904))⟩ h.1 (ci := 12) rfl (by decide) rfl hl.1 rfl (lv_room (Nat.le_of_ble_eq_true rfl)) dL_law_990 ⟨by show _ ≤ 600000; omega, by show _ ≤ 7302250; omega⟩ (fun z750 M751 H locs h hP hS hH => ?_)
  refine lv_pop hx hb dL_law_993 rfl ?_
  refine lv_goto (tgt := 1155) hx hb dL_law_994 (by decide) ?_
  exact kk S M751 _ _ _ cells slots (by omega) (by omega) h hP hS hH hl
def wp_Lc_25 (L : Nat) (xs : Nat → Int32) (x y : Int) (S : Sh) (M : Mm) (i : Int) (K : Sh → Mm → Prop) : Prop := wC 1 fun v752 => wA i v752 fun v754 => wSc L xs v754 fun v756 => isK S x 11 ∧ (wp_X11_ice S M x v756 <| fun v758 M760 => wC 1 fun v761 => wA i v761 fun v763 => wSc L xs v763 fun v765 => isK S y 12 ∧ (wp_X12_ice S M760 y v765 <| fun v767 M769 => K S M769))
set_option maxHeartbeats 4000000 in
set_option maxRecDepth 100000 in
theorem t_Lc_25 {p : Program} {l : Launch} {e : Env} {s : State} {m : MethodId} {below : List Frame} {meth : Method} {c : Code} {D : va_G} {G : Gt} {b L : Nat} {xs : Nat → Int32} (C0 : CL p s m meth c b L xs D G) (x y : Int) (S : Sh) (M : Mm) (H : Heap) (locs : List Loc) (ls : Array Slot) (cells slots : Nat) (z3 : Int32) {K : Sh → Mm → Prop} (hP : Wd D G S M H) (hS : va_S (aG G) s.heap H locs) (hH : H.size = gB G + S.1) (hl : lv_has ls 4 [(0, .ref b), (1, .ref (adr G x)), (2, .ref (adr G y)), (3, .int z3)]) (hcb : cells + 1 ≤ 600000) (hsb : slots + 400 ≤ 7302250) (h : wp_Lc_25 L xs x y S M z3.toInt K) (kk : ∀ (S1 : Sh) (M1 : Mm) (H1 : Heap) (locs1 : List Loc) (ls1 : Array Slot) (cells1 slots1 : Nat), cells1 ≤ cells + 1 → slots1 ≤ slots + 400 → K S1 M1 → Wd D G S1 M1 H1 → va_S (aG G) s.heap H1 locs1 → H1.size = gB G + S1.1 → lv_has ls1 4 [(0, .ref b), (1, .ref (adr G x)), (2, .ref (adr G y)), (3, .int z3)] → W p l e room_1 s m #[Value.ref b] below meth c H1 locs1 cells1 slots1 (lw_Z below #[Value.ref b] s) (F0 m 1155 ls1 [])) : W p l e room_1 s m #[Value.ref b] below meth c H locs cells slots (lw_Z below #[Value.ref b] s) (F0 m 997 ls []) := by
  obtain ⟨⟨hx, hb, hr, hml, hown0, hts, hX, hbl, hlocks, hgv⟩, hK, hO, hbA, hG, hL, hgB⟩ := id C0
  have hown : s.vm.findClass RL = some m.cls := hown0
  unfold wp_Lc_25 at h
  refine lv_aload_n hx hb dL_law_997 rfl (lv_at hl 1 rfl) ?_
  refine lv_aload_n hx hb dL_law_998 rfl (lv_at hl 0 rfl) ?_
  refine lv_iload_n hx hb dL_law_999 rfl (lv_at hl 3 rfl) ?_
  refine r_iconst hx hb dL_law_1000 (by decide) h (fun z753 h => ?_)
  refine r_iadd hx hb dL_law_1001 h (fun z755 h => ?_)
  refine r_sc hx hb hX hbl hbA hS dL_law_1002 h (fun z757 h => ?_)
  refine q_Li hx hb hml hown hts hK hP hS hH (c_X11_ice l D G _ _ x z757 _ h.2) ⟨callB_of 1 hts (gw_goodL kw_1261) rfl rfl rfl (hts _ (gw_in _ kw_1)) (hts _ (gw_in _ kw_1258)) hd_X11_ice ⟨Nat.le_of_ble_eq_true rfl, Nat.le_of_ble_eq_true rfl⟩, (hts _ (gw_in _ kw_1259)), (hts _ (gw_in _ kw_1260))⟩ h.1 (ci := 11) rfl (by decide) rfl hl.1 rfl (lv_room (Nat.le_of_ble_eq_true rfl)) dL_law_1003 ⟨by show _ ≤ 600000; omega, by show _ ≤ 7302250; omega⟩ (fun z759 M760 H locs h hP hS hH => ?_)
  refine lv_pop hx hb dL_law_1006 rfl ?_
  refine lv_aload_n hx hb dL_law_1007 rfl (lv_at hl 2 rfl) ?_
  refine lv_aload_n hx hb dL_law_1008 rfl (lv_at hl 0 rfl) ?_
  refine lv_iload_n hx hb dL_law_1009 rfl (lv_at hl 3 rfl) ?_
  refine r_iconst hx hb dL_law_1010 (by decide) h (fun z762 h => ?_)
  refine r_iadd hx hb dL_law_1011 h (fun z764 h => ?_)
  refine r_sc hx hb hX hbl hbA hS dL_law_1012 h (fun z766 h => ?_)
  refine q_Li hx hb hml hown hts hK hP hS hH (c_X12_ice l D G _ _ y z766 _ h.2) ⟨callB_of 1 hts (gw_goodL kw_1926) rfl rfl rfl (hts _ (gw_in _ kw_14)) (hts _ (gw_in _ kw_1923)) hd_X12_ice ⟨Nat.le_of_ble_eq_true rfl, Nat.le_of_ble_eq_true rfl⟩, (hts _ (gw_in _ kw_1924)), (hts _ (gw_in _ kw_1925))⟩ h.1 (ci := 12) rfl (by decide) rfl hl.1 rfl (lv_room (Nat.le_of_ble_eq_true rfl)) dL_law_1013 ⟨by show _ ≤ 600000; omega, by show _ ≤ 7302250; omega⟩ (fun z768 M769 H locs h hP hS hH => ?_)
  refine lv_pop hx hb dL_law_1016 rfl ?_
  refine lv_goto (tgt := 1155) hx hb dL_law_1017 (by decide) ?_
  exact kk S M769 _ _ _ cells slots (by omega) (by omega) h hP hS hH hl
def wp_Lc_26 (L : Nat) (xs : Nat → Int32) (x y : Int) (S : Sh) (M : Mm) (i : Int) (K : Sh → Mm → Prop) : Prop := wC 1 fun v770 => wA i v770 fun v772 => wSc L xs v772 fun v774 => isK S x 11 ∧ (wp_X11_seed S M x v774 <| fun v776 M778 => wC 1 fun v779 => wA i v779 fun v781 => wSc L xs v781 fun v783 => isK S y 12 ∧ (wp_X12_seed S M778 y v783 <| fun v785 M787 => K S M787))
set_option maxHeartbeats 4000000 in
set_option maxRecDepth 100000 in
theorem t_Lc_26 {p : Program} {l : Launch} {e : Env} {s : State} {m : MethodId} {below : List Frame} {meth : Method} {c : Code} {D : va_G} {G : Gt} {b L : Nat} {xs : Nat → Int32} (C0 : CL p s m meth c b L xs D G) (x y : Int) (S : Sh) (M : Mm) (H : Heap) (locs : List Loc) (ls : Array Slot) (cells slots : Nat) (z3 : Int32) {K : Sh → Mm → Prop} (hP : Wd D G S M H) (hS : va_S (aG G) s.heap H locs) (hH : H.size = gB G + S.1) (hl : lv_has ls 4 [(0, .ref b), (1, .ref (adr G x)), (2, .ref (adr G y)), (3, .int z3)]) (hcb : cells + 1 ≤ 600000) (hsb : slots + 400 ≤ 7302250) (h : wp_Lc_26 L xs x y S M z3.toInt K) (kk : ∀ (S1 : Sh) (M1 : Mm) (H1 : Heap) (locs1 : List Loc) (ls1 : Array Slot) (cells1 slots1 : Nat), cells1 ≤ cells + 1 → slots1 ≤ slots + 400 → K S1 M1 → Wd D G S1 M1 H1 → va_S (aG G) s.heap H1 locs1 → H1.size = gB G + S1.1 → lv_has ls1 4 [(0, .ref b), (1, .ref (adr G x)), (2, .ref (adr G y)), (3, .int z3)] → W p l e room_1 s m #[Value.ref b] below meth c H1 locs1 cells1 slots1 (lw_Z below #[Value.ref b] s) (F0 m 1155 ls1 [])) : W p l e room_1 s m #[Value.ref b] below meth c H locs cells slots (lw_Z below #[Value.ref b] s) (F0 m 1020 ls []) := by
  obtain ⟨⟨hx, hb, hr, hml, hown0, hts, hX, hbl, hlocks, hgv⟩, hK, hO, hbA, hG, hL, hgB⟩ := id C0
  have hown : s.vm.findClass RL = some m.cls := hown0
  unfold wp_Lc_26 at h
  refine lv_aload_n hx hb dL_law_1020 rfl (lv_at hl 1 rfl) ?_
  refine lv_aload_n hx hb dL_law_1021 rfl (lv_at hl 0 rfl) ?_
  refine lv_iload_n hx hb dL_law_1022 rfl (lv_at hl 3 rfl) ?_
  refine r_iconst hx hb dL_law_1023 (by decide) h (fun z771 h => ?_)
  refine r_iadd hx hb dL_law_1024 h (fun z773 h => ?_)
  refine r_sc hx hb hX hbl hbA hS dL_law_1025 h (fun z775 h => ?_)
  refine q_Li hx hb hml hown hts hK hP hS hH (c_X11_seed l D G _ _ x z775 _ h.2) ⟨callB_of 1 hts (gw_goodL kw_1270) rfl rfl rfl (hts _ (gw_in _ kw_1)) (hts _ (gw_in _ kw_1267)) hd_X11_seed ⟨Nat.le_of_ble_eq_true rfl, Nat.le_of_ble_eq_true rfl⟩, (hts _ (gw_in _ kw_1268)), (hts _ (gw_in _ kw_1269))⟩ h.1 (ci := 11) rfl (by decide) rfl hl.1 rfl (lv_room (Nat.le_of_ble_eq_true rfl)) dL_law_1026 ⟨by show _ ≤ 600000; omega, by show _ ≤ 7302250; omega⟩ (fun z777 M778 H locs h hP hS hH => ?_)
  refine lv_pop hx hb dL_law_1029 rfl ?_
  refine lv_aload_n hx hb dL_law_1030 rfl (lv_at hl 2 rfl) ?_
  refine lv_aload_n hx hb dL_law_1031 rfl (lv_at hl 0 rfl) ?_
  refine lv_iload_n hx hb dL_law_1032 rfl (lv_at hl 3 rfl) ?_
  refine r_iconst hx hb dL_law_1033 (by decide) h (fun z780 h => ?_)
  refine r_iadd hx hb dL_law_1034 h (fun z782 h => ?_)
  refine r_sc hx hb hX hbl hbA hS dL_law_1035 h (fun z784 h => ?_)
  refine q_Li hx hb hml hown hts hK hP hS hH (c_X12_seed l D G _ _ y z784 _ h.2) ⟨callB_of 1 hts (gw_goodL kw_1939) rfl rfl rfl (hts _ (gw_in _ kw_14)) (hts _ (gw_in _ kw_1936)) hd_X12_seed ⟨Nat.le_of_ble_eq_true rfl, Nat.le_of_ble_eq_true rfl⟩, (hts _ (gw_in _ kw_1937)), (hts _ (gw_in _ kw_1938))⟩ h.1 (ci := 12) rfl (by decide) rfl hl.1 rfl (lv_room (Nat.le_of_ble_eq_true rfl)) dL_law_1036 ⟨by show _ ≤ 600000; omega, by show _ ≤ 7302250; omega⟩ (fun z786 M787 H locs h hP hS hH => ?_)
  refine lv_pop hx hb dL_law_1039 rfl ?_
  refine lv_goto (tgt := 1155) hx hb dL_law_1040 (by decide) ?_
  exact kk S M787 _ _ _ cells slots (by omega) (by omega) h hP hS hH hl
def wp_Lc_27 (L : Nat) (xs : Nat → Int32) (x y : Int) (S : Sh) (M : Mm) (i : Int) (K : Sh → Mm → Prop) : Prop := wC 1 fun v788 => wA i v788 fun v790 => wSc L xs v790 fun v792 => wC 2 fun v794 => wA i v794 fun v796 => wSc L xs v796 fun v798 => wC 3 fun v800 => wA i v800 fun v802 => wSc L xs v802 fun v804 => isK S x 11 ∧ (wp_X11_years S M x v792 v798 v804 <| fun v806 M808 => wC 1 fun v809 => wA i v809 fun v811 => wSc L xs v811 fun v813 => wC 2 fun v815 => wA i v815 fun v817 => wSc L xs v817 fun v819 => wC 3 fun v821 => wA i v821 fun v823 => wSc L xs v823 fun v825 => isK S y 12 ∧ (wp_X12_years S M808 y v813 v819 v825 <| fun v827 M829 => K S M829))
set_option maxHeartbeats 4000000 in
set_option maxRecDepth 100000 in
theorem t_Lc_27 {p : Program} {l : Launch} {e : Env} {s : State} {m : MethodId} {below : List Frame} {meth : Method} {c : Code} {D : va_G} {G : Gt} {b L : Nat} {xs : Nat → Int32} (C0 : CL p s m meth c b L xs D G) (x y : Int) (S : Sh) (M : Mm) (H : Heap) (locs : List Loc) (ls : Array Slot) (cells slots : Nat) (z3 : Int32) {K : Sh → Mm → Prop} (hP : Wd D G S M H) (hS : va_S (aG G) s.heap H locs) (hH : H.size = gB G + S.1) (hl : lv_has ls 4 [(0, .ref b), (1, .ref (adr G x)), (2, .ref (adr G y)), (3, .int z3)]) (hcb : cells + 1 ≤ 600000) (hsb : slots + 400 ≤ 7302250) (h : wp_Lc_27 L xs x y S M z3.toInt K) (kk : ∀ (S1 : Sh) (M1 : Mm) (H1 : Heap) (locs1 : List Loc) (ls1 : Array Slot) (cells1 slots1 : Nat), cells1 ≤ cells + 1 → slots1 ≤ slots + 400 → K S1 M1 → Wd D G S1 M1 H1 → va_S (aG G) s.heap H1 locs1 → H1.size = gB G + S1.1 → lv_has ls1 4 [(0, .ref b), (1, .ref (adr G x)), (2, .ref (adr G y)), (3, .int z3)] → W p l e room_1 s m #[Value.ref b] below meth c H1 locs1 cells1 slots1 (lw_Z below #[Value.ref b] s) (F0 m 1155 ls1 [])) : W p l e room_1 s m #[Value.ref b] below meth c H locs cells slots (lw_Z below #[Value.ref b] s) (F0 m 1043 ls []) := by
  obtain ⟨⟨hx, hb, hr, hml, hown0, hts, hX, hbl, hlocks, hgv⟩, hK, hO, hbA, hG, hL, hgB⟩ := id C0
  have hown : s.vm.findClass RL = some m.cls := hown0
  unfold wp_Lc_27 at h
  refine lv_aload_n hx hb dL_law_1043 rfl (lv_at hl 1 rfl) ?_
  refine lv_aload_n hx hb dL_law_1044 rfl (lv_at hl 0 rfl) ?_
  refine lv_iload_n hx hb dL_law_1045 rfl (lv_at hl 3 rfl) ?_
  refine r_iconst hx hb dL_law_1046 (by decide) h (fun z789 h => ?_)
  refine r_iadd hx hb dL_law_1047 h (fun z791 h => ?_)
  refine r_sc hx hb hX hbl hbA hS dL_law_1048 h (fun z793 h => ?_)
  refine lv_aload_n hx hb dL_law_1049 rfl (lv_at hl 0 rfl) ?_
  refine lv_iload_n hx hb dL_law_1050 rfl (lv_at hl 3 rfl) ?_
  refine r_iconst hx hb dL_law_1051 (by decide) h (fun z795 h => ?_)
  refine r_iadd hx hb dL_law_1052 h (fun z797 h => ?_)
  refine r_sc hx hb hX hbl hbA hS dL_law_1053 h (fun z799 h => ?_)
  refine lv_aload_n hx hb dL_law_1054 rfl (lv_at hl 0 rfl) ?_
  refine lv_iload_n hx hb dL_law_1055 rfl (lv_at hl 3 rfl) ?_
  refine r_iconst hx hb dL_law_1056 (by decide) h (fun z801 h => ?_)
  refine r_iadd hx hb dL_law_1057 h (fun z803 h => ?_)
  refine r_sc hx hb hX hbl hbA hS dL_law_1058 h (fun z805 h => ?_)
  refine q_Li hx hb hml hown hts hK hP hS hH (c_X11_years l D G _ _ x z793 z799 z805 _ h.2) ⟨callB_of 3 hts (gw_goodL kw_1274) rfl rfl rfl (hts _ (gw_in _ kw_1)) (hts _ (gw_in _ kw_1271)) hd_X11_years ⟨Nat.le_of_ble_eq_true rfl, Nat.le_of_ble_eq_true rfl⟩, (hts _ (gw_in _ kw_1272)), (hts _ (gw_in _ kw_1273))⟩ h.1 (ci := 11) rfl (by decide) rfl hl.1 rfl (lv_room (Nat.le_of_ble_eq_true rfl)) dL_law_1059 ⟨by show _ ≤ 600000; omega, by show _ ≤ 7302250; omega⟩ (fun z807 M808 H locs h hP hS hH => ?_)
  refine lv_pop hx hb dL_law_1062 rfl ?_
  refine lv_aload_n hx hb dL_law_1063 rfl (lv_at hl 2 rfl) ?_
  refine lv_aload_n hx hb dL_law_1064 rfl (lv_at hl 0 rfl) ?_
  refine lv_iload_n hx hb dL_law_1065 rfl (lv_at hl 3 rfl) ?_
  refine r_iconst hx hb dL_law_1066 (by decide) h (fun z810 h => ?_)
  refine r_iadd hx hb dL_law_1067 h (fun z812 h => ?_)
  refine r_sc hx hb hX hbl hbA hS dL_law_1068 h (fun z814 h => ?_)
  refine lv_aload_n hx hb dL_law_1069 rfl (lv_at hl 0 rfl) ?_
  refine lv_iload_n hx hb dL_law_1070 rfl (lv_at hl 3 rfl) ?_
  refine r_iconst hx hb dL_law_1071 (by decide) h (fun z816 h => ?_)
  refine r_iadd hx hb dL_law_1072 h (fun z818 h => ?_)
  refine r_sc hx hb hX hbl hbA hS dL_law_1073 h (fun z820 h => ?_)
  refine lv_aload_n hx hb dL_law_1074 rfl (lv_at hl 0 rfl) ?_
  refine lv_iload_n hx hb dL_law_1075 rfl (lv_at hl 3 rfl) ?_
  refine r_iconst hx hb dL_law_1076 (by decide) h (fun z822 h => ?_)
  refine r_iadd hx hb dL_law_1077 h (fun z824 h => ?_)
  refine r_sc hx hb hX hbl hbA hS dL_law_1078 h (fun z826 h => ?_)
  refine q_Li hx hb hml hown hts hK hP hS hH (c_X12_years l D G _ _ y z814 z820 z826 _ h.2) ⟨callB_of 3 hts (gw_goodL kw_1943) rfl rfl rfl (hts _ (gw_in _ kw_14)) (hts _ (gw_in _ kw_1940)) hd_X12_years ⟨Nat.le_of_ble_eq_true rfl, Nat.le_of_ble_eq_true rfl⟩, (hts _ (gw_in _ kw_1941)), (hts _ (gw_in _ kw_1942))⟩ h.1 (ci := 12) rfl (by decide) rfl hl.1 rfl (lv_room (Nat.le_of_ble_eq_true rfl)) dL_law_1079 ⟨by show _ ≤ 600000; omega, by show _ ≤ 7302250; omega⟩ (fun z828 M829 H locs h hP hS hH => ?_)
  refine lv_pop hx hb dL_law_1082 rfl ?_
  refine lv_goto (tgt := 1155) hx hb dL_law_1083 (by decide) ?_
  exact kk S M829 _ _ _ cells slots (by omega) (by omega) h hP hS hH hl
def wp_Lc_28 (L : Nat) (xs : Nat → Int32) (x y : Int) (S : Sh) (M : Mm) (i : Int) (K : Sh → Mm → Prop) : Prop := wC 1 fun v830 => wA i v830 fun v832 => wSc L xs v832 fun v834 => isK S x 11 ∧ (wp_X11_count S M x v834 <| fun v836 M838 => wC 1 fun v839 => wA i v839 fun v841 => wSc L xs v841 fun v843 => isK S y 12 ∧ (wp_X12_count S M838 y v843 <| fun v845 M847 => K S M847))
set_option maxHeartbeats 4000000 in
set_option maxRecDepth 100000 in
theorem t_Lc_28 {p : Program} {l : Launch} {e : Env} {s : State} {m : MethodId} {below : List Frame} {meth : Method} {c : Code} {D : va_G} {G : Gt} {b L : Nat} {xs : Nat → Int32} (C0 : CL p s m meth c b L xs D G) (x y : Int) (S : Sh) (M : Mm) (H : Heap) (locs : List Loc) (ls : Array Slot) (cells slots : Nat) (z3 : Int32) {K : Sh → Mm → Prop} (hP : Wd D G S M H) (hS : va_S (aG G) s.heap H locs) (hH : H.size = gB G + S.1) (hl : lv_has ls 4 [(0, .ref b), (1, .ref (adr G x)), (2, .ref (adr G y)), (3, .int z3)]) (hcb : cells + 1 ≤ 600000) (hsb : slots + 400 ≤ 7302250) (h : wp_Lc_28 L xs x y S M z3.toInt K) (kk : ∀ (S1 : Sh) (M1 : Mm) (H1 : Heap) (locs1 : List Loc) (ls1 : Array Slot) (cells1 slots1 : Nat), cells1 ≤ cells + 1 → slots1 ≤ slots + 400 → K S1 M1 → Wd D G S1 M1 H1 → va_S (aG G) s.heap H1 locs1 → H1.size = gB G + S1.1 → lv_has ls1 4 [(0, .ref b), (1, .ref (adr G x)), (2, .ref (adr G y)), (3, .int z3)] → W p l e room_1 s m #[Value.ref b] below meth c H1 locs1 cells1 slots1 (lw_Z below #[Value.ref b] s) (F0 m 1155 ls1 [])) : W p l e room_1 s m #[Value.ref b] below meth c H locs cells slots (lw_Z below #[Value.ref b] s) (F0 m 1086 ls []) := by
  obtain ⟨⟨hx, hb, hr, hml, hown0, hts, hX, hbl, hlocks, hgv⟩, hK, hO, hbA, hG, hL, hgB⟩ := id C0
  have hown : s.vm.findClass RL = some m.cls := hown0
  unfold wp_Lc_28 at h
  refine lv_aload_n hx hb dL_law_1086 rfl (lv_at hl 1 rfl) ?_
  refine lv_aload_n hx hb dL_law_1087 rfl (lv_at hl 0 rfl) ?_
  refine lv_iload_n hx hb dL_law_1088 rfl (lv_at hl 3 rfl) ?_
  refine r_iconst hx hb dL_law_1089 (by decide) h (fun z831 h => ?_)
  refine r_iadd hx hb dL_law_1090 h (fun z833 h => ?_)
  refine r_sc hx hb hX hbl hbA hS dL_law_1091 h (fun z835 h => ?_)
  refine q_Li hx hb hml hown hts hK hP hS hH (c_X11_count l D G _ _ x z835 _ h.2) ⟨callB_of 1 hts (gw_goodL kw_1307) rfl rfl rfl (hts _ (gw_in _ kw_1)) (hts _ (gw_in _ kw_1304)) hd_X11_count ⟨Nat.le_of_ble_eq_true rfl, Nat.le_of_ble_eq_true rfl⟩, (hts _ (gw_in _ kw_1305)), (hts _ (gw_in _ kw_1306))⟩ h.1 (ci := 11) rfl (by decide) rfl hl.1 rfl (lv_room (Nat.le_of_ble_eq_true rfl)) dL_law_1092 ⟨by show _ ≤ 600000; omega, by show _ ≤ 7302250; omega⟩ (fun z837 M838 H locs h hP hS hH => ?_)
  refine lv_pop hx hb dL_law_1095 rfl ?_
  refine lv_aload_n hx hb dL_law_1096 rfl (lv_at hl 2 rfl) ?_
  refine lv_aload_n hx hb dL_law_1097 rfl (lv_at hl 0 rfl) ?_
  refine lv_iload_n hx hb dL_law_1098 rfl (lv_at hl 3 rfl) ?_
  refine r_iconst hx hb dL_law_1099 (by decide) h (fun z840 h => ?_)
  refine r_iadd hx hb dL_law_1100 h (fun z842 h => ?_)
  refine r_sc hx hb hX hbl hbA hS dL_law_1101 h (fun z844 h => ?_)
  refine q_Li hx hb hml hown hts hK hP hS hH (c_X12_count l D G _ _ y z844 _ h.2) ⟨callB_of 1 hts (gw_goodL kw_1959) rfl rfl rfl (hts _ (gw_in _ kw_14)) (hts _ (gw_in _ kw_1956)) hd_X12_count ⟨Nat.le_of_ble_eq_true rfl, Nat.le_of_ble_eq_true rfl⟩, (hts _ (gw_in _ kw_1957)), (hts _ (gw_in _ kw_1958))⟩ h.1 (ci := 12) rfl (by decide) rfl hl.1 rfl (lv_room (Nat.le_of_ble_eq_true rfl)) dL_law_1102 ⟨by show _ ≤ 600000; omega, by show _ ≤ 7302250; omega⟩ (fun z846 M847 H locs h hP hS hH => ?_)
  refine lv_pop hx hb dL_law_1105 rfl ?_
  refine lv_goto (tgt := 1155) hx hb dL_law_1106 (by decide) ?_
  exact kk S M847 _ _ _ cells slots (by omega) (by omega) h hP hS hH hl
def wp_Lc_29 (L : Nat) (xs : Nat → Int32) (x y : Int) (S : Sh) (M : Mm) (i : Int) (K : Sh → Mm → Prop) : Prop := wC 1 fun v848 => wA i v848 fun v850 => wSc L xs v850 fun v852 => isK S x 11 ∧ (wp_X11_image S M x v852 <| fun v854 M856 => wC 1 fun v857 => wA i v857 fun v859 => wSc L xs v859 fun v861 => isK S y 12 ∧ (wp_X12_image S M856 y v861 <| fun v863 M865 => K S M865))
set_option maxHeartbeats 4000000 in
set_option maxRecDepth 100000 in
theorem t_Lc_29 {p : Program} {l : Launch} {e : Env} {s : State} {m : MethodId} {below : List Frame} {meth : Method} {c : Code} {D : va_G} {G : Gt} {b L : Nat} {xs : Nat → Int32} (C0 : CL p s m meth c b L xs D G) (x y : Int) (S : Sh) (M : Mm) (H : Heap) (locs : List Loc) (ls : Array Slot) (cells slots : Nat) (z3 : Int32) {K : Sh → Mm → Prop} (hP : Wd D G S M H) (hS : va_S (aG G) s.heap H locs) (hH : H.size = gB G + S.1) (hl : lv_has ls 4 [(0, .ref b), (1, .ref (adr G x)), (2, .ref (adr G y)), (3, .int z3)]) (hcb : cells + 1 ≤ 600000) (hsb : slots + 400 ≤ 7302250) (h : wp_Lc_29 L xs x y S M z3.toInt K) (kk : ∀ (S1 : Sh) (M1 : Mm) (H1 : Heap) (locs1 : List Loc) (ls1 : Array Slot) (cells1 slots1 : Nat), cells1 ≤ cells + 1 → slots1 ≤ slots + 400 → K S1 M1 → Wd D G S1 M1 H1 → va_S (aG G) s.heap H1 locs1 → H1.size = gB G + S1.1 → lv_has ls1 4 [(0, .ref b), (1, .ref (adr G x)), (2, .ref (adr G y)), (3, .int z3)] → W p l e room_1 s m #[Value.ref b] below meth c H1 locs1 cells1 slots1 (lw_Z below #[Value.ref b] s) (F0 m 1155 ls1 [])) : W p l e room_1 s m #[Value.ref b] below meth c H locs cells slots (lw_Z below #[Value.ref b] s) (F0 m 1109 ls []) := by
  obtain ⟨⟨hx, hb, hr, hml, hown0, hts, hX, hbl, hlocks, hgv⟩, hK, hO, hbA, hG, hL, hgB⟩ := id C0
  have hown : s.vm.findClass RL = some m.cls := hown0
  unfold wp_Lc_29 at h
  refine lv_aload_n hx hb dL_law_1109 rfl (lv_at hl 1 rfl) ?_
  refine lv_aload_n hx hb dL_law_1110 rfl (lv_at hl 0 rfl) ?_
  refine lv_iload_n hx hb dL_law_1111 rfl (lv_at hl 3 rfl) ?_
  refine r_iconst hx hb dL_law_1112 (by decide) h (fun z849 h => ?_)
  refine r_iadd hx hb dL_law_1113 h (fun z851 h => ?_)
  refine r_sc hx hb hX hbl hbA hS dL_law_1114 h (fun z853 h => ?_)
  refine q_Li hx hb hml hown hts hK hP hS hH (c_X11_image l D G _ _ x z853 _ h.2) ⟨callB_of 1 hts (gw_goodL kw_1316) rfl rfl rfl (hts _ (gw_in _ kw_1)) (hts _ (gw_in _ kw_1313)) hd_X11_image ⟨Nat.le_of_ble_eq_true rfl, Nat.le_of_ble_eq_true rfl⟩, (hts _ (gw_in _ kw_1314)), (hts _ (gw_in _ kw_1315))⟩ h.1 (ci := 11) rfl (by decide) rfl hl.1 rfl (lv_room (Nat.le_of_ble_eq_true rfl)) dL_law_1115 ⟨by show _ ≤ 600000; omega, by show _ ≤ 7302250; omega⟩ (fun z855 M856 H locs h hP hS hH => ?_)
  refine lv_pop hx hb dL_law_1118 rfl ?_
  refine lv_aload_n hx hb dL_law_1119 rfl (lv_at hl 2 rfl) ?_
  refine lv_aload_n hx hb dL_law_1120 rfl (lv_at hl 0 rfl) ?_
  refine lv_iload_n hx hb dL_law_1121 rfl (lv_at hl 3 rfl) ?_
  refine r_iconst hx hb dL_law_1122 (by decide) h (fun z858 h => ?_)
  refine r_iadd hx hb dL_law_1123 h (fun z860 h => ?_)
  refine r_sc hx hb hX hbl hbA hS dL_law_1124 h (fun z862 h => ?_)
  refine q_Li hx hb hml hown hts hK hP hS hH (c_X12_image l D G _ _ y z862 _ h.2) ⟨callB_of 1 hts (gw_goodL kw_1963) rfl rfl rfl (hts _ (gw_in _ kw_14)) (hts _ (gw_in _ kw_1960)) hd_X12_image ⟨Nat.le_of_ble_eq_true rfl, Nat.le_of_ble_eq_true rfl⟩, (hts _ (gw_in _ kw_1961)), (hts _ (gw_in _ kw_1962))⟩ h.1 (ci := 12) rfl (by decide) rfl hl.1 rfl (lv_room (Nat.le_of_ble_eq_true rfl)) dL_law_1125 ⟨by show _ ≤ 600000; omega, by show _ ≤ 7302250; omega⟩ (fun z864 M865 H locs h hP hS hH => ?_)
  refine lv_pop hx hb dL_law_1128 rfl ?_
  refine lv_goto (tgt := 1155) hx hb dL_law_1129 (by decide) ?_
  exact kk S M865 _ _ _ cells slots (by omega) (by omega) h hP hS hH hl
def wp_Lc_30 (L : Nat) (xs : Nat → Int32) (x y : Int) (S : Sh) (M : Mm) (i : Int) (K : Sh → Mm → Prop) : Prop := wC 1 fun v866 => wA i v866 fun v868 => wSc L xs v868 fun v870 => isK S x 11 ∧ (wp_X11_back S M x v870 <| fun v872 M874 => wC 1 fun v875 => wA i v875 fun v877 => wSc L xs v877 fun v879 => isK S y 12 ∧ (wp_X12_back S M874 y v879 <| fun v881 M883 => v872 = v881 ∧ ( K S M883)))
set_option maxHeartbeats 4000000 in
set_option maxRecDepth 100000 in
theorem t_Lc_30 {p : Program} {l : Launch} {e : Env} {s : State} {m : MethodId} {below : List Frame} {meth : Method} {c : Code} {D : va_G} {G : Gt} {b L : Nat} {xs : Nat → Int32} (C0 : CL p s m meth c b L xs D G) (x y : Int) (S : Sh) (M : Mm) (H : Heap) (locs : List Loc) (ls : Array Slot) (cells slots : Nat) (z3 : Int32) {K : Sh → Mm → Prop} (hP : Wd D G S M H) (hS : va_S (aG G) s.heap H locs) (hH : H.size = gB G + S.1) (hl : lv_has ls 4 [(0, .ref b), (1, .ref (adr G x)), (2, .ref (adr G y)), (3, .int z3)]) (hcb : cells + 1 ≤ 600000) (hsb : slots + 400 ≤ 7302250) (h : wp_Lc_30 L xs x y S M z3.toInt K) (kk : ∀ (S1 : Sh) (M1 : Mm) (H1 : Heap) (locs1 : List Loc) (ls1 : Array Slot) (cells1 slots1 : Nat), cells1 ≤ cells + 1 → slots1 ≤ slots + 400 → K S1 M1 → Wd D G S1 M1 H1 → va_S (aG G) s.heap H1 locs1 → H1.size = gB G + S1.1 → lv_has ls1 4 [(0, .ref b), (1, .ref (adr G x)), (2, .ref (adr G y)), (3, .int z3)] → W p l e room_1 s m #[Value.ref b] below meth c H1 locs1 cells1 slots1 (lw_Z below #[Value.ref b] s) (F0 m 1155 ls1 [])) : W p l e room_1 s m #[Value.ref b] below meth c H locs cells slots (lw_Z below #[Value.ref b] s) (F0 m 1132 ls []) := by
  obtain ⟨⟨hx, hb, hr, hml, hown0, hts, hX, hbl, hlocks, hgv⟩, hK, hO, hbA, hG, hL, hgB⟩ := id C0
  have hown : s.vm.findClass RL = some m.cls := hown0
  unfold wp_Lc_30 at h
  refine lv_aload_n hx hb dL_law_1132 rfl (lv_at hl 1 rfl) ?_
  refine lv_aload_n hx hb dL_law_1133 rfl (lv_at hl 0 rfl) ?_
  refine lv_iload_n hx hb dL_law_1134 rfl (lv_at hl 3 rfl) ?_
  refine r_iconst hx hb dL_law_1135 (by decide) h (fun z867 h => ?_)
  refine r_iadd hx hb dL_law_1136 h (fun z869 h => ?_)
  refine r_sc hx hb hX hbl hbA hS dL_law_1137 h (fun z871 h => ?_)
  refine q_Li hx hb hml hown hts hK hP hS hH (c_X11_back l D G _ _ x z871 _ h.2) ⟨callB_of 1 hts (gw_goodL kw_1327) rfl rfl rfl (hts _ (gw_in _ kw_1)) (hts _ (gw_in _ kw_1324)) hd_X11_back ⟨Nat.le_of_ble_eq_true rfl, Nat.le_of_ble_eq_true rfl⟩, (hts _ (gw_in _ kw_1325)), (hts _ (gw_in _ kw_1326))⟩ h.1 (ci := 11) rfl (by decide) rfl hl.1 rfl (lv_room (Nat.le_of_ble_eq_true rfl)) dL_law_1138 ⟨by show _ ≤ 600000; omega, by show _ ≤ 7302250; omega⟩ (fun z873 M874 H locs h hP hS hH => ?_)
  refine lv_aload_n hx hb dL_law_1141 rfl (lv_at hl 2 rfl) ?_
  refine lv_aload_n hx hb dL_law_1142 rfl (lv_at hl 0 rfl) ?_
  refine lv_iload_n hx hb dL_law_1143 rfl (lv_at hl 3 rfl) ?_
  refine r_iconst hx hb dL_law_1144 (by decide) h (fun z876 h => ?_)
  refine r_iadd hx hb dL_law_1145 h (fun z878 h => ?_)
  refine r_sc hx hb hX hbl hbA hS dL_law_1146 h (fun z880 h => ?_)
  refine q_Li hx hb hml hown hts hK hP hS hH (c_X12_back l D G _ _ y z880 _ h.2) ⟨callB_of 1 hts (gw_goodL kw_1968) rfl rfl rfl (hts _ (gw_in _ kw_14)) (hts _ (gw_in _ kw_1965)) hd_X12_back ⟨Nat.le_of_ble_eq_true rfl, Nat.le_of_ble_eq_true rfl⟩, (hts _ (gw_in _ kw_1966)), (hts _ (gw_in _ kw_1967))⟩ h.1 (ci := 12) rfl (by decide) rfl hl.1 rfl (lv_room (Nat.le_of_ble_eq_true rfl)) dL_law_1147 ⟨by show _ ≤ 600000; omega, by show _ ≤ 7302250; omega⟩ (fun z882 M883 H locs h hP hS hH => ?_)
  obtain ⟨he9, h⟩ := h
  refine lv_icmp_eq (tgt := 1155) hx hb dL_law_1150 (by decide) (fun _ => ?_) (fun q => absurd (Int32.toInt_inj.mp he9) q)
  exact kk S M883 _ _ _ cells slots (by omega) (by omega) h hP hS hH hl
