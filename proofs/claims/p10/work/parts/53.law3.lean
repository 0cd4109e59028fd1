section
/-- the law's loop over numbers: fuel, shape, memory, place in the script -/
def wp_L (L : Nat) (xs : Nat → Int32) (x y : Int) : Nat → Sh → Mm → Int → Prop
  | 0, _, _, _ => False
  | n + 1, S, M, i => wC L fun v1 => wC 6 fun v2 => wS v1 v2 fun v3 => wIf (v3 < i) True ((0 ≤ i ∧ i ≤ 3066) ∧ (wSc L xs i fun v4 => wC 31 fun v5 => wO iAnd v4 v5 fun v6 => wIf (v6 = 0) (wp_Lc_0 L xs x y S M i (fun S1 M1 => wA i 6 fun i1 => wp_L L xs x y n S1 M1 i1)) (wIf (v6 = 1) (wp_Lc_1 L xs x y S M i (fun S1 M1 => wA i 6 fun i1 => wp_L L xs x y n S1 M1 i1)) (wIf (v6 = 2) (wp_Lc_2 L xs x y S M i (fun S1 M1 => wA i 6 fun i1 => wp_L L xs x y n S1 M1 i1)) (wIf (v6 = 3) (wp_Lc_3 L xs x y S M i (fun S1 M1 => wA i 6 fun i1 => wp_L L xs x y n S1 M1 i1)) (wIf (v6 = 4) (wp_Lc_4 L xs x y S M i (fun S1 M1 => wA i 6 fun i1 => wp_L L xs x y n S1 M1 i1)) (wIf (v6 = 5) (wp_Lc_5 L xs x y S M i (fun S1 M1 => wA i 6 fun i1 => wp_L L xs x y n S1 M1 i1)) (wIf (v6 = 6) (wp_Lc_6 L xs x y S M i (fun S1 M1 => wA i 6 fun i1 => wp_L L xs x y n S1 M1 i1)) (wIf (v6 = 7) (wp_Lc_7 L xs x y S M i (fun S1 M1 => wA i 6 fun i1 => wp_L L xs x y n S1 M1 i1)) (wIf (v6 = 8) (wp_Lc_8 L xs x y S M i (fun S1 M1 => wA i 6 fun i1 => wp_L L xs x y n S1 M1 i1)) (wIf (v6 = 9) (wp_Lc_9 L xs x y S M i (fun S1 M1 => wA i 6 fun i1 => wp_L L xs x y n S1 M1 i1)) (wIf (v6 = 10) (wp_Lc_10 L xs x y S M i (fun S1 M1 => wA i 6 fun i1 => wp_L L xs x y n S1 M1 i1)) (wIf (v6 = 11) (wp_Lc_11 L xs x y S M i (fun S1 M1 => wA i 6 fun i1 => wp_L L xs x y n S1 M1 i1)) (wIf (v6 = 12) (wp_Lc_12 L xs x y S M i (fun S1 M1 => wA i 6 fun i1 => wp_L L xs x y n S1 M1 i1)) (wIf (v6 = 13) (wp_Lc_13 L xs x y S M i (fun S1 M1 => wA i 6 fun i1 => wp_L L xs x y n S1 M1 i1)) (wIf (v6 = 14) (wp_Lc_14 L xs x y S M i (fun S1 M1 => wA i 6 fun i1 => wp_L L xs x y n S1 M1 i1)) (wIf (v6 = 15) (wp_Lc_15 L xs x y S M i (fun S1 M1 => wA i 6 fun i1 => wp_L L xs x y n S1 M1 i1)) (wIf (v6 = 16) (wp_Lc_16 L xs x y S M i (fun S1 M1 => wA i 6 fun i1 => wp_L L xs x y n S1 M1 i1)) (wIf (v6 = 17) (wp_Lc_17 L xs x y S M i (fun S1 M1 => wA i 6 fun i1 => wp_L L xs x y n S1 M1 i1)) (wIf (v6 = 18) (wp_Lc_18 L xs x y S M i (fun S1 M1 => wA i 6 fun i1 => wp_L L xs x y n S1 M1 i1)) (wIf (v6 = 19) (wp_Lc_19 L xs x y S M i (fun S1 M1 => wA i 6 fun i1 => wp_L L xs x y n S1 M1 i1)) (wIf (v6 = 20) (wp_Lc_20 L xs x y S M i (fun S1 M1 => wA i 6 fun i1 => wp_L L xs x y n S1 M1 i1)) (wIf (v6 = 21) (wp_Lc_21 L xs x y S M i (fun S1 M1 => wA i 6 fun i1 => wp_L L xs x y n S1 M1 i1)) (wIf (v6 = 22) (wp_Lc_22 L xs x y S M i (fun S1 M1 => wA i 6 fun i1 => wp_L L xs x y n S1 M1 i1)) (wIf (v6 = 23) (wp_Lc_23 L xs x y S M i (fun S1 M1 => wA i 6 fun i1 => wp_L L xs x y n S1 M1 i1)) (wIf (v6 = 24) (wp_Lc_24 L xs x y S M i (fun S1 M1 => wA i 6 fun i1 => wp_L L xs x y n S1 M1 i1)) (wIf (v6 = 25) (wp_Lc_25 L xs x y S M i (fun S1 M1 => wA i 6 fun i1 => wp_L L xs x y n S1 M1 i1)) (wIf (v6 = 26) (wp_Lc_26 L xs x y S M i (fun S1 M1 => wA i 6 fun i1 => wp_L L xs x y n S1 M1 i1)) (wIf (v6 = 27) (wp_Lc_27 L xs x y S M i (fun S1 M1 => wA i 6 fun i1 => wp_L L xs x y n S1 M1 i1)) (wIf (v6 = 28) (wp_Lc_28 L xs x y S M i (fun S1 M1 => wA i 6 fun i1 => wp_L L xs x y n S1 M1 i1)) (wIf (v6 = 29) (wp_Lc_29 L xs x y S M i (fun S1 M1 => wA i 6 fun i1 => wp_L L xs x y n S1 M1 i1)) (wIf (v6 = 30) (wp_Lc_30 L xs x y S M i (fun S1 M1 => wA i 6 fun i1 => wp_L L xs x y n S1 M1 i1)) (wA i 6 fun i1 => wp_L L xs x y n S M i1)))))))))))))))))))))))))))))))))
set_option maxHeartbeats 8000000 in
set_option maxRecDepth 100000 in
theorem t_L {p : Program} {l : Launch} {e : Env} {s : State} {m : MethodId} {below : List Frame} {meth : Method} {c : Code} {D : va_G} {G : Gt} {b L : Nat} {xs : Nat → Int32} (C0 : CL p s m meth c b L xs D G) (x y : Int) : ∀ (n : Nat) (S : Sh) (M : Mm) (H : Heap) (locs : List Loc) (ls : Array Slot) (cells slots : Nat) (z3 : Int32), Wd D G S M H → va_S (aG G) s.heap H locs → H.size = gB G + S.1 → lv_has ls 4 [(0, .ref b), (1, .ref (adr G x)), (2, .ref (adr G y)), (3, .int z3)] → (0 ≤ z3.toInt ∧ z3.toInt ≤ 3072) → 6 * (cells : Int) ≤ 2148 + z3.toInt → 6 * (slots : Int) ≤ 859200 + 400 * z3.toInt → wp_L L xs x y n S M z3.toInt → W p l e room_1 s m #[Value.ref b] below meth c H locs cells slots (lw_Z below #[Value.ref b] s) (F0 m 18 ls []) := by
  obtain ⟨⟨hx, hb, hr, hml, hown0, hts, hX, hbl, hlocks, hgv⟩, hK, hO, hbA, hG, hL, hgB⟩ := id C0
  have hown : s.vm.findClass RL = some m.cls := hown0
  intro n
  induction n with
  | zero => intro S M H locs ls cells slots z3 hP hS hH hl hi hc hs h; exact h.elim
  | succ n ih =>
    intro S M H locs ls cells slots z3 hP hS hH hl hi hc hs h
    unfold wp_L at h
    refine lv_iload_n hx hb dL_law_18 rfl (lv_at hl 3 rfl) ?_
    refine lv_aload_n hx hb dL_law_19 rfl (lv_at hl 0 rfl) ?_
    refine r_sl hx hb hL hX hbl hbA hS dL_law_20 h (fun z1 h => ?_)
    refine r_bipush hx hb dL_law_21 (by decide) h (fun z2 h => ?_)
    refine r_isub hx hb dL_law_23 h (fun z4 h => ?_)
    refine r_icmp_gt (tgt := 1161) hx hb dL_law_24 (by decide) h (fun _ => ?_) (fun h => ?_)
    · refine lv_iconst (v := 1) hx hb dL_law_1161 (by decide) ?_
      refine va_forget (fun q hq => by have h9 := hS.2.2 q hq; unfold aG at h9; rw [hgB] at h9; exact h9) ?_
      refine W.widen (k := 600000) (n := 7302250) (by omega) (by omega) ?_
      exact lw_ret hx hb hr hlocks dL_law_1162
    · obtain ⟨hj, h⟩ := h
      refine lv_aload_n hx hb dL_law_27 rfl (lv_at hl 0 rfl) ?_
      refine lv_iload_n hx hb dL_law_28 rfl (lv_at hl 3 rfl) ?_
      refine r_sc hx hb hX hbl hbA hS dL_law_29 h (fun z5 h => ?_)
      refine r_bipush hx hb dL_law_30 (by decide) h (fun z7 h => ?_)
      refine r_iand hx hb dL_law_32 h (fun z6 h => ?_)
      have nx : ∀ (S1 : Sh) (M1 : Mm) (H1 : Heap) (locs1 : List Loc) (ls1 : Array Slot) (cells1 slots1 : Nat), cells1 ≤ cells + 1 → slots1 ≤ slots + 400 → (fun S1 M1 => wA z3.toInt 6 fun i1 => wp_L L xs x y n S1 M1 i1) S1 M1 → Wd D G S1 M1 H1 → va_S (aG G) s.heap H1 locs1 → H1.size = gB G + S1.1 → lv_has ls1 4 [(0, .ref b), (1, .ref (adr G x)), (2, .ref (adr G y)), (3, .int z3)] → W p l e room_1 s m #[Value.ref b] below meth c H1 locs1 cells1 slots1 (lw_Z below #[Value.ref b] s) (F0 m 1155 ls1 []) := by
        intro S1 M1 H1 locs1 ls1 cells1 slots1 hc1 hs1 h hP hS hH hl
        refine r_iinc2 hx hb (fun z8 => [(3, .int z8), (0, .ref b), (1, .ref (adr G x)), (2, .ref (adr G y))]) dL_law_1155 (by decide) hl (k := 3) rfl (by decide) (fun _ => rfl) h (fun z8 ls hl hz h => ?_)
        refine lv_goto (tgt := 18) hx hb dL_law_1158 (by decide) ?_
        rw [w32_id (by omega) (by omega)] at hz
        exact ih S1 M1 H1 locs1 ls cells1 slots1 z8 hP hS hH (lv_sub hl [1, 2, 3, 0] rfl) (by omega) (by omega) (by omega) h
      refine sw (c := z6.toInt = 0) h (fun e0 h => lv_tableIn (tgt := 172) hx hb dL_law_33 (by omega) (by omega) (by rw [e0]; rfl) (by decide) (t_Lc_0 C0 x y _ _ _ _ _ _ _ _ hP hS hH hl (by omega) (by omega) h nx)) (fun e0 h => ?_)
      refine sw (c := z6.toInt = 1) h (fun e1 h => lv_tableIn (tgt := 235) hx hb dL_law_33 (by omega) (by omega) (by rw [e1]; rfl) (by decide) (t_Lc_1 C0 x y _ _ _ _ _ _ _ _ hP hS hH hl (by omega) (by omega) h nx)) (fun e1 h => ?_)
      refine sw (c := z6.toInt = 2) h (fun e2 h => lv_tableIn (tgt := 258) hx hb dL_law_33 (by omega) (by omega) (by rw [e2]; rfl) (by decide) (t_Lc_2 C0 x y _ _ _ _ _ _ _ _ hP hS hH hl (by omega) (by omega) h nx)) (fun e2 h => ?_)
      refine sw (c := z6.toInt = 3) h (fun e3 h => lv_tableIn (tgt := 271) hx hb dL_law_33 (by omega) (by omega) (by rw [e3]; rfl) (by decide) (t_Lc_3 C0 x y _ _ _ _ _ _ _ _ hP hS hH hl (by omega) (by omega) h nx)) (fun e3 h => ?_)
      refine sw (c := z6.toInt = 4) h (fun e4 h => lv_tableIn (tgt := 284) hx hb dL_law_33 (by omega) (by omega) (by rw [e4]; rfl) (by decide) (t_Lc_4 C0 x y _ _ _ _ _ _ _ _ hP hS hH hl (by omega) (by omega) h nx)) (fun e4 h => ?_)
      refine sw (c := z6.toInt = 5) h (fun e5 h => lv_tableIn (tgt := 307) hx hb dL_law_33 (by omega) (by omega) (by rw [e5]; rfl) (by decide) (t_Lc_5 C0 x y _ _ _ _ _ _ _ _ hP hS hH hl (by omega) (by omega) h nx)) (fun e5 h => ?_)
      refine sw (c := z6.toInt = 6) h (fun e6 h => lv_tableIn (tgt := 340) hx hb dL_law_33 (by omega) (by omega) (by rw [e6]; rfl) (by decide) (t_Lc_6 C0 x y _ _ _ _ _ _ _ _ hP hS hH hl (by omega) (by omega) h nx)) (fun e6 h => ?_)
      refine sw (c := z6.toInt = 7) h (fun e7 h => lv_tableIn (tgt := 373) hx hb dL_law_33 (by omega) (by omega) (by rw [e7]; rfl) (by decide) (t_Lc_7 C0 x y _ _ _ _ _ _ _ _ hP hS hH hl (by omega) (by omega) h nx)) (fun e7 h => ?_)
      refine sw (c := z6.toInt = 8) h (fun e8 h => lv_tableIn (tgt := 406) hx hb dL_law_33 (by omega) (by omega) (by rw [e8]; rfl) (by decide) (t_Lc_8 C0 x y _ _ _ _ _ _ _ _ hP hS hH hl (by omega) (by omega) h nx)) (fun e8 h => ?_)
      refine sw (c := z6.toInt = 9) h (fun e9 h => lv_tableIn (tgt := 419) hx hb dL_law_33 (by omega) (by omega) (by rw [e9]; rfl) (by decide) (t_Lc_9 C0 x y _ _ _ _ _ _ _ _ hP hS hH hl (by omega) (by omega) h nx)) (fun e9 h => ?_)
      refine sw (c := z6.toInt = 10) h (fun e10 h => lv_tableIn (tgt := 452) hx hb dL_law_33 (by omega) (by omega) (by rw [e10]; rfl) (by decide) (t_Lc_10 C0 x y _ _ _ _ _ _ _ _ hP hS hH hl (by omega) (by omega) h nx)) (fun e10 h => ?_)
      refine sw (c := z6.toInt = 11) h (fun e11 h => lv_tableIn (tgt := 485) hx hb dL_law_33 (by omega) (by omega) (by rw [e11]; rfl) (by decide) (t_Lc_11 C0 x y _ _ _ _ _ _ _ _ hP hS hH hl (by omega) (by omega) h nx)) (fun e11 h => ?_)
      refine sw (c := z6.toInt = 12) h (fun e12 h => lv_tableIn (tgt := 518) hx hb dL_law_33 (by omega) (by omega) (by rw [e12]; rfl) (by decide) (t_Lc_12 C0 x y _ _ _ _ _ _ _ _ hP hS hH hl (by omega) (by omega) h nx)) (fun e12 h => ?_)
      refine sw (c := z6.toInt = 13) h (fun e13 h => lv_tableIn (tgt := 551) hx hb dL_law_33 (by omega) (by omega) (by rw [e13]; rfl) (by decide) (t_Lc_13 C0 x y _ _ _ _ _ _ _ _ hP hS hH hl (by omega) (by omega) h nx)) (fun e13 h => ?_)
      refine sw (c := z6.toInt = 14) h (fun e14 h => lv_tableIn (tgt := 574) hx hb dL_law_33 (by omega) (by omega) (by rw [e14]; rfl) (by decide) (t_Lc_14 C0 x y _ _ _ _ _ _ _ _ hP hS hH hl (by omega) (by omega) h nx)) (fun e14 h => ?_)
      refine sw (c := z6.toInt = 15) h (fun e15 h => lv_tableIn (tgt := 587) hx hb dL_law_33 (by omega) (by omega) (by rw [e15]; rfl) (by decide) (t_Lc_15 C0 x y _ _ _ _ _ _ _ _ hP hS hH hl (by omega) (by omega) h nx)) (fun e15 h => ?_)
      refine sw (c := z6.toInt = 16) h (fun e16 h => lv_tableIn (tgt := 630) hx hb dL_law_33 (by omega) (by omega) (by rw [e16]; rfl) (by decide) (t_Lc_16 C0 x y _ _ _ _ _ _ _ _ hP hS hH hl (by omega) (by omega) h nx)) (fun e16 h => ?_)
      refine sw (c := z6.toInt = 17) h (fun e17 h => lv_tableIn (tgt := 673) hx hb dL_law_33 (by omega) (by omega) (by rw [e17]; rfl) (by decide) (t_Lc_17 C0 x y _ _ _ _ _ _ _ _ hP hS hH hl (by omega) (by omega) h nx)) (fun e17 h => ?_)
      refine sw (c := z6.toInt = 18) h (fun e18 h => lv_tableIn (tgt := 716) hx hb dL_law_33 (by omega) (by omega) (by rw [e18]; rfl) (by decide) (t_Lc_18 C0 x y _ _ _ _ _ _ _ _ hP hS hH hl (by omega) (by omega) h nx)) (fun e18 h => ?_)
      refine sw (c := z6.toInt = 19) h (fun e19 h => lv_tableIn (tgt := 779) hx hb dL_law_33 (by omega) (by omega) (by rw [e19]; rfl) (by decide) (t_Lc_19 C0 x y _ _ _ _ _ _ _ _ hP hS hH hl (by omega) (by omega) h nx)) (fun e19 h => ?_)
      refine sw (c := z6.toInt = 20) h (fun e20 h => lv_tableIn (tgt := 802) hx hb dL_law_33 (by omega) (by omega) (by rw [e20]; rfl) (by decide) (t_Lc_20 C0 x y _ _ _ _ _ _ _ _ hP hS hH hl (by omega) (by omega) h nx)) (fun e20 h => ?_)
      refine sw (c := z6.toInt = 21) h (fun e21 h => lv_tableIn (tgt := 855) hx hb dL_law_33 (by omega) (by omega) (by rw [e21]; rfl) (by decide) (t_Lc_21 C0 x y _ _ _ _ _ _ _ _ hP hS hH hl (by omega) (by omega) h nx)) (fun e21 h => ?_)
      refine sw (c := z6.toInt = 22) h (fun e22 h => lv_tableIn (tgt := 908) hx hb dL_law_33 (by omega) (by omega) (by rw [e22]; rfl) (by decide) (t_Lc_22 C0 x y _ _ _ _ _ _ _ _ hP hS hH hl (by omega) (by omega) h nx)) (fun e22 h => ?_)
      refine sw (c := z6.toInt = 23) h (fun e23 h => lv_tableIn (tgt := 931) hx hb dL_law_33 (by omega) (by omega) (by rw [e23]; rfl) (by decide) (t_Lc_23 C0 x y _ _ _ _ _ _ _ _ hP hS hH hl (by omega) (by omega) h nx)) (fun e23 h => ?_)
      refine sw (c := z6.toInt = 24) h (fun e24 h => lv_tableIn (tgt := 954) hx hb dL_law_33 (by omega) (by omega) (by rw [e24]; rfl) (by decide) (t_Lc_24 C0 x y _ _ _ _ _ _ _ _ hP hS hH hl (by omega) (by omega) h nx)) (fun e24 h => ?_)
      refine sw (c := z6.toInt = 25) h (fun e25 h => lv_tableIn (tgt := 997) hx hb dL_law_33 (by omega) (by omega) (by rw [e25]; rfl) (by decide) (t_Lc_25 C0 x y _ _ _ _ _ _ _ _ hP hS hH hl (by omega) (by omega) h nx)) (fun e25 h => ?_)
      refine sw (c := z6.toInt = 26) h (fun e26 h => lv_tableIn (tgt := 1020) hx hb dL_law_33 (by omega) (by omega) (by rw [e26]; rfl) (by decide) (t_Lc_26 C0 x y _ _ _ _ _ _ _ _ hP hS hH hl (by omega) (by omega) h nx)) (fun e26 h => ?_)
      refine sw (c := z6.toInt = 27) h (fun e27 h => lv_tableIn (tgt := 1043) hx hb dL_law_33 (by omega) (by omega) (by rw [e27]; rfl) (by decide) (t_Lc_27 C0 x y _ _ _ _ _ _ _ _ hP hS hH hl (by omega) (by omega) h nx)) (fun e27 h => ?_)
      refine sw (c := z6.toInt = 28) h (fun e28 h => lv_tableIn (tgt := 1086) hx hb dL_law_33 (by omega) (by omega) (by rw [e28]; rfl) (by decide) (t_Lc_28 C0 x y _ _ _ _ _ _ _ _ hP hS hH hl (by omega) (by omega) h nx)) (fun e28 h => ?_)
      refine sw (c := z6.toInt = 29) h (fun e29 h => lv_tableIn (tgt := 1109) hx hb dL_law_33 (by omega) (by omega) (by rw [e29]; rfl) (by decide) (t_Lc_29 C0 x y _ _ _ _ _ _ _ _ hP hS hH hl (by omega) (by omega) h nx)) (fun e29 h => ?_)
      refine sw (c := z6.toInt = 30) h (fun e30 h => lv_tableIn (tgt := 1132) hx hb dL_law_33 (by omega) (by omega) (by rw [e30]; rfl) (by decide) (t_Lc_30 C0 x y _ _ _ _ _ _ _ _ hP hS hH hl (by omega) (by omega) h nx)) (fun e30 h => ?_)
      exact lv_tableOut (tgt := 1155) hx hb dL_law_33 (by omega) (by decide) (nx _ _ _ _ _ _ _ (by omega) (by omega) h hP hS hH hl)
end
section
def nwP : List Nat := [38, 42, 68, 69, 70, 72, 73, 75, 76, 77, 78, 80, 82, 83, 84, 85, 86, 87, 88, 90, 91, 92, 94, 95, 97, 98, 102, 103, 104, 105, 107, 108, 109, 110, 112, 114, 116, 118, 119, 121, 122, 124, 125, 127, 128, 129, 180, 181, 182, 183, 185, 187, 188, 190, 191, 192, 194, 195, 196, 198, 199, 201, 202, 204, 205, 206, 207, 208, 210, 211, 232, 233, 235, 236, 238, 240, 242, 243, 245, 247, 249, 251, 252, 291, 293, 341, 343, 345, 347, 349, 353, 355, 356, 357, 361, 363, 364, 401, 475, 477]
def nwC (q : String × Nat × String × String × String) : Cond := .fieldLinkNest q.1 q.2.1 q.2.2.1 q.2.2.2.1 q.2.2.2.2 "TurningMilk"
theorem nwA_0 : ∀ i, i < 25 → tables_1[nwP.getD (0 + i) 0]? = (nwT[0 + i]?).map nwC := by decide +kernel
theorem nwA_1 : ∀ i, i < 25 → tables_1[nwP.getD (25 + i) 0]? = (nwT[25 + i]?).map nwC := by decide +kernel
theorem nwA_2 : ∀ i, i < 25 → tables_1[nwP.getD (50 + i) 0]? = (nwT[50 + i]?).map nwC := by decide +kernel
theorem nwA_3 : ∀ i, i < 25 → tables_1[nwP.getD (75 + i) 0]? = (nwT[75 + i]?).map nwC := by decide +kernel
theorem nwA : ∀ q ∈ nwT, nwC q ∈ lw_tbl := by
  intro q hq
  obtain ⟨i, hi⟩ := List.getElem?_of_mem hq
  have hl : i < 100 := (List.getElem?_eq_some_iff.mp hi).1
  have key : tables_1[nwP.getD i 0]? = (nwT[i]?).map nwC := by
    rcases (show i < 25 ∨ (25 ≤ i ∧ i < 50) ∨ (50 ≤ i ∧ i < 75) ∨ (75 ≤ i ∧ i < 100) by omega) with h | h | h | h
    · have := nwA_0 i h; rwa [Nat.zero_add] at this
    · have := nwA_1 (i - 25) (by omega); rwa [show 25 + (i - 25) = i by omega] at this
    · have := nwA_2 (i - 50) (by omega); rwa [show 50 + (i - 50) = i by omega] at this
    · have := nwA_3 (i - 75) (by omega); rwa [show 75 + (i - 75) = i by omega] at this
  rw [hi] at key
  exact List.mem_append_right _ (List.mem_of_getElem? key)
theorem eq_ref {args : Array Value} {s : State} {t1 t2 : Term} {a : Nat} (h : (Cond.eq t1 t2).before args s = true) (h1 : t1.eval args s none [] s = some (.ref a)) : t2.eval args s none [] s = some (.ref a) := by
  cases hv : t2.eval args s none [] s with
  | none => simp [Cond.before, Cond.holds, Cond.value, hv, h1] at h
  | some v =>
    simp only [Cond.before, Cond.holds, Cond.value, hv, h1] at h
    cases v <;> simp_all
def txT (i : Nat) : Term := ([.string "TurningMilk$DairyReader" 56, .string "TurningMilk$DairyReader" 58, .string "TurningMilk$DairyReader" 60, .string "TurningMilk$DairyReader" 62, .string "TurningMilk$DairyReader" 64, .string "TurningMilk$DairyReader" 66, .string "TurningMilk$RuleReader" 55, .string "TurningMilk$Turning" 28, .string "TurningMilk$Turning" 30, .string "TurningMilk$Turning" 34, .string "TurningMilk$Turning" 38, .string "TurningMilk$Turning" 42, .string "TurningMilk$Turning" 44, .string "TurningMilk$RuleReader" 138, .string "TurningMilk$RuleReader" 146, .string "TurningMilk$RuleReader" 131, .string "TurningMilk$RuleReader" 133] : List Term).getD i (.string "" 0)
abbrev FL : List Cond := flatC (Jvm.Cond.and given_1 narrow_1)
theorem tx1 : ∀ i, i < txN → Cond.exactly (txT i) "java/lang/String" ∈ FL := by decide +kernel
theorem tx2 : ∀ i, i < txN → Cond.eq (.field (txT i) "java/lang/String" "coder" "B") (.int 0) ∈ FL := by decide +kernel
theorem tx3 : ∀ i, i < txN → Cond.arrayOf (.field (txT i) "java/lang/String" "value" "[B") .byte ∈ FL := by decide +kernel
theorem tx4 : ∀ i, i < txN → Cond.eq (.length (.field (txT i) "java/lang/String" "value" "[B")) (.int (Int32.ofNat (txL.getD i 0))) ∈ FL := by decide +kernel
theorem tx5 : ∀ i, i < txN → ∀ j, j < txL.getD i 0 → Cond.eq (.elem (.field (txT i) "java/lang/String" "value" "[B") (.int (Int32.ofNat j))) (.int ((txB.getD i []).getD j 0)) ∈ FL := by decide +kernel
def tx6P : List Nat := [0, 55, 64, 73, 84, 96, 109, 139, 156, 192, 231, 274, 297, 319, 343, 368, 393, 0, 0, 65, 74, 85, 97, 110, 140, 157, 193, 232, 275, 298, 320, 344, 369, 394, 0, 0, 0, 75, 86, 98, 111, 141, 158, 194, 233, 276, 299, 321, 345, 370, 395, 0, 0, 0, 0, 87, 99, 112, 142, 159, 195, 234, 277, 300, 322, 346, 371, 396, 0, 0, 0, 0, 0, 100, 113, 143, 160, 196, 235, 278, 301, 323, 347, 372, 397, 0, 0, 0, 0, 0, 0, 114, 144, 161, 197, 236, 279, 302, 324, 348, 373, 398, 0, 0, 0, 0, 0, 0, 0, 145, 162, 198, 237, 280, 303, 325, 349, 374, 399, 0, 0, 0, 0, 0, 0, 0, 0, 164, 200, 239, 282, 305, 327, 351, 376, 401, 0, 0, 0, 0, 0, 0, 0, 0, 0, 201, 240, 283, 306, 328, 352, 377, 402, 0, 0, 0, 0, 0, 0, 0, 0, 0, 0, 242, 285, 308, 330, 354, 379, 404, 0, 0, 0, 0, 0, 0, 0, 0, 0, 0, 0, 287, 310, 332, 356, 381, 406, 0, 0, 0, 0, 0, 0, 0, 0, 0, 0, 0, 0, 312, 334, 358, 383, 408, 0, 0, 0, 0, 0, 0, 0, 0, 0, 0, 0, 0, 0, 335, 359, 384, 409, 0, 0, 0, 0, 0, 0, 0, 0, 0, 0, 0, 0, 0, 0, 360, 385, 410, 0, 0, 0, 0, 0, 0, 0, 0, 0, 0, 0, 0, 0, 0, 0, 386, 411, 0, 0, 0, 0, 0, 0, 0, 0, 0, 0, 0, 0, 0, 0, 0, 0, 412, 0, 0, 0, 0, 0, 0, 0, 0, 0, 0, 0, 0, 0, 0, 0, 0, 0]
theorem tx6_0 : ∀ j, j < 17 → 0 < j → (FL[tx6P.getD (0 + j) 0]? = some (Cond.not (Cond.eq (txT 0) (txT j))) ∨ FL[tx6P.getD (0 + j) 0]? = some (Cond.not (Cond.eq (txT j) (txT 0)))) := by decide +kernel
theorem tx6_1 : ∀ j, j < 17 → 1 < j → (FL[tx6P.getD (17 + j) 0]? = some (Cond.not (Cond.eq (txT 1) (txT j))) ∨ FL[tx6P.getD (17 + j) 0]? = some (Cond.not (Cond.eq (txT j) (txT 1)))) := by decide +kernel
theorem tx6_2 : ∀ j, j < 17 → 2 < j → (FL[tx6P.getD (34 + j) 0]? = some (Cond.not (Cond.eq (txT 2) (txT j))) ∨ FL[tx6P.getD (34 + j) 0]? = some (Cond.not (Cond.eq (txT j) (txT 2)))) := by decide +kernel
theorem tx6_3 : ∀ j, j < 17 → 3 < j → (FL[tx6P.getD (51 + j) 0]? = some (Cond.not (Cond.eq (txT 3) (txT j))) ∨ FL[tx6P.getD (51 + j) 0]? = some (Cond.not (Cond.eq (txT j) (txT 3)))) := by decide +kernel
theorem tx6_4 : ∀ j, j < 17 → 4 < j → (FL[tx6P.getD (68 + j) 0]? = some (Cond.not (Cond.eq (txT 4) (txT j))) ∨ FL[tx6P.getD (68 + j) 0]? = some (Cond.not (Cond.eq (txT j) (txT 4)))) := by decide +kernel
theorem tx6_5 : ∀ j, j < 17 → 5 < j → (FL[tx6P.getD (85 + j) 0]? = some (Cond.not (Cond.eq (txT 5) (txT j))) ∨ FL[tx6P.getD (85 + j) 0]? = some (Cond.not (Cond.eq (txT j) (txT 5)))) := by decide +kernel
theorem tx6_6 : ∀ j, j < 17 → 6 < j → (FL[tx6P.getD (102 + j) 0]? = some (Cond.not (Cond.eq (txT 6) (txT j))) ∨ FL[tx6P.getD (102 + j) 0]? = some (Cond.not (Cond.eq (txT j) (txT 6)))) := by decide +kernel
theorem tx6_7 : ∀ j, j < 17 → 7 < j → (FL[tx6P.getD (119 + j) 0]? = some (Cond.not (Cond.eq (txT 7) (txT j))) ∨ FL[tx6P.getD (119 + j) 0]? = some (Cond.not (Cond.eq (txT j) (txT 7)))) := by decide +kernel
theorem tx6_8 : ∀ j, j < 17 → 8 < j → (FL[tx6P.getD (136 + j) 0]? = some (Cond.not (Cond.eq (txT 8) (txT j))) ∨ FL[tx6P.getD (136 + j) 0]? = some (Cond.not (Cond.eq (txT j) (txT 8)))) := by decide +kernel
theorem tx6_9 : ∀ j, j < 17 → 9 < j → (FL[tx6P.getD (153 + j) 0]? = some (Cond.not (Cond.eq (txT 9) (txT j))) ∨ FL[tx6P.getD (153 + j) 0]? = some (Cond.not (Cond.eq (txT j) (txT 9)))) := by decide +kernel
theorem tx6_10 : ∀ j, j < 17 → 10 < j → (FL[tx6P.getD (170 + j) 0]? = some (Cond.not (Cond.eq (txT 10) (txT j))) ∨ FL[tx6P.getD (170 + j) 0]? = some (Cond.not (Cond.eq (txT j) (txT 10)))) := by decide +kernel
theorem tx6_11 : ∀ j, j < 17 → 11 < j → (FL[tx6P.getD (187 + j) 0]? = some (Cond.not (Cond.eq (txT 11) (txT j))) ∨ FL[tx6P.getD (187 + j) 0]? = some (Cond.not (Cond.eq (txT j) (txT 11)))) := by decide +kernel
theorem tx6_12 : ∀ j, j < 17 → 12 < j → (FL[tx6P.getD (204 + j) 0]? = some (Cond.not (Cond.eq (txT 12) (txT j))) ∨ FL[tx6P.getD (204 + j) 0]? = some (Cond.not (Cond.eq (txT j) (txT 12)))) := by decide +kernel
theorem tx6_13 : ∀ j, j < 17 → 13 < j → (FL[tx6P.getD (221 + j) 0]? = some (Cond.not (Cond.eq (txT 13) (txT j))) ∨ FL[tx6P.getD (221 + j) 0]? = some (Cond.not (Cond.eq (txT j) (txT 13)))) := by decide +kernel
theorem tx6_14 : ∀ j, j < 17 → 14 < j → (FL[tx6P.getD (238 + j) 0]? = some (Cond.not (Cond.eq (txT 14) (txT j))) ∨ FL[tx6P.getD (238 + j) 0]? = some (Cond.not (Cond.eq (txT j) (txT 14)))) := by decide +kernel
theorem tx6_15 : ∀ j, j < 17 → 15 < j → (FL[tx6P.getD (255 + j) 0]? = some (Cond.not (Cond.eq (txT 15) (txT j))) ∨ FL[tx6P.getD (255 + j) 0]? = some (Cond.not (Cond.eq (txT j) (txT 15)))) := by decide +kernel
theorem tx6 : ∀ i, i < txN → ∀ j, j < txN → i < j → Cond.not (Cond.eq (txT i) (txT j)) ∈ FL ∨ Cond.not (Cond.eq (txT j) (txT i)) ∈ FL := by
  intro i hi j hj hij
  have key : ∃ p : Nat, FL[p]? = some (Cond.not (Cond.eq (txT i) (txT j))) ∨ FL[p]? = some (Cond.not (Cond.eq (txT j) (txT i))) := by
    match i, hi, hij with
    | 0, _, hij => exact ⟨_, tx6_0 j hj hij⟩
    | 1, _, hij => exact ⟨_, tx6_1 j hj hij⟩
    | 2, _, hij => exact ⟨_, tx6_2 j hj hij⟩
    | 3, _, hij => exact ⟨_, tx6_3 j hj hij⟩
    | 4, _, hij => exact ⟨_, tx6_4 j hj hij⟩
    | 5, _, hij => exact ⟨_, tx6_5 j hj hij⟩
    | 6, _, hij => exact ⟨_, tx6_6 j hj hij⟩
    | 7, _, hij => exact ⟨_, tx6_7 j hj hij⟩
    | 8, _, hij => exact ⟨_, tx6_8 j hj hij⟩
    | 9, _, hij => exact ⟨_, tx6_9 j hj hij⟩
    | 10, _, hij => exact ⟨_, tx6_10 j hj hij⟩
    | 11, _, hij => exact ⟨_, tx6_11 j hj hij⟩
    | 12, _, hij => exact ⟨_, tx6_12 j hj hij⟩
    | 13, _, hij => exact ⟨_, tx6_13 j hj hij⟩
    | 14, _, hij => exact ⟨_, tx6_14 j hj hij⟩
    | 15, _, hij => exact ⟨_, tx6_15 j hj hij⟩
    | q + 16, hi, hij => exact absurd hj (by have : txN = 17 := rfl; omega)
  obtain ⟨p, h | h⟩ := key
  · exact Or.inl (List.mem_of_getElem? h)
  · exact Or.inr (List.mem_of_getElem? h)
theorem tx7 : ∀ i, i < txN → txL.getD i 0 < 2 ^ 31 := by decide +kernel
def txP : List Nat := [588, 589, 590, 591, 592, 593, 750, 770, 771, 772, 773, 774, 775, 776, 777, 778, 779, 830, 835, 848, 849]
theorem txA : ∀ i, i < 21 → tables_1[txP.getD i 0]? = (txR[i]?).map (fun q => Cond.stringRef q.1 q.2.1 q.2.2.1) := by decide +kernel
theorem txF : ∀ i, i < 21 → ∀ q, txR[i]? = some q → q.2.2.2 < txN ∧ (Term.string q.1 q.2.1 = txT q.2.2.2 ∨ Cond.eq (txT q.2.2.2) (.string q.1 q.2.1) ∈ FL ∨ Cond.eq (.string q.1 q.2.1) (txT q.2.2.2) ∈ FL) := by
  intro i hi q hq
  have h : ∀ i, i < 21 → (match txR[i]? with | some q => decide (q.2.2.2 < txN) && (decide (Term.string q.1 q.2.1 = txT q.2.2.2) || decide (Cond.eq (txT q.2.2.2) (.string q.1 q.2.1) ∈ FL) || decide (Cond.eq (.string q.1 q.2.1) (txT q.2.2.2) ∈ FL)) | none => true) = true := by decide +kernel
  have h1 := h i hi
  rw [hq] at h1
  simp only [Bool.and_eq_true, Bool.or_eq_true, decide_eq_true_eq] at h1
  obtain ⟨a, (b | b) | b⟩ := h1
  · exact ⟨a, Or.inl b⟩
  · exact ⟨a, Or.inr (Or.inl b)⟩
  · exact ⟨a, Or.inr (Or.inr b)⟩
end
section
theorem lwS : Cond.arrayOver (.object "TurningMilk$Scene") ∈ lw_tbl := (List.mem_append_right _ (List.mem_of_getElem? (i := 274) (by decide +kernel)))
theorem lwT : Cond.arrayOver (.object "TurningMilk$State") ∈ lw_tbl := (List.mem_append_right _ (List.mem_of_getElem? (i := 276) (by decide +kernel)))
theorem lwA : Cond.arrayOver (.array .int) ∈ lw_tbl := (List.mem_append_right _ (List.mem_of_getElem? (i := 278) (by decide +kernel)))
theorem lwN : Cond.laysStatic "TurningMilk" "NO_RULE" "[I" ∈ lw_tbl := (List.mem_append_right _ (List.mem_of_getElem? (i := 342) (by decide +kernel)))
theorem lwC : Cond.laysStatic "java/lang/String" "COMPACT_STRINGS" "Z" ∈ lw_tbl := (List.mem_append_right _ (List.mem_of_getElem? (i := 611) (by decide +kernel)))
theorem lwP : Cond.laysStatic "jdk/internal/util/Preconditions" "SIOOBE_FORMATTER" "Ljava/util/function/BiFunction;" ∈ lw_tbl := (List.mem_append_right _ (List.mem_of_getElem? (i := 631) (by decide +kernel)))
theorem flN1 : Cond.arrayOf (.static "TurningMilk" "NO_RULE" "[I") .int ∈ FL := by decide +kernel
theorem flN2 : Cond.eq (.length (.static "TurningMilk" "NO_RULE" "[I")) (.int 0) ∈ FL := by decide +kernel
theorem flN3 : Cond.exactly (.static "TurningMilk" "NO_RULE" "[I") "[I" ∈ FL := by decide +kernel
theorem flC : Cond.eq (.static "java/lang/String" "COMPACT_STRINGS" "Z") (.int 1) ∈ FL := by decide +kernel
theorem flP : Cond.isRef (.static "jdk/internal/util/Preconditions" "SIOOBE_FORMATTER" "Ljava/util/function/BiFunction;") ∈ FL := by decide +kernel
theorem eq_len {args : Array Value} {s : State} {t : Term} {z : Int32} (h : (Cond.eq t (.int z)).before args s = true) : t.eval args s none [] s = some (.int z) := by
  cases hv : t.eval args s none [] s with
  | none => simp [Cond.before, Cond.holds, Cond.value, hv] at h
  | some v =>
    have hz : (Term.int z).eval args s none [] s = some (.int z) := rfl
    simp only [Cond.before, Cond.holds, Cond.value, hv, hz] at h
    cases v <;> simp_all
theorem arr_of {s : State} {args : Array Value} {ty : FieldType} (h : (Cond.arrayClass ty).before args s = true) : ∃ cA : ClassId, ArrOfT s cA ty ∧ s.vm.findClass ("[" ++ ty.toString) = some cA := by
  obtain ⟨q, k, comp, f1, f2, f3⟩ := Cond.arrayClass_spec h
  exact ⟨q, fun N z => ⟨(fun k h => by cases h), k, f2, comp, f3⟩, f1⟩
set_option maxHeartbeats 4000000 in
set_option maxRecDepth 100000 in
theorem KN_start {s : State} {b : Nat} (hts : ∀ w ∈ lw_tbl, w.before #[Value.ref b] s = true) (hgv : (Jvm.Cond.and given_1 narrow_1).before #[Value.ref b] s = true) : ∃ (D : va_G) (G : Gt), KN D G s ∧ va_O "[I" (gZ G) (aG G) s s.heap ∧ gB G = s.heap.size ∧ (∀ a : Nat, G.1 a = gB G + a) := by
  have hs := flat_of_before _ hgv
  have hA : ∀ a : Nat, a < s.heap.size → ¬ (fun q : Nat => s.heap.size ≤ q) a := fun a h q => Nat.not_le.mpr h q
  obtain ⟨c0, i0, hn0⟩ := u_known (C := RX0) (T := TX0) (N := 3) (n := 3) hts (fun w h => gw_in w (iX0 w h)) (hts (.instantiable RX0 3) (gw_in _ kw_280))
  obtain ⟨c1, i1, hn1⟩ := u_known (C := RX1) (T := TX1) (N := 3) (n := 3) hts (fun w h => gw_in w (iX1 w h)) (hts (.instantiable RX1 3) (gw_in _ kw_393))
  obtain ⟨c2, i2, hn2⟩ := u_known (C := RX2) (T := TX2) (N := 11) (n := 11) hts (fun w h => gw_in w (iX2 w h)) (hts (.instantiable RX2 11) (gw_in _ kw_410))
  obtain ⟨c3, i3, hn3⟩ := u_known (C := RX3) (T := TX3) (N := 9) (n := 9) hts (fun w h => gw_in w (iX3 w h)) (hts (.instantiable RX3 9) (gw_in _ kw_302))
  obtain ⟨c4, i4, hn4⟩ := u_known (C := RX4) (T := TX4) (N := 10) (n := 10) hts (fun w h => gw_in w (iX4 w h)) (hts (.instantiable RX4 10) (gw_in _ kw_56))
  obtain ⟨c5, i5, hn5⟩ := u_known (C := RX5) (T := TX5) (N := 9) (n := 9) hts (fun w h => gw_in w (iX5 w h)) (hts (.instantiable RX5 9) (gw_in _ kw_171))
  obtain ⟨c6, i6, hn6⟩ := u_known (C := RX6) (T := TX6) (N := 3) (n := 3) hts (fun w h => gw_in w (iX6 w h)) (hts (.instantiable RX6 3) (gw_in _ kw_450))
  obtain ⟨c7, i7, hn7⟩ := u_known (C := RX7) (T := TX7) (N := 5) (n := 5) hts (fun w h => gw_in w (iX7 w h)) (hts (.instantiable RX7 5) (gw_in _ kw_31))
  obtain ⟨c8, i8, hn8⟩ := u_known (C := RX8) (T := TX8) (N := 19) (n := 19) hts (fun w h => gw_in w (iX8 w h)) (hts (.instantiable RX8 19) (gw_in _ kw_62))
  obtain ⟨c9, i9, hn9⟩ := u_known (C := RX9) (T := TX9) (N := 5) (n := 5) hts (fun w h => gw_in w (iX9 w h)) (hts (.instantiable RX9 5) (gw_in _ kw_466))
  obtain ⟨c10, i10, hn10⟩ := u_known (C := RX10) (T := TX10) (N := 12) (n := 12) hts (fun w h => gw_in w (iX10 w h)) (hts (.instantiable RX10 12) (gw_in _ kw_336))
  obtain ⟨c11, i11, hn11⟩ := u_known (C := RX11) (T := TX11) (N := 16) (n := 16) hts (fun w h => gw_in w (iX11 w h)) (hts (.instantiable RX11 16) (gw_in _ kw_23))
  obtain ⟨c12, i12, hn12⟩ := u_known (C := RX12) (T := TX12) (N := 38) (n := 38) hts (fun w h => gw_in w (iX12 w h)) (hts (.instantiable RX12 38) (gw_in _ kw_1329))
  obtain ⟨q_byte, a_byte, f_byte⟩ := arr_of (hts (.arrayClass .byte) (gw_in _ kw_54))
  obtain ⟨q_int, a_int, f_int⟩ := arr_of (hts (.arrayClass .int) (gw_in _ kw_169))
  obtain ⟨q_boolean, a_boolean, f_boolean⟩ := arr_of (hts (.arrayClass .boolean) (gw_in _ kw_1449))
  obtain ⟨q_long, a_long, f_long⟩ := arr_of (hts (.arrayClass .long) (gw_in _ kw_391))
  have aoS : va_AO "TurningMilk$Scene" s := va_AO.of (hts _ lwS)
  have aoT : va_AO "TurningMilk$State" s := va_AO.of (hts _ lwT)
  have aoA : va_AI s := over_moved (Vm.Alike.refl s.vm) (hts _ lwA)
  obtain ⟨cS, q_S, kS, s1, s2, s3, s4, s5⟩ := Cond.arrayOver_spec aoS
  obtain ⟨cT, q_T, kT, t1, t2, t3, t4, t5⟩ := Cond.arrayOver_spec aoT
  obtain ⟨cA, q_A, kA, r1, r2, r3, r4, r5⟩ := arrayOverA_spec aoA
  obtain ⟨adK, adV, hS, hE⟩ := vk_Sof (args := #[Value.ref b]) (s := s) (N := txN) (tm := txT) (len := txL) (byt := txB) (A := fun q : Nat => s.heap.size ≤ q) tx7 (fun i hi => hs _ (tx1 i hi)) (fun i hi => hs _ (tx2 i hi)) (fun i hi => hs _ (tx3 i hi)) (fun i hi => hs _ (tx4 i hi)) (fun i hi j hj => hs _ (tx5 i hi j hj)) (fun i j hi hj hij => by
    rcases Nat.lt_or_gt_of_ne hij with h | h
    · rcases tx6 i hi j hj h with q | q
      · exact Or.inl (hs _ q)
      · exact Or.inr (hs _ q)
    · rcases tx6 j hj i hi h with q | q
      · exact Or.inr (hs _ q)
      · exact Or.inl (hs _ q)) hA
  obtain ⟨z0, hz0, hT⟩ := va_Tof (args := #[Value.ref b]) (s := s) (tm := .static "TurningMilk" "NO_RULE" "[I") (ty := .int) (N := 0) (f := fun _ => .int 0) (A := fun q : Nat => s.heap.size ≤ q) (by decide) (hs _ flN1) (eq_len (hs _ flN2)) (fun j hj => absurd hj (by omega)) hA
  have hZ := va_Zof (A := fun q : Nat => s.heap.size ≤ q) (hts _ lwN) (hts _ (gw_in _ kw_1)) hz0 hA
  have hO := va_Oof (A := fun q : Nat => s.heap.size ≤ q) (hs _ flN3) hz0 hA
  have hC := va_Zof (A := fun q : Nat => s.heap.size ≤ q) (hts _ lwC) (hts _ (gw_in _ kw_15)) (eq_len (hs _ flC)) hA
  have hQ := va_Zqof (A := fun q : Nat => s.heap.size ≤ q) (hts _ lwP) (hts _ (gw_in _ kw_17)) (hs _ flP) hA
  refine ⟨(fun k => ([c0, c1, c2, c3, c4, c5, c6, c7, c8, c9, c10, c11, c12] : List ClassId).getD k c0, fun k => ([i0, i1, i2, i3, i4, i5, i6, i7, i8, i9, i10, i11, i12] : List (Nat → Nat)).getD k i0), (fun a => s.heap.size + a, s.heap.size, z0, (fun k => ([q_byte, q_int, q_boolean, q_long, q_S, q_T, q_A] : List ClassId).getD (k - 13) q_int), adK, adV), ⟨⟨?_, ?_⟩, ?_, ?_, hS, hZ, hT, hC, hQ, aoS, aoT, aoA⟩, hO, rfl, fun a => rfl⟩
  · intro k q hq
    match k, hq with
    | 0, hq => cases hq; exact hn0
    | 1, hq => cases hq; exact hn1
    | 2, hq => cases hq; exact hn2
    | 3, hq => cases hq; exact hn3
    | 4, hq => cases hq; exact hn4
    | 5, hq => cases hq; exact hn5
    | 6, hq => cases hq; exact hn6
    | 7, hq => cases hq; exact hn7
    | 8, hq => cases hq; exact hn8
    | 9, hq => cases hq; exact hn9
    | 10, hq => cases hq; exact hn10
    | 11, hq => cases hq; exact hn11
    | 12, hq => cases hq; exact hn12
    | k + 13, hq => simp [vwCl] at hq
  · intro k q hq
    match k, hq with
    | 0, hq => cases hq; exact ⟨a_byte, f_byte⟩
    | 1, hq => cases hq; exact ⟨a_int, f_int⟩
    | 2, hq => cases hq; exact ⟨a_boolean, f_boolean⟩
    | 3, hq => cases hq; exact ⟨a_long, f_long⟩
    | 4, hq => cases hq; exact ⟨fun N z => ⟨(fun k h => by cases h), kS, s3, cS, s4⟩, kS, cS, s3, s4, s1, s5⟩
    | 5, hq => cases hq; exact ⟨fun N z => ⟨(fun k h => by cases h), kT, t3, cT, t4⟩, kT, cT, t3, t4, t1, t5⟩
    | 6, hq => cases hq; exact ⟨fun N z => ⟨(fun k h => by cases h), kA, r3, cA, r4⟩, r5⟩
    | k + 7, hq => simp [tyG] at hq
  · intro q hq
    exact va_Nw.of rfl (hts _ (nwA q hq))
  · intro q hq
    obtain ⟨i, hi⟩ := List.getElem?_of_mem hq
    have hl : i < 21 := (List.getElem?_eq_some_iff.mp hi).1
    have h1 : Cond.stringRef q.1 q.2.1 q.2.2.1 ∈ lw_tbl := by
      have key := txA i hl
      rw [hi] at key
      exact List.mem_append_right _ (List.mem_of_getElem? key)
    obtain ⟨hk, h2⟩ := txF i hl q hi
    have h3 : (Term.string q.1 q.2.1).eval #[Value.ref b] s none [] s = some (.ref (adK q.2.2.2)) := by
      rcases h2 with h2 | h2 | h2
      · rw [h2]; exact hE _ hk
      · exact eq_ref (hs _ h2) (hE _ hk)
      · have h4 := hs _ h2
        have h5 := hE _ hk
        cases hv : (Term.string q.1 q.2.1).eval #[Value.ref b] s none [] s with
        | none => simp [Cond.before, Cond.holds, Cond.value, hv, h5] at h4
        | some v =>
          simp only [Cond.before, Cond.holds, Cond.value, hv, h5] at h4
          cases v <;> simp_all
    exact vk_R.of (hts _ h1) h3
end
section
def S00 : Sh := (0, fun _ => 0, fun _ => 0)
def M00 : Mm := fun _ _ => 0
/-- the law over numbers, from its entry -/
def wp_start (L : Nat) (xs : Nat → Int32) : Prop := wNew S00 M00 11 fun S1 M1 x1 => isK S1 x1 11 ∧ (wp_X11_init S1 M1 x1 <| fun S2 M2 => wNew S2 M2 12 fun S3 M3 x3 => isK S3 x3 12 ∧ (wp_X12_init S3 M3 x3 <| fun S4 M4 => ∃ n : Nat, wp_L L xs x1 x3 n S4 M4 0))
set_option maxHeartbeats 4000000 in
set_option maxRecDepth 100000 in
/-- THE LAW, from its entry, out of numbers alone -/
theorem whole_of {p : Program} {e : Env} {s : State} {m : MethodId} {below : List Frame} {meth : Method} {c : Code} (l : Launch) {b L : Nat} {xs : Nat → Int32} (hL : L ≤ 3072) (h : wp_start L xs) (C0 : lw_At p s m meth c b L xs) : W p l e room_1 s m #[Value.ref b] below meth c s.heap [] 0 0 (lw_Z below #[Value.ref b] s) (entryFrame m ([Value.ref b] : List Value).toArray 4) := by
  obtain ⟨hx, hb, hr, hml, hown0, hts, hX, hbl, hlocks, hgv⟩ := id C0
  have hown : s.vm.findClass RL = some m.cls := hown0
  obtain ⟨D, G, hK, hO, hgB, hG⟩ := KN_start hts hgv
  have hbA : ¬ aG G b := by unfold aG; rw [hgB]; omega
  have CC : CL p s m meth c b L xs D G := ⟨C0, hK, hO, hbA, hG, hL, hgB⟩
  have hS : va_S (aG G) s.heap s.heap [] := va_S.rf
  have hP : Wd D G S00 M00 s.heap := ⟨fun i j hi _ _ => absurd hi (Nat.not_lt_zero i), fun i hi => absurd hi (Nat.not_lt_zero i), fun k q hq => by simp [wsM, S00] at hq, fun a j => ⟨fun _ => by unfold M00 r32; omega, fun _ => by unfold M00 r64; omega⟩⟩
  have hb0 : gB G ≤ s.heap.size := by omega
  have hsz : s.heap.size + 0 = gB G + S00.1 := by rw [hgB]; rfl
  have hl := lv_entry ([.ref b]) (n := 4) (Nat.le_of_ble_eq_true rfl)
  rw [lg_entry_eq]
  generalize (lg_sl ([.ref b]) ++ List.replicate (4 - (lg_sl ([.ref b])).length) Slot.unset).toArray = ls at hl ⊢
  have hl : lv_has ls 4 [(0, .ref b)] := hl
  unfold wp_start at h
  refine r_new (C := RX11) (T := TX11) (N := 16) hx hb hts (fun w h => gw_in w (iX11 w h)) tyX11 tyX11_ok hown (hts _ (gw_in _ kw_22)) (hts _ (gw_in _ kw_23)) (hts _ (gw_in _ kw_1)) hK hP hS hG hb0 hsz rfl (by decide) rfl df_11 (Nat.le_of_ble_eq_true rfl) (Nat.le_of_ble_eq_true rfl) dL_law_0 h (fun S1 M1 x1 H h e1 hP hS => ?_)
  have hsz : s.heap.size + 1 = gB G + S1.1 := by omega
  refine lv_dup hx hb dL_law_3 rfl ?_
  refine W_sz (fun hle => ?_)
  have hH := hsize_of hP hG (by omega) hle hsz
  refine q_I2 hx hb hml hown hts hK hP hS hO hH (c_X11_init l D G _ _ hG x1 _ h.2) ⟨callB_of 0 hts (gw_goodL kw_26) rfl rfl rfl (hts _ (gw_in _ kw_1)) (hts _ (gw_in _ kw_24)) hd_X11_init ⟨Nat.le_of_ble_eq_true rfl, Nat.le_of_ble_eq_true rfl⟩, rfl, (hts _ (gw_in _ kw_25))⟩ hl.1 rfl (lv_room (Nat.le_of_ble_eq_true rfl)) dL_law_4 ⟨Nat.le_of_ble_eq_true rfl, Nat.le_of_ble_eq_true rfl⟩ (fun S2 M2 H locs h e2 hP hS => ?_)
  have hsz : s.heap.size + 336 = gB G + S2.1 := by omega
  refine lv_astore_n (lv' := [(1, .ref (adr G x1)), (0, .ref b)]) hx hb dL_law_7 rfl hl (by decide) rfl (fun ls hl => ?_)
  refine r_new (C := RX12) (T := TX12) (N := 38) hx hb hts (fun w h => gw_in w (iX12 w h)) tyX12 tyX12_ok hown (hts _ (gw_in _ kw_1328)) (hts _ (gw_in _ kw_1329)) (hts _ (gw_in _ kw_14)) hK hP hS hG hb0 hsz rfl (by decide) rfl df_12 (Nat.le_of_ble_eq_true rfl) (Nat.le_of_ble_eq_true rfl) dL_law_8 h (fun S3 M3 x3 H h e1 hP hS => ?_)
  have hsz : s.heap.size + 337 = gB G + S3.1 := by omega
  refine lv_dup hx hb dL_law_11 rfl ?_
  refine q_I hx hb hml hown hts hK hP hS hG hb0 hsz h.1 (c_X12_init l D G _ _ hG x3 _ h.2) ⟨callB_of 0 hts (gw_goodL kw_1332) rfl rfl rfl (hts _ (gw_in _ kw_14)) (hts _ (gw_in _ kw_1330)) hd_X12_init ⟨Nat.le_of_ble_eq_true rfl, Nat.le_of_ble_eq_true rfl⟩, rfl, (hts _ (gw_in _ kw_1331))⟩ rfl hl.1 rfl (lv_room (Nat.le_of_ble_eq_true rfl)) dL_law_12 ⟨Nat.le_of_ble_eq_true rfl, Nat.le_of_ble_eq_true rfl⟩ (fun S4 M4 H locs h e4 hP hS => ?_)
  have hsz : s.heap.size + 358 = gB G + S4.1 := by omega
  refine lv_astore_n (lv' := [(2, .ref (adr G x3)), (1, .ref (adr G x1)), (0, .ref b)]) hx hb dL_law_15 rfl hl (by decide) rfl (fun ls hl => ?_)
  refine lv_iconst (v := 0) hx hb dL_law_16 (by decide) ?_
  refine lv_istore_n (lv' := [(3, .int 0), (2, .ref (adr G x3)), (1, .ref (adr G x1)), (0, .ref b)]) hx hb dL_law_17 rfl hl (by decide) rfl (fun ls hl => ?_)
  obtain ⟨n, h⟩ := h
  refine W_sz (fun hle => ?_)
  have hH := hsize_of hP hG (by omega) hle hsz
  have z0 : (0 : Int32).toInt = 0 := Int32.toInt_zero
  refine t_L CC x1 x3 n S4 M4 H locs ls _ _ 0 hP hS hH (lv_sub hl [3, 2, 1, 0] rfl) (by rw [z0]; omega) (by rw [z0]; decide) (by rw [z0]; decide) (by rw [z0]; exact h)
end
section
/-! STAGE B: numbers alone -/
def kT : List Nat := [11, 7, 13, 4, 8, 14, 14, 14, 14, 14, 14, 14, 14, 14, 14, 14, 5, 14, 14, 14, 14, 14, 14, 14, 14, 14, 14, 14, 17, 18, 19, 0, 8, 14, 14, 14, 14, 14, 14, 14, 14, 14, 14, 14, 5, 14, 14, 14, 14, 14, 14, 14, 3, 14, 14, 10, 16, 1, 2, 14, 14, 14, 14, 6, 14, 14, 9, 14, 5, 14, 14, 14, 14, 14, 14, 14, 4, 8, 14, 14, 14, 14, 14, 14, 14, 14, 14, 14, 14, 5, 14, 14, 14, 14, 14, 14, 14, 14, 14, 14, 14, 4, 8, 14, 14, 14, 14, 14, 14, 14, 14, 14, 14, 14, 5, 14, 14, 14, 14, 14, 14, 14, 14, 14, 14, 14, 4, 8, 14, 14, 14, 14, 14, 14, 14, 14, 14, 14, 14, 5, 14, 14, 14, 14, 14, 14, 14, 14, 14, 14, 14, 4, 8, 14, 14, 14, 14, 14, 14, 14, 14, 14, 14, 14, 5, 14, 14, 14, 14, 14, 14, 14, 14, 14, 14, 14, 5, 14, 14, 14, 14, 14, 14, 14, 5, 14, 14, 14, 14, 14, 14, 14, 5, 14, 14, 14, 14, 14, 14, 14, 5, 14, 14, 14, 14, 14, 14, 14, 5, 14, 14, 14, 14, 14, 14, 14, 5, 14, 14, 14, 14, 14, 14, 14, 5, 14, 14, 14, 14, 14, 14, 14, 5, 14, 14, 14, 14, 14, 14, 14, 5, 14, 14, 14, 14, 14, 14, 14, 5, 14, 14, 14, 14, 14, 14, 14, 5, 14, 14, 14, 14, 14, 14, 14, 5, 14, 14, 14, 14, 14, 14, 14, 5, 14, 14, 14, 14, 14, 14, 14, 5, 14, 14, 14, 14, 14, 14, 14, 5, 14, 14, 14, 14, 14, 14, 14, 5, 14, 14, 14, 14, 14, 14, 14, 5, 14, 14, 14, 14, 14, 14, 14, 5, 14, 14, 14, 14, 14, 14, 14, 5, 14, 14, 14, 14, 14, 14, 14, 5, 14, 14, 14, 14, 14, 14, 14, 12, 13, 14, 14, 14, 14, 14, 14, 16, 16, 14, 14, 14, 14, 14, 14, 14, 15, 14, 14, 14, 15]
def lT : List Nat := [0, 0, 400, 0, 0, 36, 36, 5, 5, 4, 4, 4, 6, 6, 6, 6, 0, 5, 5, 5, 4, 4, 4, 6, 10, 10, 10, 10, 4, 20, 6, 0, 0, 36, 36, 5, 5, 4, 4, 4, 6, 6, 6, 6, 0, 5, 5, 5, 4, 4, 4, 6, 0, 400, 400, 0, 64, 0, 0, 5, 5, 6000, 6000, 0, 112, 3913, 0, 100, 0, 5, 5, 5, 4, 4, 4, 6, 0, 0, 36, 36, 5, 5, 4, 4, 4, 6, 6, 6, 6, 0, 5, 5, 5, 4, 4, 4, 6, 10, 10, 10, 10, 0, 0, 36, 36, 5, 5, 4, 4, 4, 6, 6, 6, 6, 0, 5, 5, 5, 4, 4, 4, 6, 10, 10, 10, 10, 0, 0, 36, 36, 5, 5, 4, 4, 4, 6, 6, 6, 6, 0, 5, 5, 5, 4, 4, 4, 6, 10, 10, 10, 10, 0, 0, 36, 36, 5, 5, 4, 4, 4, 6, 6, 6, 6, 0, 5, 5, 5, 4, 4, 4, 6, 10, 10, 10, 10, 0, 5, 5, 5, 4, 4, 4, 6, 0, 5, 5, 5, 4, 4, 4, 6, 0, 5, 5, 5, 4, 4, 4, 6, 0, 5, 5, 5, 4, 4, 4, 6, 0, 5, 5, 5, 4, 4, 4, 6, 0, 5, 5, 5, 4, 4, 4, 6, 0, 5, 5, 5, 4, 4, 4, 6, 0, 5, 5, 5, 4, 4, 4, 6, 0, 5, 5, 5, 4, 4, 4, 6, 0, 5, 5, 5, 4, 4, 4, 6, 0, 5, 5, 5, 4, 4, 4, 6, 0, 5, 5, 5, 4, 4, 4, 6, 0, 5, 5, 5, 4, 4, 4, 6, 0, 5, 5, 5, 4, 4, 4, 6, 0, 5, 5, 5, 4, 4, 4, 6, 0, 5, 5, 5, 4, 4, 4, 6, 0, 5, 5, 5, 4, 4, 4, 6, 0, 5, 5, 5, 4, 4, 4, 6, 0, 5, 5, 5, 4, 4, 4, 6, 0, 5, 5, 5, 4, 4, 4, 6, 0, 400, 2400, 7, 288, 6, 117, 400, 64, 10, 158, 1140, 57, 6, 6, 5, 3913, 3913, 632, 4, 4, 4]
def Shp (S : Sh) : Prop := 358 ≤ S.1 ∧ ∀ a : Nat, a < 358 → S.2.1 a = kT.getD a 0 ∧ S.2.2 a = lT.getD a 0
theorem Shp.k {S : Sh} (h : Shp S) (a : Nat) {ci : Nat} (ha : a < 358) (hk : kT.getD a 0 = ci) : isK S (a : Int) ci := ⟨Int.natCast_nonneg a, by have := h.1; omega, by rw [(h.2 a ha).1]; exact hk⟩
theorem Shp.l {S : Sh} (h : Shp S) (a : Nat) {n : Nat} (ha : a < 358) (hk : lT.getD a 0 = n) : S.2.2 (a : Int) = n := by rw [(h.2 a ha).2]; exact hk
def RfM (M : Mm) : Prop := M 336 0 = 337 ∧ M 336 3 = 338 ∧ M 336 4 = 339 ∧ M 336 5 = 340 ∧ M 336 6 = 341 ∧ M 336 7 = 342 ∧ M 336 15 = 343 ∧ M 336 17 = 344 ∧ M 336 19 = 345 ∧ M 336 20 = 346 ∧ M 336 24 = 347 ∧ M 336 26 = 348 ∧ M 336 27 = 349 ∧ M 336 28 = 350 ∧ M 336 30 = 351 ∧ M 336 31 = 352 ∧ M 336 32 = 353 ∧ M 336 34 = 354 ∧ M 336 35 = 355 ∧ M 336 36 = 356 ∧ M 336 37 = 357
theorem RfM.f0 {M : Mm} (h : RfM M) : M 336 0 = 337 := h.1
theorem RfM.f3 {M : Mm} (h : RfM M) : M 336 3 = 338 := h.2.1
theorem RfM.f4 {M : Mm} (h : RfM M) : M 336 4 = 339 := h.2.2.1
theorem RfM.f5 {M : Mm} (h : RfM M) : M 336 5 = 340 := h.2.2.2.1
theorem RfM.f6 {M : Mm} (h : RfM M) : M 336 6 = 341 := h.2.2.2.2.1
theorem RfM.f7 {M : Mm} (h : RfM M) : M 336 7 = 342 := h.2.2.2.2.2.1
theorem RfM.f15 {M : Mm} (h : RfM M) : M 336 15 = 343 := h.2.2.2.2.2.2.1
theorem RfM.f17 {M : Mm} (h : RfM M) : M 336 17 = 344 := h.2.2.2.2.2.2.2.1
theorem RfM.f19 {M : Mm} (h : RfM M) : M 336 19 = 345 := h.2.2.2.2.2.2.2.2.1
theorem RfM.f20 {M : Mm} (h : RfM M) : M 336 20 = 346 := h.2.2.2.2.2.2.2.2.2.1
theorem RfM.f24 {M : Mm} (h : RfM M) : M 336 24 = 347 := h.2.2.2.2.2.2.2.2.2.2.1
theorem RfM.f26 {M : Mm} (h : RfM M) : M 336 26 = 348 := h.2.2.2.2.2.2.2.2.2.2.2.1
theorem Shp.k336 {S : Sh} (h : Shp S) : isK S 336 12 := h.k 336 (by decide) (by decide +kernel)
theorem Shp.k337 {S : Sh} (h : Shp S) : isK S 337 13 := h.k 337 (by decide) (by decide +kernel)
theorem Shp.l337 {S : Sh} (h : Shp S) : S.2.2 337 = 400 := h.l 337 (by decide) (by decide +kernel)
theorem Shp.k338 {S : Sh} (h : Shp S) : isK S 338 14 := h.k 338 (by decide) (by decide +kernel)
theorem Shp.l338 {S : Sh} (h : Shp S) : S.2.2 338 = 2400 := h.l 338 (by decide) (by decide +kernel)
theorem Shp.k339 {S : Sh} (h : Shp S) : isK S 339 14 := h.k 339 (by decide) (by decide +kernel)
theorem Shp.l339 {S : Sh} (h : Shp S) : S.2.2 339 = 7 := h.l 339 (by decide) (by decide +kernel)
theorem Shp.k340 {S : Sh} (h : Shp S) : isK S 340 14 := h.k 340 (by decide) (by decide +kernel)
theorem Shp.l340 {S : Sh} (h : Shp S) : S.2.2 340 = 288 := h.l 340 (by decide) (by decide +kernel)
theorem Shp.k341 {S : Sh} (h : Shp S) : isK S 341 14 := h.k 341 (by decide) (by decide +kernel)
theorem Shp.l341 {S : Sh} (h : Shp S) : S.2.2 341 = 6 := h.l 341 (by decide) (by decide +kernel)
theorem Shp.k342 {S : Sh} (h : Shp S) : isK S 342 14 := h.k 342 (by decide) (by decide +kernel)
theorem Shp.l342 {S : Sh} (h : Shp S) : S.2.2 342 = 117 := h.l 342 (by decide) (by decide +kernel)
theorem Shp.k343 {S : Sh} (h : Shp S) : isK S 343 14 := h.k 343 (by decide) (by decide +kernel)
theorem Shp.l343 {S : Sh} (h : Shp S) : S.2.2 343 = 400 := h.l 343 (by decide) (by decide +kernel)
theorem Shp.k344 {S : Sh} (h : Shp S) : isK S 344 16 := h.k 344 (by decide) (by decide +kernel)
theorem Shp.l344 {S : Sh} (h : Shp S) : S.2.2 344 = 64 := h.l 344 (by decide) (by decide +kernel)
theorem Shp.k345 {S : Sh} (h : Shp S) : isK S 345 16 := h.k 345 (by decide) (by decide +kernel)
theorem Shp.l345 {S : Sh} (h : Shp S) : S.2.2 345 = 10 := h.l 345 (by decide) (by decide +kernel)
theorem Shp.k346 {S : Sh} (h : Shp S) : isK S 346 14 := h.k 346 (by decide) (by decide +kernel)
theorem Shp.l346 {S : Sh} (h : Shp S) : S.2.2 346 = 158 := h.l 346 (by decide) (by decide +kernel)
theorem Shp.k347 {S : Sh} (h : Shp S) : isK S 347 14 := h.k 347 (by decide) (by decide +kernel)
theorem Shp.l347 {S : Sh} (h : Shp S) : S.2.2 347 = 1140 := h.l 347 (by decide) (by decide +kernel)
theorem Shp.k348 {S : Sh} (h : Shp S) : isK S 348 14 := h.k 348 (by decide) (by decide +kernel)
theorem Shp.l348 {S : Sh} (h : Shp S) : S.2.2 348 = 57 := h.l 348 (by decide) (by decide +kernel)
theorem Shp.k349 {S : Sh} (h : Shp S) : isK S 349 14 := h.k 349 (by decide) (by decide +kernel)
theorem Shp.l349 {S : Sh} (h : Shp S) : S.2.2 349 = 6 := h.l 349 (by decide) (by decide +kernel)
theorem Shp.k350 {S : Sh} (h : Shp S) : isK S 350 14 := h.k 350 (by decide) (by decide +kernel)
theorem Shp.l350 {S : Sh} (h : Shp S) : S.2.2 350 = 6 := h.l 350 (by decide) (by decide +kernel)
theorem Shp.k351 {S : Sh} (h : Shp S) : isK S 351 14 := h.k 351 (by decide) (by decide +kernel)
theorem Shp.l351 {S : Sh} (h : Shp S) : S.2.2 351 = 5 := h.l 351 (by decide) (by decide +kernel)
theorem Shp.k352 {S : Sh} (h : Shp S) : isK S 352 14 := h.k 352 (by decide) (by decide +kernel)
theorem Shp.l352 {S : Sh} (h : Shp S) : S.2.2 352 = 3913 := h.l 352 (by decide) (by decide +kernel)
theorem Shp.k353 {S : Sh} (h : Shp S) : isK S 353 15 := h.k 353 (by decide) (by decide +kernel)
theorem Shp.l353 {S : Sh} (h : Shp S) : S.2.2 353 = 3913 := h.l 353 (by decide) (by decide +kernel)
theorem Shp.k354 {S : Sh} (h : Shp S) : isK S 354 14 := h.k 354 (by decide) (by decide +kernel)
theorem Shp.l354 {S : Sh} (h : Shp S) : S.2.2 354 = 632 := h.l 354 (by decide) (by decide +kernel)
theorem Shp.k355 {S : Sh} (h : Shp S) : isK S 355 14 := h.k 355 (by decide) (by decide +kernel)
theorem Shp.l355 {S : Sh} (h : Shp S) : S.2.2 355 = 4 := h.l 355 (by decide) (by decide +kernel)
theorem Shp.k356 {S : Sh} (h : Shp S) : isK S 356 14 := h.k 356 (by decide) (by decide +kernel)
theorem Shp.l356 {S : Sh} (h : Shp S) : S.2.2 356 = 4 := h.l 356 (by decide) (by decide +kernel)
theorem Shp.k357 {S : Sh} (h : Shp S) : isK S 357 15 := h.k 357 (by decide) (by decide +kernel)
theorem Shp.l357 {S : Sh} (h : Shp S) : S.2.2 357 = 4 := h.l 357 (by decide) (by decide +kernel)
end
section
theorem nc (n : Nat) : ((no_index (@OfNat.ofNat Nat n (instOfNatNat n)) : Nat) : Int) = @OfNat.ofNat Int n (@instOfNat n) := rfl
end
section
theorem lowa : ∀ s : Nat, s < 1024 → 0 < s → 0 ≤ iAnd (s : Int) ((s : Int) - 1) ∧ iAnd (s : Int) ((s : Int) - 1) < s := by decide +kernel
theorem s_X12_bits {S : Sh} {M : Mm} {K : Int → Mm → Prop} {a : Int} (ha : 0 ≤ a ∧ a < 1024) (h : ∀ r, 0 ≤ r ∧ r ≤ 1024 → K r M) : wp_X12_bits S M a K := by
  have key : ∀ (n : Nat) (u1 u2 : Int), 0 ≤ u1 → 0 ≤ u2 ∧ u2 < 1024 → u1 + u2 ≤ 1024 → u2 < n → wp_X12_bits_4 S K n u1 u2 M := by
    intro n
    induction n with
    | zero => intro u1 u2 _ h2 _ h3; exact absurd h3 (by omega)
    | succ n ih =>
      intro u1 u2 h1 h2 h3 h4
      simp (disch := omega) only [wp_X12_bits_4, wC, wIf, wA, wS, wO, w32_id]
      refine ⟨fun _ => h u1 (by omega), fun hne => ?_⟩
      have q := lowa u2.toNat (by omega) (by omega)
      rw [Int.toNat_of_nonneg h2.1] at q
      exact ih _ _ (by omega) (by omega) (by omega) (by omega)
  exact ⟨1024, key 1024 0 a (by omega) ha (by omega) (by omega)⟩
end
