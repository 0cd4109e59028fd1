section
/-- the law's loop over numbers: fuel, shape, memory, place in the script -/
def wp_L (L : Nat) (xs : Nat → Int32) (x y : Int) : Nat → Sh → Mm → Int → Prop
  | 0, _, _, _ => False
  | n + 1, S, M, i => wC L fun v1 => wC 6 fun v2 => wS v1 v2 fun v3 => wIf (v3 < i) True ((0 ≤ i ∧ i ≤ 3066) ∧ (wSc L xs i fun v4 => wC 31 fun v5 => wO iAnd v4 v5 fun v6 => wIf (v6 = 0) (wp_Lc_0 L xs x y S M i (fun S1 M1 => wA i 6 fun i1 => wp_L L xs x y n S1 M1 i1)) (wIf (v6 = 1) (wp_Lc_1 L xs x y S M i (fun S1 M1 => wA i 6 fun i1 => wp_L L xs x y n S1 M1 i1)) (wIf (v6 = 2) (wp_Lc_2 L xs x y S M i (fun S1 M1 => wA i 6 fun i1 => wp_L L xs x y n S1 M1 i1)) (wIf (v6 = 3) (wp_Lc_3 L xs x y S M i (fun S1 M1 => wA i 6 fun i1 => wp_L L xs x y n S1 M1 i1)) (wIf (v6 = 4) (wp_Lc_4 L xs x y S M i (fun S1 M1 => wA i 6 fun i1 => wp_L L xs x y n S1 M1 i1)) (wIf (v6 = 5) (wp_Lc_5 L xs x y S M i (fun S1 M1 => wA i 6 fun i1 => wp_L L xs x y n S1 M1 i1)) (wIf (v6 = 6) (wp_Lc_6 L xs x y S M i (fun S1 M1 => wA i 6 fun i1 => wp_L L xs x y n S1 M1 i1)) (wIf (v6 = 7) (wp_Lc_7 L xs x y S M i (fun S1 M1 => wA i 6 fun i1 => wp_L L xs x y n S1 M1 i1)) (wIf (v6 = 8) (wp_Lc_8 L xs x y S M i (fun S1 M1 => wA i 6 fun i1 => wp_L L xs x y n S1 M1 i1)) (wIf (v6 = 9) (wp_Lc_9 L xs x y S M i (fun S1 M1 => wA i 6 fun i1 => wp_L L xs x y n S1 M1 i1)) (wIf (v6 = 10) (wp_Lc_10 L xs x y S M i (fun S1 M1 => wA i 6 fun i1 => wp_L L xs x y n S1 M1 i1)) (wIf (v6 = 11) (wp_Lc_11 L xs x y S M i (fun S1 M1 => wA i 6 fun i1 => wp_L L xs x y n S1 M1 i1)) (wIf (v6 = 12) (wp_Lc_12 L xs x y S M i (fun S1 M1 => wA i 6 fun i1 => wp_L L xs x y n S1 M1 i1)) (wIf (v6 = 13) (wp_Lc_13 L xs x y S M i (fun S1 M1 => wA i 6 fun i1 => wp_L L xs x y n S1 M1 i1)) (wIf (v6 = 14) (wp_Lc_14 L xs x y S M i (fun S1 M1 => wA i 6 fun i1 => wp_L L xs x y n S1 M1 i1)) (wIf (v6 = 15) (wp_Lc_15 L xs x y S M i (fun S1 M1 => wA i 6 fun i1 => wp_L L xs x y n S1 M1 i1)) (wIf (v6 = 16) (wp_Lc_16 L xs x y S M i (fun S1 M1 => wA i 6 fun i1 => wp_L L xs x y n S1 M1 i1)) (wIf (v6 = 17) (wp_Lc_17 L xs x y S M i (fun S1 M1 => wA i 6 fun i1 => wp_L L xs x y n S1 M1 i1)) (wIf (v6 = 18) (wp_Lc_18 L xs x y S M i (fun S1 M1 => wA i 6 fun i1 => wp_L L xs x y n S1 M1 i1)) (wIf (v6 = 19) (wp_Lc_19 L xs x y S M i (fun S1 M1 => wA i 6 fun i1 => wp_L L xs x y n S1 M1 i1)) (wIf (v6 = 20) (wp_Lc_20 L xs x y S M i (fun S1 M1 => wA i 6 fun i1 => wp_L L xs x y n S1 M1 i1)) (wIf (v6 = 21) (wp_Lc_21 L xs x y S M i (fun S1 M1 => wA i 6 fun i1 => wp_L L xs x y n S1 M1 i1)) (wIf (v6 = 22) (wp_Lc_22 L xs x y S M i (fun S1 M1 => wA i 6 fun i1 => wp_L L xs x y n S1 M1 i1)) (wIf (v6 = 23) (wp_Lc_23 L xs x y S M i (fun S1 M1 => wA i 6 fun i1 => wp_L L xs x y n S1 M1 i1)) (wIf (v6 = 24) (wp_Lc_24 L xs x y S M i (fun S1 M1 => wA i 6 fun i1 => wp_L L xs x y n S1 M1 i1)) (wIf (v6 = 25) (wp_Lc_25 L xs x y S M i (fun S1 M1 => wA i 6 fun i1 => wp_L L xs x y n S1 M1 i1)) (wIf (v6 = 26) (wp_Lc_26 L xs x y S M i (fun S1 M1 => wA i 6 fun i1 => wp_L L xs x y n S1 M1 i1)) (wIf (v6 = 27) (wp_Lc_27 L xs x y S M i (fun S1 M1 => wA i 6 fun i1 => wp_L L xs x y n S1 M1 i1)) (wIf (v6 = 28) (wp_Lc_28 L xs x y S M i (fun S1 M1 => wA i 6 fun i1 => wp_L L xs x y n S1 M1 i1)) (wIf (v6 = 29) (wp_Lc_29 L xs x y S M i (fun S1 M1 => wA i 6 fun i1 => wp_L L xs x y n S1 M1 i1)) (wIf (v6 = 30) (wp_Lc_30 L xs x y S M i (fun S1 M1 => wA i 6 fun i1 => wp_L L xs x y n S1 M1 i1)) (wA i 6 fun i1 => wp_L L xs x y n S M i1)))))))))))))))))))))))))))))))))
set_option maxHeartbeats 8000000 in
set_option maxRecDepth 100000 in
theorem t_L {p : Program} {l : Launch} {e : Env} {s : State} {m : MethodId} {below : List Frame} {meth : Method} {c : Code} {D : va_G} {G : Gt} {b L : Nat} {xs : Nat → Int32} (C0 : CL p s m meth c b L xs D G) (x y : Int) : ∀ (n : Nat) (S : Sh) (M : Mm) (H : Heap) (locs : List Loc) (ls : Array Slot) (cells slots : Nat) (z3 : Int32), Wd D G S M H → va_S (aG G) s.heap H locs → H.size = gB G + S.1 → lv_has ls 4 [(0, .ref b), (1, .ref (adr G x)), (2, .ref (adr G y)), (3, .int z3)] → (0 ≤ z3.toInt ∧ z3.toInt ≤ 3072) → 6 * (cells : Int) ≤ 2148 + z3.toInt → 6 * (slots : Int) ≤ 859200 + 400 * z3.toInt → wp_L L xs x y n S M z3.toInt → W p l e room_1 s m #[Value.ref b] below meth c H locs cells slots (lw_Z below #[Value.ref b] s) (F0 m 18 ls []) := by
  obtain ⟨⟨hx, hb, hr, hml, hown0, hts, hX, hbl, hlocks, hgv⟩, hK, hO, hbA, hG, hL, hgB⟩ := id C0
  have hown : s.vm.findClass RL = some m.cls := hown0
  intro n
  induction n with
  | zero => intro S M H locs ls cells slots z3 hP hS hH hl hi hc hs h; exact h.elim
  | succ n ih =>
    intro S M H locs ls cells slots z3 hP hS hH hl hi hc hs h
    unfold wp_L at h
    refine lv_iload_n hx hb dL_law_18 rfl (lv_at hl 3 rfl) ?_
    refine lv_aload_n hx hb dL_law_19 rfl (lv_at hl 0 rfl) ?_
    refine r_sl hx hb hL hX hbl hbA hS dL_law_20 h (fun z1 h => ?_)
    refine r_bipush hx hb dL_law_21 (by decide) h (fun z2 h => ?_)
    refine r_isub hx hb dL_law_23 h (fun z4 h => ?_)
    refine r_icmp_gt (tgt := 1161) hx hb dL_law_24 (by decide) h (fun _ => ?_) (fun h => ?_)
    · refine lv_iconst (v := 1) hx hb dL_law_1161 (by decide) ?_
      refine va_forget (fun q hq => by have h9 := hS.2.2 q hq; unfold aG at h9; rw [hgB] at h9; exact h9) ?_
      refine W.widen (k := 600000) (n := 7302250) (by omega) (by omega) ?_
      exact lw_ret hx hb hr hlocks dL_law_1162
    · obtain ⟨hj, h⟩ := h
      refine lv_aload_n hx hb dL_law_27 rfl (lv_at hl 0 rfl) ?_
      refine lv_iload_n hx hb dL_law_28 rfl (lv_at hl 3 rfl) ?_
      refine r_sc hx hb hX hbl hbA hS dL_law_29 h (fun z5 h => ?_)
      refine r_bipush hx hb dL_law_30 (by decide) h (fun z7 h => ?_)
      refine r_iand hx hb dL_law_32 h (fun z6 h => ?_)
      have nx : ∀ (S1 : Sh) (M1 : Mm) (H1 : Heap) (locs1 : List Loc) (ls1 : Array Slot) (cells1 slots1 : Nat), cells1 ≤ cells + 1 → slots1 ≤ slots + 400 → (fun S1 M1 => wA z3.toInt 6 fun i1 => wp_L L xs x y n S1 M1 i1) S1 M1 → Wd D G S1 M1 H1 → va_S (aG G) s.heap H1 locs1 → H1.size = gB G + S1.1 → lv_has ls1 4 [(0, .ref b), (1, .ref (adr G x)), (2, .ref (adr G y)), (3, .int z3)] → W p l e room_1 s m #[Value.ref b] below meth c H1 locs1 cells1 slots1 (lw_Z below #[Value.ref b] s) (F0 m 1155 ls1 []) := by
        intro S1 M1 H1 locs1 ls1 cells1 slots1 hc1 hs1 h hP hS hH hl
        refine r_iinc2 hx hb (fun z8 => [(3, .int z8), (0, .ref b), (1, .ref (adr G x)), (2, .ref (adr G y))]) dL_law_1155 (by decide) hl (k := 3) rfl (by decide) (fun _ => rfl) h (fun z8 ls hl hz h => ?_)
        refine lv_goto (tgt := 18) hx hb dL_law_1158 (by decide) ?_
        rw [w32_id (by omega) (by omega)] at hz
        exact ih S1 M1 H1 locs1 ls cells1 slots1 z8 hP hS hH (lv_sub hl [1, 2, 3, 0] rfl) (by omega) (by omega) (by omega) h
      refine sw (c := z6.toInt = 0) h (fun e0 h => lv_tableIn (tgt := 172) hx hb dL_law_33 (by omega) (by omega) (by rw [e0]; rfl) (by decide) (t_Lc_0 C0 x y _ _ _ _ _ _ _ _ hP hS hH hl (by omega) (by omega) h nx)) (fun e0 h => ?_)
      refine sw (c := z6.toInt = 1) h (fun e1 h => lv_tableIn (tgt := 235) hx hb dL_law_33 (by omega) (by omega) (by rw [e1]; rfl) (by decide) (t_Lc_1 C0 x y _ _ _ _ _ _ _ _ hP hS hH hl (by omega) (by omega) h nx)) (fun e1 h => ?_)
      refine sw (c := z6.toInt = 2) h (fun e2 h => lv_tableIn (tgt := 258) hx hb dL_law_33 (by omega) (by omega) (by rw [e2]; rfl) (by decide) (t_Lc_2 C0 x y _ _ _ _ _ _ _ _ hP hS hH hl (by omega) (by omega) h nx)) (fun e2 h => ?_)
      refine sw (c := z6.toInt = 3) h (fun e3 h => lv_tableIn (tgt := 271) hx hb dL_law_33 (by omega) (by omega) (by rw [e3]; rfl) (by decide) (t_Lc_3 C0 x y _ _ _ _ _ _ _ _ hP hS hH hl (by omega) (by omega) h nx)) (fun e3 h => ?_)
      refine sw (c := z6.toInt = 4) h (fun e4 h => lv_tableIn (tgt := 284) hx hb dL_law_33 (by omega) (by omega) (by rw [e4]; rfl) (by decide) (t_Lc_4 C0 x y _ _ _ _ _ _ _ _ hP hS hH hl (by omega) (by omega) h nx)) (fun e4 h => ?_)
      refine sw (c := z6.toInt = 5) h (fun e5 h => lv_tableIn (tgt := 307) hx hb dL_law_33 (by omega) (by omega) (by rw [e5]; rfl) (by decide) (t_Lc_5 C0 x y _ _ _ _ _ _ _ _ hP hS hH hl (by omega) (by omega) h nx)) (fun e5 h => ?_)
      refine sw (c := z6.toInt = 6) h (fun e6 h => lv_tableIn (tgt := 340) hx hb dL_law_33 (by omega) (by omega) (by rw [e6]; rfl) (by decide) (t_Lc_6 C0 x y _ _ _ _ _ _ _ _ hP hS hH hl (by omega) (by omega) h nx)) (fun e6 h => ?_)
      refine sw (c := z6.toInt = 7) h (fun e7 h => lv_tableIn (tgt := 373) hx hb dL_law_33 (by omega) (by omega) (by rw [e7]; rfl) (by decide) (t_Lc_7 C0 x y _ _ _ _ _ _ _ _ hP hS hH hl (by omega) (by omega) h nx)) (fun e7 h => ?_)
      refine sw (c := z6.toInt = 8) h (fun e8 h => lv_tableIn (tgt := 406) hx hb dL_law_33 (by omega) (by omega) (by rw [e8]; rfl) (by decide) (t_Lc_8 C0 x y _ _ _ _ _ _ _ _ hP hS hH hl (by omega) (by omega) h nx)) (fun e8 h => ?_)
      refine sw (c := z6.toInt = 9) h (fun e9 h => lv_tableIn (tgt := 419) hx hb dL_law_33 (by omega) (by omega) (by rw [e9]; rfl) (by decide) (t_Lc_9 C0 x y _ _ _ _ _ _ _ _ hP hS hH hl (by omega) (by omega) h nx)) (fun e9 h => ?_)
      refine sw (c := z6.toInt = 10) h (fun e10 h => lv_tableIn (tgt := 452) hx hb dL_law_33 (by omega) (by omega) (by rw [e10]; rfl) (by decide) (t_Lc_10 C0 x y _ _ _ _ _ _ _ _ hP hS hH hl (by omega) (by omega) h nx)) (fun e10 h => ?_)
      refine sw (c := z6.toInt = 11) h (fun e11 h => lv_tableIn (tgt := 485) hx hb dL_law_33 (by omega) (by omega) (by rw [e11]; rfl) (by decide) (t_Lc_11 C0 x y _ _ _ _ _ _ _ _ hP hS hH hl (by omega) (by omega) h nx)) (fun e11 h => ?_)
      refine sw (c := z6.toInt = 12) h (fun e12 h => lv_tableIn (tgt := 518) hx hb dL_law_33 (by omega) (by omega) (by rw [e12]; rfl) (by decide) (t_Lc_12 C0 x y _ _ _ _ _ _ _ _ hP hS hH hl (by omega) (by omega) h nx)) (fun e12 h => ?_)
      refine sw (c := z6.toInt = 13) h (fun e13 h => lv_tableIn (tgt := 551) hx hb dL_law_33 (by omega) (by omega) (by rw [e13]; rfl) (by decide) (t_Lc_13 C0 x y _ _ _ _ _ _ _ _ hP hS hH hl (by omega) (by omega) h nx)) (fun e13 h => ?_)
      refine sw (c := z6.toInt = 14) h (fun e14 h => lv_tableIn (tgt := 574) hx hb dL_law_33 (by omega) (by omega) (by rw [e14]; rfl) (by decide) (t_Lc_14 C0 x y _ _ _ _ _ _ _ _ hP hS hH hl (by omega) (by omega) h nx)) (fun e14 h => ?_)
      refine sw (c := z6.toInt = 15) h (fun e15 h => lv_tableIn (tgt := 587) hx hb dL_law_33 (by omega) (by omega) (by rw [e15]; rfl) (by decide) (t_Lc_15 C0 x y _ _ _ _ _ _ _ _ hP hS hH hl (by omega) (by omega) h nx)) (fun e15 h => ?_)
      refine sw (c := z6.toInt = 16) h (fun e16 h => lv_tableIn (tgt := 630) hx hb dL_law_33 (by omega) (by omega) (by rw [e16]; rfl) (by decide) (t_Lc_16 C0 x y _ _ _ _ _ _ _ _ hP hS hH hl (by omega) (by omega) h nx)) (fun e16 h => ?_)
      refine sw (c := z6.toInt = 17) h (fun e17 h => lv_tableIn (tgt := 673) hx hb dL_law_33 (by omega) (by omega) (by rw [e17]; rfl) (by decide) (t_Lc_17 C0 x y _ _ _ _ _ _ _ _ hP hS hH hl (by omega) (by omega) h nx)) (fun e17 h => ?_)
      refine sw (c := z6.toInt = 18) h (fun e18 h => lv_tableIn (tgt := 716) hx hb dL_law_33 (by omega) (by omega) (by rw [e18]; rfl) (by decide) (t_Lc_18 C0 x y _ _ _ _ _ _ _ _ hP hS hH hl (by omega) (by omega) h nx)) (fun e18 h => ?_)
      refine sw (c := z6.toInt = 19) h (fun e19 h => lv_tableIn (tgt := 779) hx hb dL_law_33 (by omega) (by omega) (by rw [e19]; rfl) (by decide) (t_Lc_19 C0 x y _ _ _ _ _ _ _ _ hP hS hH hl (by omega) (by omega) h nx)) (fun e19 h => ?_)
      refine sw (c := z6.toInt = 20) h (fun e20 h => lv_tableIn (tgt := 802) hx hb dL_law_33 (by omega) (by omega) (by rw [e20]; rfl) (by decide) (t_Lc_20 C0 x y _ _ _ _ _ _ _ _ hP hS hH hl (by omega) (by omega) h nx)) (fun e20 h => ?_)
      refine sw (c := z6.toInt = 21) h (fun e21 h => lv_tableIn (tgt := 855) hx hb dL_law_33 (by omega) (by omega) (by rw [e21]; rfl) (by decide) (t_Lc_21 C0 x y _ _ _ _ _ _ _ _ hP hS hH hl (by omega) (by omega) h nx)) (fun e21 h => ?_)
      refine sw (c := z6.toInt = 22) h (fun e22 h => lv_tableIn (tgt := 908) hx hb dL_law_33 (by omega) (by omega) (by rw [e22]; rfl) (by decide) (t_Lc_22 C0 x y _ _ _ _ _ _ _ _ hP hS hH hl (by omega) (by omega) h nx)) (fun e22 h => ?_)
      refine sw (c := z6.toInt = 23) h (fun e23 h => lv_tableIn (tgt := 931) hx hb dL_law_33 (by omega) (by omega) (by rw [e23]; rfl) (by decide) (t_Lc_23 C0 x y _ _ _ _ _ _ _ _ hP hS hH hl (by omega) (by omega) h nx)) (fun e23 h => ?_)
      refine sw (c := z6.toInt = 24) h (fun e24 h => lv_tableIn (tgt := 954) hx hb dL_law_33 (by omega) (by omega) (by rw [e24]; rfl) (by decide) (t_Lc_24 C0 x y _ _ _ _ _ _ _ _ hP hS hH hl (by omega) (by omega) h nx)) (fun e24 h => ?_)
      refine sw (c := z6.toInt = 25) h (fun e25 h => lv_tableIn (tgt := 997) hx hb dL_law_33 (by omega) (by omega) (by rw [e25]; rfl) (by decide) (t_Lc_25 C0 x y _ _ _ _ _ _ _ _ hP hS hH hl (by omega) (by omega) h nx)) (fun e25 h => ?_)
      refine sw (c := z6.toInt = 26) h (fun e26 h => lv_tableIn (tgt := 1020) hx hb dL_law_33 (by omega) (by omega) (by rw [e26]; rfl) (by decide) (t_Lc_26 C0 x y _ _ _ _ _ _ _ _ hP hS hH hl (by omega) (by omega) h nx)) (fun e26 h => ?_)
      refine sw (c := z6.toInt = 27) h (fun e27 h => lv_tableIn (tgt := 1043) hx hb dL_law_33 (by omega) (by omega) (by rw [e27]; rfl) (by decide) (t_Lc_27 C0 x y _ _ _ _ _ _ _ _ hP hS hH hl (by omega) (by omega) h nx)) (fun e27 h => ?_)
      refine sw (c := z6.toInt = 28) h (fun e28 h => lv_tableIn (tgt := 1086) hx hb dL_law_33 (by omega) (by omega) (by rw [e28]; rfl) (by decide) (t_Lc_28 C0 x y _ _ _ _ _ _ _ _ hP hS hH hl (by omega) (by omega) h nx)) (fun e28 h => ?_)
      refine sw (c := z6.toInt = 29) h (fun e29 h => lv_tableIn (tgt := 1109) hx hb dL_law_33 (by omega) (by omega) (by rw [e29]; rfl) (by decide) (t_Lc_29 C0 x y _ _ _ _ _ _ _ _ hP hS hH hl (by omega) (by omega) h nx)) (fun e29 h => ?_)
      refine sw (c := z6.toInt = 30) h (fun e30 h => lv_tableIn (tgt := 1132) hx hb dL_law_33 (by omega) (by omega) (by rw [e30]; rfl) (by decide) (t_Lc_30 C0 x y _ _ _ _ _ _ _ _ hP hS hH hl (by omega) (by omega) h nx)) (fun e30 h => ?_)
      exact lv_tableOut (tgt := 1155) hx hb dL_law_33 (by omega) (by decide) (nx _ _ _ _ _ _ _ (by omega) (by omega) h hP hS hH hl)
end
section
def nwP : List Nat := [38, 42, 68, 69, 70, 72, 73, 75, 76, 77, 78, 80, 82, 83, 84, 85, 86, 87, 88, 90, 91, 92, 94, 95, 97, 98, 102, 103, 104, 105, 107, 108, 109, 110, 112, 114, 116, 118, 119, 121, 122, 124, 125, 127, 128, 129, 180, 181, 182, 183, 185, 187, 188, 190, 191, 192, 194, 195, 196, 198, 199, 201, 202, 204, 205, 206, 207, 208, 210, 211, 232, 233, 235, 236, 238, 240, 242, 243, 245, 247, 249, 251, 252, 291, 293, 341, 343, 345, 347, 349, 353, 355, 356, 357, 361, 363, 364, 401, 475, 477]
def nwC (q : String × Nat × String × String × String) : Cond := .fieldLinkNest q.1 q.2.1 q.2.2.1 q.2.2.2.1 q.2.2.2.2 "TurningMilk"
theorem nwA_0 : ∀ i, i < 25 → tables_1[nwP.getD (0 + i) 0]? = (nwT[0 + i]?).map nwC := by decide +kernel
theorem nwA_1 : ∀ i, i < 25 → tables_1[nwP.getD (25 + i) 0]? = (nwT[25 + i]?).map nwC := by decide +kernel
theorem nwA_2 : ∀ i, i < 25 → tables_1[nwP.getD (50 + i) 0]? = (nwT[50 + i]?).map nwC := by decide +kernel
theorem nwA_3 : ∀ i, i < 25 → tables_1[nwP.getD (75 + i) 0]? = (nwT[75 + i]?).map nwC := by decide +kernel
theorem nwA : ∀ q ∈ nwT, nwC q ∈ lw_tbl := by
  intro q hq
  obtain ⟨i, hi⟩ := List.getElem?_of_mem hq
  have hl : i < 100 := (List.getElem?_eq_some_iff.mp hi).1
  have key : tables_1[nwP.getD i 0]? = (nwT[i]?).map nwC := by
    rcases (show i < 25 ∨ (25 ≤ i ∧ i < 50) ∨ (50 ≤ i ∧ i < 75) ∨ (75 ≤ i ∧ i < 100) by omega) with h | h | h | h
    · have := nwA_0 i h; rwa [Nat.zero_add] at this
    · have := nwA_1 (i - 25) (by omega); rwa [show 25 + (i - 25) = i by omega] at this
    · have := nwA_2 (i - 50) (by omega); rwa [show 50 + (i - 50) = i by omega] at this
    · have := nwA_3 (i - 75) (by omega); rwa [show 75 + (i - 75) = i by omega] at this
  rw [hi] at key
  exact List.mem_append_right _ (List.mem_of_getElem? key)
theorem eq_ref {args : Array Value} {s : State} {t1 t2 : Term} {a : Nat} (h : (Cond.eq t1 t2).before args s = true) (h1 : t1.eval args s none [] s = some (.ref a)) : t2.eval args s none [] s = some (.ref a) := by
  cases hv : t2.eval args s none [] s with
  | none => simp [Cond.before, Cond.holds, Cond.value, hv, h1] at h
  | some v =>
    simp only [Cond.before, Cond.holds, Cond.value, hv, h1] at h
    cases v <;> simp_all
def txT (i : Nat) : Term := ([.string "TurningMilk$DairyReader" 56, .string "TurningMilk$DairyReader" 58, .string "TurningMilk$DairyReader" 60, .string "TurningMilk$DairyReader" 62, .string "TurningMilk$DairyReader" 64, .string "TurningMilk$DairyReader" 66, .string "TurningMilk$RuleReader" 55, .string "TurningMilk$Turning" 28, .string "TurningMilk$Turning" 30, .string "TurningMilk$Turning" 34, .string "TurningMilk$Turning" 38, .string "TurningMilk$Turning" 42, .string "TurningMilk$Turning" 44, .string "TurningMilk$RuleReader" 138, .string "TurningMilk$RuleReader" 146, .string "TurningMilk$RuleReader" 131, .string "TurningMilk$RuleReader" 133] : List Term).getD i (.string "" 0)
abbrev FL : List Cond := flatC (Jvm.Cond.and given_1 narrow_1)
theorem tx1 : ∀ i, i < txN → Cond.exactly (txT i) "java/lang/String" ∈ FL := by decide +kernel
theorem tx2 : ∀ i, i < txN → Cond.eq (.field (txT i) "java/lang/String" "coder" "B") (.int 0) ∈ FL := by decide +kernel
theorem tx3 : ∀ i, i < txN → Cond.arrayOf (.field (txT i) "java/lang/String" "value" "[B") .byte ∈ FL := by decide +kernel
theorem tx4 : ∀ i, i < txN → Cond.eq (.length (.field (txT i) "java/lang/String" "value" "[B")) (.int (Int32.ofNat (txL.getD i 0))) ∈ FL := by decide +kernel
def txw : Cond → List (Term × Int32 × Int32)
  | .and a b => txw a ++ txw b
  | .eq (.elem t (.int j)) (.int b) => [(t, j, b)]
  | _ => []
theorem txw_mem {t : Term} {j b : Int32} : ∀ {c : Cond}, (t, j, b) ∈ txw c → Cond.eq (.elem t (.int j)) (.int b) ∈ flatC c := by
  intro c
  fun_induction txw c with
  | case1 a b iha ihb =>
    intro h
    unfold flatC
    rcases List.mem_append.mp h with h | h
    · exact List.mem_append_left _ (iha h)
    · exact List.mem_append_right _ (ihb h)
  | case2 t j b =>
    intro h
    cases List.mem_singleton.mp h
    exact List.mem_singleton.mpr rfl
  | case3 => intro h; cases h
def txE : List (Nat × Nat × Int32) := [(0, 0, 100), (0, 1, 97), (0, 2, 105), (0, 3, 114), (0, 4, 121), (1, 0, 114), (1, 1, 111), (1, 2, 97), (1, 3, 100), (2, 0, 104), (2, 1, 97), (2, 2, 110), (2, 3, 100), (3, 0, 106), (3, 1, 117), (3, 2, 103), (4, 0, 104), (4, 1, 101), (4, 2, 97), (4, 3, 116), (5, 0, 119), (5, 1, 97), (5, 2, 110), (5, 3, 116), (6, 0, 116), (6, 1, 117), (6, 2, 114), (6, 3, 110), (17, 0, 104), (17, 1, 97), (17, 2, 110), (17, 3, 100), (7, 0, 115), (7, 1, 112), (7, 2, 101), (7, 3, 101), (7, 4, 100), (8, 0, 116), (8, 1, 105), (8, 2, 114), (8, 3, 101), (8, 4, 100), (18, 0, 106), (18, 1, 117), (18, 2, 103), (9, 0, 116), (9, 1, 117), (9, 2, 114), (9, 3, 110), (9, 4, 101), (9, 5, 100), (19, 0, 104), (19, 1, 101), (19, 2, 97), (19, 3, 116), (10, 0, 104), (10, 1, 111), (10, 2, 117), (10, 3, 114), (20, 0, 114), (20, 1, 111), (20, 2, 97), (20, 3, 100), (11, 0, 104), (11, 1, 101), (11, 2, 108), (11, 3, 100), (12, 0, 115), (12, 1, 111), (12, 2, 117), (12, 3, 114), (13, 0, 105), (13, 1, 102), (14, 0, 110), (14, 1, 111), (14, 2, 116), (15, 0, 97), (15, 1, 110), (15, 2, 100), (16, 0, 111), (16, 1, 114)]
def txf (q : Nat × Nat × Int32) : Term × Int32 × Int32 := (.field (if q.1 < 17 then txT q.1 else ([.string "TurningMilk$Turning" 26, .string "TurningMilk$Turning" 32, .string "TurningMilk$Turning" 36, .string "TurningMilk$Turning" 40] : List Term).getD (q.1 - 17) (.int 0)) "java/lang/String" "value" "[B", Int32.ofNat q.2.1, q.2.2)
set_option maxRecDepth 100000 in
theorem txE_is : txw (Jvm.Cond.and given_1 narrow_1) = txE.map txf := rfl
theorem txE_at : ∀ i, i < txN → ∀ j, j < txL.getD i 0 → txE[([0, 5, 9, 13, 16, 20, 24, 32, 37, 45, 55, 63, 67, 71, 73, 76, 79] : List Nat).getD i 0 + j]? = some (i, j, (txB.getD i []).getD j 0) := by decide +kernel
theorem tx5 : ∀ i, i < txN → ∀ j, j < txL.getD i 0 → Cond.eq (.elem (.field (txT i) "java/lang/String" "value" "[B") (.int (Int32.ofNat j))) (.int ((txB.getD i []).getD j 0)) ∈ FL := by
  intro i hi j hj
  have h := List.mem_map_of_mem (f := txf) (List.mem_of_getElem? (txE_at i hi j hj))
  rw [← txE_is, show txf (i, j, (txB.getD i []).getD j 0) = (.field (txT i) "java/lang/String" "value" "[B", Int32.ofNat j, (txB.getD i []).getD j 0) by unfold txf; rw [if_pos (show i < 17 from hi)]] at h
  exact txw_mem h
def tx6P : List Nat := [0, 55, 64, 73, 84, 96, 109, 139, 156, 192, 231, 274, 297, 319, 343, 368, 393, 0, 0, 65, 74, 85, 97, 110, 140, 157, 193, 232, 275, 298, 320, 344, 369, 394, 0, 0, 0, 75, 86, 98, 111, 141, 158, 194, 233, 276, 299, 321, 345, 370, 395, 0, 0, 0, 0, 87, 99, 112, 142, 159, 195, 234, 277, 300, 322, 346, 371, 396, 0, 0, 0, 0, 0, 100, 113, 143, 160, 196, 235, 278, 301, 323, 347, 372, 397, 0, 0, 0, 0, 0, 0, 114, 144, 161, 197, 236, 279, 302, 324, 348, 373, 398, 0, 0, 0, 0, 0, 0, 0, 145, 162, 198, 237, 280, 303, 325, 349, 374, 399, 0, 0, 0, 0, 0, 0, 0, 0, 164, 200, 239, 282, 305, 327, 351, 376, 401, 0, 0, 0, 0, 0, 0, 0, 0, 0, 201, 240, 283, 306, 328, 352, 377, 402, 0, 0, 0, 0, 0, 0, 0, 0, 0, 0, 242, 285, 308, 330, 354, 379, 404, 0, 0, 0, 0, 0, 0, 0, 0, 0, 0, 0, 287, 310, 332, 356, 381, 406, 0, 0, 0, 0, 0, 0, 0, 0, 0, 0, 0, 0, 312, 334, 358, 383, 408, 0, 0, 0, 0, 0, 0, 0, 0, 0, 0, 0, 0, 0, 335, 359, 384, 409, 0, 0, 0, 0, 0, 0, 0, 0, 0, 0, 0, 0, 0, 0, 360, 385, 410, 0, 0, 0, 0, 0, 0, 0, 0, 0, 0, 0, 0, 0, 0, 0, 386, 411, 0, 0, 0, 0, 0, 0, 0, 0, 0, 0, 0, 0, 0, 0, 0, 0, 412, 0, 0, 0, 0, 0, 0, 0, 0, 0, 0, 0, 0, 0, 0, 0, 0, 0]
theorem tx6_0 : ∀ j, j < 17 → 0 < j → (FL[tx6P.getD (0 + j) 0]? = some (Cond.not (Cond.eq (txT 0) (txT j))) ∨ FL[tx6P.getD (0 + j) 0]? = some (Cond.not (Cond.eq (txT j) (txT 0)))) := by decide +kernel
theorem tx6_1 : ∀ j, j < 17 → 1 < j → (FL[tx6P.getD (17 + j) 0]? = some (Cond.not (Cond.eq (txT 1) (txT j))) ∨ FL[tx6P.getD (17 + j) 0]? = some (Cond.not (Cond.eq (txT j) (txT 1)))) := by decide +kernel
theorem tx6_2 : ∀ j, j < 17 → 2 < j → (FL[tx6P.getD (34 + j) 0]? = some (Cond.not (Cond.eq (txT 2) (txT j))) ∨ FL[tx6P.getD (34 + j) 0]? = some (Cond.not (Cond.eq (txT j) (txT 2)))) := by decide +kernel
theorem tx6_3 : ∀ j, j < 17 → 3 < j → (FL[tx6P.getD (51 + j) 0]? = some (Cond.not (Cond.eq (txT 3) (txT j))) ∨ FL[tx6P.getD (51 + j) 0]? = some (Cond.not (Cond.eq (txT j) (txT 3)))) := by decide +kernel
theorem tx6_4 : ∀ j, j < 17 → 4 < j → (FL[tx6P.getD (68 + j) 0]? = some (Cond.not (Cond.eq (txT 4) (txT j))) ∨ FL[tx6P.getD (68 + j) 0]? = some (Cond.not (Cond.eq (txT j) (txT 4)))) := by decide +kernel
theorem tx6_5 : ∀ j, j < 17 → 5 < j → (FL[tx6P.getD (85 + j) 0]? = some (Cond.not (Cond.eq (txT 5) (txT j))) ∨ FL[tx6P.getD (85 + j) 0]? = some (Cond.not (Cond.eq (txT j) (txT 5)))) := by decide +kernel
theorem tx6_6 : ∀ j, j < 17 → 6 < j → (FL[tx6P.getD (102 + j) 0]? = some (Cond.not (Cond.eq (txT 6) (txT j))) ∨ FL[tx6P.getD (102 + j) 0]? = some (Cond.not (Cond.eq (txT j) (txT 6)))) := by decide +kernel
theorem tx6_7 : ∀ j, j < 17 → 7 < j → (FL[tx6P.getD (119 + j) 0]? = some (Cond.not (Cond.eq (txT 7) (txT j))) ∨ FL[tx6P.getD (119 + j) 0]? = some (Cond.not (Cond.eq (txT j) (txT 7)))) := by decide +kernel
theorem tx6_8 : ∀ j, j < 17 → 8 < j → (FL[tx6P.getD (136 + j) 0]? = some (Cond.not (Cond.eq (txT 8) (txT j))) ∨ FL[tx6P.getD (136 + j) 0]? = some (Cond.not (Cond.eq (txT j) (txT 8)))) := by decide +kernel
theorem tx6_9 : ∀ j, j < 17 → 9 < j → (FL[tx6P.getD (153 + j) 0]? = some (Cond.not (Cond.eq (txT 9) (txT j))) ∨ FL[tx6P.getD (153 + j) 0]? = some (Cond.not (Cond.eq (txT j) (txT 9)))) := by decide +kernel
theorem tx6_10 : ∀ j, j < 17 → 10 < j → (FL[tx6P.getD (170 + j) 0]? = some (Cond.not (Cond.eq (txT 10) (txT j))) ∨ FL[tx6P.getD (170 + j) 0]? = some (Cond.not (Cond.eq (txT j) (txT 10)))) := by decide +kernel
theorem tx6_11 : ∀ j, j < 17 → 11 < j → (FL[tx6P.getD (187 + j) 0]? = some (Cond.not (Cond.eq (txT 11) (txT j))) ∨ FL[tx6P.getD (187 + j) 0]? = some (Cond.not (Cond.eq (txT j) (txT 11)))) := by decide +kernel
theorem tx6_12 : ∀ j, j < 17 → 12 < j → (FL[tx6P.getD (204 + j) 0]? = some (Cond.not (Cond.eq (txT 12) (txT j))) ∨ FL[tx6P.getD (204 + j) 0]? = some (Cond.not (Cond.eq (txT j) (txT 12)))) := by decide +kernel
theorem tx6_13 : ∀ j, j < 17 → 13 < j → (FL[tx6P.getD (221 + j) 0]? = some (Cond.not (Cond.eq (txT 13) (txT j))) ∨ FL[tx6P.getD (221 + j) 0]? = some (Cond.not (Cond.eq (txT j) (txT 13)))) := by decide +kernel
theorem tx6_14 : ∀ j, j < 17 → 14 < j → (FL[tx6P.getD (238 + j) 0]? = some (Cond.not (Cond.eq (txT 14) (txT j))) ∨ FL[tx6P.getD (238 + j) 0]? = some (Cond.not (Cond.eq (txT j) (txT 14)))) := by decide +kernel
theorem tx6_15 : ∀ j, j < 17 → 15 < j → (FL[tx6P.getD (255 + j) 0]? = some (Cond.not (Cond.eq (txT 15) (txT j))) ∨ FL[tx6P.getD (255 + j) 0]? = some (Cond.not (Cond.eq (txT j) (txT 15)))) := by decide +kernel
theorem tx6 : ∀ i, i < txN → ∀ j, j < txN → i < j → Cond.not (Cond.eq (txT i) (txT j)) ∈ FL ∨ Cond.not (Cond.eq (txT j) (txT i)) ∈ FL := by
  intro i hi j hj hij
  have key : ∃ p : Nat, FL[p]? = some (Cond.not (Cond.eq (txT i) (txT j))) ∨ FL[p]? = some (Cond.not (Cond.eq (txT j) (txT i))) := by
    match i, hi, hij with
    | 0, _, hij => exact ⟨_, tx6_0 j hj hij⟩
    | 1, _, hij => exact ⟨_, tx6_1 j hj hij⟩
    | 2, _, hij => exact ⟨_, tx6_2 j hj hij⟩
    | 3, _, hij => exact ⟨_, tx6_3 j hj hij⟩
    | 4, _, hij => exact ⟨_, tx6_4 j hj hij⟩
    | 5, _, hij => exact ⟨_, tx6_5 j hj hij⟩
    | 6, _, hij => exact ⟨_, tx6_6 j hj hij⟩
    | 7, _, hij => exact ⟨_, tx6_7 j hj hij⟩
    | 8, _, hij => exact ⟨_, tx6_8 j hj hij⟩
    | 9, _, hij => exact ⟨_, tx6_9 j hj hij⟩
    | 10, _, hij => exact ⟨_, tx6_10 j hj hij⟩
    | 11, _, hij => exact ⟨_, tx6_11 j hj hij⟩
    | 12, _, hij => exact ⟨_, tx6_12 j hj hij⟩
    | 13, _, hij => exact ⟨_, tx6_13 j hj hij⟩
    | 14, _, hij => exact ⟨_, tx6_14 j hj hij⟩
    | 15, _, hij => exact ⟨_, tx6_15 j hj hij⟩
    | q + 16, hi, hij => exact absurd hj (by have : txN = 17 := rfl; omega)
  obtain ⟨p, h | h⟩ := key
  · exact Or.inl (List.mem_of_getElem? h)
  · exact Or.inr (List.mem_of_getElem? h)
theorem tx7 : ∀ i, i < txN → txL.getD i 0 < 2 ^ 31 := by decide +kernel
def txP : List Nat := [588, 589, 590, 591, 592, 593, 750, 770, 771, 772, 773, 774, 775, 776, 777, 778, 779, 830, 835, 848, 849]
theorem txA : ∀ i, i < 21 → tables_1[txP.getD i 0]? = (txR[i]?).map (fun q => Cond.stringRef q.1 q.2.1 q.2.2.1) := by decide +kernel
theorem txF : ∀ i, i < 21 → ∀ q, txR[i]? = some q → q.2.2.2 < txN ∧ (Term.string q.1 q.2.1 = txT q.2.2.2 ∨ Cond.eq (txT q.2.2.2) (.string q.1 q.2.1) ∈ FL ∨ Cond.eq (.string q.1 q.2.1) (txT q.2.2.2) ∈ FL) := by
  intro i hi q hq
  have h : ∀ i, i < 21 → (match txR[i]? with | some q => decide (q.2.2.2 < txN) && (decide (Term.string q.1 q.2.1 = txT q.2.2.2) || decide (Cond.eq (txT q.2.2.2) (.string q.1 q.2.1) ∈ FL) || decide (Cond.eq (.string q.1 q.2.1) (txT q.2.2.2) ∈ FL)) | none => true) = true := by decide +kernel
  have h1 := h i hi
  rw [hq] at h1
  simp only [Bool.and_eq_true, Bool.or_eq_true, decide_eq_true_eq] at h1
  obtain ⟨a, (b | b) | b⟩ := h1
  · exact ⟨a, Or.inl b⟩
  · exact ⟨a, Or.inr (Or.inl b)⟩
  · exact ⟨a, Or.inr (Or.inr b)⟩
end
section
theorem lwS : Cond.arrayOver (.object "TurningMilk$Scene") ∈ lw_tbl := (List.mem_append_right _ (List.mem_of_getElem? (i := 274) (by decide +kernel)))
theorem lwT : Cond.arrayOver (.object "TurningMilk$State") ∈ lw_tbl := (List.mem_append_right _ (List.mem_of_getElem? (i := 276) (by decide +kernel)))
theorem lwA : Cond.arrayOver (.array .int) ∈ lw_tbl := (List.mem_append_right _ (List.mem_of_getElem? (i := 278) (by decide +kernel)))
theorem lwN : Cond.laysStatic "TurningMilk" "NO_RULE" "[I" ∈ lw_tbl := (List.mem_append_right _ (List.mem_of_getElem? (i := 342) (by decide +kernel)))
theorem lwC : Cond.laysStatic "java/lang/String" "COMPACT_STRINGS" "Z" ∈ lw_tbl := (List.mem_append_right _ (List.mem_of_getElem? (i := 611) (by decide +kernel)))
theorem lwP : Cond.laysStatic "jdk/internal/util/Preconditions" "SIOOBE_FORMATTER" "Ljava/util/function/BiFunction;" ∈ lw_tbl := (List.mem_append_right _ (List.mem_of_getElem? (i := 631) (by decide +kernel)))
theorem flN1 : Cond.arrayOf (.static "TurningMilk" "NO_RULE" "[I") .int ∈ FL := by decide +kernel
theorem flN2 : Cond.eq (.length (.static "TurningMilk" "NO_RULE" "[I")) (.int 0) ∈ FL := by decide +kernel
theorem flN3 : Cond.exactly (.static "TurningMilk" "NO_RULE" "[I") "[I" ∈ FL := by decide +kernel
theorem flC : Cond.eq (.static "java/lang/String" "COMPACT_STRINGS" "Z") (.int 1) ∈ FL := by decide +kernel
theorem flP : Cond.isRef (.static "jdk/internal/util/Preconditions" "SIOOBE_FORMATTER" "Ljava/util/function/BiFunction;") ∈ FL := by decide +kernel
theorem eq_len {args : Array Value} {s : State} {t : Term} {z : Int32} (h : (Cond.eq t (.int z)).before args s = true) : t.eval args s none [] s = some (.int z) := by
  cases hv : t.eval args s none [] s with
  | none => simp [Cond.before, Cond.holds, Cond.value, hv] at h
  | some v =>
    have hz : (Term.int z).eval args s none [] s = some (.int z) := rfl
    simp only [Cond.before, Cond.holds, Cond.value, hv, hz] at h
    cases v <;> simp_all
theorem arr_of {s : State} {args : Array Value} {ty : FieldType} (h : (Cond.arrayClass ty).before args s = true) : ∃ cA : ClassId, ArrOfT s cA ty ∧ s.vm.findClass ("[" ++ ty.toString) = some cA := by
  obtain ⟨q, k, comp, f1, f2, f3⟩ := Cond.arrayClass_spec h
  exact ⟨q, fun N z => ⟨(fun k h => by cases h), k, f2, comp, f3⟩, f1⟩
set_option maxHeartbeats 4000000 in
set_option maxRecDepth 100000 in
theorem KN_start {s : State} {b : Nat} (hts : ∀ w ∈ lw_tbl, w.before #[Value.ref b] s = true) (hgv : (Jvm.Cond.and given_1 narrow_1).before #[Value.ref b] s = true) : ∃ (D : va_G) (G : Gt), KN D G s ∧ va_O "[I" (gZ G) (aG G) s s.heap ∧ gB G = s.heap.size ∧ (∀ a : Nat, G.1 a = gB G + a) := by
  have hs := flat_of_before _ hgv
  have hA : ∀ a : Nat, a < s.heap.size → ¬ (fun q : Nat => s.heap.size ≤ q) a := fun a h q => Nat.not_le.mpr h q
  obtain ⟨c0, i0, hn0⟩ := u_known (C := RX0) (T := TX0) (N := 3) (n := 3) hts (fun w h => gw_in w (iX0 w h)) (hts (.instantiable RX0 3) (gw_in _ kw_280))
  obtain ⟨c1, i1, hn1⟩ := u_known (C := RX1) (T := TX1) (N := 3) (n := 3) hts (fun w h => gw_in w (iX1 w h)) (hts (.instantiable RX1 3) (gw_in _ kw_393))
  obtain ⟨c2, i2, hn2⟩ := u_known (C := RX2) (T := TX2) (N := 11) (n := 11) hts (fun w h => gw_in w (iX2 w h)) (hts (.instantiable RX2 11) (gw_in _ kw_410))
  obtain ⟨c3, i3, hn3⟩ := u_known (C := RX3) (T := TX3) (N := 9) (n := 9) hts (fun w h => gw_in w (iX3 w h)) (hts (.instantiable RX3 9) (gw_in _ kw_302))
  obtain ⟨c4, i4, hn4⟩ := u_known (C := RX4) (T := TX4) (N := 10) (n := 10) hts (fun w h => gw_in w (iX4 w h)) (hts (.instantiable RX4 10) (gw_in _ kw_56))
  obtain ⟨c5, i5, hn5⟩ := u_known (C := RX5) (T := TX5) (N := 9) (n := 9) hts (fun w h => gw_in w (iX5 w h)) (hts (.instantiable RX5 9) (gw_in _ kw_171))
  obtain ⟨c6, i6, hn6⟩ := u_known (C := RX6) (T := TX6) (N := 3) (n := 3) hts (fun w h => gw_in w (iX6 w h)) (hts (.instantiable RX6 3) (gw_in _ kw_450))
  obtain ⟨c7, i7, hn7⟩ := u_known (C := RX7) (T := TX7) (N := 5) (n := 5) hts (fun w h => gw_in w (iX7 w h)) (hts (.instantiable RX7 5) (gw_in _ kw_31))
  obtain ⟨c8, i8, hn8⟩ := u_known (C := RX8) (T := TX8) (N := 19) (n := 19) hts (fun w h => gw_in w (iX8 w h)) (hts (.instantiable RX8 19) (gw_in _ kw_62))
  obtain ⟨c9, i9, hn9⟩ := u_known (C := RX9) (T := TX9) (N := 5) (n := 5) hts (fun w h => gw_in w (iX9 w h)) (hts (.instantiable RX9 5) (gw_in _ kw_466))
  obtain ⟨c10, i10, hn10⟩ := u_known (C := RX10) (T := TX10) (N := 12) (n := 12) hts (fun w h => gw_in w (iX10 w h)) (hts (.instantiable RX10 12) (gw_in _ kw_336))
  obtain ⟨c11, i11, hn11⟩ := u_known (C := RX11) (T := TX11) (N := 16) (n := 16) hts (fun w h => gw_in w (iX11 w h)) (hts (.instantiable RX11 16) (gw_in _ kw_23))
  obtain ⟨c12, i12, hn12⟩ := u_known (C := RX12) (T := TX12) (N := 38) (n := 38) hts (fun w h => gw_in w (iX12 w h)) (hts (.instantiable RX12 38) (gw_in _ kw_1329))
  obtain ⟨q_byte, a_byte, f_byte⟩ := arr_of (hts (.arrayClass .byte) (gw_in _ kw_54))
  obtain ⟨q_int, a_int, f_int⟩ := arr_of (hts (.arrayClass .int) (gw_in _ kw_169))
  obtain ⟨q_boolean, a_boolean, f_boolean⟩ := arr_of (hts (.arrayClass .boolean) (gw_in _ kw_1449))
  obtain ⟨q_long, a_long, f_long⟩ := arr_of (hts (.arrayClass .long) (gw_in _ kw_391))
  have aoS : va_AO "TurningMilk$Scene" s := va_AO.of (hts _ lwS)
  have aoT : va_AO "TurningMilk$State" s := va_AO.of (hts _ lwT)
  have aoA : va_AI s := over_moved (Vm.Alike.refl s.vm) (hts _ lwA)
  obtain ⟨cS, q_S, kS, s1, s2, s3, s4, s5⟩ := Cond.arrayOver_spec aoS
  obtain ⟨cT, q_T, kT, t1, t2, t3, t4, t5⟩ := Cond.arrayOver_spec aoT
  obtain ⟨cA, q_A, kA, r1, r2, r3, r4, r5⟩ := arrayOverA_spec aoA
  obtain ⟨adK, adV, hS, hE⟩ := vk_Sof (args := #[Value.ref b]) (s := s) (N := txN) (tm := txT) (len := txL) (byt := txB) (A := fun q : Nat => s.heap.size ≤ q) tx7 (fun i hi => hs _ (tx1 i hi)) (fun i hi => hs _ (tx2 i hi)) (fun i hi => hs _ (tx3 i hi)) (fun i hi => hs _ (tx4 i hi)) (fun i hi j hj => hs _ (tx5 i hi j hj)) (fun i j hi hj hij => by
    rcases Nat.lt_or_gt_of_ne hij with h | h
    · rcases tx6 i hi j hj h with q | q
      · exact Or.inl (hs _ q)
      · exact Or.inr (hs _ q)
    · rcases tx6 j hj i hi h with q | q
      · exact Or.inr (hs _ q)
      · exact Or.inl (hs _ q)) hA
  obtain ⟨z0, hz0, hT⟩ := va_Tof (args := #[Value.ref b]) (s := s) (tm := .static "TurningMilk" "NO_RULE" "[I") (ty := .int) (N := 0) (f := fun _ => .int 0) (A := fun q : Nat => s.heap.size ≤ q) (by decide) (hs _ flN1) (eq_len (hs _ flN2)) (fun j hj => absurd hj (by omega)) hA
  have hZ := va_Zof (A := fun q : Nat => s.heap.size ≤ q) (hts _ lwN) (hts _ (gw_in _ kw_1)) hz0 hA
  have hO := va_Oof (A := fun q : Nat => s.heap.size ≤ q) (hs _ flN3) hz0 hA
  have hC := va_Zof (A := fun q : Nat => s.heap.size ≤ q) (hts _ lwC) (hts _ (gw_in _ kw_15)) (eq_len (hs _ flC)) hA
  have hQ := va_Zqof (A := fun q : Nat => s.heap.size ≤ q) (hts _ lwP) (hts _ (gw_in _ kw_17)) (hs _ flP) hA
  refine ⟨(fun k => ([c0, c1, c2, c3, c4, c5, c6, c7, c8, c9, c10, c11, c12] : List ClassId).getD k c0, fun k => ([i0, i1, i2, i3, i4, i5, i6, i7, i8, i9, i10, i11, i12] : List (Nat → Nat)).getD k i0), (fun a => s.heap.size + a, s.heap.size, z0, (fun k => ([q_byte, q_int, q_boolean, q_long, q_S, q_T, q_A] : List ClassId).getD (k - 13) q_int), adK, adV), ⟨⟨?_, ?_⟩, ?_, ?_, hS, hZ, hT, hC, hQ, aoS, aoT, aoA⟩, hO, rfl, fun a => rfl⟩
  · intro k q hq
    match k, hq with
    | 0, hq => cases hq; exact hn0
    | 1, hq => cases hq; exact hn1
    | 2, hq => cases hq; exact hn2
    | 3, hq => cases hq; exact hn3
    | 4, hq => cases hq; exact hn4
    | 5, hq => cases hq; exact hn5
    | 6, hq => cases hq; exact hn6
    | 7, hq => cases hq; exact hn7
    | 8, hq => cases hq; exact hn8
    | 9, hq => cases hq; exact hn9
    | 10, hq => cases hq; exact hn10
    | 11, hq => cases hq; exact hn11
    | 12, hq => cases hq; exact hn12
    | k + 13, hq => simp [vwCl] at hq
  · intro k q hq
    match k, hq with
    | 0, hq => cases hq; exact ⟨a_byte, f_byte⟩
    | 1, hq => cases hq; exact ⟨a_int, f_int⟩
    | 2, hq => cases hq; exact ⟨a_boolean, f_boolean⟩
    | 3, hq => cases hq; exact ⟨a_long, f_long⟩
    | 4, hq => cases hq; exact ⟨fun N z => ⟨(fun k h => by cases h), kS, s3, cS, s4⟩, kS, cS, s3, s4, s1, s5⟩
    | 5, hq => cases hq; exact ⟨fun N z => ⟨(fun k h => by cases h), kT, t3, cT, t4⟩, kT, cT, t3, t4, t1, t5⟩
    | 6, hq => cases hq; exact ⟨fun N z => ⟨(fun k h => by cases h), kA, r3, cA, r4⟩, r5⟩
    | k + 7, hq => simp [tyG] at hq
  · intro q hq
    exact va_Nw.of rfl (hts _ (nwA q hq))
  · intro q hq
    obtain ⟨i, hi⟩ := List.getElem?_of_mem hq
    have hl : i < 21 := (List.getElem?_eq_some_iff.mp hi).1
    have h1 : Cond.stringRef q.1 q.2.1 q.2.2.1 ∈ lw_tbl := by
      have key := txA i hl
      rw [hi] at key
      exact List.mem_append_right _ (List.mem_of_getElem? key)
    obtain ⟨hk, h2⟩ := txF i hl q hi
    have h3 : (Term.string q.1 q.2.1).eval #[Value.ref b] s none [] s = some (.ref (adK q.2.2.2)) := by
      rcases h2 with h2 | h2 | h2
      · rw [h2]; exact hE _ hk
      · exact eq_ref (hs _ h2) (hE _ hk)
      · have h4 := hs _ h2
        have h5 := hE _ hk
        cases hv : (Term.string q.1 q.2.1).eval #[Value.ref b] s none [] s with
        | none => simp [Cond.before, Cond.holds, Cond.value, hv, h5] at h4
        | some v =>
          simp only [Cond.before, Cond.holds, Cond.value, hv, h5] at h4
          cases v <;> simp_all
    exact vk_R.of (hts _ h1) h3
end
section
def S00 : Sh := (0, fun _ => 0, fun _ => 0)
def M00 : Mm := fun _ _ => 0
/-- the law over numbers, from its entry -/
def wp_start (L : Nat) (xs : Nat → Int32) : Prop := wNew S00 M00 11 fun S1 M1 x1 => isK S1 x1 11 ∧ (wp_X11_init S1 M1 x1 <| fun S2 M2 => wNew S2 M2 12 fun S3 M3 x3 => isK S3 x3 12 ∧ (wp_X12_init S3 M3 x3 <| fun S4 M4 => ∃ n : Nat, wp_L L xs x1 x3 n S4 M4 0))
set_option maxHeartbeats 4000000 in
set_option maxRecDepth 100000 in
/-- THE LAW, from its entry, out of numbers alone -/
theorem whole_of {p : Program} {e : Env} {s : State} {m : MethodId} {below : List Frame} {meth : Method} {c : Code} (l : Launch) {b L : Nat} {xs : Nat → Int32} (hL : L ≤ 3072) (h : wp_start L xs) (C0 : lw_At p s m meth c b L xs) : W p l e room_1 s m #[Value.ref b] below meth c s.heap [] 0 0 (lw_Z below #[Value.ref b] s) (entryFrame m ([Value.ref b] : List Value).toArray 4) := by
  obtain ⟨hx, hb, hr, hml, hown0, hts, hX, hbl, hlocks, hgv⟩ := id C0
  have hown : s.vm.findClass RL = some m.cls := hown0
  obtain ⟨D, G, hK, hO, hgB, hG⟩ := KN_start hts hgv
  have hbA : ¬ aG G b := by unfold aG; rw [hgB]; omega
  have CC : CL p s m meth c b L xs D G := ⟨C0, hK, hO, hbA, hG, hL, hgB⟩
  have hS : va_S (aG G) s.heap s.heap [] := va_S.rf
  have hP : Wd D G S00 M00 s.heap := ⟨fun i j hi _ _ => absurd hi (Nat.not_lt_zero i), fun i hi => absurd hi (Nat.not_lt_zero i), fun k q hq => by simp [wsM, S00] at hq, fun a j => ⟨fun _ => by unfold M00 r32; omega, fun _ => by unfold M00 r64; omega⟩⟩
  have hb0 : gB G ≤ s.heap.size := by omega
  have hsz : s.heap.size + 0 = gB G + S00.1 := by rw [hgB]; rfl
  have hl := lv_entry ([.ref b]) (n := 4) (Nat.le_of_ble_eq_true rfl)
  rw [lg_entry_eq]
  generalize (lg_sl ([.ref b]) ++ List.replicate (4 - (lg_sl ([.ref b])).length) Slot.unset).toArray = ls at hl ⊢
  have hl : lv_has ls 4 [(0, .ref b)] := hl
  unfold wp_start at h
  refine r_new (C := RX11) (T := TX11) (N := 16) hx hb hts (fun w h => gw_in w (iX11 w h)) tyX11 tyX11_ok hown (hts _ (gw_in _ kw_22)) (hts _ (gw_in _ kw_23)) (hts _ (gw_in _ kw_1)) hK hP hS hG hb0 hsz rfl (by decide) rfl df_11 (Nat.le_of_ble_eq_true rfl) (Nat.le_of_ble_eq_true rfl) dL_law_0 h (fun S1 M1 x1 H h e1 hP hS => ?_)
  have hsz : s.heap.size + 1 = gB G + S1.1 := by omega
  refine lv_dup hx hb dL_law_3 rfl ?_
  refine W_sz (fun hle => ?_)
  have hH := hsize_of hP hG (by omega) hle hsz
  refine q_I2 hx hb hml hown hts hK hP hS hO hH (c_X11_init l D G _ _ hG x1 _ h.2) ⟨callB_of 0 hts (gw_goodL kw_26) rfl rfl rfl (hts _ (gw_in _ kw_1)) (hts _ (gw_in _ kw_24)) hd_X11_init ⟨Nat.le_of_ble_eq_true rfl, Nat.le_of_ble_eq_true rfl⟩, rfl, (hts _ (gw_in _ kw_25))⟩ hl.1 rfl (lv_room (Nat.le_of_ble_eq_true rfl)) dL_law_4 ⟨Nat.le_of_ble_eq_true rfl, Nat.le_of_ble_eq_true rfl⟩ (fun S2 M2 H locs h e2 hP hS => ?_)
  have hsz : s.heap.size + 336 = gB G + S2.1 := by omega
  refine lv_astore_n (lv' := [(1, .ref (adr G x1)), (0, .ref b)]) hx hb dL_law_7 rfl hl (by decide) rfl (fun ls hl => ?_)
  refine r_new (C := RX12) (T := TX12) (N := 38) hx hb hts (fun w h => gw_in w (iX12 w h)) tyX12 tyX12_ok hown (hts _ (gw_in _ kw_1328)) (hts _ (gw_in _ kw_1329)) (hts _ (gw_in _ kw_14)) hK hP hS hG hb0 hsz rfl (by decide) rfl df_12 (Nat.le_of_ble_eq_true rfl) (Nat.le_of_ble_eq_true rfl) dL_law_8 h (fun S3 M3 x3 H h e1 hP hS => ?_)
  have hsz : s.heap.size + 337 = gB G + S3.1 := by omega
  refine lv_dup hx hb dL_law_11 rfl ?_
  refine q_I hx hb hml hown hts hK hP hS hG hb0 hsz h.1 (c_X12_init l D G _ _ hG x3 _ h.2) ⟨callB_of 0 hts (gw_goodL kw_1332) rfl rfl rfl (hts _ (gw_in _ kw_14)) (hts _ (gw_in _ kw_1330)) hd_X12_init ⟨Nat.le_of_ble_eq_true rfl, Nat.le_of_ble_eq_true rfl⟩, rfl, (hts _ (gw_in _ kw_1331))⟩ rfl hl.1 rfl (lv_room (Nat.le_of_ble_eq_true rfl)) dL_law_12 ⟨Nat.le_of_ble_eq_true rfl, Nat.le_of_ble_eq_true rfl⟩ (fun S4 M4 H locs h e4 hP hS => ?_)
  have hsz : s.heap.size + 358 = gB G + S4.1 := by omega
  refine lv_astore_n (lv' := [(2, .ref (adr G x3)), (1, .ref (adr G x1)), (0, .ref b)]) hx hb dL_law_15 rfl hl (by decide) rfl (fun ls hl => ?_)
  refine lv_iconst (v := 0) hx hb dL_law_16 (by decide) ?_
  refine lv_istore_n (lv' := [(3, .int 0), (2, .ref (adr G x3)), (1, .ref (adr G x1)), (0, .ref b)]) hx hb dL_law_17 rfl hl (by decide) rfl (fun ls hl => ?_)
  obtain ⟨n, h⟩ := h
  refine W_sz (fun hle => ?_)
  have hH := hsize_of hP hG (by omega) hle hsz
  have z0 : (0 : Int32).toInt = 0 := Int32.toInt_zero
  refine t_L CC x1 x3 n S4 M4 H locs ls _ _ 0 hP hS hH (lv_sub hl [3, 2, 1, 0] rfl) (by rw [z0]; omega) (by rw [z0]; decide) (by rw [z0]; decide) (by rw [z0]; exact h)
end
section
/-! STAGE B: numbers alone -/
def kT : List Nat := [11, 7, 13, 4, 8, 14, 14, 14, 14, 14, 14, 14, 14, 14, 14, 14, 5, 14, 14, 14, 14, 14, 14, 14, 14, 14, 14, 14, 17, 18, 19, 0, 8, 14, 14, 14, 14, 14, 14, 14, 14, 14, 14, 14, 5, 14, 14, 14, 14, 14, 14, 14, 3, 14, 14, 10, 16, 1, 2, 14, 14, 14, 14, 6, 14, 14, 9, 14, 5, 14, 14, 14, 14, 14, 14, 14, 4, 8, 14, 14, 14, 14, 14, 14, 14, 14, 14, 14, 14, 5, 14, 14, 14, 14, 14, 14, 14, 14, 14, 14, 14, 4, 8, 14, 14, 14, 14, 14, 14, 14, 14, 14, 14, 14, 5, 14, 14, 14, 14, 14, 14, 14, 14, 14, 14, 14, 4, 8, 14, 14, 14, 14, 14, 14, 14, 14, 14, 14, 14, 5, 14, 14, 14, 14, 14, 14, 14, 14, 14, 14, 14, 4, 8, 14, 14, 14, 14, 14, 14, 14, 14, 14, 14, 14, 5, 14, 14, 14, 14, 14, 14, 14, 14, 14, 14, 14, 5, 14, 14, 14, 14, 14, 14, 14, 5, 14, 14, 14, 14, 14, 14, 14, 5, 14, 14, 14, 14, 14, 14, 14, 5, 14, 14, 14, 14, 14, 14, 14, 5, 14, 14, 14, 14, 14, 14, 14, 5, 14, 14, 14, 14, 14, 14, 14, 5, 14, 14, 14, 14, 14, 14, 14, 5, 14, 14, 14, 14, 14, 14, 14, 5, 14, 14, 14, 14, 14, 14, 14, 5, 14, 14, 14, 14, 14, 14, 14, 5, 14, 14, 14, 14, 14, 14, 14, 5, 14, 14, 14, 14, 14, 14, 14, 5, 14, 14, 14, 14, 14, 14, 14, 5, 14, 14, 14, 14, 14, 14, 14, 5, 14, 14, 14, 14, 14, 14, 14, 5, 14, 14, 14, 14, 14, 14, 14, 5, 14, 14, 14, 14, 14, 14, 14, 5, 14, 14, 14, 14, 14, 14, 14, 5, 14, 14, 14, 14, 14, 14, 14, 5, 14, 14, 14, 14, 14, 14, 14, 12, 13, 14, 14, 14, 14, 14, 14, 16, 16, 14, 14, 14, 14, 14, 14, 14, 15, 14, 14, 14, 15]
def lT : List Nat := [0, 0, 400, 0, 0, 36, 36, 5, 5, 4, 4, 4, 6, 6, 6, 6, 0, 5, 5, 5, 4, 4, 4, 6, 10, 10, 10, 10, 4, 20, 6, 0, 0, 36, 36, 5, 5, 4, 4, 4, 6, 6, 6, 6, 0, 5, 5, 5, 4, 4, 4, 6, 0, 400, 400, 0, 64, 0, 0, 5, 5, 6000, 6000, 0, 112, 3913, 0, 100, 0, 5, 5, 5, 4, 4, 4, 6, 0, 0, 36, 36, 5, 5, 4, 4, 4, 6, 6, 6, 6, 0, 5, 5, 5, 4, 4, 4, 6, 10, 10, 10, 10, 0, 0, 36, 36, 5, 5, 4, 4, 4, 6, 6, 6, 6, 0, 5, 5, 5, 4, 4, 4, 6, 10, 10, 10, 10, 0, 0, 36, 36, 5, 5, 4, 4, 4, 6, 6, 6, 6, 0, 5, 5, 5, 4, 4, 4, 6, 10, 10, 10, 10, 0, 0, 36, 36, 5, 5, 4, 4, 4, 6, 6, 6, 6, 0, 5, 5, 5, 4, 4, 4, 6, 10, 10, 10, 10, 0, 5, 5, 5, 4, 4, 4, 6, 0, 5, 5, 5, 4, 4, 4, 6, 0, 5, 5, 5, 4, 4, 4, 6, 0, 5, 5, 5, 4, 4, 4, 6, 0, 5, 5, 5, 4, 4, 4, 6, 0, 5, 5, 5, 4, 4, 4, 6, 0, 5, 5, 5, 4, 4, 4, 6, 0, 5, 5, 5, 4, 4, 4, 6, 0, 5, 5, 5, 4, 4, 4, 6, 0, 5, 5, 5, 4, 4, 4, 6, 0, 5, 5, 5, 4, 4, 4, 6, 0, 5, 5, 5, 4, 4, 4, 6, 0, 5, 5, 5, 4, 4, 4, 6, 0, 5, 5, 5, 4, 4, 4, 6, 0, 5, 5, 5, 4, 4, 4, 6, 0, 5, 5, 5, 4, 4, 4, 6, 0, 5, 5, 5, 4, 4, 4, 6, 0, 5, 5, 5, 4, 4, 4, 6, 0, 5, 5, 5, 4, 4, 4, 6, 0, 5, 5, 5, 4, 4, 4, 6, 0, 400, 2400, 7, 288, 6, 117, 400, 64, 10, 158, 1140, 57, 6, 6, 5, 3913, 3913, 632, 4, 4, 4]
def Shp (S : Sh) : Prop := 358 ≤ S.1 ∧ ∀ a : Nat, a < 358 → S.2.1 a = kT.getD a 0 ∧ S.2.2 a = lT.getD a 0
theorem Shp.k {S : Sh} (h : Shp S) (a : Nat) {ci : Nat} (ha : a < 358) (hk : kT.getD a 0 = ci) : isK S (a : Int) ci := ⟨Int.natCast_nonneg a, by have := h.1; omega, by rw [(h.2 a ha).1]; exact hk⟩
theorem Shp.l {S : Sh} (h : Shp S) (a : Nat) {n : Nat} (ha : a < 358) (hk : lT.getD a 0 = n) : S.2.2 (a : Int) = n := by rw [(h.2 a ha).2]; exact hk
def RfM (M : Mm) : Prop := M 336 0 = 337 ∧ M 336 3 = 338 ∧ M 336 4 = 339 ∧ M 336 5 = 340 ∧ M 336 6 = 341 ∧ M 336 7 = 342 ∧ M 336 15 = 343 ∧ M 336 17 = 344 ∧ M 336 19 = 345 ∧ M 336 20 = 346 ∧ M 336 24 = 347 ∧ M 336 26 = 348 ∧ M 336 27 = 349 ∧ M 336 28 = 350 ∧ M 336 30 = 351 ∧ M 336 31 = 352 ∧ M 336 32 = 353 ∧ M 336 34 = 354 ∧ M 336 35 = 355 ∧ M 336 36 = 356 ∧ M 336 37 = 357
theorem RfM.f0 {M : Mm} (h : RfM M) : M 336 0 = 337 := h.1
theorem RfM.f3 {M : Mm} (h : RfM M) : M 336 3 = 338 := h.2.1
theorem RfM.f4 {M : Mm} (h : RfM M) : M 336 4 = 339 := h.2.2.1
theorem RfM.f5 {M : Mm} (h : RfM M) : M 336 5 = 340 := h.2.2.2.1
theorem RfM.f6 {M : Mm} (h : RfM M) : M 336 6 = 341 := h.2.2.2.2.1
theorem RfM.f7 {M : Mm} (h : RfM M) : M 336 7 = 342 := h.2.2.2.2.2.1
theorem RfM.f15 {M : Mm} (h : RfM M) : M 336 15 = 343 := h.2.2.2.2.2.2.1
theorem RfM.f17 {M : Mm} (h : RfM M) : M 336 17 = 344 := h.2.2.2.2.2.2.2.1
theorem RfM.f19 {M : Mm} (h : RfM M) : M 336 19 = 345 := h.2.2.2.2.2.2.2.2.1
theorem RfM.f20 {M : Mm} (h : RfM M) : M 336 20 = 346 := h.2.2.2.2.2.2.2.2.2.1
theorem RfM.f24 {M : Mm} (h : RfM M) : M 336 24 = 347 := h.2.2.2.2.2.2.2.2.2.2.1
theorem RfM.f26 {M : Mm} (h : RfM M) : M 336 26 = 348 := h.2.2.2.2.2.2.2.2.2.2.2.1
theorem Shp.k336 {S : Sh} (h : Shp S) : isK S 336 12 := h.k 336 (by decide) (by decide +kernel)
theorem Shp.k337 {S : Sh} (h : Shp S) : isK S 337 13 := h.k 337 (by decide) (by decide +kernel)
theorem Shp.l337 {S : Sh} (h : Shp S) : S.2.2 337 = 400 := h.l 337 (by decide) (by decide +kernel)
theorem Shp.k338 {S : Sh} (h : Shp S) : isK S 338 14 := h.k 338 (by decide) (by decide +kernel)
theorem Shp.l338 {S : Sh} (h : Shp S) : S.2.2 338 = 2400 := h.l 338 (by decide) (by decide +kernel)
theorem Shp.k339 {S : Sh} (h : Shp S) : isK S 339 14 := h.k 339 (by decide) (by decide +kernel)
theorem Shp.l339 {S : Sh} (h : Shp S) : S.2.2 339 = 7 := h.l 339 (by decide) (by decide +kernel)
theorem Shp.k340 {S : Sh} (h : Shp S) : isK S 340 14 := h.k 340 (by decide) (by decide +kernel)
theorem Shp.l340 {S : Sh} (h : Shp S) : S.2.2 340 = 288 := h.l 340 (by decide) (by decide +kernel)
theorem Shp.k341 {S : Sh} (h : Shp S) : isK S 341 14 := h.k 341 (by decide) (by decide +kernel)
theorem Shp.l341 {S : Sh} (h : Shp S) : S.2.2 341 = 6 := h.l 341 (by decide) (by decide +kernel)
theorem Shp.k342 {S : Sh} (h : Shp S) : isK S 342 14 := h.k 342 (by decide) (by decide +kernel)
theorem Shp.l342 {S : Sh} (h : Shp S) : S.2.2 342 = 117 := h.l 342 (by decide) (by decide +kernel)
theorem Shp.k343 {S : Sh} (h : Shp S) : isK S 343 14 := h.k 343 (by decide) (by decide +kernel)
theorem Shp.l343 {S : Sh} (h : Shp S) : S.2.2 343 = 400 := h.l 343 (by decide) (by decide +kernel)
theorem Shp.k344 {S : Sh} (h : Shp S) : isK S 344 16 := h.k 344 (by decide) (by decide +kernel)
theorem Shp.l344 {S : Sh} (h : Shp S) : S.2.2 344 = 64 := h.l 344 (by decide) (by decide +kernel)
theorem Shp.k345 {S : Sh} (h : Shp S) : isK S 345 16 := h.k 345 (by decide) (by decide +kernel)
theorem Shp.l345 {S : Sh} (h : Shp S) : S.2.2 345 = 10 := h.l 345 (by decide) (by decide +kernel)
theorem Shp.k346 {S : Sh} (h : Shp S) : isK S 346 14 := h.k 346 (by decide) (by decide +kernel)
theorem Shp.l346 {S : Sh} (h : Shp S) : S.2.2 346 = 158 := h.l 346 (by decide) (by decide +kernel)
theorem Shp.k347 {S : Sh} (h : Shp S) : isK S 347 14 := h.k 347 (by decide) (by decide +kernel)
theorem Shp.l347 {S : Sh} (h : Shp S) : S.2.2 347 = 1140 := h.l 347 (by decide) (by decide +kernel)
theorem Shp.k348 {S : Sh} (h : Shp S) : isK S 348 14 := h.k 348 (by decide) (by decide +kernel)
theorem Shp.l348 {S : Sh} (h : Shp S) : S.2.2 348 = 57 := h.l 348 (by decide) (by decide +kernel)
theorem Shp.k349 {S : Sh} (h : Shp S) : isK S 349 14 := h.k 349 (by decide) (by decide +kernel)
theorem Shp.l349 {S : Sh} (h : Shp S) : S.2.2 349 = 6 := h.l 349 (by decide) (by decide +kernel)
theorem Shp.k350 {S : Sh} (h : Shp S) : isK S 350 14 := h.k 350 (by decide) (by decide +kernel)
theorem Shp.l350 {S : Sh} (h : Shp S) : S.2.2 350 = 6 := h.l 350 (by decide) (by decide +kernel)
theorem Shp.k351 {S : Sh} (h : Shp S) : isK S 351 14 := h.k 351 (by decide) (by decide +kernel)
theorem Shp.l351 {S : Sh} (h : Shp S) : S.2.2 351 = 5 := h.l 351 (by decide) (by decide +kernel)
theorem Shp.k352 {S : Sh} (h : Shp S) : isK S 352 14 := h.k 352 (by decide) (by decide +kernel)
theorem Shp.l352 {S : Sh} (h : Shp S) : S.2.2 352 = 3913 := h.l 352 (by decide) (by decide +kernel)
theorem Shp.k353 {S : Sh} (h : Shp S) : isK S 353 15 := h.k 353 (by decide) (by decide +kernel)
theorem Shp.l353 {S : Sh} (h : Shp S) : S.2.2 353 = 3913 := h.l 353 (by decide) (by decide +kernel)
theorem Shp.k354 {S : Sh} (h : Shp S) : isK S 354 14 := h.k 354 (by decide) (by decide +kernel)
theorem Shp.l354 {S : Sh} (h : Shp S) : S.2.2 354 = 632 := h.l 354 (by decide) (by decide +kernel)
theorem Shp.k355 {S : Sh} (h : Shp S) : isK S 355 14 := h.k 355 (by decide) (by decide +kernel)
theorem Shp.l355 {S : Sh} (h : Shp S) : S.2.2 355 = 4 := h.l 355 (by decide) (by decide +kernel)
theorem Shp.k356 {S : Sh} (h : Shp S) : isK S 356 14 := h.k 356 (by decide) (by decide +kernel)
theorem Shp.l356 {S : Sh} (h : Shp S) : S.2.2 356 = 4 := h.l 356 (by decide) (by decide +kernel)
theorem Shp.k357 {S : Sh} (h : Shp S) : isK S 357 15 := h.k 357 (by decide) (by decide +kernel)
theorem Shp.l357 {S : Sh} (h : Shp S) : S.2.2 357 = 4 := h.l 357 (by decide) (by decide +kernel)
end
section
theorem nc (n : Nat) : ((no_index (@OfNat.ofNat Nat n (instOfNatNat n)) : Nat) : Int) = @OfNat.ofNat Int n (@instOfNat n) := rfl
end
section
theorem lowa : ∀ s : Nat, s < 1024 → 0 < s → 0 ≤ iAnd (s : Int) ((s : Int) - 1) ∧ iAnd (s : Int) ((s : Int) - 1) < s := by decide +kernel
theorem s_X12_bits {S : Sh} {M : Mm} {K : Int → Mm → Prop} {a : Int} (ha : 0 ≤ a ∧ a < 1024) (h : ∀ r, 0 ≤ r ∧ r ≤ 1024 → K r M) : wp_X12_bits S M a K := by
  have key : ∀ (n : Nat) (u1 u2 : Int), 0 ≤ u1 → 0 ≤ u2 ∧ u2 < 1024 → u1 + u2 ≤ 1024 → u2 < n → wp_X12_bits_4 S K n u1 u2 M := by
    intro n
    induction n with
    | zero => intro u1 u2 _ h2 _ h3; exact absurd h3 (by omega)
    | succ n ih =>
      intro u1 u2 h1 h2 h3 h4
      simp (disch := omega) only [wp_X12_bits_4, wC, wIf, wA, wS, wO, w32_id]
      refine ⟨fun _ => h u1 (by omega), fun hne => ?_⟩
      have q := lowa u2.toNat (by omega) (by omega)
      rw [Int.toNat_of_nonneg h2.1] at q
      exact ih _ _ (by omega) (by omega) (by omega) (by omega)
  exact ⟨1024, key 1024 0 a (by omega) ha (by omega) (by omega)⟩
end
section
/-- the least and the most that each place of said may hold (place 7, the HOUR, apart: at most hm) -/
def bL : List Int := [0, 0, 0, 0, 0, 0, 0, 0, -2147483648, 0, 0, 0, 0, 0, 0, 0, 0, 0, 0, 0, 0, 0, 0, 0, 0, 0, 0, 0, 0, 0, 0, 0, 0, 0, 0, 0, -1, 0, 0, 0, -1, 0, 0, 0, -1, 0, 0, 0, -1, 0, 0, -2147483648, -2147483648, -2147483648, -2147483648, -2147483648, -2147483648, 0, 0, 0, 0, 0, 0, 0, 0, 0, 0, 0, 0, 0, 0, 0, 0, 0, 0, 0, 0, 0, 0, 0, 0, 0, 0, 0, 0, 0, 0, 0, 0, 0, 0, 0, 0, 0, 0, 0, 0, 0, 0, 0, 0, 0, 0, 0, 0, 0, 0, 0, 0, 0, 0, 0, 0, 0, 0, 0, 0, 0, 0, 0, 0, 0, 0, 0, 0, 0, 0, 0, 0, 0, 0, 0, 0, 0, 0, 0, 0, 0, 0, 0, 0, 0, 0, 0, 0, 0, 0, 0, 0, 0, 0, 0, 0, 0, 0, 0, 0, 0]
def bH : List Int := [6, 9, 99, 8, 5, 4, 6, 2000, 2147483647, 4, 5, 5, 99, 20, 5, 5, 5, 99, 20, 5, 5, 5, 99, 20, 5, 5, 5, 99, 20, 5, 5, 5, 99, 20, 5, 5, 4, 999, 1, 5, 4, 999, 1, 5, 4, 999, 1, 5, 4, 999, 1, 2147483647, 2147483647, 2147483647, 2147483647, 2147483647, 2147483647, 5, 5, 5, 5, 5, 5, 5, 5, 5, 5, 5, 5, 5, 5, 5, 5, 5, 5, 5, 5, 5, 5, 5, 5, 99, 99, 5, 99, 99, 5, 99, 99, 5, 99, 99, 5, 5, 99, 99, 50, 5, 99, 99, 50, 5, 99, 99, 50, 5, 99, 99, 50, 5, 99, 99, 50, 5, 99, 99, 50, 999, 20, 99, 999, 999, 20, 99, 999, 999, 20, 99, 999, 999, 20, 99, 999, 999, 20, 99, 999, 999, 20, 99, 999, 999, 20, 99, 999, 999, 20, 99, 999, 999, 20, 99, 999, 999, 20, 99, 999, 10]
def BS (f : Int → Int) : Prop := ∀ i : Nat, i < 158 → bL.getD i 0 ≤ f i ∧ f i ≤ bH.getD i 0
theorem BS.at {f : Int → Int} (h : BS f) {i : Int} (hi : 0 ≤ i ∧ i < 158) : bL.getD i.toNat 0 ≤ f i ∧ f i ≤ bH.getD i.toNat 0 := by
  have h1 := h i.toNat (by omega)
  rw [Int.toNat_of_nonneg hi.1] at h1
  exact h1
theorem BS.c0 {f : Int → Int} (h : BS f) : 0 ≤ f 0 ∧ f 0 ≤ 6 := h 0 (by decide)
theorem BS.c1 {f : Int → Int} (h : BS f) : 0 ≤ f 1 ∧ f 1 ≤ 9 := h 1 (by decide)
theorem BS.c2 {f : Int → Int} (h : BS f) : 0 ≤ f 2 ∧ f 2 ≤ 99 := h 2 (by decide)
theorem BS.c3 {f : Int → Int} (h : BS f) : 0 ≤ f 3 ∧ f 3 ≤ 8 := h 3 (by decide)
theorem BS.c4 {f : Int → Int} (h : BS f) : 0 ≤ f 4 ∧ f 4 ≤ 5 := h 4 (by decide)
theorem BS.c5 {f : Int → Int} (h : BS f) : 0 ≤ f 5 ∧ f 5 ≤ 4 := h 5 (by decide)
theorem BS.c6 {f : Int → Int} (h : BS f) : 0 ≤ f 6 ∧ f 6 ≤ 6 := h 6 (by decide)
theorem BS.c7 {f : Int → Int} (h : BS f) : 0 ≤ f 7 ∧ f 7 ≤ 2000 := h 7 (by decide)
theorem BS.c8 {f : Int → Int} (h : BS f) : -2147483648 ≤ f 8 ∧ f 8 ≤ 2147483647 := h 8 (by decide)
theorem BS.c9 {f : Int → Int} (h : BS f) : 0 ≤ f 9 ∧ f 9 ≤ 4 := h 9 (by decide)
theorem BS.h0 {f : Int → Int} (h : BS f) {a : Int} (ha : 0 ≤ a ∧ a ≤ 4) : 0 ≤ f (10 + 5 * a + 0) ∧ f (10 + 5 * a + 0) ≤ 5 := by
  rcases (show a = 0 ∨ a = 1 ∨ a = 2 ∨ a = 3 ∨ a = 4 by omega) with rfl | rfl | rfl | rfl | rfl
  · exact h 10 (by decide)
  · exact h 15 (by decide)
  · exact h 20 (by decide)
  · exact h 25 (by decide)
  · exact h 30 (by decide)
theorem BS.h1 {f : Int → Int} (h : BS f) {a : Int} (ha : 0 ≤ a ∧ a ≤ 4) : 0 ≤ f (10 + 5 * a + 1) ∧ f (10 + 5 * a + 1) ≤ 5 := by
  rcases (show a = 0 ∨ a = 1 ∨ a = 2 ∨ a = 3 ∨ a = 4 by omega) with rfl | rfl | rfl | rfl | rfl
  · exact h 11 (by decide)
  · exact h 16 (by decide)
  · exact h 21 (by decide)
  · exact h 26 (by decide)
  · exact h 31 (by decide)
theorem BS.h2 {f : Int → Int} (h : BS f) {a : Int} (ha : 0 ≤ a ∧ a ≤ 4) : 0 ≤ f (10 + 5 * a + 2) ∧ f (10 + 5 * a + 2) ≤ 99 := by
  rcases (show a = 0 ∨ a = 1 ∨ a = 2 ∨ a = 3 ∨ a = 4 by omega) with rfl | rfl | rfl | rfl | rfl
  · exact h 12 (by decide)
  · exact h 17 (by decide)
  · exact h 22 (by decide)
  · exact h 27 (by decide)
  · exact h 32 (by decide)
theorem BS.h3 {f : Int → Int} (h : BS f) {a : Int} (ha : 0 ≤ a ∧ a ≤ 4) : 0 ≤ f (10 + 5 * a + 3) ∧ f (10 + 5 * a + 3) ≤ 20 := by
  rcases (show a = 0 ∨ a = 1 ∨ a = 2 ∨ a = 3 ∨ a = 4 by omega) with rfl | rfl | rfl | rfl | rfl
  · exact h 13 (by decide)
  · exact h 18 (by decide)
  · exact h 23 (by decide)
  · exact h 28 (by decide)
  · exact h 33 (by decide)
theorem BS.h4 {f : Int → Int} (h : BS f) {a : Int} (ha : 0 ≤ a ∧ a ≤ 4) : 0 ≤ f (10 + 5 * a + 4) ∧ f (10 + 5 * a + 4) ≤ 5 := by
  rcases (show a = 0 ∨ a = 1 ∨ a = 2 ∨ a = 3 ∨ a = 4 by omega) with rfl | rfl | rfl | rfl | rfl
  · exact h 14 (by decide)
  · exact h 19 (by decide)
  · exact h 24 (by decide)
  · exact h 29 (by decide)
  · exact h 34 (by decide)
theorem BS.j0 {f : Int → Int} (h : BS f) {a : Int} (ha : 0 ≤ a ∧ a ≤ 3) : 0 ≤ f (35 + 4 * a + 0) ∧ f (35 + 4 * a + 0) ≤ 5 := by
  rcases (show a = 0 ∨ a = 1 ∨ a = 2 ∨ a = 3 by omega) with rfl | rfl | rfl | rfl
  · exact h 35 (by decide)
  · exact h 39 (by decide)
  · exact h 43 (by decide)
  · exact h 47 (by decide)
theorem BS.j1 {f : Int → Int} (h : BS f) {a : Int} (ha : 0 ≤ a ∧ a ≤ 3) : -1 ≤ f (35 + 4 * a + 1) ∧ f (35 + 4 * a + 1) ≤ 4 := by
  rcases (show a = 0 ∨ a = 1 ∨ a = 2 ∨ a = 3 by omega) with rfl | rfl | rfl | rfl
  · exact h 36 (by decide)
  · exact h 40 (by decide)
  · exact h 44 (by decide)
  · exact h 48 (by decide)
theorem BS.j2 {f : Int → Int} (h : BS f) {a : Int} (ha : 0 ≤ a ∧ a ≤ 3) : 0 ≤ f (35 + 4 * a + 2) ∧ f (35 + 4 * a + 2) ≤ 999 := by
  rcases (show a = 0 ∨ a = 1 ∨ a = 2 ∨ a = 3 by omega) with rfl | rfl | rfl | rfl
  · exact h 37 (by decide)
  · exact h 41 (by decide)
  · exact h 45 (by decide)
  · exact h 49 (by decide)
theorem BS.j3 {f : Int → Int} (h : BS f) {a : Int} (ha : 0 ≤ a ∧ a ≤ 3) : 0 ≤ f (35 + 4 * a + 3) ∧ f (35 + 4 * a + 3) ≤ 1 := by
  rcases (show a = 0 ∨ a = 1 ∨ a = 2 ∨ a = 3 by omega) with rfl | rfl | rfl | rfl
  · exact h 38 (by decide)
  · exact h 42 (by decide)
  · exact h 46 (by decide)
  · exact h 50 (by decide)
theorem BS.r0 {f : Int → Int} (h : BS f) {a : Int} (ha : 0 ≤ a ∧ a ≤ 7) : 0 ≤ f (57 + 3 * a + 0) ∧ f (57 + 3 * a + 0) ≤ 5 := by
  rcases (show a = 0 ∨ a = 1 ∨ a = 2 ∨ a = 3 ∨ a = 4 ∨ a = 5 ∨ a = 6 ∨ a = 7 by omega) with rfl | rfl | rfl | rfl | rfl | rfl | rfl | rfl
  · exact h 57 (by decide)
  · exact h 60 (by decide)
  · exact h 63 (by decide)
  · exact h 66 (by decide)
  · exact h 69 (by decide)
  · exact h 72 (by decide)
  · exact h 75 (by decide)
  · exact h 78 (by decide)
theorem BS.r1 {f : Int → Int} (h : BS f) {a : Int} (ha : 0 ≤ a ∧ a ≤ 7) : 0 ≤ f (57 + 3 * a + 1) ∧ f (57 + 3 * a + 1) ≤ 5 := by
  rcases (show a = 0 ∨ a = 1 ∨ a = 2 ∨ a = 3 ∨ a = 4 ∨ a = 5 ∨ a = 6 ∨ a = 7 by omega) with rfl | rfl | rfl | rfl | rfl | rfl | rfl | rfl
  · exact h 58 (by decide)
  · exact h 61 (by decide)
  · exact h 64 (by decide)
  · exact h 67 (by decide)
  · exact h 70 (by decide)
  · exact h 73 (by decide)
  · exact h 76 (by decide)
  · exact h 79 (by decide)
theorem BS.r2 {f : Int → Int} (h : BS f) {a : Int} (ha : 0 ≤ a ∧ a ≤ 7) : 0 ≤ f (57 + 3 * a + 2) ∧ f (57 + 3 * a + 2) ≤ 5 := by
  rcases (show a = 0 ∨ a = 1 ∨ a = 2 ∨ a = 3 ∨ a = 4 ∨ a = 5 ∨ a = 6 ∨ a = 7 by omega) with rfl | rfl | rfl | rfl | rfl | rfl | rfl | rfl
  · exact h 59 (by decide)
  · exact h 62 (by decide)
  · exact h 65 (by decide)
  · exact h 68 (by decide)
  · exact h 71 (by decide)
  · exact h 74 (by decide)
  · exact h 77 (by decide)
  · exact h 80 (by decide)
theorem BS.t0 {f : Int → Int} (h : BS f) {a : Int} (ha : 0 ≤ a ∧ a ≤ 3) : 0 ≤ f (81 + 3 * a + 0) ∧ f (81 + 3 * a + 0) ≤ 99 := by
  rcases (show a = 0 ∨ a = 1 ∨ a = 2 ∨ a = 3 by omega) with rfl | rfl | rfl | rfl
  · exact h 81 (by decide)
  · exact h 84 (by decide)
  · exact h 87 (by decide)
  · exact h 90 (by decide)
theorem BS.t1 {f : Int → Int} (h : BS f) {a : Int} (ha : 0 ≤ a ∧ a ≤ 3) : 0 ≤ f (81 + 3 * a + 1) ∧ f (81 + 3 * a + 1) ≤ 99 := by
  rcases (show a = 0 ∨ a = 1 ∨ a = 2 ∨ a = 3 by omega) with rfl | rfl | rfl | rfl
  · exact h 82 (by decide)
  · exact h 85 (by decide)
  · exact h 88 (by decide)
  · exact h 91 (by decide)
theorem BS.t2 {f : Int → Int} (h : BS f) {a : Int} (ha : 0 ≤ a ∧ a ≤ 3) : 0 ≤ f (81 + 3 * a + 2) ∧ f (81 + 3 * a + 2) ≤ 5 := by
  rcases (show a = 0 ∨ a = 1 ∨ a = 2 ∨ a = 3 by omega) with rfl | rfl | rfl | rfl
  · exact h 83 (by decide)
  · exact h 86 (by decide)
  · exact h 89 (by decide)
  · exact h 92 (by decide)
theorem BS.w0 {f : Int → Int} (h : BS f) {a : Int} (ha : 0 ≤ a ∧ a ≤ 5) : 0 ≤ f (93 + 4 * a + 0) ∧ f (93 + 4 * a + 0) ≤ 5 := by
  rcases (show a = 0 ∨ a = 1 ∨ a = 2 ∨ a = 3 ∨ a = 4 ∨ a = 5 by omega) with rfl | rfl | rfl | rfl | rfl | rfl
  · exact h 93 (by decide)
  · exact h 97 (by decide)
  · exact h 101 (by decide)
  · exact h 105 (by decide)
  · exact h 109 (by decide)
  · exact h 113 (by decide)
theorem BS.w1 {f : Int → Int} (h : BS f) {a : Int} (ha : 0 ≤ a ∧ a ≤ 5) : 0 ≤ f (93 + 4 * a + 1) ∧ f (93 + 4 * a + 1) ≤ 99 := by
  rcases (show a = 0 ∨ a = 1 ∨ a = 2 ∨ a = 3 ∨ a = 4 ∨ a = 5 by omega) with rfl | rfl | rfl | rfl | rfl | rfl
  · exact h 94 (by decide)
  · exact h 98 (by decide)
  · exact h 102 (by decide)
  · exact h 106 (by decide)
  · exact h 110 (by decide)
  · exact h 114 (by decide)
theorem BS.w2 {f : Int → Int} (h : BS f) {a : Int} (ha : 0 ≤ a ∧ a ≤ 5) : 0 ≤ f (93 + 4 * a + 2) ∧ f (93 + 4 * a + 2) ≤ 99 := by
  rcases (show a = 0 ∨ a = 1 ∨ a = 2 ∨ a = 3 ∨ a = 4 ∨ a = 5 by omega) with rfl | rfl | rfl | rfl | rfl | rfl
  · exact h 95 (by decide)
  · exact h 99 (by decide)
  · exact h 103 (by decide)
  · exact h 107 (by decide)
  · exact h 111 (by decide)
  · exact h 115 (by decide)
theorem BS.w3 {f : Int → Int} (h : BS f) {a : Int} (ha : 0 ≤ a ∧ a ≤ 5) : 0 ≤ f (93 + 4 * a + 3) ∧ f (93 + 4 * a + 3) ≤ 50 := by
  rcases (show a = 0 ∨ a = 1 ∨ a = 2 ∨ a = 3 ∨ a = 4 ∨ a = 5 by omega) with rfl | rfl | rfl | rfl | rfl | rfl
  · exact h 96 (by decide)
  · exact h 100 (by decide)
  · exact h 104 (by decide)
  · exact h 108 (by decide)
  · exact h 112 (by decide)
  · exact h 116 (by decide)
theorem BS.e0 {f : Int → Int} (h : BS f) {a : Int} (ha : 0 ≤ a ∧ a ≤ 9) : 0 ≤ f (117 + 4 * a + 0) ∧ f (117 + 4 * a + 0) ≤ 999 := by
  rcases (show a = 0 ∨ a = 1 ∨ a = 2 ∨ a = 3 ∨ a = 4 ∨ a = 5 ∨ a = 6 ∨ a = 7 ∨ a = 8 ∨ a = 9 by omega) with rfl | rfl | rfl | rfl | rfl | rfl | rfl | rfl | rfl | rfl
  · exact h 117 (by decide)
  · exact h 121 (by decide)
  · exact h 125 (by decide)
  · exact h 129 (by decide)
  · exact h 133 (by decide)
  · exact h 137 (by decide)
  · exact h 141 (by decide)
  · exact h 145 (by decide)
  · exact h 149 (by decide)
  · exact h 153 (by decide)
theorem BS.e1 {f : Int → Int} (h : BS f) {a : Int} (ha : 0 ≤ a ∧ a ≤ 9) : 0 ≤ f (117 + 4 * a + 1) ∧ f (117 + 4 * a + 1) ≤ 20 := by
  rcases (show a = 0 ∨ a = 1 ∨ a = 2 ∨ a = 3 ∨ a = 4 ∨ a = 5 ∨ a = 6 ∨ a = 7 ∨ a = 8 ∨ a = 9 by omega) with rfl | rfl | rfl | rfl | rfl | rfl | rfl | rfl | rfl | rfl
  · exact h 118 (by decide)
  · exact h 122 (by decide)
  · exact h 126 (by decide)
  · exact h 130 (by decide)
  · exact h 134 (by decide)
  · exact h 138 (by decide)
  · exact h 142 (by decide)
  · exact h 146 (by decide)
  · exact h 150 (by decide)
  · exact h 154 (by decide)
theorem BS.e2 {f : Int → Int} (h : BS f) {a : Int} (ha : 0 ≤ a ∧ a ≤ 9) : 0 ≤ f (117 + 4 * a + 2) ∧ f (117 + 4 * a + 2) ≤ 99 := by
  rcases (show a = 0 ∨ a = 1 ∨ a = 2 ∨ a = 3 ∨ a = 4 ∨ a = 5 ∨ a = 6 ∨ a = 7 ∨ a = 8 ∨ a = 9 by omega) with rfl | rfl | rfl | rfl | rfl | rfl | rfl | rfl | rfl | rfl
  · exact h 119 (by decide)
  · exact h 123 (by decide)
  · exact h 127 (by decide)
  · exact h 131 (by decide)
  · exact h 135 (by decide)
  · exact h 139 (by decide)
  · exact h 143 (by decide)
  · exact h 147 (by decide)
  · exact h 151 (by decide)
  · exact h 155 (by decide)
theorem BS.e3 {f : Int → Int} (h : BS f) {a : Int} (ha : 0 ≤ a ∧ a ≤ 9) : 0 ≤ f (117 + 4 * a + 3) ∧ f (117 + 4 * a + 3) ≤ 999 := by
  rcases (show a = 0 ∨ a = 1 ∨ a = 2 ∨ a = 3 ∨ a = 4 ∨ a = 5 ∨ a = 6 ∨ a = 7 ∨ a = 8 ∨ a = 9 by omega) with rfl | rfl | rfl | rfl | rfl | rfl | rfl | rfl | rfl | rfl
  · exact h 120 (by decide)
  · exact h 124 (by decide)
  · exact h 128 (by decide)
  · exact h 132 (by decide)
  · exact h 136 (by decide)
  · exact h 140 (by decide)
  · exact h 144 (by decide)
  · exact h 148 (by decide)
  · exact h 152 (by decide)
  · exact h 156 (by decide)
/-- one write that keeps the bounds -/
theorem BS.put {f : Int → Int} (h : BS f) {i v : Int} (hv : bL.getD i.toNat 0 ≤ v ∧ v ≤ bH.getD i.toNat 0) : BS (fun j => if j = i then v else f j) := by
  intro k hk
  by_cases e : (k : Int) = i
  · subst e
    simp only [if_true]
    rw [Int.toNat_natCast] at hv
    exact hv
  · simp only [if_neg e]
    exact h k hk
end
section
theorem i2b_r (a : Int) : -128 ≤ i2b a ∧ i2b a ≤ 127 := by
  unfold i2b
  rw [Int8.toInt_toInt32]
  have h1 := Int8.le_toInt (Int32.ofInt a).toInt8
  have h2 := Int8.toInt_lt (Int32.ofInt a).toInt8
  omega
/-- the TAPE's cells alone were written -/
def sameT (M M1 : Mm) : Prop := ∀ a j : Int, ¬ a = 337 → ¬ (a = 336 ∧ j = 1) → M1 a j = M a j
theorem sameT.rf {M : Mm} : sameT M M := fun _ _ _ _ => rfl
theorem sameT.tr {M M1 M2 : Mm} (h : sameT M M1) (h2 : sameT M1 M2) : sameT M M2 := fun a j ha hj => (h2 a j ha hj).trans (h a j ha hj)
theorem sameT.R {M M1 : Mm} (h : sameT M M1) (hR : RfM M) : RfM M1 := by
  have e : ∀ j : Int, j ≠ 1 → M1 336 j = M 336 j := fun j hj => h 336 j (by decide) (fun q => hj q.2)
  unfold RfM at hR ⊢
  simp only [e 0 (by decide), e 3 (by decide), e 4 (by decide), e 5 (by decide), e 6 (by decide), e 7 (by decide), e 15 (by decide), e 17 (by decide), e 19 (by decide), e 20 (by decide), e 24 (by decide), e 26 (by decide), e 27 (by decide), e 28 (by decide), e 30 (by decide), e 31 (by decide), e 32 (by decide), e 34 (by decide), e 35 (by decide), e 36 (by decide), e 37 (by decide)]
  exact hR
end
section
/-- cell x alone was written -/
def sameC (x : Int) (M M1 : Mm) : Prop := ∀ a j : Int, ¬ a = x → M1 a j = M a j
theorem s_X12_keeps {S : Sh} {M : Mm} {K : Mm → Prop} (hS : Shp S) (hR : RfM M) (h : ∀ M1, sameC 348 M M1 → (∀ j : Int, 0 ≤ j ∧ j < 57 → M1 348 j = M 346 j) → K M1) : wp_X12_keeps S M 336 K := by
  have key : ∀ (n : Nat) (k : Int) (M2 : Mm), 0 ≤ k ∧ k ≤ 57 → 58 - k ≤ n → sameC 348 M M2 → (∀ j : Int, 0 ≤ j ∧ j < k → M2 348 j = M 346 j) → wp_X12_keeps_2 S K n 336 k M2 := by
    intro n
    induction n with
    | zero => intro k M2 hk h2; exact absurd h2 (by omega)
    | succ n ih =>
      intro k M2 hk hn hs hc
      have f26 : M2 336 26 = 348 := (hs 336 26 (by decide)).trans hR.f26
      have f20 : M2 336 20 = 346 := (hs 336 20 (by decide)).trans hR.f20
      simp only [wp_X12_keeps_2, wGetR, wGet, wC, wIf, wA, wLd, wSt, nc, f26, f20, hS.k336, hS.k346, hS.l346, hS.k348, hS.l348]
      refine ⟨fun q => h M2 hs (fun j hj => hc j (by omega)), fun q => ⟨trivial, by decide, trivial, by decide, trivial, by omega, trivial, by omega, ?_⟩⟩
      rw [w32_id (by omega) (by omega)]
      refine ih (k + 1) _ (by omega) (by omega) (fun x j hx => ?_) (fun j hj => ?_)
      · rw [up_ne (fun z => hx z.1)]; exact hs x j hx
      · by_cases e : j = k
        · subst e
          rw [up_at]
          exact hs 346 j (by decide)
        · rw [up_ne (fun z => e z.2)]
          exact hc j (by omega)
  exact ⟨58, key 58 0 M (by omega) (by omega) (fun _ _ _ => rfl) (fun j hj => absurd hj (by omega))⟩
end
section
/-- each cell: the bounds of its places ((1, 0): none) -/
def bT : List (List (Int × Int)) := [[(.ofNat 1, .ofNat 1), (.ofNat 3, .ofNat 3), (.ofNat 28, .ofNat 28), (.ofNat 29, .ofNat 29), (.ofNat 0, .ofNat 19), (.ofNat 0, .ofNat 20), (.ofNat 30, .ofNat 30), (.ofNat 0, .ofNat 6), (.ofNat 31, .ofNat 31), (.ofNat 52, .ofNat 52), (.ofNat 55, .ofNat 55), (.ofNat 57, .ofNat 57), (.ofNat 58, .ofNat 58), (.ofNat 63, .ofNat 63), (.ofNat 66, .ofNat 66), (.ofNat 68, .ofNat 68)], [(.ofNat 2, .ofNat 2), (.ofNat 0, .ofNat 400), (.ofNat 0, .ofNat 400), (.ofNat 0, .ofNat 400), (.ofNat 0, .ofNat 4000)], [(.negSucc 127, .ofNat 127)], [(.ofNat 4, .ofNat 4), (.ofNat 16, .ofNat 16), (.negSucc 0, .ofNat 5), (.ofNat 0, .ofNat 2147483647), (.ofNat 0, .ofNat 10), (.ofNat 24, .ofNat 24), (.ofNat 25, .ofNat 25), (.ofNat 26, .ofNat 26), (.ofNat 27, .ofNat 27), (.ofNat 0, .ofNat 1)], [(.ofNat 0, .ofNat 6), (.ofNat 0, .ofNat 9), (.ofNat 0, .ofNat 99), (.ofNat 0, .ofNat 8), (.ofNat 0, .ofNat 5), (.ofNat 0, .ofNat 4), (.ofNat 0, .ofNat 4), (.ofNat 0, .ofNat 6), (.ofNat 5, .ofNat 5), (.ofNat 6, .ofNat 6), (.ofNat 7, .ofNat 7), (.ofNat 8, .ofNat 8), (.ofNat 9, .ofNat 9), (.ofNat 10, .ofNat 10), (.ofNat 11, .ofNat 11), (.ofNat 12, .ofNat 12), (.ofNat 13, .ofNat 13), (.ofNat 14, .ofNat 14), (.ofNat 15, .ofNat 15)], [(.ofNat 0, .ofNat 5)], [(.ofNat 0, .ofNat 1000)], [(.ofNat 0, .ofNat 20)], [(.ofNat 0, .ofNat 5)], [(.ofNat 0, .ofNat 99)], [(.ofNat 0, .ofNat 99)], [(.ofNat 0, .ofNat 5)], [(.ofNat 0, .ofNat 5)], [(.ofNat 0, .ofNat 99)], [(.ofNat 0, .ofNat 99)], [(.ofNat 0, .ofNat 50)], [(.ofNat 0, .ofNat 999), (.negSucc 2147483647, .ofNat 2147483647), (.ofNat 17, .ofNat 17), (.ofNat 18, .ofNat 18), (.ofNat 19, .ofNat 19), (.ofNat 20, .ofNat 20), (.ofNat 21, .ofNat 21), (.ofNat 22, .ofNat 22), (.ofNat 23, .ofNat 23)], [(.ofNat 0, .ofNat 5)], [(.ofNat 0, .ofNat 5)], [(.ofNat 0, .ofNat 99)], [(.negSucc 0, .ofNat 5)], [(.negSucc 0, .ofNat 4)], [(.ofNat 0, .ofNat 999)], [(.negSucc 0, .ofNat 999)], [(.ofNat 0, .ofNat 999)], [(.ofNat 0, .ofNat 20)], [(.ofNat 0, .ofNat 99)], [(.ofNat 0, .ofNat 999)], [(.ofNat 76, .ofNat 76), (.ofNat 101, .ofNat 101), (.ofNat 126, .ofNat 126), (.ofNat 151, .ofNat 151)], [(.ofNat 176, .ofNat 176), (.ofNat 184, .ofNat 184), (.ofNat 192, .ofNat 192), (.ofNat 200, .ofNat 200), (.ofNat 208, .ofNat 208), (.ofNat 216, .ofNat 216), (.ofNat 224, .ofNat 224), (.ofNat 232, .ofNat 232), (.ofNat 240, .ofNat 240), (.ofNat 248, .ofNat 248), (.ofNat 256, .ofNat 256), (.ofNat 264, .ofNat 264), (.ofNat 272, .ofNat 272), (.ofNat 280, .ofNat 280), (.ofNat 288, .ofNat 288), (.ofNat 296, .ofNat 296), (.ofNat 304, .ofNat 304), (.ofNat 312, .ofNat 312), (.ofNat 320, .ofNat 320), (.ofNat 328, .ofNat 328)], [(.ofNat 1, .ofNat 0)], [(.ofNat 1, .ofNat 1), (.ofNat 32, .ofNat 32), (.ofNat 44, .ofNat 44)], [(.ofNat 0, .ofNat 6), (.ofNat 0, .ofNat 9), (.ofNat 0, .ofNat 99), (.ofNat 0, .ofNat 8), (.ofNat 0, .ofNat 5), (.ofNat 0, .ofNat 4), (.ofNat 0, .ofNat 4), (.ofNat 0, .ofNat 6), (.ofNat 33, .ofNat 33), (.ofNat 34, .ofNat 34), (.ofNat 35, .ofNat 35), (.ofNat 36, .ofNat 36), (.ofNat 37, .ofNat 37), (.ofNat 38, .ofNat 38), (.ofNat 39, .ofNat 39), (.ofNat 40, .ofNat 40), (.ofNat 41, .ofNat 41), (.ofNat 42, .ofNat 42), (.ofNat 43, .ofNat 43)], [(.ofNat 0, .ofNat 5)], [(.ofNat 0, .ofNat 1000)], [(.ofNat 0, .ofNat 20)], [(.ofNat 0, .ofNat 5)], [(.ofNat 0, .ofNat 99)], [(.ofNat 0, .ofNat 99)], [(.ofNat 0, .ofNat 5)], [(.ofNat 0, .ofNat 5)], [(.ofNat 0, .ofNat 99)], [(.ofNat 0, .ofNat 99)], [(.ofNat 0, .ofNat 50)], [(.ofNat 0, .ofNat 999), (.negSucc 2147483647, .ofNat 2147483647), (.ofNat 45, .ofNat 45), (.ofNat 46, .ofNat 46), (.ofNat 47, .ofNat 47), (.ofNat 48, .ofNat 48), (.ofNat 49, .ofNat 49), (.ofNat 50, .ofNat 50), (.ofNat 51, .ofNat 51)], [(.ofNat 0, .ofNat 5)], [(.ofNat 0, .ofNat 5)], [(.ofNat 0, .ofNat 99)], [(.negSucc 0, .ofNat 5)], [(.negSucc 0, .ofNat 4)], [(.ofNat 0, .ofNat 999)], [(.negSucc 0, .ofNat 999)], [(.ofNat 1, .ofNat 1), (.ofNat 53, .ofNat 53), (.ofNat 0, .ofNat 400), (.ofNat 0, .ofNat 60), (.ofNat 54, .ofNat 54), (.ofNat 0, .ofNat 400), (.negSucc 2147483647, .ofNat 2147483647), (.negSucc 2147483647, .ofNat 2147483647), (.ofNat 0, .ofNat 3)], [(.ofNat 1, .ofNat 0)], [(.ofNat 1, .ofNat 0)], [(.ofNat 4, .ofNat 4), (.ofNat 1, .ofNat 0), (.ofNat 0, .ofNat 1), (.ofNat 56, .ofNat 56), (.ofNat 0, .ofNat 4), (.ofNat 0, .ofNat 3), (.ofNat 0, .ofNat 999), (.ofNat 0, .ofNat 99), (.ofNat 0, .ofNat 999), (.ofNat 0, .ofNat 20), (.ofNat 0, .ofNat 1), (.negSucc 2147483647, .ofNat 2147483647)], [(.ofNat 1, .ofNat 0)], [(.ofNat 55, .ofNat 55), (.ofNat 4, .ofNat 4), (.ofNat 0, .ofNat 2147483647)], [(.ofNat 55, .ofNat 55), (.ofNat 4, .ofNat 4), (.ofNat 59, .ofNat 59), (.ofNat 60, .ofNat 60), (.ofNat 61, .ofNat 61), (.ofNat 62, .ofNat 62), (.ofNat 0, .ofNat 5), (.ofNat 0, .ofNat 3), (.ofNat 0, .ofNat 999), (.negSucc 2147483647, .ofNat 2147483647), (.negSucc 2147483647, .ofNat 2147483647)], [(.ofNat 0, .ofNat 5)], [(.ofNat 0, .ofNat 999)], [(.negSucc 2147483647, .ofNat 2147483647)], [(.negSucc 2147483647, .ofNat 2147483647)], [(.ofNat 4, .ofNat 4), (.ofNat 64, .ofNat 64), (.ofNat 65, .ofNat 65)], [(.negSucc 2147483647, .ofNat 2147483647)], [(.negSucc 2147483647, .ofNat 2147483647)], [(.ofNat 3, .ofNat 3), (.ofNat 55, .ofNat 55), (.ofNat 67, .ofNat 67), (.negSucc 2147483647, .ofNat 2147483647), (.negSucc 2147483647, .ofNat 2147483647)], [(.ofNat 0, .ofNat 999)], [(.ofNat 0, .ofNat 999), (.negSucc 2147483647, .ofNat 2147483647), (.ofNat 69, .ofNat 69), (.ofNat 70, .ofNat 70), (.ofNat 71, .ofNat 71), (.ofNat 72, .ofNat 72), (.ofNat 73, .ofNat 73), (.ofNat 74, .ofNat 74), (.ofNat 75, .ofNat 75)], [(.ofNat 0, .ofNat 5)], [(.ofNat 0, .ofNat 5)], [(.ofNat 0, .ofNat 99)], [(.negSucc 0, .ofNat 5)], [(.negSucc 0, .ofNat 4)], [(.ofNat 0, .ofNat 999)], [(.negSucc 0, .ofNat 999)], [(.ofNat 77, .ofNat 77), (.ofNat 89, .ofNat 89), (.negSucc 0, .ofNat 5), (.ofNat 0, .ofNat 2147483647), (.ofNat 0, .ofNat 10), (.ofNat 97, .ofNat 97), (.ofNat 98, .ofNat 98), (.ofNat 99, .ofNat 99), (.ofNat 100, .ofNat 100), (.ofNat 0, .ofNat 1)], [(.ofNat 0, .ofNat 6), (.ofNat 0, .ofNat 9), (.ofNat 0, .ofNat 99), (.ofNat 0, .ofNat 8), (.ofNat 0, .ofNat 5), (.ofNat 0, .ofNat 4), (.ofNat 0, .ofNat 4), (.ofNat 0, .ofNat 6), (.ofNat 78, .ofNat 78), (.ofNat 79, .ofNat 79), (.ofNat 80, .ofNat 80), (.ofNat 81, .ofNat 81), (.ofNat 82, .ofNat 82), (.ofNat 83, .ofNat 83), (.ofNat 84, .ofNat 84), (.ofNat 85, .ofNat 85), (.ofNat 86, .ofNat 86), (.ofNat 87, .ofNat 87), (.ofNat 88, .ofNat 88)], [(.ofNat 0, .ofNat 5)], [(.ofNat 0, .ofNat 1000)], [(.ofNat 0, .ofNat 20)], [(.ofNat 0, .ofNat 5)], [(.ofNat 0, .ofNat 99)], [(.ofNat 0, .ofNat 99)], [(.ofNat 0, .ofNat 5)], [(.ofNat 0, .ofNat 5)], [(.ofNat 0, .ofNat 99)], [(.ofNat 0, .ofNat 99)], [(.ofNat 0, .ofNat 50)], [(.ofNat 0, .ofNat 999), (.negSucc 2147483647, .ofNat 2147483647), (.ofNat 90, .ofNat 90), (.ofNat 91, .ofNat 91), (.ofNat 92, .ofNat 92), (.ofNat 93, .ofNat 93), (.ofNat 94, .ofNat 94), (.ofNat 95, .ofNat 95), (.ofNat 96, .ofNat 96)], [(.ofNat 0, .ofNat 5)], [(.ofNat 0, .ofNat 5)], [(.ofNat 0, .ofNat 99)], [(.negSucc 0, .ofNat 5)], [(.negSucc 0, .ofNat 4)], [(.ofNat 0, .ofNat 999)], [(.negSucc 0, .ofNat 999)], [(.ofNat 0, .ofNat 999)], [(.ofNat 0, .ofNat 20)], [(.ofNat 0, .ofNat 99)], [(.ofNat 0, .ofNat 999)], [(.ofNat 102, .ofNat 102), (.ofNat 114, .ofNat 114), (.negSucc 0, .ofNat 5), (.ofNat 0, .ofNat 2147483647), (.ofNat 0, .ofNat 10), (.ofNat 122, .ofNat 122), (.ofNat 123, .ofNat 123), (.ofNat 124, .ofNat 124), (.ofNat 125, .ofNat 125), (.ofNat 0, .ofNat 1)], [(.ofNat 0, .ofNat 6), (.ofNat 0, .ofNat 9), (.ofNat 0, .ofNat 99), (.ofNat 0, .ofNat 8), (.ofNat 0, .ofNat 5), (.ofNat 0, .ofNat 4), (.ofNat 0, .ofNat 4), (.ofNat 0, .ofNat 6), (.ofNat 103, .ofNat 103), (.ofNat 104, .ofNat 104), (.ofNat 105, .ofNat 105), (.ofNat 106, .ofNat 106), (.ofNat 107, .ofNat 107), (.ofNat 108, .ofNat 108), (.ofNat 109, .ofNat 109), (.ofNat 110, .ofNat 110), (.ofNat 111, .ofNat 111), (.ofNat 112, .ofNat 112), (.ofNat 113, .ofNat 113)], [(.ofNat 0, .ofNat 5)], [(.ofNat 0, .ofNat 1000)], [(.ofNat 0, .ofNat 20)], [(.ofNat 0, .ofNat 5)], [(.ofNat 0, .ofNat 99)], [(.ofNat 0, .ofNat 99)], [(.ofNat 0, .ofNat 5)], [(.ofNat 0, .ofNat 5)], [(.ofNat 0, .ofNat 99)], [(.ofNat 0, .ofNat 99)], [(.ofNat 0, .ofNat 50)], [(.ofNat 0, .ofNat 999), (.negSucc 2147483647, .ofNat 2147483647), (.ofNat 115, .ofNat 115), (.ofNat 116, .ofNat 116), (.ofNat 117, .ofNat 117), (.ofNat 118, .ofNat 118), (.ofNat 119, .ofNat 119), (.ofNat 120, .ofNat 120), (.ofNat 121, .ofNat 121)], [(.ofNat 0, .ofNat 5)], [(.ofNat 0, .ofNat 5)], [(.ofNat 0, .ofNat 99)], [(.negSucc 0, .ofNat 5)], [(.negSucc 0, .ofNat 4)], [(.ofNat 0, .ofNat 999)], [(.negSucc 0, .ofNat 999)], [(.ofNat 0, .ofNat 999)], [(.ofNat 0, .ofNat 20)], [(.ofNat 0, .ofNat 99)], [(.ofNat 0, .ofNat 999)], [(.ofNat 127, .ofNat 127), (.ofNat 139, .ofNat 139), (.negSucc 0, .ofNat 5), (.ofNat 0, .ofNat 2147483647), (.ofNat 0, .ofNat 10), (.ofNat 147, .ofNat 147), (.ofNat 148, .ofNat 148), (.ofNat 149, .ofNat 149), (.ofNat 150, .ofNat 150), (.ofNat 0, .ofNat 1)], [(.ofNat 0, .ofNat 6), (.ofNat 0, .ofNat 9), (.ofNat 0, .ofNat 99), (.ofNat 0, .ofNat 8), (.ofNat 0, .ofNat 5), (.ofNat 0, .ofNat 4), (.ofNat 0, .ofNat 4), (.ofNat 0, .ofNat 6), (.ofNat 128, .ofNat 128), (.ofNat 129, .ofNat 129), (.ofNat 130, .ofNat 130), (.ofNat 131, .ofNat 131), (.ofNat 132, .ofNat 132), (.ofNat 133, .ofNat 133), (.ofNat 134, .ofNat 134), (.ofNat 135, .ofNat 135), (.ofNat 136, .ofNat 136), (.ofNat 137, .ofNat 137), (.ofNat 138, .ofNat 138)], [(.ofNat 0, .ofNat 5)], [(.ofNat 0, .ofNat 1000)], [(.ofNat 0, .ofNat 20)], [(.ofNat 0, .ofNat 5)], [(.ofNat 0, .ofNat 99)], [(.ofNat 0, .ofNat 99)], [(.ofNat 0, .ofNat 5)], [(.ofNat 0, .ofNat 5)], [(.ofNat 0, .ofNat 99)], [(.ofNat 0, .ofNat 99)], [(.ofNat 0, .ofNat 50)], [(.ofNat 0, .ofNat 999), (.negSucc 2147483647, .ofNat 2147483647), (.ofNat 140, .ofNat 140), (.ofNat 141, .ofNat 141), (.ofNat 142, .ofNat 142), (.ofNat 143, .ofNat 143), (.ofNat 144, .ofNat 144), (.ofNat 145, .ofNat 145), (.ofNat 146, .ofNat 146)], [(.ofNat 0, .ofNat 5)], [(.ofNat 0, .ofNat 5)], [(.ofNat 0, .ofNat 99)], [(.negSucc 0, .ofNat 5)], [(.negSucc 0, .ofNat 4)], [(.ofNat 0, .ofNat 999)], [(.negSucc 0, .ofNat 999)], [(.ofNat 0, .ofNat 999)], [(.ofNat 0, .ofNat 20)], [(.ofNat 0, .ofNat 99)], [(.ofNat 0, .ofNat 999)], [(.ofNat 152, .ofNat 152), (.ofNat 164, .ofNat 164), (.negSucc 0, .ofNat 5), (.ofNat 0, .ofNat 2147483647), (.ofNat 0, .ofNat 10), (.ofNat 172, .ofNat 172), (.ofNat 173, .ofNat 173), (.ofNat 174, .ofNat 174), (.ofNat 175, .ofNat 175), (.ofNat 0, .ofNat 1)], [(.ofNat 0, .ofNat 6), (.ofNat 0, .ofNat 9), (.ofNat 0, .ofNat 99), (.ofNat 0, .ofNat 8), (.ofNat 0, .ofNat 5), (.ofNat 0, .ofNat 4), (.ofNat 0, .ofNat 4), (.ofNat 0, .ofNat 6), (.ofNat 153, .ofNat 153), (.ofNat 154, .ofNat 154), (.ofNat 155, .ofNat 155), (.ofNat 156, .ofNat 156), (.ofNat 157, .ofNat 157), (.ofNat 158, .ofNat 158), (.ofNat 159, .ofNat 159), (.ofNat 160, .ofNat 160), (.ofNat 161, .ofNat 161), (.ofNat 162, .ofNat 162), (.ofNat 163, .ofNat 163)], [(.ofNat 0, .ofNat 5)], [(.ofNat 0, .ofNat 1000)], [(.ofNat 0, .ofNat 20)], [(.ofNat 0, .ofNat 5)], [(.ofNat 0, .ofNat 99)], [(.ofNat 0, .ofNat 99)], [(.ofNat 0, .ofNat 5)], [(.ofNat 0, .ofNat 5)], [(.ofNat 0, .ofNat 99)], [(.ofNat 0, .ofNat 99)], [(.ofNat 0, .ofNat 50)], [(.ofNat 0, .ofNat 999), (.negSucc 2147483647, .ofNat 2147483647), (.ofNat 165, .ofNat 165), (.ofNat 166, .ofNat 166), (.ofNat 167, .ofNat 167), (.ofNat 168, .ofNat 168), (.ofNat 169, .ofNat 169), (.ofNat 170, .ofNat 170), (.ofNat 171, .ofNat 171)], [(.ofNat 0, .ofNat 5)], [(.ofNat 0, .ofNat 5)], [(.ofNat 0, .ofNat 99)], [(.negSucc 0, .ofNat 5)], [(.negSucc 0, .ofNat 4)], [(.ofNat 0, .ofNat 999)], [(.negSucc 0, .ofNat 999)], [(.ofNat 0, .ofNat 999)], [(.ofNat 0, .ofNat 20)], [(.ofNat 0, .ofNat 99)], [(.ofNat 0, .ofNat 999)], [(.ofNat 0, .ofNat 999), (.negSucc 2147483647, .ofNat 2147483647), (.ofNat 177, .ofNat 177), (.ofNat 178, .ofNat 178), (.ofNat 179, .ofNat 179), (.ofNat 180, .ofNat 180), (.ofNat 181, .ofNat 181), (.ofNat 182, .ofNat 182), (.ofNat 183, .ofNat 183)], [(.ofNat 0, .ofNat 5)], [(.ofNat 0, .ofNat 5)], [(.ofNat 0, .ofNat 99)], [(.negSucc 0, .ofNat 5)], [(.negSucc 0, .ofNat 4)], [(.ofNat 0, .ofNat 999)], [(.negSucc 0, .ofNat 999)], [(.ofNat 0, .ofNat 999), (.negSucc 2147483647, .ofNat 2147483647), (.ofNat 185, .ofNat 185), (.ofNat 186, .ofNat 186), (.ofNat 187, .ofNat 187), (.ofNat 188, .ofNat 188), (.ofNat 189, .ofNat 189), (.ofNat 190, .ofNat 190), (.ofNat 191, .ofNat 191)], [(.ofNat 0, .ofNat 5)], [(.ofNat 0, .ofNat 5)], [(.ofNat 0, .ofNat 99)], [(.negSucc 0, .ofNat 5)], [(.negSucc 0, .ofNat 4)], [(.ofNat 0, .ofNat 999)], [(.negSucc 0, .ofNat 999)], [(.ofNat 0, .ofNat 999), (.negSucc 2147483647, .ofNat 2147483647), (.ofNat 193, .ofNat 193), (.ofNat 194, .ofNat 194), (.ofNat 195, .ofNat 195), (.ofNat 196, .ofNat 196), (.ofNat 197, .ofNat 197), (.ofNat 198, .ofNat 198), (.ofNat 199, .ofNat 199)], [(.ofNat 0, .ofNat 5)], [(.ofNat 0, .ofNat 5)], [(.ofNat 0, .ofNat 99)], [(.negSucc 0, .ofNat 5)], [(.negSucc 0, .ofNat 4)], [(.ofNat 0, .ofNat 999)], [(.negSucc 0, .ofNat 999)], [(.ofNat 0, .ofNat 999), (.negSucc 2147483647, .ofNat 2147483647), (.ofNat 201, .ofNat 201), (.ofNat 202, .ofNat 202), (.ofNat 203, .ofNat 203), (.ofNat 204, .ofNat 204), (.ofNat 205, .ofNat 205), (.ofNat 206, .ofNat 206), (.ofNat 207, .ofNat 207)], [(.ofNat 0, .ofNat 5)], [(.ofNat 0, .ofNat 5)], [(.ofNat 0, .ofNat 99)], [(.negSucc 0, .ofNat 5)], [(.negSucc 0, .ofNat 4)], [(.ofNat 0, .ofNat 999)], [(.negSucc 0, .ofNat 999)], [(.ofNat 0, .ofNat 999), (.negSucc 2147483647, .ofNat 2147483647), (.ofNat 209, .ofNat 209), (.ofNat 210, .ofNat 210), (.ofNat 211, .ofNat 211), (.ofNat 212, .ofNat 212), (.ofNat 213, .ofNat 213), (.ofNat 214, .ofNat 214), (.ofNat 215, .ofNat 215)], [(.ofNat 0, .ofNat 5)], [(.ofNat 0, .ofNat 5)], [(.ofNat 0, .ofNat 99)], [(.negSucc 0, .ofNat 5)], [(.negSucc 0, .ofNat 4)], [(.ofNat 0, .ofNat 999)], [(.negSucc 0, .ofNat 999)], [(.ofNat 0, .ofNat 999), (.negSucc 2147483647, .ofNat 2147483647), (.ofNat 217, .ofNat 217), (.ofNat 218, .ofNat 218), (.ofNat 219, .ofNat 219), (.ofNat 220, .ofNat 220), (.ofNat 221, .ofNat 221), (.ofNat 222, .ofNat 222), (.ofNat 223, .ofNat 223)], [(.ofNat 0, .ofNat 5)], [(.ofNat 0, .ofNat 5)], [(.ofNat 0, .ofNat 99)], [(.negSucc 0, .ofNat 5)], [(.negSucc 0, .ofNat 4)], [(.ofNat 0, .ofNat 999)], [(.negSucc 0, .ofNat 999)], [(.ofNat 0, .ofNat 999), (.negSucc 2147483647, .ofNat 2147483647), (.ofNat 225, .ofNat 225), (.ofNat 226, .ofNat 226), (.ofNat 227, .ofNat 227), (.ofNat 228, .ofNat 228), (.ofNat 229, .ofNat 229), (.ofNat 230, .ofNat 230), (.ofNat 231, .ofNat 231)], [(.ofNat 0, .ofNat 5)], [(.ofNat 0, .ofNat 5)], [(.ofNat 0, .ofNat 99)], [(.negSucc 0, .ofNat 5)], [(.negSucc 0, .ofNat 4)], [(.ofNat 0, .ofNat 999)], [(.negSucc 0, .ofNat 999)], [(.ofNat 0, .ofNat 999), (.negSucc 2147483647, .ofNat 2147483647), (.ofNat 233, .ofNat 233), (.ofNat 234, .ofNat 234), (.ofNat 235, .ofNat 235), (.ofNat 236, .ofNat 236), (.ofNat 237, .ofNat 237), (.ofNat 238, .ofNat 238), (.ofNat 239, .ofNat 239)], [(.ofNat 0, .ofNat 5)], [(.ofNat 0, .ofNat 5)], [(.ofNat 0, .ofNat 99)], [(.negSucc 0, .ofNat 5)], [(.negSucc 0, .ofNat 4)], [(.ofNat 0, .ofNat 999)], [(.negSucc 0, .ofNat 999)], [(.ofNat 0, .ofNat 999), (.negSucc 2147483647, .ofNat 2147483647), (.ofNat 241, .ofNat 241), (.ofNat 242, .ofNat 242), (.ofNat 243, .ofNat 243), (.ofNat 244, .ofNat 244), (.ofNat 245, .ofNat 245), (.ofNat 246, .ofNat 246), (.ofNat 247, .ofNat 247)], [(.ofNat 0, .ofNat 5)], [(.ofNat 0, .ofNat 5)], [(.ofNat 0, .ofNat 99)], [(.negSucc 0, .ofNat 5)], [(.negSucc 0, .ofNat 4)], [(.ofNat 0, .ofNat 999)], [(.negSucc 0, .ofNat 999)], [(.ofNat 0, .ofNat 999), (.negSucc 2147483647, .ofNat 2147483647), (.ofNat 249, .ofNat 249), (.ofNat 250, .ofNat 250), (.ofNat 251, .ofNat 251), (.ofNat 252, .ofNat 252), (.ofNat 253, .ofNat 253), (.ofNat 254, .ofNat 254), (.ofNat 255, .ofNat 255)], [(.ofNat 0, .ofNat 5)], [(.ofNat 0, .ofNat 5)], [(.ofNat 0, .ofNat 99)], [(.negSucc 0, .ofNat 5)], [(.negSucc 0, .ofNat 4)], [(.ofNat 0, .ofNat 999)], [(.negSucc 0, .ofNat 999)], [(.ofNat 0, .ofNat 999), (.negSucc 2147483647, .ofNat 2147483647), (.ofNat 257, .ofNat 257), (.ofNat 258, .ofNat 258), (.ofNat 259, .ofNat 259), (.ofNat 260, .ofNat 260), (.ofNat 261, .ofNat 261), (.ofNat 262, .ofNat 262), (.ofNat 263, .ofNat 263)], [(.ofNat 0, .ofNat 5)], [(.ofNat 0, .ofNat 5)], [(.ofNat 0, .ofNat 99)], [(.negSucc 0, .ofNat 5)], [(.negSucc 0, .ofNat 4)], [(.ofNat 0, .ofNat 999)], [(.negSucc 0, .ofNat 999)], [(.ofNat 0, .ofNat 999), (.negSucc 2147483647, .ofNat 2147483647), (.ofNat 265, .ofNat 265), (.ofNat 266, .ofNat 266), (.ofNat 267, .ofNat 267), (.ofNat 268, .ofNat 268), (.ofNat 269, .ofNat 269), (.ofNat 270, .ofNat 270), (.ofNat 271, .ofNat 271)], [(.ofNat 0, .ofNat 5)], [(.ofNat 0, .ofNat 5)], [(.ofNat 0, .ofNat 99)], [(.negSucc 0, .ofNat 5)], [(.negSucc 0, .ofNat 4)], [(.ofNat 0, .ofNat 999)], [(.negSucc 0, .ofNat 999)], [(.ofNat 0, .ofNat 999), (.negSucc 2147483647, .ofNat 2147483647), (.ofNat 273, .ofNat 273), (.ofNat 274, .ofNat 274), (.ofNat 275, .ofNat 275), (.ofNat 276, .ofNat 276), (.ofNat 277, .ofNat 277), (.ofNat 278, .ofNat 278), (.ofNat 279, .ofNat 279)], [(.ofNat 0, .ofNat 5)], [(.ofNat 0, .ofNat 5)], [(.ofNat 0, .ofNat 99)], [(.negSucc 0, .ofNat 5)], [(.negSucc 0, .ofNat 4)], [(.ofNat 0, .ofNat 999)], [(.negSucc 0, .ofNat 999)], [(.ofNat 0, .ofNat 999), (.negSucc 2147483647, .ofNat 2147483647), (.ofNat 281, .ofNat 281), (.ofNat 282, .ofNat 282), (.ofNat 283, .ofNat 283), (.ofNat 284, .ofNat 284), (.ofNat 285, .ofNat 285), (.ofNat 286, .ofNat 286), (.ofNat 287, .ofNat 287)], [(.ofNat 0, .ofNat 5)], [(.ofNat 0, .ofNat 5)], [(.ofNat 0, .ofNat 99)], [(.negSucc 0, .ofNat 5)], [(.negSucc 0, .ofNat 4)], [(.ofNat 0, .ofNat 999)], [(.negSucc 0, .ofNat 999)], [(.ofNat 0, .ofNat 999), (.negSucc 2147483647, .ofNat 2147483647), (.ofNat 289, .ofNat 289), (.ofNat 290, .ofNat 290), (.ofNat 291, .ofNat 291), (.ofNat 292, .ofNat 292), (.ofNat 293, .ofNat 293), (.ofNat 294, .ofNat 294), (.ofNat 295, .ofNat 295)], [(.ofNat 0, .ofNat 5)], [(.ofNat 0, .ofNat 5)], [(.ofNat 0, .ofNat 99)], [(.negSucc 0, .ofNat 5)], [(.negSucc 0, .ofNat 4)], [(.ofNat 0, .ofNat 999)], [(.negSucc 0, .ofNat 999)], [(.ofNat 0, .ofNat 999), (.negSucc 2147483647, .ofNat 2147483647), (.ofNat 297, .ofNat 297), (.ofNat 298, .ofNat 298), (.ofNat 299, .ofNat 299), (.ofNat 300, .ofNat 300), (.ofNat 301, .ofNat 301), (.ofNat 302, .ofNat 302), (.ofNat 303, .ofNat 303)], [(.ofNat 0, .ofNat 5)], [(.ofNat 0, .ofNat 5)], [(.ofNat 0, .ofNat 99)], [(.negSucc 0, .ofNat 5)], [(.negSucc 0, .ofNat 4)], [(.ofNat 0, .ofNat 999)], [(.negSucc 0, .ofNat 999)], [(.ofNat 0, .ofNat 999), (.negSucc 2147483647, .ofNat 2147483647), (.ofNat 305, .ofNat 305), (.ofNat 306, .ofNat 306), (.ofNat 307, .ofNat 307), (.ofNat 308, .ofNat 308), (.ofNat 309, .ofNat 309), (.ofNat 310, .ofNat 310), (.ofNat 311, .ofNat 311)], [(.ofNat 0, .ofNat 5)], [(.ofNat 0, .ofNat 5)], [(.ofNat 0, .ofNat 99)], [(.negSucc 0, .ofNat 5)], [(.negSucc 0, .ofNat 4)], [(.ofNat 0, .ofNat 999)], [(.negSucc 0, .ofNat 999)], [(.ofNat 0, .ofNat 999), (.negSucc 2147483647, .ofNat 2147483647), (.ofNat 313, .ofNat 313), (.ofNat 314, .ofNat 314), (.ofNat 315, .ofNat 315), (.ofNat 316, .ofNat 316), (.ofNat 317, .ofNat 317), (.ofNat 318, .ofNat 318), (.ofNat 319, .ofNat 319)], [(.ofNat 0, .ofNat 5)], [(.ofNat 0, .ofNat 5)], [(.ofNat 0, .ofNat 99)], [(.negSucc 0, .ofNat 5)], [(.negSucc 0, .ofNat 4)], [(.ofNat 0, .ofNat 999)], [(.negSucc 0, .ofNat 999)], [(.ofNat 0, .ofNat 999), (.negSucc 2147483647, .ofNat 2147483647), (.ofNat 321, .ofNat 321), (.ofNat 322, .ofNat 322), (.ofNat 323, .ofNat 323), (.ofNat 324, .ofNat 324), (.ofNat 325, .ofNat 325), (.ofNat 326, .ofNat 326), (.ofNat 327, .ofNat 327)], [(.ofNat 0, .ofNat 5)], [(.ofNat 0, .ofNat 5)], [(.ofNat 0, .ofNat 99)], [(.negSucc 0, .ofNat 5)], [(.negSucc 0, .ofNat 4)], [(.ofNat 0, .ofNat 999)], [(.negSucc 0, .ofNat 999)], [(.ofNat 0, .ofNat 999), (.negSucc 2147483647, .ofNat 2147483647), (.ofNat 329, .ofNat 329), (.ofNat 330, .ofNat 330), (.ofNat 331, .ofNat 331), (.ofNat 332, .ofNat 332), (.ofNat 333, .ofNat 333), (.ofNat 334, .ofNat 334), (.ofNat 335, .ofNat 335)], [(.ofNat 0, .ofNat 5)], [(.ofNat 0, .ofNat 5)], [(.ofNat 0, .ofNat 99)], [(.negSucc 0, .ofNat 5)], [(.negSucc 0, .ofNat 4)], [(.ofNat 0, .ofNat 999)], [(.negSucc 0, .ofNat 999)], [(.ofNat 337, .ofNat 337), (.ofNat 0, .ofNat 400), (.ofNat 0, .ofNat 6), (.ofNat 338, .ofNat 338), (.ofNat 339, .ofNat 339), (.ofNat 340, .ofNat 340), (.ofNat 341, .ofNat 341), (.ofNat 342, .ofNat 342), (.ofNat 0, .ofNat 400), (.ofNat 0, .ofNat 4000), (.ofNat 0, .ofNat 99999), (.ofNat 0, .ofNat 6), (.ofNat 0, .ofNat 60), (.negSucc 2147483647, .ofNat 2147483647), (.ofNat 0, .ofNat 41), (.ofNat 343, .ofNat 343), (.ofNat 0, .ofNat 400), (.ofNat 344, .ofNat 344), (.negSucc 2147483647, .ofNat 2147483647), (.ofNat 345, .ofNat 345), (.ofNat 346, .ofNat 346), (.negSucc 0, .ofNat 5), (.ofNat 0, .ofNat 2147483647), (.ofNat 0, .ofNat 1), (.ofNat 347, .ofNat 347), (.ofNat 0, .ofNat 20), (.ofNat 348, .ofNat 348), (.ofNat 349, .ofNat 349), (.ofNat 350, .ofNat 350), (.ofNat 0, .ofNat 6), (.ofNat 351, .ofNat 351), (.ofNat 352, .ofNat 352), (.ofNat 353, .ofNat 353), (.ofNat 0, .ofNat 2147483647), (.ofNat 354, .ofNat 354), (.ofNat 355, .ofNat 355), (.ofNat 356, .ofNat 356), (.ofNat 357, .ofNat 357)], [(.negSucc 127, .ofNat 127)], [(.ofNat 1, .ofNat 0)], [(.ofNat 0, .ofNat 400)], [(.ofNat 1, .ofNat 0)], [(.ofNat 0, .ofNat 12)], [(.ofNat 0, .ofNat 6), (.ofNat 0, .ofNat 9), (.ofNat 0, .ofNat 99), (.ofNat 0, .ofNat 8), (.ofNat 0, .ofNat 5), (.ofNat 0, .ofNat 4), (.ofNat 0, .ofNat 6), (.negSucc 2147483647, .ofNat 2147483647), (.negSucc 2147483647, .ofNat 2147483647), (.ofNat 0, .ofNat 4), (.ofNat 0, .ofNat 5), (.ofNat 0, .ofNat 5), (.ofNat 0, .ofNat 99), (.ofNat 0, .ofNat 20), (.ofNat 0, .ofNat 5), (.ofNat 0, .ofNat 5), (.ofNat 0, .ofNat 5), (.ofNat 0, .ofNat 99), (.ofNat 0, .ofNat 20), (.ofNat 0, .ofNat 5), (.ofNat 0, .ofNat 5), (.ofNat 0, .ofNat 5), (.ofNat 0, .ofNat 99), (.ofNat 0, .ofNat 20), (.ofNat 0, .ofNat 5), (.ofNat 0, .ofNat 5), (.ofNat 0, .ofNat 5), (.ofNat 0, .ofNat 99), (.ofNat 0, .ofNat 20), (.ofNat 0, .ofNat 5), (.ofNat 0, .ofNat 5), (.ofNat 0, .ofNat 5), (.ofNat 0, .ofNat 99), (.ofNat 0, .ofNat 20), (.ofNat 0, .ofNat 5), (.ofNat 0, .ofNat 5), (.negSucc 0, .ofNat 4), (.negSucc 2147483647, .ofNat 2147483647), (.ofNat 0, .ofNat 1), (.ofNat 0, .ofNat 5), (.negSucc 0, .ofNat 4), (.negSucc 2147483647, .ofNat 2147483647), (.ofNat 0, .ofNat 1), (.ofNat 0, .ofNat 5), (.negSucc 0, .ofNat 4), (.negSucc 2147483647, .ofNat 2147483647), (.ofNat 0, .ofNat 1), (.ofNat 0, .ofNat 5), (.negSucc 0, .ofNat 4), (.negSucc 2147483647, .ofNat 2147483647), (.ofNat 0, .ofNat 1), (.negSucc 2147483647, .ofNat 2147483647), (.negSucc 2147483647, .ofNat 2147483647), (.negSucc 2147483647, .ofNat 2147483647), (.negSucc 2147483647, .ofNat 2147483647), (.negSucc 2147483647, .ofNat 2147483647), (.negSucc 2147483647, .ofNat 2147483647), (.ofNat 0, .ofNat 5), (.ofNat 0, .ofNat 5), (.ofNat 0, .ofNat 5), (.ofNat 0, .ofNat 5), (.ofNat 0, .ofNat 5), (.ofNat 0, .ofNat 5), (.ofNat 0, .ofNat 5), (.ofNat 0, .ofNat 5), (.ofNat 0, .ofNat 5), (.ofNat 0, .ofNat 5), (.ofNat 0, .ofNat 5), (.ofNat 0, .ofNat 5), (.ofNat 0, .ofNat 5), (.ofNat 0, .ofNat 5), (.ofNat 0, .ofNat 5), (.ofNat 0, .ofNat 5), (.ofNat 0, .ofNat 5), (.ofNat 0, .ofNat 5), (.ofNat 0, .ofNat 5), (.ofNat 0, .ofNat 5), (.ofNat 0, .ofNat 5), (.ofNat 0, .ofNat 5), (.ofNat 0, .ofNat 5), (.ofNat 0, .ofNat 5), (.ofNat 0, .ofNat 99), (.ofNat 0, .ofNat 99), (.ofNat 0, .ofNat 5), (.ofNat 0, .ofNat 99), (.ofNat 0, .ofNat 99), (.ofNat 0, .ofNat 5), (.ofNat 0, .ofNat 99), (.ofNat 0, .ofNat 99), (.ofNat 0, .ofNat 5), (.ofNat 0, .ofNat 99), (.ofNat 0, .ofNat 99), (.ofNat 0, .ofNat 5), (.ofNat 0, .ofNat 5), (.ofNat 0, .ofNat 99), (.ofNat 0, .ofNat 99), (.ofNat 0, .ofNat 50), (.ofNat 0, .ofNat 5), (.ofNat 0, .ofNat 99), (.ofNat 0, .ofNat 99), (.ofNat 0, .ofNat 50), (.ofNat 0, .ofNat 5), (.ofNat 0, .ofNat 99), (.ofNat 0, .ofNat 99), (.ofNat 0, .ofNat 50), (.ofNat 0, .ofNat 5), (.ofNat 0, .ofNat 99), (.ofNat 0, .ofNat 99), (.ofNat 0, .ofNat 50), (.ofNat 0, .ofNat 5), (.ofNat 0, .ofNat 99), (.ofNat 0, .ofNat 99), (.ofNat 0, .ofNat 50), (.ofNat 0, .ofNat 5), (.ofNat 0, .ofNat 99), (.ofNat 0, .ofNat 99), (.ofNat 0, .ofNat 50)], [(.ofNat 1, .ofNat 0)], [(.ofNat 1, .ofNat 0)], [(.ofNat 1, .ofNat 0)], [(.ofNat 0, .ofNat 6), (.ofNat 0, .ofNat 9), (.ofNat 0, .ofNat 99), (.ofNat 0, .ofNat 8), (.ofNat 0, .ofNat 5), (.ofNat 0, .ofNat 4), (.ofNat 0, .ofNat 6), (.negSucc 2147483647, .ofNat 2147483647), (.negSucc 2147483647, .ofNat 2147483647), (.ofNat 0, .ofNat 4), (.ofNat 0, .ofNat 5), (.ofNat 0, .ofNat 5), (.ofNat 0, .ofNat 99), (.ofNat 0, .ofNat 20), (.ofNat 0, .ofNat 5), (.ofNat 0, .ofNat 5), (.ofNat 0, .ofNat 5), (.ofNat 0, .ofNat 99), (.ofNat 0, .ofNat 20), (.ofNat 0, .ofNat 5), (.ofNat 0, .ofNat 5), (.ofNat 0, .ofNat 5), (.ofNat 0, .ofNat 99), (.ofNat 0, .ofNat 20), (.ofNat 0, .ofNat 5), (.ofNat 0, .ofNat 5), (.ofNat 0, .ofNat 5), (.ofNat 0, .ofNat 99), (.ofNat 0, .ofNat 20), (.ofNat 0, .ofNat 5), (.ofNat 0, .ofNat 5), (.ofNat 0, .ofNat 5), (.ofNat 0, .ofNat 99), (.ofNat 0, .ofNat 20), (.ofNat 0, .ofNat 5), (.ofNat 0, .ofNat 5), (.negSucc 0, .ofNat 4), (.negSucc 2147483647, .ofNat 2147483647), (.ofNat 0, .ofNat 1), (.ofNat 0, .ofNat 5), (.negSucc 0, .ofNat 4), (.negSucc 2147483647, .ofNat 2147483647), (.ofNat 0, .ofNat 1), (.ofNat 0, .ofNat 5), (.negSucc 0, .ofNat 4), (.negSucc 2147483647, .ofNat 2147483647), (.ofNat 0, .ofNat 1), (.ofNat 0, .ofNat 5), (.negSucc 0, .ofNat 4), (.negSucc 2147483647, .ofNat 2147483647), (.ofNat 0, .ofNat 1), (.negSucc 2147483647, .ofNat 2147483647), (.negSucc 2147483647, .ofNat 2147483647), (.negSucc 2147483647, .ofNat 2147483647), (.negSucc 2147483647, .ofNat 2147483647), (.negSucc 2147483647, .ofNat 2147483647), (.negSucc 2147483647, .ofNat 2147483647), (.ofNat 0, .ofNat 5), (.ofNat 0, .ofNat 5), (.ofNat 0, .ofNat 5), (.ofNat 0, .ofNat 5), (.ofNat 0, .ofNat 5), (.ofNat 0, .ofNat 5), (.ofNat 0, .ofNat 5), (.ofNat 0, .ofNat 5), (.ofNat 0, .ofNat 5), (.ofNat 0, .ofNat 5), (.ofNat 0, .ofNat 5), (.ofNat 0, .ofNat 5), (.ofNat 0, .ofNat 5), (.ofNat 0, .ofNat 5), (.ofNat 0, .ofNat 5), (.ofNat 0, .ofNat 5), (.ofNat 0, .ofNat 5), (.ofNat 0, .ofNat 5), (.ofNat 0, .ofNat 5), (.ofNat 0, .ofNat 5), (.ofNat 0, .ofNat 5), (.ofNat 0, .ofNat 5), (.ofNat 0, .ofNat 5), (.ofNat 0, .ofNat 5), (.ofNat 0, .ofNat 99), (.ofNat 0, .ofNat 99), (.ofNat 0, .ofNat 5), (.ofNat 0, .ofNat 99), (.ofNat 0, .ofNat 99), (.ofNat 0, .ofNat 5), (.ofNat 0, .ofNat 99), (.ofNat 0, .ofNat 99), (.ofNat 0, .ofNat 5), (.ofNat 0, .ofNat 99), (.ofNat 0, .ofNat 99), (.ofNat 0, .ofNat 5), (.ofNat 0, .ofNat 5), (.ofNat 0, .ofNat 99), (.ofNat 0, .ofNat 99), (.ofNat 0, .ofNat 50), (.ofNat 0, .ofNat 5), (.ofNat 0, .ofNat 99), (.ofNat 0, .ofNat 99), (.ofNat 0, .ofNat 50), (.ofNat 0, .ofNat 5), (.ofNat 0, .ofNat 99), (.ofNat 0, .ofNat 99), (.ofNat 0, .ofNat 50), (.ofNat 0, .ofNat 5), (.ofNat 0, .ofNat 99), (.ofNat 0, .ofNat 99), (.ofNat 0, .ofNat 50), (.ofNat 0, .ofNat 5), (.ofNat 0, .ofNat 99), (.ofNat 0, .ofNat 99), (.ofNat 0, .ofNat 50), (.ofNat 0, .ofNat 5), (.ofNat 0, .ofNat 99), (.ofNat 0, .ofNat 99), (.ofNat 0, .ofNat 50), (.ofNat 0, .ofNat 999), (.ofNat 0, .ofNat 20), (.ofNat 0, .ofNat 99), (.ofNat 0, .ofNat 999), (.ofNat 0, .ofNat 999), (.ofNat 0, .ofNat 20), (.ofNat 0, .ofNat 99), (.ofNat 0, .ofNat 999), (.ofNat 0, .ofNat 999), (.ofNat 0, .ofNat 20), (.ofNat 0, .ofNat 99), (.ofNat 0, .ofNat 999), (.ofNat 0, .ofNat 999), (.ofNat 0, .ofNat 20), (.ofNat 0, .ofNat 99), (.ofNat 0, .ofNat 999), (.ofNat 0, .ofNat 999), (.ofNat 0, .ofNat 20), (.ofNat 0, .ofNat 99), (.ofNat 0, .ofNat 999), (.ofNat 0, .ofNat 999), (.ofNat 0, .ofNat 20), (.ofNat 0, .ofNat 99), (.ofNat 0, .ofNat 999), (.ofNat 0, .ofNat 999), (.ofNat 0, .ofNat 20), (.ofNat 0, .ofNat 99), (.ofNat 0, .ofNat 999), (.ofNat 0, .ofNat 999), (.ofNat 0, .ofNat 20), (.ofNat 0, .ofNat 99), (.ofNat 0, .ofNat 999), (.ofNat 0, .ofNat 999), (.ofNat 0, .ofNat 20), (.ofNat 0, .ofNat 99), (.ofNat 0, .ofNat 999), (.ofNat 0, .ofNat 999), (.ofNat 0, .ofNat 20), (.ofNat 0, .ofNat 99), (.ofNat 0, .ofNat 999), (.ofNat 0, .ofNat 10)], [(.ofNat 0, .ofNat 6), (.ofNat 0, .ofNat 9), (.ofNat 0, .ofNat 99), (.ofNat 0, .ofNat 8), (.ofNat 0, .ofNat 5), (.ofNat 0, .ofNat 4), (.ofNat 0, .ofNat 6), (.negSucc 2147483647, .ofNat 2147483647), (.negSucc 2147483647, .ofNat 2147483647), (.ofNat 0, .ofNat 4), (.ofNat 0, .ofNat 5), (.ofNat 0, .ofNat 5), (.ofNat 0, .ofNat 99), (.ofNat 0, .ofNat 20), (.ofNat 0, .ofNat 5), (.ofNat 0, .ofNat 5), (.ofNat 0, .ofNat 5), (.ofNat 0, .ofNat 99), (.ofNat 0, .ofNat 20), (.ofNat 0, .ofNat 5), (.ofNat 0, .ofNat 5), (.ofNat 0, .ofNat 5), (.ofNat 0, .ofNat 99), (.ofNat 0, .ofNat 20), (.ofNat 0, .ofNat 5), (.ofNat 0, .ofNat 5), (.ofNat 0, .ofNat 5), (.ofNat 0, .ofNat 99), (.ofNat 0, .ofNat 20), (.ofNat 0, .ofNat 5), (.ofNat 0, .ofNat 5), (.ofNat 0, .ofNat 5), (.ofNat 0, .ofNat 99), (.ofNat 0, .ofNat 20), (.ofNat 0, .ofNat 5), (.ofNat 0, .ofNat 5), (.negSucc 0, .ofNat 4), (.negSucc 2147483647, .ofNat 2147483647), (.ofNat 0, .ofNat 1), (.ofNat 0, .ofNat 5), (.negSucc 0, .ofNat 4), (.negSucc 2147483647, .ofNat 2147483647), (.ofNat 0, .ofNat 1), (.ofNat 0, .ofNat 5), (.negSucc 0, .ofNat 4), (.negSucc 2147483647, .ofNat 2147483647), (.ofNat 0, .ofNat 1), (.ofNat 0, .ofNat 5), (.negSucc 0, .ofNat 4), (.negSucc 2147483647, .ofNat 2147483647), (.ofNat 0, .ofNat 1), (.negSucc 2147483647, .ofNat 2147483647), (.negSucc 2147483647, .ofNat 2147483647), (.negSucc 2147483647, .ofNat 2147483647), (.negSucc 2147483647, .ofNat 2147483647), (.negSucc 2147483647, .ofNat 2147483647), (.negSucc 2147483647, .ofNat 2147483647)], [(.ofNat 0, .ofNat 6), (.ofNat 0, .ofNat 9), (.ofNat 0, .ofNat 99), (.ofNat 0, .ofNat 8), (.ofNat 0, .ofNat 5), (.ofNat 0, .ofNat 4), (.ofNat 0, .ofNat 6), (.negSucc 2147483647, .ofNat 2147483647), (.negSucc 2147483647, .ofNat 2147483647), (.ofNat 0, .ofNat 4), (.ofNat 0, .ofNat 5), (.ofNat 0, .ofNat 5), (.ofNat 0, .ofNat 99), (.ofNat 0, .ofNat 20), (.ofNat 0, .ofNat 5), (.ofNat 0, .ofNat 5), (.ofNat 0, .ofNat 5), (.ofNat 0, .ofNat 99), (.ofNat 0, .ofNat 20), (.ofNat 0, .ofNat 5), (.ofNat 0, .ofNat 5), (.ofNat 0, .ofNat 5), (.ofNat 0, .ofNat 99), (.ofNat 0, .ofNat 20), (.ofNat 0, .ofNat 5), (.ofNat 0, .ofNat 5), (.ofNat 0, .ofNat 5), (.ofNat 0, .ofNat 99), (.ofNat 0, .ofNat 20), (.ofNat 0, .ofNat 5), (.ofNat 0, .ofNat 5), (.ofNat 0, .ofNat 5), (.ofNat 0, .ofNat 99), (.ofNat 0, .ofNat 20), (.ofNat 0, .ofNat 5), (.ofNat 0, .ofNat 5), (.negSucc 0, .ofNat 4), (.negSucc 2147483647, .ofNat 2147483647), (.ofNat 0, .ofNat 1), (.ofNat 0, .ofNat 5), (.negSucc 0, .ofNat 4), (.negSucc 2147483647, .ofNat 2147483647), (.ofNat 0, .ofNat 1), (.ofNat 0, .ofNat 5), (.negSucc 0, .ofNat 4), (.negSucc 2147483647, .ofNat 2147483647), (.ofNat 0, .ofNat 1), (.ofNat 0, .ofNat 5), (.negSucc 0, .ofNat 4), (.negSucc 2147483647, .ofNat 2147483647), (.ofNat 0, .ofNat 1), (.negSucc 2147483647, .ofNat 2147483647), (.negSucc 2147483647, .ofNat 2147483647), (.negSucc 2147483647, .ofNat 2147483647), (.negSucc 2147483647, .ofNat 2147483647), (.negSucc 2147483647, .ofNat 2147483647), (.negSucc 2147483647, .ofNat 2147483647)], [(.ofNat 0, .ofNat 99)], [(.ofNat 0, .ofNat 5)], [(.negSucc 2147483647, .ofNat 2147483647)], [(.negSucc 2147483647, .ofNat 2147483647)], [(.ofNat 0, .ofNat 1)], [(.ofNat 0, .ofNat 6), (.ofNat 0, .ofNat 9), (.ofNat 0, .ofNat 99), (.ofNat 0, .ofNat 8), (.ofNat 0, .ofNat 5), (.ofNat 0, .ofNat 4), (.ofNat 0, .ofNat 6), (.negSucc 2147483647, .ofNat 2147483647), (.negSucc 2147483647, .ofNat 2147483647), (.ofNat 0, .ofNat 4), (.ofNat 0, .ofNat 5), (.ofNat 0, .ofNat 5), (.ofNat 0, .ofNat 99), (.ofNat 0, .ofNat 20), (.ofNat 0, .ofNat 5), (.ofNat 0, .ofNat 5), (.ofNat 0, .ofNat 5), (.ofNat 0, .ofNat 99), (.ofNat 0, .ofNat 20), (.ofNat 0, .ofNat 5), (.ofNat 0, .ofNat 5), (.ofNat 0, .ofNat 5), (.ofNat 0, .ofNat 99), (.ofNat 0, .ofNat 20), (.ofNat 0, .ofNat 5), (.ofNat 0, .ofNat 5), (.ofNat 0, .ofNat 5), (.ofNat 0, .ofNat 99), (.ofNat 0, .ofNat 20), (.ofNat 0, .ofNat 5), (.ofNat 0, .ofNat 5), (.ofNat 0, .ofNat 5), (.ofNat 0, .ofNat 99), (.ofNat 0, .ofNat 20), (.ofNat 0, .ofNat 5), (.ofNat 0, .ofNat 5), (.negSucc 0, .ofNat 4), (.negSucc 2147483647, .ofNat 2147483647), (.ofNat 0, .ofNat 1), (.ofNat 0, .ofNat 5), (.negSucc 0, .ofNat 4), (.negSucc 2147483647, .ofNat 2147483647), (.ofNat 0, .ofNat 1), (.ofNat 0, .ofNat 5), (.negSucc 0, .ofNat 4), (.negSucc 2147483647, .ofNat 2147483647), (.ofNat 0, .ofNat 1), (.ofNat 0, .ofNat 5), (.negSucc 0, .ofNat 4), (.negSucc 2147483647, .ofNat 2147483647), (.ofNat 0, .ofNat 1), (.negSucc 2147483647, .ofNat 2147483647), (.negSucc 2147483647, .ofNat 2147483647), (.negSucc 2147483647, .ofNat 2147483647), (.negSucc 2147483647, .ofNat 2147483647), (.negSucc 2147483647, .ofNat 2147483647), (.negSucc 2147483647, .ofNat 2147483647), (.ofNat 0, .ofNat 5), (.ofNat 0, .ofNat 5), (.ofNat 0, .ofNat 5), (.ofNat 0, .ofNat 5), (.ofNat 0, .ofNat 5), (.ofNat 0, .ofNat 5), (.ofNat 0, .ofNat 5), (.ofNat 0, .ofNat 5), (.ofNat 0, .ofNat 5), (.ofNat 0, .ofNat 5), (.ofNat 0, .ofNat 5), (.ofNat 0, .ofNat 5), (.ofNat 0, .ofNat 5), (.ofNat 0, .ofNat 5), (.ofNat 0, .ofNat 5), (.ofNat 0, .ofNat 5), (.ofNat 0, .ofNat 5), (.ofNat 0, .ofNat 5), (.ofNat 0, .ofNat 5), (.ofNat 0, .ofNat 5), (.ofNat 0, .ofNat 5), (.ofNat 0, .ofNat 5), (.ofNat 0, .ofNat 5), (.ofNat 0, .ofNat 5), (.ofNat 0, .ofNat 99), (.ofNat 0, .ofNat 99), (.ofNat 0, .ofNat 5), (.ofNat 0, .ofNat 99), (.ofNat 0, .ofNat 99), (.ofNat 0, .ofNat 5), (.ofNat 0, .ofNat 99), (.ofNat 0, .ofNat 99), (.ofNat 0, .ofNat 5), (.ofNat 0, .ofNat 99), (.ofNat 0, .ofNat 99), (.ofNat 0, .ofNat 5), (.ofNat 0, .ofNat 5), (.ofNat 0, .ofNat 99), (.ofNat 0, .ofNat 99), (.ofNat 0, .ofNat 50), (.ofNat 0, .ofNat 5), (.ofNat 0, .ofNat 99), (.ofNat 0, .ofNat 99), (.ofNat 0, .ofNat 50), (.ofNat 0, .ofNat 5), (.ofNat 0, .ofNat 99), (.ofNat 0, .ofNat 99), (.ofNat 0, .ofNat 50), (.ofNat 0, .ofNat 5), (.ofNat 0, .ofNat 99), (.ofNat 0, .ofNat 99), (.ofNat 0, .ofNat 50), (.ofNat 0, .ofNat 5), (.ofNat 0, .ofNat 99), (.ofNat 0, .ofNat 99), (.ofNat 0, .ofNat 50), (.ofNat 0, .ofNat 5), (.ofNat 0, .ofNat 99), (.ofNat 0, .ofNat 99), (.ofNat 0, .ofNat 50), (.ofNat 0, .ofNat 999), (.ofNat 0, .ofNat 20), (.ofNat 0, .ofNat 99), (.ofNat 0, .ofNat 999), (.ofNat 0, .ofNat 999), (.ofNat 0, .ofNat 20), (.ofNat 0, .ofNat 99), (.ofNat 0, .ofNat 999), (.ofNat 0, .ofNat 999), (.ofNat 0, .ofNat 20), (.ofNat 0, .ofNat 99), (.ofNat 0, .ofNat 999), (.ofNat 0, .ofNat 999), (.ofNat 0, .ofNat 20), (.ofNat 0, .ofNat 99), (.ofNat 0, .ofNat 999), (.ofNat 0, .ofNat 999), (.ofNat 0, .ofNat 20), (.ofNat 0, .ofNat 99), (.ofNat 0, .ofNat 999), (.ofNat 0, .ofNat 999), (.ofNat 0, .ofNat 20), (.ofNat 0, .ofNat 99), (.ofNat 0, .ofNat 999), (.ofNat 0, .ofNat 999), (.ofNat 0, .ofNat 20), (.ofNat 0, .ofNat 99), (.ofNat 0, .ofNat 999), (.ofNat 0, .ofNat 999), (.ofNat 0, .ofNat 20), (.ofNat 0, .ofNat 99), (.ofNat 0, .ofNat 999), (.ofNat 0, .ofNat 999), (.ofNat 0, .ofNat 20), (.ofNat 0, .ofNat 99), (.ofNat 0, .ofNat 999), (.ofNat 0, .ofNat 999), (.ofNat 0, .ofNat 20), (.ofNat 0, .ofNat 99), (.ofNat 0, .ofNat 999), (.ofNat 0, .ofNat 10)], [(.negSucc 0, .ofNat 5)], [(.ofNat 0, .ofNat 2147483647)], [(.ofNat 0, .ofNat 1)]]
def pT : List Nat := [16, 5, 400, 10, 19, 36, 36, 5, 5, 4, 4, 4, 6, 6, 6, 6, 9, 5, 5, 5, 4, 4, 4, 6, 10, 10, 10, 10, 4, 20, 6, 3, 19, 36, 36, 5, 5, 4, 4, 4, 6, 6, 6, 6, 9, 5, 5, 5, 4, 4, 4, 6, 9, 400, 400, 12, 64, 3, 11, 5, 5, 6000, 6000, 3, 112, 3913, 5, 100, 9, 5, 5, 5, 4, 4, 4, 6, 10, 19, 36, 36, 5, 5, 4, 4, 4, 6, 6, 6, 6, 9, 5, 5, 5, 4, 4, 4, 6, 10, 10, 10, 10, 10, 19, 36, 36, 5, 5, 4, 4, 4, 6, 6, 6, 6, 9, 5, 5, 5, 4, 4, 4, 6, 10, 10, 10, 10, 10, 19, 36, 36, 5, 5, 4, 4, 4, 6, 6, 6, 6, 9, 5, 5, 5, 4, 4, 4, 6, 10, 10, 10, 10, 10, 19, 36, 36, 5, 5, 4, 4, 4, 6, 6, 6, 6, 9, 5, 5, 5, 4, 4, 4, 6, 10, 10, 10, 10, 9, 5, 5, 5, 4, 4, 4, 6, 9, 5, 5, 5, 4, 4, 4, 6, 9, 5, 5, 5, 4, 4, 4, 6, 9, 5, 5, 5, 4, 4, 4, 6, 9, 5, 5, 5, 4, 4, 4, 6, 9, 5, 5, 5, 4, 4, 4, 6, 9, 5, 5, 5, 4, 4, 4, 6, 9, 5, 5, 5, 4, 4, 4, 6, 9, 5, 5, 5, 4, 4, 4, 6, 9, 5, 5, 5, 4, 4, 4, 6, 9, 5, 5, 5, 4, 4, 4, 6, 9, 5, 5, 5, 4, 4, 4, 6, 9, 5, 5, 5, 4, 4, 4, 6, 9, 5, 5, 5, 4, 4, 4, 6, 9, 5, 5, 5, 4, 4, 4, 6, 9, 5, 5, 5, 4, 4, 4, 6, 9, 5, 5, 5, 4, 4, 4, 6, 9, 5, 5, 5, 4, 4, 4, 6, 9, 5, 5, 5, 4, 4, 4, 6, 9, 5, 5, 5, 4, 4, 4, 6, 38, 400, 2400, 7, 288, 6, 117, 400, 64, 10, 158, 1140, 57, 6, 6, 5, 3913, 3913, 632, 4, 4, 4]
def bd (c p : Nat) : Int × Int := (bT.getD c []).getD (p % (bT.getD c []).length) (1, 0)
def okb (b : Int × Int) (v : Int) : Prop := b.2 < b.1 ∨ (b.1 ≤ v ∧ v ≤ b.2)
def lSt : List Int := [16, 44, 68, 89, 114, 139, 164, 176, 184, 192, 200, 208, 216, 224, 232, 240, 248, 256, 264, 272, 280, 288, 296, 304, 312, 320, 328]
abbrev isSt (c : Int) : Prop := c ∈ lSt
def lTo : List Int := [4, 32, 77, 102, 127, 152]
abbrev isTo (c : Int) : Prop := c ∈ lTo
def lSc : List Int := [3, 76, 101, 126, 151]
abbrev isSc (c : Int) : Prop := c ∈ lSc
def rowv (S : Sh) (v : Int) : Prop := v = -2 ∨ (isK S v 14 ∧ S.2.2 v ≤ 399 ∧ 358 ≤ v)
theorem rowv_ne {S : Sh} {v : Int} (h : rowv S v) : v ≠ -1 := by
  rcases h with h | h
  · omega
  · have := h.1.1; omega
/-- places that few methods write -/
abbrev spP (c p : Int) : Prop := (c = 336 ∧ (p = 1 ∨ p = 2 ∨ p = 21 ∨ p = 22)) ∨ c = 337 ∨ c = 355 ∨ c = 356 ∨ c = 357 ∨ ((c = 3 ∨ c = 76 ∨ c = 101 ∨ c = 126 ∨ c = 151) ∧ (p = 2 ∨ p = 3 ∨ p = 9)) ∨ (c = 346 ∧ (p = 9 ∨ (0 ≤ p ∧ p ≤ 6))) ∨ (c = 1 ∧ p = 1) ∨ c = 2 ∨ (c = 0 ∧ p = 7)
abbrev spX (X : Mm) (c p : Int) : Prop := spP c p ∨ (c = 338 ∧ p < 400 * X 336 2) ∨ (c = 340 ∧ p < 48 * X 336 2) ∨ (c = 341 ∧ p < X 336 2)
/-- the signs of row t from i on (so many) bring the stack from depth d to 1 -/
def pfx (X : Mm) (t : Int) : Nat → Int → Int → Prop
  | 0, _, d => d = 1
  | n + 1, i, d => (iAnd (X 338 (400 * t + i)) 15 = 0 ∧ d < 64 ∧ pfx X t n (i + 1) (d + 1)) ∨ (iAnd (X 338 (400 * t + i)) 15 = 1 ∧ 0 ≤ iShr (X 338 (400 * t + i)) 4 ∧ iShr (X 338 (400 * t + i)) 4 ≤ 9 ∧ d < 64 ∧ pfx X t n (i + 1) (d + 1)) ∨ (iAnd (X 338 (400 * t + i)) 15 = 11 ∧ 1 ≤ d ∧ pfx X t n (i + 1) d) ∨ (¬ iAnd (X 338 (400 * t + i)) 15 = 0 ∧ ¬ iAnd (X 338 (400 * t + i)) 15 = 1 ∧ ¬ iAnd (X 338 (400 * t + i)) 15 = 11 ∧ 2 ≤ d ∧ pfx X t n (i + 1) (d - 1))
/-- signs a .. b of row t are good postfix -/
def pfr (X : Mm) (t a b : Int) : Prop := 0 ≤ a ∧ a < b ∧ b ≤ 400 ∧ pfx X t (b - a).toNat a 0
def rulOK (X : Mm) (t : Int) : Prop := (0 ≤ X 341 t ∧ X 341 t ≤ 12) ∧ ∀ c : Int, 0 ≤ c → c < X 341 t → pfr X t (X 340 (48 * t + 4 * c)) (X 340 (48 * t + 4 * c + 1)) ∧ (X 340 (48 * t + 4 * c + 2) < 0 ∨ pfr X t (X 340 (48 * t + 4 * c + 2)) (X 340 (48 * t + 4 * c + 3)))
def Good (X : Mm) : Prop := X 336 21 < X 336 2 ∧ (∀ k : Int, 0 ≤ k → k < 4 → X 357 k = 0 ∨ X 355 k < X 336 2) ∧ (0 ≤ X 336 2 ∧ X 336 2 ≤ 6) ∧ ∀ t : Int, 0 ≤ t → t < X 336 2 → rulOK X t
def PlOK (f : Int → Int) (P H J : Int) : Prop := (∀ h : Int, 0 ≤ h → h < H → f (10 + 5 * h) < P) ∧ (∀ j : Int, 0 ≤ j → j < J → f (35 + 4 * j) < P)
/-- hands and jugs are at places that there are -/
def PLi (X M : Mm) : Prop := PlOK (M 346) (X 346 0) (X 346 4) (X 346 5) ∧ (X (-1) 0 = 1 → PlOK (M 348) (X 346 0) (X 346 4) (X 346 5)) ∧ (∀ r : Int, 0 ≤ r → r < M 336 25 → PlOK (fun p => M 347 (57 * r + p)) (M 347 (57 * r)) (M 347 (57 * r + 4)) (M 347 (57 * r + 5))) ∧ (∀ k : Int, 0 ≤ k → k < 4 → PlOK (fun p => M 354 (158 * k + p)) (M 354 (158 * k)) (M 354 (158 * k + 4)) (M 354 (158 * k + 5)))
theorem PLi.same {X M M1 : Mm} (h : PLi X M) (hs : ∀ c p : Int, (c = 346 ∨ c = 347 ∨ c = 348 ∨ c = 354 ∨ (c = 336 ∧ p = 25)) → M1 c p = M c p) : PLi X M1 := by
  have e6 : M1 346 = M 346 := funext (fun p => hs 346 p (by omega))
  have e7 : M1 347 = M 347 := funext (fun p => hs 347 p (by omega))
  have e8 : M1 348 = M 348 := funext (fun p => hs 348 p (by omega))
  have e4 : M1 354 = M 354 := funext (fun p => hs 354 p (by omega))
  have e5 : M1 336 25 = M 336 25 := hs 336 25 (by omega)
  unfold PLi at h ⊢
  rw [e6, e7, e8, e4, e5]
  exact h
theorem PLi.put {X M : Mm} (h : PLi X M) {c p v : Int} (hc : ¬ (c = 348 ∨ c = 347 ∨ c = 354 ∨ (c = 336 ∧ p = 25))) (hv : c = 346 → (∀ a : Int, 0 ≤ a → a < X 346 4 → p = 10 + 5 * a → v < X 346 0) ∧ (∀ a : Int, 0 ≤ a → a < X 346 5 → p = 35 + 4 * a → v < X 346 0)) : PLi X (up M c p v) := by
  by_cases e : c = 346
  · have q := hv e
    subst e
    have e7 : up M 346 p v 347 = M 347 := funext (fun j => up_ne (by omega))
    have e8 : up M 346 p v 348 = M 348 := funext (fun j => up_ne (by omega))
    have e4 : up M 346 p v 354 = M 354 := funext (fun j => up_ne (by omega))
    have e5 : up M 346 p v 336 25 = M 336 25 := up_ne (by omega)
    unfold PLi at h ⊢
    rw [e7, e8, e4, e5]
    refine ⟨⟨fun a a1 a2 => ?_, fun a a1 a2 => ?_⟩, h.2⟩
    · by_cases z : 10 + 5 * a = p
      · rw [z, up_at]; exact q.1 a a1 a2 z.symm
      · rw [up_ne (fun y => z y.2)]; exact h.1.1 a a1 a2
    · by_cases z : 35 + 4 * a = p
      · rw [z, up_at]; exact q.2 a a1 a2 z.symm
      · rw [up_ne (fun y => z y.2)]; exact h.1.2 a a1 a2
  · exact h.same (fun c' p' h' => up_ne (by omega))
def Inv (X : Mm) (S : Sh) (M : Mm) : Prop := (∀ c p : Nat, c < 358 → p < pT.getD c 0 → okb (bd c p) (M c p)) ∧ (∀ c p : Int, spX X c p → M c p = X c p) ∧ (∀ i : Int, 0 ≤ i → i < 6 → rowv S (M 30 i)) ∧ rowv S (M 55 1) ∧ Good X ∧ (X (-1) 0 = 1 → ∀ p : Int, (p = 9 ∨ (0 ≤ p ∧ p ≤ 6)) → M 348 p = X 346 p) ∧ PLi X M
theorem Inv.g {X : Mm} {S : Sh} {M : Mm} (h : Inv X S M) {c p : Int} (hs : spP c p) : M c p = X c p := h.2.1 c p (Or.inl hs)
theorem Inv.row30 {X : Mm} {S : Sh} {M : Mm} (h : Inv X S M) {i : Int} (h0 : 0 ≤ i) (h1 : i < 6) : rowv S (M 30 i) := h.2.2.1 i h0 h1
theorem Inv.row55 {X : Mm} {S : Sh} {M : Mm} (h : Inv X S M) : rowv S (M 55 1) := h.2.2.2.1
theorem Inv.good {X : Mm} {S : Sh} {M : Mm} (h : Inv X S M) : Good X := h.2.2.2.2.1
theorem Inv.flag {X : Mm} {S : Sh} {M : Mm} (h : Inv X S M) (hx : X (-1) 0 = 1) {p : Int} (hp : p = 9 ∨ (0 ≤ p ∧ p ≤ 6)) : M 348 p = X 346 p := h.2.2.2.2.2.1 hx p hp
theorem Inv.pl {X : Mm} {S : Sh} {M : Mm} (h : Inv X S M) : PLi X M := h.2.2.2.2.2.2
theorem bd_u {c : Nat} {b : Int × Int} (h : bT.getD c [] = [b]) (p : Nat) : bd c p = b := by
  unfold bd
  rw [h]
  simp [Nat.mod_one]
theorem okb_of {b : Int × Int} {l u v : Int} (hb : b = (l, u)) (hl : l ≤ v) (hu : v ≤ u) : okb b v := by
  subst hb
  exact Or.inr ⟨hl, hu⟩
theorem okb_n {b : Int × Int} {v : Int} (hb : b = (1, 0)) : okb b v := by
  subst hb
  exact Or.inl (by decide)
theorem Inv.rd {X : Mm} {S : Sh} {M : Mm} (h : Inv X S M) (c p : Nat) (l u : Int) (hc : c < 358) (hp : p < pT.getD c 0) (hb : bd c p = (l, u)) (hlu : l ≤ u) : l ≤ M c p ∧ M c p ≤ u := by
  have q := h.1 c p hc hp
  rw [hb] at q
  rcases q with q | q
  · exact absurd q (by show ¬ u < l; omega)
  · exact q
theorem Inv.rdI {X : Mm} {S : Sh} {M : Mm} (h : Inv X S M) (c : Nat) {i : Int} (l u : Int) (hc : c < 358) (p : Nat) (hp : i = p) (hb : p < pT.getD c 0 ∧ l ≤ (bd c p).1 ∧ (bd c p).2 ≤ u ∧ (bd c p).1 ≤ (bd c p).2) : l ≤ M c i ∧ M c i ≤ u := by
  have q := h.1 c p hc hb.1
  subst hp
  rcases q with q | q
  · exact absurd q (by omega)
  · omega
theorem Inv.wr {X : Mm} {S : Sh} {M : Mm} (h : Inv X S M) {c p v : Int} (hpl : PLi X (up M c p v)) (hb : ∀ c' p' : Nat, (c' : Int) = c → (p' : Int) = p → okb (bd c' p') v) (hs : ¬ spX X c p) (h30 : ¬ (c = 30 ∨ c = 348)) (h55 : ¬ (c = 55 ∧ p = 1)) : Inv X S (up M c p v) := by
  refine ⟨fun c' p' h1 h2 => ?_, fun c' p' h1 => ?_, fun i h1 h2 => ?_, ?_, h.good, fun hx p' hp' => ?_, ?_⟩
  · by_cases e : (c' : Int) = c ∧ (p' : Int) = p
    · have q : up M c p v c' p' = v := by rw [e.1, e.2]; exact up_at _ _ _ _
      rw [q]
      exact hb c' p' e.1 e.2
    · rw [up_ne e]
      exact h.1 c' p' h1 h2
  · rw [up_ne (fun z => hs (by rw [← z.1, ← z.2]; exact h1))]
    exact h.2.1 c' p' h1
  · rw [up_ne (fun z => h30 (Or.inl z.1.symm))]
    exact h.row30 h1 h2
  · rw [up_ne (fun z => h55 ⟨z.1.symm, z.2.symm⟩)]
    exact h.row55
  · rw [up_ne (fun z => h30 (Or.inr z.1.symm))]
    exact h.flag hx hp'
  · exact hpl
theorem Inv.wl {X : Mm} {S : Sh} {M : Mm} (h : Inv X S M) (c p : Nat) {v : Int} (hpl : PLi X (up M c p v)) (hb : okb (bd c p) v) (hs : ¬ spX X c p) (h30 : ¬ ((c : Int) = 30 ∨ (c : Int) = 348)) (h55 : ¬ ((c : Int) = 55 ∧ (p : Int) = 1)) : Inv X S (up M c p v) := h.wr hpl (fun c' p' e1 e2 => by
  have e3 : c' = c := by omega
  have e4 : p' = p := by omega
  rw [e3, e4]
  exact hb) hs h30 h55
theorem Inv.wA_pl {c i : Int} (hpl : ¬ (c = 346 ∨ c = 347 ∨ c = 354 ∨ c = 336)) (h30 : ¬ (c = 30 ∨ c = 348)) : ¬ (c = 348 ∨ c = 347 ∨ c = 354 ∨ (c = 336 ∧ i = 25)) := by
  intro q
  rcases q with e | e | e | e
  · exact h30 (Or.inr e)
  · exact hpl (Or.inr (Or.inl e))
  · exact hpl (Or.inr (Or.inr (Or.inl e)))
  · exact hpl (Or.inr (Or.inr (Or.inr e.1)))
theorem Inv.wA {X : Mm} {S : Sh} {M : Mm} (h : Inv X S M) {c : Int} (b : Int × Int) {i v : Int} (hpl : ¬ (c = 346 ∨ c = 347 ∨ c = 354 ∨ c = 336)) (hb : bT.getD c.toNat [] = [b]) (hv : okb b v) (hs : ¬ spX X c i) (h30 : ¬ (c = 30 ∨ c = 348)) (h55 : c ≠ 55) : Inv X S (up M c i v) := h.wr (h.pl.put (Inv.wA_pl hpl h30) (fun e => absurd (Or.inl e) hpl)) (fun c' p' e1 e2 => by
  have e3 : c' = c.toNat := by
    clear hs hpl h30 h55 hb hv
    omega
  rw [e3, bd_u hb]
  exact hv) hs h30 (fun z => h55 z.1)
theorem Inv.rA {X : Mm} {S : Sh} {M : Mm} (h : Inv X S M) {c : Int} {n : Nat} {l u : Int} {i : Int} (hc : 0 ≤ c ∧ c.toNat < 358) (hn : pT.getD c.toNat 0 = n) (hb : bT.getD c.toNat [] = [(l, u)]) (hlu : l ≤ u) (h0 : 0 ≤ i) (h1 : i < n) : l ≤ M c i ∧ M c i ≤ u := by
  have q := h.rd c.toNat i.toNat l u hc.2 (by omega) (bd_u hb _) hlu
  rw [Int.toNat_of_nonneg hc.1, Int.toNat_of_nonneg h0] at q
  exact q
theorem Inv.cp {X : Mm} {S : Sh} {M : Mm} (h : Inv X S M) {x y n : Int} (hb : ∀ c p : Nat, (c : Int) = y → (p : Int) < n → okb (bd c p) (M x p)) (hs : ∀ p : Int, 0 ≤ p → p < n → ¬ spX X y p) (h30 : ¬ (y = 30 ∨ y = 348)) (h55 : y ≠ 55) (h346 : ¬ (y = 346 ∨ y = 347 ∨ y = 354 ∨ y = 336)) : Inv X S (cpM M x 0 y 0 n) := by
  refine ⟨fun c' p' h1 h2 => ?_, fun c' p' h1 => ?_, fun i h1 h2 => ?_, ?_, h.good, fun hx p' hp' => ?_, ?_⟩
  · by_cases e : (c' : Int) = y ∧ 0 ≤ (p' : Int) ∧ (p' : Int) < 0 + n
    · have q : cpM M x 0 y 0 n c' p' = M x p' := by unfold cpM; rw [if_pos e]; congr 1; omega
      rw [q]
      exact hb c' p' e.1 (by omega)
    · have q : cpM M x 0 y 0 n c' p' = M c' p' := by unfold cpM; rw [if_neg e]
      rw [q]
      exact h.1 c' p' h1 h2
  · have q : cpM M x 0 y 0 n c' p' = M c' p' := by
      unfold cpM
      rw [if_neg]
      rintro ⟨e1, e2, e3⟩
      rw [e1] at h1
      exact hs p' e2 (by omega) h1
    rw [q]
    exact h.2.1 c' p' h1
  · have q : cpM M x 0 y 0 n 30 i = M 30 i := by unfold cpM; rw [if_neg (fun z => h30 (Or.inl z.1.symm))]
    rw [q]
    exact h.row30 h1 h2
  · have q : cpM M x 0 y 0 n 55 1 = M 55 1 := by unfold cpM; rw [if_neg (fun z => h55 z.1.symm)]
    rw [q]
    exact h.row55
  · have q : cpM M x 0 y 0 n 348 p' = M 348 p' := by unfold cpM; rw [if_neg (fun z => h30 (Or.inr z.1.symm))]
    rw [q]
    exact h.flag hx hp'
  · exact h.pl.same (fun c p hh => by unfold cpM; rw [if_neg (by omega)])
theorem Inv.wrow55 {X : Mm} {S : Sh} {M : Mm} (h : Inv X S M) {v : Int} (hv : rowv S v) : Inv X S (up M 55 1 v) := by
  refine ⟨fun c' p' h1 h2 => ?_, fun c' p' h1 => ?_, fun i h1 h2 => ?_, ?_, h.good, fun hx p' hp' => ?_, ?_⟩
  · by_cases e : (c' : Int) = 55 ∧ (p' : Int) = 1
    · have e1 : c' = 55 := by omega
      have e2 : p' = 1 := by omega
      subst e1 e2
      exact okb_n (by decide +kernel)
    · rw [up_ne e]
      exact h.1 c' p' h1 h2
  · rw [up_ne (fun z => by rw [z.1, z.2] at h1; revert h1; omega)]
    exact h.2.1 c' p' h1
  · rw [up_ne (fun z => absurd z.1 (by decide))]
    exact h.row30 h1 h2
  · rw [up_at]
    exact hv
  · rw [up_ne (fun z => absurd z.1 (by decide))]
    exact h.flag hx hp'
  · exact h.pl.put (by decide) (fun e => absurd e (by decide))
theorem Inv.unflag {X : Mm} {S : Sh} {M : Mm} (h : Inv (up X (-1) 0 1) S M) : Inv X S M := by
  have e : ∀ c p : Int, ¬ c = -1 → up X (-1) 0 1 c p = X c p := fun c p hc => up_ne (fun z => hc z.1)
  have g := h.good
  refine ⟨h.1, fun c p hs => ?_, h.2.2.1, h.2.2.2.1, ?_, fun _ p hp => ?_, ?_⟩
  · rw [← e c p (by omega)]
    refine h.2.1 c p ?_
    rw [show spX (up X (-1) 0 1) c p = (spP c p ∨ (c = 338 ∧ p < 400 * up X (-1) 0 1 336 2) ∨ (c = 340 ∧ p < 48 * up X (-1) 0 1 336 2) ∨ (c = 341 ∧ p < up X (-1) 0 1 336 2)) from rfl, e 336 2 (by decide)]
    exact hs
  · have pe : ∀ (t : Int) (n : Nat) (i d : Int), pfx (up X (-1) 0 1) t n i d = pfx X t n i d := by
      intro t n
      induction n with
      | zero => intro i d; rfl
      | succ n ih => intro i d; simp only [pfx, ih, e 338 _ (by decide)]
    have re : ∀ t : Int, rulOK (up X (-1) 0 1) t = rulOK X t := by
      intro t
      simp only [rulOK, pfr, pe, e 341 _ (by decide), e 340 _ (by decide)]
    unfold Good at g ⊢
    simp only [re, e 336 _ (by decide), e 355 _ (by decide), e 357 _ (by decide)] at g
    exact g
  · rw [h.flag (up_at _ _ _ _) hp, e 346 p (by decide)]
  · have q := h.pl
    unfold PLi at q ⊢
    simp only [e 346 _ (by decide)] at q
    exact ⟨q.1, fun _ => q.2.1 (up_at _ _ _ _), q.2.2⟩
end
