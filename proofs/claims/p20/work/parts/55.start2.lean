theorem lwS : Cond.arrayOver (.object "TurningMilk$Scene") ∈ lw_tbl := (List.mem_append_right _ (List.mem_of_getElem? (i := 274) (by decide +kernel)))
theorem lwT : Cond.arrayOver (.object "TurningMilk$State") ∈ lw_tbl := (List.mem_append_right _ (List.mem_of_getElem? (i := 276) (by decide +kernel)))
theorem lwA : Cond.arrayOver (.array .int) ∈ lw_tbl := (List.mem_append_right _ (List.mem_of_getElem? (i := 278) (by decide +kernel)))
theorem lwN : Cond.laysStatic "TurningMilk" "NO_RULE" "[I" ∈ lw_tbl := (List.mem_append_right _ (List.mem_of_getElem? (i := 342) (by decide +kernel)))
theorem lwC : Cond.laysStatic "java/lang/String" "COMPACT_STRINGS" "Z" ∈ lw_tbl := (List.mem_append_right _ (List.mem_of_getElem? (i := 611) (by decide +kernel)))
theorem lwP : Cond.laysStatic "jdk/internal/util/Preconditions" "SIOOBE_FORMATTER" "Ljava/util/function/BiFunction;" ∈ lw_tbl := (List.mem_append_right _ (List.mem_of_getElem? (i := 631) (by decide +kernel)))
theorem flN1 : Cond.arrayOf (.static "TurningMilk" "NO_RULE" "[I") .int ∈ FL := by decide +kernel
theorem flN2 : Cond.eq (.length (.static "TurningMilk" "NO_RULE" "[I")) (.int 0) ∈ FL := by decide +kernel
theorem flN3 : Cond.exactly (.static "TurningMilk" "NO_RULE" "[I") "[I" ∈ FL := by decide +kernel
theorem flC : Cond.eq (.static "java/lang/String" "COMPACT_STRINGS" "Z") (.int 1) ∈ FL := by decide +kernel
theorem flP : Cond.isRef (.static "jdk/internal/util/Preconditions" "SIOOBE_FORMATTER" "Ljava/util/function/BiFunction;") ∈ FL := by decide +kernel
theorem eq_len {args : Array Value} {s : State} {t : Term} {z : Int32} (h : (Cond.eq t (.int z)).before args s = true) : t.eval args s none [] s = some (.int z) := by
  cases hv : t.eval args s none [] s with
  | none => simp [Cond.before, Cond.holds, Cond.value, hv] at h
  | some v =>
    have hz : (Term.int z).eval args s none [] s = some (.int z) := rfl
    simp only [Cond.before, Cond.holds, Cond.value, hv, hz] at h
    cases v <;> simp_all
theorem arr_of {s : State} {args : Array Value} {ty : FieldType} (h : (Cond.arrayClass ty).before args s = true) : ∃ cA : ClassId, ArrOfT s cA ty ∧ s.vm.findClass ("[" ++ ty.toString) = some cA := by
  obtain ⟨q, k, comp, f1, f2, f3⟩ := Cond.arrayClass_spec h
  exact ⟨q, fun N z => ⟨(fun k h => by cases h), k, f2, comp, f3⟩, f1⟩
set_option maxHeartbeats 4000000 in
set_option maxRecDepth 100000 in
theorem KN_start {s : State} {b : Nat} (hts : ∀ w ∈ lw_tbl, w.before #[Value.ref b] s = true) (hgv : (Jvm.Cond.and given_1 narrow_1).before #[Value.ref b] s = true) : ∃ (D : va_G) (G : Gt), KN D G s ∧ va_O "[I" (gZ G) (aG G) s s.heap ∧ gB G = s.heap.size ∧ (∀ a : Nat, G.1 a = gB G + a) := by
  have hs := flat_of_before _ hgv
  have hA : ∀ a : Nat, a < s.heap.size → ¬ (fun q : Nat => s.heap.size ≤ q) a := fun a h q => Nat.not_le.mpr h q
  obtain ⟨c0, i0, hn0⟩ := u_known (C := RX0) (T := TX0) (N := 3) (n := 3) hts (fun w h => gw_in w (iX0 w h)) (hts (.instantiable RX0 3) (gw_in _ kw_280))
  obtain ⟨c1, i1, hn1⟩ := u_known (C := RX1) (T := TX1) (N := 3) (n := 3) hts (fun w h => gw_in w (iX1 w h)) (hts (.instantiable RX1 3) (gw_in _ kw_393))
  obtain ⟨c2, i2, hn2⟩ := u_known (C := RX2) (T := TX2) (N := 11) (n := 11) hts (fun w h => gw_in w (iX2 w h)) (hts (.instantiable RX2 11) (gw_in _ kw_410))
  obtain ⟨c3, i3, hn3⟩ := u_known (C := RX3) (T := TX3) (N := 9) (n := 9) hts (fun w h => gw_in w (iX3 w h)) (hts (.instantiable RX3 9) (gw_in _ kw_302))
  obtain ⟨c4, i4, hn4⟩ := u_known (C := RX4) (T := TX4) (N := 10) (n := 10) hts (fun w h => gw_in w (iX4 w h)) (hts (.instantiable RX4 10) (gw_in _ kw_56))
  obtain ⟨c5, i5, hn5⟩ := u_known (C := RX5) (T := TX5) (N := 9) (n := 9) hts (fun w h => gw_in w (iX5 w h)) (hts (.instantiable RX5 9) (gw_in _ kw_171))
  obtain ⟨c6, i6, hn6⟩ := u_known (C := RX6) (T := TX6) (N := 3) (n := 3) hts (fun w h => gw_in w (iX6 w h)) (hts (.instantiable RX6 3) (gw_in _ kw_450))
  obtain ⟨c7, i7, hn7⟩ := u_known (C := RX7) (T := TX7) (N := 5) (n := 5) hts (fun w h => gw_in w (iX7 w h)) (hts (.instantiable RX7 5) (gw_in _ kw_31))
  obtain ⟨c8, i8, hn8⟩ := u_known (C := RX8) (T := TX8) (N := 19) (n := 19) hts (fun w h => gw_in w (iX8 w h)) (hts (.instantiable RX8 19) (gw_in _ kw_62))
  obtain ⟨c9, i9, hn9⟩ := u_known (C := RX9) (T := TX9) (N := 5) (n := 5) hts (fun w h => gw_in w (iX9 w h)) (hts (.instantiable RX9 5) (gw_in _ kw_466))
  obtain ⟨c10, i10, hn10⟩ := u_known (C := RX10) (T := TX10) (N := 12) (n := 12) hts (fun w h => gw_in w (iX10 w h)) (hts (.instantiable RX10 12) (gw_in _ kw_336))
  obtain ⟨c11, i11, hn11⟩ := u_known (C := RX11) (T := TX11) (N := 16) (n := 16) hts (fun w h => gw_in w (iX11 w h)) (hts (.instantiable RX11 16) (gw_in _ kw_23))
  obtain ⟨c12, i12, hn12⟩ := u_known (C := RX12) (T := TX12) (N := 38) (n := 38) hts (fun w h => gw_in w (iX12 w h)) (hts (.instantiable RX12 38) (gw_in _ kw_1329))
  obtain ⟨q_byte, a_byte, f_byte⟩ := arr_of (hts (.arrayClass .byte) (gw_in _ kw_54))
  obtain ⟨q_int, a_int, f_int⟩ := arr_of (hts (.arrayClass .int) (gw_in _ kw_169))
  obtain ⟨q_boolean, a_boolean, f_boolean⟩ := arr_of (hts (.arrayClass .boolean) (gw_in _ kw_1449))
  obtain ⟨q_long, a_long, f_long⟩ := arr_of (hts (.arrayClass .long) (gw_in _ kw_391))
  have aoS : va_AO "TurningMilk$Scene" s := va_AO.of (hts _ lwS)
  have aoT : va_AO "TurningMilk$State" s := va_AO.of (hts _ lwT)
  have aoA : va_AI s := over_moved (Vm.Alike.refl s.vm) (hts _ lwA)
  obtain ⟨cS, q_S, kS, s1, s2, s3, s4, s5⟩ := Cond.arrayOver_spec aoS
  obtain ⟨cT, q_T, kT, t1, t2, t3, t4, t5⟩ := Cond.arrayOver_spec aoT
  obtain ⟨cA, q_A, kA, r1, r2, r3, r4, r5⟩ := arrayOverA_spec aoA
  obtain ⟨adK, adV, hS, hE⟩ := vk_Sof (args := #[Value.ref b]) (s := s) (N := txN) (tm := txT) (len := txL) (byt := txB) (A := fun q : Nat => s.heap.size ≤ q) tx7 (fun i hi => hs _ (tx1 i hi)) (fun i hi => hs _ (tx2 i hi)) (fun i hi => hs _ (tx3 i hi)) (fun i hi => hs _ (tx4 i hi)) (fun i hi j hj => hs _ (tx5 i hi j hj)) (fun i j hi hj hij => by
    rcases Nat.lt_or_gt_of_ne hij with h | h
    · rcases tx6 i hi j hj h with q | q
      · exact Or.inl (hs _ q)
      · exact Or.inr (hs _ q)
    · rcases tx6 j hj i hi h with q | q
      · exact Or.inr (hs _ q)
      · exact Or.inl (hs _ q)) hA
  obtain ⟨z0, hz0, hT⟩ := va_Tof (args := #[Value.ref b]) (s := s) (tm := .static "TurningMilk" "NO_RULE" "[I") (ty := .int) (N := 0) (f := fun _ => .int 0) (A := fun q : Nat => s.heap.size ≤ q) (by decide) (hs _ flN1) (eq_len (hs _ flN2)) (fun j hj => absurd hj (by omega)) hA
  have hZ := va_Zof (A := fun q : Nat => s.heap.size ≤ q) (hts _ lwN) (hts _ (gw_in _ kw_1)) hz0 hA
  have hO := va_Oof (A := fun q : Nat => s.heap.size ≤ q) (hs _ flN3) hz0 hA
  have hC := va_Zof (A := fun q : Nat => s.heap.size ≤ q) (hts _ lwC) (hts _ (gw_in _ kw_15)) (eq_len (hs _ flC)) hA
  have hQ := va_Zqof (A := fun q : Nat => s.heap.size ≤ q) (hts _ lwP) (hts _ (gw_in _ kw_17)) (hs _ flP) hA
  refine ⟨(fun k => ([c0, c1, c2, c3, c4, c5, c6, c7, c8, c9, c10, c11, c12] : List ClassId).getD k c0, fun k => ([i0, i1, i2, i3, i4, i5, i6, i7, i8, i9, i10, i11, i12] : List (Nat → Nat)).getD k i0), (fun a => s.heap.size + a, s.heap.size, z0, (fun k => ([q_byte, q_int, q_boolean, q_long, q_S, q_T, q_A] : List ClassId).getD (k - 13) q_int), adK, adV), ⟨⟨?_, ?_⟩, ?_, ?_, hS, hZ, hT, hC, hQ, aoS, aoT, aoA⟩, hO, rfl, fun a => rfl⟩
  · intro k q hq
    match k, hq with
    | 0, hq => cases hq; exact hn0
    | 1, hq => cases hq; exact hn1
    | 2, hq => cases hq; exact hn2
    | 3, hq => cases hq; exact hn3
    | 4, hq => cases hq; exact hn4
    | 5, hq => cases hq; exact hn5
    | 6, hq => cases hq; exact hn6
    | 7, hq => cases hq; exact hn7
    | 8, hq => cases hq; exact hn8
    | 9, hq => cases hq; exact hn9
    | 10, hq => cases hq; exact hn10
    | 11, hq => cases hq; exact hn11
    | 12, hq => cases hq; exact hn12
    | k + 13, hq => simp [vwCl] at hq
  · intro k q hq
    match k, hq with
    | 0, hq => cases hq; exact ⟨a_byte, f_byte⟩
    | 1, hq => cases hq; exact ⟨a_int, f_int⟩
    | 2, hq => cases hq; exact ⟨a_boolean, f_boolean⟩
    | 3, hq => cases hq; exact ⟨a_long, f_long⟩
    | 4, hq => cases hq; exact ⟨fun N z => ⟨(fun k h => by cases h), kS, s3, cS, s4⟩, kS, cS, s3, s4, s1, s5⟩
    | 5, hq => cases hq; exact ⟨fun N z => ⟨(fun k h => by cases h), kT, t3, cT, t4⟩, kT, cT, t3, t4, t1, t5⟩
    | 6, hq => cases hq; exact ⟨fun N z => ⟨(fun k h => by cases h), kA, r3, cA, r4⟩, r5⟩
    | k + 7, hq => simp [tyG] at hq
  · intro q hq
    exact va_Nw.of rfl (hts _ (nwA q hq))
  · intro q hq
    obtain ⟨i, hi⟩ := List.getElem?_of_mem hq
    have hl : i < 21 := (List.getElem?_eq_some_iff.mp hi).1
    have h1 : Cond.stringRef q.1 q.2.1 q.2.2.1 ∈ lw_tbl := by
      have key := txA i hl
      rw [hi] at key
      exact List.mem_append_right _ (List.mem_of_getElem? key)
    obtain ⟨hk, h2⟩ := txF i hl q hi
    have h3 : (Term.string q.1 q.2.1).eval #[Value.ref b] s none [] s = some (.ref (adK q.2.2.2)) := by
      rcases h2 with h2 | h2 | h2
      · rw [h2]; exact hE _ hk
      · exact eq_ref (hs _ h2) (hE _ hk)
      · have h4 := hs _ h2
        have h5 := hE _ hk
        cases hv : (Term.string q.1 q.2.1).eval #[Value.ref b] s none [] s with
        | none => simp [Cond.before, Cond.holds, Cond.value, hv, h5] at h4
        | some v =>
          simp only [Cond.before, Cond.holds, Cond.value, hv, h5] at h4
          cases v <;> simp_all
    exact vk_R.of (hts _ h1) h3
