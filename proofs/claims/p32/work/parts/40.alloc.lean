theorem fT_le (ci j : Nat) : fT ci j ≤ 2 := by
  unfold fT
  have h : ∀ l ∈ fTs, ∀ x ∈ l, x ≤ 2 := by decide +kernel
  rw [List.getD_eq_getElem?_getD, List.getD_eq_getElem?_getD]
  cases h1 : fTs[ci]? with
  | none => simp
  | some l =>
    simp only [Option.getD_some]
    cases h2 : l[j]? with
    | none => simp
    | some x => exact h l (List.mem_of_getElem? h1) x (List.mem_of_getElem? h2)
def newS (S : Sh) (ci len : Nat) : Sh := (S.1 + 1, fun a => if a = (S.1 : Int) then ci else S.2.1 a, fun a => if a = (S.1 : Int) then len else S.2.2 a)
def newM (S : Sh) (M : Mm) (z : Int → Int) : Mm := fun a j => if a = (S.1 : Int) then z j else M a j
def zO (ci : Nat) (j : Int) : Int := if fT ci j.toNat = 2 then -1 else 0
def dvt (t : Nat) : Value := if t = 0 then .int 0 else if t = 1 then .long 0 else .null
theorem fv_zO {G : Gt} {ci j : Nat} : fv G (fT ci j) (zO ci j) = dvt (fT ci j) := by
  unfold zO fv dvt
  rw [Int.toNat_natCast]
  by_cases h0 : fT ci j = 0
  · rw [if_pos h0, if_pos h0, if_neg (by omega)]; rfl
  · by_cases h1 : fT ci j = 1
    · rw [if_neg h0, if_neg h0, if_pos h1, if_pos h1, if_neg (by omega)]; rfl
    · rw [if_neg h0, if_neg h0, if_neg h1, if_neg h1]
      by_cases h2 : fT ci j = 2
      · rw [if_pos h2]; rfl
      · exfalso
        have : fT ci j ≤ 2 := fT_le ci j
        omega
theorem W_sz {p : Program} {l : Launch} {e : Env} {R : Room} {s : State} {m : MethodId} {args : Array Value} {below : List Frame} {meth : Method} {c : Code} {H : Heap} {locs : List Loc} {cells slots : Nat} {Q : State → Prop} {g : JFrame} (k : H.size ≤ s.heap.size + cells → W p l e R s m args below meth c H locs cells slots Q g) : W p l e R s m args below meth c H locs cells slots Q g := fun T hT X => k (by rw [← hT]; exact X.heapSize) T hT X
theorem wsM_new {G : Gt} {S : Sh} {M : Mm} {ci len : Nat} {z : Int → Int} : wsM G (newS S ci len) (newM S M z) = wsM G S M ++ [(G.1 S.1, cE G (newS S ci len) (newM S M z) S.1)] := by
  show (List.range (S.1 + 1)).map (fun a => (G.1 a, cE G (newS S ci len) (newM S M z) a)) = (List.range S.1).map (fun a => (G.1 a, cE G S M a)) ++ _
  rw [List.range_succ, List.map_append, List.map_singleton]
  congr 1
  apply List.map_congr_left
  intro a ha
  have hl : a < S.1 := List.mem_range.mp ha
  have e : ¬ (a : Int) = (S.1 : Int) := by omega
  unfold cE newS newM
  simp only [if_neg e]
theorem new_at {G : Gt} {S : Sh} {M : Mm} {q : Nat} {E : va_E} (hG : ∀ a : Nat, G.1 a = gB G + a) (hD : va_D (aG G) (wsM G S M ++ [(q, E)])) (hlt : q < gB G + S.1 + 1) : q = G.1 S.1 := by
  have hlen : (wsM G S M).length = S.1 := by simp [wsM]
  have hq : (wsM G S M ++ [(q, E)])[S.1]? = some (q, E) := by rw [List.getElem?_append_right (by omega), hlen, Nat.sub_self]; rfl
  have hge : gB G ≤ q := hD.2 S.1 _ hq
  rw [hG]
  apply Classical.byContradiction
  intro hne
  have hi : q - gB G < S.1 := by omega
  have h2 : (wsM G S M ++ [(q, E)])[q - gB G]? = some (G.1 (q - gB G), cE G S M (q - gB G)) := by rw [List.getElem?_append_left (by omega), wsM_get hi]
  have := hD.1 _ _ _ _ h2 hq (by show G.1 (q - gB G) = q; rw [hG]; omega)
  omega
theorem Wd.new {D : va_G} {G : Gt} {S : Sh} {M : Mm} {H H1 : Heap} {ci len : Nat} {z : Int → Int} {E : va_E} (hP : Wd D G S M H) (hG : ∀ a : Nat, G.1 a = gB G + a) (h1 : va_P D vwCl (wsM G S M ++ [(G.1 S.1, E)]) H1) (hE : E = cE G (newS S ci len) (newM S M z) S.1) (hz : ∀ j : Nat, r32 (z j)) : Wd D G (newS S ci len) (newM S M z) H1 := by
  refine ⟨fun i j _ _ h => ?_, fun i _ => ?_, ?_, ?_⟩
  · rw [hG, hG] at h; omega
  · rw [hG]; omega
  · rw [wsM_new, ← hE]; exact h1
  · intro a j
    by_cases e : a = (S.1 : Int)
    · have : newM S M z a j = z j := by unfold newM; rw [if_pos e]
      rw [this]
      have hr := hz j
      exact ⟨fun _ => hr, fun _ => ⟨by have := hr.1; omega, by have := hr.2; omega⟩⟩
    · have e1 : newM S M z a j = M a j := by unfold newM; rw [if_neg e]
      have e2 : stT (newS S ci len) a j = stT S a j := by unfold stT newS; simp only [if_neg e]
      rw [e1, e2]
      exact hP.2.2.2 a j
theorem zO_r (ci : Nat) (j : Int) : r32 (zO ci j) := by
  unfold zO r32
  split <;> omega
section AL
variable {p : Program} {l : Launch} {e : Env} {R : Room} {s : State} {m : MethodId} {args : Array Value} {below : List Frame} {meth : Method} {c : Code} {H : Heap} {locs : List Loc} {cells slots : Nat} {Q : State → Prop} {cc : ByteArray} {pc : Nat} {ls : Array Slot} {rest : List Value} {K : Int → Prop} {D : va_G} {G : Gt} {S : Sh} {M : Mm} {H0 : Heap}
theorem r_getsN (hexec : p.tables.exec = Jvm.exec) (hb : c.code = cc) (hK : KN D G s) (hS : va_S (aG G) s.heap H locs) {own ref : String} {index : Nat} (hown : s.vm.findClass own = some m.cls) (hlink : (Cond.fieldLinkNest own index ref "NO_RULE" "[I" "TurningMilk").before args s = true) (hsame : ∀ x, s.fieldFound? "TurningMilk" "NO_RULE" "[I" = some x → s.fieldFound? ref "NO_RULE" "[I" = some x) (hdg : decode cc pc = .ok (.getstatic index, 3)) (h : wC (-2) K) (kk : ∀ z : Int, K z → W p l e R s m args below meth c H locs cells slots Q (F0 m (pc + 3) ls (.ref (adr G z) :: rest))) : W p l e R s m args below meth c H locs cells slots Q (F0 m pc ls rest) := va_getsN hexec hb hK.2.2.2.2.1 hS hown hlink hsame hdg (kk (-2) h)
def wStR (S : Sh) (M : Mm) (x : Int) (ki : Nat) (i v : Int) (ci : Nat) (K2 : Mm → Prop) : Prop := isK S x ki ∧ isK S v ci ∧ (0 ≤ i ∧ i < S.2.2 x) ∧ K2 (up M x i v)
def wNew (S : Sh) (M : Mm) (ci : Nat) (K2 : Sh → Mm → Int → Prop) : Prop := K2 (newS S ci 0) (newM S M (zO ci)) S.1
def wNewA (S : Sh) (M : Mm) (ci n : Nat) (K2 : Sh → Mm → Int → Prop) : Prop := K2 (newS S ci n) (newM S M (fun _ => if 17 ≤ ci then -1 else 0)) S.1
theorem r_new (hexec : p.tables.exec = Jvm.exec) (hb : c.code = cc) {own C : String} {T : u_T} {N ci index : Nat} {Ts : List Cond} (hts : ∀ w ∈ Ts, w.before args s = true) (hin : ∀ w ∈ u_ws C T N, w ∈ Ts) (ty : Nat → FieldType) (hty : ∀ k, k < N → parseFieldDescriptor (T k).2.2.1 = some (ty k)) (hown : s.vm.findClass own = some m.cls) (hcl : (Cond.classLink own index C).before args s = true) (hinst : (Cond.instantiable C N).before args s = true) (hini : (Cond.initialized C).before args s = true) (hK : KN D G s) (hP : Wd D G S M H) (hS : va_S (aG G) s.heap H locs) (hG : ∀ a : Nat, G.1 a = gB G + a) (hb0 : gB G ≤ s.heap.size) (hsz : s.heap.size + cells = gB G + S.1) (hc : vwCl[ci]? = some (C, T, N)) (hci : ci < 13) (hNF : nF ci = N) (hdef : ∀ j, j < N → defaultValue (ty j) = dvt (fT ci j)) (hcells : cells + 1 ≤ R.cells) (hslots : slots + N ≤ R.slots) (hdg : decode cc pc = .ok (.new index, 3)) {K2 : Sh → Mm → Int → Prop} (h : wNew S M ci K2) (kk : ∀ (S1 : Sh) (M1 : Mm) (x1 : Int) (H1 : Heap), K2 S1 M1 x1 → S1.1 = S.1 + 1 → Wd D G S1 M1 H1 → va_S (aG G) s.heap H1 locs → W p l e R s m args below meth c H1 locs (cells + 1) (slots + N) Q (F0 m (pc + 3) ls (.ref (adr G x1) :: rest))) : W p l e R s m args below meth c H locs cells slots Q (F0 m pc ls rest) := by
  refine va_new (ci := ci) (fs := (List.range (nF ci)).map (fun j => fv G (fT ci j) (zO ci j))) (C := C) (T := T) (N := N) hexec hb hts hin ty hty hown hcl hinst hini hK.1 hP.P hP.D hS (fun q hq => Nat.le_trans hb0 hq) hc (fun j hj => ?_) hcells hslots hdg (fun q H1 hP1 hD1 hS1 => W_sz (fun hle => ?_))
  · have e : ((List.range (nF ci)).map (fun j => fv G (fT ci j) (zO ci j)))[j]? = some (fv G (fT ci j) (zO ci j)) := by rw [List.getElem?_map, List.getElem?_range (by omega)]; rfl
    unfold vp_V
    rw [List.getD_eq_getElem?_getD, e, Option.getD_some, fv_zO, hdef j hj]
  · have hlen : (wsM G S M).length = S.1 := by simp [wsM]
    have hq1 := (hP1 S.1 _ (by rw [List.getElem?_append_right (by omega), hlen, Nat.sub_self]; rfl)).lt
    have hq : q = G.1 S.1 := new_at hG hD1 (by dsimp only at hq1; omega)
    subst hq
    have hW := hP.new (ci := ci) (len := 0) (z := zO ci) hG hP1 (by
      have hk : (newS S ci 0).2.1 (S.1 : Int) = ci := by simp [newS]
      have hM : ∀ j : Int, newM S M (zO ci) S.1 j = zO ci j := fun j => by simp [newM]
      unfold cE
      rw [hk, if_pos hci]
      simp only [hM]) (fun j => zO_r ci j)
    have h2 := kk _ _ _ H1 h rfl hW hS1
    have ea : adr G (S.1 : Int) = G.1 S.1 := by rw [adr_of (by omega), Int.toNat_natCast]
    rw [ea] at h2
    exact h2
theorem r_newaB (hexec : p.tables.exec = Jvm.exec) (hb : c.code = cc) (harr : (Cond.arrayClass (newarray.typeOf .byte)).before args s = true) (hK : KN D G s) (hP : Wd D G S M H) (hS : va_S (aG G) s.heap H locs) (hG : ∀ a : Nat, G.1 a = gB G + a) (hb0 : gB G ≤ s.heap.size) (hsz : s.heap.size + cells = gB G + S.1) {n : Int32} {N : Nat} (hn : n.toInt = N) (hN : N ≤ 100000) (hcells : cells + 1 ≤ R.cells) (hslots : slots + N ≤ R.slots) (hdg : decode cc pc = .ok (.newarray .byte, 2)) {K2 : Sh → Mm → Int → Prop} (h : wNewA S M 13 N K2) (kk : ∀ (S1 : Sh) (M1 : Mm) (x1 : Int) (H1 : Heap), K2 S1 M1 x1 → S1.1 = S.1 + 1 → Wd D G S1 M1 H1 → va_S (aG G) s.heap H1 locs → W p l e R s m args below meth c H1 locs (cells + 1) (slots + N) Q (F0 m (pc + 2) ls (.ref (adr G x1) :: rest))) : W p l e R s m args below meth c H locs cells slots Q (F0 m pc ls (.int n :: rest)) := by
  have hn0 : ¬ n < 0 := fun q => by rw [Int32.lt_iff_toInt_lt, Int32.toInt_zero] at q; omega
  have hN2 : n.toNatClampNeg = N := by have : ((n.toNatClampNeg : Nat) : Int) = n.toInt := Int.toNat_of_nonneg (by omega); omega
  refine va_newa (ty := .byte) (N' := N) (a0 := (N, .inl (fun _ => 0))) hexec hb harr rfl hK.1 hP.P hP.D hS (fun q hq => Nat.le_trans hb0 hq) (fun cA => rfl) hn0 hN2 (by show N * 1 ≤ 536870912; omega) hcells hslots hdg (fun q cA H1 hK1 hP1 hD1 hS1 => W_sz (fun hle => ?_))
  have hcA : cA = gC G 13 := by
    have a1 : s.vm.findClass ("[" ++ (.byte : FieldType).toString) = some cA := (hK1.2 7 _ rfl).2
    have a2 : s.vm.findClass ("[" ++ (.byte : FieldType).toString) = some (gC G 13) := (hK.1.2 0 _ rfl).2
    exact Option.some.inj (a1.symm.trans a2)
  subst hcA
  have hlen : (wsM G S M).length = S.1 := by simp [wsM]
  have hq1 := (hP1 S.1 _ (by rw [List.getElem?_append_right (by omega), hlen, Nat.sub_self]; rfl)).lt
  have hq : q = G.1 S.1 := new_at hG hD1 (by dsimp only at hq1; omega)
  subst hq
  have hk : isK (newS S 13 N) (S.1 : Int) 13 := ⟨by omega, by simp [newS], by simp [newS]⟩
  have hW := hP.new (ci := 13) (len := N) (z := fun _ => if 17 ≤ 13 then -1 else 0) hG hP1 (by
    have e := cE_ints (G := G) (M := newM S M (fun _ => if 17 ≤ 13 then -1 else 0)) hk (by decide) (by decide)
    rw [Int.toNat_natCast] at e
    rw [e]
    have e1 : (newS S 13 N).2.2 (S.1 : Int) = N := by simp [newS]
    rw [e1]
    simp [newM]) (fun j => by unfold r32; split <;> omega)
  have h2 := kk _ _ _ H1 h rfl hW hS1
  have ea : adr G (S.1 : Int) = G.1 S.1 := by rw [adr_of (by omega), Int.toNat_natCast]
  rw [ea] at h2
  exact h2
theorem r_newaI (hexec : p.tables.exec = Jvm.exec) (hb : c.code = cc) (harr : (Cond.arrayClass (newarray.typeOf .int)).before args s = true) (hK : KN D G s) (hP : Wd D G S M H) (hS : va_S (aG G) s.heap H locs) (hG : ∀ a : Nat, G.1 a = gB G + a) (hb0 : gB G ≤ s.heap.size) (hsz : s.heap.size + cells = gB G + S.1) {n : Int32} {N : Nat} (hn : n.toInt = N) (hN : N ≤ 100000) (hcells : cells + 1 ≤ R.cells) (hslots : slots + N ≤ R.slots) (hdg : decode cc pc = .ok (.newarray .int, 2)) {K2 : Sh → Mm → Int → Prop} (h : wNewA S M 14 N K2) (kk : ∀ (S1 : Sh) (M1 : Mm) (x1 : Int) (H1 : Heap), K2 S1 M1 x1 → S1.1 = S.1 + 1 → Wd D G S1 M1 H1 → va_S (aG G) s.heap H1 locs → W p l e R s m args below meth c H1 locs (cells + 1) (slots + N) Q (F0 m (pc + 2) ls (.ref (adr G x1) :: rest))) : W p l e R s m args below meth c H locs cells slots Q (F0 m pc ls (.int n :: rest)) := by
  have hn0 : ¬ n < 0 := fun q => by rw [Int32.lt_iff_toInt_lt, Int32.toInt_zero] at q; omega
  have hN2 : n.toNatClampNeg = N := by have : ((n.toNatClampNeg : Nat) : Int) = n.toInt := Int.toNat_of_nonneg (by omega); omega
  refine va_newa (ty := .int) (N' := N) (a0 := (N, .inl (fun _ => 0))) hexec hb harr rfl hK.1 hP.P hP.D hS (fun q hq => Nat.le_trans hb0 hq) (fun cA => rfl) hn0 hN2 (by show N * 4 ≤ 536870912; omega) hcells hslots hdg (fun q cA H1 hK1 hP1 hD1 hS1 => W_sz (fun hle => ?_))
  have hcA : cA = gC G 14 := by
    have a1 : s.vm.findClass ("[" ++ (.int : FieldType).toString) = some cA := (hK1.2 7 _ rfl).2
    have a2 : s.vm.findClass ("[" ++ (.int : FieldType).toString) = some (gC G 14) := (hK.1.2 1 _ rfl).2
    exact Option.some.inj (a1.symm.trans a2)
  subst hcA
  have hlen : (wsM G S M).length = S.1 := by simp [wsM]
  have hq1 := (hP1 S.1 _ (by rw [List.getElem?_append_right (by omega), hlen, Nat.sub_self]; rfl)).lt
  have hq : q = G.1 S.1 := new_at hG hD1 (by dsimp only at hq1; omega)
  subst hq
  have hk : isK (newS S 14 N) (S.1 : Int) 14 := ⟨by omega, by simp [newS], by simp [newS]⟩
  have hW := hP.new (ci := 14) (len := N) (z := fun _ => if 17 ≤ 14 then -1 else 0) hG hP1 (by
    have e := cE_ints (G := G) (M := newM S M (fun _ => if 17 ≤ 14 then -1 else 0)) hk (by decide) (by decide)
    rw [Int.toNat_natCast] at e
    rw [e]
    have e1 : (newS S 14 N).2.2 (S.1 : Int) = N := by simp [newS]
    rw [e1]
    simp [newM]) (fun j => by unfold r32; split <;> omega)
  have h2 := kk _ _ _ H1 h rfl hW hS1
  have ea : adr G (S.1 : Int) = G.1 S.1 := by rw [adr_of (by omega), Int.toNat_natCast]
  rw [ea] at h2
  exact h2
theorem r_newaZ (hexec : p.tables.exec = Jvm.exec) (hb : c.code = cc) (harr : (Cond.arrayClass (newarray.typeOf .boolean)).before args s = true) (hK : KN D G s) (hP : Wd D G S M H) (hS : va_S (aG G) s.heap H locs) (hG : ∀ a : Nat, G.1 a = gB G + a) (hb0 : gB G ≤ s.heap.size) (hsz : s.heap.size + cells = gB G + S.1) {n : Int32} {N : Nat} (hn : n.toInt = N) (hN : N ≤ 100000) (hcells : cells + 1 ≤ R.cells) (hslots : slots + N ≤ R.slots) (hdg : decode cc pc = .ok (.newarray .boolean, 2)) {K2 : Sh → Mm → Int → Prop} (h : wNewA S M 15 N K2) (kk : ∀ (S1 : Sh) (M1 : Mm) (x1 : Int) (H1 : Heap), K2 S1 M1 x1 → S1.1 = S.1 + 1 → Wd D G S1 M1 H1 → va_S (aG G) s.heap H1 locs → W p l e R s m args below meth c H1 locs (cells + 1) (slots + N) Q (F0 m (pc + 2) ls (.ref (adr G x1) :: rest))) : W p l e R s m args below meth c H locs cells slots Q (F0 m pc ls (.int n :: rest)) := by
  have hn0 : ¬ n < 0 := fun q => by rw [Int32.lt_iff_toInt_lt, Int32.toInt_zero] at q; omega
  have hN2 : n.toNatClampNeg = N := by have : ((n.toNatClampNeg : Nat) : Int) = n.toInt := Int.toNat_of_nonneg (by omega); omega
  refine va_newa (ty := .boolean) (N' := N) (a0 := (N, .inl (fun _ => 0))) hexec hb harr rfl hK.1 hP.P hP.D hS (fun q hq => Nat.le_trans hb0 hq) (fun cA => rfl) hn0 hN2 (by show N * 1 ≤ 536870912; omega) hcells hslots hdg (fun q cA H1 hK1 hP1 hD1 hS1 => W_sz (fun hle => ?_))
  have hcA : cA = gC G 15 := by
    have a1 : s.vm.findClass ("[" ++ (.boolean : FieldType).toString) = some cA := (hK1.2 7 _ rfl).2
    have a2 : s.vm.findClass ("[" ++ (.boolean : FieldType).toString) = some (gC G 15) := (hK.1.2 2 _ rfl).2
    exact Option.some.inj (a1.symm.trans a2)
  subst hcA
  have hlen : (wsM G S M).length = S.1 := by simp [wsM]
  have hq1 := (hP1 S.1 _ (by rw [List.getElem?_append_right (by omega), hlen, Nat.sub_self]; rfl)).lt
  have hq : q = G.1 S.1 := new_at hG hD1 (by dsimp only at hq1; omega)
  subst hq
  have hk : isK (newS S 15 N) (S.1 : Int) 15 := ⟨by omega, by simp [newS], by simp [newS]⟩
  have hW := hP.new (ci := 15) (len := N) (z := fun _ => if 17 ≤ 15 then -1 else 0) hG hP1 (by
    have e := cE_ints (G := G) (M := newM S M (fun _ => if 17 ≤ 15 then -1 else 0)) hk (by decide) (by decide)
    rw [Int.toNat_natCast] at e
    rw [e]
    have e1 : (newS S 15 N).2.2 (S.1 : Int) = N := by simp [newS]
    rw [e1]
    simp [newM]) (fun j => by unfold r32; split <;> omega)
  have h2 := kk _ _ _ H1 h rfl hW hS1
  have ea : adr G (S.1 : Int) = G.1 S.1 := by rw [adr_of (by omega), Int.toNat_natCast]
  rw [ea] at h2
  exact h2
theorem r_newaJ (hexec : p.tables.exec = Jvm.exec) (hb : c.code = cc) (harr : (Cond.arrayClass (newarray.typeOf .long)).before args s = true) (hK : KN D G s) (hP : Wd D G S M H) (hS : va_S (aG G) s.heap H locs) (hG : ∀ a : Nat, G.1 a = gB G + a) (hb0 : gB G ≤ s.heap.size) (hsz : s.heap.size + cells = gB G + S.1) {n : Int32} {N : Nat} (hn : n.toInt = N) (hN : N ≤ 100000) (hcells : cells + 1 ≤ R.cells) (hslots : slots + N ≤ R.slots) (hdg : decode cc pc = .ok (.newarray .long, 2)) {K2 : Sh → Mm → Int → Prop} (h : wNewA S M 16 N K2) (kk : ∀ (S1 : Sh) (M1 : Mm) (x1 : Int) (H1 : Heap), K2 S1 M1 x1 → S1.1 = S.1 + 1 → Wd D G S1 M1 H1 → va_S (aG G) s.heap H1 locs → W p l e R s m args below meth c H1 locs (cells + 1) (slots + N) Q (F0 m (pc + 2) ls (.ref (adr G x1) :: rest))) : W p l e R s m args below meth c H locs cells slots Q (F0 m pc ls (.int n :: rest)) := by
  have hn0 : ¬ n < 0 := fun q => by rw [Int32.lt_iff_toInt_lt, Int32.toInt_zero] at q; omega
  have hN2 : n.toNatClampNeg = N := by have : ((n.toNatClampNeg : Nat) : Int) = n.toInt := Int.toNat_of_nonneg (by omega); omega
  refine va_newa (ty := .long) (N' := N) (a0 := (N, .inr (.inl (fun _ => 0)))) hexec hb harr rfl hK.1 hP.P hP.D hS (fun q hq => Nat.le_trans hb0 hq) (fun cA => rfl) hn0 hN2 (by show N * 8 ≤ 536870912; omega) hcells hslots hdg (fun q cA H1 hK1 hP1 hD1 hS1 => W_sz (fun hle => ?_))
  have hcA : cA = gC G 16 := by
    have a1 : s.vm.findClass ("[" ++ (.long : FieldType).toString) = some cA := (hK1.2 7 _ rfl).2
    have a2 : s.vm.findClass ("[" ++ (.long : FieldType).toString) = some (gC G 16) := (hK.1.2 3 _ rfl).2
    exact Option.some.inj (a1.symm.trans a2)
  subst hcA
  have hlen : (wsM G S M).length = S.1 := by simp [wsM]
  have hq1 := (hP1 S.1 _ (by rw [List.getElem?_append_right (by omega), hlen, Nat.sub_self]; rfl)).lt
  have hq : q = G.1 S.1 := new_at hG hD1 (by dsimp only at hq1; omega)
  subst hq
  have hk : isK (newS S 16 N) (S.1 : Int) 16 := ⟨by omega, by simp [newS], by simp [newS]⟩
  have hW := hP.new (ci := 16) (len := N) (z := fun _ => if 17 ≤ 16 then -1 else 0) hG hP1 (by
    have e := cE_longs (G := G) (M := newM S M (fun _ => if 17 ≤ 16 then -1 else 0)) hk
    rw [Int.toNat_natCast] at e
    rw [e]
    have e1 : (newS S 16 N).2.2 (S.1 : Int) = N := by simp [newS]
    rw [e1]
    simp [newM]) (fun j => by unfold r32; split <;> omega)
  have h2 := kk _ _ _ H1 h rfl hW hS1
  have ea : adr G (S.1 : Int) = G.1 S.1 := by rw [adr_of (by omega), Int.toNat_natCast]
  rw [ea] at h2
  exact h2
theorem r_anew17 (hexec : p.tables.exec = Jvm.exec) (hb : c.code = cc) {own : String} {index : Nat} (hown : s.vm.findClass own = some m.cls) (hclink : (Cond.classLink own index "TurningMilk$Scene").before args s = true) (hK : KN D G s) (hP : Wd D G S M H) (hS : va_S (aG G) s.heap H locs) (hG : ∀ a : Nat, G.1 a = gB G + a) (hb0 : gB G ≤ s.heap.size) (hsz : s.heap.size + cells = gB G + S.1) {n : Int32} {N : Nat} (hn : n.toInt = N) (hN : N ≤ 100000) (hcells : cells + 1 ≤ R.cells) (hslots : slots + N ≤ R.slots) (hdg : decode cc pc = .ok (.anewarray index, 3)) {K2 : Sh → Mm → Int → Prop} (h : wNewA S M 17 N K2) (kk : ∀ (S1 : Sh) (M1 : Mm) (x1 : Int) (H1 : Heap), K2 S1 M1 x1 → S1.1 = S.1 + 1 → Wd D G S1 M1 H1 → va_S (aG G) s.heap H1 locs → W p l e R s m args below meth c H1 locs (cells + 1) (slots + N) Q (F0 m (pc + 3) ls (.ref (adr G x1) :: rest))) : W p l e R s m args below meth c H locs cells slots Q (F0 m pc ls (.int n :: rest)) := by
  have hn0 : ¬ n < 0 := fun q => by rw [Int32.lt_iff_toInt_lt, Int32.toInt_zero] at q; omega
  have hN2 : n.toNatClampNeg = N := by have : ((n.toNatClampNeg : Nat) : Int) = n.toInt := Int.toNat_of_nonneg (by omega); omega
  refine va_newq (N' := N) hexec hb hown hclink hK.2.2.2.2.2.2.2.2.1 hK.1 hP.P hP.D hS (fun q hq => Nat.le_trans hb0 hq) hn0 hN2 (by omega) hcells hslots hdg (fun q cA H1 hK1 hP1 hD1 hS1 => W_sz (fun hle => ?_))
  have hcA : cA = gC G 17 := by
    obtain ⟨-, -, -, -, -, a1⟩ := (hK1.2 7 _ rfl).2
    obtain ⟨-, -, -, -, -, a2⟩ := (hK.1.2 4 _ rfl).2
    exact Option.some.inj (a1.symm.trans a2)
  subst hcA
  have hlen : (wsM G S M).length = S.1 := by simp [wsM]
  have hq1 := (hP1 S.1 _ (by rw [List.getElem?_append_right (by omega), hlen, Nat.sub_self]; rfl)).lt
  have hq : q = G.1 S.1 := new_at hG hD1 (by dsimp only at hq1; omega)
  subst hq
  have hk : isK (newS S 17 N) (S.1 : Int) 17 := ⟨by omega, by simp [newS], by simp [newS]⟩
  have hW := hP.new (ci := 17) (len := N) (z := fun _ => if 17 ≤ 17 then -1 else 0) hG hP1 (by
    have e := cE_refs (G := G) (M := newM S M (fun _ => if 17 ≤ 17 then -1 else 0)) hk (by decide)
    rw [Int.toNat_natCast] at e
    rw [e]
    have e1 : (newS S 17 N).2.2 (S.1 : Int) = N := by simp [newS]
    rw [e1]
    simp [newM, rfo]) (fun j => by unfold r32; split <;> omega)
  have h2 := kk _ _ _ H1 h rfl hW hS1
  have ea : adr G (S.1 : Int) = G.1 S.1 := by rw [adr_of (by omega), Int.toNat_natCast]
  rw [ea] at h2
  exact h2
theorem r_anew18 (hexec : p.tables.exec = Jvm.exec) (hb : c.code = cc) {own : String} {index : Nat} (hown : s.vm.findClass own = some m.cls) (hclink : (Cond.classLink own index "TurningMilk$State").before args s = true) (hK : KN D G s) (hP : Wd D G S M H) (hS : va_S (aG G) s.heap H locs) (hG : ∀ a : Nat, G.1 a = gB G + a) (hb0 : gB G ≤ s.heap.size) (hsz : s.heap.size + cells = gB G + S.1) {n : Int32} {N : Nat} (hn : n.toInt = N) (hN : N ≤ 100000) (hcells : cells + 1 ≤ R.cells) (hslots : slots + N ≤ R.slots) (hdg : decode cc pc = .ok (.anewarray index, 3)) {K2 : Sh → Mm → Int → Prop} (h : wNewA S M 18 N K2) (kk : ∀ (S1 : Sh) (M1 : Mm) (x1 : Int) (H1 : Heap), K2 S1 M1 x1 → S1.1 = S.1 + 1 → Wd D G S1 M1 H1 → va_S (aG G) s.heap H1 locs → W p l e R s m args below meth c H1 locs (cells + 1) (slots + N) Q (F0 m (pc + 3) ls (.ref (adr G x1) :: rest))) : W p l e R s m args below meth c H locs cells slots Q (F0 m pc ls (.int n :: rest)) := by
  have hn0 : ¬ n < 0 := fun q => by rw [Int32.lt_iff_toInt_lt, Int32.toInt_zero] at q; omega
  have hN2 : n.toNatClampNeg = N := by have : ((n.toNatClampNeg : Nat) : Int) = n.toInt := Int.toNat_of_nonneg (by omega); omega
  refine va_newq (N' := N) hexec hb hown hclink hK.2.2.2.2.2.2.2.2.2.1 hK.1 hP.P hP.D hS (fun q hq => Nat.le_trans hb0 hq) hn0 hN2 (by omega) hcells hslots hdg (fun q cA H1 hK1 hP1 hD1 hS1 => W_sz (fun hle => ?_))
  have hcA : cA = gC G 18 := by
    obtain ⟨-, -, -, -, -, a1⟩ := (hK1.2 7 _ rfl).2
    obtain ⟨-, -, -, -, -, a2⟩ := (hK.1.2 5 _ rfl).2
    exact Option.some.inj (a1.symm.trans a2)
  subst hcA
  have hlen : (wsM G S M).length = S.1 := by simp [wsM]
  have hq1 := (hP1 S.1 _ (by rw [List.getElem?_append_right (by omega), hlen, Nat.sub_self]; rfl)).lt
  have hq : q = G.1 S.1 := new_at hG hD1 (by dsimp only at hq1; omega)
  subst hq
  have hk : isK (newS S 18 N) (S.1 : Int) 18 := ⟨by omega, by simp [newS], by simp [newS]⟩
  have hW := hP.new (ci := 18) (len := N) (z := fun _ => if 17 ≤ 18 then -1 else 0) hG hP1 (by
    have e := cE_refs (G := G) (M := newM S M (fun _ => if 17 ≤ 18 then -1 else 0)) hk (by decide)
    rw [Int.toNat_natCast] at e
    rw [e]
    have e1 : (newS S 18 N).2.2 (S.1 : Int) = N := by simp [newS]
    rw [e1]
    simp [newM, rfo]) (fun j => by unfold r32; split <;> omega)
  have h2 := kk _ _ _ H1 h rfl hW hS1
  have ea : adr G (S.1 : Int) = G.1 S.1 := by rw [adr_of (by omega), Int.toNat_natCast]
  rw [ea] at h2
  exact h2
theorem r_aast17 (hexec : p.tables.exec = Jvm.exec) (hb : c.code = cc) (hK : KN D G s) (hP : Wd D G S M H) (hS : va_S (aG G) H0 H locs) {x v : Int} {i : Int32} {iz : Int} (hiz : i.toInt = iz) {K2 : Mm → Prop} (hdg : decode cc pc = .ok (.aastore, 1)) (h : wStR S M x 17 iz v 4 K2) (kk : ∀ (M1 : Mm) (H1 : Heap) (locs1 : List Loc), K2 M1 → Wd D G S M1 H1 → va_S (aG G) H0 H1 locs1 → W p l e R s m args below meth c H1 locs1 cells slots Q (F0 m (pc + 1) ls rest)) : W p l e R s m args below meth c H locs cells slots Q (F0 m pc ls (.ref (adr G v) :: .int i :: .ref (adr G x) :: rest)) := by
  subst hiz
  obtain ⟨hx, hv, hi0, h⟩ := h
  rw [adr_of hx.1, adr_of hv.1]
  have he := wsM_get (G := G) (M := M) hx.2.1
  rw [cE_refs hx (by decide)] at he
  have hf := wsM_get (G := G) (M := M) hv.2.1
  rw [cE_obj hv (by decide)] at hf
  have hi : ((i.toNatClampNeg : Nat) : Int) = i.toInt := Int.toNat_of_nonneg hi0.1
  refine va_astq hexec hb hK.1 hP.P hP.D hS x.toNat 4 v.toNat 4 he rfl hf rfl (vp_in_iff.mpr hi0) hdg (fun H1 locs1 hP1 hD1 hS1 => ?_)
  refine kk (up M x i.toInt v) H1 locs1 h ⟨hP.1, hP.2.1, ?_, ?_⟩ hS1
  · rw [← wsM_set hx.1 hx.2.1 rfl, cE_refs hx (by decide)]
    have ex : (fun j : Nat => rfo G (up M x i.toInt v x j)) = va_up (fun j : Nat => rfo G (M x j)) i.toNatClampNeg (some (G.1 v.toNat)) := by
      funext j
      by_cases e : j = i.toNatClampNeg
      · subst e
        rw [hi, up_at]
        have hv1 : v ≠ -1 := by have := hv.1; omega
        simp [va_up, rfo, hv1, adr_of hv.1]
      · rw [up_ne (fun q => e (by omega))]
        simp [va_up, e]
    rw [ex]
    exact hP1
  · rw [← hi]
    exact hP.R.put (fun q => by simp [stT, hx.2.2] at q) (fun q => by simp [stT, hx.2.2] at q)
theorem r_aast18 (hexec : p.tables.exec = Jvm.exec) (hb : c.code = cc) (hK : KN D G s) (hP : Wd D G S M H) (hS : va_S (aG G) H0 H locs) {x v : Int} {i : Int32} {iz : Int} (hiz : i.toInt = iz) {K2 : Mm → Prop} (hdg : decode cc pc = .ok (.aastore, 1)) (h : wStR S M x 18 iz v 5 K2) (kk : ∀ (M1 : Mm) (H1 : Heap) (locs1 : List Loc), K2 M1 → Wd D G S M1 H1 → va_S (aG G) H0 H1 locs1 → W p l e R s m args below meth c H1 locs1 cells slots Q (F0 m (pc + 1) ls rest)) : W p l e R s m args below meth c H locs cells slots Q (F0 m pc ls (.ref (adr G v) :: .int i :: .ref (adr G x) :: rest)) := by
  subst hiz
  obtain ⟨hx, hv, hi0, h⟩ := h
  rw [adr_of hx.1, adr_of hv.1]
  have he := wsM_get (G := G) (M := M) hx.2.1
  rw [cE_refs hx (by decide)] at he
  have hf := wsM_get (G := G) (M := M) hv.2.1
  rw [cE_obj hv (by decide)] at hf
  have hi : ((i.toNatClampNeg : Nat) : Int) = i.toInt := Int.toNat_of_nonneg hi0.1
  refine va_astq hexec hb hK.1 hP.P hP.D hS x.toNat 5 v.toNat 5 he rfl hf rfl (vp_in_iff.mpr hi0) hdg (fun H1 locs1 hP1 hD1 hS1 => ?_)
  refine kk (up M x i.toInt v) H1 locs1 h ⟨hP.1, hP.2.1, ?_, ?_⟩ hS1
  · rw [← wsM_set hx.1 hx.2.1 rfl, cE_refs hx (by decide)]
    have ex : (fun j : Nat => rfo G (up M x i.toInt v x j)) = va_up (fun j : Nat => rfo G (M x j)) i.toNatClampNeg (some (G.1 v.toNat)) := by
      funext j
      by_cases e : j = i.toNatClampNeg
      · subst e
        rw [hi, up_at]
        have hv1 : v ≠ -1 := by have := hv.1; omega
        simp [va_up, rfo, hv1, adr_of hv.1]
      · rw [up_ne (fun q => e (by omega))]
        simp [va_up, e]
    rw [ex]
    exact hP1
  · rw [← hi]
    exact hP.R.put (fun q => by simp [stT, hx.2.2] at q) (fun q => by simp [stT, hx.2.2] at q)
abbrev PA (D : va_G) (G : Gt) (S : Sh) (M : Mm) (av : List Value) : Array Value → State → Prop := va_Pc av (fun U => KN D G U ∧ Wd D G S M U.heap ∧ U.heap.size = gB G + S.1)
abbrev QA (D : va_G) (G : Gt) (S : Sh) (mc : Nat) (post : Sh → Mm → Prop) : Array Value → State → Outcome → State → Prop := va_Qv (fun u : Sh × Mm => u.1.1 = S.1 + mc ∧ post u.1 u.2) (fun u t => Wd D G u.1 u.2 t.heap) (aG G)
theorem PA_blind {D : va_G} {G : Gt} {S : Sh} {M : Mm} {av : List Value} : FrameBlind (PA D G S M av) := fun a U g mk q => ⟨q.1, q.2.1.calling, q.2.2⟩
theorem r_vretA {S0 : Sh} {post : Sh → Mm → Prop} (hexec : p.tables.exec = Jvm.exec) (hb : c.code = cc) (hr : meth.sig.returnType = none) (hlocks : meth.locks = false) (hP : Wd D G S M H) (hS : va_S (aG G) s.heap H locs) (hdg : decode cc pc = .ok (.return_, 1)) (h : post S M) (hz : S.1 = S0.1 + cells) : W p l e R s m args below meth c H locs cells slots (MQ below (QA D G S0 cells post) args s cells slots (aG G)) (F0 m pc ls []) := W.vret hexec hb hr (fun t ht hW => ⟨⟨(S, M), rfl, ⟨hz, h⟩, by show Wd D G S M t.heap; rw [ht]; exact hP⟩, hS.F ht⟩) hS.2.2 hdg hlocks
theorem q_I (hexec : p.tables.exec = Jvm.exec) (hb : c.code = cc) {nL : Nat} (hml : c.maxLocals = nL) {own : String} (hown : s.vm.findClass own = some m.cls) {Ts : List Cond} (hts : ∀ w ∈ Ts, w.before args s = true) (hK : KN D G s) (hP : Wd D G S M H) (hS : va_S (aG G) s.heap H locs) (hG : ∀ a : Nat, G.1 a = gB G + a) (hb0 : gB G ≤ s.heap.size) (hsz : s.heap.size + cells = gB G + S.1) {y : MethodName} {ws : List Cond} {rm : Room} {mc ms : Nat} {post : Sh → Mm → Prop} {As : List Value} {x : Int} {ci : Nat} (hk : isK S x ci) (hM : Met l y ws rm (PA D G S M (.ref (adr G x) :: As)) (QA D G S mc post) mc ms (aG G)) {index n maxL : Nat} {bytes : ByteArray} (cw : CallB R s args own index y bytes maxL none ws rm mc ms n ∧ y.name = "<init>" ∧ (Cond.instanceMethod y).before args s = true) (hn : As.length = n) (hsize : ls.size = nL) {st0 : List Value} (hstack : st0 = As.reverse ++ .ref (adr G x) :: rest) (hW : 2 * (F0 m pc ls st0).monitorRoom + (rest.map fun v => v.category).sum ≤ 8) (hdg : decode cc pc = .ok (.invokespecial index, 3)) (hf : cells + mc ≤ R.cells ∧ slots + ms ≤ R.slots) (kk : ∀ (S1 : Sh) (M1 : Mm) (H1 : Heap) (locs1 : List Loc), post S1 M1 → S1.1 = S.1 + mc → Wd D G S1 M1 H1 → va_S (aG G) s.heap H1 locs1 → W p l e R s m args below meth c H1 locs1 (cells + mc) (slots + ms) Q (F0 m (pc + 3) ls rest)) : W p l e R s m args below meth c H locs cells slots Q (F0 m pc ls st0) := by
  refine W_sz (fun hle => ?_)
  have hlo := (hP.P (S.1 - 1) _ (wsM_get (by have := hk.2.1; omega))).lt
  have hH : H.size = gB G + S.1 := by
    have := hk.2.1
    dsimp only at hlo
    rw [hG] at hlo
    omega
  exact va_callv (A1 := aG G) (va_runI (As := As) (rest := rest) (b := adr G x) ⟨hexec, hb, hml, hown, hts⟩ hM cw ⟨PA_blind, fun U hU hW => ⟨rfl, hK.on hS hU hW, by rw [hU]; exact hP, by rw [hU]; exact hH⟩⟩ rfl hn hsize hstack hW hdg hf) hS (fun q _ h => h) (fun q h => h) (fun u t H1 locs1 ht hvm hw hB hz hk hS1 => kk u.1 u.2 H1 locs1 hw.2 hw.1 (by rw [← ht]; exact hB) hS1)
theorem r_pR (hexec : p.tables.exec = Jvm.exec) (hb : c.code = cc) {own ref C : String} {T : u_T} {N ci index : Nat} {Ts : List Cond} (hts : ∀ w ∈ Ts, w.before args s = true) (hin : ∀ w ∈ u_ws C T N, w ∈ Ts) (hown : s.vm.findClass own = some m.cls) (hK : KN D G s) (hP : Wd D G S M H) (ty0 : Nat → FieldType) (hty : ∀ k, k < N → parseFieldDescriptor (T k).2.2.1 = some (ty0 k)) (hnm : ∀ a, a < N → ∀ b, b < N → a ≠ b → (T a).2.1 ≠ (T b).2.1) (hS : va_S (aG G) H0 H locs) {x : Int} {K2 : Mm → Prop} {v : Int} (hc : vwCl[ci]? = some (C, T, N)) (hci : ci < 13) (hNF : nF ci = N) (k : Nat) (hk : k < N) (hlink : (Cond.fieldLink own index ref (T k).2.1 (T k).2.2.1).before args s = true) (hsame : ∀ x, s.fieldFound? (T k).1 (T k).2.1 (T k).2.2.1 = some x → s.fieldFound? ref (T k).2.1 (T k).2.2.1 = some x) (hfin : (T k).2.2.2 = false) {ty : FieldType} (hd : parseFieldDescriptor (T k).2.2.1 = some ty) (hn : narrow ty (.ref (adr G v)) = .ref (adr G v)) (hfit : fits ty (.ref (adr G v)) = true) (hdg : decode cc pc = .ok (.putfield index, 3)) (ht : fT ci k = 2) (h : wPutR S M x ci k v K2) (kk : ∀ (M1 : Mm) (H1 : Heap) (locs1 : List Loc), K2 M1 → Wd D G S M1 H1 → va_S (aG G) H0 H1 locs1 → W p l e R s m args below meth c H1 locs1 cells slots Q (F0 m (pc + 3) ls rest)) : W p l e R s m args below meth c H locs cells slots Q (F0 m pc ls (.ref (adr G v) :: .ref (adr G x) :: rest)) := by
  exact r_putr hexec hb hts hin hown hK hP ty0 hty hnm hS h.2.1 hc hci hNF k hk hlink hsame hfin hd hn hfit hdg ht ⟨h.1, h.2.2⟩ kk
theorem r_pRF (hexec : p.tables.exec = Jvm.exec) (hb : c.code = cc) {own ref C : String} {T : u_T} {N ci index : Nat} {Ts : List Cond} (hts : ∀ w ∈ Ts, w.before args s = true) (hin : ∀ w ∈ u_ws C T N, w ∈ Ts) (hown : s.vm.findClass own = some m.cls) (hK : KN D G s) (hP : Wd D G S M H) (ty0 : Nat → FieldType) (hty : ∀ k, k < N → parseFieldDescriptor (T k).2.2.1 = some (ty0 k)) (hnm : ∀ a, a < N → ∀ b, b < N → a ≠ b → (T a).2.1 ≠ (T b).2.1) (hS : va_S (aG G) H0 H locs) {x : Int} {K2 : Mm → Prop} {v : Int} (hc : vwCl[ci]? = some (C, T, N)) (hci : ci < 13) (hNF : nF ci = N) (k : Nat) (hk : k < N) (hlink : (Cond.fieldLink own index ref (T k).2.1 (T k).2.2.1).before args s = true) (hsame : ∀ x, s.fieldFound? (T k).1 (T k).2.1 (T k).2.2.1 = some x → s.fieldFound? ref (T k).2.1 (T k).2.2.1 = some x) (hfin : (T k).2.2.2 = true) (hin2 : meth.name = "<init>") (hdecl : (T k).1 = own) {ty : FieldType} (hd : parseFieldDescriptor (T k).2.2.1 = some ty) (hn : narrow ty (.ref (adr G v)) = .ref (adr G v)) (hfit : fits ty (.ref (adr G v)) = true) (hdg : decode cc pc = .ok (.putfield index, 3)) (ht : fT ci k = 2) (h : wPutR S M x ci k v K2) (kk : ∀ (M1 : Mm) (H1 : Heap) (locs1 : List Loc), K2 M1 → Wd D G S M1 H1 → va_S (aG G) H0 H1 locs1 → W p l e R s m args below meth c H1 locs1 cells slots Q (F0 m (pc + 3) ls rest)) : W p l e R s m args below meth c H locs cells slots Q (F0 m pc ls (.ref (adr G v) :: .ref (adr G x) :: rest)) := by
  exact r_putrF hexec hb hts hin hown hK hP ty0 hty hnm hS h.2.1 hc hci hNF k hk hlink hsame hfin hin2 hdecl hd hn hfit hdg ht ⟨h.1, h.2.2⟩ kk
end AL
