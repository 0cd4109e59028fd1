def wSt19 (S : Sh) (M : Mm) (x i v : Int) (K2 : Mm → Prop) : Prop := isK S x 19 ∧ (v = -2 ∨ isK S v 14) ∧ (0 ≤ i ∧ i < S.2.2 x) ∧ K2 (up M x i v)
/-- the class of rows of rows, and of its rows -/
theorem k19 {D : va_G} {G : Gt} {s : State} (hK : KN D G s) : ∃ kA kI : Class, s.vm.classes[gC G 19]? = some kA ∧ kA.kind = .array (gC G 14) (.array .int) ∧ s.vm.classes[gC G 14]? = some kI ∧ s.vm.findClass "[I" = some (gC G 14) := by
  have hAI : va_AI s := hK.2.2.2.2.2.2.2.2.2.2
  obtain ⟨comp, c, k, h1, h2, h3, h4, h5⟩ := arrayOverA_spec hAI
  have a1 : s.vm.findClass ("[" ++ (FieldType.array .int).toString) = some (gC G 19) := (hK.1.2 6 _ rfl).2
  have a2 : s.vm.findClass ("[" ++ (FieldType.int).toString) = some (gC G 14) := (hK.1.2 1 _ rfl).2
  have e1 : c = gC G 19 := Option.some.inj (h5.symm.trans a1)
  have a3 : s.vm.findClass "[I" = some (gC G 14) := a2
  have e2 : comp = gC G 14 := Option.some.inj (h1.symm.trans a3)
  subst e1
  subst e2
  obtain ⟨-, kI, hkI, -⟩ := (hK.1.2 1 _ rfl).1 0 (fun _ => .int 0)
  exact ⟨k, kI, h3, h4, hkI, a3⟩
theorem as_rf (vm : Vm) (q : ClassId) : vm.assignable q q = true := by
  show Vm.assignableAux vm (255 + 1) q q = true
  rw [Vm.assignableAux]
  simp only [BEq.rfl, Bool.true_or]
section AL19
variable {p : Program} {l : Launch} {e : Env} {R : Room} {s : State} {m : MethodId} {args : Array Value} {below : List Frame} {meth : Method} {c : Code} {H : Heap} {locs : List Loc} {cells slots : Nat} {Q : State → Prop} {cc : ByteArray} {pc : Nat} {ls : Array Slot} {rest : List Value} {K : Int → Prop} {D : va_G} {G : Gt} {S : Sh} {M : Mm} {H0 : Heap}
theorem r_anew19 (hexec : p.tables.exec = Jvm.exec) (hb : c.code = cc) {own : String} {index : Nat} (hown : s.vm.findClass own = some m.cls) (hclink : (Cond.classLink own index "[I").before args s = true) (hK : KN D G s) (hP : Wd D G S M H) (hS : va_S (aG G) s.heap H locs) (hG : ∀ a : Nat, G.1 a = gB G + a) (hb0 : gB G ≤ s.heap.size) (hsz : s.heap.size + cells = gB G + S.1) {n : Int32} {N : Nat} (hn : n.toInt = N) (hN : N ≤ 100000) (hpos : 0 < S.1) (hcells : cells + 1 ≤ R.cells) (hslots : slots + N ≤ R.slots) (hdg : decode cc pc = .ok (.anewarray index, 3)) {K2 : Sh → Mm → Int → Prop} (h : wNewA S M 19 N K2) (kk : ∀ (S1 : Sh) (M1 : Mm) (x1 : Int) (H1 : Heap), K2 S1 M1 x1 → S1.1 = S.1 + 1 → Wd D G S1 M1 H1 → va_S (aG G) s.heap H1 locs → W p l e R s m args below meth c H1 locs (cells + 1) (slots + N) Q (F0 m (pc + 3) ls (.ref (adr G x1) :: rest))) : W p l e R s m args below meth c H locs cells slots Q (F0 m pc ls (.int n :: rest)) := by
  have hn0 : ¬ n < 0 := fun q => by rw [Int32.lt_iff_toInt_lt, Int32.toInt_zero] at q; omega
  have hN2 : n.toNatClampNeg = N := by have : ((n.toNatClampNeg : Nat) : Int) = n.toInt := Int.toNat_of_nonneg (by omega); omega
  subst hN2
  have hAI : va_AI s := hK.2.2.2.2.2.2.2.2.2.2
  refine W_sz (fun hle0 => ?_)
  have hlo := (hP.P (S.1 - 1) _ (wsM_get (by omega))).lt
  have hH : H.size = gB G + S.1 := by
    dsimp only at hlo
    rw [hG] at hlo
    omega
  refine W.anewA (t := .int) hexec hb hown hclink (over_moved (Vm.Alike.refl s.vm) hAI) rfl hdg rfl hn0 (by omega) hcells hslots fun cA kA comp f1 f2 f3 f4 => ?_
  have hcA : cA = gC G 19 := by
    have a1 : s.vm.findClass ("[" ++ (FieldType.array .int).toString) = some (gC G 19) := (hK.1.2 6 _ rfl).2
    exact Option.some.inj (f1.symm.trans a1)
  subst hcA
  generalize hH1 : H.push ({ cls := gC G 19, slots := Array.replicate n.toNatClampNeg .null, vm := .none } : Cell) = H1
  have z1 : H1.size = H.size + 1 := by rw [← hH1, Array.size_push]
  have e1 : H1[H.size]? = some (arrV (gC G 19) n.toNatClampNeg (fun _ => .null)) := by rw [← hH1, Array.getElem?_push_size, ← arrV_new]
  have o1 : ∀ q : Nat, q < H.size → H1[q]? = H[q]? := fun q hq => by rw [← hH1, Array.getElem?_push, if_neg (Nat.ne_of_lt hq)]
  have hP1 : va_P D vwCl (wsM G S M ++ [(G.1 S.1, .inl (gC G 19, n.toNatClampNeg, .inr (.inr (.inr (.inr (fun _ => none))))))]) H1 := by
    refine (hP.P.kept (fun k x hx => o1 x.1 ((hP.P k x hx).lt))).app (fun k x hx => ?_)
    have hz : k < 1 := (List.getElem?_eq_some_iff.mp hx).1
    rw [show k = 0 by omega] at hx
    cases hx
    show H1[G.1 S.1]? = some (vp_cell _ _)
    rw [vp_cell_q, hG, ← hH]
    exact e1
  have hk : isK (newS S 19 n.toNatClampNeg) (S.1 : Int) 19 := ⟨by omega, by simp [newS], by simp [newS]⟩
  have hW := hP.new (ci := 19) (len := n.toNatClampNeg) (z := fun _ => if 17 ≤ 19 then -1 else 0) hG hP1 (by
    have e := cE_refs (G := G) (M := newM S M (fun _ => if 17 ≤ 19 then -1 else 0)) hk (by decide)
    rw [Int.toNat_natCast] at e
    rw [e]
    have e1 : (newS S 19 n.toNatClampNeg).2.2 (S.1 : Int) = n.toNatClampNeg := by simp [newS]
    rw [e1]
    simp [newM, rfo]) (fun j => by unfold r32; split <;> omega)
  have h2 := kk _ _ _ H1 h rfl hW ⟨Nat.le_trans hS.1 (by omega), fun x h1 h2 => (o1 x (Nat.lt_of_lt_of_le h1 hS.1)).trans (hS.2.1 x h1 h2), hS.2.2⟩
  have ea : adr G (S.1 : Int) = H.size := by rw [adr_of (by omega), Int.toNat_natCast, hG, hH]
  rw [ea] at h2
  exact h2
theorem r_aast19 (hexec : p.tables.exec = Jvm.exec) (hb : c.code = cc) (hK : KN D G s) (hO : va_O "[I" (gZ G) (aG G) s s.heap) (hP : Wd D G S M H) (hS : va_S (aG G) s.heap H locs) {x v : Int} {i : Int32} {iz : Int} (hiz : i.toInt = iz) {K2 : Mm → Prop} (hdg : decode cc pc = .ok (.aastore, 1)) (h : wSt19 S M x iz v K2) (kk : ∀ (M1 : Mm) (H1 : Heap) (locs1 : List Loc), K2 M1 → Wd D G S M1 H1 → va_S (aG G) s.heap H1 locs1 → W p l e R s m args below meth c H1 locs1 cells slots Q (F0 m (pc + 1) ls rest)) : W p l e R s m args below meth c H locs cells slots Q (F0 m pc ls (.ref (adr G v) :: .int i :: .ref (adr G x) :: rest)) := by
  subst hiz
  obtain ⟨hx, hv, hi0, h⟩ := h
  obtain ⟨kA, kI, k1, k2, k3, k4⟩ := k19 hK
  have hvc : ∃ cv : Cell, H[adr G v]? = some cv ∧ (∀ q, cv.vm ≠ .statics q) ∧ cv.cls = gC G 14 := by
    rcases hv with rfl | hv
    · obtain ⟨cell, c1, c2, c3, -⟩ := hO.kept hS.2.1
      exact ⟨cell, c1, (fun q hq => by (rw [hq] at c2; cases c2)), Option.some.inj (c3.symm.trans k4)⟩
    · have hf := wsM_get (G := G) (M := M) hv.2.1
      rw [cE_ints hv (by decide) (by decide)] at hf
      refine ⟨_, by rw [adr_of hv.1]; exact hP.P v.toNat _ hf, (fun q hq => by cases hq), rfl⟩
  obtain ⟨cv, v1, v2, v3⟩ := hvc
  have hv1 : v ≠ -1 := by
    rcases hv with rfl | hv
    · decide
    · have := hv.1; omega
  rw [adr_of hx.1]
  have he := wsM_get (G := G) (M := M) hx.2.1
  rw [cE_refs hx (by decide)] at he
  have hi : ((i.toNatClampNeg : Nat) : Int) = i.toInt := Int.toNat_of_nonneg hi0.1
  have hin := vp_in_iff.mpr hi0
  have hlt : i.toNatClampNeg < S.2.2 x := Nat.not_le.mp fun q => hin (Or.inr q)
  have h0 : ¬ i < 0 := fun q => hin (Or.inl q)
  refine W.aast hexec hb (hP.P x.toNat _ he) (fun q h => by cases h) (fun h => by cases h) k1 k2 rfl k3 ⟨h0, by show _ < (arrV _ _ _).slots.size; rw [arrV_size]; exact hlt⟩ v1 v2 (by rw [v3]; exact k3) (by rw [v3]; exact as_rf _ _) rfl rfl hdg fun H1 e z oq => ?_
  have hD := hP.D (M2 := M)
  refine kk (up M x i.toInt v) H1 _ h ⟨hP.1, hP.2.1, ?_, ?_⟩ (hS.put z oq (hD.2 x.toNat _ he))
  · rw [← wsM_set hx.1 hx.2.1 rfl, cE_refs hx (by decide)]
    refine hP.P.set hD he ?_ oq
    show H1[G.1 x.toNat]? = some (vp_cell _ _)
    rw [e]
    rw [vp_cell_q, vp_cell_q, arrV_store]
    congr 2
    funext j
    by_cases ej : j = i.toNatClampNeg
    · subst ej
      rw [hi, up_at]
      simp [updV, rfo, hv1, va_rf]
    · rw [up_ne (fun q => ej (by omega))]
      simp [updV, ej]
  · rw [← hi]
    exact hP.R.put (fun q => by simp [stT, hx.2.2] at q) (fun q => by simp [stT, hx.2.2] at q)
end AL19
