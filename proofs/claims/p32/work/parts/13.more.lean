def cpM (M : Mm) (x sp y dp n : Int) : Mm := fun a j => if a = y ∧ dp ≤ j ∧ j < dp + n then M x (sp + (j - dp)) else M a j
def wCpy (S : Sh) (M : Mm) (x sp y dp n : Int) (K : Mm → Prop) : Prop := isK S x 14 ∧ isK S y 14 ∧ (0 ≤ sp ∧ 0 ≤ dp ∧ 0 ≤ n ∧ sp + n ≤ S.2.2 x ∧ dp + n ≤ S.2.2 y) ∧ K (cpM M x sp y dp n)
def iXor : Int → Int → Int := o32 (fun x y => x ^^^ y)
def wSlen (x : Int) (K : Int → Prop) : Prop := ∃ k : Nat, k < txN ∧ x = -3 - k ∧ K (txL.getD k 0)
def wSch (x i : Int) (K : Int → Prop) : Prop := ∃ k : Nat, k < txN ∧ x = -3 - k ∧ 0 ≤ i ∧ i < txL.getD k 0 ∧ K ((txB.getD k []).getD i.toNat 0).toInt
theorem adr_tx {G : Gt} {k : Nat} : adr G (-3 - (k : Int)) = gK G k := by
  unfold adr
  rw [if_neg (by omega), if_neg (by omega)]
  congr 1
  omega
theorem wsM_set2 {G : Gt} {S : Sh} {M M2 : Mm} {x : Int} (h0 : 0 ≤ x) (hn : x.toNat < S.1) (hM : ∀ a j : Int, a ≠ x → M2 a j = M a j) : (wsM G S M).set x.toNat (G.1 x.toNat, cE G S M2 x.toNat) = wsM G S M2 := by
  apply List.ext_getElem?
  intro i
  by_cases hi : i = x.toNat
  · subst hi
    rw [List.getElem?_set_self (by simpa [wsM] using hn), wsM_get hn]
  · rw [List.getElem?_set_ne (Ne.symm hi)]
    by_cases hl : i < S.1
    · rw [wsM_get hl, wsM_get hl]
      have e : ∀ j : Int, M2 i j = M i j := fun j => hM i j (by omega)
      unfold cE
      simp only [e]
    · rw [List.getElem?_eq_none (by simpa [wsM] using Nat.not_lt.mp hl), List.getElem?_eq_none (by simpa [wsM] using Nat.not_lt.mp hl)]
theorem fits_int (v : Int32) : fits .int (.int v) = true := rfl
section ROWS3
variable {p : Program} {l : Launch} {e : Env} {R : Room} {s : State} {m : MethodId} {args : Array Value} {below : List Frame} {meth : Method} {c : Code} {H : Heap} {locs : List Loc} {cells slots : Nat} {Q : State → Prop} {cc : ByteArray} {pc : Nat} {ls : Array Slot} {rest : List Value} {K : Int → Prop} {D : va_G} {G : Gt} {S : Sh} {M : Mm} {H0 : Heap}
theorem r_ixor (hexec : p.tables.exec = Jvm.exec) (hb : c.code = cc) {x y : Int32} (hdg : decode cc pc = .ok (.ixor, 1)) (h : wO iXor x.toInt y.toInt K) (kk : ∀ z : Int32, K z.toInt → W p l e R s m args below meth c H locs cells slots Q (F0 m (pc + 1) ls (.int z :: rest))) : W p l e R s m args below meth c H locs cells slots Q (F0 m pc ls (.int y :: .int x :: rest)) := lv_ixor hexec hb hdg (kk _ (by have h1 := h; unfold wO iXor at h1; rw [o32_k] at h1; exact h1))
theorem r_ldc_w (hexec : p.tables.exec = Jvm.exec) (hb : c.code = cc) {own : String} {index : Nat} {v : Int32} (hown : s.vm.findClass own = some m.cls) (hconst : (Jvm.Cond.constant own index v).before args s = true) (hdg : decode cc pc = .ok (.ldc_w index, 3)) {n : Int} (hv : v.toInt = n) (h : wC n K) (kk : ∀ z : Int32, K z.toInt → W p l e R s m args below meth c H locs cells slots Q (F0 m (pc + 3) ls (.int z :: rest))) : W p l e R s m args below meth c H locs cells slots Q (F0 m pc ls rest) := lv_ldcw hexec hb hown hconst hdg (kk _ (by rw [hv]; exact h))
theorem r_lds (hexec : p.tables.exec = Jvm.exec) (hb : c.code = cc) (hK : KN D G s) {own tx : String} {index k : Nat} (hown : s.vm.findClass own = some m.cls) (hm : (own, index, tx, k) ∈ txR) (hdg : decode cc pc = .ok (.ldc index, 2)) {n : Int} (hn : n = -3 - (k : Int)) (h : wC n K) (kk : ∀ z : Int, K z → W p l e R s m args below meth c H locs cells slots Q (F0 m (pc + 2) ls (.ref (adr G z) :: rest))) : W p l e R s m args below meth c H locs cells slots Q (F0 m pc ls rest) := by
  have h1 := kk n h
  rw [hn, adr_tx] at h1
  have hk : vk_R own index tx (gK G k) s := hK.2.2.1 (own, index, tx, k) hm
  exact va_ldcS hexec hb hown hk hdg h1
theorem r_gets (hexec : p.tables.exec = Jvm.exec) (hb : c.code = cc) (hK : KN D G s) (hS : va_S (aG G) s.heap H locs) {own ref : String} {index : Nat} (hown : s.vm.findClass own = some m.cls) (hlink : (Cond.fieldLink own index ref "NO_RULE" "[I").before args s = true) (hsame : ∀ x, s.fieldFound? "TurningMilk" "NO_RULE" "[I" = some x → s.fieldFound? ref "NO_RULE" "[I" = some x) (hdg : decode cc pc = .ok (.getstatic index, 3)) (h : wC (-2) K) (kk : ∀ z : Int, K z → W p l e R s m args below meth c H locs cells slots Q (F0 m (pc + 3) ls (.ref (adr G z) :: rest))) : W p l e R s m args below meth c H locs cells slots Q (F0 m pc ls rest) := va_gets hexec hb hK.2.2.2.2.1 hS hown hlink hsame hdg (kk (-2) h)
theorem r_aald17 (hexec : p.tables.exec = Jvm.exec) (hb : c.code = cc) (hK : KN D G s) (hP : Wd D G S M H) {x : Int} {i : Int32} (hdg : decode cc pc = .ok (.aaload, 1)) (h : wLdR S M x 17 i.toInt K) (kk : ∀ z : Int, K z → W p l e R s m args below meth c H locs cells slots Q (F0 m (pc + 1) ls (.ref (adr G z) :: rest))) : W p l e R s m args below meth c H locs cells slots Q (F0 m pc ls (.int i :: .ref (adr G x) :: rest)) := by
  rw [adr_of h.1.1]
  have he := wsM_get (G := G) (M := M) h.1.2.1
  rw [cE_refs h.1 (by decide)] at he
  have hi : ((i.toNatClampNeg : Nat) : Int) = i.toInt := Int.toNat_of_nonneg h.2.1.1
  refine va_aldq hexec hb hK.1 hP.P x.toNat 4 he rfl (vp_in_iff.mpr h.2.1) hdg ?_
  have h1 := kk _ h.2.2.2
  rw [hi]
  have e : va_rf (rfo G (M x i.toInt)) = .ref (adr G (M x i.toInt)) := by simp [rfo, h.2.2.1, va_rf]
  rw [e]
  exact h1
theorem r_aald18 (hexec : p.tables.exec = Jvm.exec) (hb : c.code = cc) (hK : KN D G s) (hP : Wd D G S M H) {x : Int} {i : Int32} (hdg : decode cc pc = .ok (.aaload, 1)) (h : wLdR S M x 18 i.toInt K) (kk : ∀ z : Int, K z → W p l e R s m args below meth c H locs cells slots Q (F0 m (pc + 1) ls (.ref (adr G z) :: rest))) : W p l e R s m args below meth c H locs cells slots Q (F0 m pc ls (.int i :: .ref (adr G x) :: rest)) := by
  rw [adr_of h.1.1]
  have he := wsM_get (G := G) (M := M) h.1.2.1
  rw [cE_refs h.1 (by decide)] at he
  have hi : ((i.toNatClampNeg : Nat) : Int) = i.toInt := Int.toNat_of_nonneg h.2.1.1
  refine va_aldq hexec hb hK.1 hP.P x.toNat 5 he rfl (vp_in_iff.mpr h.2.1) hdg ?_
  have h1 := kk _ h.2.2.2
  rw [hi]
  have e : va_rf (rfo G (M x i.toInt)) = .ref (adr G (M x i.toInt)) := by simp [rfo, h.2.2.1, va_rf]
  rw [e]
  exact h1
theorem r_aald19 (hexec : p.tables.exec = Jvm.exec) (hb : c.code = cc) (hK : KN D G s) (hP : Wd D G S M H) {x : Int} {i : Int32} (hdg : decode cc pc = .ok (.aaload, 1)) (h : wLdR S M x 19 i.toInt K) (kk : ∀ z : Int, K z → W p l e R s m args below meth c H locs cells slots Q (F0 m (pc + 1) ls (.ref (adr G z) :: rest))) : W p l e R s m args below meth c H locs cells slots Q (F0 m pc ls (.int i :: .ref (adr G x) :: rest)) := by
  rw [adr_of h.1.1]
  have he := wsM_get (G := G) (M := M) h.1.2.1
  rw [cE_refs h.1 (by decide)] at he
  have hi : ((i.toNatClampNeg : Nat) : Int) = i.toInt := Int.toNat_of_nonneg h.2.1.1
  have hin := vp_in_iff.mpr h.2.1
  have hlt : i.toNatClampNeg < S.2.2 x := Nat.not_le.mp fun q => hin (Or.inr q)
  have h1 := kk _ h.2.2.2
  have e : va_rf (rfo G (M x i.toInt)) = .ref (adr G (M x i.toInt)) := by simp [rfo, h.2.2.1, va_rf]
  rw [← e, ← hi] at h1
  exact W.aald (v := va_rf (rfo G (M x i.toNatClampNeg))) (ty := .array .int) hexec hb (hP.P x.toNat _ he) ((hK.1.2 6 _ rfl).1 (S.2.2 x) (fun j => va_rf (rfo G (M x j)))) rfl (fun q => by cases q) (by show ¬ (i < 0 ∨ (arrV _ _ _).slots.size ≤ _); rw [arrV_size]; exact hin) (by show (arrV _ _ _).slots[_]? = _; rw [arrV_read _ _ hlt]) rfl rfl hdg h1
theorem r_copy (hexec : p.tables.exec = Jvm.exec) (hb : c.code = cc) (hml : c.maxLocals = ls.size) (hK : KN D G s) (hP : Wd D G S M H) (hS : va_S (aG G) H0 H locs) {own : String} {index : Nat} (hown : s.vm.findClass own = some m.cls) (hlink : (Cond.methodLink own index arraycopyName).before args s = true) (hnat : (Cond.native arraycopyName).before args s = true) (hstat : (Cond.static arraycopyName).before args s = true) (hini : (Cond.initialized "java/lang/System").before args s = true) (hframes : 1 ≤ R.frames) (hlocals : (rest.map fun v => v.category).sum + (nativeFrameWords "java/lang/System" "arraycopy" 5 + 11) ≤ R.locals) {x y : Int} {sp dp n : Int32} {K2 : Mm → Prop} (hdg : decode cc pc = .ok (.invokestatic index, 3)) (h : wCpy S M x sp.toInt y dp.toInt n.toInt K2) (kk : ∀ (M1 : Mm) (H1 : Heap) (locs1 : List Loc), K2 M1 → Wd D G S M1 H1 → va_S (aG G) H0 H1 locs1 → W p l e R s m args below meth c H1 locs1 cells slots Q (F0 m (pc + 3) ls rest)) : W p l e R s m args below meth c H locs cells slots Q (F0 m pc ls (.int n :: .int dp :: .ref (adr G y) :: .int sp :: .ref (adr G x) :: rest)) := by
  obtain ⟨hx, hy, ⟨b1, b2, b3, b4, b5⟩, h⟩ := h
  rw [adr_of hx.1, adr_of hy.1]
  have he := wsM_get (G := G) (M := M) hx.2.1
  rw [cE_ints hx (by decide) (by decide)] at he
  have hf := wsM_get (G := G) (M := M) hy.2.1
  rw [cE_ints hy (by decide) (by decide)] at hf
  have e1 : ((sp.toNatClampNeg : Nat) : Int) = sp.toInt := Int.toNat_of_nonneg b1
  have e2 : ((dp.toNatClampNeg : Nat) : Int) = dp.toInt := Int.toNat_of_nonneg b2
  have e3 : ((n.toNatClampNeg : Nat) : Int) = n.toInt := Int.toNat_of_nonneg b3
  have ng : ∀ z : Int32, 0 ≤ z.toInt → ¬ z < 0 := fun z hz q => by rw [Int32.lt_iff_toInt_lt, Int32.toInt_zero] at q; omega
  refine va_copyi hexec hb hml hown hlink hnat hstat hini hK.1 hP.P hP.D hS x.toNat y.toNat 1 1 he hf rfl rfl rfl (ng _ b1) (ng _ b2) (ng _ b3) (by omega) (by omega) (fun i _ => fits_int _) hframes hlocals hdg (fun H1 locs1 hP1 hD1 hS1 => ?_)
  have ex : (fun j : Nat => Int32.ofInt (cpM M x sp.toInt y dp.toInt n.toInt y j)) = va_cpy (fun j : Nat => Int32.ofInt (M x j)) (fun j : Nat => Int32.ofInt (M y j)) sp.toNatClampNeg dp.toNatClampNeg n.toNatClampNeg := by
    funext j
    unfold va_cpy cpM
    by_cases q : dp.toNatClampNeg ≤ j ∧ j < dp.toNatClampNeg + n.toNatClampNeg
    · rw [if_pos q, if_pos ⟨rfl, by omega, by omega⟩]
      congr 2
      omega
    · rw [if_neg q, if_neg (fun z => q ⟨by omega, by omega⟩)]
  refine kk _ H1 locs1 h ⟨hP.1, hP.2.1, ?_, ?_⟩ hS1
  · rw [← wsM_set2 hy.1 hy.2.1 (M2 := cpM M x sp.toInt y dp.toInt n.toInt) (fun a j ha => by unfold cpM; rw [if_neg (fun z => ha z.1)]), cE_ints hy (by decide) (by decide), ex]
    exact hP1
  · intro a j
    have h14 : ∀ b : Nat, stT S x b = 0 := fun b => by simp [stT, hx.2.2]
    unfold cpM
    by_cases q : a = y ∧ dp.toInt ≤ (j : Int) ∧ (j : Int) < dp.toInt + n.toInt
    · rw [if_pos q]
      obtain ⟨rfl, q1, q2⟩ := q
      have hr := (hP.R x (sp.toNatClampNeg + (j - dp.toNatClampNeg))).1 (h14 _)
      have ei : (((sp.toNatClampNeg + (j - dp.toNatClampNeg) : Nat)) : Int) = sp.toInt + ((j : Int) - dp.toInt) := by omega
      rw [ei] at hr
      exact ⟨fun _ => hr, fun z => by simp [stT, hy.2.2] at z⟩
    · rw [if_neg q]
      exact hP.R a j
theorem r_aret {post : Int → Mm → Prop} {rt : FieldType} (hexec : p.tables.exec = Jvm.exec) (hb : c.code = cc) (hr : meth.sig.returnType = some rt) (hrt : (∃ n, rt = .object n) ∨ ∃ t, rt = .array t) (hlocks : meth.locks = false) (hP : Wd D G S M H) (hS : va_S (aG G) s.heap H locs) {x : Int} (hdg : decode cc pc = .ok (.areturn, 1)) (h : post x M) : W p l e R s m args below meth c H locs cells slots (MQ below (QR D G S post) args s cells slots (aG G)) (F0 m pc ls [.ref (adr G x)]) := W.aret hexec hb hr hrt (Or.inr ⟨_, rfl⟩) (fun t ht hW => ⟨⟨(x, M), adr G x, rfl, h, rfl, by show Wd D G S M t.heap; rw [ht]; exact hP⟩, hS.F ht⟩) hS.2.2 hdg hlocks
theorem q_Sr (hexec : p.tables.exec = Jvm.exec) (hb : c.code = cc) {nL : Nat} (hml : c.maxLocals = nL) {own : String} (hown : s.vm.findClass own = some m.cls) {Ts : List Cond} (hts : ∀ w ∈ Ts, w.before args s = true) (hK : KN D G s) (hP : Wd D G S M H) (hS : va_S (aG G) s.heap H locs) {y : MethodName} {ws : List Cond} {rm : Room} {post : Int → Mm → Prop} {As : List Value} (hM : Met l y ws rm (PC D G S M As) (QR D G S post) 0 0 (aG G)) {index n maxL : Nat} {bytes : ByteArray} {ret : Option FieldType} (cw : CallB R s args own index y bytes maxL ret ws rm 0 0 n ∧ (Cond.static y).before args s = true) (hn : As.length = n) (hsize : ls.size = nL) {st0 : List Value} (hstack : st0 = As.reverse ++ rest) (hW : 2 * (F0 m pc ls st0).monitorRoom + (rest.map fun v => v.category).sum ≤ 8) (hdg : decode cc pc = .ok (.invokestatic index, 3)) (hf : cells + 0 ≤ R.cells ∧ slots + 0 ≤ R.slots) (kk : ∀ (z : Int) (M1 : Mm) (H1 : Heap) (locs1 : List Loc), post z M1 → Wd D G S M1 H1 → va_S (aG G) s.heap H1 locs1 → W p l e R s m args below meth c H1 locs1 cells slots Q (F0 m (pc + 3) ls (.ref (adr G z) :: rest))) : W p l e R s m args below meth c H locs cells slots Q (F0 m pc ls st0) := by
  refine va_callr (A1 := aG G) (va_runS (As := As) (rest := rest) ⟨hexec, hb, hml, hown, hts⟩ hM cw ⟨PC_blind, fun U hU hW => ⟨rfl, hK.on hS hU hW, by rw [hU]; exact hP⟩⟩ rfl hn hsize hstack hW hdg hf) hS (fun q _ h => h) (fun q h => h) (fun u ra t H1 locs1 ht hvm hw hB hz hk hS1 => ?_)
  obtain ⟨e1, e2⟩ := hB
  subst e1
  exact kk u.1 u.2 H1 locs1 hw (by rw [← ht]; exact e2) hS1
theorem q_Ti (hexec : p.tables.exec = Jvm.exec) (hb : c.code = cc) {nL : Nat} (hml : c.maxLocals = nL) {own : String} (hown : s.vm.findClass own = some m.cls) {Ts : List Cond} (hts : ∀ w ∈ Ts, w.before args s = true) (hK : KN D G s) (hP : Wd D G S M H) (hS : va_S (aG G) s.heap H locs) {y : MethodName} {ws : List Cond} {rm : Room} {post : Int → Mm → Prop} {As : List Value} {k : Nat} (hk : k < txN) (hM : Met l y ws rm (PC D G S M (.ref (gK G k) :: As)) (QI D G S post) 0 0 (aG G)) {index n maxL : Nat} {bytes : ByteArray} {ret : Option FieldType} (cw : CallW R s args own "java/lang/String" index y bytes maxL ret ws rm 0 0 n) (hn : As.length = n) (hsize : ls.size = nL) {st0 : List Value} (hstack : st0 = As.reverse ++ .ref (gK G k) :: rest) (hW : 2 * (F0 m pc ls st0).monitorRoom + (rest.map fun v => v.category).sum ≤ 8) (hdg : decode cc pc = .ok (.invokevirtual index, 3)) (hf : cells + 0 ≤ R.cells ∧ slots + 0 ≤ R.slots) (kk : ∀ (z : Int32) (M1 : Mm) (H1 : Heap) (locs1 : List Loc), post z.toInt M1 → Wd D G S M1 H1 → va_S (aG G) s.heap H1 locs1 → W p l e R s m args below meth c H1 locs1 cells slots Q (F0 m (pc + 3) ls (.int z :: rest))) : W p l e R s m args below meth c H locs cells slots Q (F0 m pc ls st0) := 
  va_calli (A1 := aG G) (va_runV (As := As) (rest := rest) (b := gK G k) ⟨hexec, hb, hml, hown, hts⟩ hM cw ⟨PC_blind, vk_recv hK.2.2.2.1 hk hS, fun U hU hW => ⟨rfl, hK.on hS hU hW, by rw [hU]; exact hP⟩⟩ rfl hn hsize hstack hW hdg hf) hS (fun q _ h => h) (fun q h => h) (fun r u t H1 locs1 ht hvm hw hB hz hk hS1 => kk r u H1 locs1 hw (by rw [← ht]; exact hB) hS1)
theorem q_Tx (hexec : p.tables.exec = Jvm.exec) (hb : c.code = cc) {nL : Nat} (hml : c.maxLocals = nL) {own : String} (hown : s.vm.findClass own = some m.cls) {Ts : List Cond} (hts : ∀ w ∈ Ts, w.before args s = true) (hK : KN D G s) (hP : Wd D G S M H) (hS : va_S (aG G) s.heap H locs) {y : MethodName} {ws : List Cond} {rm : Room} {post : Int → Mm → Prop} {As : List Value} {x : Int} {k : Nat} (hk : k < txN) (hx9 : x = -3 - (k : Int)) (hM : Met l y ws rm (PC D G S M (.ref (gK G k) :: As)) (QI D G S post) 0 0 (aG G)) {index n maxL : Nat} {bytes : ByteArray} {ret : Option FieldType} (cw : CallW R s args own "java/lang/String" index y bytes maxL ret ws rm 0 0 n) (hn : As.length = n) (hsize : ls.size = nL) {st0 : List Value} (hstack : st0 = As.reverse ++ .ref (adr G x) :: rest) (hW : 2 * (F0 m pc ls st0).monitorRoom + (rest.map fun v => v.category).sum ≤ 8) (hdg : decode cc pc = .ok (.invokevirtual index, 3)) (hf : cells + 0 ≤ R.cells ∧ slots + 0 ≤ R.slots) (kk : ∀ (z : Int32) (M1 : Mm) (H1 : Heap) (locs1 : List Loc), post z.toInt M1 → Wd D G S M1 H1 → va_S (aG G) s.heap H1 locs1 → W p l e R s m args below meth c H1 locs1 cells slots Q (F0 m (pc + 3) ls (.int z :: rest))) : W p l e R s m args below meth c H locs cells slots Q (F0 m pc ls st0) := by
  have e9 : adr G x = gK G k := by rw [hx9]; exact adr_tx
  rw [e9] at hstack
  exact q_Ti hexec hb hml hown hts hK hP hS hk hM cw hn hsize hstack hW hdg hf kk
def wPutR (S : Sh) (M : Mm) (x : Int) (ci k : Nat) (v : Int) (K : Mm → Prop) : Prop := isK S x ci ∧ v ≠ -1 ∧ K (up M x k v)
theorem r_xret {post : Int → Mm → Prop} {ty : FieldType} (hexec : p.tables.exec = Jvm.exec) (hb : c.code = cc) (hr : meth.sig.returnType = some ty) (hlocks : meth.locks = false) (hP : Wd D G S M H) (hS : va_S (aG G) s.heap H locs) {v : Int32} (hn : narrow ty (.int v) = .int v) (hdg : decode cc pc = .ok (.ireturn, 1)) (h : post v.toInt M) : W p l e R s m args below meth c H locs cells slots (MQ below (QI D G S post) args s cells slots (aG G)) (F0 m pc ls [.int v]) := W.zret hexec hb hr hn (fun t ht hW => ⟨⟨v, M, rfl, h, by show Wd D G S M t.heap; rw [ht]; exact hP⟩, hS.F ht⟩) hS.2.2 hdg hlocks
theorem r_mmin (hexec : p.tables.exec = Jvm.exec) (hb : c.code = cc) (hml : c.maxLocals = ls.size) {own : String} {index : Nat} (hown : s.vm.findClass own = some m.cls) (hlink : (Cond.methodLink own index Lib.Math.min.name).before args s = true) (hstat : (Cond.static Lib.Math.min.name).before args s = true) (hini : (Cond.initialized "java/lang/Math").before args s = true) (hcode : (Cond.code Lib.Math.min.name Lib.Math.min.code 2 (some .int)).before args s = true) (hframes : 1 ≤ R.frames) (hlocals : (rest.map fun v => v.category).sum + 13 ≤ R.locals) (hc : cells ≤ R.cells) (hs : slots ≤ R.slots) {x y : Int32} (hdg : decode cc pc = .ok (.invokestatic index, 3)) (h : wO min x.toInt y.toInt K) (kk : ∀ z : Int32, K z.toInt → W p l e R s m args below meth c H locs cells slots Q (F0 m (pc + 3) ls (.int z :: rest))) : W p l e R s m args below meth c H locs cells slots Q (F0 m pc ls (.int y :: .int x :: rest)) := by
  refine va_mmin hexec hb hml hown hlink hstat hini hcode hframes hlocals hc hs hdg (kk _ ?_)
  have h1 : K (min x.toInt y.toInt) := h
  refine Eq.mp (congrArg K ?_) h1
  split <;> rename_i q <;> simp only [gt_iff_lt, ge_iff_le, Int32.lt_iff_toInt_lt, Int32.le_iff_toInt_le] at q <;> omega
theorem r_mmax (hexec : p.tables.exec = Jvm.exec) (hb : c.code = cc) (hml : c.maxLocals = ls.size) {own : String} {index : Nat} (hown : s.vm.findClass own = some m.cls) (hlink : (Cond.methodLink own index Lib.Math.max.name).before args s = true) (hstat : (Cond.static Lib.Math.max.name).before args s = true) (hini : (Cond.initialized "java/lang/Math").before args s = true) (hcode : (Cond.code Lib.Math.max.name Lib.Math.max.code 2 (some .int)).before args s = true) (hframes : 1 ≤ R.frames) (hlocals : (rest.map fun v => v.category).sum + 13 ≤ R.locals) (hc : cells ≤ R.cells) (hs : slots ≤ R.slots) {x y : Int32} (hdg : decode cc pc = .ok (.invokestatic index, 3)) (h : wO max x.toInt y.toInt K) (kk : ∀ z : Int32, K z.toInt → W p l e R s m args below meth c H locs cells slots Q (F0 m (pc + 3) ls (.int z :: rest))) : W p l e R s m args below meth c H locs cells slots Q (F0 m pc ls (.int y :: .int x :: rest)) := by
  refine va_mmax hexec hb hml hown hlink hstat hini hcode hframes hlocals hc hs hdg (kk _ ?_)
  have h1 : K (max x.toInt y.toInt) := h
  refine Eq.mp (congrArg K ?_) h1
  split <;> rename_i q <;> simp only [gt_iff_lt, ge_iff_le, Int32.lt_iff_toInt_lt, Int32.le_iff_toInt_le] at q <;> omega
theorem r_mminl (hexec : p.tables.exec = Jvm.exec) (hb : c.code = cc) (hml : c.maxLocals = ls.size) {own : String} {index : Nat} (hown : s.vm.findClass own = some m.cls) (hlink : (Cond.methodLink own index Lib.MathLoose.min_long.x).before args s = true) (hstat : (Cond.static Lib.MathLoose.min_long.x).before args s = true) (hini : (Cond.initialized "java/lang/Math").before args s = true) (hcode : (Cond.code Lib.MathLoose.min_long.x Lib.MathLoose.min_long.code 4 (some .long)).before args s = true) (hframes : 1 ≤ R.frames) (hlocals : (rest.map fun v => v.category).sum + 15 ≤ R.locals) (hc : cells ≤ R.cells) (hs : slots ≤ R.slots) {x y : Int64} (hdg : decode cc pc = .ok (.invokestatic index, 3)) (h : wO min x.toInt y.toInt K) (kk : ∀ z : Int64, K z.toInt → W p l e R s m args below meth c H locs cells slots Q (F0 m (pc + 3) ls (.long z :: rest))) : W p l e R s m args below meth c H locs cells slots Q (F0 m pc ls (.long y :: .long x :: rest)) := by
  refine va_mmin_long hexec hb hml hown hlink hstat hini hcode hframes hlocals hc hs hdg (kk _ ?_)
  have h1 : K (min x.toInt y.toInt) := h
  refine Eq.mp (congrArg K ?_) h1
  split <;> rename_i q <;> simp only [gt_iff_lt, ge_iff_le, Int64.lt_iff_toInt_lt, Int64.le_iff_toInt_le] at q <;> omega
theorem r_mmaxl (hexec : p.tables.exec = Jvm.exec) (hb : c.code = cc) (hml : c.maxLocals = ls.size) {own : String} {index : Nat} (hown : s.vm.findClass own = some m.cls) (hlink : (Cond.methodLink own index Lib.MathLoose.max_long.x).before args s = true) (hstat : (Cond.static Lib.MathLoose.max_long.x).before args s = true) (hini : (Cond.initialized "java/lang/Math").before args s = true) (hcode : (Cond.code Lib.MathLoose.max_long.x Lib.MathLoose.max_long.code 4 (some .long)).before args s = true) (hframes : 1 ≤ R.frames) (hlocals : (rest.map fun v => v.category).sum + 15 ≤ R.locals) (hc : cells ≤ R.cells) (hs : slots ≤ R.slots) {x y : Int64} (hdg : decode cc pc = .ok (.invokestatic index, 3)) (h : wO max x.toInt y.toInt K) (kk : ∀ z : Int64, K z.toInt → W p l e R s m args below meth c H locs cells slots Q (F0 m (pc + 3) ls (.long z :: rest))) : W p l e R s m args below meth c H locs cells slots Q (F0 m pc ls (.long y :: .long x :: rest)) := by
  refine va_mmax_long hexec hb hml hown hlink hstat hini hcode hframes hlocals hc hs hdg (kk _ ?_)
  have h1 : K (max x.toInt y.toInt) := h
  refine Eq.mp (congrArg K ?_) h1
  split <;> rename_i q <;> simp only [gt_iff_lt, ge_iff_le, Int64.lt_iff_toInt_lt, Int64.le_iff_toInt_le] at q <;> omega
end ROWS3
