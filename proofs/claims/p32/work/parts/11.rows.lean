section
def w32 (x : Int) : Int := x.bmod 4294967296
def w64 (x : Int) : Int := x.bmod 18446744073709551616
theorem w32_id {x : Int} (h : -2147483648 ≤ x) (h2 : x ≤ 2147483647) : w32 x = x := by
  unfold w32
  rw [Int.bmod_def]
  split <;> omega
theorem w64_id {x : Int} (h : -9223372036854775808 ≤ x) (h2 : x ≤ 9223372036854775807) : w64 x = x := by
  unfold w64
  rw [Int.bmod_def]
  split <;> omega
theorem w32_r (x : Int) : r32 (w32 x) := by
  unfold w32 r32
  rw [Int.bmod_def]
  split <;> omega
theorem w64_r (x : Int) : r64 (w64 x) := by
  unfold w64 r64
  rw [Int.bmod_def]
  split <;> omega
theorem k32_r (k : Int32) : r32 k.toInt := ⟨Int32.le_toInt k, by have := Int32.toInt_lt k; omega⟩
theorem k64_r (k : Int64) : r64 k.toInt := ⟨Int64.le_toInt k, by have := Int64.toInt_lt k; omega⟩
def o32 (f : Int32 → Int32 → Int32) (a b : Int) : Int := (f (Int32.ofInt a) (Int32.ofInt b)).toInt
def o64 (f : Int64 → Int64 → Int64) (a b : Int) : Int := (f (Int64.ofInt a) (Int64.ofInt b)).toInt
theorem o32_k (f : Int32 → Int32 → Int32) (x y : Int32) : o32 f x.toInt y.toInt = (f x y).toInt := by unfold o32; rw [ofInt_toInt32, ofInt_toInt32]
theorem o64_k (f : Int64 → Int64 → Int64) (x y : Int64) : o64 f x.toInt y.toInt = (f x y).toInt := by unfold o64; rw [ofInt_toInt64, ofInt_toInt64]
def iAnd : Int → Int → Int := o32 (fun x y => x &&& y)
def iOr : Int → Int → Int := o32 (fun x y => x ||| y)
def iShl : Int → Int → Int := o32 (fun x y => x <<< (y &&& 31))
def iShr : Int → Int → Int := o32 (fun x y => x >>> (y &&& 31))
def iUshr : Int → Int → Int := o32 (fun x y => (x.toUInt32 >>> (y.toUInt32 &&& Int32.toUInt32 31)).toInt32)
def iRem : Int → Int → Int := o32 (fun x y => x - x / y * y)
def iDiv : Int → Int → Int := o32 (fun x y => x / y)
def lAnd : Int → Int → Int := o64 (fun x y => x &&& y)
def lOr : Int → Int → Int := o64 (fun x y => x ||| y)
def lRem : Int → Int → Int := o64 (fun x y => x - x / y * y)
def lDiv : Int → Int → Int := o64 (fun x y => x / y)
def lShl (a b : Int) : Int := (Int64.ofInt a <<< ((Int32.ofInt b).toInt64 &&& 63)).toInt
def i2b (a : Int) : Int := ((Int32.ofInt a).toInt8.toInt32).toInt
def i2c (a : Int) : Int := (((Int32.ofInt a).toUInt32 % 65536).toInt32).toInt
def wC (v : Int) (K : Int → Prop) : Prop := K v
def wA (a b : Int) (K : Int → Prop) : Prop := K (w32 (a + b))
def wS (a b : Int) (K : Int → Prop) : Prop := K (w32 (a - b))
def wM (a b : Int) (K : Int → Prop) : Prop := K (w32 (a * b))
def wO (f : Int → Int → Int) (a b : Int) (K : Int → Prop) : Prop := K (f a b)
def wO1 (f : Int → Int) (a : Int) (K : Int → Prop) : Prop := K (f a)
def wD (f : Int → Int → Int) (a b : Int) (K : Int → Prop) : Prop := b ≠ 0 ∧ K (f a b)
def wLA (a b : Int) (K : Int → Prop) : Prop := K (w64 (a + b))
def wLS (a b : Int) (K : Int → Prop) : Prop := K (w64 (a - b))
def wLM (a b : Int) (K : Int → Prop) : Prop := K (w64 (a * b))
def wCmp (a b : Int) (K : Int → Prop) : Prop := K (if a < b then -1 else if a = b then 0 else 1)
def wIf (c A B : Prop) : Prop := (c → A) ∧ (¬ c → B)
def wGet (S : Sh) (M : Mm) (x : Int) (ci k : Nat) (K : Int → Prop) : Prop := isK S x ci ∧ K (M x k)
def wGetR (S : Sh) (M : Mm) (x : Int) (ci k : Nat) (K : Int → Prop) : Prop := isK S x ci ∧ M x k ≠ -1 ∧ K (M x k)
def wPut (S : Sh) (M : Mm) (x : Int) (ci k : Nat) (v : Int) (K : Mm → Prop) : Prop := isK S x ci ∧ K (up M x k v)
def wPutZ (S : Sh) (M : Mm) (x : Int) (ci k : Nat) (v : Int) (K : Mm → Prop) : Prop := isK S x ci ∧ (v = 0 ∨ v = 1) ∧ K (up M x k v)
def wLd (S : Sh) (M : Mm) (x : Int) (ci : Nat) (i : Int) (K : Int → Prop) : Prop := isK S x ci ∧ (0 ≤ i ∧ i < S.2.2 x) ∧ K (M x i)
def wLdR (S : Sh) (M : Mm) (x : Int) (ci : Nat) (i : Int) (K : Int → Prop) : Prop := isK S x ci ∧ (0 ≤ i ∧ i < S.2.2 x) ∧ M x i ≠ -1 ∧ K (M x i)
def wSt (S : Sh) (M : Mm) (x : Int) (ci : Nat) (i v : Int) (K : Mm → Prop) : Prop := isK S x ci ∧ (0 ≤ i ∧ i < S.2.2 x) ∧ K (up M x i v)
def wStB (S : Sh) (M : Mm) (x : Int) (ci : Nat) (i v : Int) (K : Mm → Prop) : Prop := isK S x ci ∧ (0 ≤ i ∧ i < S.2.2 x) ∧ (-128 ≤ v ∧ v ≤ 127) ∧ K (up M x i v)
def wStZ (S : Sh) (M : Mm) (x : Int) (ci : Nat) (i v : Int) (K : Mm → Prop) : Prop := isK S x ci ∧ (0 ≤ i ∧ i < S.2.2 x) ∧ (v = 0 ∨ v = 1) ∧ K (up M x i v)
def wLen (S : Sh) (x : Int) (ci : Nat) (K : Int → Prop) : Prop := (x = -2 ∧ K 0) ∨ (isK S x ci ∧ (S.2.2 x : Int) ≤ 2147483647 ∧ K (S.2.2 x))
theorem nar_z {v : Int32} (h : v.toInt = 0 ∨ v.toInt = 1) : narrow .boolean (.int v) = .int v := by
  rcases h with h | h
  · have : v = 0 := Int32.toInt_inj.mp h
    subst this; rfl
  · have : v = 1 := Int32.toInt_inj.mp h
    subst this; rfl
theorem fit_z {v : Int32} (h : v.toInt = 0 ∨ v.toInt = 1) : fits .boolean (.int v) = true := by
  rcases h with h | h
  · have : v = 0 := Int32.toInt_inj.mp h
    subst this; rfl
  · have : v = 1 := Int32.toInt_inj.mp h
    subst this; rfl
section ROWS
variable {p : Program} {l : Launch} {e : Env} {R : Room} {s : State} {m : MethodId} {args : Array Value} {below : List Frame} {meth : Method} {c : Code} {H : Heap} {locs : List Loc} {cells slots : Nat} {Q : State → Prop} {cc : ByteArray} {pc : Nat} {ls : Array Slot} {rest : List Value} {K : Int → Prop} {D : va_G} {G : Gt} {S : Sh} {M : Mm} {H0 : Heap}
theorem r_iadd (hexec : p.tables.exec = Jvm.exec) (hb : c.code = cc) {x y : Int32} (hdg : decode cc pc = .ok (.iadd, 1)) (h : wA x.toInt y.toInt K) (kk : ∀ z : Int32, K z.toInt → W p l e R s m args below meth c H locs cells slots Q (F0 m (pc + 1) ls (.int z :: rest))) : W p l e R s m args below meth c H locs cells slots Q (F0 m pc ls (.int y :: .int x :: rest)) := lv_iadd hexec hb hdg (kk _ (by rw [Int32.toInt_add]; exact h))
theorem r_isub (hexec : p.tables.exec = Jvm.exec) (hb : c.code = cc) {x y : Int32} (hdg : decode cc pc = .ok (.isub, 1)) (h : wS x.toInt y.toInt K) (kk : ∀ z : Int32, K z.toInt → W p l e R s m args below meth c H locs cells slots Q (F0 m (pc + 1) ls (.int z :: rest))) : W p l e R s m args below meth c H locs cells slots Q (F0 m pc ls (.int y :: .int x :: rest)) := lv_isub hexec hb hdg (kk _ (by rw [Int32.toInt_sub]; exact h))
theorem r_imul (hexec : p.tables.exec = Jvm.exec) (hb : c.code = cc) {x y : Int32} (hdg : decode cc pc = .ok (.imul, 1)) (h : wM x.toInt y.toInt K) (kk : ∀ z : Int32, K z.toInt → W p l e R s m args below meth c H locs cells slots Q (F0 m (pc + 1) ls (.int z :: rest))) : W p l e R s m args below meth c H locs cells slots Q (F0 m pc ls (.int y :: .int x :: rest)) := lv_imul hexec hb hdg (kk _ (by rw [Int32.toInt_mul]; exact h))
theorem r_iand (hexec : p.tables.exec = Jvm.exec) (hb : c.code = cc) {x y : Int32} (hdg : decode cc pc = .ok (.iand, 1)) (h : wO iAnd x.toInt y.toInt K) (kk : ∀ z : Int32, K z.toInt → W p l e R s m args below meth c H locs cells slots Q (F0 m (pc + 1) ls (.int z :: rest))) : W p l e R s m args below meth c H locs cells slots Q (F0 m pc ls (.int y :: .int x :: rest)) := lv_iand hexec hb hdg (kk _ (by have h1 := h; unfold wO iAnd at h1; rw [o32_k] at h1; exact h1))
theorem r_ior (hexec : p.tables.exec = Jvm.exec) (hb : c.code = cc) {x y : Int32} (hdg : decode cc pc = .ok (.ior, 1)) (h : wO iOr x.toInt y.toInt K) (kk : ∀ z : Int32, K z.toInt → W p l e R s m args below meth c H locs cells slots Q (F0 m (pc + 1) ls (.int z :: rest))) : W p l e R s m args below meth c H locs cells slots Q (F0 m pc ls (.int y :: .int x :: rest)) := lv_ior hexec hb hdg (kk _ (by have h1 := h; unfold wO iOr at h1; rw [o32_k] at h1; exact h1))
theorem r_ishl (hexec : p.tables.exec = Jvm.exec) (hb : c.code = cc) {x y : Int32} (hdg : decode cc pc = .ok (.ishl, 1)) (h : wO iShl x.toInt y.toInt K) (kk : ∀ z : Int32, K z.toInt → W p l e R s m args below meth c H locs cells slots Q (F0 m (pc + 1) ls (.int z :: rest))) : W p l e R s m args below meth c H locs cells slots Q (F0 m pc ls (.int y :: .int x :: rest)) := lv_ishl hexec hb hdg (kk _ (by have h1 := h; unfold wO iShl at h1; rw [o32_k] at h1; exact h1))
theorem r_ishr (hexec : p.tables.exec = Jvm.exec) (hb : c.code = cc) {x y : Int32} (hdg : decode cc pc = .ok (.ishr, 1)) (h : wO iShr x.toInt y.toInt K) (kk : ∀ z : Int32, K z.toInt → W p l e R s m args below meth c H locs cells slots Q (F0 m (pc + 1) ls (.int z :: rest))) : W p l e R s m args below meth c H locs cells slots Q (F0 m pc ls (.int y :: .int x :: rest)) := lv_ishr hexec hb hdg (kk _ (by have h1 := h; unfold wO iShr at h1; rw [o32_k] at h1; exact h1))
theorem r_iushr (hexec : p.tables.exec = Jvm.exec) (hb : c.code = cc) {x y : Int32} (hdg : decode cc pc = .ok (.iushr, 1)) (h : wO iUshr x.toInt y.toInt K) (kk : ∀ z : Int32, K z.toInt → W p l e R s m args below meth c H locs cells slots Q (F0 m (pc + 1) ls (.int z :: rest))) : W p l e R s m args below meth c H locs cells slots Q (F0 m pc ls (.int y :: .int x :: rest)) := lv_iushr hexec hb hdg rfl (kk _ (by have h1 := h; unfold wO iUshr at h1; rw [o32_k] at h1; exact h1))
theorem r_idiv (hexec : p.tables.exec = Jvm.exec) (hb : c.code = cc) {x y : Int32} (hdg : decode cc pc = .ok (.idiv, 1)) (h : wD iDiv x.toInt y.toInt K) (kk : ∀ z : Int32, K z.toInt → W p l e R s m args below meth c H locs cells slots Q (F0 m (pc + 1) ls (.int z :: rest))) : W p l e R s m args below meth c H locs cells slots Q (F0 m pc ls (.int y :: .int x :: rest)) := lv_idiv hexec hb hdg (fun q => h.1 (by rw [q]; rfl)) (kk _ (by have h1 := h.2; unfold iDiv at h1; rw [o32_k] at h1; exact h1))
theorem r_irem (hexec : p.tables.exec = Jvm.exec) (hb : c.code = cc) {x y : Int32} (hdg : decode cc pc = .ok (.irem, 1)) (h : wD iRem x.toInt y.toInt K) (kk : ∀ z : Int32, K z.toInt → W p l e R s m args below meth c H locs cells slots Q (F0 m (pc + 1) ls (.int z :: rest))) : W p l e R s m args below meth c H locs cells slots Q (F0 m pc ls (.int y :: .int x :: rest)) := lv_irem hexec hb hdg (fun q => h.1 (by rw [q]; rfl)) (kk _ (by have h1 := h.2; unfold iRem at h1; rw [o32_k] at h1; exact h1))
theorem r_ladd (hexec : p.tables.exec = Jvm.exec) (hb : c.code = cc) {x y : Int64} (hdg : decode cc pc = .ok (.ladd, 1)) (h : wLA x.toInt y.toInt K) (kk : ∀ z : Int64, K z.toInt → W p l e R s m args below meth c H locs cells slots Q (F0 m (pc + 1) ls (.long z :: rest))) : W p l e R s m args below meth c H locs cells slots Q (F0 m pc ls (.long y :: .long x :: rest)) := lv_ladd hexec hb hdg (kk _ (by rw [Int64.toInt_add]; exact h))
theorem r_lsub (hexec : p.tables.exec = Jvm.exec) (hb : c.code = cc) {x y : Int64} (hdg : decode cc pc = .ok (.lsub, 1)) (h : wLS x.toInt y.toInt K) (kk : ∀ z : Int64, K z.toInt → W p l e R s m args below meth c H locs cells slots Q (F0 m (pc + 1) ls (.long z :: rest))) : W p l e R s m args below meth c H locs cells slots Q (F0 m pc ls (.long y :: .long x :: rest)) := lv_lsub hexec hb hdg (kk _ (by rw [Int64.toInt_sub]; exact h))
theorem r_lmul (hexec : p.tables.exec = Jvm.exec) (hb : c.code = cc) {x y : Int64} (hdg : decode cc pc = .ok (.lmul, 1)) (h : wLM x.toInt y.toInt K) (kk : ∀ z : Int64, K z.toInt → W p l e R s m args below meth c H locs cells slots Q (F0 m (pc + 1) ls (.long z :: rest))) : W p l e R s m args below meth c H locs cells slots Q (F0 m pc ls (.long y :: .long x :: rest)) := lv_lmul hexec hb hdg (kk _ (by rw [Int64.toInt_mul]; exact h))
theorem r_land (hexec : p.tables.exec = Jvm.exec) (hb : c.code = cc) {x y : Int64} (hdg : decode cc pc = .ok (.land, 1)) (h : wO lAnd x.toInt y.toInt K) (kk : ∀ z : Int64, K z.toInt → W p l e R s m args below meth c H locs cells slots Q (F0 m (pc + 1) ls (.long z :: rest))) : W p l e R s m args below meth c H locs cells slots Q (F0 m pc ls (.long y :: .long x :: rest)) := lv_land hexec hb hdg (kk _ (by have h1 := h; unfold wO lAnd at h1; rw [o64_k] at h1; exact h1))
theorem r_lor (hexec : p.tables.exec = Jvm.exec) (hb : c.code = cc) {x y : Int64} (hdg : decode cc pc = .ok (.lor, 1)) (h : wO lOr x.toInt y.toInt K) (kk : ∀ z : Int64, K z.toInt → W p l e R s m args below meth c H locs cells slots Q (F0 m (pc + 1) ls (.long z :: rest))) : W p l e R s m args below meth c H locs cells slots Q (F0 m pc ls (.long y :: .long x :: rest)) := lv_lor hexec hb hdg (kk _ (by have h1 := h; unfold wO lOr at h1; rw [o64_k] at h1; exact h1))
theorem r_ldiv (hexec : p.tables.exec = Jvm.exec) (hb : c.code = cc) {x y : Int64} (hdg : decode cc pc = .ok (.ldiv, 1)) (h : wD lDiv x.toInt y.toInt K) (kk : ∀ z : Int64, K z.toInt → W p l e R s m args below meth c H locs cells slots Q (F0 m (pc + 1) ls (.long z :: rest))) : W p l e R s m args below meth c H locs cells slots Q (F0 m pc ls (.long y :: .long x :: rest)) := lv_ldiv hexec hb hdg (fun q => h.1 (by rw [q]; rfl)) (kk _ (by have h1 := h.2; unfold lDiv at h1; rw [o64_k] at h1; exact h1))
theorem r_lrem (hexec : p.tables.exec = Jvm.exec) (hb : c.code = cc) {x y : Int64} (hdg : decode cc pc = .ok (.lrem, 1)) (h : wD lRem x.toInt y.toInt K) (kk : ∀ z : Int64, K z.toInt → W p l e R s m args below meth c H locs cells slots Q (F0 m (pc + 1) ls (.long z :: rest))) : W p l e R s m args below meth c H locs cells slots Q (F0 m pc ls (.long y :: .long x :: rest)) := lv_lrem hexec hb hdg (fun q => h.1 (by rw [q]; rfl)) (kk _ (by have h1 := h.2; unfold lRem at h1; rw [o64_k] at h1; exact h1))
theorem r_lshl (hexec : p.tables.exec = Jvm.exec) (hb : c.code = cc) {x : Int64} {y : Int32} (hdg : decode cc pc = .ok (.lshl, 1)) (h : wO lShl x.toInt y.toInt K) (kk : ∀ z : Int64, K z.toInt → W p l e R s m args below meth c H locs cells slots Q (F0 m (pc + 1) ls (.long z :: rest))) : W p l e R s m args below meth c H locs cells slots Q (F0 m pc ls (.int y :: .long x :: rest)) := lv_lshl hexec hb hdg rfl (kk _ (by have h1 := h; unfold wO lShl at h1; rw [ofInt_toInt32, ofInt_toInt64] at h1; exact h1))
theorem r_lcmp (hexec : p.tables.exec = Jvm.exec) (hb : c.code = cc) {x y : Int64} (hdg : decode cc pc = .ok (.lcmp, 1)) (h : wCmp x.toInt y.toInt K) (kk : ∀ z : Int32, K z.toInt → W p l e R s m args below meth c H locs cells slots Q (F0 m (pc + 1) ls (.int z :: rest))) : W p l e R s m args below meth c H locs cells slots Q (F0 m pc ls (.long y :: .long x :: rest)) := by
  refine W.lcmp hexec hb hdg (kk _ ?_)
  have e : (lg_cmp x y).toInt = (if x.toInt < y.toInt then -1 else if x.toInt = y.toInt then 0 else 1) := by
    unfold lg_cmp
    simp only [Int64.lt_iff_toInt_lt, ← Int64.toInt_inj, gt_iff_lt, beq_iff_eq]
    split <;> (try split) <;> (try split)
    all_goals first | rfl | omega
  rw [e]
  exact h
theorem r_i2l (hexec : p.tables.exec = Jvm.exec) (hb : c.code = cc) {x : Int32} (hdg : decode cc pc = .ok (.i2l, 1)) (h : wC x.toInt K) (kk : ∀ z : Int64, K z.toInt → W p l e R s m args below meth c H locs cells slots Q (F0 m (pc + 1) ls (.long z :: rest))) : W p l e R s m args below meth c H locs cells slots Q (F0 m pc ls (.int x :: rest)) := lv_i2l hexec hb hdg rfl (kk _ (by rw [Int32.toInt_toInt64]; exact h))
theorem r_l2i (hexec : p.tables.exec = Jvm.exec) (hb : c.code = cc) {x : Int64} (hdg : decode cc pc = .ok (.l2i, 1)) (h : wO1 w32 x.toInt K) (kk : ∀ z : Int32, K z.toInt → W p l e R s m args below meth c H locs cells slots Q (F0 m (pc + 1) ls (.int z :: rest))) : W p l e R s m args below meth c H locs cells slots Q (F0 m pc ls (.long x :: rest)) := lv_l2i hexec hb hdg rfl (kk _ (by rw [Int64.toInt_toInt32]; exact h))
theorem r_i2b (hexec : p.tables.exec = Jvm.exec) (hb : c.code = cc) {x : Int32} (hdg : decode cc pc = .ok (.i2b, 1)) (h : wO1 i2b x.toInt K) (kk : ∀ z : Int32, K z.toInt → W p l e R s m args below meth c H locs cells slots Q (F0 m (pc + 1) ls (.int z :: rest))) : W p l e R s m args below meth c H locs cells slots Q (F0 m pc ls (.int x :: rest)) := lv_i2b hexec hb hdg rfl (kk _ (by have h1 := h; unfold wO1 i2b at h1; rw [ofInt_toInt32] at h1; exact h1))
theorem r_iconst (hexec : p.tables.exec = Jvm.exec) (hb : c.code = cc) {n : Int} (hdg : decode cc pc = .ok (.iconst n, 1)) (hv : (Int32.ofInt n).toInt = n) (h : wC n K) (kk : ∀ z : Int32, K z.toInt → W p l e R s m args below meth c H locs cells slots Q (F0 m (pc + 1) ls (.int z :: rest))) : W p l e R s m args below meth c H locs cells slots Q (F0 m pc ls rest) := lv_iconst hexec hb hdg rfl (kk _ (by rw [hv]; exact h))
theorem r_bipush (hexec : p.tables.exec = Jvm.exec) (hb : c.code = cc) {n : Int} (hdg : decode cc pc = .ok (.bipush n, 2)) (hv : ((Int8.ofInt n).toInt32).toInt = n) (h : wC n K) (kk : ∀ z : Int32, K z.toInt → W p l e R s m args below meth c H locs cells slots Q (F0 m (pc + 2) ls (.int z :: rest))) : W p l e R s m args below meth c H locs cells slots Q (F0 m pc ls rest) := lv_bipush hexec hb hdg rfl (kk _ (by rw [hv]; exact h))
theorem r_sipush (hexec : p.tables.exec = Jvm.exec) (hb : c.code = cc) {n : Int} (hdg : decode cc pc = .ok (.sipush n, 3)) (hv : ((Int16.ofInt n).toInt32).toInt = n) (h : wC n K) (kk : ∀ z : Int32, K z.toInt → W p l e R s m args below meth c H locs cells slots Q (F0 m (pc + 3) ls (.int z :: rest))) : W p l e R s m args below meth c H locs cells slots Q (F0 m pc ls rest) := lv_sipush hexec hb hdg rfl (kk _ (by rw [hv]; exact h))
theorem r_lconst (hexec : p.tables.exec = Jvm.exec) (hb : c.code = cc) {n : Fin 2} (hdg : decode cc pc = .ok (.lconst n, 1)) {v : Int} (hv : (Int64.ofNat (n : Nat)).toInt = v) (h : wC v K) (kk : ∀ z : Int64, K z.toInt → W p l e R s m args below meth c H locs cells slots Q (F0 m (pc + 1) ls (.long z :: rest))) : W p l e R s m args below meth c H locs cells slots Q (F0 m pc ls rest) := lv_lconst hexec hb hdg rfl (kk _ (by rw [hv]; exact h))
theorem r_ldc (hexec : p.tables.exec = Jvm.exec) (hb : c.code = cc) {own : String} {index : Nat} {v : Int32} (hown : s.vm.findClass own = some m.cls) (hconst : (Jvm.Cond.constant own index v).before args s = true) (hdg : decode cc pc = .ok (.ldc index, 2)) {n : Int} (hv : v.toInt = n) (h : wC n K) (kk : ∀ z : Int32, K z.toInt → W p l e R s m args below meth c H locs cells slots Q (F0 m (pc + 2) ls (.int z :: rest))) : W p l e R s m args below meth c H locs cells slots Q (F0 m pc ls rest) := lv_ldc hexec hb hown hconst hdg (kk _ (by rw [hv]; exact h))
theorem r_ldc2 (hexec : p.tables.exec = Jvm.exec) (hb : c.code = cc) {own : String} {index : Nat} {v : Int64} (hown : s.vm.findClass own = some m.cls) (hconst : (Jvm.Cond.constantLong own index v).before args s = true) (hdg : decode cc pc = .ok (.ldc2_w index, 3)) {n : Int} (hv : v.toInt = n) (h : wC n K) (kk : ∀ z : Int64, K z.toInt → W p l e R s m args below meth c H locs cells slots Q (F0 m (pc + 3) ls (.long z :: rest))) : W p l e R s m args below meth c H locs cells slots Q (F0 m pc ls rest) := lv_ldc2 hexec hb hown hconst hdg (kk _ (by rw [hv]; exact h))
theorem r_iinc (hexec : p.tables.exec = Jvm.exec) (hb : c.code = cc) {i nL k : Nat} {n : Int} {x : Int32} {lv : List (Nat × Value)} (lv' : Int32 → List (Nat × Value)) (hdg : decode cc pc = .ok (.iinc i n, 3)) (hn2 : (Int32.ofInt n).toInt = n) (h : lv_has ls nL lv) (hk : lv[k]? = some (i, .int x)) (hn : i < nL) (hl : ∀ v : Int32, (i, Value.int v) :: lv.filter (fun q => !(q.1 == i) && !(q.1 + 1 == i && q.2.category == 2)) = lv' v) (hw : wA x.toInt n K) (kk : ∀ (z : Int32) (ls' : Array Slot), lv_has ls' nL (lv' z) → K z.toInt → W p l e R s m args below meth c H locs cells slots Q (F0 m (pc + 3) ls' rest)) : W p l e R s m args below meth c H locs cells slots Q (F0 m pc ls rest) := lv_iinc hexec hb hdg h hk rfl hn (hl _) (fun ls' q => kk _ ls' q (by rw [Int32.toInt_add, hn2]; exact hw))
theorem r_icmp_eq (hexec : p.tables.exec = Jvm.exec) (hb : c.code = cc) {x y : Int32} {off : Int} {tgt : Nat} {A B : Prop} (hdg : decode cc pc = .ok (.if_icmp .eq off, 3)) (ht : (pc : Int) + off = (tgt : Int)) (h : wIf (x.toInt = y.toInt) A B) (kt : A → W p l e R s m args below meth c H locs cells slots Q (F0 m tgt ls rest)) (kf : B → W p l e R s m args below meth c H locs cells slots Q (F0 m (pc + 3) ls rest)) : W p l e R s m args below meth c H locs cells slots Q (F0 m pc ls (.int y :: .int x :: rest)) := lv_icmp_eq hexec hb hdg ht (fun q => kt (h.1 (by simp only [gt_iff_lt, ge_iff_le, Int32.lt_iff_toInt_lt, Int32.le_iff_toInt_le, ← Int32.toInt_inj, Int32.toInt_zero, ne_eq] at q ⊢; first | exact q | omega))) (fun q => kf (h.2 (by simp only [gt_iff_lt, ge_iff_le, Int32.lt_iff_toInt_lt, Int32.le_iff_toInt_le, ← Int32.toInt_inj, Int32.toInt_zero, ne_eq] at q ⊢; first | exact q | omega)))
theorem r_if_eq (hexec : p.tables.exec = Jvm.exec) (hb : c.code = cc) {x : Int32} {off : Int} {tgt : Nat} {A B : Prop} (hdg : decode cc pc = .ok (.ifCond .eq off, 3)) (ht : (pc : Int) + off = (tgt : Int)) (h : wIf (x.toInt = 0) A B) (kt : A → W p l e R s m args below meth c H locs cells slots Q (F0 m tgt ls rest)) (kf : B → W p l e R s m args below meth c H locs cells slots Q (F0 m (pc + 3) ls rest)) : W p l e R s m args below meth c H locs cells slots Q (F0 m pc ls (.int x :: rest)) := lv_if_eq hexec hb hdg ht (fun q => kt (h.1 (by simp only [gt_iff_lt, ge_iff_le, Int32.lt_iff_toInt_lt, Int32.le_iff_toInt_le, ← Int32.toInt_inj, Int32.toInt_zero, ne_eq] at q ⊢; first | exact q | omega))) (fun q => kf (h.2 (by simp only [gt_iff_lt, ge_iff_le, Int32.lt_iff_toInt_lt, Int32.le_iff_toInt_le, ← Int32.toInt_inj, Int32.toInt_zero, ne_eq] at q ⊢; first | exact q | omega)))
theorem r_icmp_ne (hexec : p.tables.exec = Jvm.exec) (hb : c.code = cc) {x y : Int32} {off : Int} {tgt : Nat} {A B : Prop} (hdg : decode cc pc = .ok (.if_icmp .ne off, 3)) (ht : (pc : Int) + off = (tgt : Int)) (h : wIf (¬ x.toInt = y.toInt) A B) (kt : A → W p l e R s m args below meth c H locs cells slots Q (F0 m tgt ls rest)) (kf : B → W p l e R s m args below meth c H locs cells slots Q (F0 m (pc + 3) ls rest)) : W p l e R s m args below meth c H locs cells slots Q (F0 m pc ls (.int y :: .int x :: rest)) := lv_icmp_ne hexec hb hdg ht (fun q => kt (h.1 (by simp only [gt_iff_lt, ge_iff_le, Int32.lt_iff_toInt_lt, Int32.le_iff_toInt_le, ← Int32.toInt_inj, Int32.toInt_zero, ne_eq] at q ⊢; first | exact q | omega))) (fun q => kf (h.2 (by simp only [gt_iff_lt, ge_iff_le, Int32.lt_iff_toInt_lt, Int32.le_iff_toInt_le, ← Int32.toInt_inj, Int32.toInt_zero, ne_eq] at q ⊢; first | exact q | omega)))
theorem r_if_ne (hexec : p.tables.exec = Jvm.exec) (hb : c.code = cc) {x : Int32} {off : Int} {tgt : Nat} {A B : Prop} (hdg : decode cc pc = .ok (.ifCond .ne off, 3)) (ht : (pc : Int) + off = (tgt : Int)) (h : wIf (¬ x.toInt = 0) A B) (kt : A → W p l e R s m args below meth c H locs cells slots Q (F0 m tgt ls rest)) (kf : B → W p l e R s m args below meth c H locs cells slots Q (F0 m (pc + 3) ls rest)) : W p l e R s m args below meth c H locs cells slots Q (F0 m pc ls (.int x :: rest)) := lv_if_ne hexec hb hdg ht (fun q => kt (h.1 (by simp only [gt_iff_lt, ge_iff_le, Int32.lt_iff_toInt_lt, Int32.le_iff_toInt_le, ← Int32.toInt_inj, Int32.toInt_zero, ne_eq] at q ⊢; first | exact q | omega))) (fun q => kf (h.2 (by simp only [gt_iff_lt, ge_iff_le, Int32.lt_iff_toInt_lt, Int32.le_iff_toInt_le, ← Int32.toInt_inj, Int32.toInt_zero, ne_eq] at q ⊢; first | exact q | omega)))
theorem r_icmp_lt (hexec : p.tables.exec = Jvm.exec) (hb : c.code = cc) {x y : Int32} {off : Int} {tgt : Nat} {A B : Prop} (hdg : decode cc pc = .ok (.if_icmp .lt off, 3)) (ht : (pc : Int) + off = (tgt : Int)) (h : wIf (x.toInt < y.toInt) A B) (kt : A → W p l e R s m args below meth c H locs cells slots Q (F0 m tgt ls rest)) (kf : B → W p l e R s m args below meth c H locs cells slots Q (F0 m (pc + 3) ls rest)) : W p l e R s m args below meth c H locs cells slots Q (F0 m pc ls (.int y :: .int x :: rest)) := lv_icmp_lt hexec hb hdg ht (fun q => kt (h.1 (by simp only [gt_iff_lt, ge_iff_le, Int32.lt_iff_toInt_lt, Int32.le_iff_toInt_le, ← Int32.toInt_inj, Int32.toInt_zero, ne_eq] at q ⊢; first | exact q | omega))) (fun q => kf (h.2 (by simp only [gt_iff_lt, ge_iff_le, Int32.lt_iff_toInt_lt, Int32.le_iff_toInt_le, ← Int32.toInt_inj, Int32.toInt_zero, ne_eq] at q ⊢; first | exact q | omega)))
theorem r_if_lt (hexec : p.tables.exec = Jvm.exec) (hb : c.code = cc) {x : Int32} {off : Int} {tgt : Nat} {A B : Prop} (hdg : decode cc pc = .ok (.ifCond .lt off, 3)) (ht : (pc : Int) + off = (tgt : Int)) (h : wIf (x.toInt < 0) A B) (kt : A → W p l e R s m args below meth c H locs cells slots Q (F0 m tgt ls rest)) (kf : B → W p l e R s m args below meth c H locs cells slots Q (F0 m (pc + 3) ls rest)) : W p l e R s m args below meth c H locs cells slots Q (F0 m pc ls (.int x :: rest)) := lv_if_lt hexec hb hdg ht (fun q => kt (h.1 (by simp only [gt_iff_lt, ge_iff_le, Int32.lt_iff_toInt_lt, Int32.le_iff_toInt_le, ← Int32.toInt_inj, Int32.toInt_zero, ne_eq] at q ⊢; first | exact q | omega))) (fun q => kf (h.2 (by simp only [gt_iff_lt, ge_iff_le, Int32.lt_iff_toInt_lt, Int32.le_iff_toInt_le, ← Int32.toInt_inj, Int32.toInt_zero, ne_eq] at q ⊢; first | exact q | omega)))
theorem r_icmp_ge (hexec : p.tables.exec = Jvm.exec) (hb : c.code = cc) {x y : Int32} {off : Int} {tgt : Nat} {A B : Prop} (hdg : decode cc pc = .ok (.if_icmp .ge off, 3)) (ht : (pc : Int) + off = (tgt : Int)) (h : wIf (y.toInt ≤ x.toInt) A B) (kt : A → W p l e R s m args below meth c H locs cells slots Q (F0 m tgt ls rest)) (kf : B → W p l e R s m args below meth c H locs cells slots Q (F0 m (pc + 3) ls rest)) : W p l e R s m args below meth c H locs cells slots Q (F0 m pc ls (.int y :: .int x :: rest)) := lv_icmp_ge hexec hb hdg ht (fun q => kt (h.1 (by simp only [gt_iff_lt, ge_iff_le, Int32.lt_iff_toInt_lt, Int32.le_iff_toInt_le, ← Int32.toInt_inj, Int32.toInt_zero, ne_eq] at q ⊢; first | exact q | omega))) (fun q => kf (h.2 (by simp only [gt_iff_lt, ge_iff_le, Int32.lt_iff_toInt_lt, Int32.le_iff_toInt_le, ← Int32.toInt_inj, Int32.toInt_zero, ne_eq] at q ⊢; first | exact q | omega)))
theorem r_if_ge (hexec : p.tables.exec = Jvm.exec) (hb : c.code = cc) {x : Int32} {off : Int} {tgt : Nat} {A B : Prop} (hdg : decode cc pc = .ok (.ifCond .ge off, 3)) (ht : (pc : Int) + off = (tgt : Int)) (h : wIf (0 ≤ x.toInt) A B) (kt : A → W p l e R s m args below meth c H locs cells slots Q (F0 m tgt ls rest)) (kf : B → W p l e R s m args below meth c H locs cells slots Q (F0 m (pc + 3) ls rest)) : W p l e R s m args below meth c H locs cells slots Q (F0 m pc ls (.int x :: rest)) := lv_if_ge hexec hb hdg ht (fun q => kt (h.1 (by simp only [gt_iff_lt, ge_iff_le, Int32.lt_iff_toInt_lt, Int32.le_iff_toInt_le, ← Int32.toInt_inj, Int32.toInt_zero, ne_eq] at q ⊢; first | exact q | omega))) (fun q => kf (h.2 (by simp only [gt_iff_lt, ge_iff_le, Int32.lt_iff_toInt_lt, Int32.le_iff_toInt_le, ← Int32.toInt_inj, Int32.toInt_zero, ne_eq] at q ⊢; first | exact q | omega)))
theorem r_icmp_gt (hexec : p.tables.exec = Jvm.exec) (hb : c.code = cc) {x y : Int32} {off : Int} {tgt : Nat} {A B : Prop} (hdg : decode cc pc = .ok (.if_icmp .gt off, 3)) (ht : (pc : Int) + off = (tgt : Int)) (h : wIf (y.toInt < x.toInt) A B) (kt : A → W p l e R s m args below meth c H locs cells slots Q (F0 m tgt ls rest)) (kf : B → W p l e R s m args below meth c H locs cells slots Q (F0 m (pc + 3) ls rest)) : W p l e R s m args below meth c H locs cells slots Q (F0 m pc ls (.int y :: .int x :: rest)) := lv_icmp_gt hexec hb hdg ht (fun q => kt (h.1 (by simp only [gt_iff_lt, ge_iff_le, Int32.lt_iff_toInt_lt, Int32.le_iff_toInt_le, ← Int32.toInt_inj, Int32.toInt_zero, ne_eq] at q ⊢; first | exact q | omega))) (fun q => kf (h.2 (by simp only [gt_iff_lt, ge_iff_le, Int32.lt_iff_toInt_lt, Int32.le_iff_toInt_le, ← Int32.toInt_inj, Int32.toInt_zero, ne_eq] at q ⊢; first | exact q | omega)))
theorem r_if_gt (hexec : p.tables.exec = Jvm.exec) (hb : c.code = cc) {x : Int32} {off : Int} {tgt : Nat} {A B : Prop} (hdg : decode cc pc = .ok (.ifCond .gt off, 3)) (ht : (pc : Int) + off = (tgt : Int)) (h : wIf (0 < x.toInt) A B) (kt : A → W p l e R s m args below meth c H locs cells slots Q (F0 m tgt ls rest)) (kf : B → W p l e R s m args below meth c H locs cells slots Q (F0 m (pc + 3) ls rest)) : W p l e R s m args below meth c H locs cells slots Q (F0 m pc ls (.int x :: rest)) := lv_if_gt hexec hb hdg ht (fun q => kt (h.1 (by simp only [gt_iff_lt, ge_iff_le, Int32.lt_iff_toInt_lt, Int32.le_iff_toInt_le, ← Int32.toInt_inj, Int32.toInt_zero, ne_eq] at q ⊢; first | exact q | omega))) (fun q => kf (h.2 (by simp only [gt_iff_lt, ge_iff_le, Int32.lt_iff_toInt_lt, Int32.le_iff_toInt_le, ← Int32.toInt_inj, Int32.toInt_zero, ne_eq] at q ⊢; first | exact q | omega)))
theorem r_icmp_le (hexec : p.tables.exec = Jvm.exec) (hb : c.code = cc) {x y : Int32} {off : Int} {tgt : Nat} {A B : Prop} (hdg : decode cc pc = .ok (.if_icmp .le off, 3)) (ht : (pc : Int) + off = (tgt : Int)) (h : wIf (x.toInt ≤ y.toInt) A B) (kt : A → W p l e R s m args below meth c H locs cells slots Q (F0 m tgt ls rest)) (kf : B → W p l e R s m args below meth c H locs cells slots Q (F0 m (pc + 3) ls rest)) : W p l e R s m args below meth c H locs cells slots Q (F0 m pc ls (.int y :: .int x :: rest)) := lv_icmp_le hexec hb hdg ht (fun q => kt (h.1 (by simp only [gt_iff_lt, ge_iff_le, Int32.lt_iff_toInt_lt, Int32.le_iff_toInt_le, ← Int32.toInt_inj, Int32.toInt_zero, ne_eq] at q ⊢; first | exact q | omega))) (fun q => kf (h.2 (by simp only [gt_iff_lt, ge_iff_le, Int32.lt_iff_toInt_lt, Int32.le_iff_toInt_le, ← Int32.toInt_inj, Int32.toInt_zero, ne_eq] at q ⊢; first | exact q | omega)))
theorem r_if_le (hexec : p.tables.exec = Jvm.exec) (hb : c.code = cc) {x : Int32} {off : Int} {tgt : Nat} {A B : Prop} (hdg : decode cc pc = .ok (.ifCond .le off, 3)) (ht : (pc : Int) + off = (tgt : Int)) (h : wIf (x.toInt ≤ 0) A B) (kt : A → W p l e R s m args below meth c H locs cells slots Q (F0 m tgt ls rest)) (kf : B → W p l e R s m args below meth c H locs cells slots Q (F0 m (pc + 3) ls rest)) : W p l e R s m args below meth c H locs cells slots Q (F0 m pc ls (.int x :: rest)) := lv_if_le hexec hb hdg ht (fun q => kt (h.1 (by simp only [gt_iff_lt, ge_iff_le, Int32.lt_iff_toInt_lt, Int32.le_iff_toInt_le, ← Int32.toInt_inj, Int32.toInt_zero, ne_eq] at q ⊢; first | exact q | omega))) (fun q => kf (h.2 (by simp only [gt_iff_lt, ge_iff_le, Int32.lt_iff_toInt_lt, Int32.le_iff_toInt_le, ← Int32.toInt_inj, Int32.toInt_zero, ne_eq] at q ⊢; first | exact q | omega)))
theorem fs_get {G : Gt} {ci N k : Nat} {M : Mm} {x : Int} (hNF : nF ci = N) (hk : k < N) : ((List.range (nF ci)).map (fun j => fv G (fT ci j) (M x j)))[k]? = some (fv G (fT ci k) (M x k)) := by
  rw [List.getElem?_map, List.getElem?_range (by omega)]
  rfl
theorem fs_set {G : Gt} {ci k : Nat} {M : Mm} {x v : Int} {val : Value} (hv : val = fv G (fT ci k) v) : ((List.range (nF ci)).map (fun j => fv G (fT ci j) (M x j))).set k val = (List.range (nF ci)).map (fun j => fv G (fT ci j) (up M x k v x j)) := by
  apply List.ext_getElem?
  intro i
  by_cases hi : i < nF ci
  · by_cases e : i = k
    · subst e
      rw [List.getElem?_set_self (by simpa using hi), List.getElem?_map, List.getElem?_range hi]
      simp [up_at, hv]
    · rw [List.getElem?_set_ne (Ne.symm e), List.getElem?_map, List.getElem?_map, List.getElem?_range hi]
      simp only [Option.map_some]
      rw [up_ne (fun q => e (by omega))]
  · rw [List.getElem?_eq_none (by simpa using Nat.not_lt.mp hi), List.getElem?_eq_none (by simpa using Nat.not_lt.mp hi)]
theorem fv_int {G : Gt} {x : Int} (t : Nat) (ht : t = 0) : fv G t x = .int (Int32.ofInt x) := by subst ht; rfl
theorem fv_long {G : Gt} {x : Int} (t : Nat) (ht : t = 1) : fv G t x = .long (Int64.ofInt x) := by subst ht; rfl
theorem fv_ref {G : Gt} {x : Int} (t : Nat) (ht : t = 2) (hx : x ≠ -1) : fv G t x = .ref (adr G x) := by subst ht; simp [fv, rfo, hx, va_rf]
theorem r_geti (hexec : p.tables.exec = Jvm.exec) (hb : c.code = cc) {own ref C : String} {T : u_T} {N ci index : Nat} {Ts : List Cond} (hts : ∀ w ∈ Ts, w.before args s = true) (hin : ∀ w ∈ u_ws C T N, w ∈ Ts) (hown : s.vm.findClass own = some m.cls) (hK : KN D G s) (hP : Wd D G S M H) {x : Int} (hc : vwCl[ci]? = some (C, T, N)) (hci : ci < 13) (hNF : nF ci = N) (k : Nat) (hk : k < N) (hlink : (Cond.fieldLink own index ref (T k).2.1 (T k).2.2.1).before args s = true) (hsame : ∀ x, s.fieldFound? (T k).1 (T k).2.1 (T k).2.2.1 = some x → s.fieldFound? ref (T k).2.1 (T k).2.2.1 = some x) (hdg : decode cc pc = .ok (.getfield index, 3)) (ht : fT ci k = 0) (h : wGet S M x ci k K) (kk : ∀ z : Int32, K z.toInt → W p l e R s m args below meth c H locs cells slots Q (F0 m (pc + 3) ls (.int z :: rest))) : W p l e R s m args below meth c H locs cells slots Q (F0 m pc ls (.ref (adr G x) :: rest)) := by
  rw [adr_of h.1.1]
  have he := wsM_get (G := G) (M := M) h.1.2.1
  rw [cE_obj h.1 hci] at he
  refine va_get hexec hb hts hin hown hK.1 hP.P x.toNat he hc k hk hlink hsame (v := .int (Int32.ofInt (M x k))) (by rw [fs_get hNF hk, fv_int _ ht]) hdg (kk _ ?_)
  rw [toInt_ofInt32 ((hP.R x k).1 (by simp [stT, h.1.2.2, hci, ht]))]
  exact h.2
theorem r_getl (hexec : p.tables.exec = Jvm.exec) (hb : c.code = cc) {own ref C : String} {T : u_T} {N ci index : Nat} {Ts : List Cond} (hts : ∀ w ∈ Ts, w.before args s = true) (hin : ∀ w ∈ u_ws C T N, w ∈ Ts) (hown : s.vm.findClass own = some m.cls) (hK : KN D G s) (hP : Wd D G S M H) {x : Int} (hc : vwCl[ci]? = some (C, T, N)) (hci : ci < 13) (hNF : nF ci = N) (k : Nat) (hk : k < N) (hlink : (Cond.fieldLink own index ref (T k).2.1 (T k).2.2.1).before args s = true) (hsame : ∀ x, s.fieldFound? (T k).1 (T k).2.1 (T k).2.2.1 = some x → s.fieldFound? ref (T k).2.1 (T k).2.2.1 = some x) (hdg : decode cc pc = .ok (.getfield index, 3)) (ht : fT ci k = 1) (h : wGet S M x ci k K) (kk : ∀ z : Int64, K z.toInt → W p l e R s m args below meth c H locs cells slots Q (F0 m (pc + 3) ls (.long z :: rest))) : W p l e R s m args below meth c H locs cells slots Q (F0 m pc ls (.ref (adr G x) :: rest)) := by
  rw [adr_of h.1.1]
  have he := wsM_get (G := G) (M := M) h.1.2.1
  rw [cE_obj h.1 hci] at he
  refine va_get hexec hb hts hin hown hK.1 hP.P x.toNat he hc k hk hlink hsame (v := .long (Int64.ofInt (M x k))) (by rw [fs_get hNF hk, fv_long _ ht]) hdg (kk _ ?_)
  rw [toInt_ofInt64 ((hP.R x k).2 (by simp [stT, h.1.2.2, hci, ht]))]
  exact h.2
theorem r_getr (hexec : p.tables.exec = Jvm.exec) (hb : c.code = cc) {own ref C : String} {T : u_T} {N ci index : Nat} {Ts : List Cond} (hts : ∀ w ∈ Ts, w.before args s = true) (hin : ∀ w ∈ u_ws C T N, w ∈ Ts) (hown : s.vm.findClass own = some m.cls) (hK : KN D G s) (hP : Wd D G S M H) {x : Int} (hc : vwCl[ci]? = some (C, T, N)) (hci : ci < 13) (hNF : nF ci = N) (k : Nat) (hk : k < N) (hlink : (Cond.fieldLink own index ref (T k).2.1 (T k).2.2.1).before args s = true) (hsame : ∀ x, s.fieldFound? (T k).1 (T k).2.1 (T k).2.2.1 = some x → s.fieldFound? ref (T k).2.1 (T k).2.2.1 = some x) (hdg : decode cc pc = .ok (.getfield index, 3)) (ht : fT ci k = 2) (h : wGetR S M x ci k K) (kk : ∀ z : Int, K z → W p l e R s m args below meth c H locs cells slots Q (F0 m (pc + 3) ls (.ref (adr G z) :: rest))) : W p l e R s m args below meth c H locs cells slots Q (F0 m pc ls (.ref (adr G x) :: rest)) := by
  rw [adr_of h.1.1]
  have he := wsM_get (G := G) (M := M) h.1.2.1
  rw [cE_obj h.1 hci] at he
  exact va_get hexec hb hts hin hown hK.1 hP.P x.toNat he hc k hk hlink hsame (v := .ref (adr G (M x k))) (by rw [fs_get hNF hk, fv_ref _ ht h.2.1]) hdg (kk _ h.2.2)
theorem r_puti (hexec : p.tables.exec = Jvm.exec) (hb : c.code = cc) {own ref C : String} {T : u_T} {N ci index : Nat} {Ts : List Cond} (hts : ∀ w ∈ Ts, w.before args s = true) (hin : ∀ w ∈ u_ws C T N, w ∈ Ts) (hown : s.vm.findClass own = some m.cls) (hK : KN D G s) (hP : Wd D G S M H) (ty0 : Nat → FieldType) (hty : ∀ k, k < N → parseFieldDescriptor (T k).2.2.1 = some (ty0 k)) (hnm : ∀ a, a < N → ∀ b, b < N → a ≠ b → (T a).2.1 ≠ (T b).2.1) (hS : va_S (aG G) H0 H locs) {x : Int} {K2 : Mm → Prop} {v : Int32} (hc : vwCl[ci]? = some (C, T, N)) (hci : ci < 13) (hNF : nF ci = N) (k : Nat) (hk : k < N) (hlink : (Cond.fieldLink own index ref (T k).2.1 (T k).2.2.1).before args s = true) (hsame : ∀ x, s.fieldFound? (T k).1 (T k).2.1 (T k).2.2.1 = some x → s.fieldFound? ref (T k).2.1 (T k).2.2.1 = some x) (hfin : (T k).2.2.2 = false) {ty : FieldType} (hd : parseFieldDescriptor (T k).2.2.1 = some ty) (hn : narrow ty (.int v) = .int v) (hfit : fits ty (.int v) = true) (hdg : decode cc pc = .ok (.putfield index, 3)) (ht : fT ci k = 0) (h : wPut S M x ci k v.toInt K2) (kk : ∀ (M1 : Mm) (H1 : Heap) (locs1 : List Loc), K2 M1 → Wd D G S M1 H1 → va_S (aG G) H0 H1 locs1 → W p l e R s m args below meth c H1 locs1 cells slots Q (F0 m (pc + 3) ls rest)) : W p l e R s m args below meth c H locs cells slots Q (F0 m pc ls (.int v :: .ref (adr G x) :: rest)) := by
  rw [adr_of h.1.1]
  have he := wsM_get (G := G) (M := M) h.1.2.1
  rw [cE_obj h.1 hci] at he
  refine va_put hexec hb hts hin ty0 hty hnm hown hK.1 hP.P hP.D hS x.toNat he hc k hk hlink hsame hfin hd hn hfit (by simpa [hNF] using hk) hdg (fun H1 locs1 hP1 hD1 hS1 => ?_)
  refine kk (up M x k v.toInt) H1 locs1 h.2 ⟨hP.1, hP.2.1, ?_, hP.R.put ?_ ?_⟩ hS1
  · rw [← wsM_set h.1.1 h.1.2.1 (by rw [cE_obj h.1 hci, ← fs_set (val := .int v) (by rw [fv_int _ ht, ofInt_toInt32])])]; exact hP1
  · exact fun _ => k32_r _
  · intro q; simp [stT, h.1.2.2, hci, ht] at q
theorem r_putz (hexec : p.tables.exec = Jvm.exec) (hb : c.code = cc) {own ref C : String} {T : u_T} {N ci index : Nat} {Ts : List Cond} (hts : ∀ w ∈ Ts, w.before args s = true) (hin : ∀ w ∈ u_ws C T N, w ∈ Ts) (hown : s.vm.findClass own = some m.cls) (hK : KN D G s) (hP : Wd D G S M H) (ty0 : Nat → FieldType) (hty : ∀ k, k < N → parseFieldDescriptor (T k).2.2.1 = some (ty0 k)) (hnm : ∀ a, a < N → ∀ b, b < N → a ≠ b → (T a).2.1 ≠ (T b).2.1) (hS : va_S (aG G) H0 H locs) {x : Int} {K2 : Mm → Prop} {v : Int32} (hc : vwCl[ci]? = some (C, T, N)) (hci : ci < 13) (hNF : nF ci = N) (k : Nat) (hk : k < N) (hlink : (Cond.fieldLink own index ref (T k).2.1 (T k).2.2.1).before args s = true) (hsame : ∀ x, s.fieldFound? (T k).1 (T k).2.1 (T k).2.2.1 = some x → s.fieldFound? ref (T k).2.1 (T k).2.2.1 = some x) (hfin : (T k).2.2.2 = false) (hd : parseFieldDescriptor (T k).2.2.1 = some .boolean)  (hdg : decode cc pc = .ok (.putfield index, 3)) (ht : fT ci k = 0) (h : wPutZ S M x ci k v.toInt K2) (kk : ∀ (M1 : Mm) (H1 : Heap) (locs1 : List Loc), K2 M1 → Wd D G S M1 H1 → va_S (aG G) H0 H1 locs1 → W p l e R s m args below meth c H1 locs1 cells slots Q (F0 m (pc + 3) ls rest)) : W p l e R s m args below meth c H locs cells slots Q (F0 m pc ls (.int v :: .ref (adr G x) :: rest)) := by
  rw [adr_of h.1.1]
  have he := wsM_get (G := G) (M := M) h.1.2.1
  rw [cE_obj h.1 hci] at he
  refine va_put hexec hb hts hin ty0 hty hnm hown hK.1 hP.P hP.D hS x.toNat he hc k hk hlink hsame hfin hd (nar_z h.2.1) (fit_z h.2.1) (by simpa [hNF] using hk) hdg (fun H1 locs1 hP1 hD1 hS1 => ?_)
  refine kk (up M x k v.toInt) H1 locs1 h.2.2 ⟨hP.1, hP.2.1, ?_, hP.R.put ?_ ?_⟩ hS1
  · rw [← wsM_set h.1.1 h.1.2.1 (by rw [cE_obj h.1 hci, ← fs_set (val := .int v) (by rw [fv_int _ ht, ofInt_toInt32])])]; exact hP1
  · exact fun _ => k32_r _
  · intro q; simp [stT, h.1.2.2, hci, ht] at q
theorem r_putl (hexec : p.tables.exec = Jvm.exec) (hb : c.code = cc) {own ref C : String} {T : u_T} {N ci index : Nat} {Ts : List Cond} (hts : ∀ w ∈ Ts, w.before args s = true) (hin : ∀ w ∈ u_ws C T N, w ∈ Ts) (hown : s.vm.findClass own = some m.cls) (hK : KN D G s) (hP : Wd D G S M H) (ty0 : Nat → FieldType) (hty : ∀ k, k < N → parseFieldDescriptor (T k).2.2.1 = some (ty0 k)) (hnm : ∀ a, a < N → ∀ b, b < N → a ≠ b → (T a).2.1 ≠ (T b).2.1) (hS : va_S (aG G) H0 H locs) {x : Int} {K2 : Mm → Prop} {v : Int64} (hc : vwCl[ci]? = some (C, T, N)) (hci : ci < 13) (hNF : nF ci = N) (k : Nat) (hk : k < N) (hlink : (Cond.fieldLink own index ref (T k).2.1 (T k).2.2.1).before args s = true) (hsame : ∀ x, s.fieldFound? (T k).1 (T k).2.1 (T k).2.2.1 = some x → s.fieldFound? ref (T k).2.1 (T k).2.2.1 = some x) (hfin : (T k).2.2.2 = false) {ty : FieldType} (hd : parseFieldDescriptor (T k).2.2.1 = some ty) (hn : narrow ty (.long v) = .long v) (hfit : fits ty (.long v) = true) (hdg : decode cc pc = .ok (.putfield index, 3)) (ht : fT ci k = 1) (h : wPut S M x ci k v.toInt K2) (kk : ∀ (M1 : Mm) (H1 : Heap) (locs1 : List Loc), K2 M1 → Wd D G S M1 H1 → va_S (aG G) H0 H1 locs1 → W p l e R s m args below meth c H1 locs1 cells slots Q (F0 m (pc + 3) ls rest)) : W p l e R s m args below meth c H locs cells slots Q (F0 m pc ls (.long v :: .ref (adr G x) :: rest)) := by
  rw [adr_of h.1.1]
  have he := wsM_get (G := G) (M := M) h.1.2.1
  rw [cE_obj h.1 hci] at he
  refine va_put hexec hb hts hin ty0 hty hnm hown hK.1 hP.P hP.D hS x.toNat he hc k hk hlink hsame hfin hd hn hfit (by simpa [hNF] using hk) hdg (fun H1 locs1 hP1 hD1 hS1 => ?_)
  refine kk (up M x k v.toInt) H1 locs1 h.2 ⟨hP.1, hP.2.1, ?_, hP.R.put ?_ ?_⟩ hS1
  · rw [← wsM_set h.1.1 h.1.2.1 (by rw [cE_obj h.1 hci, ← fs_set (val := .long v) (by rw [fv_long _ ht, ofInt_toInt64])])]; exact hP1
  · intro q; simp [stT, h.1.2.2, hci, ht] at q
  · exact fun _ => k64_r _
theorem r_putr (hexec : p.tables.exec = Jvm.exec) (hb : c.code = cc) {own ref C : String} {T : u_T} {N ci index : Nat} {Ts : List Cond} (hts : ∀ w ∈ Ts, w.before args s = true) (hin : ∀ w ∈ u_ws C T N, w ∈ Ts) (hown : s.vm.findClass own = some m.cls) (hK : KN D G s) (hP : Wd D G S M H) (ty0 : Nat → FieldType) (hty : ∀ k, k < N → parseFieldDescriptor (T k).2.2.1 = some (ty0 k)) (hnm : ∀ a, a < N → ∀ b, b < N → a ≠ b → (T a).2.1 ≠ (T b).2.1) (hS : va_S (aG G) H0 H locs) {x : Int} {K2 : Mm → Prop} {v : Int} (hne : v ≠ -1) (hc : vwCl[ci]? = some (C, T, N)) (hci : ci < 13) (hNF : nF ci = N) (k : Nat) (hk : k < N) (hlink : (Cond.fieldLink own index ref (T k).2.1 (T k).2.2.1).before args s = true) (hsame : ∀ x, s.fieldFound? (T k).1 (T k).2.1 (T k).2.2.1 = some x → s.fieldFound? ref (T k).2.1 (T k).2.2.1 = some x) (hfin : (T k).2.2.2 = false) {ty : FieldType} (hd : parseFieldDescriptor (T k).2.2.1 = some ty) (hn : narrow ty (.ref (adr G v)) = .ref (adr G v)) (hfit : fits ty (.ref (adr G v)) = true) (hdg : decode cc pc = .ok (.putfield index, 3)) (ht : fT ci k = 2) (h : wPut S M x ci k v K2) (kk : ∀ (M1 : Mm) (H1 : Heap) (locs1 : List Loc), K2 M1 → Wd D G S M1 H1 → va_S (aG G) H0 H1 locs1 → W p l e R s m args below meth c H1 locs1 cells slots Q (F0 m (pc + 3) ls rest)) : W p l e R s m args below meth c H locs cells slots Q (F0 m pc ls (.ref (adr G v) :: .ref (adr G x) :: rest)) := by
  rw [adr_of h.1.1]
  have he := wsM_get (G := G) (M := M) h.1.2.1
  rw [cE_obj h.1 hci] at he
  refine va_put hexec hb hts hin ty0 hty hnm hown hK.1 hP.P hP.D hS x.toNat he hc k hk hlink hsame hfin hd hn hfit (by simpa [hNF] using hk) hdg (fun H1 locs1 hP1 hD1 hS1 => ?_)
  refine kk (up M x k v) H1 locs1 h.2 ⟨hP.1, hP.2.1, ?_, hP.R.put ?_ ?_⟩ hS1
  · rw [← wsM_set h.1.1 h.1.2.1 (by rw [cE_obj h.1 hci, ← fs_set (val := .ref (adr G v)) (by rw [fv_ref _ ht hne])])]; exact hP1
  · intro q; simp [stT, h.1.2.2, hci, ht] at q
  · intro q; simp [stT, h.1.2.2, hci, ht] at q
theorem r_putrF (hexec : p.tables.exec = Jvm.exec) (hb : c.code = cc) {own ref C : String} {T : u_T} {N ci index : Nat} {Ts : List Cond} (hts : ∀ w ∈ Ts, w.before args s = true) (hin : ∀ w ∈ u_ws C T N, w ∈ Ts) (hown : s.vm.findClass own = some m.cls) (hK : KN D G s) (hP : Wd D G S M H) (ty0 : Nat → FieldType) (hty : ∀ k, k < N → parseFieldDescriptor (T k).2.2.1 = some (ty0 k)) (hnm : ∀ a, a < N → ∀ b, b < N → a ≠ b → (T a).2.1 ≠ (T b).2.1) (hS : va_S (aG G) H0 H locs) {x : Int} {K2 : Mm → Prop} {v : Int} (hne : v ≠ -1) (hc : vwCl[ci]? = some (C, T, N)) (hci : ci < 13) (hNF : nF ci = N) (k : Nat) (hk : k < N) (hlink : (Cond.fieldLink own index ref (T k).2.1 (T k).2.2.1).before args s = true) (hsame : ∀ x, s.fieldFound? (T k).1 (T k).2.1 (T k).2.2.1 = some x → s.fieldFound? ref (T k).2.1 (T k).2.2.1 = some x) (hfin : (T k).2.2.2 = true) (hin2 : meth.name = "<init>") (hdecl : (T k).1 = own) {ty : FieldType} (hd : parseFieldDescriptor (T k).2.2.1 = some ty) (hn : narrow ty (.ref (adr G v)) = .ref (adr G v)) (hfit : fits ty (.ref (adr G v)) = true) (hdg : decode cc pc = .ok (.putfield index, 3)) (ht : fT ci k = 2) (h : wPut S M x ci k v K2) (kk : ∀ (M1 : Mm) (H1 : Heap) (locs1 : List Loc), K2 M1 → Wd D G S M1 H1 → va_S (aG G) H0 H1 locs1 → W p l e R s m args below meth c H1 locs1 cells slots Q (F0 m (pc + 3) ls rest)) : W p l e R s m args below meth c H locs cells slots Q (F0 m pc ls (.ref (adr G v) :: .ref (adr G x) :: rest)) := by
  rw [adr_of h.1.1]
  have he := wsM_get (G := G) (M := M) h.1.2.1
  rw [cE_obj h.1 hci] at he
  refine va_putF hexec hb hts hin ty0 hty hnm hown hK.1 hP.P hP.D hS x.toNat he hc k hk hlink hsame hfin hin2 hdecl hd hn hfit (by simpa [hNF] using hk) hdg (fun H1 locs1 hP1 hD1 hS1 => ?_)
  refine kk (up M x k v) H1 locs1 h.2 ⟨hP.1, hP.2.1, ?_, hP.R.put ?_ ?_⟩ hS1
  · rw [← wsM_set h.1.1 h.1.2.1 (by rw [cE_obj h.1 hci, ← fs_set (val := .ref (adr G v)) (by rw [fv_ref _ ht hne])])]; exact hP1
  · intro q; simp [stT, h.1.2.2, hci, ht] at q
  · intro q; simp [stT, h.1.2.2, hci, ht] at q
theorem r_getiN (hexec : p.tables.exec = Jvm.exec) (hb : c.code = cc) {own ref C : String} {T : u_T} {N ci index : Nat} {Ts : List Cond} (hts : ∀ w ∈ Ts, w.before args s = true) (hin : ∀ w ∈ u_ws C T N, w ∈ Ts) (hown : s.vm.findClass own = some m.cls) (hK : KN D G s) (hP : Wd D G S M H) {x : Int} (hc : vwCl[ci]? = some (C, T, N)) (hci : ci < 13) (hNF : nF ci = N) (k : Nat) (hk : k < N) (hlink : (Cond.fieldLinkNest own index ref (T k).2.1 (T k).2.2.1 "TurningMilk").before args s = true) (hsame : ∀ x, s.fieldFound? (T k).1 (T k).2.1 (T k).2.2.1 = some x → s.fieldFound? ref (T k).2.1 (T k).2.2.1 = some x) (hdg : decode cc pc = .ok (.getfield index, 3)) (ht : fT ci k = 0) (h : wGet S M x ci k K) (kk : ∀ z : Int32, K z.toInt → W p l e R s m args below meth c H locs cells slots Q (F0 m (pc + 3) ls (.int z :: rest))) : W p l e R s m args below meth c H locs cells slots Q (F0 m pc ls (.ref (adr G x) :: rest)) := by
  rw [adr_of h.1.1]
  have he := wsM_get (G := G) (M := M) h.1.2.1
  rw [cE_obj h.1 hci] at he
  refine va_getN hexec hb hts hin hown hK.1 hP.P x.toNat he hc k hk hlink hsame (v := .int (Int32.ofInt (M x k))) (by rw [fs_get hNF hk, fv_int _ ht]) hdg (kk _ ?_)
  rw [toInt_ofInt32 ((hP.R x k).1 (by simp [stT, h.1.2.2, hci, ht]))]
  exact h.2
theorem r_getrN (hexec : p.tables.exec = Jvm.exec) (hb : c.code = cc) {own ref C : String} {T : u_T} {N ci index : Nat} {Ts : List Cond} (hts : ∀ w ∈ Ts, w.before args s = true) (hin : ∀ w ∈ u_ws C T N, w ∈ Ts) (hown : s.vm.findClass own = some m.cls) (hK : KN D G s) (hP : Wd D G S M H) {x : Int} (hc : vwCl[ci]? = some (C, T, N)) (hci : ci < 13) (hNF : nF ci = N) (k : Nat) (hk : k < N) (hlink : (Cond.fieldLinkNest own index ref (T k).2.1 (T k).2.2.1 "TurningMilk").before args s = true) (hsame : ∀ x, s.fieldFound? (T k).1 (T k).2.1 (T k).2.2.1 = some x → s.fieldFound? ref (T k).2.1 (T k).2.2.1 = some x) (hdg : decode cc pc = .ok (.getfield index, 3)) (ht : fT ci k = 2) (h : wGetR S M x ci k K) (kk : ∀ z : Int, K z → W p l e R s m args below meth c H locs cells slots Q (F0 m (pc + 3) ls (.ref (adr G z) :: rest))) : W p l e R s m args below meth c H locs cells slots Q (F0 m pc ls (.ref (adr G x) :: rest)) := by
  rw [adr_of h.1.1]
  have he := wsM_get (G := G) (M := M) h.1.2.1
  rw [cE_obj h.1 hci] at he
  exact va_getN hexec hb hts hin hown hK.1 hP.P x.toNat he hc k hk hlink hsame (v := .ref (adr G (M x k))) (by rw [fs_get hNF hk, fv_ref _ ht h.2.1]) hdg (kk _ h.2.2)
theorem r_putiN (hexec : p.tables.exec = Jvm.exec) (hb : c.code = cc) {own ref C : String} {T : u_T} {N ci index : Nat} {Ts : List Cond} (hts : ∀ w ∈ Ts, w.before args s = true) (hin : ∀ w ∈ u_ws C T N, w ∈ Ts) (hown : s.vm.findClass own = some m.cls) (hK : KN D G s) (hP : Wd D G S M H) (ty0 : Nat → FieldType) (hty : ∀ k, k < N → parseFieldDescriptor (T k).2.2.1 = some (ty0 k)) (hnm : ∀ a, a < N → ∀ b, b < N → a ≠ b → (T a).2.1 ≠ (T b).2.1) (hS : va_S (aG G) H0 H locs) {x : Int} {K2 : Mm → Prop} {v : Int32} (hc : vwCl[ci]? = some (C, T, N)) (hci : ci < 13) (hNF : nF ci = N) (k : Nat) (hk : k < N) (hlink : (Cond.fieldLinkNest own index ref (T k).2.1 (T k).2.2.1 "TurningMilk").before args s = true) (hsame : ∀ x, s.fieldFound? (T k).1 (T k).2.1 (T k).2.2.1 = some x → s.fieldFound? ref (T k).2.1 (T k).2.2.1 = some x) (hfin : (T k).2.2.2 = false) {ty : FieldType} (hd : parseFieldDescriptor (T k).2.2.1 = some ty) (hn : narrow ty (.int v) = .int v) (hfit : fits ty (.int v) = true) (hdg : decode cc pc = .ok (.putfield index, 3)) (ht : fT ci k = 0) (h : wPut S M x ci k v.toInt K2) (kk : ∀ (M1 : Mm) (H1 : Heap) (locs1 : List Loc), K2 M1 → Wd D G S M1 H1 → va_S (aG G) H0 H1 locs1 → W p l e R s m args below meth c H1 locs1 cells slots Q (F0 m (pc + 3) ls rest)) : W p l e R s m args below meth c H locs cells slots Q (F0 m pc ls (.int v :: .ref (adr G x) :: rest)) := by
  rw [adr_of h.1.1]
  have he := wsM_get (G := G) (M := M) h.1.2.1
  rw [cE_obj h.1 hci] at he
  refine va_putN hexec hb hts hin ty0 hty hnm hown hK.1 hP.P hP.D hS x.toNat he hc k hk hlink hsame hfin hd hn hfit (by simpa [hNF] using hk) hdg (fun H1 locs1 hP1 hD1 hS1 => ?_)
  refine kk (up M x k v.toInt) H1 locs1 h.2 ⟨hP.1, hP.2.1, ?_, hP.R.put ?_ ?_⟩ hS1
  · rw [← wsM_set h.1.1 h.1.2.1 (by rw [cE_obj h.1 hci, ← fs_set (val := .int v) (by rw [fv_int _ ht, ofInt_toInt32])])]; exact hP1
  · exact fun _ => k32_r _
  · intro q; simp [stT, h.1.2.2, hci, ht] at q
theorem r_putzN (hexec : p.tables.exec = Jvm.exec) (hb : c.code = cc) {own ref C : String} {T : u_T} {N ci index : Nat} {Ts : List Cond} (hts : ∀ w ∈ Ts, w.before args s = true) (hin : ∀ w ∈ u_ws C T N, w ∈ Ts) (hown : s.vm.findClass own = some m.cls) (hK : KN D G s) (hP : Wd D G S M H) (ty0 : Nat → FieldType) (hty : ∀ k, k < N → parseFieldDescriptor (T k).2.2.1 = some (ty0 k)) (hnm : ∀ a, a < N → ∀ b, b < N → a ≠ b → (T a).2.1 ≠ (T b).2.1) (hS : va_S (aG G) H0 H locs) {x : Int} {K2 : Mm → Prop} {v : Int32} (hc : vwCl[ci]? = some (C, T, N)) (hci : ci < 13) (hNF : nF ci = N) (k : Nat) (hk : k < N) (hlink : (Cond.fieldLinkNest own index ref (T k).2.1 (T k).2.2.1 "TurningMilk").before args s = true) (hsame : ∀ x, s.fieldFound? (T k).1 (T k).2.1 (T k).2.2.1 = some x → s.fieldFound? ref (T k).2.1 (T k).2.2.1 = some x) (hfin : (T k).2.2.2 = false) (hd : parseFieldDescriptor (T k).2.2.1 = some .boolean)  (hdg : decode cc pc = .ok (.putfield index, 3)) (ht : fT ci k = 0) (h : wPutZ S M x ci k v.toInt K2) (kk : ∀ (M1 : Mm) (H1 : Heap) (locs1 : List Loc), K2 M1 → Wd D G S M1 H1 → va_S (aG G) H0 H1 locs1 → W p l e R s m args below meth c H1 locs1 cells slots Q (F0 m (pc + 3) ls rest)) : W p l e R s m args below meth c H locs cells slots Q (F0 m pc ls (.int v :: .ref (adr G x) :: rest)) := by
  rw [adr_of h.1.1]
  have he := wsM_get (G := G) (M := M) h.1.2.1
  rw [cE_obj h.1 hci] at he
  refine va_putN hexec hb hts hin ty0 hty hnm hown hK.1 hP.P hP.D hS x.toNat he hc k hk hlink hsame hfin hd (nar_z h.2.1) (fit_z h.2.1) (by simpa [hNF] using hk) hdg (fun H1 locs1 hP1 hD1 hS1 => ?_)
  refine kk (up M x k v.toInt) H1 locs1 h.2.2 ⟨hP.1, hP.2.1, ?_, hP.R.put ?_ ?_⟩ hS1
  · rw [← wsM_set h.1.1 h.1.2.1 (by rw [cE_obj h.1 hci, ← fs_set (val := .int v) (by rw [fv_int _ ht, ofInt_toInt32])])]; exact hP1
  · exact fun _ => k32_r _
  · intro q; simp [stT, h.1.2.2, hci, ht] at q
theorem r_putrN (hexec : p.tables.exec = Jvm.exec) (hb : c.code = cc) {own ref C : String} {T : u_T} {N ci index : Nat} {Ts : List Cond} (hts : ∀ w ∈ Ts, w.before args s = true) (hin : ∀ w ∈ u_ws C T N, w ∈ Ts) (hown : s.vm.findClass own = some m.cls) (hK : KN D G s) (hP : Wd D G S M H) (ty0 : Nat → FieldType) (hty : ∀ k, k < N → parseFieldDescriptor (T k).2.2.1 = some (ty0 k)) (hnm : ∀ a, a < N → ∀ b, b < N → a ≠ b → (T a).2.1 ≠ (T b).2.1) (hS : va_S (aG G) H0 H locs) {x : Int} {K2 : Mm → Prop} {v : Int} (hne : v ≠ -1) (hc : vwCl[ci]? = some (C, T, N)) (hci : ci < 13) (hNF : nF ci = N) (k : Nat) (hk : k < N) (hlink : (Cond.fieldLinkNest own index ref (T k).2.1 (T k).2.2.1 "TurningMilk").before args s = true) (hsame : ∀ x, s.fieldFound? (T k).1 (T k).2.1 (T k).2.2.1 = some x → s.fieldFound? ref (T k).2.1 (T k).2.2.1 = some x) (hfin : (T k).2.2.2 = false) {ty : FieldType} (hd : parseFieldDescriptor (T k).2.2.1 = some ty) (hn : narrow ty (.ref (adr G v)) = .ref (adr G v)) (hfit : fits ty (.ref (adr G v)) = true) (hdg : decode cc pc = .ok (.putfield index, 3)) (ht : fT ci k = 2) (h : wPut S M x ci k v K2) (kk : ∀ (M1 : Mm) (H1 : Heap) (locs1 : List Loc), K2 M1 → Wd D G S M1 H1 → va_S (aG G) H0 H1 locs1 → W p l e R s m args below meth c H1 locs1 cells slots Q (F0 m (pc + 3) ls rest)) : W p l e R s m args below meth c H locs cells slots Q (F0 m pc ls (.ref (adr G v) :: .ref (adr G x) :: rest)) := by
  rw [adr_of h.1.1]
  have he := wsM_get (G := G) (M := M) h.1.2.1
  rw [cE_obj h.1 hci] at he
  refine va_putN hexec hb hts hin ty0 hty hnm hown hK.1 hP.P hP.D hS x.toNat he hc k hk hlink hsame hfin hd hn hfit (by simpa [hNF] using hk) hdg (fun H1 locs1 hP1 hD1 hS1 => ?_)
  refine kk (up M x k v) H1 locs1 h.2 ⟨hP.1, hP.2.1, ?_, hP.R.put ?_ ?_⟩ hS1
  · rw [← wsM_set h.1.1 h.1.2.1 (by rw [cE_obj h.1 hci, ← fs_set (val := .ref (adr G v)) (by rw [fv_ref _ ht hne])])]; exact hP1
  · intro q; simp [stT, h.1.2.2, hci, ht] at q
  · intro q; simp [stT, h.1.2.2, hci, ht] at q
theorem r_iald (hexec : p.tables.exec = Jvm.exec) (hb : c.code = cc) (hK : KN D G s) (hP : Wd D G S M H) {x : Int} {i : Int32} (hdg : decode cc pc = .ok (.iaload, 1)) (h : wLd S M x 14 i.toInt K) (kk : ∀ z : Int32, K z.toInt → W p l e R s m args below meth c H locs cells slots Q (F0 m (pc + 1) ls (.int z :: rest))) : W p l e R s m args below meth c H locs cells slots Q (F0 m pc ls (.int i :: .ref (adr G x) :: rest)) := by
  rw [adr_of h.1.1]
  have he := wsM_get (G := G) (M := M) h.1.2.1
  rw [cE_ints h.1 (by decide) (by decide)] at he
  have hi : ((i.toNatClampNeg : Nat) : Int) = i.toInt := Int.toNat_of_nonneg h.2.1.1
  refine va_iald hexec hb hK.1 hP.P x.toNat 1 he rfl (vp_in_iff.mpr h.2.1) hdg (kk _ ?_)
  rw [hi, toInt_ofInt32]
  · exact h.2.2
  · have := (hP.R x i.toNatClampNeg).1 (by simp [stT, h.1.2.2]); rw [hi] at this; exact this
theorem r_bald (hexec : p.tables.exec = Jvm.exec) (hb : c.code = cc) (hK : KN D G s) (hP : Wd D G S M H) {x : Int} {i : Int32} (hdg : decode cc pc = .ok (.baload, 1)) (h : wLd S M x 13 i.toInt K) (kk : ∀ z : Int32, K z.toInt → W p l e R s m args below meth c H locs cells slots Q (F0 m (pc + 1) ls (.int z :: rest))) : W p l e R s m args below meth c H locs cells slots Q (F0 m pc ls (.int i :: .ref (adr G x) :: rest)) := by
  rw [adr_of h.1.1]
  have he := wsM_get (G := G) (M := M) h.1.2.1
  rw [cE_ints h.1 (by decide) (by decide)] at he
  have hi : ((i.toNatClampNeg : Nat) : Int) = i.toInt := Int.toNat_of_nonneg h.2.1.1
  refine va_bald hexec hb hK.1 hP.P x.toNat 0 he rfl (vp_in_iff.mpr h.2.1) hdg (kk _ ?_)
  rw [hi, toInt_ofInt32]
  · exact h.2.2
  · have := (hP.R x i.toNatClampNeg).1 (by simp [stT, h.1.2.2]); rw [hi] at this; exact this
theorem r_zald (hexec : p.tables.exec = Jvm.exec) (hb : c.code = cc) (hK : KN D G s) (hP : Wd D G S M H) {x : Int} {i : Int32} (hdg : decode cc pc = .ok (.baload, 1)) (h : wLd S M x 15 i.toInt K) (kk : ∀ z : Int32, K z.toInt → W p l e R s m args below meth c H locs cells slots Q (F0 m (pc + 1) ls (.int z :: rest))) : W p l e R s m args below meth c H locs cells slots Q (F0 m pc ls (.int i :: .ref (adr G x) :: rest)) := by
  rw [adr_of h.1.1]
  have he := wsM_get (G := G) (M := M) h.1.2.1
  rw [cE_ints h.1 (by decide) (by decide)] at he
  have hi : ((i.toNatClampNeg : Nat) : Int) = i.toInt := Int.toNat_of_nonneg h.2.1.1
  refine va_zald hexec hb hK.1 hP.P x.toNat 2 he rfl (vp_in_iff.mpr h.2.1) hdg (kk _ ?_)
  rw [hi, toInt_ofInt32]
  · exact h.2.2
  · have := (hP.R x i.toNatClampNeg).1 (by simp [stT, h.1.2.2]); rw [hi] at this; exact this
theorem r_lald (hexec : p.tables.exec = Jvm.exec) (hb : c.code = cc) (hK : KN D G s) (hP : Wd D G S M H) {x : Int} {i : Int32} (hdg : decode cc pc = .ok (.laload, 1)) (h : wLd S M x 16 i.toInt K) (kk : ∀ z : Int64, K z.toInt → W p l e R s m args below meth c H locs cells slots Q (F0 m (pc + 1) ls (.long z :: rest))) : W p l e R s m args below meth c H locs cells slots Q (F0 m pc ls (.int i :: .ref (adr G x) :: rest)) := by
  rw [adr_of h.1.1]
  have he := wsM_get (G := G) (M := M) h.1.2.1
  rw [cE_longs h.1] at he
  have hi : ((i.toNatClampNeg : Nat) : Int) = i.toInt := Int.toNat_of_nonneg h.2.1.1
  refine va_lald hexec hb hK.1 hP.P x.toNat 3 he rfl (vp_in_iff.mpr h.2.1) hdg (kk _ ?_)
  rw [hi, toInt_ofInt64]
  · exact h.2.2
  · have := (hP.R x i.toNatClampNeg).2 (by simp [stT, h.1.2.2]); rw [hi] at this; exact this
theorem r_len (hexec : p.tables.exec = Jvm.exec) (hb : c.code = cc) (hK : KN D G s) (hP : Wd D G S M H) (hS : va_S (aG G) s.heap H locs) {x : Int} (hdg : decode cc pc = .ok (.arraylength, 1)) (h : wLen S x 14 K) (kk : ∀ z : Int32, K z.toInt → W p l e R s m args below meth c H locs cells slots Q (F0 m (pc + 1) ls (.int z :: rest))) : W p l e R s m args below meth c H locs cells slots Q (F0 m pc ls (.ref (adr G x) :: rest)) := by
  rcases h with ⟨rfl, h⟩ | ⟨h1, h2, h⟩
  · exact va_tlen hexec hb hK.2.2.2.2.2.1 hS rfl hdg (kk _ h)
  · rw [adr_of h1.1]
    have he := wsM_get (G := G) (M := M) h1.2.1
    rw [cE_ints h1 (by decide) (by decide)] at he
    refine va_alen hexec hb hK.1 hP.P x.toNat 1 he rfl rfl hdg (kk _ ?_)
    have e : (Int32.ofNat (S.2.2 x)).toInt = (S.2.2 x : Int) := Int32.toInt_ofNat_of_lt (by omega)
    rw [e]
    exact h
end ROWS
end
section
def Cx (p : Program) (s : State) (m : MethodId) (args : Array Value) (meth : Method) (c : Code) (D : va_G) (G : Gt) (cc : ByteArray) (nL : Nat) (ret : Option FieldType) (Ts : List Cond) (own : String) : Prop :=
  p.tables.exec = Jvm.exec ∧ c.code = cc ∧ meth.sig.returnType = ret ∧ meth.locks = false ∧ c.maxLocals = nL ∧ s.vm.findClass own = some m.cls ∧ (∀ w ∈ Ts, w.before args s = true) ∧ KN D G s
abbrev QI (D : va_G) (G : Gt) (S : Sh) (post : Int → Mm → Prop) : Array Value → State → Outcome → State → Prop := va_Qi (fun r (M' : Mm) => post r.toInt M') (fun M' t => Wd D G S M' t.heap) (aG G)
abbrev QL (D : va_G) (G : Gt) (S : Sh) (post : Int → Mm → Prop) : Array Value → State → Outcome → State → Prop := va_Ql (fun r (M' : Mm) => post r.toInt M') (fun M' t => Wd D G S M' t.heap) (aG G)
abbrev QV (D : va_G) (G : Gt) (S : Sh) (post : Mm → Prop) : Array Value → State → Outcome → State → Prop := va_Qv post (fun M' t => Wd D G S M' t.heap) (aG G)
abbrev QR (D : va_G) (G : Gt) (S : Sh) (post : Int → Mm → Prop) : Array Value → State → Outcome → State → Prop := va_Qr (fun u : Int × Mm => post u.1 u.2) (fun u a t => a = adr G u.1 ∧ Wd D G S u.2 t.heap) (aG G)
abbrev PC (D : va_G) (G : Gt) (S : Sh) (M : Mm) (av : List Value) : Array Value → State → Prop := va_Pc av (fun U => KN D G U ∧ Wd D G S M U.heap)
theorem PC_blind {D : va_G} {G : Gt} {S : Sh} {M : Mm} {av : List Value} : FrameBlind (PC D G S M av) := fun a U g mk q => ⟨q.1, q.2.1.calling, q.2.2⟩
theorem sw {c A B Z : Prop} (h : wIf c A B) (f : c → A → Z) (g : ¬ c → B → Z) : Z := by
  by_cases hc : c
  · exact f hc (h.1 hc)
  · exact g hc (h.2 hc)
theorem vpn_z {v : Int32} (h : v.toInt = 0 ∨ v.toInt = 1) : vp_nar .boolean v = v := by
  rcases h with h | h
  · have : v = 0 := Int32.toInt_inj.mp h
    subst this; rfl
  · have : v = 1 := Int32.toInt_inj.mp h
    subst this; rfl
theorem vpn_b {v : Int32} (h : -128 ≤ v.toInt ∧ v.toInt ≤ 127) : vp_nar .byte v = v := by
  rw [vp_nar_byte]
  apply Int32.toInt_inj.mp
  rw [Int8.toInt_toInt32, Int32.toInt_toInt8, Int.bmod_def]
  split <;> omega
section ROWS2
variable {p : Program} {l : Launch} {e : Env} {R : Room} {s : State} {m : MethodId} {args : Array Value} {below : List Frame} {meth : Method} {c : Code} {H : Heap} {locs : List Loc} {cells slots : Nat} {Q : State → Prop} {cc : ByteArray} {pc : Nat} {ls : Array Slot} {rest : List Value} {K : Int → Prop} {D : va_G} {G : Gt} {S : Sh} {M : Mm} {H0 : Heap}
theorem r_iret {post : Int → Mm → Prop} (hexec : p.tables.exec = Jvm.exec) (hb : c.code = cc) (hr : meth.sig.returnType = some .int) (hlocks : meth.locks = false) (hP : Wd D G S M H) (hS : va_S (aG G) s.heap H locs) {v : Int32} (hdg : decode cc pc = .ok (.ireturn, 1)) (h : post v.toInt M) : W p l e R s m args below meth c H locs cells slots (MQ below (QI D G S post) args s cells slots (aG G)) (F0 m pc ls [.int v]) := W.iret hexec hb hr (fun t ht hW => ⟨⟨v, M, rfl, h, by show Wd D G S M t.heap; rw [ht]; exact hP⟩, hS.F ht⟩) hS.2.2 hdg hlocks
theorem r_zret {post : Int → Mm → Prop} (hexec : p.tables.exec = Jvm.exec) (hb : c.code = cc) (hr : meth.sig.returnType = some .boolean) (hlocks : meth.locks = false) (hP : Wd D G S M H) (hS : va_S (aG G) s.heap H locs) {v : Int32} (hdg : decode cc pc = .ok (.ireturn, 1)) (h : (v.toInt = 0 ∨ v.toInt = 1) ∧ post v.toInt M) : W p l e R s m args below meth c H locs cells slots (MQ below (QI D G S post) args s cells slots (aG G)) (F0 m pc ls [.int v]) := W.zret hexec hb hr (nar_z h.1) (fun t ht hW => ⟨⟨v, M, rfl, h.2, by show Wd D G S M t.heap; rw [ht]; exact hP⟩, hS.F ht⟩) hS.2.2 hdg hlocks
theorem r_lret {post : Int → Mm → Prop} (hexec : p.tables.exec = Jvm.exec) (hb : c.code = cc) (hr : meth.sig.returnType = some .long) (hlocks : meth.locks = false) (hP : Wd D G S M H) (hS : va_S (aG G) s.heap H locs) {v : Int64} (hdg : decode cc pc = .ok (.lreturn, 1)) (h : post v.toInt M) : W p l e R s m args below meth c H locs cells slots (MQ below (QL D G S post) args s cells slots (aG G)) (F0 m pc ls [.long v]) := W.lret hexec hb hr (fun t ht hW => ⟨⟨v, M, rfl, h, by show Wd D G S M t.heap; rw [ht]; exact hP⟩, hS.F ht⟩) hS.2.2 hdg hlocks
theorem r_vret {post : Mm → Prop} (hexec : p.tables.exec = Jvm.exec) (hb : c.code = cc) (hr : meth.sig.returnType = none) (hlocks : meth.locks = false) (hP : Wd D G S M H) (hS : va_S (aG G) s.heap H locs) (hdg : decode cc pc = .ok (.return_, 1)) (h : post M) : W p l e R s m args below meth c H locs cells slots (MQ below (QV D G S post) args s cells slots (aG G)) (F0 m pc ls []) := W.vret hexec hb hr (fun t ht hW => ⟨⟨M, rfl, h, by show Wd D G S M t.heap; rw [ht]; exact hP⟩, hS.F ht⟩) hS.2.2 hdg hlocks
theorem q_Vi (hexec : p.tables.exec = Jvm.exec) (hb : c.code = cc) {nL : Nat} (hml : c.maxLocals = nL) {own : String} (hown : s.vm.findClass own = some m.cls) {Ts : List Cond} (hts : ∀ w ∈ Ts, w.before args s = true) (hK : KN D G s) (hP : Wd D G S M H) (hS : va_S (aG G) s.heap H locs) {y : MethodName} {ws : List Cond} {rm : Room} {post : Int → Mm → Prop} {As : List Value} {x : Int} (hM : Met l y ws rm (PC D G S M (.ref (adr G x) :: As)) (QI D G S post) 0 0 (aG G)) {C : String} {T : u_T} {N ci index n maxL : Nat} {bytes : ByteArray} {ret : Option FieldType} (cw : CallW R s args own C index y bytes maxL ret ws rm 0 0 n) (hk : isK S x ci) (hc : vwCl[ci]? = some (C, T, N)) (hci : ci < 13) (hn : As.length = n) (hsize : ls.size = nL) {st0 : List Value} (hstack : st0 = As.reverse ++ .ref (adr G x) :: rest) (hW : 2 * (F0 m pc ls st0).monitorRoom + (rest.map fun v => v.category).sum ≤ 8) (hdg : decode cc pc = .ok (.invokevirtual index, 3)) (hf : cells + 0 ≤ R.cells ∧ slots + 0 ≤ R.slots) (kk : ∀ (z : Int32) (M1 : Mm) (H1 : Heap) (locs1 : List Loc), post z.toInt M1 → Wd D G S M1 H1 → va_S (aG G) s.heap H1 locs1 → W p l e R s m args below meth c H1 locs1 cells slots Q (F0 m (pc + 3) ls (.int z :: rest))) : W p l e R s m args below meth c H locs cells slots Q (F0 m pc ls st0) := by
  have he := wsM_get (G := G) (M := M) hk.2.1
  rw [cE_obj hk hci] at he
  refine va_calli (A1 := aG G) (va_runV (As := As) (rest := rest) (b := adr G x) ⟨hexec, hb, hml, hown, hts⟩ hM cw ⟨PC_blind, ?_, fun U hU hW => ⟨rfl, hK.on hS hU hW, by rw [hU]; exact hP⟩⟩ rfl hn hsize hstack hW hdg hf) hS (fun q _ h => h) (fun q h => h) (fun r u t H1 locs1 ht hvm hw hB hz hk hS1 => kk r  u H1 locs1 hw (by rw [← ht]; exact hB) hS1)
  have := va_recv (H := H) hK.1 hP.P hc he
  rw [adr_of hk.1]
  exact this
theorem q_Si (hexec : p.tables.exec = Jvm.exec) (hb : c.code = cc) {nL : Nat} (hml : c.maxLocals = nL) {own : String} (hown : s.vm.findClass own = some m.cls) {Ts : List Cond} (hts : ∀ w ∈ Ts, w.before args s = true) (hK : KN D G s) (hP : Wd D G S M H) (hS : va_S (aG G) s.heap H locs) {y : MethodName} {ws : List Cond} {rm : Room} {post : Int → Mm → Prop} {As : List Value} (hM : Met l y ws rm (PC D G S M As) (QI D G S post) 0 0 (aG G)) {index n maxL : Nat} {bytes : ByteArray} {ret : Option FieldType} (cw : CallB R s args own index y bytes maxL ret ws rm 0 0 n ∧ (Cond.static y).before args s = true) (hn : As.length = n) (hsize : ls.size = nL) {st0 : List Value} (hstack : st0 = As.reverse ++ rest) (hW : 2 * (F0 m pc ls st0).monitorRoom + (rest.map fun v => v.category).sum ≤ 8) (hdg : decode cc pc = .ok (.invokestatic index, 3)) (hf : cells + 0 ≤ R.cells ∧ slots + 0 ≤ R.slots) (kk : ∀ (z : Int32) (M1 : Mm) (H1 : Heap) (locs1 : List Loc), post z.toInt M1 → Wd D G S M1 H1 → va_S (aG G) s.heap H1 locs1 → W p l e R s m args below meth c H1 locs1 cells slots Q (F0 m (pc + 3) ls (.int z :: rest))) : W p l e R s m args below meth c H locs cells slots Q (F0 m pc ls st0) := by
  exact va_calli (A1 := aG G) (va_runS (As := As) (rest := rest) ⟨hexec, hb, hml, hown, hts⟩ hM cw ⟨PC_blind, fun U hU hW => ⟨rfl, hK.on hS hU hW, by rw [hU]; exact hP⟩⟩ rfl hn hsize hstack hW hdg hf) hS (fun q _ h => h) (fun q h => h) (fun r u t H1 locs1 ht hvm hw hB hz hk hS1 => kk r  u H1 locs1 hw (by rw [← ht]; exact hB) hS1)
theorem q_Vl (hexec : p.tables.exec = Jvm.exec) (hb : c.code = cc) {nL : Nat} (hml : c.maxLocals = nL) {own : String} (hown : s.vm.findClass own = some m.cls) {Ts : List Cond} (hts : ∀ w ∈ Ts, w.before args s = true) (hK : KN D G s) (hP : Wd D G S M H) (hS : va_S (aG G) s.heap H locs) {y : MethodName} {ws : List Cond} {rm : Room} {post : Int → Mm → Prop} {As : List Value} {x : Int} (hM : Met l y ws rm (PC D G S M (.ref (adr G x) :: As)) (QL D G S post) 0 0 (aG G)) {C : String} {T : u_T} {N ci index n maxL : Nat} {bytes : ByteArray} {ret : Option FieldType} (cw : CallW R s args own C index y bytes maxL ret ws rm 0 0 n) (hk : isK S x ci) (hc : vwCl[ci]? = some (C, T, N)) (hci : ci < 13) (hn : As.length = n) (hsize : ls.size = nL) {st0 : List Value} (hstack : st0 = As.reverse ++ .ref (adr G x) :: rest) (hW : 2 * (F0 m pc ls st0).monitorRoom + (rest.map fun v => v.category).sum ≤ 8) (hdg : decode cc pc = .ok (.invokevirtual index, 3)) (hf : cells + 0 ≤ R.cells ∧ slots + 0 ≤ R.slots) (kk : ∀ (z : Int64) (M1 : Mm) (H1 : Heap) (locs1 : List Loc), post z.toInt M1 → Wd D G S M1 H1 → va_S (aG G) s.heap H1 locs1 → W p l e R s m args below meth c H1 locs1 cells slots Q (F0 m (pc + 3) ls (.long z :: rest))) : W p l e R s m args below meth c H locs cells slots Q (F0 m pc ls st0) := by
  have he := wsM_get (G := G) (M := M) hk.2.1
  rw [cE_obj hk hci] at he
  refine va_calll (A1 := aG G) (va_runV (As := As) (rest := rest) (b := adr G x) ⟨hexec, hb, hml, hown, hts⟩ hM cw ⟨PC_blind, ?_, fun U hU hW => ⟨rfl, hK.on hS hU hW, by rw [hU]; exact hP⟩⟩ rfl hn hsize hstack hW hdg hf) hS (fun q _ h => h) (fun q h => h) (fun r u t H1 locs1 ht hvm hw hB hz hk hS1 => kk r  u H1 locs1 hw (by rw [← ht]; exact hB) hS1)
  have := va_recv (H := H) hK.1 hP.P hc he
  rw [adr_of hk.1]
  exact this
theorem q_Sl (hexec : p.tables.exec = Jvm.exec) (hb : c.code = cc) {nL : Nat} (hml : c.maxLocals = nL) {own : String} (hown : s.vm.findClass own = some m.cls) {Ts : List Cond} (hts : ∀ w ∈ Ts, w.before args s = true) (hK : KN D G s) (hP : Wd D G S M H) (hS : va_S (aG G) s.heap H locs) {y : MethodName} {ws : List Cond} {rm : Room} {post : Int → Mm → Prop} {As : List Value} (hM : Met l y ws rm (PC D G S M As) (QL D G S post) 0 0 (aG G)) {index n maxL : Nat} {bytes : ByteArray} {ret : Option FieldType} (cw : CallB R s args own index y bytes maxL ret ws rm 0 0 n ∧ (Cond.static y).before args s = true) (hn : As.length = n) (hsize : ls.size = nL) {st0 : List Value} (hstack : st0 = As.reverse ++ rest) (hW : 2 * (F0 m pc ls st0).monitorRoom + (rest.map fun v => v.category).sum ≤ 8) (hdg : decode cc pc = .ok (.invokestatic index, 3)) (hf : cells + 0 ≤ R.cells ∧ slots + 0 ≤ R.slots) (kk : ∀ (z : Int64) (M1 : Mm) (H1 : Heap) (locs1 : List Loc), post z.toInt M1 → Wd D G S M1 H1 → va_S (aG G) s.heap H1 locs1 → W p l e R s m args below meth c H1 locs1 cells slots Q (F0 m (pc + 3) ls (.long z :: rest))) : W p l e R s m args below meth c H locs cells slots Q (F0 m pc ls st0) := by
  exact va_calll (A1 := aG G) (va_runS (As := As) (rest := rest) ⟨hexec, hb, hml, hown, hts⟩ hM cw ⟨PC_blind, fun U hU hW => ⟨rfl, hK.on hS hU hW, by rw [hU]; exact hP⟩⟩ rfl hn hsize hstack hW hdg hf) hS (fun q _ h => h) (fun q h => h) (fun r u t H1 locs1 ht hvm hw hB hz hk hS1 => kk r  u H1 locs1 hw (by rw [← ht]; exact hB) hS1)
theorem q_Vv (hexec : p.tables.exec = Jvm.exec) (hb : c.code = cc) {nL : Nat} (hml : c.maxLocals = nL) {own : String} (hown : s.vm.findClass own = some m.cls) {Ts : List Cond} (hts : ∀ w ∈ Ts, w.before args s = true) (hK : KN D G s) (hP : Wd D G S M H) (hS : va_S (aG G) s.heap H locs) {y : MethodName} {ws : List Cond} {rm : Room} {post : Mm → Prop} {As : List Value} {x : Int} (hM : Met l y ws rm (PC D G S M (.ref (adr G x) :: As)) (QV D G S post) 0 0 (aG G)) {C : String} {T : u_T} {N ci index n maxL : Nat} {bytes : ByteArray} {ret : Option FieldType} (cw : CallW R s args own C index y bytes maxL ret ws rm 0 0 n) (hk : isK S x ci) (hc : vwCl[ci]? = some (C, T, N)) (hci : ci < 13) (hn : As.length = n) (hsize : ls.size = nL) {st0 : List Value} (hstack : st0 = As.reverse ++ .ref (adr G x) :: rest) (hW : 2 * (F0 m pc ls st0).monitorRoom + (rest.map fun v => v.category).sum ≤ 8) (hdg : decode cc pc = .ok (.invokevirtual index, 3)) (hf : cells + 0 ≤ R.cells ∧ slots + 0 ≤ R.slots) (kk : ∀ (M1 : Mm) (H1 : Heap) (locs1 : List Loc), post M1 → Wd D G S M1 H1 → va_S (aG G) s.heap H1 locs1 → W p l e R s m args below meth c H1 locs1 cells slots Q (F0 m (pc + 3) ls (rest))) : W p l e R s m args below meth c H locs cells slots Q (F0 m pc ls st0) := by
  have he := wsM_get (G := G) (M := M) hk.2.1
  rw [cE_obj hk hci] at he
  refine va_callv (A1 := aG G) (va_runV (As := As) (rest := rest) (b := adr G x) ⟨hexec, hb, hml, hown, hts⟩ hM cw ⟨PC_blind, ?_, fun U hU hW => ⟨rfl, hK.on hS hU hW, by rw [hU]; exact hP⟩⟩ rfl hn hsize hstack hW hdg hf) hS (fun q _ h => h) (fun q h => h) (fun u t H1 locs1 ht hvm hw hB hz hk hS1 => kk  u H1 locs1 hw (by rw [← ht]; exact hB) hS1)
  have := va_recv (H := H) hK.1 hP.P hc he
  rw [adr_of hk.1]
  exact this
theorem q_Sv (hexec : p.tables.exec = Jvm.exec) (hb : c.code = cc) {nL : Nat} (hml : c.maxLocals = nL) {own : String} (hown : s.vm.findClass own = some m.cls) {Ts : List Cond} (hts : ∀ w ∈ Ts, w.before args s = true) (hK : KN D G s) (hP : Wd D G S M H) (hS : va_S (aG G) s.heap H locs) {y : MethodName} {ws : List Cond} {rm : Room} {post : Mm → Prop} {As : List Value} (hM : Met l y ws rm (PC D G S M As) (QV D G S post) 0 0 (aG G)) {index n maxL : Nat} {bytes : ByteArray} {ret : Option FieldType} (cw : CallB R s args own index y bytes maxL ret ws rm 0 0 n ∧ (Cond.static y).before args s = true) (hn : As.length = n) (hsize : ls.size = nL) {st0 : List Value} (hstack : st0 = As.reverse ++ rest) (hW : 2 * (F0 m pc ls st0).monitorRoom + (rest.map fun v => v.category).sum ≤ 8) (hdg : decode cc pc = .ok (.invokestatic index, 3)) (hf : cells + 0 ≤ R.cells ∧ slots + 0 ≤ R.slots) (kk : ∀ (M1 : Mm) (H1 : Heap) (locs1 : List Loc), post M1 → Wd D G S M1 H1 → va_S (aG G) s.heap H1 locs1 → W p l e R s m args below meth c H1 locs1 cells slots Q (F0 m (pc + 3) ls (rest))) : W p l e R s m args below meth c H locs cells slots Q (F0 m pc ls st0) := by
  exact va_callv (A1 := aG G) (va_runS (As := As) (rest := rest) ⟨hexec, hb, hml, hown, hts⟩ hM cw ⟨PC_blind, fun U hU hW => ⟨rfl, hK.on hS hU hW, by rw [hU]; exact hP⟩⟩ rfl hn hsize hstack hW hdg hf) hS (fun q _ h => h) (fun q h => h) (fun u t H1 locs1 ht hvm hw hB hz hk hS1 => kk  u H1 locs1 hw (by rw [← ht]; exact hB) hS1)
theorem arr_up {M : Mm} {x : Int} {i : Int32} {v : Int32} (h0 : 0 ≤ i.toInt) : (fun j : Nat => Int32.ofInt (up M x i.toInt v.toInt x j)) = upd (fun j : Nat => Int32.ofInt (M x j)) i.toNatClampNeg v := by
  have hi : ((i.toNatClampNeg : Nat) : Int) = i.toInt := Int.toNat_of_nonneg h0
  funext j
  by_cases e : j = i.toNatClampNeg
  · subst e
    rw [hi, up_at, pk_us, ofInt_toInt32]
  · rw [pk_un e, up_ne (fun q => e (by omega))]
theorem arr_upL {M : Mm} {x : Int} {i : Int32} {v : Int64} (h0 : 0 ≤ i.toInt) : (fun j : Nat => Int64.ofInt (up M x i.toInt v.toInt x j)) = vp_updL (fun j : Nat => Int64.ofInt (M x j)) i.toNatClampNeg v := by
  have hi : ((i.toNatClampNeg : Nat) : Int) = i.toInt := Int.toNat_of_nonneg h0
  funext j
  by_cases e : j = i.toNatClampNeg
  · subst e
    rw [hi, up_at, pk_uLs, ofInt_toInt64]
  · rw [pk_uLn e, up_ne (fun q => e (by omega))]
theorem r_iast (hexec : p.tables.exec = Jvm.exec) (hb : c.code = cc) (hK : KN D G s) (hP : Wd D G S M H) (hS : va_S (aG G) H0 H locs) {x : Int} {i v : Int32} {K2 : Mm → Prop} (hdg : decode cc pc = .ok (.iastore, 1)) (h : wSt S M x 14 i.toInt v.toInt K2) (kk : ∀ (M1 : Mm) (H1 : Heap) (locs1 : List Loc), K2 M1 → Wd D G S M1 H1 → va_S (aG G) H0 H1 locs1 → W p l e R s m args below meth c H1 locs1 cells slots Q (F0 m (pc + 1) ls rest)) : W p l e R s m args below meth c H locs cells slots Q (F0 m pc ls (.int v :: .int i :: .ref (adr G x) :: rest)) := by
  rw [adr_of h.1.1]
  have he := wsM_get (G := G) (M := M) h.1.2.1
  rw [cE_ints h.1 (by decide) (by decide)] at he
  have hi : ((i.toNatClampNeg : Nat) : Int) = i.toInt := Int.toNat_of_nonneg h.2.1.1
  refine va_iast hexec hb hK.1 hP.P hP.D hS x.toNat 1 he rfl (vp_in_iff.mpr h.2.1) hdg (fun H1 locs1 hP1 hD1 hS1 => ?_)
  refine kk (up M x i.toInt v.toInt) H1 locs1 h.2.2 ⟨hP.1, hP.2.1, ?_, ?_⟩ hS1
  · rw [← wsM_set h.1.1 h.1.2.1 rfl, cE_ints h.1 (by decide) (by decide), arr_up h.2.1.1]
    exact hP1
  · rw [← hi]
    exact hP.R.put (fun _ => k32_r _) (fun q => by simp [stT, h.1.2.2] at q)
theorem r_bast (hexec : p.tables.exec = Jvm.exec) (hb : c.code = cc) (hK : KN D G s) (hP : Wd D G S M H) (hS : va_S (aG G) H0 H locs) {x : Int} {i v : Int32} {K2 : Mm → Prop} (hdg : decode cc pc = .ok (.bastore, 1)) (h : wStB S M x 13 i.toInt v.toInt K2) (kk : ∀ (M1 : Mm) (H1 : Heap) (locs1 : List Loc), K2 M1 → Wd D G S M1 H1 → va_S (aG G) H0 H1 locs1 → W p l e R s m args below meth c H1 locs1 cells slots Q (F0 m (pc + 1) ls rest)) : W p l e R s m args below meth c H locs cells slots Q (F0 m pc ls (.int v :: .int i :: .ref (adr G x) :: rest)) := by
  rw [adr_of h.1.1]
  have he := wsM_get (G := G) (M := M) h.1.2.1
  rw [cE_ints h.1 (by decide) (by decide)] at he
  have hi : ((i.toNatClampNeg : Nat) : Int) = i.toInt := Int.toNat_of_nonneg h.2.1.1
  refine va_bast hexec hb hK.1 hP.P hP.D hS x.toNat 0 he rfl (vp_in_iff.mpr h.2.1) hdg (fun H1 locs1 hP1 hD1 hS1 => ?_)
  rw [vpn_b h.2.2.1] at hP1
  refine kk (up M x i.toInt v.toInt) H1 locs1 h.2.2.2 ⟨hP.1, hP.2.1, ?_, ?_⟩ hS1
  · rw [← wsM_set h.1.1 h.1.2.1 rfl, cE_ints h.1 (by decide) (by decide), arr_up h.2.1.1]
    exact hP1
  · rw [← hi]
    exact hP.R.put (fun _ => k32_r _) (fun q => by simp [stT, h.1.2.2] at q)
theorem r_zast (hexec : p.tables.exec = Jvm.exec) (hb : c.code = cc) (hK : KN D G s) (hP : Wd D G S M H) (hS : va_S (aG G) H0 H locs) {x : Int} {i v : Int32} {K2 : Mm → Prop} (hdg : decode cc pc = .ok (.bastore, 1)) (h : wStZ S M x 15 i.toInt v.toInt K2) (kk : ∀ (M1 : Mm) (H1 : Heap) (locs1 : List Loc), K2 M1 → Wd D G S M1 H1 → va_S (aG G) H0 H1 locs1 → W p l e R s m args below meth c H1 locs1 cells slots Q (F0 m (pc + 1) ls rest)) : W p l e R s m args below meth c H locs cells slots Q (F0 m pc ls (.int v :: .int i :: .ref (adr G x) :: rest)) := by
  rw [adr_of h.1.1]
  have he := wsM_get (G := G) (M := M) h.1.2.1
  rw [cE_ints h.1 (by decide) (by decide)] at he
  have hi : ((i.toNatClampNeg : Nat) : Int) = i.toInt := Int.toNat_of_nonneg h.2.1.1
  refine va_zast hexec hb hK.1 hP.P hP.D hS x.toNat 2 he rfl (vp_in_iff.mpr h.2.1) hdg (fun H1 locs1 hP1 hD1 hS1 => ?_)
  rw [vpn_z h.2.2.1] at hP1
  refine kk (up M x i.toInt v.toInt) H1 locs1 h.2.2.2 ⟨hP.1, hP.2.1, ?_, ?_⟩ hS1
  · rw [← wsM_set h.1.1 h.1.2.1 rfl, cE_ints h.1 (by decide) (by decide), arr_up h.2.1.1]
    exact hP1
  · rw [← hi]
    exact hP.R.put (fun _ => k32_r _) (fun q => by simp [stT, h.1.2.2] at q)
theorem r_last (hexec : p.tables.exec = Jvm.exec) (hb : c.code = cc) (hK : KN D G s) (hP : Wd D G S M H) (hS : va_S (aG G) H0 H locs) {x : Int} {i : Int32} {v : Int64} {K2 : Mm → Prop} (hdg : decode cc pc = .ok (.lastore, 1)) (h : wSt S M x 16 i.toInt v.toInt K2) (kk : ∀ (M1 : Mm) (H1 : Heap) (locs1 : List Loc), K2 M1 → Wd D G S M1 H1 → va_S (aG G) H0 H1 locs1 → W p l e R s m args below meth c H1 locs1 cells slots Q (F0 m (pc + 1) ls rest)) : W p l e R s m args below meth c H locs cells slots Q (F0 m pc ls (.long v :: .int i :: .ref (adr G x) :: rest)) := by
  rw [adr_of h.1.1]
  have he := wsM_get (G := G) (M := M) h.1.2.1
  rw [cE_longs h.1] at he
  have hi : ((i.toNatClampNeg : Nat) : Int) = i.toInt := Int.toNat_of_nonneg h.2.1.1
  refine va_last hexec hb hK.1 hP.P hP.D hS x.toNat 3 he rfl (vp_in_iff.mpr h.2.1) hdg (fun H1 locs1 hP1 hD1 hS1 => ?_)
  refine kk (up M x i.toInt v.toInt) H1 locs1 h.2.2 ⟨hP.1, hP.2.1, ?_, ?_⟩ hS1
  · rw [← wsM_set h.1.1 h.1.2.1 rfl, cE_longs h.1, arr_upL h.2.1.1]
    exact hP1
  · rw [← hi]
    exact hP.R.put (fun q => by simp [stT, h.1.2.2] at q) (fun _ => k64_r _)
end ROWS2
theorem iX0 : ∀ w ∈ u_ws RX0 TX0 3, w ∈ gw := by
  intro w hw
  obtain ⟨k, hk, rfl⟩ := List.mem_map.mp hw
  have hk := List.mem_range.mp hk
  match k, hk with
  | 0, _ => exact kw_294
  | 1, _ => exact kw_296
  | 2, _ => exact kw_298
  | q + 3, h => exact absurd h (by omega)
theorem iX1 : ∀ w ∈ u_ws RX1 TX1 3, w ∈ gw := by
  intro w hw
  obtain ⟨k, hk, rfl⟩ := List.mem_map.mp hw
  have hk := List.mem_range.mp hk
  match k, hk with
  | 0, _ => exact kw_402
  | 1, _ => exact kw_404
  | 2, _ => exact kw_406
  | q + 3, h => exact absurd h (by omega)
theorem iX2 : ∀ w ∈ u_ws RX2 TX2 11, w ∈ gw := by
  intro w hw
  obtain ⟨k, hk, rfl⟩ := List.mem_map.mp hw
  have hk := List.mem_range.mp hk
  match k, hk with
  | 0, _ => exact kw_426
  | 1, _ => exact kw_428
  | 2, _ => exact kw_430
  | 3, _ => exact kw_432
  | 4, _ => exact kw_434
  | 5, _ => exact kw_436
  | 6, _ => exact kw_438
  | 7, _ => exact kw_440
  | 8, _ => exact kw_442
  | 9, _ => exact kw_444
  | 10, _ => exact kw_446
  | q + 11, h => exact absurd h (by omega)
theorem iX3 : ∀ w ∈ u_ws RX3 TX3 9, w ∈ gw := by
  intro w hw
  obtain ⟨k, hk, rfl⟩ := List.mem_map.mp hw
  have hk := List.mem_range.mp hk
  match k, hk with
  | 0, _ => exact kw_316
  | 1, _ => exact kw_318
  | 2, _ => exact kw_320
  | 3, _ => exact kw_322
  | 4, _ => exact kw_324
  | 5, _ => exact kw_326
  | 6, _ => exact kw_328
  | 7, _ => exact kw_330
  | 8, _ => exact kw_332
  | q + 9, h => exact absurd h (by omega)
theorem iX4 : ∀ w ∈ u_ws RX4 TX4 10, w ∈ gw := by
  intro w hw
  obtain ⟨k, hk, rfl⟩ := List.mem_map.mp hw
  have hk := List.mem_range.mp hk
  match k, hk with
  | 0, _ => exact kw_253
  | 1, _ => exact kw_255
  | 2, _ => exact kw_257
  | 3, _ => exact kw_259
  | 4, _ => exact kw_261
  | 5, _ => exact kw_263
  | 6, _ => exact kw_265
  | 7, _ => exact kw_267
  | 8, _ => exact kw_269
  | 9, _ => exact kw_271
  | q + 10, h => exact absurd h (by omega)
theorem iX5 : ∀ w ∈ u_ws RX5 TX5 9, w ∈ gw := by
  intro w hw
  obtain ⟨k, hk, rfl⟩ := List.mem_map.mp hw
  have hk := List.mem_range.mp hk
  match k, hk with
  | 0, _ => exact kw_212
  | 1, _ => exact kw_214
  | 2, _ => exact kw_216
  | 3, _ => exact kw_218
  | 4, _ => exact kw_220
  | 5, _ => exact kw_222
  | 6, _ => exact kw_224
  | 7, _ => exact kw_226
  | 8, _ => exact kw_228
  | q + 9, h => exact absurd h (by omega)
theorem iX6 : ∀ w ∈ u_ws RX6 TX6 3, w ∈ gw := by
  intro w hw
  obtain ⟨k, hk, rfl⟩ := List.mem_map.mp hw
  have hk := List.mem_range.mp hk
  match k, hk with
  | 0, _ => exact kw_458
  | 1, _ => exact kw_460
  | 2, _ => exact kw_462
  | q + 3, h => exact absurd h (by omega)
theorem iX7 : ∀ w ∈ u_ws RX7 TX7 5, w ∈ gw := by
  intro w hw
  obtain ⟨k, hk, rfl⟩ := List.mem_map.mp hw
  have hk := List.mem_range.mp hk
  match k, hk with
  | 0, _ => exact kw_43
  | 1, _ => exact kw_45
  | 2, _ => exact kw_47
  | 3, _ => exact kw_49
  | 4, _ => exact kw_51
  | q + 5, h => exact absurd h (by omega)
theorem iX8 : ∀ w ∈ u_ws RX8 TX8 19, w ∈ gw := by
  intro w hw
  obtain ⟨k, hk, rfl⟩ := List.mem_map.mp hw
  have hk := List.mem_range.mp hk
  match k, hk with
  | 0, _ => exact kw_130
  | 1, _ => exact kw_132
  | 2, _ => exact kw_134
  | 3, _ => exact kw_136
  | 4, _ => exact kw_138
  | 5, _ => exact kw_140
  | 6, _ => exact kw_142
  | 7, _ => exact kw_144
  | 8, _ => exact kw_146
  | 9, _ => exact kw_148
  | 10, _ => exact kw_150
  | 11, _ => exact kw_152
  | 12, _ => exact kw_154
  | 13, _ => exact kw_156
  | 14, _ => exact kw_158
  | 15, _ => exact kw_160
  | 16, _ => exact kw_162
  | 17, _ => exact kw_164
  | 18, _ => exact kw_166
  | q + 19, h => exact absurd h (by omega)
theorem iX9 : ∀ w ∈ u_ws RX9 TX9 5, w ∈ gw := by
  intro w hw
  obtain ⟨k, hk, rfl⟩ := List.mem_map.mp hw
  have hk := List.mem_range.mp hk
  match k, hk with
  | 0, _ => exact kw_478
  | 1, _ => exact kw_480
  | 2, _ => exact kw_482
  | 3, _ => exact kw_484
  | 4, _ => exact kw_486
  | q + 5, h => exact absurd h (by omega)
theorem iX10 : ∀ w ∈ u_ws RX10 TX10 12, w ∈ gw := by
  intro w hw
  obtain ⟨k, hk, rfl⟩ := List.mem_map.mp hw
  have hk := List.mem_range.mp hk
  match k, hk with
  | 0, _ => exact kw_366
  | 1, _ => exact kw_368
  | 2, _ => exact kw_370
  | 3, _ => exact kw_372
  | 4, _ => exact kw_374
  | 5, _ => exact kw_376
  | 6, _ => exact kw_378
  | 7, _ => exact kw_380
  | 8, _ => exact kw_382
  | 9, _ => exact kw_384
  | 10, _ => exact kw_386
  | 11, _ => exact kw_388
  | q + 12, h => exact absurd h (by omega)
theorem iX11 : ∀ w ∈ u_ws RX11 TX11 16, w ∈ gw := by
  intro w hw
  obtain ⟨k, hk, rfl⟩ := List.mem_map.mp hw
  have hk := List.mem_range.mp hk
  match k, hk with
  | 0, _ => exact kw_507
  | 1, _ => exact kw_509
  | 2, _ => exact kw_511
  | 3, _ => exact kw_513
  | 4, _ => exact kw_515
  | 5, _ => exact kw_517
  | 6, _ => exact kw_519
  | 7, _ => exact kw_521
  | 8, _ => exact kw_523
  | 9, _ => exact kw_525
  | 10, _ => exact kw_527
  | 11, _ => exact kw_529
  | 12, _ => exact kw_531
  | 13, _ => exact kw_533
  | 14, _ => exact kw_535
  | 15, _ => exact kw_537
  | q + 16, h => exact absurd h (by omega)
theorem iX12 : ∀ w ∈ u_ws RX12 TX12 38, w ∈ gw := by
  intro w hw
  obtain ⟨k, hk, rfl⟩ := List.mem_map.mp hw
  have hk := List.mem_range.mp hk
  match k, hk with
  | 0, _ => exact kw_1372
  | 1, _ => exact kw_1374
  | 2, _ => exact kw_1376
  | 3, _ => exact kw_1378
  | 4, _ => exact kw_1380
  | 5, _ => exact kw_1382
  | 6, _ => exact kw_1384
  | 7, _ => exact kw_1386
  | 8, _ => exact kw_1388
  | 9, _ => exact kw_1390
  | 10, _ => exact kw_1392
  | 11, _ => exact kw_1394
  | 12, _ => exact kw_1396
  | 13, _ => exact kw_1398
  | 14, _ => exact kw_1400
  | 15, _ => exact kw_1402
  | 16, _ => exact kw_1404
  | 17, _ => exact kw_1406
  | 18, _ => exact kw_1408
  | 19, _ => exact kw_1410
  | 20, _ => exact kw_1412
  | 21, _ => exact kw_1414
  | 22, _ => exact kw_1416
  | 23, _ => exact kw_1418
  | 24, _ => exact kw_1420
  | 25, _ => exact kw_1422
  | 26, _ => exact kw_1424
  | 27, _ => exact kw_1426
  | 28, _ => exact kw_1428
  | 29, _ => exact kw_1430
  | 30, _ => exact kw_1432
  | 31, _ => exact kw_1434
  | 32, _ => exact kw_1436
  | 33, _ => exact kw_1438
  | 34, _ => exact kw_1440
  | 35, _ => exact kw_1442
  | 36, _ => exact kw_1444
  | 37, _ => exact kw_1446
  | q + 38, h => exact absurd h (by omega)
end
