/-! my own words for the cells: numbers, by cell and place -/
abbrev Mm : Type := Int → Int → Int
/-- how many cells, the kind of each, the length of each -/
abbrev Sh : Type := Nat × (Int → Nat) × (Int → Nat)
/-- where each cell lies, where new ones begin, the empty row of the class, the row classes, the texts and their bytes -/
abbrev Gt : Type := (Nat → Nat) × Nat × Nat × (Nat → ClassId) × (Nat → Nat) × (Nat → Nat)
abbrev gB (G : Gt) : Nat := G.2.1
abbrev gZ (G : Gt) : Nat := G.2.2.1
abbrev gC (G : Gt) : Nat → ClassId := G.2.2.2.1
abbrev gK (G : Gt) : Nat → Nat := G.2.2.2.2.1
abbrev gV (G : Gt) : Nat → Nat := G.2.2.2.2.2
def adr (G : Gt) (x : Int) : Nat := if 0 ≤ x then G.1 x.toNat else if x = -2 then gZ G else gK G (-3 - x).toNat
def rfo (G : Gt) (x : Int) : Option Nat := if x = -1 then none else some (adr G x)
def nF (ci : Nat) : Nat := ([3, 3, 11, 9, 10, 9, 3, 5, 19, 5, 12, 16, 38] : List Nat).getD ci 0
def fTs : List (List Nat) := [[2, 2, 2], [2, 2, 0], [2, 2, 2, 2, 2, 2, 0, 0, 0, 0, 0], [2, 2, 0, 0, 2, 0, 0, 0, 0], [2, 2, 0, 0, 0, 2, 2, 2, 2, 0], [0, 0, 2, 2, 2, 2, 2, 2, 2], [2, 2, 2], [2, 0, 0, 0, 0], [0, 0, 0, 0, 0, 0, 0, 0, 2, 2, 2, 2, 2, 2, 2, 2, 2, 2, 2], [2, 2, 2, 0, 0], [2, 2, 0, 2, 0, 0, 0, 0, 0, 0, 0, 0], [2, 2, 2, 2, 0, 0, 2, 0, 2, 2, 2, 2, 2, 2, 2, 2], [2, 0, 0, 2, 2, 2, 2, 2, 0, 0, 0, 0, 0, 0, 0, 2, 0, 2, 0, 2, 2, 0, 0, 0, 2, 0, 2, 2, 2, 0, 2, 2, 2, 1, 2, 2, 2, 2]]
def fT (ci j : Nat) : Nat := (fTs.getD ci []).getD j 0
def nwT : List (String × Nat × String × String × String) := [("TurningMilk", 116, "TurningMilk$Tape", "length", "I"), ("TurningMilk", 124, "TurningMilk$Tape", "fault", "I"), ("TurningMilk$Hours", 115, "TurningMilk$Told", "places", "I"), ("TurningMilk$DairyReader", 121, "TurningMilk$Told", "places", "I"), ("TurningMilk", 166, "TurningMilk$Told", "places", "I"), ("TurningMilk$Hours", 70, "TurningMilk$Told", "ground", "I"), ("TurningMilk$DairyReader", 124, "TurningMilk$Told", "ground", "I"), ("TurningMilk$Hours", 44, "TurningMilk$Told", "sour", "I"), ("TurningMilk$Turning", 67, "TurningMilk$Told", "sour", "I"), ("TurningMilk$DairyReader", 127, "TurningMilk$Told", "sour", "I"), ("TurningMilk", 212, "TurningMilk$Told", "sour", "I"), ("TurningMilk$DairyReader", 76, "TurningMilk$Told", "roads", "I"), ("TurningMilk$Hours", 47, "TurningMilk$Told", "hands", "I"), ("TurningMilk$Trials", 67, "TurningMilk$Told", "hands", "I"), ("TurningMilk$DairyReader", 80, "TurningMilk$Told", "hands", "I"), ("TurningMilk$Relay", 89, "TurningMilk$Told", "hands", "I"), ("TurningMilk$Tables", 73, "TurningMilk$Told", "hands", "I"), ("TurningMilk", 169, "TurningMilk$Told", "hands", "I"), ("TurningMilk$Hours", 22, "TurningMilk$Told", "jugs", "I"), ("TurningMilk$Tables", 38, "TurningMilk$Told", "jugs", "I"), ("TurningMilk", 146, "TurningMilk$Told", "jugs", "I"), ("TurningMilk$DairyReader", 83, "TurningMilk$Told", "jugs", "I"), ("TurningMilk$DairyReader", 86, "TurningMilk$Told", "heats", "I"), ("TurningMilk$Tables", 28, "TurningMilk$Told", "wants", "I"), ("TurningMilk$DairyReader", 89, "TurningMilk$Told", "wants", "I"), ("TurningMilk", 172, "TurningMilk$Told", "wants", "I"), ("TurningMilk$Turning", 49, "TurningMilk$Told", "speed", "[I"), ("TurningMilk$Tables", 76, "TurningMilk$Told", "speed", "[I"), ("TurningMilk$DairyReader", 144, "TurningMilk$Told", "speed", "[I"), ("TurningMilk", 197, "TurningMilk$Told", "speed", "[I"), ("TurningMilk$Hours", 50, "TurningMilk$Told", "tires", "[I"), ("TurningMilk$Turning", 103, "TurningMilk$Told", "tires", "[I"), ("TurningMilk$DairyReader", 147, "TurningMilk$Told", "tires", "[I"), ("TurningMilk", 200, "TurningMilk$Told", "tires", "[I"), ("TurningMilk$DairyReader", 156, "TurningMilk$Told", "heatFirst", "[I"), ("TurningMilk$DairyReader", 159, "TurningMilk$Told", "heatLast", "[I"), ("TurningMilk$DairyReader", 162, "TurningMilk$Told", "heatMore", "[I"), ("TurningMilk$DairyReader", 165, "TurningMilk$Told", "wantPlace", "[I"), ("TurningMilk", 221, "TurningMilk$Told", "wantPlace", "[I"), ("TurningMilk$DairyReader", 168, "TurningMilk$Told", "wantLeast", "[I"), ("TurningMilk", 224, "TurningMilk$Told", "wantLeast", "[I"), ("TurningMilk$DairyReader", 171, "TurningMilk$Told", "wantMost", "[I"), ("TurningMilk", 227, "TurningMilk$Told", "wantMost", "[I"), ("TurningMilk$Tables", 63, "TurningMilk$Told", "wantPay", "[I"), ("TurningMilk$DairyReader", 174, "TurningMilk$Told", "wantPay", "[I"), ("TurningMilk", 230, "TurningMilk$Told", "wantPay", "[I"), ("TurningMilk$Trials", 29, "TurningMilk$State", "hour", "I"), ("TurningMilk$Hours", 63, "TurningMilk$State", "hour", "I"), ("TurningMilk$Turning", 85, "TurningMilk$State", "hour", "I"), ("TurningMilk", 252, "TurningMilk$State", "hour", "I"), ("TurningMilk", 286, "TurningMilk$State", "pay", "I"), ("TurningMilk$DairyReader", 140, "TurningMilk$State", "handPlace", "[I"), ("TurningMilk", 184, "TurningMilk$State", "handPlace", "[I"), ("TurningMilk$Trials", 47, "TurningMilk$State", "handToGo", "[I"), ("TurningMilk$Hours", 57, "TurningMilk$State", "handToGo", "[I"), ("TurningMilk", 187, "TurningMilk$State", "handToGo", "[I"), ("TurningMilk$Trials", 41, "TurningMilk$State", "handTired", "[I"), ("TurningMilk$Turning", 82, "TurningMilk$State", "handTired", "[I"), ("TurningMilk", 190, "TurningMilk$State", "handTired", "[I"), ("TurningMilk$DairyReader", 150, "TurningMilk$State", "jugPlace", "[I"), ("TurningMilk", 203, "TurningMilk$State", "jugPlace", "[I"), ("TurningMilk$Hours", 80, "TurningMilk$State", "jugHolder", "[I"), ("TurningMilk", 206, "TurningMilk$State", "jugHolder", "[I"), ("TurningMilk$Hours", 28, "TurningMilk$State", "jugTurned", "[I"), ("TurningMilk$Tables", 56, "TurningMilk$State", "jugTurned", "[I"), ("TurningMilk$Turning", 77, "TurningMilk$State", "jugTurned", "[I"), ("TurningMilk$DairyReader", 153, "TurningMilk$State", "jugTurned", "[I"), ("TurningMilk", 209, "TurningMilk$State", "jugTurned", "[I"), ("TurningMilk$Tables", 53, "TurningMilk$State", "wantMet", "[I"), ("TurningMilk", 233, "TurningMilk$State", "wantMet", "[I"), ("TurningMilk", 57, "TurningMilk$Scene", "told", "LTurningMilk$Told;"), ("TurningMilk$Trials", 63, "TurningMilk$Scene", "told", "LTurningMilk$Told;"), ("TurningMilk$Trials", 23, "TurningMilk$Scene", "state", "LTurningMilk$State;"), ("TurningMilk", 133, "TurningMilk$Scene", "state", "LTurningMilk$State;"), ("TurningMilk", 157, "TurningMilk$Scene", "force", "I"), ("TurningMilk", 393, "TurningMilk$Scene", "x", "I"), ("TurningMilk$Trials", 76, "TurningMilk$Scene", "tests", "I"), ("TurningMilk", 140, "TurningMilk$Scene", "tests", "I"), ("TurningMilk$Trials", 79, "TurningMilk$Scene", "testFrom", "[I"), ("TurningMilk$Trials", 85, "TurningMilk$Scene", "testHours", "[I"), ("TurningMilk$Trials", 82, "TurningMilk$Scene", "testAt", "[I"), ("TurningMilk$Trials", 88, "TurningMilk$Scene", "testTo", "[I"), ("TurningMilk", 411, "TurningMilk$Scene", "isMade", "Z"), ("TurningMilk", 127, "TurningMilk$DairyReader", "told", "LTurningMilk$Told;"), ("TurningMilk", 136, "TurningMilk$DairyReader", "state", "LTurningMilk$State;"), ("TurningMilk$Turning", 11, "TurningMilk", "NO_RULE", "[I"), ("TurningMilk$Hours", 15, "TurningMilk$Turning", "told", "LTurningMilk$Told;"), ("TurningMilk$Relay", 28, "TurningMilk$Turning", "told", "LTurningMilk$Told;"), ("TurningMilk", 163, "TurningMilk$Turning", "code", "[I"), ("TurningMilk", 389, "TurningMilk$Turning", "iced", "Z"), ("TurningMilk$Trials", 60, "TurningMilk$Turning", "turned", "I"), ("TurningMilk$Relay", 86, "TurningMilk$Turning", "turned", "I"), ("TurningMilk", 315, "TurningMilk$Turning", "turned", "I"), ("TurningMilk$Trials", 44, "TurningMilk$Turning", "tired", "I"), ("TurningMilk$Trials", 50, "TurningMilk$Turning", "road", "I"), ("TurningMilk$Relay", 79, "TurningMilk$Turning", "road", "I"), ("TurningMilk", 309, "TurningMilk$Turning", "road", "I"), ("TurningMilk", 396, "TurningMilk$Hours", "x", "I"), ("TurningMilk", 368, "TurningMilk$Trials", "probeHours", "I"), ("TurningMilk", 371, "TurningMilk$Trials", "probeAlike", "I")]
def txN : Nat := 17
def txL : List Nat := [5, 4, 4, 3, 4, 4, 4, 5, 5, 6, 4, 4, 4, 2, 3, 3, 2]
def txB : List (List Int32) := [[100, 97, 105, 114, 121], [114, 111, 97, 100], [104, 97, 110, 100], [106, 117, 103], [104, 101, 97, 116], [119, 97, 110, 116], [116, 117, 114, 110], [115, 112, 101, 101, 100], [116, 105, 114, 101, 100], [116, 117, 114, 110, 101, 100], [104, 111, 117, 114], [104, 101, 108, 100], [115, 111, 117, 114], [105, 102], [110, 111, 116], [97, 110, 100], [111, 114]]
def txR : List (String × Nat × String × Nat) := [("TurningMilk$DairyReader", 56, "dairy", 0), ("TurningMilk$DairyReader", 58, "road", 1), ("TurningMilk$DairyReader", 60, "hand", 2), ("TurningMilk$DairyReader", 62, "jug", 3), ("TurningMilk$DairyReader", 64, "heat", 4), ("TurningMilk$DairyReader", 66, "want", 5), ("TurningMilk$RuleReader", 55, "turn", 6), ("TurningMilk$Turning", 26, "hand", 2), ("TurningMilk$Turning", 28, "speed", 7), ("TurningMilk$Turning", 30, "tired", 8), ("TurningMilk$Turning", 32, "jug", 3), ("TurningMilk$Turning", 34, "turned", 9), ("TurningMilk$Turning", 36, "heat", 4), ("TurningMilk$Turning", 38, "hour", 10), ("TurningMilk$Turning", 40, "road", 1), ("TurningMilk$Turning", 42, "held", 11), ("TurningMilk$Turning", 44, "sour", 12), ("TurningMilk$RuleReader", 138, "if", 13), ("TurningMilk$RuleReader", 146, "not", 14), ("TurningMilk$RuleReader", 131, "and", 15), ("TurningMilk$RuleReader", 133, "or", 16)]
def fv (G : Gt) (t : Nat) (x : Int) : Value := if t = 0 then .int (Int32.ofInt x) else if t = 1 then .long (Int64.ofInt x) else va_rf (rfo G x)
def cE (G : Gt) (S : Sh) (M : Mm) (a : Nat) : va_E :=
  if S.2.1 a < 13 then .inr (S.2.1 a, (List.range (nF (S.2.1 a))).map (fun j => fv G (fT (S.2.1 a) j) (M a j)))
  else if S.2.1 a < 16 then .inl (gC G (S.2.1 a), S.2.2 a, .inl (fun j => Int32.ofInt (M a j)))
  else if S.2.1 a = 16 then .inl (gC G 16, S.2.2 a, .inr (.inl (fun j => Int64.ofInt (M a j))))
  else .inl (gC G (S.2.1 a), S.2.2 a, .inr (.inr (.inr (.inr (fun j => rfo G (M a j))))))
def wsM (G : Gt) (S : Sh) (M : Mm) : va_W := (List.range S.1).map (fun a => (G.1 a, cE G S M a))
def stT (S : Sh) (a : Int) (j : Nat) : Nat := if S.2.1 a < 13 then fT (S.2.1 a) j else if S.2.1 a < 16 then 0 else if S.2.1 a = 16 then 1 else 2
def r32 (x : Int) : Prop := -2147483648 ≤ x ∧ x ≤ 2147483647
def r64 (x : Int) : Prop := -9223372036854775808 ≤ x ∧ x ≤ 9223372036854775807
def Rg (S : Sh) (M : Mm) : Prop := ∀ (a : Int) (j : Nat), (stT S a j = 0 → r32 (M a j)) ∧ (stT S a j = 1 → r64 (M a j))
def aG (G : Gt) : Nat → Prop := fun q => gB G ≤ q
def Wd (D : va_G) (G : Gt) (S : Sh) (M : Mm) (H : Heap) : Prop := (∀ i j : Nat, i < S.1 → j < S.1 → G.1 i = G.1 j → i = j) ∧ (∀ i : Nat, i < S.1 → gB G ≤ G.1 i) ∧ va_P D vwCl (wsM G S M) H ∧ Rg S M
abbrev tyG (G : Gt) : List (ClassId × FieldType) := [(gC G 13, .byte), (gC G 14, .int), (gC G 15, .boolean), (gC G 16, .long), (gC G 17, .object "TurningMilk$Scene"), (gC G 18, .object "TurningMilk$State"), (gC G 19, .array .int)]
def va_AI (U : State) : Prop := (Cond.arrayOver (.array .int)).before #[] U = true
theorem va_AI.moved {u U : State} (hvm : u.vm.Alike U.vm) (h : va_AI u) : va_AI U := over_moved hvm h
/-- what is known of the tables, and of what lay there before the law began -/
def KN (D : va_G) (G : Gt) (U : State) : Prop :=
  va_K D vwCl (tyG G) U ∧ (∀ q ∈ nwT, va_Nw (.fieldLinkNest q.1 q.2.1 q.2.2.1 q.2.2.2.1 q.2.2.2.2 "TurningMilk") U) ∧ (∀ q ∈ txR, vk_R q.1 q.2.1 q.2.2.1 (gK G q.2.2.2) U) ∧ vk_S txN txL txB (gK G) (gV G) (aG G) U U.heap ∧ va_Z "TurningMilk" "NO_RULE" "[I" (.ref (gZ G)) (aG G) U U.heap ∧ va_T .int (gZ G) 0 (fun _ => .int 0) (aG G) U U.heap ∧ va_Z "java/lang/String" "COMPACT_STRINGS" "Z" (.int 1) (aG G) U U.heap ∧ va_Zq "jdk/internal/util/Preconditions" "SIOOBE_FORMATTER" "Ljava/util/function/BiFunction;" (aG G) U U.heap ∧ va_AO "TurningMilk$Scene" U ∧ va_AO "TurningMilk$State" U ∧ va_AI U
theorem KN.on {D : va_G} {G : Gt} {s U : State} {H : Heap} {locs : List Loc} (h : KN D G s) (hS : va_S (aG G) s.heap H locs) (hU : U.heap = H) (hW : s.WarmedH U.vm) : KN D G U := by
  obtain ⟨h1, h2, h3, h4, h5, h6, h7, h8, h9, h10, h11⟩ := h
  have hq : ∀ a : Nat, a < s.heap.size → ¬ aG G a → U.heap[a]? = s.heap[a]? := fun a ha hn => by rw [hU]; exact hS.2.1 a ha hn
  exact ⟨va_K.moved hW.alike h1, fun q hm => va_Nw.warmF hW (h2 q hm), fun q hm => vk_R.warm hW (h3 q hm), (h4.moved hW.alike).kept hq, (h5.moved hW.alike).kept hq, (h6.moved hW.alike).kept hq, (h7.moved hW.alike).kept hq, (h8.moved hW.alike).kept hq, h9.moved hW.alike, h10.moved hW.alike, h11.moved hW.alike⟩
theorem KN.calling {D : va_G} {G : Gt} {U : State} {g : JFrame} {mk : MethodId} {a : Array Value} (h : KN D G U) : KN D G (U.calling g mk a) := by
  obtain ⟨h1, h2, h3, h4, h5, h6, h7, h8, h9, h10, h11⟩ := h
  exact ⟨va_K.moved (u := U) (Vm.Alike.refl U.vm) h1, fun q hm => va_Nw.same (u := U) rfl rfl (h2 q hm), fun q hm => vk_R.same (u := U) rfl (h3 q hm), vk_S.moved (u := U) (Vm.Alike.refl U.vm) h4, va_Z.moved (u := U) (Vm.Alike.refl U.vm) h5, va_T.moved (u := U) (Vm.Alike.refl U.vm) h6, va_Z.moved (u := U) (Vm.Alike.refl U.vm) h7, va_Zq.moved (u := U) (Vm.Alike.refl U.vm) h8, va_AO.moved (u := U) (Vm.Alike.refl U.vm) h9, va_AO.moved (u := U) (Vm.Alike.refl U.vm) h10, va_AI.moved (u := U) (Vm.Alike.refl U.vm) h11⟩
theorem wsM_get {G : Gt} {S : Sh} {M : Mm} {a : Nat} (h : a < S.1) : (wsM G S M)[a]? = some (G.1 a, cE G S M a) := by
  unfold wsM
  rw [List.getElem?_map, List.getElem?_range h]
  rfl
theorem wsM_of {G : Gt} {S : Sh} {M : Mm} {k : Nat} {q : Nat × va_E} (h : (wsM G S M)[k]? = some q) : k < S.1 ∧ q = (G.1 k, cE G S M k) := by
  have hl : k < (wsM G S M).length := (List.getElem?_eq_some_iff.mp h).1
  have hk : k < S.1 := by simpa [wsM] using hl
  rw [wsM_get hk] at h
  exact ⟨hk, (Option.some.inj h).symm⟩
theorem Wd.D {D : va_G} {G : Gt} {S : Sh} {M : Mm} {H : Heap} (h : Wd D G S M H) {M2 : Mm} : va_D (aG G) (wsM G S M2) := by
  refine ⟨fun i j x y hi hj hxy => ?_, fun k q hk => ?_⟩
  · obtain ⟨li, rfl⟩ := wsM_of hi
    obtain ⟨lj, rfl⟩ := wsM_of hj
    exact h.1 i j li lj hxy
  · obtain ⟨lk, rfl⟩ := wsM_of hk
    exact h.2.1 k lk
theorem Wd.P {D : va_G} {G : Gt} {S : Sh} {M : Mm} {H : Heap} (h : Wd D G S M H) : va_P D vwCl (wsM G S M) H := h.2.2.1
theorem Wd.R {D : va_G} {G : Gt} {S : Sh} {M : Mm} {H : Heap} (h : Wd D G S M H) : Rg S M := h.2.2.2
def up (M : Mm) (x k v : Int) : Mm := fun a j => if a = x ∧ j = k then v else M a j
theorem up_at (M : Mm) (x k v : Int) : up M x k v x k = v := by simp [up]
theorem up_ne {M : Mm} {x k v a j : Int} (h : ¬ (a = x ∧ j = k)) : up M x k v a j = M a j := by simp [up, h]
theorem cE_ne {G : Gt} {S : Sh} {M : Mm} {x k v : Int} {b : Nat} (h : ¬ (b : Int) = x) : cE G S (up M x k v) b = cE G S M b := by
  have e : ∀ j : Int, up M x k v b j = M b j := fun j => up_ne (fun q => h q.1)
  unfold cE
  simp only [e]
/-- the cells behind one write -/
theorem wsM_set {G : Gt} {S : Sh} {M : Mm} {x k v : Int} (h0 : 0 ≤ x) (hn : x.toNat < S.1) {e : va_E} (he : e = cE G S (up M x k v) x.toNat) : (wsM G S M).set x.toNat (G.1 x.toNat, e) = wsM G S (up M x k v) := by
  apply List.ext_getElem?
  intro i
  by_cases hi : i = x.toNat
  · subst hi
    rw [List.getElem?_set_self (by simpa [wsM] using hn), wsM_get hn, he]
  · rw [List.getElem?_set_ne (Ne.symm hi)]
    by_cases hl : i < S.1
    · rw [wsM_get hl, wsM_get hl, cE_ne (by omega)]
    · rw [List.getElem?_eq_none (by simpa [wsM] using Nat.not_lt.mp hl), List.getElem?_eq_none (by simpa [wsM] using Nat.not_lt.mp hl)]
theorem Rg.put {S : Sh} {M : Mm} {x v : Int} {k : Nat} (h : Rg S M) (h1 : stT S x k = 0 → r32 v) (h2 : stT S x k = 1 → r64 v) : Rg S (up M x k v) := by
  intro a j
  by_cases e : a = x ∧ (j : Int) = k
  · obtain ⟨rfl, e2⟩ := e
    have : j = k := by omega
    subst this
    rw [up_at]
    exact ⟨h1, h2⟩
  · rw [up_ne e]
    exact h a j
/-- x is a cell of kind ci -/
def isK (S : Sh) (x : Int) (ci : Nat) : Prop := 0 ≤ x ∧ x.toNat < S.1 ∧ S.2.1 x = ci
theorem adr_of {G : Gt} {x : Int} (h : 0 ≤ x) : adr G x = G.1 x.toNat := by simp [adr, h]
theorem toInt_ofInt32 {x : Int} (h : r32 x) : (Int32.ofInt x).toInt = x := Int32.toInt_ofInt_of_le h.1 (by have := h.2; omega)
theorem toInt_ofInt64 {x : Int} (h : r64 x) : (Int64.ofInt x).toInt = x := Int64.toInt_ofInt_of_le h.1 (by have := h.2; omega)
theorem ofInt_toInt32 (k : Int32) : Int32.ofInt k.toInt = k := Int32.ofInt_toInt k
theorem ofInt_toInt64 (k : Int64) : Int64.ofInt k.toInt = k := Int64.ofInt_toInt k
theorem cE_obj {G : Gt} {S : Sh} {M : Mm} {x : Int} {ci : Nat} (h : isK S x ci) (hc : ci < 13) : cE G S M x.toNat = .inr (ci, (List.range (nF ci)).map (fun j => fv G (fT ci j) (M x j))) := by
  obtain ⟨h0, -, h2⟩ := h
  have e : ((x.toNat : Nat) : Int) = x := Int.toNat_of_nonneg h0
  unfold cE
  rw [e, h2, if_pos hc]
theorem cE_ints {G : Gt} {S : Sh} {M : Mm} {x : Int} {ci : Nat} (h : isK S x ci) (hc : 13 ≤ ci) (hc2 : ci < 16) : cE G S M x.toNat = .inl (gC G ci, S.2.2 x, .inl (fun j => Int32.ofInt (M x j))) := by
  obtain ⟨h0, -, h2⟩ := h
  have e : ((x.toNat : Nat) : Int) = x := Int.toNat_of_nonneg h0
  unfold cE
  rw [e, h2, if_neg (by omega), if_pos hc2]
theorem cE_longs {G : Gt} {S : Sh} {M : Mm} {x : Int} (h : isK S x 16) : cE G S M x.toNat = .inl (gC G 16, S.2.2 x, .inr (.inl (fun j => Int64.ofInt (M x j)))) := by
  obtain ⟨h0, -, h2⟩ := h
  have e : ((x.toNat : Nat) : Int) = x := Int.toNat_of_nonneg h0
  unfold cE
  rw [e, h2, if_neg (by omega), if_neg (by omega), if_pos rfl]
theorem cE_refs {G : Gt} {S : Sh} {M : Mm} {x : Int} {ci : Nat} (h : isK S x ci) (hc : 17 ≤ ci) : cE G S M x.toNat = .inl (gC G ci, S.2.2 x, .inr (.inr (.inr (.inr (fun j => rfo G (M x j)))))) := by
  obtain ⟨h0, -, h2⟩ := h
  have e : ((x.toNat : Nat) : Int) = x := Int.toNat_of_nonneg h0
  unfold cE
  rw [e, h2, if_neg (by omega), if_neg (by omega), if_neg (by omega)]
