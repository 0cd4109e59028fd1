def nwP : List Nat := [38, 42, 68, 69, 70, 72, 73, 75, 76, 77, 78, 80, 82, 83, 84, 85, 86, 87, 88, 90, 91, 92, 94, 95, 97, 98, 102, 103, 104, 105, 107, 108, 109, 110, 112, 114, 116, 118, 119, 121, 122, 124, 125, 127, 128, 129, 180, 181, 182, 183, 185, 187, 188, 190, 191, 192, 194, 195, 196, 198, 199, 201, 202, 204, 205, 206, 207, 208, 210, 211, 232, 233, 235, 236, 238, 240, 242, 243, 245, 247, 249, 251, 252, 291, 293, 341, 343, 345, 347, 349, 353, 355, 356, 357, 361, 363, 364, 401, 475, 477]
def nwC (q : String × Nat × String × String × String) : Cond := .fieldLinkNest q.1 q.2.1 q.2.2.1 q.2.2.2.1 q.2.2.2.2 "TurningMilk"
theorem nwA_0 : ∀ i, i < 25 → tables_1[nwP.getD (0 + i) 0]? = (nwT[0 + i]?).map nwC := by decide +kernel
theorem nwA_1 : ∀ i, i < 25 → tables_1[nwP.getD (25 + i) 0]? = (nwT[25 + i]?).map nwC := by decide +kernel
theorem nwA_2 : ∀ i, i < 25 → tables_1[nwP.getD (50 + i) 0]? = (nwT[50 + i]?).map nwC := by decide +kernel
theorem nwA_3 : ∀ i, i < 25 → tables_1[nwP.getD (75 + i) 0]? = (nwT[75 + i]?).map nwC := by decide +kernel
theorem nwA : ∀ q ∈ nwT, nwC q ∈ lw_tbl := by
  intro q hq
  obtain ⟨i, hi⟩ := List.getElem?_of_mem hq
  have hl : i < 100 := (List.getElem?_eq_some_iff.mp hi).1
  have key : tables_1[nwP.getD i 0]? = (nwT[i]?).map nwC := by
    rcases (show i < 25 ∨ (25 ≤ i ∧ i < 50) ∨ (50 ≤ i ∧ i < 75) ∨ (75 ≤ i ∧ i < 100) by omega) with h | h | h | h
    · have := nwA_0 i h; rwa [Nat.zero_add] at this
    · have := nwA_1 (i - 25) (by omega); rwa [show 25 + (i - 25) = i by omega] at this
    · have := nwA_2 (i - 50) (by omega); rwa [show 50 + (i - 50) = i by omega] at this
    · have := nwA_3 (i - 75) (by omega); rwa [show 75 + (i - 75) = i by omega] at this
  rw [hi] at key
  exact List.mem_append_right _ (List.mem_of_getElem? key)
theorem eq_ref {args : Array Value} {s : State} {t1 t2 : Term} {a : Nat} (h : (Cond.eq t1 t2).before args s = true) (h1 : t1.eval args s none [] s = some (.ref a)) : t2.eval args s none [] s = some (.ref a) := by
  cases hv : t2.eval args s none [] s with
  | none => simp [Cond.before, Cond.holds, Cond.value, hv, h1] at h
  | some v =>
    simp only [Cond.before, Cond.holds, Cond.value, hv, h1] at h
    cases v <;> simp_all
def txT (i : Nat) : Term := ([.string "TurningMilk$DairyReader" 56, .string "TurningMilk$DairyReader" 58, .string "TurningMilk$DairyReader" 60, .string "TurningMilk$DairyReader" 62, .string "TurningMilk$DairyReader" 64, .string "TurningMilk$DairyReader" 66, .string "TurningMilk$RuleReader" 55, .string "TurningMilk$Turning" 28, .string "TurningMilk$Turning" 30, .string "TurningMilk$Turning" 34, .string "TurningMilk$Turning" 38, .string "TurningMilk$Turning" 42, .string "TurningMilk$Turning" 44, .string "TurningMilk$RuleReader" 138, .string "TurningMilk$RuleReader" 146, .string "TurningMilk$RuleReader" 131, .string "TurningMilk$RuleReader" 133] : List Term).getD i (.string "" 0)
abbrev FL : List Cond := flatC (Jvm.Cond.and given_1 narrow_1)
theorem tx1 : ∀ i, i < txN → Cond.exactly (txT i) "java/lang/String" ∈ FL := by decide +kernel
theorem tx2 : ∀ i, i < txN → Cond.eq (.field (txT i) "java/lang/String" "coder" "B") (.int 0) ∈ FL := by decide +kernel
theorem tx3 : ∀ i, i < txN → Cond.arrayOf (.field (txT i) "java/lang/String" "value" "[B") .byte ∈ FL := by decide +kernel
theorem tx4 : ∀ i, i < txN → Cond.eq (.length (.field (txT i) "java/lang/String" "value" "[B")) (.int (Int32.ofNat (txL.getD i 0))) ∈ FL := by decide +kernel
theorem tx5 : ∀ i, i < txN → ∀ j, j < txL.getD i 0 → Cond.eq (.elem (.field (txT i) "java/lang/String" "value" "[B") (.int (Int32.ofNat j))) (.int ((txB.getD i []).getD j 0)) ∈ FL := by decide +kernel
def tx6P : List Nat := [0, 55, 64, 73, 84, 96, 109, 139, 156, 192, 231, 274, 297, 319, 343, 368, 393, 0, 0, 65, 74, 85, 97, 110, 140, 157, 193, 232, 275, 298, 320, 344, 369, 394, 0, 0, 0, 75, 86, 98, 111, 141, 158, 194, 233, 276, 299, 321, 345, 370, 395, 0, 0, 0, 0, 87, 99, 112, 142, 159, 195, 234, 277, 300, 322, 346, 371, 396, 0, 0, 0, 0, 0, 100, 113, 143, 160, 196, 235, 278, 301, 323, 347, 372, 397, 0, 0, 0, 0, 0, 0, 114, 144, 161, 197, 236, 279, 302, 324, 348, 373, 398, 0, 0, 0, 0, 0, 0, 0, 145, 162, 198, 237, 280, 303, 325, 349, 374, 399, 0, 0, 0, 0, 0, 0, 0, 0, 164, 200, 239, 282, 305, 327, 351, 376, 401, 0, 0, 0, 0, 0, 0, 0, 0, 0, 201, 240, 283, 306, 328, 352, 377, 402, 0, 0, 0, 0, 0, 0, 0, 0, 0, 0, 242, 285, 308, 330, 354, 379, 404, 0, 0, 0, 0, 0, 0, 0, 0, 0, 0, 0, 287, 310, 332, 356, 381, 406, 0, 0, 0, 0, 0, 0, 0, 0, 0, 0, 0, 0, 312, 334, 358, 383, 408, 0, 0, 0, 0, 0, 0, 0, 0, 0, 0, 0, 0, 0, 335, 359, 384, 409, 0, 0, 0, 0, 0, 0, 0, 0, 0, 0, 0, 0, 0, 0, 360, 385, 410, 0, 0, 0, 0, 0, 0, 0, 0, 0, 0, 0, 0, 0, 0, 0, 386, 411, 0, 0, 0, 0, 0, 0, 0, 0, 0, 0, 0, 0, 0, 0, 0, 0, 412, 0, 0, 0, 0, 0, 0, 0, 0, 0, 0, 0, 0, 0, 0, 0, 0, 0]
theorem tx6_0 : ∀ j, j < 17 → 0 < j → (FL[tx6P.getD (0 + j) 0]? = some (Cond.not (Cond.eq (txT 0) (txT j))) ∨ FL[tx6P.getD (0 + j) 0]? = some (Cond.not (Cond.eq (txT j) (txT 0)))) := by decide +kernel
theorem tx6_1 : ∀ j, j < 17 → 1 < j → (FL[tx6P.getD (17 + j) 0]? = some (Cond.not (Cond.eq (txT 1) (txT j))) ∨ FL[tx6P.getD (17 + j) 0]? = some (Cond.not (Cond.eq (txT j) (txT 1)))) := by decide +kernel
theorem tx6_2 : ∀ j, j < 17 → 2 < j → (FL[tx6P.getD (34 + j) 0]? = some (Cond.not (Cond.eq (txT 2) (txT j))) ∨ FL[tx6P.getD (34 + j) 0]? = some (Cond.not (Cond.eq (txT j) (txT 2)))) := by decide +kernel
theorem tx6_3 : ∀ j, j < 17 → 3 < j → (FL[tx6P.getD (51 + j) 0]? = some (Cond.not (Cond.eq (txT 3) (txT j))) ∨ FL[tx6P.getD (51 + j) 0]? = some (Cond.not (Cond.eq (txT j) (txT 3)))) := by decide +kernel
theorem tx6_4 : ∀ j, j < 17 → 4 < j → (FL[tx6P.getD (68 + j) 0]? = some (Cond.not (Cond.eq (txT 4) (txT j))) ∨ FL[tx6P.getD (68 + j) 0]? = some (Cond.not (Cond.eq (txT j) (txT 4)))) := by decide +kernel
theorem tx6_5 : ∀ j, j < 17 → 5 < j → (FL[tx6P.getD (85 + j) 0]? = some (Cond.not (Cond.eq (txT 5) (txT j))) ∨ FL[tx6P.getD (85 + j) 0]? = some (Cond.not (Cond.eq (txT j) (txT 5)))) := by decide +kernel
theorem tx6_6 : ∀ j, j < 17 → 6 < j → (FL[tx6P.getD (102 + j) 0]? = some (Cond.not (Cond.eq (txT 6) (txT j))) ∨ FL[tx6P.getD (102 + j) 0]? = some (Cond.not (Cond.eq (txT j) (txT 6)))) := by decide +kernel
theorem tx6_7 : ∀ j, j < 17 → 7 < j → (FL[tx6P.getD (119 + j) 0]? = some (Cond.not (Cond.eq (txT 7) (txT j))) ∨ FL[tx6P.getD (119 + j) 0]? = some (Cond.not (Cond.eq (txT j) (txT 7)))) := by decide +kernel
theorem tx6_8 : ∀ j, j < 17 → 8 < j → (FL[tx6P.getD (136 + j) 0]? = some (Cond.not (Cond.eq (txT 8) (txT j))) ∨ FL[tx6P.getD (136 + j) 0]? = some (Cond.not (Cond.eq (txT j) (txT 8)))) := by decide +kernel
theorem tx6_9 : ∀ j, j < 17 → 9 < j → (FL[tx6P.getD (153 + j) 0]? = some (Cond.not (Cond.eq (txT 9) (txT j))) ∨ FL[tx6P.getD (153 + j) 0]? = some (Cond.not (Cond.eq (txT j) (txT 9)))) := by decide +kernel
theorem tx6_10 : ∀ j, j < 17 → 10 < j → (FL[tx6P.getD (170 + j) 0]? = some (Cond.not (Cond.eq (txT 10) (txT j))) ∨ FL[tx6P.getD (170 + j) 0]? = some (Cond.not (Cond.eq (txT j) (txT 10)))) := by decide +kernel
theorem tx6_11 : ∀ j, j < 17 → 11 < j → (FL[tx6P.getD (187 + j) 0]? = some (Cond.not (Cond.eq (txT 11) (txT j))) ∨ FL[tx6P.getD (187 + j) 0]? = some (Cond.not (Cond.eq (txT j) (txT 11)))) := by decide +kernel
theorem tx6_12 : ∀ j, j < 17 → 12 < j → (FL[tx6P.getD (204 + j) 0]? = some (Cond.not (Cond.eq (txT 12) (txT j))) ∨ FL[tx6P.getD (204 + j) 0]? = some (Cond.not (Cond.eq (txT j) (txT 12)))) := by decide +kernel
theorem tx6_13 : ∀ j, j < 17 → 13 < j → (FL[tx6P.getD (221 + j) 0]? = some (Cond.not (Cond.eq (txT 13) (txT j))) ∨ FL[tx6P.getD (221 + j) 0]? = some (Cond.not (Cond.eq (txT j) (txT 13)))) := by decide +kernel
theorem tx6_14 : ∀ j, j < 17 → 14 < j → (FL[tx6P.getD (238 + j) 0]? = some (Cond.not (Cond.eq (txT 14) (txT j))) ∨ FL[tx6P.getD (238 + j) 0]? = some (Cond.not (Cond.eq (txT j) (txT 14)))) := by decide +kernel
theorem tx6_15 : ∀ j, j < 17 → 15 < j → (FL[tx6P.getD (255 + j) 0]? = some (Cond.not (Cond.eq (txT 15) (txT j))) ∨ FL[tx6P.getD (255 + j) 0]? = some (Cond.not (Cond.eq (txT j) (txT 15)))) := by decide +kernel
theorem tx6 : ∀ i, i < txN → ∀ j, j < txN → i < j → Cond.not (Cond.eq (txT i) (txT j)) ∈ FL ∨ Cond.not (Cond.eq (txT j) (txT i)) ∈ FL := by
  intro i hi j hj hij
  have key : ∃ p : Nat, FL[p]? = some (Cond.not (Cond.eq (txT i) (txT j))) ∨ FL[p]? = some (Cond.not (Cond.eq (txT j) (txT i))) := by
    match i, hi, hij with
    | 0, _, hij => exact ⟨_, tx6_0 j hj hij⟩
    | 1, _, hij => exact ⟨_, tx6_1 j hj hij⟩
    | 2, _, hij => exact ⟨_, tx6_2 j hj hij⟩
    | 3, _, hij => exact ⟨_, tx6_3 j hj hij⟩
    | 4, _, hij => exact ⟨_, tx6_4 j hj hij⟩
    | 5, _, hij => exact ⟨_, tx6_5 j hj hij⟩
    | 6, _, hij => exact ⟨_, tx6_6 j hj hij⟩
    | 7, _, hij => exact ⟨_, tx6_7 j hj hij⟩
    | 8, _, hij => exact ⟨_, tx6_8 j hj hij⟩
    | 9, _, hij => exact ⟨_, tx6_9 j hj hij⟩
    | 10, _, hij => exact ⟨_, tx6_10 j hj hij⟩
    | 11, _, hij => exact ⟨_, tx6_11 j hj hij⟩
    | 12, _, hij => exact ⟨_, tx6_12 j hj hij⟩
    | 13, _, hij => exact ⟨_, tx6_13 j hj hij⟩
    | 14, _, hij => exact ⟨_, tx6_14 j hj hij⟩
    | 15, _, hij => exact ⟨_, tx6_15 j hj hij⟩
    | q + 16, hi, hij => exact absurd hj (by have : txN = 17 := rfl; omega)
  obtain ⟨p, h | h⟩ := key
  · exact Or.inl (List.mem_of_getElem? h)
  · exact Or.inr (List.mem_of_getElem? h)
theorem tx7 : ∀ i, i < txN → txL.getD i 0 < 2 ^ 31 := by decide +kernel
def txP : List Nat := [588, 589, 590, 591, 592, 593, 750, 770, 771, 772, 773, 774, 775, 776, 777, 778, 779, 830, 835, 848, 849]
theorem txA : ∀ i, i < 21 → tables_1[txP.getD i 0]? = (txR[i]?).map (fun q => Cond.stringRef q.1 q.2.1 q.2.2.1) := by decide +kernel
theorem txF : ∀ i, i < 21 → ∀ q, txR[i]? = some q → q.2.2.2 < txN ∧ (Term.string q.1 q.2.1 = txT q.2.2.2 ∨ Cond.eq (txT q.2.2.2) (.string q.1 q.2.1) ∈ FL ∨ Cond.eq (.string q.1 q.2.1) (txT q.2.2.2) ∈ FL) := by
  intro i hi q hq
  have h : ∀ i, i < 21 → (match txR[i]? with | some q => decide (q.2.2.2 < txN) && (decide (Term.string q.1 q.2.1 = txT q.2.2.2) || decide (Cond.eq (txT q.2.2.2) (.string q.1 q.2.1) ∈ FL) || decide (Cond.eq (.string q.1 q.2.1) (txT q.2.2.2) ∈ FL)) | none => true) = true := by decide +kernel
  have h1 := h i hi
  rw [hq] at h1
  simp only [Bool.and_eq_true, Bool.or_eq_true, decide_eq_true_eq] at h1
  obtain ⟨a, (b | b) | b⟩ := h1
  · exact ⟨a, Or.inl b⟩
  · exact ⟨a, Or.inr (Or.inl b)⟩
  · exact ⟨a, Or.inr (Or.inr b)⟩
