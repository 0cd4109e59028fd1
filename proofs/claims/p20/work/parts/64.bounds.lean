/-- the least and the most that each place of said may hold (place 7, the HOUR, apart: at most hm) -/
def bL : List Int := [0, 0, 0, 0, 0, 0, 0, 0, -2147483648, 0, 0, 0, 0, 0, 0, 0, 0, 0, 0, 0, 0, 0, 0, 0, 0, 0, 0, 0, 0, 0, 0, 0, 0, 0, 0, 0, -1, 0, 0, 0, -1, 0, 0, 0, -1, 0, 0, 0, -1, 0, 0, -2147483648, -2147483648, -2147483648, -2147483648, -2147483648, -2147483648, 0, 0, 0, 0, 0, 0, 0, 0, 0, 0, 0, 0, 0, 0, 0, 0, 0, 0, 0, 0, 0, 0, 0, 0, 0, 0, 0, 0, 0, 0, 0, 0, 0, 0, 0, 0, 0, 0, 0, 0, 0, 0, 0, 0, 0, 0, 0, 0, 0, 0, 0, 0, 0, 0, 0, 0, 0, 0, 0, 0, 0, 0, 0, 0, 0, 0, 0, 0, 0, 0, 0, 0, 0, 0, 0, 0, 0, 0, 0, 0, 0, 0, 0, 0, 0, 0, 0, 0, 0, 0, 0, 0, 0, 0, 0, 0, 0, 0, 0, 0, 0]
def bH : List Int := [6, 9, 99, 8, 5, 4, 6, 2000, 2147483647, 4, 5, 5, 99, 20, 5, 5, 5, 99, 20, 5, 5, 5, 99, 20, 5, 5, 5, 99, 20, 5, 5, 5, 99, 20, 5, 5, 4, 999, 1, 5, 4, 999, 1, 5, 4, 999, 1, 5, 4, 999, 1, 2147483647, 2147483647, 2147483647, 2147483647, 2147483647, 2147483647, 5, 5, 5, 5, 5, 5, 5, 5, 5, 5, 5, 5, 5, 5, 5, 5, 5, 5, 5, 5, 5, 5, 5, 5, 99, 99, 5, 99, 99, 5, 99, 99, 5, 99, 99, 5, 5, 99, 99, 50, 5, 99, 99, 50, 5, 99, 99, 50, 5, 99, 99, 50, 5, 99, 99, 50, 5, 99, 99, 50, 999, 20, 99, 999, 999, 20, 99, 999, 999, 20, 99, 999, 999, 20, 99, 999, 999, 20, 99, 999, 999, 20, 99, 999, 999, 20, 99, 999, 999, 20, 99, 999, 999, 20, 99, 999, 999, 20, 99, 999, 10]
def BS (f : Int → Int) : Prop := ∀ i : Nat, i < 158 → bL.getD i 0 ≤ f i ∧ f i ≤ bH.getD i 0
theorem BS.at {f : Int → Int} (h : BS f) {i : Int} (hi : 0 ≤ i ∧ i < 158) : bL.getD i.toNat 0 ≤ f i ∧ f i ≤ bH.getD i.toNat 0 := by
  have h1 := h i.toNat (by omega)
  rw [Int.toNat_of_nonneg hi.1] at h1
  exact h1
theorem BS.c0 {f : Int → Int} (h : BS f) : 0 ≤ f 0 ∧ f 0 ≤ 6 := h 0 (by decide)
theorem BS.c1 {f : Int → Int} (h : BS f) : 0 ≤ f 1 ∧ f 1 ≤ 9 := h 1 (by decide)
theorem BS.c2 {f : Int → Int} (h : BS f) : 0 ≤ f 2 ∧ f 2 ≤ 99 := h 2 (by decide)
theorem BS.c3 {f : Int → Int} (h : BS f) : 0 ≤ f 3 ∧ f 3 ≤ 8 := h 3 (by decide)
theorem BS.c4 {f : Int → Int} (h : BS f) : 0 ≤ f 4 ∧ f 4 ≤ 5 := h 4 (by decide)
theorem BS.c5 {f : Int → Int} (h : BS f) : 0 ≤ f 5 ∧ f 5 ≤ 4 := h 5 (by decide)
theorem BS.c6 {f : Int → Int} (h : BS f) : 0 ≤ f 6 ∧ f 6 ≤ 6 := h 6 (by decide)
theorem BS.c7 {f : Int → Int} (h : BS f) : 0 ≤ f 7 ∧ f 7 ≤ 2000 := h 7 (by decide)
theorem BS.c8 {f : Int → Int} (h : BS f) : -2147483648 ≤ f 8 ∧ f 8 ≤ 2147483647 := h 8 (by decide)
theorem BS.c9 {f : Int → Int} (h : BS f) : 0 ≤ f 9 ∧ f 9 ≤ 4 := h 9 (by decide)
theorem BS.h0 {f : Int → Int} (h : BS f) {a : Int} (ha : 0 ≤ a ∧ a ≤ 4) : 0 ≤ f (10 + 5 * a + 0) ∧ f (10 + 5 * a + 0) ≤ 5 := by
  rcases (show a = 0 ∨ a = 1 ∨ a = 2 ∨ a = 3 ∨ a = 4 by omega) with rfl | rfl | rfl | rfl | rfl
  · exact h 10 (by decide)
  · exact h 15 (by decide)
  · exact h 20 (by decide)
  · exact h 25 (by decide)
  · exact h 30 (by decide)
theorem BS.h1 {f : Int → Int} (h : BS f) {a : Int} (ha : 0 ≤ a ∧ a ≤ 4) : 0 ≤ f (10 + 5 * a + 1) ∧ f (10 + 5 * a + 1) ≤ 5 := by
  rcases (show a = 0 ∨ a = 1 ∨ a = 2 ∨ a = 3 ∨ a = 4 by omega) with rfl | rfl | rfl | rfl | rfl
  · exact h 11 (by decide)
  · exact h 16 (by decide)
  · exact h 21 (by decide)
  · exact h 26 (by decide)
  · exact h 31 (by decide)
theorem BS.h2 {f : Int → Int} (h : BS f) {a : Int} (ha : 0 ≤ a ∧ a ≤ 4) : 0 ≤ f (10 + 5 * a + 2) ∧ f (10 + 5 * a + 2) ≤ 99 := by
  rcases (show a = 0 ∨ a = 1 ∨ a = 2 ∨ a = 3 ∨ a = 4 by omega) with rfl | rfl | rfl | rfl | rfl
  · exact h 12 (by decide)
  · exact h 17 (by decide)
  · exact h 22 (by decide)
  · exact h 27 (by decide)
  · exact h 32 (by decide)
theorem BS.h3 {f : Int → Int} (h : BS f) {a : Int} (ha : 0 ≤ a ∧ a ≤ 4) : 0 ≤ f (10 + 5 * a + 3) ∧ f (10 + 5 * a + 3) ≤ 20 := by
  rcases (show a = 0 ∨ a = 1 ∨ a = 2 ∨ a = 3 ∨ a = 4 by omega) with rfl | rfl | rfl | rfl | rfl
  · exact h 13 (by decide)
  · exact h 18 (by decide)
  · exact h 23 (by decide)
  · exact h 28 (by decide)
  · exact h 33 (by decide)
theorem BS.h4 {f : Int → Int} (h : BS f) {a : Int} (ha : 0 ≤ a ∧ a ≤ 4) : 0 ≤ f (10 + 5 * a + 4) ∧ f (10 + 5 * a + 4) ≤ 5 := by
  rcases (show a = 0 ∨ a = 1 ∨ a = 2 ∨ a = 3 ∨ a = 4 by omega) with rfl | rfl | rfl | rfl | rfl
  · exact h 14 (by decide)
  · exact h 19 (by decide)
  · exact h 24 (by decide)
  · exact h 29 (by decide)
  · exact h 34 (by decide)
theorem BS.j0 {f : Int → Int} (h : BS f) {a : Int} (ha : 0 ≤ a ∧ a ≤ 3) : 0 ≤ f (35 + 4 * a + 0) ∧ f (35 + 4 * a + 0) ≤ 5 := by
  rcases (show a = 0 ∨ a = 1 ∨ a = 2 ∨ a = 3 by omega) with rfl | rfl | rfl | rfl
  · exact h 35 (by decide)
  · exact h 39 (by decide)
  · exact h 43 (by decide)
  · exact h 47 (by decide)
theorem BS.j1 {f : Int → Int} (h : BS f) {a : Int} (ha : 0 ≤ a ∧ a ≤ 3) : -1 ≤ f (35 + 4 * a + 1) ∧ f (35 + 4 * a + 1) ≤ 4 := by
  rcases (show a = 0 ∨ a = 1 ∨ a = 2 ∨ a = 3 by omega) with rfl | rfl | rfl | rfl
  · exact h 36 (by decide)
  · exact h 40 (by decide)
  · exact h 44 (by decide)
  · exact h 48 (by decide)
theorem BS.j2 {f : Int → Int} (h : BS f) {a : Int} (ha : 0 ≤ a ∧ a ≤ 3) : 0 ≤ f (35 + 4 * a + 2) ∧ f (35 + 4 * a + 2) ≤ 999 := by
  rcases (show a = 0 ∨ a = 1 ∨ a = 2 ∨ a = 3 by omega) with rfl | rfl | rfl | rfl
  · exact h 37 (by decide)
  · exact h 41 (by decide)
  · exact h 45 (by decide)
  · exact h 49 (by decide)
theorem BS.j3 {f : Int → Int} (h : BS f) {a : Int} (ha : 0 ≤ a ∧ a ≤ 3) : 0 ≤ f (35 + 4 * a + 3) ∧ f (35 + 4 * a + 3) ≤ 1 := by
  rcases (show a = 0 ∨ a = 1 ∨ a = 2 ∨ a = 3 by omega) with rfl | rfl | rfl | rfl
  · exact h 38 (by decide)
  · exact h 42 (by decide)
  · exact h 46 (by decide)
  · exact h 50 (by decide)
theorem BS.r0 {f : Int → Int} (h : BS f) {a : Int} (ha : 0 ≤ a ∧ a ≤ 7) : 0 ≤ f (57 + 3 * a + 0) ∧ f (57 + 3 * a + 0) ≤ 5 := by
  rcases (show a = 0 ∨ a = 1 ∨ a = 2 ∨ a = 3 ∨ a = 4 ∨ a = 5 ∨ a = 6 ∨ a = 7 by omega) with rfl | rfl | rfl | rfl | rfl | rfl | rfl | rfl
  · exact h 57 (by decide)
  · exact h 60 (by decide)
  · exact h 63 (by decide)
  · exact h 66 (by decide)
  · exact h 69 (by decide)
  · exact h 72 (by decide)
  · exact h 75 (by decide)
  · exact h 78 (by decide)
theorem BS.r1 {f : Int → Int} (h : BS f) {a : Int} (ha : 0 ≤ a ∧ a ≤ 7) : 0 ≤ f (57 + 3 * a + 1) ∧ f (57 + 3 * a + 1) ≤ 5 := by
  rcases (show a = 0 ∨ a = 1 ∨ a = 2 ∨ a = 3 ∨ a = 4 ∨ a = 5 ∨ a = 6 ∨ a = 7 by omega) with rfl | rfl | rfl | rfl | rfl | rfl | rfl | rfl
  · exact h 58 (by decide)
  · exact h 61 (by decide)
  · exact h 64 (by decide)
  · exact h 67 (by decide)
  · exact h 70 (by decide)
  · exact h 73 (by decide)
  · exact h 76 (by decide)
  · exact h 79 (by decide)
theorem BS.r2 {f : Int → Int} (h : BS f) {a : Int} (ha : 0 ≤ a ∧ a ≤ 7) : 0 ≤ f (57 + 3 * a + 2) ∧ f (57 + 3 * a + 2) ≤ 5 := by
  rcases (show a = 0 ∨ a = 1 ∨ a = 2 ∨ a = 3 ∨ a = 4 ∨ a = 5 ∨ a = 6 ∨ a = 7 by omega) with rfl | rfl | rfl | rfl | rfl | rfl | rfl | rfl
  · exact h 59 (by decide)
  · exact h 62 (by decide)
  · exact h 65 (by decide)
  · exact h 68 (by decide)
  · exact h 71 (by decide)
  · exact h 74 (by decide)
  · exact h 77 (by decide)
  · exact h 80 (by decide)
theorem BS.t0 {f : Int → Int} (h : BS f) {a : Int} (ha : 0 ≤ a ∧ a ≤ 3) : 0 ≤ f (81 + 3 * a + 0) ∧ f (81 + 3 * a + 0) ≤ 99 := by
  rcases (show a = 0 ∨ a = 1 ∨ a = 2 ∨ a = 3 by omega) with rfl | rfl | rfl | rfl
  · exact h 81 (by decide)
  · exact h 84 (by decide)
  · exact h 87 (by decide)
  · exact h 90 (by decide)
theorem BS.t1 {f : Int → Int} (h : BS f) {a : Int} (ha : 0 ≤ a ∧ a ≤ 3) : 0 ≤ f (81 + 3 * a + 1) ∧ f (81 + 3 * a + 1) ≤ 99 := by
  rcases (show a = 0 ∨ a = 1 ∨ a = 2 ∨ a = 3 by omega) with rfl | rfl | rfl | rfl
  · exact h 82 (by decide)
  · exact h 85 (by decide)
  · exact h 88 (by decide)
  · exact h 91 (by decide)
theorem BS.t2 {f : Int → Int} (h : BS f) {a : Int} (ha : 0 ≤ a ∧ a ≤ 3) : 0 ≤ f (81 + 3 * a + 2) ∧ f (81 + 3 * a + 2) ≤ 5 := by
  rcases (show a = 0 ∨ a = 1 ∨ a = 2 ∨ a = 3 by omega) with rfl | rfl | rfl | rfl
  · exact h 83 (by decide)
  · exact h 86 (by decide)
  · exact h 89 (by decide)
  · exact h 92 (by decide)
theorem BS.w0 {f : Int → Int} (h : BS f) {a : Int} (ha : 0 ≤ a ∧ a ≤ 5) : 0 ≤ f (93 + 4 * a + 0) ∧ f (93 + 4 * a + 0) ≤ 5 := by
  rcases (show a = 0 ∨ a = 1 ∨ a = 2 ∨ a = 3 ∨ a = 4 ∨ a = 5 by omega) with rfl | rfl | rfl | rfl | rfl | rfl
  · exact h 93 (by decide)
  · exact h 97 (by decide)
  · exact h 101 (by decide)
  · exact h 105 (by decide)
  · exact h 109 (by decide)
  · exact h 113 (by decide)
theorem BS.w1 {f : Int → Int} (h : BS f) {a : Int} (ha : 0 ≤ a ∧ a ≤ 5) : 0 ≤ f (93 + 4 * a + 1) ∧ f (93 + 4 * a + 1) ≤ 99 := by
  rcases (show a = 0 ∨ a = 1 ∨ a = 2 ∨ a = 3 ∨ a = 4 ∨ a = 5 by omega) with rfl | rfl | rfl | rfl | rfl | rfl
  · exact h 94 (by decide)
  · exact h 98 (by decide)
  · exact h 102 (by decide)
  · exact h 106 (by decide)
  · exact h 110 (by decide)
  · exact h 114 (by decide)
theorem BS.w2 {f : Int → Int} (h : BS f) {a : Int} (ha : 0 ≤ a ∧ a ≤ 5) : 0 ≤ f (93 + 4 * a + 2) ∧ f (93 + 4 * a + 2) ≤ 99 := by
  rcases (show a = 0 ∨ a = 1 ∨ a = 2 ∨ a = 3 ∨ a = 4 ∨ a = 5 by omega) with rfl | rfl | rfl | rfl | rfl | rfl
  · exact h 95 (by decide)
  · exact h 99 (by decide)
  · exact h 103 (by decide)
  · exact h 107 (by decide)
  · exact h 111 (by decide)
  · exact h 115 (by decide)
theorem BS.w3 {f : Int → Int} (h : BS f) {a : Int} (ha : 0 ≤ a ∧ a ≤ 5) : 0 ≤ f (93 + 4 * a + 3) ∧ f (93 + 4 * a + 3) ≤ 50 := by
  rcases (show a = 0 ∨ a = 1 ∨ a = 2 ∨ a = 3 ∨ a = 4 ∨ a = 5 by omega) with rfl | rfl | rfl | rfl | rfl | rfl
  · exact h 96 (by decide)
  · exact h 100 (by decide)
  · exact h 104 (by decide)
  · exact h 108 (by decide)
  · exact h 112 (by decide)
  · exact h 116 (by decide)
theorem BS.e0 {f : Int → Int} (h : BS f) {a : Int} (ha : 0 ≤ a ∧ a ≤ 9) : 0 ≤ f (117 + 4 * a + 0) ∧ f (117 + 4 * a + 0) ≤ 999 := by
  rcases (show a = 0 ∨ a = 1 ∨ a = 2 ∨ a = 3 ∨ a = 4 ∨ a = 5 ∨ a = 6 ∨ a = 7 ∨ a = 8 ∨ a = 9 by omega) with rfl | rfl | rfl | rfl | rfl | rfl | rfl | rfl | rfl | rfl
  · exact h 117 (by decide)
  · exact h 121 (by decide)
  · exact h 125 (by decide)
  · exact h 129 (by decide)
  · exact h 133 (by decide)
  · exact h 137 (by decide)
  · exact h 141 (by decide)
  · exact h 145 (by decide)
  · exact h 149 (by decide)
  · exact h 153 (by decide)
theorem BS.e1 {f : Int → Int} (h : BS f) {a : Int} (ha : 0 ≤ a ∧ a ≤ 9) : 0 ≤ f (117 + 4 * a + 1) ∧ f (117 + 4 * a + 1) ≤ 20 := by
  rcases (show a = 0 ∨ a = 1 ∨ a = 2 ∨ a = 3 ∨ a = 4 ∨ a = 5 ∨ a = 6 ∨ a = 7 ∨ a = 8 ∨ a = 9 by omega) with rfl | rfl | rfl | rfl | rfl | rfl | rfl | rfl | rfl | rfl
  · exact h 118 (by decide)
  · exact h 122 (by decide)
  · exact h 126 (by decide)
  · exact h 130 (by decide)
  · exact h 134 (by decide)
  · exact h 138 (by decide)
  · exact h 142 (by decide)
  · exact h 146 (by decide)
  · exact h 150 (by decide)
  · exact h 154 (by decide)
theorem BS.e2 {f : Int → Int} (h : BS f) {a : Int} (ha : 0 ≤ a ∧ a ≤ 9) : 0 ≤ f (117 + 4 * a + 2) ∧ f (117 + 4 * a + 2) ≤ 99 := by
  rcases (show a = 0 ∨ a = 1 ∨ a = 2 ∨ a = 3 ∨ a = 4 ∨ a = 5 ∨ a = 6 ∨ a = 7 ∨ a = 8 ∨ a = 9 by omega) with rfl | rfl | rfl | rfl | rfl | rfl | rfl | rfl | rfl | rfl
  · exact h 119 (by decide)
  · exact h 123 (by decide)
  · exact h 127 (by decide)
  · exact h 131 (by decide)
  · exact h 135 (by decide)
  · exact h 139 (by decide)
  · exact h 143 (by decide)
  · exact h 147 (by decide)
  · exact h 151 (by decide)
  · exact h 155 (by decide)
theorem BS.e3 {f : Int → Int} (h : BS f) {a : Int} (ha : 0 ≤ a ∧ a ≤ 9) : 0 ≤ f (117 + 4 * a + 3) ∧ f (117 + 4 * a + 3) ≤ 999 := by
  rcases (show a = 0 ∨ a = 1 ∨ a = 2 ∨ a = 3 ∨ a = 4 ∨ a = 5 ∨ a = 6 ∨ a = 7 ∨ a = 8 ∨ a = 9 by omega) with rfl | rfl | rfl | rfl | rfl | rfl | rfl | rfl | rfl | rfl
  · exact h 120 (by decide)
  · exact h 124 (by decide)
  · exact h 128 (by decide)
  · exact h 132 (by decide)
  · exact h 136 (by decide)
  · exact h 140 (by decide)
  · exact h 144 (by decide)
  · exact h 148 (by decide)
  · exact h 152 (by decide)
  · exact h 156 (by decide)
/-- one write that keeps the bounds -/
theorem BS.put {f : Int → Int} (h : BS f) {i v : Int} (hv : bL.getD i.toNat 0 ≤ v ∧ v ≤ bH.getD i.toNat 0) : BS (fun j => if j = i then v else f j) := by
  intro k hk
  by_cases e : (k : Int) = i
  · subst e
    simp only [if_true]
    rw [Int.toNat_natCast] at hv
    exact hv
  · simp only [if_neg e]
    exact h k hk
