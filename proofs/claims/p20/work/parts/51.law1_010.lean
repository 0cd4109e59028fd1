theorem dL_law_1162 : decode cL_law 1162 = .ok (.ireturn, 1) := by decide +kernel
def CL (p : Program) (s : State) (m : MethodId) (meth : Method) (c : Code) (b L : Nat) (xs : Nat → Int32) (D : va_G) (G : Gt) : Prop := lw_At p s m meth c b L xs ∧ KN D G s ∧ va_O "[I" (gZ G) (aG G) s s.heap ∧ ¬ aG G b ∧ (∀ a : Nat, G.1 a = gB G + a) ∧ L ≤ 3072 ∧ gB G = s.heap.size
