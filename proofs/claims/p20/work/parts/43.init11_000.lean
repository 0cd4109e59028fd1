abbrev PA2 (D : va_G) (G : Gt) (S : Sh) (M : Mm) (av : List Value) : Array Value → State → Prop := va_Pc av (fun U => KN D G U ∧ Wd D G S M U.heap ∧ U.heap.size = gB G + S.1 ∧ va_O "[I" (gZ G) (aG G) U U.heap)
theorem PA2_blind {D : va_G} {G : Gt} {S : Sh} {M : Mm} {av : List Value} : FrameBlind (PA2 D G S M av) := fun a U g mk q => ⟨q.1, q.2.1.calling, q.2.2.1, q.2.2.2.1, va_O.moved (u := U) (Vm.Alike.refl U.vm) q.2.2.2.2⟩
theorem dX11_init_0 : decode cX11_init 0 = .ok (.aload_n 0, 1) := by decide +kernel
theorem dX11_init_1 : decode cX11_init 1 = .ok (.invokespecial 1, 3) := by decide +kernel
theorem dX11_init_4 : decode cX11_init 4 = .ok (.aload_n 0, 1) := by decide +kernel
theorem dX11_init_5 : decode cX11_init 5 = .ok (.new 7, 3) := by decide +kernel
theorem dX11_init_8 : decode cX11_init 8 = .ok (.dup, 1) := by decide +kernel
theorem dX11_init_9 : decode cX11_init 9 = .ok (.invokespecial 9, 3) := by decide +kernel
theorem dX11_init_12 : decode cX11_init 12 = .ok (.putfield 10, 3) := by decide +kernel
theorem dX11_init_15 : decode cX11_init 15 = .ok (.aload_n 0, 1) := by decide +kernel
theorem dX11_init_16 : decode cX11_init 16 = .ok (.new 16, 3) := by decide +kernel
theorem dX11_init_19 : decode cX11_init 19 = .ok (.dup, 1) := by decide +kernel
theorem dX11_init_20 : decode cX11_init 20 = .ok (.invokespecial 18, 3) := by decide +kernel
