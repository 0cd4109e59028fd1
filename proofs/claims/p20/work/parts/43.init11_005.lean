theorem dX11_init_135 : decode cX11_init 135 = .ok (.aload_n 0, 1) := by decide +kernel
theorem dX11_init_136 : decode cX11_init 136 = .ok (.getfield 19, 3) := by decide +kernel
theorem dX11_init_139 : decode cX11_init 139 = .ok (.getfield 57, 3) := by decide +kernel
theorem dX11_init_142 : decode cX11_init 142 = .ok (.invokespecial 86, 3) := by decide +kernel
theorem dX11_init_145 : decode cX11_init 145 = .ok (.putfield 87, 3) := by decide +kernel
theorem dX11_init_148 : decode cX11_init 148 = .ok (.aload_n 0, 1) := by decide +kernel
theorem dX11_init_149 : decode cX11_init 149 = .ok (.new 91, 3) := by decide +kernel
theorem dX11_init_152 : decode cX11_init 152 = .ok (.dup, 1) := by decide +kernel
theorem dX11_init_153 : decode cX11_init 153 = .ok (.aload_n 0, 1) := by decide +kernel
theorem dX11_init_154 : decode cX11_init 154 = .ok (.getfield 19, 3) := by decide +kernel
theorem dX11_init_157 : decode cX11_init 157 = .ok (.aload_n 0, 1) := by decide +kernel
theorem dX11_init_158 : decode cX11_init 158 = .ok (.getfield 64, 3) := by decide +kernel
theorem dX11_init_161 : decode cX11_init 161 = .ok (.invokespecial 93, 3) := by decide +kernel
