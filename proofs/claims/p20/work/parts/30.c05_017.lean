theorem dX11_jug_49 : decode cX11_jug 49 = .ok (.getfield 19, 3) := by decide +kernel
theorem dX11_jug_52 : decode cX11_jug 52 = .ok (.getfield 133, 3) := by decide +kernel
theorem dX11_jug_55 : decode cX11_jug 55 = .ok (.getfield 203, 3) := by decide +kernel
theorem dX11_jug_58 : decode cX11_jug 58 = .ok (.iload_n 1, 1) := by decide +kernel
theorem dX11_jug_59 : decode cX11_jug 59 = .ok (.iaload, 1) := by decide +kernel
theorem dX11_jug_60 : decode cX11_jug 60 = .ok (.ireturn, 1) := by decide +kernel
theorem dX11_jug_61 : decode cX11_jug 61 = .ok (.aload_n 0, 1) := by decide +kernel
theorem dX11_jug_62 : decode cX11_jug 62 = .ok (.getfield 19, 3) := by decide +kernel
theorem dX11_jug_65 : decode cX11_jug 65 = .ok (.getfield 133, 3) := by decide +kernel
theorem dX11_jug_68 : decode cX11_jug 68 = .ok (.getfield 206, 3) := by decide +kernel
theorem dX11_jug_71 : decode cX11_jug 71 = .ok (.iload_n 1, 1) := by decide +kernel
theorem dX11_jug_72 : decode cX11_jug 72 = .ok (.iaload, 1) := by decide +kernel
theorem dX11_jug_73 : decode cX11_jug 73 = .ok (.ireturn, 1) := by decide +kernel
theorem dX11_jug_74 : decode cX11_jug 74 = .ok (.aload_n 0, 1) := by decide +kernel
theorem dX11_jug_75 : decode cX11_jug 75 = .ok (.getfield 19, 3) := by decide +kernel
theorem dX11_jug_78 : decode cX11_jug 78 = .ok (.getfield 133, 3) := by decide +kernel
theorem dX11_jug_81 : decode cX11_jug 81 = .ok (.getfield 209, 3) := by decide +kernel
theorem dX11_jug_84 : decode cX11_jug 84 = .ok (.iload_n 1, 1) := by decide +kernel
theorem dX11_jug_85 : decode cX11_jug 85 = .ok (.iaload, 1) := by decide +kernel
theorem dX11_jug_86 : decode cX11_jug 86 = .ok (.ireturn, 1) := by decide +kernel
