theorem dX11_jug_87 : decode cX11_jug 87 = .ok (.aload_n 0, 1) := by decide +kernel
theorem dX11_jug_88 : decode cX11_jug 88 = .ok (.getfield 19, 3) := by decide +kernel
theorem dX11_jug_91 : decode cX11_jug 91 = .ok (.getfield 133, 3) := by decide +kernel
theorem dX11_jug_94 : decode cX11_jug 94 = .ok (.getfield 209, 3) := by decide +kernel
theorem dX11_jug_97 : decode cX11_jug 97 = .ok (.iload_n 1, 1) := by decide +kernel
theorem dX11_jug_98 : decode cX11_jug 98 = .ok (.iaload, 1) := by decide +kernel
theorem dX11_jug_99 : decode cX11_jug 99 = .ok (.aload_n 0, 1) := by decide +kernel
theorem dX11_jug_100 : decode cX11_jug 100 = .ok (.getfield 19, 3) := by decide +kernel
theorem dX11_jug_103 : decode cX11_jug 103 = .ok (.getfield 57, 3) := by decide +kernel
theorem dX11_jug_106 : decode cX11_jug 106 = .ok (.getfield 212, 3) := by decide +kernel
theorem dX11_jug_109 : decode cX11_jug 109 = .ok (.if_icmp .lt 7, 3) := by decide +kernel
theorem dX11_jug_112 : decode cX11_jug 112 = .ok (.iconst 1, 1) := by decide +kernel
theorem dX11_jug_113 : decode cX11_jug 113 = .ok (.goto 4, 3) := by decide +kernel
theorem dX11_jug_116 : decode cX11_jug 116 = .ok (.iconst 0, 1) := by decide +kernel
theorem dX11_jug_117 : decode cX11_jug 117 = .ok (.ireturn, 1) := by decide +kernel
theorem dX11_jug_118 : decode cX11_jug 118 = .ok (.aload_n 0, 1) := by decide +kernel
theorem dX11_jug_119 : decode cX11_jug 119 = .ok (.getfield 19, 3) := by decide +kernel
theorem dX11_jug_122 : decode cX11_jug 122 = .ok (.getfield 133, 3) := by decide +kernel
theorem dX11_jug_125 : decode cX11_jug 125 = .ok (.iload_n 1, 1) := by decide +kernel
theorem dX11_jug_126 : decode cX11_jug 126 = .ok (.invokevirtual 215, 3) := by decide +kernel
