theorem dX11_hand_75 : decode cX11_hand 75 = .ok (.getfield 19, 3) := by decide +kernel
theorem dX11_hand_78 : decode cX11_hand 78 = .ok (.getfield 133, 3) := by decide +kernel
theorem dX11_hand_81 : decode cX11_hand 81 = .ok (.getfield 190, 3) := by decide +kernel
theorem dX11_hand_84 : decode cX11_hand 84 = .ok (.iload_n 1, 1) := by decide +kernel
theorem dX11_hand_85 : decode cX11_hand 85 = .ok (.iaload, 1) := by decide +kernel
theorem dX11_hand_86 : decode cX11_hand 86 = .ok (.ireturn, 1) := by decide +kernel
theorem dX11_hand_87 : decode cX11_hand 87 = .ok (.aload_n 0, 1) := by decide +kernel
theorem dX11_hand_88 : decode cX11_hand 88 = .ok (.getfield 19, 3) := by decide +kernel
theorem dX11_hand_91 : decode cX11_hand 91 = .ok (.getfield 133, 3) := by decide +kernel
theorem dX11_hand_94 : decode cX11_hand 94 = .ok (.iload_n 1, 1) := by decide +kernel
theorem dX11_hand_95 : decode cX11_hand 95 = .ok (.invokevirtual 193, 3) := by decide +kernel
theorem dX11_hand_98 : decode cX11_hand 98 = .ok (.ireturn, 1) := by decide +kernel
theorem dX11_hand_99 : decode cX11_hand 99 = .ok (.aload_n 0, 1) := by decide +kernel
theorem dX11_hand_100 : decode cX11_hand 100 = .ok (.getfield 19, 3) := by decide +kernel
theorem dX11_hand_103 : decode cX11_hand 103 = .ok (.getfield 57, 3) := by decide +kernel
theorem dX11_hand_106 : decode cX11_hand 106 = .ok (.getfield 197, 3) := by decide +kernel
theorem dX11_hand_109 : decode cX11_hand 109 = .ok (.iload_n 1, 1) := by decide +kernel
theorem dX11_hand_110 : decode cX11_hand 110 = .ok (.iaload, 1) := by decide +kernel
theorem dX11_hand_111 : decode cX11_hand 111 = .ok (.ireturn, 1) := by decide +kernel
theorem dX11_hand_112 : decode cX11_hand 112 = .ok (.aload_n 0, 1) := by decide +kernel
