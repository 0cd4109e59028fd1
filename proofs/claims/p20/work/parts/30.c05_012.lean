theorem dX11_hand_5 : decode cX11_hand 5 = .ok (.ifCond .ne 5, 3) := by decide +kernel
theorem dX11_hand_8 : decode cX11_hand 8 = .ok (.iconst (-1), 1) := by decide +kernel
theorem dX11_hand_9 : decode cX11_hand 9 = .ok (.ireturn, 1) := by decide +kernel
theorem dX11_hand_10 : decode cX11_hand 10 = .ok (.iload_n 2, 1) := by decide +kernel
theorem dX11_hand_11 : decode cX11_hand 11 = .ok (.tableswitch 114 0 5 #[37, 50, 63, 76, 88, 101], 37) := by decide +kernel
theorem dX11_hand_48 : decode cX11_hand 48 = .ok (.aload_n 0, 1) := by decide +kernel
theorem dX11_hand_49 : decode cX11_hand 49 = .ok (.getfield 19, 3) := by decide +kernel
theorem dX11_hand_52 : decode cX11_hand 52 = .ok (.getfield 133, 3) := by decide +kernel
theorem dX11_hand_55 : decode cX11_hand 55 = .ok (.getfield 184, 3) := by decide +kernel
theorem dX11_hand_58 : decode cX11_hand 58 = .ok (.iload_n 1, 1) := by decide +kernel
theorem dX11_hand_59 : decode cX11_hand 59 = .ok (.iaload, 1) := by decide +kernel
theorem dX11_hand_60 : decode cX11_hand 60 = .ok (.ireturn, 1) := by decide +kernel
theorem dX11_hand_61 : decode cX11_hand 61 = .ok (.aload_n 0, 1) := by decide +kernel
theorem dX11_hand_62 : decode cX11_hand 62 = .ok (.getfield 19, 3) := by decide +kernel
theorem dX11_hand_65 : decode cX11_hand 65 = .ok (.getfield 133, 3) := by decide +kernel
theorem dX11_hand_68 : decode cX11_hand 68 = .ok (.getfield 187, 3) := by decide +kernel
theorem dX11_hand_71 : decode cX11_hand 71 = .ok (.iload_n 1, 1) := by decide +kernel
theorem dX11_hand_72 : decode cX11_hand 72 = .ok (.iaload, 1) := by decide +kernel
theorem dX11_hand_73 : decode cX11_hand 73 = .ok (.ireturn, 1) := by decide +kernel
theorem dX11_hand_74 : decode cX11_hand 74 = .ok (.aload_n 0, 1) := by decide +kernel
