theorem dX3_read_1 : decode cX3_read 1 = .ok (.iconst 0, 1) := by decide +kernel
theorem dX3_read_2 : decode cX3_read 2 = .ok (.putfield 22, 3) := by decide +kernel
theorem dX3_read_5 : decode cX3_read 5 = .ok (.aload_n 0, 1) := by decide +kernel
theorem dX3_read_6 : decode cX3_read 6 = .ok (.iconst 0, 1) := by decide +kernel
theorem dX3_read_7 : decode cX3_read 7 = .ok (.putfield 32, 3) := by decide +kernel
theorem dX3_read_10 : decode cX3_read 10 = .ok (.aload_n 0, 1) := by decide +kernel
theorem dX3_read_11 : decode cX3_read 11 = .ok (.getfield 18, 3) := by decide +kernel
theorem dX3_read_14 : decode cX3_read 14 = .ok (.invokevirtual 35, 3) := by decide +kernel
theorem dX3_read_17 : decode cX3_read 17 = .ok (.iconst 0, 1) := by decide +kernel
theorem dX3_read_18 : decode cX3_read 18 = .ok (.istore_n 1, 1) := by decide +kernel
theorem dX3_read_19 : decode cX3_read 19 = .ok (.iload_n 1, 1) := by decide +kernel
theorem dX3_read_20 : decode cX3_read 20 = .ok (.bipush 12, 2) := by decide +kernel
theorem dX3_read_22 : decode cX3_read 22 = .ok (.if_icmp .gt 52, 3) := by decide +kernel
theorem dX3_read_25 : decode cX3_read 25 = .ok (.aload_n 0, 1) := by decide +kernel
theorem dX3_read_26 : decode cX3_read 26 = .ok (.iload_n 1, 1) := by decide +kernel
theorem dX3_read_27 : decode cX3_read 27 = .ok (.invokevirtual 40, 3) := by decide +kernel
theorem dX3_read_30 : decode cX3_read 30 = .ok (.ifCond .ne 5, 3) := by decide +kernel
theorem dX3_read_33 : decode cX3_read 33 = .ok (.iconst 0, 1) := by decide +kernel
theorem dX3_read_34 : decode cX3_read 34 = .ok (.ireturn, 1) := by decide +kernel
theorem dX3_read_35 : decode cX3_read 35 = .ok (.aload_n 0, 1) := by decide +kernel
