theorem dX3_readClause_35 : decode cX3_readClause 35 = .ok (.ireturn, 1) := by decide +kernel
theorem dX3_readClause_36 : decode cX3_readClause 36 = .ok (.aload_n 0, 1) := by decide +kernel
theorem dX3_readClause_37 : decode cX3_readClause 37 = .ok (.iconst 0, 1) := by decide +kernel
theorem dX3_readClause_38 : decode cX3_readClause 38 = .ok (.putfield 61, 3) := by decide +kernel
theorem dX3_readClause_41 : decode cX3_readClause 41 = .ok (.aload_n 0, 1) := by decide +kernel
theorem dX3_readClause_42 : decode cX3_readClause 42 = .ok (.iconst 0, 1) := by decide +kernel
theorem dX3_readClause_43 : decode cX3_readClause 43 = .ok (.putfield 64, 3) := by decide +kernel
theorem dX3_readClause_46 : decode cX3_readClause 46 = .ok (.aload_n 0, 1) := by decide +kernel
theorem dX3_readClause_47 : decode cX3_readClause 47 = .ok (.iconst 0, 1) := by decide +kernel
theorem dX3_readClause_48 : decode cX3_readClause 48 = .ok (.putfield 67, 3) := by decide +kernel
theorem dX3_readClause_51 : decode cX3_readClause 51 = .ok (.aload_n 0, 1) := by decide +kernel
theorem dX3_readClause_52 : decode cX3_readClause 52 = .ok (.iconst 0, 1) := by decide +kernel
theorem dX3_readClause_53 : decode cX3_readClause 53 = .ok (.putfield 70, 3) := by decide +kernel
theorem dX3_readClause_56 : decode cX3_readClause 56 = .ok (.iconst 0, 1) := by decide +kernel
theorem dX3_readClause_57 : decode cX3_readClause 57 = .ok (.istore_n 2, 1) := by decide +kernel
theorem dX3_readClause_58 : decode cX3_readClause 58 = .ok (.iload_n 2, 1) := by decide +kernel
theorem dX3_readClause_59 : decode cX3_readClause 59 = .ok (.sipush 400, 3) := by decide +kernel
theorem dX3_readClause_62 : decode cX3_readClause 62 = .ok (.if_icmp .ge 63, 3) := by decide +kernel
theorem dX3_readClause_65 : decode cX3_readClause 65 = .ok (.aload_n 0, 1) := by decide +kernel
theorem dX3_readClause_66 : decode cX3_readClause 66 = .ok (.invokevirtual 73, 3) := by decide +kernel
