theorem dX3_readClause_69 : decode cX3_readClause 69 = .ok (.ifCond .ne 5, 3) := by decide +kernel
theorem dX3_readClause_72 : decode cX3_readClause 72 = .ok (.iconst 0, 1) := by decide +kernel
theorem dX3_readClause_73 : decode cX3_readClause 73 = .ok (.ireturn, 1) := by decide +kernel
theorem dX3_readClause_74 : decode cX3_readClause 74 = .ok (.aload_n 0, 1) := by decide +kernel
theorem dX3_readClause_75 : decode cX3_readClause 75 = .ok (.invokevirtual 76, 3) := by decide +kernel
theorem dX3_readClause_78 : decode cX3_readClause 78 = .ok (.aload_n 0, 1) := by decide +kernel
theorem dX3_readClause_79 : decode cX3_readClause 79 = .ok (.invokevirtual 79, 3) := by decide +kernel
theorem dX3_readClause_82 : decode cX3_readClause 82 = .ok (.ifCond .eq 28, 3) := by decide +kernel
theorem dX3_readClause_85 : decode cX3_readClause 85 = .ok (.aload_n 0, 1) := by decide +kernel
theorem dX3_readClause_86 : decode cX3_readClause 86 = .ok (.iconst 0, 1) := by decide +kernel
theorem dX3_readClause_87 : decode cX3_readClause 87 = .ok (.invokevirtual 82, 3) := by decide +kernel
theorem dX3_readClause_90 : decode cX3_readClause 90 = .ok (.aload_n 0, 1) := by decide +kernel
theorem dX3_readClause_91 : decode cX3_readClause 91 = .ok (.aload_n 0, 1) := by decide +kernel
theorem dX3_readClause_92 : decode cX3_readClause 92 = .ok (.getfield 70, 3) := by decide +kernel
theorem dX3_readClause_95 : decode cX3_readClause 95 = .ok (.ifCond .ne 8, 3) := by decide +kernel
theorem dX3_readClause_98 : decode cX3_readClause 98 = .ok (.bipush (-25), 2) := by decide +kernel
theorem dX3_readClause_100 : decode cX3_readClause 100 = .ok (.goto 5, 3) := by decide +kernel
theorem dX3_readClause_103 : decode cX3_readClause 103 = .ok (.bipush (-26), 2) := by decide +kernel
theorem dX3_readClause_105 : decode cX3_readClause 105 = .ok (.invokevirtual 88, 3) := by decide +kernel
theorem dX3_readClause_108 : decode cX3_readClause 108 = .ok (.iconst 1, 1) := by decide +kernel
