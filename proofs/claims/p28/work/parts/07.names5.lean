theorem dX12_keepsAct_27 : decode cX12_keepsAct 27 = .ok (.aload_n 0, 1) := by decide +kernel
theorem dX12_keepsAct_28 : decode cX12_keepsAct 28 = .ok (.getfield 46, 3) := by decide +kernel
theorem dX12_keepsAct_31 : decode cX12_keepsAct 31 = .ok (.iload_n 1, 1) := by decide +kernel
theorem dX12_keepsAct_32 : decode cX12_keepsAct 32 = .ok (.iaload, 1) := by decide +kernel
theorem dX12_keepsAct_33 : decode cX12_keepsAct 33 = .ok (.iastore, 1) := by decide +kernel
theorem dX12_keepsAct_34 : decode cX12_keepsAct 34 = .ok (.iinc 1 1, 3) := by decide +kernel
theorem dX12_keepsAct_37 : decode cX12_keepsAct 37 = .ok (.goto (-25), 3) := by decide +kernel
theorem dX12_keepsAct_40 : decode cX12_keepsAct 40 = .ok (.aload_n 0, 1) := by decide +kernel
theorem dX12_keepsAct_41 : decode cX12_keepsAct 41 = .ok (.dup, 1) := by decide +kernel
theorem dX12_keepsAct_42 : decode cX12_keepsAct 42 = .ok (.getfield 266, 3) := by decide +kernel
theorem dX12_keepsAct_45 : decode cX12_keepsAct 45 = .ok (.iconst 1, 1) := by decide +kernel
theorem dX12_keepsAct_46 : decode cX12_keepsAct 46 = .ok (.isub, 1) := by decide +kernel
theorem dX12_keepsAct_47 : decode cX12_keepsAct 47 = .ok (.putfield 266, 3) := by decide +kernel
theorem dX12_keepsAct_50 : decode cX12_keepsAct 50 = .ok (.iconst 0, 1) := by decide +kernel
theorem dX12_keepsAct_51 : decode cX12_keepsAct 51 = .ok (.istore_n 1, 1) := by decide +kernel
theorem dX12_keepsAct_52 : decode cX12_keepsAct 52 = .ok (.iload_n 1, 1) := by decide +kernel
theorem dX12_keepsAct_53 : decode cX12_keepsAct 53 = .ok (.bipush 57, 2) := by decide +kernel
theorem dX12_keepsAct_55 : decode cX12_keepsAct 55 = .ok (.if_icmp .ge 29, 3) := by decide +kernel
theorem dX12_keepsAct_58 : decode cX12_keepsAct 58 = .ok (.aload_n 0, 1) := by decide +kernel
theorem dX12_keepsAct_59 : decode cX12_keepsAct 59 = .ok (.getfield 46, 3) := by decide +kernel
theorem dX12_keepsAct_62 : decode cX12_keepsAct 62 = .ok (.bipush 57, 2) := by decide +kernel
theorem dX12_keepsAct_64 : decode cX12_keepsAct 64 = .ok (.aload_n 0, 1) := by decide +kernel
theorem dX12_keepsAct_65 : decode cX12_keepsAct 65 = .ok (.getfield 266, 3) := by decide +kernel
theorem dX12_keepsAct_68 : decode cX12_keepsAct 68 = .ok (.imul, 1) := by decide +kernel
theorem dX12_keepsAct_69 : decode cX12_keepsAct 69 = .ok (.iload_n 1, 1) := by decide +kernel
theorem dX12_keepsAct_70 : decode cX12_keepsAct 70 = .ok (.iadd, 1) := by decide +kernel
theorem dX12_keepsAct_71 : decode cX12_keepsAct 71 = .ok (.aload_n 0, 1) := by decide +kernel
theorem dX12_keepsAct_72 : decode cX12_keepsAct 72 = .ok (.getfield 39, 3) := by decide +kernel
theorem dX12_keepsAct_75 : decode cX12_keepsAct 75 = .ok (.iload_n 1, 1) := by decide +kernel
theorem dX12_keepsAct_76 : decode cX12_keepsAct 76 = .ok (.iaload, 1) := by decide +kernel
theorem dX12_keepsAct_77 : decode cX12_keepsAct 77 = .ok (.iastore, 1) := by decide +kernel
theorem dX12_keepsAct_78 : decode cX12_keepsAct 78 = .ok (.iinc 1 1, 3) := by decide +kernel
theorem dX12_keepsAct_81 : decode cX12_keepsAct 81 = .ok (.goto (-29), 3) := by decide +kernel
theorem dX12_keepsAct_84 : decode cX12_keepsAct 84 = .ok (.aload_n 0, 1) := by decide +kernel
theorem dX12_keepsAct_85 : decode cX12_keepsAct 85 = .ok (.dup, 1) := by decide +kernel
theorem dX12_keepsAct_86 : decode cX12_keepsAct 86 = .ok (.getfield 266, 3) := by decide +kernel
theorem dX12_keepsAct_89 : decode cX12_keepsAct 89 = .ok (.iconst 1, 1) := by decide +kernel
theorem dX12_keepsAct_90 : decode cX12_keepsAct 90 = .ok (.iadd, 1) := by decide +kernel
theorem dX12_keepsAct_91 : decode cX12_keepsAct 91 = .ok (.putfield 266, 3) := by decide +kernel
theorem dX12_keepsAct_94 : decode cX12_keepsAct 94 = .ok (.return_, 1) := by decide +kernel
theorem dX12_undo_0 : decode cX12_undo 0 = .ok (.aload_n 0, 1) := by decide +kernel
theorem dX12_undo_1 : decode cX12_undo 1 = .ok (.getfield 266, 3) := by decide +kernel
theorem dX12_undo_4 : decode cX12_undo 4 = .ok (.ifCond .ne 5, 3) := by decide +kernel
theorem dX12_undo_7 : decode cX12_undo 7 = .ok (.iconst (-1), 1) := by decide +kernel
theorem dX12_undo_8 : decode cX12_undo 8 = .ok (.ireturn, 1) := by decide +kernel
theorem dX12_undo_9 : decode cX12_undo 9 = .ok (.aload_n 0, 1) := by decide +kernel
theorem dX12_undo_10 : decode cX12_undo 10 = .ok (.dup, 1) := by decide +kernel
theorem dX12_undo_11 : decode cX12_undo 11 = .ok (.getfield 266, 3) := by decide +kernel
theorem dX12_undo_14 : decode cX12_undo 14 = .ok (.iconst 1, 1) := by decide +kernel
theorem dX12_undo_15 : decode cX12_undo 15 = .ok (.isub, 1) := by decide +kernel
theorem dX12_undo_16 : decode cX12_undo 16 = .ok (.putfield 266, 3) := by decide +kernel
theorem dX12_undo_19 : decode cX12_undo 19 = .ok (.iconst 0, 1) := by decide +kernel
theorem dX12_undo_20 : decode cX12_undo 20 = .ok (.istore_n 1, 1) := by decide +kernel
theorem dX12_undo_21 : decode cX12_undo 21 = .ok (.iload_n 1, 1) := by decide +kernel
theorem dX12_undo_22 : decode cX12_undo 22 = .ok (.bipush 57, 2) := by decide +kernel
theorem dX12_undo_24 : decode cX12_undo 24 = .ok (.if_icmp .ge 29, 3) := by decide +kernel
theorem dX12_undo_27 : decode cX12_undo 27 = .ok (.aload_n 0, 1) := by decide +kernel
theorem dX12_undo_28 : decode cX12_undo 28 = .ok (.getfield 39, 3) := by decide +kernel
theorem dX12_undo_31 : decode cX12_undo 31 = .ok (.iload_n 1, 1) := by decide +kernel
theorem dX12_undo_32 : decode cX12_undo 32 = .ok (.aload_n 0, 1) := by decide +kernel
theorem dX12_undo_33 : decode cX12_undo 33 = .ok (.getfield 46, 3) := by decide +kernel
theorem dX12_undo_36 : decode cX12_undo 36 = .ok (.bipush 57, 2) := by decide +kernel
theorem dX12_undo_38 : decode cX12_undo 38 = .ok (.aload_n 0, 1) := by decide +kernel
theorem dX12_undo_39 : decode cX12_undo 39 = .ok (.getfield 266, 3) := by decide +kernel
theorem dX12_undo_42 : decode cX12_undo 42 = .ok (.imul, 1) := by decide +kernel
theorem dX12_undo_43 : decode cX12_undo 43 = .ok (.iload_n 1, 1) := by decide +kernel
theorem dX12_undo_44 : decode cX12_undo 44 = .ok (.iadd, 1) := by decide +kernel
theorem dX12_undo_45 : decode cX12_undo 45 = .ok (.iaload, 1) := by decide +kernel
theorem dX12_undo_46 : decode cX12_undo 46 = .ok (.iastore, 1) := by decide +kernel
theorem dX12_undo_47 : decode cX12_undo 47 = .ok (.iinc 1 1, 3) := by decide +kernel
theorem dX12_undo_50 : decode cX12_undo 50 = .ok (.goto (-29), 3) := by decide +kernel
theorem dX12_undo_53 : decode cX12_undo 53 = .ok (.aload_n 0, 1) := by decide +kernel
theorem dX12_undo_54 : decode cX12_undo 54 = .ok (.getfield 266, 3) := by decide +kernel
theorem dX12_undo_57 : decode cX12_undo 57 = .ok (.ireturn, 1) := by decide +kernel
set_option maxRecDepth 20000 in
theorem ggX12_hour_X12_isDairy : GoodIn wsX12_hour wsX12_isDairy := goodIn_r _ [6, 1, 79, 80, 81, 82, 83, 84, 85, 86, 87, 88, 89, 90, 91, 92, 93, 94, 95, 96, 97, 98, 99, 100, 101, 102, 103, 104, 105, 106, 107, 108, 109, 110, 111, 112, 113, 114, 115, 116] (by decide +kernel) (by decide +kernel)
set_option maxRecDepth 20000 in
theorem gX12_hour_X12_isDairy : GoodIn wsX12_hour (wsV RX12 350 RX12 yX12_isDairy wsX12_isDairy) := goodIn_app (goodIn_of _ (by decide +kernel)) ggX12_hour_X12_isDairy
set_option maxRecDepth 20000 in
theorem ggX12_hour_X12_keepsAct : GoodIn wsX12_hour wsX12_keepsAct := goodIn_r _ [10, 11, 12, 1, 79, 80, 81, 82, 83, 84, 85, 86, 87, 88, 89, 90, 91, 92, 93, 94, 95, 96, 97, 98, 99, 100, 101, 102, 103, 104, 105, 106, 107, 108, 109, 110, 111, 112, 113, 114, 115, 116] (by decide +kernel) (by decide +kernel)
set_option maxRecDepth 20000 in
theorem gX12_hour_X12_keepsAct : GoodIn wsX12_hour (wsV RX12 353 RX12 yX12_keepsAct wsX12_keepsAct) := goodIn_app (goodIn_of _ (by decide +kernel)) ggX12_hour_X12_keepsAct
set_option maxRecDepth 20000 in
theorem ggX12_hour_X12_passes : GoodIn wsX12_hour wsX12_passes := goodIn_r _ [16, 1, 17, 18, 19, 5, 20, 21, 22, 23, 24, 25, 26, 27, 28, 29, 30, 31, 32, 33, 34, 35, 36, 37, 38, 39, 40, 41, 42, 43, 44, 45, 46, 47, 48, 49, 50, 51, 52, 53, 54, 55, 56, 57, 58, 59, 60, 61, 62, 63, 64, 65, 66, 67, 68, 69, 70, 71, 72, 73, 74, 75, 76, 77, 78, 79, 80, 81, 82, 83, 84, 85, 86, 87, 88, 89, 90, 91, 92, 93, 94, 95, 96, 97, 98, 99, 100, 101, 102, 103, 104, 105, 106, 107, 108, 109, 110, 111, 112, 113, 114, 115, 116] (by decide +kernel) (by decide +kernel)
set_option maxRecDepth 20000 in
theorem gX12_hour_X12_passes : GoodIn wsX12_hour (wsV RX12 356 RX12 yX12_passes wsX12_passes) := goodIn_app (goodIn_of _ (by decide +kernel)) ggX12_hour_X12_passes
theorem dX12_hour_0 : decode cX12_hour 0 = .ok (.aload_n 0, 1) := by decide +kernel
theorem dX12_hour_1 : decode cX12_hour 1 = .ok (.invokevirtual 350, 3) := by decide +kernel
theorem dX12_hour_4 : decode cX12_hour 4 = .ok (.ifCond .eq 16, 3) := by decide +kernel
theorem dX12_hour_7 : decode cX12_hour 7 = .ok (.aload_n 0, 1) := by decide +kernel
theorem dX12_hour_8 : decode cX12_hour 8 = .ok (.getfield 39, 3) := by decide +kernel
theorem dX12_hour_11 : decode cX12_hour 11 = .ok (.bipush 7, 2) := by decide +kernel
theorem dX12_hour_13 : decode cX12_hour 13 = .ok (.iaload, 1) := by decide +kernel
theorem dX12_hour_14 : decode cX12_hour 14 = .ok (.sipush 999, 3) := by decide +kernel
theorem dX12_hour_17 : decode cX12_hour 17 = .ok (.if_icmp .ne 5, 3) := by decide +kernel
theorem dX12_hour_20 : decode cX12_hour 20 = .ok (.iconst (-1), 1) := by decide +kernel
theorem dX12_hour_21 : decode cX12_hour 21 = .ok (.ireturn, 1) := by decide +kernel
theorem dX12_hour_22 : decode cX12_hour 22 = .ok (.aload_n 0, 1) := by decide +kernel
theorem dX12_hour_23 : decode cX12_hour 23 = .ok (.invokevirtual 353, 3) := by decide +kernel
theorem dX12_hour_26 : decode cX12_hour 26 = .ok (.aload_n 0, 1) := by decide +kernel
theorem dX12_hour_27 : decode cX12_hour 27 = .ok (.invokevirtual 356, 3) := by decide +kernel
theorem dX12_hour_30 : decode cX12_hour 30 = .ok (.ireturn, 1) := by decide +kernel
set_option maxRecDepth 20000 in
theorem ggX12_isAtPlace_X12_handOf : GoodIn wsX12_isAtPlace wsX12_handOf := goodIn_r _ [5, 6, 7, 8, 9, 10, 11, 12, 13, 14, 15, 16, 17, 18, 19, 20, 21, 22, 23, 24, 25, 26, 27, 28, 29, 30, 31, 32, 33, 34, 35, 36, 37, 38, 39, 40, 41, 42, 43, 44] (by decide +kernel) (by decide +kernel)
set_option maxRecDepth 20000 in
theorem gX12_isAtPlace_X12_handOf : GoodIn wsX12_isAtPlace (wsV RX12 306 RX12 yX12_handOf wsX12_handOf) := goodIn_app (goodIn_of _ (by decide +kernel)) ggX12_isAtPlace_X12_handOf
theorem dX12_isAtPlace_0 : decode cX12_isAtPlace 0 = .ok (.aload_n 0, 1) := by decide +kernel
theorem dX12_isAtPlace_1 : decode cX12_isAtPlace 1 = .ok (.iload_n 1, 1) := by decide +kernel
theorem dX12_isAtPlace_2 : decode cX12_isAtPlace 2 = .ok (.iconst 1, 1) := by decide +kernel
theorem dX12_isAtPlace_3 : decode cX12_isAtPlace 3 = .ok (.invokevirtual 306, 3) := by decide +kernel
theorem dX12_isAtPlace_6 : decode cX12_isAtPlace 6 = .ok (.ifCond .ne 7, 3) := by decide +kernel
theorem dX12_isAtPlace_9 : decode cX12_isAtPlace 9 = .ok (.iconst 1, 1) := by decide +kernel
theorem dX12_isAtPlace_10 : decode cX12_isAtPlace 10 = .ok (.goto 4, 3) := by decide +kernel
theorem dX12_isAtPlace_13 : decode cX12_isAtPlace 13 = .ok (.iconst 0, 1) := by decide +kernel
theorem dX12_isAtPlace_14 : decode cX12_isAtPlace 14 = .ok (.ireturn, 1) := by decide +kernel
set_option maxRecDepth 20000 in
theorem ggX12_canTake_X12_isAtPlace : GoodIn wsX12_canTake wsX12_isAtPlace := goodIn_r _ [5, 6, 7, 8, 4, 9, 10, 26, 27, 28, 29, 30, 31, 32, 33, 34, 35, 36, 37, 38, 39, 40, 41, 42, 43, 44, 45, 46, 47, 48, 49, 50, 51, 52, 53, 54, 55, 56, 57, 58, 59, 60, 61, 62, 63] (by decide +kernel) (by decide +kernel)
set_option maxRecDepth 20000 in
theorem gX12_canTake_X12_isAtPlace : GoodIn wsX12_canTake (wsV RX12 359 RX12 yX12_isAtPlace wsX12_isAtPlace) := goodIn_app (goodIn_of _ (by decide +kernel)) ggX12_canTake_X12_isAtPlace
set_option maxRecDepth 20000 in
theorem ggX12_canTake_X12_stands : GoodIn wsX12_canTake wsX12_stands := goodIn_r _ [14, 15, 16, 17, 4, 18, 10, 26, 27, 28, 29, 30, 31, 32, 33, 34, 35, 36, 37, 38, 39, 40, 41, 42, 43, 44, 45, 46, 47, 48, 49, 50, 51, 52, 53, 54, 55, 56, 57, 58, 59, 60, 61, 62, 63] (by decide +kernel) (by decide +kernel)
set_option maxRecDepth 20000 in
theorem gX12_canTake_X12_stands : GoodIn wsX12_canTake (wsV RX12 292 RX12 yX12_stands wsX12_stands) := goodIn_app (goodIn_of _ (by decide +kernel)) ggX12_canTake_X12_stands
set_option maxRecDepth 20000 in
theorem ggX12_canTake_X12_jugOf : GoodIn wsX12_canTake wsX12_jugOf := goodIn_r _ [18, 10, 26, 27, 28, 29, 30, 31, 32, 33, 34, 35, 36, 37, 38, 39, 40, 41, 42, 43, 44, 45, 46, 47, 48, 49, 50, 51, 52, 53, 54, 55, 56, 57, 58, 59, 60, 61, 62, 63] (by decide +kernel) (by decide +kernel)
set_option maxRecDepth 20000 in
theorem gX12_canTake_X12_jugOf : GoodIn wsX12_canTake (wsV RX12 284 RX12 yX12_jugOf wsX12_jugOf) := goodIn_app (goodIn_of _ (by decide +kernel)) ggX12_canTake_X12_jugOf
set_option maxRecDepth 20000 in
theorem ggX12_canTake_X12_handOf : GoodIn wsX12_canTake wsX12_handOf := goodIn_r _ [9, 10, 26, 27, 28, 29, 30, 31, 32, 33, 34, 35, 36, 37, 38, 39, 40, 41, 42, 43, 44, 45, 46, 47, 48, 49, 50, 51, 52, 53, 54, 55, 56, 57, 58, 59, 60, 61, 62, 63] (by decide +kernel) (by decide +kernel)
set_option maxRecDepth 20000 in
theorem gX12_canTake_X12_handOf : GoodIn wsX12_canTake (wsV RX12 306 RX12 yX12_handOf wsX12_handOf) := goodIn_app (goodIn_of _ (by decide +kernel)) ggX12_canTake_X12_handOf
set_option maxRecDepth 20000 in
theorem ggX12_canTake_X12_held : GoodIn wsX12_canTake wsX12_held := goodIn_r _ [22, 10, 15, 16, 17, 4, 18, 26, 27, 28, 29, 30, 31, 32, 33, 34, 35, 36, 37, 38, 39, 40, 41, 42, 43, 44, 45, 46, 47, 48, 49, 50, 51, 52, 53, 54, 55, 56, 57, 58, 59, 60, 61, 62, 63] (by decide +kernel) (by decide +kernel)
set_option maxRecDepth 20000 in
theorem gX12_canTake_X12_held : GoodIn wsX12_canTake (wsV RX12 309 RX12 yX12_held wsX12_held) := goodIn_app (goodIn_of _ (by decide +kernel)) ggX12_canTake_X12_held
set_option maxRecDepth 20000 in
theorem ggX12_canTake_X12_bits : GoodIn wsX12_canTake wsX12_bits := goodIn_r _ [25] (by decide +kernel) (by decide +kernel)
set_option maxRecDepth 20000 in
theorem gX12_canTake_X12_bits : GoodIn wsX12_canTake (va_wsS RX12 344 yX12_bits wsX12_bits) := goodIn_app (goodIn_of _ (by decide +kernel)) ggX12_canTake_X12_bits
theorem dX12_canTake_0 : decode cX12_canTake 0 = .ok (.aload_n 0, 1) := by decide +kernel
theorem dX12_canTake_1 : decode cX12_canTake 1 = .ok (.iload_n 1, 1) := by decide +kernel
theorem dX12_canTake_2 : decode cX12_canTake 2 = .ok (.invokevirtual 359, 3) := by decide +kernel
theorem dX12_canTake_5 : decode cX12_canTake 5 = .ok (.ifCond .eq 42, 3) := by decide +kernel
theorem dX12_canTake_8 : decode cX12_canTake 8 = .ok (.aload_n 0, 1) := by decide +kernel
theorem dX12_canTake_9 : decode cX12_canTake 9 = .ok (.iload_n 2, 1) := by decide +kernel
theorem dX12_canTake_10 : decode cX12_canTake 10 = .ok (.invokevirtual 292, 3) := by decide +kernel
theorem dX12_canTake_13 : decode cX12_canTake 13 = .ok (.ifCond .eq 34, 3) := by decide +kernel
theorem dX12_canTake_16 : decode cX12_canTake 16 = .ok (.aload_n 0, 1) := by decide +kernel
theorem dX12_canTake_17 : decode cX12_canTake 17 = .ok (.iload_n 2, 1) := by decide +kernel
theorem dX12_canTake_18 : decode cX12_canTake 18 = .ok (.iconst 0, 1) := by decide +kernel
theorem dX12_canTake_19 : decode cX12_canTake 19 = .ok (.invokevirtual 284, 3) := by decide +kernel
theorem dX12_canTake_22 : decode cX12_canTake 22 = .ok (.aload_n 0, 1) := by decide +kernel
theorem dX12_canTake_23 : decode cX12_canTake 23 = .ok (.iload_n 1, 1) := by decide +kernel
theorem dX12_canTake_24 : decode cX12_canTake 24 = .ok (.iconst 0, 1) := by decide +kernel
theorem dX12_canTake_25 : decode cX12_canTake 25 = .ok (.invokevirtual 306, 3) := by decide +kernel
theorem dX12_canTake_28 : decode cX12_canTake 28 = .ok (.if_icmp .ne 19, 3) := by decide +kernel
theorem dX12_canTake_31 : decode cX12_canTake 31 = .ok (.aload_n 0, 1) := by decide +kernel
theorem dX12_canTake_32 : decode cX12_canTake 32 = .ok (.iload_n 1, 1) := by decide +kernel
theorem dX12_canTake_33 : decode cX12_canTake 33 = .ok (.invokevirtual 309, 3) := by decide +kernel
theorem dX12_canTake_36 : decode cX12_canTake 36 = .ok (.invokestatic 344, 3) := by decide +kernel
theorem dX12_canTake_39 : decode cX12_canTake 39 = .ok (.iconst 2, 1) := by decide +kernel
theorem dX12_canTake_40 : decode cX12_canTake 40 = .ok (.if_icmp .ge 7, 3) := by decide +kernel
theorem dX12_canTake_43 : decode cX12_canTake 43 = .ok (.iconst 1, 1) := by decide +kernel
theorem dX12_canTake_44 : decode cX12_canTake 44 = .ok (.goto 4, 3) := by decide +kernel
theorem dX12_canTake_47 : decode cX12_canTake 47 = .ok (.iconst 0, 1) := by decide +kernel
theorem dX12_canTake_48 : decode cX12_canTake 48 = .ok (.ireturn, 1) := by decide +kernel
theorem dX12_takes_0 : decode cX12_takes 0 = .ok (.aload_n 0, 1) := by decide +kernel
theorem dX12_takes_1 : decode cX12_takes 1 = .ok (.getfield 39, 3) := by decide +kernel
theorem dX12_takes_4 : decode cX12_takes 4 = .ok (.bipush 35, 2) := by decide +kernel
theorem dX12_takes_6 : decode cX12_takes 6 = .ok (.iconst 4, 1) := by decide +kernel
theorem dX12_takes_7 : decode cX12_takes 7 = .ok (.iload_n 2, 1) := by decide +kernel
theorem dX12_takes_8 : decode cX12_takes 8 = .ok (.imul, 1) := by decide +kernel
theorem dX12_takes_9 : decode cX12_takes 9 = .ok (.iadd, 1) := by decide +kernel
theorem dX12_takes_10 : decode cX12_takes 10 = .ok (.iconst 1, 1) := by decide +kernel
theorem dX12_takes_11 : decode cX12_takes 11 = .ok (.iadd, 1) := by decide +kernel
theorem dX12_takes_12 : decode cX12_takes 12 = .ok (.iload_n 1, 1) := by decide +kernel
theorem dX12_takes_13 : decode cX12_takes 13 = .ok (.iastore, 1) := by decide +kernel
theorem dX12_takes_14 : decode cX12_takes 14 = .ok (.return_, 1) := by decide +kernel
set_option maxRecDepth 20000 in
theorem ggX12_take_X12_isHand : GoodIn wsX12_take wsX12_isHand := goodIn_r _ [5, 6, 48, 49, 50, 51, 52, 53, 54, 55, 56, 57, 58, 59, 60, 61, 62, 63, 64, 65, 66, 67, 68, 69, 70, 71, 72, 73, 74, 75, 76, 77, 78, 79, 80, 81, 82, 83, 84, 85] (by decide +kernel) (by decide +kernel)
set_option maxRecDepth 20000 in
theorem gX12_take_X12_isHand : GoodIn wsX12_take (wsV RX12 301 RX12 yX12_isHand wsX12_isHand) := goodIn_app (goodIn_of _ (by decide +kernel)) ggX12_take_X12_isHand
set_option maxRecDepth 20000 in
theorem ggX12_take_X12_isJug : GoodIn wsX12_take wsX12_isJug := goodIn_r _ [10, 6, 48, 49, 50, 51, 52, 53, 54, 55, 56, 57, 58, 59, 60, 61, 62, 63, 64, 65, 66, 67, 68, 69, 70, 71, 72, 73, 74, 75, 76, 77, 78, 79, 80, 81, 82, 83, 84, 85] (by decide +kernel) (by decide +kernel)
set_option maxRecDepth 20000 in
theorem gX12_take_X12_isJug : GoodIn wsX12_take (wsV RX12 312 RX12 yX12_isJug wsX12_isJug) := goodIn_app (goodIn_of _ (by decide +kernel)) ggX12_take_X12_isJug
set_option maxRecDepth 20000 in
theorem ggX12_take_X12_canTake : GoodIn wsX12_take wsX12_canTake := goodIn_r _ [14, 15, 16, 17, 4, 18, 19, 20, 21, 22, 6, 23, 24, 25, 26, 27, 28, 29, 30, 31, 32, 33, 34, 35, 36, 37, 48, 49, 50, 51, 52, 53, 54, 55, 56, 57, 58, 59, 60, 61, 62, 63, 64, 65, 66, 67, 68, 69, 70, 71, 72, 73, 74, 75, 76, 77, 78, 79, 80, 81, 82, 83, 84, 85] (by decide +kernel) (by decide +kernel)
set_option maxRecDepth 20000 in
theorem gX12_take_X12_canTake : GoodIn wsX12_take (wsV RX12 362 RX12 yX12_canTake wsX12_canTake) := goodIn_app (goodIn_of _ (by decide +kernel)) ggX12_take_X12_canTake
set_option maxRecDepth 20000 in
theorem ggX12_take_X12_keepsAct : GoodIn wsX12_take wsX12_keepsAct := goodIn_r _ [41, 42, 43, 6, 48, 49, 50, 51, 52, 53, 54, 55, 56, 57, 58, 59, 60, 61, 62, 63, 64, 65, 66, 67, 68, 69, 70, 71, 72, 73, 74, 75, 76, 77, 78, 79, 80, 81, 82, 83, 84, 85] (by decide +kernel) (by decide +kernel)
set_option maxRecDepth 20000 in
theorem gX12_take_X12_keepsAct : GoodIn wsX12_take (wsV RX12 353 RX12 yX12_keepsAct wsX12_keepsAct) := goodIn_app (goodIn_of _ (by decide +kernel)) ggX12_take_X12_keepsAct
set_option maxRecDepth 20000 in
theorem ggX12_take_X12_takes : GoodIn wsX12_take wsX12_takes := goodIn_r _ [47, 6, 48, 49, 50, 51, 52, 53, 54, 55, 56, 57, 58, 59, 60, 61, 62, 63, 64, 65, 66, 67, 68, 69, 70, 71, 72, 73, 74, 75, 76, 77, 78, 79, 80, 81, 82, 83, 84, 85] (by decide +kernel) (by decide +kernel)
set_option maxRecDepth 20000 in
theorem gX12_take_X12_takes : GoodIn wsX12_take (wsV RX12 365 RX12 yX12_takes wsX12_takes) := goodIn_app (goodIn_of _ (by decide +kernel)) ggX12_take_X12_takes
set_option maxRecDepth 20000 in
theorem ggX12_take_X12_held : GoodIn wsX12_take wsX12_held := goodIn_r _ [34, 6, 27, 28, 29, 4, 30, 48, 49, 50, 51, 52, 53, 54, 55, 56, 57, 58, 59, 60, 61, 62, 63, 64, 65, 66, 67, 68, 69, 70, 71, 72, 73, 74, 75, 76, 77, 78, 79, 80, 81, 82, 83, 84, 85] (by decide +kernel) (by decide +kernel)
set_option maxRecDepth 20000 in
theorem gX12_take_X12_held : GoodIn wsX12_take (wsV RX12 309 RX12 yX12_held wsX12_held) := goodIn_app (goodIn_of _ (by decide +kernel)) ggX12_take_X12_held
theorem dX12_take_0 : decode cX12_take 0 = .ok (.aload_n 0, 1) := by decide +kernel
theorem dX12_take_1 : decode cX12_take 1 = .ok (.iload_n 1, 1) := by decide +kernel
theorem dX12_take_2 : decode cX12_take 2 = .ok (.invokevirtual 301, 3) := by decide +kernel
theorem dX12_take_5 : decode cX12_take 5 = .ok (.ifCond .eq 20, 3) := by decide +kernel
theorem dX12_take_8 : decode cX12_take 8 = .ok (.aload_n 0, 1) := by decide +kernel
theorem dX12_take_9 : decode cX12_take 9 = .ok (.iload_n 2, 1) := by decide +kernel
theorem dX12_take_10 : decode cX12_take 10 = .ok (.invokevirtual 312, 3) := by decide +kernel
theorem dX12_take_13 : decode cX12_take 13 = .ok (.ifCond .eq 12, 3) := by decide +kernel
theorem dX12_take_16 : decode cX12_take 16 = .ok (.aload_n 0, 1) := by decide +kernel
theorem dX12_take_17 : decode cX12_take 17 = .ok (.iload_n 1, 1) := by decide +kernel
theorem dX12_take_18 : decode cX12_take 18 = .ok (.iload_n 2, 1) := by decide +kernel
theorem dX12_take_19 : decode cX12_take 19 = .ok (.invokevirtual 362, 3) := by decide +kernel
theorem dX12_take_22 : decode cX12_take 22 = .ok (.ifCond .ne 5, 3) := by decide +kernel
theorem dX12_take_25 : decode cX12_take 25 = .ok (.iconst (-1), 1) := by decide +kernel
theorem dX12_take_26 : decode cX12_take 26 = .ok (.ireturn, 1) := by decide +kernel
theorem dX12_take_27 : decode cX12_take 27 = .ok (.aload_n 0, 1) := by decide +kernel
theorem dX12_take_28 : decode cX12_take 28 = .ok (.invokevirtual 353, 3) := by decide +kernel
theorem dX12_take_31 : decode cX12_take 31 = .ok (.aload_n 0, 1) := by decide +kernel
theorem dX12_take_32 : decode cX12_take 32 = .ok (.iload_n 1, 1) := by decide +kernel
theorem dX12_take_33 : decode cX12_take 33 = .ok (.iload_n 2, 1) := by decide +kernel
theorem dX12_take_34 : decode cX12_take 34 = .ok (.invokevirtual 365, 3) := by decide +kernel
theorem dX12_take_37 : decode cX12_take 37 = .ok (.aload_n 0, 1) := by decide +kernel
theorem dX12_take_38 : decode cX12_take 38 = .ok (.iload_n 1, 1) := by decide +kernel
theorem dX12_take_39 : decode cX12_take 39 = .ok (.invokevirtual 309, 3) := by decide +kernel
theorem dX12_take_42 : decode cX12_take 42 = .ok (.ireturn, 1) := by decide +kernel
set_option maxRecDepth 20000 in
theorem ggX12_put_X12_isHand : GoodIn wsX12_put wsX12_isHand := goodIn_r _ [6, 1, 29, 30, 31, 32, 33, 34, 35, 36, 37, 38, 39, 40, 41, 42, 43, 44, 45, 46, 47, 48, 49, 50, 51, 52, 53, 54, 55, 56, 57, 58, 59, 60, 61, 62, 63, 64, 65, 66] (by decide +kernel) (by decide +kernel)
set_option maxRecDepth 20000 in
theorem gX12_put_X12_isHand : GoodIn wsX12_put (wsV RX12 301 RX12 yX12_isHand wsX12_isHand) := goodIn_app (goodIn_of _ (by decide +kernel)) ggX12_put_X12_isHand
set_option maxRecDepth 20000 in
theorem ggX12_put_X12_isJug : GoodIn wsX12_put wsX12_isJug := goodIn_r _ [10, 1, 29, 30, 31, 32, 33, 34, 35, 36, 37, 38, 39, 40, 41, 42, 43, 44, 45, 46, 47, 48, 49, 50, 51, 52, 53, 54, 55, 56, 57, 58, 59, 60, 61, 62, 63, 64, 65, 66] (by decide +kernel) (by decide +kernel)
set_option maxRecDepth 20000 in
theorem gX12_put_X12_isJug : GoodIn wsX12_put (wsV RX12 312 RX12 yX12_isJug wsX12_isJug) := goodIn_app (goodIn_of _ (by decide +kernel)) ggX12_put_X12_isJug
set_option maxRecDepth 20000 in
theorem ggX12_put_X12_jugOf : GoodIn wsX12_put wsX12_jugOf := goodIn_r _ [14, 1, 29, 30, 31, 32, 33, 34, 35, 36, 37, 38, 39, 40, 41, 42, 43, 44, 45, 46, 47, 48, 49, 50, 51, 52, 53, 54, 55, 56, 57, 58, 59, 60, 61, 62, 63, 64, 65, 66] (by decide +kernel) (by decide +kernel)
set_option maxRecDepth 20000 in
theorem gX12_put_X12_jugOf : GoodIn wsX12_put (wsV RX12 284 RX12 yX12_jugOf wsX12_jugOf) := goodIn_app (goodIn_of _ (by decide +kernel)) ggX12_put_X12_jugOf
set_option maxRecDepth 20000 in
theorem ggX12_put_X12_isAtPlace : GoodIn wsX12_put wsX12_isAtPlace := goodIn_r _ [18, 19, 20, 21, 5, 22, 1, 29, 30, 31, 32, 33, 34, 35, 36, 37, 38, 39, 40, 41, 42, 43, 44, 45, 46, 47, 48, 49, 50, 51, 52, 53, 54, 55, 56, 57, 58, 59, 60, 61, 62, 63, 64, 65, 66] (by decide +kernel) (by decide +kernel)
set_option maxRecDepth 20000 in
theorem gX12_put_X12_isAtPlace : GoodIn wsX12_put (wsV RX12 359 RX12 yX12_isAtPlace wsX12_isAtPlace) := goodIn_app (goodIn_of _ (by decide +kernel)) ggX12_put_X12_isAtPlace
set_option maxRecDepth 20000 in
theorem ggX12_put_X12_keepsAct : GoodIn wsX12_put wsX12_keepsAct := goodIn_r _ [26, 27, 28, 1, 29, 30, 31, 32, 33, 34, 35, 36, 37, 38, 39, 40, 41, 42, 43, 44, 45, 46, 47, 48, 49, 50, 51, 52, 53, 54, 55, 56, 57, 58, 59, 60, 61, 62, 63, 64, 65, 66] (by decide +kernel) (by decide +kernel)
set_option maxRecDepth 20000 in
theorem gX12_put_X12_keepsAct : GoodIn wsX12_put (wsV RX12 353 RX12 yX12_keepsAct wsX12_keepsAct) := goodIn_app (goodIn_of _ (by decide +kernel)) ggX12_put_X12_keepsAct
set_option maxRecDepth 20000 in
theorem ggX12_put_X12_handOf : GoodIn wsX12_put wsX12_handOf := goodIn_r _ [22, 1, 29, 30, 31, 32, 33, 34, 35, 36, 37, 38, 39, 40, 41, 42, 43, 44, 45, 46, 47, 48, 49, 50, 51, 52, 53, 54, 55, 56, 57, 58, 59, 60, 61, 62, 63, 64, 65, 66] (by decide +kernel) (by decide +kernel)
set_option maxRecDepth 20000 in
theorem gX12_put_X12_handOf : GoodIn wsX12_put (wsV RX12 306 RX12 yX12_handOf wsX12_handOf) := goodIn_app (goodIn_of _ (by decide +kernel)) ggX12_put_X12_handOf
theorem dX12_put_0 : decode cX12_put 0 = .ok (.aload_n 0, 1) := by decide +kernel
theorem dX12_put_1 : decode cX12_put 1 = .ok (.iload_n 1, 1) := by decide +kernel
theorem dX12_put_2 : decode cX12_put 2 = .ok (.invokevirtual 301, 3) := by decide +kernel
theorem dX12_put_5 : decode cX12_put 5 = .ok (.ifCond .eq 29, 3) := by decide +kernel
theorem dX12_put_8 : decode cX12_put 8 = .ok (.aload_n 0, 1) := by decide +kernel
theorem dX12_put_9 : decode cX12_put 9 = .ok (.iload_n 2, 1) := by decide +kernel
theorem dX12_put_10 : decode cX12_put 10 = .ok (.invokevirtual 312, 3) := by decide +kernel
theorem dX12_put_13 : decode cX12_put 13 = .ok (.ifCond .eq 21, 3) := by decide +kernel
theorem dX12_put_16 : decode cX12_put 16 = .ok (.aload_n 0, 1) := by decide +kernel
theorem dX12_put_17 : decode cX12_put 17 = .ok (.iload_n 2, 1) := by decide +kernel
theorem dX12_put_18 : decode cX12_put 18 = .ok (.iconst 1, 1) := by decide +kernel
theorem dX12_put_19 : decode cX12_put 19 = .ok (.invokevirtual 284, 3) := by decide +kernel
theorem dX12_put_22 : decode cX12_put 22 = .ok (.iload_n 1, 1) := by decide +kernel
theorem dX12_put_23 : decode cX12_put 23 = .ok (.if_icmp .ne 11, 3) := by decide +kernel
theorem dX12_put_26 : decode cX12_put 26 = .ok (.aload_n 0, 1) := by decide +kernel
theorem dX12_put_27 : decode cX12_put 27 = .ok (.iload_n 1, 1) := by decide +kernel
theorem dX12_put_28 : decode cX12_put 28 = .ok (.invokevirtual 359, 3) := by decide +kernel
theorem dX12_put_31 : decode cX12_put 31 = .ok (.ifCond .ne 5, 3) := by decide +kernel
theorem dX12_put_34 : decode cX12_put 34 = .ok (.iconst (-1), 1) := by decide +kernel
theorem dX12_put_35 : decode cX12_put 35 = .ok (.ireturn, 1) := by decide +kernel
theorem dX12_put_36 : decode cX12_put 36 = .ok (.aload_n 0, 1) := by decide +kernel
theorem dX12_put_37 : decode cX12_put 37 = .ok (.invokevirtual 353, 3) := by decide +kernel
theorem dX12_put_40 : decode cX12_put 40 = .ok (.aload_n 0, 1) := by decide +kernel
theorem dX12_put_41 : decode cX12_put 41 = .ok (.getfield 39, 3) := by decide +kernel
theorem dX12_put_44 : decode cX12_put 44 = .ok (.bipush 35, 2) := by decide +kernel
theorem dX12_put_46 : decode cX12_put 46 = .ok (.iconst 4, 1) := by decide +kernel
theorem dX12_put_47 : decode cX12_put 47 = .ok (.iload_n 2, 1) := by decide +kernel
theorem dX12_put_48 : decode cX12_put 48 = .ok (.imul, 1) := by decide +kernel
theorem dX12_put_49 : decode cX12_put 49 = .ok (.iadd, 1) := by decide +kernel
theorem dX12_put_50 : decode cX12_put 50 = .ok (.iconst 1, 1) := by decide +kernel
theorem dX12_put_51 : decode cX12_put 51 = .ok (.iadd, 1) := by decide +kernel
theorem dX12_put_52 : decode cX12_put 52 = .ok (.iconst (-1), 1) := by decide +kernel
theorem dX12_put_53 : decode cX12_put 53 = .ok (.iastore, 1) := by decide +kernel
theorem dX12_put_54 : decode cX12_put 54 = .ok (.aload_n 0, 1) := by decide +kernel
theorem dX12_put_55 : decode cX12_put 55 = .ok (.getfield 39, 3) := by decide +kernel
theorem dX12_put_58 : decode cX12_put 58 = .ok (.bipush 35, 2) := by decide +kernel
theorem dX12_put_60 : decode cX12_put 60 = .ok (.iconst 4, 1) := by decide +kernel
theorem dX12_put_61 : decode cX12_put 61 = .ok (.iload_n 2, 1) := by decide +kernel
theorem dX12_put_62 : decode cX12_put 62 = .ok (.imul, 1) := by decide +kernel
theorem dX12_put_63 : decode cX12_put 63 = .ok (.iadd, 1) := by decide +kernel
theorem dX12_put_64 : decode cX12_put 64 = .ok (.aload_n 0, 1) := by decide +kernel
theorem dX12_put_65 : decode cX12_put 65 = .ok (.iload_n 1, 1) := by decide +kernel
theorem dX12_put_66 : decode cX12_put 66 = .ok (.iconst 0, 1) := by decide +kernel
theorem dX12_put_67 : decode cX12_put 67 = .ok (.invokevirtual 306, 3) := by decide +kernel
theorem dX12_put_70 : decode cX12_put 70 = .ok (.iastore, 1) := by decide +kernel
theorem dX12_put_71 : decode cX12_put 71 = .ok (.aload_n 0, 1) := by decide +kernel
theorem dX12_put_72 : decode cX12_put 72 = .ok (.iload_n 1, 1) := by decide +kernel
theorem dX12_put_73 : decode cX12_put 73 = .ok (.iconst 0, 1) := by decide +kernel
theorem dX12_put_74 : decode cX12_put 74 = .ok (.invokevirtual 306, 3) := by decide +kernel
theorem dX12_put_77 : decode cX12_put 77 = .ok (.ireturn, 1) := by decide +kernel
set_option maxRecDepth 20000 in
theorem ggX12_handOn_X12_isJug : GoodIn wsX12_handOn wsX12_isJug := goodIn_r _ [5, 6, 40, 41, 42, 43, 44, 45, 46, 47, 48, 49, 50, 51, 52, 53, 54, 55, 56, 57, 58, 59, 60, 61, 62, 63, 64, 65, 66, 67, 68, 69, 70, 71, 72, 73, 74, 75, 76, 77] (by decide +kernel) (by decide +kernel)
set_option maxRecDepth 20000 in
theorem gX12_handOn_X12_isJug : GoodIn wsX12_handOn (wsV RX12 312 RX12 yX12_isJug wsX12_isJug) := goodIn_app (goodIn_of _ (by decide +kernel)) ggX12_handOn_X12_isJug
set_option maxRecDepth 20000 in
theorem ggX12_handOn_X12_isHand : GoodIn wsX12_handOn wsX12_isHand := goodIn_r _ [10, 6, 40, 41, 42, 43, 44, 45, 46, 47, 48, 49, 50, 51, 52, 53, 54, 55, 56, 57, 58, 59, 60, 61, 62, 63, 64, 65, 66, 67, 68, 69, 70, 71, 72, 73, 74, 75, 76, 77] (by decide +kernel) (by decide +kernel)
set_option maxRecDepth 20000 in
theorem gX12_handOn_X12_isHand : GoodIn wsX12_handOn (wsV RX12 301 RX12 yX12_isHand wsX12_isHand) := goodIn_app (goodIn_of _ (by decide +kernel)) ggX12_handOn_X12_isHand
set_option maxRecDepth 20000 in
theorem ggX12_handOn_X12_jugOf : GoodIn wsX12_handOn wsX12_jugOf := goodIn_r _ [14, 6, 40, 41, 42, 43, 44, 45, 46, 47, 48, 49, 50, 51, 52, 53, 54, 55, 56, 57, 58, 59, 60, 61, 62, 63, 64, 65, 66, 67, 68, 69, 70, 71, 72, 73, 74, 75, 76, 77] (by decide +kernel) (by decide +kernel)
set_option maxRecDepth 20000 in
theorem gX12_handOn_X12_jugOf : GoodIn wsX12_handOn (wsV RX12 284 RX12 yX12_jugOf wsX12_jugOf) := goodIn_app (goodIn_of _ (by decide +kernel)) ggX12_handOn_X12_jugOf
set_option maxRecDepth 20000 in
theorem ggX12_handOn_X12_isAtPlace : GoodIn wsX12_handOn wsX12_isAtPlace := goodIn_r _ [18, 19, 20, 21, 4, 22, 6, 40, 41, 42, 43, 44, 45, 46, 47, 48, 49, 50, 51, 52, 53, 54, 55, 56, 57, 58, 59, 60, 61, 62, 63, 64, 65, 66, 67, 68, 69, 70, 71, 72, 73, 74, 75, 76, 77] (by decide +kernel) (by decide +kernel)
set_option maxRecDepth 20000 in
theorem gX12_handOn_X12_isAtPlace : GoodIn wsX12_handOn (wsV RX12 359 RX12 yX12_isAtPlace wsX12_isAtPlace) := goodIn_app (goodIn_of _ (by decide +kernel)) ggX12_handOn_X12_isAtPlace
set_option maxRecDepth 20000 in
theorem ggX12_handOn_X12_handOf : GoodIn wsX12_handOn wsX12_handOf := goodIn_r _ [22, 6, 40, 41, 42, 43, 44, 45, 46, 47, 48, 49, 50, 51, 52, 53, 54, 55, 56, 57, 58, 59, 60, 61, 62, 63, 64, 65, 66, 67, 68, 69, 70, 71, 72, 73, 74, 75, 76, 77] (by decide +kernel) (by decide +kernel)
set_option maxRecDepth 20000 in
theorem gX12_handOn_X12_handOf : GoodIn wsX12_handOn (wsV RX12 306 RX12 yX12_handOf wsX12_handOf) := goodIn_app (goodIn_of _ (by decide +kernel)) ggX12_handOn_X12_handOf
set_option maxRecDepth 20000 in
theorem ggX12_handOn_X12_held : GoodIn wsX12_handOn wsX12_held := goodIn_r _ [26, 6, 11, 12, 13, 4, 14, 40, 41, 42, 43, 44, 45, 46, 47, 48, 49, 50, 51, 52, 53, 54, 55, 56, 57, 58, 59, 60, 61, 62, 63, 64, 65, 66, 67, 68, 69, 70, 71, 72, 73, 74, 75, 76, 77] (by decide +kernel) (by decide +kernel)
set_option maxRecDepth 20000 in
theorem gX12_handOn_X12_held : GoodIn wsX12_handOn (wsV RX12 309 RX12 yX12_held wsX12_held) := goodIn_app (goodIn_of _ (by decide +kernel)) ggX12_handOn_X12_held
set_option maxRecDepth 20000 in
theorem ggX12_handOn_X12_bits : GoodIn wsX12_handOn wsX12_bits := goodIn_r _ [29] (by decide +kernel) (by decide +kernel)
set_option maxRecDepth 20000 in
theorem gX12_handOn_X12_bits : GoodIn wsX12_handOn (va_wsS RX12 344 yX12_bits wsX12_bits) := goodIn_app (goodIn_of _ (by decide +kernel)) ggX12_handOn_X12_bits
set_option maxRecDepth 20000 in
theorem ggX12_handOn_X12_keepsAct : GoodIn wsX12_handOn wsX12_keepsAct := goodIn_r _ [33, 34, 35, 6, 40, 41, 42, 43, 44, 45, 46, 47, 48, 49, 50, 51, 52, 53, 54, 55, 56, 57, 58, 59, 60, 61, 62, 63, 64, 65, 66, 67, 68, 69, 70, 71, 72, 73, 74, 75, 76, 77] (by decide +kernel) (by decide +kernel)
set_option maxRecDepth 20000 in
theorem gX12_handOn_X12_keepsAct : GoodIn wsX12_handOn (wsV RX12 353 RX12 yX12_keepsAct wsX12_keepsAct) := goodIn_app (goodIn_of _ (by decide +kernel)) ggX12_handOn_X12_keepsAct
set_option maxRecDepth 20000 in
theorem ggX12_handOn_X12_takes : GoodIn wsX12_handOn wsX12_takes := goodIn_r _ [39, 6, 40, 41, 42, 43, 44, 45, 46, 47, 48, 49, 50, 51, 52, 53, 54, 55, 56, 57, 58, 59, 60, 61, 62, 63, 64, 65, 66, 67, 68, 69, 70, 71, 72, 73, 74, 75, 76, 77] (by decide +kernel) (by decide +kernel)
set_option maxRecDepth 20000 in
theorem gX12_handOn_X12_takes : GoodIn wsX12_handOn (wsV RX12 365 RX12 yX12_takes wsX12_takes) := goodIn_app (goodIn_of _ (by decide +kernel)) ggX12_handOn_X12_takes
theorem dX12_handOn_0 : decode cX12_handOn 0 = .ok (.aload_n 0, 1) := by decide +kernel
theorem dX12_handOn_1 : decode cX12_handOn 1 = .ok (.iload_n 1, 1) := by decide +kernel
theorem dX12_handOn_2 : decode cX12_handOn 2 = .ok (.invokevirtual 312, 3) := by decide +kernel
theorem dX12_handOn_5 : decode cX12_handOn 5 = .ok (.ifCond .eq 30, 3) := by decide +kernel
theorem dX12_handOn_8 : decode cX12_handOn 8 = .ok (.aload_n 0, 1) := by decide +kernel
theorem dX12_handOn_9 : decode cX12_handOn 9 = .ok (.iload_n 2, 1) := by decide +kernel
theorem dX12_handOn_10 : decode cX12_handOn 10 = .ok (.invokevirtual 301, 3) := by decide +kernel
theorem dX12_handOn_13 : decode cX12_handOn 13 = .ok (.ifCond .eq 22, 3) := by decide +kernel
theorem dX12_handOn_16 : decode cX12_handOn 16 = .ok (.aload_n 0, 1) := by decide +kernel
theorem dX12_handOn_17 : decode cX12_handOn 17 = .ok (.iload_n 1, 1) := by decide +kernel
theorem dX12_handOn_18 : decode cX12_handOn 18 = .ok (.iconst 1, 1) := by decide +kernel
theorem dX12_handOn_19 : decode cX12_handOn 19 = .ok (.invokevirtual 284, 3) := by decide +kernel
theorem dX12_handOn_22 : decode cX12_handOn 22 = .ok (.ifCond .lt 13, 3) := by decide +kernel
theorem dX12_handOn_25 : decode cX12_handOn 25 = .ok (.aload_n 0, 1) := by decide +kernel
theorem dX12_handOn_26 : decode cX12_handOn 26 = .ok (.iload_n 1, 1) := by decide +kernel
theorem dX12_handOn_27 : decode cX12_handOn 27 = .ok (.iconst 1, 1) := by decide +kernel
theorem dX12_handOn_28 : decode cX12_handOn 28 = .ok (.invokevirtual 284, 3) := by decide +kernel
theorem dX12_handOn_31 : decode cX12_handOn 31 = .ok (.iload_n 2, 1) := by decide +kernel
theorem dX12_handOn_32 : decode cX12_handOn 32 = .ok (.if_icmp .ne 5, 3) := by decide +kernel
theorem dX12_handOn_35 : decode cX12_handOn 35 = .ok (.iconst (-1), 1) := by decide +kernel
theorem dX12_handOn_36 : decode cX12_handOn 36 = .ok (.ireturn, 1) := by decide +kernel
theorem dX12_handOn_37 : decode cX12_handOn 37 = .ok (.aload_n 0, 1) := by decide +kernel
theorem dX12_handOn_38 : decode cX12_handOn 38 = .ok (.iload_n 1, 1) := by decide +kernel
theorem dX12_handOn_39 : decode cX12_handOn 39 = .ok (.iconst 1, 1) := by decide +kernel
theorem dX12_handOn_40 : decode cX12_handOn 40 = .ok (.invokevirtual 284, 3) := by decide +kernel
theorem dX12_handOn_43 : decode cX12_handOn 43 = .ok (.istore_n 3, 1) := by decide +kernel
theorem dX12_handOn_44 : decode cX12_handOn 44 = .ok (.aload_n 0, 1) := by decide +kernel
theorem dX12_handOn_45 : decode cX12_handOn 45 = .ok (.iload_n 3, 1) := by decide +kernel
theorem dX12_handOn_46 : decode cX12_handOn 46 = .ok (.invokevirtual 359, 3) := by decide +kernel
theorem dX12_handOn_49 : decode cX12_handOn 49 = .ok (.ifCond .eq 38, 3) := by decide +kernel
theorem dX12_handOn_52 : decode cX12_handOn 52 = .ok (.aload_n 0, 1) := by decide +kernel
theorem dX12_handOn_53 : decode cX12_handOn 53 = .ok (.iload_n 2, 1) := by decide +kernel
theorem dX12_handOn_54 : decode cX12_handOn 54 = .ok (.invokevirtual 359, 3) := by decide +kernel
theorem dX12_handOn_57 : decode cX12_handOn 57 = .ok (.ifCond .eq 30, 3) := by decide +kernel
theorem dX12_handOn_60 : decode cX12_handOn 60 = .ok (.aload_n 0, 1) := by decide +kernel
theorem dX12_handOn_61 : decode cX12_handOn 61 = .ok (.iload_n 3, 1) := by decide +kernel
theorem dX12_handOn_62 : decode cX12_handOn 62 = .ok (.iconst 0, 1) := by decide +kernel
theorem dX12_handOn_63 : decode cX12_handOn 63 = .ok (.invokevirtual 306, 3) := by decide +kernel
theorem dX12_handOn_66 : decode cX12_handOn 66 = .ok (.aload_n 0, 1) := by decide +kernel
theorem dX12_handOn_67 : decode cX12_handOn 67 = .ok (.iload_n 2, 1) := by decide +kernel
theorem dX12_handOn_68 : decode cX12_handOn 68 = .ok (.iconst 0, 1) := by decide +kernel
theorem dX12_handOn_69 : decode cX12_handOn 69 = .ok (.invokevirtual 306, 3) := by decide +kernel
theorem dX12_handOn_72 : decode cX12_handOn 72 = .ok (.if_icmp .ne 15, 3) := by decide +kernel
theorem dX12_handOn_75 : decode cX12_handOn 75 = .ok (.aload_n 0, 1) := by decide +kernel
theorem dX12_handOn_76 : decode cX12_handOn 76 = .ok (.iload_n 2, 1) := by decide +kernel
theorem dX12_handOn_77 : decode cX12_handOn 77 = .ok (.invokevirtual 309, 3) := by decide +kernel
theorem dX12_handOn_80 : decode cX12_handOn 80 = .ok (.invokestatic 344, 3) := by decide +kernel
theorem dX12_handOn_83 : decode cX12_handOn 83 = .ok (.iconst 2, 1) := by decide +kernel
theorem dX12_handOn_84 : decode cX12_handOn 84 = .ok (.if_icmp .ne 5, 3) := by decide +kernel
theorem dX12_handOn_87 : decode cX12_handOn 87 = .ok (.iconst (-1), 1) := by decide +kernel
theorem dX12_handOn_88 : decode cX12_handOn 88 = .ok (.ireturn, 1) := by decide +kernel
theorem dX12_handOn_89 : decode cX12_handOn 89 = .ok (.aload_n 0, 1) := by decide +kernel
theorem dX12_handOn_90 : decode cX12_handOn 90 = .ok (.invokevirtual 353, 3) := by decide +kernel
theorem dX12_handOn_93 : decode cX12_handOn 93 = .ok (.aload_n 0, 1) := by decide +kernel
theorem dX12_handOn_94 : decode cX12_handOn 94 = .ok (.iload_n 2, 1) := by decide +kernel
theorem dX12_handOn_95 : decode cX12_handOn 95 = .ok (.iload_n 1, 1) := by decide +kernel
theorem dX12_handOn_96 : decode cX12_handOn 96 = .ok (.invokevirtual 365, 3) := by decide +kernel
theorem dX12_handOn_99 : decode cX12_handOn 99 = .ok (.iload_n 3, 1) := by decide +kernel
theorem dX12_handOn_100 : decode cX12_handOn 100 = .ok (.ireturn, 1) := by decide +kernel
theorem dX12_roadOf_0 : decode cX12_roadOf 0 = .ok (.iconst 0, 1) := by decide +kernel
theorem dX12_roadOf_1 : decode cX12_roadOf 1 = .ok (.istore_n 3, 1) := by decide +kernel
theorem dX12_roadOf_2 : decode cX12_roadOf 2 = .ok (.iload_n 3, 1) := by decide +kernel
theorem dX12_roadOf_3 : decode cX12_roadOf 3 = .ok (.aload_n 0, 1) := by decide +kernel
theorem dX12_roadOf_4 : decode cX12_roadOf 4 = .ok (.getfield 39, 3) := by decide +kernel
theorem dX12_roadOf_7 : decode cX12_roadOf 7 = .ok (.iconst 3, 1) := by decide +kernel
theorem dX12_roadOf_8 : decode cX12_roadOf 8 = .ok (.iaload, 1) := by decide +kernel
theorem dX12_roadOf_9 : decode cX12_roadOf 9 = .ok (.if_icmp .ge 75, 3) := by decide +kernel
theorem dX12_roadOf_12 : decode cX12_roadOf 12 = .ok (.bipush 57, 2) := by decide +kernel
theorem dX12_roadOf_14 : decode cX12_roadOf 14 = .ok (.iconst 3, 1) := by decide +kernel
theorem dX12_roadOf_15 : decode cX12_roadOf 15 = .ok (.iload_n 3, 1) := by decide +kernel
theorem dX12_roadOf_16 : decode cX12_roadOf 16 = .ok (.imul, 1) := by decide +kernel
theorem dX12_roadOf_17 : decode cX12_roadOf 17 = .ok (.iadd, 1) := by decide +kernel
theorem dX12_roadOf_18 : decode cX12_roadOf 18 = .ok (.istore 4, 2) := by decide +kernel
theorem dX12_roadOf_20 : decode cX12_roadOf 20 = .ok (.aload_n 0, 1) := by decide +kernel
theorem dX12_roadOf_21 : decode cX12_roadOf 21 = .ok (.getfield 39, 3) := by decide +kernel
theorem dX12_roadOf_24 : decode cX12_roadOf 24 = .ok (.iload 4, 2) := by decide +kernel
theorem dX12_roadOf_26 : decode cX12_roadOf 26 = .ok (.iaload, 1) := by decide +kernel
theorem dX12_roadOf_27 : decode cX12_roadOf 27 = .ok (.iload_n 1, 1) := by decide +kernel
theorem dX12_roadOf_28 : decode cX12_roadOf 28 = .ok (.if_icmp .ne 16, 3) := by decide +kernel
theorem dX12_roadOf_31 : decode cX12_roadOf 31 = .ok (.aload_n 0, 1) := by decide +kernel
theorem dX12_roadOf_32 : decode cX12_roadOf 32 = .ok (.getfield 39, 3) := by decide +kernel
theorem dX12_roadOf_35 : decode cX12_roadOf 35 = .ok (.iload 4, 2) := by decide +kernel
theorem dX12_roadOf_37 : decode cX12_roadOf 37 = .ok (.iconst 1, 1) := by decide +kernel
theorem dX12_roadOf_38 : decode cX12_roadOf 38 = .ok (.iadd, 1) := by decide +kernel
theorem dX12_roadOf_39 : decode cX12_roadOf 39 = .ok (.iaload, 1) := by decide +kernel
theorem dX12_roadOf_40 : decode cX12_roadOf 40 = .ok (.iload_n 2, 1) := by decide +kernel
theorem dX12_roadOf_41 : decode cX12_roadOf 41 = .ok (.if_icmp .eq 27, 3) := by decide +kernel
theorem dX12_roadOf_44 : decode cX12_roadOf 44 = .ok (.aload_n 0, 1) := by decide +kernel
theorem dX12_roadOf_45 : decode cX12_roadOf 45 = .ok (.getfield 39, 3) := by decide +kernel
theorem dX12_roadOf_48 : decode cX12_roadOf 48 = .ok (.iload 4, 2) := by decide +kernel
theorem dX12_roadOf_50 : decode cX12_roadOf 50 = .ok (.iaload, 1) := by decide +kernel
theorem dX12_roadOf_51 : decode cX12_roadOf 51 = .ok (.iload_n 2, 1) := by decide +kernel
theorem dX12_roadOf_52 : decode cX12_roadOf 52 = .ok (.if_icmp .ne 26, 3) := by decide +kernel
theorem dX12_roadOf_55 : decode cX12_roadOf 55 = .ok (.aload_n 0, 1) := by decide +kernel
theorem dX12_roadOf_56 : decode cX12_roadOf 56 = .ok (.getfield 39, 3) := by decide +kernel
theorem dX12_roadOf_59 : decode cX12_roadOf 59 = .ok (.iload 4, 2) := by decide +kernel
theorem dX12_roadOf_61 : decode cX12_roadOf 61 = .ok (.iconst 1, 1) := by decide +kernel
theorem dX12_roadOf_62 : decode cX12_roadOf 62 = .ok (.iadd, 1) := by decide +kernel
theorem dX12_roadOf_63 : decode cX12_roadOf 63 = .ok (.iaload, 1) := by decide +kernel
theorem dX12_roadOf_64 : decode cX12_roadOf 64 = .ok (.iload_n 1, 1) := by decide +kernel
theorem dX12_roadOf_65 : decode cX12_roadOf 65 = .ok (.if_icmp .ne 13, 3) := by decide +kernel
theorem dX12_roadOf_68 : decode cX12_roadOf 68 = .ok (.aload_n 0, 1) := by decide +kernel
theorem dX12_roadOf_69 : decode cX12_roadOf 69 = .ok (.getfield 39, 3) := by decide +kernel
theorem dX12_roadOf_72 : decode cX12_roadOf 72 = .ok (.iload 4, 2) := by decide +kernel
theorem dX12_roadOf_74 : decode cX12_roadOf 74 = .ok (.iconst 2, 1) := by decide +kernel
theorem dX12_roadOf_75 : decode cX12_roadOf 75 = .ok (.iadd, 1) := by decide +kernel
theorem dX12_roadOf_76 : decode cX12_roadOf 76 = .ok (.iaload, 1) := by decide +kernel
theorem dX12_roadOf_77 : decode cX12_roadOf 77 = .ok (.ireturn, 1) := by decide +kernel
theorem dX12_roadOf_78 : decode cX12_roadOf 78 = .ok (.iinc 3 1, 3) := by decide +kernel
theorem dX12_roadOf_81 : decode cX12_roadOf 81 = .ok (.goto (-79), 3) := by decide +kernel
theorem dX12_roadOf_84 : decode cX12_roadOf 84 = .ok (.iconst 0, 1) := by decide +kernel
theorem dX12_roadOf_85 : decode cX12_roadOf 85 = .ok (.ireturn, 1) := by decide +kernel
set_option maxRecDepth 20000 in
theorem ggX12_canGo_X12_isAtPlace : GoodIn wsX12_canGo wsX12_isAtPlace := goodIn_r _ [5, 6, 7, 8, 4, 9, 10, 15, 16, 17, 18, 19, 20, 21, 22, 23, 24, 25, 26, 27, 28, 29, 30, 31, 32, 33, 34, 35, 36, 37, 38, 39, 40, 41, 42, 43, 44, 45, 46, 47, 48, 49, 50, 51, 52] (by decide +kernel) (by decide +kernel)
set_option maxRecDepth 20000 in
theorem gX12_canGo_X12_isAtPlace : GoodIn wsX12_canGo (wsV RX12 359 RX12 yX12_isAtPlace wsX12_isAtPlace) := goodIn_app (goodIn_of _ (by decide +kernel)) ggX12_canGo_X12_isAtPlace
set_option maxRecDepth 20000 in
theorem ggX12_canGo_X12_handOf : GoodIn wsX12_canGo wsX12_handOf := goodIn_r _ [9, 10, 15, 16, 17, 18, 19, 20, 21, 22, 23, 24, 25, 26, 27, 28, 29, 30, 31, 32, 33, 34, 35, 36, 37, 38, 39, 40, 41, 42, 43, 44, 45, 46, 47, 48, 49, 50, 51, 52] (by decide +kernel) (by decide +kernel)
set_option maxRecDepth 20000 in
theorem gX12_canGo_X12_handOf : GoodIn wsX12_canGo (wsV RX12 306 RX12 yX12_handOf wsX12_handOf) := goodIn_app (goodIn_of _ (by decide +kernel)) ggX12_canGo_X12_handOf
set_option maxRecDepth 20000 in
theorem ggX12_canGo_X12_roadOf : GoodIn wsX12_canGo wsX12_roadOf := goodIn_r _ [14, 10, 15, 16, 17, 18, 19, 20, 21, 22, 23, 24, 25, 26, 27, 28, 29, 30, 31, 32, 33, 34, 35, 36, 37, 38, 39, 40, 41, 42, 43, 44, 45, 46, 47, 48, 49, 50, 51, 52] (by decide +kernel) (by decide +kernel)
set_option maxRecDepth 20000 in
theorem gX12_canGo_X12_roadOf : GoodIn wsX12_canGo (wsV RX12 368 RX12 yX12_roadOf wsX12_roadOf) := goodIn_app (goodIn_of _ (by decide +kernel)) ggX12_canGo_X12_roadOf
theorem dX12_canGo_0 : decode cX12_canGo 0 = .ok (.aload_n 0, 1) := by decide +kernel
theorem dX12_canGo_1 : decode cX12_canGo 1 = .ok (.iload_n 1, 1) := by decide +kernel
theorem dX12_canGo_2 : decode cX12_canGo 2 = .ok (.invokevirtual 359, 3) := by decide +kernel
theorem dX12_canGo_5 : decode cX12_canGo 5 = .ok (.ifCond .eq 21, 3) := by decide +kernel
theorem dX12_canGo_8 : decode cX12_canGo 8 = .ok (.aload_n 0, 1) := by decide +kernel
theorem dX12_canGo_9 : decode cX12_canGo 9 = .ok (.aload_n 0, 1) := by decide +kernel
theorem dX12_canGo_10 : decode cX12_canGo 10 = .ok (.iload_n 1, 1) := by decide +kernel
theorem dX12_canGo_11 : decode cX12_canGo 11 = .ok (.iconst 0, 1) := by decide +kernel
theorem dX12_canGo_12 : decode cX12_canGo 12 = .ok (.invokevirtual 306, 3) := by decide +kernel
theorem dX12_canGo_15 : decode cX12_canGo 15 = .ok (.iload_n 2, 1) := by decide +kernel
theorem dX12_canGo_16 : decode cX12_canGo 16 = .ok (.invokevirtual 368, 3) := by decide +kernel
theorem dX12_canGo_19 : decode cX12_canGo 19 = .ok (.ifCond .le 7, 3) := by decide +kernel
theorem dX12_canGo_22 : decode cX12_canGo 22 = .ok (.iconst 1, 1) := by decide +kernel
theorem dX12_canGo_23 : decode cX12_canGo 23 = .ok (.goto 4, 3) := by decide +kernel
theorem dX12_canGo_26 : decode cX12_canGo 26 = .ok (.iconst 0, 1) := by decide +kernel
theorem dX12_canGo_27 : decode cX12_canGo 27 = .ok (.ireturn, 1) := by decide +kernel
set_option maxRecDepth 20000 in
theorem ggX12_goes_X12_handOf : GoodIn wsX12_goes wsX12_handOf := goodIn_r _ [6, 1, 11, 12, 13, 14, 15, 16, 17, 18, 19, 20, 21, 22, 23, 24, 25, 26, 27, 28, 29, 30, 31, 32, 33, 34, 35, 36, 37, 38, 39, 40, 41, 42, 43, 44, 45, 46, 47, 48] (by decide +kernel) (by decide +kernel)
set_option maxRecDepth 20000 in
theorem gX12_goes_X12_handOf : GoodIn wsX12_goes (wsV RX12 306 RX12 yX12_handOf wsX12_handOf) := goodIn_app (goodIn_of _ (by decide +kernel)) ggX12_goes_X12_handOf
set_option maxRecDepth 20000 in
theorem ggX12_goes_X12_roadOf : GoodIn wsX12_goes wsX12_roadOf := goodIn_r _ [10, 1, 11, 12, 13, 14, 15, 16, 17, 18, 19, 20, 21, 22, 23, 24, 25, 26, 27, 28, 29, 30, 31, 32, 33, 34, 35, 36, 37, 38, 39, 40, 41, 42, 43, 44, 45, 46, 47, 48] (by decide +kernel) (by decide +kernel)
set_option maxRecDepth 20000 in
theorem gX12_goes_X12_roadOf : GoodIn wsX12_goes (wsV RX12 368 RX12 yX12_roadOf wsX12_roadOf) := goodIn_app (goodIn_of _ (by decide +kernel)) ggX12_goes_X12_roadOf
theorem dX12_goes_0 : decode cX12_goes 0 = .ok (.aload_n 0, 1) := by decide +kernel
theorem dX12_goes_1 : decode cX12_goes 1 = .ok (.getfield 39, 3) := by decide +kernel
theorem dX12_goes_4 : decode cX12_goes 4 = .ok (.bipush 10, 2) := by decide +kernel
theorem dX12_goes_6 : decode cX12_goes 6 = .ok (.iconst 5, 1) := by decide +kernel
theorem dX12_goes_7 : decode cX12_goes 7 = .ok (.iload_n 1, 1) := by decide +kernel
theorem dX12_goes_8 : decode cX12_goes 8 = .ok (.imul, 1) := by decide +kernel
theorem dX12_goes_9 : decode cX12_goes 9 = .ok (.iadd, 1) := by decide +kernel
theorem dX12_goes_10 : decode cX12_goes 10 = .ok (.iconst 1, 1) := by decide +kernel
theorem dX12_goes_11 : decode cX12_goes 11 = .ok (.iadd, 1) := by decide +kernel
theorem dX12_goes_12 : decode cX12_goes 12 = .ok (.aload_n 0, 1) := by decide +kernel
theorem dX12_goes_13 : decode cX12_goes 13 = .ok (.aload_n 0, 1) := by decide +kernel
theorem dX12_goes_14 : decode cX12_goes 14 = .ok (.iload_n 1, 1) := by decide +kernel
theorem dX12_goes_15 : decode cX12_goes 15 = .ok (.iconst 0, 1) := by decide +kernel
theorem dX12_goes_16 : decode cX12_goes 16 = .ok (.invokevirtual 306, 3) := by decide +kernel
theorem dX12_goes_19 : decode cX12_goes 19 = .ok (.iload_n 2, 1) := by decide +kernel
theorem dX12_goes_20 : decode cX12_goes 20 = .ok (.invokevirtual 368, 3) := by decide +kernel
theorem dX12_goes_23 : decode cX12_goes 23 = .ok (.iastore, 1) := by decide +kernel
theorem dX12_goes_24 : decode cX12_goes 24 = .ok (.aload_n 0, 1) := by decide +kernel
theorem dX12_goes_25 : decode cX12_goes 25 = .ok (.getfield 39, 3) := by decide +kernel
theorem dX12_goes_28 : decode cX12_goes 28 = .ok (.bipush 10, 2) := by decide +kernel
theorem dX12_goes_30 : decode cX12_goes 30 = .ok (.iconst 5, 1) := by decide +kernel
theorem dX12_goes_31 : decode cX12_goes 31 = .ok (.iload_n 1, 1) := by decide +kernel
theorem dX12_goes_32 : decode cX12_goes 32 = .ok (.imul, 1) := by decide +kernel
theorem dX12_goes_33 : decode cX12_goes 33 = .ok (.iadd, 1) := by decide +kernel
theorem dX12_goes_34 : decode cX12_goes 34 = .ok (.iload_n 2, 1) := by decide +kernel
theorem dX12_goes_35 : decode cX12_goes 35 = .ok (.iastore, 1) := by decide +kernel
theorem dX12_goes_36 : decode cX12_goes 36 = .ok (.return_, 1) := by decide +kernel
set_option maxRecDepth 20000 in
theorem ggX12_go_X12_isHand : GoodIn wsX12_go wsX12_isHand := goodIn_r _ [5, 6, 37, 38, 39, 40, 41, 42, 43, 44, 45, 46, 47, 48, 49, 50, 51, 52, 53, 54, 55, 56, 57, 58, 59, 60, 61, 62, 63, 64, 65, 66, 67, 68, 69, 70, 71, 72, 73, 74] (by decide +kernel) (by decide +kernel)
set_option maxRecDepth 20000 in
theorem gX12_go_X12_isHand : GoodIn wsX12_go (wsV RX12 301 RX12 yX12_isHand wsX12_isHand) := goodIn_app (goodIn_of _ (by decide +kernel)) ggX12_go_X12_isHand
set_option maxRecDepth 20000 in
theorem ggX12_go_X12_isPlace : GoodIn wsX12_go wsX12_isPlace := goodIn_r _ [10, 6, 37, 38, 39, 40, 41, 42, 43, 44, 45, 46, 47, 48, 49, 50, 51, 52, 53, 54, 55, 56, 57, 58, 59, 60, 61, 62, 63, 64, 65, 66, 67, 68, 69, 70, 71, 72, 73, 74] (by decide +kernel) (by decide +kernel)
set_option maxRecDepth 20000 in
theorem gX12_go_X12_isPlace : GoodIn wsX12_go (wsV RX12 371 RX12 yX12_isPlace wsX12_isPlace) := goodIn_app (goodIn_of _ (by decide +kernel)) ggX12_go_X12_isPlace
set_option maxRecDepth 20000 in
theorem ggX12_go_X12_canGo : GoodIn wsX12_go wsX12_canGo := goodIn_r _ [14, 15, 16, 17, 4, 18, 19, 20, 21, 22, 6, 23, 24, 25, 26, 37, 38, 39, 40, 41, 42, 43, 44, 45, 46, 47, 48, 49, 50, 51, 52, 53, 54, 55, 56, 57, 58, 59, 60, 61, 62, 63, 64, 65, 66, 67, 68, 69, 70, 71, 72, 73, 74] (by decide +kernel) (by decide +kernel)
set_option maxRecDepth 20000 in
theorem gX12_go_X12_canGo : GoodIn wsX12_go (wsV RX12 374 RX12 yX12_canGo wsX12_canGo) := goodIn_app (goodIn_of _ (by decide +kernel)) ggX12_go_X12_canGo
set_option maxRecDepth 20000 in
theorem ggX12_go_X12_keepsAct : GoodIn wsX12_go wsX12_keepsAct := goodIn_r _ [30, 31, 32, 6, 37, 38, 39, 40, 41, 42, 43, 44, 45, 46, 47, 48, 49, 50, 51, 52, 53, 54, 55, 56, 57, 58, 59, 60, 61, 62, 63, 64, 65, 66, 67, 68, 69, 70, 71, 72, 73, 74] (by decide +kernel) (by decide +kernel)
set_option maxRecDepth 20000 in
theorem gX12_go_X12_keepsAct : GoodIn wsX12_go (wsV RX12 353 RX12 yX12_keepsAct wsX12_keepsAct) := goodIn_app (goodIn_of _ (by decide +kernel)) ggX12_go_X12_keepsAct
set_option maxRecDepth 20000 in
theorem ggX12_go_X12_goes : GoodIn wsX12_go wsX12_goes := goodIn_r _ [36, 6, 19, 20, 21, 4, 22, 23, 24, 25, 26, 37, 38, 39, 40, 41, 42, 43, 44, 45, 46, 47, 48, 49, 50, 51, 52, 53, 54, 55, 56, 57, 58, 59, 60, 61, 62, 63, 64, 65, 66, 67, 68, 69, 70, 71, 72, 73, 74] (by decide +kernel) (by decide +kernel)
set_option maxRecDepth 20000 in
theorem gX12_go_X12_goes : GoodIn wsX12_go (wsV RX12 377 RX12 yX12_goes wsX12_goes) := goodIn_app (goodIn_of _ (by decide +kernel)) ggX12_go_X12_goes
set_option maxRecDepth 20000 in
theorem ggX12_go_X12_handOf : GoodIn wsX12_go wsX12_handOf := goodIn_r _ [22, 6, 37, 38, 39, 40, 41, 42, 43, 44, 45, 46, 47, 48, 49, 50, 51, 52, 53, 54, 55, 56, 57, 58, 59, 60, 61, 62, 63, 64, 65, 66, 67, 68, 69, 70, 71, 72, 73, 74] (by decide +kernel) (by decide +kernel)
set_option maxRecDepth 20000 in
theorem gX12_go_X12_handOf : GoodIn wsX12_go (wsV RX12 306 RX12 yX12_handOf wsX12_handOf) := goodIn_app (goodIn_of _ (by decide +kernel)) ggX12_go_X12_handOf
theorem dX12_go_0 : decode cX12_go 0 = .ok (.aload_n 0, 1) := by decide +kernel
theorem dX12_go_1 : decode cX12_go 1 = .ok (.iload_n 1, 1) := by decide +kernel
theorem dX12_go_2 : decode cX12_go 2 = .ok (.invokevirtual 301, 3) := by decide +kernel
theorem dX12_go_5 : decode cX12_go 5 = .ok (.ifCond .eq 20, 3) := by decide +kernel
theorem dX12_go_8 : decode cX12_go 8 = .ok (.aload_n 0, 1) := by decide +kernel
theorem dX12_go_9 : decode cX12_go 9 = .ok (.iload_n 2, 1) := by decide +kernel
theorem dX12_go_10 : decode cX12_go 10 = .ok (.invokevirtual 371, 3) := by decide +kernel
theorem dX12_go_13 : decode cX12_go 13 = .ok (.ifCond .eq 12, 3) := by decide +kernel
theorem dX12_go_16 : decode cX12_go 16 = .ok (.aload_n 0, 1) := by decide +kernel
theorem dX12_go_17 : decode cX12_go 17 = .ok (.iload_n 1, 1) := by decide +kernel
theorem dX12_go_18 : decode cX12_go 18 = .ok (.iload_n 2, 1) := by decide +kernel
theorem dX12_go_19 : decode cX12_go 19 = .ok (.invokevirtual 374, 3) := by decide +kernel
theorem dX12_go_22 : decode cX12_go 22 = .ok (.ifCond .ne 5, 3) := by decide +kernel
theorem dX12_go_25 : decode cX12_go 25 = .ok (.iconst (-1), 1) := by decide +kernel
theorem dX12_go_26 : decode cX12_go 26 = .ok (.ireturn, 1) := by decide +kernel
theorem dX12_go_27 : decode cX12_go 27 = .ok (.aload_n 0, 1) := by decide +kernel
theorem dX12_go_28 : decode cX12_go 28 = .ok (.invokevirtual 353, 3) := by decide +kernel
theorem dX12_go_31 : decode cX12_go 31 = .ok (.aload_n 0, 1) := by decide +kernel
theorem dX12_go_32 : decode cX12_go 32 = .ok (.iload_n 1, 1) := by decide +kernel
theorem dX12_go_33 : decode cX12_go 33 = .ok (.iload_n 2, 1) := by decide +kernel
theorem dX12_go_34 : decode cX12_go 34 = .ok (.invokevirtual 377, 3) := by decide +kernel
theorem dX12_go_37 : decode cX12_go 37 = .ok (.aload_n 0, 1) := by decide +kernel
theorem dX12_go_38 : decode cX12_go 38 = .ok (.iload_n 1, 1) := by decide +kernel
theorem dX12_go_39 : decode cX12_go 39 = .ok (.iconst 1, 1) := by decide +kernel
theorem dX12_go_40 : decode cX12_go 40 = .ok (.invokevirtual 306, 3) := by decide +kernel
theorem dX12_go_43 : decode cX12_go 43 = .ok (.ireturn, 1) := by decide +kernel
set_option maxRecDepth 20000 in
theorem ggX12_meet_X12_isWant : GoodIn wsX12_meet wsX12_isWant := goodIn_r _ [6, 1, 32, 33, 34, 35, 36, 37, 38, 39, 40, 41, 42, 43, 44, 45, 46, 47, 48, 49, 50, 51, 52, 53, 54, 55, 56, 57, 58, 59, 60, 61, 62, 63, 64, 65, 66, 67, 68, 69] (by decide +kernel) (by decide +kernel)
set_option maxRecDepth 20000 in
theorem gX12_meet_X12_isWant : GoodIn wsX12_meet (wsV RX12 315 RX12 yX12_isWant wsX12_isWant) := goodIn_app (goodIn_of _ (by decide +kernel)) ggX12_meet_X12_isWant
set_option maxRecDepth 20000 in
theorem ggX12_meet_X12_firstFor : GoodIn wsX12_meet wsX12_firstFor := goodIn_r _ [10, 1, 11, 12, 13, 5, 14, 15, 16, 17, 18, 19, 20, 21, 22, 23, 24, 25, 32, 33, 34, 35, 36, 37, 38, 39, 40, 41, 42, 43, 44, 45, 46, 47, 48, 49, 50, 51, 52, 53, 54, 55, 56, 57, 58, 59, 60, 61, 62, 63, 64, 65, 66, 67, 68, 69] (by decide +kernel) (by decide +kernel)
set_option maxRecDepth 20000 in
theorem gX12_meet_X12_firstFor : GoodIn wsX12_meet (wsV RX12 318 RX12 yX12_firstFor wsX12_firstFor) := goodIn_app (goodIn_of _ (by decide +kernel)) ggX12_meet_X12_firstFor
set_option maxRecDepth 20000 in
theorem ggX12_meet_X12_keepsAct : GoodIn wsX12_meet wsX12_keepsAct := goodIn_r _ [29, 30, 31, 1, 32, 33, 34, 35, 36, 37, 38, 39, 40, 41, 42, 43, 44, 45, 46, 47, 48, 49, 50, 51, 52, 53, 54, 55, 56, 57, 58, 59, 60, 61, 62, 63, 64, 65, 66, 67, 68, 69] (by decide +kernel) (by decide +kernel)
set_option maxRecDepth 20000 in
theorem gX12_meet_X12_keepsAct : GoodIn wsX12_meet (wsV RX12 353 RX12 yX12_keepsAct wsX12_keepsAct) := goodIn_app (goodIn_of _ (by decide +kernel)) ggX12_meet_X12_keepsAct
set_option maxRecDepth 20000 in
theorem ggX12_meet_X12_wantOf : GoodIn wsX12_meet wsX12_wantOf := goodIn_r _ [22, 1, 32, 33, 34, 35, 36, 37, 38, 39, 40, 41, 42, 43, 44, 45, 46, 47, 48, 49, 50, 51, 52, 53, 54, 55, 56, 57, 58, 59, 60, 61, 62, 63, 64, 65, 66, 67, 68, 69] (by decide +kernel) (by decide +kernel)
set_option maxRecDepth 20000 in
theorem gX12_meet_X12_wantOf : GoodIn wsX12_meet (wsV RX12 295 RX12 yX12_wantOf wsX12_wantOf) := goodIn_app (goodIn_of _ (by decide +kernel)) ggX12_meet_X12_wantOf
theorem dX12_meet_0 : decode cX12_meet 0 = .ok (.aload_n 0, 1) := by decide +kernel
theorem dX12_meet_1 : decode cX12_meet 1 = .ok (.iload_n 1, 1) := by decide +kernel
theorem dX12_meet_2 : decode cX12_meet 2 = .ok (.invokevirtual 315, 3) := by decide +kernel
theorem dX12_meet_5 : decode cX12_meet 5 = .ok (.ifCond .ne 5, 3) := by decide +kernel
theorem dX12_meet_8 : decode cX12_meet 8 = .ok (.iconst (-1), 1) := by decide +kernel
theorem dX12_meet_9 : decode cX12_meet 9 = .ok (.ireturn, 1) := by decide +kernel
theorem dX12_meet_10 : decode cX12_meet 10 = .ok (.aload_n 0, 1) := by decide +kernel
theorem dX12_meet_11 : decode cX12_meet 11 = .ok (.iload_n 1, 1) := by decide +kernel
theorem dX12_meet_12 : decode cX12_meet 12 = .ok (.invokevirtual 318, 3) := by decide +kernel
theorem dX12_meet_15 : decode cX12_meet 15 = .ok (.istore_n 2, 1) := by decide +kernel
theorem dX12_meet_16 : decode cX12_meet 16 = .ok (.iload_n 2, 1) := by decide +kernel
theorem dX12_meet_17 : decode cX12_meet 17 = .ok (.ifCond .ge 5, 3) := by decide +kernel
theorem dX12_meet_20 : decode cX12_meet 20 = .ok (.iconst (-1), 1) := by decide +kernel
theorem dX12_meet_21 : decode cX12_meet 21 = .ok (.ireturn, 1) := by decide +kernel
theorem dX12_meet_22 : decode cX12_meet 22 = .ok (.aload_n 0, 1) := by decide +kernel
theorem dX12_meet_23 : decode cX12_meet 23 = .ok (.invokevirtual 353, 3) := by decide +kernel
theorem dX12_meet_26 : decode cX12_meet 26 = .ok (.aload_n 0, 1) := by decide +kernel
theorem dX12_meet_27 : decode cX12_meet 27 = .ok (.getfield 39, 3) := by decide +kernel
theorem dX12_meet_30 : decode cX12_meet 30 = .ok (.bipush 35, 2) := by decide +kernel
theorem dX12_meet_32 : decode cX12_meet 32 = .ok (.iconst 4, 1) := by decide +kernel
theorem dX12_meet_33 : decode cX12_meet 33 = .ok (.iload_n 2, 1) := by decide +kernel
theorem dX12_meet_34 : decode cX12_meet 34 = .ok (.imul, 1) := by decide +kernel
theorem dX12_meet_35 : decode cX12_meet 35 = .ok (.iadd, 1) := by decide +kernel
theorem dX12_meet_36 : decode cX12_meet 36 = .ok (.iconst 3, 1) := by decide +kernel
theorem dX12_meet_37 : decode cX12_meet 37 = .ok (.iadd, 1) := by decide +kernel
theorem dX12_meet_38 : decode cX12_meet 38 = .ok (.iconst 1, 1) := by decide +kernel
theorem dX12_meet_39 : decode cX12_meet 39 = .ok (.iastore, 1) := by decide +kernel
theorem dX12_meet_40 : decode cX12_meet 40 = .ok (.aload_n 0, 1) := by decide +kernel
theorem dX12_meet_41 : decode cX12_meet 41 = .ok (.getfield 39, 3) := by decide +kernel
theorem dX12_meet_44 : decode cX12_meet 44 = .ok (.bipush 51, 2) := by decide +kernel
theorem dX12_meet_46 : decode cX12_meet 46 = .ok (.iload_n 1, 1) := by decide +kernel
theorem dX12_meet_47 : decode cX12_meet 47 = .ok (.iadd, 1) := by decide +kernel
theorem dX12_meet_48 : decode cX12_meet 48 = .ok (.aload_n 0, 1) := by decide +kernel
theorem dX12_meet_49 : decode cX12_meet 49 = .ok (.getfield 39, 3) := by decide +kernel
theorem dX12_meet_52 : decode cX12_meet 52 = .ok (.bipush 7, 2) := by decide +kernel
theorem dX12_meet_54 : decode cX12_meet 54 = .ok (.iaload, 1) := by decide +kernel
theorem dX12_meet_55 : decode cX12_meet 55 = .ok (.iastore, 1) := by decide +kernel
theorem dX12_meet_56 : decode cX12_meet 56 = .ok (.aload_n 0, 1) := by decide +kernel
theorem dX12_meet_57 : decode cX12_meet 57 = .ok (.getfield 39, 3) := by decide +kernel
theorem dX12_meet_60 : decode cX12_meet 60 = .ok (.bipush 8, 2) := by decide +kernel
theorem dX12_meet_62 : decode cX12_meet 62 = .ok (.dup2, 1) := by decide +kernel
theorem dX12_meet_63 : decode cX12_meet 63 = .ok (.iaload, 1) := by decide +kernel
theorem dX12_meet_64 : decode cX12_meet 64 = .ok (.aload_n 0, 1) := by decide +kernel
theorem dX12_meet_65 : decode cX12_meet 65 = .ok (.iload_n 1, 1) := by decide +kernel
theorem dX12_meet_66 : decode cX12_meet 66 = .ok (.iconst 3, 1) := by decide +kernel
theorem dX12_meet_67 : decode cX12_meet 67 = .ok (.invokevirtual 295, 3) := by decide +kernel
theorem dX12_meet_70 : decode cX12_meet 70 = .ok (.iadd, 1) := by decide +kernel
theorem dX12_meet_71 : decode cX12_meet 71 = .ok (.iastore, 1) := by decide +kernel
theorem dX12_meet_72 : decode cX12_meet 72 = .ok (.iload_n 2, 1) := by decide +kernel
theorem dX12_meet_73 : decode cX12_meet 73 = .ok (.ireturn, 1) := by decide +kernel
theorem dX12_keeps_0 : decode cX12_keeps 0 = .ok (.iconst 0, 1) := by decide +kernel
theorem dX12_keeps_1 : decode cX12_keeps 1 = .ok (.istore_n 1, 1) := by decide +kernel
theorem dX12_keeps_2 : decode cX12_keeps 2 = .ok (.iload_n 1, 1) := by decide +kernel
theorem dX12_keeps_3 : decode cX12_keeps 3 = .ok (.bipush 57, 2) := by decide +kernel
theorem dX12_keeps_5 : decode cX12_keeps 5 = .ok (.if_icmp .ge 21, 3) := by decide +kernel
theorem dX12_keeps_8 : decode cX12_keeps 8 = .ok (.aload_n 0, 1) := by decide +kernel
theorem dX12_keeps_9 : decode cX12_keeps 9 = .ok (.getfield 49, 3) := by decide +kernel
theorem dX12_keeps_12 : decode cX12_keeps 12 = .ok (.iload_n 1, 1) := by decide +kernel
theorem dX12_keeps_13 : decode cX12_keeps 13 = .ok (.aload_n 0, 1) := by decide +kernel
theorem dX12_keeps_14 : decode cX12_keeps 14 = .ok (.getfield 39, 3) := by decide +kernel
theorem dX12_keeps_17 : decode cX12_keeps 17 = .ok (.iload_n 1, 1) := by decide +kernel
theorem dX12_keeps_18 : decode cX12_keeps 18 = .ok (.iaload, 1) := by decide +kernel
theorem dX12_keeps_19 : decode cX12_keeps 19 = .ok (.iastore, 1) := by decide +kernel
theorem dX12_keeps_20 : decode cX12_keeps 20 = .ok (.iinc 1 1, 3) := by decide +kernel
theorem dX12_keeps_23 : decode cX12_keeps 23 = .ok (.goto (-21), 3) := by decide +kernel
theorem dX12_keeps_26 : decode cX12_keeps 26 = .ok (.return_, 1) := by decide +kernel
theorem dX12_laysBack_0 : decode cX12_laysBack 0 = .ok (.iconst 0, 1) := by decide +kernel
theorem dX12_laysBack_1 : decode cX12_laysBack 1 = .ok (.istore_n 1, 1) := by decide +kernel
theorem dX12_laysBack_2 : decode cX12_laysBack 2 = .ok (.iload_n 1, 1) := by decide +kernel
theorem dX12_laysBack_3 : decode cX12_laysBack 3 = .ok (.bipush 57, 2) := by decide +kernel
theorem dX12_laysBack_5 : decode cX12_laysBack 5 = .ok (.if_icmp .ge 21, 3) := by decide +kernel
theorem dX12_laysBack_8 : decode cX12_laysBack 8 = .ok (.aload_n 0, 1) := by decide +kernel
theorem dX12_laysBack_9 : decode cX12_laysBack 9 = .ok (.getfield 39, 3) := by decide +kernel
theorem dX12_laysBack_12 : decode cX12_laysBack 12 = .ok (.iload_n 1, 1) := by decide +kernel
theorem dX12_laysBack_13 : decode cX12_laysBack 13 = .ok (.aload_n 0, 1) := by decide +kernel
theorem dX12_laysBack_14 : decode cX12_laysBack 14 = .ok (.getfield 49, 3) := by decide +kernel
theorem dX12_laysBack_17 : decode cX12_laysBack 17 = .ok (.iload_n 1, 1) := by decide +kernel
theorem dX12_laysBack_18 : decode cX12_laysBack 18 = .ok (.iaload, 1) := by decide +kernel
theorem dX12_laysBack_19 : decode cX12_laysBack 19 = .ok (.iastore, 1) := by decide +kernel
theorem dX12_laysBack_20 : decode cX12_laysBack 20 = .ok (.iinc 1 1, 3) := by decide +kernel
theorem dX12_laysBack_23 : decode cX12_laysBack 23 = .ok (.goto (-21), 3) := by decide +kernel
theorem dX12_laysBack_26 : decode cX12_laysBack 26 = .ok (.return_, 1) := by decide +kernel
set_option maxRecDepth 20000 in
theorem ggX12_ahead_X12_in : GoodIn wsX12_ahead wsX12_in := goodIn_r _ [5] (by decide +kernel) (by decide +kernel)
set_option maxRecDepth 20000 in
theorem gX12_ahead_X12_in : GoodIn wsX12_ahead (va_wsS RX12 118 yX12_in wsX12_in) := goodIn_app (goodIn_of _ (by decide +kernel)) ggX12_ahead_X12_in
set_option maxRecDepth 20000 in
theorem ggX12_ahead_X12_isJug : GoodIn wsX12_ahead wsX12_isJug := goodIn_r _ [9, 10, 90, 91, 92, 93, 94, 95, 96, 97, 98, 99, 100, 101, 102, 103, 104, 105, 106, 107, 108, 109, 110, 111, 112, 113, 114, 115, 116, 117, 118, 119, 120, 121, 122, 123, 124, 125, 126, 127] (by decide +kernel) (by decide +kernel)
set_option maxRecDepth 20000 in
theorem gX12_ahead_X12_isJug : GoodIn wsX12_ahead (wsV RX12 312 RX12 yX12_isJug wsX12_isJug) := goodIn_app (goodIn_of _ (by decide +kernel)) ggX12_ahead_X12_isJug
set_option maxRecDepth 20000 in
theorem ggX12_ahead_X12_isHand : GoodIn wsX12_ahead wsX12_isHand := goodIn_r _ [14, 10, 90, 91, 92, 93, 94, 95, 96, 97, 98, 99, 100, 101, 102, 103, 104, 105, 106, 107, 108, 109, 110, 111, 112, 113, 114, 115, 116, 117, 118, 119, 120, 121, 122, 123, 124, 125, 126, 127] (by decide +kernel) (by decide +kernel)
set_option maxRecDepth 20000 in
theorem gX12_ahead_X12_isHand : GoodIn wsX12_ahead (wsV RX12 301 RX12 yX12_isHand wsX12_isHand) := goodIn_app (goodIn_of _ (by decide +kernel)) ggX12_ahead_X12_isHand
set_option maxRecDepth 20000 in
theorem ggX12_ahead_X12_keeps : GoodIn wsX12_ahead wsX12_keeps := goodIn_r _ [18, 19, 10, 90, 91, 92, 93, 94, 95, 96, 97, 98, 99, 100, 101, 102, 103, 104, 105, 106, 107, 108, 109, 110, 111, 112, 113, 114, 115, 116, 117, 118, 119, 120, 121, 122, 123, 124, 125, 126, 127] (by decide +kernel) (by decide +kernel)
set_option maxRecDepth 20000 in
theorem gX12_ahead_X12_keeps : GoodIn wsX12_ahead (wsV RX12 382 RX12 yX12_keeps wsX12_keeps) := goodIn_app (goodIn_of _ (by decide +kernel)) ggX12_ahead_X12_keeps
set_option maxRecDepth 20000 in
theorem ggX12_ahead_X12_passes : GoodIn wsX12_ahead wsX12_passes := goodIn_r _ [23, 10, 24, 25, 26, 4, 27, 28, 29, 30, 31, 32, 33, 34, 35, 36, 37, 38, 39, 40, 41, 42, 43, 44, 45, 46, 47, 48, 49, 50, 51, 52, 53, 54, 55, 56, 57, 58, 59, 60, 61, 62, 63, 64, 65, 66, 67, 68, 69, 70, 71, 72, 73, 74, 75, 76, 77, 78, 79, 80, 81, 82, 83, 84, 85, 90, 91, 92, 93, 94, 95, 96, 97, 98, 99, 100, 101, 102, 103, 104, 105, 106, 107, 108, 109, 110, 111, 112, 113, 114, 115, 116, 117, 118, 119, 120, 121, 122, 123, 124, 125, 126, 127] (by decide +kernel) (by decide +kernel)
set_option maxRecDepth 20000 in
theorem gX12_ahead_X12_passes : GoodIn wsX12_ahead (wsV RX12 356 RX12 yX12_passes wsX12_passes) := goodIn_app (goodIn_of _ (by decide +kernel)) ggX12_ahead_X12_passes
set_option maxRecDepth 20000 in
theorem ggX12_ahead_X12_handOf : GoodIn wsX12_ahead wsX12_handOf := goodIn_r _ [40, 10, 90, 91, 92, 93, 94, 95, 96, 97, 98, 99, 100, 101, 102, 103, 104, 105, 106, 107, 108, 109, 110, 111, 112, 113, 114, 115, 116, 117, 118, 119, 120, 121, 122, 123, 124, 125, 126, 127] (by decide +kernel) (by decide +kernel)
set_option maxRecDepth 20000 in
theorem gX12_ahead_X12_handOf : GoodIn wsX12_ahead (wsV RX12 306 RX12 yX12_handOf wsX12_handOf) := goodIn_app (goodIn_of _ (by decide +kernel)) ggX12_ahead_X12_handOf
set_option maxRecDepth 20000 in
theorem ggX12_ahead_X12_jugOf : GoodIn wsX12_ahead wsX12_jugOf := goodIn_r _ [27, 10, 90, 91, 92, 93, 94, 95, 96, 97, 98, 99, 100, 101, 102, 103, 104, 105, 106, 107, 108, 109, 110, 111, 112, 113, 114, 115, 116, 117, 118, 119, 120, 121, 122, 123, 124, 125, 126, 127] (by decide +kernel) (by decide +kernel)
set_option maxRecDepth 20000 in
theorem gX12_ahead_X12_jugOf : GoodIn wsX12_ahead (wsV RX12 284 RX12 yX12_jugOf wsX12_jugOf) := goodIn_app (goodIn_of _ (by decide +kernel)) ggX12_ahead_X12_jugOf
set_option maxRecDepth 20000 in
theorem ggX12_ahead_X12_laysBack : GoodIn wsX12_ahead wsX12_laysBack := goodIn_r _ [89, 10, 19, 90, 91, 92, 93, 94, 95, 96, 97, 98, 99, 100, 101, 102, 103, 104, 105, 106, 107, 108, 109, 110, 111, 112, 113, 114, 115, 116, 117, 118, 119, 120, 121, 122, 123, 124, 125, 126, 127] (by decide +kernel) (by decide +kernel)
set_option maxRecDepth 20000 in
theorem gX12_ahead_X12_laysBack : GoodIn wsX12_ahead (wsV RX12 385 RX12 yX12_laysBack wsX12_laysBack) := goodIn_app (goodIn_of _ (by decide +kernel)) ggX12_ahead_X12_laysBack
theorem dX12_ahead_0 : decode cX12_ahead 0 = .ok (.iload_n 2, 1) := by decide +kernel
theorem dX12_ahead_1 : decode cX12_ahead 1 = .ok (.i2l, 1) := by decide +kernel
theorem dX12_ahead_2 : decode cX12_ahead 2 = .ok (.lconst 0, 1) := by decide +kernel
theorem dX12_ahead_3 : decode cX12_ahead 3 = .ok (.ldc2_w 380, 3) := by decide +kernel
theorem dX12_ahead_6 : decode cX12_ahead 6 = .ok (.invokestatic 118, 3) := by decide +kernel
theorem dX12_ahead_9 : decode cX12_ahead 9 = .ok (.ifCond .eq 36, 3) := by decide +kernel
theorem dX12_ahead_12 : decode cX12_ahead 12 = .ok (.iload_n 3, 1) := by decide +kernel
theorem dX12_ahead_13 : decode cX12_ahead 13 = .ok (.i2l, 1) := by decide +kernel
theorem dX12_ahead_14 : decode cX12_ahead 14 = .ok (.lconst 0, 1) := by decide +kernel
theorem dX12_ahead_15 : decode cX12_ahead 15 = .ok (.lconst 1, 1) := by decide +kernel
theorem dX12_ahead_16 : decode cX12_ahead 16 = .ok (.invokestatic 118, 3) := by decide +kernel
theorem dX12_ahead_19 : decode cX12_ahead 19 = .ok (.ifCond .eq 26, 3) := by decide +kernel
theorem dX12_ahead_22 : decode cX12_ahead 22 = .ok (.iload_n 3, 1) := by decide +kernel
theorem dX12_ahead_23 : decode cX12_ahead 23 = .ok (.ifCond .ne 14, 3) := by decide +kernel
theorem dX12_ahead_26 : decode cX12_ahead 26 = .ok (.aload_n 0, 1) := by decide +kernel
theorem dX12_ahead_27 : decode cX12_ahead 27 = .ok (.iload_n 1, 1) := by decide +kernel
theorem dX12_ahead_28 : decode cX12_ahead 28 = .ok (.invokevirtual 312, 3) := by decide +kernel
theorem dX12_ahead_31 : decode cX12_ahead 31 = .ok (.ifCond .ne 17, 3) := by decide +kernel
theorem dX12_ahead_34 : decode cX12_ahead 34 = .ok (.goto 11, 3) := by decide +kernel
theorem dX12_ahead_37 : decode cX12_ahead 37 = .ok (.aload_n 0, 1) := by decide +kernel
theorem dX12_ahead_38 : decode cX12_ahead 38 = .ok (.iload_n 1, 1) := by decide +kernel
theorem dX12_ahead_39 : decode cX12_ahead 39 = .ok (.invokevirtual 301, 3) := by decide +kernel
theorem dX12_ahead_42 : decode cX12_ahead 42 = .ok (.ifCond .ne 6, 3) := by decide +kernel
theorem dX12_ahead_45 : decode cX12_ahead 45 = .ok (.bipush (-2), 2) := by decide +kernel
theorem dX12_ahead_47 : decode cX12_ahead 47 = .ok (.ireturn, 1) := by decide +kernel
theorem dX12_ahead_48 : decode cX12_ahead 48 = .ok (.aload_n 0, 1) := by decide +kernel
theorem dX12_ahead_49 : decode cX12_ahead 49 = .ok (.invokevirtual 382, 3) := by decide +kernel
theorem dX12_ahead_52 : decode cX12_ahead 52 = .ok (.iconst 0, 1) := by decide +kernel
theorem dX12_ahead_53 : decode cX12_ahead 53 = .ok (.istore 4, 2) := by decide +kernel
theorem dX12_ahead_55 : decode cX12_ahead 55 = .ok (.iload 4, 2) := by decide +kernel
theorem dX12_ahead_57 : decode cX12_ahead 57 = .ok (.iload_n 2, 1) := by decide +kernel
theorem dX12_ahead_58 : decode cX12_ahead 58 = .ok (.if_icmp .ge 14, 3) := by decide +kernel
theorem dX12_ahead_61 : decode cX12_ahead 61 = .ok (.aload_n 0, 1) := by decide +kernel
theorem dX12_ahead_62 : decode cX12_ahead 62 = .ok (.invokevirtual 356, 3) := by decide +kernel
theorem dX12_ahead_65 : decode cX12_ahead 65 = .ok (.pop, 1) := by decide +kernel
theorem dX12_ahead_66 : decode cX12_ahead 66 = .ok (.iinc 4 1, 3) := by decide +kernel
theorem dX12_ahead_69 : decode cX12_ahead 69 = .ok (.goto (-14), 3) := by decide +kernel
theorem dX12_ahead_72 : decode cX12_ahead 72 = .ok (.iload_n 3, 1) := by decide +kernel
theorem dX12_ahead_73 : decode cX12_ahead 73 = .ok (.iconst 1, 1) := by decide +kernel
theorem dX12_ahead_74 : decode cX12_ahead 74 = .ok (.if_icmp .ne 12, 3) := by decide +kernel
theorem dX12_ahead_77 : decode cX12_ahead 77 = .ok (.aload_n 0, 1) := by decide +kernel
theorem dX12_ahead_78 : decode cX12_ahead 78 = .ok (.iload_n 1, 1) := by decide +kernel
theorem dX12_ahead_79 : decode cX12_ahead 79 = .ok (.iconst 2, 1) := by decide +kernel
theorem dX12_ahead_80 : decode cX12_ahead 80 = .ok (.invokevirtual 306, 3) := by decide +kernel
theorem dX12_ahead_83 : decode cX12_ahead 83 = .ok (.goto 23, 3) := by decide +kernel
theorem dX12_ahead_86 : decode cX12_ahead 86 = .ok (.aload_n 0, 1) := by decide +kernel
theorem dX12_ahead_87 : decode cX12_ahead 87 = .ok (.iload_n 1, 1) := by decide +kernel
theorem dX12_ahead_88 : decode cX12_ahead 88 = .ok (.iconst 3, 1) := by decide +kernel
theorem dX12_ahead_89 : decode cX12_ahead 89 = .ok (.invokevirtual 284, 3) := by decide +kernel
theorem dX12_ahead_92 : decode cX12_ahead 92 = .ok (.iconst 1, 1) := by decide +kernel
theorem dX12_ahead_93 : decode cX12_ahead 93 = .ok (.if_icmp .ne 7, 3) := by decide +kernel
theorem dX12_ahead_96 : decode cX12_ahead 96 = .ok (.iconst (-1), 1) := by decide +kernel
theorem dX12_ahead_97 : decode cX12_ahead 97 = .ok (.goto 9, 3) := by decide +kernel
theorem dX12_ahead_100 : decode cX12_ahead 100 = .ok (.aload_n 0, 1) := by decide +kernel
theorem dX12_ahead_101 : decode cX12_ahead 101 = .ok (.iload_n 1, 1) := by decide +kernel
theorem dX12_ahead_102 : decode cX12_ahead 102 = .ok (.iconst 2, 1) := by decide +kernel
theorem dX12_ahead_103 : decode cX12_ahead 103 = .ok (.invokevirtual 284, 3) := by decide +kernel
theorem dX12_ahead_106 : decode cX12_ahead 106 = .ok (.istore 4, 2) := by decide +kernel
theorem dX12_ahead_108 : decode cX12_ahead 108 = .ok (.aload_n 0, 1) := by decide +kernel
theorem dX12_ahead_109 : decode cX12_ahead 109 = .ok (.invokevirtual 385, 3) := by decide +kernel
theorem dX12_ahead_112 : decode cX12_ahead 112 = .ok (.iload 4, 2) := by decide +kernel
theorem dX12_ahead_114 : decode cX12_ahead 114 = .ok (.ireturn, 1) := by decide +kernel
set_option maxRecDepth 20000 in
theorem ggX12_fillsHours_X12_roadOf : GoodIn wsX12_fillsHours wsX12_roadOf := goodIn_r _ [7, 1, 8, 9, 10, 11, 12, 13, 14, 15, 16, 17, 18, 19, 20, 21, 22, 23, 24, 25, 26, 27, 28, 29, 30, 31, 32, 33, 34, 35, 36, 37, 38, 39, 40, 41, 42, 43, 44, 45] (by decide +kernel) (by decide +kernel)
set_option maxRecDepth 20000 in
theorem gX12_fillsHours_X12_roadOf : GoodIn wsX12_fillsHours (wsV RX12 368 RX12 yX12_roadOf wsX12_roadOf) := goodIn_app (goodIn_of _ (by decide +kernel)) ggX12_fillsHours_X12_roadOf
theorem dX12_fillsHours_0 : decode cX12_fillsHours 0 = .ok (.iconst 0, 1) := by decide +kernel
theorem dX12_fillsHours_1 : decode cX12_fillsHours 1 = .ok (.istore_n 2, 1) := by decide +kernel
theorem dX12_fillsHours_2 : decode cX12_fillsHours 2 = .ok (.iload_n 2, 1) := by decide +kernel
theorem dX12_fillsHours_3 : decode cX12_fillsHours 3 = .ok (.aload_n 0, 1) := by decide +kernel
theorem dX12_fillsHours_4 : decode cX12_fillsHours 4 = .ok (.getfield 39, 3) := by decide +kernel
theorem dX12_fillsHours_7 : decode cX12_fillsHours 7 = .ok (.iconst 0, 1) := by decide +kernel
theorem dX12_fillsHours_8 : decode cX12_fillsHours 8 = .ok (.iaload, 1) := by decide +kernel
theorem dX12_fillsHours_9 : decode cX12_fillsHours 9 = .ok (.if_icmp .ge 26, 3) := by decide +kernel
theorem dX12_fillsHours_12 : decode cX12_fillsHours 12 = .ok (.aload_n 0, 1) := by decide +kernel
theorem dX12_fillsHours_13 : decode cX12_fillsHours 13 = .ok (.getfield 52, 3) := by decide +kernel
theorem dX12_fillsHours_16 : decode cX12_fillsHours 16 = .ok (.iload_n 2, 1) := by decide +kernel
theorem dX12_fillsHours_17 : decode cX12_fillsHours 17 = .ok (.iload_n 2, 1) := by decide +kernel
theorem dX12_fillsHours_18 : decode cX12_fillsHours 18 = .ok (.iload_n 1, 1) := by decide +kernel
theorem dX12_fillsHours_19 : decode cX12_fillsHours 19 = .ok (.if_icmp .ne 7, 3) := by decide +kernel
theorem dX12_fillsHours_22 : decode cX12_fillsHours 22 = .ok (.iconst 0, 1) := by decide +kernel
theorem dX12_fillsHours_23 : decode cX12_fillsHours 23 = .ok (.goto 5, 3) := by decide +kernel
theorem dX12_fillsHours_26 : decode cX12_fillsHours 26 = .ok (.bipush 99, 2) := by decide +kernel
theorem dX12_fillsHours_28 : decode cX12_fillsHours 28 = .ok (.iastore, 1) := by decide +kernel
theorem dX12_fillsHours_29 : decode cX12_fillsHours 29 = .ok (.iinc 2 1, 3) := by decide +kernel
theorem dX12_fillsHours_32 : decode cX12_fillsHours 32 = .ok (.goto (-30), 3) := by decide +kernel
theorem dX12_fillsHours_35 : decode cX12_fillsHours 35 = .ok (.iconst 1, 1) := by decide +kernel
theorem dX12_fillsHours_36 : decode cX12_fillsHours 36 = .ok (.istore_n 2, 1) := by decide +kernel
theorem dX12_fillsHours_37 : decode cX12_fillsHours 37 = .ok (.iload_n 2, 1) := by decide +kernel
theorem dX12_fillsHours_38 : decode cX12_fillsHours 38 = .ok (.ifCond .eq 100, 3) := by decide +kernel
theorem dX12_fillsHours_41 : decode cX12_fillsHours 41 = .ok (.iconst 0, 1) := by decide +kernel
theorem dX12_fillsHours_42 : decode cX12_fillsHours 42 = .ok (.istore_n 2, 1) := by decide +kernel
theorem dX12_fillsHours_43 : decode cX12_fillsHours 43 = .ok (.iconst 0, 1) := by decide +kernel
theorem dX12_fillsHours_44 : decode cX12_fillsHours 44 = .ok (.istore_n 3, 1) := by decide +kernel
theorem dX12_fillsHours_45 : decode cX12_fillsHours 45 = .ok (.iload_n 3, 1) := by decide +kernel
theorem dX12_fillsHours_46 : decode cX12_fillsHours 46 = .ok (.aload_n 0, 1) := by decide +kernel
theorem dX12_fillsHours_47 : decode cX12_fillsHours 47 = .ok (.getfield 39, 3) := by decide +kernel
theorem dX12_fillsHours_50 : decode cX12_fillsHours 50 = .ok (.iconst 0, 1) := by decide +kernel
theorem dX12_fillsHours_51 : decode cX12_fillsHours 51 = .ok (.iaload, 1) := by decide +kernel
theorem dX12_fillsHours_52 : decode cX12_fillsHours 52 = .ok (.if_icmp .ge 83, 3) := by decide +kernel
theorem dX12_fillsHours_55 : decode cX12_fillsHours 55 = .ok (.iconst 0, 1) := by decide +kernel
theorem dX12_fillsHours_56 : decode cX12_fillsHours 56 = .ok (.istore 4, 2) := by decide +kernel
theorem dX12_fillsHours_58 : decode cX12_fillsHours 58 = .ok (.iload 4, 2) := by decide +kernel
theorem dX12_fillsHours_60 : decode cX12_fillsHours 60 = .ok (.aload_n 0, 1) := by decide +kernel
theorem dX12_fillsHours_61 : decode cX12_fillsHours 61 = .ok (.getfield 39, 3) := by decide +kernel
theorem dX12_fillsHours_64 : decode cX12_fillsHours 64 = .ok (.iconst 0, 1) := by decide +kernel
theorem dX12_fillsHours_65 : decode cX12_fillsHours 65 = .ok (.iaload, 1) := by decide +kernel
theorem dX12_fillsHours_66 : decode cX12_fillsHours 66 = .ok (.if_icmp .ge 63, 3) := by decide +kernel
theorem dX12_fillsHours_69 : decode cX12_fillsHours 69 = .ok (.aload_n 0, 1) := by decide +kernel
theorem dX12_fillsHours_70 : decode cX12_fillsHours 70 = .ok (.iload_n 3, 1) := by decide +kernel
theorem dX12_fillsHours_71 : decode cX12_fillsHours 71 = .ok (.iload 4, 2) := by decide +kernel
theorem dX12_fillsHours_73 : decode cX12_fillsHours 73 = .ok (.invokevirtual 368, 3) := by decide +kernel
theorem dX12_fillsHours_76 : decode cX12_fillsHours 76 = .ok (.istore 5, 2) := by decide +kernel
theorem dX12_fillsHours_78 : decode cX12_fillsHours 78 = .ok (.iload 5, 2) := by decide +kernel
theorem dX12_fillsHours_80 : decode cX12_fillsHours 80 = .ok (.ifCond .eq 43, 3) := by decide +kernel
theorem dX12_fillsHours_83 : decode cX12_fillsHours 83 = .ok (.aload_n 0, 1) := by decide +kernel
theorem dX12_fillsHours_84 : decode cX12_fillsHours 84 = .ok (.getfield 52, 3) := by decide +kernel
theorem dX12_fillsHours_87 : decode cX12_fillsHours 87 = .ok (.iload 4, 2) := by decide +kernel
theorem dX12_fillsHours_89 : decode cX12_fillsHours 89 = .ok (.iaload, 1) := by decide +kernel
theorem dX12_fillsHours_90 : decode cX12_fillsHours 90 = .ok (.iload 5, 2) := by decide +kernel
theorem dX12_fillsHours_92 : decode cX12_fillsHours 92 = .ok (.iadd, 1) := by decide +kernel
theorem dX12_fillsHours_93 : decode cX12_fillsHours 93 = .ok (.aload_n 0, 1) := by decide +kernel
theorem dX12_fillsHours_94 : decode cX12_fillsHours 94 = .ok (.getfield 52, 3) := by decide +kernel
theorem dX12_fillsHours_97 : decode cX12_fillsHours 97 = .ok (.iload_n 3, 1) := by decide +kernel
theorem dX12_fillsHours_98 : decode cX12_fillsHours 98 = .ok (.iaload, 1) := by decide +kernel
theorem dX12_fillsHours_99 : decode cX12_fillsHours 99 = .ok (.if_icmp .lt 6, 3) := by decide +kernel
theorem dX12_fillsHours_102 : decode cX12_fillsHours 102 = .ok (.goto 21, 3) := by decide +kernel
theorem dX12_fillsHours_105 : decode cX12_fillsHours 105 = .ok (.aload_n 0, 1) := by decide +kernel
theorem dX12_fillsHours_106 : decode cX12_fillsHours 106 = .ok (.getfield 52, 3) := by decide +kernel
theorem dX12_fillsHours_109 : decode cX12_fillsHours 109 = .ok (.iload_n 3, 1) := by decide +kernel
theorem dX12_fillsHours_110 : decode cX12_fillsHours 110 = .ok (.aload_n 0, 1) := by decide +kernel
theorem dX12_fillsHours_111 : decode cX12_fillsHours 111 = .ok (.getfield 52, 3) := by decide +kernel
theorem dX12_fillsHours_114 : decode cX12_fillsHours 114 = .ok (.iload 4, 2) := by decide +kernel
theorem dX12_fillsHours_116 : decode cX12_fillsHours 116 = .ok (.iaload, 1) := by decide +kernel
theorem dX12_fillsHours_117 : decode cX12_fillsHours 117 = .ok (.iload 5, 2) := by decide +kernel
theorem dX12_fillsHours_119 : decode cX12_fillsHours 119 = .ok (.iadd, 1) := by decide +kernel
theorem dX12_fillsHours_120 : decode cX12_fillsHours 120 = .ok (.iastore, 1) := by decide +kernel
theorem dX12_fillsHours_121 : decode cX12_fillsHours 121 = .ok (.iconst 1, 1) := by decide +kernel
theorem dX12_fillsHours_122 : decode cX12_fillsHours 122 = .ok (.istore_n 2, 1) := by decide +kernel
theorem dX12_fillsHours_123 : decode cX12_fillsHours 123 = .ok (.iinc 4 1, 3) := by decide +kernel
theorem dX12_fillsHours_126 : decode cX12_fillsHours 126 = .ok (.goto (-68), 3) := by decide +kernel
theorem dX12_fillsHours_129 : decode cX12_fillsHours 129 = .ok (.iinc 3 1, 3) := by decide +kernel
theorem dX12_fillsHours_132 : decode cX12_fillsHours 132 = .ok (.goto (-87), 3) := by decide +kernel
theorem dX12_fillsHours_135 : decode cX12_fillsHours 135 = .ok (.goto (-98), 3) := by decide +kernel
theorem dX12_fillsHours_138 : decode cX12_fillsHours 138 = .ok (.return_, 1) := by decide +kernel
set_option maxRecDepth 20000 in
theorem ggX12_nextPlace_X12_roadOf : GoodIn wsX12_nextPlace wsX12_roadOf := goodIn_r _ [7, 1, 8, 9, 10, 11, 12, 13, 14, 15, 16, 17, 18, 19, 20, 21, 22, 23, 24, 25, 26, 27, 28, 29, 30, 31, 32, 33, 34, 35, 36, 37, 38, 39, 40, 41, 42, 43, 44, 45] (by decide +kernel) (by decide +kernel)
set_option maxRecDepth 20000 in
theorem gX12_nextPlace_X12_roadOf : GoodIn wsX12_nextPlace (wsV RX12 368 RX12 yX12_roadOf wsX12_roadOf) := goodIn_app (goodIn_of _ (by decide +kernel)) ggX12_nextPlace_X12_roadOf
theorem dX12_nextPlace_0 : decode cX12_nextPlace 0 = .ok (.iconst 0, 1) := by decide +kernel
theorem dX12_nextPlace_1 : decode cX12_nextPlace 1 = .ok (.istore_n 2, 1) := by decide +kernel
theorem dX12_nextPlace_2 : decode cX12_nextPlace 2 = .ok (.iload_n 2, 1) := by decide +kernel
theorem dX12_nextPlace_3 : decode cX12_nextPlace 3 = .ok (.aload_n 0, 1) := by decide +kernel
theorem dX12_nextPlace_4 : decode cX12_nextPlace 4 = .ok (.getfield 39, 3) := by decide +kernel
theorem dX12_nextPlace_7 : decode cX12_nextPlace 7 = .ok (.iconst 0, 1) := by decide +kernel
theorem dX12_nextPlace_8 : decode cX12_nextPlace 8 = .ok (.iaload, 1) := by decide +kernel
theorem dX12_nextPlace_9 : decode cX12_nextPlace 9 = .ok (.if_icmp .ge 42, 3) := by decide +kernel
theorem dX12_nextPlace_12 : decode cX12_nextPlace 12 = .ok (.aload_n 0, 1) := by decide +kernel
theorem dX12_nextPlace_13 : decode cX12_nextPlace 13 = .ok (.iload_n 1, 1) := by decide +kernel
theorem dX12_nextPlace_14 : decode cX12_nextPlace 14 = .ok (.iload_n 2, 1) := by decide +kernel
theorem dX12_nextPlace_15 : decode cX12_nextPlace 15 = .ok (.invokevirtual 368, 3) := by decide +kernel
theorem dX12_nextPlace_18 : decode cX12_nextPlace 18 = .ok (.ifCond .le 27, 3) := by decide +kernel
theorem dX12_nextPlace_21 : decode cX12_nextPlace 21 = .ok (.aload_n 0, 1) := by decide +kernel
theorem dX12_nextPlace_22 : decode cX12_nextPlace 22 = .ok (.getfield 52, 3) := by decide +kernel
theorem dX12_nextPlace_25 : decode cX12_nextPlace 25 = .ok (.iload_n 2, 1) := by decide +kernel
theorem dX12_nextPlace_26 : decode cX12_nextPlace 26 = .ok (.iaload, 1) := by decide +kernel
theorem dX12_nextPlace_27 : decode cX12_nextPlace 27 = .ok (.aload_n 0, 1) := by decide +kernel
theorem dX12_nextPlace_28 : decode cX12_nextPlace 28 = .ok (.iload_n 1, 1) := by decide +kernel
theorem dX12_nextPlace_29 : decode cX12_nextPlace 29 = .ok (.iload_n 2, 1) := by decide +kernel
theorem dX12_nextPlace_30 : decode cX12_nextPlace 30 = .ok (.invokevirtual 368, 3) := by decide +kernel
theorem dX12_nextPlace_33 : decode cX12_nextPlace 33 = .ok (.iadd, 1) := by decide +kernel
theorem dX12_nextPlace_34 : decode cX12_nextPlace 34 = .ok (.aload_n 0, 1) := by decide +kernel
theorem dX12_nextPlace_35 : decode cX12_nextPlace 35 = .ok (.getfield 52, 3) := by decide +kernel
theorem dX12_nextPlace_38 : decode cX12_nextPlace 38 = .ok (.iload_n 1, 1) := by decide +kernel
theorem dX12_nextPlace_39 : decode cX12_nextPlace 39 = .ok (.iaload, 1) := by decide +kernel
theorem dX12_nextPlace_40 : decode cX12_nextPlace 40 = .ok (.if_icmp .ne 5, 3) := by decide +kernel
theorem dX12_nextPlace_43 : decode cX12_nextPlace 43 = .ok (.iload_n 2, 1) := by decide +kernel
theorem dX12_nextPlace_44 : decode cX12_nextPlace 44 = .ok (.ireturn, 1) := by decide +kernel
theorem dX12_nextPlace_45 : decode cX12_nextPlace 45 = .ok (.iinc 2 1, 3) := by decide +kernel
theorem dX12_nextPlace_48 : decode cX12_nextPlace 48 = .ok (.goto (-46), 3) := by decide +kernel
theorem dX12_nextPlace_51 : decode cX12_nextPlace 51 = .ok (.iconst (-1), 1) := by decide +kernel
theorem dX12_nextPlace_52 : decode cX12_nextPlace 52 = .ok (.ireturn, 1) := by decide +kernel
set_option maxRecDepth 20000 in
theorem ggX12_way_X12_isPlace : GoodIn wsX12_way wsX12_isPlace := goodIn_r _ [6, 7, 23, 24, 25, 26, 27, 28, 29, 30, 31, 32, 33, 34, 35, 36, 37, 38, 39, 40, 41, 42, 43, 44, 45, 46, 47, 48, 49, 50, 51, 52, 53, 54, 55, 56, 57, 58, 59, 60] (by decide +kernel) (by decide +kernel)
set_option maxRecDepth 20000 in
theorem gX12_way_X12_isPlace : GoodIn wsX12_way (wsV RX12 371 RX12 yX12_isPlace wsX12_isPlace) := goodIn_app (goodIn_of _ (by decide +kernel)) ggX12_way_X12_isPlace
set_option maxRecDepth 20000 in
theorem ggX12_way_X12_in : GoodIn wsX12_way wsX12_in := goodIn_r _ [10] (by decide +kernel) (by decide +kernel)
set_option maxRecDepth 20000 in
theorem gX12_way_X12_in : GoodIn wsX12_way (va_wsS RX12 118 yX12_in wsX12_in) := goodIn_app (goodIn_of _ (by decide +kernel)) ggX12_way_X12_in
set_option maxRecDepth 20000 in
theorem ggX12_way_X12_fillsHours : GoodIn wsX12_way wsX12_fillsHours := goodIn_r _ [14, 7, 1, 15, 16, 17, 5, 18, 23, 24, 25, 26, 27, 28, 29, 30, 31, 32, 33, 34, 35, 36, 37, 38, 39, 40, 41, 42, 43, 44, 45, 46, 47, 48, 49, 50, 51, 52, 53, 54, 55, 56, 57, 58, 59, 60] (by decide +kernel) (by decide +kernel)
set_option maxRecDepth 20000 in
theorem gX12_way_X12_fillsHours : GoodIn wsX12_way (wsV RX12 388 RX12 yX12_fillsHours wsX12_fillsHours) := goodIn_app (goodIn_of _ (by decide +kernel)) ggX12_way_X12_fillsHours
set_option maxRecDepth 20000 in
theorem ggX12_way_X12_nextPlace : GoodIn wsX12_way wsX12_nextPlace := goodIn_r _ [22, 7, 1, 15, 16, 17, 5, 18, 23, 24, 25, 26, 27, 28, 29, 30, 31, 32, 33, 34, 35, 36, 37, 38, 39, 40, 41, 42, 43, 44, 45, 46, 47, 48, 49, 50, 51, 52, 53, 54, 55, 56, 57, 58, 59, 60] (by decide +kernel) (by decide +kernel)
set_option maxRecDepth 20000 in
theorem gX12_way_X12_nextPlace : GoodIn wsX12_way (wsV RX12 391 RX12 yX12_nextPlace wsX12_nextPlace) := goodIn_app (goodIn_of _ (by decide +kernel)) ggX12_way_X12_nextPlace
theorem dX12_way_0 : decode cX12_way 0 = .ok (.aload_n 0, 1) := by decide +kernel
theorem dX12_way_1 : decode cX12_way 1 = .ok (.iload_n 1, 1) := by decide +kernel
theorem dX12_way_2 : decode cX12_way 2 = .ok (.invokevirtual 371, 3) := by decide +kernel
theorem dX12_way_5 : decode cX12_way 5 = .ok (.ifCond .eq 21, 3) := by decide +kernel
theorem dX12_way_8 : decode cX12_way 8 = .ok (.aload_n 0, 1) := by decide +kernel
theorem dX12_way_9 : decode cX12_way 9 = .ok (.iload_n 2, 1) := by decide +kernel
theorem dX12_way_10 : decode cX12_way 10 = .ok (.invokevirtual 371, 3) := by decide +kernel
theorem dX12_way_13 : decode cX12_way 13 = .ok (.ifCond .eq 13, 3) := by decide +kernel
theorem dX12_way_16 : decode cX12_way 16 = .ok (.iload_n 3, 1) := by decide +kernel
theorem dX12_way_17 : decode cX12_way 17 = .ok (.i2l, 1) := by decide +kernel
theorem dX12_way_18 : decode cX12_way 18 = .ok (.lconst 0, 1) := by decide +kernel
theorem dX12_way_19 : decode cX12_way 19 = .ok (.lconst 1, 1) := by decide +kernel
theorem dX12_way_20 : decode cX12_way 20 = .ok (.invokestatic 118, 3) := by decide +kernel
theorem dX12_way_23 : decode cX12_way 23 = .ok (.ifCond .ne 6, 3) := by decide +kernel
theorem dX12_way_26 : decode cX12_way 26 = .ok (.bipush (-3), 2) := by decide +kernel
theorem dX12_way_28 : decode cX12_way 28 = .ok (.ireturn, 1) := by decide +kernel
theorem dX12_way_29 : decode cX12_way 29 = .ok (.aload_n 0, 1) := by decide +kernel
theorem dX12_way_30 : decode cX12_way 30 = .ok (.iload_n 2, 1) := by decide +kernel
theorem dX12_way_31 : decode cX12_way 31 = .ok (.invokevirtual 388, 3) := by decide +kernel
theorem dX12_way_34 : decode cX12_way 34 = .ok (.aload_n 0, 1) := by decide +kernel
theorem dX12_way_35 : decode cX12_way 35 = .ok (.getfield 52, 3) := by decide +kernel
theorem dX12_way_38 : decode cX12_way 38 = .ok (.iload_n 1, 1) := by decide +kernel
theorem dX12_way_39 : decode cX12_way 39 = .ok (.iaload, 1) := by decide +kernel
theorem dX12_way_40 : decode cX12_way 40 = .ok (.bipush 99, 2) := by decide +kernel
theorem dX12_way_42 : decode cX12_way 42 = .ok (.if_icmp .lt 6, 3) := by decide +kernel
theorem dX12_way_45 : decode cX12_way 45 = .ok (.bipush (-2), 2) := by decide +kernel
theorem dX12_way_47 : decode cX12_way 47 = .ok (.ireturn, 1) := by decide +kernel
theorem dX12_way_48 : decode cX12_way 48 = .ok (.iload_n 3, 1) := by decide +kernel
theorem dX12_way_49 : decode cX12_way 49 = .ok (.ifCond .ne 12, 3) := by decide +kernel
theorem dX12_way_52 : decode cX12_way 52 = .ok (.aload_n 0, 1) := by decide +kernel
theorem dX12_way_53 : decode cX12_way 53 = .ok (.getfield 52, 3) := by decide +kernel
theorem dX12_way_56 : decode cX12_way 56 = .ok (.iload_n 1, 1) := by decide +kernel
theorem dX12_way_57 : decode cX12_way 57 = .ok (.iaload, 1) := by decide +kernel
theorem dX12_way_58 : decode cX12_way 58 = .ok (.goto 17, 3) := by decide +kernel
theorem dX12_way_61 : decode cX12_way 61 = .ok (.iload_n 1, 1) := by decide +kernel
theorem dX12_way_62 : decode cX12_way 62 = .ok (.iload_n 2, 1) := by decide +kernel
theorem dX12_way_63 : decode cX12_way 63 = .ok (.if_icmp .ne 7, 3) := by decide +kernel
theorem dX12_way_66 : decode cX12_way 66 = .ok (.iconst (-1), 1) := by decide +kernel
theorem dX12_way_67 : decode cX12_way 67 = .ok (.goto 8, 3) := by decide +kernel
theorem dX12_way_70 : decode cX12_way 70 = .ok (.aload_n 0, 1) := by decide +kernel
theorem dX12_way_71 : decode cX12_way 71 = .ok (.iload_n 1, 1) := by decide +kernel
theorem dX12_way_72 : decode cX12_way 72 = .ok (.invokevirtual 391, 3) := by decide +kernel
theorem dX12_way_75 : decode cX12_way 75 = .ok (.ireturn, 1) := by decide +kernel
set_option maxRecDepth 20000 in
theorem ggX12_brings_X12_isHand : GoodIn wsX12_brings wsX12_isHand := goodIn_r _ [7, 2, 83, 84, 85, 86, 87, 88, 89, 90, 91, 92, 93, 94, 95, 96, 97, 98, 99, 100, 101, 102, 103, 104, 105, 106, 107, 108, 109, 110, 111, 112, 113, 114, 115, 116, 117, 118, 119, 120] (by decide +kernel) (by decide +kernel)
set_option maxRecDepth 20000 in
theorem gX12_brings_X12_isHand : GoodIn wsX12_brings (wsV RX12 301 RX12 yX12_isHand wsX12_isHand) := goodIn_app (goodIn_of _ (by decide +kernel)) ggX12_brings_X12_isHand
set_option maxRecDepth 20000 in
theorem ggX12_brings_X12_isJug : GoodIn wsX12_brings wsX12_isJug := goodIn_r _ [11, 2, 83, 84, 85, 86, 87, 88, 89, 90, 91, 92, 93, 94, 95, 96, 97, 98, 99, 100, 101, 102, 103, 104, 105, 106, 107, 108, 109, 110, 111, 112, 113, 114, 115, 116, 117, 118, 119, 120] (by decide +kernel) (by decide +kernel)
set_option maxRecDepth 20000 in
theorem gX12_brings_X12_isJug : GoodIn wsX12_brings (wsV RX12 312 RX12 yX12_isJug wsX12_isJug) := goodIn_app (goodIn_of _ (by decide +kernel)) ggX12_brings_X12_isJug
set_option maxRecDepth 20000 in
theorem ggX12_brings_X12_stands : GoodIn wsX12_brings wsX12_stands := goodIn_r _ [15, 16, 17, 18, 6, 19, 2, 83, 84, 85, 86, 87, 88, 89, 90, 91, 92, 93, 94, 95, 96, 97, 98, 99, 100, 101, 102, 103, 104, 105, 106, 107, 108, 109, 110, 111, 112, 113, 114, 115, 116, 117, 118, 119, 120] (by decide +kernel) (by decide +kernel)
set_option maxRecDepth 20000 in
theorem gX12_brings_X12_stands : GoodIn wsX12_brings (wsV RX12 292 RX12 yX12_stands wsX12_stands) := goodIn_app (goodIn_of _ (by decide +kernel)) ggX12_brings_X12_stands
set_option maxRecDepth 20000 in
theorem ggX12_brings_X12_isPlace : GoodIn wsX12_brings wsX12_isPlace := goodIn_r _ [23, 2, 83, 84, 85, 86, 87, 88, 89, 90, 91, 92, 93, 94, 95, 96, 97, 98, 99, 100, 101, 102, 103, 104, 105, 106, 107, 108, 109, 110, 111, 112, 113, 114, 115, 116, 117, 118, 119, 120] (by decide +kernel) (by decide +kernel)
set_option maxRecDepth 20000 in
theorem gX12_brings_X12_isPlace : GoodIn wsX12_brings (wsV RX12 371 RX12 yX12_isPlace wsX12_isPlace) := goodIn_app (goodIn_of _ (by decide +kernel)) ggX12_brings_X12_isPlace
set_option maxRecDepth 20000 in
theorem ggX12_brings_X12_fillsHours : GoodIn wsX12_brings wsX12_fillsHours := goodIn_r _ [27, 2, 1, 28, 29, 30, 6, 31, 83, 84, 85, 86, 87, 88, 89, 90, 91, 92, 93, 94, 95, 96, 97, 98, 99, 100, 101, 102, 103, 104, 105, 106, 107, 108, 109, 110, 111, 112, 113, 114, 115, 116, 117, 118, 119, 120] (by decide +kernel) (by decide +kernel)
set_option maxRecDepth 20000 in
theorem gX12_brings_X12_fillsHours : GoodIn wsX12_brings (wsV RX12 388 RX12 yX12_fillsHours wsX12_fillsHours) := goodIn_app (goodIn_of _ (by decide +kernel)) ggX12_brings_X12_fillsHours
set_option maxRecDepth 20000 in
theorem ggX12_brings_X12_jugOf : GoodIn wsX12_brings wsX12_jugOf := goodIn_r _ [19, 2, 83, 84, 85, 86, 87, 88, 89, 90, 91, 92, 93, 94, 95, 96, 97, 98, 99, 100, 101, 102, 103, 104, 105, 106, 107, 108, 109, 110, 111, 112, 113, 114, 115, 116, 117, 118, 119, 120] (by decide +kernel) (by decide +kernel)
set_option maxRecDepth 20000 in
theorem gX12_brings_X12_jugOf : GoodIn wsX12_brings (wsV RX12 284 RX12 yX12_jugOf wsX12_jugOf) := goodIn_app (goodIn_of _ (by decide +kernel)) ggX12_brings_X12_jugOf
set_option maxRecDepth 20000 in
theorem ggX12_brings_X12_turnedBy : GoodIn wsX12_brings wsX12_turnedBy := goodIn_r _ [35, 36, 37, 38, 6, 39, 40, 41, 2, 42, 43, 44, 45, 46, 47, 48, 49, 50, 51, 52, 53, 54, 55, 56, 57, 58, 59, 60, 61, 62, 63, 64, 65, 66, 67, 68, 69, 70, 71, 72, 73, 74, 75, 76, 77, 78, 79, 80, 81, 82, 83, 84, 85, 86, 87, 88, 89, 90, 91, 92, 93, 94, 95, 96, 97, 98, 99, 100, 101, 102, 103, 104, 105, 106, 107, 108, 109, 110, 111, 112, 113, 114, 115, 116, 117, 118, 119, 120] (by decide +kernel) (by decide +kernel)
set_option maxRecDepth 20000 in
theorem gX12_brings_X12_turnedBy : GoodIn wsX12_brings (wsV RX12 394 RX12 yX12_turnedBy wsX12_turnedBy) := goodIn_app (goodIn_of _ (by decide +kernel)) ggX12_brings_X12_turnedBy
theorem dX12_brings_0 : decode cX12_brings 0 = .ok (.aload_n 0, 1) := by decide +kernel
theorem dX12_brings_1 : decode cX12_brings 1 = .ok (.iload_n 1, 1) := by decide +kernel
theorem dX12_brings_2 : decode cX12_brings 2 = .ok (.invokevirtual 301, 3) := by decide +kernel
theorem dX12_brings_5 : decode cX12_brings 5 = .ok (.ifCond .eq 27, 3) := by decide +kernel
theorem dX12_brings_8 : decode cX12_brings 8 = .ok (.aload_n 0, 1) := by decide +kernel
theorem dX12_brings_9 : decode cX12_brings 9 = .ok (.iload_n 2, 1) := by decide +kernel
theorem dX12_brings_10 : decode cX12_brings 10 = .ok (.invokevirtual 312, 3) := by decide +kernel
theorem dX12_brings_13 : decode cX12_brings 13 = .ok (.ifCond .eq 19, 3) := by decide +kernel
theorem dX12_brings_16 : decode cX12_brings 16 = .ok (.aload_n 0, 1) := by decide +kernel
theorem dX12_brings_17 : decode cX12_brings 17 = .ok (.iload_n 2, 1) := by decide +kernel
theorem dX12_brings_18 : decode cX12_brings 18 = .ok (.invokevirtual 292, 3) := by decide +kernel
theorem dX12_brings_21 : decode cX12_brings 21 = .ok (.ifCond .eq 11, 3) := by decide +kernel
theorem dX12_brings_24 : decode cX12_brings 24 = .ok (.aload_n 0, 1) := by decide +kernel
theorem dX12_brings_25 : decode cX12_brings 25 = .ok (.iload_n 3, 1) := by decide +kernel
theorem dX12_brings_26 : decode cX12_brings 26 = .ok (.invokevirtual 371, 3) := by decide +kernel
theorem dX12_brings_29 : decode cX12_brings 29 = .ok (.ifCond .ne 5, 3) := by decide +kernel
theorem dX12_brings_32 : decode cX12_brings 32 = .ok (.iconst (-1), 1) := by decide +kernel
theorem dX12_brings_33 : decode cX12_brings 33 = .ok (.ireturn, 1) := by decide +kernel
theorem dX12_brings_34 : decode cX12_brings 34 = .ok (.aload_n 0, 1) := by decide +kernel
theorem dX12_brings_35 : decode cX12_brings 35 = .ok (.iload_n 3, 1) := by decide +kernel
theorem dX12_brings_36 : decode cX12_brings 36 = .ok (.invokevirtual 388, 3) := by decide +kernel
theorem dX12_brings_39 : decode cX12_brings 39 = .ok (.aload_n 0, 1) := by decide +kernel
theorem dX12_brings_40 : decode cX12_brings 40 = .ok (.getfield 52, 3) := by decide +kernel
theorem dX12_brings_43 : decode cX12_brings 43 = .ok (.aload_n 0, 1) := by decide +kernel
theorem dX12_brings_44 : decode cX12_brings 44 = .ok (.iload_n 2, 1) := by decide +kernel
theorem dX12_brings_45 : decode cX12_brings 45 = .ok (.iconst 0, 1) := by decide +kernel
theorem dX12_brings_46 : decode cX12_brings 46 = .ok (.invokevirtual 284, 3) := by decide +kernel
theorem dX12_brings_49 : decode cX12_brings 49 = .ok (.iaload, 1) := by decide +kernel
theorem dX12_brings_50 : decode cX12_brings 50 = .ok (.istore 4, 2) := by decide +kernel
theorem dX12_brings_52 : decode cX12_brings 52 = .ok (.iload 4, 2) := by decide +kernel
theorem dX12_brings_54 : decode cX12_brings 54 = .ok (.bipush 99, 2) := by decide +kernel
theorem dX12_brings_56 : decode cX12_brings 56 = .ok (.if_icmp .lt 8, 3) := by decide +kernel
theorem dX12_brings_59 : decode cX12_brings 59 = .ok (.bipush (-2), 2) := by decide +kernel
theorem dX12_brings_61 : decode cX12_brings 61 = .ok (.goto 25, 3) := by decide +kernel
theorem dX12_brings_64 : decode cX12_brings 64 = .ok (.aload_n 0, 1) := by decide +kernel
theorem dX12_brings_65 : decode cX12_brings 65 = .ok (.iload_n 1, 1) := by decide +kernel
theorem dX12_brings_66 : decode cX12_brings 66 = .ok (.iload_n 2, 1) := by decide +kernel
theorem dX12_brings_67 : decode cX12_brings 67 = .ok (.aload_n 0, 1) := by decide +kernel
theorem dX12_brings_68 : decode cX12_brings 68 = .ok (.iload_n 2, 1) := by decide +kernel
theorem dX12_brings_69 : decode cX12_brings 69 = .ok (.iconst 2, 1) := by decide +kernel
theorem dX12_brings_70 : decode cX12_brings 70 = .ok (.invokevirtual 284, 3) := by decide +kernel
theorem dX12_brings_73 : decode cX12_brings 73 = .ok (.iload 4, 2) := by decide +kernel
theorem dX12_brings_75 : decode cX12_brings 75 = .ok (.aload_n 0, 1) := by decide +kernel
theorem dX12_brings_76 : decode cX12_brings 76 = .ok (.getfield 39, 3) := by decide +kernel
theorem dX12_brings_79 : decode cX12_brings 79 = .ok (.bipush 7, 2) := by decide +kernel
theorem dX12_brings_81 : decode cX12_brings 81 = .ok (.iaload, 1) := by decide +kernel
theorem dX12_brings_82 : decode cX12_brings 82 = .ok (.iconst 1, 1) := by decide +kernel
theorem dX12_brings_83 : decode cX12_brings 83 = .ok (.invokevirtual 394, 3) := by decide +kernel
theorem dX12_brings_86 : decode cX12_brings 86 = .ok (.ireturn, 1) := by decide +kernel
set_option maxRecDepth 20000 in
theorem ggX12_fillsRoads_X12_nextPlace : GoodIn wsX12_fillsRoads wsX12_nextPlace := goodIn_r _ [7, 8, 9, 10, 11, 12, 6, 13, 14, 15, 16, 17, 18, 19, 20, 21, 22, 23, 24, 25, 26, 27, 28, 29, 30, 31, 32, 33, 34, 35, 36, 37, 38, 39, 40, 41, 42, 43, 44, 45, 46, 47, 48, 49, 50, 51] (by decide +kernel) (by decide +kernel)
set_option maxRecDepth 20000 in
theorem gX12_fillsRoads_X12_nextPlace : GoodIn wsX12_fillsRoads (wsV RX12 391 RX12 yX12_nextPlace wsX12_nextPlace) := goodIn_app (goodIn_of _ (by decide +kernel)) ggX12_fillsRoads_X12_nextPlace
set_option maxRecDepth 20000 in
theorem ggX12_fillsRoads_X12_roadOf : GoodIn wsX12_fillsRoads wsX12_roadOf := goodIn_r _ [13, 8, 14, 15, 16, 17, 18, 19, 20, 21, 22, 23, 24, 25, 26, 27, 28, 29, 30, 31, 32, 33, 34, 35, 36, 37, 38, 39, 40, 41, 42, 43, 44, 45, 46, 47, 48, 49, 50, 51] (by decide +kernel) (by decide +kernel)
set_option maxRecDepth 20000 in
theorem gX12_fillsRoads_X12_roadOf : GoodIn wsX12_fillsRoads (wsV RX12 368 RX12 yX12_roadOf wsX12_roadOf) := goodIn_app (goodIn_of _ (by decide +kernel)) ggX12_fillsRoads_X12_roadOf
theorem dX12_fillsRoads_0 : decode cX12_fillsRoads 0 = .ok (.iload_n 1, 1) := by decide +kernel
theorem dX12_fillsRoads_1 : decode cX12_fillsRoads 1 = .ok (.istore_n 3, 1) := by decide +kernel
theorem dX12_fillsRoads_2 : decode cX12_fillsRoads 2 = .ok (.aload_n 0, 1) := by decide +kernel
theorem dX12_fillsRoads_3 : decode cX12_fillsRoads 3 = .ok (.iconst 0, 1) := by decide +kernel
theorem dX12_fillsRoads_4 : decode cX12_fillsRoads 4 = .ok (.putfield 398, 3) := by decide +kernel
theorem dX12_fillsRoads_7 : decode cX12_fillsRoads 7 = .ok (.iload_n 3, 1) := by decide +kernel
theorem dX12_fillsRoads_8 : decode cX12_fillsRoads 8 = .ok (.iload_n 2, 1) := by decide +kernel
theorem dX12_fillsRoads_9 : decode cX12_fillsRoads 9 = .ok (.if_icmp .eq 42, 3) := by decide +kernel
theorem dX12_fillsRoads_12 : decode cX12_fillsRoads 12 = .ok (.aload_n 0, 1) := by decide +kernel
theorem dX12_fillsRoads_13 : decode cX12_fillsRoads 13 = .ok (.iload_n 3, 1) := by decide +kernel
theorem dX12_fillsRoads_14 : decode cX12_fillsRoads 14 = .ok (.invokevirtual 391, 3) := by decide +kernel
theorem dX12_fillsRoads_17 : decode cX12_fillsRoads 17 = .ok (.istore 4, 2) := by decide +kernel
theorem dX12_fillsRoads_19 : decode cX12_fillsRoads 19 = .ok (.aload_n 0, 1) := by decide +kernel
theorem dX12_fillsRoads_20 : decode cX12_fillsRoads 20 = .ok (.getfield 55, 3) := by decide +kernel
theorem dX12_fillsRoads_23 : decode cX12_fillsRoads 23 = .ok (.aload_n 0, 1) := by decide +kernel
theorem dX12_fillsRoads_24 : decode cX12_fillsRoads 24 = .ok (.getfield 398, 3) := by decide +kernel
theorem dX12_fillsRoads_27 : decode cX12_fillsRoads 27 = .ok (.aload_n 0, 1) := by decide +kernel
theorem dX12_fillsRoads_28 : decode cX12_fillsRoads 28 = .ok (.iload_n 3, 1) := by decide +kernel
theorem dX12_fillsRoads_29 : decode cX12_fillsRoads 29 = .ok (.iload 4, 2) := by decide +kernel
theorem dX12_fillsRoads_31 : decode cX12_fillsRoads 31 = .ok (.invokevirtual 368, 3) := by decide +kernel
theorem dX12_fillsRoads_34 : decode cX12_fillsRoads 34 = .ok (.iastore, 1) := by decide +kernel
theorem dX12_fillsRoads_35 : decode cX12_fillsRoads 35 = .ok (.aload_n 0, 1) := by decide +kernel
theorem dX12_fillsRoads_36 : decode cX12_fillsRoads 36 = .ok (.dup, 1) := by decide +kernel
theorem dX12_fillsRoads_37 : decode cX12_fillsRoads 37 = .ok (.getfield 398, 3) := by decide +kernel
theorem dX12_fillsRoads_40 : decode cX12_fillsRoads 40 = .ok (.iconst 1, 1) := by decide +kernel
theorem dX12_fillsRoads_41 : decode cX12_fillsRoads 41 = .ok (.iadd, 1) := by decide +kernel
theorem dX12_fillsRoads_42 : decode cX12_fillsRoads 42 = .ok (.putfield 398, 3) := by decide +kernel
theorem dX12_fillsRoads_45 : decode cX12_fillsRoads 45 = .ok (.iload 4, 2) := by decide +kernel
theorem dX12_fillsRoads_47 : decode cX12_fillsRoads 47 = .ok (.istore_n 3, 1) := by decide +kernel
theorem dX12_fillsRoads_48 : decode cX12_fillsRoads 48 = .ok (.goto (-41), 3) := by decide +kernel
theorem dX12_fillsRoads_51 : decode cX12_fillsRoads 51 = .ok (.return_, 1) := by decide +kernel
theorem dX12_power_0 : decode cX12_power 0 = .ok (.iconst 1, 1) := by decide +kernel
theorem dX12_power_1 : decode cX12_power 1 = .ok (.istore_n 2, 1) := by decide +kernel
theorem dX12_power_2 : decode cX12_power 2 = .ok (.iconst 0, 1) := by decide +kernel
theorem dX12_power_3 : decode cX12_power 3 = .ok (.istore_n 3, 1) := by decide +kernel
theorem dX12_power_4 : decode cX12_power 4 = .ok (.iload_n 3, 1) := by decide +kernel
theorem dX12_power_5 : decode cX12_power 5 = .ok (.iload_n 1, 1) := by decide +kernel
theorem dX12_power_6 : decode cX12_power 6 = .ok (.if_icmp .ge 13, 3) := by decide +kernel
theorem dX12_power_9 : decode cX12_power 9 = .ok (.iload_n 2, 1) := by decide +kernel
theorem dX12_power_10 : decode cX12_power 10 = .ok (.iload_n 0, 1) := by decide +kernel
theorem dX12_power_11 : decode cX12_power 11 = .ok (.imul, 1) := by decide +kernel
theorem dX12_power_12 : decode cX12_power 12 = .ok (.istore_n 2, 1) := by decide +kernel
theorem dX12_power_13 : decode cX12_power 13 = .ok (.iinc 3 1, 3) := by decide +kernel
theorem dX12_power_16 : decode cX12_power 16 = .ok (.goto (-12), 3) := by decide +kernel
theorem dX12_power_19 : decode cX12_power 19 = .ok (.iload_n 2, 1) := by decide +kernel
theorem dX12_power_20 : decode cX12_power 20 = .ok (.ireturn, 1) := by decide +kernel
set_option maxRecDepth 20000 in
theorem ggX12_handIn_X12_power : GoodIn wsX12_handIn wsX12_power := goodIn_r _ [6] (by decide +kernel) (by decide +kernel)
set_option maxRecDepth 20000 in
theorem gX12_handIn_X12_power : GoodIn wsX12_handIn (va_wsS RX12 401 yX12_power wsX12_power) := goodIn_app (goodIn_of _ (by decide +kernel)) ggX12_handIn_X12_power
theorem dX12_handIn_0 : decode cX12_handIn 0 = .ok (.iload_n 1, 1) := by decide +kernel
theorem dX12_handIn_1 : decode cX12_handIn 1 = .ok (.aload_n 0, 1) := by decide +kernel
theorem dX12_handIn_2 : decode cX12_handIn 2 = .ok (.getfield 39, 3) := by decide +kernel
theorem dX12_handIn_5 : decode cX12_handIn 5 = .ok (.iconst 4, 1) := by decide +kernel
theorem dX12_handIn_6 : decode cX12_handIn 6 = .ok (.iaload, 1) := by decide +kernel
theorem dX12_handIn_7 : decode cX12_handIn 7 = .ok (.aload_n 0, 1) := by decide +kernel
theorem dX12_handIn_8 : decode cX12_handIn 8 = .ok (.getfield 398, 3) := by decide +kernel
theorem dX12_handIn_11 : decode cX12_handIn 11 = .ok (.iconst 1, 1) := by decide +kernel
theorem dX12_handIn_12 : decode cX12_handIn 12 = .ok (.isub, 1) := by decide +kernel
theorem dX12_handIn_13 : decode cX12_handIn 13 = .ok (.iload_n 2, 1) := by decide +kernel
theorem dX12_handIn_14 : decode cX12_handIn 14 = .ok (.isub, 1) := by decide +kernel
theorem dX12_handIn_15 : decode cX12_handIn 15 = .ok (.invokestatic 401, 3) := by decide +kernel
theorem dX12_handIn_18 : decode cX12_handIn 18 = .ok (.idiv, 1) := by decide +kernel
theorem dX12_handIn_19 : decode cX12_handIn 19 = .ok (.aload_n 0, 1) := by decide +kernel
theorem dX12_handIn_20 : decode cX12_handIn 20 = .ok (.getfield 39, 3) := by decide +kernel
theorem dX12_handIn_23 : decode cX12_handIn 23 = .ok (.iconst 4, 1) := by decide +kernel
theorem dX12_handIn_24 : decode cX12_handIn 24 = .ok (.iaload, 1) := by decide +kernel
theorem dX12_handIn_25 : decode cX12_handIn 25 = .ok (.irem, 1) := by decide +kernel
theorem dX12_handIn_26 : decode cX12_handIn 26 = .ok (.ireturn, 1) := by decide +kernel
set_option maxRecDepth 20000 in
theorem ggX12_turnedByRow_X12_jugOf : GoodIn wsX12_turnedByRow wsX12_jugOf := goodIn_r _ [8, 1, 67, 68, 69, 70, 71, 72, 73, 74, 75, 76, 77, 78, 79, 80, 81, 82, 83, 84, 85, 86, 87, 88, 89, 90, 91, 92, 93, 94, 95, 96, 97, 98, 99, 100, 101, 102, 103, 104] (by decide +kernel) (by decide +kernel)
set_option maxRecDepth 20000 in
theorem gX12_turnedByRow_X12_jugOf : GoodIn wsX12_turnedByRow (wsV RX12 284 RX12 yX12_jugOf wsX12_jugOf) := goodIn_app (goodIn_of _ (by decide +kernel)) ggX12_turnedByRow_X12_jugOf
set_option maxRecDepth 20000 in
theorem ggX12_turnedByRow_X12_handIn : GoodIn wsX12_turnedByRow wsX12_handIn := goodIn_r _ [12, 1, 2, 13, 14, 7, 15, 67, 68, 69, 70, 71, 72, 73, 74, 75, 76, 77, 78, 79, 80, 81, 82, 83, 84, 85, 86, 87, 88, 89, 90, 91, 92, 93, 94, 95, 96, 97, 98, 99, 100, 101, 102, 103, 104] (by decide +kernel) (by decide +kernel)
set_option maxRecDepth 20000 in
theorem gX12_turnedByRow_X12_handIn : GoodIn wsX12_turnedByRow (wsV RX12 404 RX12 yX12_handIn wsX12_handIn) := goodIn_app (goodIn_of _ (by decide +kernel)) ggX12_turnedByRow_X12_handIn
set_option maxRecDepth 20000 in
theorem ggX12_turnedByRow_X12_turnedBy : GoodIn wsX12_turnedByRow wsX12_turnedBy := goodIn_r _ [19, 20, 21, 22, 7, 23, 24, 25, 1, 26, 27, 28, 29, 30, 31, 32, 33, 34, 35, 36, 37, 38, 39, 40, 41, 42, 43, 44, 45, 46, 47, 48, 49, 50, 51, 52, 53, 54, 55, 56, 57, 58, 59, 60, 61, 62, 63, 64, 65, 66, 67, 68, 69, 70, 71, 72, 73, 74, 75, 76, 77, 78, 79, 80, 81, 82, 83, 84, 85, 86, 87, 88, 89, 90, 91, 92, 93, 94, 95, 96, 97, 98, 99, 100, 101, 102, 103, 104] (by decide +kernel) (by decide +kernel)
set_option maxRecDepth 20000 in
theorem gX12_turnedByRow_X12_turnedBy : GoodIn wsX12_turnedByRow (wsV RX12 394 RX12 yX12_turnedBy wsX12_turnedBy) := goodIn_app (goodIn_of _ (by decide +kernel)) ggX12_turnedByRow_X12_turnedBy
theorem dX12_turnedByRow_0 : decode cX12_turnedByRow 0 = .ok (.aload_n 0, 1) := by decide +kernel
theorem dX12_turnedByRow_1 : decode cX12_turnedByRow 1 = .ok (.iload_n 1, 1) := by decide +kernel
theorem dX12_turnedByRow_2 : decode cX12_turnedByRow 2 = .ok (.iconst 2, 1) := by decide +kernel
theorem dX12_turnedByRow_3 : decode cX12_turnedByRow 3 = .ok (.invokevirtual 284, 3) := by decide +kernel
theorem dX12_turnedByRow_6 : decode cX12_turnedByRow 6 = .ok (.istore_n 3, 1) := by decide +kernel
theorem dX12_turnedByRow_7 : decode cX12_turnedByRow 7 = .ok (.aload_n 0, 1) := by decide +kernel
theorem dX12_turnedByRow_8 : decode cX12_turnedByRow 8 = .ok (.getfield 39, 3) := by decide +kernel
theorem dX12_turnedByRow_11 : decode cX12_turnedByRow 11 = .ok (.bipush 7, 2) := by decide +kernel
theorem dX12_turnedByRow_13 : decode cX12_turnedByRow 13 = .ok (.iaload, 1) := by decide +kernel
theorem dX12_turnedByRow_14 : decode cX12_turnedByRow 14 = .ok (.istore 4, 2) := by decide +kernel
theorem dX12_turnedByRow_16 : decode cX12_turnedByRow 16 = .ok (.iconst 0, 1) := by decide +kernel
theorem dX12_turnedByRow_17 : decode cX12_turnedByRow 17 = .ok (.istore 5, 2) := by decide +kernel
theorem dX12_turnedByRow_19 : decode cX12_turnedByRow 19 = .ok (.iload 5, 2) := by decide +kernel
theorem dX12_turnedByRow_21 : decode cX12_turnedByRow 21 = .ok (.aload_n 0, 1) := by decide +kernel
theorem dX12_turnedByRow_22 : decode cX12_turnedByRow 22 = .ok (.getfield 398, 3) := by decide +kernel
theorem dX12_turnedByRow_25 : decode cX12_turnedByRow 25 = .ok (.if_icmp .ge 45, 3) := by decide +kernel
theorem dX12_turnedByRow_28 : decode cX12_turnedByRow 28 = .ok (.aload_n 0, 1) := by decide +kernel
theorem dX12_turnedByRow_29 : decode cX12_turnedByRow 29 = .ok (.aload_n 0, 1) := by decide +kernel
theorem dX12_turnedByRow_30 : decode cX12_turnedByRow 30 = .ok (.iload_n 2, 1) := by decide +kernel
theorem dX12_turnedByRow_31 : decode cX12_turnedByRow 31 = .ok (.iload 5, 2) := by decide +kernel
theorem dX12_turnedByRow_33 : decode cX12_turnedByRow 33 = .ok (.invokevirtual 404, 3) := by decide +kernel
theorem dX12_turnedByRow_36 : decode cX12_turnedByRow 36 = .ok (.iload_n 1, 1) := by decide +kernel
theorem dX12_turnedByRow_37 : decode cX12_turnedByRow 37 = .ok (.iload_n 3, 1) := by decide +kernel
theorem dX12_turnedByRow_38 : decode cX12_turnedByRow 38 = .ok (.aload_n 0, 1) := by decide +kernel
theorem dX12_turnedByRow_39 : decode cX12_turnedByRow 39 = .ok (.getfield 55, 3) := by decide +kernel
theorem dX12_turnedByRow_42 : decode cX12_turnedByRow 42 = .ok (.iload 5, 2) := by decide +kernel
theorem dX12_turnedByRow_44 : decode cX12_turnedByRow 44 = .ok (.iaload, 1) := by decide +kernel
theorem dX12_turnedByRow_45 : decode cX12_turnedByRow 45 = .ok (.iload 4, 2) := by decide +kernel
theorem dX12_turnedByRow_47 : decode cX12_turnedByRow 47 = .ok (.iconst 1, 1) := by decide +kernel
theorem dX12_turnedByRow_48 : decode cX12_turnedByRow 48 = .ok (.invokevirtual 394, 3) := by decide +kernel
theorem dX12_turnedByRow_51 : decode cX12_turnedByRow 51 = .ok (.istore_n 3, 1) := by decide +kernel
theorem dX12_turnedByRow_52 : decode cX12_turnedByRow 52 = .ok (.iload 4, 2) := by decide +kernel
theorem dX12_turnedByRow_54 : decode cX12_turnedByRow 54 = .ok (.aload_n 0, 1) := by decide +kernel
theorem dX12_turnedByRow_55 : decode cX12_turnedByRow 55 = .ok (.getfield 55, 3) := by decide +kernel
theorem dX12_turnedByRow_58 : decode cX12_turnedByRow 58 = .ok (.iload 5, 2) := by decide +kernel
theorem dX12_turnedByRow_60 : decode cX12_turnedByRow 60 = .ok (.iaload, 1) := by decide +kernel
theorem dX12_turnedByRow_61 : decode cX12_turnedByRow 61 = .ok (.iadd, 1) := by decide +kernel
theorem dX12_turnedByRow_62 : decode cX12_turnedByRow 62 = .ok (.istore 4, 2) := by decide +kernel
theorem dX12_turnedByRow_64 : decode cX12_turnedByRow 64 = .ok (.iinc 5 1, 3) := by decide +kernel
theorem dX12_turnedByRow_67 : decode cX12_turnedByRow 67 = .ok (.goto (-48), 3) := by decide +kernel
theorem dX12_turnedByRow_70 : decode cX12_turnedByRow 70 = .ok (.iload_n 3, 1) := by decide +kernel
theorem dX12_turnedByRow_71 : decode cX12_turnedByRow 71 = .ok (.ireturn, 1) := by decide +kernel
set_option maxRecDepth 20000 in
theorem ggX12_relay_X12_isJug : GoodIn wsX12_relay wsX12_isJug := goodIn_r _ [10, 5, 105, 106, 107, 108, 109, 110, 111, 112, 113, 114, 115, 116, 117, 118, 119, 120, 121, 122, 123, 124, 125, 126, 127, 128, 129, 130, 131, 132, 133, 134, 135, 136, 137, 138, 139, 140, 141, 142] (by decide +kernel) (by decide +kernel)
set_option maxRecDepth 20000 in
theorem gX12_relay_X12_isJug : GoodIn wsX12_relay (wsV RX12 312 RX12 yX12_isJug wsX12_isJug) := goodIn_app (goodIn_of _ (by decide +kernel)) ggX12_relay_X12_isJug
set_option maxRecDepth 20000 in
theorem ggX12_relay_X12_stands : GoodIn wsX12_relay wsX12_stands := goodIn_r _ [14, 15, 16, 17, 9, 18, 5, 105, 106, 107, 108, 109, 110, 111, 112, 113, 114, 115, 116, 117, 118, 119, 120, 121, 122, 123, 124, 125, 126, 127, 128, 129, 130, 131, 132, 133, 134, 135, 136, 137, 138, 139, 140, 141, 142] (by decide +kernel) (by decide +kernel)
set_option maxRecDepth 20000 in
theorem gX12_relay_X12_stands : GoodIn wsX12_relay (wsV RX12 292 RX12 yX12_stands wsX12_stands) := goodIn_app (goodIn_of _ (by decide +kernel)) ggX12_relay_X12_stands
set_option maxRecDepth 20000 in
theorem ggX12_relay_X12_isPlace : GoodIn wsX12_relay wsX12_isPlace := goodIn_r _ [22, 5, 105, 106, 107, 108, 109, 110, 111, 112, 113, 114, 115, 116, 117, 118, 119, 120, 121, 122, 123, 124, 125, 126, 127, 128, 129, 130, 131, 132, 133, 134, 135, 136, 137, 138, 139, 140, 141, 142] (by decide +kernel) (by decide +kernel)
set_option maxRecDepth 20000 in
theorem gX12_relay_X12_isPlace : GoodIn wsX12_relay (wsV RX12 371 RX12 yX12_isPlace wsX12_isPlace) := goodIn_app (goodIn_of _ (by decide +kernel)) ggX12_relay_X12_isPlace
set_option maxRecDepth 20000 in
theorem ggX12_relay_X12_in : GoodIn wsX12_relay wsX12_in := goodIn_r _ [25] (by decide +kernel) (by decide +kernel)
set_option maxRecDepth 20000 in
theorem gX12_relay_X12_in : GoodIn wsX12_relay (va_wsS RX12 118 yX12_in wsX12_in) := goodIn_app (goodIn_of _ (by decide +kernel)) ggX12_relay_X12_in
set_option maxRecDepth 20000 in
theorem ggX12_relay_X12_fillsHours : GoodIn wsX12_relay wsX12_fillsHours := goodIn_r _ [29, 5, 3, 30, 31, 32, 9, 33, 105, 106, 107, 108, 109, 110, 111, 112, 113, 114, 115, 116, 117, 118, 119, 120, 121, 122, 123, 124, 125, 126, 127, 128, 129, 130, 131, 132, 133, 134, 135, 136, 137, 138, 139, 140, 141, 142] (by decide +kernel) (by decide +kernel)
set_option maxRecDepth 20000 in
theorem gX12_relay_X12_fillsHours : GoodIn wsX12_relay (wsV RX12 388 RX12 yX12_fillsHours wsX12_fillsHours) := goodIn_app (goodIn_of _ (by decide +kernel)) ggX12_relay_X12_fillsHours
set_option maxRecDepth 20000 in
theorem ggX12_relay_X12_jugOf : GoodIn wsX12_relay wsX12_jugOf := goodIn_r _ [18, 5, 105, 106, 107, 108, 109, 110, 111, 112, 113, 114, 115, 116, 117, 118, 119, 120, 121, 122, 123, 124, 125, 126, 127, 128, 129, 130, 131, 132, 133, 134, 135, 136, 137, 138, 139, 140, 141, 142] (by decide +kernel) (by decide +kernel)
set_option maxRecDepth 20000 in
theorem gX12_relay_X12_jugOf : GoodIn wsX12_relay (wsV RX12 284 RX12 yX12_jugOf wsX12_jugOf) := goodIn_app (goodIn_of _ (by decide +kernel)) ggX12_relay_X12_jugOf
set_option maxRecDepth 20000 in
theorem ggX12_relay_X12_fillsRoads : GoodIn wsX12_relay wsX12_fillsRoads := goodIn_r _ [37, 4, 38, 39, 40, 41, 9, 42, 5, 3, 30, 31, 32, 33, 105, 106, 107, 108, 109, 110, 111, 112, 113, 114, 115, 116, 117, 118, 119, 120, 121, 122, 123, 124, 125, 126, 127, 128, 129, 130, 131, 132, 133, 134, 135, 136, 137, 138, 139, 140, 141, 142] (by decide +kernel) (by decide +kernel)
set_option maxRecDepth 20000 in
theorem gX12_relay_X12_fillsRoads : GoodIn wsX12_relay (wsV RX12 411 RX12 yX12_fillsRoads wsX12_fillsRoads) := goodIn_app (goodIn_of _ (by decide +kernel)) ggX12_relay_X12_fillsRoads
set_option maxRecDepth 20000 in
theorem ggX12_relay_X12_power : GoodIn wsX12_relay wsX12_power := goodIn_r _ [45] (by decide +kernel) (by decide +kernel)
set_option maxRecDepth 20000 in
theorem gX12_relay_X12_power : GoodIn wsX12_relay (va_wsS RX12 401 yX12_power wsX12_power) := goodIn_app (goodIn_of _ (by decide +kernel)) ggX12_relay_X12_power
set_option maxRecDepth 20000 in
theorem ggX12_relay_X12_turnedByRow : GoodIn wsX12_relay wsX12_turnedByRow := goodIn_r _ [49, 5, 4, 38, 15, 16, 17, 9, 18, 50, 51, 52, 53, 43, 44, 45, 54, 55, 56, 57, 58, 59, 60, 61, 62, 63, 64, 65, 66, 67, 68, 69, 70, 71, 72, 73, 74, 75, 76, 77, 78, 79, 80, 81, 82, 83, 84, 85, 86, 87, 88, 89, 90, 91, 92, 93, 94, 95, 96, 97, 98, 99, 100, 101, 102, 103, 104, 105, 106, 107, 108, 109, 110, 111, 112, 113, 114, 115, 116, 117, 118, 119, 120, 121, 122, 123, 124, 125, 126, 127, 128, 129, 130, 131, 132, 133, 134, 135, 136, 137, 138, 139, 140, 141, 142] (by decide +kernel) (by decide +kernel)
set_option maxRecDepth 20000 in
theorem gX12_relay_X12_turnedByRow : GoodIn wsX12_relay (wsV RX12 414 RX12 yX12_turnedByRow wsX12_turnedByRow) := goodIn_app (goodIn_of _ (by decide +kernel)) ggX12_relay_X12_turnedByRow
set_option maxRecDepth 20000 in
theorem ggX12_relay_X12_handIn : GoodIn wsX12_relay wsX12_handIn := goodIn_r _ [53, 5, 4, 43, 44, 9, 45, 105, 106, 107, 108, 109, 110, 111, 112, 113, 114, 115, 116, 117, 118, 119, 120, 121, 122, 123, 124, 125, 126, 127, 128, 129, 130, 131, 132, 133, 134, 135, 136, 137, 138, 139, 140, 141, 142] (by decide +kernel) (by decide +kernel)
set_option maxRecDepth 20000 in
theorem gX12_relay_X12_handIn : GoodIn wsX12_relay (wsV RX12 404 RX12 yX12_handIn wsX12_handIn) := goodIn_app (goodIn_of _ (by decide +kernel)) ggX12_relay_X12_handIn
theorem dX12_relay_0 : decode cX12_relay 0 = .ok (.aload_n 0, 1) := by decide +kernel
theorem dX12_relay_1 : decode cX12_relay 1 = .ok (.iload_n 1, 1) := by decide +kernel
theorem dX12_relay_2 : decode cX12_relay 2 = .ok (.invokevirtual 312, 3) := by decide +kernel
theorem dX12_relay_5 : decode cX12_relay 5 = .ok (.ifCond .eq 58, 3) := by decide +kernel
theorem dX12_relay_8 : decode cX12_relay 8 = .ok (.aload_n 0, 1) := by decide +kernel
theorem dX12_relay_9 : decode cX12_relay 9 = .ok (.iload_n 1, 1) := by decide +kernel
theorem dX12_relay_10 : decode cX12_relay 10 = .ok (.invokevirtual 292, 3) := by decide +kernel
theorem dX12_relay_13 : decode cX12_relay 13 = .ok (.ifCond .eq 50, 3) := by decide +kernel
theorem dX12_relay_16 : decode cX12_relay 16 = .ok (.aload_n 0, 1) := by decide +kernel
theorem dX12_relay_17 : decode cX12_relay 17 = .ok (.iload_n 2, 1) := by decide +kernel
theorem dX12_relay_18 : decode cX12_relay 18 = .ok (.invokevirtual 371, 3) := by decide +kernel
theorem dX12_relay_21 : decode cX12_relay 21 = .ok (.ifCond .eq 42, 3) := by decide +kernel
theorem dX12_relay_24 : decode cX12_relay 24 = .ok (.iload_n 3, 1) := by decide +kernel
theorem dX12_relay_25 : decode cX12_relay 25 = .ok (.i2l, 1) := by decide +kernel
theorem dX12_relay_26 : decode cX12_relay 26 = .ok (.lconst 0, 1) := by decide +kernel
theorem dX12_relay_27 : decode cX12_relay 27 = .ok (.ldc2_w 407, 3) := by decide +kernel
theorem dX12_relay_30 : decode cX12_relay 30 = .ok (.invokestatic 118, 3) := by decide +kernel
theorem dX12_relay_33 : decode cX12_relay 33 = .ok (.ifCond .eq 30, 3) := by decide +kernel
theorem dX12_relay_36 : decode cX12_relay 36 = .ok (.iload 4, 2) := by decide +kernel
theorem dX12_relay_38 : decode cX12_relay 38 = .ok (.i2l, 1) := by decide +kernel
theorem dX12_relay_39 : decode cX12_relay 39 = .ok (.iload_n 3, 1) := by decide +kernel
theorem dX12_relay_40 : decode cX12_relay 40 = .ok (.i2l, 1) := by decide +kernel
theorem dX12_relay_41 : decode cX12_relay 41 = .ok (.ldc2_w 407, 3) := by decide +kernel
theorem dX12_relay_44 : decode cX12_relay 44 = .ok (.invokestatic 118, 3) := by decide +kernel
theorem dX12_relay_47 : decode cX12_relay 47 = .ok (.ifCond .eq 16, 3) := by decide +kernel
theorem dX12_relay_50 : decode cX12_relay 50 = .ok (.iload 5, 2) := by decide +kernel
theorem dX12_relay_52 : decode cX12_relay 52 = .ok (.i2l, 1) := by decide +kernel
theorem dX12_relay_53 : decode cX12_relay 53 = .ok (.lconst 0, 1) := by decide +kernel
theorem dX12_relay_54 : decode cX12_relay 54 = .ok (.ldc2_w 409, 3) := by decide +kernel
theorem dX12_relay_57 : decode cX12_relay 57 = .ok (.invokestatic 118, 3) := by decide +kernel
theorem dX12_relay_60 : decode cX12_relay 60 = .ok (.ifCond .ne 6, 3) := by decide +kernel
theorem dX12_relay_63 : decode cX12_relay 63 = .ok (.bipush (-3), 2) := by decide +kernel
theorem dX12_relay_65 : decode cX12_relay 65 = .ok (.ireturn, 1) := by decide +kernel
theorem dX12_relay_66 : decode cX12_relay 66 = .ok (.aload_n 0, 1) := by decide +kernel
theorem dX12_relay_67 : decode cX12_relay 67 = .ok (.iload_n 2, 1) := by decide +kernel
theorem dX12_relay_68 : decode cX12_relay 68 = .ok (.invokevirtual 388, 3) := by decide +kernel
theorem dX12_relay_71 : decode cX12_relay 71 = .ok (.aload_n 0, 1) := by decide +kernel
theorem dX12_relay_72 : decode cX12_relay 72 = .ok (.getfield 52, 3) := by decide +kernel
theorem dX12_relay_75 : decode cX12_relay 75 = .ok (.aload_n 0, 1) := by decide +kernel
theorem dX12_relay_76 : decode cX12_relay 76 = .ok (.iload_n 1, 1) := by decide +kernel
theorem dX12_relay_77 : decode cX12_relay 77 = .ok (.iconst 0, 1) := by decide +kernel
theorem dX12_relay_78 : decode cX12_relay 78 = .ok (.invokevirtual 284, 3) := by decide +kernel
theorem dX12_relay_81 : decode cX12_relay 81 = .ok (.iaload, 1) := by decide +kernel
theorem dX12_relay_82 : decode cX12_relay 82 = .ok (.bipush 99, 2) := by decide +kernel
theorem dX12_relay_84 : decode cX12_relay 84 = .ok (.if_icmp .lt 6, 3) := by decide +kernel
theorem dX12_relay_87 : decode cX12_relay 87 = .ok (.bipush (-2), 2) := by decide +kernel
theorem dX12_relay_89 : decode cX12_relay 89 = .ok (.ireturn, 1) := by decide +kernel
theorem dX12_relay_90 : decode cX12_relay 90 = .ok (.aload_n 0, 1) := by decide +kernel
theorem dX12_relay_91 : decode cX12_relay 91 = .ok (.aload_n 0, 1) := by decide +kernel
theorem dX12_relay_92 : decode cX12_relay 92 = .ok (.iload_n 1, 1) := by decide +kernel
theorem dX12_relay_93 : decode cX12_relay 93 = .ok (.iconst 0, 1) := by decide +kernel
theorem dX12_relay_94 : decode cX12_relay 94 = .ok (.invokevirtual 284, 3) := by decide +kernel
theorem dX12_relay_97 : decode cX12_relay 97 = .ok (.iload_n 2, 1) := by decide +kernel
theorem dX12_relay_98 : decode cX12_relay 98 = .ok (.invokevirtual 411, 3) := by decide +kernel
theorem dX12_relay_101 : decode cX12_relay 101 = .ok (.aload_n 0, 1) := by decide +kernel
theorem dX12_relay_102 : decode cX12_relay 102 = .ok (.getfield 398, 3) := by decide +kernel
theorem dX12_relay_105 : decode cX12_relay 105 = .ok (.ifCond .le 15, 3) := by decide +kernel
theorem dX12_relay_108 : decode cX12_relay 108 = .ok (.aload_n 0, 1) := by decide +kernel
theorem dX12_relay_109 : decode cX12_relay 109 = .ok (.getfield 39, 3) := by decide +kernel
theorem dX12_relay_112 : decode cX12_relay 112 = .ok (.iconst 4, 1) := by decide +kernel
theorem dX12_relay_113 : decode cX12_relay 113 = .ok (.iaload, 1) := by decide +kernel
theorem dX12_relay_114 : decode cX12_relay 114 = .ok (.ifCond .ne 6, 3) := by decide +kernel
theorem dX12_relay_117 : decode cX12_relay 117 = .ok (.bipush (-2), 2) := by decide +kernel
theorem dX12_relay_119 : decode cX12_relay 119 = .ok (.ireturn, 1) := by decide +kernel
theorem dX12_relay_120 : decode cX12_relay 120 = .ok (.iconst 0, 1) := by decide +kernel
theorem dX12_relay_121 : decode cX12_relay 121 = .ok (.istore 6, 2) := by decide +kernel
theorem dX12_relay_123 : decode cX12_relay 123 = .ok (.iconst (-1), 1) := by decide +kernel
theorem dX12_relay_124 : decode cX12_relay 124 = .ok (.istore 7, 2) := by decide +kernel
theorem dX12_relay_126 : decode cX12_relay 126 = .ok (.iconst (-1), 1) := by decide +kernel
theorem dX12_relay_127 : decode cX12_relay 127 = .ok (.istore 8, 2) := by decide +kernel
theorem dX12_relay_129 : decode cX12_relay 129 = .ok (.iconst 0, 1) := by decide +kernel
theorem dX12_relay_130 : decode cX12_relay 130 = .ok (.istore 9, 2) := by decide +kernel
theorem dX12_relay_132 : decode cX12_relay 132 = .ok (.iload 9, 2) := by decide +kernel
theorem dX12_relay_134 : decode cX12_relay 134 = .ok (.aload_n 0, 1) := by decide +kernel
theorem dX12_relay_135 : decode cX12_relay 135 = .ok (.getfield 39, 3) := by decide +kernel
theorem dX12_relay_138 : decode cX12_relay 138 = .ok (.iconst 4, 1) := by decide +kernel
theorem dX12_relay_139 : decode cX12_relay 139 = .ok (.iaload, 1) := by decide +kernel
theorem dX12_relay_140 : decode cX12_relay 140 = .ok (.aload_n 0, 1) := by decide +kernel
theorem dX12_relay_141 : decode cX12_relay 141 = .ok (.getfield 398, 3) := by decide +kernel
theorem dX12_relay_144 : decode cX12_relay 144 = .ok (.invokestatic 401, 3) := by decide +kernel
theorem dX12_relay_147 : decode cX12_relay 147 = .ok (.if_icmp .ge 68, 3) := by decide +kernel
theorem dX12_relay_150 : decode cX12_relay 150 = .ok (.aload_n 0, 1) := by decide +kernel
theorem dX12_relay_151 : decode cX12_relay 151 = .ok (.iload_n 1, 1) := by decide +kernel
theorem dX12_relay_152 : decode cX12_relay 152 = .ok (.iload 9, 2) := by decide +kernel
theorem dX12_relay_154 : decode cX12_relay 154 = .ok (.invokevirtual 414, 3) := by decide +kernel
theorem dX12_relay_157 : decode cX12_relay 157 = .ok (.istore 10, 2) := by decide +kernel
theorem dX12_relay_159 : decode cX12_relay 159 = .ok (.iload 8, 2) := by decide +kernel
theorem dX12_relay_161 : decode cX12_relay 161 = .ok (.ifCond .lt 10, 3) := by decide +kernel
theorem dX12_relay_164 : decode cX12_relay 164 = .ok (.iload 10, 2) := by decide +kernel
theorem dX12_relay_166 : decode cX12_relay 166 = .ok (.iload 8, 2) := by decide +kernel
theorem dX12_relay_168 : decode cX12_relay 168 = .ok (.if_icmp .ge 8, 3) := by decide +kernel
theorem dX12_relay_171 : decode cX12_relay 171 = .ok (.iload 10, 2) := by decide +kernel
theorem dX12_relay_173 : decode cX12_relay 173 = .ok (.goto 5, 3) := by decide +kernel
theorem dX12_relay_176 : decode cX12_relay 176 = .ok (.iload 8, 2) := by decide +kernel
theorem dX12_relay_178 : decode cX12_relay 178 = .ok (.istore 8, 2) := by decide +kernel
theorem dX12_relay_180 : decode cX12_relay 180 = .ok (.iload 10, 2) := by decide +kernel
theorem dX12_relay_182 : decode cX12_relay 182 = .ok (.i2l, 1) := by decide +kernel
theorem dX12_relay_183 : decode cX12_relay 183 = .ok (.iload_n 3, 1) := by decide +kernel
theorem dX12_relay_184 : decode cX12_relay 184 = .ok (.i2l, 1) := by decide +kernel
theorem dX12_relay_185 : decode cX12_relay 185 = .ok (.iload 4, 2) := by decide +kernel
theorem dX12_relay_187 : decode cX12_relay 187 = .ok (.i2l, 1) := by decide +kernel
theorem dX12_relay_188 : decode cX12_relay 188 = .ok (.invokestatic 118, 3) := by decide +kernel
theorem dX12_relay_191 : decode cX12_relay 191 = .ok (.ifCond .ne 6, 3) := by decide +kernel
theorem dX12_relay_194 : decode cX12_relay 194 = .ok (.goto 15, 3) := by decide +kernel
theorem dX12_relay_197 : decode cX12_relay 197 = .ok (.iload 6, 2) := by decide +kernel
theorem dX12_relay_199 : decode cX12_relay 199 = .ok (.ifCond .ne 7, 3) := by decide +kernel
theorem dX12_relay_202 : decode cX12_relay 202 = .ok (.iload 9, 2) := by decide +kernel
theorem dX12_relay_204 : decode cX12_relay 204 = .ok (.istore 7, 2) := by decide +kernel
theorem dX12_relay_206 : decode cX12_relay 206 = .ok (.iinc 6 1, 3) := by decide +kernel
theorem dX12_relay_209 : decode cX12_relay 209 = .ok (.iinc 9 1, 3) := by decide +kernel
theorem dX12_relay_212 : decode cX12_relay 212 = .ok (.goto (-80), 3) := by decide +kernel
theorem dX12_relay_215 : decode cX12_relay 215 = .ok (.iload 5, 2) := by decide +kernel
theorem dX12_relay_217 : decode cX12_relay 217 = .ok (.iconst 2, 1) := by decide +kernel
theorem dX12_relay_218 : decode cX12_relay 218 = .ok (.if_icmp .ge 16, 3) := by decide +kernel
theorem dX12_relay_221 : decode cX12_relay 221 = .ok (.iload 5, 2) := by decide +kernel
theorem dX12_relay_223 : decode cX12_relay 223 = .ok (.ifCond .ne 8, 3) := by decide +kernel
theorem dX12_relay_226 : decode cX12_relay 226 = .ok (.iload 6, 2) := by decide +kernel
theorem dX12_relay_228 : decode cX12_relay 228 = .ok (.goto 5, 3) := by decide +kernel
theorem dX12_relay_231 : decode cX12_relay 231 = .ok (.iload 8, 2) := by decide +kernel
theorem dX12_relay_233 : decode cX12_relay 233 = .ok (.ireturn, 1) := by decide +kernel
theorem dX12_relay_234 : decode cX12_relay 234 = .ok (.iload 7, 2) := by decide +kernel
theorem dX12_relay_236 : decode cX12_relay 236 = .ok (.ifCond .lt 14, 3) := by decide +kernel
theorem dX12_relay_239 : decode cX12_relay 239 = .ok (.iload 5, 2) := by decide +kernel
theorem dX12_relay_241 : decode cX12_relay 241 = .ok (.iconst 2, 1) := by decide +kernel
theorem dX12_relay_242 : decode cX12_relay 242 = .ok (.isub, 1) := by decide +kernel
theorem dX12_relay_243 : decode cX12_relay 243 = .ok (.aload_n 0, 1) := by decide +kernel
theorem dX12_relay_244 : decode cX12_relay 244 = .ok (.getfield 398, 3) := by decide +kernel
theorem dX12_relay_247 : decode cX12_relay 247 = .ok (.if_icmp .lt 8, 3) := by decide +kernel
theorem dX12_relay_250 : decode cX12_relay 250 = .ok (.bipush (-2), 2) := by decide +kernel
theorem dX12_relay_252 : decode cX12_relay 252 = .ok (.goto 13, 3) := by decide +kernel
theorem dX12_relay_255 : decode cX12_relay 255 = .ok (.aload_n 0, 1) := by decide +kernel
theorem dX12_relay_256 : decode cX12_relay 256 = .ok (.iload 7, 2) := by decide +kernel
theorem dX12_relay_258 : decode cX12_relay 258 = .ok (.iload 5, 2) := by decide +kernel
theorem dX12_relay_260 : decode cX12_relay 260 = .ok (.iconst 2, 1) := by decide +kernel
theorem dX12_relay_261 : decode cX12_relay 261 = .ok (.isub, 1) := by decide +kernel
theorem dX12_relay_262 : decode cX12_relay 262 = .ok (.invokevirtual 404, 3) := by decide +kernel
theorem dX12_relay_265 : decode cX12_relay 265 = .ok (.ireturn, 1) := by decide +kernel
set_option maxRecDepth 20000 in
theorem ggX12_jugIn_X12_power : GoodIn wsX12_jugIn wsX12_power := goodIn_r _ [5] (by decide +kernel) (by decide +kernel)
set_option maxRecDepth 20000 in
theorem gX12_jugIn_X12_power : GoodIn wsX12_jugIn (va_wsS RX12 401 yX12_power wsX12_power) := goodIn_app (goodIn_of _ (by decide +kernel)) ggX12_jugIn_X12_power
theorem dX12_jugIn_0 : decode cX12_jugIn 0 = .ok (.iload_n 1, 1) := by decide +kernel
theorem dX12_jugIn_1 : decode cX12_jugIn 1 = .ok (.aload_n 0, 1) := by decide +kernel
theorem dX12_jugIn_2 : decode cX12_jugIn 2 = .ok (.getfield 39, 3) := by decide +kernel
theorem dX12_jugIn_5 : decode cX12_jugIn 5 = .ok (.iconst 5, 1) := by decide +kernel
theorem dX12_jugIn_6 : decode cX12_jugIn 6 = .ok (.iaload, 1) := by decide +kernel
theorem dX12_jugIn_7 : decode cX12_jugIn 7 = .ok (.iconst 1, 1) := by decide +kernel
theorem dX12_jugIn_8 : decode cX12_jugIn 8 = .ok (.iadd, 1) := by decide +kernel
theorem dX12_jugIn_9 : decode cX12_jugIn 9 = .ok (.aload_n 0, 1) := by decide +kernel
theorem dX12_jugIn_10 : decode cX12_jugIn 10 = .ok (.getfield 39, 3) := by decide +kernel
theorem dX12_jugIn_13 : decode cX12_jugIn 13 = .ok (.bipush 6, 2) := by decide +kernel
theorem dX12_jugIn_15 : decode cX12_jugIn 15 = .ok (.iaload, 1) := by decide +kernel
theorem dX12_jugIn_16 : decode cX12_jugIn 16 = .ok (.iconst 1, 1) := by decide +kernel
theorem dX12_jugIn_17 : decode cX12_jugIn 17 = .ok (.isub, 1) := by decide +kernel
theorem dX12_jugIn_18 : decode cX12_jugIn 18 = .ok (.iload_n 2, 1) := by decide +kernel
theorem dX12_jugIn_19 : decode cX12_jugIn 19 = .ok (.isub, 1) := by decide +kernel
theorem dX12_jugIn_20 : decode cX12_jugIn 20 = .ok (.invokestatic 401, 3) := by decide +kernel
theorem dX12_jugIn_23 : decode cX12_jugIn 23 = .ok (.idiv, 1) := by decide +kernel
theorem dX12_jugIn_24 : decode cX12_jugIn 24 = .ok (.aload_n 0, 1) := by decide +kernel
theorem dX12_jugIn_25 : decode cX12_jugIn 25 = .ok (.getfield 39, 3) := by decide +kernel
theorem dX12_jugIn_28 : decode cX12_jugIn 28 = .ok (.iconst 5, 1) := by decide +kernel
theorem dX12_jugIn_29 : decode cX12_jugIn 29 = .ok (.iaload, 1) := by decide +kernel
theorem dX12_jugIn_30 : decode cX12_jugIn 30 = .ok (.iconst 1, 1) := by decide +kernel
theorem dX12_jugIn_31 : decode cX12_jugIn 31 = .ok (.iadd, 1) := by decide +kernel
theorem dX12_jugIn_32 : decode cX12_jugIn 32 = .ok (.irem, 1) := by decide +kernel
theorem dX12_jugIn_33 : decode cX12_jugIn 33 = .ok (.iconst 1, 1) := by decide +kernel
theorem dX12_jugIn_34 : decode cX12_jugIn 34 = .ok (.isub, 1) := by decide +kernel
theorem dX12_jugIn_35 : decode cX12_jugIn 35 = .ok (.ireturn, 1) := by decide +kernel
set_option maxRecDepth 20000 in
theorem ggX12_payBy_X12_jugIn : GoodIn wsX12_payBy wsX12_jugIn := goodIn_r _ [6, 1, 7, 8, 5, 9, 24, 25, 26, 27, 28, 29, 30, 31, 32, 33, 34, 35, 36, 37, 38, 39, 40, 41, 42, 43, 44, 45, 46, 47, 48, 49, 50, 51, 52, 53, 54, 55, 56, 57, 58, 59, 60, 61] (by decide +kernel) (by decide +kernel)
set_option maxRecDepth 20000 in
theorem gX12_payBy_X12_jugIn : GoodIn wsX12_payBy (wsV RX12 417 RX12 yX12_jugIn wsX12_jugIn) := goodIn_app (goodIn_of _ (by decide +kernel)) ggX12_payBy_X12_jugIn
set_option maxRecDepth 20000 in
theorem ggX12_payBy_X12_jugOf : GoodIn wsX12_payBy wsX12_jugOf := goodIn_r _ [13, 1, 24, 25, 26, 27, 28, 29, 30, 31, 32, 33, 34, 35, 36, 37, 38, 39, 40, 41, 42, 43, 44, 45, 46, 47, 48, 49, 50, 51, 52, 53, 54, 55, 56, 57, 58, 59, 60, 61] (by decide +kernel) (by decide +kernel)
set_option maxRecDepth 20000 in
theorem gX12_payBy_X12_jugOf : GoodIn wsX12_payBy (wsV RX12 284 RX12 yX12_jugOf wsX12_jugOf) := goodIn_app (goodIn_of _ (by decide +kernel)) ggX12_payBy_X12_jugOf
set_option maxRecDepth 20000 in
theorem ggX12_payBy_X12_isOf : GoodIn wsX12_payBy wsX12_isOf := goodIn_r _ [16] (by decide +kernel) (by decide +kernel)
set_option maxRecDepth 20000 in
theorem gX12_payBy_X12_isOf : GoodIn wsX12_payBy (va_wsS RX12 420 yX12_isOf wsX12_isOf) := goodIn_app (goodIn_of _ (by decide +kernel)) ggX12_payBy_X12_isOf
set_option maxRecDepth 20000 in
theorem ggX12_payBy_X12_wantOf : GoodIn wsX12_payBy wsX12_wantOf := goodIn_r _ [20, 1, 24, 25, 26, 27, 28, 29, 30, 31, 32, 33, 34, 35, 36, 37, 38, 39, 40, 41, 42, 43, 44, 45, 46, 47, 48, 49, 50, 51, 52, 53, 54, 55, 56, 57, 58, 59, 60, 61] (by decide +kernel) (by decide +kernel)
set_option maxRecDepth 20000 in
theorem gX12_payBy_X12_wantOf : GoodIn wsX12_payBy (wsV RX12 295 RX12 yX12_wantOf wsX12_wantOf) := goodIn_app (goodIn_of _ (by decide +kernel)) ggX12_payBy_X12_wantOf
set_option maxRecDepth 20000 in
theorem ggX12_payBy_X12_in : GoodIn wsX12_payBy wsX12_in := goodIn_r _ [23] (by decide +kernel) (by decide +kernel)
set_option maxRecDepth 20000 in
theorem gX12_payBy_X12_in : GoodIn wsX12_payBy (va_wsS RX12 118 yX12_in wsX12_in) := goodIn_app (goodIn_of _ (by decide +kernel)) ggX12_payBy_X12_in
theorem dX12_payBy_0 : decode cX12_payBy 0 = .ok (.iconst 0, 1) := by decide +kernel
theorem dX12_payBy_1 : decode cX12_payBy 1 = .ok (.istore_n 2, 1) := by decide +kernel
theorem dX12_payBy_2 : decode cX12_payBy 2 = .ok (.iconst 0, 1) := by decide +kernel
theorem dX12_payBy_3 : decode cX12_payBy 3 = .ok (.istore_n 3, 1) := by decide +kernel
theorem dX12_payBy_4 : decode cX12_payBy 4 = .ok (.iconst 0, 1) := by decide +kernel
theorem dX12_payBy_5 : decode cX12_payBy 5 = .ok (.istore 4, 2) := by decide +kernel
theorem dX12_payBy_7 : decode cX12_payBy 7 = .ok (.iload 4, 2) := by decide +kernel
theorem dX12_payBy_9 : decode cX12_payBy 9 = .ok (.aload_n 0, 1) := by decide +kernel
theorem dX12_payBy_10 : decode cX12_payBy 10 = .ok (.getfield 39, 3) := by decide +kernel
theorem dX12_payBy_13 : decode cX12_payBy 13 = .ok (.bipush 6, 2) := by decide +kernel
theorem dX12_payBy_15 : decode cX12_payBy 15 = .ok (.iaload, 1) := by decide +kernel
theorem dX12_payBy_16 : decode cX12_payBy 16 = .ok (.if_icmp .ge 108, 3) := by decide +kernel
theorem dX12_payBy_19 : decode cX12_payBy 19 = .ok (.aload_n 0, 1) := by decide +kernel
theorem dX12_payBy_20 : decode cX12_payBy 20 = .ok (.iload_n 1, 1) := by decide +kernel
theorem dX12_payBy_21 : decode cX12_payBy 21 = .ok (.iload 4, 2) := by decide +kernel
theorem dX12_payBy_23 : decode cX12_payBy 23 = .ok (.invokevirtual 417, 3) := by decide +kernel
theorem dX12_payBy_26 : decode cX12_payBy 26 = .ok (.istore 5, 2) := by decide +kernel
theorem dX12_payBy_28 : decode cX12_payBy 28 = .ok (.iload 5, 2) := by decide +kernel
theorem dX12_payBy_30 : decode cX12_payBy 30 = .ok (.ifCond .ge 6, 3) := by decide +kernel
theorem dX12_payBy_33 : decode cX12_payBy 33 = .ok (.goto 85, 3) := by decide +kernel
theorem dX12_payBy_36 : decode cX12_payBy 36 = .ok (.aload_n 0, 1) := by decide +kernel
theorem dX12_payBy_37 : decode cX12_payBy 37 = .ok (.getfield 39, 3) := by decide +kernel
theorem dX12_payBy_40 : decode cX12_payBy 40 = .ok (.bipush 51, 2) := by decide +kernel
theorem dX12_payBy_42 : decode cX12_payBy 42 = .ok (.iload 4, 2) := by decide +kernel
theorem dX12_payBy_44 : decode cX12_payBy 44 = .ok (.iadd, 1) := by decide +kernel
theorem dX12_payBy_45 : decode cX12_payBy 45 = .ok (.iaload, 1) := by decide +kernel
theorem dX12_payBy_46 : decode cX12_payBy 46 = .ok (.ifCond .ge 53, 3) := by decide +kernel
theorem dX12_payBy_49 : decode cX12_payBy 49 = .ok (.aload_n 0, 1) := by decide +kernel
theorem dX12_payBy_50 : decode cX12_payBy 50 = .ok (.iload 5, 2) := by decide +kernel
theorem dX12_payBy_52 : decode cX12_payBy 52 = .ok (.iconst 3, 1) := by decide +kernel
theorem dX12_payBy_53 : decode cX12_payBy 53 = .ok (.invokevirtual 284, 3) := by decide +kernel
theorem dX12_payBy_56 : decode cX12_payBy 56 = .ok (.iconst 1, 1) := by decide +kernel
theorem dX12_payBy_57 : decode cX12_payBy 57 = .ok (.if_icmp .eq 42, 3) := by decide +kernel
theorem dX12_payBy_60 : decode cX12_payBy 60 = .ok (.iload_n 2, 1) := by decide +kernel
theorem dX12_payBy_61 : decode cX12_payBy 61 = .ok (.iload 5, 2) := by decide +kernel
theorem dX12_payBy_63 : decode cX12_payBy 63 = .ok (.invokestatic 420, 3) := by decide +kernel
theorem dX12_payBy_66 : decode cX12_payBy 66 = .ok (.ifCond .ne 33, 3) := by decide +kernel
theorem dX12_payBy_69 : decode cX12_payBy 69 = .ok (.aload_n 0, 1) := by decide +kernel
theorem dX12_payBy_70 : decode cX12_payBy 70 = .ok (.iload 5, 2) := by decide +kernel
theorem dX12_payBy_72 : decode cX12_payBy 72 = .ok (.iconst 2, 1) := by decide +kernel
theorem dX12_payBy_73 : decode cX12_payBy 73 = .ok (.invokevirtual 284, 3) := by decide +kernel
theorem dX12_payBy_76 : decode cX12_payBy 76 = .ok (.i2l, 1) := by decide +kernel
theorem dX12_payBy_77 : decode cX12_payBy 77 = .ok (.aload_n 0, 1) := by decide +kernel
theorem dX12_payBy_78 : decode cX12_payBy 78 = .ok (.iload 4, 2) := by decide +kernel
theorem dX12_payBy_80 : decode cX12_payBy 80 = .ok (.iconst 1, 1) := by decide +kernel
theorem dX12_payBy_81 : decode cX12_payBy 81 = .ok (.invokevirtual 295, 3) := by decide +kernel
theorem dX12_payBy_84 : decode cX12_payBy 84 = .ok (.i2l, 1) := by decide +kernel
theorem dX12_payBy_85 : decode cX12_payBy 85 = .ok (.aload_n 0, 1) := by decide +kernel
theorem dX12_payBy_86 : decode cX12_payBy 86 = .ok (.iload 4, 2) := by decide +kernel
theorem dX12_payBy_88 : decode cX12_payBy 88 = .ok (.iconst 2, 1) := by decide +kernel
theorem dX12_payBy_89 : decode cX12_payBy 89 = .ok (.invokevirtual 295, 3) := by decide +kernel
theorem dX12_payBy_92 : decode cX12_payBy 92 = .ok (.i2l, 1) := by decide +kernel
theorem dX12_payBy_93 : decode cX12_payBy 93 = .ok (.invokestatic 118, 3) := by decide +kernel
theorem dX12_payBy_96 : decode cX12_payBy 96 = .ok (.ifCond .ne 5, 3) := by decide +kernel
theorem dX12_payBy_99 : decode cX12_payBy 99 = .ok (.iconst (-1), 1) := by decide +kernel
theorem dX12_payBy_100 : decode cX12_payBy 100 = .ok (.ireturn, 1) := by decide +kernel
theorem dX12_payBy_101 : decode cX12_payBy 101 = .ok (.iload_n 2, 1) := by decide +kernel
theorem dX12_payBy_102 : decode cX12_payBy 102 = .ok (.iconst 1, 1) := by decide +kernel
theorem dX12_payBy_103 : decode cX12_payBy 103 = .ok (.iload 5, 2) := by decide +kernel
theorem dX12_payBy_105 : decode cX12_payBy 105 = .ok (.ishl, 1) := by decide +kernel
theorem dX12_payBy_106 : decode cX12_payBy 106 = .ok (.ior, 1) := by decide +kernel
theorem dX12_payBy_107 : decode cX12_payBy 107 = .ok (.istore_n 2, 1) := by decide +kernel
theorem dX12_payBy_108 : decode cX12_payBy 108 = .ok (.iload_n 3, 1) := by decide +kernel
theorem dX12_payBy_109 : decode cX12_payBy 109 = .ok (.aload_n 0, 1) := by decide +kernel
theorem dX12_payBy_110 : decode cX12_payBy 110 = .ok (.iload 4, 2) := by decide +kernel
theorem dX12_payBy_112 : decode cX12_payBy 112 = .ok (.iconst 3, 1) := by decide +kernel
theorem dX12_payBy_113 : decode cX12_payBy 113 = .ok (.invokevirtual 295, 3) := by decide +kernel
theorem dX12_payBy_116 : decode cX12_payBy 116 = .ok (.iadd, 1) := by decide +kernel
theorem dX12_payBy_117 : decode cX12_payBy 117 = .ok (.istore_n 3, 1) := by decide +kernel
theorem dX12_payBy_118 : decode cX12_payBy 118 = .ok (.iinc 4 1, 3) := by decide +kernel
theorem dX12_payBy_121 : decode cX12_payBy 121 = .ok (.goto (-114), 3) := by decide +kernel
theorem dX12_payBy_124 : decode cX12_payBy 124 = .ok (.iload_n 3, 1) := by decide +kernel
theorem dX12_payBy_125 : decode cX12_payBy 125 = .ok (.ireturn, 1) := by decide +kernel
set_option maxRecDepth 20000 in
theorem ggX12_match_X12_isDairy : GoodIn wsX12_match wsX12_isDairy := goodIn_r _ [7, 2, 33, 34, 35, 36, 37, 38, 39, 40, 41, 42, 43, 44, 45, 46, 47, 48, 49, 50, 51, 52, 53, 54, 55, 56, 57, 58, 59, 60, 61, 62, 63, 64, 65, 66, 67, 68, 69, 70] (by decide +kernel) (by decide +kernel)
set_option maxRecDepth 20000 in
theorem gX12_match_X12_isDairy : GoodIn wsX12_match (wsV RX12 350 RX12 yX12_isDairy wsX12_isDairy) := goodIn_app (goodIn_of _ (by decide +kernel)) ggX12_match_X12_isDairy
set_option maxRecDepth 20000 in
theorem ggX12_match_X12_in : GoodIn wsX12_match wsX12_in := goodIn_r _ [10] (by decide +kernel) (by decide +kernel)
set_option maxRecDepth 20000 in
theorem gX12_match_X12_in : GoodIn wsX12_match (va_wsS RX12 118 yX12_in wsX12_in) := goodIn_app (goodIn_of _ (by decide +kernel)) ggX12_match_X12_in
set_option maxRecDepth 20000 in
theorem ggX12_match_X12_power : GoodIn wsX12_match wsX12_power := goodIn_r _ [13] (by decide +kernel) (by decide +kernel)
set_option maxRecDepth 20000 in
theorem gX12_match_X12_power : GoodIn wsX12_match (va_wsS RX12 401 yX12_power wsX12_power) := goodIn_app (goodIn_of _ (by decide +kernel)) ggX12_match_X12_power
set_option maxRecDepth 20000 in
theorem ggX12_match_X12_payBy : GoodIn wsX12_match wsX12_payBy := goodIn_r _ [17, 2, 18, 19, 20, 6, 21, 11, 12, 13, 22, 23, 24, 25, 26, 27, 28, 29, 30, 31, 32, 8, 9, 10, 33, 34, 35, 36, 37, 38, 39, 40, 41, 42, 43, 44, 45, 46, 47, 48, 49, 50, 51, 52, 53, 54, 55, 56, 57, 58, 59, 60, 61, 62, 63, 64, 65, 66, 67, 68, 69, 70] (by decide +kernel) (by decide +kernel)
set_option maxRecDepth 20000 in
theorem gX12_match_X12_payBy : GoodIn wsX12_match (wsV RX12 423 RX12 yX12_payBy wsX12_payBy) := goodIn_app (goodIn_of _ (by decide +kernel)) ggX12_match_X12_payBy
set_option maxRecDepth 20000 in
theorem ggX12_match_X12_jugIn : GoodIn wsX12_match wsX12_jugIn := goodIn_r _ [21, 2, 11, 12, 6, 13, 33, 34, 35, 36, 37, 38, 39, 40, 41, 42, 43, 44, 45, 46, 47, 48, 49, 50, 51, 52, 53, 54, 55, 56, 57, 58, 59, 60, 61, 62, 63, 64, 65, 66, 67, 68, 69, 70] (by decide +kernel) (by decide +kernel)
set_option maxRecDepth 20000 in
theorem gX12_match_X12_jugIn : GoodIn wsX12_match (wsV RX12 417 RX12 yX12_jugIn wsX12_jugIn) := goodIn_app (goodIn_of _ (by decide +kernel)) ggX12_match_X12_jugIn
theorem dX12_match_0 : decode cX12_match 0 = .ok (.aload_n 0, 1) := by decide +kernel
theorem dX12_match_1 : decode cX12_match 1 = .ok (.invokevirtual 350, 3) := by decide +kernel
theorem dX12_match_4 : decode cX12_match 4 = .ok (.ifCond .eq 15, 3) := by decide +kernel
theorem dX12_match_7 : decode cX12_match 7 = .ok (.iload_n 1, 1) := by decide +kernel
theorem dX12_match_8 : decode cX12_match 8 = .ok (.i2l, 1) := by decide +kernel
theorem dX12_match_9 : decode cX12_match 9 = .ok (.lconst 0, 1) := by decide +kernel
theorem dX12_match_10 : decode cX12_match 10 = .ok (.ldc2_w 409, 3) := by decide +kernel
theorem dX12_match_13 : decode cX12_match 13 = .ok (.invokestatic 118, 3) := by decide +kernel
theorem dX12_match_16 : decode cX12_match 16 = .ok (.ifCond .ne 6, 3) := by decide +kernel
theorem dX12_match_19 : decode cX12_match 19 = .ok (.bipush (-3), 2) := by decide +kernel
theorem dX12_match_21 : decode cX12_match 21 = .ok (.ireturn, 1) := by decide +kernel
theorem dX12_match_22 : decode cX12_match 22 = .ok (.iconst 0, 1) := by decide +kernel
theorem dX12_match_23 : decode cX12_match 23 = .ok (.istore_n 2, 1) := by decide +kernel
theorem dX12_match_24 : decode cX12_match 24 = .ok (.iconst 0, 1) := by decide +kernel
theorem dX12_match_25 : decode cX12_match 25 = .ok (.istore_n 3, 1) := by decide +kernel
theorem dX12_match_26 : decode cX12_match 26 = .ok (.iconst 1, 1) := by decide +kernel
theorem dX12_match_27 : decode cX12_match 27 = .ok (.istore 4, 2) := by decide +kernel
theorem dX12_match_29 : decode cX12_match 29 = .ok (.iload 4, 2) := by decide +kernel
theorem dX12_match_31 : decode cX12_match 31 = .ok (.aload_n 0, 1) := by decide +kernel
theorem dX12_match_32 : decode cX12_match 32 = .ok (.getfield 39, 3) := by decide +kernel
theorem dX12_match_35 : decode cX12_match 35 = .ok (.iconst 5, 1) := by decide +kernel
theorem dX12_match_36 : decode cX12_match 36 = .ok (.iaload, 1) := by decide +kernel
theorem dX12_match_37 : decode cX12_match 37 = .ok (.iconst 1, 1) := by decide +kernel
theorem dX12_match_38 : decode cX12_match 38 = .ok (.iadd, 1) := by decide +kernel
theorem dX12_match_39 : decode cX12_match 39 = .ok (.aload_n 0, 1) := by decide +kernel
theorem dX12_match_40 : decode cX12_match 40 = .ok (.getfield 39, 3) := by decide +kernel
theorem dX12_match_43 : decode cX12_match 43 = .ok (.bipush 6, 2) := by decide +kernel
theorem dX12_match_45 : decode cX12_match 45 = .ok (.iaload, 1) := by decide +kernel
theorem dX12_match_46 : decode cX12_match 46 = .ok (.invokestatic 401, 3) := by decide +kernel
theorem dX12_match_49 : decode cX12_match 49 = .ok (.if_icmp .ge 32, 3) := by decide +kernel
theorem dX12_match_52 : decode cX12_match 52 = .ok (.aload_n 0, 1) := by decide +kernel
theorem dX12_match_53 : decode cX12_match 53 = .ok (.iload 4, 2) := by decide +kernel
theorem dX12_match_55 : decode cX12_match 55 = .ok (.invokevirtual 423, 3) := by decide +kernel
theorem dX12_match_58 : decode cX12_match 58 = .ok (.istore 5, 2) := by decide +kernel
theorem dX12_match_60 : decode cX12_match 60 = .ok (.iload 5, 2) := by decide +kernel
theorem dX12_match_62 : decode cX12_match 62 = .ok (.iload_n 3, 1) := by decide +kernel
theorem dX12_match_63 : decode cX12_match 63 = .ok (.if_icmp .gt 6, 3) := by decide +kernel
theorem dX12_match_66 : decode cX12_match 66 = .ok (.goto 9, 3) := by decide +kernel
theorem dX12_match_69 : decode cX12_match 69 = .ok (.iload 4, 2) := by decide +kernel
theorem dX12_match_71 : decode cX12_match 71 = .ok (.istore_n 2, 1) := by decide +kernel
theorem dX12_match_72 : decode cX12_match 72 = .ok (.iload 5, 2) := by decide +kernel
theorem dX12_match_74 : decode cX12_match 74 = .ok (.istore_n 3, 1) := by decide +kernel
theorem dX12_match_75 : decode cX12_match 75 = .ok (.iinc 4 1, 3) := by decide +kernel
theorem dX12_match_78 : decode cX12_match 78 = .ok (.goto (-49), 3) := by decide +kernel
theorem dX12_match_81 : decode cX12_match 81 = .ok (.iload_n 1, 1) := by decide +kernel
theorem dX12_match_82 : decode cX12_match 82 = .ok (.ifCond .ne 7, 3) := by decide +kernel
theorem dX12_match_85 : decode cX12_match 85 = .ok (.iload_n 3, 1) := by decide +kernel
theorem dX12_match_86 : decode cX12_match 86 = .ok (.goto 27, 3) := by decide +kernel
theorem dX12_match_89 : decode cX12_match 89 = .ok (.iload_n 1, 1) := by decide +kernel
theorem dX12_match_90 : decode cX12_match 90 = .ok (.aload_n 0, 1) := by decide +kernel
theorem dX12_match_91 : decode cX12_match 91 = .ok (.getfield 39, 3) := by decide +kernel
theorem dX12_match_94 : decode cX12_match 94 = .ok (.bipush 6, 2) := by decide +kernel
theorem dX12_match_96 : decode cX12_match 96 = .ok (.iaload, 1) := by decide +kernel
theorem dX12_match_97 : decode cX12_match 97 = .ok (.if_icmp .le 8, 3) := by decide +kernel
theorem dX12_match_100 : decode cX12_match 100 = .ok (.bipush (-2), 2) := by decide +kernel
theorem dX12_match_102 : decode cX12_match 102 = .ok (.goto 11, 3) := by decide +kernel
theorem dX12_match_105 : decode cX12_match 105 = .ok (.aload_n 0, 1) := by decide +kernel
theorem dX12_match_106 : decode cX12_match 106 = .ok (.iload_n 2, 1) := by decide +kernel
theorem dX12_match_107 : decode cX12_match 107 = .ok (.iload_n 1, 1) := by decide +kernel
theorem dX12_match_108 : decode cX12_match 108 = .ok (.iconst 1, 1) := by decide +kernel
theorem dX12_match_109 : decode cX12_match 109 = .ok (.isub, 1) := by decide +kernel
theorem dX12_match_110 : decode cX12_match 110 = .ok (.invokevirtual 417, 3) := by decide +kernel
theorem dX12_match_113 : decode cX12_match 113 = .ok (.ireturn, 1) := by decide +kernel
set_option maxRecDepth 20000 in
theorem ggX12_turnedResting_X12_handOf : GoodIn wsX12_turnedResting wsX12_handOf := goodIn_r _ [6, 1, 53, 54, 55, 56, 57, 58, 59, 60, 61, 62, 63, 64, 65, 66, 67, 68, 69, 70, 71, 72, 73, 74, 75, 76, 77, 78, 79, 80, 81, 82, 83, 84, 85, 86, 87, 88, 89, 90] (by decide +kernel) (by decide +kernel)
set_option maxRecDepth 20000 in
theorem gX12_turnedResting_X12_handOf : GoodIn wsX12_turnedResting (wsV RX12 306 RX12 yX12_handOf wsX12_handOf) := goodIn_app (goodIn_of _ (by decide +kernel)) ggX12_turnedResting_X12_handOf
set_option maxRecDepth 20000 in
theorem ggX12_turnedResting_X12_isOf : GoodIn wsX12_turnedResting wsX12_isOf := goodIn_r _ [9] (by decide +kernel) (by decide +kernel)
set_option maxRecDepth 20000 in
theorem gX12_turnedResting_X12_isOf : GoodIn wsX12_turnedResting (va_wsS RX12 420 yX12_isOf wsX12_isOf) := goodIn_app (goodIn_of _ (by decide +kernel)) ggX12_turnedResting_X12_isOf
set_option maxRecDepth 20000 in
theorem ggX12_turnedResting_X12_turnsIn : GoodIn wsX12_turnedResting wsX12_turnsIn := goodIn_r _ [13, 14, 15, 1, 16, 17, 18, 19, 5, 20, 21, 2, 3, 4, 6, 22, 23, 24, 25, 26, 27, 28, 29, 30, 31, 32, 33, 34, 35, 36, 37, 38, 39, 40, 41, 42, 43, 44, 45, 53, 54, 55, 56, 57, 58, 59, 60, 61, 62, 63, 64, 65, 66, 67, 68, 69, 70, 71, 72, 73, 74, 75, 76, 77, 78, 79, 80, 81, 82, 83, 84, 85, 86, 87, 88, 89, 90] (by decide +kernel) (by decide +kernel)
set_option maxRecDepth 20000 in
theorem gX12_turnedResting_X12_turnsIn : GoodIn wsX12_turnedResting (wsV RX12 337 RX12 yX12_turnsIn wsX12_turnsIn) := goodIn_app (goodIn_of _ (by decide +kernel)) ggX12_turnedResting_X12_turnsIn
set_option maxRecDepth 20000 in
theorem ggX12_turnedResting_X12_atMost : GoodIn wsX12_turnedResting wsX12_atMost := goodIn_r _ [48] (by decide +kernel) (by decide +kernel)
set_option maxRecDepth 20000 in
theorem gX12_turnedResting_X12_atMost : GoodIn wsX12_turnedResting (va_wsS RX12 334 yX12_atMost wsX12_atMost) := goodIn_app (goodIn_of _ (by decide +kernel)) ggX12_turnedResting_X12_atMost
set_option maxRecDepth 20000 in
theorem ggX12_turnedResting_X12_moreTired : GoodIn wsX12_turnedResting wsX12_moreTired := goodIn_r _ [52, 2, 3, 4, 5, 6, 1, 46, 47, 48, 53, 54, 55, 56, 57, 58, 59, 60, 61, 62, 63, 64, 65, 66, 67, 68, 69, 70, 71, 72, 73, 74, 75, 76, 77, 78, 79, 80, 81, 82, 83, 84, 85, 86, 87, 88, 89, 90] (by decide +kernel) (by decide +kernel)
set_option maxRecDepth 20000 in
theorem gX12_turnedResting_X12_moreTired : GoodIn wsX12_turnedResting (wsV RX12 341 RX12 yX12_moreTired wsX12_moreTired) := goodIn_app (goodIn_of _ (by decide +kernel)) ggX12_turnedResting_X12_moreTired
theorem dX12_turnedResting_0 : decode cX12_turnedResting 0 = .ok (.iconst 0, 1) := by decide +kernel
theorem dX12_turnedResting_1 : decode cX12_turnedResting 1 = .ok (.istore 4, 2) := by decide +kernel
theorem dX12_turnedResting_3 : decode cX12_turnedResting 3 = .ok (.aload_n 0, 1) := by decide +kernel
theorem dX12_turnedResting_4 : decode cX12_turnedResting 4 = .ok (.iload_n 1, 1) := by decide +kernel
theorem dX12_turnedResting_5 : decode cX12_turnedResting 5 = .ok (.iconst 2, 1) := by decide +kernel
theorem dX12_turnedResting_6 : decode cX12_turnedResting 6 = .ok (.invokevirtual 306, 3) := by decide +kernel
theorem dX12_turnedResting_9 : decode cX12_turnedResting 9 = .ok (.istore 5, 2) := by decide +kernel
theorem dX12_turnedResting_11 : decode cX12_turnedResting 11 = .ok (.iconst 0, 1) := by decide +kernel
theorem dX12_turnedResting_12 : decode cX12_turnedResting 12 = .ok (.istore 6, 2) := by decide +kernel
theorem dX12_turnedResting_14 : decode cX12_turnedResting 14 = .ok (.iload 6, 2) := by decide +kernel
theorem dX12_turnedResting_16 : decode cX12_turnedResting 16 = .ok (.iload_n 2, 1) := by decide +kernel
theorem dX12_turnedResting_17 : decode cX12_turnedResting 17 = .ok (.if_icmp .ge 78, 3) := by decide +kernel
theorem dX12_turnedResting_20 : decode cX12_turnedResting 20 = .ok (.iload_n 3, 1) := by decide +kernel
theorem dX12_turnedResting_21 : decode cX12_turnedResting 21 = .ok (.iload 6, 2) := by decide +kernel
theorem dX12_turnedResting_23 : decode cX12_turnedResting 23 = .ok (.invokestatic 420, 3) := by decide +kernel
theorem dX12_turnedResting_26 : decode cX12_turnedResting 26 = .ok (.ifCond .eq 48, 3) := by decide +kernel
theorem dX12_turnedResting_29 : decode cX12_turnedResting 29 = .ok (.iload 4, 2) := by decide +kernel
theorem dX12_turnedResting_31 : decode cX12_turnedResting 31 = .ok (.aload_n 0, 1) := by decide +kernel
theorem dX12_turnedResting_32 : decode cX12_turnedResting 32 = .ok (.iload_n 1, 1) := by decide +kernel
theorem dX12_turnedResting_33 : decode cX12_turnedResting 33 = .ok (.iload 5, 2) := by decide +kernel
theorem dX12_turnedResting_35 : decode cX12_turnedResting 35 = .ok (.iconst 0, 1) := by decide +kernel
theorem dX12_turnedResting_36 : decode cX12_turnedResting 36 = .ok (.iload 4, 2) := by decide +kernel
theorem dX12_turnedResting_38 : decode cX12_turnedResting 38 = .ok (.aload_n 0, 1) := by decide +kernel
theorem dX12_turnedResting_39 : decode cX12_turnedResting 39 = .ok (.getfield 39, 3) := by decide +kernel
theorem dX12_turnedResting_42 : decode cX12_turnedResting 42 = .ok (.bipush 7, 2) := by decide +kernel
theorem dX12_turnedResting_44 : decode cX12_turnedResting 44 = .ok (.iaload, 1) := by decide +kernel
theorem dX12_turnedResting_45 : decode cX12_turnedResting 45 = .ok (.iload 6, 2) := by decide +kernel
theorem dX12_turnedResting_47 : decode cX12_turnedResting 47 = .ok (.iadd, 1) := by decide +kernel
theorem dX12_turnedResting_48 : decode cX12_turnedResting 48 = .ok (.iconst 0, 1) := by decide +kernel
theorem dX12_turnedResting_49 : decode cX12_turnedResting 49 = .ok (.iconst 1, 1) := by decide +kernel
theorem dX12_turnedResting_50 : decode cX12_turnedResting 50 = .ok (.invokevirtual 337, 3) := by decide +kernel
theorem dX12_turnedResting_53 : decode cX12_turnedResting 53 = .ok (.iadd, 1) := by decide +kernel
theorem dX12_turnedResting_54 : decode cX12_turnedResting 54 = .ok (.sipush 999, 3) := by decide +kernel
theorem dX12_turnedResting_57 : decode cX12_turnedResting 57 = .ok (.invokestatic 334, 3) := by decide +kernel
theorem dX12_turnedResting_60 : decode cX12_turnedResting 60 = .ok (.istore 4, 2) := by decide +kernel
theorem dX12_turnedResting_62 : decode cX12_turnedResting 62 = .ok (.aload_n 0, 1) := by decide +kernel
theorem dX12_turnedResting_63 : decode cX12_turnedResting 63 = .ok (.iload_n 1, 1) := by decide +kernel
theorem dX12_turnedResting_64 : decode cX12_turnedResting 64 = .ok (.iload 5, 2) := by decide +kernel
theorem dX12_turnedResting_66 : decode cX12_turnedResting 66 = .ok (.invokevirtual 341, 3) := by decide +kernel
theorem dX12_turnedResting_69 : decode cX12_turnedResting 69 = .ok (.istore 5, 2) := by decide +kernel
theorem dX12_turnedResting_71 : decode cX12_turnedResting 71 = .ok (.goto 18, 3) := by decide +kernel
theorem dX12_turnedResting_74 : decode cX12_turnedResting 74 = .ok (.iload 5, 2) := by decide +kernel
theorem dX12_turnedResting_76 : decode cX12_turnedResting 76 = .ok (.iload 5, 2) := by decide +kernel
theorem dX12_turnedResting_78 : decode cX12_turnedResting 78 = .ok (.ifCond .le 7, 3) := by decide +kernel
theorem dX12_turnedResting_81 : decode cX12_turnedResting 81 = .ok (.iconst 1, 1) := by decide +kernel
theorem dX12_turnedResting_82 : decode cX12_turnedResting 82 = .ok (.goto 4, 3) := by decide +kernel
theorem dX12_turnedResting_85 : decode cX12_turnedResting 85 = .ok (.iconst 0, 1) := by decide +kernel
theorem dX12_turnedResting_86 : decode cX12_turnedResting 86 = .ok (.isub, 1) := by decide +kernel
theorem dX12_turnedResting_87 : decode cX12_turnedResting 87 = .ok (.istore 5, 2) := by decide +kernel
theorem dX12_turnedResting_89 : decode cX12_turnedResting 89 = .ok (.iinc 6 1, 3) := by decide +kernel
theorem dX12_turnedResting_92 : decode cX12_turnedResting 92 = .ok (.goto (-78), 3) := by decide +kernel
theorem dX12_turnedResting_95 : decode cX12_turnedResting 95 = .ok (.iload 4, 2) := by decide +kernel
theorem dX12_turnedResting_97 : decode cX12_turnedResting 97 = .ok (.ireturn, 1) := by decide +kernel
set_option maxRecDepth 20000 in
theorem ggX12_rest_X12_isHand : GoodIn wsX12_rest wsX12_isHand := goodIn_r _ [6, 7, 68, 69, 70, 71, 72, 73, 74, 75, 76, 77, 78, 79, 80, 81, 82, 83, 84, 85, 86, 87, 88, 89, 90, 91, 92, 93, 94, 95, 96, 97, 98, 99, 100, 101, 102, 103, 104, 105] (by decide +kernel) (by decide +kernel)
set_option maxRecDepth 20000 in
theorem gX12_rest_X12_isHand : GoodIn wsX12_rest (wsV RX12 301 RX12 yX12_isHand wsX12_isHand) := goodIn_app (goodIn_of _ (by decide +kernel)) ggX12_rest_X12_isHand
set_option maxRecDepth 20000 in
theorem ggX12_rest_X12_in : GoodIn wsX12_rest wsX12_in := goodIn_r _ [10] (by decide +kernel) (by decide +kernel)
set_option maxRecDepth 20000 in
theorem gX12_rest_X12_in : GoodIn wsX12_rest (va_wsS RX12 118 yX12_in wsX12_in) := goodIn_app (goodIn_of _ (by decide +kernel)) ggX12_rest_X12_in
set_option maxRecDepth 20000 in
theorem ggX12_rest_X12_bits : GoodIn wsX12_rest wsX12_bits := goodIn_r _ [13] (by decide +kernel) (by decide +kernel)
set_option maxRecDepth 20000 in
theorem gX12_rest_X12_bits : GoodIn wsX12_rest (va_wsS RX12 344 yX12_bits wsX12_bits) := goodIn_app (goodIn_of _ (by decide +kernel)) ggX12_rest_X12_bits
set_option maxRecDepth 20000 in
theorem ggX12_rest_X12_turnedResting : GoodIn wsX12_rest wsX12_turnedResting := goodIn_r _ [17, 7, 18, 19, 20, 5, 21, 22, 23, 24, 25, 26, 27, 28, 29, 30, 31, 32, 33, 34, 35, 36, 37, 38, 39, 40, 41, 42, 43, 44, 45, 46, 47, 48, 49, 50, 51, 52, 53, 54, 55, 56, 57, 58, 59, 60, 61, 62, 63, 64, 65, 66, 67, 68, 69, 70, 71, 72, 73, 74, 75, 76, 77, 78, 79, 80, 81, 82, 83, 84, 85, 86, 87, 88, 89, 90, 91, 92, 93, 94, 95, 96, 97, 98, 99, 100, 101, 102, 103, 104, 105] (by decide +kernel) (by decide +kernel)
set_option maxRecDepth 20000 in
theorem gX12_rest_X12_turnedResting : GoodIn wsX12_rest (wsV RX12 428 RX12 yX12_turnedResting wsX12_turnedResting) := goodIn_app (goodIn_of _ (by decide +kernel)) ggX12_rest_X12_turnedResting
theorem dX12_rest_0 : decode cX12_rest 0 = .ok (.aload_n 0, 1) := by decide +kernel
theorem dX12_rest_1 : decode cX12_rest 1 = .ok (.iload_n 1, 1) := by decide +kernel
theorem dX12_rest_2 : decode cX12_rest 2 = .ok (.invokevirtual 301, 3) := by decide +kernel
theorem dX12_rest_5 : decode cX12_rest 5 = .ok (.ifCond .eq 37, 3) := by decide +kernel
theorem dX12_rest_8 : decode cX12_rest 8 = .ok (.iload_n 2, 1) := by decide +kernel
theorem dX12_rest_9 : decode cX12_rest 9 = .ok (.i2l, 1) := by decide +kernel
theorem dX12_rest_10 : decode cX12_rest 10 = .ok (.lconst 1, 1) := by decide +kernel
theorem dX12_rest_11 : decode cX12_rest 11 = .ok (.ldc2_w 426, 3) := by decide +kernel
theorem dX12_rest_14 : decode cX12_rest 14 = .ok (.invokestatic 118, 3) := by decide +kernel
theorem dX12_rest_17 : decode cX12_rest 17 = .ok (.ifCond .eq 25, 3) := by decide +kernel
theorem dX12_rest_20 : decode cX12_rest 20 = .ok (.iload_n 3, 1) := by decide +kernel
theorem dX12_rest_21 : decode cX12_rest 21 = .ok (.i2l, 1) := by decide +kernel
theorem dX12_rest_22 : decode cX12_rest 22 = .ok (.lconst 0, 1) := by decide +kernel
theorem dX12_rest_23 : decode cX12_rest 23 = .ok (.iload_n 2, 1) := by decide +kernel
theorem dX12_rest_24 : decode cX12_rest 24 = .ok (.i2l, 1) := by decide +kernel
theorem dX12_rest_25 : decode cX12_rest 25 = .ok (.invokestatic 118, 3) := by decide +kernel
theorem dX12_rest_28 : decode cX12_rest 28 = .ok (.ifCond .eq 14, 3) := by decide +kernel
theorem dX12_rest_31 : decode cX12_rest 31 = .ok (.iload 4, 2) := by decide +kernel
theorem dX12_rest_33 : decode cX12_rest 33 = .ok (.i2l, 1) := by decide +kernel
theorem dX12_rest_34 : decode cX12_rest 34 = .ok (.lconst 0, 1) := by decide +kernel
theorem dX12_rest_35 : decode cX12_rest 35 = .ok (.lconst 1, 1) := by decide +kernel
theorem dX12_rest_36 : decode cX12_rest 36 = .ok (.invokestatic 118, 3) := by decide +kernel
theorem dX12_rest_39 : decode cX12_rest 39 = .ok (.ifCond .ne 5, 3) := by decide +kernel
theorem dX12_rest_42 : decode cX12_rest 42 = .ok (.iconst (-1), 1) := by decide +kernel
theorem dX12_rest_43 : decode cX12_rest 43 = .ok (.ireturn, 1) := by decide +kernel
theorem dX12_rest_44 : decode cX12_rest 44 = .ok (.iconst (-1), 1) := by decide +kernel
theorem dX12_rest_45 : decode cX12_rest 45 = .ok (.istore 5, 2) := by decide +kernel
theorem dX12_rest_47 : decode cX12_rest 47 = .ok (.iconst 0, 1) := by decide +kernel
theorem dX12_rest_48 : decode cX12_rest 48 = .ok (.istore 6, 2) := by decide +kernel
theorem dX12_rest_50 : decode cX12_rest 50 = .ok (.iconst 0, 1) := by decide +kernel
theorem dX12_rest_51 : decode cX12_rest 51 = .ok (.istore 7, 2) := by decide +kernel
theorem dX12_rest_53 : decode cX12_rest 53 = .ok (.iload 7, 2) := by decide +kernel
theorem dX12_rest_55 : decode cX12_rest 55 = .ok (.iconst 1, 1) := by decide +kernel
theorem dX12_rest_56 : decode cX12_rest 56 = .ok (.iload_n 2, 1) := by decide +kernel
theorem dX12_rest_57 : decode cX12_rest 57 = .ok (.ishl, 1) := by decide +kernel
theorem dX12_rest_58 : decode cX12_rest 58 = .ok (.if_icmp .ge 54, 3) := by decide +kernel
theorem dX12_rest_61 : decode cX12_rest 61 = .ok (.iload 7, 2) := by decide +kernel
theorem dX12_rest_63 : decode cX12_rest 63 = .ok (.invokestatic 344, 3) := by decide +kernel
theorem dX12_rest_66 : decode cX12_rest 66 = .ok (.iload_n 3, 1) := by decide +kernel
theorem dX12_rest_67 : decode cX12_rest 67 = .ok (.if_icmp .eq 6, 3) := by decide +kernel
theorem dX12_rest_70 : decode cX12_rest 70 = .ok (.goto 36, 3) := by decide +kernel
theorem dX12_rest_73 : decode cX12_rest 73 = .ok (.aload_n 0, 1) := by decide +kernel
theorem dX12_rest_74 : decode cX12_rest 74 = .ok (.iload_n 1, 1) := by decide +kernel
theorem dX12_rest_75 : decode cX12_rest 75 = .ok (.iload_n 2, 1) := by decide +kernel
theorem dX12_rest_76 : decode cX12_rest 76 = .ok (.iload 7, 2) := by decide +kernel
theorem dX12_rest_78 : decode cX12_rest 78 = .ok (.invokevirtual 428, 3) := by decide +kernel
theorem dX12_rest_81 : decode cX12_rest 81 = .ok (.istore 8, 2) := by decide +kernel
theorem dX12_rest_83 : decode cX12_rest 83 = .ok (.iload 5, 2) := by decide +kernel
theorem dX12_rest_85 : decode cX12_rest 85 = .ok (.ifCond .lt 13, 3) := by decide +kernel
theorem dX12_rest_88 : decode cX12_rest 88 = .ok (.iload 8, 2) := by decide +kernel
theorem dX12_rest_90 : decode cX12_rest 90 = .ok (.iload 6, 2) := by decide +kernel
theorem dX12_rest_92 : decode cX12_rest 92 = .ok (.if_icmp .lt 6, 3) := by decide +kernel
theorem dX12_rest_95 : decode cX12_rest 95 = .ok (.goto 11, 3) := by decide +kernel
theorem dX12_rest_98 : decode cX12_rest 98 = .ok (.iload 7, 2) := by decide +kernel
theorem dX12_rest_100 : decode cX12_rest 100 = .ok (.istore 5, 2) := by decide +kernel
theorem dX12_rest_102 : decode cX12_rest 102 = .ok (.iload 8, 2) := by decide +kernel
theorem dX12_rest_104 : decode cX12_rest 104 = .ok (.istore 6, 2) := by decide +kernel
theorem dX12_rest_106 : decode cX12_rest 106 = .ok (.iinc 7 1, 3) := by decide +kernel
theorem dX12_rest_109 : decode cX12_rest 109 = .ok (.goto (-56), 3) := by decide +kernel
theorem dX12_rest_112 : decode cX12_rest 112 = .ok (.iload 4, 2) := by decide +kernel
theorem dX12_rest_114 : decode cX12_rest 114 = .ok (.ifCond .ne 8, 3) := by decide +kernel
theorem dX12_rest_117 : decode cX12_rest 117 = .ok (.iload 5, 2) := by decide +kernel
theorem dX12_rest_119 : decode cX12_rest 119 = .ok (.goto 5, 3) := by decide +kernel
theorem dX12_rest_122 : decode cX12_rest 122 = .ok (.iload 6, 2) := by decide +kernel
theorem dX12_rest_124 : decode cX12_rest 124 = .ok (.ireturn, 1) := by decide +kernel
set_option maxRecDepth 20000 in
theorem ggX12_test_X12_isDairy : GoodIn wsX12_test wsX12_isDairy := goodIn_r _ [9, 1, 13, 14, 15, 16, 17, 18, 19, 20, 21, 22, 23, 24, 25, 26, 27, 28, 29, 30, 31, 32, 33, 34, 35, 36, 37, 38, 39, 40, 41, 42, 43, 44, 45, 46, 47, 48, 49, 50] (by decide +kernel) (by decide +kernel)
set_option maxRecDepth 20000 in
theorem gX12_test_X12_isDairy : GoodIn wsX12_test (wsV RX12 350 RX12 yX12_isDairy wsX12_isDairy) := goodIn_app (goodIn_of _ (by decide +kernel)) ggX12_test_X12_isDairy
set_option maxRecDepth 20000 in
theorem ggX12_test_X12_in : GoodIn wsX12_test wsX12_in := goodIn_r _ [12] (by decide +kernel) (by decide +kernel)
set_option maxRecDepth 20000 in
theorem gX12_test_X12_in : GoodIn wsX12_test (va_wsS RX12 118 yX12_in wsX12_in) := goodIn_app (goodIn_of _ (by decide +kernel)) ggX12_test_X12_in
theorem dX12_test_0 : decode cX12_test 0 = .ok (.iload_n 2, 1) := by decide +kernel
theorem dX12_test_1 : decode cX12_test 1 = .ok (.iconst (-1), 1) := by decide +kernel
theorem dX12_test_2 : decode cX12_test 2 = .ok (.if_icmp .ne 14, 3) := by decide +kernel
theorem dX12_test_5 : decode cX12_test 5 = .ok (.aload_n 0, 1) := by decide +kernel
theorem dX12_test_6 : decode cX12_test 6 = .ok (.getfield 39, 3) := by decide +kernel
theorem dX12_test_9 : decode cX12_test 9 = .ok (.sipush 157, 3) := by decide +kernel
theorem dX12_test_12 : decode cX12_test 12 = .ok (.iconst 0, 1) := by decide +kernel
theorem dX12_test_13 : decode cX12_test 13 = .ok (.iastore, 1) := by decide +kernel
theorem dX12_test_14 : decode cX12_test 14 = .ok (.iconst 0, 1) := by decide +kernel
theorem dX12_test_15 : decode cX12_test 15 = .ok (.ireturn, 1) := by decide +kernel
theorem dX12_test_16 : decode cX12_test 16 = .ok (.aload_n 0, 1) := by decide +kernel
theorem dX12_test_17 : decode cX12_test 17 = .ok (.invokevirtual 350, 3) := by decide +kernel
theorem dX12_test_20 : decode cX12_test 20 = .ok (.ifCond .eq 65, 3) := by decide +kernel
theorem dX12_test_23 : decode cX12_test 23 = .ok (.iload_n 1, 1) := by decide +kernel
theorem dX12_test_24 : decode cX12_test 24 = .ok (.i2l, 1) := by decide +kernel
theorem dX12_test_25 : decode cX12_test 25 = .ok (.lconst 0, 1) := by decide +kernel
theorem dX12_test_26 : decode cX12_test 26 = .ok (.ldc2_w 407, 3) := by decide +kernel
theorem dX12_test_29 : decode cX12_test 29 = .ok (.invokestatic 118, 3) := by decide +kernel
theorem dX12_test_32 : decode cX12_test 32 = .ok (.ifCond .eq 53, 3) := by decide +kernel
theorem dX12_test_35 : decode cX12_test 35 = .ok (.iload_n 2, 1) := by decide +kernel
theorem dX12_test_36 : decode cX12_test 36 = .ok (.i2l, 1) := by decide +kernel
theorem dX12_test_37 : decode cX12_test 37 = .ok (.lconst 1, 1) := by decide +kernel
theorem dX12_test_38 : decode cX12_test 38 = .ok (.ldc2_w 432, 3) := by decide +kernel
theorem dX12_test_41 : decode cX12_test 41 = .ok (.invokestatic 118, 3) := by decide +kernel
theorem dX12_test_44 : decode cX12_test 44 = .ok (.ifCond .eq 41, 3) := by decide +kernel
theorem dX12_test_47 : decode cX12_test 47 = .ok (.iload_n 3, 1) := by decide +kernel
theorem dX12_test_48 : decode cX12_test 48 = .ok (.i2l, 1) := by decide +kernel
theorem dX12_test_49 : decode cX12_test 49 = .ok (.lconst 0, 1) := by decide +kernel
theorem dX12_test_50 : decode cX12_test 50 = .ok (.ldc2_w 434, 3) := by decide +kernel
theorem dX12_test_53 : decode cX12_test 53 = .ok (.invokestatic 118, 3) := by decide +kernel
theorem dX12_test_56 : decode cX12_test 56 = .ok (.ifCond .eq 29, 3) := by decide +kernel
theorem dX12_test_59 : decode cX12_test 59 = .ok (.iload 4, 2) := by decide +kernel
theorem dX12_test_61 : decode cX12_test 61 = .ok (.i2l, 1) := by decide +kernel
theorem dX12_test_62 : decode cX12_test 62 = .ok (.lconst 0, 1) := by decide +kernel
theorem dX12_test_63 : decode cX12_test 63 = .ok (.ldc2_w 407, 3) := by decide +kernel
theorem dX12_test_66 : decode cX12_test 66 = .ok (.invokestatic 118, 3) := by decide +kernel
theorem dX12_test_69 : decode cX12_test 69 = .ok (.ifCond .eq 16, 3) := by decide +kernel
theorem dX12_test_72 : decode cX12_test 72 = .ok (.aload_n 0, 1) := by decide +kernel
theorem dX12_test_73 : decode cX12_test 73 = .ok (.getfield 39, 3) := by decide +kernel
theorem dX12_test_76 : decode cX12_test 76 = .ok (.sipush 157, 3) := by decide +kernel
theorem dX12_test_79 : decode cX12_test 79 = .ok (.iaload, 1) := by decide +kernel
theorem dX12_test_80 : decode cX12_test 80 = .ok (.bipush 10, 2) := by decide +kernel
theorem dX12_test_82 : decode cX12_test 82 = .ok (.if_icmp .ne 6, 3) := by decide +kernel
theorem dX12_test_85 : decode cX12_test 85 = .ok (.bipush (-2), 2) := by decide +kernel
theorem dX12_test_87 : decode cX12_test 87 = .ok (.ireturn, 1) := by decide +kernel
theorem dX12_test_88 : decode cX12_test 88 = .ok (.bipush 117, 2) := by decide +kernel
theorem dX12_test_90 : decode cX12_test 90 = .ok (.iconst 4, 1) := by decide +kernel
theorem dX12_test_91 : decode cX12_test 91 = .ok (.aload_n 0, 1) := by decide +kernel
theorem dX12_test_92 : decode cX12_test 92 = .ok (.getfield 39, 3) := by decide +kernel
theorem dX12_test_95 : decode cX12_test 95 = .ok (.sipush 157, 3) := by decide +kernel
theorem dX12_test_98 : decode cX12_test 98 = .ok (.iaload, 1) := by decide +kernel
theorem dX12_test_99 : decode cX12_test 99 = .ok (.imul, 1) := by decide +kernel
theorem dX12_test_100 : decode cX12_test 100 = .ok (.iadd, 1) := by decide +kernel
theorem dX12_test_101 : decode cX12_test 101 = .ok (.istore 5, 2) := by decide +kernel
theorem dX12_test_103 : decode cX12_test 103 = .ok (.aload_n 0, 1) := by decide +kernel
theorem dX12_test_104 : decode cX12_test 104 = .ok (.getfield 39, 3) := by decide +kernel
theorem dX12_test_107 : decode cX12_test 107 = .ok (.iload 5, 2) := by decide +kernel
theorem dX12_test_109 : decode cX12_test 109 = .ok (.iload_n 1, 1) := by decide +kernel
theorem dX12_test_110 : decode cX12_test 110 = .ok (.iastore, 1) := by decide +kernel
theorem dX12_test_111 : decode cX12_test 111 = .ok (.aload_n 0, 1) := by decide +kernel
theorem dX12_test_112 : decode cX12_test 112 = .ok (.getfield 39, 3) := by decide +kernel
theorem dX12_test_115 : decode cX12_test 115 = .ok (.iload 5, 2) := by decide +kernel
theorem dX12_test_117 : decode cX12_test 117 = .ok (.iconst 1, 1) := by decide +kernel
theorem dX12_test_118 : decode cX12_test 118 = .ok (.iadd, 1) := by decide +kernel
theorem dX12_test_119 : decode cX12_test 119 = .ok (.iload_n 2, 1) := by decide +kernel
theorem dX12_test_120 : decode cX12_test 120 = .ok (.iastore, 1) := by decide +kernel
theorem dX12_test_121 : decode cX12_test 121 = .ok (.aload_n 0, 1) := by decide +kernel
theorem dX12_test_122 : decode cX12_test 122 = .ok (.getfield 39, 3) := by decide +kernel
theorem dX12_test_125 : decode cX12_test 125 = .ok (.iload 5, 2) := by decide +kernel
theorem dX12_test_127 : decode cX12_test 127 = .ok (.iconst 2, 1) := by decide +kernel
theorem dX12_test_128 : decode cX12_test 128 = .ok (.iadd, 1) := by decide +kernel
theorem dX12_test_129 : decode cX12_test 129 = .ok (.iload_n 3, 1) := by decide +kernel
theorem dX12_test_130 : decode cX12_test 130 = .ok (.iastore, 1) := by decide +kernel
theorem dX12_test_131 : decode cX12_test 131 = .ok (.aload_n 0, 1) := by decide +kernel
theorem dX12_test_132 : decode cX12_test 132 = .ok (.getfield 39, 3) := by decide +kernel
theorem dX12_test_135 : decode cX12_test 135 = .ok (.iload 5, 2) := by decide +kernel
theorem dX12_test_137 : decode cX12_test 137 = .ok (.iconst 3, 1) := by decide +kernel
theorem dX12_test_138 : decode cX12_test 138 = .ok (.iadd, 1) := by decide +kernel
theorem dX12_test_139 : decode cX12_test 139 = .ok (.iload 4, 2) := by decide +kernel
theorem dX12_test_141 : decode cX12_test 141 = .ok (.iastore, 1) := by decide +kernel
theorem dX12_test_142 : decode cX12_test 142 = .ok (.aload_n 0, 1) := by decide +kernel
theorem dX12_test_143 : decode cX12_test 143 = .ok (.getfield 39, 3) := by decide +kernel
theorem dX12_test_146 : decode cX12_test 146 = .ok (.sipush 157, 3) := by decide +kernel
theorem dX12_test_149 : decode cX12_test 149 = .ok (.dup2, 1) := by decide +kernel
theorem dX12_test_150 : decode cX12_test 150 = .ok (.iaload, 1) := by decide +kernel
theorem dX12_test_151 : decode cX12_test 151 = .ok (.iconst 1, 1) := by decide +kernel
theorem dX12_test_152 : decode cX12_test 152 = .ok (.iadd, 1) := by decide +kernel
theorem dX12_test_153 : decode cX12_test 153 = .ok (.iastore, 1) := by decide +kernel
theorem dX12_test_154 : decode cX12_test 154 = .ok (.aload_n 0, 1) := by decide +kernel
theorem dX12_test_155 : decode cX12_test 155 = .ok (.getfield 39, 3) := by decide +kernel
theorem dX12_test_158 : decode cX12_test 158 = .ok (.sipush 157, 3) := by decide +kernel
theorem dX12_test_161 : decode cX12_test 161 = .ok (.iaload, 1) := by decide +kernel
theorem dX12_test_162 : decode cX12_test 162 = .ok (.ireturn, 1) := by decide +kernel
set_option maxRecDepth 20000 in
theorem ggX12_fitsTests_X12_turnedBy : GoodIn wsX12_fitsTests wsX12_turnedBy := goodIn_r _ [6, 7, 8, 9, 5, 10, 11, 12, 1, 13, 14, 15, 16, 17, 18, 19, 20, 21, 22, 23, 24, 25, 26, 27, 28, 29, 30, 31, 32, 33, 34, 35, 36, 37, 38, 39, 40, 41, 42, 43, 44, 45, 46, 47, 48, 49, 50, 51, 52, 53, 54, 55, 56, 57, 58, 59, 60, 61, 62, 63, 64, 65, 66, 67, 68, 69, 70, 71, 72, 73, 74, 75, 76, 77, 78, 79, 80, 81, 82, 83, 84, 85, 86, 87, 88, 89, 90, 91] (by decide +kernel) (by decide +kernel)
set_option maxRecDepth 20000 in
theorem gX12_fitsTests_X12_turnedBy : GoodIn wsX12_fitsTests (wsV RX12 394 RX12 yX12_turnedBy wsX12_turnedBy) := goodIn_app (goodIn_of _ (by decide +kernel)) ggX12_fitsTests_X12_turnedBy
theorem dX12_fitsTests_0 : decode cX12_fitsTests 0 = .ok (.iconst 0, 1) := by decide +kernel
theorem dX12_fitsTests_1 : decode cX12_fitsTests 1 = .ok (.istore_n 2, 1) := by decide +kernel
theorem dX12_fitsTests_2 : decode cX12_fitsTests 2 = .ok (.iload_n 2, 1) := by decide +kernel
theorem dX12_fitsTests_3 : decode cX12_fitsTests 3 = .ok (.aload_n 0, 1) := by decide +kernel
theorem dX12_fitsTests_4 : decode cX12_fitsTests 4 = .ok (.getfield 39, 3) := by decide +kernel
theorem dX12_fitsTests_7 : decode cX12_fitsTests 7 = .ok (.sipush 157, 3) := by decide +kernel
theorem dX12_fitsTests_10 : decode cX12_fitsTests 10 = .ok (.iaload, 1) := by decide +kernel
theorem dX12_fitsTests_11 : decode cX12_fitsTests 11 = .ok (.if_icmp .ge 58, 3) := by decide +kernel
theorem dX12_fitsTests_14 : decode cX12_fitsTests 14 = .ok (.bipush 117, 2) := by decide +kernel
theorem dX12_fitsTests_16 : decode cX12_fitsTests 16 = .ok (.iconst 4, 1) := by decide +kernel
theorem dX12_fitsTests_17 : decode cX12_fitsTests 17 = .ok (.iload_n 2, 1) := by decide +kernel
theorem dX12_fitsTests_18 : decode cX12_fitsTests 18 = .ok (.imul, 1) := by decide +kernel
theorem dX12_fitsTests_19 : decode cX12_fitsTests 19 = .ok (.iadd, 1) := by decide +kernel
theorem dX12_fitsTests_20 : decode cX12_fitsTests 20 = .ok (.istore_n 3, 1) := by decide +kernel
theorem dX12_fitsTests_21 : decode cX12_fitsTests 21 = .ok (.aload_n 0, 1) := by decide +kernel
theorem dX12_fitsTests_22 : decode cX12_fitsTests 22 = .ok (.iload_n 1, 1) := by decide +kernel
theorem dX12_fitsTests_23 : decode cX12_fitsTests 23 = .ok (.iconst 0, 1) := by decide +kernel
theorem dX12_fitsTests_24 : decode cX12_fitsTests 24 = .ok (.aload_n 0, 1) := by decide +kernel
theorem dX12_fitsTests_25 : decode cX12_fitsTests 25 = .ok (.getfield 39, 3) := by decide +kernel
theorem dX12_fitsTests_28 : decode cX12_fitsTests 28 = .ok (.iload_n 3, 1) := by decide +kernel
theorem dX12_fitsTests_29 : decode cX12_fitsTests 29 = .ok (.iaload, 1) := by decide +kernel
theorem dX12_fitsTests_30 : decode cX12_fitsTests 30 = .ok (.aload_n 0, 1) := by decide +kernel
theorem dX12_fitsTests_31 : decode cX12_fitsTests 31 = .ok (.getfield 39, 3) := by decide +kernel
theorem dX12_fitsTests_34 : decode cX12_fitsTests 34 = .ok (.iload_n 3, 1) := by decide +kernel
theorem dX12_fitsTests_35 : decode cX12_fitsTests 35 = .ok (.iconst 1, 1) := by decide +kernel
theorem dX12_fitsTests_36 : decode cX12_fitsTests 36 = .ok (.iadd, 1) := by decide +kernel
theorem dX12_fitsTests_37 : decode cX12_fitsTests 37 = .ok (.iaload, 1) := by decide +kernel
theorem dX12_fitsTests_38 : decode cX12_fitsTests 38 = .ok (.aload_n 0, 1) := by decide +kernel
theorem dX12_fitsTests_39 : decode cX12_fitsTests 39 = .ok (.getfield 39, 3) := by decide +kernel
theorem dX12_fitsTests_42 : decode cX12_fitsTests 42 = .ok (.iload_n 3, 1) := by decide +kernel
theorem dX12_fitsTests_43 : decode cX12_fitsTests 43 = .ok (.iconst 2, 1) := by decide +kernel
theorem dX12_fitsTests_44 : decode cX12_fitsTests 44 = .ok (.iadd, 1) := by decide +kernel
theorem dX12_fitsTests_45 : decode cX12_fitsTests 45 = .ok (.iaload, 1) := by decide +kernel
theorem dX12_fitsTests_46 : decode cX12_fitsTests 46 = .ok (.iconst 0, 1) := by decide +kernel
theorem dX12_fitsTests_47 : decode cX12_fitsTests 47 = .ok (.invokevirtual 394, 3) := by decide +kernel
theorem dX12_fitsTests_50 : decode cX12_fitsTests 50 = .ok (.aload_n 0, 1) := by decide +kernel
theorem dX12_fitsTests_51 : decode cX12_fitsTests 51 = .ok (.getfield 39, 3) := by decide +kernel
theorem dX12_fitsTests_54 : decode cX12_fitsTests 54 = .ok (.iload_n 3, 1) := by decide +kernel
theorem dX12_fitsTests_55 : decode cX12_fitsTests 55 = .ok (.iconst 3, 1) := by decide +kernel
theorem dX12_fitsTests_56 : decode cX12_fitsTests 56 = .ok (.iadd, 1) := by decide +kernel
theorem dX12_fitsTests_57 : decode cX12_fitsTests 57 = .ok (.iaload, 1) := by decide +kernel
theorem dX12_fitsTests_58 : decode cX12_fitsTests 58 = .ok (.if_icmp .eq 5, 3) := by decide +kernel
theorem dX12_fitsTests_61 : decode cX12_fitsTests 61 = .ok (.iconst 0, 1) := by decide +kernel
theorem dX12_fitsTests_62 : decode cX12_fitsTests 62 = .ok (.ireturn, 1) := by decide +kernel
theorem dX12_fitsTests_63 : decode cX12_fitsTests 63 = .ok (.iinc 2 1, 3) := by decide +kernel
theorem dX12_fitsTests_66 : decode cX12_fitsTests 66 = .ok (.goto (-64), 3) := by decide +kernel
theorem dX12_fitsTests_69 : decode cX12_fitsTests 69 = .ok (.iconst 1, 1) := by decide +kernel
theorem dX12_fitsTests_70 : decode cX12_fitsTests 70 = .ok (.ireturn, 1) := by decide +kernel
set_option maxRecDepth 20000 in
theorem ggX12_fitting_X12_fitsTests : GoodIn wsX12_fitting wsX12_fitsTests := goodIn_r _ [6, 1, 7, 8, 9, 5, 10, 11, 12, 13, 14, 15, 16, 17, 18, 19, 20, 21, 22, 23, 24, 25, 26, 27, 28, 29, 30, 31, 32, 33, 34, 35, 36, 37, 38, 39, 40, 41, 42, 43, 44, 45, 46, 47, 48, 49, 50, 51, 52, 53, 54, 55, 56, 57, 58, 59, 60, 61, 62, 63, 64, 65, 66, 67, 68, 69, 70, 71, 72, 73, 74, 75, 76, 77, 78, 79, 80, 81, 82, 83, 84, 85, 86, 87, 88, 89, 90, 91, 92, 93, 94, 95] (by decide +kernel) (by decide +kernel)
set_option maxRecDepth 20000 in
theorem gX12_fitting_X12_fitsTests : GoodIn wsX12_fitting (wsV RX12 436 RX12 yX12_fitsTests wsX12_fitsTests) := goodIn_app (goodIn_of _ (by decide +kernel)) ggX12_fitting_X12_fitsTests
theorem dX12_fitting_0 : decode cX12_fitting 0 = .ok (.iconst 0, 1) := by decide +kernel
theorem dX12_fitting_1 : decode cX12_fitting 1 = .ok (.istore_n 1, 1) := by decide +kernel
theorem dX12_fitting_2 : decode cX12_fitting 2 = .ok (.iconst 0, 1) := by decide +kernel
theorem dX12_fitting_3 : decode cX12_fitting 3 = .ok (.istore_n 2, 1) := by decide +kernel
theorem dX12_fitting_4 : decode cX12_fitting 4 = .ok (.iload_n 2, 1) := by decide +kernel
theorem dX12_fitting_5 : decode cX12_fitting 5 = .ok (.aload_n 0, 1) := by decide +kernel
theorem dX12_fitting_6 : decode cX12_fitting 6 = .ok (.getfield 39, 3) := by decide +kernel
theorem dX12_fitting_9 : decode cX12_fitting 9 = .ok (.iconst 4, 1) := by decide +kernel
theorem dX12_fitting_10 : decode cX12_fitting 10 = .ok (.iaload, 1) := by decide +kernel
theorem dX12_fitting_11 : decode cX12_fitting 11 = .ok (.if_icmp .ge 27, 3) := by decide +kernel
theorem dX12_fitting_14 : decode cX12_fitting 14 = .ok (.iload_n 1, 1) := by decide +kernel
theorem dX12_fitting_15 : decode cX12_fitting 15 = .ok (.aload_n 0, 1) := by decide +kernel
theorem dX12_fitting_16 : decode cX12_fitting 16 = .ok (.iload_n 2, 1) := by decide +kernel
theorem dX12_fitting_17 : decode cX12_fitting 17 = .ok (.invokevirtual 436, 3) := by decide +kernel
theorem dX12_fitting_20 : decode cX12_fitting 20 = .ok (.ifCond .eq 9, 3) := by decide +kernel
theorem dX12_fitting_23 : decode cX12_fitting 23 = .ok (.iconst 1, 1) := by decide +kernel
theorem dX12_fitting_24 : decode cX12_fitting 24 = .ok (.iload_n 2, 1) := by decide +kernel
theorem dX12_fitting_25 : decode cX12_fitting 25 = .ok (.ishl, 1) := by decide +kernel
theorem dX12_fitting_26 : decode cX12_fitting 26 = .ok (.goto 4, 3) := by decide +kernel
theorem dX12_fitting_29 : decode cX12_fitting 29 = .ok (.iconst 0, 1) := by decide +kernel
theorem dX12_fitting_30 : decode cX12_fitting 30 = .ok (.ior, 1) := by decide +kernel
theorem dX12_fitting_31 : decode cX12_fitting 31 = .ok (.istore_n 1, 1) := by decide +kernel
theorem dX12_fitting_32 : decode cX12_fitting 32 = .ok (.iinc 2 1, 3) := by decide +kernel
theorem dX12_fitting_35 : decode cX12_fitting 35 = .ok (.goto (-31), 3) := by decide +kernel
theorem dX12_fitting_38 : decode cX12_fitting 38 = .ok (.iload_n 1, 1) := by decide +kernel
theorem dX12_fitting_39 : decode cX12_fitting 39 = .ok (.ireturn, 1) := by decide +kernel
set_option maxRecDepth 20000 in
theorem ggX12_who_X12_isDairy : GoodIn wsX12_who wsX12_isDairy := goodIn_r _ [7, 2, 76, 77, 78, 79, 80, 81, 82, 83, 84, 85, 86, 87, 88, 89, 90, 91, 92, 93, 94, 95, 96, 97, 98, 99, 100, 101, 102, 103, 104, 105, 106, 107, 108, 109, 110, 111, 112, 113] (by decide +kernel) (by decide +kernel)
set_option maxRecDepth 20000 in
theorem gX12_who_X12_isDairy : GoodIn wsX12_who (wsV RX12 350 RX12 yX12_isDairy wsX12_isDairy) := goodIn_app (goodIn_of _ (by decide +kernel)) ggX12_who_X12_isDairy
set_option maxRecDepth 20000 in
theorem ggX12_who_X12_in : GoodIn wsX12_who wsX12_in := goodIn_r _ [10] (by decide +kernel) (by decide +kernel)
set_option maxRecDepth 20000 in
theorem gX12_who_X12_in : GoodIn wsX12_who (va_wsS RX12 118 yX12_in wsX12_in) := goodIn_app (goodIn_of _ (by decide +kernel)) ggX12_who_X12_in
set_option maxRecDepth 20000 in
theorem ggX12_who_X12_fitting : GoodIn wsX12_who wsX12_fitting := goodIn_r _ [14, 2, 15, 16, 17, 6, 18, 19, 20, 21, 22, 23, 24, 25, 26, 27, 28, 29, 30, 31, 32, 33, 34, 35, 36, 37, 38, 39, 40, 41, 42, 43, 44, 45, 46, 47, 48, 49, 50, 51, 52, 53, 54, 55, 56, 57, 58, 59, 60, 61, 62, 63, 64, 65, 66, 67, 68, 69, 76, 77, 78, 79, 80, 81, 82, 83, 84, 85, 86, 87, 88, 89, 90, 91, 92, 93, 94, 95, 96, 97, 98, 99, 100, 101, 102, 103, 104, 105, 106, 107, 108, 109, 110, 111, 112, 113] (by decide +kernel) (by decide +kernel)
set_option maxRecDepth 20000 in
theorem gX12_who_X12_fitting : GoodIn wsX12_who (wsV RX12 441 RX12 yX12_fitting wsX12_fitting) := goodIn_app (goodIn_of _ (by decide +kernel)) ggX12_who_X12_fitting
set_option maxRecDepth 20000 in
theorem ggX12_who_X12_bits : GoodIn wsX12_who wsX12_bits := goodIn_r _ [72] (by decide +kernel) (by decide +kernel)
set_option maxRecDepth 20000 in
theorem gX12_who_X12_bits : GoodIn wsX12_who (va_wsS RX12 344 yX12_bits wsX12_bits) := goodIn_app (goodIn_of _ (by decide +kernel)) ggX12_who_X12_bits
set_option maxRecDepth 20000 in
theorem ggX12_who_X12_isOf : GoodIn wsX12_who wsX12_isOf := goodIn_r _ [75] (by decide +kernel) (by decide +kernel)
set_option maxRecDepth 20000 in
theorem gX12_who_X12_isOf : GoodIn wsX12_who (va_wsS RX12 420 yX12_isOf wsX12_isOf) := goodIn_app (goodIn_of _ (by decide +kernel)) ggX12_who_X12_isOf
theorem dX12_who_0 : decode cX12_who 0 = .ok (.aload_n 0, 1) := by decide +kernel
theorem dX12_who_1 : decode cX12_who 1 = .ok (.invokevirtual 350, 3) := by decide +kernel
theorem dX12_who_4 : decode cX12_who 4 = .ok (.ifCond .eq 15, 3) := by decide +kernel
theorem dX12_who_7 : decode cX12_who 7 = .ok (.iload_n 1, 1) := by decide +kernel
theorem dX12_who_8 : decode cX12_who 8 = .ok (.i2l, 1) := by decide +kernel
theorem dX12_who_9 : decode cX12_who 9 = .ok (.lconst 0, 1) := by decide +kernel
theorem dX12_who_10 : decode cX12_who 10 = .ok (.ldc2_w 439, 3) := by decide +kernel
theorem dX12_who_13 : decode cX12_who 13 = .ok (.invokestatic 118, 3) := by decide +kernel
theorem dX12_who_16 : decode cX12_who 16 = .ok (.ifCond .ne 5, 3) := by decide +kernel
theorem dX12_who_19 : decode cX12_who 19 = .ok (.iconst (-1), 1) := by decide +kernel
theorem dX12_who_20 : decode cX12_who 20 = .ok (.ireturn, 1) := by decide +kernel
theorem dX12_who_21 : decode cX12_who 21 = .ok (.aload_n 0, 1) := by decide +kernel
theorem dX12_who_22 : decode cX12_who 22 = .ok (.invokevirtual 441, 3) := by decide +kernel
theorem dX12_who_25 : decode cX12_who 25 = .ok (.istore_n 2, 1) := by decide +kernel
theorem dX12_who_26 : decode cX12_who 26 = .ok (.iload_n 1, 1) := by decide +kernel
theorem dX12_who_27 : decode cX12_who 27 = .ok (.iconst 1, 1) := by decide +kernel
theorem dX12_who_28 : decode cX12_who 28 = .ok (.if_icmp .eq 16, 3) := by decide +kernel
theorem dX12_who_31 : decode cX12_who 31 = .ok (.iload_n 1, 1) := by decide +kernel
theorem dX12_who_32 : decode cX12_who 32 = .ok (.ifCond .ne 10, 3) := by decide +kernel
theorem dX12_who_35 : decode cX12_who 35 = .ok (.iload_n 2, 1) := by decide +kernel
theorem dX12_who_36 : decode cX12_who 36 = .ok (.invokestatic 344, 3) := by decide +kernel
theorem dX12_who_39 : decode cX12_who 39 = .ok (.goto 4, 3) := by decide +kernel
theorem dX12_who_42 : decode cX12_who 42 = .ok (.iload_n 2, 1) := by decide +kernel
theorem dX12_who_43 : decode cX12_who 43 = .ok (.ireturn, 1) := by decide +kernel
theorem dX12_who_44 : decode cX12_who 44 = .ok (.iconst 0, 1) := by decide +kernel
theorem dX12_who_45 : decode cX12_who 45 = .ok (.istore_n 3, 1) := by decide +kernel
theorem dX12_who_46 : decode cX12_who 46 = .ok (.iload_n 3, 1) := by decide +kernel
theorem dX12_who_47 : decode cX12_who 47 = .ok (.aload_n 0, 1) := by decide +kernel
theorem dX12_who_48 : decode cX12_who 48 = .ok (.getfield 39, 3) := by decide +kernel
theorem dX12_who_51 : decode cX12_who 51 = .ok (.iconst 4, 1) := by decide +kernel
theorem dX12_who_52 : decode cX12_who 52 = .ok (.iaload, 1) := by decide +kernel
theorem dX12_who_53 : decode cX12_who 53 = .ok (.if_icmp .ge 19, 3) := by decide +kernel
theorem dX12_who_56 : decode cX12_who 56 = .ok (.iload_n 2, 1) := by decide +kernel
theorem dX12_who_57 : decode cX12_who 57 = .ok (.iload_n 3, 1) := by decide +kernel
theorem dX12_who_58 : decode cX12_who 58 = .ok (.invokestatic 420, 3) := by decide +kernel
theorem dX12_who_61 : decode cX12_who 61 = .ok (.ifCond .eq 5, 3) := by decide +kernel
theorem dX12_who_64 : decode cX12_who 64 = .ok (.iload_n 3, 1) := by decide +kernel
theorem dX12_who_65 : decode cX12_who 65 = .ok (.ireturn, 1) := by decide +kernel
theorem dX12_who_66 : decode cX12_who 66 = .ok (.iinc 3 1, 3) := by decide +kernel
theorem dX12_who_69 : decode cX12_who 69 = .ok (.goto (-23), 3) := by decide +kernel
theorem dX12_who_72 : decode cX12_who 72 = .ok (.bipush (-2), 2) := by decide +kernel
theorem dX12_who_74 : decode cX12_who 74 = .ok (.ireturn, 1) := by decide +kernel
set_option maxRecDepth 20000 in
theorem ggX12_alikeBy_X12_isOf : GoodIn wsX12_alikeBy wsX12_isOf := goodIn_r _ [6] (by decide +kernel) (by decide +kernel)
set_option maxRecDepth 20000 in
theorem gX12_alikeBy_X12_isOf : GoodIn wsX12_alikeBy (va_wsS RX12 420 yX12_isOf wsX12_isOf) := goodIn_app (goodIn_of _ (by decide +kernel)) ggX12_alikeBy_X12_isOf
set_option maxRecDepth 20000 in
theorem ggX12_alikeBy_X12_turnedBy : GoodIn wsX12_alikeBy wsX12_turnedBy := goodIn_r _ [10, 11, 12, 13, 5, 14, 15, 16, 1, 17, 18, 19, 20, 21, 22, 23, 24, 25, 26, 27, 28, 29, 30, 31, 32, 33, 34, 35, 36, 37, 38, 39, 40, 41, 42, 43, 44, 45, 46, 47, 48, 49, 50, 51, 52, 53, 54, 55, 56, 57, 58, 59, 60, 61, 62, 63, 64, 65, 66, 67, 68, 69, 70, 71, 72, 73, 74, 75, 76, 77, 78, 79, 80, 81, 82, 83, 84, 85, 86, 87, 88, 89, 90, 91, 92, 93, 94, 95] (by decide +kernel) (by decide +kernel)
set_option maxRecDepth 20000 in
theorem gX12_alikeBy_X12_turnedBy : GoodIn wsX12_alikeBy (wsV RX12 394 RX12 yX12_turnedBy wsX12_turnedBy) := goodIn_app (goodIn_of _ (by decide +kernel)) ggX12_alikeBy_X12_turnedBy
theorem dX12_alikeBy_0 : decode cX12_alikeBy 0 = .ok (.iconst 0, 1) := by decide +kernel
theorem dX12_alikeBy_1 : decode cX12_alikeBy 1 = .ok (.istore_n 3, 1) := by decide +kernel
theorem dX12_alikeBy_2 : decode cX12_alikeBy 2 = .ok (.iload_n 3, 1) := by decide +kernel
theorem dX12_alikeBy_3 : decode cX12_alikeBy 3 = .ok (.aload_n 0, 1) := by decide +kernel
theorem dX12_alikeBy_4 : decode cX12_alikeBy 4 = .ok (.getfield 39, 3) := by decide +kernel
theorem dX12_alikeBy_7 : decode cX12_alikeBy 7 = .ok (.iconst 4, 1) := by decide +kernel
theorem dX12_alikeBy_8 : decode cX12_alikeBy 8 = .ok (.iaload, 1) := by decide +kernel
theorem dX12_alikeBy_9 : decode cX12_alikeBy 9 = .ok (.if_icmp .ge 43, 3) := by decide +kernel
theorem dX12_alikeBy_12 : decode cX12_alikeBy 12 = .ok (.aload_n 0, 1) := by decide +kernel
theorem dX12_alikeBy_13 : decode cX12_alikeBy 13 = .ok (.getfield 58, 3) := by decide +kernel
theorem dX12_alikeBy_16 : decode cX12_alikeBy 16 = .ok (.iload_n 3, 1) := by decide +kernel
theorem dX12_alikeBy_17 : decode cX12_alikeBy 17 = .ok (.iload_n 1, 1) := by decide +kernel
theorem dX12_alikeBy_18 : decode cX12_alikeBy 18 = .ok (.iload_n 3, 1) := by decide +kernel
theorem dX12_alikeBy_19 : decode cX12_alikeBy 19 = .ok (.invokestatic 420, 3) := by decide +kernel
theorem dX12_alikeBy_22 : decode cX12_alikeBy 22 = .ok (.ifCond .eq 22, 3) := by decide +kernel
theorem dX12_alikeBy_25 : decode cX12_alikeBy 25 = .ok (.aload_n 0, 1) := by decide +kernel
theorem dX12_alikeBy_26 : decode cX12_alikeBy 26 = .ok (.iload_n 3, 1) := by decide +kernel
theorem dX12_alikeBy_27 : decode cX12_alikeBy 27 = .ok (.iconst 0, 1) := by decide +kernel
theorem dX12_alikeBy_28 : decode cX12_alikeBy 28 = .ok (.iconst 0, 1) := by decide +kernel
theorem dX12_alikeBy_29 : decode cX12_alikeBy 29 = .ok (.iload_n 2, 1) := by decide +kernel
theorem dX12_alikeBy_30 : decode cX12_alikeBy 30 = .ok (.aload_n 0, 1) := by decide +kernel
theorem dX12_alikeBy_31 : decode cX12_alikeBy 31 = .ok (.getfield 39, 3) := by decide +kernel
theorem dX12_alikeBy_34 : decode cX12_alikeBy 34 = .ok (.bipush 7, 2) := by decide +kernel
theorem dX12_alikeBy_36 : decode cX12_alikeBy 36 = .ok (.iaload, 1) := by decide +kernel
theorem dX12_alikeBy_37 : decode cX12_alikeBy 37 = .ok (.iconst 0, 1) := by decide +kernel
theorem dX12_alikeBy_38 : decode cX12_alikeBy 38 = .ok (.invokevirtual 394, 3) := by decide +kernel
theorem dX12_alikeBy_41 : decode cX12_alikeBy 41 = .ok (.goto 4, 3) := by decide +kernel
theorem dX12_alikeBy_44 : decode cX12_alikeBy 44 = .ok (.iconst (-1), 1) := by decide +kernel
theorem dX12_alikeBy_45 : decode cX12_alikeBy 45 = .ok (.iastore, 1) := by decide +kernel
theorem dX12_alikeBy_46 : decode cX12_alikeBy 46 = .ok (.iinc 3 1, 3) := by decide +kernel
theorem dX12_alikeBy_49 : decode cX12_alikeBy 49 = .ok (.goto (-47), 3) := by decide +kernel
theorem dX12_alikeBy_52 : decode cX12_alikeBy 52 = .ok (.iconst 0, 1) := by decide +kernel
theorem dX12_alikeBy_53 : decode cX12_alikeBy 53 = .ok (.istore_n 3, 1) := by decide +kernel
theorem dX12_alikeBy_54 : decode cX12_alikeBy 54 = .ok (.iconst 0, 1) := by decide +kernel
theorem dX12_alikeBy_55 : decode cX12_alikeBy 55 = .ok (.istore 4, 2) := by decide +kernel
theorem dX12_alikeBy_57 : decode cX12_alikeBy 57 = .ok (.iload 4, 2) := by decide +kernel
theorem dX12_alikeBy_59 : decode cX12_alikeBy 59 = .ok (.aload_n 0, 1) := by decide +kernel
theorem dX12_alikeBy_60 : decode cX12_alikeBy 60 = .ok (.getfield 39, 3) := by decide +kernel
theorem dX12_alikeBy_63 : decode cX12_alikeBy 63 = .ok (.iconst 4, 1) := by decide +kernel
theorem dX12_alikeBy_64 : decode cX12_alikeBy 64 = .ok (.iaload, 1) := by decide +kernel
theorem dX12_alikeBy_65 : decode cX12_alikeBy 65 = .ok (.if_icmp .ge 82, 3) := by decide +kernel
theorem dX12_alikeBy_68 : decode cX12_alikeBy 68 = .ok (.iconst 0, 1) := by decide +kernel
theorem dX12_alikeBy_69 : decode cX12_alikeBy 69 = .ok (.istore 5, 2) := by decide +kernel
theorem dX12_alikeBy_71 : decode cX12_alikeBy 71 = .ok (.iconst 0, 1) := by decide +kernel
theorem dX12_alikeBy_72 : decode cX12_alikeBy 72 = .ok (.istore 6, 2) := by decide +kernel
theorem dX12_alikeBy_74 : decode cX12_alikeBy 74 = .ok (.iload 6, 2) := by decide +kernel
theorem dX12_alikeBy_76 : decode cX12_alikeBy 76 = .ok (.aload_n 0, 1) := by decide +kernel
theorem dX12_alikeBy_77 : decode cX12_alikeBy 77 = .ok (.getfield 39, 3) := by decide +kernel
theorem dX12_alikeBy_80 : decode cX12_alikeBy 80 = .ok (.iconst 4, 1) := by decide +kernel
theorem dX12_alikeBy_81 : decode cX12_alikeBy 81 = .ok (.iaload, 1) := by decide +kernel
theorem dX12_alikeBy_82 : decode cX12_alikeBy 82 = .ok (.if_icmp .ge 46, 3) := by decide +kernel
theorem dX12_alikeBy_85 : decode cX12_alikeBy 85 = .ok (.iload 5, 2) := by decide +kernel
theorem dX12_alikeBy_87 : decode cX12_alikeBy 87 = .ok (.aload_n 0, 1) := by decide +kernel
theorem dX12_alikeBy_88 : decode cX12_alikeBy 88 = .ok (.getfield 58, 3) := by decide +kernel
theorem dX12_alikeBy_91 : decode cX12_alikeBy 91 = .ok (.iload 4, 2) := by decide +kernel
theorem dX12_alikeBy_93 : decode cX12_alikeBy 93 = .ok (.iaload, 1) := by decide +kernel
theorem dX12_alikeBy_94 : decode cX12_alikeBy 94 = .ok (.ifCond .lt 24, 3) := by decide +kernel
theorem dX12_alikeBy_97 : decode cX12_alikeBy 97 = .ok (.aload_n 0, 1) := by decide +kernel
theorem dX12_alikeBy_98 : decode cX12_alikeBy 98 = .ok (.getfield 58, 3) := by decide +kernel
theorem dX12_alikeBy_101 : decode cX12_alikeBy 101 = .ok (.iload 4, 2) := by decide +kernel
theorem dX12_alikeBy_103 : decode cX12_alikeBy 103 = .ok (.iaload, 1) := by decide +kernel
theorem dX12_alikeBy_104 : decode cX12_alikeBy 104 = .ok (.aload_n 0, 1) := by decide +kernel
theorem dX12_alikeBy_105 : decode cX12_alikeBy 105 = .ok (.getfield 58, 3) := by decide +kernel
theorem dX12_alikeBy_108 : decode cX12_alikeBy 108 = .ok (.iload 6, 2) := by decide +kernel
theorem dX12_alikeBy_110 : decode cX12_alikeBy 110 = .ok (.iaload, 1) := by decide +kernel
theorem dX12_alikeBy_111 : decode cX12_alikeBy 111 = .ok (.if_icmp .ne 7, 3) := by decide +kernel
theorem dX12_alikeBy_114 : decode cX12_alikeBy 114 = .ok (.iconst 1, 1) := by decide +kernel
theorem dX12_alikeBy_115 : decode cX12_alikeBy 115 = .ok (.goto 4, 3) := by decide +kernel
theorem dX12_alikeBy_118 : decode cX12_alikeBy 118 = .ok (.iconst 0, 1) := by decide +kernel
theorem dX12_alikeBy_119 : decode cX12_alikeBy 119 = .ok (.iadd, 1) := by decide +kernel
theorem dX12_alikeBy_120 : decode cX12_alikeBy 120 = .ok (.istore 5, 2) := by decide +kernel
theorem dX12_alikeBy_122 : decode cX12_alikeBy 122 = .ok (.iinc 6 1, 3) := by decide +kernel
theorem dX12_alikeBy_125 : decode cX12_alikeBy 125 = .ok (.goto (-51), 3) := by decide +kernel
theorem dX12_alikeBy_128 : decode cX12_alikeBy 128 = .ok (.iload 5, 2) := by decide +kernel
theorem dX12_alikeBy_130 : decode cX12_alikeBy 130 = .ok (.iload_n 3, 1) := by decide +kernel
theorem dX12_alikeBy_131 : decode cX12_alikeBy 131 = .ok (.if_icmp .le 8, 3) := by decide +kernel
theorem dX12_alikeBy_134 : decode cX12_alikeBy 134 = .ok (.iload 5, 2) := by decide +kernel
theorem dX12_alikeBy_136 : decode cX12_alikeBy 136 = .ok (.goto 4, 3) := by decide +kernel
theorem dX12_alikeBy_139 : decode cX12_alikeBy 139 = .ok (.iload_n 3, 1) := by decide +kernel
theorem dX12_alikeBy_140 : decode cX12_alikeBy 140 = .ok (.istore_n 3, 1) := by decide +kernel
theorem dX12_alikeBy_141 : decode cX12_alikeBy 141 = .ok (.iinc 4 1, 3) := by decide +kernel
theorem dX12_alikeBy_144 : decode cX12_alikeBy 144 = .ok (.goto (-87), 3) := by decide +kernel
theorem dX12_alikeBy_147 : decode cX12_alikeBy 147 = .ok (.iload_n 3, 1) := by decide +kernel
theorem dX12_alikeBy_148 : decode cX12_alikeBy 148 = .ok (.ireturn, 1) := by decide +kernel
set_option maxRecDepth 20000 in
theorem ggX12_probe_X12_isDairy : GoodIn wsX12_probe wsX12_isDairy := goodIn_r _ [5, 6, 77, 78, 79, 80, 81, 82, 83, 84, 85, 86, 87, 88, 89, 90, 91, 92, 93, 94, 95, 96, 97, 98, 99, 100, 101, 102, 103, 104, 105, 106, 107, 108, 109, 110, 111, 112, 113, 114] (by decide +kernel) (by decide +kernel)
set_option maxRecDepth 20000 in
theorem gX12_probe_X12_isDairy : GoodIn wsX12_probe (wsV RX12 350 RX12 yX12_isDairy wsX12_isDairy) := goodIn_app (goodIn_of _ (by decide +kernel)) ggX12_probe_X12_isDairy
set_option maxRecDepth 20000 in
theorem ggX12_probe_X12_in : GoodIn wsX12_probe wsX12_in := goodIn_r _ [9] (by decide +kernel) (by decide +kernel)
set_option maxRecDepth 20000 in
theorem gX12_probe_X12_in : GoodIn wsX12_probe (va_wsS RX12 118 yX12_in wsX12_in) := goodIn_app (goodIn_of _ (by decide +kernel)) ggX12_probe_X12_in
set_option maxRecDepth 20000 in
theorem ggX12_probe_X12_fitting : GoodIn wsX12_probe wsX12_fitting := goodIn_r _ [13, 6, 14, 15, 16, 4, 17, 18, 19, 20, 21, 22, 23, 24, 25, 26, 27, 28, 29, 30, 31, 32, 33, 34, 35, 36, 37, 38, 39, 40, 41, 42, 43, 44, 45, 46, 47, 48, 49, 50, 51, 52, 53, 54, 55, 56, 57, 58, 59, 60, 61, 62, 63, 64, 65, 66, 67, 68, 77, 78, 79, 80, 81, 82, 83, 84, 85, 86, 87, 88, 89, 90, 91, 92, 93, 94, 95, 96, 97, 98, 99, 100, 101, 102, 103, 104, 105, 106, 107, 108, 109, 110, 111, 112, 113, 114] (by decide +kernel) (by decide +kernel)
set_option maxRecDepth 20000 in
theorem gX12_probe_X12_fitting : GoodIn wsX12_probe (wsV RX12 441 RX12 yX12_fitting wsX12_fitting) := goodIn_app (goodIn_of _ (by decide +kernel)) ggX12_probe_X12_fitting
set_option maxRecDepth 20000 in
theorem ggX12_probe_X12_alikeBy : GoodIn wsX12_probe wsX12_alikeBy := goodIn_r _ [72, 6, 73, 74, 75, 4, 76, 18, 19, 20, 21, 22, 23, 24, 25, 26, 27, 28, 29, 30, 31, 32, 33, 34, 35, 36, 37, 38, 39, 40, 41, 42, 43, 44, 45, 46, 47, 48, 49, 50, 51, 52, 53, 54, 55, 56, 57, 58, 59, 60, 61, 62, 63, 64, 65, 66, 67, 68, 77, 78, 79, 80, 81, 82, 83, 84, 85, 86, 87, 88, 89, 90, 91, 92, 93, 94, 95, 96, 97, 98, 99, 100, 101, 102, 103, 104, 105, 106, 107, 108, 109, 110, 111, 112, 113, 114] (by decide +kernel) (by decide +kernel)
set_option maxRecDepth 20000 in
theorem gX12_probe_X12_alikeBy : GoodIn wsX12_probe (wsV RX12 444 RX12 yX12_alikeBy wsX12_alikeBy) := goodIn_app (goodIn_of _ (by decide +kernel)) ggX12_probe_X12_alikeBy
theorem dX12_probe_0 : decode cX12_probe 0 = .ok (.aload_n 0, 1) := by decide +kernel
theorem dX12_probe_1 : decode cX12_probe 1 = .ok (.invokevirtual 350, 3) := by decide +kernel
theorem dX12_probe_4 : decode cX12_probe 4 = .ok (.ifCond .eq 13, 3) := by decide +kernel
theorem dX12_probe_7 : decode cX12_probe 7 = .ok (.iload_n 1, 1) := by decide +kernel
theorem dX12_probe_8 : decode cX12_probe 8 = .ok (.i2l, 1) := by decide +kernel
theorem dX12_probe_9 : decode cX12_probe 9 = .ok (.lconst 0, 1) := by decide +kernel
theorem dX12_probe_10 : decode cX12_probe 10 = .ok (.lconst 1, 1) := by decide +kernel
theorem dX12_probe_11 : decode cX12_probe 11 = .ok (.invokestatic 118, 3) := by decide +kernel
theorem dX12_probe_14 : decode cX12_probe 14 = .ok (.ifCond .ne 5, 3) := by decide +kernel
theorem dX12_probe_17 : decode cX12_probe 17 = .ok (.iconst (-1), 1) := by decide +kernel
theorem dX12_probe_18 : decode cX12_probe 18 = .ok (.ireturn, 1) := by decide +kernel
theorem dX12_probe_19 : decode cX12_probe 19 = .ok (.aload_n 0, 1) := by decide +kernel
theorem dX12_probe_20 : decode cX12_probe 20 = .ok (.invokevirtual 441, 3) := by decide +kernel
theorem dX12_probe_23 : decode cX12_probe 23 = .ok (.istore_n 2, 1) := by decide +kernel
theorem dX12_probe_24 : decode cX12_probe 24 = .ok (.iload_n 2, 1) := by decide +kernel
theorem dX12_probe_25 : decode cX12_probe 25 = .ok (.ifCond .ne 6, 3) := by decide +kernel
theorem dX12_probe_28 : decode cX12_probe 28 = .ok (.bipush (-2), 2) := by decide +kernel
theorem dX12_probe_30 : decode cX12_probe 30 = .ok (.ireturn, 1) := by decide +kernel
theorem dX12_probe_31 : decode cX12_probe 31 = .ok (.iconst 1, 1) := by decide +kernel
theorem dX12_probe_32 : decode cX12_probe 32 = .ok (.istore_n 3, 1) := by decide +kernel
theorem dX12_probe_33 : decode cX12_probe 33 = .ok (.iconst 2, 1) := by decide +kernel
theorem dX12_probe_34 : decode cX12_probe 34 = .ok (.istore 4, 2) := by decide +kernel
theorem dX12_probe_36 : decode cX12_probe 36 = .ok (.iload 4, 2) := by decide +kernel
theorem dX12_probe_38 : decode cX12_probe 38 = .ok (.bipush 20, 2) := by decide +kernel
theorem dX12_probe_40 : decode cX12_probe 40 = .ok (.if_icmp .gt 28, 3) := by decide +kernel
theorem dX12_probe_43 : decode cX12_probe 43 = .ok (.aload_n 0, 1) := by decide +kernel
theorem dX12_probe_44 : decode cX12_probe 44 = .ok (.iload_n 2, 1) := by decide +kernel
theorem dX12_probe_45 : decode cX12_probe 45 = .ok (.iload 4, 2) := by decide +kernel
theorem dX12_probe_47 : decode cX12_probe 47 = .ok (.invokevirtual 444, 3) := by decide +kernel
theorem dX12_probe_50 : decode cX12_probe 50 = .ok (.aload_n 0, 1) := by decide +kernel
theorem dX12_probe_51 : decode cX12_probe 51 = .ok (.iload_n 2, 1) := by decide +kernel
theorem dX12_probe_52 : decode cX12_probe 52 = .ok (.iload_n 3, 1) := by decide +kernel
theorem dX12_probe_53 : decode cX12_probe 53 = .ok (.invokevirtual 444, 3) := by decide +kernel
theorem dX12_probe_56 : decode cX12_probe 56 = .ok (.if_icmp .ge 6, 3) := by decide +kernel
theorem dX12_probe_59 : decode cX12_probe 59 = .ok (.iload 4, 2) := by decide +kernel
theorem dX12_probe_61 : decode cX12_probe 61 = .ok (.istore_n 3, 1) := by decide +kernel
theorem dX12_probe_62 : decode cX12_probe 62 = .ok (.iinc 4 1, 3) := by decide +kernel
theorem dX12_probe_65 : decode cX12_probe 65 = .ok (.goto (-29), 3) := by decide +kernel
theorem dX12_probe_68 : decode cX12_probe 68 = .ok (.iload_n 1, 1) := by decide +kernel
theorem dX12_probe_69 : decode cX12_probe 69 = .ok (.ifCond .ne 7, 3) := by decide +kernel
theorem dX12_probe_72 : decode cX12_probe 72 = .ok (.iload_n 3, 1) := by decide +kernel
theorem dX12_probe_73 : decode cX12_probe 73 = .ok (.goto 9, 3) := by decide +kernel
theorem dX12_probe_76 : decode cX12_probe 76 = .ok (.aload_n 0, 1) := by decide +kernel
theorem dX12_probe_77 : decode cX12_probe 77 = .ok (.iload_n 2, 1) := by decide +kernel
theorem dX12_probe_78 : decode cX12_probe 78 = .ok (.iload_n 3, 1) := by decide +kernel
theorem dX12_probe_79 : decode cX12_probe 79 = .ok (.invokevirtual 444, 3) := by decide +kernel
theorem dX12_probe_82 : decode cX12_probe 82 = .ok (.ireturn, 1) := by decide +kernel
theorem dX12_spot_0 : decode cX12_spot 0 = .ok (.sipush 301, 3) := by decide +kernel
theorem dX12_spot_3 : decode cX12_spot 3 = .ok (.iload_n 0, 1) := by decide +kernel
theorem dX12_spot_4 : decode cX12_spot 4 = .ok (.imul, 1) := by decide +kernel
theorem dX12_spot_5 : decode cX12_spot 5 = .ok (.iload_n 1, 1) := by decide +kernel
theorem dX12_spot_6 : decode cX12_spot 6 = .ok (.iadd, 1) := by decide +kernel
theorem dX12_spot_7 : decode cX12_spot 7 = .ok (.ireturn, 1) := by decide +kernel
set_option maxRecDepth 20000 in
theorem ggX12_fillsRows_X12_handOf : GoodIn wsX12_fillsRows wsX12_handOf := goodIn_r _ [9, 3, 13, 14, 15, 16, 17, 18, 19, 20, 21, 22, 23, 24, 25, 26, 27, 28, 29, 30, 31, 32, 33, 34, 35, 36, 37, 38, 39, 40, 41, 42, 43, 44, 45, 46, 47, 48, 49, 50] (by decide +kernel) (by decide +kernel)
set_option maxRecDepth 20000 in
theorem gX12_fillsRows_X12_handOf : GoodIn wsX12_fillsRows (wsV RX12 306 RX12 yX12_handOf wsX12_handOf) := goodIn_app (goodIn_of _ (by decide +kernel)) ggX12_fillsRows_X12_handOf
set_option maxRecDepth 20000 in
theorem ggX12_fillsRows_X12_spot : GoodIn wsX12_fillsRows wsX12_spot := goodIn_r _ [12] (by decide +kernel) (by decide +kernel)
set_option maxRecDepth 20000 in
theorem gX12_fillsRows_X12_spot : GoodIn wsX12_fillsRows (va_wsS RX12 447 yX12_spot wsX12_spot) := goodIn_app (goodIn_of _ (by decide +kernel)) ggX12_fillsRows_X12_spot
theorem dX12_fillsRows_0 : decode cX12_fillsRows 0 = .ok (.iconst 0, 1) := by decide +kernel
theorem dX12_fillsRows_1 : decode cX12_fillsRows 1 = .ok (.istore_n 2, 1) := by decide +kernel
theorem dX12_fillsRows_2 : decode cX12_fillsRows 2 = .ok (.iload_n 2, 1) := by decide +kernel
theorem dX12_fillsRows_3 : decode cX12_fillsRows 3 = .ok (.sipush 300, 3) := by decide +kernel
theorem dX12_fillsRows_6 : decode cX12_fillsRows 6 = .ok (.if_icmp .gt 39, 3) := by decide +kernel
theorem dX12_fillsRows_9 : decode cX12_fillsRows 9 = .ok (.aload_n 0, 1) := by decide +kernel
theorem dX12_fillsRows_10 : decode cX12_fillsRows 10 = .ok (.getfield 61, 3) := by decide +kernel
theorem dX12_fillsRows_13 : decode cX12_fillsRows 13 = .ok (.iload_n 2, 1) := by decide +kernel
theorem dX12_fillsRows_14 : decode cX12_fillsRows 14 = .ok (.iload_n 2, 1) := by decide +kernel
theorem dX12_fillsRows_15 : decode cX12_fillsRows 15 = .ok (.ifCond .ne 7, 3) := by decide +kernel
theorem dX12_fillsRows_18 : decode cX12_fillsRows 18 = .ok (.iconst 1, 1) := by decide +kernel
theorem dX12_fillsRows_19 : decode cX12_fillsRows 19 = .ok (.goto 4, 3) := by decide +kernel
theorem dX12_fillsRows_22 : decode cX12_fillsRows 22 = .ok (.iconst 0, 1) := by decide +kernel
theorem dX12_fillsRows_23 : decode cX12_fillsRows 23 = .ok (.iastore, 1) := by decide +kernel
theorem dX12_fillsRows_24 : decode cX12_fillsRows 24 = .ok (.aload_n 0, 1) := by decide +kernel
theorem dX12_fillsRows_25 : decode cX12_fillsRows 25 = .ok (.getfield 64, 3) := by decide +kernel
theorem dX12_fillsRows_28 : decode cX12_fillsRows 28 = .ok (.iload_n 2, 1) := by decide +kernel
theorem dX12_fillsRows_29 : decode cX12_fillsRows 29 = .ok (.iload_n 2, 1) := by decide +kernel
theorem dX12_fillsRows_30 : decode cX12_fillsRows 30 = .ok (.ifCond .ne 7, 3) := by decide +kernel
theorem dX12_fillsRows_33 : decode cX12_fillsRows 33 = .ok (.iconst 1, 1) := by decide +kernel
theorem dX12_fillsRows_34 : decode cX12_fillsRows 34 = .ok (.goto 4, 3) := by decide +kernel
theorem dX12_fillsRows_37 : decode cX12_fillsRows 37 = .ok (.iconst 0, 1) := by decide +kernel
theorem dX12_fillsRows_38 : decode cX12_fillsRows 38 = .ok (.bastore, 1) := by decide +kernel
theorem dX12_fillsRows_39 : decode cX12_fillsRows 39 = .ok (.iinc 2 1, 3) := by decide +kernel
theorem dX12_fillsRows_42 : decode cX12_fillsRows 42 = .ok (.goto (-40), 3) := by decide +kernel
theorem dX12_fillsRows_45 : decode cX12_fillsRows 45 = .ok (.iconst 1, 1) := by decide +kernel
theorem dX12_fillsRows_46 : decode cX12_fillsRows 46 = .ok (.istore_n 2, 1) := by decide +kernel
theorem dX12_fillsRows_47 : decode cX12_fillsRows 47 = .ok (.iload_n 2, 1) := by decide +kernel
theorem dX12_fillsRows_48 : decode cX12_fillsRows 48 = .ok (.iload_n 1, 1) := by decide +kernel
theorem dX12_fillsRows_49 : decode cX12_fillsRows 49 = .ok (.if_icmp .gt 145, 3) := by decide +kernel
theorem dX12_fillsRows_52 : decode cX12_fillsRows 52 = .ok (.iconst 0, 1) := by decide +kernel
theorem dX12_fillsRows_53 : decode cX12_fillsRows 53 = .ok (.istore_n 3, 1) := by decide +kernel
theorem dX12_fillsRows_54 : decode cX12_fillsRows 54 = .ok (.iload_n 3, 1) := by decide +kernel
theorem dX12_fillsRows_55 : decode cX12_fillsRows 55 = .ok (.sipush 300, 3) := by decide +kernel
theorem dX12_fillsRows_58 : decode cX12_fillsRows 58 = .ok (.if_icmp .gt 130, 3) := by decide +kernel
theorem dX12_fillsRows_61 : decode cX12_fillsRows 61 = .ok (.lconst 0, 1) := by decide +kernel
theorem dX12_fillsRows_62 : decode cX12_fillsRows 62 = .ok (.lstore 4, 2) := by decide +kernel
theorem dX12_fillsRows_64 : decode cX12_fillsRows 64 = .ok (.iconst 0, 1) := by decide +kernel
theorem dX12_fillsRows_65 : decode cX12_fillsRows 65 = .ok (.istore 6, 2) := by decide +kernel
theorem dX12_fillsRows_67 : decode cX12_fillsRows 67 = .ok (.iconst 0, 1) := by decide +kernel
theorem dX12_fillsRows_68 : decode cX12_fillsRows 68 = .ok (.istore 7, 2) := by decide +kernel
theorem dX12_fillsRows_70 : decode cX12_fillsRows 70 = .ok (.iload 7, 2) := by decide +kernel
theorem dX12_fillsRows_72 : decode cX12_fillsRows 72 = .ok (.aload_n 0, 1) := by decide +kernel
theorem dX12_fillsRows_73 : decode cX12_fillsRows 73 = .ok (.getfield 39, 3) := by decide +kernel
theorem dX12_fillsRows_76 : decode cX12_fillsRows 76 = .ok (.iconst 4, 1) := by decide +kernel
theorem dX12_fillsRows_77 : decode cX12_fillsRows 77 = .ok (.iaload, 1) := by decide +kernel
theorem dX12_fillsRows_78 : decode cX12_fillsRows 78 = .ok (.if_icmp .ge 75, 3) := by decide +kernel
theorem dX12_fillsRows_81 : decode cX12_fillsRows 81 = .ok (.iload_n 3, 1) := by decide +kernel
theorem dX12_fillsRows_82 : decode cX12_fillsRows 82 = .ok (.aload_n 0, 1) := by decide +kernel
theorem dX12_fillsRows_83 : decode cX12_fillsRows 83 = .ok (.iload 7, 2) := by decide +kernel
theorem dX12_fillsRows_85 : decode cX12_fillsRows 85 = .ok (.iconst 3, 1) := by decide +kernel
theorem dX12_fillsRows_86 : decode cX12_fillsRows 86 = .ok (.invokevirtual 306, 3) := by decide +kernel
theorem dX12_fillsRows_89 : decode cX12_fillsRows 89 = .ok (.isub, 1) := by decide +kernel
theorem dX12_fillsRows_90 : decode cX12_fillsRows 90 = .ok (.istore 8, 2) := by decide +kernel
theorem dX12_fillsRows_92 : decode cX12_fillsRows 92 = .ok (.iload 8, 2) := by decide +kernel
theorem dX12_fillsRows_94 : decode cX12_fillsRows 94 = .ok (.ifCond .ge 6, 3) := by decide +kernel
theorem dX12_fillsRows_97 : decode cX12_fillsRows 97 = .ok (.goto 50, 3) := by decide +kernel
theorem dX12_fillsRows_100 : decode cX12_fillsRows 100 = .ok (.lload 4, 2) := by decide +kernel
theorem dX12_fillsRows_102 : decode cX12_fillsRows 102 = .ok (.aload_n 0, 1) := by decide +kernel
theorem dX12_fillsRows_103 : decode cX12_fillsRows 103 = .ok (.getfield 61, 3) := by decide +kernel
theorem dX12_fillsRows_106 : decode cX12_fillsRows 106 = .ok (.iload_n 2, 1) := by decide +kernel
theorem dX12_fillsRows_107 : decode cX12_fillsRows 107 = .ok (.iconst 1, 1) := by decide +kernel
theorem dX12_fillsRows_108 : decode cX12_fillsRows 108 = .ok (.isub, 1) := by decide +kernel
theorem dX12_fillsRows_109 : decode cX12_fillsRows 109 = .ok (.iload 8, 2) := by decide +kernel
theorem dX12_fillsRows_111 : decode cX12_fillsRows 111 = .ok (.invokestatic 447, 3) := by decide +kernel
theorem dX12_fillsRows_114 : decode cX12_fillsRows 114 = .ok (.iaload, 1) := by decide +kernel
theorem dX12_fillsRows_115 : decode cX12_fillsRows 115 = .ok (.i2l, 1) := by decide +kernel
theorem dX12_fillsRows_116 : decode cX12_fillsRows 116 = .ok (.ladd, 1) := by decide +kernel
theorem dX12_fillsRows_117 : decode cX12_fillsRows 117 = .ok (.lstore 4, 2) := by decide +kernel
theorem dX12_fillsRows_119 : decode cX12_fillsRows 119 = .ok (.iload 6, 2) := by decide +kernel
theorem dX12_fillsRows_121 : decode cX12_fillsRows 121 = .ok (.ifCond .ne 19, 3) := by decide +kernel
theorem dX12_fillsRows_124 : decode cX12_fillsRows 124 = .ok (.aload_n 0, 1) := by decide +kernel
theorem dX12_fillsRows_125 : decode cX12_fillsRows 125 = .ok (.getfield 64, 3) := by decide +kernel
theorem dX12_fillsRows_128 : decode cX12_fillsRows 128 = .ok (.iload_n 2, 1) := by decide +kernel
theorem dX12_fillsRows_129 : decode cX12_fillsRows 129 = .ok (.iconst 1, 1) := by decide +kernel
theorem dX12_fillsRows_130 : decode cX12_fillsRows 130 = .ok (.isub, 1) := by decide +kernel
theorem dX12_fillsRows_131 : decode cX12_fillsRows 131 = .ok (.iload 8, 2) := by decide +kernel
theorem dX12_fillsRows_133 : decode cX12_fillsRows 133 = .ok (.invokestatic 447, 3) := by decide +kernel
theorem dX12_fillsRows_136 : decode cX12_fillsRows 136 = .ok (.baload, 1) := by decide +kernel
theorem dX12_fillsRows_137 : decode cX12_fillsRows 137 = .ok (.ifCond .eq 7, 3) := by decide +kernel
theorem dX12_fillsRows_140 : decode cX12_fillsRows 140 = .ok (.iconst 1, 1) := by decide +kernel
theorem dX12_fillsRows_141 : decode cX12_fillsRows 141 = .ok (.goto 4, 3) := by decide +kernel
theorem dX12_fillsRows_144 : decode cX12_fillsRows 144 = .ok (.iconst 0, 1) := by decide +kernel
theorem dX12_fillsRows_145 : decode cX12_fillsRows 145 = .ok (.istore 6, 2) := by decide +kernel
theorem dX12_fillsRows_147 : decode cX12_fillsRows 147 = .ok (.iinc 7 1, 3) := by decide +kernel
theorem dX12_fillsRows_150 : decode cX12_fillsRows 150 = .ok (.goto (-80), 3) := by decide +kernel
theorem dX12_fillsRows_153 : decode cX12_fillsRows 153 = .ok (.aload_n 0, 1) := by decide +kernel
theorem dX12_fillsRows_154 : decode cX12_fillsRows 154 = .ok (.getfield 61, 3) := by decide +kernel
theorem dX12_fillsRows_157 : decode cX12_fillsRows 157 = .ok (.iload_n 2, 1) := by decide +kernel
theorem dX12_fillsRows_158 : decode cX12_fillsRows 158 = .ok (.iload_n 3, 1) := by decide +kernel
theorem dX12_fillsRows_159 : decode cX12_fillsRows 159 = .ok (.invokestatic 447, 3) := by decide +kernel
theorem dX12_fillsRows_162 : decode cX12_fillsRows 162 = .ok (.lload 4, 2) := by decide +kernel
theorem dX12_fillsRows_164 : decode cX12_fillsRows 164 = .ok (.ldc2_w 450, 3) := by decide +kernel
theorem dX12_fillsRows_167 : decode cX12_fillsRows 167 = .ok (.lrem, 1) := by decide +kernel
theorem dX12_fillsRows_168 : decode cX12_fillsRows 168 = .ok (.l2i, 1) := by decide +kernel
theorem dX12_fillsRows_169 : decode cX12_fillsRows 169 = .ok (.iastore, 1) := by decide +kernel
theorem dX12_fillsRows_170 : decode cX12_fillsRows 170 = .ok (.aload_n 0, 1) := by decide +kernel
theorem dX12_fillsRows_171 : decode cX12_fillsRows 171 = .ok (.getfield 64, 3) := by decide +kernel
theorem dX12_fillsRows_174 : decode cX12_fillsRows 174 = .ok (.iload_n 2, 1) := by decide +kernel
theorem dX12_fillsRows_175 : decode cX12_fillsRows 175 = .ok (.iload_n 3, 1) := by decide +kernel
theorem dX12_fillsRows_176 : decode cX12_fillsRows 176 = .ok (.invokestatic 447, 3) := by decide +kernel
theorem dX12_fillsRows_179 : decode cX12_fillsRows 179 = .ok (.iload 6, 2) := by decide +kernel
theorem dX12_fillsRows_181 : decode cX12_fillsRows 181 = .ok (.bastore, 1) := by decide +kernel
theorem dX12_fillsRows_182 : decode cX12_fillsRows 182 = .ok (.iinc 3 1, 3) := by decide +kernel
theorem dX12_fillsRows_185 : decode cX12_fillsRows 185 = .ok (.goto (-131), 3) := by decide +kernel
theorem dX12_fillsRows_188 : decode cX12_fillsRows 188 = .ok (.iinc 2 1, 3) := by decide +kernel
theorem dX12_fillsRows_191 : decode cX12_fillsRows 191 = .ok (.goto (-144), 3) := by decide +kernel
theorem dX12_fillsRows_194 : decode cX12_fillsRows 194 = .ok (.return_, 1) := by decide +kernel
set_option maxRecDepth 20000 in
theorem ggX12_firstHand_X12_handOf : GoodIn wsX12_firstHand wsX12_handOf := goodIn_r _ [6, 7, 11, 12, 13, 14, 15, 16, 17, 18, 19, 20, 21, 22, 23, 24, 25, 26, 27, 28, 29, 30, 31, 32, 33, 34, 35, 36, 37, 38, 39, 40, 41, 42, 43, 44, 45, 46, 47, 48] (by decide +kernel) (by decide +kernel)
set_option maxRecDepth 20000 in
theorem gX12_firstHand_X12_handOf : GoodIn wsX12_firstHand (wsV RX12 306 RX12 yX12_handOf wsX12_handOf) := goodIn_app (goodIn_of _ (by decide +kernel)) ggX12_firstHand_X12_handOf
set_option maxRecDepth 20000 in
theorem ggX12_firstHand_X12_spot : GoodIn wsX12_firstHand wsX12_spot := goodIn_r _ [10] (by decide +kernel) (by decide +kernel)
set_option maxRecDepth 20000 in
theorem gX12_firstHand_X12_spot : GoodIn wsX12_firstHand (va_wsS RX12 447 yX12_spot wsX12_spot) := goodIn_app (goodIn_of _ (by decide +kernel)) ggX12_firstHand_X12_spot
theorem dX12_firstHand_0 : decode cX12_firstHand 0 = .ok (.iload_n 2, 1) := by decide +kernel
theorem dX12_firstHand_1 : decode cX12_firstHand 1 = .ok (.istore 4, 2) := by decide +kernel
theorem dX12_firstHand_3 : decode cX12_firstHand 3 = .ok (.iconst 0, 1) := by decide +kernel
theorem dX12_firstHand_4 : decode cX12_firstHand 4 = .ok (.istore 5, 2) := by decide +kernel
theorem dX12_firstHand_6 : decode cX12_firstHand 6 = .ok (.iconst 0, 1) := by decide +kernel
theorem dX12_firstHand_7 : decode cX12_firstHand 7 = .ok (.istore 6, 2) := by decide +kernel
theorem dX12_firstHand_9 : decode cX12_firstHand 9 = .ok (.iload 6, 2) := by decide +kernel
theorem dX12_firstHand_11 : decode cX12_firstHand 11 = .ok (.iload_n 3, 1) := by decide +kernel
theorem dX12_firstHand_12 : decode cX12_firstHand 12 = .ok (.if_icmp .gt 69, 3) := by decide +kernel
theorem dX12_firstHand_15 : decode cX12_firstHand 15 = .ok (.iconst 0, 1) := by decide +kernel
theorem dX12_firstHand_16 : decode cX12_firstHand 16 = .ok (.istore 5, 2) := by decide +kernel
theorem dX12_firstHand_18 : decode cX12_firstHand 18 = .ok (.iload 4, 2) := by decide +kernel
theorem dX12_firstHand_20 : decode cX12_firstHand 20 = .ok (.aload_n 0, 1) := by decide +kernel
theorem dX12_firstHand_21 : decode cX12_firstHand 21 = .ok (.iload 5, 2) := by decide +kernel
theorem dX12_firstHand_23 : decode cX12_firstHand 23 = .ok (.iconst 3, 1) := by decide +kernel
theorem dX12_firstHand_24 : decode cX12_firstHand 24 = .ok (.invokevirtual 306, 3) := by decide +kernel
theorem dX12_firstHand_27 : decode cX12_firstHand 27 = .ok (.if_icmp .lt 30, 3) := by decide +kernel
theorem dX12_firstHand_30 : decode cX12_firstHand 30 = .ok (.aload_n 0, 1) := by decide +kernel
theorem dX12_firstHand_31 : decode cX12_firstHand 31 = .ok (.getfield 64, 3) := by decide +kernel
theorem dX12_firstHand_34 : decode cX12_firstHand 34 = .ok (.iload_n 1, 1) := by decide +kernel
theorem dX12_firstHand_35 : decode cX12_firstHand 35 = .ok (.iconst 1, 1) := by decide +kernel
theorem dX12_firstHand_36 : decode cX12_firstHand 36 = .ok (.isub, 1) := by decide +kernel
theorem dX12_firstHand_37 : decode cX12_firstHand 37 = .ok (.iload 6, 2) := by decide +kernel
theorem dX12_firstHand_39 : decode cX12_firstHand 39 = .ok (.isub, 1) := by decide +kernel
theorem dX12_firstHand_40 : decode cX12_firstHand 40 = .ok (.iload 4, 2) := by decide +kernel
theorem dX12_firstHand_42 : decode cX12_firstHand 42 = .ok (.aload_n 0, 1) := by decide +kernel
theorem dX12_firstHand_43 : decode cX12_firstHand 43 = .ok (.iload 5, 2) := by decide +kernel
theorem dX12_firstHand_45 : decode cX12_firstHand 45 = .ok (.iconst 3, 1) := by decide +kernel
theorem dX12_firstHand_46 : decode cX12_firstHand 46 = .ok (.invokevirtual 306, 3) := by decide +kernel
theorem dX12_firstHand_49 : decode cX12_firstHand 49 = .ok (.isub, 1) := by decide +kernel
theorem dX12_firstHand_50 : decode cX12_firstHand 50 = .ok (.invokestatic 447, 3) := by decide +kernel
theorem dX12_firstHand_53 : decode cX12_firstHand 53 = .ok (.baload, 1) := by decide +kernel
theorem dX12_firstHand_54 : decode cX12_firstHand 54 = .ok (.ifCond .ne 9, 3) := by decide +kernel
theorem dX12_firstHand_57 : decode cX12_firstHand 57 = .ok (.iinc 5 1, 3) := by decide +kernel
theorem dX12_firstHand_60 : decode cX12_firstHand 60 = .ok (.goto (-42), 3) := by decide +kernel
theorem dX12_firstHand_63 : decode cX12_firstHand 63 = .ok (.iload 4, 2) := by decide +kernel
theorem dX12_firstHand_65 : decode cX12_firstHand 65 = .ok (.aload_n 0, 1) := by decide +kernel
theorem dX12_firstHand_66 : decode cX12_firstHand 66 = .ok (.iload 5, 2) := by decide +kernel
theorem dX12_firstHand_68 : decode cX12_firstHand 68 = .ok (.iconst 3, 1) := by decide +kernel
theorem dX12_firstHand_69 : decode cX12_firstHand 69 = .ok (.invokevirtual 306, 3) := by decide +kernel
theorem dX12_firstHand_72 : decode cX12_firstHand 72 = .ok (.isub, 1) := by decide +kernel
theorem dX12_firstHand_73 : decode cX12_firstHand 73 = .ok (.istore 4, 2) := by decide +kernel
theorem dX12_firstHand_75 : decode cX12_firstHand 75 = .ok (.iinc 6 1, 3) := by decide +kernel
theorem dX12_firstHand_78 : decode cX12_firstHand 78 = .ok (.goto (-69), 3) := by decide +kernel
theorem dX12_firstHand_81 : decode cX12_firstHand 81 = .ok (.iload 5, 2) := by decide +kernel
theorem dX12_firstHand_83 : decode cX12_firstHand 83 = .ok (.ireturn, 1) := by decide +kernel
set_option maxRecDepth 20000 in
theorem ggX12_rows_X12_isDairy : GoodIn wsX12_rows wsX12_isDairy := goodIn_r _ [14, 9, 34, 35, 36, 37, 38, 39, 40, 41, 42, 43, 44, 45, 46, 47, 48, 49, 50, 51, 52, 53, 54, 55, 56, 57, 58, 59, 60, 61, 62, 63, 64, 65, 66, 67, 68, 69, 70, 71] (by decide +kernel) (by decide +kernel)
set_option maxRecDepth 20000 in
theorem gX12_rows_X12_isDairy : GoodIn wsX12_rows (wsV RX12 350 RX12 yX12_isDairy wsX12_isDairy) := goodIn_app (goodIn_of _ (by decide +kernel)) ggX12_rows_X12_isDairy
set_option maxRecDepth 20000 in
theorem ggX12_rows_X12_in : GoodIn wsX12_rows wsX12_in := goodIn_r _ [17] (by decide +kernel) (by decide +kernel)
set_option maxRecDepth 20000 in
theorem gX12_rows_X12_in : GoodIn wsX12_rows (va_wsS RX12 118 yX12_in wsX12_in) := goodIn_app (goodIn_of _ (by decide +kernel)) ggX12_rows_X12_in
set_option maxRecDepth 20000 in
theorem ggX12_rows_X12_fillsRows : GoodIn wsX12_rows wsX12_fillsRows := goodIn_r _ [21, 7, 8, 9, 22, 23, 24, 25, 13, 26, 27, 28, 29, 34, 35, 36, 37, 38, 39, 40, 41, 42, 43, 44, 45, 46, 47, 48, 49, 50, 51, 52, 53, 54, 55, 56, 57, 58, 59, 60, 61, 62, 63, 64, 65, 66, 67, 68, 69, 70, 71] (by decide +kernel) (by decide +kernel)
set_option maxRecDepth 20000 in
theorem gX12_rows_X12_fillsRows : GoodIn wsX12_rows (wsV RX12 462 RX12 yX12_fillsRows wsX12_fillsRows) := goodIn_app (goodIn_of _ (by decide +kernel)) ggX12_rows_X12_fillsRows
set_option maxRecDepth 20000 in
theorem ggX12_rows_X12_spot : GoodIn wsX12_rows wsX12_spot := goodIn_r _ [29] (by decide +kernel) (by decide +kernel)
set_option maxRecDepth 20000 in
theorem gX12_rows_X12_spot : GoodIn wsX12_rows (va_wsS RX12 447 yX12_spot wsX12_spot) := goodIn_app (goodIn_of _ (by decide +kernel)) ggX12_rows_X12_spot
set_option maxRecDepth 20000 in
theorem ggX12_rows_X12_firstHand : GoodIn wsX12_rows wsX12_firstHand := goodIn_r _ [33, 8, 23, 24, 25, 13, 26, 9, 27, 28, 29, 34, 35, 36, 37, 38, 39, 40, 41, 42, 43, 44, 45, 46, 47, 48, 49, 50, 51, 52, 53, 54, 55, 56, 57, 58, 59, 60, 61, 62, 63, 64, 65, 66, 67, 68, 69, 70, 71] (by decide +kernel) (by decide +kernel)
set_option maxRecDepth 20000 in
theorem gX12_rows_X12_firstHand : GoodIn wsX12_rows (wsV RX12 465 RX12 yX12_firstHand wsX12_firstHand) := goodIn_app (goodIn_of _ (by decide +kernel)) ggX12_rows_X12_firstHand
set_option maxRecDepth 20000 in
theorem ggX12_rows_X12_handOf : GoodIn wsX12_rows wsX12_handOf := goodIn_r _ [26, 9, 34, 35, 36, 37, 38, 39, 40, 41, 42, 43, 44, 45, 46, 47, 48, 49, 50, 51, 52, 53, 54, 55, 56, 57, 58, 59, 60, 61, 62, 63, 64, 65, 66, 67, 68, 69, 70, 71] (by decide +kernel) (by decide +kernel)
set_option maxRecDepth 20000 in
theorem gX12_rows_X12_handOf : GoodIn wsX12_rows (wsV RX12 306 RX12 yX12_handOf wsX12_handOf) := goodIn_app (goodIn_of _ (by decide +kernel)) ggX12_rows_X12_handOf
theorem dX12_rows_0 : decode cX12_rows 0 = .ok (.aload_n 0, 1) := by decide +kernel
theorem dX12_rows_1 : decode cX12_rows 1 = .ok (.invokevirtual 350, 3) := by decide +kernel
theorem dX12_rows_4 : decode cX12_rows 4 = .ok (.ifCond .eq 55, 3) := by decide +kernel
theorem dX12_rows_7 : decode cX12_rows 7 = .ok (.iload_n 1, 1) := by decide +kernel
theorem dX12_rows_8 : decode cX12_rows 8 = .ok (.i2l, 1) := by decide +kernel
theorem dX12_rows_9 : decode cX12_rows 9 = .ok (.lconst 1, 1) := by decide +kernel
theorem dX12_rows_10 : decode cX12_rows 10 = .ok (.ldc2_w 452, 3) := by decide +kernel
theorem dX12_rows_13 : decode cX12_rows 13 = .ok (.invokestatic 118, 3) := by decide +kernel
theorem dX12_rows_16 : decode cX12_rows 16 = .ok (.ifCond .eq 43, 3) := by decide +kernel
theorem dX12_rows_19 : decode cX12_rows 19 = .ok (.iload_n 2, 1) := by decide +kernel
theorem dX12_rows_20 : decode cX12_rows 20 = .ok (.i2l, 1) := by decide +kernel
theorem dX12_rows_21 : decode cX12_rows 21 = .ok (.lconst 0, 1) := by decide +kernel
theorem dX12_rows_22 : decode cX12_rows 22 = .ok (.ldc2_w 454, 3) := by decide +kernel
theorem dX12_rows_25 : decode cX12_rows 25 = .ok (.invokestatic 118, 3) := by decide +kernel
theorem dX12_rows_28 : decode cX12_rows 28 = .ok (.ifCond .eq 31, 3) := by decide +kernel
theorem dX12_rows_31 : decode cX12_rows 31 = .ok (.iload_n 3, 1) := by decide +kernel
theorem dX12_rows_32 : decode cX12_rows 32 = .ok (.i2l, 1) := by decide +kernel
theorem dX12_rows_33 : decode cX12_rows 33 = .ok (.ldc2_w 456, 3) := by decide +kernel
theorem dX12_rows_36 : decode cX12_rows 36 = .ok (.ldc2_w 458, 3) := by decide +kernel
theorem dX12_rows_39 : decode cX12_rows 39 = .ok (.invokestatic 118, 3) := by decide +kernel
theorem dX12_rows_42 : decode cX12_rows 42 = .ok (.ifCond .ne 20, 3) := by decide +kernel
theorem dX12_rows_45 : decode cX12_rows 45 = .ok (.iload_n 3, 1) := by decide +kernel
theorem dX12_rows_46 : decode cX12_rows 46 = .ok (.i2l, 1) := by decide +kernel
theorem dX12_rows_47 : decode cX12_rows 47 = .ok (.ldc2_w 432, 3) := by decide +kernel
theorem dX12_rows_50 : decode cX12_rows 50 = .ok (.ldc2_w 460, 3) := by decide +kernel
theorem dX12_rows_53 : decode cX12_rows 53 = .ok (.invokestatic 118, 3) := by decide +kernel
theorem dX12_rows_56 : decode cX12_rows 56 = .ok (.ifCond .ne 6, 3) := by decide +kernel
theorem dX12_rows_59 : decode cX12_rows 59 = .ok (.bipush (-3), 2) := by decide +kernel
theorem dX12_rows_61 : decode cX12_rows 61 = .ok (.ireturn, 1) := by decide +kernel
theorem dX12_rows_62 : decode cX12_rows 62 = .ok (.aload_n 0, 1) := by decide +kernel
theorem dX12_rows_63 : decode cX12_rows 63 = .ok (.iload_n 1, 1) := by decide +kernel
theorem dX12_rows_64 : decode cX12_rows 64 = .ok (.invokevirtual 462, 3) := by decide +kernel
theorem dX12_rows_67 : decode cX12_rows 67 = .ok (.iload_n 3, 1) := by decide +kernel
theorem dX12_rows_68 : decode cX12_rows 68 = .ok (.iconst (-1), 1) := by decide +kernel
theorem dX12_rows_69 : decode cX12_rows 69 = .ok (.if_icmp .ne 14, 3) := by decide +kernel
theorem dX12_rows_72 : decode cX12_rows 72 = .ok (.aload_n 0, 1) := by decide +kernel
theorem dX12_rows_73 : decode cX12_rows 73 = .ok (.getfield 61, 3) := by decide +kernel
theorem dX12_rows_76 : decode cX12_rows 76 = .ok (.iload_n 1, 1) := by decide +kernel
theorem dX12_rows_77 : decode cX12_rows 77 = .ok (.iload_n 2, 1) := by decide +kernel
theorem dX12_rows_78 : decode cX12_rows 78 = .ok (.invokestatic 447, 3) := by decide +kernel
theorem dX12_rows_81 : decode cX12_rows 81 = .ok (.iaload, 1) := by decide +kernel
theorem dX12_rows_82 : decode cX12_rows 82 = .ok (.ireturn, 1) := by decide +kernel
theorem dX12_rows_83 : decode cX12_rows 83 = .ok (.aload_n 0, 1) := by decide +kernel
theorem dX12_rows_84 : decode cX12_rows 84 = .ok (.getfield 64, 3) := by decide +kernel
theorem dX12_rows_87 : decode cX12_rows 87 = .ok (.iload_n 1, 1) := by decide +kernel
theorem dX12_rows_88 : decode cX12_rows 88 = .ok (.iload_n 2, 1) := by decide +kernel
theorem dX12_rows_89 : decode cX12_rows 89 = .ok (.invokestatic 447, 3) := by decide +kernel
theorem dX12_rows_92 : decode cX12_rows 92 = .ok (.baload, 1) := by decide +kernel
theorem dX12_rows_93 : decode cX12_rows 93 = .ok (.ifCond .eq 11, 3) := by decide +kernel
theorem dX12_rows_96 : decode cX12_rows 96 = .ok (.iload_n 3, 1) := by decide +kernel
theorem dX12_rows_97 : decode cX12_rows 97 = .ok (.bipush 20, 2) := by decide +kernel
theorem dX12_rows_99 : decode cX12_rows 99 = .ok (.irem, 1) := by decide +kernel
theorem dX12_rows_100 : decode cX12_rows 100 = .ok (.iload_n 1, 1) := by decide +kernel
theorem dX12_rows_101 : decode cX12_rows 101 = .ok (.if_icmp .lt 6, 3) := by decide +kernel
theorem dX12_rows_104 : decode cX12_rows 104 = .ok (.bipush (-2), 2) := by decide +kernel
theorem dX12_rows_106 : decode cX12_rows 106 = .ok (.ireturn, 1) := by decide +kernel
theorem dX12_rows_107 : decode cX12_rows 107 = .ok (.iload_n 3, 1) := by decide +kernel
theorem dX12_rows_108 : decode cX12_rows 108 = .ok (.bipush 20, 2) := by decide +kernel
theorem dX12_rows_110 : decode cX12_rows 110 = .ok (.if_icmp .ge 11, 3) := by decide +kernel
theorem dX12_rows_113 : decode cX12_rows 113 = .ok (.aload_n 0, 1) := by decide +kernel
theorem dX12_rows_114 : decode cX12_rows 114 = .ok (.iload_n 1, 1) := by decide +kernel
theorem dX12_rows_115 : decode cX12_rows 115 = .ok (.iload_n 2, 1) := by decide +kernel
theorem dX12_rows_116 : decode cX12_rows 116 = .ok (.iload_n 3, 1) := by decide +kernel
theorem dX12_rows_117 : decode cX12_rows 117 = .ok (.invokevirtual 465, 3) := by decide +kernel
theorem dX12_rows_120 : decode cX12_rows 120 = .ok (.ireturn, 1) := by decide +kernel
theorem dX12_rows_121 : decode cX12_rows 121 = .ok (.iconst 0, 1) := by decide +kernel
theorem dX12_rows_122 : decode cX12_rows 122 = .ok (.istore 4, 2) := by decide +kernel
theorem dX12_rows_124 : decode cX12_rows 124 = .ok (.iconst 0, 1) := by decide +kernel
theorem dX12_rows_125 : decode cX12_rows 125 = .ok (.istore 5, 2) := by decide +kernel
theorem dX12_rows_127 : decode cX12_rows 127 = .ok (.iload 5, 2) := by decide +kernel
theorem dX12_rows_129 : decode cX12_rows 129 = .ok (.aload_n 0, 1) := by decide +kernel
theorem dX12_rows_130 : decode cX12_rows 130 = .ok (.getfield 39, 3) := by decide +kernel
theorem dX12_rows_133 : decode cX12_rows 133 = .ok (.iconst 4, 1) := by decide +kernel
theorem dX12_rows_134 : decode cX12_rows 134 = .ok (.iaload, 1) := by decide +kernel
theorem dX12_rows_135 : decode cX12_rows 135 = .ok (.if_icmp .ge 56, 3) := by decide +kernel
theorem dX12_rows_138 : decode cX12_rows 138 = .ok (.iload 4, 2) := by decide +kernel
theorem dX12_rows_140 : decode cX12_rows 140 = .ok (.iload_n 2, 1) := by decide +kernel
theorem dX12_rows_141 : decode cX12_rows 141 = .ok (.aload_n 0, 1) := by decide +kernel
theorem dX12_rows_142 : decode cX12_rows 142 = .ok (.iload 5, 2) := by decide +kernel
theorem dX12_rows_144 : decode cX12_rows 144 = .ok (.iconst 3, 1) := by decide +kernel
theorem dX12_rows_145 : decode cX12_rows 145 = .ok (.invokevirtual 306, 3) := by decide +kernel
theorem dX12_rows_148 : decode cX12_rows 148 = .ok (.if_icmp .lt 33, 3) := by decide +kernel
theorem dX12_rows_151 : decode cX12_rows 151 = .ok (.aload_n 0, 1) := by decide +kernel
theorem dX12_rows_152 : decode cX12_rows 152 = .ok (.getfield 64, 3) := by decide +kernel
theorem dX12_rows_155 : decode cX12_rows 155 = .ok (.iload_n 1, 1) := by decide +kernel
theorem dX12_rows_156 : decode cX12_rows 156 = .ok (.iconst 1, 1) := by decide +kernel
theorem dX12_rows_157 : decode cX12_rows 157 = .ok (.isub, 1) := by decide +kernel
theorem dX12_rows_158 : decode cX12_rows 158 = .ok (.iload_n 2, 1) := by decide +kernel
theorem dX12_rows_159 : decode cX12_rows 159 = .ok (.aload_n 0, 1) := by decide +kernel
theorem dX12_rows_160 : decode cX12_rows 160 = .ok (.iload 5, 2) := by decide +kernel
theorem dX12_rows_162 : decode cX12_rows 162 = .ok (.iconst 3, 1) := by decide +kernel
theorem dX12_rows_163 : decode cX12_rows 163 = .ok (.invokevirtual 306, 3) := by decide +kernel
theorem dX12_rows_166 : decode cX12_rows 166 = .ok (.isub, 1) := by decide +kernel
theorem dX12_rows_167 : decode cX12_rows 167 = .ok (.invokestatic 447, 3) := by decide +kernel
theorem dX12_rows_170 : decode cX12_rows 170 = .ok (.baload, 1) := by decide +kernel
theorem dX12_rows_171 : decode cX12_rows 171 = .ok (.ifCond .eq 10, 3) := by decide +kernel
theorem dX12_rows_174 : decode cX12_rows 174 = .ok (.iconst 1, 1) := by decide +kernel
theorem dX12_rows_175 : decode cX12_rows 175 = .ok (.iload 5, 2) := by decide +kernel
theorem dX12_rows_177 : decode cX12_rows 177 = .ok (.ishl, 1) := by decide +kernel
theorem dX12_rows_178 : decode cX12_rows 178 = .ok (.goto 4, 3) := by decide +kernel
theorem dX12_rows_181 : decode cX12_rows 181 = .ok (.iconst 0, 1) := by decide +kernel
theorem dX12_rows_182 : decode cX12_rows 182 = .ok (.ior, 1) := by decide +kernel
theorem dX12_rows_183 : decode cX12_rows 183 = .ok (.istore 4, 2) := by decide +kernel
theorem dX12_rows_185 : decode cX12_rows 185 = .ok (.iinc 5 1, 3) := by decide +kernel
theorem dX12_rows_188 : decode cX12_rows 188 = .ok (.goto (-61), 3) := by decide +kernel
theorem dX12_rows_191 : decode cX12_rows 191 = .ok (.iload 4, 2) := by decide +kernel
theorem dX12_rows_193 : decode cX12_rows 193 = .ok (.ireturn, 1) := by decide +kernel
set_option maxRecDepth 20000 in
theorem ggX12_turnedAll_X12_jugOf : GoodIn wsX12_turnedAll wsX12_jugOf := goodIn_r _ [6, 1, 7, 8, 9, 10, 11, 12, 13, 14, 15, 16, 17, 18, 19, 20, 21, 22, 23, 24, 25, 26, 27, 28, 29, 30, 31, 32, 33, 34, 35, 36, 37, 38, 39, 40, 41, 42, 43, 44] (by decide +kernel) (by decide +kernel)
set_option maxRecDepth 20000 in
theorem gX12_turnedAll_X12_jugOf : GoodIn wsX12_turnedAll (wsV RX12 284 RX12 yX12_jugOf wsX12_jugOf) := goodIn_app (goodIn_of _ (by decide +kernel)) ggX12_turnedAll_X12_jugOf
theorem dX12_turnedAll_0 : decode cX12_turnedAll 0 = .ok (.iconst 0, 1) := by decide +kernel
theorem dX12_turnedAll_1 : decode cX12_turnedAll 1 = .ok (.istore_n 1, 1) := by decide +kernel
theorem dX12_turnedAll_2 : decode cX12_turnedAll 2 = .ok (.iconst 0, 1) := by decide +kernel
theorem dX12_turnedAll_3 : decode cX12_turnedAll 3 = .ok (.istore_n 2, 1) := by decide +kernel
theorem dX12_turnedAll_4 : decode cX12_turnedAll 4 = .ok (.iload_n 2, 1) := by decide +kernel
theorem dX12_turnedAll_5 : decode cX12_turnedAll 5 = .ok (.aload_n 0, 1) := by decide +kernel
theorem dX12_turnedAll_6 : decode cX12_turnedAll 6 = .ok (.getfield 39, 3) := by decide +kernel
theorem dX12_turnedAll_9 : decode cX12_turnedAll 9 = .ok (.iconst 5, 1) := by decide +kernel
theorem dX12_turnedAll_10 : decode cX12_turnedAll 10 = .ok (.iaload, 1) := by decide +kernel
theorem dX12_turnedAll_11 : decode cX12_turnedAll 11 = .ok (.if_icmp .ge 32, 3) := by decide +kernel
theorem dX12_turnedAll_14 : decode cX12_turnedAll 14 = .ok (.iload_n 1, 1) := by decide +kernel
theorem dX12_turnedAll_15 : decode cX12_turnedAll 15 = .ok (.aload_n 0, 1) := by decide +kernel
theorem dX12_turnedAll_16 : decode cX12_turnedAll 16 = .ok (.iload_n 2, 1) := by decide +kernel
theorem dX12_turnedAll_17 : decode cX12_turnedAll 17 = .ok (.iconst 3, 1) := by decide +kernel
theorem dX12_turnedAll_18 : decode cX12_turnedAll 18 = .ok (.invokevirtual 284, 3) := by decide +kernel
theorem dX12_turnedAll_21 : decode cX12_turnedAll 21 = .ok (.iconst 1, 1) := by decide +kernel
theorem dX12_turnedAll_22 : decode cX12_turnedAll 22 = .ok (.if_icmp .ne 7, 3) := by decide +kernel
theorem dX12_turnedAll_25 : decode cX12_turnedAll 25 = .ok (.iconst 0, 1) := by decide +kernel
theorem dX12_turnedAll_26 : decode cX12_turnedAll 26 = .ok (.goto 9, 3) := by decide +kernel
theorem dX12_turnedAll_29 : decode cX12_turnedAll 29 = .ok (.aload_n 0, 1) := by decide +kernel
theorem dX12_turnedAll_30 : decode cX12_turnedAll 30 = .ok (.iload_n 2, 1) := by decide +kernel
theorem dX12_turnedAll_31 : decode cX12_turnedAll 31 = .ok (.iconst 2, 1) := by decide +kernel
theorem dX12_turnedAll_32 : decode cX12_turnedAll 32 = .ok (.invokevirtual 284, 3) := by decide +kernel
theorem dX12_turnedAll_35 : decode cX12_turnedAll 35 = .ok (.iadd, 1) := by decide +kernel
theorem dX12_turnedAll_36 : decode cX12_turnedAll 36 = .ok (.istore_n 1, 1) := by decide +kernel
theorem dX12_turnedAll_37 : decode cX12_turnedAll 37 = .ok (.iinc 2 1, 3) := by decide +kernel
theorem dX12_turnedAll_40 : decode cX12_turnedAll 40 = .ok (.goto (-36), 3) := by decide +kernel
theorem dX12_turnedAll_43 : decode cX12_turnedAll 43 = .ok (.iload_n 1, 1) := by decide +kernel
theorem dX12_turnedAll_44 : decode cX12_turnedAll 44 = .ok (.ireturn, 1) := by decide +kernel
set_option maxRecDepth 20000 in
theorem ggX12_turnedIn_X12_keeps : GoodIn wsX12_turnedIn wsX12_keeps := goodIn_r _ [6, 7, 8, 82, 83, 84, 85, 86, 87, 88, 89, 90, 91, 92, 93, 94, 95, 96, 97, 98, 99, 100, 101, 102, 103, 104, 105, 106, 107, 108, 109, 110, 111, 112, 113, 114, 115, 116, 117, 118, 119] (by decide +kernel) (by decide +kernel)
set_option maxRecDepth 20000 in
theorem gX12_turnedIn_X12_keeps : GoodIn wsX12_turnedIn (wsV RX12 382 RX12 yX12_keeps wsX12_keeps) := goodIn_app (goodIn_of _ (by decide +kernel)) ggX12_turnedIn_X12_keeps
set_option maxRecDepth 20000 in
theorem ggX12_turnedIn_X12_passes : GoodIn wsX12_turnedIn wsX12_passes := goodIn_r _ [12, 8, 13, 14, 15, 5, 16, 17, 18, 19, 20, 21, 22, 23, 24, 1, 25, 26, 27, 28, 29, 30, 31, 32, 33, 34, 35, 36, 37, 38, 39, 40, 41, 42, 43, 44, 45, 46, 47, 48, 49, 50, 51, 52, 53, 54, 55, 56, 57, 58, 59, 60, 61, 62, 63, 64, 65, 66, 67, 68, 69, 70, 71, 72, 73, 82, 83, 84, 85, 86, 87, 88, 89, 90, 91, 92, 93, 94, 95, 96, 97, 98, 99, 100, 101, 102, 103, 104, 105, 106, 107, 108, 109, 110, 111, 112, 113, 114, 115, 116, 117, 118, 119] (by decide +kernel) (by decide +kernel)
set_option maxRecDepth 20000 in
theorem gX12_turnedIn_X12_passes : GoodIn wsX12_turnedIn (wsV RX12 356 RX12 yX12_passes wsX12_passes) := goodIn_app (goodIn_of _ (by decide +kernel)) ggX12_turnedIn_X12_passes
set_option maxRecDepth 20000 in
theorem ggX12_turnedIn_X12_turnedAll : GoodIn wsX12_turnedIn wsX12_turnedAll := goodIn_r _ [77, 8, 13, 14, 15, 5, 16, 82, 83, 84, 85, 86, 87, 88, 89, 90, 91, 92, 93, 94, 95, 96, 97, 98, 99, 100, 101, 102, 103, 104, 105, 106, 107, 108, 109, 110, 111, 112, 113, 114, 115, 116, 117, 118, 119] (by decide +kernel) (by decide +kernel)
set_option maxRecDepth 20000 in
theorem gX12_turnedIn_X12_turnedAll : GoodIn wsX12_turnedIn (wsV RX12 468 RX12 yX12_turnedAll wsX12_turnedAll) := goodIn_app (goodIn_of _ (by decide +kernel)) ggX12_turnedIn_X12_turnedAll
set_option maxRecDepth 20000 in
theorem ggX12_turnedIn_X12_laysBack : GoodIn wsX12_turnedIn wsX12_laysBack := goodIn_r _ [81, 8, 7, 82, 83, 84, 85, 86, 87, 88, 89, 90, 91, 92, 93, 94, 95, 96, 97, 98, 99, 100, 101, 102, 103, 104, 105, 106, 107, 108, 109, 110, 111, 112, 113, 114, 115, 116, 117, 118, 119] (by decide +kernel) (by decide +kernel)
set_option maxRecDepth 20000 in
theorem gX12_turnedIn_X12_laysBack : GoodIn wsX12_turnedIn (wsV RX12 385 RX12 yX12_laysBack wsX12_laysBack) := goodIn_app (goodIn_of _ (by decide +kernel)) ggX12_turnedIn_X12_laysBack
theorem dX12_turnedIn_0 : decode cX12_turnedIn 0 = .ok (.aload_n 0, 1) := by decide +kernel
theorem dX12_turnedIn_1 : decode cX12_turnedIn 1 = .ok (.invokevirtual 382, 3) := by decide +kernel
theorem dX12_turnedIn_4 : decode cX12_turnedIn 4 = .ok (.aload_n 0, 1) := by decide +kernel
theorem dX12_turnedIn_5 : decode cX12_turnedIn 5 = .ok (.iload_n 2, 1) := by decide +kernel
theorem dX12_turnedIn_6 : decode cX12_turnedIn 6 = .ok (.putfield 288, 3) := by decide +kernel
theorem dX12_turnedIn_9 : decode cX12_turnedIn 9 = .ok (.iconst 0, 1) := by decide +kernel
theorem dX12_turnedIn_10 : decode cX12_turnedIn 10 = .ok (.istore_n 3, 1) := by decide +kernel
theorem dX12_turnedIn_11 : decode cX12_turnedIn 11 = .ok (.iload_n 3, 1) := by decide +kernel
theorem dX12_turnedIn_12 : decode cX12_turnedIn 12 = .ok (.iload_n 1, 1) := by decide +kernel
theorem dX12_turnedIn_13 : decode cX12_turnedIn 13 = .ok (.if_icmp .ge 14, 3) := by decide +kernel
theorem dX12_turnedIn_16 : decode cX12_turnedIn 16 = .ok (.aload_n 0, 1) := by decide +kernel
theorem dX12_turnedIn_17 : decode cX12_turnedIn 17 = .ok (.invokevirtual 356, 3) := by decide +kernel
theorem dX12_turnedIn_20 : decode cX12_turnedIn 20 = .ok (.pop, 1) := by decide +kernel
theorem dX12_turnedIn_21 : decode cX12_turnedIn 21 = .ok (.iinc 3 1, 3) := by decide +kernel
theorem dX12_turnedIn_24 : decode cX12_turnedIn 24 = .ok (.goto (-13), 3) := by decide +kernel
theorem dX12_turnedIn_27 : decode cX12_turnedIn 27 = .ok (.aload_n 0, 1) := by decide +kernel
theorem dX12_turnedIn_28 : decode cX12_turnedIn 28 = .ok (.iconst 0, 1) := by decide +kernel
theorem dX12_turnedIn_29 : decode cX12_turnedIn 29 = .ok (.putfield 288, 3) := by decide +kernel
theorem dX12_turnedIn_32 : decode cX12_turnedIn 32 = .ok (.aload_n 0, 1) := by decide +kernel
theorem dX12_turnedIn_33 : decode cX12_turnedIn 33 = .ok (.invokevirtual 468, 3) := by decide +kernel
theorem dX12_turnedIn_36 : decode cX12_turnedIn 36 = .ok (.istore_n 3, 1) := by decide +kernel
theorem dX12_turnedIn_37 : decode cX12_turnedIn 37 = .ok (.aload_n 0, 1) := by decide +kernel
theorem dX12_turnedIn_38 : decode cX12_turnedIn 38 = .ok (.invokevirtual 385, 3) := by decide +kernel
theorem dX12_turnedIn_41 : decode cX12_turnedIn 41 = .ok (.iload_n 3, 1) := by decide +kernel
theorem dX12_turnedIn_42 : decode cX12_turnedIn 42 = .ok (.ireturn, 1) := by decide +kernel
set_option maxRecDepth 20000 in
theorem ggX12_ice_X12_isDairy : GoodIn wsX12_ice wsX12_isDairy := goodIn_r _ [6, 7, 94, 95, 96, 97, 98, 99, 100, 101, 102, 103, 104, 105, 106, 107, 108, 109, 110, 111, 112, 113, 114, 115, 116, 117, 118, 119, 120, 121, 122, 123, 124, 125, 126, 127, 128, 129, 130, 131] (by decide +kernel) (by decide +kernel)
set_option maxRecDepth 20000 in
theorem gX12_ice_X12_isDairy : GoodIn wsX12_ice (wsV RX12 350 RX12 yX12_isDairy wsX12_isDairy) := goodIn_app (goodIn_of _ (by decide +kernel)) ggX12_ice_X12_isDairy
set_option maxRecDepth 20000 in
theorem ggX12_ice_X12_in : GoodIn wsX12_ice wsX12_in := goodIn_r _ [10] (by decide +kernel) (by decide +kernel)
set_option maxRecDepth 20000 in
theorem gX12_ice_X12_in : GoodIn wsX12_ice (va_wsS RX12 118 yX12_in wsX12_in) := goodIn_app (goodIn_of _ (by decide +kernel)) ggX12_ice_X12_in
set_option maxRecDepth 20000 in
theorem ggX12_ice_X12_turnedIn : GoodIn wsX12_ice wsX12_turnedIn := goodIn_r _ [14, 15, 16, 17, 18, 5, 19, 20, 7, 21, 22, 23, 24, 25, 26, 27, 28, 29, 30, 31, 32, 33, 34, 35, 36, 37, 38, 39, 40, 41, 42, 43, 44, 45, 46, 47, 48, 49, 50, 51, 52, 53, 54, 55, 56, 57, 58, 59, 60, 61, 62, 63, 64, 65, 66, 67, 68, 69, 70, 71, 72, 73, 74, 75, 76, 77, 78, 79, 80, 81, 82, 83, 84, 85, 86, 87, 88, 89, 90, 91, 92, 93, 94, 95, 96, 97, 98, 99, 100, 101, 102, 103, 104, 105, 106, 107, 108, 109, 110, 111, 112, 113, 114, 115, 116, 117, 118, 119, 120, 121, 122, 123, 124, 125, 126, 127, 128, 129, 130, 131] (by decide +kernel) (by decide +kernel)
set_option maxRecDepth 20000 in
theorem gX12_ice_X12_turnedIn : GoodIn wsX12_ice (wsV RX12 473 RX12 yX12_turnedIn wsX12_turnedIn) := goodIn_app (goodIn_of _ (by decide +kernel)) ggX12_ice_X12_turnedIn
theorem dX12_ice_0 : decode cX12_ice 0 = .ok (.aload_n 0, 1) := by decide +kernel
theorem dX12_ice_1 : decode cX12_ice 1 = .ok (.invokevirtual 350, 3) := by decide +kernel
theorem dX12_ice_4 : decode cX12_ice 4 = .ok (.ifCond .eq 31, 3) := by decide +kernel
theorem dX12_ice_7 : decode cX12_ice 7 = .ok (.iload_n 1, 1) := by decide +kernel
theorem dX12_ice_8 : decode cX12_ice 8 = .ok (.i2l, 1) := by decide +kernel
theorem dX12_ice_9 : decode cX12_ice 9 = .ok (.lconst 1, 1) := by decide +kernel
theorem dX12_ice_10 : decode cX12_ice 10 = .ok (.ldc2_w 471, 3) := by decide +kernel
theorem dX12_ice_13 : decode cX12_ice 13 = .ok (.invokestatic 118, 3) := by decide +kernel
theorem dX12_ice_16 : decode cX12_ice 16 = .ok (.ifCond .eq 19, 3) := by decide +kernel
theorem dX12_ice_19 : decode cX12_ice 19 = .ok (.aload_n 0, 1) := by decide +kernel
theorem dX12_ice_20 : decode cX12_ice 20 = .ok (.iload_n 1, 1) := by decide +kernel
theorem dX12_ice_21 : decode cX12_ice 21 = .ok (.iconst 0, 1) := by decide +kernel
theorem dX12_ice_22 : decode cX12_ice 22 = .ok (.invokevirtual 473, 3) := by decide +kernel
theorem dX12_ice_25 : decode cX12_ice 25 = .ok (.aload_n 0, 1) := by decide +kernel
theorem dX12_ice_26 : decode cX12_ice 26 = .ok (.iload_n 1, 1) := by decide +kernel
theorem dX12_ice_27 : decode cX12_ice 27 = .ok (.iconst 1, 1) := by decide +kernel
theorem dX12_ice_28 : decode cX12_ice 28 = .ok (.invokevirtual 473, 3) := by decide +kernel
theorem dX12_ice_31 : decode cX12_ice 31 = .ok (.isub, 1) := by decide +kernel
theorem dX12_ice_32 : decode cX12_ice 32 = .ok (.goto 4, 3) := by decide +kernel
theorem dX12_ice_35 : decode cX12_ice 35 = .ok (.iconst (-1), 1) := by decide +kernel
theorem dX12_ice_36 : decode cX12_ice 36 = .ok (.ireturn, 1) := by decide +kernel
theorem dX12_seed_0 : decode cX12_seed 0 = .ok (.iload_n 1, 1) := by decide +kernel
theorem dX12_seed_1 : decode cX12_seed 1 = .ok (.ifCond .ge 5, 3) := by decide +kernel
theorem dX12_seed_4 : decode cX12_seed 4 = .ok (.iconst (-1), 1) := by decide +kernel
theorem dX12_seed_5 : decode cX12_seed 5 = .ok (.ireturn, 1) := by decide +kernel
theorem dX12_seed_6 : decode cX12_seed 6 = .ok (.aload_n 0, 1) := by decide +kernel
theorem dX12_seed_7 : decode cX12_seed 7 = .ok (.getfield 477, 3) := by decide +kernel
theorem dX12_seed_10 : decode cX12_seed 10 = .ok (.istore_n 2, 1) := by decide +kernel
theorem dX12_seed_11 : decode cX12_seed 11 = .ok (.aload_n 0, 1) := by decide +kernel
theorem dX12_seed_12 : decode cX12_seed 12 = .ok (.iload_n 1, 1) := by decide +kernel
theorem dX12_seed_13 : decode cX12_seed 13 = .ok (.putfield 477, 3) := by decide +kernel
theorem dX12_seed_16 : decode cX12_seed 16 = .ok (.iload_n 2, 1) := by decide +kernel
theorem dX12_seed_17 : decode cX12_seed 17 = .ok (.ireturn, 1) := by decide +kernel
theorem dX12_draw_0 : decode cX12_draw 0 = .ok (.aload_n 0, 1) := by decide +kernel
theorem dX12_draw_1 : decode cX12_draw 1 = .ok (.aload_n 0, 1) := by decide +kernel
theorem dX12_draw_2 : decode cX12_draw 2 = .ok (.getfield 480, 3) := by decide +kernel
theorem dX12_draw_5 : decode cX12_draw 5 = .ok (.ldc2_w 484, 3) := by decide +kernel
theorem dX12_draw_8 : decode cX12_draw 8 = .ok (.lmul, 1) := by decide +kernel
theorem dX12_draw_9 : decode cX12_draw 9 = .ok (.ldc2_w 486, 3) := by decide +kernel
theorem dX12_draw_12 : decode cX12_draw 12 = .ok (.ladd, 1) := by decide +kernel
theorem dX12_draw_13 : decode cX12_draw 13 = .ok (.ldc2_w 488, 3) := by decide +kernel
theorem dX12_draw_16 : decode cX12_draw 16 = .ok (.lrem, 1) := by decide +kernel
theorem dX12_draw_17 : decode cX12_draw 17 = .ok (.putfield 480, 3) := by decide +kernel
theorem dX12_draw_20 : decode cX12_draw 20 = .ok (.aload_n 0, 1) := by decide +kernel
theorem dX12_draw_21 : decode cX12_draw 21 = .ok (.getfield 480, 3) := by decide +kernel
theorem dX12_draw_24 : decode cX12_draw 24 = .ok (.ldc2_w 490, 3) := by decide +kernel
theorem dX12_draw_27 : decode cX12_draw 27 = .ok (.ldiv, 1) := by decide +kernel
theorem dX12_draw_28 : decode cX12_draw 28 = .ok (.iload_n 1, 1) := by decide +kernel
theorem dX12_draw_29 : decode cX12_draw 29 = .ok (.i2l, 1) := by decide +kernel
theorem dX12_draw_30 : decode cX12_draw 30 = .ok (.lrem, 1) := by decide +kernel
theorem dX12_draw_31 : decode cX12_draw 31 = .ok (.l2i, 1) := by decide +kernel
theorem dX12_draw_32 : decode cX12_draw 32 = .ok (.ireturn, 1) := by decide +kernel
set_option maxRecDepth 20000 in
theorem ggX12_actsDrawn_X12_isAtPlace : GoodIn wsX12_actsDrawn wsX12_isAtPlace := goodIn_r _ [6, 7, 8, 9, 5, 10, 1, 55, 56, 57, 58, 59, 60, 61, 62, 63, 64, 65, 66, 67, 68, 69, 70, 71, 72, 73, 74, 75, 76, 77, 78, 79, 80, 81, 82, 83, 84, 85, 86, 87, 88, 89, 90, 91, 92] (by decide +kernel) (by decide +kernel)
set_option maxRecDepth 20000 in
theorem gX12_actsDrawn_X12_isAtPlace : GoodIn wsX12_actsDrawn (wsV RX12 359 RX12 yX12_isAtPlace wsX12_isAtPlace) := goodIn_app (goodIn_of _ (by decide +kernel)) ggX12_actsDrawn_X12_isAtPlace
set_option maxRecDepth 20000 in
theorem ggX12_actsDrawn_X12_draw : GoodIn wsX12_actsDrawn wsX12_draw := goodIn_r _ [14, 15, 16, 17, 18, 19, 55, 56, 57, 58, 59, 60, 61, 62, 63, 64, 65, 66, 67, 68, 69, 70, 71, 72, 73, 74, 75, 76, 77, 78, 79, 80, 81, 82, 83, 84, 85, 86, 87, 88, 89, 90, 91, 92] (by decide +kernel) (by decide +kernel)
set_option maxRecDepth 20000 in
theorem gX12_actsDrawn_X12_draw : GoodIn wsX12_actsDrawn (wsV RX12 492 RX12 yX12_draw wsX12_draw) := goodIn_app (goodIn_of _ (by decide +kernel)) ggX12_actsDrawn_X12_draw
set_option maxRecDepth 20000 in
theorem ggX12_actsDrawn_X12_canGo : GoodIn wsX12_actsDrawn wsX12_canGo := goodIn_r _ [23, 2, 3, 4, 5, 6, 7, 8, 9, 10, 1, 24, 25, 26, 27, 55, 56, 57, 58, 59, 60, 61, 62, 63, 64, 65, 66, 67, 68, 69, 70, 71, 72, 73, 74, 75, 76, 77, 78, 79, 80, 81, 82, 83, 84, 85, 86, 87, 88, 89, 90, 91, 92] (by decide +kernel) (by decide +kernel)
set_option maxRecDepth 20000 in
theorem gX12_actsDrawn_X12_canGo : GoodIn wsX12_actsDrawn (wsV RX12 374 RX12 yX12_canGo wsX12_canGo) := goodIn_app (goodIn_of _ (by decide +kernel)) ggX12_actsDrawn_X12_canGo
set_option maxRecDepth 20000 in
theorem ggX12_actsDrawn_X12_goes : GoodIn wsX12_actsDrawn wsX12_goes := goodIn_r _ [31, 1, 7, 8, 9, 5, 10, 24, 25, 26, 27, 55, 56, 57, 58, 59, 60, 61, 62, 63, 64, 65, 66, 67, 68, 69, 70, 71, 72, 73, 74, 75, 76, 77, 78, 79, 80, 81, 82, 83, 84, 85, 86, 87, 88, 89, 90, 91, 92] (by decide +kernel) (by decide +kernel)
set_option maxRecDepth 20000 in
theorem gX12_actsDrawn_X12_goes : GoodIn wsX12_actsDrawn (wsV RX12 377 RX12 yX12_goes wsX12_goes) := goodIn_app (goodIn_of _ (by decide +kernel)) ggX12_actsDrawn_X12_goes
set_option maxRecDepth 20000 in
theorem ggX12_actsDrawn_X12_stands : GoodIn wsX12_actsDrawn wsX12_stands := goodIn_r _ [35, 36, 37, 38, 5, 39, 1, 55, 56, 57, 58, 59, 60, 61, 62, 63, 64, 65, 66, 67, 68, 69, 70, 71, 72, 73, 74, 75, 76, 77, 78, 79, 80, 81, 82, 83, 84, 85, 86, 87, 88, 89, 90, 91, 92] (by decide +kernel) (by decide +kernel)
set_option maxRecDepth 20000 in
theorem gX12_actsDrawn_X12_stands : GoodIn wsX12_actsDrawn (wsV RX12 292 RX12 yX12_stands wsX12_stands) := goodIn_app (goodIn_of _ (by decide +kernel)) ggX12_actsDrawn_X12_stands
set_option maxRecDepth 20000 in
theorem ggX12_actsDrawn_X12_canTake : GoodIn wsX12_actsDrawn wsX12_canTake := goodIn_r _ [43, 2, 3, 4, 5, 6, 7, 8, 9, 10, 1, 32, 33, 34, 35, 36, 37, 38, 39, 44, 45, 46, 47, 48, 49, 50, 55, 56, 57, 58, 59, 60, 61, 62, 63, 64, 65, 66, 67, 68, 69, 70, 71, 72, 73, 74, 75, 76, 77, 78, 79, 80, 81, 82, 83, 84, 85, 86, 87, 88, 89, 90, 91, 92] (by decide +kernel) (by decide +kernel)
set_option maxRecDepth 20000 in
theorem gX12_actsDrawn_X12_canTake : GoodIn wsX12_actsDrawn (wsV RX12 362 RX12 yX12_canTake wsX12_canTake) := goodIn_app (goodIn_of _ (by decide +kernel)) ggX12_actsDrawn_X12_canTake
set_option maxRecDepth 20000 in
theorem ggX12_actsDrawn_X12_takes : GoodIn wsX12_actsDrawn wsX12_takes := goodIn_r _ [54, 1, 55, 56, 57, 58, 59, 60, 61, 62, 63, 64, 65, 66, 67, 68, 69, 70, 71, 72, 73, 74, 75, 76, 77, 78, 79, 80, 81, 82, 83, 84, 85, 86, 87, 88, 89, 90, 91, 92] (by decide +kernel) (by decide +kernel)
set_option maxRecDepth 20000 in
theorem gX12_actsDrawn_X12_takes : GoodIn wsX12_actsDrawn (wsV RX12 365 RX12 yX12_takes wsX12_takes) := goodIn_app (goodIn_of _ (by decide +kernel)) ggX12_actsDrawn_X12_takes
theorem dX12_actsDrawn_0 : decode cX12_actsDrawn 0 = .ok (.iconst 0, 1) := by decide +kernel
theorem dX12_actsDrawn_1 : decode cX12_actsDrawn 1 = .ok (.istore_n 1, 1) := by decide +kernel
theorem dX12_actsDrawn_2 : decode cX12_actsDrawn 2 = .ok (.iload_n 1, 1) := by decide +kernel
theorem dX12_actsDrawn_3 : decode cX12_actsDrawn 3 = .ok (.aload_n 0, 1) := by decide +kernel
theorem dX12_actsDrawn_4 : decode cX12_actsDrawn 4 = .ok (.getfield 39, 3) := by decide +kernel
theorem dX12_actsDrawn_7 : decode cX12_actsDrawn 7 = .ok (.iconst 4, 1) := by decide +kernel
theorem dX12_actsDrawn_8 : decode cX12_actsDrawn 8 = .ok (.iaload, 1) := by decide +kernel
theorem dX12_actsDrawn_9 : decode cX12_actsDrawn 9 = .ok (.if_icmp .ge 46, 3) := by decide +kernel
theorem dX12_actsDrawn_12 : decode cX12_actsDrawn 12 = .ok (.aload_n 0, 1) := by decide +kernel
theorem dX12_actsDrawn_13 : decode cX12_actsDrawn 13 = .ok (.iload_n 1, 1) := by decide +kernel
theorem dX12_actsDrawn_14 : decode cX12_actsDrawn 14 = .ok (.invokevirtual 359, 3) := by decide +kernel
theorem dX12_actsDrawn_17 : decode cX12_actsDrawn 17 = .ok (.ifCond .ne 6, 3) := by decide +kernel
theorem dX12_actsDrawn_20 : decode cX12_actsDrawn 20 = .ok (.goto 29, 3) := by decide +kernel
theorem dX12_actsDrawn_23 : decode cX12_actsDrawn 23 = .ok (.aload_n 0, 1) := by decide +kernel
theorem dX12_actsDrawn_24 : decode cX12_actsDrawn 24 = .ok (.aload_n 0, 1) := by decide +kernel
theorem dX12_actsDrawn_25 : decode cX12_actsDrawn 25 = .ok (.getfield 39, 3) := by decide +kernel
theorem dX12_actsDrawn_28 : decode cX12_actsDrawn 28 = .ok (.iconst 0, 1) := by decide +kernel
theorem dX12_actsDrawn_29 : decode cX12_actsDrawn 29 = .ok (.iaload, 1) := by decide +kernel
theorem dX12_actsDrawn_30 : decode cX12_actsDrawn 30 = .ok (.invokevirtual 492, 3) := by decide +kernel
theorem dX12_actsDrawn_33 : decode cX12_actsDrawn 33 = .ok (.istore_n 2, 1) := by decide +kernel
theorem dX12_actsDrawn_34 : decode cX12_actsDrawn 34 = .ok (.aload_n 0, 1) := by decide +kernel
theorem dX12_actsDrawn_35 : decode cX12_actsDrawn 35 = .ok (.iload_n 1, 1) := by decide +kernel
theorem dX12_actsDrawn_36 : decode cX12_actsDrawn 36 = .ok (.iload_n 2, 1) := by decide +kernel
theorem dX12_actsDrawn_37 : decode cX12_actsDrawn 37 = .ok (.invokevirtual 374, 3) := by decide +kernel
theorem dX12_actsDrawn_40 : decode cX12_actsDrawn 40 = .ok (.ifCond .eq 9, 3) := by decide +kernel
theorem dX12_actsDrawn_43 : decode cX12_actsDrawn 43 = .ok (.aload_n 0, 1) := by decide +kernel
theorem dX12_actsDrawn_44 : decode cX12_actsDrawn 44 = .ok (.iload_n 1, 1) := by decide +kernel
theorem dX12_actsDrawn_45 : decode cX12_actsDrawn 45 = .ok (.iload_n 2, 1) := by decide +kernel
theorem dX12_actsDrawn_46 : decode cX12_actsDrawn 46 = .ok (.invokevirtual 377, 3) := by decide +kernel
theorem dX12_actsDrawn_49 : decode cX12_actsDrawn 49 = .ok (.iinc 1 1, 3) := by decide +kernel
theorem dX12_actsDrawn_52 : decode cX12_actsDrawn 52 = .ok (.goto (-50), 3) := by decide +kernel
theorem dX12_actsDrawn_55 : decode cX12_actsDrawn 55 = .ok (.iconst 0, 1) := by decide +kernel
theorem dX12_actsDrawn_56 : decode cX12_actsDrawn 56 = .ok (.istore_n 1, 1) := by decide +kernel
theorem dX12_actsDrawn_57 : decode cX12_actsDrawn 57 = .ok (.iload_n 1, 1) := by decide +kernel
theorem dX12_actsDrawn_58 : decode cX12_actsDrawn 58 = .ok (.aload_n 0, 1) := by decide +kernel
theorem dX12_actsDrawn_59 : decode cX12_actsDrawn 59 = .ok (.getfield 39, 3) := by decide +kernel
theorem dX12_actsDrawn_62 : decode cX12_actsDrawn 62 = .ok (.iconst 5, 1) := by decide +kernel
theorem dX12_actsDrawn_63 : decode cX12_actsDrawn 63 = .ok (.iaload, 1) := by decide +kernel
theorem dX12_actsDrawn_64 : decode cX12_actsDrawn 64 = .ok (.if_icmp .ge 55, 3) := by decide +kernel
theorem dX12_actsDrawn_67 : decode cX12_actsDrawn 67 = .ok (.aload_n 0, 1) := by decide +kernel
theorem dX12_actsDrawn_68 : decode cX12_actsDrawn 68 = .ok (.getfield 39, 3) := by decide +kernel
theorem dX12_actsDrawn_71 : decode cX12_actsDrawn 71 = .ok (.iconst 4, 1) := by decide +kernel
theorem dX12_actsDrawn_72 : decode cX12_actsDrawn 72 = .ok (.iaload, 1) := by decide +kernel
theorem dX12_actsDrawn_73 : decode cX12_actsDrawn 73 = .ok (.ifCond .le 46, 3) := by decide +kernel
theorem dX12_actsDrawn_76 : decode cX12_actsDrawn 76 = .ok (.aload_n 0, 1) := by decide +kernel
theorem dX12_actsDrawn_77 : decode cX12_actsDrawn 77 = .ok (.iload_n 1, 1) := by decide +kernel
theorem dX12_actsDrawn_78 : decode cX12_actsDrawn 78 = .ok (.invokevirtual 292, 3) := by decide +kernel
theorem dX12_actsDrawn_81 : decode cX12_actsDrawn 81 = .ok (.ifCond .ne 6, 3) := by decide +kernel
