theorem dX0_init_0 : decode cX0_init 0 = .ok (.aload_n 0, 1) := by decide +kernel
theorem dX0_init_1 : decode cX0_init 1 = .ok (.invokespecial 3, 3) := by decide +kernel
theorem dX0_init_4 : decode cX0_init 4 = .ok (.aload_n 0, 1) := by decide +kernel
theorem dX0_init_5 : decode cX0_init 5 = .ok (.new 9, 3) := by decide +kernel
theorem dX0_init_8 : decode cX0_init 8 = .ok (.dup, 1) := by decide +kernel
theorem dX0_init_9 : decode cX0_init 9 = .ok (.invokespecial 11, 3) := by decide +kernel
theorem dX0_init_12 : decode cX0_init 12 = .ok (.putfield 12, 3) := by decide +kernel
theorem dX0_init_15 : decode cX0_init 15 = .ok (.aload_n 0, 1) := by decide +kernel
theorem dX0_init_16 : decode cX0_init 16 = .ok (.new 18, 3) := by decide +kernel
theorem dX0_init_19 : decode cX0_init 19 = .ok (.dup, 1) := by decide +kernel
theorem dX0_init_20 : decode cX0_init 20 = .ok (.invokespecial 20, 3) := by decide +kernel
theorem dX0_init_23 : decode cX0_init 23 = .ok (.putfield 21, 3) := by decide +kernel
theorem dX0_init_26 : decode cX0_init 26 = .ok (.aload_n 0, 1) := by decide +kernel
theorem dX0_init_27 : decode cX0_init 27 = .ok (.aload_n 1, 1) := by decide +kernel
theorem dX0_init_28 : decode cX0_init 28 = .ok (.putfield 25, 3) := by decide +kernel
theorem dX0_init_31 : decode cX0_init 31 = .ok (.return_, 1) := by decide +kernel
set_option maxRecDepth 20000 in
theorem ggX0_read_X8_clear : GoodIn wsX0_read wsX8_clear := goodIn_r _ [8, 9, 10, 11, 12, 13, 14, 15, 16, 17, 18, 19, 20, 21, 196, 197, 198, 199, 200, 201, 202, 203, 204, 205, 206, 207, 208, 209, 210, 211, 212, 213, 214] (by decide +kernel) (by decide +kernel)
set_option maxRecDepth 20000 in
theorem gX0_read_X8_clear : GoodIn wsX0_read (wsV RX0 29 RX8 yX8_clear wsX8_clear) := goodIn_app (goodIn_of _ (by decide +kernel)) ggX0_read_X8_clear
set_option maxRecDepth 20000 in
theorem ggX0_read_X5_clear : GoodIn wsX0_read wsX5_clear := goodIn_r _ [26, 27, 28, 29, 30, 31, 32, 33, 34, 35, 36, 19, 20, 21, 215, 216, 217, 218, 219, 220, 221, 222, 223] (by decide +kernel) (by decide +kernel)
set_option maxRecDepth 20000 in
theorem gX0_read_X5_clear : GoodIn wsX0_read (wsV RX0 32 RX5 yX5_clear wsX5_clear) := goodIn_app (goodIn_of _ (by decide +kernel)) ggX0_read_X5_clear
set_option maxRecDepth 20000 in
theorem ggX0_read_X7_rewind : GoodIn wsX0_read wsX7_rewind := goodIn_r _ [41, 42, 43, 44, 224, 225, 226, 227, 228] (by decide +kernel) (by decide +kernel)
set_option maxRecDepth 20000 in
theorem gX0_read_X7_rewind : GoodIn wsX0_read (wsV RX0 33 RX7 yX7_rewind wsX7_rewind) := goodIn_app (goodIn_of _ (by decide +kernel)) ggX0_read_X7_rewind
set_option maxRecDepth 20000 in
theorem ggX0_read_X0_readClause : GoodIn wsX0_read wsX0_readClause := goodIn_r _ [49, 3, 50, 51, 52, 48, 53, 54, 55, 56, 57, 58, 59, 40, 60, 42, 61, 62, 63, 64, 65, 66, 43, 67, 68, 69, 70, 71, 72, 73, 74, 75, 76, 77, 78, 79, 80, 81, 82, 83, 84, 85, 86, 87, 88, 89, 90, 91, 92, 93, 94, 95, 96, 97, 98, 99, 100, 101, 102, 103, 104, 105, 106, 107, 108, 109, 110, 111, 112, 113, 114, 115, 116, 117, 118, 119, 120, 121, 122, 123, 44, 124, 125, 126, 127, 1, 128, 129, 130, 131, 132, 133, 134, 135, 136, 137, 138, 139, 140, 141, 142, 143, 144, 145, 146, 147, 148, 149, 150, 7, 151, 17, 152, 153, 154, 155, 156, 157, 158, 12, 159, 160, 161, 162, 2, 163, 164, 165, 166, 167, 168, 169, 170, 171, 172, 173, 174, 193, 194, 195, 224, 225, 226, 227, 228, 196, 197, 198, 199, 200, 201, 202, 203, 204, 205, 206, 207, 208, 209, 210, 211, 212, 213, 214, 215, 216, 217, 218, 219, 220, 221, 222, 223] (by decide +kernel) (by decide +kernel)
set_option maxRecDepth 20000 in
theorem gX0_read_X0_readClause : GoodIn wsX0_read (wsV RX0 38 RX0 yX0_readClause wsX0_readClause) := goodIn_app (goodIn_of _ (by decide +kernel)) ggX0_read_X0_readClause
set_option maxRecDepth 20000 in
theorem ggX0_read_X7_isAtEnd : GoodIn wsX0_read wsX7_isAtEnd := goodIn_r _ [178, 61, 62, 63, 40, 64, 42, 65, 66, 43, 224, 225, 226, 227, 228] (by decide +kernel) (by decide +kernel)
set_option maxRecDepth 20000 in
theorem gX0_read_X7_isAtEnd : GoodIn wsX0_read (wsV RX0 42 RX7 yX7_isAtEnd wsX7_isAtEnd) := goodIn_app (goodIn_of _ (by decide +kernel)) ggX0_read_X7_isAtEnd
set_option maxRecDepth 20000 in
theorem ggX0_read_X8_measureWays : GoodIn wsX0_read wsX8_measureWays := goodIn_r _ [182, 9, 183, 184, 185, 186, 187, 188, 149, 150, 7, 151, 17, 152, 153, 154, 196, 197, 198, 199, 200, 201, 202, 203, 204, 205, 206, 207, 208, 209, 210, 211, 212, 213, 214] (by decide +kernel) (by decide +kernel)
set_option maxRecDepth 20000 in
theorem gX0_read_X8_measureWays : GoodIn wsX0_read (wsV RX0 46 RX8 yX8_measureWays wsX8_measureWays) := goodIn_app (goodIn_of _ (by decide +kernel)) ggX0_read_X8_measureWays
set_option maxRecDepth 20000 in
theorem ggX0_read_X7_takesSign : GoodIn wsX0_read wsX7_takesSign := goodIn_r _ [192, 42, 61, 62, 63, 40, 64, 65, 66, 43, 224, 225, 226, 227, 228] (by decide +kernel) (by decide +kernel)
set_option maxRecDepth 20000 in
theorem gX0_read_X7_takesSign : GoodIn wsX0_read (wsV RX0 49 RX7 yX7_takesSign wsX7_takesSign) := goodIn_app (goodIn_of _ (by decide +kernel)) ggX0_read_X7_takesSign
set_option maxRecDepth 20000 in
theorem ggX0_read_X7_refuse : GoodIn wsX0_read wsX7_refuse := goodIn_r _ [123, 44, 43, 224, 225, 226, 227, 228] (by decide +kernel) (by decide +kernel)
set_option maxRecDepth 20000 in
theorem gX0_read_X7_refuse : GoodIn wsX0_read (wsV RX0 53 RX7 yX7_refuse wsX7_refuse) := goodIn_app (goodIn_of _ (by decide +kernel)) ggX0_read_X7_refuse
theorem dX0_read_0 : decode cX0_read 0 = .ok (.aload_n 0, 1) := by decide +kernel
theorem dX0_read_1 : decode cX0_read 1 = .ok (.getfield 12, 3) := by decide +kernel
theorem dX0_read_4 : decode cX0_read 4 = .ok (.invokevirtual 29, 3) := by decide +kernel
theorem dX0_read_7 : decode cX0_read 7 = .ok (.aload_n 0, 1) := by decide +kernel
theorem dX0_read_8 : decode cX0_read 8 = .ok (.getfield 21, 3) := by decide +kernel
theorem dX0_read_11 : decode cX0_read 11 = .ok (.invokevirtual 32, 3) := by decide +kernel
theorem dX0_read_14 : decode cX0_read 14 = .ok (.aload_n 0, 1) := by decide +kernel
theorem dX0_read_15 : decode cX0_read 15 = .ok (.getfield 25, 3) := by decide +kernel
theorem dX0_read_18 : decode cX0_read 18 = .ok (.invokevirtual 33, 3) := by decide +kernel
theorem dX0_read_21 : decode cX0_read 21 = .ok (.iconst 0, 1) := by decide +kernel
theorem dX0_read_22 : decode cX0_read 22 = .ok (.istore_n 1, 1) := by decide +kernel
theorem dX0_read_23 : decode cX0_read 23 = .ok (.iload_n 1, 1) := by decide +kernel
theorem dX0_read_24 : decode cX0_read 24 = .ok (.bipush 40, 2) := by decide +kernel
theorem dX0_read_26 : decode cX0_read 26 = .ok (.if_icmp .gt 59, 3) := by decide +kernel
theorem dX0_read_29 : decode cX0_read 29 = .ok (.aload_n 0, 1) := by decide +kernel
theorem dX0_read_30 : decode cX0_read 30 = .ok (.iload_n 1, 1) := by decide +kernel
theorem dX0_read_31 : decode cX0_read 31 = .ok (.invokevirtual 38, 3) := by decide +kernel
theorem dX0_read_34 : decode cX0_read 34 = .ok (.ifCond .ne 5, 3) := by decide +kernel
theorem dX0_read_37 : decode cX0_read 37 = .ok (.iconst 0, 1) := by decide +kernel
theorem dX0_read_38 : decode cX0_read 38 = .ok (.ireturn, 1) := by decide +kernel
theorem dX0_read_39 : decode cX0_read 39 = .ok (.aload_n 0, 1) := by decide +kernel
theorem dX0_read_40 : decode cX0_read 40 = .ok (.getfield 25, 3) := by decide +kernel
theorem dX0_read_43 : decode cX0_read 43 = .ok (.invokevirtual 42, 3) := by decide +kernel
theorem dX0_read_46 : decode cX0_read 46 = .ok (.ifCond .eq 12, 3) := by decide +kernel
theorem dX0_read_49 : decode cX0_read 49 = .ok (.aload_n 0, 1) := by decide +kernel
theorem dX0_read_50 : decode cX0_read 50 = .ok (.getfield 12, 3) := by decide +kernel
theorem dX0_read_53 : decode cX0_read 53 = .ok (.invokevirtual 46, 3) := by decide +kernel
theorem dX0_read_56 : decode cX0_read 56 = .ok (.iconst 1, 1) := by decide +kernel
theorem dX0_read_57 : decode cX0_read 57 = .ok (.ireturn, 1) := by decide +kernel
theorem dX0_read_58 : decode cX0_read 58 = .ok (.aload_n 0, 1) := by decide +kernel
theorem dX0_read_59 : decode cX0_read 59 = .ok (.getfield 25, 3) := by decide +kernel
theorem dX0_read_62 : decode cX0_read 62 = .ok (.bipush 59, 2) := by decide +kernel
theorem dX0_read_64 : decode cX0_read 64 = .ok (.invokevirtual 49, 3) := by decide +kernel
theorem dX0_read_67 : decode cX0_read 67 = .ok (.ifCond .ne 12, 3) := by decide +kernel
theorem dX0_read_70 : decode cX0_read 70 = .ok (.aload_n 0, 1) := by decide +kernel
theorem dX0_read_71 : decode cX0_read 71 = .ok (.getfield 25, 3) := by decide +kernel
theorem dX0_read_74 : decode cX0_read 74 = .ok (.iconst 0, 1) := by decide +kernel
theorem dX0_read_75 : decode cX0_read 75 = .ok (.invokevirtual 53, 3) := by decide +kernel
theorem dX0_read_78 : decode cX0_read 78 = .ok (.ireturn, 1) := by decide +kernel
theorem dX0_read_79 : decode cX0_read 79 = .ok (.iinc 1 1, 3) := by decide +kernel
theorem dX0_read_82 : decode cX0_read 82 = .ok (.goto (-59), 3) := by decide +kernel
theorem dX0_read_85 : decode cX0_read 85 = .ok (.iconst 0, 1) := by decide +kernel
theorem dX0_read_86 : decode cX0_read 86 = .ok (.ireturn, 1) := by decide +kernel
theorem dX0_nameOf_0 : decode cX0_nameOf 0 = .ok (.iload_n 0, 1) := by decide +kernel
theorem dX0_nameOf_1 : decode cX0_nameOf 1 = .ok (.tableswitch 50 0 4 #[35, 38, 41, 44, 47], 35) := by decide +kernel
theorem dX0_nameOf_36 : decode cX0_nameOf 36 = .ok (.ldc 56, 2) := by decide +kernel
theorem dX0_nameOf_38 : decode cX0_nameOf 38 = .ok (.areturn, 1) := by decide +kernel
theorem dX0_nameOf_39 : decode cX0_nameOf 39 = .ok (.ldc 58, 2) := by decide +kernel
theorem dX0_nameOf_41 : decode cX0_nameOf 41 = .ok (.areturn, 1) := by decide +kernel
theorem dX0_nameOf_42 : decode cX0_nameOf 42 = .ok (.ldc 60, 2) := by decide +kernel
theorem dX0_nameOf_44 : decode cX0_nameOf 44 = .ok (.areturn, 1) := by decide +kernel
theorem dX0_nameOf_45 : decode cX0_nameOf 45 = .ok (.ldc 62, 2) := by decide +kernel
theorem dX0_nameOf_47 : decode cX0_nameOf 47 = .ok (.areturn, 1) := by decide +kernel
theorem dX0_nameOf_48 : decode cX0_nameOf 48 = .ok (.ldc 64, 2) := by decide +kernel
theorem dX0_nameOf_50 : decode cX0_nameOf 50 = .ok (.areturn, 1) := by decide +kernel
theorem dX0_nameOf_51 : decode cX0_nameOf 51 = .ok (.ldc 66, 2) := by decide +kernel
theorem dX0_nameOf_53 : decode cX0_nameOf 53 = .ok (.areturn, 1) := by decide +kernel
set_option maxRecDepth 20000 in
theorem ggX0_takeKind_X0_nameOf : GoodIn wsX0_takeKind wsX0_nameOf := goodIn_r _ [5] (by decide +kernel) (by decide +kernel)
set_option maxRecDepth 20000 in
theorem gX0_takeKind_X0_nameOf : GoodIn wsX0_takeKind (va_wsS RX0 68 yX0_nameOf wsX0_nameOf) := goodIn_app (goodIn_of _ (by decide +kernel)) ggX0_takeKind_X0_nameOf
set_option maxRecDepth 20000 in
theorem ggX0_takeKind_X7_takesWord : GoodIn wsX0_takeKind wsX7_takesWord := goodIn_r _ [10, 11, 12, 13, 14, 9, 15, 16, 17, 18, 19, 20, 21, 22, 23, 24, 25, 26, 27, 28, 29, 30, 31, 32, 33, 34, 35, 36, 37, 38, 39, 40, 41, 42, 43, 44, 45, 46, 47, 48, 49, 50, 51, 52, 53, 54, 55, 56, 57, 58, 59, 60, 61, 62, 63, 64, 65, 66, 67, 68, 69, 70, 71, 75, 76, 77, 78, 79] (by decide +kernel) (by decide +kernel)
set_option maxRecDepth 20000 in
theorem gX0_takeKind_X7_takesWord : GoodIn wsX0_takeKind (wsV RX0 72 RX7 yX7_takesWord wsX7_takesWord) := goodIn_app (goodIn_of _ (by decide +kernel)) ggX0_takeKind_X7_takesWord
theorem dX0_takeKind_0 : decode cX0_takeKind 0 = .ok (.iconst 0, 1) := by decide +kernel
theorem dX0_takeKind_1 : decode cX0_takeKind 1 = .ok (.istore_n 1, 1) := by decide +kernel
theorem dX0_takeKind_2 : decode cX0_takeKind 2 = .ok (.iload_n 1, 1) := by decide +kernel
theorem dX0_takeKind_3 : decode cX0_takeKind 3 = .ok (.bipush 6, 2) := by decide +kernel
theorem dX0_takeKind_5 : decode cX0_takeKind 5 = .ok (.if_icmp .ge 25, 3) := by decide +kernel
theorem dX0_takeKind_8 : decode cX0_takeKind 8 = .ok (.aload_n 0, 1) := by decide +kernel
theorem dX0_takeKind_9 : decode cX0_takeKind 9 = .ok (.getfield 25, 3) := by decide +kernel
theorem dX0_takeKind_12 : decode cX0_takeKind 12 = .ok (.iload_n 1, 1) := by decide +kernel
theorem dX0_takeKind_13 : decode cX0_takeKind 13 = .ok (.invokestatic 68, 3) := by decide +kernel
theorem dX0_takeKind_16 : decode cX0_takeKind 16 = .ok (.invokevirtual 72, 3) := by decide +kernel
theorem dX0_takeKind_19 : decode cX0_takeKind 19 = .ok (.ifCond .eq 5, 3) := by decide +kernel
theorem dX0_takeKind_22 : decode cX0_takeKind 22 = .ok (.iload_n 1, 1) := by decide +kernel
theorem dX0_takeKind_23 : decode cX0_takeKind 23 = .ok (.ireturn, 1) := by decide +kernel
theorem dX0_takeKind_24 : decode cX0_takeKind 24 = .ok (.iinc 1 1, 3) := by decide +kernel
theorem dX0_takeKind_27 : decode cX0_takeKind 27 = .ok (.goto (-25), 3) := by decide +kernel
theorem dX0_takeKind_30 : decode cX0_takeKind 30 = .ok (.iconst (-1), 1) := by decide +kernel
theorem dX0_takeKind_31 : decode cX0_takeKind 31 = .ok (.ireturn, 1) := by decide +kernel
theorem dX0_hasRoomFor_0 : decode cX0_hasRoomFor 0 = .ok (.iload_n 1, 1) := by decide +kernel
theorem dX0_hasRoomFor_1 : decode cX0_hasRoomFor 1 = .ok (.tableswitch 106 0 4 #[35, 37, 55, 72, 89], 35) := by decide +kernel
theorem dX0_hasRoomFor_36 : decode cX0_hasRoomFor 36 = .ok (.iconst 1, 1) := by decide +kernel
theorem dX0_hasRoomFor_37 : decode cX0_hasRoomFor 37 = .ok (.ireturn, 1) := by decide +kernel
theorem dX0_hasRoomFor_38 : decode cX0_hasRoomFor 38 = .ok (.aload_n 0, 1) := by decide +kernel
theorem dX0_hasRoomFor_39 : decode cX0_hasRoomFor 39 = .ok (.getfield 12, 3) := by decide +kernel
theorem dX0_hasRoomFor_42 : decode cX0_hasRoomFor 42 = .ok (.getfield 76, 3) := by decide +kernel
theorem dX0_hasRoomFor_45 : decode cX0_hasRoomFor 45 = .ok (.bipush 8, 2) := by decide +kernel
theorem dX0_hasRoomFor_47 : decode cX0_hasRoomFor 47 = .ok (.if_icmp .ge 7, 3) := by decide +kernel
theorem dX0_hasRoomFor_50 : decode cX0_hasRoomFor 50 = .ok (.iconst 1, 1) := by decide +kernel
theorem dX0_hasRoomFor_51 : decode cX0_hasRoomFor 51 = .ok (.goto 4, 3) := by decide +kernel
theorem dX0_hasRoomFor_54 : decode cX0_hasRoomFor 54 = .ok (.iconst 0, 1) := by decide +kernel
theorem dX0_hasRoomFor_55 : decode cX0_hasRoomFor 55 = .ok (.ireturn, 1) := by decide +kernel
theorem dX0_hasRoomFor_56 : decode cX0_hasRoomFor 56 = .ok (.aload_n 0, 1) := by decide +kernel
theorem dX0_hasRoomFor_57 : decode cX0_hasRoomFor 57 = .ok (.getfield 12, 3) := by decide +kernel
theorem dX0_hasRoomFor_60 : decode cX0_hasRoomFor 60 = .ok (.getfield 80, 3) := by decide +kernel
theorem dX0_hasRoomFor_63 : decode cX0_hasRoomFor 63 = .ok (.iconst 5, 1) := by decide +kernel
theorem dX0_hasRoomFor_64 : decode cX0_hasRoomFor 64 = .ok (.if_icmp .ge 7, 3) := by decide +kernel
theorem dX0_hasRoomFor_67 : decode cX0_hasRoomFor 67 = .ok (.iconst 1, 1) := by decide +kernel
theorem dX0_hasRoomFor_68 : decode cX0_hasRoomFor 68 = .ok (.goto 4, 3) := by decide +kernel
theorem dX0_hasRoomFor_71 : decode cX0_hasRoomFor 71 = .ok (.iconst 0, 1) := by decide +kernel
theorem dX0_hasRoomFor_72 : decode cX0_hasRoomFor 72 = .ok (.ireturn, 1) := by decide +kernel
theorem dX0_hasRoomFor_73 : decode cX0_hasRoomFor 73 = .ok (.aload_n 0, 1) := by decide +kernel
theorem dX0_hasRoomFor_74 : decode cX0_hasRoomFor 74 = .ok (.getfield 12, 3) := by decide +kernel
theorem dX0_hasRoomFor_77 : decode cX0_hasRoomFor 77 = .ok (.getfield 83, 3) := by decide +kernel
theorem dX0_hasRoomFor_80 : decode cX0_hasRoomFor 80 = .ok (.iconst 4, 1) := by decide +kernel
theorem dX0_hasRoomFor_81 : decode cX0_hasRoomFor 81 = .ok (.if_icmp .ge 7, 3) := by decide +kernel
theorem dX0_hasRoomFor_84 : decode cX0_hasRoomFor 84 = .ok (.iconst 1, 1) := by decide +kernel
theorem dX0_hasRoomFor_85 : decode cX0_hasRoomFor 85 = .ok (.goto 4, 3) := by decide +kernel
theorem dX0_hasRoomFor_88 : decode cX0_hasRoomFor 88 = .ok (.iconst 0, 1) := by decide +kernel
theorem dX0_hasRoomFor_89 : decode cX0_hasRoomFor 89 = .ok (.ireturn, 1) := by decide +kernel
theorem dX0_hasRoomFor_90 : decode cX0_hasRoomFor 90 = .ok (.aload_n 0, 1) := by decide +kernel
theorem dX0_hasRoomFor_91 : decode cX0_hasRoomFor 91 = .ok (.getfield 12, 3) := by decide +kernel
theorem dX0_hasRoomFor_94 : decode cX0_hasRoomFor 94 = .ok (.getfield 86, 3) := by decide +kernel
theorem dX0_hasRoomFor_97 : decode cX0_hasRoomFor 97 = .ok (.iconst 4, 1) := by decide +kernel
theorem dX0_hasRoomFor_98 : decode cX0_hasRoomFor 98 = .ok (.if_icmp .ge 7, 3) := by decide +kernel
theorem dX0_hasRoomFor_101 : decode cX0_hasRoomFor 101 = .ok (.iconst 1, 1) := by decide +kernel
theorem dX0_hasRoomFor_102 : decode cX0_hasRoomFor 102 = .ok (.goto 4, 3) := by decide +kernel
theorem dX0_hasRoomFor_105 : decode cX0_hasRoomFor 105 = .ok (.iconst 0, 1) := by decide +kernel
theorem dX0_hasRoomFor_106 : decode cX0_hasRoomFor 106 = .ok (.ireturn, 1) := by decide +kernel
theorem dX0_hasRoomFor_107 : decode cX0_hasRoomFor 107 = .ok (.aload_n 0, 1) := by decide +kernel
theorem dX0_hasRoomFor_108 : decode cX0_hasRoomFor 108 = .ok (.getfield 12, 3) := by decide +kernel
theorem dX0_hasRoomFor_111 : decode cX0_hasRoomFor 111 = .ok (.getfield 89, 3) := by decide +kernel
theorem dX0_hasRoomFor_114 : decode cX0_hasRoomFor 114 = .ok (.bipush 6, 2) := by decide +kernel
theorem dX0_hasRoomFor_116 : decode cX0_hasRoomFor 116 = .ok (.if_icmp .ge 7, 3) := by decide +kernel
theorem dX0_hasRoomFor_119 : decode cX0_hasRoomFor 119 = .ok (.iconst 1, 1) := by decide +kernel
theorem dX0_hasRoomFor_120 : decode cX0_hasRoomFor 120 = .ok (.goto 4, 3) := by decide +kernel
theorem dX0_hasRoomFor_123 : decode cX0_hasRoomFor 123 = .ok (.iconst 0, 1) := by decide +kernel
theorem dX0_hasRoomFor_124 : decode cX0_hasRoomFor 124 = .ok (.ireturn, 1) := by decide +kernel
set_option maxRecDepth 20000 in
theorem ggX0_readClause_X0_takeKind : GoodIn wsX0_readClause wsX0_takeKind := goodIn_r _ [6, 1, 7, 8, 5, 9, 10, 11, 12, 13, 14, 15, 16, 17, 18, 19, 20, 21, 22, 23, 24, 25, 26, 27, 28, 29, 30, 31, 32, 33, 34, 35, 36, 37, 38, 39, 40, 41, 42, 43, 44, 45, 46, 47, 48, 49, 50, 51, 52, 53, 54, 55, 56, 57, 58, 59, 60, 61, 62, 63, 64, 65, 66, 67, 68, 69, 70, 71, 72, 73, 74, 75, 137, 138, 139, 140, 141, 142, 143, 144] (by decide +kernel) (by decide +kernel)
set_option maxRecDepth 20000 in
theorem gX0_readClause_X0_takeKind : GoodIn wsX0_readClause (wsV RX0 92 RX0 yX0_takeKind wsX0_takeKind) := goodIn_app (goodIn_of _ (by decide +kernel)) ggX0_readClause_X0_takeKind
set_option maxRecDepth 20000 in
theorem ggX0_readClause_X7_refuse : GoodIn wsX0_readClause wsX7_refuse := goodIn_r _ [79, 80, 22, 140, 141, 142, 143, 144] (by decide +kernel) (by decide +kernel)
set_option maxRecDepth 20000 in
theorem gX0_readClause_X7_refuse : GoodIn wsX0_readClause (wsV RX0 53 RX7 yX7_refuse wsX7_refuse) := goodIn_app (goodIn_of _ (by decide +kernel)) ggX0_readClause_X7_refuse
set_option maxRecDepth 20000 in
theorem ggX0_readClause_X0_hasRoomFor : GoodIn wsX0_readClause wsX0_hasRoomFor := goodIn_r _ [84, 85, 137, 138, 139, 145, 146, 147, 148, 149, 150, 151, 152, 153, 154, 155, 156, 157, 158, 159, 160, 161, 162, 163] (by decide +kernel) (by decide +kernel)
set_option maxRecDepth 20000 in
theorem gX0_readClause_X0_hasRoomFor : GoodIn wsX0_readClause (wsV RX0 96 RX0 yX0_hasRoomFor wsX0_hasRoomFor) := goodIn_app (goodIn_of _ (by decide +kernel)) ggX0_readClause_X0_hasRoomFor
set_option maxRecDepth 20000 in
theorem ggX0_readClause_X0_readDairy : GoodIn wsX0_readClause wsX0_readDairy := goodIn_r _ [89, 1, 85, 90, 91, 92, 13, 93, 15, 20, 22, 16, 17, 18, 19, 21, 94, 95, 96, 97, 77, 78, 79, 80, 35, 36, 37, 38, 137, 138, 139, 145, 146, 147, 148, 149, 150, 151, 152, 153, 154, 155, 156, 157, 158, 159, 160, 161, 162, 163, 140, 141, 142, 143, 144] (by decide +kernel) (by decide +kernel)
set_option maxRecDepth 20000 in
theorem gX0_readClause_X0_readDairy : GoodIn wsX0_readClause (wsV RX0 99 RX0 yX0_readDairy wsX0_readDairy) := goodIn_app (goodIn_of _ (by decide +kernel)) ggX0_readClause_X0_readDairy
set_option maxRecDepth 20000 in
theorem ggX0_readClause_X0_readRoad : GoodIn wsX0_readClause wsX0_readRoad := goodIn_r _ [101, 85, 1, 102, 103, 104, 5, 105, 90, 91, 92, 13, 93, 15, 20, 22, 16, 17, 18, 19, 21, 94, 95, 96, 97, 77, 78, 79, 80, 35, 36, 37, 38, 106, 107, 108, 109, 110, 111, 112, 113, 114, 76, 115, 116, 117, 118, 119, 137, 138, 139, 145, 146, 147, 148, 149, 150, 151, 152, 153, 154, 155, 156, 157, 158, 159, 160, 161, 162, 163, 140, 141, 142, 143, 144] (by decide +kernel) (by decide +kernel)
set_option maxRecDepth 20000 in
theorem gX0_readClause_X0_readRoad : GoodIn wsX0_readClause (wsV RX0 102 RX0 yX0_readRoad wsX0_readRoad) := goodIn_app (goodIn_of _ (by decide +kernel)) ggX0_readClause_X0_readRoad
set_option maxRecDepth 20000 in
theorem ggX0_readClause_X0_readHand : GoodIn wsX0_readClause wsX0_readHand := goodIn_r _ [123, 1, 124, 85, 102, 103, 104, 5, 105, 90, 91, 92, 13, 93, 15, 20, 22, 16, 17, 18, 19, 21, 94, 95, 96, 97, 77, 78, 79, 80, 35, 36, 37, 38, 137, 138, 139, 164, 165, 166, 167, 168, 169, 170, 171, 172, 145, 146, 147, 148, 149, 150, 151, 152, 153, 154, 155, 156, 157, 158, 159, 160, 161, 162, 163, 140, 141, 142, 143, 144] (by decide +kernel) (by decide +kernel)
set_option maxRecDepth 20000 in
theorem gX0_readClause_X0_readHand : GoodIn wsX0_readClause (wsV RX0 105 RX0 yX0_readHand wsX0_readHand) := goodIn_app (goodIn_of _ (by decide +kernel)) ggX0_readClause_X0_readHand
set_option maxRecDepth 20000 in
theorem ggX0_readClause_X0_readJug : GoodIn wsX0_readClause wsX0_readJug := goodIn_r _ [128, 1, 124, 85, 102, 103, 104, 5, 105, 90, 91, 92, 13, 93, 15, 20, 22, 16, 17, 18, 19, 21, 94, 95, 96, 97, 77, 78, 79, 80, 35, 36, 37, 38, 137, 138, 139, 164, 165, 166, 167, 168, 169, 170, 171, 172, 145, 146, 147, 148, 149, 150, 151, 152, 153, 154, 155, 156, 157, 158, 159, 160, 161, 162, 163, 140, 141, 142, 143, 144] (by decide +kernel) (by decide +kernel)
set_option maxRecDepth 20000 in
theorem gX0_readClause_X0_readJug : GoodIn wsX0_readClause (wsV RX0 108 RX0 yX0_readJug wsX0_readJug) := goodIn_app (goodIn_of _ (by decide +kernel)) ggX0_readClause_X0_readJug
set_option maxRecDepth 20000 in
theorem ggX0_readClause_X0_readHeat : GoodIn wsX0_readClause wsX0_readHeat := goodIn_r _ [132, 1, 85, 90, 91, 92, 13, 93, 15, 20, 22, 16, 17, 18, 19, 21, 94, 95, 96, 97, 77, 78, 79, 80, 35, 36, 37, 38, 137, 138, 139, 145, 146, 147, 148, 149, 150, 151, 152, 153, 154, 155, 156, 157, 158, 159, 160, 161, 162, 163, 140, 141, 142, 143, 144] (by decide +kernel) (by decide +kernel)
set_option maxRecDepth 20000 in
theorem gX0_readClause_X0_readHeat : GoodIn wsX0_readClause (wsV RX0 111 RX0 yX0_readHeat wsX0_readHeat) := goodIn_app (goodIn_of _ (by decide +kernel)) ggX0_readClause_X0_readHeat
set_option maxRecDepth 20000 in
theorem ggX0_readClause_X0_readWant : GoodIn wsX0_readClause wsX0_readWant := goodIn_r _ [136, 1, 85, 102, 103, 104, 5, 105, 90, 91, 92, 13, 93, 15, 20, 22, 16, 17, 18, 19, 21, 94, 95, 96, 97, 77, 78, 79, 80, 35, 36, 37, 38, 137, 138, 139, 145, 146, 147, 148, 149, 150, 151, 152, 153, 154, 155, 156, 157, 158, 159, 160, 161, 162, 163, 140, 141, 142, 143, 144] (by decide +kernel) (by decide +kernel)
set_option maxRecDepth 20000 in
theorem gX0_readClause_X0_readWant : GoodIn wsX0_readClause (wsV RX0 114 RX0 yX0_readWant wsX0_readWant) := goodIn_app (goodIn_of _ (by decide +kernel)) ggX0_readClause_X0_readWant
theorem dX0_readClause_0 : decode cX0_readClause 0 = .ok (.aload_n 0, 1) := by decide +kernel
theorem dX0_readClause_1 : decode cX0_readClause 1 = .ok (.invokevirtual 92, 3) := by decide +kernel
theorem dX0_readClause_4 : decode cX0_readClause 4 = .ok (.istore_n 2, 1) := by decide +kernel
theorem dX0_readClause_5 : decode cX0_readClause 5 = .ok (.iload_n 2, 1) := by decide +kernel
theorem dX0_readClause_6 : decode cX0_readClause 6 = .ok (.iconst (-1), 1) := by decide +kernel
theorem dX0_readClause_7 : decode cX0_readClause 7 = .ok (.if_icmp .ne 12, 3) := by decide +kernel
theorem dX0_readClause_10 : decode cX0_readClause 10 = .ok (.aload_n 0, 1) := by decide +kernel
theorem dX0_readClause_11 : decode cX0_readClause 11 = .ok (.getfield 25, 3) := by decide +kernel
theorem dX0_readClause_14 : decode cX0_readClause 14 = .ok (.iconst 0, 1) := by decide +kernel
theorem dX0_readClause_15 : decode cX0_readClause 15 = .ok (.invokevirtual 53, 3) := by decide +kernel
theorem dX0_readClause_18 : decode cX0_readClause 18 = .ok (.ireturn, 1) := by decide +kernel
theorem dX0_readClause_19 : decode cX0_readClause 19 = .ok (.iload_n 2, 1) := by decide +kernel
theorem dX0_readClause_20 : decode cX0_readClause 20 = .ok (.ifCond .ne 7, 3) := by decide +kernel
theorem dX0_readClause_23 : decode cX0_readClause 23 = .ok (.iconst 1, 1) := by decide +kernel
theorem dX0_readClause_24 : decode cX0_readClause 24 = .ok (.goto 4, 3) := by decide +kernel
theorem dX0_readClause_27 : decode cX0_readClause 27 = .ok (.iconst 0, 1) := by decide +kernel
theorem dX0_readClause_28 : decode cX0_readClause 28 = .ok (.iload_n 1, 1) := by decide +kernel
theorem dX0_readClause_29 : decode cX0_readClause 29 = .ok (.ifCond .ne 7, 3) := by decide +kernel
theorem dX0_readClause_32 : decode cX0_readClause 32 = .ok (.iconst 1, 1) := by decide +kernel
theorem dX0_readClause_33 : decode cX0_readClause 33 = .ok (.goto 4, 3) := by decide +kernel
theorem dX0_readClause_36 : decode cX0_readClause 36 = .ok (.iconst 0, 1) := by decide +kernel
theorem dX0_readClause_37 : decode cX0_readClause 37 = .ok (.if_icmp .ne 7, 3) := by decide +kernel
theorem dX0_readClause_40 : decode cX0_readClause 40 = .ok (.iconst 1, 1) := by decide +kernel
theorem dX0_readClause_41 : decode cX0_readClause 41 = .ok (.goto 4, 3) := by decide +kernel
theorem dX0_readClause_44 : decode cX0_readClause 44 = .ok (.iconst 0, 1) := by decide +kernel
theorem dX0_readClause_45 : decode cX0_readClause 45 = .ok (.istore_n 3, 1) := by decide +kernel
theorem dX0_readClause_46 : decode cX0_readClause 46 = .ok (.iload_n 1, 1) := by decide +kernel
theorem dX0_readClause_47 : decode cX0_readClause 47 = .ok (.bipush 40, 2) := by decide +kernel
theorem dX0_readClause_49 : decode cX0_readClause 49 = .ok (.if_icmp .ge 15, 3) := by decide +kernel
theorem dX0_readClause_52 : decode cX0_readClause 52 = .ok (.iload_n 3, 1) := by decide +kernel
theorem dX0_readClause_53 : decode cX0_readClause 53 = .ok (.ifCond .eq 11, 3) := by decide +kernel
theorem dX0_readClause_56 : decode cX0_readClause 56 = .ok (.aload_n 0, 1) := by decide +kernel
theorem dX0_readClause_57 : decode cX0_readClause 57 = .ok (.iload_n 2, 1) := by decide +kernel
theorem dX0_readClause_58 : decode cX0_readClause 58 = .ok (.invokevirtual 96, 3) := by decide +kernel
theorem dX0_readClause_61 : decode cX0_readClause 61 = .ok (.ifCond .ne 12, 3) := by decide +kernel
theorem dX0_readClause_64 : decode cX0_readClause 64 = .ok (.aload_n 0, 1) := by decide +kernel
theorem dX0_readClause_65 : decode cX0_readClause 65 = .ok (.getfield 25, 3) := by decide +kernel
theorem dX0_readClause_68 : decode cX0_readClause 68 = .ok (.iconst 4, 1) := by decide +kernel
theorem dX0_readClause_69 : decode cX0_readClause 69 = .ok (.invokevirtual 53, 3) := by decide +kernel
theorem dX0_readClause_72 : decode cX0_readClause 72 = .ok (.ireturn, 1) := by decide +kernel
theorem dX0_readClause_73 : decode cX0_readClause 73 = .ok (.iload_n 2, 1) := by decide +kernel
theorem dX0_readClause_74 : decode cX0_readClause 74 = .ok (.tableswitch 59 0 4 #[34, 39, 44, 49, 54], 34) := by decide +kernel
theorem dX0_readClause_108 : decode cX0_readClause 108 = .ok (.aload_n 0, 1) := by decide +kernel
theorem dX0_readClause_109 : decode cX0_readClause 109 = .ok (.invokevirtual 99, 3) := by decide +kernel
theorem dX0_readClause_112 : decode cX0_readClause 112 = .ok (.ireturn, 1) := by decide +kernel
theorem dX0_readClause_113 : decode cX0_readClause 113 = .ok (.aload_n 0, 1) := by decide +kernel
theorem dX0_readClause_114 : decode cX0_readClause 114 = .ok (.invokevirtual 102, 3) := by decide +kernel
theorem dX0_readClause_117 : decode cX0_readClause 117 = .ok (.ireturn, 1) := by decide +kernel
theorem dX0_readClause_118 : decode cX0_readClause 118 = .ok (.aload_n 0, 1) := by decide +kernel
theorem dX0_readClause_119 : decode cX0_readClause 119 = .ok (.invokevirtual 105, 3) := by decide +kernel
theorem dX0_readClause_122 : decode cX0_readClause 122 = .ok (.ireturn, 1) := by decide +kernel
theorem dX0_readClause_123 : decode cX0_readClause 123 = .ok (.aload_n 0, 1) := by decide +kernel
theorem dX0_readClause_124 : decode cX0_readClause 124 = .ok (.invokevirtual 108, 3) := by decide +kernel
theorem dX0_readClause_127 : decode cX0_readClause 127 = .ok (.ireturn, 1) := by decide +kernel
theorem dX0_readClause_128 : decode cX0_readClause 128 = .ok (.aload_n 0, 1) := by decide +kernel
theorem dX0_readClause_129 : decode cX0_readClause 129 = .ok (.invokevirtual 111, 3) := by decide +kernel
theorem dX0_readClause_132 : decode cX0_readClause 132 = .ok (.ireturn, 1) := by decide +kernel
theorem dX0_readClause_133 : decode cX0_readClause 133 = .ok (.aload_n 0, 1) := by decide +kernel
theorem dX0_readClause_134 : decode cX0_readClause 134 = .ok (.invokevirtual 114, 3) := by decide +kernel
theorem dX0_readClause_137 : decode cX0_readClause 137 = .ok (.ireturn, 1) := by decide +kernel
set_option maxRecDepth 20000 in
theorem ggX0_readDairy_X7_takeNumber : GoodIn wsX0_readDairy wsX7_takeNumber := goodIn_r _ [7, 8, 9, 10, 11, 12, 13, 6, 14, 15, 16, 17, 18, 19, 20, 21, 22, 23, 24, 25, 26, 27, 50, 51, 52, 53, 54] (by decide +kernel) (by decide +kernel)
set_option maxRecDepth 20000 in
theorem gX0_readDairy_X7_takeNumber : GoodIn wsX0_readDairy (wsV RX0 117 RX7 yX7_takeNumber wsX7_takeNumber) := goodIn_app (goodIn_of _ (by decide +kernel)) ggX0_readDairy_X7_takeNumber
theorem dX0_readDairy_0 : decode cX0_readDairy 0 = .ok (.aload_n 0, 1) := by decide +kernel
theorem dX0_readDairy_1 : decode cX0_readDairy 1 = .ok (.getfield 25, 3) := by decide +kernel
theorem dX0_readDairy_4 : decode cX0_readDairy 4 = .ok (.iconst 2, 1) := by decide +kernel
theorem dX0_readDairy_5 : decode cX0_readDairy 5 = .ok (.bipush 6, 2) := by decide +kernel
theorem dX0_readDairy_7 : decode cX0_readDairy 7 = .ok (.invokevirtual 117, 3) := by decide +kernel
theorem dX0_readDairy_10 : decode cX0_readDairy 10 = .ok (.istore_n 1, 1) := by decide +kernel
theorem dX0_readDairy_11 : decode cX0_readDairy 11 = .ok (.iload_n 1, 1) := by decide +kernel
theorem dX0_readDairy_12 : decode cX0_readDairy 12 = .ok (.iconst (-1), 1) := by decide +kernel
theorem dX0_readDairy_13 : decode cX0_readDairy 13 = .ok (.if_icmp .ne 7, 3) := by decide +kernel
theorem dX0_readDairy_16 : decode cX0_readDairy 16 = .ok (.iconst (-1), 1) := by decide +kernel
theorem dX0_readDairy_17 : decode cX0_readDairy 17 = .ok (.goto 13, 3) := by decide +kernel
theorem dX0_readDairy_20 : decode cX0_readDairy 20 = .ok (.aload_n 0, 1) := by decide +kernel
theorem dX0_readDairy_21 : decode cX0_readDairy 21 = .ok (.getfield 25, 3) := by decide +kernel
theorem dX0_readDairy_24 : decode cX0_readDairy 24 = .ok (.iconst 0, 1) := by decide +kernel
theorem dX0_readDairy_25 : decode cX0_readDairy 25 = .ok (.bipush 9, 2) := by decide +kernel
theorem dX0_readDairy_27 : decode cX0_readDairy 27 = .ok (.invokevirtual 117, 3) := by decide +kernel
theorem dX0_readDairy_30 : decode cX0_readDairy 30 = .ok (.istore_n 2, 1) := by decide +kernel
theorem dX0_readDairy_31 : decode cX0_readDairy 31 = .ok (.iload_n 2, 1) := by decide +kernel
theorem dX0_readDairy_32 : decode cX0_readDairy 32 = .ok (.iconst (-1), 1) := by decide +kernel
theorem dX0_readDairy_33 : decode cX0_readDairy 33 = .ok (.if_icmp .ne 7, 3) := by decide +kernel
theorem dX0_readDairy_36 : decode cX0_readDairy 36 = .ok (.iconst (-1), 1) := by decide +kernel
theorem dX0_readDairy_37 : decode cX0_readDairy 37 = .ok (.goto 14, 3) := by decide +kernel
theorem dX0_readDairy_40 : decode cX0_readDairy 40 = .ok (.aload_n 0, 1) := by decide +kernel
theorem dX0_readDairy_41 : decode cX0_readDairy 41 = .ok (.getfield 25, 3) := by decide +kernel
theorem dX0_readDairy_44 : decode cX0_readDairy 44 = .ok (.bipush 10, 2) := by decide +kernel
theorem dX0_readDairy_46 : decode cX0_readDairy 46 = .ok (.bipush 99, 2) := by decide +kernel
theorem dX0_readDairy_48 : decode cX0_readDairy 48 = .ok (.invokevirtual 117, 3) := by decide +kernel
theorem dX0_readDairy_51 : decode cX0_readDairy 51 = .ok (.istore_n 3, 1) := by decide +kernel
theorem dX0_readDairy_52 : decode cX0_readDairy 52 = .ok (.iload_n 3, 1) := by decide +kernel
theorem dX0_readDairy_53 : decode cX0_readDairy 53 = .ok (.iconst (-1), 1) := by decide +kernel
theorem dX0_readDairy_54 : decode cX0_readDairy 54 = .ok (.if_icmp .ne 5, 3) := by decide +kernel
theorem dX0_readDairy_57 : decode cX0_readDairy 57 = .ok (.iconst 0, 1) := by decide +kernel
theorem dX0_readDairy_58 : decode cX0_readDairy 58 = .ok (.ireturn, 1) := by decide +kernel
theorem dX0_readDairy_59 : decode cX0_readDairy 59 = .ok (.aload_n 0, 1) := by decide +kernel
theorem dX0_readDairy_60 : decode cX0_readDairy 60 = .ok (.getfield 12, 3) := by decide +kernel
theorem dX0_readDairy_63 : decode cX0_readDairy 63 = .ok (.iload_n 1, 1) := by decide +kernel
theorem dX0_readDairy_64 : decode cX0_readDairy 64 = .ok (.putfield 121, 3) := by decide +kernel
theorem dX0_readDairy_67 : decode cX0_readDairy 67 = .ok (.aload_n 0, 1) := by decide +kernel
theorem dX0_readDairy_68 : decode cX0_readDairy 68 = .ok (.getfield 12, 3) := by decide +kernel
theorem dX0_readDairy_71 : decode cX0_readDairy 71 = .ok (.iload_n 2, 1) := by decide +kernel
theorem dX0_readDairy_72 : decode cX0_readDairy 72 = .ok (.putfield 124, 3) := by decide +kernel
theorem dX0_readDairy_75 : decode cX0_readDairy 75 = .ok (.aload_n 0, 1) := by decide +kernel
theorem dX0_readDairy_76 : decode cX0_readDairy 76 = .ok (.getfield 12, 3) := by decide +kernel
theorem dX0_readDairy_79 : decode cX0_readDairy 79 = .ok (.iload_n 3, 1) := by decide +kernel
theorem dX0_readDairy_80 : decode cX0_readDairy 80 = .ok (.putfield 127, 3) := by decide +kernel
theorem dX0_readDairy_83 : decode cX0_readDairy 83 = .ok (.iconst 1, 1) := by decide +kernel
theorem dX0_readDairy_84 : decode cX0_readDairy 84 = .ok (.ireturn, 1) := by decide +kernel
set_option maxRecDepth 20000 in
theorem ggX0_takePlace_X7_takeNumber : GoodIn wsX0_takePlace wsX7_takeNumber := goodIn_r _ [7, 8, 9, 10, 11, 12, 13, 6, 14, 15, 16, 17, 18, 19, 20, 21, 22, 23, 24, 25, 26, 27, 50, 51, 52, 53, 54] (by decide +kernel) (by decide +kernel)
set_option maxRecDepth 20000 in
theorem gX0_takePlace_X7_takeNumber : GoodIn wsX0_takePlace (wsV RX0 117 RX7 yX7_takeNumber wsX7_takeNumber) := goodIn_app (goodIn_of _ (by decide +kernel)) ggX0_takePlace_X7_takeNumber
theorem dX0_takePlace_0 : decode cX0_takePlace 0 = .ok (.aload_n 0, 1) := by decide +kernel
theorem dX0_takePlace_1 : decode cX0_takePlace 1 = .ok (.getfield 25, 3) := by decide +kernel
theorem dX0_takePlace_4 : decode cX0_takePlace 4 = .ok (.iconst 0, 1) := by decide +kernel
theorem dX0_takePlace_5 : decode cX0_takePlace 5 = .ok (.aload_n 0, 1) := by decide +kernel
theorem dX0_takePlace_6 : decode cX0_takePlace 6 = .ok (.getfield 12, 3) := by decide +kernel
theorem dX0_takePlace_9 : decode cX0_takePlace 9 = .ok (.getfield 121, 3) := by decide +kernel
theorem dX0_takePlace_12 : decode cX0_takePlace 12 = .ok (.iconst 1, 1) := by decide +kernel
theorem dX0_takePlace_13 : decode cX0_takePlace 13 = .ok (.isub, 1) := by decide +kernel
theorem dX0_takePlace_14 : decode cX0_takePlace 14 = .ok (.invokevirtual 117, 3) := by decide +kernel
theorem dX0_takePlace_17 : decode cX0_takePlace 17 = .ok (.ireturn, 1) := by decide +kernel
set_option maxRecDepth 20000 in
theorem ggX0_readRoad_X0_takePlace : GoodIn wsX0_readRoad wsX0_takePlace := goodIn_r _ [7, 2, 1, 8, 9, 10, 11, 12, 13, 14, 15, 16, 17, 18, 19, 20, 21, 22, 23, 24, 25, 26, 27, 28, 29, 30, 31, 32, 48, 49, 50, 51, 52, 53, 54, 55, 56, 57, 58, 59, 60, 61, 62, 63, 64, 65, 66, 67, 68, 69, 70, 71, 72, 73, 74] (by decide +kernel) (by decide +kernel)
set_option maxRecDepth 20000 in
theorem gX0_readRoad_X0_takePlace : GoodIn wsX0_readRoad (wsV RX0 130 RX0 yX0_takePlace wsX0_takePlace) := goodIn_app (goodIn_of _ (by decide +kernel)) ggX0_readRoad_X0_takePlace
set_option maxRecDepth 20000 in
theorem ggX0_readRoad_X8_roadHours : GoodIn wsX0_readRoad wsX8_roadHours := goodIn_r _ [37, 38, 39, 40, 36, 41, 51, 52, 53, 54, 55, 56, 57, 58, 59, 60, 61, 62, 63, 64, 65, 66, 67, 68, 69] (by decide +kernel) (by decide +kernel)
set_option maxRecDepth 20000 in
theorem gX0_readRoad_X8_roadHours : GoodIn wsX0_readRoad (wsV RX0 133 RX8 yX8_roadHours wsX8_roadHours) := goodIn_app (goodIn_of _ (by decide +kernel)) ggX0_readRoad_X8_roadHours
set_option maxRecDepth 20000 in
theorem ggX0_readRoad_X7_refuse : GoodIn wsX0_readRoad wsX7_refuse := goodIn_r _ [27, 28, 15, 70, 71, 72, 73, 74] (by decide +kernel) (by decide +kernel)
set_option maxRecDepth 20000 in
theorem gX0_readRoad_X7_refuse : GoodIn wsX0_readRoad (wsV RX0 53 RX7 yX7_refuse wsX7_refuse) := goodIn_app (goodIn_of _ (by decide +kernel)) ggX0_readRoad_X7_refuse
set_option maxRecDepth 20000 in
theorem ggX0_readRoad_X7_takeNumber : GoodIn wsX0_readRoad wsX7_takeNumber := goodIn_r _ [12, 13, 14, 15, 16, 17, 18, 11, 19, 20, 21, 22, 23, 24, 25, 26, 27, 28, 29, 30, 31, 32, 70, 71, 72, 73, 74] (by decide +kernel) (by decide +kernel)
set_option maxRecDepth 20000 in
theorem gX0_readRoad_X7_takeNumber : GoodIn wsX0_readRoad (wsV RX0 117 RX7 yX7_takeNumber wsX7_takeNumber) := goodIn_app (goodIn_of _ (by decide +kernel)) ggX0_readRoad_X7_takeNumber
set_option maxRecDepth 20000 in
theorem ggX0_readRoad_X8_addRoad : GoodIn wsX0_readRoad wsX8_addRoad := goodIn_r _ [46, 38, 47, 39, 40, 36, 41, 51, 52, 53, 54, 55, 56, 57, 58, 59, 60, 61, 62, 63, 64, 65, 66, 67, 68, 69] (by decide +kernel) (by decide +kernel)
set_option maxRecDepth 20000 in
theorem gX0_readRoad_X8_addRoad : GoodIn wsX0_readRoad (wsV RX0 136 RX8 yX8_addRoad wsX8_addRoad) := goodIn_app (goodIn_of _ (by decide +kernel)) ggX0_readRoad_X8_addRoad
theorem dX0_readRoad_0 : decode cX0_readRoad 0 = .ok (.aload_n 0, 1) := by decide +kernel
theorem dX0_readRoad_1 : decode cX0_readRoad 1 = .ok (.invokevirtual 130, 3) := by decide +kernel
theorem dX0_readRoad_4 : decode cX0_readRoad 4 = .ok (.istore_n 1, 1) := by decide +kernel
theorem dX0_readRoad_5 : decode cX0_readRoad 5 = .ok (.iload_n 1, 1) := by decide +kernel
theorem dX0_readRoad_6 : decode cX0_readRoad 6 = .ok (.iconst (-1), 1) := by decide +kernel
theorem dX0_readRoad_7 : decode cX0_readRoad 7 = .ok (.if_icmp .ne 7, 3) := by decide +kernel
theorem dX0_readRoad_10 : decode cX0_readRoad 10 = .ok (.iconst (-1), 1) := by decide +kernel
theorem dX0_readRoad_11 : decode cX0_readRoad 11 = .ok (.goto 7, 3) := by decide +kernel
theorem dX0_readRoad_14 : decode cX0_readRoad 14 = .ok (.aload_n 0, 1) := by decide +kernel
theorem dX0_readRoad_15 : decode cX0_readRoad 15 = .ok (.invokevirtual 130, 3) := by decide +kernel
theorem dX0_readRoad_18 : decode cX0_readRoad 18 = .ok (.istore_n 2, 1) := by decide +kernel
theorem dX0_readRoad_19 : decode cX0_readRoad 19 = .ok (.iload_n 2, 1) := by decide +kernel
theorem dX0_readRoad_20 : decode cX0_readRoad 20 = .ok (.iconst (-1), 1) := by decide +kernel
theorem dX0_readRoad_21 : decode cX0_readRoad 21 = .ok (.if_icmp .ne 5, 3) := by decide +kernel
theorem dX0_readRoad_24 : decode cX0_readRoad 24 = .ok (.iconst 0, 1) := by decide +kernel
theorem dX0_readRoad_25 : decode cX0_readRoad 25 = .ok (.ireturn, 1) := by decide +kernel
theorem dX0_readRoad_26 : decode cX0_readRoad 26 = .ok (.iload_n 2, 1) := by decide +kernel
theorem dX0_readRoad_27 : decode cX0_readRoad 27 = .ok (.iload_n 1, 1) := by decide +kernel
theorem dX0_readRoad_28 : decode cX0_readRoad 28 = .ok (.if_icmp .eq 15, 3) := by decide +kernel
theorem dX0_readRoad_31 : decode cX0_readRoad 31 = .ok (.aload_n 0, 1) := by decide +kernel
theorem dX0_readRoad_32 : decode cX0_readRoad 32 = .ok (.getfield 12, 3) := by decide +kernel
theorem dX0_readRoad_35 : decode cX0_readRoad 35 = .ok (.iload_n 1, 1) := by decide +kernel
theorem dX0_readRoad_36 : decode cX0_readRoad 36 = .ok (.iload_n 2, 1) := by decide +kernel
theorem dX0_readRoad_37 : decode cX0_readRoad 37 = .ok (.invokevirtual 133, 3) := by decide +kernel
theorem dX0_readRoad_40 : decode cX0_readRoad 40 = .ok (.ifCond .le 12, 3) := by decide +kernel
theorem dX0_readRoad_43 : decode cX0_readRoad 43 = .ok (.aload_n 0, 1) := by decide +kernel
theorem dX0_readRoad_44 : decode cX0_readRoad 44 = .ok (.getfield 25, 3) := by decide +kernel
theorem dX0_readRoad_47 : decode cX0_readRoad 47 = .ok (.iconst 1, 1) := by decide +kernel
theorem dX0_readRoad_48 : decode cX0_readRoad 48 = .ok (.invokevirtual 53, 3) := by decide +kernel
theorem dX0_readRoad_51 : decode cX0_readRoad 51 = .ok (.ireturn, 1) := by decide +kernel
theorem dX0_readRoad_52 : decode cX0_readRoad 52 = .ok (.aload_n 0, 1) := by decide +kernel
theorem dX0_readRoad_53 : decode cX0_readRoad 53 = .ok (.getfield 25, 3) := by decide +kernel
theorem dX0_readRoad_56 : decode cX0_readRoad 56 = .ok (.iconst 1, 1) := by decide +kernel
theorem dX0_readRoad_57 : decode cX0_readRoad 57 = .ok (.iconst 5, 1) := by decide +kernel
theorem dX0_readRoad_58 : decode cX0_readRoad 58 = .ok (.invokevirtual 117, 3) := by decide +kernel
theorem dX0_readRoad_61 : decode cX0_readRoad 61 = .ok (.istore_n 3, 1) := by decide +kernel
theorem dX0_readRoad_62 : decode cX0_readRoad 62 = .ok (.iload_n 3, 1) := by decide +kernel
theorem dX0_readRoad_63 : decode cX0_readRoad 63 = .ok (.iconst (-1), 1) := by decide +kernel
theorem dX0_readRoad_64 : decode cX0_readRoad 64 = .ok (.if_icmp .ne 5, 3) := by decide +kernel
theorem dX0_readRoad_67 : decode cX0_readRoad 67 = .ok (.iconst 0, 1) := by decide +kernel
theorem dX0_readRoad_68 : decode cX0_readRoad 68 = .ok (.ireturn, 1) := by decide +kernel
theorem dX0_readRoad_69 : decode cX0_readRoad 69 = .ok (.aload_n 0, 1) := by decide +kernel
theorem dX0_readRoad_70 : decode cX0_readRoad 70 = .ok (.getfield 12, 3) := by decide +kernel
theorem dX0_readRoad_73 : decode cX0_readRoad 73 = .ok (.iload_n 1, 1) := by decide +kernel
theorem dX0_readRoad_74 : decode cX0_readRoad 74 = .ok (.iload_n 2, 1) := by decide +kernel
theorem dX0_readRoad_75 : decode cX0_readRoad 75 = .ok (.iload_n 3, 1) := by decide +kernel
theorem dX0_readRoad_76 : decode cX0_readRoad 76 = .ok (.invokevirtual 136, 3) := by decide +kernel
theorem dX0_readRoad_79 : decode cX0_readRoad 79 = .ok (.iconst 1, 1) := by decide +kernel
theorem dX0_readRoad_80 : decode cX0_readRoad 80 = .ok (.ireturn, 1) := by decide +kernel
set_option maxRecDepth 20000 in
theorem ggX0_readHand_X0_takePlace : GoodIn wsX0_readHand wsX0_takePlace := goodIn_r _ [8, 1, 3, 9, 10, 11, 12, 13, 14, 15, 16, 17, 18, 19, 20, 21, 22, 23, 24, 25, 26, 27, 28, 29, 30, 31, 32, 33, 34, 35, 36, 46, 47, 48, 49, 50, 51, 52, 53, 54, 55, 56, 57, 58, 59, 60, 61, 62, 63, 64, 65, 66, 67, 68, 69] (by decide +kernel) (by decide +kernel)
set_option maxRecDepth 20000 in
theorem gX0_readHand_X0_takePlace : GoodIn wsX0_readHand (wsV RX0 130 RX0 yX0_takePlace wsX0_takePlace) := goodIn_app (goodIn_of _ (by decide +kernel)) ggX0_readHand_X0_takePlace
set_option maxRecDepth 20000 in
theorem ggX0_readHand_X7_takeNumber : GoodIn wsX0_readHand wsX7_takeNumber := goodIn_r _ [13, 14, 15, 16, 17, 18, 19, 12, 20, 21, 22, 23, 24, 25, 26, 27, 28, 29, 30, 31, 32, 33, 65, 66, 67, 68, 69] (by decide +kernel) (by decide +kernel)
set_option maxRecDepth 20000 in
theorem gX0_readHand_X7_takeNumber : GoodIn wsX0_readHand (wsV RX0 117 RX7 yX7_takeNumber wsX7_takeNumber) := goodIn_app (goodIn_of _ (by decide +kernel)) ggX0_readHand_X7_takeNumber
theorem dX0_readHand_0 : decode cX0_readHand 0 = .ok (.aload_n 0, 1) := by decide +kernel
theorem dX0_readHand_1 : decode cX0_readHand 1 = .ok (.invokevirtual 130, 3) := by decide +kernel
theorem dX0_readHand_4 : decode cX0_readHand 4 = .ok (.istore_n 1, 1) := by decide +kernel
theorem dX0_readHand_5 : decode cX0_readHand 5 = .ok (.iload_n 1, 1) := by decide +kernel
theorem dX0_readHand_6 : decode cX0_readHand 6 = .ok (.iconst (-1), 1) := by decide +kernel
theorem dX0_readHand_7 : decode cX0_readHand 7 = .ok (.if_icmp .ne 7, 3) := by decide +kernel
theorem dX0_readHand_10 : decode cX0_readHand 10 = .ok (.iconst (-1), 1) := by decide +kernel
theorem dX0_readHand_11 : decode cX0_readHand 11 = .ok (.goto 13, 3) := by decide +kernel
theorem dX0_readHand_14 : decode cX0_readHand 14 = .ok (.aload_n 0, 1) := by decide +kernel
theorem dX0_readHand_15 : decode cX0_readHand 15 = .ok (.getfield 25, 3) := by decide +kernel
theorem dX0_readHand_18 : decode cX0_readHand 18 = .ok (.iconst 0, 1) := by decide +kernel
theorem dX0_readHand_19 : decode cX0_readHand 19 = .ok (.bipush 20, 2) := by decide +kernel
theorem dX0_readHand_21 : decode cX0_readHand 21 = .ok (.invokevirtual 117, 3) := by decide +kernel
theorem dX0_readHand_24 : decode cX0_readHand 24 = .ok (.istore_n 2, 1) := by decide +kernel
theorem dX0_readHand_25 : decode cX0_readHand 25 = .ok (.iload_n 2, 1) := by decide +kernel
theorem dX0_readHand_26 : decode cX0_readHand 26 = .ok (.iconst (-1), 1) := by decide +kernel
theorem dX0_readHand_27 : decode cX0_readHand 27 = .ok (.if_icmp .ne 7, 3) := by decide +kernel
theorem dX0_readHand_30 : decode cX0_readHand 30 = .ok (.iconst (-1), 1) := by decide +kernel
theorem dX0_readHand_31 : decode cX0_readHand 31 = .ok (.goto 12, 3) := by decide +kernel
theorem dX0_readHand_34 : decode cX0_readHand 34 = .ok (.aload_n 0, 1) := by decide +kernel
theorem dX0_readHand_35 : decode cX0_readHand 35 = .ok (.getfield 25, 3) := by decide +kernel
theorem dX0_readHand_38 : decode cX0_readHand 38 = .ok (.iconst 0, 1) := by decide +kernel
theorem dX0_readHand_39 : decode cX0_readHand 39 = .ok (.iconst 5, 1) := by decide +kernel
theorem dX0_readHand_40 : decode cX0_readHand 40 = .ok (.invokevirtual 117, 3) := by decide +kernel
theorem dX0_readHand_43 : decode cX0_readHand 43 = .ok (.istore_n 3, 1) := by decide +kernel
theorem dX0_readHand_44 : decode cX0_readHand 44 = .ok (.iload_n 3, 1) := by decide +kernel
theorem dX0_readHand_45 : decode cX0_readHand 45 = .ok (.iconst (-1), 1) := by decide +kernel
theorem dX0_readHand_46 : decode cX0_readHand 46 = .ok (.if_icmp .ne 5, 3) := by decide +kernel
theorem dX0_readHand_49 : decode cX0_readHand 49 = .ok (.iconst 0, 1) := by decide +kernel
theorem dX0_readHand_50 : decode cX0_readHand 50 = .ok (.ireturn, 1) := by decide +kernel
theorem dX0_readHand_51 : decode cX0_readHand 51 = .ok (.aload_n 0, 1) := by decide +kernel
theorem dX0_readHand_52 : decode cX0_readHand 52 = .ok (.getfield 21, 3) := by decide +kernel
theorem dX0_readHand_55 : decode cX0_readHand 55 = .ok (.getfield 140, 3) := by decide +kernel
theorem dX0_readHand_58 : decode cX0_readHand 58 = .ok (.aload_n 0, 1) := by decide +kernel
theorem dX0_readHand_59 : decode cX0_readHand 59 = .ok (.getfield 12, 3) := by decide +kernel
theorem dX0_readHand_62 : decode cX0_readHand 62 = .ok (.getfield 80, 3) := by decide +kernel
theorem dX0_readHand_65 : decode cX0_readHand 65 = .ok (.iload_n 1, 1) := by decide +kernel
theorem dX0_readHand_66 : decode cX0_readHand 66 = .ok (.iastore, 1) := by decide +kernel
theorem dX0_readHand_67 : decode cX0_readHand 67 = .ok (.aload_n 0, 1) := by decide +kernel
theorem dX0_readHand_68 : decode cX0_readHand 68 = .ok (.getfield 12, 3) := by decide +kernel
theorem dX0_readHand_71 : decode cX0_readHand 71 = .ok (.getfield 144, 3) := by decide +kernel
theorem dX0_readHand_74 : decode cX0_readHand 74 = .ok (.aload_n 0, 1) := by decide +kernel
theorem dX0_readHand_75 : decode cX0_readHand 75 = .ok (.getfield 12, 3) := by decide +kernel
theorem dX0_readHand_78 : decode cX0_readHand 78 = .ok (.getfield 80, 3) := by decide +kernel
theorem dX0_readHand_81 : decode cX0_readHand 81 = .ok (.iload_n 2, 1) := by decide +kernel
theorem dX0_readHand_82 : decode cX0_readHand 82 = .ok (.iastore, 1) := by decide +kernel
theorem dX0_readHand_83 : decode cX0_readHand 83 = .ok (.aload_n 0, 1) := by decide +kernel
theorem dX0_readHand_84 : decode cX0_readHand 84 = .ok (.getfield 12, 3) := by decide +kernel
theorem dX0_readHand_87 : decode cX0_readHand 87 = .ok (.getfield 147, 3) := by decide +kernel
theorem dX0_readHand_90 : decode cX0_readHand 90 = .ok (.aload_n 0, 1) := by decide +kernel
theorem dX0_readHand_91 : decode cX0_readHand 91 = .ok (.getfield 12, 3) := by decide +kernel
theorem dX0_readHand_94 : decode cX0_readHand 94 = .ok (.getfield 80, 3) := by decide +kernel
theorem dX0_readHand_97 : decode cX0_readHand 97 = .ok (.iload_n 3, 1) := by decide +kernel
theorem dX0_readHand_98 : decode cX0_readHand 98 = .ok (.iastore, 1) := by decide +kernel
theorem dX0_readHand_99 : decode cX0_readHand 99 = .ok (.aload_n 0, 1) := by decide +kernel
theorem dX0_readHand_100 : decode cX0_readHand 100 = .ok (.getfield 12, 3) := by decide +kernel
theorem dX0_readHand_103 : decode cX0_readHand 103 = .ok (.dup, 1) := by decide +kernel
theorem dX0_readHand_104 : decode cX0_readHand 104 = .ok (.getfield 80, 3) := by decide +kernel
theorem dX0_readHand_107 : decode cX0_readHand 107 = .ok (.iconst 1, 1) := by decide +kernel
theorem dX0_readHand_108 : decode cX0_readHand 108 = .ok (.iadd, 1) := by decide +kernel
theorem dX0_readHand_109 : decode cX0_readHand 109 = .ok (.putfield 80, 3) := by decide +kernel
theorem dX0_readHand_112 : decode cX0_readHand 112 = .ok (.iconst 1, 1) := by decide +kernel
theorem dX0_readHand_113 : decode cX0_readHand 113 = .ok (.ireturn, 1) := by decide +kernel
set_option maxRecDepth 20000 in
theorem ggX0_readJug_X0_takePlace : GoodIn wsX0_readJug wsX0_takePlace := goodIn_r _ [8, 1, 3, 9, 10, 11, 12, 13, 14, 15, 16, 17, 18, 19, 20, 21, 22, 23, 24, 25, 26, 27, 28, 29, 30, 31, 32, 33, 34, 35, 36, 46, 47, 48, 49, 50, 51, 52, 53, 54, 55, 56, 57, 58, 59, 60, 61, 62, 63, 64, 65, 66, 67, 68, 69] (by decide +kernel) (by decide +kernel)
set_option maxRecDepth 20000 in
theorem gX0_readJug_X0_takePlace : GoodIn wsX0_readJug (wsV RX0 130 RX0 yX0_takePlace wsX0_takePlace) := goodIn_app (goodIn_of _ (by decide +kernel)) ggX0_readJug_X0_takePlace
set_option maxRecDepth 20000 in
theorem ggX0_readJug_X7_takeNumber : GoodIn wsX0_readJug wsX7_takeNumber := goodIn_r _ [13, 14, 15, 16, 17, 18, 19, 12, 20, 21, 22, 23, 24, 25, 26, 27, 28, 29, 30, 31, 32, 33, 65, 66, 67, 68, 69] (by decide +kernel) (by decide +kernel)
set_option maxRecDepth 20000 in
theorem gX0_readJug_X7_takeNumber : GoodIn wsX0_readJug (wsV RX0 117 RX7 yX7_takeNumber wsX7_takeNumber) := goodIn_app (goodIn_of _ (by decide +kernel)) ggX0_readJug_X7_takeNumber
theorem dX0_readJug_0 : decode cX0_readJug 0 = .ok (.aload_n 0, 1) := by decide +kernel
theorem dX0_readJug_1 : decode cX0_readJug 1 = .ok (.invokevirtual 130, 3) := by decide +kernel
theorem dX0_readJug_4 : decode cX0_readJug 4 = .ok (.istore_n 1, 1) := by decide +kernel
theorem dX0_readJug_5 : decode cX0_readJug 5 = .ok (.iload_n 1, 1) := by decide +kernel
theorem dX0_readJug_6 : decode cX0_readJug 6 = .ok (.iconst (-1), 1) := by decide +kernel
theorem dX0_readJug_7 : decode cX0_readJug 7 = .ok (.if_icmp .ne 7, 3) := by decide +kernel
theorem dX0_readJug_10 : decode cX0_readJug 10 = .ok (.iconst (-1), 1) := by decide +kernel
theorem dX0_readJug_11 : decode cX0_readJug 11 = .ok (.goto 13, 3) := by decide +kernel
theorem dX0_readJug_14 : decode cX0_readJug 14 = .ok (.aload_n 0, 1) := by decide +kernel
theorem dX0_readJug_15 : decode cX0_readJug 15 = .ok (.getfield 25, 3) := by decide +kernel
theorem dX0_readJug_18 : decode cX0_readJug 18 = .ok (.iconst 0, 1) := by decide +kernel
theorem dX0_readJug_19 : decode cX0_readJug 19 = .ok (.bipush 99, 2) := by decide +kernel
theorem dX0_readJug_21 : decode cX0_readJug 21 = .ok (.invokevirtual 117, 3) := by decide +kernel
theorem dX0_readJug_24 : decode cX0_readJug 24 = .ok (.istore_n 2, 1) := by decide +kernel
theorem dX0_readJug_25 : decode cX0_readJug 25 = .ok (.iload_n 2, 1) := by decide +kernel
theorem dX0_readJug_26 : decode cX0_readJug 26 = .ok (.iconst (-1), 1) := by decide +kernel
theorem dX0_readJug_27 : decode cX0_readJug 27 = .ok (.if_icmp .ne 5, 3) := by decide +kernel
theorem dX0_readJug_30 : decode cX0_readJug 30 = .ok (.iconst 0, 1) := by decide +kernel
theorem dX0_readJug_31 : decode cX0_readJug 31 = .ok (.ireturn, 1) := by decide +kernel
theorem dX0_readJug_32 : decode cX0_readJug 32 = .ok (.aload_n 0, 1) := by decide +kernel
theorem dX0_readJug_33 : decode cX0_readJug 33 = .ok (.getfield 21, 3) := by decide +kernel
theorem dX0_readJug_36 : decode cX0_readJug 36 = .ok (.getfield 150, 3) := by decide +kernel
theorem dX0_readJug_39 : decode cX0_readJug 39 = .ok (.aload_n 0, 1) := by decide +kernel
theorem dX0_readJug_40 : decode cX0_readJug 40 = .ok (.getfield 12, 3) := by decide +kernel
theorem dX0_readJug_43 : decode cX0_readJug 43 = .ok (.getfield 83, 3) := by decide +kernel
theorem dX0_readJug_46 : decode cX0_readJug 46 = .ok (.iload_n 1, 1) := by decide +kernel
theorem dX0_readJug_47 : decode cX0_readJug 47 = .ok (.iastore, 1) := by decide +kernel
theorem dX0_readJug_48 : decode cX0_readJug 48 = .ok (.aload_n 0, 1) := by decide +kernel
theorem dX0_readJug_49 : decode cX0_readJug 49 = .ok (.getfield 21, 3) := by decide +kernel
theorem dX0_readJug_52 : decode cX0_readJug 52 = .ok (.getfield 153, 3) := by decide +kernel
theorem dX0_readJug_55 : decode cX0_readJug 55 = .ok (.aload_n 0, 1) := by decide +kernel
theorem dX0_readJug_56 : decode cX0_readJug 56 = .ok (.getfield 12, 3) := by decide +kernel
theorem dX0_readJug_59 : decode cX0_readJug 59 = .ok (.getfield 83, 3) := by decide +kernel
theorem dX0_readJug_62 : decode cX0_readJug 62 = .ok (.iload_n 2, 1) := by decide +kernel
theorem dX0_readJug_63 : decode cX0_readJug 63 = .ok (.iastore, 1) := by decide +kernel
theorem dX0_readJug_64 : decode cX0_readJug 64 = .ok (.aload_n 0, 1) := by decide +kernel
theorem dX0_readJug_65 : decode cX0_readJug 65 = .ok (.getfield 12, 3) := by decide +kernel
theorem dX0_readJug_68 : decode cX0_readJug 68 = .ok (.dup, 1) := by decide +kernel
theorem dX0_readJug_69 : decode cX0_readJug 69 = .ok (.getfield 83, 3) := by decide +kernel
theorem dX0_readJug_72 : decode cX0_readJug 72 = .ok (.iconst 1, 1) := by decide +kernel
theorem dX0_readJug_73 : decode cX0_readJug 73 = .ok (.iadd, 1) := by decide +kernel
theorem dX0_readJug_74 : decode cX0_readJug 74 = .ok (.putfield 83, 3) := by decide +kernel
theorem dX0_readJug_77 : decode cX0_readJug 77 = .ok (.iconst 1, 1) := by decide +kernel
theorem dX0_readJug_78 : decode cX0_readJug 78 = .ok (.ireturn, 1) := by decide +kernel
set_option maxRecDepth 20000 in
theorem ggX0_readHeat_X7_takeNumber : GoodIn wsX0_readHeat wsX7_takeNumber := goodIn_r _ [7, 8, 9, 10, 11, 12, 13, 6, 14, 15, 16, 17, 18, 19, 20, 21, 22, 23, 24, 25, 26, 27, 50, 51, 52, 53, 54] (by decide +kernel) (by decide +kernel)
set_option maxRecDepth 20000 in
theorem gX0_readHeat_X7_takeNumber : GoodIn wsX0_readHeat (wsV RX0 117 RX7 yX7_takeNumber wsX7_takeNumber) := goodIn_app (goodIn_of _ (by decide +kernel)) ggX0_readHeat_X7_takeNumber
theorem dX0_readHeat_0 : decode cX0_readHeat 0 = .ok (.aload_n 0, 1) := by decide +kernel
theorem dX0_readHeat_1 : decode cX0_readHeat 1 = .ok (.getfield 25, 3) := by decide +kernel
theorem dX0_readHeat_4 : decode cX0_readHeat 4 = .ok (.iconst 0, 1) := by decide +kernel
theorem dX0_readHeat_5 : decode cX0_readHeat 5 = .ok (.bipush 99, 2) := by decide +kernel
theorem dX0_readHeat_7 : decode cX0_readHeat 7 = .ok (.invokevirtual 117, 3) := by decide +kernel
theorem dX0_readHeat_10 : decode cX0_readHeat 10 = .ok (.istore_n 1, 1) := by decide +kernel
theorem dX0_readHeat_11 : decode cX0_readHeat 11 = .ok (.iload_n 1, 1) := by decide +kernel
theorem dX0_readHeat_12 : decode cX0_readHeat 12 = .ok (.iconst (-1), 1) := by decide +kernel
theorem dX0_readHeat_13 : decode cX0_readHeat 13 = .ok (.if_icmp .ne 7, 3) := by decide +kernel
theorem dX0_readHeat_16 : decode cX0_readHeat 16 = .ok (.iconst (-1), 1) := by decide +kernel
theorem dX0_readHeat_17 : decode cX0_readHeat 17 = .ok (.goto 13, 3) := by decide +kernel
theorem dX0_readHeat_20 : decode cX0_readHeat 20 = .ok (.aload_n 0, 1) := by decide +kernel
theorem dX0_readHeat_21 : decode cX0_readHeat 21 = .ok (.getfield 25, 3) := by decide +kernel
theorem dX0_readHeat_24 : decode cX0_readHeat 24 = .ok (.iload_n 1, 1) := by decide +kernel
theorem dX0_readHeat_25 : decode cX0_readHeat 25 = .ok (.bipush 99, 2) := by decide +kernel
theorem dX0_readHeat_27 : decode cX0_readHeat 27 = .ok (.invokevirtual 117, 3) := by decide +kernel
theorem dX0_readHeat_30 : decode cX0_readHeat 30 = .ok (.istore_n 2, 1) := by decide +kernel
theorem dX0_readHeat_31 : decode cX0_readHeat 31 = .ok (.iload_n 2, 1) := by decide +kernel
theorem dX0_readHeat_32 : decode cX0_readHeat 32 = .ok (.iconst (-1), 1) := by decide +kernel
theorem dX0_readHeat_33 : decode cX0_readHeat 33 = .ok (.if_icmp .ne 7, 3) := by decide +kernel
theorem dX0_readHeat_36 : decode cX0_readHeat 36 = .ok (.iconst (-1), 1) := by decide +kernel
theorem dX0_readHeat_37 : decode cX0_readHeat 37 = .ok (.goto 12, 3) := by decide +kernel
theorem dX0_readHeat_40 : decode cX0_readHeat 40 = .ok (.aload_n 0, 1) := by decide +kernel
theorem dX0_readHeat_41 : decode cX0_readHeat 41 = .ok (.getfield 25, 3) := by decide +kernel
theorem dX0_readHeat_44 : decode cX0_readHeat 44 = .ok (.iconst 1, 1) := by decide +kernel
theorem dX0_readHeat_45 : decode cX0_readHeat 45 = .ok (.iconst 5, 1) := by decide +kernel
theorem dX0_readHeat_46 : decode cX0_readHeat 46 = .ok (.invokevirtual 117, 3) := by decide +kernel
theorem dX0_readHeat_49 : decode cX0_readHeat 49 = .ok (.istore_n 3, 1) := by decide +kernel
theorem dX0_readHeat_50 : decode cX0_readHeat 50 = .ok (.iload_n 3, 1) := by decide +kernel
theorem dX0_readHeat_51 : decode cX0_readHeat 51 = .ok (.iconst (-1), 1) := by decide +kernel
theorem dX0_readHeat_52 : decode cX0_readHeat 52 = .ok (.if_icmp .ne 5, 3) := by decide +kernel
theorem dX0_readHeat_55 : decode cX0_readHeat 55 = .ok (.iconst 0, 1) := by decide +kernel
theorem dX0_readHeat_56 : decode cX0_readHeat 56 = .ok (.ireturn, 1) := by decide +kernel
theorem dX0_readHeat_57 : decode cX0_readHeat 57 = .ok (.aload_n 0, 1) := by decide +kernel
theorem dX0_readHeat_58 : decode cX0_readHeat 58 = .ok (.getfield 12, 3) := by decide +kernel
theorem dX0_readHeat_61 : decode cX0_readHeat 61 = .ok (.getfield 156, 3) := by decide +kernel
theorem dX0_readHeat_64 : decode cX0_readHeat 64 = .ok (.aload_n 0, 1) := by decide +kernel
theorem dX0_readHeat_65 : decode cX0_readHeat 65 = .ok (.getfield 12, 3) := by decide +kernel
theorem dX0_readHeat_68 : decode cX0_readHeat 68 = .ok (.getfield 86, 3) := by decide +kernel
theorem dX0_readHeat_71 : decode cX0_readHeat 71 = .ok (.iload_n 1, 1) := by decide +kernel
theorem dX0_readHeat_72 : decode cX0_readHeat 72 = .ok (.iastore, 1) := by decide +kernel
theorem dX0_readHeat_73 : decode cX0_readHeat 73 = .ok (.aload_n 0, 1) := by decide +kernel
theorem dX0_readHeat_74 : decode cX0_readHeat 74 = .ok (.getfield 12, 3) := by decide +kernel
theorem dX0_readHeat_77 : decode cX0_readHeat 77 = .ok (.getfield 159, 3) := by decide +kernel
theorem dX0_readHeat_80 : decode cX0_readHeat 80 = .ok (.aload_n 0, 1) := by decide +kernel
theorem dX0_readHeat_81 : decode cX0_readHeat 81 = .ok (.getfield 12, 3) := by decide +kernel
theorem dX0_readHeat_84 : decode cX0_readHeat 84 = .ok (.getfield 86, 3) := by decide +kernel
theorem dX0_readHeat_87 : decode cX0_readHeat 87 = .ok (.iload_n 2, 1) := by decide +kernel
theorem dX0_readHeat_88 : decode cX0_readHeat 88 = .ok (.iastore, 1) := by decide +kernel
theorem dX0_readHeat_89 : decode cX0_readHeat 89 = .ok (.aload_n 0, 1) := by decide +kernel
theorem dX0_readHeat_90 : decode cX0_readHeat 90 = .ok (.getfield 12, 3) := by decide +kernel
theorem dX0_readHeat_93 : decode cX0_readHeat 93 = .ok (.getfield 162, 3) := by decide +kernel
theorem dX0_readHeat_96 : decode cX0_readHeat 96 = .ok (.aload_n 0, 1) := by decide +kernel
theorem dX0_readHeat_97 : decode cX0_readHeat 97 = .ok (.getfield 12, 3) := by decide +kernel
theorem dX0_readHeat_100 : decode cX0_readHeat 100 = .ok (.getfield 86, 3) := by decide +kernel
theorem dX0_readHeat_103 : decode cX0_readHeat 103 = .ok (.iload_n 3, 1) := by decide +kernel
theorem dX0_readHeat_104 : decode cX0_readHeat 104 = .ok (.iastore, 1) := by decide +kernel
theorem dX0_readHeat_105 : decode cX0_readHeat 105 = .ok (.aload_n 0, 1) := by decide +kernel
theorem dX0_readHeat_106 : decode cX0_readHeat 106 = .ok (.getfield 12, 3) := by decide +kernel
theorem dX0_readHeat_109 : decode cX0_readHeat 109 = .ok (.dup, 1) := by decide +kernel
theorem dX0_readHeat_110 : decode cX0_readHeat 110 = .ok (.getfield 86, 3) := by decide +kernel
theorem dX0_readHeat_113 : decode cX0_readHeat 113 = .ok (.iconst 1, 1) := by decide +kernel
theorem dX0_readHeat_114 : decode cX0_readHeat 114 = .ok (.iadd, 1) := by decide +kernel
theorem dX0_readHeat_115 : decode cX0_readHeat 115 = .ok (.putfield 86, 3) := by decide +kernel
theorem dX0_readHeat_118 : decode cX0_readHeat 118 = .ok (.iconst 1, 1) := by decide +kernel
theorem dX0_readHeat_119 : decode cX0_readHeat 119 = .ok (.ireturn, 1) := by decide +kernel
set_option maxRecDepth 20000 in
theorem ggX0_readWant_X0_takePlace : GoodIn wsX0_readWant wsX0_takePlace := goodIn_r _ [7, 1, 2, 8, 9, 10, 11, 12, 13, 14, 15, 16, 17, 18, 19, 20, 21, 22, 23, 24, 25, 26, 27, 28, 29, 30, 31, 32, 33, 34, 35, 36, 37, 38, 39, 40, 41, 42, 43, 44, 45, 46, 47, 48, 49, 50, 51, 52, 53, 54, 55, 56, 57, 58, 59] (by decide +kernel) (by decide +kernel)
set_option maxRecDepth 20000 in
theorem gX0_readWant_X0_takePlace : GoodIn wsX0_readWant (wsV RX0 130 RX0 yX0_takePlace wsX0_takePlace) := goodIn_app (goodIn_of _ (by decide +kernel)) ggX0_readWant_X0_takePlace
set_option maxRecDepth 20000 in
theorem ggX0_readWant_X7_takeNumber : GoodIn wsX0_readWant wsX7_takeNumber := goodIn_r _ [12, 13, 14, 15, 16, 17, 18, 11, 19, 20, 21, 22, 23, 24, 25, 26, 27, 28, 29, 30, 31, 32, 55, 56, 57, 58, 59] (by decide +kernel) (by decide +kernel)
set_option maxRecDepth 20000 in
theorem gX0_readWant_X7_takeNumber : GoodIn wsX0_readWant (wsV RX0 117 RX7 yX7_takeNumber wsX7_takeNumber) := goodIn_app (goodIn_of _ (by decide +kernel)) ggX0_readWant_X7_takeNumber
theorem dX0_readWant_0 : decode cX0_readWant 0 = .ok (.aload_n 0, 1) := by decide +kernel
theorem dX0_readWant_1 : decode cX0_readWant 1 = .ok (.invokevirtual 130, 3) := by decide +kernel
theorem dX0_readWant_4 : decode cX0_readWant 4 = .ok (.istore_n 1, 1) := by decide +kernel
theorem dX0_readWant_5 : decode cX0_readWant 5 = .ok (.iload_n 1, 1) := by decide +kernel
theorem dX0_readWant_6 : decode cX0_readWant 6 = .ok (.iconst (-1), 1) := by decide +kernel
theorem dX0_readWant_7 : decode cX0_readWant 7 = .ok (.if_icmp .ne 7, 3) := by decide +kernel
theorem dX0_readWant_10 : decode cX0_readWant 10 = .ok (.iconst (-1), 1) := by decide +kernel
theorem dX0_readWant_11 : decode cX0_readWant 11 = .ok (.goto 13, 3) := by decide +kernel
theorem dX0_readWant_14 : decode cX0_readWant 14 = .ok (.aload_n 0, 1) := by decide +kernel
theorem dX0_readWant_15 : decode cX0_readWant 15 = .ok (.getfield 25, 3) := by decide +kernel
theorem dX0_readWant_18 : decode cX0_readWant 18 = .ok (.iconst 0, 1) := by decide +kernel
theorem dX0_readWant_19 : decode cX0_readWant 19 = .ok (.bipush 99, 2) := by decide +kernel
theorem dX0_readWant_21 : decode cX0_readWant 21 = .ok (.invokevirtual 117, 3) := by decide +kernel
theorem dX0_readWant_24 : decode cX0_readWant 24 = .ok (.istore_n 2, 1) := by decide +kernel
theorem dX0_readWant_25 : decode cX0_readWant 25 = .ok (.iload_n 2, 1) := by decide +kernel
theorem dX0_readWant_26 : decode cX0_readWant 26 = .ok (.iconst (-1), 1) := by decide +kernel
theorem dX0_readWant_27 : decode cX0_readWant 27 = .ok (.if_icmp .ne 7, 3) := by decide +kernel
theorem dX0_readWant_30 : decode cX0_readWant 30 = .ok (.iconst (-1), 1) := by decide +kernel
theorem dX0_readWant_31 : decode cX0_readWant 31 = .ok (.goto 13, 3) := by decide +kernel
theorem dX0_readWant_34 : decode cX0_readWant 34 = .ok (.aload_n 0, 1) := by decide +kernel
theorem dX0_readWant_35 : decode cX0_readWant 35 = .ok (.getfield 25, 3) := by decide +kernel
theorem dX0_readWant_38 : decode cX0_readWant 38 = .ok (.iload_n 2, 1) := by decide +kernel
theorem dX0_readWant_39 : decode cX0_readWant 39 = .ok (.bipush 99, 2) := by decide +kernel
theorem dX0_readWant_41 : decode cX0_readWant 41 = .ok (.invokevirtual 117, 3) := by decide +kernel
theorem dX0_readWant_44 : decode cX0_readWant 44 = .ok (.istore_n 3, 1) := by decide +kernel
theorem dX0_readWant_45 : decode cX0_readWant 45 = .ok (.iload_n 3, 1) := by decide +kernel
theorem dX0_readWant_46 : decode cX0_readWant 46 = .ok (.iconst (-1), 1) := by decide +kernel
theorem dX0_readWant_47 : decode cX0_readWant 47 = .ok (.if_icmp .ne 7, 3) := by decide +kernel
theorem dX0_readWant_50 : decode cX0_readWant 50 = .ok (.iconst (-1), 1) := by decide +kernel
theorem dX0_readWant_51 : decode cX0_readWant 51 = .ok (.goto 13, 3) := by decide +kernel
theorem dX0_readWant_54 : decode cX0_readWant 54 = .ok (.aload_n 0, 1) := by decide +kernel
theorem dX0_readWant_55 : decode cX0_readWant 55 = .ok (.getfield 25, 3) := by decide +kernel
theorem dX0_readWant_58 : decode cX0_readWant 58 = .ok (.iconst 1, 1) := by decide +kernel
theorem dX0_readWant_59 : decode cX0_readWant 59 = .ok (.bipush 50, 2) := by decide +kernel
theorem dX0_readWant_61 : decode cX0_readWant 61 = .ok (.invokevirtual 117, 3) := by decide +kernel
theorem dX0_readWant_64 : decode cX0_readWant 64 = .ok (.istore 4, 2) := by decide +kernel
theorem dX0_readWant_66 : decode cX0_readWant 66 = .ok (.iload 4, 2) := by decide +kernel
theorem dX0_readWant_68 : decode cX0_readWant 68 = .ok (.iconst (-1), 1) := by decide +kernel
theorem dX0_readWant_69 : decode cX0_readWant 69 = .ok (.if_icmp .ne 5, 3) := by decide +kernel
theorem dX0_readWant_72 : decode cX0_readWant 72 = .ok (.iconst 0, 1) := by decide +kernel
theorem dX0_readWant_73 : decode cX0_readWant 73 = .ok (.ireturn, 1) := by decide +kernel
theorem dX0_readWant_74 : decode cX0_readWant 74 = .ok (.aload_n 0, 1) := by decide +kernel
theorem dX0_readWant_75 : decode cX0_readWant 75 = .ok (.getfield 12, 3) := by decide +kernel
theorem dX0_readWant_78 : decode cX0_readWant 78 = .ok (.getfield 165, 3) := by decide +kernel
theorem dX0_readWant_81 : decode cX0_readWant 81 = .ok (.aload_n 0, 1) := by decide +kernel
theorem dX0_readWant_82 : decode cX0_readWant 82 = .ok (.getfield 12, 3) := by decide +kernel
theorem dX0_readWant_85 : decode cX0_readWant 85 = .ok (.getfield 89, 3) := by decide +kernel
theorem dX0_readWant_88 : decode cX0_readWant 88 = .ok (.iload_n 1, 1) := by decide +kernel
theorem dX0_readWant_89 : decode cX0_readWant 89 = .ok (.iastore, 1) := by decide +kernel
theorem dX0_readWant_90 : decode cX0_readWant 90 = .ok (.aload_n 0, 1) := by decide +kernel
theorem dX0_readWant_91 : decode cX0_readWant 91 = .ok (.getfield 12, 3) := by decide +kernel
theorem dX0_readWant_94 : decode cX0_readWant 94 = .ok (.getfield 168, 3) := by decide +kernel
theorem dX0_readWant_97 : decode cX0_readWant 97 = .ok (.aload_n 0, 1) := by decide +kernel
theorem dX0_readWant_98 : decode cX0_readWant 98 = .ok (.getfield 12, 3) := by decide +kernel
theorem dX0_readWant_101 : decode cX0_readWant 101 = .ok (.getfield 89, 3) := by decide +kernel
theorem dX0_readWant_104 : decode cX0_readWant 104 = .ok (.iload_n 2, 1) := by decide +kernel
theorem dX0_readWant_105 : decode cX0_readWant 105 = .ok (.iastore, 1) := by decide +kernel
theorem dX0_readWant_106 : decode cX0_readWant 106 = .ok (.aload_n 0, 1) := by decide +kernel
theorem dX0_readWant_107 : decode cX0_readWant 107 = .ok (.getfield 12, 3) := by decide +kernel
theorem dX0_readWant_110 : decode cX0_readWant 110 = .ok (.getfield 171, 3) := by decide +kernel
theorem dX0_readWant_113 : decode cX0_readWant 113 = .ok (.aload_n 0, 1) := by decide +kernel
theorem dX0_readWant_114 : decode cX0_readWant 114 = .ok (.getfield 12, 3) := by decide +kernel
theorem dX0_readWant_117 : decode cX0_readWant 117 = .ok (.getfield 89, 3) := by decide +kernel
theorem dX0_readWant_120 : decode cX0_readWant 120 = .ok (.iload_n 3, 1) := by decide +kernel
theorem dX0_readWant_121 : decode cX0_readWant 121 = .ok (.iastore, 1) := by decide +kernel
theorem dX0_readWant_122 : decode cX0_readWant 122 = .ok (.aload_n 0, 1) := by decide +kernel
theorem dX0_readWant_123 : decode cX0_readWant 123 = .ok (.getfield 12, 3) := by decide +kernel
theorem dX0_readWant_126 : decode cX0_readWant 126 = .ok (.getfield 174, 3) := by decide +kernel
theorem dX0_readWant_129 : decode cX0_readWant 129 = .ok (.aload_n 0, 1) := by decide +kernel
theorem dX0_readWant_130 : decode cX0_readWant 130 = .ok (.getfield 12, 3) := by decide +kernel
theorem dX0_readWant_133 : decode cX0_readWant 133 = .ok (.getfield 89, 3) := by decide +kernel
theorem dX0_readWant_136 : decode cX0_readWant 136 = .ok (.iload 4, 2) := by decide +kernel
theorem dX0_readWant_138 : decode cX0_readWant 138 = .ok (.iastore, 1) := by decide +kernel
theorem dX0_readWant_139 : decode cX0_readWant 139 = .ok (.aload_n 0, 1) := by decide +kernel
theorem dX0_readWant_140 : decode cX0_readWant 140 = .ok (.getfield 12, 3) := by decide +kernel
theorem dX0_readWant_143 : decode cX0_readWant 143 = .ok (.dup, 1) := by decide +kernel
theorem dX0_readWant_144 : decode cX0_readWant 144 = .ok (.getfield 89, 3) := by decide +kernel
theorem dX0_readWant_147 : decode cX0_readWant 147 = .ok (.iconst 1, 1) := by decide +kernel
theorem dX0_readWant_148 : decode cX0_readWant 148 = .ok (.iadd, 1) := by decide +kernel
theorem dX0_readWant_149 : decode cX0_readWant 149 = .ok (.putfield 89, 3) := by decide +kernel
theorem dX0_readWant_152 : decode cX0_readWant 152 = .ok (.iconst 1, 1) := by decide +kernel
theorem dX0_readWant_153 : decode cX0_readWant 153 = .ok (.ireturn, 1) := by decide +kernel
theorem dX1_init_0 : decode cX1_init 0 = .ok (.aload_n 0, 1) := by decide +kernel
theorem dX1_init_1 : decode cX1_init 1 = .ok (.invokespecial 3, 3) := by decide +kernel
theorem dX1_init_4 : decode cX1_init 4 = .ok (.aload_n 0, 1) := by decide +kernel
theorem dX1_init_5 : decode cX1_init 5 = .ok (.aload_n 1, 1) := by decide +kernel
theorem dX1_init_6 : decode cX1_init 6 = .ok (.putfield 9, 3) := by decide +kernel
theorem dX1_init_9 : decode cX1_init 9 = .ok (.aload_n 0, 1) := by decide +kernel
theorem dX1_init_10 : decode cX1_init 10 = .ok (.aload_n 1, 1) := by decide +kernel
theorem dX1_init_11 : decode cX1_init 11 = .ok (.getfield 15, 3) := by decide +kernel
theorem dX1_init_14 : decode cX1_init 14 = .ok (.putfield 21, 3) := by decide +kernel
theorem dX1_init_17 : decode cX1_init 17 = .ok (.return_, 1) := by decide +kernel
set_option maxRecDepth 20000 in
theorem ggX1_pass_X1_turnsIn : GoodIn wsX1_pass wsX1_turnsIn := goodIn_r _ [13, 1, 14, 15, 16, 17, 18, 19, 20, 21, 22, 23, 24, 25, 26, 27, 28, 29, 30, 31, 32, 33, 34, 35, 36, 37, 38, 39, 40, 41, 42, 43, 44, 45, 46, 47, 48, 49, 50, 51, 52, 53, 54, 55, 56, 57, 58, 59, 60, 61, 62, 63, 64, 65, 66, 67, 68, 69, 70, 71, 72, 73, 74, 75, 76, 77, 78, 79, 80, 81, 4, 82, 83, 84, 85, 86, 87, 88, 89, 90, 91, 92, 93, 94, 95, 96, 97, 98, 106, 107, 108, 109, 110, 111, 112, 113, 114, 115, 116, 117, 118, 119, 120, 121, 122, 123, 124, 125, 126, 127, 128, 129, 130, 131, 132, 133, 134, 135, 136, 137, 138, 139, 140, 141, 142, 143, 144, 145, 146, 147, 148] (by decide +kernel) (by decide +kernel)
set_option maxRecDepth 20000 in
theorem gX1_pass_X1_turnsIn : GoodIn wsX1_pass (wsV RX1 34 RX1 yX1_turnsIn wsX1_turnsIn) := goodIn_app (goodIn_of _ (by decide +kernel)) ggX1_pass_X1_turnsIn
set_option maxRecDepth 20000 in
theorem ggX1_pass_X5_tire : GoodIn wsX1_pass wsX5_tire := goodIn_r _ [102, 103, 104, 3, 4, 5, 105, 7, 8, 62, 63, 64, 18, 65, 41, 128, 129, 130, 131, 132, 133, 134, 135, 136] (by decide +kernel) (by decide +kernel)
set_option maxRecDepth 20000 in
theorem gX1_pass_X5_tire : GoodIn wsX1_pass (wsV RX1 53 RX5 yX5_tire wsX5_tire) := goodIn_app (goodIn_of _ (by decide +kernel)) ggX1_pass_X5_tire
theorem dX1_pass_0 : decode cX1_pass 0 = .ok (.iconst 0, 1) := by decide +kernel
theorem dX1_pass_1 : decode cX1_pass 1 = .ok (.istore_n 2, 1) := by decide +kernel
theorem dX1_pass_2 : decode cX1_pass 2 = .ok (.iconst 0, 1) := by decide +kernel
theorem dX1_pass_3 : decode cX1_pass 3 = .ok (.istore_n 3, 1) := by decide +kernel
theorem dX1_pass_4 : decode cX1_pass 4 = .ok (.iload_n 3, 1) := by decide +kernel
theorem dX1_pass_5 : decode cX1_pass 5 = .ok (.aload_n 0, 1) := by decide +kernel
theorem dX1_pass_6 : decode cX1_pass 6 = .ok (.getfield 21, 3) := by decide +kernel
theorem dX1_pass_9 : decode cX1_pass 9 = .ok (.getfield 22, 3) := by decide +kernel
theorem dX1_pass_12 : decode cX1_pass 12 = .ok (.if_icmp .ge 69, 3) := by decide +kernel
theorem dX1_pass_15 : decode cX1_pass 15 = .ok (.aload_n 1, 1) := by decide +kernel
theorem dX1_pass_16 : decode cX1_pass 16 = .ok (.getfield 28, 3) := by decide +kernel
theorem dX1_pass_19 : decode cX1_pass 19 = .ok (.iload_n 3, 1) := by decide +kernel
theorem dX1_pass_20 : decode cX1_pass 20 = .ok (.iaload, 1) := by decide +kernel
theorem dX1_pass_21 : decode cX1_pass 21 = .ok (.istore 4, 2) := by decide +kernel
theorem dX1_pass_23 : decode cX1_pass 23 = .ok (.aload_n 1, 1) := by decide +kernel
theorem dX1_pass_24 : decode cX1_pass 24 = .ok (.getfield 28, 3) := by decide +kernel
theorem dX1_pass_27 : decode cX1_pass 27 = .ok (.iload_n 3, 1) := by decide +kernel
theorem dX1_pass_28 : decode cX1_pass 28 = .ok (.sipush 999, 3) := by decide +kernel
theorem dX1_pass_31 : decode cX1_pass 31 = .ok (.iload 4, 2) := by decide +kernel
theorem dX1_pass_33 : decode cX1_pass 33 = .ok (.aload_n 0, 1) := by decide +kernel
theorem dX1_pass_34 : decode cX1_pass 34 = .ok (.aload_n 1, 1) := by decide +kernel
theorem dX1_pass_35 : decode cX1_pass 35 = .ok (.iload_n 3, 1) := by decide +kernel
theorem dX1_pass_36 : decode cX1_pass 36 = .ok (.invokevirtual 34, 3) := by decide +kernel
theorem dX1_pass_39 : decode cX1_pass 39 = .ok (.iadd, 1) := by decide +kernel
theorem dX1_pass_40 : decode cX1_pass 40 = .ok (.invokestatic 38, 3) := by decide +kernel
theorem dX1_pass_43 : decode cX1_pass 43 = .ok (.iastore, 1) := by decide +kernel
theorem dX1_pass_44 : decode cX1_pass 44 = .ok (.iload 4, 2) := by decide +kernel
theorem dX1_pass_46 : decode cX1_pass 46 = .ok (.aload_n 0, 1) := by decide +kernel
theorem dX1_pass_47 : decode cX1_pass 47 = .ok (.getfield 21, 3) := by decide +kernel
theorem dX1_pass_50 : decode cX1_pass 50 = .ok (.getfield 44, 3) := by decide +kernel
theorem dX1_pass_53 : decode cX1_pass 53 = .ok (.if_icmp .ge 22, 3) := by decide +kernel
theorem dX1_pass_56 : decode cX1_pass 56 = .ok (.aload_n 1, 1) := by decide +kernel
theorem dX1_pass_57 : decode cX1_pass 57 = .ok (.getfield 28, 3) := by decide +kernel
theorem dX1_pass_60 : decode cX1_pass 60 = .ok (.iload_n 3, 1) := by decide +kernel
theorem dX1_pass_61 : decode cX1_pass 61 = .ok (.iaload, 1) := by decide +kernel
theorem dX1_pass_62 : decode cX1_pass 62 = .ok (.aload_n 0, 1) := by decide +kernel
theorem dX1_pass_63 : decode cX1_pass 63 = .ok (.getfield 21, 3) := by decide +kernel
theorem dX1_pass_66 : decode cX1_pass 66 = .ok (.getfield 44, 3) := by decide +kernel
theorem dX1_pass_69 : decode cX1_pass 69 = .ok (.if_icmp .lt 6, 3) := by decide +kernel
theorem dX1_pass_72 : decode cX1_pass 72 = .ok (.iinc 2 1, 3) := by decide +kernel
theorem dX1_pass_75 : decode cX1_pass 75 = .ok (.iinc 3 1, 3) := by decide +kernel
theorem dX1_pass_78 : decode cX1_pass 78 = .ok (.goto (-74), 3) := by decide +kernel
theorem dX1_pass_81 : decode cX1_pass 81 = .ok (.iconst 0, 1) := by decide +kernel
theorem dX1_pass_82 : decode cX1_pass 82 = .ok (.istore_n 3, 1) := by decide +kernel
theorem dX1_pass_83 : decode cX1_pass 83 = .ok (.iload_n 3, 1) := by decide +kernel
theorem dX1_pass_84 : decode cX1_pass 84 = .ok (.aload_n 0, 1) := by decide +kernel
theorem dX1_pass_85 : decode cX1_pass 85 = .ok (.getfield 21, 3) := by decide +kernel
theorem dX1_pass_88 : decode cX1_pass 88 = .ok (.getfield 47, 3) := by decide +kernel
theorem dX1_pass_91 : decode cX1_pass 91 = .ok (.if_icmp .ge 41, 3) := by decide +kernel
theorem dX1_pass_94 : decode cX1_pass 94 = .ok (.aload_n 1, 1) := by decide +kernel
theorem dX1_pass_95 : decode cX1_pass 95 = .ok (.iload_n 3, 1) := by decide +kernel
theorem dX1_pass_96 : decode cX1_pass 96 = .ok (.aload_n 0, 1) := by decide +kernel
theorem dX1_pass_97 : decode cX1_pass 97 = .ok (.getfield 21, 3) := by decide +kernel
theorem dX1_pass_100 : decode cX1_pass 100 = .ok (.getfield 50, 3) := by decide +kernel
theorem dX1_pass_103 : decode cX1_pass 103 = .ok (.iload_n 3, 1) := by decide +kernel
theorem dX1_pass_104 : decode cX1_pass 104 = .ok (.iaload, 1) := by decide +kernel
theorem dX1_pass_105 : decode cX1_pass 105 = .ok (.invokevirtual 53, 3) := by decide +kernel
theorem dX1_pass_108 : decode cX1_pass 108 = .ok (.aload_n 1, 1) := by decide +kernel
theorem dX1_pass_109 : decode cX1_pass 109 = .ok (.getfield 57, 3) := by decide +kernel
theorem dX1_pass_112 : decode cX1_pass 112 = .ok (.iload_n 3, 1) := by decide +kernel
theorem dX1_pass_113 : decode cX1_pass 113 = .ok (.iconst 0, 1) := by decide +kernel
theorem dX1_pass_114 : decode cX1_pass 114 = .ok (.aload_n 1, 1) := by decide +kernel
theorem dX1_pass_115 : decode cX1_pass 115 = .ok (.getfield 57, 3) := by decide +kernel
theorem dX1_pass_118 : decode cX1_pass 118 = .ok (.iload_n 3, 1) := by decide +kernel
theorem dX1_pass_119 : decode cX1_pass 119 = .ok (.iaload, 1) := by decide +kernel
theorem dX1_pass_120 : decode cX1_pass 120 = .ok (.iconst 1, 1) := by decide +kernel
theorem dX1_pass_121 : decode cX1_pass 121 = .ok (.isub, 1) := by decide +kernel
theorem dX1_pass_122 : decode cX1_pass 122 = .ok (.invokestatic 60, 3) := by decide +kernel
theorem dX1_pass_125 : decode cX1_pass 125 = .ok (.iastore, 1) := by decide +kernel
theorem dX1_pass_126 : decode cX1_pass 126 = .ok (.iinc 3 1, 3) := by decide +kernel
theorem dX1_pass_129 : decode cX1_pass 129 = .ok (.goto (-46), 3) := by decide +kernel
theorem dX1_pass_132 : decode cX1_pass 132 = .ok (.aload_n 1, 1) := by decide +kernel
theorem dX1_pass_133 : decode cX1_pass 133 = .ok (.sipush 999, 3) := by decide +kernel
theorem dX1_pass_136 : decode cX1_pass 136 = .ok (.aload_n 1, 1) := by decide +kernel
theorem dX1_pass_137 : decode cX1_pass 137 = .ok (.getfield 63, 3) := by decide +kernel
theorem dX1_pass_140 : decode cX1_pass 140 = .ok (.iconst 1, 1) := by decide +kernel
theorem dX1_pass_141 : decode cX1_pass 141 = .ok (.iadd, 1) := by decide +kernel
theorem dX1_pass_142 : decode cX1_pass 142 = .ok (.invokestatic 38, 3) := by decide +kernel
theorem dX1_pass_145 : decode cX1_pass 145 = .ok (.putfield 63, 3) := by decide +kernel
theorem dX1_pass_148 : decode cX1_pass 148 = .ok (.iload_n 2, 1) := by decide +kernel
theorem dX1_pass_149 : decode cX1_pass 149 = .ok (.ireturn, 1) := by decide +kernel
set_option maxRecDepth 20000 in
theorem ggX1_turnsIn_X5_stands : GoodIn wsX1_turnsIn wsX5_stands := goodIn_r _ [7, 8, 110, 111, 112, 113, 114, 115, 116, 117, 118] (by decide +kernel) (by decide +kernel)
set_option maxRecDepth 20000 in
theorem gX1_turnsIn_X5_stands : GoodIn wsX1_turnsIn (wsV RX1 66 RX5 yX5_stands wsX5_stands) := goodIn_app (goodIn_of _ (by decide +kernel)) ggX1_turnsIn_X5_stands
set_option maxRecDepth 20000 in
theorem ggX1_turnsIn_X10_heatIn : GoodIn wsX1_turnsIn wsX10_heatIn := goodIn_r _ [13, 14, 15, 16, 17, 18, 19, 20, 21, 22, 23, 24, 119, 120, 121, 122, 123, 124, 125, 126, 127, 128, 129, 130, 91, 92, 93, 94, 95, 96, 97, 98, 99, 100, 101, 102, 103, 104, 105, 106, 107, 108, 109] (by decide +kernel) (by decide +kernel)
set_option maxRecDepth 20000 in
theorem gX1_turnsIn_X10_heatIn : GoodIn wsX1_turnsIn (wsV RX1 73 RX10 yX10_heatIn wsX10_heatIn) := goodIn_app (goodIn_of _ (by decide +kernel)) ggX1_turnsIn_X10_heatIn
set_option maxRecDepth 20000 in
theorem ggX1_turnsIn_X5_isGone : GoodIn wsX1_turnsIn wsX5_isGone := goodIn_r _ [28, 8, 29, 110, 111, 112, 113, 114, 115, 116, 117, 118] (by decide +kernel) (by decide +kernel)
set_option maxRecDepth 20000 in
theorem gX1_turnsIn_X5_isGone : GoodIn wsX1_turnsIn (wsV RX1 77 RX5 yX5_isGone wsX5_isGone) := goodIn_app (goodIn_of _ (by decide +kernel)) ggX1_turnsIn_X5_isGone
set_option maxRecDepth 20000 in
theorem ggX1_turnsIn_X10_see : GoodIn wsX1_turnsIn wsX10_see := goodIn_r _ [33, 34, 35, 36, 37, 38, 39, 40, 41, 42, 43, 6, 44, 45, 46, 47, 48, 49, 50, 51, 52, 53, 29, 54, 55, 56, 57, 58, 59, 60, 119, 120, 121, 122, 123, 124, 125, 126, 127, 128, 129, 130, 110, 111, 112, 113, 114, 115, 116, 117, 118] (by decide +kernel) (by decide +kernel)
set_option maxRecDepth 20000 in
theorem gX1_turnsIn_X10_see : GoodIn wsX1_turnsIn (wsV RX1 83 RX10 yX10_see wsX10_see) := goodIn_app (goodIn_of _ (by decide +kernel)) ggX1_turnsIn_X10_see
set_option maxRecDepth 20000 in
theorem ggX1_turnsIn_X10_turns : GoodIn wsX1_turnsIn wsX10_turns := goodIn_r _ [64, 38, 65, 66, 15, 34, 37, 67, 68, 69, 70, 71, 72, 73, 74, 75, 10, 11, 12, 13, 14, 16, 17, 18, 19, 20, 21, 22, 23, 24, 76, 77, 78, 79, 80, 81, 82, 83, 84, 35, 36, 39, 40, 85, 86, 87, 119, 120, 121, 122, 123, 124, 125, 126, 127, 128, 129, 130, 91, 92, 93, 94, 95, 96, 97, 98, 99, 100, 101, 102, 103, 104, 105, 106, 107, 108, 109] (by decide +kernel) (by decide +kernel)
set_option maxRecDepth 20000 in
theorem gX1_turnsIn_X10_turns : GoodIn wsX1_turnsIn (wsV RX1 87 RX10 yX10_turns wsX10_turns) := goodIn_app (goodIn_of _ (by decide +kernel)) ggX1_turnsIn_X10_turns
theorem dX1_turnsIn_0 : decode cX1_turnsIn 0 = .ok (.aload_n 1, 1) := by decide +kernel
theorem dX1_turnsIn_1 : decode cX1_turnsIn 1 = .ok (.iload_n 2, 1) := by decide +kernel
theorem dX1_turnsIn_2 : decode cX1_turnsIn 2 = .ok (.invokevirtual 66, 3) := by decide +kernel
theorem dX1_turnsIn_5 : decode cX1_turnsIn 5 = .ok (.ifCond .eq 23, 3) := by decide +kernel
theorem dX1_turnsIn_8 : decode cX1_turnsIn 8 = .ok (.aload_n 0, 1) := by decide +kernel
theorem dX1_turnsIn_9 : decode cX1_turnsIn 9 = .ok (.getfield 21, 3) := by decide +kernel
theorem dX1_turnsIn_12 : decode cX1_turnsIn 12 = .ok (.getfield 70, 3) := by decide +kernel
theorem dX1_turnsIn_15 : decode cX1_turnsIn 15 = .ok (.aload_n 0, 1) := by decide +kernel
theorem dX1_turnsIn_16 : decode cX1_turnsIn 16 = .ok (.getfield 9, 3) := by decide +kernel
theorem dX1_turnsIn_19 : decode cX1_turnsIn 19 = .ok (.aload_n 1, 1) := by decide +kernel
theorem dX1_turnsIn_20 : decode cX1_turnsIn 20 = .ok (.getfield 63, 3) := by decide +kernel
theorem dX1_turnsIn_23 : decode cX1_turnsIn 23 = .ok (.invokevirtual 73, 3) := by decide +kernel
theorem dX1_turnsIn_26 : decode cX1_turnsIn 26 = .ok (.iadd, 1) := by decide +kernel
theorem dX1_turnsIn_27 : decode cX1_turnsIn 27 = .ok (.ireturn, 1) := by decide +kernel
theorem dX1_turnsIn_28 : decode cX1_turnsIn 28 = .ok (.aload_n 1, 1) := by decide +kernel
theorem dX1_turnsIn_29 : decode cX1_turnsIn 29 = .ok (.iload_n 2, 1) := by decide +kernel
theorem dX1_turnsIn_30 : decode cX1_turnsIn 30 = .ok (.invokevirtual 77, 3) := by decide +kernel
theorem dX1_turnsIn_33 : decode cX1_turnsIn 33 = .ok (.ifCond .eq 5, 3) := by decide +kernel
theorem dX1_turnsIn_36 : decode cX1_turnsIn 36 = .ok (.iconst 0, 1) := by decide +kernel
theorem dX1_turnsIn_37 : decode cX1_turnsIn 37 = .ok (.ireturn, 1) := by decide +kernel
theorem dX1_turnsIn_38 : decode cX1_turnsIn 38 = .ok (.aload_n 0, 1) := by decide +kernel
theorem dX1_turnsIn_39 : decode cX1_turnsIn 39 = .ok (.getfield 9, 3) := by decide +kernel
theorem dX1_turnsIn_42 : decode cX1_turnsIn 42 = .ok (.aload_n 1, 1) := by decide +kernel
theorem dX1_turnsIn_43 : decode cX1_turnsIn 43 = .ok (.aload_n 1, 1) := by decide +kernel
theorem dX1_turnsIn_44 : decode cX1_turnsIn 44 = .ok (.getfield 80, 3) := by decide +kernel
theorem dX1_turnsIn_47 : decode cX1_turnsIn 47 = .ok (.iload_n 2, 1) := by decide +kernel
theorem dX1_turnsIn_48 : decode cX1_turnsIn 48 = .ok (.iaload, 1) := by decide +kernel
theorem dX1_turnsIn_49 : decode cX1_turnsIn 49 = .ok (.iload_n 2, 1) := by decide +kernel
theorem dX1_turnsIn_50 : decode cX1_turnsIn 50 = .ok (.invokevirtual 83, 3) := by decide +kernel
theorem dX1_turnsIn_53 : decode cX1_turnsIn 53 = .ok (.aload_n 0, 1) := by decide +kernel
theorem dX1_turnsIn_54 : decode cX1_turnsIn 54 = .ok (.getfield 9, 3) := by decide +kernel
theorem dX1_turnsIn_57 : decode cX1_turnsIn 57 = .ok (.invokevirtual 87, 3) := by decide +kernel
theorem dX1_turnsIn_60 : decode cX1_turnsIn 60 = .ok (.ireturn, 1) := by decide +kernel
set_option maxRecDepth 20000 in
theorem ggX1_passSeveral_X1_pass : GoodIn wsX1_passSeveral wsX1_pass := goodIn_r _ [5, 6, 7, 8, 9, 10, 11, 12, 13, 14, 15, 16, 4, 17, 18, 19, 20, 21, 22, 23, 24, 25, 26, 27, 28, 29, 30, 31, 32, 33, 34, 35, 36, 37, 38, 39, 40, 41, 42, 43, 44, 45, 46, 47, 48, 49, 50, 51, 52, 53, 54, 55, 56, 57, 58, 59, 60, 61, 62, 63, 64, 65, 66, 67, 68, 69, 70, 71, 72, 73, 74, 75, 76, 77, 78, 79, 80, 81, 82, 83, 84, 85, 86, 87, 88, 89, 90, 91, 92, 93, 94, 95, 96, 97, 98, 99, 100, 101, 102, 103, 104, 105, 106, 107, 108, 109, 110, 111, 112, 113, 114, 115, 116, 117, 118, 119, 120, 121, 122, 123, 124, 125, 126, 127, 128, 129, 130, 131, 132, 133, 134, 135, 136, 137, 138, 139, 140, 141, 142, 143, 144, 145, 146, 147, 148, 149, 150, 151, 152] (by decide +kernel) (by decide +kernel)
set_option maxRecDepth 20000 in
theorem gX1_passSeveral_X1_pass : GoodIn wsX1_passSeveral (wsV RX1 91 RX1 yX1_pass wsX1_pass) := goodIn_app (goodIn_of _ (by decide +kernel)) ggX1_passSeveral_X1_pass
theorem dX1_passSeveral_0 : decode cX1_passSeveral 0 = .ok (.iconst 0, 1) := by decide +kernel
theorem dX1_passSeveral_1 : decode cX1_passSeveral 1 = .ok (.istore_n 3, 1) := by decide +kernel
theorem dX1_passSeveral_2 : decode cX1_passSeveral 2 = .ok (.iload_n 3, 1) := by decide +kernel
theorem dX1_passSeveral_3 : decode cX1_passSeveral 3 = .ok (.iload_n 2, 1) := by decide +kernel
theorem dX1_passSeveral_4 : decode cX1_passSeveral 4 = .ok (.if_icmp .ge 15, 3) := by decide +kernel
theorem dX1_passSeveral_7 : decode cX1_passSeveral 7 = .ok (.aload_n 0, 1) := by decide +kernel
theorem dX1_passSeveral_8 : decode cX1_passSeveral 8 = .ok (.aload_n 1, 1) := by decide +kernel
theorem dX1_passSeveral_9 : decode cX1_passSeveral 9 = .ok (.invokevirtual 91, 3) := by decide +kernel
theorem dX1_passSeveral_12 : decode cX1_passSeveral 12 = .ok (.pop, 1) := by decide +kernel
theorem dX1_passSeveral_13 : decode cX1_passSeveral 13 = .ok (.iinc 3 1, 3) := by decide +kernel
theorem dX1_passSeveral_16 : decode cX1_passSeveral 16 = .ok (.goto (-14), 3) := by decide +kernel
theorem dX1_passSeveral_19 : decode cX1_passSeveral 19 = .ok (.return_, 1) := by decide +kernel
set_option maxRecDepth 20000 in
theorem ggX1_passByDraws_X1_drawRoads : GoodIn wsX1_passByDraws wsX1_drawRoads := goodIn_r _ [5, 6, 7, 8, 9, 10, 11, 12, 13, 14, 15, 4, 16, 17, 18, 19, 20, 21, 22, 23, 24, 25, 26, 27, 28, 29, 30, 31, 32, 33, 34, 35, 36, 37, 38, 39, 40, 160, 161, 162, 163, 164, 165, 166, 167, 168, 169, 170, 171, 172, 173, 174, 175, 176, 177, 178, 179, 180, 181, 182, 183, 184, 185, 186, 187, 188, 189, 190] (by decide +kernel) (by decide +kernel)
set_option maxRecDepth 20000 in
theorem gX1_passByDraws_X1_drawRoads : GoodIn wsX1_passByDraws (wsV RX1 95 RX1 yX1_drawRoads wsX1_drawRoads) := goodIn_app (goodIn_of _ (by decide +kernel)) ggX1_passByDraws_X1_drawRoads
set_option maxRecDepth 20000 in
theorem ggX1_passByDraws_X1_drawHolders : GoodIn wsX1_passByDraws wsX1_drawHolders := goodIn_r _ [44, 6, 45, 46, 47, 10, 48, 49, 13, 14, 15, 4, 16, 17, 18, 19, 20, 21, 50, 51, 52, 53, 26, 54, 55, 56, 57, 58, 27, 8, 9, 11, 12, 59, 60, 61, 62, 63, 64, 65, 66, 67, 68, 69, 70, 71, 72, 73, 74, 75, 76, 77, 78, 160, 161, 162, 163, 164, 165, 166, 167, 168, 169, 170, 171, 172, 173, 174, 175, 176, 177, 178, 179, 180, 181, 182, 183, 184, 185, 186, 187, 188, 189, 190] (by decide +kernel) (by decide +kernel)
set_option maxRecDepth 20000 in
theorem gX1_passByDraws_X1_drawHolders : GoodIn wsX1_passByDraws (wsV RX1 99 RX1 yX1_drawHolders wsX1_drawHolders) := goodIn_app (goodIn_of _ (by decide +kernel)) ggX1_passByDraws_X1_drawHolders
set_option maxRecDepth 20000 in
theorem ggX1_passByDraws_X1_pass : GoodIn wsX1_passByDraws wsX1_pass := goodIn_r _ [82, 6, 83, 84, 85, 86, 87, 88, 89, 90, 91, 92, 4, 93, 94, 45, 46, 47, 10, 48, 49, 95, 96, 97, 98, 99, 100, 101, 102, 103, 104, 31, 105, 106, 107, 108, 109, 110, 111, 112, 113, 67, 114, 115, 116, 117, 118, 119, 120, 121, 122, 123, 124, 125, 8, 9, 11, 12, 126, 60, 61, 62, 63, 64, 65, 66, 68, 69, 70, 71, 72, 73, 74, 127, 128, 129, 130, 131, 132, 133, 134, 135, 136, 137, 138, 139, 140, 141, 142, 143, 144, 145, 146, 147, 148, 149, 150, 151, 152, 153, 154, 155, 156, 157, 158, 159, 160, 161, 162, 163, 164, 165, 166, 167, 168, 169, 170, 171, 172, 173, 174, 175, 176, 177, 178, 179, 180, 181, 182, 183, 184, 185, 186, 187, 188, 189, 190, 191, 192, 193, 194, 195, 196, 197, 198, 199, 200, 201, 202] (by decide +kernel) (by decide +kernel)
set_option maxRecDepth 20000 in
theorem gX1_passByDraws_X1_pass : GoodIn wsX1_passByDraws (wsV RX1 91 RX1 yX1_pass wsX1_pass) := goodIn_app (goodIn_of _ (by decide +kernel)) ggX1_passByDraws_X1_pass
theorem dX1_passByDraws_0 : decode cX1_passByDraws 0 = .ok (.iconst 0, 1) := by decide +kernel
theorem dX1_passByDraws_1 : decode cX1_passByDraws 1 = .ok (.istore_n 3, 1) := by decide +kernel
theorem dX1_passByDraws_2 : decode cX1_passByDraws 2 = .ok (.iload_n 3, 1) := by decide +kernel
theorem dX1_passByDraws_3 : decode cX1_passByDraws 3 = .ok (.iload_n 2, 1) := by decide +kernel
theorem dX1_passByDraws_4 : decode cX1_passByDraws 4 = .ok (.if_icmp .ge 25, 3) := by decide +kernel
theorem dX1_passByDraws_7 : decode cX1_passByDraws 7 = .ok (.aload_n 0, 1) := by decide +kernel
theorem dX1_passByDraws_8 : decode cX1_passByDraws 8 = .ok (.aload_n 1, 1) := by decide +kernel
theorem dX1_passByDraws_9 : decode cX1_passByDraws 9 = .ok (.invokevirtual 95, 3) := by decide +kernel
theorem dX1_passByDraws_12 : decode cX1_passByDraws 12 = .ok (.aload_n 0, 1) := by decide +kernel
theorem dX1_passByDraws_13 : decode cX1_passByDraws 13 = .ok (.aload_n 1, 1) := by decide +kernel
theorem dX1_passByDraws_14 : decode cX1_passByDraws 14 = .ok (.invokevirtual 99, 3) := by decide +kernel
theorem dX1_passByDraws_17 : decode cX1_passByDraws 17 = .ok (.aload_n 0, 1) := by decide +kernel
theorem dX1_passByDraws_18 : decode cX1_passByDraws 18 = .ok (.aload_n 1, 1) := by decide +kernel
theorem dX1_passByDraws_19 : decode cX1_passByDraws 19 = .ok (.invokevirtual 91, 3) := by decide +kernel
theorem dX1_passByDraws_22 : decode cX1_passByDraws 22 = .ok (.pop, 1) := by decide +kernel
theorem dX1_passByDraws_23 : decode cX1_passByDraws 23 = .ok (.iinc 3 1, 3) := by decide +kernel
theorem dX1_passByDraws_26 : decode cX1_passByDraws 26 = .ok (.goto (-24), 3) := by decide +kernel
theorem dX1_passByDraws_29 : decode cX1_passByDraws 29 = .ok (.return_, 1) := by decide +kernel
theorem dX1_draw_0 : decode cX1_draw 0 = .ok (.aload_n 0, 1) := by decide +kernel
theorem dX1_draw_1 : decode cX1_draw 1 = .ok (.aload_n 0, 1) := by decide +kernel
theorem dX1_draw_2 : decode cX1_draw 2 = .ok (.getfield 102, 3) := by decide +kernel
theorem dX1_draw_5 : decode cX1_draw 5 = .ok (.i2l, 1) := by decide +kernel
theorem dX1_draw_6 : decode cX1_draw 6 = .ok (.ldc2_w 105, 3) := by decide +kernel
theorem dX1_draw_9 : decode cX1_draw 9 = .ok (.lmul, 1) := by decide +kernel
theorem dX1_draw_10 : decode cX1_draw 10 = .ok (.ldc2_w 107, 3) := by decide +kernel
theorem dX1_draw_13 : decode cX1_draw 13 = .ok (.ladd, 1) := by decide +kernel
theorem dX1_draw_14 : decode cX1_draw 14 = .ok (.ldc2_w 109, 3) := by decide +kernel
theorem dX1_draw_17 : decode cX1_draw 17 = .ok (.land, 1) := by decide +kernel
theorem dX1_draw_18 : decode cX1_draw 18 = .ok (.l2i, 1) := by decide +kernel
theorem dX1_draw_19 : decode cX1_draw 19 = .ok (.putfield 102, 3) := by decide +kernel
theorem dX1_draw_22 : decode cX1_draw 22 = .ok (.aload_n 0, 1) := by decide +kernel
theorem dX1_draw_23 : decode cX1_draw 23 = .ok (.getfield 102, 3) := by decide +kernel
theorem dX1_draw_26 : decode cX1_draw 26 = .ok (.ldc 111, 2) := by decide +kernel
theorem dX1_draw_28 : decode cX1_draw 28 = .ok (.idiv, 1) := by decide +kernel
theorem dX1_draw_29 : decode cX1_draw 29 = .ok (.ireturn, 1) := by decide +kernel
set_option maxRecDepth 20000 in
theorem ggX1_drawRoads_X5_isAtPlace : GoodIn wsX1_drawRoads wsX5_isAtPlace := goodIn_r _ [6, 7, 59, 60, 61, 62, 63, 64, 65, 66, 67] (by decide +kernel) (by decide +kernel)
set_option maxRecDepth 20000 in
theorem gX1_drawRoads_X5_isAtPlace : GoodIn wsX1_drawRoads (wsV RX1 112 RX5 yX5_isAtPlace wsX5_isAtPlace) := goodIn_app (goodIn_of _ (by decide +kernel)) ggX1_drawRoads_X5_isAtPlace
set_option maxRecDepth 20000 in
theorem ggX1_drawRoads_X1_draw : GoodIn wsX1_drawRoads wsX1_draw := goodIn_r _ [12, 13, 14, 15, 16, 17, 37, 38, 39] (by decide +kernel) (by decide +kernel)
set_option maxRecDepth 20000 in
theorem gX1_drawRoads_X1_draw : GoodIn wsX1_drawRoads (wsV RX1 118 RX1 yX1_draw wsX1_draw) := goodIn_app (goodIn_of _ (by decide +kernel)) ggX1_drawRoads_X1_draw
set_option maxRecDepth 20000 in
theorem ggX1_drawRoads_X5_roadFor : GoodIn wsX1_drawRoads wsX5_roadFor := goodIn_r _ [21, 22, 23, 3, 4, 5, 6, 7, 24, 25, 26, 27, 28, 29, 30, 31, 32, 59, 60, 61, 62, 63, 64, 65, 66, 67, 40, 41, 42, 43, 44, 45, 46, 47, 48, 49, 50, 51, 52, 53, 54, 55, 56, 57, 58] (by decide +kernel) (by decide +kernel)
set_option maxRecDepth 20000 in
theorem gX1_drawRoads_X5_roadFor : GoodIn wsX1_drawRoads (wsV RX1 121 RX5 yX5_roadFor wsX5_roadFor) := goodIn_app (goodIn_of _ (by decide +kernel)) ggX1_drawRoads_X5_roadFor
set_option maxRecDepth 20000 in
theorem ggX1_drawRoads_X5_setOut : GoodIn wsX1_drawRoads wsX5_setOut := goodIn_r _ [36, 22, 7, 59, 60, 61, 62, 63, 64, 65, 66, 67] (by decide +kernel) (by decide +kernel)
set_option maxRecDepth 20000 in
theorem gX1_drawRoads_X5_setOut : GoodIn wsX1_drawRoads (wsV RX1 125 RX5 yX5_setOut wsX5_setOut) := goodIn_app (goodIn_of _ (by decide +kernel)) ggX1_drawRoads_X5_setOut
theorem dX1_drawRoads_0 : decode cX1_drawRoads 0 = .ok (.iconst 0, 1) := by decide +kernel
theorem dX1_drawRoads_1 : decode cX1_drawRoads 1 = .ok (.istore_n 2, 1) := by decide +kernel
theorem dX1_drawRoads_2 : decode cX1_drawRoads 2 = .ok (.iload_n 2, 1) := by decide +kernel
theorem dX1_drawRoads_3 : decode cX1_drawRoads 3 = .ok (.aload_n 0, 1) := by decide +kernel
theorem dX1_drawRoads_4 : decode cX1_drawRoads 4 = .ok (.getfield 21, 3) := by decide +kernel
theorem dX1_drawRoads_7 : decode cX1_drawRoads 7 = .ok (.getfield 47, 3) := by decide +kernel
theorem dX1_drawRoads_10 : decode cX1_drawRoads 10 = .ok (.if_icmp .ge 65, 3) := by decide +kernel
theorem dX1_drawRoads_13 : decode cX1_drawRoads 13 = .ok (.aload_n 1, 1) := by decide +kernel
theorem dX1_drawRoads_14 : decode cX1_drawRoads 14 = .ok (.iload_n 2, 1) := by decide +kernel
theorem dX1_drawRoads_15 : decode cX1_drawRoads 15 = .ok (.invokevirtual 112, 3) := by decide +kernel
theorem dX1_drawRoads_18 : decode cX1_drawRoads 18 = .ok (.ifCond .eq 51, 3) := by decide +kernel
theorem dX1_drawRoads_21 : decode cX1_drawRoads 21 = .ok (.aload_n 0, 1) := by decide +kernel
theorem dX1_drawRoads_22 : decode cX1_drawRoads 22 = .ok (.getfield 21, 3) := by decide +kernel
theorem dX1_drawRoads_25 : decode cX1_drawRoads 25 = .ok (.getfield 115, 3) := by decide +kernel
theorem dX1_drawRoads_28 : decode cX1_drawRoads 28 = .ok (.ifCond .le 41, 3) := by decide +kernel
theorem dX1_drawRoads_31 : decode cX1_drawRoads 31 = .ok (.aload_n 0, 1) := by decide +kernel
theorem dX1_drawRoads_32 : decode cX1_drawRoads 32 = .ok (.invokevirtual 118, 3) := by decide +kernel
theorem dX1_drawRoads_35 : decode cX1_drawRoads 35 = .ok (.aload_n 0, 1) := by decide +kernel
theorem dX1_drawRoads_36 : decode cX1_drawRoads 36 = .ok (.getfield 21, 3) := by decide +kernel
theorem dX1_drawRoads_39 : decode cX1_drawRoads 39 = .ok (.getfield 115, 3) := by decide +kernel
theorem dX1_drawRoads_42 : decode cX1_drawRoads 42 = .ok (.irem, 1) := by decide +kernel
theorem dX1_drawRoads_43 : decode cX1_drawRoads 43 = .ok (.istore_n 3, 1) := by decide +kernel
theorem dX1_drawRoads_44 : decode cX1_drawRoads 44 = .ok (.aload_n 1, 1) := by decide +kernel
theorem dX1_drawRoads_45 : decode cX1_drawRoads 45 = .ok (.aload_n 0, 1) := by decide +kernel
theorem dX1_drawRoads_46 : decode cX1_drawRoads 46 = .ok (.getfield 21, 3) := by decide +kernel
theorem dX1_drawRoads_49 : decode cX1_drawRoads 49 = .ok (.iload_n 2, 1) := by decide +kernel
theorem dX1_drawRoads_50 : decode cX1_drawRoads 50 = .ok (.iload_n 3, 1) := by decide +kernel
theorem dX1_drawRoads_51 : decode cX1_drawRoads 51 = .ok (.invokevirtual 121, 3) := by decide +kernel
theorem dX1_drawRoads_54 : decode cX1_drawRoads 54 = .ok (.istore 4, 2) := by decide +kernel
theorem dX1_drawRoads_56 : decode cX1_drawRoads 56 = .ok (.iload 4, 2) := by decide +kernel
theorem dX1_drawRoads_58 : decode cX1_drawRoads 58 = .ok (.ifCond .le 11, 3) := by decide +kernel
theorem dX1_drawRoads_61 : decode cX1_drawRoads 61 = .ok (.aload_n 1, 1) := by decide +kernel
theorem dX1_drawRoads_62 : decode cX1_drawRoads 62 = .ok (.iload_n 2, 1) := by decide +kernel
theorem dX1_drawRoads_63 : decode cX1_drawRoads 63 = .ok (.iload_n 3, 1) := by decide +kernel
theorem dX1_drawRoads_64 : decode cX1_drawRoads 64 = .ok (.iload 4, 2) := by decide +kernel
theorem dX1_drawRoads_66 : decode cX1_drawRoads 66 = .ok (.invokevirtual 125, 3) := by decide +kernel
theorem dX1_drawRoads_69 : decode cX1_drawRoads 69 = .ok (.iinc 2 1, 3) := by decide +kernel
theorem dX1_drawRoads_72 : decode cX1_drawRoads 72 = .ok (.goto (-70), 3) := by decide +kernel
theorem dX1_drawRoads_75 : decode cX1_drawRoads 75 = .ok (.return_, 1) := by decide +kernel
set_option maxRecDepth 20000 in
theorem ggX1_drawHolders_X5_stands : GoodIn wsX1_drawHolders wsX5_stands := goodIn_r _ [6, 7, 75, 76, 77, 78, 79, 80, 81, 82, 83] (by decide +kernel) (by decide +kernel)
set_option maxRecDepth 20000 in
theorem gX1_drawHolders_X5_stands : GoodIn wsX1_drawHolders (wsV RX1 66 RX5 yX5_stands wsX5_stands) := goodIn_app (goodIn_of _ (by decide +kernel)) ggX1_drawHolders_X5_stands
set_option maxRecDepth 20000 in
theorem ggX1_drawHolders_X1_draw : GoodIn wsX1_drawHolders wsX1_draw := goodIn_r _ [12, 13, 14, 15, 16, 17, 53, 54, 55] (by decide +kernel) (by decide +kernel)
set_option maxRecDepth 20000 in
theorem gX1_drawHolders_X1_draw : GoodIn wsX1_drawHolders (wsV RX1 118 RX1 yX1_draw wsX1_draw) := goodIn_app (goodIn_of _ (by decide +kernel)) ggX1_drawHolders_X1_draw
set_option maxRecDepth 20000 in
theorem ggX1_drawHolders_X5_canTake : GoodIn wsX1_drawHolders wsX5_canTake := goodIn_r _ [21, 7, 22, 23, 3, 4, 5, 6, 24, 25, 26, 27, 28, 29, 30, 31, 32, 33, 34, 35, 36, 37, 38, 39, 40, 41, 42, 43, 44, 45, 46, 47, 48, 75, 76, 77, 78, 79, 80, 81, 82, 83] (by decide +kernel) (by decide +kernel)
set_option maxRecDepth 20000 in
theorem gX1_drawHolders_X5_canTake : GoodIn wsX1_drawHolders (wsV RX1 129 RX5 yX5_canTake wsX5_canTake) := goodIn_app (goodIn_of _ (by decide +kernel)) ggX1_drawHolders_X5_canTake
set_option maxRecDepth 20000 in
theorem ggX1_drawHolders_X5_giveTo : GoodIn wsX1_drawHolders wsX5_giveTo := goodIn_r _ [52, 41, 7, 75, 76, 77, 78, 79, 80, 81, 82, 83] (by decide +kernel) (by decide +kernel)
set_option maxRecDepth 20000 in
theorem gX1_drawHolders_X5_giveTo : GoodIn wsX1_drawHolders (wsV RX1 133 RX5 yX5_giveTo wsX5_giveTo) := goodIn_app (goodIn_of _ (by decide +kernel)) ggX1_drawHolders_X5_giveTo
theorem dX1_drawHolders_0 : decode cX1_drawHolders 0 = .ok (.iconst 0, 1) := by decide +kernel
theorem dX1_drawHolders_1 : decode cX1_drawHolders 1 = .ok (.istore_n 2, 1) := by decide +kernel
theorem dX1_drawHolders_2 : decode cX1_drawHolders 2 = .ok (.iload_n 2, 1) := by decide +kernel
theorem dX1_drawHolders_3 : decode cX1_drawHolders 3 = .ok (.aload_n 0, 1) := by decide +kernel
theorem dX1_drawHolders_4 : decode cX1_drawHolders 4 = .ok (.getfield 21, 3) := by decide +kernel
theorem dX1_drawHolders_7 : decode cX1_drawHolders 7 = .ok (.getfield 22, 3) := by decide +kernel
theorem dX1_drawHolders_10 : decode cX1_drawHolders 10 = .ok (.if_icmp .ge 55, 3) := by decide +kernel
theorem dX1_drawHolders_13 : decode cX1_drawHolders 13 = .ok (.aload_n 1, 1) := by decide +kernel
theorem dX1_drawHolders_14 : decode cX1_drawHolders 14 = .ok (.iload_n 2, 1) := by decide +kernel
theorem dX1_drawHolders_15 : decode cX1_drawHolders 15 = .ok (.invokevirtual 66, 3) := by decide +kernel
theorem dX1_drawHolders_18 : decode cX1_drawHolders 18 = .ok (.ifCond .eq 41, 3) := by decide +kernel
theorem dX1_drawHolders_21 : decode cX1_drawHolders 21 = .ok (.aload_n 0, 1) := by decide +kernel
theorem dX1_drawHolders_22 : decode cX1_drawHolders 22 = .ok (.getfield 21, 3) := by decide +kernel
theorem dX1_drawHolders_25 : decode cX1_drawHolders 25 = .ok (.getfield 47, 3) := by decide +kernel
theorem dX1_drawHolders_28 : decode cX1_drawHolders 28 = .ok (.ifCond .le 31, 3) := by decide +kernel
theorem dX1_drawHolders_31 : decode cX1_drawHolders 31 = .ok (.aload_n 0, 1) := by decide +kernel
theorem dX1_drawHolders_32 : decode cX1_drawHolders 32 = .ok (.invokevirtual 118, 3) := by decide +kernel
theorem dX1_drawHolders_35 : decode cX1_drawHolders 35 = .ok (.aload_n 0, 1) := by decide +kernel
theorem dX1_drawHolders_36 : decode cX1_drawHolders 36 = .ok (.getfield 21, 3) := by decide +kernel
theorem dX1_drawHolders_39 : decode cX1_drawHolders 39 = .ok (.getfield 47, 3) := by decide +kernel
theorem dX1_drawHolders_42 : decode cX1_drawHolders 42 = .ok (.irem, 1) := by decide +kernel
theorem dX1_drawHolders_43 : decode cX1_drawHolders 43 = .ok (.istore_n 3, 1) := by decide +kernel
theorem dX1_drawHolders_44 : decode cX1_drawHolders 44 = .ok (.aload_n 1, 1) := by decide +kernel
theorem dX1_drawHolders_45 : decode cX1_drawHolders 45 = .ok (.iload_n 3, 1) := by decide +kernel
theorem dX1_drawHolders_46 : decode cX1_drawHolders 46 = .ok (.iload_n 2, 1) := by decide +kernel
theorem dX1_drawHolders_47 : decode cX1_drawHolders 47 = .ok (.invokevirtual 129, 3) := by decide +kernel
theorem dX1_drawHolders_50 : decode cX1_drawHolders 50 = .ok (.ifCond .eq 9, 3) := by decide +kernel
theorem dX1_drawHolders_53 : decode cX1_drawHolders 53 = .ok (.aload_n 1, 1) := by decide +kernel
theorem dX1_drawHolders_54 : decode cX1_drawHolders 54 = .ok (.iload_n 3, 1) := by decide +kernel
theorem dX1_drawHolders_55 : decode cX1_drawHolders 55 = .ok (.iload_n 2, 1) := by decide +kernel
theorem dX1_drawHolders_56 : decode cX1_drawHolders 56 = .ok (.invokevirtual 133, 3) := by decide +kernel
theorem dX1_drawHolders_59 : decode cX1_drawHolders 59 = .ok (.iinc 2 1, 3) := by decide +kernel
theorem dX1_drawHolders_62 : decode cX1_drawHolders 62 = .ok (.goto (-60), 3) := by decide +kernel
theorem dX1_drawHolders_65 : decode cX1_drawHolders 65 = .ok (.return_, 1) := by decide +kernel
theorem dX2_init_0 : decode cX2_init 0 = .ok (.aload_n 0, 1) := by decide +kernel
theorem dX2_init_1 : decode cX2_init 1 = .ok (.invokespecial 3, 3) := by decide +kernel
theorem dX2_init_4 : decode cX2_init 4 = .ok (.aload_n 0, 1) := by decide +kernel
theorem dX2_init_5 : decode cX2_init 5 = .ok (.iconst 5, 1) := by decide +kernel
theorem dX2_init_6 : decode cX2_init 6 = .ok (.newarray .int, 2) := by decide +kernel
theorem dX2_init_8 : decode cX2_init 8 = .ok (.putfield 11, 3) := by decide +kernel
theorem dX2_init_11 : decode cX2_init 11 = .ok (.aload_n 0, 1) := by decide +kernel
theorem dX2_init_12 : decode cX2_init 12 = .ok (.iconst 5, 1) := by decide +kernel
theorem dX2_init_13 : decode cX2_init 13 = .ok (.newarray .int, 2) := by decide +kernel
theorem dX2_init_15 : decode cX2_init 15 = .ok (.putfield 15, 3) := by decide +kernel
theorem dX2_init_18 : decode cX2_init 18 = .ok (.aload_n 0, 1) := by decide +kernel
theorem dX2_init_19 : decode cX2_init 19 = .ok (.sipush 6000, 3) := by decide +kernel
theorem dX2_init_22 : decode cX2_init 22 = .ok (.newarray .int, 2) := by decide +kernel
theorem dX2_init_24 : decode cX2_init 24 = .ok (.putfield 18, 3) := by decide +kernel
theorem dX2_init_27 : decode cX2_init 27 = .ok (.aload_n 0, 1) := by decide +kernel
theorem dX2_init_28 : decode cX2_init 28 = .ok (.sipush 6000, 3) := by decide +kernel
theorem dX2_init_31 : decode cX2_init 31 = .ok (.newarray .int, 2) := by decide +kernel
theorem dX2_init_33 : decode cX2_init 33 = .ok (.putfield 21, 3) := by decide +kernel
theorem dX2_init_36 : decode cX2_init 36 = .ok (.aload_n 0, 1) := by decide +kernel
theorem dX2_init_37 : decode cX2_init 37 = .ok (.aload_n 1, 1) := by decide +kernel
theorem dX2_init_38 : decode cX2_init 38 = .ok (.putfield 24, 3) := by decide +kernel
theorem dX2_init_41 : decode cX2_init 41 = .ok (.aload_n 0, 1) := by decide +kernel
theorem dX2_init_42 : decode cX2_init 42 = .ok (.aload_n 1, 1) := by decide +kernel
theorem dX2_init_43 : decode cX2_init 43 = .ok (.getfield 28, 3) := by decide +kernel
theorem dX2_init_46 : decode cX2_init 46 = .ok (.putfield 34, 3) := by decide +kernel
theorem dX2_init_49 : decode cX2_init 49 = .ok (.return_, 1) := by decide +kernel
set_option maxRecDepth 20000 in
theorem ggX2_setOut_X8_nextPlace : GoodIn wsX2_setOut wsX8_nextPlace := goodIn_r _ [14, 15, 16, 17, 18, 13, 19, 20, 21, 22, 23, 24, 25, 26, 27, 28, 41, 42, 43, 44, 45, 46, 47, 48, 49, 50, 51, 52, 53, 54, 55, 56, 57, 58, 59] (by decide +kernel) (by decide +kernel)
set_option maxRecDepth 20000 in
theorem gX2_setOut_X8_nextPlace : GoodIn wsX2_setOut (wsV RX2 42 RX8 yX8_nextPlace wsX8_nextPlace) := goodIn_app (goodIn_of _ (by decide +kernel)) ggX2_setOut_X8_nextPlace
set_option maxRecDepth 20000 in
theorem ggX2_setOut_X8_roadHours : GoodIn wsX2_setOut wsX8_roadHours := goodIn_r _ [19, 20, 21, 22, 13, 23, 41, 42, 43, 44, 45, 46, 47, 48, 49, 50, 51, 52, 53, 54, 55, 56, 57, 58, 59] (by decide +kernel) (by decide +kernel)
set_option maxRecDepth 20000 in
theorem gX2_setOut_X8_roadHours : GoodIn wsX2_setOut (wsV RX2 48 RX8 yX8_roadHours wsX8_roadHours) := goodIn_app (goodIn_of _ (by decide +kernel)) ggX2_setOut_X8_roadHours
theorem dX2_setOut_0 : decode cX2_setOut 0 = .ok (.aload_n 0, 1) := by decide +kernel
theorem dX2_setOut_1 : decode cX2_setOut 1 = .ok (.iload_n 1, 1) := by decide +kernel
theorem dX2_setOut_2 : decode cX2_setOut 2 = .ok (.putfield 35, 3) := by decide +kernel
theorem dX2_setOut_5 : decode cX2_setOut 5 = .ok (.aload_n 0, 1) := by decide +kernel
theorem dX2_setOut_6 : decode cX2_setOut 6 = .ok (.iconst 0, 1) := by decide +kernel
theorem dX2_setOut_7 : decode cX2_setOut 7 = .ok (.putfield 39, 3) := by decide +kernel
theorem dX2_setOut_10 : decode cX2_setOut 10 = .ok (.iload_n 2, 1) := by decide +kernel
theorem dX2_setOut_11 : decode cX2_setOut 11 = .ok (.istore 5, 2) := by decide +kernel
theorem dX2_setOut_13 : decode cX2_setOut 13 = .ok (.iload 4, 2) := by decide +kernel
theorem dX2_setOut_15 : decode cX2_setOut 15 = .ok (.istore 6, 2) := by decide +kernel
theorem dX2_setOut_17 : decode cX2_setOut 17 = .ok (.aload_n 0, 1) := by decide +kernel
theorem dX2_setOut_18 : decode cX2_setOut 18 = .ok (.getfield 39, 3) := by decide +kernel
theorem dX2_setOut_21 : decode cX2_setOut 21 = .ok (.iconst 5, 1) := by decide +kernel
theorem dX2_setOut_22 : decode cX2_setOut 22 = .ok (.if_icmp .ge 96, 3) := by decide +kernel
theorem dX2_setOut_25 : decode cX2_setOut 25 = .ok (.iload 5, 2) := by decide +kernel
theorem dX2_setOut_27 : decode cX2_setOut 27 = .ok (.iload_n 3, 1) := by decide +kernel
theorem dX2_setOut_28 : decode cX2_setOut 28 = .ok (.if_icmp .eq 90, 3) := by decide +kernel
theorem dX2_setOut_31 : decode cX2_setOut 31 = .ok (.aload_n 0, 1) := by decide +kernel
theorem dX2_setOut_32 : decode cX2_setOut 32 = .ok (.getfield 34, 3) := by decide +kernel
theorem dX2_setOut_35 : decode cX2_setOut 35 = .ok (.iload 5, 2) := by decide +kernel
theorem dX2_setOut_37 : decode cX2_setOut 37 = .ok (.iload_n 3, 1) := by decide +kernel
theorem dX2_setOut_38 : decode cX2_setOut 38 = .ok (.invokevirtual 42, 3) := by decide +kernel
theorem dX2_setOut_41 : decode cX2_setOut 41 = .ok (.istore 7, 2) := by decide +kernel
theorem dX2_setOut_43 : decode cX2_setOut 43 = .ok (.iload 7, 2) := by decide +kernel
theorem dX2_setOut_45 : decode cX2_setOut 45 = .ok (.iconst (-1), 1) := by decide +kernel
theorem dX2_setOut_46 : decode cX2_setOut 46 = .ok (.if_icmp .ne 4, 3) := by decide +kernel
theorem dX2_setOut_49 : decode cX2_setOut 49 = .ok (.return_, 1) := by decide +kernel
theorem dX2_setOut_50 : decode cX2_setOut 50 = .ok (.aload_n 0, 1) := by decide +kernel
theorem dX2_setOut_51 : decode cX2_setOut 51 = .ok (.getfield 11, 3) := by decide +kernel
theorem dX2_setOut_54 : decode cX2_setOut 54 = .ok (.aload_n 0, 1) := by decide +kernel
theorem dX2_setOut_55 : decode cX2_setOut 55 = .ok (.getfield 39, 3) := by decide +kernel
theorem dX2_setOut_58 : decode cX2_setOut 58 = .ok (.aload_n 0, 1) := by decide +kernel
theorem dX2_setOut_59 : decode cX2_setOut 59 = .ok (.getfield 34, 3) := by decide +kernel
theorem dX2_setOut_62 : decode cX2_setOut 62 = .ok (.iload 5, 2) := by decide +kernel
theorem dX2_setOut_64 : decode cX2_setOut 64 = .ok (.iload 7, 2) := by decide +kernel
theorem dX2_setOut_66 : decode cX2_setOut 66 = .ok (.invokevirtual 48, 3) := by decide +kernel
theorem dX2_setOut_69 : decode cX2_setOut 69 = .ok (.iastore, 1) := by decide +kernel
theorem dX2_setOut_70 : decode cX2_setOut 70 = .ok (.aload_n 0, 1) := by decide +kernel
theorem dX2_setOut_71 : decode cX2_setOut 71 = .ok (.getfield 15, 3) := by decide +kernel
theorem dX2_setOut_74 : decode cX2_setOut 74 = .ok (.aload_n 0, 1) := by decide +kernel
theorem dX2_setOut_75 : decode cX2_setOut 75 = .ok (.getfield 39, 3) := by decide +kernel
theorem dX2_setOut_78 : decode cX2_setOut 78 = .ok (.sipush 999, 3) := by decide +kernel
theorem dX2_setOut_81 : decode cX2_setOut 81 = .ok (.iload 6, 2) := by decide +kernel
theorem dX2_setOut_83 : decode cX2_setOut 83 = .ok (.invokestatic 51, 3) := by decide +kernel
theorem dX2_setOut_86 : decode cX2_setOut 86 = .ok (.iastore, 1) := by decide +kernel
theorem dX2_setOut_87 : decode cX2_setOut 87 = .ok (.iload 6, 2) := by decide +kernel
theorem dX2_setOut_89 : decode cX2_setOut 89 = .ok (.aload_n 0, 1) := by decide +kernel
theorem dX2_setOut_90 : decode cX2_setOut 90 = .ok (.getfield 11, 3) := by decide +kernel
theorem dX2_setOut_93 : decode cX2_setOut 93 = .ok (.aload_n 0, 1) := by decide +kernel
theorem dX2_setOut_94 : decode cX2_setOut 94 = .ok (.getfield 39, 3) := by decide +kernel
theorem dX2_setOut_97 : decode cX2_setOut 97 = .ok (.iaload, 1) := by decide +kernel
theorem dX2_setOut_98 : decode cX2_setOut 98 = .ok (.iadd, 1) := by decide +kernel
theorem dX2_setOut_99 : decode cX2_setOut 99 = .ok (.istore 6, 2) := by decide +kernel
theorem dX2_setOut_101 : decode cX2_setOut 101 = .ok (.iload 7, 2) := by decide +kernel
theorem dX2_setOut_103 : decode cX2_setOut 103 = .ok (.istore 5, 2) := by decide +kernel
theorem dX2_setOut_105 : decode cX2_setOut 105 = .ok (.aload_n 0, 1) := by decide +kernel
theorem dX2_setOut_106 : decode cX2_setOut 106 = .ok (.dup, 1) := by decide +kernel
theorem dX2_setOut_107 : decode cX2_setOut 107 = .ok (.getfield 39, 3) := by decide +kernel
theorem dX2_setOut_110 : decode cX2_setOut 110 = .ok (.iconst 1, 1) := by decide +kernel
theorem dX2_setOut_111 : decode cX2_setOut 111 = .ok (.iadd, 1) := by decide +kernel
theorem dX2_setOut_112 : decode cX2_setOut 112 = .ok (.putfield 39, 3) := by decide +kernel
theorem dX2_setOut_115 : decode cX2_setOut 115 = .ok (.goto (-98), 3) := by decide +kernel
theorem dX2_setOut_118 : decode cX2_setOut 118 = .ok (.return_, 1) := by decide +kernel
set_option maxRecDepth 20000 in
theorem ggX2_solve_J7_fill_fda19 : GoodIn wsX2_solve wsJ7_fill_fda19 := goodIn_r _ [9, 10, 11, 8, 12] (by decide +kernel) (by decide +kernel)
set_option maxRecDepth 20000 in
theorem gX2_solve_J7_fill_fda19 : GoodIn wsX2_solve (va_wsS RX2 65 yJ7_fill_fda19 wsJ7_fill_fda19) := goodIn_app (goodIn_of _ (by decide +kernel)) ggX2_solve_J7_fill_fda19
set_option maxRecDepth 20000 in
theorem ggX2_solve_X2_visit : GoodIn wsX2_solve wsX2_visit := goodIn_r _ [17, 4, 5, 2, 3, 18, 19, 20, 21, 22, 23, 24, 25, 26, 16, 27, 28, 29, 30, 31, 32, 33, 34, 35, 36, 37, 38, 39, 40, 41, 42, 43, 44, 45, 46, 47, 48, 49, 50, 51, 52, 53, 54, 55, 56, 57, 58, 59, 60, 61, 62, 63, 64, 65, 66, 67, 68, 69, 70, 71, 72, 73, 74, 75, 76, 77, 78, 79, 80, 81, 82, 83, 84, 85, 86, 87, 88, 13, 14, 15, 89, 90, 91, 92, 93, 94, 95, 96, 97, 98, 99, 100, 101, 102, 103, 104, 105, 106, 107, 108, 109, 110, 111, 112, 113, 114, 115, 116, 117, 118, 119, 120, 121, 122, 123, 124, 125, 126, 127, 128, 129, 130] (by decide +kernel) (by decide +kernel)
set_option maxRecDepth 20000 in
theorem gX2_solve_X2_visit : GoodIn wsX2_solve (wsV RX2 71 RX2 yX2_visit wsX2_visit) := goodIn_app (goodIn_of _ (by decide +kernel)) ggX2_solve_X2_visit
theorem dX2_solve_0 : decode cX2_solve 0 = .ok (.aload_n 0, 1) := by decide +kernel
theorem dX2_solve_1 : decode cX2_solve 1 = .ok (.iload_n 1, 1) := by decide +kernel
theorem dX2_solve_2 : decode cX2_solve 2 = .ok (.putfield 56, 3) := by decide +kernel
theorem dX2_solve_5 : decode cX2_solve 5 = .ok (.aload_n 0, 1) := by decide +kernel
theorem dX2_solve_6 : decode cX2_solve 6 = .ok (.iload_n 2, 1) := by decide +kernel
theorem dX2_solve_7 : decode cX2_solve 7 = .ok (.putfield 59, 3) := by decide +kernel
theorem dX2_solve_10 : decode cX2_solve 10 = .ok (.aload_n 0, 1) := by decide +kernel
theorem dX2_solve_11 : decode cX2_solve 11 = .ok (.iload_n 3, 1) := by decide +kernel
theorem dX2_solve_12 : decode cX2_solve 12 = .ok (.putfield 62, 3) := by decide +kernel
theorem dX2_solve_15 : decode cX2_solve 15 = .ok (.aload_n 0, 1) := by decide +kernel
theorem dX2_solve_16 : decode cX2_solve 16 = .ok (.getfield 18, 3) := by decide +kernel
theorem dX2_solve_19 : decode cX2_solve 19 = .ok (.iconst 0, 1) := by decide +kernel
theorem dX2_solve_20 : decode cX2_solve 20 = .ok (.aload_n 0, 1) := by decide +kernel
theorem dX2_solve_21 : decode cX2_solve 21 = .ok (.getfield 39, 3) := by decide +kernel
theorem dX2_solve_24 : decode cX2_solve 24 = .ok (.iconst 1, 1) := by decide +kernel
theorem dX2_solve_25 : decode cX2_solve 25 = .ok (.iadd, 1) := by decide +kernel
theorem dX2_solve_26 : decode cX2_solve 26 = .ok (.sipush 1000, 3) := by decide +kernel
theorem dX2_solve_29 : decode cX2_solve 29 = .ok (.imul, 1) := by decide +kernel
theorem dX2_solve_30 : decode cX2_solve 30 = .ok (.iconst (-1), 1) := by decide +kernel
theorem dX2_solve_31 : decode cX2_solve 31 = .ok (.invokestatic 65, 3) := by decide +kernel
theorem dX2_solve_34 : decode cX2_solve 34 = .ok (.aload_n 0, 1) := by decide +kernel
theorem dX2_solve_35 : decode cX2_solve 35 = .ok (.iconst 0, 1) := by decide +kernel
theorem dX2_solve_36 : decode cX2_solve 36 = .ok (.iload_n 1, 1) := by decide +kernel
theorem dX2_solve_37 : decode cX2_solve 37 = .ok (.invokevirtual 71, 3) := by decide +kernel
theorem dX2_solve_40 : decode cX2_solve 40 = .ok (.return_, 1) := by decide +kernel
set_option maxRecDepth 20000 in
theorem ggX2_carried_X10_suppose : GoodIn wsX2_carried wsX10_suppose := goodIn_r _ [9, 10, 11, 12, 13, 14, 15, 16, 76, 77, 78, 79, 80, 81, 82, 83, 84, 85, 86, 87] (by decide +kernel) (by decide +kernel)
set_option maxRecDepth 20000 in
theorem gX2_carried_X10_suppose : GoodIn wsX2_carried (wsV RX2 75 RX10 yX10_suppose wsX10_suppose) := goodIn_app (goodIn_of _ (by decide +kernel)) ggX2_carried_X10_suppose
set_option maxRecDepth 20000 in
theorem ggX2_carried_X10_holdFor : GoodIn wsX2_carried wsX10_holdFor := goodIn_r _ [20, 12, 21, 22, 23, 24, 13, 25, 10, 14, 26, 27, 28, 8, 29, 30, 31, 32, 33, 34, 35, 36, 37, 38, 39, 40, 41, 42, 43, 44, 45, 46, 47, 48, 49, 50, 51, 52, 53, 54, 55, 56, 57, 58, 59, 60, 61, 11, 15, 16, 62, 63, 64, 76, 77, 78, 79, 80, 81, 82, 83, 84, 85, 86, 87, 88, 89, 90, 91, 92, 93, 94, 95, 96, 97, 98, 99, 100, 101, 102, 103, 104, 105, 106] (by decide +kernel) (by decide +kernel)
set_option maxRecDepth 20000 in
theorem gX2_carried_X10_holdFor : GoodIn wsX2_carried (wsV RX2 82 RX10 yX10_holdFor wsX10_holdFor) := goodIn_app (goodIn_of _ (by decide +kernel)) ggX2_carried_X10_holdFor
theorem dX2_carried_0 : decode cX2_carried 0 = .ok (.aload_n 0, 1) := by decide +kernel
theorem dX2_carried_1 : decode cX2_carried 1 = .ok (.getfield 24, 3) := by decide +kernel
theorem dX2_carried_4 : decode cX2_carried 4 = .ok (.iload_n 2, 1) := by decide +kernel
theorem dX2_carried_5 : decode cX2_carried 5 = .ok (.aload_n 0, 1) := by decide +kernel
theorem dX2_carried_6 : decode cX2_carried 6 = .ok (.getfield 35, 3) := by decide +kernel
theorem dX2_carried_9 : decode cX2_carried 9 = .ok (.iload_n 3, 1) := by decide +kernel
theorem dX2_carried_10 : decode cX2_carried 10 = .ok (.aload_n 0, 1) := by decide +kernel
theorem dX2_carried_11 : decode cX2_carried 11 = .ok (.getfield 15, 3) := by decide +kernel
theorem dX2_carried_14 : decode cX2_carried 14 = .ok (.iload_n 1, 1) := by decide +kernel
theorem dX2_carried_15 : decode cX2_carried 15 = .ok (.iaload, 1) := by decide +kernel
theorem dX2_carried_16 : decode cX2_carried 16 = .ok (.invokevirtual 75, 3) := by decide +kernel
theorem dX2_carried_19 : decode cX2_carried 19 = .ok (.aload_n 0, 1) := by decide +kernel
theorem dX2_carried_20 : decode cX2_carried 20 = .ok (.getfield 24, 3) := by decide +kernel
theorem dX2_carried_23 : decode cX2_carried 23 = .ok (.iconst 1, 1) := by decide +kernel
theorem dX2_carried_24 : decode cX2_carried 24 = .ok (.putfield 79, 3) := by decide +kernel
theorem dX2_carried_27 : decode cX2_carried 27 = .ok (.aload_n 0, 1) := by decide +kernel
theorem dX2_carried_28 : decode cX2_carried 28 = .ok (.getfield 24, 3) := by decide +kernel
theorem dX2_carried_31 : decode cX2_carried 31 = .ok (.aload_n 0, 1) := by decide +kernel
theorem dX2_carried_32 : decode cX2_carried 32 = .ok (.getfield 11, 3) := by decide +kernel
theorem dX2_carried_35 : decode cX2_carried 35 = .ok (.iload_n 1, 1) := by decide +kernel
theorem dX2_carried_36 : decode cX2_carried 36 = .ok (.iaload, 1) := by decide +kernel
theorem dX2_carried_37 : decode cX2_carried 37 = .ok (.invokevirtual 82, 3) := by decide +kernel
theorem dX2_carried_40 : decode cX2_carried 40 = .ok (.aload_n 0, 1) := by decide +kernel
theorem dX2_carried_41 : decode cX2_carried 41 = .ok (.getfield 24, 3) := by decide +kernel
theorem dX2_carried_44 : decode cX2_carried 44 = .ok (.getfield 86, 3) := by decide +kernel
theorem dX2_carried_47 : decode cX2_carried 47 = .ok (.ireturn, 1) := by decide +kernel
set_option maxRecDepth 20000 in
theorem ggX2_visit_X2_carried : GoodIn wsX2_visit wsX2_carried := goodIn_r _ [15, 16, 17, 18, 19, 20, 21, 22, 23, 24, 25, 26, 27, 28, 29, 30, 31, 32, 33, 34, 35, 36, 8, 9, 10, 37, 38, 39, 40, 41, 42, 43, 44, 45, 46, 47, 48, 49, 50, 51, 52, 53, 54, 55, 56, 57, 58, 59, 60, 61, 62, 63, 64, 65, 66, 67, 68, 69, 70, 71, 72, 73, 74, 75, 76, 80, 81, 82, 83, 84, 85, 86, 87, 88, 89, 90, 110, 111, 112, 113, 114, 115, 116, 117, 118, 119, 120, 121, 91, 92, 93, 94, 95, 96, 97, 98, 99, 100, 101, 102, 103, 104, 105, 106, 107, 108, 109] (by decide +kernel) (by decide +kernel)
set_option maxRecDepth 20000 in
theorem gX2_visit_X2_carried : GoodIn wsX2_visit (wsV RX2 92 RX2 yX2_carried wsX2_carried) := goodIn_app (goodIn_of _ (by decide +kernel)) ggX2_visit_X2_carried
set_option maxRecDepth 20000 in
theorem ggX2_visit_X2_visit : GoodIn wsX2_visit wsX2_visit := goodIn_r _ [0, 1, 2, 3, 4, 5, 6, 7, 8, 9, 10, 11, 12, 13, 14, 15, 16, 17, 18, 19, 20, 21, 22, 23, 24, 25, 26, 27, 28, 29, 30, 31, 32, 33, 34, 35, 36, 37, 38, 39, 40, 41, 42, 43, 44, 45, 46, 47, 48, 49, 50, 51, 52, 53, 54, 55, 56, 57, 58, 59, 60, 61, 62, 63, 64, 65, 66, 67, 68, 69, 70, 71, 72, 73, 74, 75, 76, 77, 78, 79, 80, 81, 82, 83, 84, 85, 86, 87, 88, 89, 90, 91, 92, 93, 94, 95, 96, 97, 98, 99, 100, 101, 102, 103, 104, 105, 106, 107, 108, 109, 110, 111, 112, 113, 114, 115, 116, 117, 118, 119, 120, 121] (by decide +kernel) (by decide +kernel)
set_option maxRecDepth 20000 in
theorem gX2_visit_X2_visit : GoodIn wsX2_visit (wsV RX2 71 RX2 yX2_visit wsX2_visit) := goodIn_app (goodIn_of _ (by decide +kernel)) ggX2_visit_X2_visit
theorem dX2_visit_0 : decode cX2_visit 0 = .ok (.iload_n 1, 1) := by decide +kernel
theorem dX2_visit_1 : decode cX2_visit 1 = .ok (.sipush 1000, 3) := by decide +kernel
theorem dX2_visit_4 : decode cX2_visit 4 = .ok (.imul, 1) := by decide +kernel
theorem dX2_visit_5 : decode cX2_visit 5 = .ok (.iload_n 2, 1) := by decide +kernel
theorem dX2_visit_6 : decode cX2_visit 6 = .ok (.iadd, 1) := by decide +kernel
theorem dX2_visit_7 : decode cX2_visit 7 = .ok (.istore_n 3, 1) := by decide +kernel
theorem dX2_visit_8 : decode cX2_visit 8 = .ok (.iload_n 1, 1) := by decide +kernel
theorem dX2_visit_9 : decode cX2_visit 9 = .ok (.iconst 5, 1) := by decide +kernel
theorem dX2_visit_10 : decode cX2_visit 10 = .ok (.if_icmp .gt 13, 3) := by decide +kernel
theorem dX2_visit_13 : decode cX2_visit 13 = .ok (.aload_n 0, 1) := by decide +kernel
theorem dX2_visit_14 : decode cX2_visit 14 = .ok (.getfield 18, 3) := by decide +kernel
theorem dX2_visit_17 : decode cX2_visit 17 = .ok (.iload_n 3, 1) := by decide +kernel
theorem dX2_visit_18 : decode cX2_visit 18 = .ok (.iaload, 1) := by decide +kernel
theorem dX2_visit_19 : decode cX2_visit 19 = .ok (.iconst (-1), 1) := by decide +kernel
theorem dX2_visit_20 : decode cX2_visit 20 = .ok (.if_icmp .eq 4, 3) := by decide +kernel
theorem dX2_visit_23 : decode cX2_visit 23 = .ok (.return_, 1) := by decide +kernel
theorem dX2_visit_24 : decode cX2_visit 24 = .ok (.iload_n 1, 1) := by decide +kernel
theorem dX2_visit_25 : decode cX2_visit 25 = .ok (.aload_n 0, 1) := by decide +kernel
theorem dX2_visit_26 : decode cX2_visit 26 = .ok (.getfield 39, 3) := by decide +kernel
theorem dX2_visit_29 : decode cX2_visit 29 = .ok (.if_icmp .lt 38, 3) := by decide +kernel
theorem dX2_visit_32 : decode cX2_visit 32 = .ok (.aload_n 0, 1) := by decide +kernel
theorem dX2_visit_33 : decode cX2_visit 33 = .ok (.getfield 18, 3) := by decide +kernel
theorem dX2_visit_36 : decode cX2_visit 36 = .ok (.iload_n 3, 1) := by decide +kernel
theorem dX2_visit_37 : decode cX2_visit 37 = .ok (.aload_n 0, 1) := by decide +kernel
theorem dX2_visit_38 : decode cX2_visit 38 = .ok (.getfield 59, 3) := by decide +kernel
theorem dX2_visit_41 : decode cX2_visit 41 = .ok (.iload_n 2, 1) := by decide +kernel
theorem dX2_visit_42 : decode cX2_visit 42 = .ok (.if_icmp .gt 15, 3) := by decide +kernel
theorem dX2_visit_45 : decode cX2_visit 45 = .ok (.iload_n 2, 1) := by decide +kernel
theorem dX2_visit_46 : decode cX2_visit 46 = .ok (.aload_n 0, 1) := by decide +kernel
theorem dX2_visit_47 : decode cX2_visit 47 = .ok (.getfield 62, 3) := by decide +kernel
theorem dX2_visit_50 : decode cX2_visit 50 = .ok (.if_icmp .gt 7, 3) := by decide +kernel
theorem dX2_visit_53 : decode cX2_visit 53 = .ok (.iconst 1, 1) := by decide +kernel
theorem dX2_visit_54 : decode cX2_visit 54 = .ok (.goto 4, 3) := by decide +kernel
theorem dX2_visit_57 : decode cX2_visit 57 = .ok (.iconst 0, 1) := by decide +kernel
theorem dX2_visit_58 : decode cX2_visit 58 = .ok (.iastore, 1) := by decide +kernel
theorem dX2_visit_59 : decode cX2_visit 59 = .ok (.aload_n 0, 1) := by decide +kernel
theorem dX2_visit_60 : decode cX2_visit 60 = .ok (.getfield 21, 3) := by decide +kernel
theorem dX2_visit_63 : decode cX2_visit 63 = .ok (.iload_n 3, 1) := by decide +kernel
theorem dX2_visit_64 : decode cX2_visit 64 = .ok (.iload_n 2, 1) := by decide +kernel
theorem dX2_visit_65 : decode cX2_visit 65 = .ok (.iastore, 1) := by decide +kernel
theorem dX2_visit_66 : decode cX2_visit 66 = .ok (.return_, 1) := by decide +kernel
theorem dX2_visit_67 : decode cX2_visit 67 = .ok (.iconst 0, 1) := by decide +kernel
theorem dX2_visit_68 : decode cX2_visit 68 = .ok (.istore 4, 2) := by decide +kernel
theorem dX2_visit_70 : decode cX2_visit 70 = .ok (.sipush 999, 3) := by decide +kernel
theorem dX2_visit_73 : decode cX2_visit 73 = .ok (.istore 5, 2) := by decide +kernel
theorem dX2_visit_75 : decode cX2_visit 75 = .ok (.iconst 0, 1) := by decide +kernel
theorem dX2_visit_76 : decode cX2_visit 76 = .ok (.istore 6, 2) := by decide +kernel
theorem dX2_visit_78 : decode cX2_visit 78 = .ok (.iload 6, 2) := by decide +kernel
theorem dX2_visit_80 : decode cX2_visit 80 = .ok (.aload_n 0, 1) := by decide +kernel
theorem dX2_visit_81 : decode cX2_visit 81 = .ok (.getfield 34, 3) := by decide +kernel
theorem dX2_visit_84 : decode cX2_visit 84 = .ok (.getfield 89, 3) := by decide +kernel
theorem dX2_visit_87 : decode cX2_visit 87 = .ok (.if_icmp .ge 70, 3) := by decide +kernel
theorem dX2_visit_90 : decode cX2_visit 90 = .ok (.aload_n 0, 1) := by decide +kernel
theorem dX2_visit_91 : decode cX2_visit 91 = .ok (.iload_n 1, 1) := by decide +kernel
theorem dX2_visit_92 : decode cX2_visit 92 = .ok (.iload 6, 2) := by decide +kernel
theorem dX2_visit_94 : decode cX2_visit 94 = .ok (.iload_n 2, 1) := by decide +kernel
theorem dX2_visit_95 : decode cX2_visit 95 = .ok (.invokevirtual 92, 3) := by decide +kernel
theorem dX2_visit_98 : decode cX2_visit 98 = .ok (.istore 7, 2) := by decide +kernel
theorem dX2_visit_100 : decode cX2_visit 100 = .ok (.aload_n 0, 1) := by decide +kernel
theorem dX2_visit_101 : decode cX2_visit 101 = .ok (.iload_n 1, 1) := by decide +kernel
theorem dX2_visit_102 : decode cX2_visit 102 = .ok (.iconst 1, 1) := by decide +kernel
theorem dX2_visit_103 : decode cX2_visit 103 = .ok (.iadd, 1) := by decide +kernel
theorem dX2_visit_104 : decode cX2_visit 104 = .ok (.iload 7, 2) := by decide +kernel
theorem dX2_visit_106 : decode cX2_visit 106 = .ok (.invokevirtual 71, 3) := by decide +kernel
theorem dX2_visit_109 : decode cX2_visit 109 = .ok (.iload 4, 2) := by decide +kernel
theorem dX2_visit_111 : decode cX2_visit 111 = .ok (.aload_n 0, 1) := by decide +kernel
theorem dX2_visit_112 : decode cX2_visit 112 = .ok (.getfield 18, 3) := by decide +kernel
theorem dX2_visit_115 : decode cX2_visit 115 = .ok (.iload_n 1, 1) := by decide +kernel
theorem dX2_visit_116 : decode cX2_visit 116 = .ok (.iconst 1, 1) := by decide +kernel
theorem dX2_visit_117 : decode cX2_visit 117 = .ok (.iadd, 1) := by decide +kernel
theorem dX2_visit_118 : decode cX2_visit 118 = .ok (.sipush 1000, 3) := by decide +kernel
theorem dX2_visit_121 : decode cX2_visit 121 = .ok (.imul, 1) := by decide +kernel
theorem dX2_visit_122 : decode cX2_visit 122 = .ok (.iload 7, 2) := by decide +kernel
theorem dX2_visit_124 : decode cX2_visit 124 = .ok (.iadd, 1) := by decide +kernel
theorem dX2_visit_125 : decode cX2_visit 125 = .ok (.iaload, 1) := by decide +kernel
theorem dX2_visit_126 : decode cX2_visit 126 = .ok (.iadd, 1) := by decide +kernel
theorem dX2_visit_127 : decode cX2_visit 127 = .ok (.istore 4, 2) := by decide +kernel
theorem dX2_visit_129 : decode cX2_visit 129 = .ok (.iload 5, 2) := by decide +kernel
theorem dX2_visit_131 : decode cX2_visit 131 = .ok (.aload_n 0, 1) := by decide +kernel
theorem dX2_visit_132 : decode cX2_visit 132 = .ok (.getfield 21, 3) := by decide +kernel
theorem dX2_visit_135 : decode cX2_visit 135 = .ok (.iload_n 1, 1) := by decide +kernel
theorem dX2_visit_136 : decode cX2_visit 136 = .ok (.iconst 1, 1) := by decide +kernel
theorem dX2_visit_137 : decode cX2_visit 137 = .ok (.iadd, 1) := by decide +kernel
theorem dX2_visit_138 : decode cX2_visit 138 = .ok (.sipush 1000, 3) := by decide +kernel
theorem dX2_visit_141 : decode cX2_visit 141 = .ok (.imul, 1) := by decide +kernel
theorem dX2_visit_142 : decode cX2_visit 142 = .ok (.iload 7, 2) := by decide +kernel
theorem dX2_visit_144 : decode cX2_visit 144 = .ok (.iadd, 1) := by decide +kernel
theorem dX2_visit_145 : decode cX2_visit 145 = .ok (.iaload, 1) := by decide +kernel
theorem dX2_visit_146 : decode cX2_visit 146 = .ok (.invokestatic 51, 3) := by decide +kernel
theorem dX2_visit_149 : decode cX2_visit 149 = .ok (.istore 5, 2) := by decide +kernel
theorem dX2_visit_151 : decode cX2_visit 151 = .ok (.iinc 6 1, 3) := by decide +kernel
theorem dX2_visit_154 : decode cX2_visit 154 = .ok (.goto (-76), 3) := by decide +kernel
theorem dX2_visit_157 : decode cX2_visit 157 = .ok (.aload_n 0, 1) := by decide +kernel
theorem dX2_visit_158 : decode cX2_visit 158 = .ok (.getfield 18, 3) := by decide +kernel
theorem dX2_visit_161 : decode cX2_visit 161 = .ok (.iload_n 3, 1) := by decide +kernel
theorem dX2_visit_162 : decode cX2_visit 162 = .ok (.iload 4, 2) := by decide +kernel
theorem dX2_visit_164 : decode cX2_visit 164 = .ok (.iastore, 1) := by decide +kernel
theorem dX2_visit_165 : decode cX2_visit 165 = .ok (.aload_n 0, 1) := by decide +kernel
theorem dX2_visit_166 : decode cX2_visit 166 = .ok (.getfield 21, 3) := by decide +kernel
theorem dX2_visit_169 : decode cX2_visit 169 = .ok (.iload_n 3, 1) := by decide +kernel
theorem dX2_visit_170 : decode cX2_visit 170 = .ok (.iload 5, 2) := by decide +kernel
theorem dX2_visit_172 : decode cX2_visit 172 = .ok (.iastore, 1) := by decide +kernel
theorem dX2_visit_173 : decode cX2_visit 173 = .ok (.return_, 1) := by decide +kernel
theorem dX2_howMany_0 : decode cX2_howMany 0 = .ok (.aload_n 0, 1) := by decide +kernel
theorem dX2_howMany_1 : decode cX2_howMany 1 = .ok (.getfield 18, 3) := by decide +kernel
theorem dX2_howMany_4 : decode cX2_howMany 4 = .ok (.aload_n 0, 1) := by decide +kernel
theorem dX2_howMany_5 : decode cX2_howMany 5 = .ok (.getfield 56, 3) := by decide +kernel
theorem dX2_howMany_8 : decode cX2_howMany 8 = .ok (.iaload, 1) := by decide +kernel
theorem dX2_howMany_9 : decode cX2_howMany 9 = .ok (.ireturn, 1) := by decide +kernel
theorem dX2_leastTurned_0 : decode cX2_leastTurned 0 = .ok (.aload_n 0, 1) := by decide +kernel
theorem dX2_leastTurned_1 : decode cX2_leastTurned 1 = .ok (.getfield 21, 3) := by decide +kernel
theorem dX2_leastTurned_4 : decode cX2_leastTurned 4 = .ok (.aload_n 0, 1) := by decide +kernel
theorem dX2_leastTurned_5 : decode cX2_leastTurned 5 = .ok (.getfield 56, 3) := by decide +kernel
theorem dX2_leastTurned_8 : decode cX2_leastTurned 8 = .ok (.iaload, 1) := by decide +kernel
theorem dX2_leastTurned_9 : decode cX2_leastTurned 9 = .ok (.ireturn, 1) := by decide +kernel
set_option maxRecDepth 20000 in
theorem ggX2_handOfFirst_X2_howMany : GoodIn wsX2_handOfFirst wsX2_howMany := goodIn_r _ [7, 8, 2, 82, 83, 84, 85, 86, 87, 88, 89, 90, 91, 92] (by decide +kernel) (by decide +kernel)
set_option maxRecDepth 20000 in
theorem gX2_handOfFirst_X2_howMany : GoodIn wsX2_handOfFirst (wsV RX2 96 RX2 yX2_howMany wsX2_howMany) := goodIn_app (goodIn_of _ (by decide +kernel)) ggX2_handOfFirst_X2_howMany
set_option maxRecDepth 20000 in
theorem ggX2_handOfFirst_X2_firstHand : GoodIn wsX2_handOfFirst wsX2_firstHand := goodIn_r _ [12, 13, 8, 14, 15, 16, 6, 17, 18, 19, 20, 21, 22, 23, 24, 25, 26, 27, 28, 29, 30, 31, 32, 33, 34, 35, 36, 37, 38, 39, 40, 41, 42, 43, 44, 45, 46, 47, 48, 49, 50, 51, 52, 53, 54, 55, 56, 57, 58, 59, 60, 61, 62, 63, 64, 65, 66, 67, 68, 69, 70, 71, 72, 73, 74, 75, 76, 77, 78, 79, 80, 81, 82, 83, 84, 85, 86, 87, 88, 89, 90, 91, 92, 93, 94, 95, 96, 97, 98, 99, 100, 101, 102, 103, 104, 105, 106, 107, 108, 109, 110, 111, 112, 113, 114, 115, 116, 117, 118, 119, 120, 121, 122, 123] (by decide +kernel) (by decide +kernel)
set_option maxRecDepth 20000 in
theorem gX2_handOfFirst_X2_firstHand : GoodIn wsX2_handOfFirst (wsV RX2 100 RX2 yX2_firstHand wsX2_firstHand) := goodIn_app (goodIn_of _ (by decide +kernel)) ggX2_handOfFirst_X2_firstHand
set_option maxRecDepth 20000 in
theorem ggX2_handOfFirst_X2_carried : GoodIn wsX2_handOfFirst wsX2_carried := goodIn_r _ [17, 18, 19, 20, 21, 22, 23, 24, 25, 26, 27, 28, 29, 30, 31, 32, 33, 34, 35, 36, 37, 38, 39, 40, 41, 42, 43, 44, 45, 46, 47, 48, 49, 50, 51, 52, 53, 54, 55, 56, 57, 58, 59, 60, 61, 62, 63, 64, 65, 66, 67, 68, 69, 70, 71, 72, 73, 74, 75, 76, 77, 78, 79, 80, 81, 82, 83, 84, 85, 86, 87, 88, 89, 90, 91, 92, 112, 113, 114, 115, 116, 117, 118, 119, 120, 121, 122, 123, 93, 94, 95, 96, 97, 98, 99, 100, 101, 102, 103, 104, 105, 106, 107, 108, 109, 110, 111] (by decide +kernel) (by decide +kernel)
set_option maxRecDepth 20000 in
theorem gX2_handOfFirst_X2_carried : GoodIn wsX2_handOfFirst (wsV RX2 92 RX2 yX2_carried wsX2_carried) := goodIn_app (goodIn_of _ (by decide +kernel)) ggX2_handOfFirst_X2_carried
theorem dX2_handOfFirst_0 : decode cX2_handOfFirst 0 = .ok (.iload_n 1, 1) := by decide +kernel
theorem dX2_handOfFirst_1 : decode cX2_handOfFirst 1 = .ok (.aload_n 0, 1) := by decide +kernel
theorem dX2_handOfFirst_2 : decode cX2_handOfFirst 2 = .ok (.getfield 39, 3) := by decide +kernel
theorem dX2_handOfFirst_5 : decode cX2_handOfFirst 5 = .ok (.if_icmp .ge 10, 3) := by decide +kernel
theorem dX2_handOfFirst_8 : decode cX2_handOfFirst 8 = .ok (.aload_n 0, 1) := by decide +kernel
theorem dX2_handOfFirst_9 : decode cX2_handOfFirst 9 = .ok (.invokevirtual 96, 3) := by decide +kernel
theorem dX2_handOfFirst_12 : decode cX2_handOfFirst 12 = .ok (.ifCond .ne 6, 3) := by decide +kernel
theorem dX2_handOfFirst_15 : decode cX2_handOfFirst 15 = .ok (.bipush (-2), 2) := by decide +kernel
theorem dX2_handOfFirst_17 : decode cX2_handOfFirst 17 = .ok (.ireturn, 1) := by decide +kernel
theorem dX2_handOfFirst_18 : decode cX2_handOfFirst 18 = .ok (.aload_n 0, 1) := by decide +kernel
theorem dX2_handOfFirst_19 : decode cX2_handOfFirst 19 = .ok (.getfield 56, 3) := by decide +kernel
theorem dX2_handOfFirst_22 : decode cX2_handOfFirst 22 = .ok (.istore_n 2, 1) := by decide +kernel
theorem dX2_handOfFirst_23 : decode cX2_handOfFirst 23 = .ok (.iconst 0, 1) := by decide +kernel
theorem dX2_handOfFirst_24 : decode cX2_handOfFirst 24 = .ok (.istore_n 3, 1) := by decide +kernel
theorem dX2_handOfFirst_25 : decode cX2_handOfFirst 25 = .ok (.iload_n 3, 1) := by decide +kernel
theorem dX2_handOfFirst_26 : decode cX2_handOfFirst 26 = .ok (.iload_n 1, 1) := by decide +kernel
theorem dX2_handOfFirst_27 : decode cX2_handOfFirst 27 = .ok (.if_icmp .ge 22, 3) := by decide +kernel
theorem dX2_handOfFirst_30 : decode cX2_handOfFirst 30 = .ok (.aload_n 0, 1) := by decide +kernel
theorem dX2_handOfFirst_31 : decode cX2_handOfFirst 31 = .ok (.iload_n 3, 1) := by decide +kernel
theorem dX2_handOfFirst_32 : decode cX2_handOfFirst 32 = .ok (.aload_n 0, 1) := by decide +kernel
theorem dX2_handOfFirst_33 : decode cX2_handOfFirst 33 = .ok (.iload_n 3, 1) := by decide +kernel
theorem dX2_handOfFirst_34 : decode cX2_handOfFirst 34 = .ok (.iload_n 2, 1) := by decide +kernel
theorem dX2_handOfFirst_35 : decode cX2_handOfFirst 35 = .ok (.invokevirtual 100, 3) := by decide +kernel
theorem dX2_handOfFirst_38 : decode cX2_handOfFirst 38 = .ok (.iload_n 2, 1) := by decide +kernel
theorem dX2_handOfFirst_39 : decode cX2_handOfFirst 39 = .ok (.invokevirtual 92, 3) := by decide +kernel
theorem dX2_handOfFirst_42 : decode cX2_handOfFirst 42 = .ok (.istore_n 2, 1) := by decide +kernel
theorem dX2_handOfFirst_43 : decode cX2_handOfFirst 43 = .ok (.iinc 3 1, 3) := by decide +kernel
theorem dX2_handOfFirst_46 : decode cX2_handOfFirst 46 = .ok (.goto (-21), 3) := by decide +kernel
theorem dX2_handOfFirst_49 : decode cX2_handOfFirst 49 = .ok (.aload_n 0, 1) := by decide +kernel
theorem dX2_handOfFirst_50 : decode cX2_handOfFirst 50 = .ok (.iload_n 1, 1) := by decide +kernel
theorem dX2_handOfFirst_51 : decode cX2_handOfFirst 51 = .ok (.iload_n 2, 1) := by decide +kernel
theorem dX2_handOfFirst_52 : decode cX2_handOfFirst 52 = .ok (.invokevirtual 100, 3) := by decide +kernel
theorem dX2_handOfFirst_55 : decode cX2_handOfFirst 55 = .ok (.ireturn, 1) := by decide +kernel
set_option maxRecDepth 20000 in
theorem ggX2_firstHand_X2_carried : GoodIn wsX2_firstHand wsX2_carried := goodIn_r _ [7, 8, 9, 10, 11, 12, 13, 14, 15, 16, 17, 18, 19, 20, 21, 22, 23, 24, 25, 26, 27, 28, 29, 30, 31, 32, 33, 34, 35, 36, 37, 38, 39, 40, 41, 42, 43, 44, 45, 46, 47, 48, 49, 50, 51, 52, 53, 54, 55, 56, 57, 58, 59, 60, 61, 62, 63, 64, 65, 66, 67, 68, 69, 70, 71, 72, 73, 74, 75, 76, 77, 78, 79, 80, 81, 82, 102, 103, 104, 105, 106, 107, 108, 109, 110, 111, 112, 113, 83, 84, 85, 86, 87, 88, 89, 90, 91, 92, 93, 94, 95, 96, 97, 98, 99, 100, 101] (by decide +kernel) (by decide +kernel)
set_option maxRecDepth 20000 in
theorem gX2_firstHand_X2_carried : GoodIn wsX2_firstHand (wsV RX2 92 RX2 yX2_carried wsX2_carried) := goodIn_app (goodIn_of _ (by decide +kernel)) ggX2_firstHand_X2_carried
theorem dX2_firstHand_0 : decode cX2_firstHand 0 = .ok (.iconst 0, 1) := by decide +kernel
theorem dX2_firstHand_1 : decode cX2_firstHand 1 = .ok (.istore_n 3, 1) := by decide +kernel
theorem dX2_firstHand_2 : decode cX2_firstHand 2 = .ok (.iload_n 3, 1) := by decide +kernel
theorem dX2_firstHand_3 : decode cX2_firstHand 3 = .ok (.aload_n 0, 1) := by decide +kernel
theorem dX2_firstHand_4 : decode cX2_firstHand 4 = .ok (.getfield 34, 3) := by decide +kernel
theorem dX2_firstHand_7 : decode cX2_firstHand 7 = .ok (.getfield 89, 3) := by decide +kernel
theorem dX2_firstHand_10 : decode cX2_firstHand 10 = .ok (.if_icmp .ge 34, 3) := by decide +kernel
theorem dX2_firstHand_13 : decode cX2_firstHand 13 = .ok (.aload_n 0, 1) := by decide +kernel
theorem dX2_firstHand_14 : decode cX2_firstHand 14 = .ok (.getfield 18, 3) := by decide +kernel
theorem dX2_firstHand_17 : decode cX2_firstHand 17 = .ok (.iload_n 1, 1) := by decide +kernel
theorem dX2_firstHand_18 : decode cX2_firstHand 18 = .ok (.iconst 1, 1) := by decide +kernel
theorem dX2_firstHand_19 : decode cX2_firstHand 19 = .ok (.iadd, 1) := by decide +kernel
theorem dX2_firstHand_20 : decode cX2_firstHand 20 = .ok (.sipush 1000, 3) := by decide +kernel
theorem dX2_firstHand_23 : decode cX2_firstHand 23 = .ok (.imul, 1) := by decide +kernel
theorem dX2_firstHand_24 : decode cX2_firstHand 24 = .ok (.aload_n 0, 1) := by decide +kernel
theorem dX2_firstHand_25 : decode cX2_firstHand 25 = .ok (.iload_n 1, 1) := by decide +kernel
theorem dX2_firstHand_26 : decode cX2_firstHand 26 = .ok (.iload_n 3, 1) := by decide +kernel
theorem dX2_firstHand_27 : decode cX2_firstHand 27 = .ok (.iload_n 2, 1) := by decide +kernel
theorem dX2_firstHand_28 : decode cX2_firstHand 28 = .ok (.invokevirtual 92, 3) := by decide +kernel
theorem dX2_firstHand_31 : decode cX2_firstHand 31 = .ok (.iadd, 1) := by decide +kernel
theorem dX2_firstHand_32 : decode cX2_firstHand 32 = .ok (.iaload, 1) := by decide +kernel
theorem dX2_firstHand_33 : decode cX2_firstHand 33 = .ok (.ifCond .le 5, 3) := by decide +kernel
theorem dX2_firstHand_36 : decode cX2_firstHand 36 = .ok (.iload_n 3, 1) := by decide +kernel
theorem dX2_firstHand_37 : decode cX2_firstHand 37 = .ok (.ireturn, 1) := by decide +kernel
theorem dX2_firstHand_38 : decode cX2_firstHand 38 = .ok (.iinc 3 1, 3) := by decide +kernel
theorem dX2_firstHand_41 : decode cX2_firstHand 41 = .ok (.goto (-39), 3) := by decide +kernel
theorem dX2_firstHand_44 : decode cX2_firstHand 44 = .ok (.iconst 0, 1) := by decide +kernel
theorem dX2_firstHand_45 : decode cX2_firstHand 45 = .ok (.ireturn, 1) := by decide +kernel
theorem dX3_init_0 : decode cX3_init 0 = .ok (.aload_n 0, 1) := by decide +kernel
theorem dX3_init_1 : decode cX3_init 1 = .ok (.invokespecial 3, 3) := by decide +kernel
theorem dX3_init_4 : decode cX3_init 4 = .ok (.aload_n 0, 1) := by decide +kernel
theorem dX3_init_5 : decode cX3_init 5 = .ok (.sipush 400, 3) := by decide +kernel
theorem dX3_init_8 : decode cX3_init 8 = .ok (.newarray .int, 2) := by decide +kernel
theorem dX3_init_10 : decode cX3_init 10 = .ok (.putfield 9, 3) := by decide +kernel
theorem dX3_init_13 : decode cX3_init 13 = .ok (.aload_n 0, 1) := by decide +kernel
theorem dX3_init_14 : decode cX3_init 14 = .ok (.sipush 400, 3) := by decide +kernel
theorem dX3_init_17 : decode cX3_init 17 = .ok (.newarray .int, 2) := by decide +kernel
theorem dX3_init_19 : decode cX3_init 19 = .ok (.putfield 15, 3) := by decide +kernel
theorem dX3_init_22 : decode cX3_init 22 = .ok (.aload_n 0, 1) := by decide +kernel
theorem dX3_init_23 : decode cX3_init 23 = .ok (.aload_n 1, 1) := by decide +kernel
theorem dX3_init_24 : decode cX3_init 24 = .ok (.putfield 18, 3) := by decide +kernel
theorem dX3_init_27 : decode cX3_init 27 = .ok (.return_, 1) := by decide +kernel
set_option maxRecDepth 20000 in
theorem ggX3_copyOfCode_J7_copyOf_59c91 : GoodIn wsX3_copyOfCode wsJ7_copyOf_59c91 := goodIn_r _ [6, 7, 8, 9, 10, 11, 12, 13, 14, 15, 16, 17, 18, 19, 20, 21] (by decide +kernel) (by decide +kernel)
set_option maxRecDepth 20000 in
theorem gX3_copyOfCode_J7_copyOf_59c91 : GoodIn wsX3_copyOfCode (va_wsS RX3 26 yJ7_copyOf_59c91 wsJ7_copyOf_59c91) := goodIn_app (goodIn_of _ (by decide +kernel)) ggX3_copyOfCode_J7_copyOf_59c91
theorem dX3_copyOfCode_0 : decode cX3_copyOfCode 0 = .ok (.aload_n 0, 1) := by decide +kernel
theorem dX3_copyOfCode_1 : decode cX3_copyOfCode 1 = .ok (.getfield 9, 3) := by decide +kernel
theorem dX3_copyOfCode_4 : decode cX3_copyOfCode 4 = .ok (.aload_n 0, 1) := by decide +kernel
theorem dX3_copyOfCode_5 : decode cX3_copyOfCode 5 = .ok (.getfield 22, 3) := by decide +kernel
theorem dX3_copyOfCode_8 : decode cX3_copyOfCode 8 = .ok (.invokestatic 26, 3) := by decide +kernel
theorem dX3_copyOfCode_11 : decode cX3_copyOfCode 11 = .ok (.areturn, 1) := by decide +kernel
set_option maxRecDepth 20000 in
theorem ggX3_read_X7_rewind : GoodIn wsX3_read wsX7_rewind := goodIn_r _ [8, 9, 10, 11, 196, 197, 198, 199, 200] (by decide +kernel) (by decide +kernel)
set_option maxRecDepth 20000 in
theorem gX3_read_X7_rewind : GoodIn wsX3_read (wsV RX3 35 RX7 yX7_rewind wsX7_rewind) := goodIn_app (goodIn_of _ (by decide +kernel)) ggX3_read_X7_rewind
set_option maxRecDepth 20000 in
theorem ggX3_read_X3_readClause : GoodIn wsX3_read wsX3_readClause := goodIn_r _ [16, 3, 17, 18, 19, 20, 21, 22, 23, 7, 24, 9, 25, 26, 27, 28, 29, 30, 10, 31, 32, 33, 34, 35, 36, 37, 38, 39, 40, 41, 42, 43, 44, 45, 46, 47, 48, 49, 50, 51, 52, 53, 54, 55, 56, 57, 58, 59, 60, 61, 62, 63, 64, 65, 66, 67, 68, 69, 70, 71, 72, 73, 74, 75, 76, 77, 78, 79, 80, 81, 82, 83, 84, 85, 86, 87, 11, 88, 89, 90, 15, 91, 92, 2, 93, 94, 95, 96, 97, 98, 99, 100, 101, 102, 103, 104, 105, 106, 107, 108, 109, 110, 111, 112, 113, 114, 115, 116, 1, 117, 118, 119, 120, 121, 122, 123, 124, 125, 126, 127, 128, 129, 130, 131, 132, 133, 134, 135, 136, 137, 138, 139, 140, 141, 142, 143, 144, 145, 146, 147, 148, 149, 150, 151, 152, 153, 154, 155, 156, 157, 158, 159, 160, 161, 162, 163, 164, 165, 166, 167, 168, 169, 170, 171, 172, 173, 174, 175, 176, 177, 178, 179, 180, 181, 182, 183, 184, 185, 186, 187, 188, 189, 190, 191, 192, 193, 194, 195, 196, 197, 198, 199, 200] (by decide +kernel) (by decide +kernel)
set_option maxRecDepth 20000 in
theorem gX3_read_X3_readClause : GoodIn wsX3_read (wsV RX3 40 RX3 yX3_readClause wsX3_readClause) := goodIn_app (goodIn_of _ (by decide +kernel)) ggX3_read_X3_readClause
set_option maxRecDepth 20000 in
theorem ggX3_read_X7_isAtEnd : GoodIn wsX3_read wsX7_isAtEnd := goodIn_r _ [149, 25, 26, 27, 7, 28, 9, 29, 30, 10, 196, 197, 198, 199, 200] (by decide +kernel) (by decide +kernel)
set_option maxRecDepth 20000 in
theorem gX3_read_X7_isAtEnd : GoodIn wsX3_read (wsV RX3 44 RX7 yX7_isAtEnd wsX7_isAtEnd) := goodIn_app (goodIn_of _ (by decide +kernel)) ggX3_read_X7_isAtEnd
set_option maxRecDepth 20000 in
theorem ggX3_read_X7_takesSign : GoodIn wsX3_read wsX7_takesSign := goodIn_r _ [129, 9, 25, 26, 27, 7, 28, 29, 30, 10, 196, 197, 198, 199, 200] (by decide +kernel) (by decide +kernel)
set_option maxRecDepth 20000 in
theorem gX3_read_X7_takesSign : GoodIn wsX3_read (wsV RX3 48 RX7 yX7_takesSign wsX7_takesSign) := goodIn_app (goodIn_of _ (by decide +kernel)) ggX3_read_X7_takesSign
set_option maxRecDepth 20000 in
theorem ggX3_read_X7_refuse : GoodIn wsX3_read wsX7_refuse := goodIn_r _ [87, 11, 10, 196, 197, 198, 199, 200] (by decide +kernel) (by decide +kernel)
set_option maxRecDepth 20000 in
theorem gX3_read_X7_refuse : GoodIn wsX3_read (wsV RX3 52 RX7 yX7_refuse wsX7_refuse) := goodIn_app (goodIn_of _ (by decide +kernel)) ggX3_read_X7_refuse
theorem dX3_read_0 : decode cX3_read 0 = .ok (.aload_n 0, 1) := by decide +kernel
theorem dX3_read_1 : decode cX3_read 1 = .ok (.iconst 0, 1) := by decide +kernel
theorem dX3_read_2 : decode cX3_read 2 = .ok (.putfield 22, 3) := by decide +kernel
theorem dX3_read_5 : decode cX3_read 5 = .ok (.aload_n 0, 1) := by decide +kernel
theorem dX3_read_6 : decode cX3_read 6 = .ok (.iconst 0, 1) := by decide +kernel
theorem dX3_read_7 : decode cX3_read 7 = .ok (.putfield 32, 3) := by decide +kernel
theorem dX3_read_10 : decode cX3_read 10 = .ok (.aload_n 0, 1) := by decide +kernel
theorem dX3_read_11 : decode cX3_read 11 = .ok (.getfield 18, 3) := by decide +kernel
theorem dX3_read_14 : decode cX3_read 14 = .ok (.invokevirtual 35, 3) := by decide +kernel
theorem dX3_read_17 : decode cX3_read 17 = .ok (.iconst 0, 1) := by decide +kernel
theorem dX3_read_18 : decode cX3_read 18 = .ok (.istore_n 1, 1) := by decide +kernel
theorem dX3_read_19 : decode cX3_read 19 = .ok (.iload_n 1, 1) := by decide +kernel
theorem dX3_read_20 : decode cX3_read 20 = .ok (.bipush 12, 2) := by decide +kernel
theorem dX3_read_22 : decode cX3_read 22 = .ok (.if_icmp .gt 52, 3) := by decide +kernel
theorem dX3_read_25 : decode cX3_read 25 = .ok (.aload_n 0, 1) := by decide +kernel
theorem dX3_read_26 : decode cX3_read 26 = .ok (.iload_n 1, 1) := by decide +kernel
theorem dX3_read_27 : decode cX3_read 27 = .ok (.invokevirtual 40, 3) := by decide +kernel
theorem dX3_read_30 : decode cX3_read 30 = .ok (.ifCond .ne 5, 3) := by decide +kernel
theorem dX3_read_33 : decode cX3_read 33 = .ok (.iconst 0, 1) := by decide +kernel
theorem dX3_read_34 : decode cX3_read 34 = .ok (.ireturn, 1) := by decide +kernel
theorem dX3_read_35 : decode cX3_read 35 = .ok (.aload_n 0, 1) := by decide +kernel
theorem dX3_read_36 : decode cX3_read 36 = .ok (.getfield 18, 3) := by decide +kernel
theorem dX3_read_39 : decode cX3_read 39 = .ok (.invokevirtual 44, 3) := by decide +kernel
theorem dX3_read_42 : decode cX3_read 42 = .ok (.ifCond .eq 5, 3) := by decide +kernel
theorem dX3_read_45 : decode cX3_read 45 = .ok (.iconst 1, 1) := by decide +kernel
theorem dX3_read_46 : decode cX3_read 46 = .ok (.ireturn, 1) := by decide +kernel
theorem dX3_read_47 : decode cX3_read 47 = .ok (.aload_n 0, 1) := by decide +kernel
theorem dX3_read_48 : decode cX3_read 48 = .ok (.getfield 18, 3) := by decide +kernel
theorem dX3_read_51 : decode cX3_read 51 = .ok (.bipush 59, 2) := by decide +kernel
theorem dX3_read_53 : decode cX3_read 53 = .ok (.invokevirtual 48, 3) := by decide +kernel
theorem dX3_read_56 : decode cX3_read 56 = .ok (.ifCond .ne 12, 3) := by decide +kernel
theorem dX3_read_59 : decode cX3_read 59 = .ok (.aload_n 0, 1) := by decide +kernel
theorem dX3_read_60 : decode cX3_read 60 = .ok (.getfield 18, 3) := by decide +kernel
theorem dX3_read_63 : decode cX3_read 63 = .ok (.iconst 0, 1) := by decide +kernel
theorem dX3_read_64 : decode cX3_read 64 = .ok (.invokevirtual 52, 3) := by decide +kernel
theorem dX3_read_67 : decode cX3_read 67 = .ok (.ireturn, 1) := by decide +kernel
theorem dX3_read_68 : decode cX3_read 68 = .ok (.iinc 1 1, 3) := by decide +kernel
theorem dX3_read_71 : decode cX3_read 71 = .ok (.goto (-52), 3) := by decide +kernel
theorem dX3_read_74 : decode cX3_read 74 = .ok (.iconst 0, 1) := by decide +kernel
theorem dX3_read_75 : decode cX3_read 75 = .ok (.ireturn, 1) := by decide +kernel
set_option maxRecDepth 20000 in
theorem ggX3_readClause_X7_takesWord : GoodIn wsX3_readClause wsX7_takesWord := goodIn_r _ [10, 11, 12, 13, 14, 9, 15, 16, 17, 18, 19, 20, 21, 22, 23, 24, 25, 26, 27, 28, 29, 30, 31, 32, 33, 34, 35, 36, 37, 38, 39, 40, 41, 42, 43, 44, 45, 46, 47, 48, 49, 50, 51, 52, 53, 54, 55, 56, 57, 58, 59, 60, 61, 62, 63, 64, 65, 66, 67, 68, 69, 70, 71, 188, 189, 190, 191, 192] (by decide +kernel) (by decide +kernel)
set_option maxRecDepth 20000 in
theorem gX3_readClause_X7_takesWord : GoodIn wsX3_readClause (wsV RX3 57 RX7 yX7_takesWord wsX7_takesWord) := goodIn_app (goodIn_of _ (by decide +kernel)) ggX3_readClause_X7_takesWord
set_option maxRecDepth 20000 in
theorem ggX3_readClause_X7_refuse : GoodIn wsX3_readClause wsX7_refuse := goodIn_r _ [75, 76, 18, 188, 189, 190, 191, 192] (by decide +kernel) (by decide +kernel)
set_option maxRecDepth 20000 in
theorem gX3_readClause_X7_refuse : GoodIn wsX3_readClause (wsV RX3 52 RX7 yX7_refuse wsX7_refuse) := goodIn_app (goodIn_of _ (by decide +kernel)) ggX3_readClause_X7_refuse
set_option maxRecDepth 20000 in
theorem ggX3_readClause_X3_readValue : GoodIn wsX3_readClause wsX3_readValue := goodIn_r _ [81, 1, 82, 83, 84, 85, 86, 9, 87, 12, 13, 14, 15, 11, 16, 17, 18, 88, 89, 90, 91, 92, 93, 94, 95, 73, 74, 75, 76, 31, 32, 33, 34, 96, 97, 98, 80, 99, 100, 101, 102, 103, 6, 7, 8, 10, 19, 20, 21, 22, 23, 24, 25, 26, 27, 28, 29, 30, 35, 36, 37, 38, 39, 40, 41, 42, 43, 44, 45, 46, 47, 48, 49, 50, 51, 52, 53, 54, 55, 56, 57, 58, 59, 60, 61, 62, 63, 64, 65, 66, 67, 68, 69, 70, 71, 72, 104, 105, 106, 107, 108, 109, 179, 180, 181, 182, 183, 184, 185, 186, 187, 188, 189, 190, 191, 192] (by decide +kernel) (by decide +kernel)
set_option maxRecDepth 20000 in
theorem gX3_readClause_X3_readValue : GoodIn wsX3_readClause (wsV RX3 73 RX3 yX3_readValue wsX3_readValue) := goodIn_app (goodIn_of _ (by decide +kernel)) ggX3_readClause_X3_readValue
set_option maxRecDepth 20000 in
theorem ggX3_readClause_X3_closeBrackets : GoodIn wsX3_readClause wsX3_closeBrackets := goodIn_r _ [113, 4, 1, 5, 114, 115, 116, 80, 117, 118, 119, 120, 9, 121, 11, 12, 13, 14, 15, 16, 17, 18, 122, 123, 124, 125, 2, 126, 127, 128, 129, 104, 105, 106, 107, 108, 109, 130, 131, 132, 133, 3, 179, 180, 181, 182, 183, 184, 185, 186, 187, 188, 189, 190, 191, 192] (by decide +kernel) (by decide +kernel)
set_option maxRecDepth 20000 in
theorem gX3_readClause_X3_closeBrackets : GoodIn wsX3_readClause (wsV RX3 76 RX3 yX3_closeBrackets wsX3_closeBrackets) := goodIn_app (goodIn_of _ (by decide +kernel)) ggX3_readClause_X3_closeBrackets
set_option maxRecDepth 20000 in
theorem ggX3_readClause_X3_endsHere : GoodIn wsX3_readClause wsX3_endsHere := goodIn_r _ [137, 5, 4, 1, 114, 115, 116, 80, 117, 138, 139, 140, 9, 141, 12, 13, 14, 15, 11, 16, 17, 18, 142, 179, 180, 181, 182, 183, 184, 185, 186, 187, 188, 189, 190, 191, 192] (by decide +kernel) (by decide +kernel)
set_option maxRecDepth 20000 in
theorem gX3_readClause_X3_endsHere : GoodIn wsX3_readClause (wsV RX3 79 RX3 yX3_endsHere wsX3_endsHere) := goodIn_app (goodIn_of _ (by decide +kernel)) ggX3_readClause_X3_endsHere
set_option maxRecDepth 20000 in
theorem ggX3_readClause_X3_unpile : GoodIn wsX3_readClause wsX3_unpile := goodIn_r _ [125, 2, 126, 127, 128, 80, 129, 104, 105, 106, 107, 108, 109, 130, 131, 132, 133, 3, 179, 180, 181, 182, 183, 184, 185, 186, 187] (by decide +kernel) (by decide +kernel)
set_option maxRecDepth 20000 in
theorem gX3_readClause_X3_unpile : GoodIn wsX3_readClause (wsV RX3 82 RX3 yX3_unpile wsX3_unpile) := goodIn_app (goodIn_of _ (by decide +kernel)) ggX3_readClause_X3_unpile
set_option maxRecDepth 20000 in
theorem ggX3_readClause_X3_write : GoodIn wsX3_readClause wsX3_write := goodIn_r _ [107, 108, 109, 179, 180, 181, 182, 183, 184, 185, 186, 187] (by decide +kernel) (by decide +kernel)
set_option maxRecDepth 20000 in
theorem gX3_readClause_X3_write : GoodIn wsX3_readClause (wsV RX3 88 RX3 yX3_write wsX3_write) := goodIn_app (goodIn_of _ (by decide +kernel)) ggX3_readClause_X3_write
set_option maxRecDepth 20000 in
theorem ggX3_readClause_X3_readJoint : GoodIn wsX3_readClause wsX3_readJoint := goodIn_r _ [146, 5, 1, 147, 148, 149, 80, 150, 118, 119, 120, 9, 121, 11, 12, 13, 14, 15, 16, 17, 18, 151, 152, 153, 154, 127, 128, 129, 122, 123, 124, 125, 2, 126, 104, 105, 106, 107, 108, 109, 130, 131, 132, 133, 3, 155, 156, 157, 158, 159, 160, 161, 162, 6, 7, 8, 10, 19, 20, 21, 22, 23, 24, 25, 26, 27, 28, 29, 30, 31, 32, 33, 34, 35, 36, 37, 38, 39, 40, 41, 42, 43, 44, 45, 46, 47, 48, 49, 50, 51, 52, 53, 54, 55, 56, 57, 58, 59, 60, 61, 62, 63, 64, 65, 66, 67, 68, 69, 70, 71, 72, 73, 74, 75, 76, 163, 164, 165, 166, 4, 167, 168, 169, 170, 83, 171, 172, 173, 174, 175, 176, 177, 178, 179, 180, 181, 182, 183, 184, 185, 186, 187, 188, 189, 190, 191, 192] (by decide +kernel) (by decide +kernel)
set_option maxRecDepth 20000 in
theorem gX3_readClause_X3_readJoint : GoodIn wsX3_readClause (wsV RX3 91 RX3 yX3_readJoint wsX3_readJoint) := goodIn_app (goodIn_of _ (by decide +kernel)) ggX3_readClause_X3_readJoint
theorem dX3_readClause_0 : decode cX3_readClause 0 = .ok (.aload_n 0, 1) := by decide +kernel
theorem dX3_readClause_1 : decode cX3_readClause 1 = .ok (.getfield 18, 3) := by decide +kernel
theorem dX3_readClause_4 : decode cX3_readClause 4 = .ok (.ldc 55, 2) := by decide +kernel
theorem dX3_readClause_6 : decode cX3_readClause 6 = .ok (.invokevirtual 57, 3) := by decide +kernel
theorem dX3_readClause_9 : decode cX3_readClause 9 = .ok (.ifCond .ne 12, 3) := by decide +kernel
theorem dX3_readClause_12 : decode cX3_readClause 12 = .ok (.aload_n 0, 1) := by decide +kernel
theorem dX3_readClause_13 : decode cX3_readClause 13 = .ok (.getfield 18, 3) := by decide +kernel
theorem dX3_readClause_16 : decode cX3_readClause 16 = .ok (.iconst 0, 1) := by decide +kernel
theorem dX3_readClause_17 : decode cX3_readClause 17 = .ok (.invokevirtual 52, 3) := by decide +kernel
theorem dX3_readClause_20 : decode cX3_readClause 20 = .ok (.ireturn, 1) := by decide +kernel
theorem dX3_readClause_21 : decode cX3_readClause 21 = .ok (.iload_n 1, 1) := by decide +kernel
theorem dX3_readClause_22 : decode cX3_readClause 22 = .ok (.bipush 12, 2) := by decide +kernel
theorem dX3_readClause_24 : decode cX3_readClause 24 = .ok (.if_icmp .lt 12, 3) := by decide +kernel
theorem dX3_readClause_27 : decode cX3_readClause 27 = .ok (.aload_n 0, 1) := by decide +kernel
theorem dX3_readClause_28 : decode cX3_readClause 28 = .ok (.getfield 18, 3) := by decide +kernel
theorem dX3_readClause_31 : decode cX3_readClause 31 = .ok (.iconst 4, 1) := by decide +kernel
theorem dX3_readClause_32 : decode cX3_readClause 32 = .ok (.invokevirtual 52, 3) := by decide +kernel
theorem dX3_readClause_35 : decode cX3_readClause 35 = .ok (.ireturn, 1) := by decide +kernel
theorem dX3_readClause_36 : decode cX3_readClause 36 = .ok (.aload_n 0, 1) := by decide +kernel
theorem dX3_readClause_37 : decode cX3_readClause 37 = .ok (.iconst 0, 1) := by decide +kernel
theorem dX3_readClause_38 : decode cX3_readClause 38 = .ok (.putfield 61, 3) := by decide +kernel
theorem dX3_readClause_41 : decode cX3_readClause 41 = .ok (.aload_n 0, 1) := by decide +kernel
theorem dX3_readClause_42 : decode cX3_readClause 42 = .ok (.iconst 0, 1) := by decide +kernel
theorem dX3_readClause_43 : decode cX3_readClause 43 = .ok (.putfield 64, 3) := by decide +kernel
theorem dX3_readClause_46 : decode cX3_readClause 46 = .ok (.aload_n 0, 1) := by decide +kernel
theorem dX3_readClause_47 : decode cX3_readClause 47 = .ok (.iconst 0, 1) := by decide +kernel
theorem dX3_readClause_48 : decode cX3_readClause 48 = .ok (.putfield 67, 3) := by decide +kernel
theorem dX3_readClause_51 : decode cX3_readClause 51 = .ok (.aload_n 0, 1) := by decide +kernel
theorem dX3_readClause_52 : decode cX3_readClause 52 = .ok (.iconst 0, 1) := by decide +kernel
theorem dX3_readClause_53 : decode cX3_readClause 53 = .ok (.putfield 70, 3) := by decide +kernel
theorem dX3_readClause_56 : decode cX3_readClause 56 = .ok (.iconst 0, 1) := by decide +kernel
theorem dX3_readClause_57 : decode cX3_readClause 57 = .ok (.istore_n 2, 1) := by decide +kernel
theorem dX3_readClause_58 : decode cX3_readClause 58 = .ok (.iload_n 2, 1) := by decide +kernel
theorem dX3_readClause_59 : decode cX3_readClause 59 = .ok (.sipush 400, 3) := by decide +kernel
theorem dX3_readClause_62 : decode cX3_readClause 62 = .ok (.if_icmp .ge 63, 3) := by decide +kernel
theorem dX3_readClause_65 : decode cX3_readClause 65 = .ok (.aload_n 0, 1) := by decide +kernel
theorem dX3_readClause_66 : decode cX3_readClause 66 = .ok (.invokevirtual 73, 3) := by decide +kernel
theorem dX3_readClause_69 : decode cX3_readClause 69 = .ok (.ifCond .ne 5, 3) := by decide +kernel
theorem dX3_readClause_72 : decode cX3_readClause 72 = .ok (.iconst 0, 1) := by decide +kernel
theorem dX3_readClause_73 : decode cX3_readClause 73 = .ok (.ireturn, 1) := by decide +kernel
theorem dX3_readClause_74 : decode cX3_readClause 74 = .ok (.aload_n 0, 1) := by decide +kernel
theorem dX3_readClause_75 : decode cX3_readClause 75 = .ok (.invokevirtual 76, 3) := by decide +kernel
theorem dX3_readClause_78 : decode cX3_readClause 78 = .ok (.aload_n 0, 1) := by decide +kernel
theorem dX3_readClause_79 : decode cX3_readClause 79 = .ok (.invokevirtual 79, 3) := by decide +kernel
theorem dX3_readClause_82 : decode cX3_readClause 82 = .ok (.ifCond .eq 28, 3) := by decide +kernel
theorem dX3_readClause_85 : decode cX3_readClause 85 = .ok (.aload_n 0, 1) := by decide +kernel
theorem dX3_readClause_86 : decode cX3_readClause 86 = .ok (.iconst 0, 1) := by decide +kernel
theorem dX3_readClause_87 : decode cX3_readClause 87 = .ok (.invokevirtual 82, 3) := by decide +kernel
theorem dX3_readClause_90 : decode cX3_readClause 90 = .ok (.aload_n 0, 1) := by decide +kernel
theorem dX3_readClause_91 : decode cX3_readClause 91 = .ok (.aload_n 0, 1) := by decide +kernel
theorem dX3_readClause_92 : decode cX3_readClause 92 = .ok (.getfield 70, 3) := by decide +kernel
theorem dX3_readClause_95 : decode cX3_readClause 95 = .ok (.ifCond .ne 8, 3) := by decide +kernel
theorem dX3_readClause_98 : decode cX3_readClause 98 = .ok (.bipush (-25), 2) := by decide +kernel
theorem dX3_readClause_100 : decode cX3_readClause 100 = .ok (.goto 5, 3) := by decide +kernel
theorem dX3_readClause_103 : decode cX3_readClause 103 = .ok (.bipush (-26), 2) := by decide +kernel
theorem dX3_readClause_105 : decode cX3_readClause 105 = .ok (.invokevirtual 88, 3) := by decide +kernel
theorem dX3_readClause_108 : decode cX3_readClause 108 = .ok (.iconst 1, 1) := by decide +kernel
theorem dX3_readClause_109 : decode cX3_readClause 109 = .ok (.ireturn, 1) := by decide +kernel
theorem dX3_readClause_110 : decode cX3_readClause 110 = .ok (.aload_n 0, 1) := by decide +kernel
theorem dX3_readClause_111 : decode cX3_readClause 111 = .ok (.invokevirtual 91, 3) := by decide +kernel
theorem dX3_readClause_114 : decode cX3_readClause 114 = .ok (.ifCond .ne 5, 3) := by decide +kernel
theorem dX3_readClause_117 : decode cX3_readClause 117 = .ok (.iconst 0, 1) := by decide +kernel
theorem dX3_readClause_118 : decode cX3_readClause 118 = .ok (.ireturn, 1) := by decide +kernel
theorem dX3_readClause_119 : decode cX3_readClause 119 = .ok (.iinc 2 1, 3) := by decide +kernel
theorem dX3_readClause_122 : decode cX3_readClause 122 = .ok (.goto (-64), 3) := by decide +kernel
theorem dX3_readClause_125 : decode cX3_readClause 125 = .ok (.iconst 0, 1) := by decide +kernel
theorem dX3_readClause_126 : decode cX3_readClause 126 = .ok (.ireturn, 1) := by decide +kernel
set_option maxRecDepth 20000 in
theorem ggX3_readValue_X7_isAtDigit : GoodIn wsX3_readValue wsX7_isAtDigit := goodIn_r _ [8, 9, 10, 11, 7, 12, 13, 14, 15, 16, 17, 18, 19, 111, 112, 113, 114, 115] (by decide +kernel) (by decide +kernel)
set_option maxRecDepth 20000 in
theorem gX3_readValue_X7_isAtDigit : GoodIn wsX3_readValue (wsV RX3 94 RX7 yX7_isAtDigit wsX7_isAtDigit) := goodIn_app (goodIn_of _ (by decide +kernel)) ggX3_readValue_X7_isAtDigit
set_option maxRecDepth 20000 in
theorem ggX3_readValue_X7_takeNumber : GoodIn wsX3_readValue wsX7_takeNumber := goodIn_r _ [23, 13, 14, 16, 9, 10, 11, 7, 12, 15, 17, 18, 19, 24, 25, 26, 27, 28, 29, 30, 31, 32, 111, 112, 113, 114, 115] (by decide +kernel) (by decide +kernel)
set_option maxRecDepth 20000 in
theorem gX3_readValue_X7_takeNumber : GoodIn wsX3_readValue (wsV RX3 98 RX7 yX7_takeNumber wsX7_takeNumber) := goodIn_app (goodIn_of _ (by decide +kernel)) ggX3_readValue_X7_takeNumber
set_option maxRecDepth 20000 in
theorem ggX3_readValue_X3_takeValueWord : GoodIn wsX3_readValue wsX3_takeValueWord := goodIn_r _ [37, 1, 38, 39, 40, 41, 42, 43, 44, 7, 45, 13, 9, 10, 11, 12, 14, 15, 16, 46, 47, 48, 49, 50, 51, 52, 53, 54, 55, 56, 57, 29, 30, 31, 32, 58, 59, 60, 61, 62, 63, 64, 65, 66, 67, 68, 69, 70, 71, 72, 73, 74, 75, 76, 77, 78, 79, 80, 81, 82, 83, 84, 85, 86, 87, 88, 89, 90, 91, 92, 93, 94, 102, 103, 104, 105, 106, 107, 108, 109, 110, 111, 112, 113, 114, 115] (by decide +kernel) (by decide +kernel)
set_option maxRecDepth 20000 in
theorem gX3_readValue_X3_takeValueWord : GoodIn wsX3_readValue (wsV RX3 102 RX3 yX3_takeValueWord wsX3_takeValueWord) := goodIn_app (goodIn_of _ (by decide +kernel)) ggX3_readValue_X3_takeValueWord
set_option maxRecDepth 20000 in
theorem ggX3_readValue_X7_refuse : GoodIn wsX3_readValue wsX7_refuse := goodIn_r _ [27, 28, 16, 111, 112, 113, 114, 115] (by decide +kernel) (by decide +kernel)
set_option maxRecDepth 20000 in
theorem gX3_readValue_X7_refuse : GoodIn wsX3_readValue (wsV RX3 52 RX7 yX7_refuse wsX7_refuse) := goodIn_app (goodIn_of _ (by decide +kernel)) ggX3_readValue_X7_refuse
set_option maxRecDepth 20000 in
theorem ggX3_readValue_X3_write : GoodIn wsX3_readValue wsX3_write := goodIn_r _ [99, 100, 101, 102, 103, 104, 105, 106, 107, 108, 109, 110] (by decide +kernel) (by decide +kernel)
set_option maxRecDepth 20000 in
theorem gX3_readValue_X3_write : GoodIn wsX3_readValue (wsV RX3 88 RX3 yX3_write wsX3_write) := goodIn_app (goodIn_of _ (by decide +kernel)) ggX3_readValue_X3_write
theorem dX3_readValue_0 : decode cX3_readValue 0 = .ok (.aload_n 0, 1) := by decide +kernel
theorem dX3_readValue_1 : decode cX3_readValue 1 = .ok (.getfield 18, 3) := by decide +kernel
theorem dX3_readValue_4 : decode cX3_readValue 4 = .ok (.invokevirtual 94, 3) := by decide +kernel
theorem dX3_readValue_7 : decode cX3_readValue 7 = .ok (.ifCond .eq 16, 3) := by decide +kernel
theorem dX3_readValue_10 : decode cX3_readValue 10 = .ok (.aload_n 0, 1) := by decide +kernel
theorem dX3_readValue_11 : decode cX3_readValue 11 = .ok (.getfield 18, 3) := by decide +kernel
theorem dX3_readValue_14 : decode cX3_readValue 14 = .ok (.iconst 0, 1) := by decide +kernel
theorem dX3_readValue_15 : decode cX3_readValue 15 = .ok (.ldc 97, 2) := by decide +kernel
theorem dX3_readValue_17 : decode cX3_readValue 17 = .ok (.invokevirtual 98, 3) := by decide +kernel
theorem dX3_readValue_20 : decode cX3_readValue 20 = .ok (.goto 7, 3) := by decide +kernel
theorem dX3_readValue_23 : decode cX3_readValue 23 = .ok (.aload_n 0, 1) := by decide +kernel
theorem dX3_readValue_24 : decode cX3_readValue 24 = .ok (.invokevirtual 102, 3) := by decide +kernel
theorem dX3_readValue_27 : decode cX3_readValue 27 = .ok (.istore_n 1, 1) := by decide +kernel
theorem dX3_readValue_28 : decode cX3_readValue 28 = .ok (.iload_n 1, 1) := by decide +kernel
theorem dX3_readValue_29 : decode cX3_readValue 29 = .ok (.iconst (-1), 1) := by decide +kernel
theorem dX3_readValue_30 : decode cX3_readValue 30 = .ok (.if_icmp .ne 12, 3) := by decide +kernel
theorem dX3_readValue_33 : decode cX3_readValue 33 = .ok (.aload_n 0, 1) := by decide +kernel
theorem dX3_readValue_34 : decode cX3_readValue 34 = .ok (.getfield 18, 3) := by decide +kernel
theorem dX3_readValue_37 : decode cX3_readValue 37 = .ok (.iconst 0, 1) := by decide +kernel
theorem dX3_readValue_38 : decode cX3_readValue 38 = .ok (.invokevirtual 52, 3) := by decide +kernel
theorem dX3_readValue_41 : decode cX3_readValue 41 = .ok (.ireturn, 1) := by decide +kernel
theorem dX3_readValue_42 : decode cX3_readValue 42 = .ok (.aload_n 0, 1) := by decide +kernel
theorem dX3_readValue_43 : decode cX3_readValue 43 = .ok (.getfield 32, 3) := by decide +kernel
theorem dX3_readValue_46 : decode cX3_readValue 46 = .ok (.bipush 60, 2) := by decide +kernel
theorem dX3_readValue_48 : decode cX3_readValue 48 = .ok (.if_icmp .lt 12, 3) := by decide +kernel
theorem dX3_readValue_51 : decode cX3_readValue 51 = .ok (.aload_n 0, 1) := by decide +kernel
theorem dX3_readValue_52 : decode cX3_readValue 52 = .ok (.getfield 18, 3) := by decide +kernel
theorem dX3_readValue_55 : decode cX3_readValue 55 = .ok (.iconst 3, 1) := by decide +kernel
theorem dX3_readValue_56 : decode cX3_readValue 56 = .ok (.invokevirtual 52, 3) := by decide +kernel
theorem dX3_readValue_59 : decode cX3_readValue 59 = .ok (.ireturn, 1) := by decide +kernel
theorem dX3_readValue_60 : decode cX3_readValue 60 = .ok (.aload_n 0, 1) := by decide +kernel
theorem dX3_readValue_61 : decode cX3_readValue 61 = .ok (.dup, 1) := by decide +kernel
theorem dX3_readValue_62 : decode cX3_readValue 62 = .ok (.getfield 32, 3) := by decide +kernel
theorem dX3_readValue_65 : decode cX3_readValue 65 = .ok (.iconst 1, 1) := by decide +kernel
theorem dX3_readValue_66 : decode cX3_readValue 66 = .ok (.iadd, 1) := by decide +kernel
theorem dX3_readValue_67 : decode cX3_readValue 67 = .ok (.putfield 32, 3) := by decide +kernel
theorem dX3_readValue_70 : decode cX3_readValue 70 = .ok (.aload_n 0, 1) := by decide +kernel
theorem dX3_readValue_71 : decode cX3_readValue 71 = .ok (.iload_n 1, 1) := by decide +kernel
theorem dX3_readValue_72 : decode cX3_readValue 72 = .ok (.invokevirtual 88, 3) := by decide +kernel
theorem dX3_readValue_75 : decode cX3_readValue 75 = .ok (.iconst 1, 1) := by decide +kernel
theorem dX3_readValue_76 : decode cX3_readValue 76 = .ok (.ireturn, 1) := by decide +kernel
set_option maxRecDepth 20000 in
theorem ggX3_takeValueWord_X10_nameOf : GoodIn wsX3_takeValueWord wsX10_nameOf := goodIn_r _ [5] (by decide +kernel) (by decide +kernel)
set_option maxRecDepth 20000 in
theorem gX3_takeValueWord_X10_nameOf : GoodIn wsX3_takeValueWord (va_wsS RX3 106 yX10_nameOf wsX10_nameOf) := goodIn_app (goodIn_of _ (by decide +kernel)) ggX3_takeValueWord_X10_nameOf
set_option maxRecDepth 20000 in
theorem ggX3_takeValueWord_X7_takesWord : GoodIn wsX3_takeValueWord wsX7_takesWord := goodIn_r _ [10, 11, 12, 13, 14, 9, 15, 16, 17, 18, 19, 20, 21, 22, 23, 24, 25, 26, 27, 28, 29, 30, 31, 32, 33, 34, 35, 36, 37, 38, 39, 40, 41, 42, 43, 44, 45, 46, 47, 48, 49, 50, 51, 52, 53, 54, 55, 56, 57, 58, 59, 60, 61, 62, 63, 64, 65, 66, 67, 68, 69, 70, 71, 81, 82, 83, 84, 85] (by decide +kernel) (by decide +kernel)
set_option maxRecDepth 20000 in
theorem gX3_takeValueWord_X7_takesWord : GoodIn wsX3_takeValueWord (wsV RX3 57 RX7 yX7_takesWord wsX7_takesWord) := goodIn_app (goodIn_of _ (by decide +kernel)) ggX3_takeValueWord_X7_takesWord
theorem dX3_takeValueWord_0 : decode cX3_takeValueWord 0 = .ok (.iconst 0, 1) := by decide +kernel
theorem dX3_takeValueWord_1 : decode cX3_takeValueWord 1 = .ok (.istore_n 1, 1) := by decide +kernel
theorem dX3_takeValueWord_2 : decode cX3_takeValueWord 2 = .ok (.iload_n 1, 1) := by decide +kernel
theorem dX3_takeValueWord_3 : decode cX3_takeValueWord 3 = .ok (.bipush 10, 2) := by decide +kernel
theorem dX3_takeValueWord_5 : decode cX3_takeValueWord 5 = .ok (.if_icmp .ge 28, 3) := by decide +kernel
theorem dX3_takeValueWord_8 : decode cX3_takeValueWord 8 = .ok (.aload_n 0, 1) := by decide +kernel
theorem dX3_takeValueWord_9 : decode cX3_takeValueWord 9 = .ok (.getfield 18, 3) := by decide +kernel
theorem dX3_takeValueWord_12 : decode cX3_takeValueWord 12 = .ok (.iload_n 1, 1) := by decide +kernel
theorem dX3_takeValueWord_13 : decode cX3_takeValueWord 13 = .ok (.invokestatic 106, 3) := by decide +kernel
theorem dX3_takeValueWord_16 : decode cX3_takeValueWord 16 = .ok (.invokevirtual 57, 3) := by decide +kernel
theorem dX3_takeValueWord_19 : decode cX3_takeValueWord 19 = .ok (.ifCond .eq 8, 3) := by decide +kernel
theorem dX3_takeValueWord_22 : decode cX3_takeValueWord 22 = .ok (.bipush (-2), 2) := by decide +kernel
theorem dX3_takeValueWord_24 : decode cX3_takeValueWord 24 = .ok (.iload_n 1, 1) := by decide +kernel
theorem dX3_takeValueWord_25 : decode cX3_takeValueWord 25 = .ok (.isub, 1) := by decide +kernel
theorem dX3_takeValueWord_26 : decode cX3_takeValueWord 26 = .ok (.ireturn, 1) := by decide +kernel
theorem dX3_takeValueWord_27 : decode cX3_takeValueWord 27 = .ok (.iinc 1 1, 3) := by decide +kernel
theorem dX3_takeValueWord_30 : decode cX3_takeValueWord 30 = .ok (.goto (-28), 3) := by decide +kernel
theorem dX3_takeValueWord_33 : decode cX3_takeValueWord 33 = .ok (.iconst (-1), 1) := by decide +kernel
theorem dX3_takeValueWord_34 : decode cX3_takeValueWord 34 = .ok (.ireturn, 1) := by decide +kernel
theorem dX3_isFactWhole_0 : decode cX3_isFactWhole 0 = .ok (.aload_n 0, 1) := by decide +kernel
theorem dX3_isFactWhole_1 : decode cX3_isFactWhole 1 = .ok (.getfield 70, 3) := by decide +kernel
theorem dX3_isFactWhole_4 : decode cX3_isFactWhole 4 = .ok (.iconst 2, 1) := by decide +kernel
theorem dX3_isFactWhole_5 : decode cX3_isFactWhole 5 = .ok (.if_icmp .eq 11, 3) := by decide +kernel
theorem dX3_isFactWhole_8 : decode cX3_isFactWhole 8 = .ok (.aload_n 0, 1) := by decide +kernel
theorem dX3_isFactWhole_9 : decode cX3_isFactWhole 9 = .ok (.getfield 70, 3) := by decide +kernel
theorem dX3_isFactWhole_12 : decode cX3_isFactWhole 12 = .ok (.iconst 3, 1) := by decide +kernel
theorem dX3_isFactWhole_13 : decode cX3_isFactWhole 13 = .ok (.if_icmp .ne 7, 3) := by decide +kernel
theorem dX3_isFactWhole_16 : decode cX3_isFactWhole 16 = .ok (.iconst 1, 1) := by decide +kernel
theorem dX3_isFactWhole_17 : decode cX3_isFactWhole 17 = .ok (.goto 4, 3) := by decide +kernel
theorem dX3_isFactWhole_20 : decode cX3_isFactWhole 20 = .ok (.iconst 0, 1) := by decide +kernel
theorem dX3_isFactWhole_21 : decode cX3_isFactWhole 21 = .ok (.ireturn, 1) := by decide +kernel
set_option maxRecDepth 20000 in
theorem ggX3_closeBrackets_X3_isFactWhole : GoodIn wsX3_closeBrackets wsX3_isFactWhole := goodIn_r _ [8, 3, 42, 43, 44, 45, 46, 47, 48, 49, 50] (by decide +kernel) (by decide +kernel)
set_option maxRecDepth 20000 in
theorem gX3_closeBrackets_X3_isFactWhole : GoodIn wsX3_closeBrackets (wsV RX3 110 RX3 yX3_isFactWhole wsX3_isFactWhole) := goodIn_app (goodIn_of _ (by decide +kernel)) ggX3_closeBrackets_X3_isFactWhole
set_option maxRecDepth 20000 in
theorem ggX3_closeBrackets_X7_takesSign : GoodIn wsX3_closeBrackets wsX7_takesSign := goodIn_r _ [13, 14, 15, 16, 17, 12, 18, 19, 20, 21, 51, 52, 53, 54, 55] (by decide +kernel) (by decide +kernel)
set_option maxRecDepth 20000 in
theorem gX3_closeBrackets_X7_takesSign : GoodIn wsX3_closeBrackets (wsV RX3 48 RX7 yX7_takesSign wsX7_takesSign) := goodIn_app (goodIn_of _ (by decide +kernel)) ggX3_closeBrackets_X7_takesSign
set_option maxRecDepth 20000 in
theorem ggX3_closeBrackets_X3_unpile : GoodIn wsX3_closeBrackets wsX3_unpile := goodIn_r _ [25, 26, 27, 28, 29, 7, 30, 31, 32, 33, 34, 35, 36, 37, 38, 39, 40, 41, 42, 43, 44, 45, 46, 47, 48, 49, 50] (by decide +kernel) (by decide +kernel)
set_option maxRecDepth 20000 in
theorem gX3_closeBrackets_X3_unpile : GoodIn wsX3_closeBrackets (wsV RX3 82 RX3 yX3_unpile wsX3_unpile) := goodIn_app (goodIn_of _ (by decide +kernel)) ggX3_closeBrackets_X3_unpile
set_option maxRecDepth 20000 in
theorem ggX3_closeBrackets_X3_dropTop : GoodIn wsX3_closeBrackets wsX3_dropTop := goodIn_r _ [40, 26, 27, 41, 42, 43, 44, 45, 46, 47, 48, 49, 50] (by decide +kernel) (by decide +kernel)
set_option maxRecDepth 20000 in
theorem gX3_closeBrackets_X3_dropTop : GoodIn wsX3_closeBrackets (wsV RX3 113 RX3 yX3_dropTop wsX3_dropTop) := goodIn_app (goodIn_of _ (by decide +kernel)) ggX3_closeBrackets_X3_dropTop
theorem dX3_closeBrackets_0 : decode cX3_closeBrackets 0 = .ok (.aload_n 0, 1) := by decide +kernel
theorem dX3_closeBrackets_1 : decode cX3_closeBrackets 1 = .ok (.getfield 67, 3) := by decide +kernel
theorem dX3_closeBrackets_4 : decode cX3_closeBrackets 4 = .ok (.ifCond .le 49, 3) := by decide +kernel
theorem dX3_closeBrackets_7 : decode cX3_closeBrackets 7 = .ok (.aload_n 0, 1) := by decide +kernel
theorem dX3_closeBrackets_8 : decode cX3_closeBrackets 8 = .ok (.invokevirtual 110, 3) := by decide +kernel
theorem dX3_closeBrackets_11 : decode cX3_closeBrackets 11 = .ok (.ifCond .eq 42, 3) := by decide +kernel
theorem dX3_closeBrackets_14 : decode cX3_closeBrackets 14 = .ok (.aload_n 0, 1) := by decide +kernel
theorem dX3_closeBrackets_15 : decode cX3_closeBrackets 15 = .ok (.getfield 18, 3) := by decide +kernel
theorem dX3_closeBrackets_18 : decode cX3_closeBrackets 18 = .ok (.bipush 93, 2) := by decide +kernel
theorem dX3_closeBrackets_20 : decode cX3_closeBrackets 20 = .ok (.invokevirtual 48, 3) := by decide +kernel
theorem dX3_closeBrackets_23 : decode cX3_closeBrackets 23 = .ok (.ifCond .eq 30, 3) := by decide +kernel
theorem dX3_closeBrackets_26 : decode cX3_closeBrackets 26 = .ok (.aload_n 0, 1) := by decide +kernel
theorem dX3_closeBrackets_27 : decode cX3_closeBrackets 27 = .ok (.iconst 0, 1) := by decide +kernel
theorem dX3_closeBrackets_28 : decode cX3_closeBrackets 28 = .ok (.invokevirtual 82, 3) := by decide +kernel
theorem dX3_closeBrackets_31 : decode cX3_closeBrackets 31 = .ok (.aload_n 0, 1) := by decide +kernel
theorem dX3_closeBrackets_32 : decode cX3_closeBrackets 32 = .ok (.invokevirtual 113, 3) := by decide +kernel
theorem dX3_closeBrackets_35 : decode cX3_closeBrackets 35 = .ok (.aload_n 0, 1) := by decide +kernel
theorem dX3_closeBrackets_36 : decode cX3_closeBrackets 36 = .ok (.dup, 1) := by decide +kernel
theorem dX3_closeBrackets_37 : decode cX3_closeBrackets 37 = .ok (.getfield 67, 3) := by decide +kernel
theorem dX3_closeBrackets_40 : decode cX3_closeBrackets 40 = .ok (.iconst 1, 1) := by decide +kernel
theorem dX3_closeBrackets_41 : decode cX3_closeBrackets 41 = .ok (.isub, 1) := by decide +kernel
theorem dX3_closeBrackets_42 : decode cX3_closeBrackets 42 = .ok (.putfield 67, 3) := by decide +kernel
theorem dX3_closeBrackets_45 : decode cX3_closeBrackets 45 = .ok (.aload_n 0, 1) := by decide +kernel
theorem dX3_closeBrackets_46 : decode cX3_closeBrackets 46 = .ok (.iconst 3, 1) := by decide +kernel
theorem dX3_closeBrackets_47 : decode cX3_closeBrackets 47 = .ok (.putfield 70, 3) := by decide +kernel
theorem dX3_closeBrackets_50 : decode cX3_closeBrackets 50 = .ok (.goto (-50), 3) := by decide +kernel
theorem dX3_closeBrackets_53 : decode cX3_closeBrackets 53 = .ok (.return_, 1) := by decide +kernel
set_option maxRecDepth 20000 in
theorem ggX3_endsHere_X3_isFactWhole : GoodIn wsX3_endsHere wsX3_isFactWhole := goodIn_r _ [8, 1, 23, 24, 25, 26, 27, 28, 29, 30, 31] (by decide +kernel) (by decide +kernel)
set_option maxRecDepth 20000 in
theorem gX3_endsHere_X3_isFactWhole : GoodIn wsX3_endsHere (wsV RX3 110 RX3 yX3_isFactWhole wsX3_isFactWhole) := goodIn_app (goodIn_of _ (by decide +kernel)) ggX3_endsHere_X3_isFactWhole
set_option maxRecDepth 20000 in
theorem ggX3_endsHere_X7_isAtEnd : GoodIn wsX3_endsHere wsX7_isAtEnd := goodIn_r _ [13, 14, 15, 16, 12, 17, 18, 19, 20, 21, 32, 33, 34, 35, 36] (by decide +kernel) (by decide +kernel)
set_option maxRecDepth 20000 in
theorem gX3_endsHere_X7_isAtEnd : GoodIn wsX3_endsHere (wsV RX3 44 RX7 yX7_isAtEnd wsX7_isAtEnd) := goodIn_app (goodIn_of _ (by decide +kernel)) ggX3_endsHere_X7_isAtEnd
set_option maxRecDepth 20000 in
theorem ggX3_endsHere_X7_look : GoodIn wsX3_endsHere wsX7_look := goodIn_r _ [17, 18, 19, 20, 21, 32, 33, 34, 35, 36] (by decide +kernel) (by decide +kernel)
set_option maxRecDepth 20000 in
theorem gX3_endsHere_X7_look : GoodIn wsX3_endsHere (wsV RX3 116 RX7 yX7_look wsX7_look) := goodIn_app (goodIn_of _ (by decide +kernel)) ggX3_endsHere_X7_look
theorem dX3_endsHere_0 : decode cX3_endsHere 0 = .ok (.aload_n 0, 1) := by decide +kernel
theorem dX3_endsHere_1 : decode cX3_endsHere 1 = .ok (.getfield 70, 3) := by decide +kernel
theorem dX3_endsHere_4 : decode cX3_endsHere 4 = .ok (.ifCond .eq 17, 3) := by decide +kernel
theorem dX3_endsHere_7 : decode cX3_endsHere 7 = .ok (.aload_n 0, 1) := by decide +kernel
theorem dX3_endsHere_8 : decode cX3_endsHere 8 = .ok (.getfield 67, 3) := by decide +kernel
theorem dX3_endsHere_11 : decode cX3_endsHere 11 = .ok (.ifCond .ne 14, 3) := by decide +kernel
theorem dX3_endsHere_14 : decode cX3_endsHere 14 = .ok (.aload_n 0, 1) := by decide +kernel
theorem dX3_endsHere_15 : decode cX3_endsHere 15 = .ok (.invokevirtual 110, 3) := by decide +kernel
theorem dX3_endsHere_18 : decode cX3_endsHere 18 = .ok (.ifCond .eq 7, 3) := by decide +kernel
theorem dX3_endsHere_21 : decode cX3_endsHere 21 = .ok (.iconst 1, 1) := by decide +kernel
theorem dX3_endsHere_22 : decode cX3_endsHere 22 = .ok (.goto 4, 3) := by decide +kernel
theorem dX3_endsHere_25 : decode cX3_endsHere 25 = .ok (.iconst 0, 1) := by decide +kernel
theorem dX3_endsHere_26 : decode cX3_endsHere 26 = .ok (.istore_n 1, 1) := by decide +kernel
theorem dX3_endsHere_27 : decode cX3_endsHere 27 = .ok (.iload_n 1, 1) := by decide +kernel
theorem dX3_endsHere_28 : decode cX3_endsHere 28 = .ok (.ifCond .eq 29, 3) := by decide +kernel
theorem dX3_endsHere_31 : decode cX3_endsHere 31 = .ok (.aload_n 0, 1) := by decide +kernel
theorem dX3_endsHere_32 : decode cX3_endsHere 32 = .ok (.getfield 18, 3) := by decide +kernel
theorem dX3_endsHere_35 : decode cX3_endsHere 35 = .ok (.invokevirtual 44, 3) := by decide +kernel
theorem dX3_endsHere_38 : decode cX3_endsHere 38 = .ok (.ifCond .ne 15, 3) := by decide +kernel
theorem dX3_endsHere_41 : decode cX3_endsHere 41 = .ok (.aload_n 0, 1) := by decide +kernel
theorem dX3_endsHere_42 : decode cX3_endsHere 42 = .ok (.getfield 18, 3) := by decide +kernel
theorem dX3_endsHere_45 : decode cX3_endsHere 45 = .ok (.invokevirtual 116, 3) := by decide +kernel
theorem dX3_endsHere_48 : decode cX3_endsHere 48 = .ok (.bipush 59, 2) := by decide +kernel
theorem dX3_endsHere_50 : decode cX3_endsHere 50 = .ok (.if_icmp .ne 7, 3) := by decide +kernel
theorem dX3_endsHere_53 : decode cX3_endsHere 53 = .ok (.iconst 1, 1) := by decide +kernel
theorem dX3_endsHere_54 : decode cX3_endsHere 54 = .ok (.goto 4, 3) := by decide +kernel
theorem dX3_endsHere_57 : decode cX3_endsHere 57 = .ok (.iconst 0, 1) := by decide +kernel
theorem dX3_endsHere_58 : decode cX3_endsHere 58 = .ok (.ireturn, 1) := by decide +kernel
set_option maxRecDepth 20000 in
theorem ggX3_readJoint_X3_takeArithmetic : GoodIn wsX3_readJoint wsX3_takeArithmetic := goodIn_r _ [7, 2, 8, 9, 10, 11, 12, 13, 14, 15, 16, 17, 18, 19, 20, 133, 134, 135, 136, 137, 138, 139, 140, 141, 142, 143, 144, 145, 146] (by decide +kernel) (by decide +kernel)
set_option maxRecDepth 20000 in
theorem gX3_readJoint_X3_takeArithmetic : GoodIn wsX3_readJoint (wsV RX3 119 RX3 yX3_takeArithmetic wsX3_takeArithmetic) := goodIn_app (goodIn_of _ (by decide +kernel)) ggX3_readJoint_X3_takeArithmetic
set_option maxRecDepth 20000 in
theorem ggX3_readJoint_X3_pileUp : GoodIn wsX3_readJoint wsX3_pileUp := goodIn_r _ [24, 25, 26, 6, 27, 28, 29, 30, 31, 32, 33, 34, 35, 36, 37, 38, 39, 40, 41, 42, 43, 44, 45, 46, 47, 48, 133, 134, 135, 136, 137, 138, 139, 140, 141] (by decide +kernel) (by decide +kernel)
set_option maxRecDepth 20000 in
theorem gX3_readJoint_X3_pileUp : GoodIn wsX3_readJoint (wsV RX3 122 RX3 yX3_pileUp wsX3_pileUp) := goodIn_app (goodIn_of _ (by decide +kernel)) ggX3_readJoint_X3_pileUp
set_option maxRecDepth 20000 in
theorem ggX3_readJoint_X3_readIf : GoodIn wsX3_readJoint wsX3_readIf := goodIn_r _ [52, 2, 53, 54, 55, 11, 56, 13, 14, 15, 16, 17, 18, 19, 20, 57, 58, 59, 60, 61, 62, 63, 64, 65, 66, 67, 68, 69, 70, 71, 72, 73, 74, 75, 76, 77, 78, 79, 80, 81, 82, 83, 84, 85, 86, 87, 88, 89, 90, 91, 92, 93, 94, 95, 96, 97, 98, 99, 100, 101, 102, 103, 104, 105, 106, 107, 108, 109, 110, 111, 112, 113, 114, 28, 29, 30, 6, 31, 32, 33, 25, 26, 27, 34, 35, 36, 37, 38, 39, 40, 41, 42, 43, 44, 115, 116, 117, 118, 1, 119, 8, 9, 10, 12, 45, 46, 47, 48, 133, 134, 135, 136, 137, 138, 139, 140, 141, 142, 143, 144, 145, 146] (by decide +kernel) (by decide +kernel)
set_option maxRecDepth 20000 in
theorem gX3_readJoint_X3_readIf : GoodIn wsX3_readJoint (wsV RX3 125 RX3 yX3_readIf wsX3_readIf) := goodIn_app (goodIn_of _ (by decide +kernel)) ggX3_readJoint_X3_readIf
set_option maxRecDepth 20000 in
theorem ggX3_readJoint_X3_readComparison : GoodIn wsX3_readJoint wsX3_readComparison := goodIn_r _ [123, 2, 124, 1, 125, 126, 127, 6, 128, 8, 9, 10, 11, 12, 13, 14, 15, 16, 17, 18, 19, 20, 129, 130, 131, 132, 69, 70, 71, 72, 110, 111, 112, 113, 114, 21, 22, 23, 24, 25, 26, 27, 28, 29, 30, 31, 32, 33, 34, 35, 36, 37, 38, 39, 40, 41, 42, 43, 44, 45, 46, 47, 48, 133, 134, 135, 136, 137, 138, 139, 140, 141, 142, 143, 144, 145, 146] (by decide +kernel) (by decide +kernel)
set_option maxRecDepth 20000 in
theorem gX3_readJoint_X3_readComparison : GoodIn wsX3_readJoint (wsV RX3 128 RX3 yX3_readComparison wsX3_readComparison) := goodIn_app (goodIn_of _ (by decide +kernel)) ggX3_readJoint_X3_readComparison
set_option maxRecDepth 20000 in
theorem ggX3_readJoint_X7_takesWord : GoodIn wsX3_readJoint wsX7_takesWord := goodIn_r _ [56, 13, 14, 15, 16, 11, 17, 18, 19, 20, 57, 58, 59, 60, 61, 62, 63, 64, 65, 66, 67, 68, 69, 70, 71, 72, 73, 74, 75, 76, 77, 78, 79, 80, 81, 82, 83, 84, 85, 86, 87, 88, 89, 90, 91, 92, 93, 94, 95, 96, 97, 98, 99, 100, 101, 102, 103, 104, 105, 106, 107, 108, 109, 142, 143, 144, 145, 146] (by decide +kernel) (by decide +kernel)
set_option maxRecDepth 20000 in
theorem gX3_readJoint_X7_takesWord : GoodIn wsX3_readJoint (wsV RX3 57 RX7 yX7_takesWord wsX7_takesWord) := goodIn_app (goodIn_of _ (by decide +kernel)) ggX3_readJoint_X7_takesWord
set_option maxRecDepth 20000 in
theorem ggX3_readJoint_X7_refuse : GoodIn wsX3_readJoint wsX7_refuse := goodIn_r _ [113, 114, 20, 142, 143, 144, 145, 146] (by decide +kernel) (by decide +kernel)
set_option maxRecDepth 20000 in
theorem gX3_readJoint_X7_refuse : GoodIn wsX3_readJoint (wsV RX3 52 RX7 yX7_refuse wsX7_refuse) := goodIn_app (goodIn_of _ (by decide +kernel)) ggX3_readJoint_X7_refuse
set_option maxRecDepth 20000 in
theorem ggX3_readJoint_X3_beginFact : GoodIn wsX3_readJoint wsX3_beginFact := goodIn_r _ [118, 1, 2, 44, 119, 8, 9, 10, 11, 12, 13, 14, 15, 16, 17, 18, 19, 20, 53, 54, 55, 56, 57, 58, 59, 60, 61, 62, 63, 64, 65, 66, 67, 68, 69, 70, 71, 72, 73, 74, 75, 76, 77, 78, 79, 80, 81, 82, 83, 84, 85, 86, 87, 88, 89, 90, 91, 92, 93, 94, 95, 96, 97, 98, 99, 100, 101, 102, 103, 104, 105, 106, 107, 108, 109, 110, 111, 112, 113, 114, 45, 46, 47, 6, 48, 32, 33, 133, 134, 135, 136, 137, 138, 139, 140, 141, 142, 143, 144, 145, 146] (by decide +kernel) (by decide +kernel)
set_option maxRecDepth 20000 in
theorem gX3_readJoint_X3_beginFact : GoodIn wsX3_readJoint (wsV RX3 135 RX3 yX3_beginFact wsX3_beginFact) := goodIn_app (goodIn_of _ (by decide +kernel)) ggX3_readJoint_X3_beginFact
theorem dX3_readJoint_0 : decode cX3_readJoint 0 = .ok (.aload_n 0, 1) := by decide +kernel
theorem dX3_readJoint_1 : decode cX3_readJoint 1 = .ok (.getfield 70, 3) := by decide +kernel
theorem dX3_readJoint_4 : decode cX3_readJoint 4 = .ok (.iconst 3, 1) := by decide +kernel
theorem dX3_readJoint_5 : decode cX3_readJoint 5 = .ok (.if_icmp .ne 7, 3) := by decide +kernel
theorem dX3_readJoint_8 : decode cX3_readJoint 8 = .ok (.iconst 0, 1) := by decide +kernel
theorem dX3_readJoint_9 : decode cX3_readJoint 9 = .ok (.goto 7, 3) := by decide +kernel
theorem dX3_readJoint_12 : decode cX3_readJoint 12 = .ok (.aload_n 0, 1) := by decide +kernel
theorem dX3_readJoint_13 : decode cX3_readJoint 13 = .ok (.invokevirtual 119, 3) := by decide +kernel
theorem dX3_readJoint_16 : decode cX3_readJoint 16 = .ok (.istore_n 1, 1) := by decide +kernel
theorem dX3_readJoint_17 : decode cX3_readJoint 17 = .ok (.iload_n 1, 1) := by decide +kernel
theorem dX3_readJoint_18 : decode cX3_readJoint 18 = .ok (.ifCond .eq 10, 3) := by decide +kernel
theorem dX3_readJoint_21 : decode cX3_readJoint 21 = .ok (.aload_n 0, 1) := by decide +kernel
theorem dX3_readJoint_22 : decode cX3_readJoint 22 = .ok (.iload_n 1, 1) := by decide +kernel
theorem dX3_readJoint_23 : decode cX3_readJoint 23 = .ok (.invokevirtual 122, 3) := by decide +kernel
theorem dX3_readJoint_26 : decode cX3_readJoint 26 = .ok (.iconst 1, 1) := by decide +kernel
theorem dX3_readJoint_27 : decode cX3_readJoint 27 = .ok (.ireturn, 1) := by decide +kernel
theorem dX3_readJoint_28 : decode cX3_readJoint 28 = .ok (.aload_n 0, 1) := by decide +kernel
theorem dX3_readJoint_29 : decode cX3_readJoint 29 = .ok (.getfield 70, 3) := by decide +kernel
theorem dX3_readJoint_32 : decode cX3_readJoint 32 = .ok (.ifCond .ne 8, 3) := by decide +kernel
theorem dX3_readJoint_35 : decode cX3_readJoint 35 = .ok (.aload_n 0, 1) := by decide +kernel
theorem dX3_readJoint_36 : decode cX3_readJoint 36 = .ok (.invokevirtual 125, 3) := by decide +kernel
theorem dX3_readJoint_39 : decode cX3_readJoint 39 = .ok (.ireturn, 1) := by decide +kernel
theorem dX3_readJoint_40 : decode cX3_readJoint 40 = .ok (.aload_n 0, 1) := by decide +kernel
theorem dX3_readJoint_41 : decode cX3_readJoint 41 = .ok (.getfield 70, 3) := by decide +kernel
theorem dX3_readJoint_44 : decode cX3_readJoint 44 = .ok (.iconst 1, 1) := by decide +kernel
theorem dX3_readJoint_45 : decode cX3_readJoint 45 = .ok (.if_icmp .ne 8, 3) := by decide +kernel
theorem dX3_readJoint_48 : decode cX3_readJoint 48 = .ok (.aload_n 0, 1) := by decide +kernel
theorem dX3_readJoint_49 : decode cX3_readJoint 49 = .ok (.invokevirtual 128, 3) := by decide +kernel
theorem dX3_readJoint_52 : decode cX3_readJoint 52 = .ok (.ireturn, 1) := by decide +kernel
theorem dX3_readJoint_53 : decode cX3_readJoint 53 = .ok (.aload_n 0, 1) := by decide +kernel
theorem dX3_readJoint_54 : decode cX3_readJoint 54 = .ok (.getfield 18, 3) := by decide +kernel
theorem dX3_readJoint_57 : decode cX3_readJoint 57 = .ok (.ldc 131, 2) := by decide +kernel
theorem dX3_readJoint_59 : decode cX3_readJoint 59 = .ok (.invokevirtual 57, 3) := by decide +kernel
theorem dX3_readJoint_62 : decode cX3_readJoint 62 = .ok (.ifCond .eq 8, 3) := by decide +kernel
theorem dX3_readJoint_65 : decode cX3_readJoint 65 = .ok (.bipush (-23), 2) := by decide +kernel
theorem dX3_readJoint_67 : decode cX3_readJoint 67 = .ok (.goto 21, 3) := by decide +kernel
theorem dX3_readJoint_70 : decode cX3_readJoint 70 = .ok (.aload_n 0, 1) := by decide +kernel
theorem dX3_readJoint_71 : decode cX3_readJoint 71 = .ok (.getfield 18, 3) := by decide +kernel
theorem dX3_readJoint_74 : decode cX3_readJoint 74 = .ok (.ldc 133, 2) := by decide +kernel
theorem dX3_readJoint_76 : decode cX3_readJoint 76 = .ok (.invokevirtual 57, 3) := by decide +kernel
theorem dX3_readJoint_79 : decode cX3_readJoint 79 = .ok (.ifCond .eq 8, 3) := by decide +kernel
theorem dX3_readJoint_82 : decode cX3_readJoint 82 = .ok (.bipush (-24), 2) := by decide +kernel
theorem dX3_readJoint_84 : decode cX3_readJoint 84 = .ok (.goto 4, 3) := by decide +kernel
theorem dX3_readJoint_87 : decode cX3_readJoint 87 = .ok (.iconst 0, 1) := by decide +kernel
theorem dX3_readJoint_88 : decode cX3_readJoint 88 = .ok (.istore_n 1, 1) := by decide +kernel
theorem dX3_readJoint_89 : decode cX3_readJoint 89 = .ok (.iload_n 1, 1) := by decide +kernel
theorem dX3_readJoint_90 : decode cX3_readJoint 90 = .ok (.ifCond .ne 12, 3) := by decide +kernel
theorem dX3_readJoint_93 : decode cX3_readJoint 93 = .ok (.aload_n 0, 1) := by decide +kernel
theorem dX3_readJoint_94 : decode cX3_readJoint 94 = .ok (.getfield 18, 3) := by decide +kernel
theorem dX3_readJoint_97 : decode cX3_readJoint 97 = .ok (.iconst 0, 1) := by decide +kernel
theorem dX3_readJoint_98 : decode cX3_readJoint 98 = .ok (.invokevirtual 52, 3) := by decide +kernel
theorem dX3_readJoint_101 : decode cX3_readJoint 101 = .ok (.ireturn, 1) := by decide +kernel
theorem dX3_readJoint_102 : decode cX3_readJoint 102 = .ok (.aload_n 0, 1) := by decide +kernel
theorem dX3_readJoint_103 : decode cX3_readJoint 103 = .ok (.iload_n 1, 1) := by decide +kernel
theorem dX3_readJoint_104 : decode cX3_readJoint 104 = .ok (.invokevirtual 122, 3) := by decide +kernel
theorem dX3_readJoint_107 : decode cX3_readJoint 107 = .ok (.aload_n 0, 1) := by decide +kernel
theorem dX3_readJoint_108 : decode cX3_readJoint 108 = .ok (.invokevirtual 135, 3) := by decide +kernel
theorem dX3_readJoint_111 : decode cX3_readJoint 111 = .ok (.ireturn, 1) := by decide +kernel
set_option maxRecDepth 20000 in
theorem ggX3_takeArithmetic_X7_takesSign : GoodIn wsX3_takeArithmetic wsX7_takesSign := goodIn_r _ [6, 7, 8, 9, 10, 5, 11, 12, 13, 14, 24, 25, 26, 27, 28] (by decide +kernel) (by decide +kernel)
set_option maxRecDepth 20000 in
theorem gX3_takeArithmetic_X7_takesSign : GoodIn wsX3_takeArithmetic (wsV RX3 48 RX7 yX7_takesSign wsX7_takesSign) := goodIn_app (goodIn_of _ (by decide +kernel)) ggX3_takeArithmetic_X7_takesSign
theorem dX3_takeArithmetic_0 : decode cX3_takeArithmetic 0 = .ok (.aload_n 0, 1) := by decide +kernel
theorem dX3_takeArithmetic_1 : decode cX3_takeArithmetic 1 = .ok (.getfield 18, 3) := by decide +kernel
theorem dX3_takeArithmetic_4 : decode cX3_takeArithmetic 4 = .ok (.bipush 42, 2) := by decide +kernel
theorem dX3_takeArithmetic_6 : decode cX3_takeArithmetic 6 = .ok (.invokevirtual 48, 3) := by decide +kernel
theorem dX3_takeArithmetic_9 : decode cX3_takeArithmetic 9 = .ok (.ifCond .eq 6, 3) := by decide +kernel
theorem dX3_takeArithmetic_12 : decode cX3_takeArithmetic 12 = .ok (.bipush (-12), 2) := by decide +kernel
theorem dX3_takeArithmetic_14 : decode cX3_takeArithmetic 14 = .ok (.ireturn, 1) := by decide +kernel
theorem dX3_takeArithmetic_15 : decode cX3_takeArithmetic 15 = .ok (.aload_n 0, 1) := by decide +kernel
theorem dX3_takeArithmetic_16 : decode cX3_takeArithmetic 16 = .ok (.getfield 18, 3) := by decide +kernel
theorem dX3_takeArithmetic_19 : decode cX3_takeArithmetic 19 = .ok (.bipush 47, 2) := by decide +kernel
theorem dX3_takeArithmetic_21 : decode cX3_takeArithmetic 21 = .ok (.invokevirtual 48, 3) := by decide +kernel
theorem dX3_takeArithmetic_24 : decode cX3_takeArithmetic 24 = .ok (.ifCond .eq 6, 3) := by decide +kernel
theorem dX3_takeArithmetic_27 : decode cX3_takeArithmetic 27 = .ok (.bipush (-13), 2) := by decide +kernel
theorem dX3_takeArithmetic_29 : decode cX3_takeArithmetic 29 = .ok (.ireturn, 1) := by decide +kernel
theorem dX3_takeArithmetic_30 : decode cX3_takeArithmetic 30 = .ok (.aload_n 0, 1) := by decide +kernel
theorem dX3_takeArithmetic_31 : decode cX3_takeArithmetic 31 = .ok (.getfield 18, 3) := by decide +kernel
theorem dX3_takeArithmetic_34 : decode cX3_takeArithmetic 34 = .ok (.bipush 37, 2) := by decide +kernel
theorem dX3_takeArithmetic_36 : decode cX3_takeArithmetic 36 = .ok (.invokevirtual 48, 3) := by decide +kernel
theorem dX3_takeArithmetic_39 : decode cX3_takeArithmetic 39 = .ok (.ifCond .eq 6, 3) := by decide +kernel
theorem dX3_takeArithmetic_42 : decode cX3_takeArithmetic 42 = .ok (.bipush (-14), 2) := by decide +kernel
theorem dX3_takeArithmetic_44 : decode cX3_takeArithmetic 44 = .ok (.ireturn, 1) := by decide +kernel
theorem dX3_takeArithmetic_45 : decode cX3_takeArithmetic 45 = .ok (.aload_n 0, 1) := by decide +kernel
theorem dX3_takeArithmetic_46 : decode cX3_takeArithmetic 46 = .ok (.getfield 18, 3) := by decide +kernel
theorem dX3_takeArithmetic_49 : decode cX3_takeArithmetic 49 = .ok (.bipush 43, 2) := by decide +kernel
theorem dX3_takeArithmetic_51 : decode cX3_takeArithmetic 51 = .ok (.invokevirtual 48, 3) := by decide +kernel
theorem dX3_takeArithmetic_54 : decode cX3_takeArithmetic 54 = .ok (.ifCond .eq 6, 3) := by decide +kernel
theorem dX3_takeArithmetic_57 : decode cX3_takeArithmetic 57 = .ok (.bipush (-15), 2) := by decide +kernel
theorem dX3_takeArithmetic_59 : decode cX3_takeArithmetic 59 = .ok (.ireturn, 1) := by decide +kernel
theorem dX3_takeArithmetic_60 : decode cX3_takeArithmetic 60 = .ok (.aload_n 0, 1) := by decide +kernel
theorem dX3_takeArithmetic_61 : decode cX3_takeArithmetic 61 = .ok (.getfield 18, 3) := by decide +kernel
theorem dX3_takeArithmetic_64 : decode cX3_takeArithmetic 64 = .ok (.bipush 45, 2) := by decide +kernel
theorem dX3_takeArithmetic_66 : decode cX3_takeArithmetic 66 = .ok (.invokevirtual 48, 3) := by decide +kernel
theorem dX3_takeArithmetic_69 : decode cX3_takeArithmetic 69 = .ok (.ifCond .eq 8, 3) := by decide +kernel
theorem dX3_takeArithmetic_72 : decode cX3_takeArithmetic 72 = .ok (.bipush (-16), 2) := by decide +kernel
theorem dX3_takeArithmetic_74 : decode cX3_takeArithmetic 74 = .ok (.goto 4, 3) := by decide +kernel
theorem dX3_takeArithmetic_77 : decode cX3_takeArithmetic 77 = .ok (.iconst 0, 1) := by decide +kernel
theorem dX3_takeArithmetic_78 : decode cX3_takeArithmetic 78 = .ok (.ireturn, 1) := by decide +kernel
set_option maxRecDepth 20000 in
theorem ggX3_readIf_X7_takesWord : GoodIn wsX3_readIf wsX7_takesWord := goodIn_r _ [6, 7, 8, 9, 10, 5, 11, 12, 13, 14, 15, 16, 17, 18, 19, 20, 21, 22, 23, 24, 25, 26, 27, 28, 29, 30, 31, 32, 33, 34, 35, 36, 37, 38, 39, 40, 41, 42, 43, 44, 45, 46, 47, 48, 49, 50, 51, 52, 53, 54, 55, 56, 57, 58, 59, 60, 61, 62, 63, 64, 65, 66, 67, 117, 118, 119, 120, 121] (by decide +kernel) (by decide +kernel)
set_option maxRecDepth 20000 in
theorem gX3_readIf_X7_takesWord : GoodIn wsX3_readIf (wsV RX3 57 RX7 yX7_takesWord wsX7_takesWord) := goodIn_app (goodIn_of _ (by decide +kernel)) ggX3_readIf_X7_takesWord
set_option maxRecDepth 20000 in
theorem ggX3_readIf_X7_refuse : GoodIn wsX3_readIf wsX7_refuse := goodIn_r _ [71, 72, 14, 117, 118, 119, 120, 121] (by decide +kernel) (by decide +kernel)
set_option maxRecDepth 20000 in
theorem gX3_readIf_X7_refuse : GoodIn wsX3_readIf (wsV RX3 52 RX7 yX7_refuse wsX7_refuse) := goodIn_app (goodIn_of _ (by decide +kernel)) ggX3_readIf_X7_refuse
set_option maxRecDepth 20000 in
theorem ggX3_readIf_X3_unpile : GoodIn wsX3_readIf wsX3_unpile := goodIn_r _ [77, 78, 79, 80, 81, 76, 82, 83, 84, 85, 86, 87, 88, 89, 90, 91, 92, 93, 108, 109, 110, 111, 112, 113, 114, 115, 116] (by decide +kernel) (by decide +kernel)
set_option maxRecDepth 20000 in
theorem gX3_readIf_X3_unpile : GoodIn wsX3_readIf (wsV RX3 82 RX3 yX3_unpile wsX3_unpile) := goodIn_app (goodIn_of _ (by decide +kernel)) ggX3_readIf_X3_unpile
set_option maxRecDepth 20000 in
theorem ggX3_readIf_X3_beginFact : GoodIn wsX3_readIf wsX3_beginFact := goodIn_r _ [97, 98, 1, 93, 99, 100, 101, 102, 5, 103, 7, 8, 9, 10, 11, 12, 13, 14, 2, 3, 4, 6, 15, 16, 17, 18, 19, 20, 21, 22, 23, 24, 25, 26, 27, 28, 29, 30, 31, 32, 33, 34, 35, 36, 37, 38, 39, 40, 41, 42, 43, 44, 45, 46, 47, 48, 49, 50, 51, 52, 53, 54, 55, 56, 57, 58, 59, 60, 61, 62, 63, 64, 65, 66, 67, 68, 69, 70, 71, 72, 104, 105, 106, 76, 107, 78, 79, 108, 109, 110, 111, 112, 113, 114, 115, 116, 117, 118, 119, 120, 121] (by decide +kernel) (by decide +kernel)
set_option maxRecDepth 20000 in
theorem gX3_readIf_X3_beginFact : GoodIn wsX3_readIf (wsV RX3 135 RX3 yX3_beginFact wsX3_beginFact) := goodIn_app (goodIn_of _ (by decide +kernel)) ggX3_readIf_X3_beginFact
theorem dX3_readIf_0 : decode cX3_readIf 0 = .ok (.aload_n 0, 1) := by decide +kernel
theorem dX3_readIf_1 : decode cX3_readIf 1 = .ok (.getfield 18, 3) := by decide +kernel
theorem dX3_readIf_4 : decode cX3_readIf 4 = .ok (.ldc 138, 2) := by decide +kernel
theorem dX3_readIf_6 : decode cX3_readIf 6 = .ok (.invokevirtual 57, 3) := by decide +kernel
theorem dX3_readIf_9 : decode cX3_readIf 9 = .ok (.ifCond .ne 12, 3) := by decide +kernel
theorem dX3_readIf_12 : decode cX3_readIf 12 = .ok (.aload_n 0, 1) := by decide +kernel
theorem dX3_readIf_13 : decode cX3_readIf 13 = .ok (.getfield 18, 3) := by decide +kernel
theorem dX3_readIf_16 : decode cX3_readIf 16 = .ok (.iconst 0, 1) := by decide +kernel
theorem dX3_readIf_17 : decode cX3_readIf 17 = .ok (.invokevirtual 52, 3) := by decide +kernel
theorem dX3_readIf_20 : decode cX3_readIf 20 = .ok (.ireturn, 1) := by decide +kernel
theorem dX3_readIf_21 : decode cX3_readIf 21 = .ok (.aload_n 0, 1) := by decide +kernel
theorem dX3_readIf_22 : decode cX3_readIf 22 = .ok (.iconst 0, 1) := by decide +kernel
theorem dX3_readIf_23 : decode cX3_readIf 23 = .ok (.invokevirtual 82, 3) := by decide +kernel
theorem dX3_readIf_26 : decode cX3_readIf 26 = .ok (.aload_n 0, 1) := by decide +kernel
theorem dX3_readIf_27 : decode cX3_readIf 27 = .ok (.invokevirtual 135, 3) := by decide +kernel
theorem dX3_readIf_30 : decode cX3_readIf 30 = .ok (.ireturn, 1) := by decide +kernel
set_option maxRecDepth 20000 in
theorem ggX3_readComparison_X3_takeComparison : GoodIn wsX3_readComparison wsX3_takeComparison := goodIn_r _ [8, 1, 9, 10, 11, 12, 13, 14, 15, 16, 17, 18, 19, 20, 21, 22, 23, 24, 25, 26, 27, 28, 29, 63, 64, 65, 66, 67, 68, 69, 70, 71, 72, 73, 74, 75, 76] (by decide +kernel) (by decide +kernel)
set_option maxRecDepth 20000 in
theorem gX3_readComparison_X3_takeComparison : GoodIn wsX3_readComparison (wsV RX3 140 RX3 yX3_takeComparison wsX3_takeComparison) := goodIn_app (goodIn_of _ (by decide +kernel)) ggX3_readComparison_X3_takeComparison
set_option maxRecDepth 20000 in
theorem ggX3_readComparison_X7_refuse : GoodIn wsX3_readComparison wsX7_refuse := goodIn_r _ [33, 34, 21, 72, 73, 74, 75, 76] (by decide +kernel) (by decide +kernel)
set_option maxRecDepth 20000 in
theorem gX3_readComparison_X7_refuse : GoodIn wsX3_readComparison (wsV RX3 52 RX7 yX7_refuse wsX7_refuse) := goodIn_app (goodIn_of _ (by decide +kernel)) ggX3_readComparison_X7_refuse
set_option maxRecDepth 20000 in
theorem ggX3_readComparison_X3_pileUp : GoodIn wsX3_readComparison wsX3_pileUp := goodIn_r _ [38, 39, 40, 7, 41, 42, 43, 44, 45, 46, 47, 48, 49, 50, 51, 52, 53, 54, 55, 56, 57, 58, 59, 60, 61, 62, 63, 64, 65, 66, 67, 68, 69, 70, 71] (by decide +kernel) (by decide +kernel)
set_option maxRecDepth 20000 in
theorem gX3_readComparison_X3_pileUp : GoodIn wsX3_readComparison (wsV RX3 122 RX3 yX3_pileUp wsX3_pileUp) := goodIn_app (goodIn_of _ (by decide +kernel)) ggX3_readComparison_X3_pileUp
theorem dX3_readComparison_0 : decode cX3_readComparison 0 = .ok (.aload_n 0, 1) := by decide +kernel
theorem dX3_readComparison_1 : decode cX3_readComparison 1 = .ok (.invokevirtual 140, 3) := by decide +kernel
theorem dX3_readComparison_4 : decode cX3_readComparison 4 = .ok (.istore_n 1, 1) := by decide +kernel
theorem dX3_readComparison_5 : decode cX3_readComparison 5 = .ok (.iload_n 1, 1) := by decide +kernel
theorem dX3_readComparison_6 : decode cX3_readComparison 6 = .ok (.ifCond .ne 12, 3) := by decide +kernel
theorem dX3_readComparison_9 : decode cX3_readComparison 9 = .ok (.aload_n 0, 1) := by decide +kernel
theorem dX3_readComparison_10 : decode cX3_readComparison 10 = .ok (.getfield 18, 3) := by decide +kernel
theorem dX3_readComparison_13 : decode cX3_readComparison 13 = .ok (.iconst 0, 1) := by decide +kernel
theorem dX3_readComparison_14 : decode cX3_readComparison 14 = .ok (.invokevirtual 52, 3) := by decide +kernel
theorem dX3_readComparison_17 : decode cX3_readComparison 17 = .ok (.ireturn, 1) := by decide +kernel
theorem dX3_readComparison_18 : decode cX3_readComparison 18 = .ok (.aload_n 0, 1) := by decide +kernel
theorem dX3_readComparison_19 : decode cX3_readComparison 19 = .ok (.getfield 32, 3) := by decide +kernel
theorem dX3_readComparison_22 : decode cX3_readComparison 22 = .ok (.bipush 60, 2) := by decide +kernel
theorem dX3_readComparison_24 : decode cX3_readComparison 24 = .ok (.if_icmp .lt 12, 3) := by decide +kernel
theorem dX3_readComparison_27 : decode cX3_readComparison 27 = .ok (.aload_n 0, 1) := by decide +kernel
theorem dX3_readComparison_28 : decode cX3_readComparison 28 = .ok (.getfield 18, 3) := by decide +kernel
theorem dX3_readComparison_31 : decode cX3_readComparison 31 = .ok (.iconst 3, 1) := by decide +kernel
theorem dX3_readComparison_32 : decode cX3_readComparison 32 = .ok (.invokevirtual 52, 3) := by decide +kernel
theorem dX3_readComparison_35 : decode cX3_readComparison 35 = .ok (.ireturn, 1) := by decide +kernel
theorem dX3_readComparison_36 : decode cX3_readComparison 36 = .ok (.aload_n 0, 1) := by decide +kernel
theorem dX3_readComparison_37 : decode cX3_readComparison 37 = .ok (.dup, 1) := by decide +kernel
theorem dX3_readComparison_38 : decode cX3_readComparison 38 = .ok (.getfield 32, 3) := by decide +kernel
theorem dX3_readComparison_41 : decode cX3_readComparison 41 = .ok (.iconst 1, 1) := by decide +kernel
theorem dX3_readComparison_42 : decode cX3_readComparison 42 = .ok (.iadd, 1) := by decide +kernel
theorem dX3_readComparison_43 : decode cX3_readComparison 43 = .ok (.putfield 32, 3) := by decide +kernel
theorem dX3_readComparison_46 : decode cX3_readComparison 46 = .ok (.aload_n 0, 1) := by decide +kernel
theorem dX3_readComparison_47 : decode cX3_readComparison 47 = .ok (.iload_n 1, 1) := by decide +kernel
theorem dX3_readComparison_48 : decode cX3_readComparison 48 = .ok (.invokevirtual 122, 3) := by decide +kernel
theorem dX3_readComparison_51 : decode cX3_readComparison 51 = .ok (.aload_n 0, 1) := by decide +kernel
theorem dX3_readComparison_52 : decode cX3_readComparison 52 = .ok (.iconst 2, 1) := by decide +kernel
theorem dX3_readComparison_53 : decode cX3_readComparison 53 = .ok (.putfield 70, 3) := by decide +kernel
theorem dX3_readComparison_56 : decode cX3_readComparison 56 = .ok (.iconst 1, 1) := by decide +kernel
theorem dX3_readComparison_57 : decode cX3_readComparison 57 = .ok (.ireturn, 1) := by decide +kernel
set_option maxRecDepth 20000 in
theorem ggX3_takeComparison_X7_takesSign : GoodIn wsX3_takeComparison wsX7_takesSign := goodIn_r _ [6, 7, 8, 9, 10, 5, 11, 12, 13, 14, 32, 33, 34, 35, 36] (by decide +kernel) (by decide +kernel)
set_option maxRecDepth 20000 in
theorem gX3_takeComparison_X7_takesSign : GoodIn wsX3_takeComparison (wsV RX3 48 RX7 yX7_takesSign wsX7_takesSign) := goodIn_app (goodIn_of _ (by decide +kernel)) ggX3_takeComparison_X7_takesSign
set_option maxRecDepth 20000 in
theorem ggX3_takeComparison_X7_continuesWith : GoodIn wsX3_takeComparison wsX7_continuesWith := goodIn_r _ [18, 7, 19, 20, 21, 5, 22, 12, 13, 32, 33, 34, 35, 36] (by decide +kernel) (by decide +kernel)
set_option maxRecDepth 20000 in
theorem gX3_takeComparison_X7_continuesWith : GoodIn wsX3_takeComparison (wsV RX3 143 RX7 yX7_continuesWith wsX7_continuesWith) := goodIn_app (goodIn_of _ (by decide +kernel)) ggX3_takeComparison_X7_continuesWith
theorem dX3_takeComparison_0 : decode cX3_takeComparison 0 = .ok (.aload_n 0, 1) := by decide +kernel
theorem dX3_takeComparison_1 : decode cX3_takeComparison 1 = .ok (.getfield 18, 3) := by decide +kernel
theorem dX3_takeComparison_4 : decode cX3_takeComparison 4 = .ok (.bipush 61, 2) := by decide +kernel
theorem dX3_takeComparison_6 : decode cX3_takeComparison 6 = .ok (.invokevirtual 48, 3) := by decide +kernel
theorem dX3_takeComparison_9 : decode cX3_takeComparison 9 = .ok (.ifCond .eq 6, 3) := by decide +kernel
theorem dX3_takeComparison_12 : decode cX3_takeComparison 12 = .ok (.bipush (-19), 2) := by decide +kernel
theorem dX3_takeComparison_14 : decode cX3_takeComparison 14 = .ok (.ireturn, 1) := by decide +kernel
theorem dX3_takeComparison_15 : decode cX3_takeComparison 15 = .ok (.aload_n 0, 1) := by decide +kernel
theorem dX3_takeComparison_16 : decode cX3_takeComparison 16 = .ok (.getfield 18, 3) := by decide +kernel
theorem dX3_takeComparison_19 : decode cX3_takeComparison 19 = .ok (.bipush 60, 2) := by decide +kernel
theorem dX3_takeComparison_21 : decode cX3_takeComparison 21 = .ok (.invokevirtual 48, 3) := by decide +kernel
theorem dX3_takeComparison_24 : decode cX3_takeComparison 24 = .ok (.ifCond .eq 23, 3) := by decide +kernel
theorem dX3_takeComparison_27 : decode cX3_takeComparison 27 = .ok (.aload_n 0, 1) := by decide +kernel
theorem dX3_takeComparison_28 : decode cX3_takeComparison 28 = .ok (.getfield 18, 3) := by decide +kernel
theorem dX3_takeComparison_31 : decode cX3_takeComparison 31 = .ok (.bipush 61, 2) := by decide +kernel
theorem dX3_takeComparison_33 : decode cX3_takeComparison 33 = .ok (.invokevirtual 143, 3) := by decide +kernel
theorem dX3_takeComparison_36 : decode cX3_takeComparison 36 = .ok (.ifCond .eq 8, 3) := by decide +kernel
theorem dX3_takeComparison_39 : decode cX3_takeComparison 39 = .ok (.bipush (-18), 2) := by decide +kernel
theorem dX3_takeComparison_41 : decode cX3_takeComparison 41 = .ok (.goto 5, 3) := by decide +kernel
theorem dX3_takeComparison_44 : decode cX3_takeComparison 44 = .ok (.bipush (-17), 2) := by decide +kernel
theorem dX3_takeComparison_46 : decode cX3_takeComparison 46 = .ok (.ireturn, 1) := by decide +kernel
theorem dX3_takeComparison_47 : decode cX3_takeComparison 47 = .ok (.aload_n 0, 1) := by decide +kernel
theorem dX3_takeComparison_48 : decode cX3_takeComparison 48 = .ok (.getfield 18, 3) := by decide +kernel
theorem dX3_takeComparison_51 : decode cX3_takeComparison 51 = .ok (.bipush 62, 2) := by decide +kernel
theorem dX3_takeComparison_53 : decode cX3_takeComparison 53 = .ok (.invokevirtual 48, 3) := by decide +kernel
theorem dX3_takeComparison_56 : decode cX3_takeComparison 56 = .ok (.ifCond .eq 23, 3) := by decide +kernel
theorem dX3_takeComparison_59 : decode cX3_takeComparison 59 = .ok (.aload_n 0, 1) := by decide +kernel
theorem dX3_takeComparison_60 : decode cX3_takeComparison 60 = .ok (.getfield 18, 3) := by decide +kernel
theorem dX3_takeComparison_63 : decode cX3_takeComparison 63 = .ok (.bipush 61, 2) := by decide +kernel
theorem dX3_takeComparison_65 : decode cX3_takeComparison 65 = .ok (.invokevirtual 143, 3) := by decide +kernel
theorem dX3_takeComparison_68 : decode cX3_takeComparison 68 = .ok (.ifCond .eq 8, 3) := by decide +kernel
theorem dX3_takeComparison_71 : decode cX3_takeComparison 71 = .ok (.bipush (-20), 2) := by decide +kernel
theorem dX3_takeComparison_73 : decode cX3_takeComparison 73 = .ok (.goto 5, 3) := by decide +kernel
theorem dX3_takeComparison_76 : decode cX3_takeComparison 76 = .ok (.bipush (-21), 2) := by decide +kernel
theorem dX3_takeComparison_78 : decode cX3_takeComparison 78 = .ok (.ireturn, 1) := by decide +kernel
theorem dX3_takeComparison_79 : decode cX3_takeComparison 79 = .ok (.iconst 0, 1) := by decide +kernel
theorem dX3_takeComparison_80 : decode cX3_takeComparison 80 = .ok (.ireturn, 1) := by decide +kernel
set_option maxRecDepth 20000 in
theorem ggX3_beginFact_X7_takesSign : GoodIn wsX3_beginFact wsX7_takesSign := goodIn_r _ [9, 10, 11, 12, 13, 8, 14, 15, 16, 17, 96, 97, 98, 99, 100] (by decide +kernel) (by decide +kernel)
set_option maxRecDepth 20000 in
theorem gX3_beginFact_X7_takesSign : GoodIn wsX3_beginFact (wsV RX3 48 RX7 yX7_takesSign wsX7_takesSign) := goodIn_app (goodIn_of _ (by decide +kernel)) ggX3_beginFact_X7_takesSign
set_option maxRecDepth 20000 in
theorem ggX3_beginFact_X7_takesWord : GoodIn wsX3_beginFact wsX7_takesWord := goodIn_r _ [21, 10, 11, 12, 13, 8, 14, 15, 16, 17, 22, 23, 24, 25, 26, 27, 28, 29, 30, 31, 32, 33, 34, 35, 36, 37, 38, 39, 40, 41, 42, 43, 44, 45, 46, 47, 48, 49, 50, 51, 52, 53, 54, 55, 56, 57, 58, 59, 60, 61, 62, 63, 64, 65, 66, 67, 68, 69, 70, 71, 72, 73, 74, 96, 97, 98, 99, 100] (by decide +kernel) (by decide +kernel)
set_option maxRecDepth 20000 in
theorem gX3_beginFact_X7_takesWord : GoodIn wsX3_beginFact (wsV RX3 57 RX7 yX7_takesWord wsX7_takesWord) := goodIn_app (goodIn_of _ (by decide +kernel)) ggX3_beginFact_X7_takesWord
set_option maxRecDepth 20000 in
theorem ggX3_beginFact_X7_refuse : GoodIn wsX3_beginFact wsX7_refuse := goodIn_r _ [78, 79, 17, 96, 97, 98, 99, 100] (by decide +kernel) (by decide +kernel)
set_option maxRecDepth 20000 in
theorem gX3_beginFact_X7_refuse : GoodIn wsX3_beginFact (wsV RX3 52 RX7 yX7_refuse wsX7_refuse) := goodIn_app (goodIn_of _ (by decide +kernel)) ggX3_beginFact_X7_refuse
set_option maxRecDepth 20000 in
theorem ggX3_beginFact_X3_push : GoodIn wsX3_beginFact wsX3_push := goodIn_r _ [84, 85, 86, 87, 88, 89, 90, 91, 92, 93, 94, 95] (by decide +kernel) (by decide +kernel)
set_option maxRecDepth 20000 in
theorem gX3_beginFact_X3_push : GoodIn wsX3_beginFact (wsV RX3 148 RX3 yX3_push wsX3_push) := goodIn_app (goodIn_of _ (by decide +kernel)) ggX3_beginFact_X3_push
theorem dX3_beginFact_0 : decode cX3_beginFact 0 = .ok (.aload_n 0, 1) := by decide +kernel
theorem dX3_beginFact_1 : decode cX3_beginFact 1 = .ok (.iconst 1, 1) := by decide +kernel
theorem dX3_beginFact_2 : decode cX3_beginFact 2 = .ok (.putfield 70, 3) := by decide +kernel
theorem dX3_beginFact_5 : decode cX3_beginFact 5 = .ok (.iconst 0, 1) := by decide +kernel
theorem dX3_beginFact_6 : decode cX3_beginFact 6 = .ok (.istore_n 1, 1) := by decide +kernel
theorem dX3_beginFact_7 : decode cX3_beginFact 7 = .ok (.iload_n 1, 1) := by decide +kernel
theorem dX3_beginFact_8 : decode cX3_beginFact 8 = .ok (.bipush 10, 2) := by decide +kernel
theorem dX3_beginFact_10 : decode cX3_beginFact 10 = .ok (.if_icmp .gt 98, 3) := by decide +kernel
theorem dX3_beginFact_13 : decode cX3_beginFact 13 = .ok (.aload_n 0, 1) := by decide +kernel
theorem dX3_beginFact_14 : decode cX3_beginFact 14 = .ok (.getfield 18, 3) := by decide +kernel
theorem dX3_beginFact_17 : decode cX3_beginFact 17 = .ok (.bipush 91, 2) := by decide +kernel
theorem dX3_beginFact_19 : decode cX3_beginFact 19 = .ok (.invokevirtual 48, 3) := by decide +kernel
theorem dX3_beginFact_22 : decode cX3_beginFact 22 = .ok (.istore_n 2, 1) := by decide +kernel
theorem dX3_beginFact_23 : decode cX3_beginFact 23 = .ok (.iload_n 2, 1) := by decide +kernel
theorem dX3_beginFact_24 : decode cX3_beginFact 24 = .ok (.ifCond .ne 17, 3) := by decide +kernel
theorem dX3_beginFact_27 : decode cX3_beginFact 27 = .ok (.aload_n 0, 1) := by decide +kernel
theorem dX3_beginFact_28 : decode cX3_beginFact 28 = .ok (.getfield 18, 3) := by decide +kernel
theorem dX3_beginFact_31 : decode cX3_beginFact 31 = .ok (.ldc 146, 2) := by decide +kernel
theorem dX3_beginFact_33 : decode cX3_beginFact 33 = .ok (.invokevirtual 57, 3) := by decide +kernel
theorem dX3_beginFact_36 : decode cX3_beginFact 36 = .ok (.ifCond .ne 5, 3) := by decide +kernel
theorem dX3_beginFact_39 : decode cX3_beginFact 39 = .ok (.iconst 1, 1) := by decide +kernel
theorem dX3_beginFact_40 : decode cX3_beginFact 40 = .ok (.ireturn, 1) := by decide +kernel
theorem dX3_beginFact_41 : decode cX3_beginFact 41 = .ok (.aload_n 0, 1) := by decide +kernel
theorem dX3_beginFact_42 : decode cX3_beginFact 42 = .ok (.getfield 64, 3) := by decide +kernel
theorem dX3_beginFact_45 : decode cX3_beginFact 45 = .ok (.bipush 10, 2) := by decide +kernel
theorem dX3_beginFact_47 : decode cX3_beginFact 47 = .ok (.if_icmp .lt 12, 3) := by decide +kernel
theorem dX3_beginFact_50 : decode cX3_beginFact 50 = .ok (.aload_n 0, 1) := by decide +kernel
theorem dX3_beginFact_51 : decode cX3_beginFact 51 = .ok (.getfield 18, 3) := by decide +kernel
theorem dX3_beginFact_54 : decode cX3_beginFact 54 = .ok (.iconst 2, 1) := by decide +kernel
theorem dX3_beginFact_55 : decode cX3_beginFact 55 = .ok (.invokevirtual 52, 3) := by decide +kernel
theorem dX3_beginFact_58 : decode cX3_beginFact 58 = .ok (.ireturn, 1) := by decide +kernel
theorem dX3_beginFact_59 : decode cX3_beginFact 59 = .ok (.aload_n 0, 1) := by decide +kernel
theorem dX3_beginFact_60 : decode cX3_beginFact 60 = .ok (.dup, 1) := by decide +kernel
theorem dX3_beginFact_61 : decode cX3_beginFact 61 = .ok (.getfield 64, 3) := by decide +kernel
theorem dX3_beginFact_64 : decode cX3_beginFact 64 = .ok (.iconst 1, 1) := by decide +kernel
theorem dX3_beginFact_65 : decode cX3_beginFact 65 = .ok (.iadd, 1) := by decide +kernel
theorem dX3_beginFact_66 : decode cX3_beginFact 66 = .ok (.putfield 64, 3) := by decide +kernel
theorem dX3_beginFact_69 : decode cX3_beginFact 69 = .ok (.aload_n 0, 1) := by decide +kernel
theorem dX3_beginFact_70 : decode cX3_beginFact 70 = .ok (.dup, 1) := by decide +kernel
theorem dX3_beginFact_71 : decode cX3_beginFact 71 = .ok (.getfield 67, 3) := by decide +kernel
theorem dX3_beginFact_74 : decode cX3_beginFact 74 = .ok (.iload_n 2, 1) := by decide +kernel
theorem dX3_beginFact_75 : decode cX3_beginFact 75 = .ok (.ifCond .eq 7, 3) := by decide +kernel
theorem dX3_beginFact_78 : decode cX3_beginFact 78 = .ok (.iconst 1, 1) := by decide +kernel
theorem dX3_beginFact_79 : decode cX3_beginFact 79 = .ok (.goto 4, 3) := by decide +kernel
theorem dX3_beginFact_82 : decode cX3_beginFact 82 = .ok (.iconst 0, 1) := by decide +kernel
theorem dX3_beginFact_83 : decode cX3_beginFact 83 = .ok (.iadd, 1) := by decide +kernel
theorem dX3_beginFact_84 : decode cX3_beginFact 84 = .ok (.putfield 67, 3) := by decide +kernel
theorem dX3_beginFact_87 : decode cX3_beginFact 87 = .ok (.aload_n 0, 1) := by decide +kernel
theorem dX3_beginFact_88 : decode cX3_beginFact 88 = .ok (.iload_n 2, 1) := by decide +kernel
theorem dX3_beginFact_89 : decode cX3_beginFact 89 = .ok (.ifCond .eq 8, 3) := by decide +kernel
theorem dX3_beginFact_92 : decode cX3_beginFact 92 = .ok (.bipush (-27), 2) := by decide +kernel
theorem dX3_beginFact_94 : decode cX3_beginFact 94 = .ok (.goto 5, 3) := by decide +kernel
theorem dX3_beginFact_97 : decode cX3_beginFact 97 = .ok (.bipush (-22), 2) := by decide +kernel
theorem dX3_beginFact_99 : decode cX3_beginFact 99 = .ok (.invokevirtual 148, 3) := by decide +kernel
theorem dX3_beginFact_102 : decode cX3_beginFact 102 = .ok (.iinc 1 1, 3) := by decide +kernel
theorem dX3_beginFact_105 : decode cX3_beginFact 105 = .ok (.goto (-98), 3) := by decide +kernel
theorem dX3_beginFact_108 : decode cX3_beginFact 108 = .ok (.iconst 0, 1) := by decide +kernel
theorem dX3_beginFact_109 : decode cX3_beginFact 109 = .ok (.ireturn, 1) := by decide +kernel
set_option maxRecDepth 20000 in
theorem ggX3_pileUp_X3_bindingOf : GoodIn wsX3_pileUp wsX3_bindingOf := goodIn_r _ [4] (by decide +kernel) (by decide +kernel)
set_option maxRecDepth 20000 in
theorem gX3_pileUp_X3_bindingOf : GoodIn wsX3_pileUp (va_wsS RX3 151 yX3_bindingOf wsX3_bindingOf) := goodIn_app (goodIn_of _ (by decide +kernel)) ggX3_pileUp_X3_bindingOf
set_option maxRecDepth 20000 in
theorem ggX3_pileUp_X3_unpile : GoodIn wsX3_pileUp wsX3_unpile := goodIn_r _ [8, 9, 10, 1, 2, 3, 4, 11, 12, 13, 14, 15, 16, 17, 18, 19, 20, 21, 26, 27, 28, 29, 30, 31, 32, 33, 34] (by decide +kernel) (by decide +kernel)
set_option maxRecDepth 20000 in
theorem gX3_pileUp_X3_unpile : GoodIn wsX3_pileUp (wsV RX3 82 RX3 yX3_unpile wsX3_unpile) := goodIn_app (goodIn_of _ (by decide +kernel)) ggX3_pileUp_X3_unpile
set_option maxRecDepth 20000 in
theorem ggX3_pileUp_X3_push : GoodIn wsX3_pileUp wsX3_push := goodIn_r _ [25, 9, 10, 26, 27, 28, 29, 30, 31, 32, 33, 34] (by decide +kernel) (by decide +kernel)
set_option maxRecDepth 20000 in
theorem gX3_pileUp_X3_push : GoodIn wsX3_pileUp (wsV RX3 148 RX3 yX3_push wsX3_push) := goodIn_app (goodIn_of _ (by decide +kernel)) ggX3_pileUp_X3_push
theorem dX3_pileUp_0 : decode cX3_pileUp 0 = .ok (.aload_n 0, 1) := by decide +kernel
theorem dX3_pileUp_1 : decode cX3_pileUp 1 = .ok (.iload_n 1, 1) := by decide +kernel
theorem dX3_pileUp_2 : decode cX3_pileUp 2 = .ok (.invokestatic 151, 3) := by decide +kernel
theorem dX3_pileUp_5 : decode cX3_pileUp 5 = .ok (.invokevirtual 82, 3) := by decide +kernel
theorem dX3_pileUp_8 : decode cX3_pileUp 8 = .ok (.aload_n 0, 1) := by decide +kernel
theorem dX3_pileUp_9 : decode cX3_pileUp 9 = .ok (.iload_n 1, 1) := by decide +kernel
theorem dX3_pileUp_10 : decode cX3_pileUp 10 = .ok (.invokevirtual 148, 3) := by decide +kernel
theorem dX3_pileUp_13 : decode cX3_pileUp 13 = .ok (.return_, 1) := by decide +kernel
set_option maxRecDepth 20000 in
theorem ggX3_unpile_X3_bindingOf : GoodIn wsX3_unpile wsX3_bindingOf := goodIn_r _ [6] (by decide +kernel) (by decide +kernel)
set_option maxRecDepth 20000 in
theorem gX3_unpile_X3_bindingOf : GoodIn wsX3_unpile (va_wsS RX3 151 yX3_bindingOf wsX3_bindingOf) := goodIn_app (goodIn_of _ (by decide +kernel)) ggX3_unpile_X3_bindingOf
set_option maxRecDepth 20000 in
theorem ggX3_unpile_X3_write : GoodIn wsX3_unpile wsX3_write := goodIn_r _ [10, 11, 12, 18, 19, 20, 21, 22, 23, 24, 25, 26] (by decide +kernel) (by decide +kernel)
set_option maxRecDepth 20000 in
theorem gX3_unpile_X3_write : GoodIn wsX3_unpile (wsV RX3 88 RX3 yX3_write wsX3_write) := goodIn_app (goodIn_of _ (by decide +kernel)) ggX3_unpile_X3_write
set_option maxRecDepth 20000 in
theorem ggX3_unpile_X3_dropTop : GoodIn wsX3_unpile wsX3_dropTop := goodIn_r _ [16, 1, 2, 17, 18, 19, 20, 21, 22, 23, 24, 25, 26] (by decide +kernel) (by decide +kernel)
set_option maxRecDepth 20000 in
theorem gX3_unpile_X3_dropTop : GoodIn wsX3_unpile (wsV RX3 113 RX3 yX3_dropTop wsX3_dropTop) := goodIn_app (goodIn_of _ (by decide +kernel)) ggX3_unpile_X3_dropTop
theorem dX3_unpile_0 : decode cX3_unpile 0 = .ok (.aload_n 0, 1) := by decide +kernel
theorem dX3_unpile_1 : decode cX3_unpile 1 = .ok (.getfield 61, 3) := by decide +kernel
theorem dX3_unpile_4 : decode cX3_unpile 4 = .ok (.iconst 1, 1) := by decide +kernel
theorem dX3_unpile_5 : decode cX3_unpile 5 = .ok (.isub, 1) := by decide +kernel
theorem dX3_unpile_6 : decode cX3_unpile 6 = .ok (.istore_n 2, 1) := by decide +kernel
theorem dX3_unpile_7 : decode cX3_unpile 7 = .ok (.iload_n 2, 1) := by decide +kernel
theorem dX3_unpile_8 : decode cX3_unpile 8 = .ok (.ifCond .lt 48, 3) := by decide +kernel
theorem dX3_unpile_11 : decode cX3_unpile 11 = .ok (.aload_n 0, 1) := by decide +kernel
theorem dX3_unpile_12 : decode cX3_unpile 12 = .ok (.getfield 15, 3) := by decide +kernel
theorem dX3_unpile_15 : decode cX3_unpile 15 = .ok (.iload_n 2, 1) := by decide +kernel
theorem dX3_unpile_16 : decode cX3_unpile 16 = .ok (.iaload, 1) := by decide +kernel
theorem dX3_unpile_17 : decode cX3_unpile 17 = .ok (.bipush (-27), 2) := by decide +kernel
theorem dX3_unpile_19 : decode cX3_unpile 19 = .ok (.if_icmp .eq 37, 3) := by decide +kernel
theorem dX3_unpile_22 : decode cX3_unpile 22 = .ok (.aload_n 0, 1) := by decide +kernel
theorem dX3_unpile_23 : decode cX3_unpile 23 = .ok (.getfield 15, 3) := by decide +kernel
theorem dX3_unpile_26 : decode cX3_unpile 26 = .ok (.iload_n 2, 1) := by decide +kernel
theorem dX3_unpile_27 : decode cX3_unpile 27 = .ok (.iaload, 1) := by decide +kernel
theorem dX3_unpile_28 : decode cX3_unpile 28 = .ok (.invokestatic 151, 3) := by decide +kernel
theorem dX3_unpile_31 : decode cX3_unpile 31 = .ok (.iload_n 1, 1) := by decide +kernel
theorem dX3_unpile_32 : decode cX3_unpile 32 = .ok (.if_icmp .ge 4, 3) := by decide +kernel
theorem dX3_unpile_35 : decode cX3_unpile 35 = .ok (.return_, 1) := by decide +kernel
theorem dX3_unpile_36 : decode cX3_unpile 36 = .ok (.aload_n 0, 1) := by decide +kernel
theorem dX3_unpile_37 : decode cX3_unpile 37 = .ok (.aload_n 0, 1) := by decide +kernel
theorem dX3_unpile_38 : decode cX3_unpile 38 = .ok (.getfield 15, 3) := by decide +kernel
theorem dX3_unpile_41 : decode cX3_unpile 41 = .ok (.iload_n 2, 1) := by decide +kernel
theorem dX3_unpile_42 : decode cX3_unpile 42 = .ok (.iaload, 1) := by decide +kernel
theorem dX3_unpile_43 : decode cX3_unpile 43 = .ok (.invokevirtual 88, 3) := by decide +kernel
theorem dX3_unpile_46 : decode cX3_unpile 46 = .ok (.aload_n 0, 1) := by decide +kernel
theorem dX3_unpile_47 : decode cX3_unpile 47 = .ok (.invokevirtual 113, 3) := by decide +kernel
theorem dX3_unpile_50 : decode cX3_unpile 50 = .ok (.iinc 2 (-1), 3) := by decide +kernel
theorem dX3_unpile_53 : decode cX3_unpile 53 = .ok (.goto (-46), 3) := by decide +kernel
theorem dX3_unpile_56 : decode cX3_unpile 56 = .ok (.return_, 1) := by decide +kernel
theorem dX3_push_0 : decode cX3_push 0 = .ok (.aload_n 0, 1) := by decide +kernel
theorem dX3_push_1 : decode cX3_push 1 = .ok (.getfield 61, 3) := by decide +kernel
theorem dX3_push_4 : decode cX3_push 4 = .ok (.sipush 400, 3) := by decide +kernel
theorem dX3_push_7 : decode cX3_push 7 = .ok (.if_icmp .ge 23, 3) := by decide +kernel
theorem dX3_push_10 : decode cX3_push 10 = .ok (.aload_n 0, 1) := by decide +kernel
theorem dX3_push_11 : decode cX3_push 11 = .ok (.getfield 15, 3) := by decide +kernel
theorem dX3_push_14 : decode cX3_push 14 = .ok (.aload_n 0, 1) := by decide +kernel
theorem dX3_push_15 : decode cX3_push 15 = .ok (.getfield 61, 3) := by decide +kernel
theorem dX3_push_18 : decode cX3_push 18 = .ok (.iload_n 1, 1) := by decide +kernel
theorem dX3_push_19 : decode cX3_push 19 = .ok (.iastore, 1) := by decide +kernel
theorem dX3_push_20 : decode cX3_push 20 = .ok (.aload_n 0, 1) := by decide +kernel
theorem dX3_push_21 : decode cX3_push 21 = .ok (.dup, 1) := by decide +kernel
theorem dX3_push_22 : decode cX3_push 22 = .ok (.getfield 61, 3) := by decide +kernel
theorem dX3_push_25 : decode cX3_push 25 = .ok (.iconst 1, 1) := by decide +kernel
theorem dX3_push_26 : decode cX3_push 26 = .ok (.iadd, 1) := by decide +kernel
theorem dX3_push_27 : decode cX3_push 27 = .ok (.putfield 61, 3) := by decide +kernel
theorem dX3_push_30 : decode cX3_push 30 = .ok (.return_, 1) := by decide +kernel
theorem dX3_dropTop_0 : decode cX3_dropTop 0 = .ok (.aload_n 0, 1) := by decide +kernel
theorem dX3_dropTop_1 : decode cX3_dropTop 1 = .ok (.getfield 61, 3) := by decide +kernel
theorem dX3_dropTop_4 : decode cX3_dropTop 4 = .ok (.ifCond .le 51, 3) := by decide +kernel
theorem dX3_dropTop_7 : decode cX3_dropTop 7 = .ok (.aload_n 0, 1) := by decide +kernel
theorem dX3_dropTop_8 : decode cX3_dropTop 8 = .ok (.dup, 1) := by decide +kernel
theorem dX3_dropTop_9 : decode cX3_dropTop 9 = .ok (.getfield 61, 3) := by decide +kernel
theorem dX3_dropTop_12 : decode cX3_dropTop 12 = .ok (.iconst 1, 1) := by decide +kernel
theorem dX3_dropTop_13 : decode cX3_dropTop 13 = .ok (.isub, 1) := by decide +kernel
theorem dX3_dropTop_14 : decode cX3_dropTop 14 = .ok (.putfield 61, 3) := by decide +kernel
theorem dX3_dropTop_17 : decode cX3_dropTop 17 = .ok (.aload_n 0, 1) := by decide +kernel
theorem dX3_dropTop_18 : decode cX3_dropTop 18 = .ok (.getfield 15, 3) := by decide +kernel
theorem dX3_dropTop_21 : decode cX3_dropTop 21 = .ok (.aload_n 0, 1) := by decide +kernel
theorem dX3_dropTop_22 : decode cX3_dropTop 22 = .ok (.getfield 61, 3) := by decide +kernel
theorem dX3_dropTop_25 : decode cX3_dropTop 25 = .ok (.iaload, 1) := by decide +kernel
theorem dX3_dropTop_26 : decode cX3_dropTop 26 = .ok (.bipush (-27), 2) := by decide +kernel
theorem dX3_dropTop_28 : decode cX3_dropTop 28 = .ok (.if_icmp .eq 17, 3) := by decide +kernel
theorem dX3_dropTop_31 : decode cX3_dropTop 31 = .ok (.aload_n 0, 1) := by decide +kernel
theorem dX3_dropTop_32 : decode cX3_dropTop 32 = .ok (.getfield 15, 3) := by decide +kernel
theorem dX3_dropTop_35 : decode cX3_dropTop 35 = .ok (.aload_n 0, 1) := by decide +kernel
theorem dX3_dropTop_36 : decode cX3_dropTop 36 = .ok (.getfield 61, 3) := by decide +kernel
theorem dX3_dropTop_39 : decode cX3_dropTop 39 = .ok (.iaload, 1) := by decide +kernel
theorem dX3_dropTop_40 : decode cX3_dropTop 40 = .ok (.bipush (-22), 2) := by decide +kernel
theorem dX3_dropTop_42 : decode cX3_dropTop 42 = .ok (.if_icmp .ne 13, 3) := by decide +kernel
theorem dX3_dropTop_45 : decode cX3_dropTop 45 = .ok (.aload_n 0, 1) := by decide +kernel
theorem dX3_dropTop_46 : decode cX3_dropTop 46 = .ok (.dup, 1) := by decide +kernel
theorem dX3_dropTop_47 : decode cX3_dropTop 47 = .ok (.getfield 64, 3) := by decide +kernel
theorem dX3_dropTop_50 : decode cX3_dropTop 50 = .ok (.iconst 1, 1) := by decide +kernel
theorem dX3_dropTop_51 : decode cX3_dropTop 51 = .ok (.isub, 1) := by decide +kernel
theorem dX3_dropTop_52 : decode cX3_dropTop 52 = .ok (.putfield 64, 3) := by decide +kernel
theorem dX3_dropTop_55 : decode cX3_dropTop 55 = .ok (.return_, 1) := by decide +kernel
theorem dX3_write_0 : decode cX3_write 0 = .ok (.aload_n 0, 1) := by decide +kernel
theorem dX3_write_1 : decode cX3_write 1 = .ok (.getfield 22, 3) := by decide +kernel
theorem dX3_write_4 : decode cX3_write 4 = .ok (.sipush 400, 3) := by decide +kernel
theorem dX3_write_7 : decode cX3_write 7 = .ok (.if_icmp .ge 23, 3) := by decide +kernel
theorem dX3_write_10 : decode cX3_write 10 = .ok (.aload_n 0, 1) := by decide +kernel
theorem dX3_write_11 : decode cX3_write 11 = .ok (.getfield 9, 3) := by decide +kernel
theorem dX3_write_14 : decode cX3_write 14 = .ok (.aload_n 0, 1) := by decide +kernel
theorem dX3_write_15 : decode cX3_write 15 = .ok (.getfield 22, 3) := by decide +kernel
theorem dX3_write_18 : decode cX3_write 18 = .ok (.iload_n 1, 1) := by decide +kernel
theorem dX3_write_19 : decode cX3_write 19 = .ok (.iastore, 1) := by decide +kernel
theorem dX3_write_20 : decode cX3_write 20 = .ok (.aload_n 0, 1) := by decide +kernel
theorem dX3_write_21 : decode cX3_write 21 = .ok (.dup, 1) := by decide +kernel
theorem dX3_write_22 : decode cX3_write 22 = .ok (.getfield 22, 3) := by decide +kernel
theorem dX3_write_25 : decode cX3_write 25 = .ok (.iconst 1, 1) := by decide +kernel
theorem dX3_write_26 : decode cX3_write 26 = .ok (.iadd, 1) := by decide +kernel
theorem dX3_write_27 : decode cX3_write 27 = .ok (.putfield 22, 3) := by decide +kernel
theorem dX3_write_30 : decode cX3_write 30 = .ok (.return_, 1) := by decide +kernel
theorem dX3_bindingOf_0 : decode cX3_bindingOf 0 = .ok (.iload_n 0, 1) := by decide +kernel
theorem dX3_bindingOf_1 : decode cX3_bindingOf 1 = .ok (.tableswitch 78 (-24) (-12) #[76, 74, 72, 78, 78, 78, 78, 78, 70, 70, 67, 67, 67], 67) := by decide +kernel
theorem dX3_bindingOf_68 : decode cX3_bindingOf 68 = .ok (.bipush 6, 2) := by decide +kernel
theorem dX3_bindingOf_70 : decode cX3_bindingOf 70 = .ok (.ireturn, 1) := by decide +kernel
theorem dX3_bindingOf_71 : decode cX3_bindingOf 71 = .ok (.iconst 5, 1) := by decide +kernel
theorem dX3_bindingOf_72 : decode cX3_bindingOf 72 = .ok (.ireturn, 1) := by decide +kernel
theorem dX3_bindingOf_73 : decode cX3_bindingOf 73 = .ok (.iconst 3, 1) := by decide +kernel
theorem dX3_bindingOf_74 : decode cX3_bindingOf 74 = .ok (.ireturn, 1) := by decide +kernel
theorem dX3_bindingOf_75 : decode cX3_bindingOf 75 = .ok (.iconst 2, 1) := by decide +kernel
theorem dX3_bindingOf_76 : decode cX3_bindingOf 76 = .ok (.ireturn, 1) := by decide +kernel
theorem dX3_bindingOf_77 : decode cX3_bindingOf 77 = .ok (.iconst 1, 1) := by decide +kernel
theorem dX3_bindingOf_78 : decode cX3_bindingOf 78 = .ok (.ireturn, 1) := by decide +kernel
theorem dX3_bindingOf_79 : decode cX3_bindingOf 79 = .ok (.iconst 4, 1) := by decide +kernel
theorem dX3_bindingOf_80 : decode cX3_bindingOf 80 = .ok (.ireturn, 1) := by decide +kernel
set_option maxRecDepth 20000 in
theorem ggX4_init_X8_init : GoodIn wsX4_init wsX8_init := goodIn_r _ [20, 21, 2, 3, 13, 22, 23, 24, 25, 26, 27, 28, 29, 30, 31, 32, 48, 49, 50, 51, 52, 53, 54, 55, 56, 57, 58, 59, 60, 61, 62, 63, 64, 65, 66] (by decide +kernel) (by decide +kernel)
set_option maxRecDepth 20000 in
theorem gX4_init_X8_init : GoodIn wsX4_init (wsX8_init) := ggX4_init_X8_init
set_option maxRecDepth 20000 in
theorem ggX4_init_X5_init : GoodIn wsX4_init wsX5_init := goodIn_r _ [35, 36, 2, 3, 13, 37, 38, 39, 40, 41, 42, 43, 44, 45, 46, 47, 77, 78, 79, 80, 81, 82, 83, 84, 85] (by decide +kernel) (by decide +kernel)
set_option maxRecDepth 20000 in
theorem gX4_init_X5_init : GoodIn wsX4_init (wsX5_init) := ggX4_init_X5_init
theorem dX4_init_0 : decode cX4_init 0 = .ok (.aload_n 0, 1) := by decide +kernel
theorem dX4_init_1 : decode cX4_init 1 = .ok (.invokespecial 3, 3) := by decide +kernel
theorem dX4_init_4 : decode cX4_init 4 = .ok (.aload_n 0, 1) := by decide +kernel
theorem dX4_init_5 : decode cX4_init 5 = .ok (.new 9, 3) := by decide +kernel
theorem dX4_init_8 : decode cX4_init 8 = .ok (.dup, 1) := by decide +kernel
theorem dX4_init_9 : decode cX4_init 9 = .ok (.invokespecial 11, 3) := by decide +kernel
theorem dX4_init_12 : decode cX4_init 12 = .ok (.putfield 12, 3) := by decide +kernel
theorem dX4_init_15 : decode cX4_init 15 = .ok (.aload_n 0, 1) := by decide +kernel
theorem dX4_init_16 : decode cX4_init 16 = .ok (.new 18, 3) := by decide +kernel
theorem dX4_init_19 : decode cX4_init 19 = .ok (.dup, 1) := by decide +kernel
theorem dX4_init_20 : decode cX4_init 20 = .ok (.invokespecial 20, 3) := by decide +kernel
theorem dX4_init_23 : decode cX4_init 23 = .ok (.putfield 21, 3) := by decide +kernel
theorem dX4_init_26 : decode cX4_init 26 = .ok (.aload_n 0, 1) := by decide +kernel
theorem dX4_init_27 : decode cX4_init 27 = .ok (.iconst (-1), 1) := by decide +kernel
theorem dX4_init_28 : decode cX4_init 28 = .ok (.putfield 25, 3) := by decide +kernel
theorem dX4_init_31 : decode cX4_init 31 = .ok (.aload_n 0, 1) := by decide +kernel
theorem dX4_init_32 : decode cX4_init 32 = .ok (.bipush 10, 2) := by decide +kernel
theorem dX4_init_34 : decode cX4_init 34 = .ok (.newarray .int, 2) := by decide +kernel
theorem dX4_init_36 : decode cX4_init 36 = .ok (.putfield 29, 3) := by decide +kernel
theorem dX4_init_39 : decode cX4_init 39 = .ok (.aload_n 0, 1) := by decide +kernel
theorem dX4_init_40 : decode cX4_init 40 = .ok (.bipush 10, 2) := by decide +kernel
theorem dX4_init_42 : decode cX4_init 42 = .ok (.newarray .int, 2) := by decide +kernel
theorem dX4_init_44 : decode cX4_init 44 = .ok (.putfield 33, 3) := by decide +kernel
theorem dX4_init_47 : decode cX4_init 47 = .ok (.aload_n 0, 1) := by decide +kernel
theorem dX4_init_48 : decode cX4_init 48 = .ok (.bipush 10, 2) := by decide +kernel
theorem dX4_init_50 : decode cX4_init 50 = .ok (.newarray .int, 2) := by decide +kernel
theorem dX4_init_52 : decode cX4_init 52 = .ok (.putfield 36, 3) := by decide +kernel
theorem dX4_init_55 : decode cX4_init 55 = .ok (.aload_n 0, 1) := by decide +kernel
theorem dX4_init_56 : decode cX4_init 56 = .ok (.bipush 10, 2) := by decide +kernel
theorem dX4_init_58 : decode cX4_init 58 = .ok (.newarray .int, 2) := by decide +kernel
theorem dX4_init_60 : decode cX4_init 60 = .ok (.putfield 39, 3) := by decide +kernel
theorem dX4_init_63 : decode cX4_init 63 = .ok (.return_, 1) := by decide +kernel
set_option maxRecDepth 20000 in
theorem ggX4_become_X8_become : GoodIn wsX4_become wsX8_become := goodIn_r _ [18, 19, 20, 21, 22, 23, 24, 25, 26, 27, 28, 8, 9, 10, 29, 30, 31, 32, 33, 34, 35, 36, 37, 38, 64, 65, 66, 67, 68, 69, 70, 71, 72, 73, 74, 75, 76, 77, 78, 79, 80, 81, 82] (by decide +kernel) (by decide +kernel)
set_option maxRecDepth 20000 in
theorem gX4_become_X8_become : GoodIn wsX4_become (wsV RX4 42 RX8 yX8_become wsX8_become) := goodIn_app (goodIn_of _ (by decide +kernel)) ggX4_become_X8_become
set_option maxRecDepth 20000 in
theorem ggX4_become_X5_become : GoodIn wsX4_become wsX5_become := goodIn_r _ [43, 44, 45, 46, 47, 8, 9, 10, 48, 49, 50, 51, 52, 53, 83, 84, 85, 86, 87, 88, 89, 90, 91] (by decide +kernel) (by decide +kernel)
set_option maxRecDepth 20000 in
theorem gX4_become_X5_become : GoodIn wsX4_become (wsV RX4 46 RX5 yX5_become wsX5_become) := goodIn_app (goodIn_of _ (by decide +kernel)) ggX4_become_X5_become
theorem dX4_become_0 : decode cX4_become 0 = .ok (.aload_n 0, 1) := by decide +kernel
theorem dX4_become_1 : decode cX4_become 1 = .ok (.getfield 12, 3) := by decide +kernel
theorem dX4_become_4 : decode cX4_become 4 = .ok (.aload_n 1, 1) := by decide +kernel
theorem dX4_become_5 : decode cX4_become 5 = .ok (.getfield 12, 3) := by decide +kernel
theorem dX4_become_8 : decode cX4_become 8 = .ok (.invokevirtual 42, 3) := by decide +kernel
theorem dX4_become_11 : decode cX4_become 11 = .ok (.aload_n 0, 1) := by decide +kernel
theorem dX4_become_12 : decode cX4_become 12 = .ok (.getfield 21, 3) := by decide +kernel
theorem dX4_become_15 : decode cX4_become 15 = .ok (.aload_n 1, 1) := by decide +kernel
theorem dX4_become_16 : decode cX4_become 16 = .ok (.getfield 21, 3) := by decide +kernel
theorem dX4_become_19 : decode cX4_become 19 = .ok (.invokevirtual 46, 3) := by decide +kernel
theorem dX4_become_22 : decode cX4_become 22 = .ok (.aload_n 0, 1) := by decide +kernel
theorem dX4_become_23 : decode cX4_become 23 = .ok (.aload_n 1, 1) := by decide +kernel
theorem dX4_become_24 : decode cX4_become 24 = .ok (.getfield 25, 3) := by decide +kernel
theorem dX4_become_27 : decode cX4_become 27 = .ok (.putfield 25, 3) := by decide +kernel
theorem dX4_become_30 : decode cX4_become 30 = .ok (.aload_n 0, 1) := by decide +kernel
theorem dX4_become_31 : decode cX4_become 31 = .ok (.aload_n 1, 1) := by decide +kernel
theorem dX4_become_32 : decode cX4_become 32 = .ok (.getfield 49, 3) := by decide +kernel
theorem dX4_become_35 : decode cX4_become 35 = .ok (.putfield 49, 3) := by decide +kernel
theorem dX4_become_38 : decode cX4_become 38 = .ok (.aload_n 0, 1) := by decide +kernel
theorem dX4_become_39 : decode cX4_become 39 = .ok (.aload_n 1, 1) := by decide +kernel
theorem dX4_become_40 : decode cX4_become 40 = .ok (.getfield 52, 3) := by decide +kernel
theorem dX4_become_43 : decode cX4_become 43 = .ok (.putfield 52, 3) := by decide +kernel
theorem dX4_become_46 : decode cX4_become 46 = .ok (.aload_n 1, 1) := by decide +kernel
theorem dX4_become_47 : decode cX4_become 47 = .ok (.getfield 29, 3) := by decide +kernel
theorem dX4_become_50 : decode cX4_become 50 = .ok (.iconst 0, 1) := by decide +kernel
theorem dX4_become_51 : decode cX4_become 51 = .ok (.aload_n 0, 1) := by decide +kernel
theorem dX4_become_52 : decode cX4_become 52 = .ok (.getfield 29, 3) := by decide +kernel
theorem dX4_become_55 : decode cX4_become 55 = .ok (.iconst 0, 1) := by decide +kernel
theorem dX4_become_56 : decode cX4_become 56 = .ok (.bipush 10, 2) := by decide +kernel
theorem dX4_become_58 : decode cX4_become 58 = .ok (.invokestatic 55, 3) := by decide +kernel
theorem dX4_become_61 : decode cX4_become 61 = .ok (.aload_n 1, 1) := by decide +kernel
theorem dX4_become_62 : decode cX4_become 62 = .ok (.getfield 33, 3) := by decide +kernel
theorem dX4_become_65 : decode cX4_become 65 = .ok (.iconst 0, 1) := by decide +kernel
theorem dX4_become_66 : decode cX4_become 66 = .ok (.aload_n 0, 1) := by decide +kernel
theorem dX4_become_67 : decode cX4_become 67 = .ok (.getfield 33, 3) := by decide +kernel
theorem dX4_become_70 : decode cX4_become 70 = .ok (.iconst 0, 1) := by decide +kernel
theorem dX4_become_71 : decode cX4_become 71 = .ok (.bipush 10, 2) := by decide +kernel
theorem dX4_become_73 : decode cX4_become 73 = .ok (.invokestatic 55, 3) := by decide +kernel
theorem dX4_become_76 : decode cX4_become 76 = .ok (.aload_n 1, 1) := by decide +kernel
theorem dX4_become_77 : decode cX4_become 77 = .ok (.getfield 36, 3) := by decide +kernel
theorem dX4_become_80 : decode cX4_become 80 = .ok (.iconst 0, 1) := by decide +kernel
theorem dX4_become_81 : decode cX4_become 81 = .ok (.aload_n 0, 1) := by decide +kernel
theorem dX4_become_82 : decode cX4_become 82 = .ok (.getfield 36, 3) := by decide +kernel
theorem dX4_become_85 : decode cX4_become 85 = .ok (.iconst 0, 1) := by decide +kernel
theorem dX4_become_86 : decode cX4_become 86 = .ok (.bipush 10, 2) := by decide +kernel
theorem dX4_become_88 : decode cX4_become 88 = .ok (.invokestatic 55, 3) := by decide +kernel
theorem dX4_become_91 : decode cX4_become 91 = .ok (.aload_n 1, 1) := by decide +kernel
theorem dX4_become_92 : decode cX4_become 92 = .ok (.getfield 39, 3) := by decide +kernel
theorem dX4_become_95 : decode cX4_become 95 = .ok (.iconst 0, 1) := by decide +kernel
theorem dX4_become_96 : decode cX4_become 96 = .ok (.aload_n 0, 1) := by decide +kernel
theorem dX4_become_97 : decode cX4_become 97 = .ok (.getfield 39, 3) := by decide +kernel
theorem dX4_become_100 : decode cX4_become 100 = .ok (.iconst 0, 1) := by decide +kernel
theorem dX4_become_101 : decode cX4_become 101 = .ok (.bipush 10, 2) := by decide +kernel
theorem dX4_become_103 : decode cX4_become 103 = .ok (.invokestatic 55, 3) := by decide +kernel
theorem dX4_become_106 : decode cX4_become 106 = .ok (.return_, 1) := by decide +kernel
theorem dX4_addTest_0 : decode cX4_addTest 0 = .ok (.aload_n 0, 1) := by decide +kernel
theorem dX4_addTest_1 : decode cX4_addTest 1 = .ok (.getfield 52, 3) := by decide +kernel
theorem dX4_addTest_4 : decode cX4_addTest 4 = .ok (.bipush 10, 2) := by decide +kernel
theorem dX4_addTest_6 : decode cX4_addTest 6 = .ok (.if_icmp .ge 54, 3) := by decide +kernel
theorem dX4_addTest_9 : decode cX4_addTest 9 = .ok (.aload_n 0, 1) := by decide +kernel
theorem dX4_addTest_10 : decode cX4_addTest 10 = .ok (.getfield 29, 3) := by decide +kernel
theorem dX4_addTest_13 : decode cX4_addTest 13 = .ok (.aload_n 0, 1) := by decide +kernel
theorem dX4_addTest_14 : decode cX4_addTest 14 = .ok (.getfield 52, 3) := by decide +kernel
theorem dX4_addTest_17 : decode cX4_addTest 17 = .ok (.iload_n 1, 1) := by decide +kernel
theorem dX4_addTest_18 : decode cX4_addTest 18 = .ok (.iastore, 1) := by decide +kernel
theorem dX4_addTest_19 : decode cX4_addTest 19 = .ok (.aload_n 0, 1) := by decide +kernel
theorem dX4_addTest_20 : decode cX4_addTest 20 = .ok (.getfield 33, 3) := by decide +kernel
theorem dX4_addTest_23 : decode cX4_addTest 23 = .ok (.aload_n 0, 1) := by decide +kernel
theorem dX4_addTest_24 : decode cX4_addTest 24 = .ok (.getfield 52, 3) := by decide +kernel
theorem dX4_addTest_27 : decode cX4_addTest 27 = .ok (.iload_n 2, 1) := by decide +kernel
theorem dX4_addTest_28 : decode cX4_addTest 28 = .ok (.iastore, 1) := by decide +kernel
theorem dX4_addTest_29 : decode cX4_addTest 29 = .ok (.aload_n 0, 1) := by decide +kernel
theorem dX4_addTest_30 : decode cX4_addTest 30 = .ok (.getfield 36, 3) := by decide +kernel
theorem dX4_addTest_33 : decode cX4_addTest 33 = .ok (.aload_n 0, 1) := by decide +kernel
theorem dX4_addTest_34 : decode cX4_addTest 34 = .ok (.getfield 52, 3) := by decide +kernel
theorem dX4_addTest_37 : decode cX4_addTest 37 = .ok (.iload_n 3, 1) := by decide +kernel
theorem dX4_addTest_38 : decode cX4_addTest 38 = .ok (.iastore, 1) := by decide +kernel
theorem dX4_addTest_39 : decode cX4_addTest 39 = .ok (.aload_n 0, 1) := by decide +kernel
theorem dX4_addTest_40 : decode cX4_addTest 40 = .ok (.getfield 39, 3) := by decide +kernel
theorem dX4_addTest_43 : decode cX4_addTest 43 = .ok (.aload_n 0, 1) := by decide +kernel
theorem dX4_addTest_44 : decode cX4_addTest 44 = .ok (.getfield 52, 3) := by decide +kernel
theorem dX4_addTest_47 : decode cX4_addTest 47 = .ok (.iload 4, 2) := by decide +kernel
theorem dX4_addTest_49 : decode cX4_addTest 49 = .ok (.iastore, 1) := by decide +kernel
theorem dX4_addTest_50 : decode cX4_addTest 50 = .ok (.aload_n 0, 1) := by decide +kernel
theorem dX4_addTest_51 : decode cX4_addTest 51 = .ok (.dup, 1) := by decide +kernel
theorem dX4_addTest_52 : decode cX4_addTest 52 = .ok (.getfield 52, 3) := by decide +kernel
theorem dX4_addTest_55 : decode cX4_addTest 55 = .ok (.iconst 1, 1) := by decide +kernel
theorem dX4_addTest_56 : decode cX4_addTest 56 = .ok (.iadd, 1) := by decide +kernel
theorem dX4_addTest_57 : decode cX4_addTest 57 = .ok (.putfield 52, 3) := by decide +kernel
theorem dX4_addTest_60 : decode cX4_addTest 60 = .ok (.return_, 1) := by decide +kernel
set_option maxRecDepth 20000 in
theorem ggX5_init_J7_fill_53178 : GoodIn wsX5_init wsJ7_fill_53178 := goodIn_r _ [15] (by decide +kernel) (by decide +kernel)
set_option maxRecDepth 20000 in
theorem gX5_init_J7_fill_53178 : GoodIn wsX5_init (va_wsS RX5 33 yJ7_fill_53178 wsJ7_fill_53178) := goodIn_app (goodIn_of _ (by decide +kernel)) ggX5_init_J7_fill_53178
theorem dX5_init_0 : decode cX5_init 0 = .ok (.aload_n 0, 1) := by decide +kernel
theorem dX5_init_1 : decode cX5_init 1 = .ok (.invokespecial 3, 3) := by decide +kernel
theorem dX5_init_4 : decode cX5_init 4 = .ok (.aload_n 0, 1) := by decide +kernel
theorem dX5_init_5 : decode cX5_init 5 = .ok (.iconst 5, 1) := by decide +kernel
theorem dX5_init_6 : decode cX5_init 6 = .ok (.newarray .int, 2) := by decide +kernel
theorem dX5_init_8 : decode cX5_init 8 = .ok (.putfield 9, 3) := by decide +kernel
theorem dX5_init_11 : decode cX5_init 11 = .ok (.aload_n 0, 1) := by decide +kernel
theorem dX5_init_12 : decode cX5_init 12 = .ok (.iconst 5, 1) := by decide +kernel
theorem dX5_init_13 : decode cX5_init 13 = .ok (.newarray .int, 2) := by decide +kernel
theorem dX5_init_15 : decode cX5_init 15 = .ok (.putfield 15, 3) := by decide +kernel
theorem dX5_init_18 : decode cX5_init 18 = .ok (.aload_n 0, 1) := by decide +kernel
theorem dX5_init_19 : decode cX5_init 19 = .ok (.iconst 5, 1) := by decide +kernel
theorem dX5_init_20 : decode cX5_init 20 = .ok (.newarray .int, 2) := by decide +kernel
theorem dX5_init_22 : decode cX5_init 22 = .ok (.putfield 18, 3) := by decide +kernel
theorem dX5_init_25 : decode cX5_init 25 = .ok (.aload_n 0, 1) := by decide +kernel
theorem dX5_init_26 : decode cX5_init 26 = .ok (.iconst 4, 1) := by decide +kernel
theorem dX5_init_27 : decode cX5_init 27 = .ok (.newarray .int, 2) := by decide +kernel
theorem dX5_init_29 : decode cX5_init 29 = .ok (.putfield 21, 3) := by decide +kernel
theorem dX5_init_32 : decode cX5_init 32 = .ok (.aload_n 0, 1) := by decide +kernel
theorem dX5_init_33 : decode cX5_init 33 = .ok (.iconst 4, 1) := by decide +kernel
theorem dX5_init_34 : decode cX5_init 34 = .ok (.newarray .int, 2) := by decide +kernel
theorem dX5_init_36 : decode cX5_init 36 = .ok (.putfield 24, 3) := by decide +kernel
theorem dX5_init_39 : decode cX5_init 39 = .ok (.aload_n 0, 1) := by decide +kernel
theorem dX5_init_40 : decode cX5_init 40 = .ok (.iconst 4, 1) := by decide +kernel
theorem dX5_init_41 : decode cX5_init 41 = .ok (.newarray .int, 2) := by decide +kernel
theorem dX5_init_43 : decode cX5_init 43 = .ok (.putfield 27, 3) := by decide +kernel
theorem dX5_init_46 : decode cX5_init 46 = .ok (.aload_n 0, 1) := by decide +kernel
theorem dX5_init_47 : decode cX5_init 47 = .ok (.bipush 6, 2) := by decide +kernel
theorem dX5_init_49 : decode cX5_init 49 = .ok (.newarray .int, 2) := by decide +kernel
theorem dX5_init_51 : decode cX5_init 51 = .ok (.putfield 30, 3) := by decide +kernel
theorem dX5_init_54 : decode cX5_init 54 = .ok (.aload_n 0, 1) := by decide +kernel
theorem dX5_init_55 : decode cX5_init 55 = .ok (.getfield 21, 3) := by decide +kernel
theorem dX5_init_58 : decode cX5_init 58 = .ok (.iconst (-1), 1) := by decide +kernel
theorem dX5_init_59 : decode cX5_init 59 = .ok (.invokestatic 33, 3) := by decide +kernel
theorem dX5_init_62 : decode cX5_init 62 = .ok (.aload_n 0, 1) := by decide +kernel
theorem dX5_init_63 : decode cX5_init 63 = .ok (.getfield 24, 3) := by decide +kernel
theorem dX5_init_66 : decode cX5_init 66 = .ok (.iconst (-1), 1) := by decide +kernel
theorem dX5_init_67 : decode cX5_init 67 = .ok (.invokestatic 33, 3) := by decide +kernel
theorem dX5_init_70 : decode cX5_init 70 = .ok (.aload_n 0, 1) := by decide +kernel
theorem dX5_init_71 : decode cX5_init 71 = .ok (.getfield 30, 3) := by decide +kernel
theorem dX5_init_74 : decode cX5_init 74 = .ok (.iconst (-1), 1) := by decide +kernel
theorem dX5_init_75 : decode cX5_init 75 = .ok (.invokestatic 33, 3) := by decide +kernel
theorem dX5_init_78 : decode cX5_init 78 = .ok (.return_, 1) := by decide +kernel
set_option maxRecDepth 20000 in
theorem ggX5_clear_J7_fill_53178 : GoodIn wsX5_clear wsJ7_fill_53178 := goodIn_r _ [13] (by decide +kernel) (by decide +kernel)
set_option maxRecDepth 20000 in
theorem gX5_clear_J7_fill_53178 : GoodIn wsX5_clear (va_wsS RX5 33 yJ7_fill_53178 wsJ7_fill_53178) := goodIn_app (goodIn_of _ (by decide +kernel)) ggX5_clear_J7_fill_53178
theorem dX5_clear_0 : decode cX5_clear 0 = .ok (.aload_n 0, 1) := by decide +kernel
theorem dX5_clear_1 : decode cX5_clear 1 = .ok (.iconst 0, 1) := by decide +kernel
theorem dX5_clear_2 : decode cX5_clear 2 = .ok (.putfield 39, 3) := by decide +kernel
theorem dX5_clear_5 : decode cX5_clear 5 = .ok (.aload_n 0, 1) := by decide +kernel
theorem dX5_clear_6 : decode cX5_clear 6 = .ok (.iconst 0, 1) := by decide +kernel
theorem dX5_clear_7 : decode cX5_clear 7 = .ok (.putfield 43, 3) := by decide +kernel
theorem dX5_clear_10 : decode cX5_clear 10 = .ok (.aload_n 0, 1) := by decide +kernel
theorem dX5_clear_11 : decode cX5_clear 11 = .ok (.getfield 9, 3) := by decide +kernel
theorem dX5_clear_14 : decode cX5_clear 14 = .ok (.iconst 0, 1) := by decide +kernel
theorem dX5_clear_15 : decode cX5_clear 15 = .ok (.invokestatic 33, 3) := by decide +kernel
theorem dX5_clear_18 : decode cX5_clear 18 = .ok (.aload_n 0, 1) := by decide +kernel
theorem dX5_clear_19 : decode cX5_clear 19 = .ok (.getfield 15, 3) := by decide +kernel
theorem dX5_clear_22 : decode cX5_clear 22 = .ok (.iconst 0, 1) := by decide +kernel
theorem dX5_clear_23 : decode cX5_clear 23 = .ok (.invokestatic 33, 3) := by decide +kernel
theorem dX5_clear_26 : decode cX5_clear 26 = .ok (.aload_n 0, 1) := by decide +kernel
theorem dX5_clear_27 : decode cX5_clear 27 = .ok (.getfield 18, 3) := by decide +kernel
theorem dX5_clear_30 : decode cX5_clear 30 = .ok (.iconst 0, 1) := by decide +kernel
theorem dX5_clear_31 : decode cX5_clear 31 = .ok (.invokestatic 33, 3) := by decide +kernel
theorem dX5_clear_34 : decode cX5_clear 34 = .ok (.aload_n 0, 1) := by decide +kernel
theorem dX5_clear_35 : decode cX5_clear 35 = .ok (.getfield 21, 3) := by decide +kernel
theorem dX5_clear_38 : decode cX5_clear 38 = .ok (.iconst (-1), 1) := by decide +kernel
theorem dX5_clear_39 : decode cX5_clear 39 = .ok (.invokestatic 33, 3) := by decide +kernel
theorem dX5_clear_42 : decode cX5_clear 42 = .ok (.aload_n 0, 1) := by decide +kernel
theorem dX5_clear_43 : decode cX5_clear 43 = .ok (.getfield 24, 3) := by decide +kernel
theorem dX5_clear_46 : decode cX5_clear 46 = .ok (.iconst (-1), 1) := by decide +kernel
theorem dX5_clear_47 : decode cX5_clear 47 = .ok (.invokestatic 33, 3) := by decide +kernel
theorem dX5_clear_50 : decode cX5_clear 50 = .ok (.aload_n 0, 1) := by decide +kernel
theorem dX5_clear_51 : decode cX5_clear 51 = .ok (.getfield 27, 3) := by decide +kernel
theorem dX5_clear_54 : decode cX5_clear 54 = .ok (.iconst 0, 1) := by decide +kernel
theorem dX5_clear_55 : decode cX5_clear 55 = .ok (.invokestatic 33, 3) := by decide +kernel
theorem dX5_clear_58 : decode cX5_clear 58 = .ok (.aload_n 0, 1) := by decide +kernel
theorem dX5_clear_59 : decode cX5_clear 59 = .ok (.getfield 30, 3) := by decide +kernel
theorem dX5_clear_62 : decode cX5_clear 62 = .ok (.iconst (-1), 1) := by decide +kernel
theorem dX5_clear_63 : decode cX5_clear 63 = .ok (.invokestatic 33, 3) := by decide +kernel
theorem dX5_clear_66 : decode cX5_clear 66 = .ok (.return_, 1) := by decide +kernel
theorem dX5_become_0 : decode cX5_become 0 = .ok (.aload_n 0, 1) := by decide +kernel
theorem dX5_become_1 : decode cX5_become 1 = .ok (.aload_n 1, 1) := by decide +kernel
theorem dX5_become_2 : decode cX5_become 2 = .ok (.getfield 39, 3) := by decide +kernel
theorem dX5_become_5 : decode cX5_become 5 = .ok (.putfield 39, 3) := by decide +kernel
theorem dX5_become_8 : decode cX5_become 8 = .ok (.aload_n 0, 1) := by decide +kernel
theorem dX5_become_9 : decode cX5_become 9 = .ok (.aload_n 1, 1) := by decide +kernel
theorem dX5_become_10 : decode cX5_become 10 = .ok (.getfield 43, 3) := by decide +kernel
theorem dX5_become_13 : decode cX5_become 13 = .ok (.putfield 43, 3) := by decide +kernel
theorem dX5_become_16 : decode cX5_become 16 = .ok (.aload_n 1, 1) := by decide +kernel
theorem dX5_become_17 : decode cX5_become 17 = .ok (.getfield 9, 3) := by decide +kernel
theorem dX5_become_20 : decode cX5_become 20 = .ok (.iconst 0, 1) := by decide +kernel
theorem dX5_become_21 : decode cX5_become 21 = .ok (.aload_n 0, 1) := by decide +kernel
theorem dX5_become_22 : decode cX5_become 22 = .ok (.getfield 9, 3) := by decide +kernel
theorem dX5_become_25 : decode cX5_become 25 = .ok (.iconst 0, 1) := by decide +kernel
theorem dX5_become_26 : decode cX5_become 26 = .ok (.iconst 5, 1) := by decide +kernel
theorem dX5_become_27 : decode cX5_become 27 = .ok (.invokestatic 46, 3) := by decide +kernel
theorem dX5_become_30 : decode cX5_become 30 = .ok (.aload_n 1, 1) := by decide +kernel
theorem dX5_become_31 : decode cX5_become 31 = .ok (.getfield 15, 3) := by decide +kernel
theorem dX5_become_34 : decode cX5_become 34 = .ok (.iconst 0, 1) := by decide +kernel
theorem dX5_become_35 : decode cX5_become 35 = .ok (.aload_n 0, 1) := by decide +kernel
theorem dX5_become_36 : decode cX5_become 36 = .ok (.getfield 15, 3) := by decide +kernel
theorem dX5_become_39 : decode cX5_become 39 = .ok (.iconst 0, 1) := by decide +kernel
theorem dX5_become_40 : decode cX5_become 40 = .ok (.iconst 5, 1) := by decide +kernel
theorem dX5_become_41 : decode cX5_become 41 = .ok (.invokestatic 46, 3) := by decide +kernel
theorem dX5_become_44 : decode cX5_become 44 = .ok (.aload_n 1, 1) := by decide +kernel
theorem dX5_become_45 : decode cX5_become 45 = .ok (.getfield 18, 3) := by decide +kernel
theorem dX5_become_48 : decode cX5_become 48 = .ok (.iconst 0, 1) := by decide +kernel
theorem dX5_become_49 : decode cX5_become 49 = .ok (.aload_n 0, 1) := by decide +kernel
theorem dX5_become_50 : decode cX5_become 50 = .ok (.getfield 18, 3) := by decide +kernel
theorem dX5_become_53 : decode cX5_become 53 = .ok (.iconst 0, 1) := by decide +kernel
theorem dX5_become_54 : decode cX5_become 54 = .ok (.iconst 5, 1) := by decide +kernel
theorem dX5_become_55 : decode cX5_become 55 = .ok (.invokestatic 46, 3) := by decide +kernel
theorem dX5_become_58 : decode cX5_become 58 = .ok (.aload_n 1, 1) := by decide +kernel
theorem dX5_become_59 : decode cX5_become 59 = .ok (.getfield 21, 3) := by decide +kernel
theorem dX5_become_62 : decode cX5_become 62 = .ok (.iconst 0, 1) := by decide +kernel
theorem dX5_become_63 : decode cX5_become 63 = .ok (.aload_n 0, 1) := by decide +kernel
theorem dX5_become_64 : decode cX5_become 64 = .ok (.getfield 21, 3) := by decide +kernel
theorem dX5_become_67 : decode cX5_become 67 = .ok (.iconst 0, 1) := by decide +kernel
theorem dX5_become_68 : decode cX5_become 68 = .ok (.iconst 4, 1) := by decide +kernel
theorem dX5_become_69 : decode cX5_become 69 = .ok (.invokestatic 46, 3) := by decide +kernel
theorem dX5_become_72 : decode cX5_become 72 = .ok (.aload_n 1, 1) := by decide +kernel
theorem dX5_become_73 : decode cX5_become 73 = .ok (.getfield 24, 3) := by decide +kernel
theorem dX5_become_76 : decode cX5_become 76 = .ok (.iconst 0, 1) := by decide +kernel
theorem dX5_become_77 : decode cX5_become 77 = .ok (.aload_n 0, 1) := by decide +kernel
theorem dX5_become_78 : decode cX5_become 78 = .ok (.getfield 24, 3) := by decide +kernel
theorem dX5_become_81 : decode cX5_become 81 = .ok (.iconst 0, 1) := by decide +kernel
theorem dX5_become_82 : decode cX5_become 82 = .ok (.iconst 4, 1) := by decide +kernel
theorem dX5_become_83 : decode cX5_become 83 = .ok (.invokestatic 46, 3) := by decide +kernel
theorem dX5_become_86 : decode cX5_become 86 = .ok (.aload_n 1, 1) := by decide +kernel
theorem dX5_become_87 : decode cX5_become 87 = .ok (.getfield 27, 3) := by decide +kernel
theorem dX5_become_90 : decode cX5_become 90 = .ok (.iconst 0, 1) := by decide +kernel
theorem dX5_become_91 : decode cX5_become 91 = .ok (.aload_n 0, 1) := by decide +kernel
theorem dX5_become_92 : decode cX5_become 92 = .ok (.getfield 27, 3) := by decide +kernel
theorem dX5_become_95 : decode cX5_become 95 = .ok (.iconst 0, 1) := by decide +kernel
theorem dX5_become_96 : decode cX5_become 96 = .ok (.iconst 4, 1) := by decide +kernel
theorem dX5_become_97 : decode cX5_become 97 = .ok (.invokestatic 46, 3) := by decide +kernel
theorem dX5_become_100 : decode cX5_become 100 = .ok (.aload_n 1, 1) := by decide +kernel
theorem dX5_become_101 : decode cX5_become 101 = .ok (.getfield 30, 3) := by decide +kernel
theorem dX5_become_104 : decode cX5_become 104 = .ok (.iconst 0, 1) := by decide +kernel
theorem dX5_become_105 : decode cX5_become 105 = .ok (.aload_n 0, 1) := by decide +kernel
theorem dX5_become_106 : decode cX5_become 106 = .ok (.getfield 30, 3) := by decide +kernel
theorem dX5_become_109 : decode cX5_become 109 = .ok (.iconst 0, 1) := by decide +kernel
theorem dX5_become_110 : decode cX5_become 110 = .ok (.bipush 6, 2) := by decide +kernel
theorem dX5_become_112 : decode cX5_become 112 = .ok (.invokestatic 46, 3) := by decide +kernel
theorem dX5_become_115 : decode cX5_become 115 = .ok (.return_, 1) := by decide +kernel
theorem dX5_stands_0 : decode cX5_stands 0 = .ok (.aload_n 0, 1) := by decide +kernel
theorem dX5_stands_1 : decode cX5_stands 1 = .ok (.getfield 21, 3) := by decide +kernel
theorem dX5_stands_4 : decode cX5_stands 4 = .ok (.iload_n 1, 1) := by decide +kernel
theorem dX5_stands_5 : decode cX5_stands 5 = .ok (.iaload, 1) := by decide +kernel
theorem dX5_stands_6 : decode cX5_stands 6 = .ok (.iconst (-1), 1) := by decide +kernel
theorem dX5_stands_7 : decode cX5_stands 7 = .ok (.if_icmp .eq 7, 3) := by decide +kernel
theorem dX5_stands_10 : decode cX5_stands 10 = .ok (.iconst 1, 1) := by decide +kernel
theorem dX5_stands_11 : decode cX5_stands 11 = .ok (.goto 4, 3) := by decide +kernel
theorem dX5_stands_14 : decode cX5_stands 14 = .ok (.iconst 0, 1) := by decide +kernel
theorem dX5_stands_15 : decode cX5_stands 15 = .ok (.ireturn, 1) := by decide +kernel
theorem dX5_isGone_0 : decode cX5_isGone 0 = .ok (.aload_n 0, 1) := by decide +kernel
theorem dX5_isGone_1 : decode cX5_isGone 1 = .ok (.getfield 21, 3) := by decide +kernel
theorem dX5_isGone_4 : decode cX5_isGone 4 = .ok (.iload_n 1, 1) := by decide +kernel
theorem dX5_isGone_5 : decode cX5_isGone 5 = .ok (.iaload, 1) := by decide +kernel
theorem dX5_isGone_6 : decode cX5_isGone 6 = .ok (.iconst (-1), 1) := by decide +kernel
theorem dX5_isGone_7 : decode cX5_isGone 7 = .ok (.if_icmp .ne 17, 3) := by decide +kernel
theorem dX5_isGone_10 : decode cX5_isGone 10 = .ok (.aload_n 0, 1) := by decide +kernel
theorem dX5_isGone_11 : decode cX5_isGone 11 = .ok (.getfield 24, 3) := by decide +kernel
theorem dX5_isGone_14 : decode cX5_isGone 14 = .ok (.iload_n 1, 1) := by decide +kernel
theorem dX5_isGone_15 : decode cX5_isGone 15 = .ok (.iaload, 1) := by decide +kernel
theorem dX5_isGone_16 : decode cX5_isGone 16 = .ok (.iconst (-1), 1) := by decide +kernel
theorem dX5_isGone_17 : decode cX5_isGone 17 = .ok (.if_icmp .ne 7, 3) := by decide +kernel
theorem dX5_isGone_20 : decode cX5_isGone 20 = .ok (.iconst 1, 1) := by decide +kernel
theorem dX5_isGone_21 : decode cX5_isGone 21 = .ok (.goto 4, 3) := by decide +kernel
theorem dX5_isGone_24 : decode cX5_isGone 24 = .ok (.iconst 0, 1) := by decide +kernel
theorem dX5_isGone_25 : decode cX5_isGone 25 = .ok (.ireturn, 1) := by decide +kernel
theorem dX5_isAtPlace_0 : decode cX5_isAtPlace 0 = .ok (.aload_n 0, 1) := by decide +kernel
theorem dX5_isAtPlace_1 : decode cX5_isAtPlace 1 = .ok (.getfield 15, 3) := by decide +kernel
theorem dX5_isAtPlace_4 : decode cX5_isAtPlace 4 = .ok (.iload_n 1, 1) := by decide +kernel
theorem dX5_isAtPlace_5 : decode cX5_isAtPlace 5 = .ok (.iaload, 1) := by decide +kernel
theorem dX5_isAtPlace_6 : decode cX5_isAtPlace 6 = .ok (.ifCond .ne 7, 3) := by decide +kernel
theorem dX5_isAtPlace_9 : decode cX5_isAtPlace 9 = .ok (.iconst 1, 1) := by decide +kernel
theorem dX5_isAtPlace_10 : decode cX5_isAtPlace 10 = .ok (.goto 4, 3) := by decide +kernel
theorem dX5_isAtPlace_13 : decode cX5_isAtPlace 13 = .ok (.iconst 0, 1) := by decide +kernel
theorem dX5_isAtPlace_14 : decode cX5_isAtPlace 14 = .ok (.ireturn, 1) := by decide +kernel
theorem dX5_heldBits_0 : decode cX5_heldBits 0 = .ok (.iconst 0, 1) := by decide +kernel
theorem dX5_heldBits_1 : decode cX5_heldBits 1 = .ok (.istore_n 2, 1) := by decide +kernel
theorem dX5_heldBits_2 : decode cX5_heldBits 2 = .ok (.iconst 0, 1) := by decide +kernel
theorem dX5_heldBits_3 : decode cX5_heldBits 3 = .ok (.istore_n 3, 1) := by decide +kernel
theorem dX5_heldBits_4 : decode cX5_heldBits 4 = .ok (.iload_n 3, 1) := by decide +kernel
theorem dX5_heldBits_5 : decode cX5_heldBits 5 = .ok (.iconst 4, 1) := by decide +kernel
theorem dX5_heldBits_6 : decode cX5_heldBits 6 = .ok (.if_icmp .ge 25, 3) := by decide +kernel
theorem dX5_heldBits_9 : decode cX5_heldBits 9 = .ok (.aload_n 0, 1) := by decide +kernel
theorem dX5_heldBits_10 : decode cX5_heldBits 10 = .ok (.getfield 24, 3) := by decide +kernel
theorem dX5_heldBits_13 : decode cX5_heldBits 13 = .ok (.iload_n 3, 1) := by decide +kernel
theorem dX5_heldBits_14 : decode cX5_heldBits 14 = .ok (.iaload, 1) := by decide +kernel
theorem dX5_heldBits_15 : decode cX5_heldBits 15 = .ok (.iload_n 1, 1) := by decide +kernel
theorem dX5_heldBits_16 : decode cX5_heldBits 16 = .ok (.if_icmp .ne 9, 3) := by decide +kernel
theorem dX5_heldBits_19 : decode cX5_heldBits 19 = .ok (.iload_n 2, 1) := by decide +kernel
theorem dX5_heldBits_20 : decode cX5_heldBits 20 = .ok (.iconst 1, 1) := by decide +kernel
theorem dX5_heldBits_21 : decode cX5_heldBits 21 = .ok (.iload_n 3, 1) := by decide +kernel
theorem dX5_heldBits_22 : decode cX5_heldBits 22 = .ok (.ishl, 1) := by decide +kernel
theorem dX5_heldBits_23 : decode cX5_heldBits 23 = .ok (.ior, 1) := by decide +kernel
theorem dX5_heldBits_24 : decode cX5_heldBits 24 = .ok (.istore_n 2, 1) := by decide +kernel
theorem dX5_heldBits_25 : decode cX5_heldBits 25 = .ok (.iinc 3 1, 3) := by decide +kernel
theorem dX5_heldBits_28 : decode cX5_heldBits 28 = .ok (.goto (-24), 3) := by decide +kernel
theorem dX5_heldBits_31 : decode cX5_heldBits 31 = .ok (.iload_n 2, 1) := by decide +kernel
theorem dX5_heldBits_32 : decode cX5_heldBits 32 = .ok (.ireturn, 1) := by decide +kernel
set_option maxRecDepth 20000 in
theorem ggX5_howManyHeld_X5_heldBits : GoodIn wsX5_howManyHeld wsX5_heldBits := goodIn_r _ [5, 6, 14, 15, 16, 17, 18, 19, 20, 21, 22] (by decide +kernel) (by decide +kernel)
set_option maxRecDepth 20000 in
theorem gX5_howManyHeld_X5_heldBits : GoodIn wsX5_howManyHeld (wsV RX5 52 RX5 yX5_heldBits wsX5_heldBits) := goodIn_app (goodIn_of _ (by decide +kernel)) ggX5_howManyHeld_X5_heldBits
set_option maxRecDepth 20000 in
theorem ggX5_howManyHeld_J6_bitCount_0f7a4 : GoodIn wsX5_howManyHeld wsJ6_bitCount_0f7a4 := goodIn_r _ [10, 11, 12, 13] (by decide +kernel) (by decide +kernel)
set_option maxRecDepth 20000 in
theorem gX5_howManyHeld_J6_bitCount_0f7a4 : GoodIn wsX5_howManyHeld (va_wsS RX5 56 yJ6_bitCount_0f7a4 wsJ6_bitCount_0f7a4) := goodIn_app (goodIn_of _ (by decide +kernel)) ggX5_howManyHeld_J6_bitCount_0f7a4
theorem dX5_howManyHeld_0 : decode cX5_howManyHeld 0 = .ok (.aload_n 0, 1) := by decide +kernel
theorem dX5_howManyHeld_1 : decode cX5_howManyHeld 1 = .ok (.iload_n 1, 1) := by decide +kernel
theorem dX5_howManyHeld_2 : decode cX5_howManyHeld 2 = .ok (.invokevirtual 52, 3) := by decide +kernel
theorem dX5_howManyHeld_5 : decode cX5_howManyHeld 5 = .ok (.invokestatic 56, 3) := by decide +kernel
theorem dX5_howManyHeld_8 : decode cX5_howManyHeld 8 = .ok (.ireturn, 1) := by decide +kernel
set_option maxRecDepth 20000 in
theorem ggX5_canHoldMore_X5_isAtPlace : GoodIn wsX5_canHoldMore wsX5_isAtPlace := goodIn_r _ [5, 6, 23, 24, 25, 26, 27, 28, 29, 30, 31] (by decide +kernel) (by decide +kernel)
set_option maxRecDepth 20000 in
theorem gX5_canHoldMore_X5_isAtPlace : GoodIn wsX5_canHoldMore (wsV RX5 61 RX5 yX5_isAtPlace wsX5_isAtPlace) := goodIn_app (goodIn_of _ (by decide +kernel)) ggX5_canHoldMore_X5_isAtPlace
set_option maxRecDepth 20000 in
theorem ggX5_canHoldMore_X5_howManyHeld : GoodIn wsX5_canHoldMore wsX5_howManyHeld := goodIn_r _ [10, 11, 12, 13, 4, 14, 15, 16, 17, 18, 19, 20, 21, 22, 23, 24, 25, 26, 27, 28, 29, 30, 31] (by decide +kernel) (by decide +kernel)
set_option maxRecDepth 20000 in
theorem gX5_canHoldMore_X5_howManyHeld : GoodIn wsX5_canHoldMore (wsV RX5 65 RX5 yX5_howManyHeld wsX5_howManyHeld) := goodIn_app (goodIn_of _ (by decide +kernel)) ggX5_canHoldMore_X5_howManyHeld
theorem dX5_canHoldMore_0 : decode cX5_canHoldMore 0 = .ok (.aload_n 0, 1) := by decide +kernel
theorem dX5_canHoldMore_1 : decode cX5_canHoldMore 1 = .ok (.iload_n 1, 1) := by decide +kernel
theorem dX5_canHoldMore_2 : decode cX5_canHoldMore 2 = .ok (.invokevirtual 61, 3) := by decide +kernel
theorem dX5_canHoldMore_5 : decode cX5_canHoldMore 5 = .ok (.ifCond .eq 16, 3) := by decide +kernel
theorem dX5_canHoldMore_8 : decode cX5_canHoldMore 8 = .ok (.aload_n 0, 1) := by decide +kernel
theorem dX5_canHoldMore_9 : decode cX5_canHoldMore 9 = .ok (.iload_n 1, 1) := by decide +kernel
theorem dX5_canHoldMore_10 : decode cX5_canHoldMore 10 = .ok (.invokevirtual 65, 3) := by decide +kernel
theorem dX5_canHoldMore_13 : decode cX5_canHoldMore 13 = .ok (.iconst 2, 1) := by decide +kernel
theorem dX5_canHoldMore_14 : decode cX5_canHoldMore 14 = .ok (.if_icmp .ge 7, 3) := by decide +kernel
theorem dX5_canHoldMore_17 : decode cX5_canHoldMore 17 = .ok (.iconst 1, 1) := by decide +kernel
theorem dX5_canHoldMore_18 : decode cX5_canHoldMore 18 = .ok (.goto 4, 3) := by decide +kernel
theorem dX5_canHoldMore_21 : decode cX5_canHoldMore 21 = .ok (.iconst 0, 1) := by decide +kernel
theorem dX5_canHoldMore_22 : decode cX5_canHoldMore 22 = .ok (.ireturn, 1) := by decide +kernel
set_option maxRecDepth 20000 in
theorem ggX5_canTake_X5_stands : GoodIn wsX5_canTake wsX5_stands := goodIn_r _ [7, 1, 33, 34, 35, 36, 37, 38, 39, 40, 41] (by decide +kernel) (by decide +kernel)
set_option maxRecDepth 20000 in
theorem gX5_canTake_X5_stands : GoodIn wsX5_canTake (wsV RX5 68 RX5 yX5_stands wsX5_stands) := goodIn_app (goodIn_of _ (by decide +kernel)) ggX5_canTake_X5_stands
set_option maxRecDepth 20000 in
theorem ggX5_canTake_X5_canHoldMore : GoodIn wsX5_canTake wsX5_canHoldMore := goodIn_r _ [11, 12, 13, 14, 6, 15, 16, 17, 18, 19, 20, 21, 22, 23, 24, 25, 26, 27, 28, 29, 30, 31, 32, 33, 34, 35, 36, 37, 38, 39, 40, 41] (by decide +kernel) (by decide +kernel)
set_option maxRecDepth 20000 in
theorem gX5_canTake_X5_canHoldMore : GoodIn wsX5_canTake (wsV RX5 71 RX5 yX5_canHoldMore wsX5_canHoldMore) := goodIn_app (goodIn_of _ (by decide +kernel)) ggX5_canTake_X5_canHoldMore
theorem dX5_canTake_0 : decode cX5_canTake 0 = .ok (.aload_n 0, 1) := by decide +kernel
theorem dX5_canTake_1 : decode cX5_canTake 1 = .ok (.iload_n 2, 1) := by decide +kernel
theorem dX5_canTake_2 : decode cX5_canTake 2 = .ok (.invokevirtual 68, 3) := by decide +kernel
theorem dX5_canTake_5 : decode cX5_canTake 5 = .ok (.ifCond .eq 30, 3) := by decide +kernel
