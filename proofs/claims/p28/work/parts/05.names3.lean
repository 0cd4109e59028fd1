theorem dX11_isPlace_4 : decode cX11_isPlace 4 = .ok (.iload_n 1, 1) := by decide +kernel
theorem dX11_isPlace_5 : decode cX11_isPlace 5 = .ok (.aload_n 0, 1) := by decide +kernel
theorem dX11_isPlace_6 : decode cX11_isPlace 6 = .ok (.getfield 19, 3) := by decide +kernel
theorem dX11_isPlace_9 : decode cX11_isPlace 9 = .ok (.getfield 57, 3) := by decide +kernel
theorem dX11_isPlace_12 : decode cX11_isPlace 12 = .ok (.getfield 166, 3) := by decide +kernel
theorem dX11_isPlace_15 : decode cX11_isPlace 15 = .ok (.if_icmp .ge 7, 3) := by decide +kernel
theorem dX11_isPlace_18 : decode cX11_isPlace 18 = .ok (.iconst 1, 1) := by decide +kernel
theorem dX11_isPlace_19 : decode cX11_isPlace 19 = .ok (.goto 4, 3) := by decide +kernel
theorem dX11_isPlace_22 : decode cX11_isPlace 22 = .ok (.iconst 0, 1) := by decide +kernel
theorem dX11_isPlace_23 : decode cX11_isPlace 23 = .ok (.ireturn, 1) := by decide +kernel
theorem dX11_isHand_0 : decode cX11_isHand 0 = .ok (.iload_n 1, 1) := by decide +kernel
theorem dX11_isHand_1 : decode cX11_isHand 1 = .ok (.ifCond .lt 21, 3) := by decide +kernel
theorem dX11_isHand_4 : decode cX11_isHand 4 = .ok (.iload_n 1, 1) := by decide +kernel
theorem dX11_isHand_5 : decode cX11_isHand 5 = .ok (.aload_n 0, 1) := by decide +kernel
theorem dX11_isHand_6 : decode cX11_isHand 6 = .ok (.getfield 19, 3) := by decide +kernel
theorem dX11_isHand_9 : decode cX11_isHand 9 = .ok (.getfield 57, 3) := by decide +kernel
theorem dX11_isHand_12 : decode cX11_isHand 12 = .ok (.getfield 169, 3) := by decide +kernel
theorem dX11_isHand_15 : decode cX11_isHand 15 = .ok (.if_icmp .ge 7, 3) := by decide +kernel
theorem dX11_isHand_18 : decode cX11_isHand 18 = .ok (.iconst 1, 1) := by decide +kernel
theorem dX11_isHand_19 : decode cX11_isHand 19 = .ok (.goto 4, 3) := by decide +kernel
theorem dX11_isHand_22 : decode cX11_isHand 22 = .ok (.iconst 0, 1) := by decide +kernel
theorem dX11_isHand_23 : decode cX11_isHand 23 = .ok (.ireturn, 1) := by decide +kernel
theorem dX11_isJug_0 : decode cX11_isJug 0 = .ok (.iload_n 1, 1) := by decide +kernel
theorem dX11_isJug_1 : decode cX11_isJug 1 = .ok (.ifCond .lt 21, 3) := by decide +kernel
theorem dX11_isJug_4 : decode cX11_isJug 4 = .ok (.iload_n 1, 1) := by decide +kernel
theorem dX11_isJug_5 : decode cX11_isJug 5 = .ok (.aload_n 0, 1) := by decide +kernel
theorem dX11_isJug_6 : decode cX11_isJug 6 = .ok (.getfield 19, 3) := by decide +kernel
theorem dX11_isJug_9 : decode cX11_isJug 9 = .ok (.getfield 57, 3) := by decide +kernel
theorem dX11_isJug_12 : decode cX11_isJug 12 = .ok (.getfield 146, 3) := by decide +kernel
theorem dX11_isJug_15 : decode cX11_isJug 15 = .ok (.if_icmp .ge 7, 3) := by decide +kernel
theorem dX11_isJug_18 : decode cX11_isJug 18 = .ok (.iconst 1, 1) := by decide +kernel
theorem dX11_isJug_19 : decode cX11_isJug 19 = .ok (.goto 4, 3) := by decide +kernel
theorem dX11_isJug_22 : decode cX11_isJug 22 = .ok (.iconst 0, 1) := by decide +kernel
theorem dX11_isJug_23 : decode cX11_isJug 23 = .ok (.ireturn, 1) := by decide +kernel
theorem dX11_isWant_0 : decode cX11_isWant 0 = .ok (.iload_n 1, 1) := by decide +kernel
theorem dX11_isWant_1 : decode cX11_isWant 1 = .ok (.ifCond .lt 21, 3) := by decide +kernel
theorem dX11_isWant_4 : decode cX11_isWant 4 = .ok (.iload_n 1, 1) := by decide +kernel
theorem dX11_isWant_5 : decode cX11_isWant 5 = .ok (.aload_n 0, 1) := by decide +kernel
theorem dX11_isWant_6 : decode cX11_isWant 6 = .ok (.getfield 19, 3) := by decide +kernel
theorem dX11_isWant_9 : decode cX11_isWant 9 = .ok (.getfield 57, 3) := by decide +kernel
theorem dX11_isWant_12 : decode cX11_isWant 12 = .ok (.getfield 172, 3) := by decide +kernel
theorem dX11_isWant_15 : decode cX11_isWant 15 = .ok (.if_icmp .ge 7, 3) := by decide +kernel
theorem dX11_isWant_18 : decode cX11_isWant 18 = .ok (.iconst 1, 1) := by decide +kernel
theorem dX11_isWant_19 : decode cX11_isWant 19 = .ok (.goto 4, 3) := by decide +kernel
theorem dX11_isWant_22 : decode cX11_isWant 22 = .ok (.iconst 0, 1) := by decide +kernel
theorem dX11_isWant_23 : decode cX11_isWant 23 = .ok (.ireturn, 1) := by decide +kernel
set_option maxRecDepth 20000 in
theorem ggX11_isStandingJug_X11_isJug : GoodIn wsX11_isStandingJug wsX11_isJug := goodIn_r _ [6, 1, 13, 14, 15, 16, 17, 18, 19, 20, 21, 22, 23, 24, 25, 26, 27, 28, 29, 30, 31, 32, 33, 34, 35, 36, 37, 38, 39, 40, 41, 42, 43, 44, 45, 46, 47, 48, 49, 50, 51, 52, 53, 54, 55, 56, 57] (by decide +kernel) (by decide +kernel)
set_option maxRecDepth 20000 in
theorem gX11_isStandingJug_X11_isJug : GoodIn wsX11_isStandingJug (wsV RX11 175 RX11 yX11_isJug wsX11_isJug) := goodIn_app (goodIn_of _ (by decide +kernel)) ggX11_isStandingJug_X11_isJug
set_option maxRecDepth 20000 in
theorem ggX11_isStandingJug_X5_stands : GoodIn wsX11_isStandingJug wsX5_stands := goodIn_r _ [11, 12, 58, 59, 60, 61, 62, 63, 64, 65, 66] (by decide +kernel) (by decide +kernel)
set_option maxRecDepth 20000 in
theorem gX11_isStandingJug_X5_stands : GoodIn wsX11_isStandingJug (wsV RX11 178 RX5 yX5_stands wsX5_stands) := goodIn_app (goodIn_of _ (by decide +kernel)) ggX11_isStandingJug_X5_stands
theorem dX11_isStandingJug_0 : decode cX11_isStandingJug 0 = .ok (.aload_n 0, 1) := by decide +kernel
theorem dX11_isStandingJug_1 : decode cX11_isStandingJug 1 = .ok (.iload_n 1, 1) := by decide +kernel
theorem dX11_isStandingJug_2 : decode cX11_isStandingJug 2 = .ok (.invokevirtual 175, 3) := by decide +kernel
theorem dX11_isStandingJug_5 : decode cX11_isStandingJug 5 = .ok (.ifCond .eq 21, 3) := by decide +kernel
theorem dX11_isStandingJug_8 : decode cX11_isStandingJug 8 = .ok (.aload_n 0, 1) := by decide +kernel
theorem dX11_isStandingJug_9 : decode cX11_isStandingJug 9 = .ok (.getfield 19, 3) := by decide +kernel
theorem dX11_isStandingJug_12 : decode cX11_isStandingJug 12 = .ok (.getfield 133, 3) := by decide +kernel
theorem dX11_isStandingJug_15 : decode cX11_isStandingJug 15 = .ok (.iload_n 1, 1) := by decide +kernel
theorem dX11_isStandingJug_16 : decode cX11_isStandingJug 16 = .ok (.invokevirtual 178, 3) := by decide +kernel
theorem dX11_isStandingJug_19 : decode cX11_isStandingJug 19 = .ok (.ifCond .eq 7, 3) := by decide +kernel
theorem dX11_isStandingJug_22 : decode cX11_isStandingJug 22 = .ok (.iconst 1, 1) := by decide +kernel
theorem dX11_isStandingJug_23 : decode cX11_isStandingJug 23 = .ok (.goto 4, 3) := by decide +kernel
theorem dX11_isStandingJug_26 : decode cX11_isStandingJug 26 = .ok (.iconst 0, 1) := by decide +kernel
theorem dX11_isStandingJug_27 : decode cX11_isStandingJug 27 = .ok (.ireturn, 1) := by decide +kernel
theorem dX11_isTurned_0 : decode cX11_isTurned 0 = .ok (.iload_n 0, 1) := by decide +kernel
theorem dX11_isTurned_1 : decode cX11_isTurned 1 = .ok (.ifCond .lt 14, 3) := by decide +kernel
theorem dX11_isTurned_4 : decode cX11_isTurned 4 = .ok (.iload_n 0, 1) := by decide +kernel
theorem dX11_isTurned_5 : decode cX11_isTurned 5 = .ok (.sipush 999, 3) := by decide +kernel
theorem dX11_isTurned_8 : decode cX11_isTurned 8 = .ok (.if_icmp .gt 7, 3) := by decide +kernel
theorem dX11_isTurned_11 : decode cX11_isTurned 11 = .ok (.iconst 1, 1) := by decide +kernel
theorem dX11_isTurned_12 : decode cX11_isTurned 12 = .ok (.goto 4, 3) := by decide +kernel
theorem dX11_isTurned_15 : decode cX11_isTurned 15 = .ok (.iconst 0, 1) := by decide +kernel
theorem dX11_isTurned_16 : decode cX11_isTurned 16 = .ok (.ireturn, 1) := by decide +kernel
set_option maxRecDepth 20000 in
theorem ggX11_hand_X11_isHand : GoodIn wsX11_hand wsX11_isHand := goodIn_r _ [6, 1, 13, 14, 15, 16, 17, 18, 19, 20, 21, 22, 23, 24, 25, 26, 27, 28, 29, 30, 31, 32, 33, 34, 35, 36, 37, 38, 48, 49, 50, 51, 52, 53, 54, 55, 56, 57, 58, 59, 60, 61, 62, 63, 64, 65, 66] (by decide +kernel) (by decide +kernel)
set_option maxRecDepth 20000 in
theorem gX11_hand_X11_isHand : GoodIn wsX11_hand (wsV RX11 181 RX11 yX11_isHand wsX11_isHand) := goodIn_app (goodIn_of _ (by decide +kernel)) ggX11_hand_X11_isHand
set_option maxRecDepth 20000 in
theorem ggX11_hand_X5_heldBits : GoodIn wsX11_hand wsX5_heldBits := goodIn_r _ [11, 12, 39, 40, 41, 42, 43, 44, 45, 46, 47] (by decide +kernel) (by decide +kernel)
set_option maxRecDepth 20000 in
theorem gX11_hand_X5_heldBits : GoodIn wsX11_hand (wsV RX11 193 RX5 yX5_heldBits wsX5_heldBits) := goodIn_app (goodIn_of _ (by decide +kernel)) ggX11_hand_X5_heldBits
theorem dX11_hand_0 : decode cX11_hand 0 = .ok (.aload_n 0, 1) := by decide +kernel
theorem dX11_hand_1 : decode cX11_hand 1 = .ok (.iload_n 1, 1) := by decide +kernel
theorem dX11_hand_2 : decode cX11_hand 2 = .ok (.invokevirtual 181, 3) := by decide +kernel
theorem dX11_hand_5 : decode cX11_hand 5 = .ok (.ifCond .ne 5, 3) := by decide +kernel
theorem dX11_hand_8 : decode cX11_hand 8 = .ok (.iconst (-1), 1) := by decide +kernel
theorem dX11_hand_9 : decode cX11_hand 9 = .ok (.ireturn, 1) := by decide +kernel
theorem dX11_hand_10 : decode cX11_hand 10 = .ok (.iload_n 2, 1) := by decide +kernel
theorem dX11_hand_11 : decode cX11_hand 11 = .ok (.tableswitch 114 0 5 #[37, 50, 63, 76, 88, 101], 37) := by decide +kernel
theorem dX11_hand_48 : decode cX11_hand 48 = .ok (.aload_n 0, 1) := by decide +kernel
theorem dX11_hand_49 : decode cX11_hand 49 = .ok (.getfield 19, 3) := by decide +kernel
theorem dX11_hand_52 : decode cX11_hand 52 = .ok (.getfield 133, 3) := by decide +kernel
theorem dX11_hand_55 : decode cX11_hand 55 = .ok (.getfield 184, 3) := by decide +kernel
theorem dX11_hand_58 : decode cX11_hand 58 = .ok (.iload_n 1, 1) := by decide +kernel
theorem dX11_hand_59 : decode cX11_hand 59 = .ok (.iaload, 1) := by decide +kernel
theorem dX11_hand_60 : decode cX11_hand 60 = .ok (.ireturn, 1) := by decide +kernel
theorem dX11_hand_61 : decode cX11_hand 61 = .ok (.aload_n 0, 1) := by decide +kernel
theorem dX11_hand_62 : decode cX11_hand 62 = .ok (.getfield 19, 3) := by decide +kernel
theorem dX11_hand_65 : decode cX11_hand 65 = .ok (.getfield 133, 3) := by decide +kernel
theorem dX11_hand_68 : decode cX11_hand 68 = .ok (.getfield 187, 3) := by decide +kernel
theorem dX11_hand_71 : decode cX11_hand 71 = .ok (.iload_n 1, 1) := by decide +kernel
theorem dX11_hand_72 : decode cX11_hand 72 = .ok (.iaload, 1) := by decide +kernel
theorem dX11_hand_73 : decode cX11_hand 73 = .ok (.ireturn, 1) := by decide +kernel
theorem dX11_hand_74 : decode cX11_hand 74 = .ok (.aload_n 0, 1) := by decide +kernel
theorem dX11_hand_75 : decode cX11_hand 75 = .ok (.getfield 19, 3) := by decide +kernel
theorem dX11_hand_78 : decode cX11_hand 78 = .ok (.getfield 133, 3) := by decide +kernel
theorem dX11_hand_81 : decode cX11_hand 81 = .ok (.getfield 190, 3) := by decide +kernel
theorem dX11_hand_84 : decode cX11_hand 84 = .ok (.iload_n 1, 1) := by decide +kernel
theorem dX11_hand_85 : decode cX11_hand 85 = .ok (.iaload, 1) := by decide +kernel
theorem dX11_hand_86 : decode cX11_hand 86 = .ok (.ireturn, 1) := by decide +kernel
theorem dX11_hand_87 : decode cX11_hand 87 = .ok (.aload_n 0, 1) := by decide +kernel
theorem dX11_hand_88 : decode cX11_hand 88 = .ok (.getfield 19, 3) := by decide +kernel
theorem dX11_hand_91 : decode cX11_hand 91 = .ok (.getfield 133, 3) := by decide +kernel
theorem dX11_hand_94 : decode cX11_hand 94 = .ok (.iload_n 1, 1) := by decide +kernel
theorem dX11_hand_95 : decode cX11_hand 95 = .ok (.invokevirtual 193, 3) := by decide +kernel
theorem dX11_hand_98 : decode cX11_hand 98 = .ok (.ireturn, 1) := by decide +kernel
theorem dX11_hand_99 : decode cX11_hand 99 = .ok (.aload_n 0, 1) := by decide +kernel
theorem dX11_hand_100 : decode cX11_hand 100 = .ok (.getfield 19, 3) := by decide +kernel
theorem dX11_hand_103 : decode cX11_hand 103 = .ok (.getfield 57, 3) := by decide +kernel
theorem dX11_hand_106 : decode cX11_hand 106 = .ok (.getfield 197, 3) := by decide +kernel
theorem dX11_hand_109 : decode cX11_hand 109 = .ok (.iload_n 1, 1) := by decide +kernel
theorem dX11_hand_110 : decode cX11_hand 110 = .ok (.iaload, 1) := by decide +kernel
theorem dX11_hand_111 : decode cX11_hand 111 = .ok (.ireturn, 1) := by decide +kernel
theorem dX11_hand_112 : decode cX11_hand 112 = .ok (.aload_n 0, 1) := by decide +kernel
theorem dX11_hand_113 : decode cX11_hand 113 = .ok (.getfield 19, 3) := by decide +kernel
theorem dX11_hand_116 : decode cX11_hand 116 = .ok (.getfield 57, 3) := by decide +kernel
theorem dX11_hand_119 : decode cX11_hand 119 = .ok (.getfield 200, 3) := by decide +kernel
theorem dX11_hand_122 : decode cX11_hand 122 = .ok (.iload_n 1, 1) := by decide +kernel
theorem dX11_hand_123 : decode cX11_hand 123 = .ok (.iaload, 1) := by decide +kernel
theorem dX11_hand_124 : decode cX11_hand 124 = .ok (.ireturn, 1) := by decide +kernel
theorem dX11_hand_125 : decode cX11_hand 125 = .ok (.iconst (-1), 1) := by decide +kernel
theorem dX11_hand_126 : decode cX11_hand 126 = .ok (.ireturn, 1) := by decide +kernel
set_option maxRecDepth 20000 in
theorem ggX11_jug_X11_isJug : GoodIn wsX11_jug wsX11_isJug := goodIn_r _ [6, 1, 14, 15, 16, 17, 18, 19, 20, 21, 22, 23, 24, 25, 26, 27, 28, 29, 30, 31, 32, 33, 34, 35, 36, 37, 38, 39, 49, 50, 51, 52, 53, 54, 55, 56, 57, 58, 59, 60, 61, 62, 63, 64, 65, 66, 67] (by decide +kernel) (by decide +kernel)
set_option maxRecDepth 20000 in
theorem gX11_jug_X11_isJug : GoodIn wsX11_jug (wsV RX11 175 RX11 yX11_isJug wsX11_isJug) := goodIn_app (goodIn_of _ (by decide +kernel)) ggX11_jug_X11_isJug
set_option maxRecDepth 20000 in
theorem ggX11_jug_X5_isGone : GoodIn wsX11_jug wsX5_isGone := goodIn_r _ [11, 12, 13, 40, 41, 42, 43, 44, 45, 46, 47, 48] (by decide +kernel) (by decide +kernel)
set_option maxRecDepth 20000 in
theorem gX11_jug_X5_isGone : GoodIn wsX11_jug (wsV RX11 215 RX5 yX5_isGone wsX5_isGone) := goodIn_app (goodIn_of _ (by decide +kernel)) ggX11_jug_X5_isGone
theorem dX11_jug_0 : decode cX11_jug 0 = .ok (.aload_n 0, 1) := by decide +kernel
theorem dX11_jug_1 : decode cX11_jug 1 = .ok (.iload_n 1, 1) := by decide +kernel
theorem dX11_jug_2 : decode cX11_jug 2 = .ok (.invokevirtual 175, 3) := by decide +kernel
theorem dX11_jug_5 : decode cX11_jug 5 = .ok (.ifCond .ne 6, 3) := by decide +kernel
theorem dX11_jug_8 : decode cX11_jug 8 = .ok (.bipush (-2), 2) := by decide +kernel
theorem dX11_jug_10 : decode cX11_jug 10 = .ok (.ireturn, 1) := by decide +kernel
theorem dX11_jug_11 : decode cX11_jug 11 = .ok (.iload_n 2, 1) := by decide +kernel
theorem dX11_jug_12 : decode cX11_jug 12 = .ok (.tableswitch 126 0 4 #[36, 49, 62, 75, 106], 36) := by decide +kernel
theorem dX11_jug_48 : decode cX11_jug 48 = .ok (.aload_n 0, 1) := by decide +kernel
theorem dX11_jug_49 : decode cX11_jug 49 = .ok (.getfield 19, 3) := by decide +kernel
theorem dX11_jug_52 : decode cX11_jug 52 = .ok (.getfield 133, 3) := by decide +kernel
theorem dX11_jug_55 : decode cX11_jug 55 = .ok (.getfield 203, 3) := by decide +kernel
theorem dX11_jug_58 : decode cX11_jug 58 = .ok (.iload_n 1, 1) := by decide +kernel
theorem dX11_jug_59 : decode cX11_jug 59 = .ok (.iaload, 1) := by decide +kernel
theorem dX11_jug_60 : decode cX11_jug 60 = .ok (.ireturn, 1) := by decide +kernel
theorem dX11_jug_61 : decode cX11_jug 61 = .ok (.aload_n 0, 1) := by decide +kernel
theorem dX11_jug_62 : decode cX11_jug 62 = .ok (.getfield 19, 3) := by decide +kernel
theorem dX11_jug_65 : decode cX11_jug 65 = .ok (.getfield 133, 3) := by decide +kernel
theorem dX11_jug_68 : decode cX11_jug 68 = .ok (.getfield 206, 3) := by decide +kernel
theorem dX11_jug_71 : decode cX11_jug 71 = .ok (.iload_n 1, 1) := by decide +kernel
theorem dX11_jug_72 : decode cX11_jug 72 = .ok (.iaload, 1) := by decide +kernel
theorem dX11_jug_73 : decode cX11_jug 73 = .ok (.ireturn, 1) := by decide +kernel
theorem dX11_jug_74 : decode cX11_jug 74 = .ok (.aload_n 0, 1) := by decide +kernel
theorem dX11_jug_75 : decode cX11_jug 75 = .ok (.getfield 19, 3) := by decide +kernel
theorem dX11_jug_78 : decode cX11_jug 78 = .ok (.getfield 133, 3) := by decide +kernel
theorem dX11_jug_81 : decode cX11_jug 81 = .ok (.getfield 209, 3) := by decide +kernel
theorem dX11_jug_84 : decode cX11_jug 84 = .ok (.iload_n 1, 1) := by decide +kernel
theorem dX11_jug_85 : decode cX11_jug 85 = .ok (.iaload, 1) := by decide +kernel
theorem dX11_jug_86 : decode cX11_jug 86 = .ok (.ireturn, 1) := by decide +kernel
theorem dX11_jug_87 : decode cX11_jug 87 = .ok (.aload_n 0, 1) := by decide +kernel
theorem dX11_jug_88 : decode cX11_jug 88 = .ok (.getfield 19, 3) := by decide +kernel
theorem dX11_jug_91 : decode cX11_jug 91 = .ok (.getfield 133, 3) := by decide +kernel
theorem dX11_jug_94 : decode cX11_jug 94 = .ok (.getfield 209, 3) := by decide +kernel
theorem dX11_jug_97 : decode cX11_jug 97 = .ok (.iload_n 1, 1) := by decide +kernel
theorem dX11_jug_98 : decode cX11_jug 98 = .ok (.iaload, 1) := by decide +kernel
theorem dX11_jug_99 : decode cX11_jug 99 = .ok (.aload_n 0, 1) := by decide +kernel
theorem dX11_jug_100 : decode cX11_jug 100 = .ok (.getfield 19, 3) := by decide +kernel
theorem dX11_jug_103 : decode cX11_jug 103 = .ok (.getfield 57, 3) := by decide +kernel
theorem dX11_jug_106 : decode cX11_jug 106 = .ok (.getfield 212, 3) := by decide +kernel
theorem dX11_jug_109 : decode cX11_jug 109 = .ok (.if_icmp .lt 7, 3) := by decide +kernel
theorem dX11_jug_112 : decode cX11_jug 112 = .ok (.iconst 1, 1) := by decide +kernel
theorem dX11_jug_113 : decode cX11_jug 113 = .ok (.goto 4, 3) := by decide +kernel
theorem dX11_jug_116 : decode cX11_jug 116 = .ok (.iconst 0, 1) := by decide +kernel
theorem dX11_jug_117 : decode cX11_jug 117 = .ok (.ireturn, 1) := by decide +kernel
theorem dX11_jug_118 : decode cX11_jug 118 = .ok (.aload_n 0, 1) := by decide +kernel
theorem dX11_jug_119 : decode cX11_jug 119 = .ok (.getfield 19, 3) := by decide +kernel
theorem dX11_jug_122 : decode cX11_jug 122 = .ok (.getfield 133, 3) := by decide +kernel
theorem dX11_jug_125 : decode cX11_jug 125 = .ok (.iload_n 1, 1) := by decide +kernel
theorem dX11_jug_126 : decode cX11_jug 126 = .ok (.invokevirtual 215, 3) := by decide +kernel
theorem dX11_jug_129 : decode cX11_jug 129 = .ok (.ifCond .eq 7, 3) := by decide +kernel
theorem dX11_jug_132 : decode cX11_jug 132 = .ok (.iconst 1, 1) := by decide +kernel
theorem dX11_jug_133 : decode cX11_jug 133 = .ok (.goto 4, 3) := by decide +kernel
theorem dX11_jug_136 : decode cX11_jug 136 = .ok (.iconst 0, 1) := by decide +kernel
theorem dX11_jug_137 : decode cX11_jug 137 = .ok (.ireturn, 1) := by decide +kernel
theorem dX11_jug_138 : decode cX11_jug 138 = .ok (.bipush (-2), 2) := by decide +kernel
theorem dX11_jug_140 : decode cX11_jug 140 = .ok (.ireturn, 1) := by decide +kernel
set_option maxRecDepth 20000 in
theorem ggX11_want_X11_isWant : GoodIn wsX11_want wsX11_isWant := goodIn_r _ [6, 1, 18, 19, 20, 21, 22, 23, 24, 25, 26, 27, 28, 29, 30, 31, 32, 33, 34, 35, 36, 37, 38, 39, 40, 41, 42, 43, 44, 45, 46, 47, 48, 49, 50, 51, 52, 53, 54, 55, 56, 57, 58, 59, 60, 61, 62] (by decide +kernel) (by decide +kernel)
set_option maxRecDepth 20000 in
theorem gX11_want_X11_isWant : GoodIn wsX11_want (wsV RX11 218 RX11 yX11_isWant wsX11_isWant) := goodIn_app (goodIn_of _ (by decide +kernel)) ggX11_want_X11_isWant
set_option maxRecDepth 20000 in
theorem ggX11_want_X11_jugFor : GoodIn wsX11_want wsX11_jugFor := goodIn_r _ [10, 1, 11, 12, 13, 14, 15, 16, 17, 18, 19, 20, 21, 22, 23, 24, 25, 26, 27, 28, 29, 30, 31, 32, 33, 34, 35, 36, 37, 38, 39, 40, 41, 42, 43, 63, 64, 65, 66, 67, 68, 69, 70, 71, 44, 45, 46, 47, 48, 49, 50, 51, 52, 53, 54, 55, 56, 57, 58, 59, 60, 61, 62] (by decide +kernel) (by decide +kernel)
set_option maxRecDepth 20000 in
theorem gX11_want_X11_jugFor : GoodIn wsX11_want (wsV RX11 236 RX11 yX11_jugFor wsX11_jugFor) := goodIn_app (goodIn_of _ (by decide +kernel)) ggX11_want_X11_jugFor
theorem dX11_want_0 : decode cX11_want 0 = .ok (.aload_n 0, 1) := by decide +kernel
theorem dX11_want_1 : decode cX11_want 1 = .ok (.iload_n 1, 1) := by decide +kernel
theorem dX11_want_2 : decode cX11_want 2 = .ok (.invokevirtual 218, 3) := by decide +kernel
theorem dX11_want_5 : decode cX11_want 5 = .ok (.ifCond .ne 6, 3) := by decide +kernel
theorem dX11_want_8 : decode cX11_want 8 = .ok (.bipush (-2), 2) := by decide +kernel
theorem dX11_want_10 : decode cX11_want 10 = .ok (.ireturn, 1) := by decide +kernel
theorem dX11_want_11 : decode cX11_want 11 = .ok (.iload_n 2, 1) := by decide +kernel
theorem dX11_want_12 : decode cX11_want 12 = .ok (.tableswitch 120 0 5 #[40, 53, 66, 79, 92, 105], 40) := by decide +kernel
theorem dX11_want_52 : decode cX11_want 52 = .ok (.aload_n 0, 1) := by decide +kernel
theorem dX11_want_53 : decode cX11_want 53 = .ok (.getfield 19, 3) := by decide +kernel
theorem dX11_want_56 : decode cX11_want 56 = .ok (.getfield 57, 3) := by decide +kernel
theorem dX11_want_59 : decode cX11_want 59 = .ok (.getfield 221, 3) := by decide +kernel
theorem dX11_want_62 : decode cX11_want 62 = .ok (.iload_n 1, 1) := by decide +kernel
theorem dX11_want_63 : decode cX11_want 63 = .ok (.iaload, 1) := by decide +kernel
theorem dX11_want_64 : decode cX11_want 64 = .ok (.ireturn, 1) := by decide +kernel
theorem dX11_want_65 : decode cX11_want 65 = .ok (.aload_n 0, 1) := by decide +kernel
theorem dX11_want_66 : decode cX11_want 66 = .ok (.getfield 19, 3) := by decide +kernel
theorem dX11_want_69 : decode cX11_want 69 = .ok (.getfield 57, 3) := by decide +kernel
theorem dX11_want_72 : decode cX11_want 72 = .ok (.getfield 224, 3) := by decide +kernel
theorem dX11_want_75 : decode cX11_want 75 = .ok (.iload_n 1, 1) := by decide +kernel
theorem dX11_want_76 : decode cX11_want 76 = .ok (.iaload, 1) := by decide +kernel
theorem dX11_want_77 : decode cX11_want 77 = .ok (.ireturn, 1) := by decide +kernel
theorem dX11_want_78 : decode cX11_want 78 = .ok (.aload_n 0, 1) := by decide +kernel
theorem dX11_want_79 : decode cX11_want 79 = .ok (.getfield 19, 3) := by decide +kernel
theorem dX11_want_82 : decode cX11_want 82 = .ok (.getfield 57, 3) := by decide +kernel
theorem dX11_want_85 : decode cX11_want 85 = .ok (.getfield 227, 3) := by decide +kernel
theorem dX11_want_88 : decode cX11_want 88 = .ok (.iload_n 1, 1) := by decide +kernel
theorem dX11_want_89 : decode cX11_want 89 = .ok (.iaload, 1) := by decide +kernel
theorem dX11_want_90 : decode cX11_want 90 = .ok (.ireturn, 1) := by decide +kernel
theorem dX11_want_91 : decode cX11_want 91 = .ok (.aload_n 0, 1) := by decide +kernel
theorem dX11_want_92 : decode cX11_want 92 = .ok (.getfield 19, 3) := by decide +kernel
theorem dX11_want_95 : decode cX11_want 95 = .ok (.getfield 57, 3) := by decide +kernel
theorem dX11_want_98 : decode cX11_want 98 = .ok (.getfield 230, 3) := by decide +kernel
theorem dX11_want_101 : decode cX11_want 101 = .ok (.iload_n 1, 1) := by decide +kernel
theorem dX11_want_102 : decode cX11_want 102 = .ok (.iaload, 1) := by decide +kernel
theorem dX11_want_103 : decode cX11_want 103 = .ok (.ireturn, 1) := by decide +kernel
theorem dX11_want_104 : decode cX11_want 104 = .ok (.aload_n 0, 1) := by decide +kernel
theorem dX11_want_105 : decode cX11_want 105 = .ok (.getfield 19, 3) := by decide +kernel
theorem dX11_want_108 : decode cX11_want 108 = .ok (.getfield 133, 3) := by decide +kernel
theorem dX11_want_111 : decode cX11_want 111 = .ok (.getfield 233, 3) := by decide +kernel
theorem dX11_want_114 : decode cX11_want 114 = .ok (.iload_n 1, 1) := by decide +kernel
theorem dX11_want_115 : decode cX11_want 115 = .ok (.iaload, 1) := by decide +kernel
theorem dX11_want_116 : decode cX11_want 116 = .ok (.ireturn, 1) := by decide +kernel
theorem dX11_want_117 : decode cX11_want 117 = .ok (.aload_n 0, 1) := by decide +kernel
theorem dX11_want_118 : decode cX11_want 118 = .ok (.iload_n 1, 1) := by decide +kernel
theorem dX11_want_119 : decode cX11_want 119 = .ok (.invokevirtual 236, 3) := by decide +kernel
theorem dX11_want_122 : decode cX11_want 122 = .ok (.iconst (-1), 1) := by decide +kernel
theorem dX11_want_123 : decode cX11_want 123 = .ok (.if_icmp .ne 7, 3) := by decide +kernel
theorem dX11_want_126 : decode cX11_want 126 = .ok (.iconst 0, 1) := by decide +kernel
theorem dX11_want_127 : decode cX11_want 127 = .ok (.goto 4, 3) := by decide +kernel
theorem dX11_want_130 : decode cX11_want 130 = .ok (.iconst 1, 1) := by decide +kernel
theorem dX11_want_131 : decode cX11_want 131 = .ok (.ireturn, 1) := by decide +kernel
theorem dX11_want_132 : decode cX11_want 132 = .ok (.bipush (-2), 2) := by decide +kernel
theorem dX11_want_134 : decode cX11_want 134 = .ok (.ireturn, 1) := by decide +kernel
set_option maxRecDepth 20000 in
theorem ggX11_jugFor_X8_suits : GoodIn wsX11_jugFor wsX8_suits := goodIn_r _ [6, 7, 8, 44, 45, 46, 47, 48, 49, 50, 51, 52, 53, 54, 55, 56, 57, 58, 59, 60, 61, 62] (by decide +kernel) (by decide +kernel)
set_option maxRecDepth 20000 in
theorem gX11_jugFor_X8_suits : GoodIn wsX11_jugFor (wsV RX11 239 RX8 yX8_suits wsX8_suits) := goodIn_app (goodIn_of _ (by decide +kernel)) ggX11_jugFor_X8_suits
theorem dX11_jugFor_0 : decode cX11_jugFor 0 = .ok (.aload_n 0, 1) := by decide +kernel
theorem dX11_jugFor_1 : decode cX11_jugFor 1 = .ok (.getfield 19, 3) := by decide +kernel
theorem dX11_jugFor_4 : decode cX11_jugFor 4 = .ok (.getfield 133, 3) := by decide +kernel
theorem dX11_jugFor_7 : decode cX11_jugFor 7 = .ok (.getfield 233, 3) := by decide +kernel
theorem dX11_jugFor_10 : decode cX11_jugFor 10 = .ok (.iload_n 1, 1) := by decide +kernel
theorem dX11_jugFor_11 : decode cX11_jugFor 11 = .ok (.iaload, 1) := by decide +kernel
theorem dX11_jugFor_12 : decode cX11_jugFor 12 = .ok (.iconst (-1), 1) := by decide +kernel
theorem dX11_jugFor_13 : decode cX11_jugFor 13 = .ok (.if_icmp .eq 5, 3) := by decide +kernel
theorem dX11_jugFor_16 : decode cX11_jugFor 16 = .ok (.iconst (-1), 1) := by decide +kernel
theorem dX11_jugFor_17 : decode cX11_jugFor 17 = .ok (.ireturn, 1) := by decide +kernel
theorem dX11_jugFor_18 : decode cX11_jugFor 18 = .ok (.iconst 0, 1) := by decide +kernel
theorem dX11_jugFor_19 : decode cX11_jugFor 19 = .ok (.istore_n 2, 1) := by decide +kernel
theorem dX11_jugFor_20 : decode cX11_jugFor 20 = .ok (.iload_n 2, 1) := by decide +kernel
theorem dX11_jugFor_21 : decode cX11_jugFor 21 = .ok (.aload_n 0, 1) := by decide +kernel
theorem dX11_jugFor_22 : decode cX11_jugFor 22 = .ok (.getfield 19, 3) := by decide +kernel
theorem dX11_jugFor_25 : decode cX11_jugFor 25 = .ok (.getfield 57, 3) := by decide +kernel
theorem dX11_jugFor_28 : decode cX11_jugFor 28 = .ok (.getfield 146, 3) := by decide +kernel
theorem dX11_jugFor_31 : decode cX11_jugFor 31 = .ok (.if_icmp .ge 74, 3) := by decide +kernel
theorem dX11_jugFor_34 : decode cX11_jugFor 34 = .ok (.aload_n 0, 1) := by decide +kernel
theorem dX11_jugFor_35 : decode cX11_jugFor 35 = .ok (.getfield 19, 3) := by decide +kernel
theorem dX11_jugFor_38 : decode cX11_jugFor 38 = .ok (.getfield 133, 3) := by decide +kernel
theorem dX11_jugFor_41 : decode cX11_jugFor 41 = .ok (.getfield 203, 3) := by decide +kernel
theorem dX11_jugFor_44 : decode cX11_jugFor 44 = .ok (.iload_n 2, 1) := by decide +kernel
theorem dX11_jugFor_45 : decode cX11_jugFor 45 = .ok (.iaload, 1) := by decide +kernel
theorem dX11_jugFor_46 : decode cX11_jugFor 46 = .ok (.aload_n 0, 1) := by decide +kernel
theorem dX11_jugFor_47 : decode cX11_jugFor 47 = .ok (.getfield 19, 3) := by decide +kernel
theorem dX11_jugFor_50 : decode cX11_jugFor 50 = .ok (.getfield 57, 3) := by decide +kernel
theorem dX11_jugFor_53 : decode cX11_jugFor 53 = .ok (.getfield 221, 3) := by decide +kernel
theorem dX11_jugFor_56 : decode cX11_jugFor 56 = .ok (.iload_n 1, 1) := by decide +kernel
theorem dX11_jugFor_57 : decode cX11_jugFor 57 = .ok (.iaload, 1) := by decide +kernel
theorem dX11_jugFor_58 : decode cX11_jugFor 58 = .ok (.if_icmp .ne 7, 3) := by decide +kernel
theorem dX11_jugFor_61 : decode cX11_jugFor 61 = .ok (.iconst 1, 1) := by decide +kernel
theorem dX11_jugFor_62 : decode cX11_jugFor 62 = .ok (.goto 4, 3) := by decide +kernel
theorem dX11_jugFor_65 : decode cX11_jugFor 65 = .ok (.iconst 0, 1) := by decide +kernel
theorem dX11_jugFor_66 : decode cX11_jugFor 66 = .ok (.istore_n 3, 1) := by decide +kernel
theorem dX11_jugFor_67 : decode cX11_jugFor 67 = .ok (.iload_n 3, 1) := by decide +kernel
theorem dX11_jugFor_68 : decode cX11_jugFor 68 = .ok (.ifCond .eq 31, 3) := by decide +kernel
theorem dX11_jugFor_71 : decode cX11_jugFor 71 = .ok (.aload_n 0, 1) := by decide +kernel
theorem dX11_jugFor_72 : decode cX11_jugFor 72 = .ok (.getfield 19, 3) := by decide +kernel
theorem dX11_jugFor_75 : decode cX11_jugFor 75 = .ok (.getfield 57, 3) := by decide +kernel
theorem dX11_jugFor_78 : decode cX11_jugFor 78 = .ok (.iload_n 1, 1) := by decide +kernel
theorem dX11_jugFor_79 : decode cX11_jugFor 79 = .ok (.aload_n 0, 1) := by decide +kernel
theorem dX11_jugFor_80 : decode cX11_jugFor 80 = .ok (.getfield 19, 3) := by decide +kernel
theorem dX11_jugFor_83 : decode cX11_jugFor 83 = .ok (.getfield 133, 3) := by decide +kernel
theorem dX11_jugFor_86 : decode cX11_jugFor 86 = .ok (.getfield 209, 3) := by decide +kernel
theorem dX11_jugFor_89 : decode cX11_jugFor 89 = .ok (.iload_n 2, 1) := by decide +kernel
theorem dX11_jugFor_90 : decode cX11_jugFor 90 = .ok (.iaload, 1) := by decide +kernel
theorem dX11_jugFor_91 : decode cX11_jugFor 91 = .ok (.invokevirtual 239, 3) := by decide +kernel
theorem dX11_jugFor_94 : decode cX11_jugFor 94 = .ok (.ifCond .eq 5, 3) := by decide +kernel
theorem dX11_jugFor_97 : decode cX11_jugFor 97 = .ok (.iload_n 2, 1) := by decide +kernel
theorem dX11_jugFor_98 : decode cX11_jugFor 98 = .ok (.ireturn, 1) := by decide +kernel
theorem dX11_jugFor_99 : decode cX11_jugFor 99 = .ok (.iinc 2 1, 3) := by decide +kernel
theorem dX11_jugFor_102 : decode cX11_jugFor 102 = .ok (.goto (-82), 3) := by decide +kernel
theorem dX11_jugFor_105 : decode cX11_jugFor 105 = .ok (.iconst (-1), 1) := by decide +kernel
theorem dX11_jugFor_106 : decode cX11_jugFor 106 = .ok (.ireturn, 1) := by decide +kernel
set_option maxRecDepth 20000 in
theorem ggX11_keepPast_X5_become : GoodIn wsX11_keepPast wsX5_become := goodIn_r _ [13, 14, 15, 16, 17, 18, 19, 20, 21, 22, 23, 24, 25, 26, 53, 54, 55, 56, 57, 58, 59, 60, 61] (by decide +kernel) (by decide +kernel)
set_option maxRecDepth 20000 in
theorem gX11_keepPast_X5_become : GoodIn wsX11_keepPast (wsV RX11 137 RX5 yX5_become wsX5_become) := goodIn_app (goodIn_of _ (by decide +kernel)) ggX11_keepPast_X5_become
theorem dX11_keepPast_0 : decode cX11_keepPast 0 = .ok (.aload_n 0, 1) := by decide +kernel
theorem dX11_keepPast_1 : decode cX11_keepPast 1 = .ok (.getfield 29, 3) := by decide +kernel
theorem dX11_keepPast_4 : decode cX11_keepPast 4 = .ok (.aload_n 0, 1) := by decide +kernel
theorem dX11_keepPast_5 : decode cX11_keepPast 5 = .ok (.getfield 243, 3) := by decide +kernel
theorem dX11_keepPast_8 : decode cX11_keepPast 8 = .ok (.aaload, 1) := by decide +kernel
theorem dX11_keepPast_9 : decode cX11_keepPast 9 = .ok (.aload_n 0, 1) := by decide +kernel
theorem dX11_keepPast_10 : decode cX11_keepPast 10 = .ok (.getfield 19, 3) := by decide +kernel
theorem dX11_keepPast_13 : decode cX11_keepPast 13 = .ok (.getfield 133, 3) := by decide +kernel
theorem dX11_keepPast_16 : decode cX11_keepPast 16 = .ok (.invokevirtual 137, 3) := by decide +kernel
theorem dX11_keepPast_19 : decode cX11_keepPast 19 = .ok (.aload_n 0, 1) := by decide +kernel
theorem dX11_keepPast_20 : decode cX11_keepPast 20 = .ok (.aload_n 0, 1) := by decide +kernel
theorem dX11_keepPast_21 : decode cX11_keepPast 21 = .ok (.getfield 243, 3) := by decide +kernel
theorem dX11_keepPast_24 : decode cX11_keepPast 24 = .ok (.iconst 1, 1) := by decide +kernel
theorem dX11_keepPast_25 : decode cX11_keepPast 25 = .ok (.iadd, 1) := by decide +kernel
theorem dX11_keepPast_26 : decode cX11_keepPast 26 = .ok (.bipush 20, 2) := by decide +kernel
theorem dX11_keepPast_28 : decode cX11_keepPast 28 = .ok (.irem, 1) := by decide +kernel
theorem dX11_keepPast_29 : decode cX11_keepPast 29 = .ok (.putfield 243, 3) := by decide +kernel
theorem dX11_keepPast_32 : decode cX11_keepPast 32 = .ok (.aload_n 0, 1) := by decide +kernel
theorem dX11_keepPast_33 : decode cX11_keepPast 33 = .ok (.bipush 20, 2) := by decide +kernel
theorem dX11_keepPast_35 : decode cX11_keepPast 35 = .ok (.aload_n 0, 1) := by decide +kernel
theorem dX11_keepPast_36 : decode cX11_keepPast 36 = .ok (.getfield 143, 3) := by decide +kernel
theorem dX11_keepPast_39 : decode cX11_keepPast 39 = .ok (.iconst 1, 1) := by decide +kernel
theorem dX11_keepPast_40 : decode cX11_keepPast 40 = .ok (.iadd, 1) := by decide +kernel
theorem dX11_keepPast_41 : decode cX11_keepPast 41 = .ok (.invokestatic 246, 3) := by decide +kernel
theorem dX11_keepPast_44 : decode cX11_keepPast 44 = .ok (.putfield 143, 3) := by decide +kernel
theorem dX11_keepPast_47 : decode cX11_keepPast 47 = .ok (.return_, 1) := by decide +kernel
set_option maxRecDepth 20000 in
theorem ggX11_hour_X11_keepPast : GoodIn wsX11_hour wsX11_keepPast := goodIn_r _ [7, 8, 9, 1, 10, 11, 12, 13, 14, 15, 16, 17, 18, 19, 20, 21, 22, 23, 24, 25, 26, 27, 28, 29, 30, 31, 32, 134, 135, 136, 137, 138, 139, 140, 141, 142, 143, 144, 145, 146, 147, 148, 149, 150, 151, 152, 153, 154, 155, 156, 157, 158, 159, 179, 180, 181, 182, 183, 184, 185, 186, 187] (by decide +kernel) (by decide +kernel)
set_option maxRecDepth 20000 in
theorem gX11_hour_X11_keepPast : GoodIn wsX11_hour (wsV RX11 255 RX11 yX11_keepPast wsX11_keepPast) := goodIn_app (goodIn_of _ (by decide +kernel)) ggX11_hour_X11_keepPast
set_option maxRecDepth 20000 in
theorem ggX11_hour_X1_pass : GoodIn wsX11_hour wsX1_pass := goodIn_r _ [37, 38, 39, 12, 13, 14, 40, 41, 42, 43, 44, 45, 36, 46, 47, 48, 49, 50, 18, 51, 29, 52, 53, 54, 55, 56, 57, 58, 59, 60, 61, 62, 63, 64, 65, 66, 67, 68, 69, 70, 71, 30, 72, 73, 74, 75, 76, 77, 78, 79, 80, 81, 82, 83, 84, 85, 86, 27, 87, 88, 89, 90, 91, 92, 93, 94, 95, 96, 97, 98, 99, 100, 101, 102, 103, 104, 105, 106, 107, 108, 109, 110, 111, 112, 113, 114, 115, 116, 117, 118, 119, 120, 121, 122, 123, 124, 125, 126, 127, 128, 129, 130, 131, 28, 132, 133, 188, 189, 190, 160, 161, 162, 163, 164, 165, 166, 167, 168, 169, 170, 171, 172, 173, 174, 175, 176, 177, 178, 179, 180, 181, 182, 183, 184, 185, 186, 187, 191, 192, 193, 194, 195, 196, 197, 198, 199, 200, 201, 202] (by decide +kernel) (by decide +kernel)
set_option maxRecDepth 20000 in
theorem gX11_hour_X1_pass : GoodIn wsX11_hour (wsV RX11 258 RX1 yX1_pass wsX1_pass) := goodIn_app (goodIn_of _ (by decide +kernel)) ggX11_hour_X1_pass
theorem dX11_hour_0 : decode cX11_hour 0 = .ok (.aload_n 0, 1) := by decide +kernel
theorem dX11_hour_1 : decode cX11_hour 1 = .ok (.getfield 19, 3) := by decide +kernel
theorem dX11_hour_4 : decode cX11_hour 4 = .ok (.getfield 57, 3) := by decide +kernel
theorem dX11_hour_7 : decode cX11_hour 7 = .ok (.getfield 166, 3) := by decide +kernel
theorem dX11_hour_10 : decode cX11_hour 10 = .ok (.ifCond .eq 19, 3) := by decide +kernel
theorem dX11_hour_13 : decode cX11_hour 13 = .ok (.aload_n 0, 1) := by decide +kernel
theorem dX11_hour_14 : decode cX11_hour 14 = .ok (.getfield 19, 3) := by decide +kernel
theorem dX11_hour_17 : decode cX11_hour 17 = .ok (.getfield 133, 3) := by decide +kernel
theorem dX11_hour_20 : decode cX11_hour 20 = .ok (.getfield 252, 3) := by decide +kernel
theorem dX11_hour_23 : decode cX11_hour 23 = .ok (.sipush 999, 3) := by decide +kernel
theorem dX11_hour_26 : decode cX11_hour 26 = .ok (.if_icmp .lt 5, 3) := by decide +kernel
theorem dX11_hour_29 : decode cX11_hour 29 = .ok (.iconst (-1), 1) := by decide +kernel
theorem dX11_hour_30 : decode cX11_hour 30 = .ok (.ireturn, 1) := by decide +kernel
theorem dX11_hour_31 : decode cX11_hour 31 = .ok (.aload_n 0, 1) := by decide +kernel
theorem dX11_hour_32 : decode cX11_hour 32 = .ok (.invokevirtual 255, 3) := by decide +kernel
theorem dX11_hour_35 : decode cX11_hour 35 = .ok (.aload_n 0, 1) := by decide +kernel
theorem dX11_hour_36 : decode cX11_hour 36 = .ok (.getfield 73, 3) := by decide +kernel
theorem dX11_hour_39 : decode cX11_hour 39 = .ok (.aload_n 0, 1) := by decide +kernel
theorem dX11_hour_40 : decode cX11_hour 40 = .ok (.getfield 19, 3) := by decide +kernel
theorem dX11_hour_43 : decode cX11_hour 43 = .ok (.getfield 133, 3) := by decide +kernel
theorem dX11_hour_46 : decode cX11_hour 46 = .ok (.invokevirtual 258, 3) := by decide +kernel
theorem dX11_hour_49 : decode cX11_hour 49 = .ok (.ireturn, 1) := by decide +kernel
set_option maxRecDepth 20000 in
theorem ggX11_take_X11_isHand : GoodIn wsX11_take wsX11_isHand := goodIn_r _ [6, 1, 76, 77, 78, 79, 80, 81, 82, 83, 84, 85, 86, 87, 88, 89, 90, 91, 92, 93, 94, 95, 96, 97, 98, 99, 100, 101, 102, 103, 104, 105, 106, 107, 108, 109, 110, 111, 112, 113, 114, 115, 116, 117, 118, 119, 120] (by decide +kernel) (by decide +kernel)
set_option maxRecDepth 20000 in
theorem gX11_take_X11_isHand : GoodIn wsX11_take (wsV RX11 181 RX11 yX11_isHand wsX11_isHand) := goodIn_app (goodIn_of _ (by decide +kernel)) ggX11_take_X11_isHand
set_option maxRecDepth 20000 in
theorem ggX11_take_X11_isJug : GoodIn wsX11_take wsX11_isJug := goodIn_r _ [10, 1, 76, 77, 78, 79, 80, 81, 82, 83, 84, 85, 86, 87, 88, 89, 90, 91, 92, 93, 94, 95, 96, 97, 98, 99, 100, 101, 102, 103, 104, 105, 106, 107, 108, 109, 110, 111, 112, 113, 114, 115, 116, 117, 118, 119, 120] (by decide +kernel) (by decide +kernel)
set_option maxRecDepth 20000 in
theorem gX11_take_X11_isJug : GoodIn wsX11_take (wsV RX11 175 RX11 yX11_isJug wsX11_isJug) := goodIn_app (goodIn_of _ (by decide +kernel)) ggX11_take_X11_isJug
set_option maxRecDepth 20000 in
theorem ggX11_take_X5_canTake : GoodIn wsX11_take wsX5_canTake := goodIn_r _ [15, 16, 17, 18, 19, 20, 14, 21, 22, 23, 24, 25, 26, 27, 28, 29, 30, 31, 32, 33, 34, 35, 36, 37, 38, 39, 40, 41, 42, 43, 44, 45, 46, 121, 122, 123, 124, 125, 126, 127, 128, 129] (by decide +kernel) (by decide +kernel)
set_option maxRecDepth 20000 in
theorem gX11_take_X5_canTake : GoodIn wsX11_take (wsV RX11 262 RX5 yX5_canTake wsX5_canTake) := goodIn_app (goodIn_of _ (by decide +kernel)) ggX11_take_X5_canTake
set_option maxRecDepth 20000 in
theorem ggX11_take_X11_keepPast : GoodIn wsX11_take wsX11_keepPast := goodIn_r _ [50, 51, 52, 1, 53, 54, 55, 56, 57, 58, 59, 60, 14, 61, 62, 63, 17, 64, 65, 66, 67, 30, 68, 16, 39, 69, 70, 76, 77, 78, 79, 80, 81, 82, 83, 84, 85, 86, 87, 88, 89, 90, 91, 92, 93, 94, 95, 96, 97, 98, 99, 100, 101, 121, 122, 123, 124, 125, 126, 127, 128, 129] (by decide +kernel) (by decide +kernel)
set_option maxRecDepth 20000 in
theorem gX11_take_X11_keepPast : GoodIn wsX11_take (wsV RX11 255 RX11 yX11_keepPast wsX11_keepPast) := goodIn_app (goodIn_of _ (by decide +kernel)) ggX11_take_X11_keepPast
set_option maxRecDepth 20000 in
theorem ggX11_take_X5_giveTo : GoodIn wsX11_take wsX5_giveTo := goodIn_r _ [74, 39, 16, 121, 122, 123, 124, 125, 126, 127, 128, 129] (by decide +kernel) (by decide +kernel)
set_option maxRecDepth 20000 in
theorem gX11_take_X5_giveTo : GoodIn wsX11_take (wsV RX11 265 RX5 yX5_giveTo wsX5_giveTo) := goodIn_app (goodIn_of _ (by decide +kernel)) ggX11_take_X5_giveTo
set_option maxRecDepth 20000 in
theorem ggX11_take_X5_heldBits : GoodIn wsX11_take wsX5_heldBits := goodIn_r _ [38, 39, 121, 122, 123, 124, 125, 126, 127, 128, 129] (by decide +kernel) (by decide +kernel)
set_option maxRecDepth 20000 in
theorem gX11_take_X5_heldBits : GoodIn wsX11_take (wsV RX11 193 RX5 yX5_heldBits wsX5_heldBits) := goodIn_app (goodIn_of _ (by decide +kernel)) ggX11_take_X5_heldBits
theorem dX11_take_0 : decode cX11_take 0 = .ok (.aload_n 0, 1) := by decide +kernel
theorem dX11_take_1 : decode cX11_take 1 = .ok (.iload_n 1, 1) := by decide +kernel
theorem dX11_take_2 : decode cX11_take 2 = .ok (.invokevirtual 181, 3) := by decide +kernel
theorem dX11_take_5 : decode cX11_take 5 = .ok (.ifCond .eq 26, 3) := by decide +kernel
theorem dX11_take_8 : decode cX11_take 8 = .ok (.aload_n 0, 1) := by decide +kernel
theorem dX11_take_9 : decode cX11_take 9 = .ok (.iload_n 2, 1) := by decide +kernel
theorem dX11_take_10 : decode cX11_take 10 = .ok (.invokevirtual 175, 3) := by decide +kernel
theorem dX11_take_13 : decode cX11_take 13 = .ok (.ifCond .eq 18, 3) := by decide +kernel
theorem dX11_take_16 : decode cX11_take 16 = .ok (.aload_n 0, 1) := by decide +kernel
theorem dX11_take_17 : decode cX11_take 17 = .ok (.getfield 19, 3) := by decide +kernel
theorem dX11_take_20 : decode cX11_take 20 = .ok (.getfield 133, 3) := by decide +kernel
theorem dX11_take_23 : decode cX11_take 23 = .ok (.iload_n 1, 1) := by decide +kernel
theorem dX11_take_24 : decode cX11_take 24 = .ok (.iload_n 2, 1) := by decide +kernel
theorem dX11_take_25 : decode cX11_take 25 = .ok (.invokevirtual 262, 3) := by decide +kernel
theorem dX11_take_28 : decode cX11_take 28 = .ok (.ifCond .ne 5, 3) := by decide +kernel
theorem dX11_take_31 : decode cX11_take 31 = .ok (.iconst (-1), 1) := by decide +kernel
theorem dX11_take_32 : decode cX11_take 32 = .ok (.ireturn, 1) := by decide +kernel
theorem dX11_take_33 : decode cX11_take 33 = .ok (.aload_n 0, 1) := by decide +kernel
theorem dX11_take_34 : decode cX11_take 34 = .ok (.invokevirtual 255, 3) := by decide +kernel
theorem dX11_take_37 : decode cX11_take 37 = .ok (.aload_n 0, 1) := by decide +kernel
theorem dX11_take_38 : decode cX11_take 38 = .ok (.getfield 19, 3) := by decide +kernel
theorem dX11_take_41 : decode cX11_take 41 = .ok (.getfield 133, 3) := by decide +kernel
theorem dX11_take_44 : decode cX11_take 44 = .ok (.iload_n 1, 1) := by decide +kernel
theorem dX11_take_45 : decode cX11_take 45 = .ok (.iload_n 2, 1) := by decide +kernel
theorem dX11_take_46 : decode cX11_take 46 = .ok (.invokevirtual 265, 3) := by decide +kernel
theorem dX11_take_49 : decode cX11_take 49 = .ok (.aload_n 0, 1) := by decide +kernel
theorem dX11_take_50 : decode cX11_take 50 = .ok (.getfield 19, 3) := by decide +kernel
theorem dX11_take_53 : decode cX11_take 53 = .ok (.getfield 133, 3) := by decide +kernel
theorem dX11_take_56 : decode cX11_take 56 = .ok (.iload_n 1, 1) := by decide +kernel
theorem dX11_take_57 : decode cX11_take 57 = .ok (.invokevirtual 193, 3) := by decide +kernel
theorem dX11_take_60 : decode cX11_take 60 = .ok (.ireturn, 1) := by decide +kernel
set_option maxRecDepth 20000 in
theorem ggX11_put_X11_isHand : GoodIn wsX11_put wsX11_isHand := goodIn_r _ [6, 1, 44, 45, 46, 47, 48, 49, 50, 51, 52, 53, 54, 55, 56, 57, 58, 59, 60, 61, 62, 63, 64, 65, 66, 67, 68, 69, 79, 80, 81, 82, 83, 84, 85, 86, 87, 88, 89, 90, 91, 92, 93, 94, 95, 96, 97] (by decide +kernel) (by decide +kernel)
set_option maxRecDepth 20000 in
theorem gX11_put_X11_isHand : GoodIn wsX11_put (wsV RX11 181 RX11 yX11_isHand wsX11_isHand) := goodIn_app (goodIn_of _ (by decide +kernel)) ggX11_put_X11_isHand
set_option maxRecDepth 20000 in
theorem ggX11_put_X11_isJug : GoodIn wsX11_put wsX11_isJug := goodIn_r _ [10, 1, 44, 45, 46, 47, 48, 49, 50, 51, 52, 53, 54, 55, 56, 57, 58, 59, 60, 61, 62, 63, 64, 65, 66, 67, 68, 69, 79, 80, 81, 82, 83, 84, 85, 86, 87, 88, 89, 90, 91, 92, 93, 94, 95, 96, 97] (by decide +kernel) (by decide +kernel)
set_option maxRecDepth 20000 in
theorem gX11_put_X11_isJug : GoodIn wsX11_put (wsV RX11 175 RX11 yX11_isJug wsX11_isJug) := goodIn_app (goodIn_of _ (by decide +kernel)) ggX11_put_X11_isJug
set_option maxRecDepth 20000 in
theorem ggX11_put_X5_isAtPlace : GoodIn wsX11_put wsX5_isAtPlace := goodIn_r _ [15, 16, 70, 71, 72, 73, 74, 75, 76, 77, 78] (by decide +kernel) (by decide +kernel)
set_option maxRecDepth 20000 in
theorem gX11_put_X5_isAtPlace : GoodIn wsX11_put (wsV RX11 269 RX5 yX5_isAtPlace wsX5_isAtPlace) := goodIn_app (goodIn_of _ (by decide +kernel)) ggX11_put_X5_isAtPlace
set_option maxRecDepth 20000 in
theorem ggX11_put_X11_keepPast : GoodIn wsX11_put wsX11_keepPast := goodIn_r _ [20, 21, 22, 1, 23, 24, 25, 26, 27, 28, 29, 30, 14, 31, 32, 33, 34, 35, 36, 37, 38, 16, 39, 40, 41, 42, 43, 44, 45, 46, 47, 48, 49, 50, 51, 52, 53, 54, 55, 56, 57, 58, 59, 60, 61, 62, 63, 64, 65, 66, 67, 68, 69, 70, 71, 72, 73, 74, 75, 76, 77, 78] (by decide +kernel) (by decide +kernel)
set_option maxRecDepth 20000 in
theorem gX11_put_X11_keepPast : GoodIn wsX11_put (wsV RX11 255 RX11 yX11_keepPast wsX11_keepPast) := goodIn_app (goodIn_of _ (by decide +kernel)) ggX11_put_X11_keepPast
theorem dX11_put_0 : decode cX11_put 0 = .ok (.aload_n 0, 1) := by decide +kernel
theorem dX11_put_1 : decode cX11_put 1 = .ok (.iload_n 1, 1) := by decide +kernel
theorem dX11_put_2 : decode cX11_put 2 = .ok (.invokevirtual 181, 3) := by decide +kernel
theorem dX11_put_5 : decode cX11_put 5 = .ok (.ifCond .eq 25, 3) := by decide +kernel
theorem dX11_put_8 : decode cX11_put 8 = .ok (.aload_n 0, 1) := by decide +kernel
theorem dX11_put_9 : decode cX11_put 9 = .ok (.iload_n 2, 1) := by decide +kernel
theorem dX11_put_10 : decode cX11_put 10 = .ok (.invokevirtual 175, 3) := by decide +kernel
theorem dX11_put_13 : decode cX11_put 13 = .ok (.ifCond .eq 17, 3) := by decide +kernel
theorem dX11_put_16 : decode cX11_put 16 = .ok (.aload_n 0, 1) := by decide +kernel
theorem dX11_put_17 : decode cX11_put 17 = .ok (.getfield 19, 3) := by decide +kernel
theorem dX11_put_20 : decode cX11_put 20 = .ok (.getfield 133, 3) := by decide +kernel
theorem dX11_put_23 : decode cX11_put 23 = .ok (.iload_n 1, 1) := by decide +kernel
theorem dX11_put_24 : decode cX11_put 24 = .ok (.invokevirtual 269, 3) := by decide +kernel
theorem dX11_put_27 : decode cX11_put 27 = .ok (.ifCond .ne 5, 3) := by decide +kernel
theorem dX11_put_30 : decode cX11_put 30 = .ok (.iconst (-1), 1) := by decide +kernel
theorem dX11_put_31 : decode cX11_put 31 = .ok (.ireturn, 1) := by decide +kernel
theorem dX11_put_32 : decode cX11_put 32 = .ok (.aload_n 0, 1) := by decide +kernel
theorem dX11_put_33 : decode cX11_put 33 = .ok (.getfield 19, 3) := by decide +kernel
theorem dX11_put_36 : decode cX11_put 36 = .ok (.getfield 133, 3) := by decide +kernel
theorem dX11_put_39 : decode cX11_put 39 = .ok (.getfield 206, 3) := by decide +kernel
theorem dX11_put_42 : decode cX11_put 42 = .ok (.iload_n 2, 1) := by decide +kernel
theorem dX11_put_43 : decode cX11_put 43 = .ok (.iaload, 1) := by decide +kernel
theorem dX11_put_44 : decode cX11_put 44 = .ok (.iload_n 1, 1) := by decide +kernel
theorem dX11_put_45 : decode cX11_put 45 = .ok (.if_icmp .eq 5, 3) := by decide +kernel
theorem dX11_put_48 : decode cX11_put 48 = .ok (.iconst (-1), 1) := by decide +kernel
theorem dX11_put_49 : decode cX11_put 49 = .ok (.ireturn, 1) := by decide +kernel
theorem dX11_put_50 : decode cX11_put 50 = .ok (.aload_n 0, 1) := by decide +kernel
theorem dX11_put_51 : decode cX11_put 51 = .ok (.invokevirtual 255, 3) := by decide +kernel
theorem dX11_put_54 : decode cX11_put 54 = .ok (.aload_n 0, 1) := by decide +kernel
theorem dX11_put_55 : decode cX11_put 55 = .ok (.getfield 19, 3) := by decide +kernel
theorem dX11_put_58 : decode cX11_put 58 = .ok (.getfield 133, 3) := by decide +kernel
theorem dX11_put_61 : decode cX11_put 61 = .ok (.getfield 206, 3) := by decide +kernel
theorem dX11_put_64 : decode cX11_put 64 = .ok (.iload_n 2, 1) := by decide +kernel
theorem dX11_put_65 : decode cX11_put 65 = .ok (.iconst (-1), 1) := by decide +kernel
theorem dX11_put_66 : decode cX11_put 66 = .ok (.iastore, 1) := by decide +kernel
theorem dX11_put_67 : decode cX11_put 67 = .ok (.aload_n 0, 1) := by decide +kernel
theorem dX11_put_68 : decode cX11_put 68 = .ok (.getfield 19, 3) := by decide +kernel
theorem dX11_put_71 : decode cX11_put 71 = .ok (.getfield 133, 3) := by decide +kernel
theorem dX11_put_74 : decode cX11_put 74 = .ok (.getfield 203, 3) := by decide +kernel
theorem dX11_put_77 : decode cX11_put 77 = .ok (.iload_n 2, 1) := by decide +kernel
theorem dX11_put_78 : decode cX11_put 78 = .ok (.aload_n 0, 1) := by decide +kernel
theorem dX11_put_79 : decode cX11_put 79 = .ok (.getfield 19, 3) := by decide +kernel
theorem dX11_put_82 : decode cX11_put 82 = .ok (.getfield 133, 3) := by decide +kernel
theorem dX11_put_85 : decode cX11_put 85 = .ok (.getfield 184, 3) := by decide +kernel
theorem dX11_put_88 : decode cX11_put 88 = .ok (.iload_n 1, 1) := by decide +kernel
theorem dX11_put_89 : decode cX11_put 89 = .ok (.iaload, 1) := by decide +kernel
theorem dX11_put_90 : decode cX11_put 90 = .ok (.iastore, 1) := by decide +kernel
theorem dX11_put_91 : decode cX11_put 91 = .ok (.aload_n 0, 1) := by decide +kernel
theorem dX11_put_92 : decode cX11_put 92 = .ok (.getfield 19, 3) := by decide +kernel
theorem dX11_put_95 : decode cX11_put 95 = .ok (.getfield 133, 3) := by decide +kernel
theorem dX11_put_98 : decode cX11_put 98 = .ok (.getfield 184, 3) := by decide +kernel
theorem dX11_put_101 : decode cX11_put 101 = .ok (.iload_n 1, 1) := by decide +kernel
theorem dX11_put_102 : decode cX11_put 102 = .ok (.iaload, 1) := by decide +kernel
theorem dX11_put_103 : decode cX11_put 103 = .ok (.ireturn, 1) := by decide +kernel
set_option maxRecDepth 20000 in
theorem ggX11_handOn_X11_isHand : GoodIn wsX11_handOn wsX11_isHand := goodIn_r _ [6, 1, 71, 72, 73, 74, 75, 76, 77, 78, 79, 80, 81, 82, 83, 84, 85, 86, 87, 88, 89, 90, 91, 92, 93, 94, 95, 96, 106, 107, 108, 109, 110, 111, 112, 113, 114, 115, 116, 117, 118, 119, 120, 121, 122, 123, 124] (by decide +kernel) (by decide +kernel)
set_option maxRecDepth 20000 in
theorem gX11_handOn_X11_isHand : GoodIn wsX11_handOn (wsV RX11 181 RX11 yX11_isHand wsX11_isHand) := goodIn_app (goodIn_of _ (by decide +kernel)) ggX11_handOn_X11_isHand
set_option maxRecDepth 20000 in
theorem ggX11_handOn_X11_isJug : GoodIn wsX11_handOn wsX11_isJug := goodIn_r _ [10, 1, 71, 72, 73, 74, 75, 76, 77, 78, 79, 80, 81, 82, 83, 84, 85, 86, 87, 88, 89, 90, 91, 92, 93, 94, 95, 96, 106, 107, 108, 109, 110, 111, 112, 113, 114, 115, 116, 117, 118, 119, 120, 121, 122, 123, 124] (by decide +kernel) (by decide +kernel)
set_option maxRecDepth 20000 in
theorem gX11_handOn_X11_isJug : GoodIn wsX11_handOn (wsV RX11 175 RX11 yX11_isJug wsX11_isJug) := goodIn_app (goodIn_of _ (by decide +kernel)) ggX11_handOn_X11_isJug
set_option maxRecDepth 20000 in
theorem ggX11_handOn_X5_canGive : GoodIn wsX11_handOn wsX5_canGive := goodIn_r _ [15, 16, 17, 18, 19, 14, 20, 21, 22, 23, 24, 25, 26, 27, 28, 29, 30, 31, 32, 33, 34, 35, 36, 37, 38, 39, 40, 41, 97, 98, 99, 100, 101, 102, 103, 104, 105] (by decide +kernel) (by decide +kernel)
set_option maxRecDepth 20000 in
theorem gX11_handOn_X5_canGive : GoodIn wsX11_handOn (wsV RX11 272 RX5 yX5_canGive wsX5_canGive) := goodIn_app (goodIn_of _ (by decide +kernel)) ggX11_handOn_X5_canGive
set_option maxRecDepth 20000 in
theorem ggX11_handOn_X11_keepPast : GoodIn wsX11_handOn wsX11_keepPast := goodIn_r _ [45, 46, 47, 1, 48, 49, 50, 51, 52, 53, 54, 55, 14, 56, 57, 58, 16, 59, 60, 61, 62, 21, 63, 64, 34, 65, 66, 71, 72, 73, 74, 75, 76, 77, 78, 79, 80, 81, 82, 83, 84, 85, 86, 87, 88, 89, 90, 91, 92, 93, 94, 95, 96, 97, 98, 99, 100, 101, 102, 103, 104, 105] (by decide +kernel) (by decide +kernel)
set_option maxRecDepth 20000 in
theorem gX11_handOn_X11_keepPast : GoodIn wsX11_handOn (wsV RX11 255 RX11 yX11_keepPast wsX11_keepPast) := goodIn_app (goodIn_of _ (by decide +kernel)) ggX11_handOn_X11_keepPast
set_option maxRecDepth 20000 in
theorem ggX11_handOn_X5_giveTo : GoodIn wsX11_handOn wsX5_giveTo := goodIn_r _ [70, 34, 64, 97, 98, 99, 100, 101, 102, 103, 104, 105] (by decide +kernel) (by decide +kernel)
set_option maxRecDepth 20000 in
theorem gX11_handOn_X5_giveTo : GoodIn wsX11_handOn (wsV RX11 265 RX5 yX5_giveTo wsX5_giveTo) := goodIn_app (goodIn_of _ (by decide +kernel)) ggX11_handOn_X5_giveTo
theorem dX11_handOn_0 : decode cX11_handOn 0 = .ok (.aload_n 0, 1) := by decide +kernel
theorem dX11_handOn_1 : decode cX11_handOn 1 = .ok (.iload_n 2, 1) := by decide +kernel
theorem dX11_handOn_2 : decode cX11_handOn 2 = .ok (.invokevirtual 181, 3) := by decide +kernel
theorem dX11_handOn_5 : decode cX11_handOn 5 = .ok (.ifCond .eq 11, 3) := by decide +kernel
theorem dX11_handOn_8 : decode cX11_handOn 8 = .ok (.aload_n 0, 1) := by decide +kernel
theorem dX11_handOn_9 : decode cX11_handOn 9 = .ok (.iload_n 1, 1) := by decide +kernel
theorem dX11_handOn_10 : decode cX11_handOn 10 = .ok (.invokevirtual 175, 3) := by decide +kernel
theorem dX11_handOn_13 : decode cX11_handOn 13 = .ok (.ifCond .ne 5, 3) := by decide +kernel
theorem dX11_handOn_16 : decode cX11_handOn 16 = .ok (.iconst (-1), 1) := by decide +kernel
theorem dX11_handOn_17 : decode cX11_handOn 17 = .ok (.ireturn, 1) := by decide +kernel
theorem dX11_handOn_18 : decode cX11_handOn 18 = .ok (.aload_n 0, 1) := by decide +kernel
theorem dX11_handOn_19 : decode cX11_handOn 19 = .ok (.getfield 19, 3) := by decide +kernel
theorem dX11_handOn_22 : decode cX11_handOn 22 = .ok (.getfield 133, 3) := by decide +kernel
theorem dX11_handOn_25 : decode cX11_handOn 25 = .ok (.getfield 206, 3) := by decide +kernel
theorem dX11_handOn_28 : decode cX11_handOn 28 = .ok (.iload_n 1, 1) := by decide +kernel
theorem dX11_handOn_29 : decode cX11_handOn 29 = .ok (.iaload, 1) := by decide +kernel
theorem dX11_handOn_30 : decode cX11_handOn 30 = .ok (.istore_n 3, 1) := by decide +kernel
theorem dX11_handOn_31 : decode cX11_handOn 31 = .ok (.aload_n 0, 1) := by decide +kernel
theorem dX11_handOn_32 : decode cX11_handOn 32 = .ok (.iload_n 3, 1) := by decide +kernel
theorem dX11_handOn_33 : decode cX11_handOn 33 = .ok (.invokevirtual 181, 3) := by decide +kernel
theorem dX11_handOn_36 : decode cX11_handOn 36 = .ok (.ifCond .eq 23, 3) := by decide +kernel
theorem dX11_handOn_39 : decode cX11_handOn 39 = .ok (.iload_n 3, 1) := by decide +kernel
theorem dX11_handOn_40 : decode cX11_handOn 40 = .ok (.iload_n 2, 1) := by decide +kernel
theorem dX11_handOn_41 : decode cX11_handOn 41 = .ok (.if_icmp .eq 18, 3) := by decide +kernel
theorem dX11_handOn_44 : decode cX11_handOn 44 = .ok (.aload_n 0, 1) := by decide +kernel
theorem dX11_handOn_45 : decode cX11_handOn 45 = .ok (.getfield 19, 3) := by decide +kernel
theorem dX11_handOn_48 : decode cX11_handOn 48 = .ok (.getfield 133, 3) := by decide +kernel
theorem dX11_handOn_51 : decode cX11_handOn 51 = .ok (.iload_n 3, 1) := by decide +kernel
theorem dX11_handOn_52 : decode cX11_handOn 52 = .ok (.iload_n 2, 1) := by decide +kernel
theorem dX11_handOn_53 : decode cX11_handOn 53 = .ok (.invokevirtual 272, 3) := by decide +kernel
theorem dX11_handOn_56 : decode cX11_handOn 56 = .ok (.ifCond .ne 5, 3) := by decide +kernel
theorem dX11_handOn_59 : decode cX11_handOn 59 = .ok (.iconst (-1), 1) := by decide +kernel
theorem dX11_handOn_60 : decode cX11_handOn 60 = .ok (.ireturn, 1) := by decide +kernel
theorem dX11_handOn_61 : decode cX11_handOn 61 = .ok (.aload_n 0, 1) := by decide +kernel
theorem dX11_handOn_62 : decode cX11_handOn 62 = .ok (.invokevirtual 255, 3) := by decide +kernel
theorem dX11_handOn_65 : decode cX11_handOn 65 = .ok (.aload_n 0, 1) := by decide +kernel
theorem dX11_handOn_66 : decode cX11_handOn 66 = .ok (.getfield 19, 3) := by decide +kernel
theorem dX11_handOn_69 : decode cX11_handOn 69 = .ok (.getfield 133, 3) := by decide +kernel
theorem dX11_handOn_72 : decode cX11_handOn 72 = .ok (.iload_n 2, 1) := by decide +kernel
theorem dX11_handOn_73 : decode cX11_handOn 73 = .ok (.iload_n 1, 1) := by decide +kernel
theorem dX11_handOn_74 : decode cX11_handOn 74 = .ok (.invokevirtual 265, 3) := by decide +kernel
theorem dX11_handOn_77 : decode cX11_handOn 77 = .ok (.iload_n 3, 1) := by decide +kernel
theorem dX11_handOn_78 : decode cX11_handOn 78 = .ok (.ireturn, 1) := by decide +kernel
set_option maxRecDepth 20000 in
theorem ggX11_go_X11_isHand : GoodIn wsX11_go wsX11_isHand := goodIn_r _ [6, 1, 61, 62, 63, 64, 65, 66, 67, 68, 69, 70, 71, 72, 73, 74, 75, 76, 77, 78, 79, 80, 81, 82, 83, 84, 85, 86, 87, 88, 89, 90, 91, 92, 93, 94, 95, 96, 97, 98, 99, 100, 101, 102, 103, 104, 105] (by decide +kernel) (by decide +kernel)
set_option maxRecDepth 20000 in
theorem gX11_go_X11_isHand : GoodIn wsX11_go (wsV RX11 181 RX11 yX11_isHand wsX11_isHand) := goodIn_app (goodIn_of _ (by decide +kernel)) ggX11_go_X11_isHand
set_option maxRecDepth 20000 in
theorem ggX11_go_X11_isPlace : GoodIn wsX11_go wsX11_isPlace := goodIn_r _ [10, 1, 61, 62, 63, 64, 65, 66, 67, 68, 69, 70, 71, 72, 73, 74, 75, 76, 77, 78, 79, 80, 81, 82, 83, 84, 85, 86, 87, 88, 89, 90, 91, 92, 93, 94, 95, 96, 97, 98, 99, 100, 101, 102, 103, 104, 105] (by decide +kernel) (by decide +kernel)
set_option maxRecDepth 20000 in
theorem gX11_go_X11_isPlace : GoodIn wsX11_go (wsV RX11 275 RX11 yX11_isPlace wsX11_isPlace) := goodIn_app (goodIn_of _ (by decide +kernel)) ggX11_go_X11_isPlace
set_option maxRecDepth 20000 in
theorem ggX11_go_X5_roadFor : GoodIn wsX11_go wsX5_roadFor := goodIn_r _ [15, 16, 17, 18, 19, 14, 20, 21, 22, 23, 24, 25, 26, 27, 28, 29, 30, 106, 107, 108, 109, 110, 111, 112, 113, 114, 87, 88, 89, 90, 91, 92, 93, 94, 95, 96, 97, 98, 99, 100, 101, 102, 103, 104, 105] (by decide +kernel) (by decide +kernel)
set_option maxRecDepth 20000 in
theorem gX11_go_X5_roadFor : GoodIn wsX11_go (wsV RX11 278 RX5 yX5_roadFor wsX5_roadFor) := goodIn_app (goodIn_of _ (by decide +kernel)) ggX11_go_X5_roadFor
set_option maxRecDepth 20000 in
theorem ggX11_go_X11_keepPast : GoodIn wsX11_go wsX11_keepPast := goodIn_r _ [34, 35, 36, 1, 37, 38, 39, 40, 41, 42, 43, 44, 14, 45, 46, 47, 16, 48, 49, 50, 51, 21, 52, 53, 54, 55, 56, 61, 62, 63, 64, 65, 66, 67, 68, 69, 70, 71, 72, 73, 74, 75, 76, 77, 78, 79, 80, 81, 82, 83, 84, 85, 86, 106, 107, 108, 109, 110, 111, 112, 113, 114] (by decide +kernel) (by decide +kernel)
set_option maxRecDepth 20000 in
theorem gX11_go_X11_keepPast : GoodIn wsX11_go (wsV RX11 255 RX11 yX11_keepPast wsX11_keepPast) := goodIn_app (goodIn_of _ (by decide +kernel)) ggX11_go_X11_keepPast
set_option maxRecDepth 20000 in
theorem ggX11_go_X5_setOut : GoodIn wsX11_go wsX5_setOut := goodIn_r _ [60, 16, 21, 106, 107, 108, 109, 110, 111, 112, 113, 114] (by decide +kernel) (by decide +kernel)
set_option maxRecDepth 20000 in
theorem gX11_go_X5_setOut : GoodIn wsX11_go (wsV RX11 282 RX5 yX5_setOut wsX5_setOut) := goodIn_app (goodIn_of _ (by decide +kernel)) ggX11_go_X5_setOut
theorem dX11_go_0 : decode cX11_go 0 = .ok (.aload_n 0, 1) := by decide +kernel
theorem dX11_go_1 : decode cX11_go 1 = .ok (.iload_n 1, 1) := by decide +kernel
theorem dX11_go_2 : decode cX11_go 2 = .ok (.invokevirtual 181, 3) := by decide +kernel
theorem dX11_go_5 : decode cX11_go 5 = .ok (.ifCond .eq 11, 3) := by decide +kernel
theorem dX11_go_8 : decode cX11_go 8 = .ok (.aload_n 0, 1) := by decide +kernel
theorem dX11_go_9 : decode cX11_go 9 = .ok (.iload_n 2, 1) := by decide +kernel
theorem dX11_go_10 : decode cX11_go 10 = .ok (.invokevirtual 275, 3) := by decide +kernel
theorem dX11_go_13 : decode cX11_go 13 = .ok (.ifCond .ne 5, 3) := by decide +kernel
theorem dX11_go_16 : decode cX11_go 16 = .ok (.iconst (-1), 1) := by decide +kernel
theorem dX11_go_17 : decode cX11_go 17 = .ok (.ireturn, 1) := by decide +kernel
theorem dX11_go_18 : decode cX11_go 18 = .ok (.aload_n 0, 1) := by decide +kernel
theorem dX11_go_19 : decode cX11_go 19 = .ok (.getfield 19, 3) := by decide +kernel
theorem dX11_go_22 : decode cX11_go 22 = .ok (.getfield 133, 3) := by decide +kernel
theorem dX11_go_25 : decode cX11_go 25 = .ok (.aload_n 0, 1) := by decide +kernel
theorem dX11_go_26 : decode cX11_go 26 = .ok (.getfield 19, 3) := by decide +kernel
theorem dX11_go_29 : decode cX11_go 29 = .ok (.getfield 57, 3) := by decide +kernel
theorem dX11_go_32 : decode cX11_go 32 = .ok (.iload_n 1, 1) := by decide +kernel
theorem dX11_go_33 : decode cX11_go 33 = .ok (.iload_n 2, 1) := by decide +kernel
theorem dX11_go_34 : decode cX11_go 34 = .ok (.invokevirtual 278, 3) := by decide +kernel
theorem dX11_go_37 : decode cX11_go 37 = .ok (.istore_n 3, 1) := by decide +kernel
theorem dX11_go_38 : decode cX11_go 38 = .ok (.iload_n 3, 1) := by decide +kernel
theorem dX11_go_39 : decode cX11_go 39 = .ok (.ifCond .ne 5, 3) := by decide +kernel
theorem dX11_go_42 : decode cX11_go 42 = .ok (.iconst (-1), 1) := by decide +kernel
theorem dX11_go_43 : decode cX11_go 43 = .ok (.ireturn, 1) := by decide +kernel
theorem dX11_go_44 : decode cX11_go 44 = .ok (.aload_n 0, 1) := by decide +kernel
theorem dX11_go_45 : decode cX11_go 45 = .ok (.invokevirtual 255, 3) := by decide +kernel
theorem dX11_go_48 : decode cX11_go 48 = .ok (.aload_n 0, 1) := by decide +kernel
theorem dX11_go_49 : decode cX11_go 49 = .ok (.getfield 19, 3) := by decide +kernel
theorem dX11_go_52 : decode cX11_go 52 = .ok (.getfield 133, 3) := by decide +kernel
theorem dX11_go_55 : decode cX11_go 55 = .ok (.iload_n 1, 1) := by decide +kernel
theorem dX11_go_56 : decode cX11_go 56 = .ok (.iload_n 2, 1) := by decide +kernel
theorem dX11_go_57 : decode cX11_go 57 = .ok (.iload_n 3, 1) := by decide +kernel
theorem dX11_go_58 : decode cX11_go 58 = .ok (.invokevirtual 282, 3) := by decide +kernel
theorem dX11_go_61 : decode cX11_go 61 = .ok (.iload_n 3, 1) := by decide +kernel
theorem dX11_go_62 : decode cX11_go 62 = .ok (.ireturn, 1) := by decide +kernel
set_option maxRecDepth 20000 in
theorem ggX11_meet_X11_isWant : GoodIn wsX11_meet wsX11_isWant := goodIn_r _ [6, 1, 47, 48, 49, 50, 51, 52, 53, 54, 55, 56, 57, 58, 59, 60, 61, 62, 63, 64, 65, 66, 67, 68, 69, 70, 71, 72, 82, 83, 84, 85, 86, 87, 88, 89, 90, 91, 92, 93, 94, 95, 96, 97, 98, 99, 100] (by decide +kernel) (by decide +kernel)
set_option maxRecDepth 20000 in
theorem gX11_meet_X11_isWant : GoodIn wsX11_meet (wsV RX11 218 RX11 yX11_isWant wsX11_isWant) := goodIn_app (goodIn_of _ (by decide +kernel)) ggX11_meet_X11_isWant
set_option maxRecDepth 20000 in
theorem ggX11_meet_X11_jugFor : GoodIn wsX11_meet wsX11_jugFor := goodIn_r _ [10, 1, 11, 12, 13, 14, 15, 16, 17, 47, 48, 49, 50, 51, 52, 53, 54, 55, 56, 57, 58, 59, 60, 61, 62, 63, 64, 65, 66, 67, 68, 69, 70, 71, 72, 73, 74, 75, 76, 77, 78, 79, 80, 81, 82, 83, 84, 85, 86, 87, 88, 89, 90, 91, 92, 93, 94, 95, 96, 97, 98, 99, 100] (by decide +kernel) (by decide +kernel)
set_option maxRecDepth 20000 in
theorem gX11_meet_X11_jugFor : GoodIn wsX11_meet (wsV RX11 236 RX11 yX11_jugFor wsX11_jugFor) := goodIn_app (goodIn_of _ (by decide +kernel)) ggX11_meet_X11_jugFor
set_option maxRecDepth 20000 in
theorem ggX11_meet_X11_keepPast : GoodIn wsX11_meet wsX11_keepPast := goodIn_r _ [21, 22, 23, 1, 24, 25, 26, 27, 28, 29, 30, 31, 32, 33, 34, 35, 36, 37, 38, 39, 40, 41, 42, 43, 44, 45, 46, 47, 48, 49, 50, 51, 52, 53, 54, 55, 56, 57, 58, 59, 60, 61, 62, 63, 64, 65, 66, 67, 68, 69, 70, 71, 72, 73, 74, 75, 76, 77, 78, 79, 80, 81] (by decide +kernel) (by decide +kernel)
set_option maxRecDepth 20000 in
theorem gX11_meet_X11_keepPast : GoodIn wsX11_meet (wsV RX11 255 RX11 yX11_keepPast wsX11_keepPast) := goodIn_app (goodIn_of _ (by decide +kernel)) ggX11_meet_X11_keepPast
theorem dX11_meet_0 : decode cX11_meet 0 = .ok (.aload_n 0, 1) := by decide +kernel
theorem dX11_meet_1 : decode cX11_meet 1 = .ok (.iload_n 1, 1) := by decide +kernel
theorem dX11_meet_2 : decode cX11_meet 2 = .ok (.invokevirtual 218, 3) := by decide +kernel
theorem dX11_meet_5 : decode cX11_meet 5 = .ok (.ifCond .eq 11, 3) := by decide +kernel
theorem dX11_meet_8 : decode cX11_meet 8 = .ok (.aload_n 0, 1) := by decide +kernel
theorem dX11_meet_9 : decode cX11_meet 9 = .ok (.iload_n 1, 1) := by decide +kernel
theorem dX11_meet_10 : decode cX11_meet 10 = .ok (.invokevirtual 236, 3) := by decide +kernel
theorem dX11_meet_13 : decode cX11_meet 13 = .ok (.goto 4, 3) := by decide +kernel
theorem dX11_meet_16 : decode cX11_meet 16 = .ok (.iconst (-1), 1) := by decide +kernel
theorem dX11_meet_17 : decode cX11_meet 17 = .ok (.istore_n 2, 1) := by decide +kernel
theorem dX11_meet_18 : decode cX11_meet 18 = .ok (.iload_n 2, 1) := by decide +kernel
theorem dX11_meet_19 : decode cX11_meet 19 = .ok (.iconst (-1), 1) := by decide +kernel
theorem dX11_meet_20 : decode cX11_meet 20 = .ok (.if_icmp .ne 5, 3) := by decide +kernel
theorem dX11_meet_23 : decode cX11_meet 23 = .ok (.iconst (-1), 1) := by decide +kernel
theorem dX11_meet_24 : decode cX11_meet 24 = .ok (.ireturn, 1) := by decide +kernel
theorem dX11_meet_25 : decode cX11_meet 25 = .ok (.aload_n 0, 1) := by decide +kernel
theorem dX11_meet_26 : decode cX11_meet 26 = .ok (.invokevirtual 255, 3) := by decide +kernel
theorem dX11_meet_29 : decode cX11_meet 29 = .ok (.aload_n 0, 1) := by decide +kernel
theorem dX11_meet_30 : decode cX11_meet 30 = .ok (.getfield 19, 3) := by decide +kernel
theorem dX11_meet_33 : decode cX11_meet 33 = .ok (.getfield 133, 3) := by decide +kernel
theorem dX11_meet_36 : decode cX11_meet 36 = .ok (.getfield 233, 3) := by decide +kernel
theorem dX11_meet_39 : decode cX11_meet 39 = .ok (.iload_n 1, 1) := by decide +kernel
theorem dX11_meet_40 : decode cX11_meet 40 = .ok (.aload_n 0, 1) := by decide +kernel
theorem dX11_meet_41 : decode cX11_meet 41 = .ok (.getfield 19, 3) := by decide +kernel
theorem dX11_meet_44 : decode cX11_meet 44 = .ok (.getfield 133, 3) := by decide +kernel
theorem dX11_meet_47 : decode cX11_meet 47 = .ok (.getfield 252, 3) := by decide +kernel
theorem dX11_meet_50 : decode cX11_meet 50 = .ok (.iastore, 1) := by decide +kernel
theorem dX11_meet_51 : decode cX11_meet 51 = .ok (.aload_n 0, 1) := by decide +kernel
theorem dX11_meet_52 : decode cX11_meet 52 = .ok (.getfield 19, 3) := by decide +kernel
theorem dX11_meet_55 : decode cX11_meet 55 = .ok (.getfield 133, 3) := by decide +kernel
theorem dX11_meet_58 : decode cX11_meet 58 = .ok (.dup, 1) := by decide +kernel
theorem dX11_meet_59 : decode cX11_meet 59 = .ok (.getfield 286, 3) := by decide +kernel
theorem dX11_meet_62 : decode cX11_meet 62 = .ok (.aload_n 0, 1) := by decide +kernel
theorem dX11_meet_63 : decode cX11_meet 63 = .ok (.getfield 19, 3) := by decide +kernel
theorem dX11_meet_66 : decode cX11_meet 66 = .ok (.getfield 57, 3) := by decide +kernel
theorem dX11_meet_69 : decode cX11_meet 69 = .ok (.getfield 230, 3) := by decide +kernel
theorem dX11_meet_72 : decode cX11_meet 72 = .ok (.iload_n 1, 1) := by decide +kernel
theorem dX11_meet_73 : decode cX11_meet 73 = .ok (.iaload, 1) := by decide +kernel
theorem dX11_meet_74 : decode cX11_meet 74 = .ok (.iadd, 1) := by decide +kernel
theorem dX11_meet_75 : decode cX11_meet 75 = .ok (.putfield 286, 3) := by decide +kernel
theorem dX11_meet_78 : decode cX11_meet 78 = .ok (.aload_n 0, 1) := by decide +kernel
theorem dX11_meet_79 : decode cX11_meet 79 = .ok (.getfield 19, 3) := by decide +kernel
theorem dX11_meet_82 : decode cX11_meet 82 = .ok (.getfield 133, 3) := by decide +kernel
theorem dX11_meet_85 : decode cX11_meet 85 = .ok (.getfield 203, 3) := by decide +kernel
theorem dX11_meet_88 : decode cX11_meet 88 = .ok (.iload_n 2, 1) := by decide +kernel
theorem dX11_meet_89 : decode cX11_meet 89 = .ok (.iconst (-1), 1) := by decide +kernel
theorem dX11_meet_90 : decode cX11_meet 90 = .ok (.iastore, 1) := by decide +kernel
theorem dX11_meet_91 : decode cX11_meet 91 = .ok (.iload_n 2, 1) := by decide +kernel
theorem dX11_meet_92 : decode cX11_meet 92 = .ok (.ireturn, 1) := by decide +kernel
set_option maxRecDepth 20000 in
theorem ggX11_undo_X5_become : GoodIn wsX11_undo wsX5_become := goodIn_r _ [9, 10, 11, 12, 13, 14, 15, 16, 17, 18, 19, 20, 21, 22, 49, 50, 51, 52, 53, 54, 55, 56, 57] (by decide +kernel) (by decide +kernel)
set_option maxRecDepth 20000 in
theorem gX11_undo_X5_become : GoodIn wsX11_undo (wsV RX11 137 RX5 yX5_become wsX5_become) := goodIn_app (goodIn_of _ (by decide +kernel)) ggX11_undo_X5_become
theorem dX11_undo_0 : decode cX11_undo 0 = .ok (.aload_n 0, 1) := by decide +kernel
theorem dX11_undo_1 : decode cX11_undo 1 = .ok (.getfield 143, 3) := by decide +kernel
theorem dX11_undo_4 : decode cX11_undo 4 = .ok (.ifCond .ne 5, 3) := by decide +kernel
theorem dX11_undo_7 : decode cX11_undo 7 = .ok (.iconst (-1), 1) := by decide +kernel
theorem dX11_undo_8 : decode cX11_undo 8 = .ok (.ireturn, 1) := by decide +kernel
theorem dX11_undo_9 : decode cX11_undo 9 = .ok (.aload_n 0, 1) := by decide +kernel
theorem dX11_undo_10 : decode cX11_undo 10 = .ok (.aload_n 0, 1) := by decide +kernel
theorem dX11_undo_11 : decode cX11_undo 11 = .ok (.getfield 243, 3) := by decide +kernel
theorem dX11_undo_14 : decode cX11_undo 14 = .ok (.bipush 20, 2) := by decide +kernel
theorem dX11_undo_16 : decode cX11_undo 16 = .ok (.iadd, 1) := by decide +kernel
theorem dX11_undo_17 : decode cX11_undo 17 = .ok (.iconst 1, 1) := by decide +kernel
theorem dX11_undo_18 : decode cX11_undo 18 = .ok (.isub, 1) := by decide +kernel
theorem dX11_undo_19 : decode cX11_undo 19 = .ok (.bipush 20, 2) := by decide +kernel
theorem dX11_undo_21 : decode cX11_undo 21 = .ok (.irem, 1) := by decide +kernel
theorem dX11_undo_22 : decode cX11_undo 22 = .ok (.putfield 243, 3) := by decide +kernel
theorem dX11_undo_25 : decode cX11_undo 25 = .ok (.aload_n 0, 1) := by decide +kernel
theorem dX11_undo_26 : decode cX11_undo 26 = .ok (.dup, 1) := by decide +kernel
theorem dX11_undo_27 : decode cX11_undo 27 = .ok (.getfield 143, 3) := by decide +kernel
theorem dX11_undo_30 : decode cX11_undo 30 = .ok (.iconst 1, 1) := by decide +kernel
theorem dX11_undo_31 : decode cX11_undo 31 = .ok (.isub, 1) := by decide +kernel
theorem dX11_undo_32 : decode cX11_undo 32 = .ok (.putfield 143, 3) := by decide +kernel
theorem dX11_undo_35 : decode cX11_undo 35 = .ok (.aload_n 0, 1) := by decide +kernel
theorem dX11_undo_36 : decode cX11_undo 36 = .ok (.getfield 19, 3) := by decide +kernel
theorem dX11_undo_39 : decode cX11_undo 39 = .ok (.getfield 133, 3) := by decide +kernel
theorem dX11_undo_42 : decode cX11_undo 42 = .ok (.aload_n 0, 1) := by decide +kernel
theorem dX11_undo_43 : decode cX11_undo 43 = .ok (.getfield 29, 3) := by decide +kernel
theorem dX11_undo_46 : decode cX11_undo 46 = .ok (.aload_n 0, 1) := by decide +kernel
theorem dX11_undo_47 : decode cX11_undo 47 = .ok (.getfield 243, 3) := by decide +kernel
theorem dX11_undo_50 : decode cX11_undo 50 = .ok (.aaload, 1) := by decide +kernel
theorem dX11_undo_51 : decode cX11_undo 51 = .ok (.invokevirtual 137, 3) := by decide +kernel
theorem dX11_undo_54 : decode cX11_undo 54 = .ok (.aload_n 0, 1) := by decide +kernel
theorem dX11_undo_55 : decode cX11_undo 55 = .ok (.getfield 143, 3) := by decide +kernel
theorem dX11_undo_58 : decode cX11_undo 58 = .ok (.ireturn, 1) := by decide +kernel
set_option maxRecDepth 20000 in
theorem ggX11_ahead_X11_isJug : GoodIn wsX11_ahead wsX11_isJug := goodIn_r _ [8, 1, 140, 141, 142, 143, 144, 145, 146, 147, 148, 149, 150, 151, 152, 153, 154, 155, 156, 157, 158, 159, 160, 161, 162, 163, 164, 165, 175, 176, 177, 178, 179, 180, 181, 182, 183, 184, 185, 186, 187, 188, 189, 190, 191, 192, 193] (by decide +kernel) (by decide +kernel)
set_option maxRecDepth 20000 in
theorem gX11_ahead_X11_isJug : GoodIn wsX11_ahead (wsV RX11 175 RX11 yX11_isJug wsX11_isJug) := goodIn_app (goodIn_of _ (by decide +kernel)) ggX11_ahead_X11_isJug
set_option maxRecDepth 20000 in
theorem ggX11_ahead_X11_isHand : GoodIn wsX11_ahead wsX11_isHand := goodIn_r _ [12, 1, 140, 141, 142, 143, 144, 145, 146, 147, 148, 149, 150, 151, 152, 153, 154, 155, 156, 157, 158, 159, 160, 161, 162, 163, 164, 165, 175, 176, 177, 178, 179, 180, 181, 182, 183, 184, 185, 186, 187, 188, 189, 190, 191, 192, 193] (by decide +kernel) (by decide +kernel)
set_option maxRecDepth 20000 in
theorem gX11_ahead_X11_isHand : GoodIn wsX11_ahead (wsV RX11 181 RX11 yX11_isHand wsX11_isHand) := goodIn_app (goodIn_of _ (by decide +kernel)) ggX11_ahead_X11_isHand
set_option maxRecDepth 20000 in
theorem ggX11_ahead_X5_isGone : GoodIn wsX11_ahead wsX5_isGone := goodIn_r _ [17, 18, 19, 166, 167, 168, 169, 170, 171, 172, 173, 174] (by decide +kernel) (by decide +kernel)
set_option maxRecDepth 20000 in
theorem gX11_ahead_X5_isGone : GoodIn wsX11_ahead (wsV RX11 215 RX5 yX5_isGone wsX5_isGone) := goodIn_app (goodIn_of _ (by decide +kernel)) ggX11_ahead_X5_isGone
set_option maxRecDepth 20000 in
theorem ggX11_ahead_X5_become : GoodIn wsX11_ahead wsX5_become := goodIn_r _ [23, 24, 25, 26, 27, 28, 29, 30, 31, 32, 18, 19, 33, 34, 166, 167, 168, 169, 170, 171, 172, 173, 174] (by decide +kernel) (by decide +kernel)
set_option maxRecDepth 20000 in
theorem gX11_ahead_X5_become : GoodIn wsX11_ahead (wsV RX11 137 RX5 yX5_become wsX5_become) := goodIn_app (goodIn_of _ (by decide +kernel)) ggX11_ahead_X5_become
set_option maxRecDepth 20000 in
theorem ggX11_ahead_X1_passSeveral : GoodIn wsX11_ahead wsX1_passSeveral := goodIn_r _ [39, 40, 41, 42, 38, 43, 44, 45, 46, 47, 48, 49, 50, 51, 52, 53, 54, 55, 56, 57, 58, 59, 16, 60, 18, 61, 62, 63, 64, 65, 66, 67, 68, 69, 70, 71, 72, 73, 74, 75, 76, 77, 14, 15, 17, 19, 78, 79, 80, 81, 82, 83, 84, 85, 86, 87, 88, 89, 90, 91, 92, 31, 93, 94, 95, 96, 97, 98, 99, 100, 101, 102, 103, 104, 105, 106, 107, 108, 109, 110, 111, 112, 113, 114, 115, 116, 117, 118, 119, 120, 121, 122, 123, 124, 125, 126, 127, 128, 129, 130, 131, 132, 133, 134, 135, 136, 137, 32, 138, 139, 194, 195, 196, 175, 176, 177, 178, 179, 180, 181, 182, 183, 184, 185, 186, 187, 188, 189, 190, 191, 192, 193, 166, 167, 168, 169, 170, 171, 172, 173, 174, 197, 198, 199, 200, 201, 202, 203, 204, 205, 206, 207, 208] (by decide +kernel) (by decide +kernel)
set_option maxRecDepth 20000 in
theorem gX11_ahead_X1_passSeveral : GoodIn wsX11_ahead (wsV RX11 289 RX1 yX1_passSeveral wsX1_passSeveral) := goodIn_app (goodIn_of _ (by decide +kernel)) ggX11_ahead_X1_passSeveral
theorem dX11_ahead_0 : decode cX11_ahead 0 = .ok (.iload_n 3, 1) := by decide +kernel
theorem dX11_ahead_1 : decode cX11_ahead 1 = .ok (.ifCond .ne 11, 3) := by decide +kernel
theorem dX11_ahead_4 : decode cX11_ahead 4 = .ok (.aload_n 0, 1) := by decide +kernel
theorem dX11_ahead_5 : decode cX11_ahead 5 = .ok (.iload_n 1, 1) := by decide +kernel
theorem dX11_ahead_6 : decode cX11_ahead 6 = .ok (.invokevirtual 175, 3) := by decide +kernel
theorem dX11_ahead_9 : decode cX11_ahead 9 = .ok (.goto 21, 3) := by decide +kernel
theorem dX11_ahead_12 : decode cX11_ahead 12 = .ok (.iload_n 3, 1) := by decide +kernel
theorem dX11_ahead_13 : decode cX11_ahead 13 = .ok (.iconst 1, 1) := by decide +kernel
theorem dX11_ahead_14 : decode cX11_ahead 14 = .ok (.if_icmp .ne 15, 3) := by decide +kernel
theorem dX11_ahead_17 : decode cX11_ahead 17 = .ok (.aload_n 0, 1) := by decide +kernel
theorem dX11_ahead_18 : decode cX11_ahead 18 = .ok (.iload_n 1, 1) := by decide +kernel
theorem dX11_ahead_19 : decode cX11_ahead 19 = .ok (.invokevirtual 181, 3) := by decide +kernel
theorem dX11_ahead_22 : decode cX11_ahead 22 = .ok (.ifCond .eq 7, 3) := by decide +kernel
theorem dX11_ahead_25 : decode cX11_ahead 25 = .ok (.iconst 1, 1) := by decide +kernel
theorem dX11_ahead_26 : decode cX11_ahead 26 = .ok (.goto 4, 3) := by decide +kernel
theorem dX11_ahead_29 : decode cX11_ahead 29 = .ok (.iconst 0, 1) := by decide +kernel
theorem dX11_ahead_30 : decode cX11_ahead 30 = .ok (.istore 4, 2) := by decide +kernel
theorem dX11_ahead_32 : decode cX11_ahead 32 = .ok (.iload 4, 2) := by decide +kernel
theorem dX11_ahead_34 : decode cX11_ahead 34 = .ok (.ifCond .eq 13, 3) := by decide +kernel
theorem dX11_ahead_37 : decode cX11_ahead 37 = .ok (.iload_n 2, 1) := by decide +kernel
theorem dX11_ahead_38 : decode cX11_ahead 38 = .ok (.ifCond .lt 9, 3) := by decide +kernel
theorem dX11_ahead_41 : decode cX11_ahead 41 = .ok (.iload_n 2, 1) := by decide +kernel
theorem dX11_ahead_42 : decode cX11_ahead 42 = .ok (.bipush 100, 2) := by decide +kernel
theorem dX11_ahead_44 : decode cX11_ahead 44 = .ok (.if_icmp .le 6, 3) := by decide +kernel
theorem dX11_ahead_47 : decode cX11_ahead 47 = .ok (.bipush (-2), 2) := by decide +kernel
theorem dX11_ahead_49 : decode cX11_ahead 49 = .ok (.ireturn, 1) := by decide +kernel
theorem dX11_ahead_50 : decode cX11_ahead 50 = .ok (.iload_n 3, 1) := by decide +kernel
theorem dX11_ahead_51 : decode cX11_ahead 51 = .ok (.ifCond .ne 19, 3) := by decide +kernel
theorem dX11_ahead_54 : decode cX11_ahead 54 = .ok (.aload_n 0, 1) := by decide +kernel
theorem dX11_ahead_55 : decode cX11_ahead 55 = .ok (.getfield 19, 3) := by decide +kernel
theorem dX11_ahead_58 : decode cX11_ahead 58 = .ok (.getfield 133, 3) := by decide +kernel
theorem dX11_ahead_61 : decode cX11_ahead 61 = .ok (.iload_n 1, 1) := by decide +kernel
theorem dX11_ahead_62 : decode cX11_ahead 62 = .ok (.invokevirtual 215, 3) := by decide +kernel
theorem dX11_ahead_65 : decode cX11_ahead 65 = .ok (.ifCond .eq 5, 3) := by decide +kernel
theorem dX11_ahead_68 : decode cX11_ahead 68 = .ok (.iconst (-1), 1) := by decide +kernel
theorem dX11_ahead_69 : decode cX11_ahead 69 = .ok (.ireturn, 1) := by decide +kernel
theorem dX11_ahead_70 : decode cX11_ahead 70 = .ok (.aload_n 0, 1) := by decide +kernel
theorem dX11_ahead_71 : decode cX11_ahead 71 = .ok (.getfield 101, 3) := by decide +kernel
theorem dX11_ahead_74 : decode cX11_ahead 74 = .ok (.aload_n 0, 1) := by decide +kernel
theorem dX11_ahead_75 : decode cX11_ahead 75 = .ok (.getfield 19, 3) := by decide +kernel
theorem dX11_ahead_78 : decode cX11_ahead 78 = .ok (.getfield 133, 3) := by decide +kernel
theorem dX11_ahead_81 : decode cX11_ahead 81 = .ok (.invokevirtual 137, 3) := by decide +kernel
theorem dX11_ahead_84 : decode cX11_ahead 84 = .ok (.aload_n 0, 1) := by decide +kernel
theorem dX11_ahead_85 : decode cX11_ahead 85 = .ok (.getfield 73, 3) := by decide +kernel
theorem dX11_ahead_88 : decode cX11_ahead 88 = .ok (.aload_n 0, 1) := by decide +kernel
theorem dX11_ahead_89 : decode cX11_ahead 89 = .ok (.getfield 101, 3) := by decide +kernel
theorem dX11_ahead_92 : decode cX11_ahead 92 = .ok (.iload_n 2, 1) := by decide +kernel
theorem dX11_ahead_93 : decode cX11_ahead 93 = .ok (.invokevirtual 289, 3) := by decide +kernel
theorem dX11_ahead_96 : decode cX11_ahead 96 = .ok (.iload_n 3, 1) := by decide +kernel
theorem dX11_ahead_97 : decode cX11_ahead 97 = .ok (.ifCond .ne 15, 3) := by decide +kernel
theorem dX11_ahead_100 : decode cX11_ahead 100 = .ok (.aload_n 0, 1) := by decide +kernel
theorem dX11_ahead_101 : decode cX11_ahead 101 = .ok (.getfield 101, 3) := by decide +kernel
theorem dX11_ahead_104 : decode cX11_ahead 104 = .ok (.getfield 209, 3) := by decide +kernel
theorem dX11_ahead_107 : decode cX11_ahead 107 = .ok (.iload_n 1, 1) := by decide +kernel
theorem dX11_ahead_108 : decode cX11_ahead 108 = .ok (.iaload, 1) := by decide +kernel
theorem dX11_ahead_109 : decode cX11_ahead 109 = .ok (.goto 12, 3) := by decide +kernel
theorem dX11_ahead_112 : decode cX11_ahead 112 = .ok (.aload_n 0, 1) := by decide +kernel
theorem dX11_ahead_113 : decode cX11_ahead 113 = .ok (.getfield 101, 3) := by decide +kernel
theorem dX11_ahead_116 : decode cX11_ahead 116 = .ok (.getfield 190, 3) := by decide +kernel
theorem dX11_ahead_119 : decode cX11_ahead 119 = .ok (.iload_n 1, 1) := by decide +kernel
theorem dX11_ahead_120 : decode cX11_ahead 120 = .ok (.iaload, 1) := by decide +kernel
theorem dX11_ahead_121 : decode cX11_ahead 121 = .ok (.ireturn, 1) := by decide +kernel
set_option maxRecDepth 20000 in
theorem ggX11_way_X11_isPlace : GoodIn wsX11_way wsX11_isPlace := goodIn_r _ [6, 1, 31, 32, 33, 34, 35, 36, 37, 38, 39, 40, 41, 42, 43, 44, 45, 46, 47, 48, 49, 50, 51, 52, 53, 54, 55, 56, 57, 58, 59, 60, 61, 62, 63, 64, 65, 66, 67, 68, 69, 70, 71, 72, 73, 74, 75] (by decide +kernel) (by decide +kernel)
set_option maxRecDepth 20000 in
theorem gX11_way_X11_isPlace : GoodIn wsX11_way (wsV RX11 275 RX11 yX11_isPlace wsX11_isPlace) := goodIn_app (goodIn_of _ (by decide +kernel)) ggX11_way_X11_isPlace
set_option maxRecDepth 20000 in
theorem ggX11_way_X8_hasWay : GoodIn wsX11_way wsX8_hasWay := goodIn_r _ [11, 12, 13, 14, 10, 15, 57, 58, 59, 60, 61, 62, 63, 64, 65, 66, 67, 68, 69, 70, 71, 72, 73, 74, 75] (by decide +kernel) (by decide +kernel)
set_option maxRecDepth 20000 in
theorem gX11_way_X8_hasWay : GoodIn wsX11_way (wsV RX11 293 RX8 yX8_hasWay wsX8_hasWay) := goodIn_app (goodIn_of _ (by decide +kernel)) ggX11_way_X8_hasWay
set_option maxRecDepth 20000 in
theorem ggX11_way_X8_wayHours : GoodIn wsX11_way wsX8_wayHours := goodIn_r _ [19, 12, 13, 14, 10, 15, 57, 58, 59, 60, 61, 62, 63, 64, 65, 66, 67, 68, 69, 70, 71, 72, 73, 74, 75] (by decide +kernel) (by decide +kernel)
set_option maxRecDepth 20000 in
theorem gX11_way_X8_wayHours : GoodIn wsX11_way (wsV RX11 296 RX8 yX8_wayHours wsX8_wayHours) := goodIn_app (goodIn_of _ (by decide +kernel)) ggX11_way_X8_wayHours
set_option maxRecDepth 20000 in
theorem ggX11_way_X8_nextPlace : GoodIn wsX11_way wsX8_nextPlace := goodIn_r _ [23, 24, 25, 26, 27, 10, 28, 29, 13, 14, 15, 30, 17, 18, 19, 12, 57, 58, 59, 60, 61, 62, 63, 64, 65, 66, 67, 68, 69, 70, 71, 72, 73, 74, 75] (by decide +kernel) (by decide +kernel)
set_option maxRecDepth 20000 in
theorem gX11_way_X8_nextPlace : GoodIn wsX11_way (wsV RX11 299 RX8 yX8_nextPlace wsX8_nextPlace) := goodIn_app (goodIn_of _ (by decide +kernel)) ggX11_way_X8_nextPlace
theorem dX11_way_0 : decode cX11_way 0 = .ok (.aload_n 0, 1) := by decide +kernel
theorem dX11_way_1 : decode cX11_way 1 = .ok (.iload_n 1, 1) := by decide +kernel
theorem dX11_way_2 : decode cX11_way 2 = .ok (.invokevirtual 275, 3) := by decide +kernel
theorem dX11_way_5 : decode cX11_way 5 = .ok (.ifCond .eq 20, 3) := by decide +kernel
theorem dX11_way_8 : decode cX11_way 8 = .ok (.aload_n 0, 1) := by decide +kernel
theorem dX11_way_9 : decode cX11_way 9 = .ok (.iload_n 2, 1) := by decide +kernel
theorem dX11_way_10 : decode cX11_way 10 = .ok (.invokevirtual 275, 3) := by decide +kernel
theorem dX11_way_13 : decode cX11_way 13 = .ok (.ifCond .eq 12, 3) := by decide +kernel
theorem dX11_way_16 : decode cX11_way 16 = .ok (.iload_n 3, 1) := by decide +kernel
theorem dX11_way_17 : decode cX11_way 17 = .ok (.ifCond .lt 8, 3) := by decide +kernel
theorem dX11_way_20 : decode cX11_way 20 = .ok (.iload_n 3, 1) := by decide +kernel
theorem dX11_way_21 : decode cX11_way 21 = .ok (.iconst 1, 1) := by decide +kernel
theorem dX11_way_22 : decode cX11_way 22 = .ok (.if_icmp .le 6, 3) := by decide +kernel
theorem dX11_way_25 : decode cX11_way 25 = .ok (.bipush (-3), 2) := by decide +kernel
theorem dX11_way_27 : decode cX11_way 27 = .ok (.ireturn, 1) := by decide +kernel
theorem dX11_way_28 : decode cX11_way 28 = .ok (.aload_n 0, 1) := by decide +kernel
theorem dX11_way_29 : decode cX11_way 29 = .ok (.getfield 19, 3) := by decide +kernel
theorem dX11_way_32 : decode cX11_way 32 = .ok (.getfield 57, 3) := by decide +kernel
theorem dX11_way_35 : decode cX11_way 35 = .ok (.iload_n 1, 1) := by decide +kernel
theorem dX11_way_36 : decode cX11_way 36 = .ok (.iload_n 2, 1) := by decide +kernel
theorem dX11_way_37 : decode cX11_way 37 = .ok (.invokevirtual 293, 3) := by decide +kernel
theorem dX11_way_40 : decode cX11_way 40 = .ok (.ifCond .ne 6, 3) := by decide +kernel
theorem dX11_way_43 : decode cX11_way 43 = .ok (.bipush (-2), 2) := by decide +kernel
theorem dX11_way_45 : decode cX11_way 45 = .ok (.ireturn, 1) := by decide +kernel
theorem dX11_way_46 : decode cX11_way 46 = .ok (.iload_n 3, 1) := by decide +kernel
theorem dX11_way_47 : decode cX11_way 47 = .ok (.ifCond .ne 18, 3) := by decide +kernel
theorem dX11_way_50 : decode cX11_way 50 = .ok (.aload_n 0, 1) := by decide +kernel
theorem dX11_way_51 : decode cX11_way 51 = .ok (.getfield 19, 3) := by decide +kernel
theorem dX11_way_54 : decode cX11_way 54 = .ok (.getfield 57, 3) := by decide +kernel
theorem dX11_way_57 : decode cX11_way 57 = .ok (.iload_n 1, 1) := by decide +kernel
theorem dX11_way_58 : decode cX11_way 58 = .ok (.iload_n 2, 1) := by decide +kernel
theorem dX11_way_59 : decode cX11_way 59 = .ok (.invokevirtual 296, 3) := by decide +kernel
theorem dX11_way_62 : decode cX11_way 62 = .ok (.goto 15, 3) := by decide +kernel
theorem dX11_way_65 : decode cX11_way 65 = .ok (.aload_n 0, 1) := by decide +kernel
theorem dX11_way_66 : decode cX11_way 66 = .ok (.getfield 19, 3) := by decide +kernel
theorem dX11_way_69 : decode cX11_way 69 = .ok (.getfield 57, 3) := by decide +kernel
theorem dX11_way_72 : decode cX11_way 72 = .ok (.iload_n 1, 1) := by decide +kernel
theorem dX11_way_73 : decode cX11_way 73 = .ok (.iload_n 2, 1) := by decide +kernel
theorem dX11_way_74 : decode cX11_way 74 = .ok (.invokevirtual 299, 3) := by decide +kernel
theorem dX11_way_77 : decode cX11_way 77 = .ok (.ireturn, 1) := by decide +kernel
set_option maxRecDepth 20000 in
theorem ggX11_brings_X11_isHand : GoodIn wsX11_brings wsX11_isHand := goodIn_r _ [7, 1, 98, 99, 100, 101, 102, 103, 104, 105, 106, 107, 108, 109, 110, 111, 112, 113, 114, 115, 116, 117, 118, 119, 120, 121, 122, 123, 145, 146, 147, 148, 149, 150, 151, 152, 153, 154, 155, 156, 157, 158, 159, 160, 161, 162, 163] (by decide +kernel) (by decide +kernel)
set_option maxRecDepth 20000 in
theorem gX11_brings_X11_isHand : GoodIn wsX11_brings (wsV RX11 181 RX11 yX11_isHand wsX11_isHand) := goodIn_app (goodIn_of _ (by decide +kernel)) ggX11_brings_X11_isHand
set_option maxRecDepth 20000 in
theorem ggX11_brings_X11_isStandingJug : GoodIn wsX11_brings wsX11_isStandingJug := goodIn_r _ [11, 1, 12, 13, 14, 6, 15, 16, 17, 18, 19, 20, 21, 98, 99, 100, 101, 102, 103, 104, 105, 106, 107, 108, 109, 110, 111, 112, 113, 114, 115, 116, 117, 118, 119, 120, 121, 122, 123, 145, 146, 147, 148, 149, 150, 151, 152, 153, 154, 155, 156, 157, 158, 159, 160, 161, 162, 163, 124, 125, 126, 127, 128, 129, 130, 131, 132] (by decide +kernel) (by decide +kernel)
set_option maxRecDepth 20000 in
theorem gX11_brings_X11_isStandingJug : GoodIn wsX11_brings (wsV RX11 302 RX11 yX11_isStandingJug wsX11_isStandingJug) := goodIn_app (goodIn_of _ (by decide +kernel)) ggX11_brings_X11_isStandingJug
set_option maxRecDepth 20000 in
theorem ggX11_brings_X11_isPlace : GoodIn wsX11_brings wsX11_isPlace := goodIn_r _ [25, 1, 98, 99, 100, 101, 102, 103, 104, 105, 106, 107, 108, 109, 110, 111, 112, 113, 114, 115, 116, 117, 118, 119, 120, 121, 122, 123, 145, 146, 147, 148, 149, 150, 151, 152, 153, 154, 155, 156, 157, 158, 159, 160, 161, 162, 163] (by decide +kernel) (by decide +kernel)
set_option maxRecDepth 20000 in
theorem gX11_brings_X11_isPlace : GoodIn wsX11_brings (wsV RX11 275 RX11 yX11_isPlace wsX11_isPlace) := goodIn_app (goodIn_of _ (by decide +kernel)) ggX11_brings_X11_isPlace
set_option maxRecDepth 20000 in
theorem ggX11_brings_X8_hasWay : GoodIn wsX11_brings wsX8_hasWay := goodIn_r _ [30, 31, 32, 33, 29, 34, 145, 146, 147, 148, 149, 150, 151, 152, 153, 154, 155, 156, 157, 158, 159, 160, 161, 162, 163] (by decide +kernel) (by decide +kernel)
set_option maxRecDepth 20000 in
theorem gX11_brings_X8_hasWay : GoodIn wsX11_brings (wsV RX11 293 RX8 yX8_hasWay wsX8_hasWay) := goodIn_app (goodIn_of _ (by decide +kernel)) ggX11_brings_X8_hasWay
set_option maxRecDepth 20000 in
theorem ggX11_brings_X10_suppose : GoodIn wsX11_brings wsX10_suppose := goodIn_r _ [39, 40, 41, 42, 43, 44, 45, 46, 133, 134, 135, 136, 137, 138, 139, 140, 141, 142, 143, 144] (by decide +kernel) (by decide +kernel)
set_option maxRecDepth 20000 in
theorem gX11_brings_X10_suppose : GoodIn wsX11_brings (wsV RX11 305 RX10 yX10_suppose wsX10_suppose) := goodIn_app (goodIn_of _ (by decide +kernel)) ggX11_brings_X10_suppose
set_option maxRecDepth 20000 in
theorem ggX11_brings_X8_wayHours : GoodIn wsX11_brings wsX8_wayHours := goodIn_r _ [50, 31, 32, 33, 29, 34, 145, 146, 147, 148, 149, 150, 151, 152, 153, 154, 155, 156, 157, 158, 159, 160, 161, 162, 163] (by decide +kernel) (by decide +kernel)
set_option maxRecDepth 20000 in
theorem gX11_brings_X8_wayHours : GoodIn wsX11_brings (wsV RX11 296 RX8 yX8_wayHours wsX8_wayHours) := goodIn_app (goodIn_of _ (by decide +kernel)) ggX11_brings_X8_wayHours
set_option maxRecDepth 20000 in
theorem ggX11_brings_X10_holdFor : GoodIn wsX11_brings wsX10_holdFor := goodIn_r _ [54, 42, 55, 56, 57, 58, 43, 59, 40, 44, 60, 61, 62, 38, 63, 64, 65, 66, 67, 68, 69, 70, 71, 72, 73, 74, 75, 76, 77, 78, 79, 80, 29, 81, 82, 83, 84, 85, 86, 87, 88, 89, 90, 91, 92, 93, 94, 41, 45, 46, 95, 96, 97, 133, 134, 135, 136, 137, 138, 139, 140, 141, 142, 143, 144, 145, 146, 147, 148, 149, 150, 151, 152, 153, 154, 155, 156, 157, 158, 159, 160, 161, 162, 163] (by decide +kernel) (by decide +kernel)
set_option maxRecDepth 20000 in
theorem gX11_brings_X10_holdFor : GoodIn wsX11_brings (wsV RX11 312 RX10 yX10_holdFor wsX10_holdFor) := goodIn_app (goodIn_of _ (by decide +kernel)) ggX11_brings_X10_holdFor
theorem dX11_brings_0 : decode cX11_brings 0 = .ok (.aload_n 0, 1) := by decide +kernel
theorem dX11_brings_1 : decode cX11_brings 1 = .ok (.iload_n 1, 1) := by decide +kernel
theorem dX11_brings_2 : decode cX11_brings 2 = .ok (.invokevirtual 181, 3) := by decide +kernel
theorem dX11_brings_5 : decode cX11_brings 5 = .ok (.ifCond .eq 19, 3) := by decide +kernel
theorem dX11_brings_8 : decode cX11_brings 8 = .ok (.aload_n 0, 1) := by decide +kernel
theorem dX11_brings_9 : decode cX11_brings 9 = .ok (.iload_n 2, 1) := by decide +kernel
theorem dX11_brings_10 : decode cX11_brings 10 = .ok (.invokevirtual 302, 3) := by decide +kernel
theorem dX11_brings_13 : decode cX11_brings 13 = .ok (.ifCond .eq 11, 3) := by decide +kernel
theorem dX11_brings_16 : decode cX11_brings 16 = .ok (.aload_n 0, 1) := by decide +kernel
theorem dX11_brings_17 : decode cX11_brings 17 = .ok (.iload_n 3, 1) := by decide +kernel
theorem dX11_brings_18 : decode cX11_brings 18 = .ok (.invokevirtual 275, 3) := by decide +kernel
theorem dX11_brings_21 : decode cX11_brings 21 = .ok (.ifCond .ne 5, 3) := by decide +kernel
theorem dX11_brings_24 : decode cX11_brings 24 = .ok (.iconst (-1), 1) := by decide +kernel
theorem dX11_brings_25 : decode cX11_brings 25 = .ok (.ireturn, 1) := by decide +kernel
theorem dX11_brings_26 : decode cX11_brings 26 = .ok (.aload_n 0, 1) := by decide +kernel
theorem dX11_brings_27 : decode cX11_brings 27 = .ok (.getfield 19, 3) := by decide +kernel
theorem dX11_brings_30 : decode cX11_brings 30 = .ok (.getfield 133, 3) := by decide +kernel
theorem dX11_brings_33 : decode cX11_brings 33 = .ok (.getfield 203, 3) := by decide +kernel
theorem dX11_brings_36 : decode cX11_brings 36 = .ok (.iload_n 2, 1) := by decide +kernel
theorem dX11_brings_37 : decode cX11_brings 37 = .ok (.iaload, 1) := by decide +kernel
theorem dX11_brings_38 : decode cX11_brings 38 = .ok (.istore 4, 2) := by decide +kernel
theorem dX11_brings_40 : decode cX11_brings 40 = .ok (.aload_n 0, 1) := by decide +kernel
theorem dX11_brings_41 : decode cX11_brings 41 = .ok (.getfield 19, 3) := by decide +kernel
theorem dX11_brings_44 : decode cX11_brings 44 = .ok (.getfield 57, 3) := by decide +kernel
theorem dX11_brings_47 : decode cX11_brings 47 = .ok (.iload 4, 2) := by decide +kernel
theorem dX11_brings_49 : decode cX11_brings 49 = .ok (.iload_n 3, 1) := by decide +kernel
theorem dX11_brings_50 : decode cX11_brings 50 = .ok (.invokevirtual 293, 3) := by decide +kernel
theorem dX11_brings_53 : decode cX11_brings 53 = .ok (.ifCond .ne 6, 3) := by decide +kernel
theorem dX11_brings_56 : decode cX11_brings 56 = .ok (.bipush (-2), 2) := by decide +kernel
theorem dX11_brings_58 : decode cX11_brings 58 = .ok (.ireturn, 1) := by decide +kernel
theorem dX11_brings_59 : decode cX11_brings 59 = .ok (.aload_n 0, 1) := by decide +kernel
theorem dX11_brings_60 : decode cX11_brings 60 = .ok (.getfield 64, 3) := by decide +kernel
theorem dX11_brings_63 : decode cX11_brings 63 = .ok (.iload_n 1, 1) := by decide +kernel
theorem dX11_brings_64 : decode cX11_brings 64 = .ok (.iload_n 2, 1) := by decide +kernel
theorem dX11_brings_65 : decode cX11_brings 65 = .ok (.aload_n 0, 1) := by decide +kernel
theorem dX11_brings_66 : decode cX11_brings 66 = .ok (.getfield 19, 3) := by decide +kernel
theorem dX11_brings_69 : decode cX11_brings 69 = .ok (.getfield 133, 3) := by decide +kernel
theorem dX11_brings_72 : decode cX11_brings 72 = .ok (.getfield 209, 3) := by decide +kernel
theorem dX11_brings_75 : decode cX11_brings 75 = .ok (.iload_n 2, 1) := by decide +kernel
theorem dX11_brings_76 : decode cX11_brings 76 = .ok (.iaload, 1) := by decide +kernel
theorem dX11_brings_77 : decode cX11_brings 77 = .ok (.aload_n 0, 1) := by decide +kernel
theorem dX11_brings_78 : decode cX11_brings 78 = .ok (.getfield 19, 3) := by decide +kernel
theorem dX11_brings_81 : decode cX11_brings 81 = .ok (.getfield 133, 3) := by decide +kernel
theorem dX11_brings_84 : decode cX11_brings 84 = .ok (.getfield 252, 3) := by decide +kernel
theorem dX11_brings_87 : decode cX11_brings 87 = .ok (.invokevirtual 305, 3) := by decide +kernel
theorem dX11_brings_90 : decode cX11_brings 90 = .ok (.aload_n 0, 1) := by decide +kernel
theorem dX11_brings_91 : decode cX11_brings 91 = .ok (.getfield 64, 3) := by decide +kernel
theorem dX11_brings_94 : decode cX11_brings 94 = .ok (.iconst 1, 1) := by decide +kernel
theorem dX11_brings_95 : decode cX11_brings 95 = .ok (.putfield 309, 3) := by decide +kernel
theorem dX11_brings_98 : decode cX11_brings 98 = .ok (.aload_n 0, 1) := by decide +kernel
theorem dX11_brings_99 : decode cX11_brings 99 = .ok (.getfield 64, 3) := by decide +kernel
theorem dX11_brings_102 : decode cX11_brings 102 = .ok (.aload_n 0, 1) := by decide +kernel
theorem dX11_brings_103 : decode cX11_brings 103 = .ok (.getfield 19, 3) := by decide +kernel
theorem dX11_brings_106 : decode cX11_brings 106 = .ok (.getfield 57, 3) := by decide +kernel
theorem dX11_brings_109 : decode cX11_brings 109 = .ok (.iload 4, 2) := by decide +kernel
theorem dX11_brings_111 : decode cX11_brings 111 = .ok (.iload_n 3, 1) := by decide +kernel
theorem dX11_brings_112 : decode cX11_brings 112 = .ok (.invokevirtual 296, 3) := by decide +kernel
theorem dX11_brings_115 : decode cX11_brings 115 = .ok (.invokevirtual 312, 3) := by decide +kernel
theorem dX11_brings_118 : decode cX11_brings 118 = .ok (.aload_n 0, 1) := by decide +kernel
theorem dX11_brings_119 : decode cX11_brings 119 = .ok (.getfield 64, 3) := by decide +kernel
theorem dX11_brings_122 : decode cX11_brings 122 = .ok (.getfield 315, 3) := by decide +kernel
theorem dX11_brings_125 : decode cX11_brings 125 = .ok (.ireturn, 1) := by decide +kernel
set_option maxRecDepth 20000 in
theorem ggX11_relay_X11_isStandingJug : GoodIn wsX11_relay wsX11_isStandingJug := goodIn_r _ [7, 1, 8, 9, 10, 6, 11, 12, 13, 14, 15, 16, 17, 161, 162, 163, 164, 165, 166, 167, 168, 169, 170, 171, 172, 173, 174, 175, 176, 177, 178, 179, 180, 181, 182, 183, 184, 185, 186, 196, 197, 198, 199, 200, 201, 202, 203, 204, 205, 206, 207, 208, 209, 210, 211, 212, 213, 214, 187, 188, 189, 190, 191, 192, 193, 194, 195] (by decide +kernel) (by decide +kernel)
set_option maxRecDepth 20000 in
theorem gX11_relay_X11_isStandingJug : GoodIn wsX11_relay (wsV RX11 302 RX11 yX11_isStandingJug wsX11_isStandingJug) := goodIn_app (goodIn_of _ (by decide +kernel)) ggX11_relay_X11_isStandingJug
set_option maxRecDepth 20000 in
theorem ggX11_relay_X11_isPlace : GoodIn wsX11_relay wsX11_isPlace := goodIn_r _ [21, 1, 161, 162, 163, 164, 165, 166, 167, 168, 169, 170, 171, 172, 173, 174, 175, 176, 177, 178, 179, 180, 181, 182, 183, 184, 185, 186, 196, 197, 198, 199, 200, 201, 202, 203, 204, 205, 206, 207, 208, 209, 210, 211, 212, 213, 214] (by decide +kernel) (by decide +kernel)
set_option maxRecDepth 20000 in
theorem gX11_relay_X11_isPlace : GoodIn wsX11_relay (wsV RX11 275 RX11 yX11_isPlace wsX11_isPlace) := goodIn_app (goodIn_of _ (by decide +kernel)) ggX11_relay_X11_isPlace
set_option maxRecDepth 20000 in
theorem ggX11_relay_X11_isTurned : GoodIn wsX11_relay wsX11_isTurned := goodIn_r _ [24] (by decide +kernel) (by decide +kernel)
set_option maxRecDepth 20000 in
theorem gX11_relay_X11_isTurned : GoodIn wsX11_relay (va_wsS RX11 318 yX11_isTurned wsX11_isTurned) := goodIn_app (goodIn_of _ (by decide +kernel)) ggX11_relay_X11_isTurned
set_option maxRecDepth 20000 in
theorem ggX11_relay_X8_hasWay : GoodIn wsX11_relay wsX8_hasWay := goodIn_r _ [29, 30, 31, 32, 28, 33, 196, 197, 198, 199, 200, 201, 202, 203, 204, 205, 206, 207, 208, 209, 210, 211, 212, 213, 214] (by decide +kernel) (by decide +kernel)
set_option maxRecDepth 20000 in
theorem gX11_relay_X8_hasWay : GoodIn wsX11_relay (wsV RX11 293 RX8 yX8_hasWay wsX8_hasWay) := goodIn_app (goodIn_of _ (by decide +kernel)) ggX11_relay_X8_hasWay
set_option maxRecDepth 20000 in
theorem ggX11_relay_X2_setOut : GoodIn wsX11_relay wsX2_setOut := goodIn_r _ [38, 39, 40, 41, 42, 43, 44, 45, 46, 47, 48, 49, 50, 28, 51, 52, 53, 54, 55, 56, 57, 31, 32, 33, 58, 59, 60, 61, 30, 62, 215, 216, 217, 218, 219, 220, 221, 222, 223, 224, 225, 196, 197, 198, 199, 200, 201, 202, 203, 204, 205, 206, 207, 208, 209, 210, 211, 212, 213, 214] (by decide +kernel) (by decide +kernel)
set_option maxRecDepth 20000 in
theorem gX11_relay_X2_setOut : GoodIn wsX11_relay (wsV RX11 321 RX2 yX2_setOut wsX2_setOut) := goodIn_app (goodIn_of _ (by decide +kernel)) ggX11_relay_X2_setOut
set_option maxRecDepth 20000 in
theorem ggX11_relay_X2_solve : GoodIn wsX11_relay wsX2_solve := goodIn_r _ [66, 67, 68, 69, 70, 40, 71, 72, 73, 74, 75, 76, 77, 78, 79, 80, 37, 81, 82, 41, 44, 45, 46, 47, 83, 84, 85, 86, 87, 39, 43, 42, 88, 89, 90, 91, 92, 93, 94, 95, 96, 97, 98, 99, 100, 101, 102, 103, 104, 105, 106, 107, 108, 109, 110, 111, 112, 113, 114, 115, 116, 117, 118, 119, 120, 121, 122, 123, 124, 125, 126, 28, 127, 128, 129, 130, 131, 132, 133, 134, 135, 136, 137, 138, 139, 140, 141, 142, 143, 215, 216, 217, 218, 219, 220, 221, 222, 223, 224, 225, 196, 197, 198, 199, 200, 201, 202, 203, 204, 205, 206, 207, 208, 209, 210, 211, 212, 213, 214, 226, 227, 228, 229, 230, 231, 232, 233, 234, 235, 236, 237] (by decide +kernel) (by decide +kernel)
set_option maxRecDepth 20000 in
theorem gX11_relay_X2_solve : GoodIn wsX11_relay (wsV RX11 323 RX2 yX2_solve wsX2_solve) := goodIn_app (goodIn_of _ (by decide +kernel)) ggX11_relay_X2_solve
set_option maxRecDepth 20000 in
theorem ggX11_relay_X2_howMany : GoodIn wsX11_relay wsX2_howMany := goodIn_r _ [147, 70, 67, 215, 216, 217, 218, 219, 220, 221, 222, 223, 224, 225] (by decide +kernel) (by decide +kernel)
set_option maxRecDepth 20000 in
theorem gX11_relay_X2_howMany : GoodIn wsX11_relay (wsV RX11 326 RX2 yX2_howMany wsX2_howMany) := goodIn_app (goodIn_of _ (by decide +kernel)) ggX11_relay_X2_howMany
set_option maxRecDepth 20000 in
theorem ggX11_relay_X2_leastTurned : GoodIn wsX11_relay wsX2_leastTurned := goodIn_r _ [151, 82, 67, 215, 216, 217, 218, 219, 220, 221, 222, 223, 224, 225] (by decide +kernel) (by decide +kernel)
set_option maxRecDepth 20000 in
theorem gX11_relay_X2_leastTurned : GoodIn wsX11_relay (wsV RX11 330 RX2 yX2_leastTurned wsX2_leastTurned) := goodIn_app (goodIn_of _ (by decide +kernel)) ggX11_relay_X2_leastTurned
set_option maxRecDepth 20000 in
theorem ggX11_relay_X2_handOfFirst : GoodIn wsX11_relay wsX2_handOfFirst := goodIn_r _ [155, 40, 67, 156, 145, 146, 37, 147, 70, 157, 158, 159, 160, 41, 83, 84, 85, 86, 87, 39, 43, 42, 88, 89, 90, 91, 92, 93, 94, 95, 96, 97, 98, 99, 100, 101, 102, 103, 104, 45, 46, 47, 105, 106, 107, 108, 109, 110, 111, 112, 113, 114, 115, 116, 117, 118, 119, 120, 121, 122, 123, 124, 125, 126, 28, 127, 128, 129, 130, 131, 132, 133, 134, 135, 136, 137, 138, 139, 140, 141, 142, 143, 215, 216, 217, 218, 219, 220, 221, 222, 223, 224, 225, 196, 197, 198, 199, 200, 201, 202, 203, 204, 205, 206, 207, 208, 209, 210, 211, 212, 213, 214, 226, 227, 228, 229, 230, 231, 232, 233, 234, 235, 236, 237] (by decide +kernel) (by decide +kernel)
set_option maxRecDepth 20000 in
theorem gX11_relay_X2_handOfFirst : GoodIn wsX11_relay (wsV RX11 333 RX2 yX2_handOfFirst wsX2_handOfFirst) := goodIn_app (goodIn_of _ (by decide +kernel)) ggX11_relay_X2_handOfFirst
theorem dX11_relay_0 : decode cX11_relay 0 = .ok (.aload_n 0, 1) := by decide +kernel
theorem dX11_relay_1 : decode cX11_relay 1 = .ok (.iload_n 1, 1) := by decide +kernel
theorem dX11_relay_2 : decode cX11_relay 2 = .ok (.invokevirtual 302, 3) := by decide +kernel
theorem dX11_relay_5 : decode cX11_relay 5 = .ok (.ifCond .eq 23, 3) := by decide +kernel
theorem dX11_relay_8 : decode cX11_relay 8 = .ok (.aload_n 0, 1) := by decide +kernel
theorem dX11_relay_9 : decode cX11_relay 9 = .ok (.iload_n 2, 1) := by decide +kernel
theorem dX11_relay_10 : decode cX11_relay 10 = .ok (.invokevirtual 275, 3) := by decide +kernel
theorem dX11_relay_13 : decode cX11_relay 13 = .ok (.ifCond .eq 15, 3) := by decide +kernel
theorem dX11_relay_16 : decode cX11_relay 16 = .ok (.iload 5, 2) := by decide +kernel
theorem dX11_relay_18 : decode cX11_relay 18 = .ok (.ifCond .lt 10, 3) := by decide +kernel
theorem dX11_relay_21 : decode cX11_relay 21 = .ok (.iload 5, 2) := by decide +kernel
theorem dX11_relay_23 : decode cX11_relay 23 = .ok (.bipush 6, 2) := by decide +kernel
theorem dX11_relay_25 : decode cX11_relay 25 = .ok (.if_icmp .le 6, 3) := by decide +kernel
theorem dX11_relay_28 : decode cX11_relay 28 = .ok (.bipush (-3), 2) := by decide +kernel
theorem dX11_relay_30 : decode cX11_relay 30 = .ok (.ireturn, 1) := by decide +kernel
theorem dX11_relay_31 : decode cX11_relay 31 = .ok (.iload_n 3, 1) := by decide +kernel
theorem dX11_relay_32 : decode cX11_relay 32 = .ok (.invokestatic 318, 3) := by decide +kernel
theorem dX11_relay_35 : decode cX11_relay 35 = .ok (.ifCond .eq 17, 3) := by decide +kernel
theorem dX11_relay_38 : decode cX11_relay 38 = .ok (.iload 4, 2) := by decide +kernel
theorem dX11_relay_40 : decode cX11_relay 40 = .ok (.invokestatic 318, 3) := by decide +kernel
theorem dX11_relay_43 : decode cX11_relay 43 = .ok (.ifCond .eq 9, 3) := by decide +kernel
theorem dX11_relay_46 : decode cX11_relay 46 = .ok (.iload 4, 2) := by decide +kernel
theorem dX11_relay_48 : decode cX11_relay 48 = .ok (.iload_n 3, 1) := by decide +kernel
theorem dX11_relay_49 : decode cX11_relay 49 = .ok (.if_icmp .ge 6, 3) := by decide +kernel
theorem dX11_relay_52 : decode cX11_relay 52 = .ok (.bipush (-3), 2) := by decide +kernel
theorem dX11_relay_54 : decode cX11_relay 54 = .ok (.ireturn, 1) := by decide +kernel
theorem dX11_relay_55 : decode cX11_relay 55 = .ok (.aload_n 0, 1) := by decide +kernel
theorem dX11_relay_56 : decode cX11_relay 56 = .ok (.getfield 19, 3) := by decide +kernel
theorem dX11_relay_59 : decode cX11_relay 59 = .ok (.getfield 133, 3) := by decide +kernel
theorem dX11_relay_62 : decode cX11_relay 62 = .ok (.getfield 203, 3) := by decide +kernel
theorem dX11_relay_65 : decode cX11_relay 65 = .ok (.iload_n 1, 1) := by decide +kernel
theorem dX11_relay_66 : decode cX11_relay 66 = .ok (.iaload, 1) := by decide +kernel
theorem dX11_relay_67 : decode cX11_relay 67 = .ok (.istore 6, 2) := by decide +kernel
theorem dX11_relay_69 : decode cX11_relay 69 = .ok (.aload_n 0, 1) := by decide +kernel
theorem dX11_relay_70 : decode cX11_relay 70 = .ok (.getfield 19, 3) := by decide +kernel
theorem dX11_relay_73 : decode cX11_relay 73 = .ok (.getfield 57, 3) := by decide +kernel
theorem dX11_relay_76 : decode cX11_relay 76 = .ok (.iload 6, 2) := by decide +kernel
theorem dX11_relay_78 : decode cX11_relay 78 = .ok (.iload_n 2, 1) := by decide +kernel
theorem dX11_relay_79 : decode cX11_relay 79 = .ok (.invokevirtual 293, 3) := by decide +kernel
theorem dX11_relay_82 : decode cX11_relay 82 = .ok (.ifCond .eq 22, 3) := by decide +kernel
theorem dX11_relay_85 : decode cX11_relay 85 = .ok (.iload 6, 2) := by decide +kernel
theorem dX11_relay_87 : decode cX11_relay 87 = .ok (.iload_n 2, 1) := by decide +kernel
theorem dX11_relay_88 : decode cX11_relay 88 = .ok (.if_icmp .eq 19, 3) := by decide +kernel
theorem dX11_relay_91 : decode cX11_relay 91 = .ok (.aload_n 0, 1) := by decide +kernel
theorem dX11_relay_92 : decode cX11_relay 92 = .ok (.getfield 19, 3) := by decide +kernel
theorem dX11_relay_95 : decode cX11_relay 95 = .ok (.getfield 57, 3) := by decide +kernel
theorem dX11_relay_98 : decode cX11_relay 98 = .ok (.getfield 169, 3) := by decide +kernel
theorem dX11_relay_101 : decode cX11_relay 101 = .ok (.ifCond .ne 6, 3) := by decide +kernel
theorem dX11_relay_104 : decode cX11_relay 104 = .ok (.bipush (-2), 2) := by decide +kernel
theorem dX11_relay_106 : decode cX11_relay 106 = .ok (.ireturn, 1) := by decide +kernel
theorem dX11_relay_107 : decode cX11_relay 107 = .ok (.aload_n 0, 1) := by decide +kernel
theorem dX11_relay_108 : decode cX11_relay 108 = .ok (.getfield 80, 3) := by decide +kernel
theorem dX11_relay_111 : decode cX11_relay 111 = .ok (.iload_n 1, 1) := by decide +kernel
theorem dX11_relay_112 : decode cX11_relay 112 = .ok (.iload 6, 2) := by decide +kernel
theorem dX11_relay_114 : decode cX11_relay 114 = .ok (.iload_n 2, 1) := by decide +kernel
theorem dX11_relay_115 : decode cX11_relay 115 = .ok (.aload_n 0, 1) := by decide +kernel
theorem dX11_relay_116 : decode cX11_relay 116 = .ok (.getfield 19, 3) := by decide +kernel
theorem dX11_relay_119 : decode cX11_relay 119 = .ok (.getfield 133, 3) := by decide +kernel
theorem dX11_relay_122 : decode cX11_relay 122 = .ok (.getfield 252, 3) := by decide +kernel
theorem dX11_relay_125 : decode cX11_relay 125 = .ok (.invokevirtual 321, 3) := by decide +kernel
theorem dX11_relay_128 : decode cX11_relay 128 = .ok (.aload_n 0, 1) := by decide +kernel
theorem dX11_relay_129 : decode cX11_relay 129 = .ok (.getfield 80, 3) := by decide +kernel
theorem dX11_relay_132 : decode cX11_relay 132 = .ok (.aload_n 0, 1) := by decide +kernel
theorem dX11_relay_133 : decode cX11_relay 133 = .ok (.getfield 19, 3) := by decide +kernel
theorem dX11_relay_136 : decode cX11_relay 136 = .ok (.getfield 133, 3) := by decide +kernel
theorem dX11_relay_139 : decode cX11_relay 139 = .ok (.getfield 209, 3) := by decide +kernel
theorem dX11_relay_142 : decode cX11_relay 142 = .ok (.iload_n 1, 1) := by decide +kernel
theorem dX11_relay_143 : decode cX11_relay 143 = .ok (.iaload, 1) := by decide +kernel
theorem dX11_relay_144 : decode cX11_relay 144 = .ok (.iload_n 3, 1) := by decide +kernel
theorem dX11_relay_145 : decode cX11_relay 145 = .ok (.iload 4, 2) := by decide +kernel
theorem dX11_relay_147 : decode cX11_relay 147 = .ok (.invokevirtual 323, 3) := by decide +kernel
theorem dX11_relay_150 : decode cX11_relay 150 = .ok (.iload 5, 2) := by decide +kernel
theorem dX11_relay_152 : decode cX11_relay 152 = .ok (.lookupswitch 44 #[(0, 28), (1, 36)], 28) := by decide +kernel
theorem dX11_relay_180 : decode cX11_relay 180 = .ok (.aload_n 0, 1) := by decide +kernel
theorem dX11_relay_181 : decode cX11_relay 181 = .ok (.getfield 80, 3) := by decide +kernel
theorem dX11_relay_184 : decode cX11_relay 184 = .ok (.invokevirtual 326, 3) := by decide +kernel
theorem dX11_relay_187 : decode cX11_relay 187 = .ok (.ireturn, 1) := by decide +kernel
theorem dX11_relay_188 : decode cX11_relay 188 = .ok (.aload_n 0, 1) := by decide +kernel
theorem dX11_relay_189 : decode cX11_relay 189 = .ok (.getfield 80, 3) := by decide +kernel
theorem dX11_relay_192 : decode cX11_relay 192 = .ok (.invokevirtual 330, 3) := by decide +kernel
theorem dX11_relay_195 : decode cX11_relay 195 = .ok (.ireturn, 1) := by decide +kernel
theorem dX11_relay_196 : decode cX11_relay 196 = .ok (.aload_n 0, 1) := by decide +kernel
theorem dX11_relay_197 : decode cX11_relay 197 = .ok (.getfield 80, 3) := by decide +kernel
theorem dX11_relay_200 : decode cX11_relay 200 = .ok (.iload 5, 2) := by decide +kernel
theorem dX11_relay_202 : decode cX11_relay 202 = .ok (.iconst 2, 1) := by decide +kernel
theorem dX11_relay_203 : decode cX11_relay 203 = .ok (.isub, 1) := by decide +kernel
theorem dX11_relay_204 : decode cX11_relay 204 = .ok (.invokevirtual 333, 3) := by decide +kernel
theorem dX11_relay_207 : decode cX11_relay 207 = .ok (.ireturn, 1) := by decide +kernel
set_option maxRecDepth 20000 in
theorem ggX11_match_X6_matchWants : GoodIn wsX11_match wsX6_matchWants := goodIn_r _ [7, 8, 9, 10, 11, 12, 13, 14, 15, 16, 17, 18, 19, 20, 6, 21, 22, 23, 24, 25, 26, 27, 28, 29, 30, 31, 32, 33, 34, 35, 93, 94, 95, 74, 75, 76, 77, 78, 79, 80, 81, 82, 83, 84, 85, 86, 87, 88, 89, 90, 91, 92, 96, 97, 98, 99, 100, 101, 102, 103, 104] (by decide +kernel) (by decide +kernel)
set_option maxRecDepth 20000 in
theorem gX11_match_X6_matchWants : GoodIn wsX11_match (wsV RX11 336 RX6 yX6_matchWants wsX6_matchWants) := goodIn_app (goodIn_of _ (by decide +kernel)) ggX11_match_X6_matchWants
set_option maxRecDepth 20000 in
theorem ggX11_match_X6_mostPay : GoodIn wsX11_match wsX6_mostPay := goodIn_r _ [39, 8, 93, 94, 95] (by decide +kernel) (by decide +kernel)
set_option maxRecDepth 20000 in
theorem gX11_match_X6_mostPay : GoodIn wsX11_match (wsV RX11 339 RX6 yX6_mostPay wsX6_mostPay) := goodIn_app (goodIn_of _ (by decide +kernel)) ggX11_match_X6_mostPay
set_option maxRecDepth 20000 in
theorem ggX11_match_X6_jugOfWant : GoodIn wsX11_match wsX6_jugOfWant := goodIn_r _ [43, 44, 45, 46, 6, 47, 9, 8, 18, 19, 20, 21, 22, 23, 24, 25, 26, 27, 28, 29, 30, 31, 32, 33, 34, 35, 93, 94, 95, 74, 75, 76, 77, 78, 79, 80, 81, 82, 83, 84, 85, 86, 87, 88, 89, 90, 91, 92, 96, 97, 98, 99, 100, 101, 102, 103, 104] (by decide +kernel) (by decide +kernel)
set_option maxRecDepth 20000 in
theorem gX11_match_X6_jugOfWant : GoodIn wsX11_match (wsV RX11 342 RX6 yX6_jugOfWant wsX6_jugOfWant) := goodIn_app (goodIn_of _ (by decide +kernel)) ggX11_match_X6_jugOfWant
theorem dX11_match_0 : decode cX11_match 0 = .ok (.aload_n 0, 1) := by decide +kernel
theorem dX11_match_1 : decode cX11_match 1 = .ok (.getfield 19, 3) := by decide +kernel
theorem dX11_match_4 : decode cX11_match 4 = .ok (.getfield 57, 3) := by decide +kernel
theorem dX11_match_7 : decode cX11_match 7 = .ok (.getfield 166, 3) := by decide +kernel
theorem dX11_match_10 : decode cX11_match 10 = .ok (.ifCond .eq 13, 3) := by decide +kernel
theorem dX11_match_13 : decode cX11_match 13 = .ok (.iload_n 1, 1) := by decide +kernel
theorem dX11_match_14 : decode cX11_match 14 = .ok (.ifCond .lt 9, 3) := by decide +kernel
theorem dX11_match_17 : decode cX11_match 17 = .ok (.iload_n 1, 1) := by decide +kernel
theorem dX11_match_18 : decode cX11_match 18 = .ok (.bipush 6, 2) := by decide +kernel
theorem dX11_match_20 : decode cX11_match 20 = .ok (.if_icmp .le 6, 3) := by decide +kernel
theorem dX11_match_23 : decode cX11_match 23 = .ok (.bipush (-3), 2) := by decide +kernel
theorem dX11_match_25 : decode cX11_match 25 = .ok (.ireturn, 1) := by decide +kernel
theorem dX11_match_26 : decode cX11_match 26 = .ok (.iload_n 1, 1) := by decide +kernel
theorem dX11_match_27 : decode cX11_match 27 = .ok (.aload_n 0, 1) := by decide +kernel
theorem dX11_match_28 : decode cX11_match 28 = .ok (.getfield 19, 3) := by decide +kernel
theorem dX11_match_31 : decode cX11_match 31 = .ok (.getfield 57, 3) := by decide +kernel
theorem dX11_match_34 : decode cX11_match 34 = .ok (.getfield 172, 3) := by decide +kernel
theorem dX11_match_37 : decode cX11_match 37 = .ok (.if_icmp .le 6, 3) := by decide +kernel
theorem dX11_match_40 : decode cX11_match 40 = .ok (.bipush (-2), 2) := by decide +kernel
theorem dX11_match_42 : decode cX11_match 42 = .ok (.ireturn, 1) := by decide +kernel
theorem dX11_match_43 : decode cX11_match 43 = .ok (.aload_n 0, 1) := by decide +kernel
theorem dX11_match_44 : decode cX11_match 44 = .ok (.getfield 87, 3) := by decide +kernel
theorem dX11_match_47 : decode cX11_match 47 = .ok (.aload_n 0, 1) := by decide +kernel
theorem dX11_match_48 : decode cX11_match 48 = .ok (.getfield 19, 3) := by decide +kernel
theorem dX11_match_51 : decode cX11_match 51 = .ok (.getfield 133, 3) := by decide +kernel
theorem dX11_match_54 : decode cX11_match 54 = .ok (.invokevirtual 336, 3) := by decide +kernel
theorem dX11_match_57 : decode cX11_match 57 = .ok (.iload_n 1, 1) := by decide +kernel
theorem dX11_match_58 : decode cX11_match 58 = .ok (.ifCond .ne 13, 3) := by decide +kernel
theorem dX11_match_61 : decode cX11_match 61 = .ok (.aload_n 0, 1) := by decide +kernel
theorem dX11_match_62 : decode cX11_match 62 = .ok (.getfield 87, 3) := by decide +kernel
theorem dX11_match_65 : decode cX11_match 65 = .ok (.invokevirtual 339, 3) := by decide +kernel
theorem dX11_match_68 : decode cX11_match 68 = .ok (.goto 20, 3) := by decide +kernel
theorem dX11_match_71 : decode cX11_match 71 = .ok (.aload_n 0, 1) := by decide +kernel
theorem dX11_match_72 : decode cX11_match 72 = .ok (.getfield 87, 3) := by decide +kernel
theorem dX11_match_75 : decode cX11_match 75 = .ok (.aload_n 0, 1) := by decide +kernel
theorem dX11_match_76 : decode cX11_match 76 = .ok (.getfield 19, 3) := by decide +kernel
theorem dX11_match_79 : decode cX11_match 79 = .ok (.getfield 133, 3) := by decide +kernel
theorem dX11_match_82 : decode cX11_match 82 = .ok (.iload_n 1, 1) := by decide +kernel
theorem dX11_match_83 : decode cX11_match 83 = .ok (.iconst 1, 1) := by decide +kernel
theorem dX11_match_84 : decode cX11_match 84 = .ok (.isub, 1) := by decide +kernel
theorem dX11_match_85 : decode cX11_match 85 = .ok (.invokevirtual 342, 3) := by decide +kernel
theorem dX11_match_88 : decode cX11_match 88 = .ok (.ireturn, 1) := by decide +kernel
set_option maxRecDepth 20000 in
theorem ggX11_rest_X11_isHand : GoodIn wsX11_rest wsX11_isHand := goodIn_r _ [7, 8, 90, 91, 92, 93, 94, 95, 96, 97, 98, 99, 100, 101, 102, 103, 104, 105, 106, 107, 108, 109, 110, 111, 112, 113, 114, 115, 116, 117, 118, 119, 120, 121, 122, 123, 124, 125, 126, 127, 128, 129, 130, 131, 132, 133, 134] (by decide +kernel) (by decide +kernel)
set_option maxRecDepth 20000 in
theorem gX11_rest_X11_isHand : GoodIn wsX11_rest (wsV RX11 181 RX11 yX11_isHand wsX11_isHand) := goodIn_app (goodIn_of _ (by decide +kernel)) ggX11_rest_X11_isHand
set_option maxRecDepth 20000 in
theorem ggX11_rest_J6_bitCount_0f7a4 : GoodIn wsX11_rest wsJ6_bitCount_0f7a4 := goodIn_r _ [12, 13, 14, 15] (by decide +kernel) (by decide +kernel)
set_option maxRecDepth 20000 in
theorem gX11_rest_J6_bitCount_0f7a4 : GoodIn wsX11_rest (va_wsS RX11 347 yJ6_bitCount_0f7a4 wsJ6_bitCount_0f7a4) := goodIn_app (goodIn_of _ (by decide +kernel)) ggX11_rest_J6_bitCount_0f7a4
set_option maxRecDepth 20000 in
theorem ggX11_rest_X9_turnedByTurns : GoodIn wsX11_rest wsX9_turnedByTurns := goodIn_r _ [20, 21, 22, 23, 24, 25, 26, 27, 28, 29, 30, 31, 32, 33, 34, 35, 36, 37, 38, 39, 40, 41, 42, 43, 44, 45, 46, 47, 48, 49, 50, 51, 52, 53, 54, 55, 56, 57, 58, 59, 60, 61, 62, 63, 64, 65, 66, 67, 68, 69, 70, 71, 72, 73, 74, 75, 76, 77, 78, 79, 80, 81, 82, 83, 84, 85, 86, 87, 88, 89, 135, 136, 137, 138, 139, 106, 107, 108, 109, 110, 111, 112, 113, 114, 115, 140, 141, 142, 143, 144, 145, 146, 147, 148, 149, 150, 151, 152, 153, 154, 155, 156, 157, 158, 159, 160, 116, 117, 118, 119, 120, 121, 122, 123, 124, 125, 126, 127, 128, 129, 130, 131, 132, 133, 134] (by decide +kernel) (by decide +kernel)
set_option maxRecDepth 20000 in
theorem gX11_rest_X9_turnedByTurns : GoodIn wsX11_rest (wsV RX11 352 RX9 yX9_turnedByTurns wsX9_turnedByTurns) := goodIn_app (goodIn_of _ (by decide +kernel)) ggX11_rest_X9_turnedByTurns
theorem dX11_rest_0 : decode cX11_rest 0 = .ok (.aload_n 0, 1) := by decide +kernel
theorem dX11_rest_1 : decode cX11_rest 1 = .ok (.iload_n 1, 1) := by decide +kernel
theorem dX11_rest_2 : decode cX11_rest 2 = .ok (.invokevirtual 181, 3) := by decide +kernel
theorem dX11_rest_5 : decode cX11_rest 5 = .ok (.ifCond .eq 34, 3) := by decide +kernel
theorem dX11_rest_8 : decode cX11_rest 8 = .ok (.iload_n 2, 1) := by decide +kernel
theorem dX11_rest_9 : decode cX11_rest 9 = .ok (.iconst 1, 1) := by decide +kernel
theorem dX11_rest_10 : decode cX11_rest 10 = .ok (.if_icmp .lt 29, 3) := by decide +kernel
theorem dX11_rest_13 : decode cX11_rest 13 = .ok (.iload_n 2, 1) := by decide +kernel
theorem dX11_rest_14 : decode cX11_rest 14 = .ok (.bipush 10, 2) := by decide +kernel
theorem dX11_rest_16 : decode cX11_rest 16 = .ok (.if_icmp .gt 23, 3) := by decide +kernel
theorem dX11_rest_19 : decode cX11_rest 19 = .ok (.iload_n 3, 1) := by decide +kernel
theorem dX11_rest_20 : decode cX11_rest 20 = .ok (.ifCond .lt 19, 3) := by decide +kernel
theorem dX11_rest_23 : decode cX11_rest 23 = .ok (.iload_n 3, 1) := by decide +kernel
theorem dX11_rest_24 : decode cX11_rest 24 = .ok (.iload_n 2, 1) := by decide +kernel
theorem dX11_rest_25 : decode cX11_rest 25 = .ok (.if_icmp .gt 14, 3) := by decide +kernel
theorem dX11_rest_28 : decode cX11_rest 28 = .ok (.iload 4, 2) := by decide +kernel
theorem dX11_rest_30 : decode cX11_rest 30 = .ok (.ifCond .lt 9, 3) := by decide +kernel
theorem dX11_rest_33 : decode cX11_rest 33 = .ok (.iload 4, 2) := by decide +kernel
theorem dX11_rest_35 : decode cX11_rest 35 = .ok (.iconst 1, 1) := by decide +kernel
theorem dX11_rest_36 : decode cX11_rest 36 = .ok (.if_icmp .le 5, 3) := by decide +kernel
theorem dX11_rest_39 : decode cX11_rest 39 = .ok (.iconst (-1), 1) := by decide +kernel
theorem dX11_rest_40 : decode cX11_rest 40 = .ok (.ireturn, 1) := by decide +kernel
theorem dX11_rest_41 : decode cX11_rest 41 = .ok (.iconst 0, 1) := by decide +kernel
theorem dX11_rest_42 : decode cX11_rest 42 = .ok (.istore 5, 2) := by decide +kernel
theorem dX11_rest_44 : decode cX11_rest 44 = .ok (.ldc_w 346, 3) := by decide +kernel
theorem dX11_rest_47 : decode cX11_rest 47 = .ok (.istore 6, 2) := by decide +kernel
theorem dX11_rest_49 : decode cX11_rest 49 = .ok (.iconst 0, 1) := by decide +kernel
theorem dX11_rest_50 : decode cX11_rest 50 = .ok (.istore 7, 2) := by decide +kernel
theorem dX11_rest_52 : decode cX11_rest 52 = .ok (.iload 7, 2) := by decide +kernel
theorem dX11_rest_54 : decode cX11_rest 54 = .ok (.iconst 1, 1) := by decide +kernel
theorem dX11_rest_55 : decode cX11_rest 55 = .ok (.iload_n 2, 1) := by decide +kernel
theorem dX11_rest_56 : decode cX11_rest 56 = .ok (.ishl, 1) := by decide +kernel
theorem dX11_rest_57 : decode cX11_rest 57 = .ok (.if_icmp .ge 46, 3) := by decide +kernel
theorem dX11_rest_60 : decode cX11_rest 60 = .ok (.iload 7, 2) := by decide +kernel
theorem dX11_rest_62 : decode cX11_rest 62 = .ok (.invokestatic 347, 3) := by decide +kernel
theorem dX11_rest_65 : decode cX11_rest 65 = .ok (.iload_n 3, 1) := by decide +kernel
theorem dX11_rest_66 : decode cX11_rest 66 = .ok (.if_icmp .ne 31, 3) := by decide +kernel
theorem dX11_rest_69 : decode cX11_rest 69 = .ok (.aload_n 0, 1) := by decide +kernel
theorem dX11_rest_70 : decode cX11_rest 70 = .ok (.getfield 96, 3) := by decide +kernel
theorem dX11_rest_73 : decode cX11_rest 73 = .ok (.iload_n 1, 1) := by decide +kernel
theorem dX11_rest_74 : decode cX11_rest 74 = .ok (.iload_n 2, 1) := by decide +kernel
theorem dX11_rest_75 : decode cX11_rest 75 = .ok (.iload 7, 2) := by decide +kernel
theorem dX11_rest_77 : decode cX11_rest 77 = .ok (.invokevirtual 352, 3) := by decide +kernel
theorem dX11_rest_80 : decode cX11_rest 80 = .ok (.istore 8, 2) := by decide +kernel
theorem dX11_rest_82 : decode cX11_rest 82 = .ok (.iload 8, 2) := by decide +kernel
theorem dX11_rest_84 : decode cX11_rest 84 = .ok (.iload 6, 2) := by decide +kernel
theorem dX11_rest_86 : decode cX11_rest 86 = .ok (.if_icmp .ge 11, 3) := by decide +kernel
theorem dX11_rest_89 : decode cX11_rest 89 = .ok (.iload 8, 2) := by decide +kernel
theorem dX11_rest_91 : decode cX11_rest 91 = .ok (.istore 6, 2) := by decide +kernel
theorem dX11_rest_93 : decode cX11_rest 93 = .ok (.iload 7, 2) := by decide +kernel
theorem dX11_rest_95 : decode cX11_rest 95 = .ok (.istore 5, 2) := by decide +kernel
theorem dX11_rest_97 : decode cX11_rest 97 = .ok (.iinc 7 1, 3) := by decide +kernel
theorem dX11_rest_100 : decode cX11_rest 100 = .ok (.goto (-48), 3) := by decide +kernel
theorem dX11_rest_103 : decode cX11_rest 103 = .ok (.iload 4, 2) := by decide +kernel
theorem dX11_rest_105 : decode cX11_rest 105 = .ok (.ifCond .ne 8, 3) := by decide +kernel
theorem dX11_rest_108 : decode cX11_rest 108 = .ok (.iload 5, 2) := by decide +kernel
theorem dX11_rest_110 : decode cX11_rest 110 = .ok (.goto 5, 3) := by decide +kernel
theorem dX11_rest_113 : decode cX11_rest 113 = .ok (.iload 6, 2) := by decide +kernel
theorem dX11_rest_115 : decode cX11_rest 115 = .ok (.ireturn, 1) := by decide +kernel
set_option maxRecDepth 20000 in
theorem ggX11_test_X11_isTurned : GoodIn wsX11_test wsX11_isTurned := goodIn_r _ [5] (by decide +kernel) (by decide +kernel)
set_option maxRecDepth 20000 in
theorem gX11_test_X11_isTurned : GoodIn wsX11_test (va_wsS RX11 318 yX11_isTurned wsX11_isTurned) := goodIn_app (goodIn_of _ (by decide +kernel)) ggX11_test_X11_isTurned
set_option maxRecDepth 20000 in
theorem ggX11_test_X4_addTest : GoodIn wsX11_test wsX4_addTest := goodIn_r _ [10, 11, 12, 13, 14, 15, 32, 33, 34, 35, 36, 37, 38, 39, 40, 41] (by decide +kernel) (by decide +kernel)
set_option maxRecDepth 20000 in
theorem gX11_test_X4_addTest : GoodIn wsX11_test (wsV RX11 356 RX4 yX4_addTest wsX4_addTest) := goodIn_app (goodIn_of _ (by decide +kernel)) ggX11_test_X4_addTest
theorem dX11_test_0 : decode cX11_test 0 = .ok (.aload_n 0, 1) := by decide +kernel
theorem dX11_test_1 : decode cX11_test 1 = .ok (.getfield 19, 3) := by decide +kernel
theorem dX11_test_4 : decode cX11_test 4 = .ok (.getfield 57, 3) := by decide +kernel
theorem dX11_test_7 : decode cX11_test 7 = .ok (.getfield 166, 3) := by decide +kernel
theorem dX11_test_10 : decode cX11_test 10 = .ok (.ifCond .ne 6, 3) := by decide +kernel
theorem dX11_test_13 : decode cX11_test 13 = .ok (.bipush (-2), 2) := by decide +kernel
theorem dX11_test_15 : decode cX11_test 15 = .ok (.ireturn, 1) := by decide +kernel
theorem dX11_test_16 : decode cX11_test 16 = .ok (.iload_n 2, 1) := by decide +kernel
theorem dX11_test_17 : decode cX11_test 17 = .ok (.iconst (-1), 1) := by decide +kernel
theorem dX11_test_18 : decode cX11_test 18 = .ok (.if_icmp .ne 13, 3) := by decide +kernel
theorem dX11_test_21 : decode cX11_test 21 = .ok (.aload_n 0, 1) := by decide +kernel
theorem dX11_test_22 : decode cX11_test 22 = .ok (.getfield 19, 3) := by decide +kernel
theorem dX11_test_25 : decode cX11_test 25 = .ok (.iconst 0, 1) := by decide +kernel
theorem dX11_test_26 : decode cX11_test 26 = .ok (.putfield 140, 3) := by decide +kernel
theorem dX11_test_29 : decode cX11_test 29 = .ok (.iconst 0, 1) := by decide +kernel
theorem dX11_test_30 : decode cX11_test 30 = .ok (.ireturn, 1) := by decide +kernel
theorem dX11_test_31 : decode cX11_test 31 = .ok (.iload_n 1, 1) := by decide +kernel
theorem dX11_test_32 : decode cX11_test 32 = .ok (.invokestatic 318, 3) := by decide +kernel
theorem dX11_test_35 : decode cX11_test 35 = .ok (.ifCond .eq 32, 3) := by decide +kernel
theorem dX11_test_38 : decode cX11_test 38 = .ok (.iload 4, 2) := by decide +kernel
theorem dX11_test_40 : decode cX11_test 40 = .ok (.invokestatic 318, 3) := by decide +kernel
theorem dX11_test_43 : decode cX11_test 43 = .ok (.ifCond .eq 24, 3) := by decide +kernel
theorem dX11_test_46 : decode cX11_test 46 = .ok (.iload_n 2, 1) := by decide +kernel
theorem dX11_test_47 : decode cX11_test 47 = .ok (.iconst 1, 1) := by decide +kernel
theorem dX11_test_48 : decode cX11_test 48 = .ok (.if_icmp .lt 19, 3) := by decide +kernel
theorem dX11_test_51 : decode cX11_test 51 = .ok (.iload_n 2, 1) := by decide +kernel
theorem dX11_test_52 : decode cX11_test 52 = .ok (.bipush 20, 2) := by decide +kernel
theorem dX11_test_54 : decode cX11_test 54 = .ok (.if_icmp .gt 13, 3) := by decide +kernel
theorem dX11_test_57 : decode cX11_test 57 = .ok (.iload_n 3, 1) := by decide +kernel
theorem dX11_test_58 : decode cX11_test 58 = .ok (.ifCond .lt 9, 3) := by decide +kernel
theorem dX11_test_61 : decode cX11_test 61 = .ok (.iload_n 3, 1) := by decide +kernel
theorem dX11_test_62 : decode cX11_test 62 = .ok (.bipush 99, 2) := by decide +kernel
theorem dX11_test_64 : decode cX11_test 64 = .ok (.if_icmp .le 6, 3) := by decide +kernel
theorem dX11_test_67 : decode cX11_test 67 = .ok (.bipush (-2), 2) := by decide +kernel
theorem dX11_test_69 : decode cX11_test 69 = .ok (.ireturn, 1) := by decide +kernel
theorem dX11_test_70 : decode cX11_test 70 = .ok (.aload_n 0, 1) := by decide +kernel
theorem dX11_test_71 : decode cX11_test 71 = .ok (.getfield 19, 3) := by decide +kernel
theorem dX11_test_74 : decode cX11_test 74 = .ok (.getfield 140, 3) := by decide +kernel
theorem dX11_test_77 : decode cX11_test 77 = .ok (.bipush 10, 2) := by decide +kernel
theorem dX11_test_79 : decode cX11_test 79 = .ok (.if_icmp .lt 6, 3) := by decide +kernel
theorem dX11_test_82 : decode cX11_test 82 = .ok (.bipush (-2), 2) := by decide +kernel
theorem dX11_test_84 : decode cX11_test 84 = .ok (.ireturn, 1) := by decide +kernel
theorem dX11_test_85 : decode cX11_test 85 = .ok (.aload_n 0, 1) := by decide +kernel
theorem dX11_test_86 : decode cX11_test 86 = .ok (.getfield 19, 3) := by decide +kernel
theorem dX11_test_89 : decode cX11_test 89 = .ok (.iload_n 1, 1) := by decide +kernel
theorem dX11_test_90 : decode cX11_test 90 = .ok (.iload_n 2, 1) := by decide +kernel
theorem dX11_test_91 : decode cX11_test 91 = .ok (.iload_n 3, 1) := by decide +kernel
theorem dX11_test_92 : decode cX11_test 92 = .ok (.iload 4, 2) := by decide +kernel
theorem dX11_test_94 : decode cX11_test 94 = .ok (.invokevirtual 356, 3) := by decide +kernel
theorem dX11_test_97 : decode cX11_test 97 = .ok (.aload_n 0, 1) := by decide +kernel
theorem dX11_test_98 : decode cX11_test 98 = .ok (.getfield 19, 3) := by decide +kernel
theorem dX11_test_101 : decode cX11_test 101 = .ok (.getfield 140, 3) := by decide +kernel
theorem dX11_test_104 : decode cX11_test 104 = .ok (.ireturn, 1) := by decide +kernel
set_option maxRecDepth 20000 in
theorem ggX11_who_X9_handsByTests : GoodIn wsX11_who wsX9_handsByTests := goodIn_r _ [7, 8, 9, 10, 11, 6, 12, 13, 14, 15, 16, 17, 18, 19, 20, 21, 22, 23, 24, 25, 26, 27, 28, 29, 30, 31, 32, 33, 34, 35, 36, 37, 38, 39, 40, 41, 42, 43, 44, 45, 46, 47, 48, 49, 50, 51, 52, 53, 54, 55, 56, 57, 58, 59, 60, 61, 62, 63, 64, 65, 66, 67, 68, 69, 70, 71, 72, 73, 130, 131, 132, 133, 134, 101, 102, 103, 104, 105, 106, 107, 108, 109, 110, 111, 112, 113, 114, 115, 116, 117, 118, 119, 120, 121, 122, 123, 124, 125, 126, 127, 128, 129, 135, 136, 137, 138, 139, 140, 141, 142, 143, 144, 145, 146] (by decide +kernel) (by decide +kernel)
set_option maxRecDepth 20000 in
theorem gX11_who_X9_handsByTests : GoodIn wsX11_who (wsV RX11 359 RX9 yX9_handsByTests wsX9_handsByTests) := goodIn_app (goodIn_of _ (by decide +kernel)) ggX11_who_X9_handsByTests
set_option maxRecDepth 20000 in
theorem ggX11_who_J6_bitCount_0f7a4 : GoodIn wsX11_who wsJ6_bitCount_0f7a4 := goodIn_r _ [77, 78, 79, 80] (by decide +kernel) (by decide +kernel)
set_option maxRecDepth 20000 in
theorem gX11_who_J6_bitCount_0f7a4 : GoodIn wsX11_who (va_wsS RX11 347 yJ6_bitCount_0f7a4 wsJ6_bitCount_0f7a4) := goodIn_app (goodIn_of _ (by decide +kernel)) ggX11_who_J6_bitCount_0f7a4
set_option maxRecDepth 20000 in
theorem ggX11_who_J6_numberOfTrailingZeros_0f7a4 : GoodIn wsX11_who wsJ6_numberOfTrailingZeros_0f7a4 := goodIn_r _ [83, 84] (by decide +kernel) (by decide +kernel)
set_option maxRecDepth 20000 in
theorem gX11_who_J6_numberOfTrailingZeros_0f7a4 : GoodIn wsX11_who (va_wsS RX11 362 yJ6_numberOfTrailingZeros_0f7a4 wsJ6_numberOfTrailingZeros_0f7a4) := goodIn_app (goodIn_of _ (by decide +kernel)) ggX11_who_J6_numberOfTrailingZeros_0f7a4
theorem dX11_who_0 : decode cX11_who 0 = .ok (.aload_n 0, 1) := by decide +kernel
theorem dX11_who_1 : decode cX11_who 1 = .ok (.getfield 19, 3) := by decide +kernel
theorem dX11_who_4 : decode cX11_who 4 = .ok (.getfield 57, 3) := by decide +kernel
theorem dX11_who_7 : decode cX11_who 7 = .ok (.getfield 166, 3) := by decide +kernel
theorem dX11_who_10 : decode cX11_who 10 = .ok (.ifCond .eq 12, 3) := by decide +kernel
theorem dX11_who_13 : decode cX11_who 13 = .ok (.iload_n 1, 1) := by decide +kernel
theorem dX11_who_14 : decode cX11_who 14 = .ok (.ifCond .lt 8, 3) := by decide +kernel
theorem dX11_who_17 : decode cX11_who 17 = .ok (.iload_n 1, 1) := by decide +kernel
theorem dX11_who_18 : decode cX11_who 18 = .ok (.iconst 2, 1) := by decide +kernel
theorem dX11_who_19 : decode cX11_who 19 = .ok (.if_icmp .le 5, 3) := by decide +kernel
theorem dX11_who_22 : decode cX11_who 22 = .ok (.iconst (-1), 1) := by decide +kernel
theorem dX11_who_23 : decode cX11_who 23 = .ok (.ireturn, 1) := by decide +kernel
theorem dX11_who_24 : decode cX11_who 24 = .ok (.aload_n 0, 1) := by decide +kernel
theorem dX11_who_25 : decode cX11_who 25 = .ok (.getfield 96, 3) := by decide +kernel
theorem dX11_who_28 : decode cX11_who 28 = .ok (.invokevirtual 359, 3) := by decide +kernel
theorem dX11_who_31 : decode cX11_who 31 = .ok (.istore_n 2, 1) := by decide +kernel
theorem dX11_who_32 : decode cX11_who 32 = .ok (.iload_n 1, 1) := by decide +kernel
theorem dX11_who_33 : decode cX11_who 33 = .ok (.lookupswitch 46 #[(0, 27), (1, 32)], 27) := by decide +kernel
theorem dX11_who_60 : decode cX11_who 60 = .ok (.iload_n 2, 1) := by decide +kernel
theorem dX11_who_61 : decode cX11_who 61 = .ok (.invokestatic 347, 3) := by decide +kernel
theorem dX11_who_64 : decode cX11_who 64 = .ok (.ireturn, 1) := by decide +kernel
theorem dX11_who_65 : decode cX11_who 65 = .ok (.iload_n 2, 1) := by decide +kernel
theorem dX11_who_66 : decode cX11_who 66 = .ok (.ifCond .ne 8, 3) := by decide +kernel
theorem dX11_who_69 : decode cX11_who 69 = .ok (.bipush (-2), 2) := by decide +kernel
theorem dX11_who_71 : decode cX11_who 71 = .ok (.goto 7, 3) := by decide +kernel
theorem dX11_who_74 : decode cX11_who 74 = .ok (.iload_n 2, 1) := by decide +kernel
theorem dX11_who_75 : decode cX11_who 75 = .ok (.invokestatic 362, 3) := by decide +kernel
theorem dX11_who_78 : decode cX11_who 78 = .ok (.ireturn, 1) := by decide +kernel
theorem dX11_who_79 : decode cX11_who 79 = .ok (.iload_n 2, 1) := by decide +kernel
theorem dX11_who_80 : decode cX11_who 80 = .ok (.ireturn, 1) := by decide +kernel
set_option maxRecDepth 20000 in
theorem ggX11_probe_X9_handsByTests : GoodIn wsX11_probe wsX9_handsByTests := goodIn_r _ [7, 8, 9, 10, 11, 6, 12, 13, 14, 15, 16, 17, 18, 19, 20, 21, 22, 23, 24, 25, 26, 27, 28, 29, 30, 31, 32, 33, 34, 35, 36, 37, 38, 39, 40, 41, 42, 43, 44, 45, 46, 47, 48, 49, 50, 51, 52, 53, 54, 55, 56, 57, 58, 59, 60, 61, 62, 63, 64, 65, 66, 67, 68, 69, 70, 71, 72, 73, 133, 134, 135, 136, 137, 104, 105, 106, 107, 108, 109, 110, 111, 112, 113, 114, 115, 116, 117, 118, 119, 120, 121, 122, 123, 124, 125, 126, 127, 128, 129, 130, 131, 132, 138, 139, 140, 141, 142, 143, 144, 145, 146, 147, 148, 149] (by decide +kernel) (by decide +kernel)
set_option maxRecDepth 20000 in
theorem gX11_probe_X9_handsByTests : GoodIn wsX11_probe (wsV RX11 359 RX9 yX9_handsByTests wsX9_handsByTests) := goodIn_app (goodIn_of _ (by decide +kernel)) ggX11_probe_X9_handsByTests
set_option maxRecDepth 20000 in
theorem ggX11_probe_X9_findBestProbe : GoodIn wsX11_probe wsX9_findBestProbe := goodIn_r _ [77, 8, 13, 78, 79, 80, 14, 15, 16, 17, 18, 19, 20, 21, 22, 23, 24, 25, 26, 27, 28, 29, 30, 31, 32, 33, 34, 35, 36, 37, 38, 39, 40, 41, 42, 43, 44, 45, 46, 47, 48, 49, 50, 51, 52, 53, 54, 55, 56, 57, 58, 59, 60, 61, 62, 63, 64, 65, 66, 67, 68, 69, 70, 71, 72, 73, 81, 82, 83, 6, 84, 85, 86, 87, 133, 134, 135, 136, 137, 104, 105, 106, 107, 108, 109, 110, 111, 112, 113, 114, 115, 116, 117, 118, 119, 120, 121, 122, 123, 124, 125, 126, 127, 128, 129, 130, 131, 132, 150, 151, 152, 153, 154, 155, 156, 157, 158, 138, 139, 140, 141, 142, 143, 144, 145, 146, 147, 148, 149] (by decide +kernel) (by decide +kernel)
set_option maxRecDepth 20000 in
theorem gX11_probe_X9_findBestProbe : GoodIn wsX11_probe (wsV RX11 365 RX9 yX9_findBestProbe wsX9_findBestProbe) := goodIn_app (goodIn_of _ (by decide +kernel)) ggX11_probe_X9_findBestProbe
theorem dX11_probe_0 : decode cX11_probe 0 = .ok (.aload_n 0, 1) := by decide +kernel
theorem dX11_probe_1 : decode cX11_probe 1 = .ok (.getfield 19, 3) := by decide +kernel
theorem dX11_probe_4 : decode cX11_probe 4 = .ok (.getfield 57, 3) := by decide +kernel
theorem dX11_probe_7 : decode cX11_probe 7 = .ok (.getfield 166, 3) := by decide +kernel
theorem dX11_probe_10 : decode cX11_probe 10 = .ok (.ifCond .eq 12, 3) := by decide +kernel
theorem dX11_probe_13 : decode cX11_probe 13 = .ok (.iload_n 1, 1) := by decide +kernel
theorem dX11_probe_14 : decode cX11_probe 14 = .ok (.ifCond .lt 8, 3) := by decide +kernel
theorem dX11_probe_17 : decode cX11_probe 17 = .ok (.iload_n 1, 1) := by decide +kernel
theorem dX11_probe_18 : decode cX11_probe 18 = .ok (.iconst 1, 1) := by decide +kernel
theorem dX11_probe_19 : decode cX11_probe 19 = .ok (.if_icmp .le 5, 3) := by decide +kernel
theorem dX11_probe_22 : decode cX11_probe 22 = .ok (.iconst (-1), 1) := by decide +kernel
theorem dX11_probe_23 : decode cX11_probe 23 = .ok (.ireturn, 1) := by decide +kernel
theorem dX11_probe_24 : decode cX11_probe 24 = .ok (.aload_n 0, 1) := by decide +kernel
theorem dX11_probe_25 : decode cX11_probe 25 = .ok (.getfield 96, 3) := by decide +kernel
theorem dX11_probe_28 : decode cX11_probe 28 = .ok (.invokevirtual 359, 3) := by decide +kernel
theorem dX11_probe_31 : decode cX11_probe 31 = .ok (.istore_n 2, 1) := by decide +kernel
theorem dX11_probe_32 : decode cX11_probe 32 = .ok (.iload_n 2, 1) := by decide +kernel
theorem dX11_probe_33 : decode cX11_probe 33 = .ok (.ifCond .ne 6, 3) := by decide +kernel
theorem dX11_probe_36 : decode cX11_probe 36 = .ok (.bipush (-2), 2) := by decide +kernel
theorem dX11_probe_38 : decode cX11_probe 38 = .ok (.ireturn, 1) := by decide +kernel
theorem dX11_probe_39 : decode cX11_probe 39 = .ok (.aload_n 0, 1) := by decide +kernel
theorem dX11_probe_40 : decode cX11_probe 40 = .ok (.getfield 96, 3) := by decide +kernel
theorem dX11_probe_43 : decode cX11_probe 43 = .ok (.iload_n 2, 1) := by decide +kernel
theorem dX11_probe_44 : decode cX11_probe 44 = .ok (.invokevirtual 365, 3) := by decide +kernel
theorem dX11_probe_47 : decode cX11_probe 47 = .ok (.iload_n 1, 1) := by decide +kernel
theorem dX11_probe_48 : decode cX11_probe 48 = .ok (.ifCond .ne 13, 3) := by decide +kernel
theorem dX11_probe_51 : decode cX11_probe 51 = .ok (.aload_n 0, 1) := by decide +kernel
theorem dX11_probe_52 : decode cX11_probe 52 = .ok (.getfield 96, 3) := by decide +kernel
theorem dX11_probe_55 : decode cX11_probe 55 = .ok (.getfield 368, 3) := by decide +kernel
theorem dX11_probe_58 : decode cX11_probe 58 = .ok (.goto 10, 3) := by decide +kernel
theorem dX11_probe_61 : decode cX11_probe 61 = .ok (.aload_n 0, 1) := by decide +kernel
theorem dX11_probe_62 : decode cX11_probe 62 = .ok (.getfield 96, 3) := by decide +kernel
theorem dX11_probe_65 : decode cX11_probe 65 = .ok (.getfield 371, 3) := by decide +kernel
theorem dX11_probe_68 : decode cX11_probe 68 = .ok (.ireturn, 1) := by decide +kernel
set_option maxRecDepth 20000 in
theorem ggX11_rows_X6_countRows : GoodIn wsX11_rows wsX6_countRows := goodIn_r _ [7, 8, 9, 10, 11, 12, 13, 14, 15, 16, 17, 18, 19, 20, 6, 21, 80, 81, 82, 61, 62, 63, 64, 65, 66, 67, 68, 69, 70, 71, 72, 73, 74, 75, 76, 77, 78, 79] (by decide +kernel) (by decide +kernel)
set_option maxRecDepth 20000 in
theorem gX11_rows_X6_countRows : GoodIn wsX11_rows (wsV RX11 374 RX6 yX6_countRows wsX6_countRows) := goodIn_app (goodIn_of _ (by decide +kernel)) ggX11_rows_X6_countRows
set_option maxRecDepth 20000 in
theorem ggX11_rows_X6_rowsOf : GoodIn wsX11_rows wsX6_rowsOf := goodIn_r _ [21, 8, 80, 81, 82] (by decide +kernel) (by decide +kernel)
set_option maxRecDepth 20000 in
theorem gX11_rows_X6_rowsOf : GoodIn wsX11_rows (wsV RX11 377 RX6 yX6_rowsOf wsX6_rowsOf) := goodIn_app (goodIn_of _ (by decide +kernel)) ggX11_rows_X6_rowsOf
set_option maxRecDepth 20000 in
theorem ggX11_rows_X6_handInFirstRow : GoodIn wsX11_rows wsX6_handInFirstRow := goodIn_r _ [26, 9, 27, 28, 29, 6, 30, 18, 19, 20, 21, 8, 80, 81, 82, 61, 62, 63, 64, 65, 66, 67, 68, 69, 70, 71, 72, 73, 74, 75, 76, 77, 78, 79] (by decide +kernel) (by decide +kernel)
set_option maxRecDepth 20000 in
theorem gX11_rows_X6_handInFirstRow : GoodIn wsX11_rows (wsV RX11 380 RX6 yX6_handInFirstRow wsX6_handInFirstRow) := goodIn_app (goodIn_of _ (by decide +kernel)) ggX11_rows_X6_handInFirstRow
set_option maxRecDepth 20000 in
theorem ggX11_rows_X6_handsInRows : GoodIn wsX11_rows wsX6_handsInRows := goodIn_r _ [34, 9, 18, 19, 20, 6, 21, 8, 80, 81, 82, 61, 62, 63, 64, 65, 66, 67, 68, 69, 70, 71, 72, 73, 74, 75, 76, 77, 78, 79] (by decide +kernel) (by decide +kernel)
set_option maxRecDepth 20000 in
theorem gX11_rows_X6_handsInRows : GoodIn wsX11_rows (wsV RX11 383 RX6 yX6_handsInRows wsX6_handsInRows) := goodIn_app (goodIn_of _ (by decide +kernel)) ggX11_rows_X6_handsInRows
theorem dX11_rows_0 : decode cX11_rows 0 = .ok (.iload_n 3, 1) := by decide +kernel
theorem dX11_rows_1 : decode cX11_rows 1 = .ok (.ifCond .lt 13, 3) := by decide +kernel
theorem dX11_rows_4 : decode cX11_rows 4 = .ok (.iload_n 3, 1) := by decide +kernel
theorem dX11_rows_5 : decode cX11_rows 5 = .ok (.bipush 11, 2) := by decide +kernel
theorem dX11_rows_7 : decode cX11_rows 7 = .ok (.if_icmp .gt 7, 3) := by decide +kernel
theorem dX11_rows_10 : decode cX11_rows 10 = .ok (.iconst 1, 1) := by decide +kernel
theorem dX11_rows_11 : decode cX11_rows 11 = .ok (.goto 4, 3) := by decide +kernel
theorem dX11_rows_14 : decode cX11_rows 14 = .ok (.iconst 0, 1) := by decide +kernel
theorem dX11_rows_15 : decode cX11_rows 15 = .ok (.istore 4, 2) := by decide +kernel
theorem dX11_rows_17 : decode cX11_rows 17 = .ok (.iload_n 3, 1) := by decide +kernel
theorem dX11_rows_18 : decode cX11_rows 18 = .ok (.bipush 20, 2) := by decide +kernel
theorem dX11_rows_20 : decode cX11_rows 20 = .ok (.if_icmp .lt 13, 3) := by decide +kernel
theorem dX11_rows_23 : decode cX11_rows 23 = .ok (.iload_n 3, 1) := by decide +kernel
theorem dX11_rows_24 : decode cX11_rows 24 = .ok (.bipush 31, 2) := by decide +kernel
theorem dX11_rows_26 : decode cX11_rows 26 = .ok (.if_icmp .gt 7, 3) := by decide +kernel
theorem dX11_rows_29 : decode cX11_rows 29 = .ok (.iconst 1, 1) := by decide +kernel
theorem dX11_rows_30 : decode cX11_rows 30 = .ok (.goto 4, 3) := by decide +kernel
theorem dX11_rows_33 : decode cX11_rows 33 = .ok (.iconst 0, 1) := by decide +kernel
theorem dX11_rows_34 : decode cX11_rows 34 = .ok (.istore 5, 2) := by decide +kernel
theorem dX11_rows_36 : decode cX11_rows 36 = .ok (.aload_n 0, 1) := by decide +kernel
theorem dX11_rows_37 : decode cX11_rows 37 = .ok (.getfield 19, 3) := by decide +kernel
theorem dX11_rows_40 : decode cX11_rows 40 = .ok (.getfield 57, 3) := by decide +kernel
theorem dX11_rows_43 : decode cX11_rows 43 = .ok (.getfield 166, 3) := by decide +kernel
theorem dX11_rows_46 : decode cX11_rows 46 = .ok (.ifCond .eq 25, 3) := by decide +kernel
theorem dX11_rows_49 : decode cX11_rows 49 = .ok (.iload_n 1, 1) := by decide +kernel
theorem dX11_rows_50 : decode cX11_rows 50 = .ok (.iconst 1, 1) := by decide +kernel
theorem dX11_rows_51 : decode cX11_rows 51 = .ok (.if_icmp .lt 20, 3) := by decide +kernel
theorem dX11_rows_54 : decode cX11_rows 54 = .ok (.iload_n 1, 1) := by decide +kernel
theorem dX11_rows_55 : decode cX11_rows 55 = .ok (.bipush 12, 2) := by decide +kernel
theorem dX11_rows_57 : decode cX11_rows 57 = .ok (.if_icmp .gt 14, 3) := by decide +kernel
theorem dX11_rows_60 : decode cX11_rows 60 = .ok (.iload_n 2, 1) := by decide +kernel
theorem dX11_rows_61 : decode cX11_rows 61 = .ok (.ifCond .lt 10, 3) := by decide +kernel
theorem dX11_rows_64 : decode cX11_rows 64 = .ok (.iload_n 2, 1) := by decide +kernel
theorem dX11_rows_65 : decode cX11_rows 65 = .ok (.sipush 300, 3) := by decide +kernel
theorem dX11_rows_68 : decode cX11_rows 68 = .ok (.if_icmp .le 6, 3) := by decide +kernel
theorem dX11_rows_71 : decode cX11_rows 71 = .ok (.bipush (-3), 2) := by decide +kernel
theorem dX11_rows_73 : decode cX11_rows 73 = .ok (.ireturn, 1) := by decide +kernel
theorem dX11_rows_74 : decode cX11_rows 74 = .ok (.iload_n 3, 1) := by decide +kernel
theorem dX11_rows_75 : decode cX11_rows 75 = .ok (.iconst (-1), 1) := by decide +kernel
theorem dX11_rows_76 : decode cX11_rows 76 = .ok (.if_icmp .eq 16, 3) := by decide +kernel
theorem dX11_rows_79 : decode cX11_rows 79 = .ok (.iload 4, 2) := by decide +kernel
theorem dX11_rows_81 : decode cX11_rows 81 = .ok (.ifCond .ne 11, 3) := by decide +kernel
theorem dX11_rows_84 : decode cX11_rows 84 = .ok (.iload 5, 2) := by decide +kernel
theorem dX11_rows_86 : decode cX11_rows 86 = .ok (.ifCond .ne 6, 3) := by decide +kernel
theorem dX11_rows_89 : decode cX11_rows 89 = .ok (.bipush (-3), 2) := by decide +kernel
theorem dX11_rows_91 : decode cX11_rows 91 = .ok (.ireturn, 1) := by decide +kernel
theorem dX11_rows_92 : decode cX11_rows 92 = .ok (.aload_n 0, 1) := by decide +kernel
theorem dX11_rows_93 : decode cX11_rows 93 = .ok (.getfield 87, 3) := by decide +kernel
theorem dX11_rows_96 : decode cX11_rows 96 = .ok (.iload_n 1, 1) := by decide +kernel
theorem dX11_rows_97 : decode cX11_rows 97 = .ok (.iload_n 2, 1) := by decide +kernel
theorem dX11_rows_98 : decode cX11_rows 98 = .ok (.invokevirtual 374, 3) := by decide +kernel
theorem dX11_rows_101 : decode cX11_rows 101 = .ok (.aload_n 0, 1) := by decide +kernel
theorem dX11_rows_102 : decode cX11_rows 102 = .ok (.getfield 87, 3) := by decide +kernel
theorem dX11_rows_105 : decode cX11_rows 105 = .ok (.iload_n 1, 1) := by decide +kernel
theorem dX11_rows_106 : decode cX11_rows 106 = .ok (.iload_n 2, 1) := by decide +kernel
theorem dX11_rows_107 : decode cX11_rows 107 = .ok (.invokevirtual 377, 3) := by decide +kernel
theorem dX11_rows_110 : decode cX11_rows 110 = .ok (.istore 6, 2) := by decide +kernel
theorem dX11_rows_112 : decode cX11_rows 112 = .ok (.iload_n 3, 1) := by decide +kernel
theorem dX11_rows_113 : decode cX11_rows 113 = .ok (.iconst (-1), 1) := by decide +kernel
theorem dX11_rows_114 : decode cX11_rows 114 = .ok (.if_icmp .ne 6, 3) := by decide +kernel
theorem dX11_rows_117 : decode cX11_rows 117 = .ok (.iload 6, 2) := by decide +kernel
theorem dX11_rows_119 : decode cX11_rows 119 = .ok (.ireturn, 1) := by decide +kernel
theorem dX11_rows_120 : decode cX11_rows 120 = .ok (.iload 4, 2) := by decide +kernel
theorem dX11_rows_122 : decode cX11_rows 122 = .ok (.ifCond .eq 7, 3) := by decide +kernel
theorem dX11_rows_125 : decode cX11_rows 125 = .ok (.iload_n 3, 1) := by decide +kernel
theorem dX11_rows_126 : decode cX11_rows 126 = .ok (.goto 7, 3) := by decide +kernel
theorem dX11_rows_129 : decode cX11_rows 129 = .ok (.iload_n 3, 1) := by decide +kernel
theorem dX11_rows_130 : decode cX11_rows 130 = .ok (.bipush 20, 2) := by decide +kernel
theorem dX11_rows_132 : decode cX11_rows 132 = .ok (.isub, 1) := by decide +kernel
theorem dX11_rows_133 : decode cX11_rows 133 = .ok (.istore 7, 2) := by decide +kernel
theorem dX11_rows_135 : decode cX11_rows 135 = .ok (.iload 6, 2) := by decide +kernel
theorem dX11_rows_137 : decode cX11_rows 137 = .ok (.ifCond .eq 9, 3) := by decide +kernel
theorem dX11_rows_140 : decode cX11_rows 140 = .ok (.iload 7, 2) := by decide +kernel
theorem dX11_rows_142 : decode cX11_rows 142 = .ok (.iload_n 1, 1) := by decide +kernel
theorem dX11_rows_143 : decode cX11_rows 143 = .ok (.if_icmp .lt 6, 3) := by decide +kernel
theorem dX11_rows_146 : decode cX11_rows 146 = .ok (.bipush (-2), 2) := by decide +kernel
theorem dX11_rows_148 : decode cX11_rows 148 = .ok (.ireturn, 1) := by decide +kernel
theorem dX11_rows_149 : decode cX11_rows 149 = .ok (.iload 4, 2) := by decide +kernel
theorem dX11_rows_151 : decode cX11_rows 151 = .ok (.ifCond .eq 17, 3) := by decide +kernel
theorem dX11_rows_154 : decode cX11_rows 154 = .ok (.aload_n 0, 1) := by decide +kernel
theorem dX11_rows_155 : decode cX11_rows 155 = .ok (.getfield 87, 3) := by decide +kernel
theorem dX11_rows_158 : decode cX11_rows 158 = .ok (.iload_n 1, 1) := by decide +kernel
theorem dX11_rows_159 : decode cX11_rows 159 = .ok (.iload_n 2, 1) := by decide +kernel
theorem dX11_rows_160 : decode cX11_rows 160 = .ok (.iload 7, 2) := by decide +kernel
theorem dX11_rows_162 : decode cX11_rows 162 = .ok (.invokevirtual 380, 3) := by decide +kernel
theorem dX11_rows_165 : decode cX11_rows 165 = .ok (.goto 14, 3) := by decide +kernel
theorem dX11_rows_168 : decode cX11_rows 168 = .ok (.aload_n 0, 1) := by decide +kernel
theorem dX11_rows_169 : decode cX11_rows 169 = .ok (.getfield 87, 3) := by decide +kernel
theorem dX11_rows_172 : decode cX11_rows 172 = .ok (.iload_n 1, 1) := by decide +kernel
theorem dX11_rows_173 : decode cX11_rows 173 = .ok (.iload_n 2, 1) := by decide +kernel
theorem dX11_rows_174 : decode cX11_rows 174 = .ok (.iload 7, 2) := by decide +kernel
theorem dX11_rows_176 : decode cX11_rows 176 = .ok (.invokevirtual 383, 3) := by decide +kernel
theorem dX11_rows_179 : decode cX11_rows 179 = .ok (.ireturn, 1) := by decide +kernel
set_option maxRecDepth 20000 in
theorem ggX11_ice_X5_become : GoodIn wsX11_ice wsX5_become := goodIn_r _ [9, 10, 11, 12, 13, 14, 15, 16, 17, 18, 19, 20, 21, 22, 193, 194, 195, 196, 197, 198, 199, 200, 201] (by decide +kernel) (by decide +kernel)
set_option maxRecDepth 20000 in
theorem gX11_ice_X5_become : GoodIn wsX11_ice (wsV RX11 137 RX5 yX5_become wsX5_become) := goodIn_app (goodIn_of _ (by decide +kernel)) ggX11_ice_X5_become
set_option maxRecDepth 20000 in
theorem ggX11_ice_X1_passSeveral : GoodIn wsX11_ice wsX1_passSeveral := goodIn_r _ [27, 28, 29, 30, 26, 31, 32, 33, 34, 35, 36, 37, 38, 39, 40, 41, 42, 43, 44, 45, 46, 47, 8, 48, 19, 49, 50, 51, 52, 53, 54, 55, 56, 57, 58, 59, 60, 61, 62, 63, 64, 65, 66, 67, 68, 20, 69, 70, 71, 72, 73, 74, 75, 76, 77, 78, 79, 80, 81, 82, 83, 17, 84, 85, 86, 87, 88, 89, 90, 91, 92, 93, 94, 95, 96, 97, 98, 99, 100, 101, 102, 103, 104, 105, 106, 107, 108, 109, 110, 111, 112, 113, 114, 115, 116, 117, 118, 119, 120, 121, 122, 123, 124, 125, 126, 127, 128, 18, 129, 130, 202, 203, 204, 162, 163, 164, 165, 166, 167, 168, 169, 170, 171, 172, 173, 174, 175, 176, 177, 178, 179, 180, 193, 194, 195, 196, 197, 198, 199, 200, 201, 181, 182, 183, 184, 185, 186, 187, 188, 189, 190, 191, 192] (by decide +kernel) (by decide +kernel)
set_option maxRecDepth 20000 in
theorem gX11_ice_X1_passSeveral : GoodIn wsX11_ice (wsV RX11 289 RX1 yX1_passSeveral wsX1_passSeveral) := goodIn_app (goodIn_of _ (by decide +kernel)) ggX11_ice_X1_passSeveral
set_option maxRecDepth 20000 in
theorem ggX11_ice_X5_turnedTogether : GoodIn wsX11_ice wsX5_turnedTogether := goodIn_r _ [134, 21, 135, 66, 67, 8, 68, 19, 20, 193, 194, 195, 196, 197, 198, 199, 200, 201] (by decide +kernel) (by decide +kernel)
set_option maxRecDepth 20000 in
theorem gX11_ice_X5_turnedTogether : GoodIn wsX11_ice (wsV RX11 386 RX5 yX5_turnedTogether wsX5_turnedTogether) := goodIn_app (goodIn_of _ (by decide +kernel)) ggX11_ice_X5_turnedTogether
theorem dX11_ice_0 : decode cX11_ice 0 = .ok (.aload_n 0, 1) := by decide +kernel
theorem dX11_ice_1 : decode cX11_ice 1 = .ok (.getfield 19, 3) := by decide +kernel
theorem dX11_ice_4 : decode cX11_ice 4 = .ok (.getfield 57, 3) := by decide +kernel
theorem dX11_ice_7 : decode cX11_ice 7 = .ok (.getfield 166, 3) := by decide +kernel
theorem dX11_ice_10 : decode cX11_ice 10 = .ok (.ifCond .eq 14, 3) := by decide +kernel
theorem dX11_ice_13 : decode cX11_ice 13 = .ok (.iload_n 1, 1) := by decide +kernel
theorem dX11_ice_14 : decode cX11_ice 14 = .ok (.iconst 1, 1) := by decide +kernel
theorem dX11_ice_15 : decode cX11_ice 15 = .ok (.if_icmp .lt 9, 3) := by decide +kernel
theorem dX11_ice_18 : decode cX11_ice 18 = .ok (.iload_n 1, 1) := by decide +kernel
theorem dX11_ice_19 : decode cX11_ice 19 = .ok (.bipush 60, 2) := by decide +kernel
theorem dX11_ice_21 : decode cX11_ice 21 = .ok (.if_icmp .le 5, 3) := by decide +kernel
theorem dX11_ice_24 : decode cX11_ice 24 = .ok (.iconst (-1), 1) := by decide +kernel
theorem dX11_ice_25 : decode cX11_ice 25 = .ok (.ireturn, 1) := by decide +kernel
theorem dX11_ice_26 : decode cX11_ice 26 = .ok (.aload_n 0, 1) := by decide +kernel
theorem dX11_ice_27 : decode cX11_ice 27 = .ok (.getfield 101, 3) := by decide +kernel
theorem dX11_ice_30 : decode cX11_ice 30 = .ok (.aload_n 0, 1) := by decide +kernel
theorem dX11_ice_31 : decode cX11_ice 31 = .ok (.getfield 19, 3) := by decide +kernel
theorem dX11_ice_34 : decode cX11_ice 34 = .ok (.getfield 133, 3) := by decide +kernel
theorem dX11_ice_37 : decode cX11_ice 37 = .ok (.invokevirtual 137, 3) := by decide +kernel
theorem dX11_ice_40 : decode cX11_ice 40 = .ok (.aload_n 0, 1) := by decide +kernel
theorem dX11_ice_41 : decode cX11_ice 41 = .ok (.getfield 73, 3) := by decide +kernel
theorem dX11_ice_44 : decode cX11_ice 44 = .ok (.aload_n 0, 1) := by decide +kernel
theorem dX11_ice_45 : decode cX11_ice 45 = .ok (.getfield 101, 3) := by decide +kernel
theorem dX11_ice_48 : decode cX11_ice 48 = .ok (.iload_n 1, 1) := by decide +kernel
theorem dX11_ice_49 : decode cX11_ice 49 = .ok (.invokevirtual 289, 3) := by decide +kernel
theorem dX11_ice_52 : decode cX11_ice 52 = .ok (.aload_n 0, 1) := by decide +kernel
theorem dX11_ice_53 : decode cX11_ice 53 = .ok (.getfield 101, 3) := by decide +kernel
theorem dX11_ice_56 : decode cX11_ice 56 = .ok (.invokevirtual 386, 3) := by decide +kernel
theorem dX11_ice_59 : decode cX11_ice 59 = .ok (.istore_n 2, 1) := by decide +kernel
theorem dX11_ice_60 : decode cX11_ice 60 = .ok (.aload_n 0, 1) := by decide +kernel
theorem dX11_ice_61 : decode cX11_ice 61 = .ok (.getfield 101, 3) := by decide +kernel
theorem dX11_ice_64 : decode cX11_ice 64 = .ok (.aload_n 0, 1) := by decide +kernel
theorem dX11_ice_65 : decode cX11_ice 65 = .ok (.getfield 19, 3) := by decide +kernel
theorem dX11_ice_68 : decode cX11_ice 68 = .ok (.getfield 133, 3) := by decide +kernel
theorem dX11_ice_71 : decode cX11_ice 71 = .ok (.invokevirtual 137, 3) := by decide +kernel
theorem dX11_ice_74 : decode cX11_ice 74 = .ok (.aload_n 0, 1) := by decide +kernel
theorem dX11_ice_75 : decode cX11_ice 75 = .ok (.getfield 64, 3) := by decide +kernel
theorem dX11_ice_78 : decode cX11_ice 78 = .ok (.iconst 1, 1) := by decide +kernel
theorem dX11_ice_79 : decode cX11_ice 79 = .ok (.putfield 389, 3) := by decide +kernel
theorem dX11_ice_82 : decode cX11_ice 82 = .ok (.aload_n 0, 1) := by decide +kernel
theorem dX11_ice_83 : decode cX11_ice 83 = .ok (.getfield 73, 3) := by decide +kernel
theorem dX11_ice_86 : decode cX11_ice 86 = .ok (.aload_n 0, 1) := by decide +kernel
theorem dX11_ice_87 : decode cX11_ice 87 = .ok (.getfield 101, 3) := by decide +kernel
theorem dX11_ice_90 : decode cX11_ice 90 = .ok (.iload_n 1, 1) := by decide +kernel
theorem dX11_ice_91 : decode cX11_ice 91 = .ok (.invokevirtual 289, 3) := by decide +kernel
theorem dX11_ice_94 : decode cX11_ice 94 = .ok (.aload_n 0, 1) := by decide +kernel
theorem dX11_ice_95 : decode cX11_ice 95 = .ok (.getfield 64, 3) := by decide +kernel
theorem dX11_ice_98 : decode cX11_ice 98 = .ok (.iconst 0, 1) := by decide +kernel
theorem dX11_ice_99 : decode cX11_ice 99 = .ok (.putfield 389, 3) := by decide +kernel
theorem dX11_ice_102 : decode cX11_ice 102 = .ok (.iload_n 2, 1) := by decide +kernel
theorem dX11_ice_103 : decode cX11_ice 103 = .ok (.aload_n 0, 1) := by decide +kernel
theorem dX11_ice_104 : decode cX11_ice 104 = .ok (.getfield 101, 3) := by decide +kernel
theorem dX11_ice_107 : decode cX11_ice 107 = .ok (.invokevirtual 386, 3) := by decide +kernel
theorem dX11_ice_110 : decode cX11_ice 110 = .ok (.isub, 1) := by decide +kernel
theorem dX11_ice_111 : decode cX11_ice 111 = .ok (.ireturn, 1) := by decide +kernel
theorem dX11_seed_0 : decode cX11_seed 0 = .ok (.iload_n 1, 1) := by decide +kernel
theorem dX11_seed_1 : decode cX11_seed 1 = .ok (.ifCond .ge 5, 3) := by decide +kernel
theorem dX11_seed_4 : decode cX11_seed 4 = .ok (.iconst (-1), 1) := by decide +kernel
theorem dX11_seed_5 : decode cX11_seed 5 = .ok (.ireturn, 1) := by decide +kernel
theorem dX11_seed_6 : decode cX11_seed 6 = .ok (.aload_n 0, 1) := by decide +kernel
theorem dX11_seed_7 : decode cX11_seed 7 = .ok (.getfield 19, 3) := by decide +kernel
theorem dX11_seed_10 : decode cX11_seed 10 = .ok (.getfield 393, 3) := by decide +kernel
theorem dX11_seed_13 : decode cX11_seed 13 = .ok (.istore_n 2, 1) := by decide +kernel
theorem dX11_seed_14 : decode cX11_seed 14 = .ok (.aload_n 0, 1) := by decide +kernel
theorem dX11_seed_15 : decode cX11_seed 15 = .ok (.getfield 19, 3) := by decide +kernel
theorem dX11_seed_18 : decode cX11_seed 18 = .ok (.iload_n 1, 1) := by decide +kernel
theorem dX11_seed_19 : decode cX11_seed 19 = .ok (.putfield 393, 3) := by decide +kernel
theorem dX11_seed_22 : decode cX11_seed 22 = .ok (.iload_n 2, 1) := by decide +kernel
theorem dX11_seed_23 : decode cX11_seed 23 = .ok (.ireturn, 1) := by decide +kernel
set_option maxRecDepth 20000 in
theorem ggX11_years_X5_become : GoodIn wsX11_years wsX5_become := goodIn_r _ [8, 9, 10, 11, 12, 13, 14, 15, 16, 17, 18, 19, 20, 21, 236, 237, 238, 239, 240, 241, 242, 243, 244] (by decide +kernel) (by decide +kernel)
set_option maxRecDepth 20000 in
theorem gX11_years_X5_become : GoodIn wsX11_years (wsV RX11 137 RX5 yX5_become wsX5_become) := goodIn_app (goodIn_of _ (by decide +kernel)) ggX11_years_X5_become
set_option maxRecDepth 20000 in
theorem ggX11_years_X1_passByDraws : GoodIn wsX11_years wsX1_passByDraws := goodIn_r _ [26, 27, 28, 29, 25, 30, 31, 32, 33, 34, 7, 35, 16, 36, 37, 38, 39, 40, 41, 42, 43, 44, 45, 46, 47, 48, 11, 49, 50, 51, 52, 53, 54, 55, 56, 57, 58, 59, 60, 61, 62, 63, 64, 65, 66, 67, 68, 69, 70, 18, 71, 72, 73, 74, 75, 76, 77, 78, 79, 80, 81, 82, 83, 84, 85, 86, 87, 19, 88, 89, 90, 91, 92, 93, 94, 95, 96, 97, 98, 99, 100, 101, 102, 103, 104, 105, 106, 107, 108, 109, 110, 111, 112, 113, 114, 115, 116, 117, 118, 119, 120, 121, 122, 123, 124, 125, 126, 127, 128, 129, 130, 131, 132, 133, 134, 135, 136, 137, 138, 139, 140, 141, 142, 143, 144, 145, 146, 147, 148, 149, 150, 151, 152, 153, 154, 155, 156, 157, 158, 159, 160, 161, 162, 163, 164, 165, 166, 167, 168, 169, 170, 171, 172, 173, 174, 175, 176, 17, 177, 178, 233, 234, 235, 214, 215, 216, 217, 218, 219, 220, 221, 222, 223, 224, 225, 226, 227, 228, 229, 230, 231, 232, 236, 237, 238, 239, 240, 241, 242, 243, 244, 245, 246, 247, 248, 249, 250, 251, 252, 253, 254, 255, 256] (by decide +kernel) (by decide +kernel)
set_option maxRecDepth 20000 in
theorem gX11_years_X1_passByDraws : GoodIn wsX11_years (wsV RX11 397 RX1 yX1_passByDraws wsX1_passByDraws) := goodIn_app (goodIn_of _ (by decide +kernel)) ggX11_years_X1_passByDraws
set_option maxRecDepth 20000 in
theorem ggX11_years_X5_howManySour : GoodIn wsX11_years wsX5_howManySour := goodIn_r _ [182, 20, 183, 131, 132, 7, 133, 18, 19, 236, 237, 238, 239, 240, 241, 242, 243, 244] (by decide +kernel) (by decide +kernel)
set_option maxRecDepth 20000 in
theorem gX11_years_X5_howManySour : GoodIn wsX11_years (wsV RX11 400 RX5 yX5_howManySour wsX5_howManySour) := goodIn_app (goodIn_of _ (by decide +kernel)) ggX11_years_X5_howManySour
set_option maxRecDepth 20000 in
theorem ggX11_years_X5_turnedTogether : GoodIn wsX11_years wsX5_turnedTogether := goodIn_r _ [187, 20, 183, 131, 132, 7, 133, 18, 19, 236, 237, 238, 239, 240, 241, 242, 243, 244] (by decide +kernel) (by decide +kernel)
set_option maxRecDepth 20000 in
theorem gX11_years_X5_turnedTogether : GoodIn wsX11_years (wsV RX11 386 RX5 yX5_turnedTogether wsX5_turnedTogether) := goodIn_app (goodIn_of _ (by decide +kernel)) ggX11_years_X5_turnedTogether
theorem dX11_years_0 : decode cX11_years 0 = .ok (.aload_n 0, 1) := by decide +kernel
theorem dX11_years_1 : decode cX11_years 1 = .ok (.getfield 19, 3) := by decide +kernel
theorem dX11_years_4 : decode cX11_years 4 = .ok (.getfield 57, 3) := by decide +kernel
theorem dX11_years_7 : decode cX11_years 7 = .ok (.getfield 166, 3) := by decide +kernel
theorem dX11_years_10 : decode cX11_years 10 = .ok (.ifCond .eq 34, 3) := by decide +kernel
theorem dX11_years_13 : decode cX11_years 13 = .ok (.iload_n 1, 1) := by decide +kernel
theorem dX11_years_14 : decode cX11_years 14 = .ok (.iconst 1, 1) := by decide +kernel
theorem dX11_years_15 : decode cX11_years 15 = .ok (.if_icmp .lt 29, 3) := by decide +kernel
theorem dX11_years_18 : decode cX11_years 18 = .ok (.iload_n 1, 1) := by decide +kernel
theorem dX11_years_19 : decode cX11_years 19 = .ok (.bipush 10, 2) := by decide +kernel
theorem dX11_years_21 : decode cX11_years 21 = .ok (.if_icmp .gt 23, 3) := by decide +kernel
theorem dX11_years_24 : decode cX11_years 24 = .ok (.iload_n 2, 1) := by decide +kernel
theorem dX11_years_25 : decode cX11_years 25 = .ok (.iconst 1, 1) := by decide +kernel
theorem dX11_years_26 : decode cX11_years 26 = .ok (.if_icmp .lt 18, 3) := by decide +kernel
theorem dX11_years_29 : decode cX11_years 29 = .ok (.iload_n 2, 1) := by decide +kernel
theorem dX11_years_30 : decode cX11_years 30 = .ok (.bipush 60, 2) := by decide +kernel
theorem dX11_years_32 : decode cX11_years 32 = .ok (.if_icmp .gt 12, 3) := by decide +kernel
theorem dX11_years_35 : decode cX11_years 35 = .ok (.iload_n 3, 1) := by decide +kernel
theorem dX11_years_36 : decode cX11_years 36 = .ok (.ifCond .lt 8, 3) := by decide +kernel
theorem dX11_years_39 : decode cX11_years 39 = .ok (.iload_n 3, 1) := by decide +kernel
theorem dX11_years_40 : decode cX11_years 40 = .ok (.iconst 1, 1) := by decide +kernel
theorem dX11_years_41 : decode cX11_years 41 = .ok (.if_icmp .le 5, 3) := by decide +kernel
theorem dX11_years_44 : decode cX11_years 44 = .ok (.iconst (-1), 1) := by decide +kernel
theorem dX11_years_45 : decode cX11_years 45 = .ok (.ireturn, 1) := by decide +kernel
theorem dX11_years_46 : decode cX11_years 46 = .ok (.iconst 0, 1) := by decide +kernel
theorem dX11_years_47 : decode cX11_years 47 = .ok (.istore 4, 2) := by decide +kernel
theorem dX11_years_49 : decode cX11_years 49 = .ok (.aload_n 0, 1) := by decide +kernel
theorem dX11_years_50 : decode cX11_years 50 = .ok (.getfield 73, 3) := by decide +kernel
theorem dX11_years_53 : decode cX11_years 53 = .ok (.aload_n 0, 1) := by decide +kernel
theorem dX11_years_54 : decode cX11_years 54 = .ok (.getfield 19, 3) := by decide +kernel
theorem dX11_years_57 : decode cX11_years 57 = .ok (.getfield 393, 3) := by decide +kernel
theorem dX11_years_60 : decode cX11_years 60 = .ok (.putfield 396, 3) := by decide +kernel
theorem dX11_years_63 : decode cX11_years 63 = .ok (.iconst 0, 1) := by decide +kernel
theorem dX11_years_64 : decode cX11_years 64 = .ok (.istore 5, 2) := by decide +kernel
theorem dX11_years_66 : decode cX11_years 66 = .ok (.iload 5, 2) := by decide +kernel
theorem dX11_years_68 : decode cX11_years 68 = .ok (.iload_n 1, 1) := by decide +kernel
theorem dX11_years_69 : decode cX11_years 69 = .ok (.if_icmp .ge 71, 3) := by decide +kernel
theorem dX11_years_72 : decode cX11_years 72 = .ok (.aload_n 0, 1) := by decide +kernel
theorem dX11_years_73 : decode cX11_years 73 = .ok (.getfield 101, 3) := by decide +kernel
theorem dX11_years_76 : decode cX11_years 76 = .ok (.aload_n 0, 1) := by decide +kernel
theorem dX11_years_77 : decode cX11_years 77 = .ok (.getfield 19, 3) := by decide +kernel
theorem dX11_years_80 : decode cX11_years 80 = .ok (.getfield 133, 3) := by decide +kernel
theorem dX11_years_83 : decode cX11_years 83 = .ok (.invokevirtual 137, 3) := by decide +kernel
theorem dX11_years_86 : decode cX11_years 86 = .ok (.aload_n 0, 1) := by decide +kernel
theorem dX11_years_87 : decode cX11_years 87 = .ok (.getfield 73, 3) := by decide +kernel
theorem dX11_years_90 : decode cX11_years 90 = .ok (.aload_n 0, 1) := by decide +kernel
theorem dX11_years_91 : decode cX11_years 91 = .ok (.getfield 101, 3) := by decide +kernel
theorem dX11_years_94 : decode cX11_years 94 = .ok (.iload_n 2, 1) := by decide +kernel
theorem dX11_years_95 : decode cX11_years 95 = .ok (.invokevirtual 397, 3) := by decide +kernel
theorem dX11_years_98 : decode cX11_years 98 = .ok (.iload 4, 2) := by decide +kernel
theorem dX11_years_100 : decode cX11_years 100 = .ok (.iload_n 3, 1) := by decide +kernel
theorem dX11_years_101 : decode cX11_years 101 = .ok (.ifCond .ne 23, 3) := by decide +kernel
theorem dX11_years_104 : decode cX11_years 104 = .ok (.aload_n 0, 1) := by decide +kernel
theorem dX11_years_105 : decode cX11_years 105 = .ok (.getfield 101, 3) := by decide +kernel
theorem dX11_years_108 : decode cX11_years 108 = .ok (.aload_n 0, 1) := by decide +kernel
theorem dX11_years_109 : decode cX11_years 109 = .ok (.getfield 19, 3) := by decide +kernel
theorem dX11_years_112 : decode cX11_years 112 = .ok (.getfield 57, 3) := by decide +kernel
theorem dX11_years_115 : decode cX11_years 115 = .ok (.getfield 212, 3) := by decide +kernel
theorem dX11_years_118 : decode cX11_years 118 = .ok (.invokevirtual 400, 3) := by decide +kernel
theorem dX11_years_121 : decode cX11_years 121 = .ok (.goto 10, 3) := by decide +kernel
theorem dX11_years_124 : decode cX11_years 124 = .ok (.aload_n 0, 1) := by decide +kernel
theorem dX11_years_125 : decode cX11_years 125 = .ok (.getfield 101, 3) := by decide +kernel
theorem dX11_years_128 : decode cX11_years 128 = .ok (.invokevirtual 386, 3) := by decide +kernel
theorem dX11_years_131 : decode cX11_years 131 = .ok (.iadd, 1) := by decide +kernel
theorem dX11_years_132 : decode cX11_years 132 = .ok (.istore 4, 2) := by decide +kernel
theorem dX11_years_134 : decode cX11_years 134 = .ok (.iinc 5 1, 3) := by decide +kernel
theorem dX11_years_137 : decode cX11_years 137 = .ok (.goto (-71), 3) := by decide +kernel
theorem dX11_years_140 : decode cX11_years 140 = .ok (.iload 4, 2) := by decide +kernel
theorem dX11_years_142 : decode cX11_years 142 = .ok (.ireturn, 1) := by decide +kernel
set_option maxRecDepth 20000 in
theorem ggX11_count_X8_howMany : GoodIn wsX11_count wsX8_howMany := goodIn_r _ [9, 10, 11, 12, 13, 14, 15, 16, 65, 66, 67, 68, 69, 70, 71, 72, 73, 74, 75, 76, 77, 78, 79, 80, 81, 82, 83] (by decide +kernel) (by decide +kernel)
set_option maxRecDepth 20000 in
theorem gX11_count_X8_howMany : GoodIn wsX11_count (wsV RX11 403 RX8 yX8_howMany wsX8_howMany) := goodIn_app (goodIn_of _ (by decide +kernel)) ggX11_count_X8_howMany
set_option maxRecDepth 20000 in
theorem ggX11_count_X8_heatIn : GoodIn wsX11_count wsX8_heatIn := goodIn_r _ [20, 21, 22, 23, 24, 65, 66, 67, 68, 69, 70, 71, 72, 73, 74, 75, 76, 77, 78, 79, 80, 81, 82, 83] (by decide +kernel) (by decide +kernel)
set_option maxRecDepth 20000 in
theorem gX11_count_X8_heatIn : GoodIn wsX11_count (wsV RX11 405 RX8 yX8_heatIn wsX8_heatIn) := goodIn_app (goodIn_of _ (by decide +kernel)) ggX11_count_X8_heatIn
theorem dX11_count_0 : decode cX11_count 0 = .ok (.iload_n 1, 1) := by decide +kernel
theorem dX11_count_1 : decode cX11_count 1 = .ok (.ifCond .lt 21, 3) := by decide +kernel
theorem dX11_count_4 : decode cX11_count 4 = .ok (.iload_n 1, 1) := by decide +kernel
theorem dX11_count_5 : decode cX11_count 5 = .ok (.bipush 6, 2) := by decide +kernel
theorem dX11_count_7 : decode cX11_count 7 = .ok (.if_icmp .gt 15, 3) := by decide +kernel
theorem dX11_count_10 : decode cX11_count 10 = .ok (.aload_n 0, 1) := by decide +kernel
theorem dX11_count_11 : decode cX11_count 11 = .ok (.getfield 19, 3) := by decide +kernel
theorem dX11_count_14 : decode cX11_count 14 = .ok (.getfield 57, 3) := by decide +kernel
theorem dX11_count_17 : decode cX11_count 17 = .ok (.iload_n 1, 1) := by decide +kernel
theorem dX11_count_18 : decode cX11_count 18 = .ok (.invokevirtual 403, 3) := by decide +kernel
theorem dX11_count_21 : decode cX11_count 21 = .ok (.ireturn, 1) := by decide +kernel
theorem dX11_count_22 : decode cX11_count 22 = .ok (.iload_n 1, 1) := by decide +kernel
theorem dX11_count_23 : decode cX11_count 23 = .ok (.tableswitch 134 7 15 #[49, 54, 62, 73, 94, 105, 113, 118, 126], 49) := by decide +kernel
theorem dX11_count_72 : decode cX11_count 72 = .ok (.aload_n 0, 1) := by decide +kernel
theorem dX11_count_73 : decode cX11_count 73 = .ok (.getfield 149, 3) := by decide +kernel
theorem dX11_count_76 : decode cX11_count 76 = .ok (.ireturn, 1) := by decide +kernel
theorem dX11_count_77 : decode cX11_count 77 = .ok (.aload_n 0, 1) := by decide +kernel
theorem dX11_count_78 : decode cX11_count 78 = .ok (.getfield 19, 3) := by decide +kernel
theorem dX11_count_81 : decode cX11_count 81 = .ok (.getfield 157, 3) := by decide +kernel
theorem dX11_count_84 : decode cX11_count 84 = .ok (.ireturn, 1) := by decide +kernel
theorem dX11_count_85 : decode cX11_count 85 = .ok (.aload_n 0, 1) := by decide +kernel
theorem dX11_count_86 : decode cX11_count 86 = .ok (.getfield 19, 3) := by decide +kernel
theorem dX11_count_89 : decode cX11_count 89 = .ok (.getfield 133, 3) := by decide +kernel
theorem dX11_count_92 : decode cX11_count 92 = .ok (.getfield 252, 3) := by decide +kernel
theorem dX11_count_95 : decode cX11_count 95 = .ok (.ireturn, 1) := by decide +kernel
theorem dX11_count_96 : decode cX11_count 96 = .ok (.aload_n 0, 1) := by decide +kernel
theorem dX11_count_97 : decode cX11_count 97 = .ok (.getfield 19, 3) := by decide +kernel
theorem dX11_count_100 : decode cX11_count 100 = .ok (.getfield 57, 3) := by decide +kernel
theorem dX11_count_103 : decode cX11_count 103 = .ok (.aload_n 0, 1) := by decide +kernel
theorem dX11_count_104 : decode cX11_count 104 = .ok (.getfield 19, 3) := by decide +kernel
theorem dX11_count_107 : decode cX11_count 107 = .ok (.getfield 133, 3) := by decide +kernel
theorem dX11_count_110 : decode cX11_count 110 = .ok (.getfield 252, 3) := by decide +kernel
theorem dX11_count_113 : decode cX11_count 113 = .ok (.invokevirtual 405, 3) := by decide +kernel
theorem dX11_count_116 : decode cX11_count 116 = .ok (.ireturn, 1) := by decide +kernel
theorem dX11_count_117 : decode cX11_count 117 = .ok (.aload_n 0, 1) := by decide +kernel
theorem dX11_count_118 : decode cX11_count 118 = .ok (.getfield 19, 3) := by decide +kernel
theorem dX11_count_121 : decode cX11_count 121 = .ok (.getfield 133, 3) := by decide +kernel
theorem dX11_count_124 : decode cX11_count 124 = .ok (.getfield 286, 3) := by decide +kernel
theorem dX11_count_127 : decode cX11_count 127 = .ok (.ireturn, 1) := by decide +kernel
theorem dX11_count_128 : decode cX11_count 128 = .ok (.aload_n 0, 1) := by decide +kernel
theorem dX11_count_129 : decode cX11_count 129 = .ok (.getfield 19, 3) := by decide +kernel
theorem dX11_count_132 : decode cX11_count 132 = .ok (.getfield 140, 3) := by decide +kernel
theorem dX11_count_135 : decode cX11_count 135 = .ok (.ireturn, 1) := by decide +kernel
theorem dX11_count_136 : decode cX11_count 136 = .ok (.aload_n 0, 1) := by decide +kernel
theorem dX11_count_137 : decode cX11_count 137 = .ok (.getfield 143, 3) := by decide +kernel
theorem dX11_count_140 : decode cX11_count 140 = .ok (.ireturn, 1) := by decide +kernel
theorem dX11_count_141 : decode cX11_count 141 = .ok (.aload_n 0, 1) := by decide +kernel
theorem dX11_count_142 : decode cX11_count 142 = .ok (.getfield 19, 3) := by decide +kernel
theorem dX11_count_145 : decode cX11_count 145 = .ok (.getfield 393, 3) := by decide +kernel
theorem dX11_count_148 : decode cX11_count 148 = .ok (.ireturn, 1) := by decide +kernel
theorem dX11_count_149 : decode cX11_count 149 = .ok (.aload_n 0, 1) := by decide +kernel
theorem dX11_count_150 : decode cX11_count 150 = .ok (.getfield 10, 3) := by decide +kernel
theorem dX11_count_153 : decode cX11_count 153 = .ok (.getfield 116, 3) := by decide +kernel
theorem dX11_count_156 : decode cX11_count 156 = .ok (.ireturn, 1) := by decide +kernel
theorem dX11_count_157 : decode cX11_count 157 = .ok (.iconst (-1), 1) := by decide +kernel
theorem dX11_count_158 : decode cX11_count 158 = .ok (.ireturn, 1) := by decide +kernel
set_option maxRecDepth 20000 in
theorem ggX11_image_X4_become : GoodIn wsX11_image wsX4_become := goodIn_r _ [7, 8, 9, 10, 11, 12, 13, 14, 15, 16, 17, 18, 19, 20, 21, 22, 23, 24, 25, 26, 27, 28, 29, 30, 31, 32, 33, 34, 35, 36, 37, 38, 39, 40, 41, 42, 43, 44, 45, 46, 47, 48, 49, 50, 51, 52, 53, 54, 55, 56, 57, 58, 59, 60, 77, 78, 79, 80, 81, 82, 83, 84, 85, 86, 96, 97, 98, 99, 100, 101, 102, 103, 104, 105, 106, 107, 108, 109, 110, 111, 112, 113, 114, 87, 88, 89, 90, 91, 92, 93, 94, 95] (by decide +kernel) (by decide +kernel)
set_option maxRecDepth 20000 in
theorem gX11_image_X4_become : GoodIn wsX11_image (wsV RX11 408 RX4 yX4_become wsX4_become) := goodIn_app (goodIn_of _ (by decide +kernel)) ggX11_image_X4_become
theorem dX11_image_0 : decode cX11_image 0 = .ok (.iload_n 1, 1) := by decide +kernel
theorem dX11_image_1 : decode cX11_image 1 = .ok (.ifCond .lt 8, 3) := by decide +kernel
theorem dX11_image_4 : decode cX11_image 4 = .ok (.iload_n 1, 1) := by decide +kernel
theorem dX11_image_5 : decode cX11_image 5 = .ok (.iconst 4, 1) := by decide +kernel
theorem dX11_image_6 : decode cX11_image 6 = .ok (.if_icmp .lt 5, 3) := by decide +kernel
theorem dX11_image_9 : decode cX11_image 9 = .ok (.iconst (-1), 1) := by decide +kernel
theorem dX11_image_10 : decode cX11_image 10 = .ok (.ireturn, 1) := by decide +kernel
theorem dX11_image_11 : decode cX11_image 11 = .ok (.aload_n 0, 1) := by decide +kernel
theorem dX11_image_12 : decode cX11_image 12 = .ok (.getfield 23, 3) := by decide +kernel
theorem dX11_image_15 : decode cX11_image 15 = .ok (.iload_n 1, 1) := by decide +kernel
theorem dX11_image_16 : decode cX11_image 16 = .ok (.aaload, 1) := by decide +kernel
theorem dX11_image_17 : decode cX11_image 17 = .ok (.aload_n 0, 1) := by decide +kernel
theorem dX11_image_18 : decode cX11_image 18 = .ok (.getfield 19, 3) := by decide +kernel
theorem dX11_image_21 : decode cX11_image 21 = .ok (.invokevirtual 408, 3) := by decide +kernel
theorem dX11_image_24 : decode cX11_image 24 = .ok (.aload_n 0, 1) := by decide +kernel
theorem dX11_image_25 : decode cX11_image 25 = .ok (.getfield 23, 3) := by decide +kernel
theorem dX11_image_28 : decode cX11_image 28 = .ok (.iload_n 1, 1) := by decide +kernel
theorem dX11_image_29 : decode cX11_image 29 = .ok (.aaload, 1) := by decide +kernel
theorem dX11_image_30 : decode cX11_image 30 = .ok (.iconst 1, 1) := by decide +kernel
theorem dX11_image_31 : decode cX11_image 31 = .ok (.putfield 411, 3) := by decide +kernel
theorem dX11_image_34 : decode cX11_image 34 = .ok (.aload_n 0, 1) := by decide +kernel
theorem dX11_image_35 : decode cX11_image 35 = .ok (.getfield 19, 3) := by decide +kernel
theorem dX11_image_38 : decode cX11_image 38 = .ok (.getfield 133, 3) := by decide +kernel
theorem dX11_image_41 : decode cX11_image 41 = .ok (.getfield 252, 3) := by decide +kernel
theorem dX11_image_44 : decode cX11_image 44 = .ok (.ireturn, 1) := by decide +kernel
set_option maxRecDepth 20000 in
theorem ggX11_back_X4_become : GoodIn wsX11_back wsX4_become := goodIn_r _ [8, 9, 10, 11, 12, 13, 14, 15, 16, 17, 18, 19, 20, 21, 22, 23, 24, 25, 26, 27, 28, 29, 30, 31, 32, 33, 34, 35, 36, 37, 38, 39, 40, 41, 42, 43, 44, 45, 46, 47, 48, 49, 50, 51, 52, 53, 54, 55, 56, 57, 58, 59, 60, 61, 86, 87, 88, 89, 90, 91, 92, 93, 94, 95, 105, 106, 107, 108, 109, 110, 111, 112, 113, 114, 115, 116, 117, 118, 119, 120, 121, 122, 123, 96, 97, 98, 99, 100, 101, 102, 103, 104] (by decide +kernel) (by decide +kernel)
set_option maxRecDepth 20000 in
theorem gX11_back_X4_become : GoodIn wsX11_back (wsV RX11 408 RX4 yX4_become wsX4_become) := goodIn_app (goodIn_of _ (by decide +kernel)) ggX11_back_X4_become
set_option maxRecDepth 20000 in
theorem ggX11_back_X11_enforce : GoodIn wsX11_back wsX11_enforce := goodIn_r _ [66, 2, 67, 68, 69, 70, 71, 72, 73, 74, 75, 76, 77, 78, 79, 80, 81, 82, 83, 84, 85, 86, 87, 88, 89, 90, 91, 92, 93, 94, 95, 124, 125, 126, 127, 128, 129, 130, 131, 132, 133, 134, 135] (by decide +kernel) (by decide +kernel)
set_option maxRecDepth 20000 in
theorem gX11_back_X11_enforce : GoodIn wsX11_back (wsV RX11 160 RX11 yX11_enforce wsX11_enforce) := goodIn_app (goodIn_of _ (by decide +kernel)) ggX11_back_X11_enforce
theorem dX11_back_0 : decode cX11_back 0 = .ok (.iload_n 1, 1) := by decide +kernel
theorem dX11_back_1 : decode cX11_back 1 = .ok (.ifCond .lt 20, 3) := by decide +kernel
theorem dX11_back_4 : decode cX11_back 4 = .ok (.iload_n 1, 1) := by decide +kernel
theorem dX11_back_5 : decode cX11_back 5 = .ok (.iconst 4, 1) := by decide +kernel
theorem dX11_back_6 : decode cX11_back 6 = .ok (.if_icmp .ge 15, 3) := by decide +kernel
theorem dX11_back_9 : decode cX11_back 9 = .ok (.aload_n 0, 1) := by decide +kernel
theorem dX11_back_10 : decode cX11_back 10 = .ok (.getfield 23, 3) := by decide +kernel
theorem dX11_back_13 : decode cX11_back 13 = .ok (.iload_n 1, 1) := by decide +kernel
theorem dX11_back_14 : decode cX11_back 14 = .ok (.aaload, 1) := by decide +kernel
theorem dX11_back_15 : decode cX11_back 15 = .ok (.getfield 411, 3) := by decide +kernel
theorem dX11_back_18 : decode cX11_back 18 = .ok (.ifCond .ne 5, 3) := by decide +kernel
theorem dX11_back_21 : decode cX11_back 21 = .ok (.iconst (-1), 1) := by decide +kernel
theorem dX11_back_22 : decode cX11_back 22 = .ok (.ireturn, 1) := by decide +kernel
theorem dX11_back_23 : decode cX11_back 23 = .ok (.aload_n 0, 1) := by decide +kernel
theorem dX11_back_24 : decode cX11_back 24 = .ok (.getfield 19, 3) := by decide +kernel
theorem dX11_back_27 : decode cX11_back 27 = .ok (.aload_n 0, 1) := by decide +kernel
theorem dX11_back_28 : decode cX11_back 28 = .ok (.getfield 23, 3) := by decide +kernel
theorem dX11_back_31 : decode cX11_back 31 = .ok (.iload_n 1, 1) := by decide +kernel
theorem dX11_back_32 : decode cX11_back 32 = .ok (.aaload, 1) := by decide +kernel
theorem dX11_back_33 : decode cX11_back 33 = .ok (.invokevirtual 408, 3) := by decide +kernel
theorem dX11_back_36 : decode cX11_back 36 = .ok (.aload_n 0, 1) := by decide +kernel
theorem dX11_back_37 : decode cX11_back 37 = .ok (.iconst 0, 1) := by decide +kernel
theorem dX11_back_38 : decode cX11_back 38 = .ok (.putfield 143, 3) := by decide +kernel
theorem dX11_back_41 : decode cX11_back 41 = .ok (.aload_n 0, 1) := by decide +kernel
theorem dX11_back_42 : decode cX11_back 42 = .ok (.invokevirtual 160, 3) := by decide +kernel
theorem dX11_back_45 : decode cX11_back 45 = .ok (.aload_n 0, 1) := by decide +kernel
theorem dX11_back_46 : decode cX11_back 46 = .ok (.getfield 19, 3) := by decide +kernel
theorem dX11_back_49 : decode cX11_back 49 = .ok (.getfield 133, 3) := by decide +kernel
theorem dX11_back_52 : decode cX11_back 52 = .ok (.getfield 252, 3) := by decide +kernel
theorem dX11_back_55 : decode cX11_back 55 = .ok (.ireturn, 1) := by decide +kernel
theorem dX12_init_0 : decode cX12_init 0 = .ok (.aload_n 0, 1) := by decide +kernel
theorem dX12_init_1 : decode cX12_init 1 = .ok (.invokespecial 1, 3) := by decide +kernel
theorem dX12_init_4 : decode cX12_init 4 = .ok (.aload_n 0, 1) := by decide +kernel
theorem dX12_init_5 : decode cX12_init 5 = .ok (.sipush 400, 3) := by decide +kernel
theorem dX12_init_8 : decode cX12_init 8 = .ok (.newarray .byte, 2) := by decide +kernel
theorem dX12_init_10 : decode cX12_init 10 = .ok (.putfield 7, 3) := by decide +kernel
theorem dX12_init_13 : decode cX12_init 13 = .ok (.aload_n 0, 1) := by decide +kernel
theorem dX12_init_14 : decode cX12_init 14 = .ok (.sipush 2400, 3) := by decide +kernel
theorem dX12_init_17 : decode cX12_init 17 = .ok (.newarray .int, 2) := by decide +kernel
theorem dX12_init_19 : decode cX12_init 19 = .ok (.putfield 13, 3) := by decide +kernel
theorem dX12_init_22 : decode cX12_init 22 = .ok (.aload_n 0, 1) := by decide +kernel
theorem dX12_init_23 : decode cX12_init 23 = .ok (.bipush 7, 2) := by decide +kernel
theorem dX12_init_25 : decode cX12_init 25 = .ok (.newarray .int, 2) := by decide +kernel
theorem dX12_init_27 : decode cX12_init 27 = .ok (.putfield 17, 3) := by decide +kernel
theorem dX12_init_30 : decode cX12_init 30 = .ok (.aload_n 0, 1) := by decide +kernel
theorem dX12_init_31 : decode cX12_init 31 = .ok (.sipush 288, 3) := by decide +kernel
theorem dX12_init_34 : decode cX12_init 34 = .ok (.newarray .int, 2) := by decide +kernel
theorem dX12_init_36 : decode cX12_init 36 = .ok (.putfield 20, 3) := by decide +kernel
theorem dX12_init_39 : decode cX12_init 39 = .ok (.aload_n 0, 1) := by decide +kernel
theorem dX12_init_40 : decode cX12_init 40 = .ok (.bipush 6, 2) := by decide +kernel
theorem dX12_init_42 : decode cX12_init 42 = .ok (.newarray .int, 2) := by decide +kernel
theorem dX12_init_44 : decode cX12_init 44 = .ok (.putfield 23, 3) := by decide +kernel
theorem dX12_init_47 : decode cX12_init 47 = .ok (.aload_n 0, 1) := by decide +kernel
theorem dX12_init_48 : decode cX12_init 48 = .ok (.bipush 117, 2) := by decide +kernel
theorem dX12_init_50 : decode cX12_init 50 = .ok (.newarray .int, 2) := by decide +kernel
theorem dX12_init_52 : decode cX12_init 52 = .ok (.putfield 26, 3) := by decide +kernel
theorem dX12_init_55 : decode cX12_init 55 = .ok (.aload_n 0, 1) := by decide +kernel
theorem dX12_init_56 : decode cX12_init 56 = .ok (.sipush 400, 3) := by decide +kernel
theorem dX12_init_59 : decode cX12_init 59 = .ok (.newarray .int, 2) := by decide +kernel
theorem dX12_init_61 : decode cX12_init 61 = .ok (.putfield 29, 3) := by decide +kernel
theorem dX12_init_64 : decode cX12_init 64 = .ok (.aload_n 0, 1) := by decide +kernel
theorem dX12_init_65 : decode cX12_init 65 = .ok (.bipush 64, 2) := by decide +kernel
theorem dX12_init_67 : decode cX12_init 67 = .ok (.newarray .long, 2) := by decide +kernel
theorem dX12_init_69 : decode cX12_init 69 = .ok (.putfield 32, 3) := by decide +kernel
theorem dX12_init_72 : decode cX12_init 72 = .ok (.aload_n 0, 1) := by decide +kernel
theorem dX12_init_73 : decode cX12_init 73 = .ok (.bipush 10, 2) := by decide +kernel
theorem dX12_init_75 : decode cX12_init 75 = .ok (.newarray .long, 2) := by decide +kernel
theorem dX12_init_77 : decode cX12_init 77 = .ok (.putfield 36, 3) := by decide +kernel
theorem dX12_init_80 : decode cX12_init 80 = .ok (.aload_n 0, 1) := by decide +kernel
theorem dX12_init_81 : decode cX12_init 81 = .ok (.sipush 158, 3) := by decide +kernel
theorem dX12_init_84 : decode cX12_init 84 = .ok (.newarray .int, 2) := by decide +kernel
theorem dX12_init_86 : decode cX12_init 86 = .ok (.putfield 39, 3) := by decide +kernel
theorem dX12_init_89 : decode cX12_init 89 = .ok (.aload_n 0, 1) := by decide +kernel
theorem dX12_init_90 : decode cX12_init 90 = .ok (.iconst (-1), 1) := by decide +kernel
theorem dX12_init_91 : decode cX12_init 91 = .ok (.putfield 42, 3) := by decide +kernel
theorem dX12_init_94 : decode cX12_init 94 = .ok (.aload_n 0, 1) := by decide +kernel
theorem dX12_init_95 : decode cX12_init 95 = .ok (.sipush 1140, 3) := by decide +kernel
theorem dX12_init_98 : decode cX12_init 98 = .ok (.newarray .int, 2) := by decide +kernel
theorem dX12_init_100 : decode cX12_init 100 = .ok (.putfield 46, 3) := by decide +kernel
theorem dX12_init_103 : decode cX12_init 103 = .ok (.aload_n 0, 1) := by decide +kernel
theorem dX12_init_104 : decode cX12_init 104 = .ok (.bipush 57, 2) := by decide +kernel
theorem dX12_init_106 : decode cX12_init 106 = .ok (.newarray .int, 2) := by decide +kernel
theorem dX12_init_108 : decode cX12_init 108 = .ok (.putfield 49, 3) := by decide +kernel
theorem dX12_init_111 : decode cX12_init 111 = .ok (.aload_n 0, 1) := by decide +kernel
theorem dX12_init_112 : decode cX12_init 112 = .ok (.bipush 6, 2) := by decide +kernel
theorem dX12_init_114 : decode cX12_init 114 = .ok (.newarray .int, 2) := by decide +kernel
theorem dX12_init_116 : decode cX12_init 116 = .ok (.putfield 52, 3) := by decide +kernel
theorem dX12_init_119 : decode cX12_init 119 = .ok (.aload_n 0, 1) := by decide +kernel
theorem dX12_init_120 : decode cX12_init 120 = .ok (.bipush 6, 2) := by decide +kernel
theorem dX12_init_122 : decode cX12_init 122 = .ok (.newarray .int, 2) := by decide +kernel
theorem dX12_init_124 : decode cX12_init 124 = .ok (.putfield 55, 3) := by decide +kernel
theorem dX12_init_127 : decode cX12_init 127 = .ok (.aload_n 0, 1) := by decide +kernel
theorem dX12_init_128 : decode cX12_init 128 = .ok (.iconst 5, 1) := by decide +kernel
theorem dX12_init_129 : decode cX12_init 129 = .ok (.newarray .int, 2) := by decide +kernel
theorem dX12_init_131 : decode cX12_init 131 = .ok (.putfield 58, 3) := by decide +kernel
theorem dX12_init_134 : decode cX12_init 134 = .ok (.aload_n 0, 1) := by decide +kernel
theorem dX12_init_135 : decode cX12_init 135 = .ok (.sipush 3913, 3) := by decide +kernel
theorem dX12_init_138 : decode cX12_init 138 = .ok (.newarray .int, 2) := by decide +kernel
theorem dX12_init_140 : decode cX12_init 140 = .ok (.putfield 61, 3) := by decide +kernel
theorem dX12_init_143 : decode cX12_init 143 = .ok (.aload_n 0, 1) := by decide +kernel
theorem dX12_init_144 : decode cX12_init 144 = .ok (.sipush 3913, 3) := by decide +kernel
theorem dX12_init_147 : decode cX12_init 147 = .ok (.newarray .boolean, 2) := by decide +kernel
theorem dX12_init_149 : decode cX12_init 149 = .ok (.putfield 64, 3) := by decide +kernel
theorem dX12_init_152 : decode cX12_init 152 = .ok (.aload_n 0, 1) := by decide +kernel
theorem dX12_init_153 : decode cX12_init 153 = .ok (.sipush 632, 3) := by decide +kernel
theorem dX12_init_156 : decode cX12_init 156 = .ok (.newarray .int, 2) := by decide +kernel
theorem dX12_init_158 : decode cX12_init 158 = .ok (.putfield 68, 3) := by decide +kernel
theorem dX12_init_161 : decode cX12_init 161 = .ok (.aload_n 0, 1) := by decide +kernel
theorem dX12_init_162 : decode cX12_init 162 = .ok (.iconst 4, 1) := by decide +kernel
theorem dX12_init_163 : decode cX12_init 163 = .ok (.newarray .int, 2) := by decide +kernel
theorem dX12_init_165 : decode cX12_init 165 = .ok (.putfield 71, 3) := by decide +kernel
theorem dX12_init_168 : decode cX12_init 168 = .ok (.aload_n 0, 1) := by decide +kernel
theorem dX12_init_169 : decode cX12_init 169 = .ok (.iconst 4, 1) := by decide +kernel
theorem dX12_init_170 : decode cX12_init 170 = .ok (.newarray .int, 2) := by decide +kernel
theorem dX12_init_172 : decode cX12_init 172 = .ok (.putfield 74, 3) := by decide +kernel
theorem dX12_init_175 : decode cX12_init 175 = .ok (.aload_n 0, 1) := by decide +kernel
theorem dX12_init_176 : decode cX12_init 176 = .ok (.iconst 4, 1) := by decide +kernel
theorem dX12_init_177 : decode cX12_init 177 = .ok (.newarray .boolean, 2) := by decide +kernel
theorem dX12_init_179 : decode cX12_init 179 = .ok (.putfield 77, 3) := by decide +kernel
theorem dX12_init_182 : decode cX12_init 182 = .ok (.return_, 1) := by decide +kernel
theorem dX12_in_0 : decode cX12_in 0 = .ok (.lload_n 0, 1) := by decide +kernel
theorem dX12_in_1 : decode cX12_in 1 = .ok (.lload_n 2, 1) := by decide +kernel
theorem dX12_in_2 : decode cX12_in 2 = .ok (.lcmp, 1) := by decide +kernel
theorem dX12_in_3 : decode cX12_in 3 = .ok (.ifCond .lt 14, 3) := by decide +kernel
theorem dX12_in_6 : decode cX12_in 6 = .ok (.lload_n 0, 1) := by decide +kernel
theorem dX12_in_7 : decode cX12_in 7 = .ok (.lload 4, 2) := by decide +kernel
theorem dX12_in_9 : decode cX12_in 9 = .ok (.lcmp, 1) := by decide +kernel
theorem dX12_in_10 : decode cX12_in 10 = .ok (.ifCond .gt 7, 3) := by decide +kernel
theorem dX12_in_13 : decode cX12_in 13 = .ok (.iconst 1, 1) := by decide +kernel
theorem dX12_in_14 : decode cX12_in 14 = .ok (.goto 4, 3) := by decide +kernel
theorem dX12_in_17 : decode cX12_in 17 = .ok (.iconst 0, 1) := by decide +kernel
theorem dX12_in_18 : decode cX12_in 18 = .ok (.ireturn, 1) := by decide +kernel
theorem dX12_isOf_0 : decode cX12_isOf 0 = .ok (.iload_n 0, 1) := by decide +kernel
theorem dX12_isOf_1 : decode cX12_isOf 1 = .ok (.iload_n 1, 1) := by decide +kernel
theorem dX12_isOf_2 : decode cX12_isOf 2 = .ok (.ishr, 1) := by decide +kernel
theorem dX12_isOf_3 : decode cX12_isOf 3 = .ok (.iconst 1, 1) := by decide +kernel
theorem dX12_isOf_4 : decode cX12_isOf 4 = .ok (.iand, 1) := by decide +kernel
theorem dX12_isOf_5 : decode cX12_isOf 5 = .ok (.iconst 1, 1) := by decide +kernel
theorem dX12_isOf_6 : decode cX12_isOf 6 = .ok (.if_icmp .ne 7, 3) := by decide +kernel
theorem dX12_isOf_9 : decode cX12_isOf 9 = .ok (.iconst 1, 1) := by decide +kernel
theorem dX12_isOf_10 : decode cX12_isOf 10 = .ok (.goto 4, 3) := by decide +kernel
theorem dX12_isOf_13 : decode cX12_isOf 13 = .ok (.iconst 0, 1) := by decide +kernel
theorem dX12_isOf_14 : decode cX12_isOf 14 = .ok (.ireturn, 1) := by decide +kernel
theorem dX12_bits_0 : decode cX12_bits 0 = .ok (.iconst 0, 1) := by decide +kernel
theorem dX12_bits_1 : decode cX12_bits 1 = .ok (.istore_n 1, 1) := by decide +kernel
theorem dX12_bits_2 : decode cX12_bits 2 = .ok (.iload_n 0, 1) := by decide +kernel
theorem dX12_bits_3 : decode cX12_bits 3 = .ok (.istore_n 2, 1) := by decide +kernel
theorem dX12_bits_4 : decode cX12_bits 4 = .ok (.iload_n 2, 1) := by decide +kernel
theorem dX12_bits_5 : decode cX12_bits 5 = .ok (.ifCond .eq 15, 3) := by decide +kernel
theorem dX12_bits_8 : decode cX12_bits 8 = .ok (.iinc 1 1, 3) := by decide +kernel
theorem dX12_bits_11 : decode cX12_bits 11 = .ok (.iload_n 2, 1) := by decide +kernel
theorem dX12_bits_12 : decode cX12_bits 12 = .ok (.iload_n 2, 1) := by decide +kernel
theorem dX12_bits_13 : decode cX12_bits 13 = .ok (.iconst 1, 1) := by decide +kernel
theorem dX12_bits_14 : decode cX12_bits 14 = .ok (.isub, 1) := by decide +kernel
theorem dX12_bits_15 : decode cX12_bits 15 = .ok (.iand, 1) := by decide +kernel
theorem dX12_bits_16 : decode cX12_bits 16 = .ok (.istore_n 2, 1) := by decide +kernel
theorem dX12_bits_17 : decode cX12_bits 17 = .ok (.goto (-13), 3) := by decide +kernel
theorem dX12_bits_20 : decode cX12_bits 20 = .ok (.iload_n 1, 1) := by decide +kernel
theorem dX12_bits_21 : decode cX12_bits 21 = .ok (.ireturn, 1) := by decide +kernel
theorem dX12_four_0 : decode cX12_four 0 = .ok (.bipush 24, 2) := by decide +kernel
theorem dX12_four_2 : decode cX12_four 2 = .ok (.istore_n 2, 1) := by decide +kernel
theorem dX12_four_3 : decode cX12_four 3 = .ok (.iload_n 2, 1) := by decide +kernel
theorem dX12_four_4 : decode cX12_four 4 = .ok (.ifCond .lt 32, 3) := by decide +kernel
theorem dX12_four_7 : decode cX12_four 7 = .ok (.aload_n 0, 1) := by decide +kernel
theorem dX12_four_8 : decode cX12_four 8 = .ok (.getfield 7, 3) := by decide +kernel
theorem dX12_four_11 : decode cX12_four 11 = .ok (.aload_n 0, 1) := by decide +kernel
theorem dX12_four_12 : decode cX12_four 12 = .ok (.getfield 80, 3) := by decide +kernel
theorem dX12_four_15 : decode cX12_four 15 = .ok (.iload_n 1, 1) := by decide +kernel
theorem dX12_four_16 : decode cX12_four 16 = .ok (.iload_n 2, 1) := by decide +kernel
theorem dX12_four_17 : decode cX12_four 17 = .ok (.ishr, 1) := by decide +kernel
theorem dX12_four_18 : decode cX12_four 18 = .ok (.i2b, 1) := by decide +kernel
theorem dX12_four_19 : decode cX12_four 19 = .ok (.bastore, 1) := by decide +kernel
theorem dX12_four_20 : decode cX12_four 20 = .ok (.aload_n 0, 1) := by decide +kernel
theorem dX12_four_21 : decode cX12_four 21 = .ok (.dup, 1) := by decide +kernel
theorem dX12_four_22 : decode cX12_four 22 = .ok (.getfield 80, 3) := by decide +kernel
theorem dX12_four_25 : decode cX12_four 25 = .ok (.iconst 1, 1) := by decide +kernel
theorem dX12_four_26 : decode cX12_four 26 = .ok (.iadd, 1) := by decide +kernel
theorem dX12_four_27 : decode cX12_four 27 = .ok (.putfield 80, 3) := by decide +kernel
theorem dX12_four_30 : decode cX12_four 30 = .ok (.iinc 2 (-8), 3) := by decide +kernel
theorem dX12_four_33 : decode cX12_four 33 = .ok (.goto (-30), 3) := by decide +kernel
theorem dX12_four_36 : decode cX12_four 36 = .ok (.return_, 1) := by decide +kernel
set_option maxRecDepth 20000 in
theorem ggX12_feed_X12_four : GoodIn wsX12_feed wsX12_four := goodIn_r _ [6, 7, 1, 8, 9, 10, 11, 12, 13, 14, 15, 16, 17, 18, 19, 20, 21, 22, 23, 24, 25, 26, 27, 28, 29, 30, 31, 32, 33, 34, 35, 36, 37, 38, 39, 40, 41, 42, 43, 44, 45] (by decide +kernel) (by decide +kernel)
set_option maxRecDepth 20000 in
theorem gX12_feed_X12_four : GoodIn wsX12_feed (wsV RX12 83 RX12 yX12_four wsX12_four) := goodIn_app (goodIn_of _ (by decide +kernel)) ggX12_feed_X12_four
theorem dX12_feed_0 : decode cX12_feed 0 = .ok (.aload_n 0, 1) := by decide +kernel
theorem dX12_feed_1 : decode cX12_feed 1 = .ok (.getfield 80, 3) := by decide +kernel
theorem dX12_feed_4 : decode cX12_feed 4 = .ok (.bipush 20, 2) := by decide +kernel
theorem dX12_feed_6 : decode cX12_feed 6 = .ok (.iadd, 1) := by decide +kernel
theorem dX12_feed_7 : decode cX12_feed 7 = .ok (.sipush 400, 3) := by decide +kernel
theorem dX12_feed_10 : decode cX12_feed 10 = .ok (.if_icmp .le 5, 3) := by decide +kernel
theorem dX12_feed_13 : decode cX12_feed 13 = .ok (.iconst (-1), 1) := by decide +kernel
theorem dX12_feed_14 : decode cX12_feed 14 = .ok (.ireturn, 1) := by decide +kernel
theorem dX12_feed_15 : decode cX12_feed 15 = .ok (.aload_n 0, 1) := by decide +kernel
theorem dX12_feed_16 : decode cX12_feed 16 = .ok (.iload_n 1, 1) := by decide +kernel
theorem dX12_feed_17 : decode cX12_feed 17 = .ok (.invokevirtual 83, 3) := by decide +kernel
theorem dX12_feed_20 : decode cX12_feed 20 = .ok (.aload_n 0, 1) := by decide +kernel
theorem dX12_feed_21 : decode cX12_feed 21 = .ok (.iload_n 2, 1) := by decide +kernel
theorem dX12_feed_22 : decode cX12_feed 22 = .ok (.invokevirtual 83, 3) := by decide +kernel
theorem dX12_feed_25 : decode cX12_feed 25 = .ok (.aload_n 0, 1) := by decide +kernel
theorem dX12_feed_26 : decode cX12_feed 26 = .ok (.iload_n 3, 1) := by decide +kernel
theorem dX12_feed_27 : decode cX12_feed 27 = .ok (.invokevirtual 83, 3) := by decide +kernel
theorem dX12_feed_30 : decode cX12_feed 30 = .ok (.aload_n 0, 1) := by decide +kernel
theorem dX12_feed_31 : decode cX12_feed 31 = .ok (.iload 4, 2) := by decide +kernel
theorem dX12_feed_33 : decode cX12_feed 33 = .ok (.invokevirtual 83, 3) := by decide +kernel
theorem dX12_feed_36 : decode cX12_feed 36 = .ok (.aload_n 0, 1) := by decide +kernel
theorem dX12_feed_37 : decode cX12_feed 37 = .ok (.iload 5, 2) := by decide +kernel
theorem dX12_feed_39 : decode cX12_feed 39 = .ok (.invokevirtual 83, 3) := by decide +kernel
theorem dX12_feed_42 : decode cX12_feed 42 = .ok (.aload_n 0, 1) := by decide +kernel
theorem dX12_feed_43 : decode cX12_feed 43 = .ok (.getfield 80, 3) := by decide +kernel
theorem dX12_feed_46 : decode cX12_feed 46 = .ok (.ireturn, 1) := by decide +kernel
theorem dX12_end_0 : decode cX12_end 0 = .ok (.iload_n 1, 1) := by decide +kernel
theorem dX12_end_1 : decode cX12_end 1 = .ok (.ifCond .lt 11, 3) := by decide +kernel
theorem dX12_end_4 : decode cX12_end 4 = .ok (.iload_n 1, 1) := by decide +kernel
theorem dX12_end_5 : decode cX12_end 5 = .ok (.aload_n 0, 1) := by decide +kernel
theorem dX12_end_6 : decode cX12_end 6 = .ok (.getfield 80, 3) := by decide +kernel
theorem dX12_end_9 : decode cX12_end 9 = .ok (.if_icmp .le 5, 3) := by decide +kernel
theorem dX12_end_12 : decode cX12_end 12 = .ok (.iconst (-1), 1) := by decide +kernel
theorem dX12_end_13 : decode cX12_end 13 = .ok (.ireturn, 1) := by decide +kernel
theorem dX12_end_14 : decode cX12_end 14 = .ok (.aload_n 0, 1) := by decide +kernel
theorem dX12_end_15 : decode cX12_end 15 = .ok (.iload_n 1, 1) := by decide +kernel
theorem dX12_end_16 : decode cX12_end 16 = .ok (.putfield 80, 3) := by decide +kernel
theorem dX12_end_19 : decode cX12_end 19 = .ok (.iload_n 1, 1) := by decide +kernel
theorem dX12_end_20 : decode cX12_end 20 = .ok (.ireturn, 1) := by decide +kernel
theorem dX12_fails_0 : decode cX12_fails 0 = .ok (.aload_n 0, 1) := by decide +kernel
theorem dX12_fails_1 : decode cX12_fails 1 = .ok (.getfield 87, 3) := by decide +kernel
theorem dX12_fails_4 : decode cX12_fails 4 = .ok (.ifCond .ne 15, 3) := by decide +kernel
theorem dX12_fails_7 : decode cX12_fails 7 = .ok (.aload_n 0, 1) := by decide +kernel
theorem dX12_fails_8 : decode cX12_fails 8 = .ok (.iconst 1, 1) := by decide +kernel
theorem dX12_fails_9 : decode cX12_fails 9 = .ok (.bipush 8, 2) := by decide +kernel
theorem dX12_fails_11 : decode cX12_fails 11 = .ok (.iload_n 2, 1) := by decide +kernel
theorem dX12_fails_12 : decode cX12_fails 12 = .ok (.imul, 1) := by decide +kernel
theorem dX12_fails_13 : decode cX12_fails 13 = .ok (.iadd, 1) := by decide +kernel
theorem dX12_fails_14 : decode cX12_fails 14 = .ok (.iload_n 1, 1) := by decide +kernel
theorem dX12_fails_15 : decode cX12_fails 15 = .ok (.iadd, 1) := by decide +kernel
theorem dX12_fails_16 : decode cX12_fails 16 = .ok (.putfield 87, 3) := by decide +kernel
theorem dX12_fails_19 : decode cX12_fails 19 = .ok (.iconst 0, 1) := by decide +kernel
theorem dX12_fails_20 : decode cX12_fails 20 = .ok (.ireturn, 1) := by decide +kernel
theorem dX12_see_0 : decode cX12_see 0 = .ok (.aload_n 0, 1) := by decide +kernel
theorem dX12_see_1 : decode cX12_see 1 = .ok (.getfield 90, 3) := by decide +kernel
theorem dX12_see_4 : decode cX12_see 4 = .ok (.aload_n 0, 1) := by decide +kernel
theorem dX12_see_5 : decode cX12_see 5 = .ok (.getfield 80, 3) := by decide +kernel
theorem dX12_see_8 : decode cX12_see 8 = .ok (.if_icmp .ge 30, 3) := by decide +kernel
theorem dX12_see_11 : decode cX12_see 11 = .ok (.aload_n 0, 1) := by decide +kernel
theorem dX12_see_12 : decode cX12_see 12 = .ok (.getfield 7, 3) := by decide +kernel
theorem dX12_see_15 : decode cX12_see 15 = .ok (.aload_n 0, 1) := by decide +kernel
theorem dX12_see_16 : decode cX12_see 16 = .ok (.getfield 90, 3) := by decide +kernel
theorem dX12_see_19 : decode cX12_see 19 = .ok (.baload, 1) := by decide +kernel
theorem dX12_see_20 : decode cX12_see 20 = .ok (.bipush 32, 2) := by decide +kernel
theorem dX12_see_22 : decode cX12_see 22 = .ok (.if_icmp .ne 16, 3) := by decide +kernel
theorem dX12_see_25 : decode cX12_see 25 = .ok (.aload_n 0, 1) := by decide +kernel
theorem dX12_see_26 : decode cX12_see 26 = .ok (.dup, 1) := by decide +kernel
theorem dX12_see_27 : decode cX12_see 27 = .ok (.getfield 90, 3) := by decide +kernel
theorem dX12_see_30 : decode cX12_see 30 = .ok (.iconst 1, 1) := by decide +kernel
theorem dX12_see_31 : decode cX12_see 31 = .ok (.iadd, 1) := by decide +kernel
theorem dX12_see_32 : decode cX12_see 32 = .ok (.putfield 90, 3) := by decide +kernel
theorem dX12_see_35 : decode cX12_see 35 = .ok (.goto (-35), 3) := by decide +kernel
theorem dX12_see_38 : decode cX12_see 38 = .ok (.aload_n 0, 1) := by decide +kernel
theorem dX12_see_39 : decode cX12_see 39 = .ok (.getfield 90, 3) := by decide +kernel
theorem dX12_see_42 : decode cX12_see 42 = .ok (.aload_n 0, 1) := by decide +kernel
theorem dX12_see_43 : decode cX12_see 43 = .ok (.getfield 80, 3) := by decide +kernel
theorem dX12_see_46 : decode cX12_see 46 = .ok (.if_icmp .ge 19, 3) := by decide +kernel
theorem dX12_see_49 : decode cX12_see 49 = .ok (.aload_n 0, 1) := by decide +kernel
theorem dX12_see_50 : decode cX12_see 50 = .ok (.getfield 7, 3) := by decide +kernel
theorem dX12_see_53 : decode cX12_see 53 = .ok (.aload_n 0, 1) := by decide +kernel
theorem dX12_see_54 : decode cX12_see 54 = .ok (.getfield 90, 3) := by decide +kernel
theorem dX12_see_57 : decode cX12_see 57 = .ok (.baload, 1) := by decide +kernel
theorem dX12_see_58 : decode cX12_see 58 = .ok (.sipush 255, 3) := by decide +kernel
theorem dX12_see_61 : decode cX12_see 61 = .ok (.iand, 1) := by decide +kernel
theorem dX12_see_62 : decode cX12_see 62 = .ok (.goto 4, 3) := by decide +kernel
theorem dX12_see_65 : decode cX12_see 65 = .ok (.iconst (-1), 1) := by decide +kernel
theorem dX12_see_66 : decode cX12_see 66 = .ok (.ireturn, 1) := by decide +kernel
theorem dX12_isDigit_0 : decode cX12_isDigit 0 = .ok (.iload_n 1, 1) := by decide +kernel
theorem dX12_isDigit_1 : decode cX12_isDigit 1 = .ok (.aload_n 0, 1) := by decide +kernel
theorem dX12_isDigit_2 : decode cX12_isDigit 2 = .ok (.getfield 80, 3) := by decide +kernel
theorem dX12_isDigit_5 : decode cX12_isDigit 5 = .ok (.if_icmp .ge 29, 3) := by decide +kernel
theorem dX12_isDigit_8 : decode cX12_isDigit 8 = .ok (.aload_n 0, 1) := by decide +kernel
theorem dX12_isDigit_9 : decode cX12_isDigit 9 = .ok (.getfield 7, 3) := by decide +kernel
theorem dX12_isDigit_12 : decode cX12_isDigit 12 = .ok (.iload_n 1, 1) := by decide +kernel
theorem dX12_isDigit_13 : decode cX12_isDigit 13 = .ok (.baload, 1) := by decide +kernel
theorem dX12_isDigit_14 : decode cX12_isDigit 14 = .ok (.bipush 48, 2) := by decide +kernel
theorem dX12_isDigit_16 : decode cX12_isDigit 16 = .ok (.if_icmp .lt 18, 3) := by decide +kernel
theorem dX12_isDigit_19 : decode cX12_isDigit 19 = .ok (.aload_n 0, 1) := by decide +kernel
theorem dX12_isDigit_20 : decode cX12_isDigit 20 = .ok (.getfield 7, 3) := by decide +kernel
theorem dX12_isDigit_23 : decode cX12_isDigit 23 = .ok (.iload_n 1, 1) := by decide +kernel
theorem dX12_isDigit_24 : decode cX12_isDigit 24 = .ok (.baload, 1) := by decide +kernel
theorem dX12_isDigit_25 : decode cX12_isDigit 25 = .ok (.bipush 57, 2) := by decide +kernel
theorem dX12_isDigit_27 : decode cX12_isDigit 27 = .ok (.if_icmp .gt 7, 3) := by decide +kernel
theorem dX12_isDigit_30 : decode cX12_isDigit 30 = .ok (.iconst 1, 1) := by decide +kernel
theorem dX12_isDigit_31 : decode cX12_isDigit 31 = .ok (.goto 4, 3) := by decide +kernel
theorem dX12_isDigit_34 : decode cX12_isDigit 34 = .ok (.iconst 0, 1) := by decide +kernel
theorem dX12_isDigit_35 : decode cX12_isDigit 35 = .ok (.ireturn, 1) := by decide +kernel
theorem dX12_isLetter_0 : decode cX12_isLetter 0 = .ok (.iload_n 1, 1) := by decide +kernel
theorem dX12_isLetter_1 : decode cX12_isLetter 1 = .ok (.aload_n 0, 1) := by decide +kernel
theorem dX12_isLetter_2 : decode cX12_isLetter 2 = .ok (.getfield 80, 3) := by decide +kernel
theorem dX12_isLetter_5 : decode cX12_isLetter 5 = .ok (.if_icmp .ge 29, 3) := by decide +kernel
theorem dX12_isLetter_8 : decode cX12_isLetter 8 = .ok (.aload_n 0, 1) := by decide +kernel
theorem dX12_isLetter_9 : decode cX12_isLetter 9 = .ok (.getfield 7, 3) := by decide +kernel
theorem dX12_isLetter_12 : decode cX12_isLetter 12 = .ok (.iload_n 1, 1) := by decide +kernel
theorem dX12_isLetter_13 : decode cX12_isLetter 13 = .ok (.baload, 1) := by decide +kernel
theorem dX12_isLetter_14 : decode cX12_isLetter 14 = .ok (.bipush 97, 2) := by decide +kernel
theorem dX12_isLetter_16 : decode cX12_isLetter 16 = .ok (.if_icmp .lt 18, 3) := by decide +kernel
theorem dX12_isLetter_19 : decode cX12_isLetter 19 = .ok (.aload_n 0, 1) := by decide +kernel
theorem dX12_isLetter_20 : decode cX12_isLetter 20 = .ok (.getfield 7, 3) := by decide +kernel
theorem dX12_isLetter_23 : decode cX12_isLetter 23 = .ok (.iload_n 1, 1) := by decide +kernel
theorem dX12_isLetter_24 : decode cX12_isLetter 24 = .ok (.baload, 1) := by decide +kernel
theorem dX12_isLetter_25 : decode cX12_isLetter 25 = .ok (.bipush 122, 2) := by decide +kernel
theorem dX12_isLetter_27 : decode cX12_isLetter 27 = .ok (.if_icmp .gt 7, 3) := by decide +kernel
theorem dX12_isLetter_30 : decode cX12_isLetter 30 = .ok (.iconst 1, 1) := by decide +kernel
theorem dX12_isLetter_31 : decode cX12_isLetter 31 = .ok (.goto 4, 3) := by decide +kernel
theorem dX12_isLetter_34 : decode cX12_isLetter 34 = .ok (.iconst 0, 1) := by decide +kernel
theorem dX12_isLetter_35 : decode cX12_isLetter 35 = .ok (.ireturn, 1) := by decide +kernel
set_option maxRecDepth 20000 in
theorem ggX12_isWord_X12_see : GoodIn wsX12_isWord wsX12_see := goodIn_r _ [7, 1, 8, 2, 13, 14, 15, 16, 17, 18, 19, 20, 21, 22, 23, 24, 25, 26, 27, 28, 29, 30, 31, 32, 33, 34, 35, 36, 37, 38, 39, 40, 41, 42, 43, 44, 45, 46, 47, 48, 49, 50] (by decide +kernel) (by decide +kernel)
set_option maxRecDepth 20000 in
theorem gX12_isWord_X12_see : GoodIn wsX12_isWord (wsV RX12 93 RX12 yX12_see wsX12_see) := goodIn_app (goodIn_of _ (by decide +kernel)) ggX12_isWord_X12_see
set_option maxRecDepth 20000 in
theorem ggX12_isWord_X12_isLetter : GoodIn wsX12_isWord wsX12_isLetter := goodIn_r _ [12, 8, 2, 13, 14, 15, 16, 17, 18, 19, 20, 21, 22, 23, 24, 25, 26, 27, 28, 29, 30, 31, 32, 33, 34, 35, 36, 37, 38, 39, 40, 41, 42, 43, 44, 45, 46, 47, 48, 49, 50] (by decide +kernel) (by decide +kernel)
set_option maxRecDepth 20000 in
theorem gX12_isWord_X12_isLetter : GoodIn wsX12_isWord (wsV RX12 97 RX12 yX12_isLetter wsX12_isLetter) := goodIn_app (goodIn_of _ (by decide +kernel)) ggX12_isWord_X12_isLetter
theorem dX12_isWord_0 : decode cX12_isWord 0 = .ok (.aload_n 0, 1) := by decide +kernel
theorem dX12_isWord_1 : decode cX12_isWord 1 = .ok (.invokevirtual 93, 3) := by decide +kernel
theorem dX12_isWord_4 : decode cX12_isWord 4 = .ok (.pop, 1) := by decide +kernel
theorem dX12_isWord_5 : decode cX12_isWord 5 = .ok (.lconst 0, 1) := by decide +kernel
theorem dX12_isWord_6 : decode cX12_isWord 6 = .ok (.lstore_n 3, 1) := by decide +kernel
theorem dX12_isWord_7 : decode cX12_isWord 7 = .ok (.iconst 0, 1) := by decide +kernel
theorem dX12_isWord_8 : decode cX12_isWord 8 = .ok (.istore 5, 2) := by decide +kernel
theorem dX12_isWord_10 : decode cX12_isWord 10 = .ok (.aload_n 0, 1) := by decide +kernel
theorem dX12_isWord_11 : decode cX12_isWord 11 = .ok (.aload_n 0, 1) := by decide +kernel
theorem dX12_isWord_12 : decode cX12_isWord 12 = .ok (.getfield 90, 3) := by decide +kernel
theorem dX12_isWord_15 : decode cX12_isWord 15 = .ok (.iload 5, 2) := by decide +kernel
theorem dX12_isWord_17 : decode cX12_isWord 17 = .ok (.iadd, 1) := by decide +kernel
theorem dX12_isWord_18 : decode cX12_isWord 18 = .ok (.invokevirtual 97, 3) := by decide +kernel
theorem dX12_isWord_21 : decode cX12_isWord 21 = .ok (.ifCond .eq 35, 3) := by decide +kernel
theorem dX12_isWord_24 : decode cX12_isWord 24 = .ok (.iload 5, 2) := by decide +kernel
theorem dX12_isWord_26 : decode cX12_isWord 26 = .ok (.bipush 8, 2) := by decide +kernel
theorem dX12_isWord_28 : decode cX12_isWord 28 = .ok (.if_icmp .ge 22, 3) := by decide +kernel
theorem dX12_isWord_31 : decode cX12_isWord 31 = .ok (.lload_n 3, 1) := by decide +kernel
theorem dX12_isWord_32 : decode cX12_isWord 32 = .ok (.bipush 8, 2) := by decide +kernel
theorem dX12_isWord_34 : decode cX12_isWord 34 = .ok (.lshl, 1) := by decide +kernel
theorem dX12_isWord_35 : decode cX12_isWord 35 = .ok (.aload_n 0, 1) := by decide +kernel
theorem dX12_isWord_36 : decode cX12_isWord 36 = .ok (.getfield 7, 3) := by decide +kernel
theorem dX12_isWord_39 : decode cX12_isWord 39 = .ok (.aload_n 0, 1) := by decide +kernel
theorem dX12_isWord_40 : decode cX12_isWord 40 = .ok (.getfield 90, 3) := by decide +kernel
theorem dX12_isWord_43 : decode cX12_isWord 43 = .ok (.iload 5, 2) := by decide +kernel
theorem dX12_isWord_45 : decode cX12_isWord 45 = .ok (.iadd, 1) := by decide +kernel
theorem dX12_isWord_46 : decode cX12_isWord 46 = .ok (.baload, 1) := by decide +kernel
theorem dX12_isWord_47 : decode cX12_isWord 47 = .ok (.i2l, 1) := by decide +kernel
theorem dX12_isWord_48 : decode cX12_isWord 48 = .ok (.lor, 1) := by decide +kernel
theorem dX12_isWord_49 : decode cX12_isWord 49 = .ok (.lstore_n 3, 1) := by decide +kernel
theorem dX12_isWord_50 : decode cX12_isWord 50 = .ok (.iinc 5 1, 3) := by decide +kernel
theorem dX12_isWord_53 : decode cX12_isWord 53 = .ok (.goto (-43), 3) := by decide +kernel
theorem dX12_isWord_56 : decode cX12_isWord 56 = .ok (.iload 5, 2) := by decide +kernel
theorem dX12_isWord_58 : decode cX12_isWord 58 = .ok (.ifCond .le 20, 3) := by decide +kernel
theorem dX12_isWord_61 : decode cX12_isWord 61 = .ok (.iload 5, 2) := by decide +kernel
theorem dX12_isWord_63 : decode cX12_isWord 63 = .ok (.bipush 8, 2) := by decide +kernel
theorem dX12_isWord_65 : decode cX12_isWord 65 = .ok (.if_icmp .ge 13, 3) := by decide +kernel
theorem dX12_isWord_68 : decode cX12_isWord 68 = .ok (.lload_n 3, 1) := by decide +kernel
theorem dX12_isWord_69 : decode cX12_isWord 69 = .ok (.lload_n 1, 1) := by decide +kernel
theorem dX12_isWord_70 : decode cX12_isWord 70 = .ok (.lcmp, 1) := by decide +kernel
theorem dX12_isWord_71 : decode cX12_isWord 71 = .ok (.ifCond .ne 7, 3) := by decide +kernel
theorem dX12_isWord_74 : decode cX12_isWord 74 = .ok (.iconst 1, 1) := by decide +kernel
theorem dX12_isWord_75 : decode cX12_isWord 75 = .ok (.goto 4, 3) := by decide +kernel
theorem dX12_isWord_78 : decode cX12_isWord 78 = .ok (.iconst 0, 1) := by decide +kernel
theorem dX12_isWord_79 : decode cX12_isWord 79 = .ok (.ireturn, 1) := by decide +kernel
set_option maxRecDepth 20000 in
theorem ggX12_passWord_X12_isLetter : GoodIn wsX12_passWord wsX12_isLetter := goodIn_r _ [6, 7, 8, 9, 10, 11, 12, 13, 14, 15, 16, 17, 18, 19, 20, 21, 22, 23, 24, 25, 26, 27, 28, 29, 30, 31, 32, 33, 34, 35, 36, 37, 38, 39, 40, 41, 42, 43, 44, 45, 46] (by decide +kernel) (by decide +kernel)
set_option maxRecDepth 20000 in
theorem gX12_passWord_X12_isLetter : GoodIn wsX12_passWord (wsV RX12 97 RX12 yX12_isLetter wsX12_isLetter) := goodIn_app (goodIn_of _ (by decide +kernel)) ggX12_passWord_X12_isLetter
theorem dX12_passWord_0 : decode cX12_passWord 0 = .ok (.aload_n 0, 1) := by decide +kernel
theorem dX12_passWord_1 : decode cX12_passWord 1 = .ok (.aload_n 0, 1) := by decide +kernel
theorem dX12_passWord_2 : decode cX12_passWord 2 = .ok (.getfield 90, 3) := by decide +kernel
theorem dX12_passWord_5 : decode cX12_passWord 5 = .ok (.invokevirtual 97, 3) := by decide +kernel
theorem dX12_passWord_8 : decode cX12_passWord 8 = .ok (.ifCond .eq 16, 3) := by decide +kernel
theorem dX12_passWord_11 : decode cX12_passWord 11 = .ok (.aload_n 0, 1) := by decide +kernel
theorem dX12_passWord_12 : decode cX12_passWord 12 = .ok (.dup, 1) := by decide +kernel
theorem dX12_passWord_13 : decode cX12_passWord 13 = .ok (.getfield 90, 3) := by decide +kernel
theorem dX12_passWord_16 : decode cX12_passWord 16 = .ok (.iconst 1, 1) := by decide +kernel
theorem dX12_passWord_17 : decode cX12_passWord 17 = .ok (.iadd, 1) := by decide +kernel
theorem dX12_passWord_18 : decode cX12_passWord 18 = .ok (.putfield 90, 3) := by decide +kernel
theorem dX12_passWord_21 : decode cX12_passWord 21 = .ok (.goto (-21), 3) := by decide +kernel
theorem dX12_passWord_24 : decode cX12_passWord 24 = .ok (.return_, 1) := by decide +kernel
set_option maxRecDepth 20000 in
theorem ggX12_takesWord_X12_isWord : GoodIn wsX12_takesWord wsX12_isWord := goodIn_r _ [5, 6, 7, 8, 9, 10, 4, 11, 12, 13, 14, 15, 16, 21, 22, 23, 24, 25, 26, 27, 28, 29, 30, 31, 32, 33, 34, 35, 36, 37, 38, 39, 40, 41, 42, 43, 44, 45, 46, 47, 48, 49, 50, 51, 52, 53, 54, 55, 56, 57, 58] (by decide +kernel) (by decide +kernel)
set_option maxRecDepth 20000 in
theorem gX12_takesWord_X12_isWord : GoodIn wsX12_takesWord (wsV RX12 101 RX12 yX12_isWord wsX12_isWord) := goodIn_app (goodIn_of _ (by decide +kernel)) ggX12_takesWord_X12_isWord
set_option maxRecDepth 20000 in
theorem ggX12_takesWord_X12_passWord : GoodIn wsX12_takesWord wsX12_passWord := goodIn_r _ [20, 6, 13, 14, 15, 4, 16, 12, 7, 21, 22, 23, 24, 25, 26, 27, 28, 29, 30, 31, 32, 33, 34, 35, 36, 37, 38, 39, 40, 41, 42, 43, 44, 45, 46, 47, 48, 49, 50, 51, 52, 53, 54, 55, 56, 57, 58] (by decide +kernel) (by decide +kernel)
set_option maxRecDepth 20000 in
theorem gX12_takesWord_X12_passWord : GoodIn wsX12_takesWord (wsV RX12 105 RX12 yX12_passWord wsX12_passWord) := goodIn_app (goodIn_of _ (by decide +kernel)) ggX12_takesWord_X12_passWord
theorem dX12_takesWord_0 : decode cX12_takesWord 0 = .ok (.aload_n 0, 1) := by decide +kernel
theorem dX12_takesWord_1 : decode cX12_takesWord 1 = .ok (.lload_n 1, 1) := by decide +kernel
theorem dX12_takesWord_2 : decode cX12_takesWord 2 = .ok (.invokevirtual 101, 3) := by decide +kernel
theorem dX12_takesWord_5 : decode cX12_takesWord 5 = .ok (.ifCond .ne 5, 3) := by decide +kernel
theorem dX12_takesWord_8 : decode cX12_takesWord 8 = .ok (.iconst 0, 1) := by decide +kernel
theorem dX12_takesWord_9 : decode cX12_takesWord 9 = .ok (.ireturn, 1) := by decide +kernel
theorem dX12_takesWord_10 : decode cX12_takesWord 10 = .ok (.aload_n 0, 1) := by decide +kernel
theorem dX12_takesWord_11 : decode cX12_takesWord 11 = .ok (.invokevirtual 105, 3) := by decide +kernel
theorem dX12_takesWord_14 : decode cX12_takesWord 14 = .ok (.iconst 1, 1) := by decide +kernel
theorem dX12_takesWord_15 : decode cX12_takesWord 15 = .ok (.ireturn, 1) := by decide +kernel
set_option maxRecDepth 20000 in
theorem ggX12_numberHere_X12_see : GoodIn wsX12_numberHere wsX12_see := goodIn_r _ [8, 1, 9, 2, 22, 23, 24, 25, 26, 27, 28, 29, 30, 31, 32, 33, 34, 35, 36, 37, 38, 39, 40, 41, 42, 43, 44, 45, 46, 47, 48, 49, 50, 51, 52, 53, 54, 55, 56, 57, 58, 59] (by decide +kernel) (by decide +kernel)
set_option maxRecDepth 20000 in
theorem gX12_numberHere_X12_see : GoodIn wsX12_numberHere (wsV RX12 93 RX12 yX12_see wsX12_see) := goodIn_app (goodIn_of _ (by decide +kernel)) ggX12_numberHere_X12_see
set_option maxRecDepth 20000 in
theorem ggX12_numberHere_X12_isDigit : GoodIn wsX12_numberHere wsX12_isDigit := goodIn_r _ [13, 9, 2, 22, 23, 24, 25, 26, 27, 28, 29, 30, 31, 32, 33, 34, 35, 36, 37, 38, 39, 40, 41, 42, 43, 44, 45, 46, 47, 48, 49, 50, 51, 52, 53, 54, 55, 56, 57, 58, 59] (by decide +kernel) (by decide +kernel)
set_option maxRecDepth 20000 in
theorem gX12_numberHere_X12_isDigit : GoodIn wsX12_numberHere (wsV RX12 108 RX12 yX12_isDigit wsX12_isDigit) := goodIn_app (goodIn_of _ (by decide +kernel)) ggX12_numberHere_X12_isDigit
set_option maxRecDepth 20000 in
theorem ggX12_numberHere_X12_fails : GoodIn wsX12_numberHere wsX12_fails := goodIn_r _ [17, 18, 22, 23, 24, 25, 26, 27, 28, 29, 30, 31, 32, 33, 34, 35, 36, 37, 38, 39, 40, 41, 42, 43, 44, 45, 46, 47, 48, 49, 50, 51, 52, 53, 54, 55, 56, 57, 58, 59] (by decide +kernel) (by decide +kernel)
set_option maxRecDepth 20000 in
theorem gX12_numberHere_X12_fails : GoodIn wsX12_numberHere (wsV RX12 111 RX12 yX12_fails wsX12_fails) := goodIn_app (goodIn_of _ (by decide +kernel)) ggX12_numberHere_X12_fails
set_option maxRecDepth 20000 in
theorem ggX12_numberHere_X12_in : GoodIn wsX12_numberHere wsX12_in := goodIn_r _ [21] (by decide +kernel) (by decide +kernel)
set_option maxRecDepth 20000 in
theorem gX12_numberHere_X12_in : GoodIn wsX12_numberHere (va_wsS RX12 118 yX12_in wsX12_in) := goodIn_app (goodIn_of _ (by decide +kernel)) ggX12_numberHere_X12_in
theorem dX12_numberHere_0 : decode cX12_numberHere 0 = .ok (.aload_n 0, 1) := by decide +kernel
theorem dX12_numberHere_1 : decode cX12_numberHere 1 = .ok (.invokevirtual 93, 3) := by decide +kernel
theorem dX12_numberHere_4 : decode cX12_numberHere 4 = .ok (.pop, 1) := by decide +kernel
theorem dX12_numberHere_5 : decode cX12_numberHere 5 = .ok (.aload_n 0, 1) := by decide +kernel
theorem dX12_numberHere_6 : decode cX12_numberHere 6 = .ok (.aload_n 0, 1) := by decide +kernel
theorem dX12_numberHere_7 : decode cX12_numberHere 7 = .ok (.getfield 90, 3) := by decide +kernel
theorem dX12_numberHere_10 : decode cX12_numberHere 10 = .ok (.invokevirtual 108, 3) := by decide +kernel
theorem dX12_numberHere_13 : decode cX12_numberHere 13 = .ok (.ifCond .ne 13, 3) := by decide +kernel
theorem dX12_numberHere_16 : decode cX12_numberHere 16 = .ok (.aload_n 0, 1) := by decide +kernel
theorem dX12_numberHere_17 : decode cX12_numberHere 17 = .ok (.iconst 0, 1) := by decide +kernel
theorem dX12_numberHere_18 : decode cX12_numberHere 18 = .ok (.aload_n 0, 1) := by decide +kernel
theorem dX12_numberHere_19 : decode cX12_numberHere 19 = .ok (.getfield 90, 3) := by decide +kernel
theorem dX12_numberHere_22 : decode cX12_numberHere 22 = .ok (.invokevirtual 111, 3) := by decide +kernel
theorem dX12_numberHere_25 : decode cX12_numberHere 25 = .ok (.ireturn, 1) := by decide +kernel
theorem dX12_numberHere_26 : decode cX12_numberHere 26 = .ok (.aload_n 0, 1) := by decide +kernel
theorem dX12_numberHere_27 : decode cX12_numberHere 27 = .ok (.getfield 90, 3) := by decide +kernel
theorem dX12_numberHere_30 : decode cX12_numberHere 30 = .ok (.istore_n 3, 1) := by decide +kernel
theorem dX12_numberHere_31 : decode cX12_numberHere 31 = .ok (.iconst 0, 1) := by decide +kernel
theorem dX12_numberHere_32 : decode cX12_numberHere 32 = .ok (.istore 4, 2) := by decide +kernel
theorem dX12_numberHere_34 : decode cX12_numberHere 34 = .ok (.aload_n 0, 1) := by decide +kernel
theorem dX12_numberHere_35 : decode cX12_numberHere 35 = .ok (.aload_n 0, 1) := by decide +kernel
theorem dX12_numberHere_36 : decode cX12_numberHere 36 = .ok (.getfield 90, 3) := by decide +kernel
theorem dX12_numberHere_39 : decode cX12_numberHere 39 = .ok (.invokevirtual 108, 3) := by decide +kernel
theorem dX12_numberHere_42 : decode cX12_numberHere 42 = .ok (.ifCond .eq 46, 3) := by decide +kernel
theorem dX12_numberHere_45 : decode cX12_numberHere 45 = .ok (.aload_n 0, 1) := by decide +kernel
theorem dX12_numberHere_46 : decode cX12_numberHere 46 = .ok (.getfield 90, 3) := by decide +kernel
theorem dX12_numberHere_49 : decode cX12_numberHere 49 = .ok (.iload_n 3, 1) := by decide +kernel
theorem dX12_numberHere_50 : decode cX12_numberHere 50 = .ok (.isub, 1) := by decide +kernel
theorem dX12_numberHere_51 : decode cX12_numberHere 51 = .ok (.iconst 5, 1) := by decide +kernel
theorem dX12_numberHere_52 : decode cX12_numberHere 52 = .ok (.if_icmp .ge 23, 3) := by decide +kernel
theorem dX12_numberHere_55 : decode cX12_numberHere 55 = .ok (.bipush 10, 2) := by decide +kernel
theorem dX12_numberHere_57 : decode cX12_numberHere 57 = .ok (.iload 4, 2) := by decide +kernel
theorem dX12_numberHere_59 : decode cX12_numberHere 59 = .ok (.imul, 1) := by decide +kernel
theorem dX12_numberHere_60 : decode cX12_numberHere 60 = .ok (.aload_n 0, 1) := by decide +kernel
theorem dX12_numberHere_61 : decode cX12_numberHere 61 = .ok (.getfield 7, 3) := by decide +kernel
theorem dX12_numberHere_64 : decode cX12_numberHere 64 = .ok (.aload_n 0, 1) := by decide +kernel
theorem dX12_numberHere_65 : decode cX12_numberHere 65 = .ok (.getfield 90, 3) := by decide +kernel
theorem dX12_numberHere_68 : decode cX12_numberHere 68 = .ok (.baload, 1) := by decide +kernel
theorem dX12_numberHere_69 : decode cX12_numberHere 69 = .ok (.iadd, 1) := by decide +kernel
theorem dX12_numberHere_70 : decode cX12_numberHere 70 = .ok (.bipush 48, 2) := by decide +kernel
theorem dX12_numberHere_72 : decode cX12_numberHere 72 = .ok (.isub, 1) := by decide +kernel
theorem dX12_numberHere_73 : decode cX12_numberHere 73 = .ok (.istore 4, 2) := by decide +kernel
theorem dX12_numberHere_75 : decode cX12_numberHere 75 = .ok (.aload_n 0, 1) := by decide +kernel
theorem dX12_numberHere_76 : decode cX12_numberHere 76 = .ok (.dup, 1) := by decide +kernel
theorem dX12_numberHere_77 : decode cX12_numberHere 77 = .ok (.getfield 90, 3) := by decide +kernel
theorem dX12_numberHere_80 : decode cX12_numberHere 80 = .ok (.iconst 1, 1) := by decide +kernel
theorem dX12_numberHere_81 : decode cX12_numberHere 81 = .ok (.iadd, 1) := by decide +kernel
theorem dX12_numberHere_82 : decode cX12_numberHere 82 = .ok (.putfield 90, 3) := by decide +kernel
theorem dX12_numberHere_85 : decode cX12_numberHere 85 = .ok (.goto (-51), 3) := by decide +kernel
theorem dX12_numberHere_88 : decode cX12_numberHere 88 = .ok (.aload_n 0, 1) := by decide +kernel
theorem dX12_numberHere_89 : decode cX12_numberHere 89 = .ok (.iload 4, 2) := by decide +kernel
theorem dX12_numberHere_91 : decode cX12_numberHere 91 = .ok (.putfield 115, 3) := by decide +kernel
theorem dX12_numberHere_94 : decode cX12_numberHere 94 = .ok (.aload_n 0, 1) := by decide +kernel
theorem dX12_numberHere_95 : decode cX12_numberHere 95 = .ok (.getfield 90, 3) := by decide +kernel
theorem dX12_numberHere_98 : decode cX12_numberHere 98 = .ok (.iload_n 3, 1) := by decide +kernel
theorem dX12_numberHere_99 : decode cX12_numberHere 99 = .ok (.isub, 1) := by decide +kernel
theorem dX12_numberHere_100 : decode cX12_numberHere 100 = .ok (.iconst 5, 1) := by decide +kernel
theorem dX12_numberHere_101 : decode cX12_numberHere 101 = .ok (.if_icmp .gt 16, 3) := by decide +kernel
theorem dX12_numberHere_104 : decode cX12_numberHere 104 = .ok (.iload 4, 2) := by decide +kernel
theorem dX12_numberHere_106 : decode cX12_numberHere 106 = .ok (.i2l, 1) := by decide +kernel
theorem dX12_numberHere_107 : decode cX12_numberHere 107 = .ok (.iload_n 1, 1) := by decide +kernel
theorem dX12_numberHere_108 : decode cX12_numberHere 108 = .ok (.i2l, 1) := by decide +kernel
theorem dX12_numberHere_109 : decode cX12_numberHere 109 = .ok (.iload_n 2, 1) := by decide +kernel
theorem dX12_numberHere_110 : decode cX12_numberHere 110 = .ok (.i2l, 1) := by decide +kernel
theorem dX12_numberHere_111 : decode cX12_numberHere 111 = .ok (.invokestatic 118, 3) := by decide +kernel
theorem dX12_numberHere_114 : decode cX12_numberHere 114 = .ok (.ifCond .ne 12, 3) := by decide +kernel
theorem dX12_numberHere_117 : decode cX12_numberHere 117 = .ok (.aload_n 0, 1) := by decide +kernel
theorem dX12_numberHere_118 : decode cX12_numberHere 118 = .ok (.iconst 1, 1) := by decide +kernel
theorem dX12_numberHere_119 : decode cX12_numberHere 119 = .ok (.iload_n 3, 1) := by decide +kernel
theorem dX12_numberHere_120 : decode cX12_numberHere 120 = .ok (.invokevirtual 111, 3) := by decide +kernel
theorem dX12_numberHere_123 : decode cX12_numberHere 123 = .ok (.ifCond .eq 7, 3) := by decide +kernel
theorem dX12_numberHere_126 : decode cX12_numberHere 126 = .ok (.iconst 1, 1) := by decide +kernel
theorem dX12_numberHere_127 : decode cX12_numberHere 127 = .ok (.goto 4, 3) := by decide +kernel
theorem dX12_numberHere_130 : decode cX12_numberHere 130 = .ok (.iconst 0, 1) := by decide +kernel
theorem dX12_numberHere_131 : decode cX12_numberHere 131 = .ok (.ireturn, 1) := by decide +kernel
set_option maxRecDepth 20000 in
theorem ggX12_wordHere_X12_isWord : GoodIn wsX12_wordHere wsX12_isWord := goodIn_r _ [15, 16, 17, 18, 19, 20, 14, 21, 22, 23, 24, 25, 26, 27, 28, 29, 30, 31, 32, 33, 34, 35, 36, 37, 38, 39, 40, 41, 42, 43, 44, 45, 46, 47, 48, 49, 50, 51, 52, 53, 54, 55, 56, 57, 58, 59, 60, 61, 62, 63, 64] (by decide +kernel) (by decide +kernel)
set_option maxRecDepth 20000 in
theorem gX12_wordHere_X12_isWord : GoodIn wsX12_wordHere (wsV RX12 101 RX12 yX12_isWord wsX12_isWord) := goodIn_app (goodIn_of _ (by decide +kernel)) ggX12_wordHere_X12_isWord
theorem dX12_wordHere_0 : decode cX12_wordHere 0 = .ok (.aload_n 0, 1) := by decide +kernel
theorem dX12_wordHere_1 : decode cX12_wordHere 1 = .ok (.ldc2_w 122, 3) := by decide +kernel
theorem dX12_wordHere_4 : decode cX12_wordHere 4 = .ok (.invokevirtual 101, 3) := by decide +kernel
theorem dX12_wordHere_7 : decode cX12_wordHere 7 = .ok (.ifCond .eq 5, 3) := by decide +kernel
theorem dX12_wordHere_10 : decode cX12_wordHere 10 = .ok (.iconst 0, 1) := by decide +kernel
theorem dX12_wordHere_11 : decode cX12_wordHere 11 = .ok (.ireturn, 1) := by decide +kernel
theorem dX12_wordHere_12 : decode cX12_wordHere 12 = .ok (.aload_n 0, 1) := by decide +kernel
theorem dX12_wordHere_13 : decode cX12_wordHere 13 = .ok (.ldc2_w 124, 3) := by decide +kernel
theorem dX12_wordHere_16 : decode cX12_wordHere 16 = .ok (.invokevirtual 101, 3) := by decide +kernel
theorem dX12_wordHere_19 : decode cX12_wordHere 19 = .ok (.ifCond .eq 5, 3) := by decide +kernel
theorem dX12_wordHere_22 : decode cX12_wordHere 22 = .ok (.iconst 1, 1) := by decide +kernel
theorem dX12_wordHere_23 : decode cX12_wordHere 23 = .ok (.ireturn, 1) := by decide +kernel
theorem dX12_wordHere_24 : decode cX12_wordHere 24 = .ok (.aload_n 0, 1) := by decide +kernel
theorem dX12_wordHere_25 : decode cX12_wordHere 25 = .ok (.ldc2_w 126, 3) := by decide +kernel
theorem dX12_wordHere_28 : decode cX12_wordHere 28 = .ok (.invokevirtual 101, 3) := by decide +kernel
theorem dX12_wordHere_31 : decode cX12_wordHere 31 = .ok (.ifCond .eq 5, 3) := by decide +kernel
theorem dX12_wordHere_34 : decode cX12_wordHere 34 = .ok (.iconst 2, 1) := by decide +kernel
theorem dX12_wordHere_35 : decode cX12_wordHere 35 = .ok (.ireturn, 1) := by decide +kernel
theorem dX12_wordHere_36 : decode cX12_wordHere 36 = .ok (.aload_n 0, 1) := by decide +kernel
theorem dX12_wordHere_37 : decode cX12_wordHere 37 = .ok (.ldc2_w 128, 3) := by decide +kernel
theorem dX12_wordHere_40 : decode cX12_wordHere 40 = .ok (.invokevirtual 101, 3) := by decide +kernel
theorem dX12_wordHere_43 : decode cX12_wordHere 43 = .ok (.ifCond .eq 5, 3) := by decide +kernel
theorem dX12_wordHere_46 : decode cX12_wordHere 46 = .ok (.iconst 3, 1) := by decide +kernel
theorem dX12_wordHere_47 : decode cX12_wordHere 47 = .ok (.ireturn, 1) := by decide +kernel
theorem dX12_wordHere_48 : decode cX12_wordHere 48 = .ok (.aload_n 0, 1) := by decide +kernel
theorem dX12_wordHere_49 : decode cX12_wordHere 49 = .ok (.ldc2_w 130, 3) := by decide +kernel
theorem dX12_wordHere_52 : decode cX12_wordHere 52 = .ok (.invokevirtual 101, 3) := by decide +kernel
theorem dX12_wordHere_55 : decode cX12_wordHere 55 = .ok (.ifCond .eq 5, 3) := by decide +kernel
theorem dX12_wordHere_58 : decode cX12_wordHere 58 = .ok (.iconst 4, 1) := by decide +kernel
theorem dX12_wordHere_59 : decode cX12_wordHere 59 = .ok (.ireturn, 1) := by decide +kernel
theorem dX12_wordHere_60 : decode cX12_wordHere 60 = .ok (.aload_n 0, 1) := by decide +kernel
theorem dX12_wordHere_61 : decode cX12_wordHere 61 = .ok (.ldc2_w 132, 3) := by decide +kernel
theorem dX12_wordHere_64 : decode cX12_wordHere 64 = .ok (.invokevirtual 101, 3) := by decide +kernel
theorem dX12_wordHere_67 : decode cX12_wordHere 67 = .ok (.ifCond .eq 5, 3) := by decide +kernel
theorem dX12_wordHere_70 : decode cX12_wordHere 70 = .ok (.iconst 5, 1) := by decide +kernel
theorem dX12_wordHere_71 : decode cX12_wordHere 71 = .ok (.ireturn, 1) := by decide +kernel
theorem dX12_wordHere_72 : decode cX12_wordHere 72 = .ok (.aload_n 0, 1) := by decide +kernel
theorem dX12_wordHere_73 : decode cX12_wordHere 73 = .ok (.ldc2_w 134, 3) := by decide +kernel
theorem dX12_wordHere_76 : decode cX12_wordHere 76 = .ok (.invokevirtual 101, 3) := by decide +kernel
theorem dX12_wordHere_79 : decode cX12_wordHere 79 = .ok (.ifCond .eq 6, 3) := by decide +kernel
theorem dX12_wordHere_82 : decode cX12_wordHere 82 = .ok (.bipush 6, 2) := by decide +kernel
theorem dX12_wordHere_84 : decode cX12_wordHere 84 = .ok (.ireturn, 1) := by decide +kernel
theorem dX12_wordHere_85 : decode cX12_wordHere 85 = .ok (.aload_n 0, 1) := by decide +kernel
theorem dX12_wordHere_86 : decode cX12_wordHere 86 = .ok (.ldc2_w 136, 3) := by decide +kernel
theorem dX12_wordHere_89 : decode cX12_wordHere 89 = .ok (.invokevirtual 101, 3) := by decide +kernel
theorem dX12_wordHere_92 : decode cX12_wordHere 92 = .ok (.ifCond .eq 6, 3) := by decide +kernel
theorem dX12_wordHere_95 : decode cX12_wordHere 95 = .ok (.bipush 7, 2) := by decide +kernel
theorem dX12_wordHere_97 : decode cX12_wordHere 97 = .ok (.ireturn, 1) := by decide +kernel
theorem dX12_wordHere_98 : decode cX12_wordHere 98 = .ok (.aload_n 0, 1) := by decide +kernel
theorem dX12_wordHere_99 : decode cX12_wordHere 99 = .ok (.ldc2_w 138, 3) := by decide +kernel
theorem dX12_wordHere_102 : decode cX12_wordHere 102 = .ok (.invokevirtual 101, 3) := by decide +kernel
theorem dX12_wordHere_105 : decode cX12_wordHere 105 = .ok (.ifCond .eq 8, 3) := by decide +kernel
theorem dX12_wordHere_108 : decode cX12_wordHere 108 = .ok (.bipush 8, 2) := by decide +kernel
theorem dX12_wordHere_110 : decode cX12_wordHere 110 = .ok (.goto 19, 3) := by decide +kernel
theorem dX12_wordHere_113 : decode cX12_wordHere 113 = .ok (.aload_n 0, 1) := by decide +kernel
theorem dX12_wordHere_114 : decode cX12_wordHere 114 = .ok (.ldc2_w 140, 3) := by decide +kernel
theorem dX12_wordHere_117 : decode cX12_wordHere 117 = .ok (.invokevirtual 101, 3) := by decide +kernel
theorem dX12_wordHere_120 : decode cX12_wordHere 120 = .ok (.ifCond .eq 8, 3) := by decide +kernel
theorem dX12_wordHere_123 : decode cX12_wordHere 123 = .ok (.bipush 9, 2) := by decide +kernel
theorem dX12_wordHere_125 : decode cX12_wordHere 125 = .ok (.goto 4, 3) := by decide +kernel
theorem dX12_wordHere_128 : decode cX12_wordHere 128 = .ok (.iconst (-1), 1) := by decide +kernel
theorem dX12_wordHere_129 : decode cX12_wordHere 129 = .ok (.ireturn, 1) := by decide +kernel
theorem dX12_puts_0 : decode cX12_puts 0 = .ok (.aload_n 0, 1) := by decide +kernel
theorem dX12_puts_1 : decode cX12_puts 1 = .ok (.getfield 13, 3) := by decide +kernel
theorem dX12_puts_4 : decode cX12_puts 4 = .ok (.sipush 400, 3) := by decide +kernel
theorem dX12_puts_7 : decode cX12_puts 7 = .ok (.aload_n 0, 1) := by decide +kernel
theorem dX12_puts_8 : decode cX12_puts 8 = .ok (.getfield 142, 3) := by decide +kernel
theorem dX12_puts_11 : decode cX12_puts 11 = .ok (.imul, 1) := by decide +kernel
theorem dX12_puts_12 : decode cX12_puts 12 = .ok (.aload_n 0, 1) := by decide +kernel
theorem dX12_puts_13 : decode cX12_puts 13 = .ok (.getfield 17, 3) := by decide +kernel
theorem dX12_puts_16 : decode cX12_puts 16 = .ok (.aload_n 0, 1) := by decide +kernel
theorem dX12_puts_17 : decode cX12_puts 17 = .ok (.getfield 142, 3) := by decide +kernel
theorem dX12_puts_20 : decode cX12_puts 20 = .ok (.iaload, 1) := by decide +kernel
theorem dX12_puts_21 : decode cX12_puts 21 = .ok (.iadd, 1) := by decide +kernel
theorem dX12_puts_22 : decode cX12_puts 22 = .ok (.iload_n 1, 1) := by decide +kernel
theorem dX12_puts_23 : decode cX12_puts 23 = .ok (.bipush 16, 2) := by decide +kernel
theorem dX12_puts_25 : decode cX12_puts 25 = .ok (.iload_n 2, 1) := by decide +kernel
theorem dX12_puts_26 : decode cX12_puts 26 = .ok (.imul, 1) := by decide +kernel
theorem dX12_puts_27 : decode cX12_puts 27 = .ok (.iadd, 1) := by decide +kernel
theorem dX12_puts_28 : decode cX12_puts 28 = .ok (.iastore, 1) := by decide +kernel
theorem dX12_puts_29 : decode cX12_puts 29 = .ok (.aload_n 0, 1) := by decide +kernel
theorem dX12_puts_30 : decode cX12_puts 30 = .ok (.getfield 17, 3) := by decide +kernel
theorem dX12_puts_33 : decode cX12_puts 33 = .ok (.aload_n 0, 1) := by decide +kernel
theorem dX12_puts_34 : decode cX12_puts 34 = .ok (.getfield 142, 3) := by decide +kernel
theorem dX12_puts_37 : decode cX12_puts 37 = .ok (.dup2, 1) := by decide +kernel
theorem dX12_puts_38 : decode cX12_puts 38 = .ok (.iaload, 1) := by decide +kernel
theorem dX12_puts_39 : decode cX12_puts 39 = .ok (.iconst 1, 1) := by decide +kernel
theorem dX12_puts_40 : decode cX12_puts 40 = .ok (.iadd, 1) := by decide +kernel
theorem dX12_puts_41 : decode cX12_puts 41 = .ok (.iastore, 1) := by decide +kernel
theorem dX12_puts_42 : decode cX12_puts 42 = .ok (.return_, 1) := by decide +kernel
set_option maxRecDepth 20000 in
theorem ggX12_makes_X12_fails : GoodIn wsX12_makes wsX12_fails := goodIn_r _ [6, 7, 8, 9, 10, 11, 12, 13, 14, 15, 16, 17, 18, 19, 20, 21, 22, 23, 24, 25, 26, 27, 28, 29, 30, 31, 32, 33, 34, 35, 36, 37, 38, 39, 40, 41, 42, 43, 44, 45] (by decide +kernel) (by decide +kernel)
set_option maxRecDepth 20000 in
theorem gX12_makes_X12_fails : GoodIn wsX12_makes (wsV RX12 111 RX12 yX12_fails wsX12_fails) := goodIn_app (goodIn_of _ (by decide +kernel)) ggX12_makes_X12_fails
theorem dX12_makes_0 : decode cX12_makes 0 = .ok (.aload_n 0, 1) := by decide +kernel
theorem dX12_makes_1 : decode cX12_makes 1 = .ok (.getfield 145, 3) := by decide +kernel
theorem dX12_makes_4 : decode cX12_makes 4 = .ok (.bipush 60, 2) := by decide +kernel
theorem dX12_makes_6 : decode cX12_makes 6 = .ok (.if_icmp .ne 10, 3) := by decide +kernel
theorem dX12_makes_9 : decode cX12_makes 9 = .ok (.aload_n 0, 1) := by decide +kernel
theorem dX12_makes_10 : decode cX12_makes 10 = .ok (.iconst 3, 1) := by decide +kernel
theorem dX12_makes_11 : decode cX12_makes 11 = .ok (.iload_n 1, 1) := by decide +kernel
theorem dX12_makes_12 : decode cX12_makes 12 = .ok (.invokevirtual 111, 3) := by decide +kernel
theorem dX12_makes_15 : decode cX12_makes 15 = .ok (.ireturn, 1) := by decide +kernel
theorem dX12_makes_16 : decode cX12_makes 16 = .ok (.aload_n 0, 1) := by decide +kernel
theorem dX12_makes_17 : decode cX12_makes 17 = .ok (.dup, 1) := by decide +kernel
theorem dX12_makes_18 : decode cX12_makes 18 = .ok (.getfield 145, 3) := by decide +kernel
theorem dX12_makes_21 : decode cX12_makes 21 = .ok (.iconst 1, 1) := by decide +kernel
theorem dX12_makes_22 : decode cX12_makes 22 = .ok (.iadd, 1) := by decide +kernel
theorem dX12_makes_23 : decode cX12_makes 23 = .ok (.putfield 145, 3) := by decide +kernel
theorem dX12_makes_26 : decode cX12_makes 26 = .ok (.iconst 1, 1) := by decide +kernel
theorem dX12_makes_27 : decode cX12_makes 27 = .ok (.ireturn, 1) := by decide +kernel
set_option maxRecDepth 20000 in
theorem ggX12_opens_X12_fails : GoodIn wsX12_opens wsX12_fails := goodIn_r _ [9, 10, 11, 12, 13, 14, 15, 16, 17, 18, 19, 20, 21, 22, 23, 24, 25, 26, 27, 28, 29, 30, 31, 32, 33, 34, 35, 36, 37, 38, 39, 40, 41, 42, 43, 44, 45, 46, 47, 48] (by decide +kernel) (by decide +kernel)
set_option maxRecDepth 20000 in
theorem gX12_opens_X12_fails : GoodIn wsX12_opens (wsV RX12 111 RX12 yX12_fails wsX12_fails) := goodIn_app (goodIn_of _ (by decide +kernel)) ggX12_opens_X12_fails
theorem dX12_opens_0 : decode cX12_opens 0 = .ok (.aload_n 0, 1) := by decide +kernel
theorem dX12_opens_1 : decode cX12_opens 1 = .ok (.getfield 148, 3) := by decide +kernel
theorem dX12_opens_4 : decode cX12_opens 4 = .ok (.bipush 10, 2) := by decide +kernel
theorem dX12_opens_6 : decode cX12_opens 6 = .ok (.if_icmp .ne 13, 3) := by decide +kernel
theorem dX12_opens_9 : decode cX12_opens 9 = .ok (.aload_n 0, 1) := by decide +kernel
theorem dX12_opens_10 : decode cX12_opens 10 = .ok (.iconst 2, 1) := by decide +kernel
theorem dX12_opens_11 : decode cX12_opens 11 = .ok (.aload_n 0, 1) := by decide +kernel
theorem dX12_opens_12 : decode cX12_opens 12 = .ok (.getfield 90, 3) := by decide +kernel
theorem dX12_opens_15 : decode cX12_opens 15 = .ok (.invokevirtual 111, 3) := by decide +kernel
theorem dX12_opens_18 : decode cX12_opens 18 = .ok (.ireturn, 1) := by decide +kernel
theorem dX12_opens_19 : decode cX12_opens 19 = .ok (.aload_n 0, 1) := by decide +kernel
theorem dX12_opens_20 : decode cX12_opens 20 = .ok (.dup, 1) := by decide +kernel
theorem dX12_opens_21 : decode cX12_opens 21 = .ok (.getfield 148, 3) := by decide +kernel
theorem dX12_opens_24 : decode cX12_opens 24 = .ok (.iconst 1, 1) := by decide +kernel
theorem dX12_opens_25 : decode cX12_opens 25 = .ok (.iadd, 1) := by decide +kernel
theorem dX12_opens_26 : decode cX12_opens 26 = .ok (.putfield 148, 3) := by decide +kernel
theorem dX12_opens_29 : decode cX12_opens 29 = .ok (.aload_n 0, 1) := by decide +kernel
theorem dX12_opens_30 : decode cX12_opens 30 = .ok (.getfield 29, 3) := by decide +kernel
theorem dX12_opens_33 : decode cX12_opens 33 = .ok (.aload_n 0, 1) := by decide +kernel
theorem dX12_opens_34 : decode cX12_opens 34 = .ok (.getfield 151, 3) := by decide +kernel
theorem dX12_opens_37 : decode cX12_opens 37 = .ok (.iload_n 1, 1) := by decide +kernel
theorem dX12_opens_38 : decode cX12_opens 38 = .ok (.iastore, 1) := by decide +kernel
theorem dX12_opens_39 : decode cX12_opens 39 = .ok (.aload_n 0, 1) := by decide +kernel
theorem dX12_opens_40 : decode cX12_opens 40 = .ok (.dup, 1) := by decide +kernel
theorem dX12_opens_41 : decode cX12_opens 41 = .ok (.getfield 151, 3) := by decide +kernel
theorem dX12_opens_44 : decode cX12_opens 44 = .ok (.iconst 1, 1) := by decide +kernel
theorem dX12_opens_45 : decode cX12_opens 45 = .ok (.iadd, 1) := by decide +kernel
theorem dX12_opens_46 : decode cX12_opens 46 = .ok (.putfield 151, 3) := by decide +kernel
theorem dX12_opens_49 : decode cX12_opens 49 = .ok (.iconst 1, 1) := by decide +kernel
theorem dX12_opens_50 : decode cX12_opens 50 = .ok (.ireturn, 1) := by decide +kernel
theorem dX12_strength_0 : decode cX12_strength 0 = .ok (.iload_n 0, 1) := by decide +kernel
theorem dX12_strength_1 : decode cX12_strength 1 = .ok (.bipush 13, 2) := by decide +kernel
theorem dX12_strength_3 : decode cX12_strength 3 = .ok (.if_icmp .ne 7, 3) := by decide +kernel
theorem dX12_strength_6 : decode cX12_strength 6 = .ok (.iconst 1, 1) := by decide +kernel
theorem dX12_strength_7 : decode cX12_strength 7 = .ok (.goto 24, 3) := by decide +kernel
theorem dX12_strength_10 : decode cX12_strength 10 = .ok (.iload_n 0, 1) := by decide +kernel
theorem dX12_strength_11 : decode cX12_strength 11 = .ok (.bipush 12, 2) := by decide +kernel
theorem dX12_strength_13 : decode cX12_strength 13 = .ok (.if_icmp .ne 7, 3) := by decide +kernel
theorem dX12_strength_16 : decode cX12_strength 16 = .ok (.iconst 2, 1) := by decide +kernel
theorem dX12_strength_17 : decode cX12_strength 17 = .ok (.goto 14, 3) := by decide +kernel
theorem dX12_strength_20 : decode cX12_strength 20 = .ok (.iload_n 0, 1) := by decide +kernel
theorem dX12_strength_21 : decode cX12_strength 21 = .ok (.bipush 11, 2) := by decide +kernel
theorem dX12_strength_23 : decode cX12_strength 23 = .ok (.if_icmp .ne 7, 3) := by decide +kernel
theorem dX12_strength_26 : decode cX12_strength 26 = .ok (.iconst 3, 1) := by decide +kernel
theorem dX12_strength_27 : decode cX12_strength 27 = .ok (.goto 4, 3) := by decide +kernel
theorem dX12_strength_30 : decode cX12_strength 30 = .ok (.iconst 0, 1) := by decide +kernel
theorem dX12_strength_31 : decode cX12_strength 31 = .ok (.ireturn, 1) := by decide +kernel
set_option maxRecDepth 20000 in
theorem ggX12_settles_X12_strength : GoodIn wsX12_settles wsX12_strength := goodIn_r _ [7] (by decide +kernel) (by decide +kernel)
set_option maxRecDepth 20000 in
theorem gX12_settles_X12_strength : GoodIn wsX12_settles (va_wsS RX12 154 yX12_strength wsX12_strength) := goodIn_app (goodIn_of _ (by decide +kernel)) ggX12_settles_X12_strength
set_option maxRecDepth 20000 in
theorem ggX12_settles_X12_puts : GoodIn wsX12_settles wsX12_puts := goodIn_r _ [11, 12, 13, 14, 15, 16, 17, 18, 19, 20, 21, 22, 23, 24, 25, 26, 27, 28, 29, 30, 31, 32, 33, 34, 35, 36, 37, 38, 39, 40, 41, 42, 43, 44, 45, 46, 47, 48, 49, 50, 51, 52] (by decide +kernel) (by decide +kernel)
set_option maxRecDepth 20000 in
theorem gX12_settles_X12_puts : GoodIn wsX12_settles (wsV RX12 158 RX12 yX12_puts wsX12_puts) := goodIn_app (goodIn_of _ (by decide +kernel)) ggX12_settles_X12_puts
theorem dX12_settles_0 : decode cX12_settles 0 = .ok (.aload_n 0, 1) := by decide +kernel
theorem dX12_settles_1 : decode cX12_settles 1 = .ok (.getfield 151, 3) := by decide +kernel
theorem dX12_settles_4 : decode cX12_settles 4 = .ok (.ifCond .le 72, 3) := by decide +kernel
theorem dX12_settles_7 : decode cX12_settles 7 = .ok (.aload_n 0, 1) := by decide +kernel
theorem dX12_settles_8 : decode cX12_settles 8 = .ok (.getfield 29, 3) := by decide +kernel
theorem dX12_settles_11 : decode cX12_settles 11 = .ok (.aload_n 0, 1) := by decide +kernel
theorem dX12_settles_12 : decode cX12_settles 12 = .ok (.getfield 151, 3) := by decide +kernel
theorem dX12_settles_15 : decode cX12_settles 15 = .ok (.iconst 1, 1) := by decide +kernel
theorem dX12_settles_16 : decode cX12_settles 16 = .ok (.isub, 1) := by decide +kernel
theorem dX12_settles_17 : decode cX12_settles 17 = .ok (.iaload, 1) := by decide +kernel
theorem dX12_settles_18 : decode cX12_settles 18 = .ok (.invokestatic 154, 3) := by decide +kernel
theorem dX12_settles_21 : decode cX12_settles 21 = .ok (.iload_n 1, 1) := by decide +kernel
theorem dX12_settles_22 : decode cX12_settles 22 = .ok (.if_icmp .lt 54, 3) := by decide +kernel
theorem dX12_settles_25 : decode cX12_settles 25 = .ok (.aload_n 0, 1) := by decide +kernel
theorem dX12_settles_26 : decode cX12_settles 26 = .ok (.dup, 1) := by decide +kernel
theorem dX12_settles_27 : decode cX12_settles 27 = .ok (.getfield 151, 3) := by decide +kernel
theorem dX12_settles_30 : decode cX12_settles 30 = .ok (.iconst 1, 1) := by decide +kernel
theorem dX12_settles_31 : decode cX12_settles 31 = .ok (.isub, 1) := by decide +kernel
theorem dX12_settles_32 : decode cX12_settles 32 = .ok (.putfield 151, 3) := by decide +kernel
theorem dX12_settles_35 : decode cX12_settles 35 = .ok (.aload_n 0, 1) := by decide +kernel
theorem dX12_settles_36 : decode cX12_settles 36 = .ok (.aload_n 0, 1) := by decide +kernel
theorem dX12_settles_37 : decode cX12_settles 37 = .ok (.getfield 29, 3) := by decide +kernel
theorem dX12_settles_40 : decode cX12_settles 40 = .ok (.aload_n 0, 1) := by decide +kernel
theorem dX12_settles_41 : decode cX12_settles 41 = .ok (.getfield 151, 3) := by decide +kernel
theorem dX12_settles_44 : decode cX12_settles 44 = .ok (.iaload, 1) := by decide +kernel
theorem dX12_settles_45 : decode cX12_settles 45 = .ok (.iconst 0, 1) := by decide +kernel
theorem dX12_settles_46 : decode cX12_settles 46 = .ok (.invokevirtual 158, 3) := by decide +kernel
theorem dX12_settles_49 : decode cX12_settles 49 = .ok (.aload_n 0, 1) := by decide +kernel
theorem dX12_settles_50 : decode cX12_settles 50 = .ok (.getfield 29, 3) := by decide +kernel
theorem dX12_settles_53 : decode cX12_settles 53 = .ok (.aload_n 0, 1) := by decide +kernel
theorem dX12_settles_54 : decode cX12_settles 54 = .ok (.getfield 151, 3) := by decide +kernel
theorem dX12_settles_57 : decode cX12_settles 57 = .ok (.iaload, 1) := by decide +kernel
theorem dX12_settles_58 : decode cX12_settles 58 = .ok (.bipush 11, 2) := by decide +kernel
theorem dX12_settles_60 : decode cX12_settles 60 = .ok (.if_icmp .ne (-60), 3) := by decide +kernel
theorem dX12_settles_63 : decode cX12_settles 63 = .ok (.aload_n 0, 1) := by decide +kernel
theorem dX12_settles_64 : decode cX12_settles 64 = .ok (.dup, 1) := by decide +kernel
theorem dX12_settles_65 : decode cX12_settles 65 = .ok (.getfield 148, 3) := by decide +kernel
theorem dX12_settles_68 : decode cX12_settles 68 = .ok (.iconst 1, 1) := by decide +kernel
theorem dX12_settles_69 : decode cX12_settles 69 = .ok (.isub, 1) := by decide +kernel
theorem dX12_settles_70 : decode cX12_settles 70 = .ok (.putfield 148, 3) := by decide +kernel
theorem dX12_settles_73 : decode cX12_settles 73 = .ok (.goto (-73), 3) := by decide +kernel
theorem dX12_settles_76 : decode cX12_settles 76 = .ok (.return_, 1) := by decide +kernel
set_option maxRecDepth 20000 in
theorem ggX12_value_X12_see : GoodIn wsX12_value wsX12_see := goodIn_r _ [8, 1, 9, 10, 65, 66, 67, 68, 69, 70, 71, 72, 73, 74, 75, 76, 77, 78, 79, 80, 81, 82, 83, 84, 85, 86, 87, 88, 89, 90, 91, 92, 93, 94, 95, 96, 97, 98, 99, 100, 101, 102] (by decide +kernel) (by decide +kernel)
set_option maxRecDepth 20000 in
theorem gX12_value_X12_see : GoodIn wsX12_value (wsV RX12 93 RX12 yX12_see wsX12_see) := goodIn_app (goodIn_of _ (by decide +kernel)) ggX12_value_X12_see
set_option maxRecDepth 20000 in
theorem ggX12_value_X12_isDigit : GoodIn wsX12_value wsX12_isDigit := goodIn_r _ [14, 9, 10, 65, 66, 67, 68, 69, 70, 71, 72, 73, 74, 75, 76, 77, 78, 79, 80, 81, 82, 83, 84, 85, 86, 87, 88, 89, 90, 91, 92, 93, 94, 95, 96, 97, 98, 99, 100, 101, 102] (by decide +kernel) (by decide +kernel)
set_option maxRecDepth 20000 in
theorem gX12_value_X12_isDigit : GoodIn wsX12_value (wsV RX12 108 RX12 yX12_isDigit wsX12_isDigit) := goodIn_app (goodIn_of _ (by decide +kernel)) ggX12_value_X12_isDigit
set_option maxRecDepth 20000 in
theorem ggX12_value_X12_numberHere : GoodIn wsX12_value wsX12_numberHere := goodIn_r _ [18, 1, 10, 3, 4, 5, 6, 7, 8, 9, 11, 12, 13, 14, 19, 20, 21, 22, 23, 24, 25, 26, 65, 66, 67, 68, 69, 70, 71, 72, 73, 74, 75, 76, 77, 78, 79, 80, 81, 82, 83, 84, 85, 86, 87, 88, 89, 90, 91, 92, 93, 94, 95, 96, 97, 98, 99, 100, 101, 102] (by decide +kernel) (by decide +kernel)
set_option maxRecDepth 20000 in
theorem gX12_value_X12_numberHere : GoodIn wsX12_value (wsV RX12 163 RX12 yX12_numberHere wsX12_numberHere) := goodIn_app (goodIn_of _ (by decide +kernel)) ggX12_value_X12_numberHere
set_option maxRecDepth 20000 in
theorem ggX12_value_X12_makes : GoodIn wsX12_value wsX12_makes := goodIn_r _ [30, 31, 19, 20, 21, 7, 22, 23, 65, 66, 67, 68, 69, 70, 71, 72, 73, 74, 75, 76, 77, 78, 79, 80, 81, 82, 83, 84, 85, 86, 87, 88, 89, 90, 91, 92, 93, 94, 95, 96, 97, 98, 99, 100, 101, 102] (by decide +kernel) (by decide +kernel)
set_option maxRecDepth 20000 in
theorem gX12_value_X12_makes : GoodIn wsX12_value (wsV RX12 166 RX12 yX12_makes wsX12_makes) := goodIn_app (goodIn_of _ (by decide +kernel)) ggX12_value_X12_makes
set_option maxRecDepth 20000 in
theorem ggX12_value_X12_puts : GoodIn wsX12_value wsX12_puts := goodIn_r _ [35, 36, 37, 38, 65, 66, 67, 68, 69, 70, 71, 72, 73, 74, 75, 76, 77, 78, 79, 80, 81, 82, 83, 84, 85, 86, 87, 88, 89, 90, 91, 92, 93, 94, 95, 96, 97, 98, 99, 100, 101, 102] (by decide +kernel) (by decide +kernel)
set_option maxRecDepth 20000 in
theorem gX12_value_X12_puts : GoodIn wsX12_value (wsV RX12 158 RX12 yX12_puts wsX12_puts) := goodIn_app (goodIn_of _ (by decide +kernel)) ggX12_value_X12_puts
set_option maxRecDepth 20000 in
theorem ggX12_value_X12_wordHere : GoodIn wsX12_value wsX12_wordHere := goodIn_r _ [42, 43, 44, 45, 46, 47, 48, 49, 50, 51, 52, 53, 54, 55, 7, 56, 1, 10, 4, 5, 6, 8, 9, 57, 58, 59, 60, 65, 66, 67, 68, 69, 70, 71, 72, 73, 74, 75, 76, 77, 78, 79, 80, 81, 82, 83, 84, 85, 86, 87, 88, 89, 90, 91, 92, 93, 94, 95, 96, 97, 98, 99, 100, 101, 102] (by decide +kernel) (by decide +kernel)
set_option maxRecDepth 20000 in
theorem gX12_value_X12_wordHere : GoodIn wsX12_value (wsV RX12 169 RX12 yX12_wordHere wsX12_wordHere) := goodIn_app (goodIn_of _ (by decide +kernel)) ggX12_value_X12_wordHere
set_option maxRecDepth 20000 in
theorem ggX12_value_X12_fails : GoodIn wsX12_value wsX12_fails := goodIn_r _ [22, 23, 65, 66, 67, 68, 69, 70, 71, 72, 73, 74, 75, 76, 77, 78, 79, 80, 81, 82, 83, 84, 85, 86, 87, 88, 89, 90, 91, 92, 93, 94, 95, 96, 97, 98, 99, 100, 101, 102] (by decide +kernel) (by decide +kernel)
set_option maxRecDepth 20000 in
theorem gX12_value_X12_fails : GoodIn wsX12_value (wsV RX12 111 RX12 yX12_fails wsX12_fails) := goodIn_app (goodIn_of _ (by decide +kernel)) ggX12_value_X12_fails
set_option maxRecDepth 20000 in
theorem ggX12_value_X12_passWord : GoodIn wsX12_value wsX12_passWord := goodIn_r _ [64, 1, 57, 58, 59, 7, 60, 9, 10, 65, 66, 67, 68, 69, 70, 71, 72, 73, 74, 75, 76, 77, 78, 79, 80, 81, 82, 83, 84, 85, 86, 87, 88, 89, 90, 91, 92, 93, 94, 95, 96, 97, 98, 99, 100, 101, 102] (by decide +kernel) (by decide +kernel)
set_option maxRecDepth 20000 in
theorem gX12_value_X12_passWord : GoodIn wsX12_value (wsV RX12 105 RX12 yX12_passWord wsX12_passWord) := goodIn_app (goodIn_of _ (by decide +kernel)) ggX12_value_X12_passWord
theorem dX12_value_0 : decode cX12_value 0 = .ok (.aload_n 0, 1) := by decide +kernel
theorem dX12_value_1 : decode cX12_value 1 = .ok (.invokevirtual 93, 3) := by decide +kernel
theorem dX12_value_4 : decode cX12_value 4 = .ok (.pop, 1) := by decide +kernel
theorem dX12_value_5 : decode cX12_value 5 = .ok (.aload_n 0, 1) := by decide +kernel
theorem dX12_value_6 : decode cX12_value 6 = .ok (.getfield 90, 3) := by decide +kernel
theorem dX12_value_9 : decode cX12_value 9 = .ok (.istore_n 1, 1) := by decide +kernel
theorem dX12_value_10 : decode cX12_value 10 = .ok (.aload_n 0, 1) := by decide +kernel
theorem dX12_value_11 : decode cX12_value 11 = .ok (.aload_n 0, 1) := by decide +kernel
theorem dX12_value_12 : decode cX12_value 12 = .ok (.getfield 90, 3) := by decide +kernel
theorem dX12_value_15 : decode cX12_value 15 = .ok (.invokevirtual 108, 3) := by decide +kernel
theorem dX12_value_18 : decode cX12_value 18 = .ok (.ifCond .eq 34, 3) := by decide +kernel
theorem dX12_value_21 : decode cX12_value 21 = .ok (.aload_n 0, 1) := by decide +kernel
theorem dX12_value_22 : decode cX12_value 22 = .ok (.iconst 0, 1) := by decide +kernel
theorem dX12_value_23 : decode cX12_value 23 = .ok (.ldc 162, 2) := by decide +kernel
theorem dX12_value_25 : decode cX12_value 25 = .ok (.invokevirtual 163, 3) := by decide +kernel
theorem dX12_value_28 : decode cX12_value 28 = .ok (.ifCond .eq 11, 3) := by decide +kernel
theorem dX12_value_31 : decode cX12_value 31 = .ok (.aload_n 0, 1) := by decide +kernel
theorem dX12_value_32 : decode cX12_value 32 = .ok (.iload_n 1, 1) := by decide +kernel
theorem dX12_value_33 : decode cX12_value 33 = .ok (.invokevirtual 166, 3) := by decide +kernel
theorem dX12_value_36 : decode cX12_value 36 = .ok (.ifCond .ne 5, 3) := by decide +kernel
theorem dX12_value_39 : decode cX12_value 39 = .ok (.iconst 0, 1) := by decide +kernel
theorem dX12_value_40 : decode cX12_value 40 = .ok (.ireturn, 1) := by decide +kernel
theorem dX12_value_41 : decode cX12_value 41 = .ok (.aload_n 0, 1) := by decide +kernel
theorem dX12_value_42 : decode cX12_value 42 = .ok (.iconst 0, 1) := by decide +kernel
theorem dX12_value_43 : decode cX12_value 43 = .ok (.aload_n 0, 1) := by decide +kernel
theorem dX12_value_44 : decode cX12_value 44 = .ok (.getfield 115, 3) := by decide +kernel
theorem dX12_value_47 : decode cX12_value 47 = .ok (.invokevirtual 158, 3) := by decide +kernel
theorem dX12_value_50 : decode cX12_value 50 = .ok (.iconst 1, 1) := by decide +kernel
theorem dX12_value_51 : decode cX12_value 51 = .ok (.ireturn, 1) := by decide +kernel
theorem dX12_value_52 : decode cX12_value 52 = .ok (.aload_n 0, 1) := by decide +kernel
theorem dX12_value_53 : decode cX12_value 53 = .ok (.invokevirtual 169, 3) := by decide +kernel
theorem dX12_value_56 : decode cX12_value 56 = .ok (.istore_n 2, 1) := by decide +kernel
theorem dX12_value_57 : decode cX12_value 57 = .ok (.iload_n 2, 1) := by decide +kernel
theorem dX12_value_58 : decode cX12_value 58 = .ok (.ifCond .ge 10, 3) := by decide +kernel
theorem dX12_value_61 : decode cX12_value 61 = .ok (.aload_n 0, 1) := by decide +kernel
theorem dX12_value_62 : decode cX12_value 62 = .ok (.iconst 0, 1) := by decide +kernel
theorem dX12_value_63 : decode cX12_value 63 = .ok (.iload_n 1, 1) := by decide +kernel
theorem dX12_value_64 : decode cX12_value 64 = .ok (.invokevirtual 111, 3) := by decide +kernel
theorem dX12_value_67 : decode cX12_value 67 = .ok (.ireturn, 1) := by decide +kernel
theorem dX12_value_68 : decode cX12_value 68 = .ok (.aload_n 0, 1) := by decide +kernel
theorem dX12_value_69 : decode cX12_value 69 = .ok (.iload_n 1, 1) := by decide +kernel
theorem dX12_value_70 : decode cX12_value 70 = .ok (.invokevirtual 166, 3) := by decide +kernel
theorem dX12_value_73 : decode cX12_value 73 = .ok (.ifCond .ne 5, 3) := by decide +kernel
theorem dX12_value_76 : decode cX12_value 76 = .ok (.iconst 0, 1) := by decide +kernel
theorem dX12_value_77 : decode cX12_value 77 = .ok (.ireturn, 1) := by decide +kernel
theorem dX12_value_78 : decode cX12_value 78 = .ok (.aload_n 0, 1) := by decide +kernel
theorem dX12_value_79 : decode cX12_value 79 = .ok (.invokevirtual 105, 3) := by decide +kernel
theorem dX12_value_82 : decode cX12_value 82 = .ok (.aload_n 0, 1) := by decide +kernel
theorem dX12_value_83 : decode cX12_value 83 = .ok (.iconst 1, 1) := by decide +kernel
theorem dX12_value_84 : decode cX12_value 84 = .ok (.iload_n 2, 1) := by decide +kernel
theorem dX12_value_85 : decode cX12_value 85 = .ok (.invokevirtual 158, 3) := by decide +kernel
theorem dX12_value_88 : decode cX12_value 88 = .ok (.iconst 1, 1) := by decide +kernel
theorem dX12_value_89 : decode cX12_value 89 = .ok (.ireturn, 1) := by decide +kernel
set_option maxRecDepth 20000 in
theorem ggX12_term_X12_value : GoodIn wsX12_term wsX12_value := goodIn_r _ [7, 2, 8, 9, 10, 11, 12, 6, 13, 14, 1, 15, 16, 17, 18, 19, 20, 21, 22, 23, 24, 25, 26, 27, 28, 29, 30, 31, 32, 33, 34, 35, 36, 37, 38, 39, 40, 41, 42, 43, 44, 45, 46, 47, 48, 49, 50, 51, 52, 53, 54, 55, 56, 57, 58, 59, 60, 61, 62, 63, 64, 65, 66, 67, 68, 69, 70, 71, 72, 73, 74, 75, 76, 77, 78, 79, 80, 81, 82, 83, 84, 85, 86, 87, 88, 89, 90, 91, 92, 93, 94, 95, 96, 97, 98, 99, 100, 101, 102, 103, 104, 105, 106] (by decide +kernel) (by decide +kernel)
set_option maxRecDepth 20000 in
theorem gX12_term_X12_value : GoodIn wsX12_term (wsV RX12 172 RX12 yX12_value wsX12_value) := goodIn_app (goodIn_of _ (by decide +kernel)) ggX12_term_X12_value
set_option maxRecDepth 20000 in
theorem ggX12_term_X12_see : GoodIn wsX12_term wsX12_see := goodIn_r _ [13, 2, 14, 1, 69, 70, 71, 72, 73, 74, 75, 76, 77, 78, 79, 80, 81, 82, 83, 84, 85, 86, 87, 88, 89, 90, 91, 92, 93, 94, 95, 96, 97, 98, 99, 100, 101, 102, 103, 104, 105, 106] (by decide +kernel) (by decide +kernel)
set_option maxRecDepth 20000 in
theorem gX12_term_X12_see : GoodIn wsX12_term (wsV RX12 93 RX12 yX12_see wsX12_see) := goodIn_app (goodIn_of _ (by decide +kernel)) ggX12_term_X12_see
set_option maxRecDepth 20000 in
theorem ggX12_term_X12_puts : GoodIn wsX12_term wsX12_puts := goodIn_r _ [39, 40, 41, 42, 69, 70, 71, 72, 73, 74, 75, 76, 77, 78, 79, 80, 81, 82, 83, 84, 85, 86, 87, 88, 89, 90, 91, 92, 93, 94, 95, 96, 97, 98, 99, 100, 101, 102, 103, 104, 105, 106] (by decide +kernel) (by decide +kernel)
set_option maxRecDepth 20000 in
theorem gX12_term_X12_puts : GoodIn wsX12_term (wsV RX12 158 RX12 yX12_puts wsX12_puts) := goodIn_app (goodIn_of _ (by decide +kernel)) ggX12_term_X12_puts
theorem dX12_term_0 : decode cX12_term 0 = .ok (.aload_n 0, 1) := by decide +kernel
theorem dX12_term_1 : decode cX12_term 1 = .ok (.invokevirtual 172, 3) := by decide +kernel
theorem dX12_term_4 : decode cX12_term 4 = .ok (.ifCond .ne 5, 3) := by decide +kernel
theorem dX12_term_7 : decode cX12_term 7 = .ok (.iconst 0, 1) := by decide +kernel
theorem dX12_term_8 : decode cX12_term 8 = .ok (.ireturn, 1) := by decide +kernel
theorem dX12_term_9 : decode cX12_term 9 = .ok (.aload_n 0, 1) := by decide +kernel
theorem dX12_term_10 : decode cX12_term 10 = .ok (.invokevirtual 93, 3) := by decide +kernel
theorem dX12_term_13 : decode cX12_term 13 = .ok (.bipush 42, 2) := by decide +kernel
theorem dX12_term_15 : decode cX12_term 15 = .ok (.if_icmp .eq 21, 3) := by decide +kernel
theorem dX12_term_18 : decode cX12_term 18 = .ok (.aload_n 0, 1) := by decide +kernel
theorem dX12_term_19 : decode cX12_term 19 = .ok (.invokevirtual 93, 3) := by decide +kernel
theorem dX12_term_22 : decode cX12_term 22 = .ok (.bipush 47, 2) := by decide +kernel
theorem dX12_term_24 : decode cX12_term 24 = .ok (.if_icmp .eq 12, 3) := by decide +kernel
theorem dX12_term_27 : decode cX12_term 27 = .ok (.aload_n 0, 1) := by decide +kernel
theorem dX12_term_28 : decode cX12_term 28 = .ok (.invokevirtual 93, 3) := by decide +kernel
theorem dX12_term_31 : decode cX12_term 31 = .ok (.bipush 37, 2) := by decide +kernel
theorem dX12_term_33 : decode cX12_term 33 = .ok (.if_icmp .ne 70, 3) := by decide +kernel
theorem dX12_term_36 : decode cX12_term 36 = .ok (.aload_n 0, 1) := by decide +kernel
theorem dX12_term_37 : decode cX12_term 37 = .ok (.getfield 7, 3) := by decide +kernel
theorem dX12_term_40 : decode cX12_term 40 = .ok (.aload_n 0, 1) := by decide +kernel
theorem dX12_term_41 : decode cX12_term 41 = .ok (.getfield 90, 3) := by decide +kernel
theorem dX12_term_44 : decode cX12_term 44 = .ok (.baload, 1) := by decide +kernel
theorem dX12_term_45 : decode cX12_term 45 = .ok (.bipush 42, 2) := by decide +kernel
theorem dX12_term_47 : decode cX12_term 47 = .ok (.if_icmp .ne 7, 3) := by decide +kernel
theorem dX12_term_50 : decode cX12_term 50 = .ok (.iconst 4, 1) := by decide +kernel
theorem dX12_term_51 : decode cX12_term 51 = .ok (.goto 23, 3) := by decide +kernel
theorem dX12_term_54 : decode cX12_term 54 = .ok (.aload_n 0, 1) := by decide +kernel
theorem dX12_term_55 : decode cX12_term 55 = .ok (.getfield 7, 3) := by decide +kernel
theorem dX12_term_58 : decode cX12_term 58 = .ok (.aload_n 0, 1) := by decide +kernel
theorem dX12_term_59 : decode cX12_term 59 = .ok (.getfield 90, 3) := by decide +kernel
theorem dX12_term_62 : decode cX12_term 62 = .ok (.baload, 1) := by decide +kernel
theorem dX12_term_63 : decode cX12_term 63 = .ok (.bipush 47, 2) := by decide +kernel
theorem dX12_term_65 : decode cX12_term 65 = .ok (.if_icmp .ne 7, 3) := by decide +kernel
theorem dX12_term_68 : decode cX12_term 68 = .ok (.iconst 5, 1) := by decide +kernel
theorem dX12_term_69 : decode cX12_term 69 = .ok (.goto 5, 3) := by decide +kernel
theorem dX12_term_72 : decode cX12_term 72 = .ok (.bipush 14, 2) := by decide +kernel
theorem dX12_term_74 : decode cX12_term 74 = .ok (.istore_n 1, 1) := by decide +kernel
theorem dX12_term_75 : decode cX12_term 75 = .ok (.aload_n 0, 1) := by decide +kernel
theorem dX12_term_76 : decode cX12_term 76 = .ok (.dup, 1) := by decide +kernel
theorem dX12_term_77 : decode cX12_term 77 = .ok (.getfield 90, 3) := by decide +kernel
theorem dX12_term_80 : decode cX12_term 80 = .ok (.iconst 1, 1) := by decide +kernel
theorem dX12_term_81 : decode cX12_term 81 = .ok (.iadd, 1) := by decide +kernel
theorem dX12_term_82 : decode cX12_term 82 = .ok (.putfield 90, 3) := by decide +kernel
theorem dX12_term_85 : decode cX12_term 85 = .ok (.aload_n 0, 1) := by decide +kernel
theorem dX12_term_86 : decode cX12_term 86 = .ok (.invokevirtual 172, 3) := by decide +kernel
theorem dX12_term_89 : decode cX12_term 89 = .ok (.ifCond .ne 5, 3) := by decide +kernel
theorem dX12_term_92 : decode cX12_term 92 = .ok (.iconst 0, 1) := by decide +kernel
theorem dX12_term_93 : decode cX12_term 93 = .ok (.ireturn, 1) := by decide +kernel
theorem dX12_term_94 : decode cX12_term 94 = .ok (.aload_n 0, 1) := by decide +kernel
theorem dX12_term_95 : decode cX12_term 95 = .ok (.iload_n 1, 1) := by decide +kernel
theorem dX12_term_96 : decode cX12_term 96 = .ok (.iconst 0, 1) := by decide +kernel
theorem dX12_term_97 : decode cX12_term 97 = .ok (.invokevirtual 158, 3) := by decide +kernel
theorem dX12_term_100 : decode cX12_term 100 = .ok (.goto (-91), 3) := by decide +kernel
theorem dX12_term_103 : decode cX12_term 103 = .ok (.iconst 1, 1) := by decide +kernel
theorem dX12_term_104 : decode cX12_term 104 = .ok (.ireturn, 1) := by decide +kernel
set_option maxRecDepth 20000 in
theorem ggX12_sum_X12_term : GoodIn wsX12_sum wsX12_term := goodIn_r _ [7, 1, 2, 8, 9, 10, 6, 11, 12, 13, 14, 15, 16, 17, 18, 19, 20, 21, 22, 23, 24, 25, 26, 27, 28, 29, 30, 31, 32, 33, 34, 35, 36, 37, 38, 39, 40, 41, 42, 43, 44, 45, 46, 47, 48, 49, 50, 51, 52, 53, 54, 55, 56, 57, 58, 59, 60, 61, 62, 63, 64, 65, 66, 67, 68, 69, 70, 71, 72, 73, 74, 75, 76, 77, 78, 79, 80, 81, 82, 83, 84, 85, 86, 87, 88, 89, 90, 91, 92, 93, 94, 95, 96, 97, 98, 99, 100, 101, 102, 103, 104, 105, 106, 107, 108, 109, 110] (by decide +kernel) (by decide +kernel)
set_option maxRecDepth 20000 in
theorem gX12_sum_X12_term : GoodIn wsX12_sum (wsV RX12 176 RX12 yX12_term wsX12_term) := goodIn_app (goodIn_of _ (by decide +kernel)) ggX12_sum_X12_term
set_option maxRecDepth 20000 in
theorem ggX12_sum_X12_see : GoodIn wsX12_sum wsX12_see := goodIn_r _ [17, 2, 18, 1, 73, 74, 75, 76, 77, 78, 79, 80, 81, 82, 83, 84, 85, 86, 87, 88, 89, 90, 91, 92, 93, 94, 95, 96, 97, 98, 99, 100, 101, 102, 103, 104, 105, 106, 107, 108, 109, 110] (by decide +kernel) (by decide +kernel)
set_option maxRecDepth 20000 in
theorem gX12_sum_X12_see : GoodIn wsX12_sum (wsV RX12 93 RX12 yX12_see wsX12_see) := goodIn_app (goodIn_of _ (by decide +kernel)) ggX12_sum_X12_see
set_option maxRecDepth 20000 in
theorem ggX12_sum_X12_puts : GoodIn wsX12_sum wsX12_puts := goodIn_r _ [43, 44, 45, 46, 73, 74, 75, 76, 77, 78, 79, 80, 81, 82, 83, 84, 85, 86, 87, 88, 89, 90, 91, 92, 93, 94, 95, 96, 97, 98, 99, 100, 101, 102, 103, 104, 105, 106, 107, 108, 109, 110] (by decide +kernel) (by decide +kernel)
set_option maxRecDepth 20000 in
theorem gX12_sum_X12_puts : GoodIn wsX12_sum (wsV RX12 158 RX12 yX12_puts wsX12_puts) := goodIn_app (goodIn_of _ (by decide +kernel)) ggX12_sum_X12_puts
theorem dX12_sum_0 : decode cX12_sum 0 = .ok (.aload_n 0, 1) := by decide +kernel
theorem dX12_sum_1 : decode cX12_sum 1 = .ok (.invokevirtual 176, 3) := by decide +kernel
theorem dX12_sum_4 : decode cX12_sum 4 = .ok (.ifCond .ne 5, 3) := by decide +kernel
theorem dX12_sum_7 : decode cX12_sum 7 = .ok (.iconst 0, 1) := by decide +kernel
theorem dX12_sum_8 : decode cX12_sum 8 = .ok (.ireturn, 1) := by decide +kernel
theorem dX12_sum_9 : decode cX12_sum 9 = .ok (.aload_n 0, 1) := by decide +kernel
theorem dX12_sum_10 : decode cX12_sum 10 = .ok (.invokevirtual 93, 3) := by decide +kernel
theorem dX12_sum_13 : decode cX12_sum 13 = .ok (.bipush 43, 2) := by decide +kernel
theorem dX12_sum_15 : decode cX12_sum 15 = .ok (.if_icmp .eq 12, 3) := by decide +kernel
