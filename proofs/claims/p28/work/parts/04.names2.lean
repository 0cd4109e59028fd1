theorem dX5_canTake_8 : decode cX5_canTake 8 = .ok (.aload_n 0, 1) := by decide +kernel
theorem dX5_canTake_9 : decode cX5_canTake 9 = .ok (.getfield 21, 3) := by decide +kernel
theorem dX5_canTake_12 : decode cX5_canTake 12 = .ok (.iload_n 2, 1) := by decide +kernel
theorem dX5_canTake_13 : decode cX5_canTake 13 = .ok (.iaload, 1) := by decide +kernel
theorem dX5_canTake_14 : decode cX5_canTake 14 = .ok (.aload_n 0, 1) := by decide +kernel
theorem dX5_canTake_15 : decode cX5_canTake 15 = .ok (.getfield 9, 3) := by decide +kernel
theorem dX5_canTake_18 : decode cX5_canTake 18 = .ok (.iload_n 1, 1) := by decide +kernel
theorem dX5_canTake_19 : decode cX5_canTake 19 = .ok (.iaload, 1) := by decide +kernel
theorem dX5_canTake_20 : decode cX5_canTake 20 = .ok (.if_icmp .ne 15, 3) := by decide +kernel
theorem dX5_canTake_23 : decode cX5_canTake 23 = .ok (.aload_n 0, 1) := by decide +kernel
theorem dX5_canTake_24 : decode cX5_canTake 24 = .ok (.iload_n 1, 1) := by decide +kernel
theorem dX5_canTake_25 : decode cX5_canTake 25 = .ok (.invokevirtual 71, 3) := by decide +kernel
theorem dX5_canTake_28 : decode cX5_canTake 28 = .ok (.ifCond .eq 7, 3) := by decide +kernel
theorem dX5_canTake_31 : decode cX5_canTake 31 = .ok (.iconst 1, 1) := by decide +kernel
theorem dX5_canTake_32 : decode cX5_canTake 32 = .ok (.goto 4, 3) := by decide +kernel
theorem dX5_canTake_35 : decode cX5_canTake 35 = .ok (.iconst 0, 1) := by decide +kernel
theorem dX5_canTake_36 : decode cX5_canTake 36 = .ok (.ireturn, 1) := by decide +kernel
set_option maxRecDepth 20000 in
theorem ggX5_canGive_X5_isAtPlace : GoodIn wsX5_canGive wsX5_isAtPlace := goodIn_r _ [6, 7, 28, 29, 30, 31, 32, 33, 34, 35, 36] (by decide +kernel) (by decide +kernel)
set_option maxRecDepth 20000 in
theorem gX5_canGive_X5_isAtPlace : GoodIn wsX5_canGive (wsV RX5 61 RX5 yX5_isAtPlace wsX5_isAtPlace) := goodIn_app (goodIn_of _ (by decide +kernel)) ggX5_canGive_X5_isAtPlace
set_option maxRecDepth 20000 in
theorem ggX5_canGive_X5_canHoldMore : GoodIn wsX5_canGive wsX5_canHoldMore := goodIn_r _ [11, 2, 3, 4, 5, 6, 7, 12, 13, 14, 15, 16, 17, 18, 19, 20, 21, 22, 23, 24, 25, 26, 27, 28, 29, 30, 31, 32, 33, 34, 35, 36] (by decide +kernel) (by decide +kernel)
set_option maxRecDepth 20000 in
theorem gX5_canGive_X5_canHoldMore : GoodIn wsX5_canGive (wsV RX5 71 RX5 yX5_canHoldMore wsX5_canHoldMore) := goodIn_app (goodIn_of _ (by decide +kernel)) ggX5_canGive_X5_canHoldMore
theorem dX5_canGive_0 : decode cX5_canGive 0 = .ok (.aload_n 0, 1) := by decide +kernel
theorem dX5_canGive_1 : decode cX5_canGive 1 = .ok (.iload_n 1, 1) := by decide +kernel
theorem dX5_canGive_2 : decode cX5_canGive 2 = .ok (.invokevirtual 61, 3) := by decide +kernel
theorem dX5_canGive_5 : decode cX5_canGive 5 = .ok (.ifCond .eq 30, 3) := by decide +kernel
theorem dX5_canGive_8 : decode cX5_canGive 8 = .ok (.aload_n 0, 1) := by decide +kernel
theorem dX5_canGive_9 : decode cX5_canGive 9 = .ok (.getfield 9, 3) := by decide +kernel
theorem dX5_canGive_12 : decode cX5_canGive 12 = .ok (.iload_n 1, 1) := by decide +kernel
theorem dX5_canGive_13 : decode cX5_canGive 13 = .ok (.iaload, 1) := by decide +kernel
theorem dX5_canGive_14 : decode cX5_canGive 14 = .ok (.aload_n 0, 1) := by decide +kernel
theorem dX5_canGive_15 : decode cX5_canGive 15 = .ok (.getfield 9, 3) := by decide +kernel
theorem dX5_canGive_18 : decode cX5_canGive 18 = .ok (.iload_n 2, 1) := by decide +kernel
theorem dX5_canGive_19 : decode cX5_canGive 19 = .ok (.iaload, 1) := by decide +kernel
theorem dX5_canGive_20 : decode cX5_canGive 20 = .ok (.if_icmp .ne 15, 3) := by decide +kernel
theorem dX5_canGive_23 : decode cX5_canGive 23 = .ok (.aload_n 0, 1) := by decide +kernel
theorem dX5_canGive_24 : decode cX5_canGive 24 = .ok (.iload_n 2, 1) := by decide +kernel
theorem dX5_canGive_25 : decode cX5_canGive 25 = .ok (.invokevirtual 71, 3) := by decide +kernel
theorem dX5_canGive_28 : decode cX5_canGive 28 = .ok (.ifCond .eq 7, 3) := by decide +kernel
theorem dX5_canGive_31 : decode cX5_canGive 31 = .ok (.iconst 1, 1) := by decide +kernel
theorem dX5_canGive_32 : decode cX5_canGive 32 = .ok (.goto 4, 3) := by decide +kernel
theorem dX5_canGive_35 : decode cX5_canGive 35 = .ok (.iconst 0, 1) := by decide +kernel
theorem dX5_canGive_36 : decode cX5_canGive 36 = .ok (.ireturn, 1) := by decide +kernel
theorem dX5_giveTo_0 : decode cX5_giveTo 0 = .ok (.aload_n 0, 1) := by decide +kernel
theorem dX5_giveTo_1 : decode cX5_giveTo 1 = .ok (.getfield 24, 3) := by decide +kernel
theorem dX5_giveTo_4 : decode cX5_giveTo 4 = .ok (.iload_n 2, 1) := by decide +kernel
theorem dX5_giveTo_5 : decode cX5_giveTo 5 = .ok (.iload_n 1, 1) := by decide +kernel
theorem dX5_giveTo_6 : decode cX5_giveTo 6 = .ok (.iastore, 1) := by decide +kernel
theorem dX5_giveTo_7 : decode cX5_giveTo 7 = .ok (.aload_n 0, 1) := by decide +kernel
theorem dX5_giveTo_8 : decode cX5_giveTo 8 = .ok (.getfield 21, 3) := by decide +kernel
theorem dX5_giveTo_11 : decode cX5_giveTo 11 = .ok (.iload_n 2, 1) := by decide +kernel
theorem dX5_giveTo_12 : decode cX5_giveTo 12 = .ok (.iconst (-1), 1) := by decide +kernel
theorem dX5_giveTo_13 : decode cX5_giveTo 13 = .ok (.iastore, 1) := by decide +kernel
theorem dX5_giveTo_14 : decode cX5_giveTo 14 = .ok (.return_, 1) := by decide +kernel
set_option maxRecDepth 20000 in
theorem ggX5_roadFor_X5_isAtPlace : GoodIn wsX5_roadFor wsX5_isAtPlace := goodIn_r _ [6, 7, 17, 18, 19, 20, 21, 22, 23, 24, 25] (by decide +kernel) (by decide +kernel)
set_option maxRecDepth 20000 in
theorem gX5_roadFor_X5_isAtPlace : GoodIn wsX5_roadFor (wsV RX5 61 RX5 yX5_isAtPlace wsX5_isAtPlace) := goodIn_app (goodIn_of _ (by decide +kernel)) ggX5_roadFor_X5_isAtPlace
set_option maxRecDepth 20000 in
theorem ggX5_roadFor_X8_roadHours : GoodIn wsX5_roadFor wsX8_roadHours := goodIn_r _ [12, 13, 14, 15, 11, 16, 26, 27, 28, 29, 30, 31, 32, 33, 34, 35, 36, 37, 38, 39, 40, 41, 42, 43, 44] (by decide +kernel) (by decide +kernel)
set_option maxRecDepth 20000 in
theorem gX5_roadFor_X8_roadHours : GoodIn wsX5_roadFor (wsV RX5 74 RX8 yX8_roadHours wsX8_roadHours) := goodIn_app (goodIn_of _ (by decide +kernel)) ggX5_roadFor_X8_roadHours
theorem dX5_roadFor_0 : decode cX5_roadFor 0 = .ok (.aload_n 0, 1) := by decide +kernel
theorem dX5_roadFor_1 : decode cX5_roadFor 1 = .ok (.iload_n 2, 1) := by decide +kernel
theorem dX5_roadFor_2 : decode cX5_roadFor 2 = .ok (.invokevirtual 61, 3) := by decide +kernel
theorem dX5_roadFor_5 : decode cX5_roadFor 5 = .ok (.ifCond .eq 17, 3) := by decide +kernel
theorem dX5_roadFor_8 : decode cX5_roadFor 8 = .ok (.aload_n 1, 1) := by decide +kernel
theorem dX5_roadFor_9 : decode cX5_roadFor 9 = .ok (.aload_n 0, 1) := by decide +kernel
theorem dX5_roadFor_10 : decode cX5_roadFor 10 = .ok (.getfield 9, 3) := by decide +kernel
theorem dX5_roadFor_13 : decode cX5_roadFor 13 = .ok (.iload_n 2, 1) := by decide +kernel
theorem dX5_roadFor_14 : decode cX5_roadFor 14 = .ok (.iaload, 1) := by decide +kernel
theorem dX5_roadFor_15 : decode cX5_roadFor 15 = .ok (.iload_n 3, 1) := by decide +kernel
theorem dX5_roadFor_16 : decode cX5_roadFor 16 = .ok (.invokevirtual 74, 3) := by decide +kernel
theorem dX5_roadFor_19 : decode cX5_roadFor 19 = .ok (.goto 4, 3) := by decide +kernel
theorem dX5_roadFor_22 : decode cX5_roadFor 22 = .ok (.iconst 0, 1) := by decide +kernel
theorem dX5_roadFor_23 : decode cX5_roadFor 23 = .ok (.ireturn, 1) := by decide +kernel
theorem dX5_setOut_0 : decode cX5_setOut 0 = .ok (.aload_n 0, 1) := by decide +kernel
theorem dX5_setOut_1 : decode cX5_setOut 1 = .ok (.getfield 9, 3) := by decide +kernel
theorem dX5_setOut_4 : decode cX5_setOut 4 = .ok (.iload_n 1, 1) := by decide +kernel
theorem dX5_setOut_5 : decode cX5_setOut 5 = .ok (.iload_n 2, 1) := by decide +kernel
theorem dX5_setOut_6 : decode cX5_setOut 6 = .ok (.iastore, 1) := by decide +kernel
theorem dX5_setOut_7 : decode cX5_setOut 7 = .ok (.aload_n 0, 1) := by decide +kernel
theorem dX5_setOut_8 : decode cX5_setOut 8 = .ok (.getfield 15, 3) := by decide +kernel
theorem dX5_setOut_11 : decode cX5_setOut 11 = .ok (.iload_n 1, 1) := by decide +kernel
theorem dX5_setOut_12 : decode cX5_setOut 12 = .ok (.iload_n 3, 1) := by decide +kernel
theorem dX5_setOut_13 : decode cX5_setOut 13 = .ok (.iastore, 1) := by decide +kernel
theorem dX5_setOut_14 : decode cX5_setOut 14 = .ok (.return_, 1) := by decide +kernel
set_option maxRecDepth 20000 in
theorem ggX5_tire_X5_heldBits : GoodIn wsX5_tire wsX5_heldBits := goodIn_r _ [13, 14, 15, 16, 17, 18, 19, 20, 21, 22, 23] (by decide +kernel) (by decide +kernel)
set_option maxRecDepth 20000 in
theorem gX5_tire_X5_heldBits : GoodIn wsX5_tire (wsV RX5 52 RX5 yX5_heldBits wsX5_heldBits) := goodIn_app (goodIn_of _ (by decide +kernel)) ggX5_tire_X5_heldBits
theorem dX5_tire_0 : decode cX5_tire 0 = .ok (.aload_n 0, 1) := by decide +kernel
theorem dX5_tire_1 : decode cX5_tire 1 = .ok (.iload_n 1, 1) := by decide +kernel
theorem dX5_tire_2 : decode cX5_tire 2 = .ok (.invokevirtual 52, 3) := by decide +kernel
theorem dX5_tire_5 : decode cX5_tire 5 = .ok (.ifCond .eq 25, 3) := by decide +kernel
theorem dX5_tire_8 : decode cX5_tire 8 = .ok (.aload_n 0, 1) := by decide +kernel
theorem dX5_tire_9 : decode cX5_tire 9 = .ok (.getfield 18, 3) := by decide +kernel
theorem dX5_tire_12 : decode cX5_tire 12 = .ok (.iload_n 1, 1) := by decide +kernel
theorem dX5_tire_13 : decode cX5_tire 13 = .ok (.bipush 99, 2) := by decide +kernel
theorem dX5_tire_15 : decode cX5_tire 15 = .ok (.aload_n 0, 1) := by decide +kernel
theorem dX5_tire_16 : decode cX5_tire 16 = .ok (.getfield 18, 3) := by decide +kernel
theorem dX5_tire_19 : decode cX5_tire 19 = .ok (.iload_n 1, 1) := by decide +kernel
theorem dX5_tire_20 : decode cX5_tire 20 = .ok (.iaload, 1) := by decide +kernel
theorem dX5_tire_21 : decode cX5_tire 21 = .ok (.iload_n 2, 1) := by decide +kernel
theorem dX5_tire_22 : decode cX5_tire 22 = .ok (.iadd, 1) := by decide +kernel
theorem dX5_tire_23 : decode cX5_tire 23 = .ok (.invokestatic 80, 3) := by decide +kernel
theorem dX5_tire_26 : decode cX5_tire 26 = .ok (.iastore, 1) := by decide +kernel
theorem dX5_tire_27 : decode cX5_tire 27 = .ok (.goto 21, 3) := by decide +kernel
theorem dX5_tire_30 : decode cX5_tire 30 = .ok (.aload_n 0, 1) := by decide +kernel
theorem dX5_tire_31 : decode cX5_tire 31 = .ok (.getfield 18, 3) := by decide +kernel
theorem dX5_tire_34 : decode cX5_tire 34 = .ok (.iload_n 1, 1) := by decide +kernel
theorem dX5_tire_35 : decode cX5_tire 35 = .ok (.iconst 0, 1) := by decide +kernel
theorem dX5_tire_36 : decode cX5_tire 36 = .ok (.aload_n 0, 1) := by decide +kernel
theorem dX5_tire_37 : decode cX5_tire 37 = .ok (.getfield 18, 3) := by decide +kernel
theorem dX5_tire_40 : decode cX5_tire 40 = .ok (.iload_n 1, 1) := by decide +kernel
theorem dX5_tire_41 : decode cX5_tire 41 = .ok (.iaload, 1) := by decide +kernel
theorem dX5_tire_42 : decode cX5_tire 42 = .ok (.iconst 1, 1) := by decide +kernel
theorem dX5_tire_43 : decode cX5_tire 43 = .ok (.isub, 1) := by decide +kernel
theorem dX5_tire_44 : decode cX5_tire 44 = .ok (.invokestatic 85, 3) := by decide +kernel
theorem dX5_tire_47 : decode cX5_tire 47 = .ok (.iastore, 1) := by decide +kernel
theorem dX5_tire_48 : decode cX5_tire 48 = .ok (.return_, 1) := by decide +kernel
set_option maxRecDepth 20000 in
theorem ggX5_turnedTogether_X5_isGone : GoodIn wsX5_turnedTogether wsX5_isGone := goodIn_r _ [6, 7, 8, 9, 10, 11, 12, 13, 14, 15, 16, 17] (by decide +kernel) (by decide +kernel)
set_option maxRecDepth 20000 in
theorem gX5_turnedTogether_X5_isGone : GoodIn wsX5_turnedTogether (wsV RX5 88 RX5 yX5_isGone wsX5_isGone) := goodIn_app (goodIn_of _ (by decide +kernel)) ggX5_turnedTogether_X5_isGone
theorem dX5_turnedTogether_0 : decode cX5_turnedTogether 0 = .ok (.iconst 0, 1) := by decide +kernel
theorem dX5_turnedTogether_1 : decode cX5_turnedTogether 1 = .ok (.istore_n 1, 1) := by decide +kernel
theorem dX5_turnedTogether_2 : decode cX5_turnedTogether 2 = .ok (.iconst 0, 1) := by decide +kernel
theorem dX5_turnedTogether_3 : decode cX5_turnedTogether 3 = .ok (.istore_n 2, 1) := by decide +kernel
theorem dX5_turnedTogether_4 : decode cX5_turnedTogether 4 = .ok (.iload_n 2, 1) := by decide +kernel
theorem dX5_turnedTogether_5 : decode cX5_turnedTogether 5 = .ok (.iconst 4, 1) := by decide +kernel
theorem dX5_turnedTogether_6 : decode cX5_turnedTogether 6 = .ok (.if_icmp .ge 30, 3) := by decide +kernel
theorem dX5_turnedTogether_9 : decode cX5_turnedTogether 9 = .ok (.iload_n 1, 1) := by decide +kernel
theorem dX5_turnedTogether_10 : decode cX5_turnedTogether 10 = .ok (.aload_n 0, 1) := by decide +kernel
theorem dX5_turnedTogether_11 : decode cX5_turnedTogether 11 = .ok (.iload_n 2, 1) := by decide +kernel
theorem dX5_turnedTogether_12 : decode cX5_turnedTogether 12 = .ok (.invokevirtual 88, 3) := by decide +kernel
theorem dX5_turnedTogether_15 : decode cX5_turnedTogether 15 = .ok (.ifCond .eq 7, 3) := by decide +kernel
theorem dX5_turnedTogether_18 : decode cX5_turnedTogether 18 = .ok (.iconst 0, 1) := by decide +kernel
theorem dX5_turnedTogether_19 : decode cX5_turnedTogether 19 = .ok (.goto 9, 3) := by decide +kernel
theorem dX5_turnedTogether_22 : decode cX5_turnedTogether 22 = .ok (.aload_n 0, 1) := by decide +kernel
theorem dX5_turnedTogether_23 : decode cX5_turnedTogether 23 = .ok (.getfield 27, 3) := by decide +kernel
theorem dX5_turnedTogether_26 : decode cX5_turnedTogether 26 = .ok (.iload_n 2, 1) := by decide +kernel
theorem dX5_turnedTogether_27 : decode cX5_turnedTogether 27 = .ok (.iaload, 1) := by decide +kernel
theorem dX5_turnedTogether_28 : decode cX5_turnedTogether 28 = .ok (.iadd, 1) := by decide +kernel
theorem dX5_turnedTogether_29 : decode cX5_turnedTogether 29 = .ok (.istore_n 1, 1) := by decide +kernel
theorem dX5_turnedTogether_30 : decode cX5_turnedTogether 30 = .ok (.iinc 2 1, 3) := by decide +kernel
theorem dX5_turnedTogether_33 : decode cX5_turnedTogether 33 = .ok (.goto (-29), 3) := by decide +kernel
theorem dX5_turnedTogether_36 : decode cX5_turnedTogether 36 = .ok (.iload_n 1, 1) := by decide +kernel
theorem dX5_turnedTogether_37 : decode cX5_turnedTogether 37 = .ok (.ireturn, 1) := by decide +kernel
set_option maxRecDepth 20000 in
theorem ggX5_howManySour_X5_isGone : GoodIn wsX5_howManySour wsX5_isGone := goodIn_r _ [6, 7, 8, 9, 10, 11, 12, 13, 14, 15, 16, 17] (by decide +kernel) (by decide +kernel)
set_option maxRecDepth 20000 in
theorem gX5_howManySour_X5_isGone : GoodIn wsX5_howManySour (wsV RX5 88 RX5 yX5_isGone wsX5_isGone) := goodIn_app (goodIn_of _ (by decide +kernel)) ggX5_howManySour_X5_isGone
theorem dX5_howManySour_0 : decode cX5_howManySour 0 = .ok (.iconst 0, 1) := by decide +kernel
theorem dX5_howManySour_1 : decode cX5_howManySour 1 = .ok (.istore_n 2, 1) := by decide +kernel
theorem dX5_howManySour_2 : decode cX5_howManySour 2 = .ok (.iconst 0, 1) := by decide +kernel
theorem dX5_howManySour_3 : decode cX5_howManySour 3 = .ok (.istore_n 3, 1) := by decide +kernel
theorem dX5_howManySour_4 : decode cX5_howManySour 4 = .ok (.iload_n 3, 1) := by decide +kernel
theorem dX5_howManySour_5 : decode cX5_howManySour 5 = .ok (.iconst 4, 1) := by decide +kernel
theorem dX5_howManySour_6 : decode cX5_howManySour 6 = .ok (.if_icmp .ge 35, 3) := by decide +kernel
theorem dX5_howManySour_9 : decode cX5_howManySour 9 = .ok (.iload_n 2, 1) := by decide +kernel
theorem dX5_howManySour_10 : decode cX5_howManySour 10 = .ok (.aload_n 0, 1) := by decide +kernel
theorem dX5_howManySour_11 : decode cX5_howManySour 11 = .ok (.iload_n 3, 1) := by decide +kernel
theorem dX5_howManySour_12 : decode cX5_howManySour 12 = .ok (.invokevirtual 88, 3) := by decide +kernel
theorem dX5_howManySour_15 : decode cX5_howManySour 15 = .ok (.ifCond .ne 17, 3) := by decide +kernel
theorem dX5_howManySour_18 : decode cX5_howManySour 18 = .ok (.aload_n 0, 1) := by decide +kernel
theorem dX5_howManySour_19 : decode cX5_howManySour 19 = .ok (.getfield 27, 3) := by decide +kernel
theorem dX5_howManySour_22 : decode cX5_howManySour 22 = .ok (.iload_n 3, 1) := by decide +kernel
theorem dX5_howManySour_23 : decode cX5_howManySour 23 = .ok (.iaload, 1) := by decide +kernel
theorem dX5_howManySour_24 : decode cX5_howManySour 24 = .ok (.iload_n 1, 1) := by decide +kernel
theorem dX5_howManySour_25 : decode cX5_howManySour 25 = .ok (.if_icmp .lt 7, 3) := by decide +kernel
theorem dX5_howManySour_28 : decode cX5_howManySour 28 = .ok (.iconst 1, 1) := by decide +kernel
theorem dX5_howManySour_29 : decode cX5_howManySour 29 = .ok (.goto 4, 3) := by decide +kernel
theorem dX5_howManySour_32 : decode cX5_howManySour 32 = .ok (.iconst 0, 1) := by decide +kernel
theorem dX5_howManySour_33 : decode cX5_howManySour 33 = .ok (.iadd, 1) := by decide +kernel
theorem dX5_howManySour_34 : decode cX5_howManySour 34 = .ok (.istore_n 2, 1) := by decide +kernel
theorem dX5_howManySour_35 : decode cX5_howManySour 35 = .ok (.iinc 3 1, 3) := by decide +kernel
theorem dX5_howManySour_38 : decode cX5_howManySour 38 = .ok (.goto (-34), 3) := by decide +kernel
theorem dX5_howManySour_41 : decode cX5_howManySour 41 = .ok (.iload_n 2, 1) := by decide +kernel
theorem dX5_howManySour_42 : decode cX5_howManySour 42 = .ok (.ireturn, 1) := by decide +kernel
theorem dX6_init_0 : decode cX6_init 0 = .ok (.aload_n 0, 1) := by decide +kernel
theorem dX6_init_1 : decode cX6_init 1 = .ok (.invokespecial 3, 3) := by decide +kernel
theorem dX6_init_4 : decode cX6_init 4 = .ok (.aload_n 0, 1) := by decide +kernel
theorem dX6_init_5 : decode cX6_init 5 = .ok (.bipush 112, 2) := by decide +kernel
theorem dX6_init_7 : decode cX6_init 7 = .ok (.newarray .int, 2) := by decide +kernel
theorem dX6_init_9 : decode cX6_init 9 = .ok (.putfield 11, 3) := by decide +kernel
theorem dX6_init_12 : decode cX6_init 12 = .ok (.aload_n 0, 1) := by decide +kernel
theorem dX6_init_13 : decode cX6_init 13 = .ok (.sipush 3913, 3) := by decide +kernel
theorem dX6_init_16 : decode cX6_init 16 = .ok (.newarray .int, 2) := by decide +kernel
theorem dX6_init_18 : decode cX6_init 18 = .ok (.putfield 15, 3) := by decide +kernel
theorem dX6_init_21 : decode cX6_init 21 = .ok (.aload_n 0, 1) := by decide +kernel
theorem dX6_init_22 : decode cX6_init 22 = .ok (.aload_n 1, 1) := by decide +kernel
theorem dX6_init_23 : decode cX6_init 23 = .ok (.putfield 18, 3) := by decide +kernel
theorem dX6_init_26 : decode cX6_init 26 = .ok (.return_, 1) := by decide +kernel
set_option maxRecDepth 20000 in
theorem ggX6_matchWants_J7_fill_53178 : GoodIn wsX6_matchWants wsJ7_fill_53178 := goodIn_r _ [10] (by decide +kernel) (by decide +kernel)
set_option maxRecDepth 20000 in
theorem gX6_matchWants_J7_fill_53178 : GoodIn wsX6_matchWants (va_wsS RX6 22 yJ7_fill_53178 wsJ7_fill_53178) := goodIn_app (goodIn_of _ (by decide +kernel)) ggX6_matchWants_J7_fill_53178
set_option maxRecDepth 20000 in
theorem ggX6_matchWants_X6_payWith : GoodIn wsX6_matchWants wsX6_payWith := goodIn_r _ [15, 1, 2, 16, 17, 18, 19, 20, 21, 22, 23, 24, 25, 26, 27, 28, 29, 30, 31, 32, 52, 53, 54, 55, 56, 57, 58, 59, 60, 33, 34, 35, 36, 37, 38, 39, 40, 41, 42, 43, 44, 45, 46, 47, 48, 49, 50, 51] (by decide +kernel) (by decide +kernel)
set_option maxRecDepth 20000 in
theorem gX6_matchWants_X6_payWith : GoodIn wsX6_matchWants (wsV RX6 34 RX6 yX6_payWith wsX6_payWith) := goodIn_app (goodIn_of _ (by decide +kernel)) ggX6_matchWants_X6_payWith
theorem dX6_matchWants_0 : decode cX6_matchWants 0 = .ok (.aload_n 0, 1) := by decide +kernel
theorem dX6_matchWants_1 : decode cX6_matchWants 1 = .ok (.getfield 11, 3) := by decide +kernel
theorem dX6_matchWants_4 : decode cX6_matchWants 4 = .ok (.iconst 0, 1) := by decide +kernel
theorem dX6_matchWants_5 : decode cX6_matchWants 5 = .ok (.invokestatic 22, 3) := by decide +kernel
theorem dX6_matchWants_8 : decode cX6_matchWants 8 = .ok (.aload_n 0, 1) := by decide +kernel
theorem dX6_matchWants_9 : decode cX6_matchWants 9 = .ok (.getfield 18, 3) := by decide +kernel
theorem dX6_matchWants_12 : decode cX6_matchWants 12 = .ok (.getfield 28, 3) := by decide +kernel
theorem dX6_matchWants_15 : decode cX6_matchWants 15 = .ok (.iconst 1, 1) := by decide +kernel
theorem dX6_matchWants_16 : decode cX6_matchWants 16 = .ok (.isub, 1) := by decide +kernel
theorem dX6_matchWants_17 : decode cX6_matchWants 17 = .ok (.istore_n 2, 1) := by decide +kernel
theorem dX6_matchWants_18 : decode cX6_matchWants 18 = .ok (.iload_n 2, 1) := by decide +kernel
theorem dX6_matchWants_19 : decode cX6_matchWants 19 = .ok (.ifCond .lt 83, 3) := by decide +kernel
theorem dX6_matchWants_22 : decode cX6_matchWants 22 = .ok (.iconst 0, 1) := by decide +kernel
theorem dX6_matchWants_23 : decode cX6_matchWants 23 = .ok (.istore_n 3, 1) := by decide +kernel
theorem dX6_matchWants_24 : decode cX6_matchWants 24 = .ok (.iload_n 3, 1) := by decide +kernel
theorem dX6_matchWants_25 : decode cX6_matchWants 25 = .ok (.bipush 16, 2) := by decide +kernel
theorem dX6_matchWants_27 : decode cX6_matchWants 27 = .ok (.if_icmp .ge 69, 3) := by decide +kernel
theorem dX6_matchWants_30 : decode cX6_matchWants 30 = .ok (.aload_n 0, 1) := by decide +kernel
theorem dX6_matchWants_31 : decode cX6_matchWants 31 = .ok (.aload_n 1, 1) := by decide +kernel
theorem dX6_matchWants_32 : decode cX6_matchWants 32 = .ok (.iload_n 2, 1) := by decide +kernel
theorem dX6_matchWants_33 : decode cX6_matchWants 33 = .ok (.iload_n 3, 1) := by decide +kernel
theorem dX6_matchWants_34 : decode cX6_matchWants 34 = .ok (.iconst (-1), 1) := by decide +kernel
theorem dX6_matchWants_35 : decode cX6_matchWants 35 = .ok (.invokevirtual 34, 3) := by decide +kernel
theorem dX6_matchWants_38 : decode cX6_matchWants 38 = .ok (.istore 4, 2) := by decide +kernel
theorem dX6_matchWants_40 : decode cX6_matchWants 40 = .ok (.iconst 0, 1) := by decide +kernel
theorem dX6_matchWants_41 : decode cX6_matchWants 41 = .ok (.istore 5, 2) := by decide +kernel
theorem dX6_matchWants_43 : decode cX6_matchWants 43 = .ok (.iload 5, 2) := by decide +kernel
theorem dX6_matchWants_45 : decode cX6_matchWants 45 = .ok (.aload_n 0, 1) := by decide +kernel
theorem dX6_matchWants_46 : decode cX6_matchWants 46 = .ok (.getfield 18, 3) := by decide +kernel
theorem dX6_matchWants_49 : decode cX6_matchWants 49 = .ok (.getfield 38, 3) := by decide +kernel
theorem dX6_matchWants_52 : decode cX6_matchWants 52 = .ok (.if_icmp .ge 25, 3) := by decide +kernel
theorem dX6_matchWants_55 : decode cX6_matchWants 55 = .ok (.iload 4, 2) := by decide +kernel
theorem dX6_matchWants_57 : decode cX6_matchWants 57 = .ok (.aload_n 0, 1) := by decide +kernel
theorem dX6_matchWants_58 : decode cX6_matchWants 58 = .ok (.aload_n 1, 1) := by decide +kernel
theorem dX6_matchWants_59 : decode cX6_matchWants 59 = .ok (.iload_n 2, 1) := by decide +kernel
theorem dX6_matchWants_60 : decode cX6_matchWants 60 = .ok (.iload_n 3, 1) := by decide +kernel
theorem dX6_matchWants_61 : decode cX6_matchWants 61 = .ok (.iload 5, 2) := by decide +kernel
theorem dX6_matchWants_63 : decode cX6_matchWants 63 = .ok (.invokevirtual 34, 3) := by decide +kernel
theorem dX6_matchWants_66 : decode cX6_matchWants 66 = .ok (.invokestatic 41, 3) := by decide +kernel
theorem dX6_matchWants_69 : decode cX6_matchWants 69 = .ok (.istore 4, 2) := by decide +kernel
theorem dX6_matchWants_71 : decode cX6_matchWants 71 = .ok (.iinc 5 1, 3) := by decide +kernel
theorem dX6_matchWants_74 : decode cX6_matchWants 74 = .ok (.goto (-31), 3) := by decide +kernel
theorem dX6_matchWants_77 : decode cX6_matchWants 77 = .ok (.aload_n 0, 1) := by decide +kernel
theorem dX6_matchWants_78 : decode cX6_matchWants 78 = .ok (.getfield 11, 3) := by decide +kernel
theorem dX6_matchWants_81 : decode cX6_matchWants 81 = .ok (.iload_n 2, 1) := by decide +kernel
theorem dX6_matchWants_82 : decode cX6_matchWants 82 = .ok (.bipush 16, 2) := by decide +kernel
theorem dX6_matchWants_84 : decode cX6_matchWants 84 = .ok (.imul, 1) := by decide +kernel
theorem dX6_matchWants_85 : decode cX6_matchWants 85 = .ok (.iload_n 3, 1) := by decide +kernel
theorem dX6_matchWants_86 : decode cX6_matchWants 86 = .ok (.iadd, 1) := by decide +kernel
theorem dX6_matchWants_87 : decode cX6_matchWants 87 = .ok (.iload 4, 2) := by decide +kernel
theorem dX6_matchWants_89 : decode cX6_matchWants 89 = .ok (.iastore, 1) := by decide +kernel
theorem dX6_matchWants_90 : decode cX6_matchWants 90 = .ok (.iinc 3 1, 3) := by decide +kernel
theorem dX6_matchWants_93 : decode cX6_matchWants 93 = .ok (.goto (-69), 3) := by decide +kernel
theorem dX6_matchWants_96 : decode cX6_matchWants 96 = .ok (.iinc 2 (-1), 3) := by decide +kernel
theorem dX6_matchWants_99 : decode cX6_matchWants 99 = .ok (.goto (-81), 3) := by decide +kernel
theorem dX6_matchWants_102 : decode cX6_matchWants 102 = .ok (.return_, 1) := by decide +kernel
set_option maxRecDepth 20000 in
theorem ggX6_payWith_X5_isGone : GoodIn wsX6_payWith wsX5_isGone := goodIn_r _ [7, 8, 9, 20, 21, 22, 23, 24, 25, 26, 27, 28] (by decide +kernel) (by decide +kernel)
set_option maxRecDepth 20000 in
theorem gX6_payWith_X5_isGone : GoodIn wsX6_payWith (wsV RX6 47 RX5 yX5_isGone wsX5_isGone) := goodIn_app (goodIn_of _ (by decide +kernel)) ggX6_payWith_X5_isGone
set_option maxRecDepth 20000 in
theorem ggX6_payWith_X8_suits : GoodIn wsX6_payWith wsX8_suits := goodIn_r _ [14, 15, 16, 29, 30, 31, 32, 33, 34, 35, 36, 37, 38, 39, 40, 41, 42, 43, 44, 45, 46, 47] (by decide +kernel) (by decide +kernel)
set_option maxRecDepth 20000 in
theorem gX6_payWith_X8_suits : GoodIn wsX6_payWith (wsV RX6 59 RX8 yX8_suits wsX8_suits) := goodIn_app (goodIn_of _ (by decide +kernel)) ggX6_payWith_X8_suits
theorem dX6_payWith_0 : decode cX6_payWith 0 = .ok (.iload_n 2, 1) := by decide +kernel
theorem dX6_payWith_1 : decode cX6_payWith 1 = .ok (.iconst 1, 1) := by decide +kernel
theorem dX6_payWith_2 : decode cX6_payWith 2 = .ok (.iadd, 1) := by decide +kernel
theorem dX6_payWith_3 : decode cX6_payWith 3 = .ok (.bipush 16, 2) := by decide +kernel
theorem dX6_payWith_5 : decode cX6_payWith 5 = .ok (.imul, 1) := by decide +kernel
theorem dX6_payWith_6 : decode cX6_payWith 6 = .ok (.istore 5, 2) := by decide +kernel
theorem dX6_payWith_8 : decode cX6_payWith 8 = .ok (.iload 4, 2) := by decide +kernel
theorem dX6_payWith_10 : decode cX6_payWith 10 = .ok (.iconst (-1), 1) := by decide +kernel
theorem dX6_payWith_11 : decode cX6_payWith 11 = .ok (.if_icmp .ne 13, 3) := by decide +kernel
theorem dX6_payWith_14 : decode cX6_payWith 14 = .ok (.aload_n 0, 1) := by decide +kernel
theorem dX6_payWith_15 : decode cX6_payWith 15 = .ok (.getfield 11, 3) := by decide +kernel
theorem dX6_payWith_18 : decode cX6_payWith 18 = .ok (.iload 5, 2) := by decide +kernel
theorem dX6_payWith_20 : decode cX6_payWith 20 = .ok (.iload_n 3, 1) := by decide +kernel
theorem dX6_payWith_21 : decode cX6_payWith 21 = .ok (.iadd, 1) := by decide +kernel
theorem dX6_payWith_22 : decode cX6_payWith 22 = .ok (.iaload, 1) := by decide +kernel
theorem dX6_payWith_23 : decode cX6_payWith 23 = .ok (.ireturn, 1) := by decide +kernel
theorem dX6_payWith_24 : decode cX6_payWith 24 = .ok (.iload_n 3, 1) := by decide +kernel
theorem dX6_payWith_25 : decode cX6_payWith 25 = .ok (.iload 4, 2) := by decide +kernel
theorem dX6_payWith_27 : decode cX6_payWith 27 = .ok (.ishr, 1) := by decide +kernel
theorem dX6_payWith_28 : decode cX6_payWith 28 = .ok (.iconst 1, 1) := by decide +kernel
theorem dX6_payWith_29 : decode cX6_payWith 29 = .ok (.iand, 1) := by decide +kernel
theorem dX6_payWith_30 : decode cX6_payWith 30 = .ok (.ifCond .ne 16, 3) := by decide +kernel
theorem dX6_payWith_33 : decode cX6_payWith 33 = .ok (.aload_n 1, 1) := by decide +kernel
theorem dX6_payWith_34 : decode cX6_payWith 34 = .ok (.iload 4, 2) := by decide +kernel
theorem dX6_payWith_36 : decode cX6_payWith 36 = .ok (.invokevirtual 47, 3) := by decide +kernel
theorem dX6_payWith_39 : decode cX6_payWith 39 = .ok (.ifCond .ne 7, 3) := by decide +kernel
theorem dX6_payWith_42 : decode cX6_payWith 42 = .ok (.iconst 1, 1) := by decide +kernel
theorem dX6_payWith_43 : decode cX6_payWith 43 = .ok (.goto 4, 3) := by decide +kernel
theorem dX6_payWith_46 : decode cX6_payWith 46 = .ok (.iconst 0, 1) := by decide +kernel
theorem dX6_payWith_47 : decode cX6_payWith 47 = .ok (.istore 6, 2) := by decide +kernel
theorem dX6_payWith_49 : decode cX6_payWith 49 = .ok (.iload 6, 2) := by decide +kernel
theorem dX6_payWith_51 : decode cX6_payWith 51 = .ok (.ifCond .eq 31, 3) := by decide +kernel
theorem dX6_payWith_54 : decode cX6_payWith 54 = .ok (.aload_n 1, 1) := by decide +kernel
theorem dX6_payWith_55 : decode cX6_payWith 55 = .ok (.getfield 53, 3) := by decide +kernel
theorem dX6_payWith_58 : decode cX6_payWith 58 = .ok (.iload_n 2, 1) := by decide +kernel
theorem dX6_payWith_59 : decode cX6_payWith 59 = .ok (.iaload, 1) := by decide +kernel
theorem dX6_payWith_60 : decode cX6_payWith 60 = .ok (.iconst (-1), 1) := by decide +kernel
theorem dX6_payWith_61 : decode cX6_payWith 61 = .ok (.if_icmp .ne 21, 3) := by decide +kernel
theorem dX6_payWith_64 : decode cX6_payWith 64 = .ok (.aload_n 0, 1) := by decide +kernel
theorem dX6_payWith_65 : decode cX6_payWith 65 = .ok (.getfield 18, 3) := by decide +kernel
theorem dX6_payWith_68 : decode cX6_payWith 68 = .ok (.iload_n 2, 1) := by decide +kernel
theorem dX6_payWith_69 : decode cX6_payWith 69 = .ok (.aload_n 1, 1) := by decide +kernel
theorem dX6_payWith_70 : decode cX6_payWith 70 = .ok (.getfield 56, 3) := by decide +kernel
theorem dX6_payWith_73 : decode cX6_payWith 73 = .ok (.iload 4, 2) := by decide +kernel
theorem dX6_payWith_75 : decode cX6_payWith 75 = .ok (.iaload, 1) := by decide +kernel
theorem dX6_payWith_76 : decode cX6_payWith 76 = .ok (.invokevirtual 59, 3) := by decide +kernel
theorem dX6_payWith_79 : decode cX6_payWith 79 = .ok (.ifCond .ne 5, 3) := by decide +kernel
theorem dX6_payWith_82 : decode cX6_payWith 82 = .ok (.iconst (-1), 1) := by decide +kernel
theorem dX6_payWith_83 : decode cX6_payWith 83 = .ok (.ireturn, 1) := by decide +kernel
theorem dX6_payWith_84 : decode cX6_payWith 84 = .ok (.aload_n 0, 1) := by decide +kernel
theorem dX6_payWith_85 : decode cX6_payWith 85 = .ok (.getfield 18, 3) := by decide +kernel
theorem dX6_payWith_88 : decode cX6_payWith 88 = .ok (.getfield 63, 3) := by decide +kernel
theorem dX6_payWith_91 : decode cX6_payWith 91 = .ok (.iload_n 2, 1) := by decide +kernel
theorem dX6_payWith_92 : decode cX6_payWith 92 = .ok (.iaload, 1) := by decide +kernel
theorem dX6_payWith_93 : decode cX6_payWith 93 = .ok (.aload_n 0, 1) := by decide +kernel
theorem dX6_payWith_94 : decode cX6_payWith 94 = .ok (.getfield 11, 3) := by decide +kernel
theorem dX6_payWith_97 : decode cX6_payWith 97 = .ok (.iload 5, 2) := by decide +kernel
theorem dX6_payWith_99 : decode cX6_payWith 99 = .ok (.iload_n 3, 1) := by decide +kernel
theorem dX6_payWith_100 : decode cX6_payWith 100 = .ok (.iconst 1, 1) := by decide +kernel
theorem dX6_payWith_101 : decode cX6_payWith 101 = .ok (.iload 4, 2) := by decide +kernel
theorem dX6_payWith_103 : decode cX6_payWith 103 = .ok (.ishl, 1) := by decide +kernel
theorem dX6_payWith_104 : decode cX6_payWith 104 = .ok (.ior, 1) := by decide +kernel
theorem dX6_payWith_105 : decode cX6_payWith 105 = .ok (.iadd, 1) := by decide +kernel
theorem dX6_payWith_106 : decode cX6_payWith 106 = .ok (.iaload, 1) := by decide +kernel
theorem dX6_payWith_107 : decode cX6_payWith 107 = .ok (.iadd, 1) := by decide +kernel
theorem dX6_payWith_108 : decode cX6_payWith 108 = .ok (.ireturn, 1) := by decide +kernel
theorem dX6_mostPay_0 : decode cX6_mostPay 0 = .ok (.aload_n 0, 1) := by decide +kernel
theorem dX6_mostPay_1 : decode cX6_mostPay 1 = .ok (.getfield 11, 3) := by decide +kernel
theorem dX6_mostPay_4 : decode cX6_mostPay 4 = .ok (.iconst 0, 1) := by decide +kernel
theorem dX6_mostPay_5 : decode cX6_mostPay 5 = .ok (.iaload, 1) := by decide +kernel
theorem dX6_mostPay_6 : decode cX6_mostPay 6 = .ok (.ireturn, 1) := by decide +kernel
set_option maxRecDepth 20000 in
theorem ggX6_jugOfWant_X6_firstBest : GoodIn wsX6_jugOfWant wsX6_firstBest := goodIn_r _ [5, 6, 7, 8, 9, 10, 4, 11, 12, 13, 14, 15, 16, 17, 18, 19, 20, 21, 22, 23, 24, 25, 26, 27, 28, 29, 30, 31, 32, 33, 34, 35, 36, 37, 38, 39, 40, 41, 42, 43, 44, 45, 46, 47, 48, 49, 50, 51, 52, 53, 54, 55, 56] (by decide +kernel) (by decide +kernel)
set_option maxRecDepth 20000 in
theorem gX6_jugOfWant_X6_firstBest : GoodIn wsX6_jugOfWant (wsV RX6 66 RX6 yX6_firstBest wsX6_firstBest) := goodIn_app (goodIn_of _ (by decide +kernel)) ggX6_jugOfWant_X6_firstBest
theorem dX6_jugOfWant_0 : decode cX6_jugOfWant 0 = .ok (.iconst 0, 1) := by decide +kernel
theorem dX6_jugOfWant_1 : decode cX6_jugOfWant 1 = .ok (.istore_n 3, 1) := by decide +kernel
theorem dX6_jugOfWant_2 : decode cX6_jugOfWant 2 = .ok (.iconst (-1), 1) := by decide +kernel
theorem dX6_jugOfWant_3 : decode cX6_jugOfWant 3 = .ok (.istore 4, 2) := by decide +kernel
theorem dX6_jugOfWant_5 : decode cX6_jugOfWant 5 = .ok (.iconst 0, 1) := by decide +kernel
theorem dX6_jugOfWant_6 : decode cX6_jugOfWant 6 = .ok (.istore 5, 2) := by decide +kernel
theorem dX6_jugOfWant_8 : decode cX6_jugOfWant 8 = .ok (.iload 5, 2) := by decide +kernel
theorem dX6_jugOfWant_10 : decode cX6_jugOfWant 10 = .ok (.iload_n 2, 1) := by decide +kernel
theorem dX6_jugOfWant_11 : decode cX6_jugOfWant 11 = .ok (.if_icmp .gt 36, 3) := by decide +kernel
theorem dX6_jugOfWant_14 : decode cX6_jugOfWant 14 = .ok (.aload_n 0, 1) := by decide +kernel
theorem dX6_jugOfWant_15 : decode cX6_jugOfWant 15 = .ok (.aload_n 1, 1) := by decide +kernel
theorem dX6_jugOfWant_16 : decode cX6_jugOfWant 16 = .ok (.iload 5, 2) := by decide +kernel
theorem dX6_jugOfWant_18 : decode cX6_jugOfWant 18 = .ok (.iload_n 3, 1) := by decide +kernel
theorem dX6_jugOfWant_19 : decode cX6_jugOfWant 19 = .ok (.invokevirtual 66, 3) := by decide +kernel
theorem dX6_jugOfWant_22 : decode cX6_jugOfWant 22 = .ok (.istore 4, 2) := by decide +kernel
theorem dX6_jugOfWant_24 : decode cX6_jugOfWant 24 = .ok (.iload_n 3, 1) := by decide +kernel
theorem dX6_jugOfWant_25 : decode cX6_jugOfWant 25 = .ok (.iload 4, 2) := by decide +kernel
theorem dX6_jugOfWant_27 : decode cX6_jugOfWant 27 = .ok (.iconst (-1), 1) := by decide +kernel
theorem dX6_jugOfWant_28 : decode cX6_jugOfWant 28 = .ok (.if_icmp .ne 7, 3) := by decide +kernel
theorem dX6_jugOfWant_31 : decode cX6_jugOfWant 31 = .ok (.iconst 0, 1) := by decide +kernel
theorem dX6_jugOfWant_32 : decode cX6_jugOfWant 32 = .ok (.goto 7, 3) := by decide +kernel
theorem dX6_jugOfWant_35 : decode cX6_jugOfWant 35 = .ok (.iconst 1, 1) := by decide +kernel
theorem dX6_jugOfWant_36 : decode cX6_jugOfWant 36 = .ok (.iload 4, 2) := by decide +kernel
theorem dX6_jugOfWant_38 : decode cX6_jugOfWant 38 = .ok (.ishl, 1) := by decide +kernel
theorem dX6_jugOfWant_39 : decode cX6_jugOfWant 39 = .ok (.ior, 1) := by decide +kernel
theorem dX6_jugOfWant_40 : decode cX6_jugOfWant 40 = .ok (.istore_n 3, 1) := by decide +kernel
theorem dX6_jugOfWant_41 : decode cX6_jugOfWant 41 = .ok (.iinc 5 1, 3) := by decide +kernel
theorem dX6_jugOfWant_44 : decode cX6_jugOfWant 44 = .ok (.goto (-36), 3) := by decide +kernel
theorem dX6_jugOfWant_47 : decode cX6_jugOfWant 47 = .ok (.iload 4, 2) := by decide +kernel
theorem dX6_jugOfWant_49 : decode cX6_jugOfWant 49 = .ok (.ireturn, 1) := by decide +kernel
set_option maxRecDepth 20000 in
theorem ggX6_firstBest_X6_payWith : GoodIn wsX6_firstBest wsX6_payWith := goodIn_r _ [7, 2, 1, 8, 9, 10, 11, 12, 13, 14, 15, 16, 17, 18, 19, 20, 21, 22, 23, 24, 44, 45, 46, 47, 48, 49, 50, 51, 52, 25, 26, 27, 28, 29, 30, 31, 32, 33, 34, 35, 36, 37, 38, 39, 40, 41, 42, 43] (by decide +kernel) (by decide +kernel)
set_option maxRecDepth 20000 in
theorem gX6_firstBest_X6_payWith : GoodIn wsX6_firstBest (wsV RX6 34 RX6 yX6_payWith wsX6_payWith) := goodIn_app (goodIn_of _ (by decide +kernel)) ggX6_firstBest_X6_payWith
theorem dX6_firstBest_0 : decode cX6_firstBest 0 = .ok (.iconst (-1), 1) := by decide +kernel
theorem dX6_firstBest_1 : decode cX6_firstBest 1 = .ok (.istore 4, 2) := by decide +kernel
theorem dX6_firstBest_3 : decode cX6_firstBest 3 = .ok (.iload 4, 2) := by decide +kernel
theorem dX6_firstBest_5 : decode cX6_firstBest 5 = .ok (.aload_n 0, 1) := by decide +kernel
theorem dX6_firstBest_6 : decode cX6_firstBest 6 = .ok (.getfield 18, 3) := by decide +kernel
theorem dX6_firstBest_9 : decode cX6_firstBest 9 = .ok (.getfield 38, 3) := by decide +kernel
theorem dX6_firstBest_12 : decode cX6_firstBest 12 = .ok (.if_icmp .ge 35, 3) := by decide +kernel
theorem dX6_firstBest_15 : decode cX6_firstBest 15 = .ok (.aload_n 0, 1) := by decide +kernel
theorem dX6_firstBest_16 : decode cX6_firstBest 16 = .ok (.aload_n 1, 1) := by decide +kernel
theorem dX6_firstBest_17 : decode cX6_firstBest 17 = .ok (.iload_n 2, 1) := by decide +kernel
theorem dX6_firstBest_18 : decode cX6_firstBest 18 = .ok (.iload_n 3, 1) := by decide +kernel
theorem dX6_firstBest_19 : decode cX6_firstBest 19 = .ok (.iload 4, 2) := by decide +kernel
theorem dX6_firstBest_21 : decode cX6_firstBest 21 = .ok (.invokevirtual 34, 3) := by decide +kernel
theorem dX6_firstBest_24 : decode cX6_firstBest 24 = .ok (.aload_n 0, 1) := by decide +kernel
theorem dX6_firstBest_25 : decode cX6_firstBest 25 = .ok (.getfield 11, 3) := by decide +kernel
theorem dX6_firstBest_28 : decode cX6_firstBest 28 = .ok (.iload_n 2, 1) := by decide +kernel
theorem dX6_firstBest_29 : decode cX6_firstBest 29 = .ok (.bipush 16, 2) := by decide +kernel
theorem dX6_firstBest_31 : decode cX6_firstBest 31 = .ok (.imul, 1) := by decide +kernel
theorem dX6_firstBest_32 : decode cX6_firstBest 32 = .ok (.iload_n 3, 1) := by decide +kernel
theorem dX6_firstBest_33 : decode cX6_firstBest 33 = .ok (.iadd, 1) := by decide +kernel
theorem dX6_firstBest_34 : decode cX6_firstBest 34 = .ok (.iaload, 1) := by decide +kernel
theorem dX6_firstBest_35 : decode cX6_firstBest 35 = .ok (.if_icmp .ne 6, 3) := by decide +kernel
theorem dX6_firstBest_38 : decode cX6_firstBest 38 = .ok (.iload 4, 2) := by decide +kernel
theorem dX6_firstBest_40 : decode cX6_firstBest 40 = .ok (.ireturn, 1) := by decide +kernel
theorem dX6_firstBest_41 : decode cX6_firstBest 41 = .ok (.iinc 4 1, 3) := by decide +kernel
theorem dX6_firstBest_44 : decode cX6_firstBest 44 = .ok (.goto (-41), 3) := by decide +kernel
theorem dX6_firstBest_47 : decode cX6_firstBest 47 = .ok (.iconst (-1), 1) := by decide +kernel
theorem dX6_firstBest_48 : decode cX6_firstBest 48 = .ok (.ireturn, 1) := by decide +kernel
set_option maxRecDepth 20000 in
theorem ggX6_countRows_J7_fill_fda19 : GoodIn wsX6_countRows wsJ7_fill_fda19 := goodIn_r _ [7, 8, 9, 6, 10] (by decide +kernel) (by decide +kernel)
set_option maxRecDepth 20000 in
theorem gX6_countRows_J7_fill_fda19 : GoodIn wsX6_countRows (va_wsS RX6 70 yJ7_fill_fda19 wsJ7_fill_fda19) := goodIn_app (goodIn_of _ (by decide +kernel)) ggX6_countRows_J7_fill_fda19
set_option maxRecDepth 20000 in
theorem ggX6_countRows_X6_rowsOf : GoodIn wsX6_countRows wsX6_rowsOf := goodIn_r _ [15, 1, 16, 17, 18] (by decide +kernel) (by decide +kernel)
set_option maxRecDepth 20000 in
theorem gX6_countRows_X6_rowsOf : GoodIn wsX6_countRows (wsV RX6 79 RX6 yX6_rowsOf wsX6_rowsOf) := goodIn_app (goodIn_of _ (by decide +kernel)) ggX6_countRows_X6_rowsOf
theorem dX6_countRows_0 : decode cX6_countRows 0 = .ok (.aload_n 0, 1) := by decide +kernel
theorem dX6_countRows_1 : decode cX6_countRows 1 = .ok (.getfield 15, 3) := by decide +kernel
theorem dX6_countRows_4 : decode cX6_countRows 4 = .ok (.iconst 0, 1) := by decide +kernel
theorem dX6_countRows_5 : decode cX6_countRows 5 = .ok (.sipush 301, 3) := by decide +kernel
theorem dX6_countRows_8 : decode cX6_countRows 8 = .ok (.iconst 0, 1) := by decide +kernel
theorem dX6_countRows_9 : decode cX6_countRows 9 = .ok (.invokestatic 70, 3) := by decide +kernel
theorem dX6_countRows_12 : decode cX6_countRows 12 = .ok (.aload_n 0, 1) := by decide +kernel
theorem dX6_countRows_13 : decode cX6_countRows 13 = .ok (.getfield 15, 3) := by decide +kernel
theorem dX6_countRows_16 : decode cX6_countRows 16 = .ok (.iconst 0, 1) := by decide +kernel
theorem dX6_countRows_17 : decode cX6_countRows 17 = .ok (.iconst 1, 1) := by decide +kernel
theorem dX6_countRows_18 : decode cX6_countRows 18 = .ok (.iastore, 1) := by decide +kernel
theorem dX6_countRows_19 : decode cX6_countRows 19 = .ok (.iconst 1, 1) := by decide +kernel
theorem dX6_countRows_20 : decode cX6_countRows 20 = .ok (.istore_n 3, 1) := by decide +kernel
theorem dX6_countRows_21 : decode cX6_countRows 21 = .ok (.iload_n 3, 1) := by decide +kernel
theorem dX6_countRows_22 : decode cX6_countRows 22 = .ok (.iload_n 1, 1) := by decide +kernel
theorem dX6_countRows_23 : decode cX6_countRows 23 = .ok (.if_icmp .gt 94, 3) := by decide +kernel
theorem dX6_countRows_26 : decode cX6_countRows 26 = .ok (.iconst 0, 1) := by decide +kernel
theorem dX6_countRows_27 : decode cX6_countRows 27 = .ok (.istore 4, 2) := by decide +kernel
theorem dX6_countRows_29 : decode cX6_countRows 29 = .ok (.iload 4, 2) := by decide +kernel
theorem dX6_countRows_31 : decode cX6_countRows 31 = .ok (.iload_n 2, 1) := by decide +kernel
theorem dX6_countRows_32 : decode cX6_countRows 32 = .ok (.if_icmp .gt 79, 3) := by decide +kernel
theorem dX6_countRows_35 : decode cX6_countRows 35 = .ok (.lconst 0, 1) := by decide +kernel
theorem dX6_countRows_36 : decode cX6_countRows 36 = .ok (.lstore 5, 2) := by decide +kernel
theorem dX6_countRows_38 : decode cX6_countRows 38 = .ok (.iconst 0, 1) := by decide +kernel
theorem dX6_countRows_39 : decode cX6_countRows 39 = .ok (.istore 7, 2) := by decide +kernel
theorem dX6_countRows_41 : decode cX6_countRows 41 = .ok (.iload 7, 2) := by decide +kernel
theorem dX6_countRows_43 : decode cX6_countRows 43 = .ok (.aload_n 0, 1) := by decide +kernel
theorem dX6_countRows_44 : decode cX6_countRows 44 = .ok (.getfield 18, 3) := by decide +kernel
theorem dX6_countRows_47 : decode cX6_countRows 47 = .ok (.getfield 73, 3) := by decide +kernel
theorem dX6_countRows_50 : decode cX6_countRows 50 = .ok (.if_icmp .ge 35, 3) := by decide +kernel
theorem dX6_countRows_53 : decode cX6_countRows 53 = .ok (.lload 5, 2) := by decide +kernel
theorem dX6_countRows_55 : decode cX6_countRows 55 = .ok (.aload_n 0, 1) := by decide +kernel
theorem dX6_countRows_56 : decode cX6_countRows 56 = .ok (.iload_n 3, 1) := by decide +kernel
theorem dX6_countRows_57 : decode cX6_countRows 57 = .ok (.iconst 1, 1) := by decide +kernel
theorem dX6_countRows_58 : decode cX6_countRows 58 = .ok (.isub, 1) := by decide +kernel
theorem dX6_countRows_59 : decode cX6_countRows 59 = .ok (.iload 4, 2) := by decide +kernel
theorem dX6_countRows_61 : decode cX6_countRows 61 = .ok (.aload_n 0, 1) := by decide +kernel
theorem dX6_countRows_62 : decode cX6_countRows 62 = .ok (.getfield 18, 3) := by decide +kernel
theorem dX6_countRows_65 : decode cX6_countRows 65 = .ok (.getfield 76, 3) := by decide +kernel
theorem dX6_countRows_68 : decode cX6_countRows 68 = .ok (.iload 7, 2) := by decide +kernel
theorem dX6_countRows_70 : decode cX6_countRows 70 = .ok (.iaload, 1) := by decide +kernel
theorem dX6_countRows_71 : decode cX6_countRows 71 = .ok (.isub, 1) := by decide +kernel
theorem dX6_countRows_72 : decode cX6_countRows 72 = .ok (.invokevirtual 79, 3) := by decide +kernel
theorem dX6_countRows_75 : decode cX6_countRows 75 = .ok (.i2l, 1) := by decide +kernel
theorem dX6_countRows_76 : decode cX6_countRows 76 = .ok (.ladd, 1) := by decide +kernel
theorem dX6_countRows_77 : decode cX6_countRows 77 = .ok (.lstore 5, 2) := by decide +kernel
theorem dX6_countRows_79 : decode cX6_countRows 79 = .ok (.iinc 7 1, 3) := by decide +kernel
theorem dX6_countRows_82 : decode cX6_countRows 82 = .ok (.goto (-41), 3) := by decide +kernel
theorem dX6_countRows_85 : decode cX6_countRows 85 = .ok (.aload_n 0, 1) := by decide +kernel
theorem dX6_countRows_86 : decode cX6_countRows 86 = .ok (.getfield 15, 3) := by decide +kernel
theorem dX6_countRows_89 : decode cX6_countRows 89 = .ok (.iload_n 3, 1) := by decide +kernel
theorem dX6_countRows_90 : decode cX6_countRows 90 = .ok (.sipush 301, 3) := by decide +kernel
theorem dX6_countRows_93 : decode cX6_countRows 93 = .ok (.imul, 1) := by decide +kernel
theorem dX6_countRows_94 : decode cX6_countRows 94 = .ok (.iload 4, 2) := by decide +kernel
theorem dX6_countRows_96 : decode cX6_countRows 96 = .ok (.iadd, 1) := by decide +kernel
theorem dX6_countRows_97 : decode cX6_countRows 97 = .ok (.lload 5, 2) := by decide +kernel
theorem dX6_countRows_99 : decode cX6_countRows 99 = .ok (.ldc2_w 82, 3) := by decide +kernel
theorem dX6_countRows_102 : decode cX6_countRows 102 = .ok (.lrem, 1) := by decide +kernel
theorem dX6_countRows_103 : decode cX6_countRows 103 = .ok (.l2i, 1) := by decide +kernel
theorem dX6_countRows_104 : decode cX6_countRows 104 = .ok (.iastore, 1) := by decide +kernel
theorem dX6_countRows_105 : decode cX6_countRows 105 = .ok (.iinc 4 1, 3) := by decide +kernel
theorem dX6_countRows_108 : decode cX6_countRows 108 = .ok (.goto (-79), 3) := by decide +kernel
theorem dX6_countRows_111 : decode cX6_countRows 111 = .ok (.iinc 3 1, 3) := by decide +kernel
theorem dX6_countRows_114 : decode cX6_countRows 114 = .ok (.goto (-93), 3) := by decide +kernel
theorem dX6_countRows_117 : decode cX6_countRows 117 = .ok (.return_, 1) := by decide +kernel
theorem dX6_rowsOf_0 : decode cX6_rowsOf 0 = .ok (.iload_n 2, 1) := by decide +kernel
theorem dX6_rowsOf_1 : decode cX6_rowsOf 1 = .ok (.ifCond .ge 7, 3) := by decide +kernel
theorem dX6_rowsOf_4 : decode cX6_rowsOf 4 = .ok (.iconst 0, 1) := by decide +kernel
theorem dX6_rowsOf_5 : decode cX6_rowsOf 5 = .ok (.goto 15, 3) := by decide +kernel
theorem dX6_rowsOf_8 : decode cX6_rowsOf 8 = .ok (.aload_n 0, 1) := by decide +kernel
theorem dX6_rowsOf_9 : decode cX6_rowsOf 9 = .ok (.getfield 15, 3) := by decide +kernel
theorem dX6_rowsOf_12 : decode cX6_rowsOf 12 = .ok (.iload_n 1, 1) := by decide +kernel
theorem dX6_rowsOf_13 : decode cX6_rowsOf 13 = .ok (.sipush 301, 3) := by decide +kernel
theorem dX6_rowsOf_16 : decode cX6_rowsOf 16 = .ok (.imul, 1) := by decide +kernel
theorem dX6_rowsOf_17 : decode cX6_rowsOf 17 = .ok (.iload_n 2, 1) := by decide +kernel
theorem dX6_rowsOf_18 : decode cX6_rowsOf 18 = .ok (.iadd, 1) := by decide +kernel
theorem dX6_rowsOf_19 : decode cX6_rowsOf 19 = .ok (.iaload, 1) := by decide +kernel
theorem dX6_rowsOf_20 : decode cX6_rowsOf 20 = .ok (.ireturn, 1) := by decide +kernel
set_option maxRecDepth 20000 in
theorem ggX6_handInFirstRow_X6_firstThatLeaves : GoodIn wsX6_handInFirstRow wsX6_firstThatLeaves := goodIn_r _ [6, 1, 7, 8, 9, 5, 10, 11, 12, 13, 14, 15, 16, 17, 18, 19, 20, 21, 22, 23, 24, 25, 26, 27, 28, 29, 30, 31, 32, 33] (by decide +kernel) (by decide +kernel)
set_option maxRecDepth 20000 in
theorem gX6_handInFirstRow_X6_firstThatLeaves : GoodIn wsX6_handInFirstRow (wsV RX6 84 RX6 yX6_firstThatLeaves wsX6_firstThatLeaves) := goodIn_app (goodIn_of _ (by decide +kernel)) ggX6_handInFirstRow_X6_firstThatLeaves
theorem dX6_handInFirstRow_0 : decode cX6_handInFirstRow 0 = .ok (.iload_n 2, 1) := by decide +kernel
theorem dX6_handInFirstRow_1 : decode cX6_handInFirstRow 1 = .ok (.istore 4, 2) := by decide +kernel
theorem dX6_handInFirstRow_3 : decode cX6_handInFirstRow 3 = .ok (.iconst 0, 1) := by decide +kernel
theorem dX6_handInFirstRow_4 : decode cX6_handInFirstRow 4 = .ok (.istore 5, 2) := by decide +kernel
theorem dX6_handInFirstRow_6 : decode cX6_handInFirstRow 6 = .ok (.iload 5, 2) := by decide +kernel
theorem dX6_handInFirstRow_8 : decode cX6_handInFirstRow 8 = .ok (.iload_n 3, 1) := by decide +kernel
theorem dX6_handInFirstRow_9 : decode cX6_handInFirstRow 9 = .ok (.if_icmp .gt 47, 3) := by decide +kernel
theorem dX6_handInFirstRow_12 : decode cX6_handInFirstRow 12 = .ok (.aload_n 0, 1) := by decide +kernel
theorem dX6_handInFirstRow_13 : decode cX6_handInFirstRow 13 = .ok (.iload_n 1, 1) := by decide +kernel
theorem dX6_handInFirstRow_14 : decode cX6_handInFirstRow 14 = .ok (.iload 5, 2) := by decide +kernel
theorem dX6_handInFirstRow_16 : decode cX6_handInFirstRow 16 = .ok (.isub, 1) := by decide +kernel
theorem dX6_handInFirstRow_17 : decode cX6_handInFirstRow 17 = .ok (.iconst 1, 1) := by decide +kernel
theorem dX6_handInFirstRow_18 : decode cX6_handInFirstRow 18 = .ok (.isub, 1) := by decide +kernel
theorem dX6_handInFirstRow_19 : decode cX6_handInFirstRow 19 = .ok (.iload 4, 2) := by decide +kernel
theorem dX6_handInFirstRow_21 : decode cX6_handInFirstRow 21 = .ok (.invokevirtual 84, 3) := by decide +kernel
theorem dX6_handInFirstRow_24 : decode cX6_handInFirstRow 24 = .ok (.istore 6, 2) := by decide +kernel
theorem dX6_handInFirstRow_26 : decode cX6_handInFirstRow 26 = .ok (.iload 5, 2) := by decide +kernel
theorem dX6_handInFirstRow_28 : decode cX6_handInFirstRow 28 = .ok (.iload_n 3, 1) := by decide +kernel
theorem dX6_handInFirstRow_29 : decode cX6_handInFirstRow 29 = .ok (.if_icmp .ne 6, 3) := by decide +kernel
theorem dX6_handInFirstRow_32 : decode cX6_handInFirstRow 32 = .ok (.iload 6, 2) := by decide +kernel
theorem dX6_handInFirstRow_34 : decode cX6_handInFirstRow 34 = .ok (.ireturn, 1) := by decide +kernel
theorem dX6_handInFirstRow_35 : decode cX6_handInFirstRow 35 = .ok (.iload 4, 2) := by decide +kernel
theorem dX6_handInFirstRow_37 : decode cX6_handInFirstRow 37 = .ok (.aload_n 0, 1) := by decide +kernel
theorem dX6_handInFirstRow_38 : decode cX6_handInFirstRow 38 = .ok (.getfield 18, 3) := by decide +kernel
theorem dX6_handInFirstRow_41 : decode cX6_handInFirstRow 41 = .ok (.getfield 76, 3) := by decide +kernel
theorem dX6_handInFirstRow_44 : decode cX6_handInFirstRow 44 = .ok (.iload 6, 2) := by decide +kernel
theorem dX6_handInFirstRow_46 : decode cX6_handInFirstRow 46 = .ok (.iaload, 1) := by decide +kernel
theorem dX6_handInFirstRow_47 : decode cX6_handInFirstRow 47 = .ok (.isub, 1) := by decide +kernel
theorem dX6_handInFirstRow_48 : decode cX6_handInFirstRow 48 = .ok (.istore 4, 2) := by decide +kernel
theorem dX6_handInFirstRow_50 : decode cX6_handInFirstRow 50 = .ok (.iinc 5 1, 3) := by decide +kernel
theorem dX6_handInFirstRow_53 : decode cX6_handInFirstRow 53 = .ok (.goto (-47), 3) := by decide +kernel
theorem dX6_handInFirstRow_56 : decode cX6_handInFirstRow 56 = .ok (.iconst 0, 1) := by decide +kernel
theorem dX6_handInFirstRow_57 : decode cX6_handInFirstRow 57 = .ok (.ireturn, 1) := by decide +kernel
set_option maxRecDepth 20000 in
theorem ggX6_firstThatLeaves_X6_rowsOf : GoodIn wsX6_firstThatLeaves wsX6_rowsOf := goodIn_r _ [6, 7, 8, 9, 10] (by decide +kernel) (by decide +kernel)
set_option maxRecDepth 20000 in
theorem gX6_firstThatLeaves_X6_rowsOf : GoodIn wsX6_firstThatLeaves (wsV RX6 79 RX6 yX6_rowsOf wsX6_rowsOf) := goodIn_app (goodIn_of _ (by decide +kernel)) ggX6_firstThatLeaves_X6_rowsOf
theorem dX6_firstThatLeaves_0 : decode cX6_firstThatLeaves 0 = .ok (.iconst 0, 1) := by decide +kernel
theorem dX6_firstThatLeaves_1 : decode cX6_firstThatLeaves 1 = .ok (.istore_n 3, 1) := by decide +kernel
theorem dX6_firstThatLeaves_2 : decode cX6_firstThatLeaves 2 = .ok (.iload_n 3, 1) := by decide +kernel
theorem dX6_firstThatLeaves_3 : decode cX6_firstThatLeaves 3 = .ok (.aload_n 0, 1) := by decide +kernel
theorem dX6_firstThatLeaves_4 : decode cX6_firstThatLeaves 4 = .ok (.getfield 18, 3) := by decide +kernel
theorem dX6_firstThatLeaves_7 : decode cX6_firstThatLeaves 7 = .ok (.getfield 73, 3) := by decide +kernel
theorem dX6_firstThatLeaves_10 : decode cX6_firstThatLeaves 10 = .ok (.if_icmp .ge 30, 3) := by decide +kernel
theorem dX6_firstThatLeaves_13 : decode cX6_firstThatLeaves 13 = .ok (.aload_n 0, 1) := by decide +kernel
theorem dX6_firstThatLeaves_14 : decode cX6_firstThatLeaves 14 = .ok (.iload_n 1, 1) := by decide +kernel
theorem dX6_firstThatLeaves_15 : decode cX6_firstThatLeaves 15 = .ok (.iload_n 2, 1) := by decide +kernel
theorem dX6_firstThatLeaves_16 : decode cX6_firstThatLeaves 16 = .ok (.aload_n 0, 1) := by decide +kernel
theorem dX6_firstThatLeaves_17 : decode cX6_firstThatLeaves 17 = .ok (.getfield 18, 3) := by decide +kernel
theorem dX6_firstThatLeaves_20 : decode cX6_firstThatLeaves 20 = .ok (.getfield 76, 3) := by decide +kernel
theorem dX6_firstThatLeaves_23 : decode cX6_firstThatLeaves 23 = .ok (.iload_n 3, 1) := by decide +kernel
theorem dX6_firstThatLeaves_24 : decode cX6_firstThatLeaves 24 = .ok (.iaload, 1) := by decide +kernel
theorem dX6_firstThatLeaves_25 : decode cX6_firstThatLeaves 25 = .ok (.isub, 1) := by decide +kernel
theorem dX6_firstThatLeaves_26 : decode cX6_firstThatLeaves 26 = .ok (.invokevirtual 79, 3) := by decide +kernel
theorem dX6_firstThatLeaves_29 : decode cX6_firstThatLeaves 29 = .ok (.ifCond .le 5, 3) := by decide +kernel
theorem dX6_firstThatLeaves_32 : decode cX6_firstThatLeaves 32 = .ok (.iload_n 3, 1) := by decide +kernel
theorem dX6_firstThatLeaves_33 : decode cX6_firstThatLeaves 33 = .ok (.ireturn, 1) := by decide +kernel
theorem dX6_firstThatLeaves_34 : decode cX6_firstThatLeaves 34 = .ok (.iinc 3 1, 3) := by decide +kernel
theorem dX6_firstThatLeaves_37 : decode cX6_firstThatLeaves 37 = .ok (.goto (-35), 3) := by decide +kernel
theorem dX6_firstThatLeaves_40 : decode cX6_firstThatLeaves 40 = .ok (.iconst 0, 1) := by decide +kernel
theorem dX6_firstThatLeaves_41 : decode cX6_firstThatLeaves 41 = .ok (.ireturn, 1) := by decide +kernel
set_option maxRecDepth 20000 in
theorem ggX6_handsInRows_X6_rowsOf : GoodIn wsX6_handsInRows wsX6_rowsOf := goodIn_r _ [6, 7, 8, 9, 10] (by decide +kernel) (by decide +kernel)
set_option maxRecDepth 20000 in
theorem gX6_handsInRows_X6_rowsOf : GoodIn wsX6_handsInRows (wsV RX6 79 RX6 yX6_rowsOf wsX6_rowsOf) := goodIn_app (goodIn_of _ (by decide +kernel)) ggX6_handsInRows_X6_rowsOf
theorem dX6_handsInRows_0 : decode cX6_handsInRows 0 = .ok (.iconst 0, 1) := by decide +kernel
theorem dX6_handsInRows_1 : decode cX6_handsInRows 1 = .ok (.istore 4, 2) := by decide +kernel
theorem dX6_handsInRows_3 : decode cX6_handsInRows 3 = .ok (.iconst 0, 1) := by decide +kernel
theorem dX6_handsInRows_4 : decode cX6_handsInRows 4 = .ok (.istore 5, 2) := by decide +kernel
theorem dX6_handsInRows_6 : decode cX6_handsInRows 6 = .ok (.iload 5, 2) := by decide +kernel
theorem dX6_handsInRows_8 : decode cX6_handsInRows 8 = .ok (.aload_n 0, 1) := by decide +kernel
theorem dX6_handsInRows_9 : decode cX6_handsInRows 9 = .ok (.getfield 18, 3) := by decide +kernel
theorem dX6_handsInRows_12 : decode cX6_handsInRows 12 = .ok (.getfield 73, 3) := by decide +kernel
theorem dX6_handsInRows_15 : decode cX6_handsInRows 15 = .ok (.if_icmp .ge 74, 3) := by decide +kernel
theorem dX6_handsInRows_18 : decode cX6_handsInRows 18 = .ok (.iconst 0, 1) := by decide +kernel
theorem dX6_handsInRows_19 : decode cX6_handsInRows 19 = .ok (.istore 6, 2) := by decide +kernel
theorem dX6_handsInRows_21 : decode cX6_handsInRows 21 = .ok (.iload 6, 2) := by decide +kernel
theorem dX6_handsInRows_23 : decode cX6_handsInRows 23 = .ok (.iload_n 2, 1) := by decide +kernel
theorem dX6_handsInRows_24 : decode cX6_handsInRows 24 = .ok (.if_icmp .gt 59, 3) := by decide +kernel
theorem dX6_handsInRows_27 : decode cX6_handsInRows 27 = .ok (.iload_n 2, 1) := by decide +kernel
theorem dX6_handsInRows_28 : decode cX6_handsInRows 28 = .ok (.iload 6, 2) := by decide +kernel
theorem dX6_handsInRows_30 : decode cX6_handsInRows 30 = .ok (.isub, 1) := by decide +kernel
theorem dX6_handsInRows_31 : decode cX6_handsInRows 31 = .ok (.aload_n 0, 1) := by decide +kernel
theorem dX6_handsInRows_32 : decode cX6_handsInRows 32 = .ok (.getfield 18, 3) := by decide +kernel
theorem dX6_handsInRows_35 : decode cX6_handsInRows 35 = .ok (.getfield 76, 3) := by decide +kernel
theorem dX6_handsInRows_38 : decode cX6_handsInRows 38 = .ok (.iload 5, 2) := by decide +kernel
theorem dX6_handsInRows_40 : decode cX6_handsInRows 40 = .ok (.iaload, 1) := by decide +kernel
theorem dX6_handsInRows_41 : decode cX6_handsInRows 41 = .ok (.isub, 1) := by decide +kernel
theorem dX6_handsInRows_42 : decode cX6_handsInRows 42 = .ok (.istore 7, 2) := by decide +kernel
theorem dX6_handsInRows_44 : decode cX6_handsInRows 44 = .ok (.aload_n 0, 1) := by decide +kernel
theorem dX6_handsInRows_45 : decode cX6_handsInRows 45 = .ok (.iload_n 3, 1) := by decide +kernel
theorem dX6_handsInRows_46 : decode cX6_handsInRows 46 = .ok (.iload 6, 2) := by decide +kernel
theorem dX6_handsInRows_48 : decode cX6_handsInRows 48 = .ok (.invokevirtual 79, 3) := by decide +kernel
theorem dX6_handsInRows_51 : decode cX6_handsInRows 51 = .ok (.ifCond .le 26, 3) := by decide +kernel
theorem dX6_handsInRows_54 : decode cX6_handsInRows 54 = .ok (.aload_n 0, 1) := by decide +kernel
theorem dX6_handsInRows_55 : decode cX6_handsInRows 55 = .ok (.iload_n 1, 1) := by decide +kernel
theorem dX6_handsInRows_56 : decode cX6_handsInRows 56 = .ok (.iload_n 3, 1) := by decide +kernel
theorem dX6_handsInRows_57 : decode cX6_handsInRows 57 = .ok (.isub, 1) := by decide +kernel
theorem dX6_handsInRows_58 : decode cX6_handsInRows 58 = .ok (.iconst 1, 1) := by decide +kernel
theorem dX6_handsInRows_59 : decode cX6_handsInRows 59 = .ok (.isub, 1) := by decide +kernel
theorem dX6_handsInRows_60 : decode cX6_handsInRows 60 = .ok (.iload 7, 2) := by decide +kernel
theorem dX6_handsInRows_62 : decode cX6_handsInRows 62 = .ok (.invokevirtual 79, 3) := by decide +kernel
theorem dX6_handsInRows_65 : decode cX6_handsInRows 65 = .ok (.ifCond .le 12, 3) := by decide +kernel
theorem dX6_handsInRows_68 : decode cX6_handsInRows 68 = .ok (.iload 4, 2) := by decide +kernel
theorem dX6_handsInRows_70 : decode cX6_handsInRows 70 = .ok (.iconst 1, 1) := by decide +kernel
theorem dX6_handsInRows_71 : decode cX6_handsInRows 71 = .ok (.iload 5, 2) := by decide +kernel
theorem dX6_handsInRows_73 : decode cX6_handsInRows 73 = .ok (.ishl, 1) := by decide +kernel
theorem dX6_handsInRows_74 : decode cX6_handsInRows 74 = .ok (.ior, 1) := by decide +kernel
theorem dX6_handsInRows_75 : decode cX6_handsInRows 75 = .ok (.istore 4, 2) := by decide +kernel
theorem dX6_handsInRows_77 : decode cX6_handsInRows 77 = .ok (.iinc 6 1, 3) := by decide +kernel
theorem dX6_handsInRows_80 : decode cX6_handsInRows 80 = .ok (.goto (-59), 3) := by decide +kernel
theorem dX6_handsInRows_83 : decode cX6_handsInRows 83 = .ok (.iinc 5 1, 3) := by decide +kernel
theorem dX6_handsInRows_86 : decode cX6_handsInRows 86 = .ok (.goto (-80), 3) := by decide +kernel
theorem dX6_handsInRows_89 : decode cX6_handsInRows 89 = .ok (.iload 4, 2) := by decide +kernel
theorem dX6_handsInRows_91 : decode cX6_handsInRows 91 = .ok (.ireturn, 1) := by decide +kernel
theorem dX7_init_0 : decode cX7_init 0 = .ok (.aload_n 0, 1) := by decide +kernel
theorem dX7_init_1 : decode cX7_init 1 = .ok (.invokespecial 3, 3) := by decide +kernel
theorem dX7_init_4 : decode cX7_init 4 = .ok (.aload_n 0, 1) := by decide +kernel
theorem dX7_init_5 : decode cX7_init 5 = .ok (.sipush 400, 3) := by decide +kernel
theorem dX7_init_8 : decode cX7_init 8 = .ok (.newarray .byte, 2) := by decide +kernel
theorem dX7_init_10 : decode cX7_init 10 = .ok (.putfield 9, 3) := by decide +kernel
theorem dX7_init_13 : decode cX7_init 13 = .ok (.return_, 1) := by decide +kernel
theorem dX7_hasRoomFor_0 : decode cX7_hasRoomFor 0 = .ok (.aload_n 0, 1) := by decide +kernel
theorem dX7_hasRoomFor_1 : decode cX7_hasRoomFor 1 = .ok (.getfield 15, 3) := by decide +kernel
theorem dX7_hasRoomFor_4 : decode cX7_hasRoomFor 4 = .ok (.iload_n 1, 1) := by decide +kernel
theorem dX7_hasRoomFor_5 : decode cX7_hasRoomFor 5 = .ok (.iadd, 1) := by decide +kernel
theorem dX7_hasRoomFor_6 : decode cX7_hasRoomFor 6 = .ok (.sipush 400, 3) := by decide +kernel
theorem dX7_hasRoomFor_9 : decode cX7_hasRoomFor 9 = .ok (.if_icmp .gt 7, 3) := by decide +kernel
theorem dX7_hasRoomFor_12 : decode cX7_hasRoomFor 12 = .ok (.iconst 1, 1) := by decide +kernel
theorem dX7_hasRoomFor_13 : decode cX7_hasRoomFor 13 = .ok (.goto 4, 3) := by decide +kernel
theorem dX7_hasRoomFor_16 : decode cX7_hasRoomFor 16 = .ok (.iconst 0, 1) := by decide +kernel
theorem dX7_hasRoomFor_17 : decode cX7_hasRoomFor 17 = .ok (.ireturn, 1) := by decide +kernel
theorem dX7_add_0 : decode cX7_add 0 = .ok (.bipush 24, 2) := by decide +kernel
theorem dX7_add_2 : decode cX7_add 2 = .ok (.istore_n 2, 1) := by decide +kernel
theorem dX7_add_3 : decode cX7_add 3 = .ok (.iload_n 2, 1) := by decide +kernel
theorem dX7_add_4 : decode cX7_add 4 = .ok (.ifCond .lt 42, 3) := by decide +kernel
theorem dX7_add_7 : decode cX7_add 7 = .ok (.aload_n 0, 1) := by decide +kernel
theorem dX7_add_8 : decode cX7_add 8 = .ok (.getfield 15, 3) := by decide +kernel
theorem dX7_add_11 : decode cX7_add 11 = .ok (.sipush 400, 3) := by decide +kernel
theorem dX7_add_14 : decode cX7_add 14 = .ok (.if_icmp .ge 26, 3) := by decide +kernel
theorem dX7_add_17 : decode cX7_add 17 = .ok (.aload_n 0, 1) := by decide +kernel
theorem dX7_add_18 : decode cX7_add 18 = .ok (.getfield 9, 3) := by decide +kernel
theorem dX7_add_21 : decode cX7_add 21 = .ok (.aload_n 0, 1) := by decide +kernel
theorem dX7_add_22 : decode cX7_add 22 = .ok (.getfield 15, 3) := by decide +kernel
theorem dX7_add_25 : decode cX7_add 25 = .ok (.iload_n 1, 1) := by decide +kernel
theorem dX7_add_26 : decode cX7_add 26 = .ok (.iload_n 2, 1) := by decide +kernel
theorem dX7_add_27 : decode cX7_add 27 = .ok (.ishr, 1) := by decide +kernel
theorem dX7_add_28 : decode cX7_add 28 = .ok (.i2b, 1) := by decide +kernel
theorem dX7_add_29 : decode cX7_add 29 = .ok (.bastore, 1) := by decide +kernel
theorem dX7_add_30 : decode cX7_add 30 = .ok (.aload_n 0, 1) := by decide +kernel
theorem dX7_add_31 : decode cX7_add 31 = .ok (.dup, 1) := by decide +kernel
theorem dX7_add_32 : decode cX7_add 32 = .ok (.getfield 15, 3) := by decide +kernel
theorem dX7_add_35 : decode cX7_add 35 = .ok (.iconst 1, 1) := by decide +kernel
theorem dX7_add_36 : decode cX7_add 36 = .ok (.iadd, 1) := by decide +kernel
theorem dX7_add_37 : decode cX7_add 37 = .ok (.putfield 15, 3) := by decide +kernel
theorem dX7_add_40 : decode cX7_add 40 = .ok (.iinc 2 (-8), 3) := by decide +kernel
theorem dX7_add_43 : decode cX7_add 43 = .ok (.goto (-40), 3) := by decide +kernel
theorem dX7_add_46 : decode cX7_add 46 = .ok (.return_, 1) := by decide +kernel
theorem dX7_rewind_0 : decode cX7_rewind 0 = .ok (.aload_n 0, 1) := by decide +kernel
theorem dX7_rewind_1 : decode cX7_rewind 1 = .ok (.iconst 0, 1) := by decide +kernel
theorem dX7_rewind_2 : decode cX7_rewind 2 = .ok (.putfield 19, 3) := by decide +kernel
theorem dX7_rewind_5 : decode cX7_rewind 5 = .ok (.aload_n 0, 1) := by decide +kernel
theorem dX7_rewind_6 : decode cX7_rewind 6 = .ok (.iconst 0, 1) := by decide +kernel
theorem dX7_rewind_7 : decode cX7_rewind 7 = .ok (.putfield 22, 3) := by decide +kernel
theorem dX7_rewind_10 : decode cX7_rewind 10 = .ok (.aload_n 0, 1) := by decide +kernel
theorem dX7_rewind_11 : decode cX7_rewind 11 = .ok (.iconst 0, 1) := by decide +kernel
theorem dX7_rewind_12 : decode cX7_rewind 12 = .ok (.putfield 25, 3) := by decide +kernel
theorem dX7_rewind_15 : decode cX7_rewind 15 = .ok (.return_, 1) := by decide +kernel
theorem dX7_byteAt_0 : decode cX7_byteAt 0 = .ok (.iload_n 1, 1) := by decide +kernel
theorem dX7_byteAt_1 : decode cX7_byteAt 1 = .ok (.ifCond .lt 31, 3) := by decide +kernel
theorem dX7_byteAt_4 : decode cX7_byteAt 4 = .ok (.iload_n 1, 1) := by decide +kernel
theorem dX7_byteAt_5 : decode cX7_byteAt 5 = .ok (.aload_n 0, 1) := by decide +kernel
theorem dX7_byteAt_6 : decode cX7_byteAt 6 = .ok (.getfield 15, 3) := by decide +kernel
theorem dX7_byteAt_9 : decode cX7_byteAt 9 = .ok (.if_icmp .ge 23, 3) := by decide +kernel
theorem dX7_byteAt_12 : decode cX7_byteAt 12 = .ok (.iload_n 1, 1) := by decide +kernel
theorem dX7_byteAt_13 : decode cX7_byteAt 13 = .ok (.sipush 400, 3) := by decide +kernel
theorem dX7_byteAt_16 : decode cX7_byteAt 16 = .ok (.if_icmp .ge 16, 3) := by decide +kernel
theorem dX7_byteAt_19 : decode cX7_byteAt 19 = .ok (.aload_n 0, 1) := by decide +kernel
theorem dX7_byteAt_20 : decode cX7_byteAt 20 = .ok (.getfield 9, 3) := by decide +kernel
theorem dX7_byteAt_23 : decode cX7_byteAt 23 = .ok (.iload_n 1, 1) := by decide +kernel
theorem dX7_byteAt_24 : decode cX7_byteAt 24 = .ok (.baload, 1) := by decide +kernel
theorem dX7_byteAt_25 : decode cX7_byteAt 25 = .ok (.sipush 255, 3) := by decide +kernel
theorem dX7_byteAt_28 : decode cX7_byteAt 28 = .ok (.iand, 1) := by decide +kernel
theorem dX7_byteAt_29 : decode cX7_byteAt 29 = .ok (.goto 4, 3) := by decide +kernel
theorem dX7_byteAt_32 : decode cX7_byteAt 32 = .ok (.iconst (-1), 1) := by decide +kernel
theorem dX7_byteAt_33 : decode cX7_byteAt 33 = .ok (.ireturn, 1) := by decide +kernel
theorem dX7_look_0 : decode cX7_look 0 = .ok (.aload_n 0, 1) := by decide +kernel
theorem dX7_look_1 : decode cX7_look 1 = .ok (.getfield 19, 3) := by decide +kernel
theorem dX7_look_4 : decode cX7_look 4 = .ok (.aload_n 0, 1) := by decide +kernel
theorem dX7_look_5 : decode cX7_look 5 = .ok (.getfield 15, 3) := by decide +kernel
theorem dX7_look_8 : decode cX7_look 8 = .ok (.if_icmp .ge 30, 3) := by decide +kernel
theorem dX7_look_11 : decode cX7_look 11 = .ok (.aload_n 0, 1) := by decide +kernel
theorem dX7_look_12 : decode cX7_look 12 = .ok (.getfield 9, 3) := by decide +kernel
theorem dX7_look_15 : decode cX7_look 15 = .ok (.aload_n 0, 1) := by decide +kernel
theorem dX7_look_16 : decode cX7_look 16 = .ok (.getfield 19, 3) := by decide +kernel
theorem dX7_look_19 : decode cX7_look 19 = .ok (.baload, 1) := by decide +kernel
theorem dX7_look_20 : decode cX7_look 20 = .ok (.bipush 32, 2) := by decide +kernel
theorem dX7_look_22 : decode cX7_look 22 = .ok (.if_icmp .ne 16, 3) := by decide +kernel
theorem dX7_look_25 : decode cX7_look 25 = .ok (.aload_n 0, 1) := by decide +kernel
theorem dX7_look_26 : decode cX7_look 26 = .ok (.dup, 1) := by decide +kernel
theorem dX7_look_27 : decode cX7_look 27 = .ok (.getfield 19, 3) := by decide +kernel
theorem dX7_look_30 : decode cX7_look 30 = .ok (.iconst 1, 1) := by decide +kernel
theorem dX7_look_31 : decode cX7_look 31 = .ok (.iadd, 1) := by decide +kernel
theorem dX7_look_32 : decode cX7_look 32 = .ok (.putfield 19, 3) := by decide +kernel
theorem dX7_look_35 : decode cX7_look 35 = .ok (.goto (-35), 3) := by decide +kernel
theorem dX7_look_38 : decode cX7_look 38 = .ok (.aload_n 0, 1) := by decide +kernel
theorem dX7_look_39 : decode cX7_look 39 = .ok (.aload_n 0, 1) := by decide +kernel
theorem dX7_look_40 : decode cX7_look 40 = .ok (.getfield 19, 3) := by decide +kernel
theorem dX7_look_43 : decode cX7_look 43 = .ok (.putfield 22, 3) := by decide +kernel
theorem dX7_look_46 : decode cX7_look 46 = .ok (.aload_n 0, 1) := by decide +kernel
theorem dX7_look_47 : decode cX7_look 47 = .ok (.getfield 19, 3) := by decide +kernel
theorem dX7_look_50 : decode cX7_look 50 = .ok (.aload_n 0, 1) := by decide +kernel
theorem dX7_look_51 : decode cX7_look 51 = .ok (.getfield 15, 3) := by decide +kernel
theorem dX7_look_54 : decode cX7_look 54 = .ok (.if_icmp .ge 19, 3) := by decide +kernel
theorem dX7_look_57 : decode cX7_look 57 = .ok (.aload_n 0, 1) := by decide +kernel
theorem dX7_look_58 : decode cX7_look 58 = .ok (.getfield 9, 3) := by decide +kernel
theorem dX7_look_61 : decode cX7_look 61 = .ok (.aload_n 0, 1) := by decide +kernel
theorem dX7_look_62 : decode cX7_look 62 = .ok (.getfield 19, 3) := by decide +kernel
theorem dX7_look_65 : decode cX7_look 65 = .ok (.baload, 1) := by decide +kernel
theorem dX7_look_66 : decode cX7_look 66 = .ok (.sipush 255, 3) := by decide +kernel
theorem dX7_look_69 : decode cX7_look 69 = .ok (.iand, 1) := by decide +kernel
theorem dX7_look_70 : decode cX7_look 70 = .ok (.goto 4, 3) := by decide +kernel
theorem dX7_look_73 : decode cX7_look 73 = .ok (.iconst (-1), 1) := by decide +kernel
theorem dX7_look_74 : decode cX7_look 74 = .ok (.ireturn, 1) := by decide +kernel
set_option maxRecDepth 20000 in
theorem ggX7_isAtEnd_X7_look : GoodIn wsX7_isAtEnd wsX7_look := goodIn_r _ [5, 6, 7, 8, 9, 10, 11, 12, 13, 14] (by decide +kernel) (by decide +kernel)
set_option maxRecDepth 20000 in
theorem gX7_isAtEnd_X7_look : GoodIn wsX7_isAtEnd (wsV RX7 28 RX7 yX7_look wsX7_look) := goodIn_app (goodIn_of _ (by decide +kernel)) ggX7_isAtEnd_X7_look
theorem dX7_isAtEnd_0 : decode cX7_isAtEnd 0 = .ok (.aload_n 0, 1) := by decide +kernel
theorem dX7_isAtEnd_1 : decode cX7_isAtEnd 1 = .ok (.invokevirtual 28, 3) := by decide +kernel
theorem dX7_isAtEnd_4 : decode cX7_isAtEnd 4 = .ok (.iconst (-1), 1) := by decide +kernel
theorem dX7_isAtEnd_5 : decode cX7_isAtEnd 5 = .ok (.if_icmp .ne 7, 3) := by decide +kernel
theorem dX7_isAtEnd_8 : decode cX7_isAtEnd 8 = .ok (.iconst 1, 1) := by decide +kernel
theorem dX7_isAtEnd_9 : decode cX7_isAtEnd 9 = .ok (.goto 4, 3) := by decide +kernel
theorem dX7_isAtEnd_12 : decode cX7_isAtEnd 12 = .ok (.iconst 0, 1) := by decide +kernel
theorem dX7_isAtEnd_13 : decode cX7_isAtEnd 13 = .ok (.ireturn, 1) := by decide +kernel
set_option maxRecDepth 20000 in
theorem ggX7_continuesWith_X7_byteAt : GoodIn wsX7_continuesWith wsX7_byteAt := goodIn_r _ [6, 7, 8, 9, 10, 11, 12, 13] (by decide +kernel) (by decide +kernel)
set_option maxRecDepth 20000 in
theorem gX7_continuesWith_X7_byteAt : GoodIn wsX7_continuesWith (wsV RX7 32 RX7 yX7_byteAt wsX7_byteAt) := goodIn_app (goodIn_of _ (by decide +kernel)) ggX7_continuesWith_X7_byteAt
theorem dX7_continuesWith_0 : decode cX7_continuesWith 0 = .ok (.aload_n 0, 1) := by decide +kernel
theorem dX7_continuesWith_1 : decode cX7_continuesWith 1 = .ok (.aload_n 0, 1) := by decide +kernel
theorem dX7_continuesWith_2 : decode cX7_continuesWith 2 = .ok (.getfield 19, 3) := by decide +kernel
theorem dX7_continuesWith_5 : decode cX7_continuesWith 5 = .ok (.invokevirtual 32, 3) := by decide +kernel
theorem dX7_continuesWith_8 : decode cX7_continuesWith 8 = .ok (.iload_n 1, 1) := by decide +kernel
theorem dX7_continuesWith_9 : decode cX7_continuesWith 9 = .ok (.if_icmp .eq 5, 3) := by decide +kernel
theorem dX7_continuesWith_12 : decode cX7_continuesWith 12 = .ok (.iconst 0, 1) := by decide +kernel
theorem dX7_continuesWith_13 : decode cX7_continuesWith 13 = .ok (.ireturn, 1) := by decide +kernel
theorem dX7_continuesWith_14 : decode cX7_continuesWith 14 = .ok (.aload_n 0, 1) := by decide +kernel
theorem dX7_continuesWith_15 : decode cX7_continuesWith 15 = .ok (.dup, 1) := by decide +kernel
theorem dX7_continuesWith_16 : decode cX7_continuesWith 16 = .ok (.getfield 19, 3) := by decide +kernel
theorem dX7_continuesWith_19 : decode cX7_continuesWith 19 = .ok (.iconst 1, 1) := by decide +kernel
theorem dX7_continuesWith_20 : decode cX7_continuesWith 20 = .ok (.iadd, 1) := by decide +kernel
theorem dX7_continuesWith_21 : decode cX7_continuesWith 21 = .ok (.putfield 19, 3) := by decide +kernel
theorem dX7_continuesWith_24 : decode cX7_continuesWith 24 = .ok (.iconst 1, 1) := by decide +kernel
theorem dX7_continuesWith_25 : decode cX7_continuesWith 25 = .ok (.ireturn, 1) := by decide +kernel
set_option maxRecDepth 20000 in
theorem ggX7_takesSign_X7_look : GoodIn wsX7_takesSign wsX7_look := goodIn_r _ [6, 1, 7, 8, 9, 10, 11, 12, 13, 14] (by decide +kernel) (by decide +kernel)
set_option maxRecDepth 20000 in
theorem gX7_takesSign_X7_look : GoodIn wsX7_takesSign (wsV RX7 28 RX7 yX7_look wsX7_look) := goodIn_app (goodIn_of _ (by decide +kernel)) ggX7_takesSign_X7_look
theorem dX7_takesSign_0 : decode cX7_takesSign 0 = .ok (.aload_n 0, 1) := by decide +kernel
theorem dX7_takesSign_1 : decode cX7_takesSign 1 = .ok (.invokevirtual 28, 3) := by decide +kernel
theorem dX7_takesSign_4 : decode cX7_takesSign 4 = .ok (.iload_n 1, 1) := by decide +kernel
theorem dX7_takesSign_5 : decode cX7_takesSign 5 = .ok (.if_icmp .eq 5, 3) := by decide +kernel
theorem dX7_takesSign_8 : decode cX7_takesSign 8 = .ok (.iconst 0, 1) := by decide +kernel
theorem dX7_takesSign_9 : decode cX7_takesSign 9 = .ok (.ireturn, 1) := by decide +kernel
theorem dX7_takesSign_10 : decode cX7_takesSign 10 = .ok (.aload_n 0, 1) := by decide +kernel
theorem dX7_takesSign_11 : decode cX7_takesSign 11 = .ok (.dup, 1) := by decide +kernel
theorem dX7_takesSign_12 : decode cX7_takesSign 12 = .ok (.getfield 19, 3) := by decide +kernel
theorem dX7_takesSign_15 : decode cX7_takesSign 15 = .ok (.iconst 1, 1) := by decide +kernel
theorem dX7_takesSign_16 : decode cX7_takesSign 16 = .ok (.iadd, 1) := by decide +kernel
theorem dX7_takesSign_17 : decode cX7_takesSign 17 = .ok (.putfield 19, 3) := by decide +kernel
theorem dX7_takesSign_20 : decode cX7_takesSign 20 = .ok (.iconst 1, 1) := by decide +kernel
theorem dX7_takesSign_21 : decode cX7_takesSign 21 = .ok (.ireturn, 1) := by decide +kernel
set_option maxRecDepth 20000 in
theorem ggX7_takesWord_X7_look : GoodIn wsX7_takesWord wsX7_look := goodIn_r _ [6, 1, 7, 8, 9, 63, 64, 65, 66, 67] (by decide +kernel) (by decide +kernel)
set_option maxRecDepth 20000 in
theorem gX7_takesWord_X7_look : GoodIn wsX7_takesWord (wsV RX7 28 RX7 yX7_look wsX7_look) := goodIn_app (goodIn_of _ (by decide +kernel)) ggX7_takesWord_X7_look
set_option maxRecDepth 20000 in
theorem ggX7_takesWord_J0_length_8abf5 : GoodIn wsX7_takesWord wsJ0_length_8abf5 := goodIn_r _ [14, 15, 16, 17, 18, 13, 19, 20, 21] (by decide +kernel) (by decide +kernel)
set_option maxRecDepth 20000 in
theorem gX7_takesWord_J0_length_8abf5 : GoodIn wsX7_takesWord (wsV RX7 36 RJ0 yJ0_length_8abf5 wsJ0_length_8abf5) := goodIn_app (goodIn_of _ (by decide +kernel)) ggX7_takesWord_J0_length_8abf5
set_option maxRecDepth 20000 in
theorem ggX7_takesWord_X7_byteAt : GoodIn wsX7_takesWord wsX7_byteAt := goodIn_r _ [25, 7, 8, 63, 64, 65, 66, 67] (by decide +kernel) (by decide +kernel)
set_option maxRecDepth 20000 in
theorem gX7_takesWord_X7_byteAt : GoodIn wsX7_takesWord (wsV RX7 32 RX7 yX7_byteAt wsX7_byteAt) := goodIn_app (goodIn_of _ (by decide +kernel)) ggX7_takesWord_X7_byteAt
set_option maxRecDepth 20000 in
theorem ggX7_takesWord_J0_charAt_5068e : GoodIn wsX7_takesWord wsJ0_charAt_5068e := goodIn_r _ [29, 15, 30, 31, 32, 13, 33, 20, 21, 34, 35, 36, 37, 38, 39, 40, 41, 42, 43, 44, 45, 46, 47, 48, 49, 50, 51, 52, 53, 54, 55, 56, 57, 58, 59, 60, 61, 62] (by decide +kernel) (by decide +kernel)
set_option maxRecDepth 20000 in
theorem gX7_takesWord_J0_charAt_5068e : GoodIn wsX7_takesWord (wsV RX7 40 RJ0 yJ0_charAt_5068e wsJ0_charAt_5068e) := goodIn_app (goodIn_of _ (by decide +kernel)) ggX7_takesWord_J0_charAt_5068e
theorem dX7_takesWord_0 : decode cX7_takesWord 0 = .ok (.aload_n 0, 1) := by decide +kernel
theorem dX7_takesWord_1 : decode cX7_takesWord 1 = .ok (.invokevirtual 28, 3) := by decide +kernel
theorem dX7_takesWord_4 : decode cX7_takesWord 4 = .ok (.pop, 1) := by decide +kernel
theorem dX7_takesWord_5 : decode cX7_takesWord 5 = .ok (.aload_n 1, 1) := by decide +kernel
theorem dX7_takesWord_6 : decode cX7_takesWord 6 = .ok (.invokevirtual 36, 3) := by decide +kernel
theorem dX7_takesWord_9 : decode cX7_takesWord 9 = .ok (.istore_n 2, 1) := by decide +kernel
theorem dX7_takesWord_10 : decode cX7_takesWord 10 = .ok (.iconst 0, 1) := by decide +kernel
theorem dX7_takesWord_11 : decode cX7_takesWord 11 = .ok (.istore_n 3, 1) := by decide +kernel
theorem dX7_takesWord_12 : decode cX7_takesWord 12 = .ok (.iload_n 3, 1) := by decide +kernel
theorem dX7_takesWord_13 : decode cX7_takesWord 13 = .ok (.iload_n 2, 1) := by decide +kernel
theorem dX7_takesWord_14 : decode cX7_takesWord 14 = .ok (.if_icmp .ge 29, 3) := by decide +kernel
theorem dX7_takesWord_17 : decode cX7_takesWord 17 = .ok (.aload_n 0, 1) := by decide +kernel
theorem dX7_takesWord_18 : decode cX7_takesWord 18 = .ok (.aload_n 0, 1) := by decide +kernel
theorem dX7_takesWord_19 : decode cX7_takesWord 19 = .ok (.getfield 19, 3) := by decide +kernel
theorem dX7_takesWord_22 : decode cX7_takesWord 22 = .ok (.iload_n 3, 1) := by decide +kernel
theorem dX7_takesWord_23 : decode cX7_takesWord 23 = .ok (.iadd, 1) := by decide +kernel
theorem dX7_takesWord_24 : decode cX7_takesWord 24 = .ok (.invokevirtual 32, 3) := by decide +kernel
theorem dX7_takesWord_27 : decode cX7_takesWord 27 = .ok (.aload_n 1, 1) := by decide +kernel
theorem dX7_takesWord_28 : decode cX7_takesWord 28 = .ok (.iload_n 3, 1) := by decide +kernel
theorem dX7_takesWord_29 : decode cX7_takesWord 29 = .ok (.invokevirtual 40, 3) := by decide +kernel
theorem dX7_takesWord_32 : decode cX7_takesWord 32 = .ok (.if_icmp .eq 5, 3) := by decide +kernel
theorem dX7_takesWord_35 : decode cX7_takesWord 35 = .ok (.iconst 0, 1) := by decide +kernel
theorem dX7_takesWord_36 : decode cX7_takesWord 36 = .ok (.ireturn, 1) := by decide +kernel
theorem dX7_takesWord_37 : decode cX7_takesWord 37 = .ok (.iinc 3 1, 3) := by decide +kernel
theorem dX7_takesWord_40 : decode cX7_takesWord 40 = .ok (.goto (-28), 3) := by decide +kernel
theorem dX7_takesWord_43 : decode cX7_takesWord 43 = .ok (.aload_n 0, 1) := by decide +kernel
theorem dX7_takesWord_44 : decode cX7_takesWord 44 = .ok (.aload_n 0, 1) := by decide +kernel
theorem dX7_takesWord_45 : decode cX7_takesWord 45 = .ok (.getfield 19, 3) := by decide +kernel
theorem dX7_takesWord_48 : decode cX7_takesWord 48 = .ok (.iload_n 2, 1) := by decide +kernel
theorem dX7_takesWord_49 : decode cX7_takesWord 49 = .ok (.iadd, 1) := by decide +kernel
theorem dX7_takesWord_50 : decode cX7_takesWord 50 = .ok (.invokevirtual 32, 3) := by decide +kernel
theorem dX7_takesWord_53 : decode cX7_takesWord 53 = .ok (.istore_n 3, 1) := by decide +kernel
theorem dX7_takesWord_54 : decode cX7_takesWord 54 = .ok (.iload_n 3, 1) := by decide +kernel
theorem dX7_takesWord_55 : decode cX7_takesWord 55 = .ok (.bipush 97, 2) := by decide +kernel
theorem dX7_takesWord_57 : decode cX7_takesWord 57 = .ok (.if_icmp .lt 11, 3) := by decide +kernel
theorem dX7_takesWord_60 : decode cX7_takesWord 60 = .ok (.iload_n 3, 1) := by decide +kernel
theorem dX7_takesWord_61 : decode cX7_takesWord 61 = .ok (.bipush 122, 2) := by decide +kernel
theorem dX7_takesWord_63 : decode cX7_takesWord 63 = .ok (.if_icmp .gt 5, 3) := by decide +kernel
theorem dX7_takesWord_66 : decode cX7_takesWord 66 = .ok (.iconst 0, 1) := by decide +kernel
theorem dX7_takesWord_67 : decode cX7_takesWord 67 = .ok (.ireturn, 1) := by decide +kernel
theorem dX7_takesWord_68 : decode cX7_takesWord 68 = .ok (.aload_n 0, 1) := by decide +kernel
theorem dX7_takesWord_69 : decode cX7_takesWord 69 = .ok (.dup, 1) := by decide +kernel
theorem dX7_takesWord_70 : decode cX7_takesWord 70 = .ok (.getfield 19, 3) := by decide +kernel
theorem dX7_takesWord_73 : decode cX7_takesWord 73 = .ok (.iload_n 2, 1) := by decide +kernel
theorem dX7_takesWord_74 : decode cX7_takesWord 74 = .ok (.iadd, 1) := by decide +kernel
theorem dX7_takesWord_75 : decode cX7_takesWord 75 = .ok (.putfield 19, 3) := by decide +kernel
theorem dX7_takesWord_78 : decode cX7_takesWord 78 = .ok (.iconst 1, 1) := by decide +kernel
theorem dX7_takesWord_79 : decode cX7_takesWord 79 = .ok (.ireturn, 1) := by decide +kernel
set_option maxRecDepth 20000 in
theorem ggX7_isAtDigit_X7_look : GoodIn wsX7_isAtDigit wsX7_look := goodIn_r _ [5, 6, 7, 8, 9, 13, 14, 15, 16, 17] (by decide +kernel) (by decide +kernel)
set_option maxRecDepth 20000 in
theorem gX7_isAtDigit_X7_look : GoodIn wsX7_isAtDigit (wsV RX7 28 RX7 yX7_look wsX7_look) := goodIn_app (goodIn_of _ (by decide +kernel)) ggX7_isAtDigit_X7_look
set_option maxRecDepth 20000 in
theorem ggX7_isAtDigit_X7_isDigit : GoodIn wsX7_isAtDigit wsX7_isDigit := goodIn_r _ [12] (by decide +kernel) (by decide +kernel)
set_option maxRecDepth 20000 in
theorem gX7_isAtDigit_X7_isDigit : GoodIn wsX7_isAtDigit (va_wsS RX7 44 yX7_isDigit wsX7_isDigit) := goodIn_app (goodIn_of _ (by decide +kernel)) ggX7_isAtDigit_X7_isDigit
theorem dX7_isAtDigit_0 : decode cX7_isAtDigit 0 = .ok (.aload_n 0, 1) := by decide +kernel
theorem dX7_isAtDigit_1 : decode cX7_isAtDigit 1 = .ok (.invokevirtual 28, 3) := by decide +kernel
theorem dX7_isAtDigit_4 : decode cX7_isAtDigit 4 = .ok (.invokestatic 44, 3) := by decide +kernel
theorem dX7_isAtDigit_7 : decode cX7_isAtDigit 7 = .ok (.ireturn, 1) := by decide +kernel
theorem dX7_isDigit_0 : decode cX7_isDigit 0 = .ok (.iload_n 0, 1) := by decide +kernel
theorem dX7_isDigit_1 : decode cX7_isDigit 1 = .ok (.bipush 48, 2) := by decide +kernel
theorem dX7_isDigit_3 : decode cX7_isDigit 3 = .ok (.if_icmp .lt 13, 3) := by decide +kernel
theorem dX7_isDigit_6 : decode cX7_isDigit 6 = .ok (.iload_n 0, 1) := by decide +kernel
theorem dX7_isDigit_7 : decode cX7_isDigit 7 = .ok (.bipush 57, 2) := by decide +kernel
theorem dX7_isDigit_9 : decode cX7_isDigit 9 = .ok (.if_icmp .gt 7, 3) := by decide +kernel
theorem dX7_isDigit_12 : decode cX7_isDigit 12 = .ok (.iconst 1, 1) := by decide +kernel
theorem dX7_isDigit_13 : decode cX7_isDigit 13 = .ok (.goto 4, 3) := by decide +kernel
theorem dX7_isDigit_16 : decode cX7_isDigit 16 = .ok (.iconst 0, 1) := by decide +kernel
theorem dX7_isDigit_17 : decode cX7_isDigit 17 = .ok (.ireturn, 1) := by decide +kernel
set_option maxRecDepth 20000 in
theorem ggX7_takeNumber_X7_look : GoodIn wsX7_takeNumber wsX7_look := goodIn_r _ [8, 1, 2, 9, 3, 22, 23, 24, 25, 26] (by decide +kernel) (by decide +kernel)
set_option maxRecDepth 20000 in
theorem gX7_takeNumber_X7_look : GoodIn wsX7_takeNumber (wsV RX7 28 RX7 yX7_look wsX7_look) := goodIn_app (goodIn_of _ (by decide +kernel)) ggX7_takeNumber_X7_look
set_option maxRecDepth 20000 in
theorem ggX7_takeNumber_X7_isDigit : GoodIn wsX7_takeNumber wsX7_isDigit := goodIn_r _ [12] (by decide +kernel) (by decide +kernel)
set_option maxRecDepth 20000 in
theorem gX7_takeNumber_X7_isDigit : GoodIn wsX7_takeNumber (va_wsS RX7 44 yX7_isDigit wsX7_isDigit) := goodIn_app (goodIn_of _ (by decide +kernel)) ggX7_takeNumber_X7_isDigit
set_option maxRecDepth 20000 in
theorem ggX7_takeNumber_X7_refuse : GoodIn wsX7_takeNumber wsX7_refuse := goodIn_r _ [16, 17, 3, 22, 23, 24, 25, 26] (by decide +kernel) (by decide +kernel)
set_option maxRecDepth 20000 in
theorem gX7_takeNumber_X7_refuse : GoodIn wsX7_takeNumber (wsV RX7 48 RX7 yX7_refuse wsX7_refuse) := goodIn_app (goodIn_of _ (by decide +kernel)) ggX7_takeNumber_X7_refuse
set_option maxRecDepth 20000 in
theorem ggX7_takeNumber_X7_byteAt : GoodIn wsX7_takeNumber wsX7_byteAt := goodIn_r _ [21, 2, 9, 22, 23, 24, 25, 26] (by decide +kernel) (by decide +kernel)
set_option maxRecDepth 20000 in
theorem gX7_takeNumber_X7_byteAt : GoodIn wsX7_takeNumber (wsV RX7 32 RX7 yX7_byteAt wsX7_byteAt) := goodIn_app (goodIn_of _ (by decide +kernel)) ggX7_takeNumber_X7_byteAt
theorem dX7_takeNumber_0 : decode cX7_takeNumber 0 = .ok (.aload_n 0, 1) := by decide +kernel
theorem dX7_takeNumber_1 : decode cX7_takeNumber 1 = .ok (.invokevirtual 28, 3) := by decide +kernel
theorem dX7_takeNumber_4 : decode cX7_takeNumber 4 = .ok (.invokestatic 44, 3) := by decide +kernel
theorem dX7_takeNumber_7 : decode cX7_takeNumber 7 = .ok (.ifCond .ne 11, 3) := by decide +kernel
theorem dX7_takeNumber_10 : decode cX7_takeNumber 10 = .ok (.aload_n 0, 1) := by decide +kernel
theorem dX7_takeNumber_11 : decode cX7_takeNumber 11 = .ok (.iconst 0, 1) := by decide +kernel
theorem dX7_takeNumber_12 : decode cX7_takeNumber 12 = .ok (.invokevirtual 48, 3) := by decide +kernel
theorem dX7_takeNumber_15 : decode cX7_takeNumber 15 = .ok (.pop, 1) := by decide +kernel
theorem dX7_takeNumber_16 : decode cX7_takeNumber 16 = .ok (.iconst (-1), 1) := by decide +kernel
theorem dX7_takeNumber_17 : decode cX7_takeNumber 17 = .ok (.ireturn, 1) := by decide +kernel
theorem dX7_takeNumber_18 : decode cX7_takeNumber 18 = .ok (.iconst 0, 1) := by decide +kernel
theorem dX7_takeNumber_19 : decode cX7_takeNumber 19 = .ok (.istore_n 3, 1) := by decide +kernel
theorem dX7_takeNumber_20 : decode cX7_takeNumber 20 = .ok (.aload_n 0, 1) := by decide +kernel
theorem dX7_takeNumber_21 : decode cX7_takeNumber 21 = .ok (.getfield 19, 3) := by decide +kernel
theorem dX7_takeNumber_24 : decode cX7_takeNumber 24 = .ok (.aload_n 0, 1) := by decide +kernel
theorem dX7_takeNumber_25 : decode cX7_takeNumber 25 = .ok (.getfield 15, 3) := by decide +kernel
theorem dX7_takeNumber_28 : decode cX7_takeNumber 28 = .ok (.if_icmp .ge 64, 3) := by decide +kernel
theorem dX7_takeNumber_31 : decode cX7_takeNumber 31 = .ok (.aload_n 0, 1) := by decide +kernel
theorem dX7_takeNumber_32 : decode cX7_takeNumber 32 = .ok (.aload_n 0, 1) := by decide +kernel
theorem dX7_takeNumber_33 : decode cX7_takeNumber 33 = .ok (.getfield 19, 3) := by decide +kernel
theorem dX7_takeNumber_36 : decode cX7_takeNumber 36 = .ok (.invokevirtual 32, 3) := by decide +kernel
theorem dX7_takeNumber_39 : decode cX7_takeNumber 39 = .ok (.invokestatic 44, 3) := by decide +kernel
theorem dX7_takeNumber_42 : decode cX7_takeNumber 42 = .ok (.ifCond .eq 50, 3) := by decide +kernel
theorem dX7_takeNumber_45 : decode cX7_takeNumber 45 = .ok (.aload_n 0, 1) := by decide +kernel
theorem dX7_takeNumber_46 : decode cX7_takeNumber 46 = .ok (.getfield 19, 3) := by decide +kernel
theorem dX7_takeNumber_49 : decode cX7_takeNumber 49 = .ok (.aload_n 0, 1) := by decide +kernel
theorem dX7_takeNumber_50 : decode cX7_takeNumber 50 = .ok (.getfield 22, 3) := by decide +kernel
theorem dX7_takeNumber_53 : decode cX7_takeNumber 53 = .ok (.isub, 1) := by decide +kernel
theorem dX7_takeNumber_54 : decode cX7_takeNumber 54 = .ok (.iconst 5, 1) := by decide +kernel
theorem dX7_takeNumber_55 : decode cX7_takeNumber 55 = .ok (.if_icmp .ge 22, 3) := by decide +kernel
theorem dX7_takeNumber_58 : decode cX7_takeNumber 58 = .ok (.iload_n 3, 1) := by decide +kernel
theorem dX7_takeNumber_59 : decode cX7_takeNumber 59 = .ok (.bipush 10, 2) := by decide +kernel
theorem dX7_takeNumber_61 : decode cX7_takeNumber 61 = .ok (.imul, 1) := by decide +kernel
theorem dX7_takeNumber_62 : decode cX7_takeNumber 62 = .ok (.aload_n 0, 1) := by decide +kernel
theorem dX7_takeNumber_63 : decode cX7_takeNumber 63 = .ok (.aload_n 0, 1) := by decide +kernel
theorem dX7_takeNumber_64 : decode cX7_takeNumber 64 = .ok (.getfield 19, 3) := by decide +kernel
theorem dX7_takeNumber_67 : decode cX7_takeNumber 67 = .ok (.invokevirtual 32, 3) := by decide +kernel
theorem dX7_takeNumber_70 : decode cX7_takeNumber 70 = .ok (.iadd, 1) := by decide +kernel
theorem dX7_takeNumber_71 : decode cX7_takeNumber 71 = .ok (.bipush 48, 2) := by decide +kernel
theorem dX7_takeNumber_73 : decode cX7_takeNumber 73 = .ok (.isub, 1) := by decide +kernel
theorem dX7_takeNumber_74 : decode cX7_takeNumber 74 = .ok (.goto 4, 3) := by decide +kernel
theorem dX7_takeNumber_77 : decode cX7_takeNumber 77 = .ok (.iload_n 3, 1) := by decide +kernel
theorem dX7_takeNumber_78 : decode cX7_takeNumber 78 = .ok (.istore_n 3, 1) := by decide +kernel
theorem dX7_takeNumber_79 : decode cX7_takeNumber 79 = .ok (.aload_n 0, 1) := by decide +kernel
theorem dX7_takeNumber_80 : decode cX7_takeNumber 80 = .ok (.dup, 1) := by decide +kernel
theorem dX7_takeNumber_81 : decode cX7_takeNumber 81 = .ok (.getfield 19, 3) := by decide +kernel
theorem dX7_takeNumber_84 : decode cX7_takeNumber 84 = .ok (.iconst 1, 1) := by decide +kernel
theorem dX7_takeNumber_85 : decode cX7_takeNumber 85 = .ok (.iadd, 1) := by decide +kernel
theorem dX7_takeNumber_86 : decode cX7_takeNumber 86 = .ok (.putfield 19, 3) := by decide +kernel
theorem dX7_takeNumber_89 : decode cX7_takeNumber 89 = .ok (.goto (-69), 3) := by decide +kernel
theorem dX7_takeNumber_92 : decode cX7_takeNumber 92 = .ok (.aload_n 0, 1) := by decide +kernel
theorem dX7_takeNumber_93 : decode cX7_takeNumber 93 = .ok (.getfield 19, 3) := by decide +kernel
theorem dX7_takeNumber_96 : decode cX7_takeNumber 96 = .ok (.aload_n 0, 1) := by decide +kernel
theorem dX7_takeNumber_97 : decode cX7_takeNumber 97 = .ok (.getfield 22, 3) := by decide +kernel
theorem dX7_takeNumber_100 : decode cX7_takeNumber 100 = .ok (.isub, 1) := by decide +kernel
theorem dX7_takeNumber_101 : decode cX7_takeNumber 101 = .ok (.iconst 5, 1) := by decide +kernel
theorem dX7_takeNumber_102 : decode cX7_takeNumber 102 = .ok (.if_icmp .gt 13, 3) := by decide +kernel
theorem dX7_takeNumber_105 : decode cX7_takeNumber 105 = .ok (.iload_n 3, 1) := by decide +kernel
theorem dX7_takeNumber_106 : decode cX7_takeNumber 106 = .ok (.iload_n 1, 1) := by decide +kernel
theorem dX7_takeNumber_107 : decode cX7_takeNumber 107 = .ok (.if_icmp .lt 8, 3) := by decide +kernel
theorem dX7_takeNumber_110 : decode cX7_takeNumber 110 = .ok (.iload_n 3, 1) := by decide +kernel
theorem dX7_takeNumber_111 : decode cX7_takeNumber 111 = .ok (.iload_n 2, 1) := by decide +kernel
theorem dX7_takeNumber_112 : decode cX7_takeNumber 112 = .ok (.if_icmp .le 11, 3) := by decide +kernel
theorem dX7_takeNumber_115 : decode cX7_takeNumber 115 = .ok (.aload_n 0, 1) := by decide +kernel
theorem dX7_takeNumber_116 : decode cX7_takeNumber 116 = .ok (.iconst 1, 1) := by decide +kernel
theorem dX7_takeNumber_117 : decode cX7_takeNumber 117 = .ok (.invokevirtual 48, 3) := by decide +kernel
theorem dX7_takeNumber_120 : decode cX7_takeNumber 120 = .ok (.pop, 1) := by decide +kernel
theorem dX7_takeNumber_121 : decode cX7_takeNumber 121 = .ok (.iconst (-1), 1) := by decide +kernel
theorem dX7_takeNumber_122 : decode cX7_takeNumber 122 = .ok (.ireturn, 1) := by decide +kernel
theorem dX7_takeNumber_123 : decode cX7_takeNumber 123 = .ok (.iload_n 3, 1) := by decide +kernel
theorem dX7_takeNumber_124 : decode cX7_takeNumber 124 = .ok (.ireturn, 1) := by decide +kernel
theorem dX7_refuse_0 : decode cX7_refuse 0 = .ok (.aload_n 0, 1) := by decide +kernel
theorem dX7_refuse_1 : decode cX7_refuse 1 = .ok (.getfield 25, 3) := by decide +kernel
theorem dX7_refuse_4 : decode cX7_refuse 4 = .ok (.ifCond .ne 18, 3) := by decide +kernel
theorem dX7_refuse_7 : decode cX7_refuse 7 = .ok (.aload_n 0, 1) := by decide +kernel
theorem dX7_refuse_8 : decode cX7_refuse 8 = .ok (.iconst 1, 1) := by decide +kernel
theorem dX7_refuse_9 : decode cX7_refuse 9 = .ok (.bipush 8, 2) := by decide +kernel
theorem dX7_refuse_11 : decode cX7_refuse 11 = .ok (.aload_n 0, 1) := by decide +kernel
theorem dX7_refuse_12 : decode cX7_refuse 12 = .ok (.getfield 22, 3) := by decide +kernel
theorem dX7_refuse_15 : decode cX7_refuse 15 = .ok (.imul, 1) := by decide +kernel
theorem dX7_refuse_16 : decode cX7_refuse 16 = .ok (.iadd, 1) := by decide +kernel
theorem dX7_refuse_17 : decode cX7_refuse 17 = .ok (.iload_n 1, 1) := by decide +kernel
theorem dX7_refuse_18 : decode cX7_refuse 18 = .ok (.iadd, 1) := by decide +kernel
theorem dX7_refuse_19 : decode cX7_refuse 19 = .ok (.putfield 25, 3) := by decide +kernel
theorem dX7_refuse_22 : decode cX7_refuse 22 = .ok (.iconst 0, 1) := by decide +kernel
theorem dX7_refuse_23 : decode cX7_refuse 23 = .ok (.ireturn, 1) := by decide +kernel
theorem dX8_init_0 : decode cX8_init 0 = .ok (.aload_n 0, 1) := by decide +kernel
theorem dX8_init_1 : decode cX8_init 1 = .ok (.invokespecial 3, 3) := by decide +kernel
theorem dX8_init_4 : decode cX8_init 4 = .ok (.aload_n 0, 1) := by decide +kernel
theorem dX8_init_5 : decode cX8_init 5 = .ok (.bipush 36, 2) := by decide +kernel
theorem dX8_init_7 : decode cX8_init 7 = .ok (.newarray .int, 2) := by decide +kernel
theorem dX8_init_9 : decode cX8_init 9 = .ok (.putfield 9, 3) := by decide +kernel
theorem dX8_init_12 : decode cX8_init 12 = .ok (.aload_n 0, 1) := by decide +kernel
theorem dX8_init_13 : decode cX8_init 13 = .ok (.bipush 36, 2) := by decide +kernel
theorem dX8_init_15 : decode cX8_init 15 = .ok (.newarray .int, 2) := by decide +kernel
theorem dX8_init_17 : decode cX8_init 17 = .ok (.putfield 15, 3) := by decide +kernel
theorem dX8_init_20 : decode cX8_init 20 = .ok (.aload_n 0, 1) := by decide +kernel
theorem dX8_init_21 : decode cX8_init 21 = .ok (.iconst 5, 1) := by decide +kernel
theorem dX8_init_22 : decode cX8_init 22 = .ok (.newarray .int, 2) := by decide +kernel
theorem dX8_init_24 : decode cX8_init 24 = .ok (.putfield 18, 3) := by decide +kernel
theorem dX8_init_27 : decode cX8_init 27 = .ok (.aload_n 0, 1) := by decide +kernel
theorem dX8_init_28 : decode cX8_init 28 = .ok (.iconst 5, 1) := by decide +kernel
theorem dX8_init_29 : decode cX8_init 29 = .ok (.newarray .int, 2) := by decide +kernel
theorem dX8_init_31 : decode cX8_init 31 = .ok (.putfield 21, 3) := by decide +kernel
theorem dX8_init_34 : decode cX8_init 34 = .ok (.aload_n 0, 1) := by decide +kernel
theorem dX8_init_35 : decode cX8_init 35 = .ok (.iconst 4, 1) := by decide +kernel
theorem dX8_init_36 : decode cX8_init 36 = .ok (.newarray .int, 2) := by decide +kernel
theorem dX8_init_38 : decode cX8_init 38 = .ok (.putfield 24, 3) := by decide +kernel
theorem dX8_init_41 : decode cX8_init 41 = .ok (.aload_n 0, 1) := by decide +kernel
theorem dX8_init_42 : decode cX8_init 42 = .ok (.iconst 4, 1) := by decide +kernel
theorem dX8_init_43 : decode cX8_init 43 = .ok (.newarray .int, 2) := by decide +kernel
theorem dX8_init_45 : decode cX8_init 45 = .ok (.putfield 27, 3) := by decide +kernel
theorem dX8_init_48 : decode cX8_init 48 = .ok (.aload_n 0, 1) := by decide +kernel
theorem dX8_init_49 : decode cX8_init 49 = .ok (.iconst 4, 1) := by decide +kernel
theorem dX8_init_50 : decode cX8_init 50 = .ok (.newarray .int, 2) := by decide +kernel
theorem dX8_init_52 : decode cX8_init 52 = .ok (.putfield 30, 3) := by decide +kernel
theorem dX8_init_55 : decode cX8_init 55 = .ok (.aload_n 0, 1) := by decide +kernel
theorem dX8_init_56 : decode cX8_init 56 = .ok (.bipush 6, 2) := by decide +kernel
theorem dX8_init_58 : decode cX8_init 58 = .ok (.newarray .int, 2) := by decide +kernel
theorem dX8_init_60 : decode cX8_init 60 = .ok (.putfield 33, 3) := by decide +kernel
theorem dX8_init_63 : decode cX8_init 63 = .ok (.aload_n 0, 1) := by decide +kernel
theorem dX8_init_64 : decode cX8_init 64 = .ok (.bipush 6, 2) := by decide +kernel
theorem dX8_init_66 : decode cX8_init 66 = .ok (.newarray .int, 2) := by decide +kernel
theorem dX8_init_68 : decode cX8_init 68 = .ok (.putfield 36, 3) := by decide +kernel
theorem dX8_init_71 : decode cX8_init 71 = .ok (.aload_n 0, 1) := by decide +kernel
theorem dX8_init_72 : decode cX8_init 72 = .ok (.bipush 6, 2) := by decide +kernel
theorem dX8_init_74 : decode cX8_init 74 = .ok (.newarray .int, 2) := by decide +kernel
theorem dX8_init_76 : decode cX8_init 76 = .ok (.putfield 39, 3) := by decide +kernel
theorem dX8_init_79 : decode cX8_init 79 = .ok (.aload_n 0, 1) := by decide +kernel
theorem dX8_init_80 : decode cX8_init 80 = .ok (.bipush 6, 2) := by decide +kernel
theorem dX8_init_82 : decode cX8_init 82 = .ok (.newarray .int, 2) := by decide +kernel
theorem dX8_init_84 : decode cX8_init 84 = .ok (.putfield 42, 3) := by decide +kernel
theorem dX8_init_87 : decode cX8_init 87 = .ok (.return_, 1) := by decide +kernel
set_option maxRecDepth 20000 in
theorem ggX8_clear_J7_fill_53178 : GoodIn wsX8_clear wsJ7_fill_53178 := goodIn_r _ [13] (by decide +kernel) (by decide +kernel)
set_option maxRecDepth 20000 in
theorem gX8_clear_J7_fill_53178 : GoodIn wsX8_clear (va_wsS RX8 70 yJ7_fill_53178 wsJ7_fill_53178) := goodIn_app (goodIn_of _ (by decide +kernel)) ggX8_clear_J7_fill_53178
theorem dX8_clear_0 : decode cX8_clear 0 = .ok (.aload_n 0, 1) := by decide +kernel
theorem dX8_clear_1 : decode cX8_clear 1 = .ok (.iconst 0, 1) := by decide +kernel
theorem dX8_clear_2 : decode cX8_clear 2 = .ok (.putfield 45, 3) := by decide +kernel
theorem dX8_clear_5 : decode cX8_clear 5 = .ok (.aload_n 0, 1) := by decide +kernel
theorem dX8_clear_6 : decode cX8_clear 6 = .ok (.iconst 0, 1) := by decide +kernel
theorem dX8_clear_7 : decode cX8_clear 7 = .ok (.putfield 49, 3) := by decide +kernel
theorem dX8_clear_10 : decode cX8_clear 10 = .ok (.aload_n 0, 1) := by decide +kernel
theorem dX8_clear_11 : decode cX8_clear 11 = .ok (.iconst 0, 1) := by decide +kernel
theorem dX8_clear_12 : decode cX8_clear 12 = .ok (.putfield 52, 3) := by decide +kernel
theorem dX8_clear_15 : decode cX8_clear 15 = .ok (.aload_n 0, 1) := by decide +kernel
theorem dX8_clear_16 : decode cX8_clear 16 = .ok (.iconst 0, 1) := by decide +kernel
theorem dX8_clear_17 : decode cX8_clear 17 = .ok (.putfield 55, 3) := by decide +kernel
theorem dX8_clear_20 : decode cX8_clear 20 = .ok (.aload_n 0, 1) := by decide +kernel
theorem dX8_clear_21 : decode cX8_clear 21 = .ok (.iconst 0, 1) := by decide +kernel
theorem dX8_clear_22 : decode cX8_clear 22 = .ok (.putfield 58, 3) := by decide +kernel
theorem dX8_clear_25 : decode cX8_clear 25 = .ok (.aload_n 0, 1) := by decide +kernel
theorem dX8_clear_26 : decode cX8_clear 26 = .ok (.iconst 0, 1) := by decide +kernel
theorem dX8_clear_27 : decode cX8_clear 27 = .ok (.putfield 61, 3) := by decide +kernel
theorem dX8_clear_30 : decode cX8_clear 30 = .ok (.aload_n 0, 1) := by decide +kernel
theorem dX8_clear_31 : decode cX8_clear 31 = .ok (.iconst 0, 1) := by decide +kernel
theorem dX8_clear_32 : decode cX8_clear 32 = .ok (.putfield 64, 3) := by decide +kernel
theorem dX8_clear_35 : decode cX8_clear 35 = .ok (.aload_n 0, 1) := by decide +kernel
theorem dX8_clear_36 : decode cX8_clear 36 = .ok (.iconst 0, 1) := by decide +kernel
theorem dX8_clear_37 : decode cX8_clear 37 = .ok (.putfield 67, 3) := by decide +kernel
theorem dX8_clear_40 : decode cX8_clear 40 = .ok (.aload_n 0, 1) := by decide +kernel
theorem dX8_clear_41 : decode cX8_clear 41 = .ok (.getfield 9, 3) := by decide +kernel
theorem dX8_clear_44 : decode cX8_clear 44 = .ok (.iconst 0, 1) := by decide +kernel
theorem dX8_clear_45 : decode cX8_clear 45 = .ok (.invokestatic 70, 3) := by decide +kernel
theorem dX8_clear_48 : decode cX8_clear 48 = .ok (.return_, 1) := by decide +kernel
theorem dX8_become_0 : decode cX8_become 0 = .ok (.aload_n 0, 1) := by decide +kernel
theorem dX8_become_1 : decode cX8_become 1 = .ok (.aload_n 1, 1) := by decide +kernel
theorem dX8_become_2 : decode cX8_become 2 = .ok (.getfield 45, 3) := by decide +kernel
theorem dX8_become_5 : decode cX8_become 5 = .ok (.putfield 45, 3) := by decide +kernel
theorem dX8_become_8 : decode cX8_become 8 = .ok (.aload_n 0, 1) := by decide +kernel
theorem dX8_become_9 : decode cX8_become 9 = .ok (.aload_n 1, 1) := by decide +kernel
theorem dX8_become_10 : decode cX8_become 10 = .ok (.getfield 49, 3) := by decide +kernel
theorem dX8_become_13 : decode cX8_become 13 = .ok (.putfield 49, 3) := by decide +kernel
theorem dX8_become_16 : decode cX8_become 16 = .ok (.aload_n 0, 1) := by decide +kernel
theorem dX8_become_17 : decode cX8_become 17 = .ok (.aload_n 1, 1) := by decide +kernel
theorem dX8_become_18 : decode cX8_become 18 = .ok (.getfield 52, 3) := by decide +kernel
theorem dX8_become_21 : decode cX8_become 21 = .ok (.putfield 52, 3) := by decide +kernel
theorem dX8_become_24 : decode cX8_become 24 = .ok (.aload_n 0, 1) := by decide +kernel
theorem dX8_become_25 : decode cX8_become 25 = .ok (.aload_n 1, 1) := by decide +kernel
theorem dX8_become_26 : decode cX8_become 26 = .ok (.getfield 55, 3) := by decide +kernel
theorem dX8_become_29 : decode cX8_become 29 = .ok (.putfield 55, 3) := by decide +kernel
theorem dX8_become_32 : decode cX8_become 32 = .ok (.aload_n 0, 1) := by decide +kernel
theorem dX8_become_33 : decode cX8_become 33 = .ok (.aload_n 1, 1) := by decide +kernel
theorem dX8_become_34 : decode cX8_become 34 = .ok (.getfield 58, 3) := by decide +kernel
theorem dX8_become_37 : decode cX8_become 37 = .ok (.putfield 58, 3) := by decide +kernel
theorem dX8_become_40 : decode cX8_become 40 = .ok (.aload_n 0, 1) := by decide +kernel
theorem dX8_become_41 : decode cX8_become 41 = .ok (.aload_n 1, 1) := by decide +kernel
theorem dX8_become_42 : decode cX8_become 42 = .ok (.getfield 61, 3) := by decide +kernel
theorem dX8_become_45 : decode cX8_become 45 = .ok (.putfield 61, 3) := by decide +kernel
theorem dX8_become_48 : decode cX8_become 48 = .ok (.aload_n 0, 1) := by decide +kernel
theorem dX8_become_49 : decode cX8_become 49 = .ok (.aload_n 1, 1) := by decide +kernel
theorem dX8_become_50 : decode cX8_become 50 = .ok (.getfield 64, 3) := by decide +kernel
theorem dX8_become_53 : decode cX8_become 53 = .ok (.putfield 64, 3) := by decide +kernel
theorem dX8_become_56 : decode cX8_become 56 = .ok (.aload_n 0, 1) := by decide +kernel
theorem dX8_become_57 : decode cX8_become 57 = .ok (.aload_n 1, 1) := by decide +kernel
theorem dX8_become_58 : decode cX8_become 58 = .ok (.getfield 67, 3) := by decide +kernel
theorem dX8_become_61 : decode cX8_become 61 = .ok (.putfield 67, 3) := by decide +kernel
theorem dX8_become_64 : decode cX8_become 64 = .ok (.aload_n 1, 1) := by decide +kernel
theorem dX8_become_65 : decode cX8_become 65 = .ok (.getfield 9, 3) := by decide +kernel
theorem dX8_become_68 : decode cX8_become 68 = .ok (.iconst 0, 1) := by decide +kernel
theorem dX8_become_69 : decode cX8_become 69 = .ok (.aload_n 0, 1) := by decide +kernel
theorem dX8_become_70 : decode cX8_become 70 = .ok (.getfield 9, 3) := by decide +kernel
theorem dX8_become_73 : decode cX8_become 73 = .ok (.iconst 0, 1) := by decide +kernel
theorem dX8_become_74 : decode cX8_become 74 = .ok (.aload_n 0, 1) := by decide +kernel
theorem dX8_become_75 : decode cX8_become 75 = .ok (.getfield 9, 3) := by decide +kernel
theorem dX8_become_78 : decode cX8_become 78 = .ok (.arraylength, 1) := by decide +kernel
theorem dX8_become_79 : decode cX8_become 79 = .ok (.invokestatic 76, 3) := by decide +kernel
theorem dX8_become_82 : decode cX8_become 82 = .ok (.aload_n 1, 1) := by decide +kernel
theorem dX8_become_83 : decode cX8_become 83 = .ok (.getfield 15, 3) := by decide +kernel
theorem dX8_become_86 : decode cX8_become 86 = .ok (.iconst 0, 1) := by decide +kernel
theorem dX8_become_87 : decode cX8_become 87 = .ok (.aload_n 0, 1) := by decide +kernel
theorem dX8_become_88 : decode cX8_become 88 = .ok (.getfield 15, 3) := by decide +kernel
theorem dX8_become_91 : decode cX8_become 91 = .ok (.iconst 0, 1) := by decide +kernel
theorem dX8_become_92 : decode cX8_become 92 = .ok (.aload_n 0, 1) := by decide +kernel
theorem dX8_become_93 : decode cX8_become 93 = .ok (.getfield 15, 3) := by decide +kernel
theorem dX8_become_96 : decode cX8_become 96 = .ok (.arraylength, 1) := by decide +kernel
theorem dX8_become_97 : decode cX8_become 97 = .ok (.invokestatic 76, 3) := by decide +kernel
theorem dX8_become_100 : decode cX8_become 100 = .ok (.aload_n 1, 1) := by decide +kernel
theorem dX8_become_101 : decode cX8_become 101 = .ok (.getfield 18, 3) := by decide +kernel
theorem dX8_become_104 : decode cX8_become 104 = .ok (.iconst 0, 1) := by decide +kernel
theorem dX8_become_105 : decode cX8_become 105 = .ok (.aload_n 0, 1) := by decide +kernel
theorem dX8_become_106 : decode cX8_become 106 = .ok (.getfield 18, 3) := by decide +kernel
theorem dX8_become_109 : decode cX8_become 109 = .ok (.iconst 0, 1) := by decide +kernel
theorem dX8_become_110 : decode cX8_become 110 = .ok (.iconst 5, 1) := by decide +kernel
theorem dX8_become_111 : decode cX8_become 111 = .ok (.invokestatic 76, 3) := by decide +kernel
theorem dX8_become_114 : decode cX8_become 114 = .ok (.aload_n 1, 1) := by decide +kernel
theorem dX8_become_115 : decode cX8_become 115 = .ok (.getfield 21, 3) := by decide +kernel
theorem dX8_become_118 : decode cX8_become 118 = .ok (.iconst 0, 1) := by decide +kernel
theorem dX8_become_119 : decode cX8_become 119 = .ok (.aload_n 0, 1) := by decide +kernel
theorem dX8_become_120 : decode cX8_become 120 = .ok (.getfield 21, 3) := by decide +kernel
theorem dX8_become_123 : decode cX8_become 123 = .ok (.iconst 0, 1) := by decide +kernel
theorem dX8_become_124 : decode cX8_become 124 = .ok (.iconst 5, 1) := by decide +kernel
theorem dX8_become_125 : decode cX8_become 125 = .ok (.invokestatic 76, 3) := by decide +kernel
theorem dX8_become_128 : decode cX8_become 128 = .ok (.aload_n 1, 1) := by decide +kernel
theorem dX8_become_129 : decode cX8_become 129 = .ok (.getfield 24, 3) := by decide +kernel
theorem dX8_become_132 : decode cX8_become 132 = .ok (.iconst 0, 1) := by decide +kernel
theorem dX8_become_133 : decode cX8_become 133 = .ok (.aload_n 0, 1) := by decide +kernel
theorem dX8_become_134 : decode cX8_become 134 = .ok (.getfield 24, 3) := by decide +kernel
theorem dX8_become_137 : decode cX8_become 137 = .ok (.iconst 0, 1) := by decide +kernel
theorem dX8_become_138 : decode cX8_become 138 = .ok (.iconst 4, 1) := by decide +kernel
theorem dX8_become_139 : decode cX8_become 139 = .ok (.invokestatic 76, 3) := by decide +kernel
theorem dX8_become_142 : decode cX8_become 142 = .ok (.aload_n 1, 1) := by decide +kernel
theorem dX8_become_143 : decode cX8_become 143 = .ok (.getfield 27, 3) := by decide +kernel
theorem dX8_become_146 : decode cX8_become 146 = .ok (.iconst 0, 1) := by decide +kernel
theorem dX8_become_147 : decode cX8_become 147 = .ok (.aload_n 0, 1) := by decide +kernel
theorem dX8_become_148 : decode cX8_become 148 = .ok (.getfield 27, 3) := by decide +kernel
theorem dX8_become_151 : decode cX8_become 151 = .ok (.iconst 0, 1) := by decide +kernel
theorem dX8_become_152 : decode cX8_become 152 = .ok (.iconst 4, 1) := by decide +kernel
theorem dX8_become_153 : decode cX8_become 153 = .ok (.invokestatic 76, 3) := by decide +kernel
theorem dX8_become_156 : decode cX8_become 156 = .ok (.aload_n 1, 1) := by decide +kernel
theorem dX8_become_157 : decode cX8_become 157 = .ok (.getfield 30, 3) := by decide +kernel
theorem dX8_become_160 : decode cX8_become 160 = .ok (.iconst 0, 1) := by decide +kernel
theorem dX8_become_161 : decode cX8_become 161 = .ok (.aload_n 0, 1) := by decide +kernel
theorem dX8_become_162 : decode cX8_become 162 = .ok (.getfield 30, 3) := by decide +kernel
theorem dX8_become_165 : decode cX8_become 165 = .ok (.iconst 0, 1) := by decide +kernel
theorem dX8_become_166 : decode cX8_become 166 = .ok (.iconst 4, 1) := by decide +kernel
theorem dX8_become_167 : decode cX8_become 167 = .ok (.invokestatic 76, 3) := by decide +kernel
theorem dX8_become_170 : decode cX8_become 170 = .ok (.aload_n 1, 1) := by decide +kernel
theorem dX8_become_171 : decode cX8_become 171 = .ok (.getfield 33, 3) := by decide +kernel
theorem dX8_become_174 : decode cX8_become 174 = .ok (.iconst 0, 1) := by decide +kernel
theorem dX8_become_175 : decode cX8_become 175 = .ok (.aload_n 0, 1) := by decide +kernel
theorem dX8_become_176 : decode cX8_become 176 = .ok (.getfield 33, 3) := by decide +kernel
theorem dX8_become_179 : decode cX8_become 179 = .ok (.iconst 0, 1) := by decide +kernel
theorem dX8_become_180 : decode cX8_become 180 = .ok (.bipush 6, 2) := by decide +kernel
theorem dX8_become_182 : decode cX8_become 182 = .ok (.invokestatic 76, 3) := by decide +kernel
theorem dX8_become_185 : decode cX8_become 185 = .ok (.aload_n 1, 1) := by decide +kernel
theorem dX8_become_186 : decode cX8_become 186 = .ok (.getfield 36, 3) := by decide +kernel
theorem dX8_become_189 : decode cX8_become 189 = .ok (.iconst 0, 1) := by decide +kernel
theorem dX8_become_190 : decode cX8_become 190 = .ok (.aload_n 0, 1) := by decide +kernel
theorem dX8_become_191 : decode cX8_become 191 = .ok (.getfield 36, 3) := by decide +kernel
theorem dX8_become_194 : decode cX8_become 194 = .ok (.iconst 0, 1) := by decide +kernel
theorem dX8_become_195 : decode cX8_become 195 = .ok (.bipush 6, 2) := by decide +kernel
theorem dX8_become_197 : decode cX8_become 197 = .ok (.invokestatic 76, 3) := by decide +kernel
theorem dX8_become_200 : decode cX8_become 200 = .ok (.aload_n 1, 1) := by decide +kernel
theorem dX8_become_201 : decode cX8_become 201 = .ok (.getfield 39, 3) := by decide +kernel
theorem dX8_become_204 : decode cX8_become 204 = .ok (.iconst 0, 1) := by decide +kernel
theorem dX8_become_205 : decode cX8_become 205 = .ok (.aload_n 0, 1) := by decide +kernel
theorem dX8_become_206 : decode cX8_become 206 = .ok (.getfield 39, 3) := by decide +kernel
theorem dX8_become_209 : decode cX8_become 209 = .ok (.iconst 0, 1) := by decide +kernel
theorem dX8_become_210 : decode cX8_become 210 = .ok (.bipush 6, 2) := by decide +kernel
theorem dX8_become_212 : decode cX8_become 212 = .ok (.invokestatic 76, 3) := by decide +kernel
theorem dX8_become_215 : decode cX8_become 215 = .ok (.aload_n 1, 1) := by decide +kernel
theorem dX8_become_216 : decode cX8_become 216 = .ok (.getfield 42, 3) := by decide +kernel
theorem dX8_become_219 : decode cX8_become 219 = .ok (.iconst 0, 1) := by decide +kernel
theorem dX8_become_220 : decode cX8_become 220 = .ok (.aload_n 0, 1) := by decide +kernel
theorem dX8_become_221 : decode cX8_become 221 = .ok (.getfield 42, 3) := by decide +kernel
theorem dX8_become_224 : decode cX8_become 224 = .ok (.iconst 0, 1) := by decide +kernel
theorem dX8_become_225 : decode cX8_become 225 = .ok (.bipush 6, 2) := by decide +kernel
theorem dX8_become_227 : decode cX8_become 227 = .ok (.invokestatic 76, 3) := by decide +kernel
theorem dX8_become_230 : decode cX8_become 230 = .ok (.return_, 1) := by decide +kernel
theorem dX8_howMany_0 : decode cX8_howMany 0 = .ok (.iload_n 1, 1) := by decide +kernel
theorem dX8_howMany_1 : decode cX8_howMany 1 = .ok (.tableswitch 69 0 5 #[39, 44, 49, 54, 59, 64], 39) := by decide +kernel
theorem dX8_howMany_40 : decode cX8_howMany 40 = .ok (.aload_n 0, 1) := by decide +kernel
theorem dX8_howMany_41 : decode cX8_howMany 41 = .ok (.getfield 45, 3) := by decide +kernel
theorem dX8_howMany_44 : decode cX8_howMany 44 = .ok (.ireturn, 1) := by decide +kernel
theorem dX8_howMany_45 : decode cX8_howMany 45 = .ok (.aload_n 0, 1) := by decide +kernel
theorem dX8_howMany_46 : decode cX8_howMany 46 = .ok (.getfield 49, 3) := by decide +kernel
theorem dX8_howMany_49 : decode cX8_howMany 49 = .ok (.ireturn, 1) := by decide +kernel
theorem dX8_howMany_50 : decode cX8_howMany 50 = .ok (.aload_n 0, 1) := by decide +kernel
theorem dX8_howMany_51 : decode cX8_howMany 51 = .ok (.getfield 52, 3) := by decide +kernel
theorem dX8_howMany_54 : decode cX8_howMany 54 = .ok (.ireturn, 1) := by decide +kernel
theorem dX8_howMany_55 : decode cX8_howMany 55 = .ok (.aload_n 0, 1) := by decide +kernel
theorem dX8_howMany_56 : decode cX8_howMany 56 = .ok (.getfield 55, 3) := by decide +kernel
theorem dX8_howMany_59 : decode cX8_howMany 59 = .ok (.ireturn, 1) := by decide +kernel
theorem dX8_howMany_60 : decode cX8_howMany 60 = .ok (.aload_n 0, 1) := by decide +kernel
theorem dX8_howMany_61 : decode cX8_howMany 61 = .ok (.getfield 58, 3) := by decide +kernel
theorem dX8_howMany_64 : decode cX8_howMany 64 = .ok (.ireturn, 1) := by decide +kernel
theorem dX8_howMany_65 : decode cX8_howMany 65 = .ok (.aload_n 0, 1) := by decide +kernel
theorem dX8_howMany_66 : decode cX8_howMany 66 = .ok (.getfield 61, 3) := by decide +kernel
theorem dX8_howMany_69 : decode cX8_howMany 69 = .ok (.ireturn, 1) := by decide +kernel
theorem dX8_howMany_70 : decode cX8_howMany 70 = .ok (.aload_n 0, 1) := by decide +kernel
theorem dX8_howMany_71 : decode cX8_howMany 71 = .ok (.getfield 67, 3) := by decide +kernel
theorem dX8_howMany_74 : decode cX8_howMany 74 = .ok (.ireturn, 1) := by decide +kernel
theorem dX8_pair_0 : decode cX8_pair 0 = .ok (.iload_n 0, 1) := by decide +kernel
theorem dX8_pair_1 : decode cX8_pair 1 = .ok (.bipush 6, 2) := by decide +kernel
theorem dX8_pair_3 : decode cX8_pair 3 = .ok (.imul, 1) := by decide +kernel
theorem dX8_pair_4 : decode cX8_pair 4 = .ok (.iload_n 1, 1) := by decide +kernel
theorem dX8_pair_5 : decode cX8_pair 5 = .ok (.iadd, 1) := by decide +kernel
theorem dX8_pair_6 : decode cX8_pair 6 = .ok (.ireturn, 1) := by decide +kernel
set_option maxRecDepth 20000 in
theorem ggX8_roadHours_X8_pair : GoodIn wsX8_roadHours wsX8_pair := goodIn_r _ [5] (by decide +kernel) (by decide +kernel)
set_option maxRecDepth 20000 in
theorem gX8_roadHours_X8_pair : GoodIn wsX8_roadHours (va_wsS RX8 82 yX8_pair wsX8_pair) := goodIn_app (goodIn_of _ (by decide +kernel)) ggX8_roadHours_X8_pair
theorem dX8_roadHours_0 : decode cX8_roadHours 0 = .ok (.aload_n 0, 1) := by decide +kernel
theorem dX8_roadHours_1 : decode cX8_roadHours 1 = .ok (.getfield 9, 3) := by decide +kernel
theorem dX8_roadHours_4 : decode cX8_roadHours 4 = .ok (.iload_n 1, 1) := by decide +kernel
theorem dX8_roadHours_5 : decode cX8_roadHours 5 = .ok (.iload_n 2, 1) := by decide +kernel
theorem dX8_roadHours_6 : decode cX8_roadHours 6 = .ok (.invokestatic 82, 3) := by decide +kernel
theorem dX8_roadHours_9 : decode cX8_roadHours 9 = .ok (.iaload, 1) := by decide +kernel
theorem dX8_roadHours_10 : decode cX8_roadHours 10 = .ok (.ireturn, 1) := by decide +kernel
set_option maxRecDepth 20000 in
theorem ggX8_addRoad_X8_pair : GoodIn wsX8_addRoad wsX8_pair := goodIn_r _ [6] (by decide +kernel) (by decide +kernel)
set_option maxRecDepth 20000 in
theorem gX8_addRoad_X8_pair : GoodIn wsX8_addRoad (va_wsS RX8 82 yX8_pair wsX8_pair) := goodIn_app (goodIn_of _ (by decide +kernel)) ggX8_addRoad_X8_pair
theorem dX8_addRoad_0 : decode cX8_addRoad 0 = .ok (.aload_n 0, 1) := by decide +kernel
theorem dX8_addRoad_1 : decode cX8_addRoad 1 = .ok (.getfield 9, 3) := by decide +kernel
theorem dX8_addRoad_4 : decode cX8_addRoad 4 = .ok (.iload_n 1, 1) := by decide +kernel
theorem dX8_addRoad_5 : decode cX8_addRoad 5 = .ok (.iload_n 2, 1) := by decide +kernel
theorem dX8_addRoad_6 : decode cX8_addRoad 6 = .ok (.invokestatic 82, 3) := by decide +kernel
theorem dX8_addRoad_9 : decode cX8_addRoad 9 = .ok (.iload_n 3, 1) := by decide +kernel
theorem dX8_addRoad_10 : decode cX8_addRoad 10 = .ok (.iastore, 1) := by decide +kernel
theorem dX8_addRoad_11 : decode cX8_addRoad 11 = .ok (.aload_n 0, 1) := by decide +kernel
theorem dX8_addRoad_12 : decode cX8_addRoad 12 = .ok (.getfield 9, 3) := by decide +kernel
theorem dX8_addRoad_15 : decode cX8_addRoad 15 = .ok (.iload_n 2, 1) := by decide +kernel
theorem dX8_addRoad_16 : decode cX8_addRoad 16 = .ok (.iload_n 1, 1) := by decide +kernel
theorem dX8_addRoad_17 : decode cX8_addRoad 17 = .ok (.invokestatic 82, 3) := by decide +kernel
theorem dX8_addRoad_20 : decode cX8_addRoad 20 = .ok (.iload_n 3, 1) := by decide +kernel
theorem dX8_addRoad_21 : decode cX8_addRoad 21 = .ok (.iastore, 1) := by decide +kernel
theorem dX8_addRoad_22 : decode cX8_addRoad 22 = .ok (.aload_n 0, 1) := by decide +kernel
theorem dX8_addRoad_23 : decode cX8_addRoad 23 = .ok (.dup, 1) := by decide +kernel
theorem dX8_addRoad_24 : decode cX8_addRoad 24 = .ok (.getfield 55, 3) := by decide +kernel
theorem dX8_addRoad_27 : decode cX8_addRoad 27 = .ok (.iconst 1, 1) := by decide +kernel
theorem dX8_addRoad_28 : decode cX8_addRoad 28 = .ok (.iadd, 1) := by decide +kernel
theorem dX8_addRoad_29 : decode cX8_addRoad 29 = .ok (.putfield 55, 3) := by decide +kernel
theorem dX8_addRoad_32 : decode cX8_addRoad 32 = .ok (.return_, 1) := by decide +kernel
set_option maxRecDepth 20000 in
theorem ggX8_measureWays_X8_roadHours : GoodIn wsX8_measureWays wsX8_roadHours := goodIn_r _ [11, 12, 13, 14, 10, 15, 16, 17, 18, 19, 20, 21, 22, 23, 24, 25, 26, 27, 28, 29, 30, 31, 32, 33, 34] (by decide +kernel) (by decide +kernel)
set_option maxRecDepth 20000 in
theorem gX8_measureWays_X8_roadHours : GoodIn wsX8_measureWays (wsV RX8 86 RX8 yX8_roadHours wsX8_roadHours) := goodIn_app (goodIn_of _ (by decide +kernel)) ggX8_measureWays_X8_roadHours
set_option maxRecDepth 20000 in
theorem ggX8_measureWays_X8_pair : GoodIn wsX8_measureWays wsX8_pair := goodIn_r _ [15] (by decide +kernel) (by decide +kernel)
set_option maxRecDepth 20000 in
theorem gX8_measureWays_X8_pair : GoodIn wsX8_measureWays (va_wsS RX8 82 yX8_pair wsX8_pair) := goodIn_app (goodIn_of _ (by decide +kernel)) ggX8_measureWays_X8_pair
theorem dX8_measureWays_0 : decode cX8_measureWays 0 = .ok (.iconst 0, 1) := by decide +kernel
theorem dX8_measureWays_1 : decode cX8_measureWays 1 = .ok (.istore_n 1, 1) := by decide +kernel
theorem dX8_measureWays_2 : decode cX8_measureWays 2 = .ok (.iload_n 1, 1) := by decide +kernel
theorem dX8_measureWays_3 : decode cX8_measureWays 3 = .ok (.aload_n 0, 1) := by decide +kernel
theorem dX8_measureWays_4 : decode cX8_measureWays 4 = .ok (.getfield 45, 3) := by decide +kernel
theorem dX8_measureWays_7 : decode cX8_measureWays 7 = .ok (.if_icmp .ge 62, 3) := by decide +kernel
theorem dX8_measureWays_10 : decode cX8_measureWays 10 = .ok (.iconst 0, 1) := by decide +kernel
theorem dX8_measureWays_11 : decode cX8_measureWays 11 = .ok (.istore_n 2, 1) := by decide +kernel
theorem dX8_measureWays_12 : decode cX8_measureWays 12 = .ok (.iload_n 2, 1) := by decide +kernel
theorem dX8_measureWays_13 : decode cX8_measureWays 13 = .ok (.aload_n 0, 1) := by decide +kernel
theorem dX8_measureWays_14 : decode cX8_measureWays 14 = .ok (.getfield 45, 3) := by decide +kernel
theorem dX8_measureWays_17 : decode cX8_measureWays 17 = .ok (.if_icmp .ge 46, 3) := by decide +kernel
theorem dX8_measureWays_20 : decode cX8_measureWays 20 = .ok (.aload_n 0, 1) := by decide +kernel
theorem dX8_measureWays_21 : decode cX8_measureWays 21 = .ok (.iload_n 1, 1) := by decide +kernel
theorem dX8_measureWays_22 : decode cX8_measureWays 22 = .ok (.iload_n 2, 1) := by decide +kernel
theorem dX8_measureWays_23 : decode cX8_measureWays 23 = .ok (.invokevirtual 86, 3) := by decide +kernel
theorem dX8_measureWays_26 : decode cX8_measureWays 26 = .ok (.istore_n 3, 1) := by decide +kernel
theorem dX8_measureWays_27 : decode cX8_measureWays 27 = .ok (.aload_n 0, 1) := by decide +kernel
theorem dX8_measureWays_28 : decode cX8_measureWays 28 = .ok (.getfield 15, 3) := by decide +kernel
theorem dX8_measureWays_31 : decode cX8_measureWays 31 = .ok (.iload_n 1, 1) := by decide +kernel
theorem dX8_measureWays_32 : decode cX8_measureWays 32 = .ok (.iload_n 2, 1) := by decide +kernel
theorem dX8_measureWays_33 : decode cX8_measureWays 33 = .ok (.invokestatic 82, 3) := by decide +kernel
theorem dX8_measureWays_36 : decode cX8_measureWays 36 = .ok (.iload_n 1, 1) := by decide +kernel
theorem dX8_measureWays_37 : decode cX8_measureWays 37 = .ok (.iload_n 2, 1) := by decide +kernel
theorem dX8_measureWays_38 : decode cX8_measureWays 38 = .ok (.if_icmp .ne 7, 3) := by decide +kernel
theorem dX8_measureWays_41 : decode cX8_measureWays 41 = .ok (.iconst 0, 1) := by decide +kernel
theorem dX8_measureWays_42 : decode cX8_measureWays 42 = .ok (.goto 14, 3) := by decide +kernel
theorem dX8_measureWays_45 : decode cX8_measureWays 45 = .ok (.iload_n 3, 1) := by decide +kernel
theorem dX8_measureWays_46 : decode cX8_measureWays 46 = .ok (.ifCond .le 7, 3) := by decide +kernel
theorem dX8_measureWays_49 : decode cX8_measureWays 49 = .ok (.iload_n 3, 1) := by decide +kernel
theorem dX8_measureWays_50 : decode cX8_measureWays 50 = .ok (.goto 6, 3) := by decide +kernel
theorem dX8_measureWays_53 : decode cX8_measureWays 53 = .ok (.sipush 1000, 3) := by decide +kernel
theorem dX8_measureWays_56 : decode cX8_measureWays 56 = .ok (.iastore, 1) := by decide +kernel
theorem dX8_measureWays_57 : decode cX8_measureWays 57 = .ok (.iinc 2 1, 3) := by decide +kernel
theorem dX8_measureWays_60 : decode cX8_measureWays 60 = .ok (.goto (-48), 3) := by decide +kernel
theorem dX8_measureWays_63 : decode cX8_measureWays 63 = .ok (.iinc 1 1, 3) := by decide +kernel
theorem dX8_measureWays_66 : decode cX8_measureWays 66 = .ok (.goto (-64), 3) := by decide +kernel
theorem dX8_measureWays_69 : decode cX8_measureWays 69 = .ok (.iconst 0, 1) := by decide +kernel
theorem dX8_measureWays_70 : decode cX8_measureWays 70 = .ok (.istore_n 1, 1) := by decide +kernel
theorem dX8_measureWays_71 : decode cX8_measureWays 71 = .ok (.iload_n 1, 1) := by decide +kernel
theorem dX8_measureWays_72 : decode cX8_measureWays 72 = .ok (.aload_n 0, 1) := by decide +kernel
theorem dX8_measureWays_73 : decode cX8_measureWays 73 = .ok (.getfield 45, 3) := by decide +kernel
theorem dX8_measureWays_76 : decode cX8_measureWays 76 = .ok (.if_icmp .ge 89, 3) := by decide +kernel
theorem dX8_measureWays_79 : decode cX8_measureWays 79 = .ok (.iconst 0, 1) := by decide +kernel
theorem dX8_measureWays_80 : decode cX8_measureWays 80 = .ok (.istore_n 2, 1) := by decide +kernel
theorem dX8_measureWays_81 : decode cX8_measureWays 81 = .ok (.iload_n 2, 1) := by decide +kernel
theorem dX8_measureWays_82 : decode cX8_measureWays 82 = .ok (.aload_n 0, 1) := by decide +kernel
theorem dX8_measureWays_83 : decode cX8_measureWays 83 = .ok (.getfield 45, 3) := by decide +kernel
theorem dX8_measureWays_86 : decode cX8_measureWays 86 = .ok (.if_icmp .ge 73, 3) := by decide +kernel
theorem dX8_measureWays_89 : decode cX8_measureWays 89 = .ok (.iconst 0, 1) := by decide +kernel
theorem dX8_measureWays_90 : decode cX8_measureWays 90 = .ok (.istore_n 3, 1) := by decide +kernel
theorem dX8_measureWays_91 : decode cX8_measureWays 91 = .ok (.iload_n 3, 1) := by decide +kernel
theorem dX8_measureWays_92 : decode cX8_measureWays 92 = .ok (.aload_n 0, 1) := by decide +kernel
theorem dX8_measureWays_93 : decode cX8_measureWays 93 = .ok (.getfield 45, 3) := by decide +kernel
theorem dX8_measureWays_96 : decode cX8_measureWays 96 = .ok (.if_icmp .ge 57, 3) := by decide +kernel
theorem dX8_measureWays_99 : decode cX8_measureWays 99 = .ok (.aload_n 0, 1) := by decide +kernel
theorem dX8_measureWays_100 : decode cX8_measureWays 100 = .ok (.getfield 15, 3) := by decide +kernel
theorem dX8_measureWays_103 : decode cX8_measureWays 103 = .ok (.iload_n 2, 1) := by decide +kernel
theorem dX8_measureWays_104 : decode cX8_measureWays 104 = .ok (.iload_n 1, 1) := by decide +kernel
theorem dX8_measureWays_105 : decode cX8_measureWays 105 = .ok (.invokestatic 82, 3) := by decide +kernel
theorem dX8_measureWays_108 : decode cX8_measureWays 108 = .ok (.iaload, 1) := by decide +kernel
theorem dX8_measureWays_109 : decode cX8_measureWays 109 = .ok (.aload_n 0, 1) := by decide +kernel
theorem dX8_measureWays_110 : decode cX8_measureWays 110 = .ok (.getfield 15, 3) := by decide +kernel
theorem dX8_measureWays_113 : decode cX8_measureWays 113 = .ok (.iload_n 1, 1) := by decide +kernel
theorem dX8_measureWays_114 : decode cX8_measureWays 114 = .ok (.iload_n 3, 1) := by decide +kernel
theorem dX8_measureWays_115 : decode cX8_measureWays 115 = .ok (.invokestatic 82, 3) := by decide +kernel
theorem dX8_measureWays_118 : decode cX8_measureWays 118 = .ok (.iaload, 1) := by decide +kernel
theorem dX8_measureWays_119 : decode cX8_measureWays 119 = .ok (.iadd, 1) := by decide +kernel
theorem dX8_measureWays_120 : decode cX8_measureWays 120 = .ok (.istore 4, 2) := by decide +kernel
theorem dX8_measureWays_122 : decode cX8_measureWays 122 = .ok (.aload_n 0, 1) := by decide +kernel
theorem dX8_measureWays_123 : decode cX8_measureWays 123 = .ok (.getfield 15, 3) := by decide +kernel
theorem dX8_measureWays_126 : decode cX8_measureWays 126 = .ok (.iload_n 2, 1) := by decide +kernel
theorem dX8_measureWays_127 : decode cX8_measureWays 127 = .ok (.iload_n 3, 1) := by decide +kernel
theorem dX8_measureWays_128 : decode cX8_measureWays 128 = .ok (.invokestatic 82, 3) := by decide +kernel
theorem dX8_measureWays_131 : decode cX8_measureWays 131 = .ok (.aload_n 0, 1) := by decide +kernel
theorem dX8_measureWays_132 : decode cX8_measureWays 132 = .ok (.getfield 15, 3) := by decide +kernel
theorem dX8_measureWays_135 : decode cX8_measureWays 135 = .ok (.iload_n 2, 1) := by decide +kernel
theorem dX8_measureWays_136 : decode cX8_measureWays 136 = .ok (.iload_n 3, 1) := by decide +kernel
theorem dX8_measureWays_137 : decode cX8_measureWays 137 = .ok (.invokestatic 82, 3) := by decide +kernel
theorem dX8_measureWays_140 : decode cX8_measureWays 140 = .ok (.iaload, 1) := by decide +kernel
theorem dX8_measureWays_141 : decode cX8_measureWays 141 = .ok (.iload 4, 2) := by decide +kernel
theorem dX8_measureWays_143 : decode cX8_measureWays 143 = .ok (.invokestatic 89, 3) := by decide +kernel
theorem dX8_measureWays_146 : decode cX8_measureWays 146 = .ok (.iastore, 1) := by decide +kernel
theorem dX8_measureWays_147 : decode cX8_measureWays 147 = .ok (.iinc 3 1, 3) := by decide +kernel
theorem dX8_measureWays_150 : decode cX8_measureWays 150 = .ok (.goto (-59), 3) := by decide +kernel
theorem dX8_measureWays_153 : decode cX8_measureWays 153 = .ok (.iinc 2 1, 3) := by decide +kernel
theorem dX8_measureWays_156 : decode cX8_measureWays 156 = .ok (.goto (-75), 3) := by decide +kernel
theorem dX8_measureWays_159 : decode cX8_measureWays 159 = .ok (.iinc 1 1, 3) := by decide +kernel
theorem dX8_measureWays_162 : decode cX8_measureWays 162 = .ok (.goto (-91), 3) := by decide +kernel
theorem dX8_measureWays_165 : decode cX8_measureWays 165 = .ok (.return_, 1) := by decide +kernel
set_option maxRecDepth 20000 in
theorem ggX8_hasWay_X8_pair : GoodIn wsX8_hasWay wsX8_pair := goodIn_r _ [5] (by decide +kernel) (by decide +kernel)
set_option maxRecDepth 20000 in
theorem gX8_hasWay_X8_pair : GoodIn wsX8_hasWay (va_wsS RX8 82 yX8_pair wsX8_pair) := goodIn_app (goodIn_of _ (by decide +kernel)) ggX8_hasWay_X8_pair
theorem dX8_hasWay_0 : decode cX8_hasWay 0 = .ok (.aload_n 0, 1) := by decide +kernel
theorem dX8_hasWay_1 : decode cX8_hasWay 1 = .ok (.getfield 15, 3) := by decide +kernel
theorem dX8_hasWay_4 : decode cX8_hasWay 4 = .ok (.iload_n 1, 1) := by decide +kernel
theorem dX8_hasWay_5 : decode cX8_hasWay 5 = .ok (.iload_n 2, 1) := by decide +kernel
theorem dX8_hasWay_6 : decode cX8_hasWay 6 = .ok (.invokestatic 82, 3) := by decide +kernel
theorem dX8_hasWay_9 : decode cX8_hasWay 9 = .ok (.iaload, 1) := by decide +kernel
theorem dX8_hasWay_10 : decode cX8_hasWay 10 = .ok (.sipush 1000, 3) := by decide +kernel
theorem dX8_hasWay_13 : decode cX8_hasWay 13 = .ok (.if_icmp .ge 7, 3) := by decide +kernel
theorem dX8_hasWay_16 : decode cX8_hasWay 16 = .ok (.iconst 1, 1) := by decide +kernel
theorem dX8_hasWay_17 : decode cX8_hasWay 17 = .ok (.goto 4, 3) := by decide +kernel
theorem dX8_hasWay_20 : decode cX8_hasWay 20 = .ok (.iconst 0, 1) := by decide +kernel
theorem dX8_hasWay_21 : decode cX8_hasWay 21 = .ok (.ireturn, 1) := by decide +kernel
set_option maxRecDepth 20000 in
theorem ggX8_wayHours_X8_pair : GoodIn wsX8_wayHours wsX8_pair := goodIn_r _ [5] (by decide +kernel) (by decide +kernel)
set_option maxRecDepth 20000 in
theorem gX8_wayHours_X8_pair : GoodIn wsX8_wayHours (va_wsS RX8 82 yX8_pair wsX8_pair) := goodIn_app (goodIn_of _ (by decide +kernel)) ggX8_wayHours_X8_pair
theorem dX8_wayHours_0 : decode cX8_wayHours 0 = .ok (.aload_n 0, 1) := by decide +kernel
theorem dX8_wayHours_1 : decode cX8_wayHours 1 = .ok (.getfield 15, 3) := by decide +kernel
theorem dX8_wayHours_4 : decode cX8_wayHours 4 = .ok (.iload_n 1, 1) := by decide +kernel
theorem dX8_wayHours_5 : decode cX8_wayHours 5 = .ok (.iload_n 2, 1) := by decide +kernel
theorem dX8_wayHours_6 : decode cX8_wayHours 6 = .ok (.invokestatic 82, 3) := by decide +kernel
theorem dX8_wayHours_9 : decode cX8_wayHours 9 = .ok (.iaload, 1) := by decide +kernel
theorem dX8_wayHours_10 : decode cX8_wayHours 10 = .ok (.ireturn, 1) := by decide +kernel
set_option maxRecDepth 20000 in
theorem ggX8_nextPlace_X8_roadHours : GoodIn wsX8_nextPlace wsX8_roadHours := goodIn_r _ [6, 7, 8, 9, 5, 10, 16, 17, 18, 19, 20, 21, 22, 23, 24, 25, 26, 27, 28, 29, 30, 31, 32, 33, 34] (by decide +kernel) (by decide +kernel)
set_option maxRecDepth 20000 in
theorem gX8_nextPlace_X8_roadHours : GoodIn wsX8_nextPlace (wsV RX8 86 RX8 yX8_roadHours wsX8_roadHours) := goodIn_app (goodIn_of _ (by decide +kernel)) ggX8_nextPlace_X8_roadHours
set_option maxRecDepth 20000 in
theorem ggX8_nextPlace_X8_wayHours : GoodIn wsX8_nextPlace wsX8_wayHours := goodIn_r _ [14, 15, 8, 9, 5, 10, 16, 17, 18, 19, 20, 21, 22, 23, 24, 25, 26, 27, 28, 29, 30, 31, 32, 33, 34] (by decide +kernel) (by decide +kernel)
set_option maxRecDepth 20000 in
theorem gX8_nextPlace_X8_wayHours : GoodIn wsX8_nextPlace (wsV RX8 94 RX8 yX8_wayHours wsX8_wayHours) := goodIn_app (goodIn_of _ (by decide +kernel)) ggX8_nextPlace_X8_wayHours
theorem dX8_nextPlace_0 : decode cX8_nextPlace 0 = .ok (.iconst 0, 1) := by decide +kernel
theorem dX8_nextPlace_1 : decode cX8_nextPlace 1 = .ok (.istore_n 3, 1) := by decide +kernel
theorem dX8_nextPlace_2 : decode cX8_nextPlace 2 = .ok (.iload_n 3, 1) := by decide +kernel
theorem dX8_nextPlace_3 : decode cX8_nextPlace 3 = .ok (.aload_n 0, 1) := by decide +kernel
theorem dX8_nextPlace_4 : decode cX8_nextPlace 4 = .ok (.getfield 45, 3) := by decide +kernel
theorem dX8_nextPlace_7 : decode cX8_nextPlace 7 = .ok (.if_icmp .ge 42, 3) := by decide +kernel
theorem dX8_nextPlace_10 : decode cX8_nextPlace 10 = .ok (.aload_n 0, 1) := by decide +kernel
theorem dX8_nextPlace_11 : decode cX8_nextPlace 11 = .ok (.iload_n 1, 1) := by decide +kernel
theorem dX8_nextPlace_12 : decode cX8_nextPlace 12 = .ok (.iload_n 3, 1) := by decide +kernel
theorem dX8_nextPlace_13 : decode cX8_nextPlace 13 = .ok (.invokevirtual 86, 3) := by decide +kernel
theorem dX8_nextPlace_16 : decode cX8_nextPlace 16 = .ok (.istore 4, 2) := by decide +kernel
theorem dX8_nextPlace_18 : decode cX8_nextPlace 18 = .ok (.iload 4, 2) := by decide +kernel
theorem dX8_nextPlace_20 : decode cX8_nextPlace 20 = .ok (.ifCond .le 23, 3) := by decide +kernel
theorem dX8_nextPlace_23 : decode cX8_nextPlace 23 = .ok (.iload 4, 2) := by decide +kernel
theorem dX8_nextPlace_25 : decode cX8_nextPlace 25 = .ok (.aload_n 0, 1) := by decide +kernel
theorem dX8_nextPlace_26 : decode cX8_nextPlace 26 = .ok (.iload_n 3, 1) := by decide +kernel
theorem dX8_nextPlace_27 : decode cX8_nextPlace 27 = .ok (.iload_n 2, 1) := by decide +kernel
theorem dX8_nextPlace_28 : decode cX8_nextPlace 28 = .ok (.invokevirtual 94, 3) := by decide +kernel
theorem dX8_nextPlace_31 : decode cX8_nextPlace 31 = .ok (.iadd, 1) := by decide +kernel
theorem dX8_nextPlace_32 : decode cX8_nextPlace 32 = .ok (.aload_n 0, 1) := by decide +kernel
theorem dX8_nextPlace_33 : decode cX8_nextPlace 33 = .ok (.iload_n 1, 1) := by decide +kernel
theorem dX8_nextPlace_34 : decode cX8_nextPlace 34 = .ok (.iload_n 2, 1) := by decide +kernel
theorem dX8_nextPlace_35 : decode cX8_nextPlace 35 = .ok (.invokevirtual 94, 3) := by decide +kernel
theorem dX8_nextPlace_38 : decode cX8_nextPlace 38 = .ok (.if_icmp .ne 5, 3) := by decide +kernel
theorem dX8_nextPlace_41 : decode cX8_nextPlace 41 = .ok (.iload_n 3, 1) := by decide +kernel
theorem dX8_nextPlace_42 : decode cX8_nextPlace 42 = .ok (.ireturn, 1) := by decide +kernel
theorem dX8_nextPlace_43 : decode cX8_nextPlace 43 = .ok (.iinc 3 1, 3) := by decide +kernel
theorem dX8_nextPlace_46 : decode cX8_nextPlace 46 = .ok (.goto (-44), 3) := by decide +kernel
theorem dX8_nextPlace_49 : decode cX8_nextPlace 49 = .ok (.iconst (-1), 1) := by decide +kernel
theorem dX8_nextPlace_50 : decode cX8_nextPlace 50 = .ok (.ireturn, 1) := by decide +kernel
theorem dX8_heatIn_0 : decode cX8_heatIn 0 = .ok (.iconst 0, 1) := by decide +kernel
theorem dX8_heatIn_1 : decode cX8_heatIn 1 = .ok (.istore_n 2, 1) := by decide +kernel
theorem dX8_heatIn_2 : decode cX8_heatIn 2 = .ok (.iconst 0, 1) := by decide +kernel
theorem dX8_heatIn_3 : decode cX8_heatIn 3 = .ok (.istore_n 3, 1) := by decide +kernel
theorem dX8_heatIn_4 : decode cX8_heatIn 4 = .ok (.iload_n 3, 1) := by decide +kernel
theorem dX8_heatIn_5 : decode cX8_heatIn 5 = .ok (.aload_n 0, 1) := by decide +kernel
theorem dX8_heatIn_6 : decode cX8_heatIn 6 = .ok (.getfield 64, 3) := by decide +kernel
theorem dX8_heatIn_9 : decode cX8_heatIn 9 = .ok (.if_icmp .ge 38, 3) := by decide +kernel
theorem dX8_heatIn_12 : decode cX8_heatIn 12 = .ok (.aload_n 0, 1) := by decide +kernel
theorem dX8_heatIn_13 : decode cX8_heatIn 13 = .ok (.getfield 24, 3) := by decide +kernel
theorem dX8_heatIn_16 : decode cX8_heatIn 16 = .ok (.iload_n 3, 1) := by decide +kernel
theorem dX8_heatIn_17 : decode cX8_heatIn 17 = .ok (.iaload, 1) := by decide +kernel
theorem dX8_heatIn_18 : decode cX8_heatIn 18 = .ok (.iload_n 1, 1) := by decide +kernel
theorem dX8_heatIn_19 : decode cX8_heatIn 19 = .ok (.if_icmp .gt 22, 3) := by decide +kernel
theorem dX8_heatIn_22 : decode cX8_heatIn 22 = .ok (.iload_n 1, 1) := by decide +kernel
theorem dX8_heatIn_23 : decode cX8_heatIn 23 = .ok (.aload_n 0, 1) := by decide +kernel
theorem dX8_heatIn_24 : decode cX8_heatIn 24 = .ok (.getfield 27, 3) := by decide +kernel
theorem dX8_heatIn_27 : decode cX8_heatIn 27 = .ok (.iload_n 3, 1) := by decide +kernel
theorem dX8_heatIn_28 : decode cX8_heatIn 28 = .ok (.iaload, 1) := by decide +kernel
theorem dX8_heatIn_29 : decode cX8_heatIn 29 = .ok (.if_icmp .gt 12, 3) := by decide +kernel
theorem dX8_heatIn_32 : decode cX8_heatIn 32 = .ok (.iload_n 2, 1) := by decide +kernel
theorem dX8_heatIn_33 : decode cX8_heatIn 33 = .ok (.aload_n 0, 1) := by decide +kernel
theorem dX8_heatIn_34 : decode cX8_heatIn 34 = .ok (.getfield 30, 3) := by decide +kernel
theorem dX8_heatIn_37 : decode cX8_heatIn 37 = .ok (.iload_n 3, 1) := by decide +kernel
theorem dX8_heatIn_38 : decode cX8_heatIn 38 = .ok (.iaload, 1) := by decide +kernel
theorem dX8_heatIn_39 : decode cX8_heatIn 39 = .ok (.iadd, 1) := by decide +kernel
theorem dX8_heatIn_40 : decode cX8_heatIn 40 = .ok (.istore_n 2, 1) := by decide +kernel
theorem dX8_heatIn_41 : decode cX8_heatIn 41 = .ok (.iinc 3 1, 3) := by decide +kernel
theorem dX8_heatIn_44 : decode cX8_heatIn 44 = .ok (.goto (-40), 3) := by decide +kernel
theorem dX8_heatIn_47 : decode cX8_heatIn 47 = .ok (.iload_n 2, 1) := by decide +kernel
theorem dX8_heatIn_48 : decode cX8_heatIn 48 = .ok (.ireturn, 1) := by decide +kernel
theorem dX8_suits_0 : decode cX8_suits 0 = .ok (.aload_n 0, 1) := by decide +kernel
theorem dX8_suits_1 : decode cX8_suits 1 = .ok (.getfield 36, 3) := by decide +kernel
theorem dX8_suits_4 : decode cX8_suits 4 = .ok (.iload_n 1, 1) := by decide +kernel
theorem dX8_suits_5 : decode cX8_suits 5 = .ok (.iaload, 1) := by decide +kernel
theorem dX8_suits_6 : decode cX8_suits 6 = .ok (.iload_n 2, 1) := by decide +kernel
theorem dX8_suits_7 : decode cX8_suits 7 = .ok (.if_icmp .gt 17, 3) := by decide +kernel
theorem dX8_suits_10 : decode cX8_suits 10 = .ok (.iload_n 2, 1) := by decide +kernel
theorem dX8_suits_11 : decode cX8_suits 11 = .ok (.aload_n 0, 1) := by decide +kernel
theorem dX8_suits_12 : decode cX8_suits 12 = .ok (.getfield 39, 3) := by decide +kernel
theorem dX8_suits_15 : decode cX8_suits 15 = .ok (.iload_n 1, 1) := by decide +kernel
theorem dX8_suits_16 : decode cX8_suits 16 = .ok (.iaload, 1) := by decide +kernel
theorem dX8_suits_17 : decode cX8_suits 17 = .ok (.if_icmp .gt 7, 3) := by decide +kernel
theorem dX8_suits_20 : decode cX8_suits 20 = .ok (.iconst 1, 1) := by decide +kernel
theorem dX8_suits_21 : decode cX8_suits 21 = .ok (.goto 4, 3) := by decide +kernel
theorem dX8_suits_24 : decode cX8_suits 24 = .ok (.iconst 0, 1) := by decide +kernel
theorem dX8_suits_25 : decode cX8_suits 25 = .ok (.ireturn, 1) := by decide +kernel
theorem dX9_init_0 : decode cX9_init 0 = .ok (.aload_n 0, 1) := by decide +kernel
theorem dX9_init_1 : decode cX9_init 1 = .ok (.invokespecial 3, 3) := by decide +kernel
theorem dX9_init_4 : decode cX9_init 4 = .ok (.aload_n 0, 1) := by decide +kernel
theorem dX9_init_5 : decode cX9_init 5 = .ok (.bipush 100, 2) := by decide +kernel
theorem dX9_init_7 : decode cX9_init 7 = .ok (.newarray .int, 2) := by decide +kernel
theorem dX9_init_9 : decode cX9_init 9 = .ok (.putfield 11, 3) := by decide +kernel
theorem dX9_init_12 : decode cX9_init 12 = .ok (.aload_n 0, 1) := by decide +kernel
theorem dX9_init_13 : decode cX9_init 13 = .ok (.aload_n 1, 1) := by decide +kernel
theorem dX9_init_14 : decode cX9_init 14 = .ok (.putfield 15, 3) := by decide +kernel
theorem dX9_init_17 : decode cX9_init 17 = .ok (.aload_n 0, 1) := by decide +kernel
theorem dX9_init_18 : decode cX9_init 18 = .ok (.aload_n 2, 1) := by decide +kernel
theorem dX9_init_19 : decode cX9_init 19 = .ok (.putfield 19, 3) := by decide +kernel
theorem dX9_init_22 : decode cX9_init 22 = .ok (.return_, 1) := by decide +kernel
set_option maxRecDepth 20000 in
theorem ggX9_turnedByTurns_X10_suppose : GoodIn wsX9_turnedByTurns wsX10_suppose := goodIn_r _ [7, 8, 9, 10, 11, 12, 13, 14, 94, 95, 96, 97, 98, 99, 100, 101, 102, 103, 104, 105] (by decide +kernel) (by decide +kernel)
set_option maxRecDepth 20000 in
theorem gX9_turnedByTurns_X10_suppose : GoodIn wsX9_turnedByTurns (wsV RX9 35 RX10 yX10_suppose wsX10_suppose) := goodIn_app (goodIn_of _ (by decide +kernel)) ggX9_turnedByTurns_X10_suppose
set_option maxRecDepth 20000 in
theorem ggX9_turnedByTurns_X10_holdFor : GoodIn wsX9_turnedByTurns wsX10_holdFor := goodIn_r _ [18, 10, 19, 20, 21, 22, 11, 23, 8, 12, 24, 25, 26, 6, 27, 28, 29, 30, 31, 32, 33, 34, 35, 36, 37, 38, 39, 40, 41, 42, 43, 44, 45, 46, 47, 48, 49, 50, 51, 52, 53, 54, 55, 56, 57, 58, 59, 9, 13, 14, 60, 61, 62, 94, 95, 96, 97, 98, 99, 100, 101, 102, 103, 104, 105, 106, 107, 108, 109, 110, 111, 112, 113, 114, 115, 116, 117, 118, 119, 120, 121, 122, 123, 124] (by decide +kernel) (by decide +kernel)
set_option maxRecDepth 20000 in
theorem gX9_turnedByTurns_X10_holdFor : GoodIn wsX9_turnedByTurns (wsV RX9 53 RX10 yX10_holdFor wsX10_holdFor) := goodIn_app (goodIn_of _ (by decide +kernel)) ggX9_turnedByTurns_X10_holdFor
set_option maxRecDepth 20000 in
theorem ggX9_turnedByTurns_X10_restAnHour : GoodIn wsX9_turnedByTurns wsX10_restAnHour := goodIn_r _ [66, 11, 67, 68, 21, 69, 12, 19, 20, 22, 94, 95, 96, 97, 98, 99, 100, 101, 102, 103, 104, 105] (by decide +kernel) (by decide +kernel)
set_option maxRecDepth 20000 in
theorem gX9_turnedByTurns_X10_restAnHour : GoodIn wsX9_turnedByTurns (wsV RX9 57 RX10 yX10_restAnHour wsX10_restAnHour) := goodIn_app (goodIn_of _ (by decide +kernel)) ggX9_turnedByTurns_X10_restAnHour
theorem dX9_turnedByTurns_0 : decode cX9_turnedByTurns 0 = .ok (.aload_n 0, 1) := by decide +kernel
theorem dX9_turnedByTurns_1 : decode cX9_turnedByTurns 1 = .ok (.getfield 19, 3) := by decide +kernel
theorem dX9_turnedByTurns_4 : decode cX9_turnedByTurns 4 = .ok (.iload_n 1, 1) := by decide +kernel
theorem dX9_turnedByTurns_5 : decode cX9_turnedByTurns 5 = .ok (.iconst 0, 1) := by decide +kernel
theorem dX9_turnedByTurns_6 : decode cX9_turnedByTurns 6 = .ok (.iconst 0, 1) := by decide +kernel
theorem dX9_turnedByTurns_7 : decode cX9_turnedByTurns 7 = .ok (.aload_n 0, 1) := by decide +kernel
theorem dX9_turnedByTurns_8 : decode cX9_turnedByTurns 8 = .ok (.getfield 15, 3) := by decide +kernel
theorem dX9_turnedByTurns_11 : decode cX9_turnedByTurns 11 = .ok (.getfield 23, 3) := by decide +kernel
theorem dX9_turnedByTurns_14 : decode cX9_turnedByTurns 14 = .ok (.getfield 29, 3) := by decide +kernel
theorem dX9_turnedByTurns_17 : decode cX9_turnedByTurns 17 = .ok (.invokevirtual 35, 3) := by decide +kernel
theorem dX9_turnedByTurns_20 : decode cX9_turnedByTurns 20 = .ok (.aload_n 0, 1) := by decide +kernel
theorem dX9_turnedByTurns_21 : decode cX9_turnedByTurns 21 = .ok (.getfield 19, 3) := by decide +kernel
theorem dX9_turnedByTurns_24 : decode cX9_turnedByTurns 24 = .ok (.aload_n 0, 1) := by decide +kernel
theorem dX9_turnedByTurns_25 : decode cX9_turnedByTurns 25 = .ok (.getfield 15, 3) := by decide +kernel
theorem dX9_turnedByTurns_28 : decode cX9_turnedByTurns 28 = .ok (.getfield 23, 3) := by decide +kernel
theorem dX9_turnedByTurns_31 : decode cX9_turnedByTurns 31 = .ok (.getfield 41, 3) := by decide +kernel
theorem dX9_turnedByTurns_34 : decode cX9_turnedByTurns 34 = .ok (.iload_n 1, 1) := by decide +kernel
theorem dX9_turnedByTurns_35 : decode cX9_turnedByTurns 35 = .ok (.iaload, 1) := by decide +kernel
theorem dX9_turnedByTurns_36 : decode cX9_turnedByTurns 36 = .ok (.putfield 44, 3) := by decide +kernel
theorem dX9_turnedByTurns_39 : decode cX9_turnedByTurns 39 = .ok (.iconst 0, 1) := by decide +kernel
theorem dX9_turnedByTurns_40 : decode cX9_turnedByTurns 40 = .ok (.istore 4, 2) := by decide +kernel
theorem dX9_turnedByTurns_42 : decode cX9_turnedByTurns 42 = .ok (.iload 4, 2) := by decide +kernel
theorem dX9_turnedByTurns_44 : decode cX9_turnedByTurns 44 = .ok (.iload_n 2, 1) := by decide +kernel
theorem dX9_turnedByTurns_45 : decode cX9_turnedByTurns 45 = .ok (.if_icmp .ge 66, 3) := by decide +kernel
theorem dX9_turnedByTurns_48 : decode cX9_turnedByTurns 48 = .ok (.aload_n 0, 1) := by decide +kernel
theorem dX9_turnedByTurns_49 : decode cX9_turnedByTurns 49 = .ok (.getfield 19, 3) := by decide +kernel
theorem dX9_turnedByTurns_52 : decode cX9_turnedByTurns 52 = .ok (.aload_n 0, 1) := by decide +kernel
theorem dX9_turnedByTurns_53 : decode cX9_turnedByTurns 53 = .ok (.getfield 15, 3) := by decide +kernel
theorem dX9_turnedByTurns_56 : decode cX9_turnedByTurns 56 = .ok (.getfield 23, 3) := by decide +kernel
theorem dX9_turnedByTurns_59 : decode cX9_turnedByTurns 59 = .ok (.getfield 47, 3) := by decide +kernel
theorem dX9_turnedByTurns_62 : decode cX9_turnedByTurns 62 = .ok (.iload_n 1, 1) := by decide +kernel
theorem dX9_turnedByTurns_63 : decode cX9_turnedByTurns 63 = .ok (.iaload, 1) := by decide +kernel
theorem dX9_turnedByTurns_64 : decode cX9_turnedByTurns 64 = .ok (.iload 4, 2) := by decide +kernel
theorem dX9_turnedByTurns_66 : decode cX9_turnedByTurns 66 = .ok (.if_icmp .le 7, 3) := by decide +kernel
theorem dX9_turnedByTurns_69 : decode cX9_turnedByTurns 69 = .ok (.iconst 1, 1) := by decide +kernel
theorem dX9_turnedByTurns_70 : decode cX9_turnedByTurns 70 = .ok (.goto 4, 3) := by decide +kernel
theorem dX9_turnedByTurns_73 : decode cX9_turnedByTurns 73 = .ok (.iconst 0, 1) := by decide +kernel
theorem dX9_turnedByTurns_74 : decode cX9_turnedByTurns 74 = .ok (.putfield 50, 3) := by decide +kernel
theorem dX9_turnedByTurns_77 : decode cX9_turnedByTurns 77 = .ok (.iload_n 3, 1) := by decide +kernel
theorem dX9_turnedByTurns_78 : decode cX9_turnedByTurns 78 = .ok (.iload 4, 2) := by decide +kernel
theorem dX9_turnedByTurns_80 : decode cX9_turnedByTurns 80 = .ok (.ishr, 1) := by decide +kernel
theorem dX9_turnedByTurns_81 : decode cX9_turnedByTurns 81 = .ok (.iconst 1, 1) := by decide +kernel
theorem dX9_turnedByTurns_82 : decode cX9_turnedByTurns 82 = .ok (.iand, 1) := by decide +kernel
theorem dX9_turnedByTurns_83 : decode cX9_turnedByTurns 83 = .ok (.iconst 1, 1) := by decide +kernel
theorem dX9_turnedByTurns_84 : decode cX9_turnedByTurns 84 = .ok (.if_icmp .ne 14, 3) := by decide +kernel
theorem dX9_turnedByTurns_87 : decode cX9_turnedByTurns 87 = .ok (.aload_n 0, 1) := by decide +kernel
theorem dX9_turnedByTurns_88 : decode cX9_turnedByTurns 88 = .ok (.getfield 19, 3) := by decide +kernel
theorem dX9_turnedByTurns_91 : decode cX9_turnedByTurns 91 = .ok (.iconst 1, 1) := by decide +kernel
theorem dX9_turnedByTurns_92 : decode cX9_turnedByTurns 92 = .ok (.invokevirtual 53, 3) := by decide +kernel
theorem dX9_turnedByTurns_95 : decode cX9_turnedByTurns 95 = .ok (.goto 10, 3) := by decide +kernel
theorem dX9_turnedByTurns_98 : decode cX9_turnedByTurns 98 = .ok (.aload_n 0, 1) := by decide +kernel
theorem dX9_turnedByTurns_99 : decode cX9_turnedByTurns 99 = .ok (.getfield 19, 3) := by decide +kernel
theorem dX9_turnedByTurns_102 : decode cX9_turnedByTurns 102 = .ok (.invokevirtual 57, 3) := by decide +kernel
theorem dX9_turnedByTurns_105 : decode cX9_turnedByTurns 105 = .ok (.iinc 4 1, 3) := by decide +kernel
theorem dX9_turnedByTurns_108 : decode cX9_turnedByTurns 108 = .ok (.goto (-66), 3) := by decide +kernel
theorem dX9_turnedByTurns_111 : decode cX9_turnedByTurns 111 = .ok (.aload_n 0, 1) := by decide +kernel
theorem dX9_turnedByTurns_112 : decode cX9_turnedByTurns 112 = .ok (.getfield 19, 3) := by decide +kernel
theorem dX9_turnedByTurns_115 : decode cX9_turnedByTurns 115 = .ok (.getfield 60, 3) := by decide +kernel
theorem dX9_turnedByTurns_118 : decode cX9_turnedByTurns 118 = .ok (.ireturn, 1) := by decide +kernel
set_option maxRecDepth 20000 in
theorem ggX9_handsByTests_X9_passesAll : GoodIn wsX9_handsByTests wsX9_passesAll := goodIn_r _ [6, 1, 7, 8, 9, 10, 11, 12, 13, 14, 15, 16, 17, 18, 19, 20, 21, 22, 23, 24, 25, 26, 27, 28, 29, 30, 31, 32, 33, 34, 35, 36, 37, 38, 39, 40, 41, 42, 43, 44, 45, 46, 47, 48, 49, 50, 51, 52, 53, 54, 55, 56, 57, 58, 59, 60, 61, 62, 63, 64, 65, 66, 67, 68, 69, 70, 71, 72, 73, 74, 75, 76, 77, 78, 79, 80, 81, 82, 102, 103, 104, 105, 106, 107, 108, 109, 110, 111, 112, 113, 83, 84, 85, 86, 87, 88, 89, 90, 91, 92, 93, 94, 95, 96, 97, 98, 99, 100, 101] (by decide +kernel) (by decide +kernel)
set_option maxRecDepth 20000 in
theorem gX9_handsByTests_X9_passesAll : GoodIn wsX9_handsByTests (wsV RX9 72 RX9 yX9_passesAll wsX9_passesAll) := goodIn_app (goodIn_of _ (by decide +kernel)) ggX9_handsByTests_X9_passesAll
theorem dX9_handsByTests_0 : decode cX9_handsByTests 0 = .ok (.iconst 0, 1) := by decide +kernel
theorem dX9_handsByTests_1 : decode cX9_handsByTests 1 = .ok (.istore_n 1, 1) := by decide +kernel
theorem dX9_handsByTests_2 : decode cX9_handsByTests 2 = .ok (.iconst 0, 1) := by decide +kernel
theorem dX9_handsByTests_3 : decode cX9_handsByTests 3 = .ok (.istore_n 2, 1) := by decide +kernel
theorem dX9_handsByTests_4 : decode cX9_handsByTests 4 = .ok (.iload_n 2, 1) := by decide +kernel
theorem dX9_handsByTests_5 : decode cX9_handsByTests 5 = .ok (.aload_n 0, 1) := by decide +kernel
theorem dX9_handsByTests_6 : decode cX9_handsByTests 6 = .ok (.getfield 15, 3) := by decide +kernel
theorem dX9_handsByTests_9 : decode cX9_handsByTests 9 = .ok (.getfield 63, 3) := by decide +kernel
theorem dX9_handsByTests_12 : decode cX9_handsByTests 12 = .ok (.getfield 67, 3) := by decide +kernel
theorem dX9_handsByTests_15 : decode cX9_handsByTests 15 = .ok (.if_icmp .ge 23, 3) := by decide +kernel
theorem dX9_handsByTests_18 : decode cX9_handsByTests 18 = .ok (.aload_n 0, 1) := by decide +kernel
theorem dX9_handsByTests_19 : decode cX9_handsByTests 19 = .ok (.iload_n 2, 1) := by decide +kernel
theorem dX9_handsByTests_20 : decode cX9_handsByTests 20 = .ok (.invokevirtual 72, 3) := by decide +kernel
theorem dX9_handsByTests_23 : decode cX9_handsByTests 23 = .ok (.ifCond .eq 9, 3) := by decide +kernel
theorem dX9_handsByTests_26 : decode cX9_handsByTests 26 = .ok (.iload_n 1, 1) := by decide +kernel
theorem dX9_handsByTests_27 : decode cX9_handsByTests 27 = .ok (.iconst 1, 1) := by decide +kernel
theorem dX9_handsByTests_28 : decode cX9_handsByTests 28 = .ok (.iload_n 2, 1) := by decide +kernel
theorem dX9_handsByTests_29 : decode cX9_handsByTests 29 = .ok (.ishl, 1) := by decide +kernel
theorem dX9_handsByTests_30 : decode cX9_handsByTests 30 = .ok (.ior, 1) := by decide +kernel
theorem dX9_handsByTests_31 : decode cX9_handsByTests 31 = .ok (.istore_n 1, 1) := by decide +kernel
theorem dX9_handsByTests_32 : decode cX9_handsByTests 32 = .ok (.iinc 2 1, 3) := by decide +kernel
theorem dX9_handsByTests_35 : decode cX9_handsByTests 35 = .ok (.goto (-31), 3) := by decide +kernel
theorem dX9_handsByTests_38 : decode cX9_handsByTests 38 = .ok (.iload_n 1, 1) := by decide +kernel
theorem dX9_handsByTests_39 : decode cX9_handsByTests 39 = .ok (.ireturn, 1) := by decide +kernel
set_option maxRecDepth 20000 in
theorem ggX9_passesAll_X10_suppose : GoodIn wsX9_passesAll wsX10_suppose := goodIn_r _ [7, 8, 9, 10, 11, 12, 13, 14, 78, 79, 80, 81, 82, 83, 84, 85, 86, 87, 88, 89] (by decide +kernel) (by decide +kernel)
set_option maxRecDepth 20000 in
theorem gX9_passesAll_X10_suppose : GoodIn wsX9_passesAll (wsV RX9 35 RX10 yX10_suppose wsX10_suppose) := goodIn_app (goodIn_of _ (by decide +kernel)) ggX9_passesAll_X10_suppose
set_option maxRecDepth 20000 in
theorem ggX9_passesAll_X10_holdFor : GoodIn wsX9_passesAll wsX10_holdFor := goodIn_r _ [18, 10, 19, 20, 21, 22, 11, 23, 8, 12, 24, 25, 26, 6, 27, 28, 29, 30, 31, 32, 33, 34, 35, 36, 37, 38, 39, 40, 41, 42, 43, 44, 45, 46, 47, 48, 49, 50, 51, 52, 53, 54, 55, 56, 57, 58, 59, 9, 13, 14, 60, 61, 62, 78, 79, 80, 81, 82, 83, 84, 85, 86, 87, 88, 89, 90, 91, 92, 93, 94, 95, 96, 97, 98, 99, 100, 101, 102, 103, 104, 105, 106, 107, 108] (by decide +kernel) (by decide +kernel)
set_option maxRecDepth 20000 in
theorem gX9_passesAll_X10_holdFor : GoodIn wsX9_passesAll (wsV RX9 53 RX10 yX10_holdFor wsX10_holdFor) := goodIn_app (goodIn_of _ (by decide +kernel)) ggX9_passesAll_X10_holdFor
theorem dX9_passesAll_0 : decode cX9_passesAll 0 = .ok (.iconst 0, 1) := by decide +kernel
theorem dX9_passesAll_1 : decode cX9_passesAll 1 = .ok (.istore_n 2, 1) := by decide +kernel
theorem dX9_passesAll_2 : decode cX9_passesAll 2 = .ok (.iload_n 2, 1) := by decide +kernel
theorem dX9_passesAll_3 : decode cX9_passesAll 3 = .ok (.aload_n 0, 1) := by decide +kernel
theorem dX9_passesAll_4 : decode cX9_passesAll 4 = .ok (.getfield 15, 3) := by decide +kernel
theorem dX9_passesAll_7 : decode cX9_passesAll 7 = .ok (.getfield 76, 3) := by decide +kernel
theorem dX9_passesAll_10 : decode cX9_passesAll 10 = .ok (.if_icmp .ge 73, 3) := by decide +kernel
theorem dX9_passesAll_13 : decode cX9_passesAll 13 = .ok (.aload_n 0, 1) := by decide +kernel
theorem dX9_passesAll_14 : decode cX9_passesAll 14 = .ok (.getfield 19, 3) := by decide +kernel
theorem dX9_passesAll_17 : decode cX9_passesAll 17 = .ok (.iload_n 1, 1) := by decide +kernel
theorem dX9_passesAll_18 : decode cX9_passesAll 18 = .ok (.iconst 0, 1) := by decide +kernel
theorem dX9_passesAll_19 : decode cX9_passesAll 19 = .ok (.aload_n 0, 1) := by decide +kernel
theorem dX9_passesAll_20 : decode cX9_passesAll 20 = .ok (.getfield 15, 3) := by decide +kernel
theorem dX9_passesAll_23 : decode cX9_passesAll 23 = .ok (.getfield 79, 3) := by decide +kernel
theorem dX9_passesAll_26 : decode cX9_passesAll 26 = .ok (.iload_n 2, 1) := by decide +kernel
theorem dX9_passesAll_27 : decode cX9_passesAll 27 = .ok (.iaload, 1) := by decide +kernel
theorem dX9_passesAll_28 : decode cX9_passesAll 28 = .ok (.aload_n 0, 1) := by decide +kernel
theorem dX9_passesAll_29 : decode cX9_passesAll 29 = .ok (.getfield 15, 3) := by decide +kernel
theorem dX9_passesAll_32 : decode cX9_passesAll 32 = .ok (.getfield 82, 3) := by decide +kernel
theorem dX9_passesAll_35 : decode cX9_passesAll 35 = .ok (.iload_n 2, 1) := by decide +kernel
theorem dX9_passesAll_36 : decode cX9_passesAll 36 = .ok (.iaload, 1) := by decide +kernel
theorem dX9_passesAll_37 : decode cX9_passesAll 37 = .ok (.invokevirtual 35, 3) := by decide +kernel
theorem dX9_passesAll_40 : decode cX9_passesAll 40 = .ok (.aload_n 0, 1) := by decide +kernel
theorem dX9_passesAll_41 : decode cX9_passesAll 41 = .ok (.getfield 19, 3) := by decide +kernel
theorem dX9_passesAll_44 : decode cX9_passesAll 44 = .ok (.aload_n 0, 1) := by decide +kernel
theorem dX9_passesAll_45 : decode cX9_passesAll 45 = .ok (.getfield 15, 3) := by decide +kernel
theorem dX9_passesAll_48 : decode cX9_passesAll 48 = .ok (.getfield 85, 3) := by decide +kernel
theorem dX9_passesAll_51 : decode cX9_passesAll 51 = .ok (.iload_n 2, 1) := by decide +kernel
theorem dX9_passesAll_52 : decode cX9_passesAll 52 = .ok (.iaload, 1) := by decide +kernel
theorem dX9_passesAll_53 : decode cX9_passesAll 53 = .ok (.invokevirtual 53, 3) := by decide +kernel
theorem dX9_passesAll_56 : decode cX9_passesAll 56 = .ok (.aload_n 0, 1) := by decide +kernel
theorem dX9_passesAll_57 : decode cX9_passesAll 57 = .ok (.getfield 19, 3) := by decide +kernel
theorem dX9_passesAll_60 : decode cX9_passesAll 60 = .ok (.getfield 60, 3) := by decide +kernel
theorem dX9_passesAll_63 : decode cX9_passesAll 63 = .ok (.aload_n 0, 1) := by decide +kernel
theorem dX9_passesAll_64 : decode cX9_passesAll 64 = .ok (.getfield 15, 3) := by decide +kernel
theorem dX9_passesAll_67 : decode cX9_passesAll 67 = .ok (.getfield 88, 3) := by decide +kernel
theorem dX9_passesAll_70 : decode cX9_passesAll 70 = .ok (.iload_n 2, 1) := by decide +kernel
theorem dX9_passesAll_71 : decode cX9_passesAll 71 = .ok (.iaload, 1) := by decide +kernel
theorem dX9_passesAll_72 : decode cX9_passesAll 72 = .ok (.if_icmp .eq 5, 3) := by decide +kernel
theorem dX9_passesAll_75 : decode cX9_passesAll 75 = .ok (.iconst 0, 1) := by decide +kernel
theorem dX9_passesAll_76 : decode cX9_passesAll 76 = .ok (.ireturn, 1) := by decide +kernel
theorem dX9_passesAll_77 : decode cX9_passesAll 77 = .ok (.iinc 2 1, 3) := by decide +kernel
theorem dX9_passesAll_80 : decode cX9_passesAll 80 = .ok (.goto (-78), 3) := by decide +kernel
theorem dX9_passesAll_83 : decode cX9_passesAll 83 = .ok (.iconst 1, 1) := by decide +kernel
theorem dX9_passesAll_84 : decode cX9_passesAll 84 = .ok (.ireturn, 1) := by decide +kernel
set_option maxRecDepth 20000 in
theorem ggX9_findBestProbe_X10_suppose : GoodIn wsX9_findBestProbe wsX10_suppose := goodIn_r _ [10, 11, 12, 13, 14, 15, 16, 17, 117, 118, 119, 120, 121, 122, 123, 124, 125, 126, 127, 128] (by decide +kernel) (by decide +kernel)
set_option maxRecDepth 20000 in
theorem gX9_findBestProbe_X10_suppose : GoodIn wsX9_findBestProbe (wsV RX9 35 RX10 yX10_suppose wsX10_suppose) := goodIn_app (goodIn_of _ (by decide +kernel)) ggX9_findBestProbe_X10_suppose
set_option maxRecDepth 20000 in
theorem ggX9_findBestProbe_X10_holdFor : GoodIn wsX9_findBestProbe wsX10_holdFor := goodIn_r _ [21, 13, 22, 23, 24, 25, 14, 26, 11, 15, 27, 28, 29, 9, 30, 31, 32, 33, 34, 35, 36, 37, 38, 39, 40, 41, 42, 43, 44, 45, 46, 47, 48, 49, 50, 51, 52, 53, 54, 55, 56, 57, 58, 59, 60, 61, 62, 12, 16, 17, 63, 64, 65, 117, 118, 119, 120, 121, 122, 123, 124, 125, 126, 127, 128, 89, 90, 91, 92, 93, 94, 95, 96, 97, 98, 99, 100, 101, 102, 103, 104, 105, 106, 107] (by decide +kernel) (by decide +kernel)
set_option maxRecDepth 20000 in
theorem gX9_findBestProbe_X10_holdFor : GoodIn wsX9_findBestProbe (wsV RX9 53 RX10 yX10_holdFor wsX10_holdFor) := goodIn_app (goodIn_of _ (by decide +kernel)) ggX9_findBestProbe_X10_holdFor
set_option maxRecDepth 20000 in
theorem ggX9_findBestProbe_X9_mostAlike : GoodIn wsX9_findBestProbe wsX9_mostAlike := goodIn_r _ [70, 1, 3, 71, 72, 24, 73, 74, 75, 76, 77, 78, 79, 80, 81, 82, 83, 84, 85, 86, 87, 88, 89, 90, 91, 92, 93, 94, 95, 96, 97, 98, 99, 100, 101, 102, 103, 104, 105, 106, 107] (by decide +kernel) (by decide +kernel)
set_option maxRecDepth 20000 in
theorem gX9_findBestProbe_X9_mostAlike : GoodIn wsX9_findBestProbe (wsV RX9 94 RX9 yX9_mostAlike wsX9_mostAlike) := goodIn_app (goodIn_of _ (by decide +kernel)) ggX9_findBestProbe_X9_mostAlike
theorem dX9_findBestProbe_0 : decode cX9_findBestProbe 0 = .ok (.iconst 0, 1) := by decide +kernel
theorem dX9_findBestProbe_1 : decode cX9_findBestProbe 1 = .ok (.istore_n 2, 1) := by decide +kernel
theorem dX9_findBestProbe_2 : decode cX9_findBestProbe 2 = .ok (.iload_n 2, 1) := by decide +kernel
theorem dX9_findBestProbe_3 : decode cX9_findBestProbe 3 = .ok (.aload_n 0, 1) := by decide +kernel
theorem dX9_findBestProbe_4 : decode cX9_findBestProbe 4 = .ok (.getfield 15, 3) := by decide +kernel
theorem dX9_findBestProbe_7 : decode cX9_findBestProbe 7 = .ok (.getfield 63, 3) := by decide +kernel
theorem dX9_findBestProbe_10 : decode cX9_findBestProbe 10 = .ok (.getfield 67, 3) := by decide +kernel
theorem dX9_findBestProbe_13 : decode cX9_findBestProbe 13 = .ok (.if_icmp .ge 69, 3) := by decide +kernel
theorem dX9_findBestProbe_16 : decode cX9_findBestProbe 16 = .ok (.aload_n 0, 1) := by decide +kernel
theorem dX9_findBestProbe_17 : decode cX9_findBestProbe 17 = .ok (.getfield 19, 3) := by decide +kernel
theorem dX9_findBestProbe_20 : decode cX9_findBestProbe 20 = .ok (.iload_n 2, 1) := by decide +kernel
theorem dX9_findBestProbe_21 : decode cX9_findBestProbe 21 = .ok (.iconst 0, 1) := by decide +kernel
theorem dX9_findBestProbe_22 : decode cX9_findBestProbe 22 = .ok (.iconst 0, 1) := by decide +kernel
theorem dX9_findBestProbe_23 : decode cX9_findBestProbe 23 = .ok (.aload_n 0, 1) := by decide +kernel
theorem dX9_findBestProbe_24 : decode cX9_findBestProbe 24 = .ok (.getfield 15, 3) := by decide +kernel
theorem dX9_findBestProbe_27 : decode cX9_findBestProbe 27 = .ok (.getfield 23, 3) := by decide +kernel
theorem dX9_findBestProbe_30 : decode cX9_findBestProbe 30 = .ok (.getfield 29, 3) := by decide +kernel
theorem dX9_findBestProbe_33 : decode cX9_findBestProbe 33 = .ok (.invokevirtual 35, 3) := by decide +kernel
theorem dX9_findBestProbe_36 : decode cX9_findBestProbe 36 = .ok (.iconst 0, 1) := by decide +kernel
theorem dX9_findBestProbe_37 : decode cX9_findBestProbe 37 = .ok (.istore_n 3, 1) := by decide +kernel
theorem dX9_findBestProbe_38 : decode cX9_findBestProbe 38 = .ok (.iload_n 3, 1) := by decide +kernel
theorem dX9_findBestProbe_39 : decode cX9_findBestProbe 39 = .ok (.bipush 20, 2) := by decide +kernel
theorem dX9_findBestProbe_41 : decode cX9_findBestProbe 41 = .ok (.if_icmp .ge 35, 3) := by decide +kernel
theorem dX9_findBestProbe_44 : decode cX9_findBestProbe 44 = .ok (.aload_n 0, 1) := by decide +kernel
theorem dX9_findBestProbe_45 : decode cX9_findBestProbe 45 = .ok (.getfield 19, 3) := by decide +kernel
theorem dX9_findBestProbe_48 : decode cX9_findBestProbe 48 = .ok (.iconst 1, 1) := by decide +kernel
theorem dX9_findBestProbe_49 : decode cX9_findBestProbe 49 = .ok (.invokevirtual 53, 3) := by decide +kernel
theorem dX9_findBestProbe_52 : decode cX9_findBestProbe 52 = .ok (.aload_n 0, 1) := by decide +kernel
theorem dX9_findBestProbe_53 : decode cX9_findBestProbe 53 = .ok (.getfield 11, 3) := by decide +kernel
theorem dX9_findBestProbe_56 : decode cX9_findBestProbe 56 = .ok (.iload_n 2, 1) := by decide +kernel
theorem dX9_findBestProbe_57 : decode cX9_findBestProbe 57 = .ok (.bipush 20, 2) := by decide +kernel
theorem dX9_findBestProbe_59 : decode cX9_findBestProbe 59 = .ok (.imul, 1) := by decide +kernel
theorem dX9_findBestProbe_60 : decode cX9_findBestProbe 60 = .ok (.iload_n 3, 1) := by decide +kernel
theorem dX9_findBestProbe_61 : decode cX9_findBestProbe 61 = .ok (.iadd, 1) := by decide +kernel
theorem dX9_findBestProbe_62 : decode cX9_findBestProbe 62 = .ok (.aload_n 0, 1) := by decide +kernel
theorem dX9_findBestProbe_63 : decode cX9_findBestProbe 63 = .ok (.getfield 19, 3) := by decide +kernel
theorem dX9_findBestProbe_66 : decode cX9_findBestProbe 66 = .ok (.getfield 60, 3) := by decide +kernel
theorem dX9_findBestProbe_69 : decode cX9_findBestProbe 69 = .ok (.iastore, 1) := by decide +kernel
theorem dX9_findBestProbe_70 : decode cX9_findBestProbe 70 = .ok (.iinc 3 1, 3) := by decide +kernel
theorem dX9_findBestProbe_73 : decode cX9_findBestProbe 73 = .ok (.goto (-35), 3) := by decide +kernel
theorem dX9_findBestProbe_76 : decode cX9_findBestProbe 76 = .ok (.iinc 2 1, 3) := by decide +kernel
theorem dX9_findBestProbe_79 : decode cX9_findBestProbe 79 = .ok (.goto (-77), 3) := by decide +kernel
theorem dX9_findBestProbe_82 : decode cX9_findBestProbe 82 = .ok (.aload_n 0, 1) := by decide +kernel
theorem dX9_findBestProbe_83 : decode cX9_findBestProbe 83 = .ok (.bipush 6, 2) := by decide +kernel
theorem dX9_findBestProbe_85 : decode cX9_findBestProbe 85 = .ok (.putfield 91, 3) := by decide +kernel
theorem dX9_findBestProbe_88 : decode cX9_findBestProbe 88 = .ok (.iconst 0, 1) := by decide +kernel
theorem dX9_findBestProbe_89 : decode cX9_findBestProbe 89 = .ok (.istore_n 2, 1) := by decide +kernel
theorem dX9_findBestProbe_90 : decode cX9_findBestProbe 90 = .ok (.iload_n 2, 1) := by decide +kernel
theorem dX9_findBestProbe_91 : decode cX9_findBestProbe 91 = .ok (.bipush 20, 2) := by decide +kernel
theorem dX9_findBestProbe_93 : decode cX9_findBestProbe 93 = .ok (.if_icmp .ge 36, 3) := by decide +kernel
theorem dX9_findBestProbe_96 : decode cX9_findBestProbe 96 = .ok (.aload_n 0, 1) := by decide +kernel
theorem dX9_findBestProbe_97 : decode cX9_findBestProbe 97 = .ok (.iload_n 1, 1) := by decide +kernel
theorem dX9_findBestProbe_98 : decode cX9_findBestProbe 98 = .ok (.iload_n 2, 1) := by decide +kernel
theorem dX9_findBestProbe_99 : decode cX9_findBestProbe 99 = .ok (.invokevirtual 94, 3) := by decide +kernel
theorem dX9_findBestProbe_102 : decode cX9_findBestProbe 102 = .ok (.istore_n 3, 1) := by decide +kernel
theorem dX9_findBestProbe_103 : decode cX9_findBestProbe 103 = .ok (.iload_n 3, 1) := by decide +kernel
theorem dX9_findBestProbe_104 : decode cX9_findBestProbe 104 = .ok (.aload_n 0, 1) := by decide +kernel
theorem dX9_findBestProbe_105 : decode cX9_findBestProbe 105 = .ok (.getfield 91, 3) := by decide +kernel
theorem dX9_findBestProbe_108 : decode cX9_findBestProbe 108 = .ok (.if_icmp .ge 15, 3) := by decide +kernel
theorem dX9_findBestProbe_111 : decode cX9_findBestProbe 111 = .ok (.aload_n 0, 1) := by decide +kernel
theorem dX9_findBestProbe_112 : decode cX9_findBestProbe 112 = .ok (.iload_n 3, 1) := by decide +kernel
theorem dX9_findBestProbe_113 : decode cX9_findBestProbe 113 = .ok (.putfield 91, 3) := by decide +kernel
theorem dX9_findBestProbe_116 : decode cX9_findBestProbe 116 = .ok (.aload_n 0, 1) := by decide +kernel
theorem dX9_findBestProbe_117 : decode cX9_findBestProbe 117 = .ok (.iload_n 2, 1) := by decide +kernel
theorem dX9_findBestProbe_118 : decode cX9_findBestProbe 118 = .ok (.iconst 1, 1) := by decide +kernel
theorem dX9_findBestProbe_119 : decode cX9_findBestProbe 119 = .ok (.iadd, 1) := by decide +kernel
theorem dX9_findBestProbe_120 : decode cX9_findBestProbe 120 = .ok (.putfield 98, 3) := by decide +kernel
theorem dX9_findBestProbe_123 : decode cX9_findBestProbe 123 = .ok (.iinc 2 1, 3) := by decide +kernel
theorem dX9_findBestProbe_126 : decode cX9_findBestProbe 126 = .ok (.goto (-36), 3) := by decide +kernel
theorem dX9_findBestProbe_129 : decode cX9_findBestProbe 129 = .ok (.return_, 1) := by decide +kernel
theorem dX9_mostAlike_0 : decode cX9_mostAlike 0 = .ok (.iconst 0, 1) := by decide +kernel
theorem dX9_mostAlike_1 : decode cX9_mostAlike 1 = .ok (.istore_n 3, 1) := by decide +kernel
theorem dX9_mostAlike_2 : decode cX9_mostAlike 2 = .ok (.iconst 0, 1) := by decide +kernel
theorem dX9_mostAlike_3 : decode cX9_mostAlike 3 = .ok (.istore 4, 2) := by decide +kernel
theorem dX9_mostAlike_5 : decode cX9_mostAlike 5 = .ok (.iload 4, 2) := by decide +kernel
theorem dX9_mostAlike_7 : decode cX9_mostAlike 7 = .ok (.aload_n 0, 1) := by decide +kernel
theorem dX9_mostAlike_8 : decode cX9_mostAlike 8 = .ok (.getfield 15, 3) := by decide +kernel
theorem dX9_mostAlike_11 : decode cX9_mostAlike 11 = .ok (.getfield 63, 3) := by decide +kernel
theorem dX9_mostAlike_14 : decode cX9_mostAlike 14 = .ok (.getfield 67, 3) := by decide +kernel
theorem dX9_mostAlike_17 : decode cX9_mostAlike 17 = .ok (.if_icmp .ge 109, 3) := by decide +kernel
theorem dX9_mostAlike_20 : decode cX9_mostAlike 20 = .ok (.iconst 0, 1) := by decide +kernel
theorem dX9_mostAlike_21 : decode cX9_mostAlike 21 = .ok (.istore 5, 2) := by decide +kernel
theorem dX9_mostAlike_23 : decode cX9_mostAlike 23 = .ok (.iconst 0, 1) := by decide +kernel
theorem dX9_mostAlike_24 : decode cX9_mostAlike 24 = .ok (.istore 6, 2) := by decide +kernel
theorem dX9_mostAlike_26 : decode cX9_mostAlike 26 = .ok (.iload 6, 2) := by decide +kernel
theorem dX9_mostAlike_28 : decode cX9_mostAlike 28 = .ok (.aload_n 0, 1) := by decide +kernel
theorem dX9_mostAlike_29 : decode cX9_mostAlike 29 = .ok (.getfield 15, 3) := by decide +kernel
theorem dX9_mostAlike_32 : decode cX9_mostAlike 32 = .ok (.getfield 63, 3) := by decide +kernel
theorem dX9_mostAlike_35 : decode cX9_mostAlike 35 = .ok (.getfield 67, 3) := by decide +kernel
theorem dX9_mostAlike_38 : decode cX9_mostAlike 38 = .ok (.if_icmp .ge 61, 3) := by decide +kernel
theorem dX9_mostAlike_41 : decode cX9_mostAlike 41 = .ok (.aload_n 0, 1) := by decide +kernel
theorem dX9_mostAlike_42 : decode cX9_mostAlike 42 = .ok (.getfield 11, 3) := by decide +kernel
theorem dX9_mostAlike_45 : decode cX9_mostAlike 45 = .ok (.iload 4, 2) := by decide +kernel
theorem dX9_mostAlike_47 : decode cX9_mostAlike 47 = .ok (.bipush 20, 2) := by decide +kernel
theorem dX9_mostAlike_49 : decode cX9_mostAlike 49 = .ok (.imul, 1) := by decide +kernel
theorem dX9_mostAlike_50 : decode cX9_mostAlike 50 = .ok (.iload_n 2, 1) := by decide +kernel
theorem dX9_mostAlike_51 : decode cX9_mostAlike 51 = .ok (.iadd, 1) := by decide +kernel
theorem dX9_mostAlike_52 : decode cX9_mostAlike 52 = .ok (.iaload, 1) := by decide +kernel
theorem dX9_mostAlike_53 : decode cX9_mostAlike 53 = .ok (.aload_n 0, 1) := by decide +kernel
theorem dX9_mostAlike_54 : decode cX9_mostAlike 54 = .ok (.getfield 11, 3) := by decide +kernel
theorem dX9_mostAlike_57 : decode cX9_mostAlike 57 = .ok (.iload 6, 2) := by decide +kernel
theorem dX9_mostAlike_59 : decode cX9_mostAlike 59 = .ok (.bipush 20, 2) := by decide +kernel
theorem dX9_mostAlike_61 : decode cX9_mostAlike 61 = .ok (.imul, 1) := by decide +kernel
theorem dX9_mostAlike_62 : decode cX9_mostAlike 62 = .ok (.iload_n 2, 1) := by decide +kernel
theorem dX9_mostAlike_63 : decode cX9_mostAlike 63 = .ok (.iadd, 1) := by decide +kernel
theorem dX9_mostAlike_64 : decode cX9_mostAlike 64 = .ok (.iaload, 1) := by decide +kernel
theorem dX9_mostAlike_65 : decode cX9_mostAlike 65 = .ok (.isub, 1) := by decide +kernel
theorem dX9_mostAlike_66 : decode cX9_mostAlike 66 = .ok (.istore 7, 2) := by decide +kernel
theorem dX9_mostAlike_68 : decode cX9_mostAlike 68 = .ok (.iload 5, 2) := by decide +kernel
theorem dX9_mostAlike_70 : decode cX9_mostAlike 70 = .ok (.iload 7, 2) := by decide +kernel
theorem dX9_mostAlike_72 : decode cX9_mostAlike 72 = .ok (.ifCond .ne 17, 3) := by decide +kernel
theorem dX9_mostAlike_75 : decode cX9_mostAlike 75 = .ok (.iload_n 1, 1) := by decide +kernel
theorem dX9_mostAlike_76 : decode cX9_mostAlike 76 = .ok (.iload 6, 2) := by decide +kernel
theorem dX9_mostAlike_78 : decode cX9_mostAlike 78 = .ok (.ishr, 1) := by decide +kernel
theorem dX9_mostAlike_79 : decode cX9_mostAlike 79 = .ok (.iconst 1, 1) := by decide +kernel
theorem dX9_mostAlike_80 : decode cX9_mostAlike 80 = .ok (.iand, 1) := by decide +kernel
theorem dX9_mostAlike_81 : decode cX9_mostAlike 81 = .ok (.iconst 1, 1) := by decide +kernel
theorem dX9_mostAlike_82 : decode cX9_mostAlike 82 = .ok (.if_icmp .ne 7, 3) := by decide +kernel
theorem dX9_mostAlike_85 : decode cX9_mostAlike 85 = .ok (.iconst 1, 1) := by decide +kernel
theorem dX9_mostAlike_86 : decode cX9_mostAlike 86 = .ok (.goto 4, 3) := by decide +kernel
theorem dX9_mostAlike_89 : decode cX9_mostAlike 89 = .ok (.iconst 0, 1) := by decide +kernel
theorem dX9_mostAlike_90 : decode cX9_mostAlike 90 = .ok (.iadd, 1) := by decide +kernel
theorem dX9_mostAlike_91 : decode cX9_mostAlike 91 = .ok (.istore 5, 2) := by decide +kernel
theorem dX9_mostAlike_93 : decode cX9_mostAlike 93 = .ok (.iinc 6 1, 3) := by decide +kernel
theorem dX9_mostAlike_96 : decode cX9_mostAlike 96 = .ok (.goto (-70), 3) := by decide +kernel
theorem dX9_mostAlike_99 : decode cX9_mostAlike 99 = .ok (.iload_n 1, 1) := by decide +kernel
theorem dX9_mostAlike_100 : decode cX9_mostAlike 100 = .ok (.iload 4, 2) := by decide +kernel
theorem dX9_mostAlike_102 : decode cX9_mostAlike 102 = .ok (.ishr, 1) := by decide +kernel
theorem dX9_mostAlike_103 : decode cX9_mostAlike 103 = .ok (.iconst 1, 1) := by decide +kernel
theorem dX9_mostAlike_104 : decode cX9_mostAlike 104 = .ok (.iand, 1) := by decide +kernel
theorem dX9_mostAlike_105 : decode cX9_mostAlike 105 = .ok (.iconst 1, 1) := by decide +kernel
theorem dX9_mostAlike_106 : decode cX9_mostAlike 106 = .ok (.if_icmp .ne 12, 3) := by decide +kernel
theorem dX9_mostAlike_109 : decode cX9_mostAlike 109 = .ok (.iload_n 3, 1) := by decide +kernel
theorem dX9_mostAlike_110 : decode cX9_mostAlike 110 = .ok (.iload 5, 2) := by decide +kernel
theorem dX9_mostAlike_112 : decode cX9_mostAlike 112 = .ok (.invokestatic 101, 3) := by decide +kernel
theorem dX9_mostAlike_115 : decode cX9_mostAlike 115 = .ok (.goto 4, 3) := by decide +kernel
theorem dX9_mostAlike_118 : decode cX9_mostAlike 118 = .ok (.iload_n 3, 1) := by decide +kernel
theorem dX9_mostAlike_119 : decode cX9_mostAlike 119 = .ok (.istore_n 3, 1) := by decide +kernel
theorem dX9_mostAlike_120 : decode cX9_mostAlike 120 = .ok (.iinc 4 1, 3) := by decide +kernel
theorem dX9_mostAlike_123 : decode cX9_mostAlike 123 = .ok (.goto (-118), 3) := by decide +kernel
theorem dX9_mostAlike_126 : decode cX9_mostAlike 126 = .ok (.iload_n 3, 1) := by decide +kernel
theorem dX9_mostAlike_127 : decode cX9_mostAlike 127 = .ok (.ireturn, 1) := by decide +kernel
theorem dX10_init_0 : decode cX10_init 0 = .ok (.aload_n 0, 1) := by decide +kernel
theorem dX10_init_1 : decode cX10_init 1 = .ok (.invokespecial 5, 3) := by decide +kernel
theorem dX10_init_4 : decode cX10_init 4 = .ok (.aload_n 0, 1) := by decide +kernel
theorem dX10_init_5 : decode cX10_init 5 = .ok (.getstatic 11, 3) := by decide +kernel
theorem dX10_init_8 : decode cX10_init 8 = .ok (.putfield 15, 3) := by decide +kernel
theorem dX10_init_11 : decode cX10_init 11 = .ok (.aload_n 0, 1) := by decide +kernel
theorem dX10_init_12 : decode cX10_init 12 = .ok (.bipush 64, 2) := by decide +kernel
theorem dX10_init_14 : decode cX10_init 14 = .ok (.newarray .long, 2) := by decide +kernel
theorem dX10_init_16 : decode cX10_init 16 = .ok (.putfield 18, 3) := by decide +kernel
theorem dX10_init_19 : decode cX10_init 19 = .ok (.aload_n 0, 1) := by decide +kernel
theorem dX10_init_20 : decode cX10_init 20 = .ok (.aload_n 1, 1) := by decide +kernel
theorem dX10_init_21 : decode cX10_init 21 = .ok (.putfield 22, 3) := by decide +kernel
theorem dX10_init_24 : decode cX10_init 24 = .ok (.return_, 1) := by decide +kernel
theorem dX10_nameOf_0 : decode cX10_nameOf 0 = .ok (.iload_n 0, 1) := by decide +kernel
theorem dX10_nameOf_1 : decode cX10_nameOf 1 = .ok (.tableswitch 78 0 8 #[51, 54, 57, 60, 63, 66, 69, 72, 75], 51) := by decide +kernel
theorem dX10_nameOf_52 : decode cX10_nameOf 52 = .ok (.ldc 26, 2) := by decide +kernel
theorem dX10_nameOf_54 : decode cX10_nameOf 54 = .ok (.areturn, 1) := by decide +kernel
theorem dX10_nameOf_55 : decode cX10_nameOf 55 = .ok (.ldc 28, 2) := by decide +kernel
theorem dX10_nameOf_57 : decode cX10_nameOf 57 = .ok (.areturn, 1) := by decide +kernel
theorem dX10_nameOf_58 : decode cX10_nameOf 58 = .ok (.ldc 30, 2) := by decide +kernel
theorem dX10_nameOf_60 : decode cX10_nameOf 60 = .ok (.areturn, 1) := by decide +kernel
theorem dX10_nameOf_61 : decode cX10_nameOf 61 = .ok (.ldc 32, 2) := by decide +kernel
theorem dX10_nameOf_63 : decode cX10_nameOf 63 = .ok (.areturn, 1) := by decide +kernel
theorem dX10_nameOf_64 : decode cX10_nameOf 64 = .ok (.ldc 34, 2) := by decide +kernel
theorem dX10_nameOf_66 : decode cX10_nameOf 66 = .ok (.areturn, 1) := by decide +kernel
theorem dX10_nameOf_67 : decode cX10_nameOf 67 = .ok (.ldc 36, 2) := by decide +kernel
theorem dX10_nameOf_69 : decode cX10_nameOf 69 = .ok (.areturn, 1) := by decide +kernel
theorem dX10_nameOf_70 : decode cX10_nameOf 70 = .ok (.ldc 38, 2) := by decide +kernel
theorem dX10_nameOf_72 : decode cX10_nameOf 72 = .ok (.areturn, 1) := by decide +kernel
theorem dX10_nameOf_73 : decode cX10_nameOf 73 = .ok (.ldc 40, 2) := by decide +kernel
theorem dX10_nameOf_75 : decode cX10_nameOf 75 = .ok (.areturn, 1) := by decide +kernel
theorem dX10_nameOf_76 : decode cX10_nameOf 76 = .ok (.ldc 42, 2) := by decide +kernel
theorem dX10_nameOf_78 : decode cX10_nameOf 78 = .ok (.areturn, 1) := by decide +kernel
theorem dX10_nameOf_79 : decode cX10_nameOf 79 = .ok (.ldc 44, 2) := by decide +kernel
theorem dX10_nameOf_81 : decode cX10_nameOf 81 = .ok (.areturn, 1) := by decide +kernel
theorem dX10_valueOf_0 : decode cX10_valueOf 0 = .ok (.bipush (-2), 2) := by decide +kernel
theorem dX10_valueOf_2 : decode cX10_valueOf 2 = .ok (.iload_n 1, 1) := by decide +kernel
theorem dX10_valueOf_3 : decode cX10_valueOf 3 = .ok (.isub, 1) := by decide +kernel
theorem dX10_valueOf_4 : decode cX10_valueOf 4 = .ok (.tableswitch 114 0 8 #[52, 58, 72, 78, 84, 90, 96, 102, 108], 52) := by decide +kernel
theorem dX10_valueOf_56 : decode cX10_valueOf 56 = .ok (.aload_n 0, 1) := by decide +kernel
theorem dX10_valueOf_57 : decode cX10_valueOf 57 = .ok (.getfield 46, 3) := by decide +kernel
theorem dX10_valueOf_60 : decode cX10_valueOf 60 = .ok (.i2l, 1) := by decide +kernel
theorem dX10_valueOf_61 : decode cX10_valueOf 61 = .ok (.lreturn, 1) := by decide +kernel
theorem dX10_valueOf_62 : decode cX10_valueOf 62 = .ok (.aload_n 0, 1) := by decide +kernel
theorem dX10_valueOf_63 : decode cX10_valueOf 63 = .ok (.getfield 22, 3) := by decide +kernel
theorem dX10_valueOf_66 : decode cX10_valueOf 66 = .ok (.getfield 49, 3) := by decide +kernel
theorem dX10_valueOf_69 : decode cX10_valueOf 69 = .ok (.aload_n 0, 1) := by decide +kernel
theorem dX10_valueOf_70 : decode cX10_valueOf 70 = .ok (.getfield 46, 3) := by decide +kernel
theorem dX10_valueOf_73 : decode cX10_valueOf 73 = .ok (.iaload, 1) := by decide +kernel
theorem dX10_valueOf_74 : decode cX10_valueOf 74 = .ok (.i2l, 1) := by decide +kernel
theorem dX10_valueOf_75 : decode cX10_valueOf 75 = .ok (.lreturn, 1) := by decide +kernel
theorem dX10_valueOf_76 : decode cX10_valueOf 76 = .ok (.aload_n 0, 1) := by decide +kernel
theorem dX10_valueOf_77 : decode cX10_valueOf 77 = .ok (.getfield 53, 3) := by decide +kernel
theorem dX10_valueOf_80 : decode cX10_valueOf 80 = .ok (.i2l, 1) := by decide +kernel
theorem dX10_valueOf_81 : decode cX10_valueOf 81 = .ok (.lreturn, 1) := by decide +kernel
theorem dX10_valueOf_82 : decode cX10_valueOf 82 = .ok (.aload_n 0, 1) := by decide +kernel
theorem dX10_valueOf_83 : decode cX10_valueOf 83 = .ok (.getfield 55, 3) := by decide +kernel
theorem dX10_valueOf_86 : decode cX10_valueOf 86 = .ok (.i2l, 1) := by decide +kernel
theorem dX10_valueOf_87 : decode cX10_valueOf 87 = .ok (.lreturn, 1) := by decide +kernel
theorem dX10_valueOf_88 : decode cX10_valueOf 88 = .ok (.aload_n 0, 1) := by decide +kernel
theorem dX10_valueOf_89 : decode cX10_valueOf 89 = .ok (.getfield 57, 3) := by decide +kernel
theorem dX10_valueOf_92 : decode cX10_valueOf 92 = .ok (.i2l, 1) := by decide +kernel
theorem dX10_valueOf_93 : decode cX10_valueOf 93 = .ok (.lreturn, 1) := by decide +kernel
theorem dX10_valueOf_94 : decode cX10_valueOf 94 = .ok (.aload_n 0, 1) := by decide +kernel
theorem dX10_valueOf_95 : decode cX10_valueOf 95 = .ok (.getfield 59, 3) := by decide +kernel
theorem dX10_valueOf_98 : decode cX10_valueOf 98 = .ok (.i2l, 1) := by decide +kernel
theorem dX10_valueOf_99 : decode cX10_valueOf 99 = .ok (.lreturn, 1) := by decide +kernel
theorem dX10_valueOf_100 : decode cX10_valueOf 100 = .ok (.aload_n 0, 1) := by decide +kernel
theorem dX10_valueOf_101 : decode cX10_valueOf 101 = .ok (.getfield 61, 3) := by decide +kernel
theorem dX10_valueOf_104 : decode cX10_valueOf 104 = .ok (.i2l, 1) := by decide +kernel
theorem dX10_valueOf_105 : decode cX10_valueOf 105 = .ok (.lreturn, 1) := by decide +kernel
theorem dX10_valueOf_106 : decode cX10_valueOf 106 = .ok (.aload_n 0, 1) := by decide +kernel
theorem dX10_valueOf_107 : decode cX10_valueOf 107 = .ok (.getfield 63, 3) := by decide +kernel
theorem dX10_valueOf_110 : decode cX10_valueOf 110 = .ok (.i2l, 1) := by decide +kernel
theorem dX10_valueOf_111 : decode cX10_valueOf 111 = .ok (.lreturn, 1) := by decide +kernel
theorem dX10_valueOf_112 : decode cX10_valueOf 112 = .ok (.aload_n 0, 1) := by decide +kernel
theorem dX10_valueOf_113 : decode cX10_valueOf 113 = .ok (.getfield 65, 3) := by decide +kernel
theorem dX10_valueOf_116 : decode cX10_valueOf 116 = .ok (.i2l, 1) := by decide +kernel
theorem dX10_valueOf_117 : decode cX10_valueOf 117 = .ok (.lreturn, 1) := by decide +kernel
theorem dX10_valueOf_118 : decode cX10_valueOf 118 = .ok (.aload_n 0, 1) := by decide +kernel
theorem dX10_valueOf_119 : decode cX10_valueOf 119 = .ok (.getfield 57, 3) := by decide +kernel
theorem dX10_valueOf_122 : decode cX10_valueOf 122 = .ok (.aload_n 0, 1) := by decide +kernel
theorem dX10_valueOf_123 : decode cX10_valueOf 123 = .ok (.getfield 22, 3) := by decide +kernel
theorem dX10_valueOf_126 : decode cX10_valueOf 126 = .ok (.getfield 67, 3) := by decide +kernel
theorem dX10_valueOf_129 : decode cX10_valueOf 129 = .ok (.if_icmp .lt 7, 3) := by decide +kernel
theorem dX10_valueOf_132 : decode cX10_valueOf 132 = .ok (.lconst 1, 1) := by decide +kernel
theorem dX10_valueOf_133 : decode cX10_valueOf 133 = .ok (.goto 4, 3) := by decide +kernel
theorem dX10_valueOf_136 : decode cX10_valueOf 136 = .ok (.lconst 0, 1) := by decide +kernel
theorem dX10_valueOf_137 : decode cX10_valueOf 137 = .ok (.lreturn, 1) := by decide +kernel
set_option maxRecDepth 20000 in
theorem ggX10_heatIn_X8_heatIn : GoodIn wsX10_heatIn wsX8_heatIn := goodIn_r _ [7, 8, 9, 10, 11, 24, 25, 26, 27, 28, 29, 30, 31, 32, 33, 34, 35, 36, 37, 38, 39, 40, 41, 42] (by decide +kernel) (by decide +kernel)
set_option maxRecDepth 20000 in
theorem gX10_heatIn_X8_heatIn : GoodIn wsX10_heatIn (wsV RX10 73 RX8 yX8_heatIn wsX8_heatIn) := goodIn_app (goodIn_of _ (by decide +kernel)) ggX10_heatIn_X8_heatIn
theorem dX10_heatIn_0 : decode cX10_heatIn 0 = .ok (.aload_n 0, 1) := by decide +kernel
theorem dX10_heatIn_1 : decode cX10_heatIn 1 = .ok (.getfield 69, 3) := by decide +kernel
theorem dX10_heatIn_4 : decode cX10_heatIn 4 = .ok (.ifCond .eq 7, 3) := by decide +kernel
theorem dX10_heatIn_7 : decode cX10_heatIn 7 = .ok (.iconst 0, 1) := by decide +kernel
theorem dX10_heatIn_8 : decode cX10_heatIn 8 = .ok (.goto 11, 3) := by decide +kernel
theorem dX10_heatIn_11 : decode cX10_heatIn 11 = .ok (.aload_n 0, 1) := by decide +kernel
theorem dX10_heatIn_12 : decode cX10_heatIn 12 = .ok (.getfield 22, 3) := by decide +kernel
theorem dX10_heatIn_15 : decode cX10_heatIn 15 = .ok (.iload_n 1, 1) := by decide +kernel
theorem dX10_heatIn_16 : decode cX10_heatIn 16 = .ok (.invokevirtual 73, 3) := by decide +kernel
theorem dX10_heatIn_19 : decode cX10_heatIn 19 = .ok (.ireturn, 1) := by decide +kernel
theorem dX10_suppose_0 : decode cX10_suppose 0 = .ok (.aload_n 0, 1) := by decide +kernel
theorem dX10_suppose_1 : decode cX10_suppose 1 = .ok (.iload_n 1, 1) := by decide +kernel
theorem dX10_suppose_2 : decode cX10_suppose 2 = .ok (.putfield 46, 3) := by decide +kernel
theorem dX10_suppose_5 : decode cX10_suppose 5 = .ok (.aload_n 0, 1) := by decide +kernel
theorem dX10_suppose_6 : decode cX10_suppose 6 = .ok (.iload_n 2, 1) := by decide +kernel
theorem dX10_suppose_7 : decode cX10_suppose 7 = .ok (.putfield 55, 3) := by decide +kernel
theorem dX10_suppose_10 : decode cX10_suppose 10 = .ok (.aload_n 0, 1) := by decide +kernel
theorem dX10_suppose_11 : decode cX10_suppose 11 = .ok (.iload_n 3, 1) := by decide +kernel
theorem dX10_suppose_12 : decode cX10_suppose 12 = .ok (.putfield 57, 3) := by decide +kernel
theorem dX10_suppose_15 : decode cX10_suppose 15 = .ok (.aload_n 0, 1) := by decide +kernel
theorem dX10_suppose_16 : decode cX10_suppose 16 = .ok (.iconst 0, 1) := by decide +kernel
theorem dX10_suppose_17 : decode cX10_suppose 17 = .ok (.putfield 53, 3) := by decide +kernel
theorem dX10_suppose_20 : decode cX10_suppose 20 = .ok (.aload_n 0, 1) := by decide +kernel
theorem dX10_suppose_21 : decode cX10_suppose 21 = .ok (.iload 4, 2) := by decide +kernel
theorem dX10_suppose_23 : decode cX10_suppose 23 = .ok (.putfield 61, 3) := by decide +kernel
theorem dX10_suppose_26 : decode cX10_suppose 26 = .ok (.aload_n 0, 1) := by decide +kernel
theorem dX10_suppose_27 : decode cX10_suppose 27 = .ok (.iconst 0, 1) := by decide +kernel
theorem dX10_suppose_28 : decode cX10_suppose 28 = .ok (.putfield 63, 3) := by decide +kernel
theorem dX10_suppose_31 : decode cX10_suppose 31 = .ok (.aload_n 0, 1) := by decide +kernel
theorem dX10_suppose_32 : decode cX10_suppose 32 = .ok (.iconst 1, 1) := by decide +kernel
theorem dX10_suppose_33 : decode cX10_suppose 33 = .ok (.putfield 65, 3) := by decide +kernel
theorem dX10_suppose_36 : decode cX10_suppose 36 = .ok (.return_, 1) := by decide +kernel
set_option maxRecDepth 20000 in
theorem ggX10_see_X5_isAtPlace : GoodIn wsX10_see wsX5_isAtPlace := goodIn_r _ [12, 13, 42, 43, 44, 45, 46, 47, 48, 49, 50] (by decide +kernel) (by decide +kernel)
set_option maxRecDepth 20000 in
theorem gX10_see_X5_isAtPlace : GoodIn wsX10_see (wsV RX10 86 RX5 yX5_isAtPlace wsX5_isAtPlace) := goodIn_app (goodIn_of _ (by decide +kernel)) ggX10_see_X5_isAtPlace
set_option maxRecDepth 20000 in
theorem ggX10_see_X5_howManyHeld : GoodIn wsX10_see wsX5_howManyHeld := goodIn_r _ [17, 18, 19, 20, 11, 21, 22, 23, 24, 25, 26, 27, 28, 29, 42, 43, 44, 45, 46, 47, 48, 49, 50] (by decide +kernel) (by decide +kernel)
set_option maxRecDepth 20000 in
theorem gX10_see_X5_howManyHeld : GoodIn wsX10_see (wsV RX10 90 RX5 yX5_howManyHeld wsX5_howManyHeld) := goodIn_app (goodIn_of _ (by decide +kernel)) ggX10_see_X5_howManyHeld
theorem dX10_see_0 : decode cX10_see 0 = .ok (.aload_n 0, 1) := by decide +kernel
theorem dX10_see_1 : decode cX10_see 1 = .ok (.iload_n 2, 1) := by decide +kernel
theorem dX10_see_2 : decode cX10_see 2 = .ok (.putfield 46, 3) := by decide +kernel
theorem dX10_see_5 : decode cX10_see 5 = .ok (.aload_n 0, 1) := by decide +kernel
theorem dX10_see_6 : decode cX10_see 6 = .ok (.iload_n 3, 1) := by decide +kernel
theorem dX10_see_7 : decode cX10_see 7 = .ok (.putfield 55, 3) := by decide +kernel
theorem dX10_see_10 : decode cX10_see 10 = .ok (.aload_n 0, 1) := by decide +kernel
theorem dX10_see_11 : decode cX10_see 11 = .ok (.aload_n 1, 1) := by decide +kernel
theorem dX10_see_12 : decode cX10_see 12 = .ok (.getfield 77, 3) := by decide +kernel
theorem dX10_see_15 : decode cX10_see 15 = .ok (.iload_n 3, 1) := by decide +kernel
theorem dX10_see_16 : decode cX10_see 16 = .ok (.iaload, 1) := by decide +kernel
theorem dX10_see_17 : decode cX10_see 17 = .ok (.putfield 57, 3) := by decide +kernel
theorem dX10_see_20 : decode cX10_see 20 = .ok (.aload_n 0, 1) := by decide +kernel
theorem dX10_see_21 : decode cX10_see 21 = .ok (.aload_n 1, 1) := by decide +kernel
theorem dX10_see_22 : decode cX10_see 22 = .ok (.getfield 82, 3) := by decide +kernel
theorem dX10_see_25 : decode cX10_see 25 = .ok (.iload_n 2, 1) := by decide +kernel
theorem dX10_see_26 : decode cX10_see 26 = .ok (.iaload, 1) := by decide +kernel
theorem dX10_see_27 : decode cX10_see 27 = .ok (.putfield 53, 3) := by decide +kernel
theorem dX10_see_30 : decode cX10_see 30 = .ok (.aload_n 0, 1) := by decide +kernel
theorem dX10_see_31 : decode cX10_see 31 = .ok (.aload_n 1, 1) := by decide +kernel
theorem dX10_see_32 : decode cX10_see 32 = .ok (.getfield 85, 3) := by decide +kernel
theorem dX10_see_35 : decode cX10_see 35 = .ok (.putfield 61, 3) := by decide +kernel
theorem dX10_see_38 : decode cX10_see 38 = .ok (.aload_n 0, 1) := by decide +kernel
theorem dX10_see_39 : decode cX10_see 39 = .ok (.aload_n 1, 1) := by decide +kernel
theorem dX10_see_40 : decode cX10_see 40 = .ok (.iload_n 2, 1) := by decide +kernel
theorem dX10_see_41 : decode cX10_see 41 = .ok (.invokevirtual 86, 3) := by decide +kernel
theorem dX10_see_44 : decode cX10_see 44 = .ok (.ifCond .eq 7, 3) := by decide +kernel
theorem dX10_see_47 : decode cX10_see 47 = .ok (.iconst 0, 1) := by decide +kernel
theorem dX10_see_48 : decode cX10_see 48 = .ok (.goto 4, 3) := by decide +kernel
theorem dX10_see_51 : decode cX10_see 51 = .ok (.iconst 1, 1) := by decide +kernel
theorem dX10_see_52 : decode cX10_see 52 = .ok (.putfield 63, 3) := by decide +kernel
theorem dX10_see_55 : decode cX10_see 55 = .ok (.aload_n 0, 1) := by decide +kernel
theorem dX10_see_56 : decode cX10_see 56 = .ok (.aload_n 1, 1) := by decide +kernel
theorem dX10_see_57 : decode cX10_see 57 = .ok (.iload_n 2, 1) := by decide +kernel
theorem dX10_see_58 : decode cX10_see 58 = .ok (.invokevirtual 90, 3) := by decide +kernel
theorem dX10_see_61 : decode cX10_see 61 = .ok (.putfield 65, 3) := by decide +kernel
theorem dX10_see_64 : decode cX10_see 64 = .ok (.return_, 1) := by decide +kernel
set_option maxRecDepth 20000 in
theorem ggX10_holdFor_X10_turns : GoodIn wsX10_holdFor wsX10_turns := goodIn_r _ [14, 9, 15, 16, 7, 8, 6, 17, 18, 19, 4, 20, 21, 22, 23, 24, 25, 26, 13, 27, 28, 29, 30, 31, 32, 33, 34, 35, 36, 37, 38, 39, 40, 41, 42, 43, 44, 45, 46, 47, 1, 48, 49, 50, 51, 52, 53, 54, 55, 56, 57, 58, 59, 60, 61, 62, 63, 64, 65, 66, 67, 68, 69, 70, 71, 72, 73, 74, 75, 76, 77, 78, 79, 80, 81, 82, 83] (by decide +kernel) (by decide +kernel)
set_option maxRecDepth 20000 in
theorem gX10_holdFor_X10_turns : GoodIn wsX10_holdFor (wsV RX10 93 RX10 yX10_turns wsX10_turns) := goodIn_app (goodIn_of _ (by decide +kernel)) ggX10_holdFor_X10_turns
theorem dX10_holdFor_0 : decode cX10_holdFor 0 = .ok (.iconst 0, 1) := by decide +kernel
theorem dX10_holdFor_1 : decode cX10_holdFor 1 = .ok (.istore_n 2, 1) := by decide +kernel
theorem dX10_holdFor_2 : decode cX10_holdFor 2 = .ok (.iload_n 2, 1) := by decide +kernel
theorem dX10_holdFor_3 : decode cX10_holdFor 3 = .ok (.iload_n 1, 1) := by decide +kernel
theorem dX10_holdFor_4 : decode cX10_holdFor 4 = .ok (.if_icmp .ge 70, 3) := by decide +kernel
theorem dX10_holdFor_7 : decode cX10_holdFor 7 = .ok (.aload_n 0, 1) := by decide +kernel
theorem dX10_holdFor_8 : decode cX10_holdFor 8 = .ok (.sipush 999, 3) := by decide +kernel
theorem dX10_holdFor_11 : decode cX10_holdFor 11 = .ok (.aload_n 0, 1) := by decide +kernel
theorem dX10_holdFor_12 : decode cX10_holdFor 12 = .ok (.getfield 57, 3) := by decide +kernel
theorem dX10_holdFor_15 : decode cX10_holdFor 15 = .ok (.aload_n 0, 1) := by decide +kernel
theorem dX10_holdFor_16 : decode cX10_holdFor 16 = .ok (.invokevirtual 93, 3) := by decide +kernel
theorem dX10_holdFor_19 : decode cX10_holdFor 19 = .ok (.iadd, 1) := by decide +kernel
theorem dX10_holdFor_20 : decode cX10_holdFor 20 = .ok (.invokestatic 97, 3) := by decide +kernel
theorem dX10_holdFor_23 : decode cX10_holdFor 23 = .ok (.putfield 57, 3) := by decide +kernel
theorem dX10_holdFor_26 : decode cX10_holdFor 26 = .ok (.aload_n 0, 1) := by decide +kernel
theorem dX10_holdFor_27 : decode cX10_holdFor 27 = .ok (.bipush 99, 2) := by decide +kernel
theorem dX10_holdFor_29 : decode cX10_holdFor 29 = .ok (.aload_n 0, 1) := by decide +kernel
theorem dX10_holdFor_30 : decode cX10_holdFor 30 = .ok (.getfield 53, 3) := by decide +kernel
theorem dX10_holdFor_33 : decode cX10_holdFor 33 = .ok (.aload_n 0, 1) := by decide +kernel
theorem dX10_holdFor_34 : decode cX10_holdFor 34 = .ok (.getfield 22, 3) := by decide +kernel
theorem dX10_holdFor_37 : decode cX10_holdFor 37 = .ok (.getfield 103, 3) := by decide +kernel
theorem dX10_holdFor_40 : decode cX10_holdFor 40 = .ok (.aload_n 0, 1) := by decide +kernel
theorem dX10_holdFor_41 : decode cX10_holdFor 41 = .ok (.getfield 46, 3) := by decide +kernel
theorem dX10_holdFor_44 : decode cX10_holdFor 44 = .ok (.iaload, 1) := by decide +kernel
theorem dX10_holdFor_45 : decode cX10_holdFor 45 = .ok (.iadd, 1) := by decide +kernel
theorem dX10_holdFor_46 : decode cX10_holdFor 46 = .ok (.invokestatic 97, 3) := by decide +kernel
theorem dX10_holdFor_49 : decode cX10_holdFor 49 = .ok (.putfield 53, 3) := by decide +kernel
theorem dX10_holdFor_52 : decode cX10_holdFor 52 = .ok (.aload_n 0, 1) := by decide +kernel
theorem dX10_holdFor_53 : decode cX10_holdFor 53 = .ok (.sipush 999, 3) := by decide +kernel
theorem dX10_holdFor_56 : decode cX10_holdFor 56 = .ok (.aload_n 0, 1) := by decide +kernel
theorem dX10_holdFor_57 : decode cX10_holdFor 57 = .ok (.getfield 61, 3) := by decide +kernel
theorem dX10_holdFor_60 : decode cX10_holdFor 60 = .ok (.iconst 1, 1) := by decide +kernel
theorem dX10_holdFor_61 : decode cX10_holdFor 61 = .ok (.iadd, 1) := by decide +kernel
theorem dX10_holdFor_62 : decode cX10_holdFor 62 = .ok (.invokestatic 97, 3) := by decide +kernel
theorem dX10_holdFor_65 : decode cX10_holdFor 65 = .ok (.putfield 61, 3) := by decide +kernel
theorem dX10_holdFor_68 : decode cX10_holdFor 68 = .ok (.iinc 2 1, 3) := by decide +kernel
theorem dX10_holdFor_71 : decode cX10_holdFor 71 = .ok (.goto (-69), 3) := by decide +kernel
theorem dX10_holdFor_74 : decode cX10_holdFor 74 = .ok (.return_, 1) := by decide +kernel
theorem dX10_restAnHour_0 : decode cX10_restAnHour 0 = .ok (.aload_n 0, 1) := by decide +kernel
theorem dX10_restAnHour_1 : decode cX10_restAnHour 1 = .ok (.iconst 0, 1) := by decide +kernel
theorem dX10_restAnHour_2 : decode cX10_restAnHour 2 = .ok (.aload_n 0, 1) := by decide +kernel
theorem dX10_restAnHour_3 : decode cX10_restAnHour 3 = .ok (.getfield 53, 3) := by decide +kernel
theorem dX10_restAnHour_6 : decode cX10_restAnHour 6 = .ok (.iconst 1, 1) := by decide +kernel
theorem dX10_restAnHour_7 : decode cX10_restAnHour 7 = .ok (.isub, 1) := by decide +kernel
theorem dX10_restAnHour_8 : decode cX10_restAnHour 8 = .ok (.invokestatic 106, 3) := by decide +kernel
theorem dX10_restAnHour_11 : decode cX10_restAnHour 11 = .ok (.putfield 53, 3) := by decide +kernel
theorem dX10_restAnHour_14 : decode cX10_restAnHour 14 = .ok (.aload_n 0, 1) := by decide +kernel
theorem dX10_restAnHour_15 : decode cX10_restAnHour 15 = .ok (.sipush 999, 3) := by decide +kernel
theorem dX10_restAnHour_18 : decode cX10_restAnHour 18 = .ok (.aload_n 0, 1) := by decide +kernel
theorem dX10_restAnHour_19 : decode cX10_restAnHour 19 = .ok (.getfield 61, 3) := by decide +kernel
theorem dX10_restAnHour_22 : decode cX10_restAnHour 22 = .ok (.iconst 1, 1) := by decide +kernel
theorem dX10_restAnHour_23 : decode cX10_restAnHour 23 = .ok (.iadd, 1) := by decide +kernel
theorem dX10_restAnHour_24 : decode cX10_restAnHour 24 = .ok (.invokestatic 97, 3) := by decide +kernel
theorem dX10_restAnHour_27 : decode cX10_restAnHour 27 = .ok (.putfield 61, 3) := by decide +kernel
theorem dX10_restAnHour_30 : decode cX10_restAnHour 30 = .ok (.return_, 1) := by decide +kernel
set_option maxRecDepth 20000 in
theorem ggX10_turns_X10_heatIn : GoodIn wsX10_turns wsX10_heatIn := goodIn_r _ [19, 20, 4, 21, 22, 23, 24, 25, 26, 27, 28, 29, 46, 47, 48, 49, 50, 51, 52, 53, 54, 55, 56, 57, 58, 59, 60, 61, 62, 63, 64, 65, 66, 67, 68, 69, 70, 71, 72, 73, 74, 75, 76] (by decide +kernel) (by decide +kernel)
set_option maxRecDepth 20000 in
theorem gX10_turns_X10_heatIn : GoodIn wsX10_turns (wsV RX10 109 RX10 yX10_heatIn wsX10_heatIn) := goodIn_app (goodIn_of _ (by decide +kernel)) ggX10_turns_X10_heatIn
set_option maxRecDepth 20000 in
theorem ggX10_turns_X10_sumByRule : GoodIn wsX10_turns wsX10_sumByRule := goodIn_r _ [33, 3, 34, 35, 36, 37, 18, 38, 5, 4, 6, 39, 40, 2, 1, 41, 42, 43, 44, 45, 46, 47, 48, 49, 50, 51, 52, 53, 54, 55, 56, 57, 58, 59, 60, 61, 62, 63, 64, 65, 66, 67, 68, 69, 70, 71, 72, 73, 74, 75, 76] (by decide +kernel) (by decide +kernel)
set_option maxRecDepth 20000 in
theorem gX10_turns_X10_sumByRule : GoodIn wsX10_turns (wsV RX10 112 RX10 yX10_sumByRule wsX10_sumByRule) := goodIn_app (goodIn_of _ (by decide +kernel)) ggX10_turns_X10_sumByRule
theorem dX10_turns_0 : decode cX10_turns 0 = .ok (.aload_n 0, 1) := by decide +kernel
theorem dX10_turns_1 : decode cX10_turns 1 = .ok (.aload_n 0, 1) := by decide +kernel
theorem dX10_turns_2 : decode cX10_turns 2 = .ok (.aload_n 0, 1) := by decide +kernel
theorem dX10_turns_3 : decode cX10_turns 3 = .ok (.getfield 61, 3) := by decide +kernel
theorem dX10_turns_6 : decode cX10_turns 6 = .ok (.invokevirtual 109, 3) := by decide +kernel
theorem dX10_turns_9 : decode cX10_turns 9 = .ok (.putfield 59, 3) := by decide +kernel
theorem dX10_turns_12 : decode cX10_turns 12 = .ok (.aload_n 0, 1) := by decide +kernel
theorem dX10_turns_13 : decode cX10_turns 13 = .ok (.getfield 15, 3) := by decide +kernel
theorem dX10_turns_16 : decode cX10_turns 16 = .ok (.arraylength, 1) := by decide +kernel
theorem dX10_turns_17 : decode cX10_turns 17 = .ok (.ifCond .ne 28, 3) := by decide +kernel
theorem dX10_turns_20 : decode cX10_turns 20 = .ok (.aload_n 0, 1) := by decide +kernel
theorem dX10_turns_21 : decode cX10_turns 21 = .ok (.getfield 22, 3) := by decide +kernel
theorem dX10_turns_24 : decode cX10_turns 24 = .ok (.getfield 49, 3) := by decide +kernel
theorem dX10_turns_27 : decode cX10_turns 27 = .ok (.aload_n 0, 1) := by decide +kernel
theorem dX10_turns_28 : decode cX10_turns 28 = .ok (.getfield 46, 3) := by decide +kernel
theorem dX10_turns_31 : decode cX10_turns 31 = .ok (.iaload, 1) := by decide +kernel
theorem dX10_turns_32 : decode cX10_turns 32 = .ok (.aload_n 0, 1) := by decide +kernel
theorem dX10_turns_33 : decode cX10_turns 33 = .ok (.getfield 53, 3) := by decide +kernel
theorem dX10_turns_36 : decode cX10_turns 36 = .ok (.iconst 4, 1) := by decide +kernel
theorem dX10_turns_37 : decode cX10_turns 37 = .ok (.idiv, 1) := by decide +kernel
theorem dX10_turns_38 : decode cX10_turns 38 = .ok (.iadd, 1) := by decide +kernel
theorem dX10_turns_39 : decode cX10_turns 39 = .ok (.aload_n 0, 1) := by decide +kernel
theorem dX10_turns_40 : decode cX10_turns 40 = .ok (.getfield 59, 3) := by decide +kernel
theorem dX10_turns_43 : decode cX10_turns 43 = .ok (.iadd, 1) := by decide +kernel
theorem dX10_turns_44 : decode cX10_turns 44 = .ok (.ireturn, 1) := by decide +kernel
theorem dX10_turns_45 : decode cX10_turns 45 = .ok (.lconst 0, 1) := by decide +kernel
theorem dX10_turns_46 : decode cX10_turns 46 = .ok (.ldc2_w 110, 3) := by decide +kernel
theorem dX10_turns_49 : decode cX10_turns 49 = .ok (.aload_n 0, 1) := by decide +kernel
theorem dX10_turns_50 : decode cX10_turns 50 = .ok (.invokevirtual 112, 3) := by decide +kernel
theorem dX10_turns_53 : decode cX10_turns 53 = .ok (.invokestatic 116, 3) := by decide +kernel
theorem dX10_turns_56 : decode cX10_turns 56 = .ok (.invokestatic 119, 3) := by decide +kernel
theorem dX10_turns_59 : decode cX10_turns 59 = .ok (.l2i, 1) := by decide +kernel
theorem dX10_turns_60 : decode cX10_turns 60 = .ok (.ireturn, 1) := by decide +kernel
set_option maxRecDepth 20000 in
theorem ggX10_sumByRule_X10_valueOf : GoodIn wsX10_sumByRule wsX10_valueOf := goodIn_r _ [7, 8, 9, 10, 11, 12, 13, 14, 15, 16, 20, 21, 22, 23, 24, 25, 26, 27, 28, 29, 30, 31, 32, 33, 34, 35, 36, 37, 38, 39, 40, 41, 42, 43, 44, 45, 46, 47, 48, 49, 50] (by decide +kernel) (by decide +kernel)
set_option maxRecDepth 20000 in
theorem gX10_sumByRule_X10_valueOf : GoodIn wsX10_sumByRule (wsV RX10 121 RX10 yX10_valueOf wsX10_valueOf) := goodIn_app (goodIn_of _ (by decide +kernel)) ggX10_sumByRule_X10_valueOf
set_option maxRecDepth 20000 in
theorem ggX10_sumByRule_X10_joined : GoodIn wsX10_sumByRule wsX10_joined := goodIn_r _ [19] (by decide +kernel) (by decide +kernel)
set_option maxRecDepth 20000 in
theorem gX10_sumByRule_X10_joined : GoodIn wsX10_sumByRule (va_wsS RX10 125 yX10_joined wsX10_joined) := goodIn_app (goodIn_of _ (by decide +kernel)) ggX10_sumByRule_X10_joined
theorem dX10_sumByRule_0 : decode cX10_sumByRule 0 = .ok (.iconst (-1), 1) := by decide +kernel
theorem dX10_sumByRule_1 : decode cX10_sumByRule 1 = .ok (.istore_n 1, 1) := by decide +kernel
theorem dX10_sumByRule_2 : decode cX10_sumByRule 2 = .ok (.iconst 0, 1) := by decide +kernel
theorem dX10_sumByRule_3 : decode cX10_sumByRule 3 = .ok (.istore_n 2, 1) := by decide +kernel
theorem dX10_sumByRule_4 : decode cX10_sumByRule 4 = .ok (.iload_n 2, 1) := by decide +kernel
theorem dX10_sumByRule_5 : decode cX10_sumByRule 5 = .ok (.aload_n 0, 1) := by decide +kernel
theorem dX10_sumByRule_6 : decode cX10_sumByRule 6 = .ok (.getfield 15, 3) := by decide +kernel
theorem dX10_sumByRule_9 : decode cX10_sumByRule 9 = .ok (.arraylength, 1) := by decide +kernel
theorem dX10_sumByRule_10 : decode cX10_sumByRule 10 = .ok (.if_icmp .ge 166, 3) := by decide +kernel
theorem dX10_sumByRule_13 : decode cX10_sumByRule 13 = .ok (.aload_n 0, 1) := by decide +kernel
theorem dX10_sumByRule_14 : decode cX10_sumByRule 14 = .ok (.getfield 15, 3) := by decide +kernel
theorem dX10_sumByRule_17 : decode cX10_sumByRule 17 = .ok (.iload_n 2, 1) := by decide +kernel
theorem dX10_sumByRule_18 : decode cX10_sumByRule 18 = .ok (.iaload, 1) := by decide +kernel
theorem dX10_sumByRule_19 : decode cX10_sumByRule 19 = .ok (.istore_n 3, 1) := by decide +kernel
theorem dX10_sumByRule_20 : decode cX10_sumByRule 20 = .ok (.iload_n 3, 1) := by decide +kernel
theorem dX10_sumByRule_21 : decode cX10_sumByRule 21 = .ok (.bipush (-11), 2) := by decide +kernel
theorem dX10_sumByRule_23 : decode cX10_sumByRule 23 = .ok (.if_icmp .lt 39, 3) := by decide +kernel
theorem dX10_sumByRule_26 : decode cX10_sumByRule 26 = .ok (.iload_n 1, 1) := by decide +kernel
theorem dX10_sumByRule_27 : decode cX10_sumByRule 27 = .ok (.iconst 1, 1) := by decide +kernel
theorem dX10_sumByRule_28 : decode cX10_sumByRule 28 = .ok (.iadd, 1) := by decide +kernel
theorem dX10_sumByRule_29 : decode cX10_sumByRule 29 = .ok (.bipush 64, 2) := by decide +kernel
theorem dX10_sumByRule_31 : decode cX10_sumByRule 31 = .ok (.if_icmp .lt 5, 3) := by decide +kernel
theorem dX10_sumByRule_34 : decode cX10_sumByRule 34 = .ok (.lconst 0, 1) := by decide +kernel
theorem dX10_sumByRule_35 : decode cX10_sumByRule 35 = .ok (.lreturn, 1) := by decide +kernel
theorem dX10_sumByRule_36 : decode cX10_sumByRule 36 = .ok (.iinc 1 1, 3) := by decide +kernel
theorem dX10_sumByRule_39 : decode cX10_sumByRule 39 = .ok (.aload_n 0, 1) := by decide +kernel
theorem dX10_sumByRule_40 : decode cX10_sumByRule 40 = .ok (.getfield 18, 3) := by decide +kernel
theorem dX10_sumByRule_43 : decode cX10_sumByRule 43 = .ok (.iload_n 1, 1) := by decide +kernel
theorem dX10_sumByRule_44 : decode cX10_sumByRule 44 = .ok (.iload_n 3, 1) := by decide +kernel
theorem dX10_sumByRule_45 : decode cX10_sumByRule 45 = .ok (.ifCond .lt 8, 3) := by decide +kernel
theorem dX10_sumByRule_48 : decode cX10_sumByRule 48 = .ok (.iload_n 3, 1) := by decide +kernel
theorem dX10_sumByRule_49 : decode cX10_sumByRule 49 = .ok (.i2l, 1) := by decide +kernel
theorem dX10_sumByRule_50 : decode cX10_sumByRule 50 = .ok (.goto 8, 3) := by decide +kernel
theorem dX10_sumByRule_53 : decode cX10_sumByRule 53 = .ok (.aload_n 0, 1) := by decide +kernel
theorem dX10_sumByRule_54 : decode cX10_sumByRule 54 = .ok (.iload_n 3, 1) := by decide +kernel
theorem dX10_sumByRule_55 : decode cX10_sumByRule 55 = .ok (.invokevirtual 121, 3) := by decide +kernel
theorem dX10_sumByRule_58 : decode cX10_sumByRule 58 = .ok (.lastore, 1) := by decide +kernel
theorem dX10_sumByRule_59 : decode cX10_sumByRule 59 = .ok (.goto 111, 3) := by decide +kernel
theorem dX10_sumByRule_62 : decode cX10_sumByRule 62 = .ok (.iload_n 1, 1) := by decide +kernel
theorem dX10_sumByRule_63 : decode cX10_sumByRule 63 = .ok (.ifCond .ge 5, 3) := by decide +kernel
theorem dX10_sumByRule_66 : decode cX10_sumByRule 66 = .ok (.lconst 0, 1) := by decide +kernel
theorem dX10_sumByRule_67 : decode cX10_sumByRule 67 = .ok (.lreturn, 1) := by decide +kernel
theorem dX10_sumByRule_68 : decode cX10_sumByRule 68 = .ok (.iload_n 3, 1) := by decide +kernel
theorem dX10_sumByRule_69 : decode cX10_sumByRule 69 = .ok (.bipush (-25), 2) := by decide +kernel
theorem dX10_sumByRule_71 : decode cX10_sumByRule 71 = .ok (.if_icmp .ne 10, 3) := by decide +kernel
theorem dX10_sumByRule_74 : decode cX10_sumByRule 74 = .ok (.aload_n 0, 1) := by decide +kernel
theorem dX10_sumByRule_75 : decode cX10_sumByRule 75 = .ok (.getfield 18, 3) := by decide +kernel
theorem dX10_sumByRule_78 : decode cX10_sumByRule 78 = .ok (.iload_n 1, 1) := by decide +kernel
theorem dX10_sumByRule_79 : decode cX10_sumByRule 79 = .ok (.laload, 1) := by decide +kernel
theorem dX10_sumByRule_80 : decode cX10_sumByRule 80 = .ok (.lreturn, 1) := by decide +kernel
theorem dX10_sumByRule_81 : decode cX10_sumByRule 81 = .ok (.iload_n 3, 1) := by decide +kernel
theorem dX10_sumByRule_82 : decode cX10_sumByRule 82 = .ok (.bipush (-22), 2) := by decide +kernel
theorem dX10_sumByRule_84 : decode cX10_sumByRule 84 = .ok (.if_icmp .ne 20, 3) := by decide +kernel
theorem dX10_sumByRule_87 : decode cX10_sumByRule 87 = .ok (.aload_n 0, 1) := by decide +kernel
theorem dX10_sumByRule_88 : decode cX10_sumByRule 88 = .ok (.getfield 18, 3) := by decide +kernel
theorem dX10_sumByRule_91 : decode cX10_sumByRule 91 = .ok (.iload_n 1, 1) := by decide +kernel
theorem dX10_sumByRule_92 : decode cX10_sumByRule 92 = .ok (.lconst 1, 1) := by decide +kernel
theorem dX10_sumByRule_93 : decode cX10_sumByRule 93 = .ok (.aload_n 0, 1) := by decide +kernel
theorem dX10_sumByRule_94 : decode cX10_sumByRule 94 = .ok (.getfield 18, 3) := by decide +kernel
theorem dX10_sumByRule_97 : decode cX10_sumByRule 97 = .ok (.iload_n 1, 1) := by decide +kernel
theorem dX10_sumByRule_98 : decode cX10_sumByRule 98 = .ok (.laload, 1) := by decide +kernel
theorem dX10_sumByRule_99 : decode cX10_sumByRule 99 = .ok (.lsub, 1) := by decide +kernel
theorem dX10_sumByRule_100 : decode cX10_sumByRule 100 = .ok (.lastore, 1) := by decide +kernel
theorem dX10_sumByRule_101 : decode cX10_sumByRule 101 = .ok (.goto 69, 3) := by decide +kernel
theorem dX10_sumByRule_104 : decode cX10_sumByRule 104 = .ok (.iload_n 1, 1) := by decide +kernel
theorem dX10_sumByRule_105 : decode cX10_sumByRule 105 = .ok (.iconst 1, 1) := by decide +kernel
theorem dX10_sumByRule_106 : decode cX10_sumByRule 106 = .ok (.if_icmp .ge 5, 3) := by decide +kernel
theorem dX10_sumByRule_109 : decode cX10_sumByRule 109 = .ok (.lconst 0, 1) := by decide +kernel
theorem dX10_sumByRule_110 : decode cX10_sumByRule 110 = .ok (.lreturn, 1) := by decide +kernel
theorem dX10_sumByRule_111 : decode cX10_sumByRule 111 = .ok (.iload_n 3, 1) := by decide +kernel
theorem dX10_sumByRule_112 : decode cX10_sumByRule 112 = .ok (.bipush (-26), 2) := by decide +kernel
theorem dX10_sumByRule_114 : decode cX10_sumByRule 114 = .ok (.if_icmp .ne 29, 3) := by decide +kernel
theorem dX10_sumByRule_117 : decode cX10_sumByRule 117 = .ok (.aload_n 0, 1) := by decide +kernel
theorem dX10_sumByRule_118 : decode cX10_sumByRule 118 = .ok (.getfield 18, 3) := by decide +kernel
theorem dX10_sumByRule_121 : decode cX10_sumByRule 121 = .ok (.iload_n 1, 1) := by decide +kernel
theorem dX10_sumByRule_122 : decode cX10_sumByRule 122 = .ok (.laload, 1) := by decide +kernel
theorem dX10_sumByRule_123 : decode cX10_sumByRule 123 = .ok (.lconst 0, 1) := by decide +kernel
theorem dX10_sumByRule_124 : decode cX10_sumByRule 124 = .ok (.lcmp, 1) := by decide +kernel
theorem dX10_sumByRule_125 : decode cX10_sumByRule 125 = .ok (.ifCond .eq 12, 3) := by decide +kernel
theorem dX10_sumByRule_128 : decode cX10_sumByRule 128 = .ok (.aload_n 0, 1) := by decide +kernel
theorem dX10_sumByRule_129 : decode cX10_sumByRule 129 = .ok (.getfield 18, 3) := by decide +kernel
theorem dX10_sumByRule_132 : decode cX10_sumByRule 132 = .ok (.iload_n 1, 1) := by decide +kernel
theorem dX10_sumByRule_133 : decode cX10_sumByRule 133 = .ok (.iconst 1, 1) := by decide +kernel
theorem dX10_sumByRule_134 : decode cX10_sumByRule 134 = .ok (.isub, 1) := by decide +kernel
theorem dX10_sumByRule_135 : decode cX10_sumByRule 135 = .ok (.laload, 1) := by decide +kernel
theorem dX10_sumByRule_136 : decode cX10_sumByRule 136 = .ok (.lreturn, 1) := by decide +kernel
theorem dX10_sumByRule_137 : decode cX10_sumByRule 137 = .ok (.iinc 1 (-2), 3) := by decide +kernel
theorem dX10_sumByRule_140 : decode cX10_sumByRule 140 = .ok (.goto 30, 3) := by decide +kernel
theorem dX10_sumByRule_143 : decode cX10_sumByRule 143 = .ok (.iinc 1 (-1), 3) := by decide +kernel
theorem dX10_sumByRule_146 : decode cX10_sumByRule 146 = .ok (.aload_n 0, 1) := by decide +kernel
theorem dX10_sumByRule_147 : decode cX10_sumByRule 147 = .ok (.getfield 18, 3) := by decide +kernel
theorem dX10_sumByRule_150 : decode cX10_sumByRule 150 = .ok (.iload_n 1, 1) := by decide +kernel
theorem dX10_sumByRule_151 : decode cX10_sumByRule 151 = .ok (.iload_n 3, 1) := by decide +kernel
theorem dX10_sumByRule_152 : decode cX10_sumByRule 152 = .ok (.aload_n 0, 1) := by decide +kernel
theorem dX10_sumByRule_153 : decode cX10_sumByRule 153 = .ok (.getfield 18, 3) := by decide +kernel
theorem dX10_sumByRule_156 : decode cX10_sumByRule 156 = .ok (.iload_n 1, 1) := by decide +kernel
theorem dX10_sumByRule_157 : decode cX10_sumByRule 157 = .ok (.laload, 1) := by decide +kernel
theorem dX10_sumByRule_158 : decode cX10_sumByRule 158 = .ok (.aload_n 0, 1) := by decide +kernel
theorem dX10_sumByRule_159 : decode cX10_sumByRule 159 = .ok (.getfield 18, 3) := by decide +kernel
theorem dX10_sumByRule_162 : decode cX10_sumByRule 162 = .ok (.iload_n 1, 1) := by decide +kernel
theorem dX10_sumByRule_163 : decode cX10_sumByRule 163 = .ok (.iconst 1, 1) := by decide +kernel
theorem dX10_sumByRule_164 : decode cX10_sumByRule 164 = .ok (.iadd, 1) := by decide +kernel
theorem dX10_sumByRule_165 : decode cX10_sumByRule 165 = .ok (.laload, 1) := by decide +kernel
theorem dX10_sumByRule_166 : decode cX10_sumByRule 166 = .ok (.invokestatic 125, 3) := by decide +kernel
theorem dX10_sumByRule_169 : decode cX10_sumByRule 169 = .ok (.lastore, 1) := by decide +kernel
theorem dX10_sumByRule_170 : decode cX10_sumByRule 170 = .ok (.iinc 2 1, 3) := by decide +kernel
theorem dX10_sumByRule_173 : decode cX10_sumByRule 173 = .ok (.goto (-169), 3) := by decide +kernel
theorem dX10_sumByRule_176 : decode cX10_sumByRule 176 = .ok (.lconst 0, 1) := by decide +kernel
theorem dX10_sumByRule_177 : decode cX10_sumByRule 177 = .ok (.lreturn, 1) := by decide +kernel
theorem dX10_joined_0 : decode cX10_joined 0 = .ok (.iload_n 0, 1) := by decide +kernel
theorem dX10_joined_1 : decode cX10_joined 1 = .ok (.tableswitch 167 (-23) (-12) #[163, 167, 151, 139, 127, 115, 103, 99, 95, 81, 67, 63], 63) := by decide +kernel
theorem dX10_joined_64 : decode cX10_joined 64 = .ok (.lload_n 1, 1) := by decide +kernel
theorem dX10_joined_65 : decode cX10_joined 65 = .ok (.lload_n 3, 1) := by decide +kernel
theorem dX10_joined_66 : decode cX10_joined 66 = .ok (.lmul, 1) := by decide +kernel
theorem dX10_joined_67 : decode cX10_joined 67 = .ok (.lreturn, 1) := by decide +kernel
theorem dX10_joined_68 : decode cX10_joined 68 = .ok (.lload_n 3, 1) := by decide +kernel
theorem dX10_joined_69 : decode cX10_joined 69 = .ok (.lconst 0, 1) := by decide +kernel
theorem dX10_joined_70 : decode cX10_joined 70 = .ok (.lcmp, 1) := by decide +kernel
theorem dX10_joined_71 : decode cX10_joined 71 = .ok (.ifCond .ne 7, 3) := by decide +kernel
theorem dX10_joined_74 : decode cX10_joined 74 = .ok (.lconst 0, 1) := by decide +kernel
theorem dX10_joined_75 : decode cX10_joined 75 = .ok (.goto 6, 3) := by decide +kernel
theorem dX10_joined_78 : decode cX10_joined 78 = .ok (.lload_n 1, 1) := by decide +kernel
theorem dX10_joined_79 : decode cX10_joined 79 = .ok (.lload_n 3, 1) := by decide +kernel
theorem dX10_joined_80 : decode cX10_joined 80 = .ok (.ldiv, 1) := by decide +kernel
theorem dX10_joined_81 : decode cX10_joined 81 = .ok (.lreturn, 1) := by decide +kernel
theorem dX10_joined_82 : decode cX10_joined 82 = .ok (.lload_n 3, 1) := by decide +kernel
theorem dX10_joined_83 : decode cX10_joined 83 = .ok (.lconst 0, 1) := by decide +kernel
theorem dX10_joined_84 : decode cX10_joined 84 = .ok (.lcmp, 1) := by decide +kernel
theorem dX10_joined_85 : decode cX10_joined 85 = .ok (.ifCond .ne 7, 3) := by decide +kernel
theorem dX10_joined_88 : decode cX10_joined 88 = .ok (.lconst 0, 1) := by decide +kernel
theorem dX10_joined_89 : decode cX10_joined 89 = .ok (.goto 6, 3) := by decide +kernel
theorem dX10_joined_92 : decode cX10_joined 92 = .ok (.lload_n 1, 1) := by decide +kernel
theorem dX10_joined_93 : decode cX10_joined 93 = .ok (.lload_n 3, 1) := by decide +kernel
theorem dX10_joined_94 : decode cX10_joined 94 = .ok (.lrem, 1) := by decide +kernel
theorem dX10_joined_95 : decode cX10_joined 95 = .ok (.lreturn, 1) := by decide +kernel
theorem dX10_joined_96 : decode cX10_joined 96 = .ok (.lload_n 1, 1) := by decide +kernel
theorem dX10_joined_97 : decode cX10_joined 97 = .ok (.lload_n 3, 1) := by decide +kernel
theorem dX10_joined_98 : decode cX10_joined 98 = .ok (.ladd, 1) := by decide +kernel
theorem dX10_joined_99 : decode cX10_joined 99 = .ok (.lreturn, 1) := by decide +kernel
theorem dX10_joined_100 : decode cX10_joined 100 = .ok (.lload_n 1, 1) := by decide +kernel
theorem dX10_joined_101 : decode cX10_joined 101 = .ok (.lload_n 3, 1) := by decide +kernel
theorem dX10_joined_102 : decode cX10_joined 102 = .ok (.lsub, 1) := by decide +kernel
theorem dX10_joined_103 : decode cX10_joined 103 = .ok (.lreturn, 1) := by decide +kernel
theorem dX10_joined_104 : decode cX10_joined 104 = .ok (.lload_n 1, 1) := by decide +kernel
theorem dX10_joined_105 : decode cX10_joined 105 = .ok (.lload_n 3, 1) := by decide +kernel
theorem dX10_joined_106 : decode cX10_joined 106 = .ok (.lcmp, 1) := by decide +kernel
theorem dX10_joined_107 : decode cX10_joined 107 = .ok (.ifCond .ge 7, 3) := by decide +kernel
theorem dX10_joined_110 : decode cX10_joined 110 = .ok (.lconst 1, 1) := by decide +kernel
theorem dX10_joined_111 : decode cX10_joined 111 = .ok (.goto 4, 3) := by decide +kernel
theorem dX10_joined_114 : decode cX10_joined 114 = .ok (.lconst 0, 1) := by decide +kernel
theorem dX10_joined_115 : decode cX10_joined 115 = .ok (.lreturn, 1) := by decide +kernel
theorem dX10_joined_116 : decode cX10_joined 116 = .ok (.lload_n 1, 1) := by decide +kernel
theorem dX10_joined_117 : decode cX10_joined 117 = .ok (.lload_n 3, 1) := by decide +kernel
theorem dX10_joined_118 : decode cX10_joined 118 = .ok (.lcmp, 1) := by decide +kernel
theorem dX10_joined_119 : decode cX10_joined 119 = .ok (.ifCond .gt 7, 3) := by decide +kernel
theorem dX10_joined_122 : decode cX10_joined 122 = .ok (.lconst 1, 1) := by decide +kernel
theorem dX10_joined_123 : decode cX10_joined 123 = .ok (.goto 4, 3) := by decide +kernel
theorem dX10_joined_126 : decode cX10_joined 126 = .ok (.lconst 0, 1) := by decide +kernel
theorem dX10_joined_127 : decode cX10_joined 127 = .ok (.lreturn, 1) := by decide +kernel
theorem dX10_joined_128 : decode cX10_joined 128 = .ok (.lload_n 1, 1) := by decide +kernel
theorem dX10_joined_129 : decode cX10_joined 129 = .ok (.lload_n 3, 1) := by decide +kernel
theorem dX10_joined_130 : decode cX10_joined 130 = .ok (.lcmp, 1) := by decide +kernel
theorem dX10_joined_131 : decode cX10_joined 131 = .ok (.ifCond .ne 7, 3) := by decide +kernel
theorem dX10_joined_134 : decode cX10_joined 134 = .ok (.lconst 1, 1) := by decide +kernel
theorem dX10_joined_135 : decode cX10_joined 135 = .ok (.goto 4, 3) := by decide +kernel
theorem dX10_joined_138 : decode cX10_joined 138 = .ok (.lconst 0, 1) := by decide +kernel
theorem dX10_joined_139 : decode cX10_joined 139 = .ok (.lreturn, 1) := by decide +kernel
theorem dX10_joined_140 : decode cX10_joined 140 = .ok (.lload_n 1, 1) := by decide +kernel
theorem dX10_joined_141 : decode cX10_joined 141 = .ok (.lload_n 3, 1) := by decide +kernel
theorem dX10_joined_142 : decode cX10_joined 142 = .ok (.lcmp, 1) := by decide +kernel
theorem dX10_joined_143 : decode cX10_joined 143 = .ok (.ifCond .lt 7, 3) := by decide +kernel
theorem dX10_joined_146 : decode cX10_joined 146 = .ok (.lconst 1, 1) := by decide +kernel
theorem dX10_joined_147 : decode cX10_joined 147 = .ok (.goto 4, 3) := by decide +kernel
theorem dX10_joined_150 : decode cX10_joined 150 = .ok (.lconst 0, 1) := by decide +kernel
theorem dX10_joined_151 : decode cX10_joined 151 = .ok (.lreturn, 1) := by decide +kernel
theorem dX10_joined_152 : decode cX10_joined 152 = .ok (.lload_n 1, 1) := by decide +kernel
theorem dX10_joined_153 : decode cX10_joined 153 = .ok (.lload_n 3, 1) := by decide +kernel
theorem dX10_joined_154 : decode cX10_joined 154 = .ok (.lcmp, 1) := by decide +kernel
theorem dX10_joined_155 : decode cX10_joined 155 = .ok (.ifCond .le 7, 3) := by decide +kernel
theorem dX10_joined_158 : decode cX10_joined 158 = .ok (.lconst 1, 1) := by decide +kernel
theorem dX10_joined_159 : decode cX10_joined 159 = .ok (.goto 4, 3) := by decide +kernel
theorem dX10_joined_162 : decode cX10_joined 162 = .ok (.lconst 0, 1) := by decide +kernel
theorem dX10_joined_163 : decode cX10_joined 163 = .ok (.lreturn, 1) := by decide +kernel
theorem dX10_joined_164 : decode cX10_joined 164 = .ok (.lload_n 1, 1) := by decide +kernel
theorem dX10_joined_165 : decode cX10_joined 165 = .ok (.lload_n 3, 1) := by decide +kernel
theorem dX10_joined_166 : decode cX10_joined 166 = .ok (.land, 1) := by decide +kernel
theorem dX10_joined_167 : decode cX10_joined 167 = .ok (.lreturn, 1) := by decide +kernel
theorem dX10_joined_168 : decode cX10_joined 168 = .ok (.lload_n 1, 1) := by decide +kernel
theorem dX10_joined_169 : decode cX10_joined 169 = .ok (.lload_n 3, 1) := by decide +kernel
theorem dX10_joined_170 : decode cX10_joined 170 = .ok (.lor, 1) := by decide +kernel
theorem dX10_joined_171 : decode cX10_joined 171 = .ok (.lreturn, 1) := by decide +kernel
set_option maxRecDepth 20000 in
theorem ggX11_init_X7_init : GoodIn wsX11_init wsX7_init := goodIn_r _ [51, 52, 2, 3, 53, 54, 158, 159, 160, 161, 162] (by decide +kernel) (by decide +kernel)
set_option maxRecDepth 20000 in
theorem gX11_init_X7_init : GoodIn wsX11_init (wsX7_init) := ggX11_init_X7_init
set_option maxRecDepth 20000 in
theorem ggX11_init_X4_init : GoodIn wsX11_init wsX4_init := goodIn_r _ [57, 58, 2, 3, 59, 60, 61, 62, 63, 45, 46, 64, 65, 66, 67, 68, 69, 70, 71, 72, 73, 74, 75, 76, 77, 78, 79, 80, 81, 82, 83, 84, 85, 86, 87, 88, 89, 90, 91, 92, 93, 94, 95, 96, 97, 98, 99, 100, 244, 245, 246, 247, 248, 249, 250, 251, 252, 253, 254, 255, 256, 257, 258, 259, 260, 261, 262, 179, 180, 181, 182, 183, 184, 185, 186, 187, 188, 235, 236, 237, 238, 239, 240, 241, 242, 243] (by decide +kernel) (by decide +kernel)
set_option maxRecDepth 20000 in
theorem gX11_init_X4_init : GoodIn wsX11_init (wsX4_init) := ggX11_init_X4_init
set_option maxRecDepth 20000 in
theorem ggX11_init_X0_init : GoodIn wsX11_init wsX0_init := goodIn_r _ [103, 104, 2, 3, 105, 60, 61, 106, 107, 45, 46, 108, 109, 110, 72, 73, 74, 66, 75, 76, 77, 78, 79, 80, 81, 82, 83, 84, 85, 111, 87, 88, 89, 90, 91, 92, 93, 94, 95, 96, 97, 98, 99, 100, 244, 245, 246, 247, 248, 249, 250, 251, 252, 253, 254, 255, 256, 257, 258, 259, 260, 261, 262, 189, 190, 191, 235, 236, 237, 238, 239, 240, 241, 242, 243] (by decide +kernel) (by decide +kernel)
set_option maxRecDepth 20000 in
theorem gX11_init_X0_init : GoodIn wsX11_init (wsX0_init) := ggX11_init_X0_init
set_option maxRecDepth 20000 in
theorem ggX11_init_X3_init : GoodIn wsX11_init wsX3_init := goodIn_r _ [114, 115, 2, 3, 66, 116, 117, 118, 192, 193, 194, 195, 196, 197, 198, 199, 200] (by decide +kernel) (by decide +kernel)
set_option maxRecDepth 20000 in
theorem gX11_init_X3_init : GoodIn wsX11_init (wsX3_init) := ggX11_init_X3_init
set_option maxRecDepth 20000 in
theorem ggX11_init_X10_init : GoodIn wsX11_init wsX10_init := goodIn_r _ [121, 122, 2, 3, 123, 124, 125, 126, 201, 202, 203, 204, 205, 206, 207, 208, 209, 210, 211, 212] (by decide +kernel) (by decide +kernel)
set_option maxRecDepth 20000 in
theorem gX11_init_X10_init : GoodIn wsX11_init (wsX10_init) := ggX11_init_X10_init
set_option maxRecDepth 20000 in
theorem ggX11_init_X1_init : GoodIn wsX11_init wsX1_init := goodIn_r _ [129, 130, 2, 3, 131, 132, 213, 214, 215, 201, 202, 203, 204, 205, 206, 207, 208, 209, 210, 211, 212] (by decide +kernel) (by decide +kernel)
set_option maxRecDepth 20000 in
theorem gX11_init_X1_init : GoodIn wsX11_init (wsX1_init) := ggX11_init_X1_init
set_option maxRecDepth 20000 in
theorem ggX11_init_X2_init : GoodIn wsX11_init wsX2_init := goodIn_r _ [135, 136, 2, 3, 66, 137, 138, 139, 140, 141, 142, 216, 217, 218, 219, 220, 221, 222, 223, 224, 225, 226, 201, 202, 203, 204, 205, 206, 207, 208, 209, 210, 211, 212] (by decide +kernel) (by decide +kernel)
set_option maxRecDepth 20000 in
theorem gX11_init_X2_init : GoodIn wsX11_init (wsX2_init) := ggX11_init_X2_init
set_option maxRecDepth 20000 in
theorem ggX11_init_X6_init : GoodIn wsX11_init wsX6_init := goodIn_r _ [145, 146, 2, 3, 66, 147, 148, 149, 227, 228, 229] (by decide +kernel) (by decide +kernel)
set_option maxRecDepth 20000 in
theorem gX11_init_X6_init : GoodIn wsX11_init (wsX6_init) := ggX11_init_X6_init
set_option maxRecDepth 20000 in
theorem ggX11_init_X9_init : GoodIn wsX11_init wsX9_init := goodIn_r _ [152, 153, 2, 3, 66, 154, 155, 156, 230, 231, 232, 233, 234] (by decide +kernel) (by decide +kernel)
set_option maxRecDepth 20000 in
theorem gX11_init_X9_init : GoodIn wsX11_init (wsX9_init) := ggX11_init_X9_init
set_option maxRecDepth 20000 in
theorem ggX11_init_X5_init : GoodIn wsX11_init wsX5_init := goodIn_r _ [88, 89, 2, 3, 66, 90, 91, 92, 93, 94, 95, 96, 97, 98, 99, 100, 235, 236, 237, 238, 239, 240, 241, 242, 243] (by decide +kernel) (by decide +kernel)
set_option maxRecDepth 20000 in
theorem gX11_init_X5_init : GoodIn wsX11_init (wsX5_init) := ggX11_init_X5_init
theorem dX11_init_0 : decode cX11_init 0 = .ok (.aload_n 0, 1) := by decide +kernel
theorem dX11_init_1 : decode cX11_init 1 = .ok (.invokespecial 1, 3) := by decide +kernel
theorem dX11_init_4 : decode cX11_init 4 = .ok (.aload_n 0, 1) := by decide +kernel
theorem dX11_init_5 : decode cX11_init 5 = .ok (.new 7, 3) := by decide +kernel
theorem dX11_init_8 : decode cX11_init 8 = .ok (.dup, 1) := by decide +kernel
theorem dX11_init_9 : decode cX11_init 9 = .ok (.invokespecial 9, 3) := by decide +kernel
theorem dX11_init_12 : decode cX11_init 12 = .ok (.putfield 10, 3) := by decide +kernel
theorem dX11_init_15 : decode cX11_init 15 = .ok (.aload_n 0, 1) := by decide +kernel
theorem dX11_init_16 : decode cX11_init 16 = .ok (.new 16, 3) := by decide +kernel
theorem dX11_init_19 : decode cX11_init 19 = .ok (.dup, 1) := by decide +kernel
theorem dX11_init_20 : decode cX11_init 20 = .ok (.invokespecial 18, 3) := by decide +kernel
theorem dX11_init_23 : decode cX11_init 23 = .ok (.putfield 19, 3) := by decide +kernel
theorem dX11_init_26 : decode cX11_init 26 = .ok (.aload_n 0, 1) := by decide +kernel
theorem dX11_init_27 : decode cX11_init 27 = .ok (.iconst 4, 1) := by decide +kernel
theorem dX11_init_28 : decode cX11_init 28 = .ok (.anewarray 16, 3) := by decide +kernel
theorem dX11_init_31 : decode cX11_init 31 = .ok (.putfield 23, 3) := by decide +kernel
theorem dX11_init_34 : decode cX11_init 34 = .ok (.aload_n 0, 1) := by decide +kernel
theorem dX11_init_35 : decode cX11_init 35 = .ok (.bipush 20, 2) := by decide +kernel
theorem dX11_init_37 : decode cX11_init 37 = .ok (.anewarray 27, 3) := by decide +kernel
theorem dX11_init_40 : decode cX11_init 40 = .ok (.putfield 29, 3) := by decide +kernel
theorem dX11_init_43 : decode cX11_init 43 = .ok (.aload_n 0, 1) := by decide +kernel
theorem dX11_init_44 : decode cX11_init 44 = .ok (.bipush 6, 2) := by decide +kernel
theorem dX11_init_46 : decode cX11_init 46 = .ok (.anewarray 33, 3) := by decide +kernel
theorem dX11_init_49 : decode cX11_init 49 = .ok (.putfield 35, 3) := by decide +kernel
theorem dX11_init_52 : decode cX11_init 52 = .ok (.aload_n 0, 1) := by decide +kernel
theorem dX11_init_53 : decode cX11_init 53 = .ok (.new 39, 3) := by decide +kernel
theorem dX11_init_56 : decode cX11_init 56 = .ok (.dup, 1) := by decide +kernel
theorem dX11_init_57 : decode cX11_init 57 = .ok (.aload_n 0, 1) := by decide +kernel
theorem dX11_init_58 : decode cX11_init 58 = .ok (.getfield 10, 3) := by decide +kernel
theorem dX11_init_61 : decode cX11_init 61 = .ok (.invokespecial 41, 3) := by decide +kernel
theorem dX11_init_64 : decode cX11_init 64 = .ok (.putfield 44, 3) := by decide +kernel
theorem dX11_init_67 : decode cX11_init 67 = .ok (.aload_n 0, 1) := by decide +kernel
theorem dX11_init_68 : decode cX11_init 68 = .ok (.new 48, 3) := by decide +kernel
theorem dX11_init_71 : decode cX11_init 71 = .ok (.dup, 1) := by decide +kernel
theorem dX11_init_72 : decode cX11_init 72 = .ok (.aload_n 0, 1) := by decide +kernel
theorem dX11_init_73 : decode cX11_init 73 = .ok (.getfield 10, 3) := by decide +kernel
theorem dX11_init_76 : decode cX11_init 76 = .ok (.invokespecial 50, 3) := by decide +kernel
theorem dX11_init_79 : decode cX11_init 79 = .ok (.putfield 51, 3) := by decide +kernel
theorem dX11_init_82 : decode cX11_init 82 = .ok (.aload_n 0, 1) := by decide +kernel
theorem dX11_init_83 : decode cX11_init 83 = .ok (.new 55, 3) := by decide +kernel
theorem dX11_init_86 : decode cX11_init 86 = .ok (.dup, 1) := by decide +kernel
theorem dX11_init_87 : decode cX11_init 87 = .ok (.aload_n 0, 1) := by decide +kernel
theorem dX11_init_88 : decode cX11_init 88 = .ok (.getfield 19, 3) := by decide +kernel
theorem dX11_init_91 : decode cX11_init 91 = .ok (.getfield 57, 3) := by decide +kernel
theorem dX11_init_94 : decode cX11_init 94 = .ok (.invokespecial 61, 3) := by decide +kernel
theorem dX11_init_97 : decode cX11_init 97 = .ok (.putfield 64, 3) := by decide +kernel
theorem dX11_init_100 : decode cX11_init 100 = .ok (.aload_n 0, 1) := by decide +kernel
theorem dX11_init_101 : decode cX11_init 101 = .ok (.new 68, 3) := by decide +kernel
theorem dX11_init_104 : decode cX11_init 104 = .ok (.dup, 1) := by decide +kernel
theorem dX11_init_105 : decode cX11_init 105 = .ok (.aload_n 0, 1) := by decide +kernel
theorem dX11_init_106 : decode cX11_init 106 = .ok (.getfield 64, 3) := by decide +kernel
theorem dX11_init_109 : decode cX11_init 109 = .ok (.invokespecial 70, 3) := by decide +kernel
theorem dX11_init_112 : decode cX11_init 112 = .ok (.putfield 73, 3) := by decide +kernel
theorem dX11_init_115 : decode cX11_init 115 = .ok (.aload_n 0, 1) := by decide +kernel
theorem dX11_init_116 : decode cX11_init 116 = .ok (.new 77, 3) := by decide +kernel
theorem dX11_init_119 : decode cX11_init 119 = .ok (.dup, 1) := by decide +kernel
theorem dX11_init_120 : decode cX11_init 120 = .ok (.aload_n 0, 1) := by decide +kernel
theorem dX11_init_121 : decode cX11_init 121 = .ok (.getfield 64, 3) := by decide +kernel
theorem dX11_init_124 : decode cX11_init 124 = .ok (.invokespecial 79, 3) := by decide +kernel
theorem dX11_init_127 : decode cX11_init 127 = .ok (.putfield 80, 3) := by decide +kernel
theorem dX11_init_130 : decode cX11_init 130 = .ok (.aload_n 0, 1) := by decide +kernel
theorem dX11_init_131 : decode cX11_init 131 = .ok (.new 84, 3) := by decide +kernel
theorem dX11_init_134 : decode cX11_init 134 = .ok (.dup, 1) := by decide +kernel
theorem dX11_init_135 : decode cX11_init 135 = .ok (.aload_n 0, 1) := by decide +kernel
theorem dX11_init_136 : decode cX11_init 136 = .ok (.getfield 19, 3) := by decide +kernel
theorem dX11_init_139 : decode cX11_init 139 = .ok (.getfield 57, 3) := by decide +kernel
theorem dX11_init_142 : decode cX11_init 142 = .ok (.invokespecial 86, 3) := by decide +kernel
theorem dX11_init_145 : decode cX11_init 145 = .ok (.putfield 87, 3) := by decide +kernel
theorem dX11_init_148 : decode cX11_init 148 = .ok (.aload_n 0, 1) := by decide +kernel
theorem dX11_init_149 : decode cX11_init 149 = .ok (.new 91, 3) := by decide +kernel
theorem dX11_init_152 : decode cX11_init 152 = .ok (.dup, 1) := by decide +kernel
theorem dX11_init_153 : decode cX11_init 153 = .ok (.aload_n 0, 1) := by decide +kernel
theorem dX11_init_154 : decode cX11_init 154 = .ok (.getfield 19, 3) := by decide +kernel
theorem dX11_init_157 : decode cX11_init 157 = .ok (.aload_n 0, 1) := by decide +kernel
theorem dX11_init_158 : decode cX11_init 158 = .ok (.getfield 64, 3) := by decide +kernel
theorem dX11_init_161 : decode cX11_init 161 = .ok (.invokespecial 93, 3) := by decide +kernel
theorem dX11_init_164 : decode cX11_init 164 = .ok (.putfield 96, 3) := by decide +kernel
theorem dX11_init_167 : decode cX11_init 167 = .ok (.aload_n 0, 1) := by decide +kernel
theorem dX11_init_168 : decode cX11_init 168 = .ok (.new 27, 3) := by decide +kernel
theorem dX11_init_171 : decode cX11_init 171 = .ok (.dup, 1) := by decide +kernel
theorem dX11_init_172 : decode cX11_init 172 = .ok (.invokespecial 100, 3) := by decide +kernel
theorem dX11_init_175 : decode cX11_init 175 = .ok (.putfield 101, 3) := by decide +kernel
theorem dX11_init_178 : decode cX11_init 178 = .ok (.iconst 0, 1) := by decide +kernel
theorem dX11_init_179 : decode cX11_init 179 = .ok (.istore_n 1, 1) := by decide +kernel
theorem dX11_init_180 : decode cX11_init 180 = .ok (.iload_n 1, 1) := by decide +kernel
theorem dX11_init_181 : decode cX11_init 181 = .ok (.iconst 4, 1) := by decide +kernel
theorem dX11_init_182 : decode cX11_init 182 = .ok (.if_icmp .ge 22, 3) := by decide +kernel
theorem dX11_init_185 : decode cX11_init 185 = .ok (.aload_n 0, 1) := by decide +kernel
theorem dX11_init_186 : decode cX11_init 186 = .ok (.getfield 23, 3) := by decide +kernel
theorem dX11_init_189 : decode cX11_init 189 = .ok (.iload_n 1, 1) := by decide +kernel
theorem dX11_init_190 : decode cX11_init 190 = .ok (.new 16, 3) := by decide +kernel
theorem dX11_init_193 : decode cX11_init 193 = .ok (.dup, 1) := by decide +kernel
theorem dX11_init_194 : decode cX11_init 194 = .ok (.invokespecial 18, 3) := by decide +kernel
theorem dX11_init_197 : decode cX11_init 197 = .ok (.aastore, 1) := by decide +kernel
theorem dX11_init_198 : decode cX11_init 198 = .ok (.iinc 1 1, 3) := by decide +kernel
theorem dX11_init_201 : decode cX11_init 201 = .ok (.goto (-21), 3) := by decide +kernel
theorem dX11_init_204 : decode cX11_init 204 = .ok (.iconst 0, 1) := by decide +kernel
theorem dX11_init_205 : decode cX11_init 205 = .ok (.istore_n 1, 1) := by decide +kernel
theorem dX11_init_206 : decode cX11_init 206 = .ok (.iload_n 1, 1) := by decide +kernel
theorem dX11_init_207 : decode cX11_init 207 = .ok (.bipush 6, 2) := by decide +kernel
theorem dX11_init_209 : decode cX11_init 209 = .ok (.if_icmp .ge 18, 3) := by decide +kernel
theorem dX11_init_212 : decode cX11_init 212 = .ok (.aload_n 0, 1) := by decide +kernel
theorem dX11_init_213 : decode cX11_init 213 = .ok (.getfield 35, 3) := by decide +kernel
theorem dX11_init_216 : decode cX11_init 216 = .ok (.iload_n 1, 1) := by decide +kernel
theorem dX11_init_217 : decode cX11_init 217 = .ok (.getstatic 105, 3) := by decide +kernel
theorem dX11_init_220 : decode cX11_init 220 = .ok (.aastore, 1) := by decide +kernel
theorem dX11_init_221 : decode cX11_init 221 = .ok (.iinc 1 1, 3) := by decide +kernel
theorem dX11_init_224 : decode cX11_init 224 = .ok (.goto (-18), 3) := by decide +kernel
theorem dX11_init_227 : decode cX11_init 227 = .ok (.iconst 0, 1) := by decide +kernel
theorem dX11_init_228 : decode cX11_init 228 = .ok (.istore_n 1, 1) := by decide +kernel
theorem dX11_init_229 : decode cX11_init 229 = .ok (.iload_n 1, 1) := by decide +kernel
theorem dX11_init_230 : decode cX11_init 230 = .ok (.bipush 20, 2) := by decide +kernel
theorem dX11_init_232 : decode cX11_init 232 = .ok (.if_icmp .ge 22, 3) := by decide +kernel
theorem dX11_init_235 : decode cX11_init 235 = .ok (.aload_n 0, 1) := by decide +kernel
theorem dX11_init_236 : decode cX11_init 236 = .ok (.getfield 29, 3) := by decide +kernel
theorem dX11_init_239 : decode cX11_init 239 = .ok (.iload_n 1, 1) := by decide +kernel
theorem dX11_init_240 : decode cX11_init 240 = .ok (.new 27, 3) := by decide +kernel
theorem dX11_init_243 : decode cX11_init 243 = .ok (.dup, 1) := by decide +kernel
theorem dX11_init_244 : decode cX11_init 244 = .ok (.invokespecial 100, 3) := by decide +kernel
theorem dX11_init_247 : decode cX11_init 247 = .ok (.aastore, 1) := by decide +kernel
theorem dX11_init_248 : decode cX11_init 248 = .ok (.iinc 1 1, 3) := by decide +kernel
theorem dX11_init_251 : decode cX11_init 251 = .ok (.goto (-22), 3) := by decide +kernel
theorem dX11_init_254 : decode cX11_init 254 = .ok (.return_, 1) := by decide +kernel
set_option maxRecDepth 20000 in
theorem ggX11_feed_X7_hasRoomFor : GoodIn wsX11_feed wsX7_hasRoomFor := goodIn_r _ [6, 7, 29, 30, 31, 32, 33] (by decide +kernel) (by decide +kernel)
set_option maxRecDepth 20000 in
theorem gX11_feed_X7_hasRoomFor : GoodIn wsX11_feed (wsV RX11 108 RX7 yX7_hasRoomFor wsX7_hasRoomFor) := goodIn_app (goodIn_of _ (by decide +kernel)) ggX11_feed_X7_hasRoomFor
set_option maxRecDepth 20000 in
theorem ggX11_feed_X7_add : GoodIn wsX11_feed wsX7_add := goodIn_r _ [11, 7, 12, 29, 30, 31, 32, 33] (by decide +kernel) (by decide +kernel)
set_option maxRecDepth 20000 in
theorem gX11_feed_X7_add : GoodIn wsX11_feed (wsV RX11 112 RX7 yX7_add wsX7_add) := goodIn_app (goodIn_of _ (by decide +kernel)) ggX11_feed_X7_add
theorem dX11_feed_0 : decode cX11_feed 0 = .ok (.aload_n 0, 1) := by decide +kernel
theorem dX11_feed_1 : decode cX11_feed 1 = .ok (.getfield 10, 3) := by decide +kernel
theorem dX11_feed_4 : decode cX11_feed 4 = .ok (.bipush 20, 2) := by decide +kernel
theorem dX11_feed_6 : decode cX11_feed 6 = .ok (.invokevirtual 108, 3) := by decide +kernel
theorem dX11_feed_9 : decode cX11_feed 9 = .ok (.ifCond .ne 5, 3) := by decide +kernel
theorem dX11_feed_12 : decode cX11_feed 12 = .ok (.iconst (-1), 1) := by decide +kernel
theorem dX11_feed_13 : decode cX11_feed 13 = .ok (.ireturn, 1) := by decide +kernel
theorem dX11_feed_14 : decode cX11_feed 14 = .ok (.aload_n 0, 1) := by decide +kernel
theorem dX11_feed_15 : decode cX11_feed 15 = .ok (.getfield 10, 3) := by decide +kernel
theorem dX11_feed_18 : decode cX11_feed 18 = .ok (.iload_n 1, 1) := by decide +kernel
theorem dX11_feed_19 : decode cX11_feed 19 = .ok (.invokevirtual 112, 3) := by decide +kernel
theorem dX11_feed_22 : decode cX11_feed 22 = .ok (.aload_n 0, 1) := by decide +kernel
theorem dX11_feed_23 : decode cX11_feed 23 = .ok (.getfield 10, 3) := by decide +kernel
theorem dX11_feed_26 : decode cX11_feed 26 = .ok (.iload_n 2, 1) := by decide +kernel
theorem dX11_feed_27 : decode cX11_feed 27 = .ok (.invokevirtual 112, 3) := by decide +kernel
theorem dX11_feed_30 : decode cX11_feed 30 = .ok (.aload_n 0, 1) := by decide +kernel
theorem dX11_feed_31 : decode cX11_feed 31 = .ok (.getfield 10, 3) := by decide +kernel
theorem dX11_feed_34 : decode cX11_feed 34 = .ok (.iload_n 3, 1) := by decide +kernel
theorem dX11_feed_35 : decode cX11_feed 35 = .ok (.invokevirtual 112, 3) := by decide +kernel
theorem dX11_feed_38 : decode cX11_feed 38 = .ok (.aload_n 0, 1) := by decide +kernel
theorem dX11_feed_39 : decode cX11_feed 39 = .ok (.getfield 10, 3) := by decide +kernel
theorem dX11_feed_42 : decode cX11_feed 42 = .ok (.iload 4, 2) := by decide +kernel
theorem dX11_feed_44 : decode cX11_feed 44 = .ok (.invokevirtual 112, 3) := by decide +kernel
theorem dX11_feed_47 : decode cX11_feed 47 = .ok (.aload_n 0, 1) := by decide +kernel
theorem dX11_feed_48 : decode cX11_feed 48 = .ok (.getfield 10, 3) := by decide +kernel
theorem dX11_feed_51 : decode cX11_feed 51 = .ok (.iload 5, 2) := by decide +kernel
theorem dX11_feed_53 : decode cX11_feed 53 = .ok (.invokevirtual 112, 3) := by decide +kernel
theorem dX11_feed_56 : decode cX11_feed 56 = .ok (.aload_n 0, 1) := by decide +kernel
theorem dX11_feed_57 : decode cX11_feed 57 = .ok (.getfield 10, 3) := by decide +kernel
theorem dX11_feed_60 : decode cX11_feed 60 = .ok (.getfield 116, 3) := by decide +kernel
theorem dX11_feed_63 : decode cX11_feed 63 = .ok (.ireturn, 1) := by decide +kernel
theorem dX11_end_0 : decode cX11_end 0 = .ok (.iload_n 1, 1) := by decide +kernel
theorem dX11_end_1 : decode cX11_end 1 = .ok (.ifCond .lt 14, 3) := by decide +kernel
theorem dX11_end_4 : decode cX11_end 4 = .ok (.iload_n 1, 1) := by decide +kernel
theorem dX11_end_5 : decode cX11_end 5 = .ok (.aload_n 0, 1) := by decide +kernel
theorem dX11_end_6 : decode cX11_end 6 = .ok (.getfield 10, 3) := by decide +kernel
theorem dX11_end_9 : decode cX11_end 9 = .ok (.getfield 116, 3) := by decide +kernel
theorem dX11_end_12 : decode cX11_end 12 = .ok (.if_icmp .le 5, 3) := by decide +kernel
theorem dX11_end_15 : decode cX11_end 15 = .ok (.iconst (-1), 1) := by decide +kernel
theorem dX11_end_16 : decode cX11_end 16 = .ok (.ireturn, 1) := by decide +kernel
theorem dX11_end_17 : decode cX11_end 17 = .ok (.aload_n 0, 1) := by decide +kernel
theorem dX11_end_18 : decode cX11_end 18 = .ok (.getfield 10, 3) := by decide +kernel
theorem dX11_end_21 : decode cX11_end 21 = .ok (.iload_n 1, 1) := by decide +kernel
theorem dX11_end_22 : decode cX11_end 22 = .ok (.putfield 116, 3) := by decide +kernel
theorem dX11_end_25 : decode cX11_end 25 = .ok (.iload_n 1, 1) := by decide +kernel
theorem dX11_end_26 : decode cX11_end 26 = .ok (.ireturn, 1) := by decide +kernel
set_option maxRecDepth 20000 in
theorem ggX11_dairy_X0_read : GoodIn wsX11_dairy wsX0_read := goodIn_r _ [9, 10, 11, 12, 13, 14, 15, 16, 17, 18, 19, 20, 21, 22, 23, 24, 25, 26, 27, 28, 29, 30, 31, 32, 33, 34, 35, 36, 37, 38, 39, 40, 41, 42, 43, 44, 45, 46, 47, 48, 49, 50, 51, 52, 53, 54, 55, 56, 8, 57, 58, 59, 60, 61, 62, 63, 64, 65, 66, 67, 68, 69, 70, 71, 72, 73, 74, 75, 76, 77, 78, 79, 80, 81, 82, 83, 84, 85, 86, 87, 88, 89, 90, 91, 92, 93, 94, 95, 96, 97, 98, 99, 100, 101, 102, 103, 104, 105, 106, 107, 108, 109, 110, 111, 112, 113, 114, 115, 116, 117, 118, 119, 120, 121, 122, 123, 124, 125, 126, 127, 128, 129, 130, 131, 132, 133, 134, 135, 136, 137, 138, 139, 140, 141, 142, 143, 144, 145, 146, 147, 148, 149, 150, 151, 152, 153, 154, 155, 156, 157, 158, 159, 160, 161, 162, 163, 164, 165, 166, 167, 168, 169, 170, 171, 172, 173, 174, 175, 176, 177, 178, 179, 180, 181, 182, 183, 184, 185, 186, 187, 188, 189, 190, 191, 192, 193, 194, 195, 196, 197, 198, 199, 200, 254, 255, 256, 257, 258, 259, 260, 261, 262, 263, 264, 265, 266, 267, 268, 269, 270, 271, 272, 273, 274, 275, 276, 277, 278, 279, 280, 281, 282, 283, 284, 239, 240, 241, 242, 243] (by decide +kernel) (by decide +kernel)
set_option maxRecDepth 20000 in
theorem gX11_dairy_X0_read : GoodIn wsX11_dairy (wsV RX11 120 RX0 yX0_read wsX0_read) := goodIn_app (goodIn_of _ (by decide +kernel)) ggX11_dairy_X0_read
set_option maxRecDepth 20000 in
theorem ggX11_dairy_X8_become : GoodIn wsX11_dairy wsX8_become := goodIn_r _ [204, 18, 19, 20, 21, 22, 23, 24, 25, 26, 205, 206, 207, 208, 191, 209, 210, 211, 212, 213, 214, 215, 216, 217, 257, 258, 259, 260, 261, 262, 263, 264, 265, 266, 267, 268, 269, 270, 271, 272, 273, 274, 275] (by decide +kernel) (by decide +kernel)
set_option maxRecDepth 20000 in
theorem gX11_dairy_X8_become : GoodIn wsX11_dairy (wsV RX11 128 RX8 yX8_become wsX8_become) := goodIn_app (goodIn_of _ (by decide +kernel)) ggX11_dairy_X8_become
set_option maxRecDepth 20000 in
theorem ggX11_dairy_X5_become : GoodIn wsX11_dairy wsX5_become := goodIn_r _ [221, 36, 37, 38, 222, 206, 207, 208, 39, 40, 41, 42, 43, 44, 276, 277, 278, 279, 280, 281, 282, 283, 284] (by decide +kernel) (by decide +kernel)
set_option maxRecDepth 20000 in
theorem gX11_dairy_X5_become : GoodIn wsX11_dairy (wsV RX11 137 RX5 yX5_become wsX5_become) := goodIn_app (goodIn_of _ (by decide +kernel)) ggX11_dairy_X5_become
theorem dX11_dairy_0 : decode cX11_dairy 0 = .ok (.aload_n 0, 1) := by decide +kernel
theorem dX11_dairy_1 : decode cX11_dairy 1 = .ok (.getfield 44, 3) := by decide +kernel
theorem dX11_dairy_4 : decode cX11_dairy 4 = .ok (.invokevirtual 120, 3) := by decide +kernel
theorem dX11_dairy_7 : decode cX11_dairy 7 = .ok (.istore_n 1, 1) := by decide +kernel
theorem dX11_dairy_8 : decode cX11_dairy 8 = .ok (.aload_n 0, 1) := by decide +kernel
theorem dX11_dairy_9 : decode cX11_dairy 9 = .ok (.getfield 10, 3) := by decide +kernel
theorem dX11_dairy_12 : decode cX11_dairy 12 = .ok (.iconst 0, 1) := by decide +kernel
theorem dX11_dairy_13 : decode cX11_dairy 13 = .ok (.putfield 116, 3) := by decide +kernel
theorem dX11_dairy_16 : decode cX11_dairy 16 = .ok (.iload_n 1, 1) := by decide +kernel
theorem dX11_dairy_17 : decode cX11_dairy 17 = .ok (.ifCond .ne 14, 3) := by decide +kernel
theorem dX11_dairy_20 : decode cX11_dairy 20 = .ok (.bipush (-2), 2) := by decide +kernel
theorem dX11_dairy_22 : decode cX11_dairy 22 = .ok (.aload_n 0, 1) := by decide +kernel
theorem dX11_dairy_23 : decode cX11_dairy 23 = .ok (.getfield 10, 3) := by decide +kernel
theorem dX11_dairy_26 : decode cX11_dairy 26 = .ok (.getfield 124, 3) := by decide +kernel
theorem dX11_dairy_29 : decode cX11_dairy 29 = .ok (.isub, 1) := by decide +kernel
theorem dX11_dairy_30 : decode cX11_dairy 30 = .ok (.ireturn, 1) := by decide +kernel
theorem dX11_dairy_31 : decode cX11_dairy 31 = .ok (.aload_n 0, 1) := by decide +kernel
theorem dX11_dairy_32 : decode cX11_dairy 32 = .ok (.getfield 19, 3) := by decide +kernel
theorem dX11_dairy_35 : decode cX11_dairy 35 = .ok (.getfield 57, 3) := by decide +kernel
theorem dX11_dairy_38 : decode cX11_dairy 38 = .ok (.aload_n 0, 1) := by decide +kernel
theorem dX11_dairy_39 : decode cX11_dairy 39 = .ok (.getfield 44, 3) := by decide +kernel
theorem dX11_dairy_42 : decode cX11_dairy 42 = .ok (.getfield 127, 3) := by decide +kernel
theorem dX11_dairy_45 : decode cX11_dairy 45 = .ok (.invokevirtual 128, 3) := by decide +kernel
theorem dX11_dairy_48 : decode cX11_dairy 48 = .ok (.aload_n 0, 1) := by decide +kernel
theorem dX11_dairy_49 : decode cX11_dairy 49 = .ok (.getfield 19, 3) := by decide +kernel
theorem dX11_dairy_52 : decode cX11_dairy 52 = .ok (.getfield 133, 3) := by decide +kernel
theorem dX11_dairy_55 : decode cX11_dairy 55 = .ok (.aload_n 0, 1) := by decide +kernel
theorem dX11_dairy_56 : decode cX11_dairy 56 = .ok (.getfield 44, 3) := by decide +kernel
theorem dX11_dairy_59 : decode cX11_dairy 59 = .ok (.getfield 136, 3) := by decide +kernel
theorem dX11_dairy_62 : decode cX11_dairy 62 = .ok (.invokevirtual 137, 3) := by decide +kernel
theorem dX11_dairy_65 : decode cX11_dairy 65 = .ok (.aload_n 0, 1) := by decide +kernel
theorem dX11_dairy_66 : decode cX11_dairy 66 = .ok (.getfield 19, 3) := by decide +kernel
theorem dX11_dairy_69 : decode cX11_dairy 69 = .ok (.iconst 0, 1) := by decide +kernel
theorem dX11_dairy_70 : decode cX11_dairy 70 = .ok (.putfield 140, 3) := by decide +kernel
theorem dX11_dairy_73 : decode cX11_dairy 73 = .ok (.aload_n 0, 1) := by decide +kernel
theorem dX11_dairy_74 : decode cX11_dairy 74 = .ok (.iconst 0, 1) := by decide +kernel
theorem dX11_dairy_75 : decode cX11_dairy 75 = .ok (.putfield 143, 3) := by decide +kernel
theorem dX11_dairy_78 : decode cX11_dairy 78 = .ok (.aload_n 0, 1) := by decide +kernel
theorem dX11_dairy_79 : decode cX11_dairy 79 = .ok (.getfield 19, 3) := by decide +kernel
theorem dX11_dairy_82 : decode cX11_dairy 82 = .ok (.getfield 57, 3) := by decide +kernel
theorem dX11_dairy_85 : decode cX11_dairy 85 = .ok (.getfield 146, 3) := by decide +kernel
theorem dX11_dairy_88 : decode cX11_dairy 88 = .ok (.ireturn, 1) := by decide +kernel
set_option maxRecDepth 20000 in
theorem ggX11_rule_X3_read : GoodIn wsX11_rule wsX3_read := goodIn_r _ [9, 10, 11, 12, 13, 14, 15, 16, 17, 18, 19, 20, 21, 22, 23, 8, 24, 25, 26, 27, 28, 29, 30, 31, 32, 33, 34, 35, 36, 37, 38, 39, 40, 41, 42, 43, 44, 45, 46, 47, 48, 49, 50, 51, 52, 53, 54, 55, 56, 57, 58, 59, 60, 61, 62, 63, 64, 65, 66, 67, 68, 69, 70, 71, 72, 73, 74, 75, 76, 77, 78, 79, 80, 81, 82, 83, 84, 85, 86, 87, 88, 89, 90, 91, 92, 93, 94, 95, 96, 97, 98, 99, 100, 101, 102, 103, 104, 105, 106, 107, 108, 109, 110, 111, 112, 113, 114, 115, 116, 117, 118, 119, 120, 121, 122, 123, 124, 125, 126, 127, 128, 129, 130, 131, 132, 133, 134, 135, 136, 137, 138, 139, 140, 141, 142, 143, 144, 145, 146, 147, 148, 149, 150, 151, 152, 153, 154, 155, 156, 157, 158, 159, 160, 161, 162, 163, 164, 165, 166, 167, 168, 169, 170, 171, 172, 173, 174, 175, 176, 177, 178, 179, 180, 181, 182, 183, 184, 185, 186, 187, 188, 189, 190, 191, 192, 193, 194, 239, 240, 241, 242, 243, 244, 245, 246, 247, 234, 235, 236, 237, 238] (by decide +kernel) (by decide +kernel)
set_option maxRecDepth 20000 in
theorem gX11_rule_X3_read : GoodIn wsX11_rule (wsV RX11 152 RX3 yX3_read wsX3_read) := goodIn_app (goodIn_of _ (by decide +kernel)) ggX11_rule_X3_read
set_option maxRecDepth 20000 in
theorem ggX11_rule_X3_copyOfCode : GoodIn wsX11_rule wsX3_copyOfCode := goodIn_r _ [198, 125, 10, 199, 200, 201, 202, 203, 204, 205, 206, 207, 208, 209, 210, 211, 212, 213, 214, 215, 216, 217, 239, 240, 241, 242, 243, 244, 245, 246, 247] (by decide +kernel) (by decide +kernel)
set_option maxRecDepth 20000 in
theorem gX11_rule_X3_copyOfCode : GoodIn wsX11_rule (wsV RX11 153 RX3 yX3_copyOfCode wsX3_copyOfCode) := goodIn_app (goodIn_of _ (by decide +kernel)) ggX11_rule_X3_copyOfCode
theorem dX11_rule_0 : decode cX11_rule 0 = .ok (.aload_n 0, 1) := by decide +kernel
theorem dX11_rule_1 : decode cX11_rule 1 = .ok (.getfield 149, 3) := by decide +kernel
theorem dX11_rule_4 : decode cX11_rule 4 = .ok (.bipush 6, 2) := by decide +kernel
theorem dX11_rule_6 : decode cX11_rule 6 = .ok (.if_icmp .lt 5, 3) := by decide +kernel
theorem dX11_rule_9 : decode cX11_rule 9 = .ok (.iconst (-1), 1) := by decide +kernel
theorem dX11_rule_10 : decode cX11_rule 10 = .ok (.ireturn, 1) := by decide +kernel
theorem dX11_rule_11 : decode cX11_rule 11 = .ok (.aload_n 0, 1) := by decide +kernel
theorem dX11_rule_12 : decode cX11_rule 12 = .ok (.getfield 51, 3) := by decide +kernel
theorem dX11_rule_15 : decode cX11_rule 15 = .ok (.invokevirtual 152, 3) := by decide +kernel
theorem dX11_rule_18 : decode cX11_rule 18 = .ok (.istore_n 1, 1) := by decide +kernel
theorem dX11_rule_19 : decode cX11_rule 19 = .ok (.aload_n 0, 1) := by decide +kernel
theorem dX11_rule_20 : decode cX11_rule 20 = .ok (.getfield 10, 3) := by decide +kernel
theorem dX11_rule_23 : decode cX11_rule 23 = .ok (.iconst 0, 1) := by decide +kernel
theorem dX11_rule_24 : decode cX11_rule 24 = .ok (.putfield 116, 3) := by decide +kernel
theorem dX11_rule_27 : decode cX11_rule 27 = .ok (.iload_n 1, 1) := by decide +kernel
theorem dX11_rule_28 : decode cX11_rule 28 = .ok (.ifCond .ne 14, 3) := by decide +kernel
theorem dX11_rule_31 : decode cX11_rule 31 = .ok (.bipush (-2), 2) := by decide +kernel
theorem dX11_rule_33 : decode cX11_rule 33 = .ok (.aload_n 0, 1) := by decide +kernel
theorem dX11_rule_34 : decode cX11_rule 34 = .ok (.getfield 10, 3) := by decide +kernel
theorem dX11_rule_37 : decode cX11_rule 37 = .ok (.getfield 124, 3) := by decide +kernel
theorem dX11_rule_40 : decode cX11_rule 40 = .ok (.isub, 1) := by decide +kernel
theorem dX11_rule_41 : decode cX11_rule 41 = .ok (.ireturn, 1) := by decide +kernel
theorem dX11_rule_42 : decode cX11_rule 42 = .ok (.aload_n 0, 1) := by decide +kernel
theorem dX11_rule_43 : decode cX11_rule 43 = .ok (.getfield 35, 3) := by decide +kernel
theorem dX11_rule_46 : decode cX11_rule 46 = .ok (.aload_n 0, 1) := by decide +kernel
theorem dX11_rule_47 : decode cX11_rule 47 = .ok (.getfield 149, 3) := by decide +kernel
theorem dX11_rule_50 : decode cX11_rule 50 = .ok (.aload_n 0, 1) := by decide +kernel
theorem dX11_rule_51 : decode cX11_rule 51 = .ok (.getfield 51, 3) := by decide +kernel
theorem dX11_rule_54 : decode cX11_rule 54 = .ok (.invokevirtual 153, 3) := by decide +kernel
theorem dX11_rule_57 : decode cX11_rule 57 = .ok (.aastore, 1) := by decide +kernel
theorem dX11_rule_58 : decode cX11_rule 58 = .ok (.aload_n 0, 1) := by decide +kernel
theorem dX11_rule_59 : decode cX11_rule 59 = .ok (.dup, 1) := by decide +kernel
theorem dX11_rule_60 : decode cX11_rule 60 = .ok (.getfield 149, 3) := by decide +kernel
theorem dX11_rule_63 : decode cX11_rule 63 = .ok (.iconst 1, 1) := by decide +kernel
theorem dX11_rule_64 : decode cX11_rule 64 = .ok (.iadd, 1) := by decide +kernel
theorem dX11_rule_65 : decode cX11_rule 65 = .ok (.putfield 149, 3) := by decide +kernel
theorem dX11_rule_68 : decode cX11_rule 68 = .ok (.aload_n 0, 1) := by decide +kernel
theorem dX11_rule_69 : decode cX11_rule 69 = .ok (.getfield 149, 3) := by decide +kernel
theorem dX11_rule_72 : decode cX11_rule 72 = .ok (.iconst 1, 1) := by decide +kernel
theorem dX11_rule_73 : decode cX11_rule 73 = .ok (.isub, 1) := by decide +kernel
theorem dX11_rule_74 : decode cX11_rule 74 = .ok (.ireturn, 1) := by decide +kernel
set_option maxRecDepth 20000 in
theorem ggX11_force_X11_enforce : GoodIn wsX11_force wsX11_enforce := goodIn_r _ [7, 2, 8, 9, 10, 11, 12, 13, 14, 15, 16, 17, 18, 19, 20, 21, 22, 23, 24, 25, 26, 27, 28, 29, 30, 31, 32, 33, 34, 35, 36, 37, 38, 39, 40, 41, 42, 43, 44, 45, 46, 47, 48] (by decide +kernel) (by decide +kernel)
set_option maxRecDepth 20000 in
theorem gX11_force_X11_enforce : GoodIn wsX11_force (wsV RX11 160 RX11 yX11_enforce wsX11_enforce) := goodIn_app (goodIn_of _ (by decide +kernel)) ggX11_force_X11_enforce
theorem dX11_force_0 : decode cX11_force 0 = .ok (.iload_n 1, 1) := by decide +kernel
theorem dX11_force_1 : decode cX11_force 1 = .ok (.iconst (-1), 1) := by decide +kernel
theorem dX11_force_2 : decode cX11_force 2 = .ok (.if_icmp .lt 11, 3) := by decide +kernel
theorem dX11_force_5 : decode cX11_force 5 = .ok (.iload_n 1, 1) := by decide +kernel
theorem dX11_force_6 : decode cX11_force 6 = .ok (.aload_n 0, 1) := by decide +kernel
theorem dX11_force_7 : decode cX11_force 7 = .ok (.getfield 149, 3) := by decide +kernel
theorem dX11_force_10 : decode cX11_force 10 = .ok (.if_icmp .lt 6, 3) := by decide +kernel
theorem dX11_force_13 : decode cX11_force 13 = .ok (.bipush (-2), 2) := by decide +kernel
theorem dX11_force_15 : decode cX11_force 15 = .ok (.ireturn, 1) := by decide +kernel
theorem dX11_force_16 : decode cX11_force 16 = .ok (.aload_n 0, 1) := by decide +kernel
theorem dX11_force_17 : decode cX11_force 17 = .ok (.getfield 19, 3) := by decide +kernel
theorem dX11_force_20 : decode cX11_force 20 = .ok (.getfield 157, 3) := by decide +kernel
theorem dX11_force_23 : decode cX11_force 23 = .ok (.istore_n 2, 1) := by decide +kernel
theorem dX11_force_24 : decode cX11_force 24 = .ok (.aload_n 0, 1) := by decide +kernel
theorem dX11_force_25 : decode cX11_force 25 = .ok (.getfield 19, 3) := by decide +kernel
theorem dX11_force_28 : decode cX11_force 28 = .ok (.iload_n 1, 1) := by decide +kernel
theorem dX11_force_29 : decode cX11_force 29 = .ok (.putfield 157, 3) := by decide +kernel
theorem dX11_force_32 : decode cX11_force 32 = .ok (.aload_n 0, 1) := by decide +kernel
theorem dX11_force_33 : decode cX11_force 33 = .ok (.invokevirtual 160, 3) := by decide +kernel
theorem dX11_force_36 : decode cX11_force 36 = .ok (.iload_n 2, 1) := by decide +kernel
theorem dX11_force_37 : decode cX11_force 37 = .ok (.ireturn, 1) := by decide +kernel
theorem dX11_enforce_0 : decode cX11_enforce 0 = .ok (.aload_n 0, 1) := by decide +kernel
theorem dX11_enforce_1 : decode cX11_enforce 1 = .ok (.getfield 19, 3) := by decide +kernel
theorem dX11_enforce_4 : decode cX11_enforce 4 = .ok (.getfield 157, 3) := by decide +kernel
theorem dX11_enforce_7 : decode cX11_enforce 7 = .ok (.ifCond .lt 19, 3) := by decide +kernel
theorem dX11_enforce_10 : decode cX11_enforce 10 = .ok (.aload_n 0, 1) := by decide +kernel
theorem dX11_enforce_11 : decode cX11_enforce 11 = .ok (.getfield 19, 3) := by decide +kernel
theorem dX11_enforce_14 : decode cX11_enforce 14 = .ok (.getfield 157, 3) := by decide +kernel
theorem dX11_enforce_17 : decode cX11_enforce 17 = .ok (.bipush 6, 2) := by decide +kernel
theorem dX11_enforce_19 : decode cX11_enforce 19 = .ok (.if_icmp .ge 7, 3) := by decide +kernel
theorem dX11_enforce_22 : decode cX11_enforce 22 = .ok (.iconst 1, 1) := by decide +kernel
theorem dX11_enforce_23 : decode cX11_enforce 23 = .ok (.goto 4, 3) := by decide +kernel
theorem dX11_enforce_26 : decode cX11_enforce 26 = .ok (.iconst 0, 1) := by decide +kernel
theorem dX11_enforce_27 : decode cX11_enforce 27 = .ok (.istore_n 1, 1) := by decide +kernel
theorem dX11_enforce_28 : decode cX11_enforce 28 = .ok (.aload_n 0, 1) := by decide +kernel
theorem dX11_enforce_29 : decode cX11_enforce 29 = .ok (.getfield 64, 3) := by decide +kernel
theorem dX11_enforce_32 : decode cX11_enforce 32 = .ok (.iload_n 1, 1) := by decide +kernel
theorem dX11_enforce_33 : decode cX11_enforce 33 = .ok (.ifCond .eq 18, 3) := by decide +kernel
theorem dX11_enforce_36 : decode cX11_enforce 36 = .ok (.aload_n 0, 1) := by decide +kernel
theorem dX11_enforce_37 : decode cX11_enforce 37 = .ok (.getfield 35, 3) := by decide +kernel
theorem dX11_enforce_40 : decode cX11_enforce 40 = .ok (.aload_n 0, 1) := by decide +kernel
theorem dX11_enforce_41 : decode cX11_enforce 41 = .ok (.getfield 19, 3) := by decide +kernel
theorem dX11_enforce_44 : decode cX11_enforce 44 = .ok (.getfield 157, 3) := by decide +kernel
theorem dX11_enforce_47 : decode cX11_enforce 47 = .ok (.aaload, 1) := by decide +kernel
theorem dX11_enforce_48 : decode cX11_enforce 48 = .ok (.goto 6, 3) := by decide +kernel
theorem dX11_enforce_51 : decode cX11_enforce 51 = .ok (.getstatic 105, 3) := by decide +kernel
theorem dX11_enforce_54 : decode cX11_enforce 54 = .ok (.putfield 163, 3) := by decide +kernel
theorem dX11_enforce_57 : decode cX11_enforce 57 = .ok (.return_, 1) := by decide +kernel
theorem dX11_isPlace_0 : decode cX11_isPlace 0 = .ok (.iload_n 1, 1) := by decide +kernel
theorem dX11_isPlace_1 : decode cX11_isPlace 1 = .ok (.ifCond .lt 21, 3) := by decide +kernel
