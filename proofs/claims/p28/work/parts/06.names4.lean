theorem dX12_sum_18 : decode cX12_sum 18 = .ok (.aload_n 0, 1) := by decide +kernel
theorem dX12_sum_19 : decode cX12_sum 19 = .ok (.invokevirtual 93, 3) := by decide +kernel
theorem dX12_sum_22 : decode cX12_sum 22 = .ok (.bipush 45, 2) := by decide +kernel
theorem dX12_sum_24 : decode cX12_sum 24 = .ok (.if_icmp .ne 51, 3) := by decide +kernel
theorem dX12_sum_27 : decode cX12_sum 27 = .ok (.aload_n 0, 1) := by decide +kernel
theorem dX12_sum_28 : decode cX12_sum 28 = .ok (.getfield 7, 3) := by decide +kernel
theorem dX12_sum_31 : decode cX12_sum 31 = .ok (.aload_n 0, 1) := by decide +kernel
theorem dX12_sum_32 : decode cX12_sum 32 = .ok (.getfield 90, 3) := by decide +kernel
theorem dX12_sum_35 : decode cX12_sum 35 = .ok (.baload, 1) := by decide +kernel
theorem dX12_sum_36 : decode cX12_sum 36 = .ok (.bipush 43, 2) := by decide +kernel
theorem dX12_sum_38 : decode cX12_sum 38 = .ok (.if_icmp .ne 7, 3) := by decide +kernel
theorem dX12_sum_41 : decode cX12_sum 41 = .ok (.iconst 2, 1) := by decide +kernel
theorem dX12_sum_42 : decode cX12_sum 42 = .ok (.goto 4, 3) := by decide +kernel
theorem dX12_sum_45 : decode cX12_sum 45 = .ok (.iconst 3, 1) := by decide +kernel
theorem dX12_sum_46 : decode cX12_sum 46 = .ok (.istore_n 1, 1) := by decide +kernel
theorem dX12_sum_47 : decode cX12_sum 47 = .ok (.aload_n 0, 1) := by decide +kernel
theorem dX12_sum_48 : decode cX12_sum 48 = .ok (.dup, 1) := by decide +kernel
theorem dX12_sum_49 : decode cX12_sum 49 = .ok (.getfield 90, 3) := by decide +kernel
theorem dX12_sum_52 : decode cX12_sum 52 = .ok (.iconst 1, 1) := by decide +kernel
theorem dX12_sum_53 : decode cX12_sum 53 = .ok (.iadd, 1) := by decide +kernel
theorem dX12_sum_54 : decode cX12_sum 54 = .ok (.putfield 90, 3) := by decide +kernel
theorem dX12_sum_57 : decode cX12_sum 57 = .ok (.aload_n 0, 1) := by decide +kernel
theorem dX12_sum_58 : decode cX12_sum 58 = .ok (.invokevirtual 176, 3) := by decide +kernel
theorem dX12_sum_61 : decode cX12_sum 61 = .ok (.ifCond .ne 5, 3) := by decide +kernel
theorem dX12_sum_64 : decode cX12_sum 64 = .ok (.iconst 0, 1) := by decide +kernel
theorem dX12_sum_65 : decode cX12_sum 65 = .ok (.ireturn, 1) := by decide +kernel
theorem dX12_sum_66 : decode cX12_sum 66 = .ok (.aload_n 0, 1) := by decide +kernel
theorem dX12_sum_67 : decode cX12_sum 67 = .ok (.iload_n 1, 1) := by decide +kernel
theorem dX12_sum_68 : decode cX12_sum 68 = .ok (.iconst 0, 1) := by decide +kernel
theorem dX12_sum_69 : decode cX12_sum 69 = .ok (.invokevirtual 158, 3) := by decide +kernel
theorem dX12_sum_72 : decode cX12_sum 72 = .ok (.goto (-63), 3) := by decide +kernel
theorem dX12_sum_75 : decode cX12_sum 75 = .ok (.iconst 1, 1) := by decide +kernel
theorem dX12_sum_76 : decode cX12_sum 76 = .ok (.ireturn, 1) := by decide +kernel
set_option maxRecDepth 20000 in
theorem ggX12_compare_X12_sum : GoodIn wsX12_compare wsX12_sum := goodIn_r _ [8, 3, 1, 9, 10, 11, 7, 12, 13, 14, 15, 16, 17, 18, 19, 20, 21, 22, 2, 23, 24, 25, 26, 27, 28, 29, 30, 31, 32, 33, 34, 35, 36, 37, 38, 39, 40, 41, 42, 43, 44, 45, 46, 47, 48, 49, 50, 51, 52, 53, 54, 55, 56, 57, 58, 59, 60, 61, 62, 63, 64, 65, 66, 67, 68, 69, 70, 71, 72, 73, 74, 75, 76, 77, 78, 79, 80, 81, 82, 83, 84, 85, 86, 87, 88, 89, 90, 91, 92, 93, 94, 95, 96, 97, 98, 99, 100, 101, 102, 103, 104, 105, 106, 107, 108, 109, 110, 111, 112, 113, 114] (by decide +kernel) (by decide +kernel)
set_option maxRecDepth 20000 in
theorem gX12_compare_X12_sum : GoodIn wsX12_compare (wsV RX12 179 RX12 yX12_sum wsX12_sum) := goodIn_app (goodIn_of _ (by decide +kernel)) ggX12_compare_X12_sum
set_option maxRecDepth 20000 in
theorem ggX12_compare_X12_see : GoodIn wsX12_compare wsX12_see := goodIn_r _ [22, 1, 2, 3, 77, 78, 79, 80, 81, 82, 83, 84, 85, 86, 87, 88, 89, 90, 91, 92, 93, 94, 95, 96, 97, 98, 99, 100, 101, 102, 103, 104, 105, 106, 107, 108, 109, 110, 111, 112, 113, 114] (by decide +kernel) (by decide +kernel)
set_option maxRecDepth 20000 in
theorem gX12_compare_X12_see : GoodIn wsX12_compare (wsV RX12 93 RX12 yX12_see wsX12_see) := goodIn_app (goodIn_of _ (by decide +kernel)) ggX12_compare_X12_see
set_option maxRecDepth 20000 in
theorem ggX12_compare_X12_fails : GoodIn wsX12_compare wsX12_fails := goodIn_r _ [34, 35, 77, 78, 79, 80, 81, 82, 83, 84, 85, 86, 87, 88, 89, 90, 91, 92, 93, 94, 95, 96, 97, 98, 99, 100, 101, 102, 103, 104, 105, 106, 107, 108, 109, 110, 111, 112, 113, 114] (by decide +kernel) (by decide +kernel)
set_option maxRecDepth 20000 in
theorem gX12_compare_X12_fails : GoodIn wsX12_compare (wsV RX12 111 RX12 yX12_fails wsX12_fails) := goodIn_app (goodIn_of _ (by decide +kernel)) ggX12_compare_X12_fails
set_option maxRecDepth 20000 in
theorem ggX12_compare_X12_makes : GoodIn wsX12_compare wsX12_makes := goodIn_r _ [42, 43, 31, 32, 33, 7, 34, 35, 77, 78, 79, 80, 81, 82, 83, 84, 85, 86, 87, 88, 89, 90, 91, 92, 93, 94, 95, 96, 97, 98, 99, 100, 101, 102, 103, 104, 105, 106, 107, 108, 109, 110, 111, 112, 113, 114] (by decide +kernel) (by decide +kernel)
set_option maxRecDepth 20000 in
theorem gX12_compare_X12_makes : GoodIn wsX12_compare (wsV RX12 166 RX12 yX12_makes wsX12_makes) := goodIn_app (goodIn_of _ (by decide +kernel)) ggX12_compare_X12_makes
set_option maxRecDepth 20000 in
theorem ggX12_compare_X12_puts : GoodIn wsX12_compare wsX12_puts := goodIn_r _ [47, 48, 49, 50, 77, 78, 79, 80, 81, 82, 83, 84, 85, 86, 87, 88, 89, 90, 91, 92, 93, 94, 95, 96, 97, 98, 99, 100, 101, 102, 103, 104, 105, 106, 107, 108, 109, 110, 111, 112, 113, 114] (by decide +kernel) (by decide +kernel)
set_option maxRecDepth 20000 in
theorem gX12_compare_X12_puts : GoodIn wsX12_compare (wsV RX12 158 RX12 yX12_puts wsX12_puts) := goodIn_app (goodIn_of _ (by decide +kernel)) ggX12_compare_X12_puts
theorem dX12_compare_0 : decode cX12_compare 0 = .ok (.aload_n 0, 1) := by decide +kernel
theorem dX12_compare_1 : decode cX12_compare 1 = .ok (.invokevirtual 179, 3) := by decide +kernel
theorem dX12_compare_4 : decode cX12_compare 4 = .ok (.ifCond .ne 5, 3) := by decide +kernel
theorem dX12_compare_7 : decode cX12_compare 7 = .ok (.iconst 0, 1) := by decide +kernel
theorem dX12_compare_8 : decode cX12_compare 8 = .ok (.ireturn, 1) := by decide +kernel
theorem dX12_compare_9 : decode cX12_compare 9 = .ok (.aload_n 0, 1) := by decide +kernel
theorem dX12_compare_10 : decode cX12_compare 10 = .ok (.invokevirtual 93, 3) := by decide +kernel
theorem dX12_compare_13 : decode cX12_compare 13 = .ok (.istore_n 1, 1) := by decide +kernel
theorem dX12_compare_14 : decode cX12_compare 14 = .ok (.aload_n 0, 1) := by decide +kernel
theorem dX12_compare_15 : decode cX12_compare 15 = .ok (.getfield 90, 3) := by decide +kernel
theorem dX12_compare_18 : decode cX12_compare 18 = .ok (.istore_n 2, 1) := by decide +kernel
theorem dX12_compare_19 : decode cX12_compare 19 = .ok (.iload_n 1, 1) := by decide +kernel
theorem dX12_compare_20 : decode cX12_compare 20 = .ok (.bipush 60, 2) := by decide +kernel
theorem dX12_compare_22 : decode cX12_compare 22 = .ok (.if_icmp .eq 22, 3) := by decide +kernel
theorem dX12_compare_25 : decode cX12_compare 25 = .ok (.iload_n 1, 1) := by decide +kernel
theorem dX12_compare_26 : decode cX12_compare 26 = .ok (.bipush 61, 2) := by decide +kernel
theorem dX12_compare_28 : decode cX12_compare 28 = .ok (.if_icmp .eq 16, 3) := by decide +kernel
theorem dX12_compare_31 : decode cX12_compare 31 = .ok (.iload_n 1, 1) := by decide +kernel
theorem dX12_compare_32 : decode cX12_compare 32 = .ok (.bipush 62, 2) := by decide +kernel
theorem dX12_compare_34 : decode cX12_compare 34 = .ok (.if_icmp .eq 10, 3) := by decide +kernel
theorem dX12_compare_37 : decode cX12_compare 37 = .ok (.aload_n 0, 1) := by decide +kernel
theorem dX12_compare_38 : decode cX12_compare 38 = .ok (.iconst 0, 1) := by decide +kernel
theorem dX12_compare_39 : decode cX12_compare 39 = .ok (.iload_n 2, 1) := by decide +kernel
theorem dX12_compare_40 : decode cX12_compare 40 = .ok (.invokevirtual 111, 3) := by decide +kernel
theorem dX12_compare_43 : decode cX12_compare 43 = .ok (.ireturn, 1) := by decide +kernel
theorem dX12_compare_44 : decode cX12_compare 44 = .ok (.aload_n 0, 1) := by decide +kernel
theorem dX12_compare_45 : decode cX12_compare 45 = .ok (.dup, 1) := by decide +kernel
theorem dX12_compare_46 : decode cX12_compare 46 = .ok (.getfield 90, 3) := by decide +kernel
theorem dX12_compare_49 : decode cX12_compare 49 = .ok (.iconst 1, 1) := by decide +kernel
theorem dX12_compare_50 : decode cX12_compare 50 = .ok (.iadd, 1) := by decide +kernel
theorem dX12_compare_51 : decode cX12_compare 51 = .ok (.putfield 90, 3) := by decide +kernel
theorem dX12_compare_54 : decode cX12_compare 54 = .ok (.iload_n 1, 1) := by decide +kernel
theorem dX12_compare_55 : decode cX12_compare 55 = .ok (.bipush 61, 2) := by decide +kernel
theorem dX12_compare_57 : decode cX12_compare 57 = .ok (.if_icmp .eq 32, 3) := by decide +kernel
theorem dX12_compare_60 : decode cX12_compare 60 = .ok (.aload_n 0, 1) := by decide +kernel
theorem dX12_compare_61 : decode cX12_compare 61 = .ok (.getfield 90, 3) := by decide +kernel
theorem dX12_compare_64 : decode cX12_compare 64 = .ok (.aload_n 0, 1) := by decide +kernel
theorem dX12_compare_65 : decode cX12_compare 65 = .ok (.getfield 80, 3) := by decide +kernel
theorem dX12_compare_68 : decode cX12_compare 68 = .ok (.if_icmp .ge 21, 3) := by decide +kernel
theorem dX12_compare_71 : decode cX12_compare 71 = .ok (.aload_n 0, 1) := by decide +kernel
theorem dX12_compare_72 : decode cX12_compare 72 = .ok (.getfield 7, 3) := by decide +kernel
theorem dX12_compare_75 : decode cX12_compare 75 = .ok (.aload_n 0, 1) := by decide +kernel
theorem dX12_compare_76 : decode cX12_compare 76 = .ok (.getfield 90, 3) := by decide +kernel
theorem dX12_compare_79 : decode cX12_compare 79 = .ok (.baload, 1) := by decide +kernel
theorem dX12_compare_80 : decode cX12_compare 80 = .ok (.bipush 61, 2) := by decide +kernel
theorem dX12_compare_82 : decode cX12_compare 82 = .ok (.if_icmp .ne 7, 3) := by decide +kernel
theorem dX12_compare_85 : decode cX12_compare 85 = .ok (.iconst 1, 1) := by decide +kernel
theorem dX12_compare_86 : decode cX12_compare 86 = .ok (.goto 4, 3) := by decide +kernel
theorem dX12_compare_89 : decode cX12_compare 89 = .ok (.iconst 0, 1) := by decide +kernel
theorem dX12_compare_90 : decode cX12_compare 90 = .ok (.istore_n 3, 1) := by decide +kernel
theorem dX12_compare_91 : decode cX12_compare 91 = .ok (.iload_n 3, 1) := by decide +kernel
theorem dX12_compare_92 : decode cX12_compare 92 = .ok (.ifCond .eq 13, 3) := by decide +kernel
theorem dX12_compare_95 : decode cX12_compare 95 = .ok (.aload_n 0, 1) := by decide +kernel
theorem dX12_compare_96 : decode cX12_compare 96 = .ok (.dup, 1) := by decide +kernel
theorem dX12_compare_97 : decode cX12_compare 97 = .ok (.getfield 90, 3) := by decide +kernel
theorem dX12_compare_100 : decode cX12_compare 100 = .ok (.iconst 1, 1) := by decide +kernel
theorem dX12_compare_101 : decode cX12_compare 101 = .ok (.iadd, 1) := by decide +kernel
theorem dX12_compare_102 : decode cX12_compare 102 = .ok (.putfield 90, 3) := by decide +kernel
theorem dX12_compare_105 : decode cX12_compare 105 = .ok (.aload_n 0, 1) := by decide +kernel
theorem dX12_compare_106 : decode cX12_compare 106 = .ok (.iload_n 2, 1) := by decide +kernel
theorem dX12_compare_107 : decode cX12_compare 107 = .ok (.invokevirtual 166, 3) := by decide +kernel
theorem dX12_compare_110 : decode cX12_compare 110 = .ok (.ifCond .ne 5, 3) := by decide +kernel
theorem dX12_compare_113 : decode cX12_compare 113 = .ok (.iconst 0, 1) := by decide +kernel
theorem dX12_compare_114 : decode cX12_compare 114 = .ok (.ireturn, 1) := by decide +kernel
theorem dX12_compare_115 : decode cX12_compare 115 = .ok (.iload_n 1, 1) := by decide +kernel
theorem dX12_compare_116 : decode cX12_compare 116 = .ok (.bipush 60, 2) := by decide +kernel
theorem dX12_compare_118 : decode cX12_compare 118 = .ok (.if_icmp .ne 15, 3) := by decide +kernel
theorem dX12_compare_121 : decode cX12_compare 121 = .ok (.iload_n 3, 1) := by decide +kernel
theorem dX12_compare_122 : decode cX12_compare 122 = .ok (.ifCond .eq 7, 3) := by decide +kernel
theorem dX12_compare_125 : decode cX12_compare 125 = .ok (.iconst 1, 1) := by decide +kernel
theorem dX12_compare_126 : decode cX12_compare 126 = .ok (.goto 26, 3) := by decide +kernel
theorem dX12_compare_129 : decode cX12_compare 129 = .ok (.iconst 0, 1) := by decide +kernel
theorem dX12_compare_130 : decode cX12_compare 130 = .ok (.goto 22, 3) := by decide +kernel
theorem dX12_compare_133 : decode cX12_compare 133 = .ok (.iload_n 1, 1) := by decide +kernel
theorem dX12_compare_134 : decode cX12_compare 134 = .ok (.bipush 61, 2) := by decide +kernel
theorem dX12_compare_136 : decode cX12_compare 136 = .ok (.if_icmp .ne 7, 3) := by decide +kernel
theorem dX12_compare_139 : decode cX12_compare 139 = .ok (.iconst 2, 1) := by decide +kernel
theorem dX12_compare_140 : decode cX12_compare 140 = .ok (.goto 12, 3) := by decide +kernel
theorem dX12_compare_143 : decode cX12_compare 143 = .ok (.iload_n 3, 1) := by decide +kernel
theorem dX12_compare_144 : decode cX12_compare 144 = .ok (.ifCond .eq 7, 3) := by decide +kernel
theorem dX12_compare_147 : decode cX12_compare 147 = .ok (.iconst 3, 1) := by decide +kernel
theorem dX12_compare_148 : decode cX12_compare 148 = .ok (.goto 4, 3) := by decide +kernel
theorem dX12_compare_151 : decode cX12_compare 151 = .ok (.iconst 4, 1) := by decide +kernel
theorem dX12_compare_152 : decode cX12_compare 152 = .ok (.istore 4, 2) := by decide +kernel
theorem dX12_compare_154 : decode cX12_compare 154 = .ok (.aload_n 0, 1) := by decide +kernel
theorem dX12_compare_155 : decode cX12_compare 155 = .ok (.invokevirtual 179, 3) := by decide +kernel
theorem dX12_compare_158 : decode cX12_compare 158 = .ok (.ifCond .ne 5, 3) := by decide +kernel
theorem dX12_compare_161 : decode cX12_compare 161 = .ok (.iconst 0, 1) := by decide +kernel
theorem dX12_compare_162 : decode cX12_compare 162 = .ok (.ireturn, 1) := by decide +kernel
theorem dX12_compare_163 : decode cX12_compare 163 = .ok (.aload_n 0, 1) := by decide +kernel
theorem dX12_compare_164 : decode cX12_compare 164 = .ok (.bipush 6, 2) := by decide +kernel
theorem dX12_compare_166 : decode cX12_compare 166 = .ok (.iload 4, 2) := by decide +kernel
theorem dX12_compare_168 : decode cX12_compare 168 = .ok (.iadd, 1) := by decide +kernel
theorem dX12_compare_169 : decode cX12_compare 169 = .ok (.iconst 0, 1) := by decide +kernel
theorem dX12_compare_170 : decode cX12_compare 170 = .ok (.invokevirtual 158, 3) := by decide +kernel
theorem dX12_compare_173 : decode cX12_compare 173 = .ok (.iconst 1, 1) := by decide +kernel
theorem dX12_compare_174 : decode cX12_compare 174 = .ok (.ireturn, 1) := by decide +kernel
set_option maxRecDepth 20000 in
theorem ggX12_fact_X12_see : GoodIn wsX12_fact wsX12_see := goodIn_r _ [7, 2, 8, 9, 89, 90, 91, 92, 93, 94, 95, 96, 97, 98, 99, 100, 101, 102, 103, 104, 105, 106, 107, 108, 109, 110, 111, 112, 113, 114, 115, 116, 117, 118, 119, 120, 121, 122, 123, 124, 125, 126] (by decide +kernel) (by decide +kernel)
set_option maxRecDepth 20000 in
theorem gX12_fact_X12_see : GoodIn wsX12_fact (wsV RX12 93 RX12 yX12_see wsX12_see) := goodIn_app (goodIn_of _ (by decide +kernel)) ggX12_fact_X12_see
set_option maxRecDepth 20000 in
theorem ggX12_fact_X12_isWord : GoodIn wsX12_fact wsX12_isWord := goodIn_r _ [13, 2, 9, 3, 4, 5, 6, 7, 8, 14, 15, 16, 17, 89, 90, 91, 92, 93, 94, 95, 96, 97, 98, 99, 100, 101, 102, 103, 104, 105, 106, 107, 108, 109, 110, 111, 112, 113, 114, 115, 116, 117, 118, 119, 120, 121, 122, 123, 124, 125, 126] (by decide +kernel) (by decide +kernel)
set_option maxRecDepth 20000 in
theorem gX12_fact_X12_isWord : GoodIn wsX12_fact (wsV RX12 101 RX12 yX12_isWord wsX12_isWord) := goodIn_app (goodIn_of _ (by decide +kernel)) ggX12_fact_X12_isWord
set_option maxRecDepth 20000 in
theorem ggX12_fact_X12_opens : GoodIn wsX12_fact wsX12_opens := goodIn_r _ [21, 22, 2, 23, 24, 25, 26, 27, 6, 28, 29, 89, 90, 91, 92, 93, 94, 95, 96, 97, 98, 99, 100, 101, 102, 103, 104, 105, 106, 107, 108, 109, 110, 111, 112, 113, 114, 115, 116, 117, 118, 119, 120, 121, 122, 123, 124, 125, 126] (by decide +kernel) (by decide +kernel)
set_option maxRecDepth 20000 in
theorem gX12_fact_X12_opens : GoodIn wsX12_fact (wsV RX12 184 RX12 yX12_opens wsX12_opens) := goodIn_app (goodIn_of _ (by decide +kernel)) ggX12_fact_X12_opens
set_option maxRecDepth 20000 in
theorem ggX12_fact_X12_passWord : GoodIn wsX12_fact wsX12_passWord := goodIn_r _ [33, 2, 14, 15, 16, 6, 17, 8, 9, 89, 90, 91, 92, 93, 94, 95, 96, 97, 98, 99, 100, 101, 102, 103, 104, 105, 106, 107, 108, 109, 110, 111, 112, 113, 114, 115, 116, 117, 118, 119, 120, 121, 122, 123, 124, 125, 126] (by decide +kernel) (by decide +kernel)
set_option maxRecDepth 20000 in
theorem gX12_fact_X12_passWord : GoodIn wsX12_fact (wsV RX12 105 RX12 yX12_passWord wsX12_passWord) := goodIn_app (goodIn_of _ (by decide +kernel)) ggX12_fact_X12_passWord
set_option maxRecDepth 20000 in
theorem ggX12_fact_X12_compare : GoodIn wsX12_fact wsX12_compare := goodIn_r _ [37, 2, 8, 9, 38, 39, 40, 6, 41, 42, 43, 44, 45, 46, 47, 48, 49, 50, 51, 3, 4, 5, 7, 52, 53, 54, 55, 56, 57, 58, 59, 25, 26, 27, 28, 29, 60, 61, 62, 63, 64, 65, 66, 67, 68, 69, 70, 71, 72, 73, 74, 75, 76, 77, 78, 79, 80, 81, 82, 83, 84, 85, 86, 87, 88, 10, 11, 12, 13, 14, 15, 16, 17, 30, 31, 32, 33, 89, 90, 91, 92, 93, 94, 95, 96, 97, 98, 99, 100, 101, 102, 103, 104, 105, 106, 107, 108, 109, 110, 111, 112, 113, 114, 115, 116, 117, 118, 119, 120, 121, 122, 123, 124, 125, 126] (by decide +kernel) (by decide +kernel)
set_option maxRecDepth 20000 in
theorem gX12_fact_X12_compare : GoodIn wsX12_fact (wsV RX12 187 RX12 yX12_compare wsX12_compare) := goodIn_app (goodIn_of _ (by decide +kernel)) ggX12_fact_X12_compare
theorem dX12_fact_0 : decode cX12_fact 0 = .ok (.iconst 1, 1) := by decide +kernel
theorem dX12_fact_1 : decode cX12_fact 1 = .ok (.istore_n 1, 1) := by decide +kernel
theorem dX12_fact_2 : decode cX12_fact 2 = .ok (.iload_n 1, 1) := by decide +kernel
theorem dX12_fact_3 : decode cX12_fact 3 = .ok (.ifCond .eq 72, 3) := by decide +kernel
theorem dX12_fact_6 : decode cX12_fact 6 = .ok (.iconst 0, 1) := by decide +kernel
theorem dX12_fact_7 : decode cX12_fact 7 = .ok (.istore_n 1, 1) := by decide +kernel
theorem dX12_fact_8 : decode cX12_fact 8 = .ok (.aload_n 0, 1) := by decide +kernel
theorem dX12_fact_9 : decode cX12_fact 9 = .ok (.invokevirtual 93, 3) := by decide +kernel
theorem dX12_fact_12 : decode cX12_fact 12 = .ok (.istore_n 2, 1) := by decide +kernel
theorem dX12_fact_13 : decode cX12_fact 13 = .ok (.aload_n 0, 1) := by decide +kernel
theorem dX12_fact_14 : decode cX12_fact 14 = .ok (.ldc2_w 182, 3) := by decide +kernel
theorem dX12_fact_17 : decode cX12_fact 17 = .ok (.invokevirtual 101, 3) := by decide +kernel
theorem dX12_fact_20 : decode cX12_fact 20 = .ok (.ifCond .eq 23, 3) := by decide +kernel
theorem dX12_fact_23 : decode cX12_fact 23 = .ok (.aload_n 0, 1) := by decide +kernel
theorem dX12_fact_24 : decode cX12_fact 24 = .ok (.bipush 11, 2) := by decide +kernel
theorem dX12_fact_26 : decode cX12_fact 26 = .ok (.invokevirtual 184, 3) := by decide +kernel
theorem dX12_fact_29 : decode cX12_fact 29 = .ok (.ifCond .ne 5, 3) := by decide +kernel
theorem dX12_fact_32 : decode cX12_fact 32 = .ok (.iconst 0, 1) := by decide +kernel
theorem dX12_fact_33 : decode cX12_fact 33 = .ok (.ireturn, 1) := by decide +kernel
theorem dX12_fact_34 : decode cX12_fact 34 = .ok (.aload_n 0, 1) := by decide +kernel
theorem dX12_fact_35 : decode cX12_fact 35 = .ok (.invokevirtual 105, 3) := by decide +kernel
theorem dX12_fact_38 : decode cX12_fact 38 = .ok (.iconst 1, 1) := by decide +kernel
theorem dX12_fact_39 : decode cX12_fact 39 = .ok (.istore_n 1, 1) := by decide +kernel
theorem dX12_fact_40 : decode cX12_fact 40 = .ok (.goto 32, 3) := by decide +kernel
theorem dX12_fact_43 : decode cX12_fact 43 = .ok (.iload_n 2, 1) := by decide +kernel
theorem dX12_fact_44 : decode cX12_fact 44 = .ok (.bipush 91, 2) := by decide +kernel
theorem dX12_fact_46 : decode cX12_fact 46 = .ok (.if_icmp .ne 26, 3) := by decide +kernel
theorem dX12_fact_49 : decode cX12_fact 49 = .ok (.aload_n 0, 1) := by decide +kernel
theorem dX12_fact_50 : decode cX12_fact 50 = .ok (.bipush 91, 2) := by decide +kernel
theorem dX12_fact_52 : decode cX12_fact 52 = .ok (.invokevirtual 184, 3) := by decide +kernel
theorem dX12_fact_55 : decode cX12_fact 55 = .ok (.ifCond .ne 5, 3) := by decide +kernel
theorem dX12_fact_58 : decode cX12_fact 58 = .ok (.iconst 0, 1) := by decide +kernel
theorem dX12_fact_59 : decode cX12_fact 59 = .ok (.ireturn, 1) := by decide +kernel
theorem dX12_fact_60 : decode cX12_fact 60 = .ok (.aload_n 0, 1) := by decide +kernel
theorem dX12_fact_61 : decode cX12_fact 61 = .ok (.dup, 1) := by decide +kernel
theorem dX12_fact_62 : decode cX12_fact 62 = .ok (.getfield 90, 3) := by decide +kernel
theorem dX12_fact_65 : decode cX12_fact 65 = .ok (.iconst 1, 1) := by decide +kernel
theorem dX12_fact_66 : decode cX12_fact 66 = .ok (.iadd, 1) := by decide +kernel
theorem dX12_fact_67 : decode cX12_fact 67 = .ok (.putfield 90, 3) := by decide +kernel
theorem dX12_fact_70 : decode cX12_fact 70 = .ok (.iconst 1, 1) := by decide +kernel
theorem dX12_fact_71 : decode cX12_fact 71 = .ok (.istore_n 1, 1) := by decide +kernel
theorem dX12_fact_72 : decode cX12_fact 72 = .ok (.goto (-70), 3) := by decide +kernel
theorem dX12_fact_75 : decode cX12_fact 75 = .ok (.aload_n 0, 1) := by decide +kernel
theorem dX12_fact_76 : decode cX12_fact 76 = .ok (.invokevirtual 187, 3) := by decide +kernel
theorem dX12_fact_79 : decode cX12_fact 79 = .ok (.ireturn, 1) := by decide +kernel
theorem dX12_isInside_0 : decode cX12_isInside 0 = .ok (.iconst 0, 1) := by decide +kernel
theorem dX12_isInside_1 : decode cX12_isInside 1 = .ok (.istore_n 1, 1) := by decide +kernel
theorem dX12_isInside_2 : decode cX12_isInside 2 = .ok (.iload_n 1, 1) := by decide +kernel
theorem dX12_isInside_3 : decode cX12_isInside 3 = .ok (.aload_n 0, 1) := by decide +kernel
theorem dX12_isInside_4 : decode cX12_isInside 4 = .ok (.getfield 151, 3) := by decide +kernel
theorem dX12_isInside_7 : decode cX12_isInside 7 = .ok (.if_icmp .ge 22, 3) := by decide +kernel
theorem dX12_isInside_10 : decode cX12_isInside 10 = .ok (.aload_n 0, 1) := by decide +kernel
theorem dX12_isInside_11 : decode cX12_isInside 11 = .ok (.getfield 29, 3) := by decide +kernel
theorem dX12_isInside_14 : decode cX12_isInside 14 = .ok (.iload_n 1, 1) := by decide +kernel
theorem dX12_isInside_15 : decode cX12_isInside 15 = .ok (.iaload, 1) := by decide +kernel
theorem dX12_isInside_16 : decode cX12_isInside 16 = .ok (.bipush 91, 2) := by decide +kernel
theorem dX12_isInside_18 : decode cX12_isInside 18 = .ok (.if_icmp .ne 5, 3) := by decide +kernel
theorem dX12_isInside_21 : decode cX12_isInside 21 = .ok (.iconst 1, 1) := by decide +kernel
theorem dX12_isInside_22 : decode cX12_isInside 22 = .ok (.ireturn, 1) := by decide +kernel
theorem dX12_isInside_23 : decode cX12_isInside 23 = .ok (.iinc 1 1, 3) := by decide +kernel
theorem dX12_isInside_26 : decode cX12_isInside 26 = .ok (.goto (-24), 3) := by decide +kernel
theorem dX12_isInside_29 : decode cX12_isInside 29 = .ok (.iconst 0, 1) := by decide +kernel
theorem dX12_isInside_30 : decode cX12_isInside 30 = .ok (.ireturn, 1) := by decide +kernel
set_option maxRecDepth 20000 in
theorem ggX12_closes_X12_settles : GoodIn wsX12_closes wsX12_settles := goodIn_r _ [8, 1, 9, 2, 10, 11, 7, 12, 13, 14, 15, 16, 17, 18, 19, 30, 31, 32, 33, 34, 35, 36, 37, 38, 39, 40, 41, 42, 43, 44, 45, 46, 47, 48, 49, 50, 51, 52, 53, 54, 55, 56, 57, 58, 59, 60, 61, 62, 63, 64, 65, 66, 67] (by decide +kernel) (by decide +kernel)
set_option maxRecDepth 20000 in
theorem gX12_closes_X12_settles : GoodIn wsX12_closes (wsV RX12 190 RX12 yX12_settles wsX12_settles) := goodIn_app (goodIn_of _ (by decide +kernel)) ggX12_closes_X12_settles
set_option maxRecDepth 20000 in
theorem ggX12_closes_X12_see : GoodIn wsX12_closes wsX12_see := goodIn_r _ [23, 3, 24, 25, 30, 31, 32, 33, 34, 35, 36, 37, 38, 39, 40, 41, 42, 43, 44, 45, 46, 47, 48, 49, 50, 51, 52, 53, 54, 55, 56, 57, 58, 59, 60, 61, 62, 63, 64, 65, 66, 67] (by decide +kernel) (by decide +kernel)
set_option maxRecDepth 20000 in
theorem gX12_closes_X12_see : GoodIn wsX12_closes (wsV RX12 93 RX12 yX12_see wsX12_see) := goodIn_app (goodIn_of _ (by decide +kernel)) ggX12_closes_X12_see
set_option maxRecDepth 20000 in
theorem ggX12_closes_X12_isInside : GoodIn wsX12_closes wsX12_isInside := goodIn_r _ [29, 1, 9, 30, 31, 32, 33, 34, 35, 36, 37, 38, 39, 40, 41, 42, 43, 44, 45, 46, 47, 48, 49, 50, 51, 52, 53, 54, 55, 56, 57, 58, 59, 60, 61, 62, 63, 64, 65, 66, 67] (by decide +kernel) (by decide +kernel)
set_option maxRecDepth 20000 in
theorem gX12_closes_X12_isInside : GoodIn wsX12_closes (wsV RX12 193 RX12 yX12_isInside wsX12_isInside) := goodIn_app (goodIn_of _ (by decide +kernel)) ggX12_closes_X12_isInside
theorem dX12_closes_0 : decode cX12_closes 0 = .ok (.aload_n 0, 1) := by decide +kernel
theorem dX12_closes_1 : decode cX12_closes 1 = .ok (.iconst 3, 1) := by decide +kernel
theorem dX12_closes_2 : decode cX12_closes 2 = .ok (.invokevirtual 190, 3) := by decide +kernel
theorem dX12_closes_5 : decode cX12_closes 5 = .ok (.aload_n 0, 1) := by decide +kernel
theorem dX12_closes_6 : decode cX12_closes 6 = .ok (.invokevirtual 93, 3) := by decide +kernel
theorem dX12_closes_9 : decode cX12_closes 9 = .ok (.bipush 93, 2) := by decide +kernel
theorem dX12_closes_11 : decode cX12_closes 11 = .ok (.if_icmp .ne 53, 3) := by decide +kernel
theorem dX12_closes_14 : decode cX12_closes 14 = .ok (.aload_n 0, 1) := by decide +kernel
theorem dX12_closes_15 : decode cX12_closes 15 = .ok (.invokevirtual 193, 3) := by decide +kernel
theorem dX12_closes_18 : decode cX12_closes 18 = .ok (.ifCond .eq 46, 3) := by decide +kernel
theorem dX12_closes_21 : decode cX12_closes 21 = .ok (.aload_n 0, 1) := by decide +kernel
theorem dX12_closes_22 : decode cX12_closes 22 = .ok (.iconst 1, 1) := by decide +kernel
theorem dX12_closes_23 : decode cX12_closes 23 = .ok (.invokevirtual 190, 3) := by decide +kernel
theorem dX12_closes_26 : decode cX12_closes 26 = .ok (.aload_n 0, 1) := by decide +kernel
theorem dX12_closes_27 : decode cX12_closes 27 = .ok (.dup, 1) := by decide +kernel
theorem dX12_closes_28 : decode cX12_closes 28 = .ok (.getfield 151, 3) := by decide +kernel
theorem dX12_closes_31 : decode cX12_closes 31 = .ok (.iconst 1, 1) := by decide +kernel
theorem dX12_closes_32 : decode cX12_closes 32 = .ok (.isub, 1) := by decide +kernel
theorem dX12_closes_33 : decode cX12_closes 33 = .ok (.putfield 151, 3) := by decide +kernel
theorem dX12_closes_36 : decode cX12_closes 36 = .ok (.aload_n 0, 1) := by decide +kernel
theorem dX12_closes_37 : decode cX12_closes 37 = .ok (.dup, 1) := by decide +kernel
theorem dX12_closes_38 : decode cX12_closes 38 = .ok (.getfield 148, 3) := by decide +kernel
theorem dX12_closes_41 : decode cX12_closes 41 = .ok (.iconst 1, 1) := by decide +kernel
theorem dX12_closes_42 : decode cX12_closes 42 = .ok (.isub, 1) := by decide +kernel
theorem dX12_closes_43 : decode cX12_closes 43 = .ok (.putfield 148, 3) := by decide +kernel
theorem dX12_closes_46 : decode cX12_closes 46 = .ok (.aload_n 0, 1) := by decide +kernel
theorem dX12_closes_47 : decode cX12_closes 47 = .ok (.dup, 1) := by decide +kernel
theorem dX12_closes_48 : decode cX12_closes 48 = .ok (.getfield 90, 3) := by decide +kernel
theorem dX12_closes_51 : decode cX12_closes 51 = .ok (.iconst 1, 1) := by decide +kernel
theorem dX12_closes_52 : decode cX12_closes 52 = .ok (.iadd, 1) := by decide +kernel
theorem dX12_closes_53 : decode cX12_closes 53 = .ok (.putfield 90, 3) := by decide +kernel
theorem dX12_closes_56 : decode cX12_closes 56 = .ok (.aload_n 0, 1) := by decide +kernel
theorem dX12_closes_57 : decode cX12_closes 57 = .ok (.iconst 3, 1) := by decide +kernel
theorem dX12_closes_58 : decode cX12_closes 58 = .ok (.invokevirtual 190, 3) := by decide +kernel
theorem dX12_closes_61 : decode cX12_closes 61 = .ok (.goto (-56), 3) := by decide +kernel
theorem dX12_closes_64 : decode cX12_closes 64 = .ok (.return_, 1) := by decide +kernel
set_option maxRecDepth 20000 in
theorem ggX12_tested_X12_fact : GoodIn wsX12_tested wsX12_fact := goodIn_r _ [11, 12, 6, 13, 14, 15, 10, 16, 17, 18, 19, 20, 21, 22, 23, 24, 25, 26, 27, 28, 29, 30, 2, 5, 1, 31, 32, 33, 34, 35, 36, 37, 38, 39, 40, 41, 42, 43, 44, 45, 46, 47, 48, 49, 50, 51, 52, 53, 54, 55, 56, 57, 58, 59, 60, 61, 62, 63, 64, 65, 66, 67, 68, 69, 70, 71, 72, 73, 74, 75, 76, 77, 78, 79, 80, 81, 82, 83, 84, 85, 86, 87, 88, 89, 90, 91, 92, 93, 94, 110, 111, 112, 113, 114, 115, 116, 117, 118, 119, 120, 121, 122, 123, 124, 125, 126, 127, 128, 129, 130, 131, 132, 133, 134, 135, 136, 137, 138, 139, 140, 141, 142, 143, 144, 145, 146, 147] (by decide +kernel) (by decide +kernel)
set_option maxRecDepth 20000 in
theorem gX12_tested_X12_fact : GoodIn wsX12_tested (wsV RX12 196 RX12 yX12_fact wsX12_fact) := goodIn_app (goodIn_of _ (by decide +kernel)) ggX12_tested_X12_fact
set_option maxRecDepth 20000 in
theorem ggX12_tested_X12_closes : GoodIn wsX12_tested wsX12_closes := goodIn_r _ [98, 1, 2, 6, 99, 100, 101, 10, 102, 5, 103, 104, 105, 74, 75, 76, 77, 78, 79, 80, 13, 14, 15, 16, 17, 18, 106, 107, 108, 109, 110, 111, 112, 113, 114, 115, 116, 117, 118, 119, 120, 121, 122, 123, 124, 125, 126, 127, 128, 129, 130, 131, 132, 133, 134, 135, 136, 137, 138, 139, 140, 141, 142, 143, 144, 145, 146, 147] (by decide +kernel) (by decide +kernel)
set_option maxRecDepth 20000 in
theorem gX12_tested_X12_closes : GoodIn wsX12_tested (wsV RX12 199 RX12 yX12_closes wsX12_closes) := goodIn_app (goodIn_of _ (by decide +kernel)) ggX12_tested_X12_closes
set_option maxRecDepth 20000 in
theorem ggX12_tested_X12_isWord : GoodIn wsX12_tested wsX12_isWord := goodIn_r _ [22, 6, 18, 13, 14, 15, 10, 16, 17, 23, 24, 25, 26, 110, 111, 112, 113, 114, 115, 116, 117, 118, 119, 120, 121, 122, 123, 124, 125, 126, 127, 128, 129, 130, 131, 132, 133, 134, 135, 136, 137, 138, 139, 140, 141, 142, 143, 144, 145, 146, 147] (by decide +kernel) (by decide +kernel)
set_option maxRecDepth 20000 in
theorem gX12_tested_X12_isWord : GoodIn wsX12_tested (wsV RX12 101 RX12 yX12_isWord wsX12_isWord) := goodIn_app (goodIn_of _ (by decide +kernel)) ggX12_tested_X12_isWord
set_option maxRecDepth 20000 in
theorem ggX12_tested_X12_passWord : GoodIn wsX12_tested wsX12_passWord := goodIn_r _ [39, 6, 23, 24, 25, 10, 26, 17, 18, 110, 111, 112, 113, 114, 115, 116, 117, 118, 119, 120, 121, 122, 123, 124, 125, 126, 127, 128, 129, 130, 131, 132, 133, 134, 135, 136, 137, 138, 139, 140, 141, 142, 143, 144, 145, 146, 147] (by decide +kernel) (by decide +kernel)
set_option maxRecDepth 20000 in
theorem gX12_tested_X12_passWord : GoodIn wsX12_tested (wsV RX12 105 RX12 yX12_passWord wsX12_passWord) := goodIn_app (goodIn_of _ (by decide +kernel)) ggX12_tested_X12_passWord
set_option maxRecDepth 20000 in
theorem ggX12_tested_X12_strength : GoodIn wsX12_tested wsX12_strength := goodIn_r _ [105] (by decide +kernel) (by decide +kernel)
set_option maxRecDepth 20000 in
theorem gX12_tested_X12_strength : GoodIn wsX12_tested (va_wsS RX12 154 yX12_strength wsX12_strength) := goodIn_app (goodIn_of _ (by decide +kernel)) ggX12_tested_X12_strength
set_option maxRecDepth 20000 in
theorem ggX12_tested_X12_settles : GoodIn wsX12_tested wsX12_settles := goodIn_r _ [102, 1, 5, 2, 103, 104, 10, 105, 74, 75, 76, 77, 78, 79, 80, 110, 111, 112, 113, 114, 115, 116, 117, 118, 119, 120, 121, 122, 123, 124, 125, 126, 127, 128, 129, 130, 131, 132, 133, 134, 135, 136, 137, 138, 139, 140, 141, 142, 143, 144, 145, 146, 147] (by decide +kernel) (by decide +kernel)
set_option maxRecDepth 20000 in
theorem gX12_tested_X12_settles : GoodIn wsX12_tested (wsV RX12 190 RX12 yX12_settles wsX12_settles) := goodIn_app (goodIn_of _ (by decide +kernel)) ggX12_tested_X12_settles
set_option maxRecDepth 20000 in
theorem ggX12_tested_X12_isInside : GoodIn wsX12_tested wsX12_isInside := goodIn_r _ [109, 1, 5, 110, 111, 112, 113, 114, 115, 116, 117, 118, 119, 120, 121, 122, 123, 124, 125, 126, 127, 128, 129, 130, 131, 132, 133, 134, 135, 136, 137, 138, 139, 140, 141, 142, 143, 144, 145, 146, 147] (by decide +kernel) (by decide +kernel)
set_option maxRecDepth 20000 in
theorem gX12_tested_X12_isInside : GoodIn wsX12_tested (wsV RX12 193 RX12 yX12_isInside wsX12_isInside) := goodIn_app (goodIn_of _ (by decide +kernel)) ggX12_tested_X12_isInside
set_option maxRecDepth 20000 in
theorem ggX12_tested_X12_see : GoodIn wsX12_tested wsX12_see := goodIn_r _ [16, 6, 17, 18, 110, 111, 112, 113, 114, 115, 116, 117, 118, 119, 120, 121, 122, 123, 124, 125, 126, 127, 128, 129, 130, 131, 132, 133, 134, 135, 136, 137, 138, 139, 140, 141, 142, 143, 144, 145, 146, 147] (by decide +kernel) (by decide +kernel)
set_option maxRecDepth 20000 in
theorem gX12_tested_X12_see : GoodIn wsX12_tested (wsV RX12 93 RX12 yX12_see wsX12_see) := goodIn_app (goodIn_of _ (by decide +kernel)) ggX12_tested_X12_see
set_option maxRecDepth 20000 in
theorem ggX12_tested_X12_fails : GoodIn wsX12_tested wsX12_fails := goodIn_r _ [34, 35, 110, 111, 112, 113, 114, 115, 116, 117, 118, 119, 120, 121, 122, 123, 124, 125, 126, 127, 128, 129, 130, 131, 132, 133, 134, 135, 136, 137, 138, 139, 140, 141, 142, 143, 144, 145, 146, 147] (by decide +kernel) (by decide +kernel)
set_option maxRecDepth 20000 in
theorem gX12_tested_X12_fails : GoodIn wsX12_tested (wsV RX12 111 RX12 yX12_fails wsX12_fails) := goodIn_app (goodIn_of _ (by decide +kernel)) ggX12_tested_X12_fails
theorem dX12_tested_0 : decode cX12_tested 0 = .ok (.aload_n 0, 1) := by decide +kernel
theorem dX12_tested_1 : decode cX12_tested 1 = .ok (.iconst 0, 1) := by decide +kernel
theorem dX12_tested_2 : decode cX12_tested 2 = .ok (.putfield 151, 3) := by decide +kernel
theorem dX12_tested_5 : decode cX12_tested 5 = .ok (.aload_n 0, 1) := by decide +kernel
theorem dX12_tested_6 : decode cX12_tested 6 = .ok (.iconst 0, 1) := by decide +kernel
theorem dX12_tested_7 : decode cX12_tested 7 = .ok (.putfield 148, 3) := by decide +kernel
theorem dX12_tested_10 : decode cX12_tested 10 = .ok (.iconst 1, 1) := by decide +kernel
theorem dX12_tested_11 : decode cX12_tested 11 = .ok (.istore_n 1, 1) := by decide +kernel
theorem dX12_tested_12 : decode cX12_tested 12 = .ok (.iload_n 1, 1) := by decide +kernel
theorem dX12_tested_13 : decode cX12_tested 13 = .ok (.ifCond .eq 99, 3) := by decide +kernel
theorem dX12_tested_16 : decode cX12_tested 16 = .ok (.aload_n 0, 1) := by decide +kernel
theorem dX12_tested_17 : decode cX12_tested 17 = .ok (.invokevirtual 196, 3) := by decide +kernel
theorem dX12_tested_20 : decode cX12_tested 20 = .ok (.ifCond .ne 5, 3) := by decide +kernel
theorem dX12_tested_23 : decode cX12_tested 23 = .ok (.iconst 0, 1) := by decide +kernel
theorem dX12_tested_24 : decode cX12_tested 24 = .ok (.ireturn, 1) := by decide +kernel
theorem dX12_tested_25 : decode cX12_tested 25 = .ok (.aload_n 0, 1) := by decide +kernel
theorem dX12_tested_26 : decode cX12_tested 26 = .ok (.invokevirtual 199, 3) := by decide +kernel
theorem dX12_tested_29 : decode cX12_tested 29 = .ok (.aload_n 0, 1) := by decide +kernel
theorem dX12_tested_30 : decode cX12_tested 30 = .ok (.ldc2_w 202, 3) := by decide +kernel
theorem dX12_tested_33 : decode cX12_tested 33 = .ok (.invokevirtual 101, 3) := by decide +kernel
theorem dX12_tested_36 : decode cX12_tested 36 = .ok (.ifCond .ne 13, 3) := by decide +kernel
theorem dX12_tested_39 : decode cX12_tested 39 = .ok (.aload_n 0, 1) := by decide +kernel
theorem dX12_tested_40 : decode cX12_tested 40 = .ok (.ldc2_w 204, 3) := by decide +kernel
theorem dX12_tested_43 : decode cX12_tested 43 = .ok (.invokevirtual 101, 3) := by decide +kernel
theorem dX12_tested_46 : decode cX12_tested 46 = .ok (.ifCond .eq 7, 3) := by decide +kernel
theorem dX12_tested_49 : decode cX12_tested 49 = .ok (.iconst 1, 1) := by decide +kernel
theorem dX12_tested_50 : decode cX12_tested 50 = .ok (.goto 4, 3) := by decide +kernel
theorem dX12_tested_53 : decode cX12_tested 53 = .ok (.iconst 0, 1) := by decide +kernel
theorem dX12_tested_54 : decode cX12_tested 54 = .ok (.istore_n 1, 1) := by decide +kernel
theorem dX12_tested_55 : decode cX12_tested 55 = .ok (.iload_n 1, 1) := by decide +kernel
theorem dX12_tested_56 : decode cX12_tested 56 = .ok (.ifCond .eq (-44), 3) := by decide +kernel
theorem dX12_tested_59 : decode cX12_tested 59 = .ok (.aload_n 0, 1) := by decide +kernel
theorem dX12_tested_60 : decode cX12_tested 60 = .ok (.ldc2_w 202, 3) := by decide +kernel
theorem dX12_tested_63 : decode cX12_tested 63 = .ok (.invokevirtual 101, 3) := by decide +kernel
theorem dX12_tested_66 : decode cX12_tested 66 = .ok (.ifCond .eq 8, 3) := by decide +kernel
theorem dX12_tested_69 : decode cX12_tested 69 = .ok (.bipush 12, 2) := by decide +kernel
theorem dX12_tested_71 : decode cX12_tested 71 = .ok (.goto 5, 3) := by decide +kernel
theorem dX12_tested_74 : decode cX12_tested 74 = .ok (.bipush 13, 2) := by decide +kernel
theorem dX12_tested_76 : decode cX12_tested 76 = .ok (.istore_n 2, 1) := by decide +kernel
theorem dX12_tested_77 : decode cX12_tested 77 = .ok (.aload_n 0, 1) := by decide +kernel
theorem dX12_tested_78 : decode cX12_tested 78 = .ok (.invokevirtual 105, 3) := by decide +kernel
theorem dX12_tested_81 : decode cX12_tested 81 = .ok (.aload_n 0, 1) := by decide +kernel
theorem dX12_tested_82 : decode cX12_tested 82 = .ok (.iload_n 2, 1) := by decide +kernel
theorem dX12_tested_83 : decode cX12_tested 83 = .ok (.invokestatic 154, 3) := by decide +kernel
theorem dX12_tested_86 : decode cX12_tested 86 = .ok (.invokevirtual 190, 3) := by decide +kernel
theorem dX12_tested_89 : decode cX12_tested 89 = .ok (.aload_n 0, 1) := by decide +kernel
theorem dX12_tested_90 : decode cX12_tested 90 = .ok (.getfield 29, 3) := by decide +kernel
theorem dX12_tested_93 : decode cX12_tested 93 = .ok (.aload_n 0, 1) := by decide +kernel
theorem dX12_tested_94 : decode cX12_tested 94 = .ok (.getfield 151, 3) := by decide +kernel
theorem dX12_tested_97 : decode cX12_tested 97 = .ok (.iload_n 2, 1) := by decide +kernel
theorem dX12_tested_98 : decode cX12_tested 98 = .ok (.iastore, 1) := by decide +kernel
theorem dX12_tested_99 : decode cX12_tested 99 = .ok (.aload_n 0, 1) := by decide +kernel
theorem dX12_tested_100 : decode cX12_tested 100 = .ok (.dup, 1) := by decide +kernel
theorem dX12_tested_101 : decode cX12_tested 101 = .ok (.getfield 151, 3) := by decide +kernel
theorem dX12_tested_104 : decode cX12_tested 104 = .ok (.iconst 1, 1) := by decide +kernel
theorem dX12_tested_105 : decode cX12_tested 105 = .ok (.iadd, 1) := by decide +kernel
theorem dX12_tested_106 : decode cX12_tested 106 = .ok (.putfield 151, 3) := by decide +kernel
theorem dX12_tested_109 : decode cX12_tested 109 = .ok (.goto (-97), 3) := by decide +kernel
theorem dX12_tested_112 : decode cX12_tested 112 = .ok (.aload_n 0, 1) := by decide +kernel
theorem dX12_tested_113 : decode cX12_tested 113 = .ok (.invokevirtual 193, 3) := by decide +kernel
theorem dX12_tested_116 : decode cX12_tested 116 = .ok (.ifCond .eq 18, 3) := by decide +kernel
theorem dX12_tested_119 : decode cX12_tested 119 = .ok (.aload_n 0, 1) := by decide +kernel
theorem dX12_tested_120 : decode cX12_tested 120 = .ok (.invokevirtual 93, 3) := by decide +kernel
theorem dX12_tested_123 : decode cX12_tested 123 = .ok (.pop, 1) := by decide +kernel
theorem dX12_tested_124 : decode cX12_tested 124 = .ok (.aload_n 0, 1) := by decide +kernel
theorem dX12_tested_125 : decode cX12_tested 125 = .ok (.iconst 0, 1) := by decide +kernel
theorem dX12_tested_126 : decode cX12_tested 126 = .ok (.aload_n 0, 1) := by decide +kernel
theorem dX12_tested_127 : decode cX12_tested 127 = .ok (.getfield 90, 3) := by decide +kernel
theorem dX12_tested_130 : decode cX12_tested 130 = .ok (.invokevirtual 111, 3) := by decide +kernel
theorem dX12_tested_133 : decode cX12_tested 133 = .ok (.ireturn, 1) := by decide +kernel
theorem dX12_tested_134 : decode cX12_tested 134 = .ok (.aload_n 0, 1) := by decide +kernel
theorem dX12_tested_135 : decode cX12_tested 135 = .ok (.iconst 1, 1) := by decide +kernel
theorem dX12_tested_136 : decode cX12_tested 136 = .ok (.invokevirtual 190, 3) := by decide +kernel
theorem dX12_tested_139 : decode cX12_tested 139 = .ok (.iconst 1, 1) := by decide +kernel
theorem dX12_tested_140 : decode cX12_tested 140 = .ok (.ireturn, 1) := by decide +kernel
set_option maxRecDepth 20000 in
theorem ggX12_isTurnHere_X12_passWord : GoodIn wsX12_isTurnHere wsX12_passWord := goodIn_r _ [10, 11, 12, 13, 14, 9, 15, 16, 17, 121, 122, 123, 124, 125, 126, 127, 128, 129, 130, 131, 132, 133, 134, 135, 136, 137, 138, 139, 140, 141, 142, 143, 144, 145, 146, 147, 148, 149, 150, 151, 152, 153, 154, 155, 156, 157, 158] (by decide +kernel) (by decide +kernel)
set_option maxRecDepth 20000 in
theorem gX12_isTurnHere_X12_passWord : GoodIn wsX12_isTurnHere (wsV RX12 105 RX12 yX12_passWord wsX12_passWord) := goodIn_app (goodIn_of _ (by decide +kernel)) ggX12_isTurnHere_X12_passWord
set_option maxRecDepth 20000 in
theorem ggX12_isTurnHere_X12_sum : GoodIn wsX12_isTurnHere wsX12_sum := goodIn_r _ [21, 17, 11, 22, 23, 24, 9, 25, 26, 27, 28, 29, 30, 31, 32, 33, 34, 35, 16, 36, 37, 38, 39, 40, 41, 42, 43, 44, 45, 46, 47, 48, 49, 50, 51, 52, 53, 54, 55, 56, 57, 58, 59, 60, 61, 1, 4, 62, 63, 64, 65, 66, 67, 68, 69, 70, 71, 72, 73, 74, 75, 76, 77, 78, 79, 12, 13, 14, 15, 6, 7, 8, 10, 121, 122, 123, 124, 125, 126, 127, 128, 129, 130, 131, 132, 133, 134, 135, 136, 137, 138, 139, 140, 141, 142, 143, 144, 145, 146, 147, 148, 149, 150, 151, 152, 153, 154, 155, 156, 157, 158] (by decide +kernel) (by decide +kernel)
set_option maxRecDepth 20000 in
theorem gX12_isTurnHere_X12_sum : GoodIn wsX12_isTurnHere (wsV RX12 179 RX12 yX12_sum wsX12_sum) := goodIn_app (goodIn_of _ (by decide +kernel)) ggX12_isTurnHere_X12_sum
set_option maxRecDepth 20000 in
theorem ggX12_isTurnHere_X12_takesWord : GoodIn wsX12_isTurnHere wsX12_takesWord := goodIn_r _ [83, 76, 77, 78, 9, 79, 11, 17, 32, 33, 34, 35, 16, 12, 13, 14, 15, 6, 7, 8, 10, 121, 122, 123, 124, 125, 126, 127, 128, 129, 130, 131, 132, 133, 134, 135, 136, 137, 138, 139, 140, 141, 142, 143, 144, 145, 146, 147, 148, 149, 150, 151, 152, 153, 154, 155, 156, 157, 158] (by decide +kernel) (by decide +kernel)
set_option maxRecDepth 20000 in
theorem gX12_isTurnHere_X12_takesWord : GoodIn wsX12_isTurnHere (wsV RX12 208 RX12 yX12_takesWord wsX12_takesWord) := goodIn_app (goodIn_of _ (by decide +kernel)) ggX12_isTurnHere_X12_takesWord
set_option maxRecDepth 20000 in
theorem ggX12_isTurnHere_X12_tested : GoodIn wsX12_isTurnHere wsX12_tested := goodIn_r _ [87, 88, 89, 90, 91, 92, 11, 93, 94, 95, 9, 96, 97, 32, 33, 34, 35, 16, 17, 76, 77, 78, 79, 12, 13, 14, 15, 98, 99, 100, 101, 44, 45, 46, 47, 48, 6, 7, 8, 10, 102, 103, 104, 105, 18, 19, 20, 21, 22, 23, 24, 25, 26, 27, 28, 29, 30, 31, 36, 37, 38, 39, 40, 41, 42, 43, 49, 50, 51, 52, 53, 54, 55, 56, 57, 58, 59, 60, 61, 1, 4, 62, 63, 64, 65, 66, 67, 68, 69, 70, 71, 72, 73, 74, 75, 106, 107, 108, 109, 110, 111, 112, 113, 114, 115, 116, 117, 118, 119, 120, 121, 122, 123, 124, 125, 126, 127, 128, 129, 130, 131, 132, 133, 134, 135, 136, 137, 138, 139, 140, 141, 142, 143, 144, 145, 146, 147, 148, 149, 150, 151, 152, 153, 154, 155, 156, 157, 158] (by decide +kernel) (by decide +kernel)
set_option maxRecDepth 20000 in
theorem gX12_isTurnHere_X12_tested : GoodIn wsX12_isTurnHere (wsV RX12 211 RX12 yX12_tested wsX12_tested) := goodIn_app (goodIn_of _ (by decide +kernel)) ggX12_isTurnHere_X12_tested
theorem dX12_isTurnHere_0 : decode cX12_isTurnHere 0 = .ok (.aload_n 0, 1) := by decide +kernel
theorem dX12_isTurnHere_1 : decode cX12_isTurnHere 1 = .ok (.invokevirtual 105, 3) := by decide +kernel
theorem dX12_isTurnHere_4 : decode cX12_isTurnHere 4 = .ok (.bipush 48, 2) := by decide +kernel
theorem dX12_isTurnHere_6 : decode cX12_isTurnHere 6 = .ok (.aload_n 0, 1) := by decide +kernel
theorem dX12_isTurnHere_7 : decode cX12_isTurnHere 7 = .ok (.getfield 142, 3) := by decide +kernel
theorem dX12_isTurnHere_10 : decode cX12_isTurnHere 10 = .ok (.imul, 1) := by decide +kernel
theorem dX12_isTurnHere_11 : decode cX12_isTurnHere 11 = .ok (.iconst 4, 1) := by decide +kernel
theorem dX12_isTurnHere_12 : decode cX12_isTurnHere 12 = .ok (.aload_n 0, 1) := by decide +kernel
theorem dX12_isTurnHere_13 : decode cX12_isTurnHere 13 = .ok (.getfield 23, 3) := by decide +kernel
theorem dX12_isTurnHere_16 : decode cX12_isTurnHere 16 = .ok (.aload_n 0, 1) := by decide +kernel
theorem dX12_isTurnHere_17 : decode cX12_isTurnHere 17 = .ok (.getfield 142, 3) := by decide +kernel
theorem dX12_isTurnHere_20 : decode cX12_isTurnHere 20 = .ok (.iaload, 1) := by decide +kernel
theorem dX12_isTurnHere_21 : decode cX12_isTurnHere 21 = .ok (.imul, 1) := by decide +kernel
theorem dX12_isTurnHere_22 : decode cX12_isTurnHere 22 = .ok (.iadd, 1) := by decide +kernel
theorem dX12_isTurnHere_23 : decode cX12_isTurnHere 23 = .ok (.istore_n 1, 1) := by decide +kernel
theorem dX12_isTurnHere_24 : decode cX12_isTurnHere 24 = .ok (.aload_n 0, 1) := by decide +kernel
theorem dX12_isTurnHere_25 : decode cX12_isTurnHere 25 = .ok (.getfield 20, 3) := by decide +kernel
theorem dX12_isTurnHere_28 : decode cX12_isTurnHere 28 = .ok (.iload_n 1, 1) := by decide +kernel
theorem dX12_isTurnHere_29 : decode cX12_isTurnHere 29 = .ok (.aload_n 0, 1) := by decide +kernel
theorem dX12_isTurnHere_30 : decode cX12_isTurnHere 30 = .ok (.getfield 17, 3) := by decide +kernel
theorem dX12_isTurnHere_33 : decode cX12_isTurnHere 33 = .ok (.aload_n 0, 1) := by decide +kernel
theorem dX12_isTurnHere_34 : decode cX12_isTurnHere 34 = .ok (.getfield 142, 3) := by decide +kernel
theorem dX12_isTurnHere_37 : decode cX12_isTurnHere 37 = .ok (.iaload, 1) := by decide +kernel
theorem dX12_isTurnHere_38 : decode cX12_isTurnHere 38 = .ok (.iastore, 1) := by decide +kernel
theorem dX12_isTurnHere_39 : decode cX12_isTurnHere 39 = .ok (.aload_n 0, 1) := by decide +kernel
theorem dX12_isTurnHere_40 : decode cX12_isTurnHere 40 = .ok (.invokevirtual 179, 3) := by decide +kernel
theorem dX12_isTurnHere_43 : decode cX12_isTurnHere 43 = .ok (.ifCond .ne 5, 3) := by decide +kernel
theorem dX12_isTurnHere_46 : decode cX12_isTurnHere 46 = .ok (.iconst 0, 1) := by decide +kernel
theorem dX12_isTurnHere_47 : decode cX12_isTurnHere 47 = .ok (.ireturn, 1) := by decide +kernel
theorem dX12_isTurnHere_48 : decode cX12_isTurnHere 48 = .ok (.aload_n 0, 1) := by decide +kernel
theorem dX12_isTurnHere_49 : decode cX12_isTurnHere 49 = .ok (.getfield 20, 3) := by decide +kernel
theorem dX12_isTurnHere_52 : decode cX12_isTurnHere 52 = .ok (.iload_n 1, 1) := by decide +kernel
theorem dX12_isTurnHere_53 : decode cX12_isTurnHere 53 = .ok (.iconst 1, 1) := by decide +kernel
theorem dX12_isTurnHere_54 : decode cX12_isTurnHere 54 = .ok (.iadd, 1) := by decide +kernel
theorem dX12_isTurnHere_55 : decode cX12_isTurnHere 55 = .ok (.aload_n 0, 1) := by decide +kernel
theorem dX12_isTurnHere_56 : decode cX12_isTurnHere 56 = .ok (.getfield 17, 3) := by decide +kernel
theorem dX12_isTurnHere_59 : decode cX12_isTurnHere 59 = .ok (.aload_n 0, 1) := by decide +kernel
theorem dX12_isTurnHere_60 : decode cX12_isTurnHere 60 = .ok (.getfield 142, 3) := by decide +kernel
theorem dX12_isTurnHere_63 : decode cX12_isTurnHere 63 = .ok (.iaload, 1) := by decide +kernel
theorem dX12_isTurnHere_64 : decode cX12_isTurnHere 64 = .ok (.iastore, 1) := by decide +kernel
theorem dX12_isTurnHere_65 : decode cX12_isTurnHere 65 = .ok (.aload_n 0, 1) := by decide +kernel
theorem dX12_isTurnHere_66 : decode cX12_isTurnHere 66 = .ok (.getfield 20, 3) := by decide +kernel
theorem dX12_isTurnHere_69 : decode cX12_isTurnHere 69 = .ok (.iload_n 1, 1) := by decide +kernel
theorem dX12_isTurnHere_70 : decode cX12_isTurnHere 70 = .ok (.iconst 2, 1) := by decide +kernel
theorem dX12_isTurnHere_71 : decode cX12_isTurnHere 71 = .ok (.iadd, 1) := by decide +kernel
theorem dX12_isTurnHere_72 : decode cX12_isTurnHere 72 = .ok (.iconst (-1), 1) := by decide +kernel
theorem dX12_isTurnHere_73 : decode cX12_isTurnHere 73 = .ok (.iastore, 1) := by decide +kernel
theorem dX12_isTurnHere_74 : decode cX12_isTurnHere 74 = .ok (.aload_n 0, 1) := by decide +kernel
theorem dX12_isTurnHere_75 : decode cX12_isTurnHere 75 = .ok (.ldc2_w 206, 3) := by decide +kernel
theorem dX12_isTurnHere_78 : decode cX12_isTurnHere 78 = .ok (.invokevirtual 208, 3) := by decide +kernel
theorem dX12_isTurnHere_81 : decode cX12_isTurnHere 81 = .ok (.ifCond .eq 29, 3) := by decide +kernel
theorem dX12_isTurnHere_84 : decode cX12_isTurnHere 84 = .ok (.aload_n 0, 1) := by decide +kernel
theorem dX12_isTurnHere_85 : decode cX12_isTurnHere 85 = .ok (.getfield 20, 3) := by decide +kernel
theorem dX12_isTurnHere_88 : decode cX12_isTurnHere 88 = .ok (.iload_n 1, 1) := by decide +kernel
theorem dX12_isTurnHere_89 : decode cX12_isTurnHere 89 = .ok (.iconst 2, 1) := by decide +kernel
theorem dX12_isTurnHere_90 : decode cX12_isTurnHere 90 = .ok (.iadd, 1) := by decide +kernel
theorem dX12_isTurnHere_91 : decode cX12_isTurnHere 91 = .ok (.aload_n 0, 1) := by decide +kernel
theorem dX12_isTurnHere_92 : decode cX12_isTurnHere 92 = .ok (.getfield 17, 3) := by decide +kernel
theorem dX12_isTurnHere_95 : decode cX12_isTurnHere 95 = .ok (.aload_n 0, 1) := by decide +kernel
theorem dX12_isTurnHere_96 : decode cX12_isTurnHere 96 = .ok (.getfield 142, 3) := by decide +kernel
theorem dX12_isTurnHere_99 : decode cX12_isTurnHere 99 = .ok (.iaload, 1) := by decide +kernel
theorem dX12_isTurnHere_100 : decode cX12_isTurnHere 100 = .ok (.iastore, 1) := by decide +kernel
theorem dX12_isTurnHere_101 : decode cX12_isTurnHere 101 = .ok (.aload_n 0, 1) := by decide +kernel
theorem dX12_isTurnHere_102 : decode cX12_isTurnHere 102 = .ok (.invokevirtual 211, 3) := by decide +kernel
theorem dX12_isTurnHere_105 : decode cX12_isTurnHere 105 = .ok (.ifCond .ne 5, 3) := by decide +kernel
theorem dX12_isTurnHere_108 : decode cX12_isTurnHere 108 = .ok (.iconst 0, 1) := by decide +kernel
theorem dX12_isTurnHere_109 : decode cX12_isTurnHere 109 = .ok (.ireturn, 1) := by decide +kernel
theorem dX12_isTurnHere_110 : decode cX12_isTurnHere 110 = .ok (.aload_n 0, 1) := by decide +kernel
theorem dX12_isTurnHere_111 : decode cX12_isTurnHere 111 = .ok (.getfield 20, 3) := by decide +kernel
theorem dX12_isTurnHere_114 : decode cX12_isTurnHere 114 = .ok (.iload_n 1, 1) := by decide +kernel
theorem dX12_isTurnHere_115 : decode cX12_isTurnHere 115 = .ok (.iconst 3, 1) := by decide +kernel
theorem dX12_isTurnHere_116 : decode cX12_isTurnHere 116 = .ok (.iadd, 1) := by decide +kernel
theorem dX12_isTurnHere_117 : decode cX12_isTurnHere 117 = .ok (.aload_n 0, 1) := by decide +kernel
theorem dX12_isTurnHere_118 : decode cX12_isTurnHere 118 = .ok (.getfield 17, 3) := by decide +kernel
theorem dX12_isTurnHere_121 : decode cX12_isTurnHere 121 = .ok (.aload_n 0, 1) := by decide +kernel
theorem dX12_isTurnHere_122 : decode cX12_isTurnHere 122 = .ok (.getfield 142, 3) := by decide +kernel
theorem dX12_isTurnHere_125 : decode cX12_isTurnHere 125 = .ok (.iaload, 1) := by decide +kernel
theorem dX12_isTurnHere_126 : decode cX12_isTurnHere 126 = .ok (.iastore, 1) := by decide +kernel
theorem dX12_isTurnHere_127 : decode cX12_isTurnHere 127 = .ok (.aload_n 0, 1) := by decide +kernel
theorem dX12_isTurnHere_128 : decode cX12_isTurnHere 128 = .ok (.getfield 23, 3) := by decide +kernel
theorem dX12_isTurnHere_131 : decode cX12_isTurnHere 131 = .ok (.aload_n 0, 1) := by decide +kernel
theorem dX12_isTurnHere_132 : decode cX12_isTurnHere 132 = .ok (.getfield 142, 3) := by decide +kernel
theorem dX12_isTurnHere_135 : decode cX12_isTurnHere 135 = .ok (.dup2, 1) := by decide +kernel
theorem dX12_isTurnHere_136 : decode cX12_isTurnHere 136 = .ok (.iaload, 1) := by decide +kernel
theorem dX12_isTurnHere_137 : decode cX12_isTurnHere 137 = .ok (.iconst 1, 1) := by decide +kernel
theorem dX12_isTurnHere_138 : decode cX12_isTurnHere 138 = .ok (.iadd, 1) := by decide +kernel
theorem dX12_isTurnHere_139 : decode cX12_isTurnHere 139 = .ok (.iastore, 1) := by decide +kernel
theorem dX12_isTurnHere_140 : decode cX12_isTurnHere 140 = .ok (.iconst 1, 1) := by decide +kernel
theorem dX12_isTurnHere_141 : decode cX12_isTurnHere 141 = .ok (.ireturn, 1) := by decide +kernel
set_option maxRecDepth 20000 in
theorem ggX12_cellHere_X12_numberHere : GoodIn wsX12_cellHere wsX12_numberHere := goodIn_r _ [7, 8, 9, 2, 10, 11, 12, 6, 13, 14, 15, 16, 17, 18, 19, 20, 21, 22, 23, 24, 25, 26, 27, 28, 29, 30, 31, 32, 33, 34, 35, 36, 37, 38, 39, 40, 41, 42, 43, 44, 45, 46, 47, 48, 49, 50, 51, 52, 53, 54, 55, 56, 57, 58, 59, 60, 61, 62, 63, 64] (by decide +kernel) (by decide +kernel)
set_option maxRecDepth 20000 in
theorem gX12_cellHere_X12_numberHere : GoodIn wsX12_cellHere (wsV RX12 163 RX12 yX12_numberHere wsX12_numberHere) := goodIn_app (goodIn_of _ (by decide +kernel)) ggX12_cellHere_X12_numberHere
theorem dX12_cellHere_0 : decode cX12_cellHere 0 = .ok (.aload_n 0, 1) := by decide +kernel
theorem dX12_cellHere_1 : decode cX12_cellHere 1 = .ok (.iload_n 2, 1) := by decide +kernel
theorem dX12_cellHere_2 : decode cX12_cellHere 2 = .ok (.iload_n 3, 1) := by decide +kernel
theorem dX12_cellHere_3 : decode cX12_cellHere 3 = .ok (.invokevirtual 163, 3) := by decide +kernel
theorem dX12_cellHere_6 : decode cX12_cellHere 6 = .ok (.ifCond .ne 5, 3) := by decide +kernel
theorem dX12_cellHere_9 : decode cX12_cellHere 9 = .ok (.iconst 0, 1) := by decide +kernel
theorem dX12_cellHere_10 : decode cX12_cellHere 10 = .ok (.ireturn, 1) := by decide +kernel
theorem dX12_cellHere_11 : decode cX12_cellHere 11 = .ok (.aload_n 0, 1) := by decide +kernel
theorem dX12_cellHere_12 : decode cX12_cellHere 12 = .ok (.getfield 26, 3) := by decide +kernel
theorem dX12_cellHere_15 : decode cX12_cellHere 15 = .ok (.iload_n 1, 1) := by decide +kernel
theorem dX12_cellHere_16 : decode cX12_cellHere 16 = .ok (.aload_n 0, 1) := by decide +kernel
theorem dX12_cellHere_17 : decode cX12_cellHere 17 = .ok (.getfield 115, 3) := by decide +kernel
theorem dX12_cellHere_20 : decode cX12_cellHere 20 = .ok (.iastore, 1) := by decide +kernel
theorem dX12_cellHere_21 : decode cX12_cellHere 21 = .ok (.iconst 1, 1) := by decide +kernel
theorem dX12_cellHere_22 : decode cX12_cellHere 22 = .ok (.ireturn, 1) := by decide +kernel
set_option maxRecDepth 20000 in
theorem ggX12_isDairyHere_X12_fails : GoodIn wsX12_isDairyHere wsX12_fails := goodIn_r _ [7, 8, 39, 40, 41, 42, 43, 44, 45, 46, 47, 48, 49, 50, 51, 52, 53, 54, 55, 56, 57, 58, 59, 60, 61, 62, 63, 64, 65, 66, 67, 68, 69, 70, 71, 72, 73, 74, 75, 76] (by decide +kernel) (by decide +kernel)
set_option maxRecDepth 20000 in
theorem gX12_isDairyHere_X12_fails : GoodIn wsX12_isDairyHere (wsV RX12 111 RX12 yX12_fails wsX12_fails) := goodIn_app (goodIn_of _ (by decide +kernel)) ggX12_isDairyHere_X12_fails
set_option maxRecDepth 20000 in
theorem ggX12_isDairyHere_X12_passWord : GoodIn wsX12_isDairyHere wsX12_passWord := goodIn_r _ [12, 13, 14, 15, 16, 6, 17, 18, 19, 39, 40, 41, 42, 43, 44, 45, 46, 47, 48, 49, 50, 51, 52, 53, 54, 55, 56, 57, 58, 59, 60, 61, 62, 63, 64, 65, 66, 67, 68, 69, 70, 71, 72, 73, 74, 75, 76] (by decide +kernel) (by decide +kernel)
set_option maxRecDepth 20000 in
theorem gX12_isDairyHere_X12_passWord : GoodIn wsX12_isDairyHere (wsV RX12 105 RX12 yX12_passWord wsX12_passWord) := goodIn_app (goodIn_of _ (by decide +kernel)) ggX12_isDairyHere_X12_passWord
set_option maxRecDepth 20000 in
theorem ggX12_isDairyHere_X12_numberHere : GoodIn wsX12_isDairyHere wsX12_numberHere := goodIn_r _ [23, 13, 19, 2, 24, 25, 26, 6, 27, 18, 28, 29, 30, 31, 3, 4, 5, 7, 8, 32, 33, 34, 39, 40, 41, 42, 43, 44, 45, 46, 47, 48, 49, 50, 51, 52, 53, 54, 55, 56, 57, 58, 59, 60, 61, 62, 63, 64, 65, 66, 67, 68, 69, 70, 71, 72, 73, 74, 75, 76] (by decide +kernel) (by decide +kernel)
set_option maxRecDepth 20000 in
theorem gX12_isDairyHere_X12_numberHere : GoodIn wsX12_isDairyHere (wsV RX12 163 RX12 yX12_numberHere wsX12_numberHere) := goodIn_app (goodIn_of _ (by decide +kernel)) ggX12_isDairyHere_X12_numberHere
set_option maxRecDepth 20000 in
theorem ggX12_isDairyHere_X12_cellHere : GoodIn wsX12_isDairyHere wsX12_cellHere := goodIn_r _ [38, 1, 2, 20, 21, 22, 6, 23, 13, 19, 24, 25, 26, 27, 18, 28, 29, 30, 31, 3, 4, 5, 7, 8, 32, 33, 34, 39, 40, 41, 42, 43, 44, 45, 46, 47, 48, 49, 50, 51, 52, 53, 54, 55, 56, 57, 58, 59, 60, 61, 62, 63, 64, 65, 66, 67, 68, 69, 70, 71, 72, 73, 74, 75, 76] (by decide +kernel) (by decide +kernel)
set_option maxRecDepth 20000 in
theorem gX12_isDairyHere_X12_cellHere : GoodIn wsX12_isDairyHere (wsV RX12 214 RX12 yX12_cellHere wsX12_cellHere) := goodIn_app (goodIn_of _ (by decide +kernel)) ggX12_isDairyHere_X12_cellHere
theorem dX12_isDairyHere_0 : decode cX12_isDairyHere 0 = .ok (.aload_n 0, 1) := by decide +kernel
theorem dX12_isDairyHere_1 : decode cX12_isDairyHere 1 = .ok (.getfield 26, 3) := by decide +kernel
theorem dX12_isDairyHere_4 : decode cX12_isDairyHere 4 = .ok (.iconst 0, 1) := by decide +kernel
theorem dX12_isDairyHere_5 : decode cX12_isDairyHere 5 = .ok (.iaload, 1) := by decide +kernel
theorem dX12_isDairyHere_6 : decode cX12_isDairyHere 6 = .ok (.ifCond .le 10, 3) := by decide +kernel
theorem dX12_isDairyHere_9 : decode cX12_isDairyHere 9 = .ok (.aload_n 0, 1) := by decide +kernel
theorem dX12_isDairyHere_10 : decode cX12_isDairyHere 10 = .ok (.iconst 4, 1) := by decide +kernel
theorem dX12_isDairyHere_11 : decode cX12_isDairyHere 11 = .ok (.iload_n 1, 1) := by decide +kernel
theorem dX12_isDairyHere_12 : decode cX12_isDairyHere 12 = .ok (.invokevirtual 111, 3) := by decide +kernel
theorem dX12_isDairyHere_15 : decode cX12_isDairyHere 15 = .ok (.ireturn, 1) := by decide +kernel
theorem dX12_isDairyHere_16 : decode cX12_isDairyHere 16 = .ok (.aload_n 0, 1) := by decide +kernel
theorem dX12_isDairyHere_17 : decode cX12_isDairyHere 17 = .ok (.invokevirtual 105, 3) := by decide +kernel
theorem dX12_isDairyHere_20 : decode cX12_isDairyHere 20 = .ok (.aload_n 0, 1) := by decide +kernel
theorem dX12_isDairyHere_21 : decode cX12_isDairyHere 21 = .ok (.iconst 2, 1) := by decide +kernel
theorem dX12_isDairyHere_22 : decode cX12_isDairyHere 22 = .ok (.bipush 6, 2) := by decide +kernel
theorem dX12_isDairyHere_24 : decode cX12_isDairyHere 24 = .ok (.invokevirtual 163, 3) := by decide +kernel
theorem dX12_isDairyHere_27 : decode cX12_isDairyHere 27 = .ok (.ifCond .ne 5, 3) := by decide +kernel
theorem dX12_isDairyHere_30 : decode cX12_isDairyHere 30 = .ok (.iconst 0, 1) := by decide +kernel
theorem dX12_isDairyHere_31 : decode cX12_isDairyHere 31 = .ok (.ireturn, 1) := by decide +kernel
theorem dX12_isDairyHere_32 : decode cX12_isDairyHere 32 = .ok (.aload_n 0, 1) := by decide +kernel
theorem dX12_isDairyHere_33 : decode cX12_isDairyHere 33 = .ok (.getfield 115, 3) := by decide +kernel
theorem dX12_isDairyHere_36 : decode cX12_isDairyHere 36 = .ok (.istore_n 2, 1) := by decide +kernel
theorem dX12_isDairyHere_37 : decode cX12_isDairyHere 37 = .ok (.aload_n 0, 1) := by decide +kernel
theorem dX12_isDairyHere_38 : decode cX12_isDairyHere 38 = .ok (.iconst 1, 1) := by decide +kernel
theorem dX12_isDairyHere_39 : decode cX12_isDairyHere 39 = .ok (.iconst 0, 1) := by decide +kernel
theorem dX12_isDairyHere_40 : decode cX12_isDairyHere 40 = .ok (.bipush 9, 2) := by decide +kernel
theorem dX12_isDairyHere_42 : decode cX12_isDairyHere 42 = .ok (.invokevirtual 214, 3) := by decide +kernel
theorem dX12_isDairyHere_45 : decode cX12_isDairyHere 45 = .ok (.ifCond .eq 15, 3) := by decide +kernel
theorem dX12_isDairyHere_48 : decode cX12_isDairyHere 48 = .ok (.aload_n 0, 1) := by decide +kernel
theorem dX12_isDairyHere_49 : decode cX12_isDairyHere 49 = .ok (.iconst 2, 1) := by decide +kernel
theorem dX12_isDairyHere_50 : decode cX12_isDairyHere 50 = .ok (.bipush 10, 2) := by decide +kernel
theorem dX12_isDairyHere_52 : decode cX12_isDairyHere 52 = .ok (.bipush 99, 2) := by decide +kernel
theorem dX12_isDairyHere_54 : decode cX12_isDairyHere 54 = .ok (.invokevirtual 214, 3) := by decide +kernel
theorem dX12_isDairyHere_57 : decode cX12_isDairyHere 57 = .ok (.ifCond .ne 5, 3) := by decide +kernel
theorem dX12_isDairyHere_60 : decode cX12_isDairyHere 60 = .ok (.iconst 0, 1) := by decide +kernel
theorem dX12_isDairyHere_61 : decode cX12_isDairyHere 61 = .ok (.ireturn, 1) := by decide +kernel
theorem dX12_isDairyHere_62 : decode cX12_isDairyHere 62 = .ok (.aload_n 0, 1) := by decide +kernel
theorem dX12_isDairyHere_63 : decode cX12_isDairyHere 63 = .ok (.getfield 26, 3) := by decide +kernel
theorem dX12_isDairyHere_66 : decode cX12_isDairyHere 66 = .ok (.iconst 0, 1) := by decide +kernel
theorem dX12_isDairyHere_67 : decode cX12_isDairyHere 67 = .ok (.iload_n 2, 1) := by decide +kernel
theorem dX12_isDairyHere_68 : decode cX12_isDairyHere 68 = .ok (.iastore, 1) := by decide +kernel
theorem dX12_isDairyHere_69 : decode cX12_isDairyHere 69 = .ok (.iconst 1, 1) := by decide +kernel
theorem dX12_isDairyHere_70 : decode cX12_isDairyHere 70 = .ok (.ireturn, 1) := by decide +kernel
theorem dX12_isRoadTold_0 : decode cX12_isRoadTold 0 = .ok (.iconst 0, 1) := by decide +kernel
theorem dX12_isRoadTold_1 : decode cX12_isRoadTold 1 = .ok (.istore_n 3, 1) := by decide +kernel
theorem dX12_isRoadTold_2 : decode cX12_isRoadTold 2 = .ok (.iload_n 3, 1) := by decide +kernel
theorem dX12_isRoadTold_3 : decode cX12_isRoadTold 3 = .ok (.aload_n 0, 1) := by decide +kernel
theorem dX12_isRoadTold_4 : decode cX12_isRoadTold 4 = .ok (.getfield 26, 3) := by decide +kernel
theorem dX12_isRoadTold_7 : decode cX12_isRoadTold 7 = .ok (.iconst 3, 1) := by decide +kernel
theorem dX12_isRoadTold_8 : decode cX12_isRoadTold 8 = .ok (.iaload, 1) := by decide +kernel
theorem dX12_isRoadTold_9 : decode cX12_isRoadTold 9 = .ok (.if_icmp .ge 67, 3) := by decide +kernel
theorem dX12_isRoadTold_12 : decode cX12_isRoadTold 12 = .ok (.bipush 57, 2) := by decide +kernel
theorem dX12_isRoadTold_14 : decode cX12_isRoadTold 14 = .ok (.iconst 3, 1) := by decide +kernel
theorem dX12_isRoadTold_15 : decode cX12_isRoadTold 15 = .ok (.iload_n 3, 1) := by decide +kernel
theorem dX12_isRoadTold_16 : decode cX12_isRoadTold 16 = .ok (.imul, 1) := by decide +kernel
theorem dX12_isRoadTold_17 : decode cX12_isRoadTold 17 = .ok (.iadd, 1) := by decide +kernel
theorem dX12_isRoadTold_18 : decode cX12_isRoadTold 18 = .ok (.istore 4, 2) := by decide +kernel
theorem dX12_isRoadTold_20 : decode cX12_isRoadTold 20 = .ok (.aload_n 0, 1) := by decide +kernel
theorem dX12_isRoadTold_21 : decode cX12_isRoadTold 21 = .ok (.getfield 26, 3) := by decide +kernel
theorem dX12_isRoadTold_24 : decode cX12_isRoadTold 24 = .ok (.iload 4, 2) := by decide +kernel
theorem dX12_isRoadTold_26 : decode cX12_isRoadTold 26 = .ok (.iaload, 1) := by decide +kernel
theorem dX12_isRoadTold_27 : decode cX12_isRoadTold 27 = .ok (.iload_n 1, 1) := by decide +kernel
theorem dX12_isRoadTold_28 : decode cX12_isRoadTold 28 = .ok (.if_icmp .ne 16, 3) := by decide +kernel
theorem dX12_isRoadTold_31 : decode cX12_isRoadTold 31 = .ok (.aload_n 0, 1) := by decide +kernel
theorem dX12_isRoadTold_32 : decode cX12_isRoadTold 32 = .ok (.getfield 26, 3) := by decide +kernel
theorem dX12_isRoadTold_35 : decode cX12_isRoadTold 35 = .ok (.iload 4, 2) := by decide +kernel
theorem dX12_isRoadTold_37 : decode cX12_isRoadTold 37 = .ok (.iconst 1, 1) := by decide +kernel
theorem dX12_isRoadTold_38 : decode cX12_isRoadTold 38 = .ok (.iadd, 1) := by decide +kernel
theorem dX12_isRoadTold_39 : decode cX12_isRoadTold 39 = .ok (.iaload, 1) := by decide +kernel
theorem dX12_isRoadTold_40 : decode cX12_isRoadTold 40 = .ok (.iload_n 2, 1) := by decide +kernel
theorem dX12_isRoadTold_41 : decode cX12_isRoadTold 41 = .ok (.if_icmp .eq 27, 3) := by decide +kernel
theorem dX12_isRoadTold_44 : decode cX12_isRoadTold 44 = .ok (.aload_n 0, 1) := by decide +kernel
theorem dX12_isRoadTold_45 : decode cX12_isRoadTold 45 = .ok (.getfield 26, 3) := by decide +kernel
theorem dX12_isRoadTold_48 : decode cX12_isRoadTold 48 = .ok (.iload 4, 2) := by decide +kernel
theorem dX12_isRoadTold_50 : decode cX12_isRoadTold 50 = .ok (.iaload, 1) := by decide +kernel
theorem dX12_isRoadTold_51 : decode cX12_isRoadTold 51 = .ok (.iload_n 2, 1) := by decide +kernel
theorem dX12_isRoadTold_52 : decode cX12_isRoadTold 52 = .ok (.if_icmp .ne 18, 3) := by decide +kernel
theorem dX12_isRoadTold_55 : decode cX12_isRoadTold 55 = .ok (.aload_n 0, 1) := by decide +kernel
theorem dX12_isRoadTold_56 : decode cX12_isRoadTold 56 = .ok (.getfield 26, 3) := by decide +kernel
theorem dX12_isRoadTold_59 : decode cX12_isRoadTold 59 = .ok (.iload 4, 2) := by decide +kernel
theorem dX12_isRoadTold_61 : decode cX12_isRoadTold 61 = .ok (.iconst 1, 1) := by decide +kernel
theorem dX12_isRoadTold_62 : decode cX12_isRoadTold 62 = .ok (.iadd, 1) := by decide +kernel
theorem dX12_isRoadTold_63 : decode cX12_isRoadTold 63 = .ok (.iaload, 1) := by decide +kernel
theorem dX12_isRoadTold_64 : decode cX12_isRoadTold 64 = .ok (.iload_n 1, 1) := by decide +kernel
theorem dX12_isRoadTold_65 : decode cX12_isRoadTold 65 = .ok (.if_icmp .ne 5, 3) := by decide +kernel
theorem dX12_isRoadTold_68 : decode cX12_isRoadTold 68 = .ok (.iconst 1, 1) := by decide +kernel
theorem dX12_isRoadTold_69 : decode cX12_isRoadTold 69 = .ok (.ireturn, 1) := by decide +kernel
theorem dX12_isRoadTold_70 : decode cX12_isRoadTold 70 = .ok (.iinc 3 1, 3) := by decide +kernel
theorem dX12_isRoadTold_73 : decode cX12_isRoadTold 73 = .ok (.goto (-71), 3) := by decide +kernel
theorem dX12_isRoadTold_76 : decode cX12_isRoadTold 76 = .ok (.iconst 0, 1) := by decide +kernel
theorem dX12_isRoadTold_77 : decode cX12_isRoadTold 77 = .ok (.ireturn, 1) := by decide +kernel
set_option maxRecDepth 20000 in
theorem ggX12_isRoadHere_X12_fails : GoodIn wsX12_isRoadHere wsX12_fails := goodIn_r _ [7, 8, 43, 44, 45, 46, 47, 48, 49, 50, 51, 52, 53, 54, 55, 56, 57, 58, 59, 60, 61, 62, 63, 64, 65, 66, 67, 68, 69, 70, 71, 72, 73, 74, 75, 76, 77, 78, 79, 80] (by decide +kernel) (by decide +kernel)
set_option maxRecDepth 20000 in
theorem gX12_isRoadHere_X12_fails : GoodIn wsX12_isRoadHere (wsV RX12 111 RX12 yX12_fails wsX12_fails) := goodIn_app (goodIn_of _ (by decide +kernel)) ggX12_isRoadHere_X12_fails
set_option maxRecDepth 20000 in
theorem ggX12_isRoadHere_X12_passWord : GoodIn wsX12_isRoadHere wsX12_passWord := goodIn_r _ [12, 2, 13, 14, 15, 6, 16, 17, 18, 43, 44, 45, 46, 47, 48, 49, 50, 51, 52, 53, 54, 55, 56, 57, 58, 59, 60, 61, 62, 63, 64, 65, 66, 67, 68, 69, 70, 71, 72, 73, 74, 75, 76, 77, 78, 79, 80] (by decide +kernel) (by decide +kernel)
set_option maxRecDepth 20000 in
theorem gX12_isRoadHere_X12_passWord : GoodIn wsX12_isRoadHere (wsV RX12 105 RX12 yX12_passWord wsX12_passWord) := goodIn_app (goodIn_of _ (by decide +kernel)) ggX12_isRoadHere_X12_passWord
set_option maxRecDepth 20000 in
theorem ggX12_isRoadHere_X12_cellHere : GoodIn wsX12_isRoadHere wsX12_cellHere := goodIn_r _ [22, 1, 23, 24, 25, 26, 6, 27, 2, 18, 28, 29, 30, 31, 17, 32, 33, 34, 35, 3, 4, 5, 7, 8, 36, 37, 38, 43, 44, 45, 46, 47, 48, 49, 50, 51, 52, 53, 54, 55, 56, 57, 58, 59, 60, 61, 62, 63, 64, 65, 66, 67, 68, 69, 70, 71, 72, 73, 74, 75, 76, 77, 78, 79, 80] (by decide +kernel) (by decide +kernel)
set_option maxRecDepth 20000 in
theorem gX12_isRoadHere_X12_cellHere : GoodIn wsX12_isRoadHere (wsV RX12 214 RX12 yX12_cellHere wsX12_cellHere) := goodIn_app (goodIn_of _ (by decide +kernel)) ggX12_isRoadHere_X12_cellHere
set_option maxRecDepth 20000 in
theorem ggX12_isRoadHere_X12_see : GoodIn wsX12_isRoadHere wsX12_see := goodIn_r _ [31, 2, 17, 18, 43, 44, 45, 46, 47, 48, 49, 50, 51, 52, 53, 54, 55, 56, 57, 58, 59, 60, 61, 62, 63, 64, 65, 66, 67, 68, 69, 70, 71, 72, 73, 74, 75, 76, 77, 78, 79, 80] (by decide +kernel) (by decide +kernel)
set_option maxRecDepth 20000 in
theorem gX12_isRoadHere_X12_see : GoodIn wsX12_isRoadHere (wsV RX12 93 RX12 yX12_see wsX12_see) := goodIn_app (goodIn_of _ (by decide +kernel)) ggX12_isRoadHere_X12_see
set_option maxRecDepth 20000 in
theorem ggX12_isRoadHere_X12_isRoadTold : GoodIn wsX12_isRoadHere wsX12_isRoadTold := goodIn_r _ [42, 1, 43, 44, 45, 46, 47, 48, 49, 50, 51, 52, 53, 54, 55, 56, 57, 58, 59, 60, 61, 62, 63, 64, 65, 66, 67, 68, 69, 70, 71, 72, 73, 74, 75, 76, 77, 78, 79, 80] (by decide +kernel) (by decide +kernel)
set_option maxRecDepth 20000 in
theorem gX12_isRoadHere_X12_isRoadTold : GoodIn wsX12_isRoadHere (wsV RX12 218 RX12 yX12_isRoadTold wsX12_isRoadTold) := goodIn_app (goodIn_of _ (by decide +kernel)) ggX12_isRoadHere_X12_isRoadTold
theorem dX12_isRoadHere_0 : decode cX12_isRoadHere 0 = .ok (.aload_n 0, 1) := by decide +kernel
theorem dX12_isRoadHere_1 : decode cX12_isRoadHere 1 = .ok (.getfield 26, 3) := by decide +kernel
theorem dX12_isRoadHere_4 : decode cX12_isRoadHere 4 = .ok (.iconst 3, 1) := by decide +kernel
theorem dX12_isRoadHere_5 : decode cX12_isRoadHere 5 = .ok (.iaload, 1) := by decide +kernel
theorem dX12_isRoadHere_6 : decode cX12_isRoadHere 6 = .ok (.bipush 8, 2) := by decide +kernel
theorem dX12_isRoadHere_8 : decode cX12_isRoadHere 8 = .ok (.if_icmp .ne 10, 3) := by decide +kernel
theorem dX12_isRoadHere_11 : decode cX12_isRoadHere 11 = .ok (.aload_n 0, 1) := by decide +kernel
theorem dX12_isRoadHere_12 : decode cX12_isRoadHere 12 = .ok (.iconst 4, 1) := by decide +kernel
theorem dX12_isRoadHere_13 : decode cX12_isRoadHere 13 = .ok (.iload_n 1, 1) := by decide +kernel
theorem dX12_isRoadHere_14 : decode cX12_isRoadHere 14 = .ok (.invokevirtual 111, 3) := by decide +kernel
theorem dX12_isRoadHere_17 : decode cX12_isRoadHere 17 = .ok (.ireturn, 1) := by decide +kernel
theorem dX12_isRoadHere_18 : decode cX12_isRoadHere 18 = .ok (.aload_n 0, 1) := by decide +kernel
theorem dX12_isRoadHere_19 : decode cX12_isRoadHere 19 = .ok (.invokevirtual 105, 3) := by decide +kernel
theorem dX12_isRoadHere_22 : decode cX12_isRoadHere 22 = .ok (.bipush 57, 2) := by decide +kernel
theorem dX12_isRoadHere_24 : decode cX12_isRoadHere 24 = .ok (.iconst 3, 1) := by decide +kernel
theorem dX12_isRoadHere_25 : decode cX12_isRoadHere 25 = .ok (.aload_n 0, 1) := by decide +kernel
theorem dX12_isRoadHere_26 : decode cX12_isRoadHere 26 = .ok (.getfield 26, 3) := by decide +kernel
theorem dX12_isRoadHere_29 : decode cX12_isRoadHere 29 = .ok (.iconst 3, 1) := by decide +kernel
theorem dX12_isRoadHere_30 : decode cX12_isRoadHere 30 = .ok (.iaload, 1) := by decide +kernel
theorem dX12_isRoadHere_31 : decode cX12_isRoadHere 31 = .ok (.imul, 1) := by decide +kernel
theorem dX12_isRoadHere_32 : decode cX12_isRoadHere 32 = .ok (.iadd, 1) := by decide +kernel
theorem dX12_isRoadHere_33 : decode cX12_isRoadHere 33 = .ok (.istore_n 2, 1) := by decide +kernel
theorem dX12_isRoadHere_34 : decode cX12_isRoadHere 34 = .ok (.aload_n 0, 1) := by decide +kernel
theorem dX12_isRoadHere_35 : decode cX12_isRoadHere 35 = .ok (.iload_n 2, 1) := by decide +kernel
theorem dX12_isRoadHere_36 : decode cX12_isRoadHere 36 = .ok (.iconst 0, 1) := by decide +kernel
theorem dX12_isRoadHere_37 : decode cX12_isRoadHere 37 = .ok (.aload_n 0, 1) := by decide +kernel
theorem dX12_isRoadHere_38 : decode cX12_isRoadHere 38 = .ok (.getfield 26, 3) := by decide +kernel
theorem dX12_isRoadHere_41 : decode cX12_isRoadHere 41 = .ok (.iconst 0, 1) := by decide +kernel
theorem dX12_isRoadHere_42 : decode cX12_isRoadHere 42 = .ok (.iaload, 1) := by decide +kernel
theorem dX12_isRoadHere_43 : decode cX12_isRoadHere 43 = .ok (.iconst 1, 1) := by decide +kernel
theorem dX12_isRoadHere_44 : decode cX12_isRoadHere 44 = .ok (.isub, 1) := by decide +kernel
theorem dX12_isRoadHere_45 : decode cX12_isRoadHere 45 = .ok (.invokevirtual 214, 3) := by decide +kernel
theorem dX12_isRoadHere_48 : decode cX12_isRoadHere 48 = .ok (.ifCond .ne 5, 3) := by decide +kernel
theorem dX12_isRoadHere_51 : decode cX12_isRoadHere 51 = .ok (.iconst 0, 1) := by decide +kernel
theorem dX12_isRoadHere_52 : decode cX12_isRoadHere 52 = .ok (.ireturn, 1) := by decide +kernel
theorem dX12_isRoadHere_53 : decode cX12_isRoadHere 53 = .ok (.aload_n 0, 1) := by decide +kernel
theorem dX12_isRoadHere_54 : decode cX12_isRoadHere 54 = .ok (.invokevirtual 93, 3) := by decide +kernel
theorem dX12_isRoadHere_57 : decode cX12_isRoadHere 57 = .ok (.pop, 1) := by decide +kernel
theorem dX12_isRoadHere_58 : decode cX12_isRoadHere 58 = .ok (.aload_n 0, 1) := by decide +kernel
theorem dX12_isRoadHere_59 : decode cX12_isRoadHere 59 = .ok (.getfield 90, 3) := by decide +kernel
theorem dX12_isRoadHere_62 : decode cX12_isRoadHere 62 = .ok (.istore_n 3, 1) := by decide +kernel
theorem dX12_isRoadHere_63 : decode cX12_isRoadHere 63 = .ok (.aload_n 0, 1) := by decide +kernel
theorem dX12_isRoadHere_64 : decode cX12_isRoadHere 64 = .ok (.iload_n 2, 1) := by decide +kernel
theorem dX12_isRoadHere_65 : decode cX12_isRoadHere 65 = .ok (.iconst 1, 1) := by decide +kernel
theorem dX12_isRoadHere_66 : decode cX12_isRoadHere 66 = .ok (.iadd, 1) := by decide +kernel
theorem dX12_isRoadHere_67 : decode cX12_isRoadHere 67 = .ok (.iconst 0, 1) := by decide +kernel
theorem dX12_isRoadHere_68 : decode cX12_isRoadHere 68 = .ok (.aload_n 0, 1) := by decide +kernel
theorem dX12_isRoadHere_69 : decode cX12_isRoadHere 69 = .ok (.getfield 26, 3) := by decide +kernel
theorem dX12_isRoadHere_72 : decode cX12_isRoadHere 72 = .ok (.iconst 0, 1) := by decide +kernel
theorem dX12_isRoadHere_73 : decode cX12_isRoadHere 73 = .ok (.iaload, 1) := by decide +kernel
theorem dX12_isRoadHere_74 : decode cX12_isRoadHere 74 = .ok (.iconst 1, 1) := by decide +kernel
theorem dX12_isRoadHere_75 : decode cX12_isRoadHere 75 = .ok (.isub, 1) := by decide +kernel
theorem dX12_isRoadHere_76 : decode cX12_isRoadHere 76 = .ok (.invokevirtual 214, 3) := by decide +kernel
theorem dX12_isRoadHere_79 : decode cX12_isRoadHere 79 = .ok (.ifCond .ne 5, 3) := by decide +kernel
theorem dX12_isRoadHere_82 : decode cX12_isRoadHere 82 = .ok (.iconst 0, 1) := by decide +kernel
theorem dX12_isRoadHere_83 : decode cX12_isRoadHere 83 = .ok (.ireturn, 1) := by decide +kernel
theorem dX12_isRoadHere_84 : decode cX12_isRoadHere 84 = .ok (.aload_n 0, 1) := by decide +kernel
theorem dX12_isRoadHere_85 : decode cX12_isRoadHere 85 = .ok (.getfield 26, 3) := by decide +kernel
theorem dX12_isRoadHere_88 : decode cX12_isRoadHere 88 = .ok (.iload_n 2, 1) := by decide +kernel
theorem dX12_isRoadHere_89 : decode cX12_isRoadHere 89 = .ok (.iaload, 1) := by decide +kernel
theorem dX12_isRoadHere_90 : decode cX12_isRoadHere 90 = .ok (.aload_n 0, 1) := by decide +kernel
theorem dX12_isRoadHere_91 : decode cX12_isRoadHere 91 = .ok (.getfield 26, 3) := by decide +kernel
theorem dX12_isRoadHere_94 : decode cX12_isRoadHere 94 = .ok (.iload_n 2, 1) := by decide +kernel
theorem dX12_isRoadHere_95 : decode cX12_isRoadHere 95 = .ok (.iconst 1, 1) := by decide +kernel
theorem dX12_isRoadHere_96 : decode cX12_isRoadHere 96 = .ok (.iadd, 1) := by decide +kernel
theorem dX12_isRoadHere_97 : decode cX12_isRoadHere 97 = .ok (.iaload, 1) := by decide +kernel
theorem dX12_isRoadHere_98 : decode cX12_isRoadHere 98 = .ok (.if_icmp .eq 24, 3) := by decide +kernel
theorem dX12_isRoadHere_101 : decode cX12_isRoadHere 101 = .ok (.aload_n 0, 1) := by decide +kernel
theorem dX12_isRoadHere_102 : decode cX12_isRoadHere 102 = .ok (.aload_n 0, 1) := by decide +kernel
theorem dX12_isRoadHere_103 : decode cX12_isRoadHere 103 = .ok (.getfield 26, 3) := by decide +kernel
theorem dX12_isRoadHere_106 : decode cX12_isRoadHere 106 = .ok (.iload_n 2, 1) := by decide +kernel
theorem dX12_isRoadHere_107 : decode cX12_isRoadHere 107 = .ok (.iaload, 1) := by decide +kernel
theorem dX12_isRoadHere_108 : decode cX12_isRoadHere 108 = .ok (.aload_n 0, 1) := by decide +kernel
theorem dX12_isRoadHere_109 : decode cX12_isRoadHere 109 = .ok (.getfield 26, 3) := by decide +kernel
theorem dX12_isRoadHere_112 : decode cX12_isRoadHere 112 = .ok (.iload_n 2, 1) := by decide +kernel
theorem dX12_isRoadHere_113 : decode cX12_isRoadHere 113 = .ok (.iconst 1, 1) := by decide +kernel
theorem dX12_isRoadHere_114 : decode cX12_isRoadHere 114 = .ok (.iadd, 1) := by decide +kernel
theorem dX12_isRoadHere_115 : decode cX12_isRoadHere 115 = .ok (.iaload, 1) := by decide +kernel
theorem dX12_isRoadHere_116 : decode cX12_isRoadHere 116 = .ok (.invokevirtual 218, 3) := by decide +kernel
theorem dX12_isRoadHere_119 : decode cX12_isRoadHere 119 = .ok (.ifCond .eq 10, 3) := by decide +kernel
theorem dX12_isRoadHere_122 : decode cX12_isRoadHere 122 = .ok (.aload_n 0, 1) := by decide +kernel
theorem dX12_isRoadHere_123 : decode cX12_isRoadHere 123 = .ok (.iconst 1, 1) := by decide +kernel
theorem dX12_isRoadHere_124 : decode cX12_isRoadHere 124 = .ok (.iload_n 3, 1) := by decide +kernel
theorem dX12_isRoadHere_125 : decode cX12_isRoadHere 125 = .ok (.invokevirtual 111, 3) := by decide +kernel
theorem dX12_isRoadHere_128 : decode cX12_isRoadHere 128 = .ok (.ireturn, 1) := by decide +kernel
theorem dX12_isRoadHere_129 : decode cX12_isRoadHere 129 = .ok (.aload_n 0, 1) := by decide +kernel
theorem dX12_isRoadHere_130 : decode cX12_isRoadHere 130 = .ok (.iload_n 2, 1) := by decide +kernel
theorem dX12_isRoadHere_131 : decode cX12_isRoadHere 131 = .ok (.iconst 2, 1) := by decide +kernel
theorem dX12_isRoadHere_132 : decode cX12_isRoadHere 132 = .ok (.iadd, 1) := by decide +kernel
theorem dX12_isRoadHere_133 : decode cX12_isRoadHere 133 = .ok (.iconst 1, 1) := by decide +kernel
theorem dX12_isRoadHere_134 : decode cX12_isRoadHere 134 = .ok (.iconst 5, 1) := by decide +kernel
theorem dX12_isRoadHere_135 : decode cX12_isRoadHere 135 = .ok (.invokevirtual 214, 3) := by decide +kernel
theorem dX12_isRoadHere_138 : decode cX12_isRoadHere 138 = .ok (.ifCond .ne 5, 3) := by decide +kernel
theorem dX12_isRoadHere_141 : decode cX12_isRoadHere 141 = .ok (.iconst 0, 1) := by decide +kernel
theorem dX12_isRoadHere_142 : decode cX12_isRoadHere 142 = .ok (.ireturn, 1) := by decide +kernel
theorem dX12_isRoadHere_143 : decode cX12_isRoadHere 143 = .ok (.aload_n 0, 1) := by decide +kernel
theorem dX12_isRoadHere_144 : decode cX12_isRoadHere 144 = .ok (.getfield 26, 3) := by decide +kernel
theorem dX12_isRoadHere_147 : decode cX12_isRoadHere 147 = .ok (.iconst 3, 1) := by decide +kernel
theorem dX12_isRoadHere_148 : decode cX12_isRoadHere 148 = .ok (.dup2, 1) := by decide +kernel
theorem dX12_isRoadHere_149 : decode cX12_isRoadHere 149 = .ok (.iaload, 1) := by decide +kernel
theorem dX12_isRoadHere_150 : decode cX12_isRoadHere 150 = .ok (.iconst 1, 1) := by decide +kernel
theorem dX12_isRoadHere_151 : decode cX12_isRoadHere 151 = .ok (.iadd, 1) := by decide +kernel
theorem dX12_isRoadHere_152 : decode cX12_isRoadHere 152 = .ok (.iastore, 1) := by decide +kernel
theorem dX12_isRoadHere_153 : decode cX12_isRoadHere 153 = .ok (.iconst 1, 1) := by decide +kernel
theorem dX12_isRoadHere_154 : decode cX12_isRoadHere 154 = .ok (.ireturn, 1) := by decide +kernel
set_option maxRecDepth 20000 in
theorem ggX12_isHandHere_X12_fails : GoodIn wsX12_isHandHere wsX12_fails := goodIn_r _ [6, 7, 39, 40, 41, 42, 43, 44, 45, 46, 47, 48, 49, 50, 51, 52, 53, 54, 55, 56, 57, 58, 59, 60, 61, 62, 63, 64, 65, 66, 67, 68, 69, 70, 71, 72, 73, 74, 75, 76] (by decide +kernel) (by decide +kernel)
set_option maxRecDepth 20000 in
theorem gX12_isHandHere_X12_fails : GoodIn wsX12_isHandHere (wsV RX12 111 RX12 yX12_fails wsX12_fails) := goodIn_app (goodIn_of _ (by decide +kernel)) ggX12_isHandHere_X12_fails
set_option maxRecDepth 20000 in
theorem ggX12_isHandHere_X12_passWord : GoodIn wsX12_isHandHere wsX12_passWord := goodIn_r _ [11, 12, 13, 14, 15, 5, 16, 17, 18, 39, 40, 41, 42, 43, 44, 45, 46, 47, 48, 49, 50, 51, 52, 53, 54, 55, 56, 57, 58, 59, 60, 61, 62, 63, 64, 65, 66, 67, 68, 69, 70, 71, 72, 73, 74, 75, 76] (by decide +kernel) (by decide +kernel)
set_option maxRecDepth 20000 in
theorem gX12_isHandHere_X12_passWord : GoodIn wsX12_isHandHere (wsV RX12 105 RX12 yX12_passWord wsX12_passWord) := goodIn_app (goodIn_of _ (by decide +kernel)) ggX12_isHandHere_X12_passWord
set_option maxRecDepth 20000 in
theorem ggX12_isHandHere_X12_cellHere : GoodIn wsX12_isHandHere wsX12_cellHere := goodIn_r _ [22, 1, 23, 24, 25, 26, 5, 27, 12, 18, 28, 29, 30, 31, 17, 32, 33, 34, 35, 2, 3, 4, 6, 7, 36, 37, 38, 39, 40, 41, 42, 43, 44, 45, 46, 47, 48, 49, 50, 51, 52, 53, 54, 55, 56, 57, 58, 59, 60, 61, 62, 63, 64, 65, 66, 67, 68, 69, 70, 71, 72, 73, 74, 75, 76] (by decide +kernel) (by decide +kernel)
set_option maxRecDepth 20000 in
theorem gX12_isHandHere_X12_cellHere : GoodIn wsX12_isHandHere (wsV RX12 214 RX12 yX12_cellHere wsX12_cellHere) := goodIn_app (goodIn_of _ (by decide +kernel)) ggX12_isHandHere_X12_cellHere
theorem dX12_isHandHere_0 : decode cX12_isHandHere 0 = .ok (.aload_n 0, 1) := by decide +kernel
theorem dX12_isHandHere_1 : decode cX12_isHandHere 1 = .ok (.getfield 26, 3) := by decide +kernel
theorem dX12_isHandHere_4 : decode cX12_isHandHere 4 = .ok (.iconst 4, 1) := by decide +kernel
theorem dX12_isHandHere_5 : decode cX12_isHandHere 5 = .ok (.iaload, 1) := by decide +kernel
theorem dX12_isHandHere_6 : decode cX12_isHandHere 6 = .ok (.iconst 5, 1) := by decide +kernel
theorem dX12_isHandHere_7 : decode cX12_isHandHere 7 = .ok (.if_icmp .ne 10, 3) := by decide +kernel
theorem dX12_isHandHere_10 : decode cX12_isHandHere 10 = .ok (.aload_n 0, 1) := by decide +kernel
theorem dX12_isHandHere_11 : decode cX12_isHandHere 11 = .ok (.iconst 4, 1) := by decide +kernel
theorem dX12_isHandHere_12 : decode cX12_isHandHere 12 = .ok (.iload_n 1, 1) := by decide +kernel
theorem dX12_isHandHere_13 : decode cX12_isHandHere 13 = .ok (.invokevirtual 111, 3) := by decide +kernel
theorem dX12_isHandHere_16 : decode cX12_isHandHere 16 = .ok (.ireturn, 1) := by decide +kernel
theorem dX12_isHandHere_17 : decode cX12_isHandHere 17 = .ok (.aload_n 0, 1) := by decide +kernel
theorem dX12_isHandHere_18 : decode cX12_isHandHere 18 = .ok (.invokevirtual 105, 3) := by decide +kernel
theorem dX12_isHandHere_21 : decode cX12_isHandHere 21 = .ok (.bipush 10, 2) := by decide +kernel
theorem dX12_isHandHere_23 : decode cX12_isHandHere 23 = .ok (.iconst 5, 1) := by decide +kernel
theorem dX12_isHandHere_24 : decode cX12_isHandHere 24 = .ok (.aload_n 0, 1) := by decide +kernel
theorem dX12_isHandHere_25 : decode cX12_isHandHere 25 = .ok (.getfield 26, 3) := by decide +kernel
theorem dX12_isHandHere_28 : decode cX12_isHandHere 28 = .ok (.iconst 4, 1) := by decide +kernel
theorem dX12_isHandHere_29 : decode cX12_isHandHere 29 = .ok (.iaload, 1) := by decide +kernel
theorem dX12_isHandHere_30 : decode cX12_isHandHere 30 = .ok (.imul, 1) := by decide +kernel
theorem dX12_isHandHere_31 : decode cX12_isHandHere 31 = .ok (.iadd, 1) := by decide +kernel
theorem dX12_isHandHere_32 : decode cX12_isHandHere 32 = .ok (.istore_n 2, 1) := by decide +kernel
theorem dX12_isHandHere_33 : decode cX12_isHandHere 33 = .ok (.aload_n 0, 1) := by decide +kernel
theorem dX12_isHandHere_34 : decode cX12_isHandHere 34 = .ok (.iload_n 2, 1) := by decide +kernel
theorem dX12_isHandHere_35 : decode cX12_isHandHere 35 = .ok (.iconst 0, 1) := by decide +kernel
theorem dX12_isHandHere_36 : decode cX12_isHandHere 36 = .ok (.aload_n 0, 1) := by decide +kernel
theorem dX12_isHandHere_37 : decode cX12_isHandHere 37 = .ok (.getfield 26, 3) := by decide +kernel
theorem dX12_isHandHere_40 : decode cX12_isHandHere 40 = .ok (.iconst 0, 1) := by decide +kernel
theorem dX12_isHandHere_41 : decode cX12_isHandHere 41 = .ok (.iaload, 1) := by decide +kernel
theorem dX12_isHandHere_42 : decode cX12_isHandHere 42 = .ok (.iconst 1, 1) := by decide +kernel
theorem dX12_isHandHere_43 : decode cX12_isHandHere 43 = .ok (.isub, 1) := by decide +kernel
theorem dX12_isHandHere_44 : decode cX12_isHandHere 44 = .ok (.invokevirtual 214, 3) := by decide +kernel
theorem dX12_isHandHere_47 : decode cX12_isHandHere 47 = .ok (.ifCond .eq 28, 3) := by decide +kernel
theorem dX12_isHandHere_50 : decode cX12_isHandHere 50 = .ok (.aload_n 0, 1) := by decide +kernel
theorem dX12_isHandHere_51 : decode cX12_isHandHere 51 = .ok (.iload_n 2, 1) := by decide +kernel
theorem dX12_isHandHere_52 : decode cX12_isHandHere 52 = .ok (.iconst 3, 1) := by decide +kernel
theorem dX12_isHandHere_53 : decode cX12_isHandHere 53 = .ok (.iadd, 1) := by decide +kernel
theorem dX12_isHandHere_54 : decode cX12_isHandHere 54 = .ok (.iconst 0, 1) := by decide +kernel
theorem dX12_isHandHere_55 : decode cX12_isHandHere 55 = .ok (.bipush 20, 2) := by decide +kernel
theorem dX12_isHandHere_57 : decode cX12_isHandHere 57 = .ok (.invokevirtual 214, 3) := by decide +kernel
theorem dX12_isHandHere_60 : decode cX12_isHandHere 60 = .ok (.ifCond .eq 15, 3) := by decide +kernel
theorem dX12_isHandHere_63 : decode cX12_isHandHere 63 = .ok (.aload_n 0, 1) := by decide +kernel
theorem dX12_isHandHere_64 : decode cX12_isHandHere 64 = .ok (.iload_n 2, 1) := by decide +kernel
theorem dX12_isHandHere_65 : decode cX12_isHandHere 65 = .ok (.iconst 4, 1) := by decide +kernel
theorem dX12_isHandHere_66 : decode cX12_isHandHere 66 = .ok (.iadd, 1) := by decide +kernel
theorem dX12_isHandHere_67 : decode cX12_isHandHere 67 = .ok (.iconst 0, 1) := by decide +kernel
theorem dX12_isHandHere_68 : decode cX12_isHandHere 68 = .ok (.iconst 5, 1) := by decide +kernel
theorem dX12_isHandHere_69 : decode cX12_isHandHere 69 = .ok (.invokevirtual 214, 3) := by decide +kernel
theorem dX12_isHandHere_72 : decode cX12_isHandHere 72 = .ok (.ifCond .ne 5, 3) := by decide +kernel
theorem dX12_isHandHere_75 : decode cX12_isHandHere 75 = .ok (.iconst 0, 1) := by decide +kernel
theorem dX12_isHandHere_76 : decode cX12_isHandHere 76 = .ok (.ireturn, 1) := by decide +kernel
theorem dX12_isHandHere_77 : decode cX12_isHandHere 77 = .ok (.aload_n 0, 1) := by decide +kernel
theorem dX12_isHandHere_78 : decode cX12_isHandHere 78 = .ok (.getfield 26, 3) := by decide +kernel
theorem dX12_isHandHere_81 : decode cX12_isHandHere 81 = .ok (.iload_n 2, 1) := by decide +kernel
theorem dX12_isHandHere_82 : decode cX12_isHandHere 82 = .ok (.iconst 1, 1) := by decide +kernel
theorem dX12_isHandHere_83 : decode cX12_isHandHere 83 = .ok (.iadd, 1) := by decide +kernel
theorem dX12_isHandHere_84 : decode cX12_isHandHere 84 = .ok (.iconst 0, 1) := by decide +kernel
theorem dX12_isHandHere_85 : decode cX12_isHandHere 85 = .ok (.iastore, 1) := by decide +kernel
theorem dX12_isHandHere_86 : decode cX12_isHandHere 86 = .ok (.aload_n 0, 1) := by decide +kernel
theorem dX12_isHandHere_87 : decode cX12_isHandHere 87 = .ok (.getfield 26, 3) := by decide +kernel
theorem dX12_isHandHere_90 : decode cX12_isHandHere 90 = .ok (.iload_n 2, 1) := by decide +kernel
theorem dX12_isHandHere_91 : decode cX12_isHandHere 91 = .ok (.iconst 2, 1) := by decide +kernel
theorem dX12_isHandHere_92 : decode cX12_isHandHere 92 = .ok (.iadd, 1) := by decide +kernel
theorem dX12_isHandHere_93 : decode cX12_isHandHere 93 = .ok (.iconst 0, 1) := by decide +kernel
theorem dX12_isHandHere_94 : decode cX12_isHandHere 94 = .ok (.iastore, 1) := by decide +kernel
theorem dX12_isHandHere_95 : decode cX12_isHandHere 95 = .ok (.aload_n 0, 1) := by decide +kernel
theorem dX12_isHandHere_96 : decode cX12_isHandHere 96 = .ok (.getfield 26, 3) := by decide +kernel
theorem dX12_isHandHere_99 : decode cX12_isHandHere 99 = .ok (.iconst 4, 1) := by decide +kernel
theorem dX12_isHandHere_100 : decode cX12_isHandHere 100 = .ok (.dup2, 1) := by decide +kernel
theorem dX12_isHandHere_101 : decode cX12_isHandHere 101 = .ok (.iaload, 1) := by decide +kernel
theorem dX12_isHandHere_102 : decode cX12_isHandHere 102 = .ok (.iconst 1, 1) := by decide +kernel
theorem dX12_isHandHere_103 : decode cX12_isHandHere 103 = .ok (.iadd, 1) := by decide +kernel
theorem dX12_isHandHere_104 : decode cX12_isHandHere 104 = .ok (.iastore, 1) := by decide +kernel
theorem dX12_isHandHere_105 : decode cX12_isHandHere 105 = .ok (.iconst 1, 1) := by decide +kernel
theorem dX12_isHandHere_106 : decode cX12_isHandHere 106 = .ok (.ireturn, 1) := by decide +kernel
set_option maxRecDepth 20000 in
theorem ggX12_isJugHere_X12_fails : GoodIn wsX12_isJugHere wsX12_fails := goodIn_r _ [6, 7, 39, 40, 41, 42, 43, 44, 45, 46, 47, 48, 49, 50, 51, 52, 53, 54, 55, 56, 57, 58, 59, 60, 61, 62, 63, 64, 65, 66, 67, 68, 69, 70, 71, 72, 73, 74, 75, 76] (by decide +kernel) (by decide +kernel)
set_option maxRecDepth 20000 in
theorem gX12_isJugHere_X12_fails : GoodIn wsX12_isJugHere (wsV RX12 111 RX12 yX12_fails wsX12_fails) := goodIn_app (goodIn_of _ (by decide +kernel)) ggX12_isJugHere_X12_fails
set_option maxRecDepth 20000 in
theorem ggX12_isJugHere_X12_passWord : GoodIn wsX12_isJugHere wsX12_passWord := goodIn_r _ [11, 12, 13, 14, 15, 5, 16, 17, 18, 39, 40, 41, 42, 43, 44, 45, 46, 47, 48, 49, 50, 51, 52, 53, 54, 55, 56, 57, 58, 59, 60, 61, 62, 63, 64, 65, 66, 67, 68, 69, 70, 71, 72, 73, 74, 75, 76] (by decide +kernel) (by decide +kernel)
set_option maxRecDepth 20000 in
theorem gX12_isJugHere_X12_passWord : GoodIn wsX12_isJugHere (wsV RX12 105 RX12 yX12_passWord wsX12_passWord) := goodIn_app (goodIn_of _ (by decide +kernel)) ggX12_isJugHere_X12_passWord
set_option maxRecDepth 20000 in
theorem ggX12_isJugHere_X12_cellHere : GoodIn wsX12_isJugHere wsX12_cellHere := goodIn_r _ [22, 1, 23, 24, 25, 26, 5, 27, 12, 18, 28, 29, 30, 31, 17, 32, 33, 34, 35, 2, 3, 4, 6, 7, 36, 37, 38, 39, 40, 41, 42, 43, 44, 45, 46, 47, 48, 49, 50, 51, 52, 53, 54, 55, 56, 57, 58, 59, 60, 61, 62, 63, 64, 65, 66, 67, 68, 69, 70, 71, 72, 73, 74, 75, 76] (by decide +kernel) (by decide +kernel)
set_option maxRecDepth 20000 in
theorem gX12_isJugHere_X12_cellHere : GoodIn wsX12_isJugHere (wsV RX12 214 RX12 yX12_cellHere wsX12_cellHere) := goodIn_app (goodIn_of _ (by decide +kernel)) ggX12_isJugHere_X12_cellHere
theorem dX12_isJugHere_0 : decode cX12_isJugHere 0 = .ok (.aload_n 0, 1) := by decide +kernel
theorem dX12_isJugHere_1 : decode cX12_isJugHere 1 = .ok (.getfield 26, 3) := by decide +kernel
theorem dX12_isJugHere_4 : decode cX12_isJugHere 4 = .ok (.iconst 5, 1) := by decide +kernel
theorem dX12_isJugHere_5 : decode cX12_isJugHere 5 = .ok (.iaload, 1) := by decide +kernel
theorem dX12_isJugHere_6 : decode cX12_isJugHere 6 = .ok (.iconst 4, 1) := by decide +kernel
theorem dX12_isJugHere_7 : decode cX12_isJugHere 7 = .ok (.if_icmp .ne 10, 3) := by decide +kernel
theorem dX12_isJugHere_10 : decode cX12_isJugHere 10 = .ok (.aload_n 0, 1) := by decide +kernel
theorem dX12_isJugHere_11 : decode cX12_isJugHere 11 = .ok (.iconst 4, 1) := by decide +kernel
theorem dX12_isJugHere_12 : decode cX12_isJugHere 12 = .ok (.iload_n 1, 1) := by decide +kernel
theorem dX12_isJugHere_13 : decode cX12_isJugHere 13 = .ok (.invokevirtual 111, 3) := by decide +kernel
theorem dX12_isJugHere_16 : decode cX12_isJugHere 16 = .ok (.ireturn, 1) := by decide +kernel
theorem dX12_isJugHere_17 : decode cX12_isJugHere 17 = .ok (.aload_n 0, 1) := by decide +kernel
theorem dX12_isJugHere_18 : decode cX12_isJugHere 18 = .ok (.invokevirtual 105, 3) := by decide +kernel
theorem dX12_isJugHere_21 : decode cX12_isJugHere 21 = .ok (.bipush 35, 2) := by decide +kernel
theorem dX12_isJugHere_23 : decode cX12_isJugHere 23 = .ok (.iconst 4, 1) := by decide +kernel
theorem dX12_isJugHere_24 : decode cX12_isJugHere 24 = .ok (.aload_n 0, 1) := by decide +kernel
theorem dX12_isJugHere_25 : decode cX12_isJugHere 25 = .ok (.getfield 26, 3) := by decide +kernel
theorem dX12_isJugHere_28 : decode cX12_isJugHere 28 = .ok (.iconst 5, 1) := by decide +kernel
theorem dX12_isJugHere_29 : decode cX12_isJugHere 29 = .ok (.iaload, 1) := by decide +kernel
theorem dX12_isJugHere_30 : decode cX12_isJugHere 30 = .ok (.imul, 1) := by decide +kernel
theorem dX12_isJugHere_31 : decode cX12_isJugHere 31 = .ok (.iadd, 1) := by decide +kernel
theorem dX12_isJugHere_32 : decode cX12_isJugHere 32 = .ok (.istore_n 2, 1) := by decide +kernel
theorem dX12_isJugHere_33 : decode cX12_isJugHere 33 = .ok (.aload_n 0, 1) := by decide +kernel
theorem dX12_isJugHere_34 : decode cX12_isJugHere 34 = .ok (.iload_n 2, 1) := by decide +kernel
theorem dX12_isJugHere_35 : decode cX12_isJugHere 35 = .ok (.iconst 0, 1) := by decide +kernel
theorem dX12_isJugHere_36 : decode cX12_isJugHere 36 = .ok (.aload_n 0, 1) := by decide +kernel
theorem dX12_isJugHere_37 : decode cX12_isJugHere 37 = .ok (.getfield 26, 3) := by decide +kernel
theorem dX12_isJugHere_40 : decode cX12_isJugHere 40 = .ok (.iconst 0, 1) := by decide +kernel
theorem dX12_isJugHere_41 : decode cX12_isJugHere 41 = .ok (.iaload, 1) := by decide +kernel
theorem dX12_isJugHere_42 : decode cX12_isJugHere 42 = .ok (.iconst 1, 1) := by decide +kernel
theorem dX12_isJugHere_43 : decode cX12_isJugHere 43 = .ok (.isub, 1) := by decide +kernel
theorem dX12_isJugHere_44 : decode cX12_isJugHere 44 = .ok (.invokevirtual 214, 3) := by decide +kernel
theorem dX12_isJugHere_47 : decode cX12_isJugHere 47 = .ok (.ifCond .eq 16, 3) := by decide +kernel
theorem dX12_isJugHere_50 : decode cX12_isJugHere 50 = .ok (.aload_n 0, 1) := by decide +kernel
theorem dX12_isJugHere_51 : decode cX12_isJugHere 51 = .ok (.iload_n 2, 1) := by decide +kernel
theorem dX12_isJugHere_52 : decode cX12_isJugHere 52 = .ok (.iconst 2, 1) := by decide +kernel
theorem dX12_isJugHere_53 : decode cX12_isJugHere 53 = .ok (.iadd, 1) := by decide +kernel
theorem dX12_isJugHere_54 : decode cX12_isJugHere 54 = .ok (.iconst 0, 1) := by decide +kernel
theorem dX12_isJugHere_55 : decode cX12_isJugHere 55 = .ok (.bipush 99, 2) := by decide +kernel
theorem dX12_isJugHere_57 : decode cX12_isJugHere 57 = .ok (.invokevirtual 214, 3) := by decide +kernel
theorem dX12_isJugHere_60 : decode cX12_isJugHere 60 = .ok (.ifCond .ne 5, 3) := by decide +kernel
theorem dX12_isJugHere_63 : decode cX12_isJugHere 63 = .ok (.iconst 0, 1) := by decide +kernel
theorem dX12_isJugHere_64 : decode cX12_isJugHere 64 = .ok (.ireturn, 1) := by decide +kernel
theorem dX12_isJugHere_65 : decode cX12_isJugHere 65 = .ok (.aload_n 0, 1) := by decide +kernel
theorem dX12_isJugHere_66 : decode cX12_isJugHere 66 = .ok (.getfield 26, 3) := by decide +kernel
theorem dX12_isJugHere_69 : decode cX12_isJugHere 69 = .ok (.iload_n 2, 1) := by decide +kernel
theorem dX12_isJugHere_70 : decode cX12_isJugHere 70 = .ok (.iconst 1, 1) := by decide +kernel
theorem dX12_isJugHere_71 : decode cX12_isJugHere 71 = .ok (.iadd, 1) := by decide +kernel
theorem dX12_isJugHere_72 : decode cX12_isJugHere 72 = .ok (.iconst (-1), 1) := by decide +kernel
theorem dX12_isJugHere_73 : decode cX12_isJugHere 73 = .ok (.iastore, 1) := by decide +kernel
theorem dX12_isJugHere_74 : decode cX12_isJugHere 74 = .ok (.aload_n 0, 1) := by decide +kernel
theorem dX12_isJugHere_75 : decode cX12_isJugHere 75 = .ok (.getfield 26, 3) := by decide +kernel
theorem dX12_isJugHere_78 : decode cX12_isJugHere 78 = .ok (.iload_n 2, 1) := by decide +kernel
theorem dX12_isJugHere_79 : decode cX12_isJugHere 79 = .ok (.iconst 3, 1) := by decide +kernel
theorem dX12_isJugHere_80 : decode cX12_isJugHere 80 = .ok (.iadd, 1) := by decide +kernel
theorem dX12_isJugHere_81 : decode cX12_isJugHere 81 = .ok (.iconst 0, 1) := by decide +kernel
theorem dX12_isJugHere_82 : decode cX12_isJugHere 82 = .ok (.iastore, 1) := by decide +kernel
theorem dX12_isJugHere_83 : decode cX12_isJugHere 83 = .ok (.aload_n 0, 1) := by decide +kernel
theorem dX12_isJugHere_84 : decode cX12_isJugHere 84 = .ok (.getfield 26, 3) := by decide +kernel
theorem dX12_isJugHere_87 : decode cX12_isJugHere 87 = .ok (.iconst 5, 1) := by decide +kernel
theorem dX12_isJugHere_88 : decode cX12_isJugHere 88 = .ok (.dup2, 1) := by decide +kernel
theorem dX12_isJugHere_89 : decode cX12_isJugHere 89 = .ok (.iaload, 1) := by decide +kernel
theorem dX12_isJugHere_90 : decode cX12_isJugHere 90 = .ok (.iconst 1, 1) := by decide +kernel
theorem dX12_isJugHere_91 : decode cX12_isJugHere 91 = .ok (.iadd, 1) := by decide +kernel
theorem dX12_isJugHere_92 : decode cX12_isJugHere 92 = .ok (.iastore, 1) := by decide +kernel
theorem dX12_isJugHere_93 : decode cX12_isJugHere 93 = .ok (.iconst 1, 1) := by decide +kernel
theorem dX12_isJugHere_94 : decode cX12_isJugHere 94 = .ok (.ireturn, 1) := by decide +kernel
set_option maxRecDepth 20000 in
theorem ggX12_isHeatHere_X12_fails : GoodIn wsX12_isHeatHere wsX12_fails := goodIn_r _ [6, 7, 39, 40, 41, 42, 43, 44, 45, 46, 47, 48, 49, 50, 51, 52, 53, 54, 55, 56, 57, 58, 59, 60, 61, 62, 63, 64, 65, 66, 67, 68, 69, 70, 71, 72, 73, 74, 75, 76] (by decide +kernel) (by decide +kernel)
set_option maxRecDepth 20000 in
theorem gX12_isHeatHere_X12_fails : GoodIn wsX12_isHeatHere (wsV RX12 111 RX12 yX12_fails wsX12_fails) := goodIn_app (goodIn_of _ (by decide +kernel)) ggX12_isHeatHere_X12_fails
set_option maxRecDepth 20000 in
theorem ggX12_isHeatHere_X12_passWord : GoodIn wsX12_isHeatHere wsX12_passWord := goodIn_r _ [11, 12, 13, 14, 15, 5, 16, 17, 18, 39, 40, 41, 42, 43, 44, 45, 46, 47, 48, 49, 50, 51, 52, 53, 54, 55, 56, 57, 58, 59, 60, 61, 62, 63, 64, 65, 66, 67, 68, 69, 70, 71, 72, 73, 74, 75, 76] (by decide +kernel) (by decide +kernel)
set_option maxRecDepth 20000 in
theorem gX12_isHeatHere_X12_passWord : GoodIn wsX12_isHeatHere (wsV RX12 105 RX12 yX12_passWord wsX12_passWord) := goodIn_app (goodIn_of _ (by decide +kernel)) ggX12_isHeatHere_X12_passWord
set_option maxRecDepth 20000 in
theorem ggX12_isHeatHere_X12_cellHere : GoodIn wsX12_isHeatHere wsX12_cellHere := goodIn_r _ [22, 1, 23, 24, 25, 26, 5, 27, 12, 18, 28, 29, 30, 31, 17, 32, 33, 34, 35, 2, 3, 4, 6, 7, 36, 37, 38, 39, 40, 41, 42, 43, 44, 45, 46, 47, 48, 49, 50, 51, 52, 53, 54, 55, 56, 57, 58, 59, 60, 61, 62, 63, 64, 65, 66, 67, 68, 69, 70, 71, 72, 73, 74, 75, 76] (by decide +kernel) (by decide +kernel)
set_option maxRecDepth 20000 in
theorem gX12_isHeatHere_X12_cellHere : GoodIn wsX12_isHeatHere (wsV RX12 214 RX12 yX12_cellHere wsX12_cellHere) := goodIn_app (goodIn_of _ (by decide +kernel)) ggX12_isHeatHere_X12_cellHere
theorem dX12_isHeatHere_0 : decode cX12_isHeatHere 0 = .ok (.aload_n 0, 1) := by decide +kernel
theorem dX12_isHeatHere_1 : decode cX12_isHeatHere 1 = .ok (.getfield 26, 3) := by decide +kernel
theorem dX12_isHeatHere_4 : decode cX12_isHeatHere 4 = .ok (.bipush 9, 2) := by decide +kernel
theorem dX12_isHeatHere_6 : decode cX12_isHeatHere 6 = .ok (.iaload, 1) := by decide +kernel
theorem dX12_isHeatHere_7 : decode cX12_isHeatHere 7 = .ok (.iconst 4, 1) := by decide +kernel
theorem dX12_isHeatHere_8 : decode cX12_isHeatHere 8 = .ok (.if_icmp .ne 10, 3) := by decide +kernel
theorem dX12_isHeatHere_11 : decode cX12_isHeatHere 11 = .ok (.aload_n 0, 1) := by decide +kernel
theorem dX12_isHeatHere_12 : decode cX12_isHeatHere 12 = .ok (.iconst 4, 1) := by decide +kernel
theorem dX12_isHeatHere_13 : decode cX12_isHeatHere 13 = .ok (.iload_n 1, 1) := by decide +kernel
theorem dX12_isHeatHere_14 : decode cX12_isHeatHere 14 = .ok (.invokevirtual 111, 3) := by decide +kernel
theorem dX12_isHeatHere_17 : decode cX12_isHeatHere 17 = .ok (.ireturn, 1) := by decide +kernel
theorem dX12_isHeatHere_18 : decode cX12_isHeatHere 18 = .ok (.aload_n 0, 1) := by decide +kernel
theorem dX12_isHeatHere_19 : decode cX12_isHeatHere 19 = .ok (.invokevirtual 105, 3) := by decide +kernel
theorem dX12_isHeatHere_22 : decode cX12_isHeatHere 22 = .ok (.bipush 81, 2) := by decide +kernel
theorem dX12_isHeatHere_24 : decode cX12_isHeatHere 24 = .ok (.iconst 3, 1) := by decide +kernel
theorem dX12_isHeatHere_25 : decode cX12_isHeatHere 25 = .ok (.aload_n 0, 1) := by decide +kernel
theorem dX12_isHeatHere_26 : decode cX12_isHeatHere 26 = .ok (.getfield 26, 3) := by decide +kernel
theorem dX12_isHeatHere_29 : decode cX12_isHeatHere 29 = .ok (.bipush 9, 2) := by decide +kernel
theorem dX12_isHeatHere_31 : decode cX12_isHeatHere 31 = .ok (.iaload, 1) := by decide +kernel
theorem dX12_isHeatHere_32 : decode cX12_isHeatHere 32 = .ok (.imul, 1) := by decide +kernel
theorem dX12_isHeatHere_33 : decode cX12_isHeatHere 33 = .ok (.iadd, 1) := by decide +kernel
theorem dX12_isHeatHere_34 : decode cX12_isHeatHere 34 = .ok (.istore_n 2, 1) := by decide +kernel
theorem dX12_isHeatHere_35 : decode cX12_isHeatHere 35 = .ok (.aload_n 0, 1) := by decide +kernel
theorem dX12_isHeatHere_36 : decode cX12_isHeatHere 36 = .ok (.iload_n 2, 1) := by decide +kernel
theorem dX12_isHeatHere_37 : decode cX12_isHeatHere 37 = .ok (.iconst 0, 1) := by decide +kernel
theorem dX12_isHeatHere_38 : decode cX12_isHeatHere 38 = .ok (.bipush 99, 2) := by decide +kernel
theorem dX12_isHeatHere_40 : decode cX12_isHeatHere 40 = .ok (.invokevirtual 214, 3) := by decide +kernel
theorem dX12_isHeatHere_43 : decode cX12_isHeatHere 43 = .ok (.ifCond .eq 33, 3) := by decide +kernel
theorem dX12_isHeatHere_46 : decode cX12_isHeatHere 46 = .ok (.aload_n 0, 1) := by decide +kernel
theorem dX12_isHeatHere_47 : decode cX12_isHeatHere 47 = .ok (.iload_n 2, 1) := by decide +kernel
theorem dX12_isHeatHere_48 : decode cX12_isHeatHere 48 = .ok (.iconst 1, 1) := by decide +kernel
theorem dX12_isHeatHere_49 : decode cX12_isHeatHere 49 = .ok (.iadd, 1) := by decide +kernel
theorem dX12_isHeatHere_50 : decode cX12_isHeatHere 50 = .ok (.aload_n 0, 1) := by decide +kernel
theorem dX12_isHeatHere_51 : decode cX12_isHeatHere 51 = .ok (.getfield 26, 3) := by decide +kernel
theorem dX12_isHeatHere_54 : decode cX12_isHeatHere 54 = .ok (.iload_n 2, 1) := by decide +kernel
theorem dX12_isHeatHere_55 : decode cX12_isHeatHere 55 = .ok (.iaload, 1) := by decide +kernel
theorem dX12_isHeatHere_56 : decode cX12_isHeatHere 56 = .ok (.bipush 99, 2) := by decide +kernel
theorem dX12_isHeatHere_58 : decode cX12_isHeatHere 58 = .ok (.invokevirtual 214, 3) := by decide +kernel
theorem dX12_isHeatHere_61 : decode cX12_isHeatHere 61 = .ok (.ifCond .eq 15, 3) := by decide +kernel
theorem dX12_isHeatHere_64 : decode cX12_isHeatHere 64 = .ok (.aload_n 0, 1) := by decide +kernel
theorem dX12_isHeatHere_65 : decode cX12_isHeatHere 65 = .ok (.iload_n 2, 1) := by decide +kernel
theorem dX12_isHeatHere_66 : decode cX12_isHeatHere 66 = .ok (.iconst 2, 1) := by decide +kernel
theorem dX12_isHeatHere_67 : decode cX12_isHeatHere 67 = .ok (.iadd, 1) := by decide +kernel
theorem dX12_isHeatHere_68 : decode cX12_isHeatHere 68 = .ok (.iconst 1, 1) := by decide +kernel
theorem dX12_isHeatHere_69 : decode cX12_isHeatHere 69 = .ok (.iconst 5, 1) := by decide +kernel
theorem dX12_isHeatHere_70 : decode cX12_isHeatHere 70 = .ok (.invokevirtual 214, 3) := by decide +kernel
theorem dX12_isHeatHere_73 : decode cX12_isHeatHere 73 = .ok (.ifCond .ne 5, 3) := by decide +kernel
theorem dX12_isHeatHere_76 : decode cX12_isHeatHere 76 = .ok (.iconst 0, 1) := by decide +kernel
theorem dX12_isHeatHere_77 : decode cX12_isHeatHere 77 = .ok (.ireturn, 1) := by decide +kernel
theorem dX12_isHeatHere_78 : decode cX12_isHeatHere 78 = .ok (.aload_n 0, 1) := by decide +kernel
theorem dX12_isHeatHere_79 : decode cX12_isHeatHere 79 = .ok (.getfield 26, 3) := by decide +kernel
theorem dX12_isHeatHere_82 : decode cX12_isHeatHere 82 = .ok (.bipush 9, 2) := by decide +kernel
theorem dX12_isHeatHere_84 : decode cX12_isHeatHere 84 = .ok (.dup2, 1) := by decide +kernel
theorem dX12_isHeatHere_85 : decode cX12_isHeatHere 85 = .ok (.iaload, 1) := by decide +kernel
theorem dX12_isHeatHere_86 : decode cX12_isHeatHere 86 = .ok (.iconst 1, 1) := by decide +kernel
theorem dX12_isHeatHere_87 : decode cX12_isHeatHere 87 = .ok (.iadd, 1) := by decide +kernel
theorem dX12_isHeatHere_88 : decode cX12_isHeatHere 88 = .ok (.iastore, 1) := by decide +kernel
theorem dX12_isHeatHere_89 : decode cX12_isHeatHere 89 = .ok (.iconst 1, 1) := by decide +kernel
theorem dX12_isHeatHere_90 : decode cX12_isHeatHere 90 = .ok (.ireturn, 1) := by decide +kernel
set_option maxRecDepth 20000 in
theorem ggX12_isWantHere_X12_fails : GoodIn wsX12_isWantHere wsX12_fails := goodIn_r _ [6, 7, 39, 40, 41, 42, 43, 44, 45, 46, 47, 48, 49, 50, 51, 52, 53, 54, 55, 56, 57, 58, 59, 60, 61, 62, 63, 64, 65, 66, 67, 68, 69, 70, 71, 72, 73, 74, 75, 76] (by decide +kernel) (by decide +kernel)
set_option maxRecDepth 20000 in
theorem gX12_isWantHere_X12_fails : GoodIn wsX12_isWantHere (wsV RX12 111 RX12 yX12_fails wsX12_fails) := goodIn_app (goodIn_of _ (by decide +kernel)) ggX12_isWantHere_X12_fails
set_option maxRecDepth 20000 in
theorem ggX12_isWantHere_X12_passWord : GoodIn wsX12_isWantHere wsX12_passWord := goodIn_r _ [11, 12, 13, 14, 15, 5, 16, 17, 18, 39, 40, 41, 42, 43, 44, 45, 46, 47, 48, 49, 50, 51, 52, 53, 54, 55, 56, 57, 58, 59, 60, 61, 62, 63, 64, 65, 66, 67, 68, 69, 70, 71, 72, 73, 74, 75, 76] (by decide +kernel) (by decide +kernel)
set_option maxRecDepth 20000 in
theorem gX12_isWantHere_X12_passWord : GoodIn wsX12_isWantHere (wsV RX12 105 RX12 yX12_passWord wsX12_passWord) := goodIn_app (goodIn_of _ (by decide +kernel)) ggX12_isWantHere_X12_passWord
set_option maxRecDepth 20000 in
theorem ggX12_isWantHere_X12_cellHere : GoodIn wsX12_isWantHere wsX12_cellHere := goodIn_r _ [22, 1, 23, 24, 25, 26, 5, 27, 12, 18, 28, 29, 30, 31, 17, 32, 33, 34, 35, 2, 3, 4, 6, 7, 36, 37, 38, 39, 40, 41, 42, 43, 44, 45, 46, 47, 48, 49, 50, 51, 52, 53, 54, 55, 56, 57, 58, 59, 60, 61, 62, 63, 64, 65, 66, 67, 68, 69, 70, 71, 72, 73, 74, 75, 76] (by decide +kernel) (by decide +kernel)
set_option maxRecDepth 20000 in
theorem gX12_isWantHere_X12_cellHere : GoodIn wsX12_isWantHere (wsV RX12 214 RX12 yX12_cellHere wsX12_cellHere) := goodIn_app (goodIn_of _ (by decide +kernel)) ggX12_isWantHere_X12_cellHere
theorem dX12_isWantHere_0 : decode cX12_isWantHere 0 = .ok (.aload_n 0, 1) := by decide +kernel
theorem dX12_isWantHere_1 : decode cX12_isWantHere 1 = .ok (.getfield 26, 3) := by decide +kernel
theorem dX12_isWantHere_4 : decode cX12_isWantHere 4 = .ok (.bipush 6, 2) := by decide +kernel
theorem dX12_isWantHere_6 : decode cX12_isWantHere 6 = .ok (.iaload, 1) := by decide +kernel
theorem dX12_isWantHere_7 : decode cX12_isWantHere 7 = .ok (.bipush 6, 2) := by decide +kernel
theorem dX12_isWantHere_9 : decode cX12_isWantHere 9 = .ok (.if_icmp .ne 10, 3) := by decide +kernel
theorem dX12_isWantHere_12 : decode cX12_isWantHere 12 = .ok (.aload_n 0, 1) := by decide +kernel
theorem dX12_isWantHere_13 : decode cX12_isWantHere 13 = .ok (.iconst 4, 1) := by decide +kernel
theorem dX12_isWantHere_14 : decode cX12_isWantHere 14 = .ok (.iload_n 1, 1) := by decide +kernel
theorem dX12_isWantHere_15 : decode cX12_isWantHere 15 = .ok (.invokevirtual 111, 3) := by decide +kernel
theorem dX12_isWantHere_18 : decode cX12_isWantHere 18 = .ok (.ireturn, 1) := by decide +kernel
theorem dX12_isWantHere_19 : decode cX12_isWantHere 19 = .ok (.aload_n 0, 1) := by decide +kernel
theorem dX12_isWantHere_20 : decode cX12_isWantHere 20 = .ok (.invokevirtual 105, 3) := by decide +kernel
theorem dX12_isWantHere_23 : decode cX12_isWantHere 23 = .ok (.bipush 93, 2) := by decide +kernel
theorem dX12_isWantHere_25 : decode cX12_isWantHere 25 = .ok (.iconst 4, 1) := by decide +kernel
theorem dX12_isWantHere_26 : decode cX12_isWantHere 26 = .ok (.aload_n 0, 1) := by decide +kernel
theorem dX12_isWantHere_27 : decode cX12_isWantHere 27 = .ok (.getfield 26, 3) := by decide +kernel
theorem dX12_isWantHere_30 : decode cX12_isWantHere 30 = .ok (.bipush 6, 2) := by decide +kernel
theorem dX12_isWantHere_32 : decode cX12_isWantHere 32 = .ok (.iaload, 1) := by decide +kernel
theorem dX12_isWantHere_33 : decode cX12_isWantHere 33 = .ok (.imul, 1) := by decide +kernel
theorem dX12_isWantHere_34 : decode cX12_isWantHere 34 = .ok (.iadd, 1) := by decide +kernel
theorem dX12_isWantHere_35 : decode cX12_isWantHere 35 = .ok (.istore_n 2, 1) := by decide +kernel
theorem dX12_isWantHere_36 : decode cX12_isWantHere 36 = .ok (.aload_n 0, 1) := by decide +kernel
theorem dX12_isWantHere_37 : decode cX12_isWantHere 37 = .ok (.iload_n 2, 1) := by decide +kernel
theorem dX12_isWantHere_38 : decode cX12_isWantHere 38 = .ok (.iconst 0, 1) := by decide +kernel
theorem dX12_isWantHere_39 : decode cX12_isWantHere 39 = .ok (.aload_n 0, 1) := by decide +kernel
theorem dX12_isWantHere_40 : decode cX12_isWantHere 40 = .ok (.getfield 26, 3) := by decide +kernel
theorem dX12_isWantHere_43 : decode cX12_isWantHere 43 = .ok (.iconst 0, 1) := by decide +kernel
theorem dX12_isWantHere_44 : decode cX12_isWantHere 44 = .ok (.iaload, 1) := by decide +kernel
theorem dX12_isWantHere_45 : decode cX12_isWantHere 45 = .ok (.iconst 1, 1) := by decide +kernel
theorem dX12_isWantHere_46 : decode cX12_isWantHere 46 = .ok (.isub, 1) := by decide +kernel
theorem dX12_isWantHere_47 : decode cX12_isWantHere 47 = .ok (.invokevirtual 214, 3) := by decide +kernel
theorem dX12_isWantHere_50 : decode cX12_isWantHere 50 = .ok (.ifCond .eq 49, 3) := by decide +kernel
theorem dX12_isWantHere_53 : decode cX12_isWantHere 53 = .ok (.aload_n 0, 1) := by decide +kernel
theorem dX12_isWantHere_54 : decode cX12_isWantHere 54 = .ok (.iload_n 2, 1) := by decide +kernel
theorem dX12_isWantHere_55 : decode cX12_isWantHere 55 = .ok (.iconst 1, 1) := by decide +kernel
theorem dX12_isWantHere_56 : decode cX12_isWantHere 56 = .ok (.iadd, 1) := by decide +kernel
theorem dX12_isWantHere_57 : decode cX12_isWantHere 57 = .ok (.iconst 0, 1) := by decide +kernel
theorem dX12_isWantHere_58 : decode cX12_isWantHere 58 = .ok (.bipush 99, 2) := by decide +kernel
theorem dX12_isWantHere_60 : decode cX12_isWantHere 60 = .ok (.invokevirtual 214, 3) := by decide +kernel
theorem dX12_isWantHere_63 : decode cX12_isWantHere 63 = .ok (.ifCond .eq 36, 3) := by decide +kernel
theorem dX12_isWantHere_66 : decode cX12_isWantHere 66 = .ok (.aload_n 0, 1) := by decide +kernel
theorem dX12_isWantHere_67 : decode cX12_isWantHere 67 = .ok (.iload_n 2, 1) := by decide +kernel
theorem dX12_isWantHere_68 : decode cX12_isWantHere 68 = .ok (.iconst 2, 1) := by decide +kernel
theorem dX12_isWantHere_69 : decode cX12_isWantHere 69 = .ok (.iadd, 1) := by decide +kernel
theorem dX12_isWantHere_70 : decode cX12_isWantHere 70 = .ok (.aload_n 0, 1) := by decide +kernel
theorem dX12_isWantHere_71 : decode cX12_isWantHere 71 = .ok (.getfield 26, 3) := by decide +kernel
theorem dX12_isWantHere_74 : decode cX12_isWantHere 74 = .ok (.iload_n 2, 1) := by decide +kernel
theorem dX12_isWantHere_75 : decode cX12_isWantHere 75 = .ok (.iconst 1, 1) := by decide +kernel
theorem dX12_isWantHere_76 : decode cX12_isWantHere 76 = .ok (.iadd, 1) := by decide +kernel
theorem dX12_isWantHere_77 : decode cX12_isWantHere 77 = .ok (.iaload, 1) := by decide +kernel
theorem dX12_isWantHere_78 : decode cX12_isWantHere 78 = .ok (.bipush 99, 2) := by decide +kernel
theorem dX12_isWantHere_80 : decode cX12_isWantHere 80 = .ok (.invokevirtual 214, 3) := by decide +kernel
theorem dX12_isWantHere_83 : decode cX12_isWantHere 83 = .ok (.ifCond .eq 16, 3) := by decide +kernel
theorem dX12_isWantHere_86 : decode cX12_isWantHere 86 = .ok (.aload_n 0, 1) := by decide +kernel
theorem dX12_isWantHere_87 : decode cX12_isWantHere 87 = .ok (.iload_n 2, 1) := by decide +kernel
theorem dX12_isWantHere_88 : decode cX12_isWantHere 88 = .ok (.iconst 3, 1) := by decide +kernel
theorem dX12_isWantHere_89 : decode cX12_isWantHere 89 = .ok (.iadd, 1) := by decide +kernel
theorem dX12_isWantHere_90 : decode cX12_isWantHere 90 = .ok (.iconst 1, 1) := by decide +kernel
theorem dX12_isWantHere_91 : decode cX12_isWantHere 91 = .ok (.bipush 50, 2) := by decide +kernel
theorem dX12_isWantHere_93 : decode cX12_isWantHere 93 = .ok (.invokevirtual 214, 3) := by decide +kernel
theorem dX12_isWantHere_96 : decode cX12_isWantHere 96 = .ok (.ifCond .ne 5, 3) := by decide +kernel
theorem dX12_isWantHere_99 : decode cX12_isWantHere 99 = .ok (.iconst 0, 1) := by decide +kernel
theorem dX12_isWantHere_100 : decode cX12_isWantHere 100 = .ok (.ireturn, 1) := by decide +kernel
theorem dX12_isWantHere_101 : decode cX12_isWantHere 101 = .ok (.aload_n 0, 1) := by decide +kernel
theorem dX12_isWantHere_102 : decode cX12_isWantHere 102 = .ok (.getfield 26, 3) := by decide +kernel
theorem dX12_isWantHere_105 : decode cX12_isWantHere 105 = .ok (.bipush 51, 2) := by decide +kernel
theorem dX12_isWantHere_107 : decode cX12_isWantHere 107 = .ok (.aload_n 0, 1) := by decide +kernel
theorem dX12_isWantHere_108 : decode cX12_isWantHere 108 = .ok (.getfield 26, 3) := by decide +kernel
theorem dX12_isWantHere_111 : decode cX12_isWantHere 111 = .ok (.bipush 6, 2) := by decide +kernel
theorem dX12_isWantHere_113 : decode cX12_isWantHere 113 = .ok (.iaload, 1) := by decide +kernel
theorem dX12_isWantHere_114 : decode cX12_isWantHere 114 = .ok (.iadd, 1) := by decide +kernel
theorem dX12_isWantHere_115 : decode cX12_isWantHere 115 = .ok (.iconst (-1), 1) := by decide +kernel
theorem dX12_isWantHere_116 : decode cX12_isWantHere 116 = .ok (.iastore, 1) := by decide +kernel
theorem dX12_isWantHere_117 : decode cX12_isWantHere 117 = .ok (.aload_n 0, 1) := by decide +kernel
theorem dX12_isWantHere_118 : decode cX12_isWantHere 118 = .ok (.getfield 26, 3) := by decide +kernel
theorem dX12_isWantHere_121 : decode cX12_isWantHere 121 = .ok (.bipush 6, 2) := by decide +kernel
theorem dX12_isWantHere_123 : decode cX12_isWantHere 123 = .ok (.dup2, 1) := by decide +kernel
theorem dX12_isWantHere_124 : decode cX12_isWantHere 124 = .ok (.iaload, 1) := by decide +kernel
theorem dX12_isWantHere_125 : decode cX12_isWantHere 125 = .ok (.iconst 1, 1) := by decide +kernel
theorem dX12_isWantHere_126 : decode cX12_isWantHere 126 = .ok (.iadd, 1) := by decide +kernel
theorem dX12_isWantHere_127 : decode cX12_isWantHere 127 = .ok (.iastore, 1) := by decide +kernel
theorem dX12_isWantHere_128 : decode cX12_isWantHere 128 = .ok (.iconst 1, 1) := by decide +kernel
theorem dX12_isWantHere_129 : decode cX12_isWantHere 129 = .ok (.ireturn, 1) := by decide +kernel
set_option maxRecDepth 20000 in
theorem ggX12_dairyLineHere_X12_isWord : GoodIn wsX12_dairyLineHere wsX12_isWord := goodIn_r _ [11, 12, 13, 14, 15, 16, 10, 17, 18, 19, 20, 21, 22, 76, 77, 78, 79, 80, 81, 82, 83, 84, 85, 86, 87, 88, 89, 90, 91, 92, 93, 94, 95, 96, 97, 98, 99, 100, 101, 102, 103, 104, 105, 106, 107, 108, 109, 110, 111, 112, 113] (by decide +kernel) (by decide +kernel)
set_option maxRecDepth 20000 in
theorem gX12_dairyLineHere_X12_isWord : GoodIn wsX12_dairyLineHere (wsV RX12 101 RX12 yX12_isWord wsX12_isWord) := goodIn_app (goodIn_of _ (by decide +kernel)) ggX12_dairyLineHere_X12_isWord
set_option maxRecDepth 20000 in
theorem ggX12_dairyLineHere_X12_isDairyHere : GoodIn wsX12_dairyLineHere wsX12_isDairyHere := goodIn_r _ [26, 2, 27, 28, 29, 30, 10, 31, 32, 33, 34, 35, 36, 12, 19, 20, 21, 22, 18, 13, 37, 38, 39, 40, 14, 15, 16, 17, 41, 42, 43, 44, 45, 46, 47, 48, 49, 50, 51, 76, 77, 78, 79, 80, 81, 82, 83, 84, 85, 86, 87, 88, 89, 90, 91, 92, 93, 94, 95, 96, 97, 98, 99, 100, 101, 102, 103, 104, 105, 106, 107, 108, 109, 110, 111, 112, 113] (by decide +kernel) (by decide +kernel)
set_option maxRecDepth 20000 in
theorem gX12_dairyLineHere_X12_isDairyHere : GoodIn wsX12_dairyLineHere (wsV RX12 223 RX12 yX12_isDairyHere wsX12_isDairyHere) := goodIn_app (goodIn_of _ (by decide +kernel)) ggX12_dairyLineHere_X12_isDairyHere
set_option maxRecDepth 20000 in
theorem ggX12_dairyLineHere_X12_fails : GoodIn wsX12_dairyLineHere wsX12_fails := goodIn_r _ [31, 32, 76, 77, 78, 79, 80, 81, 82, 83, 84, 85, 86, 87, 88, 89, 90, 91, 92, 93, 94, 95, 96, 97, 98, 99, 100, 101, 102, 103, 104, 105, 106, 107, 108, 109, 110, 111, 112, 113] (by decide +kernel) (by decide +kernel)
set_option maxRecDepth 20000 in
theorem gX12_dairyLineHere_X12_fails : GoodIn wsX12_dairyLineHere (wsV RX12 111 RX12 yX12_fails wsX12_fails) := goodIn_app (goodIn_of _ (by decide +kernel)) ggX12_dairyLineHere_X12_fails
set_option maxRecDepth 20000 in
theorem ggX12_dairyLineHere_X12_isRoadHere : GoodIn wsX12_dairyLineHere wsX12_isRoadHere := goodIn_r _ [55, 2, 12, 28, 29, 30, 10, 31, 32, 33, 34, 35, 36, 19, 20, 21, 22, 18, 13, 48, 49, 50, 51, 27, 37, 38, 39, 40, 14, 15, 16, 17, 41, 42, 43, 44, 45, 46, 47, 56, 57, 58, 59, 76, 77, 78, 79, 80, 81, 82, 83, 84, 85, 86, 87, 88, 89, 90, 91, 92, 93, 94, 95, 96, 97, 98, 99, 100, 101, 102, 103, 104, 105, 106, 107, 108, 109, 110, 111, 112, 113] (by decide +kernel) (by decide +kernel)
set_option maxRecDepth 20000 in
theorem gX12_dairyLineHere_X12_isRoadHere : GoodIn wsX12_dairyLineHere (wsV RX12 226 RX12 yX12_isRoadHere wsX12_isRoadHere) := goodIn_app (goodIn_of _ (by decide +kernel)) ggX12_dairyLineHere_X12_isRoadHere
set_option maxRecDepth 20000 in
theorem ggX12_dairyLineHere_X12_isHandHere : GoodIn wsX12_dairyLineHere wsX12_isHandHere := goodIn_r _ [63, 2, 28, 29, 30, 10, 31, 32, 33, 34, 35, 36, 12, 19, 20, 21, 22, 18, 13, 48, 49, 50, 51, 27, 37, 38, 39, 40, 14, 15, 16, 17, 41, 42, 43, 44, 45, 46, 47, 76, 77, 78, 79, 80, 81, 82, 83, 84, 85, 86, 87, 88, 89, 90, 91, 92, 93, 94, 95, 96, 97, 98, 99, 100, 101, 102, 103, 104, 105, 106, 107, 108, 109, 110, 111, 112, 113] (by decide +kernel) (by decide +kernel)
set_option maxRecDepth 20000 in
theorem gX12_dairyLineHere_X12_isHandHere : GoodIn wsX12_dairyLineHere (wsV RX12 229 RX12 yX12_isHandHere wsX12_isHandHere) := goodIn_app (goodIn_of _ (by decide +kernel)) ggX12_dairyLineHere_X12_isHandHere
set_option maxRecDepth 20000 in
theorem ggX12_dairyLineHere_X12_isJugHere : GoodIn wsX12_dairyLineHere wsX12_isJugHere := goodIn_r _ [67, 2, 28, 29, 30, 10, 31, 32, 33, 34, 35, 36, 12, 19, 20, 21, 22, 18, 13, 48, 49, 50, 51, 27, 37, 38, 39, 40, 14, 15, 16, 17, 41, 42, 43, 44, 45, 46, 47, 76, 77, 78, 79, 80, 81, 82, 83, 84, 85, 86, 87, 88, 89, 90, 91, 92, 93, 94, 95, 96, 97, 98, 99, 100, 101, 102, 103, 104, 105, 106, 107, 108, 109, 110, 111, 112, 113] (by decide +kernel) (by decide +kernel)
set_option maxRecDepth 20000 in
theorem gX12_dairyLineHere_X12_isJugHere : GoodIn wsX12_dairyLineHere (wsV RX12 232 RX12 yX12_isJugHere wsX12_isJugHere) := goodIn_app (goodIn_of _ (by decide +kernel)) ggX12_dairyLineHere_X12_isJugHere
set_option maxRecDepth 20000 in
theorem ggX12_dairyLineHere_X12_isHeatHere : GoodIn wsX12_dairyLineHere wsX12_isHeatHere := goodIn_r _ [71, 2, 28, 29, 30, 10, 31, 32, 33, 34, 35, 36, 12, 19, 20, 21, 22, 18, 13, 48, 49, 50, 51, 27, 37, 38, 39, 40, 14, 15, 16, 17, 41, 42, 43, 44, 45, 46, 47, 76, 77, 78, 79, 80, 81, 82, 83, 84, 85, 86, 87, 88, 89, 90, 91, 92, 93, 94, 95, 96, 97, 98, 99, 100, 101, 102, 103, 104, 105, 106, 107, 108, 109, 110, 111, 112, 113] (by decide +kernel) (by decide +kernel)
set_option maxRecDepth 20000 in
theorem gX12_dairyLineHere_X12_isHeatHere : GoodIn wsX12_dairyLineHere (wsV RX12 235 RX12 yX12_isHeatHere wsX12_isHeatHere) := goodIn_app (goodIn_of _ (by decide +kernel)) ggX12_dairyLineHere_X12_isHeatHere
set_option maxRecDepth 20000 in
theorem ggX12_dairyLineHere_X12_isWantHere : GoodIn wsX12_dairyLineHere wsX12_isWantHere := goodIn_r _ [75, 2, 28, 29, 30, 10, 31, 32, 33, 34, 35, 36, 12, 19, 20, 21, 22, 18, 13, 48, 49, 50, 51, 27, 37, 38, 39, 40, 14, 15, 16, 17, 41, 42, 43, 44, 45, 46, 47, 76, 77, 78, 79, 80, 81, 82, 83, 84, 85, 86, 87, 88, 89, 90, 91, 92, 93, 94, 95, 96, 97, 98, 99, 100, 101, 102, 103, 104, 105, 106, 107, 108, 109, 110, 111, 112, 113] (by decide +kernel) (by decide +kernel)
set_option maxRecDepth 20000 in
theorem gX12_dairyLineHere_X12_isWantHere : GoodIn wsX12_dairyLineHere (wsV RX12 238 RX12 yX12_isWantHere wsX12_isWantHere) := goodIn_app (goodIn_of _ (by decide +kernel)) ggX12_dairyLineHere_X12_isWantHere
theorem dX12_dairyLineHere_0 : decode cX12_dairyLineHere 0 = .ok (.aload_n 0, 1) := by decide +kernel
theorem dX12_dairyLineHere_1 : decode cX12_dairyLineHere 1 = .ok (.ldc2_w 221, 3) := by decide +kernel
theorem dX12_dairyLineHere_4 : decode cX12_dairyLineHere 4 = .ok (.invokevirtual 101, 3) := by decide +kernel
theorem dX12_dairyLineHere_7 : decode cX12_dairyLineHere 7 = .ok (.ifCond .eq 9, 3) := by decide +kernel
theorem dX12_dairyLineHere_10 : decode cX12_dairyLineHere 10 = .ok (.aload_n 0, 1) := by decide +kernel
theorem dX12_dairyLineHere_11 : decode cX12_dairyLineHere 11 = .ok (.iload_n 1, 1) := by decide +kernel
theorem dX12_dairyLineHere_12 : decode cX12_dairyLineHere 12 = .ok (.invokevirtual 223, 3) := by decide +kernel
theorem dX12_dairyLineHere_15 : decode cX12_dairyLineHere 15 = .ok (.ireturn, 1) := by decide +kernel
theorem dX12_dairyLineHere_16 : decode cX12_dairyLineHere 16 = .ok (.aload_n 0, 1) := by decide +kernel
theorem dX12_dairyLineHere_17 : decode cX12_dairyLineHere 17 = .ok (.getfield 26, 3) := by decide +kernel
theorem dX12_dairyLineHere_20 : decode cX12_dairyLineHere 20 = .ok (.iconst 0, 1) := by decide +kernel
theorem dX12_dairyLineHere_21 : decode cX12_dairyLineHere 21 = .ok (.iaload, 1) := by decide +kernel
theorem dX12_dairyLineHere_22 : decode cX12_dairyLineHere 22 = .ok (.ifCond .ne 10, 3) := by decide +kernel
theorem dX12_dairyLineHere_25 : decode cX12_dairyLineHere 25 = .ok (.aload_n 0, 1) := by decide +kernel
theorem dX12_dairyLineHere_26 : decode cX12_dairyLineHere 26 = .ok (.iconst 4, 1) := by decide +kernel
theorem dX12_dairyLineHere_27 : decode cX12_dairyLineHere 27 = .ok (.iload_n 1, 1) := by decide +kernel
theorem dX12_dairyLineHere_28 : decode cX12_dairyLineHere 28 = .ok (.invokevirtual 111, 3) := by decide +kernel
theorem dX12_dairyLineHere_31 : decode cX12_dairyLineHere 31 = .ok (.ireturn, 1) := by decide +kernel
theorem dX12_dairyLineHere_32 : decode cX12_dairyLineHere 32 = .ok (.aload_n 0, 1) := by decide +kernel
theorem dX12_dairyLineHere_33 : decode cX12_dairyLineHere 33 = .ok (.ldc2_w 136, 3) := by decide +kernel
theorem dX12_dairyLineHere_36 : decode cX12_dairyLineHere 36 = .ok (.invokevirtual 101, 3) := by decide +kernel
theorem dX12_dairyLineHere_39 : decode cX12_dairyLineHere 39 = .ok (.ifCond .eq 9, 3) := by decide +kernel
theorem dX12_dairyLineHere_42 : decode cX12_dairyLineHere 42 = .ok (.aload_n 0, 1) := by decide +kernel
theorem dX12_dairyLineHere_43 : decode cX12_dairyLineHere 43 = .ok (.iload_n 1, 1) := by decide +kernel
theorem dX12_dairyLineHere_44 : decode cX12_dairyLineHere 44 = .ok (.invokevirtual 226, 3) := by decide +kernel
theorem dX12_dairyLineHere_47 : decode cX12_dairyLineHere 47 = .ok (.ireturn, 1) := by decide +kernel
theorem dX12_dairyLineHere_48 : decode cX12_dairyLineHere 48 = .ok (.aload_n 0, 1) := by decide +kernel
theorem dX12_dairyLineHere_49 : decode cX12_dairyLineHere 49 = .ok (.ldc2_w 122, 3) := by decide +kernel
theorem dX12_dairyLineHere_52 : decode cX12_dairyLineHere 52 = .ok (.invokevirtual 101, 3) := by decide +kernel
theorem dX12_dairyLineHere_55 : decode cX12_dairyLineHere 55 = .ok (.ifCond .eq 9, 3) := by decide +kernel
theorem dX12_dairyLineHere_58 : decode cX12_dairyLineHere 58 = .ok (.aload_n 0, 1) := by decide +kernel
theorem dX12_dairyLineHere_59 : decode cX12_dairyLineHere 59 = .ok (.iload_n 1, 1) := by decide +kernel
theorem dX12_dairyLineHere_60 : decode cX12_dairyLineHere 60 = .ok (.invokevirtual 229, 3) := by decide +kernel
theorem dX12_dairyLineHere_63 : decode cX12_dairyLineHere 63 = .ok (.ireturn, 1) := by decide +kernel
theorem dX12_dairyLineHere_64 : decode cX12_dairyLineHere 64 = .ok (.aload_n 0, 1) := by decide +kernel
theorem dX12_dairyLineHere_65 : decode cX12_dairyLineHere 65 = .ok (.ldc2_w 128, 3) := by decide +kernel
theorem dX12_dairyLineHere_68 : decode cX12_dairyLineHere 68 = .ok (.invokevirtual 101, 3) := by decide +kernel
theorem dX12_dairyLineHere_71 : decode cX12_dairyLineHere 71 = .ok (.ifCond .eq 9, 3) := by decide +kernel
theorem dX12_dairyLineHere_74 : decode cX12_dairyLineHere 74 = .ok (.aload_n 0, 1) := by decide +kernel
theorem dX12_dairyLineHere_75 : decode cX12_dairyLineHere 75 = .ok (.iload_n 1, 1) := by decide +kernel
theorem dX12_dairyLineHere_76 : decode cX12_dairyLineHere 76 = .ok (.invokevirtual 232, 3) := by decide +kernel
theorem dX12_dairyLineHere_79 : decode cX12_dairyLineHere 79 = .ok (.ireturn, 1) := by decide +kernel
theorem dX12_dairyLineHere_80 : decode cX12_dairyLineHere 80 = .ok (.aload_n 0, 1) := by decide +kernel
theorem dX12_dairyLineHere_81 : decode cX12_dairyLineHere 81 = .ok (.ldc2_w 132, 3) := by decide +kernel
theorem dX12_dairyLineHere_84 : decode cX12_dairyLineHere 84 = .ok (.invokevirtual 101, 3) := by decide +kernel
theorem dX12_dairyLineHere_87 : decode cX12_dairyLineHere 87 = .ok (.ifCond .eq 11, 3) := by decide +kernel
theorem dX12_dairyLineHere_90 : decode cX12_dairyLineHere 90 = .ok (.aload_n 0, 1) := by decide +kernel
theorem dX12_dairyLineHere_91 : decode cX12_dairyLineHere 91 = .ok (.iload_n 1, 1) := by decide +kernel
theorem dX12_dairyLineHere_92 : decode cX12_dairyLineHere 92 = .ok (.invokevirtual 235, 3) := by decide +kernel
theorem dX12_dairyLineHere_95 : decode cX12_dairyLineHere 95 = .ok (.goto 8, 3) := by decide +kernel
theorem dX12_dairyLineHere_98 : decode cX12_dairyLineHere 98 = .ok (.aload_n 0, 1) := by decide +kernel
theorem dX12_dairyLineHere_99 : decode cX12_dairyLineHere 99 = .ok (.iload_n 1, 1) := by decide +kernel
theorem dX12_dairyLineHere_100 : decode cX12_dairyLineHere 100 = .ok (.invokevirtual 238, 3) := by decide +kernel
theorem dX12_dairyLineHere_103 : decode cX12_dairyLineHere 103 = .ok (.ireturn, 1) := by decide +kernel
set_option maxRecDepth 20000 in
theorem ggX12_isDairyWord_X12_isWord : GoodIn wsX12_isDairyWord wsX12_isWord := goodIn_r _ [11, 12, 13, 14, 15, 16, 10, 17, 18, 19, 20, 21, 22, 23, 24, 25, 26, 27, 28, 29, 30, 31, 32, 33, 34, 35, 36, 37, 38, 39, 40, 41, 42, 43, 44, 45, 46, 47, 48, 49, 50, 51, 52, 53, 54, 55, 56, 57, 58, 59, 60] (by decide +kernel) (by decide +kernel)
set_option maxRecDepth 20000 in
theorem gX12_isDairyWord_X12_isWord : GoodIn wsX12_isDairyWord (wsV RX12 101 RX12 yX12_isWord wsX12_isWord) := goodIn_app (goodIn_of _ (by decide +kernel)) ggX12_isDairyWord_X12_isWord
theorem dX12_isDairyWord_0 : decode cX12_isDairyWord 0 = .ok (.aload_n 0, 1) := by decide +kernel
theorem dX12_isDairyWord_1 : decode cX12_isDairyWord 1 = .ok (.ldc2_w 221, 3) := by decide +kernel
theorem dX12_isDairyWord_4 : decode cX12_isDairyWord 4 = .ok (.invokevirtual 101, 3) := by decide +kernel
theorem dX12_isDairyWord_7 : decode cX12_isDairyWord 7 = .ok (.ifCond .ne 53, 3) := by decide +kernel
theorem dX12_isDairyWord_10 : decode cX12_isDairyWord 10 = .ok (.aload_n 0, 1) := by decide +kernel
theorem dX12_isDairyWord_11 : decode cX12_isDairyWord 11 = .ok (.ldc2_w 136, 3) := by decide +kernel
theorem dX12_isDairyWord_14 : decode cX12_isDairyWord 14 = .ok (.invokevirtual 101, 3) := by decide +kernel
theorem dX12_isDairyWord_17 : decode cX12_isDairyWord 17 = .ok (.ifCond .ne 43, 3) := by decide +kernel
theorem dX12_isDairyWord_20 : decode cX12_isDairyWord 20 = .ok (.aload_n 0, 1) := by decide +kernel
theorem dX12_isDairyWord_21 : decode cX12_isDairyWord 21 = .ok (.ldc2_w 122, 3) := by decide +kernel
theorem dX12_isDairyWord_24 : decode cX12_isDairyWord 24 = .ok (.invokevirtual 101, 3) := by decide +kernel
theorem dX12_isDairyWord_27 : decode cX12_isDairyWord 27 = .ok (.ifCond .ne 33, 3) := by decide +kernel
theorem dX12_isDairyWord_30 : decode cX12_isDairyWord 30 = .ok (.aload_n 0, 1) := by decide +kernel
theorem dX12_isDairyWord_31 : decode cX12_isDairyWord 31 = .ok (.ldc2_w 128, 3) := by decide +kernel
theorem dX12_isDairyWord_34 : decode cX12_isDairyWord 34 = .ok (.invokevirtual 101, 3) := by decide +kernel
theorem dX12_isDairyWord_37 : decode cX12_isDairyWord 37 = .ok (.ifCond .ne 23, 3) := by decide +kernel
theorem dX12_isDairyWord_40 : decode cX12_isDairyWord 40 = .ok (.aload_n 0, 1) := by decide +kernel
theorem dX12_isDairyWord_41 : decode cX12_isDairyWord 41 = .ok (.ldc2_w 132, 3) := by decide +kernel
theorem dX12_isDairyWord_44 : decode cX12_isDairyWord 44 = .ok (.invokevirtual 101, 3) := by decide +kernel
theorem dX12_isDairyWord_47 : decode cX12_isDairyWord 47 = .ok (.ifCond .ne 13, 3) := by decide +kernel
theorem dX12_isDairyWord_50 : decode cX12_isDairyWord 50 = .ok (.aload_n 0, 1) := by decide +kernel
theorem dX12_isDairyWord_51 : decode cX12_isDairyWord 51 = .ok (.ldc2_w 241, 3) := by decide +kernel
theorem dX12_isDairyWord_54 : decode cX12_isDairyWord 54 = .ok (.invokevirtual 101, 3) := by decide +kernel
theorem dX12_isDairyWord_57 : decode cX12_isDairyWord 57 = .ok (.ifCond .eq 7, 3) := by decide +kernel
theorem dX12_isDairyWord_60 : decode cX12_isDairyWord 60 = .ok (.iconst 1, 1) := by decide +kernel
theorem dX12_isDairyWord_61 : decode cX12_isDairyWord 61 = .ok (.goto 4, 3) := by decide +kernel
theorem dX12_isDairyWord_64 : decode cX12_isDairyWord 64 = .ok (.iconst 0, 1) := by decide +kernel
theorem dX12_isDairyWord_65 : decode cX12_isDairyWord 65 = .ok (.ireturn, 1) := by decide +kernel
set_option maxRecDepth 20000 in
theorem ggX12_clauseHere_X12_see : GoodIn wsX12_clauseHere wsX12_see := goodIn_r _ [9, 1, 10, 11, 170, 171, 172, 173, 174, 175, 176, 177, 178, 179, 180, 181, 182, 183, 184, 185, 186, 187, 188, 189, 190, 191, 192, 193, 194, 195, 196, 197, 198, 199, 200, 201, 202, 203, 204, 205, 206, 207] (by decide +kernel) (by decide +kernel)
set_option maxRecDepth 20000 in
theorem gX12_clauseHere_X12_see : GoodIn wsX12_clauseHere (wsV RX12 93 RX12 yX12_see wsX12_see) := goodIn_app (goodIn_of _ (by decide +kernel)) ggX12_clauseHere_X12_see
set_option maxRecDepth 20000 in
theorem ggX12_clauseHere_X12_isDairyWord : GoodIn wsX12_clauseHere wsX12_isDairyWord := goodIn_r _ [15, 16, 17, 18, 19, 20, 21, 22, 23, 24, 8, 25, 1, 11, 5, 6, 7, 9, 10, 26, 27, 28, 29, 170, 171, 172, 173, 174, 175, 176, 177, 178, 179, 180, 181, 182, 183, 184, 185, 186, 187, 188, 189, 190, 191, 192, 193, 194, 195, 196, 197, 198, 199, 200, 201, 202, 203, 204, 205, 206, 207] (by decide +kernel) (by decide +kernel)
set_option maxRecDepth 20000 in
theorem gX12_clauseHere_X12_isDairyWord : GoodIn wsX12_clauseHere (wsV RX12 243 RX12 yX12_isDairyWord wsX12_isDairyWord) := goodIn_app (goodIn_of _ (by decide +kernel)) ggX12_clauseHere_X12_isDairyWord
set_option maxRecDepth 20000 in
theorem ggX12_clauseHere_X12_isWord : GoodIn wsX12_clauseHere wsX12_isWord := goodIn_r _ [25, 1, 11, 5, 6, 7, 8, 9, 10, 26, 27, 28, 29, 170, 171, 172, 173, 174, 175, 176, 177, 178, 179, 180, 181, 182, 183, 184, 185, 186, 187, 188, 189, 190, 191, 192, 193, 194, 195, 196, 197, 198, 199, 200, 201, 202, 203, 204, 205, 206, 207] (by decide +kernel) (by decide +kernel)
set_option maxRecDepth 20000 in
theorem gX12_clauseHere_X12_isWord : GoodIn wsX12_clauseHere (wsV RX12 101 RX12 yX12_isWord wsX12_isWord) := goodIn_app (goodIn_of _ (by decide +kernel)) ggX12_clauseHere_X12_isWord
set_option maxRecDepth 20000 in
theorem ggX12_clauseHere_X12_fails : GoodIn wsX12_clauseHere wsX12_fails := goodIn_r _ [33, 34, 170, 171, 172, 173, 174, 175, 176, 177, 178, 179, 180, 181, 182, 183, 184, 185, 186, 187, 188, 189, 190, 191, 192, 193, 194, 195, 196, 197, 198, 199, 200, 201, 202, 203, 204, 205, 206, 207] (by decide +kernel) (by decide +kernel)
set_option maxRecDepth 20000 in
theorem gX12_clauseHere_X12_fails : GoodIn wsX12_clauseHere (wsV RX12 111 RX12 yX12_fails wsX12_fails) := goodIn_app (goodIn_of _ (by decide +kernel)) ggX12_clauseHere_X12_fails
set_option maxRecDepth 20000 in
theorem ggX12_clauseHere_X12_dairyLineHere : GoodIn wsX12_clauseHere wsX12_dairyLineHere := goodIn_r _ [38, 16, 39, 17, 18, 19, 20, 22, 23, 24, 8, 25, 1, 11, 5, 6, 7, 9, 10, 26, 27, 28, 29, 40, 41, 42, 43, 44, 30, 31, 32, 33, 34, 45, 46, 47, 48, 49, 50, 51, 52, 53, 54, 55, 56, 57, 58, 59, 60, 61, 62, 63, 64, 65, 66, 67, 68, 69, 70, 71, 72, 73, 74, 75, 76, 77, 78, 79, 80, 81, 82, 83, 84, 85, 86, 87, 170, 171, 172, 173, 174, 175, 176, 177, 178, 179, 180, 181, 182, 183, 184, 185, 186, 187, 188, 189, 190, 191, 192, 193, 194, 195, 196, 197, 198, 199, 200, 201, 202, 203, 204, 205, 206, 207] (by decide +kernel) (by decide +kernel)
set_option maxRecDepth 20000 in
theorem gX12_clauseHere_X12_dairyLineHere : GoodIn wsX12_clauseHere (wsV RX12 251 RX12 yX12_dairyLineHere wsX12_dairyLineHere) := goodIn_app (goodIn_of _ (by decide +kernel)) ggX12_clauseHere_X12_dairyLineHere
set_option maxRecDepth 20000 in
theorem ggX12_clauseHere_X12_isTurnHere : GoodIn wsX12_clauseHere wsX12_isTurnHere := goodIn_r _ [91, 2, 92, 93, 94, 95, 45, 46, 47, 8, 48, 1, 26, 27, 28, 29, 10, 11, 96, 97, 98, 99, 100, 101, 102, 103, 104, 105, 106, 107, 108, 44, 5, 6, 7, 9, 53, 54, 55, 56, 49, 50, 51, 52, 30, 31, 32, 33, 34, 57, 58, 59, 109, 110, 111, 112, 113, 114, 115, 116, 117, 118, 119, 120, 121, 122, 18, 123, 124, 19, 125, 20, 126, 17, 127, 128, 22, 23, 24, 25, 129, 130, 131, 132, 133, 134, 135, 136, 137, 138, 139, 140, 141, 142, 143, 144, 145, 146, 147, 148, 149, 150, 151, 152, 153, 154, 155, 156, 157, 158, 159, 160, 161, 162, 163, 164, 165, 166, 167, 168, 169, 170, 171, 172, 173, 174, 175, 176, 177, 178, 179, 180, 181, 182, 183, 184, 185, 186, 187, 188, 189, 190, 191, 192, 193, 194, 195, 196, 197, 198, 199, 200, 201, 202, 203, 204, 205, 206, 207] (by decide +kernel) (by decide +kernel)
set_option maxRecDepth 20000 in
theorem gX12_clauseHere_X12_isTurnHere : GoodIn wsX12_clauseHere (wsV RX12 254 RX12 yX12_isTurnHere wsX12_isTurnHere) := goodIn_app (goodIn_of _ (by decide +kernel)) ggX12_clauseHere_X12_isTurnHere
theorem dX12_clauseHere_0 : decode cX12_clauseHere 0 = .ok (.aload_n 0, 1) := by decide +kernel
theorem dX12_clauseHere_1 : decode cX12_clauseHere 1 = .ok (.invokevirtual 93, 3) := by decide +kernel
theorem dX12_clauseHere_4 : decode cX12_clauseHere 4 = .ok (.pop, 1) := by decide +kernel
theorem dX12_clauseHere_5 : decode cX12_clauseHere 5 = .ok (.aload_n 0, 1) := by decide +kernel
theorem dX12_clauseHere_6 : decode cX12_clauseHere 6 = .ok (.getfield 90, 3) := by decide +kernel
theorem dX12_clauseHere_9 : decode cX12_clauseHere 9 = .ok (.istore_n 1, 1) := by decide +kernel
theorem dX12_clauseHere_10 : decode cX12_clauseHere 10 = .ok (.aload_n 0, 1) := by decide +kernel
theorem dX12_clauseHere_11 : decode cX12_clauseHere 11 = .ok (.getfield 142, 3) := by decide +kernel
theorem dX12_clauseHere_14 : decode cX12_clauseHere 14 = .ok (.bipush 6, 2) := by decide +kernel
theorem dX12_clauseHere_16 : decode cX12_clauseHere 16 = .ok (.if_icmp .ne 7, 3) := by decide +kernel
theorem dX12_clauseHere_19 : decode cX12_clauseHere 19 = .ok (.iconst 1, 1) := by decide +kernel
theorem dX12_clauseHere_20 : decode cX12_clauseHere 20 = .ok (.goto 4, 3) := by decide +kernel
theorem dX12_clauseHere_23 : decode cX12_clauseHere 23 = .ok (.iconst 0, 1) := by decide +kernel
theorem dX12_clauseHere_24 : decode cX12_clauseHere 24 = .ok (.istore_n 2, 1) := by decide +kernel
theorem dX12_clauseHere_25 : decode cX12_clauseHere 25 = .ok (.iload_n 2, 1) := by decide +kernel
theorem dX12_clauseHere_26 : decode cX12_clauseHere 26 = .ok (.ifCond .eq 13, 3) := by decide +kernel
theorem dX12_clauseHere_29 : decode cX12_clauseHere 29 = .ok (.aload_n 0, 1) := by decide +kernel
theorem dX12_clauseHere_30 : decode cX12_clauseHere 30 = .ok (.invokevirtual 243, 3) := by decide +kernel
theorem dX12_clauseHere_33 : decode cX12_clauseHere 33 = .ok (.ifCond .ne 23, 3) := by decide +kernel
theorem dX12_clauseHere_36 : decode cX12_clauseHere 36 = .ok (.goto 13, 3) := by decide +kernel
theorem dX12_clauseHere_39 : decode cX12_clauseHere 39 = .ok (.aload_n 0, 1) := by decide +kernel
theorem dX12_clauseHere_40 : decode cX12_clauseHere 40 = .ok (.ldc2_w 246, 3) := by decide +kernel
theorem dX12_clauseHere_43 : decode cX12_clauseHere 43 = .ok (.invokevirtual 101, 3) := by decide +kernel
theorem dX12_clauseHere_46 : decode cX12_clauseHere 46 = .ok (.ifCond .ne 10, 3) := by decide +kernel
theorem dX12_clauseHere_49 : decode cX12_clauseHere 49 = .ok (.aload_n 0, 1) := by decide +kernel
theorem dX12_clauseHere_50 : decode cX12_clauseHere 50 = .ok (.iconst 0, 1) := by decide +kernel
theorem dX12_clauseHere_51 : decode cX12_clauseHere 51 = .ok (.iload_n 1, 1) := by decide +kernel
theorem dX12_clauseHere_52 : decode cX12_clauseHere 52 = .ok (.invokevirtual 111, 3) := by decide +kernel
theorem dX12_clauseHere_55 : decode cX12_clauseHere 55 = .ok (.ireturn, 1) := by decide +kernel
theorem dX12_clauseHere_56 : decode cX12_clauseHere 56 = .ok (.aload_n 0, 1) := by decide +kernel
theorem dX12_clauseHere_57 : decode cX12_clauseHere 57 = .ok (.getfield 248, 3) := by decide +kernel
theorem dX12_clauseHere_60 : decode cX12_clauseHere 60 = .ok (.iload_n 2, 1) := by decide +kernel
theorem dX12_clauseHere_61 : decode cX12_clauseHere 61 = .ok (.ifCond .eq 8, 3) := by decide +kernel
theorem dX12_clauseHere_64 : decode cX12_clauseHere 64 = .ok (.bipush 40, 2) := by decide +kernel
theorem dX12_clauseHere_66 : decode cX12_clauseHere 66 = .ok (.goto 5, 3) := by decide +kernel
theorem dX12_clauseHere_69 : decode cX12_clauseHere 69 = .ok (.bipush 12, 2) := by decide +kernel
theorem dX12_clauseHere_71 : decode cX12_clauseHere 71 = .ok (.if_icmp .ne 10, 3) := by decide +kernel
theorem dX12_clauseHere_74 : decode cX12_clauseHere 74 = .ok (.aload_n 0, 1) := by decide +kernel
theorem dX12_clauseHere_75 : decode cX12_clauseHere 75 = .ok (.iconst 4, 1) := by decide +kernel
theorem dX12_clauseHere_76 : decode cX12_clauseHere 76 = .ok (.iload_n 1, 1) := by decide +kernel
theorem dX12_clauseHere_77 : decode cX12_clauseHere 77 = .ok (.invokevirtual 111, 3) := by decide +kernel
theorem dX12_clauseHere_80 : decode cX12_clauseHere 80 = .ok (.ireturn, 1) := by decide +kernel
theorem dX12_clauseHere_81 : decode cX12_clauseHere 81 = .ok (.aload_n 0, 1) := by decide +kernel
theorem dX12_clauseHere_82 : decode cX12_clauseHere 82 = .ok (.dup, 1) := by decide +kernel
theorem dX12_clauseHere_83 : decode cX12_clauseHere 83 = .ok (.getfield 248, 3) := by decide +kernel
theorem dX12_clauseHere_86 : decode cX12_clauseHere 86 = .ok (.iconst 1, 1) := by decide +kernel
theorem dX12_clauseHere_87 : decode cX12_clauseHere 87 = .ok (.iadd, 1) := by decide +kernel
theorem dX12_clauseHere_88 : decode cX12_clauseHere 88 = .ok (.putfield 248, 3) := by decide +kernel
theorem dX12_clauseHere_91 : decode cX12_clauseHere 91 = .ok (.iload_n 2, 1) := by decide +kernel
theorem dX12_clauseHere_92 : decode cX12_clauseHere 92 = .ok (.ifCond .eq 11, 3) := by decide +kernel
theorem dX12_clauseHere_95 : decode cX12_clauseHere 95 = .ok (.aload_n 0, 1) := by decide +kernel
theorem dX12_clauseHere_96 : decode cX12_clauseHere 96 = .ok (.iload_n 1, 1) := by decide +kernel
theorem dX12_clauseHere_97 : decode cX12_clauseHere 97 = .ok (.invokevirtual 251, 3) := by decide +kernel
theorem dX12_clauseHere_100 : decode cX12_clauseHere 100 = .ok (.goto 7, 3) := by decide +kernel
theorem dX12_clauseHere_103 : decode cX12_clauseHere 103 = .ok (.aload_n 0, 1) := by decide +kernel
theorem dX12_clauseHere_104 : decode cX12_clauseHere 104 = .ok (.invokevirtual 254, 3) := by decide +kernel
theorem dX12_clauseHere_107 : decode cX12_clauseHere 107 = .ok (.ireturn, 1) := by decide +kernel
set_option maxRecDepth 20000 in
theorem ggX12_readsAll_X12_clauseHere : GoodIn wsX12_readsAll wsX12_clauseHere := goodIn_r _ [12, 4, 2, 13, 3, 14, 15, 16, 11, 17, 7, 18, 19, 20, 21, 22, 23, 24, 25, 26, 27, 28, 29, 30, 31, 32, 33, 34, 35, 36, 37, 38, 39, 40, 5, 41, 42, 43, 44, 45, 46, 47, 48, 49, 50, 51, 52, 53, 54, 55, 56, 57, 58, 59, 60, 61, 62, 63, 64, 65, 66, 67, 68, 69, 70, 71, 72, 73, 74, 75, 76, 77, 78, 79, 80, 81, 82, 83, 84, 85, 86, 87, 88, 89, 90, 91, 92, 93, 94, 95, 96, 97, 98, 99, 1, 100, 101, 102, 103, 104, 105, 106, 107, 108, 109, 110, 111, 112, 113, 114, 115, 116, 117, 6, 118, 119, 120, 121, 122, 123, 124, 125, 126, 127, 128, 129, 130, 131, 132, 133, 134, 135, 136, 137, 138, 139, 140, 141, 142, 143, 144, 145, 146, 147, 148, 149, 150, 151, 152, 153, 154, 155, 156, 157, 158, 159, 160, 161, 162, 163, 164, 165, 166, 167, 168, 169, 170, 171, 172, 173, 174, 175, 176, 177, 178, 179, 180, 181, 182, 183, 184, 185, 186, 187, 188, 189, 190, 191, 192, 193, 194, 195, 196, 197, 198, 199, 200, 201, 202, 203, 204, 205, 206, 207, 208, 209, 210, 211] (by decide +kernel) (by decide +kernel)
set_option maxRecDepth 20000 in
theorem gX12_readsAll_X12_clauseHere : GoodIn wsX12_readsAll (wsV RX12 257 RX12 yX12_clauseHere wsX12_clauseHere) := goodIn_app (goodIn_of _ (by decide +kernel)) ggX12_readsAll_X12_clauseHere
set_option maxRecDepth 20000 in
theorem ggX12_readsAll_X12_see : GoodIn wsX12_readsAll wsX12_see := goodIn_r _ [17, 4, 7, 18, 174, 175, 176, 177, 178, 179, 180, 181, 182, 183, 184, 185, 186, 187, 188, 189, 190, 191, 192, 193, 194, 195, 196, 197, 198, 199, 200, 201, 202, 203, 204, 205, 206, 207, 208, 209, 210, 211] (by decide +kernel) (by decide +kernel)
set_option maxRecDepth 20000 in
theorem gX12_readsAll_X12_see : GoodIn wsX12_readsAll (wsV RX12 93 RX12 yX12_see wsX12_see) := goodIn_app (goodIn_of _ (by decide +kernel)) ggX12_readsAll_X12_see
set_option maxRecDepth 20000 in
theorem ggX12_readsAll_X12_fails : GoodIn wsX12_readsAll wsX12_fails := goodIn_r _ [40, 5, 174, 175, 176, 177, 178, 179, 180, 181, 182, 183, 184, 185, 186, 187, 188, 189, 190, 191, 192, 193, 194, 195, 196, 197, 198, 199, 200, 201, 202, 203, 204, 205, 206, 207, 208, 209, 210, 211] (by decide +kernel) (by decide +kernel)
set_option maxRecDepth 20000 in
theorem gX12_readsAll_X12_fails : GoodIn wsX12_readsAll (wsV RX12 111 RX12 yX12_fails wsX12_fails) := goodIn_app (goodIn_of _ (by decide +kernel)) ggX12_readsAll_X12_fails
theorem dX12_readsAll_0 : decode cX12_readsAll 0 = .ok (.aload_n 0, 1) := by decide +kernel
theorem dX12_readsAll_1 : decode cX12_readsAll 1 = .ok (.getfield 17, 3) := by decide +kernel
theorem dX12_readsAll_4 : decode cX12_readsAll 4 = .ok (.aload_n 0, 1) := by decide +kernel
theorem dX12_readsAll_5 : decode cX12_readsAll 5 = .ok (.getfield 142, 3) := by decide +kernel
theorem dX12_readsAll_8 : decode cX12_readsAll 8 = .ok (.iconst 0, 1) := by decide +kernel
theorem dX12_readsAll_9 : decode cX12_readsAll 9 = .ok (.iastore, 1) := by decide +kernel
theorem dX12_readsAll_10 : decode cX12_readsAll 10 = .ok (.aload_n 0, 1) := by decide +kernel
theorem dX12_readsAll_11 : decode cX12_readsAll 11 = .ok (.iconst 0, 1) := by decide +kernel
theorem dX12_readsAll_12 : decode cX12_readsAll 12 = .ok (.putfield 248, 3) := by decide +kernel
theorem dX12_readsAll_15 : decode cX12_readsAll 15 = .ok (.aload_n 0, 1) := by decide +kernel
theorem dX12_readsAll_16 : decode cX12_readsAll 16 = .ok (.iconst 0, 1) := by decide +kernel
theorem dX12_readsAll_17 : decode cX12_readsAll 17 = .ok (.putfield 90, 3) := by decide +kernel
theorem dX12_readsAll_20 : decode cX12_readsAll 20 = .ok (.aload_n 0, 1) := by decide +kernel
theorem dX12_readsAll_21 : decode cX12_readsAll 21 = .ok (.iconst 0, 1) := by decide +kernel
theorem dX12_readsAll_22 : decode cX12_readsAll 22 = .ok (.putfield 87, 3) := by decide +kernel
theorem dX12_readsAll_25 : decode cX12_readsAll 25 = .ok (.aload_n 0, 1) := by decide +kernel
theorem dX12_readsAll_26 : decode cX12_readsAll 26 = .ok (.iconst 0, 1) := by decide +kernel
theorem dX12_readsAll_27 : decode cX12_readsAll 27 = .ok (.putfield 145, 3) := by decide +kernel
theorem dX12_readsAll_30 : decode cX12_readsAll 30 = .ok (.aload_n 0, 1) := by decide +kernel
theorem dX12_readsAll_31 : decode cX12_readsAll 31 = .ok (.invokevirtual 257, 3) := by decide +kernel
theorem dX12_readsAll_34 : decode cX12_readsAll 34 = .ok (.istore_n 1, 1) := by decide +kernel
theorem dX12_readsAll_35 : decode cX12_readsAll 35 = .ok (.iload_n 1, 1) := by decide +kernel
theorem dX12_readsAll_36 : decode cX12_readsAll 36 = .ok (.ifCond .eq 30, 3) := by decide +kernel
theorem dX12_readsAll_39 : decode cX12_readsAll 39 = .ok (.aload_n 0, 1) := by decide +kernel
theorem dX12_readsAll_40 : decode cX12_readsAll 40 = .ok (.invokevirtual 93, 3) := by decide +kernel
theorem dX12_readsAll_43 : decode cX12_readsAll 43 = .ok (.bipush 59, 2) := by decide +kernel
theorem dX12_readsAll_45 : decode cX12_readsAll 45 = .ok (.if_icmp .ne 21, 3) := by decide +kernel
theorem dX12_readsAll_48 : decode cX12_readsAll 48 = .ok (.aload_n 0, 1) := by decide +kernel
theorem dX12_readsAll_49 : decode cX12_readsAll 49 = .ok (.dup, 1) := by decide +kernel
theorem dX12_readsAll_50 : decode cX12_readsAll 50 = .ok (.getfield 90, 3) := by decide +kernel
theorem dX12_readsAll_53 : decode cX12_readsAll 53 = .ok (.iconst 1, 1) := by decide +kernel
theorem dX12_readsAll_54 : decode cX12_readsAll 54 = .ok (.iadd, 1) := by decide +kernel
theorem dX12_readsAll_55 : decode cX12_readsAll 55 = .ok (.putfield 90, 3) := by decide +kernel
theorem dX12_readsAll_58 : decode cX12_readsAll 58 = .ok (.aload_n 0, 1) := by decide +kernel
theorem dX12_readsAll_59 : decode cX12_readsAll 59 = .ok (.invokevirtual 257, 3) := by decide +kernel
theorem dX12_readsAll_62 : decode cX12_readsAll 62 = .ok (.istore_n 1, 1) := by decide +kernel
theorem dX12_readsAll_63 : decode cX12_readsAll 63 = .ok (.goto (-28), 3) := by decide +kernel
theorem dX12_readsAll_66 : decode cX12_readsAll 66 = .ok (.iload_n 1, 1) := by decide +kernel
theorem dX12_readsAll_67 : decode cX12_readsAll 67 = .ok (.ifCond .eq 21, 3) := by decide +kernel
theorem dX12_readsAll_70 : decode cX12_readsAll 70 = .ok (.aload_n 0, 1) := by decide +kernel
theorem dX12_readsAll_71 : decode cX12_readsAll 71 = .ok (.invokevirtual 93, 3) := by decide +kernel
theorem dX12_readsAll_74 : decode cX12_readsAll 74 = .ok (.iconst (-1), 1) := by decide +kernel
theorem dX12_readsAll_75 : decode cX12_readsAll 75 = .ok (.if_icmp .eq 13, 3) := by decide +kernel
theorem dX12_readsAll_78 : decode cX12_readsAll 78 = .ok (.aload_n 0, 1) := by decide +kernel
theorem dX12_readsAll_79 : decode cX12_readsAll 79 = .ok (.iconst 0, 1) := by decide +kernel
theorem dX12_readsAll_80 : decode cX12_readsAll 80 = .ok (.aload_n 0, 1) := by decide +kernel
theorem dX12_readsAll_81 : decode cX12_readsAll 81 = .ok (.getfield 90, 3) := by decide +kernel
theorem dX12_readsAll_84 : decode cX12_readsAll 84 = .ok (.invokevirtual 111, 3) := by decide +kernel
theorem dX12_readsAll_87 : decode cX12_readsAll 87 = .ok (.pop, 1) := by decide +kernel
theorem dX12_readsAll_88 : decode cX12_readsAll 88 = .ok (.aload_n 0, 1) := by decide +kernel
theorem dX12_readsAll_89 : decode cX12_readsAll 89 = .ok (.iconst 0, 1) := by decide +kernel
theorem dX12_readsAll_90 : decode cX12_readsAll 90 = .ok (.putfield 80, 3) := by decide +kernel
theorem dX12_readsAll_93 : decode cX12_readsAll 93 = .ok (.aload_n 0, 1) := by decide +kernel
theorem dX12_readsAll_94 : decode cX12_readsAll 94 = .ok (.getfield 87, 3) := by decide +kernel
theorem dX12_readsAll_97 : decode cX12_readsAll 97 = .ok (.ifCond .ne 7, 3) := by decide +kernel
theorem dX12_readsAll_100 : decode cX12_readsAll 100 = .ok (.iconst 1, 1) := by decide +kernel
theorem dX12_readsAll_101 : decode cX12_readsAll 101 = .ok (.goto 4, 3) := by decide +kernel
theorem dX12_readsAll_104 : decode cX12_readsAll 104 = .ok (.iconst 0, 1) := by decide +kernel
theorem dX12_readsAll_105 : decode cX12_readsAll 105 = .ok (.ireturn, 1) := by decide +kernel
set_option maxRecDepth 20000 in
theorem ggX12_rule_X12_readsAll : GoodIn wsX12_rule wsX12_readsAll := goodIn_r _ [9, 10, 2, 11, 12, 4, 13, 14, 15, 16, 17, 8, 18, 19, 20, 21, 22, 23, 24, 25, 26, 27, 28, 29, 30, 31, 32, 33, 34, 35, 36, 37, 38, 39, 40, 41, 42, 43, 44, 45, 46, 47, 48, 49, 50, 51, 52, 53, 54, 55, 56, 57, 58, 59, 60, 61, 62, 63, 64, 65, 66, 67, 68, 69, 70, 71, 72, 73, 74, 75, 76, 77, 78, 79, 80, 81, 82, 83, 84, 85, 86, 87, 88, 89, 90, 91, 92, 93, 94, 95, 96, 97, 98, 99, 100, 101, 102, 103, 3, 104, 105, 106, 107, 108, 109, 110, 111, 112, 113, 114, 115, 116, 117, 118, 119, 120, 121, 122, 123, 124, 125, 126, 127, 128, 129, 130, 131, 132, 133, 134, 135, 136, 137, 138, 139, 140, 141, 142, 143, 144, 145, 146, 147, 148, 149, 150, 151, 152, 153, 154, 155, 156, 157, 158, 159, 160, 161, 162, 163, 164, 165, 166, 167, 168, 169, 170, 171, 172, 173, 174, 175, 176, 177, 178, 179, 180, 181, 182, 183, 184, 185, 186, 187, 188, 189, 190, 191, 192, 193, 194, 195, 196, 197, 198, 199, 200, 201, 202, 203, 204, 205, 206, 207, 208, 209, 210, 211, 212, 213, 214, 215, 216] (by decide +kernel) (by decide +kernel)
set_option maxRecDepth 20000 in
theorem gX12_rule_X12_readsAll : GoodIn wsX12_rule (wsV RX12 263 RX12 yX12_readsAll wsX12_readsAll) := goodIn_app (goodIn_of _ (by decide +kernel)) ggX12_rule_X12_readsAll
theorem dX12_rule_0 : decode cX12_rule 0 = .ok (.aload_n 0, 1) := by decide +kernel
theorem dX12_rule_1 : decode cX12_rule 1 = .ok (.getfield 260, 3) := by decide +kernel
theorem dX12_rule_4 : decode cX12_rule 4 = .ok (.bipush 6, 2) := by decide +kernel
theorem dX12_rule_6 : decode cX12_rule 6 = .ok (.if_icmp .ne 5, 3) := by decide +kernel
theorem dX12_rule_9 : decode cX12_rule 9 = .ok (.iconst (-1), 1) := by decide +kernel
theorem dX12_rule_10 : decode cX12_rule 10 = .ok (.ireturn, 1) := by decide +kernel
theorem dX12_rule_11 : decode cX12_rule 11 = .ok (.aload_n 0, 1) := by decide +kernel
theorem dX12_rule_12 : decode cX12_rule 12 = .ok (.aload_n 0, 1) := by decide +kernel
theorem dX12_rule_13 : decode cX12_rule 13 = .ok (.getfield 260, 3) := by decide +kernel
theorem dX12_rule_16 : decode cX12_rule 16 = .ok (.putfield 142, 3) := by decide +kernel
theorem dX12_rule_19 : decode cX12_rule 19 = .ok (.aload_n 0, 1) := by decide +kernel
theorem dX12_rule_20 : decode cX12_rule 20 = .ok (.getfield 23, 3) := by decide +kernel
theorem dX12_rule_23 : decode cX12_rule 23 = .ok (.aload_n 0, 1) := by decide +kernel
theorem dX12_rule_24 : decode cX12_rule 24 = .ok (.getfield 142, 3) := by decide +kernel
theorem dX12_rule_27 : decode cX12_rule 27 = .ok (.iconst 0, 1) := by decide +kernel
theorem dX12_rule_28 : decode cX12_rule 28 = .ok (.iastore, 1) := by decide +kernel
theorem dX12_rule_29 : decode cX12_rule 29 = .ok (.aload_n 0, 1) := by decide +kernel
theorem dX12_rule_30 : decode cX12_rule 30 = .ok (.invokevirtual 263, 3) := by decide +kernel
theorem dX12_rule_33 : decode cX12_rule 33 = .ok (.ifCond .ne 11, 3) := by decide +kernel
theorem dX12_rule_36 : decode cX12_rule 36 = .ok (.bipush (-2), 2) := by decide +kernel
theorem dX12_rule_38 : decode cX12_rule 38 = .ok (.aload_n 0, 1) := by decide +kernel
theorem dX12_rule_39 : decode cX12_rule 39 = .ok (.getfield 87, 3) := by decide +kernel
theorem dX12_rule_42 : decode cX12_rule 42 = .ok (.isub, 1) := by decide +kernel
theorem dX12_rule_43 : decode cX12_rule 43 = .ok (.ireturn, 1) := by decide +kernel
theorem dX12_rule_44 : decode cX12_rule 44 = .ok (.aload_n 0, 1) := by decide +kernel
theorem dX12_rule_45 : decode cX12_rule 45 = .ok (.dup, 1) := by decide +kernel
theorem dX12_rule_46 : decode cX12_rule 46 = .ok (.getfield 260, 3) := by decide +kernel
theorem dX12_rule_49 : decode cX12_rule 49 = .ok (.iconst 1, 1) := by decide +kernel
theorem dX12_rule_50 : decode cX12_rule 50 = .ok (.iadd, 1) := by decide +kernel
theorem dX12_rule_51 : decode cX12_rule 51 = .ok (.putfield 260, 3) := by decide +kernel
theorem dX12_rule_54 : decode cX12_rule 54 = .ok (.aload_n 0, 1) := by decide +kernel
theorem dX12_rule_55 : decode cX12_rule 55 = .ok (.getfield 260, 3) := by decide +kernel
theorem dX12_rule_58 : decode cX12_rule 58 = .ok (.iconst 1, 1) := by decide +kernel
theorem dX12_rule_59 : decode cX12_rule 59 = .ok (.isub, 1) := by decide +kernel
theorem dX12_rule_60 : decode cX12_rule 60 = .ok (.ireturn, 1) := by decide +kernel
set_option maxRecDepth 20000 in
theorem ggX12_dairy_X12_readsAll : GoodIn wsX12_dairy wsX12_readsAll := goodIn_r _ [10, 11, 1, 12, 13, 3, 14, 15, 16, 17, 18, 9, 19, 20, 21, 22, 23, 24, 25, 26, 27, 28, 29, 30, 31, 32, 33, 34, 35, 36, 37, 38, 39, 40, 41, 42, 43, 44, 45, 46, 47, 48, 49, 50, 51, 2, 52, 53, 54, 55, 56, 57, 58, 59, 60, 61, 62, 63, 64, 65, 66, 67, 68, 69, 70, 71, 72, 73, 74, 75, 76, 77, 78, 79, 80, 81, 82, 83, 84, 85, 86, 87, 88, 89, 90, 91, 92, 93, 94, 95, 96, 97, 98, 99, 100, 101, 102, 103, 104, 105, 106, 107, 108, 109, 110, 111, 112, 113, 114, 115, 116, 117, 118, 119, 120, 121, 122, 123, 124, 125, 126, 127, 128, 129, 130, 131, 132, 133, 134, 135, 136, 137, 138, 139, 140, 141, 142, 143, 144, 145, 146, 147, 148, 149, 150, 151, 152, 153, 154, 155, 156, 157, 158, 159, 160, 161, 162, 163, 164, 165, 166, 167, 168, 169, 170, 171, 172, 173, 174, 175, 176, 177, 178, 179, 180, 181, 182, 183, 184, 185, 186, 187, 188, 189, 190, 191, 192, 193, 194, 195, 196, 197, 198, 199, 200, 201, 202, 203, 204, 205, 206, 207, 208, 209, 210, 211, 212, 213, 214, 215, 216, 217] (by decide +kernel) (by decide +kernel)
set_option maxRecDepth 20000 in
theorem gX12_dairy_X12_readsAll : GoodIn wsX12_dairy (wsV RX12 263 RX12 yX12_readsAll wsX12_readsAll) := goodIn_app (goodIn_of _ (by decide +kernel)) ggX12_dairy_X12_readsAll
theorem dX12_dairy_0 : decode cX12_dairy 0 = .ok (.aload_n 0, 1) := by decide +kernel
theorem dX12_dairy_1 : decode cX12_dairy 1 = .ok (.bipush 6, 2) := by decide +kernel
theorem dX12_dairy_3 : decode cX12_dairy 3 = .ok (.putfield 142, 3) := by decide +kernel
theorem dX12_dairy_6 : decode cX12_dairy 6 = .ok (.iconst 0, 1) := by decide +kernel
theorem dX12_dairy_7 : decode cX12_dairy 7 = .ok (.istore_n 1, 1) := by decide +kernel
theorem dX12_dairy_8 : decode cX12_dairy 8 = .ok (.iload_n 1, 1) := by decide +kernel
theorem dX12_dairy_9 : decode cX12_dairy 9 = .ok (.bipush 10, 2) := by decide +kernel
theorem dX12_dairy_11 : decode cX12_dairy 11 = .ok (.if_icmp .ge 16, 3) := by decide +kernel
theorem dX12_dairy_14 : decode cX12_dairy 14 = .ok (.aload_n 0, 1) := by decide +kernel
theorem dX12_dairy_15 : decode cX12_dairy 15 = .ok (.getfield 26, 3) := by decide +kernel
theorem dX12_dairy_18 : decode cX12_dairy 18 = .ok (.iload_n 1, 1) := by decide +kernel
theorem dX12_dairy_19 : decode cX12_dairy 19 = .ok (.iconst 0, 1) := by decide +kernel
theorem dX12_dairy_20 : decode cX12_dairy 20 = .ok (.iastore, 1) := by decide +kernel
theorem dX12_dairy_21 : decode cX12_dairy 21 = .ok (.iinc 1 1, 3) := by decide +kernel
theorem dX12_dairy_24 : decode cX12_dairy 24 = .ok (.goto (-16), 3) := by decide +kernel
theorem dX12_dairy_27 : decode cX12_dairy 27 = .ok (.aload_n 0, 1) := by decide +kernel
theorem dX12_dairy_28 : decode cX12_dairy 28 = .ok (.invokevirtual 263, 3) := by decide +kernel
theorem dX12_dairy_31 : decode cX12_dairy 31 = .ok (.ifCond .ne 11, 3) := by decide +kernel
theorem dX12_dairy_34 : decode cX12_dairy 34 = .ok (.bipush (-2), 2) := by decide +kernel
theorem dX12_dairy_36 : decode cX12_dairy 36 = .ok (.aload_n 0, 1) := by decide +kernel
theorem dX12_dairy_37 : decode cX12_dairy 37 = .ok (.getfield 87, 3) := by decide +kernel
theorem dX12_dairy_40 : decode cX12_dairy 40 = .ok (.isub, 1) := by decide +kernel
theorem dX12_dairy_41 : decode cX12_dairy 41 = .ok (.ireturn, 1) := by decide +kernel
theorem dX12_dairy_42 : decode cX12_dairy 42 = .ok (.iconst 0, 1) := by decide +kernel
theorem dX12_dairy_43 : decode cX12_dairy 43 = .ok (.istore_n 1, 1) := by decide +kernel
theorem dX12_dairy_44 : decode cX12_dairy 44 = .ok (.iload_n 1, 1) := by decide +kernel
theorem dX12_dairy_45 : decode cX12_dairy 45 = .ok (.sipush 158, 3) := by decide +kernel
theorem dX12_dairy_48 : decode cX12_dairy 48 = .ok (.if_icmp .ge 31, 3) := by decide +kernel
theorem dX12_dairy_51 : decode cX12_dairy 51 = .ok (.aload_n 0, 1) := by decide +kernel
theorem dX12_dairy_52 : decode cX12_dairy 52 = .ok (.getfield 39, 3) := by decide +kernel
theorem dX12_dairy_55 : decode cX12_dairy 55 = .ok (.iload_n 1, 1) := by decide +kernel
theorem dX12_dairy_56 : decode cX12_dairy 56 = .ok (.iload_n 1, 1) := by decide +kernel
theorem dX12_dairy_57 : decode cX12_dairy 57 = .ok (.bipush 117, 2) := by decide +kernel
theorem dX12_dairy_59 : decode cX12_dairy 59 = .ok (.if_icmp .ge 12, 3) := by decide +kernel
theorem dX12_dairy_62 : decode cX12_dairy 62 = .ok (.aload_n 0, 1) := by decide +kernel
theorem dX12_dairy_63 : decode cX12_dairy 63 = .ok (.getfield 26, 3) := by decide +kernel
theorem dX12_dairy_66 : decode cX12_dairy 66 = .ok (.iload_n 1, 1) := by decide +kernel
theorem dX12_dairy_67 : decode cX12_dairy 67 = .ok (.iaload, 1) := by decide +kernel
theorem dX12_dairy_68 : decode cX12_dairy 68 = .ok (.goto 4, 3) := by decide +kernel
theorem dX12_dairy_71 : decode cX12_dairy 71 = .ok (.iconst 0, 1) := by decide +kernel
theorem dX12_dairy_72 : decode cX12_dairy 72 = .ok (.iastore, 1) := by decide +kernel
theorem dX12_dairy_73 : decode cX12_dairy 73 = .ok (.iinc 1 1, 3) := by decide +kernel
theorem dX12_dairy_76 : decode cX12_dairy 76 = .ok (.goto (-32), 3) := by decide +kernel
theorem dX12_dairy_79 : decode cX12_dairy 79 = .ok (.aload_n 0, 1) := by decide +kernel
theorem dX12_dairy_80 : decode cX12_dairy 80 = .ok (.iconst 0, 1) := by decide +kernel
theorem dX12_dairy_81 : decode cX12_dairy 81 = .ok (.putfield 266, 3) := by decide +kernel
theorem dX12_dairy_84 : decode cX12_dairy 84 = .ok (.aload_n 0, 1) := by decide +kernel
theorem dX12_dairy_85 : decode cX12_dairy 85 = .ok (.getfield 39, 3) := by decide +kernel
theorem dX12_dairy_88 : decode cX12_dairy 88 = .ok (.iconst 5, 1) := by decide +kernel
theorem dX12_dairy_89 : decode cX12_dairy 89 = .ok (.iaload, 1) := by decide +kernel
theorem dX12_dairy_90 : decode cX12_dairy 90 = .ok (.ireturn, 1) := by decide +kernel
theorem dX12_isRule_0 : decode cX12_isRule 0 = .ok (.iload_n 1, 1) := by decide +kernel
theorem dX12_isRule_1 : decode cX12_isRule 1 = .ok (.ifCond .lt 15, 3) := by decide +kernel
theorem dX12_isRule_4 : decode cX12_isRule 4 = .ok (.iload_n 1, 1) := by decide +kernel
theorem dX12_isRule_5 : decode cX12_isRule 5 = .ok (.aload_n 0, 1) := by decide +kernel
theorem dX12_isRule_6 : decode cX12_isRule 6 = .ok (.getfield 260, 3) := by decide +kernel
theorem dX12_isRule_9 : decode cX12_isRule 9 = .ok (.if_icmp .ge 7, 3) := by decide +kernel
theorem dX12_isRule_12 : decode cX12_isRule 12 = .ok (.iconst 1, 1) := by decide +kernel
theorem dX12_isRule_13 : decode cX12_isRule 13 = .ok (.goto 4, 3) := by decide +kernel
theorem dX12_isRule_16 : decode cX12_isRule 16 = .ok (.iconst 0, 1) := by decide +kernel
theorem dX12_isRule_17 : decode cX12_isRule 17 = .ok (.ireturn, 1) := by decide +kernel
theorem dX12_push_0 : decode cX12_push 0 = .ok (.aload_n 0, 1) := by decide +kernel
theorem dX12_push_1 : decode cX12_push 1 = .ok (.getfield 32, 3) := by decide +kernel
theorem dX12_push_4 : decode cX12_push 4 = .ok (.aload_n 0, 1) := by decide +kernel
theorem dX12_push_5 : decode cX12_push 5 = .ok (.getfield 269, 3) := by decide +kernel
theorem dX12_push_8 : decode cX12_push 8 = .ok (.lload_n 1, 1) := by decide +kernel
theorem dX12_push_9 : decode cX12_push 9 = .ok (.lastore, 1) := by decide +kernel
theorem dX12_push_10 : decode cX12_push 10 = .ok (.aload_n 0, 1) := by decide +kernel
theorem dX12_push_11 : decode cX12_push 11 = .ok (.dup, 1) := by decide +kernel
theorem dX12_push_12 : decode cX12_push 12 = .ok (.getfield 269, 3) := by decide +kernel
theorem dX12_push_15 : decode cX12_push 15 = .ok (.iconst 1, 1) := by decide +kernel
theorem dX12_push_16 : decode cX12_push 16 = .ok (.iadd, 1) := by decide +kernel
theorem dX12_push_17 : decode cX12_push 17 = .ok (.putfield 269, 3) := by decide +kernel
theorem dX12_push_20 : decode cX12_push 20 = .ok (.return_, 1) := by decide +kernel
theorem dX12_pop_0 : decode cX12_pop 0 = .ok (.aload_n 0, 1) := by decide +kernel
theorem dX12_pop_1 : decode cX12_pop 1 = .ok (.dup, 1) := by decide +kernel
theorem dX12_pop_2 : decode cX12_pop 2 = .ok (.getfield 269, 3) := by decide +kernel
theorem dX12_pop_5 : decode cX12_pop 5 = .ok (.iconst 1, 1) := by decide +kernel
theorem dX12_pop_6 : decode cX12_pop 6 = .ok (.isub, 1) := by decide +kernel
theorem dX12_pop_7 : decode cX12_pop 7 = .ok (.putfield 269, 3) := by decide +kernel
theorem dX12_pop_10 : decode cX12_pop 10 = .ok (.aload_n 0, 1) := by decide +kernel
theorem dX12_pop_11 : decode cX12_pop 11 = .ok (.getfield 32, 3) := by decide +kernel
theorem dX12_pop_14 : decode cX12_pop 14 = .ok (.aload_n 0, 1) := by decide +kernel
theorem dX12_pop_15 : decode cX12_pop 15 = .ok (.getfield 269, 3) := by decide +kernel
theorem dX12_pop_18 : decode cX12_pop 18 = .ok (.laload, 1) := by decide +kernel
theorem dX12_pop_19 : decode cX12_pop 19 = .ok (.lreturn, 1) := by decide +kernel
theorem dX12_one_0 : decode cX12_one 0 = .ok (.iload_n 0, 1) := by decide +kernel
theorem dX12_one_1 : decode cX12_one 1 = .ok (.tableswitch 171 2 14 #[67, 71, 75, 79, 107, 119, 131, 143, 155, 171, 167, 171, 93], 67) := by decide +kernel
theorem dX12_one_68 : decode cX12_one 68 = .ok (.lload_n 1, 1) := by decide +kernel
theorem dX12_one_69 : decode cX12_one 69 = .ok (.lload_n 3, 1) := by decide +kernel
theorem dX12_one_70 : decode cX12_one 70 = .ok (.ladd, 1) := by decide +kernel
theorem dX12_one_71 : decode cX12_one 71 = .ok (.lreturn, 1) := by decide +kernel
theorem dX12_one_72 : decode cX12_one 72 = .ok (.lload_n 1, 1) := by decide +kernel
theorem dX12_one_73 : decode cX12_one 73 = .ok (.lload_n 3, 1) := by decide +kernel
theorem dX12_one_74 : decode cX12_one 74 = .ok (.lsub, 1) := by decide +kernel
theorem dX12_one_75 : decode cX12_one 75 = .ok (.lreturn, 1) := by decide +kernel
theorem dX12_one_76 : decode cX12_one 76 = .ok (.lload_n 1, 1) := by decide +kernel
theorem dX12_one_77 : decode cX12_one 77 = .ok (.lload_n 3, 1) := by decide +kernel
theorem dX12_one_78 : decode cX12_one 78 = .ok (.lmul, 1) := by decide +kernel
theorem dX12_one_79 : decode cX12_one 79 = .ok (.lreturn, 1) := by decide +kernel
theorem dX12_one_80 : decode cX12_one 80 = .ok (.lload_n 3, 1) := by decide +kernel
theorem dX12_one_81 : decode cX12_one 81 = .ok (.lconst 0, 1) := by decide +kernel
theorem dX12_one_82 : decode cX12_one 82 = .ok (.lcmp, 1) := by decide +kernel
theorem dX12_one_83 : decode cX12_one 83 = .ok (.ifCond .ne 7, 3) := by decide +kernel
theorem dX12_one_86 : decode cX12_one 86 = .ok (.lconst 0, 1) := by decide +kernel
theorem dX12_one_87 : decode cX12_one 87 = .ok (.goto 6, 3) := by decide +kernel
theorem dX12_one_90 : decode cX12_one 90 = .ok (.lload_n 1, 1) := by decide +kernel
theorem dX12_one_91 : decode cX12_one 91 = .ok (.lload_n 3, 1) := by decide +kernel
theorem dX12_one_92 : decode cX12_one 92 = .ok (.ldiv, 1) := by decide +kernel
theorem dX12_one_93 : decode cX12_one 93 = .ok (.lreturn, 1) := by decide +kernel
theorem dX12_one_94 : decode cX12_one 94 = .ok (.lload_n 3, 1) := by decide +kernel
theorem dX12_one_95 : decode cX12_one 95 = .ok (.lconst 0, 1) := by decide +kernel
theorem dX12_one_96 : decode cX12_one 96 = .ok (.lcmp, 1) := by decide +kernel
theorem dX12_one_97 : decode cX12_one 97 = .ok (.ifCond .ne 7, 3) := by decide +kernel
theorem dX12_one_100 : decode cX12_one 100 = .ok (.lconst 0, 1) := by decide +kernel
theorem dX12_one_101 : decode cX12_one 101 = .ok (.goto 6, 3) := by decide +kernel
theorem dX12_one_104 : decode cX12_one 104 = .ok (.lload_n 1, 1) := by decide +kernel
theorem dX12_one_105 : decode cX12_one 105 = .ok (.lload_n 3, 1) := by decide +kernel
theorem dX12_one_106 : decode cX12_one 106 = .ok (.lrem, 1) := by decide +kernel
theorem dX12_one_107 : decode cX12_one 107 = .ok (.lreturn, 1) := by decide +kernel
theorem dX12_one_108 : decode cX12_one 108 = .ok (.lload_n 1, 1) := by decide +kernel
theorem dX12_one_109 : decode cX12_one 109 = .ok (.lload_n 3, 1) := by decide +kernel
theorem dX12_one_110 : decode cX12_one 110 = .ok (.lcmp, 1) := by decide +kernel
theorem dX12_one_111 : decode cX12_one 111 = .ok (.ifCond .ge 7, 3) := by decide +kernel
theorem dX12_one_114 : decode cX12_one 114 = .ok (.lconst 1, 1) := by decide +kernel
theorem dX12_one_115 : decode cX12_one 115 = .ok (.goto 4, 3) := by decide +kernel
theorem dX12_one_118 : decode cX12_one 118 = .ok (.lconst 0, 1) := by decide +kernel
theorem dX12_one_119 : decode cX12_one 119 = .ok (.lreturn, 1) := by decide +kernel
theorem dX12_one_120 : decode cX12_one 120 = .ok (.lload_n 1, 1) := by decide +kernel
theorem dX12_one_121 : decode cX12_one 121 = .ok (.lload_n 3, 1) := by decide +kernel
theorem dX12_one_122 : decode cX12_one 122 = .ok (.lcmp, 1) := by decide +kernel
theorem dX12_one_123 : decode cX12_one 123 = .ok (.ifCond .gt 7, 3) := by decide +kernel
theorem dX12_one_126 : decode cX12_one 126 = .ok (.lconst 1, 1) := by decide +kernel
theorem dX12_one_127 : decode cX12_one 127 = .ok (.goto 4, 3) := by decide +kernel
theorem dX12_one_130 : decode cX12_one 130 = .ok (.lconst 0, 1) := by decide +kernel
theorem dX12_one_131 : decode cX12_one 131 = .ok (.lreturn, 1) := by decide +kernel
theorem dX12_one_132 : decode cX12_one 132 = .ok (.lload_n 1, 1) := by decide +kernel
theorem dX12_one_133 : decode cX12_one 133 = .ok (.lload_n 3, 1) := by decide +kernel
theorem dX12_one_134 : decode cX12_one 134 = .ok (.lcmp, 1) := by decide +kernel
theorem dX12_one_135 : decode cX12_one 135 = .ok (.ifCond .ne 7, 3) := by decide +kernel
theorem dX12_one_138 : decode cX12_one 138 = .ok (.lconst 1, 1) := by decide +kernel
theorem dX12_one_139 : decode cX12_one 139 = .ok (.goto 4, 3) := by decide +kernel
theorem dX12_one_142 : decode cX12_one 142 = .ok (.lconst 0, 1) := by decide +kernel
theorem dX12_one_143 : decode cX12_one 143 = .ok (.lreturn, 1) := by decide +kernel
theorem dX12_one_144 : decode cX12_one 144 = .ok (.lload_n 1, 1) := by decide +kernel
theorem dX12_one_145 : decode cX12_one 145 = .ok (.lload_n 3, 1) := by decide +kernel
theorem dX12_one_146 : decode cX12_one 146 = .ok (.lcmp, 1) := by decide +kernel
theorem dX12_one_147 : decode cX12_one 147 = .ok (.ifCond .lt 7, 3) := by decide +kernel
theorem dX12_one_150 : decode cX12_one 150 = .ok (.lconst 1, 1) := by decide +kernel
theorem dX12_one_151 : decode cX12_one 151 = .ok (.goto 4, 3) := by decide +kernel
theorem dX12_one_154 : decode cX12_one 154 = .ok (.lconst 0, 1) := by decide +kernel
theorem dX12_one_155 : decode cX12_one 155 = .ok (.lreturn, 1) := by decide +kernel
theorem dX12_one_156 : decode cX12_one 156 = .ok (.lload_n 1, 1) := by decide +kernel
theorem dX12_one_157 : decode cX12_one 157 = .ok (.lload_n 3, 1) := by decide +kernel
theorem dX12_one_158 : decode cX12_one 158 = .ok (.lcmp, 1) := by decide +kernel
theorem dX12_one_159 : decode cX12_one 159 = .ok (.ifCond .le 7, 3) := by decide +kernel
theorem dX12_one_162 : decode cX12_one 162 = .ok (.lconst 1, 1) := by decide +kernel
theorem dX12_one_163 : decode cX12_one 163 = .ok (.goto 4, 3) := by decide +kernel
theorem dX12_one_166 : decode cX12_one 166 = .ok (.lconst 0, 1) := by decide +kernel
theorem dX12_one_167 : decode cX12_one 167 = .ok (.lreturn, 1) := by decide +kernel
theorem dX12_one_168 : decode cX12_one 168 = .ok (.lload_n 1, 1) := by decide +kernel
theorem dX12_one_169 : decode cX12_one 169 = .ok (.lload_n 3, 1) := by decide +kernel
theorem dX12_one_170 : decode cX12_one 170 = .ok (.land, 1) := by decide +kernel
theorem dX12_one_171 : decode cX12_one 171 = .ok (.lreturn, 1) := by decide +kernel
theorem dX12_one_172 : decode cX12_one 172 = .ok (.lload_n 1, 1) := by decide +kernel
theorem dX12_one_173 : decode cX12_one 173 = .ok (.lload_n 3, 1) := by decide +kernel
theorem dX12_one_174 : decode cX12_one 174 = .ok (.lor, 1) := by decide +kernel
theorem dX12_one_175 : decode cX12_one 175 = .ok (.lreturn, 1) := by decide +kernel
set_option maxRecDepth 20000 in
theorem ggX12_reckons_X12_push : GoodIn wsX12_reckons wsX12_push := goodIn_r _ [8, 9, 1, 17, 18, 19, 20, 21, 22, 23, 24, 25, 26, 27, 28, 29, 30, 31, 32, 33, 34, 35, 36, 37, 38, 39, 40, 41, 42, 43, 44, 45, 46, 47, 48, 49, 50, 51, 52, 53, 54] (by decide +kernel) (by decide +kernel)
set_option maxRecDepth 20000 in
theorem gX12_reckons_X12_push : GoodIn wsX12_reckons (wsV RX12 272 RX12 yX12_push wsX12_push) := goodIn_app (goodIn_of _ (by decide +kernel)) ggX12_reckons_X12_push
set_option maxRecDepth 20000 in
theorem ggX12_reckons_X12_pop : GoodIn wsX12_reckons wsX12_pop := goodIn_r _ [13, 1, 9, 17, 18, 19, 20, 21, 22, 23, 24, 25, 26, 27, 28, 29, 30, 31, 32, 33, 34, 35, 36, 37, 38, 39, 40, 41, 42, 43, 44, 45, 46, 47, 48, 49, 50, 51, 52, 53, 54] (by decide +kernel) (by decide +kernel)
set_option maxRecDepth 20000 in
theorem gX12_reckons_X12_pop : GoodIn wsX12_reckons (wsV RX12 276 RX12 yX12_pop wsX12_pop) := goodIn_app (goodIn_of _ (by decide +kernel)) ggX12_reckons_X12_pop
set_option maxRecDepth 20000 in
theorem ggX12_reckons_X12_one : GoodIn wsX12_reckons wsX12_one := goodIn_r _ [16] (by decide +kernel) (by decide +kernel)
set_option maxRecDepth 20000 in
theorem gX12_reckons_X12_one : GoodIn wsX12_reckons (va_wsS RX12 280 yX12_one wsX12_one) := goodIn_app (goodIn_of _ (by decide +kernel)) ggX12_reckons_X12_one
theorem dX12_reckons_0 : decode cX12_reckons 0 = .ok (.aload_n 0, 1) := by decide +kernel
theorem dX12_reckons_1 : decode cX12_reckons 1 = .ok (.iconst 0, 1) := by decide +kernel
theorem dX12_reckons_2 : decode cX12_reckons 2 = .ok (.putfield 269, 3) := by decide +kernel
theorem dX12_reckons_5 : decode cX12_reckons 5 = .ok (.iload_n 2, 1) := by decide +kernel
theorem dX12_reckons_6 : decode cX12_reckons 6 = .ok (.istore 4, 2) := by decide +kernel
theorem dX12_reckons_8 : decode cX12_reckons 8 = .ok (.iload 4, 2) := by decide +kernel
theorem dX12_reckons_10 : decode cX12_reckons 10 = .ok (.iload_n 3, 1) := by decide +kernel
theorem dX12_reckons_11 : decode cX12_reckons 11 = .ok (.if_icmp .ge 124, 3) := by decide +kernel
theorem dX12_reckons_14 : decode cX12_reckons 14 = .ok (.aload_n 0, 1) := by decide +kernel
theorem dX12_reckons_15 : decode cX12_reckons 15 = .ok (.getfield 13, 3) := by decide +kernel
theorem dX12_reckons_18 : decode cX12_reckons 18 = .ok (.sipush 400, 3) := by decide +kernel
theorem dX12_reckons_21 : decode cX12_reckons 21 = .ok (.iload_n 1, 1) := by decide +kernel
theorem dX12_reckons_22 : decode cX12_reckons 22 = .ok (.imul, 1) := by decide +kernel
theorem dX12_reckons_23 : decode cX12_reckons 23 = .ok (.iload 4, 2) := by decide +kernel
theorem dX12_reckons_25 : decode cX12_reckons 25 = .ok (.iadd, 1) := by decide +kernel
theorem dX12_reckons_26 : decode cX12_reckons 26 = .ok (.iaload, 1) := by decide +kernel
theorem dX12_reckons_27 : decode cX12_reckons 27 = .ok (.bipush 15, 2) := by decide +kernel
theorem dX12_reckons_29 : decode cX12_reckons 29 = .ok (.iand, 1) := by decide +kernel
theorem dX12_reckons_30 : decode cX12_reckons 30 = .ok (.istore 5, 2) := by decide +kernel
theorem dX12_reckons_32 : decode cX12_reckons 32 = .ok (.aload_n 0, 1) := by decide +kernel
theorem dX12_reckons_33 : decode cX12_reckons 33 = .ok (.getfield 13, 3) := by decide +kernel
theorem dX12_reckons_36 : decode cX12_reckons 36 = .ok (.sipush 400, 3) := by decide +kernel
theorem dX12_reckons_39 : decode cX12_reckons 39 = .ok (.iload_n 1, 1) := by decide +kernel
theorem dX12_reckons_40 : decode cX12_reckons 40 = .ok (.imul, 1) := by decide +kernel
theorem dX12_reckons_41 : decode cX12_reckons 41 = .ok (.iload 4, 2) := by decide +kernel
theorem dX12_reckons_43 : decode cX12_reckons 43 = .ok (.iadd, 1) := by decide +kernel
theorem dX12_reckons_44 : decode cX12_reckons 44 = .ok (.iaload, 1) := by decide +kernel
theorem dX12_reckons_45 : decode cX12_reckons 45 = .ok (.iconst 4, 1) := by decide +kernel
theorem dX12_reckons_46 : decode cX12_reckons 46 = .ok (.ishr, 1) := by decide +kernel
theorem dX12_reckons_47 : decode cX12_reckons 47 = .ok (.istore 6, 2) := by decide +kernel
theorem dX12_reckons_49 : decode cX12_reckons 49 = .ok (.iload 5, 2) := by decide +kernel
theorem dX12_reckons_51 : decode cX12_reckons 51 = .ok (.ifCond .ne 13, 3) := by decide +kernel
theorem dX12_reckons_54 : decode cX12_reckons 54 = .ok (.aload_n 0, 1) := by decide +kernel
theorem dX12_reckons_55 : decode cX12_reckons 55 = .ok (.iload 6, 2) := by decide +kernel
theorem dX12_reckons_57 : decode cX12_reckons 57 = .ok (.i2l, 1) := by decide +kernel
theorem dX12_reckons_58 : decode cX12_reckons 58 = .ok (.invokevirtual 272, 3) := by decide +kernel
theorem dX12_reckons_61 : decode cX12_reckons 61 = .ok (.goto 68, 3) := by decide +kernel
theorem dX12_reckons_64 : decode cX12_reckons 64 = .ok (.iload 5, 2) := by decide +kernel
theorem dX12_reckons_66 : decode cX12_reckons 66 = .ok (.iconst 1, 1) := by decide +kernel
theorem dX12_reckons_67 : decode cX12_reckons 67 = .ok (.if_icmp .ne 17, 3) := by decide +kernel
theorem dX12_reckons_70 : decode cX12_reckons 70 = .ok (.aload_n 0, 1) := by decide +kernel
theorem dX12_reckons_71 : decode cX12_reckons 71 = .ok (.aload_n 0, 1) := by decide +kernel
theorem dX12_reckons_72 : decode cX12_reckons 72 = .ok (.getfield 36, 3) := by decide +kernel
theorem dX12_reckons_75 : decode cX12_reckons 75 = .ok (.iload 6, 2) := by decide +kernel
theorem dX12_reckons_77 : decode cX12_reckons 77 = .ok (.laload, 1) := by decide +kernel
theorem dX12_reckons_78 : decode cX12_reckons 78 = .ok (.invokevirtual 272, 3) := by decide +kernel
theorem dX12_reckons_81 : decode cX12_reckons 81 = .ok (.goto 48, 3) := by decide +kernel
theorem dX12_reckons_84 : decode cX12_reckons 84 = .ok (.iload 5, 2) := by decide +kernel
theorem dX12_reckons_86 : decode cX12_reckons 86 = .ok (.bipush 11, 2) := by decide +kernel
theorem dX12_reckons_88 : decode cX12_reckons 88 = .ok (.if_icmp .ne 16, 3) := by decide +kernel
theorem dX12_reckons_91 : decode cX12_reckons 91 = .ok (.aload_n 0, 1) := by decide +kernel
theorem dX12_reckons_92 : decode cX12_reckons 92 = .ok (.lconst 1, 1) := by decide +kernel
theorem dX12_reckons_93 : decode cX12_reckons 93 = .ok (.aload_n 0, 1) := by decide +kernel
theorem dX12_reckons_94 : decode cX12_reckons 94 = .ok (.invokevirtual 276, 3) := by decide +kernel
theorem dX12_reckons_97 : decode cX12_reckons 97 = .ok (.lsub, 1) := by decide +kernel
theorem dX12_reckons_98 : decode cX12_reckons 98 = .ok (.invokevirtual 272, 3) := by decide +kernel
theorem dX12_reckons_101 : decode cX12_reckons 101 = .ok (.goto 28, 3) := by decide +kernel
theorem dX12_reckons_104 : decode cX12_reckons 104 = .ok (.aload_n 0, 1) := by decide +kernel
theorem dX12_reckons_105 : decode cX12_reckons 105 = .ok (.invokevirtual 276, 3) := by decide +kernel
theorem dX12_reckons_108 : decode cX12_reckons 108 = .ok (.lstore 7, 2) := by decide +kernel
theorem dX12_reckons_110 : decode cX12_reckons 110 = .ok (.aload_n 0, 1) := by decide +kernel
theorem dX12_reckons_111 : decode cX12_reckons 111 = .ok (.invokevirtual 276, 3) := by decide +kernel
theorem dX12_reckons_114 : decode cX12_reckons 114 = .ok (.lstore 9, 2) := by decide +kernel
theorem dX12_reckons_116 : decode cX12_reckons 116 = .ok (.aload_n 0, 1) := by decide +kernel
theorem dX12_reckons_117 : decode cX12_reckons 117 = .ok (.iload 5, 2) := by decide +kernel
theorem dX12_reckons_119 : decode cX12_reckons 119 = .ok (.lload 9, 2) := by decide +kernel
theorem dX12_reckons_121 : decode cX12_reckons 121 = .ok (.lload 7, 2) := by decide +kernel
theorem dX12_reckons_123 : decode cX12_reckons 123 = .ok (.invokestatic 280, 3) := by decide +kernel
theorem dX12_reckons_126 : decode cX12_reckons 126 = .ok (.invokevirtual 272, 3) := by decide +kernel
theorem dX12_reckons_129 : decode cX12_reckons 129 = .ok (.iinc 4 1, 3) := by decide +kernel
theorem dX12_reckons_132 : decode cX12_reckons 132 = .ok (.goto (-124), 3) := by decide +kernel
theorem dX12_reckons_135 : decode cX12_reckons 135 = .ok (.aload_n 0, 1) := by decide +kernel
theorem dX12_reckons_136 : decode cX12_reckons 136 = .ok (.invokevirtual 276, 3) := by decide +kernel
theorem dX12_reckons_139 : decode cX12_reckons 139 = .ok (.lreturn, 1) := by decide +kernel
theorem dX12_isDairy_0 : decode cX12_isDairy 0 = .ok (.aload_n 0, 1) := by decide +kernel
theorem dX12_isDairy_1 : decode cX12_isDairy 1 = .ok (.getfield 39, 3) := by decide +kernel
theorem dX12_isDairy_4 : decode cX12_isDairy 4 = .ok (.iconst 0, 1) := by decide +kernel
theorem dX12_isDairy_5 : decode cX12_isDairy 5 = .ok (.iaload, 1) := by decide +kernel
theorem dX12_isDairy_6 : decode cX12_isDairy 6 = .ok (.ifCond .le 7, 3) := by decide +kernel
theorem dX12_isDairy_9 : decode cX12_isDairy 9 = .ok (.iconst 1, 1) := by decide +kernel
theorem dX12_isDairy_10 : decode cX12_isDairy 10 = .ok (.goto 4, 3) := by decide +kernel
theorem dX12_isDairy_13 : decode cX12_isDairy 13 = .ok (.iconst 0, 1) := by decide +kernel
theorem dX12_isDairy_14 : decode cX12_isDairy 14 = .ok (.ireturn, 1) := by decide +kernel
theorem dX12_isPlace_0 : decode cX12_isPlace 0 = .ok (.iload_n 1, 1) := by decide +kernel
theorem dX12_isPlace_1 : decode cX12_isPlace 1 = .ok (.ifCond .lt 17, 3) := by decide +kernel
theorem dX12_isPlace_4 : decode cX12_isPlace 4 = .ok (.iload_n 1, 1) := by decide +kernel
theorem dX12_isPlace_5 : decode cX12_isPlace 5 = .ok (.aload_n 0, 1) := by decide +kernel
theorem dX12_isPlace_6 : decode cX12_isPlace 6 = .ok (.getfield 39, 3) := by decide +kernel
theorem dX12_isPlace_9 : decode cX12_isPlace 9 = .ok (.iconst 0, 1) := by decide +kernel
theorem dX12_isPlace_10 : decode cX12_isPlace 10 = .ok (.iaload, 1) := by decide +kernel
theorem dX12_isPlace_11 : decode cX12_isPlace 11 = .ok (.if_icmp .ge 7, 3) := by decide +kernel
theorem dX12_isPlace_14 : decode cX12_isPlace 14 = .ok (.iconst 1, 1) := by decide +kernel
theorem dX12_isPlace_15 : decode cX12_isPlace 15 = .ok (.goto 4, 3) := by decide +kernel
theorem dX12_isPlace_18 : decode cX12_isPlace 18 = .ok (.iconst 0, 1) := by decide +kernel
theorem dX12_isPlace_19 : decode cX12_isPlace 19 = .ok (.ireturn, 1) := by decide +kernel
theorem dX12_isHand_0 : decode cX12_isHand 0 = .ok (.iload_n 1, 1) := by decide +kernel
theorem dX12_isHand_1 : decode cX12_isHand 1 = .ok (.ifCond .lt 17, 3) := by decide +kernel
theorem dX12_isHand_4 : decode cX12_isHand 4 = .ok (.iload_n 1, 1) := by decide +kernel
theorem dX12_isHand_5 : decode cX12_isHand 5 = .ok (.aload_n 0, 1) := by decide +kernel
theorem dX12_isHand_6 : decode cX12_isHand 6 = .ok (.getfield 39, 3) := by decide +kernel
theorem dX12_isHand_9 : decode cX12_isHand 9 = .ok (.iconst 4, 1) := by decide +kernel
theorem dX12_isHand_10 : decode cX12_isHand 10 = .ok (.iaload, 1) := by decide +kernel
theorem dX12_isHand_11 : decode cX12_isHand 11 = .ok (.if_icmp .ge 7, 3) := by decide +kernel
theorem dX12_isHand_14 : decode cX12_isHand 14 = .ok (.iconst 1, 1) := by decide +kernel
theorem dX12_isHand_15 : decode cX12_isHand 15 = .ok (.goto 4, 3) := by decide +kernel
theorem dX12_isHand_18 : decode cX12_isHand 18 = .ok (.iconst 0, 1) := by decide +kernel
theorem dX12_isHand_19 : decode cX12_isHand 19 = .ok (.ireturn, 1) := by decide +kernel
theorem dX12_isJug_0 : decode cX12_isJug 0 = .ok (.iload_n 1, 1) := by decide +kernel
theorem dX12_isJug_1 : decode cX12_isJug 1 = .ok (.ifCond .lt 17, 3) := by decide +kernel
theorem dX12_isJug_4 : decode cX12_isJug 4 = .ok (.iload_n 1, 1) := by decide +kernel
theorem dX12_isJug_5 : decode cX12_isJug 5 = .ok (.aload_n 0, 1) := by decide +kernel
theorem dX12_isJug_6 : decode cX12_isJug 6 = .ok (.getfield 39, 3) := by decide +kernel
theorem dX12_isJug_9 : decode cX12_isJug 9 = .ok (.iconst 5, 1) := by decide +kernel
theorem dX12_isJug_10 : decode cX12_isJug 10 = .ok (.iaload, 1) := by decide +kernel
theorem dX12_isJug_11 : decode cX12_isJug 11 = .ok (.if_icmp .ge 7, 3) := by decide +kernel
theorem dX12_isJug_14 : decode cX12_isJug 14 = .ok (.iconst 1, 1) := by decide +kernel
theorem dX12_isJug_15 : decode cX12_isJug 15 = .ok (.goto 4, 3) := by decide +kernel
theorem dX12_isJug_18 : decode cX12_isJug 18 = .ok (.iconst 0, 1) := by decide +kernel
theorem dX12_isJug_19 : decode cX12_isJug 19 = .ok (.ireturn, 1) := by decide +kernel
theorem dX12_isWant_0 : decode cX12_isWant 0 = .ok (.iload_n 1, 1) := by decide +kernel
theorem dX12_isWant_1 : decode cX12_isWant 1 = .ok (.ifCond .lt 18, 3) := by decide +kernel
theorem dX12_isWant_4 : decode cX12_isWant 4 = .ok (.iload_n 1, 1) := by decide +kernel
theorem dX12_isWant_5 : decode cX12_isWant 5 = .ok (.aload_n 0, 1) := by decide +kernel
theorem dX12_isWant_6 : decode cX12_isWant 6 = .ok (.getfield 39, 3) := by decide +kernel
theorem dX12_isWant_9 : decode cX12_isWant 9 = .ok (.bipush 6, 2) := by decide +kernel
theorem dX12_isWant_11 : decode cX12_isWant 11 = .ok (.iaload, 1) := by decide +kernel
theorem dX12_isWant_12 : decode cX12_isWant 12 = .ok (.if_icmp .ge 7, 3) := by decide +kernel
theorem dX12_isWant_15 : decode cX12_isWant 15 = .ok (.iconst 1, 1) := by decide +kernel
theorem dX12_isWant_16 : decode cX12_isWant 16 = .ok (.goto 4, 3) := by decide +kernel
theorem dX12_isWant_19 : decode cX12_isWant 19 = .ok (.iconst 0, 1) := by decide +kernel
theorem dX12_isWant_20 : decode cX12_isWant 20 = .ok (.ireturn, 1) := by decide +kernel
theorem dX12_handOf_0 : decode cX12_handOf 0 = .ok (.aload_n 0, 1) := by decide +kernel
theorem dX12_handOf_1 : decode cX12_handOf 1 = .ok (.getfield 39, 3) := by decide +kernel
theorem dX12_handOf_4 : decode cX12_handOf 4 = .ok (.bipush 10, 2) := by decide +kernel
theorem dX12_handOf_6 : decode cX12_handOf 6 = .ok (.iconst 5, 1) := by decide +kernel
theorem dX12_handOf_7 : decode cX12_handOf 7 = .ok (.iload_n 1, 1) := by decide +kernel
theorem dX12_handOf_8 : decode cX12_handOf 8 = .ok (.imul, 1) := by decide +kernel
theorem dX12_handOf_9 : decode cX12_handOf 9 = .ok (.iadd, 1) := by decide +kernel
theorem dX12_handOf_10 : decode cX12_handOf 10 = .ok (.iload_n 2, 1) := by decide +kernel
theorem dX12_handOf_11 : decode cX12_handOf 11 = .ok (.iadd, 1) := by decide +kernel
theorem dX12_handOf_12 : decode cX12_handOf 12 = .ok (.iaload, 1) := by decide +kernel
theorem dX12_handOf_13 : decode cX12_handOf 13 = .ok (.ireturn, 1) := by decide +kernel
theorem dX12_jugOf_0 : decode cX12_jugOf 0 = .ok (.aload_n 0, 1) := by decide +kernel
theorem dX12_jugOf_1 : decode cX12_jugOf 1 = .ok (.getfield 39, 3) := by decide +kernel
theorem dX12_jugOf_4 : decode cX12_jugOf 4 = .ok (.bipush 35, 2) := by decide +kernel
theorem dX12_jugOf_6 : decode cX12_jugOf 6 = .ok (.iconst 4, 1) := by decide +kernel
theorem dX12_jugOf_7 : decode cX12_jugOf 7 = .ok (.iload_n 1, 1) := by decide +kernel
theorem dX12_jugOf_8 : decode cX12_jugOf 8 = .ok (.imul, 1) := by decide +kernel
theorem dX12_jugOf_9 : decode cX12_jugOf 9 = .ok (.iadd, 1) := by decide +kernel
theorem dX12_jugOf_10 : decode cX12_jugOf 10 = .ok (.iload_n 2, 1) := by decide +kernel
theorem dX12_jugOf_11 : decode cX12_jugOf 11 = .ok (.iadd, 1) := by decide +kernel
theorem dX12_jugOf_12 : decode cX12_jugOf 12 = .ok (.iaload, 1) := by decide +kernel
theorem dX12_jugOf_13 : decode cX12_jugOf 13 = .ok (.ireturn, 1) := by decide +kernel
theorem dX12_wantOf_0 : decode cX12_wantOf 0 = .ok (.aload_n 0, 1) := by decide +kernel
theorem dX12_wantOf_1 : decode cX12_wantOf 1 = .ok (.getfield 39, 3) := by decide +kernel
theorem dX12_wantOf_4 : decode cX12_wantOf 4 = .ok (.bipush 93, 2) := by decide +kernel
theorem dX12_wantOf_6 : decode cX12_wantOf 6 = .ok (.iconst 4, 1) := by decide +kernel
theorem dX12_wantOf_7 : decode cX12_wantOf 7 = .ok (.iload_n 1, 1) := by decide +kernel
theorem dX12_wantOf_8 : decode cX12_wantOf 8 = .ok (.imul, 1) := by decide +kernel
theorem dX12_wantOf_9 : decode cX12_wantOf 9 = .ok (.iadd, 1) := by decide +kernel
theorem dX12_wantOf_10 : decode cX12_wantOf 10 = .ok (.iload_n 2, 1) := by decide +kernel
theorem dX12_wantOf_11 : decode cX12_wantOf 11 = .ok (.iadd, 1) := by decide +kernel
theorem dX12_wantOf_12 : decode cX12_wantOf 12 = .ok (.iaload, 1) := by decide +kernel
theorem dX12_wantOf_13 : decode cX12_wantOf 13 = .ok (.ireturn, 1) := by decide +kernel
set_option maxRecDepth 20000 in
theorem ggX12_stands_X12_jugOf : GoodIn wsX12_stands wsX12_jugOf := goodIn_r _ [5, 6, 7, 8, 9, 10, 11, 12, 13, 14, 15, 16, 17, 18, 19, 20, 21, 22, 23, 24, 25, 26, 27, 28, 29, 30, 31, 32, 33, 34, 35, 36, 37, 38, 39, 40, 41, 42, 43, 44] (by decide +kernel) (by decide +kernel)
set_option maxRecDepth 20000 in
theorem gX12_stands_X12_jugOf : GoodIn wsX12_stands (wsV RX12 284 RX12 yX12_jugOf wsX12_jugOf) := goodIn_app (goodIn_of _ (by decide +kernel)) ggX12_stands_X12_jugOf
theorem dX12_stands_0 : decode cX12_stands 0 = .ok (.aload_n 0, 1) := by decide +kernel
theorem dX12_stands_1 : decode cX12_stands 1 = .ok (.iload_n 1, 1) := by decide +kernel
theorem dX12_stands_2 : decode cX12_stands 2 = .ok (.iconst 1, 1) := by decide +kernel
theorem dX12_stands_3 : decode cX12_stands 3 = .ok (.invokevirtual 284, 3) := by decide +kernel
theorem dX12_stands_6 : decode cX12_stands 6 = .ok (.ifCond .ge 16, 3) := by decide +kernel
theorem dX12_stands_9 : decode cX12_stands 9 = .ok (.aload_n 0, 1) := by decide +kernel
theorem dX12_stands_10 : decode cX12_stands 10 = .ok (.iload_n 1, 1) := by decide +kernel
theorem dX12_stands_11 : decode cX12_stands 11 = .ok (.iconst 3, 1) := by decide +kernel
theorem dX12_stands_12 : decode cX12_stands 12 = .ok (.invokevirtual 284, 3) := by decide +kernel
theorem dX12_stands_15 : decode cX12_stands 15 = .ok (.ifCond .ne 7, 3) := by decide +kernel
theorem dX12_stands_18 : decode cX12_stands 18 = .ok (.iconst 1, 1) := by decide +kernel
theorem dX12_stands_19 : decode cX12_stands 19 = .ok (.goto 4, 3) := by decide +kernel
theorem dX12_stands_22 : decode cX12_stands 22 = .ok (.iconst 0, 1) := by decide +kernel
theorem dX12_stands_23 : decode cX12_stands 23 = .ok (.ireturn, 1) := by decide +kernel
set_option maxRecDepth 20000 in
theorem ggX12_held_X12_jugOf : GoodIn wsX12_held wsX12_jugOf := goodIn_r _ [6, 1, 7, 8, 9, 10, 11, 12, 13, 14, 15, 16, 17, 18, 19, 20, 21, 22, 23, 24, 25, 26, 27, 28, 29, 30, 31, 32, 33, 34, 35, 36, 37, 38, 39, 40, 41, 42, 43, 44] (by decide +kernel) (by decide +kernel)
set_option maxRecDepth 20000 in
theorem gX12_held_X12_jugOf : GoodIn wsX12_held (wsV RX12 284 RX12 yX12_jugOf wsX12_jugOf) := goodIn_app (goodIn_of _ (by decide +kernel)) ggX12_held_X12_jugOf
theorem dX12_held_0 : decode cX12_held 0 = .ok (.iconst 0, 1) := by decide +kernel
theorem dX12_held_1 : decode cX12_held 1 = .ok (.istore_n 2, 1) := by decide +kernel
theorem dX12_held_2 : decode cX12_held 2 = .ok (.iconst 0, 1) := by decide +kernel
theorem dX12_held_3 : decode cX12_held 3 = .ok (.istore_n 3, 1) := by decide +kernel
theorem dX12_held_4 : decode cX12_held 4 = .ok (.iload_n 3, 1) := by decide +kernel
theorem dX12_held_5 : decode cX12_held 5 = .ok (.aload_n 0, 1) := by decide +kernel
theorem dX12_held_6 : decode cX12_held 6 = .ok (.getfield 39, 3) := by decide +kernel
theorem dX12_held_9 : decode cX12_held 9 = .ok (.iconst 5, 1) := by decide +kernel
theorem dX12_held_10 : decode cX12_held 10 = .ok (.iaload, 1) := by decide +kernel
theorem dX12_held_11 : decode cX12_held 11 = .ok (.if_icmp .ge 29, 3) := by decide +kernel
theorem dX12_held_14 : decode cX12_held 14 = .ok (.iload_n 2, 1) := by decide +kernel
theorem dX12_held_15 : decode cX12_held 15 = .ok (.aload_n 0, 1) := by decide +kernel
theorem dX12_held_16 : decode cX12_held 16 = .ok (.iload_n 3, 1) := by decide +kernel
theorem dX12_held_17 : decode cX12_held 17 = .ok (.iconst 1, 1) := by decide +kernel
theorem dX12_held_18 : decode cX12_held 18 = .ok (.invokevirtual 284, 3) := by decide +kernel
theorem dX12_held_21 : decode cX12_held 21 = .ok (.iload_n 1, 1) := by decide +kernel
theorem dX12_held_22 : decode cX12_held 22 = .ok (.if_icmp .ne 9, 3) := by decide +kernel
theorem dX12_held_25 : decode cX12_held 25 = .ok (.iconst 1, 1) := by decide +kernel
theorem dX12_held_26 : decode cX12_held 26 = .ok (.iload_n 3, 1) := by decide +kernel
theorem dX12_held_27 : decode cX12_held 27 = .ok (.ishl, 1) := by decide +kernel
theorem dX12_held_28 : decode cX12_held 28 = .ok (.goto 4, 3) := by decide +kernel
theorem dX12_held_31 : decode cX12_held 31 = .ok (.iconst 0, 1) := by decide +kernel
theorem dX12_held_32 : decode cX12_held 32 = .ok (.ior, 1) := by decide +kernel
theorem dX12_held_33 : decode cX12_held 33 = .ok (.istore_n 2, 1) := by decide +kernel
theorem dX12_held_34 : decode cX12_held 34 = .ok (.iinc 3 1, 3) := by decide +kernel
theorem dX12_held_37 : decode cX12_held 37 = .ok (.goto (-33), 3) := by decide +kernel
theorem dX12_held_40 : decode cX12_held 40 = .ok (.iload_n 2, 1) := by decide +kernel
theorem dX12_held_41 : decode cX12_held 41 = .ok (.ireturn, 1) := by decide +kernel
theorem dX12_heatIn_0 : decode cX12_heatIn 0 = .ok (.iconst 0, 1) := by decide +kernel
theorem dX12_heatIn_1 : decode cX12_heatIn 1 = .ok (.istore_n 2, 1) := by decide +kernel
theorem dX12_heatIn_2 : decode cX12_heatIn 2 = .ok (.iconst 0, 1) := by decide +kernel
theorem dX12_heatIn_3 : decode cX12_heatIn 3 = .ok (.istore_n 3, 1) := by decide +kernel
theorem dX12_heatIn_4 : decode cX12_heatIn 4 = .ok (.iload_n 3, 1) := by decide +kernel
theorem dX12_heatIn_5 : decode cX12_heatIn 5 = .ok (.aload_n 0, 1) := by decide +kernel
theorem dX12_heatIn_6 : decode cX12_heatIn 6 = .ok (.getfield 39, 3) := by decide +kernel
theorem dX12_heatIn_9 : decode cX12_heatIn 9 = .ok (.bipush 9, 2) := by decide +kernel
theorem dX12_heatIn_11 : decode cX12_heatIn 11 = .ok (.iaload, 1) := by decide +kernel
theorem dX12_heatIn_12 : decode cX12_heatIn 12 = .ok (.if_icmp .ge 64, 3) := by decide +kernel
theorem dX12_heatIn_15 : decode cX12_heatIn 15 = .ok (.aload_n 0, 1) := by decide +kernel
theorem dX12_heatIn_16 : decode cX12_heatIn 16 = .ok (.getfield 288, 3) := by decide +kernel
theorem dX12_heatIn_19 : decode cX12_heatIn 19 = .ok (.ifCond .ne 57, 3) := by decide +kernel
theorem dX12_heatIn_22 : decode cX12_heatIn 22 = .ok (.bipush 81, 2) := by decide +kernel
theorem dX12_heatIn_24 : decode cX12_heatIn 24 = .ok (.iconst 3, 1) := by decide +kernel
theorem dX12_heatIn_25 : decode cX12_heatIn 25 = .ok (.iload_n 3, 1) := by decide +kernel
theorem dX12_heatIn_26 : decode cX12_heatIn 26 = .ok (.imul, 1) := by decide +kernel
theorem dX12_heatIn_27 : decode cX12_heatIn 27 = .ok (.iadd, 1) := by decide +kernel
theorem dX12_heatIn_28 : decode cX12_heatIn 28 = .ok (.istore 4, 2) := by decide +kernel
theorem dX12_heatIn_30 : decode cX12_heatIn 30 = .ok (.iload_n 2, 1) := by decide +kernel
theorem dX12_heatIn_31 : decode cX12_heatIn 31 = .ok (.iload_n 1, 1) := by decide +kernel
theorem dX12_heatIn_32 : decode cX12_heatIn 32 = .ok (.aload_n 0, 1) := by decide +kernel
theorem dX12_heatIn_33 : decode cX12_heatIn 33 = .ok (.getfield 39, 3) := by decide +kernel
theorem dX12_heatIn_36 : decode cX12_heatIn 36 = .ok (.iload 4, 2) := by decide +kernel
theorem dX12_heatIn_38 : decode cX12_heatIn 38 = .ok (.iaload, 1) := by decide +kernel
theorem dX12_heatIn_39 : decode cX12_heatIn 39 = .ok (.if_icmp .lt 28, 3) := by decide +kernel
theorem dX12_heatIn_42 : decode cX12_heatIn 42 = .ok (.iload_n 1, 1) := by decide +kernel
theorem dX12_heatIn_43 : decode cX12_heatIn 43 = .ok (.aload_n 0, 1) := by decide +kernel
theorem dX12_heatIn_44 : decode cX12_heatIn 44 = .ok (.getfield 39, 3) := by decide +kernel
theorem dX12_heatIn_47 : decode cX12_heatIn 47 = .ok (.iload 4, 2) := by decide +kernel
theorem dX12_heatIn_49 : decode cX12_heatIn 49 = .ok (.iconst 1, 1) := by decide +kernel
theorem dX12_heatIn_50 : decode cX12_heatIn 50 = .ok (.iadd, 1) := by decide +kernel
theorem dX12_heatIn_51 : decode cX12_heatIn 51 = .ok (.iaload, 1) := by decide +kernel
theorem dX12_heatIn_52 : decode cX12_heatIn 52 = .ok (.if_icmp .gt 15, 3) := by decide +kernel
theorem dX12_heatIn_55 : decode cX12_heatIn 55 = .ok (.aload_n 0, 1) := by decide +kernel
theorem dX12_heatIn_56 : decode cX12_heatIn 56 = .ok (.getfield 39, 3) := by decide +kernel
theorem dX12_heatIn_59 : decode cX12_heatIn 59 = .ok (.iload 4, 2) := by decide +kernel
theorem dX12_heatIn_61 : decode cX12_heatIn 61 = .ok (.iconst 2, 1) := by decide +kernel
theorem dX12_heatIn_62 : decode cX12_heatIn 62 = .ok (.iadd, 1) := by decide +kernel
theorem dX12_heatIn_63 : decode cX12_heatIn 63 = .ok (.iaload, 1) := by decide +kernel
theorem dX12_heatIn_64 : decode cX12_heatIn 64 = .ok (.goto 4, 3) := by decide +kernel
theorem dX12_heatIn_67 : decode cX12_heatIn 67 = .ok (.iconst 0, 1) := by decide +kernel
theorem dX12_heatIn_68 : decode cX12_heatIn 68 = .ok (.iadd, 1) := by decide +kernel
theorem dX12_heatIn_69 : decode cX12_heatIn 69 = .ok (.istore_n 2, 1) := by decide +kernel
theorem dX12_heatIn_70 : decode cX12_heatIn 70 = .ok (.iinc 3 1, 3) := by decide +kernel
theorem dX12_heatIn_73 : decode cX12_heatIn 73 = .ok (.goto (-69), 3) := by decide +kernel
theorem dX12_heatIn_76 : decode cX12_heatIn 76 = .ok (.iload_n 2, 1) := by decide +kernel
theorem dX12_heatIn_77 : decode cX12_heatIn 77 = .ok (.ireturn, 1) := by decide +kernel
set_option maxRecDepth 20000 in
theorem ggX12_firstFor_X12_stands : GoodIn wsX12_firstFor wsX12_stands := goodIn_r _ [6, 7, 8, 9, 5, 10, 1, 18, 19, 20, 21, 22, 23, 24, 25, 26, 27, 28, 29, 30, 31, 32, 33, 34, 35, 36, 37, 38, 39, 40, 41, 42, 43, 44, 45, 46, 47, 48, 49, 50, 51, 52, 53, 54, 55] (by decide +kernel) (by decide +kernel)
set_option maxRecDepth 20000 in
theorem gX12_firstFor_X12_stands : GoodIn wsX12_firstFor (wsV RX12 292 RX12 yX12_stands wsX12_stands) := goodIn_app (goodIn_of _ (by decide +kernel)) ggX12_firstFor_X12_stands
set_option maxRecDepth 20000 in
theorem ggX12_firstFor_X12_jugOf : GoodIn wsX12_firstFor wsX12_jugOf := goodIn_r _ [10, 1, 18, 19, 20, 21, 22, 23, 24, 25, 26, 27, 28, 29, 30, 31, 32, 33, 34, 35, 36, 37, 38, 39, 40, 41, 42, 43, 44, 45, 46, 47, 48, 49, 50, 51, 52, 53, 54, 55] (by decide +kernel) (by decide +kernel)
set_option maxRecDepth 20000 in
theorem gX12_firstFor_X12_jugOf : GoodIn wsX12_firstFor (wsV RX12 284 RX12 yX12_jugOf wsX12_jugOf) := goodIn_app (goodIn_of _ (by decide +kernel)) ggX12_firstFor_X12_jugOf
set_option maxRecDepth 20000 in
theorem ggX12_firstFor_X12_wantOf : GoodIn wsX12_firstFor wsX12_wantOf := goodIn_r _ [14, 1, 18, 19, 20, 21, 22, 23, 24, 25, 26, 27, 28, 29, 30, 31, 32, 33, 34, 35, 36, 37, 38, 39, 40, 41, 42, 43, 44, 45, 46, 47, 48, 49, 50, 51, 52, 53, 54, 55] (by decide +kernel) (by decide +kernel)
set_option maxRecDepth 20000 in
theorem gX12_firstFor_X12_wantOf : GoodIn wsX12_firstFor (wsV RX12 295 RX12 yX12_wantOf wsX12_wantOf) := goodIn_app (goodIn_of _ (by decide +kernel)) ggX12_firstFor_X12_wantOf
set_option maxRecDepth 20000 in
theorem ggX12_firstFor_X12_in : GoodIn wsX12_firstFor wsX12_in := goodIn_r _ [17] (by decide +kernel) (by decide +kernel)
set_option maxRecDepth 20000 in
theorem gX12_firstFor_X12_in : GoodIn wsX12_firstFor (va_wsS RX12 118 yX12_in wsX12_in) := goodIn_app (goodIn_of _ (by decide +kernel)) ggX12_firstFor_X12_in
theorem dX12_firstFor_0 : decode cX12_firstFor 0 = .ok (.aload_n 0, 1) := by decide +kernel
theorem dX12_firstFor_1 : decode cX12_firstFor 1 = .ok (.getfield 39, 3) := by decide +kernel
theorem dX12_firstFor_4 : decode cX12_firstFor 4 = .ok (.bipush 51, 2) := by decide +kernel
theorem dX12_firstFor_6 : decode cX12_firstFor 6 = .ok (.iload_n 1, 1) := by decide +kernel
theorem dX12_firstFor_7 : decode cX12_firstFor 7 = .ok (.iadd, 1) := by decide +kernel
theorem dX12_firstFor_8 : decode cX12_firstFor 8 = .ok (.iaload, 1) := by decide +kernel
theorem dX12_firstFor_9 : decode cX12_firstFor 9 = .ok (.ifCond .lt 5, 3) := by decide +kernel
theorem dX12_firstFor_12 : decode cX12_firstFor 12 = .ok (.iconst (-1), 1) := by decide +kernel
theorem dX12_firstFor_13 : decode cX12_firstFor 13 = .ok (.ireturn, 1) := by decide +kernel
theorem dX12_firstFor_14 : decode cX12_firstFor 14 = .ok (.iconst 0, 1) := by decide +kernel
theorem dX12_firstFor_15 : decode cX12_firstFor 15 = .ok (.istore_n 2, 1) := by decide +kernel
theorem dX12_firstFor_16 : decode cX12_firstFor 16 = .ok (.iload_n 2, 1) := by decide +kernel
theorem dX12_firstFor_17 : decode cX12_firstFor 17 = .ok (.aload_n 0, 1) := by decide +kernel
theorem dX12_firstFor_18 : decode cX12_firstFor 18 = .ok (.getfield 39, 3) := by decide +kernel
theorem dX12_firstFor_21 : decode cX12_firstFor 21 = .ok (.iconst 5, 1) := by decide +kernel
theorem dX12_firstFor_22 : decode cX12_firstFor 22 = .ok (.iaload, 1) := by decide +kernel
theorem dX12_firstFor_23 : decode cX12_firstFor 23 = .ok (.if_icmp .ge 61, 3) := by decide +kernel
theorem dX12_firstFor_26 : decode cX12_firstFor 26 = .ok (.aload_n 0, 1) := by decide +kernel
theorem dX12_firstFor_27 : decode cX12_firstFor 27 = .ok (.iload_n 2, 1) := by decide +kernel
theorem dX12_firstFor_28 : decode cX12_firstFor 28 = .ok (.invokevirtual 292, 3) := by decide +kernel
theorem dX12_firstFor_31 : decode cX12_firstFor 31 = .ok (.ifCond .eq 47, 3) := by decide +kernel
theorem dX12_firstFor_34 : decode cX12_firstFor 34 = .ok (.aload_n 0, 1) := by decide +kernel
theorem dX12_firstFor_35 : decode cX12_firstFor 35 = .ok (.iload_n 2, 1) := by decide +kernel
theorem dX12_firstFor_36 : decode cX12_firstFor 36 = .ok (.iconst 0, 1) := by decide +kernel
theorem dX12_firstFor_37 : decode cX12_firstFor 37 = .ok (.invokevirtual 284, 3) := by decide +kernel
theorem dX12_firstFor_40 : decode cX12_firstFor 40 = .ok (.aload_n 0, 1) := by decide +kernel
theorem dX12_firstFor_41 : decode cX12_firstFor 41 = .ok (.iload_n 1, 1) := by decide +kernel
theorem dX12_firstFor_42 : decode cX12_firstFor 42 = .ok (.iconst 0, 1) := by decide +kernel
theorem dX12_firstFor_43 : decode cX12_firstFor 43 = .ok (.invokevirtual 295, 3) := by decide +kernel
theorem dX12_firstFor_46 : decode cX12_firstFor 46 = .ok (.if_icmp .ne 32, 3) := by decide +kernel
theorem dX12_firstFor_49 : decode cX12_firstFor 49 = .ok (.aload_n 0, 1) := by decide +kernel
theorem dX12_firstFor_50 : decode cX12_firstFor 50 = .ok (.iload_n 2, 1) := by decide +kernel
theorem dX12_firstFor_51 : decode cX12_firstFor 51 = .ok (.iconst 2, 1) := by decide +kernel
theorem dX12_firstFor_52 : decode cX12_firstFor 52 = .ok (.invokevirtual 284, 3) := by decide +kernel
theorem dX12_firstFor_55 : decode cX12_firstFor 55 = .ok (.i2l, 1) := by decide +kernel
theorem dX12_firstFor_56 : decode cX12_firstFor 56 = .ok (.aload_n 0, 1) := by decide +kernel
theorem dX12_firstFor_57 : decode cX12_firstFor 57 = .ok (.iload_n 1, 1) := by decide +kernel
theorem dX12_firstFor_58 : decode cX12_firstFor 58 = .ok (.iconst 1, 1) := by decide +kernel
theorem dX12_firstFor_59 : decode cX12_firstFor 59 = .ok (.invokevirtual 295, 3) := by decide +kernel
theorem dX12_firstFor_62 : decode cX12_firstFor 62 = .ok (.i2l, 1) := by decide +kernel
theorem dX12_firstFor_63 : decode cX12_firstFor 63 = .ok (.aload_n 0, 1) := by decide +kernel
theorem dX12_firstFor_64 : decode cX12_firstFor 64 = .ok (.iload_n 1, 1) := by decide +kernel
theorem dX12_firstFor_65 : decode cX12_firstFor 65 = .ok (.iconst 2, 1) := by decide +kernel
theorem dX12_firstFor_66 : decode cX12_firstFor 66 = .ok (.invokevirtual 295, 3) := by decide +kernel
theorem dX12_firstFor_69 : decode cX12_firstFor 69 = .ok (.i2l, 1) := by decide +kernel
theorem dX12_firstFor_70 : decode cX12_firstFor 70 = .ok (.invokestatic 118, 3) := by decide +kernel
theorem dX12_firstFor_73 : decode cX12_firstFor 73 = .ok (.ifCond .eq 5, 3) := by decide +kernel
theorem dX12_firstFor_76 : decode cX12_firstFor 76 = .ok (.iload_n 2, 1) := by decide +kernel
theorem dX12_firstFor_77 : decode cX12_firstFor 77 = .ok (.ireturn, 1) := by decide +kernel
theorem dX12_firstFor_78 : decode cX12_firstFor 78 = .ok (.iinc 2 1, 3) := by decide +kernel
theorem dX12_firstFor_81 : decode cX12_firstFor 81 = .ok (.goto (-65), 3) := by decide +kernel
theorem dX12_firstFor_84 : decode cX12_firstFor 84 = .ok (.iconst (-1), 1) := by decide +kernel
theorem dX12_firstFor_85 : decode cX12_firstFor 85 = .ok (.ireturn, 1) := by decide +kernel
set_option maxRecDepth 20000 in
theorem ggX12_force_X12_isRule : GoodIn wsX12_force wsX12_isRule := goodIn_r _ [6, 7, 8, 9, 10, 11, 12, 13, 14, 15, 16, 17, 18, 19, 20, 21, 22, 23, 24, 25, 26, 27, 28, 29, 30, 31, 32, 33, 34, 35, 36, 37, 38, 39, 40, 41, 42, 43, 44, 45] (by decide +kernel) (by decide +kernel)
set_option maxRecDepth 20000 in
theorem gX12_force_X12_isRule : GoodIn wsX12_force (wsV RX12 298 RX12 yX12_isRule wsX12_isRule) := goodIn_app (goodIn_of _ (by decide +kernel)) ggX12_force_X12_isRule
theorem dX12_force_0 : decode cX12_force 0 = .ok (.iload_n 1, 1) := by decide +kernel
theorem dX12_force_1 : decode cX12_force 1 = .ok (.iconst (-1), 1) := by decide +kernel
theorem dX12_force_2 : decode cX12_force 2 = .ok (.if_icmp .eq 14, 3) := by decide +kernel
theorem dX12_force_5 : decode cX12_force 5 = .ok (.aload_n 0, 1) := by decide +kernel
theorem dX12_force_6 : decode cX12_force 6 = .ok (.iload_n 1, 1) := by decide +kernel
theorem dX12_force_7 : decode cX12_force 7 = .ok (.invokevirtual 298, 3) := by decide +kernel
theorem dX12_force_10 : decode cX12_force 10 = .ok (.ifCond .ne 6, 3) := by decide +kernel
theorem dX12_force_13 : decode cX12_force 13 = .ok (.bipush (-2), 2) := by decide +kernel
theorem dX12_force_15 : decode cX12_force 15 = .ok (.ireturn, 1) := by decide +kernel
theorem dX12_force_16 : decode cX12_force 16 = .ok (.aload_n 0, 1) := by decide +kernel
theorem dX12_force_17 : decode cX12_force 17 = .ok (.getfield 42, 3) := by decide +kernel
theorem dX12_force_20 : decode cX12_force 20 = .ok (.istore_n 2, 1) := by decide +kernel
theorem dX12_force_21 : decode cX12_force 21 = .ok (.aload_n 0, 1) := by decide +kernel
theorem dX12_force_22 : decode cX12_force 22 = .ok (.iload_n 1, 1) := by decide +kernel
theorem dX12_force_23 : decode cX12_force 23 = .ok (.putfield 42, 3) := by decide +kernel
theorem dX12_force_26 : decode cX12_force 26 = .ok (.iload_n 2, 1) := by decide +kernel
theorem dX12_force_27 : decode cX12_force 27 = .ok (.ireturn, 1) := by decide +kernel
set_option maxRecDepth 20000 in
theorem ggX12_hand_X12_isHand : GoodIn wsX12_hand wsX12_isHand := goodIn_r _ [6, 7, 23, 24, 25, 26, 27, 28, 29, 30, 31, 32, 33, 34, 35, 36, 37, 38, 39, 40, 41, 42, 43, 44, 45, 46, 47, 48, 49, 50, 51, 52, 53, 54, 55, 56, 57, 58, 59, 60] (by decide +kernel) (by decide +kernel)
set_option maxRecDepth 20000 in
theorem gX12_hand_X12_isHand : GoodIn wsX12_hand (wsV RX12 301 RX12 yX12_isHand wsX12_isHand) := goodIn_app (goodIn_of _ (by decide +kernel)) ggX12_hand_X12_isHand
set_option maxRecDepth 20000 in
theorem ggX12_hand_X12_in : GoodIn wsX12_hand wsX12_in := goodIn_r _ [10] (by decide +kernel) (by decide +kernel)
set_option maxRecDepth 20000 in
theorem gX12_hand_X12_in : GoodIn wsX12_hand (va_wsS RX12 118 yX12_in wsX12_in) := goodIn_app (goodIn_of _ (by decide +kernel)) ggX12_hand_X12_in
set_option maxRecDepth 20000 in
theorem ggX12_hand_X12_handOf : GoodIn wsX12_hand wsX12_handOf := goodIn_r _ [14, 7, 23, 24, 25, 26, 27, 28, 29, 30, 31, 32, 33, 34, 35, 36, 37, 38, 39, 40, 41, 42, 43, 44, 45, 46, 47, 48, 49, 50, 51, 52, 53, 54, 55, 56, 57, 58, 59, 60] (by decide +kernel) (by decide +kernel)
set_option maxRecDepth 20000 in
theorem gX12_hand_X12_handOf : GoodIn wsX12_hand (wsV RX12 306 RX12 yX12_handOf wsX12_handOf) := goodIn_app (goodIn_of _ (by decide +kernel)) ggX12_hand_X12_handOf
set_option maxRecDepth 20000 in
theorem ggX12_hand_X12_held : GoodIn wsX12_hand wsX12_held := goodIn_r _ [18, 7, 19, 20, 21, 5, 22, 23, 24, 25, 26, 27, 28, 29, 30, 31, 32, 33, 34, 35, 36, 37, 38, 39, 40, 41, 42, 43, 44, 45, 46, 47, 48, 49, 50, 51, 52, 53, 54, 55, 56, 57, 58, 59, 60] (by decide +kernel) (by decide +kernel)
set_option maxRecDepth 20000 in
theorem gX12_hand_X12_held : GoodIn wsX12_hand (wsV RX12 309 RX12 yX12_held wsX12_held) := goodIn_app (goodIn_of _ (by decide +kernel)) ggX12_hand_X12_held
theorem dX12_hand_0 : decode cX12_hand 0 = .ok (.aload_n 0, 1) := by decide +kernel
theorem dX12_hand_1 : decode cX12_hand 1 = .ok (.iload_n 1, 1) := by decide +kernel
theorem dX12_hand_2 : decode cX12_hand 2 = .ok (.invokevirtual 301, 3) := by decide +kernel
theorem dX12_hand_5 : decode cX12_hand 5 = .ok (.ifCond .eq 15, 3) := by decide +kernel
theorem dX12_hand_8 : decode cX12_hand 8 = .ok (.iload_n 2, 1) := by decide +kernel
theorem dX12_hand_9 : decode cX12_hand 9 = .ok (.i2l, 1) := by decide +kernel
theorem dX12_hand_10 : decode cX12_hand 10 = .ok (.lconst 0, 1) := by decide +kernel
theorem dX12_hand_11 : decode cX12_hand 11 = .ok (.ldc2_w 304, 3) := by decide +kernel
theorem dX12_hand_14 : decode cX12_hand 14 = .ok (.invokestatic 118, 3) := by decide +kernel
theorem dX12_hand_17 : decode cX12_hand 17 = .ok (.ifCond .ne 5, 3) := by decide +kernel
theorem dX12_hand_20 : decode cX12_hand 20 = .ok (.iconst (-1), 1) := by decide +kernel
theorem dX12_hand_21 : decode cX12_hand 21 = .ok (.ireturn, 1) := by decide +kernel
theorem dX12_hand_22 : decode cX12_hand 22 = .ok (.iload_n 2, 1) := by decide +kernel
theorem dX12_hand_23 : decode cX12_hand 23 = .ok (.iconst 3, 1) := by decide +kernel
theorem dX12_hand_24 : decode cX12_hand 24 = .ok (.if_icmp .ge 12, 3) := by decide +kernel
theorem dX12_hand_27 : decode cX12_hand 27 = .ok (.aload_n 0, 1) := by decide +kernel
theorem dX12_hand_28 : decode cX12_hand 28 = .ok (.iload_n 1, 1) := by decide +kernel
theorem dX12_hand_29 : decode cX12_hand 29 = .ok (.iload_n 2, 1) := by decide +kernel
theorem dX12_hand_30 : decode cX12_hand 30 = .ok (.invokevirtual 306, 3) := by decide +kernel
theorem dX12_hand_33 : decode cX12_hand 33 = .ok (.goto 24, 3) := by decide +kernel
theorem dX12_hand_36 : decode cX12_hand 36 = .ok (.iload_n 2, 1) := by decide +kernel
theorem dX12_hand_37 : decode cX12_hand 37 = .ok (.iconst 3, 1) := by decide +kernel
theorem dX12_hand_38 : decode cX12_hand 38 = .ok (.if_icmp .ne 11, 3) := by decide +kernel
theorem dX12_hand_41 : decode cX12_hand 41 = .ok (.aload_n 0, 1) := by decide +kernel
theorem dX12_hand_42 : decode cX12_hand 42 = .ok (.iload_n 1, 1) := by decide +kernel
theorem dX12_hand_43 : decode cX12_hand 43 = .ok (.invokevirtual 309, 3) := by decide +kernel
theorem dX12_hand_46 : decode cX12_hand 46 = .ok (.goto 11, 3) := by decide +kernel
theorem dX12_hand_49 : decode cX12_hand 49 = .ok (.aload_n 0, 1) := by decide +kernel
theorem dX12_hand_50 : decode cX12_hand 50 = .ok (.iload_n 1, 1) := by decide +kernel
theorem dX12_hand_51 : decode cX12_hand 51 = .ok (.iload_n 2, 1) := by decide +kernel
theorem dX12_hand_52 : decode cX12_hand 52 = .ok (.iconst 1, 1) := by decide +kernel
theorem dX12_hand_53 : decode cX12_hand 53 = .ok (.isub, 1) := by decide +kernel
theorem dX12_hand_54 : decode cX12_hand 54 = .ok (.invokevirtual 306, 3) := by decide +kernel
theorem dX12_hand_57 : decode cX12_hand 57 = .ok (.ireturn, 1) := by decide +kernel
set_option maxRecDepth 20000 in
theorem ggX12_jug_X12_isJug : GoodIn wsX12_jug wsX12_isJug := goodIn_r _ [6, 1, 15, 16, 17, 18, 19, 20, 21, 22, 23, 24, 25, 26, 27, 28, 29, 30, 31, 32, 33, 34, 35, 36, 37, 38, 39, 40, 41, 42, 43, 44, 45, 46, 47, 48, 49, 50, 51, 52] (by decide +kernel) (by decide +kernel)
set_option maxRecDepth 20000 in
theorem gX12_jug_X12_isJug : GoodIn wsX12_jug (wsV RX12 312 RX12 yX12_isJug wsX12_isJug) := goodIn_app (goodIn_of _ (by decide +kernel)) ggX12_jug_X12_isJug
set_option maxRecDepth 20000 in
theorem ggX12_jug_X12_stands : GoodIn wsX12_jug wsX12_stands := goodIn_r _ [10, 11, 12, 13, 5, 14, 1, 15, 16, 17, 18, 19, 20, 21, 22, 23, 24, 25, 26, 27, 28, 29, 30, 31, 32, 33, 34, 35, 36, 37, 38, 39, 40, 41, 42, 43, 44, 45, 46, 47, 48, 49, 50, 51, 52] (by decide +kernel) (by decide +kernel)
set_option maxRecDepth 20000 in
theorem gX12_jug_X12_stands : GoodIn wsX12_jug (wsV RX12 292 RX12 yX12_stands wsX12_stands) := goodIn_app (goodIn_of _ (by decide +kernel)) ggX12_jug_X12_stands
set_option maxRecDepth 20000 in
theorem ggX12_jug_X12_jugOf : GoodIn wsX12_jug wsX12_jugOf := goodIn_r _ [14, 1, 15, 16, 17, 18, 19, 20, 21, 22, 23, 24, 25, 26, 27, 28, 29, 30, 31, 32, 33, 34, 35, 36, 37, 38, 39, 40, 41, 42, 43, 44, 45, 46, 47, 48, 49, 50, 51, 52] (by decide +kernel) (by decide +kernel)
set_option maxRecDepth 20000 in
theorem gX12_jug_X12_jugOf : GoodIn wsX12_jug (wsV RX12 284 RX12 yX12_jugOf wsX12_jugOf) := goodIn_app (goodIn_of _ (by decide +kernel)) ggX12_jug_X12_jugOf
theorem dX12_jug_0 : decode cX12_jug 0 = .ok (.aload_n 0, 1) := by decide +kernel
theorem dX12_jug_1 : decode cX12_jug 1 = .ok (.iload_n 1, 1) := by decide +kernel
theorem dX12_jug_2 : decode cX12_jug 2 = .ok (.invokevirtual 312, 3) := by decide +kernel
theorem dX12_jug_5 : decode cX12_jug 5 = .ok (.ifCond .ne 6, 3) := by decide +kernel
theorem dX12_jug_8 : decode cX12_jug 8 = .ok (.bipush (-2), 2) := by decide +kernel
theorem dX12_jug_10 : decode cX12_jug 10 = .ok (.ireturn, 1) := by decide +kernel
theorem dX12_jug_11 : decode cX12_jug 11 = .ok (.iload_n 2, 1) := by decide +kernel
theorem dX12_jug_12 : decode cX12_jug 12 = .ok (.tableswitch 90 0 4 #[36, 55, 55, 62, 83], 36) := by decide +kernel
theorem dX12_jug_48 : decode cX12_jug 48 = .ok (.aload_n 0, 1) := by decide +kernel
theorem dX12_jug_49 : decode cX12_jug 49 = .ok (.iload_n 1, 1) := by decide +kernel
theorem dX12_jug_50 : decode cX12_jug 50 = .ok (.invokevirtual 292, 3) := by decide +kernel
theorem dX12_jug_53 : decode cX12_jug 53 = .ok (.ifCond .eq 12, 3) := by decide +kernel
theorem dX12_jug_56 : decode cX12_jug 56 = .ok (.aload_n 0, 1) := by decide +kernel
theorem dX12_jug_57 : decode cX12_jug 57 = .ok (.iload_n 1, 1) := by decide +kernel
theorem dX12_jug_58 : decode cX12_jug 58 = .ok (.iconst 0, 1) := by decide +kernel
theorem dX12_jug_59 : decode cX12_jug 59 = .ok (.invokevirtual 284, 3) := by decide +kernel
theorem dX12_jug_62 : decode cX12_jug 62 = .ok (.goto 4, 3) := by decide +kernel
theorem dX12_jug_65 : decode cX12_jug 65 = .ok (.iconst (-1), 1) := by decide +kernel
theorem dX12_jug_66 : decode cX12_jug 66 = .ok (.ireturn, 1) := by decide +kernel
theorem dX12_jug_67 : decode cX12_jug 67 = .ok (.aload_n 0, 1) := by decide +kernel
theorem dX12_jug_68 : decode cX12_jug 68 = .ok (.iload_n 1, 1) := by decide +kernel
theorem dX12_jug_69 : decode cX12_jug 69 = .ok (.iload_n 2, 1) := by decide +kernel
theorem dX12_jug_70 : decode cX12_jug 70 = .ok (.invokevirtual 284, 3) := by decide +kernel
theorem dX12_jug_73 : decode cX12_jug 73 = .ok (.ireturn, 1) := by decide +kernel
theorem dX12_jug_74 : decode cX12_jug 74 = .ok (.aload_n 0, 1) := by decide +kernel
theorem dX12_jug_75 : decode cX12_jug 75 = .ok (.iload_n 1, 1) := by decide +kernel
theorem dX12_jug_76 : decode cX12_jug 76 = .ok (.iconst 2, 1) := by decide +kernel
theorem dX12_jug_77 : decode cX12_jug 77 = .ok (.invokevirtual 284, 3) := by decide +kernel
theorem dX12_jug_80 : decode cX12_jug 80 = .ok (.aload_n 0, 1) := by decide +kernel
theorem dX12_jug_81 : decode cX12_jug 81 = .ok (.getfield 39, 3) := by decide +kernel
theorem dX12_jug_84 : decode cX12_jug 84 = .ok (.iconst 2, 1) := by decide +kernel
theorem dX12_jug_85 : decode cX12_jug 85 = .ok (.iaload, 1) := by decide +kernel
theorem dX12_jug_86 : decode cX12_jug 86 = .ok (.if_icmp .lt 7, 3) := by decide +kernel
theorem dX12_jug_89 : decode cX12_jug 89 = .ok (.iconst 1, 1) := by decide +kernel
theorem dX12_jug_90 : decode cX12_jug 90 = .ok (.goto 4, 3) := by decide +kernel
theorem dX12_jug_93 : decode cX12_jug 93 = .ok (.iconst 0, 1) := by decide +kernel
theorem dX12_jug_94 : decode cX12_jug 94 = .ok (.ireturn, 1) := by decide +kernel
theorem dX12_jug_95 : decode cX12_jug 95 = .ok (.aload_n 0, 1) := by decide +kernel
theorem dX12_jug_96 : decode cX12_jug 96 = .ok (.iload_n 1, 1) := by decide +kernel
theorem dX12_jug_97 : decode cX12_jug 97 = .ok (.iconst 3, 1) := by decide +kernel
theorem dX12_jug_98 : decode cX12_jug 98 = .ok (.invokevirtual 284, 3) := by decide +kernel
theorem dX12_jug_101 : decode cX12_jug 101 = .ok (.ireturn, 1) := by decide +kernel
theorem dX12_jug_102 : decode cX12_jug 102 = .ok (.bipush (-2), 2) := by decide +kernel
theorem dX12_jug_104 : decode cX12_jug 104 = .ok (.ireturn, 1) := by decide +kernel
set_option maxRecDepth 20000 in
theorem ggX12_want_X12_isWant : GoodIn wsX12_want wsX12_isWant := goodIn_r _ [7, 2, 27, 28, 29, 30, 31, 32, 33, 34, 35, 36, 37, 38, 39, 40, 41, 42, 43, 44, 45, 46, 47, 48, 49, 50, 51, 52, 53, 54, 55, 56, 57, 58, 59, 60, 61, 62, 63, 64] (by decide +kernel) (by decide +kernel)
set_option maxRecDepth 20000 in
theorem gX12_want_X12_isWant : GoodIn wsX12_want (wsV RX12 315 RX12 yX12_isWant wsX12_isWant) := goodIn_app (goodIn_of _ (by decide +kernel)) ggX12_want_X12_isWant
set_option maxRecDepth 20000 in
theorem ggX12_want_X12_in : GoodIn wsX12_want wsX12_in := goodIn_r _ [10] (by decide +kernel) (by decide +kernel)
set_option maxRecDepth 20000 in
theorem gX12_want_X12_in : GoodIn wsX12_want (va_wsS RX12 118 yX12_in wsX12_in) := goodIn_app (goodIn_of _ (by decide +kernel)) ggX12_want_X12_in
set_option maxRecDepth 20000 in
theorem ggX12_want_X12_wantOf : GoodIn wsX12_want wsX12_wantOf := goodIn_r _ [14, 2, 27, 28, 29, 30, 31, 32, 33, 34, 35, 36, 37, 38, 39, 40, 41, 42, 43, 44, 45, 46, 47, 48, 49, 50, 51, 52, 53, 54, 55, 56, 57, 58, 59, 60, 61, 62, 63, 64] (by decide +kernel) (by decide +kernel)
set_option maxRecDepth 20000 in
theorem gX12_want_X12_wantOf : GoodIn wsX12_want (wsV RX12 295 RX12 yX12_wantOf wsX12_wantOf) := goodIn_app (goodIn_of _ (by decide +kernel)) ggX12_want_X12_wantOf
set_option maxRecDepth 20000 in
theorem ggX12_want_X12_firstFor : GoodIn wsX12_want wsX12_firstFor := goodIn_r _ [18, 2, 19, 20, 21, 6, 22, 23, 24, 25, 26, 11, 12, 13, 14, 8, 9, 10, 27, 28, 29, 30, 31, 32, 33, 34, 35, 36, 37, 38, 39, 40, 41, 42, 43, 44, 45, 46, 47, 48, 49, 50, 51, 52, 53, 54, 55, 56, 57, 58, 59, 60, 61, 62, 63, 64] (by decide +kernel) (by decide +kernel)
set_option maxRecDepth 20000 in
theorem gX12_want_X12_firstFor : GoodIn wsX12_want (wsV RX12 318 RX12 yX12_firstFor wsX12_firstFor) := goodIn_app (goodIn_of _ (by decide +kernel)) ggX12_want_X12_firstFor
theorem dX12_want_0 : decode cX12_want 0 = .ok (.aload_n 0, 1) := by decide +kernel
theorem dX12_want_1 : decode cX12_want 1 = .ok (.iload_n 1, 1) := by decide +kernel
theorem dX12_want_2 : decode cX12_want 2 = .ok (.invokevirtual 315, 3) := by decide +kernel
theorem dX12_want_5 : decode cX12_want 5 = .ok (.ifCond .eq 15, 3) := by decide +kernel
theorem dX12_want_8 : decode cX12_want 8 = .ok (.iload_n 2, 1) := by decide +kernel
theorem dX12_want_9 : decode cX12_want 9 = .ok (.i2l, 1) := by decide +kernel
theorem dX12_want_10 : decode cX12_want 10 = .ok (.lconst 0, 1) := by decide +kernel
theorem dX12_want_11 : decode cX12_want 11 = .ok (.ldc2_w 304, 3) := by decide +kernel
theorem dX12_want_14 : decode cX12_want 14 = .ok (.invokestatic 118, 3) := by decide +kernel
theorem dX12_want_17 : decode cX12_want 17 = .ok (.ifCond .ne 6, 3) := by decide +kernel
theorem dX12_want_20 : decode cX12_want 20 = .ok (.bipush (-2), 2) := by decide +kernel
theorem dX12_want_22 : decode cX12_want 22 = .ok (.ireturn, 1) := by decide +kernel
theorem dX12_want_23 : decode cX12_want 23 = .ok (.iload_n 2, 1) := by decide +kernel
theorem dX12_want_24 : decode cX12_want 24 = .ok (.iconst 4, 1) := by decide +kernel
theorem dX12_want_25 : decode cX12_want 25 = .ok (.if_icmp .ge 12, 3) := by decide +kernel
theorem dX12_want_28 : decode cX12_want 28 = .ok (.aload_n 0, 1) := by decide +kernel
theorem dX12_want_29 : decode cX12_want 29 = .ok (.iload_n 1, 1) := by decide +kernel
theorem dX12_want_30 : decode cX12_want 30 = .ok (.iload_n 2, 1) := by decide +kernel
theorem dX12_want_31 : decode cX12_want 31 = .ok (.invokevirtual 295, 3) := by decide +kernel
theorem dX12_want_34 : decode cX12_want 34 = .ok (.goto 33, 3) := by decide +kernel
theorem dX12_want_37 : decode cX12_want 37 = .ok (.iload_n 2, 1) := by decide +kernel
theorem dX12_want_38 : decode cX12_want 38 = .ok (.iconst 4, 1) := by decide +kernel
theorem dX12_want_39 : decode cX12_want 39 = .ok (.if_icmp .ne 15, 3) := by decide +kernel
theorem dX12_want_42 : decode cX12_want 42 = .ok (.aload_n 0, 1) := by decide +kernel
theorem dX12_want_43 : decode cX12_want 43 = .ok (.getfield 39, 3) := by decide +kernel
theorem dX12_want_46 : decode cX12_want 46 = .ok (.bipush 51, 2) := by decide +kernel
theorem dX12_want_48 : decode cX12_want 48 = .ok (.iload_n 1, 1) := by decide +kernel
theorem dX12_want_49 : decode cX12_want 49 = .ok (.iadd, 1) := by decide +kernel
theorem dX12_want_50 : decode cX12_want 50 = .ok (.iaload, 1) := by decide +kernel
theorem dX12_want_51 : decode cX12_want 51 = .ok (.goto 16, 3) := by decide +kernel
theorem dX12_want_54 : decode cX12_want 54 = .ok (.aload_n 0, 1) := by decide +kernel
theorem dX12_want_55 : decode cX12_want 55 = .ok (.iload_n 1, 1) := by decide +kernel
theorem dX12_want_56 : decode cX12_want 56 = .ok (.invokevirtual 318, 3) := by decide +kernel
theorem dX12_want_59 : decode cX12_want 59 = .ok (.ifCond .lt 7, 3) := by decide +kernel
theorem dX12_want_62 : decode cX12_want 62 = .ok (.iconst 1, 1) := by decide +kernel
theorem dX12_want_63 : decode cX12_want 63 = .ok (.goto 4, 3) := by decide +kernel
theorem dX12_want_66 : decode cX12_want 66 = .ok (.iconst 0, 1) := by decide +kernel
theorem dX12_want_67 : decode cX12_want 67 = .ok (.ireturn, 1) := by decide +kernel
set_option maxRecDepth 20000 in
theorem ggX12_summedBy_X12_reckons : GoodIn wsX12_summedBy wsX12_reckons := goodIn_r _ [7, 8, 9, 10, 11, 12, 13, 6, 14, 15, 16, 17, 18, 19, 20, 21, 22, 23, 24, 25, 26, 27, 28, 29, 30, 31, 32, 33, 34, 35, 36, 37, 38, 39, 40, 41, 42, 43, 44, 45, 46, 47, 48, 49, 50, 51, 52, 53, 54, 55, 56, 57, 58, 59, 60] (by decide +kernel) (by decide +kernel)
set_option maxRecDepth 20000 in
theorem gX12_summedBy_X12_reckons : GoodIn wsX12_summedBy (wsV RX12 321 RX12 yX12_reckons wsX12_reckons) := goodIn_app (goodIn_of _ (by decide +kernel)) ggX12_summedBy_X12_reckons
theorem dX12_summedBy_0 : decode cX12_summedBy 0 = .ok (.iconst 0, 1) := by decide +kernel
theorem dX12_summedBy_1 : decode cX12_summedBy 1 = .ok (.istore_n 2, 1) := by decide +kernel
theorem dX12_summedBy_2 : decode cX12_summedBy 2 = .ok (.iload_n 2, 1) := by decide +kernel
theorem dX12_summedBy_3 : decode cX12_summedBy 3 = .ok (.aload_n 0, 1) := by decide +kernel
theorem dX12_summedBy_4 : decode cX12_summedBy 4 = .ok (.getfield 23, 3) := by decide +kernel
theorem dX12_summedBy_7 : decode cX12_summedBy 7 = .ok (.iload_n 1, 1) := by decide +kernel
theorem dX12_summedBy_8 : decode cX12_summedBy 8 = .ok (.iaload, 1) := by decide +kernel
theorem dX12_summedBy_9 : decode cX12_summedBy 9 = .ok (.if_icmp .ge 75, 3) := by decide +kernel
theorem dX12_summedBy_12 : decode cX12_summedBy 12 = .ok (.bipush 48, 2) := by decide +kernel
theorem dX12_summedBy_14 : decode cX12_summedBy 14 = .ok (.iload_n 1, 1) := by decide +kernel
theorem dX12_summedBy_15 : decode cX12_summedBy 15 = .ok (.imul, 1) := by decide +kernel
theorem dX12_summedBy_16 : decode cX12_summedBy 16 = .ok (.iconst 4, 1) := by decide +kernel
theorem dX12_summedBy_17 : decode cX12_summedBy 17 = .ok (.iload_n 2, 1) := by decide +kernel
theorem dX12_summedBy_18 : decode cX12_summedBy 18 = .ok (.imul, 1) := by decide +kernel
theorem dX12_summedBy_19 : decode cX12_summedBy 19 = .ok (.iadd, 1) := by decide +kernel
theorem dX12_summedBy_20 : decode cX12_summedBy 20 = .ok (.istore_n 3, 1) := by decide +kernel
theorem dX12_summedBy_21 : decode cX12_summedBy 21 = .ok (.aload_n 0, 1) := by decide +kernel
theorem dX12_summedBy_22 : decode cX12_summedBy 22 = .ok (.getfield 20, 3) := by decide +kernel
theorem dX12_summedBy_25 : decode cX12_summedBy 25 = .ok (.iload_n 3, 1) := by decide +kernel
theorem dX12_summedBy_26 : decode cX12_summedBy 26 = .ok (.iconst 2, 1) := by decide +kernel
theorem dX12_summedBy_27 : decode cX12_summedBy 27 = .ok (.iadd, 1) := by decide +kernel
theorem dX12_summedBy_28 : decode cX12_summedBy 28 = .ok (.iaload, 1) := by decide +kernel
theorem dX12_summedBy_29 : decode cX12_summedBy 29 = .ok (.ifCond .lt 29, 3) := by decide +kernel
theorem dX12_summedBy_32 : decode cX12_summedBy 32 = .ok (.aload_n 0, 1) := by decide +kernel
theorem dX12_summedBy_33 : decode cX12_summedBy 33 = .ok (.iload_n 1, 1) := by decide +kernel
theorem dX12_summedBy_34 : decode cX12_summedBy 34 = .ok (.aload_n 0, 1) := by decide +kernel
theorem dX12_summedBy_35 : decode cX12_summedBy 35 = .ok (.getfield 20, 3) := by decide +kernel
theorem dX12_summedBy_38 : decode cX12_summedBy 38 = .ok (.iload_n 3, 1) := by decide +kernel
theorem dX12_summedBy_39 : decode cX12_summedBy 39 = .ok (.iconst 2, 1) := by decide +kernel
theorem dX12_summedBy_40 : decode cX12_summedBy 40 = .ok (.iadd, 1) := by decide +kernel
theorem dX12_summedBy_41 : decode cX12_summedBy 41 = .ok (.iaload, 1) := by decide +kernel
theorem dX12_summedBy_42 : decode cX12_summedBy 42 = .ok (.aload_n 0, 1) := by decide +kernel
theorem dX12_summedBy_43 : decode cX12_summedBy 43 = .ok (.getfield 20, 3) := by decide +kernel
theorem dX12_summedBy_46 : decode cX12_summedBy 46 = .ok (.iload_n 3, 1) := by decide +kernel
theorem dX12_summedBy_47 : decode cX12_summedBy 47 = .ok (.iconst 3, 1) := by decide +kernel
theorem dX12_summedBy_48 : decode cX12_summedBy 48 = .ok (.iadd, 1) := by decide +kernel
theorem dX12_summedBy_49 : decode cX12_summedBy 49 = .ok (.iaload, 1) := by decide +kernel
theorem dX12_summedBy_50 : decode cX12_summedBy 50 = .ok (.invokevirtual 321, 3) := by decide +kernel
theorem dX12_summedBy_53 : decode cX12_summedBy 53 = .ok (.lconst 1, 1) := by decide +kernel
theorem dX12_summedBy_54 : decode cX12_summedBy 54 = .ok (.lcmp, 1) := by decide +kernel
theorem dX12_summedBy_55 : decode cX12_summedBy 55 = .ok (.ifCond .ne 23, 3) := by decide +kernel
theorem dX12_summedBy_58 : decode cX12_summedBy 58 = .ok (.aload_n 0, 1) := by decide +kernel
theorem dX12_summedBy_59 : decode cX12_summedBy 59 = .ok (.iload_n 1, 1) := by decide +kernel
theorem dX12_summedBy_60 : decode cX12_summedBy 60 = .ok (.aload_n 0, 1) := by decide +kernel
theorem dX12_summedBy_61 : decode cX12_summedBy 61 = .ok (.getfield 20, 3) := by decide +kernel
theorem dX12_summedBy_64 : decode cX12_summedBy 64 = .ok (.iload_n 3, 1) := by decide +kernel
theorem dX12_summedBy_65 : decode cX12_summedBy 65 = .ok (.iaload, 1) := by decide +kernel
theorem dX12_summedBy_66 : decode cX12_summedBy 66 = .ok (.aload_n 0, 1) := by decide +kernel
theorem dX12_summedBy_67 : decode cX12_summedBy 67 = .ok (.getfield 20, 3) := by decide +kernel
theorem dX12_summedBy_70 : decode cX12_summedBy 70 = .ok (.iload_n 3, 1) := by decide +kernel
theorem dX12_summedBy_71 : decode cX12_summedBy 71 = .ok (.iconst 1, 1) := by decide +kernel
theorem dX12_summedBy_72 : decode cX12_summedBy 72 = .ok (.iadd, 1) := by decide +kernel
theorem dX12_summedBy_73 : decode cX12_summedBy 73 = .ok (.iaload, 1) := by decide +kernel
theorem dX12_summedBy_74 : decode cX12_summedBy 74 = .ok (.invokevirtual 321, 3) := by decide +kernel
theorem dX12_summedBy_77 : decode cX12_summedBy 77 = .ok (.lreturn, 1) := by decide +kernel
theorem dX12_summedBy_78 : decode cX12_summedBy 78 = .ok (.iinc 2 1, 3) := by decide +kernel
theorem dX12_summedBy_81 : decode cX12_summedBy 81 = .ok (.goto (-79), 3) := by decide +kernel
theorem dX12_summedBy_84 : decode cX12_summedBy 84 = .ok (.lconst 0, 1) := by decide +kernel
theorem dX12_summedBy_85 : decode cX12_summedBy 85 = .ok (.lreturn, 1) := by decide +kernel
set_option maxRecDepth 20000 in
theorem ggX12_turnsIn_X12_heatIn : GoodIn wsX12_turnsIn wsX12_heatIn := goodIn_r _ [9, 3, 10, 39, 40, 41, 42, 43, 44, 45, 46, 47, 48, 49, 50, 51, 52, 53, 54, 55, 56, 57, 58, 59, 60, 61, 62, 63, 64, 65, 66, 67, 68, 69, 70, 71, 72, 73, 74, 75, 76] (by decide +kernel) (by decide +kernel)
set_option maxRecDepth 20000 in
theorem gX12_turnsIn_X12_heatIn : GoodIn wsX12_turnsIn (wsV RX12 325 RX12 yX12_heatIn wsX12_heatIn) := goodIn_app (goodIn_of _ (by decide +kernel)) ggX12_turnsIn_X12_heatIn
set_option maxRecDepth 20000 in
theorem ggX12_turnsIn_X12_handOf : GoodIn wsX12_turnsIn wsX12_handOf := goodIn_r _ [14, 3, 39, 40, 41, 42, 43, 44, 45, 46, 47, 48, 49, 50, 51, 52, 53, 54, 55, 56, 57, 58, 59, 60, 61, 62, 63, 64, 65, 66, 67, 68, 69, 70, 71, 72, 73, 74, 75, 76] (by decide +kernel) (by decide +kernel)
set_option maxRecDepth 20000 in
theorem gX12_turnsIn_X12_handOf : GoodIn wsX12_turnsIn (wsV RX12 306 RX12 yX12_handOf wsX12_handOf) := goodIn_app (goodIn_of _ (by decide +kernel)) ggX12_turnsIn_X12_handOf
set_option maxRecDepth 20000 in
theorem ggX12_turnsIn_X12_summedBy : GoodIn wsX12_turnsIn wsX12_summedBy := goodIn_r _ [18, 19, 20, 21, 22, 23, 8, 24, 25, 26, 2, 27, 28, 29, 30, 31, 32, 33, 34, 35, 36, 37, 38, 39, 40, 41, 42, 43, 44, 45, 46, 47, 48, 49, 50, 51, 52, 53, 54, 55, 56, 57, 58, 59, 60, 61, 62, 63, 64, 65, 66, 67, 68, 69, 70, 71, 72, 73, 74, 75, 76] (by decide +kernel) (by decide +kernel)
set_option maxRecDepth 20000 in
theorem gX12_turnsIn_X12_summedBy : GoodIn wsX12_turnsIn (wsV RX12 328 RX12 yX12_summedBy wsX12_summedBy) := goodIn_app (goodIn_of _ (by decide +kernel)) ggX12_turnsIn_X12_summedBy
theorem dX12_turnsIn_0 : decode cX12_turnsIn 0 = .ok (.aload_n 0, 1) := by decide +kernel
theorem dX12_turnsIn_1 : decode cX12_turnsIn 1 = .ok (.iload 5, 2) := by decide +kernel
theorem dX12_turnsIn_3 : decode cX12_turnsIn 3 = .ok (.invokevirtual 325, 3) := by decide +kernel
theorem dX12_turnsIn_6 : decode cX12_turnsIn 6 = .ok (.istore 8, 2) := by decide +kernel
theorem dX12_turnsIn_8 : decode cX12_turnsIn 8 = .ok (.aload_n 0, 1) := by decide +kernel
theorem dX12_turnsIn_9 : decode cX12_turnsIn 9 = .ok (.getfield 42, 3) := by decide +kernel
theorem dX12_turnsIn_12 : decode cX12_turnsIn 12 = .ok (.ifCond .ge 17, 3) := by decide +kernel
theorem dX12_turnsIn_15 : decode cX12_turnsIn 15 = .ok (.aload_n 0, 1) := by decide +kernel
theorem dX12_turnsIn_16 : decode cX12_turnsIn 16 = .ok (.iload_n 1, 1) := by decide +kernel
theorem dX12_turnsIn_17 : decode cX12_turnsIn 17 = .ok (.iconst 3, 1) := by decide +kernel
theorem dX12_turnsIn_18 : decode cX12_turnsIn 18 = .ok (.invokevirtual 306, 3) := by decide +kernel
theorem dX12_turnsIn_21 : decode cX12_turnsIn 21 = .ok (.iload_n 2, 1) := by decide +kernel
theorem dX12_turnsIn_22 : decode cX12_turnsIn 22 = .ok (.iconst 4, 1) := by decide +kernel
theorem dX12_turnsIn_23 : decode cX12_turnsIn 23 = .ok (.idiv, 1) := by decide +kernel
theorem dX12_turnsIn_24 : decode cX12_turnsIn 24 = .ok (.iadd, 1) := by decide +kernel
theorem dX12_turnsIn_25 : decode cX12_turnsIn 25 = .ok (.iload 8, 2) := by decide +kernel
theorem dX12_turnsIn_27 : decode cX12_turnsIn 27 = .ok (.iadd, 1) := by decide +kernel
theorem dX12_turnsIn_28 : decode cX12_turnsIn 28 = .ok (.ireturn, 1) := by decide +kernel
theorem dX12_turnsIn_29 : decode cX12_turnsIn 29 = .ok (.aload_n 0, 1) := by decide +kernel
theorem dX12_turnsIn_30 : decode cX12_turnsIn 30 = .ok (.getfield 36, 3) := by decide +kernel
theorem dX12_turnsIn_33 : decode cX12_turnsIn 33 = .ok (.iconst 0, 1) := by decide +kernel
theorem dX12_turnsIn_34 : decode cX12_turnsIn 34 = .ok (.iload_n 1, 1) := by decide +kernel
theorem dX12_turnsIn_35 : decode cX12_turnsIn 35 = .ok (.i2l, 1) := by decide +kernel
theorem dX12_turnsIn_36 : decode cX12_turnsIn 36 = .ok (.lastore, 1) := by decide +kernel
theorem dX12_turnsIn_37 : decode cX12_turnsIn 37 = .ok (.aload_n 0, 1) := by decide +kernel
theorem dX12_turnsIn_38 : decode cX12_turnsIn 38 = .ok (.getfield 36, 3) := by decide +kernel
theorem dX12_turnsIn_41 : decode cX12_turnsIn 41 = .ok (.iconst 1, 1) := by decide +kernel
theorem dX12_turnsIn_42 : decode cX12_turnsIn 42 = .ok (.aload_n 0, 1) := by decide +kernel
theorem dX12_turnsIn_43 : decode cX12_turnsIn 43 = .ok (.iload_n 1, 1) := by decide +kernel
theorem dX12_turnsIn_44 : decode cX12_turnsIn 44 = .ok (.iconst 3, 1) := by decide +kernel
theorem dX12_turnsIn_45 : decode cX12_turnsIn 45 = .ok (.invokevirtual 306, 3) := by decide +kernel
theorem dX12_turnsIn_48 : decode cX12_turnsIn 48 = .ok (.i2l, 1) := by decide +kernel
theorem dX12_turnsIn_49 : decode cX12_turnsIn 49 = .ok (.lastore, 1) := by decide +kernel
theorem dX12_turnsIn_50 : decode cX12_turnsIn 50 = .ok (.aload_n 0, 1) := by decide +kernel
theorem dX12_turnsIn_51 : decode cX12_turnsIn 51 = .ok (.getfield 36, 3) := by decide +kernel
theorem dX12_turnsIn_54 : decode cX12_turnsIn 54 = .ok (.iconst 2, 1) := by decide +kernel
theorem dX12_turnsIn_55 : decode cX12_turnsIn 55 = .ok (.iload_n 2, 1) := by decide +kernel
theorem dX12_turnsIn_56 : decode cX12_turnsIn 56 = .ok (.i2l, 1) := by decide +kernel
theorem dX12_turnsIn_57 : decode cX12_turnsIn 57 = .ok (.lastore, 1) := by decide +kernel
theorem dX12_turnsIn_58 : decode cX12_turnsIn 58 = .ok (.aload_n 0, 1) := by decide +kernel
theorem dX12_turnsIn_59 : decode cX12_turnsIn 59 = .ok (.getfield 36, 3) := by decide +kernel
theorem dX12_turnsIn_62 : decode cX12_turnsIn 62 = .ok (.iconst 3, 1) := by decide +kernel
theorem dX12_turnsIn_63 : decode cX12_turnsIn 63 = .ok (.iload_n 3, 1) := by decide +kernel
theorem dX12_turnsIn_64 : decode cX12_turnsIn 64 = .ok (.i2l, 1) := by decide +kernel
theorem dX12_turnsIn_65 : decode cX12_turnsIn 65 = .ok (.lastore, 1) := by decide +kernel
theorem dX12_turnsIn_66 : decode cX12_turnsIn 66 = .ok (.aload_n 0, 1) := by decide +kernel
theorem dX12_turnsIn_67 : decode cX12_turnsIn 67 = .ok (.getfield 36, 3) := by decide +kernel
theorem dX12_turnsIn_70 : decode cX12_turnsIn 70 = .ok (.iconst 4, 1) := by decide +kernel
theorem dX12_turnsIn_71 : decode cX12_turnsIn 71 = .ok (.iload 4, 2) := by decide +kernel
theorem dX12_turnsIn_73 : decode cX12_turnsIn 73 = .ok (.i2l, 1) := by decide +kernel
theorem dX12_turnsIn_74 : decode cX12_turnsIn 74 = .ok (.lastore, 1) := by decide +kernel
theorem dX12_turnsIn_75 : decode cX12_turnsIn 75 = .ok (.aload_n 0, 1) := by decide +kernel
theorem dX12_turnsIn_76 : decode cX12_turnsIn 76 = .ok (.getfield 36, 3) := by decide +kernel
theorem dX12_turnsIn_79 : decode cX12_turnsIn 79 = .ok (.iconst 5, 1) := by decide +kernel
theorem dX12_turnsIn_80 : decode cX12_turnsIn 80 = .ok (.iload 8, 2) := by decide +kernel
theorem dX12_turnsIn_82 : decode cX12_turnsIn 82 = .ok (.i2l, 1) := by decide +kernel
theorem dX12_turnsIn_83 : decode cX12_turnsIn 83 = .ok (.lastore, 1) := by decide +kernel
theorem dX12_turnsIn_84 : decode cX12_turnsIn 84 = .ok (.aload_n 0, 1) := by decide +kernel
theorem dX12_turnsIn_85 : decode cX12_turnsIn 85 = .ok (.getfield 36, 3) := by decide +kernel
theorem dX12_turnsIn_88 : decode cX12_turnsIn 88 = .ok (.bipush 6, 2) := by decide +kernel
theorem dX12_turnsIn_90 : decode cX12_turnsIn 90 = .ok (.iload 5, 2) := by decide +kernel
theorem dX12_turnsIn_92 : decode cX12_turnsIn 92 = .ok (.i2l, 1) := by decide +kernel
theorem dX12_turnsIn_93 : decode cX12_turnsIn 93 = .ok (.lastore, 1) := by decide +kernel
theorem dX12_turnsIn_94 : decode cX12_turnsIn 94 = .ok (.aload_n 0, 1) := by decide +kernel
theorem dX12_turnsIn_95 : decode cX12_turnsIn 95 = .ok (.getfield 36, 3) := by decide +kernel
theorem dX12_turnsIn_98 : decode cX12_turnsIn 98 = .ok (.bipush 7, 2) := by decide +kernel
theorem dX12_turnsIn_100 : decode cX12_turnsIn 100 = .ok (.iload 6, 2) := by decide +kernel
theorem dX12_turnsIn_102 : decode cX12_turnsIn 102 = .ok (.i2l, 1) := by decide +kernel
theorem dX12_turnsIn_103 : decode cX12_turnsIn 103 = .ok (.lastore, 1) := by decide +kernel
theorem dX12_turnsIn_104 : decode cX12_turnsIn 104 = .ok (.aload_n 0, 1) := by decide +kernel
theorem dX12_turnsIn_105 : decode cX12_turnsIn 105 = .ok (.getfield 36, 3) := by decide +kernel
theorem dX12_turnsIn_108 : decode cX12_turnsIn 108 = .ok (.bipush 8, 2) := by decide +kernel
theorem dX12_turnsIn_110 : decode cX12_turnsIn 110 = .ok (.iload 7, 2) := by decide +kernel
theorem dX12_turnsIn_112 : decode cX12_turnsIn 112 = .ok (.i2l, 1) := by decide +kernel
theorem dX12_turnsIn_113 : decode cX12_turnsIn 113 = .ok (.lastore, 1) := by decide +kernel
theorem dX12_turnsIn_114 : decode cX12_turnsIn 114 = .ok (.aload_n 0, 1) := by decide +kernel
theorem dX12_turnsIn_115 : decode cX12_turnsIn 115 = .ok (.getfield 36, 3) := by decide +kernel
theorem dX12_turnsIn_118 : decode cX12_turnsIn 118 = .ok (.bipush 9, 2) := by decide +kernel
theorem dX12_turnsIn_120 : decode cX12_turnsIn 120 = .ok (.iload 4, 2) := by decide +kernel
theorem dX12_turnsIn_122 : decode cX12_turnsIn 122 = .ok (.aload_n 0, 1) := by decide +kernel
theorem dX12_turnsIn_123 : decode cX12_turnsIn 123 = .ok (.getfield 39, 3) := by decide +kernel
theorem dX12_turnsIn_126 : decode cX12_turnsIn 126 = .ok (.iconst 2, 1) := by decide +kernel
theorem dX12_turnsIn_127 : decode cX12_turnsIn 127 = .ok (.iaload, 1) := by decide +kernel
theorem dX12_turnsIn_128 : decode cX12_turnsIn 128 = .ok (.if_icmp .lt 7, 3) := by decide +kernel
theorem dX12_turnsIn_131 : decode cX12_turnsIn 131 = .ok (.lconst 1, 1) := by decide +kernel
theorem dX12_turnsIn_132 : decode cX12_turnsIn 132 = .ok (.goto 4, 3) := by decide +kernel
theorem dX12_turnsIn_135 : decode cX12_turnsIn 135 = .ok (.lconst 0, 1) := by decide +kernel
theorem dX12_turnsIn_136 : decode cX12_turnsIn 136 = .ok (.lastore, 1) := by decide +kernel
theorem dX12_turnsIn_137 : decode cX12_turnsIn 137 = .ok (.aload_n 0, 1) := by decide +kernel
theorem dX12_turnsIn_138 : decode cX12_turnsIn 138 = .ok (.aload_n 0, 1) := by decide +kernel
theorem dX12_turnsIn_139 : decode cX12_turnsIn 139 = .ok (.getfield 42, 3) := by decide +kernel
theorem dX12_turnsIn_142 : decode cX12_turnsIn 142 = .ok (.invokevirtual 328, 3) := by decide +kernel
theorem dX12_turnsIn_145 : decode cX12_turnsIn 145 = .ok (.lstore 9, 2) := by decide +kernel
theorem dX12_turnsIn_147 : decode cX12_turnsIn 147 = .ok (.lload 9, 2) := by decide +kernel
theorem dX12_turnsIn_149 : decode cX12_turnsIn 149 = .ok (.lconst 0, 1) := by decide +kernel
theorem dX12_turnsIn_150 : decode cX12_turnsIn 150 = .ok (.lcmp, 1) := by decide +kernel
theorem dX12_turnsIn_151 : decode cX12_turnsIn 151 = .ok (.ifCond .ge 7, 3) := by decide +kernel
theorem dX12_turnsIn_154 : decode cX12_turnsIn 154 = .ok (.iconst 0, 1) := by decide +kernel
theorem dX12_turnsIn_155 : decode cX12_turnsIn 155 = .ok (.goto 20, 3) := by decide +kernel
theorem dX12_turnsIn_158 : decode cX12_turnsIn 158 = .ok (.lload 9, 2) := by decide +kernel
theorem dX12_turnsIn_160 : decode cX12_turnsIn 160 = .ok (.ldc2_w 332, 3) := by decide +kernel
theorem dX12_turnsIn_163 : decode cX12_turnsIn 163 = .ok (.lcmp, 1) := by decide +kernel
theorem dX12_turnsIn_164 : decode cX12_turnsIn 164 = .ok (.ifCond .le 8, 3) := by decide +kernel
theorem dX12_turnsIn_167 : decode cX12_turnsIn 167 = .ok (.bipush 50, 2) := by decide +kernel
theorem dX12_turnsIn_169 : decode cX12_turnsIn 169 = .ok (.goto 6, 3) := by decide +kernel
theorem dX12_turnsIn_172 : decode cX12_turnsIn 172 = .ok (.lload 9, 2) := by decide +kernel
theorem dX12_turnsIn_174 : decode cX12_turnsIn 174 = .ok (.l2i, 1) := by decide +kernel
theorem dX12_turnsIn_175 : decode cX12_turnsIn 175 = .ok (.ireturn, 1) := by decide +kernel
theorem dX12_atMost_0 : decode cX12_atMost 0 = .ok (.iload_n 0, 1) := by decide +kernel
theorem dX12_atMost_1 : decode cX12_atMost 1 = .ok (.iload_n 1, 1) := by decide +kernel
theorem dX12_atMost_2 : decode cX12_atMost 2 = .ok (.if_icmp .le 7, 3) := by decide +kernel
theorem dX12_atMost_5 : decode cX12_atMost 5 = .ok (.iload_n 1, 1) := by decide +kernel
theorem dX12_atMost_6 : decode cX12_atMost 6 = .ok (.goto 4, 3) := by decide +kernel
theorem dX12_atMost_9 : decode cX12_atMost 9 = .ok (.iload_n 0, 1) := by decide +kernel
theorem dX12_atMost_10 : decode cX12_atMost 10 = .ok (.ireturn, 1) := by decide +kernel
set_option maxRecDepth 20000 in
theorem ggX12_moreTired_X12_handOf : GoodIn wsX12_moreTired wsX12_handOf := goodIn_r _ [5, 6, 10, 11, 12, 13, 14, 15, 16, 17, 18, 19, 20, 21, 22, 23, 24, 25, 26, 27, 28, 29, 30, 31, 32, 33, 34, 35, 36, 37, 38, 39, 40, 41, 42, 43, 44, 45, 46, 47] (by decide +kernel) (by decide +kernel)
set_option maxRecDepth 20000 in
theorem gX12_moreTired_X12_handOf : GoodIn wsX12_moreTired (wsV RX12 306 RX12 yX12_handOf wsX12_handOf) := goodIn_app (goodIn_of _ (by decide +kernel)) ggX12_moreTired_X12_handOf
set_option maxRecDepth 20000 in
theorem ggX12_moreTired_X12_atMost : GoodIn wsX12_moreTired wsX12_atMost := goodIn_r _ [9] (by decide +kernel) (by decide +kernel)
set_option maxRecDepth 20000 in
theorem gX12_moreTired_X12_atMost : GoodIn wsX12_moreTired (va_wsS RX12 334 yX12_atMost wsX12_atMost) := goodIn_app (goodIn_of _ (by decide +kernel)) ggX12_moreTired_X12_atMost
theorem dX12_moreTired_0 : decode cX12_moreTired 0 = .ok (.iload_n 2, 1) := by decide +kernel
theorem dX12_moreTired_1 : decode cX12_moreTired 1 = .ok (.aload_n 0, 1) := by decide +kernel
theorem dX12_moreTired_2 : decode cX12_moreTired 2 = .ok (.iload_n 1, 1) := by decide +kernel
theorem dX12_moreTired_3 : decode cX12_moreTired 3 = .ok (.iconst 4, 1) := by decide +kernel
theorem dX12_moreTired_4 : decode cX12_moreTired 4 = .ok (.invokevirtual 306, 3) := by decide +kernel
theorem dX12_moreTired_7 : decode cX12_moreTired 7 = .ok (.iadd, 1) := by decide +kernel
theorem dX12_moreTired_8 : decode cX12_moreTired 8 = .ok (.bipush 99, 2) := by decide +kernel
theorem dX12_moreTired_10 : decode cX12_moreTired 10 = .ok (.invokestatic 334, 3) := by decide +kernel
theorem dX12_moreTired_13 : decode cX12_moreTired 13 = .ok (.ireturn, 1) := by decide +kernel
set_option maxRecDepth 20000 in
theorem ggX12_turnedBy_X12_turnsIn : GoodIn wsX12_turnedBy wsX12_turnsIn := goodIn_r _ [5, 6, 7, 8, 9, 10, 11, 12, 4, 13, 14, 15, 16, 17, 18, 19, 20, 21, 22, 23, 24, 25, 26, 27, 28, 29, 30, 31, 32, 33, 34, 35, 36, 37, 38, 39, 40, 41, 42, 50, 51, 52, 53, 54, 55, 56, 57, 58, 59, 60, 61, 62, 63, 64, 65, 66, 67, 68, 69, 70, 71, 72, 73, 74, 75, 76, 77, 78, 79, 80, 81, 82, 83, 84, 85, 86, 87] (by decide +kernel) (by decide +kernel)
set_option maxRecDepth 20000 in
theorem gX12_turnedBy_X12_turnsIn : GoodIn wsX12_turnedBy (wsV RX12 337 RX12 yX12_turnsIn wsX12_turnsIn) := goodIn_app (goodIn_of _ (by decide +kernel)) ggX12_turnedBy_X12_turnsIn
set_option maxRecDepth 20000 in
theorem ggX12_turnedBy_X12_atMost : GoodIn wsX12_turnedBy wsX12_atMost := goodIn_r _ [45] (by decide +kernel) (by decide +kernel)
set_option maxRecDepth 20000 in
theorem gX12_turnedBy_X12_atMost : GoodIn wsX12_turnedBy (va_wsS RX12 334 yX12_atMost wsX12_atMost) := goodIn_app (goodIn_of _ (by decide +kernel)) ggX12_turnedBy_X12_atMost
set_option maxRecDepth 20000 in
theorem ggX12_turnedBy_X12_moreTired : GoodIn wsX12_turnedBy wsX12_moreTired := goodIn_r _ [49, 15, 16, 17, 4, 18, 8, 43, 44, 45, 50, 51, 52, 53, 54, 55, 56, 57, 58, 59, 60, 61, 62, 63, 64, 65, 66, 67, 68, 69, 70, 71, 72, 73, 74, 75, 76, 77, 78, 79, 80, 81, 82, 83, 84, 85, 86, 87] (by decide +kernel) (by decide +kernel)
set_option maxRecDepth 20000 in
theorem gX12_turnedBy_X12_moreTired : GoodIn wsX12_turnedBy (wsV RX12 341 RX12 yX12_moreTired wsX12_moreTired) := goodIn_app (goodIn_of _ (by decide +kernel)) ggX12_turnedBy_X12_moreTired
theorem dX12_turnedBy_0 : decode cX12_turnedBy 0 = .ok (.iload_n 3, 1) := by decide +kernel
theorem dX12_turnedBy_1 : decode cX12_turnedBy 1 = .ok (.istore 7, 2) := by decide +kernel
theorem dX12_turnedBy_3 : decode cX12_turnedBy 3 = .ok (.iconst 0, 1) := by decide +kernel
theorem dX12_turnedBy_4 : decode cX12_turnedBy 4 = .ok (.istore 8, 2) := by decide +kernel
theorem dX12_turnedBy_6 : decode cX12_turnedBy 6 = .ok (.iconst 0, 1) := by decide +kernel
theorem dX12_turnedBy_7 : decode cX12_turnedBy 7 = .ok (.istore 9, 2) := by decide +kernel
theorem dX12_turnedBy_9 : decode cX12_turnedBy 9 = .ok (.iload 9, 2) := by decide +kernel
theorem dX12_turnedBy_11 : decode cX12_turnedBy 11 = .ok (.iload 4, 2) := by decide +kernel
theorem dX12_turnedBy_13 : decode cX12_turnedBy 13 = .ok (.if_icmp .ge 47, 3) := by decide +kernel
theorem dX12_turnedBy_16 : decode cX12_turnedBy 16 = .ok (.iload 7, 2) := by decide +kernel
theorem dX12_turnedBy_18 : decode cX12_turnedBy 18 = .ok (.aload_n 0, 1) := by decide +kernel
theorem dX12_turnedBy_19 : decode cX12_turnedBy 19 = .ok (.iload_n 1, 1) := by decide +kernel
theorem dX12_turnedBy_20 : decode cX12_turnedBy 20 = .ok (.iload 8, 2) := by decide +kernel
theorem dX12_turnedBy_22 : decode cX12_turnedBy 22 = .ok (.iload_n 2, 1) := by decide +kernel
theorem dX12_turnedBy_23 : decode cX12_turnedBy 23 = .ok (.iload 7, 2) := by decide +kernel
theorem dX12_turnedBy_25 : decode cX12_turnedBy 25 = .ok (.iload 5, 2) := by decide +kernel
theorem dX12_turnedBy_27 : decode cX12_turnedBy 27 = .ok (.iload 9, 2) := by decide +kernel
theorem dX12_turnedBy_29 : decode cX12_turnedBy 29 = .ok (.iadd, 1) := by decide +kernel
theorem dX12_turnedBy_30 : decode cX12_turnedBy 30 = .ok (.iload 6, 2) := by decide +kernel
theorem dX12_turnedBy_32 : decode cX12_turnedBy 32 = .ok (.iconst 1, 1) := by decide +kernel
theorem dX12_turnedBy_33 : decode cX12_turnedBy 33 = .ok (.invokevirtual 337, 3) := by decide +kernel
theorem dX12_turnedBy_36 : decode cX12_turnedBy 36 = .ok (.iadd, 1) := by decide +kernel
theorem dX12_turnedBy_37 : decode cX12_turnedBy 37 = .ok (.sipush 999, 3) := by decide +kernel
theorem dX12_turnedBy_40 : decode cX12_turnedBy 40 = .ok (.invokestatic 334, 3) := by decide +kernel
theorem dX12_turnedBy_43 : decode cX12_turnedBy 43 = .ok (.istore 7, 2) := by decide +kernel
theorem dX12_turnedBy_45 : decode cX12_turnedBy 45 = .ok (.aload_n 0, 1) := by decide +kernel
theorem dX12_turnedBy_46 : decode cX12_turnedBy 46 = .ok (.iload_n 1, 1) := by decide +kernel
theorem dX12_turnedBy_47 : decode cX12_turnedBy 47 = .ok (.iload 8, 2) := by decide +kernel
theorem dX12_turnedBy_49 : decode cX12_turnedBy 49 = .ok (.invokevirtual 341, 3) := by decide +kernel
theorem dX12_turnedBy_52 : decode cX12_turnedBy 52 = .ok (.istore 8, 2) := by decide +kernel
theorem dX12_turnedBy_54 : decode cX12_turnedBy 54 = .ok (.iinc 9 1, 3) := by decide +kernel
theorem dX12_turnedBy_57 : decode cX12_turnedBy 57 = .ok (.goto (-48), 3) := by decide +kernel
theorem dX12_turnedBy_60 : decode cX12_turnedBy 60 = .ok (.iload 7, 2) := by decide +kernel
theorem dX12_turnedBy_62 : decode cX12_turnedBy 62 = .ok (.ireturn, 1) := by decide +kernel
set_option maxRecDepth 20000 in
theorem ggX12_turns_X12_heatIn : GoodIn wsX12_turns wsX12_heatIn := goodIn_r _ [6, 1, 7, 57, 58, 59, 60, 61, 62, 63, 64, 65, 66, 67, 68, 69, 70, 71, 72, 73, 74, 75, 76, 77, 78, 79, 80, 81, 82, 83, 84, 85, 86, 87, 88, 89, 90, 91, 92, 93, 94] (by decide +kernel) (by decide +kernel)
set_option maxRecDepth 20000 in
theorem gX12_turns_X12_heatIn : GoodIn wsX12_turns (wsV RX12 325 RX12 yX12_heatIn wsX12_heatIn) := goodIn_app (goodIn_of _ (by decide +kernel)) ggX12_turns_X12_heatIn
set_option maxRecDepth 20000 in
theorem ggX12_turns_X12_handOf : GoodIn wsX12_turns wsX12_handOf := goodIn_r _ [11, 1, 57, 58, 59, 60, 61, 62, 63, 64, 65, 66, 67, 68, 69, 70, 71, 72, 73, 74, 75, 76, 77, 78, 79, 80, 81, 82, 83, 84, 85, 86, 87, 88, 89, 90, 91, 92, 93, 94] (by decide +kernel) (by decide +kernel)
set_option maxRecDepth 20000 in
theorem gX12_turns_X12_handOf : GoodIn wsX12_turns (wsV RX12 306 RX12 yX12_handOf wsX12_handOf) := goodIn_app (goodIn_of _ (by decide +kernel)) ggX12_turns_X12_handOf
set_option maxRecDepth 20000 in
theorem ggX12_turns_X12_held : GoodIn wsX12_turns wsX12_held := goodIn_r _ [15, 1, 16, 17, 18, 5, 19, 57, 58, 59, 60, 61, 62, 63, 64, 65, 66, 67, 68, 69, 70, 71, 72, 73, 74, 75, 76, 77, 78, 79, 80, 81, 82, 83, 84, 85, 86, 87, 88, 89, 90, 91, 92, 93, 94] (by decide +kernel) (by decide +kernel)
set_option maxRecDepth 20000 in
theorem gX12_turns_X12_held : GoodIn wsX12_turns (wsV RX12 309 RX12 yX12_held wsX12_held) := goodIn_app (goodIn_of _ (by decide +kernel)) ggX12_turns_X12_held
set_option maxRecDepth 20000 in
theorem ggX12_turns_X12_bits : GoodIn wsX12_turns wsX12_bits := goodIn_r _ [22] (by decide +kernel) (by decide +kernel)
set_option maxRecDepth 20000 in
theorem gX12_turns_X12_bits : GoodIn wsX12_turns (va_wsS RX12 344 yX12_bits wsX12_bits) := goodIn_app (goodIn_of _ (by decide +kernel)) ggX12_turns_X12_bits
set_option maxRecDepth 20000 in
theorem ggX12_turns_X12_turnsIn : GoodIn wsX12_turns wsX12_turnsIn := goodIn_r _ [26, 27, 28, 1, 29, 2, 3, 4, 5, 6, 7, 8, 9, 10, 11, 30, 31, 32, 33, 34, 35, 36, 37, 38, 39, 40, 41, 42, 43, 44, 45, 46, 47, 48, 49, 50, 51, 52, 53, 57, 58, 59, 60, 61, 62, 63, 64, 65, 66, 67, 68, 69, 70, 71, 72, 73, 74, 75, 76, 77, 78, 79, 80, 81, 82, 83, 84, 85, 86, 87, 88, 89, 90, 91, 92, 93, 94] (by decide +kernel) (by decide +kernel)
set_option maxRecDepth 20000 in
theorem gX12_turns_X12_turnsIn : GoodIn wsX12_turns (wsV RX12 337 RX12 yX12_turnsIn wsX12_turnsIn) := goodIn_app (goodIn_of _ (by decide +kernel)) ggX12_turns_X12_turnsIn
set_option maxRecDepth 20000 in
theorem ggX12_turns_X12_atMost : GoodIn wsX12_turns wsX12_atMost := goodIn_r _ [56] (by decide +kernel) (by decide +kernel)
set_option maxRecDepth 20000 in
theorem gX12_turns_X12_atMost : GoodIn wsX12_turns (va_wsS RX12 334 yX12_atMost wsX12_atMost) := goodIn_app (goodIn_of _ (by decide +kernel)) ggX12_turns_X12_atMost
theorem dX12_turns_0 : decode cX12_turns 0 = .ok (.bipush 35, 2) := by decide +kernel
theorem dX12_turns_2 : decode cX12_turns 2 = .ok (.iconst 4, 1) := by decide +kernel
theorem dX12_turns_3 : decode cX12_turns 3 = .ok (.iload_n 1, 1) := by decide +kernel
theorem dX12_turns_4 : decode cX12_turns 4 = .ok (.imul, 1) := by decide +kernel
theorem dX12_turns_5 : decode cX12_turns 5 = .ok (.iadd, 1) := by decide +kernel
theorem dX12_turns_6 : decode cX12_turns 6 = .ok (.istore_n 2, 1) := by decide +kernel
theorem dX12_turns_7 : decode cX12_turns 7 = .ok (.aload_n 0, 1) := by decide +kernel
theorem dX12_turns_8 : decode cX12_turns 8 = .ok (.getfield 39, 3) := by decide +kernel
theorem dX12_turns_11 : decode cX12_turns 11 = .ok (.iload_n 2, 1) := by decide +kernel
theorem dX12_turns_12 : decode cX12_turns 12 = .ok (.iconst 1, 1) := by decide +kernel
theorem dX12_turns_13 : decode cX12_turns 13 = .ok (.iadd, 1) := by decide +kernel
theorem dX12_turns_14 : decode cX12_turns 14 = .ok (.iaload, 1) := by decide +kernel
theorem dX12_turns_15 : decode cX12_turns 15 = .ok (.istore_n 3, 1) := by decide +kernel
theorem dX12_turns_16 : decode cX12_turns 16 = .ok (.iload_n 3, 1) := by decide +kernel
theorem dX12_turns_17 : decode cX12_turns 17 = .ok (.ifCond .ge 24, 3) := by decide +kernel
theorem dX12_turns_20 : decode cX12_turns 20 = .ok (.aload_n 0, 1) := by decide +kernel
theorem dX12_turns_21 : decode cX12_turns 21 = .ok (.getfield 39, 3) := by decide +kernel
theorem dX12_turns_24 : decode cX12_turns 24 = .ok (.iconst 1, 1) := by decide +kernel
theorem dX12_turns_25 : decode cX12_turns 25 = .ok (.iaload, 1) := by decide +kernel
theorem dX12_turns_26 : decode cX12_turns 26 = .ok (.aload_n 0, 1) := by decide +kernel
theorem dX12_turns_27 : decode cX12_turns 27 = .ok (.aload_n 0, 1) := by decide +kernel
theorem dX12_turns_28 : decode cX12_turns 28 = .ok (.getfield 39, 3) := by decide +kernel
theorem dX12_turns_31 : decode cX12_turns 31 = .ok (.bipush 7, 2) := by decide +kernel
theorem dX12_turns_33 : decode cX12_turns 33 = .ok (.iaload, 1) := by decide +kernel
theorem dX12_turns_34 : decode cX12_turns 34 = .ok (.invokevirtual 325, 3) := by decide +kernel
theorem dX12_turns_37 : decode cX12_turns 37 = .ok (.iadd, 1) := by decide +kernel
theorem dX12_turns_38 : decode cX12_turns 38 = .ok (.goto 52, 3) := by decide +kernel
theorem dX12_turns_41 : decode cX12_turns 41 = .ok (.aload_n 0, 1) := by decide +kernel
theorem dX12_turns_42 : decode cX12_turns 42 = .ok (.iload_n 3, 1) := by decide +kernel
theorem dX12_turns_43 : decode cX12_turns 43 = .ok (.aload_n 0, 1) := by decide +kernel
theorem dX12_turns_44 : decode cX12_turns 44 = .ok (.iload_n 3, 1) := by decide +kernel
theorem dX12_turns_45 : decode cX12_turns 45 = .ok (.iconst 2, 1) := by decide +kernel
theorem dX12_turns_46 : decode cX12_turns 46 = .ok (.invokevirtual 306, 3) := by decide +kernel
theorem dX12_turns_49 : decode cX12_turns 49 = .ok (.iload_n 1, 1) := by decide +kernel
theorem dX12_turns_50 : decode cX12_turns 50 = .ok (.aload_n 0, 1) := by decide +kernel
theorem dX12_turns_51 : decode cX12_turns 51 = .ok (.getfield 39, 3) := by decide +kernel
theorem dX12_turns_54 : decode cX12_turns 54 = .ok (.iload_n 2, 1) := by decide +kernel
theorem dX12_turns_55 : decode cX12_turns 55 = .ok (.iconst 2, 1) := by decide +kernel
theorem dX12_turns_56 : decode cX12_turns 56 = .ok (.iadd, 1) := by decide +kernel
theorem dX12_turns_57 : decode cX12_turns 57 = .ok (.iaload, 1) := by decide +kernel
theorem dX12_turns_58 : decode cX12_turns 58 = .ok (.aload_n 0, 1) := by decide +kernel
theorem dX12_turns_59 : decode cX12_turns 59 = .ok (.getfield 39, 3) := by decide +kernel
theorem dX12_turns_62 : decode cX12_turns 62 = .ok (.bipush 7, 2) := by decide +kernel
theorem dX12_turns_64 : decode cX12_turns 64 = .ok (.iaload, 1) := by decide +kernel
theorem dX12_turns_65 : decode cX12_turns 65 = .ok (.aload_n 0, 1) := by decide +kernel
theorem dX12_turns_66 : decode cX12_turns 66 = .ok (.iload_n 3, 1) := by decide +kernel
theorem dX12_turns_67 : decode cX12_turns 67 = .ok (.iconst 1, 1) := by decide +kernel
theorem dX12_turns_68 : decode cX12_turns 68 = .ok (.invokevirtual 306, 3) := by decide +kernel
theorem dX12_turns_71 : decode cX12_turns 71 = .ok (.ifCond .le 7, 3) := by decide +kernel
theorem dX12_turns_74 : decode cX12_turns 74 = .ok (.iconst 1, 1) := by decide +kernel
theorem dX12_turns_75 : decode cX12_turns 75 = .ok (.goto 4, 3) := by decide +kernel
theorem dX12_turns_78 : decode cX12_turns 78 = .ok (.iconst 0, 1) := by decide +kernel
theorem dX12_turns_79 : decode cX12_turns 79 = .ok (.aload_n 0, 1) := by decide +kernel
theorem dX12_turns_80 : decode cX12_turns 80 = .ok (.iload_n 3, 1) := by decide +kernel
theorem dX12_turns_81 : decode cX12_turns 81 = .ok (.invokevirtual 309, 3) := by decide +kernel
theorem dX12_turns_84 : decode cX12_turns 84 = .ok (.invokestatic 344, 3) := by decide +kernel
theorem dX12_turns_87 : decode cX12_turns 87 = .ok (.invokevirtual 337, 3) := by decide +kernel
theorem dX12_turns_90 : decode cX12_turns 90 = .ok (.istore 4, 2) := by decide +kernel
theorem dX12_turns_92 : decode cX12_turns 92 = .ok (.aload_n 0, 1) := by decide +kernel
theorem dX12_turns_93 : decode cX12_turns 93 = .ok (.getfield 39, 3) := by decide +kernel
theorem dX12_turns_96 : decode cX12_turns 96 = .ok (.iload_n 2, 1) := by decide +kernel
theorem dX12_turns_97 : decode cX12_turns 97 = .ok (.iconst 2, 1) := by decide +kernel
theorem dX12_turns_98 : decode cX12_turns 98 = .ok (.iadd, 1) := by decide +kernel
theorem dX12_turns_99 : decode cX12_turns 99 = .ok (.aload_n 0, 1) := by decide +kernel
theorem dX12_turns_100 : decode cX12_turns 100 = .ok (.getfield 39, 3) := by decide +kernel
theorem dX12_turns_103 : decode cX12_turns 103 = .ok (.iload_n 2, 1) := by decide +kernel
theorem dX12_turns_104 : decode cX12_turns 104 = .ok (.iconst 2, 1) := by decide +kernel
theorem dX12_turns_105 : decode cX12_turns 105 = .ok (.iadd, 1) := by decide +kernel
theorem dX12_turns_106 : decode cX12_turns 106 = .ok (.iaload, 1) := by decide +kernel
theorem dX12_turns_107 : decode cX12_turns 107 = .ok (.iload 4, 2) := by decide +kernel
theorem dX12_turns_109 : decode cX12_turns 109 = .ok (.iadd, 1) := by decide +kernel
theorem dX12_turns_110 : decode cX12_turns 110 = .ok (.sipush 999, 3) := by decide +kernel
theorem dX12_turns_113 : decode cX12_turns 113 = .ok (.invokestatic 334, 3) := by decide +kernel
theorem dX12_turns_116 : decode cX12_turns 116 = .ok (.iastore, 1) := by decide +kernel
theorem dX12_turns_117 : decode cX12_turns 117 = .ok (.return_, 1) := by decide +kernel
set_option maxRecDepth 20000 in
theorem ggX12_passes_X12_jugOf : GoodIn wsX12_passes wsX12_jugOf := goodIn_r _ [6, 1, 65, 66, 67, 68, 69, 70, 71, 72, 73, 74, 75, 76, 77, 78, 79, 80, 81, 82, 83, 84, 85, 86, 87, 88, 89, 90, 91, 92, 93, 94, 95, 96, 97, 98, 99, 100, 101, 102] (by decide +kernel) (by decide +kernel)
set_option maxRecDepth 20000 in
theorem gX12_passes_X12_jugOf : GoodIn wsX12_passes (wsV RX12 284 RX12 yX12_jugOf wsX12_jugOf) := goodIn_app (goodIn_of _ (by decide +kernel)) ggX12_passes_X12_jugOf
set_option maxRecDepth 20000 in
theorem ggX12_passes_X12_turns : GoodIn wsX12_passes wsX12_turns := goodIn_r _ [10, 1, 11, 12, 13, 5, 14, 15, 16, 17, 18, 19, 20, 21, 22, 23, 2, 3, 4, 6, 24, 25, 26, 27, 28, 29, 30, 31, 32, 33, 34, 35, 36, 37, 38, 39, 40, 41, 42, 43, 44, 45, 46, 47, 48, 49, 50, 51, 52, 53, 54, 55, 56, 57, 58, 59, 60, 65, 66, 67, 68, 69, 70, 71, 72, 73, 74, 75, 76, 77, 78, 79, 80, 81, 82, 83, 84, 85, 86, 87, 88, 89, 90, 91, 92, 93, 94, 95, 96, 97, 98, 99, 100, 101, 102] (by decide +kernel) (by decide +kernel)
set_option maxRecDepth 20000 in
theorem gX12_passes_X12_turns : GoodIn wsX12_passes (wsV RX12 347 RX12 yX12_turns wsX12_turns) := goodIn_app (goodIn_of _ (by decide +kernel)) ggX12_passes_X12_turns
set_option maxRecDepth 20000 in
theorem ggX12_passes_X12_held : GoodIn wsX12_passes wsX12_held := goodIn_r _ [23, 1, 2, 3, 4, 5, 6, 65, 66, 67, 68, 69, 70, 71, 72, 73, 74, 75, 76, 77, 78, 79, 80, 81, 82, 83, 84, 85, 86, 87, 88, 89, 90, 91, 92, 93, 94, 95, 96, 97, 98, 99, 100, 101, 102] (by decide +kernel) (by decide +kernel)
set_option maxRecDepth 20000 in
theorem gX12_passes_X12_held : GoodIn wsX12_passes (wsV RX12 309 RX12 yX12_held wsX12_held) := goodIn_app (goodIn_of _ (by decide +kernel)) ggX12_passes_X12_held
set_option maxRecDepth 20000 in
theorem ggX12_passes_X12_moreTired : GoodIn wsX12_passes wsX12_moreTired := goodIn_r _ [64, 16, 17, 18, 5, 19, 1, 58, 59, 60, 65, 66, 67, 68, 69, 70, 71, 72, 73, 74, 75, 76, 77, 78, 79, 80, 81, 82, 83, 84, 85, 86, 87, 88, 89, 90, 91, 92, 93, 94, 95, 96, 97, 98, 99, 100, 101, 102] (by decide +kernel) (by decide +kernel)
set_option maxRecDepth 20000 in
theorem gX12_passes_X12_moreTired : GoodIn wsX12_passes (wsV RX12 341 RX12 yX12_moreTired wsX12_moreTired) := goodIn_app (goodIn_of _ (by decide +kernel)) ggX12_passes_X12_moreTired
theorem dX12_passes_0 : decode cX12_passes 0 = .ok (.iconst 0, 1) := by decide +kernel
theorem dX12_passes_1 : decode cX12_passes 1 = .ok (.istore_n 1, 1) := by decide +kernel
theorem dX12_passes_2 : decode cX12_passes 2 = .ok (.iconst 0, 1) := by decide +kernel
theorem dX12_passes_3 : decode cX12_passes 3 = .ok (.istore_n 2, 1) := by decide +kernel
theorem dX12_passes_4 : decode cX12_passes 4 = .ok (.iload_n 2, 1) := by decide +kernel
theorem dX12_passes_5 : decode cX12_passes 5 = .ok (.aload_n 0, 1) := by decide +kernel
theorem dX12_passes_6 : decode cX12_passes 6 = .ok (.getfield 39, 3) := by decide +kernel
theorem dX12_passes_9 : decode cX12_passes 9 = .ok (.iconst 5, 1) := by decide +kernel
theorem dX12_passes_10 : decode cX12_passes 10 = .ok (.iaload, 1) := by decide +kernel
theorem dX12_passes_11 : decode cX12_passes 11 = .ok (.if_icmp .ge 67, 3) := by decide +kernel
theorem dX12_passes_14 : decode cX12_passes 14 = .ok (.aload_n 0, 1) := by decide +kernel
theorem dX12_passes_15 : decode cX12_passes 15 = .ok (.iload_n 2, 1) := by decide +kernel
theorem dX12_passes_16 : decode cX12_passes 16 = .ok (.iconst 3, 1) := by decide +kernel
theorem dX12_passes_17 : decode cX12_passes 17 = .ok (.invokevirtual 284, 3) := by decide +kernel
theorem dX12_passes_20 : decode cX12_passes 20 = .ok (.iconst 1, 1) := by decide +kernel
theorem dX12_passes_21 : decode cX12_passes 21 = .ok (.if_icmp .ne 6, 3) := by decide +kernel
theorem dX12_passes_24 : decode cX12_passes 24 = .ok (.goto 48, 3) := by decide +kernel
theorem dX12_passes_27 : decode cX12_passes 27 = .ok (.aload_n 0, 1) := by decide +kernel
theorem dX12_passes_28 : decode cX12_passes 28 = .ok (.iload_n 2, 1) := by decide +kernel
theorem dX12_passes_29 : decode cX12_passes 29 = .ok (.iconst 2, 1) := by decide +kernel
theorem dX12_passes_30 : decode cX12_passes 30 = .ok (.invokevirtual 284, 3) := by decide +kernel
theorem dX12_passes_33 : decode cX12_passes 33 = .ok (.istore_n 3, 1) := by decide +kernel
theorem dX12_passes_34 : decode cX12_passes 34 = .ok (.aload_n 0, 1) := by decide +kernel
theorem dX12_passes_35 : decode cX12_passes 35 = .ok (.iload_n 2, 1) := by decide +kernel
theorem dX12_passes_36 : decode cX12_passes 36 = .ok (.invokevirtual 347, 3) := by decide +kernel
theorem dX12_passes_39 : decode cX12_passes 39 = .ok (.iload_n 1, 1) := by decide +kernel
theorem dX12_passes_40 : decode cX12_passes 40 = .ok (.iload_n 3, 1) := by decide +kernel
theorem dX12_passes_41 : decode cX12_passes 41 = .ok (.aload_n 0, 1) := by decide +kernel
theorem dX12_passes_42 : decode cX12_passes 42 = .ok (.getfield 39, 3) := by decide +kernel
theorem dX12_passes_45 : decode cX12_passes 45 = .ok (.iconst 2, 1) := by decide +kernel
theorem dX12_passes_46 : decode cX12_passes 46 = .ok (.iaload, 1) := by decide +kernel
theorem dX12_passes_47 : decode cX12_passes 47 = .ok (.if_icmp .ge 22, 3) := by decide +kernel
theorem dX12_passes_50 : decode cX12_passes 50 = .ok (.aload_n 0, 1) := by decide +kernel
theorem dX12_passes_51 : decode cX12_passes 51 = .ok (.iload_n 2, 1) := by decide +kernel
theorem dX12_passes_52 : decode cX12_passes 52 = .ok (.iconst 2, 1) := by decide +kernel
theorem dX12_passes_53 : decode cX12_passes 53 = .ok (.invokevirtual 284, 3) := by decide +kernel
theorem dX12_passes_56 : decode cX12_passes 56 = .ok (.aload_n 0, 1) := by decide +kernel
theorem dX12_passes_57 : decode cX12_passes 57 = .ok (.getfield 39, 3) := by decide +kernel
theorem dX12_passes_60 : decode cX12_passes 60 = .ok (.iconst 2, 1) := by decide +kernel
theorem dX12_passes_61 : decode cX12_passes 61 = .ok (.iaload, 1) := by decide +kernel
theorem dX12_passes_62 : decode cX12_passes 62 = .ok (.if_icmp .lt 7, 3) := by decide +kernel
theorem dX12_passes_65 : decode cX12_passes 65 = .ok (.iconst 1, 1) := by decide +kernel
theorem dX12_passes_66 : decode cX12_passes 66 = .ok (.goto 4, 3) := by decide +kernel
theorem dX12_passes_69 : decode cX12_passes 69 = .ok (.iconst 0, 1) := by decide +kernel
theorem dX12_passes_70 : decode cX12_passes 70 = .ok (.iadd, 1) := by decide +kernel
theorem dX12_passes_71 : decode cX12_passes 71 = .ok (.istore_n 1, 1) := by decide +kernel
theorem dX12_passes_72 : decode cX12_passes 72 = .ok (.iinc 2 1, 3) := by decide +kernel
theorem dX12_passes_75 : decode cX12_passes 75 = .ok (.goto (-71), 3) := by decide +kernel
theorem dX12_passes_78 : decode cX12_passes 78 = .ok (.iconst 0, 1) := by decide +kernel
theorem dX12_passes_79 : decode cX12_passes 79 = .ok (.istore_n 2, 1) := by decide +kernel
theorem dX12_passes_80 : decode cX12_passes 80 = .ok (.iload_n 2, 1) := by decide +kernel
theorem dX12_passes_81 : decode cX12_passes 81 = .ok (.aload_n 0, 1) := by decide +kernel
theorem dX12_passes_82 : decode cX12_passes 82 = .ok (.getfield 39, 3) := by decide +kernel
theorem dX12_passes_85 : decode cX12_passes 85 = .ok (.iconst 4, 1) := by decide +kernel
theorem dX12_passes_86 : decode cX12_passes 86 = .ok (.iaload, 1) := by decide +kernel
theorem dX12_passes_87 : decode cX12_passes 87 = .ok (.if_icmp .ge 104, 3) := by decide +kernel
theorem dX12_passes_90 : decode cX12_passes 90 = .ok (.bipush 10, 2) := by decide +kernel
theorem dX12_passes_92 : decode cX12_passes 92 = .ok (.iconst 5, 1) := by decide +kernel
theorem dX12_passes_93 : decode cX12_passes 93 = .ok (.iload_n 2, 1) := by decide +kernel
theorem dX12_passes_94 : decode cX12_passes 94 = .ok (.imul, 1) := by decide +kernel
theorem dX12_passes_95 : decode cX12_passes 95 = .ok (.iadd, 1) := by decide +kernel
theorem dX12_passes_96 : decode cX12_passes 96 = .ok (.istore_n 3, 1) := by decide +kernel
theorem dX12_passes_97 : decode cX12_passes 97 = .ok (.aload_n 0, 1) := by decide +kernel
theorem dX12_passes_98 : decode cX12_passes 98 = .ok (.getfield 39, 3) := by decide +kernel
theorem dX12_passes_101 : decode cX12_passes 101 = .ok (.iload_n 3, 1) := by decide +kernel
theorem dX12_passes_102 : decode cX12_passes 102 = .ok (.iconst 2, 1) := by decide +kernel
theorem dX12_passes_103 : decode cX12_passes 103 = .ok (.iadd, 1) := by decide +kernel
theorem dX12_passes_104 : decode cX12_passes 104 = .ok (.iaload, 1) := by decide +kernel
theorem dX12_passes_105 : decode cX12_passes 105 = .ok (.ifCond .ne 7, 3) := by decide +kernel
theorem dX12_passes_108 : decode cX12_passes 108 = .ok (.iconst 0, 1) := by decide +kernel
theorem dX12_passes_109 : decode cX12_passes 109 = .ok (.goto 13, 3) := by decide +kernel
theorem dX12_passes_112 : decode cX12_passes 112 = .ok (.aload_n 0, 1) := by decide +kernel
theorem dX12_passes_113 : decode cX12_passes 113 = .ok (.getfield 39, 3) := by decide +kernel
theorem dX12_passes_116 : decode cX12_passes 116 = .ok (.iload_n 3, 1) := by decide +kernel
theorem dX12_passes_117 : decode cX12_passes 117 = .ok (.iconst 2, 1) := by decide +kernel
theorem dX12_passes_118 : decode cX12_passes 118 = .ok (.iadd, 1) := by decide +kernel
theorem dX12_passes_119 : decode cX12_passes 119 = .ok (.iaload, 1) := by decide +kernel
theorem dX12_passes_120 : decode cX12_passes 120 = .ok (.iconst 1, 1) := by decide +kernel
theorem dX12_passes_121 : decode cX12_passes 121 = .ok (.isub, 1) := by decide +kernel
theorem dX12_passes_122 : decode cX12_passes 122 = .ok (.istore 4, 2) := by decide +kernel
theorem dX12_passes_124 : decode cX12_passes 124 = .ok (.aload_n 0, 1) := by decide +kernel
theorem dX12_passes_125 : decode cX12_passes 125 = .ok (.getfield 39, 3) := by decide +kernel
theorem dX12_passes_128 : decode cX12_passes 128 = .ok (.iload_n 3, 1) := by decide +kernel
theorem dX12_passes_129 : decode cX12_passes 129 = .ok (.iconst 2, 1) := by decide +kernel
theorem dX12_passes_130 : decode cX12_passes 130 = .ok (.iadd, 1) := by decide +kernel
theorem dX12_passes_131 : decode cX12_passes 131 = .ok (.aload_n 0, 1) := by decide +kernel
theorem dX12_passes_132 : decode cX12_passes 132 = .ok (.iload_n 2, 1) := by decide +kernel
theorem dX12_passes_133 : decode cX12_passes 133 = .ok (.invokevirtual 309, 3) := by decide +kernel
theorem dX12_passes_136 : decode cX12_passes 136 = .ok (.ifCond .eq 19, 3) := by decide +kernel
theorem dX12_passes_139 : decode cX12_passes 139 = .ok (.aload_n 0, 1) := by decide +kernel
theorem dX12_passes_140 : decode cX12_passes 140 = .ok (.iload_n 2, 1) := by decide +kernel
theorem dX12_passes_141 : decode cX12_passes 141 = .ok (.aload_n 0, 1) := by decide +kernel
theorem dX12_passes_142 : decode cX12_passes 142 = .ok (.getfield 39, 3) := by decide +kernel
theorem dX12_passes_145 : decode cX12_passes 145 = .ok (.iload_n 3, 1) := by decide +kernel
theorem dX12_passes_146 : decode cX12_passes 146 = .ok (.iconst 2, 1) := by decide +kernel
theorem dX12_passes_147 : decode cX12_passes 147 = .ok (.iadd, 1) := by decide +kernel
theorem dX12_passes_148 : decode cX12_passes 148 = .ok (.iaload, 1) := by decide +kernel
theorem dX12_passes_149 : decode cX12_passes 149 = .ok (.invokevirtual 341, 3) := by decide +kernel
theorem dX12_passes_152 : decode cX12_passes 152 = .ok (.goto 5, 3) := by decide +kernel
theorem dX12_passes_155 : decode cX12_passes 155 = .ok (.iload 4, 2) := by decide +kernel
theorem dX12_passes_157 : decode cX12_passes 157 = .ok (.iastore, 1) := by decide +kernel
theorem dX12_passes_158 : decode cX12_passes 158 = .ok (.aload_n 0, 1) := by decide +kernel
theorem dX12_passes_159 : decode cX12_passes 159 = .ok (.getfield 39, 3) := by decide +kernel
theorem dX12_passes_162 : decode cX12_passes 162 = .ok (.iload_n 3, 1) := by decide +kernel
theorem dX12_passes_163 : decode cX12_passes 163 = .ok (.iconst 1, 1) := by decide +kernel
theorem dX12_passes_164 : decode cX12_passes 164 = .ok (.iadd, 1) := by decide +kernel
theorem dX12_passes_165 : decode cX12_passes 165 = .ok (.dup2, 1) := by decide +kernel
theorem dX12_passes_166 : decode cX12_passes 166 = .ok (.iaload, 1) := by decide +kernel
theorem dX12_passes_167 : decode cX12_passes 167 = .ok (.aload_n 0, 1) := by decide +kernel
theorem dX12_passes_168 : decode cX12_passes 168 = .ok (.getfield 39, 3) := by decide +kernel
theorem dX12_passes_171 : decode cX12_passes 171 = .ok (.iload_n 3, 1) := by decide +kernel
theorem dX12_passes_172 : decode cX12_passes 172 = .ok (.iconst 1, 1) := by decide +kernel
theorem dX12_passes_173 : decode cX12_passes 173 = .ok (.iadd, 1) := by decide +kernel
theorem dX12_passes_174 : decode cX12_passes 174 = .ok (.iaload, 1) := by decide +kernel
theorem dX12_passes_175 : decode cX12_passes 175 = .ok (.ifCond .le 7, 3) := by decide +kernel
theorem dX12_passes_178 : decode cX12_passes 178 = .ok (.iconst 1, 1) := by decide +kernel
theorem dX12_passes_179 : decode cX12_passes 179 = .ok (.goto 4, 3) := by decide +kernel
theorem dX12_passes_182 : decode cX12_passes 182 = .ok (.iconst 0, 1) := by decide +kernel
theorem dX12_passes_183 : decode cX12_passes 183 = .ok (.isub, 1) := by decide +kernel
theorem dX12_passes_184 : decode cX12_passes 184 = .ok (.iastore, 1) := by decide +kernel
theorem dX12_passes_185 : decode cX12_passes 185 = .ok (.iinc 2 1, 3) := by decide +kernel
theorem dX12_passes_188 : decode cX12_passes 188 = .ok (.goto (-108), 3) := by decide +kernel
theorem dX12_passes_191 : decode cX12_passes 191 = .ok (.aload_n 0, 1) := by decide +kernel
theorem dX12_passes_192 : decode cX12_passes 192 = .ok (.getfield 39, 3) := by decide +kernel
theorem dX12_passes_195 : decode cX12_passes 195 = .ok (.bipush 7, 2) := by decide +kernel
theorem dX12_passes_197 : decode cX12_passes 197 = .ok (.dup2, 1) := by decide +kernel
theorem dX12_passes_198 : decode cX12_passes 198 = .ok (.iaload, 1) := by decide +kernel
theorem dX12_passes_199 : decode cX12_passes 199 = .ok (.iconst 1, 1) := by decide +kernel
theorem dX12_passes_200 : decode cX12_passes 200 = .ok (.iadd, 1) := by decide +kernel
theorem dX12_passes_201 : decode cX12_passes 201 = .ok (.iastore, 1) := by decide +kernel
theorem dX12_passes_202 : decode cX12_passes 202 = .ok (.iload_n 1, 1) := by decide +kernel
theorem dX12_passes_203 : decode cX12_passes 203 = .ok (.ireturn, 1) := by decide +kernel
theorem dX12_keepsAct_0 : decode cX12_keepsAct 0 = .ok (.aload_n 0, 1) := by decide +kernel
theorem dX12_keepsAct_1 : decode cX12_keepsAct 1 = .ok (.getfield 266, 3) := by decide +kernel
theorem dX12_keepsAct_4 : decode cX12_keepsAct 4 = .ok (.bipush 20, 2) := by decide +kernel
theorem dX12_keepsAct_6 : decode cX12_keepsAct 6 = .ok (.if_icmp .ne 44, 3) := by decide +kernel
theorem dX12_keepsAct_9 : decode cX12_keepsAct 9 = .ok (.bipush 57, 2) := by decide +kernel
theorem dX12_keepsAct_11 : decode cX12_keepsAct 11 = .ok (.istore_n 1, 1) := by decide +kernel
theorem dX12_keepsAct_12 : decode cX12_keepsAct 12 = .ok (.iload_n 1, 1) := by decide +kernel
theorem dX12_keepsAct_13 : decode cX12_keepsAct 13 = .ok (.sipush 1140, 3) := by decide +kernel
theorem dX12_keepsAct_16 : decode cX12_keepsAct 16 = .ok (.if_icmp .ge 24, 3) := by decide +kernel
theorem dX12_keepsAct_19 : decode cX12_keepsAct 19 = .ok (.aload_n 0, 1) := by decide +kernel
theorem dX12_keepsAct_20 : decode cX12_keepsAct 20 = .ok (.getfield 46, 3) := by decide +kernel
theorem dX12_keepsAct_23 : decode cX12_keepsAct 23 = .ok (.iload_n 1, 1) := by decide +kernel
theorem dX12_keepsAct_24 : decode cX12_keepsAct 24 = .ok (.bipush 57, 2) := by decide +kernel
theorem dX12_keepsAct_26 : decode cX12_keepsAct 26 = .ok (.isub, 1) := by decide +kernel
