theorem kw_952 : Cond.methodLink RX10 90 yX5_howManyHeld ∈ gw := gw_of (List.mem_of_getElem? (i := 952) (by decide +kernel)) rfl
theorem kw_953 : Cond.instanceMethod yX5_howManyHeld ∈ gw := gw_of (List.mem_of_getElem? (i := 953) (by decide +kernel)) rfl
theorem kw_954 : Cond.selects RX5 yX5_howManyHeld yX5_howManyHeld ∈ gw := gw_of (List.mem_of_getElem? (i := 954) (by decide +kernel)) rfl
theorem kw_955 : Cond.code yX5_howManyHeld cX5_howManyHeld 2 (Option.some FieldType.int) ∈ gw := gw_of (List.mem_of_getElem? (i := 955) (by decide +kernel)) rfl
theorem kw_956 : Cond.methodLink RX5 52 yX5_heldBits ∈ gw := gw_of (List.mem_of_getElem? (i := 956) (by decide +kernel)) rfl
theorem kw_957 : Cond.methodLink RX5 56 yJ6_bitCount_0f7a4 ∈ gw := gw_of (List.mem_of_getElem? (i := 957) (by decide +kernel)) rfl
theorem kw_958 : Cond.static yJ6_bitCount_0f7a4 ∈ gw := gw_of (List.mem_of_getElem? (i := 958) (by decide +kernel)) rfl
theorem kw_959 : Cond.code yJ6_bitCount_0f7a4 cJ6_bitCount_0f7a4 1 (Option.some FieldType.int) ∈ gw := gw_of (List.mem_of_getElem? (i := 959) (by decide +kernel)) rfl
theorem kw_960 : Cond.constant RJ6 265 (1431655765 : Int32) ∈ gw := gw_of (List.mem_of_getElem? (i := 960) (by decide +kernel)) rfl
theorem kw_961 : Cond.constant RJ6 266 (858993459 : Int32) ∈ gw := gw_of (List.mem_of_getElem? (i := 961) (by decide +kernel)) rfl
theorem kw_962 : Cond.constant RJ6 267 (252645135 : Int32) ∈ gw := gw_of (List.mem_of_getElem? (i := 962) (by decide +kernel)) rfl
theorem kw_963 : Cond.methodLink RX1 87 yX10_turns ∈ gw := gw_of (List.mem_of_getElem? (i := 963) (by decide +kernel)) rfl
theorem kw_964 : Cond.instanceMethod yX10_turns ∈ gw := gw_of (List.mem_of_getElem? (i := 964) (by decide +kernel)) rfl
theorem kw_965 : Cond.selects RX10 yX10_turns yX10_turns ∈ gw := gw_of (List.mem_of_getElem? (i := 965) (by decide +kernel)) rfl
theorem kw_966 : Cond.code yX10_turns cX10_turns 1 (Option.some FieldType.int) ∈ gw := gw_of (List.mem_of_getElem? (i := 966) (by decide +kernel)) rfl
theorem kw_967 : Cond.methodLink RX10 109 yX10_heatIn ∈ gw := gw_of (List.mem_of_getElem? (i := 967) (by decide +kernel)) rfl
theorem kw_968 : Cond.constantLong RX10 110 (50 : Int64) ∈ gw := gw_of (List.mem_of_getElem? (i := 968) (by decide +kernel)) rfl
theorem kw_969 : Cond.methodLink RX10 112 yX10_sumByRule ∈ gw := gw_of (List.mem_of_getElem? (i := 969) (by decide +kernel)) rfl
theorem kw_971 : Cond.instanceMethod yX10_sumByRule ∈ gw := gw_of (List.mem_of_getElem? (i := 971) (by decide +kernel)) rfl
theorem kw_972 : Cond.code yX10_sumByRule cX10_sumByRule 4 (Option.some FieldType.long) ∈ gw := gw_of (List.mem_of_getElem? (i := 972) (by decide +kernel)) rfl
theorem kw_973 : Cond.methodLink RX10 121 yX10_valueOf ∈ gw := gw_of (List.mem_of_getElem? (i := 973) (by decide +kernel)) rfl
theorem kw_975 : Cond.instanceMethod yX10_valueOf ∈ gw := gw_of (List.mem_of_getElem? (i := 975) (by decide +kernel)) rfl
theorem kw_976 : Cond.code yX10_valueOf cX10_valueOf 2 (Option.some FieldType.long) ∈ gw := gw_of (List.mem_of_getElem? (i := 976) (by decide +kernel)) rfl
theorem kw_977 : Cond.methodLink RX10 125 yX10_joined ∈ gw := gw_of (List.mem_of_getElem? (i := 977) (by decide +kernel)) rfl
theorem kw_978 : Cond.static yX10_joined ∈ gw := gw_of (List.mem_of_getElem? (i := 978) (by decide +kernel)) rfl
theorem kw_979 : Cond.code yX10_joined cX10_joined 5 (Option.some FieldType.long) ∈ gw := gw_of (List.mem_of_getElem? (i := 979) (by decide +kernel)) rfl
theorem kw_980 : Cond.methodLink RX10 116 yJ9_min_f86c9 ∈ gw := gw_of (List.mem_of_getElem? (i := 980) (by decide +kernel)) rfl
theorem kw_981 : Cond.static yJ9_min_f86c9 ∈ gw := gw_of (List.mem_of_getElem? (i := 981) (by decide +kernel)) rfl
theorem kw_982 : Cond.code yJ9_min_f86c9 cJ9_min_f86c9 4 (Option.some FieldType.long) ∈ gw := gw_of (List.mem_of_getElem? (i := 982) (by decide +kernel)) rfl
theorem kw_983 : Cond.methodLink RX10 119 yJ9_max_f86c9 ∈ gw := gw_of (List.mem_of_getElem? (i := 983) (by decide +kernel)) rfl
theorem kw_984 : Cond.static yJ9_max_f86c9 ∈ gw := gw_of (List.mem_of_getElem? (i := 984) (by decide +kernel)) rfl
theorem kw_985 : Cond.code yJ9_max_f86c9 cJ9_max_f86c9 4 (Option.some FieldType.long) ∈ gw := gw_of (List.mem_of_getElem? (i := 985) (by decide +kernel)) rfl
theorem kw_986 : Cond.methodLink RX1 38 yJ9_min_7cf53 ∈ gw := gw_of (List.mem_of_getElem? (i := 986) (by decide +kernel)) rfl
theorem kw_987 : Cond.methodLink RX1 53 yX5_tire ∈ gw := gw_of (List.mem_of_getElem? (i := 987) (by decide +kernel)) rfl
theorem kw_988 : Cond.instanceMethod yX5_tire ∈ gw := gw_of (List.mem_of_getElem? (i := 988) (by decide +kernel)) rfl
theorem kw_989 : Cond.selects RX5 yX5_tire yX5_tire ∈ gw := gw_of (List.mem_of_getElem? (i := 989) (by decide +kernel)) rfl
theorem kw_990 : Cond.code yX5_tire cX5_tire 3 (Option.none : Option FieldType) ∈ gw := gw_of (List.mem_of_getElem? (i := 990) (by decide +kernel)) rfl
theorem kw_991 : Cond.methodLink RX5 80 yJ9_min_7cf53 ∈ gw := gw_of (List.mem_of_getElem? (i := 991) (by decide +kernel)) rfl
theorem kw_992 : Cond.methodLink RX5 85 yJ9_max_7cf53 ∈ gw := gw_of (List.mem_of_getElem? (i := 992) (by decide +kernel)) rfl
theorem kw_993 : Cond.static yJ9_max_7cf53 ∈ gw := gw_of (List.mem_of_getElem? (i := 993) (by decide +kernel)) rfl
theorem kw_994 : Cond.code yJ9_max_7cf53 cJ9_max_7cf53 2 (Option.some FieldType.int) ∈ gw := gw_of (List.mem_of_getElem? (i := 994) (by decide +kernel)) rfl
theorem kw_995 : Cond.methodLink RX1 60 yJ9_max_7cf53 ∈ gw := gw_of (List.mem_of_getElem? (i := 995) (by decide +kernel)) rfl
theorem kw_996 : Cond.methodLink RL 53 yX11_take ∈ gw := gw_of (List.mem_of_getElem? (i := 996) (by decide +kernel)) rfl
theorem kw_997 : Cond.instanceMethod yX11_take ∈ gw := gw_of (List.mem_of_getElem? (i := 997) (by decide +kernel)) rfl
theorem kw_998 : Cond.selects RX11 yX11_take yX11_take ∈ gw := gw_of (List.mem_of_getElem? (i := 998) (by decide +kernel)) rfl
theorem kw_999 : Cond.code yX11_take cX11_take 3 (Option.some FieldType.int) ∈ gw := gw_of (List.mem_of_getElem? (i := 999) (by decide +kernel)) rfl
theorem kw_1000 : Cond.methodLink RX11 262 yX5_canTake ∈ gw := gw_of (List.mem_of_getElem? (i := 1000) (by decide +kernel)) rfl
theorem kw_1001 : Cond.instanceMethod yX5_canTake ∈ gw := gw_of (List.mem_of_getElem? (i := 1001) (by decide +kernel)) rfl
theorem kw_1002 : Cond.selects RX5 yX5_canTake yX5_canTake ∈ gw := gw_of (List.mem_of_getElem? (i := 1002) (by decide +kernel)) rfl
theorem kw_1003 : Cond.code yX5_canTake cX5_canTake 3 (Option.some FieldType.boolean) ∈ gw := gw_of (List.mem_of_getElem? (i := 1003) (by decide +kernel)) rfl
theorem kw_1004 : Cond.methodLink RX5 68 yX5_stands ∈ gw := gw_of (List.mem_of_getElem? (i := 1004) (by decide +kernel)) rfl
theorem kw_1005 : Cond.methodLink RX5 71 yX5_canHoldMore ∈ gw := gw_of (List.mem_of_getElem? (i := 1005) (by decide +kernel)) rfl
theorem kw_1007 : Cond.instanceMethod yX5_canHoldMore ∈ gw := gw_of (List.mem_of_getElem? (i := 1007) (by decide +kernel)) rfl
theorem kw_1008 : Cond.code yX5_canHoldMore cX5_canHoldMore 2 (Option.some FieldType.boolean) ∈ gw := gw_of (List.mem_of_getElem? (i := 1008) (by decide +kernel)) rfl
theorem kw_1009 : Cond.methodLink RX5 61 yX5_isAtPlace ∈ gw := gw_of (List.mem_of_getElem? (i := 1009) (by decide +kernel)) rfl
theorem kw_1010 : Cond.methodLink RX5 65 yX5_howManyHeld ∈ gw := gw_of (List.mem_of_getElem? (i := 1010) (by decide +kernel)) rfl
theorem kw_1011 : Cond.methodLink RX11 265 yX5_giveTo ∈ gw := gw_of (List.mem_of_getElem? (i := 1011) (by decide +kernel)) rfl
theorem kw_1012 : Cond.instanceMethod yX5_giveTo ∈ gw := gw_of (List.mem_of_getElem? (i := 1012) (by decide +kernel)) rfl
theorem kw_1013 : Cond.selects RX5 yX5_giveTo yX5_giveTo ∈ gw := gw_of (List.mem_of_getElem? (i := 1013) (by decide +kernel)) rfl
theorem kw_1014 : Cond.code yX5_giveTo cX5_giveTo 3 (Option.none : Option FieldType) ∈ gw := gw_of (List.mem_of_getElem? (i := 1014) (by decide +kernel)) rfl
theorem kw_1015 : Cond.methodLink RL 57 yX11_put ∈ gw := gw_of (List.mem_of_getElem? (i := 1015) (by decide +kernel)) rfl
theorem kw_1016 : Cond.instanceMethod yX11_put ∈ gw := gw_of (List.mem_of_getElem? (i := 1016) (by decide +kernel)) rfl
theorem kw_1017 : Cond.selects RX11 yX11_put yX11_put ∈ gw := gw_of (List.mem_of_getElem? (i := 1017) (by decide +kernel)) rfl
theorem kw_1018 : Cond.code yX11_put cX11_put 3 (Option.some FieldType.int) ∈ gw := gw_of (List.mem_of_getElem? (i := 1018) (by decide +kernel)) rfl
theorem kw_1019 : Cond.methodLink RX11 269 yX5_isAtPlace ∈ gw := gw_of (List.mem_of_getElem? (i := 1019) (by decide +kernel)) rfl
theorem kw_1020 : Cond.methodLink RL 61 yX11_handOn ∈ gw := gw_of (List.mem_of_getElem? (i := 1020) (by decide +kernel)) rfl
theorem kw_1021 : Cond.instanceMethod yX11_handOn ∈ gw := gw_of (List.mem_of_getElem? (i := 1021) (by decide +kernel)) rfl
theorem kw_1022 : Cond.selects RX11 yX11_handOn yX11_handOn ∈ gw := gw_of (List.mem_of_getElem? (i := 1022) (by decide +kernel)) rfl
theorem kw_1023 : Cond.code yX11_handOn cX11_handOn 4 (Option.some FieldType.int) ∈ gw := gw_of (List.mem_of_getElem? (i := 1023) (by decide +kernel)) rfl
theorem kw_1024 : Cond.methodLink RX11 272 yX5_canGive ∈ gw := gw_of (List.mem_of_getElem? (i := 1024) (by decide +kernel)) rfl
theorem kw_1025 : Cond.instanceMethod yX5_canGive ∈ gw := gw_of (List.mem_of_getElem? (i := 1025) (by decide +kernel)) rfl
theorem kw_1026 : Cond.selects RX5 yX5_canGive yX5_canGive ∈ gw := gw_of (List.mem_of_getElem? (i := 1026) (by decide +kernel)) rfl
theorem kw_1027 : Cond.code yX5_canGive cX5_canGive 3 (Option.some FieldType.boolean) ∈ gw := gw_of (List.mem_of_getElem? (i := 1027) (by decide +kernel)) rfl
theorem kw_1028 : Cond.methodLink RL 65 yX11_go ∈ gw := gw_of (List.mem_of_getElem? (i := 1028) (by decide +kernel)) rfl
theorem kw_1029 : Cond.instanceMethod yX11_go ∈ gw := gw_of (List.mem_of_getElem? (i := 1029) (by decide +kernel)) rfl
theorem kw_1030 : Cond.selects RX11 yX11_go yX11_go ∈ gw := gw_of (List.mem_of_getElem? (i := 1030) (by decide +kernel)) rfl
theorem kw_1031 : Cond.code yX11_go cX11_go 4 (Option.some FieldType.int) ∈ gw := gw_of (List.mem_of_getElem? (i := 1031) (by decide +kernel)) rfl
theorem kw_1032 : Cond.methodLink RX11 275 yX11_isPlace ∈ gw := gw_of (List.mem_of_getElem? (i := 1032) (by decide +kernel)) rfl
theorem kw_1034 : Cond.instanceMethod yX11_isPlace ∈ gw := gw_of (List.mem_of_getElem? (i := 1034) (by decide +kernel)) rfl
theorem kw_1035 : Cond.code yX11_isPlace cX11_isPlace 2 (Option.some FieldType.boolean) ∈ gw := gw_of (List.mem_of_getElem? (i := 1035) (by decide +kernel)) rfl
theorem kw_1036 : Cond.methodLink RX11 278 yX5_roadFor ∈ gw := gw_of (List.mem_of_getElem? (i := 1036) (by decide +kernel)) rfl
theorem kw_1037 : Cond.instanceMethod yX5_roadFor ∈ gw := gw_of (List.mem_of_getElem? (i := 1037) (by decide +kernel)) rfl
theorem kw_1038 : Cond.selects RX5 yX5_roadFor yX5_roadFor ∈ gw := gw_of (List.mem_of_getElem? (i := 1038) (by decide +kernel)) rfl
theorem kw_1039 : Cond.code yX5_roadFor cX5_roadFor 4 (Option.some FieldType.int) ∈ gw := gw_of (List.mem_of_getElem? (i := 1039) (by decide +kernel)) rfl
theorem kw_1040 : Cond.methodLink RX5 74 yX8_roadHours ∈ gw := gw_of (List.mem_of_getElem? (i := 1040) (by decide +kernel)) rfl
theorem kw_1041 : Cond.methodLink RX11 282 yX5_setOut ∈ gw := gw_of (List.mem_of_getElem? (i := 1041) (by decide +kernel)) rfl
theorem kw_1042 : Cond.instanceMethod yX5_setOut ∈ gw := gw_of (List.mem_of_getElem? (i := 1042) (by decide +kernel)) rfl
theorem kw_1043 : Cond.selects RX5 yX5_setOut yX5_setOut ∈ gw := gw_of (List.mem_of_getElem? (i := 1043) (by decide +kernel)) rfl
theorem kw_1044 : Cond.code yX5_setOut cX5_setOut 4 (Option.none : Option FieldType) ∈ gw := gw_of (List.mem_of_getElem? (i := 1044) (by decide +kernel)) rfl
theorem kw_1045 : Cond.methodLink RL 69 yX11_meet ∈ gw := gw_of (List.mem_of_getElem? (i := 1045) (by decide +kernel)) rfl
theorem kw_1046 : Cond.instanceMethod yX11_meet ∈ gw := gw_of (List.mem_of_getElem? (i := 1046) (by decide +kernel)) rfl
theorem kw_1047 : Cond.selects RX11 yX11_meet yX11_meet ∈ gw := gw_of (List.mem_of_getElem? (i := 1047) (by decide +kernel)) rfl
theorem kw_1048 : Cond.code yX11_meet cX11_meet 3 (Option.some FieldType.int) ∈ gw := gw_of (List.mem_of_getElem? (i := 1048) (by decide +kernel)) rfl
theorem kw_1049 : Cond.methodLink RL 73 yX11_undo ∈ gw := gw_of (List.mem_of_getElem? (i := 1049) (by decide +kernel)) rfl
theorem kw_1050 : Cond.instanceMethod yX11_undo ∈ gw := gw_of (List.mem_of_getElem? (i := 1050) (by decide +kernel)) rfl
theorem kw_1051 : Cond.selects RX11 yX11_undo yX11_undo ∈ gw := gw_of (List.mem_of_getElem? (i := 1051) (by decide +kernel)) rfl
theorem kw_1052 : Cond.code yX11_undo cX11_undo 1 (Option.some FieldType.int) ∈ gw := gw_of (List.mem_of_getElem? (i := 1052) (by decide +kernel)) rfl
theorem kw_1053 : Cond.methodLink RL 77 yX11_ahead ∈ gw := gw_of (List.mem_of_getElem? (i := 1053) (by decide +kernel)) rfl
theorem kw_1054 : Cond.instanceMethod yX11_ahead ∈ gw := gw_of (List.mem_of_getElem? (i := 1054) (by decide +kernel)) rfl
theorem kw_1055 : Cond.selects RX11 yX11_ahead yX11_ahead ∈ gw := gw_of (List.mem_of_getElem? (i := 1055) (by decide +kernel)) rfl
theorem kw_1056 : Cond.code yX11_ahead cX11_ahead 5 (Option.some FieldType.int) ∈ gw := gw_of (List.mem_of_getElem? (i := 1056) (by decide +kernel)) rfl
theorem kw_1057 : Cond.methodLink RX11 289 yX1_passSeveral ∈ gw := gw_of (List.mem_of_getElem? (i := 1057) (by decide +kernel)) rfl
theorem kw_1058 : Cond.instanceMethod yX1_passSeveral ∈ gw := gw_of (List.mem_of_getElem? (i := 1058) (by decide +kernel)) rfl
theorem kw_1059 : Cond.selects RX1 yX1_passSeveral yX1_passSeveral ∈ gw := gw_of (List.mem_of_getElem? (i := 1059) (by decide +kernel)) rfl
theorem kw_1060 : Cond.code yX1_passSeveral cX1_passSeveral 4 (Option.none : Option FieldType) ∈ gw := gw_of (List.mem_of_getElem? (i := 1060) (by decide +kernel)) rfl
theorem kw_1061 : Cond.methodLink RX1 91 yX1_pass ∈ gw := gw_of (List.mem_of_getElem? (i := 1061) (by decide +kernel)) rfl
theorem kw_1062 : Cond.methodLink RL 82 yX11_way ∈ gw := gw_of (List.mem_of_getElem? (i := 1062) (by decide +kernel)) rfl
theorem kw_1063 : Cond.instanceMethod yX11_way ∈ gw := gw_of (List.mem_of_getElem? (i := 1063) (by decide +kernel)) rfl
theorem kw_1064 : Cond.selects RX11 yX11_way yX11_way ∈ gw := gw_of (List.mem_of_getElem? (i := 1064) (by decide +kernel)) rfl
theorem kw_1065 : Cond.code yX11_way cX11_way 4 (Option.some FieldType.int) ∈ gw := gw_of (List.mem_of_getElem? (i := 1065) (by decide +kernel)) rfl
theorem kw_1066 : Cond.methodLink RX11 293 yX8_hasWay ∈ gw := gw_of (List.mem_of_getElem? (i := 1066) (by decide +kernel)) rfl
theorem kw_1067 : Cond.instanceMethod yX8_hasWay ∈ gw := gw_of (List.mem_of_getElem? (i := 1067) (by decide +kernel)) rfl
theorem kw_1068 : Cond.selects RX8 yX8_hasWay yX8_hasWay ∈ gw := gw_of (List.mem_of_getElem? (i := 1068) (by decide +kernel)) rfl
theorem kw_1069 : Cond.code yX8_hasWay cX8_hasWay 3 (Option.some FieldType.boolean) ∈ gw := gw_of (List.mem_of_getElem? (i := 1069) (by decide +kernel)) rfl
theorem kw_1070 : Cond.methodLink RX11 296 yX8_wayHours ∈ gw := gw_of (List.mem_of_getElem? (i := 1070) (by decide +kernel)) rfl
theorem kw_1071 : Cond.instanceMethod yX8_wayHours ∈ gw := gw_of (List.mem_of_getElem? (i := 1071) (by decide +kernel)) rfl
theorem kw_1072 : Cond.selects RX8 yX8_wayHours yX8_wayHours ∈ gw := gw_of (List.mem_of_getElem? (i := 1072) (by decide +kernel)) rfl
theorem kw_1073 : Cond.code yX8_wayHours cX8_wayHours 3 (Option.some FieldType.int) ∈ gw := gw_of (List.mem_of_getElem? (i := 1073) (by decide +kernel)) rfl
theorem kw_1074 : Cond.methodLink RX11 299 yX8_nextPlace ∈ gw := gw_of (List.mem_of_getElem? (i := 1074) (by decide +kernel)) rfl
theorem kw_1075 : Cond.instanceMethod yX8_nextPlace ∈ gw := gw_of (List.mem_of_getElem? (i := 1075) (by decide +kernel)) rfl
theorem kw_1076 : Cond.selects RX8 yX8_nextPlace yX8_nextPlace ∈ gw := gw_of (List.mem_of_getElem? (i := 1076) (by decide +kernel)) rfl
theorem kw_1077 : Cond.code yX8_nextPlace cX8_nextPlace 5 (Option.some FieldType.int) ∈ gw := gw_of (List.mem_of_getElem? (i := 1077) (by decide +kernel)) rfl
theorem kw_1078 : Cond.methodLink RX8 94 yX8_wayHours ∈ gw := gw_of (List.mem_of_getElem? (i := 1078) (by decide +kernel)) rfl
theorem kw_1079 : Cond.methodLink RL 86 yX11_brings ∈ gw := gw_of (List.mem_of_getElem? (i := 1079) (by decide +kernel)) rfl
theorem kw_1080 : Cond.instanceMethod yX11_brings ∈ gw := gw_of (List.mem_of_getElem? (i := 1080) (by decide +kernel)) rfl
theorem kw_1081 : Cond.selects RX11 yX11_brings yX11_brings ∈ gw := gw_of (List.mem_of_getElem? (i := 1081) (by decide +kernel)) rfl
theorem kw_1082 : Cond.code yX11_brings cX11_brings 5 (Option.some FieldType.int) ∈ gw := gw_of (List.mem_of_getElem? (i := 1082) (by decide +kernel)) rfl
theorem kw_1083 : Cond.methodLink RX11 302 yX11_isStandingJug ∈ gw := gw_of (List.mem_of_getElem? (i := 1083) (by decide +kernel)) rfl
theorem kw_1085 : Cond.instanceMethod yX11_isStandingJug ∈ gw := gw_of (List.mem_of_getElem? (i := 1085) (by decide +kernel)) rfl
theorem kw_1086 : Cond.code yX11_isStandingJug cX11_isStandingJug 2 (Option.some FieldType.boolean) ∈ gw := gw_of (List.mem_of_getElem? (i := 1086) (by decide +kernel)) rfl
theorem kw_1087 : Cond.methodLink RX11 178 yX5_stands ∈ gw := gw_of (List.mem_of_getElem? (i := 1087) (by decide +kernel)) rfl
theorem kw_1088 : Cond.methodLink RX11 305 yX10_suppose ∈ gw := gw_of (List.mem_of_getElem? (i := 1088) (by decide +kernel)) rfl
theorem kw_1089 : Cond.instanceMethod yX10_suppose ∈ gw := gw_of (List.mem_of_getElem? (i := 1089) (by decide +kernel)) rfl
theorem kw_1090 : Cond.selects RX10 yX10_suppose yX10_suppose ∈ gw := gw_of (List.mem_of_getElem? (i := 1090) (by decide +kernel)) rfl
theorem kw_1091 : Cond.code yX10_suppose cX10_suppose 5 (Option.none : Option FieldType) ∈ gw := gw_of (List.mem_of_getElem? (i := 1091) (by decide +kernel)) rfl
theorem kw_1092 : Cond.methodLink RX11 312 yX10_holdFor ∈ gw := gw_of (List.mem_of_getElem? (i := 1092) (by decide +kernel)) rfl
theorem kw_1093 : Cond.instanceMethod yX10_holdFor ∈ gw := gw_of (List.mem_of_getElem? (i := 1093) (by decide +kernel)) rfl
theorem kw_1094 : Cond.selects RX10 yX10_holdFor yX10_holdFor ∈ gw := gw_of (List.mem_of_getElem? (i := 1094) (by decide +kernel)) rfl
theorem kw_1095 : Cond.code yX10_holdFor cX10_holdFor 3 (Option.none : Option FieldType) ∈ gw := gw_of (List.mem_of_getElem? (i := 1095) (by decide +kernel)) rfl
theorem kw_1096 : Cond.methodLink RX10 93 yX10_turns ∈ gw := gw_of (List.mem_of_getElem? (i := 1096) (by decide +kernel)) rfl
theorem kw_1097 : Cond.methodLink RX10 97 yJ9_min_7cf53 ∈ gw := gw_of (List.mem_of_getElem? (i := 1097) (by decide +kernel)) rfl
theorem kw_1098 : Cond.methodLink RL 90 yX11_relay ∈ gw := gw_of (List.mem_of_getElem? (i := 1098) (by decide +kernel)) rfl
theorem kw_1099 : Cond.instanceMethod yX11_relay ∈ gw := gw_of (List.mem_of_getElem? (i := 1099) (by decide +kernel)) rfl
theorem kw_1100 : Cond.selects RX11 yX11_relay yX11_relay ∈ gw := gw_of (List.mem_of_getElem? (i := 1100) (by decide +kernel)) rfl
theorem kw_1101 : Cond.code yX11_relay cX11_relay 7 (Option.some FieldType.int) ∈ gw := gw_of (List.mem_of_getElem? (i := 1101) (by decide +kernel)) rfl
theorem kw_1102 : Cond.methodLink RX11 318 yX11_isTurned ∈ gw := gw_of (List.mem_of_getElem? (i := 1102) (by decide +kernel)) rfl
theorem kw_1103 : Cond.static yX11_isTurned ∈ gw := gw_of (List.mem_of_getElem? (i := 1103) (by decide +kernel)) rfl
theorem kw_1104 : Cond.code yX11_isTurned cX11_isTurned 1 (Option.some FieldType.boolean) ∈ gw := gw_of (List.mem_of_getElem? (i := 1104) (by decide +kernel)) rfl
theorem kw_1105 : Cond.methodLink RX11 321 yX2_setOut ∈ gw := gw_of (List.mem_of_getElem? (i := 1105) (by decide +kernel)) rfl
theorem kw_1106 : Cond.instanceMethod yX2_setOut ∈ gw := gw_of (List.mem_of_getElem? (i := 1106) (by decide +kernel)) rfl
theorem kw_1107 : Cond.selects RX2 yX2_setOut yX2_setOut ∈ gw := gw_of (List.mem_of_getElem? (i := 1107) (by decide +kernel)) rfl
theorem kw_1108 : Cond.code yX2_setOut cX2_setOut 8 (Option.none : Option FieldType) ∈ gw := gw_of (List.mem_of_getElem? (i := 1108) (by decide +kernel)) rfl
theorem kw_1109 : Cond.methodLink RX2 42 yX8_nextPlace ∈ gw := gw_of (List.mem_of_getElem? (i := 1109) (by decide +kernel)) rfl
theorem kw_1110 : Cond.methodLink RX2 48 yX8_roadHours ∈ gw := gw_of (List.mem_of_getElem? (i := 1110) (by decide +kernel)) rfl
theorem kw_1111 : Cond.methodLink RX2 51 yJ9_min_7cf53 ∈ gw := gw_of (List.mem_of_getElem? (i := 1111) (by decide +kernel)) rfl
theorem kw_1112 : Cond.methodLink RX11 323 yX2_solve ∈ gw := gw_of (List.mem_of_getElem? (i := 1112) (by decide +kernel)) rfl
theorem kw_1113 : Cond.instanceMethod yX2_solve ∈ gw := gw_of (List.mem_of_getElem? (i := 1113) (by decide +kernel)) rfl
theorem kw_1114 : Cond.selects RX2 yX2_solve yX2_solve ∈ gw := gw_of (List.mem_of_getElem? (i := 1114) (by decide +kernel)) rfl
theorem kw_1115 : Cond.code yX2_solve cX2_solve 4 (Option.none : Option FieldType) ∈ gw := gw_of (List.mem_of_getElem? (i := 1115) (by decide +kernel)) rfl
theorem kw_1116 : Cond.methodLink RX2 65 yJ7_fill_fda19 ∈ gw := gw_of (List.mem_of_getElem? (i := 1116) (by decide +kernel)) rfl
theorem kw_1117 : Cond.static yJ7_fill_fda19 ∈ gw := gw_of (List.mem_of_getElem? (i := 1117) (by decide +kernel)) rfl
theorem kw_1118 : Cond.code yJ7_fill_fda19 cJ7_fill_fda19 5 (Option.none : Option FieldType) ∈ gw := gw_of (List.mem_of_getElem? (i := 1118) (by decide +kernel)) rfl
theorem kw_1119 : Cond.methodLink RJ7 13 yJ7_rangeCheck_23922 ∈ gw := gw_of (List.mem_of_getElem? (i := 1119) (by decide +kernel)) rfl
theorem kw_1120 : Cond.static yJ7_rangeCheck_23922 ∈ gw := gw_of (List.mem_of_getElem? (i := 1120) (by decide +kernel)) rfl
theorem kw_1121 : Cond.code yJ7_rangeCheck_23922 cJ7_rangeCheck_23922 3 (Option.none : Option FieldType) ∈ gw := gw_of (List.mem_of_getElem? (i := 1121) (by decide +kernel)) rfl
theorem kw_1122 : Cond.methodLink RX2 71 yX2_visit ∈ gw := gw_of (List.mem_of_getElem? (i := 1122) (by decide +kernel)) rfl
theorem kw_1124 : Cond.instanceMethod yX2_visit ∈ gw := gw_of (List.mem_of_getElem? (i := 1124) (by decide +kernel)) rfl
theorem kw_1125 : Cond.code yX2_visit cX2_visit 8 (Option.none : Option FieldType) ∈ gw := gw_of (List.mem_of_getElem? (i := 1125) (by decide +kernel)) rfl
theorem kw_1126 : Cond.methodLink RX2 92 yX2_carried ∈ gw := gw_of (List.mem_of_getElem? (i := 1126) (by decide +kernel)) rfl
theorem kw_1128 : Cond.instanceMethod yX2_carried ∈ gw := gw_of (List.mem_of_getElem? (i := 1128) (by decide +kernel)) rfl
theorem kw_1129 : Cond.code yX2_carried cX2_carried 4 (Option.some FieldType.int) ∈ gw := gw_of (List.mem_of_getElem? (i := 1129) (by decide +kernel)) rfl
theorem kw_1130 : Cond.methodLink RX2 75 yX10_suppose ∈ gw := gw_of (List.mem_of_getElem? (i := 1130) (by decide +kernel)) rfl
theorem kw_1131 : Cond.methodLink RX2 82 yX10_holdFor ∈ gw := gw_of (List.mem_of_getElem? (i := 1131) (by decide +kernel)) rfl
theorem kw_1132 : Cond.methodLink RX11 326 yX2_howMany ∈ gw := gw_of (List.mem_of_getElem? (i := 1132) (by decide +kernel)) rfl
theorem kw_1133 : Cond.instanceMethod yX2_howMany ∈ gw := gw_of (List.mem_of_getElem? (i := 1133) (by decide +kernel)) rfl
theorem kw_1134 : Cond.selects RX2 yX2_howMany yX2_howMany ∈ gw := gw_of (List.mem_of_getElem? (i := 1134) (by decide +kernel)) rfl
theorem kw_1135 : Cond.code yX2_howMany cX2_howMany 1 (Option.some FieldType.int) ∈ gw := gw_of (List.mem_of_getElem? (i := 1135) (by decide +kernel)) rfl
theorem kw_1136 : Cond.methodLink RX11 330 yX2_leastTurned ∈ gw := gw_of (List.mem_of_getElem? (i := 1136) (by decide +kernel)) rfl
theorem kw_1137 : Cond.instanceMethod yX2_leastTurned ∈ gw := gw_of (List.mem_of_getElem? (i := 1137) (by decide +kernel)) rfl
theorem kw_1138 : Cond.selects RX2 yX2_leastTurned yX2_leastTurned ∈ gw := gw_of (List.mem_of_getElem? (i := 1138) (by decide +kernel)) rfl
theorem kw_1139 : Cond.code yX2_leastTurned cX2_leastTurned 1 (Option.some FieldType.int) ∈ gw := gw_of (List.mem_of_getElem? (i := 1139) (by decide +kernel)) rfl
theorem kw_1140 : Cond.methodLink RX11 333 yX2_handOfFirst ∈ gw := gw_of (List.mem_of_getElem? (i := 1140) (by decide +kernel)) rfl
theorem kw_1141 : Cond.instanceMethod yX2_handOfFirst ∈ gw := gw_of (List.mem_of_getElem? (i := 1141) (by decide +kernel)) rfl
theorem kw_1142 : Cond.selects RX2 yX2_handOfFirst yX2_handOfFirst ∈ gw := gw_of (List.mem_of_getElem? (i := 1142) (by decide +kernel)) rfl
theorem kw_1143 : Cond.code yX2_handOfFirst cX2_handOfFirst 4 (Option.some FieldType.int) ∈ gw := gw_of (List.mem_of_getElem? (i := 1143) (by decide +kernel)) rfl
theorem kw_1144 : Cond.methodLink RX2 96 yX2_howMany ∈ gw := gw_of (List.mem_of_getElem? (i := 1144) (by decide +kernel)) rfl
theorem kw_1145 : Cond.methodLink RX2 100 yX2_firstHand ∈ gw := gw_of (List.mem_of_getElem? (i := 1145) (by decide +kernel)) rfl
theorem kw_1147 : Cond.instanceMethod yX2_firstHand ∈ gw := gw_of (List.mem_of_getElem? (i := 1147) (by decide +kernel)) rfl
theorem kw_1148 : Cond.code yX2_firstHand cX2_firstHand 4 (Option.some FieldType.int) ∈ gw := gw_of (List.mem_of_getElem? (i := 1148) (by decide +kernel)) rfl
theorem kw_1149 : Cond.methodLink RL 94 yX11_match ∈ gw := gw_of (List.mem_of_getElem? (i := 1149) (by decide +kernel)) rfl
theorem kw_1150 : Cond.instanceMethod yX11_match ∈ gw := gw_of (List.mem_of_getElem? (i := 1150) (by decide +kernel)) rfl
theorem kw_1151 : Cond.selects RX11 yX11_match yX11_match ∈ gw := gw_of (List.mem_of_getElem? (i := 1151) (by decide +kernel)) rfl
theorem kw_1152 : Cond.code yX11_match cX11_match 2 (Option.some FieldType.int) ∈ gw := gw_of (List.mem_of_getElem? (i := 1152) (by decide +kernel)) rfl
theorem kw_1153 : Cond.methodLink RX11 336 yX6_matchWants ∈ gw := gw_of (List.mem_of_getElem? (i := 1153) (by decide +kernel)) rfl
theorem kw_1154 : Cond.instanceMethod yX6_matchWants ∈ gw := gw_of (List.mem_of_getElem? (i := 1154) (by decide +kernel)) rfl
theorem kw_1155 : Cond.selects RX6 yX6_matchWants yX6_matchWants ∈ gw := gw_of (List.mem_of_getElem? (i := 1155) (by decide +kernel)) rfl
theorem kw_1156 : Cond.code yX6_matchWants cX6_matchWants 6 (Option.none : Option FieldType) ∈ gw := gw_of (List.mem_of_getElem? (i := 1156) (by decide +kernel)) rfl
theorem kw_1157 : Cond.methodLink RX6 22 yJ7_fill_53178 ∈ gw := gw_of (List.mem_of_getElem? (i := 1157) (by decide +kernel)) rfl
theorem kw_1158 : Cond.methodLink RX6 34 yX6_payWith ∈ gw := gw_of (List.mem_of_getElem? (i := 1158) (by decide +kernel)) rfl
theorem kw_1160 : Cond.instanceMethod yX6_payWith ∈ gw := gw_of (List.mem_of_getElem? (i := 1160) (by decide +kernel)) rfl
theorem kw_1161 : Cond.code yX6_payWith cX6_payWith 7 (Option.some FieldType.int) ∈ gw := gw_of (List.mem_of_getElem? (i := 1161) (by decide +kernel)) rfl
theorem kw_1162 : Cond.methodLink RX6 47 yX5_isGone ∈ gw := gw_of (List.mem_of_getElem? (i := 1162) (by decide +kernel)) rfl
theorem kw_1163 : Cond.methodLink RX6 59 yX8_suits ∈ gw := gw_of (List.mem_of_getElem? (i := 1163) (by decide +kernel)) rfl
theorem kw_1164 : Cond.methodLink RX6 41 yJ9_max_7cf53 ∈ gw := gw_of (List.mem_of_getElem? (i := 1164) (by decide +kernel)) rfl
theorem kw_1165 : Cond.methodLink RX11 339 yX6_mostPay ∈ gw := gw_of (List.mem_of_getElem? (i := 1165) (by decide +kernel)) rfl
theorem kw_1166 : Cond.instanceMethod yX6_mostPay ∈ gw := gw_of (List.mem_of_getElem? (i := 1166) (by decide +kernel)) rfl
theorem kw_1167 : Cond.selects RX6 yX6_mostPay yX6_mostPay ∈ gw := gw_of (List.mem_of_getElem? (i := 1167) (by decide +kernel)) rfl
theorem kw_1168 : Cond.code yX6_mostPay cX6_mostPay 1 (Option.some FieldType.int) ∈ gw := gw_of (List.mem_of_getElem? (i := 1168) (by decide +kernel)) rfl
theorem kw_1169 : Cond.methodLink RX11 342 yX6_jugOfWant ∈ gw := gw_of (List.mem_of_getElem? (i := 1169) (by decide +kernel)) rfl
theorem kw_1170 : Cond.instanceMethod yX6_jugOfWant ∈ gw := gw_of (List.mem_of_getElem? (i := 1170) (by decide +kernel)) rfl
theorem kw_1171 : Cond.selects RX6 yX6_jugOfWant yX6_jugOfWant ∈ gw := gw_of (List.mem_of_getElem? (i := 1171) (by decide +kernel)) rfl
theorem kw_1172 : Cond.code yX6_jugOfWant cX6_jugOfWant 6 (Option.some FieldType.int) ∈ gw := gw_of (List.mem_of_getElem? (i := 1172) (by decide +kernel)) rfl
theorem kw_1173 : Cond.methodLink RX6 66 yX6_firstBest ∈ gw := gw_of (List.mem_of_getElem? (i := 1173) (by decide +kernel)) rfl
theorem kw_1175 : Cond.instanceMethod yX6_firstBest ∈ gw := gw_of (List.mem_of_getElem? (i := 1175) (by decide +kernel)) rfl
theorem kw_1176 : Cond.code yX6_firstBest cX6_firstBest 5 (Option.some FieldType.int) ∈ gw := gw_of (List.mem_of_getElem? (i := 1176) (by decide +kernel)) rfl
theorem kw_1177 : Cond.methodLink RL 98 yX11_rest ∈ gw := gw_of (List.mem_of_getElem? (i := 1177) (by decide +kernel)) rfl
theorem kw_1178 : Cond.instanceMethod yX11_rest ∈ gw := gw_of (List.mem_of_getElem? (i := 1178) (by decide +kernel)) rfl
theorem kw_1179 : Cond.selects RX11 yX11_rest yX11_rest ∈ gw := gw_of (List.mem_of_getElem? (i := 1179) (by decide +kernel)) rfl
theorem kw_1180 : Cond.code yX11_rest cX11_rest 9 (Option.some FieldType.int) ∈ gw := gw_of (List.mem_of_getElem? (i := 1180) (by decide +kernel)) rfl
theorem kw_1181 : Cond.constant RX11 346 (2147483647 : Int32) ∈ gw := gw_of (List.mem_of_getElem? (i := 1181) (by decide +kernel)) rfl
theorem kw_1182 : Cond.methodLink RX11 347 yJ6_bitCount_0f7a4 ∈ gw := gw_of (List.mem_of_getElem? (i := 1182) (by decide +kernel)) rfl
theorem kw_1183 : Cond.methodLink RX11 352 yX9_turnedByTurns ∈ gw := gw_of (List.mem_of_getElem? (i := 1183) (by decide +kernel)) rfl
theorem kw_1184 : Cond.instanceMethod yX9_turnedByTurns ∈ gw := gw_of (List.mem_of_getElem? (i := 1184) (by decide +kernel)) rfl
theorem kw_1185 : Cond.selects RX9 yX9_turnedByTurns yX9_turnedByTurns ∈ gw := gw_of (List.mem_of_getElem? (i := 1185) (by decide +kernel)) rfl
theorem kw_1186 : Cond.code yX9_turnedByTurns cX9_turnedByTurns 5 (Option.some FieldType.int) ∈ gw := gw_of (List.mem_of_getElem? (i := 1186) (by decide +kernel)) rfl
theorem kw_1187 : Cond.methodLink RX9 35 yX10_suppose ∈ gw := gw_of (List.mem_of_getElem? (i := 1187) (by decide +kernel)) rfl
theorem kw_1188 : Cond.methodLink RX9 53 yX10_holdFor ∈ gw := gw_of (List.mem_of_getElem? (i := 1188) (by decide +kernel)) rfl
theorem kw_1189 : Cond.methodLink RX9 57 yX10_restAnHour ∈ gw := gw_of (List.mem_of_getElem? (i := 1189) (by decide +kernel)) rfl
theorem kw_1190 : Cond.instanceMethod yX10_restAnHour ∈ gw := gw_of (List.mem_of_getElem? (i := 1190) (by decide +kernel)) rfl
theorem kw_1191 : Cond.selects RX10 yX10_restAnHour yX10_restAnHour ∈ gw := gw_of (List.mem_of_getElem? (i := 1191) (by decide +kernel)) rfl
theorem kw_1192 : Cond.code yX10_restAnHour cX10_restAnHour 1 (Option.none : Option FieldType) ∈ gw := gw_of (List.mem_of_getElem? (i := 1192) (by decide +kernel)) rfl
theorem kw_1193 : Cond.methodLink RX10 106 yJ9_max_7cf53 ∈ gw := gw_of (List.mem_of_getElem? (i := 1193) (by decide +kernel)) rfl
theorem kw_1194 : Cond.methodLink RL 103 yX11_test ∈ gw := gw_of (List.mem_of_getElem? (i := 1194) (by decide +kernel)) rfl
theorem kw_1195 : Cond.instanceMethod yX11_test ∈ gw := gw_of (List.mem_of_getElem? (i := 1195) (by decide +kernel)) rfl
theorem kw_1196 : Cond.selects RX11 yX11_test yX11_test ∈ gw := gw_of (List.mem_of_getElem? (i := 1196) (by decide +kernel)) rfl
theorem kw_1197 : Cond.code yX11_test cX11_test 5 (Option.some FieldType.int) ∈ gw := gw_of (List.mem_of_getElem? (i := 1197) (by decide +kernel)) rfl
theorem kw_1198 : Cond.methodLink RX11 356 yX4_addTest ∈ gw := gw_of (List.mem_of_getElem? (i := 1198) (by decide +kernel)) rfl
theorem kw_1199 : Cond.instanceMethod yX4_addTest ∈ gw := gw_of (List.mem_of_getElem? (i := 1199) (by decide +kernel)) rfl
theorem kw_1200 : Cond.selects RX4 yX4_addTest yX4_addTest ∈ gw := gw_of (List.mem_of_getElem? (i := 1200) (by decide +kernel)) rfl
theorem kw_1201 : Cond.code yX4_addTest cX4_addTest 5 (Option.none : Option FieldType) ∈ gw := gw_of (List.mem_of_getElem? (i := 1201) (by decide +kernel)) rfl
theorem kw_1202 : Cond.methodLink RL 107 yX11_who ∈ gw := gw_of (List.mem_of_getElem? (i := 1202) (by decide +kernel)) rfl
theorem kw_1203 : Cond.instanceMethod yX11_who ∈ gw := gw_of (List.mem_of_getElem? (i := 1203) (by decide +kernel)) rfl
theorem kw_1204 : Cond.selects RX11 yX11_who yX11_who ∈ gw := gw_of (List.mem_of_getElem? (i := 1204) (by decide +kernel)) rfl
theorem kw_1205 : Cond.code yX11_who cX11_who 3 (Option.some FieldType.int) ∈ gw := gw_of (List.mem_of_getElem? (i := 1205) (by decide +kernel)) rfl
theorem kw_1206 : Cond.methodLink RX11 359 yX9_handsByTests ∈ gw := gw_of (List.mem_of_getElem? (i := 1206) (by decide +kernel)) rfl
theorem kw_1207 : Cond.instanceMethod yX9_handsByTests ∈ gw := gw_of (List.mem_of_getElem? (i := 1207) (by decide +kernel)) rfl
theorem kw_1208 : Cond.selects RX9 yX9_handsByTests yX9_handsByTests ∈ gw := gw_of (List.mem_of_getElem? (i := 1208) (by decide +kernel)) rfl
theorem kw_1209 : Cond.code yX9_handsByTests cX9_handsByTests 3 (Option.some FieldType.int) ∈ gw := gw_of (List.mem_of_getElem? (i := 1209) (by decide +kernel)) rfl
theorem kw_1210 : Cond.methodLink RX9 72 yX9_passesAll ∈ gw := gw_of (List.mem_of_getElem? (i := 1210) (by decide +kernel)) rfl
theorem kw_1212 : Cond.instanceMethod yX9_passesAll ∈ gw := gw_of (List.mem_of_getElem? (i := 1212) (by decide +kernel)) rfl
theorem kw_1213 : Cond.code yX9_passesAll cX9_passesAll 3 (Option.some FieldType.boolean) ∈ gw := gw_of (List.mem_of_getElem? (i := 1213) (by decide +kernel)) rfl
theorem kw_1214 : Cond.methodLink RX11 362 yJ6_numberOfTrailingZeros_0f7a4 ∈ gw := gw_of (List.mem_of_getElem? (i := 1214) (by decide +kernel)) rfl
theorem kw_1215 : Cond.static yJ6_numberOfTrailingZeros_0f7a4 ∈ gw := gw_of (List.mem_of_getElem? (i := 1215) (by decide +kernel)) rfl
theorem kw_1216 : Cond.code yJ6_numberOfTrailingZeros_0f7a4 cJ6_numberOfTrailingZeros_0f7a4 2 (Option.some FieldType.int) ∈ gw := gw_of (List.mem_of_getElem? (i := 1216) (by decide +kernel)) rfl
theorem kw_1217 : Cond.constant RJ6 264 (65536 : Int32) ∈ gw := gw_of (List.mem_of_getElem? (i := 1217) (by decide +kernel)) rfl
theorem kw_1218 : Cond.methodLink RL 111 yX11_probe ∈ gw := gw_of (List.mem_of_getElem? (i := 1218) (by decide +kernel)) rfl
theorem kw_1219 : Cond.instanceMethod yX11_probe ∈ gw := gw_of (List.mem_of_getElem? (i := 1219) (by decide +kernel)) rfl
theorem kw_1220 : Cond.selects RX11 yX11_probe yX11_probe ∈ gw := gw_of (List.mem_of_getElem? (i := 1220) (by decide +kernel)) rfl
theorem kw_1221 : Cond.code yX11_probe cX11_probe 3 (Option.some FieldType.int) ∈ gw := gw_of (List.mem_of_getElem? (i := 1221) (by decide +kernel)) rfl
theorem kw_1222 : Cond.methodLink RX11 365 yX9_findBestProbe ∈ gw := gw_of (List.mem_of_getElem? (i := 1222) (by decide +kernel)) rfl
theorem kw_1223 : Cond.instanceMethod yX9_findBestProbe ∈ gw := gw_of (List.mem_of_getElem? (i := 1223) (by decide +kernel)) rfl
theorem kw_1224 : Cond.selects RX9 yX9_findBestProbe yX9_findBestProbe ∈ gw := gw_of (List.mem_of_getElem? (i := 1224) (by decide +kernel)) rfl
theorem kw_1225 : Cond.code yX9_findBestProbe cX9_findBestProbe 4 (Option.none : Option FieldType) ∈ gw := gw_of (List.mem_of_getElem? (i := 1225) (by decide +kernel)) rfl
theorem kw_1226 : Cond.methodLink RX9 94 yX9_mostAlike ∈ gw := gw_of (List.mem_of_getElem? (i := 1226) (by decide +kernel)) rfl
theorem kw_1228 : Cond.instanceMethod yX9_mostAlike ∈ gw := gw_of (List.mem_of_getElem? (i := 1228) (by decide +kernel)) rfl
theorem kw_1229 : Cond.code yX9_mostAlike cX9_mostAlike 8 (Option.some FieldType.int) ∈ gw := gw_of (List.mem_of_getElem? (i := 1229) (by decide +kernel)) rfl
theorem kw_1230 : Cond.methodLink RX9 101 yJ9_max_7cf53 ∈ gw := gw_of (List.mem_of_getElem? (i := 1230) (by decide +kernel)) rfl
theorem kw_1231 : Cond.methodLink RL 115 yX11_rows ∈ gw := gw_of (List.mem_of_getElem? (i := 1231) (by decide +kernel)) rfl
theorem kw_1232 : Cond.instanceMethod yX11_rows ∈ gw := gw_of (List.mem_of_getElem? (i := 1232) (by decide +kernel)) rfl
theorem kw_1233 : Cond.selects RX11 yX11_rows yX11_rows ∈ gw := gw_of (List.mem_of_getElem? (i := 1233) (by decide +kernel)) rfl
theorem kw_1234 : Cond.code yX11_rows cX11_rows 8 (Option.some FieldType.int) ∈ gw := gw_of (List.mem_of_getElem? (i := 1234) (by decide +kernel)) rfl
theorem kw_1235 : Cond.methodLink RX11 374 yX6_countRows ∈ gw := gw_of (List.mem_of_getElem? (i := 1235) (by decide +kernel)) rfl
theorem kw_1236 : Cond.instanceMethod yX6_countRows ∈ gw := gw_of (List.mem_of_getElem? (i := 1236) (by decide +kernel)) rfl
theorem kw_1237 : Cond.selects RX6 yX6_countRows yX6_countRows ∈ gw := gw_of (List.mem_of_getElem? (i := 1237) (by decide +kernel)) rfl
theorem kw_1238 : Cond.code yX6_countRows cX6_countRows 8 (Option.none : Option FieldType) ∈ gw := gw_of (List.mem_of_getElem? (i := 1238) (by decide +kernel)) rfl
theorem kw_1239 : Cond.methodLink RX6 70 yJ7_fill_fda19 ∈ gw := gw_of (List.mem_of_getElem? (i := 1239) (by decide +kernel)) rfl
theorem kw_1240 : Cond.methodLink RX6 79 yX6_rowsOf ∈ gw := gw_of (List.mem_of_getElem? (i := 1240) (by decide +kernel)) rfl
theorem kw_1241 : Cond.instanceMethod yX6_rowsOf ∈ gw := gw_of (List.mem_of_getElem? (i := 1241) (by decide +kernel)) rfl
theorem kw_1242 : Cond.selects RX6 yX6_rowsOf yX6_rowsOf ∈ gw := gw_of (List.mem_of_getElem? (i := 1242) (by decide +kernel)) rfl
theorem kw_1243 : Cond.code yX6_rowsOf cX6_rowsOf 3 (Option.some FieldType.int) ∈ gw := gw_of (List.mem_of_getElem? (i := 1243) (by decide +kernel)) rfl
theorem kw_1244 : Cond.constantLong RX6 82 (1000000007 : Int64) ∈ gw := gw_of (List.mem_of_getElem? (i := 1244) (by decide +kernel)) rfl
theorem kw_1245 : Cond.methodLink RX11 377 yX6_rowsOf ∈ gw := gw_of (List.mem_of_getElem? (i := 1245) (by decide +kernel)) rfl
theorem kw_1246 : Cond.methodLink RX11 380 yX6_handInFirstRow ∈ gw := gw_of (List.mem_of_getElem? (i := 1246) (by decide +kernel)) rfl
theorem kw_1247 : Cond.instanceMethod yX6_handInFirstRow ∈ gw := gw_of (List.mem_of_getElem? (i := 1247) (by decide +kernel)) rfl
theorem kw_1248 : Cond.selects RX6 yX6_handInFirstRow yX6_handInFirstRow ∈ gw := gw_of (List.mem_of_getElem? (i := 1248) (by decide +kernel)) rfl
theorem kw_1249 : Cond.code yX6_handInFirstRow cX6_handInFirstRow 7 (Option.some FieldType.int) ∈ gw := gw_of (List.mem_of_getElem? (i := 1249) (by decide +kernel)) rfl
theorem kw_1250 : Cond.methodLink RX6 84 yX6_firstThatLeaves ∈ gw := gw_of (List.mem_of_getElem? (i := 1250) (by decide +kernel)) rfl
theorem kw_1252 : Cond.instanceMethod yX6_firstThatLeaves ∈ gw := gw_of (List.mem_of_getElem? (i := 1252) (by decide +kernel)) rfl
theorem kw_1253 : Cond.code yX6_firstThatLeaves cX6_firstThatLeaves 4 (Option.some FieldType.int) ∈ gw := gw_of (List.mem_of_getElem? (i := 1253) (by decide +kernel)) rfl
theorem kw_1254 : Cond.methodLink RX11 383 yX6_handsInRows ∈ gw := gw_of (List.mem_of_getElem? (i := 1254) (by decide +kernel)) rfl
theorem kw_1255 : Cond.instanceMethod yX6_handsInRows ∈ gw := gw_of (List.mem_of_getElem? (i := 1255) (by decide +kernel)) rfl
theorem kw_1256 : Cond.selects RX6 yX6_handsInRows yX6_handsInRows ∈ gw := gw_of (List.mem_of_getElem? (i := 1256) (by decide +kernel)) rfl
theorem kw_1257 : Cond.code yX6_handsInRows cX6_handsInRows 8 (Option.some FieldType.int) ∈ gw := gw_of (List.mem_of_getElem? (i := 1257) (by decide +kernel)) rfl
theorem kw_1258 : Cond.methodLink RL 119 yX11_ice ∈ gw := gw_of (List.mem_of_getElem? (i := 1258) (by decide +kernel)) rfl
theorem kw_1259 : Cond.instanceMethod yX11_ice ∈ gw := gw_of (List.mem_of_getElem? (i := 1259) (by decide +kernel)) rfl
theorem kw_1260 : Cond.selects RX11 yX11_ice yX11_ice ∈ gw := gw_of (List.mem_of_getElem? (i := 1260) (by decide +kernel)) rfl
theorem kw_1261 : Cond.code yX11_ice cX11_ice 3 (Option.some FieldType.int) ∈ gw := gw_of (List.mem_of_getElem? (i := 1261) (by decide +kernel)) rfl
theorem kw_1262 : Cond.methodLink RX11 386 yX5_turnedTogether ∈ gw := gw_of (List.mem_of_getElem? (i := 1262) (by decide +kernel)) rfl
theorem kw_1263 : Cond.instanceMethod yX5_turnedTogether ∈ gw := gw_of (List.mem_of_getElem? (i := 1263) (by decide +kernel)) rfl
theorem kw_1264 : Cond.selects RX5 yX5_turnedTogether yX5_turnedTogether ∈ gw := gw_of (List.mem_of_getElem? (i := 1264) (by decide +kernel)) rfl
theorem kw_1265 : Cond.code yX5_turnedTogether cX5_turnedTogether 3 (Option.some FieldType.int) ∈ gw := gw_of (List.mem_of_getElem? (i := 1265) (by decide +kernel)) rfl
theorem kw_1266 : Cond.methodLink RX5 88 yX5_isGone ∈ gw := gw_of (List.mem_of_getElem? (i := 1266) (by decide +kernel)) rfl
theorem kw_1267 : Cond.methodLink RL 123 yX11_seed ∈ gw := gw_of (List.mem_of_getElem? (i := 1267) (by decide +kernel)) rfl
theorem kw_1268 : Cond.instanceMethod yX11_seed ∈ gw := gw_of (List.mem_of_getElem? (i := 1268) (by decide +kernel)) rfl
theorem kw_1269 : Cond.selects RX11 yX11_seed yX11_seed ∈ gw := gw_of (List.mem_of_getElem? (i := 1269) (by decide +kernel)) rfl
theorem kw_1270 : Cond.code yX11_seed cX11_seed 3 (Option.some FieldType.int) ∈ gw := gw_of (List.mem_of_getElem? (i := 1270) (by decide +kernel)) rfl
theorem kw_1271 : Cond.methodLink RL 127 yX11_years ∈ gw := gw_of (List.mem_of_getElem? (i := 1271) (by decide +kernel)) rfl
theorem kw_1272 : Cond.instanceMethod yX11_years ∈ gw := gw_of (List.mem_of_getElem? (i := 1272) (by decide +kernel)) rfl
theorem kw_1273 : Cond.selects RX11 yX11_years yX11_years ∈ gw := gw_of (List.mem_of_getElem? (i := 1273) (by decide +kernel)) rfl
theorem kw_1274 : Cond.code yX11_years cX11_years 6 (Option.some FieldType.int) ∈ gw := gw_of (List.mem_of_getElem? (i := 1274) (by decide +kernel)) rfl
theorem kw_1275 : Cond.methodLink RX11 397 yX1_passByDraws ∈ gw := gw_of (List.mem_of_getElem? (i := 1275) (by decide +kernel)) rfl
theorem kw_1276 : Cond.instanceMethod yX1_passByDraws ∈ gw := gw_of (List.mem_of_getElem? (i := 1276) (by decide +kernel)) rfl
theorem kw_1277 : Cond.selects RX1 yX1_passByDraws yX1_passByDraws ∈ gw := gw_of (List.mem_of_getElem? (i := 1277) (by decide +kernel)) rfl
theorem kw_1278 : Cond.code yX1_passByDraws cX1_passByDraws 4 (Option.none : Option FieldType) ∈ gw := gw_of (List.mem_of_getElem? (i := 1278) (by decide +kernel)) rfl
theorem kw_1279 : Cond.methodLink RX1 95 yX1_drawRoads ∈ gw := gw_of (List.mem_of_getElem? (i := 1279) (by decide +kernel)) rfl
theorem kw_1281 : Cond.instanceMethod yX1_drawRoads ∈ gw := gw_of (List.mem_of_getElem? (i := 1281) (by decide +kernel)) rfl
theorem kw_1282 : Cond.code yX1_drawRoads cX1_drawRoads 5 (Option.none : Option FieldType) ∈ gw := gw_of (List.mem_of_getElem? (i := 1282) (by decide +kernel)) rfl
theorem kw_1283 : Cond.methodLink RX1 112 yX5_isAtPlace ∈ gw := gw_of (List.mem_of_getElem? (i := 1283) (by decide +kernel)) rfl
theorem kw_1284 : Cond.methodLink RX1 118 yX1_draw ∈ gw := gw_of (List.mem_of_getElem? (i := 1284) (by decide +kernel)) rfl
theorem kw_1286 : Cond.instanceMethod yX1_draw ∈ gw := gw_of (List.mem_of_getElem? (i := 1286) (by decide +kernel)) rfl
theorem kw_1287 : Cond.code yX1_draw cX1_draw 1 (Option.some FieldType.int) ∈ gw := gw_of (List.mem_of_getElem? (i := 1287) (by decide +kernel)) rfl
theorem kw_1288 : Cond.constantLong RX1 105 (1103515245 : Int64) ∈ gw := gw_of (List.mem_of_getElem? (i := 1288) (by decide +kernel)) rfl
theorem kw_1289 : Cond.constantLong RX1 107 (12345 : Int64) ∈ gw := gw_of (List.mem_of_getElem? (i := 1289) (by decide +kernel)) rfl
theorem kw_1290 : Cond.constantLong RX1 109 (2147483647 : Int64) ∈ gw := gw_of (List.mem_of_getElem? (i := 1290) (by decide +kernel)) rfl
theorem kw_1291 : Cond.constant RX1 111 (65536 : Int32) ∈ gw := gw_of (List.mem_of_getElem? (i := 1291) (by decide +kernel)) rfl
theorem kw_1292 : Cond.methodLink RX1 121 yX5_roadFor ∈ gw := gw_of (List.mem_of_getElem? (i := 1292) (by decide +kernel)) rfl
theorem kw_1293 : Cond.methodLink RX1 125 yX5_setOut ∈ gw := gw_of (List.mem_of_getElem? (i := 1293) (by decide +kernel)) rfl
theorem kw_1294 : Cond.methodLink RX1 99 yX1_drawHolders ∈ gw := gw_of (List.mem_of_getElem? (i := 1294) (by decide +kernel)) rfl
theorem kw_1296 : Cond.instanceMethod yX1_drawHolders ∈ gw := gw_of (List.mem_of_getElem? (i := 1296) (by decide +kernel)) rfl
theorem kw_1297 : Cond.code yX1_drawHolders cX1_drawHolders 4 (Option.none : Option FieldType) ∈ gw := gw_of (List.mem_of_getElem? (i := 1297) (by decide +kernel)) rfl
theorem kw_1298 : Cond.methodLink RX1 129 yX5_canTake ∈ gw := gw_of (List.mem_of_getElem? (i := 1298) (by decide +kernel)) rfl
theorem kw_1299 : Cond.methodLink RX1 133 yX5_giveTo ∈ gw := gw_of (List.mem_of_getElem? (i := 1299) (by decide +kernel)) rfl
theorem kw_1300 : Cond.methodLink RX11 400 yX5_howManySour ∈ gw := gw_of (List.mem_of_getElem? (i := 1300) (by decide +kernel)) rfl
theorem kw_1301 : Cond.instanceMethod yX5_howManySour ∈ gw := gw_of (List.mem_of_getElem? (i := 1301) (by decide +kernel)) rfl
theorem kw_1302 : Cond.selects RX5 yX5_howManySour yX5_howManySour ∈ gw := gw_of (List.mem_of_getElem? (i := 1302) (by decide +kernel)) rfl
theorem kw_1303 : Cond.code yX5_howManySour cX5_howManySour 4 (Option.some FieldType.int) ∈ gw := gw_of (List.mem_of_getElem? (i := 1303) (by decide +kernel)) rfl
theorem kw_1304 : Cond.methodLink RL 131 yX11_count ∈ gw := gw_of (List.mem_of_getElem? (i := 1304) (by decide +kernel)) rfl
theorem kw_1305 : Cond.instanceMethod yX11_count ∈ gw := gw_of (List.mem_of_getElem? (i := 1305) (by decide +kernel)) rfl
theorem kw_1306 : Cond.selects RX11 yX11_count yX11_count ∈ gw := gw_of (List.mem_of_getElem? (i := 1306) (by decide +kernel)) rfl
theorem kw_1307 : Cond.code yX11_count cX11_count 2 (Option.some FieldType.int) ∈ gw := gw_of (List.mem_of_getElem? (i := 1307) (by decide +kernel)) rfl
