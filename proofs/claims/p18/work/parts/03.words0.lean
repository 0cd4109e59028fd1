def gw : List Cond := lw_tbl.filter goodWord
theorem gw_of {w : Cond} (h : w ∈ tables_1) (g : goodWord w = true) : w ∈ gw := List.mem_filter.mpr ⟨List.mem_append_right _ h, g⟩
theorem gw_priv {q : MethodName × Nat} (h : q ∈ lw_privs) {w : Cond} (e : Cond.selects q.1.cls q.1 q.1 = w) : w ∈ gw := e ▸ List.mem_filter.mpr ⟨List.mem_append_left _ (List.mem_map.mpr ⟨q, h, rfl⟩), rfl⟩
theorem gw_in : ∀ w ∈ gw, w ∈ lw_tbl := fun w h => (List.mem_filter.mp h).1
theorem gw_good {a b : Cond} (h : b ∈ gw) : GoodIn (a :: gw) (b :: gw) := by
  intro w hw
  have h1 : w ∈ gw := by
    rcases List.mem_cons.mp hw with rfl | h2
    · exact h
    · exact h2
  exact ⟨List.mem_cons_of_mem _ h1, good_of_word (List.mem_filter.mp h1).2⟩
theorem gw_goodL {b : Cond} (h : b ∈ gw) : GoodIn lw_tbl (b :: gw) := by
  intro w hw
  have h1 : w ∈ gw := by
    rcases List.mem_cons.mp hw with rfl | h2
    · exact h
    · exact h2
  exact ⟨gw_in w h1, good_of_word (List.mem_filter.mp h1).2⟩
theorem kp_0 : Cond.selects RX0 yX0_readClause yX0_readClause ∈ gw := gw_priv (q := (⟨"TurningMilk$DairyReader", "readClause", "(I)Z"⟩, 3)) (List.mem_of_getElem? (i := 0) (by decide +kernel)) rfl
theorem kp_1 : Cond.selects RX0 yX0_takeKind yX0_takeKind ∈ gw := gw_priv (q := (⟨"TurningMilk$DairyReader", "takeKind", "()I"⟩, 3)) (List.mem_of_getElem? (i := 1) (by decide +kernel)) rfl
theorem kp_2 : Cond.selects RX7 yX7_byteAt yX7_byteAt ∈ gw := gw_priv (q := (⟨"TurningMilk$Tape", "byteAt", "(I)I"⟩, 5)) (List.mem_of_getElem? (i := 2) (by decide +kernel)) rfl
theorem kp_3 : Cond.selects RX0 yX0_hasRoomFor yX0_hasRoomFor ∈ gw := gw_priv (q := (⟨"TurningMilk$DairyReader", "hasRoomFor", "(I)Z"⟩, 3)) (List.mem_of_getElem? (i := 3) (by decide +kernel)) rfl
theorem kp_4 : Cond.selects RX0 yX0_readDairy yX0_readDairy ∈ gw := gw_priv (q := (⟨"TurningMilk$DairyReader", "readDairy", "()Z"⟩, 3)) (List.mem_of_getElem? (i := 4) (by decide +kernel)) rfl
theorem kp_5 : Cond.selects RX0 yX0_readRoad yX0_readRoad ∈ gw := gw_priv (q := (⟨"TurningMilk$DairyReader", "readRoad", "()Z"⟩, 3)) (List.mem_of_getElem? (i := 5) (by decide +kernel)) rfl
theorem kp_6 : Cond.selects RX0 yX0_takePlace yX0_takePlace ∈ gw := gw_priv (q := (⟨"TurningMilk$DairyReader", "takePlace", "()I"⟩, 3)) (List.mem_of_getElem? (i := 6) (by decide +kernel)) rfl
theorem kp_7 : Cond.selects RX0 yX0_readHand yX0_readHand ∈ gw := gw_priv (q := (⟨"TurningMilk$DairyReader", "readHand", "()Z"⟩, 3)) (List.mem_of_getElem? (i := 7) (by decide +kernel)) rfl
theorem kp_8 : Cond.selects RX0 yX0_readJug yX0_readJug ∈ gw := gw_priv (q := (⟨"TurningMilk$DairyReader", "readJug", "()Z"⟩, 3)) (List.mem_of_getElem? (i := 8) (by decide +kernel)) rfl
theorem kp_9 : Cond.selects RX0 yX0_readHeat yX0_readHeat ∈ gw := gw_priv (q := (⟨"TurningMilk$DairyReader", "readHeat", "()Z"⟩, 3)) (List.mem_of_getElem? (i := 9) (by decide +kernel)) rfl
theorem kp_10 : Cond.selects RX0 yX0_readWant yX0_readWant ∈ gw := gw_priv (q := (⟨"TurningMilk$DairyReader", "readWant", "()Z"⟩, 3)) (List.mem_of_getElem? (i := 10) (by decide +kernel)) rfl
theorem kp_11 : Cond.selects RX3 yX3_readClause yX3_readClause ∈ gw := gw_priv (q := (⟨"TurningMilk$RuleReader", "readClause", "(I)Z"⟩, 9)) (List.mem_of_getElem? (i := 11) (by decide +kernel)) rfl
theorem kp_12 : Cond.selects RX3 yX3_readValue yX3_readValue ∈ gw := gw_priv (q := (⟨"TurningMilk$RuleReader", "readValue", "()Z"⟩, 9)) (List.mem_of_getElem? (i := 12) (by decide +kernel)) rfl
theorem kp_13 : Cond.selects RX3 yX3_takeValueWord yX3_takeValueWord ∈ gw := gw_priv (q := (⟨"TurningMilk$RuleReader", "takeValueWord", "()I"⟩, 9)) (List.mem_of_getElem? (i := 13) (by decide +kernel)) rfl
theorem kp_14 : Cond.selects RX3 yX3_write yX3_write ∈ gw := gw_priv (q := (⟨"TurningMilk$RuleReader", "write", "(I)V"⟩, 9)) (List.mem_of_getElem? (i := 14) (by decide +kernel)) rfl
theorem kp_15 : Cond.selects RX3 yX3_closeBrackets yX3_closeBrackets ∈ gw := gw_priv (q := (⟨"TurningMilk$RuleReader", "closeBrackets", "()V"⟩, 9)) (List.mem_of_getElem? (i := 15) (by decide +kernel)) rfl
theorem kp_16 : Cond.selects RX3 yX3_isFactWhole yX3_isFactWhole ∈ gw := gw_priv (q := (⟨"TurningMilk$RuleReader", "isFactWhole", "()Z"⟩, 9)) (List.mem_of_getElem? (i := 16) (by decide +kernel)) rfl
theorem kp_17 : Cond.selects RX3 yX3_unpile yX3_unpile ∈ gw := gw_priv (q := (⟨"TurningMilk$RuleReader", "unpile", "(I)V"⟩, 9)) (List.mem_of_getElem? (i := 17) (by decide +kernel)) rfl
theorem kp_18 : Cond.selects RX3 yX3_dropTop yX3_dropTop ∈ gw := gw_priv (q := (⟨"TurningMilk$RuleReader", "dropTop", "()V"⟩, 9)) (List.mem_of_getElem? (i := 18) (by decide +kernel)) rfl
theorem kp_19 : Cond.selects RX3 yX3_endsHere yX3_endsHere ∈ gw := gw_priv (q := (⟨"TurningMilk$RuleReader", "endsHere", "()Z"⟩, 9)) (List.mem_of_getElem? (i := 19) (by decide +kernel)) rfl
theorem kp_20 : Cond.selects RX3 yX3_readJoint yX3_readJoint ∈ gw := gw_priv (q := (⟨"TurningMilk$RuleReader", "readJoint", "()Z"⟩, 9)) (List.mem_of_getElem? (i := 20) (by decide +kernel)) rfl
theorem kp_21 : Cond.selects RX3 yX3_takeArithmetic yX3_takeArithmetic ∈ gw := gw_priv (q := (⟨"TurningMilk$RuleReader", "takeArithmetic", "()I"⟩, 9)) (List.mem_of_getElem? (i := 21) (by decide +kernel)) rfl
theorem kp_22 : Cond.selects RX3 yX3_pileUp yX3_pileUp ∈ gw := gw_priv (q := (⟨"TurningMilk$RuleReader", "pileUp", "(I)V"⟩, 9)) (List.mem_of_getElem? (i := 22) (by decide +kernel)) rfl
theorem kp_23 : Cond.selects RX3 yX3_push yX3_push ∈ gw := gw_priv (q := (⟨"TurningMilk$RuleReader", "push", "(I)V"⟩, 9)) (List.mem_of_getElem? (i := 23) (by decide +kernel)) rfl
theorem kp_24 : Cond.selects RX3 yX3_readIf yX3_readIf ∈ gw := gw_priv (q := (⟨"TurningMilk$RuleReader", "readIf", "()Z"⟩, 9)) (List.mem_of_getElem? (i := 24) (by decide +kernel)) rfl
theorem kp_25 : Cond.selects RX3 yX3_beginFact yX3_beginFact ∈ gw := gw_priv (q := (⟨"TurningMilk$RuleReader", "beginFact", "()Z"⟩, 9)) (List.mem_of_getElem? (i := 25) (by decide +kernel)) rfl
theorem kp_26 : Cond.selects RX3 yX3_readComparison yX3_readComparison ∈ gw := gw_priv (q := (⟨"TurningMilk$RuleReader", "readComparison", "()Z"⟩, 9)) (List.mem_of_getElem? (i := 26) (by decide +kernel)) rfl
theorem kp_27 : Cond.selects RX3 yX3_takeComparison yX3_takeComparison ∈ gw := gw_priv (q := (⟨"TurningMilk$RuleReader", "takeComparison", "()I"⟩, 9)) (List.mem_of_getElem? (i := 27) (by decide +kernel)) rfl
theorem kp_28 : Cond.selects RX11 yX11_enforce yX11_enforce ∈ gw := gw_priv (q := (⟨"TurningMilk", "enforce", "()V"⟩, 16)) (List.mem_of_getElem? (i := 28) (by decide +kernel)) rfl
theorem kp_29 : Cond.selects RX11 yX11_isHand yX11_isHand ∈ gw := gw_priv (q := (⟨"TurningMilk", "isHand", "(I)Z"⟩, 16)) (List.mem_of_getElem? (i := 29) (by decide +kernel)) rfl
theorem kp_30 : Cond.selects RX11 yX11_isJug yX11_isJug ∈ gw := gw_priv (q := (⟨"TurningMilk", "isJug", "(I)Z"⟩, 16)) (List.mem_of_getElem? (i := 30) (by decide +kernel)) rfl
theorem kp_31 : Cond.selects RX11 yX11_isWant yX11_isWant ∈ gw := gw_priv (q := (⟨"TurningMilk", "isWant", "(I)Z"⟩, 16)) (List.mem_of_getElem? (i := 31) (by decide +kernel)) rfl
theorem kp_32 : Cond.selects RX11 yX11_jugFor yX11_jugFor ∈ gw := gw_priv (q := (⟨"TurningMilk", "jugFor", "(I)I"⟩, 16)) (List.mem_of_getElem? (i := 32) (by decide +kernel)) rfl
theorem kp_33 : Cond.selects RX11 yX11_keepPast yX11_keepPast ∈ gw := gw_priv (q := (⟨"TurningMilk", "keepPast", "()V"⟩, 16)) (List.mem_of_getElem? (i := 33) (by decide +kernel)) rfl
theorem kp_34 : Cond.selects RX1 yX1_turnsIn yX1_turnsIn ∈ gw := gw_priv (q := (⟨"TurningMilk$Hours", "turnsIn", "(LTurningMilk$State;I)I"⟩, 3)) (List.mem_of_getElem? (i := 34) (by decide +kernel)) rfl
theorem kp_35 : Cond.selects RX10 yX10_sumByRule yX10_sumByRule ∈ gw := gw_priv (q := (⟨"TurningMilk$Turning", "sumByRule", "()J"⟩, 12)) (List.mem_of_getElem? (i := 35) (by decide +kernel)) rfl
theorem kp_36 : Cond.selects RX10 yX10_valueOf yX10_valueOf ∈ gw := gw_priv (q := (⟨"TurningMilk$Turning", "valueOf", "(I)J"⟩, 12)) (List.mem_of_getElem? (i := 36) (by decide +kernel)) rfl
theorem kp_37 : Cond.selects RX5 yX5_canHoldMore yX5_canHoldMore ∈ gw := gw_priv (q := (⟨"TurningMilk$State", "canHoldMore", "(I)Z"⟩, 9)) (List.mem_of_getElem? (i := 37) (by decide +kernel)) rfl
theorem kp_38 : Cond.selects RX11 yX11_isPlace yX11_isPlace ∈ gw := gw_priv (q := (⟨"TurningMilk", "isPlace", "(I)Z"⟩, 16)) (List.mem_of_getElem? (i := 38) (by decide +kernel)) rfl
theorem kp_39 : Cond.selects RX11 yX11_isStandingJug yX11_isStandingJug ∈ gw := gw_priv (q := (⟨"TurningMilk", "isStandingJug", "(I)Z"⟩, 16)) (List.mem_of_getElem? (i := 39) (by decide +kernel)) rfl
theorem kp_40 : Cond.selects RX2 yX2_visit yX2_visit ∈ gw := gw_priv (q := (⟨"TurningMilk$Relay", "visit", "(II)V"⟩, 11)) (List.mem_of_getElem? (i := 40) (by decide +kernel)) rfl
theorem kp_41 : Cond.selects RX2 yX2_carried yX2_carried ∈ gw := gw_priv (q := (⟨"TurningMilk$Relay", "carried", "(III)I"⟩, 11)) (List.mem_of_getElem? (i := 41) (by decide +kernel)) rfl
theorem kp_42 : Cond.selects RX2 yX2_firstHand yX2_firstHand ∈ gw := gw_priv (q := (⟨"TurningMilk$Relay", "firstHand", "(II)I"⟩, 11)) (List.mem_of_getElem? (i := 42) (by decide +kernel)) rfl
theorem kp_43 : Cond.selects RX6 yX6_payWith yX6_payWith ∈ gw := gw_priv (q := (⟨"TurningMilk$Tables", "payWith", "(LTurningMilk$State;III)I"⟩, 3)) (List.mem_of_getElem? (i := 43) (by decide +kernel)) rfl
theorem kp_44 : Cond.selects RX6 yX6_firstBest yX6_firstBest ∈ gw := gw_priv (q := (⟨"TurningMilk$Tables", "firstBest", "(LTurningMilk$State;II)I"⟩, 3)) (List.mem_of_getElem? (i := 44) (by decide +kernel)) rfl
theorem kp_45 : Cond.selects RX9 yX9_passesAll yX9_passesAll ∈ gw := gw_priv (q := (⟨"TurningMilk$Trials", "passesAll", "(I)Z"⟩, 5)) (List.mem_of_getElem? (i := 45) (by decide +kernel)) rfl
theorem kp_46 : Cond.selects RX9 yX9_mostAlike yX9_mostAlike ∈ gw := gw_priv (q := (⟨"TurningMilk$Trials", "mostAlike", "(II)I"⟩, 5)) (List.mem_of_getElem? (i := 46) (by decide +kernel)) rfl
theorem kp_47 : Cond.selects RX6 yX6_firstThatLeaves yX6_firstThatLeaves ∈ gw := gw_priv (q := (⟨"TurningMilk$Tables", "firstThatLeaves", "(II)I"⟩, 3)) (List.mem_of_getElem? (i := 47) (by decide +kernel)) rfl
theorem kp_48 : Cond.selects RX1 yX1_drawRoads yX1_drawRoads ∈ gw := gw_priv (q := (⟨"TurningMilk$Hours", "drawRoads", "(LTurningMilk$State;)V"⟩, 3)) (List.mem_of_getElem? (i := 48) (by decide +kernel)) rfl
theorem kp_49 : Cond.selects RX1 yX1_draw yX1_draw ∈ gw := gw_priv (q := (⟨"TurningMilk$Hours", "draw", "()I"⟩, 3)) (List.mem_of_getElem? (i := 49) (by decide +kernel)) rfl
theorem kp_50 : Cond.selects RX1 yX1_drawHolders yX1_drawHolders ∈ gw := gw_priv (q := (⟨"TurningMilk$Hours", "drawHolders", "(LTurningMilk$State;)V"⟩, 3)) (List.mem_of_getElem? (i := 50) (by decide +kernel)) rfl
theorem kp_51 : Cond.selects RX12 yX12_four yX12_four ∈ gw := gw_priv (q := (⟨"TurningMilkModel", "four", "(I)V"⟩, 38)) (List.mem_of_getElem? (i := 51) (by decide +kernel)) rfl
theorem kp_52 : Cond.selects RX12 yX12_readsAll yX12_readsAll ∈ gw := gw_priv (q := (⟨"TurningMilkModel", "readsAll", "()Z"⟩, 38)) (List.mem_of_getElem? (i := 52) (by decide +kernel)) rfl
theorem kp_53 : Cond.selects RX12 yX12_clauseHere yX12_clauseHere ∈ gw := gw_priv (q := (⟨"TurningMilkModel", "clauseHere", "()Z"⟩, 38)) (List.mem_of_getElem? (i := 53) (by decide +kernel)) rfl
theorem kp_54 : Cond.selects RX12 yX12_see yX12_see ∈ gw := gw_priv (q := (⟨"TurningMilkModel", "see", "()I"⟩, 38)) (List.mem_of_getElem? (i := 54) (by decide +kernel)) rfl
theorem kp_55 : Cond.selects RX12 yX12_isDairyWord yX12_isDairyWord ∈ gw := gw_priv (q := (⟨"TurningMilkModel", "isDairyWord", "()Z"⟩, 38)) (List.mem_of_getElem? (i := 55) (by decide +kernel)) rfl
theorem kp_56 : Cond.selects RX12 yX12_isWord yX12_isWord ∈ gw := gw_priv (q := (⟨"TurningMilkModel", "isWord", "(J)Z"⟩, 38)) (List.mem_of_getElem? (i := 56) (by decide +kernel)) rfl
theorem kp_57 : Cond.selects RX12 yX12_isLetter yX12_isLetter ∈ gw := gw_priv (q := (⟨"TurningMilkModel", "isLetter", "(I)Z"⟩, 38)) (List.mem_of_getElem? (i := 57) (by decide +kernel)) rfl
theorem kp_58 : Cond.selects RX12 yX12_fails yX12_fails ∈ gw := gw_priv (q := (⟨"TurningMilkModel", "fails", "(II)Z"⟩, 38)) (List.mem_of_getElem? (i := 58) (by decide +kernel)) rfl
theorem kp_59 : Cond.selects RX12 yX12_dairyLineHere yX12_dairyLineHere ∈ gw := gw_priv (q := (⟨"TurningMilkModel", "dairyLineHere", "(I)Z"⟩, 38)) (List.mem_of_getElem? (i := 59) (by decide +kernel)) rfl
theorem kp_60 : Cond.selects RX12 yX12_isDairyHere yX12_isDairyHere ∈ gw := gw_priv (q := (⟨"TurningMilkModel", "isDairyHere", "(I)Z"⟩, 38)) (List.mem_of_getElem? (i := 60) (by decide +kernel)) rfl
theorem kp_61 : Cond.selects RX12 yX12_passWord yX12_passWord ∈ gw := gw_priv (q := (⟨"TurningMilkModel", "passWord", "()V"⟩, 38)) (List.mem_of_getElem? (i := 61) (by decide +kernel)) rfl
theorem kp_62 : Cond.selects RX12 yX12_numberHere yX12_numberHere ∈ gw := gw_priv (q := (⟨"TurningMilkModel", "numberHere", "(II)Z"⟩, 38)) (List.mem_of_getElem? (i := 62) (by decide +kernel)) rfl
theorem kp_63 : Cond.selects RX12 yX12_isDigit yX12_isDigit ∈ gw := gw_priv (q := (⟨"TurningMilkModel", "isDigit", "(I)Z"⟩, 38)) (List.mem_of_getElem? (i := 63) (by decide +kernel)) rfl
theorem kp_64 : Cond.selects RX12 yX12_cellHere yX12_cellHere ∈ gw := gw_priv (q := (⟨"TurningMilkModel", "cellHere", "(III)Z"⟩, 38)) (List.mem_of_getElem? (i := 64) (by decide +kernel)) rfl
theorem kp_65 : Cond.selects RX12 yX12_isRoadHere yX12_isRoadHere ∈ gw := gw_priv (q := (⟨"TurningMilkModel", "isRoadHere", "(I)Z"⟩, 38)) (List.mem_of_getElem? (i := 65) (by decide +kernel)) rfl
theorem kp_66 : Cond.selects RX12 yX12_isRoadTold yX12_isRoadTold ∈ gw := gw_priv (q := (⟨"TurningMilkModel", "isRoadTold", "(II)Z"⟩, 38)) (List.mem_of_getElem? (i := 66) (by decide +kernel)) rfl
theorem kp_67 : Cond.selects RX12 yX12_isHandHere yX12_isHandHere ∈ gw := gw_priv (q := (⟨"TurningMilkModel", "isHandHere", "(I)Z"⟩, 38)) (List.mem_of_getElem? (i := 67) (by decide +kernel)) rfl
theorem kp_68 : Cond.selects RX12 yX12_isJugHere yX12_isJugHere ∈ gw := gw_priv (q := (⟨"TurningMilkModel", "isJugHere", "(I)Z"⟩, 38)) (List.mem_of_getElem? (i := 68) (by decide +kernel)) rfl
theorem kp_69 : Cond.selects RX12 yX12_isHeatHere yX12_isHeatHere ∈ gw := gw_priv (q := (⟨"TurningMilkModel", "isHeatHere", "(I)Z"⟩, 38)) (List.mem_of_getElem? (i := 69) (by decide +kernel)) rfl
theorem kp_70 : Cond.selects RX12 yX12_isWantHere yX12_isWantHere ∈ gw := gw_priv (q := (⟨"TurningMilkModel", "isWantHere", "(I)Z"⟩, 38)) (List.mem_of_getElem? (i := 70) (by decide +kernel)) rfl
theorem kp_71 : Cond.selects RX12 yX12_isTurnHere yX12_isTurnHere ∈ gw := gw_priv (q := (⟨"TurningMilkModel", "isTurnHere", "()Z"⟩, 38)) (List.mem_of_getElem? (i := 71) (by decide +kernel)) rfl
theorem kp_72 : Cond.selects RX12 yX12_sum yX12_sum ∈ gw := gw_priv (q := (⟨"TurningMilkModel", "sum", "()Z"⟩, 38)) (List.mem_of_getElem? (i := 72) (by decide +kernel)) rfl
theorem kp_73 : Cond.selects RX12 yX12_term yX12_term ∈ gw := gw_priv (q := (⟨"TurningMilkModel", "term", "()Z"⟩, 38)) (List.mem_of_getElem? (i := 73) (by decide +kernel)) rfl
theorem kp_74 : Cond.selects RX12 yX12_value yX12_value ∈ gw := gw_priv (q := (⟨"TurningMilkModel", "value", "()Z"⟩, 38)) (List.mem_of_getElem? (i := 74) (by decide +kernel)) rfl
theorem kp_75 : Cond.selects RX12 yX12_makes yX12_makes ∈ gw := gw_priv (q := (⟨"TurningMilkModel", "makes", "(I)Z"⟩, 38)) (List.mem_of_getElem? (i := 75) (by decide +kernel)) rfl
theorem kp_76 : Cond.selects RX12 yX12_puts yX12_puts ∈ gw := gw_priv (q := (⟨"TurningMilkModel", "puts", "(II)V"⟩, 38)) (List.mem_of_getElem? (i := 76) (by decide +kernel)) rfl
theorem kp_77 : Cond.selects RX12 yX12_wordHere yX12_wordHere ∈ gw := gw_priv (q := (⟨"TurningMilkModel", "wordHere", "()I"⟩, 38)) (List.mem_of_getElem? (i := 77) (by decide +kernel)) rfl
theorem kp_78 : Cond.selects RX12 yX12_takesWord yX12_takesWord ∈ gw := gw_priv (q := (⟨"TurningMilkModel", "takesWord", "(J)Z"⟩, 38)) (List.mem_of_getElem? (i := 78) (by decide +kernel)) rfl
theorem kp_79 : Cond.selects RX12 yX12_tested yX12_tested ∈ gw := gw_priv (q := (⟨"TurningMilkModel", "tested", "()Z"⟩, 38)) (List.mem_of_getElem? (i := 79) (by decide +kernel)) rfl
theorem kp_80 : Cond.selects RX12 yX12_fact yX12_fact ∈ gw := gw_priv (q := (⟨"TurningMilkModel", "fact", "()Z"⟩, 38)) (List.mem_of_getElem? (i := 80) (by decide +kernel)) rfl
theorem kp_81 : Cond.selects RX12 yX12_opens yX12_opens ∈ gw := gw_priv (q := (⟨"TurningMilkModel", "opens", "(I)Z"⟩, 38)) (List.mem_of_getElem? (i := 81) (by decide +kernel)) rfl
theorem kp_82 : Cond.selects RX12 yX12_compare yX12_compare ∈ gw := gw_priv (q := (⟨"TurningMilkModel", "compare", "()Z"⟩, 38)) (List.mem_of_getElem? (i := 82) (by decide +kernel)) rfl
theorem kp_83 : Cond.selects RX12 yX12_closes yX12_closes ∈ gw := gw_priv (q := (⟨"TurningMilkModel", "closes", "()V"⟩, 38)) (List.mem_of_getElem? (i := 83) (by decide +kernel)) rfl
theorem kp_84 : Cond.selects RX12 yX12_settles yX12_settles ∈ gw := gw_priv (q := (⟨"TurningMilkModel", "settles", "(I)V"⟩, 38)) (List.mem_of_getElem? (i := 84) (by decide +kernel)) rfl
theorem kp_85 : Cond.selects RX12 yX12_isInside yX12_isInside ∈ gw := gw_priv (q := (⟨"TurningMilkModel", "isInside", "()Z"⟩, 38)) (List.mem_of_getElem? (i := 85) (by decide +kernel)) rfl
theorem kp_86 : Cond.selects RX12 yX12_isRule yX12_isRule ∈ gw := gw_priv (q := (⟨"TurningMilkModel", "isRule", "(I)Z"⟩, 38)) (List.mem_of_getElem? (i := 86) (by decide +kernel)) rfl
theorem kp_87 : Cond.selects RX12 yX12_isHand yX12_isHand ∈ gw := gw_priv (q := (⟨"TurningMilkModel", "isHand", "(I)Z"⟩, 38)) (List.mem_of_getElem? (i := 87) (by decide +kernel)) rfl
theorem kp_88 : Cond.selects RX12 yX12_handOf yX12_handOf ∈ gw := gw_priv (q := (⟨"TurningMilkModel", "handOf", "(II)I"⟩, 38)) (List.mem_of_getElem? (i := 88) (by decide +kernel)) rfl
theorem kp_89 : Cond.selects RX12 yX12_held yX12_held ∈ gw := gw_priv (q := (⟨"TurningMilkModel", "held", "(I)I"⟩, 38)) (List.mem_of_getElem? (i := 89) (by decide +kernel)) rfl
theorem kp_90 : Cond.selects RX12 yX12_jugOf yX12_jugOf ∈ gw := gw_priv (q := (⟨"TurningMilkModel", "jugOf", "(II)I"⟩, 38)) (List.mem_of_getElem? (i := 90) (by decide +kernel)) rfl
theorem kp_91 : Cond.selects RX12 yX12_isJug yX12_isJug ∈ gw := gw_priv (q := (⟨"TurningMilkModel", "isJug", "(I)Z"⟩, 38)) (List.mem_of_getElem? (i := 91) (by decide +kernel)) rfl
theorem kp_92 : Cond.selects RX12 yX12_stands yX12_stands ∈ gw := gw_priv (q := (⟨"TurningMilkModel", "stands", "(I)Z"⟩, 38)) (List.mem_of_getElem? (i := 92) (by decide +kernel)) rfl
theorem kp_93 : Cond.selects RX12 yX12_isWant yX12_isWant ∈ gw := gw_priv (q := (⟨"TurningMilkModel", "isWant", "(I)Z"⟩, 38)) (List.mem_of_getElem? (i := 93) (by decide +kernel)) rfl
theorem kp_94 : Cond.selects RX12 yX12_wantOf yX12_wantOf ∈ gw := gw_priv (q := (⟨"TurningMilkModel", "wantOf", "(II)I"⟩, 38)) (List.mem_of_getElem? (i := 94) (by decide +kernel)) rfl
theorem kp_95 : Cond.selects RX12 yX12_firstFor yX12_firstFor ∈ gw := gw_priv (q := (⟨"TurningMilkModel", "firstFor", "(I)I"⟩, 38)) (List.mem_of_getElem? (i := 95) (by decide +kernel)) rfl
theorem kp_96 : Cond.selects RX12 yX12_isDairy yX12_isDairy ∈ gw := gw_priv (q := (⟨"TurningMilkModel", "isDairy", "()Z"⟩, 38)) (List.mem_of_getElem? (i := 96) (by decide +kernel)) rfl
theorem kp_97 : Cond.selects RX12 yX12_keepsAct yX12_keepsAct ∈ gw := gw_priv (q := (⟨"TurningMilkModel", "keepsAct", "()V"⟩, 38)) (List.mem_of_getElem? (i := 97) (by decide +kernel)) rfl
theorem kp_98 : Cond.selects RX12 yX12_passes yX12_passes ∈ gw := gw_priv (q := (⟨"TurningMilkModel", "passes", "()I"⟩, 38)) (List.mem_of_getElem? (i := 98) (by decide +kernel)) rfl
theorem kp_99 : Cond.selects RX12 yX12_turns yX12_turns ∈ gw := gw_priv (q := (⟨"TurningMilkModel", "turns", "(I)V"⟩, 38)) (List.mem_of_getElem? (i := 99) (by decide +kernel)) rfl
theorem kp_100 : Cond.selects RX12 yX12_heatIn yX12_heatIn ∈ gw := gw_priv (q := (⟨"TurningMilkModel", "heatIn", "(I)I"⟩, 38)) (List.mem_of_getElem? (i := 100) (by decide +kernel)) rfl
theorem kp_101 : Cond.selects RX12 yX12_turnsIn yX12_turnsIn ∈ gw := gw_priv (q := (⟨"TurningMilkModel", "turnsIn", "(IIIIIII)I"⟩, 38)) (List.mem_of_getElem? (i := 101) (by decide +kernel)) rfl
theorem kp_102 : Cond.selects RX12 yX12_summedBy yX12_summedBy ∈ gw := gw_priv (q := (⟨"TurningMilkModel", "summedBy", "(I)J"⟩, 38)) (List.mem_of_getElem? (i := 102) (by decide +kernel)) rfl
theorem kp_103 : Cond.selects RX12 yX12_reckons yX12_reckons ∈ gw := gw_priv (q := (⟨"TurningMilkModel", "reckons", "(III)J"⟩, 38)) (List.mem_of_getElem? (i := 103) (by decide +kernel)) rfl
theorem kp_104 : Cond.selects RX12 yX12_push yX12_push ∈ gw := gw_priv (q := (⟨"TurningMilkModel", "push", "(J)V"⟩, 38)) (List.mem_of_getElem? (i := 104) (by decide +kernel)) rfl
theorem kp_105 : Cond.selects RX12 yX12_pop yX12_pop ∈ gw := gw_priv (q := (⟨"TurningMilkModel", "pop", "()J"⟩, 38)) (List.mem_of_getElem? (i := 105) (by decide +kernel)) rfl
theorem kp_106 : Cond.selects RX12 yX12_moreTired yX12_moreTired ∈ gw := gw_priv (q := (⟨"TurningMilkModel", "moreTired", "(II)I"⟩, 38)) (List.mem_of_getElem? (i := 106) (by decide +kernel)) rfl
theorem kp_107 : Cond.selects RX12 yX12_canTake yX12_canTake ∈ gw := gw_priv (q := (⟨"TurningMilkModel", "canTake", "(II)Z"⟩, 38)) (List.mem_of_getElem? (i := 107) (by decide +kernel)) rfl
theorem kp_108 : Cond.selects RX12 yX12_isAtPlace yX12_isAtPlace ∈ gw := gw_priv (q := (⟨"TurningMilkModel", "isAtPlace", "(I)Z"⟩, 38)) (List.mem_of_getElem? (i := 108) (by decide +kernel)) rfl
theorem kp_109 : Cond.selects RX12 yX12_takes yX12_takes ∈ gw := gw_priv (q := (⟨"TurningMilkModel", "takes", "(II)V"⟩, 38)) (List.mem_of_getElem? (i := 109) (by decide +kernel)) rfl
theorem kp_110 : Cond.selects RX12 yX12_isPlace yX12_isPlace ∈ gw := gw_priv (q := (⟨"TurningMilkModel", "isPlace", "(I)Z"⟩, 38)) (List.mem_of_getElem? (i := 110) (by decide +kernel)) rfl
theorem kp_111 : Cond.selects RX12 yX12_canGo yX12_canGo ∈ gw := gw_priv (q := (⟨"TurningMilkModel", "canGo", "(II)Z"⟩, 38)) (List.mem_of_getElem? (i := 111) (by decide +kernel)) rfl
theorem kp_112 : Cond.selects RX12 yX12_roadOf yX12_roadOf ∈ gw := gw_priv (q := (⟨"TurningMilkModel", "roadOf", "(II)I"⟩, 38)) (List.mem_of_getElem? (i := 112) (by decide +kernel)) rfl
theorem kp_113 : Cond.selects RX12 yX12_goes yX12_goes ∈ gw := gw_priv (q := (⟨"TurningMilkModel", "goes", "(II)V"⟩, 38)) (List.mem_of_getElem? (i := 113) (by decide +kernel)) rfl
theorem kp_114 : Cond.selects RX12 yX12_keeps yX12_keeps ∈ gw := gw_priv (q := (⟨"TurningMilkModel", "keeps", "()V"⟩, 38)) (List.mem_of_getElem? (i := 114) (by decide +kernel)) rfl
theorem kp_115 : Cond.selects RX12 yX12_laysBack yX12_laysBack ∈ gw := gw_priv (q := (⟨"TurningMilkModel", "laysBack", "()V"⟩, 38)) (List.mem_of_getElem? (i := 115) (by decide +kernel)) rfl
theorem kp_116 : Cond.selects RX12 yX12_fillsHours yX12_fillsHours ∈ gw := gw_priv (q := (⟨"TurningMilkModel", "fillsHours", "(I)V"⟩, 38)) (List.mem_of_getElem? (i := 116) (by decide +kernel)) rfl
theorem kp_117 : Cond.selects RX12 yX12_nextPlace yX12_nextPlace ∈ gw := gw_priv (q := (⟨"TurningMilkModel", "nextPlace", "(I)I"⟩, 38)) (List.mem_of_getElem? (i := 117) (by decide +kernel)) rfl
theorem kp_118 : Cond.selects RX12 yX12_turnedBy yX12_turnedBy ∈ gw := gw_priv (q := (⟨"TurningMilkModel", "turnedBy", "(IIIIII)I"⟩, 38)) (List.mem_of_getElem? (i := 118) (by decide +kernel)) rfl
theorem kp_119 : Cond.selects RX12 yX12_fillsRoads yX12_fillsRoads ∈ gw := gw_priv (q := (⟨"TurningMilkModel", "fillsRoads", "(II)V"⟩, 38)) (List.mem_of_getElem? (i := 119) (by decide +kernel)) rfl
theorem kp_120 : Cond.selects RX12 yX12_turnedByRow yX12_turnedByRow ∈ gw := gw_priv (q := (⟨"TurningMilkModel", "turnedByRow", "(II)I"⟩, 38)) (List.mem_of_getElem? (i := 120) (by decide +kernel)) rfl
theorem kp_121 : Cond.selects RX12 yX12_handIn yX12_handIn ∈ gw := gw_priv (q := (⟨"TurningMilkModel", "handIn", "(II)I"⟩, 38)) (List.mem_of_getElem? (i := 121) (by decide +kernel)) rfl
theorem kp_122 : Cond.selects RX12 yX12_payBy yX12_payBy ∈ gw := gw_priv (q := (⟨"TurningMilkModel", "payBy", "(I)I"⟩, 38)) (List.mem_of_getElem? (i := 122) (by decide +kernel)) rfl
theorem kp_123 : Cond.selects RX12 yX12_jugIn yX12_jugIn ∈ gw := gw_priv (q := (⟨"TurningMilkModel", "jugIn", "(II)I"⟩, 38)) (List.mem_of_getElem? (i := 123) (by decide +kernel)) rfl
theorem kp_124 : Cond.selects RX12 yX12_turnedResting yX12_turnedResting ∈ gw := gw_priv (q := (⟨"TurningMilkModel", "turnedResting", "(III)I"⟩, 38)) (List.mem_of_getElem? (i := 124) (by decide +kernel)) rfl
theorem kp_125 : Cond.selects RX12 yX12_fitting yX12_fitting ∈ gw := gw_priv (q := (⟨"TurningMilkModel", "fitting", "()I"⟩, 38)) (List.mem_of_getElem? (i := 125) (by decide +kernel)) rfl
theorem kp_126 : Cond.selects RX12 yX12_fitsTests yX12_fitsTests ∈ gw := gw_priv (q := (⟨"TurningMilkModel", "fitsTests", "(I)Z"⟩, 38)) (List.mem_of_getElem? (i := 126) (by decide +kernel)) rfl
theorem kp_127 : Cond.selects RX12 yX12_alikeBy yX12_alikeBy ∈ gw := gw_priv (q := (⟨"TurningMilkModel", "alikeBy", "(II)I"⟩, 38)) (List.mem_of_getElem? (i := 127) (by decide +kernel)) rfl
theorem kp_128 : Cond.selects RX12 yX12_fillsRows yX12_fillsRows ∈ gw := gw_priv (q := (⟨"TurningMilkModel", "fillsRows", "(I)V"⟩, 38)) (List.mem_of_getElem? (i := 128) (by decide +kernel)) rfl
theorem kp_129 : Cond.selects RX12 yX12_firstHand yX12_firstHand ∈ gw := gw_priv (q := (⟨"TurningMilkModel", "firstHand", "(III)I"⟩, 38)) (List.mem_of_getElem? (i := 129) (by decide +kernel)) rfl
theorem kp_130 : Cond.selects RX12 yX12_turnedIn yX12_turnedIn ∈ gw := gw_priv (q := (⟨"TurningMilkModel", "turnedIn", "(IZ)I"⟩, 38)) (List.mem_of_getElem? (i := 130) (by decide +kernel)) rfl
theorem kp_131 : Cond.selects RX12 yX12_turnedAll yX12_turnedAll ∈ gw := gw_priv (q := (⟨"TurningMilkModel", "turnedAll", "()I"⟩, 38)) (List.mem_of_getElem? (i := 131) (by decide +kernel)) rfl
theorem kp_132 : Cond.selects RX12 yX12_actsDrawn yX12_actsDrawn ∈ gw := gw_priv (q := (⟨"TurningMilkModel", "actsDrawn", "()V"⟩, 38)) (List.mem_of_getElem? (i := 132) (by decide +kernel)) rfl
theorem kp_133 : Cond.selects RX12 yX12_draw yX12_draw ∈ gw := gw_priv (q := (⟨"TurningMilkModel", "draw", "(I)I"⟩, 38)) (List.mem_of_getElem? (i := 133) (by decide +kernel)) rfl
