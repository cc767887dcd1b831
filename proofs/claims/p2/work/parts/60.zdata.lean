/-! DATA: methods, pools, cells, contracts and annotations, made by wip/p2 -/
/-- the methods: names, bytes, locals, answers -/
def zpM : List (MethodName × ByteArray × Nat × Option FieldType) := [
  (⟨"PushedIn", "act", "(III)I"⟩, prog_1_method_31_code, 4, some .int),
  (⟨"PushedIn", "along", "(III)I"⟩, prog_1_method_27_code, 6, some .int),
  (⟨"PushedIn", "away", "(II)I"⟩, prog_1_method_2_code, 5, some .int),
  (⟨"PushedIn", "breaks", "(III)I"⟩, prog_1_method_20_code, 4, some .int),
  (⟨"PushedIn", "came", "(II)I"⟩, prog_1_method_9_code, 3, some .int),
  (⟨"PushedIn", "cant", "(I)I"⟩, prog_1_method_10_code, 4, some .int),
  (⟨"PushedIn", "changed", "(II)I"⟩, prog_1_method_24_code, 4, some .int),
  (⟨"PushedIn", "count", "(I)I"⟩, prog_1_method_39_code, 2, some .int),
  (⟨"PushedIn", "element", "(II)J"⟩, prog_1_method_36_code, 3, some .long),
  (⟨"PushedIn", "feed", "(II)I"⟩, prog_1_method_5_code, 3, some .int),
  (⟨"PushedIn", "fewest", "(J)I"⟩, prog_1_method_16_code, 3, some .int),
  (⟨"PushedIn", "find", "(I)I"⟩, prog_1_method_22_code, 6, some .int),
  (⟨"PushedIn", "idle", "(II)I"⟩, prog_1_method_25_code, 5, some .int),
  (⟨"PushedIn", "isDigit", "(I)Z"⟩, prog_1_method_41_code, 1, some .boolean),
  (⟨"PushedIn", "isUnder", "(II)Z"⟩, prog_1_method_42_code, 4, some .boolean),
  (⟨"PushedIn", "judge", "(II)I"⟩, prog_1_method_14_code, 3, some .int),
  (⟨"PushedIn", "keep", "(II)I"⟩, prog_1_method_33_code, 3, some .int),
  (⟨"PushedIn", "kept", "(I)I"⟩, prog_1_method_21_code, 4, some .int),
  (⟨"PushedIn", "led", "(I)I"⟩, prog_1_method_23_code, 4, some .int),
  (⟨"PushedIn", "matter", "(III)I"⟩, prog_1_method_3_code, 4, some .int),
  (⟨"PushedIn", "next", "(III)I"⟩, prog_1_method_19_code, 6, some .int),
  (⟨"PushedIn", "of", "(II)I"⟩, prog_1_method_8_code, 3, some .int),
  (⟨"PushedIn", "pairs", "(II)I"⟩, prog_1_method_12_code, 3, some .int),
  (⟨"PushedIn", "passed", "(II)I"⟩, prog_1_method_11_code, 7, some .int),
  (⟨"PushedIn", "put", "(IIJ)I"⟩, prog_1_method_35_code, 6, some .int),
  (⟨"PushedIn", "redo", "()I"⟩, prog_1_method_30_code, 1, some .int),
  (⟨"PushedIn", "row", "(III)I"⟩, prog_1_method_34_code, 4, some .int),
  (⟨"PushedIn", "rule", "(III)I"⟩, prog_1_method_17_code, 4, some .int),
  (⟨"PushedIn", "seldom", "(III)I"⟩, prog_1_method_26_code, 6, some .int),
  (⟨"PushedIn", "shift", "(IIIII)I"⟩, prog_1_method_37_code, 7, some .int),
  (⟨"PushedIn", "stand", "(II)I"⟩, prog_1_method_28_code, 7, some .int),
  (⟨"PushedIn", "start", "(II)I"⟩, prog_1_method_13_code, 3, some .int),
  (⟨"PushedIn", "taken", "(II)I"⟩, prog_1_method_38_code, 4, some .int),
  (⟨"PushedIn", "text", "()I"⟩, prog_1_method_18_code, 2, some .int),
  (⟨"PushedIn", "trace", "(I)I"⟩, prog_1_method_32_code, 2, some .int),
  (⟨"PushedIn", "undo", "()I"⟩, prog_1_method_29_code, 1, some .int),
  (⟨"PushedIn", "whom", "(I)J"⟩, prog_1_method_15_code, 2, some .long),
  (⟨"PushedIn", "within", "(II)Z"⟩, prog_1_method_40_code, 2, some .boolean),
  (⟨"PushedIn", "yard", "(II)I"⟩, prog_1_method_4_code, 4, some .int),
  (⟨"PushedIn$Acts", "above", "(IIII)I"⟩, prog_2_method_5_code, 5, some .int),
  (⟨"PushedIn$Acts", "forget", "()V"⟩, prog_2_method_2_code, 1, none),
  (⟨"PushedIn$Acts", "own", "(III)I"⟩, prog_2_method_4_code, 4, some .int),
  (⟨"PushedIn$Acts", "perform", "(IIII)I"⟩, prog_2_method_3_code, 5, some .int),
  (⟨"PushedIn$Acts", "runBody", "(III)I"⟩, prog_2_method_7_code, 4, some .int),
  (⟨"PushedIn$Acts", "runFrom", "(IIII)I"⟩, prog_2_method_6_code, 7, some .int),
  (⟨"PushedIn$Changes", "again", "()V"⟩, prog_3_method_4_code, 1, none),
  (⟨"PushedIn$Changes", "back", "()V"⟩, prog_3_method_3_code, 1, none),
  (⟨"PushedIn$Changes", "dropOldest", "()V"⟩, prog_3_method_5_code, 1, none),
  (⟨"PushedIn$Changes", "make", "(III)I"⟩, prog_3_method_2_code, 5, some .int),
  (⟨"PushedIn$Comer", "hasStarts", "()Z"⟩, prog_4_method_2_code, 1, some .boolean),
  (⟨"PushedIn$Comer", "isStart", "(I)Z"⟩, prog_4_method_3_code, 2, some .boolean),
  (⟨"PushedIn$Comer", "served", "()I"⟩, prog_4_method_4_code, 1, some .int),
  (⟨"PushedIn$Comer", "tell", "(I)I"⟩, prog_4_method_5_code, 2, some .int),
  (⟨"PushedIn$Passing", "choose", "(J)Z"⟩, prog_6_method_6_code, 5, some .boolean),
  (⟨"PushedIn$Passing", "chosenAt", "(II)I"⟩, prog_6_method_8_code, 3, some .int),
  (⟨"PushedIn$Passing", "couldPass", "(LPushedIn$Comer;LPushedIn$Comer;)Z"⟩, prog_6_method_11_code, 3, some .boolean),
  (⟨"PushedIn$Passing", "fewestAmongChosen", "()I"⟩, prog_6_method_7_code, 7, some .int),
  (⟨"PushedIn$Passing", "firstMistold", "(I)I"⟩, prog_6_method_5_code, 4, some .int),
  (⟨"PushedIn$Passing", "latestEarlyOf", "(I)I"⟩, prog_6_method_10_code, 4, some .int),
  (⟨"PushedIn$Passing", "passedBy", "(LPushedIn$Comer;)J"⟩, prog_6_method_4_code, 5, some .long),
  (⟨"PushedIn$Passing", "passersOf", "(I)I"⟩, prog_6_method_9_code, 4, some .int),
  (⟨"PushedIn$Passing", "passes", "(LPushedIn$Comer;LPushedIn$Comer;I)Z"⟩, prog_6_method_2_code, 4, some .boolean),
  (⟨"PushedIn$Passing", "passesOn", "(II)I"⟩, prog_6_method_3_code, 6, some .int),
  (⟨"PushedIn$Places", "clear", "(I)V"⟩, prog_7_method_5_code, 2, none),
  (⟨"PushedIn$Places", "hasRange", "(III)Z"⟩, prog_7_method_10_code, 4, some .boolean),
  (⟨"PushedIn$Places", "holdRow", "(III)V"⟩, prog_7_method_7_code, 5, none),
  (⟨"PushedIn$Places", "holdRule", "(II)V"⟩, prog_7_method_6_code, 3, none),
  (⟨"PushedIn$Places", "holdsNothing", "(I)Z"⟩, prog_7_method_2_code, 2, some .boolean),
  (⟨"PushedIn$Places", "narrowed", "(IJ)J"⟩, prog_7_method_11_code, 4, some .long),
  (⟨"PushedIn$Places", "refuses", "(II)I"⟩, prog_7_method_8_code, 4, some .int),
  (⟨"PushedIn$Places", "refusesBoth", "(II)I"⟩, prog_7_method_9_code, 3, some .int),
  (⟨"PushedIn$Places", "ruleAt", "(I)I"⟩, prog_7_method_4_code, 2, some .int),
  (⟨"PushedIn$Rules", "add", "(IIII)V"⟩, prog_8_method_3_code, 5, none),
  (⟨"PushedIn$Rules", "breakOn", "(III)I"⟩, prog_8_method_8_code, 6, some .int),
  (⟨"PushedIn$Rules", "breaksOn", "(II)I"⟩, prog_8_method_7_code, 5, some .int),
  (⟨"PushedIn$Rules", "costOf", "(I)I"⟩, prog_8_method_9_code, 4, some .int),
  (⟨"PushedIn$Rules", "has", "(I)Z"⟩, prog_8_method_2_code, 2, some .boolean),
  (⟨"PushedIn$Rules", "isBreak", "(II)Z"⟩, prog_8_method_10_code, 4, some .boolean),
  (⟨"PushedIn$Rules", "nextAt", "(IIII)I"⟩, prog_8_method_5_code, 10, some .int),
  (⟨"PushedIn$Rules", "readText", "()I"⟩, prog_8_method_4_code, 3, some .int),
  (⟨"PushedIn$Rules", "scoreByText", "(ILPushedIn$Comer;II)I"⟩, prog_8_method_12_code, 5, some .int),
  (⟨"PushedIn$Rules", "scoreOf", "(ILPushedIn$Comer;II)I"⟩, prog_8_method_11_code, 6, some .int),
  (⟨"PushedIn$Rules", "wasNext", "(II)Z"⟩, prog_8_method_6_code, 4, some .boolean),
  (⟨"PushedIn$Survey", "alongOf", "(IIII)I"⟩, prog_9_method_12_code, 11, some .int),
  (⟨"PushedIn$Survey", "changedOn", "(I)I"⟩, prog_9_method_2_code, 4, some .int),
  (⟨"PushedIn$Survey", "changedOne", "(II)I"⟩, prog_9_method_3_code, 5, some .int),
  (⟨"PushedIn$Survey", "drawAbout", "()V"⟩, prog_9_method_10_code, 4, none),
  (⟨"PushedIn$Survey", "gather", "(I)V"⟩, prog_9_method_9_code, 4, none),
  (⟨"PushedIn$Survey", "isChanged", "(LPushedIn$Comer;I)Z"⟩, prog_9_method_4_code, 3, some .boolean),
  (⟨"PushedIn$Survey", "lookAheadOf", "(LPushedIn$Comer;)V"⟩, prog_9_method_6_code, 3, none),
  (⟨"PushedIn$Survey", "lookForIdle", "(II)V"⟩, prog_9_method_5_code, 5, none),
  (⟨"PushedIn$Survey", "seldomOf", "(IIII)I"⟩, prog_9_method_8_code, 8, some .int),
  (⟨"PushedIn$Survey", "someWaited", "(III)Z"⟩, prog_9_method_7_code, 6, some .boolean),
  (⟨"PushedIn$Survey", "unsureAt", "(II)I"⟩, prog_9_method_13_code, 6, some .int),
  (⟨"PushedIn$Survey", "waitOf", "(I)I"⟩, prog_9_method_11_code, 4, some .int),
  (⟨"PushedIn$Tape", "accept", "(I)Z"⟩, prog_10_method_6_code, 2, some .boolean),
  (⟨"PushedIn$Tape", "add", "(II)V"⟩, prog_10_method_2_code, 4, none),
  (⟨"PushedIn$Tape", "clear", "()V"⟩, prog_10_method_3_code, 1, none),
  (⟨"PushedIn$Tape", "readNumber", "(III)I"⟩, prog_10_method_7_code, 7, some .int),
  (⟨"PushedIn$Tape", "rewind", "()V"⟩, prog_10_method_4_code, 1, none),
  (⟨"PushedIn$Tape", "sign", "()I"⟩, prog_10_method_5_code, 1, some .int),
  (⟨"PushedIn$Tape", "stop", "()V"⟩, prog_10_method_8_code, 1, none),
  (⟨"PushedIn$Text", "addStep", "(II)V"⟩, prog_11_method_12_code, 3, none),
  (⟨"PushedIn$Text", "read", "()I"⟩, prog_11_method_2_code, 2, some .int),
  (⟨"PushedIn$Text", "readBoth", "(I)V"⟩, prog_11_method_7_code, 3, none),
  (⟨"PushedIn$Text", "readCompared", "(I)V"⟩, prog_11_method_8_code, 3, none),
  (⟨"PushedIn$Text", "readEither", "(I)V"⟩, prog_11_method_6_code, 3, none),
  (⟨"PushedIn$Text", "readLine", "()V"⟩, prog_11_method_5_code, 2, none),
  (⟨"PushedIn$Text", "readOperand", "(I)V"⟩, prog_11_method_11_code, 4, none),
  (⟨"PushedIn$Text", "readProduct", "(I)V"⟩, prog_11_method_10_code, 4, none),
  (⟨"PushedIn$Text", "readSum", "(I)V"⟩, prog_11_method_9_code, 4, none),
  (⟨"PushedIn$Text", "worth", "([I)I"⟩, prog_11_method_3_code, 7, some .int),
  (⟨"PushedIn$Yard", "addAway", "(III)V"⟩, prog_12_method_5_code, 4, none),
  (⟨"PushedIn$Yard", "become", "(III)V"⟩, prog_12_method_9_code, 4, none),
  (⟨"PushedIn$Yard", "has", "(I)Z"⟩, prog_12_method_2_code, 2, some .boolean),
  (⟨"PushedIn$Yard", "hasComersOn", "(I)Z"⟩, prog_12_method_3_code, 3, some .boolean),
  (⟨"PushedIn$Yard", "isAway", "(II)Z"⟩, prog_12_method_6_code, 4, some .boolean),
  (⟨"PushedIn$Yard", "isBefore", "(II)Z"⟩, prog_12_method_12_code, 5, some .boolean),
  (⟨"PushedIn$Yard", "numberOf", "(II)I"⟩, prog_12_method_8_code, 3, some .int),
  (⟨"PushedIn$Yard", "oneAhead", "(I)I"⟩, prog_12_method_11_code, 6, some .int),
  (⟨"PushedIn$Yard", "settle", "()V"⟩, prog_12_method_10_code, 2, none),
  (⟨"PushedIn$Yard", "settleStarts", "(LPushedIn$Comer;)V"⟩, prog_12_method_13_code, 4, none),
  (⟨"PushedIn$Yard", "standsAt", "(LPushedIn$Comer;I)Z"⟩, prog_12_method_7_code, 3, some .boolean),
  (⟨"PushedInModel", "above", "(I)I"⟩, prog_14_method_69_code, 1, some .int),
  (⟨"PushedInModel", "act", "(III)I"⟩, prog_14_method_75_code, 4, some .int),
  (⟨"PushedInModel", "addComer", "()V"⟩, prog_14_method_29_code, 1, none),
  (⟨"PushedInModel", "aheadOf", "(I)I"⟩, prog_14_method_33_code, 4, some .int),
  (⟨"PushedInModel", "along", "(III)I"⟩, prog_14_method_67_code, 9, some .int),
  (⟨"PushedInModel", "asSort", "(IJ)J"⟩, prog_14_method_81_code, 3, some .long),
  (⟨"PushedInModel", "away", "(II)I"⟩, prog_14_method_9_code, 3, some .int),
  (⟨"PushedInModel", "becomes", "(II)I"⟩, prog_14_method_3_code, 5, some .int),
  (⟨"PushedInModel", "begins", "(I)V"⟩, prog_14_method_70_code, 2, none),
  (⟨"PushedInModel", "both", "()I"⟩, prog_14_method_18_code, 3, some .int),
  (⟨"PushedInModel", "breaks", "(III)I"⟩, prog_14_method_58_code, 6, some .int),
  (⟨"PushedInModel", "byteAt", "()I"⟩, prog_14_method_14_code, 1, some .int),
  (⟨"PushedInModel", "came", "(II)I"⟩, prog_14_method_37_code, 3, some .int),
  (⟨"PushedInModel", "cant", "(I)I"⟩, prog_14_method_38_code, 3, some .int),
  (⟨"PushedInModel", "changed", "(II)I"⟩, prog_14_method_62_code, 5, some .int),
  (⟨"PushedInModel", "chooseFrom", "(II)V"⟩, prog_14_method_48_code, 8, none),
  (⟨"PushedInModel", "comer", "()I"⟩, prog_14_method_30_code, 1, some .int),
  (⟨"PushedInModel", "comers", "(III)I"⟩, prog_14_method_31_code, 7, some .int),
  (⟨"PushedInModel", "compared", "()I"⟩, prog_14_method_19_code, 4, some .int),
  (⟨"PushedInModel", "costsAs", "(II)I"⟩, prog_14_method_73_code, 4, some .int),
  (⟨"PushedInModel", "count", "(I)I"⟩, prog_14_method_86_code, 2, some .int),
  (⟨"PushedInModel", "doesBreak", "(II)Z"⟩, prog_14_method_57_code, 3, some .boolean),
  (⟨"PushedInModel", "earlyOf", "(I)I"⟩, prog_14_method_35_code, 6, some .int),
  (⟨"PushedInModel", "either", "()I"⟩, prog_14_method_17_code, 3, some .int),
  (⟨"PushedInModel", "element", "(II)J"⟩, prog_14_method_83_code, 3, some .long),
  (⟨"PushedInModel", "feed", "(II)I"⟩, prog_14_method_13_code, 4, some .int),
  (⟨"PushedInModel", "fewest", "(J)I"⟩, prog_14_method_49_code, 4, some .int),
  (⟨"PushedInModel", "find", "(I)I"⟩, prog_14_method_60_code, 7, some .int),
  (⟨"PushedInModel", "findStarts", "()V"⟩, prog_14_method_39_code, 2, none),
  (⟨"PushedInModel", "goesAhead", "(II)Z"⟩, prog_14_method_32_code, 3, some .boolean),
  (⟨"PushedInModel", "holdsAs", "(II)I"⟩, prog_14_method_72_code, 4, some .int),
  (⟨"PushedInModel", "idle", "(II)I"⟩, prog_14_method_64_code, 8, some .int),
  (⟨"PushedInModel", "isAway", "(II)Z"⟩, prog_14_method_10_code, 4, some .boolean),
  (⟨"PushedInModel", "isComer", "(I)Z"⟩, prog_14_method_28_code, 2, some .boolean),
  (⟨"PushedInModel", "isDay", "(I)Z"⟩, prog_14_method_6_code, 1, some .boolean),
  (⟨"PushedInModel", "isDoor", "(I)Z"⟩, prog_14_method_7_code, 1, some .boolean),
  (⟨"PushedInModel", "isLater", "(II)Z"⟩, prog_14_method_40_code, 3, some .boolean),
  (⟨"PushedInModel", "isMinute", "(I)Z"⟩, prog_14_method_8_code, 1, some .boolean),
  (⟨"PushedInModel", "isRule", "(I)Z"⟩, prog_14_method_50_code, 2, some .boolean),
  (⟨"PushedInModel", "isShelf", "(I)Z"⟩, prog_14_method_77_code, 1, some .boolean),
  (⟨"PushedInModel", "judge", "(II)I"⟩, prog_14_method_46_code, 7, some .int),
  (⟨"PushedInModel", "keep", "(II)I"⟩, prog_14_method_78_code, 3, some .int),
  (⟨"PushedInModel", "kept", "(I)I"⟩, prog_14_method_59_code, 5, some .int),
  (⟨"PushedInModel", "kindOf", "(I)I"⟩, prog_14_method_51_code, 2, some .int),
  (⟨"PushedInModel", "lateOf", "(I)I"⟩, prog_14_method_34_code, 2, some .int),
  (⟨"PushedInModel", "led", "(I)I"⟩, prog_14_method_61_code, 4, some .int),
  (⟨"PushedInModel", "matter", "(III)I"⟩, prog_14_method_11_code, 5, some .int),
  (⟨"PushedInModel", "nameOf", "(I)I"⟩, prog_14_method_22_code, 1, some .int),
  (⟨"PushedInModel", "next", "(III)I"⟩, prog_14_method_56_code, 4, some .int),
  (⟨"PushedInModel", "nextOf", "(IIII)I"⟩, prog_14_method_55_code, 9, some .int),
  (⟨"PushedInModel", "numberRead", "(III)I"⟩, prog_14_method_27_code, 6, some .int),
  (⟨"PushedInModel", "of", "(II)I"⟩, prog_14_method_36_code, 3, some .int),
  (⟨"PushedInModel", "one", "()I"⟩, prog_14_method_23_code, 5, some .int),
  (⟨"PushedInModel", "pairs", "(II)I"⟩, prog_14_method_43_code, 6, some .int),
  (⟨"PushedInModel", "passed", "(II)I"⟩, prog_14_method_42_code, 3, some .int),
  (⟨"PushedInModel", "passes", "(III)Z"⟩, prog_14_method_41_code, 4, some .boolean),
  (⟨"PushedInModel", "passesAsTold", "(II)Z"⟩, prog_14_method_45_code, 3, some .boolean),
  (⟨"PushedInModel", "picksAs", "(II)I"⟩, prog_14_method_71_code, 3, some .int),
  (⟨"PushedInModel", "product", "()I"⟩, prog_14_method_21_code, 4, some .int),
  (⟨"PushedInModel", "put", "(IIJ)I"⟩, prog_14_method_82_code, 6, some .int),
  (⟨"PushedInModel", "redo", "()I"⟩, prog_14_method_5_code, 1, some .int),
  (⟨"PushedInModel", "refusal", "(II)I"⟩, prog_14_method_80_code, 3, some .int),
  (⟨"PushedInModel", "row", "(III)I"⟩, prog_14_method_79_code, 5, some .int),
  (⟨"PushedInModel", "rule", "(III)I"⟩, prog_14_method_52_code, 4, some .int),
  (⟨"PushedInModel", "score", "(IIII)I"⟩, prog_14_method_54_code, 6, some .int),
  (⟨"PushedInModel", "seldom", "(III)I"⟩, prog_14_method_66_code, 12, some .int),
  (⟨"PushedInModel", "shift", "(IIIII)I"⟩, prog_14_method_84_code, 7, some .int),
  (⟨"PushedInModel", "stand", "(II)I"⟩, prog_14_method_68_code, 9, some .int),
  (⟨"PushedInModel", "start", "(II)I"⟩, prog_14_method_44_code, 3, some .int),
  (⟨"PushedInModel", "sums", "()I"⟩, prog_14_method_20_code, 4, some .int),
  (⟨"PushedInModel", "taken", "(II)I"⟩, prog_14_method_85_code, 4, some .int),
  (⟨"PushedInModel", "takes", "(I)Z"⟩, prog_14_method_16_code, 2, some .boolean),
  (⟨"PushedInModel", "tellsAs", "(II)I"⟩, prog_14_method_74_code, 4, some .int),
  (⟨"PushedInModel", "text", "()I"⟩, prog_14_method_25_code, 4, some .int),
  (⟨"PushedInModel", "textScore", "(IIII)I"⟩, prog_14_method_53_code, 5, some .int),
  (⟨"PushedInModel", "trace", "(I)I"⟩, prog_14_method_76_code, 2, some .int),
  (⟨"PushedInModel", "undo", "()I"⟩, prog_14_method_4_code, 1, some .int),
  (⟨"PushedInModel", "waits", "(III)Z"⟩, prog_14_method_63_code, 6, some .boolean),
  (⟨"PushedInModel", "waitsIn", "(II)I"⟩, prog_14_method_65_code, 6, some .int),
  (⟨"PushedInModel", "wants", "(I)V"⟩, prog_14_method_26_code, 2, none),
  (⟨"PushedInModel", "whom", "(I)J"⟩, prog_14_method_47_code, 5, some .long),
  (⟨"PushedInModel", "within", "(JJJ)Z"⟩, prog_14_method_1_code, 6, some .boolean),
  (⟨"PushedInModel", "workOut", "(II)I"⟩, prog_14_method_24_code, 8, some .int),
  (⟨"PushedInModel", "wrong", "()I"⟩, prog_14_method_15_code, 1, some .int),
  (⟨"PushedInModel", "yard", "(II)I"⟩, prog_14_method_12_code, 4, some .int),
  (⟨"java/lang/Integer", "bitCount", "(I)I"⟩, prog_16_method_49_code, 1, some .int),
  (⟨"java/lang/Math", "abs", "(I)I"⟩, prog_17_method_59_code, 1, some .int),
  (⟨"java/lang/Math", "max", "(II)I"⟩, prog_17_method_65_code, 2, some .int),
  (⟨"java/lang/Math", "min", "(II)I"⟩, prog_17_method_69_code, 2, some .int)]
def zpMT : zMT := fun n => zpM.getD n (⟨"", "", ""⟩, ⟨#[]⟩, 0, none)

/-- PushedIn -/
def zpP0 : zPool := ([(10, 11, 0, 9), (19, 11, 1, 9), (37, 11, 3, 9), (44, 11, 4, 9), (53, 11, 5, 9), (60, 11, 6, 9), (67, 11, 7, 9), (74, 11, 8, 9), (82, 10, 7, 0), (90, 10, 3, 9), (98, 10, 2, 9), (101, 10, 8, 0), (104, 10, 10, 1), (108, 8, 2, 0), (115, 10, 1, 0), (118, 10, 0, 9), (154, 2, 2, 0), (157, 2, 0, 0), (170, 2, 8, 0), (190, 6, 8, 0), (226, 7, 5, 0), (229, 7, 6, 0), (241, 1, 5, 0), (247, 1, 6, 0), (254, 6, 7, 9), (260, 0, 1, 0), (268, 0, 0, 9), (283, 5, 3, 9)], [], [(180, (-1)), (293, (-9223372036854775808))], [(78, 1, 37, 2, 11), (86, 0, 112, 3, 10), (94, 0, 48, 3, 1), (111, 0, 96, 2, 8), (126, 0, 97, 0, 8), (132, 0, 67, 1, 5), (145, 0, 114, 1, 10), (148, 0, 52, 1, 2), (158, 0, 49, 0, 2), (162, 0, 61, 3, 4), (166, 0, 62, 2, 4), (173, 0, 57, 1, 4), (176, 0, 59, 1, 4), (182, 0, 53, 1, 4), (186, 0, 56, 0, 4), (191, 0, 72, 4, 6), (194, 0, 79, 0, 6), (197, 0, 76, 1, 6), (198, 0, 78, 4, 6), (202, 0, 74, 2, 6), (205, 0, 73, 3, 6), (208, 0, 115, 1, 10), (211, 0, 75, 1, 6), (214, 0, 82, 2, 6), (217, 0, 84, 1, 7), (220, 0, 85, 2, 7), (223, 0, 90, 2, 7), (232, 0, 91, 4, 7), (235, 0, 83, 4, 7), (238, 0, 93, 2, 7), (244, 0, 46, 0, 1), (248, 0, 45, 0, 1), (251, 0, 40, 0, 0), (257, 0, 42, 4, 0), (263, 1, 211, 2, 0), (271, 0, 63, 1, 5), (274, 0, 66, 2, 5), (277, 0, 65, 3, 5), (280, 0, 69, 2, 5), (287, 0, 68, 2, 5), (295, 0, 70, 2, 5), (298, 0, 64, 3, 5), (302, 4, 0, 5, 0), (308, 0, 71, 1, 5), (311, 1, 14, 2, 11)], [(314, 1000)], [])
/-- PushedIn$Acts -/
def zpP1 : zPool := ([(9, 0, 0, 9), (15, 0, 1, 0), (19, 0, 2, 0), (22, 0, 3, 0)], [], [], [(25, 0, 41, 3, 0), (29, 0, 44, 4, 0), (36, 2, 37, 2, 11), (43, 0, 43, 3, 0), (46, 0, 39, 4, 0)], [(33, 1000), (40, 1001)], [])
/-- PushedIn$Changes -/
def zpP2 : zPool := ([(9, 1, 1, 9), (15, 1, 2, 9), (18, 1, 3, 9), (21, 1, 4, 9), (24, 1, 0, 9), (34, 1, 5, 0), (41, 1, 6, 0)], [], [], [(28, 0, 118, 2, 10), (38, 0, 47, 0, 1), (44, 0, 113, 3, 10), (48, 4, 0, 5, 0)], [], [])
/-- PushedIn$Comer -/
def zpP3 : zPool := ([(9, 2, 10, 0), (19, 2, 11, 0), (22, 2, 8, 0), (25, 2, 0, 0), (28, 2, 1, 0), (31, 2, 2, 0), (34, 2, 3, 0), (37, 2, 4, 0), (40, 2, 5, 0), (43, 2, 6, 0), (46, 2, 7, 0), (49, 2, 9, 0)], [], [], [(15, 0, 49, 0, 2)], [], [])
/-- PushedIn$Passing -/
def zpP4 : zPool := ([(11, 4, 1, 9), (15, 4, 2, 9), (18, 4, 3, 9), (21, 4, 0, 9), (39, 2, 11, 0), (43, 2, 10, 0), (46, 10, 1, 0), (51, 10, 0, 9), (55, 2, 0, 0), (62, 2, 8, 0), (69, 4, 4, 0), (94, 10, 10, 1), (98, 2, 7, 0), (101, 2, 1, 0), (104, 10, 9, 0)], [], [], [(25, 0, 55, 2, 4), (29, 0, 51, 0, 2), (35, 0, 49, 0, 2), (58, 0, 61, 3, 4), (65, 0, 50, 1, 2), (70, 0, 54, 2, 4), (74, 0, 60, 1, 4), (78, 0, 58, 1, 4), (81, 1, 208, 1, 0), (86, 1, 211, 2, 0), (91, 1, 210, 2, 0)], [], [])
/-- PushedIn$Places -/
def zpP5 : zPool := ([(9, 5, 0, 9), (15, 5, 1, 9), (18, 5, 2, 9), (23, 5, 3, 9)], [], [], [(26, 0, 70, 2, 5), (30, 2, 37, 2, 11), (34, 0, 67, 1, 5)], [], [])
/-- PushedIn$Rules -/
def zpP6 : zPool := ([(19, 6, 1, 9), (25, 6, 2, 9), (28, 6, 3, 9), (31, 6, 4, 9), (34, 6, 7, 9), (37, 6, 0, 9), (44, 6, 5, 2), (48, 6, 6, 2), (51, 6, 8, 0), (62, 10, 1, 0), (65, 10, 0, 9), (69, 2, 0, 0), (74, 2, 1, 0), (88, 2, 3, 0), (102, 2, 5, 0), (105, 2, 6, 0), (108, 10, 2, 9), (111, 2, 4, 0), (117, 2, 7, 0)], [], [], [(55, 2, 37, 2, 11), (59, 0, 103, 0, 9), (77, 0, 51, 0, 2), (80, 0, 122, 2, 10), (84, 0, 81, 4, 6), (91, 0, 78, 4, 6), (95, 0, 77, 2, 6), (98, 0, 49, 0, 2), (114, 0, 80, 4, 6), (120, 0, 111, 1, 9)], [], [])
/-- PushedIn$Survey -/
def zpP7 : zPool := ([(9, 7, 1, 9), (15, 7, 2, 9), (18, 7, 0, 9), (22, 10, 1, 0), (28, 10, 0, 9), (36, 2, 0, 0), (41, 2, 7, 0), (44, 2, 3, 0), (47, 7, 5, 0), (50, 7, 6, 0), (57, 2, 9, 0), (68, 2, 2, 0), (71, 2, 11, 0), (82, 2, 1, 0), (85, 10, 9, 0), (88, 2, 10, 0), (98, 7, 4, 0), (108, 7, 3, 0), (115, 2, 5, 0)], [(118, 1103515245)], [], [(32, 0, 88, 2, 7), (53, 0, 49, 0, 2), (60, 0, 114, 1, 10), (64, 0, 89, 1, 7), (74, 0, 116, 2, 10), (78, 0, 92, 3, 7), (91, 0, 122, 2, 10), (94, 0, 87, 1, 7), (101, 0, 94, 1, 7), (105, 0, 86, 0, 7), (111, 0, 51, 0, 2), (119, 1, 209, 1, 0)], [], [])
/-- PushedIn$Tape -/
def zpP8 : zPool := ([(9, 8, 0, 9), (15, 8, 2, 0), (19, 8, 1, 0), (22, 8, 3, 0)], [], [], [(25, 0, 100, 0, 8), (29, 2, 13, 1, 11), (33, 0, 101, 0, 8)], [], [])
/-- PushedIn$Text -/
def zpP9 : zPool := ([(11, 9, 1, 9), (15, 9, 2, 9), (18, 9, 3, 9), (21, 9, 0, 9), (25, 9, 4, 0), (48, 8, 3, 0)], [], [], [(29, 0, 99, 0, 8), (34, 0, 107, 0, 9), (37, 0, 95, 1, 8), (41, 0, 100, 0, 8), (45, 0, 101, 0, 8), (55, 0, 106, 1, 9), (59, 0, 102, 2, 9), (63, 0, 104, 1, 9), (66, 0, 105, 1, 9), (69, 0, 110, 1, 9), (72, 0, 109, 1, 9), (75, 0, 108, 1, 9), (80, 3, 0, 1, 0), (86, 2, 13, 1, 11), (89, 0, 98, 3, 8)], [], [(78, 2000)])
/-- PushedIn$Yard -/
def zpP10 : zPool := ([(11, 10, 0, 9), (17, 10, 2, 9), (21, 10, 3, 9), (24, 10, 4, 9), (27, 10, 5, 9), (30, 10, 6, 9), (34, 10, 1, 0), (42, 2, 0, 0), (52, 10, 7, 0), (55, 10, 10, 1), (59, 2, 7, 0), (66, 2, 1, 0), (69, 10, 9, 0), (76, 2, 9, 0), (83, 2, 3, 0), (89, 2, 2, 0), (98, 2, 4, 0), (101, 2, 10, 0), (104, 2, 11, 0)], [], [], [(38, 2, 37, 2, 11), (49, 0, 120, 0, 10), (62, 0, 114, 1, 10), (72, 0, 119, 1, 10), (79, 0, 121, 1, 10), (86, 0, 117, 2, 10), (92, 1, 210, 2, 0)], [], [])
/-- PushedInModel -/
def zpP11 : zPool := ([(7, 12, 0, 9), (13, 12, 1, 9), (16, 12, 2, 9), (19, 12, 3, 9), (22, 12, 7, 9), (25, 12, 8, 9), (28, 12, 9, 9), (31, 12, 12, 9), (34, 12, 14, 9), (37, 12, 21, 9), (40, 12, 23, 9), (43, 12, 24, 9), (46, 12, 25, 9), (49, 12, 26, 9), (52, 12, 27, 9), (55, 12, 28, 9), (58, 12, 29, 9), (61, 12, 30, 9), (64, 12, 31, 9), (67, 12, 32, 9), (70, 12, 33, 9), (73, 12, 34, 9), (76, 12, 35, 9), (79, 12, 39, 9), (82, 12, 40, 9), (85, 12, 41, 9), (88, 12, 42, 9), (91, 12, 43, 9), (94, 12, 44, 9), (97, 12, 45, 9), (100, 12, 49, 9), (103, 12, 50, 9), (106, 12, 51, 9), (110, 12, 52, 9), (113, 12, 15, 0), (117, 12, 5, 0), (120, 12, 4, 0), (138, 12, 6, 0), (153, 12, 10, 0), (156, 12, 11, 0), (161, 12, 13, 0), (164, 12, 17, 0), (167, 12, 18, 0), (170, 12, 16, 0), (173, 12, 19, 0), (198, 12, 20, 0), (214, 12, 22, 0), (272, 12, 37, 0), (275, 12, 36, 0), (282, 12, 38, 0), (312, 12, 46, 0), (321, 12, 48, 0), (327, 12, 47, 0)], [(311, 1103515245)], [(123, 3), (129, 719), (141, 5), (143, 99), (149, 2), (151, 30), (159, 4), (231, 12), (233, 7), (267, (-1)), (285, 9999), (306, 200), (345, (-9223372036854775808))], [(125, 1, 204, 3, 12), (131, 1, 158, 1, 12), (135, 1, 160, 1, 12), (145, 0, 130, 2, 12), (176, 0, 134, 0, 12), (180, 0, 132, 0, 12), (183, 0, 194, 1, 12), (186, 0, 141, 0, 12), (189, 0, 192, 0, 12), (192, 0, 181, 0, 12), (195, 0, 175, 0, 12), (201, 0, 206, 0, 12), (204, 0, 146, 0, 12), (207, 1, 170, 1, 12), (211, 0, 205, 2, 12), (217, 0, 173, 3, 12), (221, 0, 202, 1, 12), (225, 0, 125, 0, 12), (228, 1, 162, 1, 12), (235, 0, 152, 2, 12), (239, 0, 126, 1, 12), (242, 0, 155, 2, 12), (245, 0, 167, 1, 12), (248, 0, 156, 1, 12), (251, 0, 145, 1, 12), (254, 1, 157, 1, 12), (257, 0, 159, 2, 12), (260, 0, 151, 0, 12), (263, 0, 178, 3, 12), (269, 0, 179, 2, 12), (278, 0, 138, 2, 12), (287, 0, 197, 4, 12), (291, 0, 187, 4, 12), (294, 0, 161, 1, 12), (297, 0, 172, 4, 12), (300, 0, 144, 2, 12), (303, 0, 200, 3, 12), (308, 0, 201, 2, 12), (315, 0, 131, 1, 12), (318, 0, 180, 2, 12), (324, 0, 153, 2, 12), (330, 0, 142, 2, 12), (333, 0, 195, 2, 12), (336, 0, 184, 2, 12), (339, 1, 128, 2, 12), (347, 0, 166, 1, 12), (350, 1, 123, 1, 12)], [], [])
/-- java/lang/Integer -/
def zpP12 : zPool := ([], [(265, 1431655765), (266, 858993459), (267, 252645135)], [], [], [], [])
/-- java/lang/Math -/
def zpP13 : zPool := ([], [], [], [], [], [])

def zpZ : zZ := ([
  (0, 0, (0, 11, 0, [(2, 1, 1), (2, 2, 2), (2, 3, 3), (2, 4, 4), (2, 5, 5), (2, 6, 6), (2, 7, 7), (2, 8, 8), (2, 9, 9)])),
  (1, 1, (0, 10, 0, [(2, 12, 12), (3, 1, 0), (2, 13, 13), (2, 14, 14), (2, 15, 15), (2, 16, 16), (2, 17, 17), (0, 0, 12), (0, 0, 3), (0, (-2147483648), 2147483647), (0, 0, 1)])),
  (2, 2, (0, 8, 0, [(2, 18, 18), (0, 0, 60), (0, 0, 60), (0, (-1), 60)])),
  (3, 3, (0, 3, 0, [(2, 2, 2)])),
  (4, 4, (0, 1, 0, [(2, 1, 1), (2, 19, 19), (2, 20, 20), (2, 21, 21), (2, 22, 22), (0, 0, 40), (0, 0, 40)])),
  (5, 5, (0, 4, 0, [(2, 1, 1), (2, 23, 23), (2, 24, 24), (2, 25, 25), (0, 0, 6)])),
  (6, 6, (0, 6, 0, [(2, 1, 1), (2, 26, 26), (2, 27, 27), (2, 28, 28), (2, 29, 29), (2, 10, 11), (2, 10, 11), (2, 30, 30), (0, 0, 20)])),
  (7, 7, (0, 7, 0, [(2, 1, 1), (2, 37, 37), (2, 38, 38), (0, 0, 40), (0, (-2147483648), 2147483647), (0, (-2147483648), 2147483647), (0, (-2147483648), 2147483647)])),
  (8, 8, (0, 0, 0, [(2, 39, 39), (0, 0, 2147483647), (0, (-2147483648), 2147483647), (7, 0, 7)])),
  (9, 9, (0, 5, 0, [(2, 40, 40), (2, 41, 41), (2, 42, 42), (2, 43, 43)])),
  (10, 11, (0, 9, 0, [(2, 2, 2), (4, 21, 0), (4, 23, 0), (4, 25, 0), (0, 0, 61)])),
  (12, 12, (4, 3, 40, [(0, 50, 0)])),
  (13, 13, (1, 0, 6, [(0, (-2147483648), 2147483647)])),
  (14, 14, (1, 0, 6, [(0, (-2147483648), 2147483647)])),
  (15, 15, (1, 0, 12, [(0, (-2147483648), 2147483647)])),
  (16, 16, (1, 0, 12, [(0, (-2147483648), 2147483647)])),
  (17, 17, (1, 0, 12, [(0, (-2147483648), 2147483647)])),
  (18, 18, (2, 1, 60, [(0, (-128), 127)])),
  (19, 19, (1, 0, 40, [(0, (-2147483648), 2147483647)])),
  (20, 20, (1, 0, 40, [(0, (-2147483648), 2147483647)])),
  (21, 21, (1, 0, 40, [(0, (-2147483648), 2147483647)])),
  (22, 22, (1, 0, 40, [(0, (-2147483648), 2147483647)])),
  (23, 23, (1, 0, 6, [(0, 0, 39)])),
  (24, 24, (1, 0, 6, [(0, (-2147483648), 2147483647)])),
  (25, 25, (1, 0, 64, [(0, (-2147483648), 2147483647)])),
  (26, 26, (1, 0, 8, [(0, (-2147483648), 2147483647)])),
  (27, 27, (1, 0, 20, [(0, (-2147483648), 2147483647)])),
  (28, 28, (1, 0, 20, [(0, (-2147483648), 2147483647)])),
  (29, 29, (1, 0, 20, [(0, (-2147483648), 2147483647)])),
  (30, 30, (1, 0, 20, [(0, 0, 7)])),
  (31, 32, (1, 0, 61, [(0, (-2147483648), 2147483647)])),
  (33, 34, (1, 0, 61, [(0, (-2147483648), 2147483647)])),
  (35, 36, (1, 0, 61, [(0, (-2147483648), 2147483647)])),
  (37, 37, (1, 0, 40, [(0, (-2147483648), 2147483647)])),
  (38, 38, (1, 0, 40, [(0, (-2147483648), 2147483647)])),
  (39, 39, (1, 0, 24, [(0, (-2147483648), 2147483647)])),
  (40, 40, (1, 0, 6, [(0, (-2147483648), 2147483647)])),
  (41, 41, (1, 0, 6, [(0, (-2147483648), 2147483647)])),
  (42, 42, (1, 0, 6, [(0, 0, 60)])),
  (43, 43, (5, 4, 6, [(0, 44, 0)])),
  (44, 49, (3, 2, 60, [])),
  (50, 89, (0, 2, 0, [(0, (-2147483648), 2147483647), (0, (-2147483648), 2147483647), (0, (-2147483648), 2147483647), (0, (-2147483648), 2147483647), (5, 0, 5), (0, (-2147483648), 2147483647), (0, (-2147483648), 2147483647), (0, (-2147483648), 2147483647), (0, (-2147483648), 2147483647), (0, (-1), 39), (0, (-2147483648), 2147483647), (0, (-2147483648), 2147483647)])),
  (90, 90, (0, 12, 0, [(2, 91, 91), (2, 92, 92), (2, 93, 93), (2, 94, 94), (0, 0, 40), (0, 0, 40), (0, 0, 12), (2, 95, 95), (2, 96, 96), (2, 97, 97), (0, 0, 3), (0, 0, 1), (2, 98, 98), (0, 0, 60), (2, 99, 99), (0, (-1), 60), (0, (-1), 0), (0, 0, 60), (0, 0, 60), (0, (-1), 60), (0, 0, 6), (2, 100, 100), (0, 0, 40), (2, 101, 101), (2, 102, 102), (2, 103, 103), (2, 104, 104), (2, 105, 105), (2, 106, 106), (2, 107, 107), (2, 108, 108), (2, 109, 109), (2, 110, 110), (2, 111, 111), (2, 112, 112), (2, 113, 113), (0, 0, 6), (0, (-2147483648), 2147483647), (0, 0, 20), (2, 114, 114), (2, 115, 115), (2, 116, 116), (2, 117, 117), (2, 118, 118), (2, 119, 119), (2, 120, 120), (0, 0, 2147483647), (0, 0, 7), (0, (-2147483648), 2147483647), (2, 121, 121), (2, 122, 122), (2, 123, 123), (2, 124, 124)])),
  (91, 91, (1, 0, 53, [(0, (-2147483648), 2147483647)])),
  (92, 92, (1, 0, 40, [(0, 0, 52)])),
  (93, 93, (1, 0, 40, [(0, (-2147483648), 2147483647)])),
  (94, 94, (1, 0, 40, [(0, (-2147483648), 2147483647)])),
  (95, 95, (1, 0, 12, [(0, (-2147483648), 2147483647)])),
  (96, 96, (1, 0, 12, [(0, (-2147483648), 2147483647)])),
  (97, 97, (1, 0, 12, [(0, (-2147483648), 2147483647)])),
  (98, 98, (1, 0, 60, [(0, 0, 255)])),
  (99, 99, (1, 0, 60, [(0, 0, 255)])),
  (100, 100, (1, 0, 8, [(0, (-2147483648), 2147483647)])),
  (101, 101, (1, 0, 40, [(0, (-2147483648), 2147483647)])),
  (102, 102, (1, 0, 40, [(0, (-2147483648), 2147483647)])),
  (103, 103, (1, 0, 40, [(0, (-2147483648), 2147483647)])),
  (104, 104, (1, 0, 40, [(0, 0, 5)])),
  (105, 105, (1, 0, 40, [(0, (-2147483648), 2147483647)])),
  (106, 106, (1, 0, 40, [(0, (-2147483648), 2147483647)])),
  (107, 107, (1, 0, 40, [(0, (-2147483648), 2147483647)])),
  (108, 108, (1, 0, 40, [(0, (-2147483648), 2147483647)])),
  (109, 109, (1, 0, 7, [(0, (-2147483648), 2147483647)])),
  (110, 110, (1, 0, 40, [(0, (-2147483648), 2147483647)])),
  (111, 111, (1, 0, 40, [(0, (-2147483648), 2147483647)])),
  (112, 112, (1, 0, 6, [(0, 0, 39)])),
  (113, 113, (1, 0, 6, [(0, (-2147483648), 2147483647)])),
  (114, 114, (1, 0, 20, [(0, 0, 7)])),
  (115, 115, (1, 0, 20, [(0, (-2147483648), 2147483647)])),
  (116, 116, (1, 0, 20, [(0, (-2147483648), 2147483647)])),
  (117, 117, (1, 0, 20, [(0, (-2147483648), 2147483647)])),
  (118, 118, (1, 0, 40, [(0, 0, 39)])),
  (119, 119, (1, 0, 40, [(0, (-2147483648), 2147483647)])),
  (120, 120, (1, 0, 24, [(0, (-2147483648), 2147483647)])),
  (121, 121, (1, 0, 6, [(0, (-1), 24)])),
  (122, 122, (1, 0, 6, [(0, 0, 60)])),
  (123, 123, (3, 2, 360, [])),
  (124, 124, (3, 2, 60, []))], 50, 2)
def zpRS : List (List Int) := [[(-1), 0, 0, 1, 1, 0, 3, 0], [1, 10, 11, 2, 20, 0, 0, 0, 0, 0, 30, 0, 0, 40, 0, 0, 50, 0, 0, 0, 0, 0, 0, 60, 71, 70, 0, 0, 0, 0, 80, 0]]

/-- PushedIn$Yard.isBefore () -/
def zpC0 : zC := (117, (1, 40), ([(0, 1, 0, 0), (0, 2, 0, 0)], ([[(0, 0)], [(0, 40)], [(0, 39)], [(0, 39)]], [(0, 1, (-1)), (2, 1, (-1)), (3, 1, (-1))], [(3, 0, 1, 0, 0), (1, 2, 0, 0, 0), (1, 3, 0, 0, 0), (0, 0, 0, 0, 0), (0, 0, 0, 0, 0)], [], [], [])), [([], ([[(0, 0)], [(0, 40)], [(0, 39)], [(0, 39)]], [], [], [(1, 0, 0, 0, 0)], [], [])), ([], ([[(0, 0)], [(0, 40)], [(0, 39)], [(0, 39)]], [], [], [(1, 0, 1, 0, 0)], [], []))], [])
def zpA0 : zAnn := []

/-- PushedIn$Yard.oneAhead () -/
def zpC1 : zC := (119, (2, 64), ([(0, 1, 0, 0)], ([[(0, 0)], [(0, 40)], [(0, 39)]], [(0, 1, (-1)), (2, 1, (-1))], [(3, 0, 1, 0, 0), (1, 2, 0, 0, 0), (0, 0, 0, 0, 0), (0, 0, 0, 0, 0), (0, 0, 0, 0, 0), (0, 0, 0, 0, 0)], [], [], [])), [([(1, 0, 0, 0)], ([[(0, 0)], [(0, 40)], [(0, 39)], [((-1), 39)]], [], [], [(1, 3, 0, 0, 0)], [], []))], [])
def zpA1 : zAnn := [(12, ([(0, 2, 0, 0), (0, 4, 0, 0)], ([[(0, 0)], [(0, 40)], [(0, 39)], [((-1), 39)], [(0, 40)]], [(3, 4, 0), (0, 1, (-1)), (2, 1, (-1))], [(3, 0, 1, 0, 0), (1, 2, 0, 0, 0), (1, 3, 0, 0, 0), (3, 2, 50, 0, 0), (1, 4, 0, 0, 0), (0, 0, 0, 0, 0)], [], [], [])), [(2, 0, 0), (0, 3, 39), (2, 0, 0), (0, 4, 40)])]

/-- java/lang/Math.max () -/
def zpC2 : zC := (210, (1, 40), ([(0, 0, 0, 0), (0, 1, 0, 0)], ([[(0, 0)], [(0, 40)], [(0, 2147483647)], [((-2147483648), 2147483647)]], [], [(1, 2, 0, 0, 0), (1, 3, 0, 0, 0)], [], [], [])), [([], ([[(0, 0)], [(0, 40)], [(0, 2147483647)], [((-2147483648), 2147483647)]], [(3, 2, 0)], [], [(1, 2, 0, 0, 0)], [], [])), ([], ([[(0, 0)], [(0, 40)], [(0, 2147483646)], [(1, 2147483647)]], [(2, 3, (-1))], [], [(1, 3, 0, 0, 0)], [], []))], [])
def zpA2 : zAnn := []

/-- PushedIn$Yard.settleStarts () -/
def zpC3 : zC := (121, (2, 61), ([(0, 1, 0, 0)], ([[(0, 0)], [(0, 40)], [(50, 89)]], [(0, 1, (-1)), (2, 1, 49)], [(3, 0, 1, 0, 0), (3, 2, 0, 0, 0), (0, 0, 0, 0, 0), (0, 0, 0, 0, 0)], [], [], [])), [([], ([[(0, 0)], [(0, 40)], [(50, 89)]], [], [], [], [], []))], [(50, 89, 1, 10), (50, 89, 1, 11)])
def zpA3 : zAnn := [(58, ([(0, 2, 0, 0), (0, 3, 0, 0)], ([[(0, 0)], [(0, 40)], [(50, 89)], [(0, 2147483647)], [(0, 12)]], [(0, 1, (-1)), (2, 1, 49)], [(3, 0, 1, 0, 0), (3, 2, 0, 0, 0), (1, 3, 0, 0, 0), (1, 4, 0, 0, 0)], [], [], [])), [(2, 0, 0), (0, 3, 2147483647), (2, 0, 0), (0, 4, 12)])]

/-- PushedIn$Yard.settle () -/
def zpC4 : zC := (120, (3, 89), ([], ([[(0, 0)], [(0, 40)]], [], [(3, 0, 1, 0, 0), (0, 0, 0, 0, 0)], [], [], [])), [([], ([[(0, 0)], [(0, 40)]], [], [], [], [], []))], [(50, 89, 1, 9), (50, 89, 1, 10), (50, 89, 1, 11)])
def zpA4 : zAnn := [(2, ([(0, 1, 0, 0)], ([[(0, 0)], [(0, 40)], [(0, 40)]], [], [(3, 0, 1, 0, 0), (1, 2, 0, 0, 0)], [], [], [])), [(2, 0, 0), (0, 2, 40), (2, 0, 0)])]

/-- PushedIn$Yard.addAway () -/
def zpC5 : zC := (112, (4, 110), ([(0, 1, 0, 0), (0, 2, 0, 0), (0, 3, 0, 0)], ([[(0, 0)], [(0, 40)], [(0, 3)], [((-2147483648), 719)], [(0, 719)]], [(3, 4, 0)], [(3, 0, 1, 0, 0), (1, 2, 0, 0, 0), (1, 3, 0, 0, 0), (1, 4, 0, 0, 0)], [], [], [])), [([], ([[(0, 0)], [(0, 40)], [(0, 3)], [((-2147483648), 719)], [(0, 719)]], [], [], [], [], []))], [(1, 1, 1, 7), (15, 15, 0, 0), (16, 16, 0, 0), (17, 17, 0, 0), (50, 89, 1, 9), (50, 89, 1, 10), (50, 89, 1, 11)])
def zpA5 : zAnn := []

/-- PushedIn.within ((1, 4),) -/
def zpC6 : zC := (37, (1, 40), ([(0, 0, 0, 0)], ([[(0, 0)], [(0, 40)], [((-2147483648), 2147483647)]], [], [(1, 2, 0, 0, 0), (1, 0, 4, 0, 0)], [], [], [])), [([], ([[(0, 0)], [(0, 40)], [((-2147483648), (-1)), (4, 2147483647)]], [], [], [(1, 0, 0, 0, 0)], [], [])), ([], ([[(0, 0)], [(0, 40)], [(0, 3)]], [], [], [(1, 0, 1, 0, 0)], [], []))], [])
def zpA6 : zAnn := []

/-- PushedIn.within ((1, 720),) -/
def zpC7 : zC := (37, (1, 40), ([(0, 0, 0, 0)], ([[(0, 0)], [(0, 40)], [((-2147483648), 2147483647)]], [], [(1, 2, 0, 0, 0), (1, 0, 720, 0, 0)], [], [], [])), [([], ([[(0, 0)], [(0, 40)], [((-2147483648), (-1)), (720, 2147483647)]], [], [], [(1, 0, 0, 0, 0)], [], [])), ([], ([[(0, 0)], [(0, 40)], [(0, 719)]], [], [], [(1, 0, 1, 0, 0)], [], []))], [])
def zpA7 : zAnn := []

/-- PushedIn.away () -/
def zpC8 : zC := (2, (5, 133), ([(0, 1, 0, 0), (0, 2, 0, 0)], ([[(0, 0)], [(0, 40)], [((-2147483648), 2147483647)], [((-2147483648), 2147483647)]], [], [(3, 0, 0, 0, 0), (1, 2, 0, 0, 0), (1, 3, 0, 0, 0), (0, 0, 0, 0, 0), (0, 0, 0, 0, 0)], [], [], [])), [([(1, 0, 0, 0)], ([[(0, 0)], [(0, 40)], [(0, 3)], [(0, 2147483647)], [(0, 12)]], [], [], [(1, 4, 0, 0, 0)], [], [])), ([], ([[(0, 0)], [(0, 40)], [((-2147483648), 2147483647)], [((-2147483648), 2147483647)]], [], [], [(1, 0, (-1), 0, 0)], [], [])), ([], ([[(0, 0)], [(0, 40)], [(0, 3)], [(0, 2147483647)]], [], [], [(1, 0, (-3), 0, 0)], [], []))], [(1, 1, 1, 7), (15, 15, 0, 0), (16, 16, 0, 0), (17, 17, 0, 0), (50, 89, 1, 9), (50, 89, 1, 10), (50, 89, 1, 11)])
def zpA8 : zAnn := []

/-- PushedIn$Changes.dropOldest () -/
def zpC9 : zC := (47, (1, 1000), ([], ([[(0, 0)], [(0, 40)]], [], [(3, 0, 4, 0, 0)], [], [(0, 4, 5, (1, 0, 40, 0, 0))], [])), [([], ([[(0, 0)], [(0, 40)]], [], [], [], [(0, 4, 5, (1, 0, 39, 0, 0))], []))], [(4, 4, 1, 5), (19, 19, 0, 0), (20, 20, 0, 0), (21, 21, 0, 0), (22, 22, 0, 0)])
def zpA9 : zAnn := []

/-- PushedIn.within () -/
def zpC10 : zC := (37, (1, 40), ([(0, 0, 0, 0), (0, 1, 0, 0)], ([[(0, 0)], [(0, 40)], [((-2147483648), 2147483647)], [((-2147483648), 2147483647)]], [], [(1, 2, 0, 0, 0), (1, 3, 0, 0, 0)], [], [], [])), [([], ([[(0, 0)], [(0, 40)], [((-2147483648), 2147483647)], [((-2147483648), 2147483647)]], [], [], [(1, 0, 0, 0, 0)], [], [])), ([], ([[(0, 0)], [(0, 40)], [(0, 2147483646)], [(1, 2147483647)]], [(2, 3, (-1))], [], [(1, 0, 1, 0, 0)], [], []))], [])
def zpA10 : zAnn := []

/-- PushedIn$Yard.has () -/
def zpC11 : zC := (114, (2, 61), ([(0, 1, 0, 0)], ([[(0, 0)], [(0, 40)], [((-2147483648), 2147483647)]], [], [(3, 0, 1, 0, 0), (1, 2, 0, 0, 0)], [], [], [])), [([], ([[(0, 0)], [(0, 40)], [((-2147483648), 2147483647)]], [], [], [(1, 0, 0, 0, 0)], [], [])), ([], ([[(0, 0)], [(1, 40)], [(0, 39)]], [(2, 1, (-1))], [], [(1, 0, 1, 0, 0)], [], []))], [])
def zpA11 : zAnn := []

/-- PushedIn.within ((1, 6),) -/
def zpC12 : zC := (37, (1, 40), ([(0, 0, 0, 0)], ([[(0, 0)], [(0, 40)], [((-2147483648), 2147483647)]], [], [(1, 2, 0, 0, 0), (1, 0, 6, 0, 0)], [], [], [])), [([], ([[(0, 0)], [(0, 40)], [((-2147483648), (-1)), (6, 2147483647)]], [], [], [(1, 0, 0, 0, 0)], [], [])), ([], ([[(0, 0)], [(0, 40)], [(0, 5)]], [], [], [(1, 0, 1, 0, 0)], [], []))], [])
def zpA12 : zAnn := []

/-- PushedIn$Yard.become () -/
def zpC13 : zC := (113, (4, 110), ([(0, 1, 0, 0), (0, 2, 0, 0), (0, 3, 0, 0)], ([[(0, 0)], [(0, 40)], [((-2147483648), 2147483647)], [((-2147483648), 2147483647)], [((-2147483648), 2147483647)]], [], [(3, 0, 1, 0, 0), (1, 2, 0, 0, 0), (1, 3, 0, 0, 0), (1, 4, 0, 0, 0)], [], [], [])), [([], ([[(0, 0)], [(0, 40)], [((-2147483648), 2147483647)], [((-2147483648), 2147483647)], [((-2147483648), 2147483647)]], [], [], [], [], []))], [(1, 1, 1, 9), (13, 13, 0, 0), (14, 14, 0, 0), (50, 89, 1, 1), (50, 89, 1, 9), (50, 89, 1, 10), (50, 89, 1, 11)])
def zpA13 : zAnn := []

/-- PushedIn$Yard.numberOf () -/
def zpC14 : zC := (118, (3, 82), ([(0, 1, 0, 0), (0, 2, 0, 0)], ([[(0, 0)], [(0, 40)], [(0, 3)], [(0, 39)]], [], [(3, 0, 1, 0, 0), (1, 2, 0, 0, 0), (1, 3, 0, 0, 0)], [], [], [])), [([(1, 0, 0, 0)], ([[(0, 0)], [(0, 40)], [(0, 3)], [(0, 39)], [((-2147483648), 2147483647)]], [], [], [(1, 4, 0, 0, 0)], [], [])), ([], ([[(0, 0)], [(0, 40)], [(0, 2)], [(0, 39)]], [], [], [(1, 0, 0, 0, 0)], [], []))], [])
def zpA14 : zAnn := []

/-- PushedIn$Changes.make () -/
def zpC15 : zC := (48, (5, 1020), ([(0, 1, 0, 0), (0, 2, 0, 0), (0, 3, 0, 0)], ([[(0, 0)], [(0, 40)], [(0, 3)], [(0, 39)], [(0, 2147483646)]], [], [(3, 0, 4, 0, 0), (1, 2, 0, 0, 0), (1, 3, 0, 0, 0), (1, 4, 0, 0, 0), (0, 0, 0, 0, 0)], [], [], [])), [([(1, 0, 0, 0)], ([[(0, 0)], [(0, 40)], [(0, 3)], [(0, 39)], [(0, 2147483646)], [((-2147483648), 2147483647)]], [], [], [(1, 5, 0, 0, 0)], [], [])), ([], ([[(0, 0)], [(0, 40)], [(0, 2)], [(0, 39)], [(0, 2147483646)]], [], [], [(1, 0, 0, 0, 0)], [], []))], [(1, 1, 1, 9), (4, 4, 1, 5), (4, 4, 1, 6), (13, 13, 0, 0), (14, 14, 0, 0), (19, 19, 0, 0), (20, 20, 0, 0), (21, 21, 0, 0), (22, 22, 0, 0), (50, 89, 1, 1), (50, 89, 1, 9), (50, 89, 1, 10), (50, 89, 1, 11)])
def zpA15 : zAnn := []

/-- PushedIn.within ((1, 2),) -/
def zpC16 : zC := (37, (1, 40), ([(0, 0, 0, 0)], ([[(0, 0)], [(0, 40)], [((-2147483648), 2147483647)]], [], [(1, 2, 0, 0, 0), (1, 0, 2, 0, 0)], [], [], [])), [([], ([[(0, 0)], [(0, 40)], [((-2147483648), (-1)), (2, 2147483647)]], [], [], [(1, 0, 0, 0, 0)], [], [])), ([], ([[(0, 0)], [(0, 40)], [(0, 1)]], [], [], [(1, 0, 1, 0, 0)], [], []))], [])
def zpA16 : zAnn := []

/-- PushedIn.matter () -/
def zpC17 : zC := (19, (6, 1044), ([(0, 1, 0, 0), (0, 2, 0, 0), (0, 3, 0, 0)], ([[(0, 0)], [(0, 40)], [((-2147483648), 2147483647)], [((-2147483648), 2147483647)], [((-2147483648), 2147483647)]], [], [(3, 0, 0, 0, 0), (1, 2, 0, 0, 0), (1, 3, 0, 0, 0), (1, 4, 0, 0, 0)], [], [], [])), [([(1, 0, 0, 0)], ([[(0, 0)], [(0, 40)], [(0, 5)], [(0, 1)], [(1, 99)], [((-2147483648), 2147483647)]], [], [], [(1, 5, 0, 0, 0)], [], [])), ([], ([[(0, 0)], [(0, 40)], [((-2147483648), 2147483647)], [((-2147483648), 2147483647)], [((-2147483648), 2147483647)]], [], [], [(1, 0, (-1), 0, 0)], [], [])), ([], ([[(0, 0)], [(0, 40)], [(0, 5)], [(0, 1)], [(1, 99)]], [], [], [(1, 0, 0, 0, 0)], [], []))], [(1, 1, 1, 9), (4, 4, 1, 5), (4, 4, 1, 6), (13, 13, 0, 0), (14, 14, 0, 0), (19, 19, 0, 0), (20, 20, 0, 0), (21, 21, 0, 0), (22, 22, 0, 0), (50, 89, 1, 1), (50, 89, 1, 9), (50, 89, 1, 10), (50, 89, 1, 11)])
def zpA17 : zAnn := []

/-- PushedIn.within ((1, 31),) -/
def zpC18 : zC := (37, (1, 40), ([(0, 0, 0, 0)], ([[(0, 0)], [(0, 40)], [((-2147483648), 2147483647)]], [], [(1, 2, 0, 0, 0), (1, 0, 31, 0, 0)], [], [], [])), [([], ([[(0, 0)], [(0, 40)], [((-2147483648), (-1)), (31, 2147483647)]], [], [], [(1, 0, 0, 0, 0)], [], [])), ([], ([[(0, 0)], [(0, 40)], [(0, 30)]], [], [], [(1, 0, 1, 0, 0)], [], []))], [])
def zpA18 : zAnn := []

/-- PushedIn.yard () -/
def zpC19 : zC := (38, (6, 1044), ([(0, 1, 0, 0), (0, 2, 0, 0)], ([[(0, 0)], [(0, 40)], [((-2147483648), 2147483647)], [((-2147483648), 2147483647)]], [], [(3, 0, 0, 0, 0), (1, 2, 0, 0, 0), (1, 3, 0, 0, 0), (0, 0, 0, 0, 0)], [], [], [])), [([(1, 0, 0, 0)], ([[(0, 0)], [(0, 40)], [(0, 1)], [(0, 30)], [((-2147483648), 2147483647)]], [], [], [(1, 4, 0, 0, 0)], [], [])), ([], ([[(0, 0)], [(0, 40)], [((-2147483648), 2147483647)], [((-2147483648), 2147483647)]], [], [], [(1, 0, (-1), 0, 0)], [], [])), ([], ([[(0, 0)], [(0, 40)], [(2, 2)], [(0, 1)]], [], [], [(1, 0, 0, 0, 0)], [], [])), ([], ([[(0, 0)], [(0, 40)], [(2, 2)], [(0, 1)]], [], [], [(1, 0, 1, 0, 0)], [], []))], [(1, 1, 1, 8), (1, 1, 1, 9), (1, 1, 1, 10), (4, 4, 1, 5), (4, 4, 1, 6), (13, 13, 0, 0), (14, 14, 0, 0), (19, 19, 0, 0), (20, 20, 0, 0), (21, 21, 0, 0), (22, 22, 0, 0), (50, 89, 1, 1), (50, 89, 1, 9), (50, 89, 1, 10), (50, 89, 1, 11)])
def zpA19 : zAnn := []

/-- PushedIn$Tape.add () -/
def zpC20 : zC := (96, (1, 40), ([(0, 1, 0, 0), (0, 2, 0, 0)], ([[(0, 0)], [(0, 40)], [(1, 4)], [((-2147483648), 2147483647)]], [], [(3, 0, 2, 0, 0), (1, 2, 0, 0, 0), (1, 3, 0, 0, 0), (0, 0, 0, 0, 0)], [], [], [])), [([], ([[(0, 0)], [(0, 40)], [(1, 4)], [((-2147483648), 2147483647)]], [], [], [], [], []))], [(2, 2, 1, 2), (18, 18, 0, 0)])
def zpA20 : zAnn := [(2, ([(0, 3, 0, 0)], ([[(0, 0)], [(0, 40)], [(1, 4)], [((-2147483648), 2147483647)], [(0, 4)]], [], [(3, 0, 2, 0, 0), (1, 2, 0, 0, 0), (1, 3, 0, 0, 0), (1, 4, 0, 0, 0)], [], [], [])), [(2, 0, 0), (0, 4, 4), (2, 0, 0)])]

/-- PushedIn.feed () -/
def zpC21 : zC := (9, (2, 63), ([(0, 1, 0, 0), (0, 2, 0, 0)], ([[(0, 0)], [(0, 40)], [((-2147483648), 2147483647)], [((-2147483648), 2147483647)]], [], [(3, 0, 0, 0, 0), (1, 2, 0, 0, 0), (1, 3, 0, 0, 0)], [], [], [])), [([(1, 0, 0, 0)], ([[(0, 0)], [(0, 40)], [(1, 4)], [((-2147483648), 2147483647)], [(0, 60)]], [], [], [(1, 4, 0, 0, 0)], [], [])), ([], ([[(0, 0)], [(0, 40)], [((-2147483648), 0), (5, 2147483647)], [((-2147483648), 2147483647)]], [], [], [(1, 0, (-1), 0, 0)], [], [])), ([], ([[(0, 0)], [(0, 40)], [(1, 4)], [((-2147483648), 2147483647)]], [], [], [(1, 0, (-3), 0, 0)], [], []))], [(2, 2, 1, 2), (18, 18, 0, 0)])
def zpA21 : zAnn := []

/-- PushedIn$Comer.tell () -/
def zpC22 : zC := (52, (1, 40), ([(0, 0, 0, 0), (0, 1, 0, 0)], ([[(0, 0)], [(0, 40)], [(50, 89)], [((-2147483648), 2147483647)]], [(2, 1, 49)], [(3, 2, 0, 0, 0), (1, 3, 0, 0, 0)], [], [], [])), [([(1, 0, 0, 0)], ([[(0, 0)], [(0, 40)], [(50, 89)], [(0, 10)], [((-2147483648), 2147483647)]], [], [], [(1, 4, 0, 0, 0)], [], [])), ([], ([[(0, 0)], [(0, 40)], [(50, 89)], [((-2147483648), (-1)), (11, 2147483647)]], [], [], [(1, 0, (-1), 0, 0)], [], []))], [])
def zpA22 : zAnn := []

/-- PushedIn.of () -/
def zpC23 : zC := (21, (3, 82), ([(0, 1, 0, 0), (0, 2, 0, 0)], ([[(0, 0)], [(0, 40)], [((-2147483648), 2147483647)], [((-2147483648), 2147483647)]], [], [(3, 0, 0, 0, 0), (1, 2, 0, 0, 0), (1, 3, 0, 0, 0)], [], [], [])), [([(1, 0, 0, 0)], ([[(0, 0)], [(1, 40)], [(0, 39)], [(0, 10)], [((-2147483648), 2147483647)]], [(2, 1, (-1))], [], [(1, 4, 0, 0, 0)], [], [])), ([], ([[(0, 0)], [(0, 40)], [((-2147483648), 2147483647)], [((-2147483648), 2147483647)]], [], [], [(1, 0, (-1), 0, 0)], [], []))], [])
def zpA23 : zAnn := []

/-- PushedIn.came () -/
def zpC24 : zC := (4, (6, 1044), ([(0, 1, 0, 0), (0, 2, 0, 0)], ([[(0, 0)], [(0, 40)], [((-2147483648), 2147483647)], [((-2147483648), 2147483647)]], [], [(3, 0, 0, 0, 0), (1, 2, 0, 0, 0), (1, 3, 0, 0, 0)], [], [], [])), [([(1, 0, 0, 0)], ([[(0, 0)], [(1, 40)], [(0, 39)], [(0, 2147483646)], [((-2147483648), 2147483647)]], [(2, 1, (-1))], [], [(1, 4, 0, 0, 0)], [], [])), ([], ([[(0, 0)], [(0, 40)], [((-2147483648), 2147483647)], [((-2147483648), 2147483647)]], [], [], [(1, 0, (-1), 0, 0)], [], [])), ([], ([[(0, 0)], [(1, 40)], [(0, 39)], [(0, 2147483646)]], [(2, 1, (-1))], [], [(1, 0, 0, 0, 0)], [], []))], [(1, 1, 1, 9), (4, 4, 1, 5), (4, 4, 1, 6), (13, 13, 0, 0), (14, 14, 0, 0), (19, 19, 0, 0), (20, 20, 0, 0), (21, 21, 0, 0), (22, 22, 0, 0), (50, 89, 1, 1), (50, 89, 1, 9), (50, 89, 1, 10), (50, 89, 1, 11)])
def zpA24 : zAnn := []

/-- PushedIn$Comer.hasStarts () -/
def zpC25 : zC := (49, (1, 40), ([(0, 0, 0, 0)], ([[(0, 0)], [(0, 40)], [(50, 89)]], [], [(3, 2, 0, 0, 0)], [], [], [])), [([], ([[(0, 0)], [(0, 40)], [(50, 89)]], [], [], [(1, 0, 0, 0, 0)], [], [])), ([], ([[(0, 0)], [(0, 40)], [(50, 89)]], [], [], [(1, 0, 1, 0, 0)], [], []))], [])
def zpA25 : zAnn := []

/-- PushedIn.cant () -/
def zpC26 : zC := (5, (2, 61), ([(0, 1, 0, 0)], ([[(0, 0)], [(0, 40)], [((-2147483648), 2147483647)]], [], [(3, 0, 0, 0, 0), (1, 2, 0, 0, 0), (0, 0, 0, 0, 0), (0, 0, 0, 0, 0)], [], [], [])), [([(1, 0, 0, 0)], ([[(0, 0)], [(1, 40)], [(0, 3)], [(0, 39)]], [(3, 1, (-1))], [], [(1, 3, 0, 0, 0)], [], [])), ([], ([[(0, 0)], [(0, 40)], [((-2147483648), (-1)), (4, 2147483647)]], [], [], [(1, 0, (-1), 0, 0)], [], [])), ([], ([[(0, 0)], [(0, 40)], [(0, 3)]], [], [], [(1, 0, (-2), 0, 0)], [], []))], [])
def zpA26 : zAnn := [(12, ([(0, 2, 0, 0)], ([[(0, 0)], [(0, 40)], [(0, 3)], [(0, 40)]], [], [(3, 0, 0, 0, 0), (1, 2, 0, 0, 0), (1, 3, 0, 0, 0), (0, 0, 0, 0, 0)], [], [], [])), [(2, 0, 0), (0, 3, 40), (2, 0, 0)])]

/-- PushedIn$Comer.served () -/
def zpC27 : zC := (51, (1, 40), ([(0, 0, 0, 0)], ([[(0, 0)], [(0, 40)], [(50, 89)]], [], [(3, 2, 0, 0, 0)], [], [], [])), [([(1, 0, 0, 0)], ([[(0, 0)], [(0, 40)], [(50, 89)], [((-2147483648), 2147483647)]], [], [], [(1, 3, 0, 0, 0)], [], []))], [])
def zpA27 : zAnn := []

/-- PushedIn$Passing.couldPass () -/
def zpC28 : zC := (55, (1, 40), ([(0, 1, 0, 0), (0, 2, 0, 0)], ([[(0, 0)], [(0, 40)], [(50, 89)], [(50, 89)]], [], [(3, 0, 5, 0, 0), (3, 2, 0, 0, 0), (3, 3, 0, 0, 0)], [], [], [])), [([], ([[(0, 0)], [(0, 40)], [(50, 89)], [(50, 89)]], [], [], [(1, 0, 0, 0, 0)], [], [])), ([], ([[(0, 0)], [(0, 40)], [(50, 89)], [(50, 89)]], [], [], [(1, 0, 1, 0, 0)], [], []))], [])
def zpA28 : zAnn := []

/-- PushedIn$Passing.passes () -/
def zpC29 : zC := (61, (2, 62), ([(0, 1, 0, 0), (0, 2, 0, 0), (0, 3, 0, 0)], ([[(0, 0)], [(0, 40)], [(50, 89)], [(50, 89)], [(0, 2)]], [(3, 1, 49)], [(3, 0, 5, 0, 0), (3, 2, 0, 0, 0), (3, 3, 0, 0, 0), (1, 4, 0, 0, 0)], [], [], [])), [([], ([[(0, 0)], [(0, 40)], [(50, 89)], [(50, 89)], [(0, 2)]], [], [], [(1, 0, 0, 0, 0)], [], [])), ([], ([[(0, 0)], [(0, 40)], [(50, 89)], [(50, 89)], [(0, 2)]], [], [], [(1, 0, 1, 0, 0)], [], []))], [])
def zpA29 : zAnn := []

/-- PushedIn.passed () -/
def zpC30 : zC := (23, (3, 85), ([(0, 1, 0, 0), (0, 2, 0, 0)], ([[(0, 0)], [(0, 40)], [((-2147483648), 2147483647)], [((-2147483648), 2147483647)]], [], [(3, 0, 0, 0, 0), (1, 2, 0, 0, 0), (1, 3, 0, 0, 0), (0, 0, 0, 0, 0), (0, 0, 0, 0, 0), (0, 0, 0, 0, 0), (0, 0, 0, 0, 0)], [], [], [])), [([], ([[(0, 0)], [(0, 40)], [((-2147483648), 2147483647)], [((-2147483648), 2147483647)]], [], [], [(1, 0, (-1), 0, 0)], [], [])), ([], ([[(0, 0)], [(1, 40)], [((-2147483648), 2147483647)], [(0, 1)]], [], [], [(1, 0, 0, 0, 0)], [], [])), ([], ([[(0, 0)], [(1, 40)], [((-2147483648), 2147483647)], [(0, 1)]], [], [], [(1, 0, 1, 0, 0)], [], []))], [])
def zpA30 : zAnn := []

/-- PushedIn$Passing.passesOn () -/
def zpC31 : zC := (62, (3, 85), ([(0, 1, 0, 0), (0, 2, 0, 0)], ([[(0, 0)], [(0, 40)], [(0, 3)], [(0, 2)]], [], [(3, 0, 5, 0, 0), (1, 2, 0, 0, 0), (1, 3, 0, 0, 0), (0, 0, 0, 0, 0), (0, 0, 0, 0, 0), (0, 0, 0, 0, 0)], [], [], [])), [([(1, 0, 0, 0)], ([[(0, 0)], [(0, 40)], [(0, 3)], [(0, 2)], [((-2147483648), 2147483647)]], [], [], [(1, 4, 0, 0, 0)], [], []))], [])
def zpA31 : zAnn := [(20, ([(0, 3, 0, 0), (0, 4, 0, 0), (0, 5, 0, 0)], ([[(0, 0)], [(1, 40)], [(0, 3)], [(0, 2)], [((-2147483648), 2147483647)], [(0, 39)], [(0, 40)]], [], [(3, 0, 5, 0, 0), (1, 2, 0, 0, 0), (1, 3, 0, 0, 0), (1, 4, 0, 0, 0), (1, 5, 0, 0, 0), (1, 6, 0, 0, 0)], [], [], [])), [(2, 0, 0), (0, 5, 40), (2, 0, 0), (0, 6, 40)]), (5, ([(0, 3, 0, 0), (0, 4, 0, 0)], ([[(0, 0)], [(0, 40)], [(0, 3)], [(0, 2)], [((-2147483648), 2147483647)], [(0, 40)]], [], [(3, 0, 5, 0, 0), (1, 2, 0, 0, 0), (1, 3, 0, 0, 0), (1, 4, 0, 0, 0), (1, 5, 0, 0, 0), (0, 0, 0, 0, 0)], [], [], [])), [(2, 0, 0), (0, 5, 40), (2, 0, 1)])]

/-- PushedIn.pairs () -/
def zpC32 : zC := (22, (4, 110), ([(0, 1, 0, 0), (0, 2, 0, 0)], ([[(0, 0)], [(0, 40)], [((-2147483648), 2147483647)], [((-2147483648), 2147483647)]], [], [(3, 0, 0, 0, 0), (1, 2, 0, 0, 0), (1, 3, 0, 0, 0)], [], [], [])), [([(1, 0, 0, 0)], ([[(0, 0)], [(0, 40)], [(0, 3)], [(0, 1)], [((-2147483648), 2147483647)]], [], [], [(1, 4, 0, 0, 0)], [], [])), ([], ([[(0, 0)], [(0, 40)], [((-2147483648), 2147483647)], [((-2147483648), 2147483647)]], [], [], [(1, 0, (-1), 0, 0)], [], []))], [])
def zpA32 : zAnn := []

/-- PushedIn.start () -/
def zpC33 : zC := (31, (3, 82), ([(0, 1, 0, 0), (0, 2, 0, 0)], ([[(0, 0)], [(0, 40)], [((-2147483648), 2147483647)], [((-2147483648), 2147483647)]], [], [(3, 0, 0, 0, 0), (1, 2, 0, 0, 0), (1, 3, 0, 0, 0)], [], [], [])), [([], ([[(0, 0)], [(0, 40)], [((-2147483648), 2147483647)], [((-2147483648), 2147483647)]], [], [], [(1, 0, (-1), 0, 0)], [], [])), ([], ([[(0, 0)], [(1, 40)], [(0, 39)], [((-1), 719)]], [(2, 1, (-1))], [], [(1, 0, 1, 0, 0)], [], []))], [(50, 89, 1, 8)])
def zpA33 : zAnn := []

/-- PushedIn$Comer.isStart () -/
def zpC34 : zC := (50, (2, 60), ([(0, 0, 0, 0), (0, 1, 0, 0)], ([[(0, 0)], [(0, 40)], [(50, 89)], [((-2147483648), (-2)), (0, 2147483647)]], [(2, 1, 49)], [(3, 2, 0, 0, 0), (1, 3, 0, 0, 0)], [], [], [])), [([], ([[(0, 0)], [(0, 40)], [(50, 89)], [((-2147483648), (-2)), (0, 2147483647)]], [], [], [(1, 0, 0, 0, 0)], [], [])), ([], ([[(0, 0)], [(0, 40)], [(50, 89)], [((-2147483648), (-2)), (0, 2147483647)]], [], [], [(1, 0, 1, 0, 0)], [], []))], [])
def zpA34 : zAnn := []

/-- PushedIn$Passing.firstMistold () -/
def zpC35 : zC := (57, (3, 81), ([(0, 1, 0, 0)], ([[(0, 0)], [(0, 40)], [(0, 3)]], [], [(3, 0, 5, 0, 0), (1, 2, 0, 0, 0), (0, 0, 0, 0, 0), (0, 0, 0, 0, 0)], [], [], [])), [([(1, 0, 0, 0)], ([[(0, 0)], [(1, 40)], [(0, 3)], [(0, 39)]], [(3, 1, (-1))], [], [(1, 3, 0, 0, 0)], [], [])), ([], ([[(0, 0)], [(0, 40)], [(0, 3)]], [], [], [(1, 0, (-2), 0, 0)], [], []))], [])
def zpA35 : zAnn := [(2, ([(0, 2, 0, 0)], ([[(0, 0)], [(0, 40)], [(0, 3)], [(0, 40)]], [], [(3, 0, 5, 0, 0), (1, 2, 0, 0, 0), (1, 3, 0, 0, 0), (0, 0, 0, 0, 0)], [], [], [])), [(2, 0, 0), (0, 3, 40), (2, 0, 0)])]

/-- PushedIn.judge () -/
def zpC36 : zC := (15, (4, 110), ([(0, 1, 0, 0), (0, 2, 0, 0)], ([[(0, 0)], [(0, 40)], [((-2147483648), 2147483647)], [((-2147483648), 2147483647)]], [], [(3, 0, 0, 0, 0), (1, 2, 0, 0, 0), (1, 3, 0, 0, 0)], [], [], [])), [([(1, 0, 0, 0)], ([[(0, 0)], [(0, 40)], [(0, 3)], [(0, 1)], [((-2147483648), 2147483647)]], [], [], [(1, 4, 0, 0, 0)], [], [])), ([], ([[(0, 0)], [(0, 40)], [((-2147483648), 2147483647)], [((-2147483648), 2147483647)]], [], [], [(1, 0, (-1), 0, 0)], [], [])), ([], ([[(0, 0)], [(0, 40)], [(0, 3)], [(0, 0)]], [], [], [(1, 0, (-2), 0, 0)], [], []))], [])
def zpA36 : zAnn := []

/-- PushedIn$Passing.passedBy () -/
def zpC37 : zC := (59, (3, 85), ([(0, 1, 0, 0)], ([[(0, 0)], [(0, 40)], [(50, 89)]], [(2, 1, 49)], [(3, 0, 5, 0, 0), (3, 2, 0, 0, 0), (0, 0, 0, 0, 0), (0, 0, 0, 0, 0), (0, 0, 0, 0, 0)], [], [], [])), [([(1, 0, 0, 0)], ([[(0, 0)], [(0, 40)], [(50, 89)], [((-9223372036854775808), 9223372036854775807)]], [], [], [(2, 3, 0, 0, 0)], [], []))], [])
def zpA37 : zAnn := [(5, ([(0, 2, 0, 0), (0, 4, 0, 0)], ([[(0, 0)], [(0, 40)], [(50, 89)], [((-9223372036854775808), 9223372036854775807)], [(0, 40)]], [(2, 1, 49)], [(3, 0, 5, 0, 0), (3, 2, 0, 0, 0), (2, 3, 0, 0, 0), (0, 0, 0, 0, 0), (1, 4, 0, 0, 0)], [], [], [])), [(2, 0, 0), (0, 4, 40), (2, 0, 0)])]

/-- PushedIn.whom () -/
def zpC38 : zC := (36, (4, 109), ([(0, 1, 0, 0)], ([[(0, 0)], [(0, 40)], [((-2147483648), 2147483647)]], [], [(3, 0, 0, 0, 0), (1, 2, 0, 0, 0)], [], [], [])), [([(1, 0, 0, 0)], ([[(0, 0)], [(1, 40)], [(0, 39)], [((-9223372036854775808), 9223372036854775807)]], [(2, 1, (-1))], [], [(2, 3, 0, 0, 0)], [], [])), ([], ([[(0, 0)], [(0, 40)], [((-2147483648), 2147483647)]], [], [], [(2, 0, (-1), 0, 0)], [], []))], [])
def zpA38 : zAnn := []

/-- PushedIn$Passing.chosenAt () -/
def zpC39 : zC := (54, (1, 40), ([(0, 2, 0, 0)], ([[(0, 0)], [(0, 40)], [(0, 39)]], [(0, 1, (-1)), (2, 1, (-1))], [(3, 0, 5, 0, 0), (1, 0, 0, 0, 0), (1, 2, 0, 0, 0)], [], [], [])), [([(1, 0, 0, 0)], ([[(0, 0)], [(0, 40)], [(0, 39)], [(0, 39)]], [], [], [(1, 3, 0, 0, 0)], [], [])), ([], ([[(0, 0)], [(0, 40)], [(0, 39)]], [], [], [(1, 2, 0, 0, 0)], [], []))], [])
def zpA39 : zAnn := []

/-- PushedIn$Passing.choose () -/
def zpC40 : zC := (53, (2, 62), ([(0, 1, 0, 0)], ([[(0, 0)], [(0, 40)], [((-9223372036854775808), 9223372036854775807)]], [], [(3, 0, 5, 0, 0), (2, 2, 0, 0, 0), (0, 0, 0, 0, 0), (0, 0, 0, 0, 0), (0, 0, 0, 0, 0)], [], [], [])), [([], ([[(0, 0)], [(0, 40)], [((-9223372036854775808), 9223372036854775807)]], [], [], [(1, 0, 0, 0, 0)], [], [])), ([], ([[(0, 0)], [(0, 40)], [((-9223372036854775808), 9223372036854775807)]], [], [], [(1, 0, 1, 0, 0)], [], []))], [(5, 5, 1, 4), (23, 23, 0, 0)])
def zpA40 : zAnn := [(23, ([(0, 3, 0, 0)], ([[(0, 0)], [(0, 40)], [((-9223372036854775808), 9223372036854775807)], [(0, 40)]], [], [(3, 0, 5, 0, 0), (2, 2, 0, 0, 0), (0, 0, 0, 0, 0), (1, 3, 0, 0, 0), (0, 0, 0, 0, 0)], [], [], [])), [(2, 0, 0), (0, 3, 40), (2, 0, 0)])]

/-- PushedIn$Passing.latestEarlyOf () -/
def zpC41 : zC := (58, (2, 61), ([(0, 1, 0, 0)], ([[(0, 0)], [(0, 40)], [(1, 63)]], [], [(3, 0, 5, 0, 0), (1, 2, 0, 0, 0), (0, 0, 0, 0, 0), (0, 0, 0, 0, 0)], [], [], [])), [([(1, 0, 0, 0)], ([[(0, 0)], [(0, 40)], [(1, 63)], [(0, 2147483647)]], [], [], [(1, 3, 0, 0, 0)], [], []))], [])
def zpA41 : zAnn := [(4, ([(0, 2, 0, 0), (0, 3, 0, 0)], ([[(0, 0)], [(0, 40)], [(1, 63)], [(0, 2147483647)], [(0, 6)]], [], [(3, 0, 5, 0, 0), (1, 2, 0, 0, 0), (1, 3, 0, 0, 0), (1, 4, 0, 0, 0)], [], [], [])), [(2, 0, 0), (0, 3, 2147483647), (2, 0, 0), (0, 4, 6)])]

/-- PushedIn$Passing.passersOf () -/
def zpC42 : zC := (60, (2, 62), ([(0, 1, 0, 0)], ([[(0, 0)], [(0, 40)], [(0, 5)]], [], [(3, 0, 5, 0, 0), (1, 2, 0, 0, 0), (0, 0, 0, 0, 0), (0, 0, 0, 0, 0)], [], [], [])), [([(1, 0, 0, 0)], ([[(0, 0)], [(0, 40)], [(0, 5)], [((-2147483648), 2147483647)]], [], [], [(1, 3, 0, 0, 0)], [], []))], [])
def zpA42 : zAnn := [(4, ([(0, 2, 0, 0), (0, 3, 0, 0)], ([[(0, 0)], [(0, 40)], [(0, 5)], [((-2147483648), 2147483647)], [(0, 6)]], [], [(3, 0, 5, 0, 0), (1, 2, 0, 0, 0), (1, 3, 0, 0, 0), (1, 4, 0, 0, 0)], [], [], [])), [(2, 0, 0), (0, 4, 6), (2, 0, 0)])]

/-- java/lang/Integer.bitCount () -/
def zpC43 : zC := (208, (1, 40), ([(0, 0, 0, 0)], ([[(0, 0)], [(0, 40)], [(0, 63)]], [], [(1, 2, 0, 0, 0)], [], [], [])), [([(1, 0, 0, 0)], ([[(0, 0)], [(0, 40)], [(0, 63)], [(0, 63)]], [], [], [(1, 3, 0, 0, 0)], [], []))], [])
def zpA43 : zAnn := []

/-- java/lang/Math.min () -/
def zpC44 : zC := (211, (1, 40), ([(0, 0, 0, 0), (0, 1, 0, 0)], ([[(0, 0)], [(0, 40)], [((-2147483648), 2147483647)], [((-2147483648), 2147483647)]], [], [(1, 2, 0, 0, 0), (1, 3, 0, 0, 0)], [], [], [])), [([], ([[(0, 0)], [(0, 40)], [((-2147483648), 2147483647)], [((-2147483648), 2147483647)]], [(2, 3, 0)], [], [(1, 2, 0, 0, 0)], [], [])), ([], ([[(0, 0)], [(0, 40)], [((-2147483647), 2147483647)], [((-2147483648), 2147483646)]], [(3, 2, (-1))], [], [(1, 3, 0, 0, 0)], [], []))], [])
def zpA44 : zAnn := []

/-- PushedIn$Passing.fewestAmongChosen () -/
def zpC45 : zC := (56, (3, 85), ([], ([[(0, 0)], [(0, 40)]], [], [(3, 0, 5, 0, 0), (0, 0, 0, 0, 0), (0, 0, 0, 0, 0), (0, 0, 0, 0, 0), (0, 0, 0, 0, 0), (0, 0, 0, 0, 0), (0, 0, 0, 0, 0)], [], [], [])), [([(1, 0, 0, 0)], ([[(0, 0)], [(0, 40)], [((-2147483648), 2147483647)]], [], [], [(1, 2, 0, 0, 0)], [], []))], [(24, 24, 0, 0), (25, 25, 0, 0)])
def zpA45 : zAnn := [(2, ([(0, 1, 0, 0)], ([[(0, 0)], [(0, 40)], [(0, 6)]], [], [(3, 0, 5, 0, 0), (1, 2, 0, 0, 0), (0, 0, 0, 0, 0), (0, 0, 0, 0, 0), (0, 0, 0, 0, 0), (0, 0, 0, 0, 0), (0, 0, 0, 0, 0)], [], [], [])), [(2, 0, 1), (0, 2, 6), (2, 0, 0)]), (43, ([(0, 1, 0, 0), (0, 2, 0, 0)], ([[(0, 0)], [(0, 40)], [(1, 64)], [(1, 64)]], [], [(3, 0, 5, 0, 0), (1, 2, 0, 0, 0), (1, 3, 0, 0, 0), (0, 0, 0, 0, 0), (0, 0, 0, 0, 0), (0, 0, 0, 0, 0), (0, 0, 0, 0, 0)], [], [], [])), [(2, 0, 0), (0, 3, 64), (2, 0, 1)]), (72, ([(0, 1, 0, 0), (0, 2, 0, 0), (0, 3, 0, 0), (0, 4, 0, 0)], ([[(0, 0)], [(0, 40)], [(2, 64)], [(1, 63)], [(0, 2147483647)], [(0, 6)]], [(3, 2, 0)], [(3, 0, 5, 0, 0), (1, 2, 0, 0, 0), (1, 3, 0, 0, 0), (1, 4, 0, 0, 0), (1, 5, 0, 0, 0), (0, 0, 0, 0, 0), (0, 0, 0, 0, 0)], [], [], [])), [(2, 0, 0), (0, 3, 64), (2, 0, 0), (0, 5, 6)])]

/-- PushedIn.fewest () -/
def zpC46 : zC := (10, (4, 111), ([(0, 1, 0, 0)], ([[(0, 0)], [(0, 40)], [((-9223372036854775808), 9223372036854775807)]], [], [(3, 0, 0, 0, 0), (2, 2, 0, 0, 0), (0, 0, 0, 0, 0)], [], [], [])), [([(1, 0, 0, 0)], ([[(0, 0)], [(0, 40)], [((-9223372036854775808), 9223372036854775807)], [((-2147483648), 2147483647)]], [], [], [(1, 3, 0, 0, 0)], [], [])), ([], ([[(0, 0)], [(0, 40)], [((-9223372036854775808), 9223372036854775807)]], [], [], [(1, 0, (-1), 0, 0)], [], []))], [(5, 5, 1, 4), (23, 23, 0, 0), (24, 24, 0, 0), (25, 25, 0, 0)])
def zpA46 : zAnn := []

/-- PushedIn$Rules.add () -/
def zpC47 : zC := (72, (1, 40), ([(0, 1, 0, 0), (0, 2, 0, 0), (0, 3, 0, 0), (0, 4, 0, 0)], ([[(0, 0)], [(0, 40)], [(0, 7)], [(0, 99)], [(0, 99)], [(0, 99)]], [], [(3, 0, 6, 0, 0), (1, 2, 0, 0, 0), (1, 3, 0, 0, 0), (1, 4, 0, 0, 0), (1, 5, 0, 0, 0)], [], [], [])), [([], ([[(0, 0)], [(0, 40)], [(0, 7)], [(0, 99)], [(0, 99)], [(0, 99)]], [], [], [], [], []))], [(6, 6, 1, 8), (27, 27, 0, 0), (28, 28, 0, 0), (29, 29, 0, 0), (30, 30, 0, 0)])
def zpA47 : zAnn := []

/-- PushedIn.within ((1, 100),) -/
def zpC48 : zC := (37, (1, 40), ([(0, 0, 0, 0)], ([[(0, 0)], [(0, 40)], [((-2147483648), 2147483647)]], [], [(1, 2, 0, 0, 0), (1, 0, 100, 0, 0)], [], [], [])), [([], ([[(0, 0)], [(0, 40)], [((-2147483648), (-1)), (100, 2147483647)]], [], [], [(1, 0, 0, 0, 0)], [], [])), ([], ([[(0, 0)], [(0, 40)], [(0, 99)]], [], [], [(1, 0, 1, 0, 0)], [], []))], [])
def zpA48 : zAnn := []

/-- PushedIn.within ((1, 10000),) -/
def zpC49 : zC := (37, (1, 40), ([(0, 0, 0, 0)], ([[(0, 0)], [(0, 40)], [((-2147483648), 2147483647)]], [], [(1, 2, 0, 0, 0), (1, 0, 10000, 0, 0)], [], [], [])), [([], ([[(0, 0)], [(0, 40)], [((-2147483648), (-1)), (10000, 2147483647)]], [], [], [(1, 0, 0, 0, 0)], [], [])), ([], ([[(0, 0)], [(0, 40)], [(0, 9999)]], [], [], [(1, 0, 1, 0, 0)], [], []))], [])
def zpA49 : zAnn := []

/-- PushedIn.within ((1, 8),) -/
def zpC50 : zC := (37, (1, 40), ([(0, 0, 0, 0)], ([[(0, 0)], [(0, 40)], [((-2147483648), 2147483647)]], [], [(1, 2, 0, 0, 0), (1, 0, 8, 0, 0)], [], [], [])), [([], ([[(0, 0)], [(0, 40)], [((-2147483648), (-1)), (8, 2147483647)]], [], [], [(1, 0, 0, 0, 0)], [], [])), ([], ([[(0, 0)], [(0, 40)], [(0, 7)]], [], [], [(1, 0, 1, 0, 0)], [], []))], [])
def zpA50 : zAnn := []

/-- PushedIn.rule () -/
def zpC51 : zC := (27, (2, 64), ([(0, 1, 0, 0), (0, 2, 0, 0), (0, 3, 0, 0)], ([[(0, 0)], [(0, 40)], [((-2147483648), 2147483647)], [((-2147483648), 2147483647)], [((-2147483648), 2147483647)]], [], [(3, 0, 0, 0, 0), (1, 2, 0, 0, 0), (1, 3, 0, 0, 0), (1, 4, 0, 0, 0)], [], [], [])), [([(1, 0, 0, 0)], ([[(0, 0)], [(0, 40)], [(0, 7)], [(0, 9999)], [(0, 99)], [((-1), 19)]], [], [], [(1, 5, 0, 0, 0)], [], [])), ([], ([[(0, 0)], [(0, 40)], [((-2147483648), 2147483647)], [((-2147483648), 2147483647)], [((-2147483648), 2147483647)]], [], [], [(1, 0, (-1), 0, 0)], [], [])), ([], ([[(0, 0)], [(0, 40)], [(0, 7)], [(0, 9999)], [(0, 99)]], [], [], [(1, 0, (-3), 0, 0)], [], []))], [(6, 6, 1, 8), (27, 27, 0, 0), (28, 28, 0, 0), (29, 29, 0, 0), (30, 30, 0, 0)])
def zpA51 : zAnn := []

/-- PushedIn$Tape.sign () -/
def zpC52 : zC := (100, (1, 40), ([(2, 0, 2, 1)], ([[(0, 0)], [(0, 40)], [(0, 60)]], [], [(3, 0, 2, 0, 0)], [], [(0, 2, 1, (1, 2, 0, 0, 0))], [])), [([(1, 0, 0, 0)], ([[(0, 0)], [(0, 40)], [(0, 59)], [(0, 255)]], [], [], [(1, 3, 0, 0, 0)], [(0, 2, 1, (1, 2, 0, 0, 0))], [])), ([], ([[(0, 0)], [(0, 40)], [(0, 60)]], [], [], [(1, 0, (-1), 0, 0)], [(0, 2, 1, (1, 2, 0, 0, 0))], []))], [])
def zpA52 : zAnn := []

/-- PushedIn$Tape.accept () -/
def zpC53 : zC := (95, (2, 60), ([(0, 1, 0, 0), (2, 0, 2, 1)], ([[(0, 0)], [(0, 40)], [(0, 47), (58, 255)], [(0, 60)]], [], [(3, 0, 2, 0, 0), (1, 2, 0, 0, 0)], [], [(0, 2, 1, (1, 3, 0, 0, 0))], [])), [([], ([[(0, 0)], [(0, 40)], [(0, 47), (58, 255)], [(0, 60)]], [], [], [(1, 0, 0, 0, 0)], [(0, 2, 1, (1, 3, 0, 0, 0))], [])), ([], ([[(0, 0)], [(0, 40)], [(0, 47), (58, 255)], [(0, 59)]], [], [], [(1, 0, 1, 0, 0)], [(0, 2, 1, (1, 3, 1, 0, 0))], []))], [(2, 2, 1, 1)])
def zpA53 : zAnn := []

/-- PushedIn$Tape.rewind () -/
def zpC54 : zC := (99, (1, 40), ([], ([[(0, 0)], [(0, 40)]], [], [(3, 0, 2, 0, 0)], [], [], [])), [([], ([[(0, 0)], [(0, 40)]], [], [], [], [], []))], [(2, 2, 1, 1), (2, 2, 1, 3)])
def zpA54 : zAnn := []

/-- PushedIn$Tape.stop () -/
def zpC55 : zC := (101, (1, 40), ([], ([[(0, 0)], [(0, 40)]], [], [(3, 0, 2, 0, 0)], [], [], [])), [([], ([[(0, 0)], [(0, 40)]], [], [], [], [], []))], [(2, 2, 1, 3)])
def zpA55 : zAnn := []

/-- PushedIn$Text.addStep () -/
def zpC56 : zC := (102, (1, 40), ([(0, 0, 0, 0), (0, 1, 0, 0), (0, 2, 0, 0)], ([[(0, 0)], [(0, 40)], [(10, 11)], [((-1), 255)], [((-2147483648), 2147483647)]], [], [(3, 2, 0, 0, 0), (1, 3, 0, 0, 0), (1, 4, 0, 0, 0)], [], [], [])), [([], ([[(0, 0)], [(0, 40)], [(10, 11)], [((-1), 255)], [((-2147483648), 2147483647)]], [], [], [], [], []))], [(10, 11, 1, 4), (31, 32, 0, 0), (33, 34, 0, 0)])
def zpA56 : zAnn := []

/-- PushedIn.isDigit () -/
def zpC57 : zC := (13, (1, 40), ([(0, 0, 0, 0)], ([[(0, 0)], [(0, 40)], [((-1), 255)]], [], [(1, 2, 0, 0, 0)], [], [], [])), [([], ([[(0, 0)], [(0, 40)], [((-1), 47), (58, 255)]], [], [], [(1, 0, 0, 0, 0)], [], [])), ([], ([[(0, 0)], [(0, 40)], [(48, 57)]], [], [], [(1, 0, 1, 0, 0)], [], []))], [])
def zpA57 : zAnn := []

/-- PushedIn$Tape.readNumber () -/
def zpC58 : zC := (98, (2, 60), ([(2, 0, 2, 1)], ([[(0, 0)], [(0, 40)], [(0, 59)]], [], [(3, 0, 2, 0, 0), (1, 0, 4, 0, 0), (1, 0, 0, 0, 0), (1, 0, 9999, 0, 0), (0, 0, 0, 0, 0), (0, 0, 0, 0, 0), (0, 0, 0, 0, 0)], [], [(0, 2, 1, (1, 2, 0, 0, 0))], [])), [([(1, 0, 0, 0), (2, 0, 2, 1)], ([[(0, 0)], [(0, 40)], [(0, 59)], [((-2147483648), 2147483647)], [(0, 60)]], [(2, 4, 0)], [], [(1, 3, 0, 0, 0)], [(0, 2, 1, (1, 4, 0, 0, 0))], []))], [(2, 2, 1, 1), (2, 2, 1, 3)])
def zpA58 : zAnn := [(12, ([(0, 5, 0, 0), (0, 6, 0, 0), (2, 0, 2, 1)], ([[(0, 0)], [(0, 40)], [(0, 59)], [((-2147483648), 2147483647)], [(0, 4)], [(0, 60)]], [(4, 5, 0), (2, 5, 0)], [(3, 0, 2, 0, 0), (1, 0, 4, 0, 0), (1, 0, 0, 0, 0), (1, 0, 9999, 0, 0), (1, 2, 0, 0, 0), (1, 3, 0, 0, 0), (1, 4, 0, 0, 0)], [], [(0, 2, 1, (1, 5, 0, 0, 0))], [])), [(2, 0, 0), (0, 4, 4), (2, 0, 0)])]

/-- PushedIn$Text.readOperand ((1, 6),) -/
def zpC59 : zC := (108, (20, 1000), ([(0, 0, 0, 0)], ([[(0, 0)], [(0, 40)], [(10, 11)]], [], [(3, 2, 0, 0, 0), (1, 0, 6, 0, 0), (0, 0, 0, 0, 0), (0, 0, 0, 0, 0)], [], [], [])), [([], ([[(0, 0)], [(0, 40)], [(10, 11)]], [], [], [], [], []))], [(2, 2, 1, 1), (2, 2, 1, 3), (10, 11, 1, 4), (31, 32, 0, 0), (33, 34, 0, 0)])
def zpA59 : zAnn := []

/-- PushedIn$Text.readProduct ((1, 6),) -/
def zpC60 : zC := (109, (21, 1023), ([(0, 0, 0, 0)], ([[(0, 0)], [(0, 40)], [(10, 11)]], [], [(3, 2, 0, 0, 0), (1, 0, 6, 0, 0), (0, 0, 0, 0, 0), (0, 0, 0, 0, 0)], [], [], [])), [([], ([[(0, 0)], [(0, 40)], [(10, 11)]], [], [], [], [], []))], [(2, 2, 1, 1), (2, 2, 1, 3), (10, 11, 1, 4), (31, 32, 0, 0), (33, 34, 0, 0)])
def zpA60 : zAnn := [(15, ([(0, 2, 0, 0), (0, 3, 0, 0)], ([[(0, 0)], [(0, 40)], [(10, 11)], [((-1), 255)], [(0, 60)]], [], [(3, 2, 0, 0, 0), (1, 0, 6, 0, 0), (1, 3, 0, 0, 0), (1, 4, 0, 0, 0)], [], [], [])), [(2, 0, 0), (0, 4, 60), (2, 0, 0)])]

/-- PushedIn$Text.readSum ((1, 6),) -/
def zpC61 : zC := (110, (22, 1046), ([(0, 0, 0, 0)], ([[(0, 0)], [(0, 40)], [(10, 11)]], [], [(3, 2, 0, 0, 0), (1, 0, 6, 0, 0), (0, 0, 0, 0, 0), (0, 0, 0, 0, 0)], [], [], [])), [([], ([[(0, 0)], [(0, 40)], [(10, 11)]], [], [], [], [], []))], [(2, 2, 1, 1), (2, 2, 1, 3), (10, 11, 1, 4), (31, 32, 0, 0), (33, 34, 0, 0)])
def zpA61 : zAnn := [(15, ([(0, 2, 0, 0), (0, 3, 0, 0)], ([[(0, 0)], [(0, 40)], [(10, 11)], [((-1), 255)], [(0, 60)]], [], [(3, 2, 0, 0, 0), (1, 0, 6, 0, 0), (1, 3, 0, 0, 0), (1, 4, 0, 0, 0)], [], [], [])), [(2, 0, 0), (0, 4, 60), (2, 0, 0)])]

/-- PushedIn$Text.readCompared ((1, 6),) -/
def zpC62 : zC := (105, (23, 1069), ([(0, 0, 0, 0)], ([[(0, 0)], [(0, 40)], [(10, 11)]], [], [(3, 2, 0, 0, 0), (1, 0, 6, 0, 0), (0, 0, 0, 0, 0)], [], [], [])), [([], ([[(0, 0)], [(0, 40)], [(10, 11)]], [], [], [], [], []))], [(2, 2, 1, 1), (2, 2, 1, 3), (10, 11, 1, 4), (31, 32, 0, 0), (33, 34, 0, 0)])
def zpA62 : zAnn := []

/-- PushedIn$Text.readBoth ((1, 6),) -/
def zpC63 : zC := (104, (24, 1091), ([(0, 0, 0, 0)], ([[(0, 0)], [(0, 40)], [(10, 11)]], [], [(3, 2, 0, 0, 0), (1, 0, 6, 0, 0), (0, 0, 0, 0, 0)], [], [], [])), [([], ([[(0, 0)], [(0, 40)], [(10, 11)]], [], [], [], [], []))], [(2, 2, 1, 1), (2, 2, 1, 3), (10, 11, 1, 4), (31, 32, 0, 0), (33, 34, 0, 0)])
def zpA63 : zAnn := [(7, ([(0, 2, 0, 0)], ([[(0, 0)], [(0, 40)], [(10, 11)], [(0, 60)]], [], [(3, 2, 0, 0, 0), (1, 0, 6, 0, 0), (1, 3, 0, 0, 0)], [], [], [])), [(2, 0, 0), (0, 3, 60), (2, 0, 0)])]

/-- PushedIn$Text.readEither ((1, 6),) -/
def zpC64 : zC := (106, (25, 1113), ([(0, 0, 0, 0)], ([[(0, 0)], [(0, 40)], [(10, 11)]], [], [(3, 2, 0, 0, 0), (1, 0, 6, 0, 0), (0, 0, 0, 0, 0)], [], [], [])), [([], ([[(0, 0)], [(0, 40)], [(10, 11)]], [], [], [], [], []))], [(2, 2, 1, 1), (2, 2, 1, 3), (10, 11, 1, 4), (31, 32, 0, 0), (33, 34, 0, 0)])
def zpA64 : zAnn := [(7, ([(0, 2, 0, 0)], ([[(0, 0)], [(0, 40)], [(10, 11)], [(0, 60)]], [], [(3, 2, 0, 0, 0), (1, 0, 6, 0, 0), (1, 3, 0, 0, 0)], [], [], [])), [(2, 0, 0), (0, 3, 60), (2, 0, 0)])]

/-- PushedIn$Text.readOperand ((1, 5),) -/
def zpC65 : zC := (108, (26, 1135), ([(0, 0, 0, 0)], ([[(0, 0)], [(0, 40)], [(10, 11)]], [], [(3, 2, 0, 0, 0), (1, 0, 5, 0, 0), (0, 0, 0, 0, 0), (0, 0, 0, 0, 0)], [], [], [])), [([], ([[(0, 0)], [(0, 40)], [(10, 11)]], [], [], [], [], []))], [(2, 2, 1, 1), (2, 2, 1, 3), (10, 11, 1, 4), (31, 32, 0, 0), (33, 34, 0, 0)])
def zpA65 : zAnn := []

/-- PushedIn$Text.readProduct ((1, 5),) -/
def zpC66 : zC := (109, (27, 1158), ([(0, 0, 0, 0)], ([[(0, 0)], [(0, 40)], [(10, 11)]], [], [(3, 2, 0, 0, 0), (1, 0, 5, 0, 0), (0, 0, 0, 0, 0), (0, 0, 0, 0, 0)], [], [], [])), [([], ([[(0, 0)], [(0, 40)], [(10, 11)]], [], [], [], [], []))], [(2, 2, 1, 1), (2, 2, 1, 3), (10, 11, 1, 4), (31, 32, 0, 0), (33, 34, 0, 0)])
def zpA66 : zAnn := [(15, ([(0, 2, 0, 0), (0, 3, 0, 0)], ([[(0, 0)], [(0, 40)], [(10, 11)], [((-1), 255)], [(0, 60)]], [], [(3, 2, 0, 0, 0), (1, 0, 5, 0, 0), (1, 3, 0, 0, 0), (1, 4, 0, 0, 0)], [], [], [])), [(2, 0, 0), (0, 4, 60), (2, 0, 0)])]

/-- PushedIn$Text.readSum ((1, 5),) -/
def zpC67 : zC := (110, (28, 1181), ([(0, 0, 0, 0)], ([[(0, 0)], [(0, 40)], [(10, 11)]], [], [(3, 2, 0, 0, 0), (1, 0, 5, 0, 0), (0, 0, 0, 0, 0), (0, 0, 0, 0, 0)], [], [], [])), [([], ([[(0, 0)], [(0, 40)], [(10, 11)]], [], [], [], [], []))], [(2, 2, 1, 1), (2, 2, 1, 3), (10, 11, 1, 4), (31, 32, 0, 0), (33, 34, 0, 0)])
def zpA67 : zAnn := [(15, ([(0, 2, 0, 0), (0, 3, 0, 0)], ([[(0, 0)], [(0, 40)], [(10, 11)], [((-1), 255)], [(0, 60)]], [], [(3, 2, 0, 0, 0), (1, 0, 5, 0, 0), (1, 3, 0, 0, 0), (1, 4, 0, 0, 0)], [], [], [])), [(2, 0, 0), (0, 4, 60), (2, 0, 0)])]

/-- PushedIn$Text.readCompared ((1, 5),) -/
def zpC68 : zC := (105, (29, 1204), ([(0, 0, 0, 0)], ([[(0, 0)], [(0, 40)], [(10, 11)]], [], [(3, 2, 0, 0, 0), (1, 0, 5, 0, 0), (0, 0, 0, 0, 0)], [], [], [])), [([], ([[(0, 0)], [(0, 40)], [(10, 11)]], [], [], [], [], []))], [(2, 2, 1, 1), (2, 2, 1, 3), (10, 11, 1, 4), (31, 32, 0, 0), (33, 34, 0, 0)])
def zpA68 : zAnn := []

/-- PushedIn$Text.readBoth ((1, 5),) -/
def zpC69 : zC := (104, (30, 1226), ([(0, 0, 0, 0)], ([[(0, 0)], [(0, 40)], [(10, 11)]], [], [(3, 2, 0, 0, 0), (1, 0, 5, 0, 0), (0, 0, 0, 0, 0)], [], [], [])), [([], ([[(0, 0)], [(0, 40)], [(10, 11)]], [], [], [], [], []))], [(2, 2, 1, 1), (2, 2, 1, 3), (10, 11, 1, 4), (31, 32, 0, 0), (33, 34, 0, 0)])
def zpA69 : zAnn := [(7, ([(0, 2, 0, 0)], ([[(0, 0)], [(0, 40)], [(10, 11)], [(0, 60)]], [], [(3, 2, 0, 0, 0), (1, 0, 5, 0, 0), (1, 3, 0, 0, 0)], [], [], [])), [(2, 0, 0), (0, 3, 60), (2, 0, 0)])]

/-- PushedIn$Text.readEither ((1, 5),) -/
def zpC70 : zC := (106, (31, 1248), ([(0, 0, 0, 0)], ([[(0, 0)], [(0, 40)], [(10, 11)]], [], [(3, 2, 0, 0, 0), (1, 0, 5, 0, 0), (0, 0, 0, 0, 0)], [], [], [])), [([], ([[(0, 0)], [(0, 40)], [(10, 11)]], [], [], [], [], []))], [(2, 2, 1, 1), (2, 2, 1, 3), (10, 11, 1, 4), (31, 32, 0, 0), (33, 34, 0, 0)])
def zpA70 : zAnn := [(7, ([(0, 2, 0, 0)], ([[(0, 0)], [(0, 40)], [(10, 11)], [(0, 60)]], [], [(3, 2, 0, 0, 0), (1, 0, 5, 0, 0), (1, 3, 0, 0, 0)], [], [], [])), [(2, 0, 0), (0, 3, 60), (2, 0, 0)])]

/-- PushedIn$Text.readOperand ((1, 4),) -/
def zpC71 : zC := (108, (32, 1270), ([(0, 0, 0, 0)], ([[(0, 0)], [(0, 40)], [(10, 11)]], [], [(3, 2, 0, 0, 0), (1, 0, 4, 0, 0), (0, 0, 0, 0, 0), (0, 0, 0, 0, 0)], [], [], [])), [([], ([[(0, 0)], [(0, 40)], [(10, 11)]], [], [], [], [], []))], [(2, 2, 1, 1), (2, 2, 1, 3), (10, 11, 1, 4), (31, 32, 0, 0), (33, 34, 0, 0)])
def zpA71 : zAnn := []

/-- PushedIn$Text.readProduct ((1, 4),) -/
def zpC72 : zC := (109, (33, 1293), ([(0, 0, 0, 0)], ([[(0, 0)], [(0, 40)], [(10, 11)]], [], [(3, 2, 0, 0, 0), (1, 0, 4, 0, 0), (0, 0, 0, 0, 0), (0, 0, 0, 0, 0)], [], [], [])), [([], ([[(0, 0)], [(0, 40)], [(10, 11)]], [], [], [], [], []))], [(2, 2, 1, 1), (2, 2, 1, 3), (10, 11, 1, 4), (31, 32, 0, 0), (33, 34, 0, 0)])
def zpA72 : zAnn := [(15, ([(0, 2, 0, 0), (0, 3, 0, 0)], ([[(0, 0)], [(0, 40)], [(10, 11)], [((-1), 255)], [(0, 60)]], [], [(3, 2, 0, 0, 0), (1, 0, 4, 0, 0), (1, 3, 0, 0, 0), (1, 4, 0, 0, 0)], [], [], [])), [(2, 0, 0), (0, 4, 60), (2, 0, 0)])]

/-- PushedIn$Text.readSum ((1, 4),) -/
def zpC73 : zC := (110, (34, 1316), ([(0, 0, 0, 0)], ([[(0, 0)], [(0, 40)], [(10, 11)]], [], [(3, 2, 0, 0, 0), (1, 0, 4, 0, 0), (0, 0, 0, 0, 0), (0, 0, 0, 0, 0)], [], [], [])), [([], ([[(0, 0)], [(0, 40)], [(10, 11)]], [], [], [], [], []))], [(2, 2, 1, 1), (2, 2, 1, 3), (10, 11, 1, 4), (31, 32, 0, 0), (33, 34, 0, 0)])
def zpA73 : zAnn := [(15, ([(0, 2, 0, 0), (0, 3, 0, 0)], ([[(0, 0)], [(0, 40)], [(10, 11)], [((-1), 255)], [(0, 60)]], [], [(3, 2, 0, 0, 0), (1, 0, 4, 0, 0), (1, 3, 0, 0, 0), (1, 4, 0, 0, 0)], [], [], [])), [(2, 0, 0), (0, 4, 60), (2, 0, 0)])]

/-- PushedIn$Text.readCompared ((1, 4),) -/
def zpC74 : zC := (105, (35, 1339), ([(0, 0, 0, 0)], ([[(0, 0)], [(0, 40)], [(10, 11)]], [], [(3, 2, 0, 0, 0), (1, 0, 4, 0, 0), (0, 0, 0, 0, 0)], [], [], [])), [([], ([[(0, 0)], [(0, 40)], [(10, 11)]], [], [], [], [], []))], [(2, 2, 1, 1), (2, 2, 1, 3), (10, 11, 1, 4), (31, 32, 0, 0), (33, 34, 0, 0)])
def zpA74 : zAnn := []

/-- PushedIn$Text.readBoth ((1, 4),) -/
def zpC75 : zC := (104, (36, 1361), ([(0, 0, 0, 0)], ([[(0, 0)], [(0, 40)], [(10, 11)]], [], [(3, 2, 0, 0, 0), (1, 0, 4, 0, 0), (0, 0, 0, 0, 0)], [], [], [])), [([], ([[(0, 0)], [(0, 40)], [(10, 11)]], [], [], [], [], []))], [(2, 2, 1, 1), (2, 2, 1, 3), (10, 11, 1, 4), (31, 32, 0, 0), (33, 34, 0, 0)])
def zpA75 : zAnn := [(7, ([(0, 2, 0, 0)], ([[(0, 0)], [(0, 40)], [(10, 11)], [(0, 60)]], [], [(3, 2, 0, 0, 0), (1, 0, 4, 0, 0), (1, 3, 0, 0, 0)], [], [], [])), [(2, 0, 0), (0, 3, 60), (2, 0, 0)])]

/-- PushedIn$Text.readEither ((1, 4),) -/
def zpC76 : zC := (106, (37, 1383), ([(0, 0, 0, 0)], ([[(0, 0)], [(0, 40)], [(10, 11)]], [], [(3, 2, 0, 0, 0), (1, 0, 4, 0, 0), (0, 0, 0, 0, 0)], [], [], [])), [([], ([[(0, 0)], [(0, 40)], [(10, 11)]], [], [], [], [], []))], [(2, 2, 1, 1), (2, 2, 1, 3), (10, 11, 1, 4), (31, 32, 0, 0), (33, 34, 0, 0)])
def zpA76 : zAnn := [(7, ([(0, 2, 0, 0)], ([[(0, 0)], [(0, 40)], [(10, 11)], [(0, 60)]], [], [(3, 2, 0, 0, 0), (1, 0, 4, 0, 0), (1, 3, 0, 0, 0)], [], [], [])), [(2, 0, 0), (0, 3, 60), (2, 0, 0)])]

/-- PushedIn$Text.readOperand ((1, 3),) -/
def zpC77 : zC := (108, (38, 1405), ([(0, 0, 0, 0)], ([[(0, 0)], [(0, 40)], [(10, 11)]], [], [(3, 2, 0, 0, 0), (1, 0, 3, 0, 0), (0, 0, 0, 0, 0), (0, 0, 0, 0, 0)], [], [], [])), [([], ([[(0, 0)], [(0, 40)], [(10, 11)]], [], [], [], [], []))], [(2, 2, 1, 1), (2, 2, 1, 3), (10, 11, 1, 4), (31, 32, 0, 0), (33, 34, 0, 0)])
def zpA77 : zAnn := []

/-- PushedIn$Text.readProduct ((1, 3),) -/
def zpC78 : zC := (109, (39, 1428), ([(0, 0, 0, 0)], ([[(0, 0)], [(0, 40)], [(10, 11)]], [], [(3, 2, 0, 0, 0), (1, 0, 3, 0, 0), (0, 0, 0, 0, 0), (0, 0, 0, 0, 0)], [], [], [])), [([], ([[(0, 0)], [(0, 40)], [(10, 11)]], [], [], [], [], []))], [(2, 2, 1, 1), (2, 2, 1, 3), (10, 11, 1, 4), (31, 32, 0, 0), (33, 34, 0, 0)])
def zpA78 : zAnn := [(15, ([(0, 2, 0, 0), (0, 3, 0, 0)], ([[(0, 0)], [(0, 40)], [(10, 11)], [((-1), 255)], [(0, 60)]], [], [(3, 2, 0, 0, 0), (1, 0, 3, 0, 0), (1, 3, 0, 0, 0), (1, 4, 0, 0, 0)], [], [], [])), [(2, 0, 0), (0, 4, 60), (2, 0, 0)])]

/-- PushedIn$Text.readSum ((1, 3),) -/
def zpC79 : zC := (110, (40, 1451), ([(0, 0, 0, 0)], ([[(0, 0)], [(0, 40)], [(10, 11)]], [], [(3, 2, 0, 0, 0), (1, 0, 3, 0, 0), (0, 0, 0, 0, 0), (0, 0, 0, 0, 0)], [], [], [])), [([], ([[(0, 0)], [(0, 40)], [(10, 11)]], [], [], [], [], []))], [(2, 2, 1, 1), (2, 2, 1, 3), (10, 11, 1, 4), (31, 32, 0, 0), (33, 34, 0, 0)])
def zpA79 : zAnn := [(15, ([(0, 2, 0, 0), (0, 3, 0, 0)], ([[(0, 0)], [(0, 40)], [(10, 11)], [((-1), 255)], [(0, 60)]], [], [(3, 2, 0, 0, 0), (1, 0, 3, 0, 0), (1, 3, 0, 0, 0), (1, 4, 0, 0, 0)], [], [], [])), [(2, 0, 0), (0, 4, 60), (2, 0, 0)])]

/-- PushedIn$Text.readCompared ((1, 3),) -/
def zpC80 : zC := (105, (41, 1474), ([(0, 0, 0, 0)], ([[(0, 0)], [(0, 40)], [(10, 11)]], [], [(3, 2, 0, 0, 0), (1, 0, 3, 0, 0), (0, 0, 0, 0, 0)], [], [], [])), [([], ([[(0, 0)], [(0, 40)], [(10, 11)]], [], [], [], [], []))], [(2, 2, 1, 1), (2, 2, 1, 3), (10, 11, 1, 4), (31, 32, 0, 0), (33, 34, 0, 0)])
def zpA80 : zAnn := []

/-- PushedIn$Text.readBoth ((1, 3),) -/
def zpC81 : zC := (104, (42, 1496), ([(0, 0, 0, 0)], ([[(0, 0)], [(0, 40)], [(10, 11)]], [], [(3, 2, 0, 0, 0), (1, 0, 3, 0, 0), (0, 0, 0, 0, 0)], [], [], [])), [([], ([[(0, 0)], [(0, 40)], [(10, 11)]], [], [], [], [], []))], [(2, 2, 1, 1), (2, 2, 1, 3), (10, 11, 1, 4), (31, 32, 0, 0), (33, 34, 0, 0)])
def zpA81 : zAnn := [(7, ([(0, 2, 0, 0)], ([[(0, 0)], [(0, 40)], [(10, 11)], [(0, 60)]], [], [(3, 2, 0, 0, 0), (1, 0, 3, 0, 0), (1, 3, 0, 0, 0)], [], [], [])), [(2, 0, 0), (0, 3, 60), (2, 0, 0)])]

/-- PushedIn$Text.readEither ((1, 3),) -/
def zpC82 : zC := (106, (43, 1518), ([(0, 0, 0, 0)], ([[(0, 0)], [(0, 40)], [(10, 11)]], [], [(3, 2, 0, 0, 0), (1, 0, 3, 0, 0), (0, 0, 0, 0, 0)], [], [], [])), [([], ([[(0, 0)], [(0, 40)], [(10, 11)]], [], [], [], [], []))], [(2, 2, 1, 1), (2, 2, 1, 3), (10, 11, 1, 4), (31, 32, 0, 0), (33, 34, 0, 0)])
def zpA82 : zAnn := [(7, ([(0, 2, 0, 0)], ([[(0, 0)], [(0, 40)], [(10, 11)], [(0, 60)]], [], [(3, 2, 0, 0, 0), (1, 0, 3, 0, 0), (1, 3, 0, 0, 0)], [], [], [])), [(2, 0, 0), (0, 3, 60), (2, 0, 0)])]

/-- PushedIn$Text.readOperand ((1, 2),) -/
def zpC83 : zC := (108, (44, 1540), ([(0, 0, 0, 0)], ([[(0, 0)], [(0, 40)], [(10, 11)]], [], [(3, 2, 0, 0, 0), (1, 0, 2, 0, 0), (0, 0, 0, 0, 0), (0, 0, 0, 0, 0)], [], [], [])), [([], ([[(0, 0)], [(0, 40)], [(10, 11)]], [], [], [], [], []))], [(2, 2, 1, 1), (2, 2, 1, 3), (10, 11, 1, 4), (31, 32, 0, 0), (33, 34, 0, 0)])
def zpA83 : zAnn := []

/-- PushedIn$Text.readProduct ((1, 2),) -/
def zpC84 : zC := (109, (45, 1563), ([(0, 0, 0, 0)], ([[(0, 0)], [(0, 40)], [(10, 11)]], [], [(3, 2, 0, 0, 0), (1, 0, 2, 0, 0), (0, 0, 0, 0, 0), (0, 0, 0, 0, 0)], [], [], [])), [([], ([[(0, 0)], [(0, 40)], [(10, 11)]], [], [], [], [], []))], [(2, 2, 1, 1), (2, 2, 1, 3), (10, 11, 1, 4), (31, 32, 0, 0), (33, 34, 0, 0)])
def zpA84 : zAnn := [(15, ([(0, 2, 0, 0), (0, 3, 0, 0)], ([[(0, 0)], [(0, 40)], [(10, 11)], [((-1), 255)], [(0, 60)]], [], [(3, 2, 0, 0, 0), (1, 0, 2, 0, 0), (1, 3, 0, 0, 0), (1, 4, 0, 0, 0)], [], [], [])), [(2, 0, 0), (0, 4, 60), (2, 0, 0)])]

/-- PushedIn$Text.readSum ((1, 2),) -/
def zpC85 : zC := (110, (46, 1586), ([(0, 0, 0, 0)], ([[(0, 0)], [(0, 40)], [(10, 11)]], [], [(3, 2, 0, 0, 0), (1, 0, 2, 0, 0), (0, 0, 0, 0, 0), (0, 0, 0, 0, 0)], [], [], [])), [([], ([[(0, 0)], [(0, 40)], [(10, 11)]], [], [], [], [], []))], [(2, 2, 1, 1), (2, 2, 1, 3), (10, 11, 1, 4), (31, 32, 0, 0), (33, 34, 0, 0)])
def zpA85 : zAnn := [(15, ([(0, 2, 0, 0), (0, 3, 0, 0)], ([[(0, 0)], [(0, 40)], [(10, 11)], [((-1), 255)], [(0, 60)]], [], [(3, 2, 0, 0, 0), (1, 0, 2, 0, 0), (1, 3, 0, 0, 0), (1, 4, 0, 0, 0)], [], [], [])), [(2, 0, 0), (0, 4, 60), (2, 0, 0)])]

/-- PushedIn$Text.readCompared ((1, 2),) -/
def zpC86 : zC := (105, (47, 1609), ([(0, 0, 0, 0)], ([[(0, 0)], [(0, 40)], [(10, 11)]], [], [(3, 2, 0, 0, 0), (1, 0, 2, 0, 0), (0, 0, 0, 0, 0)], [], [], [])), [([], ([[(0, 0)], [(0, 40)], [(10, 11)]], [], [], [], [], []))], [(2, 2, 1, 1), (2, 2, 1, 3), (10, 11, 1, 4), (31, 32, 0, 0), (33, 34, 0, 0)])
def zpA86 : zAnn := []

/-- PushedIn$Text.readBoth ((1, 2),) -/
def zpC87 : zC := (104, (48, 1631), ([(0, 0, 0, 0)], ([[(0, 0)], [(0, 40)], [(10, 11)]], [], [(3, 2, 0, 0, 0), (1, 0, 2, 0, 0), (0, 0, 0, 0, 0)], [], [], [])), [([], ([[(0, 0)], [(0, 40)], [(10, 11)]], [], [], [], [], []))], [(2, 2, 1, 1), (2, 2, 1, 3), (10, 11, 1, 4), (31, 32, 0, 0), (33, 34, 0, 0)])
def zpA87 : zAnn := [(7, ([(0, 2, 0, 0)], ([[(0, 0)], [(0, 40)], [(10, 11)], [(0, 60)]], [], [(3, 2, 0, 0, 0), (1, 0, 2, 0, 0), (1, 3, 0, 0, 0)], [], [], [])), [(2, 0, 0), (0, 3, 60), (2, 0, 0)])]

/-- PushedIn$Text.readEither ((1, 2),) -/
def zpC88 : zC := (106, (49, 1653), ([(0, 0, 0, 0)], ([[(0, 0)], [(0, 40)], [(10, 11)]], [], [(3, 2, 0, 0, 0), (1, 0, 2, 0, 0), (0, 0, 0, 0, 0)], [], [], [])), [([], ([[(0, 0)], [(0, 40)], [(10, 11)]], [], [], [], [], []))], [(2, 2, 1, 1), (2, 2, 1, 3), (10, 11, 1, 4), (31, 32, 0, 0), (33, 34, 0, 0)])
def zpA88 : zAnn := [(7, ([(0, 2, 0, 0)], ([[(0, 0)], [(0, 40)], [(10, 11)], [(0, 60)]], [], [(3, 2, 0, 0, 0), (1, 0, 2, 0, 0), (1, 3, 0, 0, 0)], [], [], [])), [(2, 0, 0), (0, 3, 60), (2, 0, 0)])]

/-- PushedIn$Text.readOperand ((1, 1),) -/
def zpC89 : zC := (108, (50, 1675), ([(0, 0, 0, 0)], ([[(0, 0)], [(0, 40)], [(10, 11)]], [], [(3, 2, 0, 0, 0), (1, 0, 1, 0, 0), (0, 0, 0, 0, 0), (0, 0, 0, 0, 0)], [], [], [])), [([], ([[(0, 0)], [(0, 40)], [(10, 11)]], [], [], [], [], []))], [(2, 2, 1, 1), (2, 2, 1, 3), (10, 11, 1, 4), (31, 32, 0, 0), (33, 34, 0, 0)])
def zpA89 : zAnn := []

/-- PushedIn$Text.readProduct ((1, 1),) -/
def zpC90 : zC := (109, (51, 1698), ([(0, 0, 0, 0)], ([[(0, 0)], [(0, 40)], [(10, 11)]], [], [(3, 2, 0, 0, 0), (1, 0, 1, 0, 0), (0, 0, 0, 0, 0), (0, 0, 0, 0, 0)], [], [], [])), [([], ([[(0, 0)], [(0, 40)], [(10, 11)]], [], [], [], [], []))], [(2, 2, 1, 1), (2, 2, 1, 3), (10, 11, 1, 4), (31, 32, 0, 0), (33, 34, 0, 0)])
def zpA90 : zAnn := [(15, ([(0, 2, 0, 0), (0, 3, 0, 0)], ([[(0, 0)], [(0, 40)], [(10, 11)], [((-1), 255)], [(0, 60)]], [], [(3, 2, 0, 0, 0), (1, 0, 1, 0, 0), (1, 3, 0, 0, 0), (1, 4, 0, 0, 0)], [], [], [])), [(2, 0, 0), (0, 4, 60), (2, 0, 0)])]

/-- PushedIn$Text.readSum ((1, 1),) -/
def zpC91 : zC := (110, (52, 1721), ([(0, 0, 0, 0)], ([[(0, 0)], [(0, 40)], [(10, 11)]], [], [(3, 2, 0, 0, 0), (1, 0, 1, 0, 0), (0, 0, 0, 0, 0), (0, 0, 0, 0, 0)], [], [], [])), [([], ([[(0, 0)], [(0, 40)], [(10, 11)]], [], [], [], [], []))], [(2, 2, 1, 1), (2, 2, 1, 3), (10, 11, 1, 4), (31, 32, 0, 0), (33, 34, 0, 0)])
def zpA91 : zAnn := [(15, ([(0, 2, 0, 0), (0, 3, 0, 0)], ([[(0, 0)], [(0, 40)], [(10, 11)], [((-1), 255)], [(0, 60)]], [], [(3, 2, 0, 0, 0), (1, 0, 1, 0, 0), (1, 3, 0, 0, 0), (1, 4, 0, 0, 0)], [], [], [])), [(2, 0, 0), (0, 4, 60), (2, 0, 0)])]

/-- PushedIn$Text.readCompared ((1, 1),) -/
def zpC92 : zC := (105, (53, 1744), ([(0, 0, 0, 0)], ([[(0, 0)], [(0, 40)], [(10, 11)]], [], [(3, 2, 0, 0, 0), (1, 0, 1, 0, 0), (0, 0, 0, 0, 0)], [], [], [])), [([], ([[(0, 0)], [(0, 40)], [(10, 11)]], [], [], [], [], []))], [(2, 2, 1, 1), (2, 2, 1, 3), (10, 11, 1, 4), (31, 32, 0, 0), (33, 34, 0, 0)])
def zpA92 : zAnn := []

/-- PushedIn$Text.readBoth ((1, 1),) -/
def zpC93 : zC := (104, (54, 1766), ([(0, 0, 0, 0)], ([[(0, 0)], [(0, 40)], [(10, 11)]], [], [(3, 2, 0, 0, 0), (1, 0, 1, 0, 0), (0, 0, 0, 0, 0)], [], [], [])), [([], ([[(0, 0)], [(0, 40)], [(10, 11)]], [], [], [], [], []))], [(2, 2, 1, 1), (2, 2, 1, 3), (10, 11, 1, 4), (31, 32, 0, 0), (33, 34, 0, 0)])
def zpA93 : zAnn := [(7, ([(0, 2, 0, 0)], ([[(0, 0)], [(0, 40)], [(10, 11)], [(0, 60)]], [], [(3, 2, 0, 0, 0), (1, 0, 1, 0, 0), (1, 3, 0, 0, 0)], [], [], [])), [(2, 0, 0), (0, 3, 60), (2, 0, 0)])]

/-- PushedIn$Text.readEither ((1, 1),) -/
def zpC94 : zC := (106, (55, 1788), ([(0, 0, 0, 0)], ([[(0, 0)], [(0, 40)], [(10, 11)]], [], [(3, 2, 0, 0, 0), (1, 0, 1, 0, 0), (0, 0, 0, 0, 0)], [], [], [])), [([], ([[(0, 0)], [(0, 40)], [(10, 11)]], [], [], [], [], []))], [(2, 2, 1, 1), (2, 2, 1, 3), (10, 11, 1, 4), (31, 32, 0, 0), (33, 34, 0, 0)])
def zpA94 : zAnn := [(7, ([(0, 2, 0, 0)], ([[(0, 0)], [(0, 40)], [(10, 11)], [(0, 60)]], [], [(3, 2, 0, 0, 0), (1, 0, 1, 0, 0), (1, 3, 0, 0, 0)], [], [], [])), [(2, 0, 0), (0, 3, 60), (2, 0, 0)])]

/-- PushedIn$Text.readOperand ((1, 0),) -/
def zpC95 : zC := (108, (56, 1810), ([(0, 0, 0, 0)], ([[(0, 0)], [(0, 40)], [(10, 11)]], [], [(3, 2, 0, 0, 0), (1, 0, 0, 0, 0), (0, 0, 0, 0, 0), (0, 0, 0, 0, 0)], [], [], [])), [([], ([[(0, 0)], [(0, 40)], [(10, 11)]], [], [], [], [], []))], [(2, 2, 1, 1), (2, 2, 1, 3), (10, 11, 1, 4), (31, 32, 0, 0), (33, 34, 0, 0)])
def zpA95 : zAnn := []

/-- PushedIn$Text.readProduct ((1, 0),) -/
def zpC96 : zC := (109, (57, 1833), ([(0, 0, 0, 0)], ([[(0, 0)], [(0, 40)], [(10, 11)]], [], [(3, 2, 0, 0, 0), (1, 0, 0, 0, 0), (0, 0, 0, 0, 0), (0, 0, 0, 0, 0)], [], [], [])), [([], ([[(0, 0)], [(0, 40)], [(10, 11)]], [], [], [], [], []))], [(2, 2, 1, 1), (2, 2, 1, 3), (10, 11, 1, 4), (31, 32, 0, 0), (33, 34, 0, 0)])
def zpA96 : zAnn := [(15, ([(0, 2, 0, 0), (0, 3, 0, 0)], ([[(0, 0)], [(0, 40)], [(10, 11)], [((-1), 255)], [(0, 60)]], [], [(3, 2, 0, 0, 0), (1, 0, 0, 0, 0), (1, 3, 0, 0, 0), (1, 4, 0, 0, 0)], [], [], [])), [(2, 0, 0), (0, 4, 60), (2, 0, 0)])]

/-- PushedIn$Text.readSum ((1, 0),) -/
def zpC97 : zC := (110, (58, 1856), ([(0, 0, 0, 0)], ([[(0, 0)], [(0, 40)], [(10, 11)]], [], [(3, 2, 0, 0, 0), (1, 0, 0, 0, 0), (0, 0, 0, 0, 0), (0, 0, 0, 0, 0)], [], [], [])), [([], ([[(0, 0)], [(0, 40)], [(10, 11)]], [], [], [], [], []))], [(2, 2, 1, 1), (2, 2, 1, 3), (10, 11, 1, 4), (31, 32, 0, 0), (33, 34, 0, 0)])
def zpA97 : zAnn := [(15, ([(0, 2, 0, 0), (0, 3, 0, 0)], ([[(0, 0)], [(0, 40)], [(10, 11)], [((-1), 255)], [(0, 60)]], [], [(3, 2, 0, 0, 0), (1, 0, 0, 0, 0), (1, 3, 0, 0, 0), (1, 4, 0, 0, 0)], [], [], [])), [(2, 0, 0), (0, 4, 60), (2, 0, 0)])]

/-- PushedIn$Text.readCompared ((1, 0),) -/
def zpC98 : zC := (105, (59, 1879), ([(0, 0, 0, 0)], ([[(0, 0)], [(0, 40)], [(10, 11)]], [], [(3, 2, 0, 0, 0), (1, 0, 0, 0, 0), (0, 0, 0, 0, 0)], [], [], [])), [([], ([[(0, 0)], [(0, 40)], [(10, 11)]], [], [], [], [], []))], [(2, 2, 1, 1), (2, 2, 1, 3), (10, 11, 1, 4), (31, 32, 0, 0), (33, 34, 0, 0)])
def zpA98 : zAnn := []

/-- PushedIn$Text.readBoth ((1, 0),) -/
def zpC99 : zC := (104, (60, 1901), ([(0, 0, 0, 0)], ([[(0, 0)], [(0, 40)], [(10, 11)]], [], [(3, 2, 0, 0, 0), (1, 0, 0, 0, 0), (0, 0, 0, 0, 0)], [], [], [])), [([], ([[(0, 0)], [(0, 40)], [(10, 11)]], [], [], [], [], []))], [(2, 2, 1, 1), (2, 2, 1, 3), (10, 11, 1, 4), (31, 32, 0, 0), (33, 34, 0, 0)])
def zpA99 : zAnn := [(7, ([(0, 2, 0, 0)], ([[(0, 0)], [(0, 40)], [(10, 11)], [(0, 60)]], [], [(3, 2, 0, 0, 0), (1, 0, 0, 0, 0), (1, 3, 0, 0, 0)], [], [], [])), [(2, 0, 0), (0, 3, 60), (2, 0, 0)])]

/-- PushedIn$Text.readEither ((1, 0),) -/
def zpC100 : zC := (106, (61, 1923), ([(0, 0, 0, 0)], ([[(0, 0)], [(0, 40)], [(10, 11)]], [], [(3, 2, 0, 0, 0), (1, 0, 0, 0, 0), (0, 0, 0, 0, 0)], [], [], [])), [([], ([[(0, 0)], [(0, 40)], [(10, 11)]], [], [], [], [], []))], [(2, 2, 1, 1), (2, 2, 1, 3), (10, 11, 1, 4), (31, 32, 0, 0), (33, 34, 0, 0)])
def zpA100 : zAnn := [(7, ([(0, 2, 0, 0)], ([[(0, 0)], [(0, 40)], [(10, 11)], [(0, 60)]], [], [(3, 2, 0, 0, 0), (1, 0, 0, 0, 0), (1, 3, 0, 0, 0)], [], [], [])), [(2, 0, 0), (0, 3, 60), (2, 0, 0)])]

/-- PushedIn$Text.readLine () -/
def zpC101 : zC := (107, (62, 1945), ([(0, 0, 0, 0)], ([[(0, 0)], [(0, 40)], [(10, 11)]], [], [(3, 2, 0, 0, 0), (0, 0, 0, 0, 0)], [], [], [])), [([], ([[(0, 0)], [(0, 40)], [(10, 11)]], [], [], [], [], []))], [(2, 2, 1, 1), (2, 2, 1, 3), (10, 11, 1, 4), (31, 32, 0, 0), (33, 34, 0, 0)])
def zpA101 : zAnn := []

/-- PushedIn$Text.read () -/
def zpC102 : zC := (103, (63, 1966), ([(0, 0, 0, 0)], ([[(0, 0)], [(0, 40)], [(10, 11)]], [], [(3, 2, 0, 0, 0), (0, 0, 0, 0, 0)], [], [], [])), [([(1, 0, 0, 0)], ([[(0, 0)], [(0, 40)], [(10, 11)], [((-1), 60)]], [], [], [(1, 3, 0, 0, 0)], [], []))], [(2, 2, 1, 1), (2, 2, 1, 3), (10, 11, 1, 4), (31, 32, 0, 0), (33, 34, 0, 0)])
def zpA102 : zAnn := [(18, ([(0, 1, 0, 0)], ([[(0, 0)], [(0, 40)], [(10, 11)], [(0, 60)]], [], [(3, 2, 0, 0, 0), (1, 3, 0, 0, 0)], [], [], [])), [(2, 0, 0), (0, 3, 60), (2, 0, 0)])]

/-- PushedIn$Rules.readText () -/
def zpC103 : zC := (79, (64, 1987), ([], ([[(0, 0)], [(0, 40)]], [], [(3, 0, 6, 0, 0), (0, 0, 0, 0, 0), (0, 0, 0, 0, 0)], [], [], [])), [([(1, 0, 0, 0)], ([[(0, 0)], [(0, 40)], [(0, 60)]], [], [], [(1, 2, 0, 0, 0)], [], [])), ([], ([[(0, 0)], [(0, 40)]], [], [], [(1, 0, (-1), 0, 0)], [], []))], [(2, 2, 1, 1), (2, 2, 1, 3), (6, 6, 1, 5), (6, 6, 1, 6), (10, 11, 1, 4), (31, 32, 0, 0), (33, 34, 0, 0)])
def zpA103 : zAnn := []

/-- PushedIn$Tape.clear () -/
def zpC104 : zC := (97, (1, 40), ([], ([[(0, 0)], [(0, 40)]], [], [(3, 0, 2, 0, 0)], [], [], [])), [([], ([[(0, 0)], [(0, 40)]], [], [], [], [], []))], [(2, 2, 1, 2)])
def zpA104 : zAnn := []

/-- PushedIn.text () -/
def zpC105 : zC := (33, (65, 2009), ([], ([[(0, 0)], [(0, 40)]], [], [(3, 0, 0, 0, 0), (0, 0, 0, 0, 0)], [], [], [])), [([(1, 0, 0, 0)], ([[(0, 0)], [(0, 40)], [((-160), (-100))]], [], [], [(1, 2, 0, 0, 0)], [], [])), ([], ([[(0, 0)], [(0, 40)]], [], [], [(1, 0, 1, 0, 0)], [], []))], [(2, 2, 1, 1), (2, 2, 1, 2), (2, 2, 1, 3), (6, 6, 1, 5), (6, 6, 1, 6), (10, 11, 1, 4), (31, 32, 0, 0), (33, 34, 0, 0)])
def zpA105 : zAnn := []

/-- PushedIn$Rules.has () -/
def zpC106 : zC := (76, (2, 61), ([(0, 1, 0, 0)], ([[(0, 0)], [(0, 40)], [((-2147483648), 2147483647)]], [], [(3, 0, 6, 0, 0), (1, 2, 0, 0, 0)], [], [], [])), [([], ([[(0, 0)], [(0, 40)], [((-2147483648), 2147483647)]], [], [], [(1, 0, 0, 0, 0)], [], [])), ([], ([[(0, 0)], [(0, 40)], [(0, 19)]], [], [], [(1, 0, 1, 0, 0)], [], []))], [])
def zpA106 : zAnn := []

/-- PushedIn$Yard.standsAt () -/
def zpC107 : zC := (122, (1, 40), ([(0, 1, 0, 0), (0, 2, 0, 0)], ([[(0, 0)], [(0, 40)], [(50, 89)], [((-2147483648), 2147483647)]], [(0, 1, (-1)), (2, 1, 49)], [(3, 0, 1, 0, 0), (3, 2, 0, 0, 0), (1, 3, 0, 0, 0)], [], [], [])), [([], ([[(0, 0)], [(0, 40)], [(50, 89)], [((-2147483648), 2147483647)]], [], [], [(1, 0, 0, 0, 0)], [], [])), ([], ([[(0, 0)], [(0, 40)], [(50, 89)], [((-2147483648), 2147483647)]], [], [], [(1, 0, 1, 0, 0)], [], []))], [])
def zpA107 : zAnn := []

/-- PushedIn$Yard.hasComersOn () -/
def zpC108 : zC := (115, (1, 40), ([(0, 1, 0, 0)], ([[(0, 0)], [(0, 40)], [(0, 3)]], [], [(3, 0, 1, 0, 0), (1, 2, 0, 0, 0), (0, 0, 0, 0, 0)], [], [], [])), [([], ([[(0, 0)], [(0, 40)], [(0, 3)]], [], [], [(1, 0, 0, 0, 0)], [], [])), ([], ([[(0, 0)], [(1, 40)], [(0, 3)]], [], [], [(1, 0, 1, 0, 0)], [], []))], [])
def zpA108 : zAnn := [(2, ([(0, 2, 0, 0)], ([[(0, 0)], [(0, 40)], [(0, 3)], [(0, 40)]], [], [(3, 0, 1, 0, 0), (1, 2, 0, 0, 0), (1, 3, 0, 0, 0)], [], [], [])), [(2, 0, 0), (0, 3, 40), (2, 0, 0)])]

/-- PushedIn$Survey.isChanged () -/
def zpC109 : zC := (88, (1, 40), ([(0, 1, 0, 0), (0, 2, 0, 0)], ([[(0, 0)], [(0, 40)], [(50, 89)], [(0, 3)]], [(2, 1, 49)], [(3, 0, 7, 0, 0), (3, 2, 0, 0, 0), (1, 3, 0, 0, 0)], [], [], [])), [([], ([[(0, 0)], [(0, 40)], [(50, 89)], [(0, 3)]], [], [], [(1, 0, 0, 0, 0)], [], [])), ([], ([[(0, 0)], [(0, 40)], [(50, 89)], [(0, 3)]], [], [], [(1, 0, 1, 0, 0)], [], []))], [])
def zpA109 : zAnn := []

/-- PushedIn$Survey.changedOn () -/
def zpC110 : zC := (84, (2, 62), ([(0, 1, 0, 0)], ([[(0, 0)], [(0, 40)], [(0, 3)]], [], [(3, 0, 7, 0, 0), (1, 2, 0, 0, 0), (0, 0, 0, 0, 0), (0, 0, 0, 0, 0)], [], [], [])), [([(1, 0, 0, 0)], ([[(0, 0)], [(0, 40)], [(0, 3)], [(0, 40)]], [], [], [(1, 3, 0, 0, 0)], [], []))], [])
def zpA110 : zAnn := [(4, ([(0, 2, 0, 0), (0, 3, 0, 0)], ([[(0, 0)], [(0, 40)], [(0, 3)], [(0, 40)], [(0, 40)]], [(3, 4, 0)], [(3, 0, 7, 0, 0), (1, 2, 0, 0, 0), (1, 3, 0, 0, 0), (1, 4, 0, 0, 0)], [], [], [])), [(2, 0, 0), (0, 3, 40), (2, 0, 0), (0, 4, 40)])]

/-- PushedIn$Survey.changedOne () -/
def zpC111 : zC := (85, (2, 62), ([(0, 1, 0, 0), (0, 2, 0, 0)], ([[(0, 0)], [(0, 40)], [(0, 3)], [(0, 2147483647)]], [], [(3, 0, 7, 0, 0), (1, 2, 0, 0, 0), (1, 3, 0, 0, 0), (0, 0, 0, 0, 0), (0, 0, 0, 0, 0)], [], [], [])), [([(1, 0, 0, 0)], ([[(0, 0)], [(1, 40)], [(0, 3)], [(0, 40)], [(0, 39)]], [(4, 1, (-1)), (3, 4, 0)], [], [(1, 4, 0, 0, 0)], [], [])), ([], ([[(0, 0)], [(0, 40)], [(0, 3)], [(0, 2147483647)]], [], [], [(1, 0, (-1), 0, 0)], [], []))], [])
def zpA111 : zAnn := [(5, ([(0, 3, 0, 0), (0, 4, 0, 0)], ([[(0, 0)], [(0, 40)], [(0, 3)], [(0, 2147483647)], [(0, 40)], [(0, 40)]], [(4, 5, 0)], [(3, 0, 7, 0, 0), (1, 2, 0, 0, 0), (1, 3, 0, 0, 0), (1, 4, 0, 0, 0), (1, 5, 0, 0, 0)], [], [], [])), [(2, 0, 0), (0, 4, 40), (2, 0, 0), (0, 5, 40)])]

/-- PushedIn.changed () -/
def zpC112 : zC := (6, (3, 86), ([(0, 1, 0, 0), (0, 2, 0, 0)], ([[(0, 0)], [(0, 40)], [((-2147483648), 2147483647)], [((-2147483648), 2147483647)]], [], [(3, 0, 0, 0, 0), (1, 2, 0, 0, 0), (1, 3, 0, 0, 0), (0, 0, 0, 0, 0)], [], [], [])), [([(1, 0, 0, 0)], ([[(0, 0)], [(0, 40)], [(0, 3)], [((-1), 39)], [(0, 40)]], [(3, 4, 0)], [], [(1, 4, 0, 0, 0)], [], [])), ([], ([[(0, 0)], [(0, 40)], [((-2147483648), 2147483647)], [((-2147483648), 2147483647)]], [], [], [(1, 0, (-1), 0, 0)], [], [])), ([], ([[(0, 0)], [(0, 40)], [(0, 3)], [((-1), 39)]], [], [], [(1, 0, (-5), 0, 0)], [], []))], [])
def zpA112 : zAnn := []

/-- PushedIn$Survey.someWaited () -/
def zpC113 : zC := (92, (2, 62), ([(0, 1, 0, 0), (0, 2, 0, 0), (0, 3, 0, 0)], ([[(0, 0)], [(0, 40)], [((-2147483648), 2147483647)], [((-2147483648), 2147483647)], [((-2147483648), 2147483646)]], [], [(3, 0, 7, 0, 0), (1, 2, 0, 0, 0), (1, 3, 0, 0, 0), (1, 4, 0, 0, 0), (0, 0, 0, 0, 0), (0, 0, 0, 0, 0)], [], [], [])), [([], ([[(0, 0)], [(0, 40)], [((-2147483648), 2147483647)], [((-2147483648), 2147483647)], [((-2147483648), 2147483646)]], [], [], [(1, 0, 0, 0, 0)], [], [])), ([], ([[(0, 0)], [(1, 40)], [((-2147483648), 2147483647)], [((-2147483648), 2147483647)], [((-2147483648), 2147483646)]], [], [], [(1, 0, 1, 0, 0)], [], []))], [])
def zpA113 : zAnn := [(3, ([(0, 4, 0, 0)], ([[(0, 0)], [(0, 40)], [((-2147483648), 2147483647)], [((-2147483648), 2147483647)], [((-2147483648), 2147483646)], [(0, 40)]], [], [(3, 0, 7, 0, 0), (1, 2, 0, 0, 0), (1, 3, 0, 0, 0), (1, 4, 0, 0, 0), (1, 5, 0, 0, 0), (0, 0, 0, 0, 0)], [], [], [])), [(2, 0, 0), (0, 5, 40), (2, 0, 0)])]

/-- PushedIn$Yard.isAway () -/
def zpC114 : zC := (116, (1, 40), ([(0, 1, 0, 0), (0, 2, 0, 0)], ([[(0, 0)], [(0, 40)], [((-2147483648), 2147483647)], [((-2147483648), 2147483646)]], [], [(3, 0, 1, 0, 0), (1, 2, 0, 0, 0), (1, 3, 0, 0, 0), (0, 0, 0, 0, 0)], [], [], [])), [([], ([[(0, 0)], [(0, 40)], [((-2147483648), 2147483647)], [((-2147483648), 2147483646)]], [], [], [(1, 0, 0, 0, 0)], [], [])), ([], ([[(0, 0)], [(0, 40)], [((-2147483648), 2147483647)], [((-2147483648), 2147483646)]], [], [], [(1, 0, 1, 0, 0)], [], []))], [])
def zpA114 : zAnn := [(2, ([(0, 3, 0, 0)], ([[(0, 0)], [(0, 40)], [((-2147483648), 2147483647)], [((-2147483648), 2147483646)], [(0, 12)]], [], [(3, 0, 1, 0, 0), (1, 2, 0, 0, 0), (1, 3, 0, 0, 0), (1, 4, 0, 0, 0)], [], [], [])), [(2, 0, 0), (0, 4, 12), (2, 0, 0)])]

/-- PushedIn$Survey.lookAheadOf () -/
def zpC115 : zC := (89, (3, 87), ([(0, 1, 0, 0), (2, 2, 0, 9)], ([[(0, 0)], [(0, 40)], [(50, 89)], [(0, 39)]], [(2, 1, 49), (3, 1, (-1))], [(3, 0, 7, 0, 0), (3, 2, 0, 0, 0), (0, 0, 0, 0, 0)], [], [(2, 0, 9, (1, 3, 0, 0, 0))], [])), [([], ([[(0, 0)], [(0, 40)], [(50, 89)], [(0, 39)]], [], [], [], [], []))], [(7, 7, 1, 5), (7, 7, 1, 6)])
def zpA115 : zAnn := [(16, ([(0, 2, 0, 0)], ([[(0, 0)], [(0, 40)], [(50, 89)], [(0, 39)], [((-2147483648), 2147483647)]], [(2, 1, 49), (3, 1, (-1))], [(3, 0, 7, 0, 0), (3, 2, 0, 0, 0), (1, 4, 0, 0, 0)], [], [(2, 0, 9, (1, 3, 0, 0, 0))], [])), [(2, 0, 0), (0, 4, 2147483647), (2, 0, 0)])]

/-- PushedIn$Survey.lookForIdle () -/
def zpC116 : zC := (90, (4, 109), ([(0, 1, 0, 0), (0, 2, 0, 0)], ([[(0, 0)], [(0, 40)], [(0, 3)], [(0, 3)]], [], [(3, 0, 7, 0, 0), (1, 2, 0, 0, 0), (1, 3, 0, 0, 0), (0, 0, 0, 0, 0), (0, 0, 0, 0, 0)], [], [], [])), [([], ([[(0, 0)], [(0, 40)], [(0, 3)], [(0, 3)]], [], [], [], [], []))], [(7, 7, 1, 5), (7, 7, 1, 6)])
def zpA116 : zAnn := [(13, ([(0, 3, 0, 0)], ([[(0, 0)], [(0, 40)], [(0, 3)], [(0, 3)], [(0, 40)]], [], [(3, 0, 7, 0, 0), (1, 2, 0, 0, 0), (1, 3, 0, 0, 0), (1, 4, 0, 0, 0), (0, 0, 0, 0, 0)], [], [], [])), [(2, 0, 0), (0, 4, 40), (2, 0, 0)])]

/-- PushedIn.idle () -/
def zpC117 : zC := (12, (5, 133), ([(0, 1, 0, 0), (0, 2, 0, 0)], ([[(0, 0)], [(0, 40)], [((-2147483648), 2147483647)], [((-2147483648), 2147483647)]], [], [(3, 0, 0, 0, 0), (1, 2, 0, 0, 0), (1, 3, 0, 0, 0), (0, 0, 0, 0, 0), (0, 0, 0, 0, 0)], [], [], [])), [([(1, 0, 0, 0)], ([[(0, 0)], [(0, 40)], [((-2147483648), 2147483647)], [(0, 1)], [((-2147483648), 2147483647)]], [], [], [(1, 4, 0, 0, 0)], [], [])), ([], ([[(0, 0)], [(0, 40)], [((-2147483648), 2147483647)], [((-2147483648), 2147483647)]], [], [], [(1, 0, (-1), 0, 0)], [], []))], [(7, 7, 1, 5), (7, 7, 1, 6)])
def zpA117 : zAnn := []

/-- PushedIn$Survey.drawAbout () -/
def zpC118 : zC := (86, (1, 40), ([], ([[(0, 0)], [(0, 40)]], [], [(3, 0, 7, 0, 0), (0, 0, 0, 0, 0), (0, 0, 0, 0, 0), (0, 0, 0, 0, 0)], [], [], [])), [([], ([[(0, 0)], [(0, 40)]], [], [], [], [], []))], [(7, 7, 1, 4), (38, 38, 0, 0)])
def zpA118 : zAnn := [(7, ([(0, 1, 0, 0)], ([[(0, 0)], [(0, 40)], [((-1), 39)]], [], [(3, 0, 7, 0, 0), (1, 2, 0, 0, 0), (0, 0, 0, 0, 0), (0, 0, 0, 0, 0)], [], [], [])), [(2, 0, 0), (1, 2, (-1)), (2, 0, 0)])]

/-- PushedIn$Survey.gather () -/
def zpC119 : zC := (87, (2, 60), ([(0, 1, 0, 0), (2, 0, 7, 3)], ([[(0, 0)], [(0, 40)], [(0, 3)], [(0, 40)]], [], [(3, 0, 7, 0, 0), (1, 2, 0, 0, 0), (0, 0, 0, 0, 0), (0, 0, 0, 0, 0)], [], [(0, 7, 3, (1, 3, 0, 0, 0))], [])), [([(2, 0, 7, 3)], ([[(0, 0)], [(0, 40)], [(0, 3)], [(0, 40)], [(0, 40)]], [], [], [], [(0, 7, 3, (1, 4, 0, 0, 0))], []))], [(7, 7, 1, 3), (37, 37, 0, 0), (38, 38, 0, 0)])
def zpA119 : zAnn := [(7, ([(0, 2, 0, 0), (2, 0, 7, 3)], ([[(0, 0)], [(0, 40)], [(0, 3)], [(0, 40)], [(0, 40)], [(0, 40)]], [(5, 4, 0)], [(3, 0, 7, 0, 0), (1, 2, 0, 0, 0), (1, 4, 0, 0, 0), (0, 0, 0, 0, 0)], [], [(0, 7, 3, (1, 5, 0, 0, 0))], [])), [(2, 0, 0), (0, 4, 40), (2, 0, 0)])]

/-- PushedIn$Survey.waitOf () -/
def zpC120 : zC := (94, (1, 40), ([(0, 1, 0, 0)], ([[(0, 0)], [(0, 40)], [(0, 7)]], [], [(3, 0, 7, 0, 0), (1, 2, 0, 0, 0), (0, 0, 0, 0, 0), (0, 0, 0, 0, 0)], [], [], [])), [([(1, 0, 0, 0)], ([[(0, 0)], [(0, 40)], [(0, 7)], [((-2147483648), 2147483647)]], [], [], [(1, 3, 0, 0, 0)], [], []))], [])
def zpA120 : zAnn := [(4, ([(0, 2, 0, 0), (0, 3, 0, 0)], ([[(0, 0)], [(0, 40)], [(0, 7)], [((-2147483648), 2147483647)], [(0, 40)]], [], [(3, 0, 7, 0, 0), (1, 2, 0, 0, 0), (1, 3, 0, 0, 0), (1, 4, 0, 0, 0)], [], [], [])), [(2, 0, 0), (0, 4, 40), (2, 0, 0)])]

/-- PushedIn$Survey.seldomOf () -/
def zpC121 : zC := (91, (3, 83), ([(0, 1, 0, 0), (0, 2, 0, 0), (0, 3, 0, 0), (0, 4, 0, 0)], ([[(0, 0)], [(0, 40)], [(0, 3)], [(0, 7)], [((-2147483648), 2147483647)], [(1, 200)]], [], [(3, 0, 7, 0, 0), (1, 2, 0, 0, 0), (1, 3, 0, 0, 0), (1, 4, 0, 0, 0), (1, 5, 0, 0, 0), (0, 0, 0, 0, 0), (0, 0, 0, 0, 0), (0, 0, 0, 0, 0)], [], [], [])), [([(1, 0, 0, 0)], ([[(0, 0)], [(0, 40)], [(0, 3)], [(0, 7)], [((-2147483648), 2147483647)], [(1, 200)], [(0, 200)]], [], [], [(1, 6, 0, 0, 0)], [], []))], [(7, 7, 1, 3), (7, 7, 1, 4), (37, 37, 0, 0), (38, 38, 0, 0)])
def zpA121 : zAnn := [(23, ([(0, 5, 0, 0), (0, 6, 0, 0), (0, 7, 0, 0)], ([[(0, 0)], [(0, 40)], [(0, 3)], [(0, 7)], [((-2147483648), 2147483647)], [(1, 200)], [((-2147483648), 2147483647)], [(0, 200)], [(0, 200)]], [(7, 8, 0)], [(3, 0, 7, 0, 0), (1, 2, 0, 0, 0), (1, 3, 0, 0, 0), (1, 4, 0, 0, 0), (1, 5, 0, 0, 0), (1, 6, 0, 0, 0), (1, 7, 0, 0, 0), (1, 8, 0, 0, 0)], [], [], [])), [(2, 0, 0), (0, 7, 200), (2, 0, 0), (0, 8, 200)])]

/-- PushedIn.seldom () -/
def zpC122 : zC := (28, (4, 110), ([(0, 1, 0, 0), (0, 2, 0, 0), (0, 3, 0, 0)], ([[(0, 0)], [(0, 40)], [((-2147483648), 2147483647)], [((-2147483648), 2147483647)], [((-2147483648), 2147483647)]], [], [(3, 0, 0, 0, 0), (1, 2, 0, 0, 0), (1, 3, 0, 0, 0), (1, 4, 0, 0, 0), (0, 0, 0, 0, 0), (0, 0, 0, 0, 0)], [], [], [])), [([(1, 0, 0, 0)], ([[(0, 0)], [(0, 40)], [((-2147483648), 2147483647)], [((-2147483648), 2147483647)], [(1, 200)], [(0, 200)]], [], [], [(1, 5, 0, 0, 0)], [], [])), ([], ([[(0, 0)], [(0, 40)], [((-2147483648), 2147483647)], [((-2147483648), 2147483647)], [((-2147483648), 2147483647)]], [], [], [(1, 0, (-1), 0, 0)], [], []))], [(7, 7, 1, 3), (7, 7, 1, 4), (37, 37, 0, 0), (38, 38, 0, 0)])
def zpA122 : zAnn := []

/-- java/lang/Math.abs () -/
def zpC123 : zC := (209, (1, 40), ([(0, 0, 0, 0)], ([[(0, 0)], [(0, 40)], [((-2147483648), 2147483647)]], [], [(1, 2, 0, 0, 0)], [], [], [])), [([(1, 0, 0, 0)], ([[(0, 0)], [(0, 40)], [((-2147483648), (-1))], [((-2147483648), 2147483647)]], [], [], [(1, 3, 0, 0, 0)], [], [])), ([], ([[(0, 0)], [(0, 40)], [(0, 2147483647)]], [], [], [(1, 2, 0, 0, 0)], [], []))], [])
def zpA123 : zAnn := []

/-- PushedIn$Survey.alongOf () -/
def zpC124 : zC := (83, (2, 60), ([(0, 1, 0, 0), (0, 2, 0, 0), (0, 3, 0, 0), (0, 4, 0, 0)], ([[(0, 0)], [(0, 40)], [(0, 7)], [(0, 7)], [(0, 3)], [(0, 99)]], [], [(3, 0, 7, 0, 0), (1, 2, 0, 0, 0), (1, 3, 0, 0, 0), (1, 4, 0, 0, 0), (1, 5, 0, 0, 0), (0, 0, 0, 0, 0), (0, 0, 0, 0, 0), (0, 0, 0, 0, 0), (0, 0, 0, 0, 0), (0, 0, 0, 0, 0), (0, 0, 0, 0, 0)], [], [], [])), [([(1, 0, 0, 0)], ([[(0, 0)], [(0, 40)], [(0, 7)], [(0, 7)], [(0, 3)], [(0, 99)], [((-2147483648), 2147483647)]], [], [], [(1, 6, 0, 0, 0)], [], []))], [])
def zpA124 : zAnn := [(21, ([(0, 5, 0, 0), (0, 6, 0, 0), (0, 7, 0, 0)], ([[(0, 0)], [(1, 40)], [(0, 7)], [(0, 7)], [(0, 3)], [(0, 99)], [((-2147483648), 2147483647)], [(0, 39)], [(0, 39)]], [(8, 7, 0)], [(3, 0, 7, 0, 0), (1, 2, 0, 0, 0), (1, 3, 0, 0, 0), (1, 4, 0, 0, 0), (1, 5, 0, 0, 0), (1, 6, 0, 0, 0), (1, 7, 0, 0, 0), (1, 8, 0, 0, 0), (0, 0, 0, 0, 0), (0, 0, 0, 0, 0), (0, 0, 0, 0, 0)], [], [], [])), [(2, 0, 0), (0, 7, 40), (2, 0, 0), (0, 8, 39)]), (6, ([(0, 5, 0, 0), (0, 6, 0, 0)], ([[(0, 0)], [(0, 40)], [(0, 7)], [(0, 7)], [(0, 3)], [(0, 99)], [((-2147483648), 2147483647)], [(0, 40)]], [], [(3, 0, 7, 0, 0), (1, 2, 0, 0, 0), (1, 3, 0, 0, 0), (1, 4, 0, 0, 0), (1, 5, 0, 0, 0), (1, 6, 0, 0, 0), (1, 7, 0, 0, 0), (0, 0, 0, 0, 0), (0, 0, 0, 0, 0), (0, 0, 0, 0, 0), (0, 0, 0, 0, 0)], [], [], [])), [(2, 0, 0), (0, 7, 40), (2, 0, 1)])]

/-- PushedIn.along () -/
def zpC125 : zC := (1, (3, 90), ([(0, 1, 0, 0), (0, 2, 0, 0), (0, 3, 0, 0)], ([[(0, 0)], [(0, 40)], [((-2147483648), 2147483647)], [((-2147483648), 2147483647)], [((-2147483648), 2147483647)]], [], [(3, 0, 0, 0, 0), (1, 2, 0, 0, 0), (1, 3, 0, 0, 0), (1, 4, 0, 0, 0), (0, 0, 0, 0, 0), (0, 0, 0, 0, 0)], [], [], [])), [([(1, 0, 0, 0)], ([[(0, 0)], [(0, 40)], [((-2147483648), 2147483647)], [(0, 3)], [(0, 99)], [((-2147483648), 2147483647)]], [], [], [(1, 5, 0, 0, 0)], [], [])), ([], ([[(0, 0)], [(0, 40)], [((-2147483648), 2147483647)], [((-2147483648), 2147483647)], [((-2147483648), 2147483647)]], [], [], [(1, 0, (-1), 0, 0)], [], []))], [])
def zpA125 : zAnn := []

/-- PushedIn$Survey.unsureAt () -/
def zpC126 : zC := (93, (2, 60), ([(0, 1, 0, 0), (0, 2, 0, 0)], ([[(0, 0)], [(0, 40)], [(0, 3)], [(0, 3)]], [], [(3, 0, 7, 0, 0), (1, 2, 0, 0, 0), (1, 3, 0, 0, 0), (0, 0, 0, 0, 0), (0, 0, 0, 0, 0), (0, 0, 0, 0, 0)], [], [], [])), [([(1, 0, 0, 0)], ([[(0, 0)], [(0, 40)], [(0, 3)], [(0, 3)], [((-2147483648), 2147483647)]], [], [], [(1, 4, 0, 0, 0)], [], []))], [])
def zpA126 : zAnn := [(5, ([(0, 3, 0, 0), (0, 4, 0, 0)], ([[(0, 0)], [(0, 40)], [(0, 3)], [(0, 3)], [((-2147483648), 2147483647)], [(0, 40)]], [], [(3, 0, 7, 0, 0), (1, 2, 0, 0, 0), (1, 3, 0, 0, 0), (1, 4, 0, 0, 0), (1, 5, 0, 0, 0), (0, 0, 0, 0, 0)], [], [], [])), [(2, 0, 0), (0, 5, 40), (2, 0, 0)])]

/-- PushedIn.stand () -/
def zpC127 : zC := (30, (3, 85), ([(0, 1, 0, 0), (0, 2, 0, 0)], ([[(0, 0)], [(0, 40)], [((-2147483648), 2147483647)], [((-2147483648), 2147483647)]], [], [(3, 0, 0, 0, 0), (1, 2, 0, 0, 0), (1, 3, 0, 0, 0), (0, 0, 0, 0, 0), (0, 0, 0, 0, 0), (0, 0, 0, 0, 0), (0, 0, 0, 0, 0)], [], [], [])), [([(1, 0, 0, 0)], ([[(0, 0)], [(0, 40)], [(0, 3)], [(0, 1)], [((-2147483648), 2147483647)]], [], [], [(1, 4, 0, 0, 0)], [], [])), ([], ([[(0, 0)], [(0, 40)], [((-2147483648), 2147483647)], [((-2147483648), 2147483647)]], [], [], [(1, 0, (-1), 0, 0)], [], []))], [])
def zpA127 : zAnn := [(34, ([(0, 3, 0, 0), (0, 4, 0, 0), (0, 5, 0, 0)], ([[(0, 0)], [(0, 40)], [(0, 3)], [(0, 1)], [(0, 3)], [((-2147483648), 2147483647)], [(1, 4)]], [(4, 6, 0)], [(3, 0, 0, 0, 0), (1, 2, 0, 0, 0), (1, 3, 0, 0, 0), (1, 4, 0, 0, 0), (1, 5, 0, 0, 0), (1, 6, 0, 0, 0), (0, 0, 0, 0, 0)], [], [], [])), [(2, 0, 0), (0, 5, 2147483647), (2, 0, 0), (0, 6, 4)])]

/-- PushedIn$Changes.back () -/
def zpC128 : zC := (46, (5, 133), ([], ([[(0, 0)], [(0, 40)]], [], [(3, 0, 4, 0, 0)], [], [], [])), [([], ([[(0, 0)], [(0, 40)]], [], [], [], [], []))], [(1, 1, 1, 9), (4, 4, 1, 5), (13, 13, 0, 0), (14, 14, 0, 0), (50, 89, 1, 1), (50, 89, 1, 9), (50, 89, 1, 10), (50, 89, 1, 11)])
def zpA128 : zAnn := []

/-- PushedIn.undo () -/
def zpC129 : zC := (35, (6, 153), ([], ([[(0, 0)], [(0, 40)]], [], [(3, 0, 0, 0, 0)], [], [], [])), [([(1, 0, 0, 0)], ([[(0, 0)], [(0, 40)], [(0, 40)]], [], [], [(1, 2, 0, 0, 0)], [], [])), ([], ([[(0, 0)], [(0, 40)]], [], [], [(1, 0, (-5), 0, 0)], [], []))], [(1, 1, 1, 9), (4, 4, 1, 5), (13, 13, 0, 0), (14, 14, 0, 0), (50, 89, 1, 1), (50, 89, 1, 9), (50, 89, 1, 10), (50, 89, 1, 11)])
def zpA129 : zAnn := []

/-- PushedIn$Changes.again () -/
def zpC130 : zC := (45, (5, 133), ([], ([[(0, 0)], [(0, 40)]], [], [(3, 0, 4, 0, 0)], [], [], [])), [([], ([[(0, 0)], [(0, 40)]], [], [], [], [], []))], [(1, 1, 1, 9), (4, 4, 1, 5), (13, 13, 0, 0), (14, 14, 0, 0), (50, 89, 1, 1), (50, 89, 1, 9), (50, 89, 1, 10), (50, 89, 1, 11)])
def zpA130 : zAnn := []

/-- PushedIn.redo () -/
def zpC131 : zC := (25, (6, 153), ([], ([[(0, 0)], [(0, 40)]], [], [(3, 0, 0, 0, 0)], [], [], [])), [([(1, 0, 0, 0)], ([[(0, 0)], [(0, 40)], [((-40), 40)]], [], [], [(1, 2, 0, 0, 0)], [], [])), ([], ([[(0, 0)], [(0, 40)]], [], [], [(1, 0, (-5), 0, 0)], [], []))], [(1, 1, 1, 9), (4, 4, 1, 5), (13, 13, 0, 0), (14, 14, 0, 0), (50, 89, 1, 1), (50, 89, 1, 9), (50, 89, 1, 10), (50, 89, 1, 11)])
def zpA131 : zAnn := []

/-- PushedIn$Acts.forget () -/
def zpC132 : zC := (40, (1, 40), ([(2, 0, 8, 1)], ([[(0, 0)], [(0, 40)], [(0, 2147483647)]], [], [(3, 0, 8, 0, 0)], [], [(0, 8, 1, (1, 2, 0, 0, 0))], [])), [([], ([[(0, 0)], [(0, 40)], [(0, 2147483647)]], [], [], [], [(0, 8, 1, (1, 0, 0, 0, 0))], []))], [(8, 8, 1, 1)])
def zpA132 : zAnn := []

/-- PushedIn$Acts.runBody ((1, 1), (3, 2)) -/
def zpC133 : zC := (43, (1, 40), ([(0, 2, 0, 0), (2, 0, 8, 1)], ([[(0, 0)], [(0, 40)], [((-2147483648), 2147483647)], [(2, 3)]], [], [(3, 0, 8, 0, 0), (1, 0, 1, 0, 0), (1, 2, 0, 0, 0), (1, 0, 2, 0, 0)], [], [(0, 8, 1, (1, 3, 0, 0, 0))], [])), [([(1, 0, 0, 0)], ([[(0, 0)], [(0, 40)], [((-2147483648), 2147483647)], [(2, 3)], [((-2147483648), 2147483647)]], [], [], [(1, 4, 0, 0, 0)], [(0, 8, 1, (1, 3, 0, 0, 0))], []))], [])
def zpA133 : zAnn := []

/-- PushedIn$Acts.runFrom ((1, 0), (2, 0), (4, 1)) -/
def zpC134 : zC := (44, (2, 63), ([(0, 3, 0, 0), (2, 0, 8, 1)], ([[(0, 0)], [(0, 40)], [((-2147483648), 2147483647)], [(1, 2)]], [], [(3, 0, 8, 0, 0), (1, 0, 0, 0, 0), (1, 0, 0, 0, 0), (1, 2, 0, 0, 0), (1, 0, 1, 0, 0), (0, 0, 0, 0, 0), (0, 0, 0, 0, 0)], [], [(0, 8, 1, (1, 3, 0, 0, 0))], [])), [([(1, 0, 0, 0)], ([[(0, 0)], [(0, 40)], [((-2147483648), 2147483647)], [(1, 2)], [((-2147483648), 2147483647)]], [], [], [(1, 4, 0, 0, 0)], [(0, 8, 1, (1, 3, 1, 0, 0))], []))], [(8, 8, 1, 1), (39, 39, 0, 0)])
def zpA134 : zAnn := []

/-- PushedIn$Acts.above ((1, 1), (2, 0), (4, 1)) -/
def zpC135 : zC := (39, (3, 89), ([(0, 3, 0, 0)], ([[(0, 0)], [(0, 40)], [((-2147483648), 2147483647)]], [], [(3, 0, 8, 0, 0), (1, 0, 1, 0, 0), (1, 0, 0, 0, 0), (1, 2, 0, 0, 0), (1, 0, 1, 0, 0)], [], [(0, 8, 1, (1, 0, 1, 0, 0))], [])), [([(1, 0, 0, 0)], ([[(0, 0)], [(0, 40)], [((-2147483648), 2147483647)], [((-2147483648), 2147483647)]], [], [], [(1, 3, 0, 0, 0)], [(0, 8, 1, (1, 0, 2, 0, 0))], []))], [(8, 8, 1, 1), (39, 39, 0, 0)])
def zpA135 : zAnn := []

/-- PushedIn$Acts.runBody ((1, 11), (3, 2)) -/
def zpC136 : zC := (43, (1, 40), ([(0, 2, 0, 0), (2, 0, 8, 1)], ([[(0, 0)], [(0, 40)], [((-2147483648), 2147483647)], [(2, 2), (4, 13)]], [], [(3, 0, 8, 0, 0), (1, 0, 11, 0, 0), (1, 2, 0, 0, 0), (1, 0, 2, 0, 0)], [], [(0, 8, 1, (1, 3, 0, 0, 0))], [])), [([(1, 0, 0, 0)], ([[(0, 0)], [(0, 40)], [((-2147483648), 2147483647)], [(2, 2), (4, 13)], [((-2147483648), 2147483647)]], [], [], [(1, 4, 0, 0, 0)], [(0, 8, 1, (1, 3, 0, 0, 0))], []))], [])
def zpA136 : zAnn := []

/-- PushedIn$Acts.runFrom ((1, 0), (2, 2), (4, 1)) -/
def zpC137 : zC := (44, (2, 63), ([(0, 3, 0, 0), (2, 0, 8, 1)], ([[(0, 0)], [(0, 40)], [((-2147483648), 2147483647)], [(1, 1), (3, 12)]], [], [(3, 0, 8, 0, 0), (1, 0, 0, 0, 0), (1, 0, 2, 0, 0), (1, 2, 0, 0, 0), (1, 0, 1, 0, 0), (0, 0, 0, 0, 0), (0, 0, 0, 0, 0)], [], [(0, 8, 1, (1, 3, 0, 0, 0))], [])), [([(1, 0, 0, 0)], ([[(0, 0)], [(0, 40)], [((-2147483648), 2147483647)], [(1, 1), (3, 12)], [((-2147483648), 2147483647)]], [], [], [(1, 4, 0, 0, 0)], [(0, 8, 1, (1, 3, 1, 0, 0))], []))], [(8, 8, 1, 1), (39, 39, 0, 0)])
def zpA137 : zAnn := []

/-- PushedIn$Acts.above ((1, 2), (2, 2), (4, 1)) -/
def zpC138 : zC := (39, (3, 89), ([(0, 3, 0, 0)], ([[(0, 0)], [(0, 40)], [((-2147483648), 2147483647)]], [], [(3, 0, 8, 0, 0), (1, 0, 2, 0, 0), (1, 0, 2, 0, 0), (1, 2, 0, 0, 0), (1, 0, 1, 0, 0)], [], [(0, 8, 1, (1, 0, 1, 0, 0))], [])), [([(1, 0, 0, 0)], ([[(0, 0)], [(0, 40)], [((-2147483648), 2147483647)], [((-2147483648), 2147483647)]], [], [], [(1, 3, 0, 0, 0)], [(0, 8, 1, (1, 0, 2, 0, 0))], []))], [(8, 8, 1, 1), (39, 39, 0, 0)])
def zpA138 : zAnn := []

/-- PushedIn$Acts.runBody ((1, 1), (3, 3)) -/
def zpC139 : zC := (43, (1, 40), ([(0, 2, 0, 0), (2, 0, 8, 1)], ([[(0, 0)], [(0, 40)], [((-2147483648), 2147483647)], [(3, 4), (6, 15)]], [], [(3, 0, 8, 0, 0), (1, 0, 1, 0, 0), (1, 2, 0, 0, 0), (1, 0, 3, 0, 0)], [], [(0, 8, 1, (1, 3, 0, 0, 0))], [])), [([(1, 0, 0, 0)], ([[(0, 0)], [(0, 40)], [((-2147483648), 2147483647)], [(3, 4), (6, 15)], [((-2147483648), 2147483647)]], [], [], [(1, 4, 0, 0, 0)], [(0, 8, 1, (1, 3, 0, 0, 0))], []))], [])
def zpA139 : zAnn := []

/-- PushedIn$Acts.runFrom ((1, 0), (2, 0), (4, 2)) -/
def zpC140 : zC := (44, (2, 63), ([(0, 3, 0, 0), (2, 0, 8, 1)], ([[(0, 0)], [(0, 40)], [((-2147483648), 2147483647)], [(2, 3), (5, 14)]], [], [(3, 0, 8, 0, 0), (1, 0, 0, 0, 0), (1, 0, 0, 0, 0), (1, 2, 0, 0, 0), (1, 0, 2, 0, 0), (0, 0, 0, 0, 0), (0, 0, 0, 0, 0)], [], [(0, 8, 1, (1, 3, 0, 0, 0))], [])), [([(1, 0, 0, 0)], ([[(0, 0)], [(0, 40)], [((-2147483648), 2147483647)], [(2, 3), (5, 14)], [((-2147483648), 2147483647)]], [], [], [(1, 4, 0, 0, 0)], [(0, 8, 1, (1, 3, 1, 0, 0))], []))], [(8, 8, 1, 1), (39, 39, 0, 0)])
def zpA140 : zAnn := []

/-- PushedIn$Acts.runBody ((1, 1), (3, 4)) -/
def zpC141 : zC := (43, (1, 40), ([(0, 2, 0, 0), (2, 0, 8, 1)], ([[(0, 0)], [(0, 40)], [((-2147483648), 2147483647)], [(4, 5), (7, 16)]], [], [(3, 0, 8, 0, 0), (1, 0, 1, 0, 0), (1, 2, 0, 0, 0), (1, 0, 4, 0, 0)], [], [(0, 8, 1, (1, 3, 0, 0, 0))], [])), [([(1, 0, 0, 0)], ([[(0, 0)], [(0, 40)], [((-2147483648), 2147483647)], [(4, 5), (7, 16)], [((-2147483648), 2147483647)]], [], [], [(1, 4, 0, 0, 0)], [(0, 8, 1, (1, 3, 0, 0, 0))], []))], [])
def zpA141 : zAnn := []

/-- PushedIn$Acts.runFrom ((1, 0), (2, 0), (4, 3)) -/
def zpC142 : zC := (44, (2, 63), ([(0, 3, 0, 0), (2, 0, 8, 1)], ([[(0, 0)], [(0, 40)], [((-2147483648), 2147483647)], [(3, 4), (6, 15)]], [], [(3, 0, 8, 0, 0), (1, 0, 0, 0, 0), (1, 0, 0, 0, 0), (1, 2, 0, 0, 0), (1, 0, 3, 0, 0), (0, 0, 0, 0, 0), (0, 0, 0, 0, 0)], [], [(0, 8, 1, (1, 3, 0, 0, 0))], [])), [([(1, 0, 0, 0)], ([[(0, 0)], [(0, 40)], [((-2147483648), 2147483647)], [(3, 4), (6, 15)], [((-2147483648), 2147483647)]], [], [], [(1, 4, 0, 0, 0)], [(0, 8, 1, (1, 3, 1, 0, 0))], []))], [(8, 8, 1, 1), (39, 39, 0, 0)])
def zpA142 : zAnn := []

/-- PushedIn$Acts.above ((1, 1), (2, 0), (4, 3)) -/
def zpC143 : zC := (39, (3, 89), ([(0, 3, 0, 0), (2, 0, 8, 1)], ([[(0, 0)], [(0, 40)], [((-2147483648), 2147483647)], [(3, 4), (6, 15)]], [], [(3, 0, 8, 0, 0), (1, 0, 1, 0, 0), (1, 0, 0, 0, 0), (1, 2, 0, 0, 0), (1, 0, 3, 0, 0)], [], [(0, 8, 1, (1, 3, 0, 0, 0))], [])), [([(1, 0, 0, 0)], ([[(0, 0)], [(0, 40)], [((-2147483648), 2147483647)], [(3, 4), (6, 15)], [((-2147483648), 2147483647)]], [], [], [(1, 4, 0, 0, 0)], [(0, 8, 1, (1, 3, 1, 0, 0))], []))], [(8, 8, 1, 1), (39, 39, 0, 0)])
def zpA143 : zAnn := []

/-- PushedIn$Acts.runBody ((1, 20), (3, 3)) -/
def zpC144 : zC := (43, (4, 113), ([(0, 2, 0, 0), (2, 0, 8, 1)], ([[(0, 0)], [(0, 40)], [((-2147483648), 2147483647)], [(3, 4), (6, 15)]], [], [(3, 0, 8, 0, 0), (1, 0, 20, 0, 0), (1, 2, 0, 0, 0), (1, 0, 3, 0, 0)], [], [(0, 8, 1, (1, 3, 0, 0, 0))], [])), [([(1, 0, 0, 0)], ([[(0, 0)], [(0, 40)], [((-2147483648), 2147483647)], [(3, 4), (6, 15)], [((-2147483648), 2147483647)]], [], [], [(1, 4, 0, 0, 0)], [(0, 8, 1, (1, 3, 1, 0, 0))], []))], [(8, 8, 1, 1), (39, 39, 0, 0)])
def zpA144 : zAnn := []

/-- PushedIn$Acts.runFrom ((1, 1), (2, 0), (4, 2)) -/
def zpC145 : zC := (44, (5, 136), ([(0, 3, 0, 0), (2, 0, 8, 1)], ([[(0, 0)], [(0, 40)], [((-2147483648), 2147483647)], [(2, 3), (5, 14)]], [], [(3, 0, 8, 0, 0), (1, 0, 1, 0, 0), (1, 0, 0, 0, 0), (1, 2, 0, 0, 0), (1, 0, 2, 0, 0), (0, 0, 0, 0, 0), (0, 0, 0, 0, 0)], [], [(0, 8, 1, (1, 3, 0, 0, 0))], [])), [([(1, 0, 0, 0)], ([[(0, 0)], [(0, 40)], [((-2147483648), 2147483647)], [(2, 3), (5, 14)], [((-2147483648), 2147483647)]], [], [], [(1, 4, 0, 0, 0)], [(0, 8, 1, (1, 3, 2, 0, 0))], []))], [(8, 8, 1, 1), (39, 39, 0, 0)])
def zpA145 : zAnn := []

/-- PushedIn$Acts.runFrom ((1, 2), (2, 0), (4, 2)) -/
def zpC146 : zC := (44, (2, 63), ([(0, 3, 0, 0), (2, 0, 8, 1)], ([[(0, 0)], [(0, 40)], [((-2147483648), 2147483647)], [(2, 2), (5, 14)]], [], [(3, 0, 8, 0, 0), (1, 0, 2, 0, 0), (1, 0, 0, 0, 0), (1, 2, 0, 0, 0), (1, 0, 2, 0, 0), (0, 0, 0, 0, 0), (0, 0, 0, 0, 0)], [], [(0, 8, 1, (1, 3, 0, 0, 0))], [])), [([(1, 0, 0, 0)], ([[(0, 0)], [(0, 40)], [((-2147483648), 2147483647)], [(2, 2), (5, 14)], [((-2147483648), 2147483647)]], [], [], [(1, 4, 0, 0, 0)], [(0, 8, 1, (1, 3, 1, 0, 0))], []))], [(8, 8, 1, 1), (39, 39, 0, 0)])
def zpA146 : zAnn := []

/-- PushedIn$Acts.runFrom ((1, 3), (2, 0), (4, 2)) -/
def zpC147 : zC := (44, (5, 136), ([(0, 3, 0, 0), (2, 0, 8, 1)], ([[(0, 0)], [(0, 40)], [((-2147483648), 2147483647)], [(2, 3), (5, 14)]], [], [(3, 0, 8, 0, 0), (1, 0, 3, 0, 0), (1, 0, 0, 0, 0), (1, 2, 0, 0, 0), (1, 0, 2, 0, 0), (0, 0, 0, 0, 0), (0, 0, 0, 0, 0)], [], [(0, 8, 1, (1, 3, 0, 0, 0))], [])), [([(1, 0, 0, 0)], ([[(0, 0)], [(0, 40)], [((-2147483648), 2147483647)], [(2, 3), (5, 14)], [((-2147483648), 2147483647)]], [], [], [(1, 4, 0, 0, 0)], [(0, 8, 1, (1, 3, 2, 0, 0))], []))], [(8, 8, 1, 1), (39, 39, 0, 0)])
def zpA147 : zAnn := []

/-- PushedIn$Acts.runBody ((1, 1), (3, 5)) -/
def zpC148 : zC := (43, (1, 40), ([(0, 2, 0, 0), (2, 0, 8, 1)], ([[(0, 0)], [(0, 40)], [((-2147483648), 2147483647)], [(5, 5), (8, 17)]], [], [(3, 0, 8, 0, 0), (1, 0, 1, 0, 0), (1, 2, 0, 0, 0), (1, 0, 5, 0, 0)], [], [(0, 8, 1, (1, 3, 0, 0, 0))], [])), [([(1, 0, 0, 0)], ([[(0, 0)], [(0, 40)], [((-2147483648), 2147483647)], [(5, 5), (8, 17)], [((-2147483648), 2147483647)]], [], [], [(1, 4, 0, 0, 0)], [(0, 8, 1, (1, 3, 0, 0, 0))], []))], [])
def zpA148 : zAnn := []

/-- PushedIn$Acts.runFrom ((1, 0), (2, 0), (4, 4)) -/
def zpC149 : zC := (44, (2, 63), ([(0, 3, 0, 0), (2, 0, 8, 1)], ([[(0, 0)], [(0, 40)], [((-2147483648), 2147483647)], [(4, 4), (7, 16)]], [], [(3, 0, 8, 0, 0), (1, 0, 0, 0, 0), (1, 0, 0, 0, 0), (1, 2, 0, 0, 0), (1, 0, 4, 0, 0), (0, 0, 0, 0, 0), (0, 0, 0, 0, 0)], [], [(0, 8, 1, (1, 3, 0, 0, 0))], [])), [([(1, 0, 0, 0)], ([[(0, 0)], [(0, 40)], [((-2147483648), 2147483647)], [(4, 4), (7, 16)], [((-2147483648), 2147483647)]], [], [], [(1, 4, 0, 0, 0)], [(0, 8, 1, (1, 3, 1, 0, 0))], []))], [(8, 8, 1, 1), (39, 39, 0, 0)])
def zpA149 : zAnn := []

/-- PushedIn$Acts.above ((1, 1), (2, 0), (4, 4)) -/
def zpC150 : zC := (39, (3, 89), ([(0, 3, 0, 0), (2, 0, 8, 1)], ([[(0, 0)], [(0, 40)], [((-2147483648), 2147483647)], [(4, 4), (7, 16)]], [], [(3, 0, 8, 0, 0), (1, 0, 1, 0, 0), (1, 0, 0, 0, 0), (1, 2, 0, 0, 0), (1, 0, 4, 0, 0)], [], [(0, 8, 1, (1, 3, 0, 0, 0))], [])), [([(1, 0, 0, 0)], ([[(0, 0)], [(0, 40)], [((-2147483648), 2147483647)], [(4, 4), (7, 16)], [((-2147483648), 2147483647)]], [], [], [(1, 4, 0, 0, 0)], [(0, 8, 1, (1, 3, 1, 0, 0))], []))], [(8, 8, 1, 1), (39, 39, 0, 0)])
def zpA150 : zAnn := []

/-- PushedIn$Acts.runBody ((1, 20), (3, 4)) -/
def zpC151 : zC := (43, (4, 113), ([(0, 2, 0, 0), (2, 0, 8, 1)], ([[(0, 0)], [(0, 40)], [((-2147483648), 2147483647)], [(4, 4), (7, 16)]], [], [(3, 0, 8, 0, 0), (1, 0, 20, 0, 0), (1, 2, 0, 0, 0), (1, 0, 4, 0, 0)], [], [(0, 8, 1, (1, 3, 0, 0, 0))], [])), [([(1, 0, 0, 0)], ([[(0, 0)], [(0, 40)], [((-2147483648), 2147483647)], [(4, 4), (7, 16)], [((-2147483648), 2147483647)]], [], [], [(1, 4, 0, 0, 0)], [(0, 8, 1, (1, 3, 1, 0, 0))], []))], [(8, 8, 1, 1), (39, 39, 0, 0)])
def zpA151 : zAnn := []

/-- PushedIn$Acts.runFrom ((1, 1), (2, 0), (4, 3)) -/
def zpC152 : zC := (44, (5, 136), ([(0, 3, 0, 0), (2, 0, 8, 1)], ([[(0, 0)], [(0, 40)], [((-2147483648), 2147483647)], [(3, 3), (6, 15)]], [], [(3, 0, 8, 0, 0), (1, 0, 1, 0, 0), (1, 0, 0, 0, 0), (1, 2, 0, 0, 0), (1, 0, 3, 0, 0), (0, 0, 0, 0, 0), (0, 0, 0, 0, 0)], [], [(0, 8, 1, (1, 3, 0, 0, 0))], [])), [([(1, 0, 0, 0)], ([[(0, 0)], [(0, 40)], [((-2147483648), 2147483647)], [(3, 3), (6, 15)], [((-2147483648), 2147483647)]], [], [], [(1, 4, 0, 0, 0)], [(0, 8, 1, (1, 3, 2, 0, 0))], []))], [(8, 8, 1, 1), (39, 39, 0, 0)])
def zpA152 : zAnn := []

/-- PushedIn$Acts.above ((1, 4), (2, 0), (4, 3)) -/
def zpC153 : zC := (39, (6, 162), ([(0, 3, 0, 0), (2, 0, 8, 1)], ([[(0, 0)], [(0, 40)], [((-2147483648), 2147483647)], [(3, 3), (6, 15)]], [], [(3, 0, 8, 0, 0), (1, 0, 4, 0, 0), (1, 0, 0, 0, 0), (1, 2, 0, 0, 0), (1, 0, 3, 0, 0)], [], [(0, 8, 1, (1, 3, 0, 0, 0))], [])), [([(1, 0, 0, 0)], ([[(0, 0)], [(0, 40)], [((-2147483648), 2147483647)], [(3, 3), (6, 15)], [((-2147483648), 2147483647)]], [], [], [(1, 4, 0, 0, 0)], [(0, 8, 1, (1, 3, 2, 0, 0))], []))], [(8, 8, 1, 1), (39, 39, 0, 0)])
def zpA153 : zAnn := []

/-- PushedIn$Acts.runBody ((1, 50), (3, 3)) -/
def zpC154 : zC := (43, (7, 186), ([(0, 2, 0, 0), (2, 0, 8, 1)], ([[(0, 0)], [(0, 40)], [((-2147483648), 2147483647)], [(3, 3), (6, 15)]], [], [(3, 0, 8, 0, 0), (1, 0, 50, 0, 0), (1, 2, 0, 0, 0), (1, 0, 3, 0, 0)], [], [(0, 8, 1, (1, 3, 0, 0, 0))], [])), [([(1, 0, 0, 0)], ([[(0, 0)], [(0, 40)], [((-2147483648), 2147483647)], [(3, 3), (6, 15)], [((-2147483648), 2147483647)]], [], [], [(1, 4, 0, 0, 0)], [(0, 8, 1, (1, 3, 2, 0, 0))], []))], [(8, 8, 1, 1), (39, 39, 0, 0)])
def zpA154 : zAnn := []

/-- PushedIn$Acts.runFrom ((1, 4), (2, 0), (4, 2)) -/
def zpC155 : zC := (44, (8, 209), ([(0, 3, 0, 0), (2, 0, 8, 1)], ([[(0, 0)], [(0, 40)], [((-2147483648), 2147483647)], [(2, 2), (5, 14)]], [], [(3, 0, 8, 0, 0), (1, 0, 4, 0, 0), (1, 0, 0, 0, 0), (1, 2, 0, 0, 0), (1, 0, 2, 0, 0), (0, 0, 0, 0, 0), (0, 0, 0, 0, 0)], [], [(0, 8, 1, (1, 3, 0, 0, 0))], [])), [([(1, 0, 0, 0)], ([[(0, 0)], [(0, 40)], [((-2147483648), 2147483647)], [(2, 2), (5, 14)], [((-2147483648), 2147483647)]], [], [], [(1, 4, 0, 0, 0)], [(0, 8, 1, (1, 3, 3, 0, 0))], []))], [(8, 8, 1, 1), (39, 39, 0, 0)])
def zpA155 : zAnn := []

/-- PushedIn$Acts.runFrom ((1, 5), (2, 0), (4, 2)) -/
def zpC156 : zC := (44, (2, 63), ([(0, 3, 0, 0), (2, 0, 8, 1)], ([[(0, 0)], [(0, 40)], [((-2147483648), 2147483647)], [(2, 2), (5, 14)]], [], [(3, 0, 8, 0, 0), (1, 0, 5, 0, 0), (1, 0, 0, 0, 0), (1, 2, 0, 0, 0), (1, 0, 2, 0, 0), (0, 0, 0, 0, 0), (0, 0, 0, 0, 0)], [], [(0, 8, 1, (1, 3, 0, 0, 0))], [])), [([(1, 0, 0, 0)], ([[(0, 0)], [(0, 40)], [((-2147483648), 2147483647)], [(2, 2), (5, 14)], [((-2147483648), 2147483647)]], [], [], [(1, 4, 0, 0, 0)], [(0, 8, 1, (1, 3, 1, 0, 0))], []))], [(8, 8, 1, 1), (39, 39, 0, 0)])
def zpA156 : zAnn := []

/-- PushedIn$Acts.runFrom ((1, 3), (2, 0), (4, 3)) -/
def zpC157 : zC := (44, (5, 136), ([(0, 3, 0, 0), (2, 0, 8, 1)], ([[(0, 0)], [(0, 40)], [((-2147483648), 2147483647)], [(3, 3), (6, 15)]], [], [(3, 0, 8, 0, 0), (1, 0, 3, 0, 0), (1, 0, 0, 0, 0), (1, 2, 0, 0, 0), (1, 0, 3, 0, 0), (0, 0, 0, 0, 0), (0, 0, 0, 0, 0)], [], [(0, 8, 1, (1, 3, 0, 0, 0))], [])), [([(1, 0, 0, 0)], ([[(0, 0)], [(0, 40)], [((-2147483648), 2147483647)], [(3, 3), (6, 15)], [((-2147483648), 2147483647)]], [], [], [(1, 4, 0, 0, 0)], [(0, 8, 1, (1, 3, 2, 0, 0))], []))], [(8, 8, 1, 1), (39, 39, 0, 0)])
def zpA157 : zAnn := []

/-- PushedIn$Acts.above ((1, 6), (2, 0), (4, 3)) -/
def zpC158 : zC := (39, (6, 162), ([(0, 3, 0, 0), (2, 0, 8, 1)], ([[(0, 0)], [(0, 40)], [((-2147483648), 2147483647)], [(3, 3), (6, 15)]], [], [(3, 0, 8, 0, 0), (1, 0, 6, 0, 0), (1, 0, 0, 0, 0), (1, 2, 0, 0, 0), (1, 0, 3, 0, 0)], [], [(0, 8, 1, (1, 3, 0, 0, 0))], [])), [([(1, 0, 0, 0)], ([[(0, 0)], [(0, 40)], [((-2147483648), 2147483647)], [(3, 3), (6, 15)], [((-2147483648), 2147483647)]], [], [], [(1, 4, 0, 0, 0)], [(0, 8, 1, (1, 3, 2, 0, 0))], []))], [(8, 8, 1, 1), (39, 39, 0, 0)])
def zpA158 : zAnn := []

/-- PushedIn$Acts.runBody ((1, 71), (3, 3)) -/
def zpC159 : zC := (43, (7, 186), ([(0, 2, 0, 0), (2, 0, 8, 1)], ([[(0, 0)], [(0, 40)], [((-2147483648), 2147483647)], [(3, 3), (6, 15)]], [], [(3, 0, 8, 0, 0), (1, 0, 71, 0, 0), (1, 2, 0, 0, 0), (1, 0, 3, 0, 0)], [], [(0, 8, 1, (1, 3, 0, 0, 0))], [])), [([(1, 0, 0, 0)], ([[(0, 0)], [(0, 40)], [((-2147483648), 2147483647)], [(3, 3), (6, 15)], [((-2147483648), 2147483647)]], [], [], [(1, 4, 0, 0, 0)], [(0, 8, 1, (1, 3, 2, 0, 0))], []))], [(8, 8, 1, 1), (39, 39, 0, 0)])
def zpA159 : zAnn := []

/-- PushedIn$Acts.runFrom ((1, 6), (2, 0), (4, 2)) -/
def zpC160 : zC := (44, (8, 209), ([(0, 3, 0, 0), (2, 0, 8, 1)], ([[(0, 0)], [(0, 40)], [((-2147483648), 2147483647)], [(2, 2), (5, 14)]], [], [(3, 0, 8, 0, 0), (1, 0, 6, 0, 0), (1, 0, 0, 0, 0), (1, 2, 0, 0, 0), (1, 0, 2, 0, 0), (0, 0, 0, 0, 0), (0, 0, 0, 0, 0)], [], [(0, 8, 1, (1, 3, 0, 0, 0))], [])), [([(1, 0, 0, 0)], ([[(0, 0)], [(0, 40)], [((-2147483648), 2147483647)], [(2, 2), (5, 14)], [((-2147483648), 2147483647)]], [], [], [(1, 4, 0, 0, 0)], [(0, 8, 1, (1, 3, 3, 0, 0))], []))], [(8, 8, 1, 1), (39, 39, 0, 0)])
def zpA160 : zAnn := []

/-- PushedIn$Acts.runFrom ((1, 7), (2, 0), (4, 2)) -/
def zpC161 : zC := (44, (2, 63), ([(0, 3, 0, 0), (2, 0, 8, 1)], ([[(0, 0)], [(0, 40)], [((-2147483648), 2147483647)], [(2, 2), (5, 14)]], [], [(3, 0, 8, 0, 0), (1, 0, 7, 0, 0), (1, 0, 0, 0, 0), (1, 2, 0, 0, 0), (1, 0, 2, 0, 0), (0, 0, 0, 0, 0), (0, 0, 0, 0, 0)], [], [(0, 8, 1, (1, 3, 0, 0, 0))], [])), [([(1, 0, 0, 0)], ([[(0, 0)], [(0, 40)], [((-2147483648), 2147483647)], [(2, 2), (5, 14)], [((-2147483648), 2147483647)]], [], [], [(1, 4, 0, 0, 0)], [(0, 8, 1, (1, 3, 1, 0, 0))], []))], [(8, 8, 1, 1), (39, 39, 0, 0)])
def zpA161 : zAnn := []

/-- PushedIn$Acts.own ((1, 0), (3, 2)) -/
def zpC162 : zC := (41, (9, 235), ([(0, 2, 0, 0), (2, 0, 8, 1)], ([[(0, 0)], [(0, 40)], [((-2147483648), 2147483647)], [(2, 2), (5, 14)]], [], [(3, 0, 8, 0, 0), (1, 0, 0, 0, 0), (1, 2, 0, 0, 0), (1, 0, 2, 0, 0)], [], [(0, 8, 1, (1, 3, 0, 0, 0))], [])), [([(1, 0, 0, 0), (2, 0, 8, 1)], ([[(0, 0)], [(0, 40)], [((-2147483648), 2147483647)], [(2, 2), (5, 14)], [((-2147483648), 2147483647)], [(3, 17)]], [(5, 3, 3), (3, 5, (-1))], [], [(1, 4, 0, 0, 0)], [(0, 8, 1, (1, 5, 0, 0, 0))], []))], [(8, 8, 1, 1), (39, 39, 0, 0)])
def zpA162 : zAnn := []

/-- PushedIn$Acts.runBody ((1, 10), (3, 2)) -/
def zpC163 : zC := (43, (10, 258), ([(0, 2, 0, 0)], ([[(0, 0)], [(0, 40)], [((-2147483648), 2147483647)]], [], [(3, 0, 8, 0, 0), (1, 0, 10, 0, 0), (1, 2, 0, 0, 0), (1, 0, 2, 0, 0)], [], [(0, 8, 1, (1, 0, 2, 0, 0))], [])), [([(1, 0, 0, 0), (2, 0, 8, 1)], ([[(0, 0)], [(0, 40)], [((-2147483648), 2147483647)], [((-2147483648), 2147483647)], [(3, 5)]], [], [], [(1, 3, 0, 0, 0)], [(0, 8, 1, (1, 4, 0, 0, 0))], []))], [(8, 8, 1, 1), (39, 39, 0, 0)])
def zpA163 : zAnn := []

/-- PushedIn$Acts.runFrom ((1, 1), (2, 1), (4, 1)) -/
def zpC164 : zC := (44, (11, 281), ([(0, 3, 0, 0)], ([[(0, 0)], [(0, 40)], [((-2147483648), 2147483647)]], [], [(3, 0, 8, 0, 0), (1, 0, 1, 0, 0), (1, 0, 1, 0, 0), (1, 2, 0, 0, 0), (1, 0, 1, 0, 0), (0, 0, 0, 0, 0), (0, 0, 0, 0, 0)], [], [(0, 8, 1, (1, 0, 1, 0, 0))], [])), [([(1, 0, 0, 0), (2, 0, 8, 1)], ([[(0, 0)], [(0, 40)], [((-2147483648), 2147483647)], [((-2147483648), 2147483647)], [(3, 5)]], [], [], [(1, 3, 0, 0, 0)], [(0, 8, 1, (1, 4, 0, 0, 0))], []))], [(8, 8, 1, 1), (39, 39, 0, 0)])
def zpA164 : zAnn := []

/-- PushedIn$Acts.above ((1, 3), (2, 1), (4, 1)) -/
def zpC165 : zC := (39, (12, 307), ([(0, 3, 0, 0)], ([[(0, 0)], [(0, 40)], [((-2147483648), 2147483647)]], [], [(3, 0, 8, 0, 0), (1, 0, 3, 0, 0), (1, 0, 1, 0, 0), (1, 2, 0, 0, 0), (1, 0, 1, 0, 0)], [], [(0, 8, 1, (1, 0, 1, 0, 0))], [])), [([(1, 0, 0, 0), (2, 0, 8, 1)], ([[(0, 0)], [(0, 40)], [((-2147483648), 2147483647)], [((-2147483648), 2147483647)], [(3, 5)]], [], [], [(1, 3, 0, 0, 0)], [(0, 8, 1, (1, 4, 0, 0, 0))], []))], [(8, 8, 1, 1), (39, 39, 0, 0)])
def zpA165 : zAnn := []

/-- PushedIn$Acts.above ((1, 1), (2, 0), (4, 2)) -/
def zpC166 : zC := (39, (3, 89), ([(0, 3, 0, 0), (2, 0, 8, 1)], ([[(0, 0)], [(0, 40)], [((-2147483648), 2147483647)], [(2, 3)]], [], [(3, 0, 8, 0, 0), (1, 0, 1, 0, 0), (1, 0, 0, 0, 0), (1, 2, 0, 0, 0), (1, 0, 2, 0, 0)], [], [(0, 8, 1, (1, 3, 0, 0, 0))], [])), [([(1, 0, 0, 0)], ([[(0, 0)], [(0, 40)], [((-2147483648), 2147483647)], [(2, 3)], [((-2147483648), 2147483647)]], [], [], [(1, 4, 0, 0, 0)], [(0, 8, 1, (1, 3, 1, 0, 0))], []))], [(8, 8, 1, 1), (39, 39, 0, 0)])
def zpA166 : zAnn := []

/-- PushedIn$Acts.runBody ((1, 20), (3, 2)) -/
def zpC167 : zC := (43, (4, 113), ([(0, 2, 0, 0), (2, 0, 8, 1)], ([[(0, 0)], [(0, 40)], [((-2147483648), 2147483647)], [(2, 3)]], [], [(3, 0, 8, 0, 0), (1, 0, 20, 0, 0), (1, 2, 0, 0, 0), (1, 0, 2, 0, 0)], [], [(0, 8, 1, (1, 3, 0, 0, 0))], [])), [([(1, 0, 0, 0)], ([[(0, 0)], [(0, 40)], [((-2147483648), 2147483647)], [(2, 3)], [((-2147483648), 2147483647)]], [], [], [(1, 4, 0, 0, 0)], [(0, 8, 1, (1, 3, 1, 0, 0))], []))], [(8, 8, 1, 1), (39, 39, 0, 0)])
def zpA167 : zAnn := []

/-- PushedIn$Acts.runFrom ((1, 1), (2, 0), (4, 1)) -/
def zpC168 : zC := (44, (5, 136), ([(0, 3, 0, 0), (2, 0, 8, 1)], ([[(0, 0)], [(0, 40)], [((-2147483648), 2147483647)], [(1, 2)]], [], [(3, 0, 8, 0, 0), (1, 0, 1, 0, 0), (1, 0, 0, 0, 0), (1, 2, 0, 0, 0), (1, 0, 1, 0, 0), (0, 0, 0, 0, 0), (0, 0, 0, 0, 0)], [], [(0, 8, 1, (1, 3, 0, 0, 0))], [])), [([(1, 0, 0, 0)], ([[(0, 0)], [(0, 40)], [((-2147483648), 2147483647)], [(1, 2)], [((-2147483648), 2147483647)]], [], [], [(1, 4, 0, 0, 0)], [(0, 8, 1, (1, 3, 2, 0, 0))], []))], [(8, 8, 1, 1), (39, 39, 0, 0)])
def zpA168 : zAnn := []

/-- PushedIn$Acts.above ((1, 4), (2, 0), (4, 1)) -/
def zpC169 : zC := (39, (6, 162), ([(0, 3, 0, 0)], ([[(0, 0)], [(0, 40)], [((-2147483648), 2147483647)]], [], [(3, 0, 8, 0, 0), (1, 0, 4, 0, 0), (1, 0, 0, 0, 0), (1, 2, 0, 0, 0), (1, 0, 1, 0, 0)], [], [(0, 8, 1, (1, 0, 1, 0, 0))], [])), [([(1, 0, 0, 0)], ([[(0, 0)], [(0, 40)], [((-2147483648), 2147483647)], [((-2147483648), 2147483647)]], [], [], [(1, 3, 0, 0, 0)], [(0, 8, 1, (1, 0, 3, 0, 0))], []))], [(8, 8, 1, 1), (39, 39, 0, 0)])
def zpA169 : zAnn := []

/-- PushedIn$Acts.runFrom ((1, 2), (2, 0), (4, 3)) -/
def zpC170 : zC := (44, (2, 63), ([(0, 3, 0, 0), (2, 0, 8, 1)], ([[(0, 0)], [(0, 40)], [((-2147483648), 2147483647)], [(3, 3), (6, 15)]], [], [(3, 0, 8, 0, 0), (1, 0, 2, 0, 0), (1, 0, 0, 0, 0), (1, 2, 0, 0, 0), (1, 0, 3, 0, 0), (0, 0, 0, 0, 0), (0, 0, 0, 0, 0)], [], [(0, 8, 1, (1, 3, 0, 0, 0))], [])), [([(1, 0, 0, 0)], ([[(0, 0)], [(0, 40)], [((-2147483648), 2147483647)], [(3, 3), (6, 15)], [((-2147483648), 2147483647)]], [], [], [(1, 4, 0, 0, 0)], [(0, 8, 1, (1, 3, 1, 0, 0))], []))], [(8, 8, 1, 1), (39, 39, 0, 0)])
def zpA170 : zAnn := []

/-- PushedIn$Acts.runBody ((1, 1), (3, 6)) -/
def zpC171 : zC := (43, (1, 40), ([(0, 2, 0, 0), (2, 0, 8, 1)], ([[(0, 0)], [(0, 40)], [((-2147483648), 2147483647)], [(6, 6), (9, 18)]], [], [(3, 0, 8, 0, 0), (1, 0, 1, 0, 0), (1, 2, 0, 0, 0), (1, 0, 6, 0, 0)], [], [(0, 8, 1, (1, 3, 0, 0, 0))], [])), [([(1, 0, 0, 0)], ([[(0, 0)], [(0, 40)], [((-2147483648), 2147483647)], [(6, 6), (9, 18)], [((-2147483648), 2147483647)]], [], [], [(1, 4, 0, 0, 0)], [(0, 8, 1, (1, 3, 0, 0, 0))], []))], [])
def zpA171 : zAnn := []

/-- PushedIn$Acts.runFrom ((1, 0), (2, 0), (4, 5)) -/
def zpC172 : zC := (44, (2, 63), ([(0, 3, 0, 0), (2, 0, 8, 1)], ([[(0, 0)], [(0, 40)], [((-2147483648), 2147483647)], [(5, 5), (8, 17)]], [], [(3, 0, 8, 0, 0), (1, 0, 0, 0, 0), (1, 0, 0, 0, 0), (1, 2, 0, 0, 0), (1, 0, 5, 0, 0), (0, 0, 0, 0, 0), (0, 0, 0, 0, 0)], [], [(0, 8, 1, (1, 3, 0, 0, 0))], [])), [([(1, 0, 0, 0)], ([[(0, 0)], [(0, 40)], [((-2147483648), 2147483647)], [(5, 5), (8, 17)], [((-2147483648), 2147483647)]], [], [], [(1, 4, 0, 0, 0)], [(0, 8, 1, (1, 3, 1, 0, 0))], []))], [(8, 8, 1, 1), (39, 39, 0, 0)])
def zpA172 : zAnn := []

/-- PushedIn$Acts.above ((1, 1), (2, 0), (4, 5)) -/
def zpC173 : zC := (39, (3, 89), ([(0, 3, 0, 0), (2, 0, 8, 1)], ([[(0, 0)], [(0, 40)], [((-2147483648), 2147483647)], [(5, 5), (8, 17)]], [], [(3, 0, 8, 0, 0), (1, 0, 1, 0, 0), (1, 0, 0, 0, 0), (1, 2, 0, 0, 0), (1, 0, 5, 0, 0)], [], [(0, 8, 1, (1, 3, 0, 0, 0))], [])), [([(1, 0, 0, 0)], ([[(0, 0)], [(0, 40)], [((-2147483648), 2147483647)], [(5, 5), (8, 17)], [((-2147483648), 2147483647)]], [], [], [(1, 4, 0, 0, 0)], [(0, 8, 1, (1, 3, 1, 0, 0))], []))], [(8, 8, 1, 1), (39, 39, 0, 0)])
def zpA173 : zAnn := []

/-- PushedIn$Acts.runBody ((1, 20), (3, 5)) -/
def zpC174 : zC := (43, (4, 113), ([(0, 2, 0, 0), (2, 0, 8, 1)], ([[(0, 0)], [(0, 40)], [((-2147483648), 2147483647)], [(5, 5), (8, 17)]], [], [(3, 0, 8, 0, 0), (1, 0, 20, 0, 0), (1, 2, 0, 0, 0), (1, 0, 5, 0, 0)], [], [(0, 8, 1, (1, 3, 0, 0, 0))], [])), [([(1, 0, 0, 0)], ([[(0, 0)], [(0, 40)], [((-2147483648), 2147483647)], [(5, 5), (8, 17)], [((-2147483648), 2147483647)]], [], [], [(1, 4, 0, 0, 0)], [(0, 8, 1, (1, 3, 1, 0, 0))], []))], [(8, 8, 1, 1), (39, 39, 0, 0)])
def zpA174 : zAnn := []

/-- PushedIn$Acts.runFrom ((1, 1), (2, 0), (4, 4)) -/
def zpC175 : zC := (44, (5, 136), ([(0, 3, 0, 0), (2, 0, 8, 1)], ([[(0, 0)], [(0, 40)], [((-2147483648), 2147483647)], [(4, 4), (7, 16)]], [], [(3, 0, 8, 0, 0), (1, 0, 1, 0, 0), (1, 0, 0, 0, 0), (1, 2, 0, 0, 0), (1, 0, 4, 0, 0), (0, 0, 0, 0, 0), (0, 0, 0, 0, 0)], [], [(0, 8, 1, (1, 3, 0, 0, 0))], [])), [([(1, 0, 0, 0)], ([[(0, 0)], [(0, 40)], [((-2147483648), 2147483647)], [(4, 4), (7, 16)], [((-2147483648), 2147483647)]], [], [], [(1, 4, 0, 0, 0)], [(0, 8, 1, (1, 3, 2, 0, 0))], []))], [(8, 8, 1, 1), (39, 39, 0, 0)])
def zpA175 : zAnn := []

/-- PushedIn$Acts.above ((1, 4), (2, 0), (4, 4)) -/
def zpC176 : zC := (39, (6, 162), ([(0, 3, 0, 0), (2, 0, 8, 1)], ([[(0, 0)], [(0, 40)], [((-2147483648), 2147483647)], [(4, 4), (7, 16)]], [], [(3, 0, 8, 0, 0), (1, 0, 4, 0, 0), (1, 0, 0, 0, 0), (1, 2, 0, 0, 0), (1, 0, 4, 0, 0)], [], [(0, 8, 1, (1, 3, 0, 0, 0))], [])), [([(1, 0, 0, 0)], ([[(0, 0)], [(0, 40)], [((-2147483648), 2147483647)], [(4, 4), (7, 16)], [((-2147483648), 2147483647)]], [], [], [(1, 4, 0, 0, 0)], [(0, 8, 1, (1, 3, 2, 0, 0))], []))], [(8, 8, 1, 1), (39, 39, 0, 0)])
def zpA176 : zAnn := []

/-- PushedIn$Acts.runBody ((1, 50), (3, 4)) -/
def zpC177 : zC := (43, (7, 186), ([(0, 2, 0, 0), (2, 0, 8, 1)], ([[(0, 0)], [(0, 40)], [((-2147483648), 2147483647)], [(4, 4), (7, 16)]], [], [(3, 0, 8, 0, 0), (1, 0, 50, 0, 0), (1, 2, 0, 0, 0), (1, 0, 4, 0, 0)], [], [(0, 8, 1, (1, 3, 0, 0, 0))], [])), [([(1, 0, 0, 0)], ([[(0, 0)], [(0, 40)], [((-2147483648), 2147483647)], [(4, 4), (7, 16)], [((-2147483648), 2147483647)]], [], [], [(1, 4, 0, 0, 0)], [(0, 8, 1, (1, 3, 2, 0, 0))], []))], [(8, 8, 1, 1), (39, 39, 0, 0)])
def zpA177 : zAnn := []

/-- PushedIn$Acts.runFrom ((1, 4), (2, 0), (4, 3)) -/
def zpC178 : zC := (44, (8, 209), ([(0, 3, 0, 0), (2, 0, 8, 1)], ([[(0, 0)], [(0, 40)], [((-2147483648), 2147483647)], [(3, 3), (6, 15)]], [], [(3, 0, 8, 0, 0), (1, 0, 4, 0, 0), (1, 0, 0, 0, 0), (1, 2, 0, 0, 0), (1, 0, 3, 0, 0), (0, 0, 0, 0, 0), (0, 0, 0, 0, 0)], [], [(0, 8, 1, (1, 3, 0, 0, 0))], [])), [([(1, 0, 0, 0)], ([[(0, 0)], [(0, 40)], [((-2147483648), 2147483647)], [(3, 3), (6, 15)], [((-2147483648), 2147483647)]], [], [], [(1, 4, 0, 0, 0)], [(0, 8, 1, (1, 3, 3, 0, 0))], []))], [(8, 8, 1, 1), (39, 39, 0, 0)])
def zpA178 : zAnn := []

/-- PushedIn$Acts.runFrom ((1, 5), (2, 0), (4, 3)) -/
def zpC179 : zC := (44, (2, 63), ([(0, 3, 0, 0), (2, 0, 8, 1)], ([[(0, 0)], [(0, 40)], [((-2147483648), 2147483647)], [(3, 3), (6, 15)]], [], [(3, 0, 8, 0, 0), (1, 0, 5, 0, 0), (1, 0, 0, 0, 0), (1, 2, 0, 0, 0), (1, 0, 3, 0, 0), (0, 0, 0, 0, 0), (0, 0, 0, 0, 0)], [], [(0, 8, 1, (1, 3, 0, 0, 0))], [])), [([(1, 0, 0, 0)], ([[(0, 0)], [(0, 40)], [((-2147483648), 2147483647)], [(3, 3), (6, 15)], [((-2147483648), 2147483647)]], [], [], [(1, 4, 0, 0, 0)], [(0, 8, 1, (1, 3, 1, 0, 0))], []))], [(8, 8, 1, 1), (39, 39, 0, 0)])
def zpA179 : zAnn := []

/-- PushedIn$Acts.runFrom ((1, 3), (2, 0), (4, 4)) -/
def zpC180 : zC := (44, (5, 136), ([(0, 3, 0, 0), (2, 0, 8, 1)], ([[(0, 0)], [(0, 40)], [((-2147483648), 2147483647)], [(4, 4), (7, 16)]], [], [(3, 0, 8, 0, 0), (1, 0, 3, 0, 0), (1, 0, 0, 0, 0), (1, 2, 0, 0, 0), (1, 0, 4, 0, 0), (0, 0, 0, 0, 0), (0, 0, 0, 0, 0)], [], [(0, 8, 1, (1, 3, 0, 0, 0))], [])), [([(1, 0, 0, 0)], ([[(0, 0)], [(0, 40)], [((-2147483648), 2147483647)], [(4, 4), (7, 16)], [((-2147483648), 2147483647)]], [], [], [(1, 4, 0, 0, 0)], [(0, 8, 1, (1, 3, 2, 0, 0))], []))], [(8, 8, 1, 1), (39, 39, 0, 0)])
def zpA180 : zAnn := []

/-- PushedIn$Acts.above ((1, 6), (2, 0), (4, 4)) -/
def zpC181 : zC := (39, (6, 162), ([(0, 3, 0, 0), (2, 0, 8, 1)], ([[(0, 0)], [(0, 40)], [((-2147483648), 2147483647)], [(4, 4), (7, 16)]], [], [(3, 0, 8, 0, 0), (1, 0, 6, 0, 0), (1, 0, 0, 0, 0), (1, 2, 0, 0, 0), (1, 0, 4, 0, 0)], [], [(0, 8, 1, (1, 3, 0, 0, 0))], [])), [([(1, 0, 0, 0)], ([[(0, 0)], [(0, 40)], [((-2147483648), 2147483647)], [(4, 4), (7, 16)], [((-2147483648), 2147483647)]], [], [], [(1, 4, 0, 0, 0)], [(0, 8, 1, (1, 3, 2, 0, 0))], []))], [(8, 8, 1, 1), (39, 39, 0, 0)])
def zpA181 : zAnn := []

/-- PushedIn$Acts.runBody ((1, 71), (3, 4)) -/
def zpC182 : zC := (43, (7, 186), ([(0, 2, 0, 0), (2, 0, 8, 1)], ([[(0, 0)], [(0, 40)], [((-2147483648), 2147483647)], [(4, 4), (7, 16)]], [], [(3, 0, 8, 0, 0), (1, 0, 71, 0, 0), (1, 2, 0, 0, 0), (1, 0, 4, 0, 0)], [], [(0, 8, 1, (1, 3, 0, 0, 0))], [])), [([(1, 0, 0, 0)], ([[(0, 0)], [(0, 40)], [((-2147483648), 2147483647)], [(4, 4), (7, 16)], [((-2147483648), 2147483647)]], [], [], [(1, 4, 0, 0, 0)], [(0, 8, 1, (1, 3, 2, 0, 0))], []))], [(8, 8, 1, 1), (39, 39, 0, 0)])
def zpA182 : zAnn := []

/-- PushedIn$Acts.runFrom ((1, 6), (2, 0), (4, 3)) -/
def zpC183 : zC := (44, (8, 209), ([(0, 3, 0, 0), (2, 0, 8, 1)], ([[(0, 0)], [(0, 40)], [((-2147483648), 2147483647)], [(3, 3), (6, 15)]], [], [(3, 0, 8, 0, 0), (1, 0, 6, 0, 0), (1, 0, 0, 0, 0), (1, 2, 0, 0, 0), (1, 0, 3, 0, 0), (0, 0, 0, 0, 0), (0, 0, 0, 0, 0)], [], [(0, 8, 1, (1, 3, 0, 0, 0))], [])), [([(1, 0, 0, 0)], ([[(0, 0)], [(0, 40)], [((-2147483648), 2147483647)], [(3, 3), (6, 15)], [((-2147483648), 2147483647)]], [], [], [(1, 4, 0, 0, 0)], [(0, 8, 1, (1, 3, 3, 0, 0))], []))], [(8, 8, 1, 1), (39, 39, 0, 0)])
def zpA183 : zAnn := []

/-- PushedIn$Acts.runFrom ((1, 7), (2, 0), (4, 3)) -/
def zpC184 : zC := (44, (2, 63), ([(0, 3, 0, 0), (2, 0, 8, 1)], ([[(0, 0)], [(0, 40)], [((-2147483648), 2147483647)], [(3, 3), (6, 15)]], [], [(3, 0, 8, 0, 0), (1, 0, 7, 0, 0), (1, 0, 0, 0, 0), (1, 2, 0, 0, 0), (1, 0, 3, 0, 0), (0, 0, 0, 0, 0), (0, 0, 0, 0, 0)], [], [(0, 8, 1, (1, 3, 0, 0, 0))], [])), [([(1, 0, 0, 0)], ([[(0, 0)], [(0, 40)], [((-2147483648), 2147483647)], [(3, 3), (6, 15)], [((-2147483648), 2147483647)]], [], [], [(1, 4, 0, 0, 0)], [(0, 8, 1, (1, 3, 1, 0, 0))], []))], [(8, 8, 1, 1), (39, 39, 0, 0)])
def zpA184 : zAnn := []

/-- PushedIn$Acts.own ((1, 0), (3, 3)) -/
def zpC185 : zC := (41, (9, 235), ([(0, 2, 0, 0), (2, 0, 8, 1)], ([[(0, 0)], [(0, 40)], [((-2147483648), 2147483647)], [(3, 3), (6, 15)]], [], [(3, 0, 8, 0, 0), (1, 0, 0, 0, 0), (1, 2, 0, 0, 0), (1, 0, 3, 0, 0)], [], [(0, 8, 1, (1, 3, 0, 0, 0))], [])), [([(1, 0, 0, 0), (2, 0, 8, 1)], ([[(0, 0)], [(0, 40)], [((-2147483648), 2147483647)], [(3, 3), (6, 15)], [((-2147483648), 2147483647)], [(4, 18)]], [(5, 3, 3), (3, 5, (-1))], [], [(1, 4, 0, 0, 0)], [(0, 8, 1, (1, 5, 0, 0, 0))], []))], [(8, 8, 1, 1), (39, 39, 0, 0)])
def zpA185 : zAnn := []

/-- PushedIn$Acts.runBody ((1, 10), (3, 3)) -/
def zpC186 : zC := (43, (10, 258), ([(0, 2, 0, 0)], ([[(0, 0)], [(0, 40)], [((-2147483648), 2147483647)]], [], [(3, 0, 8, 0, 0), (1, 0, 10, 0, 0), (1, 2, 0, 0, 0), (1, 0, 3, 0, 0)], [], [(0, 8, 1, (1, 0, 3, 0, 0))], [])), [([(1, 0, 0, 0), (2, 0, 8, 1)], ([[(0, 0)], [(0, 40)], [((-2147483648), 2147483647)], [((-2147483648), 2147483647)], [(4, 6)]], [], [], [(1, 3, 0, 0, 0)], [(0, 8, 1, (1, 4, 0, 0, 0))], []))], [(8, 8, 1, 1), (39, 39, 0, 0)])
def zpA186 : zAnn := []

/-- PushedIn$Acts.runFrom ((1, 0), (2, 1), (4, 2)) -/
def zpC187 : zC := (44, (11, 281), ([(0, 3, 0, 0)], ([[(0, 0)], [(0, 40)], [((-2147483648), 2147483647)]], [], [(3, 0, 8, 0, 0), (1, 0, 0, 0, 0), (1, 0, 1, 0, 0), (1, 2, 0, 0, 0), (1, 0, 2, 0, 0), (0, 0, 0, 0, 0), (0, 0, 0, 0, 0)], [], [(0, 8, 1, (1, 0, 2, 0, 0))], [])), [([(1, 0, 0, 0), (2, 0, 8, 1)], ([[(0, 0)], [(0, 40)], [((-2147483648), 2147483647)], [((-2147483648), 2147483647)], [(4, 6)]], [], [], [(1, 3, 0, 0, 0)], [(0, 8, 1, (1, 4, 0, 0, 0))], []))], [(8, 8, 1, 1), (39, 39, 0, 0)])
def zpA187 : zAnn := []

/-- PushedIn$Acts.runFrom ((1, 1), (2, 1), (4, 2)) -/
def zpC188 : zC := (44, (11, 281), ([(0, 3, 0, 0)], ([[(0, 0)], [(0, 40)], [((-2147483648), 2147483647)]], [], [(3, 0, 8, 0, 0), (1, 0, 1, 0, 0), (1, 0, 1, 0, 0), (1, 2, 0, 0, 0), (1, 0, 2, 0, 0), (0, 0, 0, 0, 0), (0, 0, 0, 0, 0)], [], [(0, 8, 1, (1, 0, 2, 0, 0))], [])), [([(1, 0, 0, 0), (2, 0, 8, 1)], ([[(0, 0)], [(0, 40)], [((-2147483648), 2147483647)], [((-2147483648), 2147483647)], [(4, 6)]], [], [], [(1, 3, 0, 0, 0)], [(0, 8, 1, (1, 4, 0, 0, 0))], []))], [(8, 8, 1, 1), (39, 39, 0, 0)])
def zpA188 : zAnn := []

/-- PushedIn$Acts.runFrom ((1, 2), (2, 1), (4, 2)) -/
def zpC189 : zC := (44, (11, 281), ([(0, 3, 0, 0)], ([[(0, 0)], [(0, 40)], [((-2147483648), 2147483647)]], [], [(3, 0, 8, 0, 0), (1, 0, 2, 0, 0), (1, 0, 1, 0, 0), (1, 2, 0, 0, 0), (1, 0, 2, 0, 0), (0, 0, 0, 0, 0), (0, 0, 0, 0, 0)], [], [(0, 8, 1, (1, 0, 2, 0, 0))], [])), [([(1, 0, 0, 0), (2, 0, 8, 1)], ([[(0, 0)], [(0, 40)], [((-2147483648), 2147483647)], [((-2147483648), 2147483647)], [(4, 6)]], [], [], [(1, 3, 0, 0, 0)], [(0, 8, 1, (1, 4, 0, 0, 0))], []))], [(8, 8, 1, 1), (39, 39, 0, 0)])
def zpA189 : zAnn := []

/-- PushedIn$Acts.runFrom ((1, 2), (2, 0), (4, 4)) -/
def zpC190 : zC := (44, (2, 63), ([(0, 3, 0, 0), (2, 0, 8, 1)], ([[(0, 0)], [(0, 40)], [((-2147483648), 2147483647)], [(4, 4), (8, 10)]], [], [(3, 0, 8, 0, 0), (1, 0, 2, 0, 0), (1, 0, 0, 0, 0), (1, 2, 0, 0, 0), (1, 0, 4, 0, 0), (0, 0, 0, 0, 0), (0, 0, 0, 0, 0)], [], [(0, 8, 1, (1, 3, 0, 0, 0))], [])), [([(1, 0, 0, 0)], ([[(0, 0)], [(0, 40)], [((-2147483648), 2147483647)], [(4, 4), (8, 10)], [((-2147483648), 2147483647)]], [], [], [(1, 4, 0, 0, 0)], [(0, 8, 1, (1, 3, 1, 0, 0))], []))], [(8, 8, 1, 1), (39, 39, 0, 0)])
def zpA190 : zAnn := []

/-- PushedIn$Acts.runBody ((1, 1), (3, 7)) -/
def zpC191 : zC := (43, (1, 40), ([(0, 2, 0, 0), (2, 0, 8, 1)], ([[(0, 0)], [(0, 40)], [((-2147483648), 2147483647)], [(7, 7), (11, 13)]], [], [(3, 0, 8, 0, 0), (1, 0, 1, 0, 0), (1, 2, 0, 0, 0), (1, 0, 7, 0, 0)], [], [(0, 8, 1, (1, 3, 0, 0, 0))], [])), [([(1, 0, 0, 0)], ([[(0, 0)], [(0, 40)], [((-2147483648), 2147483647)], [(7, 7), (11, 13)], [((-2147483648), 2147483647)]], [], [], [(1, 4, 0, 0, 0)], [(0, 8, 1, (1, 3, 0, 0, 0))], []))], [])
def zpA191 : zAnn := []

/-- PushedIn$Acts.runFrom ((1, 0), (2, 0), (4, 6)) -/
def zpC192 : zC := (44, (2, 63), ([(0, 3, 0, 0), (2, 0, 8, 1)], ([[(0, 0)], [(0, 40)], [((-2147483648), 2147483647)], [(6, 6), (10, 12)]], [], [(3, 0, 8, 0, 0), (1, 0, 0, 0, 0), (1, 0, 0, 0, 0), (1, 2, 0, 0, 0), (1, 0, 6, 0, 0), (0, 0, 0, 0, 0), (0, 0, 0, 0, 0)], [], [(0, 8, 1, (1, 3, 0, 0, 0))], [])), [([(1, 0, 0, 0)], ([[(0, 0)], [(0, 40)], [((-2147483648), 2147483647)], [(6, 6), (10, 12)], [((-2147483648), 2147483647)]], [], [], [(1, 4, 0, 0, 0)], [(0, 8, 1, (1, 3, 1, 0, 0))], []))], [(8, 8, 1, 1), (39, 39, 0, 0)])
def zpA192 : zAnn := []

/-- PushedIn$Acts.above ((1, 1), (2, 0), (4, 6)) -/
def zpC193 : zC := (39, (3, 89), ([(0, 3, 0, 0), (2, 0, 8, 1)], ([[(0, 0)], [(0, 40)], [((-2147483648), 2147483647)], [(6, 6), (10, 12)]], [], [(3, 0, 8, 0, 0), (1, 0, 1, 0, 0), (1, 0, 0, 0, 0), (1, 2, 0, 0, 0), (1, 0, 6, 0, 0)], [], [(0, 8, 1, (1, 3, 0, 0, 0))], [])), [([(1, 0, 0, 0)], ([[(0, 0)], [(0, 40)], [((-2147483648), 2147483647)], [(6, 6), (10, 12)], [((-2147483648), 2147483647)]], [], [], [(1, 4, 0, 0, 0)], [(0, 8, 1, (1, 3, 1, 0, 0))], []))], [(8, 8, 1, 1), (39, 39, 0, 0)])
def zpA193 : zAnn := []

/-- PushedIn$Acts.runBody ((1, 20), (3, 6)) -/
def zpC194 : zC := (43, (4, 113), ([(0, 2, 0, 0), (2, 0, 8, 1)], ([[(0, 0)], [(0, 40)], [((-2147483648), 2147483647)], [(6, 6), (10, 12)]], [], [(3, 0, 8, 0, 0), (1, 0, 20, 0, 0), (1, 2, 0, 0, 0), (1, 0, 6, 0, 0)], [], [(0, 8, 1, (1, 3, 0, 0, 0))], [])), [([(1, 0, 0, 0)], ([[(0, 0)], [(0, 40)], [((-2147483648), 2147483647)], [(6, 6), (10, 12)], [((-2147483648), 2147483647)]], [], [], [(1, 4, 0, 0, 0)], [(0, 8, 1, (1, 3, 1, 0, 0))], []))], [(8, 8, 1, 1), (39, 39, 0, 0)])
def zpA194 : zAnn := []

/-- PushedIn$Acts.runFrom ((1, 1), (2, 0), (4, 5)) -/
def zpC195 : zC := (44, (5, 136), ([(0, 3, 0, 0), (2, 0, 8, 1)], ([[(0, 0)], [(0, 40)], [((-2147483648), 2147483647)], [(5, 5), (9, 11)]], [], [(3, 0, 8, 0, 0), (1, 0, 1, 0, 0), (1, 0, 0, 0, 0), (1, 2, 0, 0, 0), (1, 0, 5, 0, 0), (0, 0, 0, 0, 0), (0, 0, 0, 0, 0)], [], [(0, 8, 1, (1, 3, 0, 0, 0))], [])), [([(1, 0, 0, 0)], ([[(0, 0)], [(0, 40)], [((-2147483648), 2147483647)], [(5, 5), (9, 11)], [((-2147483648), 2147483647)]], [], [], [(1, 4, 0, 0, 0)], [(0, 8, 1, (1, 3, 2, 0, 0))], []))], [(8, 8, 1, 1), (39, 39, 0, 0)])
def zpA195 : zAnn := []

/-- PushedIn$Acts.above ((1, 4), (2, 0), (4, 5)) -/
def zpC196 : zC := (39, (6, 162), ([(0, 3, 0, 0), (2, 0, 8, 1)], ([[(0, 0)], [(0, 40)], [((-2147483648), 2147483647)], [(5, 5), (9, 11)]], [], [(3, 0, 8, 0, 0), (1, 0, 4, 0, 0), (1, 0, 0, 0, 0), (1, 2, 0, 0, 0), (1, 0, 5, 0, 0)], [], [(0, 8, 1, (1, 3, 0, 0, 0))], [])), [([(1, 0, 0, 0)], ([[(0, 0)], [(0, 40)], [((-2147483648), 2147483647)], [(5, 5), (9, 11)], [((-2147483648), 2147483647)]], [], [], [(1, 4, 0, 0, 0)], [(0, 8, 1, (1, 3, 2, 0, 0))], []))], [(8, 8, 1, 1), (39, 39, 0, 0)])
def zpA196 : zAnn := []

/-- PushedIn$Acts.runBody ((1, 50), (3, 5)) -/
def zpC197 : zC := (43, (7, 186), ([(0, 2, 0, 0), (2, 0, 8, 1)], ([[(0, 0)], [(0, 40)], [((-2147483648), 2147483647)], [(5, 5), (9, 11)]], [], [(3, 0, 8, 0, 0), (1, 0, 50, 0, 0), (1, 2, 0, 0, 0), (1, 0, 5, 0, 0)], [], [(0, 8, 1, (1, 3, 0, 0, 0))], [])), [([(1, 0, 0, 0)], ([[(0, 0)], [(0, 40)], [((-2147483648), 2147483647)], [(5, 5), (9, 11)], [((-2147483648), 2147483647)]], [], [], [(1, 4, 0, 0, 0)], [(0, 8, 1, (1, 3, 2, 0, 0))], []))], [(8, 8, 1, 1), (39, 39, 0, 0)])
def zpA197 : zAnn := []

/-- PushedIn$Acts.runFrom ((1, 4), (2, 0), (4, 4)) -/
def zpC198 : zC := (44, (8, 209), ([(0, 3, 0, 0), (2, 0, 8, 1)], ([[(0, 0)], [(0, 40)], [((-2147483648), 2147483647)], [(4, 4), (8, 10)]], [], [(3, 0, 8, 0, 0), (1, 0, 4, 0, 0), (1, 0, 0, 0, 0), (1, 2, 0, 0, 0), (1, 0, 4, 0, 0), (0, 0, 0, 0, 0), (0, 0, 0, 0, 0)], [], [(0, 8, 1, (1, 3, 0, 0, 0))], [])), [([(1, 0, 0, 0)], ([[(0, 0)], [(0, 40)], [((-2147483648), 2147483647)], [(4, 4), (8, 10)], [((-2147483648), 2147483647)]], [], [], [(1, 4, 0, 0, 0)], [(0, 8, 1, (1, 3, 3, 0, 0))], []))], [(8, 8, 1, 1), (39, 39, 0, 0)])
def zpA198 : zAnn := []

/-- PushedIn$Acts.runFrom ((1, 5), (2, 0), (4, 4)) -/
def zpC199 : zC := (44, (2, 63), ([(0, 3, 0, 0), (2, 0, 8, 1)], ([[(0, 0)], [(0, 40)], [((-2147483648), 2147483647)], [(4, 4), (8, 10)]], [], [(3, 0, 8, 0, 0), (1, 0, 5, 0, 0), (1, 0, 0, 0, 0), (1, 2, 0, 0, 0), (1, 0, 4, 0, 0), (0, 0, 0, 0, 0), (0, 0, 0, 0, 0)], [], [(0, 8, 1, (1, 3, 0, 0, 0))], [])), [([(1, 0, 0, 0)], ([[(0, 0)], [(0, 40)], [((-2147483648), 2147483647)], [(4, 4), (8, 10)], [((-2147483648), 2147483647)]], [], [], [(1, 4, 0, 0, 0)], [(0, 8, 1, (1, 3, 1, 0, 0))], []))], [(8, 8, 1, 1), (39, 39, 0, 0)])
def zpA199 : zAnn := []

/-- PushedIn$Acts.runFrom ((1, 3), (2, 0), (4, 5)) -/
def zpC200 : zC := (44, (5, 136), ([(0, 3, 0, 0), (2, 0, 8, 1)], ([[(0, 0)], [(0, 40)], [((-2147483648), 2147483647)], [(5, 5), (9, 11)]], [], [(3, 0, 8, 0, 0), (1, 0, 3, 0, 0), (1, 0, 0, 0, 0), (1, 2, 0, 0, 0), (1, 0, 5, 0, 0), (0, 0, 0, 0, 0), (0, 0, 0, 0, 0)], [], [(0, 8, 1, (1, 3, 0, 0, 0))], [])), [([(1, 0, 0, 0)], ([[(0, 0)], [(0, 40)], [((-2147483648), 2147483647)], [(5, 5), (9, 11)], [((-2147483648), 2147483647)]], [], [], [(1, 4, 0, 0, 0)], [(0, 8, 1, (1, 3, 2, 0, 0))], []))], [(8, 8, 1, 1), (39, 39, 0, 0)])
def zpA200 : zAnn := []

/-- PushedIn$Acts.above ((1, 6), (2, 0), (4, 5)) -/
def zpC201 : zC := (39, (6, 162), ([(0, 3, 0, 0), (2, 0, 8, 1)], ([[(0, 0)], [(0, 40)], [((-2147483648), 2147483647)], [(5, 5), (9, 11)]], [], [(3, 0, 8, 0, 0), (1, 0, 6, 0, 0), (1, 0, 0, 0, 0), (1, 2, 0, 0, 0), (1, 0, 5, 0, 0)], [], [(0, 8, 1, (1, 3, 0, 0, 0))], [])), [([(1, 0, 0, 0)], ([[(0, 0)], [(0, 40)], [((-2147483648), 2147483647)], [(5, 5), (9, 11)], [((-2147483648), 2147483647)]], [], [], [(1, 4, 0, 0, 0)], [(0, 8, 1, (1, 3, 2, 0, 0))], []))], [(8, 8, 1, 1), (39, 39, 0, 0)])
def zpA201 : zAnn := []

/-- PushedIn$Acts.runBody ((1, 71), (3, 5)) -/
def zpC202 : zC := (43, (7, 186), ([(0, 2, 0, 0), (2, 0, 8, 1)], ([[(0, 0)], [(0, 40)], [((-2147483648), 2147483647)], [(5, 5), (9, 11)]], [], [(3, 0, 8, 0, 0), (1, 0, 71, 0, 0), (1, 2, 0, 0, 0), (1, 0, 5, 0, 0)], [], [(0, 8, 1, (1, 3, 0, 0, 0))], [])), [([(1, 0, 0, 0)], ([[(0, 0)], [(0, 40)], [((-2147483648), 2147483647)], [(5, 5), (9, 11)], [((-2147483648), 2147483647)]], [], [], [(1, 4, 0, 0, 0)], [(0, 8, 1, (1, 3, 2, 0, 0))], []))], [(8, 8, 1, 1), (39, 39, 0, 0)])
def zpA202 : zAnn := []

/-- PushedIn$Acts.runFrom ((1, 6), (2, 0), (4, 4)) -/
def zpC203 : zC := (44, (8, 209), ([(0, 3, 0, 0), (2, 0, 8, 1)], ([[(0, 0)], [(0, 40)], [((-2147483648), 2147483647)], [(4, 4), (8, 10)]], [], [(3, 0, 8, 0, 0), (1, 0, 6, 0, 0), (1, 0, 0, 0, 0), (1, 2, 0, 0, 0), (1, 0, 4, 0, 0), (0, 0, 0, 0, 0), (0, 0, 0, 0, 0)], [], [(0, 8, 1, (1, 3, 0, 0, 0))], [])), [([(1, 0, 0, 0)], ([[(0, 0)], [(0, 40)], [((-2147483648), 2147483647)], [(4, 4), (8, 10)], [((-2147483648), 2147483647)]], [], [], [(1, 4, 0, 0, 0)], [(0, 8, 1, (1, 3, 3, 0, 0))], []))], [(8, 8, 1, 1), (39, 39, 0, 0)])
def zpA203 : zAnn := []

/-- PushedIn$Acts.runFrom ((1, 7), (2, 0), (4, 4)) -/
def zpC204 : zC := (44, (2, 63), ([(0, 3, 0, 0), (2, 0, 8, 1)], ([[(0, 0)], [(0, 40)], [((-2147483648), 2147483647)], [(4, 4), (8, 10)]], [], [(3, 0, 8, 0, 0), (1, 0, 7, 0, 0), (1, 0, 0, 0, 0), (1, 2, 0, 0, 0), (1, 0, 4, 0, 0), (0, 0, 0, 0, 0), (0, 0, 0, 0, 0)], [], [(0, 8, 1, (1, 3, 0, 0, 0))], [])), [([(1, 0, 0, 0)], ([[(0, 0)], [(0, 40)], [((-2147483648), 2147483647)], [(4, 4), (8, 10)], [((-2147483648), 2147483647)]], [], [], [(1, 4, 0, 0, 0)], [(0, 8, 1, (1, 3, 1, 0, 0))], []))], [(8, 8, 1, 1), (39, 39, 0, 0)])
def zpA204 : zAnn := []

/-- PushedIn$Acts.own ((1, 0), (3, 4)) -/
def zpC205 : zC := (41, (9, 235), ([(0, 2, 0, 0), (2, 0, 8, 1)], ([[(0, 0)], [(0, 40)], [((-2147483648), 2147483647)], [(4, 4), (8, 10)]], [], [(3, 0, 8, 0, 0), (1, 0, 0, 0, 0), (1, 2, 0, 0, 0), (1, 0, 4, 0, 0)], [], [(0, 8, 1, (1, 3, 0, 0, 0))], [])), [([(1, 0, 0, 0), (2, 0, 8, 1)], ([[(0, 0)], [(0, 40)], [((-2147483648), 2147483647)], [(4, 4), (8, 10)], [((-2147483648), 2147483647)], [(5, 7), (9, 13)]], [(5, 3, 3), (3, 5, (-1))], [], [(1, 4, 0, 0, 0)], [(0, 8, 1, (1, 5, 0, 0, 0))], []))], [(8, 8, 1, 1), (39, 39, 0, 0)])
def zpA205 : zAnn := []

/-- PushedIn$Acts.runBody ((1, 10), (3, 4)) -/
def zpC206 : zC := (43, (10, 258), ([(0, 2, 0, 0)], ([[(0, 0)], [(0, 40)], [((-2147483648), 2147483647)]], [], [(3, 0, 8, 0, 0), (1, 0, 10, 0, 0), (1, 2, 0, 0, 0), (1, 0, 4, 0, 0)], [], [(0, 8, 1, (1, 0, 4, 0, 0))], [])), [([(1, 0, 0, 0), (2, 0, 8, 1)], ([[(0, 0)], [(0, 40)], [((-2147483648), 2147483647)], [((-2147483648), 2147483647)], [(5, 7)]], [], [], [(1, 3, 0, 0, 0)], [(0, 8, 1, (1, 4, 0, 0, 0))], []))], [(8, 8, 1, 1), (39, 39, 0, 0)])
def zpA206 : zAnn := []

/-- PushedIn$Acts.runFrom ((1, 1), (2, 1), (4, 3)) -/
def zpC207 : zC := (44, (11, 281), ([(0, 3, 0, 0)], ([[(0, 0)], [(0, 40)], [((-2147483648), 2147483647)]], [], [(3, 0, 8, 0, 0), (1, 0, 1, 0, 0), (1, 0, 1, 0, 0), (1, 2, 0, 0, 0), (1, 0, 3, 0, 0), (0, 0, 0, 0, 0), (0, 0, 0, 0, 0)], [], [(0, 8, 1, (1, 0, 3, 0, 0))], [])), [([(1, 0, 0, 0), (2, 0, 8, 1)], ([[(0, 0)], [(0, 40)], [((-2147483648), 2147483647)], [((-2147483648), 2147483647)], [(5, 7)]], [], [], [(1, 3, 0, 0, 0)], [(0, 8, 1, (1, 4, 0, 0, 0))], []))], [(8, 8, 1, 1), (39, 39, 0, 0)])
def zpA207 : zAnn := []

/-- PushedIn$Acts.above ((1, 3), (2, 1), (4, 3)) -/
def zpC208 : zC := (39, (12, 307), ([(0, 3, 0, 0)], ([[(0, 0)], [(0, 40)], [((-2147483648), 2147483647)]], [], [(3, 0, 8, 0, 0), (1, 0, 3, 0, 0), (1, 0, 1, 0, 0), (1, 2, 0, 0, 0), (1, 0, 3, 0, 0)], [], [(0, 8, 1, (1, 0, 3, 0, 0))], [])), [([(1, 0, 0, 0), (2, 0, 8, 1)], ([[(0, 0)], [(0, 40)], [((-2147483648), 2147483647)], [((-2147483648), 2147483647)], [(5, 7)]], [], [], [(1, 3, 0, 0, 0)], [(0, 8, 1, (1, 4, 0, 0, 0))], []))], [(8, 8, 1, 1), (39, 39, 0, 0)])
def zpA208 : zAnn := []

/-- PushedIn$Acts.runBody ((1, 40), (3, 3)) -/
def zpC209 : zC := (43, (13, 331), ([(0, 2, 0, 0)], ([[(0, 0)], [(0, 40)], [((-2147483648), 2147483647)]], [], [(3, 0, 8, 0, 0), (1, 0, 40, 0, 0), (1, 2, 0, 0, 0), (1, 0, 3, 0, 0)], [], [(0, 8, 1, (1, 0, 3, 0, 0))], [])), [([(1, 0, 0, 0), (2, 0, 8, 1)], ([[(0, 0)], [(0, 40)], [((-2147483648), 2147483647)], [((-2147483648), 2147483647)], [(5, 7)]], [], [], [(1, 3, 0, 0, 0)], [(0, 8, 1, (1, 4, 0, 0, 0))], []))], [(8, 8, 1, 1), (39, 39, 0, 0)])
def zpA209 : zAnn := []

/-- PushedIn$Acts.runFrom ((1, 3), (2, 1), (4, 2)) -/
def zpC210 : zC := (44, (14, 354), ([(0, 3, 0, 0)], ([[(0, 0)], [(0, 40)], [((-2147483648), 2147483647)]], [], [(3, 0, 8, 0, 0), (1, 0, 3, 0, 0), (1, 0, 1, 0, 0), (1, 2, 0, 0, 0), (1, 0, 2, 0, 0), (0, 0, 0, 0, 0), (0, 0, 0, 0, 0)], [], [(0, 8, 1, (1, 0, 2, 0, 0))], [])), [([(1, 0, 0, 0), (2, 0, 8, 1)], ([[(0, 0)], [(0, 40)], [((-2147483648), 2147483647)], [((-2147483648), 2147483647)], [(5, 7)]], [], [], [(1, 3, 0, 0, 0)], [(0, 8, 1, (1, 4, 0, 0, 0))], []))], [(8, 8, 1, 1), (39, 39, 0, 0)])
def zpA210 : zAnn := []

/-- PushedIn$Acts.runFrom ((1, 4), (2, 1), (4, 2)) -/
def zpC211 : zC := (44, (11, 281), ([(0, 3, 0, 0)], ([[(0, 0)], [(0, 40)], [((-2147483648), 2147483647)]], [], [(3, 0, 8, 0, 0), (1, 0, 4, 0, 0), (1, 0, 1, 0, 0), (1, 2, 0, 0, 0), (1, 0, 2, 0, 0), (0, 0, 0, 0, 0), (0, 0, 0, 0, 0)], [], [(0, 8, 1, (1, 0, 2, 0, 0))], [])), [([(1, 0, 0, 0), (2, 0, 8, 1)], ([[(0, 0)], [(0, 40)], [((-2147483648), 2147483647)], [((-2147483648), 2147483647)], [(4, 6)]], [], [], [(1, 3, 0, 0, 0)], [(0, 8, 1, (1, 4, 0, 0, 0))], []))], [(8, 8, 1, 1), (39, 39, 0, 0)])
def zpA211 : zAnn := []

/-- PushedIn$Acts.runFrom ((1, 5), (2, 1), (4, 2)) -/
def zpC212 : zC := (44, (11, 281), ([(0, 3, 0, 0)], ([[(0, 0)], [(0, 40)], [((-2147483648), 2147483647)]], [], [(3, 0, 8, 0, 0), (1, 0, 5, 0, 0), (1, 0, 1, 0, 0), (1, 2, 0, 0, 0), (1, 0, 2, 0, 0), (0, 0, 0, 0, 0), (0, 0, 0, 0, 0)], [], [(0, 8, 1, (1, 0, 2, 0, 0))], [])), [([(1, 0, 0, 0), (2, 0, 8, 1)], ([[(0, 0)], [(0, 40)], [((-2147483648), 2147483647)], [((-2147483648), 2147483647)], [(4, 6)]], [], [], [(1, 3, 0, 0, 0)], [(0, 8, 1, (1, 4, 0, 0, 0))], []))], [(8, 8, 1, 1), (39, 39, 0, 0)])
def zpA212 : zAnn := []

/-- PushedIn$Acts.runFrom ((1, 2), (2, 0), (4, 5)) -/
def zpC213 : zC := (44, (2, 63), ([(0, 3, 0, 0)], ([[(0, 0)], [(0, 40)], [((-2147483648), 2147483647)]], [], [(3, 0, 8, 0, 0), (1, 0, 2, 0, 0), (1, 0, 0, 0, 0), (1, 2, 0, 0, 0), (1, 0, 5, 0, 0), (0, 0, 0, 0, 0), (0, 0, 0, 0, 0)], [], [(0, 8, 1, (1, 0, 5, 0, 0))], [])), [([(1, 0, 0, 0)], ([[(0, 0)], [(0, 40)], [((-2147483648), 2147483647)], [((-2147483648), 2147483647)]], [], [], [(1, 3, 0, 0, 0)], [(0, 8, 1, (1, 0, 6, 0, 0))], []))], [(8, 8, 1, 1), (39, 39, 0, 0)])
def zpA213 : zAnn := []

/-- PushedIn$Acts.runBody ((1, 1), (3, 8)) -/
def zpC214 : zC := (43, (1, 40), ([(0, 2, 0, 0)], ([[(0, 0)], [(0, 40)], [((-2147483648), 2147483647)]], [], [(3, 0, 8, 0, 0), (1, 0, 1, 0, 0), (1, 2, 0, 0, 0), (1, 0, 8, 0, 0)], [], [(0, 8, 1, (1, 0, 8, 0, 0))], [])), [([(1, 0, 0, 0)], ([[(0, 0)], [(0, 40)], [((-2147483648), 2147483647)], [((-2147483648), 2147483647)]], [], [], [(1, 3, 0, 0, 0)], [(0, 8, 1, (1, 0, 8, 0, 0))], []))], [])
def zpA214 : zAnn := []

/-- PushedIn$Acts.runFrom ((1, 0), (2, 0), (4, 7)) -/
def zpC215 : zC := (44, (2, 63), ([(0, 3, 0, 0)], ([[(0, 0)], [(0, 40)], [((-2147483648), 2147483647)]], [], [(3, 0, 8, 0, 0), (1, 0, 0, 0, 0), (1, 0, 0, 0, 0), (1, 2, 0, 0, 0), (1, 0, 7, 0, 0), (0, 0, 0, 0, 0), (0, 0, 0, 0, 0)], [], [(0, 8, 1, (1, 0, 7, 0, 0))], [])), [([(1, 0, 0, 0)], ([[(0, 0)], [(0, 40)], [((-2147483648), 2147483647)], [((-2147483648), 2147483647)]], [], [], [(1, 3, 0, 0, 0)], [(0, 8, 1, (1, 0, 8, 0, 0))], []))], [(8, 8, 1, 1), (39, 39, 0, 0)])
def zpA215 : zAnn := []

/-- PushedIn$Acts.above ((1, 1), (2, 0), (4, 7)) -/
def zpC216 : zC := (39, (3, 89), ([(0, 3, 0, 0)], ([[(0, 0)], [(0, 40)], [((-2147483648), 2147483647)]], [], [(3, 0, 8, 0, 0), (1, 0, 1, 0, 0), (1, 0, 0, 0, 0), (1, 2, 0, 0, 0), (1, 0, 7, 0, 0)], [], [(0, 8, 1, (1, 0, 7, 0, 0))], [])), [([(1, 0, 0, 0)], ([[(0, 0)], [(0, 40)], [((-2147483648), 2147483647)], [((-2147483648), 2147483647)]], [], [], [(1, 3, 0, 0, 0)], [(0, 8, 1, (1, 0, 8, 0, 0))], []))], [(8, 8, 1, 1), (39, 39, 0, 0)])
def zpA216 : zAnn := []

/-- PushedIn$Acts.runBody ((1, 20), (3, 7)) -/
def zpC217 : zC := (43, (4, 113), ([(0, 2, 0, 0)], ([[(0, 0)], [(0, 40)], [((-2147483648), 2147483647)]], [], [(3, 0, 8, 0, 0), (1, 0, 20, 0, 0), (1, 2, 0, 0, 0), (1, 0, 7, 0, 0)], [], [(0, 8, 1, (1, 0, 7, 0, 0))], [])), [([(1, 0, 0, 0)], ([[(0, 0)], [(0, 40)], [((-2147483648), 2147483647)], [((-2147483648), 2147483647)]], [], [], [(1, 3, 0, 0, 0)], [(0, 8, 1, (1, 0, 8, 0, 0))], []))], [(8, 8, 1, 1), (39, 39, 0, 0)])
def zpA217 : zAnn := []

/-- PushedIn$Acts.runFrom ((1, 1), (2, 0), (4, 6)) -/
def zpC218 : zC := (44, (5, 136), ([(0, 3, 0, 0)], ([[(0, 0)], [(0, 40)], [((-2147483648), 2147483647)]], [], [(3, 0, 8, 0, 0), (1, 0, 1, 0, 0), (1, 0, 0, 0, 0), (1, 2, 0, 0, 0), (1, 0, 6, 0, 0), (0, 0, 0, 0, 0), (0, 0, 0, 0, 0)], [], [(0, 8, 1, (1, 0, 6, 0, 0))], [])), [([(1, 0, 0, 0)], ([[(0, 0)], [(0, 40)], [((-2147483648), 2147483647)], [((-2147483648), 2147483647)]], [], [], [(1, 3, 0, 0, 0)], [(0, 8, 1, (1, 0, 8, 0, 0))], []))], [(8, 8, 1, 1), (39, 39, 0, 0)])
def zpA218 : zAnn := []

/-- PushedIn$Acts.above ((1, 4), (2, 0), (4, 6)) -/
def zpC219 : zC := (39, (6, 162), ([(0, 3, 0, 0)], ([[(0, 0)], [(0, 40)], [((-2147483648), 2147483647)]], [], [(3, 0, 8, 0, 0), (1, 0, 4, 0, 0), (1, 0, 0, 0, 0), (1, 2, 0, 0, 0), (1, 0, 6, 0, 0)], [], [(0, 8, 1, (1, 0, 6, 0, 0))], [])), [([(1, 0, 0, 0)], ([[(0, 0)], [(0, 40)], [((-2147483648), 2147483647)], [((-2147483648), 2147483647)]], [], [], [(1, 3, 0, 0, 0)], [(0, 8, 1, (1, 0, 8, 0, 0))], []))], [(8, 8, 1, 1), (39, 39, 0, 0)])
def zpA219 : zAnn := []

/-- PushedIn$Acts.runBody ((1, 50), (3, 6)) -/
def zpC220 : zC := (43, (7, 186), ([(0, 2, 0, 0)], ([[(0, 0)], [(0, 40)], [((-2147483648), 2147483647)]], [], [(3, 0, 8, 0, 0), (1, 0, 50, 0, 0), (1, 2, 0, 0, 0), (1, 0, 6, 0, 0)], [], [(0, 8, 1, (1, 0, 6, 0, 0))], [])), [([(1, 0, 0, 0)], ([[(0, 0)], [(0, 40)], [((-2147483648), 2147483647)], [((-2147483648), 2147483647)]], [], [], [(1, 3, 0, 0, 0)], [(0, 8, 1, (1, 0, 8, 0, 0))], []))], [(8, 8, 1, 1), (39, 39, 0, 0)])
def zpA220 : zAnn := []

/-- PushedIn$Acts.runFrom ((1, 4), (2, 0), (4, 5)) -/
def zpC221 : zC := (44, (8, 209), ([(0, 3, 0, 0)], ([[(0, 0)], [(0, 40)], [((-2147483648), 2147483647)]], [], [(3, 0, 8, 0, 0), (1, 0, 4, 0, 0), (1, 0, 0, 0, 0), (1, 2, 0, 0, 0), (1, 0, 5, 0, 0), (0, 0, 0, 0, 0), (0, 0, 0, 0, 0)], [], [(0, 8, 1, (1, 0, 5, 0, 0))], [])), [([(1, 0, 0, 0)], ([[(0, 0)], [(0, 40)], [((-2147483648), 2147483647)], [((-2147483648), 2147483647)]], [], [], [(1, 3, 0, 0, 0)], [(0, 8, 1, (1, 0, 8, 0, 0))], []))], [(8, 8, 1, 1), (39, 39, 0, 0)])
def zpA221 : zAnn := []

/-- PushedIn$Acts.runFrom ((1, 5), (2, 0), (4, 5)) -/
def zpC222 : zC := (44, (2, 63), ([(0, 3, 0, 0)], ([[(0, 0)], [(0, 40)], [((-2147483648), 2147483647)]], [], [(3, 0, 8, 0, 0), (1, 0, 5, 0, 0), (1, 0, 0, 0, 0), (1, 2, 0, 0, 0), (1, 0, 5, 0, 0), (0, 0, 0, 0, 0), (0, 0, 0, 0, 0)], [], [(0, 8, 1, (1, 0, 5, 0, 0))], [])), [([(1, 0, 0, 0)], ([[(0, 0)], [(0, 40)], [((-2147483648), 2147483647)], [((-2147483648), 2147483647)]], [], [], [(1, 3, 0, 0, 0)], [(0, 8, 1, (1, 0, 6, 0, 0))], []))], [(8, 8, 1, 1), (39, 39, 0, 0)])
def zpA222 : zAnn := []

/-- PushedIn$Acts.runFrom ((1, 3), (2, 0), (4, 6)) -/
def zpC223 : zC := (44, (5, 136), ([(0, 3, 0, 0)], ([[(0, 0)], [(0, 40)], [((-2147483648), 2147483647)]], [], [(3, 0, 8, 0, 0), (1, 0, 3, 0, 0), (1, 0, 0, 0, 0), (1, 2, 0, 0, 0), (1, 0, 6, 0, 0), (0, 0, 0, 0, 0), (0, 0, 0, 0, 0)], [], [(0, 8, 1, (1, 0, 6, 0, 0))], [])), [([(1, 0, 0, 0)], ([[(0, 0)], [(0, 40)], [((-2147483648), 2147483647)], [((-2147483648), 2147483647)]], [], [], [(1, 3, 0, 0, 0)], [(0, 8, 1, (1, 0, 8, 0, 0))], []))], [(8, 8, 1, 1), (39, 39, 0, 0)])
def zpA223 : zAnn := []

/-- PushedIn$Acts.above ((1, 6), (2, 0), (4, 6)) -/
def zpC224 : zC := (39, (6, 162), ([(0, 3, 0, 0)], ([[(0, 0)], [(0, 40)], [((-2147483648), 2147483647)]], [], [(3, 0, 8, 0, 0), (1, 0, 6, 0, 0), (1, 0, 0, 0, 0), (1, 2, 0, 0, 0), (1, 0, 6, 0, 0)], [], [(0, 8, 1, (1, 0, 6, 0, 0))], [])), [([(1, 0, 0, 0)], ([[(0, 0)], [(0, 40)], [((-2147483648), 2147483647)], [((-2147483648), 2147483647)]], [], [], [(1, 3, 0, 0, 0)], [(0, 8, 1, (1, 0, 8, 0, 0))], []))], [(8, 8, 1, 1), (39, 39, 0, 0)])
def zpA224 : zAnn := []

/-- PushedIn$Acts.runBody ((1, 71), (3, 6)) -/
def zpC225 : zC := (43, (7, 186), ([(0, 2, 0, 0)], ([[(0, 0)], [(0, 40)], [((-2147483648), 2147483647)]], [], [(3, 0, 8, 0, 0), (1, 0, 71, 0, 0), (1, 2, 0, 0, 0), (1, 0, 6, 0, 0)], [], [(0, 8, 1, (1, 0, 6, 0, 0))], [])), [([(1, 0, 0, 0)], ([[(0, 0)], [(0, 40)], [((-2147483648), 2147483647)], [((-2147483648), 2147483647)]], [], [], [(1, 3, 0, 0, 0)], [(0, 8, 1, (1, 0, 8, 0, 0))], []))], [(8, 8, 1, 1), (39, 39, 0, 0)])
def zpA225 : zAnn := []

/-- PushedIn$Acts.runFrom ((1, 6), (2, 0), (4, 5)) -/
def zpC226 : zC := (44, (8, 209), ([(0, 3, 0, 0)], ([[(0, 0)], [(0, 40)], [((-2147483648), 2147483647)]], [], [(3, 0, 8, 0, 0), (1, 0, 6, 0, 0), (1, 0, 0, 0, 0), (1, 2, 0, 0, 0), (1, 0, 5, 0, 0), (0, 0, 0, 0, 0), (0, 0, 0, 0, 0)], [], [(0, 8, 1, (1, 0, 5, 0, 0))], [])), [([(1, 0, 0, 0)], ([[(0, 0)], [(0, 40)], [((-2147483648), 2147483647)], [((-2147483648), 2147483647)]], [], [], [(1, 3, 0, 0, 0)], [(0, 8, 1, (1, 0, 8, 0, 0))], []))], [(8, 8, 1, 1), (39, 39, 0, 0)])
def zpA226 : zAnn := []

/-- PushedIn$Acts.runFrom ((1, 7), (2, 0), (4, 5)) -/
def zpC227 : zC := (44, (2, 63), ([(0, 3, 0, 0)], ([[(0, 0)], [(0, 40)], [((-2147483648), 2147483647)]], [], [(3, 0, 8, 0, 0), (1, 0, 7, 0, 0), (1, 0, 0, 0, 0), (1, 2, 0, 0, 0), (1, 0, 5, 0, 0), (0, 0, 0, 0, 0), (0, 0, 0, 0, 0)], [], [(0, 8, 1, (1, 0, 5, 0, 0))], [])), [([(1, 0, 0, 0)], ([[(0, 0)], [(0, 40)], [((-2147483648), 2147483647)], [((-2147483648), 2147483647)]], [], [], [(1, 3, 0, 0, 0)], [(0, 8, 1, (1, 0, 6, 0, 0))], []))], [(8, 8, 1, 1), (39, 39, 0, 0)])
def zpA227 : zAnn := []

/-- PushedIn$Acts.own ((1, 0), (3, 5)) -/
def zpC228 : zC := (41, (9, 235), ([(0, 2, 0, 0)], ([[(0, 0)], [(0, 40)], [((-2147483648), 2147483647)]], [], [(3, 0, 8, 0, 0), (1, 0, 0, 0, 0), (1, 2, 0, 0, 0), (1, 0, 5, 0, 0)], [], [(0, 8, 1, (1, 0, 5, 0, 0))], [])), [([(1, 0, 0, 0), (2, 0, 8, 1)], ([[(0, 0)], [(0, 40)], [((-2147483648), 2147483647)], [((-2147483648), 2147483647)], [(6, 8)]], [], [], [(1, 3, 0, 0, 0)], [(0, 8, 1, (1, 4, 0, 0, 0))], []))], [(8, 8, 1, 1), (39, 39, 0, 0)])
def zpA228 : zAnn := []

/-- PushedIn$Acts.runBody ((1, 10), (3, 5)) -/
def zpC229 : zC := (43, (10, 258), ([(0, 2, 0, 0)], ([[(0, 0)], [(0, 40)], [((-2147483648), 2147483647)]], [], [(3, 0, 8, 0, 0), (1, 0, 10, 0, 0), (1, 2, 0, 0, 0), (1, 0, 5, 0, 0)], [], [(0, 8, 1, (1, 0, 5, 0, 0))], [])), [([(1, 0, 0, 0), (2, 0, 8, 1)], ([[(0, 0)], [(0, 40)], [((-2147483648), 2147483647)], [((-2147483648), 2147483647)], [(6, 8)]], [], [], [(1, 3, 0, 0, 0)], [(0, 8, 1, (1, 4, 0, 0, 0))], []))], [(8, 8, 1, 1), (39, 39, 0, 0)])
def zpA229 : zAnn := []

/-- PushedIn$Acts.runFrom ((1, 1), (2, 1), (4, 4)) -/
def zpC230 : zC := (44, (11, 281), ([(0, 3, 0, 0)], ([[(0, 0)], [(0, 40)], [((-2147483648), 2147483647)]], [], [(3, 0, 8, 0, 0), (1, 0, 1, 0, 0), (1, 0, 1, 0, 0), (1, 2, 0, 0, 0), (1, 0, 4, 0, 0), (0, 0, 0, 0, 0), (0, 0, 0, 0, 0)], [], [(0, 8, 1, (1, 0, 4, 0, 0))], [])), [([(1, 0, 0, 0), (2, 0, 8, 1)], ([[(0, 0)], [(0, 40)], [((-2147483648), 2147483647)], [((-2147483648), 2147483647)], [(6, 8)]], [], [], [(1, 3, 0, 0, 0)], [(0, 8, 1, (1, 4, 0, 0, 0))], []))], [(8, 8, 1, 1), (39, 39, 0, 0)])
def zpA230 : zAnn := []

/-- PushedIn$Acts.above ((1, 3), (2, 1), (4, 4)) -/
def zpC231 : zC := (39, (12, 307), ([(0, 3, 0, 0)], ([[(0, 0)], [(0, 40)], [((-2147483648), 2147483647)]], [], [(3, 0, 8, 0, 0), (1, 0, 3, 0, 0), (1, 0, 1, 0, 0), (1, 2, 0, 0, 0), (1, 0, 4, 0, 0)], [], [(0, 8, 1, (1, 0, 4, 0, 0))], [])), [([(1, 0, 0, 0), (2, 0, 8, 1)], ([[(0, 0)], [(0, 40)], [((-2147483648), 2147483647)], [((-2147483648), 2147483647)], [(6, 8)]], [], [], [(1, 3, 0, 0, 0)], [(0, 8, 1, (1, 4, 0, 0, 0))], []))], [(8, 8, 1, 1), (39, 39, 0, 0)])
def zpA231 : zAnn := []

/-- PushedIn$Acts.runBody ((1, 40), (3, 4)) -/
def zpC232 : zC := (43, (13, 331), ([(0, 2, 0, 0)], ([[(0, 0)], [(0, 40)], [((-2147483648), 2147483647)]], [], [(3, 0, 8, 0, 0), (1, 0, 40, 0, 0), (1, 2, 0, 0, 0), (1, 0, 4, 0, 0)], [], [(0, 8, 1, (1, 0, 4, 0, 0))], [])), [([(1, 0, 0, 0), (2, 0, 8, 1)], ([[(0, 0)], [(0, 40)], [((-2147483648), 2147483647)], [((-2147483648), 2147483647)], [(6, 8)]], [], [], [(1, 3, 0, 0, 0)], [(0, 8, 1, (1, 4, 0, 0, 0))], []))], [(8, 8, 1, 1), (39, 39, 0, 0)])
def zpA232 : zAnn := []

/-- PushedIn$Acts.runFrom ((1, 3), (2, 1), (4, 3)) -/
def zpC233 : zC := (44, (14, 354), ([(0, 3, 0, 0)], ([[(0, 0)], [(0, 40)], [((-2147483648), 2147483647)]], [], [(3, 0, 8, 0, 0), (1, 0, 3, 0, 0), (1, 0, 1, 0, 0), (1, 2, 0, 0, 0), (1, 0, 3, 0, 0), (0, 0, 0, 0, 0), (0, 0, 0, 0, 0)], [], [(0, 8, 1, (1, 0, 3, 0, 0))], [])), [([(1, 0, 0, 0), (2, 0, 8, 1)], ([[(0, 0)], [(0, 40)], [((-2147483648), 2147483647)], [((-2147483648), 2147483647)], [(6, 8)]], [], [], [(1, 3, 0, 0, 0)], [(0, 8, 1, (1, 4, 0, 0, 0))], []))], [(8, 8, 1, 1), (39, 39, 0, 0)])
def zpA233 : zAnn := []

/-- PushedIn$Acts.above ((1, 6), (2, 1), (4, 3)) -/
def zpC234 : zC := (39, (15, 380), ([(0, 3, 0, 0)], ([[(0, 0)], [(0, 40)], [((-2147483648), 2147483647)]], [], [(3, 0, 8, 0, 0), (1, 0, 6, 0, 0), (1, 0, 1, 0, 0), (1, 2, 0, 0, 0), (1, 0, 3, 0, 0)], [], [(0, 8, 1, (1, 0, 3, 0, 0))], [])), [([(1, 0, 0, 0), (2, 0, 8, 1)], ([[(0, 0)], [(0, 40)], [((-2147483648), 2147483647)], [((-2147483648), 2147483647)], [(6, 8)]], [], [], [(1, 3, 0, 0, 0)], [(0, 8, 1, (1, 4, 0, 0, 0))], []))], [(8, 8, 1, 1), (39, 39, 0, 0)])
def zpA234 : zAnn := []

/-- PushedIn$Acts.runBody ((1, 11), (3, 4)) -/
def zpC235 : zC := (43, (1, 40), ([(0, 2, 0, 0), (2, 0, 8, 1)], ([[(0, 0)], [(0, 40)], [(1, 2)], [(6, 15)]], [], [(3, 0, 8, 0, 0), (1, 0, 11, 0, 0), (1, 2, 0, 0, 0), (1, 0, 4, 0, 0)], [], [(0, 8, 1, (1, 3, 0, 0, 0))], [])), [([(1, 0, 0, 0)], ([[(0, 0)], [(0, 40)], [(1, 2)], [(6, 15)], [((-2147483648), 2147483647)]], [], [], [(1, 4, 0, 0, 0)], [(0, 8, 1, (1, 3, 0, 0, 0))], []))], [])
def zpA235 : zAnn := []

/-- PushedIn$Acts.runFrom ((1, 0), (2, 2), (4, 3)) -/
def zpC236 : zC := (44, (2, 63), ([(0, 3, 0, 0), (2, 0, 8, 1)], ([[(0, 0)], [(0, 40)], [(1, 2)], [(5, 14)]], [], [(3, 0, 8, 0, 0), (1, 0, 0, 0, 0), (1, 0, 2, 0, 0), (1, 2, 0, 0, 0), (1, 0, 3, 0, 0), (0, 0, 0, 0, 0), (0, 0, 0, 0, 0)], [], [(0, 8, 1, (1, 3, 0, 0, 0))], [])), [([(1, 0, 0, 0)], ([[(0, 0)], [(0, 40)], [(1, 2)], [(5, 14)], [((-2147483648), 2147483647)]], [], [], [(1, 4, 0, 0, 0)], [(0, 8, 1, (1, 3, 1, 0, 0))], []))], [(8, 8, 1, 1), (39, 39, 0, 0)])
def zpA236 : zAnn := []

/-- PushedIn$Acts.runFrom ((1, 1), (2, 2), (4, 3)) -/
def zpC237 : zC := (44, (2, 63), ([(2, 0, 8, 1)], ([[(0, 0)], [(0, 40)], [(6, 8)]], [], [(3, 0, 8, 0, 0), (1, 0, 1, 0, 0), (1, 0, 2, 0, 0), (1, 0, 2, 0, 0), (1, 0, 3, 0, 0), (0, 0, 0, 0, 0), (0, 0, 0, 0, 0)], [], [(0, 8, 1, (1, 2, 0, 0, 0))], [])), [([(1, 0, 0, 0)], ([[(0, 0)], [(0, 40)], [(6, 8)], [((-2147483648), 2147483647)]], [], [], [(1, 3, 0, 0, 0)], [(0, 8, 1, (1, 2, 1, 0, 0))], []))], [(8, 8, 1, 1), (39, 39, 0, 0)])
def zpA237 : zAnn := []

/-- PushedIn$Acts.runBody ((1, 11), (3, 5)) -/
def zpC238 : zC := (43, (1, 40), ([(2, 0, 8, 1)], ([[(0, 0)], [(0, 40)], [(8, 10)]], [], [(3, 0, 8, 0, 0), (1, 0, 11, 0, 0), (1, 0, 2, 0, 0), (1, 0, 5, 0, 0)], [], [(0, 8, 1, (1, 2, 0, 0, 0))], [])), [([(1, 0, 0, 0)], ([[(0, 0)], [(0, 40)], [(8, 10)], [((-2147483648), 2147483647)]], [], [], [(1, 3, 0, 0, 0)], [(0, 8, 1, (1, 2, 0, 0, 0))], []))], [])
def zpA238 : zAnn := []

/-- PushedIn$Acts.runFrom ((1, 0), (2, 2), (4, 4)) -/
def zpC239 : zC := (44, (2, 63), ([(2, 0, 8, 1)], ([[(0, 0)], [(0, 40)], [(7, 9)]], [], [(3, 0, 8, 0, 0), (1, 0, 0, 0, 0), (1, 0, 2, 0, 0), (1, 0, 2, 0, 0), (1, 0, 4, 0, 0), (0, 0, 0, 0, 0), (0, 0, 0, 0, 0)], [], [(0, 8, 1, (1, 2, 0, 0, 0))], [])), [([(1, 0, 0, 0)], ([[(0, 0)], [(0, 40)], [(7, 9)], [((-2147483648), 2147483647)]], [], [], [(1, 3, 0, 0, 0)], [(0, 8, 1, (1, 2, 1, 0, 0))], []))], [(8, 8, 1, 1), (39, 39, 0, 0)])
def zpA239 : zAnn := []

/-- PushedIn$Acts.above ((1, 2), (2, 2), (4, 4)) -/
def zpC240 : zC := (39, (3, 89), ([(2, 0, 8, 1)], ([[(0, 0)], [(0, 40)], [(7, 9)]], [], [(3, 0, 8, 0, 0), (1, 0, 2, 0, 0), (1, 0, 2, 0, 0), (1, 0, 2, 0, 0), (1, 0, 4, 0, 0)], [], [(0, 8, 1, (1, 2, 0, 0, 0))], [])), [([(1, 0, 0, 0)], ([[(0, 0)], [(0, 40)], [(7, 9)], [((-2147483648), 2147483647)]], [], [], [(1, 3, 0, 0, 0)], [(0, 8, 1, (1, 2, 1, 0, 0))], []))], [(8, 8, 1, 1), (39, 39, 0, 0)])
def zpA240 : zAnn := []

/-- PushedIn$Acts.runBody ((1, 30), (3, 4)) -/
def zpC241 : zC := (43, (4, 113), ([(2, 0, 8, 1)], ([[(0, 0)], [(0, 40)], [(7, 9)]], [], [(3, 0, 8, 0, 0), (1, 0, 30, 0, 0), (1, 0, 2, 0, 0), (1, 0, 4, 0, 0)], [], [(0, 8, 1, (1, 2, 0, 0, 0))], [])), [([(1, 0, 0, 0)], ([[(0, 0)], [(0, 40)], [(7, 9)], [((-2147483648), 2147483647)]], [], [], [(1, 3, 0, 0, 0)], [(0, 8, 1, (1, 2, 1, 0, 0))], []))], [(8, 8, 1, 1), (39, 39, 0, 0)])
def zpA241 : zAnn := []

/-- PushedIn$Acts.runFrom ((1, 2), (2, 2), (4, 3)) -/
def zpC242 : zC := (44, (5, 136), ([(2, 0, 8, 1)], ([[(0, 0)], [(0, 40)], [(6, 8)]], [], [(3, 0, 8, 0, 0), (1, 0, 2, 0, 0), (1, 0, 2, 0, 0), (1, 0, 2, 0, 0), (1, 0, 3, 0, 0), (0, 0, 0, 0, 0), (0, 0, 0, 0, 0)], [], [(0, 8, 1, (1, 2, 0, 0, 0))], [])), [([(1, 0, 0, 0)], ([[(0, 0)], [(0, 40)], [(6, 8)], [((-2147483648), 2147483647)]], [], [], [(1, 3, 0, 0, 0)], [(0, 8, 1, (1, 2, 2, 0, 0))], []))], [(8, 8, 1, 1), (39, 39, 0, 0)])
def zpA242 : zAnn := []

/-- PushedIn$Acts.runFrom ((1, 3), (2, 2), (4, 3)) -/
def zpC243 : zC := (44, (2, 63), ([(2, 0, 8, 1)], ([[(0, 0)], [(0, 40)], [(6, 8)]], [], [(3, 0, 8, 0, 0), (1, 0, 3, 0, 0), (1, 0, 2, 0, 0), (1, 0, 2, 0, 0), (1, 0, 3, 0, 0), (0, 0, 0, 0, 0), (0, 0, 0, 0, 0)], [], [(0, 8, 1, (1, 2, 0, 0, 0))], [])), [([(1, 0, 0, 0)], ([[(0, 0)], [(0, 40)], [(6, 8)], [((-2147483648), 2147483647)]], [], [], [(1, 3, 0, 0, 0)], [(0, 8, 1, (1, 2, 1, 0, 0))], []))], [(8, 8, 1, 1), (39, 39, 0, 0)])
def zpA243 : zAnn := []

/-- PushedIn$Acts.runFrom ((1, 4), (2, 2), (4, 3)) -/
def zpC244 : zC := (44, (2, 63), ([(2, 0, 8, 1)], ([[(0, 0)], [(0, 40)], [(6, 8)]], [], [(3, 0, 8, 0, 0), (1, 0, 4, 0, 0), (1, 0, 2, 0, 0), (1, 0, 2, 0, 0), (1, 0, 3, 0, 0), (0, 0, 0, 0, 0), (0, 0, 0, 0, 0)], [], [(0, 8, 1, (1, 2, 0, 0, 0))], [])), [([(1, 0, 0, 0)], ([[(0, 0)], [(0, 40)], [(6, 8)], [((-2147483648), 2147483647)]], [], [], [(1, 3, 0, 0, 0)], [(0, 8, 1, (1, 2, 1, 0, 0))], []))], [(8, 8, 1, 1), (39, 39, 0, 0)])
def zpA244 : zAnn := []

/-- PushedIn$Acts.runFrom ((1, 5), (2, 2), (4, 3)) -/
def zpC245 : zC := (44, (2, 63), ([(2, 0, 8, 1)], ([[(0, 0)], [(0, 40)], [(6, 8)]], [], [(3, 0, 8, 0, 0), (1, 0, 5, 0, 0), (1, 0, 2, 0, 0), (1, 0, 2, 0, 0), (1, 0, 3, 0, 0), (0, 0, 0, 0, 0), (0, 0, 0, 0, 0)], [], [(0, 8, 1, (1, 2, 0, 0, 0))], [])), [([(1, 0, 0, 0)], ([[(0, 0)], [(0, 40)], [(6, 8)], [((-2147483648), 2147483647)]], [], [], [(1, 3, 0, 0, 0)], [(0, 8, 1, (1, 2, 1, 0, 0))], []))], [(8, 8, 1, 1), (39, 39, 0, 0)])
def zpA245 : zAnn := []

/-- PushedIn$Acts.runFrom ((1, 6), (2, 2), (4, 3)) -/
def zpC246 : zC := (44, (2, 63), ([(2, 0, 8, 1)], ([[(0, 0)], [(0, 40)], [(6, 8)]], [], [(3, 0, 8, 0, 0), (1, 0, 6, 0, 0), (1, 0, 2, 0, 0), (1, 0, 2, 0, 0), (1, 0, 3, 0, 0), (0, 0, 0, 0, 0), (0, 0, 0, 0, 0)], [], [(0, 8, 1, (1, 2, 0, 0, 0))], [])), [([(1, 0, 0, 0)], ([[(0, 0)], [(0, 40)], [(6, 8)], [((-2147483648), 2147483647)]], [], [], [(1, 3, 0, 0, 0)], [(0, 8, 1, (1, 2, 1, 0, 0))], []))], [(8, 8, 1, 1), (39, 39, 0, 0)])
def zpA246 : zAnn := []

/-- PushedIn$Acts.above ((1, 7), (2, 2), (4, 4)) -/
def zpC247 : zC := (39, (3, 89), ([(2, 0, 8, 1)], ([[(0, 0)], [(0, 40)], [(7, 9)]], [], [(3, 0, 8, 0, 0), (1, 0, 7, 0, 0), (1, 0, 2, 0, 0), (1, 0, 2, 0, 0), (1, 0, 4, 0, 0)], [], [(0, 8, 1, (1, 2, 0, 0, 0))], [])), [([(1, 0, 0, 0)], ([[(0, 0)], [(0, 40)], [(7, 9)], [((-2147483648), 2147483647)]], [], [], [(1, 3, 0, 0, 0)], [(0, 8, 1, (1, 2, 1, 0, 0))], []))], [(8, 8, 1, 1), (39, 39, 0, 0)])
def zpA247 : zAnn := []

/-- PushedIn$Acts.runBody ((1, 80), (3, 4)) -/
def zpC248 : zC := (43, (10, 258), ([(2, 0, 8, 1)], ([[(0, 0)], [(0, 40)], [(7, 9)]], [], [(3, 0, 8, 0, 0), (1, 0, 80, 0, 0), (1, 0, 2, 0, 0), (1, 0, 4, 0, 0)], [], [(0, 8, 1, (1, 2, 0, 0, 0))], [])), [([(1, 0, 0, 0), (2, 0, 8, 1)], ([[(0, 0)], [(0, 40)], [(7, 9)], [((-2147483648), 2147483647)], [(9, 13)]], [(4, 2, 4), (2, 4, (-2))], [], [(1, 3, 0, 0, 0)], [(0, 8, 1, (1, 4, 0, 0, 0))], []))], [(8, 8, 1, 1), (39, 39, 0, 0)])
def zpA248 : zAnn := []

/-- PushedIn$Acts.runFrom ((1, 7), (2, 2), (4, 3)) -/
def zpC249 : zC := (44, (11, 281), ([(2, 0, 8, 1)], ([[(0, 0)], [(0, 40)], [(6, 8)]], [], [(3, 0, 8, 0, 0), (1, 0, 7, 0, 0), (1, 0, 2, 0, 0), (1, 0, 2, 0, 0), (1, 0, 3, 0, 0), (0, 0, 0, 0, 0), (0, 0, 0, 0, 0)], [], [(0, 8, 1, (1, 2, 0, 0, 0))], [])), [([(1, 0, 0, 0), (2, 0, 8, 1)], ([[(0, 0)], [(0, 40)], [(6, 8)], [((-2147483648), 2147483647)], [(9, 13)]], [(4, 2, 5), (2, 4, (-3))], [], [(1, 3, 0, 0, 0)], [(0, 8, 1, (1, 4, 0, 0, 0))], []))], [(8, 8, 1, 1), (39, 39, 0, 0)])
def zpA249 : zAnn := []

/-- PushedIn$Acts.own ((1, 2), (3, 3)) -/
def zpC250 : zC := (41, (12, 307), ([(2, 0, 8, 1)], ([[(0, 0)], [(0, 40)], [(6, 8)]], [], [(3, 0, 8, 0, 0), (1, 0, 2, 0, 0), (1, 0, 2, 0, 0), (1, 0, 3, 0, 0)], [], [(0, 8, 1, (1, 2, 0, 0, 0))], [])), [([(1, 0, 0, 0), (2, 0, 8, 1)], ([[(0, 0)], [(0, 40)], [(6, 8)], [((-2147483648), 2147483647)], [(7, 13)]], [(4, 2, 5), (2, 4, (-1))], [], [(1, 3, 0, 0, 0)], [(0, 8, 1, (1, 4, 0, 0, 0))], []))], [(8, 8, 1, 1), (39, 39, 0, 0)])
def zpA250 : zAnn := []

/-- PushedIn$Acts.runBody ((1, 70), (3, 3)) -/
def zpC251 : zC := (43, (16, 404), ([(0, 2, 0, 0)], ([[(0, 0)], [(0, 40)], [((-2147483648), 2147483647)]], [], [(3, 0, 8, 0, 0), (1, 0, 70, 0, 0), (1, 2, 0, 0, 0), (1, 0, 3, 0, 0)], [], [(0, 8, 1, (1, 0, 3, 0, 0))], [])), [([(1, 0, 0, 0), (2, 0, 8, 1)], ([[(0, 0)], [(0, 40)], [((-2147483648), 2147483647)], [((-2147483648), 2147483647)], [(7, 13)]], [], [], [(1, 3, 0, 0, 0)], [(0, 8, 1, (1, 4, 0, 0, 0))], []))], [(8, 8, 1, 1), (39, 39, 0, 0)])
def zpA251 : zAnn := []

/-- PushedIn$Acts.runFrom ((1, 6), (2, 1), (4, 2)) -/
def zpC252 : zC := (44, (17, 427), ([(0, 3, 0, 0)], ([[(0, 0)], [(0, 40)], [((-2147483648), 2147483647)]], [], [(3, 0, 8, 0, 0), (1, 0, 6, 0, 0), (1, 0, 1, 0, 0), (1, 2, 0, 0, 0), (1, 0, 2, 0, 0), (0, 0, 0, 0, 0), (0, 0, 0, 0, 0)], [], [(0, 8, 1, (1, 0, 2, 0, 0))], [])), [([(1, 0, 0, 0), (2, 0, 8, 1)], ([[(0, 0)], [(0, 40)], [((-2147483648), 2147483647)], [((-2147483648), 2147483647)], [(7, 13)]], [], [], [(1, 3, 0, 0, 0)], [(0, 8, 1, (1, 4, 0, 0, 0))], []))], [(8, 8, 1, 1), (39, 39, 0, 0)])
def zpA252 : zAnn := []

/-- PushedIn$Acts.runFrom ((1, 7), (2, 1), (4, 2)) -/
def zpC253 : zC := (44, (11, 281), ([(0, 3, 0, 0)], ([[(0, 0)], [(0, 40)], [((-2147483648), 2147483647)]], [], [(3, 0, 8, 0, 0), (1, 0, 7, 0, 0), (1, 0, 1, 0, 0), (1, 2, 0, 0, 0), (1, 0, 2, 0, 0), (0, 0, 0, 0, 0), (0, 0, 0, 0, 0)], [], [(0, 8, 1, (1, 0, 2, 0, 0))], [])), [([(1, 0, 0, 0), (2, 0, 8, 1)], ([[(0, 0)], [(0, 40)], [((-2147483648), 2147483647)], [((-2147483648), 2147483647)], [(4, 6)]], [], [], [(1, 3, 0, 0, 0)], [(0, 8, 1, (1, 4, 0, 0, 0))], []))], [(8, 8, 1, 1), (39, 39, 0, 0)])
def zpA253 : zAnn := []

/-- PushedIn$Acts.own ((1, 1), (3, 2)) -/
def zpC254 : zC := (41, (18, 453), ([(0, 2, 0, 0)], ([[(0, 0)], [(0, 40)], [((-2147483648), 2147483647)]], [], [(3, 0, 8, 0, 0), (1, 0, 1, 0, 0), (1, 2, 0, 0, 0), (1, 0, 2, 0, 0)], [], [(0, 8, 1, (1, 0, 2, 0, 0))], [])), [([(1, 0, 0, 0), (2, 0, 8, 1)], ([[(0, 0)], [(0, 40)], [((-2147483648), 2147483647)], [((-2147483648), 2147483647)], [(4, 13)]], [], [], [(1, 3, 0, 0, 0)], [(0, 8, 1, (1, 4, 0, 0, 0))], []))], [(8, 8, 1, 1), (39, 39, 0, 0)])
def zpA254 : zAnn := []

/-- PushedIn$Acts.runBody ((1, 11), (3, 3)) -/
def zpC255 : zC := (43, (1, 40), ([(0, 2, 0, 0), (2, 0, 8, 1)], ([[(0, 0)], [(0, 40)], [(1, 2)], [(5, 14)]], [], [(3, 0, 8, 0, 0), (1, 0, 11, 0, 0), (1, 2, 0, 0, 0), (1, 0, 3, 0, 0)], [], [(0, 8, 1, (1, 3, 0, 0, 0))], [])), [([(1, 0, 0, 0)], ([[(0, 0)], [(0, 40)], [(1, 2)], [(5, 14)], [((-2147483648), 2147483647)]], [], [], [(1, 4, 0, 0, 0)], [(0, 8, 1, (1, 3, 0, 0, 0))], []))], [])
def zpA255 : zAnn := []

/-- PushedIn$Acts.runFrom ((1, 0), (2, 2), (4, 2)) -/
def zpC256 : zC := (44, (2, 63), ([(0, 3, 0, 0), (2, 0, 8, 1)], ([[(0, 0)], [(0, 40)], [(1, 2)], [(4, 13)]], [], [(3, 0, 8, 0, 0), (1, 0, 0, 0, 0), (1, 0, 2, 0, 0), (1, 2, 0, 0, 0), (1, 0, 2, 0, 0), (0, 0, 0, 0, 0), (0, 0, 0, 0, 0)], [], [(0, 8, 1, (1, 3, 0, 0, 0))], [])), [([(1, 0, 0, 0)], ([[(0, 0)], [(0, 40)], [(1, 2)], [(4, 13)], [((-2147483648), 2147483647)]], [], [], [(1, 4, 0, 0, 0)], [(0, 8, 1, (1, 3, 1, 0, 0))], []))], [(8, 8, 1, 1), (39, 39, 0, 0)])
def zpA256 : zAnn := []

/-- PushedIn$Acts.runFrom ((1, 1), (2, 2), (4, 2)) -/
def zpC257 : zC := (44, (2, 63), ([(0, 3, 0, 0), (2, 0, 8, 1)], ([[(0, 0)], [(0, 40)], [(1, 2)], [(4, 13)]], [], [(3, 0, 8, 0, 0), (1, 0, 1, 0, 0), (1, 0, 2, 0, 0), (1, 2, 0, 0, 0), (1, 0, 2, 0, 0), (0, 0, 0, 0, 0), (0, 0, 0, 0, 0)], [], [(0, 8, 1, (1, 3, 0, 0, 0))], [])), [([(1, 0, 0, 0)], ([[(0, 0)], [(0, 40)], [(1, 2)], [(4, 13)], [((-2147483648), 2147483647)]], [], [], [(1, 4, 0, 0, 0)], [(0, 8, 1, (1, 3, 1, 0, 0))], []))], [(8, 8, 1, 1), (39, 39, 0, 0)])
def zpA257 : zAnn := []

/-- PushedIn$Acts.above ((1, 2), (2, 2), (4, 3)) -/
def zpC258 : zC := (39, (3, 89), ([(0, 3, 0, 0), (2, 0, 8, 1)], ([[(0, 0)], [(0, 40)], [(1, 2)], [(5, 14)]], [], [(3, 0, 8, 0, 0), (1, 0, 2, 0, 0), (1, 0, 2, 0, 0), (1, 2, 0, 0, 0), (1, 0, 3, 0, 0)], [], [(0, 8, 1, (1, 3, 0, 0, 0))], [])), [([(1, 0, 0, 0)], ([[(0, 0)], [(0, 40)], [(1, 2)], [(5, 14)], [((-2147483648), 2147483647)]], [], [], [(1, 4, 0, 0, 0)], [(0, 8, 1, (1, 3, 1, 0, 0))], []))], [(8, 8, 1, 1), (39, 39, 0, 0)])
def zpA258 : zAnn := []

/-- PushedIn$Acts.runBody ((1, 30), (3, 3)) -/
def zpC259 : zC := (43, (4, 113), ([(0, 2, 0, 0), (2, 0, 8, 1)], ([[(0, 0)], [(0, 40)], [(1, 2)], [(5, 14)]], [], [(3, 0, 8, 0, 0), (1, 0, 30, 0, 0), (1, 2, 0, 0, 0), (1, 0, 3, 0, 0)], [], [(0, 8, 1, (1, 3, 0, 0, 0))], [])), [([(1, 0, 0, 0)], ([[(0, 0)], [(0, 40)], [(1, 2)], [(5, 14)], [((-2147483648), 2147483647)]], [], [], [(1, 4, 0, 0, 0)], [(0, 8, 1, (1, 3, 1, 0, 0))], []))], [(8, 8, 1, 1), (39, 39, 0, 0)])
def zpA259 : zAnn := []

/-- PushedIn$Acts.runFrom ((1, 2), (2, 2), (4, 2)) -/
def zpC260 : zC := (44, (5, 136), ([(0, 3, 0, 0), (2, 0, 8, 1)], ([[(0, 0)], [(0, 40)], [(1, 2)], [(4, 13)]], [], [(3, 0, 8, 0, 0), (1, 0, 2, 0, 0), (1, 0, 2, 0, 0), (1, 2, 0, 0, 0), (1, 0, 2, 0, 0), (0, 0, 0, 0, 0), (0, 0, 0, 0, 0)], [], [(0, 8, 1, (1, 3, 0, 0, 0))], [])), [([(1, 0, 0, 0)], ([[(0, 0)], [(0, 40)], [(1, 2)], [(4, 13)], [((-2147483648), 2147483647)]], [], [], [(1, 4, 0, 0, 0)], [(0, 8, 1, (1, 3, 2, 0, 0))], []))], [(8, 8, 1, 1), (39, 39, 0, 0)])
def zpA260 : zAnn := []

/-- PushedIn$Acts.runFrom ((1, 3), (2, 2), (4, 2)) -/
def zpC261 : zC := (44, (2, 63), ([(0, 3, 0, 0), (2, 0, 8, 1)], ([[(0, 0)], [(0, 40)], [(1, 2)], [(4, 13)]], [], [(3, 0, 8, 0, 0), (1, 0, 3, 0, 0), (1, 0, 2, 0, 0), (1, 2, 0, 0, 0), (1, 0, 2, 0, 0), (0, 0, 0, 0, 0), (0, 0, 0, 0, 0)], [], [(0, 8, 1, (1, 3, 0, 0, 0))], [])), [([(1, 0, 0, 0)], ([[(0, 0)], [(0, 40)], [(1, 2)], [(4, 13)], [((-2147483648), 2147483647)]], [], [], [(1, 4, 0, 0, 0)], [(0, 8, 1, (1, 3, 1, 0, 0))], []))], [(8, 8, 1, 1), (39, 39, 0, 0)])
def zpA261 : zAnn := []

/-- PushedIn$Acts.runFrom ((1, 4), (2, 2), (4, 2)) -/
def zpC262 : zC := (44, (2, 63), ([(0, 3, 0, 0), (2, 0, 8, 1)], ([[(0, 0)], [(0, 40)], [(1, 2)], [(4, 13)]], [], [(3, 0, 8, 0, 0), (1, 0, 4, 0, 0), (1, 0, 2, 0, 0), (1, 2, 0, 0, 0), (1, 0, 2, 0, 0), (0, 0, 0, 0, 0), (0, 0, 0, 0, 0)], [], [(0, 8, 1, (1, 3, 0, 0, 0))], [])), [([(1, 0, 0, 0)], ([[(0, 0)], [(0, 40)], [(1, 2)], [(4, 13)], [((-2147483648), 2147483647)]], [], [], [(1, 4, 0, 0, 0)], [(0, 8, 1, (1, 3, 1, 0, 0))], []))], [(8, 8, 1, 1), (39, 39, 0, 0)])
def zpA262 : zAnn := []

/-- PushedIn$Acts.runFrom ((1, 5), (2, 2), (4, 2)) -/
def zpC263 : zC := (44, (2, 63), ([(0, 3, 0, 0), (2, 0, 8, 1)], ([[(0, 0)], [(0, 40)], [(1, 2)], [(4, 13)]], [], [(3, 0, 8, 0, 0), (1, 0, 5, 0, 0), (1, 0, 2, 0, 0), (1, 2, 0, 0, 0), (1, 0, 2, 0, 0), (0, 0, 0, 0, 0), (0, 0, 0, 0, 0)], [], [(0, 8, 1, (1, 3, 0, 0, 0))], [])), [([(1, 0, 0, 0)], ([[(0, 0)], [(0, 40)], [(1, 2)], [(4, 13)], [((-2147483648), 2147483647)]], [], [], [(1, 4, 0, 0, 0)], [(0, 8, 1, (1, 3, 1, 0, 0))], []))], [(8, 8, 1, 1), (39, 39, 0, 0)])
def zpA263 : zAnn := []

/-- PushedIn$Acts.runFrom ((1, 6), (2, 2), (4, 2)) -/
def zpC264 : zC := (44, (2, 63), ([(0, 3, 0, 0), (2, 0, 8, 1)], ([[(0, 0)], [(0, 40)], [(1, 2)], [(4, 13)]], [], [(3, 0, 8, 0, 0), (1, 0, 6, 0, 0), (1, 0, 2, 0, 0), (1, 2, 0, 0, 0), (1, 0, 2, 0, 0), (0, 0, 0, 0, 0), (0, 0, 0, 0, 0)], [], [(0, 8, 1, (1, 3, 0, 0, 0))], [])), [([(1, 0, 0, 0)], ([[(0, 0)], [(0, 40)], [(1, 2)], [(4, 13)], [((-2147483648), 2147483647)]], [], [], [(1, 4, 0, 0, 0)], [(0, 8, 1, (1, 3, 1, 0, 0))], []))], [(8, 8, 1, 1), (39, 39, 0, 0)])
def zpA264 : zAnn := []

/-- PushedIn$Acts.above ((1, 7), (2, 2), (4, 3)) -/
def zpC265 : zC := (39, (3, 89), ([(0, 3, 0, 0), (2, 0, 8, 1)], ([[(0, 0)], [(0, 40)], [(1, 2)], [(5, 14)]], [], [(3, 0, 8, 0, 0), (1, 0, 7, 0, 0), (1, 0, 2, 0, 0), (1, 2, 0, 0, 0), (1, 0, 3, 0, 0)], [], [(0, 8, 1, (1, 3, 0, 0, 0))], [])), [([(1, 0, 0, 0)], ([[(0, 0)], [(0, 40)], [(1, 2)], [(5, 14)], [((-2147483648), 2147483647)]], [], [], [(1, 4, 0, 0, 0)], [(0, 8, 1, (1, 3, 1, 0, 0))], []))], [(8, 8, 1, 1), (39, 39, 0, 0)])
def zpA265 : zAnn := []

/-- PushedIn$Acts.runBody ((1, 80), (3, 3)) -/
def zpC266 : zC := (43, (10, 258), ([(0, 2, 0, 0), (2, 0, 8, 1)], ([[(0, 0)], [(0, 40)], [(1, 2)], [(5, 14)]], [], [(3, 0, 8, 0, 0), (1, 0, 80, 0, 0), (1, 2, 0, 0, 0), (1, 0, 3, 0, 0)], [], [(0, 8, 1, (1, 3, 0, 0, 0))], [])), [([(1, 0, 0, 0), (2, 0, 8, 1)], ([[(0, 0)], [(0, 40)], [(1, 2)], [(5, 14)], [((-2147483648), 2147483647)], [(7, 18)]], [(5, 3, 4), (3, 5, (-2))], [], [(1, 4, 0, 0, 0)], [(0, 8, 1, (1, 5, 0, 0, 0))], []))], [(8, 8, 1, 1), (39, 39, 0, 0)])
def zpA266 : zAnn := []

/-- PushedIn$Acts.runFrom ((1, 7), (2, 2), (4, 2)) -/
def zpC267 : zC := (44, (11, 281), ([(0, 3, 0, 0), (2, 0, 8, 1)], ([[(0, 0)], [(0, 40)], [(1, 2)], [(4, 13)]], [], [(3, 0, 8, 0, 0), (1, 0, 7, 0, 0), (1, 0, 2, 0, 0), (1, 2, 0, 0, 0), (1, 0, 2, 0, 0), (0, 0, 0, 0, 0), (0, 0, 0, 0, 0)], [], [(0, 8, 1, (1, 3, 0, 0, 0))], [])), [([(1, 0, 0, 0), (2, 0, 8, 1)], ([[(0, 0)], [(0, 40)], [(1, 2)], [(4, 13)], [((-2147483648), 2147483647)], [(7, 18)]], [(5, 3, 5), (3, 5, (-3))], [], [(1, 4, 0, 0, 0)], [(0, 8, 1, (1, 5, 0, 0, 0))], []))], [(8, 8, 1, 1), (39, 39, 0, 0)])
def zpA267 : zAnn := []

/-- PushedIn$Acts.own ((1, 2), (3, 2)) -/
def zpC268 : zC := (41, (12, 307), ([(0, 2, 0, 0), (2, 0, 8, 1)], ([[(0, 0)], [(0, 40)], [(1, 2)], [(4, 13)]], [], [(3, 0, 8, 0, 0), (1, 0, 2, 0, 0), (1, 2, 0, 0, 0), (1, 0, 2, 0, 0)], [], [(0, 8, 1, (1, 3, 0, 0, 0))], [])), [([(1, 0, 0, 0), (2, 0, 8, 1)], ([[(0, 0)], [(0, 40)], [(1, 2)], [(4, 13)], [((-2147483648), 2147483647)], [(5, 18)]], [(5, 3, 5), (3, 5, (-1))], [], [(1, 4, 0, 0, 0)], [(0, 8, 1, (1, 5, 0, 0, 0))], []))], [(8, 8, 1, 1), (39, 39, 0, 0)])
def zpA268 : zAnn := []

/-- PushedIn$Acts.runBody ((1, 2), (3, 2)) -/
def zpC269 : zC := (43, (19, 476), ([(0, 2, 0, 0)], ([[(0, 0)], [(0, 40)], [((-2147483648), 2147483647)]], [], [(3, 0, 8, 0, 0), (1, 0, 2, 0, 0), (1, 2, 0, 0, 0), (1, 0, 2, 0, 0)], [], [(0, 8, 1, (1, 0, 2, 0, 0))], [])), [([(1, 0, 0, 0), (2, 0, 8, 1)], ([[(0, 0)], [(0, 40)], [((-2147483648), 2147483647)], [((-2147483648), 2147483647)], [(5, 18)]], [], [], [(1, 3, 0, 0, 0)], [(0, 8, 1, (1, 4, 0, 0, 0))], []))], [(8, 8, 1, 1), (39, 39, 0, 0)])
def zpA269 : zAnn := []

/-- PushedIn$Acts.runFrom ((1, 0), (2, 3), (4, 1)) -/
def zpC270 : zC := (44, (20, 499), ([(0, 3, 0, 0)], ([[(0, 0)], [(0, 40)], [((-2147483648), 2147483647)]], [], [(3, 0, 8, 0, 0), (1, 0, 0, 0, 0), (1, 0, 3, 0, 0), (1, 2, 0, 0, 0), (1, 0, 1, 0, 0), (0, 0, 0, 0, 0), (0, 0, 0, 0, 0)], [], [(0, 8, 1, (1, 0, 1, 0, 0))], [])), [([(1, 0, 0, 0), (2, 0, 8, 1)], ([[(0, 0)], [(0, 40)], [((-2147483648), 2147483647)], [((-2147483648), 2147483647)], [(5, 18)]], [], [], [(1, 3, 0, 0, 0)], [(0, 8, 1, (1, 4, 0, 0, 0))], []))], [(8, 8, 1, 1), (39, 39, 0, 0)])
def zpA270 : zAnn := []

/-- PushedIn$Acts.above ((1, 5), (2, 3), (4, 1)) -/
def zpC271 : zC := (39, (21, 525), ([(0, 3, 0, 0)], ([[(0, 0)], [(0, 40)], [((-2147483648), 2147483647)]], [], [(3, 0, 8, 0, 0), (1, 0, 5, 0, 0), (1, 0, 3, 0, 0), (1, 2, 0, 0, 0), (1, 0, 1, 0, 0)], [], [(0, 8, 1, (1, 0, 1, 0, 0))], [])), [([(1, 0, 0, 0), (2, 0, 8, 1)], ([[(0, 0)], [(0, 40)], [((-2147483648), 2147483647)], [((-2147483648), 2147483647)], [(5, 18)]], [], [], [(1, 3, 0, 0, 0)], [(0, 8, 1, (1, 4, 0, 0, 0))], []))], [(8, 8, 1, 1), (39, 39, 0, 0)])
def zpA271 : zAnn := []

/-- PushedIn$Acts.runFrom ((1, 3), (2, 0), (4, 1)) -/
def zpC272 : zC := (44, (5, 136), ([(0, 3, 0, 0), (2, 0, 8, 1)], ([[(0, 0)], [(0, 40)], [((-2147483648), 2147483647)], [(1, 2)]], [], [(3, 0, 8, 0, 0), (1, 0, 3, 0, 0), (1, 0, 0, 0, 0), (1, 2, 0, 0, 0), (1, 0, 1, 0, 0), (0, 0, 0, 0, 0), (0, 0, 0, 0, 0)], [], [(0, 8, 1, (1, 3, 0, 0, 0))], [])), [([(1, 0, 0, 0)], ([[(0, 0)], [(0, 40)], [((-2147483648), 2147483647)], [(1, 2)], [((-2147483648), 2147483647)]], [], [], [(1, 4, 0, 0, 0)], [(0, 8, 1, (1, 3, 2, 0, 0))], []))], [(8, 8, 1, 1), (39, 39, 0, 0)])
def zpA272 : zAnn := []

/-- PushedIn$Acts.above ((1, 6), (2, 0), (4, 1)) -/
def zpC273 : zC := (39, (6, 162), ([(0, 3, 0, 0)], ([[(0, 0)], [(0, 40)], [((-2147483648), 2147483647)]], [], [(3, 0, 8, 0, 0), (1, 0, 6, 0, 0), (1, 0, 0, 0, 0), (1, 2, 0, 0, 0), (1, 0, 1, 0, 0)], [], [(0, 8, 1, (1, 0, 1, 0, 0))], [])), [([(1, 0, 0, 0)], ([[(0, 0)], [(0, 40)], [((-2147483648), 2147483647)], [((-2147483648), 2147483647)]], [], [], [(1, 3, 0, 0, 0)], [(0, 8, 1, (1, 0, 3, 0, 0))], []))], [(8, 8, 1, 1), (39, 39, 0, 0)])
def zpA273 : zAnn := []

/-- PushedIn$Acts.above ((1, 3), (2, 1), (4, 2)) -/
def zpC274 : zC := (39, (12, 307), ([(0, 3, 0, 0)], ([[(0, 0)], [(0, 40)], [((-2147483648), 2147483647)]], [], [(3, 0, 8, 0, 0), (1, 0, 3, 0, 0), (1, 0, 1, 0, 0), (1, 2, 0, 0, 0), (1, 0, 2, 0, 0)], [], [(0, 8, 1, (1, 0, 2, 0, 0))], [])), [([(1, 0, 0, 0), (2, 0, 8, 1)], ([[(0, 0)], [(0, 40)], [((-2147483648), 2147483647)], [((-2147483648), 2147483647)], [(4, 6)]], [], [], [(1, 3, 0, 0, 0)], [(0, 8, 1, (1, 4, 0, 0, 0))], []))], [(8, 8, 1, 1), (39, 39, 0, 0)])
def zpA274 : zAnn := []

/-- PushedIn$Acts.runBody ((1, 40), (3, 2)) -/
def zpC275 : zC := (43, (13, 331), ([(0, 2, 0, 0)], ([[(0, 0)], [(0, 40)], [((-2147483648), 2147483647)]], [], [(3, 0, 8, 0, 0), (1, 0, 40, 0, 0), (1, 2, 0, 0, 0), (1, 0, 2, 0, 0)], [], [(0, 8, 1, (1, 0, 2, 0, 0))], [])), [([(1, 0, 0, 0), (2, 0, 8, 1)], ([[(0, 0)], [(0, 40)], [((-2147483648), 2147483647)], [((-2147483648), 2147483647)], [(4, 6)]], [], [], [(1, 3, 0, 0, 0)], [(0, 8, 1, (1, 4, 0, 0, 0))], []))], [(8, 8, 1, 1), (39, 39, 0, 0)])
def zpA275 : zAnn := []

/-- PushedIn$Acts.runFrom ((1, 3), (2, 1), (4, 1)) -/
def zpC276 : zC := (44, (14, 354), ([(0, 3, 0, 0)], ([[(0, 0)], [(0, 40)], [((-2147483648), 2147483647)]], [], [(3, 0, 8, 0, 0), (1, 0, 3, 0, 0), (1, 0, 1, 0, 0), (1, 2, 0, 0, 0), (1, 0, 1, 0, 0), (0, 0, 0, 0, 0), (0, 0, 0, 0, 0)], [], [(0, 8, 1, (1, 0, 1, 0, 0))], [])), [([(1, 0, 0, 0), (2, 0, 8, 1)], ([[(0, 0)], [(0, 40)], [((-2147483648), 2147483647)], [((-2147483648), 2147483647)], [(4, 6)]], [], [], [(1, 3, 0, 0, 0)], [(0, 8, 1, (1, 4, 0, 0, 0))], []))], [(8, 8, 1, 1), (39, 39, 0, 0)])
def zpA276 : zAnn := []

/-- PushedIn$Acts.above ((1, 6), (2, 1), (4, 1)) -/
def zpC277 : zC := (39, (15, 380), ([(0, 3, 0, 0)], ([[(0, 0)], [(0, 40)], [((-2147483648), 2147483647)]], [], [(3, 0, 8, 0, 0), (1, 0, 6, 0, 0), (1, 0, 1, 0, 0), (1, 2, 0, 0, 0), (1, 0, 1, 0, 0)], [], [(0, 8, 1, (1, 0, 1, 0, 0))], [])), [([(1, 0, 0, 0), (2, 0, 8, 1)], ([[(0, 0)], [(0, 40)], [((-2147483648), 2147483647)], [((-2147483648), 2147483647)], [(4, 6)]], [], [], [(1, 3, 0, 0, 0)], [(0, 8, 1, (1, 4, 0, 0, 0))], []))], [(8, 8, 1, 1), (39, 39, 0, 0)])
def zpA277 : zAnn := []

/-- PushedIn$Acts.above ((1, 7), (2, 2), (4, 1)) -/
def zpC278 : zC := (39, (3, 89), ([(0, 3, 0, 0)], ([[(0, 0)], [(0, 40)], [((-2147483648), 2147483647)]], [], [(3, 0, 8, 0, 0), (1, 0, 7, 0, 0), (1, 0, 2, 0, 0), (1, 2, 0, 0, 0), (1, 0, 1, 0, 0)], [], [(0, 8, 1, (1, 0, 1, 0, 0))], [])), [([(1, 0, 0, 0)], ([[(0, 0)], [(0, 40)], [((-2147483648), 2147483647)], [((-2147483648), 2147483647)]], [], [], [(1, 3, 0, 0, 0)], [(0, 8, 1, (1, 0, 2, 0, 0))], []))], [(8, 8, 1, 1), (39, 39, 0, 0)])
def zpA278 : zAnn := []

/-- PushedIn$Acts.runFrom ((1, 2), (2, 0), (4, 1)) -/
def zpC279 : zC := (44, (2, 63), ([(0, 3, 0, 0), (2, 0, 8, 1)], ([[(0, 0)], [(0, 40)], [((-2147483648), 2147483647)], [(1, 2)]], [], [(3, 0, 8, 0, 0), (1, 0, 2, 0, 0), (1, 0, 0, 0, 0), (1, 2, 0, 0, 0), (1, 0, 1, 0, 0), (0, 0, 0, 0, 0), (0, 0, 0, 0, 0)], [], [(0, 8, 1, (1, 3, 0, 0, 0))], [])), [([(1, 0, 0, 0)], ([[(0, 0)], [(0, 40)], [((-2147483648), 2147483647)], [(1, 2)], [((-2147483648), 2147483647)]], [], [], [(1, 4, 0, 0, 0)], [(0, 8, 1, (1, 3, 1, 0, 0))], []))], [(8, 8, 1, 1), (39, 39, 0, 0)])
def zpA279 : zAnn := []

/-- PushedIn$Acts.above ((1, 4), (2, 0), (4, 2)) -/
def zpC280 : zC := (39, (6, 162), ([(0, 3, 0, 0), (2, 0, 8, 1)], ([[(0, 0)], [(0, 40)], [((-2147483648), 2147483647)], [(2, 3)]], [], [(3, 0, 8, 0, 0), (1, 0, 4, 0, 0), (1, 0, 0, 0, 0), (1, 2, 0, 0, 0), (1, 0, 2, 0, 0)], [], [(0, 8, 1, (1, 3, 0, 0, 0))], [])), [([(1, 0, 0, 0)], ([[(0, 0)], [(0, 40)], [((-2147483648), 2147483647)], [(2, 3)], [((-2147483648), 2147483647)]], [], [], [(1, 4, 0, 0, 0)], [(0, 8, 1, (1, 3, 2, 0, 0))], []))], [(8, 8, 1, 1), (39, 39, 0, 0)])
def zpA280 : zAnn := []

/-- PushedIn$Acts.runBody ((1, 50), (3, 2)) -/
def zpC281 : zC := (43, (7, 186), ([(0, 2, 0, 0), (2, 0, 8, 1)], ([[(0, 0)], [(0, 40)], [((-2147483648), 2147483647)], [(2, 3)]], [], [(3, 0, 8, 0, 0), (1, 0, 50, 0, 0), (1, 2, 0, 0, 0), (1, 0, 2, 0, 0)], [], [(0, 8, 1, (1, 3, 0, 0, 0))], [])), [([(1, 0, 0, 0)], ([[(0, 0)], [(0, 40)], [((-2147483648), 2147483647)], [(2, 3)], [((-2147483648), 2147483647)]], [], [], [(1, 4, 0, 0, 0)], [(0, 8, 1, (1, 3, 2, 0, 0))], []))], [(8, 8, 1, 1), (39, 39, 0, 0)])
def zpA281 : zAnn := []

/-- PushedIn$Acts.runFrom ((1, 4), (2, 0), (4, 1)) -/
def zpC282 : zC := (44, (8, 209), ([(0, 3, 0, 0), (2, 0, 8, 1)], ([[(0, 0)], [(0, 40)], [((-2147483648), 2147483647)], [(1, 2)]], [], [(3, 0, 8, 0, 0), (1, 0, 4, 0, 0), (1, 0, 0, 0, 0), (1, 2, 0, 0, 0), (1, 0, 1, 0, 0), (0, 0, 0, 0, 0), (0, 0, 0, 0, 0)], [], [(0, 8, 1, (1, 3, 0, 0, 0))], [])), [([(1, 0, 0, 0)], ([[(0, 0)], [(0, 40)], [((-2147483648), 2147483647)], [(1, 2)], [((-2147483648), 2147483647)]], [], [], [(1, 4, 0, 0, 0)], [(0, 8, 1, (1, 3, 3, 0, 0))], []))], [(8, 8, 1, 1), (39, 39, 0, 0)])
def zpA282 : zAnn := []

/-- PushedIn$Acts.runFrom ((1, 5), (2, 0), (4, 1)) -/
def zpC283 : zC := (44, (2, 63), ([(0, 3, 0, 0), (2, 0, 8, 1)], ([[(0, 0)], [(0, 40)], [((-2147483648), 2147483647)], [(1, 2)]], [], [(3, 0, 8, 0, 0), (1, 0, 5, 0, 0), (1, 0, 0, 0, 0), (1, 2, 0, 0, 0), (1, 0, 1, 0, 0), (0, 0, 0, 0, 0), (0, 0, 0, 0, 0)], [], [(0, 8, 1, (1, 3, 0, 0, 0))], [])), [([(1, 0, 0, 0)], ([[(0, 0)], [(0, 40)], [((-2147483648), 2147483647)], [(1, 2)], [((-2147483648), 2147483647)]], [], [], [(1, 4, 0, 0, 0)], [(0, 8, 1, (1, 3, 1, 0, 0))], []))], [(8, 8, 1, 1), (39, 39, 0, 0)])
def zpA283 : zAnn := []

/-- PushedIn$Acts.above ((1, 6), (2, 0), (4, 2)) -/
def zpC284 : zC := (39, (6, 162), ([(0, 3, 0, 0), (2, 0, 8, 1)], ([[(0, 0)], [(0, 40)], [((-2147483648), 2147483647)], [(2, 3)]], [], [(3, 0, 8, 0, 0), (1, 0, 6, 0, 0), (1, 0, 0, 0, 0), (1, 2, 0, 0, 0), (1, 0, 2, 0, 0)], [], [(0, 8, 1, (1, 3, 0, 0, 0))], [])), [([(1, 0, 0, 0)], ([[(0, 0)], [(0, 40)], [((-2147483648), 2147483647)], [(2, 3)], [((-2147483648), 2147483647)]], [], [], [(1, 4, 0, 0, 0)], [(0, 8, 1, (1, 3, 2, 0, 0))], []))], [(8, 8, 1, 1), (39, 39, 0, 0)])
def zpA284 : zAnn := []

/-- PushedIn$Acts.runBody ((1, 71), (3, 2)) -/
def zpC285 : zC := (43, (7, 186), ([(0, 2, 0, 0), (2, 0, 8, 1)], ([[(0, 0)], [(0, 40)], [((-2147483648), 2147483647)], [(2, 3)]], [], [(3, 0, 8, 0, 0), (1, 0, 71, 0, 0), (1, 2, 0, 0, 0), (1, 0, 2, 0, 0)], [], [(0, 8, 1, (1, 3, 0, 0, 0))], [])), [([(1, 0, 0, 0)], ([[(0, 0)], [(0, 40)], [((-2147483648), 2147483647)], [(2, 3)], [((-2147483648), 2147483647)]], [], [], [(1, 4, 0, 0, 0)], [(0, 8, 1, (1, 3, 2, 0, 0))], []))], [(8, 8, 1, 1), (39, 39, 0, 0)])
def zpA285 : zAnn := []

/-- PushedIn$Acts.runFrom ((1, 6), (2, 0), (4, 1)) -/
def zpC286 : zC := (44, (8, 209), ([(0, 3, 0, 0), (2, 0, 8, 1)], ([[(0, 0)], [(0, 40)], [((-2147483648), 2147483647)], [(1, 2)]], [], [(3, 0, 8, 0, 0), (1, 0, 6, 0, 0), (1, 0, 0, 0, 0), (1, 2, 0, 0, 0), (1, 0, 1, 0, 0), (0, 0, 0, 0, 0), (0, 0, 0, 0, 0)], [], [(0, 8, 1, (1, 3, 0, 0, 0))], [])), [([(1, 0, 0, 0)], ([[(0, 0)], [(0, 40)], [((-2147483648), 2147483647)], [(1, 2)], [((-2147483648), 2147483647)]], [], [], [(1, 4, 0, 0, 0)], [(0, 8, 1, (1, 3, 3, 0, 0))], []))], [(8, 8, 1, 1), (39, 39, 0, 0)])
def zpA286 : zAnn := []

/-- PushedIn$Acts.runFrom ((1, 7), (2, 0), (4, 1)) -/
def zpC287 : zC := (44, (2, 63), ([(0, 3, 0, 0), (2, 0, 8, 1)], ([[(0, 0)], [(0, 40)], [((-2147483648), 2147483647)], [(1, 2)]], [], [(3, 0, 8, 0, 0), (1, 0, 7, 0, 0), (1, 0, 0, 0, 0), (1, 2, 0, 0, 0), (1, 0, 1, 0, 0), (0, 0, 0, 0, 0), (0, 0, 0, 0, 0)], [], [(0, 8, 1, (1, 3, 0, 0, 0))], [])), [([(1, 0, 0, 0)], ([[(0, 0)], [(0, 40)], [((-2147483648), 2147483647)], [(1, 2)], [((-2147483648), 2147483647)]], [], [], [(1, 4, 0, 0, 0)], [(0, 8, 1, (1, 3, 1, 0, 0))], []))], [(8, 8, 1, 1), (39, 39, 0, 0)])
def zpA287 : zAnn := []

/-- PushedIn$Acts.own ((1, 0), (3, 1)) -/
def zpC288 : zC := (41, (9, 235), ([(0, 2, 0, 0), (2, 0, 8, 1)], ([[(0, 0)], [(0, 40)], [((-2147483648), 2147483647)], [(1, 2)]], [], [(3, 0, 8, 0, 0), (1, 0, 0, 0, 0), (1, 2, 0, 0, 0), (1, 0, 1, 0, 0)], [], [(0, 8, 1, (1, 3, 0, 0, 0))], [])), [([(1, 0, 0, 0), (2, 0, 8, 1)], ([[(0, 0)], [(0, 40)], [((-2147483648), 2147483647)], [(1, 2)], [((-2147483648), 2147483647)], [(2, 5)]], [(5, 3, 3), (3, 5, (-1))], [], [(1, 4, 0, 0, 0)], [(0, 8, 1, (1, 5, 0, 0, 0))], []))], [(8, 8, 1, 1), (39, 39, 0, 0)])
def zpA288 : zAnn := []

/-- PushedIn$Acts.runFrom ((1, 0), (2, 1), (4, 1)) -/
def zpC289 : zC := (44, (11, 281), ([(0, 3, 0, 0)], ([[(0, 0)], [(0, 40)], [((-2147483648), 2147483647)]], [], [(3, 0, 8, 0, 0), (1, 0, 0, 0, 0), (1, 0, 1, 0, 0), (1, 2, 0, 0, 0), (1, 0, 1, 0, 0), (0, 0, 0, 0, 0), (0, 0, 0, 0, 0)], [], [(0, 8, 1, (1, 0, 1, 0, 0))], [])), [([(1, 0, 0, 0), (2, 0, 8, 1)], ([[(0, 0)], [(0, 40)], [((-2147483648), 2147483647)], [((-2147483648), 2147483647)], [(3, 5)]], [], [], [(1, 3, 0, 0, 0)], [(0, 8, 1, (1, 4, 0, 0, 0))], []))], [(8, 8, 1, 1), (39, 39, 0, 0)])
def zpA289 : zAnn := []

/-- PushedIn$Acts.runFrom ((1, 2), (2, 1), (4, 1)) -/
def zpC290 : zC := (44, (11, 281), ([(0, 3, 0, 0)], ([[(0, 0)], [(0, 40)], [((-2147483648), 2147483647)]], [], [(3, 0, 8, 0, 0), (1, 0, 2, 0, 0), (1, 0, 1, 0, 0), (1, 2, 0, 0, 0), (1, 0, 1, 0, 0), (0, 0, 0, 0, 0), (0, 0, 0, 0, 0)], [], [(0, 8, 1, (1, 0, 1, 0, 0))], [])), [([(1, 0, 0, 0), (2, 0, 8, 1)], ([[(0, 0)], [(0, 40)], [((-2147483648), 2147483647)], [((-2147483648), 2147483647)], [(3, 5)]], [], [], [(1, 3, 0, 0, 0)], [(0, 8, 1, (1, 4, 0, 0, 0))], []))], [(8, 8, 1, 1), (39, 39, 0, 0)])
def zpA290 : zAnn := []

/-- PushedIn$Acts.runFrom ((1, 4), (2, 1), (4, 1)) -/
def zpC291 : zC := (44, (11, 281), ([(0, 3, 0, 0)], ([[(0, 0)], [(0, 40)], [((-2147483648), 2147483647)]], [], [(3, 0, 8, 0, 0), (1, 0, 4, 0, 0), (1, 0, 1, 0, 0), (1, 2, 0, 0, 0), (1, 0, 1, 0, 0), (0, 0, 0, 0, 0), (0, 0, 0, 0, 0)], [], [(0, 8, 1, (1, 0, 1, 0, 0))], [])), [([(1, 0, 0, 0), (2, 0, 8, 1)], ([[(0, 0)], [(0, 40)], [((-2147483648), 2147483647)], [((-2147483648), 2147483647)], [(3, 5)]], [], [], [(1, 3, 0, 0, 0)], [(0, 8, 1, (1, 4, 0, 0, 0))], []))], [(8, 8, 1, 1), (39, 39, 0, 0)])
def zpA291 : zAnn := []

/-- PushedIn$Acts.runFrom ((1, 5), (2, 1), (4, 1)) -/
def zpC292 : zC := (44, (11, 281), ([(0, 3, 0, 0)], ([[(0, 0)], [(0, 40)], [((-2147483648), 2147483647)]], [], [(3, 0, 8, 0, 0), (1, 0, 5, 0, 0), (1, 0, 1, 0, 0), (1, 2, 0, 0, 0), (1, 0, 1, 0, 0), (0, 0, 0, 0, 0), (0, 0, 0, 0, 0)], [], [(0, 8, 1, (1, 0, 1, 0, 0))], [])), [([(1, 0, 0, 0), (2, 0, 8, 1)], ([[(0, 0)], [(0, 40)], [((-2147483648), 2147483647)], [((-2147483648), 2147483647)], [(3, 5)]], [], [], [(1, 3, 0, 0, 0)], [(0, 8, 1, (1, 4, 0, 0, 0))], []))], [(8, 8, 1, 1), (39, 39, 0, 0)])
def zpA292 : zAnn := []

/-- PushedIn$Acts.above ((1, 6), (2, 1), (4, 2)) -/
def zpC293 : zC := (39, (15, 380), ([(0, 3, 0, 0)], ([[(0, 0)], [(0, 40)], [((-2147483648), 2147483647)]], [], [(3, 0, 8, 0, 0), (1, 0, 6, 0, 0), (1, 0, 1, 0, 0), (1, 2, 0, 0, 0), (1, 0, 2, 0, 0)], [], [(0, 8, 1, (1, 0, 2, 0, 0))], [])), [([(1, 0, 0, 0), (2, 0, 8, 1)], ([[(0, 0)], [(0, 40)], [((-2147483648), 2147483647)], [((-2147483648), 2147483647)], [(5, 7)]], [], [], [(1, 3, 0, 0, 0)], [(0, 8, 1, (1, 4, 0, 0, 0))], []))], [(8, 8, 1, 1), (39, 39, 0, 0)])
def zpA293 : zAnn := []

/-- PushedIn$Acts.runBody ((1, 70), (3, 2)) -/
def zpC294 : zC := (43, (16, 404), ([(0, 2, 0, 0)], ([[(0, 0)], [(0, 40)], [((-2147483648), 2147483647)]], [], [(3, 0, 8, 0, 0), (1, 0, 70, 0, 0), (1, 2, 0, 0, 0), (1, 0, 2, 0, 0)], [], [(0, 8, 1, (1, 0, 2, 0, 0))], [])), [([(1, 0, 0, 0), (2, 0, 8, 1)], ([[(0, 0)], [(0, 40)], [((-2147483648), 2147483647)], [((-2147483648), 2147483647)], [(6, 12)]], [], [], [(1, 3, 0, 0, 0)], [(0, 8, 1, (1, 4, 0, 0, 0))], []))], [(8, 8, 1, 1), (39, 39, 0, 0)])
def zpA294 : zAnn := []

/-- PushedIn$Acts.runFrom ((1, 6), (2, 1), (4, 1)) -/
def zpC295 : zC := (44, (17, 427), ([(0, 3, 0, 0)], ([[(0, 0)], [(0, 40)], [((-2147483648), 2147483647)]], [], [(3, 0, 8, 0, 0), (1, 0, 6, 0, 0), (1, 0, 1, 0, 0), (1, 2, 0, 0, 0), (1, 0, 1, 0, 0), (0, 0, 0, 0, 0), (0, 0, 0, 0, 0)], [], [(0, 8, 1, (1, 0, 1, 0, 0))], [])), [([(1, 0, 0, 0), (2, 0, 8, 1)], ([[(0, 0)], [(0, 40)], [((-2147483648), 2147483647)], [((-2147483648), 2147483647)], [(6, 12)]], [], [], [(1, 3, 0, 0, 0)], [(0, 8, 1, (1, 4, 0, 0, 0))], []))], [(8, 8, 1, 1), (39, 39, 0, 0)])
def zpA295 : zAnn := []

/-- PushedIn$Acts.runFrom ((1, 7), (2, 1), (4, 1)) -/
def zpC296 : zC := (44, (11, 281), ([(0, 3, 0, 0)], ([[(0, 0)], [(0, 40)], [((-2147483648), 2147483647)]], [], [(3, 0, 8, 0, 0), (1, 0, 7, 0, 0), (1, 0, 1, 0, 0), (1, 2, 0, 0, 0), (1, 0, 1, 0, 0), (0, 0, 0, 0, 0), (0, 0, 0, 0, 0)], [], [(0, 8, 1, (1, 0, 1, 0, 0))], [])), [([(1, 0, 0, 0), (2, 0, 8, 1)], ([[(0, 0)], [(0, 40)], [((-2147483648), 2147483647)], [((-2147483648), 2147483647)], [(3, 5)]], [], [], [(1, 3, 0, 0, 0)], [(0, 8, 1, (1, 4, 0, 0, 0))], []))], [(8, 8, 1, 1), (39, 39, 0, 0)])
def zpA296 : zAnn := []

/-- PushedIn$Acts.own ((1, 1), (3, 1)) -/
def zpC297 : zC := (41, (18, 453), ([(0, 2, 0, 0)], ([[(0, 0)], [(0, 40)], [((-2147483648), 2147483647)]], [], [(3, 0, 8, 0, 0), (1, 0, 1, 0, 0), (1, 2, 0, 0, 0), (1, 0, 1, 0, 0)], [], [(0, 8, 1, (1, 0, 1, 0, 0))], [])), [([(1, 0, 0, 0), (2, 0, 8, 1)], ([[(0, 0)], [(0, 40)], [((-2147483648), 2147483647)], [((-2147483648), 2147483647)], [(3, 12)]], [], [], [(1, 3, 0, 0, 0)], [(0, 8, 1, (1, 4, 0, 0, 0))], []))], [(8, 8, 1, 1), (39, 39, 0, 0)])
def zpA297 : zAnn := []

/-- PushedIn$Acts.runFrom ((1, 1), (2, 2), (4, 1)) -/
def zpC298 : zC := (44, (2, 63), ([(0, 3, 0, 0), (2, 0, 8, 1)], ([[(0, 0)], [(0, 40)], [(1, 2)], [(3, 12)]], [], [(3, 0, 8, 0, 0), (1, 0, 1, 0, 0), (1, 0, 2, 0, 0), (1, 2, 0, 0, 0), (1, 0, 1, 0, 0), (0, 0, 0, 0, 0), (0, 0, 0, 0, 0)], [], [(0, 8, 1, (1, 3, 0, 0, 0))], [])), [([(1, 0, 0, 0)], ([[(0, 0)], [(0, 40)], [(1, 2)], [(3, 12)], [((-2147483648), 2147483647)]], [], [], [(1, 4, 0, 0, 0)], [(0, 8, 1, (1, 3, 1, 0, 0))], []))], [(8, 8, 1, 1), (39, 39, 0, 0)])
def zpA298 : zAnn := []

/-- PushedIn$Acts.above ((1, 2), (2, 2), (4, 2)) -/
def zpC299 : zC := (39, (3, 89), ([(0, 3, 0, 0), (2, 0, 8, 1)], ([[(0, 0)], [(0, 40)], [(1, 2)], [(4, 13)]], [], [(3, 0, 8, 0, 0), (1, 0, 2, 0, 0), (1, 0, 2, 0, 0), (1, 2, 0, 0, 0), (1, 0, 2, 0, 0)], [], [(0, 8, 1, (1, 3, 0, 0, 0))], [])), [([(1, 0, 0, 0)], ([[(0, 0)], [(0, 40)], [(1, 2)], [(4, 13)], [((-2147483648), 2147483647)]], [], [], [(1, 4, 0, 0, 0)], [(0, 8, 1, (1, 3, 1, 0, 0))], []))], [(8, 8, 1, 1), (39, 39, 0, 0)])
def zpA299 : zAnn := []

/-- PushedIn$Acts.runBody ((1, 30), (3, 2)) -/
def zpC300 : zC := (43, (4, 113), ([(0, 2, 0, 0), (2, 0, 8, 1)], ([[(0, 0)], [(0, 40)], [(1, 2)], [(4, 13)]], [], [(3, 0, 8, 0, 0), (1, 0, 30, 0, 0), (1, 2, 0, 0, 0), (1, 0, 2, 0, 0)], [], [(0, 8, 1, (1, 3, 0, 0, 0))], [])), [([(1, 0, 0, 0)], ([[(0, 0)], [(0, 40)], [(1, 2)], [(4, 13)], [((-2147483648), 2147483647)]], [], [], [(1, 4, 0, 0, 0)], [(0, 8, 1, (1, 3, 1, 0, 0))], []))], [(8, 8, 1, 1), (39, 39, 0, 0)])
def zpA300 : zAnn := []

/-- PushedIn$Acts.runFrom ((1, 2), (2, 2), (4, 1)) -/
def zpC301 : zC := (44, (5, 136), ([(0, 3, 0, 0), (2, 0, 8, 1)], ([[(0, 0)], [(0, 40)], [(1, 2)], [(3, 12)]], [], [(3, 0, 8, 0, 0), (1, 0, 2, 0, 0), (1, 0, 2, 0, 0), (1, 2, 0, 0, 0), (1, 0, 1, 0, 0), (0, 0, 0, 0, 0), (0, 0, 0, 0, 0)], [], [(0, 8, 1, (1, 3, 0, 0, 0))], [])), [([(1, 0, 0, 0)], ([[(0, 0)], [(0, 40)], [(1, 2)], [(3, 12)], [((-2147483648), 2147483647)]], [], [], [(1, 4, 0, 0, 0)], [(0, 8, 1, (1, 3, 2, 0, 0))], []))], [(8, 8, 1, 1), (39, 39, 0, 0)])
def zpA301 : zAnn := []

/-- PushedIn$Acts.runFrom ((1, 3), (2, 2), (4, 1)) -/
def zpC302 : zC := (44, (2, 63), ([(0, 3, 0, 0), (2, 0, 8, 1)], ([[(0, 0)], [(0, 40)], [(1, 2)], [(3, 12)]], [], [(3, 0, 8, 0, 0), (1, 0, 3, 0, 0), (1, 0, 2, 0, 0), (1, 2, 0, 0, 0), (1, 0, 1, 0, 0), (0, 0, 0, 0, 0), (0, 0, 0, 0, 0)], [], [(0, 8, 1, (1, 3, 0, 0, 0))], [])), [([(1, 0, 0, 0)], ([[(0, 0)], [(0, 40)], [(1, 2)], [(3, 12)], [((-2147483648), 2147483647)]], [], [], [(1, 4, 0, 0, 0)], [(0, 8, 1, (1, 3, 1, 0, 0))], []))], [(8, 8, 1, 1), (39, 39, 0, 0)])
def zpA302 : zAnn := []

/-- PushedIn$Acts.runFrom ((1, 4), (2, 2), (4, 1)) -/
def zpC303 : zC := (44, (2, 63), ([(0, 3, 0, 0), (2, 0, 8, 1)], ([[(0, 0)], [(0, 40)], [(1, 2)], [(3, 12)]], [], [(3, 0, 8, 0, 0), (1, 0, 4, 0, 0), (1, 0, 2, 0, 0), (1, 2, 0, 0, 0), (1, 0, 1, 0, 0), (0, 0, 0, 0, 0), (0, 0, 0, 0, 0)], [], [(0, 8, 1, (1, 3, 0, 0, 0))], [])), [([(1, 0, 0, 0)], ([[(0, 0)], [(0, 40)], [(1, 2)], [(3, 12)], [((-2147483648), 2147483647)]], [], [], [(1, 4, 0, 0, 0)], [(0, 8, 1, (1, 3, 1, 0, 0))], []))], [(8, 8, 1, 1), (39, 39, 0, 0)])
def zpA303 : zAnn := []

/-- PushedIn$Acts.runFrom ((1, 5), (2, 2), (4, 1)) -/
def zpC304 : zC := (44, (2, 63), ([(0, 3, 0, 0), (2, 0, 8, 1)], ([[(0, 0)], [(0, 40)], [(1, 2)], [(3, 12)]], [], [(3, 0, 8, 0, 0), (1, 0, 5, 0, 0), (1, 0, 2, 0, 0), (1, 2, 0, 0, 0), (1, 0, 1, 0, 0), (0, 0, 0, 0, 0), (0, 0, 0, 0, 0)], [], [(0, 8, 1, (1, 3, 0, 0, 0))], [])), [([(1, 0, 0, 0)], ([[(0, 0)], [(0, 40)], [(1, 2)], [(3, 12)], [((-2147483648), 2147483647)]], [], [], [(1, 4, 0, 0, 0)], [(0, 8, 1, (1, 3, 1, 0, 0))], []))], [(8, 8, 1, 1), (39, 39, 0, 0)])
def zpA304 : zAnn := []

/-- PushedIn$Acts.runFrom ((1, 6), (2, 2), (4, 1)) -/
def zpC305 : zC := (44, (2, 63), ([(0, 3, 0, 0), (2, 0, 8, 1)], ([[(0, 0)], [(0, 40)], [(1, 2)], [(3, 12)]], [], [(3, 0, 8, 0, 0), (1, 0, 6, 0, 0), (1, 0, 2, 0, 0), (1, 2, 0, 0, 0), (1, 0, 1, 0, 0), (0, 0, 0, 0, 0), (0, 0, 0, 0, 0)], [], [(0, 8, 1, (1, 3, 0, 0, 0))], [])), [([(1, 0, 0, 0)], ([[(0, 0)], [(0, 40)], [(1, 2)], [(3, 12)], [((-2147483648), 2147483647)]], [], [], [(1, 4, 0, 0, 0)], [(0, 8, 1, (1, 3, 1, 0, 0))], []))], [(8, 8, 1, 1), (39, 39, 0, 0)])
def zpA305 : zAnn := []

/-- PushedIn$Acts.above ((1, 7), (2, 2), (4, 2)) -/
def zpC306 : zC := (39, (3, 89), ([(0, 3, 0, 0), (2, 0, 8, 1)], ([[(0, 0)], [(0, 40)], [(1, 2)], [(4, 13)]], [], [(3, 0, 8, 0, 0), (1, 0, 7, 0, 0), (1, 0, 2, 0, 0), (1, 2, 0, 0, 0), (1, 0, 2, 0, 0)], [], [(0, 8, 1, (1, 3, 0, 0, 0))], [])), [([(1, 0, 0, 0)], ([[(0, 0)], [(0, 40)], [(1, 2)], [(4, 13)], [((-2147483648), 2147483647)]], [], [], [(1, 4, 0, 0, 0)], [(0, 8, 1, (1, 3, 1, 0, 0))], []))], [(8, 8, 1, 1), (39, 39, 0, 0)])
def zpA306 : zAnn := []

/-- PushedIn$Acts.runBody ((1, 80), (3, 2)) -/
def zpC307 : zC := (43, (10, 258), ([(0, 2, 0, 0), (2, 0, 8, 1)], ([[(0, 0)], [(0, 40)], [(1, 2)], [(4, 13)]], [], [(3, 0, 8, 0, 0), (1, 0, 80, 0, 0), (1, 2, 0, 0, 0), (1, 0, 2, 0, 0)], [], [(0, 8, 1, (1, 3, 0, 0, 0))], [])), [([(1, 0, 0, 0), (2, 0, 8, 1)], ([[(0, 0)], [(0, 40)], [(1, 2)], [(4, 13)], [((-2147483648), 2147483647)], [(6, 17)]], [(5, 3, 4), (3, 5, (-2))], [], [(1, 4, 0, 0, 0)], [(0, 8, 1, (1, 5, 0, 0, 0))], []))], [(8, 8, 1, 1), (39, 39, 0, 0)])
def zpA307 : zAnn := []

/-- PushedIn$Acts.runFrom ((1, 7), (2, 2), (4, 1)) -/
def zpC308 : zC := (44, (11, 281), ([(0, 3, 0, 0), (2, 0, 8, 1)], ([[(0, 0)], [(0, 40)], [(1, 2)], [(3, 12)]], [], [(3, 0, 8, 0, 0), (1, 0, 7, 0, 0), (1, 0, 2, 0, 0), (1, 2, 0, 0, 0), (1, 0, 1, 0, 0), (0, 0, 0, 0, 0), (0, 0, 0, 0, 0)], [], [(0, 8, 1, (1, 3, 0, 0, 0))], [])), [([(1, 0, 0, 0), (2, 0, 8, 1)], ([[(0, 0)], [(0, 40)], [(1, 2)], [(3, 12)], [((-2147483648), 2147483647)], [(6, 17)]], [(5, 3, 5), (3, 5, (-3))], [], [(1, 4, 0, 0, 0)], [(0, 8, 1, (1, 5, 0, 0, 0))], []))], [(8, 8, 1, 1), (39, 39, 0, 0)])
def zpA308 : zAnn := []

/-- PushedIn$Acts.own ((1, 2), (3, 1)) -/
def zpC309 : zC := (41, (12, 307), ([(0, 2, 0, 0), (2, 0, 8, 1)], ([[(0, 0)], [(0, 40)], [(1, 2)], [(3, 12)]], [], [(3, 0, 8, 0, 0), (1, 0, 2, 0, 0), (1, 2, 0, 0, 0), (1, 0, 1, 0, 0)], [], [(0, 8, 1, (1, 3, 0, 0, 0))], [])), [([(1, 0, 0, 0), (2, 0, 8, 1)], ([[(0, 0)], [(0, 40)], [(1, 2)], [(3, 12)], [((-2147483648), 2147483647)], [(4, 17)]], [(5, 3, 5), (3, 5, (-1))], [], [(1, 4, 0, 0, 0)], [(0, 8, 1, (1, 5, 0, 0, 0))], []))], [(8, 8, 1, 1), (39, 39, 0, 0)])
def zpA309 : zAnn := []

/-- PushedIn$Acts.runBody ((3, 1),) -/
def zpC310 : zC := (43, (22, 549), ([(0, 1, 0, 0), (0, 2, 0, 0)], ([[(0, 0)], [(0, 40)], [(0, 50), (60, 60), (70, 80)], [((-2147483648), 2147483647)]], [], [(3, 0, 8, 0, 0), (1, 2, 0, 0, 0), (1, 3, 0, 0, 0), (1, 0, 1, 0, 0)], [], [(0, 8, 1, (1, 0, 1, 0, 0))], [])), [([(1, 0, 0, 0), (2, 0, 8, 1)], ([[(0, 0)], [(0, 40)], [(1, 50), (60, 60), (70, 80)], [((-2147483648), 2147483647)], [((-2147483648), 2147483647)], [(1, 18)]], [], [], [(1, 4, 0, 0, 0)], [(0, 8, 1, (1, 5, 0, 0, 0))], [])), ([], ([[(0, 0)], [(0, 40)], [(0, 9), (12, 49), (72, 79)], [((-2147483648), 2147483647)]], [], [], [(1, 0, 0, 0, 0)], [(0, 8, 1, (1, 0, 1, 0, 0))], []))], [(8, 8, 1, 1), (39, 39, 0, 0)])
def zpA310 : zAnn := []

/-- PushedIn$Acts.runFrom ((1, 0), (4, 0)) -/
def zpC311 : zC := (44, (23, 572), ([(0, 2, 0, 0), (0, 3, 0, 0)], ([[(0, 0)], [(0, 40)], [(0, 3)], [((-2147483648), 2147483647)]], [], [(3, 0, 8, 0, 0), (1, 0, 0, 0, 0), (1, 2, 0, 0, 0), (1, 3, 0, 0, 0), (1, 0, 0, 0, 0), (0, 0, 0, 0, 0), (0, 0, 0, 0, 0)], [], [(0, 8, 1, (1, 0, 0, 0, 0))], [])), [([(1, 0, 0, 0), (2, 0, 8, 1)], ([[(0, 0)], [(0, 40)], [(0, 3)], [((-2147483648), 2147483647)], [((-2147483648), 2147483647)], [(1, 18)]], [], [], [(1, 4, 0, 0, 0)], [(0, 8, 1, (1, 5, 0, 0, 0))], [])), ([(2, 0, 8, 1)], ([[(0, 0)], [(0, 40)], [(0, 3)], [((-2147483648), 2147483647)], [(0, 1)]], [], [], [(1, 0, 0, 0, 0)], [(0, 8, 1, (1, 4, 0, 0, 0))], []))], [(8, 8, 1, 1), (39, 39, 0, 0)])
def zpA311 : zAnn := []

/-- PushedIn$Acts.runFrom ((1, 1), (4, 0)) -/
def zpC312 : zC := (44, (23, 572), ([(0, 2, 0, 0), (0, 3, 0, 0)], ([[(0, 0)], [(0, 40)], [(0, 3)], [((-2147483648), 2147483647)]], [], [(3, 0, 8, 0, 0), (1, 0, 1, 0, 0), (1, 2, 0, 0, 0), (1, 3, 0, 0, 0), (1, 0, 0, 0, 0), (0, 0, 0, 0, 0), (0, 0, 0, 0, 0)], [], [(0, 8, 1, (1, 0, 0, 0, 0))], [])), [([(1, 0, 0, 0), (2, 0, 8, 1)], ([[(0, 0)], [(0, 40)], [(0, 3)], [((-2147483648), 2147483647)], [((-2147483648), 2147483647)], [(1, 18)]], [], [], [(1, 4, 0, 0, 0)], [(0, 8, 1, (1, 5, 0, 0, 0))], [])), ([(2, 0, 8, 1)], ([[(0, 0)], [(0, 40)], [(0, 3)], [((-2147483648), 2147483647)], [(0, 1)]], [], [], [(1, 0, 0, 0, 0)], [(0, 8, 1, (1, 4, 0, 0, 0))], []))], [(8, 8, 1, 1), (39, 39, 0, 0)])
def zpA312 : zAnn := []

/-- PushedIn$Acts.runFrom ((1, 2), (4, 0)) -/
def zpC313 : zC := (44, (23, 572), ([(0, 2, 0, 0), (0, 3, 0, 0)], ([[(0, 0)], [(0, 40)], [(0, 3)], [((-2147483648), 2147483647)]], [], [(3, 0, 8, 0, 0), (1, 0, 2, 0, 0), (1, 2, 0, 0, 0), (1, 3, 0, 0, 0), (1, 0, 0, 0, 0), (0, 0, 0, 0, 0), (0, 0, 0, 0, 0)], [], [(0, 8, 1, (1, 0, 0, 0, 0))], [])), [([(1, 0, 0, 0), (2, 0, 8, 1)], ([[(0, 0)], [(0, 40)], [(0, 3)], [((-2147483648), 2147483647)], [((-2147483648), 2147483647)], [(1, 18)]], [], [], [(1, 4, 0, 0, 0)], [(0, 8, 1, (1, 5, 0, 0, 0))], [])), ([(2, 0, 8, 1)], ([[(0, 0)], [(0, 40)], [(0, 3)], [((-2147483648), 2147483647)], [(0, 1)]], [], [], [(1, 0, 0, 0, 0)], [(0, 8, 1, (1, 4, 0, 0, 0))], []))], [(8, 8, 1, 1), (39, 39, 0, 0)])
def zpA313 : zAnn := []

/-- PushedIn$Acts.runFrom ((1, 3), (4, 0)) -/
def zpC314 : zC := (44, (23, 572), ([(0, 2, 0, 0), (0, 3, 0, 0)], ([[(0, 0)], [(0, 40)], [(0, 3)], [((-2147483648), 2147483647)]], [], [(3, 0, 8, 0, 0), (1, 0, 3, 0, 0), (1, 2, 0, 0, 0), (1, 3, 0, 0, 0), (1, 0, 0, 0, 0), (0, 0, 0, 0, 0), (0, 0, 0, 0, 0)], [], [(0, 8, 1, (1, 0, 0, 0, 0))], [])), [([(1, 0, 0, 0), (2, 0, 8, 1)], ([[(0, 0)], [(0, 40)], [(0, 3)], [((-2147483648), 2147483647)], [((-2147483648), 2147483647)], [(1, 18)]], [], [], [(1, 4, 0, 0, 0)], [(0, 8, 1, (1, 5, 0, 0, 0))], [])), ([(2, 0, 8, 1)], ([[(0, 0)], [(0, 40)], [(0, 3)], [((-2147483648), 2147483647)], [(0, 1)]], [], [], [(1, 0, 0, 0, 0)], [(0, 8, 1, (1, 4, 0, 0, 0))], []))], [(8, 8, 1, 1), (39, 39, 0, 0)])
def zpA314 : zAnn := []

/-- PushedIn$Acts.runFrom ((1, 4), (4, 0)) -/
def zpC315 : zC := (44, (23, 572), ([(0, 2, 0, 0), (0, 3, 0, 0)], ([[(0, 0)], [(0, 40)], [(0, 3)], [((-2147483648), 2147483647)]], [], [(3, 0, 8, 0, 0), (1, 0, 4, 0, 0), (1, 2, 0, 0, 0), (1, 3, 0, 0, 0), (1, 0, 0, 0, 0), (0, 0, 0, 0, 0), (0, 0, 0, 0, 0)], [], [(0, 8, 1, (1, 0, 0, 0, 0))], [])), [([(1, 0, 0, 0), (2, 0, 8, 1)], ([[(0, 0)], [(0, 40)], [(0, 3)], [((-2147483648), 2147483647)], [((-2147483648), 2147483647)], [(1, 18)]], [], [], [(1, 4, 0, 0, 0)], [(0, 8, 1, (1, 5, 0, 0, 0))], [])), ([(2, 0, 8, 1)], ([[(0, 0)], [(0, 40)], [(0, 3)], [((-2147483648), 2147483647)], [(0, 1)]], [], [], [(1, 0, 0, 0, 0)], [(0, 8, 1, (1, 4, 0, 0, 0))], []))], [(8, 8, 1, 1), (39, 39, 0, 0)])
def zpA315 : zAnn := []

/-- PushedIn$Acts.runFrom ((1, 5), (4, 0)) -/
def zpC316 : zC := (44, (23, 572), ([(0, 2, 0, 0), (0, 3, 0, 0)], ([[(0, 0)], [(0, 40)], [(0, 3)], [((-2147483648), 2147483647)]], [], [(3, 0, 8, 0, 0), (1, 0, 5, 0, 0), (1, 2, 0, 0, 0), (1, 3, 0, 0, 0), (1, 0, 0, 0, 0), (0, 0, 0, 0, 0), (0, 0, 0, 0, 0)], [], [(0, 8, 1, (1, 0, 0, 0, 0))], [])), [([(1, 0, 0, 0), (2, 0, 8, 1)], ([[(0, 0)], [(0, 40)], [(0, 3)], [((-2147483648), 2147483647)], [((-2147483648), 2147483647)], [(1, 18)]], [], [], [(1, 4, 0, 0, 0)], [(0, 8, 1, (1, 5, 0, 0, 0))], [])), ([(2, 0, 8, 1)], ([[(0, 0)], [(0, 40)], [(0, 3)], [((-2147483648), 2147483647)], [(0, 1)]], [], [], [(1, 0, 0, 0, 0)], [(0, 8, 1, (1, 4, 0, 0, 0))], []))], [(8, 8, 1, 1), (39, 39, 0, 0)])
def zpA316 : zAnn := []

/-- PushedIn$Acts.runFrom ((1, 6), (4, 0)) -/
def zpC317 : zC := (44, (23, 572), ([(0, 2, 0, 0), (0, 3, 0, 0)], ([[(0, 0)], [(0, 40)], [(0, 3)], [((-2147483648), 2147483647)]], [], [(3, 0, 8, 0, 0), (1, 0, 6, 0, 0), (1, 2, 0, 0, 0), (1, 3, 0, 0, 0), (1, 0, 0, 0, 0), (0, 0, 0, 0, 0), (0, 0, 0, 0, 0)], [], [(0, 8, 1, (1, 0, 0, 0, 0))], [])), [([(1, 0, 0, 0), (2, 0, 8, 1)], ([[(0, 0)], [(0, 40)], [(0, 3)], [((-2147483648), 2147483647)], [((-2147483648), 2147483647)], [(1, 18)]], [], [], [(1, 4, 0, 0, 0)], [(0, 8, 1, (1, 5, 0, 0, 0))], [])), ([(2, 0, 8, 1)], ([[(0, 0)], [(0, 40)], [(0, 3)], [((-2147483648), 2147483647)], [(0, 1)]], [], [], [(1, 0, 0, 0, 0)], [(0, 8, 1, (1, 4, 0, 0, 0))], []))], [(8, 8, 1, 1), (39, 39, 0, 0)])
def zpA317 : zAnn := []

/-- PushedIn$Acts.runFrom ((1, 7), (4, 0)) -/
def zpC318 : zC := (44, (23, 572), ([(0, 2, 0, 0), (0, 3, 0, 0)], ([[(0, 0)], [(0, 40)], [(0, 3)], [((-2147483648), 2147483647)]], [], [(3, 0, 8, 0, 0), (1, 0, 7, 0, 0), (1, 2, 0, 0, 0), (1, 3, 0, 0, 0), (1, 0, 0, 0, 0), (0, 0, 0, 0, 0), (0, 0, 0, 0, 0)], [], [(0, 8, 1, (1, 0, 0, 0, 0))], [])), [([(1, 0, 0, 0), (2, 0, 8, 1)], ([[(0, 0)], [(0, 40)], [(0, 3)], [((-2147483648), 2147483647)], [((-2147483648), 2147483647)], [(1, 18)]], [], [], [(1, 4, 0, 0, 0)], [(0, 8, 1, (1, 5, 0, 0, 0))], [])), ([(2, 0, 8, 1)], ([[(0, 0)], [(0, 40)], [(0, 3)], [((-2147483648), 2147483647)], [(0, 1)]], [], [], [(1, 0, 0, 0, 0)], [(0, 8, 1, (1, 4, 0, 0, 0))], []))], [(8, 8, 1, 1), (39, 39, 0, 0)])
def zpA318 : zAnn := []

/-- PushedIn$Acts.own ((3, 0),) -/
def zpC319 : zC := (41, (24, 598), ([(0, 1, 0, 0), (0, 2, 0, 0)], ([[(0, 0)], [(0, 40)], [(0, 3)], [((-2147483648), 2147483647)]], [], [(3, 0, 8, 0, 0), (1, 2, 0, 0, 0), (1, 3, 0, 0, 0), (1, 0, 0, 0, 0)], [], [(0, 8, 1, (1, 0, 0, 0, 0))], [])), [([(1, 0, 0, 0), (2, 0, 8, 1)], ([[(0, 0)], [(0, 40)], [(0, 3)], [((-2147483648), 2147483647)], [((-2147483648), 2147483647)], [(1, 18)]], [], [], [(1, 4, 0, 0, 0)], [(0, 8, 1, (1, 5, 0, 0, 0))], [])), ([(2, 0, 8, 1)], ([[(0, 0)], [(0, 40)], [(0, 3)], [((-2147483648), 2147483647)], [(0, 1)]], [], [], [(1, 0, 0, 0, 0)], [(0, 8, 1, (1, 4, 0, 0, 0))], []))], [(8, 8, 1, 1), (39, 39, 0, 0)])
def zpA319 : zAnn := []

/-- PushedIn$Acts.perform () -/
def zpC320 : zC := (42, (25, 621), ([(0, 1, 0, 0), (0, 2, 0, 0), (0, 3, 0, 0), (0, 4, 0, 0)], ([[(0, 0)], [(0, 40)], [(0, 19)], [(0, 7)], [(0, 3)], [((-2147483648), 2147483647)]], [], [(3, 0, 8, 0, 0), (1, 2, 0, 0, 0), (1, 3, 0, 0, 0), (1, 4, 0, 0, 0), (1, 5, 0, 0, 0)], [], [(0, 8, 1, (1, 0, 0, 0, 0))], [])), [([(1, 0, 0, 0), (2, 0, 8, 1)], ([[(0, 0)], [(0, 40)], [(0, 19)], [(0, 7)], [(0, 3)], [((-2147483648), 2147483647)], [((-2147483648), 2147483647)], [(1, 18)]], [], [], [(1, 6, 0, 0, 0)], [(0, 8, 1, (1, 7, 0, 0, 0))], [])), ([(2, 0, 8, 1)], ([[(0, 0)], [(0, 40)], [(0, 19)], [(0, 7)], [(0, 3)], [((-2147483648), 2147483647)], [(0, 1)]], [], [], [(1, 0, 0, 0, 0)], [(0, 8, 1, (1, 6, 0, 0, 0))], []))], [(8, 8, 1, 1), (8, 8, 1, 2), (8, 8, 1, 3), (39, 39, 0, 0)])
def zpA320 : zAnn := []

/-- PushedIn.act () -/
def zpC321 : zC := (0, (26, 645), ([(0, 1, 0, 0), (0, 2, 0, 0), (0, 3, 0, 0)], ([[(0, 0)], [(0, 40)], [((-2147483648), 2147483647)], [((-2147483648), 2147483647)], [((-2147483648), 2147483647)]], [], [(3, 0, 0, 0, 0), (1, 2, 0, 0, 0), (1, 3, 0, 0, 0), (1, 4, 0, 0, 0)], [], [], [])), [([(1, 0, 0, 0)], ([[(0, 0)], [(0, 40)], [(0, 19)], [(0, 3)], [((-2147483648), 2147483647)], [((-2147483648), 2147483647)]], [], [], [(1, 5, 0, 0, 0)], [], [])), ([], ([[(0, 0)], [(0, 40)], [((-2147483648), 2147483647)], [((-2147483648), 2147483647)], [((-2147483648), 2147483647)]], [], [], [(1, 0, 0, 0, 0)], [], []))], [(8, 8, 1, 1), (8, 8, 1, 2), (8, 8, 1, 3), (39, 39, 0, 0)])
def zpA321 : zAnn := []

/-- PushedIn.within ((1, 24),) -/
def zpC322 : zC := (37, (1, 40), ([(0, 0, 0, 0)], ([[(0, 0)], [(0, 40)], [((-2147483648), 2147483647)]], [], [(1, 2, 0, 0, 0), (1, 0, 24, 0, 0)], [], [], [])), [([], ([[(0, 0)], [(0, 40)], [((-2147483648), (-1)), (24, 2147483647)]], [], [], [(1, 0, 0, 0, 0)], [], [])), ([], ([[(0, 0)], [(0, 40)], [(0, 23)]], [], [], [(1, 0, 1, 0, 0)], [], []))], [])
def zpA322 : zAnn := []

/-- PushedIn.trace () -/
def zpC323 : zC := (34, (2, 61), ([(0, 1, 0, 0)], ([[(0, 0)], [(0, 40)], [((-2147483648), 2147483647)]], [], [(3, 0, 0, 0, 0), (1, 2, 0, 0, 0)], [], [], [])), [([(1, 0, 0, 0)], ([[(0, 0)], [(0, 40)], [(0, 23)], [((-2147483648), 2147483647)]], [], [], [(1, 3, 0, 0, 0)], [], [])), ([], ([[(0, 0)], [(0, 40)], [((-2147483648), 2147483647)]], [], [], [(1, 0, (-1), 0, 0)], [], []))], [])
def zpA323 : zAnn := []

/-- PushedIn$Places.clear () -/
def zpC324 : zC := (63, (1, 40), ([(0, 1, 0, 0)], ([[(0, 0)], [(0, 40)], [(0, 5)]], [], [(3, 0, 9, 0, 0), (1, 2, 0, 0, 0)], [], [], [])), [([], ([[(0, 0)], [(0, 40)], [(0, 5)]], [], [], [], [], []))], [(40, 40, 0, 0)])
def zpA324 : zAnn := []

/-- PushedIn$Places.holdRule () -/
def zpC325 : zC := (66, (1, 40), ([(0, 1, 0, 0), (0, 2, 0, 0)], ([[(0, 0)], [(0, 40)], [(0, 5)], [(0, 19)]], [], [(3, 0, 9, 0, 0), (1, 2, 0, 0, 0), (1, 3, 0, 0, 0)], [], [], [])), [([], ([[(0, 0)], [(0, 40)], [(0, 5)], [(0, 19)]], [], [], [], [], []))], [(40, 40, 0, 0), (41, 41, 0, 0)])
def zpA325 : zAnn := []

/-- PushedIn.keep () -/
def zpC326 : zC := (16, (3, 82), ([(0, 1, 0, 0), (0, 2, 0, 0)], ([[(0, 0)], [(0, 40)], [((-2147483648), 2147483647)], [((-2147483648), 2147483647)]], [], [(3, 0, 0, 0, 0), (1, 2, 0, 0, 0), (1, 3, 0, 0, 0)], [], [], [])), [([], ([[(0, 0)], [(0, 40)], [((-2147483648), 2147483647)], [((-2147483648), 2147483647)]], [], [], [(1, 0, (-1), 0, 0)], [], [])), ([], ([[(0, 0)], [(0, 40)], [(0, 5)], [((-1), 19)]], [], [], [(1, 0, 1, 0, 0)], [], []))], [(40, 40, 0, 0), (41, 41, 0, 0)])
def zpA326 : zAnn := []

/-- PushedIn$Places.holdRow () -/
def zpC327 : zC := (65, (1, 40), ([(0, 1, 0, 0), (0, 2, 0, 0), (0, 3, 0, 0)], ([[(0, 0)], [(0, 40)], [(0, 5)], [(0, 4)], [(0, 60)]], [], [(3, 0, 9, 0, 0), (1, 2, 0, 0, 0), (1, 3, 0, 0, 0), (1, 4, 0, 0, 0), (0, 0, 0, 0, 0)], [], [], [])), [([], ([[(0, 0)], [(0, 40)], [(0, 5)], [(0, 4)], [(0, 60)]], [], [], [], [], []))], [(40, 40, 0, 0), (42, 42, 0, 0), (44, 49, 0, 0)])
def zpA327 : zAnn := [(17, ([(0, 4, 0, 0)], ([[(0, 0)], [(0, 40)], [(0, 5)], [(0, 4)], [(0, 60)], [(0, 60)]], [], [(3, 0, 9, 0, 0), (1, 2, 0, 0, 0), (1, 3, 0, 0, 0), (1, 4, 0, 0, 0), (1, 5, 0, 0, 0)], [], [], [])), [(2, 0, 0), (0, 5, 60), (2, 0, 0)])]

/-- PushedIn.within ((1, 5),) -/
def zpC328 : zC := (37, (1, 40), ([(0, 0, 0, 0)], ([[(0, 0)], [(0, 40)], [((-2147483648), 2147483647)]], [], [(1, 2, 0, 0, 0), (1, 0, 5, 0, 0)], [], [], [])), [([], ([[(0, 0)], [(0, 40)], [((-2147483648), (-1)), (5, 2147483647)]], [], [], [(1, 0, 0, 0, 0)], [], [])), ([], ([[(0, 0)], [(0, 40)], [(0, 4)]], [], [], [(1, 0, 1, 0, 0)], [], []))], [])
def zpA328 : zAnn := []

/-- PushedIn.row () -/
def zpC329 : zC := (26, (2, 64), ([(0, 1, 0, 0), (0, 2, 0, 0), (0, 3, 0, 0)], ([[(0, 0)], [(0, 40)], [((-2147483648), 2147483647)], [((-2147483648), 2147483647)], [((-2147483648), 2147483647)]], [], [(3, 0, 0, 0, 0), (1, 2, 0, 0, 0), (1, 3, 0, 0, 0), (1, 4, 0, 0, 0)], [], [], [])), [([], ([[(0, 0)], [(0, 40)], [((-2147483648), 2147483647)], [((-2147483648), 2147483647)], [((-2147483648), 2147483647)]], [], [], [(1, 0, (-1), 0, 0)], [], [])), ([], ([[(0, 0)], [(0, 40)], [(0, 5)], [(0, 4)], [((-2147483648), (-1))]], [], [], [(1, 0, (-14), 0, 0)], [], [])), ([], ([[(0, 0)], [(0, 40)], [(0, 5)], [(0, 4)], [(0, 60)]], [], [], [(1, 0, 1, 0, 0)], [], []))], [(40, 40, 0, 0), (42, 42, 0, 0), (44, 49, 0, 0)])
def zpA329 : zAnn := []

/-- PushedIn$Places.narrowed () -/
def zpC330 : zC := (68, (1, 40), ([(0, 1, 0, 0), (0, 2, 0, 0)], ([[(0, 0)], [(0, 40)], [(0, 5)], [((-9223372036854775808), 9223372036854775807)]], [], [(3, 0, 9, 0, 0), (1, 2, 0, 0, 0), (2, 3, 0, 0, 0), (0, 0, 0, 0, 0)], [], [], [])), [([(1, 0, 0, 0)], ([[(0, 0)], [(0, 40)], [(0, 5)], [((-9223372036854775808), 9223372036854775807)], [((-2147483648), 2147483647)]], [], [], [(2, 4, 0, 0, 0)], [], [])), ([], ([[(0, 0)], [(0, 40)], [(0, 5)], [(0, 0)]], [], [], [(2, 0, 0, 0, 0)], [], [])), ([], ([[(0, 0)], [(0, 40)], [(0, 5)], [((-9223372036854775808), (-1)), (1, 9223372036854775807)]], [], [], [(2, 0, 1, 0, 0)], [], [])), ([], ([[(0, 0)], [(0, 40)], [(0, 5)], [((-9223372036854775808), 9223372036854775807)]], [], [], [(2, 3, 0, 0, 0)], [], []))], [])
def zpA330 : zAnn := []

/-- PushedIn$Places.holdsNothing () -/
def zpC331 : zC := (67, (1, 40), ([(0, 1, 0, 0)], ([[(0, 0)], [(0, 40)], [(0, 5)]], [], [(3, 0, 9, 0, 0), (1, 2, 0, 0, 0)], [], [], [])), [([], ([[(0, 0)], [(0, 40)], [(0, 5)]], [], [], [(1, 0, 0, 0, 0)], [], [])), ([], ([[(0, 0)], [(0, 40)], [(0, 5)]], [], [], [(1, 0, 1, 0, 0)], [], []))], [])
def zpA331 : zAnn := []

/-- PushedIn$Places.refusesBoth () -/
def zpC332 : zC := (70, (2, 61), ([(0, 1, 0, 0), (0, 2, 0, 0)], ([[(0, 0)], [(0, 40)], [((-2147483648), 2147483647)], [((-2147483648), 2147483647)]], [], [(3, 0, 9, 0, 0), (1, 2, 0, 0, 0), (1, 3, 0, 0, 0)], [], [], [])), [([], ([[(0, 0)], [(0, 40)], [((-2147483648), 2147483647)], [((-2147483648), 2147483647)]], [], [], [(1, 0, (-1), 0, 0)], [], [])), ([], ([[(0, 0)], [(0, 40)], [(0, 5)], [(0, 5)]], [], [], [(1, 0, (-11), 0, 0)], [], [])), ([], ([[(0, 0)], [(0, 40)], [(0, 5)], [(0, 5)]], [], [], [(1, 0, (-12), 0, 0)], [], [])), ([], ([[(0, 0)], [(0, 40)], [(0, 5)], [(0, 5)]], [], [], [(1, 0, 0, 0, 0)], [], []))], [])
def zpA332 : zAnn := []

/-- PushedIn$Places.refuses () -/
def zpC333 : zC := (69, (3, 83), ([(0, 1, 0, 0), (0, 2, 0, 0)], ([[(0, 0)], [(0, 40)], [((-2147483648), 2147483647)], [((-2147483648), 2147483647)]], [], [(3, 0, 9, 0, 0), (1, 2, 0, 0, 0), (1, 3, 0, 0, 0), (0, 0, 0, 0, 0)], [], [], [])), [([], ([[(0, 0)], [(0, 40)], [((-2147483648), 2147483647)], [((-2147483648), 2147483647)]], [], [], [(1, 0, (-1), 0, 0)], [], [])), ([], ([[(0, 0)], [(0, 40)], [(0, 5)], [((-2147483648), 2147483647)]], [], [], [(1, 0, (-11), 0, 0)], [], [])), ([], ([[(0, 0)], [(0, 40)], [(0, 5)], [((-2147483648), 2147483647)]], [], [], [(1, 0, (-12), 0, 0)], [], [])), ([], ([[(0, 0)], [(0, 40)], [(0, 5)], [((-2147483648), 2147483647)]], [], [], [(1, 0, (-13), 0, 0)], [], [])), ([], ([[(0, 0)], [(0, 40)], [(0, 5)], [(0, 59)]], [], [], [(1, 0, 0, 0, 0)], [], []))], [])
def zpA333 : zAnn := []

/-- PushedIn.put () -/
def zpC334 : zC := (24, (4, 106), ([(0, 1, 0, 0), (0, 2, 0, 0), (0, 3, 0, 0)], ([[(0, 0)], [(0, 40)], [((-2147483648), 2147483647)], [((-2147483648), 2147483647)], [((-9223372036854775808), 9223372036854775807)]], [], [(3, 0, 0, 0, 0), (1, 2, 0, 0, 0), (1, 3, 0, 0, 0), (2, 4, 0, 0, 0), (0, 0, 0, 0, 0), (0, 0, 0, 0, 0)], [], [], [])), [([], ([[(0, 0)], [(0, 40)], [((-2147483648), 2147483647)], [((-2147483648), 2147483647)], [((-9223372036854775808), 9223372036854775807)]], [], [], [(1, 0, (-1), 0, 0)], [], [])), ([], ([[(0, 0)], [(0, 40)], [(0, 5)], [((-2147483648), 2147483647)], [((-9223372036854775808), 9223372036854775807)]], [], [], [(1, 0, (-11), 0, 0)], [], [])), ([], ([[(0, 0)], [(0, 40)], [(0, 5)], [((-2147483648), 2147483647)], [((-9223372036854775808), 9223372036854775807)]], [], [], [(1, 0, (-12), 0, 0)], [], [])), ([], ([[(0, 0)], [(0, 40)], [(0, 5)], [((-2147483648), 2147483647)], [((-9223372036854775808), 9223372036854775807)]], [], [], [(1, 0, (-13), 0, 0)], [], [])), ([], ([[(0, 0)], [(0, 40)], [(0, 5)], [(0, 59)], [((-9223372036854775808), 9223372036854775807)]], [], [], [(1, 0, 1, 0, 0)], [], []))], [(44, 49, 0, 0)])
def zpA334 : zAnn := []

/-- PushedIn.element () -/
def zpC335 : zC := (8, (4, 106), ([(0, 1, 0, 0), (0, 2, 0, 0)], ([[(0, 0)], [(0, 40)], [((-2147483648), 2147483647)], [((-2147483648), 2147483647)]], [], [(3, 0, 0, 0, 0), (1, 2, 0, 0, 0), (1, 3, 0, 0, 0)], [], [], [])), [([(1, 0, 0, 0)], ([[(0, 0)], [(0, 40)], [(0, 5)], [(0, 59)], [((-9223372036854775808), 9223372036854775807)]], [], [], [(2, 4, 0, 0, 0)], [], [])), ([], ([[(0, 0)], [(0, 40)], [((-2147483648), 2147483647)], [((-2147483648), 2147483647)]], [], [], [(2, 0, (-9223372036854775808), 0, 0)], [], []))], [])
def zpA335 : zAnn := []

/-- PushedIn$Places.hasRange ((3, (-2147483648, 2147483647)),) -/
def zpC336 : zC := (64, (1, 40), ([(0, 1, 0, 0), (0, 2, 0, 0), (0, 3, 0, 0)], ([[(0, 0)], [(0, 40)], [(0, 5)], [((-2147483648), 2147483647)], [((-2147483648), (-1)), (61, 2147483647)]], [], [(3, 0, 9, 0, 0), (1, 2, 0, 0, 0), (1, 3, 0, 0, 0), (1, 4, 0, 0, 0)], [], [], [])), [([], ([[(0, 0)], [(0, 40)], [(0, 5)], [((-2147483648), 2147483647)], [((-2147483648), (-1)), (61, 2147483647)]], [], [], [(1, 0, 0, 0, 0)], [], []))], [])
def zpA336 : zAnn := []

/-- PushedIn$Places.hasRange ((3, 0),) -/
def zpC337 : zC := (64, (1, 40), ([(0, 1, 0, 0), (0, 2, 0, 0)], ([[(0, 0)], [(0, 40)], [(0, 5)], [((-2147483648), 2147483647)]], [], [(3, 0, 9, 0, 0), (1, 2, 0, 0, 0), (1, 3, 0, 0, 0), (1, 0, 0, 0, 0)], [], [], [])), [([], ([[(0, 0)], [(0, 40)], [(0, 5)], [((-2147483648), (-1)), (1, 2147483647)]], [], [], [(1, 0, 0, 0, 0)], [], [])), ([], ([[(0, 0)], [(0, 40)], [(0, 5)], [(0, 60)]], [], [], [(1, 0, 1, 0, 0)], [], []))], [])
def zpA337 : zAnn := []

/-- PushedIn$Places.hasRange ((3, 1),) -/
def zpC338 : zC := (64, (1, 40), ([(0, 1, 0, 0), (0, 2, 0, 0)], ([[(0, 0)], [(0, 40)], [(0, 5)], [((-2147483648), 2147483647)]], [], [(3, 0, 9, 0, 0), (1, 2, 0, 0, 0), (1, 3, 0, 0, 0), (1, 0, 1, 0, 0)], [], [], [])), [([], ([[(0, 0)], [(0, 40)], [(0, 5)], [((-2147483648), 2147483647)]], [], [], [(1, 0, 0, 0, 0)], [], [])), ([], ([[(0, 0)], [(0, 40)], [(0, 5)], [(0, 59)]], [], [], [(1, 0, 1, 0, 0)], [], []))], [])
def zpA338 : zAnn := []

/-- PushedIn$Places.hasRange ((3, 10),) -/
def zpC339 : zC := (64, (1, 40), ([(0, 1, 0, 0), (0, 2, 0, 0)], ([[(0, 0)], [(0, 40)], [(0, 5)], [((-2147483648), 2147483647)]], [], [(3, 0, 9, 0, 0), (1, 2, 0, 0, 0), (1, 3, 0, 0, 0), (1, 0, 10, 0, 0)], [], [], [])), [([], ([[(0, 0)], [(0, 40)], [(0, 5)], [((-2147483648), 2147483647)]], [], [], [(1, 0, 0, 0, 0)], [], [])), ([], ([[(0, 0)], [(0, 40)], [(0, 5)], [(0, 50)]], [], [], [(1, 0, 1, 0, 0)], [], []))], [])
def zpA339 : zAnn := []

/-- PushedIn$Places.hasRange ((3, 11),) -/
def zpC340 : zC := (64, (1, 40), ([(0, 1, 0, 0), (0, 2, 0, 0)], ([[(0, 0)], [(0, 40)], [(0, 5)], [((-2147483648), 2147483647)]], [], [(3, 0, 9, 0, 0), (1, 2, 0, 0, 0), (1, 3, 0, 0, 0), (1, 0, 11, 0, 0)], [], [], [])), [([], ([[(0, 0)], [(0, 40)], [(0, 5)], [((-2147483648), 2147483647)]], [], [], [(1, 0, 0, 0, 0)], [], [])), ([], ([[(0, 0)], [(0, 40)], [(0, 5)], [(0, 49)]], [], [], [(1, 0, 1, 0, 0)], [], []))], [])
def zpA340 : zAnn := []

/-- PushedIn$Places.hasRange ((3, 12),) -/
def zpC341 : zC := (64, (1, 40), ([(0, 1, 0, 0), (0, 2, 0, 0)], ([[(0, 0)], [(0, 40)], [(0, 5)], [((-2147483648), 2147483647)]], [], [(3, 0, 9, 0, 0), (1, 2, 0, 0, 0), (1, 3, 0, 0, 0), (1, 0, 12, 0, 0)], [], [], [])), [([], ([[(0, 0)], [(0, 40)], [(0, 5)], [((-2147483648), 2147483647)]], [], [], [(1, 0, 0, 0, 0)], [], [])), ([], ([[(0, 0)], [(0, 40)], [(0, 5)], [(0, 48)]], [], [], [(1, 0, 1, 0, 0)], [], []))], [])
def zpA341 : zAnn := []

/-- PushedIn$Places.hasRange ((3, 13),) -/
def zpC342 : zC := (64, (1, 40), ([(0, 1, 0, 0), (0, 2, 0, 0)], ([[(0, 0)], [(0, 40)], [(0, 5)], [((-2147483648), 2147483647)]], [], [(3, 0, 9, 0, 0), (1, 2, 0, 0, 0), (1, 3, 0, 0, 0), (1, 0, 13, 0, 0)], [], [], [])), [([], ([[(0, 0)], [(0, 40)], [(0, 5)], [((-2147483648), 2147483647)]], [], [], [(1, 0, 0, 0, 0)], [], [])), ([], ([[(0, 0)], [(0, 40)], [(0, 5)], [(0, 47)]], [], [], [(1, 0, 1, 0, 0)], [], []))], [])
def zpA342 : zAnn := []

/-- PushedIn$Places.hasRange ((3, 14),) -/
def zpC343 : zC := (64, (1, 40), ([(0, 1, 0, 0), (0, 2, 0, 0)], ([[(0, 0)], [(0, 40)], [(0, 5)], [((-2147483648), 2147483647)]], [], [(3, 0, 9, 0, 0), (1, 2, 0, 0, 0), (1, 3, 0, 0, 0), (1, 0, 14, 0, 0)], [], [], [])), [([], ([[(0, 0)], [(0, 40)], [(0, 5)], [((-2147483648), 2147483647)]], [], [], [(1, 0, 0, 0, 0)], [], [])), ([], ([[(0, 0)], [(0, 40)], [(0, 5)], [(0, 46)]], [], [], [(1, 0, 1, 0, 0)], [], []))], [])
def zpA343 : zAnn := []

/-- PushedIn$Places.hasRange ((3, 15),) -/
def zpC344 : zC := (64, (1, 40), ([(0, 1, 0, 0), (0, 2, 0, 0)], ([[(0, 0)], [(0, 40)], [(0, 5)], [((-2147483648), 2147483647)]], [], [(3, 0, 9, 0, 0), (1, 2, 0, 0, 0), (1, 3, 0, 0, 0), (1, 0, 15, 0, 0)], [], [], [])), [([], ([[(0, 0)], [(0, 40)], [(0, 5)], [((-2147483648), 2147483647)]], [], [], [(1, 0, 0, 0, 0)], [], [])), ([], ([[(0, 0)], [(0, 40)], [(0, 5)], [(0, 45)]], [], [], [(1, 0, 1, 0, 0)], [], []))], [])
def zpA344 : zAnn := []

/-- PushedIn$Places.hasRange ((3, 16),) -/
def zpC345 : zC := (64, (1, 40), ([(0, 1, 0, 0), (0, 2, 0, 0)], ([[(0, 0)], [(0, 40)], [(0, 5)], [((-2147483648), 2147483647)]], [], [(3, 0, 9, 0, 0), (1, 2, 0, 0, 0), (1, 3, 0, 0, 0), (1, 0, 16, 0, 0)], [], [], [])), [([], ([[(0, 0)], [(0, 40)], [(0, 5)], [((-2147483648), 2147483647)]], [], [], [(1, 0, 0, 0, 0)], [], [])), ([], ([[(0, 0)], [(0, 40)], [(0, 5)], [(0, 44)]], [], [], [(1, 0, 1, 0, 0)], [], []))], [])
def zpA345 : zAnn := []

/-- PushedIn$Places.hasRange ((3, 17),) -/
def zpC346 : zC := (64, (1, 40), ([(0, 1, 0, 0), (0, 2, 0, 0)], ([[(0, 0)], [(0, 40)], [(0, 5)], [((-2147483648), 2147483647)]], [], [(3, 0, 9, 0, 0), (1, 2, 0, 0, 0), (1, 3, 0, 0, 0), (1, 0, 17, 0, 0)], [], [], [])), [([], ([[(0, 0)], [(0, 40)], [(0, 5)], [((-2147483648), 2147483647)]], [], [], [(1, 0, 0, 0, 0)], [], [])), ([], ([[(0, 0)], [(0, 40)], [(0, 5)], [(0, 43)]], [], [], [(1, 0, 1, 0, 0)], [], []))], [])
def zpA346 : zAnn := []

/-- PushedIn$Places.hasRange ((3, 18),) -/
def zpC347 : zC := (64, (1, 40), ([(0, 1, 0, 0), (0, 2, 0, 0)], ([[(0, 0)], [(0, 40)], [(0, 5)], [((-2147483648), 2147483647)]], [], [(3, 0, 9, 0, 0), (1, 2, 0, 0, 0), (1, 3, 0, 0, 0), (1, 0, 18, 0, 0)], [], [], [])), [([], ([[(0, 0)], [(0, 40)], [(0, 5)], [((-2147483648), 2147483647)]], [], [], [(1, 0, 0, 0, 0)], [], [])), ([], ([[(0, 0)], [(0, 40)], [(0, 5)], [(0, 42)]], [], [], [(1, 0, 1, 0, 0)], [], []))], [])
def zpA347 : zAnn := []

/-- PushedIn$Places.hasRange ((3, 19),) -/
def zpC348 : zC := (64, (1, 40), ([(0, 1, 0, 0), (0, 2, 0, 0)], ([[(0, 0)], [(0, 40)], [(0, 5)], [((-2147483648), 2147483647)]], [], [(3, 0, 9, 0, 0), (1, 2, 0, 0, 0), (1, 3, 0, 0, 0), (1, 0, 19, 0, 0)], [], [], [])), [([], ([[(0, 0)], [(0, 40)], [(0, 5)], [((-2147483648), 2147483647)]], [], [], [(1, 0, 0, 0, 0)], [], [])), ([], ([[(0, 0)], [(0, 40)], [(0, 5)], [(0, 41)]], [], [], [(1, 0, 1, 0, 0)], [], []))], [])
def zpA348 : zAnn := []

/-- PushedIn$Places.hasRange ((3, 2),) -/
def zpC349 : zC := (64, (1, 40), ([(0, 1, 0, 0), (0, 2, 0, 0)], ([[(0, 0)], [(0, 40)], [(0, 5)], [((-2147483648), 2147483647)]], [], [(3, 0, 9, 0, 0), (1, 2, 0, 0, 0), (1, 3, 0, 0, 0), (1, 0, 2, 0, 0)], [], [], [])), [([], ([[(0, 0)], [(0, 40)], [(0, 5)], [((-2147483648), 2147483647)]], [], [], [(1, 0, 0, 0, 0)], [], [])), ([], ([[(0, 0)], [(0, 40)], [(0, 5)], [(0, 58)]], [], [], [(1, 0, 1, 0, 0)], [], []))], [])
def zpA349 : zAnn := []

/-- PushedIn$Places.hasRange ((3, 20),) -/
def zpC350 : zC := (64, (1, 40), ([(0, 1, 0, 0), (0, 2, 0, 0)], ([[(0, 0)], [(0, 40)], [(0, 5)], [((-2147483648), 2147483647)]], [], [(3, 0, 9, 0, 0), (1, 2, 0, 0, 0), (1, 3, 0, 0, 0), (1, 0, 20, 0, 0)], [], [], [])), [([], ([[(0, 0)], [(0, 40)], [(0, 5)], [((-2147483648), 2147483647)]], [], [], [(1, 0, 0, 0, 0)], [], [])), ([], ([[(0, 0)], [(0, 40)], [(0, 5)], [(0, 40)]], [], [], [(1, 0, 1, 0, 0)], [], []))], [])
def zpA350 : zAnn := []

/-- PushedIn$Places.hasRange ((3, 21),) -/
def zpC351 : zC := (64, (1, 40), ([(0, 1, 0, 0), (0, 2, 0, 0)], ([[(0, 0)], [(0, 40)], [(0, 5)], [((-2147483648), 2147483647)]], [], [(3, 0, 9, 0, 0), (1, 2, 0, 0, 0), (1, 3, 0, 0, 0), (1, 0, 21, 0, 0)], [], [], [])), [([], ([[(0, 0)], [(0, 40)], [(0, 5)], [((-2147483648), 2147483647)]], [], [], [(1, 0, 0, 0, 0)], [], [])), ([], ([[(0, 0)], [(0, 40)], [(0, 5)], [(0, 39)]], [], [], [(1, 0, 1, 0, 0)], [], []))], [])
def zpA351 : zAnn := []

/-- PushedIn$Places.hasRange ((3, 22),) -/
def zpC352 : zC := (64, (1, 40), ([(0, 1, 0, 0), (0, 2, 0, 0)], ([[(0, 0)], [(0, 40)], [(0, 5)], [((-2147483648), 2147483647)]], [], [(3, 0, 9, 0, 0), (1, 2, 0, 0, 0), (1, 3, 0, 0, 0), (1, 0, 22, 0, 0)], [], [], [])), [([], ([[(0, 0)], [(0, 40)], [(0, 5)], [((-2147483648), 2147483647)]], [], [], [(1, 0, 0, 0, 0)], [], [])), ([], ([[(0, 0)], [(0, 40)], [(0, 5)], [(0, 38)]], [], [], [(1, 0, 1, 0, 0)], [], []))], [])
def zpA352 : zAnn := []

/-- PushedIn$Places.hasRange ((3, 23),) -/
def zpC353 : zC := (64, (1, 40), ([(0, 1, 0, 0), (0, 2, 0, 0)], ([[(0, 0)], [(0, 40)], [(0, 5)], [((-2147483648), 2147483647)]], [], [(3, 0, 9, 0, 0), (1, 2, 0, 0, 0), (1, 3, 0, 0, 0), (1, 0, 23, 0, 0)], [], [], [])), [([], ([[(0, 0)], [(0, 40)], [(0, 5)], [((-2147483648), 2147483647)]], [], [], [(1, 0, 0, 0, 0)], [], [])), ([], ([[(0, 0)], [(0, 40)], [(0, 5)], [(0, 37)]], [], [], [(1, 0, 1, 0, 0)], [], []))], [])
def zpA353 : zAnn := []

/-- PushedIn$Places.hasRange ((3, 24),) -/
def zpC354 : zC := (64, (1, 40), ([(0, 1, 0, 0), (0, 2, 0, 0)], ([[(0, 0)], [(0, 40)], [(0, 5)], [((-2147483648), 2147483647)]], [], [(3, 0, 9, 0, 0), (1, 2, 0, 0, 0), (1, 3, 0, 0, 0), (1, 0, 24, 0, 0)], [], [], [])), [([], ([[(0, 0)], [(0, 40)], [(0, 5)], [((-2147483648), 2147483647)]], [], [], [(1, 0, 0, 0, 0)], [], [])), ([], ([[(0, 0)], [(0, 40)], [(0, 5)], [(0, 36)]], [], [], [(1, 0, 1, 0, 0)], [], []))], [])
def zpA354 : zAnn := []

/-- PushedIn$Places.hasRange ((3, 25),) -/
def zpC355 : zC := (64, (1, 40), ([(0, 1, 0, 0), (0, 2, 0, 0)], ([[(0, 0)], [(0, 40)], [(0, 5)], [((-2147483648), 2147483647)]], [], [(3, 0, 9, 0, 0), (1, 2, 0, 0, 0), (1, 3, 0, 0, 0), (1, 0, 25, 0, 0)], [], [], [])), [([], ([[(0, 0)], [(0, 40)], [(0, 5)], [((-2147483648), 2147483647)]], [], [], [(1, 0, 0, 0, 0)], [], [])), ([], ([[(0, 0)], [(0, 40)], [(0, 5)], [(0, 35)]], [], [], [(1, 0, 1, 0, 0)], [], []))], [])
def zpA355 : zAnn := []

/-- PushedIn$Places.hasRange ((3, 26),) -/
def zpC356 : zC := (64, (1, 40), ([(0, 1, 0, 0), (0, 2, 0, 0)], ([[(0, 0)], [(0, 40)], [(0, 5)], [((-2147483648), 2147483647)]], [], [(3, 0, 9, 0, 0), (1, 2, 0, 0, 0), (1, 3, 0, 0, 0), (1, 0, 26, 0, 0)], [], [], [])), [([], ([[(0, 0)], [(0, 40)], [(0, 5)], [((-2147483648), 2147483647)]], [], [], [(1, 0, 0, 0, 0)], [], [])), ([], ([[(0, 0)], [(0, 40)], [(0, 5)], [(0, 34)]], [], [], [(1, 0, 1, 0, 0)], [], []))], [])
def zpA356 : zAnn := []

/-- PushedIn$Places.hasRange ((3, 27),) -/
def zpC357 : zC := (64, (1, 40), ([(0, 1, 0, 0), (0, 2, 0, 0)], ([[(0, 0)], [(0, 40)], [(0, 5)], [((-2147483648), 2147483647)]], [], [(3, 0, 9, 0, 0), (1, 2, 0, 0, 0), (1, 3, 0, 0, 0), (1, 0, 27, 0, 0)], [], [], [])), [([], ([[(0, 0)], [(0, 40)], [(0, 5)], [((-2147483648), 2147483647)]], [], [], [(1, 0, 0, 0, 0)], [], [])), ([], ([[(0, 0)], [(0, 40)], [(0, 5)], [(0, 33)]], [], [], [(1, 0, 1, 0, 0)], [], []))], [])
def zpA357 : zAnn := []

/-- PushedIn$Places.hasRange ((3, 28),) -/
def zpC358 : zC := (64, (1, 40), ([(0, 1, 0, 0), (0, 2, 0, 0)], ([[(0, 0)], [(0, 40)], [(0, 5)], [((-2147483648), 2147483647)]], [], [(3, 0, 9, 0, 0), (1, 2, 0, 0, 0), (1, 3, 0, 0, 0), (1, 0, 28, 0, 0)], [], [], [])), [([], ([[(0, 0)], [(0, 40)], [(0, 5)], [((-2147483648), 2147483647)]], [], [], [(1, 0, 0, 0, 0)], [], [])), ([], ([[(0, 0)], [(0, 40)], [(0, 5)], [(0, 32)]], [], [], [(1, 0, 1, 0, 0)], [], []))], [])
def zpA358 : zAnn := []

/-- PushedIn$Places.hasRange ((3, 29),) -/
def zpC359 : zC := (64, (1, 40), ([(0, 1, 0, 0), (0, 2, 0, 0)], ([[(0, 0)], [(0, 40)], [(0, 5)], [((-2147483648), 2147483647)]], [], [(3, 0, 9, 0, 0), (1, 2, 0, 0, 0), (1, 3, 0, 0, 0), (1, 0, 29, 0, 0)], [], [], [])), [([], ([[(0, 0)], [(0, 40)], [(0, 5)], [((-2147483648), 2147483647)]], [], [], [(1, 0, 0, 0, 0)], [], [])), ([], ([[(0, 0)], [(0, 40)], [(0, 5)], [(0, 31)]], [], [], [(1, 0, 1, 0, 0)], [], []))], [])
def zpA359 : zAnn := []

/-- PushedIn$Places.hasRange ((3, 3),) -/
def zpC360 : zC := (64, (1, 40), ([(0, 1, 0, 0), (0, 2, 0, 0)], ([[(0, 0)], [(0, 40)], [(0, 5)], [((-2147483648), 2147483647)]], [], [(3, 0, 9, 0, 0), (1, 2, 0, 0, 0), (1, 3, 0, 0, 0), (1, 0, 3, 0, 0)], [], [], [])), [([], ([[(0, 0)], [(0, 40)], [(0, 5)], [((-2147483648), 2147483647)]], [], [], [(1, 0, 0, 0, 0)], [], [])), ([], ([[(0, 0)], [(0, 40)], [(0, 5)], [(0, 57)]], [], [], [(1, 0, 1, 0, 0)], [], []))], [])
def zpA360 : zAnn := []

/-- PushedIn$Places.hasRange ((3, 30),) -/
def zpC361 : zC := (64, (1, 40), ([(0, 1, 0, 0), (0, 2, 0, 0)], ([[(0, 0)], [(0, 40)], [(0, 5)], [((-2147483648), 2147483647)]], [], [(3, 0, 9, 0, 0), (1, 2, 0, 0, 0), (1, 3, 0, 0, 0), (1, 0, 30, 0, 0)], [], [], [])), [([], ([[(0, 0)], [(0, 40)], [(0, 5)], [((-2147483648), 2147483647)]], [], [], [(1, 0, 0, 0, 0)], [], [])), ([], ([[(0, 0)], [(0, 40)], [(0, 5)], [(0, 30)]], [], [], [(1, 0, 1, 0, 0)], [], []))], [])
def zpA361 : zAnn := []

/-- PushedIn$Places.hasRange ((3, 31),) -/
def zpC362 : zC := (64, (1, 40), ([(0, 1, 0, 0), (0, 2, 0, 0)], ([[(0, 0)], [(0, 40)], [(0, 5)], [((-2147483648), 2147483647)]], [], [(3, 0, 9, 0, 0), (1, 2, 0, 0, 0), (1, 3, 0, 0, 0), (1, 0, 31, 0, 0)], [], [], [])), [([], ([[(0, 0)], [(0, 40)], [(0, 5)], [((-2147483648), 2147483647)]], [], [], [(1, 0, 0, 0, 0)], [], [])), ([], ([[(0, 0)], [(0, 40)], [(0, 5)], [(0, 29)]], [], [], [(1, 0, 1, 0, 0)], [], []))], [])
def zpA362 : zAnn := []

/-- PushedIn$Places.hasRange ((3, 32),) -/
def zpC363 : zC := (64, (1, 40), ([(0, 1, 0, 0), (0, 2, 0, 0)], ([[(0, 0)], [(0, 40)], [(0, 5)], [((-2147483648), 2147483647)]], [], [(3, 0, 9, 0, 0), (1, 2, 0, 0, 0), (1, 3, 0, 0, 0), (1, 0, 32, 0, 0)], [], [], [])), [([], ([[(0, 0)], [(0, 40)], [(0, 5)], [((-2147483648), 2147483647)]], [], [], [(1, 0, 0, 0, 0)], [], [])), ([], ([[(0, 0)], [(0, 40)], [(0, 5)], [(0, 28)]], [], [], [(1, 0, 1, 0, 0)], [], []))], [])
def zpA363 : zAnn := []

/-- PushedIn$Places.hasRange ((3, 33),) -/
def zpC364 : zC := (64, (1, 40), ([(0, 1, 0, 0), (0, 2, 0, 0)], ([[(0, 0)], [(0, 40)], [(0, 5)], [((-2147483648), 2147483647)]], [], [(3, 0, 9, 0, 0), (1, 2, 0, 0, 0), (1, 3, 0, 0, 0), (1, 0, 33, 0, 0)], [], [], [])), [([], ([[(0, 0)], [(0, 40)], [(0, 5)], [((-2147483648), 2147483647)]], [], [], [(1, 0, 0, 0, 0)], [], [])), ([], ([[(0, 0)], [(0, 40)], [(0, 5)], [(0, 27)]], [], [], [(1, 0, 1, 0, 0)], [], []))], [])
def zpA364 : zAnn := []

/-- PushedIn$Places.hasRange ((3, 34),) -/
def zpC365 : zC := (64, (1, 40), ([(0, 1, 0, 0), (0, 2, 0, 0)], ([[(0, 0)], [(0, 40)], [(0, 5)], [((-2147483648), 2147483647)]], [], [(3, 0, 9, 0, 0), (1, 2, 0, 0, 0), (1, 3, 0, 0, 0), (1, 0, 34, 0, 0)], [], [], [])), [([], ([[(0, 0)], [(0, 40)], [(0, 5)], [((-2147483648), 2147483647)]], [], [], [(1, 0, 0, 0, 0)], [], [])), ([], ([[(0, 0)], [(0, 40)], [(0, 5)], [(0, 26)]], [], [], [(1, 0, 1, 0, 0)], [], []))], [])
def zpA365 : zAnn := []

/-- PushedIn$Places.hasRange ((3, 35),) -/
def zpC366 : zC := (64, (1, 40), ([(0, 1, 0, 0), (0, 2, 0, 0)], ([[(0, 0)], [(0, 40)], [(0, 5)], [((-2147483648), 2147483647)]], [], [(3, 0, 9, 0, 0), (1, 2, 0, 0, 0), (1, 3, 0, 0, 0), (1, 0, 35, 0, 0)], [], [], [])), [([], ([[(0, 0)], [(0, 40)], [(0, 5)], [((-2147483648), 2147483647)]], [], [], [(1, 0, 0, 0, 0)], [], [])), ([], ([[(0, 0)], [(0, 40)], [(0, 5)], [(0, 25)]], [], [], [(1, 0, 1, 0, 0)], [], []))], [])
def zpA366 : zAnn := []

/-- PushedIn$Places.hasRange ((3, 36),) -/
def zpC367 : zC := (64, (1, 40), ([(0, 1, 0, 0), (0, 2, 0, 0)], ([[(0, 0)], [(0, 40)], [(0, 5)], [((-2147483648), 2147483647)]], [], [(3, 0, 9, 0, 0), (1, 2, 0, 0, 0), (1, 3, 0, 0, 0), (1, 0, 36, 0, 0)], [], [], [])), [([], ([[(0, 0)], [(0, 40)], [(0, 5)], [((-2147483648), 2147483647)]], [], [], [(1, 0, 0, 0, 0)], [], [])), ([], ([[(0, 0)], [(0, 40)], [(0, 5)], [(0, 24)]], [], [], [(1, 0, 1, 0, 0)], [], []))], [])
def zpA367 : zAnn := []

/-- PushedIn$Places.hasRange ((3, 37),) -/
def zpC368 : zC := (64, (1, 40), ([(0, 1, 0, 0), (0, 2, 0, 0)], ([[(0, 0)], [(0, 40)], [(0, 5)], [((-2147483648), 2147483647)]], [], [(3, 0, 9, 0, 0), (1, 2, 0, 0, 0), (1, 3, 0, 0, 0), (1, 0, 37, 0, 0)], [], [], [])), [([], ([[(0, 0)], [(0, 40)], [(0, 5)], [((-2147483648), 2147483647)]], [], [], [(1, 0, 0, 0, 0)], [], [])), ([], ([[(0, 0)], [(0, 40)], [(0, 5)], [(0, 23)]], [], [], [(1, 0, 1, 0, 0)], [], []))], [])
def zpA368 : zAnn := []

/-- PushedIn$Places.hasRange ((3, 38),) -/
def zpC369 : zC := (64, (1, 40), ([(0, 1, 0, 0), (0, 2, 0, 0)], ([[(0, 0)], [(0, 40)], [(0, 5)], [((-2147483648), 2147483647)]], [], [(3, 0, 9, 0, 0), (1, 2, 0, 0, 0), (1, 3, 0, 0, 0), (1, 0, 38, 0, 0)], [], [], [])), [([], ([[(0, 0)], [(0, 40)], [(0, 5)], [((-2147483648), 2147483647)]], [], [], [(1, 0, 0, 0, 0)], [], [])), ([], ([[(0, 0)], [(0, 40)], [(0, 5)], [(0, 22)]], [], [], [(1, 0, 1, 0, 0)], [], []))], [])
def zpA369 : zAnn := []

/-- PushedIn$Places.hasRange ((3, 39),) -/
def zpC370 : zC := (64, (1, 40), ([(0, 1, 0, 0), (0, 2, 0, 0)], ([[(0, 0)], [(0, 40)], [(0, 5)], [((-2147483648), 2147483647)]], [], [(3, 0, 9, 0, 0), (1, 2, 0, 0, 0), (1, 3, 0, 0, 0), (1, 0, 39, 0, 0)], [], [], [])), [([], ([[(0, 0)], [(0, 40)], [(0, 5)], [((-2147483648), 2147483647)]], [], [], [(1, 0, 0, 0, 0)], [], [])), ([], ([[(0, 0)], [(0, 40)], [(0, 5)], [(0, 21)]], [], [], [(1, 0, 1, 0, 0)], [], []))], [])
def zpA370 : zAnn := []

/-- PushedIn$Places.hasRange ((3, 4),) -/
def zpC371 : zC := (64, (1, 40), ([(0, 1, 0, 0), (0, 2, 0, 0)], ([[(0, 0)], [(0, 40)], [(0, 5)], [((-2147483648), 2147483647)]], [], [(3, 0, 9, 0, 0), (1, 2, 0, 0, 0), (1, 3, 0, 0, 0), (1, 0, 4, 0, 0)], [], [], [])), [([], ([[(0, 0)], [(0, 40)], [(0, 5)], [((-2147483648), 2147483647)]], [], [], [(1, 0, 0, 0, 0)], [], [])), ([], ([[(0, 0)], [(0, 40)], [(0, 5)], [(0, 56)]], [], [], [(1, 0, 1, 0, 0)], [], []))], [])
def zpA371 : zAnn := []

/-- PushedIn$Places.hasRange ((3, 40),) -/
def zpC372 : zC := (64, (1, 40), ([(0, 1, 0, 0), (0, 2, 0, 0)], ([[(0, 0)], [(0, 40)], [(0, 5)], [((-2147483648), 2147483647)]], [], [(3, 0, 9, 0, 0), (1, 2, 0, 0, 0), (1, 3, 0, 0, 0), (1, 0, 40, 0, 0)], [], [], [])), [([], ([[(0, 0)], [(0, 40)], [(0, 5)], [((-2147483648), 2147483647)]], [], [], [(1, 0, 0, 0, 0)], [], [])), ([], ([[(0, 0)], [(0, 40)], [(0, 5)], [(0, 20)]], [], [], [(1, 0, 1, 0, 0)], [], []))], [])
def zpA372 : zAnn := []

/-- PushedIn$Places.hasRange ((3, 41),) -/
def zpC373 : zC := (64, (1, 40), ([(0, 1, 0, 0), (0, 2, 0, 0)], ([[(0, 0)], [(0, 40)], [(0, 5)], [((-2147483648), 2147483647)]], [], [(3, 0, 9, 0, 0), (1, 2, 0, 0, 0), (1, 3, 0, 0, 0), (1, 0, 41, 0, 0)], [], [], [])), [([], ([[(0, 0)], [(0, 40)], [(0, 5)], [((-2147483648), 2147483647)]], [], [], [(1, 0, 0, 0, 0)], [], [])), ([], ([[(0, 0)], [(0, 40)], [(0, 5)], [(0, 19)]], [], [], [(1, 0, 1, 0, 0)], [], []))], [])
def zpA373 : zAnn := []

/-- PushedIn$Places.hasRange ((3, 42),) -/
def zpC374 : zC := (64, (1, 40), ([(0, 1, 0, 0), (0, 2, 0, 0)], ([[(0, 0)], [(0, 40)], [(0, 5)], [((-2147483648), 2147483647)]], [], [(3, 0, 9, 0, 0), (1, 2, 0, 0, 0), (1, 3, 0, 0, 0), (1, 0, 42, 0, 0)], [], [], [])), [([], ([[(0, 0)], [(0, 40)], [(0, 5)], [((-2147483648), 2147483647)]], [], [], [(1, 0, 0, 0, 0)], [], [])), ([], ([[(0, 0)], [(0, 40)], [(0, 5)], [(0, 18)]], [], [], [(1, 0, 1, 0, 0)], [], []))], [])
def zpA374 : zAnn := []

/-- PushedIn$Places.hasRange ((3, 43),) -/
def zpC375 : zC := (64, (1, 40), ([(0, 1, 0, 0), (0, 2, 0, 0)], ([[(0, 0)], [(0, 40)], [(0, 5)], [((-2147483648), 2147483647)]], [], [(3, 0, 9, 0, 0), (1, 2, 0, 0, 0), (1, 3, 0, 0, 0), (1, 0, 43, 0, 0)], [], [], [])), [([], ([[(0, 0)], [(0, 40)], [(0, 5)], [((-2147483648), 2147483647)]], [], [], [(1, 0, 0, 0, 0)], [], [])), ([], ([[(0, 0)], [(0, 40)], [(0, 5)], [(0, 17)]], [], [], [(1, 0, 1, 0, 0)], [], []))], [])
def zpA375 : zAnn := []

/-- PushedIn$Places.hasRange ((3, 44),) -/
def zpC376 : zC := (64, (1, 40), ([(0, 1, 0, 0), (0, 2, 0, 0)], ([[(0, 0)], [(0, 40)], [(0, 5)], [((-2147483648), 2147483647)]], [], [(3, 0, 9, 0, 0), (1, 2, 0, 0, 0), (1, 3, 0, 0, 0), (1, 0, 44, 0, 0)], [], [], [])), [([], ([[(0, 0)], [(0, 40)], [(0, 5)], [((-2147483648), 2147483647)]], [], [], [(1, 0, 0, 0, 0)], [], [])), ([], ([[(0, 0)], [(0, 40)], [(0, 5)], [(0, 16)]], [], [], [(1, 0, 1, 0, 0)], [], []))], [])
def zpA376 : zAnn := []

/-- PushedIn$Places.hasRange ((3, 45),) -/
def zpC377 : zC := (64, (1, 40), ([(0, 1, 0, 0), (0, 2, 0, 0)], ([[(0, 0)], [(0, 40)], [(0, 5)], [((-2147483648), 2147483647)]], [], [(3, 0, 9, 0, 0), (1, 2, 0, 0, 0), (1, 3, 0, 0, 0), (1, 0, 45, 0, 0)], [], [], [])), [([], ([[(0, 0)], [(0, 40)], [(0, 5)], [((-2147483648), 2147483647)]], [], [], [(1, 0, 0, 0, 0)], [], [])), ([], ([[(0, 0)], [(0, 40)], [(0, 5)], [(0, 15)]], [], [], [(1, 0, 1, 0, 0)], [], []))], [])
def zpA377 : zAnn := []

/-- PushedIn$Places.hasRange ((3, 46),) -/
def zpC378 : zC := (64, (1, 40), ([(0, 1, 0, 0), (0, 2, 0, 0)], ([[(0, 0)], [(0, 40)], [(0, 5)], [((-2147483648), 2147483647)]], [], [(3, 0, 9, 0, 0), (1, 2, 0, 0, 0), (1, 3, 0, 0, 0), (1, 0, 46, 0, 0)], [], [], [])), [([], ([[(0, 0)], [(0, 40)], [(0, 5)], [((-2147483648), 2147483647)]], [], [], [(1, 0, 0, 0, 0)], [], [])), ([], ([[(0, 0)], [(0, 40)], [(0, 5)], [(0, 14)]], [], [], [(1, 0, 1, 0, 0)], [], []))], [])
def zpA378 : zAnn := []

/-- PushedIn$Places.hasRange ((3, 47),) -/
def zpC379 : zC := (64, (1, 40), ([(0, 1, 0, 0), (0, 2, 0, 0)], ([[(0, 0)], [(0, 40)], [(0, 5)], [((-2147483648), 2147483647)]], [], [(3, 0, 9, 0, 0), (1, 2, 0, 0, 0), (1, 3, 0, 0, 0), (1, 0, 47, 0, 0)], [], [], [])), [([], ([[(0, 0)], [(0, 40)], [(0, 5)], [((-2147483648), 2147483647)]], [], [], [(1, 0, 0, 0, 0)], [], [])), ([], ([[(0, 0)], [(0, 40)], [(0, 5)], [(0, 13)]], [], [], [(1, 0, 1, 0, 0)], [], []))], [])
def zpA379 : zAnn := []

/-- PushedIn$Places.hasRange ((3, 48),) -/
def zpC380 : zC := (64, (1, 40), ([(0, 1, 0, 0), (0, 2, 0, 0)], ([[(0, 0)], [(0, 40)], [(0, 5)], [((-2147483648), 2147483647)]], [], [(3, 0, 9, 0, 0), (1, 2, 0, 0, 0), (1, 3, 0, 0, 0), (1, 0, 48, 0, 0)], [], [], [])), [([], ([[(0, 0)], [(0, 40)], [(0, 5)], [((-2147483648), 2147483647)]], [], [], [(1, 0, 0, 0, 0)], [], [])), ([], ([[(0, 0)], [(0, 40)], [(0, 5)], [(0, 12)]], [], [], [(1, 0, 1, 0, 0)], [], []))], [])
def zpA380 : zAnn := []

/-- PushedIn$Places.hasRange ((3, 49),) -/
def zpC381 : zC := (64, (1, 40), ([(0, 1, 0, 0), (0, 2, 0, 0)], ([[(0, 0)], [(0, 40)], [(0, 5)], [((-2147483648), 2147483647)]], [], [(3, 0, 9, 0, 0), (1, 2, 0, 0, 0), (1, 3, 0, 0, 0), (1, 0, 49, 0, 0)], [], [], [])), [([], ([[(0, 0)], [(0, 40)], [(0, 5)], [((-2147483648), 2147483647)]], [], [], [(1, 0, 0, 0, 0)], [], [])), ([], ([[(0, 0)], [(0, 40)], [(0, 5)], [(0, 11)]], [], [], [(1, 0, 1, 0, 0)], [], []))], [])
def zpA381 : zAnn := []

/-- PushedIn$Places.hasRange ((3, 5),) -/
def zpC382 : zC := (64, (1, 40), ([(0, 1, 0, 0), (0, 2, 0, 0)], ([[(0, 0)], [(0, 40)], [(0, 5)], [((-2147483648), 2147483647)]], [], [(3, 0, 9, 0, 0), (1, 2, 0, 0, 0), (1, 3, 0, 0, 0), (1, 0, 5, 0, 0)], [], [], [])), [([], ([[(0, 0)], [(0, 40)], [(0, 5)], [((-2147483648), 2147483647)]], [], [], [(1, 0, 0, 0, 0)], [], [])), ([], ([[(0, 0)], [(0, 40)], [(0, 5)], [(0, 55)]], [], [], [(1, 0, 1, 0, 0)], [], []))], [])
def zpA382 : zAnn := []

/-- PushedIn$Places.hasRange ((3, 50),) -/
def zpC383 : zC := (64, (1, 40), ([(0, 1, 0, 0), (0, 2, 0, 0)], ([[(0, 0)], [(0, 40)], [(0, 5)], [((-2147483648), 2147483647)]], [], [(3, 0, 9, 0, 0), (1, 2, 0, 0, 0), (1, 3, 0, 0, 0), (1, 0, 50, 0, 0)], [], [], [])), [([], ([[(0, 0)], [(0, 40)], [(0, 5)], [((-2147483648), 2147483647)]], [], [], [(1, 0, 0, 0, 0)], [], [])), ([], ([[(0, 0)], [(0, 40)], [(0, 5)], [(0, 10)]], [], [], [(1, 0, 1, 0, 0)], [], []))], [])
def zpA383 : zAnn := []

/-- PushedIn$Places.hasRange ((3, 51),) -/
def zpC384 : zC := (64, (1, 40), ([(0, 1, 0, 0), (0, 2, 0, 0)], ([[(0, 0)], [(0, 40)], [(0, 5)], [((-2147483648), 2147483647)]], [], [(3, 0, 9, 0, 0), (1, 2, 0, 0, 0), (1, 3, 0, 0, 0), (1, 0, 51, 0, 0)], [], [], [])), [([], ([[(0, 0)], [(0, 40)], [(0, 5)], [((-2147483648), 2147483647)]], [], [], [(1, 0, 0, 0, 0)], [], [])), ([], ([[(0, 0)], [(0, 40)], [(0, 5)], [(0, 9)]], [], [], [(1, 0, 1, 0, 0)], [], []))], [])
def zpA384 : zAnn := []

/-- PushedIn$Places.hasRange ((3, 52),) -/
def zpC385 : zC := (64, (1, 40), ([(0, 1, 0, 0), (0, 2, 0, 0)], ([[(0, 0)], [(0, 40)], [(0, 5)], [((-2147483648), 2147483647)]], [], [(3, 0, 9, 0, 0), (1, 2, 0, 0, 0), (1, 3, 0, 0, 0), (1, 0, 52, 0, 0)], [], [], [])), [([], ([[(0, 0)], [(0, 40)], [(0, 5)], [((-2147483648), 2147483647)]], [], [], [(1, 0, 0, 0, 0)], [], [])), ([], ([[(0, 0)], [(0, 40)], [(0, 5)], [(0, 8)]], [], [], [(1, 0, 1, 0, 0)], [], []))], [])
def zpA385 : zAnn := []

/-- PushedIn$Places.hasRange ((3, 53),) -/
def zpC386 : zC := (64, (1, 40), ([(0, 1, 0, 0), (0, 2, 0, 0)], ([[(0, 0)], [(0, 40)], [(0, 5)], [((-2147483648), 2147483647)]], [], [(3, 0, 9, 0, 0), (1, 2, 0, 0, 0), (1, 3, 0, 0, 0), (1, 0, 53, 0, 0)], [], [], [])), [([], ([[(0, 0)], [(0, 40)], [(0, 5)], [((-2147483648), 2147483647)]], [], [], [(1, 0, 0, 0, 0)], [], [])), ([], ([[(0, 0)], [(0, 40)], [(0, 5)], [(0, 7)]], [], [], [(1, 0, 1, 0, 0)], [], []))], [])
def zpA386 : zAnn := []

/-- PushedIn$Places.hasRange ((3, 54),) -/
def zpC387 : zC := (64, (1, 40), ([(0, 1, 0, 0), (0, 2, 0, 0)], ([[(0, 0)], [(0, 40)], [(0, 5)], [((-2147483648), 2147483647)]], [], [(3, 0, 9, 0, 0), (1, 2, 0, 0, 0), (1, 3, 0, 0, 0), (1, 0, 54, 0, 0)], [], [], [])), [([], ([[(0, 0)], [(0, 40)], [(0, 5)], [((-2147483648), 2147483647)]], [], [], [(1, 0, 0, 0, 0)], [], [])), ([], ([[(0, 0)], [(0, 40)], [(0, 5)], [(0, 6)]], [], [], [(1, 0, 1, 0, 0)], [], []))], [])
def zpA387 : zAnn := []

/-- PushedIn$Places.hasRange ((3, 55),) -/
def zpC388 : zC := (64, (1, 40), ([(0, 1, 0, 0), (0, 2, 0, 0)], ([[(0, 0)], [(0, 40)], [(0, 5)], [((-2147483648), 2147483647)]], [], [(3, 0, 9, 0, 0), (1, 2, 0, 0, 0), (1, 3, 0, 0, 0), (1, 0, 55, 0, 0)], [], [], [])), [([], ([[(0, 0)], [(0, 40)], [(0, 5)], [((-2147483648), 2147483647)]], [], [], [(1, 0, 0, 0, 0)], [], [])), ([], ([[(0, 0)], [(0, 40)], [(0, 5)], [(0, 5)]], [], [], [(1, 0, 1, 0, 0)], [], []))], [])
def zpA388 : zAnn := []

/-- PushedIn$Places.hasRange ((3, 56),) -/
def zpC389 : zC := (64, (1, 40), ([(0, 1, 0, 0), (0, 2, 0, 0)], ([[(0, 0)], [(0, 40)], [(0, 5)], [((-2147483648), 2147483647)]], [], [(3, 0, 9, 0, 0), (1, 2, 0, 0, 0), (1, 3, 0, 0, 0), (1, 0, 56, 0, 0)], [], [], [])), [([], ([[(0, 0)], [(0, 40)], [(0, 5)], [((-2147483648), 2147483647)]], [], [], [(1, 0, 0, 0, 0)], [], [])), ([], ([[(0, 0)], [(0, 40)], [(0, 5)], [(0, 4)]], [], [], [(1, 0, 1, 0, 0)], [], []))], [])
def zpA389 : zAnn := []

/-- PushedIn$Places.hasRange ((3, 57),) -/
def zpC390 : zC := (64, (1, 40), ([(0, 1, 0, 0), (0, 2, 0, 0)], ([[(0, 0)], [(0, 40)], [(0, 5)], [((-2147483648), 2147483647)]], [], [(3, 0, 9, 0, 0), (1, 2, 0, 0, 0), (1, 3, 0, 0, 0), (1, 0, 57, 0, 0)], [], [], [])), [([], ([[(0, 0)], [(0, 40)], [(0, 5)], [((-2147483648), 2147483647)]], [], [], [(1, 0, 0, 0, 0)], [], [])), ([], ([[(0, 0)], [(0, 40)], [(0, 5)], [(0, 3)]], [], [], [(1, 0, 1, 0, 0)], [], []))], [])
def zpA390 : zAnn := []

/-- PushedIn$Places.hasRange ((3, 58),) -/
def zpC391 : zC := (64, (1, 40), ([(0, 1, 0, 0), (0, 2, 0, 0)], ([[(0, 0)], [(0, 40)], [(0, 5)], [((-2147483648), 2147483647)]], [], [(3, 0, 9, 0, 0), (1, 2, 0, 0, 0), (1, 3, 0, 0, 0), (1, 0, 58, 0, 0)], [], [], [])), [([], ([[(0, 0)], [(0, 40)], [(0, 5)], [((-2147483648), 2147483647)]], [], [], [(1, 0, 0, 0, 0)], [], [])), ([], ([[(0, 0)], [(0, 40)], [(0, 5)], [(0, 2)]], [], [], [(1, 0, 1, 0, 0)], [], []))], [])
def zpA391 : zAnn := []

/-- PushedIn$Places.hasRange ((3, 59),) -/
def zpC392 : zC := (64, (1, 40), ([(0, 1, 0, 0), (0, 2, 0, 0)], ([[(0, 0)], [(0, 40)], [(0, 5)], [((-2147483648), 2147483647)]], [], [(3, 0, 9, 0, 0), (1, 2, 0, 0, 0), (1, 3, 0, 0, 0), (1, 0, 59, 0, 0)], [], [], [])), [([], ([[(0, 0)], [(0, 40)], [(0, 5)], [((-2147483648), 2147483647)]], [], [], [(1, 0, 0, 0, 0)], [], [])), ([], ([[(0, 0)], [(0, 40)], [(0, 5)], [(0, 1)]], [], [], [(1, 0, 1, 0, 0)], [], []))], [])
def zpA392 : zAnn := []

/-- PushedIn$Places.hasRange ((3, 6),) -/
def zpC393 : zC := (64, (1, 40), ([(0, 1, 0, 0), (0, 2, 0, 0)], ([[(0, 0)], [(0, 40)], [(0, 5)], [((-2147483648), 2147483647)]], [], [(3, 0, 9, 0, 0), (1, 2, 0, 0, 0), (1, 3, 0, 0, 0), (1, 0, 6, 0, 0)], [], [], [])), [([], ([[(0, 0)], [(0, 40)], [(0, 5)], [((-2147483648), 2147483647)]], [], [], [(1, 0, 0, 0, 0)], [], [])), ([], ([[(0, 0)], [(0, 40)], [(0, 5)], [(0, 54)]], [], [], [(1, 0, 1, 0, 0)], [], []))], [])
def zpA393 : zAnn := []

/-- PushedIn$Places.hasRange ((3, 60),) -/
def zpC394 : zC := (64, (1, 40), ([(0, 1, 0, 0), (0, 2, 0, 0)], ([[(0, 0)], [(0, 40)], [(0, 5)], [((-2147483648), 2147483647)]], [], [(3, 0, 9, 0, 0), (1, 2, 0, 0, 0), (1, 3, 0, 0, 0), (1, 0, 60, 0, 0)], [], [], [])), [([], ([[(0, 0)], [(0, 40)], [(0, 5)], [((-2147483648), 2147483647)]], [], [], [(1, 0, 0, 0, 0)], [], [])), ([], ([[(0, 0)], [(0, 40)], [(0, 5)], [(0, 0)]], [], [], [(1, 0, 1, 0, 0)], [], []))], [])
def zpA394 : zAnn := []

/-- PushedIn$Places.hasRange ((3, 7),) -/
def zpC395 : zC := (64, (1, 40), ([(0, 1, 0, 0), (0, 2, 0, 0)], ([[(0, 0)], [(0, 40)], [(0, 5)], [((-2147483648), 2147483647)]], [], [(3, 0, 9, 0, 0), (1, 2, 0, 0, 0), (1, 3, 0, 0, 0), (1, 0, 7, 0, 0)], [], [], [])), [([], ([[(0, 0)], [(0, 40)], [(0, 5)], [((-2147483648), 2147483647)]], [], [], [(1, 0, 0, 0, 0)], [], [])), ([], ([[(0, 0)], [(0, 40)], [(0, 5)], [(0, 53)]], [], [], [(1, 0, 1, 0, 0)], [], []))], [])
def zpA395 : zAnn := []

/-- PushedIn$Places.hasRange ((3, 8),) -/
def zpC396 : zC := (64, (1, 40), ([(0, 1, 0, 0), (0, 2, 0, 0)], ([[(0, 0)], [(0, 40)], [(0, 5)], [((-2147483648), 2147483647)]], [], [(3, 0, 9, 0, 0), (1, 2, 0, 0, 0), (1, 3, 0, 0, 0), (1, 0, 8, 0, 0)], [], [], [])), [([], ([[(0, 0)], [(0, 40)], [(0, 5)], [((-2147483648), 2147483647)]], [], [], [(1, 0, 0, 0, 0)], [], [])), ([], ([[(0, 0)], [(0, 40)], [(0, 5)], [(0, 52)]], [], [], [(1, 0, 1, 0, 0)], [], []))], [])
def zpA396 : zAnn := []

/-- PushedIn$Places.hasRange ((3, 9),) -/
def zpC397 : zC := (64, (1, 40), ([(0, 1, 0, 0), (0, 2, 0, 0)], ([[(0, 0)], [(0, 40)], [(0, 5)], [((-2147483648), 2147483647)]], [], [(3, 0, 9, 0, 0), (1, 2, 0, 0, 0), (1, 3, 0, 0, 0), (1, 0, 9, 0, 0)], [], [], [])), [([], ([[(0, 0)], [(0, 40)], [(0, 5)], [((-2147483648), 2147483647)]], [], [], [(1, 0, 0, 0, 0)], [], [])), ([], ([[(0, 0)], [(0, 40)], [(0, 5)], [(0, 51)]], [], [], [(1, 0, 1, 0, 0)], [], []))], [])
def zpA397 : zAnn := []

/-- PushedIn.shift () -/
def zpC398 : zC := (29, (3, 1000), ([(0, 1, 0, 0), (0, 2, 0, 0), (0, 3, 0, 0), (0, 4, 0, 0), (0, 5, 0, 0)], ([[(0, 0)], [(0, 40)], [((-2147483648), 2147483647)], [((-2147483648), 2147483647)], [((-2147483648), 2147483647)], [((-2147483648), 2147483647)], [((-2147483648), 2147483647)]], [], [(3, 0, 0, 0, 0), (1, 2, 0, 0, 0), (1, 3, 0, 0, 0), (1, 4, 0, 0, 0), (1, 5, 0, 0, 0), (1, 6, 0, 0, 0), (0, 0, 0, 0, 0)], [], [], [])), [([(1, 0, 0, 0)], ([[(0, 0)], [(0, 40)], [((-2147483648), 2147483647)], [((-2147483648), 2147483647)], [((-2147483648), 2147483647)], [((-2147483648), 2147483647)], [((-2147483648), 2147483647)], [((-13), (-11)), ((-1), 60)]], [], [], [(1, 7, 0, 0, 0)], [], []))], [(44, 49, 0, 0)])
def zpA398h0 : Nat × zTm × zRk := (19, ([], ([[(0, 0)], [(0, 40)], [(0, 5)], [((-2147483648), 2147483647)], [(0, 5)], [((-2147483648), 2147483647)], [((-2147483648), (-1)), (61, 2147483647)]], [], [(3, 0, 0, 0, 0), (1, 2, 0, 0, 0), (1, 3, 0, 0, 0), (1, 4, 0, 0, 0), (1, 5, 0, 0, 0), (1, 6, 0, 0, 0), (1, 0, 0, 0, 0)], [], [], [])), [(2, 0, 0)])
def zpA398h1 : Nat × zTm × zRk := (19, ([], ([[(0, 0)], [(0, 40)], [(0, 5)], [((-2147483648), 2147483647)], [(0, 5)], [((-2147483648), 2147483647)], [(0, 0)]], [], [(3, 0, 0, 0, 0), (1, 2, 0, 0, 0), (1, 3, 0, 0, 0), (1, 4, 0, 0, 0), (1, 5, 0, 0, 0), (1, 6, 0, 0, 0), (1, 0, 0, 0, 0)], [], [], [])), [(2, 0, 1)])
def zpA398h2 : Nat × zTm × zRk := (19, ([], ([[(0, 0)], [(0, 40)], [(0, 5)], [((-2147483648), 2147483647)], [(0, 5)], [((-2147483648), 2147483647)], [(1, 1)]], [], [(3, 0, 0, 0, 0), (1, 2, 0, 0, 0), (1, 3, 0, 0, 0), (1, 4, 0, 0, 0), (1, 5, 0, 0, 0), (1, 6, 0, 0, 0), (1, 0, 0, 0, 0)], [], [], [])), [(2, 0, 2)])
def zpA398h3 : Nat × zTm × zRk := (19, ([], ([[(0, 0)], [(0, 40)], [(0, 5)], [((-2147483648), 2147483647)], [(0, 5)], [((-2147483648), 2147483647)], [(10, 10)]], [], [(3, 0, 0, 0, 0), (1, 2, 0, 0, 0), (1, 3, 0, 0, 0), (1, 4, 0, 0, 0), (1, 5, 0, 0, 0), (1, 6, 0, 0, 0), (1, 0, 0, 0, 0)], [], [], [])), [(2, 0, 3)])
def zpA398h4 : Nat × zTm × zRk := (19, ([], ([[(0, 0)], [(0, 40)], [(0, 5)], [((-2147483648), 2147483647)], [(0, 5)], [((-2147483648), 2147483647)], [(11, 11)]], [], [(3, 0, 0, 0, 0), (1, 2, 0, 0, 0), (1, 3, 0, 0, 0), (1, 4, 0, 0, 0), (1, 5, 0, 0, 0), (1, 6, 0, 0, 0), (1, 0, 0, 0, 0)], [], [], [])), [(2, 0, 4)])
def zpA398h5 : Nat × zTm × zRk := (19, ([], ([[(0, 0)], [(0, 40)], [(0, 5)], [((-2147483648), 2147483647)], [(0, 5)], [((-2147483648), 2147483647)], [(12, 12)]], [], [(3, 0, 0, 0, 0), (1, 2, 0, 0, 0), (1, 3, 0, 0, 0), (1, 4, 0, 0, 0), (1, 5, 0, 0, 0), (1, 6, 0, 0, 0), (1, 0, 0, 0, 0)], [], [], [])), [(2, 0, 5)])
def zpA398h6 : Nat × zTm × zRk := (19, ([], ([[(0, 0)], [(0, 40)], [(0, 5)], [((-2147483648), 2147483647)], [(0, 5)], [((-2147483648), 2147483647)], [(13, 13)]], [], [(3, 0, 0, 0, 0), (1, 2, 0, 0, 0), (1, 3, 0, 0, 0), (1, 4, 0, 0, 0), (1, 5, 0, 0, 0), (1, 6, 0, 0, 0), (1, 0, 0, 0, 0)], [], [], [])), [(2, 0, 6)])
def zpA398h7 : Nat × zTm × zRk := (19, ([], ([[(0, 0)], [(0, 40)], [(0, 5)], [((-2147483648), 2147483647)], [(0, 5)], [((-2147483648), 2147483647)], [(14, 14)]], [], [(3, 0, 0, 0, 0), (1, 2, 0, 0, 0), (1, 3, 0, 0, 0), (1, 4, 0, 0, 0), (1, 5, 0, 0, 0), (1, 6, 0, 0, 0), (1, 0, 0, 0, 0)], [], [], [])), [(2, 0, 7)])
def zpA398h8 : Nat × zTm × zRk := (19, ([], ([[(0, 0)], [(0, 40)], [(0, 5)], [((-2147483648), 2147483647)], [(0, 5)], [((-2147483648), 2147483647)], [(15, 15)]], [], [(3, 0, 0, 0, 0), (1, 2, 0, 0, 0), (1, 3, 0, 0, 0), (1, 4, 0, 0, 0), (1, 5, 0, 0, 0), (1, 6, 0, 0, 0), (1, 0, 0, 0, 0)], [], [], [])), [(2, 0, 8)])
def zpA398h9 : Nat × zTm × zRk := (19, ([], ([[(0, 0)], [(0, 40)], [(0, 5)], [((-2147483648), 2147483647)], [(0, 5)], [((-2147483648), 2147483647)], [(16, 16)]], [], [(3, 0, 0, 0, 0), (1, 2, 0, 0, 0), (1, 3, 0, 0, 0), (1, 4, 0, 0, 0), (1, 5, 0, 0, 0), (1, 6, 0, 0, 0), (1, 0, 0, 0, 0)], [], [], [])), [(2, 0, 9)])
def zpA398h10 : Nat × zTm × zRk := (19, ([], ([[(0, 0)], [(0, 40)], [(0, 5)], [((-2147483648), 2147483647)], [(0, 5)], [((-2147483648), 2147483647)], [(17, 17)]], [], [(3, 0, 0, 0, 0), (1, 2, 0, 0, 0), (1, 3, 0, 0, 0), (1, 4, 0, 0, 0), (1, 5, 0, 0, 0), (1, 6, 0, 0, 0), (1, 0, 0, 0, 0)], [], [], [])), [(2, 0, 10)])
def zpA398h11 : Nat × zTm × zRk := (19, ([], ([[(0, 0)], [(0, 40)], [(0, 5)], [((-2147483648), 2147483647)], [(0, 5)], [((-2147483648), 2147483647)], [(18, 18)]], [], [(3, 0, 0, 0, 0), (1, 2, 0, 0, 0), (1, 3, 0, 0, 0), (1, 4, 0, 0, 0), (1, 5, 0, 0, 0), (1, 6, 0, 0, 0), (1, 0, 0, 0, 0)], [], [], [])), [(2, 0, 11)])
def zpA398h12 : Nat × zTm × zRk := (19, ([], ([[(0, 0)], [(0, 40)], [(0, 5)], [((-2147483648), 2147483647)], [(0, 5)], [((-2147483648), 2147483647)], [(19, 19)]], [], [(3, 0, 0, 0, 0), (1, 2, 0, 0, 0), (1, 3, 0, 0, 0), (1, 4, 0, 0, 0), (1, 5, 0, 0, 0), (1, 6, 0, 0, 0), (1, 0, 0, 0, 0)], [], [], [])), [(2, 0, 12)])
def zpA398h13 : Nat × zTm × zRk := (19, ([], ([[(0, 0)], [(0, 40)], [(0, 5)], [((-2147483648), 2147483647)], [(0, 5)], [((-2147483648), 2147483647)], [(2, 2)]], [], [(3, 0, 0, 0, 0), (1, 2, 0, 0, 0), (1, 3, 0, 0, 0), (1, 4, 0, 0, 0), (1, 5, 0, 0, 0), (1, 6, 0, 0, 0), (1, 0, 0, 0, 0)], [], [], [])), [(2, 0, 13)])
def zpA398h14 : Nat × zTm × zRk := (19, ([], ([[(0, 0)], [(0, 40)], [(0, 5)], [((-2147483648), 2147483647)], [(0, 5)], [((-2147483648), 2147483647)], [(20, 20)]], [], [(3, 0, 0, 0, 0), (1, 2, 0, 0, 0), (1, 3, 0, 0, 0), (1, 4, 0, 0, 0), (1, 5, 0, 0, 0), (1, 6, 0, 0, 0), (1, 0, 0, 0, 0)], [], [], [])), [(2, 0, 14)])
def zpA398h15 : Nat × zTm × zRk := (19, ([], ([[(0, 0)], [(0, 40)], [(0, 5)], [((-2147483648), 2147483647)], [(0, 5)], [((-2147483648), 2147483647)], [(21, 21)]], [], [(3, 0, 0, 0, 0), (1, 2, 0, 0, 0), (1, 3, 0, 0, 0), (1, 4, 0, 0, 0), (1, 5, 0, 0, 0), (1, 6, 0, 0, 0), (1, 0, 0, 0, 0)], [], [], [])), [(2, 0, 15)])
def zpA398h16 : Nat × zTm × zRk := (19, ([], ([[(0, 0)], [(0, 40)], [(0, 5)], [((-2147483648), 2147483647)], [(0, 5)], [((-2147483648), 2147483647)], [(22, 22)]], [], [(3, 0, 0, 0, 0), (1, 2, 0, 0, 0), (1, 3, 0, 0, 0), (1, 4, 0, 0, 0), (1, 5, 0, 0, 0), (1, 6, 0, 0, 0), (1, 0, 0, 0, 0)], [], [], [])), [(2, 0, 16)])
def zpA398h17 : Nat × zTm × zRk := (19, ([], ([[(0, 0)], [(0, 40)], [(0, 5)], [((-2147483648), 2147483647)], [(0, 5)], [((-2147483648), 2147483647)], [(23, 23)]], [], [(3, 0, 0, 0, 0), (1, 2, 0, 0, 0), (1, 3, 0, 0, 0), (1, 4, 0, 0, 0), (1, 5, 0, 0, 0), (1, 6, 0, 0, 0), (1, 0, 0, 0, 0)], [], [], [])), [(2, 0, 17)])
def zpA398h18 : Nat × zTm × zRk := (19, ([], ([[(0, 0)], [(0, 40)], [(0, 5)], [((-2147483648), 2147483647)], [(0, 5)], [((-2147483648), 2147483647)], [(24, 24)]], [], [(3, 0, 0, 0, 0), (1, 2, 0, 0, 0), (1, 3, 0, 0, 0), (1, 4, 0, 0, 0), (1, 5, 0, 0, 0), (1, 6, 0, 0, 0), (1, 0, 0, 0, 0)], [], [], [])), [(2, 0, 18)])
def zpA398h19 : Nat × zTm × zRk := (19, ([], ([[(0, 0)], [(0, 40)], [(0, 5)], [((-2147483648), 2147483647)], [(0, 5)], [((-2147483648), 2147483647)], [(25, 25)]], [], [(3, 0, 0, 0, 0), (1, 2, 0, 0, 0), (1, 3, 0, 0, 0), (1, 4, 0, 0, 0), (1, 5, 0, 0, 0), (1, 6, 0, 0, 0), (1, 0, 0, 0, 0)], [], [], [])), [(2, 0, 19)])
def zpA398h20 : Nat × zTm × zRk := (19, ([], ([[(0, 0)], [(0, 40)], [(0, 5)], [((-2147483648), 2147483647)], [(0, 5)], [((-2147483648), 2147483647)], [(26, 26)]], [], [(3, 0, 0, 0, 0), (1, 2, 0, 0, 0), (1, 3, 0, 0, 0), (1, 4, 0, 0, 0), (1, 5, 0, 0, 0), (1, 6, 0, 0, 0), (1, 0, 0, 0, 0)], [], [], [])), [(2, 0, 20)])
def zpA398h21 : Nat × zTm × zRk := (19, ([], ([[(0, 0)], [(0, 40)], [(0, 5)], [((-2147483648), 2147483647)], [(0, 5)], [((-2147483648), 2147483647)], [(27, 27)]], [], [(3, 0, 0, 0, 0), (1, 2, 0, 0, 0), (1, 3, 0, 0, 0), (1, 4, 0, 0, 0), (1, 5, 0, 0, 0), (1, 6, 0, 0, 0), (1, 0, 0, 0, 0)], [], [], [])), [(2, 0, 21)])
def zpA398h22 : Nat × zTm × zRk := (19, ([], ([[(0, 0)], [(0, 40)], [(0, 5)], [((-2147483648), 2147483647)], [(0, 5)], [((-2147483648), 2147483647)], [(28, 28)]], [], [(3, 0, 0, 0, 0), (1, 2, 0, 0, 0), (1, 3, 0, 0, 0), (1, 4, 0, 0, 0), (1, 5, 0, 0, 0), (1, 6, 0, 0, 0), (1, 0, 0, 0, 0)], [], [], [])), [(2, 0, 22)])
def zpA398h23 : Nat × zTm × zRk := (19, ([], ([[(0, 0)], [(0, 40)], [(0, 5)], [((-2147483648), 2147483647)], [(0, 5)], [((-2147483648), 2147483647)], [(29, 29)]], [], [(3, 0, 0, 0, 0), (1, 2, 0, 0, 0), (1, 3, 0, 0, 0), (1, 4, 0, 0, 0), (1, 5, 0, 0, 0), (1, 6, 0, 0, 0), (1, 0, 0, 0, 0)], [], [], [])), [(2, 0, 23)])
def zpA398h24 : Nat × zTm × zRk := (19, ([], ([[(0, 0)], [(0, 40)], [(0, 5)], [((-2147483648), 2147483647)], [(0, 5)], [((-2147483648), 2147483647)], [(3, 3)]], [], [(3, 0, 0, 0, 0), (1, 2, 0, 0, 0), (1, 3, 0, 0, 0), (1, 4, 0, 0, 0), (1, 5, 0, 0, 0), (1, 6, 0, 0, 0), (1, 0, 0, 0, 0)], [], [], [])), [(2, 0, 24)])
def zpA398h25 : Nat × zTm × zRk := (19, ([], ([[(0, 0)], [(0, 40)], [(0, 5)], [((-2147483648), 2147483647)], [(0, 5)], [((-2147483648), 2147483647)], [(30, 30)]], [], [(3, 0, 0, 0, 0), (1, 2, 0, 0, 0), (1, 3, 0, 0, 0), (1, 4, 0, 0, 0), (1, 5, 0, 0, 0), (1, 6, 0, 0, 0), (1, 0, 0, 0, 0)], [], [], [])), [(2, 0, 25)])
def zpA398h26 : Nat × zTm × zRk := (19, ([], ([[(0, 0)], [(0, 40)], [(0, 5)], [((-2147483648), 2147483647)], [(0, 5)], [((-2147483648), 2147483647)], [(31, 31)]], [], [(3, 0, 0, 0, 0), (1, 2, 0, 0, 0), (1, 3, 0, 0, 0), (1, 4, 0, 0, 0), (1, 5, 0, 0, 0), (1, 6, 0, 0, 0), (1, 0, 0, 0, 0)], [], [], [])), [(2, 0, 26)])
def zpA398h27 : Nat × zTm × zRk := (19, ([], ([[(0, 0)], [(0, 40)], [(0, 5)], [((-2147483648), 2147483647)], [(0, 5)], [((-2147483648), 2147483647)], [(32, 32)]], [], [(3, 0, 0, 0, 0), (1, 2, 0, 0, 0), (1, 3, 0, 0, 0), (1, 4, 0, 0, 0), (1, 5, 0, 0, 0), (1, 6, 0, 0, 0), (1, 0, 0, 0, 0)], [], [], [])), [(2, 0, 27)])
def zpA398h28 : Nat × zTm × zRk := (19, ([], ([[(0, 0)], [(0, 40)], [(0, 5)], [((-2147483648), 2147483647)], [(0, 5)], [((-2147483648), 2147483647)], [(33, 33)]], [], [(3, 0, 0, 0, 0), (1, 2, 0, 0, 0), (1, 3, 0, 0, 0), (1, 4, 0, 0, 0), (1, 5, 0, 0, 0), (1, 6, 0, 0, 0), (1, 0, 0, 0, 0)], [], [], [])), [(2, 0, 28)])
def zpA398h29 : Nat × zTm × zRk := (19, ([], ([[(0, 0)], [(0, 40)], [(0, 5)], [((-2147483648), 2147483647)], [(0, 5)], [((-2147483648), 2147483647)], [(34, 34)]], [], [(3, 0, 0, 0, 0), (1, 2, 0, 0, 0), (1, 3, 0, 0, 0), (1, 4, 0, 0, 0), (1, 5, 0, 0, 0), (1, 6, 0, 0, 0), (1, 0, 0, 0, 0)], [], [], [])), [(2, 0, 29)])
def zpA398h30 : Nat × zTm × zRk := (19, ([], ([[(0, 0)], [(0, 40)], [(0, 5)], [((-2147483648), 2147483647)], [(0, 5)], [((-2147483648), 2147483647)], [(35, 35)]], [], [(3, 0, 0, 0, 0), (1, 2, 0, 0, 0), (1, 3, 0, 0, 0), (1, 4, 0, 0, 0), (1, 5, 0, 0, 0), (1, 6, 0, 0, 0), (1, 0, 0, 0, 0)], [], [], [])), [(2, 0, 30)])
def zpA398h31 : Nat × zTm × zRk := (19, ([], ([[(0, 0)], [(0, 40)], [(0, 5)], [((-2147483648), 2147483647)], [(0, 5)], [((-2147483648), 2147483647)], [(36, 36)]], [], [(3, 0, 0, 0, 0), (1, 2, 0, 0, 0), (1, 3, 0, 0, 0), (1, 4, 0, 0, 0), (1, 5, 0, 0, 0), (1, 6, 0, 0, 0), (1, 0, 0, 0, 0)], [], [], [])), [(2, 0, 31)])
def zpA398h32 : Nat × zTm × zRk := (19, ([], ([[(0, 0)], [(0, 40)], [(0, 5)], [((-2147483648), 2147483647)], [(0, 5)], [((-2147483648), 2147483647)], [(37, 37)]], [], [(3, 0, 0, 0, 0), (1, 2, 0, 0, 0), (1, 3, 0, 0, 0), (1, 4, 0, 0, 0), (1, 5, 0, 0, 0), (1, 6, 0, 0, 0), (1, 0, 0, 0, 0)], [], [], [])), [(2, 0, 32)])
def zpA398h33 : Nat × zTm × zRk := (19, ([], ([[(0, 0)], [(0, 40)], [(0, 5)], [((-2147483648), 2147483647)], [(0, 5)], [((-2147483648), 2147483647)], [(38, 38)]], [], [(3, 0, 0, 0, 0), (1, 2, 0, 0, 0), (1, 3, 0, 0, 0), (1, 4, 0, 0, 0), (1, 5, 0, 0, 0), (1, 6, 0, 0, 0), (1, 0, 0, 0, 0)], [], [], [])), [(2, 0, 33)])
def zpA398h34 : Nat × zTm × zRk := (19, ([], ([[(0, 0)], [(0, 40)], [(0, 5)], [((-2147483648), 2147483647)], [(0, 5)], [((-2147483648), 2147483647)], [(39, 39)]], [], [(3, 0, 0, 0, 0), (1, 2, 0, 0, 0), (1, 3, 0, 0, 0), (1, 4, 0, 0, 0), (1, 5, 0, 0, 0), (1, 6, 0, 0, 0), (1, 0, 0, 0, 0)], [], [], [])), [(2, 0, 34)])
def zpA398h35 : Nat × zTm × zRk := (19, ([], ([[(0, 0)], [(0, 40)], [(0, 5)], [((-2147483648), 2147483647)], [(0, 5)], [((-2147483648), 2147483647)], [(4, 4)]], [], [(3, 0, 0, 0, 0), (1, 2, 0, 0, 0), (1, 3, 0, 0, 0), (1, 4, 0, 0, 0), (1, 5, 0, 0, 0), (1, 6, 0, 0, 0), (1, 0, 0, 0, 0)], [], [], [])), [(2, 0, 35)])
def zpA398h36 : Nat × zTm × zRk := (19, ([], ([[(0, 0)], [(0, 40)], [(0, 5)], [((-2147483648), 2147483647)], [(0, 5)], [((-2147483648), 2147483647)], [(40, 40)]], [], [(3, 0, 0, 0, 0), (1, 2, 0, 0, 0), (1, 3, 0, 0, 0), (1, 4, 0, 0, 0), (1, 5, 0, 0, 0), (1, 6, 0, 0, 0), (1, 0, 0, 0, 0)], [], [], [])), [(2, 0, 36)])
def zpA398h37 : Nat × zTm × zRk := (19, ([], ([[(0, 0)], [(0, 40)], [(0, 5)], [((-2147483648), 2147483647)], [(0, 5)], [((-2147483648), 2147483647)], [(41, 41)]], [], [(3, 0, 0, 0, 0), (1, 2, 0, 0, 0), (1, 3, 0, 0, 0), (1, 4, 0, 0, 0), (1, 5, 0, 0, 0), (1, 6, 0, 0, 0), (1, 0, 0, 0, 0)], [], [], [])), [(2, 0, 37)])
def zpA398h38 : Nat × zTm × zRk := (19, ([], ([[(0, 0)], [(0, 40)], [(0, 5)], [((-2147483648), 2147483647)], [(0, 5)], [((-2147483648), 2147483647)], [(42, 42)]], [], [(3, 0, 0, 0, 0), (1, 2, 0, 0, 0), (1, 3, 0, 0, 0), (1, 4, 0, 0, 0), (1, 5, 0, 0, 0), (1, 6, 0, 0, 0), (1, 0, 0, 0, 0)], [], [], [])), [(2, 0, 38)])
def zpA398h39 : Nat × zTm × zRk := (19, ([], ([[(0, 0)], [(0, 40)], [(0, 5)], [((-2147483648), 2147483647)], [(0, 5)], [((-2147483648), 2147483647)], [(43, 43)]], [], [(3, 0, 0, 0, 0), (1, 2, 0, 0, 0), (1, 3, 0, 0, 0), (1, 4, 0, 0, 0), (1, 5, 0, 0, 0), (1, 6, 0, 0, 0), (1, 0, 0, 0, 0)], [], [], [])), [(2, 0, 39)])
def zpA398h40 : Nat × zTm × zRk := (19, ([], ([[(0, 0)], [(0, 40)], [(0, 5)], [((-2147483648), 2147483647)], [(0, 5)], [((-2147483648), 2147483647)], [(44, 44)]], [], [(3, 0, 0, 0, 0), (1, 2, 0, 0, 0), (1, 3, 0, 0, 0), (1, 4, 0, 0, 0), (1, 5, 0, 0, 0), (1, 6, 0, 0, 0), (1, 0, 0, 0, 0)], [], [], [])), [(2, 0, 40)])
def zpA398h41 : Nat × zTm × zRk := (19, ([], ([[(0, 0)], [(0, 40)], [(0, 5)], [((-2147483648), 2147483647)], [(0, 5)], [((-2147483648), 2147483647)], [(45, 45)]], [], [(3, 0, 0, 0, 0), (1, 2, 0, 0, 0), (1, 3, 0, 0, 0), (1, 4, 0, 0, 0), (1, 5, 0, 0, 0), (1, 6, 0, 0, 0), (1, 0, 0, 0, 0)], [], [], [])), [(2, 0, 41)])
def zpA398h42 : Nat × zTm × zRk := (19, ([], ([[(0, 0)], [(0, 40)], [(0, 5)], [((-2147483648), 2147483647)], [(0, 5)], [((-2147483648), 2147483647)], [(46, 46)]], [], [(3, 0, 0, 0, 0), (1, 2, 0, 0, 0), (1, 3, 0, 0, 0), (1, 4, 0, 0, 0), (1, 5, 0, 0, 0), (1, 6, 0, 0, 0), (1, 0, 0, 0, 0)], [], [], [])), [(2, 0, 42)])
def zpA398h43 : Nat × zTm × zRk := (19, ([], ([[(0, 0)], [(0, 40)], [(0, 5)], [((-2147483648), 2147483647)], [(0, 5)], [((-2147483648), 2147483647)], [(47, 47)]], [], [(3, 0, 0, 0, 0), (1, 2, 0, 0, 0), (1, 3, 0, 0, 0), (1, 4, 0, 0, 0), (1, 5, 0, 0, 0), (1, 6, 0, 0, 0), (1, 0, 0, 0, 0)], [], [], [])), [(2, 0, 43)])
def zpA398h44 : Nat × zTm × zRk := (19, ([], ([[(0, 0)], [(0, 40)], [(0, 5)], [((-2147483648), 2147483647)], [(0, 5)], [((-2147483648), 2147483647)], [(48, 48)]], [], [(3, 0, 0, 0, 0), (1, 2, 0, 0, 0), (1, 3, 0, 0, 0), (1, 4, 0, 0, 0), (1, 5, 0, 0, 0), (1, 6, 0, 0, 0), (1, 0, 0, 0, 0)], [], [], [])), [(2, 0, 44)])
def zpA398h45 : Nat × zTm × zRk := (19, ([], ([[(0, 0)], [(0, 40)], [(0, 5)], [((-2147483648), 2147483647)], [(0, 5)], [((-2147483648), 2147483647)], [(49, 49)]], [], [(3, 0, 0, 0, 0), (1, 2, 0, 0, 0), (1, 3, 0, 0, 0), (1, 4, 0, 0, 0), (1, 5, 0, 0, 0), (1, 6, 0, 0, 0), (1, 0, 0, 0, 0)], [], [], [])), [(2, 0, 45)])
def zpA398h46 : Nat × zTm × zRk := (19, ([], ([[(0, 0)], [(0, 40)], [(0, 5)], [((-2147483648), 2147483647)], [(0, 5)], [((-2147483648), 2147483647)], [(5, 5)]], [], [(3, 0, 0, 0, 0), (1, 2, 0, 0, 0), (1, 3, 0, 0, 0), (1, 4, 0, 0, 0), (1, 5, 0, 0, 0), (1, 6, 0, 0, 0), (1, 0, 0, 0, 0)], [], [], [])), [(2, 0, 46)])
def zpA398h47 : Nat × zTm × zRk := (19, ([], ([[(0, 0)], [(0, 40)], [(0, 5)], [((-2147483648), 2147483647)], [(0, 5)], [((-2147483648), 2147483647)], [(50, 50)]], [], [(3, 0, 0, 0, 0), (1, 2, 0, 0, 0), (1, 3, 0, 0, 0), (1, 4, 0, 0, 0), (1, 5, 0, 0, 0), (1, 6, 0, 0, 0), (1, 0, 0, 0, 0)], [], [], [])), [(2, 0, 47)])
def zpA398h48 : Nat × zTm × zRk := (19, ([], ([[(0, 0)], [(0, 40)], [(0, 5)], [((-2147483648), 2147483647)], [(0, 5)], [((-2147483648), 2147483647)], [(51, 51)]], [], [(3, 0, 0, 0, 0), (1, 2, 0, 0, 0), (1, 3, 0, 0, 0), (1, 4, 0, 0, 0), (1, 5, 0, 0, 0), (1, 6, 0, 0, 0), (1, 0, 0, 0, 0)], [], [], [])), [(2, 0, 48)])
def zpA398h49 : Nat × zTm × zRk := (19, ([], ([[(0, 0)], [(0, 40)], [(0, 5)], [((-2147483648), 2147483647)], [(0, 5)], [((-2147483648), 2147483647)], [(52, 52)]], [], [(3, 0, 0, 0, 0), (1, 2, 0, 0, 0), (1, 3, 0, 0, 0), (1, 4, 0, 0, 0), (1, 5, 0, 0, 0), (1, 6, 0, 0, 0), (1, 0, 0, 0, 0)], [], [], [])), [(2, 0, 49)])
def zpA398h50 : Nat × zTm × zRk := (19, ([], ([[(0, 0)], [(0, 40)], [(0, 5)], [((-2147483648), 2147483647)], [(0, 5)], [((-2147483648), 2147483647)], [(53, 53)]], [], [(3, 0, 0, 0, 0), (1, 2, 0, 0, 0), (1, 3, 0, 0, 0), (1, 4, 0, 0, 0), (1, 5, 0, 0, 0), (1, 6, 0, 0, 0), (1, 0, 0, 0, 0)], [], [], [])), [(2, 0, 50)])
def zpA398h51 : Nat × zTm × zRk := (19, ([], ([[(0, 0)], [(0, 40)], [(0, 5)], [((-2147483648), 2147483647)], [(0, 5)], [((-2147483648), 2147483647)], [(54, 54)]], [], [(3, 0, 0, 0, 0), (1, 2, 0, 0, 0), (1, 3, 0, 0, 0), (1, 4, 0, 0, 0), (1, 5, 0, 0, 0), (1, 6, 0, 0, 0), (1, 0, 0, 0, 0)], [], [], [])), [(2, 0, 51)])
def zpA398h52 : Nat × zTm × zRk := (19, ([], ([[(0, 0)], [(0, 40)], [(0, 5)], [((-2147483648), 2147483647)], [(0, 5)], [((-2147483648), 2147483647)], [(55, 55)]], [], [(3, 0, 0, 0, 0), (1, 2, 0, 0, 0), (1, 3, 0, 0, 0), (1, 4, 0, 0, 0), (1, 5, 0, 0, 0), (1, 6, 0, 0, 0), (1, 0, 0, 0, 0)], [], [], [])), [(2, 0, 52)])
def zpA398h53 : Nat × zTm × zRk := (19, ([], ([[(0, 0)], [(0, 40)], [(0, 5)], [((-2147483648), 2147483647)], [(0, 5)], [((-2147483648), 2147483647)], [(56, 56)]], [], [(3, 0, 0, 0, 0), (1, 2, 0, 0, 0), (1, 3, 0, 0, 0), (1, 4, 0, 0, 0), (1, 5, 0, 0, 0), (1, 6, 0, 0, 0), (1, 0, 0, 0, 0)], [], [], [])), [(2, 0, 53)])
def zpA398h54 : Nat × zTm × zRk := (19, ([], ([[(0, 0)], [(0, 40)], [(0, 5)], [((-2147483648), 2147483647)], [(0, 5)], [((-2147483648), 2147483647)], [(57, 57)]], [], [(3, 0, 0, 0, 0), (1, 2, 0, 0, 0), (1, 3, 0, 0, 0), (1, 4, 0, 0, 0), (1, 5, 0, 0, 0), (1, 6, 0, 0, 0), (1, 0, 0, 0, 0)], [], [], [])), [(2, 0, 54)])
def zpA398h55 : Nat × zTm × zRk := (19, ([], ([[(0, 0)], [(0, 40)], [(0, 5)], [((-2147483648), 2147483647)], [(0, 5)], [((-2147483648), 2147483647)], [(58, 58)]], [], [(3, 0, 0, 0, 0), (1, 2, 0, 0, 0), (1, 3, 0, 0, 0), (1, 4, 0, 0, 0), (1, 5, 0, 0, 0), (1, 6, 0, 0, 0), (1, 0, 0, 0, 0)], [], [], [])), [(2, 0, 55)])
def zpA398h56 : Nat × zTm × zRk := (19, ([], ([[(0, 0)], [(0, 40)], [(0, 5)], [((-2147483648), 2147483647)], [(0, 5)], [((-2147483648), 2147483647)], [(59, 59)]], [], [(3, 0, 0, 0, 0), (1, 2, 0, 0, 0), (1, 3, 0, 0, 0), (1, 4, 0, 0, 0), (1, 5, 0, 0, 0), (1, 6, 0, 0, 0), (1, 0, 0, 0, 0)], [], [], [])), [(2, 0, 56)])
def zpA398h57 : Nat × zTm × zRk := (19, ([], ([[(0, 0)], [(0, 40)], [(0, 5)], [((-2147483648), 2147483647)], [(0, 5)], [((-2147483648), 2147483647)], [(6, 6)]], [], [(3, 0, 0, 0, 0), (1, 2, 0, 0, 0), (1, 3, 0, 0, 0), (1, 4, 0, 0, 0), (1, 5, 0, 0, 0), (1, 6, 0, 0, 0), (1, 0, 0, 0, 0)], [], [], [])), [(2, 0, 57)])
def zpA398h58 : Nat × zTm × zRk := (19, ([], ([[(0, 0)], [(0, 40)], [(0, 5)], [((-2147483648), 2147483647)], [(0, 5)], [((-2147483648), 2147483647)], [(60, 60)]], [], [(3, 0, 0, 0, 0), (1, 2, 0, 0, 0), (1, 3, 0, 0, 0), (1, 4, 0, 0, 0), (1, 5, 0, 0, 0), (1, 6, 0, 0, 0), (1, 0, 0, 0, 0)], [], [], [])), [(2, 0, 58)])
def zpA398h59 : Nat × zTm × zRk := (19, ([], ([[(0, 0)], [(0, 40)], [(0, 5)], [((-2147483648), 2147483647)], [(0, 5)], [((-2147483648), 2147483647)], [(7, 7)]], [], [(3, 0, 0, 0, 0), (1, 2, 0, 0, 0), (1, 3, 0, 0, 0), (1, 4, 0, 0, 0), (1, 5, 0, 0, 0), (1, 6, 0, 0, 0), (1, 0, 0, 0, 0)], [], [], [])), [(2, 0, 59)])
def zpA398h60 : Nat × zTm × zRk := (19, ([], ([[(0, 0)], [(0, 40)], [(0, 5)], [((-2147483648), 2147483647)], [(0, 5)], [((-2147483648), 2147483647)], [(8, 8)]], [], [(3, 0, 0, 0, 0), (1, 2, 0, 0, 0), (1, 3, 0, 0, 0), (1, 4, 0, 0, 0), (1, 5, 0, 0, 0), (1, 6, 0, 0, 0), (1, 0, 0, 0, 0)], [], [], [])), [(2, 0, 60)])
def zpA398h61 : Nat × zTm × zRk := (19, ([], ([[(0, 0)], [(0, 40)], [(0, 5)], [((-2147483648), 2147483647)], [(0, 5)], [((-2147483648), 2147483647)], [(9, 9)]], [], [(3, 0, 0, 0, 0), (1, 2, 0, 0, 0), (1, 3, 0, 0, 0), (1, 4, 0, 0, 0), (1, 5, 0, 0, 0), (1, 6, 0, 0, 0), (1, 0, 0, 0, 0)], [], [], [])), [(2, 0, 61)])
def zpA398 : zAnn := [zpA398h0, zpA398h1, zpA398h2, zpA398h3, zpA398h4, zpA398h5, zpA398h6, zpA398h7, zpA398h8, zpA398h9, zpA398h10, zpA398h11, zpA398h12, zpA398h13, zpA398h14, zpA398h15, zpA398h16, zpA398h17, zpA398h18, zpA398h19, zpA398h20, zpA398h21, zpA398h22, zpA398h23, zpA398h24, zpA398h25, zpA398h26, zpA398h27, zpA398h28, zpA398h29, zpA398h30, zpA398h31, zpA398h32, zpA398h33, zpA398h34, zpA398h35, zpA398h36, zpA398h37, zpA398h38, zpA398h39, zpA398h40, zpA398h41, zpA398h42, zpA398h43, zpA398h44, zpA398h45, zpA398h46, zpA398h47, zpA398h48, zpA398h49, zpA398h50, zpA398h51, zpA398h52, zpA398h53, zpA398h54, zpA398h55, zpA398h56, zpA398h57, zpA398h58, zpA398h59, zpA398h60, zpA398h61]

/-- PushedIn$Places.ruleAt () -/
def zpC399 : zC := (71, (1, 40), ([(0, 1, 0, 0)], ([[(0, 0)], [(0, 40)], [(0, 5)]], [], [(3, 0, 9, 0, 0), (1, 2, 0, 0, 0)], [], [], [])), [([(1, 0, 0, 0)], ([[(0, 0)], [(0, 40)], [(0, 5)], [((-2147483648), 2147483647)]], [], [], [(1, 3, 0, 0, 0)], [], [])), ([], ([[(0, 0)], [(0, 40)], [(0, 5)]], [], [], [(1, 0, (-1), 0, 0)], [], []))], [])
def zpA399 : zAnn := []

/-- PushedIn.isUnder () -/
def zpC400 : zC := (14, (2, 61), ([(0, 0, 0, 0), (0, 1, 0, 0)], ([[(0, 0)], [(0, 40)], [(0, 7)], [(0, 7)]], [], [(1, 2, 0, 0, 0), (1, 3, 0, 0, 0), (0, 0, 0, 0, 0), (0, 0, 0, 0, 0)], [], [], [])), [([], ([[(0, 0)], [(0, 40)], [(0, 7)], [(0, 7)]], [], [], [(1, 0, 0, 0, 0)], [], [])), ([], ([[(0, 0)], [(0, 40)], [(0, 7)], [(0, 7)]], [], [], [(1, 0, 1, 0, 0)], [], []))], [])
def zpA400 : zAnn := [(4, ([(0, 2, 0, 0), (0, 3, 0, 0)], ([[(0, 0)], [(0, 40)], [(0, 7)], [(0, 7)], [((-1), 7)], [(0, 8)]], [], [(1, 2, 0, 0, 0), (1, 3, 0, 0, 0), (1, 4, 0, 0, 0), (1, 5, 0, 0, 0)], [], [], [])), [(2, 0, 0), (0, 5, 8), (2, 0, 0)])]

/-- PushedIn.taken () -/
def zpC401 : zC := (32, (3, 84), ([(0, 1, 0, 0), (0, 2, 0, 0)], ([[(0, 0)], [(0, 40)], [((-2147483648), 2147483647)], [((-2147483648), 2147483647)]], [], [(3, 0, 0, 0, 0), (1, 2, 0, 0, 0), (1, 3, 0, 0, 0), (0, 0, 0, 0, 0)], [], [], [])), [([(1, 0, 0, 0)], ([[(0, 0)], [(0, 40)], [(0, 5)], [(0, 7)], [(0, 7)]], [], [], [(1, 4, 0, 0, 0)], [], [])), ([], ([[(0, 0)], [(0, 40)], [((-2147483648), 2147483647)], [((-2147483648), 2147483647)]], [], [], [(1, 0, (-1), 0, 0)], [], [])), ([], ([[(0, 0)], [(0, 40)], [(0, 5)], [(0, 7)]], [], [], [(1, 0, (-11), 0, 0)], [], [])), ([], ([[(0, 0)], [(0, 40)], [(0, 5)], [(0, 7)]], [], [], [(1, 0, (-12), 0, 0)], [], []))], [])
def zpA401 : zAnn := []

/-- PushedIn.count () -/
def zpC402 : zC := (7, (1, 40), ([(0, 1, 0, 0)], ([[(0, 0)], [(0, 40)], [((-2147483648), 2147483647)]], [], [(3, 0, 0, 0, 0), (1, 2, 0, 0, 0)], [], [], [])), [([(1, 0, 0, 0)], ([[(0, 0)], [(0, 40)], [(1, 5)], [(0, 2147483647)]], [], [], [(1, 3, 0, 0, 0)], [], [])), ([], ([[(0, 0)], [(0, 40)], [((-2147483648), (-1)), (6, 2147483647)]], [], [], [(1, 0, (-1), 0, 0)], [], [])), ([], ([[(0, 0)], [(0, 40)], [(0, 0)]], [], [], [(1, 1, 0, 0, 0)], [], []))], [])
def zpA402 : zAnn := []

/-- PushedInModel.within ((1, 0), (2, 3)) -/
def zpC403 : zC := (204, (1, 40), ([(0, 0, 0, 0)], ([[(0, 0)], [(0, 40)], [((-2147483648), 2147483647)]], [], [(2, 2, 0, 0, 0), (0, 0, 0, 0, 0), (2, 0, 0, 0, 0), (0, 0, 0, 0, 0), (2, 0, 3, 0, 0), (0, 0, 0, 0, 0)], [], [], [])), [([], ([[(0, 0)], [(0, 40)], [((-2147483648), (-1)), (4, 2147483647)]], [], [], [(1, 0, 0, 0, 0)], [], [])), ([], ([[(0, 0)], [(0, 40)], [(0, 3)]], [], [], [(1, 0, 1, 0, 0)], [], []))], [])
def zpA403 : zAnn := []

/-- PushedInModel.isDoor () -/
def zpC404 : zC := (158, (2, 65), ([(0, 0, 0, 0)], ([[(0, 0)], [(0, 40)], [((-2147483648), 2147483647)]], [], [(1, 2, 0, 0, 0)], [], [], [])), [([], ([[(0, 0)], [(0, 40)], [((-2147483648), (-1)), (4, 2147483647)]], [], [], [(1, 0, 0, 0, 0)], [], [])), ([], ([[(0, 0)], [(0, 40)], [(0, 3)]], [], [], [(1, 0, 1, 0, 0)], [], []))], [])
def zpA404 : zAnn := []

/-- PushedInModel.within ((1, 0), (2, 719)) -/
def zpC405 : zC := (204, (1, 40), ([(0, 0, 0, 0)], ([[(0, 0)], [(0, 40)], [((-2147483648), 2147483647)]], [], [(2, 2, 0, 0, 0), (0, 0, 0, 0, 0), (2, 0, 0, 0, 0), (0, 0, 0, 0, 0), (2, 0, 719, 0, 0), (0, 0, 0, 0, 0)], [], [], [])), [([], ([[(0, 0)], [(0, 40)], [((-2147483648), (-1)), (720, 2147483647)]], [], [], [(1, 0, 0, 0, 0)], [], [])), ([], ([[(0, 0)], [(0, 40)], [(0, 719)]], [], [], [(1, 0, 1, 0, 0)], [], []))], [])
def zpA405 : zAnn := []

/-- PushedInModel.isMinute () -/
def zpC406 : zC := (160, (2, 65), ([(0, 0, 0, 0)], ([[(0, 0)], [(0, 40)], [((-2147483648), 2147483647)]], [], [(1, 2, 0, 0, 0)], [], [], [])), [([], ([[(0, 0)], [(0, 40)], [((-2147483648), (-1)), (720, 2147483647)]], [], [], [(1, 0, 0, 0, 0)], [], [])), ([], ([[(0, 0)], [(0, 40)], [(0, 719)]], [], [], [(1, 0, 1, 0, 0)], [], []))], [])
def zpA406 : zAnn := []

/-- PushedInModel.away () -/
def zpC407 : zC := (129, (3, 85), ([(0, 1, 0, 0), (0, 2, 0, 0)], ([[(0, 0)], [(0, 40)], [((-2147483648), 2147483647)], [((-2147483648), 2147483647)]], [], [(3, 0, 90, 0, 0), (1, 2, 0, 0, 0), (1, 3, 0, 0, 0)], [], [], [])), [([(1, 0, 0, 0)], ([[(0, 0)], [(0, 40)], [(0, 3)], [(0, 2147483647)], [(1, 12)]], [], [], [(1, 4, 0, 0, 0)], [], [])), ([], ([[(0, 0)], [(0, 40)], [((-2147483648), 2147483647)], [((-2147483648), 2147483647)]], [], [], [(1, 0, (-1), 0, 0)], [], [])), ([], ([[(0, 0)], [(0, 40)], [(0, 3)], [(0, 2147483647)]], [], [], [(1, 0, (-3), 0, 0)], [], []))], [(90, 90, 1, 6), (95, 95, 0, 0), (96, 96, 0, 0), (97, 97, 0, 0)])
def zpA407 : zAnn := []

/-- PushedInModel.becomes () -/
def zpC408 : zC := (130, (1, 40), ([(0, 1, 0, 0), (0, 2, 0, 0), (2, 0, 90, 5), (2, 0, 90, 4)], ([[(0, 0)], [(0, 40)], [(0, 52)], [(0, 2147483646)], [(0, 40)], [(0, 40)]], [(4, 5, 0)], [(3, 0, 90, 0, 0), (1, 2, 0, 0, 0), (1, 3, 0, 0, 0), (0, 0, 0, 0, 0), (0, 0, 0, 0, 0)], [], [(0, 90, 5, (1, 4, 0, 0, 0)), (0, 90, 4, (1, 5, 0, 0, 0))], [])), [([(1, 0, 0, 0), (2, 0, 90, 5), (2, 0, 90, 4)], ([[(0, 0)], [(0, 40)], [(0, 52)], [(0, 2147483646)], [(0, 40)], [(0, 40)], [((-2147483648), 2147483647)], [(0, 40)], [(0, 40)]], [(8, 5, 1), (7, 8, 0), (7, 4, 1), (7, 5, 1), (4, 8, 0), (4, 7, 0)], [], [(1, 6, 0, 0, 0)], [(0, 90, 5, (1, 7, 0, 0, 0)), (0, 90, 4, (1, 8, 0, 0, 0))], []))], [(90, 90, 1, 4), (90, 90, 1, 5), (91, 91, 0, 0), (92, 92, 0, 0), (93, 93, 0, 0), (94, 94, 0, 0)])
def zpA408 : zAnn := [(26, ([(0, 3, 0, 0), (0, 4, 0, 0)], ([[(0, 0)], [(0, 40)], [(0, 52)], [(0, 2147483646)], [(40, 40)], [(0, 40)], [((-2147483648), 2147483647)], [(1, 40)]], [(4, 5, 0)], [(3, 0, 90, 0, 0), (1, 2, 0, 0, 0), (1, 3, 0, 0, 0), (1, 6, 0, 0, 0), (1, 7, 0, 0, 0)], [], [(0, 90, 5, (1, 4, 0, 0, 0)), (0, 90, 4, (1, 5, 0, 0, 0))], [])), [(2, 0, 0), (0, 7, 40), (2, 0, 0)])]

/-- PushedInModel.within ((1, 0), (2, 1)) -/
def zpC409 : zC := (204, (1, 40), ([(0, 0, 0, 0)], ([[(0, 0)], [(0, 40)], [((-2147483648), 2147483647)]], [], [(2, 2, 0, 0, 0), (0, 0, 0, 0, 0), (2, 0, 0, 0, 0), (0, 0, 0, 0, 0), (2, 0, 1, 0, 0), (0, 0, 0, 0, 0)], [], [], [])), [([], ([[(0, 0)], [(0, 40)], [((-2147483648), (-1)), (2, 2147483647)]], [], [], [(1, 0, 0, 0, 0)], [], [])), ([], ([[(0, 0)], [(0, 40)], [(0, 1)]], [], [], [(1, 0, 1, 0, 0)], [], []))], [])
def zpA409 : zAnn := []

/-- PushedInModel.within ((1, 0), (2, 5)) -/
def zpC410 : zC := (204, (1, 40), ([(0, 0, 0, 0)], ([[(0, 0)], [(0, 40)], [((-2147483648), 2147483647)]], [], [(2, 2, 0, 0, 0), (0, 0, 0, 0, 0), (2, 0, 0, 0, 0), (0, 0, 0, 0, 0), (2, 0, 5, 0, 0), (0, 0, 0, 0, 0)], [], [], [])), [([], ([[(0, 0)], [(0, 40)], [((-2147483648), (-1)), (6, 2147483647)]], [], [], [(1, 0, 0, 0, 0)], [], [])), ([], ([[(0, 0)], [(0, 40)], [(0, 5)]], [], [], [(1, 0, 1, 0, 0)], [], []))], [])
def zpA410 : zAnn := []

/-- PushedInModel.within ((1, 1), (2, 99)) -/
def zpC411 : zC := (204, (1, 40), ([(0, 0, 0, 0)], ([[(0, 0)], [(0, 40)], [((-2147483648), 2147483647)]], [], [(2, 2, 0, 0, 0), (0, 0, 0, 0, 0), (2, 0, 1, 0, 0), (0, 0, 0, 0, 0), (2, 0, 99, 0, 0), (0, 0, 0, 0, 0)], [], [], [])), [([], ([[(0, 0)], [(0, 40)], [((-2147483648), 0), (100, 2147483647)]], [], [], [(1, 0, 0, 0, 0)], [], [])), ([], ([[(0, 0)], [(0, 40)], [(1, 99)]], [], [], [(1, 0, 1, 0, 0)], [], []))], [])
def zpA411 : zAnn := []

/-- PushedInModel.matter () -/
def zpC412 : zC := (169, (2, 65), ([(0, 1, 0, 0), (0, 2, 0, 0), (0, 3, 0, 0), (2, 0, 90, 5), (2, 0, 90, 4)], ([[(0, 0)], [(0, 40)], [((-2147483648), 2147483647)], [((-2147483648), 2147483647)], [((-2147483648), 2147483647)], [(0, 40)], [(0, 40)]], [(5, 6, 0)], [(3, 0, 90, 0, 0), (1, 2, 0, 0, 0), (1, 3, 0, 0, 0), (1, 4, 0, 0, 0), (0, 0, 0, 0, 0)], [], [(0, 90, 5, (1, 5, 0, 0, 0)), (0, 90, 4, (1, 6, 0, 0, 0))], [])), [([(1, 0, 0, 0), (2, 0, 90, 5), (2, 0, 90, 4)], ([[(0, 0)], [(0, 40)], [(0, 5)], [(0, 1)], [(1, 99)], [(0, 40)], [(0, 40)], [((-2147483648), 2147483647)], [(0, 40)], [(0, 40)]], [(9, 6, 1), (8, 9, 0), (8, 5, 1), (8, 6, 1), (5, 9, 0), (5, 8, 0)], [], [(1, 7, 0, 0, 0)], [(0, 90, 5, (1, 8, 0, 0, 0)), (0, 90, 4, (1, 9, 0, 0, 0))], [])), ([], ([[(0, 0)], [(0, 40)], [((-2147483648), 2147483647)], [((-2147483648), 2147483647)], [((-2147483648), 2147483647)], [(0, 40)], [(0, 40)]], [], [], [(1, 0, (-1), 0, 0)], [(0, 90, 5, (1, 5, 0, 0, 0)), (0, 90, 4, (1, 6, 0, 0, 0))], []))], [(90, 90, 1, 4), (90, 90, 1, 5), (91, 91, 0, 0), (92, 92, 0, 0), (93, 93, 0, 0), (94, 94, 0, 0)])
def zpA412 : zAnn := []

/-- PushedInModel.within ((1, 0), (2, 2)) -/
def zpC413 : zC := (204, (1, 40), ([(0, 0, 0, 0)], ([[(0, 0)], [(0, 40)], [((-2147483648), 2147483647)]], [], [(2, 2, 0, 0, 0), (0, 0, 0, 0, 0), (2, 0, 0, 0, 0), (0, 0, 0, 0, 0), (2, 0, 2, 0, 0), (0, 0, 0, 0, 0)], [], [], [])), [([], ([[(0, 0)], [(0, 40)], [((-2147483648), (-1)), (3, 2147483647)]], [], [], [(1, 0, 0, 0, 0)], [], [])), ([], ([[(0, 0)], [(0, 40)], [(0, 2)]], [], [], [(1, 0, 1, 0, 0)], [], []))], [])
def zpA413 : zAnn := []

/-- PushedInModel.within ((1, 0), (2, 30)) -/
def zpC414 : zC := (204, (1, 40), ([(0, 0, 0, 0)], ([[(0, 0)], [(0, 40)], [((-2147483648), 2147483647)]], [], [(2, 2, 0, 0, 0), (0, 0, 0, 0, 0), (2, 0, 0, 0, 0), (0, 0, 0, 0, 0), (2, 0, 30, 0, 0), (0, 0, 0, 0, 0)], [], [], [])), [([], ([[(0, 0)], [(0, 40)], [((-2147483648), (-1)), (31, 2147483647)]], [], [], [(1, 0, 0, 0, 0)], [], [])), ([], ([[(0, 0)], [(0, 40)], [(0, 30)]], [], [], [(1, 0, 1, 0, 0)], [], []))], [])
def zpA414 : zAnn := []

/-- PushedInModel.yard () -/
def zpC415 : zC := (207, (2, 65), ([(0, 1, 0, 0), (0, 2, 0, 0), (2, 0, 90, 5), (2, 0, 90, 4)], ([[(0, 0)], [(0, 40)], [((-2147483648), 2147483647)], [((-2147483648), 2147483647)], [(0, 40)], [(0, 40)]], [(4, 5, 0)], [(3, 0, 90, 0, 0), (1, 2, 0, 0, 0), (1, 3, 0, 0, 0), (0, 0, 0, 0, 0)], [], [(0, 90, 5, (1, 4, 0, 0, 0)), (0, 90, 4, (1, 5, 0, 0, 0))], [])), [([(1, 0, 0, 0), (2, 0, 90, 5), (2, 0, 90, 4)], ([[(0, 0)], [(0, 40)], [(0, 2)], [(0, 30)], [(0, 40)], [(0, 40)], [((-2147483648), 2147483647)], [(0, 40)], [(0, 40)]], [(8, 5, 1), (7, 8, 0), (7, 4, 1), (7, 5, 1), (4, 8, 0), (4, 7, 0)], [], [(1, 6, 0, 0, 0)], [(0, 90, 5, (1, 7, 0, 0, 0)), (0, 90, 4, (1, 8, 0, 0, 0))], [])), ([], ([[(0, 0)], [(0, 40)], [((-2147483648), 2147483647)], [((-2147483648), 2147483647)], [(0, 40)], [(0, 40)]], [], [], [(1, 0, (-1), 0, 0)], [(0, 90, 5, (1, 4, 0, 0, 0)), (0, 90, 4, (1, 5, 0, 0, 0))], []))], [(90, 90, 1, 4), (90, 90, 1, 5), (90, 90, 1, 10), (90, 90, 1, 11), (91, 91, 0, 0), (92, 92, 0, 0), (93, 93, 0, 0), (94, 94, 0, 0)])
def zpA415 : zAnn := []

/-- PushedInModel.within ((1, 1), (2, 4)) -/
def zpC416 : zC := (204, (1, 40), ([(0, 0, 0, 0)], ([[(0, 0)], [(0, 40)], [((-2147483648), 2147483647)]], [], [(2, 2, 0, 0, 0), (0, 0, 0, 0, 0), (2, 0, 1, 0, 0), (0, 0, 0, 0, 0), (2, 0, 4, 0, 0), (0, 0, 0, 0, 0)], [], [], [])), [([], ([[(0, 0)], [(0, 40)], [((-2147483648), 0), (5, 2147483647)]], [], [], [(1, 0, 0, 0, 0)], [], [])), ([], ([[(0, 0)], [(0, 40)], [(1, 4)]], [], [], [(1, 0, 1, 0, 0)], [], []))], [])
def zpA416 : zAnn := []

/-- PushedInModel.feed () -/
def zpC417 : zC := (148, (2, 65), ([(0, 1, 0, 0), (0, 2, 0, 0)], ([[(0, 0)], [(0, 40)], [((-2147483648), 2147483647)], [((-2147483648), 2147483647)]], [], [(3, 0, 90, 0, 0), (1, 2, 0, 0, 0), (1, 3, 0, 0, 0), (0, 0, 0, 0, 0)], [], [], [])), [([(1, 0, 0, 0)], ([[(0, 0)], [(0, 40)], [(1, 4)], [((-2147483648), 2147483647)], [(1, 60)]], [], [], [(1, 4, 0, 0, 0)], [], [])), ([], ([[(0, 0)], [(0, 40)], [((-2147483648), 0), (5, 2147483647)], [((-2147483648), 2147483647)]], [], [], [(1, 0, (-1), 0, 0)], [], [])), ([], ([[(0, 0)], [(0, 40)], [(1, 4)], [((-2147483648), 2147483647)]], [], [], [(1, 0, (-3), 0, 0)], [], []))], [(90, 90, 1, 13), (98, 98, 0, 0)])
def zpA417 : zAnn := []

/-- PushedInModel.addComer () -/
def zpC418 : zC := (125, (1, 40), ([(2, 0, 90, 22), (2, 0, 109, 3)], ([[(0, 0)], [(0, 40)], [(0, 39)], [(0, 5)]], [], [(3, 0, 90, 0, 0)], [], [(0, 90, 22, (1, 2, 0, 0, 0)), (0, 109, 3, (1, 3, 0, 0, 0))], [])), [([], ([[(0, 0)], [(0, 40)], [(0, 39)], [(0, 5)]], [], [], [], [(0, 90, 22, (1, 2, 1, 0, 0)), (0, 109, 3, (1, 3, 0, 0, 0))], []))], [(90, 90, 1, 22), (91, 91, 0, 0), (101, 101, 0, 0), (102, 102, 0, 0), (103, 103, 0, 0), (104, 104, 0, 0), (105, 105, 0, 0), (106, 106, 0, 0), (107, 107, 0, 0), (108, 108, 0, 0)])
def zpA418 : zAnn := []

/-- PushedInModel.wrong () -/
def zpC419 : zC := (206, (1, 40), ([(2, 0, 90, 17), (2, 0, 90, 19)], ([[(0, 0)], [(0, 40)], [(1, 60)], [(1, 60)]], [(2, 3, 0), (3, 2, 0)], [(3, 0, 90, 0, 0)], [], [(0, 90, 17, (1, 2, 0, 0, 0)), (0, 90, 19, (1, 3, 0, 0, 0))], [])), [([], ([[(0, 0)], [(0, 40)], [(1, 60)], [(1, 60)]], [], [], [(1, 0, 0, 0, 0)], [(0, 90, 17, (1, 2, 0, 0, 0)), (0, 90, 19, (1, 3, 0, 0, 0))], []))], [(90, 90, 1, 19)])
def zpA419 : zAnn := []

/-- PushedInModel.numberRead ((1, 1), (2, 0), (3, 3)) -/
def zpC420 : zC := (173, (2, 60), ([(2, 0, 90, 17), (2, 0, 90, 18), (2, 0, 90, 19)], ([[(0, 0)], [(0, 40)], [(1, 7)], [(0, 60)], [(1, 7)]], [(2, 4, 0), (4, 2, 0)], [(3, 0, 90, 0, 0), (1, 0, 1, 0, 0), (1, 0, 0, 0, 0), (1, 0, 3, 0, 0), (0, 0, 0, 0, 0), (0, 0, 0, 0, 0)], [], [(0, 90, 17, (1, 2, 0, 0, 0)), (0, 90, 18, (1, 3, 0, 0, 0)), (0, 90, 19, (1, 4, 0, 0, 0))], [])), [([], ([[(0, 0)], [(0, 40)], [(1, 7)], [(0, 60)], [(1, 7)]], [], [], [(1, 0, 0, 0, 0)], [(0, 90, 17, (1, 2, 0, 0, 0)), (0, 90, 18, (1, 3, 0, 0, 0)), (0, 90, 19, (1, 4, 0, 0, 0))], []))], [(90, 90, 1, 19)])
def zpA420 : zAnn := [(9, ([], ([[(0, 0)], [(0, 40)], [(1, 7)], [(0, 60)], [(1, 7)]], [(2, 4, 0), (4, 2, 0)], [(3, 0, 90, 0, 0), (1, 0, 1, 0, 0), (1, 0, 0, 0, 0), (1, 0, 3, 0, 0), (1, 2, 0, 0, 0), (1, 0, 0, 0, 0)], [], [(0, 90, 17, (1, 2, 0, 0, 0)), (0, 90, 18, (1, 3, 0, 0, 0)), (0, 90, 19, (1, 4, 0, 0, 0))], [])), [(2, 0, 0)])]

/-- PushedInModel.byteAt () -/
def zpC421 : zC := (134, (1, 40), ([(2, 0, 90, 17), (2, 0, 90, 18)], ([[(0, 0)], [(0, 40)], [(0, 60)], [(0, 60)]], [], [(3, 0, 90, 0, 0)], [], [(0, 90, 17, (1, 2, 0, 0, 0)), (0, 90, 18, (1, 3, 0, 0, 0))], [])), [([(1, 0, 0, 0)], ([[(0, 0)], [(0, 40)], [(0, 59)], [(1, 60)], [(0, 255)]], [(2, 3, (-1))], [], [(1, 4, 0, 0, 0)], [(0, 90, 17, (1, 2, 0, 0, 0)), (0, 90, 18, (1, 3, 0, 0, 0))], [])), ([], ([[(0, 0)], [(0, 40)], [(0, 60)], [(0, 60)]], [(3, 2, 0)], [], [(1, 0, 0, 0, 0)], [(0, 90, 17, (1, 2, 0, 0, 0)), (0, 90, 18, (1, 3, 0, 0, 0))], []))], [])
def zpA421 : zAnn := []

/-- PushedInModel.wrong (((90, 19), -1),) -/
def zpC422 : zC := (206, (1, 40), ([(2, 0, 90, 17)], ([[(0, 0)], [(0, 40)], [(0, 60)]], [], [(3, 0, 90, 0, 0)], [], [(0, 90, 17, (1, 2, 0, 0, 0)), (0, 90, 19, (1, 0, (-1), 0, 0))], [])), [([], ([[(0, 0)], [(0, 40)], [(0, 60)]], [], [], [(1, 0, 0, 0, 0)], [(0, 90, 17, (1, 2, 0, 0, 0)), (0, 90, 19, (1, 2, 0, 0, 0))], []))], [(90, 90, 1, 19)])
def zpA422 : zAnn := []

/-- PushedInModel.numberRead ((1, 1), (2, 0), (3, 3), ((90, 19), -1)) -/
def zpC423 : zC := (173, (2, 65), ([(2, 0, 90, 17), (2, 0, 90, 18)], ([[(0, 0)], [(0, 40)], [(4, 60)], [(4, 60)]], [(2, 3, 0)], [(3, 0, 90, 0, 0), (1, 0, 1, 0, 0), (1, 0, 0, 0, 0), (1, 0, 3, 0, 0), (0, 0, 0, 0, 0), (0, 0, 0, 0, 0)], [], [(0, 90, 17, (1, 2, 0, 0, 0)), (0, 90, 18, (1, 3, 0, 0, 0)), (0, 90, 19, (1, 0, (-1), 0, 0))], [])), [([(1, 0, 0, 0), (2, 0, 90, 17)], ([[(0, 0)], [(0, 40)], [(4, 59)], [(4, 60)], [(0, 3)], [(5, 60)]], [(5, 3, 0), (2, 5, (-1)), (2, 3, (-1))], [], [(1, 4, 0, 0, 0)], [(0, 90, 17, (1, 5, 0, 0, 0)), (0, 90, 18, (1, 3, 0, 0, 0)), (0, 90, 19, (1, 0, (-1), 0, 0))], [])), ([(2, 0, 90, 17), (2, 0, 90, 19)], ([[(0, 0)], [(0, 40)], [(4, 60)], [(4, 60)], [(4, 60)], [(4, 60)]], [(4, 5, 0), (4, 2, 0), (4, 3, 0), (5, 4, 0), (5, 2, 0), (5, 3, 0), (2, 4, 0), (2, 5, 0)], [], [(1, 0, 0, 0, 0)], [(0, 90, 17, (1, 4, 0, 0, 0)), (0, 90, 18, (1, 3, 0, 0, 0)), (0, 90, 19, (1, 5, 0, 0, 0))], []))], [(90, 90, 1, 17), (90, 90, 1, 19)])
def zpA423 : zAnn := [(9, ([(0, 5, 0, 0), (2, 0, 90, 17)], ([[(0, 0)], [(0, 40)], [(4, 60)], [(4, 60)], [((-2147483648), 2147483647)], [(4, 60)]], [(5, 3, 0), (2, 5, 0), (2, 3, 0)], [(3, 0, 90, 0, 0), (1, 0, 1, 0, 0), (1, 0, 0, 0, 0), (1, 0, 3, 0, 0), (1, 2, 0, 0, 0), (1, 4, 0, 0, 0)], [], [(0, 90, 17, (1, 5, 0, 0, 0)), (0, 90, 18, (1, 3, 0, 0, 0)), (0, 90, 19, (1, 0, (-1), 0, 0))], [])), [(2, 0, 0), (0, 5, 60), (2, 0, 0)])]

/-- PushedInModel.wrong (((90, 19), 0),) -/
def zpC424 : zC := (206, (1, 40), ([], ([[(0, 0)], [(0, 40)]], [], [(3, 0, 90, 0, 0)], [], [(0, 90, 17, (1, 0, 0, 0, 0)), (0, 90, 19, (1, 0, 0, 0, 0))], [])), [([], ([[(0, 0)], [(0, 40)]], [], [], [(1, 0, 0, 0, 0)], [(0, 90, 17, (1, 0, 0, 0, 0)), (0, 90, 19, (1, 0, 0, 0, 0))], []))], [(90, 90, 1, 19)])
def zpA424 : zAnn := []

/-- PushedInModel.numberRead ((1, 1), (2, 0), (3, 3), ((90, 19), 0)) -/
def zpC425 : zC := (173, (2, 60), ([(2, 0, 90, 18)], ([[(0, 0)], [(0, 40)], [(0, 60)]], [], [(3, 0, 90, 0, 0), (1, 0, 1, 0, 0), (1, 0, 0, 0, 0), (1, 0, 3, 0, 0), (0, 0, 0, 0, 0), (0, 0, 0, 0, 0)], [], [(0, 90, 17, (1, 0, 0, 0, 0)), (0, 90, 18, (1, 2, 0, 0, 0)), (0, 90, 19, (1, 0, 0, 0, 0))], [])), [([], ([[(0, 0)], [(0, 40)], [(0, 60)]], [], [], [(1, 0, 0, 0, 0)], [(0, 90, 17, (1, 0, 0, 0, 0)), (0, 90, 18, (1, 2, 0, 0, 0)), (0, 90, 19, (1, 0, 0, 0, 0))], []))], [(90, 90, 1, 19)])
def zpA425 : zAnn := [(9, ([], ([[(0, 0)], [(0, 40)], [(0, 60)]], [], [(3, 0, 90, 0, 0), (1, 0, 1, 0, 0), (1, 0, 0, 0, 0), (1, 0, 3, 0, 0), (1, 0, 0, 0, 0), (1, 0, 0, 0, 0)], [], [(0, 90, 17, (1, 0, 0, 0, 0)), (0, 90, 18, (1, 2, 0, 0, 0)), (0, 90, 19, (1, 0, 0, 0, 0))], [])), [(2, 0, 0)])]

/-- PushedInModel.numberRead ((1, 1), (2, 0), (3, 5)) -/
def zpC426 : zC := (173, (2, 60), ([(2, 0, 90, 17), (2, 0, 90, 18), (2, 0, 90, 19)], ([[(0, 0)], [(0, 40)], [(1, 60)], [(0, 60)], [(1, 60)]], [(2, 4, 0), (4, 2, 0)], [(3, 0, 90, 0, 0), (1, 0, 1, 0, 0), (1, 0, 0, 0, 0), (1, 0, 5, 0, 0), (0, 0, 0, 0, 0), (0, 0, 0, 0, 0)], [], [(0, 90, 17, (1, 2, 0, 0, 0)), (0, 90, 18, (1, 3, 0, 0, 0)), (0, 90, 19, (1, 4, 0, 0, 0))], [])), [([], ([[(0, 0)], [(0, 40)], [(1, 60)], [(0, 60)], [(1, 60)]], [], [], [(1, 0, 0, 0, 0)], [(0, 90, 17, (1, 2, 0, 0, 0)), (0, 90, 18, (1, 3, 0, 0, 0)), (0, 90, 19, (1, 4, 0, 0, 0))], []))], [(90, 90, 1, 19)])
def zpA426 : zAnn := [(9, ([], ([[(0, 0)], [(0, 40)], [(1, 60)], [(0, 60)], [(1, 60)]], [(2, 4, 0), (4, 2, 0)], [(3, 0, 90, 0, 0), (1, 0, 1, 0, 0), (1, 0, 0, 0, 0), (1, 0, 5, 0, 0), (1, 2, 0, 0, 0), (1, 0, 0, 0, 0)], [], [(0, 90, 17, (1, 2, 0, 0, 0)), (0, 90, 18, (1, 3, 0, 0, 0)), (0, 90, 19, (1, 4, 0, 0, 0))], [])), [(2, 0, 0)])]

/-- PushedInModel.numberRead ((1, 1), (2, 0), (3, 5), ((90, 19), -1)) -/
def zpC427 : zC := (173, (2, 65), ([(2, 0, 90, 17), (2, 0, 90, 18)], ([[(0, 0)], [(0, 40)], [(6, 60)], [(6, 60)]], [(2, 3, 0)], [(3, 0, 90, 0, 0), (1, 0, 1, 0, 0), (1, 0, 0, 0, 0), (1, 0, 5, 0, 0), (0, 0, 0, 0, 0), (0, 0, 0, 0, 0)], [], [(0, 90, 17, (1, 2, 0, 0, 0)), (0, 90, 18, (1, 3, 0, 0, 0)), (0, 90, 19, (1, 0, (-1), 0, 0))], [])), [([(1, 0, 0, 0), (2, 0, 90, 17)], ([[(0, 0)], [(0, 40)], [(6, 59)], [(6, 60)], [(0, 5)], [(7, 60)]], [(5, 3, 0), (2, 5, (-1)), (2, 3, (-1))], [], [(1, 4, 0, 0, 0)], [(0, 90, 17, (1, 5, 0, 0, 0)), (0, 90, 18, (1, 3, 0, 0, 0)), (0, 90, 19, (1, 0, (-1), 0, 0))], [])), ([(2, 0, 90, 17), (2, 0, 90, 19)], ([[(0, 0)], [(0, 40)], [(6, 60)], [(6, 60)], [(6, 60)], [(6, 60)]], [(4, 5, 0), (4, 2, 0), (4, 3, 0), (5, 4, 0), (5, 2, 0), (5, 3, 0), (2, 4, 0), (2, 5, 0)], [], [(1, 0, 0, 0, 0)], [(0, 90, 17, (1, 4, 0, 0, 0)), (0, 90, 18, (1, 3, 0, 0, 0)), (0, 90, 19, (1, 5, 0, 0, 0))], []))], [(90, 90, 1, 17), (90, 90, 1, 19)])
def zpA427 : zAnn := [(9, ([(0, 5, 0, 0), (2, 0, 90, 17)], ([[(0, 0)], [(0, 40)], [(6, 60)], [(6, 60)], [((-2147483648), 2147483647)], [(6, 60)]], [(5, 3, 0), (2, 5, 0), (2, 3, 0)], [(3, 0, 90, 0, 0), (1, 0, 1, 0, 0), (1, 0, 0, 0, 0), (1, 0, 5, 0, 0), (1, 2, 0, 0, 0), (1, 4, 0, 0, 0)], [], [(0, 90, 17, (1, 5, 0, 0, 0)), (0, 90, 18, (1, 3, 0, 0, 0)), (0, 90, 19, (1, 0, (-1), 0, 0))], [])), [(2, 0, 0), (0, 5, 60), (2, 0, 0)])]

/-- PushedInModel.numberRead ((1, 1), (2, 0), (3, 5), ((90, 19), 0)) -/
def zpC428 : zC := (173, (2, 60), ([(2, 0, 90, 18)], ([[(0, 0)], [(0, 40)], [(0, 60)]], [], [(3, 0, 90, 0, 0), (1, 0, 1, 0, 0), (1, 0, 0, 0, 0), (1, 0, 5, 0, 0), (0, 0, 0, 0, 0), (0, 0, 0, 0, 0)], [], [(0, 90, 17, (1, 0, 0, 0, 0)), (0, 90, 18, (1, 2, 0, 0, 0)), (0, 90, 19, (1, 0, 0, 0, 0))], [])), [([], ([[(0, 0)], [(0, 40)], [(0, 60)]], [], [], [(1, 0, 0, 0, 0)], [(0, 90, 17, (1, 0, 0, 0, 0)), (0, 90, 18, (1, 2, 0, 0, 0)), (0, 90, 19, (1, 0, 0, 0, 0))], []))], [(90, 90, 1, 19)])
def zpA428 : zAnn := [(9, ([], ([[(0, 0)], [(0, 40)], [(0, 60)]], [], [(3, 0, 90, 0, 0), (1, 0, 1, 0, 0), (1, 0, 0, 0, 0), (1, 0, 5, 0, 0), (1, 0, 0, 0, 0), (1, 0, 0, 0, 0)], [], [(0, 90, 17, (1, 0, 0, 0, 0)), (0, 90, 18, (1, 2, 0, 0, 0)), (0, 90, 19, (1, 0, 0, 0, 0))], [])), [(2, 0, 0)])]

/-- PushedInModel.numberRead ((1, 1), (2, 0), (3, 7)) -/
def zpC429 : zC := (173, (2, 60), ([(2, 0, 90, 17), (2, 0, 90, 18), (2, 0, 90, 19)], ([[(0, 0)], [(0, 40)], [(1, 60)], [(0, 60)], [(1, 60)]], [(2, 4, 0), (4, 2, 0)], [(3, 0, 90, 0, 0), (1, 0, 1, 0, 0), (1, 0, 0, 0, 0), (1, 0, 7, 0, 0), (0, 0, 0, 0, 0), (0, 0, 0, 0, 0)], [], [(0, 90, 17, (1, 2, 0, 0, 0)), (0, 90, 18, (1, 3, 0, 0, 0)), (0, 90, 19, (1, 4, 0, 0, 0))], [])), [([], ([[(0, 0)], [(0, 40)], [(1, 60)], [(0, 60)], [(1, 60)]], [], [], [(1, 0, 0, 0, 0)], [(0, 90, 17, (1, 2, 0, 0, 0)), (0, 90, 18, (1, 3, 0, 0, 0)), (0, 90, 19, (1, 4, 0, 0, 0))], []))], [(90, 90, 1, 19)])
def zpA429 : zAnn := [(9, ([], ([[(0, 0)], [(0, 40)], [(1, 60)], [(0, 60)], [(1, 60)]], [(2, 4, 0), (4, 2, 0)], [(3, 0, 90, 0, 0), (1, 0, 1, 0, 0), (1, 0, 0, 0, 0), (1, 0, 7, 0, 0), (1, 2, 0, 0, 0), (1, 0, 0, 0, 0)], [], [(0, 90, 17, (1, 2, 0, 0, 0)), (0, 90, 18, (1, 3, 0, 0, 0)), (0, 90, 19, (1, 4, 0, 0, 0))], [])), [(2, 0, 0)])]

/-- PushedInModel.within ((1, 0), (2, 7)) -/
def zpC430 : zC := (204, (1, 40), ([(0, 0, 0, 0)], ([[(0, 0)], [(0, 40)], [((-2147483648), 2147483647)]], [], [(2, 2, 0, 0, 0), (0, 0, 0, 0, 0), (2, 0, 0, 0, 0), (0, 0, 0, 0, 0), (2, 0, 7, 0, 0), (0, 0, 0, 0, 0)], [], [], [])), [([], ([[(0, 0)], [(0, 40)], [((-2147483648), (-1)), (8, 2147483647)]], [], [], [(1, 0, 0, 0, 0)], [], [])), ([], ([[(0, 0)], [(0, 40)], [(0, 7)]], [], [], [(1, 0, 1, 0, 0)], [], []))], [])
def zpA430 : zAnn := []

/-- PushedInModel.numberRead ((1, 1), (2, 0), (3, 7), ((90, 19), -1)) -/
def zpC431 : zC := (173, (2, 65), ([(2, 0, 90, 17), (2, 0, 90, 18)], ([[(0, 0)], [(0, 40)], [(8, 60)], [(8, 60)]], [(2, 3, 0)], [(3, 0, 90, 0, 0), (1, 0, 1, 0, 0), (1, 0, 0, 0, 0), (1, 0, 7, 0, 0), (0, 0, 0, 0, 0), (0, 0, 0, 0, 0)], [], [(0, 90, 17, (1, 2, 0, 0, 0)), (0, 90, 18, (1, 3, 0, 0, 0)), (0, 90, 19, (1, 0, (-1), 0, 0))], [])), [([(1, 0, 0, 0), (2, 0, 90, 17)], ([[(0, 0)], [(0, 40)], [(8, 59)], [(8, 60)], [(0, 7)], [(9, 60)]], [(5, 3, 0), (2, 5, (-1)), (2, 3, (-1))], [], [(1, 4, 0, 0, 0)], [(0, 90, 17, (1, 5, 0, 0, 0)), (0, 90, 18, (1, 3, 0, 0, 0)), (0, 90, 19, (1, 0, (-1), 0, 0))], [])), ([(2, 0, 90, 17), (2, 0, 90, 19)], ([[(0, 0)], [(0, 40)], [(8, 60)], [(8, 60)], [(8, 60)], [(8, 60)]], [(4, 5, 0), (4, 2, 0), (4, 3, 0), (5, 4, 0), (5, 2, 0), (5, 3, 0), (2, 4, 0), (2, 5, 0)], [], [(1, 0, 0, 0, 0)], [(0, 90, 17, (1, 4, 0, 0, 0)), (0, 90, 18, (1, 3, 0, 0, 0)), (0, 90, 19, (1, 5, 0, 0, 0))], []))], [(90, 90, 1, 17), (90, 90, 1, 19)])
def zpA431 : zAnn := [(9, ([(0, 5, 0, 0), (2, 0, 90, 17)], ([[(0, 0)], [(0, 40)], [(8, 60)], [(8, 60)], [((-2147483648), 2147483647)], [(8, 60)]], [(5, 3, 0), (2, 5, 0), (2, 3, 0)], [(3, 0, 90, 0, 0), (1, 0, 1, 0, 0), (1, 0, 0, 0, 0), (1, 0, 7, 0, 0), (1, 2, 0, 0, 0), (1, 4, 0, 0, 0)], [], [(0, 90, 17, (1, 5, 0, 0, 0)), (0, 90, 18, (1, 3, 0, 0, 0)), (0, 90, 19, (1, 0, (-1), 0, 0))], [])), [(2, 0, 0), (0, 5, 60), (2, 0, 0)])]

/-- PushedInModel.numberRead ((1, 1), (2, 0), (3, 7), ((90, 19), 0)) -/
def zpC432 : zC := (173, (2, 60), ([(2, 0, 90, 18)], ([[(0, 0)], [(0, 40)], [(0, 60)]], [], [(3, 0, 90, 0, 0), (1, 0, 1, 0, 0), (1, 0, 0, 0, 0), (1, 0, 7, 0, 0), (0, 0, 0, 0, 0), (0, 0, 0, 0, 0)], [], [(0, 90, 17, (1, 0, 0, 0, 0)), (0, 90, 18, (1, 2, 0, 0, 0)), (0, 90, 19, (1, 0, 0, 0, 0))], [])), [([], ([[(0, 0)], [(0, 40)], [(0, 60)]], [], [], [(1, 0, 0, 0, 0)], [(0, 90, 17, (1, 0, 0, 0, 0)), (0, 90, 18, (1, 2, 0, 0, 0)), (0, 90, 19, (1, 0, 0, 0, 0))], []))], [(90, 90, 1, 19)])
def zpA432 : zAnn := [(9, ([], ([[(0, 0)], [(0, 40)], [(0, 60)]], [], [(3, 0, 90, 0, 0), (1, 0, 1, 0, 0), (1, 0, 0, 0, 0), (1, 0, 7, 0, 0), (1, 0, 0, 0, 0), (1, 0, 0, 0, 0)], [], [(0, 90, 17, (1, 0, 0, 0, 0)), (0, 90, 18, (1, 2, 0, 0, 0)), (0, 90, 19, (1, 0, 0, 0, 0))], [])), [(2, 0, 0)])]

/-- PushedInModel.within ((1, 0), (2, 99)) -/
def zpC433 : zC := (204, (1, 40), ([(0, 0, 0, 0)], ([[(0, 0)], [(0, 40)], [((-2147483648), 2147483647)]], [], [(2, 2, 0, 0, 0), (0, 0, 0, 0, 0), (2, 0, 0, 0, 0), (0, 0, 0, 0, 0), (2, 0, 99, 0, 0), (0, 0, 0, 0, 0)], [], [], [])), [([], ([[(0, 0)], [(0, 40)], [((-2147483648), (-1)), (100, 2147483647)]], [], [], [(1, 0, 0, 0, 0)], [], [])), ([], ([[(0, 0)], [(0, 40)], [(0, 99)]], [], [], [(1, 0, 1, 0, 0)], [], []))], [])
def zpA433 : zAnn := []

/-- PushedInModel.numberRead ((1, 2), (2, 0), (3, 99), ((90, 19), -1)) -/
def zpC434 : zC := (173, (2, 65), ([(2, 0, 90, 17), (2, 0, 90, 18)], ([[(0, 0)], [(0, 40)], [(10, 60)], [(10, 60)]], [(2, 3, 0)], [(3, 0, 90, 0, 0), (1, 0, 2, 0, 0), (1, 0, 0, 0, 0), (1, 0, 99, 0, 0), (0, 0, 0, 0, 0), (0, 0, 0, 0, 0)], [], [(0, 90, 17, (1, 2, 0, 0, 0)), (0, 90, 18, (1, 3, 0, 0, 0)), (0, 90, 19, (1, 0, (-1), 0, 0))], [])), [([(1, 0, 0, 0), (2, 0, 90, 17)], ([[(0, 0)], [(0, 40)], [(10, 59)], [(10, 60)], [(0, 99)], [(11, 60)]], [(5, 3, 0), (2, 5, (-1)), (2, 3, (-1))], [], [(1, 4, 0, 0, 0)], [(0, 90, 17, (1, 5, 0, 0, 0)), (0, 90, 18, (1, 3, 0, 0, 0)), (0, 90, 19, (1, 0, (-1), 0, 0))], [])), ([(2, 0, 90, 17), (2, 0, 90, 19)], ([[(0, 0)], [(0, 40)], [(10, 60)], [(10, 60)], [(10, 60)], [(10, 60)]], [(4, 5, 0), (4, 2, 0), (4, 3, 0), (5, 4, 0), (5, 2, 0), (5, 3, 0), (2, 4, 0), (2, 5, 0)], [], [(1, 0, 0, 0, 0)], [(0, 90, 17, (1, 4, 0, 0, 0)), (0, 90, 18, (1, 3, 0, 0, 0)), (0, 90, 19, (1, 5, 0, 0, 0))], []))], [(90, 90, 1, 17), (90, 90, 1, 19)])
def zpA434 : zAnn := [(9, ([(0, 5, 0, 0), (2, 0, 90, 17)], ([[(0, 0)], [(0, 40)], [(10, 60)], [(10, 60)], [((-2147483648), 2147483647)], [(10, 60)]], [(5, 3, 0), (2, 5, 0), (2, 3, 0)], [(3, 0, 90, 0, 0), (1, 0, 2, 0, 0), (1, 0, 0, 0, 0), (1, 0, 99, 0, 0), (1, 2, 0, 0, 0), (1, 4, 0, 0, 0)], [], [(0, 90, 17, (1, 5, 0, 0, 0)), (0, 90, 18, (1, 3, 0, 0, 0)), (0, 90, 19, (1, 0, (-1), 0, 0))], [])), [(2, 0, 0), (0, 5, 60), (2, 0, 0)])]

/-- PushedInModel.within ((1, 0), (2, 718)) -/
def zpC435 : zC := (204, (1, 40), ([(0, 0, 0, 0)], ([[(0, 0)], [(0, 40)], [((-2147483648), 2147483647)]], [], [(2, 2, 0, 0, 0), (0, 0, 0, 0, 0), (2, 0, 0, 0, 0), (0, 0, 0, 0, 0), (2, 0, 718, 0, 0), (0, 0, 0, 0, 0)], [], [], [])), [([], ([[(0, 0)], [(0, 40)], [((-2147483648), (-1)), (719, 2147483647)]], [], [], [(1, 0, 0, 0, 0)], [], [])), ([], ([[(0, 0)], [(0, 40)], [(0, 718)]], [], [], [(1, 0, 1, 0, 0)], [], []))], [])
def zpA435 : zAnn := []

/-- PushedInModel.numberRead ((1, 3), (2, 0), (3, 718), ((90, 19), -1)) -/
def zpC436 : zC := (173, (2, 65), ([(2, 0, 90, 18)], ([[(0, 0)], [(0, 40)], [(0, 60)]], [], [(3, 0, 90, 0, 0), (1, 0, 3, 0, 0), (1, 0, 0, 0, 0), (1, 0, 718, 0, 0), (0, 0, 0, 0, 0), (0, 0, 0, 0, 0)], [], [(0, 90, 17, (1, 0, 0, 0, 0)), (0, 90, 18, (1, 2, 0, 0, 0)), (0, 90, 19, (1, 0, (-1), 0, 0))], [])), [([(1, 0, 0, 0), (2, 0, 90, 17)], ([[(0, 0)], [(0, 40)], [(0, 60)], [(0, 718)], [(1, 3)]], [], [], [(1, 3, 0, 0, 0)], [(0, 90, 17, (1, 4, 0, 0, 0)), (0, 90, 18, (1, 2, 0, 0, 0)), (0, 90, 19, (1, 0, (-1), 0, 0))], [])), ([], ([[(0, 0)], [(0, 40)], [(0, 60)]], [], [], [(1, 0, 0, 0, 0)], [(0, 90, 17, (1, 0, 0, 0, 0)), (0, 90, 18, (1, 2, 0, 0, 0)), (0, 90, 19, (1, 0, 0, 0, 0))], []))], [(90, 90, 1, 17), (90, 90, 1, 19)])
def zpA436 : zAnn := [(9, ([(0, 5, 0, 0), (2, 0, 90, 17)], ([[(0, 0)], [(0, 40)], [(0, 60)], [((-2147483648), 2147483647)], [(0, 3)]], [], [(3, 0, 90, 0, 0), (1, 0, 3, 0, 0), (1, 0, 0, 0, 0), (1, 0, 718, 0, 0), (1, 0, 0, 0, 0), (1, 3, 0, 0, 0)], [], [(0, 90, 17, (1, 4, 0, 0, 0)), (0, 90, 18, (1, 2, 0, 0, 0)), (0, 90, 19, (1, 0, (-1), 0, 0))], [])), [(2, 0, 0), (0, 4, 3), (2, 0, 0)])]

/-- PushedInModel.numberRead ((1, 3), (2, 1), (3, 719), ((90, 19), 0)) -/
def zpC437 : zC := (173, (2, 60), ([(2, 0, 90, 18)], ([[(0, 0)], [(0, 40)], [(0, 60)]], [], [(3, 0, 90, 0, 0), (1, 0, 3, 0, 0), (1, 0, 1, 0, 0), (1, 0, 719, 0, 0), (0, 0, 0, 0, 0), (0, 0, 0, 0, 0)], [], [(0, 90, 17, (1, 0, 0, 0, 0)), (0, 90, 18, (1, 2, 0, 0, 0)), (0, 90, 19, (1, 0, 0, 0, 0))], [])), [([], ([[(0, 0)], [(0, 40)], [(0, 60)]], [], [], [(1, 0, 0, 0, 0)], [(0, 90, 17, (1, 0, 0, 0, 0)), (0, 90, 18, (1, 2, 0, 0, 0)), (0, 90, 19, (1, 0, 0, 0, 0))], []))], [(90, 90, 1, 19)])
def zpA437 : zAnn := [(9, ([], ([[(0, 0)], [(0, 40)], [(0, 60)]], [], [(3, 0, 90, 0, 0), (1, 0, 3, 0, 0), (1, 0, 1, 0, 0), (1, 0, 719, 0, 0), (1, 0, 0, 0, 0), (1, 0, 0, 0, 0)], [], [(0, 90, 17, (1, 0, 0, 0, 0)), (0, 90, 18, (1, 2, 0, 0, 0)), (0, 90, 19, (1, 0, 0, 0, 0))], [])), [(2, 0, 0)])]

/-- PushedInModel.numberRead ((1, 3), (3, 719)) -/
def zpC438 : zC := (173, (2, 60), ([(0, 2, 0, 0), (2, 0, 90, 17), (2, 0, 90, 18), (2, 0, 90, 19)], ([[(0, 0)], [(0, 40)], [(1, 719)], [(1, 3)], [(0, 60)], [(1, 3)]], [(3, 5, 0), (5, 3, 0)], [(3, 0, 90, 0, 0), (1, 0, 3, 0, 0), (1, 2, 0, 0, 0), (1, 0, 719, 0, 0), (0, 0, 0, 0, 0), (0, 0, 0, 0, 0)], [], [(0, 90, 17, (1, 3, 0, 0, 0)), (0, 90, 18, (1, 4, 0, 0, 0)), (0, 90, 19, (1, 5, 0, 0, 0))], [])), [([], ([[(0, 0)], [(0, 40)], [(1, 719)], [(1, 3)], [(0, 60)], [(1, 3)]], [], [], [(1, 0, 0, 0, 0)], [(0, 90, 17, (1, 3, 0, 0, 0)), (0, 90, 18, (1, 4, 0, 0, 0)), (0, 90, 19, (1, 5, 0, 0, 0))], []))], [(90, 90, 1, 19)])
def zpA438 : zAnn := [(9, ([], ([[(0, 0)], [(0, 40)], [(1, 719)], [(1, 3)], [(0, 60)], [(1, 3)]], [(3, 5, 0), (5, 3, 0)], [(3, 0, 90, 0, 0), (1, 0, 3, 0, 0), (1, 2, 0, 0, 0), (1, 0, 719, 0, 0), (1, 3, 0, 0, 0), (1, 0, 0, 0, 0)], [], [(0, 90, 17, (1, 3, 0, 0, 0)), (0, 90, 18, (1, 4, 0, 0, 0)), (0, 90, 19, (1, 5, 0, 0, 0))], [])), [(2, 0, 0)])]

/-- PushedInModel.within ((2, 719),) -/
def zpC439 : zC := (204, (1, 40), ([(0, 0, 0, 0), (0, 2, 0, 0)], ([[(0, 0)], [(0, 40)], [((-2147483648), 2147483647)], [(1, 719)]], [], [(2, 2, 0, 0, 0), (0, 0, 0, 0, 0), (2, 3, 0, 0, 0), (0, 0, 0, 0, 0), (2, 0, 719, 0, 0), (0, 0, 0, 0, 0)], [], [], [])), [([], ([[(0, 0)], [(0, 40)], [((-2147483648), 718), (720, 2147483647)], [(1, 719)]], [], [], [(1, 0, 0, 0, 0)], [], [])), ([], ([[(0, 0)], [(0, 40)], [(1, 719)], [(1, 719)]], [(3, 2, 0)], [], [(1, 0, 1, 0, 0)], [], []))], [])
def zpA439 : zAnn := []

/-- PushedInModel.numberRead ((1, 3), (3, 719), ((90, 19), -1)) -/
def zpC440 : zC := (173, (2, 65), ([(0, 2, 0, 0), (2, 0, 90, 17), (2, 0, 90, 18)], ([[(0, 0)], [(0, 40)], [(1, 719)], [(2, 4)], [(2, 60)]], [(3, 4, 0)], [(3, 0, 90, 0, 0), (1, 0, 3, 0, 0), (1, 2, 0, 0, 0), (1, 0, 719, 0, 0), (0, 0, 0, 0, 0), (0, 0, 0, 0, 0)], [], [(0, 90, 17, (1, 3, 0, 0, 0)), (0, 90, 18, (1, 4, 0, 0, 0)), (0, 90, 19, (1, 0, (-1), 0, 0))], [])), [([(1, 0, 0, 0), (2, 0, 90, 17)], ([[(0, 0)], [(0, 40)], [(1, 719)], [(2, 4)], [(2, 60)], [(1, 719)], [(3, 7)]], [(6, 4, 0), (2, 5, 0), (3, 6, (-1)), (3, 4, (-1))], [], [(1, 5, 0, 0, 0)], [(0, 90, 17, (1, 6, 0, 0, 0)), (0, 90, 18, (1, 4, 0, 0, 0)), (0, 90, 19, (1, 0, (-1), 0, 0))], [])), ([(2, 0, 90, 17), (2, 0, 90, 19)], ([[(0, 0)], [(0, 40)], [(1, 719)], [(2, 4)], [(2, 60)], [(2, 4)], [(2, 4)]], [(5, 6, 0), (5, 3, 0), (5, 4, 0), (6, 5, 0), (6, 3, 0), (6, 4, 0), (3, 5, 0), (3, 6, 0)], [], [(1, 0, 0, 0, 0)], [(0, 90, 17, (1, 5, 0, 0, 0)), (0, 90, 18, (1, 4, 0, 0, 0)), (0, 90, 19, (1, 6, 0, 0, 0))], []))], [(90, 90, 1, 17), (90, 90, 1, 19)])
def zpA440 : zAnn := [(9, ([(0, 5, 0, 0), (2, 0, 90, 17)], ([[(0, 0)], [(0, 40)], [(1, 719)], [(2, 4)], [(2, 60)], [((-2147483648), 2147483647)], [(2, 7)]], [(6, 4, 0), (3, 6, 0), (3, 4, 0)], [(3, 0, 90, 0, 0), (1, 0, 3, 0, 0), (1, 2, 0, 0, 0), (1, 0, 719, 0, 0), (1, 3, 0, 0, 0), (1, 5, 0, 0, 0)], [], [(0, 90, 17, (1, 6, 0, 0, 0)), (0, 90, 18, (1, 4, 0, 0, 0)), (0, 90, 19, (1, 0, (-1), 0, 0))], [])), [(2, 0, 0), (0, 6, 7), (2, 0, 0)])]

/-- PushedInModel.takes ((1, 108), ((90, 19), -1)) -/
def zpC441 : zC := (194, (2, 60), ([(2, 0, 90, 17), (2, 0, 90, 18)], ([[(0, 0)], [(0, 40)], [(9, 60)], [(9, 60)]], [(2, 3, 0)], [(3, 0, 90, 0, 0), (1, 0, 108, 0, 0)], [], [(0, 90, 17, (1, 2, 0, 0, 0)), (0, 90, 18, (1, 3, 0, 0, 0)), (0, 90, 19, (1, 0, (-1), 0, 0))], [])), [([], ([[(0, 0)], [(0, 40)], [(9, 60)], [(9, 60)]], [], [], [(1, 0, 0, 0, 0)], [(0, 90, 17, (1, 2, 0, 0, 0)), (0, 90, 18, (1, 3, 0, 0, 0)), (0, 90, 19, (1, 0, (-1), 0, 0))], [])), ([], ([[(0, 0)], [(0, 40)], [(9, 59)], [(10, 60)]], [(2, 3, (-1))], [], [(1, 0, 1, 0, 0)], [(0, 90, 17, (1, 2, 1, 0, 0)), (0, 90, 18, (1, 3, 0, 0, 0)), (0, 90, 19, (1, 0, (-1), 0, 0))], []))], [(90, 90, 1, 17)])
def zpA441 : zAnn := []

/-- PushedInModel.takes ((1, 108), ((90, 19), 0)) -/
def zpC442 : zC := (194, (1, 40), ([(2, 0, 90, 18)], ([[(0, 0)], [(0, 40)], [(0, 60)]], [], [(3, 0, 90, 0, 0), (1, 0, 108, 0, 0)], [], [(0, 90, 17, (1, 0, 0, 0, 0)), (0, 90, 18, (1, 2, 0, 0, 0)), (0, 90, 19, (1, 0, 0, 0, 0))], [])), [([], ([[(0, 0)], [(0, 40)], [(0, 60)]], [], [], [(1, 0, 0, 0, 0)], [(0, 90, 17, (1, 0, 0, 0, 0)), (0, 90, 18, (1, 2, 0, 0, 0)), (0, 90, 19, (1, 0, 0, 0, 0))], []))], [])
def zpA442 : zAnn := []

/-- PushedInModel.takes ((1, 108),) -/
def zpC443 : zC := (194, (1, 40), ([(2, 0, 90, 17), (2, 0, 90, 18), (2, 0, 90, 19)], ([[(0, 0)], [(0, 40)], [(1, 60)], [(0, 60)], [(1, 60)]], [(2, 4, 0), (4, 2, 0)], [(3, 0, 90, 0, 0), (1, 0, 108, 0, 0)], [], [(0, 90, 17, (1, 2, 0, 0, 0)), (0, 90, 18, (1, 3, 0, 0, 0)), (0, 90, 19, (1, 4, 0, 0, 0))], [])), [([], ([[(0, 0)], [(0, 40)], [(1, 60)], [(0, 60)], [(1, 60)]], [], [], [(1, 0, 0, 0, 0)], [(0, 90, 17, (1, 2, 0, 0, 0)), (0, 90, 18, (1, 3, 0, 0, 0)), (0, 90, 19, (1, 4, 0, 0, 0))], []))], [])
def zpA443 : zAnn := []

/-- PushedInModel.takes ((1, 35), ((90, 19), -1)) -/
def zpC444 : zC := (194, (2, 60), ([(2, 0, 90, 17), (2, 0, 90, 18)], ([[(0, 0)], [(0, 40)], [(9, 60)], [(9, 60)]], [(2, 3, 0)], [(3, 0, 90, 0, 0), (1, 0, 35, 0, 0)], [], [(0, 90, 17, (1, 2, 0, 0, 0)), (0, 90, 18, (1, 3, 0, 0, 0)), (0, 90, 19, (1, 0, (-1), 0, 0))], [])), [([], ([[(0, 0)], [(0, 40)], [(9, 60)], [(9, 60)]], [], [], [(1, 0, 0, 0, 0)], [(0, 90, 17, (1, 2, 0, 0, 0)), (0, 90, 18, (1, 3, 0, 0, 0)), (0, 90, 19, (1, 0, (-1), 0, 0))], [])), ([], ([[(0, 0)], [(0, 40)], [(9, 59)], [(10, 60)]], [(2, 3, (-1))], [], [(1, 0, 1, 0, 0)], [(0, 90, 17, (1, 2, 1, 0, 0)), (0, 90, 18, (1, 3, 0, 0, 0)), (0, 90, 19, (1, 0, (-1), 0, 0))], []))], [(90, 90, 1, 17)])
def zpA444 : zAnn := []

/-- PushedInModel.takes ((1, 35), ((90, 19), 0)) -/
def zpC445 : zC := (194, (1, 40), ([(2, 0, 90, 18)], ([[(0, 0)], [(0, 40)], [(0, 60)]], [], [(3, 0, 90, 0, 0), (1, 0, 35, 0, 0)], [], [(0, 90, 17, (1, 0, 0, 0, 0)), (0, 90, 18, (1, 2, 0, 0, 0)), (0, 90, 19, (1, 0, 0, 0, 0))], [])), [([], ([[(0, 0)], [(0, 40)], [(0, 60)]], [], [], [(1, 0, 0, 0, 0)], [(0, 90, 17, (1, 0, 0, 0, 0)), (0, 90, 18, (1, 2, 0, 0, 0)), (0, 90, 19, (1, 0, 0, 0, 0))], []))], [])
def zpA445 : zAnn := []

/-- PushedInModel.takes ((1, 35),) -/
def zpC446 : zC := (194, (1, 40), ([(2, 0, 90, 17), (2, 0, 90, 18), (2, 0, 90, 19)], ([[(0, 0)], [(0, 40)], [(1, 60)], [(0, 60)], [(1, 60)]], [(2, 4, 0), (4, 2, 0)], [(3, 0, 90, 0, 0), (1, 0, 35, 0, 0)], [], [(0, 90, 17, (1, 2, 0, 0, 0)), (0, 90, 18, (1, 3, 0, 0, 0)), (0, 90, 19, (1, 4, 0, 0, 0))], [])), [([], ([[(0, 0)], [(0, 40)], [(1, 60)], [(0, 60)], [(1, 60)]], [], [], [(1, 0, 0, 0, 0)], [(0, 90, 17, (1, 2, 0, 0, 0)), (0, 90, 18, (1, 3, 0, 0, 0)), (0, 90, 19, (1, 4, 0, 0, 0))], []))], [])
def zpA446 : zAnn := []

/-- PushedInModel.takes (((90, 19), -1),) -/
def zpC447 : zC := (194, (2, 60), ([(0, 1, 0, 0), (2, 0, 90, 17), (2, 0, 90, 18)], ([[(0, 0)], [(0, 40)], [(45, 199)], [(1, 60)], [(0, 60)]], [(3, 2, (-1))], [(3, 0, 90, 0, 0), (1, 2, 0, 0, 0)], [], [(0, 90, 17, (1, 3, 0, 0, 0)), (0, 90, 18, (1, 4, 0, 0, 0)), (0, 90, 19, (1, 0, (-1), 0, 0))], [])), [([], ([[(0, 0)], [(0, 40)], [(45, 199)], [(1, 60)], [(0, 60)]], [], [], [(1, 0, 0, 0, 0)], [(0, 90, 17, (1, 3, 0, 0, 0)), (0, 90, 18, (1, 4, 0, 0, 0)), (0, 90, 19, (1, 0, (-1), 0, 0))], [])), ([], ([[(0, 0)], [(0, 40)], [(45, 199)], [(1, 59)], [(2, 60)]], [(3, 4, (-1))], [], [(1, 0, 1, 0, 0)], [(0, 90, 17, (1, 3, 1, 0, 0)), (0, 90, 18, (1, 4, 0, 0, 0)), (0, 90, 19, (1, 0, (-1), 0, 0))], []))], [(90, 90, 1, 17)])
def zpA447 : zAnn := []

/-- PushedInModel.wants (((90, 19), -1),) -/
def zpC448 : zC := (202, (3, 81), ([(0, 1, 0, 0), (2, 0, 90, 17), (2, 0, 90, 18)], ([[(0, 0)], [(0, 40)], [(45, 199)], [(1, 60)], [(0, 60)]], [(3, 2, (-1))], [(3, 0, 90, 0, 0), (1, 2, 0, 0, 0)], [], [(0, 90, 17, (1, 3, 0, 0, 0)), (0, 90, 18, (1, 4, 0, 0, 0)), (0, 90, 19, (1, 0, (-1), 0, 0))], [])), [([], ([[(0, 0)], [(0, 40)], [(45, 199)], [(1, 60)], [(0, 60)]], [], [], [], [(0, 90, 17, (1, 3, 0, 0, 0)), (0, 90, 18, (1, 4, 0, 0, 0)), (0, 90, 19, (1, 3, 0, 0, 0))], [])), ([], ([[(0, 0)], [(0, 40)], [(45, 199)], [(1, 59)], [(2, 60)]], [(3, 4, (-1))], [], [], [(0, 90, 17, (1, 3, 1, 0, 0)), (0, 90, 18, (1, 4, 0, 0, 0)), (0, 90, 19, (1, 0, (-1), 0, 0))], []))], [(90, 90, 1, 17), (90, 90, 1, 19)])
def zpA448 : zAnn := []

/-- PushedInModel.wants (((90, 19), 0),) -/
def zpC449 : zC := (202, (1, 40), ([(0, 1, 0, 0), (2, 0, 90, 18)], ([[(0, 0)], [(0, 40)], [(45, 45), (64, 64), (109, 115)], [(0, 60)]], [], [(3, 0, 90, 0, 0), (1, 2, 0, 0, 0)], [], [(0, 90, 17, (1, 0, 0, 0, 0)), (0, 90, 18, (1, 3, 0, 0, 0)), (0, 90, 19, (1, 0, 0, 0, 0))], [])), [([], ([[(0, 0)], [(0, 40)], [(45, 45), (64, 64), (109, 115)], [(0, 60)]], [], [], [], [(0, 90, 17, (1, 0, 0, 0, 0)), (0, 90, 18, (1, 3, 0, 0, 0)), (0, 90, 19, (1, 0, 0, 0, 0))], []))], [])
def zpA449 : zAnn := []

/-- PushedInModel.wants () -/
def zpC450 : zC := (202, (1, 40), ([(0, 1, 0, 0), (2, 0, 90, 17), (2, 0, 90, 18), (2, 0, 90, 19)], ([[(0, 0)], [(0, 40)], [(64, 199)], [(1, 60)], [(0, 60)], [(1, 60)]], [(3, 5, 0), (5, 3, 0)], [(3, 0, 90, 0, 0), (1, 2, 0, 0, 0)], [], [(0, 90, 17, (1, 3, 0, 0, 0)), (0, 90, 18, (1, 4, 0, 0, 0)), (0, 90, 19, (1, 5, 0, 0, 0))], [])), [([], ([[(0, 0)], [(0, 40)], [(64, 199)], [(1, 60)], [(0, 60)], [(1, 60)]], [], [], [], [(0, 90, 17, (1, 3, 0, 0, 0)), (0, 90, 18, (1, 4, 0, 0, 0)), (0, 90, 19, (1, 5, 0, 0, 0))], []))], [])
def zpA450 : zAnn := []

/-- PushedInModel.comer () -/
def zpC451 : zC := (139, (4, 102), ([], ([[(0, 0)], [(0, 40)]], [], [(3, 0, 90, 0, 0)], [], [], [])), [([(1, 0, 0, 0)], ([[(0, 0)], [(0, 40)], [((-160), (-101)), (0, 39)]], [], [], [(1, 2, 0, 0, 0)], [], [])), ([], ([[(0, 0)], [(0, 40)]], [], [], [(1, 0, (-100), 0, 0)], [], [])), ([], ([[(0, 0)], [(0, 40)]], [], [], [(1, 0, (-3), 0, 0)], [], []))], [(90, 90, 1, 13), (90, 90, 1, 16), (90, 90, 1, 17), (90, 90, 1, 18), (90, 90, 1, 19), (90, 90, 1, 22), (91, 91, 0, 0), (101, 101, 0, 0), (102, 102, 0, 0), (103, 103, 0, 0), (104, 104, 0, 0), (105, 105, 0, 0), (106, 106, 0, 0), (107, 107, 0, 0), (108, 108, 0, 0), (109, 109, 0, 0)])
def zpA451h0 : Nat × zTm × zRk := (195, ([(2, 0, 90, 17), (2, 0, 90, 18), (2, 0, 90, 19), (2, 0, 90, 22), (2, 0, 109, 3)], ([[(0, 0)], [(0, 40)], [(1, 60)], [(0, 60)], [(1, 60)], [(0, 39)], [(0, 5)]], [(6, 2, 0), (6, 3, 0), (6, 4, 0), (2, 4, 0), (4, 2, 0)], [(3, 0, 90, 0, 0)], [], [(0, 90, 17, (1, 2, 0, 0, 0)), (0, 90, 18, (1, 3, 0, 0, 0)), (0, 90, 19, (1, 4, 0, 0, 0)), (0, 90, 22, (1, 5, 0, 0, 0)), (0, 109, 3, (1, 6, 0, 0, 0))], [])), [(2, 0, 0)])
def zpA451h1 : Nat × zTm × zRk := (195, ([(2, 0, 90, 17), (2, 0, 90, 18), (2, 0, 90, 22), (2, 0, 109, 3)], ([[(0, 0)], [(0, 40)], [(9, 60)], [(9, 60)], [(0, 39)], [(0, 5)]], [(2, 3, 0)], [(3, 0, 90, 0, 0)], [], [(0, 90, 17, (1, 2, 0, 0, 0)), (0, 90, 18, (1, 3, 0, 0, 0)), (0, 90, 19, (1, 0, (-1), 0, 0)), (0, 90, 22, (1, 4, 0, 0, 0)), (0, 109, 3, (1, 5, 0, 0, 0))], [])), [(2, 0, 1)])
def zpA451h2 : Nat × zTm × zRk := (195, ([(2, 0, 90, 18), (2, 0, 90, 22)], ([[(0, 0)], [(0, 40)], [(0, 60)], [(0, 39)]], [], [(3, 0, 90, 0, 0)], [], [(0, 90, 17, (1, 0, 0, 0, 0)), (0, 90, 18, (1, 2, 0, 0, 0)), (0, 90, 19, (1, 0, 0, 0, 0)), (0, 90, 22, (1, 3, 0, 0, 0)), (0, 109, 3, (1, 0, 0, 0, 0))], [])), [(2, 0, 2)])
def zpA451 : zAnn := [zpA451h0, zpA451h1, zpA451h2]

/-- PushedInModel.isShelf () -/
def zpC452 : zC := (162, (2, 65), ([(0, 0, 0, 0)], ([[(0, 0)], [(0, 40)], [((-2147483648), 2147483647)]], [], [(1, 2, 0, 0, 0)], [], [], [])), [([], ([[(0, 0)], [(0, 40)], [((-2147483648), (-1)), (6, 2147483647)]], [], [], [(1, 0, 0, 0, 0)], [], [])), ([], ([[(0, 0)], [(0, 40)], [(0, 5)]], [], [], [(1, 0, 1, 0, 0)], [], []))], [])
def zpA452 : zAnn := []

/-- PushedInModel.within ((1, 1), (2, 12)) -/
def zpC453 : zC := (204, (1, 40), ([(0, 0, 0, 0)], ([[(0, 0)], [(0, 40)], [((-2147483648), 2147483647)]], [], [(2, 2, 0, 0, 0), (0, 0, 0, 0, 0), (2, 0, 1, 0, 0), (0, 0, 0, 0, 0), (2, 0, 12, 0, 0), (0, 0, 0, 0, 0)], [], [], [])), [([], ([[(0, 0)], [(0, 40)], [((-2147483648), 0), (13, 2147483647)]], [], [], [(1, 0, 0, 0, 0)], [], [])), ([], ([[(0, 0)], [(0, 40)], [(1, 12)]], [], [], [(1, 0, 1, 0, 0)], [], []))], [])
def zpA453 : zAnn := []

/-- PushedInModel.comers () -/
def zpC454 : zC := (140, (3, 85), ([(0, 1, 0, 0), (0, 2, 0, 0), (0, 3, 0, 0), (2, 0, 90, 22)], ([[(0, 0)], [(0, 40)], [((-2147483648), 2147483647)], [((-2147483648), 2147483647)], [((-2147483648), 2147483647)], [(0, 40)]], [], [(3, 0, 90, 0, 0), (1, 2, 0, 0, 0), (1, 3, 0, 0, 0), (1, 4, 0, 0, 0), (0, 0, 0, 0, 0), (0, 0, 0, 0, 0), (0, 0, 0, 0, 0)], [], [(0, 90, 22, (1, 5, 0, 0, 0))], [])), [([(1, 0, 0, 0), (2, 0, 90, 22)], ([[(0, 0)], [(0, 40)], [((-2147483648), 2147483647)], [((-2147483648), 2147483647)], [((-2147483648), 2147483647)], [(0, 40)], [((-12), (-12)), ((-1), 12)], [(0, 40)]], [(7, 5, 12), (5, 7, 0)], [], [(1, 6, 0, 0, 0)], [(0, 90, 22, (1, 7, 0, 0, 0))], []))], [(90, 90, 1, 22), (91, 91, 0, 0), (101, 101, 0, 0), (102, 102, 0, 0), (103, 103, 0, 0), (104, 104, 0, 0), (105, 105, 0, 0), (106, 106, 0, 0), (107, 107, 0, 0), (108, 108, 0, 0), (109, 109, 0, 0)])
def zpA454h0 : Nat × zTm × zRk := (116, ([], ([[(0, 0)], [(0, 40)], [(0, 5)], [(0, 2147483647)], [(1, 12)], [(0, 40)]], [], [(3, 0, 90, 0, 0), (1, 2, 0, 0, 0), (1, 3, 0, 0, 0), (1, 4, 0, 0, 0), (1, 0, 0, 0, 0), (1, 0, 0, 0, 0), (1, 0, 0, 0, 0)], [], [(0, 90, 22, (1, 5, 0, 0, 0))], [])), [(2, 0, 1)])
def zpA454h1 : Nat × zTm × zRk := (116, ([(0, 6, 0, 0)], ([[(0, 0)], [(0, 40)], [(0, 5)], [(0, 55)], [(1, 12)], [(0, 39)], [(0, 5)]], [], [(3, 0, 90, 0, 0), (1, 2, 0, 0, 0), (1, 3, 0, 0, 0), (1, 4, 0, 0, 0), (1, 0, 0, 0, 0), (1, 0, 1, 0, 0), (1, 6, 0, 0, 0)], [], [(0, 90, 22, (1, 5, 0, 0, 0))], [])), [(2, 0, 47), (0, 6, 5), (2, 0, 0)])
def zpA454h2 : Nat × zTm × zRk := (116, ([], ([[(0, 0)], [(0, 40)], [(0, 5)], [(0, 55)], [(2, 12)], [(0, 39)]], [], [(3, 0, 90, 0, 0), (1, 2, 0, 0, 0), (1, 3, 0, 0, 0), (1, 4, 0, 0, 0), (1, 0, 1, 0, 0), (1, 0, 0, 0, 0), (1, 0, 0, 0, 0)], [], [(0, 90, 22, (1, 5, 1, 0, 0))], [])), [(2, 0, 45)])
def zpA454h3 : Nat × zTm × zRk := (116, ([(0, 6, 0, 0)], ([[(0, 0)], [(0, 40)], [(0, 5)], [(0, 50)], [(2, 12)], [(0, 38)], [(0, 5)]], [], [(3, 0, 90, 0, 0), (1, 2, 0, 0, 0), (1, 3, 0, 0, 0), (1, 4, 0, 0, 0), (1, 0, 1, 0, 0), (1, 0, 1, 0, 0), (1, 6, 0, 0, 0)], [], [(0, 90, 22, (1, 5, 1, 0, 0))], [])), [(2, 0, 44), (0, 6, 5), (2, 0, 0)])
def zpA454h4 : Nat × zTm × zRk := (116, ([], ([[(0, 0)], [(0, 40)], [(0, 5)], [(0, 10)], [(11, 12)], [(0, 30)]], [], [(3, 0, 90, 0, 0), (1, 2, 0, 0, 0), (1, 3, 0, 0, 0), (1, 4, 0, 0, 0), (1, 0, 10, 0, 0), (1, 0, 0, 0, 0), (1, 0, 0, 0, 0)], [], [(0, 90, 22, (1, 5, 10, 0, 0))], [])), [(2, 0, 9)])
def zpA454h5 : Nat × zTm × zRk := (116, ([(0, 6, 0, 0)], ([[(0, 0)], [(0, 40)], [(0, 5)], [(0, 5)], [(11, 12)], [(0, 29)], [(0, 5)]], [], [(3, 0, 90, 0, 0), (1, 2, 0, 0, 0), (1, 3, 0, 0, 0), (1, 4, 0, 0, 0), (1, 0, 10, 0, 0), (1, 0, 1, 0, 0), (1, 6, 0, 0, 0)], [], [(0, 90, 22, (1, 5, 10, 0, 0))], [])), [(2, 0, 8), (0, 6, 5), (2, 0, 0)])
def zpA454h6 : Nat × zTm × zRk := (116, ([], ([[(0, 0)], [(0, 40)], [(0, 5)], [(0, 5)], [(12, 12)], [(0, 29)]], [], [(3, 0, 90, 0, 0), (1, 2, 0, 0, 0), (1, 3, 0, 0, 0), (1, 4, 0, 0, 0), (1, 0, 11, 0, 0), (1, 0, 0, 0, 0), (1, 0, 0, 0, 0)], [], [(0, 90, 22, (1, 5, 11, 0, 0))], [])), [(2, 0, 5)])
def zpA454h7 : Nat × zTm × zRk := (116, ([(0, 6, 0, 0)], ([[(0, 0)], [(0, 40)], [(0, 5)], [(0, 0)], [(12, 12)], [(0, 28)], [(0, 5)]], [], [(3, 0, 90, 0, 0), (1, 2, 0, 0, 0), (1, 3, 0, 0, 0), (1, 4, 0, 0, 0), (1, 0, 11, 0, 0), (1, 0, 1, 0, 0), (1, 6, 0, 0, 0)], [], [(0, 90, 22, (1, 5, 11, 0, 0))], [])), [(2, 0, 4), (0, 6, 5), (2, 0, 0)])
def zpA454h8 : Nat × zTm × zRk := (116, ([], ([[(0, 0)], [(0, 40)], [(0, 5)], [(0, 50)], [(3, 12)], [(0, 38)]], [], [(3, 0, 90, 0, 0), (1, 2, 0, 0, 0), (1, 3, 0, 0, 0), (1, 4, 0, 0, 0), (1, 0, 2, 0, 0), (1, 0, 0, 0, 0), (1, 0, 0, 0, 0)], [], [(0, 90, 22, (1, 5, 2, 0, 0))], [])), [(2, 0, 41)])
def zpA454h9 : Nat × zTm × zRk := (116, ([(0, 6, 0, 0)], ([[(0, 0)], [(0, 40)], [(0, 5)], [(0, 45)], [(3, 12)], [(0, 37)], [(0, 5)]], [], [(3, 0, 90, 0, 0), (1, 2, 0, 0, 0), (1, 3, 0, 0, 0), (1, 4, 0, 0, 0), (1, 0, 2, 0, 0), (1, 0, 1, 0, 0), (1, 6, 0, 0, 0)], [], [(0, 90, 22, (1, 5, 2, 0, 0))], [])), [(2, 0, 40), (0, 6, 5), (2, 0, 0)])
def zpA454h10 : Nat × zTm × zRk := (116, ([], ([[(0, 0)], [(0, 40)], [(0, 5)], [(0, 45)], [(4, 12)], [(0, 37)]], [], [(3, 0, 90, 0, 0), (1, 2, 0, 0, 0), (1, 3, 0, 0, 0), (1, 4, 0, 0, 0), (1, 0, 3, 0, 0), (1, 0, 0, 0, 0), (1, 0, 0, 0, 0)], [], [(0, 90, 22, (1, 5, 3, 0, 0))], [])), [(2, 0, 37)])
def zpA454h11 : Nat × zTm × zRk := (116, ([(0, 6, 0, 0)], ([[(0, 0)], [(0, 40)], [(0, 5)], [(0, 40)], [(4, 12)], [(0, 36)], [(0, 5)]], [], [(3, 0, 90, 0, 0), (1, 2, 0, 0, 0), (1, 3, 0, 0, 0), (1, 4, 0, 0, 0), (1, 0, 3, 0, 0), (1, 0, 1, 0, 0), (1, 6, 0, 0, 0)], [], [(0, 90, 22, (1, 5, 3, 0, 0))], [])), [(2, 0, 36), (0, 6, 5), (2, 0, 0)])
def zpA454h12 : Nat × zTm × zRk := (116, ([], ([[(0, 0)], [(0, 40)], [(0, 5)], [(0, 40)], [(5, 12)], [(0, 36)]], [], [(3, 0, 90, 0, 0), (1, 2, 0, 0, 0), (1, 3, 0, 0, 0), (1, 4, 0, 0, 0), (1, 0, 4, 0, 0), (1, 0, 0, 0, 0), (1, 0, 0, 0, 0)], [], [(0, 90, 22, (1, 5, 4, 0, 0))], [])), [(2, 0, 33)])
def zpA454h13 : Nat × zTm × zRk := (116, ([(0, 6, 0, 0)], ([[(0, 0)], [(0, 40)], [(0, 5)], [(0, 35)], [(5, 12)], [(0, 35)], [(0, 5)]], [], [(3, 0, 90, 0, 0), (1, 2, 0, 0, 0), (1, 3, 0, 0, 0), (1, 4, 0, 0, 0), (1, 0, 4, 0, 0), (1, 0, 1, 0, 0), (1, 6, 0, 0, 0)], [], [(0, 90, 22, (1, 5, 4, 0, 0))], [])), [(2, 0, 32), (0, 6, 5), (2, 0, 0)])
def zpA454h14 : Nat × zTm × zRk := (116, ([], ([[(0, 0)], [(0, 40)], [(0, 5)], [(0, 35)], [(6, 12)], [(0, 35)]], [], [(3, 0, 90, 0, 0), (1, 2, 0, 0, 0), (1, 3, 0, 0, 0), (1, 4, 0, 0, 0), (1, 0, 5, 0, 0), (1, 0, 0, 0, 0), (1, 0, 0, 0, 0)], [], [(0, 90, 22, (1, 5, 5, 0, 0))], [])), [(2, 0, 29)])
def zpA454h15 : Nat × zTm × zRk := (116, ([(0, 6, 0, 0)], ([[(0, 0)], [(0, 40)], [(0, 5)], [(0, 30)], [(6, 12)], [(0, 34)], [(0, 5)]], [], [(3, 0, 90, 0, 0), (1, 2, 0, 0, 0), (1, 3, 0, 0, 0), (1, 4, 0, 0, 0), (1, 0, 5, 0, 0), (1, 0, 1, 0, 0), (1, 6, 0, 0, 0)], [], [(0, 90, 22, (1, 5, 5, 0, 0))], [])), [(2, 0, 28), (0, 6, 5), (2, 0, 0)])
def zpA454h16 : Nat × zTm × zRk := (116, ([], ([[(0, 0)], [(0, 40)], [(0, 5)], [(0, 30)], [(7, 12)], [(0, 34)]], [], [(3, 0, 90, 0, 0), (1, 2, 0, 0, 0), (1, 3, 0, 0, 0), (1, 4, 0, 0, 0), (1, 0, 6, 0, 0), (1, 0, 0, 0, 0), (1, 0, 0, 0, 0)], [], [(0, 90, 22, (1, 5, 6, 0, 0))], [])), [(2, 0, 25)])
def zpA454h17 : Nat × zTm × zRk := (116, ([(0, 6, 0, 0)], ([[(0, 0)], [(0, 40)], [(0, 5)], [(0, 25)], [(7, 12)], [(0, 33)], [(0, 5)]], [], [(3, 0, 90, 0, 0), (1, 2, 0, 0, 0), (1, 3, 0, 0, 0), (1, 4, 0, 0, 0), (1, 0, 6, 0, 0), (1, 0, 1, 0, 0), (1, 6, 0, 0, 0)], [], [(0, 90, 22, (1, 5, 6, 0, 0))], [])), [(2, 0, 24), (0, 6, 5), (2, 0, 0)])
def zpA454h18 : Nat × zTm × zRk := (116, ([], ([[(0, 0)], [(0, 40)], [(0, 5)], [(0, 25)], [(8, 12)], [(0, 33)]], [], [(3, 0, 90, 0, 0), (1, 2, 0, 0, 0), (1, 3, 0, 0, 0), (1, 4, 0, 0, 0), (1, 0, 7, 0, 0), (1, 0, 0, 0, 0), (1, 0, 0, 0, 0)], [], [(0, 90, 22, (1, 5, 7, 0, 0))], [])), [(2, 0, 21)])
def zpA454h19 : Nat × zTm × zRk := (116, ([(0, 6, 0, 0)], ([[(0, 0)], [(0, 40)], [(0, 5)], [(0, 20)], [(8, 12)], [(0, 32)], [(0, 5)]], [], [(3, 0, 90, 0, 0), (1, 2, 0, 0, 0), (1, 3, 0, 0, 0), (1, 4, 0, 0, 0), (1, 0, 7, 0, 0), (1, 0, 1, 0, 0), (1, 6, 0, 0, 0)], [], [(0, 90, 22, (1, 5, 7, 0, 0))], [])), [(2, 0, 20), (0, 6, 5), (2, 0, 0)])
def zpA454h20 : Nat × zTm × zRk := (116, ([], ([[(0, 0)], [(0, 40)], [(0, 5)], [(0, 20)], [(9, 12)], [(0, 32)]], [], [(3, 0, 90, 0, 0), (1, 2, 0, 0, 0), (1, 3, 0, 0, 0), (1, 4, 0, 0, 0), (1, 0, 8, 0, 0), (1, 0, 0, 0, 0), (1, 0, 0, 0, 0)], [], [(0, 90, 22, (1, 5, 8, 0, 0))], [])), [(2, 0, 17)])
def zpA454h21 : Nat × zTm × zRk := (116, ([(0, 6, 0, 0)], ([[(0, 0)], [(0, 40)], [(0, 5)], [(0, 15)], [(9, 12)], [(0, 31)], [(0, 5)]], [], [(3, 0, 90, 0, 0), (1, 2, 0, 0, 0), (1, 3, 0, 0, 0), (1, 4, 0, 0, 0), (1, 0, 8, 0, 0), (1, 0, 1, 0, 0), (1, 6, 0, 0, 0)], [], [(0, 90, 22, (1, 5, 8, 0, 0))], [])), [(2, 0, 16), (0, 6, 5), (2, 0, 0)])
def zpA454h22 : Nat × zTm × zRk := (116, ([], ([[(0, 0)], [(0, 40)], [(0, 5)], [(0, 15)], [(10, 12)], [(0, 31)]], [], [(3, 0, 90, 0, 0), (1, 2, 0, 0, 0), (1, 3, 0, 0, 0), (1, 4, 0, 0, 0), (1, 0, 9, 0, 0), (1, 0, 0, 0, 0), (1, 0, 0, 0, 0)], [], [(0, 90, 22, (1, 5, 9, 0, 0))], [])), [(2, 0, 13)])
def zpA454h23 : Nat × zTm × zRk := (116, ([(0, 6, 0, 0)], ([[(0, 0)], [(0, 40)], [(0, 5)], [(0, 10)], [(10, 12)], [(0, 30)], [(0, 5)]], [], [(3, 0, 90, 0, 0), (1, 2, 0, 0, 0), (1, 3, 0, 0, 0), (1, 4, 0, 0, 0), (1, 0, 9, 0, 0), (1, 0, 1, 0, 0), (1, 6, 0, 0, 0)], [], [(0, 90, 22, (1, 5, 9, 0, 0))], [])), [(2, 0, 12), (0, 6, 5), (2, 0, 0)])
def zpA454h24 : Nat × zTm × zRk := (69, ([], ([[(0, 0)], [(0, 40)], [(0, 5)], [((-2147483648), 2147483647)], [(1, 12)], [(0, 40)]], [], [(3, 0, 90, 0, 0), (1, 2, 0, 0, 0), (1, 3, 0, 0, 0), (1, 4, 0, 0, 0), (1, 0, 0, 0, 0), (1, 0, 0, 0, 0), (0, 0, 0, 0, 0)], [], [(0, 90, 22, (1, 5, 0, 0, 0))], [])), [(2, 0, 0)])
def zpA454h25 : Nat × zTm × zRk := (69, ([], ([[(0, 0)], [(0, 40)], [(0, 5)], [(0, 2147483647)], [(1, 12)], [(0, 40)]], [], [(3, 0, 90, 0, 0), (1, 2, 0, 0, 0), (1, 3, 0, 0, 0), (1, 4, 0, 0, 0), (1, 0, 0, 0, 0), (1, 0, 1, 0, 0), (0, 0, 0, 0, 0)], [], [(0, 90, 22, (1, 5, 0, 0, 0))], [])), [(2, 0, 48)])
def zpA454h26 : Nat × zTm × zRk := (69, ([(0, 6, 0, 0)], ([[(0, 0)], [(0, 40)], [(0, 5)], [(0, 55)], [(2, 12)], [(0, 39)], [(0, 0), (5, 5)]], [], [(3, 0, 90, 0, 0), (1, 2, 0, 0, 0), (1, 3, 0, 0, 0), (1, 4, 0, 0, 0), (1, 0, 1, 0, 0), (1, 0, 0, 0, 0), (1, 6, 0, 0, 0)], [], [(0, 90, 22, (1, 5, 1, 0, 0))], [])), [(2, 0, 43)])
def zpA454h27 : Nat × zTm × zRk := (69, ([(0, 6, 0, 0)], ([[(0, 0)], [(0, 40)], [(0, 5)], [(0, 55)], [(1, 12)], [(0, 39)], [(5, 5)]], [], [(3, 0, 90, 0, 0), (1, 2, 0, 0, 0), (1, 3, 0, 0, 0), (1, 4, 0, 0, 0), (1, 0, 1, 0, 0), (1, 0, 1, 0, 0), (1, 6, 0, 0, 0)], [], [(0, 90, 22, (1, 5, 1, 0, 0))], [])), [(2, 0, 46)])
def zpA454h28 : Nat × zTm × zRk := (69, ([(0, 6, 0, 0)], ([[(0, 0)], [(0, 40)], [(0, 5)], [(0, 10)], [(11, 12)], [(0, 30)], [(0, 0), (5, 5)]], [], [(3, 0, 90, 0, 0), (1, 2, 0, 0, 0), (1, 3, 0, 0, 0), (1, 4, 0, 0, 0), (1, 0, 10, 0, 0), (1, 0, 0, 0, 0), (1, 6, 0, 0, 0)], [], [(0, 90, 22, (1, 5, 10, 0, 0))], [])), [(2, 0, 7)])
def zpA454h29 : Nat × zTm × zRk := (69, ([(0, 6, 0, 0)], ([[(0, 0)], [(0, 40)], [(0, 5)], [(0, 10)], [(10, 12)], [(0, 30)], [(5, 5)]], [], [(3, 0, 90, 0, 0), (1, 2, 0, 0, 0), (1, 3, 0, 0, 0), (1, 4, 0, 0, 0), (1, 0, 10, 0, 0), (1, 0, 1, 0, 0), (1, 6, 0, 0, 0)], [], [(0, 90, 22, (1, 5, 10, 0, 0))], [])), [(2, 0, 10)])
def zpA454h30 : Nat × zTm × zRk := (69, ([(0, 6, 0, 0)], ([[(0, 0)], [(0, 40)], [(0, 5)], [(0, 5)], [(12, 12)], [(0, 29)], [(0, 0), (5, 5)]], [], [(3, 0, 90, 0, 0), (1, 2, 0, 0, 0), (1, 3, 0, 0, 0), (1, 4, 0, 0, 0), (1, 0, 11, 0, 0), (1, 0, 0, 0, 0), (1, 6, 0, 0, 0)], [], [(0, 90, 22, (1, 5, 11, 0, 0))], [])), [(2, 0, 3)])
def zpA454h31 : Nat × zTm × zRk := (69, ([(0, 6, 0, 0)], ([[(0, 0)], [(0, 40)], [(0, 5)], [(0, 5)], [(11, 12)], [(0, 29)], [(5, 5)]], [], [(3, 0, 90, 0, 0), (1, 2, 0, 0, 0), (1, 3, 0, 0, 0), (1, 4, 0, 0, 0), (1, 0, 11, 0, 0), (1, 0, 1, 0, 0), (1, 6, 0, 0, 0)], [], [(0, 90, 22, (1, 5, 11, 0, 0))], [])), [(2, 0, 6)])
def zpA454h32 : Nat × zTm × zRk := (69, ([(0, 6, 0, 0)], ([[(0, 0)], [(0, 40)], [(0, 5)], [(0, 0)], [(12, 12)], [(0, 28)], [(5, 5)]], [], [(3, 0, 90, 0, 0), (1, 2, 0, 0, 0), (1, 3, 0, 0, 0), (1, 4, 0, 0, 0), (1, 0, 12, 0, 0), (1, 0, 1, 0, 0), (1, 6, 0, 0, 0)], [], [(0, 90, 22, (1, 5, 12, 0, 0))], [])), [(2, 0, 2)])
def zpA454h33 : Nat × zTm × zRk := (69, ([(0, 6, 0, 0)], ([[(0, 0)], [(0, 40)], [(0, 5)], [(0, 50)], [(3, 12)], [(0, 38)], [(0, 0), (5, 5)]], [], [(3, 0, 90, 0, 0), (1, 2, 0, 0, 0), (1, 3, 0, 0, 0), (1, 4, 0, 0, 0), (1, 0, 2, 0, 0), (1, 0, 0, 0, 0), (1, 6, 0, 0, 0)], [], [(0, 90, 22, (1, 5, 2, 0, 0))], [])), [(2, 0, 39)])
def zpA454h34 : Nat × zTm × zRk := (69, ([(0, 6, 0, 0)], ([[(0, 0)], [(0, 40)], [(0, 5)], [(0, 50)], [(2, 12)], [(0, 38)], [(5, 5)]], [], [(3, 0, 90, 0, 0), (1, 2, 0, 0, 0), (1, 3, 0, 0, 0), (1, 4, 0, 0, 0), (1, 0, 2, 0, 0), (1, 0, 1, 0, 0), (1, 6, 0, 0, 0)], [], [(0, 90, 22, (1, 5, 2, 0, 0))], [])), [(2, 0, 42)])
def zpA454h35 : Nat × zTm × zRk := (69, ([(0, 6, 0, 0)], ([[(0, 0)], [(0, 40)], [(0, 5)], [(0, 45)], [(4, 12)], [(0, 37)], [(0, 0), (5, 5)]], [], [(3, 0, 90, 0, 0), (1, 2, 0, 0, 0), (1, 3, 0, 0, 0), (1, 4, 0, 0, 0), (1, 0, 3, 0, 0), (1, 0, 0, 0, 0), (1, 6, 0, 0, 0)], [], [(0, 90, 22, (1, 5, 3, 0, 0))], [])), [(2, 0, 35)])
def zpA454h36 : Nat × zTm × zRk := (69, ([(0, 6, 0, 0)], ([[(0, 0)], [(0, 40)], [(0, 5)], [(0, 45)], [(3, 12)], [(0, 37)], [(5, 5)]], [], [(3, 0, 90, 0, 0), (1, 2, 0, 0, 0), (1, 3, 0, 0, 0), (1, 4, 0, 0, 0), (1, 0, 3, 0, 0), (1, 0, 1, 0, 0), (1, 6, 0, 0, 0)], [], [(0, 90, 22, (1, 5, 3, 0, 0))], [])), [(2, 0, 38)])
def zpA454h37 : Nat × zTm × zRk := (69, ([(0, 6, 0, 0)], ([[(0, 0)], [(0, 40)], [(0, 5)], [(0, 40)], [(5, 12)], [(0, 36)], [(0, 0), (5, 5)]], [], [(3, 0, 90, 0, 0), (1, 2, 0, 0, 0), (1, 3, 0, 0, 0), (1, 4, 0, 0, 0), (1, 0, 4, 0, 0), (1, 0, 0, 0, 0), (1, 6, 0, 0, 0)], [], [(0, 90, 22, (1, 5, 4, 0, 0))], [])), [(2, 0, 31)])
def zpA454h38 : Nat × zTm × zRk := (69, ([(0, 6, 0, 0)], ([[(0, 0)], [(0, 40)], [(0, 5)], [(0, 40)], [(4, 12)], [(0, 36)], [(5, 5)]], [], [(3, 0, 90, 0, 0), (1, 2, 0, 0, 0), (1, 3, 0, 0, 0), (1, 4, 0, 0, 0), (1, 0, 4, 0, 0), (1, 0, 1, 0, 0), (1, 6, 0, 0, 0)], [], [(0, 90, 22, (1, 5, 4, 0, 0))], [])), [(2, 0, 34)])
def zpA454h39 : Nat × zTm × zRk := (69, ([(0, 6, 0, 0)], ([[(0, 0)], [(0, 40)], [(0, 5)], [(0, 35)], [(6, 12)], [(0, 35)], [(0, 0), (5, 5)]], [], [(3, 0, 90, 0, 0), (1, 2, 0, 0, 0), (1, 3, 0, 0, 0), (1, 4, 0, 0, 0), (1, 0, 5, 0, 0), (1, 0, 0, 0, 0), (1, 6, 0, 0, 0)], [], [(0, 90, 22, (1, 5, 5, 0, 0))], [])), [(2, 0, 27)])
def zpA454h40 : Nat × zTm × zRk := (69, ([(0, 6, 0, 0)], ([[(0, 0)], [(0, 40)], [(0, 5)], [(0, 35)], [(5, 12)], [(0, 35)], [(5, 5)]], [], [(3, 0, 90, 0, 0), (1, 2, 0, 0, 0), (1, 3, 0, 0, 0), (1, 4, 0, 0, 0), (1, 0, 5, 0, 0), (1, 0, 1, 0, 0), (1, 6, 0, 0, 0)], [], [(0, 90, 22, (1, 5, 5, 0, 0))], [])), [(2, 0, 30)])
def zpA454h41 : Nat × zTm × zRk := (69, ([(0, 6, 0, 0)], ([[(0, 0)], [(0, 40)], [(0, 5)], [(0, 30)], [(7, 12)], [(0, 34)], [(0, 0), (5, 5)]], [], [(3, 0, 90, 0, 0), (1, 2, 0, 0, 0), (1, 3, 0, 0, 0), (1, 4, 0, 0, 0), (1, 0, 6, 0, 0), (1, 0, 0, 0, 0), (1, 6, 0, 0, 0)], [], [(0, 90, 22, (1, 5, 6, 0, 0))], [])), [(2, 0, 23)])
def zpA454h42 : Nat × zTm × zRk := (69, ([(0, 6, 0, 0)], ([[(0, 0)], [(0, 40)], [(0, 5)], [(0, 30)], [(6, 12)], [(0, 34)], [(5, 5)]], [], [(3, 0, 90, 0, 0), (1, 2, 0, 0, 0), (1, 3, 0, 0, 0), (1, 4, 0, 0, 0), (1, 0, 6, 0, 0), (1, 0, 1, 0, 0), (1, 6, 0, 0, 0)], [], [(0, 90, 22, (1, 5, 6, 0, 0))], [])), [(2, 0, 26)])
def zpA454h43 : Nat × zTm × zRk := (69, ([(0, 6, 0, 0)], ([[(0, 0)], [(0, 40)], [(0, 5)], [(0, 25)], [(8, 12)], [(0, 33)], [(0, 0), (5, 5)]], [], [(3, 0, 90, 0, 0), (1, 2, 0, 0, 0), (1, 3, 0, 0, 0), (1, 4, 0, 0, 0), (1, 0, 7, 0, 0), (1, 0, 0, 0, 0), (1, 6, 0, 0, 0)], [], [(0, 90, 22, (1, 5, 7, 0, 0))], [])), [(2, 0, 19)])
def zpA454h44 : Nat × zTm × zRk := (69, ([(0, 6, 0, 0)], ([[(0, 0)], [(0, 40)], [(0, 5)], [(0, 25)], [(7, 12)], [(0, 33)], [(5, 5)]], [], [(3, 0, 90, 0, 0), (1, 2, 0, 0, 0), (1, 3, 0, 0, 0), (1, 4, 0, 0, 0), (1, 0, 7, 0, 0), (1, 0, 1, 0, 0), (1, 6, 0, 0, 0)], [], [(0, 90, 22, (1, 5, 7, 0, 0))], [])), [(2, 0, 22)])
def zpA454h45 : Nat × zTm × zRk := (69, ([(0, 6, 0, 0)], ([[(0, 0)], [(0, 40)], [(0, 5)], [(0, 20)], [(9, 12)], [(0, 32)], [(0, 0), (5, 5)]], [], [(3, 0, 90, 0, 0), (1, 2, 0, 0, 0), (1, 3, 0, 0, 0), (1, 4, 0, 0, 0), (1, 0, 8, 0, 0), (1, 0, 0, 0, 0), (1, 6, 0, 0, 0)], [], [(0, 90, 22, (1, 5, 8, 0, 0))], [])), [(2, 0, 15)])
def zpA454h46 : Nat × zTm × zRk := (69, ([(0, 6, 0, 0)], ([[(0, 0)], [(0, 40)], [(0, 5)], [(0, 20)], [(8, 12)], [(0, 32)], [(5, 5)]], [], [(3, 0, 90, 0, 0), (1, 2, 0, 0, 0), (1, 3, 0, 0, 0), (1, 4, 0, 0, 0), (1, 0, 8, 0, 0), (1, 0, 1, 0, 0), (1, 6, 0, 0, 0)], [], [(0, 90, 22, (1, 5, 8, 0, 0))], [])), [(2, 0, 18)])
def zpA454h47 : Nat × zTm × zRk := (69, ([(0, 6, 0, 0)], ([[(0, 0)], [(0, 40)], [(0, 5)], [(0, 15)], [(10, 12)], [(0, 31)], [(0, 0), (5, 5)]], [], [(3, 0, 90, 0, 0), (1, 2, 0, 0, 0), (1, 3, 0, 0, 0), (1, 4, 0, 0, 0), (1, 0, 9, 0, 0), (1, 0, 0, 0, 0), (1, 6, 0, 0, 0)], [], [(0, 90, 22, (1, 5, 9, 0, 0))], [])), [(2, 0, 11)])
def zpA454h48 : Nat × zTm × zRk := (69, ([(0, 6, 0, 0)], ([[(0, 0)], [(0, 40)], [(0, 5)], [(0, 15)], [(9, 12)], [(0, 31)], [(5, 5)]], [], [(3, 0, 90, 0, 0), (1, 2, 0, 0, 0), (1, 3, 0, 0, 0), (1, 4, 0, 0, 0), (1, 0, 9, 0, 0), (1, 0, 1, 0, 0), (1, 6, 0, 0, 0)], [], [(0, 90, 22, (1, 5, 9, 0, 0))], [])), [(2, 0, 14)])
def zpA454 : zAnn := [zpA454h0, zpA454h1, zpA454h2, zpA454h3, zpA454h4, zpA454h5, zpA454h6, zpA454h7, zpA454h8, zpA454h9, zpA454h10, zpA454h11, zpA454h12, zpA454h13, zpA454h14, zpA454h15, zpA454h16, zpA454h17, zpA454h18, zpA454h19, zpA454h20, zpA454h21, zpA454h22, zpA454h23, zpA454h24, zpA454h25, zpA454h26, zpA454h27, zpA454h28, zpA454h29, zpA454h30, zpA454h31, zpA454h32, zpA454h33, zpA454h34, zpA454h35, zpA454h36, zpA454h37, zpA454h38, zpA454h39, zpA454h40, zpA454h41, zpA454h42, zpA454h43, zpA454h44, zpA454h45, zpA454h46, zpA454h47, zpA454h48]

/-- PushedInModel.goesAhead () -/
def zpC455 : zC := (152, (1, 40), ([(0, 1, 0, 0), (0, 2, 0, 0)], ([[(0, 0)], [(0, 40)], [(0, 39)], [(0, 39)]], [], [(3, 0, 90, 0, 0), (1, 2, 0, 0, 0), (1, 3, 0, 0, 0)], [], [], [])), [([], ([[(0, 0)], [(0, 40)], [(0, 39)], [(0, 39)]], [], [], [(1, 0, 0, 0, 0)], [], [])), ([], ([[(0, 0)], [(0, 40)], [(0, 39)], [(0, 39)]], [], [], [(1, 0, 1, 0, 0)], [], []))], [])
def zpA455 : zAnn := []

/-- PushedInModel.aheadOf () -/
def zpC456 : zC := (126, (2, 62), ([(0, 1, 0, 0)], ([[(0, 0)], [(0, 40)], [(0, 39)]], [], [(3, 0, 90, 0, 0), (1, 2, 0, 0, 0), (0, 0, 0, 0, 0), (0, 0, 0, 0, 0)], [], [], [])), [([(1, 0, 0, 0)], ([[(0, 0)], [(0, 40)], [(0, 39)], [((-1), 39)]], [], [], [(1, 3, 0, 0, 0)], [], []))], [])
def zpA456 : zAnn := [(4, ([(0, 2, 0, 0), (0, 3, 0, 0)], ([[(0, 0)], [(0, 40)], [(0, 39)], [((-1), 39)], [(0, 40)]], [(3, 4, 0)], [(3, 0, 90, 0, 0), (1, 2, 0, 0, 0), (1, 3, 0, 0, 0), (1, 4, 0, 0, 0)], [], [], [])), [(2, 0, 0), (0, 3, 39), (2, 0, 0), (0, 4, 40)])]

/-- PushedInModel.within () -/
def zpC457 : zC := (204, (1, 40), ([(0, 0, 0, 0), (0, 2, 0, 0), (0, 4, 0, 0)], ([[(0, 0)], [(0, 40)], [((-2147483648), 2147483647)], [((-2147483648), 2147483647)], [((-2147483648), 2147483647)]], [], [(2, 2, 0, 0, 0), (0, 0, 0, 0, 0), (2, 3, 0, 0, 0), (0, 0, 0, 0, 0), (2, 4, 0, 0, 0), (0, 0, 0, 0, 0)], [], [], [])), [([], ([[(0, 0)], [(0, 40)], [((-2147483648), 2147483647)], [((-2147483648), 2147483647)], [((-2147483648), 2147483647)]], [], [], [(1, 0, 0, 0, 0)], [], [])), ([], ([[(0, 0)], [(0, 40)], [((-2147483648), 2147483647)], [((-2147483648), 2147483647)], [((-2147483648), 2147483647)]], [(2, 4, 0), (3, 2, 0), (3, 4, 0)], [], [(1, 0, 1, 0, 0)], [], []))], [])
def zpA457 : zAnn := []

/-- PushedInModel.isAway () -/
def zpC458 : zC := (155, (2, 65), ([(0, 1, 0, 0), (0, 2, 0, 0)], ([[(0, 0)], [(0, 40)], [((-2147483648), 2147483647)], [((-2147483648), 2147483646)]], [], [(3, 0, 90, 0, 0), (1, 2, 0, 0, 0), (1, 3, 0, 0, 0), (0, 0, 0, 0, 0)], [], [], [])), [([], ([[(0, 0)], [(0, 40)], [((-2147483648), 2147483647)], [((-2147483648), 2147483646)]], [], [], [(1, 0, 0, 0, 0)], [], [])), ([], ([[(0, 0)], [(0, 40)], [((-2147483648), 2147483647)], [((-2147483648), 2147483646)]], [], [], [(1, 0, 1, 0, 0)], [], []))], [])
def zpA458 : zAnn := [(2, ([(0, 3, 0, 0)], ([[(0, 0)], [(0, 40)], [((-2147483648), 2147483647)], [((-2147483648), 2147483646)], [(0, 12)]], [], [(3, 0, 90, 0, 0), (1, 2, 0, 0, 0), (1, 3, 0, 0, 0), (1, 4, 0, 0, 0)], [], [], [])), [(2, 0, 0), (0, 4, 12), (2, 0, 0)])]

/-- PushedInModel.lateOf () -/
def zpC459 : zC := (167, (1, 40), ([(0, 1, 0, 0)], ([[(0, 0)], [(0, 40)], [(0, 39)]], [], [(3, 0, 90, 0, 0), (1, 2, 0, 0, 0)], [], [], [])), [([(1, 0, 0, 0)], ([[(0, 0)], [(0, 40)], [(0, 39)], [((-2147483648), 2147483647)]], [], [], [(1, 3, 0, 0, 0)], [], []))], [])
def zpA459 : zAnn := []

/-- PushedInModel.earlyOf () -/
def zpC460 : zC := (145, (3, 88), ([(0, 1, 0, 0)], ([[(0, 0)], [(0, 40)], [(0, 39)]], [], [(3, 0, 90, 0, 0), (1, 2, 0, 0, 0), (0, 0, 0, 0, 0), (0, 0, 0, 0, 0), (0, 0, 0, 0, 0), (0, 0, 0, 0, 0)], [], [], [])), [([(1, 0, 0, 0)], ([[(0, 0)], [(0, 40)], [(0, 39)], [(0, 2147483647)]], [], [], [(1, 3, 0, 0, 0)], [], [])), ([], ([[(0, 0)], [(0, 40)], [(0, 39)]], [], [], [(1, 0, (-2), 0, 0)], [], []))], [])
def zpA460 : zAnn := [(96, ([(0, 2, 0, 0), (0, 3, 0, 0), (0, 4, 0, 0), (0, 5, 0, 0)], ([[(0, 0)], [(0, 40)], [(0, 39)], [(0, 2147483647)], [((-2147483648), 2147483647)], [((-1), 39)], [(0, 2147483647)]], [(3, 6, 0)], [(3, 0, 90, 0, 0), (1, 2, 0, 0, 0), (1, 3, 0, 0, 0), (1, 4, 0, 0, 0), (1, 5, 0, 0, 0), (1, 6, 0, 0, 0)], [], [], [])), [(2, 0, 0), (0, 3, 2147483647), (2, 0, 0), (0, 6, 2147483647)])]

/-- PushedInModel.within ((1, 0),) -/
def zpC461 : zC := (204, (1, 40), ([(0, 0, 0, 0), (0, 4, 0, 0)], ([[(0, 0)], [(0, 40)], [((-2147483648), 2147483647)], [((-1), 39)]], [], [(2, 2, 0, 0, 0), (0, 0, 0, 0, 0), (2, 0, 0, 0, 0), (0, 0, 0, 0, 0), (2, 3, 0, 0, 0), (0, 0, 0, 0, 0)], [], [], [])), [([], ([[(0, 0)], [(0, 40)], [((-2147483648), 2147483647)], [((-1), 39)]], [], [], [(1, 0, 0, 0, 0)], [], [])), ([], ([[(0, 0)], [(0, 40)], [(0, 39)], [(0, 39)]], [(2, 3, 0)], [], [(1, 0, 1, 0, 0)], [], []))], [])
def zpA461 : zAnn := []

/-- PushedInModel.isComer () -/
def zpC462 : zC := (156, (2, 65), ([(0, 1, 0, 0)], ([[(0, 0)], [(0, 40)], [((-2147483648), 2147483647)]], [], [(3, 0, 90, 0, 0), (1, 2, 0, 0, 0)], [], [], [])), [([], ([[(0, 0)], [(0, 40)], [((-2147483648), 2147483647)]], [], [], [(1, 0, 0, 0, 0)], [], [])), ([], ([[(0, 0)], [(0, 40)], [(0, 39)]], [], [], [(1, 0, 1, 0, 0)], [], []))], [])
def zpA462 : zAnn := []

/-- PushedInModel.of () -/
def zpC463 : zC := (174, (4, 113), ([(0, 1, 0, 0), (0, 2, 0, 0)], ([[(0, 0)], [(0, 40)], [((-2147483648), 2147483647)], [((-2147483648), 2147483647)]], [], [(3, 0, 90, 0, 0), (1, 2, 0, 0, 0), (1, 3, 0, 0, 0)], [], [], [])), [([(1, 0, 0, 0)], ([[(0, 0)], [(0, 40)], [(0, 39)], [(0, 10)], [((-2147483648), 2147483647)]], [], [], [(1, 4, 0, 0, 0)], [], [])), ([], ([[(0, 0)], [(0, 40)], [((-2147483648), 2147483647)], [((-2147483648), 2147483647)]], [], [], [(1, 0, (-1), 0, 0)], [], [])), ([], ([[(0, 0)], [(0, 40)], [(0, 39)], [(9, 10)]], [], [], [(1, 0, (-2), 0, 0)], [], []))], [])
def zpA463 : zAnn := []

/-- PushedInModel.came () -/
def zpC464 : zC := (135, (3, 86), ([(0, 1, 0, 0), (0, 2, 0, 0), (2, 0, 90, 5), (2, 0, 90, 4)], ([[(0, 0)], [(0, 40)], [((-2147483648), 2147483647)], [((-2147483648), 2147483647)], [(0, 40)], [(0, 40)]], [(4, 5, 0)], [(3, 0, 90, 0, 0), (1, 2, 0, 0, 0), (1, 3, 0, 0, 0)], [], [(0, 90, 5, (1, 4, 0, 0, 0)), (0, 90, 4, (1, 5, 0, 0, 0))], [])), [([(1, 0, 0, 0), (2, 0, 90, 5), (2, 0, 90, 4)], ([[(0, 0)], [(0, 40)], [(0, 39)], [(0, 2147483646)], [(0, 40)], [(0, 40)], [((-2147483648), 2147483647)], [(0, 40)], [(0, 40)]], [(8, 5, 1), (7, 8, 0), (7, 4, 1), (7, 5, 1), (4, 8, 0), (4, 7, 0)], [], [(1, 6, 0, 0, 0)], [(0, 90, 5, (1, 7, 0, 0, 0)), (0, 90, 4, (1, 8, 0, 0, 0))], [])), ([], ([[(0, 0)], [(0, 40)], [((-2147483648), 2147483647)], [((-2147483648), 2147483647)], [(0, 40)], [(0, 40)]], [], [], [(1, 0, (-1), 0, 0)], [(0, 90, 5, (1, 4, 0, 0, 0)), (0, 90, 4, (1, 5, 0, 0, 0))], []))], [(90, 90, 1, 4), (90, 90, 1, 5), (91, 91, 0, 0), (92, 92, 0, 0), (93, 93, 0, 0), (94, 94, 0, 0)])
def zpA464 : zAnn := []

/-- PushedInModel.isDay () -/
def zpC465 : zC := (157, (2, 65), ([(0, 0, 0, 0)], ([[(0, 0)], [(0, 40)], [((-2147483648), 2147483647)]], [], [(1, 2, 0, 0, 0)], [], [], [])), [([], ([[(0, 0)], [(0, 40)], [((-2147483648), (-1)), (4, 2147483647)]], [], [], [(1, 0, 0, 0, 0)], [], [])), ([], ([[(0, 0)], [(0, 40)], [(0, 3)]], [], [], [(1, 0, 1, 0, 0)], [], []))], [])
def zpA465 : zAnn := []

/-- PushedInModel.cant () -/
def zpC466 : zC := (136, (4, 113), ([(0, 1, 0, 0)], ([[(0, 0)], [(0, 40)], [((-2147483648), 2147483647)]], [], [(3, 0, 90, 0, 0), (1, 2, 0, 0, 0), (0, 0, 0, 0, 0)], [], [], [])), [([(1, 0, 0, 0)], ([[(0, 0)], [(0, 40)], [(0, 3)], [(0, 39)]], [], [], [(1, 3, 0, 0, 0)], [], [])), ([], ([[(0, 0)], [(0, 40)], [((-2147483648), (-1)), (4, 2147483647)]], [], [], [(1, 0, (-1), 0, 0)], [], [])), ([], ([[(0, 0)], [(0, 40)], [(0, 3)]], [], [], [(1, 0, (-2), 0, 0)], [], []))], [])
def zpA466 : zAnn := [(11, ([(0, 2, 0, 0)], ([[(0, 0)], [(0, 40)], [(0, 3)], [(0, 40)]], [], [(3, 0, 90, 0, 0), (1, 2, 0, 0, 0), (1, 3, 0, 0, 0)], [], [], [])), [(2, 0, 0), (0, 3, 40), (2, 0, 0)])]

/-- PushedInModel.findStarts () -/
def zpC467 : zC := (151, (4, 113), ([], ([[(0, 0)], [(0, 40)]], [], [(3, 0, 90, 0, 0), (0, 0, 0, 0, 0)], [], [], [])), [([], ([[(0, 0)], [(0, 40)]], [], [], [], [], []))], [(110, 110, 0, 0), (111, 111, 0, 0)])
def zpA467 : zAnn := [(2, ([(0, 1, 0, 0)], ([[(0, 0)], [(0, 40)], [(0, 40)]], [], [(3, 0, 90, 0, 0), (1, 2, 0, 0, 0)], [], [], [])), [(2, 0, 0), (0, 2, 40), (2, 0, 0)])]

/-- PushedInModel.isLater () -/
def zpC468 : zC := (159, (1, 40), ([(0, 1, 0, 0), (0, 2, 0, 0)], ([[(0, 0)], [(0, 40)], [(0, 39)], [(0, 39)]], [], [(3, 0, 90, 0, 0), (1, 2, 0, 0, 0), (1, 3, 0, 0, 0)], [], [], [])), [([], ([[(0, 0)], [(0, 40)], [(0, 39)], [(0, 39)]], [], [], [(1, 0, 0, 0, 0)], [], [])), ([], ([[(0, 0)], [(0, 40)], [(0, 39)], [(0, 39)]], [], [], [(1, 0, 1, 0, 0)], [], []))], [])
def zpA468 : zAnn := []

/-- PushedInModel.passes () -/
def zpC469 : zC := (178, (2, 62), ([(0, 1, 0, 0), (0, 2, 0, 0), (0, 3, 0, 0)], ([[(0, 0)], [(0, 40)], [(0, 39)], [(0, 39)], [(0, 1)]], [], [(3, 0, 90, 0, 0), (1, 2, 0, 0, 0), (1, 3, 0, 0, 0), (1, 4, 0, 0, 0)], [], [], [])), [([], ([[(0, 0)], [(0, 40)], [(0, 39)], [(0, 39)], [(0, 1)]], [], [], [(1, 0, 0, 0, 0)], [], [])), ([], ([[(0, 0)], [(0, 40)], [(0, 39)], [(0, 39)], [(0, 1)]], [], [], [(1, 0, 1, 0, 0)], [], []))], [])
def zpA469 : zAnn := []

/-- PushedInModel.passed () -/
def zpC470 : zC := (177, (5, 134), ([(0, 1, 0, 0), (0, 2, 0, 0)], ([[(0, 0)], [(0, 40)], [((-2147483648), 2147483647)], [((-2147483648), 2147483647)]], [], [(3, 0, 90, 0, 0), (1, 2, 0, 0, 0), (1, 3, 0, 0, 0)], [], [], [])), [([], ([[(0, 0)], [(0, 40)], [((-2147483648), 2147483647)], [((-2147483648), 2147483647)]], [], [], [(1, 0, (-1), 0, 0)], [], [])), ([], ([[(0, 0)], [(0, 40)], [(0, 2147483647)], [(0, 1)]], [], [], [(1, 0, 0, 0, 0)], [], [])), ([], ([[(0, 0)], [(0, 40)], [(0, 2147483647)], [(0, 1)]], [], [], [(1, 0, 1, 0, 0)], [], []))], [(110, 110, 0, 0), (111, 111, 0, 0)])
def zpA470 : zAnn := []

/-- PushedInModel.pairs () -/
def zpC471 : zC := (176, (5, 134), ([(0, 1, 0, 0), (0, 2, 0, 0)], ([[(0, 0)], [(0, 40)], [((-2147483648), 2147483647)], [((-2147483648), 2147483647)]], [], [(3, 0, 90, 0, 0), (1, 2, 0, 0, 0), (1, 3, 0, 0, 0), (0, 0, 0, 0, 0), (0, 0, 0, 0, 0), (0, 0, 0, 0, 0)], [], [], [])), [([(1, 0, 0, 0)], ([[(0, 0)], [(0, 40)], [(0, 3)], [(0, 1)], [((-2147483648), 2147483647)]], [], [], [(1, 4, 0, 0, 0)], [], [])), ([], ([[(0, 0)], [(0, 40)], [((-2147483648), 2147483647)], [((-2147483648), 2147483647)]], [], [], [(1, 0, (-1), 0, 0)], [], []))], [(110, 110, 0, 0), (111, 111, 0, 0)])
def zpA471 : zAnn := [(28, ([(0, 3, 0, 0), (0, 4, 0, 0)], ([[(0, 0)], [(0, 40)], [(0, 3)], [(0, 1)], [((-2147483648), 2147483647)], [(0, 40)]], [], [(3, 0, 90, 0, 0), (1, 2, 0, 0, 0), (1, 3, 0, 0, 0), (1, 4, 0, 0, 0), (1, 5, 0, 0, 0), (0, 0, 0, 0, 0)], [], [], [])), [(2, 0, 0), (0, 5, 40), (2, 0, 1)]), (40, ([(0, 3, 0, 0), (0, 4, 0, 0), (0, 5, 0, 0)], ([[(0, 0)], [(0, 40)], [(0, 3)], [(0, 1)], [((-2147483648), 2147483647)], [(0, 39)], [(0, 40)]], [], [(3, 0, 90, 0, 0), (1, 2, 0, 0, 0), (1, 3, 0, 0, 0), (1, 4, 0, 0, 0), (1, 5, 0, 0, 0), (1, 6, 0, 0, 0)], [], [], [])), [(2, 0, 0), (0, 5, 40), (2, 0, 0), (0, 6, 40)])]

/-- PushedInModel.within ((1, -1), (2, 719)) -/
def zpC472 : zC := (204, (1, 40), ([(0, 0, 0, 0)], ([[(0, 0)], [(0, 40)], [((-2147483648), 2147483647)]], [], [(2, 2, 0, 0, 0), (0, 0, 0, 0, 0), (2, 0, (-1), 0, 0), (0, 0, 0, 0, 0), (2, 0, 719, 0, 0), (0, 0, 0, 0, 0)], [], [], [])), [([], ([[(0, 0)], [(0, 40)], [((-2147483648), (-2)), (720, 2147483647)]], [], [], [(1, 0, 0, 0, 0)], [], [])), ([], ([[(0, 0)], [(0, 40)], [((-1), 719)]], [], [], [(1, 0, 1, 0, 0)], [], []))], [])
def zpA472 : zAnn := []

/-- PushedInModel.start () -/
def zpC473 : zC := (191, (3, 86), ([(0, 1, 0, 0), (0, 2, 0, 0)], ([[(0, 0)], [(0, 40)], [((-2147483648), 2147483647)], [((-2147483648), 2147483647)]], [], [(3, 0, 90, 0, 0), (1, 2, 0, 0, 0), (1, 3, 0, 0, 0)], [], [], [])), [([], ([[(0, 0)], [(0, 40)], [((-2147483648), 2147483647)], [((-2147483648), 2147483647)]], [], [], [(1, 0, (-1), 0, 0)], [], [])), ([], ([[(0, 0)], [(0, 40)], [(0, 39)], [((-1), 719)]], [], [], [(1, 0, 1, 0, 0)], [], []))], [(108, 108, 0, 0)])
def zpA473 : zAnn := []

/-- PushedInModel.passesAsTold () -/
def zpC474 : zC := (179, (2, 62), ([(0, 1, 0, 0), (0, 2, 0, 0)], ([[(0, 0)], [(0, 40)], [(0, 39)], [(0, 39)]], [], [(3, 0, 90, 0, 0), (1, 2, 0, 0, 0), (1, 3, 0, 0, 0)], [], [], [])), [([], ([[(0, 0)], [(0, 40)], [(0, 39)], [(0, 39)]], [], [], [(1, 0, 0, 0, 0)], [], [])), ([], ([[(0, 0)], [(0, 40)], [(0, 39)], [(0, 39)]], [], [], [(1, 0, 1, 0, 0)], [], []))], [])
def zpA474 : zAnn := []

/-- PushedInModel.judge () -/
def zpC475 : zC := (163, (5, 134), ([(0, 1, 0, 0), (0, 2, 0, 0)], ([[(0, 0)], [(0, 40)], [((-2147483648), 2147483647)], [((-2147483648), 2147483647)]], [], [(3, 0, 90, 0, 0), (1, 2, 0, 0, 0), (1, 3, 0, 0, 0), (0, 0, 0, 0, 0), (0, 0, 0, 0, 0), (0, 0, 0, 0, 0), (0, 0, 0, 0, 0)], [], [], [])), [([(1, 0, 0, 0)], ([[(0, 0)], [(0, 40)], [(0, 3)], [(0, 1)], [((-2147483648), 2147483647)]], [], [], [(1, 4, 0, 0, 0)], [], [])), ([], ([[(0, 0)], [(0, 40)], [((-2147483648), 2147483647)], [((-2147483648), 2147483647)]], [], [], [(1, 0, (-1), 0, 0)], [], [])), ([], ([[(0, 0)], [(0, 40)], [(0, 3)], [(0, 0)]], [], [], [(1, 0, (-2), 0, 0)], [], []))], [(110, 110, 0, 0), (111, 111, 0, 0)])
def zpA475 : zAnn := [(126, ([(0, 3, 0, 0), (0, 4, 0, 0), (0, 5, 0, 0), (0, 6, 0, 0)], ([[(0, 0)], [(0, 40)], [(0, 3)], [(0, 1)], [((-2147483648), 2147483647)], [(0, 39)], [(0, 1)], [(0, 40)]], [], [(3, 0, 90, 0, 0), (1, 2, 0, 0, 0), (1, 3, 0, 0, 0), (1, 4, 0, 0, 0), (1, 5, 0, 0, 0), (1, 6, 0, 0, 0), (1, 7, 0, 0, 0)], [], [], [])), [(2, 0, 0), (0, 5, 40), (2, 0, 0), (0, 7, 40)]), (28, ([(0, 3, 0, 0), (0, 4, 0, 0)], ([[(0, 0)], [(0, 40)], [(0, 3)], [(0, 1)], [((-2147483648), 2147483647)], [(0, 40)]], [], [(3, 0, 90, 0, 0), (1, 2, 0, 0, 0), (1, 3, 0, 0, 0), (1, 4, 0, 0, 0), (1, 5, 0, 0, 0), (0, 0, 0, 0, 0), (0, 0, 0, 0, 0)], [], [], [])), [(2, 0, 0), (0, 5, 40), (2, 0, 1)])]

/-- PushedInModel.whom () -/
def zpC476 : zC := (203, (5, 134), ([(0, 1, 0, 0)], ([[(0, 0)], [(0, 40)], [((-2147483648), 2147483647)]], [], [(3, 0, 90, 0, 0), (1, 2, 0, 0, 0), (0, 0, 0, 0, 0), (0, 0, 0, 0, 0), (0, 0, 0, 0, 0)], [], [], [])), [([(1, 0, 0, 0)], ([[(0, 0)], [(0, 40)], [(0, 39)], [((-9223372036854775808), 9223372036854775807)]], [], [], [(2, 3, 0, 0, 0)], [], [])), ([], ([[(0, 0)], [(0, 40)], [((-2147483648), 2147483647)]], [], [], [(2, 0, (-1), 0, 0)], [], []))], [(110, 110, 0, 0), (111, 111, 0, 0)])
def zpA476 : zAnn := [(21, ([(0, 2, 0, 0), (0, 4, 0, 0)], ([[(0, 0)], [(0, 40)], [(0, 39)], [((-9223372036854775808), 9223372036854775807)], [(0, 40)]], [], [(3, 0, 90, 0, 0), (1, 2, 0, 0, 0), (2, 3, 0, 0, 0), (0, 0, 0, 0, 0), (1, 4, 0, 0, 0)], [], [], [])), [(2, 0, 0), (0, 4, 40), (2, 0, 0)])]

/-- PushedInModel.chooseFrom ((1, 6),) -/
def zpC477 : zC := (138, (1, 40), ([(0, 2, 0, 0)], ([[(0, 0)], [(0, 40)], [((-2147483648), 2147483647)]], [], [(3, 0, 90, 0, 0), (1, 0, 6, 0, 0), (1, 2, 0, 0, 0), (0, 0, 0, 0, 0), (0, 0, 0, 0, 0), (0, 0, 0, 0, 0), (0, 0, 0, 0, 0), (0, 0, 0, 0, 0)], [], [(0, 90, 36, (1, 0, 6, 0, 0))], [])), [([], ([[(0, 0)], [(0, 40)], [((-2147483648), 2147483647)]], [], [], [], [(0, 90, 36, (1, 0, 6, 0, 0))], []))], [(90, 90, 1, 37)])
def zpA477 : zAnn := []

/-- PushedInModel.chooseFrom ((1, 5),) -/
def zpC478 : zC := (138, (2, 67), ([(0, 2, 0, 0), (2, 0, 90, 36)], ([[(0, 0)], [(0, 40)], [((-2147483648), 2147483647)], [(5, 6)]], [], [(3, 0, 90, 0, 0), (1, 0, 5, 0, 0), (1, 2, 0, 0, 0), (0, 0, 0, 0, 0), (0, 0, 0, 0, 0), (0, 0, 0, 0, 0), (0, 0, 0, 0, 0), (0, 0, 0, 0, 0)], [], [(0, 90, 36, (1, 3, 0, 0, 0))], [])), [([(2, 0, 90, 36)], ([[(0, 0)], [(0, 40)], [((-2147483648), 2147483647)], [(5, 6)], [(5, 6)]], [], [], [], [(0, 90, 36, (1, 4, 0, 0, 0))], []))], [(90, 90, 1, 37), (113, 113, 0, 0)])
def zpA478 : zAnn := [(121, ([(0, 3, 0, 0), (0, 4, 0, 0), (0, 5, 0, 0), (0, 6, 0, 0), (0, 7, 0, 0), (2, 0, 90, 36)], ([[(0, 0)], [(0, 40)], [((-2147483648), 2147483646)], [(6, 6)], [(0, 39)], [(0, 11)], [((-2147483648), 2147483647)], [((-2147483648), 2147483647)], [(0, 5)], [(6, 6)]], [], [(3, 0, 90, 0, 0), (1, 0, 5, 0, 0), (1, 2, 0, 0, 0), (1, 4, 0, 0, 0), (1, 5, 0, 0, 0), (1, 6, 0, 0, 0), (1, 7, 0, 0, 0), (1, 8, 0, 0, 0)], [], [(0, 90, 36, (1, 9, 0, 0, 0))], [])), [(2, 0, 0), (0, 5, 12), (2, 0, 0), (0, 8, 5)]), (33, ([(0, 3, 0, 0), (0, 4, 0, 0), (2, 0, 90, 36)], ([[(0, 0)], [(0, 40)], [((-2147483648), 2147483646)], [(6, 6)], [(0, 39)], [(0, 12)], [(6, 6)]], [], [(3, 0, 90, 0, 0), (1, 0, 5, 0, 0), (1, 2, 0, 0, 0), (1, 4, 0, 0, 0), (1, 5, 0, 0, 0), (0, 0, 0, 0, 0), (0, 0, 0, 0, 0), (0, 0, 0, 0, 0)], [], [(0, 90, 36, (1, 6, 0, 0, 0))], [])), [(2, 0, 0), (0, 5, 12), (2, 0, 1)])]

/-- PushedInModel.chooseFrom ((1, 4),) -/
def zpC479 : zC := (138, (3, 94), ([(0, 2, 0, 0), (2, 0, 90, 36)], ([[(0, 0)], [(0, 40)], [((-2147483648), 2147483647)], [(4, 6)]], [], [(3, 0, 90, 0, 0), (1, 0, 4, 0, 0), (1, 2, 0, 0, 0), (0, 0, 0, 0, 0), (0, 0, 0, 0, 0), (0, 0, 0, 0, 0), (0, 0, 0, 0, 0), (0, 0, 0, 0, 0)], [], [(0, 90, 36, (1, 3, 0, 0, 0))], [])), [([(2, 0, 90, 36)], ([[(0, 0)], [(0, 40)], [((-2147483648), 2147483647)], [(4, 6)], [(4, 6)]], [], [], [], [(0, 90, 36, (1, 4, 0, 0, 0))], []))], [(90, 90, 1, 37), (113, 113, 0, 0)])
def zpA479 : zAnn := [(121, ([(0, 3, 0, 0), (0, 4, 0, 0), (0, 5, 0, 0), (0, 6, 0, 0), (0, 7, 0, 0), (2, 0, 90, 36)], ([[(0, 0)], [(0, 40)], [((-2147483648), 2147483646)], [(5, 6)], [(0, 39)], [(0, 11)], [((-2147483648), 2147483647)], [((-2147483648), 2147483647)], [(0, 4)], [(5, 6)]], [], [(3, 0, 90, 0, 0), (1, 0, 4, 0, 0), (1, 2, 0, 0, 0), (1, 4, 0, 0, 0), (1, 5, 0, 0, 0), (1, 6, 0, 0, 0), (1, 7, 0, 0, 0), (1, 8, 0, 0, 0)], [], [(0, 90, 36, (1, 9, 0, 0, 0))], [])), [(2, 0, 0), (0, 5, 12), (2, 0, 0), (0, 8, 4)]), (33, ([(0, 3, 0, 0), (0, 4, 0, 0), (2, 0, 90, 36)], ([[(0, 0)], [(0, 40)], [((-2147483648), 2147483646)], [(5, 6)], [(0, 39)], [(0, 12)], [(5, 6)]], [], [(3, 0, 90, 0, 0), (1, 0, 4, 0, 0), (1, 2, 0, 0, 0), (1, 4, 0, 0, 0), (1, 5, 0, 0, 0), (0, 0, 0, 0, 0), (0, 0, 0, 0, 0), (0, 0, 0, 0, 0)], [], [(0, 90, 36, (1, 6, 0, 0, 0))], [])), [(2, 0, 0), (0, 5, 12), (2, 0, 1)])]

/-- PushedInModel.chooseFrom ((1, 3),) -/
def zpC480 : zC := (138, (4, 121), ([(0, 2, 0, 0), (2, 0, 90, 36)], ([[(0, 0)], [(0, 40)], [((-2147483648), 2147483647)], [(3, 6)]], [], [(3, 0, 90, 0, 0), (1, 0, 3, 0, 0), (1, 2, 0, 0, 0), (0, 0, 0, 0, 0), (0, 0, 0, 0, 0), (0, 0, 0, 0, 0), (0, 0, 0, 0, 0), (0, 0, 0, 0, 0)], [], [(0, 90, 36, (1, 3, 0, 0, 0))], [])), [([(2, 0, 90, 36)], ([[(0, 0)], [(0, 40)], [((-2147483648), 2147483647)], [(3, 6)], [(3, 6)]], [], [], [], [(0, 90, 36, (1, 4, 0, 0, 0))], []))], [(90, 90, 1, 37), (113, 113, 0, 0)])
def zpA480 : zAnn := [(121, ([(0, 3, 0, 0), (0, 4, 0, 0), (0, 5, 0, 0), (0, 6, 0, 0), (0, 7, 0, 0), (2, 0, 90, 36)], ([[(0, 0)], [(0, 40)], [((-2147483648), 2147483646)], [(4, 6)], [(0, 39)], [(0, 11)], [((-2147483648), 2147483647)], [((-2147483648), 2147483647)], [(0, 3)], [(4, 6)]], [], [(3, 0, 90, 0, 0), (1, 0, 3, 0, 0), (1, 2, 0, 0, 0), (1, 4, 0, 0, 0), (1, 5, 0, 0, 0), (1, 6, 0, 0, 0), (1, 7, 0, 0, 0), (1, 8, 0, 0, 0)], [], [(0, 90, 36, (1, 9, 0, 0, 0))], [])), [(2, 0, 0), (0, 5, 12), (2, 0, 0), (0, 8, 3)]), (33, ([(0, 3, 0, 0), (0, 4, 0, 0), (2, 0, 90, 36)], ([[(0, 0)], [(0, 40)], [((-2147483648), 2147483646)], [(4, 6)], [(0, 39)], [(0, 12)], [(4, 6)]], [], [(3, 0, 90, 0, 0), (1, 0, 3, 0, 0), (1, 2, 0, 0, 0), (1, 4, 0, 0, 0), (1, 5, 0, 0, 0), (0, 0, 0, 0, 0), (0, 0, 0, 0, 0), (0, 0, 0, 0, 0)], [], [(0, 90, 36, (1, 6, 0, 0, 0))], [])), [(2, 0, 0), (0, 5, 12), (2, 0, 1)])]

/-- PushedInModel.chooseFrom ((1, 2),) -/
def zpC481 : zC := (138, (5, 148), ([(0, 2, 0, 0), (2, 0, 90, 36)], ([[(0, 0)], [(0, 40)], [(0, 1)], [(2, 6)]], [], [(3, 0, 90, 0, 0), (1, 0, 2, 0, 0), (1, 2, 0, 0, 0), (0, 0, 0, 0, 0), (0, 0, 0, 0, 0), (0, 0, 0, 0, 0), (0, 0, 0, 0, 0), (0, 0, 0, 0, 0)], [], [(0, 90, 36, (1, 3, 0, 0, 0))], [])), [([(2, 0, 90, 36)], ([[(0, 0)], [(0, 40)], [(0, 1)], [(2, 6)], [(2, 6)]], [], [], [], [(0, 90, 36, (1, 4, 0, 0, 0))], []))], [(90, 90, 1, 37), (113, 113, 0, 0)])
def zpA481 : zAnn := [(121, ([(0, 3, 0, 0), (0, 4, 0, 0), (0, 5, 0, 0), (0, 6, 0, 0), (0, 7, 0, 0), (2, 0, 90, 36)], ([[(0, 0)], [(0, 40)], [(0, 1)], [(3, 6)], [(0, 39)], [(0, 11)], [((-2147483648), 2147483647)], [((-2147483648), 2147483647)], [(0, 2)], [(3, 6)]], [], [(3, 0, 90, 0, 0), (1, 0, 2, 0, 0), (1, 2, 0, 0, 0), (1, 4, 0, 0, 0), (1, 5, 0, 0, 0), (1, 6, 0, 0, 0), (1, 7, 0, 0, 0), (1, 8, 0, 0, 0)], [], [(0, 90, 36, (1, 9, 0, 0, 0))], [])), [(2, 0, 0), (0, 5, 12), (2, 0, 0), (0, 8, 2)]), (33, ([(0, 3, 0, 0), (0, 4, 0, 0), (2, 0, 90, 36)], ([[(0, 0)], [(0, 40)], [(0, 1)], [(3, 6)], [(0, 39)], [(0, 12)], [(3, 6)]], [], [(3, 0, 90, 0, 0), (1, 0, 2, 0, 0), (1, 2, 0, 0, 0), (1, 4, 0, 0, 0), (1, 5, 0, 0, 0), (0, 0, 0, 0, 0), (0, 0, 0, 0, 0), (0, 0, 0, 0, 0)], [], [(0, 90, 36, (1, 6, 0, 0, 0))], [])), [(2, 0, 0), (0, 5, 12), (2, 0, 1)])]

/-- PushedInModel.chooseFrom ((1, 1),) -/
def zpC482 : zC := (138, (6, 175), ([(2, 0, 90, 36)], ([[(0, 0)], [(0, 40)], [(1, 6)]], [], [(3, 0, 90, 0, 0), (1, 0, 1, 0, 0), (1, 0, 0, 0, 0), (0, 0, 0, 0, 0), (0, 0, 0, 0, 0), (0, 0, 0, 0, 0), (0, 0, 0, 0, 0), (0, 0, 0, 0, 0)], [], [(0, 90, 36, (1, 2, 0, 0, 0))], [])), [([(2, 0, 90, 36)], ([[(0, 0)], [(0, 40)], [(1, 6)], [(1, 6)]], [], [], [], [(0, 90, 36, (1, 3, 0, 0, 0))], []))], [(90, 90, 1, 37), (113, 113, 0, 0)])
def zpA482 : zAnn := [(121, ([(0, 3, 0, 0), (0, 4, 0, 0), (0, 5, 0, 0), (0, 6, 0, 0), (0, 7, 0, 0), (2, 0, 90, 36)], ([[(0, 0)], [(0, 40)], [(2, 6)], [(0, 39)], [(0, 11)], [((-2147483648), 2147483647)], [(0, 1)], [(0, 1)], [(2, 6)]], [(6, 7, 0)], [(3, 0, 90, 0, 0), (1, 0, 1, 0, 0), (1, 0, 0, 0, 0), (1, 3, 0, 0, 0), (1, 4, 0, 0, 0), (1, 5, 0, 0, 0), (1, 6, 0, 0, 0), (1, 7, 0, 0, 0)], [], [(0, 90, 36, (1, 8, 0, 0, 0))], [])), [(2, 0, 0), (0, 4, 12), (2, 0, 0), (0, 7, 1)]), (33, ([(0, 3, 0, 0), (0, 4, 0, 0), (2, 0, 90, 36)], ([[(0, 0)], [(0, 40)], [(2, 6)], [(0, 39)], [(0, 12)], [(2, 6)]], [], [(3, 0, 90, 0, 0), (1, 0, 1, 0, 0), (1, 0, 0, 0, 0), (1, 3, 0, 0, 0), (1, 4, 0, 0, 0), (0, 0, 0, 0, 0), (0, 0, 0, 0, 0), (0, 0, 0, 0, 0)], [], [(0, 90, 36, (1, 5, 0, 0, 0))], [])), [(2, 0, 0), (0, 4, 12), (2, 0, 1)])]

/-- PushedInModel.chooseFrom ((1, 0),) -/
def zpC483 : zC := (138, (7, 202), ([(2, 0, 90, 36)], ([[(0, 0)], [(0, 40)], [(0, 6)]], [], [(3, 0, 90, 0, 0), (1, 0, 0, 0, 0), (1, 0, 0, 0, 0), (0, 0, 0, 0, 0), (0, 0, 0, 0, 0), (0, 0, 0, 0, 0), (0, 0, 0, 0, 0), (0, 0, 0, 0, 0)], [], [(0, 90, 36, (1, 2, 0, 0, 0))], [])), [([(2, 0, 90, 36)], ([[(0, 0)], [(0, 40)], [(0, 6)], [(0, 6)]], [], [], [], [(0, 90, 36, (1, 3, 0, 0, 0))], []))], [(90, 90, 1, 37), (113, 113, 0, 0)])
def zpA483 : zAnn := [(121, ([(0, 3, 0, 0), (0, 4, 0, 0), (0, 5, 0, 0), (2, 0, 90, 36)], ([[(0, 0)], [(0, 40)], [(1, 6)], [(0, 39)], [(0, 11)], [((-2147483648), 2147483647)], [(1, 6)]], [], [(3, 0, 90, 0, 0), (1, 0, 0, 0, 0), (1, 0, 0, 0, 0), (1, 3, 0, 0, 0), (1, 4, 0, 0, 0), (1, 5, 0, 0, 0), (1, 0, 0, 0, 0), (1, 0, 0, 0, 0)], [], [(0, 90, 36, (1, 6, 0, 0, 0))], [])), [(2, 0, 0), (0, 4, 12), (2, 0, 0)]), (33, ([(0, 3, 0, 0), (0, 4, 0, 0), (2, 0, 90, 36)], ([[(0, 0)], [(0, 40)], [(1, 6)], [(0, 39)], [(0, 12)], [(1, 6)]], [], [(3, 0, 90, 0, 0), (1, 0, 0, 0, 0), (1, 0, 0, 0, 0), (1, 3, 0, 0, 0), (1, 4, 0, 0, 0), (0, 0, 0, 0, 0), (0, 0, 0, 0, 0), (0, 0, 0, 0, 0)], [], [(0, 90, 36, (1, 5, 0, 0, 0))], [])), [(2, 0, 0), (0, 4, 12), (2, 0, 1)])]

/-- PushedInModel.fewest () -/
def zpC484 : zC := (149, (8, 229), ([(0, 1, 0, 0)], ([[(0, 0)], [(0, 40)], [((-9223372036854775808), 9223372036854775807)]], [], [(3, 0, 90, 0, 0), (2, 2, 0, 0, 0), (0, 0, 0, 0, 0), (0, 0, 0, 0, 0)], [], [], [])), [([(1, 0, 0, 0)], ([[(0, 0)], [(0, 40)], [(1, 9223372036854775807)], [((-2147483648), 2147483647)]], [], [], [(1, 3, 0, 0, 0)], [], [])), ([], ([[(0, 0)], [(0, 40)], [((-9223372036854775808), 9223372036854775807)]], [], [], [(1, 0, (-1), 0, 0)], [], []))], [(90, 90, 1, 36), (90, 90, 1, 37), (110, 110, 0, 0), (111, 111, 0, 0), (112, 112, 0, 0), (113, 113, 0, 0)])
def zpA484 : zAnn := [(30, ([(0, 3, 0, 0)], ([[(0, 0)], [(0, 40)], [(1, 9223372036854775807)], [(0, 40)]], [], [(3, 0, 90, 0, 0), (2, 2, 0, 0, 0), (0, 0, 0, 0, 0), (1, 3, 0, 0, 0)], [], [], [])), [(2, 0, 0), (0, 3, 40), (2, 0, 0)])]

/-- PushedInModel.within ((1, 0), (2, 9999)) -/
def zpC485 : zC := (204, (1, 40), ([(0, 0, 0, 0)], ([[(0, 0)], [(0, 40)], [((-2147483648), 2147483647)]], [], [(2, 2, 0, 0, 0), (0, 0, 0, 0, 0), (2, 0, 0, 0, 0), (0, 0, 0, 0, 0), (2, 0, 9999, 0, 0), (0, 0, 0, 0, 0)], [], [], [])), [([], ([[(0, 0)], [(0, 40)], [((-2147483648), (-1)), (10000, 2147483647)]], [], [], [(1, 0, 0, 0, 0)], [], [])), ([], ([[(0, 0)], [(0, 40)], [(0, 9999)]], [], [], [(1, 0, 1, 0, 0)], [], []))], [])
def zpA485 : zAnn := []

/-- PushedInModel.rule () -/
def zpC486 : zC := (186, (2, 65), ([(0, 1, 0, 0), (0, 2, 0, 0), (0, 3, 0, 0)], ([[(0, 0)], [(0, 40)], [((-2147483648), 2147483647)], [((-2147483648), 2147483647)], [((-2147483648), 2147483647)]], [], [(3, 0, 90, 0, 0), (1, 2, 0, 0, 0), (1, 3, 0, 0, 0), (1, 4, 0, 0, 0)], [], [], [])), [([(1, 0, 0, 0)], ([[(0, 0)], [(0, 40)], [(0, 7)], [(0, 9999)], [(0, 99)], [(0, 19)]], [], [], [(1, 5, 0, 0, 0)], [], [])), ([], ([[(0, 0)], [(0, 40)], [((-2147483648), 2147483647)], [((-2147483648), 2147483647)], [((-2147483648), 2147483647)]], [], [], [(1, 0, (-1), 0, 0)], [], [])), ([], ([[(0, 0)], [(0, 40)], [(0, 7)], [(0, 9999)], [(0, 99)]], [], [], [(1, 0, (-3), 0, 0)], [], []))], [(90, 90, 1, 38), (114, 114, 0, 0), (115, 115, 0, 0), (116, 116, 0, 0), (117, 117, 0, 0)])
def zpA486 : zAnn := []

/-- PushedInModel.nameOf () -/
def zpC487 : zC := (170, (1, 40), ([(0, 0, 0, 0)], ([[(0, 0)], [(0, 40)], [(0, 39), (41, 44), (46, 255)]], [], [(1, 2, 0, 0, 0)], [], [], [])), [([], ([[(0, 0)], [(0, 40)], [(0, 96), (99, 107), (111, 255)]], [], [], [(1, 0, (-1), 0, 0)], [], [])), ([], ([[(0, 0)], [(0, 40)], [(119, 119)]], [], [], [(1, 0, 0, 0, 0)], [], [])), ([], ([[(0, 0)], [(0, 40)], [(115, 115)]], [], [], [(1, 0, 1, 0, 0)], [], [])), ([], ([[(0, 0)], [(0, 40)], [(109, 109)]], [], [], [(1, 0, 2, 0, 0)], [], [])), ([], ([[(0, 0)], [(0, 40)], [(108, 108)]], [], [], [(1, 0, 3, 0, 0)], [], [])), ([], ([[(0, 0)], [(0, 40)], [(110, 110)]], [], [], [(1, 0, 4, 0, 0)], [], [])), ([], ([[(0, 0)], [(0, 40)], [(100, 100)]], [], [], [(1, 0, 5, 0, 0)], [], [])), ([], ([[(0, 0)], [(0, 40)], [(97, 97)]], [], [], [(1, 0, 6, 0, 0)], [], [])), ([], ([[(0, 0)], [(0, 40)], [(98, 98)]], [], [], [(1, 0, 7, 0, 0)], [], []))], [])
def zpA487 : zAnn := []

/-- PushedInModel.one (((90, 19), -1), ((90, 20), 6)) -/
def zpC488 : zC := (175, (2, 60), ([(2, 0, 90, 17), (2, 0, 90, 18)], ([[(0, 0)], [(0, 40)], [(6, 60)], [(6, 60)]], [(2, 3, 0)], [(3, 0, 90, 0, 0), (0, 0, 0, 0, 0), (0, 0, 0, 0, 0), (0, 0, 0, 0, 0), (0, 0, 0, 0, 0)], [], [(0, 90, 17, (1, 2, 0, 0, 0)), (0, 90, 18, (1, 3, 0, 0, 0)), (0, 90, 19, (1, 0, (-1), 0, 0)), (0, 90, 20, (1, 0, 6, 0, 0))], [])), [([(2, 0, 90, 17), (2, 0, 90, 19)], ([[(0, 0)], [(0, 40)], [(6, 60)], [(6, 60)], [(6, 60)], [(6, 60)]], [(4, 5, 0), (4, 3, 0), (5, 4, 0), (5, 3, 0), (2, 4, 0), (2, 5, 0)], [], [(1, 0, 0, 0, 0)], [(0, 90, 17, (1, 4, 0, 0, 0)), (0, 90, 18, (1, 3, 0, 0, 0)), (0, 90, 19, (1, 5, 0, 0, 0)), (0, 90, 20, (1, 0, 6, 0, 0))], [])), ([(1, 0, 0, 0), (2, 0, 90, 17)], ([[(0, 0)], [(0, 40)], [(6, 60)], [(6, 60)], [((-2147483648), 2147483647)], [(6, 60)]], [(5, 3, 0), (2, 5, 0)], [], [(1, 4, 0, 0, 0)], [(0, 90, 17, (1, 5, 0, 0, 0)), (0, 90, 18, (1, 3, 0, 0, 0)), (0, 90, 19, (1, 0, (-1), 0, 0)), (0, 90, 20, (1, 0, 6, 0, 0))], []))], [(90, 90, 1, 17), (90, 90, 1, 19)])
def zpA488 : zAnn := [(176, ([(0, 1, 0, 0), (0, 3, 0, 0), (0, 4, 0, 0), (2, 0, 90, 17)], ([[(0, 0)], [(0, 40)], [(6, 60)], [(6, 60)], [(0, 96), (99, 107), (111, 255)], [((-2147483648), 2147483647)], [(0, 4)], [(6, 60)]], [(7, 3, 0), (2, 7, 0), (2, 3, 0)], [(3, 0, 90, 0, 0), (1, 4, 0, 0, 0), (1, 0, (-1), 0, 0), (1, 5, 0, 0, 0), (1, 6, 0, 0, 0)], [], [(0, 90, 17, (1, 7, 0, 0, 0)), (0, 90, 18, (1, 3, 0, 0, 0)), (0, 90, 19, (1, 0, (-1), 0, 0)), (0, 90, 20, (1, 0, 6, 0, 0))], [])), [(2, 0, 0), (0, 6, 4), (2, 0, 0)])]

/-- PushedInModel.product (((90, 19), -1), ((90, 20), 6)) -/
def zpC489 : zC := (181, (3, 84), ([(2, 0, 90, 17), (2, 0, 90, 18)], ([[(0, 0)], [(0, 40)], [(6, 60)], [(6, 60)]], [(2, 3, 0)], [(3, 0, 90, 0, 0), (0, 0, 0, 0, 0), (0, 0, 0, 0, 0), (0, 0, 0, 0, 0)], [], [(0, 90, 17, (1, 2, 0, 0, 0)), (0, 90, 18, (1, 3, 0, 0, 0)), (0, 90, 19, (1, 0, (-1), 0, 0)), (0, 90, 20, (1, 0, 6, 0, 0))], [])), [([(2, 0, 90, 17), (2, 0, 90, 19)], ([[(0, 0)], [(0, 40)], [(6, 60)], [(6, 60)], [(6, 60)], [(6, 60)]], [(4, 5, 0), (4, 3, 0), (5, 4, 0), (5, 3, 0), (2, 4, 0), (2, 5, 0)], [], [(1, 0, 0, 0, 0)], [(0, 90, 17, (1, 4, 0, 0, 0)), (0, 90, 18, (1, 3, 0, 0, 0)), (0, 90, 19, (1, 5, 0, 0, 0)), (0, 90, 20, (1, 0, 6, 0, 0))], [])), ([(1, 0, 0, 0), (2, 0, 90, 17)], ([[(0, 0)], [(0, 40)], [(6, 60)], [(6, 60)], [((-2147483648), 2147483647)], [(6, 60)]], [(5, 3, 0), (2, 5, 0)], [], [(1, 4, 0, 0, 0)], [(0, 90, 17, (1, 5, 0, 0, 0)), (0, 90, 18, (1, 3, 0, 0, 0)), (0, 90, 19, (1, 0, (-1), 0, 0)), (0, 90, 20, (1, 0, 6, 0, 0))], []))], [(90, 90, 1, 17), (90, 90, 1, 19)])
def zpA489 : zAnn := [(35, ([(0, 1, 0, 0), (0, 2, 0, 0), (2, 0, 90, 17)], ([[(0, 0)], [(0, 40)], [(6, 60)], [(7, 60)], [((-2147483648), 2147483647)], [(37, 37), (42, 42), (47, 47)], [(6, 59)]], [(6, 3, (-1)), (2, 6, 0), (2, 3, 0)], [(3, 0, 90, 0, 0), (1, 4, 0, 0, 0), (1, 5, 0, 0, 0), (0, 0, 0, 0, 0)], [], [(0, 90, 17, (1, 6, 0, 0, 0)), (0, 90, 18, (1, 3, 0, 0, 0)), (0, 90, 19, (1, 0, (-1), 0, 0)), (0, 90, 20, (1, 0, 6, 0, 0))], [])), [(2, 0, 0), (0, 6, 59), (2, 0, 0)])]

/-- PushedInModel.sums (((90, 19), -1), ((90, 20), 6)) -/
def zpC490 : zC := (192, (4, 107), ([(2, 0, 90, 17), (2, 0, 90, 18)], ([[(0, 0)], [(0, 40)], [(6, 60)], [(6, 60)]], [(2, 3, 0)], [(3, 0, 90, 0, 0), (0, 0, 0, 0, 0), (0, 0, 0, 0, 0), (0, 0, 0, 0, 0)], [], [(0, 90, 17, (1, 2, 0, 0, 0)), (0, 90, 18, (1, 3, 0, 0, 0)), (0, 90, 19, (1, 0, (-1), 0, 0)), (0, 90, 20, (1, 0, 6, 0, 0))], [])), [([(1, 0, 0, 0), (2, 0, 90, 17), (2, 0, 90, 19)], ([[(0, 0)], [(0, 40)], [(6, 60)], [(6, 60)], [((-2147483648), 2147483647)], [(6, 60)], [(6, 60)]], [(5, 6, 0), (5, 3, 0), (6, 5, 0), (6, 3, 0), (2, 5, 0), (2, 6, 0)], [], [(1, 4, 0, 0, 0)], [(0, 90, 17, (1, 5, 0, 0, 0)), (0, 90, 18, (1, 3, 0, 0, 0)), (0, 90, 19, (1, 6, 0, 0, 0)), (0, 90, 20, (1, 0, 6, 0, 0))], [])), ([(1, 0, 0, 0), (2, 0, 90, 17)], ([[(0, 0)], [(0, 40)], [(6, 60)], [(6, 60)], [((-2147483648), 2147483647)], [(6, 60)]], [(5, 3, 0), (2, 5, 0)], [], [(1, 4, 0, 0, 0)], [(0, 90, 17, (1, 5, 0, 0, 0)), (0, 90, 18, (1, 3, 0, 0, 0)), (0, 90, 19, (1, 0, (-1), 0, 0)), (0, 90, 20, (1, 0, 6, 0, 0))], []))], [(90, 90, 1, 17), (90, 90, 1, 19)])
def zpA490 : zAnn := [(5, ([(0, 1, 0, 0), (2, 0, 90, 17), (2, 0, 90, 19)], ([[(0, 0)], [(0, 40)], [(6, 60)], [(6, 60)], [((-2147483648), 2147483647)], [(6, 60)], [(6, 60)]], [(5, 6, 0), (5, 3, 0), (6, 5, 0), (6, 3, 0), (2, 5, 0), (2, 6, 0), (2, 3, 0)], [(3, 0, 90, 0, 0), (1, 4, 0, 0, 0), (0, 0, 0, 0, 0), (0, 0, 0, 0, 0)], [], [(0, 90, 17, (1, 5, 0, 0, 0)), (0, 90, 18, (1, 3, 0, 0, 0)), (0, 90, 19, (1, 6, 0, 0, 0)), (0, 90, 20, (1, 0, 6, 0, 0))], [])), [(2, 0, 0)]), (5, ([(0, 1, 0, 0), (2, 0, 90, 17)], ([[(0, 0)], [(0, 40)], [(6, 60)], [(6, 60)], [((-2147483648), 2147483647)], [(6, 60)]], [(5, 3, 0), (2, 5, 0), (2, 3, 0)], [(3, 0, 90, 0, 0), (1, 4, 0, 0, 0), (0, 0, 0, 0, 0), (0, 0, 0, 0, 0)], [], [(0, 90, 17, (1, 5, 0, 0, 0)), (0, 90, 18, (1, 3, 0, 0, 0)), (0, 90, 19, (1, 0, (-1), 0, 0)), (0, 90, 20, (1, 0, 6, 0, 0))], [])), [(2, 0, 1), (0, 5, 60), (2, 0, 0)])]

/-- PushedInModel.compared (((90, 19), -1), ((90, 20), 6)) -/
def zpC491 : zC := (141, (5, 130), ([(2, 0, 90, 17), (2, 0, 90, 18)], ([[(0, 0)], [(0, 40)], [(6, 60)], [(6, 60)]], [(2, 3, 0)], [(3, 0, 90, 0, 0), (0, 0, 0, 0, 0), (0, 0, 0, 0, 0), (0, 0, 0, 0, 0)], [], [(0, 90, 17, (1, 2, 0, 0, 0)), (0, 90, 18, (1, 3, 0, 0, 0)), (0, 90, 19, (1, 0, (-1), 0, 0)), (0, 90, 20, (1, 0, 6, 0, 0))], [])), [([(1, 0, 0, 0), (2, 0, 90, 17), (2, 0, 90, 19)], ([[(0, 0)], [(0, 40)], [(6, 60)], [(6, 60)], [((-2147483648), 2147483647)], [(6, 60)], [(6, 60)]], [(5, 6, 0), (5, 3, 0), (6, 5, 0), (6, 3, 0), (2, 5, 0), (2, 6, 0)], [], [(1, 4, 0, 0, 0)], [(0, 90, 17, (1, 5, 0, 0, 0)), (0, 90, 18, (1, 3, 0, 0, 0)), (0, 90, 19, (1, 6, 0, 0, 0)), (0, 90, 20, (1, 0, 6, 0, 0))], [])), ([(1, 0, 0, 0), (2, 0, 90, 17)], ([[(0, 0)], [(0, 40)], [(6, 60)], [(6, 60)], [((-2147483648), 2147483647)], [(6, 60)]], [(5, 3, 0), (2, 5, 0)], [], [(1, 4, 0, 0, 0)], [(0, 90, 17, (1, 5, 0, 0, 0)), (0, 90, 18, (1, 3, 0, 0, 0)), (0, 90, 19, (1, 0, (-1), 0, 0)), (0, 90, 20, (1, 0, 6, 0, 0))], []))], [(90, 90, 1, 17), (90, 90, 1, 19)])
def zpA491 : zAnn := []

/-- PushedInModel.takes ((1, 38), ((90, 19), -1)) -/
def zpC492 : zC := (194, (2, 60), ([(2, 0, 90, 17), (2, 0, 90, 18)], ([[(0, 0)], [(0, 40)], [(0, 60)], [(0, 60)]], [], [(3, 0, 90, 0, 0), (1, 0, 38, 0, 0)], [], [(0, 90, 17, (1, 2, 0, 0, 0)), (0, 90, 18, (1, 3, 0, 0, 0)), (0, 90, 19, (1, 0, (-1), 0, 0))], [])), [([], ([[(0, 0)], [(0, 40)], [(0, 60)], [(0, 60)]], [], [], [(1, 0, 0, 0, 0)], [(0, 90, 17, (1, 2, 0, 0, 0)), (0, 90, 18, (1, 3, 0, 0, 0)), (0, 90, 19, (1, 0, (-1), 0, 0))], [])), ([], ([[(0, 0)], [(0, 40)], [(0, 59)], [(1, 60)]], [(2, 3, (-1))], [], [(1, 0, 1, 0, 0)], [(0, 90, 17, (1, 2, 1, 0, 0)), (0, 90, 18, (1, 3, 0, 0, 0)), (0, 90, 19, (1, 0, (-1), 0, 0))], []))], [(90, 90, 1, 17)])
def zpA492 : zAnn := []

/-- PushedInModel.takes ((1, 38),) -/
def zpC493 : zC := (194, (1, 40), ([(2, 0, 90, 17), (2, 0, 90, 18), (2, 0, 90, 19)], ([[(0, 0)], [(0, 40)], [(0, 60)], [(0, 60)], [(0, 60)]], [(2, 4, 0), (4, 2, 0)], [(3, 0, 90, 0, 0), (1, 0, 38, 0, 0)], [], [(0, 90, 17, (1, 2, 0, 0, 0)), (0, 90, 18, (1, 3, 0, 0, 0)), (0, 90, 19, (1, 4, 0, 0, 0))], [])), [([], ([[(0, 0)], [(0, 40)], [(0, 60)], [(0, 60)], [(0, 60)]], [], [], [(1, 0, 0, 0, 0)], [(0, 90, 17, (1, 2, 0, 0, 0)), (0, 90, 18, (1, 3, 0, 0, 0)), (0, 90, 19, (1, 4, 0, 0, 0))], []))], [])
def zpA493 : zAnn := []

/-- PushedInModel.both (((90, 19), -1), ((90, 20), 6)) -/
def zpC494 : zC := (132, (6, 153), ([(2, 0, 90, 17), (2, 0, 90, 18)], ([[(0, 0)], [(0, 40)], [(6, 60)], [(6, 60)]], [(2, 3, 0)], [(3, 0, 90, 0, 0), (0, 0, 0, 0, 0), (0, 0, 0, 0, 0)], [], [(0, 90, 17, (1, 2, 0, 0, 0)), (0, 90, 18, (1, 3, 0, 0, 0)), (0, 90, 19, (1, 0, (-1), 0, 0)), (0, 90, 20, (1, 0, 6, 0, 0))], [])), [([(1, 0, 0, 0), (2, 0, 90, 17), (2, 0, 90, 19)], ([[(0, 0)], [(0, 40)], [(6, 60)], [(6, 60)], [((-2147483648), 2147483647)], [(6, 60)], [(6, 60)]], [(5, 6, 0), (5, 3, 0), (6, 5, 0), (6, 3, 0), (2, 5, 0), (2, 6, 0)], [], [(1, 4, 0, 0, 0)], [(0, 90, 17, (1, 5, 0, 0, 0)), (0, 90, 18, (1, 3, 0, 0, 0)), (0, 90, 19, (1, 6, 0, 0, 0)), (0, 90, 20, (1, 0, 6, 0, 0))], [])), ([(1, 0, 0, 0), (2, 0, 90, 17)], ([[(0, 0)], [(0, 40)], [(6, 60)], [(6, 60)], [((-2147483648), 2147483647)], [(6, 60)]], [(5, 3, 0), (2, 5, 0)], [], [(1, 4, 0, 0, 0)], [(0, 90, 17, (1, 5, 0, 0, 0)), (0, 90, 18, (1, 3, 0, 0, 0)), (0, 90, 19, (1, 0, (-1), 0, 0)), (0, 90, 20, (1, 0, 6, 0, 0))], []))], [(90, 90, 1, 17), (90, 90, 1, 19)])
def zpA494 : zAnn := [(5, ([(0, 1, 0, 0), (2, 0, 90, 17), (2, 0, 90, 19)], ([[(0, 0)], [(0, 40)], [(6, 60)], [(6, 60)], [((-2147483648), 2147483647)], [(6, 60)], [(6, 60)]], [(5, 6, 0), (5, 3, 0), (6, 5, 0), (6, 3, 0), (2, 5, 0), (2, 6, 0), (2, 3, 0)], [(3, 0, 90, 0, 0), (1, 4, 0, 0, 0), (0, 0, 0, 0, 0)], [], [(0, 90, 17, (1, 5, 0, 0, 0)), (0, 90, 18, (1, 3, 0, 0, 0)), (0, 90, 19, (1, 6, 0, 0, 0)), (0, 90, 20, (1, 0, 6, 0, 0))], [])), [(2, 0, 0)]), (5, ([(0, 1, 0, 0), (2, 0, 90, 17)], ([[(0, 0)], [(0, 40)], [(6, 60)], [(6, 60)], [((-2147483648), 2147483647)], [(6, 60)]], [(5, 3, 0), (2, 5, 0), (2, 3, 0)], [(3, 0, 90, 0, 0), (1, 4, 0, 0, 0), (0, 0, 0, 0, 0)], [], [(0, 90, 17, (1, 5, 0, 0, 0)), (0, 90, 18, (1, 3, 0, 0, 0)), (0, 90, 19, (1, 0, (-1), 0, 0)), (0, 90, 20, (1, 0, 6, 0, 0))], [])), [(2, 0, 1), (0, 5, 60), (2, 0, 0)])]

/-- PushedInModel.takes ((1, 124), ((90, 19), -1)) -/
def zpC495 : zC := (194, (2, 60), ([(2, 0, 90, 17), (2, 0, 90, 18)], ([[(0, 0)], [(0, 40)], [(0, 60)], [(0, 60)]], [], [(3, 0, 90, 0, 0), (1, 0, 124, 0, 0)], [], [(0, 90, 17, (1, 2, 0, 0, 0)), (0, 90, 18, (1, 3, 0, 0, 0)), (0, 90, 19, (1, 0, (-1), 0, 0))], [])), [([], ([[(0, 0)], [(0, 40)], [(0, 60)], [(0, 60)]], [], [], [(1, 0, 0, 0, 0)], [(0, 90, 17, (1, 2, 0, 0, 0)), (0, 90, 18, (1, 3, 0, 0, 0)), (0, 90, 19, (1, 0, (-1), 0, 0))], [])), ([], ([[(0, 0)], [(0, 40)], [(0, 59)], [(1, 60)]], [(2, 3, (-1))], [], [(1, 0, 1, 0, 0)], [(0, 90, 17, (1, 2, 1, 0, 0)), (0, 90, 18, (1, 3, 0, 0, 0)), (0, 90, 19, (1, 0, (-1), 0, 0))], []))], [(90, 90, 1, 17)])
def zpA495 : zAnn := []

/-- PushedInModel.takes ((1, 124),) -/
def zpC496 : zC := (194, (1, 40), ([(2, 0, 90, 17), (2, 0, 90, 18), (2, 0, 90, 19)], ([[(0, 0)], [(0, 40)], [(0, 60)], [(0, 60)], [(0, 60)]], [(2, 4, 0), (4, 2, 0)], [(3, 0, 90, 0, 0), (1, 0, 124, 0, 0)], [], [(0, 90, 17, (1, 2, 0, 0, 0)), (0, 90, 18, (1, 3, 0, 0, 0)), (0, 90, 19, (1, 4, 0, 0, 0))], [])), [([], ([[(0, 0)], [(0, 40)], [(0, 60)], [(0, 60)], [(0, 60)]], [], [], [(1, 0, 0, 0, 0)], [(0, 90, 17, (1, 2, 0, 0, 0)), (0, 90, 18, (1, 3, 0, 0, 0)), (0, 90, 19, (1, 4, 0, 0, 0))], []))], [])
def zpA496 : zAnn := []

/-- PushedInModel.either (((90, 19), -1), ((90, 20), 6)) -/
def zpC497 : zC := (146, (7, 175), ([(2, 0, 90, 17), (2, 0, 90, 18)], ([[(0, 0)], [(0, 40)], [(6, 60)], [(6, 60)]], [(2, 3, 0)], [(3, 0, 90, 0, 0), (0, 0, 0, 0, 0), (0, 0, 0, 0, 0)], [], [(0, 90, 17, (1, 2, 0, 0, 0)), (0, 90, 18, (1, 3, 0, 0, 0)), (0, 90, 19, (1, 0, (-1), 0, 0)), (0, 90, 20, (1, 0, 6, 0, 0))], [])), [([(1, 0, 0, 0), (2, 0, 90, 17), (2, 0, 90, 19)], ([[(0, 0)], [(0, 40)], [(6, 60)], [(6, 60)], [((-2147483648), 2147483647)], [(6, 60)], [(6, 60)]], [(5, 6, 0), (5, 3, 0), (6, 5, 0), (6, 3, 0), (2, 5, 0), (2, 6, 0)], [], [(1, 4, 0, 0, 0)], [(0, 90, 17, (1, 5, 0, 0, 0)), (0, 90, 18, (1, 3, 0, 0, 0)), (0, 90, 19, (1, 6, 0, 0, 0)), (0, 90, 20, (1, 0, 6, 0, 0))], [])), ([(1, 0, 0, 0), (2, 0, 90, 17)], ([[(0, 0)], [(0, 40)], [(6, 60)], [(6, 60)], [((-2147483648), 2147483647)], [(6, 60)]], [(5, 3, 0), (2, 5, 0)], [], [(1, 4, 0, 0, 0)], [(0, 90, 17, (1, 5, 0, 0, 0)), (0, 90, 18, (1, 3, 0, 0, 0)), (0, 90, 19, (1, 0, (-1), 0, 0)), (0, 90, 20, (1, 0, 6, 0, 0))], []))], [(90, 90, 1, 17), (90, 90, 1, 19)])
def zpA497 : zAnn := [(5, ([(0, 1, 0, 0), (2, 0, 90, 17), (2, 0, 90, 19)], ([[(0, 0)], [(0, 40)], [(6, 60)], [(6, 60)], [((-2147483648), 2147483647)], [(6, 60)], [(6, 60)]], [(5, 6, 0), (5, 3, 0), (6, 5, 0), (6, 3, 0), (2, 5, 0), (2, 6, 0), (2, 3, 0)], [(3, 0, 90, 0, 0), (1, 4, 0, 0, 0), (0, 0, 0, 0, 0)], [], [(0, 90, 17, (1, 5, 0, 0, 0)), (0, 90, 18, (1, 3, 0, 0, 0)), (0, 90, 19, (1, 6, 0, 0, 0)), (0, 90, 20, (1, 0, 6, 0, 0))], [])), [(2, 0, 0)]), (5, ([(0, 1, 0, 0), (2, 0, 90, 17)], ([[(0, 0)], [(0, 40)], [(6, 60)], [(6, 60)], [((-2147483648), 2147483647)], [(6, 60)]], [(5, 3, 0), (2, 5, 0), (2, 3, 0)], [(3, 0, 90, 0, 0), (1, 4, 0, 0, 0), (0, 0, 0, 0, 0)], [], [(0, 90, 17, (1, 5, 0, 0, 0)), (0, 90, 18, (1, 3, 0, 0, 0)), (0, 90, 19, (1, 0, (-1), 0, 0)), (0, 90, 20, (1, 0, 6, 0, 0))], [])), [(2, 0, 1), (0, 5, 60), (2, 0, 0)])]

/-- PushedInModel.takes ((1, 41), ((90, 19), -1)) -/
def zpC498 : zC := (194, (2, 60), ([(2, 0, 90, 17), (2, 0, 90, 18)], ([[(0, 0)], [(0, 40)], [(1, 60)], [(1, 60)]], [(2, 3, 0)], [(3, 0, 90, 0, 0), (1, 0, 41, 0, 0)], [], [(0, 90, 17, (1, 2, 0, 0, 0)), (0, 90, 18, (1, 3, 0, 0, 0)), (0, 90, 19, (1, 0, (-1), 0, 0))], [])), [([], ([[(0, 0)], [(0, 40)], [(1, 60)], [(1, 60)]], [], [], [(1, 0, 0, 0, 0)], [(0, 90, 17, (1, 2, 0, 0, 0)), (0, 90, 18, (1, 3, 0, 0, 0)), (0, 90, 19, (1, 0, (-1), 0, 0))], [])), ([], ([[(0, 0)], [(0, 40)], [(1, 59)], [(2, 60)]], [(2, 3, (-1))], [], [(1, 0, 1, 0, 0)], [(0, 90, 17, (1, 2, 1, 0, 0)), (0, 90, 18, (1, 3, 0, 0, 0)), (0, 90, 19, (1, 0, (-1), 0, 0))], []))], [(90, 90, 1, 17)])
def zpA498 : zAnn := []

/-- PushedInModel.takes ((1, 41),) -/
def zpC499 : zC := (194, (1, 40), ([(2, 0, 90, 17), (2, 0, 90, 18), (2, 0, 90, 19)], ([[(0, 0)], [(0, 40)], [(1, 60)], [(1, 60)], [(1, 60)]], [(2, 3, 0), (2, 4, 0), (4, 2, 0), (4, 3, 0)], [(3, 0, 90, 0, 0), (1, 0, 41, 0, 0)], [], [(0, 90, 17, (1, 2, 0, 0, 0)), (0, 90, 18, (1, 3, 0, 0, 0)), (0, 90, 19, (1, 4, 0, 0, 0))], [])), [([], ([[(0, 0)], [(0, 40)], [(1, 60)], [(1, 60)], [(1, 60)]], [], [], [(1, 0, 0, 0, 0)], [(0, 90, 17, (1, 2, 0, 0, 0)), (0, 90, 18, (1, 3, 0, 0, 0)), (0, 90, 19, (1, 4, 0, 0, 0))], []))], [])
def zpA499 : zAnn := []

/-- PushedInModel.one (((90, 19), -1), ((90, 20), 5)) -/
def zpC500 : zC := (175, (8, 197), ([(2, 0, 90, 17), (2, 0, 90, 18)], ([[(0, 0)], [(0, 40)], [(5, 60)], [(5, 60)]], [(2, 3, 0)], [(3, 0, 90, 0, 0), (0, 0, 0, 0, 0), (0, 0, 0, 0, 0), (0, 0, 0, 0, 0), (0, 0, 0, 0, 0)], [], [(0, 90, 17, (1, 2, 0, 0, 0)), (0, 90, 18, (1, 3, 0, 0, 0)), (0, 90, 19, (1, 0, (-1), 0, 0)), (0, 90, 20, (1, 0, 5, 0, 0))], [])), [([(1, 0, 0, 0), (2, 0, 90, 17), (2, 0, 90, 19), (2, 0, 90, 20)], ([[(0, 0)], [(0, 40)], [(5, 60)], [(5, 60)], [((-2147483648), 2147483647)], [(5, 60)], [(5, 60)], [(5, 6)]], [(5, 6, 0), (5, 3, 0), (6, 5, 0), (6, 3, 0), (2, 5, 0), (2, 6, 0)], [], [(1, 4, 0, 0, 0)], [(0, 90, 17, (1, 5, 0, 0, 0)), (0, 90, 18, (1, 3, 0, 0, 0)), (0, 90, 19, (1, 6, 0, 0, 0)), (0, 90, 20, (1, 7, 0, 0, 0))], [])), ([(1, 0, 0, 0), (2, 0, 90, 17)], ([[(0, 0)], [(0, 40)], [(5, 60)], [(5, 60)], [((-2147483648), 2147483647)], [(5, 60)]], [(5, 3, 0), (2, 5, 0)], [], [(1, 4, 0, 0, 0)], [(0, 90, 17, (1, 5, 0, 0, 0)), (0, 90, 18, (1, 3, 0, 0, 0)), (0, 90, 19, (1, 0, (-1), 0, 0)), (0, 90, 20, (1, 0, 5, 0, 0))], []))], [(90, 90, 1, 17), (90, 90, 1, 19), (90, 90, 1, 20)])
def zpA500h0 : Nat × zTm × zRk := (176, ([(0, 1, 0, 0), (0, 3, 0, 0), (0, 4, 0, 0), (2, 0, 90, 17)], ([[(0, 0)], [(0, 40)], [(5, 60)], [(5, 60)], [(0, 96), (99, 107), (111, 255)], [((-2147483648), 2147483647)], [(0, 4)], [(5, 60)]], [(7, 3, 0), (2, 7, 0), (2, 3, 0)], [(3, 0, 90, 0, 0), (1, 4, 0, 0, 0), (1, 0, (-1), 0, 0), (1, 5, 0, 0, 0), (1, 6, 0, 0, 0)], [], [(0, 90, 17, (1, 7, 0, 0, 0)), (0, 90, 18, (1, 3, 0, 0, 0)), (0, 90, 19, (1, 0, (-1), 0, 0)), (0, 90, 20, (1, 0, 5, 0, 0))], [])), [(2, 0, 0), (0, 6, 4), (2, 0, 0)])
def zpA500 : zAnn := [zpA500h0]

/-- PushedInModel.product (((90, 19), -1), ((90, 20), 5)) -/
def zpC501 : zC := (181, (9, 221), ([(2, 0, 90, 17), (2, 0, 90, 18)], ([[(0, 0)], [(0, 40)], [(5, 60)], [(5, 60)]], [(2, 3, 0)], [(3, 0, 90, 0, 0), (0, 0, 0, 0, 0), (0, 0, 0, 0, 0), (0, 0, 0, 0, 0)], [], [(0, 90, 17, (1, 2, 0, 0, 0)), (0, 90, 18, (1, 3, 0, 0, 0)), (0, 90, 19, (1, 0, (-1), 0, 0)), (0, 90, 20, (1, 0, 5, 0, 0))], [])), [([(1, 0, 0, 0), (2, 0, 90, 17), (2, 0, 90, 19), (2, 0, 90, 20)], ([[(0, 0)], [(0, 40)], [(5, 60)], [(5, 60)], [((-2147483648), 2147483647)], [(5, 60)], [(5, 60)], [(5, 6)]], [(5, 6, 0), (5, 3, 0), (6, 5, 0), (6, 3, 0), (2, 5, 0), (2, 6, 0)], [], [(1, 4, 0, 0, 0)], [(0, 90, 17, (1, 5, 0, 0, 0)), (0, 90, 18, (1, 3, 0, 0, 0)), (0, 90, 19, (1, 6, 0, 0, 0)), (0, 90, 20, (1, 7, 0, 0, 0))], [])), ([(1, 0, 0, 0), (2, 0, 90, 17)], ([[(0, 0)], [(0, 40)], [(5, 60)], [(5, 60)], [((-2147483648), 2147483647)], [(5, 60)]], [(5, 3, 0), (2, 5, 0)], [], [(1, 4, 0, 0, 0)], [(0, 90, 17, (1, 5, 0, 0, 0)), (0, 90, 18, (1, 3, 0, 0, 0)), (0, 90, 19, (1, 0, (-1), 0, 0)), (0, 90, 20, (1, 0, 5, 0, 0))], []))], [(90, 90, 1, 17), (90, 90, 1, 19), (90, 90, 1, 20)])
def zpA501 : zAnn := [(35, ([(0, 1, 0, 0), (0, 2, 0, 0), (2, 0, 90, 17)], ([[(0, 0)], [(0, 40)], [(5, 60)], [(6, 60)], [((-2147483648), 2147483647)], [(37, 37), (42, 42), (47, 47)], [(5, 59)]], [(6, 3, (-1)), (2, 6, 0), (2, 3, 0)], [(3, 0, 90, 0, 0), (1, 4, 0, 0, 0), (1, 5, 0, 0, 0), (0, 0, 0, 0, 0)], [], [(0, 90, 17, (1, 6, 0, 0, 0)), (0, 90, 18, (1, 3, 0, 0, 0)), (0, 90, 19, (1, 0, (-1), 0, 0)), (0, 90, 20, (1, 0, 5, 0, 0))], [])), [(2, 0, 0), (0, 6, 59), (2, 0, 0)])]

/-- PushedInModel.sums (((90, 19), -1), ((90, 20), 5)) -/
def zpC502 : zC := (192, (10, 244), ([(2, 0, 90, 17), (2, 0, 90, 18)], ([[(0, 0)], [(0, 40)], [(5, 60)], [(5, 60)]], [(2, 3, 0)], [(3, 0, 90, 0, 0), (0, 0, 0, 0, 0), (0, 0, 0, 0, 0), (0, 0, 0, 0, 0)], [], [(0, 90, 17, (1, 2, 0, 0, 0)), (0, 90, 18, (1, 3, 0, 0, 0)), (0, 90, 19, (1, 0, (-1), 0, 0)), (0, 90, 20, (1, 0, 5, 0, 0))], [])), [([(1, 0, 0, 0), (2, 0, 90, 17), (2, 0, 90, 19), (2, 0, 90, 20)], ([[(0, 0)], [(0, 40)], [(5, 60)], [(5, 60)], [((-2147483648), 2147483647)], [(5, 60)], [(5, 60)], [(5, 6)]], [(5, 6, 0), (5, 3, 0), (6, 5, 0), (6, 3, 0), (2, 5, 0), (2, 6, 0)], [], [(1, 4, 0, 0, 0)], [(0, 90, 17, (1, 5, 0, 0, 0)), (0, 90, 18, (1, 3, 0, 0, 0)), (0, 90, 19, (1, 6, 0, 0, 0)), (0, 90, 20, (1, 7, 0, 0, 0))], [])), ([(1, 0, 0, 0), (2, 0, 90, 17)], ([[(0, 0)], [(0, 40)], [(5, 60)], [(5, 60)], [((-2147483648), 2147483647)], [(5, 60)]], [(5, 3, 0), (2, 5, 0)], [], [(1, 4, 0, 0, 0)], [(0, 90, 17, (1, 5, 0, 0, 0)), (0, 90, 18, (1, 3, 0, 0, 0)), (0, 90, 19, (1, 0, (-1), 0, 0)), (0, 90, 20, (1, 0, 5, 0, 0))], []))], [(90, 90, 1, 17), (90, 90, 1, 19), (90, 90, 1, 20)])
def zpA502 : zAnn := [(5, ([(0, 1, 0, 0), (2, 0, 90, 17), (2, 0, 90, 19), (2, 0, 90, 20)], ([[(0, 0)], [(0, 40)], [(5, 60)], [(5, 60)], [((-2147483648), 2147483647)], [(5, 60)], [(5, 60)], [(5, 6)]], [(5, 6, 0), (5, 3, 0), (6, 5, 0), (6, 3, 0), (2, 5, 0), (2, 6, 0), (2, 3, 0)], [(3, 0, 90, 0, 0), (1, 4, 0, 0, 0), (0, 0, 0, 0, 0), (0, 0, 0, 0, 0)], [], [(0, 90, 17, (1, 5, 0, 0, 0)), (0, 90, 18, (1, 3, 0, 0, 0)), (0, 90, 19, (1, 6, 0, 0, 0)), (0, 90, 20, (1, 7, 0, 0, 0))], [])), [(2, 0, 0)]), (5, ([(0, 1, 0, 0), (2, 0, 90, 17)], ([[(0, 0)], [(0, 40)], [(5, 60)], [(5, 60)], [((-2147483648), 2147483647)], [(5, 60)]], [(5, 3, 0), (2, 5, 0), (2, 3, 0)], [(3, 0, 90, 0, 0), (1, 4, 0, 0, 0), (0, 0, 0, 0, 0), (0, 0, 0, 0, 0)], [], [(0, 90, 17, (1, 5, 0, 0, 0)), (0, 90, 18, (1, 3, 0, 0, 0)), (0, 90, 19, (1, 0, (-1), 0, 0)), (0, 90, 20, (1, 0, 5, 0, 0))], [])), [(2, 0, 1), (0, 5, 60), (2, 0, 0)])]

/-- PushedInModel.compared (((90, 19), -1), ((90, 20), 5)) -/
def zpC503 : zC := (141, (11, 267), ([(2, 0, 90, 17), (2, 0, 90, 18)], ([[(0, 0)], [(0, 40)], [(5, 60)], [(5, 60)]], [(2, 3, 0)], [(3, 0, 90, 0, 0), (0, 0, 0, 0, 0), (0, 0, 0, 0, 0), (0, 0, 0, 0, 0)], [], [(0, 90, 17, (1, 2, 0, 0, 0)), (0, 90, 18, (1, 3, 0, 0, 0)), (0, 90, 19, (1, 0, (-1), 0, 0)), (0, 90, 20, (1, 0, 5, 0, 0))], [])), [([(1, 0, 0, 0), (2, 0, 90, 17), (2, 0, 90, 19), (2, 0, 90, 20)], ([[(0, 0)], [(0, 40)], [(5, 60)], [(5, 60)], [((-2147483648), 2147483647)], [(5, 60)], [(5, 60)], [(5, 6)]], [(5, 6, 0), (5, 3, 0), (6, 5, 0), (6, 3, 0), (2, 5, 0), (2, 6, 0)], [], [(1, 4, 0, 0, 0)], [(0, 90, 17, (1, 5, 0, 0, 0)), (0, 90, 18, (1, 3, 0, 0, 0)), (0, 90, 19, (1, 6, 0, 0, 0)), (0, 90, 20, (1, 7, 0, 0, 0))], [])), ([(1, 0, 0, 0), (2, 0, 90, 17)], ([[(0, 0)], [(0, 40)], [(5, 60)], [(5, 60)], [((-2147483648), 2147483647)], [(5, 60)]], [(5, 3, 0), (2, 5, 0)], [], [(1, 4, 0, 0, 0)], [(0, 90, 17, (1, 5, 0, 0, 0)), (0, 90, 18, (1, 3, 0, 0, 0)), (0, 90, 19, (1, 0, (-1), 0, 0)), (0, 90, 20, (1, 0, 5, 0, 0))], []))], [(90, 90, 1, 17), (90, 90, 1, 19), (90, 90, 1, 20)])
def zpA503 : zAnn := []

/-- PushedInModel.both (((90, 19), -1), ((90, 20), 5)) -/
def zpC504 : zC := (132, (12, 290), ([(2, 0, 90, 17), (2, 0, 90, 18)], ([[(0, 0)], [(0, 40)], [(5, 60)], [(5, 60)]], [(2, 3, 0)], [(3, 0, 90, 0, 0), (0, 0, 0, 0, 0), (0, 0, 0, 0, 0)], [], [(0, 90, 17, (1, 2, 0, 0, 0)), (0, 90, 18, (1, 3, 0, 0, 0)), (0, 90, 19, (1, 0, (-1), 0, 0)), (0, 90, 20, (1, 0, 5, 0, 0))], [])), [([(1, 0, 0, 0), (2, 0, 90, 17), (2, 0, 90, 19), (2, 0, 90, 20)], ([[(0, 0)], [(0, 40)], [(5, 60)], [(5, 60)], [((-2147483648), 2147483647)], [(5, 60)], [(5, 60)], [(5, 6)]], [(5, 6, 0), (5, 3, 0), (6, 5, 0), (6, 3, 0), (2, 5, 0), (2, 6, 0)], [], [(1, 4, 0, 0, 0)], [(0, 90, 17, (1, 5, 0, 0, 0)), (0, 90, 18, (1, 3, 0, 0, 0)), (0, 90, 19, (1, 6, 0, 0, 0)), (0, 90, 20, (1, 7, 0, 0, 0))], [])), ([(1, 0, 0, 0), (2, 0, 90, 17)], ([[(0, 0)], [(0, 40)], [(5, 60)], [(5, 60)], [((-2147483648), 2147483647)], [(5, 60)]], [(5, 3, 0), (2, 5, 0)], [], [(1, 4, 0, 0, 0)], [(0, 90, 17, (1, 5, 0, 0, 0)), (0, 90, 18, (1, 3, 0, 0, 0)), (0, 90, 19, (1, 0, (-1), 0, 0)), (0, 90, 20, (1, 0, 5, 0, 0))], []))], [(90, 90, 1, 17), (90, 90, 1, 19), (90, 90, 1, 20)])
def zpA504 : zAnn := [(5, ([(0, 1, 0, 0), (2, 0, 90, 17), (2, 0, 90, 19), (2, 0, 90, 20)], ([[(0, 0)], [(0, 40)], [(5, 60)], [(5, 60)], [((-2147483648), 2147483647)], [(5, 60)], [(5, 60)], [(5, 6)]], [(5, 6, 0), (5, 3, 0), (6, 5, 0), (6, 3, 0), (2, 5, 0), (2, 6, 0), (2, 3, 0)], [(3, 0, 90, 0, 0), (1, 4, 0, 0, 0), (0, 0, 0, 0, 0)], [], [(0, 90, 17, (1, 5, 0, 0, 0)), (0, 90, 18, (1, 3, 0, 0, 0)), (0, 90, 19, (1, 6, 0, 0, 0)), (0, 90, 20, (1, 7, 0, 0, 0))], [])), [(2, 0, 0)]), (5, ([(0, 1, 0, 0), (2, 0, 90, 17)], ([[(0, 0)], [(0, 40)], [(5, 60)], [(5, 60)], [((-2147483648), 2147483647)], [(5, 60)]], [(5, 3, 0), (2, 5, 0), (2, 3, 0)], [(3, 0, 90, 0, 0), (1, 4, 0, 0, 0), (0, 0, 0, 0, 0)], [], [(0, 90, 17, (1, 5, 0, 0, 0)), (0, 90, 18, (1, 3, 0, 0, 0)), (0, 90, 19, (1, 0, (-1), 0, 0)), (0, 90, 20, (1, 0, 5, 0, 0))], [])), [(2, 0, 1), (0, 5, 60), (2, 0, 0)])]

/-- PushedInModel.either (((90, 19), -1), ((90, 20), 5)) -/
def zpC505 : zC := (146, (13, 312), ([(2, 0, 90, 17), (2, 0, 90, 18)], ([[(0, 0)], [(0, 40)], [(5, 60)], [(5, 60)]], [(2, 3, 0)], [(3, 0, 90, 0, 0), (0, 0, 0, 0, 0), (0, 0, 0, 0, 0)], [], [(0, 90, 17, (1, 2, 0, 0, 0)), (0, 90, 18, (1, 3, 0, 0, 0)), (0, 90, 19, (1, 0, (-1), 0, 0)), (0, 90, 20, (1, 0, 5, 0, 0))], [])), [([(1, 0, 0, 0), (2, 0, 90, 17), (2, 0, 90, 19), (2, 0, 90, 20)], ([[(0, 0)], [(0, 40)], [(5, 60)], [(5, 60)], [((-2147483648), 2147483647)], [(5, 60)], [(5, 60)], [(5, 6)]], [(5, 6, 0), (5, 3, 0), (6, 5, 0), (6, 3, 0), (2, 5, 0), (2, 6, 0)], [], [(1, 4, 0, 0, 0)], [(0, 90, 17, (1, 5, 0, 0, 0)), (0, 90, 18, (1, 3, 0, 0, 0)), (0, 90, 19, (1, 6, 0, 0, 0)), (0, 90, 20, (1, 7, 0, 0, 0))], [])), ([(1, 0, 0, 0), (2, 0, 90, 17)], ([[(0, 0)], [(0, 40)], [(5, 60)], [(5, 60)], [((-2147483648), 2147483647)], [(5, 60)]], [(5, 3, 0), (2, 5, 0)], [], [(1, 4, 0, 0, 0)], [(0, 90, 17, (1, 5, 0, 0, 0)), (0, 90, 18, (1, 3, 0, 0, 0)), (0, 90, 19, (1, 0, (-1), 0, 0)), (0, 90, 20, (1, 0, 5, 0, 0))], []))], [(90, 90, 1, 17), (90, 90, 1, 19), (90, 90, 1, 20)])
def zpA505 : zAnn := [(5, ([(0, 1, 0, 0), (2, 0, 90, 17), (2, 0, 90, 19), (2, 0, 90, 20)], ([[(0, 0)], [(0, 40)], [(5, 60)], [(5, 60)], [((-2147483648), 2147483647)], [(5, 60)], [(5, 60)], [(5, 6)]], [(5, 6, 0), (5, 3, 0), (6, 5, 0), (6, 3, 0), (2, 5, 0), (2, 6, 0), (2, 3, 0)], [(3, 0, 90, 0, 0), (1, 4, 0, 0, 0), (0, 0, 0, 0, 0)], [], [(0, 90, 17, (1, 5, 0, 0, 0)), (0, 90, 18, (1, 3, 0, 0, 0)), (0, 90, 19, (1, 6, 0, 0, 0)), (0, 90, 20, (1, 7, 0, 0, 0))], [])), [(2, 0, 0)]), (5, ([(0, 1, 0, 0), (2, 0, 90, 17)], ([[(0, 0)], [(0, 40)], [(5, 60)], [(5, 60)], [((-2147483648), 2147483647)], [(5, 60)]], [(5, 3, 0), (2, 5, 0), (2, 3, 0)], [(3, 0, 90, 0, 0), (1, 4, 0, 0, 0), (0, 0, 0, 0, 0)], [], [(0, 90, 17, (1, 5, 0, 0, 0)), (0, 90, 18, (1, 3, 0, 0, 0)), (0, 90, 19, (1, 0, (-1), 0, 0)), (0, 90, 20, (1, 0, 5, 0, 0))], [])), [(2, 0, 1), (0, 5, 60), (2, 0, 0)])]

/-- PushedInModel.one (((90, 19), -1), ((90, 20), 4)) -/
def zpC506 : zC := (175, (14, 334), ([(2, 0, 90, 17), (2, 0, 90, 18)], ([[(0, 0)], [(0, 40)], [(4, 60)], [(4, 60)]], [(2, 3, 0)], [(3, 0, 90, 0, 0), (0, 0, 0, 0, 0), (0, 0, 0, 0, 0), (0, 0, 0, 0, 0), (0, 0, 0, 0, 0)], [], [(0, 90, 17, (1, 2, 0, 0, 0)), (0, 90, 18, (1, 3, 0, 0, 0)), (0, 90, 19, (1, 0, (-1), 0, 0)), (0, 90, 20, (1, 0, 4, 0, 0))], [])), [([(1, 0, 0, 0), (2, 0, 90, 17), (2, 0, 90, 19), (2, 0, 90, 20)], ([[(0, 0)], [(0, 40)], [(4, 60)], [(4, 60)], [((-2147483648), 2147483647)], [(4, 60)], [(4, 60)], [(4, 6)]], [(5, 6, 0), (5, 3, 0), (6, 5, 0), (6, 3, 0), (2, 5, 0), (2, 6, 0)], [], [(1, 4, 0, 0, 0)], [(0, 90, 17, (1, 5, 0, 0, 0)), (0, 90, 18, (1, 3, 0, 0, 0)), (0, 90, 19, (1, 6, 0, 0, 0)), (0, 90, 20, (1, 7, 0, 0, 0))], [])), ([(1, 0, 0, 0), (2, 0, 90, 17)], ([[(0, 0)], [(0, 40)], [(4, 60)], [(4, 60)], [((-2147483648), 2147483647)], [(4, 60)]], [(5, 3, 0), (2, 5, 0)], [], [(1, 4, 0, 0, 0)], [(0, 90, 17, (1, 5, 0, 0, 0)), (0, 90, 18, (1, 3, 0, 0, 0)), (0, 90, 19, (1, 0, (-1), 0, 0)), (0, 90, 20, (1, 0, 4, 0, 0))], []))], [(90, 90, 1, 17), (90, 90, 1, 19), (90, 90, 1, 20)])
def zpA506h0 : Nat × zTm × zRk := (176, ([(0, 1, 0, 0), (0, 3, 0, 0), (0, 4, 0, 0), (2, 0, 90, 17)], ([[(0, 0)], [(0, 40)], [(4, 60)], [(4, 60)], [(0, 96), (99, 107), (111, 255)], [((-2147483648), 2147483647)], [(0, 4)], [(4, 60)]], [(7, 3, 0), (2, 7, 0), (2, 3, 0)], [(3, 0, 90, 0, 0), (1, 4, 0, 0, 0), (1, 0, (-1), 0, 0), (1, 5, 0, 0, 0), (1, 6, 0, 0, 0)], [], [(0, 90, 17, (1, 7, 0, 0, 0)), (0, 90, 18, (1, 3, 0, 0, 0)), (0, 90, 19, (1, 0, (-1), 0, 0)), (0, 90, 20, (1, 0, 4, 0, 0))], [])), [(2, 0, 0), (0, 6, 4), (2, 0, 0)])
def zpA506 : zAnn := [zpA506h0]

/-- PushedInModel.product (((90, 19), -1), ((90, 20), 4)) -/
def zpC507 : zC := (181, (15, 358), ([(2, 0, 90, 17), (2, 0, 90, 18)], ([[(0, 0)], [(0, 40)], [(4, 60)], [(4, 60)]], [(2, 3, 0)], [(3, 0, 90, 0, 0), (0, 0, 0, 0, 0), (0, 0, 0, 0, 0), (0, 0, 0, 0, 0)], [], [(0, 90, 17, (1, 2, 0, 0, 0)), (0, 90, 18, (1, 3, 0, 0, 0)), (0, 90, 19, (1, 0, (-1), 0, 0)), (0, 90, 20, (1, 0, 4, 0, 0))], [])), [([(1, 0, 0, 0), (2, 0, 90, 17), (2, 0, 90, 19), (2, 0, 90, 20)], ([[(0, 0)], [(0, 40)], [(4, 60)], [(4, 60)], [((-2147483648), 2147483647)], [(4, 60)], [(4, 60)], [(4, 6)]], [(5, 6, 0), (5, 3, 0), (6, 5, 0), (6, 3, 0), (2, 5, 0), (2, 6, 0)], [], [(1, 4, 0, 0, 0)], [(0, 90, 17, (1, 5, 0, 0, 0)), (0, 90, 18, (1, 3, 0, 0, 0)), (0, 90, 19, (1, 6, 0, 0, 0)), (0, 90, 20, (1, 7, 0, 0, 0))], [])), ([(1, 0, 0, 0), (2, 0, 90, 17)], ([[(0, 0)], [(0, 40)], [(4, 60)], [(4, 60)], [((-2147483648), 2147483647)], [(4, 60)]], [(5, 3, 0), (2, 5, 0)], [], [(1, 4, 0, 0, 0)], [(0, 90, 17, (1, 5, 0, 0, 0)), (0, 90, 18, (1, 3, 0, 0, 0)), (0, 90, 19, (1, 0, (-1), 0, 0)), (0, 90, 20, (1, 0, 4, 0, 0))], []))], [(90, 90, 1, 17), (90, 90, 1, 19), (90, 90, 1, 20)])
def zpA507 : zAnn := [(35, ([(0, 1, 0, 0), (0, 2, 0, 0), (2, 0, 90, 17)], ([[(0, 0)], [(0, 40)], [(4, 60)], [(5, 60)], [((-2147483648), 2147483647)], [(37, 37), (42, 42), (47, 47)], [(4, 59)]], [(6, 3, (-1)), (2, 6, 0), (2, 3, 0)], [(3, 0, 90, 0, 0), (1, 4, 0, 0, 0), (1, 5, 0, 0, 0), (0, 0, 0, 0, 0)], [], [(0, 90, 17, (1, 6, 0, 0, 0)), (0, 90, 18, (1, 3, 0, 0, 0)), (0, 90, 19, (1, 0, (-1), 0, 0)), (0, 90, 20, (1, 0, 4, 0, 0))], [])), [(2, 0, 0), (0, 6, 59), (2, 0, 0)])]

/-- PushedInModel.sums (((90, 19), -1), ((90, 20), 4)) -/
def zpC508 : zC := (192, (16, 381), ([(2, 0, 90, 17), (2, 0, 90, 18)], ([[(0, 0)], [(0, 40)], [(4, 60)], [(4, 60)]], [(2, 3, 0)], [(3, 0, 90, 0, 0), (0, 0, 0, 0, 0), (0, 0, 0, 0, 0), (0, 0, 0, 0, 0)], [], [(0, 90, 17, (1, 2, 0, 0, 0)), (0, 90, 18, (1, 3, 0, 0, 0)), (0, 90, 19, (1, 0, (-1), 0, 0)), (0, 90, 20, (1, 0, 4, 0, 0))], [])), [([(1, 0, 0, 0), (2, 0, 90, 17), (2, 0, 90, 19), (2, 0, 90, 20)], ([[(0, 0)], [(0, 40)], [(4, 60)], [(4, 60)], [((-2147483648), 2147483647)], [(4, 60)], [(4, 60)], [(4, 6)]], [(5, 6, 0), (5, 3, 0), (6, 5, 0), (6, 3, 0), (2, 5, 0), (2, 6, 0)], [], [(1, 4, 0, 0, 0)], [(0, 90, 17, (1, 5, 0, 0, 0)), (0, 90, 18, (1, 3, 0, 0, 0)), (0, 90, 19, (1, 6, 0, 0, 0)), (0, 90, 20, (1, 7, 0, 0, 0))], [])), ([(1, 0, 0, 0), (2, 0, 90, 17)], ([[(0, 0)], [(0, 40)], [(4, 60)], [(4, 60)], [((-2147483648), 2147483647)], [(4, 60)]], [(5, 3, 0), (2, 5, 0)], [], [(1, 4, 0, 0, 0)], [(0, 90, 17, (1, 5, 0, 0, 0)), (0, 90, 18, (1, 3, 0, 0, 0)), (0, 90, 19, (1, 0, (-1), 0, 0)), (0, 90, 20, (1, 0, 4, 0, 0))], []))], [(90, 90, 1, 17), (90, 90, 1, 19), (90, 90, 1, 20)])
def zpA508 : zAnn := [(5, ([(0, 1, 0, 0), (2, 0, 90, 17), (2, 0, 90, 19), (2, 0, 90, 20)], ([[(0, 0)], [(0, 40)], [(4, 60)], [(4, 60)], [((-2147483648), 2147483647)], [(4, 60)], [(4, 60)], [(4, 6)]], [(5, 6, 0), (5, 3, 0), (6, 5, 0), (6, 3, 0), (2, 5, 0), (2, 6, 0), (2, 3, 0)], [(3, 0, 90, 0, 0), (1, 4, 0, 0, 0), (0, 0, 0, 0, 0), (0, 0, 0, 0, 0)], [], [(0, 90, 17, (1, 5, 0, 0, 0)), (0, 90, 18, (1, 3, 0, 0, 0)), (0, 90, 19, (1, 6, 0, 0, 0)), (0, 90, 20, (1, 7, 0, 0, 0))], [])), [(2, 0, 0)]), (5, ([(0, 1, 0, 0), (2, 0, 90, 17)], ([[(0, 0)], [(0, 40)], [(4, 60)], [(4, 60)], [((-2147483648), 2147483647)], [(4, 60)]], [(5, 3, 0), (2, 5, 0), (2, 3, 0)], [(3, 0, 90, 0, 0), (1, 4, 0, 0, 0), (0, 0, 0, 0, 0), (0, 0, 0, 0, 0)], [], [(0, 90, 17, (1, 5, 0, 0, 0)), (0, 90, 18, (1, 3, 0, 0, 0)), (0, 90, 19, (1, 0, (-1), 0, 0)), (0, 90, 20, (1, 0, 4, 0, 0))], [])), [(2, 0, 1), (0, 5, 60), (2, 0, 0)])]

/-- PushedInModel.compared (((90, 19), -1), ((90, 20), 4)) -/
def zpC509 : zC := (141, (17, 404), ([(2, 0, 90, 17), (2, 0, 90, 18)], ([[(0, 0)], [(0, 40)], [(4, 60)], [(4, 60)]], [(2, 3, 0)], [(3, 0, 90, 0, 0), (0, 0, 0, 0, 0), (0, 0, 0, 0, 0), (0, 0, 0, 0, 0)], [], [(0, 90, 17, (1, 2, 0, 0, 0)), (0, 90, 18, (1, 3, 0, 0, 0)), (0, 90, 19, (1, 0, (-1), 0, 0)), (0, 90, 20, (1, 0, 4, 0, 0))], [])), [([(1, 0, 0, 0), (2, 0, 90, 17), (2, 0, 90, 19), (2, 0, 90, 20)], ([[(0, 0)], [(0, 40)], [(4, 60)], [(4, 60)], [((-2147483648), 2147483647)], [(4, 60)], [(4, 60)], [(4, 6)]], [(5, 6, 0), (5, 3, 0), (6, 5, 0), (6, 3, 0), (2, 5, 0), (2, 6, 0)], [], [(1, 4, 0, 0, 0)], [(0, 90, 17, (1, 5, 0, 0, 0)), (0, 90, 18, (1, 3, 0, 0, 0)), (0, 90, 19, (1, 6, 0, 0, 0)), (0, 90, 20, (1, 7, 0, 0, 0))], [])), ([(1, 0, 0, 0), (2, 0, 90, 17)], ([[(0, 0)], [(0, 40)], [(4, 60)], [(4, 60)], [((-2147483648), 2147483647)], [(4, 60)]], [(5, 3, 0), (2, 5, 0)], [], [(1, 4, 0, 0, 0)], [(0, 90, 17, (1, 5, 0, 0, 0)), (0, 90, 18, (1, 3, 0, 0, 0)), (0, 90, 19, (1, 0, (-1), 0, 0)), (0, 90, 20, (1, 0, 4, 0, 0))], []))], [(90, 90, 1, 17), (90, 90, 1, 19), (90, 90, 1, 20)])
def zpA509 : zAnn := []

/-- PushedInModel.both (((90, 19), -1), ((90, 20), 4)) -/
def zpC510 : zC := (132, (18, 427), ([(2, 0, 90, 17), (2, 0, 90, 18)], ([[(0, 0)], [(0, 40)], [(4, 60)], [(4, 60)]], [(2, 3, 0)], [(3, 0, 90, 0, 0), (0, 0, 0, 0, 0), (0, 0, 0, 0, 0)], [], [(0, 90, 17, (1, 2, 0, 0, 0)), (0, 90, 18, (1, 3, 0, 0, 0)), (0, 90, 19, (1, 0, (-1), 0, 0)), (0, 90, 20, (1, 0, 4, 0, 0))], [])), [([(1, 0, 0, 0), (2, 0, 90, 17), (2, 0, 90, 19), (2, 0, 90, 20)], ([[(0, 0)], [(0, 40)], [(4, 60)], [(4, 60)], [((-2147483648), 2147483647)], [(4, 60)], [(4, 60)], [(4, 6)]], [(5, 6, 0), (5, 3, 0), (6, 5, 0), (6, 3, 0), (2, 5, 0), (2, 6, 0)], [], [(1, 4, 0, 0, 0)], [(0, 90, 17, (1, 5, 0, 0, 0)), (0, 90, 18, (1, 3, 0, 0, 0)), (0, 90, 19, (1, 6, 0, 0, 0)), (0, 90, 20, (1, 7, 0, 0, 0))], [])), ([(1, 0, 0, 0), (2, 0, 90, 17)], ([[(0, 0)], [(0, 40)], [(4, 60)], [(4, 60)], [((-2147483648), 2147483647)], [(4, 60)]], [(5, 3, 0), (2, 5, 0)], [], [(1, 4, 0, 0, 0)], [(0, 90, 17, (1, 5, 0, 0, 0)), (0, 90, 18, (1, 3, 0, 0, 0)), (0, 90, 19, (1, 0, (-1), 0, 0)), (0, 90, 20, (1, 0, 4, 0, 0))], []))], [(90, 90, 1, 17), (90, 90, 1, 19), (90, 90, 1, 20)])
def zpA510 : zAnn := [(5, ([(0, 1, 0, 0), (2, 0, 90, 17), (2, 0, 90, 19), (2, 0, 90, 20)], ([[(0, 0)], [(0, 40)], [(4, 60)], [(4, 60)], [((-2147483648), 2147483647)], [(4, 60)], [(4, 60)], [(4, 6)]], [(5, 6, 0), (5, 3, 0), (6, 5, 0), (6, 3, 0), (2, 5, 0), (2, 6, 0), (2, 3, 0)], [(3, 0, 90, 0, 0), (1, 4, 0, 0, 0), (0, 0, 0, 0, 0)], [], [(0, 90, 17, (1, 5, 0, 0, 0)), (0, 90, 18, (1, 3, 0, 0, 0)), (0, 90, 19, (1, 6, 0, 0, 0)), (0, 90, 20, (1, 7, 0, 0, 0))], [])), [(2, 0, 0)]), (5, ([(0, 1, 0, 0), (2, 0, 90, 17)], ([[(0, 0)], [(0, 40)], [(4, 60)], [(4, 60)], [((-2147483648), 2147483647)], [(4, 60)]], [(5, 3, 0), (2, 5, 0), (2, 3, 0)], [(3, 0, 90, 0, 0), (1, 4, 0, 0, 0), (0, 0, 0, 0, 0)], [], [(0, 90, 17, (1, 5, 0, 0, 0)), (0, 90, 18, (1, 3, 0, 0, 0)), (0, 90, 19, (1, 0, (-1), 0, 0)), (0, 90, 20, (1, 0, 4, 0, 0))], [])), [(2, 0, 1), (0, 5, 60), (2, 0, 0)])]

/-- PushedInModel.either (((90, 19), -1), ((90, 20), 4)) -/
def zpC511 : zC := (146, (19, 449), ([(2, 0, 90, 17), (2, 0, 90, 18)], ([[(0, 0)], [(0, 40)], [(4, 60)], [(4, 60)]], [(2, 3, 0)], [(3, 0, 90, 0, 0), (0, 0, 0, 0, 0), (0, 0, 0, 0, 0)], [], [(0, 90, 17, (1, 2, 0, 0, 0)), (0, 90, 18, (1, 3, 0, 0, 0)), (0, 90, 19, (1, 0, (-1), 0, 0)), (0, 90, 20, (1, 0, 4, 0, 0))], [])), [([(1, 0, 0, 0), (2, 0, 90, 17), (2, 0, 90, 19), (2, 0, 90, 20)], ([[(0, 0)], [(0, 40)], [(4, 60)], [(4, 60)], [((-2147483648), 2147483647)], [(4, 60)], [(4, 60)], [(4, 6)]], [(5, 6, 0), (5, 3, 0), (6, 5, 0), (6, 3, 0), (2, 5, 0), (2, 6, 0)], [], [(1, 4, 0, 0, 0)], [(0, 90, 17, (1, 5, 0, 0, 0)), (0, 90, 18, (1, 3, 0, 0, 0)), (0, 90, 19, (1, 6, 0, 0, 0)), (0, 90, 20, (1, 7, 0, 0, 0))], [])), ([(1, 0, 0, 0), (2, 0, 90, 17)], ([[(0, 0)], [(0, 40)], [(4, 60)], [(4, 60)], [((-2147483648), 2147483647)], [(4, 60)]], [(5, 3, 0), (2, 5, 0)], [], [(1, 4, 0, 0, 0)], [(0, 90, 17, (1, 5, 0, 0, 0)), (0, 90, 18, (1, 3, 0, 0, 0)), (0, 90, 19, (1, 0, (-1), 0, 0)), (0, 90, 20, (1, 0, 4, 0, 0))], []))], [(90, 90, 1, 17), (90, 90, 1, 19), (90, 90, 1, 20)])
def zpA511 : zAnn := [(5, ([(0, 1, 0, 0), (2, 0, 90, 17), (2, 0, 90, 19), (2, 0, 90, 20)], ([[(0, 0)], [(0, 40)], [(4, 60)], [(4, 60)], [((-2147483648), 2147483647)], [(4, 60)], [(4, 60)], [(4, 6)]], [(5, 6, 0), (5, 3, 0), (6, 5, 0), (6, 3, 0), (2, 5, 0), (2, 6, 0), (2, 3, 0)], [(3, 0, 90, 0, 0), (1, 4, 0, 0, 0), (0, 0, 0, 0, 0)], [], [(0, 90, 17, (1, 5, 0, 0, 0)), (0, 90, 18, (1, 3, 0, 0, 0)), (0, 90, 19, (1, 6, 0, 0, 0)), (0, 90, 20, (1, 7, 0, 0, 0))], [])), [(2, 0, 0)]), (5, ([(0, 1, 0, 0), (2, 0, 90, 17)], ([[(0, 0)], [(0, 40)], [(4, 60)], [(4, 60)], [((-2147483648), 2147483647)], [(4, 60)]], [(5, 3, 0), (2, 5, 0), (2, 3, 0)], [(3, 0, 90, 0, 0), (1, 4, 0, 0, 0), (0, 0, 0, 0, 0)], [], [(0, 90, 17, (1, 5, 0, 0, 0)), (0, 90, 18, (1, 3, 0, 0, 0)), (0, 90, 19, (1, 0, (-1), 0, 0)), (0, 90, 20, (1, 0, 4, 0, 0))], [])), [(2, 0, 1), (0, 5, 60), (2, 0, 0)])]

/-- PushedInModel.one (((90, 19), -1), ((90, 20), 3)) -/
def zpC512 : zC := (175, (20, 471), ([(2, 0, 90, 17), (2, 0, 90, 18)], ([[(0, 0)], [(0, 40)], [(3, 60)], [(3, 60)]], [(2, 3, 0)], [(3, 0, 90, 0, 0), (0, 0, 0, 0, 0), (0, 0, 0, 0, 0), (0, 0, 0, 0, 0), (0, 0, 0, 0, 0)], [], [(0, 90, 17, (1, 2, 0, 0, 0)), (0, 90, 18, (1, 3, 0, 0, 0)), (0, 90, 19, (1, 0, (-1), 0, 0)), (0, 90, 20, (1, 0, 3, 0, 0))], [])), [([(1, 0, 0, 0), (2, 0, 90, 17), (2, 0, 90, 19), (2, 0, 90, 20)], ([[(0, 0)], [(0, 40)], [(3, 60)], [(3, 60)], [((-2147483648), 2147483647)], [(3, 60)], [(3, 60)], [(3, 6)]], [(5, 6, 0), (5, 3, 0), (6, 5, 0), (6, 3, 0), (2, 5, 0), (2, 6, 0)], [], [(1, 4, 0, 0, 0)], [(0, 90, 17, (1, 5, 0, 0, 0)), (0, 90, 18, (1, 3, 0, 0, 0)), (0, 90, 19, (1, 6, 0, 0, 0)), (0, 90, 20, (1, 7, 0, 0, 0))], [])), ([(1, 0, 0, 0), (2, 0, 90, 17)], ([[(0, 0)], [(0, 40)], [(3, 60)], [(3, 60)], [((-2147483648), 2147483647)], [(3, 60)]], [(5, 3, 0), (2, 5, 0)], [], [(1, 4, 0, 0, 0)], [(0, 90, 17, (1, 5, 0, 0, 0)), (0, 90, 18, (1, 3, 0, 0, 0)), (0, 90, 19, (1, 0, (-1), 0, 0)), (0, 90, 20, (1, 0, 3, 0, 0))], []))], [(90, 90, 1, 17), (90, 90, 1, 19), (90, 90, 1, 20)])
def zpA512h0 : Nat × zTm × zRk := (176, ([(0, 1, 0, 0), (0, 3, 0, 0), (0, 4, 0, 0), (2, 0, 90, 17)], ([[(0, 0)], [(0, 40)], [(3, 60)], [(3, 60)], [(0, 96), (99, 107), (111, 255)], [((-2147483648), 2147483647)], [(0, 4)], [(3, 60)]], [(6, 7, 0), (7, 3, 0), (2, 7, 0), (2, 3, 0)], [(3, 0, 90, 0, 0), (1, 4, 0, 0, 0), (1, 0, (-1), 0, 0), (1, 5, 0, 0, 0), (1, 6, 0, 0, 0)], [], [(0, 90, 17, (1, 7, 0, 0, 0)), (0, 90, 18, (1, 3, 0, 0, 0)), (0, 90, 19, (1, 0, (-1), 0, 0)), (0, 90, 20, (1, 0, 3, 0, 0))], [])), [(2, 0, 0), (0, 6, 4), (2, 0, 0)])
def zpA512 : zAnn := [zpA512h0]

/-- PushedInModel.product (((90, 19), -1), ((90, 20), 3)) -/
def zpC513 : zC := (181, (21, 495), ([(2, 0, 90, 17), (2, 0, 90, 18)], ([[(0, 0)], [(0, 40)], [(3, 60)], [(3, 60)]], [(2, 3, 0)], [(3, 0, 90, 0, 0), (0, 0, 0, 0, 0), (0, 0, 0, 0, 0), (0, 0, 0, 0, 0)], [], [(0, 90, 17, (1, 2, 0, 0, 0)), (0, 90, 18, (1, 3, 0, 0, 0)), (0, 90, 19, (1, 0, (-1), 0, 0)), (0, 90, 20, (1, 0, 3, 0, 0))], [])), [([(1, 0, 0, 0), (2, 0, 90, 17), (2, 0, 90, 19), (2, 0, 90, 20)], ([[(0, 0)], [(0, 40)], [(3, 60)], [(3, 60)], [((-2147483648), 2147483647)], [(3, 60)], [(3, 60)], [(3, 6)]], [(5, 6, 0), (5, 3, 0), (6, 5, 0), (6, 3, 0), (2, 5, 0), (2, 6, 0)], [], [(1, 4, 0, 0, 0)], [(0, 90, 17, (1, 5, 0, 0, 0)), (0, 90, 18, (1, 3, 0, 0, 0)), (0, 90, 19, (1, 6, 0, 0, 0)), (0, 90, 20, (1, 7, 0, 0, 0))], [])), ([(1, 0, 0, 0), (2, 0, 90, 17)], ([[(0, 0)], [(0, 40)], [(3, 60)], [(3, 60)], [((-2147483648), 2147483647)], [(3, 60)]], [(5, 3, 0), (2, 5, 0)], [], [(1, 4, 0, 0, 0)], [(0, 90, 17, (1, 5, 0, 0, 0)), (0, 90, 18, (1, 3, 0, 0, 0)), (0, 90, 19, (1, 0, (-1), 0, 0)), (0, 90, 20, (1, 0, 3, 0, 0))], []))], [(90, 90, 1, 17), (90, 90, 1, 19), (90, 90, 1, 20)])
def zpA513 : zAnn := [(35, ([(0, 1, 0, 0), (0, 2, 0, 0), (2, 0, 90, 17)], ([[(0, 0)], [(0, 40)], [(3, 60)], [(4, 60)], [((-2147483648), 2147483647)], [(37, 37), (42, 42), (47, 47)], [(3, 59)]], [(6, 3, (-1)), (2, 6, 0), (2, 3, 0)], [(3, 0, 90, 0, 0), (1, 4, 0, 0, 0), (1, 5, 0, 0, 0), (0, 0, 0, 0, 0)], [], [(0, 90, 17, (1, 6, 0, 0, 0)), (0, 90, 18, (1, 3, 0, 0, 0)), (0, 90, 19, (1, 0, (-1), 0, 0)), (0, 90, 20, (1, 0, 3, 0, 0))], [])), [(2, 0, 0), (0, 6, 59), (2, 0, 0)])]

/-- PushedInModel.sums (((90, 19), -1), ((90, 20), 3)) -/
def zpC514 : zC := (192, (22, 518), ([(2, 0, 90, 17), (2, 0, 90, 18)], ([[(0, 0)], [(0, 40)], [(3, 60)], [(3, 60)]], [(2, 3, 0)], [(3, 0, 90, 0, 0), (0, 0, 0, 0, 0), (0, 0, 0, 0, 0), (0, 0, 0, 0, 0)], [], [(0, 90, 17, (1, 2, 0, 0, 0)), (0, 90, 18, (1, 3, 0, 0, 0)), (0, 90, 19, (1, 0, (-1), 0, 0)), (0, 90, 20, (1, 0, 3, 0, 0))], [])), [([(1, 0, 0, 0), (2, 0, 90, 17), (2, 0, 90, 19), (2, 0, 90, 20)], ([[(0, 0)], [(0, 40)], [(3, 60)], [(3, 60)], [((-2147483648), 2147483647)], [(3, 60)], [(3, 60)], [(3, 6)]], [(5, 6, 0), (5, 3, 0), (6, 5, 0), (6, 3, 0), (2, 5, 0), (2, 6, 0)], [], [(1, 4, 0, 0, 0)], [(0, 90, 17, (1, 5, 0, 0, 0)), (0, 90, 18, (1, 3, 0, 0, 0)), (0, 90, 19, (1, 6, 0, 0, 0)), (0, 90, 20, (1, 7, 0, 0, 0))], [])), ([(1, 0, 0, 0), (2, 0, 90, 17)], ([[(0, 0)], [(0, 40)], [(3, 60)], [(3, 60)], [((-2147483648), 2147483647)], [(3, 60)]], [(5, 3, 0), (2, 5, 0)], [], [(1, 4, 0, 0, 0)], [(0, 90, 17, (1, 5, 0, 0, 0)), (0, 90, 18, (1, 3, 0, 0, 0)), (0, 90, 19, (1, 0, (-1), 0, 0)), (0, 90, 20, (1, 0, 3, 0, 0))], []))], [(90, 90, 1, 17), (90, 90, 1, 19), (90, 90, 1, 20)])
def zpA514 : zAnn := [(5, ([(0, 1, 0, 0), (2, 0, 90, 17), (2, 0, 90, 19), (2, 0, 90, 20)], ([[(0, 0)], [(0, 40)], [(3, 60)], [(3, 60)], [((-2147483648), 2147483647)], [(3, 60)], [(3, 60)], [(3, 6)]], [(5, 6, 0), (5, 3, 0), (6, 5, 0), (6, 3, 0), (2, 5, 0), (2, 6, 0), (2, 3, 0)], [(3, 0, 90, 0, 0), (1, 4, 0, 0, 0), (0, 0, 0, 0, 0), (0, 0, 0, 0, 0)], [], [(0, 90, 17, (1, 5, 0, 0, 0)), (0, 90, 18, (1, 3, 0, 0, 0)), (0, 90, 19, (1, 6, 0, 0, 0)), (0, 90, 20, (1, 7, 0, 0, 0))], [])), [(2, 0, 0)]), (5, ([(0, 1, 0, 0), (2, 0, 90, 17)], ([[(0, 0)], [(0, 40)], [(3, 60)], [(3, 60)], [((-2147483648), 2147483647)], [(3, 60)]], [(5, 3, 0), (2, 5, 0), (2, 3, 0)], [(3, 0, 90, 0, 0), (1, 4, 0, 0, 0), (0, 0, 0, 0, 0), (0, 0, 0, 0, 0)], [], [(0, 90, 17, (1, 5, 0, 0, 0)), (0, 90, 18, (1, 3, 0, 0, 0)), (0, 90, 19, (1, 0, (-1), 0, 0)), (0, 90, 20, (1, 0, 3, 0, 0))], [])), [(2, 0, 1), (0, 5, 60), (2, 0, 0)])]

/-- PushedInModel.compared (((90, 19), -1), ((90, 20), 3)) -/
def zpC515 : zC := (141, (23, 541), ([(2, 0, 90, 17), (2, 0, 90, 18)], ([[(0, 0)], [(0, 40)], [(3, 60)], [(3, 60)]], [(2, 3, 0)], [(3, 0, 90, 0, 0), (0, 0, 0, 0, 0), (0, 0, 0, 0, 0), (0, 0, 0, 0, 0)], [], [(0, 90, 17, (1, 2, 0, 0, 0)), (0, 90, 18, (1, 3, 0, 0, 0)), (0, 90, 19, (1, 0, (-1), 0, 0)), (0, 90, 20, (1, 0, 3, 0, 0))], [])), [([(1, 0, 0, 0), (2, 0, 90, 17), (2, 0, 90, 19), (2, 0, 90, 20)], ([[(0, 0)], [(0, 40)], [(3, 60)], [(3, 60)], [((-2147483648), 2147483647)], [(3, 60)], [(3, 60)], [(3, 6)]], [(5, 6, 0), (5, 3, 0), (6, 5, 0), (6, 3, 0), (2, 5, 0), (2, 6, 0)], [], [(1, 4, 0, 0, 0)], [(0, 90, 17, (1, 5, 0, 0, 0)), (0, 90, 18, (1, 3, 0, 0, 0)), (0, 90, 19, (1, 6, 0, 0, 0)), (0, 90, 20, (1, 7, 0, 0, 0))], [])), ([(1, 0, 0, 0), (2, 0, 90, 17)], ([[(0, 0)], [(0, 40)], [(3, 60)], [(3, 60)], [((-2147483648), 2147483647)], [(3, 60)]], [(5, 3, 0), (2, 5, 0)], [], [(1, 4, 0, 0, 0)], [(0, 90, 17, (1, 5, 0, 0, 0)), (0, 90, 18, (1, 3, 0, 0, 0)), (0, 90, 19, (1, 0, (-1), 0, 0)), (0, 90, 20, (1, 0, 3, 0, 0))], []))], [(90, 90, 1, 17), (90, 90, 1, 19), (90, 90, 1, 20)])
def zpA515 : zAnn := []

/-- PushedInModel.both (((90, 19), -1), ((90, 20), 3)) -/
def zpC516 : zC := (132, (24, 564), ([(2, 0, 90, 17), (2, 0, 90, 18)], ([[(0, 0)], [(0, 40)], [(3, 60)], [(3, 60)]], [(2, 3, 0)], [(3, 0, 90, 0, 0), (0, 0, 0, 0, 0), (0, 0, 0, 0, 0)], [], [(0, 90, 17, (1, 2, 0, 0, 0)), (0, 90, 18, (1, 3, 0, 0, 0)), (0, 90, 19, (1, 0, (-1), 0, 0)), (0, 90, 20, (1, 0, 3, 0, 0))], [])), [([(1, 0, 0, 0), (2, 0, 90, 17), (2, 0, 90, 19), (2, 0, 90, 20)], ([[(0, 0)], [(0, 40)], [(3, 60)], [(3, 60)], [((-2147483648), 2147483647)], [(3, 60)], [(3, 60)], [(3, 6)]], [(5, 6, 0), (5, 3, 0), (6, 5, 0), (6, 3, 0), (2, 5, 0), (2, 6, 0)], [], [(1, 4, 0, 0, 0)], [(0, 90, 17, (1, 5, 0, 0, 0)), (0, 90, 18, (1, 3, 0, 0, 0)), (0, 90, 19, (1, 6, 0, 0, 0)), (0, 90, 20, (1, 7, 0, 0, 0))], [])), ([(1, 0, 0, 0), (2, 0, 90, 17)], ([[(0, 0)], [(0, 40)], [(3, 60)], [(3, 60)], [((-2147483648), 2147483647)], [(3, 60)]], [(5, 3, 0), (2, 5, 0)], [], [(1, 4, 0, 0, 0)], [(0, 90, 17, (1, 5, 0, 0, 0)), (0, 90, 18, (1, 3, 0, 0, 0)), (0, 90, 19, (1, 0, (-1), 0, 0)), (0, 90, 20, (1, 0, 3, 0, 0))], []))], [(90, 90, 1, 17), (90, 90, 1, 19), (90, 90, 1, 20)])
def zpA516 : zAnn := [(5, ([(0, 1, 0, 0), (2, 0, 90, 17), (2, 0, 90, 19), (2, 0, 90, 20)], ([[(0, 0)], [(0, 40)], [(3, 60)], [(3, 60)], [((-2147483648), 2147483647)], [(3, 60)], [(3, 60)], [(3, 6)]], [(5, 6, 0), (5, 3, 0), (6, 5, 0), (6, 3, 0), (2, 5, 0), (2, 6, 0), (2, 3, 0)], [(3, 0, 90, 0, 0), (1, 4, 0, 0, 0), (0, 0, 0, 0, 0)], [], [(0, 90, 17, (1, 5, 0, 0, 0)), (0, 90, 18, (1, 3, 0, 0, 0)), (0, 90, 19, (1, 6, 0, 0, 0)), (0, 90, 20, (1, 7, 0, 0, 0))], [])), [(2, 0, 0)]), (5, ([(0, 1, 0, 0), (2, 0, 90, 17)], ([[(0, 0)], [(0, 40)], [(3, 60)], [(3, 60)], [((-2147483648), 2147483647)], [(3, 60)]], [(5, 3, 0), (2, 5, 0), (2, 3, 0)], [(3, 0, 90, 0, 0), (1, 4, 0, 0, 0), (0, 0, 0, 0, 0)], [], [(0, 90, 17, (1, 5, 0, 0, 0)), (0, 90, 18, (1, 3, 0, 0, 0)), (0, 90, 19, (1, 0, (-1), 0, 0)), (0, 90, 20, (1, 0, 3, 0, 0))], [])), [(2, 0, 1), (0, 5, 60), (2, 0, 0)])]

/-- PushedInModel.either (((90, 19), -1), ((90, 20), 3)) -/
def zpC517 : zC := (146, (25, 586), ([(2, 0, 90, 17), (2, 0, 90, 18)], ([[(0, 0)], [(0, 40)], [(3, 60)], [(3, 60)]], [(2, 3, 0)], [(3, 0, 90, 0, 0), (0, 0, 0, 0, 0), (0, 0, 0, 0, 0)], [], [(0, 90, 17, (1, 2, 0, 0, 0)), (0, 90, 18, (1, 3, 0, 0, 0)), (0, 90, 19, (1, 0, (-1), 0, 0)), (0, 90, 20, (1, 0, 3, 0, 0))], [])), [([(1, 0, 0, 0), (2, 0, 90, 17), (2, 0, 90, 19), (2, 0, 90, 20)], ([[(0, 0)], [(0, 40)], [(3, 60)], [(3, 60)], [((-2147483648), 2147483647)], [(3, 60)], [(3, 60)], [(3, 6)]], [(5, 6, 0), (5, 3, 0), (6, 5, 0), (6, 3, 0), (2, 5, 0), (2, 6, 0)], [], [(1, 4, 0, 0, 0)], [(0, 90, 17, (1, 5, 0, 0, 0)), (0, 90, 18, (1, 3, 0, 0, 0)), (0, 90, 19, (1, 6, 0, 0, 0)), (0, 90, 20, (1, 7, 0, 0, 0))], [])), ([(1, 0, 0, 0), (2, 0, 90, 17)], ([[(0, 0)], [(0, 40)], [(3, 60)], [(3, 60)], [((-2147483648), 2147483647)], [(3, 60)]], [(5, 3, 0), (2, 5, 0)], [], [(1, 4, 0, 0, 0)], [(0, 90, 17, (1, 5, 0, 0, 0)), (0, 90, 18, (1, 3, 0, 0, 0)), (0, 90, 19, (1, 0, (-1), 0, 0)), (0, 90, 20, (1, 0, 3, 0, 0))], []))], [(90, 90, 1, 17), (90, 90, 1, 19), (90, 90, 1, 20)])
def zpA517 : zAnn := [(5, ([(0, 1, 0, 0), (2, 0, 90, 17), (2, 0, 90, 19), (2, 0, 90, 20)], ([[(0, 0)], [(0, 40)], [(3, 60)], [(3, 60)], [((-2147483648), 2147483647)], [(3, 60)], [(3, 60)], [(3, 6)]], [(5, 6, 0), (5, 3, 0), (6, 5, 0), (6, 3, 0), (2, 5, 0), (2, 6, 0), (2, 3, 0)], [(3, 0, 90, 0, 0), (1, 4, 0, 0, 0), (0, 0, 0, 0, 0)], [], [(0, 90, 17, (1, 5, 0, 0, 0)), (0, 90, 18, (1, 3, 0, 0, 0)), (0, 90, 19, (1, 6, 0, 0, 0)), (0, 90, 20, (1, 7, 0, 0, 0))], [])), [(2, 0, 0)]), (5, ([(0, 1, 0, 0), (2, 0, 90, 17)], ([[(0, 0)], [(0, 40)], [(3, 60)], [(3, 60)], [((-2147483648), 2147483647)], [(3, 60)]], [(5, 3, 0), (2, 5, 0), (2, 3, 0)], [(3, 0, 90, 0, 0), (1, 4, 0, 0, 0), (0, 0, 0, 0, 0)], [], [(0, 90, 17, (1, 5, 0, 0, 0)), (0, 90, 18, (1, 3, 0, 0, 0)), (0, 90, 19, (1, 0, (-1), 0, 0)), (0, 90, 20, (1, 0, 3, 0, 0))], [])), [(2, 0, 1), (0, 5, 60), (2, 0, 0)])]

/-- PushedInModel.one (((90, 19), -1), ((90, 20), 2)) -/
def zpC518 : zC := (175, (26, 608), ([(2, 0, 90, 17), (2, 0, 90, 18)], ([[(0, 0)], [(0, 40)], [(2, 60)], [(2, 60)]], [(2, 3, 0)], [(3, 0, 90, 0, 0), (0, 0, 0, 0, 0), (0, 0, 0, 0, 0), (0, 0, 0, 0, 0), (0, 0, 0, 0, 0)], [], [(0, 90, 17, (1, 2, 0, 0, 0)), (0, 90, 18, (1, 3, 0, 0, 0)), (0, 90, 19, (1, 0, (-1), 0, 0)), (0, 90, 20, (1, 0, 2, 0, 0))], [])), [([(1, 0, 0, 0), (2, 0, 90, 17), (2, 0, 90, 19), (2, 0, 90, 20)], ([[(0, 0)], [(0, 40)], [(2, 60)], [(2, 60)], [((-2147483648), 2147483647)], [(2, 60)], [(2, 60)], [(2, 6)]], [(5, 6, 0), (5, 3, 0), (6, 5, 0), (6, 3, 0), (2, 5, 0), (2, 6, 0)], [], [(1, 4, 0, 0, 0)], [(0, 90, 17, (1, 5, 0, 0, 0)), (0, 90, 18, (1, 3, 0, 0, 0)), (0, 90, 19, (1, 6, 0, 0, 0)), (0, 90, 20, (1, 7, 0, 0, 0))], [])), ([(1, 0, 0, 0), (2, 0, 90, 17)], ([[(0, 0)], [(0, 40)], [(2, 60)], [(2, 60)], [((-2147483648), 2147483647)], [(2, 60)]], [(5, 3, 0), (2, 5, 0)], [], [(1, 4, 0, 0, 0)], [(0, 90, 17, (1, 5, 0, 0, 0)), (0, 90, 18, (1, 3, 0, 0, 0)), (0, 90, 19, (1, 0, (-1), 0, 0)), (0, 90, 20, (1, 0, 2, 0, 0))], []))], [(90, 90, 1, 17), (90, 90, 1, 19), (90, 90, 1, 20)])
def zpA518h0 : Nat × zTm × zRk := (176, ([(0, 1, 0, 0), (0, 3, 0, 0), (0, 4, 0, 0), (2, 0, 90, 17)], ([[(0, 0)], [(0, 40)], [(2, 60)], [(2, 60)], [(0, 96), (99, 107), (111, 255)], [((-2147483648), 2147483647)], [(0, 4)], [(2, 60)]], [(6, 7, 0), (7, 3, 0), (2, 7, 0), (2, 3, 0)], [(3, 0, 90, 0, 0), (1, 4, 0, 0, 0), (1, 0, (-1), 0, 0), (1, 5, 0, 0, 0), (1, 6, 0, 0, 0)], [], [(0, 90, 17, (1, 7, 0, 0, 0)), (0, 90, 18, (1, 3, 0, 0, 0)), (0, 90, 19, (1, 0, (-1), 0, 0)), (0, 90, 20, (1, 0, 2, 0, 0))], [])), [(2, 0, 0), (0, 6, 4), (2, 0, 0)])
def zpA518 : zAnn := [zpA518h0]

/-- PushedInModel.product (((90, 19), -1), ((90, 20), 2)) -/
def zpC519 : zC := (181, (27, 632), ([(2, 0, 90, 17), (2, 0, 90, 18)], ([[(0, 0)], [(0, 40)], [(2, 60)], [(2, 60)]], [(2, 3, 0)], [(3, 0, 90, 0, 0), (0, 0, 0, 0, 0), (0, 0, 0, 0, 0), (0, 0, 0, 0, 0)], [], [(0, 90, 17, (1, 2, 0, 0, 0)), (0, 90, 18, (1, 3, 0, 0, 0)), (0, 90, 19, (1, 0, (-1), 0, 0)), (0, 90, 20, (1, 0, 2, 0, 0))], [])), [([(1, 0, 0, 0), (2, 0, 90, 17), (2, 0, 90, 19), (2, 0, 90, 20)], ([[(0, 0)], [(0, 40)], [(2, 60)], [(2, 60)], [((-2147483648), 2147483647)], [(2, 60)], [(2, 60)], [(2, 6)]], [(5, 6, 0), (5, 3, 0), (6, 5, 0), (6, 3, 0), (2, 5, 0), (2, 6, 0)], [], [(1, 4, 0, 0, 0)], [(0, 90, 17, (1, 5, 0, 0, 0)), (0, 90, 18, (1, 3, 0, 0, 0)), (0, 90, 19, (1, 6, 0, 0, 0)), (0, 90, 20, (1, 7, 0, 0, 0))], [])), ([(1, 0, 0, 0), (2, 0, 90, 17)], ([[(0, 0)], [(0, 40)], [(2, 60)], [(2, 60)], [((-2147483648), 2147483647)], [(2, 60)]], [(5, 3, 0), (2, 5, 0)], [], [(1, 4, 0, 0, 0)], [(0, 90, 17, (1, 5, 0, 0, 0)), (0, 90, 18, (1, 3, 0, 0, 0)), (0, 90, 19, (1, 0, (-1), 0, 0)), (0, 90, 20, (1, 0, 2, 0, 0))], []))], [(90, 90, 1, 17), (90, 90, 1, 19), (90, 90, 1, 20)])
def zpA519 : zAnn := [(35, ([(0, 1, 0, 0), (0, 2, 0, 0), (2, 0, 90, 17)], ([[(0, 0)], [(0, 40)], [(2, 60)], [(3, 60)], [((-2147483648), 2147483647)], [(37, 37), (42, 42), (47, 47)], [(2, 59)]], [(6, 3, (-1)), (2, 6, 0), (2, 3, 0)], [(3, 0, 90, 0, 0), (1, 4, 0, 0, 0), (1, 5, 0, 0, 0), (0, 0, 0, 0, 0)], [], [(0, 90, 17, (1, 6, 0, 0, 0)), (0, 90, 18, (1, 3, 0, 0, 0)), (0, 90, 19, (1, 0, (-1), 0, 0)), (0, 90, 20, (1, 0, 2, 0, 0))], [])), [(2, 0, 0), (0, 6, 59), (2, 0, 0)])]

/-- PushedInModel.sums (((90, 19), -1), ((90, 20), 2)) -/
def zpC520 : zC := (192, (28, 655), ([(2, 0, 90, 17), (2, 0, 90, 18)], ([[(0, 0)], [(0, 40)], [(2, 60)], [(2, 60)]], [(2, 3, 0)], [(3, 0, 90, 0, 0), (0, 0, 0, 0, 0), (0, 0, 0, 0, 0), (0, 0, 0, 0, 0)], [], [(0, 90, 17, (1, 2, 0, 0, 0)), (0, 90, 18, (1, 3, 0, 0, 0)), (0, 90, 19, (1, 0, (-1), 0, 0)), (0, 90, 20, (1, 0, 2, 0, 0))], [])), [([(1, 0, 0, 0), (2, 0, 90, 17), (2, 0, 90, 19), (2, 0, 90, 20)], ([[(0, 0)], [(0, 40)], [(2, 60)], [(2, 60)], [((-2147483648), 2147483647)], [(2, 60)], [(2, 60)], [(2, 6)]], [(5, 6, 0), (5, 3, 0), (6, 5, 0), (6, 3, 0), (2, 5, 0), (2, 6, 0)], [], [(1, 4, 0, 0, 0)], [(0, 90, 17, (1, 5, 0, 0, 0)), (0, 90, 18, (1, 3, 0, 0, 0)), (0, 90, 19, (1, 6, 0, 0, 0)), (0, 90, 20, (1, 7, 0, 0, 0))], [])), ([(1, 0, 0, 0), (2, 0, 90, 17)], ([[(0, 0)], [(0, 40)], [(2, 60)], [(2, 60)], [((-2147483648), 2147483647)], [(2, 60)]], [(5, 3, 0), (2, 5, 0)], [], [(1, 4, 0, 0, 0)], [(0, 90, 17, (1, 5, 0, 0, 0)), (0, 90, 18, (1, 3, 0, 0, 0)), (0, 90, 19, (1, 0, (-1), 0, 0)), (0, 90, 20, (1, 0, 2, 0, 0))], []))], [(90, 90, 1, 17), (90, 90, 1, 19), (90, 90, 1, 20)])
def zpA520 : zAnn := [(5, ([(0, 1, 0, 0), (2, 0, 90, 17), (2, 0, 90, 19), (2, 0, 90, 20)], ([[(0, 0)], [(0, 40)], [(2, 60)], [(2, 60)], [((-2147483648), 2147483647)], [(2, 60)], [(2, 60)], [(2, 6)]], [(5, 6, 0), (5, 3, 0), (6, 5, 0), (6, 3, 0), (2, 5, 0), (2, 6, 0), (2, 3, 0)], [(3, 0, 90, 0, 0), (1, 4, 0, 0, 0), (0, 0, 0, 0, 0), (0, 0, 0, 0, 0)], [], [(0, 90, 17, (1, 5, 0, 0, 0)), (0, 90, 18, (1, 3, 0, 0, 0)), (0, 90, 19, (1, 6, 0, 0, 0)), (0, 90, 20, (1, 7, 0, 0, 0))], [])), [(2, 0, 0)]), (5, ([(0, 1, 0, 0), (2, 0, 90, 17)], ([[(0, 0)], [(0, 40)], [(2, 60)], [(2, 60)], [((-2147483648), 2147483647)], [(2, 60)]], [(5, 3, 0), (2, 5, 0), (2, 3, 0)], [(3, 0, 90, 0, 0), (1, 4, 0, 0, 0), (0, 0, 0, 0, 0), (0, 0, 0, 0, 0)], [], [(0, 90, 17, (1, 5, 0, 0, 0)), (0, 90, 18, (1, 3, 0, 0, 0)), (0, 90, 19, (1, 0, (-1), 0, 0)), (0, 90, 20, (1, 0, 2, 0, 0))], [])), [(2, 0, 1), (0, 5, 60), (2, 0, 0)])]

/-- PushedInModel.compared (((90, 19), -1), ((90, 20), 2)) -/
def zpC521 : zC := (141, (29, 678), ([(2, 0, 90, 17), (2, 0, 90, 18)], ([[(0, 0)], [(0, 40)], [(2, 60)], [(2, 60)]], [(2, 3, 0)], [(3, 0, 90, 0, 0), (0, 0, 0, 0, 0), (0, 0, 0, 0, 0), (0, 0, 0, 0, 0)], [], [(0, 90, 17, (1, 2, 0, 0, 0)), (0, 90, 18, (1, 3, 0, 0, 0)), (0, 90, 19, (1, 0, (-1), 0, 0)), (0, 90, 20, (1, 0, 2, 0, 0))], [])), [([(1, 0, 0, 0), (2, 0, 90, 17), (2, 0, 90, 19), (2, 0, 90, 20)], ([[(0, 0)], [(0, 40)], [(2, 60)], [(2, 60)], [((-2147483648), 2147483647)], [(2, 60)], [(2, 60)], [(2, 6)]], [(5, 6, 0), (5, 3, 0), (6, 5, 0), (6, 3, 0), (2, 5, 0), (2, 6, 0)], [], [(1, 4, 0, 0, 0)], [(0, 90, 17, (1, 5, 0, 0, 0)), (0, 90, 18, (1, 3, 0, 0, 0)), (0, 90, 19, (1, 6, 0, 0, 0)), (0, 90, 20, (1, 7, 0, 0, 0))], [])), ([(1, 0, 0, 0), (2, 0, 90, 17)], ([[(0, 0)], [(0, 40)], [(2, 60)], [(2, 60)], [((-2147483648), 2147483647)], [(2, 60)]], [(5, 3, 0), (2, 5, 0)], [], [(1, 4, 0, 0, 0)], [(0, 90, 17, (1, 5, 0, 0, 0)), (0, 90, 18, (1, 3, 0, 0, 0)), (0, 90, 19, (1, 0, (-1), 0, 0)), (0, 90, 20, (1, 0, 2, 0, 0))], []))], [(90, 90, 1, 17), (90, 90, 1, 19), (90, 90, 1, 20)])
def zpA521 : zAnn := []

/-- PushedInModel.both (((90, 19), -1), ((90, 20), 2)) -/
def zpC522 : zC := (132, (30, 701), ([(2, 0, 90, 17), (2, 0, 90, 18)], ([[(0, 0)], [(0, 40)], [(2, 60)], [(2, 60)]], [(2, 3, 0)], [(3, 0, 90, 0, 0), (0, 0, 0, 0, 0), (0, 0, 0, 0, 0)], [], [(0, 90, 17, (1, 2, 0, 0, 0)), (0, 90, 18, (1, 3, 0, 0, 0)), (0, 90, 19, (1, 0, (-1), 0, 0)), (0, 90, 20, (1, 0, 2, 0, 0))], [])), [([(1, 0, 0, 0), (2, 0, 90, 17), (2, 0, 90, 19), (2, 0, 90, 20)], ([[(0, 0)], [(0, 40)], [(2, 60)], [(2, 60)], [((-2147483648), 2147483647)], [(2, 60)], [(2, 60)], [(2, 6)]], [(5, 6, 0), (5, 3, 0), (6, 5, 0), (6, 3, 0), (2, 5, 0), (2, 6, 0)], [], [(1, 4, 0, 0, 0)], [(0, 90, 17, (1, 5, 0, 0, 0)), (0, 90, 18, (1, 3, 0, 0, 0)), (0, 90, 19, (1, 6, 0, 0, 0)), (0, 90, 20, (1, 7, 0, 0, 0))], [])), ([(1, 0, 0, 0), (2, 0, 90, 17)], ([[(0, 0)], [(0, 40)], [(2, 60)], [(2, 60)], [((-2147483648), 2147483647)], [(2, 60)]], [(5, 3, 0), (2, 5, 0)], [], [(1, 4, 0, 0, 0)], [(0, 90, 17, (1, 5, 0, 0, 0)), (0, 90, 18, (1, 3, 0, 0, 0)), (0, 90, 19, (1, 0, (-1), 0, 0)), (0, 90, 20, (1, 0, 2, 0, 0))], []))], [(90, 90, 1, 17), (90, 90, 1, 19), (90, 90, 1, 20)])
def zpA522 : zAnn := [(5, ([(0, 1, 0, 0), (2, 0, 90, 17), (2, 0, 90, 19), (2, 0, 90, 20)], ([[(0, 0)], [(0, 40)], [(2, 60)], [(2, 60)], [((-2147483648), 2147483647)], [(2, 60)], [(2, 60)], [(2, 6)]], [(5, 6, 0), (5, 3, 0), (6, 5, 0), (6, 3, 0), (2, 5, 0), (2, 6, 0), (2, 3, 0)], [(3, 0, 90, 0, 0), (1, 4, 0, 0, 0), (0, 0, 0, 0, 0)], [], [(0, 90, 17, (1, 5, 0, 0, 0)), (0, 90, 18, (1, 3, 0, 0, 0)), (0, 90, 19, (1, 6, 0, 0, 0)), (0, 90, 20, (1, 7, 0, 0, 0))], [])), [(2, 0, 0)]), (5, ([(0, 1, 0, 0), (2, 0, 90, 17)], ([[(0, 0)], [(0, 40)], [(2, 60)], [(2, 60)], [((-2147483648), 2147483647)], [(2, 60)]], [(5, 3, 0), (2, 5, 0), (2, 3, 0)], [(3, 0, 90, 0, 0), (1, 4, 0, 0, 0), (0, 0, 0, 0, 0)], [], [(0, 90, 17, (1, 5, 0, 0, 0)), (0, 90, 18, (1, 3, 0, 0, 0)), (0, 90, 19, (1, 0, (-1), 0, 0)), (0, 90, 20, (1, 0, 2, 0, 0))], [])), [(2, 0, 1), (0, 5, 60), (2, 0, 0)])]

/-- PushedInModel.either (((90, 19), -1), ((90, 20), 2)) -/
def zpC523 : zC := (146, (31, 723), ([(2, 0, 90, 17), (2, 0, 90, 18)], ([[(0, 0)], [(0, 40)], [(2, 60)], [(2, 60)]], [(2, 3, 0)], [(3, 0, 90, 0, 0), (0, 0, 0, 0, 0), (0, 0, 0, 0, 0)], [], [(0, 90, 17, (1, 2, 0, 0, 0)), (0, 90, 18, (1, 3, 0, 0, 0)), (0, 90, 19, (1, 0, (-1), 0, 0)), (0, 90, 20, (1, 0, 2, 0, 0))], [])), [([(1, 0, 0, 0), (2, 0, 90, 17), (2, 0, 90, 19), (2, 0, 90, 20)], ([[(0, 0)], [(0, 40)], [(2, 60)], [(2, 60)], [((-2147483648), 2147483647)], [(2, 60)], [(2, 60)], [(2, 6)]], [(5, 6, 0), (5, 3, 0), (6, 5, 0), (6, 3, 0), (2, 5, 0), (2, 6, 0)], [], [(1, 4, 0, 0, 0)], [(0, 90, 17, (1, 5, 0, 0, 0)), (0, 90, 18, (1, 3, 0, 0, 0)), (0, 90, 19, (1, 6, 0, 0, 0)), (0, 90, 20, (1, 7, 0, 0, 0))], [])), ([(1, 0, 0, 0), (2, 0, 90, 17)], ([[(0, 0)], [(0, 40)], [(2, 60)], [(2, 60)], [((-2147483648), 2147483647)], [(2, 60)]], [(5, 3, 0), (2, 5, 0)], [], [(1, 4, 0, 0, 0)], [(0, 90, 17, (1, 5, 0, 0, 0)), (0, 90, 18, (1, 3, 0, 0, 0)), (0, 90, 19, (1, 0, (-1), 0, 0)), (0, 90, 20, (1, 0, 2, 0, 0))], []))], [(90, 90, 1, 17), (90, 90, 1, 19), (90, 90, 1, 20)])
def zpA523 : zAnn := [(5, ([(0, 1, 0, 0), (2, 0, 90, 17), (2, 0, 90, 19), (2, 0, 90, 20)], ([[(0, 0)], [(0, 40)], [(2, 60)], [(2, 60)], [((-2147483648), 2147483647)], [(2, 60)], [(2, 60)], [(2, 6)]], [(5, 6, 0), (5, 3, 0), (6, 5, 0), (6, 3, 0), (2, 5, 0), (2, 6, 0), (2, 3, 0)], [(3, 0, 90, 0, 0), (1, 4, 0, 0, 0), (0, 0, 0, 0, 0)], [], [(0, 90, 17, (1, 5, 0, 0, 0)), (0, 90, 18, (1, 3, 0, 0, 0)), (0, 90, 19, (1, 6, 0, 0, 0)), (0, 90, 20, (1, 7, 0, 0, 0))], [])), [(2, 0, 0)]), (5, ([(0, 1, 0, 0), (2, 0, 90, 17)], ([[(0, 0)], [(0, 40)], [(2, 60)], [(2, 60)], [((-2147483648), 2147483647)], [(2, 60)]], [(5, 3, 0), (2, 5, 0), (2, 3, 0)], [(3, 0, 90, 0, 0), (1, 4, 0, 0, 0), (0, 0, 0, 0, 0)], [], [(0, 90, 17, (1, 5, 0, 0, 0)), (0, 90, 18, (1, 3, 0, 0, 0)), (0, 90, 19, (1, 0, (-1), 0, 0)), (0, 90, 20, (1, 0, 2, 0, 0))], [])), [(2, 0, 1), (0, 5, 60), (2, 0, 0)])]

/-- PushedInModel.one (((90, 19), -1), ((90, 20), 1)) -/
def zpC524 : zC := (175, (32, 745), ([(2, 0, 90, 17), (2, 0, 90, 18)], ([[(0, 0)], [(0, 40)], [(1, 60)], [(1, 60)]], [(2, 3, 0)], [(3, 0, 90, 0, 0), (0, 0, 0, 0, 0), (0, 0, 0, 0, 0), (0, 0, 0, 0, 0), (0, 0, 0, 0, 0)], [], [(0, 90, 17, (1, 2, 0, 0, 0)), (0, 90, 18, (1, 3, 0, 0, 0)), (0, 90, 19, (1, 0, (-1), 0, 0)), (0, 90, 20, (1, 0, 1, 0, 0))], [])), [([(1, 0, 0, 0), (2, 0, 90, 17), (2, 0, 90, 19), (2, 0, 90, 20)], ([[(0, 0)], [(0, 40)], [(1, 60)], [(1, 60)], [((-2147483648), 2147483647)], [(1, 60)], [(1, 60)], [(1, 6)]], [(5, 6, 0), (5, 3, 0), (6, 5, 0), (6, 3, 0), (2, 5, 0), (2, 6, 0)], [], [(1, 4, 0, 0, 0)], [(0, 90, 17, (1, 5, 0, 0, 0)), (0, 90, 18, (1, 3, 0, 0, 0)), (0, 90, 19, (1, 6, 0, 0, 0)), (0, 90, 20, (1, 7, 0, 0, 0))], [])), ([(1, 0, 0, 0), (2, 0, 90, 17)], ([[(0, 0)], [(0, 40)], [(1, 60)], [(1, 60)], [((-2147483648), 2147483647)], [(1, 60)]], [(5, 3, 0), (2, 5, 0)], [], [(1, 4, 0, 0, 0)], [(0, 90, 17, (1, 5, 0, 0, 0)), (0, 90, 18, (1, 3, 0, 0, 0)), (0, 90, 19, (1, 0, (-1), 0, 0)), (0, 90, 20, (1, 0, 1, 0, 0))], []))], [(90, 90, 1, 17), (90, 90, 1, 19), (90, 90, 1, 20)])
def zpA524h0 : Nat × zTm × zRk := (176, ([(0, 1, 0, 0), (0, 3, 0, 0), (0, 4, 0, 0), (2, 0, 90, 17)], ([[(0, 0)], [(0, 40)], [(1, 60)], [(1, 60)], [(0, 96), (99, 107), (111, 255)], [((-2147483648), 2147483647)], [(0, 4)], [(1, 60)]], [(6, 7, 0), (7, 3, 0), (2, 7, 0), (2, 3, 0)], [(3, 0, 90, 0, 0), (1, 4, 0, 0, 0), (1, 0, (-1), 0, 0), (1, 5, 0, 0, 0), (1, 6, 0, 0, 0)], [], [(0, 90, 17, (1, 7, 0, 0, 0)), (0, 90, 18, (1, 3, 0, 0, 0)), (0, 90, 19, (1, 0, (-1), 0, 0)), (0, 90, 20, (1, 0, 1, 0, 0))], [])), [(2, 0, 0), (0, 6, 4), (2, 0, 0)])
def zpA524 : zAnn := [zpA524h0]

/-- PushedInModel.product (((90, 19), -1), ((90, 20), 1)) -/
def zpC525 : zC := (181, (33, 769), ([(2, 0, 90, 17), (2, 0, 90, 18)], ([[(0, 0)], [(0, 40)], [(1, 60)], [(1, 60)]], [(2, 3, 0)], [(3, 0, 90, 0, 0), (0, 0, 0, 0, 0), (0, 0, 0, 0, 0), (0, 0, 0, 0, 0)], [], [(0, 90, 17, (1, 2, 0, 0, 0)), (0, 90, 18, (1, 3, 0, 0, 0)), (0, 90, 19, (1, 0, (-1), 0, 0)), (0, 90, 20, (1, 0, 1, 0, 0))], [])), [([(1, 0, 0, 0), (2, 0, 90, 17), (2, 0, 90, 19), (2, 0, 90, 20)], ([[(0, 0)], [(0, 40)], [(1, 60)], [(1, 60)], [((-2147483648), 2147483647)], [(1, 60)], [(1, 60)], [(1, 6)]], [(5, 6, 0), (5, 3, 0), (6, 5, 0), (6, 3, 0), (2, 5, 0), (2, 6, 0)], [], [(1, 4, 0, 0, 0)], [(0, 90, 17, (1, 5, 0, 0, 0)), (0, 90, 18, (1, 3, 0, 0, 0)), (0, 90, 19, (1, 6, 0, 0, 0)), (0, 90, 20, (1, 7, 0, 0, 0))], [])), ([(1, 0, 0, 0), (2, 0, 90, 17)], ([[(0, 0)], [(0, 40)], [(1, 60)], [(1, 60)], [((-2147483648), 2147483647)], [(1, 60)]], [(5, 3, 0), (2, 5, 0)], [], [(1, 4, 0, 0, 0)], [(0, 90, 17, (1, 5, 0, 0, 0)), (0, 90, 18, (1, 3, 0, 0, 0)), (0, 90, 19, (1, 0, (-1), 0, 0)), (0, 90, 20, (1, 0, 1, 0, 0))], []))], [(90, 90, 1, 17), (90, 90, 1, 19), (90, 90, 1, 20)])
def zpA525 : zAnn := [(35, ([(0, 1, 0, 0), (0, 2, 0, 0), (2, 0, 90, 17)], ([[(0, 0)], [(0, 40)], [(1, 60)], [(2, 60)], [((-2147483648), 2147483647)], [(37, 37), (42, 42), (47, 47)], [(1, 59)]], [(6, 3, (-1)), (2, 6, 0), (2, 3, 0)], [(3, 0, 90, 0, 0), (1, 4, 0, 0, 0), (1, 5, 0, 0, 0), (0, 0, 0, 0, 0)], [], [(0, 90, 17, (1, 6, 0, 0, 0)), (0, 90, 18, (1, 3, 0, 0, 0)), (0, 90, 19, (1, 0, (-1), 0, 0)), (0, 90, 20, (1, 0, 1, 0, 0))], [])), [(2, 0, 0), (0, 6, 59), (2, 0, 0)])]

/-- PushedInModel.sums (((90, 19), -1), ((90, 20), 1)) -/
def zpC526 : zC := (192, (34, 792), ([(2, 0, 90, 17), (2, 0, 90, 18)], ([[(0, 0)], [(0, 40)], [(1, 60)], [(1, 60)]], [(2, 3, 0)], [(3, 0, 90, 0, 0), (0, 0, 0, 0, 0), (0, 0, 0, 0, 0), (0, 0, 0, 0, 0)], [], [(0, 90, 17, (1, 2, 0, 0, 0)), (0, 90, 18, (1, 3, 0, 0, 0)), (0, 90, 19, (1, 0, (-1), 0, 0)), (0, 90, 20, (1, 0, 1, 0, 0))], [])), [([(1, 0, 0, 0), (2, 0, 90, 17), (2, 0, 90, 19), (2, 0, 90, 20)], ([[(0, 0)], [(0, 40)], [(1, 60)], [(1, 60)], [((-2147483648), 2147483647)], [(1, 60)], [(1, 60)], [(1, 6)]], [(5, 6, 0), (5, 3, 0), (6, 5, 0), (6, 3, 0), (2, 5, 0), (2, 6, 0)], [], [(1, 4, 0, 0, 0)], [(0, 90, 17, (1, 5, 0, 0, 0)), (0, 90, 18, (1, 3, 0, 0, 0)), (0, 90, 19, (1, 6, 0, 0, 0)), (0, 90, 20, (1, 7, 0, 0, 0))], [])), ([(1, 0, 0, 0), (2, 0, 90, 17)], ([[(0, 0)], [(0, 40)], [(1, 60)], [(1, 60)], [((-2147483648), 2147483647)], [(1, 60)]], [(5, 3, 0), (2, 5, 0)], [], [(1, 4, 0, 0, 0)], [(0, 90, 17, (1, 5, 0, 0, 0)), (0, 90, 18, (1, 3, 0, 0, 0)), (0, 90, 19, (1, 0, (-1), 0, 0)), (0, 90, 20, (1, 0, 1, 0, 0))], []))], [(90, 90, 1, 17), (90, 90, 1, 19), (90, 90, 1, 20)])
def zpA526 : zAnn := [(5, ([(0, 1, 0, 0), (2, 0, 90, 17), (2, 0, 90, 19), (2, 0, 90, 20)], ([[(0, 0)], [(0, 40)], [(1, 60)], [(1, 60)], [((-2147483648), 2147483647)], [(1, 60)], [(1, 60)], [(1, 6)]], [(5, 6, 0), (5, 3, 0), (6, 5, 0), (6, 3, 0), (2, 5, 0), (2, 6, 0), (2, 3, 0)], [(3, 0, 90, 0, 0), (1, 4, 0, 0, 0), (0, 0, 0, 0, 0), (0, 0, 0, 0, 0)], [], [(0, 90, 17, (1, 5, 0, 0, 0)), (0, 90, 18, (1, 3, 0, 0, 0)), (0, 90, 19, (1, 6, 0, 0, 0)), (0, 90, 20, (1, 7, 0, 0, 0))], [])), [(2, 0, 0)]), (5, ([(0, 1, 0, 0), (2, 0, 90, 17)], ([[(0, 0)], [(0, 40)], [(1, 60)], [(1, 60)], [((-2147483648), 2147483647)], [(1, 60)]], [(5, 3, 0), (2, 5, 0), (2, 3, 0)], [(3, 0, 90, 0, 0), (1, 4, 0, 0, 0), (0, 0, 0, 0, 0), (0, 0, 0, 0, 0)], [], [(0, 90, 17, (1, 5, 0, 0, 0)), (0, 90, 18, (1, 3, 0, 0, 0)), (0, 90, 19, (1, 0, (-1), 0, 0)), (0, 90, 20, (1, 0, 1, 0, 0))], [])), [(2, 0, 1), (0, 5, 60), (2, 0, 0)])]

/-- PushedInModel.compared (((90, 19), -1), ((90, 20), 1)) -/
def zpC527 : zC := (141, (35, 815), ([(2, 0, 90, 17), (2, 0, 90, 18)], ([[(0, 0)], [(0, 40)], [(1, 60)], [(1, 60)]], [(2, 3, 0)], [(3, 0, 90, 0, 0), (0, 0, 0, 0, 0), (0, 0, 0, 0, 0), (0, 0, 0, 0, 0)], [], [(0, 90, 17, (1, 2, 0, 0, 0)), (0, 90, 18, (1, 3, 0, 0, 0)), (0, 90, 19, (1, 0, (-1), 0, 0)), (0, 90, 20, (1, 0, 1, 0, 0))], [])), [([(1, 0, 0, 0), (2, 0, 90, 17), (2, 0, 90, 19), (2, 0, 90, 20)], ([[(0, 0)], [(0, 40)], [(1, 60)], [(1, 60)], [((-2147483648), 2147483647)], [(1, 60)], [(1, 60)], [(1, 6)]], [(5, 6, 0), (5, 3, 0), (6, 5, 0), (6, 3, 0), (2, 5, 0), (2, 6, 0)], [], [(1, 4, 0, 0, 0)], [(0, 90, 17, (1, 5, 0, 0, 0)), (0, 90, 18, (1, 3, 0, 0, 0)), (0, 90, 19, (1, 6, 0, 0, 0)), (0, 90, 20, (1, 7, 0, 0, 0))], [])), ([(1, 0, 0, 0), (2, 0, 90, 17)], ([[(0, 0)], [(0, 40)], [(1, 60)], [(1, 60)], [((-2147483648), 2147483647)], [(1, 60)]], [(5, 3, 0), (2, 5, 0)], [], [(1, 4, 0, 0, 0)], [(0, 90, 17, (1, 5, 0, 0, 0)), (0, 90, 18, (1, 3, 0, 0, 0)), (0, 90, 19, (1, 0, (-1), 0, 0)), (0, 90, 20, (1, 0, 1, 0, 0))], []))], [(90, 90, 1, 17), (90, 90, 1, 19), (90, 90, 1, 20)])
def zpA527 : zAnn := []

/-- PushedInModel.both (((90, 19), -1), ((90, 20), 1)) -/
def zpC528 : zC := (132, (36, 838), ([(2, 0, 90, 17), (2, 0, 90, 18)], ([[(0, 0)], [(0, 40)], [(1, 60)], [(1, 60)]], [(2, 3, 0)], [(3, 0, 90, 0, 0), (0, 0, 0, 0, 0), (0, 0, 0, 0, 0)], [], [(0, 90, 17, (1, 2, 0, 0, 0)), (0, 90, 18, (1, 3, 0, 0, 0)), (0, 90, 19, (1, 0, (-1), 0, 0)), (0, 90, 20, (1, 0, 1, 0, 0))], [])), [([(1, 0, 0, 0), (2, 0, 90, 17), (2, 0, 90, 19), (2, 0, 90, 20)], ([[(0, 0)], [(0, 40)], [(1, 60)], [(1, 60)], [((-2147483648), 2147483647)], [(1, 60)], [(1, 60)], [(1, 6)]], [(5, 6, 0), (5, 3, 0), (6, 5, 0), (6, 3, 0), (2, 5, 0), (2, 6, 0)], [], [(1, 4, 0, 0, 0)], [(0, 90, 17, (1, 5, 0, 0, 0)), (0, 90, 18, (1, 3, 0, 0, 0)), (0, 90, 19, (1, 6, 0, 0, 0)), (0, 90, 20, (1, 7, 0, 0, 0))], [])), ([(1, 0, 0, 0), (2, 0, 90, 17)], ([[(0, 0)], [(0, 40)], [(1, 60)], [(1, 60)], [((-2147483648), 2147483647)], [(1, 60)]], [(5, 3, 0), (2, 5, 0)], [], [(1, 4, 0, 0, 0)], [(0, 90, 17, (1, 5, 0, 0, 0)), (0, 90, 18, (1, 3, 0, 0, 0)), (0, 90, 19, (1, 0, (-1), 0, 0)), (0, 90, 20, (1, 0, 1, 0, 0))], []))], [(90, 90, 1, 17), (90, 90, 1, 19), (90, 90, 1, 20)])
def zpA528 : zAnn := [(5, ([(0, 1, 0, 0), (2, 0, 90, 17), (2, 0, 90, 19), (2, 0, 90, 20)], ([[(0, 0)], [(0, 40)], [(1, 60)], [(1, 60)], [((-2147483648), 2147483647)], [(1, 60)], [(1, 60)], [(1, 6)]], [(5, 6, 0), (5, 3, 0), (6, 5, 0), (6, 3, 0), (2, 5, 0), (2, 6, 0), (2, 3, 0)], [(3, 0, 90, 0, 0), (1, 4, 0, 0, 0), (0, 0, 0, 0, 0)], [], [(0, 90, 17, (1, 5, 0, 0, 0)), (0, 90, 18, (1, 3, 0, 0, 0)), (0, 90, 19, (1, 6, 0, 0, 0)), (0, 90, 20, (1, 7, 0, 0, 0))], [])), [(2, 0, 0)]), (5, ([(0, 1, 0, 0), (2, 0, 90, 17)], ([[(0, 0)], [(0, 40)], [(1, 60)], [(1, 60)], [((-2147483648), 2147483647)], [(1, 60)]], [(5, 3, 0), (2, 5, 0), (2, 3, 0)], [(3, 0, 90, 0, 0), (1, 4, 0, 0, 0), (0, 0, 0, 0, 0)], [], [(0, 90, 17, (1, 5, 0, 0, 0)), (0, 90, 18, (1, 3, 0, 0, 0)), (0, 90, 19, (1, 0, (-1), 0, 0)), (0, 90, 20, (1, 0, 1, 0, 0))], [])), [(2, 0, 1), (0, 5, 60), (2, 0, 0)])]

/-- PushedInModel.either (((90, 19), -1), ((90, 20), 1)) -/
def zpC529 : zC := (146, (37, 860), ([(2, 0, 90, 17), (2, 0, 90, 18)], ([[(0, 0)], [(0, 40)], [(1, 60)], [(1, 60)]], [(2, 3, 0)], [(3, 0, 90, 0, 0), (0, 0, 0, 0, 0), (0, 0, 0, 0, 0)], [], [(0, 90, 17, (1, 2, 0, 0, 0)), (0, 90, 18, (1, 3, 0, 0, 0)), (0, 90, 19, (1, 0, (-1), 0, 0)), (0, 90, 20, (1, 0, 1, 0, 0))], [])), [([(1, 0, 0, 0), (2, 0, 90, 17), (2, 0, 90, 19), (2, 0, 90, 20)], ([[(0, 0)], [(0, 40)], [(1, 60)], [(1, 60)], [((-2147483648), 2147483647)], [(1, 60)], [(1, 60)], [(1, 6)]], [(5, 6, 0), (5, 3, 0), (6, 5, 0), (6, 3, 0), (2, 5, 0), (2, 6, 0)], [], [(1, 4, 0, 0, 0)], [(0, 90, 17, (1, 5, 0, 0, 0)), (0, 90, 18, (1, 3, 0, 0, 0)), (0, 90, 19, (1, 6, 0, 0, 0)), (0, 90, 20, (1, 7, 0, 0, 0))], [])), ([(1, 0, 0, 0), (2, 0, 90, 17)], ([[(0, 0)], [(0, 40)], [(1, 60)], [(1, 60)], [((-2147483648), 2147483647)], [(1, 60)]], [(5, 3, 0), (2, 5, 0)], [], [(1, 4, 0, 0, 0)], [(0, 90, 17, (1, 5, 0, 0, 0)), (0, 90, 18, (1, 3, 0, 0, 0)), (0, 90, 19, (1, 0, (-1), 0, 0)), (0, 90, 20, (1, 0, 1, 0, 0))], []))], [(90, 90, 1, 17), (90, 90, 1, 19), (90, 90, 1, 20)])
def zpA529 : zAnn := [(5, ([(0, 1, 0, 0), (2, 0, 90, 17), (2, 0, 90, 19), (2, 0, 90, 20)], ([[(0, 0)], [(0, 40)], [(1, 60)], [(1, 60)], [((-2147483648), 2147483647)], [(1, 60)], [(1, 60)], [(1, 6)]], [(5, 6, 0), (5, 3, 0), (6, 5, 0), (6, 3, 0), (2, 5, 0), (2, 6, 0), (2, 3, 0)], [(3, 0, 90, 0, 0), (1, 4, 0, 0, 0), (0, 0, 0, 0, 0)], [], [(0, 90, 17, (1, 5, 0, 0, 0)), (0, 90, 18, (1, 3, 0, 0, 0)), (0, 90, 19, (1, 6, 0, 0, 0)), (0, 90, 20, (1, 7, 0, 0, 0))], [])), [(2, 0, 0)]), (5, ([(0, 1, 0, 0), (2, 0, 90, 17)], ([[(0, 0)], [(0, 40)], [(1, 60)], [(1, 60)], [((-2147483648), 2147483647)], [(1, 60)]], [(5, 3, 0), (2, 5, 0), (2, 3, 0)], [(3, 0, 90, 0, 0), (1, 4, 0, 0, 0), (0, 0, 0, 0, 0)], [], [(0, 90, 17, (1, 5, 0, 0, 0)), (0, 90, 18, (1, 3, 0, 0, 0)), (0, 90, 19, (1, 0, (-1), 0, 0)), (0, 90, 20, (1, 0, 1, 0, 0))], [])), [(2, 0, 1), (0, 5, 60), (2, 0, 0)])]

/-- PushedInModel.one (((90, 19), -1), ((90, 20), 0)) -/
def zpC530 : zC := (175, (38, 882), ([(2, 0, 90, 17), (2, 0, 90, 18)], ([[(0, 0)], [(0, 40)], [(0, 60)], [(0, 60)]], [], [(3, 0, 90, 0, 0), (0, 0, 0, 0, 0), (0, 0, 0, 0, 0), (0, 0, 0, 0, 0), (0, 0, 0, 0, 0)], [], [(0, 90, 17, (1, 2, 0, 0, 0)), (0, 90, 18, (1, 3, 0, 0, 0)), (0, 90, 19, (1, 0, (-1), 0, 0)), (0, 90, 20, (1, 0, 0, 0, 0))], [])), [([(1, 0, 0, 0), (2, 0, 90, 17), (2, 0, 90, 19), (2, 0, 90, 20)], ([[(0, 0)], [(0, 40)], [(0, 60)], [(0, 60)], [((-2147483648), 2147483647)], [(0, 60)], [(0, 60)], [(0, 6)]], [(5, 6, 0), (6, 5, 0), (2, 5, 0), (2, 6, 0)], [], [(1, 4, 0, 0, 0)], [(0, 90, 17, (1, 5, 0, 0, 0)), (0, 90, 18, (1, 3, 0, 0, 0)), (0, 90, 19, (1, 6, 0, 0, 0)), (0, 90, 20, (1, 7, 0, 0, 0))], [])), ([(1, 0, 0, 0), (2, 0, 90, 17)], ([[(0, 0)], [(0, 40)], [(0, 60)], [(0, 60)], [((-2147483648), 2147483647)], [(0, 60)]], [(2, 5, 0)], [], [(1, 4, 0, 0, 0)], [(0, 90, 17, (1, 5, 0, 0, 0)), (0, 90, 18, (1, 3, 0, 0, 0)), (0, 90, 19, (1, 0, (-1), 0, 0)), (0, 90, 20, (1, 0, 0, 0, 0))], []))], [(90, 90, 1, 17), (90, 90, 1, 19), (90, 90, 1, 20)])
def zpA530h0 : Nat × zTm × zRk := (176, ([(0, 1, 0, 0), (0, 3, 0, 0), (0, 4, 0, 0), (2, 0, 90, 17)], ([[(0, 0)], [(0, 40)], [(0, 60)], [(0, 60)], [(0, 96), (99, 107), (111, 255)], [((-2147483648), 2147483647)], [(0, 4)], [(0, 60)]], [(6, 7, 0), (2, 7, 0)], [(3, 0, 90, 0, 0), (1, 4, 0, 0, 0), (1, 0, (-1), 0, 0), (1, 5, 0, 0, 0), (1, 6, 0, 0, 0)], [], [(0, 90, 17, (1, 7, 0, 0, 0)), (0, 90, 18, (1, 3, 0, 0, 0)), (0, 90, 19, (1, 0, (-1), 0, 0)), (0, 90, 20, (1, 0, 0, 0, 0))], [])), [(2, 0, 0), (0, 6, 4), (2, 0, 0)])
def zpA530 : zAnn := [zpA530h0]

/-- PushedInModel.product (((90, 19), -1), ((90, 20), 0)) -/
def zpC531 : zC := (181, (39, 906), ([(2, 0, 90, 17), (2, 0, 90, 18)], ([[(0, 0)], [(0, 40)], [(0, 60)], [(0, 60)]], [], [(3, 0, 90, 0, 0), (0, 0, 0, 0, 0), (0, 0, 0, 0, 0), (0, 0, 0, 0, 0)], [], [(0, 90, 17, (1, 2, 0, 0, 0)), (0, 90, 18, (1, 3, 0, 0, 0)), (0, 90, 19, (1, 0, (-1), 0, 0)), (0, 90, 20, (1, 0, 0, 0, 0))], [])), [([(1, 0, 0, 0), (2, 0, 90, 17), (2, 0, 90, 19), (2, 0, 90, 20)], ([[(0, 0)], [(0, 40)], [(0, 60)], [(0, 60)], [((-2147483648), 2147483647)], [(0, 60)], [(0, 60)], [(0, 6)]], [(5, 6, 0), (6, 5, 0), (2, 5, 0), (2, 6, 0)], [], [(1, 4, 0, 0, 0)], [(0, 90, 17, (1, 5, 0, 0, 0)), (0, 90, 18, (1, 3, 0, 0, 0)), (0, 90, 19, (1, 6, 0, 0, 0)), (0, 90, 20, (1, 7, 0, 0, 0))], [])), ([(1, 0, 0, 0), (2, 0, 90, 17)], ([[(0, 0)], [(0, 40)], [(0, 60)], [(0, 60)], [((-2147483648), 2147483647)], [(0, 60)]], [(2, 5, 0)], [], [(1, 4, 0, 0, 0)], [(0, 90, 17, (1, 5, 0, 0, 0)), (0, 90, 18, (1, 3, 0, 0, 0)), (0, 90, 19, (1, 0, (-1), 0, 0)), (0, 90, 20, (1, 0, 0, 0, 0))], []))], [(90, 90, 1, 17), (90, 90, 1, 19), (90, 90, 1, 20)])
def zpA531 : zAnn := [(35, ([(0, 1, 0, 0), (0, 2, 0, 0), (2, 0, 90, 17)], ([[(0, 0)], [(0, 40)], [(0, 60)], [(1, 60)], [((-2147483648), 2147483647)], [(37, 37), (42, 42), (47, 47)], [(0, 59)]], [(6, 3, (-1)), (2, 6, 0)], [(3, 0, 90, 0, 0), (1, 4, 0, 0, 0), (1, 5, 0, 0, 0), (0, 0, 0, 0, 0)], [], [(0, 90, 17, (1, 6, 0, 0, 0)), (0, 90, 18, (1, 3, 0, 0, 0)), (0, 90, 19, (1, 0, (-1), 0, 0)), (0, 90, 20, (1, 0, 0, 0, 0))], [])), [(2, 0, 0), (0, 6, 59), (2, 0, 0)])]

/-- PushedInModel.sums (((90, 19), -1), ((90, 20), 0)) -/
def zpC532 : zC := (192, (40, 929), ([(2, 0, 90, 17), (2, 0, 90, 18)], ([[(0, 0)], [(0, 40)], [(0, 60)], [(0, 60)]], [], [(3, 0, 90, 0, 0), (0, 0, 0, 0, 0), (0, 0, 0, 0, 0), (0, 0, 0, 0, 0)], [], [(0, 90, 17, (1, 2, 0, 0, 0)), (0, 90, 18, (1, 3, 0, 0, 0)), (0, 90, 19, (1, 0, (-1), 0, 0)), (0, 90, 20, (1, 0, 0, 0, 0))], [])), [([(1, 0, 0, 0), (2, 0, 90, 17), (2, 0, 90, 19), (2, 0, 90, 20)], ([[(0, 0)], [(0, 40)], [(0, 60)], [(0, 60)], [((-2147483648), 2147483647)], [(0, 60)], [(0, 60)], [(0, 6)]], [(5, 6, 0), (6, 5, 0), (2, 5, 0), (2, 6, 0)], [], [(1, 4, 0, 0, 0)], [(0, 90, 17, (1, 5, 0, 0, 0)), (0, 90, 18, (1, 3, 0, 0, 0)), (0, 90, 19, (1, 6, 0, 0, 0)), (0, 90, 20, (1, 7, 0, 0, 0))], [])), ([(1, 0, 0, 0), (2, 0, 90, 17)], ([[(0, 0)], [(0, 40)], [(0, 60)], [(0, 60)], [((-2147483648), 2147483647)], [(0, 60)]], [(2, 5, 0)], [], [(1, 4, 0, 0, 0)], [(0, 90, 17, (1, 5, 0, 0, 0)), (0, 90, 18, (1, 3, 0, 0, 0)), (0, 90, 19, (1, 0, (-1), 0, 0)), (0, 90, 20, (1, 0, 0, 0, 0))], []))], [(90, 90, 1, 17), (90, 90, 1, 19), (90, 90, 1, 20)])
def zpA532 : zAnn := [(5, ([(0, 1, 0, 0), (2, 0, 90, 17), (2, 0, 90, 19), (2, 0, 90, 20)], ([[(0, 0)], [(0, 40)], [(0, 60)], [(0, 60)], [((-2147483648), 2147483647)], [(0, 60)], [(0, 60)], [(0, 6)]], [(5, 6, 0), (6, 5, 0), (2, 5, 0), (2, 6, 0)], [(3, 0, 90, 0, 0), (1, 4, 0, 0, 0), (0, 0, 0, 0, 0), (0, 0, 0, 0, 0)], [], [(0, 90, 17, (1, 5, 0, 0, 0)), (0, 90, 18, (1, 3, 0, 0, 0)), (0, 90, 19, (1, 6, 0, 0, 0)), (0, 90, 20, (1, 7, 0, 0, 0))], [])), [(2, 0, 0)]), (5, ([(0, 1, 0, 0), (2, 0, 90, 17)], ([[(0, 0)], [(0, 40)], [(0, 60)], [(0, 60)], [((-2147483648), 2147483647)], [(0, 60)]], [(2, 5, 0)], [(3, 0, 90, 0, 0), (1, 4, 0, 0, 0), (0, 0, 0, 0, 0), (0, 0, 0, 0, 0)], [], [(0, 90, 17, (1, 5, 0, 0, 0)), (0, 90, 18, (1, 3, 0, 0, 0)), (0, 90, 19, (1, 0, (-1), 0, 0)), (0, 90, 20, (1, 0, 0, 0, 0))], [])), [(2, 0, 1), (0, 5, 60), (2, 0, 0)])]

/-- PushedInModel.compared (((90, 19), -1), ((90, 20), 0)) -/
def zpC533 : zC := (141, (41, 952), ([(2, 0, 90, 17), (2, 0, 90, 18)], ([[(0, 0)], [(0, 40)], [(0, 60)], [(0, 60)]], [], [(3, 0, 90, 0, 0), (0, 0, 0, 0, 0), (0, 0, 0, 0, 0), (0, 0, 0, 0, 0)], [], [(0, 90, 17, (1, 2, 0, 0, 0)), (0, 90, 18, (1, 3, 0, 0, 0)), (0, 90, 19, (1, 0, (-1), 0, 0)), (0, 90, 20, (1, 0, 0, 0, 0))], [])), [([(1, 0, 0, 0), (2, 0, 90, 17), (2, 0, 90, 19), (2, 0, 90, 20)], ([[(0, 0)], [(0, 40)], [(0, 60)], [(0, 60)], [((-2147483648), 2147483647)], [(0, 60)], [(0, 60)], [(0, 6)]], [(5, 6, 0), (6, 5, 0), (2, 5, 0), (2, 6, 0)], [], [(1, 4, 0, 0, 0)], [(0, 90, 17, (1, 5, 0, 0, 0)), (0, 90, 18, (1, 3, 0, 0, 0)), (0, 90, 19, (1, 6, 0, 0, 0)), (0, 90, 20, (1, 7, 0, 0, 0))], [])), ([(1, 0, 0, 0), (2, 0, 90, 17)], ([[(0, 0)], [(0, 40)], [(0, 60)], [(0, 60)], [((-2147483648), 2147483647)], [(0, 60)]], [(2, 5, 0)], [], [(1, 4, 0, 0, 0)], [(0, 90, 17, (1, 5, 0, 0, 0)), (0, 90, 18, (1, 3, 0, 0, 0)), (0, 90, 19, (1, 0, (-1), 0, 0)), (0, 90, 20, (1, 0, 0, 0, 0))], []))], [(90, 90, 1, 17), (90, 90, 1, 19), (90, 90, 1, 20)])
def zpA533 : zAnn := []

/-- PushedInModel.both (((90, 19), -1), ((90, 20), 0)) -/
def zpC534 : zC := (132, (42, 975), ([(2, 0, 90, 17), (2, 0, 90, 18)], ([[(0, 0)], [(0, 40)], [(0, 60)], [(0, 60)]], [], [(3, 0, 90, 0, 0), (0, 0, 0, 0, 0), (0, 0, 0, 0, 0)], [], [(0, 90, 17, (1, 2, 0, 0, 0)), (0, 90, 18, (1, 3, 0, 0, 0)), (0, 90, 19, (1, 0, (-1), 0, 0)), (0, 90, 20, (1, 0, 0, 0, 0))], [])), [([(1, 0, 0, 0), (2, 0, 90, 17), (2, 0, 90, 19), (2, 0, 90, 20)], ([[(0, 0)], [(0, 40)], [(0, 60)], [(0, 60)], [((-2147483648), 2147483647)], [(0, 60)], [(0, 60)], [(0, 6)]], [(5, 6, 0), (6, 5, 0), (2, 5, 0), (2, 6, 0)], [], [(1, 4, 0, 0, 0)], [(0, 90, 17, (1, 5, 0, 0, 0)), (0, 90, 18, (1, 3, 0, 0, 0)), (0, 90, 19, (1, 6, 0, 0, 0)), (0, 90, 20, (1, 7, 0, 0, 0))], [])), ([(1, 0, 0, 0), (2, 0, 90, 17)], ([[(0, 0)], [(0, 40)], [(0, 60)], [(0, 60)], [((-2147483648), 2147483647)], [(0, 60)]], [(2, 5, 0)], [], [(1, 4, 0, 0, 0)], [(0, 90, 17, (1, 5, 0, 0, 0)), (0, 90, 18, (1, 3, 0, 0, 0)), (0, 90, 19, (1, 0, (-1), 0, 0)), (0, 90, 20, (1, 0, 0, 0, 0))], []))], [(90, 90, 1, 17), (90, 90, 1, 19), (90, 90, 1, 20)])
def zpA534 : zAnn := [(5, ([(0, 1, 0, 0), (2, 0, 90, 17), (2, 0, 90, 19), (2, 0, 90, 20)], ([[(0, 0)], [(0, 40)], [(0, 60)], [(0, 60)], [((-2147483648), 2147483647)], [(0, 60)], [(0, 60)], [(0, 6)]], [(5, 6, 0), (6, 5, 0), (2, 5, 0), (2, 6, 0)], [(3, 0, 90, 0, 0), (1, 4, 0, 0, 0), (0, 0, 0, 0, 0)], [], [(0, 90, 17, (1, 5, 0, 0, 0)), (0, 90, 18, (1, 3, 0, 0, 0)), (0, 90, 19, (1, 6, 0, 0, 0)), (0, 90, 20, (1, 7, 0, 0, 0))], [])), [(2, 0, 0)]), (5, ([(0, 1, 0, 0), (2, 0, 90, 17)], ([[(0, 0)], [(0, 40)], [(0, 60)], [(0, 60)], [((-2147483648), 2147483647)], [(0, 60)]], [(2, 5, 0)], [(3, 0, 90, 0, 0), (1, 4, 0, 0, 0), (0, 0, 0, 0, 0)], [], [(0, 90, 17, (1, 5, 0, 0, 0)), (0, 90, 18, (1, 3, 0, 0, 0)), (0, 90, 19, (1, 0, (-1), 0, 0)), (0, 90, 20, (1, 0, 0, 0, 0))], [])), [(2, 0, 1), (0, 5, 60), (2, 0, 0)])]

/-- PushedInModel.either (((90, 19), -1), ((90, 20), 0)) -/
def zpC535 : zC := (146, (43, 997), ([(2, 0, 90, 17), (2, 0, 90, 18)], ([[(0, 0)], [(0, 40)], [(0, 60)], [(0, 60)]], [], [(3, 0, 90, 0, 0), (0, 0, 0, 0, 0), (0, 0, 0, 0, 0)], [], [(0, 90, 17, (1, 2, 0, 0, 0)), (0, 90, 18, (1, 3, 0, 0, 0)), (0, 90, 19, (1, 0, (-1), 0, 0)), (0, 90, 20, (1, 0, 0, 0, 0))], [])), [([(1, 0, 0, 0), (2, 0, 90, 17), (2, 0, 90, 19), (2, 0, 90, 20)], ([[(0, 0)], [(0, 40)], [(0, 60)], [(0, 60)], [((-2147483648), 2147483647)], [(0, 60)], [(0, 60)], [(0, 6)]], [(5, 6, 0), (6, 5, 0), (2, 5, 0), (2, 6, 0)], [], [(1, 4, 0, 0, 0)], [(0, 90, 17, (1, 5, 0, 0, 0)), (0, 90, 18, (1, 3, 0, 0, 0)), (0, 90, 19, (1, 6, 0, 0, 0)), (0, 90, 20, (1, 7, 0, 0, 0))], [])), ([(1, 0, 0, 0), (2, 0, 90, 17)], ([[(0, 0)], [(0, 40)], [(0, 60)], [(0, 60)], [((-2147483648), 2147483647)], [(0, 60)]], [(2, 5, 0)], [], [(1, 4, 0, 0, 0)], [(0, 90, 17, (1, 5, 0, 0, 0)), (0, 90, 18, (1, 3, 0, 0, 0)), (0, 90, 19, (1, 0, (-1), 0, 0)), (0, 90, 20, (1, 0, 0, 0, 0))], []))], [(90, 90, 1, 17), (90, 90, 1, 19), (90, 90, 1, 20)])
def zpA535 : zAnn := [(5, ([(0, 1, 0, 0), (2, 0, 90, 17), (2, 0, 90, 19), (2, 0, 90, 20)], ([[(0, 0)], [(0, 40)], [(0, 60)], [(0, 60)], [((-2147483648), 2147483647)], [(0, 60)], [(0, 60)], [(0, 6)]], [(5, 6, 0), (6, 5, 0), (2, 5, 0), (2, 6, 0)], [(3, 0, 90, 0, 0), (1, 4, 0, 0, 0), (0, 0, 0, 0, 0)], [], [(0, 90, 17, (1, 5, 0, 0, 0)), (0, 90, 18, (1, 3, 0, 0, 0)), (0, 90, 19, (1, 6, 0, 0, 0)), (0, 90, 20, (1, 7, 0, 0, 0))], [])), [(2, 0, 0)]), (5, ([(0, 1, 0, 0), (2, 0, 90, 17)], ([[(0, 0)], [(0, 40)], [(0, 60)], [(0, 60)], [((-2147483648), 2147483647)], [(0, 60)]], [(2, 5, 0)], [(3, 0, 90, 0, 0), (1, 4, 0, 0, 0), (0, 0, 0, 0, 0)], [], [(0, 90, 17, (1, 5, 0, 0, 0)), (0, 90, 18, (1, 3, 0, 0, 0)), (0, 90, 19, (1, 0, (-1), 0, 0)), (0, 90, 20, (1, 0, 0, 0, 0))], [])), [(2, 0, 1), (0, 5, 60), (2, 0, 0)])]

/-- PushedInModel.takes ((1, 59), ((90, 19), -1)) -/
def zpC536 : zC := (194, (2, 60), ([(2, 0, 90, 17), (2, 0, 90, 18)], ([[(0, 0)], [(0, 40)], [(0, 60)], [(0, 60)]], [], [(3, 0, 90, 0, 0), (1, 0, 59, 0, 0)], [], [(0, 90, 17, (1, 2, 0, 0, 0)), (0, 90, 18, (1, 3, 0, 0, 0)), (0, 90, 19, (1, 0, (-1), 0, 0))], [])), [([], ([[(0, 0)], [(0, 40)], [(0, 60)], [(0, 60)]], [], [], [(1, 0, 0, 0, 0)], [(0, 90, 17, (1, 2, 0, 0, 0)), (0, 90, 18, (1, 3, 0, 0, 0)), (0, 90, 19, (1, 0, (-1), 0, 0))], [])), ([], ([[(0, 0)], [(0, 40)], [(0, 59)], [(1, 60)]], [(2, 3, (-1))], [], [(1, 0, 1, 0, 0)], [(0, 90, 17, (1, 2, 1, 0, 0)), (0, 90, 18, (1, 3, 0, 0, 0)), (0, 90, 19, (1, 0, (-1), 0, 0))], []))], [(90, 90, 1, 17)])
def zpA536 : zAnn := []

/-- PushedInModel.takes ((1, 59),) -/
def zpC537 : zC := (194, (1, 40), ([(2, 0, 90, 17), (2, 0, 90, 18), (2, 0, 90, 19)], ([[(0, 0)], [(0, 40)], [(0, 60)], [(0, 60)], [(0, 60)]], [(2, 4, 0), (4, 2, 0)], [(3, 0, 90, 0, 0), (1, 0, 59, 0, 0)], [], [(0, 90, 17, (1, 2, 0, 0, 0)), (0, 90, 18, (1, 3, 0, 0, 0)), (0, 90, 19, (1, 4, 0, 0, 0))], [])), [([], ([[(0, 0)], [(0, 40)], [(0, 60)], [(0, 60)], [(0, 60)]], [], [], [(1, 0, 0, 0, 0)], [(0, 90, 17, (1, 2, 0, 0, 0)), (0, 90, 18, (1, 3, 0, 0, 0)), (0, 90, 19, (1, 4, 0, 0, 0))], []))], [])
def zpA537 : zAnn := []

/-- PushedInModel.takes ((1, 63), ((90, 19), -1)) -/
def zpC538 : zC := (194, (2, 60), ([(2, 0, 90, 17), (2, 0, 90, 18)], ([[(0, 0)], [(0, 40)], [(0, 60)], [(0, 60)]], [], [(3, 0, 90, 0, 0), (1, 0, 63, 0, 0)], [], [(0, 90, 17, (1, 2, 0, 0, 0)), (0, 90, 18, (1, 3, 0, 0, 0)), (0, 90, 19, (1, 0, (-1), 0, 0))], [])), [([], ([[(0, 0)], [(0, 40)], [(0, 60)], [(0, 60)]], [], [], [(1, 0, 0, 0, 0)], [(0, 90, 17, (1, 2, 0, 0, 0)), (0, 90, 18, (1, 3, 0, 0, 0)), (0, 90, 19, (1, 0, (-1), 0, 0))], [])), ([], ([[(0, 0)], [(0, 40)], [(0, 59)], [(1, 60)]], [(2, 3, (-1))], [], [(1, 0, 1, 0, 0)], [(0, 90, 17, (1, 2, 1, 0, 0)), (0, 90, 18, (1, 3, 0, 0, 0)), (0, 90, 19, (1, 0, (-1), 0, 0))], []))], [(90, 90, 1, 17)])
def zpA538 : zAnn := []

/-- PushedInModel.takes ((1, 63),) -/
def zpC539 : zC := (194, (1, 40), ([(2, 0, 90, 17), (2, 0, 90, 18), (2, 0, 90, 19)], ([[(0, 0)], [(0, 40)], [(0, 60)], [(0, 60)], [(0, 60)]], [(2, 4, 0), (4, 2, 0)], [(3, 0, 90, 0, 0), (1, 0, 63, 0, 0)], [], [(0, 90, 17, (1, 2, 0, 0, 0)), (0, 90, 18, (1, 3, 0, 0, 0)), (0, 90, 19, (1, 4, 0, 0, 0))], [])), [([], ([[(0, 0)], [(0, 40)], [(0, 60)], [(0, 60)], [(0, 60)]], [], [], [(1, 0, 0, 0, 0)], [(0, 90, 17, (1, 2, 0, 0, 0)), (0, 90, 18, (1, 3, 0, 0, 0)), (0, 90, 19, (1, 4, 0, 0, 0))], []))], [])
def zpA539 : zAnn := []

/-- PushedInModel.workOut () -/
def zpC540 : zC := (205, (44, 1019), ([(0, 1, 0, 0), (0, 2, 0, 0), (2, 0, 90, 17), (2, 0, 90, 18), (2, 0, 90, 19), (2, 0, 90, 20)], ([[(0, 0)], [(0, 40)], [((-1), 0)], [(0, 60)], [(0, 60)], [(0, 60)], [((-1), 60)], [(0, 6)]], [], [(3, 0, 90, 0, 0), (1, 2, 0, 0, 0), (1, 3, 0, 0, 0), (0, 0, 0, 0, 0), (0, 0, 0, 0, 0), (0, 0, 0, 0, 0), (0, 0, 0, 0, 0), (0, 0, 0, 0, 0)], [], [(0, 90, 17, (1, 4, 0, 0, 0)), (0, 90, 18, (1, 5, 0, 0, 0)), (0, 90, 19, (1, 6, 0, 0, 0)), (0, 90, 20, (1, 7, 0, 0, 0))], [])), [([(1, 0, 0, 0), (2, 0, 90, 17), (2, 0, 90, 19), (2, 0, 90, 20)], ([[(0, 0)], [(0, 40)], [((-1), 0)], [(0, 60)], [(0, 60)], [(0, 60)], [((-1), 60)], [(0, 6)], [((-2147483648), 2147483647)], [(0, 60)], [(0, 60)], [(0, 6)]], [(9, 10, 0), (10, 9, 0)], [], [(1, 8, 0, 0, 0)], [(0, 90, 17, (1, 9, 0, 0, 0)), (0, 90, 18, (1, 3, 0, 0, 0)), (0, 90, 19, (1, 10, 0, 0, 0)), (0, 90, 20, (1, 11, 0, 0, 0))], [])), ([(1, 0, 0, 0), (2, 0, 90, 17)], ([[(0, 0)], [(0, 40)], [((-1), 0)], [(0, 60)], [(0, 60)], [(0, 60)], [((-1), 60)], [(0, 6)], [((-2147483648), 2147483647)], [(0, 60)]], [(3, 9, 0)], [], [(1, 8, 0, 0, 0)], [(0, 90, 17, (1, 9, 0, 0, 0)), (0, 90, 18, (1, 3, 0, 0, 0)), (0, 90, 19, (1, 0, (-1), 0, 0)), (0, 90, 20, (1, 0, 0, 0, 0))], [])), ([(2, 0, 90, 17), (2, 0, 90, 19)], ([[(0, 0)], [(0, 40)], [((-1), 0)], [(1, 60)], [(0, 60)], [(0, 60)], [((-1), 60)], [(0, 6)], [(0, 59)], [(0, 59)]], [(8, 9, 0), (8, 3, (-1)), (9, 8, 0), (9, 3, (-1))], [], [(1, 0, 0, 0, 0)], [(0, 90, 17, (1, 8, 0, 0, 0)), (0, 90, 18, (1, 3, 0, 0, 0)), (0, 90, 19, (1, 9, 0, 0, 0)), (0, 90, 20, (1, 0, 0, 0, 0))], []))], [(90, 90, 1, 16), (90, 90, 1, 17), (90, 90, 1, 18), (90, 90, 1, 19), (90, 90, 1, 20)])
def zpA540 : zAnn := [(33, ([(0, 3, 0, 0), (0, 4, 0, 0), (0, 6, 0, 0), (0, 7, 0, 0), (2, 0, 90, 17), (2, 0, 90, 19), (2, 0, 90, 20)], ([[(0, 0)], [(0, 40)], [((-1), 0)], [(0, 60)], [(0, 60)], [(0, 60)], [((-1), 60)], [(0, 6)], [(0, 1)], [((-2147483648), 2147483647)], [((-2147483648), 2147483647)], [(0, 1)], [(0, 60)], [(0, 60)], [(0, 6)]], [(12, 13, 0), (13, 12, 0)], [(3, 0, 90, 0, 0), (1, 2, 0, 0, 0), (1, 3, 0, 0, 0), (1, 8, 0, 0, 0), (1, 9, 0, 0, 0), (1, 0, 0, 0, 0), (1, 10, 0, 0, 0), (1, 11, 0, 0, 0)], [], [(0, 90, 17, (1, 12, 0, 0, 0)), (0, 90, 18, (1, 3, 0, 0, 0)), (0, 90, 19, (1, 13, 0, 0, 0)), (0, 90, 20, (1, 14, 0, 0, 0))], [])), [(2, 0, 0)]), (33, ([(0, 3, 0, 0), (0, 4, 0, 0), (0, 5, 0, 0), (2, 0, 90, 17)], ([[(0, 0)], [(0, 40)], [((-1), 0)], [(0, 60)], [(0, 60)], [(0, 60)], [((-1), 60)], [(0, 6)], [(0, 1)], [((-2147483648), 2147483647)], [(0, 1)], [(0, 60)]], [], [(3, 0, 90, 0, 0), (1, 2, 0, 0, 0), (1, 3, 0, 0, 0), (1, 8, 0, 0, 0), (1, 9, 0, 0, 0), (1, 10, 0, 0, 0), (0, 0, 0, 0, 0), (0, 0, 0, 0, 0)], [], [(0, 90, 17, (1, 11, 0, 0, 0)), (0, 90, 18, (1, 3, 0, 0, 0)), (0, 90, 19, (1, 0, (-1), 0, 0)), (0, 90, 20, (1, 0, 0, 0, 0))], [])), [(2, 0, 1), (1, 10, 0), (2, 0, 0), (0, 11, 60)])]

/-- PushedInModel.text () -/
def zpC541 : zC := (196, (45, 1046), ([], ([[(0, 0)], [(0, 40)]], [], [(3, 0, 90, 0, 0), (0, 0, 0, 0, 0), (0, 0, 0, 0, 0), (0, 0, 0, 0, 0)], [], [], [])), [([(1, 0, 0, 0)], ([[(0, 0)], [(0, 40)], [((-160), (-100))]], [], [], [(1, 2, 0, 0, 0)], [], [])), ([], ([[(0, 0)], [(0, 40)]], [], [], [(1, 0, 1, 0, 0)], [], []))], [(90, 90, 1, 13), (90, 90, 1, 15), (90, 90, 1, 16), (90, 90, 1, 17), (90, 90, 1, 18), (90, 90, 1, 19), (90, 90, 1, 20), (99, 99, 0, 0)])
def zpA541 : zAnn := [(37, ([(0, 1, 0, 0), (0, 2, 0, 0), (0, 3, 0, 0)], ([[(0, 0)], [(0, 40)], [((-2147483648), 2147483647)], [(0, 60)], [(0, 60)]], [(4, 3, 0)], [(3, 0, 90, 0, 0), (1, 2, 0, 0, 0), (1, 3, 0, 0, 0), (1, 4, 0, 0, 0)], [], [], [])), [(2, 0, 0), (0, 4, 60), (2, 0, 0)])]

/-- PushedInModel.isRule () -/
def zpC542 : zC := (161, (2, 65), ([(0, 1, 0, 0)], ([[(0, 0)], [(0, 40)], [((-2147483648), 2147483647)]], [], [(3, 0, 90, 0, 0), (1, 2, 0, 0, 0)], [], [], [])), [([], ([[(0, 0)], [(0, 40)], [((-2147483648), 2147483647)]], [], [], [(1, 0, 0, 0, 0)], [], [])), ([], ([[(0, 0)], [(0, 40)], [(0, 19)]], [], [], [(1, 0, 1, 0, 0)], [], []))], [])
def zpA542 : zAnn := []

/-- PushedInModel.textScore () -/
def zpC543 : zC := (197, (45, 1046), ([(0, 1, 0, 0), (0, 2, 0, 0), (0, 3, 0, 0), (0, 4, 0, 0)], ([[(0, 0)], [(0, 40)], [(0, 19)], [(0, 39)], [((-2147483648), 2147483647)], [((-2147483648), 2147483647)]], [], [(3, 0, 90, 0, 0), (1, 2, 0, 0, 0), (1, 3, 0, 0, 0), (1, 4, 0, 0, 0), (1, 5, 0, 0, 0)], [], [], [])), [([(1, 0, 0, 0)], ([[(0, 0)], [(0, 40)], [(0, 19)], [(0, 39)], [((-2147483648), 2147483647)], [((-2147483648), 2147483647)], [((-2147483648), 2147483647)]], [], [], [(1, 6, 0, 0, 0)], [], [])), ([], ([[(0, 0)], [(0, 40)], [(0, 19)], [(0, 39)], [((-2147483648), 2147483647)], [((-2147483648), 2147483647)]], [], [], [(1, 0, 0, 0, 0)], [], []))], [(90, 90, 1, 16), (90, 90, 1, 17), (90, 90, 1, 18), (90, 90, 1, 19), (90, 90, 1, 20), (100, 100, 0, 0)])
def zpA543 : zAnn := []

/-- PushedInModel.score () -/
def zpC544 : zC := (187, (46, 1070), ([(0, 1, 0, 0), (0, 2, 0, 0), (0, 3, 0, 0), (0, 4, 0, 0)], ([[(0, 0)], [(0, 40)], [(0, 19)], [(0, 39)], [((-2147483648), 2147483647)], [((-2147483648), 2147483647)]], [], [(3, 0, 90, 0, 0), (1, 2, 0, 0, 0), (1, 3, 0, 0, 0), (1, 4, 0, 0, 0), (1, 5, 0, 0, 0), (0, 0, 0, 0, 0)], [], [], [])), [([(1, 0, 0, 0)], ([[(0, 0)], [(0, 40)], [(0, 19)], [(0, 39)], [((-2147483648), 2147483647)], [((-2147483648), 2147483647)], [((-2147483648), 2147483647)]], [], [], [(1, 6, 0, 0, 0)], [], [])), ([], ([[(0, 0)], [(0, 40)], [(0, 19)], [(0, 39)], [((-2147483648), 2147483647)], [((-2147483648), 2147483647)]], [], [], [(1, 0, 0, 0, 0)], [], [])), ([], ([[(0, 0)], [(0, 40)], [(0, 19)], [(0, 39)], [((-2147483648), 2147483647)], [((-2147483648), 2147483647)]], [], [], [(1, 0, 1, 0, 0)], [], [])), ([], ([[(0, 0)], [(0, 40)], [(0, 19)], [(0, 39)], [((-2147483648), 2147483647)], [((-2147483648), 2147483647)]], [], [], [(1, 0, 2, 0, 0)], [], []))], [(90, 90, 1, 16), (90, 90, 1, 17), (90, 90, 1, 18), (90, 90, 1, 19), (90, 90, 1, 20), (100, 100, 0, 0)])
def zpA544 : zAnn := []

/-- PushedInModel.nextOf () -/
def zpC545 : zC := (172, (47, 1095), ([(0, 1, 0, 0), (0, 2, 0, 0), (0, 3, 0, 0), (0, 4, 0, 0)], ([[(0, 0)], [(0, 40)], [(0, 19)], [((-2147483648), 2147483647)], [((-2147483648), 2147483647)], [((-2147483648), 2147483647)]], [], [(3, 0, 90, 0, 0), (1, 2, 0, 0, 0), (1, 3, 0, 0, 0), (1, 4, 0, 0, 0), (1, 5, 0, 0, 0), (0, 0, 0, 0, 0), (0, 0, 0, 0, 0), (0, 0, 0, 0, 0), (0, 0, 0, 0, 0)], [], [], [])), [([(1, 0, 0, 0)], ([[(0, 0)], [(0, 40)], [(0, 19)], [((-2147483648), 2147483647)], [((-2147483648), 2147483647)], [((-2147483648), 2147483647)], [((-2), (-2)), (0, 39)]], [], [], [(1, 6, 0, 0, 0)], [], []))], [(90, 90, 1, 16), (90, 90, 1, 17), (90, 90, 1, 18), (90, 90, 1, 19), (90, 90, 1, 20), (100, 100, 0, 0)])
def zpA545h0 : Nat × zTm × zRk := (10, ([(0, 5, 0, 0), (0, 6, 0, 0), (0, 7, 0, 0)], ([[(0, 0)], [(0, 40)], [(0, 19)], [((-2147483648), 2147483647)], [((-2147483648), 2147483647)], [((-2147483648), 2147483647)], [((-2), (-2)), (0, 39)], [((-2147483648), 2147483647)], [(0, 40)]], [(6, 8, 0)], [(3, 0, 90, 0, 0), (1, 2, 0, 0, 0), (1, 3, 0, 0, 0), (1, 4, 0, 0, 0), (1, 5, 0, 0, 0), (1, 6, 0, 0, 0), (1, 7, 0, 0, 0), (1, 8, 0, 0, 0), (0, 0, 0, 0, 0)], [], [], [])), [(2, 0, 0), (0, 6, 39), (2, 0, 0), (0, 8, 40)])
def zpA545 : zAnn := [zpA545h0]

/-- PushedInModel.next () -/
def zpC546 : zC := (171, (48, 1123), ([(0, 1, 0, 0), (0, 2, 0, 0), (0, 3, 0, 0)], ([[(0, 0)], [(0, 40)], [((-2147483648), 2147483647)], [((-2147483648), 2147483647)], [((-2147483648), 2147483647)]], [], [(3, 0, 90, 0, 0), (1, 2, 0, 0, 0), (1, 3, 0, 0, 0), (1, 4, 0, 0, 0)], [], [], [])), [([(1, 0, 0, 0)], ([[(0, 0)], [(0, 40)], [(0, 19)], [(0, 2147483647)], [(0, 719)], [((-2), (-2)), (0, 39)]], [], [], [(1, 5, 0, 0, 0)], [], [])), ([], ([[(0, 0)], [(0, 40)], [((-2147483648), 2147483647)], [((-2147483648), 2147483647)], [((-2147483648), 2147483647)]], [], [], [(1, 0, (-1), 0, 0)], [], []))], [(90, 90, 1, 16), (90, 90, 1, 17), (90, 90, 1, 18), (90, 90, 1, 19), (90, 90, 1, 20), (100, 100, 0, 0), (110, 110, 0, 0), (111, 111, 0, 0)])
def zpA546 : zAnn := []

/-- PushedInModel.doesBreak () -/
def zpC547 : zC := (144, (48, 1123), ([(0, 1, 0, 0), (0, 2, 0, 0)], ([[(0, 0)], [(0, 40)], [(0, 19)], [(0, 39)]], [], [(3, 0, 90, 0, 0), (1, 2, 0, 0, 0), (1, 3, 0, 0, 0)], [], [], [])), [([], ([[(0, 0)], [(0, 40)], [(0, 19)], [(0, 39)]], [], [], [(1, 0, 0, 0, 0)], [], [])), ([], ([[(0, 0)], [(0, 40)], [(0, 19)], [(0, 39)]], [], [], [(1, 0, 1, 0, 0)], [], []))], [(90, 90, 1, 16), (90, 90, 1, 17), (90, 90, 1, 18), (90, 90, 1, 19), (90, 90, 1, 20), (100, 100, 0, 0)])
def zpA547 : zAnn := []

/-- PushedInModel.breaks () -/
def zpC548 : zC := (133, (49, 1145), ([(0, 1, 0, 0), (0, 2, 0, 0), (0, 3, 0, 0)], ([[(0, 0)], [(0, 40)], [((-2147483648), 2147483647)], [((-2147483648), 2147483647)], [((-2147483648), 2147483647)]], [], [(3, 0, 90, 0, 0), (1, 2, 0, 0, 0), (1, 3, 0, 0, 0), (1, 4, 0, 0, 0), (0, 0, 0, 0, 0), (0, 0, 0, 0, 0)], [], [], [])), [([(1, 0, 0, 0)], ([[(0, 0)], [(0, 40)], [(0, 19)], [(0, 3)], [((-1), 40)], [(0, 40)]], [], [], [(1, 5, 0, 0, 0)], [], [])), ([], ([[(0, 0)], [(0, 40)], [((-2147483648), 2147483647)], [((-2147483648), 2147483647)], [((-2147483648), 2147483647)]], [], [], [(1, 0, (-1), 0, 0)], [], []))], [(90, 90, 1, 16), (90, 90, 1, 17), (90, 90, 1, 18), (90, 90, 1, 19), (90, 90, 1, 20), (100, 100, 0, 0), (110, 110, 0, 0), (111, 111, 0, 0)])
def zpA548 : zAnn := [(32, ([(0, 4, 0, 0), (0, 5, 0, 0)], ([[(0, 0)], [(0, 40)], [(0, 19)], [(0, 3)], [((-1), 2147483647)], [(0, 40)], [(0, 40)]], [(5, 6, 0)], [(3, 0, 90, 0, 0), (1, 2, 0, 0, 0), (1, 3, 0, 0, 0), (1, 4, 0, 0, 0), (1, 5, 0, 0, 0), (1, 6, 0, 0, 0)], [], [], [])), [(2, 0, 0), (0, 5, 40), (2, 0, 0), (0, 6, 40)])]

/-- PushedInModel.kept () -/
def zpC549 : zC := (165, (49, 1145), ([(0, 1, 0, 0)], ([[(0, 0)], [(0, 40)], [((-2147483648), 2147483647)]], [], [(3, 0, 90, 0, 0), (1, 2, 0, 0, 0), (0, 0, 0, 0, 0), (0, 0, 0, 0, 0), (0, 0, 0, 0, 0)], [], [], [])), [([(1, 0, 0, 0)], ([[(0, 0)], [(0, 40)], [(0, 19)], [((-2147483648), 2147483647)]], [], [], [(1, 3, 0, 0, 0)], [], [])), ([], ([[(0, 0)], [(0, 40)], [((-2147483648), 2147483647)]], [], [], [(1, 0, (-1), 0, 0)], [], []))], [(90, 90, 1, 16), (90, 90, 1, 17), (90, 90, 1, 18), (90, 90, 1, 19), (90, 90, 1, 20), (100, 100, 0, 0), (110, 110, 0, 0), (111, 111, 0, 0)])
def zpA549 : zAnn := [(21, ([(0, 2, 0, 0), (0, 3, 0, 0), (0, 4, 0, 0)], ([[(0, 0)], [(0, 40)], [(0, 19)], [((-2147483648), 2147483647)], [((-2147483648), 2147483647)], [(0, 40)]], [], [(3, 0, 90, 0, 0), (1, 2, 0, 0, 0), (1, 3, 0, 0, 0), (1, 4, 0, 0, 0), (1, 5, 0, 0, 0)], [], [], [])), [(2, 0, 0), (0, 5, 40), (2, 0, 0)])]

/-- PushedInModel.find () -/
def zpC550 : zC := (150, (49, 1145), ([(0, 1, 0, 0)], ([[(0, 0)], [(0, 40)], [((-2147483648), 2147483647)]], [], [(3, 0, 90, 0, 0), (1, 2, 0, 0, 0), (0, 0, 0, 0, 0), (0, 0, 0, 0, 0), (0, 0, 0, 0, 0), (0, 0, 0, 0, 0), (0, 0, 0, 0, 0)], [], [], [])), [([(1, 0, 0, 0)], ([[(0, 0)], [(0, 40)], [(0, 1)], [((-2147483648), 2147483647)]], [], [], [(1, 3, 0, 0, 0)], [], [])), ([], ([[(0, 0)], [(0, 40)], [((-2147483648), (-1)), (2, 2147483647)]], [], [], [(1, 0, (-1), 0, 0)], [], [])), ([], ([[(0, 0)], [(0, 40)], [(0, 1)]], [], [], [(1, 0, (-5), 0, 0)], [], []))], [(90, 90, 1, 16), (90, 90, 1, 17), (90, 90, 1, 18), (90, 90, 1, 19), (90, 90, 1, 20), (100, 100, 0, 0), (110, 110, 0, 0), (111, 111, 0, 0)])
def zpA550 : zAnn := [(33, ([(0, 2, 0, 0), (0, 3, 0, 0), (0, 4, 0, 0)], ([[(0, 0)], [(0, 40)], [(0, 1)], [((-1), 19)], [((-2147483648), 2147483647)], [(0, 20)]], [(3, 5, 0)], [(3, 0, 90, 0, 0), (1, 2, 0, 0, 0), (1, 3, 0, 0, 0), (1, 4, 0, 0, 0), (1, 5, 0, 0, 0), (0, 0, 0, 0, 0), (0, 0, 0, 0, 0)], [], [], [])), [(2, 0, 0), (0, 5, 20), (2, 0, 1)]), (54, ([(0, 2, 0, 0), (0, 3, 0, 0), (0, 4, 0, 0), (0, 5, 0, 0), (0, 6, 0, 0)], ([[(0, 0)], [(0, 40)], [(0, 1)], [((-1), 19)], [((-2147483648), 2147483647)], [(0, 19)], [((-2147483648), 2147483647)], [(0, 40)]], [(3, 5, 0)], [(3, 0, 90, 0, 0), (1, 2, 0, 0, 0), (1, 3, 0, 0, 0), (1, 4, 0, 0, 0), (1, 5, 0, 0, 0), (1, 6, 0, 0, 0), (1, 7, 0, 0, 0)], [], [], [])), [(2, 0, 0), (0, 5, 20), (2, 0, 0), (0, 7, 40)])]

/-- PushedInModel.led () -/
def zpC551 : zC := (168, (49, 1145), ([(0, 1, 0, 0)], ([[(0, 0)], [(0, 40)], [((-2147483648), 2147483647)]], [], [(3, 0, 90, 0, 0), (1, 2, 0, 0, 0), (0, 0, 0, 0, 0), (0, 0, 0, 0, 0)], [], [], [])), [([(1, 0, 0, 0)], ([[(0, 0)], [(0, 40)], [(0, 39)], [((-2147483648), 2147483647)]], [], [], [(1, 3, 0, 0, 0)], [], [])), ([], ([[(0, 0)], [(0, 40)], [((-2147483648), 2147483647)]], [], [], [(1, 0, (-1), 0, 0)], [], []))], [(90, 90, 1, 16), (90, 90, 1, 17), (90, 90, 1, 18), (90, 90, 1, 19), (90, 90, 1, 20), (100, 100, 0, 0), (110, 110, 0, 0), (111, 111, 0, 0)])
def zpA551 : zAnn := [(18, ([(0, 2, 0, 0), (0, 3, 0, 0)], ([[(0, 0)], [(0, 40)], [(0, 39)], [((-2147483648), 2147483647)], [(0, 20)]], [], [(3, 0, 90, 0, 0), (1, 2, 0, 0, 0), (1, 3, 0, 0, 0), (1, 4, 0, 0, 0)], [], [], [])), [(2, 0, 0), (0, 4, 20), (2, 0, 0)])]

/-- PushedInModel.changed () -/
def zpC552 : zC := (137, (3, 85), ([(0, 1, 0, 0), (0, 2, 0, 0)], ([[(0, 0)], [(0, 40)], [((-2147483648), 2147483647)], [((-2147483648), 2147483647)]], [], [(3, 0, 90, 0, 0), (1, 2, 0, 0, 0), (1, 3, 0, 0, 0), (0, 0, 0, 0, 0), (0, 0, 0, 0, 0)], [], [], [])), [([(1, 0, 0, 0)], ([[(0, 0)], [(0, 40)], [(0, 3)], [((-1), 40)], [(0, 40)]], [], [], [(1, 4, 0, 0, 0)], [], [])), ([], ([[(0, 0)], [(0, 40)], [((-2147483648), 2147483647)], [((-2147483648), 2147483647)]], [], [], [(1, 0, (-1), 0, 0)], [], [])), ([], ([[(0, 0)], [(0, 40)], [(0, 3)], [((-1), 2147483647)]], [], [], [(1, 0, (-5), 0, 0)], [], []))], [])
def zpA552 : zAnn := [(29, ([(0, 3, 0, 0), (0, 4, 0, 0)], ([[(0, 0)], [(0, 40)], [(0, 3)], [((-1), 2147483647)], [(0, 40)], [(0, 40)]], [(4, 5, 0)], [(3, 0, 90, 0, 0), (1, 2, 0, 0, 0), (1, 3, 0, 0, 0), (1, 4, 0, 0, 0), (1, 5, 0, 0, 0)], [], [], [])), [(2, 0, 0), (0, 4, 40), (2, 0, 0), (0, 5, 40)])]

/-- PushedInModel.waits () -/
def zpC553 : zC := (200, (1, 40), ([(0, 1, 0, 0), (0, 2, 0, 0), (0, 3, 0, 0)], ([[(0, 0)], [(0, 40)], [(0, 214748364)], [(0, 9)], [((-2147483648), 2147483646)]], [], [(3, 0, 90, 0, 0), (1, 2, 0, 0, 0), (1, 3, 0, 0, 0), (1, 4, 0, 0, 0), (0, 0, 0, 0, 0), (0, 0, 0, 0, 0)], [], [], [])), [([], ([[(0, 0)], [(0, 40)], [(0, 214748364)], [(0, 9)], [((-2147483648), 2147483646)]], [], [], [(1, 0, 0, 0, 0)], [], [])), ([], ([[(0, 0)], [(0, 40)], [(0, 214748364)], [(0, 9)], [((-2147483648), 2147483646)]], [], [], [(1, 0, 1, 0, 0)], [], []))], [])
def zpA553 : zAnn := [(3, ([(0, 4, 0, 0)], ([[(0, 0)], [(0, 40)], [(0, 214748364)], [(0, 9)], [((-2147483648), 2147483646)], [(0, 40)]], [], [(3, 0, 90, 0, 0), (1, 2, 0, 0, 0), (1, 3, 0, 0, 0), (1, 4, 0, 0, 0), (1, 5, 0, 0, 0), (0, 0, 0, 0, 0)], [], [], [])), [(2, 0, 0), (0, 5, 40), (2, 0, 0)])]

/-- PushedInModel.idle () -/
def zpC554 : zC := (154, (5, 134), ([(0, 1, 0, 0), (0, 2, 0, 0)], ([[(0, 0)], [(0, 40)], [((-2147483648), 2147483647)], [((-2147483648), 2147483647)]], [], [(3, 0, 90, 0, 0), (1, 2, 0, 0, 0), (1, 3, 0, 0, 0), (0, 0, 0, 0, 0), (0, 0, 0, 0, 0), (0, 0, 0, 0, 0), (0, 0, 0, 0, 0), (0, 0, 0, 0, 0)], [], [], [])), [([(1, 0, 0, 0)], ([[(0, 0)], [(0, 40)], [(0, 2147483647)], [(0, 1)], [((-2147483648), 2147483647)]], [], [], [(1, 4, 0, 0, 0)], [], [])), ([], ([[(0, 0)], [(0, 40)], [((-2147483648), 2147483647)], [((-2147483648), 2147483647)]], [], [], [(1, 0, (-1), 0, 0)], [], []))], [(110, 110, 0, 0), (111, 111, 0, 0)])
def zpA554 : zAnn := [(125, ([(0, 3, 0, 0), (0, 4, 0, 0), (0, 5, 0, 0), (0, 6, 0, 0), (0, 7, 0, 0)], ([[(0, 0)], [(0, 40)], [(0, 2147483647)], [(0, 1)], [((-2147483648), 2147483647)], [((-2147483648), 2147483646)], [(0, 39)], [(0, 39)], [((-2147483648), 2147483647)]], [], [(3, 0, 90, 0, 0), (1, 2, 0, 0, 0), (1, 3, 0, 0, 0), (1, 4, 0, 0, 0), (1, 5, 0, 0, 0), (1, 6, 0, 0, 0), (1, 7, 0, 0, 0), (1, 8, 0, 0, 0)], [], [], [])), [(2, 0, 0), (0, 6, 40), (2, 0, 0), (0, 8, 2147483647)]), (49, ([(0, 3, 0, 0), (0, 4, 0, 0), (0, 5, 0, 0)], ([[(0, 0)], [(0, 40)], [(0, 2147483647)], [(0, 1)], [((-2147483648), 2147483647)], [((-2147483648), 2147483646)], [(0, 40)]], [], [(3, 0, 90, 0, 0), (1, 2, 0, 0, 0), (1, 3, 0, 0, 0), (1, 4, 0, 0, 0), (1, 5, 0, 0, 0), (1, 6, 0, 0, 0), (0, 0, 0, 0, 0), (0, 0, 0, 0, 0)], [], [], [])), [(2, 0, 0), (0, 6, 40), (2, 0, 1)])]

/-- PushedInModel.waitsIn () -/
def zpC555 : zC := (201, (1, 40), ([(0, 1, 0, 0), (0, 2, 0, 0)], ([[(0, 0)], [(0, 40)], [(0, 40)], [(0, 9)]], [], [(3, 0, 90, 0, 0), (1, 2, 0, 0, 0), (1, 3, 0, 0, 0), (0, 0, 0, 0, 0), (0, 0, 0, 0, 0), (0, 0, 0, 0, 0)], [], [], [])), [([(1, 0, 0, 0)], ([[(0, 0)], [(0, 40)], [(0, 40)], [(0, 9)], [((-2147483648), 2147483647)]], [], [], [(1, 4, 0, 0, 0)], [], []))], [])
def zpA555 : zAnn := [(5, ([(0, 3, 0, 0), (0, 4, 0, 0)], ([[(0, 0)], [(0, 40)], [(0, 40)], [(0, 9)], [((-2147483648), 2147483647)], [(0, 40)]], [], [(3, 0, 90, 0, 0), (1, 2, 0, 0, 0), (1, 3, 0, 0, 0), (1, 4, 0, 0, 0), (1, 5, 0, 0, 0), (0, 0, 0, 0, 0)], [], [], [])), [(2, 0, 0), (0, 5, 40), (2, 0, 0)])]

/-- PushedInModel.within ((1, 1), (2, 200)) -/
def zpC556 : zC := (204, (1, 40), ([(0, 0, 0, 0)], ([[(0, 0)], [(0, 40)], [((-2147483648), 2147483647)]], [], [(2, 2, 0, 0, 0), (0, 0, 0, 0, 0), (2, 0, 1, 0, 0), (0, 0, 0, 0, 0), (2, 0, 200, 0, 0), (0, 0, 0, 0, 0)], [], [], [])), [([], ([[(0, 0)], [(0, 40)], [((-2147483648), 0), (201, 2147483647)]], [], [], [(1, 0, 0, 0, 0)], [], [])), ([], ([[(0, 0)], [(0, 40)], [(1, 200)]], [], [], [(1, 0, 1, 0, 0)], [], []))], [])
def zpA556 : zAnn := []

/-- PushedInModel.seldom () -/
def zpC557 : zC := (188, (5, 134), ([(0, 1, 0, 0), (0, 2, 0, 0), (0, 3, 0, 0)], ([[(0, 0)], [(0, 40)], [((-2147483648), 2147483647)], [((-2147483648), 2147483647)], [((-2147483648), 2147483647)]], [], [(3, 0, 90, 0, 0), (1, 2, 0, 0, 0), (1, 3, 0, 0, 0), (1, 4, 0, 0, 0), (0, 0, 0, 0, 0), (0, 0, 0, 0, 0), (0, 0, 0, 0, 0), (0, 0, 0, 0, 0), (0, 0, 0, 0, 0), (0, 0, 0, 0, 0), (0, 0, 0, 0, 0), (0, 0, 0, 0, 0)], [], [], [])), [([(1, 0, 0, 0)], ([[(0, 0)], [(0, 40)], [(0, 2147483647)], [((-2147483648), 2147483647)], [(1, 200)], [(0, 200)]], [], [], [(1, 5, 0, 0, 0)], [], [])), ([], ([[(0, 0)], [(0, 40)], [((-2147483648), 2147483647)], [((-2147483648), 2147483647)], [((-2147483648), 2147483647)]], [], [], [(1, 0, (-1), 0, 0)], [], []))], [(110, 110, 0, 0), (111, 111, 0, 0), (118, 118, 0, 0), (119, 119, 0, 0)])
def zpA557 : zAnn := [(123, ([(0, 4, 0, 0), (0, 5, 0, 0), (0, 6, 0, 0), (0, 7, 0, 0), (0, 8, 0, 0)], ([[(0, 0)], [(0, 40)], [(0, 2147483647)], [((-2147483648), 2147483647)], [(1, 200)], [(0, 40)], [((-2147483648), 2147483647)], [((-2147483648), 2147483647)], [(0, 200)], [(0, 200)]], [(8, 9, 0)], [(3, 0, 90, 0, 0), (1, 2, 0, 0, 0), (1, 3, 0, 0, 0), (1, 4, 0, 0, 0), (1, 5, 0, 0, 0), (1, 6, 0, 0, 0), (1, 7, 0, 0, 0), (1, 8, 0, 0, 0), (1, 9, 0, 0, 0), (0, 0, 0, 0, 0), (0, 0, 0, 0, 0), (0, 0, 0, 0, 0)], [], [], [])), [(2, 0, 0), (0, 9, 200), (2, 0, 1)]), (135, ([(0, 4, 0, 0), (0, 5, 0, 0), (0, 6, 0, 0), (0, 7, 0, 0), (0, 8, 0, 0), (0, 9, 0, 0)], ([[(0, 0)], [(0, 40)], [(0, 2147483647)], [((-2147483648), 2147483647)], [(1, 200)], [(0, 40)], [((-2147483648), 2147483647)], [((-2147483648), 2147483647)], [(0, 199)], [(0, 199)], [((-1), 39)]], [(8, 9, 0), (10, 5, (-1))], [(3, 0, 90, 0, 0), (1, 2, 0, 0, 0), (1, 3, 0, 0, 0), (1, 4, 0, 0, 0), (1, 5, 0, 0, 0), (1, 6, 0, 0, 0), (1, 7, 0, 0, 0), (1, 8, 0, 0, 0), (1, 9, 0, 0, 0), (1, 10, 0, 0, 0), (0, 0, 0, 0, 0), (0, 0, 0, 0, 0)], [], [], [])), [(2, 0, 0), (0, 9, 200), (2, 0, 0), (1, 10, (-1))]), (47, ([(0, 4, 0, 0), (0, 5, 0, 0)], ([[(0, 0)], [(0, 40)], [(0, 2147483647)], [((-2147483648), 2147483647)], [(1, 200)], [(0, 40)], [(0, 40)]], [(5, 6, 0)], [(3, 0, 90, 0, 0), (1, 2, 0, 0, 0), (1, 3, 0, 0, 0), (1, 4, 0, 0, 0), (1, 5, 0, 0, 0), (1, 6, 0, 0, 0), (0, 0, 0, 0, 0), (0, 0, 0, 0, 0), (0, 0, 0, 0, 0), (0, 0, 0, 0, 0), (0, 0, 0, 0, 0), (0, 0, 0, 0, 0)], [], [], [])), [(2, 0, 1), (0, 5, 40), (2, 0, 0), (0, 6, 40)])]

/-- PushedInModel.along () -/
def zpC558 : zC := (127, (3, 85), ([(0, 1, 0, 0), (0, 2, 0, 0), (0, 3, 0, 0)], ([[(0, 0)], [(0, 40)], [((-2147483648), 2147483647)], [((-2147483648), 2147483647)], [((-2147483648), 2147483647)]], [], [(3, 0, 90, 0, 0), (1, 2, 0, 0, 0), (1, 3, 0, 0, 0), (1, 4, 0, 0, 0), (0, 0, 0, 0, 0), (0, 0, 0, 0, 0), (0, 0, 0, 0, 0), (0, 0, 0, 0, 0), (0, 0, 0, 0, 0)], [], [], [])), [([(1, 0, 0, 0)], ([[(0, 0)], [(0, 40)], [(0, 2147483647)], [(0, 3)], [(0, 99)], [((-2147483648), 2147483647)]], [], [], [(1, 5, 0, 0, 0)], [], [])), ([], ([[(0, 0)], [(0, 40)], [((-2147483648), 2147483647)], [((-2147483648), 2147483647)], [((-2147483648), 2147483647)]], [], [], [(1, 0, (-1), 0, 0)], [], []))], [])
def zpA558h0 : Nat × zTm × zRk := (49, ([(0, 4, 0, 0), (0, 5, 0, 0)], ([[(0, 0)], [(0, 40)], [(0, 2147483647)], [(0, 3)], [(0, 99)], [((-2147483648), 2147483647)], [(0, 40)]], [], [(3, 0, 90, 0, 0), (1, 2, 0, 0, 0), (1, 3, 0, 0, 0), (1, 4, 0, 0, 0), (1, 5, 0, 0, 0), (1, 6, 0, 0, 0), (0, 0, 0, 0, 0), (0, 0, 0, 0, 0), (0, 0, 0, 0, 0)], [], [], [])), [(2, 0, 0), (0, 6, 40), (2, 0, 1)])
def zpA558h1 : Nat × zTm × zRk := (61, ([(0, 4, 0, 0), (0, 5, 0, 0), (0, 6, 0, 0)], ([[(0, 0)], [(0, 40)], [(0, 2147483647)], [(0, 3)], [(0, 99)], [((-2147483648), 2147483647)], [(0, 39)], [(0, 39)]], [(7, 6, 0)], [(3, 0, 90, 0, 0), (1, 2, 0, 0, 0), (1, 3, 0, 0, 0), (1, 4, 0, 0, 0), (1, 5, 0, 0, 0), (1, 6, 0, 0, 0), (1, 7, 0, 0, 0), (0, 0, 0, 0, 0), (0, 0, 0, 0, 0)], [], [], [])), [(2, 0, 0), (0, 6, 40), (2, 0, 0), (0, 7, 39)])
def zpA558 : zAnn := [zpA558h0, zpA558h1]

/-- PushedInModel.stand () -/
def zpC559 : zC := (190, (4, 113), ([(0, 1, 0, 0), (0, 2, 0, 0)], ([[(0, 0)], [(0, 40)], [((-2147483648), 2147483647)], [((-2147483648), 2147483647)]], [], [(3, 0, 90, 0, 0), (1, 2, 0, 0, 0), (1, 3, 0, 0, 0), (0, 0, 0, 0, 0), (0, 0, 0, 0, 0), (0, 0, 0, 0, 0), (0, 0, 0, 0, 0), (0, 0, 0, 0, 0), (0, 0, 0, 0, 0)], [], [], [])), [([(1, 0, 0, 0)], ([[(0, 0)], [(0, 40)], [(0, 3)], [(0, 1)], [((-1), 2147483647)]], [], [], [(1, 4, 0, 0, 0)], [], [])), ([], ([[(0, 0)], [(0, 40)], [((-2147483648), 2147483647)], [((-2147483648), 2147483647)]], [], [], [(1, 0, (-1), 0, 0)], [], []))], [])
def zpA559 : zAnn := [(27, ([(0, 3, 0, 0), (0, 4, 0, 0), (0, 5, 0, 0)], ([[(0, 0)], [(0, 40)], [(0, 3)], [(0, 1)], [(0, 3)], [((-1), 2147483647)], [(0, 4)]], [(4, 6, 0)], [(3, 0, 90, 0, 0), (1, 2, 0, 0, 0), (1, 3, 0, 0, 0), (1, 4, 0, 0, 0), (1, 5, 0, 0, 0), (1, 6, 0, 0, 0), (0, 0, 0, 0, 0), (0, 0, 0, 0, 0), (0, 0, 0, 0, 0)], [], [], [])), [(2, 0, 0), (0, 6, 4), (2, 0, 1)]), (39, ([(0, 3, 0, 0), (0, 4, 0, 0), (0, 5, 0, 0), (0, 6, 0, 0), (0, 7, 0, 0)], ([[(0, 0)], [(0, 40)], [(0, 3)], [(0, 1)], [(0, 3)], [((-1), 2147483647)], [(0, 3)], [((-2147483648), 2147483647)], [(0, 40)]], [(4, 6, 0)], [(3, 0, 90, 0, 0), (1, 2, 0, 0, 0), (1, 3, 0, 0, 0), (1, 4, 0, 0, 0), (1, 5, 0, 0, 0), (1, 6, 0, 0, 0), (1, 7, 0, 0, 0), (1, 8, 0, 0, 0), (0, 0, 0, 0, 0)], [], [], [])), [(2, 0, 0), (0, 6, 4), (2, 0, 0), (0, 8, 40)])]

/-- PushedInModel.undo () -/
def zpC560 : zC := (199, (1, 40), ([(2, 0, 90, 5), (2, 0, 90, 4)], ([[(0, 0)], [(0, 40)], [(0, 40)], [(0, 40)]], [(2, 3, 0)], [(3, 0, 90, 0, 0)], [], [(0, 90, 5, (1, 2, 0, 0, 0)), (0, 90, 4, (1, 3, 0, 0, 0))], [])), [([], ([[(0, 0)], [(0, 40)], [(0, 0)], [(0, 40)]], [], [], [(1, 0, (-5), 0, 0)], [(0, 90, 5, (1, 2, 0, 0, 0)), (0, 90, 4, (1, 3, 0, 0, 0))], [])), ([], ([[(0, 0)], [(0, 40)], [(1, 40)], [(0, 40)]], [], [], [(1, 2, (-1), 0, 0)], [(0, 90, 5, (1, 2, (-1), 0, 0)), (0, 90, 4, (1, 3, 0, 0, 0))], []))], [(90, 90, 1, 5), (91, 91, 0, 0)])
def zpA560 : zAnn := []

/-- PushedInModel.redo () -/
def zpC561 : zC := (183, (1, 40), ([(2, 0, 90, 5), (2, 0, 90, 4)], ([[(0, 0)], [(0, 40)], [(0, 40)], [(0, 40)]], [(2, 3, 0)], [(3, 0, 90, 0, 0)], [], [(0, 90, 5, (1, 2, 0, 0, 0)), (0, 90, 4, (1, 3, 0, 0, 0))], [])), [([(1, 0, 0, 0)], ([[(0, 0)], [(0, 40)], [(0, 39)], [(1, 40)], [((-39), 39)]], [(2, 3, (-1))], [], [(1, 4, 0, 0, 0)], [(0, 90, 5, (1, 2, 1, 0, 0)), (0, 90, 4, (1, 3, 0, 0, 0))], [])), ([], ([[(0, 0)], [(0, 40)], [(0, 40)], [(0, 40)]], [(3, 2, 0)], [], [(1, 0, (-5), 0, 0)], [(0, 90, 5, (1, 2, 0, 0, 0)), (0, 90, 4, (1, 3, 0, 0, 0))], []))], [(90, 90, 1, 5), (91, 91, 0, 0)])
def zpA561 : zAnn := []

/-- PushedInModel.begins () -/
def zpC562 : zC := (131, (1, 40), ([(0, 1, 0, 0), (2, 0, 90, 46)], ([[(0, 0)], [(0, 40)], [(1, 50), (60, 60), (70, 80)], [(0, 17)]], [], [(3, 0, 90, 0, 0), (1, 2, 0, 0, 0)], [], [(0, 90, 46, (1, 3, 0, 0, 0))], [])), [([], ([[(0, 0)], [(0, 40)], [(1, 50), (60, 60), (70, 80)], [(0, 17)]], [], [], [], [(0, 90, 46, (1, 3, 1, 0, 0))], []))], [(90, 90, 1, 46), (120, 120, 0, 0)])
def zpA562 : zAnn := []

/-- PushedInModel.costsAs ((1, 0),) -/
def zpC563 : zC := (142, (2, 61), ([(0, 2, 0, 0), (2, 0, 90, 46)], ([[(0, 0)], [(0, 40)], [((-2147483648), 2147483647)], [(1, 1), (4, 14)]], [], [(3, 0, 90, 0, 0), (1, 0, 0, 0, 0), (1, 2, 0, 0, 0), (0, 0, 0, 0, 0)], [], [(0, 90, 46, (1, 3, 0, 0, 0))], [])), [([(1, 0, 0, 0)], ([[(0, 0)], [(0, 40)], [((-2147483648), 2147483647)], [(1, 1), (4, 14)], [((-2147483648), 2147483647)]], [], [], [(1, 4, 0, 0, 0)], [(0, 90, 46, (1, 3, 1, 0, 0))], []))], [(90, 90, 1, 46), (120, 120, 0, 0)])
def zpA563 : zAnn := []

/-- PushedInModel.picksAs ((1, 0),) -/
def zpC564 : zC := (180, (2, 61), ([(0, 2, 0, 0), (2, 0, 90, 46)], ([[(0, 0)], [(0, 40)], [((-2147483648), 2147483647)], [(1, 17)]], [], [(3, 0, 90, 0, 0), (1, 0, 0, 0, 0), (1, 2, 0, 0, 0)], [], [(0, 90, 46, (1, 3, 0, 0, 0))], [])), [([(1, 0, 0, 0)], ([[(0, 0)], [(0, 40)], [((-2147483648), 2147483647)], [(1, 17)], [((-2147483648), 2147483647)]], [], [], [(1, 4, 0, 0, 0)], [(0, 90, 46, (1, 3, 1, 0, 0))], []))], [(90, 90, 1, 46), (120, 120, 0, 0)])
def zpA564 : zAnn := []

/-- PushedInModel.picksAs ((1, 1),) -/
def zpC565 : zC := (180, (3, 83), ([(0, 2, 0, 0), (2, 0, 90, 46)], ([[(0, 0)], [(0, 40)], [((-2147483648), 2147483647)], [(1, 16)]], [], [(3, 0, 90, 0, 0), (1, 0, 1, 0, 0), (1, 2, 0, 0, 0)], [], [(0, 90, 46, (1, 3, 0, 0, 0))], [])), [([(1, 0, 0, 0)], ([[(0, 0)], [(0, 40)], [((-2147483648), 2147483647)], [(1, 16)], [((-2147483648), 2147483647)]], [], [], [(1, 4, 0, 0, 0)], [(0, 90, 46, (1, 3, 2, 0, 0))], []))], [(90, 90, 1, 46), (120, 120, 0, 0)])
def zpA565 : zAnn := []

/-- PushedInModel.picksAs ((1, 3),) -/
def zpC566 : zC := (180, (3, 83), ([(0, 2, 0, 0), (2, 0, 90, 46)], ([[(0, 0)], [(0, 40)], [((-2147483648), 2147483647)], [(1, 16)]], [], [(3, 0, 90, 0, 0), (1, 0, 3, 0, 0), (1, 2, 0, 0, 0)], [], [(0, 90, 46, (1, 3, 0, 0, 0))], [])), [([(1, 0, 0, 0)], ([[(0, 0)], [(0, 40)], [((-2147483648), 2147483647)], [(1, 16)], [((-2147483648), 2147483647)]], [], [], [(1, 4, 0, 0, 0)], [(0, 90, 46, (1, 3, 2, 0, 0))], []))], [(90, 90, 1, 46), (120, 120, 0, 0)])
def zpA566 : zAnn := []

/-- PushedInModel.picksAs () -/
def zpC567 : zC := (180, (4, 105), ([(0, 1, 0, 0), (0, 2, 0, 0), (2, 0, 90, 46)], ([[(0, 0)], [(0, 40)], [(0, 7)], [((-2147483648), 2147483647)], [(0, 15)]], [], [(3, 0, 90, 0, 0), (1, 2, 0, 0, 0), (1, 3, 0, 0, 0)], [], [(0, 90, 46, (1, 4, 0, 0, 0))], [])), [([(1, 0, 0, 0), (2, 0, 90, 46)], ([[(0, 0)], [(0, 40)], [(0, 7)], [((-2147483648), 2147483647)], [(0, 15)], [((-2147483648), 2147483647)], [(1, 18)]], [(6, 4, 3), (4, 6, (-1))], [], [(1, 5, 0, 0, 0)], [(0, 90, 46, (1, 6, 0, 0, 0))], []))], [(90, 90, 1, 46), (120, 120, 0, 0)])
def zpA567 : zAnn := []

/-- PushedInModel.costsAs () -/
def zpC568 : zC := (142, (5, 127), ([(0, 1, 0, 0), (0, 2, 0, 0), (2, 0, 90, 46)], ([[(0, 0)], [(0, 40)], [(0, 7)], [((-2147483648), 2147483647)], [(0, 0), (3, 13)]], [], [(3, 0, 90, 0, 0), (1, 2, 0, 0, 0), (1, 3, 0, 0, 0), (0, 0, 0, 0, 0)], [], [(0, 90, 46, (1, 4, 0, 0, 0))], [])), [([(1, 0, 0, 0), (2, 0, 90, 46)], ([[(0, 0)], [(0, 40)], [(0, 7)], [((-2147483648), 2147483647)], [(0, 0), (3, 13)], [((-2147483648), 2147483647)], [(1, 18)]], [(6, 4, 5), (4, 6, (-1))], [], [(1, 5, 0, 0, 0)], [(0, 90, 46, (1, 6, 0, 0, 0))], []))], [(90, 90, 1, 46), (120, 120, 0, 0)])
def zpA568 : zAnn := []

/-- PushedInModel.holdsAs ((1, 1),) -/
def zpC569 : zC := (153, (5, 127), ([(0, 2, 0, 0), (2, 0, 90, 46)], ([[(0, 0)], [(0, 40)], [((-2147483648), 2147483647)], [(1, 4)]], [], [(3, 0, 90, 0, 0), (1, 0, 1, 0, 0), (1, 2, 0, 0, 0), (0, 0, 0, 0, 0)], [], [(0, 90, 46, (1, 3, 0, 0, 0))], [])), [([(1, 0, 0, 0), (2, 0, 90, 46)], ([[(0, 0)], [(0, 40)], [((-2147483648), 2147483647)], [(1, 4)], [((-2147483648), 2147483647)], [(3, 8)]], [(5, 3, 4), (3, 5, (-2))], [], [(1, 4, 0, 0, 0)], [(0, 90, 46, (1, 5, 0, 0, 0))], []))], [(90, 90, 1, 46), (120, 120, 0, 0)])
def zpA569 : zAnn := []

/-- PushedInModel.holdsAs ((1, 3),) -/
def zpC570 : zC := (153, (6, 150), ([(0, 2, 0, 0), (2, 0, 90, 46)], ([[(0, 0)], [(0, 40)], [((-2147483648), 2147483647)], [(1, 3)]], [], [(3, 0, 90, 0, 0), (1, 0, 3, 0, 0), (1, 2, 0, 0, 0), (0, 0, 0, 0, 0)], [], [(0, 90, 46, (1, 3, 0, 0, 0))], [])), [([(1, 0, 0, 0), (2, 0, 90, 46)], ([[(0, 0)], [(0, 40)], [((-2147483648), 2147483647)], [(1, 3)], [((-2147483648), 2147483647)], [(4, 8)]], [(5, 3, 5), (3, 5, (-3))], [], [(1, 4, 0, 0, 0)], [(0, 90, 46, (1, 5, 0, 0, 0))], []))], [(90, 90, 1, 46), (120, 120, 0, 0)])
def zpA570 : zAnn := []

/-- PushedInModel.holdsAs () -/
def zpC571 : zC := (153, (7, 173), ([(0, 1, 0, 0), (0, 2, 0, 0), (2, 0, 90, 46)], ([[(0, 0)], [(0, 40)], [(0, 7)], [((-2147483648), 2147483647)], [(0, 2)]], [], [(3, 0, 90, 0, 0), (1, 2, 0, 0, 0), (1, 3, 0, 0, 0), (0, 0, 0, 0, 0)], [], [(0, 90, 46, (1, 4, 0, 0, 0))], [])), [([(1, 0, 0, 0), (2, 0, 90, 46)], ([[(0, 0)], [(0, 40)], [(0, 7)], [((-2147483648), 2147483647)], [(0, 2)], [((-2147483648), 2147483647)], [(2, 13)]], [(6, 4, 11), (4, 6, (-2))], [], [(1, 5, 0, 0, 0)], [(0, 90, 46, (1, 6, 0, 0, 0))], []))], [(90, 90, 1, 46), (120, 120, 0, 0)])
def zpA571 : zAnn := []

/-- PushedInModel.tellsAs ((1, 0),) -/
def zpC572 : zC := (195, (8, 196), ([(0, 2, 0, 0)], ([[(0, 0)], [(0, 40)], [((-2147483648), 2147483647)]], [], [(3, 0, 90, 0, 0), (1, 0, 0, 0, 0), (1, 2, 0, 0, 0), (0, 0, 0, 0, 0)], [], [(0, 90, 46, (1, 0, 1, 0, 0))], [])), [([(1, 0, 0, 0), (2, 0, 90, 46)], ([[(0, 0)], [(0, 40)], [((-2147483648), 2147483647)], [((-2147483648), 2147483647)], [(5, 18)]], [], [], [(1, 3, 0, 0, 0)], [(0, 90, 46, (1, 4, 0, 0, 0))], []))], [(90, 90, 1, 46), (120, 120, 0, 0)])
def zpA572 : zAnn := []

/-- PushedInModel.tellsAs () -/
def zpC573 : zC := (195, (9, 219), ([(0, 1, 0, 0), (0, 2, 0, 0)], ([[(0, 0)], [(0, 40)], [(0, 7)], [((-2147483648), 2147483647)]], [], [(3, 0, 90, 0, 0), (1, 2, 0, 0, 0), (1, 3, 0, 0, 0), (0, 0, 0, 0, 0)], [], [(0, 90, 46, (1, 0, 0, 0, 0))], [])), [([(1, 0, 0, 0), (2, 0, 90, 46)], ([[(0, 0)], [(0, 40)], [(0, 7)], [((-2147483648), 2147483647)], [((-2147483648), 2147483647)], [(4, 18)]], [], [], [(1, 4, 0, 0, 0)], [(0, 90, 46, (1, 5, 0, 0, 0))], []))], [(90, 90, 1, 46), (120, 120, 0, 0)])
def zpA573 : zAnn := []

/-- PushedInModel.act () -/
def zpC574 : zC := (124, (10, 242), ([(0, 1, 0, 0), (0, 2, 0, 0), (0, 3, 0, 0)], ([[(0, 0)], [(0, 40)], [((-2147483648), 2147483647)], [((-2147483648), 2147483647)], [((-2147483648), 2147483647)]], [], [(3, 0, 90, 0, 0), (1, 2, 0, 0, 0), (1, 3, 0, 0, 0), (1, 4, 0, 0, 0)], [], [], [])), [([(1, 0, 0, 0)], ([[(0, 0)], [(0, 40)], [(0, 19)], [(0, 3)], [((-2147483648), 2147483647)], [((-2147483648), 2147483647)]], [], [], [(1, 5, 0, 0, 0)], [], [])), ([], ([[(0, 0)], [(0, 40)], [((-2147483648), 2147483647)], [((-2147483648), 2147483647)], [((-2147483648), 2147483647)]], [], [], [(1, 0, 0, 0, 0)], [], []))], [(90, 90, 1, 46), (90, 90, 1, 47), (90, 90, 1, 48), (120, 120, 0, 0)])
def zpA574 : zAnn := []

/-- PushedInModel.trace () -/
def zpC575 : zC := (198, (1, 40), ([(0, 1, 0, 0)], ([[(0, 0)], [(0, 40)], [((-2147483648), 2147483647)]], [], [(3, 0, 90, 0, 0), (1, 2, 0, 0, 0)], [], [], [])), [([(1, 0, 0, 0)], ([[(0, 0)], [(0, 40)], [(0, 23)], [((-2147483648), 2147483647)]], [], [], [(1, 3, 0, 0, 0)], [], [])), ([], ([[(0, 0)], [(0, 40)], [((-2147483648), 2147483647)]], [], [], [(1, 0, (-1), 0, 0)], [], []))], [])
def zpA575 : zAnn := []

/-- PushedInModel.keep () -/
def zpC576 : zC := (164, (3, 86), ([(0, 1, 0, 0), (0, 2, 0, 0)], ([[(0, 0)], [(0, 40)], [((-2147483648), 2147483647)], [((-2147483648), 2147483647)]], [], [(3, 0, 90, 0, 0), (1, 2, 0, 0, 0), (1, 3, 0, 0, 0)], [], [], [])), [([], ([[(0, 0)], [(0, 40)], [((-2147483648), 2147483647)], [((-2147483648), 2147483647)]], [], [], [(1, 0, (-1), 0, 0)], [], [])), ([], ([[(0, 0)], [(0, 40)], [(0, 5)], [((-1), 19)]], [], [], [(1, 0, 1, 0, 0)], [], []))], [(121, 121, 0, 0), (122, 122, 0, 0)])
def zpA576 : zAnn := []

/-- PushedInModel.within ((1, 0), (2, 4)) -/
def zpC577 : zC := (204, (1, 40), ([(0, 0, 0, 0)], ([[(0, 0)], [(0, 40)], [((-2147483648), 2147483647)]], [], [(2, 2, 0, 0, 0), (0, 0, 0, 0, 0), (2, 0, 0, 0, 0), (0, 0, 0, 0, 0), (2, 0, 4, 0, 0), (0, 0, 0, 0, 0)], [], [], [])), [([], ([[(0, 0)], [(0, 40)], [((-2147483648), (-1)), (5, 2147483647)]], [], [], [(1, 0, 0, 0, 0)], [], [])), ([], ([[(0, 0)], [(0, 40)], [(0, 4)]], [], [], [(1, 0, 1, 0, 0)], [], []))], [])
def zpA577 : zAnn := []

/-- PushedInModel.row () -/
def zpC578 : zC := (185, (3, 85), ([(0, 1, 0, 0), (0, 2, 0, 0), (0, 3, 0, 0)], ([[(0, 0)], [(0, 40)], [((-2147483648), 2147483647)], [((-2147483648), 2147483647)], [((-2147483648), 2147483647)]], [], [(3, 0, 90, 0, 0), (1, 2, 0, 0, 0), (1, 3, 0, 0, 0), (1, 4, 0, 0, 0), (0, 0, 0, 0, 0)], [], [], [])), [([], ([[(0, 0)], [(0, 40)], [((-2147483648), 2147483647)], [((-2147483648), 2147483647)], [((-2147483648), 2147483647)]], [], [], [(1, 0, (-1), 0, 0)], [], [])), ([], ([[(0, 0)], [(0, 40)], [(0, 5)], [(0, 4)], [((-2147483648), (-1))]], [], [], [(1, 0, (-14), 0, 0)], [], [])), ([], ([[(0, 0)], [(0, 40)], [(0, 5)], [(0, 4)], [(0, 60)]], [], [], [(1, 0, 1, 0, 0)], [], []))], [(121, 121, 0, 0), (122, 122, 0, 0), (123, 123, 0, 0)])
def zpA578 : zAnn := [(57, ([(0, 4, 0, 0)], ([[(0, 0)], [(0, 40)], [(0, 5)], [(0, 4)], [(0, 60)], [(0, 360)]], [], [(3, 0, 90, 0, 0), (1, 2, 0, 0, 0), (1, 3, 0, 0, 0), (1, 4, 0, 0, 0), (1, 5, 0, 0, 0)], [], [], [])), [(2, 0, 0), (0, 5, 360), (2, 0, 0)])]

/-- PushedInModel.asSort () -/
def zpC579 : zC := (128, (1, 40), ([(0, 0, 0, 0), (0, 1, 0, 0)], ([[(0, 0)], [(0, 40)], [((-21), 4)], [((-9223372036854775808), 9223372036854775807)]], [], [(1, 2, 0, 0, 0), (2, 3, 0, 0, 0), (0, 0, 0, 0, 0)], [], [], [])), [([(1, 0, 0, 0)], ([[(0, 0)], [(0, 40)], [(0, 2)], [((-9223372036854775808), 9223372036854775807)], [((-2147483648), 2147483647)]], [], [], [(2, 4, 0, 0, 0)], [], [])), ([], ([[(0, 0)], [(0, 40)], [(4, 4)], [(0, 0)]], [], [], [(2, 0, 0, 0, 0)], [], [])), ([], ([[(0, 0)], [(0, 40)], [(4, 4)], [((-9223372036854775808), (-1)), (1, 9223372036854775807)]], [], [], [(2, 0, 1, 0, 0)], [], [])), ([], ([[(0, 0)], [(0, 40)], [((-21), (-1)), (3, 3)], [((-9223372036854775808), 9223372036854775807)]], [], [], [(2, 3, 0, 0, 0)], [], []))], [])
def zpA579 : zAnn := []

/-- PushedInModel.refusal () -/
def zpC580 : zC := (184, (3, 85), ([(0, 1, 0, 0), (0, 2, 0, 0)], ([[(0, 0)], [(0, 40)], [((-2147483648), 2147483647)], [((-2147483648), 2147483647)]], [], [(3, 0, 90, 0, 0), (1, 2, 0, 0, 0), (1, 3, 0, 0, 0)], [], [], [])), [([], ([[(0, 0)], [(0, 40)], [((-2147483648), (-1)), (6, 2147483647)], [((-2147483648), 2147483647)]], [], [], [(1, 0, (-1), 0, 0)], [], [])), ([], ([[(0, 0)], [(0, 40)], [(0, 5)], [((-2147483648), 2147483647)]], [], [], [(1, 0, (-11), 0, 0)], [], [])), ([], ([[(0, 0)], [(0, 40)], [(0, 5)], [((-2147483648), 2147483647)]], [], [], [(1, 0, (-12), 0, 0)], [], [])), ([], ([[(0, 0)], [(0, 40)], [(0, 5)], [((-2147483648), 2147483647)]], [], [], [(1, 0, (-13), 0, 0)], [], [])), ([], ([[(0, 0)], [(0, 40)], [(0, 5)], [(0, 59)]], [], [], [(1, 0, 0, 0, 0)], [], []))], [])
def zpA580 : zAnn := []

/-- PushedInModel.put () -/
def zpC581 : zC := (182, (4, 107), ([(0, 1, 0, 0), (0, 2, 0, 0), (0, 3, 0, 0)], ([[(0, 0)], [(0, 40)], [((-2147483648), 2147483647)], [((-2147483648), 2147483647)], [((-9223372036854775808), 9223372036854775807)]], [], [(3, 0, 90, 0, 0), (1, 2, 0, 0, 0), (1, 3, 0, 0, 0), (2, 4, 0, 0, 0), (0, 0, 0, 0, 0), (0, 0, 0, 0, 0)], [], [], [])), [([], ([[(0, 0)], [(0, 40)], [((-2147483648), (-1)), (6, 2147483647)], [((-2147483648), 2147483647)], [((-9223372036854775808), 9223372036854775807)]], [], [], [(1, 0, (-1), 0, 0)], [], [])), ([], ([[(0, 0)], [(0, 40)], [(0, 5)], [((-2147483648), 2147483647)], [((-9223372036854775808), 9223372036854775807)]], [], [], [(1, 0, (-11), 0, 0)], [], [])), ([], ([[(0, 0)], [(0, 40)], [(0, 5)], [((-2147483648), 2147483647)], [((-9223372036854775808), 9223372036854775807)]], [], [], [(1, 0, (-12), 0, 0)], [], [])), ([], ([[(0, 0)], [(0, 40)], [(0, 5)], [((-2147483648), 2147483647)], [((-9223372036854775808), 9223372036854775807)]], [], [], [(1, 0, (-13), 0, 0)], [], [])), ([], ([[(0, 0)], [(0, 40)], [(0, 5)], [(0, 59)], [((-9223372036854775808), 9223372036854775807)]], [], [], [(1, 0, 1, 0, 0)], [], []))], [(123, 123, 0, 0)])
def zpA581 : zAnn := []

/-- PushedInModel.element () -/
def zpC582 : zC := (147, (4, 107), ([(0, 1, 0, 0), (0, 2, 0, 0)], ([[(0, 0)], [(0, 40)], [((-2147483648), 2147483647)], [((-2147483648), 2147483647)]], [], [(3, 0, 90, 0, 0), (1, 2, 0, 0, 0), (1, 3, 0, 0, 0)], [], [], [])), [([(1, 0, 0, 0)], ([[(0, 0)], [(0, 40)], [(0, 5)], [(0, 59)], [((-9223372036854775808), 9223372036854775807)]], [], [], [(2, 4, 0, 0, 0)], [], [])), ([], ([[(0, 0)], [(0, 40)], [((-2147483648), 2147483647)], [((-2147483648), 2147483647)]], [], [], [(2, 0, (-9223372036854775808), 0, 0)], [], []))], [])
def zpA582 : zAnn := []

/-- PushedInModel.shift () -/
def zpC583 : zC := (189, (3, 85), ([(0, 1, 0, 0), (0, 2, 0, 0), (0, 3, 0, 0), (0, 4, 0, 0), (0, 5, 0, 0)], ([[(0, 0)], [(0, 40)], [((-2147483648), 2147483647)], [((-2147483648), 2147483647)], [((-2147483648), 2147483647)], [((-2147483648), 2147483647)], [((-2147483648), 2147483647)]], [], [(3, 0, 90, 0, 0), (1, 2, 0, 0, 0), (1, 3, 0, 0, 0), (1, 4, 0, 0, 0), (1, 5, 0, 0, 0), (1, 6, 0, 0, 0), (0, 0, 0, 0, 0)], [], [], [])), [([(1, 0, 0, 0)], ([[(0, 0)], [(0, 40)], [((-2147483648), 2147483647)], [((-2147483648), 2147483647)], [((-2147483648), 2147483647)], [((-2147483648), 2147483647)], [((-2147483648), 2147483647)], [((-13), (-11)), ((-1), 60)]], [], [], [(1, 7, 0, 0, 0)], [], []))], [(123, 123, 0, 0), (124, 124, 0, 0)])
def zpA583h0 : Nat × zTm × zRk := (113, ([], ([[(0, 0)], [(0, 40)], [(0, 5)], [(0, 60)], [(0, 5)], [(0, 60)], [(0, 0)]], [], [(3, 0, 90, 0, 0), (1, 2, 0, 0, 0), (1, 3, 0, 0, 0), (1, 4, 0, 0, 0), (1, 5, 0, 0, 0), (1, 6, 0, 0, 0), (1, 0, 0, 0, 0)], [], [], [])), [(2, 0, 1)])
def zpA583h1 : Nat × zTm × zRk := (113, ([(0, 6, 0, 0)], ([[(0, 0)], [(0, 40)], [(0, 5)], [(0, 59)], [(0, 5)], [(0, 59)], [(1, 1)], [(0, 1)]], [], [(3, 0, 90, 0, 0), (1, 2, 0, 0, 0), (1, 3, 0, 0, 0), (1, 4, 0, 0, 0), (1, 5, 0, 0, 0), (1, 6, 0, 0, 0), (1, 7, 0, 0, 0)], [], [], [])), [(2, 0, 3), (0, 7, 1), (2, 0, 0)])
def zpA583h2 : Nat × zTm × zRk := (113, ([(0, 6, 0, 0)], ([[(0, 0)], [(0, 40)], [(0, 5)], [(0, 50)], [(0, 5)], [(0, 50)], [(10, 10)], [(0, 10)]], [], [(3, 0, 90, 0, 0), (1, 2, 0, 0, 0), (1, 3, 0, 0, 0), (1, 4, 0, 0, 0), (1, 5, 0, 0, 0), (1, 6, 0, 0, 0), (1, 7, 0, 0, 0)], [], [], [])), [(2, 0, 5), (0, 7, 10), (2, 0, 0)])
def zpA583h3 : Nat × zTm × zRk := (113, ([(0, 6, 0, 0)], ([[(0, 0)], [(0, 40)], [(0, 5)], [(0, 49)], [(0, 5)], [(0, 49)], [(11, 11)], [(0, 11)]], [], [(3, 0, 90, 0, 0), (1, 2, 0, 0, 0), (1, 3, 0, 0, 0), (1, 4, 0, 0, 0), (1, 5, 0, 0, 0), (1, 6, 0, 0, 0), (1, 7, 0, 0, 0)], [], [], [])), [(2, 0, 7), (0, 7, 11), (2, 0, 0)])
def zpA583h4 : Nat × zTm × zRk := (113, ([(0, 6, 0, 0)], ([[(0, 0)], [(0, 40)], [(0, 5)], [(0, 48)], [(0, 5)], [(0, 48)], [(12, 12)], [(0, 12)]], [], [(3, 0, 90, 0, 0), (1, 2, 0, 0, 0), (1, 3, 0, 0, 0), (1, 4, 0, 0, 0), (1, 5, 0, 0, 0), (1, 6, 0, 0, 0), (1, 7, 0, 0, 0)], [], [], [])), [(2, 0, 9), (0, 7, 12), (2, 0, 0)])
def zpA583h5 : Nat × zTm × zRk := (113, ([(0, 6, 0, 0)], ([[(0, 0)], [(0, 40)], [(0, 5)], [(0, 47)], [(0, 5)], [(0, 47)], [(13, 13)], [(0, 13)]], [], [(3, 0, 90, 0, 0), (1, 2, 0, 0, 0), (1, 3, 0, 0, 0), (1, 4, 0, 0, 0), (1, 5, 0, 0, 0), (1, 6, 0, 0, 0), (1, 7, 0, 0, 0)], [], [], [])), [(2, 0, 11), (0, 7, 13), (2, 0, 0)])
def zpA583h6 : Nat × zTm × zRk := (113, ([(0, 6, 0, 0)], ([[(0, 0)], [(0, 40)], [(0, 5)], [(0, 46)], [(0, 5)], [(0, 46)], [(14, 14)], [(0, 15)]], [], [(3, 0, 90, 0, 0), (1, 2, 0, 0, 0), (1, 3, 0, 0, 0), (1, 4, 0, 0, 0), (1, 5, 0, 0, 0), (1, 6, 0, 0, 0), (1, 7, 0, 0, 0)], [], [], [])), [(2, 0, 13), (0, 7, 15), (2, 0, 0)])
def zpA583h7 : Nat × zTm × zRk := (113, ([(0, 6, 0, 0)], ([[(0, 0)], [(0, 40)], [(0, 5)], [(0, 45)], [(0, 5)], [(0, 45)], [(15, 15)], [(0, 15)]], [], [(3, 0, 90, 0, 0), (1, 2, 0, 0, 0), (1, 3, 0, 0, 0), (1, 4, 0, 0, 0), (1, 5, 0, 0, 0), (1, 6, 0, 0, 0), (1, 7, 0, 0, 0)], [], [], [])), [(2, 0, 15), (0, 7, 15), (2, 0, 0)])
def zpA583h8 : Nat × zTm × zRk := (113, ([(0, 6, 0, 0)], ([[(0, 0)], [(0, 40)], [(0, 5)], [(0, 44)], [(0, 5)], [(0, 44)], [(16, 16)], [(0, 19)]], [], [(3, 0, 90, 0, 0), (1, 2, 0, 0, 0), (1, 3, 0, 0, 0), (1, 4, 0, 0, 0), (1, 5, 0, 0, 0), (1, 6, 0, 0, 0), (1, 7, 0, 0, 0)], [], [], [])), [(2, 0, 17), (0, 7, 19), (2, 0, 0)])
def zpA583h9 : Nat × zTm × zRk := (113, ([(0, 6, 0, 0)], ([[(0, 0)], [(0, 40)], [(0, 5)], [(0, 43)], [(0, 5)], [(0, 43)], [(17, 17)], [(0, 19)]], [], [(3, 0, 90, 0, 0), (1, 2, 0, 0, 0), (1, 3, 0, 0, 0), (1, 4, 0, 0, 0), (1, 5, 0, 0, 0), (1, 6, 0, 0, 0), (1, 7, 0, 0, 0)], [], [], [])), [(2, 0, 19), (0, 7, 19), (2, 0, 0)])
def zpA583h10 : Nat × zTm × zRk := (113, ([(0, 6, 0, 0)], ([[(0, 0)], [(0, 40)], [(0, 5)], [(0, 42)], [(0, 5)], [(0, 42)], [(18, 18)], [(0, 19)]], [], [(3, 0, 90, 0, 0), (1, 2, 0, 0, 0), (1, 3, 0, 0, 0), (1, 4, 0, 0, 0), (1, 5, 0, 0, 0), (1, 6, 0, 0, 0), (1, 7, 0, 0, 0)], [], [], [])), [(2, 0, 21), (0, 7, 19), (2, 0, 0)])
def zpA583h11 : Nat × zTm × zRk := (113, ([(0, 6, 0, 0)], ([[(0, 0)], [(0, 40)], [(0, 5)], [(0, 41)], [(0, 5)], [(0, 41)], [(19, 19)], [(0, 19)]], [], [(3, 0, 90, 0, 0), (1, 2, 0, 0, 0), (1, 3, 0, 0, 0), (1, 4, 0, 0, 0), (1, 5, 0, 0, 0), (1, 6, 0, 0, 0), (1, 7, 0, 0, 0)], [], [], [])), [(2, 0, 23), (0, 7, 19), (2, 0, 0)])
def zpA583h12 : Nat × zTm × zRk := (113, ([(0, 6, 0, 0)], ([[(0, 0)], [(0, 40)], [(0, 5)], [(0, 58)], [(0, 5)], [(0, 58)], [(2, 2)], [(0, 2)]], [], [(3, 0, 90, 0, 0), (1, 2, 0, 0, 0), (1, 3, 0, 0, 0), (1, 4, 0, 0, 0), (1, 5, 0, 0, 0), (1, 6, 0, 0, 0), (1, 7, 0, 0, 0)], [], [], [])), [(2, 0, 25), (0, 7, 2), (2, 0, 0)])
def zpA583h13 : Nat × zTm × zRk := (113, ([(0, 6, 0, 0)], ([[(0, 0)], [(0, 40)], [(0, 5)], [(0, 40)], [(0, 5)], [(0, 40)], [(20, 20)], [(0, 20)]], [], [(3, 0, 90, 0, 0), (1, 2, 0, 0, 0), (1, 3, 0, 0, 0), (1, 4, 0, 0, 0), (1, 5, 0, 0, 0), (1, 6, 0, 0, 0), (1, 7, 0, 0, 0)], [], [], [])), [(2, 0, 27), (0, 7, 20), (2, 0, 0)])
def zpA583h14 : Nat × zTm × zRk := (113, ([(0, 6, 0, 0)], ([[(0, 0)], [(0, 40)], [(0, 5)], [(0, 39)], [(0, 5)], [(0, 39)], [(21, 21)], [(0, 23)]], [], [(3, 0, 90, 0, 0), (1, 2, 0, 0, 0), (1, 3, 0, 0, 0), (1, 4, 0, 0, 0), (1, 5, 0, 0, 0), (1, 6, 0, 0, 0), (1, 7, 0, 0, 0)], [], [], [])), [(2, 0, 29), (0, 7, 23), (2, 0, 0)])
def zpA583h15 : Nat × zTm × zRk := (113, ([(0, 6, 0, 0)], ([[(0, 0)], [(0, 40)], [(0, 5)], [(0, 38)], [(0, 5)], [(0, 38)], [(22, 22)], [(0, 23)]], [], [(3, 0, 90, 0, 0), (1, 2, 0, 0, 0), (1, 3, 0, 0, 0), (1, 4, 0, 0, 0), (1, 5, 0, 0, 0), (1, 6, 0, 0, 0), (1, 7, 0, 0, 0)], [], [], [])), [(2, 0, 31), (0, 7, 23), (2, 0, 0)])
def zpA583h16 : Nat × zTm × zRk := (113, ([(0, 6, 0, 0)], ([[(0, 0)], [(0, 40)], [(0, 5)], [(0, 37)], [(0, 5)], [(0, 37)], [(23, 23)], [(0, 23)]], [], [(3, 0, 90, 0, 0), (1, 2, 0, 0, 0), (1, 3, 0, 0, 0), (1, 4, 0, 0, 0), (1, 5, 0, 0, 0), (1, 6, 0, 0, 0), (1, 7, 0, 0, 0)], [], [], [])), [(2, 0, 33), (0, 7, 23), (2, 0, 0)])
def zpA583h17 : Nat × zTm × zRk := (113, ([(0, 6, 0, 0)], ([[(0, 0)], [(0, 40)], [(0, 5)], [(0, 36)], [(0, 5)], [(0, 36)], [(24, 24)], [(0, 24)]], [], [(3, 0, 90, 0, 0), (1, 2, 0, 0, 0), (1, 3, 0, 0, 0), (1, 4, 0, 0, 0), (1, 5, 0, 0, 0), (1, 6, 0, 0, 0), (1, 7, 0, 0, 0)], [], [], [])), [(2, 0, 35), (0, 7, 24), (2, 0, 0)])
def zpA583h18 : Nat × zTm × zRk := (113, ([(0, 6, 0, 0)], ([[(0, 0)], [(0, 40)], [(0, 5)], [(0, 35)], [(0, 5)], [(0, 35)], [(25, 25)], [(0, 29)]], [], [(3, 0, 90, 0, 0), (1, 2, 0, 0, 0), (1, 3, 0, 0, 0), (1, 4, 0, 0, 0), (1, 5, 0, 0, 0), (1, 6, 0, 0, 0), (1, 7, 0, 0, 0)], [], [], [])), [(2, 0, 37), (0, 7, 29), (2, 0, 0)])
def zpA583h19 : Nat × zTm × zRk := (113, ([(0, 6, 0, 0)], ([[(0, 0)], [(0, 40)], [(0, 5)], [(0, 34)], [(0, 5)], [(0, 34)], [(26, 26)], [(0, 29)]], [], [(3, 0, 90, 0, 0), (1, 2, 0, 0, 0), (1, 3, 0, 0, 0), (1, 4, 0, 0, 0), (1, 5, 0, 0, 0), (1, 6, 0, 0, 0), (1, 7, 0, 0, 0)], [], [], [])), [(2, 0, 39), (0, 7, 29), (2, 0, 0)])
def zpA583h20 : Nat × zTm × zRk := (113, ([(0, 6, 0, 0)], ([[(0, 0)], [(0, 40)], [(0, 5)], [(0, 33)], [(0, 5)], [(0, 33)], [(27, 27)], [(0, 29)]], [], [(3, 0, 90, 0, 0), (1, 2, 0, 0, 0), (1, 3, 0, 0, 0), (1, 4, 0, 0, 0), (1, 5, 0, 0, 0), (1, 6, 0, 0, 0), (1, 7, 0, 0, 0)], [], [], [])), [(2, 0, 41), (0, 7, 29), (2, 0, 0)])
def zpA583h21 : Nat × zTm × zRk := (113, ([(0, 6, 0, 0)], ([[(0, 0)], [(0, 40)], [(0, 5)], [(0, 32)], [(0, 5)], [(0, 32)], [(28, 28)], [(0, 29)]], [], [(3, 0, 90, 0, 0), (1, 2, 0, 0, 0), (1, 3, 0, 0, 0), (1, 4, 0, 0, 0), (1, 5, 0, 0, 0), (1, 6, 0, 0, 0), (1, 7, 0, 0, 0)], [], [], [])), [(2, 0, 43), (0, 7, 29), (2, 0, 0)])
def zpA583h22 : Nat × zTm × zRk := (113, ([(0, 6, 0, 0)], ([[(0, 0)], [(0, 40)], [(0, 5)], [(0, 31)], [(0, 5)], [(0, 31)], [(29, 29)], [(0, 29)]], [], [(3, 0, 90, 0, 0), (1, 2, 0, 0, 0), (1, 3, 0, 0, 0), (1, 4, 0, 0, 0), (1, 5, 0, 0, 0), (1, 6, 0, 0, 0), (1, 7, 0, 0, 0)], [], [], [])), [(2, 0, 45), (0, 7, 29), (2, 0, 0)])
def zpA583h23 : Nat × zTm × zRk := (113, ([(0, 6, 0, 0)], ([[(0, 0)], [(0, 40)], [(0, 5)], [(0, 57)], [(0, 5)], [(0, 57)], [(3, 3)], [(0, 3)]], [], [(3, 0, 90, 0, 0), (1, 2, 0, 0, 0), (1, 3, 0, 0, 0), (1, 4, 0, 0, 0), (1, 5, 0, 0, 0), (1, 6, 0, 0, 0), (1, 7, 0, 0, 0)], [], [], [])), [(2, 0, 47), (0, 7, 3), (2, 0, 0)])
def zpA583h24 : Nat × zTm × zRk := (113, ([(0, 6, 0, 0)], ([[(0, 0)], [(0, 40)], [(0, 5)], [(0, 30)], [(0, 5)], [(0, 30)], [(30, 30)], [(0, 30)]], [], [(3, 0, 90, 0, 0), (1, 2, 0, 0, 0), (1, 3, 0, 0, 0), (1, 4, 0, 0, 0), (1, 5, 0, 0, 0), (1, 6, 0, 0, 0), (1, 7, 0, 0, 0)], [], [], [])), [(2, 0, 49), (0, 7, 30), (2, 0, 0)])
def zpA583h25 : Nat × zTm × zRk := (113, ([(0, 6, 0, 0)], ([[(0, 0)], [(0, 40)], [(0, 5)], [(0, 29)], [(0, 5)], [(0, 29)], [(31, 31)], [(0, 31)]], [], [(3, 0, 90, 0, 0), (1, 2, 0, 0, 0), (1, 3, 0, 0, 0), (1, 4, 0, 0, 0), (1, 5, 0, 0, 0), (1, 6, 0, 0, 0), (1, 7, 0, 0, 0)], [], [], [])), [(2, 0, 51), (0, 7, 31), (2, 0, 0)])
def zpA583h26 : Nat × zTm × zRk := (113, ([(0, 6, 0, 0)], ([[(0, 0)], [(0, 40)], [(0, 5)], [(0, 28)], [(0, 5)], [(0, 28)], [(32, 32)], [(0, 32)]], [], [(3, 0, 90, 0, 0), (1, 2, 0, 0, 0), (1, 3, 0, 0, 0), (1, 4, 0, 0, 0), (1, 5, 0, 0, 0), (1, 6, 0, 0, 0), (1, 7, 0, 0, 0)], [], [], [])), [(2, 0, 53), (0, 7, 32), (2, 0, 0)])
def zpA583h27 : Nat × zTm × zRk := (113, ([(0, 6, 0, 0)], ([[(0, 0)], [(0, 40)], [(0, 5)], [(0, 27)], [(0, 5)], [(0, 27)], [(33, 33)], [(0, 38)]], [], [(3, 0, 90, 0, 0), (1, 2, 0, 0, 0), (1, 3, 0, 0, 0), (1, 4, 0, 0, 0), (1, 5, 0, 0, 0), (1, 6, 0, 0, 0), (1, 7, 0, 0, 0)], [], [], [])), [(2, 0, 55), (0, 7, 38), (2, 0, 0)])
def zpA583h28 : Nat × zTm × zRk := (113, ([(0, 6, 0, 0)], ([[(0, 0)], [(0, 40)], [(0, 5)], [(0, 26)], [(0, 5)], [(0, 26)], [(34, 34)], [(0, 38)]], [], [(3, 0, 90, 0, 0), (1, 2, 0, 0, 0), (1, 3, 0, 0, 0), (1, 4, 0, 0, 0), (1, 5, 0, 0, 0), (1, 6, 0, 0, 0), (1, 7, 0, 0, 0)], [], [], [])), [(2, 0, 57), (0, 7, 38), (2, 0, 0)])
def zpA583h29 : Nat × zTm × zRk := (113, ([(0, 6, 0, 0)], ([[(0, 0)], [(0, 40)], [(0, 5)], [(0, 25)], [(0, 5)], [(0, 25)], [(35, 35)], [(0, 38)]], [], [(3, 0, 90, 0, 0), (1, 2, 0, 0, 0), (1, 3, 0, 0, 0), (1, 4, 0, 0, 0), (1, 5, 0, 0, 0), (1, 6, 0, 0, 0), (1, 7, 0, 0, 0)], [], [], [])), [(2, 0, 59), (0, 7, 38), (2, 0, 0)])
def zpA583h30 : Nat × zTm × zRk := (113, ([(0, 6, 0, 0)], ([[(0, 0)], [(0, 40)], [(0, 5)], [(0, 24)], [(0, 5)], [(0, 24)], [(36, 36)], [(0, 38)]], [], [(3, 0, 90, 0, 0), (1, 2, 0, 0, 0), (1, 3, 0, 0, 0), (1, 4, 0, 0, 0), (1, 5, 0, 0, 0), (1, 6, 0, 0, 0), (1, 7, 0, 0, 0)], [], [], [])), [(2, 0, 61), (0, 7, 38), (2, 0, 0)])
def zpA583h31 : Nat × zTm × zRk := (113, ([(0, 6, 0, 0)], ([[(0, 0)], [(0, 40)], [(0, 5)], [(0, 23)], [(0, 5)], [(0, 23)], [(37, 37)], [(0, 38)]], [], [(3, 0, 90, 0, 0), (1, 2, 0, 0, 0), (1, 3, 0, 0, 0), (1, 4, 0, 0, 0), (1, 5, 0, 0, 0), (1, 6, 0, 0, 0), (1, 7, 0, 0, 0)], [], [], [])), [(2, 0, 63), (0, 7, 38), (2, 0, 0)])
def zpA583h32 : Nat × zTm × zRk := (113, ([(0, 6, 0, 0)], ([[(0, 0)], [(0, 40)], [(0, 5)], [(0, 22)], [(0, 5)], [(0, 22)], [(38, 38)], [(0, 38)]], [], [(3, 0, 90, 0, 0), (1, 2, 0, 0, 0), (1, 3, 0, 0, 0), (1, 4, 0, 0, 0), (1, 5, 0, 0, 0), (1, 6, 0, 0, 0), (1, 7, 0, 0, 0)], [], [], [])), [(2, 0, 65), (0, 7, 38), (2, 0, 0)])
def zpA583h33 : Nat × zTm × zRk := (113, ([(0, 6, 0, 0)], ([[(0, 0)], [(0, 40)], [(0, 5)], [(0, 21)], [(0, 5)], [(0, 21)], [(39, 39)], [(0, 39)]], [], [(3, 0, 90, 0, 0), (1, 2, 0, 0, 0), (1, 3, 0, 0, 0), (1, 4, 0, 0, 0), (1, 5, 0, 0, 0), (1, 6, 0, 0, 0), (1, 7, 0, 0, 0)], [], [], [])), [(2, 0, 67), (0, 7, 39), (2, 0, 0)])
def zpA583h34 : Nat × zTm × zRk := (113, ([(0, 6, 0, 0)], ([[(0, 0)], [(0, 40)], [(0, 5)], [(0, 56)], [(0, 5)], [(0, 56)], [(4, 4)], [(0, 4)]], [], [(3, 0, 90, 0, 0), (1, 2, 0, 0, 0), (1, 3, 0, 0, 0), (1, 4, 0, 0, 0), (1, 5, 0, 0, 0), (1, 6, 0, 0, 0), (1, 7, 0, 0, 0)], [], [], [])), [(2, 0, 69), (0, 7, 4), (2, 0, 0)])
def zpA583h35 : Nat × zTm × zRk := (113, ([(0, 6, 0, 0)], ([[(0, 0)], [(0, 40)], [(0, 5)], [(0, 20)], [(0, 5)], [(0, 20)], [(40, 40)], [(0, 40)]], [], [(3, 0, 90, 0, 0), (1, 2, 0, 0, 0), (1, 3, 0, 0, 0), (1, 4, 0, 0, 0), (1, 5, 0, 0, 0), (1, 6, 0, 0, 0), (1, 7, 0, 0, 0)], [], [], [])), [(2, 0, 71), (0, 7, 40), (2, 0, 0)])
def zpA583h36 : Nat × zTm × zRk := (113, ([(0, 6, 0, 0)], ([[(0, 0)], [(0, 40)], [(0, 5)], [(0, 19)], [(0, 5)], [(0, 19)], [(41, 41)], [(0, 41)]], [], [(3, 0, 90, 0, 0), (1, 2, 0, 0, 0), (1, 3, 0, 0, 0), (1, 4, 0, 0, 0), (1, 5, 0, 0, 0), (1, 6, 0, 0, 0), (1, 7, 0, 0, 0)], [], [], [])), [(2, 0, 73), (0, 7, 41), (2, 0, 0)])
def zpA583h37 : Nat × zTm × zRk := (113, ([(0, 6, 0, 0)], ([[(0, 0)], [(0, 40)], [(0, 5)], [(0, 18)], [(0, 5)], [(0, 18)], [(42, 42)], [(0, 52)]], [], [(3, 0, 90, 0, 0), (1, 2, 0, 0, 0), (1, 3, 0, 0, 0), (1, 4, 0, 0, 0), (1, 5, 0, 0, 0), (1, 6, 0, 0, 0), (1, 7, 0, 0, 0)], [], [], [])), [(2, 0, 75), (0, 7, 52), (2, 0, 0)])
def zpA583h38 : Nat × zTm × zRk := (113, ([(0, 6, 0, 0)], ([[(0, 0)], [(0, 40)], [(0, 5)], [(0, 17)], [(0, 5)], [(0, 17)], [(43, 43)], [(0, 52)]], [], [(3, 0, 90, 0, 0), (1, 2, 0, 0, 0), (1, 3, 0, 0, 0), (1, 4, 0, 0, 0), (1, 5, 0, 0, 0), (1, 6, 0, 0, 0), (1, 7, 0, 0, 0)], [], [], [])), [(2, 0, 77), (0, 7, 52), (2, 0, 0)])
def zpA583h39 : Nat × zTm × zRk := (113, ([(0, 6, 0, 0)], ([[(0, 0)], [(0, 40)], [(0, 5)], [(0, 16)], [(0, 5)], [(0, 16)], [(44, 44)], [(0, 52)]], [], [(3, 0, 90, 0, 0), (1, 2, 0, 0, 0), (1, 3, 0, 0, 0), (1, 4, 0, 0, 0), (1, 5, 0, 0, 0), (1, 6, 0, 0, 0), (1, 7, 0, 0, 0)], [], [], [])), [(2, 0, 79), (0, 7, 52), (2, 0, 0)])
def zpA583h40 : Nat × zTm × zRk := (113, ([(0, 6, 0, 0)], ([[(0, 0)], [(0, 40)], [(0, 5)], [(0, 15)], [(0, 5)], [(0, 15)], [(45, 45)], [(0, 52)]], [], [(3, 0, 90, 0, 0), (1, 2, 0, 0, 0), (1, 3, 0, 0, 0), (1, 4, 0, 0, 0), (1, 5, 0, 0, 0), (1, 6, 0, 0, 0), (1, 7, 0, 0, 0)], [], [], [])), [(2, 0, 81), (0, 7, 52), (2, 0, 0)])
def zpA583h41 : Nat × zTm × zRk := (113, ([(0, 6, 0, 0)], ([[(0, 0)], [(0, 40)], [(0, 5)], [(0, 14)], [(0, 5)], [(0, 14)], [(46, 46)], [(0, 52)]], [], [(3, 0, 90, 0, 0), (1, 2, 0, 0, 0), (1, 3, 0, 0, 0), (1, 4, 0, 0, 0), (1, 5, 0, 0, 0), (1, 6, 0, 0, 0), (1, 7, 0, 0, 0)], [], [], [])), [(2, 0, 83), (0, 7, 52), (2, 0, 0)])
def zpA583h42 : Nat × zTm × zRk := (113, ([(0, 6, 0, 0)], ([[(0, 0)], [(0, 40)], [(0, 5)], [(0, 13)], [(0, 5)], [(0, 13)], [(47, 47)], [(0, 52)]], [], [(3, 0, 90, 0, 0), (1, 2, 0, 0, 0), (1, 3, 0, 0, 0), (1, 4, 0, 0, 0), (1, 5, 0, 0, 0), (1, 6, 0, 0, 0), (1, 7, 0, 0, 0)], [], [], [])), [(2, 0, 85), (0, 7, 52), (2, 0, 0)])
def zpA583h43 : Nat × zTm × zRk := (113, ([(0, 6, 0, 0)], ([[(0, 0)], [(0, 40)], [(0, 5)], [(0, 12)], [(0, 5)], [(0, 12)], [(48, 48)], [(0, 52)]], [], [(3, 0, 90, 0, 0), (1, 2, 0, 0, 0), (1, 3, 0, 0, 0), (1, 4, 0, 0, 0), (1, 5, 0, 0, 0), (1, 6, 0, 0, 0), (1, 7, 0, 0, 0)], [], [], [])), [(2, 0, 87), (0, 7, 52), (2, 0, 0)])
def zpA583h44 : Nat × zTm × zRk := (113, ([(0, 6, 0, 0)], ([[(0, 0)], [(0, 40)], [(0, 5)], [(0, 11)], [(0, 5)], [(0, 11)], [(49, 49)], [(0, 52)]], [], [(3, 0, 90, 0, 0), (1, 2, 0, 0, 0), (1, 3, 0, 0, 0), (1, 4, 0, 0, 0), (1, 5, 0, 0, 0), (1, 6, 0, 0, 0), (1, 7, 0, 0, 0)], [], [], [])), [(2, 0, 89), (0, 7, 52), (2, 0, 0)])
def zpA583h45 : Nat × zTm × zRk := (113, ([(0, 6, 0, 0)], ([[(0, 0)], [(0, 40)], [(0, 5)], [(0, 55)], [(0, 5)], [(0, 55)], [(5, 5)], [(0, 5)]], [], [(3, 0, 90, 0, 0), (1, 2, 0, 0, 0), (1, 3, 0, 0, 0), (1, 4, 0, 0, 0), (1, 5, 0, 0, 0), (1, 6, 0, 0, 0), (1, 7, 0, 0, 0)], [], [], [])), [(2, 0, 91), (0, 7, 5), (2, 0, 0)])
def zpA583h46 : Nat × zTm × zRk := (113, ([(0, 6, 0, 0)], ([[(0, 0)], [(0, 40)], [(0, 5)], [(0, 10)], [(0, 5)], [(0, 10)], [(50, 50)], [(0, 52)]], [], [(3, 0, 90, 0, 0), (1, 2, 0, 0, 0), (1, 3, 0, 0, 0), (1, 4, 0, 0, 0), (1, 5, 0, 0, 0), (1, 6, 0, 0, 0), (1, 7, 0, 0, 0)], [], [], [])), [(2, 0, 93), (0, 7, 52), (2, 0, 0)])
def zpA583h47 : Nat × zTm × zRk := (113, ([(0, 6, 0, 0)], ([[(0, 0)], [(0, 40)], [(0, 5)], [(0, 9)], [(0, 5)], [(0, 9)], [(51, 51)], [(0, 52)]], [], [(3, 0, 90, 0, 0), (1, 2, 0, 0, 0), (1, 3, 0, 0, 0), (1, 4, 0, 0, 0), (1, 5, 0, 0, 0), (1, 6, 0, 0, 0), (1, 7, 0, 0, 0)], [], [], [])), [(2, 0, 95), (0, 7, 52), (2, 0, 0)])
def zpA583h48 : Nat × zTm × zRk := (113, ([(0, 6, 0, 0)], ([[(0, 0)], [(0, 40)], [(0, 5)], [(0, 8)], [(0, 5)], [(0, 8)], [(52, 52)], [(0, 52)]], [], [(3, 0, 90, 0, 0), (1, 2, 0, 0, 0), (1, 3, 0, 0, 0), (1, 4, 0, 0, 0), (1, 5, 0, 0, 0), (1, 6, 0, 0, 0), (1, 7, 0, 0, 0)], [], [], [])), [(2, 0, 97), (0, 7, 52), (2, 0, 0)])
def zpA583h49 : Nat × zTm × zRk := (113, ([(0, 6, 0, 0)], ([[(0, 0)], [(0, 40)], [(0, 5)], [(0, 7)], [(0, 5)], [(0, 7)], [(53, 53)], [(0, 53)]], [], [(3, 0, 90, 0, 0), (1, 2, 0, 0, 0), (1, 3, 0, 0, 0), (1, 4, 0, 0, 0), (1, 5, 0, 0, 0), (1, 6, 0, 0, 0), (1, 7, 0, 0, 0)], [], [], [])), [(2, 0, 99), (0, 7, 53), (2, 0, 0)])
def zpA583h50 : Nat × zTm × zRk := (113, ([(0, 6, 0, 0)], ([[(0, 0)], [(0, 40)], [(0, 5)], [(0, 6)], [(0, 5)], [(0, 6)], [(54, 54)], [(0, 58)]], [], [(3, 0, 90, 0, 0), (1, 2, 0, 0, 0), (1, 3, 0, 0, 0), (1, 4, 0, 0, 0), (1, 5, 0, 0, 0), (1, 6, 0, 0, 0), (1, 7, 0, 0, 0)], [], [], [])), [(2, 0, 101), (0, 7, 58), (2, 0, 0)])
def zpA583h51 : Nat × zTm × zRk := (113, ([(0, 6, 0, 0)], ([[(0, 0)], [(0, 40)], [(0, 5)], [(0, 5)], [(0, 5)], [(0, 5)], [(55, 55)], [(0, 58)]], [], [(3, 0, 90, 0, 0), (1, 2, 0, 0, 0), (1, 3, 0, 0, 0), (1, 4, 0, 0, 0), (1, 5, 0, 0, 0), (1, 6, 0, 0, 0), (1, 7, 0, 0, 0)], [], [], [])), [(2, 0, 103), (0, 7, 58), (2, 0, 0)])
def zpA583h52 : Nat × zTm × zRk := (113, ([(0, 6, 0, 0)], ([[(0, 0)], [(0, 40)], [(0, 5)], [(0, 4)], [(0, 5)], [(0, 4)], [(56, 56)], [(0, 58)]], [], [(3, 0, 90, 0, 0), (1, 2, 0, 0, 0), (1, 3, 0, 0, 0), (1, 4, 0, 0, 0), (1, 5, 0, 0, 0), (1, 6, 0, 0, 0), (1, 7, 0, 0, 0)], [], [], [])), [(2, 0, 105), (0, 7, 58), (2, 0, 0)])
def zpA583h53 : Nat × zTm × zRk := (113, ([(0, 6, 0, 0)], ([[(0, 0)], [(0, 40)], [(0, 5)], [(0, 3)], [(0, 5)], [(0, 3)], [(57, 57)], [(0, 58)]], [], [(3, 0, 90, 0, 0), (1, 2, 0, 0, 0), (1, 3, 0, 0, 0), (1, 4, 0, 0, 0), (1, 5, 0, 0, 0), (1, 6, 0, 0, 0), (1, 7, 0, 0, 0)], [], [], [])), [(2, 0, 107), (0, 7, 58), (2, 0, 0)])
def zpA583h54 : Nat × zTm × zRk := (113, ([(0, 6, 0, 0)], ([[(0, 0)], [(0, 40)], [(0, 5)], [(0, 2)], [(0, 5)], [(0, 2)], [(58, 58)], [(0, 58)]], [], [(3, 0, 90, 0, 0), (1, 2, 0, 0, 0), (1, 3, 0, 0, 0), (1, 4, 0, 0, 0), (1, 5, 0, 0, 0), (1, 6, 0, 0, 0), (1, 7, 0, 0, 0)], [], [], [])), [(2, 0, 109), (0, 7, 58), (2, 0, 0)])
def zpA583h55 : Nat × zTm × zRk := (113, ([(0, 6, 0, 0)], ([[(0, 0)], [(0, 40)], [(0, 5)], [(0, 1)], [(0, 5)], [(0, 1)], [(59, 59)], [(0, 59)]], [], [(3, 0, 90, 0, 0), (1, 2, 0, 0, 0), (1, 3, 0, 0, 0), (1, 4, 0, 0, 0), (1, 5, 0, 0, 0), (1, 6, 0, 0, 0), (1, 7, 0, 0, 0)], [], [], [])), [(2, 0, 111), (0, 7, 59), (2, 0, 0)])
def zpA583h56 : Nat × zTm × zRk := (113, ([(0, 6, 0, 0)], ([[(0, 0)], [(0, 40)], [(0, 5)], [(0, 54)], [(0, 5)], [(0, 54)], [(6, 6)], [(0, 6)]], [], [(3, 0, 90, 0, 0), (1, 2, 0, 0, 0), (1, 3, 0, 0, 0), (1, 4, 0, 0, 0), (1, 5, 0, 0, 0), (1, 6, 0, 0, 0), (1, 7, 0, 0, 0)], [], [], [])), [(2, 0, 113), (0, 7, 6), (2, 0, 0)])
def zpA583h57 : Nat × zTm × zRk := (113, ([(0, 6, 0, 0)], ([[(0, 0)], [(0, 40)], [(0, 5)], [(0, 0)], [(0, 5)], [(0, 0)], [(60, 60)], [(0, 60)]], [], [(3, 0, 90, 0, 0), (1, 2, 0, 0, 0), (1, 3, 0, 0, 0), (1, 4, 0, 0, 0), (1, 5, 0, 0, 0), (1, 6, 0, 0, 0), (1, 7, 0, 0, 0)], [], [], [])), [(2, 0, 115), (0, 7, 60), (2, 0, 0)])
def zpA583h58 : Nat × zTm × zRk := (113, ([(0, 6, 0, 0)], ([[(0, 0)], [(0, 40)], [(0, 5)], [(0, 53)], [(0, 5)], [(0, 53)], [(7, 7)], [(0, 7)]], [], [(3, 0, 90, 0, 0), (1, 2, 0, 0, 0), (1, 3, 0, 0, 0), (1, 4, 0, 0, 0), (1, 5, 0, 0, 0), (1, 6, 0, 0, 0), (1, 7, 0, 0, 0)], [], [], [])), [(2, 0, 117), (0, 7, 7), (2, 0, 0)])
def zpA583h59 : Nat × zTm × zRk := (113, ([(0, 6, 0, 0)], ([[(0, 0)], [(0, 40)], [(0, 5)], [(0, 52)], [(0, 5)], [(0, 52)], [(8, 8)], [(0, 8)]], [], [(3, 0, 90, 0, 0), (1, 2, 0, 0, 0), (1, 3, 0, 0, 0), (1, 4, 0, 0, 0), (1, 5, 0, 0, 0), (1, 6, 0, 0, 0), (1, 7, 0, 0, 0)], [], [], [])), [(2, 0, 119), (0, 7, 8), (2, 0, 0)])
def zpA583h60 : Nat × zTm × zRk := (113, ([(0, 6, 0, 0)], ([[(0, 0)], [(0, 40)], [(0, 5)], [(0, 51)], [(0, 5)], [(0, 51)], [(9, 9)], [(0, 9)]], [], [(3, 0, 90, 0, 0), (1, 2, 0, 0, 0), (1, 3, 0, 0, 0), (1, 4, 0, 0, 0), (1, 5, 0, 0, 0), (1, 6, 0, 0, 0), (1, 7, 0, 0, 0)], [], [], [])), [(2, 0, 121), (0, 7, 9), (2, 0, 0)])
def zpA583h61 : Nat × zTm × zRk := (150, ([], ([[(0, 0)], [(0, 40)], [(0, 5)], [(0, 60)], [(0, 5)], [(0, 60)], [(0, 0)]], [], [(3, 0, 90, 0, 0), (1, 2, 0, 0, 0), (1, 3, 0, 0, 0), (1, 4, 0, 0, 0), (1, 5, 0, 0, 0), (1, 6, 0, 0, 0), (1, 0, 0, 0, 0)], [], [], [])), [(2, 0, 0)])
def zpA583h62 : Nat × zTm × zRk := (150, ([(0, 6, 0, 0)], ([[(0, 0)], [(0, 40)], [(0, 5)], [(0, 59)], [(0, 5)], [(0, 59)], [(1, 1)], [(0, 1)]], [], [(3, 0, 90, 0, 0), (1, 2, 0, 0, 0), (1, 3, 0, 0, 0), (1, 4, 0, 0, 0), (1, 5, 0, 0, 0), (1, 6, 0, 0, 0), (1, 7, 0, 0, 0)], [], [], [])), [(2, 0, 2), (0, 7, 1), (2, 0, 0)])
def zpA583h63 : Nat × zTm × zRk := (150, ([(0, 6, 0, 0)], ([[(0, 0)], [(0, 40)], [(0, 5)], [(0, 50)], [(0, 5)], [(0, 50)], [(10, 10)], [(0, 10)]], [], [(3, 0, 90, 0, 0), (1, 2, 0, 0, 0), (1, 3, 0, 0, 0), (1, 4, 0, 0, 0), (1, 5, 0, 0, 0), (1, 6, 0, 0, 0), (1, 7, 0, 0, 0)], [], [], [])), [(2, 0, 4), (0, 7, 10), (2, 0, 0)])
def zpA583h64 : Nat × zTm × zRk := (150, ([(0, 6, 0, 0)], ([[(0, 0)], [(0, 40)], [(0, 5)], [(0, 49)], [(0, 5)], [(0, 49)], [(11, 11)], [(0, 11)]], [], [(3, 0, 90, 0, 0), (1, 2, 0, 0, 0), (1, 3, 0, 0, 0), (1, 4, 0, 0, 0), (1, 5, 0, 0, 0), (1, 6, 0, 0, 0), (1, 7, 0, 0, 0)], [], [], [])), [(2, 0, 6), (0, 7, 11), (2, 0, 0)])
def zpA583h65 : Nat × zTm × zRk := (150, ([(0, 6, 0, 0)], ([[(0, 0)], [(0, 40)], [(0, 5)], [(0, 48)], [(0, 5)], [(0, 48)], [(12, 12)], [(0, 12)]], [], [(3, 0, 90, 0, 0), (1, 2, 0, 0, 0), (1, 3, 0, 0, 0), (1, 4, 0, 0, 0), (1, 5, 0, 0, 0), (1, 6, 0, 0, 0), (1, 7, 0, 0, 0)], [], [], [])), [(2, 0, 8), (0, 7, 12), (2, 0, 0)])
def zpA583h66 : Nat × zTm × zRk := (150, ([(0, 6, 0, 0)], ([[(0, 0)], [(0, 40)], [(0, 5)], [(0, 47)], [(0, 5)], [(0, 47)], [(13, 13)], [(0, 13)]], [], [(3, 0, 90, 0, 0), (1, 2, 0, 0, 0), (1, 3, 0, 0, 0), (1, 4, 0, 0, 0), (1, 5, 0, 0, 0), (1, 6, 0, 0, 0), (1, 7, 0, 0, 0)], [], [], [])), [(2, 0, 10), (0, 7, 13), (2, 0, 0)])
def zpA583h67 : Nat × zTm × zRk := (150, ([(0, 6, 0, 0)], ([[(0, 0)], [(0, 40)], [(0, 5)], [(0, 46)], [(0, 5)], [(0, 46)], [(14, 14)], [(0, 15)]], [], [(3, 0, 90, 0, 0), (1, 2, 0, 0, 0), (1, 3, 0, 0, 0), (1, 4, 0, 0, 0), (1, 5, 0, 0, 0), (1, 6, 0, 0, 0), (1, 7, 0, 0, 0)], [], [], [])), [(2, 0, 12), (0, 7, 15), (2, 0, 0)])
def zpA583h68 : Nat × zTm × zRk := (150, ([(0, 6, 0, 0)], ([[(0, 0)], [(0, 40)], [(0, 5)], [(0, 45)], [(0, 5)], [(0, 45)], [(15, 15)], [(0, 15)]], [], [(3, 0, 90, 0, 0), (1, 2, 0, 0, 0), (1, 3, 0, 0, 0), (1, 4, 0, 0, 0), (1, 5, 0, 0, 0), (1, 6, 0, 0, 0), (1, 7, 0, 0, 0)], [], [], [])), [(2, 0, 14), (0, 7, 15), (2, 0, 0)])
def zpA583h69 : Nat × zTm × zRk := (150, ([(0, 6, 0, 0)], ([[(0, 0)], [(0, 40)], [(0, 5)], [(0, 44)], [(0, 5)], [(0, 44)], [(16, 16)], [(0, 19)]], [], [(3, 0, 90, 0, 0), (1, 2, 0, 0, 0), (1, 3, 0, 0, 0), (1, 4, 0, 0, 0), (1, 5, 0, 0, 0), (1, 6, 0, 0, 0), (1, 7, 0, 0, 0)], [], [], [])), [(2, 0, 16), (0, 7, 19), (2, 0, 0)])
def zpA583h70 : Nat × zTm × zRk := (150, ([(0, 6, 0, 0)], ([[(0, 0)], [(0, 40)], [(0, 5)], [(0, 43)], [(0, 5)], [(0, 43)], [(17, 17)], [(0, 19)]], [], [(3, 0, 90, 0, 0), (1, 2, 0, 0, 0), (1, 3, 0, 0, 0), (1, 4, 0, 0, 0), (1, 5, 0, 0, 0), (1, 6, 0, 0, 0), (1, 7, 0, 0, 0)], [], [], [])), [(2, 0, 18), (0, 7, 19), (2, 0, 0)])
def zpA583h71 : Nat × zTm × zRk := (150, ([(0, 6, 0, 0)], ([[(0, 0)], [(0, 40)], [(0, 5)], [(0, 42)], [(0, 5)], [(0, 42)], [(18, 18)], [(0, 19)]], [], [(3, 0, 90, 0, 0), (1, 2, 0, 0, 0), (1, 3, 0, 0, 0), (1, 4, 0, 0, 0), (1, 5, 0, 0, 0), (1, 6, 0, 0, 0), (1, 7, 0, 0, 0)], [], [], [])), [(2, 0, 20), (0, 7, 19), (2, 0, 0)])
def zpA583h72 : Nat × zTm × zRk := (150, ([(0, 6, 0, 0)], ([[(0, 0)], [(0, 40)], [(0, 5)], [(0, 41)], [(0, 5)], [(0, 41)], [(19, 19)], [(0, 19)]], [], [(3, 0, 90, 0, 0), (1, 2, 0, 0, 0), (1, 3, 0, 0, 0), (1, 4, 0, 0, 0), (1, 5, 0, 0, 0), (1, 6, 0, 0, 0), (1, 7, 0, 0, 0)], [], [], [])), [(2, 0, 22), (0, 7, 19), (2, 0, 0)])
def zpA583h73 : Nat × zTm × zRk := (150, ([(0, 6, 0, 0)], ([[(0, 0)], [(0, 40)], [(0, 5)], [(0, 58)], [(0, 5)], [(0, 58)], [(2, 2)], [(0, 2)]], [], [(3, 0, 90, 0, 0), (1, 2, 0, 0, 0), (1, 3, 0, 0, 0), (1, 4, 0, 0, 0), (1, 5, 0, 0, 0), (1, 6, 0, 0, 0), (1, 7, 0, 0, 0)], [], [], [])), [(2, 0, 24), (0, 7, 2), (2, 0, 0)])
def zpA583h74 : Nat × zTm × zRk := (150, ([(0, 6, 0, 0)], ([[(0, 0)], [(0, 40)], [(0, 5)], [(0, 40)], [(0, 5)], [(0, 40)], [(20, 20)], [(0, 20)]], [], [(3, 0, 90, 0, 0), (1, 2, 0, 0, 0), (1, 3, 0, 0, 0), (1, 4, 0, 0, 0), (1, 5, 0, 0, 0), (1, 6, 0, 0, 0), (1, 7, 0, 0, 0)], [], [], [])), [(2, 0, 26), (0, 7, 20), (2, 0, 0)])
def zpA583h75 : Nat × zTm × zRk := (150, ([(0, 6, 0, 0)], ([[(0, 0)], [(0, 40)], [(0, 5)], [(0, 39)], [(0, 5)], [(0, 39)], [(21, 21)], [(0, 23)]], [], [(3, 0, 90, 0, 0), (1, 2, 0, 0, 0), (1, 3, 0, 0, 0), (1, 4, 0, 0, 0), (1, 5, 0, 0, 0), (1, 6, 0, 0, 0), (1, 7, 0, 0, 0)], [], [], [])), [(2, 0, 28), (0, 7, 23), (2, 0, 0)])
def zpA583h76 : Nat × zTm × zRk := (150, ([(0, 6, 0, 0)], ([[(0, 0)], [(0, 40)], [(0, 5)], [(0, 38)], [(0, 5)], [(0, 38)], [(22, 22)], [(0, 23)]], [], [(3, 0, 90, 0, 0), (1, 2, 0, 0, 0), (1, 3, 0, 0, 0), (1, 4, 0, 0, 0), (1, 5, 0, 0, 0), (1, 6, 0, 0, 0), (1, 7, 0, 0, 0)], [], [], [])), [(2, 0, 30), (0, 7, 23), (2, 0, 0)])
def zpA583h77 : Nat × zTm × zRk := (150, ([(0, 6, 0, 0)], ([[(0, 0)], [(0, 40)], [(0, 5)], [(0, 37)], [(0, 5)], [(0, 37)], [(23, 23)], [(0, 23)]], [], [(3, 0, 90, 0, 0), (1, 2, 0, 0, 0), (1, 3, 0, 0, 0), (1, 4, 0, 0, 0), (1, 5, 0, 0, 0), (1, 6, 0, 0, 0), (1, 7, 0, 0, 0)], [], [], [])), [(2, 0, 32), (0, 7, 23), (2, 0, 0)])
def zpA583h78 : Nat × zTm × zRk := (150, ([(0, 6, 0, 0)], ([[(0, 0)], [(0, 40)], [(0, 5)], [(0, 36)], [(0, 5)], [(0, 36)], [(24, 24)], [(0, 24)]], [], [(3, 0, 90, 0, 0), (1, 2, 0, 0, 0), (1, 3, 0, 0, 0), (1, 4, 0, 0, 0), (1, 5, 0, 0, 0), (1, 6, 0, 0, 0), (1, 7, 0, 0, 0)], [], [], [])), [(2, 0, 34), (0, 7, 24), (2, 0, 0)])
def zpA583h79 : Nat × zTm × zRk := (150, ([(0, 6, 0, 0)], ([[(0, 0)], [(0, 40)], [(0, 5)], [(0, 35)], [(0, 5)], [(0, 35)], [(25, 25)], [(0, 29)]], [], [(3, 0, 90, 0, 0), (1, 2, 0, 0, 0), (1, 3, 0, 0, 0), (1, 4, 0, 0, 0), (1, 5, 0, 0, 0), (1, 6, 0, 0, 0), (1, 7, 0, 0, 0)], [], [], [])), [(2, 0, 36), (0, 7, 29), (2, 0, 0)])
def zpA583h80 : Nat × zTm × zRk := (150, ([(0, 6, 0, 0)], ([[(0, 0)], [(0, 40)], [(0, 5)], [(0, 34)], [(0, 5)], [(0, 34)], [(26, 26)], [(0, 29)]], [], [(3, 0, 90, 0, 0), (1, 2, 0, 0, 0), (1, 3, 0, 0, 0), (1, 4, 0, 0, 0), (1, 5, 0, 0, 0), (1, 6, 0, 0, 0), (1, 7, 0, 0, 0)], [], [], [])), [(2, 0, 38), (0, 7, 29), (2, 0, 0)])
def zpA583h81 : Nat × zTm × zRk := (150, ([(0, 6, 0, 0)], ([[(0, 0)], [(0, 40)], [(0, 5)], [(0, 33)], [(0, 5)], [(0, 33)], [(27, 27)], [(0, 29)]], [], [(3, 0, 90, 0, 0), (1, 2, 0, 0, 0), (1, 3, 0, 0, 0), (1, 4, 0, 0, 0), (1, 5, 0, 0, 0), (1, 6, 0, 0, 0), (1, 7, 0, 0, 0)], [], [], [])), [(2, 0, 40), (0, 7, 29), (2, 0, 0)])
def zpA583h82 : Nat × zTm × zRk := (150, ([(0, 6, 0, 0)], ([[(0, 0)], [(0, 40)], [(0, 5)], [(0, 32)], [(0, 5)], [(0, 32)], [(28, 28)], [(0, 29)]], [], [(3, 0, 90, 0, 0), (1, 2, 0, 0, 0), (1, 3, 0, 0, 0), (1, 4, 0, 0, 0), (1, 5, 0, 0, 0), (1, 6, 0, 0, 0), (1, 7, 0, 0, 0)], [], [], [])), [(2, 0, 42), (0, 7, 29), (2, 0, 0)])
def zpA583h83 : Nat × zTm × zRk := (150, ([(0, 6, 0, 0)], ([[(0, 0)], [(0, 40)], [(0, 5)], [(0, 31)], [(0, 5)], [(0, 31)], [(29, 29)], [(0, 29)]], [], [(3, 0, 90, 0, 0), (1, 2, 0, 0, 0), (1, 3, 0, 0, 0), (1, 4, 0, 0, 0), (1, 5, 0, 0, 0), (1, 6, 0, 0, 0), (1, 7, 0, 0, 0)], [], [], [])), [(2, 0, 44), (0, 7, 29), (2, 0, 0)])
def zpA583h84 : Nat × zTm × zRk := (150, ([(0, 6, 0, 0)], ([[(0, 0)], [(0, 40)], [(0, 5)], [(0, 57)], [(0, 5)], [(0, 57)], [(3, 3)], [(0, 3)]], [], [(3, 0, 90, 0, 0), (1, 2, 0, 0, 0), (1, 3, 0, 0, 0), (1, 4, 0, 0, 0), (1, 5, 0, 0, 0), (1, 6, 0, 0, 0), (1, 7, 0, 0, 0)], [], [], [])), [(2, 0, 46), (0, 7, 3), (2, 0, 0)])
def zpA583h85 : Nat × zTm × zRk := (150, ([(0, 6, 0, 0)], ([[(0, 0)], [(0, 40)], [(0, 5)], [(0, 30)], [(0, 5)], [(0, 30)], [(30, 30)], [(0, 30)]], [], [(3, 0, 90, 0, 0), (1, 2, 0, 0, 0), (1, 3, 0, 0, 0), (1, 4, 0, 0, 0), (1, 5, 0, 0, 0), (1, 6, 0, 0, 0), (1, 7, 0, 0, 0)], [], [], [])), [(2, 0, 48), (0, 7, 30), (2, 0, 0)])
def zpA583h86 : Nat × zTm × zRk := (150, ([(0, 6, 0, 0)], ([[(0, 0)], [(0, 40)], [(0, 5)], [(0, 29)], [(0, 5)], [(0, 29)], [(31, 31)], [(0, 31)]], [], [(3, 0, 90, 0, 0), (1, 2, 0, 0, 0), (1, 3, 0, 0, 0), (1, 4, 0, 0, 0), (1, 5, 0, 0, 0), (1, 6, 0, 0, 0), (1, 7, 0, 0, 0)], [], [], [])), [(2, 0, 50), (0, 7, 31), (2, 0, 0)])
def zpA583h87 : Nat × zTm × zRk := (150, ([(0, 6, 0, 0)], ([[(0, 0)], [(0, 40)], [(0, 5)], [(0, 28)], [(0, 5)], [(0, 28)], [(32, 32)], [(0, 32)]], [], [(3, 0, 90, 0, 0), (1, 2, 0, 0, 0), (1, 3, 0, 0, 0), (1, 4, 0, 0, 0), (1, 5, 0, 0, 0), (1, 6, 0, 0, 0), (1, 7, 0, 0, 0)], [], [], [])), [(2, 0, 52), (0, 7, 32), (2, 0, 0)])
def zpA583h88 : Nat × zTm × zRk := (150, ([(0, 6, 0, 0)], ([[(0, 0)], [(0, 40)], [(0, 5)], [(0, 27)], [(0, 5)], [(0, 27)], [(33, 33)], [(0, 38)]], [], [(3, 0, 90, 0, 0), (1, 2, 0, 0, 0), (1, 3, 0, 0, 0), (1, 4, 0, 0, 0), (1, 5, 0, 0, 0), (1, 6, 0, 0, 0), (1, 7, 0, 0, 0)], [], [], [])), [(2, 0, 54), (0, 7, 38), (2, 0, 0)])
def zpA583h89 : Nat × zTm × zRk := (150, ([(0, 6, 0, 0)], ([[(0, 0)], [(0, 40)], [(0, 5)], [(0, 26)], [(0, 5)], [(0, 26)], [(34, 34)], [(0, 38)]], [], [(3, 0, 90, 0, 0), (1, 2, 0, 0, 0), (1, 3, 0, 0, 0), (1, 4, 0, 0, 0), (1, 5, 0, 0, 0), (1, 6, 0, 0, 0), (1, 7, 0, 0, 0)], [], [], [])), [(2, 0, 56), (0, 7, 38), (2, 0, 0)])
def zpA583h90 : Nat × zTm × zRk := (150, ([(0, 6, 0, 0)], ([[(0, 0)], [(0, 40)], [(0, 5)], [(0, 25)], [(0, 5)], [(0, 25)], [(35, 35)], [(0, 38)]], [], [(3, 0, 90, 0, 0), (1, 2, 0, 0, 0), (1, 3, 0, 0, 0), (1, 4, 0, 0, 0), (1, 5, 0, 0, 0), (1, 6, 0, 0, 0), (1, 7, 0, 0, 0)], [], [], [])), [(2, 0, 58), (0, 7, 38), (2, 0, 0)])
def zpA583h91 : Nat × zTm × zRk := (150, ([(0, 6, 0, 0)], ([[(0, 0)], [(0, 40)], [(0, 5)], [(0, 24)], [(0, 5)], [(0, 24)], [(36, 36)], [(0, 38)]], [], [(3, 0, 90, 0, 0), (1, 2, 0, 0, 0), (1, 3, 0, 0, 0), (1, 4, 0, 0, 0), (1, 5, 0, 0, 0), (1, 6, 0, 0, 0), (1, 7, 0, 0, 0)], [], [], [])), [(2, 0, 60), (0, 7, 38), (2, 0, 0)])
def zpA583h92 : Nat × zTm × zRk := (150, ([(0, 6, 0, 0)], ([[(0, 0)], [(0, 40)], [(0, 5)], [(0, 23)], [(0, 5)], [(0, 23)], [(37, 37)], [(0, 38)]], [], [(3, 0, 90, 0, 0), (1, 2, 0, 0, 0), (1, 3, 0, 0, 0), (1, 4, 0, 0, 0), (1, 5, 0, 0, 0), (1, 6, 0, 0, 0), (1, 7, 0, 0, 0)], [], [], [])), [(2, 0, 62), (0, 7, 38), (2, 0, 0)])
def zpA583h93 : Nat × zTm × zRk := (150, ([(0, 6, 0, 0)], ([[(0, 0)], [(0, 40)], [(0, 5)], [(0, 22)], [(0, 5)], [(0, 22)], [(38, 38)], [(0, 38)]], [], [(3, 0, 90, 0, 0), (1, 2, 0, 0, 0), (1, 3, 0, 0, 0), (1, 4, 0, 0, 0), (1, 5, 0, 0, 0), (1, 6, 0, 0, 0), (1, 7, 0, 0, 0)], [], [], [])), [(2, 0, 64), (0, 7, 38), (2, 0, 0)])
def zpA583h94 : Nat × zTm × zRk := (150, ([(0, 6, 0, 0)], ([[(0, 0)], [(0, 40)], [(0, 5)], [(0, 21)], [(0, 5)], [(0, 21)], [(39, 39)], [(0, 39)]], [], [(3, 0, 90, 0, 0), (1, 2, 0, 0, 0), (1, 3, 0, 0, 0), (1, 4, 0, 0, 0), (1, 5, 0, 0, 0), (1, 6, 0, 0, 0), (1, 7, 0, 0, 0)], [], [], [])), [(2, 0, 66), (0, 7, 39), (2, 0, 0)])
def zpA583h95 : Nat × zTm × zRk := (150, ([(0, 6, 0, 0)], ([[(0, 0)], [(0, 40)], [(0, 5)], [(0, 56)], [(0, 5)], [(0, 56)], [(4, 4)], [(0, 4)]], [], [(3, 0, 90, 0, 0), (1, 2, 0, 0, 0), (1, 3, 0, 0, 0), (1, 4, 0, 0, 0), (1, 5, 0, 0, 0), (1, 6, 0, 0, 0), (1, 7, 0, 0, 0)], [], [], [])), [(2, 0, 68), (0, 7, 4), (2, 0, 0)])
def zpA583h96 : Nat × zTm × zRk := (150, ([(0, 6, 0, 0)], ([[(0, 0)], [(0, 40)], [(0, 5)], [(0, 20)], [(0, 5)], [(0, 20)], [(40, 40)], [(0, 40)]], [], [(3, 0, 90, 0, 0), (1, 2, 0, 0, 0), (1, 3, 0, 0, 0), (1, 4, 0, 0, 0), (1, 5, 0, 0, 0), (1, 6, 0, 0, 0), (1, 7, 0, 0, 0)], [], [], [])), [(2, 0, 70), (0, 7, 40), (2, 0, 0)])
def zpA583h97 : Nat × zTm × zRk := (150, ([(0, 6, 0, 0)], ([[(0, 0)], [(0, 40)], [(0, 5)], [(0, 19)], [(0, 5)], [(0, 19)], [(41, 41)], [(0, 41)]], [], [(3, 0, 90, 0, 0), (1, 2, 0, 0, 0), (1, 3, 0, 0, 0), (1, 4, 0, 0, 0), (1, 5, 0, 0, 0), (1, 6, 0, 0, 0), (1, 7, 0, 0, 0)], [], [], [])), [(2, 0, 72), (0, 7, 41), (2, 0, 0)])
def zpA583h98 : Nat × zTm × zRk := (150, ([(0, 6, 0, 0)], ([[(0, 0)], [(0, 40)], [(0, 5)], [(0, 18)], [(0, 5)], [(0, 18)], [(42, 42)], [(0, 52)]], [], [(3, 0, 90, 0, 0), (1, 2, 0, 0, 0), (1, 3, 0, 0, 0), (1, 4, 0, 0, 0), (1, 5, 0, 0, 0), (1, 6, 0, 0, 0), (1, 7, 0, 0, 0)], [], [], [])), [(2, 0, 74), (0, 7, 52), (2, 0, 0)])
def zpA583h99 : Nat × zTm × zRk := (150, ([(0, 6, 0, 0)], ([[(0, 0)], [(0, 40)], [(0, 5)], [(0, 17)], [(0, 5)], [(0, 17)], [(43, 43)], [(0, 52)]], [], [(3, 0, 90, 0, 0), (1, 2, 0, 0, 0), (1, 3, 0, 0, 0), (1, 4, 0, 0, 0), (1, 5, 0, 0, 0), (1, 6, 0, 0, 0), (1, 7, 0, 0, 0)], [], [], [])), [(2, 0, 76), (0, 7, 52), (2, 0, 0)])
def zpA583h100 : Nat × zTm × zRk := (150, ([(0, 6, 0, 0)], ([[(0, 0)], [(0, 40)], [(0, 5)], [(0, 16)], [(0, 5)], [(0, 16)], [(44, 44)], [(0, 52)]], [], [(3, 0, 90, 0, 0), (1, 2, 0, 0, 0), (1, 3, 0, 0, 0), (1, 4, 0, 0, 0), (1, 5, 0, 0, 0), (1, 6, 0, 0, 0), (1, 7, 0, 0, 0)], [], [], [])), [(2, 0, 78), (0, 7, 52), (2, 0, 0)])
def zpA583h101 : Nat × zTm × zRk := (150, ([(0, 6, 0, 0)], ([[(0, 0)], [(0, 40)], [(0, 5)], [(0, 15)], [(0, 5)], [(0, 15)], [(45, 45)], [(0, 52)]], [], [(3, 0, 90, 0, 0), (1, 2, 0, 0, 0), (1, 3, 0, 0, 0), (1, 4, 0, 0, 0), (1, 5, 0, 0, 0), (1, 6, 0, 0, 0), (1, 7, 0, 0, 0)], [], [], [])), [(2, 0, 80), (0, 7, 52), (2, 0, 0)])
def zpA583h102 : Nat × zTm × zRk := (150, ([(0, 6, 0, 0)], ([[(0, 0)], [(0, 40)], [(0, 5)], [(0, 14)], [(0, 5)], [(0, 14)], [(46, 46)], [(0, 52)]], [], [(3, 0, 90, 0, 0), (1, 2, 0, 0, 0), (1, 3, 0, 0, 0), (1, 4, 0, 0, 0), (1, 5, 0, 0, 0), (1, 6, 0, 0, 0), (1, 7, 0, 0, 0)], [], [], [])), [(2, 0, 82), (0, 7, 52), (2, 0, 0)])
def zpA583h103 : Nat × zTm × zRk := (150, ([(0, 6, 0, 0)], ([[(0, 0)], [(0, 40)], [(0, 5)], [(0, 13)], [(0, 5)], [(0, 13)], [(47, 47)], [(0, 52)]], [], [(3, 0, 90, 0, 0), (1, 2, 0, 0, 0), (1, 3, 0, 0, 0), (1, 4, 0, 0, 0), (1, 5, 0, 0, 0), (1, 6, 0, 0, 0), (1, 7, 0, 0, 0)], [], [], [])), [(2, 0, 84), (0, 7, 52), (2, 0, 0)])
def zpA583h104 : Nat × zTm × zRk := (150, ([(0, 6, 0, 0)], ([[(0, 0)], [(0, 40)], [(0, 5)], [(0, 12)], [(0, 5)], [(0, 12)], [(48, 48)], [(0, 52)]], [], [(3, 0, 90, 0, 0), (1, 2, 0, 0, 0), (1, 3, 0, 0, 0), (1, 4, 0, 0, 0), (1, 5, 0, 0, 0), (1, 6, 0, 0, 0), (1, 7, 0, 0, 0)], [], [], [])), [(2, 0, 86), (0, 7, 52), (2, 0, 0)])
def zpA583h105 : Nat × zTm × zRk := (150, ([(0, 6, 0, 0)], ([[(0, 0)], [(0, 40)], [(0, 5)], [(0, 11)], [(0, 5)], [(0, 11)], [(49, 49)], [(0, 52)]], [], [(3, 0, 90, 0, 0), (1, 2, 0, 0, 0), (1, 3, 0, 0, 0), (1, 4, 0, 0, 0), (1, 5, 0, 0, 0), (1, 6, 0, 0, 0), (1, 7, 0, 0, 0)], [], [], [])), [(2, 0, 88), (0, 7, 52), (2, 0, 0)])
def zpA583h106 : Nat × zTm × zRk := (150, ([(0, 6, 0, 0)], ([[(0, 0)], [(0, 40)], [(0, 5)], [(0, 55)], [(0, 5)], [(0, 55)], [(5, 5)], [(0, 5)]], [], [(3, 0, 90, 0, 0), (1, 2, 0, 0, 0), (1, 3, 0, 0, 0), (1, 4, 0, 0, 0), (1, 5, 0, 0, 0), (1, 6, 0, 0, 0), (1, 7, 0, 0, 0)], [], [], [])), [(2, 0, 90), (0, 7, 5), (2, 0, 0)])
def zpA583h107 : Nat × zTm × zRk := (150, ([(0, 6, 0, 0)], ([[(0, 0)], [(0, 40)], [(0, 5)], [(0, 10)], [(0, 5)], [(0, 10)], [(50, 50)], [(0, 52)]], [], [(3, 0, 90, 0, 0), (1, 2, 0, 0, 0), (1, 3, 0, 0, 0), (1, 4, 0, 0, 0), (1, 5, 0, 0, 0), (1, 6, 0, 0, 0), (1, 7, 0, 0, 0)], [], [], [])), [(2, 0, 92), (0, 7, 52), (2, 0, 0)])
def zpA583h108 : Nat × zTm × zRk := (150, ([(0, 6, 0, 0)], ([[(0, 0)], [(0, 40)], [(0, 5)], [(0, 9)], [(0, 5)], [(0, 9)], [(51, 51)], [(0, 52)]], [], [(3, 0, 90, 0, 0), (1, 2, 0, 0, 0), (1, 3, 0, 0, 0), (1, 4, 0, 0, 0), (1, 5, 0, 0, 0), (1, 6, 0, 0, 0), (1, 7, 0, 0, 0)], [], [], [])), [(2, 0, 94), (0, 7, 52), (2, 0, 0)])
def zpA583h109 : Nat × zTm × zRk := (150, ([(0, 6, 0, 0)], ([[(0, 0)], [(0, 40)], [(0, 5)], [(0, 8)], [(0, 5)], [(0, 8)], [(52, 52)], [(0, 52)]], [], [(3, 0, 90, 0, 0), (1, 2, 0, 0, 0), (1, 3, 0, 0, 0), (1, 4, 0, 0, 0), (1, 5, 0, 0, 0), (1, 6, 0, 0, 0), (1, 7, 0, 0, 0)], [], [], [])), [(2, 0, 96), (0, 7, 52), (2, 0, 0)])
def zpA583h110 : Nat × zTm × zRk := (150, ([(0, 6, 0, 0)], ([[(0, 0)], [(0, 40)], [(0, 5)], [(0, 7)], [(0, 5)], [(0, 7)], [(53, 53)], [(0, 53)]], [], [(3, 0, 90, 0, 0), (1, 2, 0, 0, 0), (1, 3, 0, 0, 0), (1, 4, 0, 0, 0), (1, 5, 0, 0, 0), (1, 6, 0, 0, 0), (1, 7, 0, 0, 0)], [], [], [])), [(2, 0, 98), (0, 7, 53), (2, 0, 0)])
def zpA583h111 : Nat × zTm × zRk := (150, ([(0, 6, 0, 0)], ([[(0, 0)], [(0, 40)], [(0, 5)], [(0, 6)], [(0, 5)], [(0, 6)], [(54, 54)], [(0, 58)]], [], [(3, 0, 90, 0, 0), (1, 2, 0, 0, 0), (1, 3, 0, 0, 0), (1, 4, 0, 0, 0), (1, 5, 0, 0, 0), (1, 6, 0, 0, 0), (1, 7, 0, 0, 0)], [], [], [])), [(2, 0, 100), (0, 7, 58), (2, 0, 0)])
def zpA583h112 : Nat × zTm × zRk := (150, ([(0, 6, 0, 0)], ([[(0, 0)], [(0, 40)], [(0, 5)], [(0, 5)], [(0, 5)], [(0, 5)], [(55, 55)], [(0, 58)]], [], [(3, 0, 90, 0, 0), (1, 2, 0, 0, 0), (1, 3, 0, 0, 0), (1, 4, 0, 0, 0), (1, 5, 0, 0, 0), (1, 6, 0, 0, 0), (1, 7, 0, 0, 0)], [], [], [])), [(2, 0, 102), (0, 7, 58), (2, 0, 0)])
def zpA583h113 : Nat × zTm × zRk := (150, ([(0, 6, 0, 0)], ([[(0, 0)], [(0, 40)], [(0, 5)], [(0, 4)], [(0, 5)], [(0, 4)], [(56, 56)], [(0, 58)]], [], [(3, 0, 90, 0, 0), (1, 2, 0, 0, 0), (1, 3, 0, 0, 0), (1, 4, 0, 0, 0), (1, 5, 0, 0, 0), (1, 6, 0, 0, 0), (1, 7, 0, 0, 0)], [], [], [])), [(2, 0, 104), (0, 7, 58), (2, 0, 0)])
def zpA583h114 : Nat × zTm × zRk := (150, ([(0, 6, 0, 0)], ([[(0, 0)], [(0, 40)], [(0, 5)], [(0, 3)], [(0, 5)], [(0, 3)], [(57, 57)], [(0, 58)]], [], [(3, 0, 90, 0, 0), (1, 2, 0, 0, 0), (1, 3, 0, 0, 0), (1, 4, 0, 0, 0), (1, 5, 0, 0, 0), (1, 6, 0, 0, 0), (1, 7, 0, 0, 0)], [], [], [])), [(2, 0, 106), (0, 7, 58), (2, 0, 0)])
def zpA583h115 : Nat × zTm × zRk := (150, ([(0, 6, 0, 0)], ([[(0, 0)], [(0, 40)], [(0, 5)], [(0, 2)], [(0, 5)], [(0, 2)], [(58, 58)], [(0, 58)]], [], [(3, 0, 90, 0, 0), (1, 2, 0, 0, 0), (1, 3, 0, 0, 0), (1, 4, 0, 0, 0), (1, 5, 0, 0, 0), (1, 6, 0, 0, 0), (1, 7, 0, 0, 0)], [], [], [])), [(2, 0, 108), (0, 7, 58), (2, 0, 0)])
def zpA583h116 : Nat × zTm × zRk := (150, ([(0, 6, 0, 0)], ([[(0, 0)], [(0, 40)], [(0, 5)], [(0, 1)], [(0, 5)], [(0, 1)], [(59, 59)], [(0, 59)]], [], [(3, 0, 90, 0, 0), (1, 2, 0, 0, 0), (1, 3, 0, 0, 0), (1, 4, 0, 0, 0), (1, 5, 0, 0, 0), (1, 6, 0, 0, 0), (1, 7, 0, 0, 0)], [], [], [])), [(2, 0, 110), (0, 7, 59), (2, 0, 0)])
def zpA583h117 : Nat × zTm × zRk := (150, ([(0, 6, 0, 0)], ([[(0, 0)], [(0, 40)], [(0, 5)], [(0, 54)], [(0, 5)], [(0, 54)], [(6, 6)], [(0, 6)]], [], [(3, 0, 90, 0, 0), (1, 2, 0, 0, 0), (1, 3, 0, 0, 0), (1, 4, 0, 0, 0), (1, 5, 0, 0, 0), (1, 6, 0, 0, 0), (1, 7, 0, 0, 0)], [], [], [])), [(2, 0, 112), (0, 7, 6), (2, 0, 0)])
def zpA583h118 : Nat × zTm × zRk := (150, ([(0, 6, 0, 0)], ([[(0, 0)], [(0, 40)], [(0, 5)], [(0, 0)], [(0, 5)], [(0, 0)], [(60, 60)], [(0, 60)]], [], [(3, 0, 90, 0, 0), (1, 2, 0, 0, 0), (1, 3, 0, 0, 0), (1, 4, 0, 0, 0), (1, 5, 0, 0, 0), (1, 6, 0, 0, 0), (1, 7, 0, 0, 0)], [], [], [])), [(2, 0, 114), (0, 7, 60), (2, 0, 0)])
def zpA583h119 : Nat × zTm × zRk := (150, ([(0, 6, 0, 0)], ([[(0, 0)], [(0, 40)], [(0, 5)], [(0, 53)], [(0, 5)], [(0, 53)], [(7, 7)], [(0, 7)]], [], [(3, 0, 90, 0, 0), (1, 2, 0, 0, 0), (1, 3, 0, 0, 0), (1, 4, 0, 0, 0), (1, 5, 0, 0, 0), (1, 6, 0, 0, 0), (1, 7, 0, 0, 0)], [], [], [])), [(2, 0, 116), (0, 7, 7), (2, 0, 0)])
def zpA583h120 : Nat × zTm × zRk := (150, ([(0, 6, 0, 0)], ([[(0, 0)], [(0, 40)], [(0, 5)], [(0, 52)], [(0, 5)], [(0, 52)], [(8, 8)], [(0, 8)]], [], [(3, 0, 90, 0, 0), (1, 2, 0, 0, 0), (1, 3, 0, 0, 0), (1, 4, 0, 0, 0), (1, 5, 0, 0, 0), (1, 6, 0, 0, 0), (1, 7, 0, 0, 0)], [], [], [])), [(2, 0, 118), (0, 7, 8), (2, 0, 0)])
def zpA583h121 : Nat × zTm × zRk := (150, ([(0, 6, 0, 0)], ([[(0, 0)], [(0, 40)], [(0, 5)], [(0, 51)], [(0, 5)], [(0, 51)], [(9, 9)], [(0, 9)]], [], [(3, 0, 90, 0, 0), (1, 2, 0, 0, 0), (1, 3, 0, 0, 0), (1, 4, 0, 0, 0), (1, 5, 0, 0, 0), (1, 6, 0, 0, 0), (1, 7, 0, 0, 0)], [], [], [])), [(2, 0, 120), (0, 7, 9), (2, 0, 0)])
def zpA583h122 : Nat × zTm × zRk := (71, ([], ([[(0, 0)], [(0, 40)], [(0, 5)], [((-2147483648), 2147483647)], [(0, 5)], [((-2147483648), 2147483647)], [(61, 2147483647)]], [], [(3, 0, 90, 0, 0), (1, 2, 0, 0, 0), (1, 3, 0, 0, 0), (1, 4, 0, 0, 0), (1, 5, 0, 0, 0), (1, 6, 0, 0, 0), (0, 0, 0, 0, 0)], [], [], [])), [(2, 0, 122)])
def zpA583h123 : Nat × zTm × zRk := (71, ([], ([[(0, 0)], [(0, 40)], [(0, 5)], [((-2147483648), 2147483647)], [(0, 5)], [((-2147483648), 2147483647)], [(0, 0)]], [], [(3, 0, 90, 0, 0), (1, 2, 0, 0, 0), (1, 3, 0, 0, 0), (1, 4, 0, 0, 0), (1, 5, 0, 0, 0), (1, 6, 0, 0, 0), (0, 0, 0, 0, 0)], [], [], [])), [(2, 0, 123)])
def zpA583h124 : Nat × zTm × zRk := (71, ([], ([[(0, 0)], [(0, 40)], [(0, 5)], [((-2147483648), 2147483647)], [(0, 5)], [((-2147483648), 2147483647)], [(1, 1)]], [], [(3, 0, 90, 0, 0), (1, 2, 0, 0, 0), (1, 3, 0, 0, 0), (1, 4, 0, 0, 0), (1, 5, 0, 0, 0), (1, 6, 0, 0, 0), (0, 0, 0, 0, 0)], [], [], [])), [(2, 0, 124)])
def zpA583h125 : Nat × zTm × zRk := (71, ([], ([[(0, 0)], [(0, 40)], [(0, 5)], [((-2147483648), 2147483647)], [(0, 5)], [((-2147483648), 2147483647)], [(10, 10)]], [], [(3, 0, 90, 0, 0), (1, 2, 0, 0, 0), (1, 3, 0, 0, 0), (1, 4, 0, 0, 0), (1, 5, 0, 0, 0), (1, 6, 0, 0, 0), (0, 0, 0, 0, 0)], [], [], [])), [(2, 0, 125)])
def zpA583h126 : Nat × zTm × zRk := (71, ([], ([[(0, 0)], [(0, 40)], [(0, 5)], [((-2147483648), 2147483647)], [(0, 5)], [((-2147483648), 2147483647)], [(11, 11)]], [], [(3, 0, 90, 0, 0), (1, 2, 0, 0, 0), (1, 3, 0, 0, 0), (1, 4, 0, 0, 0), (1, 5, 0, 0, 0), (1, 6, 0, 0, 0), (0, 0, 0, 0, 0)], [], [], [])), [(2, 0, 126)])
def zpA583h127 : Nat × zTm × zRk := (71, ([], ([[(0, 0)], [(0, 40)], [(0, 5)], [((-2147483648), 2147483647)], [(0, 5)], [((-2147483648), 2147483647)], [(12, 12)]], [], [(3, 0, 90, 0, 0), (1, 2, 0, 0, 0), (1, 3, 0, 0, 0), (1, 4, 0, 0, 0), (1, 5, 0, 0, 0), (1, 6, 0, 0, 0), (0, 0, 0, 0, 0)], [], [], [])), [(2, 0, 127)])
def zpA583h128 : Nat × zTm × zRk := (71, ([], ([[(0, 0)], [(0, 40)], [(0, 5)], [((-2147483648), 2147483647)], [(0, 5)], [((-2147483648), 2147483647)], [(13, 13)]], [], [(3, 0, 90, 0, 0), (1, 2, 0, 0, 0), (1, 3, 0, 0, 0), (1, 4, 0, 0, 0), (1, 5, 0, 0, 0), (1, 6, 0, 0, 0), (0, 0, 0, 0, 0)], [], [], [])), [(2, 0, 128)])
def zpA583h129 : Nat × zTm × zRk := (71, ([], ([[(0, 0)], [(0, 40)], [(0, 5)], [((-2147483648), 2147483647)], [(0, 5)], [((-2147483648), 2147483647)], [(14, 14)]], [], [(3, 0, 90, 0, 0), (1, 2, 0, 0, 0), (1, 3, 0, 0, 0), (1, 4, 0, 0, 0), (1, 5, 0, 0, 0), (1, 6, 0, 0, 0), (0, 0, 0, 0, 0)], [], [], [])), [(2, 0, 129)])
def zpA583h130 : Nat × zTm × zRk := (71, ([], ([[(0, 0)], [(0, 40)], [(0, 5)], [((-2147483648), 2147483647)], [(0, 5)], [((-2147483648), 2147483647)], [(15, 15)]], [], [(3, 0, 90, 0, 0), (1, 2, 0, 0, 0), (1, 3, 0, 0, 0), (1, 4, 0, 0, 0), (1, 5, 0, 0, 0), (1, 6, 0, 0, 0), (0, 0, 0, 0, 0)], [], [], [])), [(2, 0, 130)])
def zpA583h131 : Nat × zTm × zRk := (71, ([], ([[(0, 0)], [(0, 40)], [(0, 5)], [((-2147483648), 2147483647)], [(0, 5)], [((-2147483648), 2147483647)], [(16, 16)]], [], [(3, 0, 90, 0, 0), (1, 2, 0, 0, 0), (1, 3, 0, 0, 0), (1, 4, 0, 0, 0), (1, 5, 0, 0, 0), (1, 6, 0, 0, 0), (0, 0, 0, 0, 0)], [], [], [])), [(2, 0, 131)])
def zpA583h132 : Nat × zTm × zRk := (71, ([], ([[(0, 0)], [(0, 40)], [(0, 5)], [((-2147483648), 2147483647)], [(0, 5)], [((-2147483648), 2147483647)], [(17, 17)]], [], [(3, 0, 90, 0, 0), (1, 2, 0, 0, 0), (1, 3, 0, 0, 0), (1, 4, 0, 0, 0), (1, 5, 0, 0, 0), (1, 6, 0, 0, 0), (0, 0, 0, 0, 0)], [], [], [])), [(2, 0, 132)])
def zpA583h133 : Nat × zTm × zRk := (71, ([], ([[(0, 0)], [(0, 40)], [(0, 5)], [((-2147483648), 2147483647)], [(0, 5)], [((-2147483648), 2147483647)], [(18, 18)]], [], [(3, 0, 90, 0, 0), (1, 2, 0, 0, 0), (1, 3, 0, 0, 0), (1, 4, 0, 0, 0), (1, 5, 0, 0, 0), (1, 6, 0, 0, 0), (0, 0, 0, 0, 0)], [], [], [])), [(2, 0, 133)])
def zpA583h134 : Nat × zTm × zRk := (71, ([], ([[(0, 0)], [(0, 40)], [(0, 5)], [((-2147483648), 2147483647)], [(0, 5)], [((-2147483648), 2147483647)], [(19, 19)]], [], [(3, 0, 90, 0, 0), (1, 2, 0, 0, 0), (1, 3, 0, 0, 0), (1, 4, 0, 0, 0), (1, 5, 0, 0, 0), (1, 6, 0, 0, 0), (0, 0, 0, 0, 0)], [], [], [])), [(2, 0, 134)])
def zpA583h135 : Nat × zTm × zRk := (71, ([], ([[(0, 0)], [(0, 40)], [(0, 5)], [((-2147483648), 2147483647)], [(0, 5)], [((-2147483648), 2147483647)], [(2, 2)]], [], [(3, 0, 90, 0, 0), (1, 2, 0, 0, 0), (1, 3, 0, 0, 0), (1, 4, 0, 0, 0), (1, 5, 0, 0, 0), (1, 6, 0, 0, 0), (0, 0, 0, 0, 0)], [], [], [])), [(2, 0, 135)])
def zpA583h136 : Nat × zTm × zRk := (71, ([], ([[(0, 0)], [(0, 40)], [(0, 5)], [((-2147483648), 2147483647)], [(0, 5)], [((-2147483648), 2147483647)], [(20, 20)]], [], [(3, 0, 90, 0, 0), (1, 2, 0, 0, 0), (1, 3, 0, 0, 0), (1, 4, 0, 0, 0), (1, 5, 0, 0, 0), (1, 6, 0, 0, 0), (0, 0, 0, 0, 0)], [], [], [])), [(2, 0, 136)])
def zpA583h137 : Nat × zTm × zRk := (71, ([], ([[(0, 0)], [(0, 40)], [(0, 5)], [((-2147483648), 2147483647)], [(0, 5)], [((-2147483648), 2147483647)], [(21, 21)]], [], [(3, 0, 90, 0, 0), (1, 2, 0, 0, 0), (1, 3, 0, 0, 0), (1, 4, 0, 0, 0), (1, 5, 0, 0, 0), (1, 6, 0, 0, 0), (0, 0, 0, 0, 0)], [], [], [])), [(2, 0, 137)])
def zpA583h138 : Nat × zTm × zRk := (71, ([], ([[(0, 0)], [(0, 40)], [(0, 5)], [((-2147483648), 2147483647)], [(0, 5)], [((-2147483648), 2147483647)], [(22, 22)]], [], [(3, 0, 90, 0, 0), (1, 2, 0, 0, 0), (1, 3, 0, 0, 0), (1, 4, 0, 0, 0), (1, 5, 0, 0, 0), (1, 6, 0, 0, 0), (0, 0, 0, 0, 0)], [], [], [])), [(2, 0, 138)])
def zpA583h139 : Nat × zTm × zRk := (71, ([], ([[(0, 0)], [(0, 40)], [(0, 5)], [((-2147483648), 2147483647)], [(0, 5)], [((-2147483648), 2147483647)], [(23, 23)]], [], [(3, 0, 90, 0, 0), (1, 2, 0, 0, 0), (1, 3, 0, 0, 0), (1, 4, 0, 0, 0), (1, 5, 0, 0, 0), (1, 6, 0, 0, 0), (0, 0, 0, 0, 0)], [], [], [])), [(2, 0, 139)])
def zpA583h140 : Nat × zTm × zRk := (71, ([], ([[(0, 0)], [(0, 40)], [(0, 5)], [((-2147483648), 2147483647)], [(0, 5)], [((-2147483648), 2147483647)], [(24, 24)]], [], [(3, 0, 90, 0, 0), (1, 2, 0, 0, 0), (1, 3, 0, 0, 0), (1, 4, 0, 0, 0), (1, 5, 0, 0, 0), (1, 6, 0, 0, 0), (0, 0, 0, 0, 0)], [], [], [])), [(2, 0, 140)])
def zpA583h141 : Nat × zTm × zRk := (71, ([], ([[(0, 0)], [(0, 40)], [(0, 5)], [((-2147483648), 2147483647)], [(0, 5)], [((-2147483648), 2147483647)], [(25, 25)]], [], [(3, 0, 90, 0, 0), (1, 2, 0, 0, 0), (1, 3, 0, 0, 0), (1, 4, 0, 0, 0), (1, 5, 0, 0, 0), (1, 6, 0, 0, 0), (0, 0, 0, 0, 0)], [], [], [])), [(2, 0, 141)])
def zpA583h142 : Nat × zTm × zRk := (71, ([], ([[(0, 0)], [(0, 40)], [(0, 5)], [((-2147483648), 2147483647)], [(0, 5)], [((-2147483648), 2147483647)], [(26, 26)]], [], [(3, 0, 90, 0, 0), (1, 2, 0, 0, 0), (1, 3, 0, 0, 0), (1, 4, 0, 0, 0), (1, 5, 0, 0, 0), (1, 6, 0, 0, 0), (0, 0, 0, 0, 0)], [], [], [])), [(2, 0, 142)])
def zpA583h143 : Nat × zTm × zRk := (71, ([], ([[(0, 0)], [(0, 40)], [(0, 5)], [((-2147483648), 2147483647)], [(0, 5)], [((-2147483648), 2147483647)], [(27, 27)]], [], [(3, 0, 90, 0, 0), (1, 2, 0, 0, 0), (1, 3, 0, 0, 0), (1, 4, 0, 0, 0), (1, 5, 0, 0, 0), (1, 6, 0, 0, 0), (0, 0, 0, 0, 0)], [], [], [])), [(2, 0, 143)])
def zpA583h144 : Nat × zTm × zRk := (71, ([], ([[(0, 0)], [(0, 40)], [(0, 5)], [((-2147483648), 2147483647)], [(0, 5)], [((-2147483648), 2147483647)], [(28, 28)]], [], [(3, 0, 90, 0, 0), (1, 2, 0, 0, 0), (1, 3, 0, 0, 0), (1, 4, 0, 0, 0), (1, 5, 0, 0, 0), (1, 6, 0, 0, 0), (0, 0, 0, 0, 0)], [], [], [])), [(2, 0, 144)])
def zpA583h145 : Nat × zTm × zRk := (71, ([], ([[(0, 0)], [(0, 40)], [(0, 5)], [((-2147483648), 2147483647)], [(0, 5)], [((-2147483648), 2147483647)], [(29, 29)]], [], [(3, 0, 90, 0, 0), (1, 2, 0, 0, 0), (1, 3, 0, 0, 0), (1, 4, 0, 0, 0), (1, 5, 0, 0, 0), (1, 6, 0, 0, 0), (0, 0, 0, 0, 0)], [], [], [])), [(2, 0, 145)])
def zpA583h146 : Nat × zTm × zRk := (71, ([], ([[(0, 0)], [(0, 40)], [(0, 5)], [((-2147483648), 2147483647)], [(0, 5)], [((-2147483648), 2147483647)], [(3, 3)]], [], [(3, 0, 90, 0, 0), (1, 2, 0, 0, 0), (1, 3, 0, 0, 0), (1, 4, 0, 0, 0), (1, 5, 0, 0, 0), (1, 6, 0, 0, 0), (0, 0, 0, 0, 0)], [], [], [])), [(2, 0, 146)])
def zpA583h147 : Nat × zTm × zRk := (71, ([], ([[(0, 0)], [(0, 40)], [(0, 5)], [((-2147483648), 2147483647)], [(0, 5)], [((-2147483648), 2147483647)], [(30, 30)]], [], [(3, 0, 90, 0, 0), (1, 2, 0, 0, 0), (1, 3, 0, 0, 0), (1, 4, 0, 0, 0), (1, 5, 0, 0, 0), (1, 6, 0, 0, 0), (0, 0, 0, 0, 0)], [], [], [])), [(2, 0, 147)])
def zpA583h148 : Nat × zTm × zRk := (71, ([], ([[(0, 0)], [(0, 40)], [(0, 5)], [((-2147483648), 2147483647)], [(0, 5)], [((-2147483648), 2147483647)], [(31, 31)]], [], [(3, 0, 90, 0, 0), (1, 2, 0, 0, 0), (1, 3, 0, 0, 0), (1, 4, 0, 0, 0), (1, 5, 0, 0, 0), (1, 6, 0, 0, 0), (0, 0, 0, 0, 0)], [], [], [])), [(2, 0, 148)])
def zpA583h149 : Nat × zTm × zRk := (71, ([], ([[(0, 0)], [(0, 40)], [(0, 5)], [((-2147483648), 2147483647)], [(0, 5)], [((-2147483648), 2147483647)], [(32, 32)]], [], [(3, 0, 90, 0, 0), (1, 2, 0, 0, 0), (1, 3, 0, 0, 0), (1, 4, 0, 0, 0), (1, 5, 0, 0, 0), (1, 6, 0, 0, 0), (0, 0, 0, 0, 0)], [], [], [])), [(2, 0, 149)])
def zpA583h150 : Nat × zTm × zRk := (71, ([], ([[(0, 0)], [(0, 40)], [(0, 5)], [((-2147483648), 2147483647)], [(0, 5)], [((-2147483648), 2147483647)], [(33, 33)]], [], [(3, 0, 90, 0, 0), (1, 2, 0, 0, 0), (1, 3, 0, 0, 0), (1, 4, 0, 0, 0), (1, 5, 0, 0, 0), (1, 6, 0, 0, 0), (0, 0, 0, 0, 0)], [], [], [])), [(2, 0, 150)])
def zpA583h151 : Nat × zTm × zRk := (71, ([], ([[(0, 0)], [(0, 40)], [(0, 5)], [((-2147483648), 2147483647)], [(0, 5)], [((-2147483648), 2147483647)], [(34, 34)]], [], [(3, 0, 90, 0, 0), (1, 2, 0, 0, 0), (1, 3, 0, 0, 0), (1, 4, 0, 0, 0), (1, 5, 0, 0, 0), (1, 6, 0, 0, 0), (0, 0, 0, 0, 0)], [], [], [])), [(2, 0, 151)])
def zpA583h152 : Nat × zTm × zRk := (71, ([], ([[(0, 0)], [(0, 40)], [(0, 5)], [((-2147483648), 2147483647)], [(0, 5)], [((-2147483648), 2147483647)], [(35, 35)]], [], [(3, 0, 90, 0, 0), (1, 2, 0, 0, 0), (1, 3, 0, 0, 0), (1, 4, 0, 0, 0), (1, 5, 0, 0, 0), (1, 6, 0, 0, 0), (0, 0, 0, 0, 0)], [], [], [])), [(2, 0, 152)])
def zpA583h153 : Nat × zTm × zRk := (71, ([], ([[(0, 0)], [(0, 40)], [(0, 5)], [((-2147483648), 2147483647)], [(0, 5)], [((-2147483648), 2147483647)], [(36, 36)]], [], [(3, 0, 90, 0, 0), (1, 2, 0, 0, 0), (1, 3, 0, 0, 0), (1, 4, 0, 0, 0), (1, 5, 0, 0, 0), (1, 6, 0, 0, 0), (0, 0, 0, 0, 0)], [], [], [])), [(2, 0, 153)])
def zpA583h154 : Nat × zTm × zRk := (71, ([], ([[(0, 0)], [(0, 40)], [(0, 5)], [((-2147483648), 2147483647)], [(0, 5)], [((-2147483648), 2147483647)], [(37, 37)]], [], [(3, 0, 90, 0, 0), (1, 2, 0, 0, 0), (1, 3, 0, 0, 0), (1, 4, 0, 0, 0), (1, 5, 0, 0, 0), (1, 6, 0, 0, 0), (0, 0, 0, 0, 0)], [], [], [])), [(2, 0, 154)])
def zpA583h155 : Nat × zTm × zRk := (71, ([], ([[(0, 0)], [(0, 40)], [(0, 5)], [((-2147483648), 2147483647)], [(0, 5)], [((-2147483648), 2147483647)], [(38, 38)]], [], [(3, 0, 90, 0, 0), (1, 2, 0, 0, 0), (1, 3, 0, 0, 0), (1, 4, 0, 0, 0), (1, 5, 0, 0, 0), (1, 6, 0, 0, 0), (0, 0, 0, 0, 0)], [], [], [])), [(2, 0, 155)])
def zpA583h156 : Nat × zTm × zRk := (71, ([], ([[(0, 0)], [(0, 40)], [(0, 5)], [((-2147483648), 2147483647)], [(0, 5)], [((-2147483648), 2147483647)], [(39, 39)]], [], [(3, 0, 90, 0, 0), (1, 2, 0, 0, 0), (1, 3, 0, 0, 0), (1, 4, 0, 0, 0), (1, 5, 0, 0, 0), (1, 6, 0, 0, 0), (0, 0, 0, 0, 0)], [], [], [])), [(2, 0, 156)])
def zpA583h157 : Nat × zTm × zRk := (71, ([], ([[(0, 0)], [(0, 40)], [(0, 5)], [((-2147483648), 2147483647)], [(0, 5)], [((-2147483648), 2147483647)], [(4, 4)]], [], [(3, 0, 90, 0, 0), (1, 2, 0, 0, 0), (1, 3, 0, 0, 0), (1, 4, 0, 0, 0), (1, 5, 0, 0, 0), (1, 6, 0, 0, 0), (0, 0, 0, 0, 0)], [], [], [])), [(2, 0, 157)])
def zpA583h158 : Nat × zTm × zRk := (71, ([], ([[(0, 0)], [(0, 40)], [(0, 5)], [((-2147483648), 2147483647)], [(0, 5)], [((-2147483648), 2147483647)], [(40, 40)]], [], [(3, 0, 90, 0, 0), (1, 2, 0, 0, 0), (1, 3, 0, 0, 0), (1, 4, 0, 0, 0), (1, 5, 0, 0, 0), (1, 6, 0, 0, 0), (0, 0, 0, 0, 0)], [], [], [])), [(2, 0, 158)])
def zpA583h159 : Nat × zTm × zRk := (71, ([], ([[(0, 0)], [(0, 40)], [(0, 5)], [((-2147483648), 2147483647)], [(0, 5)], [((-2147483648), 2147483647)], [(41, 41)]], [], [(3, 0, 90, 0, 0), (1, 2, 0, 0, 0), (1, 3, 0, 0, 0), (1, 4, 0, 0, 0), (1, 5, 0, 0, 0), (1, 6, 0, 0, 0), (0, 0, 0, 0, 0)], [], [], [])), [(2, 0, 159)])
def zpA583h160 : Nat × zTm × zRk := (71, ([], ([[(0, 0)], [(0, 40)], [(0, 5)], [((-2147483648), 2147483647)], [(0, 5)], [((-2147483648), 2147483647)], [(42, 42)]], [], [(3, 0, 90, 0, 0), (1, 2, 0, 0, 0), (1, 3, 0, 0, 0), (1, 4, 0, 0, 0), (1, 5, 0, 0, 0), (1, 6, 0, 0, 0), (0, 0, 0, 0, 0)], [], [], [])), [(2, 0, 160)])
def zpA583h161 : Nat × zTm × zRk := (71, ([], ([[(0, 0)], [(0, 40)], [(0, 5)], [((-2147483648), 2147483647)], [(0, 5)], [((-2147483648), 2147483647)], [(43, 43)]], [], [(3, 0, 90, 0, 0), (1, 2, 0, 0, 0), (1, 3, 0, 0, 0), (1, 4, 0, 0, 0), (1, 5, 0, 0, 0), (1, 6, 0, 0, 0), (0, 0, 0, 0, 0)], [], [], [])), [(2, 0, 161)])
def zpA583h162 : Nat × zTm × zRk := (71, ([], ([[(0, 0)], [(0, 40)], [(0, 5)], [((-2147483648), 2147483647)], [(0, 5)], [((-2147483648), 2147483647)], [(44, 44)]], [], [(3, 0, 90, 0, 0), (1, 2, 0, 0, 0), (1, 3, 0, 0, 0), (1, 4, 0, 0, 0), (1, 5, 0, 0, 0), (1, 6, 0, 0, 0), (0, 0, 0, 0, 0)], [], [], [])), [(2, 0, 162)])
def zpA583h163 : Nat × zTm × zRk := (71, ([], ([[(0, 0)], [(0, 40)], [(0, 5)], [((-2147483648), 2147483647)], [(0, 5)], [((-2147483648), 2147483647)], [(45, 45)]], [], [(3, 0, 90, 0, 0), (1, 2, 0, 0, 0), (1, 3, 0, 0, 0), (1, 4, 0, 0, 0), (1, 5, 0, 0, 0), (1, 6, 0, 0, 0), (0, 0, 0, 0, 0)], [], [], [])), [(2, 0, 163)])
def zpA583h164 : Nat × zTm × zRk := (71, ([], ([[(0, 0)], [(0, 40)], [(0, 5)], [((-2147483648), 2147483647)], [(0, 5)], [((-2147483648), 2147483647)], [(46, 46)]], [], [(3, 0, 90, 0, 0), (1, 2, 0, 0, 0), (1, 3, 0, 0, 0), (1, 4, 0, 0, 0), (1, 5, 0, 0, 0), (1, 6, 0, 0, 0), (0, 0, 0, 0, 0)], [], [], [])), [(2, 0, 164)])
def zpA583h165 : Nat × zTm × zRk := (71, ([], ([[(0, 0)], [(0, 40)], [(0, 5)], [((-2147483648), 2147483647)], [(0, 5)], [((-2147483648), 2147483647)], [(47, 47)]], [], [(3, 0, 90, 0, 0), (1, 2, 0, 0, 0), (1, 3, 0, 0, 0), (1, 4, 0, 0, 0), (1, 5, 0, 0, 0), (1, 6, 0, 0, 0), (0, 0, 0, 0, 0)], [], [], [])), [(2, 0, 165)])
def zpA583h166 : Nat × zTm × zRk := (71, ([], ([[(0, 0)], [(0, 40)], [(0, 5)], [((-2147483648), 2147483647)], [(0, 5)], [((-2147483648), 2147483647)], [(48, 48)]], [], [(3, 0, 90, 0, 0), (1, 2, 0, 0, 0), (1, 3, 0, 0, 0), (1, 4, 0, 0, 0), (1, 5, 0, 0, 0), (1, 6, 0, 0, 0), (0, 0, 0, 0, 0)], [], [], [])), [(2, 0, 166)])
def zpA583h167 : Nat × zTm × zRk := (71, ([], ([[(0, 0)], [(0, 40)], [(0, 5)], [((-2147483648), 2147483647)], [(0, 5)], [((-2147483648), 2147483647)], [(49, 49)]], [], [(3, 0, 90, 0, 0), (1, 2, 0, 0, 0), (1, 3, 0, 0, 0), (1, 4, 0, 0, 0), (1, 5, 0, 0, 0), (1, 6, 0, 0, 0), (0, 0, 0, 0, 0)], [], [], [])), [(2, 0, 167)])
def zpA583h168 : Nat × zTm × zRk := (71, ([], ([[(0, 0)], [(0, 40)], [(0, 5)], [((-2147483648), 2147483647)], [(0, 5)], [((-2147483648), 2147483647)], [(5, 5)]], [], [(3, 0, 90, 0, 0), (1, 2, 0, 0, 0), (1, 3, 0, 0, 0), (1, 4, 0, 0, 0), (1, 5, 0, 0, 0), (1, 6, 0, 0, 0), (0, 0, 0, 0, 0)], [], [], [])), [(2, 0, 168)])
def zpA583h169 : Nat × zTm × zRk := (71, ([], ([[(0, 0)], [(0, 40)], [(0, 5)], [((-2147483648), 2147483647)], [(0, 5)], [((-2147483648), 2147483647)], [(50, 50)]], [], [(3, 0, 90, 0, 0), (1, 2, 0, 0, 0), (1, 3, 0, 0, 0), (1, 4, 0, 0, 0), (1, 5, 0, 0, 0), (1, 6, 0, 0, 0), (0, 0, 0, 0, 0)], [], [], [])), [(2, 0, 169)])
def zpA583h170 : Nat × zTm × zRk := (71, ([], ([[(0, 0)], [(0, 40)], [(0, 5)], [((-2147483648), 2147483647)], [(0, 5)], [((-2147483648), 2147483647)], [(51, 51)]], [], [(3, 0, 90, 0, 0), (1, 2, 0, 0, 0), (1, 3, 0, 0, 0), (1, 4, 0, 0, 0), (1, 5, 0, 0, 0), (1, 6, 0, 0, 0), (0, 0, 0, 0, 0)], [], [], [])), [(2, 0, 170)])
def zpA583h171 : Nat × zTm × zRk := (71, ([], ([[(0, 0)], [(0, 40)], [(0, 5)], [((-2147483648), 2147483647)], [(0, 5)], [((-2147483648), 2147483647)], [(52, 52)]], [], [(3, 0, 90, 0, 0), (1, 2, 0, 0, 0), (1, 3, 0, 0, 0), (1, 4, 0, 0, 0), (1, 5, 0, 0, 0), (1, 6, 0, 0, 0), (0, 0, 0, 0, 0)], [], [], [])), [(2, 0, 171)])
def zpA583h172 : Nat × zTm × zRk := (71, ([], ([[(0, 0)], [(0, 40)], [(0, 5)], [((-2147483648), 2147483647)], [(0, 5)], [((-2147483648), 2147483647)], [(53, 53)]], [], [(3, 0, 90, 0, 0), (1, 2, 0, 0, 0), (1, 3, 0, 0, 0), (1, 4, 0, 0, 0), (1, 5, 0, 0, 0), (1, 6, 0, 0, 0), (0, 0, 0, 0, 0)], [], [], [])), [(2, 0, 172)])
def zpA583h173 : Nat × zTm × zRk := (71, ([], ([[(0, 0)], [(0, 40)], [(0, 5)], [((-2147483648), 2147483647)], [(0, 5)], [((-2147483648), 2147483647)], [(54, 54)]], [], [(3, 0, 90, 0, 0), (1, 2, 0, 0, 0), (1, 3, 0, 0, 0), (1, 4, 0, 0, 0), (1, 5, 0, 0, 0), (1, 6, 0, 0, 0), (0, 0, 0, 0, 0)], [], [], [])), [(2, 0, 173)])
def zpA583h174 : Nat × zTm × zRk := (71, ([], ([[(0, 0)], [(0, 40)], [(0, 5)], [((-2147483648), 2147483647)], [(0, 5)], [((-2147483648), 2147483647)], [(55, 55)]], [], [(3, 0, 90, 0, 0), (1, 2, 0, 0, 0), (1, 3, 0, 0, 0), (1, 4, 0, 0, 0), (1, 5, 0, 0, 0), (1, 6, 0, 0, 0), (0, 0, 0, 0, 0)], [], [], [])), [(2, 0, 174)])
def zpA583h175 : Nat × zTm × zRk := (71, ([], ([[(0, 0)], [(0, 40)], [(0, 5)], [((-2147483648), 2147483647)], [(0, 5)], [((-2147483648), 2147483647)], [(56, 56)]], [], [(3, 0, 90, 0, 0), (1, 2, 0, 0, 0), (1, 3, 0, 0, 0), (1, 4, 0, 0, 0), (1, 5, 0, 0, 0), (1, 6, 0, 0, 0), (0, 0, 0, 0, 0)], [], [], [])), [(2, 0, 175)])
def zpA583h176 : Nat × zTm × zRk := (71, ([], ([[(0, 0)], [(0, 40)], [(0, 5)], [((-2147483648), 2147483647)], [(0, 5)], [((-2147483648), 2147483647)], [(57, 57)]], [], [(3, 0, 90, 0, 0), (1, 2, 0, 0, 0), (1, 3, 0, 0, 0), (1, 4, 0, 0, 0), (1, 5, 0, 0, 0), (1, 6, 0, 0, 0), (0, 0, 0, 0, 0)], [], [], [])), [(2, 0, 176)])
def zpA583h177 : Nat × zTm × zRk := (71, ([], ([[(0, 0)], [(0, 40)], [(0, 5)], [((-2147483648), 2147483647)], [(0, 5)], [((-2147483648), 2147483647)], [(58, 58)]], [], [(3, 0, 90, 0, 0), (1, 2, 0, 0, 0), (1, 3, 0, 0, 0), (1, 4, 0, 0, 0), (1, 5, 0, 0, 0), (1, 6, 0, 0, 0), (0, 0, 0, 0, 0)], [], [], [])), [(2, 0, 177)])
def zpA583h178 : Nat × zTm × zRk := (71, ([], ([[(0, 0)], [(0, 40)], [(0, 5)], [((-2147483648), 2147483647)], [(0, 5)], [((-2147483648), 2147483647)], [(59, 59)]], [], [(3, 0, 90, 0, 0), (1, 2, 0, 0, 0), (1, 3, 0, 0, 0), (1, 4, 0, 0, 0), (1, 5, 0, 0, 0), (1, 6, 0, 0, 0), (0, 0, 0, 0, 0)], [], [], [])), [(2, 0, 178)])
def zpA583h179 : Nat × zTm × zRk := (71, ([], ([[(0, 0)], [(0, 40)], [(0, 5)], [((-2147483648), 2147483647)], [(0, 5)], [((-2147483648), 2147483647)], [(6, 6)]], [], [(3, 0, 90, 0, 0), (1, 2, 0, 0, 0), (1, 3, 0, 0, 0), (1, 4, 0, 0, 0), (1, 5, 0, 0, 0), (1, 6, 0, 0, 0), (0, 0, 0, 0, 0)], [], [], [])), [(2, 0, 179)])
def zpA583h180 : Nat × zTm × zRk := (71, ([], ([[(0, 0)], [(0, 40)], [(0, 5)], [((-2147483648), 2147483647)], [(0, 5)], [((-2147483648), 2147483647)], [(60, 60)]], [], [(3, 0, 90, 0, 0), (1, 2, 0, 0, 0), (1, 3, 0, 0, 0), (1, 4, 0, 0, 0), (1, 5, 0, 0, 0), (1, 6, 0, 0, 0), (0, 0, 0, 0, 0)], [], [], [])), [(2, 0, 180)])
def zpA583h181 : Nat × zTm × zRk := (71, ([], ([[(0, 0)], [(0, 40)], [(0, 5)], [((-2147483648), 2147483647)], [(0, 5)], [((-2147483648), 2147483647)], [(7, 7)]], [], [(3, 0, 90, 0, 0), (1, 2, 0, 0, 0), (1, 3, 0, 0, 0), (1, 4, 0, 0, 0), (1, 5, 0, 0, 0), (1, 6, 0, 0, 0), (0, 0, 0, 0, 0)], [], [], [])), [(2, 0, 181)])
def zpA583h182 : Nat × zTm × zRk := (71, ([], ([[(0, 0)], [(0, 40)], [(0, 5)], [((-2147483648), 2147483647)], [(0, 5)], [((-2147483648), 2147483647)], [(8, 8)]], [], [(3, 0, 90, 0, 0), (1, 2, 0, 0, 0), (1, 3, 0, 0, 0), (1, 4, 0, 0, 0), (1, 5, 0, 0, 0), (1, 6, 0, 0, 0), (0, 0, 0, 0, 0)], [], [], [])), [(2, 0, 182)])
def zpA583h183 : Nat × zTm × zRk := (71, ([], ([[(0, 0)], [(0, 40)], [(0, 5)], [((-2147483648), 2147483647)], [(0, 5)], [((-2147483648), 2147483647)], [(9, 9)]], [], [(3, 0, 90, 0, 0), (1, 2, 0, 0, 0), (1, 3, 0, 0, 0), (1, 4, 0, 0, 0), (1, 5, 0, 0, 0), (1, 6, 0, 0, 0), (0, 0, 0, 0, 0)], [], [], [])), [(2, 0, 183)])
def zpA583 : zAnn := [zpA583h0, zpA583h1, zpA583h2, zpA583h3, zpA583h4, zpA583h5, zpA583h6, zpA583h7, zpA583h8, zpA583h9, zpA583h10, zpA583h11, zpA583h12, zpA583h13, zpA583h14, zpA583h15, zpA583h16, zpA583h17, zpA583h18, zpA583h19, zpA583h20, zpA583h21, zpA583h22, zpA583h23, zpA583h24, zpA583h25, zpA583h26, zpA583h27, zpA583h28, zpA583h29, zpA583h30, zpA583h31, zpA583h32, zpA583h33, zpA583h34, zpA583h35, zpA583h36, zpA583h37, zpA583h38, zpA583h39, zpA583h40, zpA583h41, zpA583h42, zpA583h43, zpA583h44, zpA583h45, zpA583h46, zpA583h47, zpA583h48, zpA583h49, zpA583h50, zpA583h51, zpA583h52, zpA583h53, zpA583h54, zpA583h55, zpA583h56, zpA583h57, zpA583h58, zpA583h59, zpA583h60, zpA583h61, zpA583h62, zpA583h63, zpA583h64, zpA583h65, zpA583h66, zpA583h67, zpA583h68, zpA583h69, zpA583h70, zpA583h71, zpA583h72, zpA583h73, zpA583h74, zpA583h75, zpA583h76, zpA583h77, zpA583h78, zpA583h79, zpA583h80, zpA583h81, zpA583h82, zpA583h83, zpA583h84, zpA583h85, zpA583h86, zpA583h87, zpA583h88, zpA583h89, zpA583h90, zpA583h91, zpA583h92, zpA583h93, zpA583h94, zpA583h95, zpA583h96, zpA583h97, zpA583h98, zpA583h99, zpA583h100, zpA583h101, zpA583h102, zpA583h103, zpA583h104, zpA583h105, zpA583h106, zpA583h107, zpA583h108, zpA583h109, zpA583h110, zpA583h111, zpA583h112, zpA583h113, zpA583h114, zpA583h115, zpA583h116, zpA583h117, zpA583h118, zpA583h119, zpA583h120, zpA583h121, zpA583h122, zpA583h123, zpA583h124, zpA583h125, zpA583h126, zpA583h127, zpA583h128, zpA583h129, zpA583h130, zpA583h131, zpA583h132, zpA583h133, zpA583h134, zpA583h135, zpA583h136, zpA583h137, zpA583h138, zpA583h139, zpA583h140, zpA583h141, zpA583h142, zpA583h143, zpA583h144, zpA583h145, zpA583h146, zpA583h147, zpA583h148, zpA583h149, zpA583h150, zpA583h151, zpA583h152, zpA583h153, zpA583h154, zpA583h155, zpA583h156, zpA583h157, zpA583h158, zpA583h159, zpA583h160, zpA583h161, zpA583h162, zpA583h163, zpA583h164, zpA583h165, zpA583h166, zpA583h167, zpA583h168, zpA583h169, zpA583h170, zpA583h171, zpA583h172, zpA583h173, zpA583h174, zpA583h175, zpA583h176, zpA583h177, zpA583h178, zpA583h179, zpA583h180, zpA583h181, zpA583h182, zpA583h183]

/-- PushedInModel.above ((0, 1),) -/
def zpC584 : zC := (123, (1, 40), ([], ([[(0, 0)], [(0, 40)]], [], [(1, 0, 1, 0, 0)], [], [], [])), [([], ([[(0, 0)], [(0, 40)]], [], [], [(1, 0, 0, 0, 0)], [], []))], [])
def zpA584 : zAnn := []

/-- PushedInModel.above ((0, 2),) -/
def zpC585 : zC := (123, (1, 40), ([], ([[(0, 0)], [(0, 40)]], [], [(1, 0, 2, 0, 0)], [], [], [])), [([], ([[(0, 0)], [(0, 40)]], [], [], [(1, 0, 0, 0, 0)], [], []))], [])
def zpA585 : zAnn := []

/-- PushedInModel.above ((0, 3),) -/
def zpC586 : zC := (123, (1, 40), ([], ([[(0, 0)], [(0, 40)]], [], [(1, 0, 3, 0, 0)], [], [], [])), [([], ([[(0, 0)], [(0, 40)]], [], [], [(1, 0, 1, 0, 0)], [], []))], [])
def zpA586 : zAnn := []

/-- PushedInModel.above ((0, 4),) -/
def zpC587 : zC := (123, (1, 40), ([], ([[(0, 0)], [(0, 40)]], [], [(1, 0, 4, 0, 0)], [], [], [])), [([], ([[(0, 0)], [(0, 40)]], [], [], [(1, 0, 1, 0, 0)], [], []))], [])
def zpA587 : zAnn := []

/-- PushedInModel.above ((0, 5),) -/
def zpC588 : zC := (123, (1, 40), ([], ([[(0, 0)], [(0, 40)]], [], [(1, 0, 5, 0, 0)], [], [], [])), [([], ([[(0, 0)], [(0, 40)]], [], [], [(1, 0, 0, 0, 0)], [], []))], [])
def zpA588 : zAnn := []

/-- PushedInModel.above ((0, 6),) -/
def zpC589 : zC := (123, (1, 40), ([], ([[(0, 0)], [(0, 40)]], [], [(1, 0, 6, 0, 0)], [], [], [])), [([], ([[(0, 0)], [(0, 40)]], [], [], [(1, 0, 3, 0, 0)], [], []))], [])
def zpA589 : zAnn := []

/-- PushedInModel.above ((0, 7),) -/
def zpC590 : zC := (123, (1, 40), ([], ([[(0, 0)], [(0, 40)]], [], [(1, 0, 7, 0, 0)], [], [], [])), [([], ([[(0, 0)], [(0, 40)]], [], [], [(1, 0, 0, 0, 0)], [], []))], [])
def zpA590 : zAnn := []

/-- PushedInModel.kindOf () -/
def zpC591 : zC := (166, (1, 40), ([(0, 1, 0, 0)], ([[(0, 0)], [(0, 40)], [(0, 19)]], [], [(3, 0, 90, 0, 0), (1, 2, 0, 0, 0)], [], [], [])), [([(1, 0, 0, 0)], ([[(0, 0)], [(0, 40)], [(0, 19)], [(0, 7)]], [], [], [(1, 3, 0, 0, 0)], [], []))], [])
def zpA591 : zAnn := []

/-- PushedInModel.taken () -/
def zpC592 : zC := (193, (3, 85), ([(0, 1, 0, 0), (0, 2, 0, 0)], ([[(0, 0)], [(0, 40)], [((-2147483648), 2147483647)], [((-2147483648), 2147483647)]], [], [(3, 0, 90, 0, 0), (1, 2, 0, 0, 0), (1, 3, 0, 0, 0), (0, 0, 0, 0, 0)], [], [], [])), [([(1, 0, 0, 0)], ([[(0, 0)], [(0, 40)], [(0, 5)], [(0, 7)], [(0, 7)]], [], [], [(1, 4, 0, 0, 0)], [], [])), ([], ([[(0, 0)], [(0, 40)], [((-2147483648), 2147483647)], [((-2147483648), 2147483647)]], [], [], [(1, 0, (-1), 0, 0)], [], [])), ([], ([[(0, 0)], [(0, 40)], [(0, 5)], [(0, 7)]], [], [], [(1, 0, (-11), 0, 0)], [], [])), ([], ([[(0, 0)], [(0, 40)], [(0, 5)], [(0, 7)]], [], [], [(1, 0, (-12), 0, 0)], [], []))], [])
def zpA592h0 : Nat × zTm × zRk := (21, ([], ([[(0, 0)], [(0, 40)], [(0, 0)], [(0, 7)]], [], [(3, 0, 90, 0, 0), (1, 2, 0, 0, 0), (1, 3, 0, 0, 0), (0, 0, 0, 0, 0)], [], [], [])), [(2, 0, 0)])
def zpA592h1 : Nat × zTm × zRk := (21, ([], ([[(0, 0)], [(0, 40)], [(1, 1)], [(0, 7)]], [], [(3, 0, 90, 0, 0), (1, 2, 0, 0, 0), (1, 3, 0, 0, 0), (0, 0, 0, 0, 0)], [], [], [])), [(2, 0, 1)])
def zpA592h2 : Nat × zTm × zRk := (21, ([], ([[(0, 0)], [(0, 40)], [(2, 2)], [(0, 7)]], [], [(3, 0, 90, 0, 0), (1, 2, 0, 0, 0), (1, 3, 0, 0, 0), (0, 0, 0, 0, 0)], [], [], [])), [(2, 0, 2)])
def zpA592h3 : Nat × zTm × zRk := (21, ([], ([[(0, 0)], [(0, 40)], [(3, 3)], [(0, 7)]], [], [(3, 0, 90, 0, 0), (1, 2, 0, 0, 0), (1, 3, 0, 0, 0), (0, 0, 0, 0, 0)], [], [], [])), [(2, 0, 3)])
def zpA592h4 : Nat × zTm × zRk := (21, ([], ([[(0, 0)], [(0, 40)], [(4, 4)], [(0, 7)]], [], [(3, 0, 90, 0, 0), (1, 2, 0, 0, 0), (1, 3, 0, 0, 0), (0, 0, 0, 0, 0)], [], [], [])), [(2, 0, 4)])
def zpA592h5 : Nat × zTm × zRk := (21, ([], ([[(0, 0)], [(0, 40)], [(5, 5)], [(0, 7)]], [], [(3, 0, 90, 0, 0), (1, 2, 0, 0, 0), (1, 3, 0, 0, 0), (0, 0, 0, 0, 0)], [], [], [])), [(2, 0, 5)])
def zpA592 : zAnn := [zpA592h0, zpA592h1, zpA592h2, zpA592h3, zpA592h4, zpA592h5]

/-- PushedInModel.count () -/
def zpC593 : zC := (143, (1, 40), ([(0, 1, 0, 0)], ([[(0, 0)], [(0, 40)], [((-2147483648), 2147483647)]], [], [(3, 0, 90, 0, 0), (1, 2, 0, 0, 0)], [], [], [])), [([(1, 0, 0, 0)], ([[(0, 0)], [(0, 40)], [(0, 5)], [(0, 2147483647)]], [], [], [(1, 3, 0, 0, 0)], [], [])), ([], ([[(0, 0)], [(0, 40)], [((-2147483648), (-1)), (6, 2147483647)]], [], [], [(1, 0, (-1), 0, 0)], [], []))], [])
def zpA593 : zAnn := []
