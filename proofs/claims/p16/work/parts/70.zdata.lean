/-! DATA: methods, pools, cells, contracts and annotations, made by wip/p2 -/
/-- the methods: names, bytes, locals, answers -/
def zpM : List (MethodName × ByteArray × Nat × Option FieldType) := [
  (⟨"PushedIn", "act", "(III)I"⟩, prog_1_method_31_code, 4, some .int),
  (⟨"PushedIn", "along", "(III)I"⟩, prog_1_method_27_code, 6, some .int),
  (⟨"PushedIn", "away", "(II)I"⟩, prog_1_method_2_code, 5, some .int),
  (⟨"PushedIn", "breaks", "(III)I"⟩, prog_1_method_20_code, 4, some .int),
  (⟨"PushedIn", "came", "(II)I"⟩, prog_1_method_9_code, 3, some .int),
  (⟨"PushedIn", "cant", "(I)I"⟩, prog_1_method_10_code, 4, some .int),
  (⟨"PushedIn", "changed", "(II)I"⟩, prog_1_method_24_code, 4, some .int),
  (⟨"PushedIn", "comer", "()I"⟩, prog_1_method_6_code, 2, some .int),
  (⟨"PushedIn", "comers", "(III)I"⟩, prog_1_method_7_code, 7, some .int),
  (⟨"PushedIn", "count", "(I)I"⟩, prog_1_method_39_code, 2, some .int),
  (⟨"PushedIn", "element", "(II)J"⟩, prog_1_method_36_code, 3, some .long),
  (⟨"PushedIn", "feed", "(II)I"⟩, prog_1_method_5_code, 3, some .int),
  (⟨"PushedIn", "fewest", "(J)I"⟩, prog_1_method_16_code, 3, some .int),
  (⟨"PushedIn", "find", "(I)I"⟩, prog_1_method_22_code, 6, some .int),
  (⟨"PushedIn", "idle", "(II)I"⟩, prog_1_method_25_code, 5, some .int),
  (⟨"PushedIn", "isDigit", "(I)Z"⟩, prog_1_method_41_code, 1, some .boolean),
  (⟨"PushedIn", "isUnder", "(II)Z"⟩, prog_1_method_42_code, 4, some .boolean),
  (⟨"PushedIn", "judge", "(II)I"⟩, prog_1_method_14_code, 3, some .int),
  (⟨"PushedIn", "keep", "(II)I"⟩, prog_1_method_33_code, 3, some .int),
  (⟨"PushedIn", "kept", "(I)I"⟩, prog_1_method_21_code, 4, some .int),
  (⟨"PushedIn", "led", "(I)I"⟩, prog_1_method_23_code, 4, some .int),
  (⟨"PushedIn", "matter", "(III)I"⟩, prog_1_method_3_code, 4, some .int),
  (⟨"PushedIn", "next", "(III)I"⟩, prog_1_method_19_code, 6, some .int),
  (⟨"PushedIn", "of", "(II)I"⟩, prog_1_method_8_code, 3, some .int),
  (⟨"PushedIn", "pairs", "(II)I"⟩, prog_1_method_12_code, 3, some .int),
  (⟨"PushedIn", "passed", "(II)I"⟩, prog_1_method_11_code, 7, some .int),
  (⟨"PushedIn", "put", "(IIJ)I"⟩, prog_1_method_35_code, 6, some .int),
  (⟨"PushedIn", "redo", "()I"⟩, prog_1_method_30_code, 1, some .int),
  (⟨"PushedIn", "row", "(III)I"⟩, prog_1_method_34_code, 4, some .int),
  (⟨"PushedIn", "rule", "(III)I"⟩, prog_1_method_17_code, 4, some .int),
  (⟨"PushedIn", "seldom", "(III)I"⟩, prog_1_method_26_code, 6, some .int),
  (⟨"PushedIn", "shift", "(IIIII)I"⟩, prog_1_method_37_code, 7, some .int),
  (⟨"PushedIn", "stand", "(II)I"⟩, prog_1_method_28_code, 7, some .int),
  (⟨"PushedIn", "start", "(II)I"⟩, prog_1_method_13_code, 3, some .int),
  (⟨"PushedIn", "taken", "(II)I"⟩, prog_1_method_38_code, 4, some .int),
  (⟨"PushedIn", "text", "()I"⟩, prog_1_method_18_code, 2, some .int),
  (⟨"PushedIn", "trace", "(I)I"⟩, prog_1_method_32_code, 2, some .int),
  (⟨"PushedIn", "undo", "()I"⟩, prog_1_method_29_code, 1, some .int),
  (⟨"PushedIn", "whom", "(I)J"⟩, prog_1_method_15_code, 2, some .long),
  (⟨"PushedIn", "within", "(II)Z"⟩, prog_1_method_40_code, 2, some .boolean),
  (⟨"PushedIn", "yard", "(II)I"⟩, prog_1_method_4_code, 4, some .int),
  (⟨"PushedIn$Acts", "above", "(IIII)I"⟩, prog_2_method_5_code, 5, some .int),
  (⟨"PushedIn$Acts", "forget", "()V"⟩, prog_2_method_2_code, 1, none),
  (⟨"PushedIn$Acts", "own", "(III)I"⟩, prog_2_method_4_code, 4, some .int),
  (⟨"PushedIn$Acts", "perform", "(IIII)I"⟩, prog_2_method_3_code, 5, some .int),
  (⟨"PushedIn$Acts", "runBody", "(III)I"⟩, prog_2_method_7_code, 4, some .int),
  (⟨"PushedIn$Acts", "runFrom", "(IIII)I"⟩, prog_2_method_6_code, 7, some .int),
  (⟨"PushedIn$Changes", "again", "()V"⟩, prog_3_method_4_code, 1, none),
  (⟨"PushedIn$Changes", "back", "()V"⟩, prog_3_method_3_code, 1, none),
  (⟨"PushedIn$Changes", "dropOldest", "()V"⟩, prog_3_method_5_code, 1, none),
  (⟨"PushedIn$Changes", "make", "(III)I"⟩, prog_3_method_2_code, 5, some .int),
  (⟨"PushedIn$Comer", "hasStarts", "()Z"⟩, prog_4_method_2_code, 1, some .boolean),
  (⟨"PushedIn$Comer", "isStart", "(I)Z"⟩, prog_4_method_3_code, 2, some .boolean),
  (⟨"PushedIn$Comer", "served", "()I"⟩, prog_4_method_4_code, 1, some .int),
  (⟨"PushedIn$Comer", "tell", "(I)I"⟩, prog_4_method_5_code, 2, some .int),
  (⟨"PushedIn$ComerReader", "expect", "(I)V"⟩, prog_5_method_3_code, 2, none),
  (⟨"PushedIn$ComerReader", "readInto", "(LPushedIn$Comer;)I"⟩, prog_5_method_2_code, 2, some .int),
  (⟨"PushedIn$Passing", "choose", "(J)Z"⟩, prog_6_method_6_code, 5, some .boolean),
  (⟨"PushedIn$Passing", "chosenAt", "(II)I"⟩, prog_6_method_8_code, 3, some .int),
  (⟨"PushedIn$Passing", "couldPass", "(LPushedIn$Comer;LPushedIn$Comer;)Z"⟩, prog_6_method_11_code, 3, some .boolean),
  (⟨"PushedIn$Passing", "fewestAmongChosen", "()I"⟩, prog_6_method_7_code, 7, some .int),
  (⟨"PushedIn$Passing", "firstMistold", "(I)I"⟩, prog_6_method_5_code, 4, some .int),
  (⟨"PushedIn$Passing", "latestEarlyOf", "(I)I"⟩, prog_6_method_10_code, 4, some .int),
  (⟨"PushedIn$Passing", "passedBy", "(LPushedIn$Comer;)J"⟩, prog_6_method_4_code, 5, some .long),
  (⟨"PushedIn$Passing", "passersOf", "(I)I"⟩, prog_6_method_9_code, 4, some .int),
  (⟨"PushedIn$Passing", "passes", "(LPushedIn$Comer;LPushedIn$Comer;I)Z"⟩, prog_6_method_2_code, 4, some .boolean),
  (⟨"PushedIn$Passing", "passesOn", "(II)I"⟩, prog_6_method_3_code, 6, some .int),
  (⟨"PushedIn$Places", "clear", "(I)V"⟩, prog_7_method_5_code, 2, none),
  (⟨"PushedIn$Places", "hasRange", "(III)Z"⟩, prog_7_method_10_code, 4, some .boolean),
  (⟨"PushedIn$Places", "holdRow", "(III)V"⟩, prog_7_method_7_code, 5, none),
  (⟨"PushedIn$Places", "holdRule", "(II)V"⟩, prog_7_method_6_code, 3, none),
  (⟨"PushedIn$Places", "holdsNothing", "(I)Z"⟩, prog_7_method_2_code, 2, some .boolean),
  (⟨"PushedIn$Places", "holdsRowOf", "(II)Z"⟩, prog_7_method_3_code, 3, some .boolean),
  (⟨"PushedIn$Places", "narrowed", "(IJ)J"⟩, prog_7_method_11_code, 4, some .long),
  (⟨"PushedIn$Places", "readFive", "(IJLPushedIn$Comer;)Z"⟩, prog_7_method_12_code, 7, some .boolean),
  (⟨"PushedIn$Places", "refuses", "(II)I"⟩, prog_7_method_8_code, 4, some .int),
  (⟨"PushedIn$Places", "refusesBoth", "(II)I"⟩, prog_7_method_9_code, 3, some .int),
  (⟨"PushedIn$Places", "ruleAt", "(I)I"⟩, prog_7_method_4_code, 2, some .int),
  (⟨"PushedIn$Rules", "add", "(IIII)V"⟩, prog_8_method_3_code, 5, none),
  (⟨"PushedIn$Rules", "breakOn", "(III)I"⟩, prog_8_method_8_code, 6, some .int),
  (⟨"PushedIn$Rules", "breaksOn", "(II)I"⟩, prog_8_method_7_code, 5, some .int),
  (⟨"PushedIn$Rules", "costOf", "(I)I"⟩, prog_8_method_9_code, 4, some .int),
  (⟨"PushedIn$Rules", "has", "(I)Z"⟩, prog_8_method_2_code, 2, some .boolean),
  (⟨"PushedIn$Rules", "isBreak", "(II)Z"⟩, prog_8_method_10_code, 4, some .boolean),
  (⟨"PushedIn$Rules", "nextAt", "(IIII)I"⟩, prog_8_method_5_code, 10, some .int),
  (⟨"PushedIn$Rules", "readText", "()I"⟩, prog_8_method_4_code, 3, some .int),
  (⟨"PushedIn$Rules", "scoreByText", "(ILPushedIn$Comer;II)I"⟩, prog_8_method_12_code, 5, some .int),
  (⟨"PushedIn$Rules", "scoreOf", "(ILPushedIn$Comer;II)I"⟩, prog_8_method_11_code, 6, some .int),
  (⟨"PushedIn$Rules", "wasNext", "(II)Z"⟩, prog_8_method_6_code, 4, some .boolean),
  (⟨"PushedIn$Survey", "alongOf", "(IIII)I"⟩, prog_9_method_12_code, 11, some .int),
  (⟨"PushedIn$Survey", "changedOn", "(I)I"⟩, prog_9_method_2_code, 4, some .int),
  (⟨"PushedIn$Survey", "changedOne", "(II)I"⟩, prog_9_method_3_code, 5, some .int),
  (⟨"PushedIn$Survey", "drawAbout", "()V"⟩, prog_9_method_10_code, 4, none),
  (⟨"PushedIn$Survey", "gather", "(I)V"⟩, prog_9_method_9_code, 4, none),
  (⟨"PushedIn$Survey", "isChanged", "(LPushedIn$Comer;I)Z"⟩, prog_9_method_4_code, 3, some .boolean),
  (⟨"PushedIn$Survey", "lookAheadOf", "(LPushedIn$Comer;)V"⟩, prog_9_method_6_code, 3, none),
  (⟨"PushedIn$Survey", "lookForIdle", "(II)V"⟩, prog_9_method_5_code, 5, none),
  (⟨"PushedIn$Survey", "seldomOf", "(IIII)I"⟩, prog_9_method_8_code, 8, some .int),
  (⟨"PushedIn$Survey", "someWaited", "(III)Z"⟩, prog_9_method_7_code, 6, some .boolean),
  (⟨"PushedIn$Survey", "unsureAt", "(II)I"⟩, prog_9_method_13_code, 6, some .int),
  (⟨"PushedIn$Survey", "waitOf", "(I)I"⟩, prog_9_method_11_code, 4, some .int),
  (⟨"PushedIn$Tape", "accept", "(I)Z"⟩, prog_10_method_6_code, 2, some .boolean),
  (⟨"PushedIn$Tape", "add", "(II)V"⟩, prog_10_method_2_code, 4, none),
  (⟨"PushedIn$Tape", "clear", "()V"⟩, prog_10_method_3_code, 1, none),
  (⟨"PushedIn$Tape", "readNumber", "(III)I"⟩, prog_10_method_7_code, 7, some .int),
  (⟨"PushedIn$Tape", "rewind", "()V"⟩, prog_10_method_4_code, 1, none),
  (⟨"PushedIn$Tape", "sign", "()I"⟩, prog_10_method_5_code, 1, some .int),
  (⟨"PushedIn$Tape", "stop", "()V"⟩, prog_10_method_8_code, 1, none),
  (⟨"PushedIn$Text", "addStep", "(II)V"⟩, prog_11_method_12_code, 3, none),
  (⟨"PushedIn$Text", "joined", "(III)I"⟩, prog_11_method_4_code, 3, some .int),
  (⟨"PushedIn$Text", "read", "()I"⟩, prog_11_method_2_code, 2, some .int),
  (⟨"PushedIn$Text", "readBoth", "(I)V"⟩, prog_11_method_7_code, 3, none),
  (⟨"PushedIn$Text", "readCompared", "(I)V"⟩, prog_11_method_8_code, 3, none),
  (⟨"PushedIn$Text", "readEither", "(I)V"⟩, prog_11_method_6_code, 3, none),
  (⟨"PushedIn$Text", "readLine", "()V"⟩, prog_11_method_5_code, 2, none),
  (⟨"PushedIn$Text", "readOperand", "(I)V"⟩, prog_11_method_11_code, 4, none),
  (⟨"PushedIn$Text", "readProduct", "(I)V"⟩, prog_11_method_10_code, 4, none),
  (⟨"PushedIn$Text", "readSum", "(I)V"⟩, prog_11_method_9_code, 4, none),
  (⟨"PushedIn$Text", "worth", "([I)I"⟩, prog_11_method_3_code, 7, some .int),
  (⟨"PushedIn$Yard", "addAway", "(III)V"⟩, prog_12_method_5_code, 4, none),
  (⟨"PushedIn$Yard", "\x61dmit", "()V"⟩, prog_12_method_4_code, 1, none),
  (⟨"PushedIn$Yard", "become", "(III)V"⟩, prog_12_method_9_code, 4, none),
  (⟨"PushedIn$Yard", "has", "(I)Z"⟩, prog_12_method_2_code, 2, some .boolean),
  (⟨"PushedIn$Yard", "hasComersOn", "(I)Z"⟩, prog_12_method_3_code, 3, some .boolean),
  (⟨"PushedIn$Yard", "isAway", "(II)Z"⟩, prog_12_method_6_code, 4, some .boolean),
  (⟨"PushedIn$Yard", "isBefore", "(II)Z"⟩, prog_12_method_12_code, 5, some .boolean),
  (⟨"PushedIn$Yard", "numberOf", "(II)I"⟩, prog_12_method_8_code, 3, some .int),
  (⟨"PushedIn$Yard", "oneAhead", "(I)I"⟩, prog_12_method_11_code, 6, some .int),
  (⟨"PushedIn$Yard", "settle", "()V"⟩, prog_12_method_10_code, 2, none),
  (⟨"PushedIn$Yard", "settleStarts", "(LPushedIn$Comer;)V"⟩, prog_12_method_13_code, 4, none),
  (⟨"PushedIn$Yard", "standsAt", "(LPushedIn$Comer;I)Z"⟩, prog_12_method_7_code, 3, some .boolean),
  (⟨"PushedInModel", "above", "(I)I"⟩, prog_14_method_69_code, 1, some .int),
  (⟨"PushedInModel", "act", "(III)I"⟩, prog_14_method_75_code, 4, some .int),
  (⟨"PushedInModel", "addComer", "()V"⟩, prog_14_method_29_code, 1, none),
  (⟨"PushedInModel", "aheadOf", "(I)I"⟩, prog_14_method_33_code, 4, some .int),
  (⟨"PushedInModel", "along", "(III)I"⟩, prog_14_method_67_code, 9, some .int),
  (⟨"PushedInModel", "asSort", "(IJ)J"⟩, prog_14_method_81_code, 3, some .long),
  (⟨"PushedInModel", "away", "(II)I"⟩, prog_14_method_9_code, 3, some .int),
  (⟨"PushedInModel", "becomes", "(II)I"⟩, prog_14_method_3_code, 5, some .int),
  (⟨"PushedInModel", "begins", "(I)V"⟩, prog_14_method_70_code, 2, none),
  (⟨"PushedInModel", "both", "()I"⟩, prog_14_method_18_code, 3, some .int),
  (⟨"PushedInModel", "breaks", "(III)I"⟩, prog_14_method_58_code, 6, some .int),
  (⟨"PushedInModel", "byteAt", "()I"⟩, prog_14_method_14_code, 1, some .int),
  (⟨"PushedInModel", "came", "(II)I"⟩, prog_14_method_37_code, 3, some .int),
  (⟨"PushedInModel", "cant", "(I)I"⟩, prog_14_method_38_code, 3, some .int),
  (⟨"PushedInModel", "changed", "(II)I"⟩, prog_14_method_62_code, 5, some .int),
  (⟨"PushedInModel", "chooseFrom", "(II)V"⟩, prog_14_method_48_code, 8, none),
  (⟨"PushedInModel", "comer", "()I"⟩, prog_14_method_30_code, 1, some .int),
  (⟨"PushedInModel", "comers", "(III)I"⟩, prog_14_method_31_code, 7, some .int),
  (⟨"PushedInModel", "compared", "()I"⟩, prog_14_method_19_code, 4, some .int),
  (⟨"PushedInModel", "costsAs", "(II)I"⟩, prog_14_method_73_code, 4, some .int),
  (⟨"PushedInModel", "count", "(I)I"⟩, prog_14_method_86_code, 2, some .int),
  (⟨"PushedInModel", "doesBreak", "(II)Z"⟩, prog_14_method_57_code, 3, some .boolean),
  (⟨"PushedInModel", "earlyOf", "(I)I"⟩, prog_14_method_35_code, 6, some .int),
  (⟨"PushedInModel", "either", "()I"⟩, prog_14_method_17_code, 3, some .int),
  (⟨"PushedInModel", "element", "(II)J"⟩, prog_14_method_83_code, 3, some .long),
  (⟨"PushedInModel", "feed", "(II)I"⟩, prog_14_method_13_code, 4, some .int),
  (⟨"PushedInModel", "fewest", "(J)I"⟩, prog_14_method_49_code, 4, some .int),
  (⟨"PushedInModel", "find", "(I)I"⟩, prog_14_method_60_code, 7, some .int),
  (⟨"PushedInModel", "findStarts", "()V"⟩, prog_14_method_39_code, 2, none),
  (⟨"PushedInModel", "goesAhead", "(II)Z"⟩, prog_14_method_32_code, 3, some .boolean),
  (⟨"PushedInModel", "holdsAs", "(II)I"⟩, prog_14_method_72_code, 4, some .int),
  (⟨"PushedInModel", "idle", "(II)I"⟩, prog_14_method_64_code, 8, some .int),
  (⟨"PushedInModel", "isAway", "(II)Z"⟩, prog_14_method_10_code, 4, some .boolean),
  (⟨"PushedInModel", "isComer", "(I)Z"⟩, prog_14_method_28_code, 2, some .boolean),
  (⟨"PushedInModel", "isDay", "(I)Z"⟩, prog_14_method_6_code, 1, some .boolean),
  (⟨"PushedInModel", "isDoor", "(I)Z"⟩, prog_14_method_7_code, 1, some .boolean),
  (⟨"PushedInModel", "isLater", "(II)Z"⟩, prog_14_method_40_code, 3, some .boolean),
  (⟨"PushedInModel", "isMinute", "(I)Z"⟩, prog_14_method_8_code, 1, some .boolean),
  (⟨"PushedInModel", "isRule", "(I)Z"⟩, prog_14_method_50_code, 2, some .boolean),
  (⟨"PushedInModel", "isShelf", "(I)Z"⟩, prog_14_method_77_code, 1, some .boolean),
  (⟨"PushedInModel", "judge", "(II)I"⟩, prog_14_method_46_code, 7, some .int),
  (⟨"PushedInModel", "keep", "(II)I"⟩, prog_14_method_78_code, 3, some .int),
  (⟨"PushedInModel", "kept", "(I)I"⟩, prog_14_method_59_code, 5, some .int),
  (⟨"PushedInModel", "kindOf", "(I)I"⟩, prog_14_method_51_code, 2, some .int),
  (⟨"PushedInModel", "lateOf", "(I)I"⟩, prog_14_method_34_code, 2, some .int),
  (⟨"PushedInModel", "led", "(I)I"⟩, prog_14_method_61_code, 4, some .int),
  (⟨"PushedInModel", "matter", "(III)I"⟩, prog_14_method_11_code, 5, some .int),
  (⟨"PushedInModel", "nameOf", "(I)I"⟩, prog_14_method_22_code, 1, some .int),
  (⟨"PushedInModel", "next", "(III)I"⟩, prog_14_method_56_code, 4, some .int),
  (⟨"PushedInModel", "nextOf", "(IIII)I"⟩, prog_14_method_55_code, 9, some .int),
  (⟨"PushedInModel", "numberRead", "(III)I"⟩, prog_14_method_27_code, 6, some .int),
  (⟨"PushedInModel", "of", "(II)I"⟩, prog_14_method_36_code, 3, some .int),
  (⟨"PushedInModel", "one", "()I"⟩, prog_14_method_23_code, 5, some .int),
  (⟨"PushedInModel", "pairs", "(II)I"⟩, prog_14_method_43_code, 6, some .int),
  (⟨"PushedInModel", "passed", "(II)I"⟩, prog_14_method_42_code, 3, some .int),
  (⟨"PushedInModel", "passes", "(III)Z"⟩, prog_14_method_41_code, 4, some .boolean),
  (⟨"PushedInModel", "passesAsTold", "(II)Z"⟩, prog_14_method_45_code, 3, some .boolean),
  (⟨"PushedInModel", "picksAs", "(II)I"⟩, prog_14_method_71_code, 3, some .int),
  (⟨"PushedInModel", "product", "()I"⟩, prog_14_method_21_code, 4, some .int),
  (⟨"PushedInModel", "put", "(IIJ)I"⟩, prog_14_method_82_code, 6, some .int),
  (⟨"PushedInModel", "redo", "()I"⟩, prog_14_method_5_code, 1, some .int),
  (⟨"PushedInModel", "refusal", "(II)I"⟩, prog_14_method_80_code, 3, some .int),
  (⟨"PushedInModel", "row", "(III)I"⟩, prog_14_method_79_code, 5, some .int),
  (⟨"PushedInModel", "rule", "(III)I"⟩, prog_14_method_52_code, 4, some .int),
  (⟨"PushedInModel", "score", "(IIII)I"⟩, prog_14_method_54_code, 6, some .int),
  (⟨"PushedInModel", "seldom", "(III)I"⟩, prog_14_method_66_code, 12, some .int),
  (⟨"PushedInModel", "shift", "(IIIII)I"⟩, prog_14_method_84_code, 7, some .int),
  (⟨"PushedInModel", "stand", "(II)I"⟩, prog_14_method_68_code, 9, some .int),
  (⟨"PushedInModel", "start", "(II)I"⟩, prog_14_method_44_code, 3, some .int),
  (⟨"PushedInModel", "sums", "()I"⟩, prog_14_method_20_code, 4, some .int),
  (⟨"PushedInModel", "taken", "(II)I"⟩, prog_14_method_85_code, 4, some .int),
  (⟨"PushedInModel", "takes", "(I)Z"⟩, prog_14_method_16_code, 2, some .boolean),
  (⟨"PushedInModel", "tellsAs", "(II)I"⟩, prog_14_method_74_code, 4, some .int),
  (⟨"PushedInModel", "text", "()I"⟩, prog_14_method_25_code, 4, some .int),
  (⟨"PushedInModel", "textScore", "(IIII)I"⟩, prog_14_method_53_code, 5, some .int),
  (⟨"PushedInModel", "trace", "(I)I"⟩, prog_14_method_76_code, 2, some .int),
  (⟨"PushedInModel", "undo", "()I"⟩, prog_14_method_4_code, 1, some .int),
  (⟨"PushedInModel", "waits", "(III)Z"⟩, prog_14_method_63_code, 6, some .boolean),
  (⟨"PushedInModel", "waitsIn", "(II)I"⟩, prog_14_method_65_code, 6, some .int),
  (⟨"PushedInModel", "wants", "(I)V"⟩, prog_14_method_26_code, 2, none),
  (⟨"PushedInModel", "whom", "(I)J"⟩, prog_14_method_47_code, 5, some .long),
  (⟨"PushedInModel", "within", "(JJJ)Z"⟩, prog_14_method_1_code, 6, some .boolean),
  (⟨"PushedInModel", "workOut", "(II)I"⟩, prog_14_method_24_code, 8, some .int),
  (⟨"PushedInModel", "wrong", "()I"⟩, prog_14_method_15_code, 1, some .int),
  (⟨"PushedInModel", "yard", "(II)I"⟩, prog_14_method_12_code, 4, some .int),
  (⟨"java/lang/Integer", "bitCount", "(I)I"⟩, prog_16_method_49_code, 1, some .int),
  (⟨"java/lang/Math", "abs", "(I)I"⟩, prog_17_method_59_code, 1, some .int),
  (⟨"java/lang/Math", "max", "(II)I"⟩, prog_17_method_65_code, 2, some .int),
  (⟨"java/lang/Math", "min", "(II)I"⟩, prog_17_method_69_code, 2, some .int)]
def zpMT : zMT := fun n => zpM.getD n (⟨"", "", ""⟩, ⟨#[]⟩, 0, none)

/-- PushedIn -/
def zpP0 : zPool := ([(10, 11, 0, 9), (19, 11, 1, 9), (28, 11, 2, 9), (37, 11, 3, 9), (44, 11, 4, 9), (53, 11, 5, 9), (60, 11, 6, 9), (67, 11, 7, 9), (74, 11, 8, 9), (82, 10, 7, 0), (90, 10, 3, 9), (98, 10, 2, 9), (101, 10, 8, 0), (104, 10, 10, 1), (108, 8, 2, 0), (115, 10, 1, 0), (118, 10, 0, 9), (154, 2, 2, 0), (157, 2, 0, 0), (170, 2, 8, 0), (190, 6, 8, 0), (226, 7, 5, 0), (229, 7, 6, 0), (241, 1, 5, 0), (247, 1, 6, 0), (254, 6, 7, 9), (260, 0, 1, 0), (268, 0, 0, 9), (283, 5, 3, 9)], [], [(143, 5), (180, (-1)), (293, (-9223372036854775808))], [(78, 1, 39, 2, 11), (86, 0, 119, 3, 10), (94, 0, 50, 3, 1), (111, 0, 102, 2, 8), (122, 0, 56, 1, 3), (126, 0, 103, 0, 8), (129, 0, 120, 0, 10), (132, 0, 71, 1, 5), (136, 0, 72, 2, 5), (139, 0, 74, 3, 5), (145, 0, 122, 1, 10), (148, 0, 54, 1, 2), (158, 0, 51, 0, 2), (162, 0, 65, 3, 4), (166, 0, 66, 2, 4), (173, 0, 61, 1, 4), (176, 0, 63, 1, 4), (182, 0, 57, 1, 4), (186, 0, 60, 0, 4), (191, 0, 78, 4, 6), (194, 0, 85, 0, 6), (197, 0, 82, 1, 6), (198, 0, 84, 4, 6), (202, 0, 80, 2, 6), (205, 0, 79, 3, 6), (208, 0, 123, 1, 10), (211, 0, 81, 1, 6), (214, 0, 88, 2, 6), (217, 0, 90, 1, 7), (220, 0, 91, 2, 7), (223, 0, 96, 2, 7), (232, 0, 97, 4, 7), (235, 0, 89, 4, 7), (238, 0, 99, 2, 7), (244, 0, 48, 0, 1), (248, 0, 47, 0, 1), (251, 0, 42, 0, 0), (257, 0, 44, 4, 0), (263, 1, 219, 2, 0), (271, 0, 67, 1, 5), (274, 0, 70, 2, 5), (277, 0, 69, 3, 5), (280, 0, 75, 2, 5), (287, 0, 73, 2, 5), (295, 0, 76, 2, 5), (298, 0, 68, 3, 5), (302, 4, 0, 5, 0), (308, 0, 77, 1, 5), (311, 1, 16, 2, 11)], [(314, 1000)], [])
/-- PushedIn$Acts -/
def zpP1 : zPool := ([(9, 0, 0, 9), (15, 0, 1, 0), (19, 0, 2, 0), (22, 0, 3, 0)], [], [], [(25, 0, 43, 3, 0), (29, 0, 46, 4, 0), (36, 2, 39, 2, 11), (43, 0, 45, 3, 0), (46, 0, 41, 4, 0)], [(33, 1000), (40, 1001)], [])
/-- PushedIn$Changes -/
def zpP2 : zPool := ([(9, 1, 1, 9), (15, 1, 2, 9), (18, 1, 3, 9), (21, 1, 4, 9), (24, 1, 0, 9), (34, 1, 5, 0), (41, 1, 6, 0)], [], [], [(28, 0, 126, 2, 10), (38, 0, 49, 0, 1), (44, 0, 121, 3, 10), (48, 4, 0, 5, 0)], [], [])
/-- PushedIn$Comer -/
def zpP3 : zPool := ([(9, 2, 10, 0), (19, 2, 11, 0), (22, 2, 8, 0), (25, 2, 0, 0), (28, 2, 1, 0), (31, 2, 2, 0), (34, 2, 3, 0), (37, 2, 4, 0), (40, 2, 5, 0), (43, 2, 6, 0), (46, 2, 7, 0), (49, 2, 9, 0)], [], [], [(15, 0, 51, 0, 2)], [], [])
/-- PushedIn$ComerReader -/
def zpP4 : zPool := ([(9, 3, 0, 9), (24, 2, 1, 0), (34, 2, 2, 0), (37, 2, 3, 0), (40, 2, 4, 0), (43, 2, 5, 0), (50, 2, 6, 0), (53, 2, 7, 0), (63, 8, 3, 0)], [], [], [(15, 0, 105, 0, 8), (20, 0, 104, 3, 8), (30, 0, 55, 1, 3), (46, 0, 101, 1, 8), (56, 0, 106, 0, 8), (60, 0, 107, 0, 8)], [], [])
/-- PushedIn$Passing -/
def zpP5 : zPool := ([(11, 4, 1, 9), (15, 4, 2, 9), (18, 4, 3, 9), (21, 4, 0, 9), (39, 2, 11, 0), (43, 2, 10, 0), (46, 10, 1, 0), (51, 10, 0, 9), (55, 2, 0, 0), (62, 2, 8, 0), (69, 4, 4, 0), (94, 10, 10, 1), (98, 2, 7, 0), (101, 2, 1, 0), (104, 10, 9, 0)], [], [], [(25, 0, 59, 2, 4), (29, 0, 53, 0, 2), (35, 0, 51, 0, 2), (58, 0, 65, 3, 4), (65, 0, 52, 1, 2), (70, 0, 58, 2, 4), (74, 0, 64, 1, 4), (78, 0, 62, 1, 4), (81, 1, 216, 1, 0), (86, 1, 219, 2, 0), (91, 1, 218, 2, 0)], [], [])
/-- PushedIn$Places -/
def zpP6 : zPool := ([(9, 5, 0, 9), (15, 5, 1, 9), (18, 5, 2, 9), (23, 5, 3, 9), (38, 2, 1, 0), (44, 2, 2, 0), (47, 2, 3, 0), (50, 2, 4, 0), (53, 2, 5, 0), (56, 2, 6, 0), (59, 2, 7, 0)], [], [], [(26, 0, 76, 2, 5), (30, 2, 39, 2, 11), (34, 0, 71, 1, 5)], [], [])
/-- PushedIn$Rules -/
def zpP7 : zPool := ([(19, 6, 1, 9), (25, 6, 2, 9), (28, 6, 3, 9), (31, 6, 4, 9), (34, 6, 7, 9), (37, 6, 0, 9), (44, 6, 5, 2), (48, 6, 6, 2), (51, 6, 8, 0), (62, 10, 1, 0), (65, 10, 0, 9), (69, 2, 0, 0), (74, 2, 1, 0), (88, 2, 3, 0), (102, 2, 5, 0), (105, 2, 6, 0), (108, 10, 2, 9), (111, 2, 4, 0), (117, 2, 7, 0)], [], [], [(55, 2, 39, 2, 11), (59, 0, 110, 0, 9), (77, 0, 53, 0, 2), (80, 0, 130, 2, 10), (84, 0, 87, 4, 6), (91, 0, 84, 4, 6), (95, 0, 83, 2, 6), (98, 0, 51, 0, 2), (114, 0, 86, 4, 6), (120, 0, 118, 1, 9)], [], [])
/-- PushedIn$Survey -/
def zpP8 : zPool := ([(9, 7, 1, 9), (15, 7, 2, 9), (18, 7, 0, 9), (22, 10, 1, 0), (28, 10, 0, 9), (36, 2, 0, 0), (41, 2, 7, 0), (44, 2, 3, 0), (47, 7, 5, 0), (50, 7, 6, 0), (57, 2, 9, 0), (68, 2, 2, 0), (71, 2, 11, 0), (82, 2, 1, 0), (85, 10, 9, 0), (88, 2, 10, 0), (98, 7, 4, 0), (108, 7, 3, 0), (115, 2, 5, 0)], [(118, 1103515245)], [], [(32, 0, 94, 2, 7), (53, 0, 51, 0, 2), (60, 0, 122, 1, 10), (64, 0, 95, 1, 7), (74, 0, 124, 2, 10), (78, 0, 98, 3, 7), (91, 0, 130, 2, 10), (94, 0, 93, 1, 7), (101, 0, 100, 1, 7), (105, 0, 92, 0, 7), (111, 0, 53, 0, 2), (119, 1, 217, 1, 0)], [], [])
/-- PushedIn$Tape -/
def zpP9 : zPool := ([(9, 8, 0, 9), (15, 8, 2, 0), (19, 8, 1, 0), (22, 8, 3, 0)], [], [], [(25, 0, 106, 0, 8), (29, 2, 15, 1, 11), (33, 0, 107, 0, 8)], [], [])
/-- PushedIn$Text -/
def zpP10 : zPool := ([(11, 9, 1, 9), (15, 9, 2, 9), (18, 9, 3, 9), (21, 9, 0, 9), (25, 9, 4, 0), (48, 8, 3, 0)], [], [], [(29, 0, 105, 0, 8), (34, 0, 114, 0, 9), (37, 0, 101, 1, 8), (41, 0, 106, 0, 8), (45, 0, 107, 0, 8), (51, 1, 109, 3, 9), (55, 0, 113, 1, 9), (59, 0, 108, 2, 9), (63, 0, 111, 1, 9), (66, 0, 112, 1, 9), (69, 0, 117, 1, 9), (72, 0, 116, 1, 9), (75, 0, 115, 1, 9), (80, 3, 0, 1, 0), (86, 2, 15, 1, 11), (89, 0, 104, 3, 8)], [], [(78, 2000)])
/-- PushedIn$Yard -/
def zpP11 : zPool := ([(11, 10, 0, 9), (17, 10, 2, 9), (21, 10, 3, 9), (24, 10, 4, 9), (27, 10, 5, 9), (30, 10, 6, 9), (34, 10, 1, 0), (42, 2, 0, 0), (45, 10, 8, 0), (46, 2, 8, 0), (52, 10, 7, 0), (55, 10, 10, 1), (59, 2, 7, 0), (66, 2, 1, 0), (69, 10, 9, 0), (76, 2, 9, 0), (83, 2, 3, 0), (89, 2, 2, 0), (98, 2, 4, 0), (101, 2, 10, 0), (104, 2, 11, 0)], [], [], [(38, 2, 39, 2, 11), (49, 0, 128, 0, 10), (62, 0, 122, 1, 10), (72, 0, 127, 1, 10), (79, 0, 129, 1, 10), (86, 0, 125, 2, 10), (92, 1, 218, 2, 0)], [], [])
/-- PushedInModel -/
def zpP12 : zPool := ([(7, 12, 0, 9), (13, 12, 1, 9), (16, 12, 2, 9), (19, 12, 3, 9), (22, 12, 7, 9), (25, 12, 8, 9), (28, 12, 9, 9), (31, 12, 12, 9), (34, 12, 14, 9), (37, 12, 21, 9), (40, 12, 23, 9), (43, 12, 24, 9), (46, 12, 25, 9), (49, 12, 26, 9), (52, 12, 27, 9), (55, 12, 28, 9), (58, 12, 29, 9), (61, 12, 30, 9), (64, 12, 31, 9), (67, 12, 32, 9), (70, 12, 33, 9), (73, 12, 34, 9), (76, 12, 35, 9), (79, 12, 39, 9), (82, 12, 40, 9), (85, 12, 41, 9), (88, 12, 42, 9), (91, 12, 43, 9), (94, 12, 44, 9), (97, 12, 45, 9), (100, 12, 49, 9), (103, 12, 50, 9), (106, 12, 51, 9), (110, 12, 52, 9), (113, 12, 15, 0), (117, 12, 5, 0), (120, 12, 4, 0), (138, 12, 6, 0), (153, 12, 10, 0), (156, 12, 11, 0), (161, 12, 13, 0), (164, 12, 17, 0), (167, 12, 18, 0), (170, 12, 16, 0), (173, 12, 19, 0), (198, 12, 20, 0), (214, 12, 22, 0), (272, 12, 37, 0), (275, 12, 36, 0), (282, 12, 38, 0), (312, 12, 46, 0), (321, 12, 48, 0), (327, 12, 47, 0)], [(311, 1103515245)], [(123, 3), (129, 719), (141, 5), (143, 99), (149, 2), (151, 30), (159, 4), (231, 12), (233, 7), (267, (-1)), (285, 9999), (306, 200), (345, (-9223372036854775808))], [(125, 1, 212, 3, 12), (131, 1, 166, 1, 12), (135, 1, 168, 1, 12), (145, 0, 138, 2, 12), (176, 0, 142, 0, 12), (180, 0, 140, 0, 12), (183, 0, 202, 1, 12), (186, 0, 149, 0, 12), (189, 0, 200, 0, 12), (192, 0, 189, 0, 12), (195, 0, 183, 0, 12), (201, 0, 214, 0, 12), (204, 0, 154, 0, 12), (207, 1, 178, 1, 12), (211, 0, 213, 2, 12), (217, 0, 181, 3, 12), (221, 0, 210, 1, 12), (225, 0, 133, 0, 12), (228, 1, 170, 1, 12), (235, 0, 160, 2, 12), (239, 0, 134, 1, 12), (242, 0, 163, 2, 12), (245, 0, 175, 1, 12), (248, 0, 164, 1, 12), (251, 0, 153, 1, 12), (254, 1, 165, 1, 12), (257, 0, 167, 2, 12), (260, 0, 159, 0, 12), (263, 0, 186, 3, 12), (269, 0, 187, 2, 12), (278, 0, 146, 2, 12), (287, 0, 205, 4, 12), (291, 0, 195, 4, 12), (294, 0, 169, 1, 12), (297, 0, 180, 4, 12), (300, 0, 152, 2, 12), (303, 0, 208, 3, 12), (308, 0, 209, 2, 12), (315, 0, 139, 1, 12), (318, 0, 188, 2, 12), (324, 0, 161, 2, 12), (330, 0, 150, 2, 12), (333, 0, 203, 2, 12), (336, 0, 192, 2, 12), (339, 1, 136, 2, 12), (347, 0, 174, 1, 12), (350, 1, 131, 1, 12)], [], [])
/-- java/lang/Integer -/
def zpP13 : zPool := ([], [(265, 1431655765), (266, 858993459), (267, 252645135)], [], [], [], [])
/-- java/lang/Math -/
def zpP14 : zPool := ([], [], [], [], [], [])

def zpZ : zZ := ([
  (0, 0, (0, 11, 0, [(2, 1, 1), (2, 2, 2), (2, 3, 3), (2, 4, 4), (2, 5, 5), (2, 6, 6), (2, 7, 7), (2, 8, 8), (2, 9, 9)])),
  (1, 1, (0, 10, 0, [(2, 12, 12), (3, 1, 0), (2, 13, 13), (2, 14, 14), (2, 15, 15), (2, 16, 16), (2, 17, 17), (0, 0, 12), (0, 0, 3), (0, (-2147483648), 2147483647), (0, 0, 1)])),
  (2, 2, (0, 8, 0, [(2, 18, 18), (0, 0, 60), (0, 0, 60), (0, (-1), 60)])),
  (3, 3, (0, 3, 0, [(2, 2, 2)])),
  (4, 4, (0, 1, 0, [(2, 1, 1), (2, 19, 19), (2, 20, 20), (2, 21, 21), (2, 22, 22), (0, 0, 40), (0, 0, 40)])),
  (5, 5, (0, 4, 0, [(2, 1, 1), (2, 23, 23), (2, 24, 24), (2, 25, 25), (0, 0, 6)])),
  (6, 6, (0, 6, 0, [(2, 1, 1), (2, 26, 26), (2, 27, 27), (2, 28, 28), (2, 29, 29), (2, 10, 11), (2, 10, 11), (2, 30, 30), (0, 0, 20)])),
  (7, 7, (0, 7, 0, [(2, 1, 1), (2, 37, 37), (2, 38, 38), (0, 0, 40), (0, (-2147483648), 2147483647), (0, (-2147483648), 2147483647), (0, (-2147483648), 2147483647)])),
  (8, 8, (0, 0, 0, [(2, 39, 39), (0, 0, 2147483647), (0, (-2147483648), 2147483647), (7, 0, 7)])),
  (9, 9, (0, 5, 0, [(2, 40, 40), (2, 41, 41), (2, 42, 42), (2, 43, 43)])),
  (10, 11, (0, 9, 0, [(2, 2, 2), (4, 21, 0), (4, 23, 0), (4, 25, 0), (8, 0, 61)])),
  (12, 12, (4, 3, 40, [(0, 50, 0)])),
  (13, 13, (1, 0, 6, [(0, (-2147483648), 2147483647)])),
  (14, 14, (1, 0, 6, [(0, (-2147483648), 2147483647)])),
  (15, 15, (1, 0, 12, [(0, (-2147483648), 2147483647)])),
  (16, 16, (1, 0, 12, [(0, (-2147483648), 2147483647)])),
  (17, 17, (1, 0, 12, [(0, (-2147483648), 2147483647)])),
  (18, 18, (2, 1, 60, [(0, (-128), 127)])),
  (19, 19, (1, 0, 40, [(0, (-2147483648), 2147483647)])),
  (20, 20, (1, 0, 40, [(0, (-2147483648), 2147483647)])),
  (21, 21, (1, 0, 40, [(0, (-2147483648), 2147483647)])),
  (22, 22, (1, 0, 40, [(0, (-2147483648), 2147483647)])),
  (23, 23, (1, 0, 6, [(0, 0, 39)])),
  (24, 24, (1, 0, 6, [(0, (-2147483648), 2147483647)])),
  (25, 25, (1, 0, 64, [(0, (-2147483648), 2147483647)])),
  (26, 26, (1, 0, 8, [(0, (-2147483648), 2147483647)])),
  (27, 27, (1, 0, 20, [(0, (-2147483648), 2147483647)])),
  (28, 28, (1, 0, 20, [(0, (-2147483648), 2147483647)])),
  (29, 29, (1, 0, 20, [(0, (-2147483648), 2147483647)])),
  (30, 30, (1, 0, 20, [(0, 0, 7)])),
  (31, 32, (6, 0, 61, [(2, 21, 0)])),
  (33, 34, (7, 0, 61, [])),
  (35, 36, (1, 0, 61, [(0, (-2147483648), 2147483647)])),
  (37, 37, (1, 0, 40, [(0, (-2147483648), 2147483647)])),
  (38, 38, (1, 0, 40, [(0, (-2147483648), 2147483647)])),
  (39, 39, (1, 0, 24, [(0, (-2147483648), 2147483647)])),
  (40, 40, (1, 0, 6, [(0, (-2147483648), 2147483647)])),
  (41, 41, (1, 0, 6, [(0, (-2147483648), 2147483647)])),
  (42, 42, (1, 0, 6, [(0, 0, 60)])),
  (43, 43, (5, 4, 6, [(0, 44, 0)])),
  (44, 49, (3, 2, 60, [])),
  (50, 89, (0, 2, 0, [(0, (-2147483648), 2147483647), (0, (-2147483648), 2147483647), (0, (-2147483648), 2147483647), (0, (-2147483648), 2147483647), (5, 0, 5), (0, (-2147483648), 2147483647), (0, (-2147483648), 2147483647), (0, (-2147483648), 2147483647), (0, (-2147483648), 2147483647), (0, (-1), 39), (0, (-2147483648), 2147483647), (0, (-2147483648), 2147483647)])),
  (90, 90, (0, 12, 0, [(2, 91, 91), (2, 92, 92), (2, 93, 93), (2, 94, 94), (0, 0, 40), (0, 0, 40), (0, 0, 12), (2, 95, 95), (2, 96, 96), (2, 97, 97), (0, 0, 3), (0, 0, 1), (2, 98, 98), (0, 0, 60), (2, 99, 99), (0, (-1), 60), (0, (-1), 0), (0, 0, 60), (0, 0, 60), (0, (-1), 60), (0, 0, 6), (2, 100, 100), (0, 0, 40), (2, 101, 101), (2, 102, 102), (2, 103, 103), (2, 104, 104), (2, 105, 105), (2, 106, 106), (2, 107, 107), (2, 108, 108), (2, 109, 109), (2, 110, 110), (2, 111, 111), (2, 112, 112), (2, 113, 113), (0, 0, 6), (0, (-2147483648), 2147483647), (0, 0, 20), (2, 114, 114), (2, 115, 115), (2, 116, 116), (2, 117, 117), (2, 118, 118), (2, 119, 119), (2, 120, 120), (0, 0, 2147483647), (0, 0, 7), (0, (-2147483648), 2147483647), (2, 121, 121), (2, 122, 122), (2, 123, 123), (2, 124, 124)])),
  (91, 91, (1, 0, 53, [(0, (-2147483648), 2147483647)])),
  (92, 92, (1, 0, 40, [(0, 0, 52)])),
  (93, 93, (1, 0, 40, [(0, (-2147483648), 2147483647)])),
  (94, 94, (1, 0, 40, [(0, (-2147483648), 2147483647)])),
  (95, 95, (1, 0, 12, [(0, (-2147483648), 2147483647)])),
  (96, 96, (1, 0, 12, [(0, (-2147483648), 2147483647)])),
  (97, 97, (1, 0, 12, [(0, (-2147483648), 2147483647)])),
  (98, 98, (1, 0, 60, [(0, 0, 255)])),
  (99, 99, (1, 0, 60, [(0, 0, 255)])),
  (100, 100, (1, 0, 8, [(0, (-2147483648), 2147483647)])),
  (101, 101, (1, 0, 40, [(0, (-2147483648), 2147483647)])),
  (102, 102, (1, 0, 40, [(0, (-2147483648), 2147483647)])),
  (103, 103, (1, 0, 40, [(0, (-2147483648), 2147483647)])),
  (104, 104, (1, 0, 40, [(0, 0, 5)])),
  (105, 105, (1, 0, 40, [(0, (-2147483648), 2147483647)])),
  (106, 106, (1, 0, 40, [(0, (-2147483648), 2147483647)])),
  (107, 107, (1, 0, 40, [(0, (-2147483648), 2147483647)])),
  (108, 108, (1, 0, 40, [(0, (-2147483648), 2147483647)])),
  (109, 109, (1, 0, 7, [(0, (-2147483648), 2147483647)])),
  (110, 110, (1, 0, 40, [(0, (-2147483648), 2147483647)])),
  (111, 111, (1, 0, 40, [(0, (-2147483648), 2147483647)])),
  (112, 112, (1, 0, 6, [(0, 0, 39)])),
  (113, 113, (1, 0, 6, [(0, (-2147483648), 2147483647)])),
  (114, 114, (1, 0, 20, [(0, 0, 7)])),
  (115, 115, (1, 0, 20, [(0, (-2147483648), 2147483647)])),
  (116, 116, (1, 0, 20, [(0, (-2147483648), 2147483647)])),
  (117, 117, (1, 0, 20, [(0, (-2147483648), 2147483647)])),
  (118, 118, (1, 0, 40, [(0, 0, 39)])),
  (119, 119, (1, 0, 40, [(0, (-2147483648), 2147483647)])),
  (120, 120, (1, 0, 24, [(0, (-2147483648), 2147483647)])),
  (121, 121, (1, 0, 6, [(0, (-1), 24)])),
  (122, 122, (1, 0, 6, [(0, 0, 60)])),
  (123, 123, (3, 2, 360, [])),
  (124, 124, (3, 2, 60, []))], 50, 4)
def zpKA : List Int := [(-1), 0, 0, 1, 1, 0, 3, 0]
def zpBO : List Int := [1, 10, 11, 2, 20, 0, 0, 0, 0, 0, 30, 0, 0, 40, 0, 0, 50, 0, 0, 0, 0, 0, 0, 60, 71, 70, 0, 0, 0, 0, 80, 0]
def zpRS : List (List Int) := [zpKA, zpBO]

def zqa0 : zAV := (0, 0, 0, 0, 0)
def zqa1 : zAV := (1, 0, (-1), 0, 0)
def zqa2 : zAV := (1, 0, (-11), 0, 0)
def zqa3 : zAV := (1, 0, (-12), 0, 0)
def zqa4 : zAV := (1, 0, (-13), 0, 0)
def zqa5 : zAV := (1, 0, (-2), 0, 0)
def zqa6 : zAV := (1, 0, (-3), 0, 0)
def zqa7 : zAV := (1, 0, (-5), 0, 0)
def zqa8 : zAV := (1, 0, 0, 0, 0)
def zqa9 : zAV := (1, 0, 1, 0, 0)
def zqa10 : zAV := (1, 0, 10, 0, 0)
def zqa11 : zAV := (1, 0, 108, 0, 0)
def zqa12 : zAV := (1, 0, 11, 0, 0)
def zqa13 : zAV := (1, 0, 2, 0, 0)
def zqa14 : zAV := (1, 0, 20, 0, 0)
def zqa15 : zAV := (1, 0, 3, 0, 0)
def zqa16 : zAV := (1, 0, 30, 0, 0)
def zqa17 : zAV := (1, 0, 35, 0, 0)
def zqa18 : zAV := (1, 0, 38, 0, 0)
def zqa19 : zAV := (1, 0, 4, 0, 0)
def zqa20 : zAV := (1, 0, 40, 0, 0)
def zqa21 : zAV := (1, 0, 41, 0, 0)
def zqa22 : zAV := (1, 0, 5, 0, 0)
def zqa23 : zAV := (1, 0, 50, 0, 0)
def zqa24 : zAV := (1, 0, 59, 0, 0)
def zqa25 : zAV := (1, 0, 6, 0, 0)
def zqa26 : zAV := (1, 0, 7, 0, 0)
def zqa27 : zAV := (1, 0, 71, 0, 0)
def zqa28 : zAV := (1, 0, 718, 0, 0)
def zqa29 : zAV := (1, 0, 719, 0, 0)
def zqa30 : zAV := (1, 0, 8, 0, 0)
def zqa31 : zAV := (1, 0, 80, 0, 0)
def zqa32 : zAV := (1, 0, 9, 0, 0)
def zqa33 : zAV := (1, 0, 99, 0, 0)
def zqa34 : zAV := (1, 10, 0, 0, 0)
def zqa35 : zAV := (1, 11, 0, 0, 0)
def zqa36 : zAV := (1, 12, 0, 0, 0)
def zqa37 : zAV := (1, 4, 0, 0, 0)
def zqa38 : zAV := (1, 5, 0, 0, 0)
def zqa39 : zAV := (1, 6, 0, 0, 0)
def zqa40 : zAV := (1, 7, 0, 0, 0)
def zqa41 : zAV := (1, 8, 0, 0, 0)
def zqa42 : zAV := (1, 9, 0, 0, 0)
def zqa43 : zAV := (2, 0, (-1), 0, 0)
def zqa44 : zAV := (2, 0, 0, 0, 0)
def zqa45 : zAV := (2, 0, 1, 0, 0)
def zqa46 : zAV := (2, 0, 719, 0, 0)
def zqa47 : zAV := (2, 4, 0, 0, 0)
def zqa48 : zAV := (2, 5, 0, 0, 0)
def zqa49 : zAV := (2, 6, 0, 0, 0)
def zqa50 : zAV := (3, 0, 0, 0, 0)
def zqa51 : zAV := (3, 0, 1, 0, 0)
def zqa52 : zAV := (3, 0, 2, 0, 0)
def zqa53 : zAV := (3, 0, 3, 0, 0)
def zqa54 : zAV := (3, 0, 4, 0, 0)
def zqa55 : zAV := (3, 0, 5, 0, 0)
def zqa56 : zAV := (3, 0, 6, 0, 0)
def zqa57 : zAV := (3, 0, 7, 0, 0)
def zqa58 : zAV := (3, 0, 8, 0, 0)
def zqa59 : zAV := (3, 0, 9, 0, 0)
def zqa60 : zAV := (3, 0, 90, 0, 0)
def zqa61 : zAV := (3, 4, 0, 0, 0)
def zqa62 : zAV := (3, 5, 0, 0, 0)
def zqf63 : zFa := (0, 2, 1, (1, 0, 0, 0, 0))
def zqf64 : zFa := (0, 2, 1, (1, 4, 0, 0, 0))
def zqf65 : zFa := (0, 2, 1, (1, 5, 0, 0, 0))
def zqf66 : zFa := (0, 2, 1, (1, 5, 1, 0, 0))
def zqf67 : zFa := (0, 2, 1, (1, 6, 0, 0, 0))
def zqf68 : zFa := (0, 2, 1, (1, 7, 0, 0, 0))
def zqf69 : zFa := (0, 2, 3, (1, 0, (-1), 0, 0))
def zqf70 : zFa := (0, 2, 3, (1, 0, 0, 0, 0))
def zqf71 : zFa := (0, 2, 3, (1, 4, 0, 0, 0))
def zqf72 : zFa := (0, 2, 3, (1, 5, 0, 0, 0))
def zqf73 : zFa := (0, 2, 3, (1, 6, 0, 0, 0))
def zqf74 : zFa := (0, 2, 3, (1, 7, 0, 0, 0))
def zqf75 : zFa := (0, 8, 1, (1, 0, 0, 0, 0))
def zqf76 : zFa := (0, 8, 1, (1, 0, 1, 0, 0))
def zqf77 : zFa := (0, 8, 1, (1, 0, 2, 0, 0))
def zqf78 : zFa := (0, 8, 1, (1, 0, 3, 0, 0))
def zqf79 : zFa := (0, 8, 1, (1, 0, 4, 0, 0))
def zqf80 : zFa := (0, 8, 1, (1, 0, 5, 0, 0))
def zqf81 : zFa := (0, 8, 1, (1, 0, 6, 0, 0))
def zqf82 : zFa := (0, 8, 1, (1, 0, 7, 0, 0))
def zqf83 : zFa := (0, 8, 1, (1, 0, 8, 0, 0))
def zqf84 : zFa := (0, 8, 1, (1, 4, 0, 0, 0))
def zqf85 : zFa := (0, 8, 1, (1, 4, 1, 0, 0))
def zqf86 : zFa := (0, 8, 1, (1, 5, 0, 0, 0))
def zqf87 : zFa := (0, 8, 1, (1, 5, 1, 0, 0))
def zqf88 : zFa := (0, 8, 1, (1, 5, 2, 0, 0))
def zqf89 : zFa := (0, 8, 1, (1, 5, 3, 0, 0))
def zqf90 : zFa := (0, 8, 1, (1, 6, 0, 0, 0))
def zqf91 : zFa := (0, 8, 1, (1, 7, 0, 0, 0))
def zqf92 : zFa := (0, 90, 17, (1, 0, 0, 0, 0))
def zqf93 : zFa := (0, 90, 17, (1, 4, 0, 0, 0))
def zqf94 : zFa := (0, 90, 17, (1, 4, 1, 0, 0))
def zqf95 : zFa := (0, 90, 17, (1, 5, 0, 0, 0))
def zqf96 : zFa := (0, 90, 17, (1, 6, 0, 0, 0))
def zqf97 : zFa := (0, 90, 17, (1, 7, 0, 0, 0))
def zqf98 : zFa := (0, 90, 17, (1, 8, 0, 0, 0))
def zqf99 : zFa := (0, 90, 17, (1, 9, 0, 0, 0))
def zqf100 : zFa := (0, 90, 18, (1, 4, 0, 0, 0))
def zqf101 : zFa := (0, 90, 18, (1, 5, 0, 0, 0))
def zqf102 : zFa := (0, 90, 18, (1, 6, 0, 0, 0))
def zqf103 : zFa := (0, 90, 19, (1, 0, (-1), 0, 0))
def zqf104 : zFa := (0, 90, 19, (1, 0, 0, 0, 0))
def zqf105 : zFa := (0, 90, 19, (1, 5, 0, 0, 0))
def zqf106 : zFa := (0, 90, 19, (1, 6, 0, 0, 0))
def zqf107 : zFa := (0, 90, 19, (1, 7, 0, 0, 0))
def zqf108 : zFa := (0, 90, 19, (1, 8, 0, 0, 0))
def zqf109 : zFa := (0, 90, 20, (1, 0, 0, 0, 0))
def zqf110 : zFa := (0, 90, 20, (1, 0, 1, 0, 0))
def zqf111 : zFa := (0, 90, 20, (1, 0, 2, 0, 0))
def zqf112 : zFa := (0, 90, 20, (1, 0, 3, 0, 0))
def zqf113 : zFa := (0, 90, 20, (1, 0, 4, 0, 0))
def zqf114 : zFa := (0, 90, 20, (1, 0, 5, 0, 0))
def zqf115 : zFa := (0, 90, 20, (1, 0, 6, 0, 0))
def zqf116 : zFa := (0, 90, 20, (1, 9, 0, 0, 0))
def zqf117 : zFa := (0, 90, 22, (1, 7, 0, 0, 0))
def zqf118 : zFa := (0, 90, 22, (1, 7, 1, 0, 0))
def zqf119 : zFa := (0, 90, 22, (1, 7, 10, 0, 0))
def zqf120 : zFa := (0, 90, 22, (1, 7, 11, 0, 0))
def zqf121 : zFa := (0, 90, 22, (1, 7, 2, 0, 0))
def zqf122 : zFa := (0, 90, 22, (1, 7, 3, 0, 0))
def zqf123 : zFa := (0, 90, 22, (1, 7, 4, 0, 0))
def zqf124 : zFa := (0, 90, 22, (1, 7, 5, 0, 0))
def zqf125 : zFa := (0, 90, 22, (1, 7, 6, 0, 0))
def zqf126 : zFa := (0, 90, 22, (1, 7, 7, 0, 0))
def zqf127 : zFa := (0, 90, 22, (1, 7, 8, 0, 0))
def zqf128 : zFa := (0, 90, 22, (1, 7, 9, 0, 0))
def zqf129 : zFa := (0, 90, 36, (1, 11, 0, 0, 0))
def zqf130 : zFa := (0, 90, 36, (1, 5, 0, 0, 0))
def zqf131 : zFa := (0, 90, 36, (1, 6, 0, 0, 0))
def zqf132 : zFa := (0, 90, 36, (1, 8, 0, 0, 0))
def zqf133 : zFa := (0, 90, 4, (1, 10, 0, 0, 0))
def zqf134 : zFa := (0, 90, 4, (1, 5, 0, 0, 0))
def zqf135 : zFa := (0, 90, 4, (1, 7, 0, 0, 0))
def zqf136 : zFa := (0, 90, 46, (1, 5, 0, 0, 0))
def zqf137 : zFa := (0, 90, 46, (1, 5, 1, 0, 0))
def zqf138 : zFa := (0, 90, 46, (1, 6, 0, 0, 0))
def zqf139 : zFa := (0, 90, 46, (1, 7, 0, 0, 0))
def zqf140 : zFa := (0, 90, 46, (1, 8, 0, 0, 0))
def zqf141 : zFa := (0, 90, 5, (1, 4, 0, 0, 0))
def zqf142 : zFa := (0, 90, 5, (1, 6, 0, 0, 0))
def zqf143 : zFa := (0, 90, 5, (1, 9, 0, 0, 0))
def zqf144 : zFa := (4, 0, 4, (1, 0, 0, 0, 0))
def zqf145 : zFa := (4, 0, 4, (1, 6, 0, 0, 0))
def zqf146 : zFa := (4, 0, 4, (1, 7, 0, 0, 0))
def zqf147 : zFa := (4, 0, 4, (1, 8, 0, 0, 0))
def zqv148 : zIv := [((-1), (-1))]
def zqv149 : zIv := [((-1), 0)]
def zqv150 : zIv := [((-1), 19)]
def zqv151 : zIv := [((-1), 2147483647)]
def zqv152 : zIv := [((-1), 255)]
def zqv153 : zIv := [((-1), 39)]
def zqv154 : zIv := [((-1), 60)]
def zqv155 : zIv := [((-1), 719)]
def zqv156 : zIv := [((-2), (-2)), (0, 39)]
def zqv157 : zIv := [((-2147483648), (-1)), (2, 2147483647)]
def zqv158 : zIv := [((-2147483648), (-1)), (4, 2147483647)]
def zqv159 : zIv := [((-2147483648), (-1)), (6, 2147483647)]
def zqv160 : zIv := [((-2147483648), (-1)), (61, 2147483647)]
def zqv161 : zIv := [((-2147483648), (-1)), (720, 2147483647)]
def zqv162 : zIv := [((-2147483648), (-1))]
def zqv163 : zIv := [((-2147483648), (-2)), (0, 2147483647)]
def zqv164 : zIv := [((-2147483648), 0), (5, 2147483647)]
def zqv165 : zIv := [((-2147483648), 2147483646)]
def zqv166 : zIv := [((-2147483648), 2147483647)]
def zqv167 : zIv := [((-2147483648), 719)]
def zqv168 : zIv := [((-9223372036854775808), 9223372036854775807)]
def zqv169 : zIv := [(0, 0), (5, 5)]
def zqv170 : zIv := [(0, 0)]
def zqv171 : zIv := [(0, 1)]
def zqv172 : zIv := [(0, 10)]
def zqv173 : zIv := [(0, 11)]
def zqv174 : zIv := [(0, 12)]
def zqv175 : zIv := [(0, 13)]
def zqv176 : zIv := [(0, 14)]
def zqv177 : zIv := [(0, 15)]
def zqv178 : zIv := [(0, 16)]
def zqv179 : zIv := [(0, 17)]
def zqv180 : zIv := [(0, 18)]
def zqv181 : zIv := [(0, 19)]
def zqv182 : zIv := [(0, 2)]
def zqv183 : zIv := [(0, 20)]
def zqv184 : zIv := [(0, 200)]
def zqv185 : zIv := [(0, 21)]
def zqv186 : zIv := [(0, 214748364)]
def zqv187 : zIv := [(0, 2147483646)]
def zqv188 : zIv := [(0, 2147483647)]
def zqv189 : zIv := [(0, 22)]
def zqv190 : zIv := [(0, 23)]
def zqv191 : zIv := [(0, 24)]
def zqv192 : zIv := [(0, 25)]
def zqv193 : zIv := [(0, 255)]
def zqv194 : zIv := [(0, 26)]
def zqv195 : zIv := [(0, 27)]
def zqv196 : zIv := [(0, 28)]
def zqv197 : zIv := [(0, 29)]
def zqv198 : zIv := [(0, 3)]
def zqv199 : zIv := [(0, 30)]
def zqv200 : zIv := [(0, 31)]
def zqv201 : zIv := [(0, 32)]
def zqv202 : zIv := [(0, 33)]
def zqv203 : zIv := [(0, 34)]
def zqv204 : zIv := [(0, 35)]
def zqv205 : zIv := [(0, 36)]
def zqv206 : zIv := [(0, 37)]
def zqv207 : zIv := [(0, 38)]
def zqv208 : zIv := [(0, 39)]
def zqv209 : zIv := [(0, 4)]
def zqv210 : zIv := [(0, 40)]
def zqv211 : zIv := [(0, 41)]
def zqv212 : zIv := [(0, 42)]
def zqv213 : zIv := [(0, 43)]
def zqv214 : zIv := [(0, 44)]
def zqv215 : zIv := [(0, 45)]
def zqv216 : zIv := [(0, 46)]
def zqv217 : zIv := [(0, 47), (58, 255)]
def zqv218 : zIv := [(0, 47)]
def zqv219 : zIv := [(0, 48)]
def zqv220 : zIv := [(0, 49)]
def zqv221 : zIv := [(0, 5)]
def zqv222 : zIv := [(0, 50)]
def zqv223 : zIv := [(0, 51)]
def zqv224 : zIv := [(0, 52)]
def zqv225 : zIv := [(0, 53)]
def zqv226 : zIv := [(0, 54)]
def zqv227 : zIv := [(0, 55)]
def zqv228 : zIv := [(0, 56)]
def zqv229 : zIv := [(0, 57)]
def zqv230 : zIv := [(0, 58)]
def zqv231 : zIv := [(0, 59)]
def zqv232 : zIv := [(0, 6)]
def zqv233 : zIv := [(0, 60)]
def zqv234 : zIv := [(0, 63)]
def zqv235 : zIv := [(0, 7)]
def zqv236 : zIv := [(0, 718)]
def zqv237 : zIv := [(0, 719)]
def zqv238 : zIv := [(0, 8)]
def zqv239 : zIv := [(0, 9)]
def zqv240 : zIv := [(0, 96), (99, 107), (111, 255)]
def zqv241 : zIv := [(0, 99)]
def zqv242 : zIv := [(0, 9999)]
def zqv243 : zIv := [(1, 1)]
def zqv244 : zIv := [(1, 12)]
def zqv245 : zIv := [(1, 16)]
def zqv246 : zIv := [(1, 18)]
def zqv247 : zIv := [(1, 2)]
def zqv248 : zIv := [(1, 200)]
def zqv249 : zIv := [(1, 3)]
def zqv250 : zIv := [(1, 4)]
def zqv251 : zIv := [(1, 40)]
def zqv252 : zIv := [(1, 50), (60, 60), (70, 80)]
def zqv253 : zIv := [(1, 59)]
def zqv254 : zIv := [(1, 6)]
def zqv255 : zIv := [(1, 60)]
def zqv256 : zIv := [(1, 63)]
def zqv257 : zIv := [(1, 7)]
def zqv258 : zIv := [(1, 719)]
def zqv259 : zIv := [(1, 99)]
def zqv260 : zIv := [(10, 10)]
def zqv261 : zIv := [(10, 11)]
def zqv262 : zIv := [(10, 12)]
def zqv263 : zIv := [(10, 60)]
def zqv264 : zIv := [(11, 11)]
def zqv265 : zIv := [(11, 12)]
def zqv266 : zIv := [(12, 12)]
def zqv267 : zIv := [(13, 13)]
def zqv268 : zIv := [(14, 14)]
def zqv269 : zIv := [(15, 15)]
def zqv270 : zIv := [(16, 16)]
def zqv271 : zIv := [(17, 17)]
def zqv272 : zIv := [(18, 18)]
def zqv273 : zIv := [(19, 19)]
def zqv274 : zIv := [(2, 12)]
def zqv275 : zIv := [(2, 2), (5, 14)]
def zqv276 : zIv := [(2, 2)]
def zqv277 : zIv := [(2, 3), (5, 14)]
def zqv278 : zIv := [(2, 3)]
def zqv279 : zIv := [(2, 4)]
def zqv280 : zIv := [(2, 6)]
def zqv281 : zIv := [(2, 60)]
def zqv282 : zIv := [(20, 20)]
def zqv283 : zIv := [(21, 21)]
def zqv284 : zIv := [(22, 22)]
def zqv285 : zIv := [(23, 23)]
def zqv286 : zIv := [(24, 24)]
def zqv287 : zIv := [(25, 25)]
def zqv288 : zIv := [(26, 26)]
def zqv289 : zIv := [(27, 27)]
def zqv290 : zIv := [(28, 28)]
def zqv291 : zIv := [(29, 29)]
def zqv292 : zIv := [(3, 12)]
def zqv293 : zIv := [(3, 3), (6, 15)]
def zqv294 : zIv := [(3, 3)]
def zqv295 : zIv := [(3, 4), (6, 15)]
def zqv296 : zIv := [(3, 5)]
def zqv297 : zIv := [(3, 6)]
def zqv298 : zIv := [(3, 60)]
def zqv299 : zIv := [(30, 30)]
def zqv300 : zIv := [(31, 31)]
def zqv301 : zIv := [(32, 32)]
def zqv302 : zIv := [(33, 199)]
def zqv303 : zIv := [(33, 33)]
def zqv304 : zIv := [(34, 34)]
def zqv305 : zIv := [(35, 35)]
def zqv306 : zIv := [(36, 36)]
def zqv307 : zIv := [(37, 37), (42, 42), (47, 47)]
def zqv308 : zIv := [(37, 37)]
def zqv309 : zIv := [(38, 38)]
def zqv310 : zIv := [(39, 39)]
def zqv311 : zIv := [(4, 12)]
def zqv312 : zIv := [(4, 13)]
def zqv313 : zIv := [(4, 4), (7, 16)]
def zqv314 : zIv := [(4, 4), (8, 10)]
def zqv315 : zIv := [(4, 4)]
def zqv316 : zIv := [(4, 6)]
def zqv317 : zIv := [(4, 60)]
def zqv318 : zIv := [(40, 40)]
def zqv319 : zIv := [(41, 41)]
def zqv320 : zIv := [(42, 42)]
def zqv321 : zIv := [(43, 43)]
def zqv322 : zIv := [(44, 44)]
def zqv323 : zIv := [(45, 199)]
def zqv324 : zIv := [(45, 45), (64, 64), (109, 115)]
def zqv325 : zIv := [(45, 45)]
def zqv326 : zIv := [(46, 46)]
def zqv327 : zIv := [(47, 47)]
def zqv328 : zIv := [(48, 48)]
def zqv329 : zIv := [(49, 49)]
def zqv330 : zIv := [(5, 12)]
def zqv331 : zIv := [(5, 14)]
def zqv332 : zIv := [(5, 18)]
def zqv333 : zIv := [(5, 5), (8, 17)]
def zqv334 : zIv := [(5, 5), (9, 11)]
def zqv335 : zIv := [(5, 5)]
def zqv336 : zIv := [(5, 6)]
def zqv337 : zIv := [(5, 60)]
def zqv338 : zIv := [(5, 7)]
def zqv339 : zIv := [(50, 50)]
def zqv340 : zIv := [(50, 89)]
def zqv341 : zIv := [(51, 51)]
def zqv342 : zIv := [(52, 52)]
def zqv343 : zIv := [(53, 53)]
def zqv344 : zIv := [(54, 54)]
def zqv345 : zIv := [(55, 55)]
def zqv346 : zIv := [(56, 56)]
def zqv347 : zIv := [(57, 57)]
def zqv348 : zIv := [(58, 58)]
def zqv349 : zIv := [(59, 59)]
def zqv350 : zIv := [(6, 12)]
def zqv351 : zIv := [(6, 6), (10, 12)]
def zqv352 : zIv := [(6, 6)]
def zqv353 : zIv := [(6, 60)]
def zqv354 : zIv := [(6, 8)]
def zqv355 : zIv := [(60, 60)]
def zqv356 : zIv := [(7, 12)]
def zqv357 : zIv := [(7, 13)]
def zqv358 : zIv := [(7, 7)]
def zqv359 : zIv := [(7, 9)]
def zqv360 : zIv := [(8, 12)]
def zqv361 : zIv := [(8, 60)]
def zqv362 : zIv := [(8, 8)]
def zqv363 : zIv := [(9, 12)]
def zqv364 : zIv := [(9, 60)]
def zqv365 : zIv := [(9, 9)]
def zqw366 : zWr := [(1, 1, 1, 9), (4, 4, 1, 5), (13, 13, 0, 0), (14, 14, 0, 0), (50, 89, 1, 1), (50, 89, 1, 9), (50, 89, 1, 10), (50, 89, 1, 11)]
def zqw367 : zWr := [(1, 1, 1, 9), (4, 4, 1, 5), (4, 4, 1, 6), (13, 13, 0, 0), (14, 14, 0, 0), (19, 19, 0, 0), (20, 20, 0, 0), (21, 21, 0, 0), (22, 22, 0, 0), (50, 89, 1, 1), (50, 89, 1, 9), (50, 89, 1, 10), (50, 89, 1, 11)]
def zqw368 : zWr := [(110, 110, 0, 0), (111, 111, 0, 0)]
def zqw369 : zWr := [(2, 2, 1, 1), (2, 2, 1, 3), (10, 11, 1, 4), (31, 32, 0, 0), (33, 34, 0, 0)]
def zqw370 : zWr := [(2, 2, 1, 1), (2, 2, 1, 3)]
def zqw371 : zWr := [(2, 2, 1, 1)]
def zqw372 : zWr := [(26, 26, 0, 0), (35, 36, 0, 0)]
def zqw373 : zWr := [(7, 7, 1, 5), (7, 7, 1, 6)]
def zqw374 : zWr := [(8, 8, 1, 1), (39, 39, 0, 0)]
def zqw375 : zWr := [(90, 90, 1, 16), (90, 90, 1, 17), (90, 90, 1, 18), (90, 90, 1, 19), (90, 90, 1, 20), (100, 100, 0, 0), (110, 110, 0, 0), (111, 111, 0, 0)]
def zqw376 : zWr := [(90, 90, 1, 16), (90, 90, 1, 17), (90, 90, 1, 18), (90, 90, 1, 19), (90, 90, 1, 20), (100, 100, 0, 0)]
def zqw377 : zWr := [(90, 90, 1, 17), (90, 90, 1, 19), (90, 90, 1, 20)]
def zqw378 : zWr := [(90, 90, 1, 17), (90, 90, 1, 19)]
def zqw379 : zWr := [(90, 90, 1, 17)]
def zqw380 : zWr := [(90, 90, 1, 19)]
def zqw381 : zWr := [(90, 90, 1, 37), (113, 113, 0, 0)]
def zqw382 : zWr := [(90, 90, 1, 4), (90, 90, 1, 5), (91, 91, 0, 0), (92, 92, 0, 0), (93, 93, 0, 0), (94, 94, 0, 0)]
def zqw383 : zWr := [(90, 90, 1, 46), (120, 120, 0, 0)]
def zqw384 : zWr := []
/-- PushedIn$Yard.isBefore () -/
def zpC0 : zC := (125, (1, 40), ([(0, 1, 0, 0), (0, 2, 0, 0)], ([zqv170, zqv210, zqv154, zqv261, zqv208, zqv208], [(0, 1, (-1)), (4, 1, (-1)), (5, 1, (-1))], [zqa51, zqa37, zqa38, zqa0, zqa0], [], [], [])), [([], ([zqv170, zqv210, zqv154, zqv261, zqv208, zqv208], [], [], [zqa8], [], [])), ([], ([zqv170, zqv210, zqv154, zqv261, zqv208, zqv208], [], [], [zqa9], [], []))], zqw384)
def zpA0 : zAnn := []

/-- PushedIn$Yard.oneAhead () -/
def zpC1 : zC := (127, (2, 64), ([(0, 1, 0, 0)], ([zqv170, zqv210, zqv154, zqv261, zqv208], [(0, 1, (-1)), (4, 1, (-1))], [zqa51, zqa37, zqa0, zqa0, zqa0, zqa0], [], [], [])), [([(1, 0, 0, 0)], ([zqv170, zqv210, zqv154, zqv261, zqv208, zqv153], [], [], [zqa38], [], []))], zqw384)
def zpA1 : zAnn := [(12, ([(0, 2, 0, 0), (0, 4, 0, 0)], ([zqv170, zqv210, zqv154, zqv261, zqv208, zqv153, zqv210], [(5, 6, 0), (0, 1, (-1)), (4, 1, (-1))], [zqa51, zqa37, zqa38, (3, 4, 50, 0, 0), zqa39, zqa0], [], [], [])), [(2, 0, 0), (0, 5, 39), (2, 0, 0), (0, 6, 40)])]

/-- java/lang/Math.max () -/
def zpC2 : zC := (218, (1, 40), ([(0, 0, 0, 0), (0, 1, 0, 0)], ([zqv170, zqv210, zqv154, zqv261, zqv188, zqv166], [], [zqa37, zqa38], [], [], [])), [([], ([zqv170, zqv210, zqv154, zqv261, zqv188, zqv166], [(5, 4, 0)], [], [zqa37], [], [])), ([], ([zqv170, zqv210, zqv154, zqv261, zqv187, [(1, 2147483647)]], [(4, 5, (-1))], [], [zqa38], [], []))], zqw384)
def zpA2 : zAnn := []

/-- PushedIn$Yard.settleStarts () -/
def zpC3 : zC := (129, (2, 61), ([(0, 1, 0, 0)], ([zqv170, zqv210, zqv154, zqv261, zqv340], [(0, 1, (-1)), (4, 1, 49)], [zqa51, zqa61, zqa0, zqa0], [], [], [])), [([], ([zqv170, zqv210, zqv154, zqv261, zqv340], [], [], [], [], []))], [(50, 89, 1, 10), (50, 89, 1, 11)])
def zpA3 : zAnn := [(58, ([(0, 2, 0, 0), (0, 3, 0, 0)], ([zqv170, zqv210, zqv154, zqv261, zqv340, zqv188, zqv174], [(0, 1, (-1)), (4, 1, 49)], [zqa51, zqa61, zqa38, zqa39], [], [], [])), [(2, 0, 0), (0, 5, 2147483647), (2, 0, 0), (0, 6, 12)])]

/-- PushedIn$Yard.settle () -/
def zpC4 : zC := (128, (3, 89), ([], ([zqv170, zqv210, zqv154, zqv261], [], [zqa51, zqa0], [], [], [])), [([], ([zqv170, zqv210, zqv154, zqv261], [], [], [], [], []))], [(50, 89, 1, 9), (50, 89, 1, 10), (50, 89, 1, 11)])
def zpA4 : zAnn := [(2, ([(0, 1, 0, 0)], ([zqv170, zqv210, zqv154, zqv261, zqv210], [], [zqa51, zqa37], [], [], [])), [(2, 0, 0), (0, 4, 40), (2, 0, 0)])]

/-- PushedIn$Yard.addAway () -/
def zpC5 : zC := (119, (4, 110), ([(0, 1, 0, 0), (0, 2, 0, 0), (0, 3, 0, 0)], ([zqv170, zqv210, zqv154, zqv261, zqv198, zqv167, zqv237], [(5, 6, 0)], [zqa51, zqa37, zqa38, zqa39], [], [], [])), [([], ([zqv170, zqv210, zqv154, zqv261, zqv198, zqv167, zqv237], [], [], [], [], []))], [(1, 1, 1, 7), (15, 15, 0, 0), (16, 16, 0, 0), (17, 17, 0, 0), (50, 89, 1, 9), (50, 89, 1, 10), (50, 89, 1, 11)])
def zpA5 : zAnn := []

/-- PushedIn.within ((1, 4),) -/
def zpC6 : zC := (39, (1, 40), ([(0, 0, 0, 0)], ([zqv170, zqv210, zqv154, zqv261, zqv166], [], [zqa37, zqa19], [], [], [])), [([], ([zqv170, zqv210, zqv154, zqv261, zqv158], [], [], [zqa8], [], [])), ([], ([zqv170, zqv210, zqv154, zqv261, zqv198], [], [], [zqa9], [], []))], zqw384)
def zpA6 : zAnn := []

/-- PushedIn.within ((1, 720),) -/
def zpC7 : zC := (39, (1, 40), ([(0, 0, 0, 0)], ([zqv170, zqv210, zqv154, zqv261, zqv166], [], [zqa37, (1, 0, 720, 0, 0)], [], [], [])), [([], ([zqv170, zqv210, zqv154, zqv261, zqv161], [], [], [zqa8], [], [])), ([], ([zqv170, zqv210, zqv154, zqv261, zqv237], [], [], [zqa9], [], []))], zqw384)
def zpA7 : zAnn := []

/-- PushedIn.away () -/
def zpC8 : zC := (2, (5, 133), ([(0, 1, 0, 0), (0, 2, 0, 0)], ([zqv170, zqv210, zqv154, zqv261, zqv166, zqv166], [], [zqa50, zqa37, zqa38, zqa0, zqa0], [], [], [])), [([(1, 0, 0, 0)], ([zqv170, zqv210, zqv154, zqv261, zqv198, zqv188, zqv174], [], [], [zqa39], [], [])), ([], ([zqv170, zqv210, zqv154, zqv261, zqv166, zqv166], [], [], [zqa1], [], [])), ([], ([zqv170, zqv210, zqv154, zqv261, zqv198, zqv188], [], [], [zqa6], [], []))], [(1, 1, 1, 7), (15, 15, 0, 0), (16, 16, 0, 0), (17, 17, 0, 0), (50, 89, 1, 9), (50, 89, 1, 10), (50, 89, 1, 11)])
def zpA8 : zAnn := []

/-- PushedIn$Changes.dropOldest () -/
def zpC9 : zC := (49, (1, 1000), ([], ([zqv170, zqv210, zqv154, zqv261], [], [zqa54], [], [(0, 4, 5, (1, 0, 40, 0, 0))], [])), [([], ([zqv170, zqv210, zqv154, zqv261], [], [], [], [(0, 4, 5, (1, 0, 39, 0, 0))], []))], [(4, 4, 1, 5), (19, 19, 0, 0), (20, 20, 0, 0), (21, 21, 0, 0), (22, 22, 0, 0)])
def zpA9 : zAnn := []

/-- PushedIn.within () -/
def zpC10 : zC := (39, (1, 40), ([(0, 0, 0, 0), (0, 1, 0, 0)], ([zqv170, zqv210, zqv154, zqv261, zqv166, zqv166], [], [zqa37, zqa38], [], [], [])), [([], ([zqv170, zqv210, zqv154, zqv261, zqv166, zqv166], [], [], [zqa8], [], [])), ([], ([zqv170, zqv210, zqv154, zqv261, zqv187, [(1, 2147483647)]], [(4, 5, (-1))], [], [zqa9], [], []))], zqw384)
def zpA10 : zAnn := []

/-- PushedIn$Yard.has () -/
def zpC11 : zC := (122, (2, 61), ([(0, 1, 0, 0)], ([zqv170, zqv210, zqv154, zqv261, zqv166], [], [zqa51, zqa37], [], [], [])), [([], ([zqv170, zqv210, zqv154, zqv261, zqv166], [], [], [zqa8], [], [])), ([], ([zqv170, zqv251, zqv154, zqv261, zqv208], [(4, 1, (-1))], [], [zqa9], [], []))], zqw384)
def zpA11 : zAnn := []

/-- PushedIn.within ((1, 6),) -/
def zpC12 : zC := (39, (1, 40), ([(0, 0, 0, 0)], ([zqv170, zqv210, zqv154, zqv261, zqv166], [], [zqa37, zqa25], [], [], [])), [([], ([zqv170, zqv210, zqv154, zqv261, zqv159], [], [], [zqa8], [], [])), ([], ([zqv170, zqv210, zqv154, zqv261, zqv221], [], [], [zqa9], [], []))], zqw384)
def zpA12 : zAnn := []

/-- PushedIn$Yard.become () -/
def zpC13 : zC := (121, (4, 110), ([(0, 1, 0, 0), (0, 2, 0, 0), (0, 3, 0, 0)], ([zqv170, zqv210, zqv154, zqv261, zqv166, zqv166, zqv166], [], [zqa51, zqa37, zqa38, zqa39], [], [], [])), [([], ([zqv170, zqv210, zqv154, zqv261, zqv166, zqv166, zqv166], [], [], [], [], []))], [(1, 1, 1, 9), (13, 13, 0, 0), (14, 14, 0, 0), (50, 89, 1, 1), (50, 89, 1, 9), (50, 89, 1, 10), (50, 89, 1, 11)])
def zpA13 : zAnn := []

/-- PushedIn$Yard.numberOf () -/
def zpC14 : zC := (126, (3, 82), ([(0, 1, 0, 0), (0, 2, 0, 0)], ([zqv170, zqv210, zqv154, zqv261, zqv198, zqv208], [], [zqa51, zqa37, zqa38], [], [], [])), [([(1, 0, 0, 0)], ([zqv170, zqv210, zqv154, zqv261, zqv198, zqv208, zqv166], [], [], [zqa39], [], [])), ([], ([zqv170, zqv210, zqv154, zqv261, zqv182, zqv208], [], [], [zqa8], [], []))], zqw384)
def zpA14 : zAnn := []

/-- PushedIn$Changes.make () -/
def zpC15 : zC := (50, (5, 1020), ([(0, 1, 0, 0), (0, 2, 0, 0), (0, 3, 0, 0)], ([zqv170, zqv210, zqv154, zqv261, zqv198, zqv208, zqv187], [], [zqa54, zqa37, zqa38, zqa39, zqa0], [], [], [])), [([(1, 0, 0, 0)], ([zqv170, zqv210, zqv154, zqv261, zqv198, zqv208, zqv187, zqv166], [], [], [zqa40], [], [])), ([], ([zqv170, zqv210, zqv154, zqv261, zqv182, zqv208, zqv187], [], [], [zqa8], [], []))], zqw367)
def zpA15 : zAnn := []

/-- PushedIn.within ((1, 2),) -/
def zpC16 : zC := (39, (1, 40), ([(0, 0, 0, 0)], ([zqv170, zqv210, zqv154, zqv261, zqv166], [], [zqa37, zqa13], [], [], [])), [([], ([zqv170, zqv210, zqv154, zqv261, zqv157], [], [], [zqa8], [], [])), ([], ([zqv170, zqv210, zqv154, zqv261, zqv171], [], [], [zqa9], [], []))], zqw384)
def zpA16 : zAnn := []

/-- PushedIn.matter () -/
def zpC17 : zC := (21, (6, 1044), ([(0, 1, 0, 0), (0, 2, 0, 0), (0, 3, 0, 0)], ([zqv170, zqv210, zqv154, zqv261, zqv166, zqv166, zqv166], [], [zqa50, zqa37, zqa38, zqa39], [], [], [])), [([(1, 0, 0, 0)], ([zqv170, zqv210, zqv154, zqv261, zqv221, zqv171, zqv259, zqv166], [], [], [zqa40], [], [])), ([], ([zqv170, zqv210, zqv154, zqv261, zqv166, zqv166, zqv166], [], [], [zqa1], [], [])), ([], ([zqv170, zqv210, zqv154, zqv261, zqv221, zqv171, zqv259], [], [], [zqa8], [], []))], zqw367)
def zpA17 : zAnn := []

/-- PushedIn.within ((1, 31),) -/
def zpC18 : zC := (39, (1, 40), ([(0, 0, 0, 0)], ([zqv170, zqv210, zqv154, zqv261, zqv166], [], [zqa37, (1, 0, 31, 0, 0)], [], [], [])), [([], ([zqv170, zqv210, zqv154, zqv261, [((-2147483648), (-1)), (31, 2147483647)]], [], [], [zqa8], [], [])), ([], ([zqv170, zqv210, zqv154, zqv261, zqv199], [], [], [zqa9], [], []))], zqw384)
def zpA18 : zAnn := []

/-- PushedIn.yard () -/
def zpC19 : zC := (40, (6, 1044), ([(0, 1, 0, 0), (0, 2, 0, 0)], ([zqv170, zqv210, zqv154, zqv261, zqv166, zqv166], [], [zqa50, zqa37, zqa38, zqa0], [], [], [])), [([(1, 0, 0, 0)], ([zqv170, zqv210, zqv154, zqv261, zqv171, zqv199, zqv166], [], [], [zqa39], [], [])), ([], ([zqv170, zqv210, zqv154, zqv261, zqv166, zqv166], [], [], [zqa1], [], [])), ([], ([zqv170, zqv210, zqv154, zqv261, zqv276, zqv171], [], [], [zqa8], [], [])), ([], ([zqv170, zqv210, zqv154, zqv261, zqv276, zqv171], [], [], [zqa9], [], []))], [(1, 1, 1, 8), (1, 1, 1, 9), (1, 1, 1, 10), (4, 4, 1, 5), (4, 4, 1, 6), (13, 13, 0, 0), (14, 14, 0, 0), (19, 19, 0, 0), (20, 20, 0, 0), (21, 21, 0, 0), (22, 22, 0, 0), (50, 89, 1, 1), (50, 89, 1, 9), (50, 89, 1, 10), (50, 89, 1, 11)])
def zpA19 : zAnn := []

/-- PushedIn$Tape.add () -/
def zpC20 : zC := (102, (1, 40), ([(0, 1, 0, 0), (0, 2, 0, 0)], ([zqv170, zqv210, zqv154, zqv261, zqv250, zqv166], [], [zqa52, zqa37, zqa38, zqa0], [], [], [])), [([], ([zqv170, zqv210, zqv154, zqv261, zqv250, zqv166], [], [], [], [], []))], [(2, 2, 1, 2), (18, 18, 0, 0)])
def zpA20 : zAnn := [(2, ([(0, 3, 0, 0)], ([zqv170, zqv210, zqv154, zqv261, zqv250, zqv166, zqv209], [], [zqa52, zqa37, zqa38, zqa39], [], [], [])), [(2, 0, 0), (0, 6, 4), (2, 0, 0)])]

/-- PushedIn.feed () -/
def zpC21 : zC := (11, (2, 63), ([(0, 1, 0, 0), (0, 2, 0, 0)], ([zqv170, zqv210, zqv154, zqv261, zqv166, zqv166], [], [zqa50, zqa37, zqa38], [], [], [])), [([(1, 0, 0, 0)], ([zqv170, zqv210, zqv154, zqv261, zqv250, zqv166, zqv233], [], [], [zqa39], [], [])), ([], ([zqv170, zqv210, zqv154, zqv261, zqv164, zqv166], [], [], [zqa1], [], [])), ([], ([zqv170, zqv210, zqv154, zqv261, zqv250, zqv166], [], [], [zqa6], [], []))], [(2, 2, 1, 2), (18, 18, 0, 0)])
def zpA21 : zAnn := []

/-- PushedIn$Tape.sign (((2, 3), -1),) -/
def zpC22 : zC := (106, (1, 40), ([(2, 0, 2, 1)], ([zqv170, zqv210, zqv154, zqv261, zqv233], [], [zqa52], [], [zqf64, zqf69], [])), [([(1, 0, 0, 0)], ([zqv170, zqv210, zqv154, zqv261, zqv231, zqv193], [], [], [zqa38], [zqf64, zqf69], [])), ([], ([zqv170, zqv210, zqv154, zqv261, zqv233], [], [], [zqa1], [zqf64, zqf69], []))], zqw384)
def zpA22 : zAnn := []

/-- PushedIn$Tape.accept (((2, 3), -1),) -/
def zpC23 : zC := (101, (2, 60), ([(0, 1, 0, 0), (2, 0, 2, 1)], ([zqv170, zqv210, zqv154, zqv261, zqv217, zqv233], [], [zqa52, zqa37], [], [zqf65, zqf69], [])), [([], ([zqv170, zqv210, zqv154, zqv261, zqv217, zqv233], [], [], [zqa8], [zqf65, zqf69], [])), ([], ([zqv170, zqv210, zqv154, zqv261, zqv217, zqv231], [], [], [zqa9], [zqf66, zqf69], []))], zqw371)
def zpA23 : zAnn := []

/-- PushedIn$Tape.stop (((2, 3), -1),) -/
def zpC24 : zC := (107, (1, 40), ([(2, 0, 2, 1)], ([zqv170, zqv210, zqv154, zqv261, zqv233], [], [zqa52], [], [zqf64, zqf69], [])), [([], ([zqv170, zqv210, zqv154, zqv261, zqv233], [], [], [], [zqf64, zqf71], []))], [(2, 2, 1, 3)])
def zpA24 : zAnn := []

/-- PushedIn$ComerReader.expect (((2, 3), -1),) -/
def zpC25 : zC := (55, (3, 81), ([(0, 1, 0, 0), (2, 0, 2, 1)], ([zqv170, zqv210, zqv154, zqv261, zqv324, zqv233], [], [zqa53, zqa37], [], [zqf65, zqf69], [])), [([], ([zqv170, zqv210, zqv154, zqv261, zqv324, zqv233], [], [], [], [zqf65, zqf72], [])), ([], ([zqv170, zqv210, zqv154, zqv261, zqv324, zqv231], [], [], [], [zqf66, zqf69], []))], zqw370)
def zpA25 : zAnn := []

/-- PushedIn$Tape.sign (((2, 3), 0),) -/
def zpC26 : zC := (106, (1, 40), ([(2, 0, 2, 1)], ([zqv170, zqv210, zqv154, zqv261, zqv233], [], [zqa52], [], [zqf64, zqf70], [])), [([], ([zqv170, zqv210, zqv154, zqv261, zqv233], [], [], [zqa1], [zqf64, zqf70], []))], zqw384)
def zpA26 : zAnn := []

/-- PushedIn$Tape.accept (((2, 3), 0),) -/
def zpC27 : zC := (101, (2, 60), ([(0, 1, 0, 0), (2, 0, 2, 1)], ([zqv170, zqv210, zqv154, zqv261, [(35, 45), (64, 64), (108, 115)], zqv233], [], [zqa52, zqa37], [], [zqf65, zqf70], [])), [([], ([zqv170, zqv210, zqv154, zqv261, [(35, 45), (64, 64), (108, 115)], zqv233], [], [], [zqa8], [zqf65, zqf70], []))], zqw384)
def zpA27 : zAnn := []

/-- PushedIn$Tape.stop (((2, 3), 0),) -/
def zpC28 : zC := (107, (1, 40), ([(2, 0, 2, 1)], ([zqv170, zqv210, zqv154, zqv261, zqv233], [], [zqa52], [], [zqf64, zqf70], [])), [([], ([zqv170, zqv210, zqv154, zqv261, zqv233], [], [], [], [zqf64, zqf70], []))], zqw384)
def zpA28 : zAnn := []

/-- PushedIn$ComerReader.expect (((2, 3), 0),) -/
def zpC29 : zC := (55, (3, 81), ([(0, 1, 0, 0), (2, 0, 2, 1)], ([zqv170, zqv210, zqv154, zqv261, zqv324, zqv233], [], [zqa53, zqa37], [], [zqf65, zqf70], [])), [([], ([zqv170, zqv210, zqv154, zqv261, zqv324, zqv233], [], [], [], [zqf65, zqf70], []))], zqw384)
def zpA29 : zAnn := []

/-- PushedIn$Tape.sign () -/
def zpC30 : zC := (106, (1, 40), ([(2, 0, 2, 1), (2, 0, 2, 3)], ([zqv170, zqv210, zqv154, zqv261, zqv233, zqv154], [], [zqa52], [], [zqf64, zqf72], [])), [([(1, 0, 0, 0)], ([zqv170, zqv210, zqv154, zqv261, zqv231, zqv148, zqv193], [], [], [zqa39], [zqf64, zqf72], [])), ([], ([zqv170, zqv210, zqv154, zqv261, zqv233, zqv233], [], [], [zqa1], [zqf64, zqf72], [])), ([], ([zqv170, zqv210, zqv154, zqv261, zqv233, zqv148], [], [], [zqa1], [zqf64, zqf72], []))], zqw384)
def zpA30 : zAnn := []

/-- PushedIn$Tape.accept () -/
def zpC31 : zC := (101, (2, 60), ([(0, 1, 0, 0), (2, 0, 2, 1), (2, 0, 2, 3)], ([zqv170, zqv210, zqv154, zqv261, zqv302, zqv233, zqv154], [], [zqa52, zqa37], [], [zqf65, zqf73], [])), [([], ([zqv170, zqv210, zqv154, zqv261, zqv302, zqv233, zqv233], [], [], [zqa8], [zqf65, zqf73], [])), ([], ([zqv170, zqv210, zqv154, zqv261, zqv302, zqv233, zqv148], [], [], [zqa8], [zqf65, zqf73], [])), ([], ([zqv170, zqv210, zqv154, zqv261, zqv302, zqv231, zqv148], [], [], [zqa9], [zqf66, zqf73], []))], zqw371)
def zpA31 : zAnn := []

/-- PushedIn$Tape.stop () -/
def zpC32 : zC := (107, (1, 40), ([(2, 0, 2, 1), (2, 0, 2, 3)], ([zqv170, zqv210, zqv154, zqv261, zqv233, zqv233], [], [zqa52], [], [zqf64, zqf72], [])), [([], ([zqv170, zqv210, zqv154, zqv261, zqv233, zqv233], [], [], [], [zqf64, zqf72], []))], zqw384)
def zpA32 : zAnn := []

/-- PushedIn$ComerReader.expect () -/
def zpC33 : zC := (55, (3, 81), ([(0, 1, 0, 0), (2, 0, 2, 1), (2, 0, 2, 3)], ([zqv170, zqv210, zqv154, zqv261, [(64, 64), (109, 109), (115, 115)], zqv233, zqv233], [], [zqa53, zqa37], [], [zqf65, zqf73], [])), [([], ([zqv170, zqv210, zqv154, zqv261, [(64, 64), (109, 109), (115, 115)], zqv233, zqv233], [], [], [], [zqf65, zqf73], []))], zqw371)
def zpA33 : zAnn := []

/-- PushedIn.isDigit () -/
def zpC34 : zC := (15, (1, 40), ([(0, 0, 0, 0)], ([zqv170, zqv210, zqv154, zqv261, zqv152], [], [zqa37], [], [], [])), [([], ([zqv170, zqv210, zqv154, zqv261, [((-1), 47), (58, 255)]], [], [], [zqa8], [], [])), ([], ([zqv170, zqv210, zqv154, zqv261, [(48, 57)]], [], [], [zqa9], [], []))], zqw384)
def zpA34 : zAnn := []

/-- PushedIn$Tape.readNumber ((1, 1), (2, 0), (3, 3)) -/
def zpC35 : zC := (104, (2, 60), ([(2, 0, 2, 1), (2, 0, 2, 3)], ([zqv170, zqv210, zqv154, zqv261, zqv233, zqv233], [], [zqa52, zqa9, zqa8, zqa15, zqa0, zqa0, zqa0], [], [zqf64, zqf72], [])), [([], ([zqv170, zqv210, zqv154, zqv261, zqv233, zqv233], [], [], [zqa8], [zqf64, zqf72], []))], zqw371)
def zpA35 : zAnn := [(12, ([], ([zqv170, zqv210, zqv154, zqv261, zqv233, zqv233], [], [zqa52, zqa9, zqa8, zqa15, zqa37, zqa8, zqa8], [], [zqf64, zqf72], [])), [(2, 0, 0)])]

/-- PushedIn$Tape.readNumber ((1, 1), (2, 0), (3, 3), ((2, 3), -1)) -/
def zpC36 : zC := (104, (2, 60), ([(2, 0, 2, 1)], ([zqv170, zqv210, zqv154, zqv261, zqv233], [], [zqa52, zqa9, zqa8, zqa15, zqa0, zqa0, zqa0], [], [zqf64, zqf69], [])), [([(1, 0, 0, 0)], ([zqv170, zqv210, zqv154, zqv261, zqv233, zqv166], [], [], [zqa38], [zqf64, zqf71], [])), ([(1, 0, 0, 0), (2, 0, 2, 1)], ([zqv170, zqv210, zqv154, zqv261, zqv231, zqv198, zqv255], [(4, 6, (-1))], [], [zqa38], [zqf67, zqf69], []))], zqw370)
def zpA36 : zAnn := [(12, ([(0, 5, 0, 0), (0, 6, 0, 0), (2, 0, 2, 1)], ([zqv170, zqv210, zqv154, zqv261, zqv233, zqv166, zqv171, zqv233], [(6, 7, 0), (4, 7, 0)], [zqa52, zqa9, zqa8, zqa15, zqa37, zqa38, zqa39], [], [zqf68, zqf69], [])), [(2, 0, 0), (0, 6, 1), (2, 0, 0)])]

/-- PushedIn$Tape.readNumber ((1, 1), (2, 0), (3, 3), ((2, 3), 0)) -/
def zpC37 : zC := (104, (2, 60), ([(2, 0, 2, 1)], ([zqv170, zqv210, zqv154, zqv261, zqv233], [], [zqa52, zqa9, zqa8, zqa15, zqa0, zqa0, zqa0], [], [zqf64, zqf70], [])), [([], ([zqv170, zqv210, zqv154, zqv261, zqv233], [], [], [zqa8], [zqf64, zqf70], []))], zqw371)
def zpA37 : zAnn := [(12, ([], ([zqv170, zqv210, zqv154, zqv261, zqv233], [], [zqa52, zqa9, zqa8, zqa15, zqa37, zqa8, zqa8], [], [zqf64, zqf70], [])), [(2, 0, 0)])]

/-- PushedIn$Tape.readNumber ((1, 1), (2, 0), (3, 5)) -/
def zpC38 : zC := (104, (2, 60), ([(2, 0, 2, 1), (2, 0, 2, 3)], ([zqv170, zqv210, zqv154, zqv261, zqv233, zqv233], [], [zqa52, zqa9, zqa8, zqa22, zqa0, zqa0, zqa0], [], [zqf64, zqf72], [])), [([], ([zqv170, zqv210, zqv154, zqv261, zqv233, zqv233], [], [], [zqa8], [zqf64, zqf72], []))], zqw371)
def zpA38 : zAnn := [(12, ([], ([zqv170, zqv210, zqv154, zqv261, zqv233, zqv233], [], [zqa52, zqa9, zqa8, zqa22, zqa37, zqa8, zqa8], [], [zqf64, zqf72], [])), [(2, 0, 0)])]

/-- PushedIn$Tape.readNumber ((1, 1), (2, 0), (3, 5), ((2, 3), -1)) -/
def zpC39 : zC := (104, (2, 60), ([(2, 0, 2, 1)], ([zqv170, zqv210, zqv154, zqv261, zqv233], [], [zqa52, zqa9, zqa8, zqa22, zqa0, zqa0, zqa0], [], [zqf64, zqf69], [])), [([(1, 0, 0, 0)], ([zqv170, zqv210, zqv154, zqv261, zqv233, zqv166], [], [], [zqa38], [zqf64, zqf71], [])), ([(1, 0, 0, 0), (2, 0, 2, 1)], ([zqv170, zqv210, zqv154, zqv261, zqv231, zqv221, zqv255], [(4, 6, (-1))], [], [zqa38], [zqf67, zqf69], []))], zqw370)
def zpA39 : zAnn := [(12, ([(0, 5, 0, 0), (0, 6, 0, 0), (2, 0, 2, 1)], ([zqv170, zqv210, zqv154, zqv261, zqv233, zqv166, zqv171, zqv233], [(6, 7, 0), (4, 7, 0)], [zqa52, zqa9, zqa8, zqa22, zqa37, zqa38, zqa39], [], [zqf68, zqf69], [])), [(2, 0, 0), (0, 6, 1), (2, 0, 0)])]

/-- PushedIn$Tape.readNumber ((1, 1), (2, 0), (3, 5), ((2, 3), 0)) -/
def zpC40 : zC := (104, (2, 60), ([(2, 0, 2, 1)], ([zqv170, zqv210, zqv154, zqv261, zqv233], [], [zqa52, zqa9, zqa8, zqa22, zqa0, zqa0, zqa0], [], [zqf64, zqf70], [])), [([], ([zqv170, zqv210, zqv154, zqv261, zqv233], [], [], [zqa8], [zqf64, zqf70], []))], zqw371)
def zpA40 : zAnn := [(12, ([], ([zqv170, zqv210, zqv154, zqv261, zqv233], [], [zqa52, zqa9, zqa8, zqa22, zqa37, zqa8, zqa8], [], [zqf64, zqf70], [])), [(2, 0, 0)])]

/-- PushedIn$Tape.readNumber ((1, 1), (2, 0), (3, 7)) -/
def zpC41 : zC := (104, (2, 60), ([(2, 0, 2, 1), (2, 0, 2, 3)], ([zqv170, zqv210, zqv154, zqv261, zqv233, zqv233], [], [zqa52, zqa9, zqa8, zqa26, zqa0, zqa0, zqa0], [], [zqf64, zqf72], [])), [([], ([zqv170, zqv210, zqv154, zqv261, zqv233, zqv233], [], [], [zqa8], [zqf64, zqf72], []))], zqw371)
def zpA41 : zAnn := [(12, ([], ([zqv170, zqv210, zqv154, zqv261, zqv233, zqv233], [], [zqa52, zqa9, zqa8, zqa26, zqa37, zqa8, zqa8], [], [zqf64, zqf72], [])), [(2, 0, 0)])]

/-- PushedIn$Tape.readNumber ((1, 1), (2, 0), (3, 7), ((2, 3), -1)) -/
def zpC42 : zC := (104, (2, 60), ([(2, 0, 2, 1)], ([zqv170, zqv210, zqv154, zqv261, zqv233], [], [zqa52, zqa9, zqa8, zqa26, zqa0, zqa0, zqa0], [], [zqf64, zqf69], [])), [([(1, 0, 0, 0)], ([zqv170, zqv210, zqv154, zqv261, zqv233, zqv166], [], [], [zqa38], [zqf64, zqf71], [])), ([(1, 0, 0, 0), (2, 0, 2, 1)], ([zqv170, zqv210, zqv154, zqv261, zqv231, zqv235, zqv255], [(4, 6, (-1))], [], [zqa38], [zqf67, zqf69], []))], zqw370)
def zpA42 : zAnn := [(12, ([(0, 5, 0, 0), (0, 6, 0, 0), (2, 0, 2, 1)], ([zqv170, zqv210, zqv154, zqv261, zqv233, zqv166, zqv171, zqv233], [(6, 7, 0), (4, 7, 0)], [zqa52, zqa9, zqa8, zqa26, zqa37, zqa38, zqa39], [], [zqf68, zqf69], [])), [(2, 0, 0), (0, 6, 1), (2, 0, 0)])]

/-- PushedIn$Tape.readNumber ((1, 1), (2, 0), (3, 7), ((2, 3), 0)) -/
def zpC43 : zC := (104, (2, 60), ([(2, 0, 2, 1)], ([zqv170, zqv210, zqv154, zqv261, zqv233], [], [zqa52, zqa9, zqa8, zqa26, zqa0, zqa0, zqa0], [], [zqf64, zqf70], [])), [([], ([zqv170, zqv210, zqv154, zqv261, zqv233], [], [], [zqa8], [zqf64, zqf70], []))], zqw371)
def zpA43 : zAnn := [(12, ([], ([zqv170, zqv210, zqv154, zqv261, zqv233], [], [zqa52, zqa9, zqa8, zqa26, zqa37, zqa8, zqa8], [], [zqf64, zqf70], [])), [(2, 0, 0)])]

/-- PushedIn$Tape.readNumber ((1, 2), (2, 0), (3, 99), ((2, 3), -1)) -/
def zpC44 : zC := (104, (2, 60), ([(2, 0, 2, 1)], ([zqv170, zqv210, zqv154, zqv261, zqv255], [], [zqa52, zqa13, zqa8, zqa33, zqa0, zqa0, zqa0], [], [zqf64, zqf69], [])), [([(1, 0, 0, 0)], ([zqv170, zqv210, zqv154, zqv261, zqv255, zqv166], [], [], [zqa38], [zqf64, zqf71], [])), ([(1, 0, 0, 0), (2, 0, 2, 1)], ([zqv170, zqv210, zqv154, zqv261, zqv253, zqv241, zqv281], [(4, 6, (-1))], [], [zqa38], [zqf67, zqf69], []))], zqw370)
def zpA44 : zAnn := [(12, ([(0, 5, 0, 0), (0, 6, 0, 0), (2, 0, 2, 1)], ([zqv170, zqv210, zqv154, zqv261, zqv255, zqv166, zqv182, zqv255], [(6, 7, 0), (4, 7, 0)], [zqa52, zqa13, zqa8, zqa33, zqa37, zqa38, zqa39], [], [zqf68, zqf69], [])), [(2, 0, 0), (0, 6, 2), (2, 0, 0)])]

/-- PushedIn$Tape.readNumber ((1, 3), (2, 0), (3, 718), ((2, 3), -1)) -/
def zpC45 : zC := (104, (2, 60), ([], ([zqv170, zqv210, zqv154, zqv261], [], [zqa52, zqa15, zqa8, zqa28, zqa0, zqa0, zqa0], [], [zqf63, zqf69], [])), [([(1, 0, 0, 0), (2, 0, 2, 1)], ([zqv170, zqv210, zqv154, zqv261, zqv236, zqv249], [], [], [zqa37], [zqf65, zqf69], [])), ([(1, 0, 0, 0)], ([zqv170, zqv210, zqv154, zqv261, zqv166], [], [], [zqa37], [zqf63, zqf70], []))], zqw370)
def zpA45 : zAnn := [(12, ([(0, 5, 0, 0), (0, 6, 0, 0), (2, 0, 2, 1)], ([zqv170, zqv210, zqv154, zqv261, zqv166, zqv198, zqv198], [(5, 6, 0), (6, 5, 0)], [zqa52, zqa15, zqa8, zqa28, zqa8, zqa37, zqa38], [], [zqf67, zqf69], [])), [(2, 0, 0), (0, 5, 3), (2, 0, 0)])]

/-- PushedIn$Tape.readNumber ((1, 3), (3, 719)) -/
def zpC46 : zC := (104, (2, 60), ([(0, 2, 0, 0), (2, 0, 2, 1), (2, 0, 2, 3)], ([zqv170, zqv210, zqv154, zqv261, zqv166, zqv233, zqv233], [], [zqa52, zqa15, zqa37, zqa29, zqa0, zqa0, zqa0], [], [zqf65, zqf73], [])), [([], ([zqv170, zqv210, zqv154, zqv261, zqv166, zqv233, zqv233], [], [], [zqa8], [zqf65, zqf73], []))], zqw371)
def zpA46 : zAnn := [(12, ([], ([zqv170, zqv210, zqv154, zqv261, zqv166, zqv233, zqv233], [], [zqa52, zqa15, zqa37, zqa29, zqa38, zqa8, zqa8], [], [zqf65, zqf73], [])), [(2, 0, 0)])]

/-- PushedIn$Tape.readNumber ((1, 3), (3, 719), ((2, 3), -1)) -/
def zpC47 : zC := (104, (2, 60), ([(0, 2, 0, 0), (2, 0, 2, 1)], ([zqv170, zqv210, zqv154, zqv261, zqv166, zqv233], [], [zqa52, zqa15, zqa37, zqa29, zqa0, zqa0, zqa0], [], [zqf65, zqf69], [])), [([(1, 0, 0, 0)], ([zqv170, zqv210, zqv154, zqv261, zqv166, zqv233, zqv166], [], [], [zqa39], [zqf65, zqf72], [])), ([(1, 0, 0, 0), (2, 0, 2, 1)], ([zqv170, zqv210, zqv154, zqv261, zqv166, zqv231, zqv167, zqv255], [(4, 6, 0), (5, 7, (-1))], [], [zqa39], [zqf68, zqf69], []))], zqw370)
def zpA47 : zAnn := [(12, ([(0, 5, 0, 0), (0, 6, 0, 0), (2, 0, 2, 1)], ([zqv170, zqv210, zqv154, zqv261, zqv166, zqv233, zqv166, zqv198, zqv233], [(7, 8, 0), (5, 8, 0)], [zqa52, zqa15, zqa37, zqa29, zqa38, zqa39, zqa40], [], [(0, 2, 1, (1, 8, 0, 0, 0)), zqf69], [])), [(2, 0, 0), (0, 7, 3), (2, 0, 0)])]

/-- PushedIn$Tape.readNumber ((1, 3), (3, 719), ((2, 3), 0)) -/
def zpC48 : zC := (104, (2, 60), ([(0, 2, 0, 0), (2, 0, 2, 1)], ([zqv170, zqv210, zqv154, zqv261, zqv166, zqv233], [], [zqa52, zqa15, zqa37, zqa29, zqa0, zqa0, zqa0], [], [zqf65, zqf70], [])), [([], ([zqv170, zqv210, zqv154, zqv261, zqv166, zqv233], [], [], [zqa8], [zqf65, zqf70], []))], zqw371)
def zpA48 : zAnn := [(12, ([], ([zqv170, zqv210, zqv154, zqv261, zqv166, zqv233], [], [zqa52, zqa15, zqa37, zqa29, zqa38, zqa8, zqa8], [], [zqf65, zqf70], [])), [(2, 0, 0)])]

/-- PushedIn$Tape.rewind () -/
def zpC49 : zC := (105, (1, 40), ([(2, 0, 2, 1), (2, 0, 2, 3)], ([zqv170, zqv210, zqv154, zqv261, zqv233, zqv154], [], [zqa52], [], [zqf64, zqf72], [])), [([], ([zqv170, zqv210, zqv154, zqv261, zqv233, zqv154], [], [], [], [zqf63, zqf69], []))], zqw370)
def zpA49 : zAnn := []

/-- PushedIn$ComerReader.readInto () -/
def zpC50 : zC := (56, (4, 102), ([(0, 1, 0, 0), (2, 0, 2, 3), (2, 4, 0, 4)], ([zqv170, zqv210, zqv154, zqv261, zqv340, zqv154, zqv166], [(1, 4, (-50))], [zqa53, zqa61], [], [zqf72, zqf145], [])), [([(1, 0, 0, 0), (2, 0, 2, 3), (2, 4, 0, 4)], ([zqv170, zqv210, zqv154, zqv261, zqv340, zqv154, zqv166, zqv233, zqv233, zqv166], [(7, 8, 0), (8, 7, 0)], [], [zqa40], [(0, 2, 3, (1, 8, 0, 0, 0)), (4, 0, 4, (1, 9, 0, 0, 0))], [])), ([(2, 4, 0, 4)], ([zqv170, zqv210, zqv154, zqv261, zqv340, zqv154, zqv166, zqv221], [], [], [zqa1], [zqf69, zqf146], [])), ([], ([zqv170, zqv210, zqv154, zqv261, zqv340, zqv154, zqv166], [], [], [zqa8], [zqf70, zqf144], []))], [(2, 2, 1, 1), (2, 2, 1, 3), (50, 89, 1, 1), (50, 89, 1, 2), (50, 89, 1, 3), (50, 89, 1, 4), (50, 89, 1, 5), (50, 89, 1, 6), (50, 89, 1, 7)])
def zpA50 : zAnn := [(111, ([(2, 0, 2, 3), (2, 4, 0, 4)], ([zqv170, zqv210, zqv154, zqv261, zqv340, zqv154, zqv166, zqv233, zqv166], [(1, 4, (-50))], [zqa53, zqa61], [], [zqf74, zqf147], [])), [(2, 0, 3)]), (111, ([(2, 4, 0, 4)], ([zqv170, zqv210, zqv154, zqv261, zqv340, zqv154, zqv166, zqv221], [(1, 4, (-50))], [zqa53, zqa61], [], [zqf69, zqf146], [])), [(2, 0, 7)]), (111, ([], ([zqv170, zqv210, zqv154, zqv261, zqv340, zqv154, zqv166], [(1, 4, (-50))], [zqa53, zqa61], [], [zqf70, zqf144], [])), [(2, 0, 11)]), (142, ([(2, 0, 2, 3), (2, 4, 0, 4)], ([zqv170, zqv210, zqv154, zqv261, zqv340, zqv154, zqv166, zqv233, zqv166], [(1, 4, (-50))], [zqa53, zqa61], [], [zqf74, zqf147], [])), [(2, 0, 2)]), (142, ([(2, 4, 0, 4)], ([zqv170, zqv210, zqv154, zqv261, zqv340, zqv154, zqv166, zqv221], [(1, 4, (-50))], [zqa53, zqa61], [], [zqf69, zqf146], [])), [(2, 0, 6)]), (142, ([], ([zqv170, zqv210, zqv154, zqv261, zqv340, zqv154, zqv166], [(1, 4, (-50))], [zqa53, zqa61], [], [zqf70, zqf144], [])), [(2, 0, 10)]), (175, ([(2, 0, 2, 3), (2, 4, 0, 4)], ([zqv170, zqv210, zqv154, zqv261, zqv340, zqv154, zqv166, zqv233, zqv166], [(1, 4, (-50))], [zqa53, zqa61], [], [zqf74, zqf147], [])), [(2, 0, 1)]), (175, ([(2, 4, 0, 4)], ([zqv170, zqv210, zqv154, zqv261, zqv340, zqv154, zqv166, zqv221], [(1, 4, (-50))], [zqa53, zqa61], [], [zqf69, zqf146], [])), [(2, 0, 5)]), (175, ([], ([zqv170, zqv210, zqv154, zqv261, zqv340, zqv154, zqv166], [(1, 4, (-50))], [zqa53, zqa61], [], [zqf70, zqf144], [])), [(2, 0, 9)]), (193, ([(2, 0, 2, 3), (2, 4, 0, 4)], ([zqv170, zqv210, zqv154, zqv261, zqv340, zqv154, zqv166, zqv233, zqv166], [(1, 4, (-50))], [zqa53, zqa61], [], [zqf74, zqf147], [])), [(2, 0, 0)]), (193, ([(2, 4, 0, 4)], ([zqv170, zqv210, zqv154, zqv261, zqv340, zqv154, zqv166, zqv221], [(1, 4, (-50))], [zqa53, zqa61], [], [zqf69, zqf146], [])), [(2, 0, 4)]), (193, ([], ([zqv170, zqv210, zqv154, zqv261, zqv340, zqv154, zqv166], [(1, 4, (-50))], [zqa53, zqa61], [], [zqf70, zqf144], [])), [(2, 0, 8)]), (23, ([], ([zqv170, zqv210, zqv154, zqv261, zqv340, zqv154, zqv166], [(1, 4, (-50))], [zqa53, zqa61], [], [zqf69, zqf145], [])), [(2, 0, 26)]), (23, ([], ([zqv170, zqv210, zqv154, zqv261, zqv340, zqv154, zqv166], [(1, 4, (-50))], [zqa53, zqa61], [], [zqf70, zqf145], [])), [(2, 0, 34)]), (29, ([(2, 0, 2, 3)], ([zqv170, zqv210, zqv154, zqv261, zqv340, zqv154, zqv166, zqv233], [(1, 4, (-50))], [zqa53, zqa61], [], [zqf74, zqf145], [])), [(2, 0, 25)]), (29, ([], ([zqv170, zqv210, zqv154, zqv261, zqv340, zqv154, zqv166], [(1, 4, (-50))], [zqa53, zqa61], [], [zqf69, zqf145], [])), [(2, 0, 24)]), (29, ([], ([zqv170, zqv210, zqv154, zqv261, zqv340, zqv154, zqv166], [(1, 4, (-50))], [zqa53, zqa61], [], [zqf70, zqf145], [])), [(2, 0, 33)]), (50, ([(2, 0, 2, 3)], ([zqv170, zqv210, zqv154, zqv261, zqv340, zqv154, zqv166, zqv233], [(1, 4, (-50))], [zqa53, zqa61], [], [zqf74, zqf145], [])), [(2, 0, 23)]), (50, ([], ([zqv170, zqv210, zqv154, zqv261, zqv340, zqv154, zqv166], [(1, 4, (-50))], [zqa53, zqa61], [], [zqf69, zqf145], [])), [(2, 0, 22)]), (50, ([], ([zqv170, zqv210, zqv154, zqv261, zqv340, zqv154, zqv166], [(1, 4, (-50))], [zqa53, zqa61], [], [zqf70, zqf145], [])), [(2, 0, 32)]), (56, ([(2, 0, 2, 3)], ([zqv170, zqv210, zqv154, zqv261, zqv340, zqv154, zqv166, zqv233], [(1, 4, (-50))], [zqa53, zqa61], [], [zqf74, zqf145], [])), [(2, 0, 21)]), (56, ([], ([zqv170, zqv210, zqv154, zqv261, zqv340, zqv154, zqv166], [(1, 4, (-50))], [zqa53, zqa61], [], [zqf69, zqf145], [])), [(2, 0, 20)]), (56, ([], ([zqv170, zqv210, zqv154, zqv261, zqv340, zqv154, zqv166], [(1, 4, (-50))], [zqa53, zqa61], [], [zqf70, zqf145], [])), [(2, 0, 31)]), (70, ([(2, 0, 2, 3)], ([zqv170, zqv210, zqv154, zqv261, zqv340, zqv154, zqv166, zqv233], [(1, 4, (-50))], [zqa53, zqa61], [], [zqf74, zqf145], [])), [(2, 0, 19)]), (70, ([], ([zqv170, zqv210, zqv154, zqv261, zqv340, zqv154, zqv166], [(1, 4, (-50))], [zqa53, zqa61], [], [zqf69, zqf145], [])), [(2, 0, 18)]), (70, ([], ([zqv170, zqv210, zqv154, zqv261, zqv340, zqv154, zqv166], [(1, 4, (-50))], [zqa53, zqa61], [], [zqf70, zqf145], [])), [(2, 0, 30)]), (76, ([(2, 0, 2, 3)], ([zqv170, zqv210, zqv154, zqv261, zqv340, zqv154, zqv166, zqv233], [(1, 4, (-50))], [zqa53, zqa61], [], [zqf74, zqf145], [])), [(2, 0, 17)]), (76, ([], ([zqv170, zqv210, zqv154, zqv261, zqv340, zqv154, zqv166], [(1, 4, (-50))], [zqa53, zqa61], [], [zqf69, zqf145], [])), [(2, 0, 16)]), (76, ([], ([zqv170, zqv210, zqv154, zqv261, zqv340, zqv154, zqv166], [(1, 4, (-50))], [zqa53, zqa61], [], [zqf70, zqf145], [])), [(2, 0, 29)]), (90, ([(2, 0, 2, 3), (2, 4, 0, 4)], ([zqv170, zqv210, zqv154, zqv261, zqv340, zqv154, zqv166, zqv233, zqv166], [(1, 4, (-50))], [zqa53, zqa61], [], [zqf74, zqf147], [])), [(2, 0, 15)]), (90, ([(2, 4, 0, 4)], ([zqv170, zqv210, zqv154, zqv261, zqv340, zqv154, zqv166, zqv221], [(1, 4, (-50))], [zqa53, zqa61], [], [zqf69, zqf146], [])), [(2, 0, 14)]), (90, ([], ([zqv170, zqv210, zqv154, zqv261, zqv340, zqv154, zqv166], [(1, 4, (-50))], [zqa53, zqa61], [], [zqf70, zqf144], [])), [(2, 0, 28)]), (96, ([(2, 0, 2, 3), (2, 4, 0, 4)], ([zqv170, zqv210, zqv154, zqv261, zqv340, zqv154, zqv166, zqv233, zqv166], [(1, 4, (-50))], [zqa53, zqa61], [], [zqf74, zqf147], [])), [(2, 0, 13)]), (96, ([(2, 4, 0, 4)], ([zqv170, zqv210, zqv154, zqv261, zqv340, zqv154, zqv166, zqv221], [(1, 4, (-50))], [zqa53, zqa61], [], [zqf69, zqf146], [])), [(2, 0, 12)]), (96, ([], ([zqv170, zqv210, zqv154, zqv261, zqv340, zqv154, zqv166], [(1, 4, (-50))], [zqa53, zqa61], [], [zqf70, zqf144], [])), [(2, 0, 27)])]

/-- PushedIn$Tape.clear () -/
def zpC51 : zC := (103, (1, 40), ([], ([zqv170, zqv210, zqv154, zqv261], [], [zqa52], [], [], [])), [([], ([zqv170, zqv210, zqv154, zqv261], [], [], [], [], []))], [(2, 2, 1, 2)])
def zpA51 : zAnn := []

/-- PushedIn.comer, by hand -/
def zpC52 : zC := (7, (5, 130), ([], zcm0), [([(1, 0, 0, 0)], (zcmE ++ [[(-160, 39)]], [], [], [(1, 4, 0, 0, 0)], [], []))], [(1, 1, 1, 1), (2, 2, 1, 1), (2, 2, 1, 2), (2, 2, 1, 3), (50, 89, 1, 0), (50, 89, 1, 1), (50, 89, 1, 2), (50, 89, 1, 3), (50, 89, 1, 4), (50, 89, 1, 5), (50, 89, 1, 6), (50, 89, 1, 7), (50, 89, 1, 8), (50, 89, 1, 9), (50, 89, 1, 10), (50, 89, 1, 11)])

/-- PushedIn$Places.holdsNothing () -/
def zpC53 : zC := (71, (1, 40), ([(0, 1, 0, 0)], ([zqv170, zqv210, zqv154, zqv261, zqv221], [], [zqa59, zqa37], [], [], [])), [([], ([zqv170, zqv210, zqv154, zqv261, zqv221], [], [], [zqa8], [], [])), ([], ([zqv170, zqv210, zqv154, zqv261, zqv221], [], [], [zqa9], [], []))], zqw384)
def zpA53 : zAnn := []

/-- PushedIn$Places.holdsRowOf () -/
def zpC54 : zC := (72, (1, 40), ([(0, 1, 0, 0)], ([zqv170, zqv210, zqv154, zqv261, zqv221], [], [zqa59, zqa37, zqa9], [], [], [])), [([], ([zqv170, zqv210, zqv154, zqv261, zqv221], [], [], [zqa8], [], [])), ([], ([zqv170, zqv210, zqv154, zqv261, zqv221], [], [], [zqa9], [], []))], zqw384)
def zpA54 : zAnn := []

/-- PushedIn.within ((1, 8),) -/
def zpC55 : zC := (39, (1, 40), ([(0, 0, 0, 0)], ([zqv170, zqv210, zqv154, zqv261, zqv166], [], [zqa37, zqa30], [], [], [])), [([], ([zqv170, zqv210, zqv154, zqv261, [((-2147483648), (-1)), (8, 2147483647)]], [], [], [zqa8], [], [])), ([], ([zqv170, zqv210, zqv154, zqv261, zqv235], [], [], [zqa9], [], []))], zqw384)
def zpA55 : zAnn := []

/-- PushedIn$Places.readFive () -/
def zpC56 : zC := (74, (2, 61), ([(0, 1, 0, 0), (0, 2, 0, 0), (0, 4, 0, 0), (2, 6, 0, 4)], ([zqv170, zqv210, zqv154, zqv261, zqv221, zqv166, zqv340, zqv166], [(1, 6, (-50))], [zqa59, zqa37, zqa48, zqa0, (3, 6, 0, 0, 0), zqa0, zqa0], [], [(6, 0, 4, (1, 7, 0, 0, 0))], [])), [([(2, 6, 0, 4)], ([zqv170, zqv210, zqv154, zqv261, zqv221, zqv166, zqv340, zqv166, zqv166], [], [], [zqa8], [(6, 0, 4, (1, 8, 0, 0, 0))], [])), ([(2, 6, 0, 4)], ([zqv170, zqv210, zqv154, zqv261, zqv221, zqv227, zqv340, zqv166, zqv221], [], [], [zqa9], [(6, 0, 4, (1, 8, 0, 0, 0))], []))], [(50, 89, 1, 1), (50, 89, 1, 2), (50, 89, 1, 3), (50, 89, 1, 4), (50, 89, 1, 5), (50, 89, 1, 6), (50, 89, 1, 7)])
def zpA56 : zAnn := []

/-- PushedIn.comers, by hand -/
def zpC57 : zC := (8, (5, 130), ([(0, 1, 0, 0), (0, 2, 0, 0), (0, 3, 0, 0)], zcs0), [([(1, 0, 0, 0)], (zcs0.1 ++ [[(-12, 12)]], [], [], [(1, 7, 0, 0, 0)], [], []))], [(1, 1, 1, 1), (50, 89, 1, 0), (50, 89, 1, 1), (50, 89, 1, 2), (50, 89, 1, 3), (50, 89, 1, 4), (50, 89, 1, 5), (50, 89, 1, 6), (50, 89, 1, 7), (50, 89, 1, 8), (50, 89, 1, 9), (50, 89, 1, 10), (50, 89, 1, 11)])

/-- PushedIn$Comer.tell () -/
def zpC58 : zC := (54, (1, 40), ([(0, 0, 0, 0), (0, 1, 0, 0)], ([zqv170, zqv210, zqv154, zqv261, zqv340, zqv166], [(4, 1, 49)], [zqa61, zqa38], [], [], [])), [([(1, 0, 0, 0)], ([zqv170, zqv210, zqv154, zqv261, zqv340, zqv172, zqv166], [], [], [zqa39], [], [])), ([], ([zqv170, zqv210, zqv154, zqv261, zqv340, [((-2147483648), (-1)), (11, 2147483647)]], [], [], [zqa1], [], []))], zqw384)
def zpA58 : zAnn := []

/-- PushedIn.of () -/
def zpC59 : zC := (23, (3, 82), ([(0, 1, 0, 0), (0, 2, 0, 0)], ([zqv170, zqv210, zqv154, zqv261, zqv166, zqv166], [], [zqa50, zqa37, zqa38], [], [], [])), [([(1, 0, 0, 0)], ([zqv170, zqv251, zqv154, zqv261, zqv208, zqv172, zqv166], [(4, 1, (-1))], [], [zqa39], [], [])), ([], ([zqv170, zqv210, zqv154, zqv261, zqv166, zqv166], [], [], [zqa1], [], []))], zqw384)
def zpA59 : zAnn := []

/-- PushedIn.came () -/
def zpC60 : zC := (4, (6, 1044), ([(0, 1, 0, 0), (0, 2, 0, 0)], ([zqv170, zqv210, zqv154, zqv261, zqv166, zqv166], [], [zqa50, zqa37, zqa38], [], [], [])), [([(1, 0, 0, 0)], ([zqv170, zqv251, zqv154, zqv261, zqv208, zqv187, zqv166], [(4, 1, (-1))], [], [zqa39], [], [])), ([], ([zqv170, zqv210, zqv154, zqv261, zqv166, zqv166], [], [], [zqa1], [], [])), ([], ([zqv170, zqv251, zqv154, zqv261, zqv208, zqv187], [(4, 1, (-1))], [], [zqa8], [], []))], zqw367)
def zpA60 : zAnn := []

/-- PushedIn$Comer.hasStarts () -/
def zpC61 : zC := (51, (1, 40), ([(0, 0, 0, 0)], ([zqv170, zqv210, zqv154, zqv261, zqv340], [], [zqa61], [], [], [])), [([], ([zqv170, zqv210, zqv154, zqv261, zqv340], [], [], [zqa8], [], [])), ([], ([zqv170, zqv210, zqv154, zqv261, zqv340], [], [], [zqa9], [], []))], zqw384)
def zpA61 : zAnn := []

/-- PushedIn.cant () -/
def zpC62 : zC := (5, (2, 61), ([(0, 1, 0, 0)], ([zqv170, zqv210, zqv154, zqv261, zqv166], [], [zqa50, zqa37, zqa0, zqa0], [], [], [])), [([(1, 0, 0, 0)], ([zqv170, zqv251, zqv154, zqv261, zqv198, zqv208], [(5, 1, (-1))], [], [zqa38], [], [])), ([], ([zqv170, zqv210, zqv154, zqv261, zqv158], [], [], [zqa1], [], [])), ([], ([zqv170, zqv210, zqv154, zqv261, zqv198], [], [], [zqa5], [], []))], zqw384)
def zpA62 : zAnn := [(12, ([(0, 2, 0, 0)], ([zqv170, zqv210, zqv154, zqv261, zqv198, zqv210], [], [zqa50, zqa37, zqa38, zqa0], [], [], [])), [(2, 0, 0), (0, 5, 40), (2, 0, 0)])]

/-- PushedIn$Comer.served () -/
def zpC63 : zC := (53, (1, 40), ([(0, 0, 0, 0)], ([zqv170, zqv210, zqv154, zqv261, zqv340], [], [zqa61], [], [], [])), [([(1, 0, 0, 0)], ([zqv170, zqv210, zqv154, zqv261, zqv340, zqv166], [], [], [zqa38], [], []))], zqw384)
def zpA63 : zAnn := []

/-- PushedIn$Passing.couldPass () -/
def zpC64 : zC := (59, (1, 40), ([(0, 1, 0, 0), (0, 2, 0, 0)], ([zqv170, zqv210, zqv154, zqv261, zqv340, zqv340], [], [zqa55, zqa61, zqa62], [], [], [])), [([], ([zqv170, zqv210, zqv154, zqv261, zqv340, zqv340], [], [], [zqa8], [], [])), ([], ([zqv170, zqv210, zqv154, zqv261, zqv340, zqv340], [], [], [zqa9], [], []))], zqw384)
def zpA64 : zAnn := []

/-- PushedIn$Passing.passes () -/
def zpC65 : zC := (65, (2, 62), ([(0, 1, 0, 0), (0, 2, 0, 0), (0, 3, 0, 0)], ([zqv170, zqv210, zqv154, zqv261, zqv340, zqv340, zqv182], [(5, 1, 49)], [zqa55, zqa61, zqa62, zqa39], [], [], [])), [([], ([zqv170, zqv210, zqv154, zqv261, zqv340, zqv340, zqv182], [], [], [zqa8], [], [])), ([], ([zqv170, zqv210, zqv154, zqv261, zqv340, zqv340, zqv182], [], [], [zqa9], [], []))], zqw384)
def zpA65 : zAnn := []

/-- PushedIn.passed () -/
def zpC66 : zC := (25, (3, 85), ([(0, 1, 0, 0), (0, 2, 0, 0)], ([zqv170, zqv210, zqv154, zqv261, zqv166, zqv166], [], [zqa50, zqa37, zqa38, zqa0, zqa0, zqa0, zqa0], [], [], [])), [([], ([zqv170, zqv210, zqv154, zqv261, zqv166, zqv166], [], [], [zqa1], [], [])), ([], ([zqv170, zqv251, zqv154, zqv261, zqv166, zqv171], [], [], [zqa8], [], [])), ([], ([zqv170, zqv251, zqv154, zqv261, zqv166, zqv171], [], [], [zqa9], [], []))], zqw384)
def zpA66 : zAnn := []

/-- PushedIn$Passing.passesOn () -/
def zpC67 : zC := (66, (3, 85), ([(0, 1, 0, 0), (0, 2, 0, 0)], ([zqv170, zqv210, zqv154, zqv261, zqv198, zqv182], [], [zqa55, zqa37, zqa38, zqa0, zqa0, zqa0], [], [], [])), [([(1, 0, 0, 0)], ([zqv170, zqv210, zqv154, zqv261, zqv198, zqv182, zqv166], [], [], [zqa39], [], []))], zqw384)
def zpA67 : zAnn := [(20, ([(0, 3, 0, 0), (0, 4, 0, 0), (0, 5, 0, 0)], ([zqv170, zqv251, zqv154, zqv261, zqv198, zqv182, zqv166, zqv208, zqv210], [], [zqa55, zqa37, zqa38, zqa39, zqa40, zqa41], [], [], [])), [(2, 0, 0), (0, 7, 40), (2, 0, 0), (0, 8, 40)]), (5, ([(0, 3, 0, 0), (0, 4, 0, 0)], ([zqv170, zqv210, zqv154, zqv261, zqv198, zqv182, zqv166, zqv210], [], [zqa55, zqa37, zqa38, zqa39, zqa40, zqa0], [], [], [])), [(2, 0, 0), (0, 7, 40), (2, 0, 1)])]

/-- PushedIn.pairs () -/
def zpC68 : zC := (24, (4, 110), ([(0, 1, 0, 0), (0, 2, 0, 0)], ([zqv170, zqv210, zqv154, zqv261, zqv166, zqv166], [], [zqa50, zqa37, zqa38], [], [], [])), [([(1, 0, 0, 0)], ([zqv170, zqv210, zqv154, zqv261, zqv198, zqv171, zqv166], [], [], [zqa39], [], [])), ([], ([zqv170, zqv210, zqv154, zqv261, zqv166, zqv166], [], [], [zqa1], [], []))], zqw384)
def zpA68 : zAnn := []

/-- PushedIn.start () -/
def zpC69 : zC := (33, (3, 82), ([(0, 1, 0, 0), (0, 2, 0, 0)], ([zqv170, zqv210, zqv154, zqv261, zqv166, zqv166], [], [zqa50, zqa37, zqa38], [], [], [])), [([], ([zqv170, zqv210, zqv154, zqv261, zqv166, zqv166], [], [], [zqa1], [], [])), ([], ([zqv170, zqv251, zqv154, zqv261, zqv208, zqv155], [(4, 1, (-1))], [], [zqa9], [], []))], [(50, 89, 1, 8)])
def zpA69 : zAnn := []

/-- PushedIn$Comer.isStart () -/
def zpC70 : zC := (52, (2, 60), ([(0, 0, 0, 0), (0, 1, 0, 0)], ([zqv170, zqv210, zqv154, zqv261, zqv340, zqv163], [(4, 1, 49)], [zqa61, zqa38], [], [], [])), [([], ([zqv170, zqv210, zqv154, zqv261, zqv340, zqv163], [], [], [zqa8], [], [])), ([], ([zqv170, zqv210, zqv154, zqv261, zqv340, zqv163], [], [], [zqa9], [], []))], zqw384)
def zpA70 : zAnn := []

/-- PushedIn$Passing.firstMistold () -/
def zpC71 : zC := (61, (3, 81), ([(0, 1, 0, 0)], ([zqv170, zqv210, zqv154, zqv261, zqv198], [], [zqa55, zqa37, zqa0, zqa0], [], [], [])), [([(1, 0, 0, 0)], ([zqv170, zqv251, zqv154, zqv261, zqv198, zqv208], [(5, 1, (-1))], [], [zqa38], [], [])), ([], ([zqv170, zqv210, zqv154, zqv261, zqv198], [], [], [zqa5], [], []))], zqw384)
def zpA71 : zAnn := [(2, ([(0, 2, 0, 0)], ([zqv170, zqv210, zqv154, zqv261, zqv198, zqv210], [], [zqa55, zqa37, zqa38, zqa0], [], [], [])), [(2, 0, 0), (0, 5, 40), (2, 0, 0)])]

/-- PushedIn.judge () -/
def zpC72 : zC := (17, (4, 110), ([(0, 1, 0, 0), (0, 2, 0, 0)], ([zqv170, zqv210, zqv154, zqv261, zqv166, zqv166], [], [zqa50, zqa37, zqa38], [], [], [])), [([(1, 0, 0, 0)], ([zqv170, zqv210, zqv154, zqv261, zqv198, zqv171, zqv166], [], [], [zqa39], [], [])), ([], ([zqv170, zqv210, zqv154, zqv261, zqv166, zqv166], [], [], [zqa1], [], [])), ([], ([zqv170, zqv210, zqv154, zqv261, zqv198, zqv170], [], [], [zqa5], [], []))], zqw384)
def zpA72 : zAnn := []

/-- PushedIn$Passing.passedBy () -/
def zpC73 : zC := (63, (3, 85), ([(0, 1, 0, 0)], ([zqv170, zqv210, zqv154, zqv261, zqv340], [(4, 1, 49)], [zqa55, zqa61, zqa0, zqa0, zqa0], [], [], [])), [([(1, 0, 0, 0)], ([zqv170, zqv210, zqv154, zqv261, zqv340, zqv168], [], [], [zqa48], [], []))], zqw384)
def zpA73 : zAnn := [(5, ([(0, 2, 0, 0), (0, 4, 0, 0)], ([zqv170, zqv210, zqv154, zqv261, zqv340, zqv168, zqv210], [(4, 1, 49)], [zqa55, zqa61, zqa48, zqa0, zqa39], [], [], [])), [(2, 0, 0), (0, 6, 40), (2, 0, 0)])]

/-- PushedIn.whom () -/
def zpC74 : zC := (38, (4, 109), ([(0, 1, 0, 0)], ([zqv170, zqv210, zqv154, zqv261, zqv166], [], [zqa50, zqa37], [], [], [])), [([(1, 0, 0, 0)], ([zqv170, zqv251, zqv154, zqv261, zqv208, zqv168], [(4, 1, (-1))], [], [zqa48], [], [])), ([], ([zqv170, zqv210, zqv154, zqv261, zqv166], [], [], [zqa43], [], []))], zqw384)
def zpA74 : zAnn := []

/-- PushedIn$Passing.chosenAt () -/
def zpC75 : zC := (58, (1, 40), ([(0, 2, 0, 0)], ([zqv170, zqv210, zqv154, zqv261, zqv208], [(0, 1, (-1)), (4, 1, (-1))], [zqa55, zqa8, zqa37], [], [], [])), [([(1, 0, 0, 0)], ([zqv170, zqv210, zqv154, zqv261, zqv208, zqv208], [], [], [zqa38], [], [])), ([], ([zqv170, zqv210, zqv154, zqv261, zqv208], [], [], [zqa37], [], []))], zqw384)
def zpA75 : zAnn := []

/-- PushedIn$Passing.choose () -/
def zpC76 : zC := (57, (2, 62), ([(0, 1, 0, 0)], ([zqv170, zqv210, zqv154, zqv261, zqv168], [], [zqa55, zqa47, zqa0, zqa0, zqa0], [], [], [])), [([], ([zqv170, zqv210, zqv154, zqv261, zqv168], [], [], [zqa8], [], [])), ([], ([zqv170, zqv210, zqv154, zqv261, zqv168], [], [], [zqa9], [], []))], [(5, 5, 1, 4), (23, 23, 0, 0)])
def zpA76 : zAnn := [(23, ([(0, 3, 0, 0)], ([zqv170, zqv210, zqv154, zqv261, zqv168, zqv210], [], [zqa55, zqa47, zqa0, zqa38, zqa0], [], [], [])), [(2, 0, 0), (0, 5, 40), (2, 0, 0)])]

/-- PushedIn$Passing.latestEarlyOf () -/
def zpC77 : zC := (62, (2, 61), ([(0, 1, 0, 0)], ([zqv170, zqv210, zqv154, zqv261, zqv256], [], [zqa55, zqa37, zqa0, zqa0], [], [], [])), [([(1, 0, 0, 0)], ([zqv170, zqv210, zqv154, zqv261, zqv256, zqv188], [], [], [zqa38], [], []))], zqw384)
def zpA77 : zAnn := [(4, ([(0, 2, 0, 0), (0, 3, 0, 0)], ([zqv170, zqv210, zqv154, zqv261, zqv256, zqv188, zqv232], [], [zqa55, zqa37, zqa38, zqa39], [], [], [])), [(2, 0, 0), (0, 5, 2147483647), (2, 0, 0), (0, 6, 6)])]

/-- PushedIn$Passing.passersOf () -/
def zpC78 : zC := (64, (2, 62), ([(0, 1, 0, 0)], ([zqv170, zqv210, zqv154, zqv261, zqv221], [], [zqa55, zqa37, zqa0, zqa0], [], [], [])), [([(1, 0, 0, 0)], ([zqv170, zqv210, zqv154, zqv261, zqv221, zqv166], [], [], [zqa38], [], []))], zqw384)
def zpA78 : zAnn := [(4, ([(0, 2, 0, 0), (0, 3, 0, 0)], ([zqv170, zqv210, zqv154, zqv261, zqv221, zqv166, zqv232], [], [zqa55, zqa37, zqa38, zqa39], [], [], [])), [(2, 0, 0), (0, 6, 6), (2, 0, 0)])]

/-- java/lang/Integer.bitCount () -/
def zpC79 : zC := (216, (1, 40), ([(0, 0, 0, 0)], ([zqv170, zqv210, zqv154, zqv261, zqv234], [], [zqa37], [], [], [])), [([(1, 0, 0, 0)], ([zqv170, zqv210, zqv154, zqv261, zqv234, zqv234], [], [], [zqa38], [], []))], zqw384)
def zpA79 : zAnn := []

/-- java/lang/Math.min () -/
def zpC80 : zC := (219, (1, 40), ([(0, 0, 0, 0), (0, 1, 0, 0)], ([zqv170, zqv210, zqv154, zqv261, zqv166, zqv166], [], [zqa37, zqa38], [], [], [])), [([], ([zqv170, zqv210, zqv154, zqv261, zqv166, zqv166], [(4, 5, 0)], [], [zqa37], [], [])), ([], ([zqv170, zqv210, zqv154, zqv261, [((-2147483647), 2147483647)], zqv165], [(5, 4, (-1))], [], [zqa38], [], []))], zqw384)
def zpA80 : zAnn := []

/-- PushedIn$Passing.fewestAmongChosen () -/
def zpC81 : zC := (60, (3, 85), ([], ([zqv170, zqv210, zqv154, zqv261], [], [zqa55, zqa0, zqa0, zqa0, zqa0, zqa0, zqa0], [], [], [])), [([(1, 0, 0, 0)], ([zqv170, zqv210, zqv154, zqv261, zqv166], [], [], [zqa37], [], []))], [(24, 24, 0, 0), (25, 25, 0, 0)])
def zpA81 : zAnn := [(2, ([(0, 1, 0, 0)], ([zqv170, zqv210, zqv154, zqv261, zqv232], [], [zqa55, zqa37, zqa0, zqa0, zqa0, zqa0, zqa0], [], [], [])), [(2, 0, 1), (0, 4, 6), (2, 0, 0)]), (43, ([(0, 1, 0, 0), (0, 2, 0, 0)], ([zqv170, zqv210, zqv154, zqv261, [(1, 64)], [(1, 64)]], [], [zqa55, zqa37, zqa38, zqa0, zqa0, zqa0, zqa0], [], [], [])), [(2, 0, 0), (0, 5, 64), (2, 0, 1)]), (72, ([(0, 1, 0, 0), (0, 2, 0, 0), (0, 3, 0, 0), (0, 4, 0, 0)], ([zqv170, zqv210, zqv154, zqv261, [(2, 64)], zqv256, zqv188, zqv232], [(5, 4, 0)], [zqa55, zqa37, zqa38, zqa39, zqa40, zqa0, zqa0], [], [], [])), [(2, 0, 0), (0, 5, 64), (2, 0, 0), (0, 7, 6)])]

/-- PushedIn.fewest () -/
def zpC82 : zC := (12, (4, 111), ([(0, 1, 0, 0)], ([zqv170, zqv210, zqv154, zqv261, zqv168], [], [zqa50, zqa47, zqa0], [], [], [])), [([(1, 0, 0, 0)], ([zqv170, zqv210, zqv154, zqv261, zqv168, zqv166], [], [], [zqa38], [], [])), ([], ([zqv170, zqv210, zqv154, zqv261, zqv168], [], [], [zqa1], [], []))], [(5, 5, 1, 4), (23, 23, 0, 0), (24, 24, 0, 0), (25, 25, 0, 0)])
def zpA82 : zAnn := []

/-- PushedIn$Rules.add () -/
def zpC83 : zC := (78, (1, 40), ([(0, 1, 0, 0), (0, 2, 0, 0), (0, 3, 0, 0), (0, 4, 0, 0)], ([zqv170, zqv210, zqv154, zqv261, zqv235, zqv241, zqv241, zqv241], [], [zqa56, zqa37, zqa38, zqa39, zqa40], [], [], [])), [([], ([zqv170, zqv210, zqv154, zqv261, zqv235, zqv241, zqv241, zqv241], [], [], [], [], []))], [(6, 6, 1, 8), (27, 27, 0, 0), (28, 28, 0, 0), (29, 29, 0, 0), (30, 30, 0, 0)])
def zpA83 : zAnn := []

/-- PushedIn.within ((1, 100),) -/
def zpC84 : zC := (39, (1, 40), ([(0, 0, 0, 0)], ([zqv170, zqv210, zqv154, zqv261, zqv166], [], [zqa37, (1, 0, 100, 0, 0)], [], [], [])), [([], ([zqv170, zqv210, zqv154, zqv261, [((-2147483648), (-1)), (100, 2147483647)]], [], [], [zqa8], [], [])), ([], ([zqv170, zqv210, zqv154, zqv261, zqv241], [], [], [zqa9], [], []))], zqw384)
def zpA84 : zAnn := []

/-- PushedIn.within ((1, 10000),) -/
def zpC85 : zC := (39, (1, 40), ([(0, 0, 0, 0)], ([zqv170, zqv210, zqv154, zqv261, zqv166], [], [zqa37, (1, 0, 10000, 0, 0)], [], [], [])), [([], ([zqv170, zqv210, zqv154, zqv261, [((-2147483648), (-1)), (10000, 2147483647)]], [], [], [zqa8], [], [])), ([], ([zqv170, zqv210, zqv154, zqv261, zqv242], [], [], [zqa9], [], []))], zqw384)
def zpA85 : zAnn := []

/-- PushedIn.rule () -/
def zpC86 : zC := (29, (2, 64), ([(0, 1, 0, 0), (0, 2, 0, 0), (0, 3, 0, 0)], ([zqv170, zqv210, zqv154, zqv261, zqv166, zqv166, zqv166], [], [zqa50, zqa37, zqa38, zqa39], [], [], [])), [([(1, 0, 0, 0)], ([zqv170, zqv210, zqv154, zqv261, zqv235, zqv242, zqv241, zqv150], [], [], [zqa40], [], [])), ([], ([zqv170, zqv210, zqv154, zqv261, zqv166, zqv166, zqv166], [], [], [zqa1], [], [])), ([], ([zqv170, zqv210, zqv154, zqv261, zqv235, zqv242, zqv241], [], [], [zqa6], [], []))], [(6, 6, 1, 8), (27, 27, 0, 0), (28, 28, 0, 0), (29, 29, 0, 0), (30, 30, 0, 0)])
def zpA86 : zAnn := []

/-- PushedIn$Text.addStep ((1, 59),) -/
def zpC87 : zC := (108, (20, 1000), ([(0, 0, 0, 0)], ([[(0, 0)], [(0, 40)], [((-1), 60)], [(10, 11)], [(10, 11)]], [], [(3, 4, 0, 0, 0), (1, 0, 59, 0, 0), (1, 0, 0, 0, 0)], [], [], [])), [([], ([[(0, 0)], [(0, 40)], [((-1), 60)], [(10, 11)], [(10, 11)]], [], [], [], [], []))], [(10, 11, 1, 4), (31, 32, 0, 0), (33, 34, 0, 0)])

/-- PushedIn$Text.addStep ((1, 63),) -/
def zpC88 : zC := (108, (20, 1000), ([(0, 0, 0, 0)], ([[(0, 0)], [(0, 40)], [((-1), 60)], [(10, 11)], [(10, 11)]], [], [(3, 4, 0, 0, 0), (1, 0, 63, 0, 0), (1, 0, 0, 0, 0)], [], [], [])), [([], ([[(0, 0)], [(0, 40)], [((-1), 60)], [(10, 11)], [(10, 11)]], [], [], [], [], []))], [(10, 11, 1, 4), (31, 32, 0, 0), (33, 34, 0, 0)])

/-- PushedIn$Text.addStep ((1, 124),) -/
def zpC89 : zC := (108, (20, 1000), ([(0, 0, 0, 0)], ([[(0, 0)], [(0, 40)], [((-1), 60)], [(10, 11)], [(10, 11)]], [], [(3, 4, 0, 0, 0), (1, 0, 124, 0, 0), (1, 0, 0, 0, 0)], [], [], [])), [([], ([[(0, 0)], [(0, 40)], [((-1), 60)], [(10, 11)], [(10, 11)]], [], [], [], [], []))], [(10, 11, 1, 4), (31, 32, 0, 0), (33, 34, 0, 0)])

/-- PushedIn$Text.addStep ((1, 38),) -/
def zpC90 : zC := (108, (20, 1000), ([(0, 0, 0, 0)], ([[(0, 0)], [(0, 40)], [((-1), 60)], [(10, 11)], [(10, 11)]], [], [(3, 4, 0, 0, 0), (1, 0, 38, 0, 0), (1, 0, 0, 0, 0)], [], [], [])), [([], ([[(0, 0)], [(0, 40)], [((-1), 60)], [(10, 11)], [(10, 11)]], [], [], [], [], []))], [(10, 11, 1, 4), (31, 32, 0, 0), (33, 34, 0, 0)])

/-- PushedIn$Text.addStep ((1, -1),) -/
def zpC91 : zC := (108, (20, 1000), ([(0, 0, 0, 0)], ([[(0, 0)], [(0, 40)], [((-1), 60)], [(10, 11)], [(10, 11)]], [], [(3, 4, 0, 0, 0), (1, 0, (-1), 0, 0), (1, 0, 0, 0, 0)], [], [], [])), [([], ([[(0, 0)], [(0, 40)], [((-1), 60)], [(10, 11)], [(10, 11)]], [], [], [], [], []))], [(10, 11, 1, 4), (31, 32, 0, 0), (33, 34, 0, 0)])

/-- PushedIn$Text.addStep () -/
def zpC92 : zC := (108, (20, 1000), ([(0, 0, 0, 0), (0, 1, 0, 0)], ([[(0, 0)], [(0, 40)], [((-1), 60)], [(10, 11)], [(10, 11)], [((-1), 255)]], [], [(3, 4, 0, 0, 0), (1, 5, 0, 0, 0), (1, 0, 0, 0, 0)], [], [], [])), [([], ([[(0, 0)], [(0, 40)], [((-1), 60)], [(10, 11)], [(10, 11)], [((-1), 255)]], [], [], [], [], []))], [(10, 11, 1, 4), (31, 32, 0, 0), (33, 34, 0, 0)])

/-- PushedIn$Tape.readNumber ((1, 4), (2, 0), (3, 9999), ((2, 3), -1)) -/
def zpC93 : zC := (104, (2, 60), ([(2, 0, 2, 1)], ([zqv170, zqv210, zqv154, zqv261, zqv231], [], [zqa52, zqa19, zqa8, (1, 0, 9999, 0, 0), zqa0, zqa0, zqa0], [], [zqf64, zqf69], [])), [([(1, 0, 0, 0)], ([zqv170, zqv210, zqv154, zqv261, zqv231, zqv166], [], [], [zqa38], [zqf64, zqf71], [])), ([(1, 0, 0, 0), (2, 0, 2, 1)], ([zqv170, zqv210, zqv154, zqv261, zqv231, zqv242, zqv255], [(4, 6, (-1))], [], [zqa38], [zqf67, zqf69], []))], zqw370)
def zpA93 : zAnn := [(12, ([(0, 5, 0, 0), (0, 6, 0, 0), (2, 0, 2, 1)], ([zqv170, zqv210, zqv154, zqv261, zqv231, zqv166, zqv209, zqv233], [(6, 7, 0), (4, 7, 0)], [zqa52, zqa19, zqa8, (1, 0, 9999, 0, 0), zqa37, zqa38, zqa39], [], [zqf68, zqf69], [])), [(2, 0, 0), (0, 6, 4), (2, 0, 0)])]

/-- PushedIn$Text.addStep ((1, 77),) -/
def zpC94 : zC := (108, (20, 1000), ([(0, 0, 0, 0)], ([[(0, 0)], [(0, 40)], [((-1), 60)], [(10, 11)], [(10, 11)]], [], [(3, 4, 0, 0, 0), (1, 0, 77, 0, 0), (1, 0, 0, 0, 0)], [], [], [])), [([], ([[(0, 0)], [(0, 40)], [((-1), 60)], [(10, 11)], [(10, 11)]], [], [], [], [], []))], [(10, 11, 1, 4), (31, 32, 0, 0), (33, 34, 0, 0)])

/-- PushedIn$Text.addStep ((1, 78),) -/
def zpC95 : zC := (108, (20, 1000), ([(0, 0, 0, 0), (0, 2, 0, 0)], ([[(0, 0)], [(0, 40)], [((-1), 60)], [(10, 11)], [(10, 11)], [(0, 7)]], [], [(3, 4, 0, 0, 0), (1, 0, 78, 0, 0), (1, 5, 0, 0, 0)], [], [], [])), [([], ([[(0, 0)], [(0, 40)], [((-1), 60)], [(10, 11)], [(10, 11)], [(0, 7)]], [], [], [], [], []))], [(10, 11, 1, 4), (31, 32, 0, 0), (33, 34, 0, 0)])

/-- PushedIn$Text.addStep ((1, 86),) -/
def zpC96 : zC := (108, (20, 1000), ([(0, 0, 0, 0), (0, 2, 0, 0)], ([[(0, 0)], [(0, 40)], [((-1), 60)], [(10, 11)], [(10, 11)], [((-2147483648), 2147483647)]], [], [(3, 4, 0, 0, 0), (1, 0, 86, 0, 0), (1, 5, 0, 0, 0)], [], [], [])), [([], ([[(0, 0)], [(0, 40)], [((-1), 60)], [(10, 11)], [(10, 11)], [((-2147483648), 2147483647)]], [], [], [], [], []))], [(10, 11, 1, 4), (31, 32, 0, 0), (33, 34, 0, 0)])

/-- PushedIn$Text.readOperand ((1, 6),) -/
def zpC97 : zC := (115, (21, 1022), ([(0, 0, 0, 0)], ([zqv170, zqv210, zqv154, zqv261, zqv261], [], [zqa61, zqa25, zqa0, zqa0], [], [], [])), [([], ([zqv170, zqv210, zqv154, zqv261, zqv261], [], [], [], [], []))], zqw369)
def zpA97 : zAnn := []

/-- PushedIn$Text.readProduct ((1, 6),) -/
def zpC98 : zC := (116, (22, 1045), ([(0, 0, 0, 0)], ([zqv170, zqv210, zqv154, zqv261, zqv261], [], [zqa61, zqa25, zqa0, zqa0], [], [], [])), [([], ([zqv170, zqv210, zqv154, zqv261, zqv261], [], [], [], [], []))], zqw369)
def zpA98 : zAnn := [(15, ([(0, 2, 0, 0), (0, 3, 0, 0)], ([zqv170, zqv210, zqv154, zqv261, zqv261, zqv152, zqv233], [], [zqa61, zqa25, zqa38, zqa39], [], [], [])), [(2, 0, 0), (0, 6, 60), (2, 0, 0)])]

/-- PushedIn$Text.readSum ((1, 6),) -/
def zpC99 : zC := (117, (23, 1068), ([(0, 0, 0, 0)], ([zqv170, zqv210, zqv154, zqv261, zqv261], [], [zqa61, zqa25, zqa0, zqa0], [], [], [])), [([], ([zqv170, zqv210, zqv154, zqv261, zqv261], [], [], [], [], []))], zqw369)
def zpA99 : zAnn := [(15, ([(0, 2, 0, 0), (0, 3, 0, 0)], ([zqv170, zqv210, zqv154, zqv261, zqv261, zqv152, zqv233], [], [zqa61, zqa25, zqa38, zqa39], [], [], [])), [(2, 0, 0), (0, 6, 60), (2, 0, 0)])]

/-- PushedIn$Text.readCompared ((1, 6),) -/
def zpC100 : zC := (112, (24, 1091), ([(0, 0, 0, 0)], ([zqv170, zqv210, zqv154, zqv261, zqv261], [], [zqa61, zqa25, zqa0], [], [], [])), [([], ([zqv170, zqv210, zqv154, zqv261, zqv261], [], [], [], [], []))], zqw369)
def zpA100 : zAnn := []

/-- PushedIn$Text.readBoth ((1, 6),) -/
def zpC101 : zC := (111, (25, 1113), ([(0, 0, 0, 0)], ([zqv170, zqv210, zqv154, zqv261, zqv261], [], [zqa61, zqa25, zqa0], [], [], [])), [([], ([zqv170, zqv210, zqv154, zqv261, zqv261], [], [], [], [], []))], zqw369)
def zpA101 : zAnn := [(7, ([(0, 2, 0, 0)], ([zqv170, zqv210, zqv154, zqv261, zqv261, zqv233], [], [zqa61, zqa25, zqa38], [], [], [])), [(2, 0, 0), (0, 5, 60), (2, 0, 0)])]

/-- PushedIn$Text.readEither ((1, 6),) -/
def zpC102 : zC := (113, (26, 1135), ([(0, 0, 0, 0)], ([zqv170, zqv210, zqv154, zqv261, zqv261], [], [zqa61, zqa25, zqa0], [], [], [])), [([], ([zqv170, zqv210, zqv154, zqv261, zqv261], [], [], [], [], []))], zqw369)
def zpA102 : zAnn := [(7, ([(0, 2, 0, 0)], ([zqv170, zqv210, zqv154, zqv261, zqv261, zqv233], [], [zqa61, zqa25, zqa38], [], [], [])), [(2, 0, 0), (0, 5, 60), (2, 0, 0)])]

/-- PushedIn$Text.readOperand ((1, 5),) -/
def zpC103 : zC := (115, (27, 1157), ([(0, 0, 0, 0)], ([zqv170, zqv210, zqv154, zqv261, zqv261], [], [zqa61, zqa22, zqa0, zqa0], [], [], [])), [([], ([zqv170, zqv210, zqv154, zqv261, zqv261], [], [], [], [], []))], zqw369)
def zpA103 : zAnn := []

/-- PushedIn$Text.readProduct ((1, 5),) -/
def zpC104 : zC := (116, (28, 1180), ([(0, 0, 0, 0)], ([zqv170, zqv210, zqv154, zqv261, zqv261], [], [zqa61, zqa22, zqa0, zqa0], [], [], [])), [([], ([zqv170, zqv210, zqv154, zqv261, zqv261], [], [], [], [], []))], zqw369)
def zpA104 : zAnn := [(15, ([(0, 2, 0, 0), (0, 3, 0, 0)], ([zqv170, zqv210, zqv154, zqv261, zqv261, zqv152, zqv233], [], [zqa61, zqa22, zqa38, zqa39], [], [], [])), [(2, 0, 0), (0, 6, 60), (2, 0, 0)])]

/-- PushedIn$Text.readSum ((1, 5),) -/
def zpC105 : zC := (117, (29, 1203), ([(0, 0, 0, 0)], ([zqv170, zqv210, zqv154, zqv261, zqv261], [], [zqa61, zqa22, zqa0, zqa0], [], [], [])), [([], ([zqv170, zqv210, zqv154, zqv261, zqv261], [], [], [], [], []))], zqw369)
def zpA105 : zAnn := [(15, ([(0, 2, 0, 0), (0, 3, 0, 0)], ([zqv170, zqv210, zqv154, zqv261, zqv261, zqv152, zqv233], [], [zqa61, zqa22, zqa38, zqa39], [], [], [])), [(2, 0, 0), (0, 6, 60), (2, 0, 0)])]

/-- PushedIn$Text.readCompared ((1, 5),) -/
def zpC106 : zC := (112, (30, 1226), ([(0, 0, 0, 0)], ([zqv170, zqv210, zqv154, zqv261, zqv261], [], [zqa61, zqa22, zqa0], [], [], [])), [([], ([zqv170, zqv210, zqv154, zqv261, zqv261], [], [], [], [], []))], zqw369)
def zpA106 : zAnn := []

/-- PushedIn$Text.readBoth ((1, 5),) -/
def zpC107 : zC := (111, (31, 1248), ([(0, 0, 0, 0)], ([zqv170, zqv210, zqv154, zqv261, zqv261], [], [zqa61, zqa22, zqa0], [], [], [])), [([], ([zqv170, zqv210, zqv154, zqv261, zqv261], [], [], [], [], []))], zqw369)
def zpA107 : zAnn := [(7, ([(0, 2, 0, 0)], ([zqv170, zqv210, zqv154, zqv261, zqv261, zqv233], [], [zqa61, zqa22, zqa38], [], [], [])), [(2, 0, 0), (0, 5, 60), (2, 0, 0)])]

/-- PushedIn$Text.readEither ((1, 5),) -/
def zpC108 : zC := (113, (32, 1270), ([(0, 0, 0, 0)], ([zqv170, zqv210, zqv154, zqv261, zqv261], [], [zqa61, zqa22, zqa0], [], [], [])), [([], ([zqv170, zqv210, zqv154, zqv261, zqv261], [], [], [], [], []))], zqw369)
def zpA108 : zAnn := [(7, ([(0, 2, 0, 0)], ([zqv170, zqv210, zqv154, zqv261, zqv261, zqv233], [], [zqa61, zqa22, zqa38], [], [], [])), [(2, 0, 0), (0, 5, 60), (2, 0, 0)])]

/-- PushedIn$Text.readOperand ((1, 4),) -/
def zpC109 : zC := (115, (33, 1292), ([(0, 0, 0, 0)], ([zqv170, zqv210, zqv154, zqv261, zqv261], [], [zqa61, zqa19, zqa0, zqa0], [], [], [])), [([], ([zqv170, zqv210, zqv154, zqv261, zqv261], [], [], [], [], []))], zqw369)
def zpA109 : zAnn := []

/-- PushedIn$Text.readProduct ((1, 4),) -/
def zpC110 : zC := (116, (34, 1315), ([(0, 0, 0, 0)], ([zqv170, zqv210, zqv154, zqv261, zqv261], [], [zqa61, zqa19, zqa0, zqa0], [], [], [])), [([], ([zqv170, zqv210, zqv154, zqv261, zqv261], [], [], [], [], []))], zqw369)
def zpA110 : zAnn := [(15, ([(0, 2, 0, 0), (0, 3, 0, 0)], ([zqv170, zqv210, zqv154, zqv261, zqv261, zqv152, zqv233], [], [zqa61, zqa19, zqa38, zqa39], [], [], [])), [(2, 0, 0), (0, 6, 60), (2, 0, 0)])]

/-- PushedIn$Text.readSum ((1, 4),) -/
def zpC111 : zC := (117, (35, 1338), ([(0, 0, 0, 0)], ([zqv170, zqv210, zqv154, zqv261, zqv261], [], [zqa61, zqa19, zqa0, zqa0], [], [], [])), [([], ([zqv170, zqv210, zqv154, zqv261, zqv261], [], [], [], [], []))], zqw369)
def zpA111 : zAnn := [(15, ([(0, 2, 0, 0), (0, 3, 0, 0)], ([zqv170, zqv210, zqv154, zqv261, zqv261, zqv152, zqv233], [], [zqa61, zqa19, zqa38, zqa39], [], [], [])), [(2, 0, 0), (0, 6, 60), (2, 0, 0)])]

/-- PushedIn$Text.readCompared ((1, 4),) -/
def zpC112 : zC := (112, (36, 1361), ([(0, 0, 0, 0)], ([zqv170, zqv210, zqv154, zqv261, zqv261], [], [zqa61, zqa19, zqa0], [], [], [])), [([], ([zqv170, zqv210, zqv154, zqv261, zqv261], [], [], [], [], []))], zqw369)
def zpA112 : zAnn := []

/-- PushedIn$Text.readBoth ((1, 4),) -/
def zpC113 : zC := (111, (37, 1383), ([(0, 0, 0, 0)], ([zqv170, zqv210, zqv154, zqv261, zqv261], [], [zqa61, zqa19, zqa0], [], [], [])), [([], ([zqv170, zqv210, zqv154, zqv261, zqv261], [], [], [], [], []))], zqw369)
def zpA113 : zAnn := [(7, ([(0, 2, 0, 0)], ([zqv170, zqv210, zqv154, zqv261, zqv261, zqv233], [], [zqa61, zqa19, zqa38], [], [], [])), [(2, 0, 0), (0, 5, 60), (2, 0, 0)])]

/-- PushedIn$Text.readEither ((1, 4),) -/
def zpC114 : zC := (113, (38, 1405), ([(0, 0, 0, 0)], ([zqv170, zqv210, zqv154, zqv261, zqv261], [], [zqa61, zqa19, zqa0], [], [], [])), [([], ([zqv170, zqv210, zqv154, zqv261, zqv261], [], [], [], [], []))], zqw369)
def zpA114 : zAnn := [(7, ([(0, 2, 0, 0)], ([zqv170, zqv210, zqv154, zqv261, zqv261, zqv233], [], [zqa61, zqa19, zqa38], [], [], [])), [(2, 0, 0), (0, 5, 60), (2, 0, 0)])]

/-- PushedIn$Text.readOperand ((1, 3),) -/
def zpC115 : zC := (115, (39, 1427), ([(0, 0, 0, 0)], ([zqv170, zqv210, zqv154, zqv261, zqv261], [], [zqa61, zqa15, zqa0, zqa0], [], [], [])), [([], ([zqv170, zqv210, zqv154, zqv261, zqv261], [], [], [], [], []))], zqw369)
def zpA115 : zAnn := []

/-- PushedIn$Text.readProduct ((1, 3),) -/
def zpC116 : zC := (116, (40, 1450), ([(0, 0, 0, 0)], ([zqv170, zqv210, zqv154, zqv261, zqv261], [], [zqa61, zqa15, zqa0, zqa0], [], [], [])), [([], ([zqv170, zqv210, zqv154, zqv261, zqv261], [], [], [], [], []))], zqw369)
def zpA116 : zAnn := [(15, ([(0, 2, 0, 0), (0, 3, 0, 0)], ([zqv170, zqv210, zqv154, zqv261, zqv261, zqv152, zqv233], [], [zqa61, zqa15, zqa38, zqa39], [], [], [])), [(2, 0, 0), (0, 6, 60), (2, 0, 0)])]

/-- PushedIn$Text.readSum ((1, 3),) -/
def zpC117 : zC := (117, (41, 1473), ([(0, 0, 0, 0)], ([zqv170, zqv210, zqv154, zqv261, zqv261], [], [zqa61, zqa15, zqa0, zqa0], [], [], [])), [([], ([zqv170, zqv210, zqv154, zqv261, zqv261], [], [], [], [], []))], zqw369)
def zpA117 : zAnn := [(15, ([(0, 2, 0, 0), (0, 3, 0, 0)], ([zqv170, zqv210, zqv154, zqv261, zqv261, zqv152, zqv233], [], [zqa61, zqa15, zqa38, zqa39], [], [], [])), [(2, 0, 0), (0, 6, 60), (2, 0, 0)])]

/-- PushedIn$Text.readCompared ((1, 3),) -/
def zpC118 : zC := (112, (42, 1496), ([(0, 0, 0, 0)], ([zqv170, zqv210, zqv154, zqv261, zqv261], [], [zqa61, zqa15, zqa0], [], [], [])), [([], ([zqv170, zqv210, zqv154, zqv261, zqv261], [], [], [], [], []))], zqw369)
def zpA118 : zAnn := []

/-- PushedIn$Text.readBoth ((1, 3),) -/
def zpC119 : zC := (111, (43, 1518), ([(0, 0, 0, 0)], ([zqv170, zqv210, zqv154, zqv261, zqv261], [], [zqa61, zqa15, zqa0], [], [], [])), [([], ([zqv170, zqv210, zqv154, zqv261, zqv261], [], [], [], [], []))], zqw369)
def zpA119 : zAnn := [(7, ([(0, 2, 0, 0)], ([zqv170, zqv210, zqv154, zqv261, zqv261, zqv233], [], [zqa61, zqa15, zqa38], [], [], [])), [(2, 0, 0), (0, 5, 60), (2, 0, 0)])]

/-- PushedIn$Text.readEither ((1, 3),) -/
def zpC120 : zC := (113, (44, 1540), ([(0, 0, 0, 0)], ([zqv170, zqv210, zqv154, zqv261, zqv261], [], [zqa61, zqa15, zqa0], [], [], [])), [([], ([zqv170, zqv210, zqv154, zqv261, zqv261], [], [], [], [], []))], zqw369)
def zpA120 : zAnn := [(7, ([(0, 2, 0, 0)], ([zqv170, zqv210, zqv154, zqv261, zqv261, zqv233], [], [zqa61, zqa15, zqa38], [], [], [])), [(2, 0, 0), (0, 5, 60), (2, 0, 0)])]

/-- PushedIn$Text.readOperand ((1, 2),) -/
def zpC121 : zC := (115, (45, 1562), ([(0, 0, 0, 0)], ([zqv170, zqv210, zqv154, zqv261, zqv261], [], [zqa61, zqa13, zqa0, zqa0], [], [], [])), [([], ([zqv170, zqv210, zqv154, zqv261, zqv261], [], [], [], [], []))], zqw369)
def zpA121 : zAnn := []

/-- PushedIn$Text.readProduct ((1, 2),) -/
def zpC122 : zC := (116, (46, 1585), ([(0, 0, 0, 0)], ([zqv170, zqv210, zqv154, zqv261, zqv261], [], [zqa61, zqa13, zqa0, zqa0], [], [], [])), [([], ([zqv170, zqv210, zqv154, zqv261, zqv261], [], [], [], [], []))], zqw369)
def zpA122 : zAnn := [(15, ([(0, 2, 0, 0), (0, 3, 0, 0)], ([zqv170, zqv210, zqv154, zqv261, zqv261, zqv152, zqv233], [], [zqa61, zqa13, zqa38, zqa39], [], [], [])), [(2, 0, 0), (0, 6, 60), (2, 0, 0)])]

/-- PushedIn$Text.readSum ((1, 2),) -/
def zpC123 : zC := (117, (47, 1608), ([(0, 0, 0, 0)], ([zqv170, zqv210, zqv154, zqv261, zqv261], [], [zqa61, zqa13, zqa0, zqa0], [], [], [])), [([], ([zqv170, zqv210, zqv154, zqv261, zqv261], [], [], [], [], []))], zqw369)
def zpA123 : zAnn := [(15, ([(0, 2, 0, 0), (0, 3, 0, 0)], ([zqv170, zqv210, zqv154, zqv261, zqv261, zqv152, zqv233], [], [zqa61, zqa13, zqa38, zqa39], [], [], [])), [(2, 0, 0), (0, 6, 60), (2, 0, 0)])]

/-- PushedIn$Text.readCompared ((1, 2),) -/
def zpC124 : zC := (112, (48, 1631), ([(0, 0, 0, 0)], ([zqv170, zqv210, zqv154, zqv261, zqv261], [], [zqa61, zqa13, zqa0], [], [], [])), [([], ([zqv170, zqv210, zqv154, zqv261, zqv261], [], [], [], [], []))], zqw369)
def zpA124 : zAnn := []

/-- PushedIn$Text.readBoth ((1, 2),) -/
def zpC125 : zC := (111, (49, 1653), ([(0, 0, 0, 0)], ([zqv170, zqv210, zqv154, zqv261, zqv261], [], [zqa61, zqa13, zqa0], [], [], [])), [([], ([zqv170, zqv210, zqv154, zqv261, zqv261], [], [], [], [], []))], zqw369)
def zpA125 : zAnn := [(7, ([(0, 2, 0, 0)], ([zqv170, zqv210, zqv154, zqv261, zqv261, zqv233], [], [zqa61, zqa13, zqa38], [], [], [])), [(2, 0, 0), (0, 5, 60), (2, 0, 0)])]

/-- PushedIn$Text.readEither ((1, 2),) -/
def zpC126 : zC := (113, (50, 1675), ([(0, 0, 0, 0)], ([zqv170, zqv210, zqv154, zqv261, zqv261], [], [zqa61, zqa13, zqa0], [], [], [])), [([], ([zqv170, zqv210, zqv154, zqv261, zqv261], [], [], [], [], []))], zqw369)
def zpA126 : zAnn := [(7, ([(0, 2, 0, 0)], ([zqv170, zqv210, zqv154, zqv261, zqv261, zqv233], [], [zqa61, zqa13, zqa38], [], [], [])), [(2, 0, 0), (0, 5, 60), (2, 0, 0)])]

/-- PushedIn$Text.readOperand ((1, 1),) -/
def zpC127 : zC := (115, (51, 1697), ([(0, 0, 0, 0)], ([zqv170, zqv210, zqv154, zqv261, zqv261], [], [zqa61, zqa9, zqa0, zqa0], [], [], [])), [([], ([zqv170, zqv210, zqv154, zqv261, zqv261], [], [], [], [], []))], zqw369)
def zpA127 : zAnn := []

/-- PushedIn$Text.readProduct ((1, 1),) -/
def zpC128 : zC := (116, (52, 1720), ([(0, 0, 0, 0)], ([zqv170, zqv210, zqv154, zqv261, zqv261], [], [zqa61, zqa9, zqa0, zqa0], [], [], [])), [([], ([zqv170, zqv210, zqv154, zqv261, zqv261], [], [], [], [], []))], zqw369)
def zpA128 : zAnn := [(15, ([(0, 2, 0, 0), (0, 3, 0, 0)], ([zqv170, zqv210, zqv154, zqv261, zqv261, zqv152, zqv233], [], [zqa61, zqa9, zqa38, zqa39], [], [], [])), [(2, 0, 0), (0, 6, 60), (2, 0, 0)])]

/-- PushedIn$Text.readSum ((1, 1),) -/
def zpC129 : zC := (117, (53, 1743), ([(0, 0, 0, 0)], ([zqv170, zqv210, zqv154, zqv261, zqv261], [], [zqa61, zqa9, zqa0, zqa0], [], [], [])), [([], ([zqv170, zqv210, zqv154, zqv261, zqv261], [], [], [], [], []))], zqw369)
def zpA129 : zAnn := [(15, ([(0, 2, 0, 0), (0, 3, 0, 0)], ([zqv170, zqv210, zqv154, zqv261, zqv261, zqv152, zqv233], [], [zqa61, zqa9, zqa38, zqa39], [], [], [])), [(2, 0, 0), (0, 6, 60), (2, 0, 0)])]

/-- PushedIn$Text.readCompared ((1, 1),) -/
def zpC130 : zC := (112, (54, 1766), ([(0, 0, 0, 0)], ([zqv170, zqv210, zqv154, zqv261, zqv261], [], [zqa61, zqa9, zqa0], [], [], [])), [([], ([zqv170, zqv210, zqv154, zqv261, zqv261], [], [], [], [], []))], zqw369)
def zpA130 : zAnn := []

/-- PushedIn$Text.readBoth ((1, 1),) -/
def zpC131 : zC := (111, (55, 1788), ([(0, 0, 0, 0)], ([zqv170, zqv210, zqv154, zqv261, zqv261], [], [zqa61, zqa9, zqa0], [], [], [])), [([], ([zqv170, zqv210, zqv154, zqv261, zqv261], [], [], [], [], []))], zqw369)
def zpA131 : zAnn := [(7, ([(0, 2, 0, 0)], ([zqv170, zqv210, zqv154, zqv261, zqv261, zqv233], [], [zqa61, zqa9, zqa38], [], [], [])), [(2, 0, 0), (0, 5, 60), (2, 0, 0)])]

/-- PushedIn$Text.readEither ((1, 1),) -/
def zpC132 : zC := (113, (56, 1810), ([(0, 0, 0, 0)], ([zqv170, zqv210, zqv154, zqv261, zqv261], [], [zqa61, zqa9, zqa0], [], [], [])), [([], ([zqv170, zqv210, zqv154, zqv261, zqv261], [], [], [], [], []))], zqw369)
def zpA132 : zAnn := [(7, ([(0, 2, 0, 0)], ([zqv170, zqv210, zqv154, zqv261, zqv261, zqv233], [], [zqa61, zqa9, zqa38], [], [], [])), [(2, 0, 0), (0, 5, 60), (2, 0, 0)])]

/-- PushedIn$Text.readOperand ((1, 0),) -/
def zpC133 : zC := (115, (57, 1832), ([(0, 0, 0, 0)], ([zqv170, zqv210, zqv154, zqv261, zqv261], [], [zqa61, zqa8, zqa0, zqa0], [], [], [])), [([], ([zqv170, zqv210, zqv154, zqv261, zqv261], [], [], [], [], []))], zqw369)
def zpA133 : zAnn := []

/-- PushedIn$Text.readProduct ((1, 0),) -/
def zpC134 : zC := (116, (58, 1855), ([(0, 0, 0, 0)], ([zqv170, zqv210, zqv154, zqv261, zqv261], [], [zqa61, zqa8, zqa0, zqa0], [], [], [])), [([], ([zqv170, zqv210, zqv154, zqv261, zqv261], [], [], [], [], []))], zqw369)
def zpA134 : zAnn := [(15, ([(0, 2, 0, 0), (0, 3, 0, 0)], ([zqv170, zqv210, zqv154, zqv261, zqv261, zqv152, zqv233], [], [zqa61, zqa8, zqa38, zqa39], [], [], [])), [(2, 0, 0), (0, 6, 60), (2, 0, 0)])]

/-- PushedIn$Text.readSum ((1, 0),) -/
def zpC135 : zC := (117, (59, 1878), ([(0, 0, 0, 0)], ([zqv170, zqv210, zqv154, zqv261, zqv261], [], [zqa61, zqa8, zqa0, zqa0], [], [], [])), [([], ([zqv170, zqv210, zqv154, zqv261, zqv261], [], [], [], [], []))], zqw369)
def zpA135 : zAnn := [(15, ([(0, 2, 0, 0), (0, 3, 0, 0)], ([zqv170, zqv210, zqv154, zqv261, zqv261, zqv152, zqv233], [], [zqa61, zqa8, zqa38, zqa39], [], [], [])), [(2, 0, 0), (0, 6, 60), (2, 0, 0)])]

/-- PushedIn$Text.readCompared ((1, 0),) -/
def zpC136 : zC := (112, (60, 1901), ([(0, 0, 0, 0)], ([zqv170, zqv210, zqv154, zqv261, zqv261], [], [zqa61, zqa8, zqa0], [], [], [])), [([], ([zqv170, zqv210, zqv154, zqv261, zqv261], [], [], [], [], []))], zqw369)
def zpA136 : zAnn := []

/-- PushedIn$Text.readBoth ((1, 0),) -/
def zpC137 : zC := (111, (61, 1923), ([(0, 0, 0, 0)], ([zqv170, zqv210, zqv154, zqv261, zqv261], [], [zqa61, zqa8, zqa0], [], [], [])), [([], ([zqv170, zqv210, zqv154, zqv261, zqv261], [], [], [], [], []))], zqw369)
def zpA137 : zAnn := [(7, ([(0, 2, 0, 0)], ([zqv170, zqv210, zqv154, zqv261, zqv261, zqv233], [], [zqa61, zqa8, zqa38], [], [], [])), [(2, 0, 0), (0, 5, 60), (2, 0, 0)])]

/-- PushedIn$Text.readEither ((1, 0),) -/
def zpC138 : zC := (113, (62, 1945), ([(0, 0, 0, 0)], ([zqv170, zqv210, zqv154, zqv261, zqv261], [], [zqa61, zqa8, zqa0], [], [], [])), [([], ([zqv170, zqv210, zqv154, zqv261, zqv261], [], [], [], [], []))], zqw369)
def zpA138 : zAnn := [(7, ([(0, 2, 0, 0)], ([zqv170, zqv210, zqv154, zqv261, zqv261, zqv233], [], [zqa61, zqa8, zqa38], [], [], [])), [(2, 0, 0), (0, 5, 60), (2, 0, 0)])]

/-- PushedIn$Text.readLine () -/
def zpC139 : zC := (114, (63, 1967), ([(0, 0, 0, 0)], ([[(0, 0)], [(0, 40)], [((-1), (-1))], [(10, 10)], [(10, 11)]], [], [(3, 4, 0, 0, 0), (0, 0, 0, 0, 0)], [], [], [])), [([], ([[(0, 0)], [(0, 40)], [((-1), (-1))], [(10, 10)], [(10, 11)]], [], [], [], [], []))], [(2, 2, 1, 1), (2, 2, 1, 3), (10, 11, 1, 4), (31, 32, 0, 0), (33, 34, 0, 0)])

/-- PushedIn$Text.read () -/
def zpC140 : zC := (110, (64, 1988), ([(0, 0, 0, 0)], ([zqv170, zqv210, zqv148, zqv260, zqv261], [], [zqa61, zqa0], [], [], [])), [([(1, 0, 0, 0)], ([zqv170, zqv210, zqv148, zqv260, zqv261, zqv233], [], [], [zqa38], [], [])), ([], ([zqv170, zqv210, zqv148, zqv260, zqv261], [], [], [zqa1], [], []))], zqw369)
def zpA140 : zAnn := [(18, ([(0, 1, 0, 0)], ([zqv170, zqv210, zqv148, zqv260, zqv261, zqv233], [], [zqa61, zqa38], [], [], [])), [(2, 0, 0), (0, 5, 60), (2, 0, 0)])]

/-- PushedIn$Rules.readText () -/
def zpC141 : zC := (85, (65, 2009), ([], ([zqv170, zqv210, zqv148, zqv260], [], [zqa56, zqa0, zqa0], [], [], [])), [([(1, 0, 0, 0)], ([zqv170, zqv210, zqv148, zqv260, zqv233], [], [], [zqa37], [], [])), ([], ([zqv170, zqv210, zqv148, zqv260], [], [], [zqa1], [], []))], [(2, 2, 1, 1), (2, 2, 1, 3), (6, 6, 1, 5), (6, 6, 1, 6), (10, 11, 1, 4), (31, 32, 0, 0), (33, 34, 0, 0)])
def zpA141 : zAnn := []

/-- PushedIn.text () -/
def zpC142 : zC := (35, (66, 2031), ([], ([zqv170, zqv210, zqv148, zqv260], [], [zqa50, zqa0], [], [], [])), [([(1, 0, 0, 0)], ([zqv170, zqv210, zqv148, zqv260, [((-160), (-100))]], [], [], [zqa37], [], [])), ([], ([zqv170, zqv210, zqv148, zqv260], [], [], [zqa9], [], []))], [(2, 2, 1, 1), (2, 2, 1, 2), (2, 2, 1, 3), (6, 6, 1, 5), (6, 6, 1, 6), (10, 11, 1, 4), (31, 32, 0, 0), (33, 34, 0, 0)])
def zpA142 : zAnn := []

/-- PushedIn$Rules.has () -/
def zpC143 : zC := (82, (2, 61), ([(0, 1, 0, 0)], ([zqv170, zqv210, zqv154, zqv261, zqv166], [], [zqa56, zqa37], [], [], [])), [([], ([zqv170, zqv210, zqv154, zqv261, zqv166], [], [], [zqa8], [], [])), ([], ([zqv170, zqv210, zqv154, zqv261, zqv181], [], [], [zqa9], [], []))], zqw384)
def zpA143 : zAnn := []

/-- PushedIn$Text.joined () -/
def zpC144 : zC := (109, (20, 1000), ([(0, 0, 0, 0), (0, 1, 0, 0), (0, 2, 0, 0)], ([zqv170, zqv210, zqv154, zqv261, [((-2147483648), 76), (79, 85), (87, 2147483647)], zqv166, zqv166], [], [zqa37, zqa38, zqa39], [], [], [])), [([(1, 0, 0, 0)], ([zqv170, zqv210, zqv154, zqv261, [((-2147483648), 59), (63, 76), (79, 2147483647)], zqv166, zqv166, zqv166], [], [], [zqa40], [], [])), ([], ([zqv170, zqv210, zqv154, zqv261, [((-2147483648), 41), (44, 76), (79, 2147483647)], zqv166, zqv166], [], [], [zqa8], [], [])), ([], ([zqv170, zqv210, zqv154, zqv261, [(38, 38), (60, 62), (124, 124)], zqv166, zqv166], [], [], [zqa9], [], []))], zqw384)
def zpA144 : zAnn := []

/-- PushedIn$Text.worth () -/
def zpC145 : zC := (118, (21, 1022), ([(0, 0, 0, 0)], ([[(0, 0)], [(0, 40)], [((-1), 60)], [(10, 11)], [(10, 11)]], [], [(3, 4, 0, 0, 0), (3, 0, 26, 0, 0), (0, 0, 0, 0, 0), (0, 0, 0, 0, 0), (0, 0, 0, 0, 0), (0, 0, 0, 0, 0), (0, 0, 0, 0, 0)], [], [], [])), [([(1, 0, 0, 0)], ([[(0, 0)], [(0, 40)], [((-1), 60)], [(10, 11)], [(10, 11)], [((-2147483648), 2147483647)]], [], [], [(1, 5, 0, 0, 0)], [], [])), ([], ([[(0, 0)], [(0, 40)], [((-1), 60)], [(10, 11)], [(10, 11)]], [], [], [(1, 0, 0, 0, 0)], [], []))], [(35, 36, 0, 0)])
def zpA145 : Nat × zTm × zRk := (22, ([(0, 2, 0, 0), (0, 3, 0, 0), (0, 4, 0, 0)], ([[(0, 0)], [(0, 40)], [((-1), 60)], [(10, 11)], [(10, 11)], [(0, 60)], [(0, 60)], [(0, 60)]], [(5, 7, 0)], [(3, 4, 0, 0, 0), (3, 0, 26, 0, 0), (1, 5, 0, 0, 0), (1, 6, 0, 0, 0), (1, 7, 0, 0, 0), (0, 0, 0, 0, 0), (0, 0, 0, 0, 0)], [], [], [])), [(2, 0, 0), (0, 7, 61), (2, 0, 3)])
def zpA145r : zAnn := [(38, ([(0, 2, 0, 0), (0, 3, 0, 0), (0, 4, 0, 0), (0, 5, 0, 0), (0, 6, 0, 0)], ([[(0, 0)], [(0, 40)], [((-1), 60)], [(10, 11)], [(10, 11)], [(0, 60)], [(0, 60)], [(0, 60)], [((-2147483648), 62), (64, 77), (79, 2147483647)], [((-2147483648), 2147483647)]], [(5, 7, 0)], [(3, 4, 0, 0, 0), (3, 0, 26, 0, 0), (1, 5, 0, 0, 0), (1, 6, 0, 0, 0), (1, 7, 0, 0, 0), (1, 8, 0, 0, 0), (1, 9, 0, 0, 0)], [], [], [])), [(2, 0, 0), (0, 7, 61), (2, 0, 2)]), (38, ([(0, 2, 0, 0), (0, 3, 0, 0), (0, 4, 0, 0), (0, 5, 0, 0), (0, 6, 0, 0)], ([[(0, 0)], [(0, 40)], [((-1), 60)], [(10, 11)], [(10, 11)], [(0, 60)], [(0, 60)], [(0, 60)], [(63, 63)], [(0, 2147483647)]], [(5, 7, 0)], [(3, 4, 0, 0, 0), (3, 0, 26, 0, 0), (1, 5, 0, 0, 0), (1, 6, 0, 0, 0), (1, 7, 0, 0, 0), (1, 8, 0, 0, 0), (1, 9, 0, 0, 0)], [], [], [])), [(2, 0, 0), (0, 7, 61), (2, 0, 1)]), (38, ([(0, 2, 0, 0), (0, 3, 0, 0), (0, 4, 0, 0), (0, 5, 0, 0), (0, 6, 0, 0)], ([[(0, 0)], [(0, 40)], [((-1), 60)], [(10, 11)], [(10, 11)], [(0, 60)], [(0, 60)], [(0, 60)], [(78, 78)], [(0, 7)]], [(5, 7, 0)], [(3, 4, 0, 0, 0), (3, 0, 26, 0, 0), (1, 5, 0, 0, 0), (1, 6, 0, 0, 0), (1, 7, 0, 0, 0), (1, 8, 0, 0, 0), (1, 9, 0, 0, 0)], [], [], [])), [(2, 0, 0), (0, 7, 61), (2, 0, 0)]), (7, ([(0, 2, 0, 0), (0, 3, 0, 0), (0, 4, 0, 0)], ([[(0, 0)], [(0, 40)], [((-1), 60)], [(10, 11)], [(10, 11)], [(0, 61)], [(0, 2147483647)], [(0, 61)]], [(5, 7, 0)], [(3, 4, 0, 0, 0), (3, 0, 26, 0, 0), (1, 5, 0, 0, 0), (1, 6, 0, 0, 0), (1, 7, 0, 0, 0), (0, 0, 0, 0, 0), (0, 0, 0, 0, 0)], [], [], [])), [(2, 0, 0), (0, 7, 61), (2, 0, 4)])]

/-- PushedIn$Rules.scoreByText () -/
def zpC146 : zC := (86, (22, 1048), ([(0, 1, 0, 0), (0, 2, 0, 0), (0, 3, 0, 0), (0, 4, 0, 0)], ([zqv170, zqv210, zqv154, zqv261, zqv181, zqv340, zqv166, zqv166], [(5, 1, 49)], [zqa56, zqa37, zqa62, zqa39, zqa40], [], [], [])), [([(1, 0, 0, 0)], ([zqv170, zqv210, zqv154, zqv261, zqv181, zqv340, zqv166, zqv166, zqv166], [], [], [zqa41], [], [])), ([], ([zqv170, zqv210, zqv154, zqv261, zqv181, zqv340, zqv166, zqv166], [], [], [zqa8], [], []))], zqw372)
def zpA146 : zAnn := []

/-- PushedIn$Rules.scoreOf () -/
def zpC147 : zC := (87, (23, 1072), ([(0, 1, 0, 0), (0, 2, 0, 0), (0, 3, 0, 0), (0, 4, 0, 0)], ([zqv170, zqv210, zqv154, zqv261, zqv181, zqv340, zqv166, zqv166], [(5, 1, 49)], [zqa56, zqa37, zqa62, zqa39, zqa40, zqa0], [], [], [])), [([(1, 0, 0, 0)], ([zqv170, zqv210, zqv154, zqv261, zqv181, zqv340, zqv166, zqv166, zqv166], [], [], [zqa41], [], [])), ([], ([zqv170, zqv210, zqv154, zqv261, zqv181, zqv340, zqv166, zqv166], [], [], [zqa8], [], [])), ([], ([zqv170, zqv210, zqv154, zqv261, zqv181, zqv340, zqv166, zqv166], [], [], [zqa9], [], [])), ([], ([zqv170, zqv210, zqv154, zqv261, zqv181, zqv340, zqv166, zqv166], [], [], [zqa13], [], []))], zqw372)
def zpA147 : zAnn := []

/-- PushedIn$Yard.standsAt () -/
def zpC148 : zC := (130, (1, 40), ([(0, 1, 0, 0), (0, 2, 0, 0)], ([zqv170, zqv210, zqv154, zqv261, zqv340, zqv166], [(0, 1, (-1)), (4, 1, 49)], [zqa51, zqa61, zqa38], [], [], [])), [([], ([zqv170, zqv210, zqv154, zqv261, zqv340, zqv166], [], [], [zqa8], [], [])), ([], ([zqv170, zqv210, zqv154, zqv261, zqv340, zqv166], [], [], [zqa9], [], []))], zqw384)
def zpA148 : zAnn := []

/-- PushedIn$Rules.nextAt () -/
def zpC149 : zC := (84, (24, 1097), ([(0, 1, 0, 0), (0, 2, 0, 0), (0, 3, 0, 0), (0, 4, 0, 0)], ([zqv170, zqv210, zqv154, zqv261, zqv181, zqv166, zqv166, zqv166], [], [zqa56, zqa37, zqa38, zqa39, zqa40, zqa0, zqa0, zqa0, zqa0, zqa0], [], [], [])), [([(1, 0, 0, 0)], ([zqv170, zqv210, zqv154, zqv261, zqv181, zqv166, zqv166, zqv166, zqv156], [], [], [zqa41], [], []))], zqw372)
def zpA149 : zAnn := [(10, ([(0, 5, 0, 0), (0, 6, 0, 0), (0, 7, 0, 0)], ([zqv170, zqv210, zqv154, zqv261, zqv181, zqv166, zqv166, zqv166, zqv156, zqv166, zqv210], [(8, 10, 0)], [zqa56, zqa37, zqa38, zqa39, zqa40, zqa41, zqa42, zqa34, zqa0, zqa0], [], [], [])), [(2, 0, 0), (0, 8, 39), (2, 0, 0), (0, 10, 40)])]

/-- PushedIn.next () -/
def zpC150 : zC := (22, (25, 1126), ([(0, 1, 0, 0), (0, 2, 0, 0), (0, 3, 0, 0)], ([zqv170, zqv210, zqv154, zqv261, zqv166, zqv166, zqv166], [], [zqa50, zqa37, zqa38, zqa39, zqa0, zqa0], [], [], [])), [([(1, 0, 0, 0)], ([zqv170, zqv210, zqv154, zqv261, zqv181, zqv166, zqv237, zqv156], [], [], [zqa40], [], [])), ([], ([zqv170, zqv210, zqv154, zqv261, zqv166, zqv166, zqv166], [], [], [zqa1], [], []))], zqw372)
def zpA150 : zAnn := []

/-- PushedIn$Rules.isBreak () -/
def zpC151 : zC := (83, (25, 1126), ([(0, 1, 0, 0), (0, 2, 0, 0)], ([zqv170, zqv210, zqv154, zqv261, zqv181, zqv208], [(5, 1, (-1))], [zqa56, zqa37, zqa38, zqa0], [], [], [])), [([], ([zqv170, zqv210, zqv154, zqv261, zqv181, zqv208], [], [], [zqa8], [], [])), ([], ([zqv170, zqv210, zqv154, zqv261, zqv181, zqv208], [], [], [zqa9], [], []))], zqw372)
def zpA151 : zAnn := []

/-- PushedIn$Rules.breakOn () -/
def zpC152 : zC := (79, (26, 1149), ([(0, 1, 0, 0), (0, 2, 0, 0), (0, 3, 0, 0)], ([zqv170, zqv210, zqv154, zqv261, zqv181, zqv198, zqv188], [], [zqa56, zqa37, zqa38, zqa39, zqa0, zqa0], [], [], [])), [([(1, 0, 0, 0)], ([zqv170, zqv251, zqv154, zqv261, zqv181, zqv198, zqv210, zqv208], [(7, 1, (-1)), (6, 7, 0)], [], [zqa40], [], [])), ([], ([zqv170, zqv210, zqv154, zqv261, zqv181, zqv198, zqv188], [], [], [zqa1], [], []))], zqw372)
def zpA152 : zAnn := [(6, ([(0, 4, 0, 0), (0, 5, 0, 0)], ([zqv170, zqv210, zqv154, zqv261, zqv181, zqv198, zqv188, zqv210, zqv210], [(7, 8, 0)], [zqa56, zqa37, zqa38, zqa39, zqa40, zqa41], [], [], [])), [(2, 0, 0), (0, 7, 40), (2, 0, 0), (0, 8, 40)])]

/-- PushedIn$Rules.breaksOn () -/
def zpC153 : zC := (80, (26, 1149), ([(0, 1, 0, 0), (0, 2, 0, 0)], ([zqv170, zqv210, zqv154, zqv261, zqv181, zqv198], [], [zqa56, zqa37, zqa38, zqa0, zqa0], [], [], [])), [([(1, 0, 0, 0)], ([zqv170, zqv210, zqv154, zqv261, zqv181, zqv198, zqv210], [], [], [zqa39], [], []))], zqw372)
def zpA153 : zAnn := [(5, ([(0, 3, 0, 0), (0, 4, 0, 0)], ([zqv170, zqv210, zqv154, zqv261, zqv181, zqv198, zqv210, zqv210], [(6, 7, 0)], [zqa56, zqa37, zqa38, zqa39, zqa40], [], [], [])), [(2, 0, 0), (0, 6, 40), (2, 0, 0), (0, 7, 40)])]

/-- PushedIn.breaks () -/
def zpC154 : zC := (3, (27, 1174), ([(0, 1, 0, 0), (0, 2, 0, 0), (0, 3, 0, 0)], ([zqv170, zqv210, zqv154, zqv261, zqv166, zqv166, zqv166], [], [zqa50, zqa37, zqa38, zqa39], [], [], [])), [([(1, 0, 0, 0)], ([zqv170, zqv210, zqv154, zqv261, zqv181, zqv198, zqv153, zqv210], [], [], [zqa40], [], [])), ([], ([zqv170, zqv210, zqv154, zqv261, zqv166, zqv166, zqv166], [], [], [zqa1], [], []))], zqw372)
def zpA154 : zAnn := []

/-- PushedIn$Yard.hasComersOn () -/
def zpC155 : zC := (123, (1, 40), ([(0, 1, 0, 0)], ([zqv170, zqv210, zqv154, zqv261, zqv198], [], [zqa51, zqa37, zqa0], [], [], [])), [([], ([zqv170, zqv210, zqv154, zqv261, zqv198], [], [], [zqa8], [], [])), ([], ([zqv170, zqv251, zqv154, zqv261, zqv198], [], [], [zqa9], [], []))], zqw384)
def zpA155 : zAnn := [(2, ([(0, 2, 0, 0)], ([zqv170, zqv210, zqv154, zqv261, zqv198, zqv210], [], [zqa51, zqa37, zqa38], [], [], [])), [(2, 0, 0), (0, 5, 40), (2, 0, 0)])]

/-- PushedIn.kept () -/
def zpC156 : zC := (19, (27, 1173), ([(0, 1, 0, 0)], ([zqv170, zqv210, zqv154, zqv261, zqv166], [], [zqa50, zqa37, zqa0, zqa0], [], [], [])), [([(1, 0, 0, 0)], ([zqv170, zqv210, zqv154, zqv261, zqv181, zqv166], [], [], [zqa38], [], [])), ([], ([zqv170, zqv210, zqv154, zqv261, zqv166], [], [], [zqa1], [], []))], zqw372)
def zpA156 : zAnn := [(17, ([(0, 2, 0, 0), (0, 3, 0, 0)], ([zqv170, zqv210, zqv154, zqv261, zqv181, zqv166, zqv209], [], [zqa50, zqa37, zqa38, zqa39], [], [], [])), [(2, 0, 0), (0, 6, 4), (2, 0, 0)])]

/-- PushedIn$Rules.costOf () -/
def zpC157 : zC := (81, (26, 1149), ([(0, 1, 0, 0)], ([zqv170, zqv210, zqv154, zqv261, zqv181], [], [zqa56, zqa37, zqa0, zqa0], [], [], [])), [([(1, 0, 0, 0)], ([zqv170, zqv210, zqv154, zqv261, zqv181, zqv166], [], [], [zqa38], [], []))], zqw372)
def zpA157 : zAnn := [(4, ([(0, 2, 0, 0), (0, 3, 0, 0)], ([zqv170, zqv210, zqv154, zqv261, zqv181, zqv210, zqv210], [(5, 6, 0)], [zqa56, zqa37, zqa38, zqa39], [], [], [])), [(2, 0, 0), (0, 5, 40), (2, 0, 0), (0, 6, 40)])]

/-- PushedIn.find () -/
def zpC158 : zC := (13, (27, 1172), ([(0, 1, 0, 0)], ([zqv170, zqv210, zqv154, zqv261, zqv166], [], [zqa50, zqa37, zqa0, zqa0, zqa0, zqa0], [], [], [])), [([(1, 0, 0, 0)], ([zqv170, zqv210, zqv154, zqv261, zqv171, zqv166], [], [], [zqa38], [], [])), ([], ([zqv170, zqv210, zqv154, zqv261, zqv157], [], [], [zqa1], [], [])), ([], ([zqv170, zqv210, zqv154, zqv261, zqv171], [], [], [zqa7], [], []))], zqw372)
def zpA158 : zAnn := [(37, ([(0, 2, 0, 0), (0, 3, 0, 0), (0, 4, 0, 0)], ([zqv170, zqv210, zqv154, zqv261, zqv171, zqv181, zqv166, [(1, 20)]], [(5, 7, 0)], [zqa50, zqa37, zqa38, zqa39, zqa40, zqa0], [], [], [])), [(2, 0, 0), (1, 6, (-2147483648)), (2, 0, 0), (0, 7, 20)])]

/-- PushedIn$Rules.wasNext () -/
def zpC159 : zC := (88, (25, 1126), ([(0, 1, 0, 0), (0, 2, 0, 0)], ([zqv170, zqv210, zqv154, zqv261, zqv181, zqv208], [(5, 1, (-1))], [zqa56, zqa37, zqa38, zqa0], [], [], [])), [([], ([zqv170, zqv210, zqv154, zqv261, zqv181, zqv208], [], [], [zqa8], [], [])), ([], ([zqv170, zqv210, zqv154, zqv261, zqv181, zqv208], [], [], [zqa9], [], []))], zqw372)
def zpA159 : zAnn := []

/-- PushedIn.led () -/
def zpC160 : zC := (20, (26, 1149), ([(0, 1, 0, 0)], ([zqv170, zqv210, zqv154, zqv261, zqv166], [], [zqa50, zqa37, zqa0, zqa0], [], [], [])), [([(1, 0, 0, 0)], ([zqv170, zqv251, zqv154, zqv261, zqv208, zqv166], [(4, 1, (-1))], [], [zqa38], [], [])), ([], ([zqv170, zqv210, zqv154, zqv261, zqv166], [], [], [zqa1], [], []))], zqw372)
def zpA160 : zAnn := [(17, ([(0, 2, 0, 0), (0, 3, 0, 0)], ([zqv170, zqv251, zqv154, zqv261, zqv208, zqv166, zqv183], [(4, 1, (-1))], [zqa50, zqa37, zqa38, zqa39], [], [], [])), [(2, 0, 0), (0, 6, 20), (2, 0, 0)])]

/-- PushedIn$Survey.isChanged () -/
def zpC161 : zC := (94, (1, 40), ([(0, 1, 0, 0), (0, 2, 0, 0)], ([zqv170, zqv210, zqv154, zqv261, zqv340, zqv198], [(4, 1, 49)], [zqa57, zqa61, zqa38], [], [], [])), [([], ([zqv170, zqv210, zqv154, zqv261, zqv340, zqv198], [], [], [zqa8], [], [])), ([], ([zqv170, zqv210, zqv154, zqv261, zqv340, zqv198], [], [], [zqa9], [], []))], zqw384)
def zpA161 : zAnn := []

/-- PushedIn$Survey.changedOn () -/
def zpC162 : zC := (90, (2, 62), ([(0, 1, 0, 0)], ([zqv170, zqv210, zqv154, zqv261, zqv198], [], [zqa57, zqa37, zqa0, zqa0], [], [], [])), [([(1, 0, 0, 0)], ([zqv170, zqv210, zqv154, zqv261, zqv198, zqv210], [], [], [zqa38], [], []))], zqw384)
def zpA162 : zAnn := [(4, ([(0, 2, 0, 0), (0, 3, 0, 0)], ([zqv170, zqv210, zqv154, zqv261, zqv198, zqv210, zqv210], [(5, 6, 0)], [zqa57, zqa37, zqa38, zqa39], [], [], [])), [(2, 0, 0), (0, 5, 40), (2, 0, 0), (0, 6, 40)])]

/-- PushedIn$Survey.changedOne () -/
def zpC163 : zC := (91, (2, 62), ([(0, 1, 0, 0), (0, 2, 0, 0)], ([zqv170, zqv210, zqv154, zqv261, zqv198, zqv188], [], [zqa57, zqa37, zqa38, zqa0, zqa0], [], [], [])), [([(1, 0, 0, 0)], ([zqv170, zqv251, zqv154, zqv261, zqv198, zqv210, zqv208], [(6, 1, (-1)), (5, 6, 0)], [], [zqa39], [], [])), ([], ([zqv170, zqv210, zqv154, zqv261, zqv198, zqv188], [], [], [zqa1], [], []))], zqw384)
def zpA163 : zAnn := [(5, ([(0, 3, 0, 0), (0, 4, 0, 0)], ([zqv170, zqv210, zqv154, zqv261, zqv198, zqv188, zqv210, zqv210], [(6, 7, 0)], [zqa57, zqa37, zqa38, zqa39, zqa40], [], [], [])), [(2, 0, 0), (0, 6, 40), (2, 0, 0), (0, 7, 40)])]

/-- PushedIn.changed () -/
def zpC164 : zC := (6, (3, 86), ([(0, 1, 0, 0), (0, 2, 0, 0)], ([zqv170, zqv210, zqv154, zqv261, zqv166, zqv166], [], [zqa50, zqa37, zqa38, zqa0], [], [], [])), [([(1, 0, 0, 0)], ([zqv170, zqv210, zqv154, zqv261, zqv198, zqv153, zqv210], [(5, 6, 0)], [], [zqa39], [], [])), ([], ([zqv170, zqv210, zqv154, zqv261, zqv166, zqv166], [], [], [zqa1], [], [])), ([], ([zqv170, zqv210, zqv154, zqv261, zqv198, zqv153], [], [], [zqa7], [], []))], zqw384)
def zpA164 : zAnn := []

/-- PushedIn$Survey.someWaited () -/
def zpC165 : zC := (98, (2, 62), ([(0, 1, 0, 0), (0, 2, 0, 0), (0, 3, 0, 0)], ([zqv170, zqv210, zqv154, zqv261, zqv166, zqv166, zqv165], [], [zqa57, zqa37, zqa38, zqa39, zqa0, zqa0], [], [], [])), [([], ([zqv170, zqv210, zqv154, zqv261, zqv166, zqv166, zqv165], [], [], [zqa8], [], [])), ([], ([zqv170, zqv251, zqv154, zqv261, zqv166, zqv166, zqv165], [], [], [zqa9], [], []))], zqw384)
def zpA165 : zAnn := [(3, ([(0, 4, 0, 0)], ([zqv170, zqv210, zqv154, zqv261, zqv166, zqv166, zqv165, zqv210], [], [zqa57, zqa37, zqa38, zqa39, zqa40, zqa0], [], [], [])), [(2, 0, 0), (0, 7, 40), (2, 0, 0)])]

/-- PushedIn$Yard.isAway () -/
def zpC166 : zC := (124, (1, 40), ([(0, 1, 0, 0), (0, 2, 0, 0)], ([zqv170, zqv210, zqv154, zqv261, zqv166, zqv165], [], [zqa51, zqa37, zqa38, zqa0], [], [], [])), [([], ([zqv170, zqv210, zqv154, zqv261, zqv166, zqv165], [], [], [zqa8], [], [])), ([], ([zqv170, zqv210, zqv154, zqv261, zqv166, zqv165], [], [], [zqa9], [], []))], zqw384)
def zpA166 : zAnn := [(2, ([(0, 3, 0, 0)], ([zqv170, zqv210, zqv154, zqv261, zqv166, zqv165, zqv174], [], [zqa51, zqa37, zqa38, zqa39], [], [], [])), [(2, 0, 0), (0, 6, 12), (2, 0, 0)])]

/-- PushedIn$Survey.lookAheadOf () -/
def zpC167 : zC := (95, (3, 87), ([(0, 1, 0, 0), (2, 4, 0, 9)], ([zqv170, zqv210, zqv154, zqv261, zqv340, zqv208], [(4, 1, 49), (5, 1, (-1))], [zqa57, zqa61, zqa0], [], [(4, 0, 9, (1, 5, 0, 0, 0))], [])), [([], ([zqv170, zqv210, zqv154, zqv261, zqv340, zqv208], [], [], [], [], []))], zqw373)
def zpA167 : zAnn := [(16, ([(0, 2, 0, 0)], ([zqv170, zqv210, zqv154, zqv261, zqv340, zqv208, zqv166], [(4, 1, 49), (5, 1, (-1))], [zqa57, zqa61, zqa39], [], [(4, 0, 9, (1, 5, 0, 0, 0))], [])), [(2, 0, 0), (0, 6, 2147483647), (2, 0, 0)])]

/-- PushedIn$Survey.lookForIdle () -/
def zpC168 : zC := (96, (4, 109), ([(0, 1, 0, 0), (0, 2, 0, 0)], ([zqv170, zqv210, zqv154, zqv261, zqv198, zqv198], [], [zqa57, zqa37, zqa38, zqa0, zqa0], [], [], [])), [([], ([zqv170, zqv210, zqv154, zqv261, zqv198, zqv198], [], [], [], [], []))], zqw373)
def zpA168 : zAnn := [(13, ([(0, 3, 0, 0)], ([zqv170, zqv210, zqv154, zqv261, zqv198, zqv198, zqv210], [], [zqa57, zqa37, zqa38, zqa39, zqa0], [], [], [])), [(2, 0, 0), (0, 6, 40), (2, 0, 0)])]

/-- PushedIn.idle () -/
def zpC169 : zC := (14, (5, 133), ([(0, 1, 0, 0), (0, 2, 0, 0)], ([zqv170, zqv210, zqv154, zqv261, zqv166, zqv166], [], [zqa50, zqa37, zqa38, zqa0, zqa0], [], [], [])), [([(1, 0, 0, 0)], ([zqv170, zqv210, zqv154, zqv261, zqv166, zqv171, zqv166], [], [], [zqa39], [], [])), ([], ([zqv170, zqv210, zqv154, zqv261, zqv166, zqv166], [], [], [zqa1], [], []))], zqw373)
def zpA169 : zAnn := []

/-- PushedIn$Survey.drawAbout () -/
def zpC170 : zC := (92, (1, 40), ([], ([zqv170, zqv210, zqv154, zqv261], [], [zqa57, zqa0, zqa0, zqa0], [], [], [])), [([], ([zqv170, zqv210, zqv154, zqv261], [], [], [], [], []))], [(7, 7, 1, 4), (38, 38, 0, 0)])
def zpA170 : zAnn := [(7, ([(0, 1, 0, 0)], ([zqv170, zqv210, zqv154, zqv261, zqv153], [], [zqa57, zqa37, zqa0, zqa0], [], [], [])), [(2, 0, 0), (1, 4, (-1)), (2, 0, 0)])]

/-- PushedIn$Survey.gather () -/
def zpC171 : zC := (93, (2, 60), ([(0, 1, 0, 0), (2, 0, 7, 3)], ([zqv170, zqv210, zqv154, zqv261, zqv198, zqv210], [], [zqa57, zqa37, zqa0, zqa0], [], [(0, 7, 3, (1, 5, 0, 0, 0))], [])), [([(2, 0, 7, 3)], ([zqv170, zqv210, zqv154, zqv261, zqv198, zqv210, zqv210], [], [], [], [(0, 7, 3, (1, 6, 0, 0, 0))], []))], [(7, 7, 1, 3), (37, 37, 0, 0), (38, 38, 0, 0)])
def zpA171 : zAnn := [(7, ([(0, 2, 0, 0), (2, 0, 7, 3)], ([zqv170, zqv210, zqv154, zqv261, zqv198, zqv210, zqv210, zqv210], [(7, 6, 0)], [zqa57, zqa37, zqa39, zqa0], [], [(0, 7, 3, (1, 7, 0, 0, 0))], [])), [(2, 0, 0), (0, 6, 40), (2, 0, 0)])]

/-- PushedIn$Survey.waitOf () -/
def zpC172 : zC := (100, (1, 40), ([(0, 1, 0, 0)], ([zqv170, zqv210, zqv154, zqv261, zqv235], [], [zqa57, zqa37, zqa0, zqa0], [], [], [])), [([(1, 0, 0, 0)], ([zqv170, zqv210, zqv154, zqv261, zqv235, zqv166], [], [], [zqa38], [], []))], zqw384)
def zpA172 : zAnn := [(4, ([(0, 2, 0, 0), (0, 3, 0, 0)], ([zqv170, zqv210, zqv154, zqv261, zqv235, zqv166, zqv210], [], [zqa57, zqa37, zqa38, zqa39], [], [], [])), [(2, 0, 0), (0, 6, 40), (2, 0, 0)])]

/-- PushedIn$Survey.seldomOf () -/
def zpC173 : zC := (97, (3, 83), ([(0, 1, 0, 0), (0, 2, 0, 0), (0, 3, 0, 0), (0, 4, 0, 0)], ([zqv170, zqv210, zqv154, zqv261, zqv198, zqv235, zqv166, zqv248], [], [zqa57, zqa37, zqa38, zqa39, zqa40, zqa0, zqa0, zqa0], [], [], [])), [([(1, 0, 0, 0)], ([zqv170, zqv210, zqv154, zqv261, zqv198, zqv235, zqv166, zqv248, zqv184], [], [], [zqa41], [], []))], [(7, 7, 1, 3), (7, 7, 1, 4), (37, 37, 0, 0), (38, 38, 0, 0)])
def zpA173 : zAnn := [(23, ([(0, 5, 0, 0), (0, 6, 0, 0), (0, 7, 0, 0)], ([zqv170, zqv210, zqv154, zqv261, zqv198, zqv235, zqv166, zqv248, zqv166, zqv184, zqv184], [(9, 10, 0)], [zqa57, zqa37, zqa38, zqa39, zqa40, zqa41, zqa42, zqa34], [], [], [])), [(2, 0, 0), (0, 9, 200), (2, 0, 0), (0, 10, 200)])]

/-- PushedIn.seldom () -/
def zpC174 : zC := (30, (4, 110), ([(0, 1, 0, 0), (0, 2, 0, 0), (0, 3, 0, 0)], ([zqv170, zqv210, zqv154, zqv261, zqv166, zqv166, zqv166], [], [zqa50, zqa37, zqa38, zqa39, zqa0, zqa0], [], [], [])), [([(1, 0, 0, 0)], ([zqv170, zqv210, zqv154, zqv261, zqv166, zqv166, zqv248, zqv184], [], [], [zqa40], [], [])), ([], ([zqv170, zqv210, zqv154, zqv261, zqv166, zqv166, zqv166], [], [], [zqa1], [], []))], [(7, 7, 1, 3), (7, 7, 1, 4), (37, 37, 0, 0), (38, 38, 0, 0)])
def zpA174 : zAnn := []

/-- java/lang/Math.abs () -/
def zpC175 : zC := (217, (1, 40), ([(0, 0, 0, 0)], ([zqv170, zqv210, zqv154, zqv261, zqv166], [], [zqa37], [], [], [])), [([(1, 0, 0, 0)], ([zqv170, zqv210, zqv154, zqv261, zqv162, zqv166], [], [], [zqa38], [], [])), ([], ([zqv170, zqv210, zqv154, zqv261, zqv188], [], [], [zqa37], [], []))], zqw384)
def zpA175 : zAnn := []

/-- PushedIn$Survey.alongOf () -/
def zpC176 : zC := (89, (2, 60), ([(0, 1, 0, 0), (0, 2, 0, 0), (0, 3, 0, 0), (0, 4, 0, 0)], ([zqv170, zqv210, zqv154, zqv261, zqv235, zqv235, zqv198, zqv241], [], [zqa57, zqa37, zqa38, zqa39, zqa40, zqa0, zqa0, zqa0, zqa0, zqa0, zqa0], [], [], [])), [([(1, 0, 0, 0)], ([zqv170, zqv210, zqv154, zqv261, zqv235, zqv235, zqv198, zqv241, zqv166], [], [], [zqa41], [], []))], zqw384)
def zpA176 : zAnn := [(21, ([(0, 5, 0, 0), (0, 6, 0, 0), (0, 7, 0, 0)], ([zqv170, zqv251, zqv154, zqv261, zqv235, zqv235, zqv198, zqv241, zqv166, zqv208, zqv208], [(10, 9, 0)], [zqa57, zqa37, zqa38, zqa39, zqa40, zqa41, zqa42, zqa34, zqa0, zqa0, zqa0], [], [], [])), [(2, 0, 0), (0, 9, 40), (2, 0, 0), (0, 10, 39)]), (6, ([(0, 5, 0, 0), (0, 6, 0, 0)], ([zqv170, zqv210, zqv154, zqv261, zqv235, zqv235, zqv198, zqv241, zqv166, zqv210], [], [zqa57, zqa37, zqa38, zqa39, zqa40, zqa41, zqa42, zqa0, zqa0, zqa0, zqa0], [], [], [])), [(2, 0, 0), (0, 9, 40), (2, 0, 1)])]

/-- PushedIn.along () -/
def zpC177 : zC := (1, (3, 90), ([(0, 1, 0, 0), (0, 2, 0, 0), (0, 3, 0, 0)], ([zqv170, zqv210, zqv154, zqv261, zqv166, zqv166, zqv166], [], [zqa50, zqa37, zqa38, zqa39, zqa0, zqa0], [], [], [])), [([(1, 0, 0, 0)], ([zqv170, zqv210, zqv154, zqv261, zqv166, zqv198, zqv241, zqv166], [], [], [zqa40], [], [])), ([], ([zqv170, zqv210, zqv154, zqv261, zqv166, zqv166, zqv166], [], [], [zqa1], [], []))], zqw384)
def zpA177 : zAnn := []

/-- PushedIn$Survey.unsureAt () -/
def zpC178 : zC := (99, (2, 60), ([(0, 1, 0, 0), (0, 2, 0, 0)], ([zqv170, zqv210, zqv154, zqv261, zqv198, zqv198], [], [zqa57, zqa37, zqa38, zqa0, zqa0, zqa0], [], [], [])), [([(1, 0, 0, 0)], ([zqv170, zqv210, zqv154, zqv261, zqv198, zqv198, zqv166], [], [], [zqa39], [], []))], zqw384)
def zpA178 : zAnn := [(5, ([(0, 3, 0, 0), (0, 4, 0, 0)], ([zqv170, zqv210, zqv154, zqv261, zqv198, zqv198, zqv166, zqv210], [], [zqa57, zqa37, zqa38, zqa39, zqa40, zqa0], [], [], [])), [(2, 0, 0), (0, 7, 40), (2, 0, 0)])]

/-- PushedIn.stand () -/
def zpC179 : zC := (32, (3, 85), ([(0, 1, 0, 0), (0, 2, 0, 0)], ([zqv170, zqv210, zqv154, zqv261, zqv166, zqv166], [], [zqa50, zqa37, zqa38, zqa0, zqa0, zqa0, zqa0], [], [], [])), [([(1, 0, 0, 0)], ([zqv170, zqv210, zqv154, zqv261, zqv198, zqv171, zqv166], [], [], [zqa39], [], [])), ([], ([zqv170, zqv210, zqv154, zqv261, zqv166, zqv166], [], [], [zqa1], [], []))], zqw384)
def zpA179 : zAnn := [(34, ([(0, 3, 0, 0), (0, 4, 0, 0), (0, 5, 0, 0)], ([zqv170, zqv210, zqv154, zqv261, zqv198, zqv171, zqv198, zqv166, zqv250], [(6, 8, 0)], [zqa50, zqa37, zqa38, zqa39, zqa40, zqa41, zqa0], [], [], [])), [(2, 0, 0), (0, 7, 2147483647), (2, 0, 0), (0, 8, 4)])]

/-- PushedIn$Changes.back () -/
def zpC180 : zC := (48, (5, 133), ([], ([zqv170, zqv210, zqv154, zqv261], [], [zqa54], [], [], [])), [([], ([zqv170, zqv210, zqv154, zqv261], [], [], [], [], []))], zqw366)
def zpA180 : zAnn := []

/-- PushedIn.undo () -/
def zpC181 : zC := (37, (6, 153), ([], ([zqv170, zqv210, zqv154, zqv261], [], [zqa50], [], [], [])), [([(1, 0, 0, 0)], ([zqv170, zqv210, zqv154, zqv261, zqv210], [], [], [zqa37], [], [])), ([], ([zqv170, zqv210, zqv154, zqv261], [], [], [zqa7], [], []))], zqw366)
def zpA181 : zAnn := []

/-- PushedIn$Changes.again () -/
def zpC182 : zC := (47, (5, 133), ([], ([zqv170, zqv210, zqv154, zqv261], [], [zqa54], [], [], [])), [([], ([zqv170, zqv210, zqv154, zqv261], [], [], [], [], []))], zqw366)
def zpA182 : zAnn := []

/-- PushedIn.redo () -/
def zpC183 : zC := (27, (6, 153), ([], ([zqv170, zqv210, zqv154, zqv261], [], [zqa50], [], [], [])), [([(1, 0, 0, 0)], ([zqv170, zqv210, zqv154, zqv261, [((-40), 40)]], [], [], [zqa37], [], [])), ([], ([zqv170, zqv210, zqv154, zqv261], [], [], [zqa7], [], []))], zqw366)
def zpA183 : zAnn := []

/-- PushedIn$Acts.forget () -/
def zpC184 : zC := (42, (1, 40), ([(2, 0, 8, 1)], ([zqv170, zqv210, zqv154, zqv261, zqv188], [], [zqa58], [], [zqf84], [])), [([], ([zqv170, zqv210, zqv154, zqv261, zqv188], [], [], [], [zqf75], []))], [(8, 8, 1, 1)])
def zpA184 : zAnn := []

/-- PushedIn$Acts.runBody ((1, 1), (3, 2)) -/
def zpC185 : zC := (45, (1, 40), ([(0, 2, 0, 0), (2, 0, 8, 1)], ([zqv170, zqv210, zqv154, zqv261, zqv166, zqv278], [], [zqa58, zqa9, zqa37, zqa13], [], [zqf86], [])), [([(1, 0, 0, 0)], ([zqv170, zqv210, zqv154, zqv261, zqv166, zqv278, zqv166], [], [], [zqa39], [zqf86], []))], zqw384)
def zpA185 : zAnn := []

/-- PushedIn$Acts.runFrom ((1, 0), (2, 0), (4, 1)) -/
def zpC186 : zC := (46, (2, 63), ([(0, 3, 0, 0), (2, 0, 8, 1)], ([zqv170, zqv210, zqv154, zqv261, zqv166, zqv247], [], [zqa58, zqa8, zqa8, zqa37, zqa9, zqa0, zqa0], [], [zqf86], [])), [([(1, 0, 0, 0)], ([zqv170, zqv210, zqv154, zqv261, zqv166, zqv247, zqv166], [], [], [zqa39], [zqf87], []))], zqw374)
def zpA186 : zAnn := []

/-- PushedIn$Acts.above ((1, 1), (2, 0), (4, 1)) -/
def zpC187 : zC := (41, (3, 89), ([(0, 3, 0, 0)], ([zqv170, zqv210, zqv154, zqv261, zqv166], [], [zqa58, zqa9, zqa8, zqa37, zqa9], [], [zqf76], [])), [([(1, 0, 0, 0)], ([zqv170, zqv210, zqv154, zqv261, zqv166, zqv166], [], [], [zqa38], [zqf77], []))], zqw374)
def zpA187 : zAnn := []

/-- PushedIn$Acts.runBody ((1, 11), (3, 2)) -/
def zpC188 : zC := (45, (1, 40), ([(0, 2, 0, 0), (2, 0, 8, 1)], ([zqv170, zqv210, zqv154, zqv261, zqv166, [(2, 2), (4, 13)]], [], [zqa58, zqa12, zqa37, zqa13], [], [zqf86], [])), [([(1, 0, 0, 0)], ([zqv170, zqv210, zqv154, zqv261, zqv166, [(2, 2), (4, 13)], zqv166], [], [], [zqa39], [zqf86], []))], zqw384)
def zpA188 : zAnn := []

/-- PushedIn$Acts.runFrom ((1, 0), (2, 2), (4, 1)) -/
def zpC189 : zC := (46, (2, 63), ([(0, 3, 0, 0), (2, 0, 8, 1)], ([zqv170, zqv210, zqv154, zqv261, zqv166, [(1, 1), (3, 12)]], [], [zqa58, zqa8, zqa13, zqa37, zqa9, zqa0, zqa0], [], [zqf86], [])), [([(1, 0, 0, 0)], ([zqv170, zqv210, zqv154, zqv261, zqv166, [(1, 1), (3, 12)], zqv166], [], [], [zqa39], [zqf87], []))], zqw374)
def zpA189 : zAnn := []

/-- PushedIn$Acts.above ((1, 2), (2, 2), (4, 1)) -/
def zpC190 : zC := (41, (3, 89), ([(0, 3, 0, 0)], ([zqv170, zqv210, zqv154, zqv261, zqv166], [], [zqa58, zqa13, zqa13, zqa37, zqa9], [], [zqf76], [])), [([(1, 0, 0, 0)], ([zqv170, zqv210, zqv154, zqv261, zqv166, zqv166], [], [], [zqa38], [zqf77], []))], zqw374)
def zpA190 : zAnn := []

/-- PushedIn$Acts.runBody ((1, 1), (3, 3)) -/
def zpC191 : zC := (45, (1, 40), ([(0, 2, 0, 0), (2, 0, 8, 1)], ([zqv170, zqv210, zqv154, zqv261, zqv166, zqv295], [], [zqa58, zqa9, zqa37, zqa15], [], [zqf86], [])), [([(1, 0, 0, 0)], ([zqv170, zqv210, zqv154, zqv261, zqv166, zqv295, zqv166], [], [], [zqa39], [zqf86], []))], zqw384)
def zpA191 : zAnn := []

/-- PushedIn$Acts.runFrom ((1, 0), (2, 0), (4, 2)) -/
def zpC192 : zC := (46, (2, 63), ([(0, 3, 0, 0), (2, 0, 8, 1)], ([zqv170, zqv210, zqv154, zqv261, zqv166, zqv277], [], [zqa58, zqa8, zqa8, zqa37, zqa13, zqa0, zqa0], [], [zqf86], [])), [([(1, 0, 0, 0)], ([zqv170, zqv210, zqv154, zqv261, zqv166, zqv277, zqv166], [], [], [zqa39], [zqf87], []))], zqw374)
def zpA192 : zAnn := []

/-- PushedIn$Acts.runBody ((1, 1), (3, 4)) -/
def zpC193 : zC := (45, (1, 40), ([(0, 2, 0, 0), (2, 0, 8, 1)], ([zqv170, zqv210, zqv154, zqv261, zqv166, [(4, 5), (7, 16)]], [], [zqa58, zqa9, zqa37, zqa19], [], [zqf86], [])), [([(1, 0, 0, 0)], ([zqv170, zqv210, zqv154, zqv261, zqv166, [(4, 5), (7, 16)], zqv166], [], [], [zqa39], [zqf86], []))], zqw384)
def zpA193 : zAnn := []

/-- PushedIn$Acts.runFrom ((1, 0), (2, 0), (4, 3)) -/
def zpC194 : zC := (46, (2, 63), ([(0, 3, 0, 0), (2, 0, 8, 1)], ([zqv170, zqv210, zqv154, zqv261, zqv166, zqv295], [], [zqa58, zqa8, zqa8, zqa37, zqa15, zqa0, zqa0], [], [zqf86], [])), [([(1, 0, 0, 0)], ([zqv170, zqv210, zqv154, zqv261, zqv166, zqv295, zqv166], [], [], [zqa39], [zqf87], []))], zqw374)
def zpA194 : zAnn := []

/-- PushedIn$Acts.above ((1, 1), (2, 0), (4, 3)) -/
def zpC195 : zC := (41, (3, 89), ([(0, 3, 0, 0), (2, 0, 8, 1)], ([zqv170, zqv210, zqv154, zqv261, zqv166, zqv295], [], [zqa58, zqa9, zqa8, zqa37, zqa15], [], [zqf86], [])), [([(1, 0, 0, 0)], ([zqv170, zqv210, zqv154, zqv261, zqv166, zqv295, zqv166], [], [], [zqa39], [zqf87], []))], zqw374)
def zpA195 : zAnn := []

/-- PushedIn$Acts.runBody ((1, 20), (3, 3)) -/
def zpC196 : zC := (45, (4, 113), ([(0, 2, 0, 0), (2, 0, 8, 1)], ([zqv170, zqv210, zqv154, zqv261, zqv166, zqv295], [], [zqa58, zqa14, zqa37, zqa15], [], [zqf86], [])), [([(1, 0, 0, 0)], ([zqv170, zqv210, zqv154, zqv261, zqv166, zqv295, zqv166], [], [], [zqa39], [zqf87], []))], zqw374)
def zpA196 : zAnn := []

/-- PushedIn$Acts.runFrom ((1, 1), (2, 0), (4, 2)) -/
def zpC197 : zC := (46, (5, 136), ([(0, 3, 0, 0), (2, 0, 8, 1)], ([zqv170, zqv210, zqv154, zqv261, zqv166, zqv277], [], [zqa58, zqa9, zqa8, zqa37, zqa13, zqa0, zqa0], [], [zqf86], [])), [([(1, 0, 0, 0)], ([zqv170, zqv210, zqv154, zqv261, zqv166, zqv277, zqv166], [], [], [zqa39], [zqf88], []))], zqw374)
def zpA197 : zAnn := []

/-- PushedIn$Acts.runFrom ((1, 2), (2, 0), (4, 2)) -/
def zpC198 : zC := (46, (2, 63), ([(0, 3, 0, 0), (2, 0, 8, 1)], ([zqv170, zqv210, zqv154, zqv261, zqv166, zqv275], [], [zqa58, zqa13, zqa8, zqa37, zqa13, zqa0, zqa0], [], [zqf86], [])), [([(1, 0, 0, 0)], ([zqv170, zqv210, zqv154, zqv261, zqv166, zqv275, zqv166], [], [], [zqa39], [zqf87], []))], zqw374)
def zpA198 : zAnn := []

/-- PushedIn$Acts.runFrom ((1, 3), (2, 0), (4, 2)) -/
def zpC199 : zC := (46, (5, 136), ([(0, 3, 0, 0), (2, 0, 8, 1)], ([zqv170, zqv210, zqv154, zqv261, zqv166, zqv277], [], [zqa58, zqa15, zqa8, zqa37, zqa13, zqa0, zqa0], [], [zqf86], [])), [([(1, 0, 0, 0)], ([zqv170, zqv210, zqv154, zqv261, zqv166, zqv277, zqv166], [], [], [zqa39], [zqf88], []))], zqw374)
def zpA199 : zAnn := []

/-- PushedIn$Acts.runBody ((1, 1), (3, 5)) -/
def zpC200 : zC := (45, (1, 40), ([(0, 2, 0, 0), (2, 0, 8, 1)], ([zqv170, zqv210, zqv154, zqv261, zqv166, zqv333], [], [zqa58, zqa9, zqa37, zqa22], [], [zqf86], [])), [([(1, 0, 0, 0)], ([zqv170, zqv210, zqv154, zqv261, zqv166, zqv333, zqv166], [], [], [zqa39], [zqf86], []))], zqw384)
def zpA200 : zAnn := []

/-- PushedIn$Acts.runFrom ((1, 0), (2, 0), (4, 4)) -/
def zpC201 : zC := (46, (2, 63), ([(0, 3, 0, 0), (2, 0, 8, 1)], ([zqv170, zqv210, zqv154, zqv261, zqv166, zqv313], [], [zqa58, zqa8, zqa8, zqa37, zqa19, zqa0, zqa0], [], [zqf86], [])), [([(1, 0, 0, 0)], ([zqv170, zqv210, zqv154, zqv261, zqv166, zqv313, zqv166], [], [], [zqa39], [zqf87], []))], zqw374)
def zpA201 : zAnn := []

/-- PushedIn$Acts.above ((1, 1), (2, 0), (4, 4)) -/
def zpC202 : zC := (41, (3, 89), ([(0, 3, 0, 0), (2, 0, 8, 1)], ([zqv170, zqv210, zqv154, zqv261, zqv166, zqv313], [], [zqa58, zqa9, zqa8, zqa37, zqa19], [], [zqf86], [])), [([(1, 0, 0, 0)], ([zqv170, zqv210, zqv154, zqv261, zqv166, zqv313, zqv166], [], [], [zqa39], [zqf87], []))], zqw374)
def zpA202 : zAnn := []

/-- PushedIn$Acts.runBody ((1, 20), (3, 4)) -/
def zpC203 : zC := (45, (4, 113), ([(0, 2, 0, 0), (2, 0, 8, 1)], ([zqv170, zqv210, zqv154, zqv261, zqv166, zqv313], [], [zqa58, zqa14, zqa37, zqa19], [], [zqf86], [])), [([(1, 0, 0, 0)], ([zqv170, zqv210, zqv154, zqv261, zqv166, zqv313, zqv166], [], [], [zqa39], [zqf87], []))], zqw374)
def zpA203 : zAnn := []

/-- PushedIn$Acts.runFrom ((1, 1), (2, 0), (4, 3)) -/
def zpC204 : zC := (46, (5, 136), ([(0, 3, 0, 0), (2, 0, 8, 1)], ([zqv170, zqv210, zqv154, zqv261, zqv166, zqv293], [], [zqa58, zqa9, zqa8, zqa37, zqa15, zqa0, zqa0], [], [zqf86], [])), [([(1, 0, 0, 0)], ([zqv170, zqv210, zqv154, zqv261, zqv166, zqv293, zqv166], [], [], [zqa39], [zqf88], []))], zqw374)
def zpA204 : zAnn := []

/-- PushedIn$Acts.above ((1, 4), (2, 0), (4, 3)) -/
def zpC205 : zC := (41, (6, 162), ([(0, 3, 0, 0), (2, 0, 8, 1)], ([zqv170, zqv210, zqv154, zqv261, zqv166, zqv293], [], [zqa58, zqa19, zqa8, zqa37, zqa15], [], [zqf86], [])), [([(1, 0, 0, 0)], ([zqv170, zqv210, zqv154, zqv261, zqv166, zqv293, zqv166], [], [], [zqa39], [zqf88], []))], zqw374)
def zpA205 : zAnn := []

/-- PushedIn$Acts.runBody ((1, 50), (3, 3)) -/
def zpC206 : zC := (45, (7, 186), ([(0, 2, 0, 0), (2, 0, 8, 1)], ([zqv170, zqv210, zqv154, zqv261, zqv166, zqv293], [], [zqa58, zqa23, zqa37, zqa15], [], [zqf86], [])), [([(1, 0, 0, 0)], ([zqv170, zqv210, zqv154, zqv261, zqv166, zqv293, zqv166], [], [], [zqa39], [zqf88], []))], zqw374)
def zpA206 : zAnn := []

/-- PushedIn$Acts.runFrom ((1, 4), (2, 0), (4, 2)) -/
def zpC207 : zC := (46, (8, 209), ([(0, 3, 0, 0), (2, 0, 8, 1)], ([zqv170, zqv210, zqv154, zqv261, zqv166, zqv275], [], [zqa58, zqa19, zqa8, zqa37, zqa13, zqa0, zqa0], [], [zqf86], [])), [([(1, 0, 0, 0)], ([zqv170, zqv210, zqv154, zqv261, zqv166, zqv275, zqv166], [], [], [zqa39], [zqf89], []))], zqw374)
def zpA207 : zAnn := []

/-- PushedIn$Acts.runFrom ((1, 5), (2, 0), (4, 2)) -/
def zpC208 : zC := (46, (2, 63), ([(0, 3, 0, 0), (2, 0, 8, 1)], ([zqv170, zqv210, zqv154, zqv261, zqv166, zqv275], [], [zqa58, zqa22, zqa8, zqa37, zqa13, zqa0, zqa0], [], [zqf86], [])), [([(1, 0, 0, 0)], ([zqv170, zqv210, zqv154, zqv261, zqv166, zqv275, zqv166], [], [], [zqa39], [zqf87], []))], zqw374)
def zpA208 : zAnn := []

/-- PushedIn$Acts.runFrom ((1, 3), (2, 0), (4, 3)) -/
def zpC209 : zC := (46, (5, 136), ([(0, 3, 0, 0), (2, 0, 8, 1)], ([zqv170, zqv210, zqv154, zqv261, zqv166, zqv293], [], [zqa58, zqa15, zqa8, zqa37, zqa15, zqa0, zqa0], [], [zqf86], [])), [([(1, 0, 0, 0)], ([zqv170, zqv210, zqv154, zqv261, zqv166, zqv293, zqv166], [], [], [zqa39], [zqf88], []))], zqw374)
def zpA209 : zAnn := []

/-- PushedIn$Acts.above ((1, 6), (2, 0), (4, 3)) -/
def zpC210 : zC := (41, (6, 162), ([(0, 3, 0, 0), (2, 0, 8, 1)], ([zqv170, zqv210, zqv154, zqv261, zqv166, zqv293], [], [zqa58, zqa25, zqa8, zqa37, zqa15], [], [zqf86], [])), [([(1, 0, 0, 0)], ([zqv170, zqv210, zqv154, zqv261, zqv166, zqv293, zqv166], [], [], [zqa39], [zqf88], []))], zqw374)
def zpA210 : zAnn := []

/-- PushedIn$Acts.runBody ((1, 71), (3, 3)) -/
def zpC211 : zC := (45, (7, 186), ([(0, 2, 0, 0), (2, 0, 8, 1)], ([zqv170, zqv210, zqv154, zqv261, zqv166, zqv293], [], [zqa58, zqa27, zqa37, zqa15], [], [zqf86], [])), [([(1, 0, 0, 0)], ([zqv170, zqv210, zqv154, zqv261, zqv166, zqv293, zqv166], [], [], [zqa39], [zqf88], []))], zqw374)
def zpA211 : zAnn := []

/-- PushedIn$Acts.runFrom ((1, 6), (2, 0), (4, 2)) -/
def zpC212 : zC := (46, (8, 209), ([(0, 3, 0, 0), (2, 0, 8, 1)], ([zqv170, zqv210, zqv154, zqv261, zqv166, zqv275], [], [zqa58, zqa25, zqa8, zqa37, zqa13, zqa0, zqa0], [], [zqf86], [])), [([(1, 0, 0, 0)], ([zqv170, zqv210, zqv154, zqv261, zqv166, zqv275, zqv166], [], [], [zqa39], [zqf89], []))], zqw374)
def zpA212 : zAnn := []

/-- PushedIn$Acts.runFrom ((1, 7), (2, 0), (4, 2)) -/
def zpC213 : zC := (46, (2, 63), ([(0, 3, 0, 0), (2, 0, 8, 1)], ([zqv170, zqv210, zqv154, zqv261, zqv166, zqv275], [], [zqa58, zqa26, zqa8, zqa37, zqa13, zqa0, zqa0], [], [zqf86], [])), [([(1, 0, 0, 0)], ([zqv170, zqv210, zqv154, zqv261, zqv166, zqv275, zqv166], [], [], [zqa39], [zqf87], []))], zqw374)
def zpA213 : zAnn := []

/-- PushedIn$Acts.own ((1, 0), (3, 2)) -/
def zpC214 : zC := (43, (9, 235), ([(0, 2, 0, 0), (2, 0, 8, 1)], ([zqv170, zqv210, zqv154, zqv261, zqv166, zqv275], [], [zqa58, zqa8, zqa37, zqa13], [], [zqf86], [])), [([(1, 0, 0, 0), (2, 0, 8, 1)], ([zqv170, zqv210, zqv154, zqv261, zqv166, zqv275, zqv166, [(3, 17)]], [(7, 5, 3), (5, 7, (-1))], [], [zqa39], [zqf91], []))], zqw374)
def zpA214 : zAnn := []

/-- PushedIn$Acts.runBody ((1, 10), (3, 2)) -/
def zpC215 : zC := (45, (10, 258), ([(0, 2, 0, 0)], ([zqv170, zqv210, zqv154, zqv261, zqv166], [], [zqa58, zqa10, zqa37, zqa13], [], [zqf77], [])), [([(1, 0, 0, 0), (2, 0, 8, 1)], ([zqv170, zqv210, zqv154, zqv261, zqv166, zqv166, zqv296], [], [], [zqa38], [zqf90], []))], zqw374)
def zpA215 : zAnn := []

/-- PushedIn$Acts.runFrom ((1, 1), (2, 1), (4, 1)) -/
def zpC216 : zC := (46, (11, 281), ([(0, 3, 0, 0)], ([zqv170, zqv210, zqv154, zqv261, zqv166], [], [zqa58, zqa9, zqa9, zqa37, zqa9, zqa0, zqa0], [], [zqf76], [])), [([(1, 0, 0, 0), (2, 0, 8, 1)], ([zqv170, zqv210, zqv154, zqv261, zqv166, zqv166, zqv296], [], [], [zqa38], [zqf90], []))], zqw374)
def zpA216 : zAnn := []

/-- PushedIn$Acts.above ((1, 3), (2, 1), (4, 1)) -/
def zpC217 : zC := (41, (12, 307), ([(0, 3, 0, 0)], ([zqv170, zqv210, zqv154, zqv261, zqv166], [], [zqa58, zqa15, zqa9, zqa37, zqa9], [], [zqf76], [])), [([(1, 0, 0, 0), (2, 0, 8, 1)], ([zqv170, zqv210, zqv154, zqv261, zqv166, zqv166, zqv296], [], [], [zqa38], [zqf90], []))], zqw374)
def zpA217 : zAnn := []

/-- PushedIn$Acts.above ((1, 1), (2, 0), (4, 2)) -/
def zpC218 : zC := (41, (3, 89), ([(0, 3, 0, 0), (2, 0, 8, 1)], ([zqv170, zqv210, zqv154, zqv261, zqv166, zqv278], [], [zqa58, zqa9, zqa8, zqa37, zqa13], [], [zqf86], [])), [([(1, 0, 0, 0)], ([zqv170, zqv210, zqv154, zqv261, zqv166, zqv278, zqv166], [], [], [zqa39], [zqf87], []))], zqw374)
def zpA218 : zAnn := []

/-- PushedIn$Acts.runBody ((1, 20), (3, 2)) -/
def zpC219 : zC := (45, (4, 113), ([(0, 2, 0, 0), (2, 0, 8, 1)], ([zqv170, zqv210, zqv154, zqv261, zqv166, zqv278], [], [zqa58, zqa14, zqa37, zqa13], [], [zqf86], [])), [([(1, 0, 0, 0)], ([zqv170, zqv210, zqv154, zqv261, zqv166, zqv278, zqv166], [], [], [zqa39], [zqf87], []))], zqw374)
def zpA219 : zAnn := []

/-- PushedIn$Acts.runFrom ((1, 1), (2, 0), (4, 1)) -/
def zpC220 : zC := (46, (5, 136), ([(0, 3, 0, 0), (2, 0, 8, 1)], ([zqv170, zqv210, zqv154, zqv261, zqv166, zqv247], [], [zqa58, zqa9, zqa8, zqa37, zqa9, zqa0, zqa0], [], [zqf86], [])), [([(1, 0, 0, 0)], ([zqv170, zqv210, zqv154, zqv261, zqv166, zqv247, zqv166], [], [], [zqa39], [zqf88], []))], zqw374)
def zpA220 : zAnn := []

/-- PushedIn$Acts.above ((1, 4), (2, 0), (4, 1)) -/
def zpC221 : zC := (41, (6, 162), ([(0, 3, 0, 0)], ([zqv170, zqv210, zqv154, zqv261, zqv166], [], [zqa58, zqa19, zqa8, zqa37, zqa9], [], [zqf76], [])), [([(1, 0, 0, 0)], ([zqv170, zqv210, zqv154, zqv261, zqv166, zqv166], [], [], [zqa38], [zqf78], []))], zqw374)
def zpA221 : zAnn := []

/-- PushedIn$Acts.runFrom ((1, 2), (2, 0), (4, 3)) -/
def zpC222 : zC := (46, (2, 63), ([(0, 3, 0, 0), (2, 0, 8, 1)], ([zqv170, zqv210, zqv154, zqv261, zqv166, zqv293], [], [zqa58, zqa13, zqa8, zqa37, zqa15, zqa0, zqa0], [], [zqf86], [])), [([(1, 0, 0, 0)], ([zqv170, zqv210, zqv154, zqv261, zqv166, zqv293, zqv166], [], [], [zqa39], [zqf87], []))], zqw374)
def zpA222 : zAnn := []

/-- PushedIn$Acts.runBody ((1, 1), (3, 6)) -/
def zpC223 : zC := (45, (1, 40), ([(0, 2, 0, 0), (2, 0, 8, 1)], ([zqv170, zqv210, zqv154, zqv261, zqv166, [(6, 6), (9, 18)]], [], [zqa58, zqa9, zqa37, zqa25], [], [zqf86], [])), [([(1, 0, 0, 0)], ([zqv170, zqv210, zqv154, zqv261, zqv166, [(6, 6), (9, 18)], zqv166], [], [], [zqa39], [zqf86], []))], zqw384)
def zpA223 : zAnn := []

/-- PushedIn$Acts.runFrom ((1, 0), (2, 0), (4, 5)) -/
def zpC224 : zC := (46, (2, 63), ([(0, 3, 0, 0), (2, 0, 8, 1)], ([zqv170, zqv210, zqv154, zqv261, zqv166, zqv333], [], [zqa58, zqa8, zqa8, zqa37, zqa22, zqa0, zqa0], [], [zqf86], [])), [([(1, 0, 0, 0)], ([zqv170, zqv210, zqv154, zqv261, zqv166, zqv333, zqv166], [], [], [zqa39], [zqf87], []))], zqw374)
def zpA224 : zAnn := []

/-- PushedIn$Acts.above ((1, 1), (2, 0), (4, 5)) -/
def zpC225 : zC := (41, (3, 89), ([(0, 3, 0, 0), (2, 0, 8, 1)], ([zqv170, zqv210, zqv154, zqv261, zqv166, zqv333], [], [zqa58, zqa9, zqa8, zqa37, zqa22], [], [zqf86], [])), [([(1, 0, 0, 0)], ([zqv170, zqv210, zqv154, zqv261, zqv166, zqv333, zqv166], [], [], [zqa39], [zqf87], []))], zqw374)
def zpA225 : zAnn := []

/-- PushedIn$Acts.runBody ((1, 20), (3, 5)) -/
def zpC226 : zC := (45, (4, 113), ([(0, 2, 0, 0), (2, 0, 8, 1)], ([zqv170, zqv210, zqv154, zqv261, zqv166, zqv333], [], [zqa58, zqa14, zqa37, zqa22], [], [zqf86], [])), [([(1, 0, 0, 0)], ([zqv170, zqv210, zqv154, zqv261, zqv166, zqv333, zqv166], [], [], [zqa39], [zqf87], []))], zqw374)
def zpA226 : zAnn := []

/-- PushedIn$Acts.runFrom ((1, 1), (2, 0), (4, 4)) -/
def zpC227 : zC := (46, (5, 136), ([(0, 3, 0, 0), (2, 0, 8, 1)], ([zqv170, zqv210, zqv154, zqv261, zqv166, zqv313], [], [zqa58, zqa9, zqa8, zqa37, zqa19, zqa0, zqa0], [], [zqf86], [])), [([(1, 0, 0, 0)], ([zqv170, zqv210, zqv154, zqv261, zqv166, zqv313, zqv166], [], [], [zqa39], [zqf88], []))], zqw374)
def zpA227 : zAnn := []

/-- PushedIn$Acts.above ((1, 4), (2, 0), (4, 4)) -/
def zpC228 : zC := (41, (6, 162), ([(0, 3, 0, 0), (2, 0, 8, 1)], ([zqv170, zqv210, zqv154, zqv261, zqv166, zqv313], [], [zqa58, zqa19, zqa8, zqa37, zqa19], [], [zqf86], [])), [([(1, 0, 0, 0)], ([zqv170, zqv210, zqv154, zqv261, zqv166, zqv313, zqv166], [], [], [zqa39], [zqf88], []))], zqw374)
def zpA228 : zAnn := []

/-- PushedIn$Acts.runBody ((1, 50), (3, 4)) -/
def zpC229 : zC := (45, (7, 186), ([(0, 2, 0, 0), (2, 0, 8, 1)], ([zqv170, zqv210, zqv154, zqv261, zqv166, zqv313], [], [zqa58, zqa23, zqa37, zqa19], [], [zqf86], [])), [([(1, 0, 0, 0)], ([zqv170, zqv210, zqv154, zqv261, zqv166, zqv313, zqv166], [], [], [zqa39], [zqf88], []))], zqw374)
def zpA229 : zAnn := []

/-- PushedIn$Acts.runFrom ((1, 4), (2, 0), (4, 3)) -/
def zpC230 : zC := (46, (8, 209), ([(0, 3, 0, 0), (2, 0, 8, 1)], ([zqv170, zqv210, zqv154, zqv261, zqv166, zqv293], [], [zqa58, zqa19, zqa8, zqa37, zqa15, zqa0, zqa0], [], [zqf86], [])), [([(1, 0, 0, 0)], ([zqv170, zqv210, zqv154, zqv261, zqv166, zqv293, zqv166], [], [], [zqa39], [zqf89], []))], zqw374)
def zpA230 : zAnn := []

/-- PushedIn$Acts.runFrom ((1, 5), (2, 0), (4, 3)) -/
def zpC231 : zC := (46, (2, 63), ([(0, 3, 0, 0), (2, 0, 8, 1)], ([zqv170, zqv210, zqv154, zqv261, zqv166, zqv293], [], [zqa58, zqa22, zqa8, zqa37, zqa15, zqa0, zqa0], [], [zqf86], [])), [([(1, 0, 0, 0)], ([zqv170, zqv210, zqv154, zqv261, zqv166, zqv293, zqv166], [], [], [zqa39], [zqf87], []))], zqw374)
def zpA231 : zAnn := []

/-- PushedIn$Acts.runFrom ((1, 3), (2, 0), (4, 4)) -/
def zpC232 : zC := (46, (5, 136), ([(0, 3, 0, 0), (2, 0, 8, 1)], ([zqv170, zqv210, zqv154, zqv261, zqv166, zqv313], [], [zqa58, zqa15, zqa8, zqa37, zqa19, zqa0, zqa0], [], [zqf86], [])), [([(1, 0, 0, 0)], ([zqv170, zqv210, zqv154, zqv261, zqv166, zqv313, zqv166], [], [], [zqa39], [zqf88], []))], zqw374)
def zpA232 : zAnn := []

/-- PushedIn$Acts.above ((1, 6), (2, 0), (4, 4)) -/
def zpC233 : zC := (41, (6, 162), ([(0, 3, 0, 0), (2, 0, 8, 1)], ([zqv170, zqv210, zqv154, zqv261, zqv166, zqv313], [], [zqa58, zqa25, zqa8, zqa37, zqa19], [], [zqf86], [])), [([(1, 0, 0, 0)], ([zqv170, zqv210, zqv154, zqv261, zqv166, zqv313, zqv166], [], [], [zqa39], [zqf88], []))], zqw374)
def zpA233 : zAnn := []

/-- PushedIn$Acts.runBody ((1, 71), (3, 4)) -/
def zpC234 : zC := (45, (7, 186), ([(0, 2, 0, 0), (2, 0, 8, 1)], ([zqv170, zqv210, zqv154, zqv261, zqv166, zqv313], [], [zqa58, zqa27, zqa37, zqa19], [], [zqf86], [])), [([(1, 0, 0, 0)], ([zqv170, zqv210, zqv154, zqv261, zqv166, zqv313, zqv166], [], [], [zqa39], [zqf88], []))], zqw374)
def zpA234 : zAnn := []

/-- PushedIn$Acts.runFrom ((1, 6), (2, 0), (4, 3)) -/
def zpC235 : zC := (46, (8, 209), ([(0, 3, 0, 0), (2, 0, 8, 1)], ([zqv170, zqv210, zqv154, zqv261, zqv166, zqv293], [], [zqa58, zqa25, zqa8, zqa37, zqa15, zqa0, zqa0], [], [zqf86], [])), [([(1, 0, 0, 0)], ([zqv170, zqv210, zqv154, zqv261, zqv166, zqv293, zqv166], [], [], [zqa39], [zqf89], []))], zqw374)
def zpA235 : zAnn := []

/-- PushedIn$Acts.runFrom ((1, 7), (2, 0), (4, 3)) -/
def zpC236 : zC := (46, (2, 63), ([(0, 3, 0, 0), (2, 0, 8, 1)], ([zqv170, zqv210, zqv154, zqv261, zqv166, zqv293], [], [zqa58, zqa26, zqa8, zqa37, zqa15, zqa0, zqa0], [], [zqf86], [])), [([(1, 0, 0, 0)], ([zqv170, zqv210, zqv154, zqv261, zqv166, zqv293, zqv166], [], [], [zqa39], [zqf87], []))], zqw374)
def zpA236 : zAnn := []

/-- PushedIn$Acts.own ((1, 0), (3, 3)) -/
def zpC237 : zC := (43, (9, 235), ([(0, 2, 0, 0), (2, 0, 8, 1)], ([zqv170, zqv210, zqv154, zqv261, zqv166, zqv293], [], [zqa58, zqa8, zqa37, zqa15], [], [zqf86], [])), [([(1, 0, 0, 0), (2, 0, 8, 1)], ([zqv170, zqv210, zqv154, zqv261, zqv166, zqv293, zqv166, [(4, 18)]], [(7, 5, 3), (5, 7, (-1))], [], [zqa39], [zqf91], []))], zqw374)
def zpA237 : zAnn := []

/-- PushedIn$Acts.runBody ((1, 10), (3, 3)) -/
def zpC238 : zC := (45, (10, 258), ([(0, 2, 0, 0)], ([zqv170, zqv210, zqv154, zqv261, zqv166], [], [zqa58, zqa10, zqa37, zqa15], [], [zqf78], [])), [([(1, 0, 0, 0), (2, 0, 8, 1)], ([zqv170, zqv210, zqv154, zqv261, zqv166, zqv166, zqv316], [], [], [zqa38], [zqf90], []))], zqw374)
def zpA238 : zAnn := []

/-- PushedIn$Acts.runFrom ((1, 0), (2, 1), (4, 2)) -/
def zpC239 : zC := (46, (11, 281), ([(0, 3, 0, 0)], ([zqv170, zqv210, zqv154, zqv261, zqv166], [], [zqa58, zqa8, zqa9, zqa37, zqa13, zqa0, zqa0], [], [zqf77], [])), [([(1, 0, 0, 0), (2, 0, 8, 1)], ([zqv170, zqv210, zqv154, zqv261, zqv166, zqv166, zqv316], [], [], [zqa38], [zqf90], []))], zqw374)
def zpA239 : zAnn := []

/-- PushedIn$Acts.runFrom ((1, 1), (2, 1), (4, 2)) -/
def zpC240 : zC := (46, (11, 281), ([(0, 3, 0, 0)], ([zqv170, zqv210, zqv154, zqv261, zqv166], [], [zqa58, zqa9, zqa9, zqa37, zqa13, zqa0, zqa0], [], [zqf77], [])), [([(1, 0, 0, 0), (2, 0, 8, 1)], ([zqv170, zqv210, zqv154, zqv261, zqv166, zqv166, zqv316], [], [], [zqa38], [zqf90], []))], zqw374)
def zpA240 : zAnn := []

/-- PushedIn$Acts.runFrom ((1, 2), (2, 1), (4, 2)) -/
def zpC241 : zC := (46, (11, 281), ([(0, 3, 0, 0)], ([zqv170, zqv210, zqv154, zqv261, zqv166], [], [zqa58, zqa13, zqa9, zqa37, zqa13, zqa0, zqa0], [], [zqf77], [])), [([(1, 0, 0, 0), (2, 0, 8, 1)], ([zqv170, zqv210, zqv154, zqv261, zqv166, zqv166, zqv316], [], [], [zqa38], [zqf90], []))], zqw374)
def zpA241 : zAnn := []

/-- PushedIn$Acts.runFrom ((1, 2), (2, 0), (4, 4)) -/
def zpC242 : zC := (46, (2, 63), ([(0, 3, 0, 0), (2, 0, 8, 1)], ([zqv170, zqv210, zqv154, zqv261, zqv166, zqv314], [], [zqa58, zqa13, zqa8, zqa37, zqa19, zqa0, zqa0], [], [zqf86], [])), [([(1, 0, 0, 0)], ([zqv170, zqv210, zqv154, zqv261, zqv166, zqv314, zqv166], [], [], [zqa39], [zqf87], []))], zqw374)
def zpA242 : zAnn := []

/-- PushedIn$Acts.runBody ((1, 1), (3, 7)) -/
def zpC243 : zC := (45, (1, 40), ([(0, 2, 0, 0), (2, 0, 8, 1)], ([zqv170, zqv210, zqv154, zqv261, zqv166, [(7, 7), (11, 13)]], [], [zqa58, zqa9, zqa37, zqa26], [], [zqf86], [])), [([(1, 0, 0, 0)], ([zqv170, zqv210, zqv154, zqv261, zqv166, [(7, 7), (11, 13)], zqv166], [], [], [zqa39], [zqf86], []))], zqw384)
def zpA243 : zAnn := []

/-- PushedIn$Acts.runFrom ((1, 0), (2, 0), (4, 6)) -/
def zpC244 : zC := (46, (2, 63), ([(0, 3, 0, 0), (2, 0, 8, 1)], ([zqv170, zqv210, zqv154, zqv261, zqv166, zqv351], [], [zqa58, zqa8, zqa8, zqa37, zqa25, zqa0, zqa0], [], [zqf86], [])), [([(1, 0, 0, 0)], ([zqv170, zqv210, zqv154, zqv261, zqv166, zqv351, zqv166], [], [], [zqa39], [zqf87], []))], zqw374)
def zpA244 : zAnn := []

/-- PushedIn$Acts.above ((1, 1), (2, 0), (4, 6)) -/
def zpC245 : zC := (41, (3, 89), ([(0, 3, 0, 0), (2, 0, 8, 1)], ([zqv170, zqv210, zqv154, zqv261, zqv166, zqv351], [], [zqa58, zqa9, zqa8, zqa37, zqa25], [], [zqf86], [])), [([(1, 0, 0, 0)], ([zqv170, zqv210, zqv154, zqv261, zqv166, zqv351, zqv166], [], [], [zqa39], [zqf87], []))], zqw374)
def zpA245 : zAnn := []

/-- PushedIn$Acts.runBody ((1, 20), (3, 6)) -/
def zpC246 : zC := (45, (4, 113), ([(0, 2, 0, 0), (2, 0, 8, 1)], ([zqv170, zqv210, zqv154, zqv261, zqv166, zqv351], [], [zqa58, zqa14, zqa37, zqa25], [], [zqf86], [])), [([(1, 0, 0, 0)], ([zqv170, zqv210, zqv154, zqv261, zqv166, zqv351, zqv166], [], [], [zqa39], [zqf87], []))], zqw374)
def zpA246 : zAnn := []

/-- PushedIn$Acts.runFrom ((1, 1), (2, 0), (4, 5)) -/
def zpC247 : zC := (46, (5, 136), ([(0, 3, 0, 0), (2, 0, 8, 1)], ([zqv170, zqv210, zqv154, zqv261, zqv166, zqv334], [], [zqa58, zqa9, zqa8, zqa37, zqa22, zqa0, zqa0], [], [zqf86], [])), [([(1, 0, 0, 0)], ([zqv170, zqv210, zqv154, zqv261, zqv166, zqv334, zqv166], [], [], [zqa39], [zqf88], []))], zqw374)
def zpA247 : zAnn := []

/-- PushedIn$Acts.above ((1, 4), (2, 0), (4, 5)) -/
def zpC248 : zC := (41, (6, 162), ([(0, 3, 0, 0), (2, 0, 8, 1)], ([zqv170, zqv210, zqv154, zqv261, zqv166, zqv334], [], [zqa58, zqa19, zqa8, zqa37, zqa22], [], [zqf86], [])), [([(1, 0, 0, 0)], ([zqv170, zqv210, zqv154, zqv261, zqv166, zqv334, zqv166], [], [], [zqa39], [zqf88], []))], zqw374)
def zpA248 : zAnn := []

/-- PushedIn$Acts.runBody ((1, 50), (3, 5)) -/
def zpC249 : zC := (45, (7, 186), ([(0, 2, 0, 0), (2, 0, 8, 1)], ([zqv170, zqv210, zqv154, zqv261, zqv166, zqv334], [], [zqa58, zqa23, zqa37, zqa22], [], [zqf86], [])), [([(1, 0, 0, 0)], ([zqv170, zqv210, zqv154, zqv261, zqv166, zqv334, zqv166], [], [], [zqa39], [zqf88], []))], zqw374)
def zpA249 : zAnn := []

/-- PushedIn$Acts.runFrom ((1, 4), (2, 0), (4, 4)) -/
def zpC250 : zC := (46, (8, 209), ([(0, 3, 0, 0), (2, 0, 8, 1)], ([zqv170, zqv210, zqv154, zqv261, zqv166, zqv314], [], [zqa58, zqa19, zqa8, zqa37, zqa19, zqa0, zqa0], [], [zqf86], [])), [([(1, 0, 0, 0)], ([zqv170, zqv210, zqv154, zqv261, zqv166, zqv314, zqv166], [], [], [zqa39], [zqf89], []))], zqw374)
def zpA250 : zAnn := []

/-- PushedIn$Acts.runFrom ((1, 5), (2, 0), (4, 4)) -/
def zpC251 : zC := (46, (2, 63), ([(0, 3, 0, 0), (2, 0, 8, 1)], ([zqv170, zqv210, zqv154, zqv261, zqv166, zqv314], [], [zqa58, zqa22, zqa8, zqa37, zqa19, zqa0, zqa0], [], [zqf86], [])), [([(1, 0, 0, 0)], ([zqv170, zqv210, zqv154, zqv261, zqv166, zqv314, zqv166], [], [], [zqa39], [zqf87], []))], zqw374)
def zpA251 : zAnn := []

/-- PushedIn$Acts.runFrom ((1, 3), (2, 0), (4, 5)) -/
def zpC252 : zC := (46, (5, 136), ([(0, 3, 0, 0), (2, 0, 8, 1)], ([zqv170, zqv210, zqv154, zqv261, zqv166, zqv334], [], [zqa58, zqa15, zqa8, zqa37, zqa22, zqa0, zqa0], [], [zqf86], [])), [([(1, 0, 0, 0)], ([zqv170, zqv210, zqv154, zqv261, zqv166, zqv334, zqv166], [], [], [zqa39], [zqf88], []))], zqw374)
def zpA252 : zAnn := []

/-- PushedIn$Acts.above ((1, 6), (2, 0), (4, 5)) -/
def zpC253 : zC := (41, (6, 162), ([(0, 3, 0, 0), (2, 0, 8, 1)], ([zqv170, zqv210, zqv154, zqv261, zqv166, zqv334], [], [zqa58, zqa25, zqa8, zqa37, zqa22], [], [zqf86], [])), [([(1, 0, 0, 0)], ([zqv170, zqv210, zqv154, zqv261, zqv166, zqv334, zqv166], [], [], [zqa39], [zqf88], []))], zqw374)
def zpA253 : zAnn := []

/-- PushedIn$Acts.runBody ((1, 71), (3, 5)) -/
def zpC254 : zC := (45, (7, 186), ([(0, 2, 0, 0), (2, 0, 8, 1)], ([zqv170, zqv210, zqv154, zqv261, zqv166, zqv334], [], [zqa58, zqa27, zqa37, zqa22], [], [zqf86], [])), [([(1, 0, 0, 0)], ([zqv170, zqv210, zqv154, zqv261, zqv166, zqv334, zqv166], [], [], [zqa39], [zqf88], []))], zqw374)
def zpA254 : zAnn := []

/-- PushedIn$Acts.runFrom ((1, 6), (2, 0), (4, 4)) -/
def zpC255 : zC := (46, (8, 209), ([(0, 3, 0, 0), (2, 0, 8, 1)], ([zqv170, zqv210, zqv154, zqv261, zqv166, zqv314], [], [zqa58, zqa25, zqa8, zqa37, zqa19, zqa0, zqa0], [], [zqf86], [])), [([(1, 0, 0, 0)], ([zqv170, zqv210, zqv154, zqv261, zqv166, zqv314, zqv166], [], [], [zqa39], [zqf89], []))], zqw374)
def zpA255 : zAnn := []

/-- PushedIn$Acts.runFrom ((1, 7), (2, 0), (4, 4)) -/
def zpC256 : zC := (46, (2, 63), ([(0, 3, 0, 0), (2, 0, 8, 1)], ([zqv170, zqv210, zqv154, zqv261, zqv166, zqv314], [], [zqa58, zqa26, zqa8, zqa37, zqa19, zqa0, zqa0], [], [zqf86], [])), [([(1, 0, 0, 0)], ([zqv170, zqv210, zqv154, zqv261, zqv166, zqv314, zqv166], [], [], [zqa39], [zqf87], []))], zqw374)
def zpA256 : zAnn := []

/-- PushedIn$Acts.own ((1, 0), (3, 4)) -/
def zpC257 : zC := (43, (9, 235), ([(0, 2, 0, 0), (2, 0, 8, 1)], ([zqv170, zqv210, zqv154, zqv261, zqv166, zqv314], [], [zqa58, zqa8, zqa37, zqa19], [], [zqf86], [])), [([(1, 0, 0, 0), (2, 0, 8, 1)], ([zqv170, zqv210, zqv154, zqv261, zqv166, zqv314, zqv166, [(5, 7), (9, 13)]], [(7, 5, 3), (5, 7, (-1))], [], [zqa39], [zqf91], []))], zqw374)
def zpA257 : zAnn := []

/-- PushedIn$Acts.runBody ((1, 10), (3, 4)) -/
def zpC258 : zC := (45, (10, 258), ([(0, 2, 0, 0)], ([zqv170, zqv210, zqv154, zqv261, zqv166], [], [zqa58, zqa10, zqa37, zqa19], [], [zqf79], [])), [([(1, 0, 0, 0), (2, 0, 8, 1)], ([zqv170, zqv210, zqv154, zqv261, zqv166, zqv166, zqv338], [], [], [zqa38], [zqf90], []))], zqw374)
def zpA258 : zAnn := []

/-- PushedIn$Acts.runFrom ((1, 1), (2, 1), (4, 3)) -/
def zpC259 : zC := (46, (11, 281), ([(0, 3, 0, 0)], ([zqv170, zqv210, zqv154, zqv261, zqv166], [], [zqa58, zqa9, zqa9, zqa37, zqa15, zqa0, zqa0], [], [zqf78], [])), [([(1, 0, 0, 0), (2, 0, 8, 1)], ([zqv170, zqv210, zqv154, zqv261, zqv166, zqv166, zqv338], [], [], [zqa38], [zqf90], []))], zqw374)
def zpA259 : zAnn := []

/-- PushedIn$Acts.above ((1, 3), (2, 1), (4, 3)) -/
def zpC260 : zC := (41, (12, 307), ([(0, 3, 0, 0)], ([zqv170, zqv210, zqv154, zqv261, zqv166], [], [zqa58, zqa15, zqa9, zqa37, zqa15], [], [zqf78], [])), [([(1, 0, 0, 0), (2, 0, 8, 1)], ([zqv170, zqv210, zqv154, zqv261, zqv166, zqv166, zqv338], [], [], [zqa38], [zqf90], []))], zqw374)
def zpA260 : zAnn := []

/-- PushedIn$Acts.runBody ((1, 40), (3, 3)) -/
def zpC261 : zC := (45, (13, 331), ([(0, 2, 0, 0)], ([zqv170, zqv210, zqv154, zqv261, zqv166], [], [zqa58, zqa20, zqa37, zqa15], [], [zqf78], [])), [([(1, 0, 0, 0), (2, 0, 8, 1)], ([zqv170, zqv210, zqv154, zqv261, zqv166, zqv166, zqv338], [], [], [zqa38], [zqf90], []))], zqw374)
def zpA261 : zAnn := []

/-- PushedIn$Acts.runFrom ((1, 3), (2, 1), (4, 2)) -/
def zpC262 : zC := (46, (14, 354), ([(0, 3, 0, 0)], ([zqv170, zqv210, zqv154, zqv261, zqv166], [], [zqa58, zqa15, zqa9, zqa37, zqa13, zqa0, zqa0], [], [zqf77], [])), [([(1, 0, 0, 0), (2, 0, 8, 1)], ([zqv170, zqv210, zqv154, zqv261, zqv166, zqv166, zqv338], [], [], [zqa38], [zqf90], []))], zqw374)
def zpA262 : zAnn := []

/-- PushedIn$Acts.runFrom ((1, 4), (2, 1), (4, 2)) -/
def zpC263 : zC := (46, (11, 281), ([(0, 3, 0, 0)], ([zqv170, zqv210, zqv154, zqv261, zqv166], [], [zqa58, zqa19, zqa9, zqa37, zqa13, zqa0, zqa0], [], [zqf77], [])), [([(1, 0, 0, 0), (2, 0, 8, 1)], ([zqv170, zqv210, zqv154, zqv261, zqv166, zqv166, zqv316], [], [], [zqa38], [zqf90], []))], zqw374)
def zpA263 : zAnn := []

/-- PushedIn$Acts.runFrom ((1, 5), (2, 1), (4, 2)) -/
def zpC264 : zC := (46, (11, 281), ([(0, 3, 0, 0)], ([zqv170, zqv210, zqv154, zqv261, zqv166], [], [zqa58, zqa22, zqa9, zqa37, zqa13, zqa0, zqa0], [], [zqf77], [])), [([(1, 0, 0, 0), (2, 0, 8, 1)], ([zqv170, zqv210, zqv154, zqv261, zqv166, zqv166, zqv316], [], [], [zqa38], [zqf90], []))], zqw374)
def zpA264 : zAnn := []

/-- PushedIn$Acts.runFrom ((1, 2), (2, 0), (4, 5)) -/
def zpC265 : zC := (46, (2, 63), ([(0, 3, 0, 0)], ([zqv170, zqv210, zqv154, zqv261, zqv166], [], [zqa58, zqa13, zqa8, zqa37, zqa22, zqa0, zqa0], [], [zqf80], [])), [([(1, 0, 0, 0)], ([zqv170, zqv210, zqv154, zqv261, zqv166, zqv166], [], [], [zqa38], [zqf81], []))], zqw374)
def zpA265 : zAnn := []

/-- PushedIn$Acts.runBody ((1, 1), (3, 8)) -/
def zpC266 : zC := (45, (1, 40), ([(0, 2, 0, 0)], ([zqv170, zqv210, zqv154, zqv261, zqv166], [], [zqa58, zqa9, zqa37, zqa30], [], [zqf83], [])), [([(1, 0, 0, 0)], ([zqv170, zqv210, zqv154, zqv261, zqv166, zqv166], [], [], [zqa38], [zqf83], []))], zqw384)
def zpA266 : zAnn := []

/-- PushedIn$Acts.runFrom ((1, 0), (2, 0), (4, 7)) -/
def zpC267 : zC := (46, (2, 63), ([(0, 3, 0, 0)], ([zqv170, zqv210, zqv154, zqv261, zqv166], [], [zqa58, zqa8, zqa8, zqa37, zqa26, zqa0, zqa0], [], [zqf82], [])), [([(1, 0, 0, 0)], ([zqv170, zqv210, zqv154, zqv261, zqv166, zqv166], [], [], [zqa38], [zqf83], []))], zqw374)
def zpA267 : zAnn := []

/-- PushedIn$Acts.above ((1, 1), (2, 0), (4, 7)) -/
def zpC268 : zC := (41, (3, 89), ([(0, 3, 0, 0)], ([zqv170, zqv210, zqv154, zqv261, zqv166], [], [zqa58, zqa9, zqa8, zqa37, zqa26], [], [zqf82], [])), [([(1, 0, 0, 0)], ([zqv170, zqv210, zqv154, zqv261, zqv166, zqv166], [], [], [zqa38], [zqf83], []))], zqw374)
def zpA268 : zAnn := []

/-- PushedIn$Acts.runBody ((1, 20), (3, 7)) -/
def zpC269 : zC := (45, (4, 113), ([(0, 2, 0, 0)], ([zqv170, zqv210, zqv154, zqv261, zqv166], [], [zqa58, zqa14, zqa37, zqa26], [], [zqf82], [])), [([(1, 0, 0, 0)], ([zqv170, zqv210, zqv154, zqv261, zqv166, zqv166], [], [], [zqa38], [zqf83], []))], zqw374)
def zpA269 : zAnn := []

/-- PushedIn$Acts.runFrom ((1, 1), (2, 0), (4, 6)) -/
def zpC270 : zC := (46, (5, 136), ([(0, 3, 0, 0)], ([zqv170, zqv210, zqv154, zqv261, zqv166], [], [zqa58, zqa9, zqa8, zqa37, zqa25, zqa0, zqa0], [], [zqf81], [])), [([(1, 0, 0, 0)], ([zqv170, zqv210, zqv154, zqv261, zqv166, zqv166], [], [], [zqa38], [zqf83], []))], zqw374)
def zpA270 : zAnn := []

/-- PushedIn$Acts.above ((1, 4), (2, 0), (4, 6)) -/
def zpC271 : zC := (41, (6, 162), ([(0, 3, 0, 0)], ([zqv170, zqv210, zqv154, zqv261, zqv166], [], [zqa58, zqa19, zqa8, zqa37, zqa25], [], [zqf81], [])), [([(1, 0, 0, 0)], ([zqv170, zqv210, zqv154, zqv261, zqv166, zqv166], [], [], [zqa38], [zqf83], []))], zqw374)
def zpA271 : zAnn := []

/-- PushedIn$Acts.runBody ((1, 50), (3, 6)) -/
def zpC272 : zC := (45, (7, 186), ([(0, 2, 0, 0)], ([zqv170, zqv210, zqv154, zqv261, zqv166], [], [zqa58, zqa23, zqa37, zqa25], [], [zqf81], [])), [([(1, 0, 0, 0)], ([zqv170, zqv210, zqv154, zqv261, zqv166, zqv166], [], [], [zqa38], [zqf83], []))], zqw374)
def zpA272 : zAnn := []

/-- PushedIn$Acts.runFrom ((1, 4), (2, 0), (4, 5)) -/
def zpC273 : zC := (46, (8, 209), ([(0, 3, 0, 0)], ([zqv170, zqv210, zqv154, zqv261, zqv166], [], [zqa58, zqa19, zqa8, zqa37, zqa22, zqa0, zqa0], [], [zqf80], [])), [([(1, 0, 0, 0)], ([zqv170, zqv210, zqv154, zqv261, zqv166, zqv166], [], [], [zqa38], [zqf83], []))], zqw374)
def zpA273 : zAnn := []

/-- PushedIn$Acts.runFrom ((1, 5), (2, 0), (4, 5)) -/
def zpC274 : zC := (46, (2, 63), ([(0, 3, 0, 0)], ([zqv170, zqv210, zqv154, zqv261, zqv166], [], [zqa58, zqa22, zqa8, zqa37, zqa22, zqa0, zqa0], [], [zqf80], [])), [([(1, 0, 0, 0)], ([zqv170, zqv210, zqv154, zqv261, zqv166, zqv166], [], [], [zqa38], [zqf81], []))], zqw374)
def zpA274 : zAnn := []

/-- PushedIn$Acts.runFrom ((1, 3), (2, 0), (4, 6)) -/
def zpC275 : zC := (46, (5, 136), ([(0, 3, 0, 0)], ([zqv170, zqv210, zqv154, zqv261, zqv166], [], [zqa58, zqa15, zqa8, zqa37, zqa25, zqa0, zqa0], [], [zqf81], [])), [([(1, 0, 0, 0)], ([zqv170, zqv210, zqv154, zqv261, zqv166, zqv166], [], [], [zqa38], [zqf83], []))], zqw374)
def zpA275 : zAnn := []

/-- PushedIn$Acts.above ((1, 6), (2, 0), (4, 6)) -/
def zpC276 : zC := (41, (6, 162), ([(0, 3, 0, 0)], ([zqv170, zqv210, zqv154, zqv261, zqv166], [], [zqa58, zqa25, zqa8, zqa37, zqa25], [], [zqf81], [])), [([(1, 0, 0, 0)], ([zqv170, zqv210, zqv154, zqv261, zqv166, zqv166], [], [], [zqa38], [zqf83], []))], zqw374)
def zpA276 : zAnn := []

/-- PushedIn$Acts.runBody ((1, 71), (3, 6)) -/
def zpC277 : zC := (45, (7, 186), ([(0, 2, 0, 0)], ([zqv170, zqv210, zqv154, zqv261, zqv166], [], [zqa58, zqa27, zqa37, zqa25], [], [zqf81], [])), [([(1, 0, 0, 0)], ([zqv170, zqv210, zqv154, zqv261, zqv166, zqv166], [], [], [zqa38], [zqf83], []))], zqw374)
def zpA277 : zAnn := []

/-- PushedIn$Acts.runFrom ((1, 6), (2, 0), (4, 5)) -/
def zpC278 : zC := (46, (8, 209), ([(0, 3, 0, 0)], ([zqv170, zqv210, zqv154, zqv261, zqv166], [], [zqa58, zqa25, zqa8, zqa37, zqa22, zqa0, zqa0], [], [zqf80], [])), [([(1, 0, 0, 0)], ([zqv170, zqv210, zqv154, zqv261, zqv166, zqv166], [], [], [zqa38], [zqf83], []))], zqw374)
def zpA278 : zAnn := []

/-- PushedIn$Acts.runFrom ((1, 7), (2, 0), (4, 5)) -/
def zpC279 : zC := (46, (2, 63), ([(0, 3, 0, 0)], ([zqv170, zqv210, zqv154, zqv261, zqv166], [], [zqa58, zqa26, zqa8, zqa37, zqa22, zqa0, zqa0], [], [zqf80], [])), [([(1, 0, 0, 0)], ([zqv170, zqv210, zqv154, zqv261, zqv166, zqv166], [], [], [zqa38], [zqf81], []))], zqw374)
def zpA279 : zAnn := []

/-- PushedIn$Acts.own ((1, 0), (3, 5)) -/
def zpC280 : zC := (43, (9, 235), ([(0, 2, 0, 0)], ([zqv170, zqv210, zqv154, zqv261, zqv166], [], [zqa58, zqa8, zqa37, zqa22], [], [zqf80], [])), [([(1, 0, 0, 0), (2, 0, 8, 1)], ([zqv170, zqv210, zqv154, zqv261, zqv166, zqv166, zqv354], [], [], [zqa38], [zqf90], []))], zqw374)
def zpA280 : zAnn := []

/-- PushedIn$Acts.runBody ((1, 10), (3, 5)) -/
def zpC281 : zC := (45, (10, 258), ([(0, 2, 0, 0)], ([zqv170, zqv210, zqv154, zqv261, zqv166], [], [zqa58, zqa10, zqa37, zqa22], [], [zqf80], [])), [([(1, 0, 0, 0), (2, 0, 8, 1)], ([zqv170, zqv210, zqv154, zqv261, zqv166, zqv166, zqv354], [], [], [zqa38], [zqf90], []))], zqw374)
def zpA281 : zAnn := []

/-- PushedIn$Acts.runFrom ((1, 1), (2, 1), (4, 4)) -/
def zpC282 : zC := (46, (11, 281), ([(0, 3, 0, 0)], ([zqv170, zqv210, zqv154, zqv261, zqv166], [], [zqa58, zqa9, zqa9, zqa37, zqa19, zqa0, zqa0], [], [zqf79], [])), [([(1, 0, 0, 0), (2, 0, 8, 1)], ([zqv170, zqv210, zqv154, zqv261, zqv166, zqv166, zqv354], [], [], [zqa38], [zqf90], []))], zqw374)
def zpA282 : zAnn := []

/-- PushedIn$Acts.above ((1, 3), (2, 1), (4, 4)) -/
def zpC283 : zC := (41, (12, 307), ([(0, 3, 0, 0)], ([zqv170, zqv210, zqv154, zqv261, zqv166], [], [zqa58, zqa15, zqa9, zqa37, zqa19], [], [zqf79], [])), [([(1, 0, 0, 0), (2, 0, 8, 1)], ([zqv170, zqv210, zqv154, zqv261, zqv166, zqv166, zqv354], [], [], [zqa38], [zqf90], []))], zqw374)
def zpA283 : zAnn := []

/-- PushedIn$Acts.runBody ((1, 40), (3, 4)) -/
def zpC284 : zC := (45, (13, 331), ([(0, 2, 0, 0)], ([zqv170, zqv210, zqv154, zqv261, zqv166], [], [zqa58, zqa20, zqa37, zqa19], [], [zqf79], [])), [([(1, 0, 0, 0), (2, 0, 8, 1)], ([zqv170, zqv210, zqv154, zqv261, zqv166, zqv166, zqv354], [], [], [zqa38], [zqf90], []))], zqw374)
def zpA284 : zAnn := []

/-- PushedIn$Acts.runFrom ((1, 3), (2, 1), (4, 3)) -/
def zpC285 : zC := (46, (14, 354), ([(0, 3, 0, 0)], ([zqv170, zqv210, zqv154, zqv261, zqv166], [], [zqa58, zqa15, zqa9, zqa37, zqa15, zqa0, zqa0], [], [zqf78], [])), [([(1, 0, 0, 0), (2, 0, 8, 1)], ([zqv170, zqv210, zqv154, zqv261, zqv166, zqv166, zqv354], [], [], [zqa38], [zqf90], []))], zqw374)
def zpA285 : zAnn := []

/-- PushedIn$Acts.above ((1, 6), (2, 1), (4, 3)) -/
def zpC286 : zC := (41, (15, 380), ([(0, 3, 0, 0)], ([zqv170, zqv210, zqv154, zqv261, zqv166], [], [zqa58, zqa25, zqa9, zqa37, zqa15], [], [zqf78], [])), [([(1, 0, 0, 0), (2, 0, 8, 1)], ([zqv170, zqv210, zqv154, zqv261, zqv166, zqv166, zqv354], [], [], [zqa38], [zqf90], []))], zqw374)
def zpA286 : zAnn := []

/-- PushedIn$Acts.runBody ((1, 11), (3, 4)) -/
def zpC287 : zC := (45, (1, 40), ([(0, 2, 0, 0), (2, 0, 8, 1)], ([zqv170, zqv210, zqv154, zqv261, zqv247, [(6, 15)]], [], [zqa58, zqa12, zqa37, zqa19], [], [zqf86], [])), [([(1, 0, 0, 0)], ([zqv170, zqv210, zqv154, zqv261, zqv247, [(6, 15)], zqv166], [], [], [zqa39], [zqf86], []))], zqw384)
def zpA287 : zAnn := []

/-- PushedIn$Acts.runFrom ((1, 0), (2, 2), (4, 3)) -/
def zpC288 : zC := (46, (2, 63), ([(0, 3, 0, 0), (2, 0, 8, 1)], ([zqv170, zqv210, zqv154, zqv261, zqv247, zqv331], [], [zqa58, zqa8, zqa13, zqa37, zqa15, zqa0, zqa0], [], [zqf86], [])), [([(1, 0, 0, 0)], ([zqv170, zqv210, zqv154, zqv261, zqv247, zqv331, zqv166], [], [], [zqa39], [zqf87], []))], zqw374)
def zpA288 : zAnn := []

/-- PushedIn$Acts.runFrom ((1, 1), (2, 2), (4, 3)) -/
def zpC289 : zC := (46, (2, 63), ([(2, 0, 8, 1)], ([zqv170, zqv210, zqv154, zqv261, zqv354], [], [zqa58, zqa9, zqa13, zqa13, zqa15, zqa0, zqa0], [], [zqf84], [])), [([(1, 0, 0, 0)], ([zqv170, zqv210, zqv154, zqv261, zqv354, zqv166], [], [], [zqa38], [zqf85], []))], zqw374)
def zpA289 : zAnn := []

/-- PushedIn$Acts.runBody ((1, 11), (3, 5)) -/
def zpC290 : zC := (45, (1, 40), ([(2, 0, 8, 1)], ([zqv170, zqv210, zqv154, zqv261, [(8, 10)]], [], [zqa58, zqa12, zqa13, zqa22], [], [zqf84], [])), [([(1, 0, 0, 0)], ([zqv170, zqv210, zqv154, zqv261, [(8, 10)], zqv166], [], [], [zqa38], [zqf84], []))], zqw384)
def zpA290 : zAnn := []

/-- PushedIn$Acts.runFrom ((1, 0), (2, 2), (4, 4)) -/
def zpC291 : zC := (46, (2, 63), ([(2, 0, 8, 1)], ([zqv170, zqv210, zqv154, zqv261, zqv359], [], [zqa58, zqa8, zqa13, zqa13, zqa19, zqa0, zqa0], [], [zqf84], [])), [([(1, 0, 0, 0)], ([zqv170, zqv210, zqv154, zqv261, zqv359, zqv166], [], [], [zqa38], [zqf85], []))], zqw374)
def zpA291 : zAnn := []

/-- PushedIn$Acts.above ((1, 2), (2, 2), (4, 4)) -/
def zpC292 : zC := (41, (3, 89), ([(2, 0, 8, 1)], ([zqv170, zqv210, zqv154, zqv261, zqv359], [], [zqa58, zqa13, zqa13, zqa13, zqa19], [], [zqf84], [])), [([(1, 0, 0, 0)], ([zqv170, zqv210, zqv154, zqv261, zqv359, zqv166], [], [], [zqa38], [zqf85], []))], zqw374)
def zpA292 : zAnn := []

/-- PushedIn$Acts.runBody ((1, 30), (3, 4)) -/
def zpC293 : zC := (45, (4, 113), ([(2, 0, 8, 1)], ([zqv170, zqv210, zqv154, zqv261, zqv359], [], [zqa58, zqa16, zqa13, zqa19], [], [zqf84], [])), [([(1, 0, 0, 0)], ([zqv170, zqv210, zqv154, zqv261, zqv359, zqv166], [], [], [zqa38], [zqf85], []))], zqw374)
def zpA293 : zAnn := []

/-- PushedIn$Acts.runFrom ((1, 2), (2, 2), (4, 3)) -/
def zpC294 : zC := (46, (5, 136), ([(2, 0, 8, 1)], ([zqv170, zqv210, zqv154, zqv261, zqv354], [], [zqa58, zqa13, zqa13, zqa13, zqa15, zqa0, zqa0], [], [zqf84], [])), [([(1, 0, 0, 0)], ([zqv170, zqv210, zqv154, zqv261, zqv354, zqv166], [], [], [zqa38], [(0, 8, 1, (1, 4, 2, 0, 0))], []))], zqw374)
def zpA294 : zAnn := []

/-- PushedIn$Acts.runFrom ((1, 3), (2, 2), (4, 3)) -/
def zpC295 : zC := (46, (2, 63), ([(2, 0, 8, 1)], ([zqv170, zqv210, zqv154, zqv261, zqv354], [], [zqa58, zqa15, zqa13, zqa13, zqa15, zqa0, zqa0], [], [zqf84], [])), [([(1, 0, 0, 0)], ([zqv170, zqv210, zqv154, zqv261, zqv354, zqv166], [], [], [zqa38], [zqf85], []))], zqw374)
def zpA295 : zAnn := []

/-- PushedIn$Acts.runFrom ((1, 4), (2, 2), (4, 3)) -/
def zpC296 : zC := (46, (2, 63), ([(2, 0, 8, 1)], ([zqv170, zqv210, zqv154, zqv261, zqv354], [], [zqa58, zqa19, zqa13, zqa13, zqa15, zqa0, zqa0], [], [zqf84], [])), [([(1, 0, 0, 0)], ([zqv170, zqv210, zqv154, zqv261, zqv354, zqv166], [], [], [zqa38], [zqf85], []))], zqw374)
def zpA296 : zAnn := []

/-- PushedIn$Acts.runFrom ((1, 5), (2, 2), (4, 3)) -/
def zpC297 : zC := (46, (2, 63), ([(2, 0, 8, 1)], ([zqv170, zqv210, zqv154, zqv261, zqv354], [], [zqa58, zqa22, zqa13, zqa13, zqa15, zqa0, zqa0], [], [zqf84], [])), [([(1, 0, 0, 0)], ([zqv170, zqv210, zqv154, zqv261, zqv354, zqv166], [], [], [zqa38], [zqf85], []))], zqw374)
def zpA297 : zAnn := []

/-- PushedIn$Acts.runFrom ((1, 6), (2, 2), (4, 3)) -/
def zpC298 : zC := (46, (2, 63), ([(2, 0, 8, 1)], ([zqv170, zqv210, zqv154, zqv261, zqv354], [], [zqa58, zqa25, zqa13, zqa13, zqa15, zqa0, zqa0], [], [zqf84], [])), [([(1, 0, 0, 0)], ([zqv170, zqv210, zqv154, zqv261, zqv354, zqv166], [], [], [zqa38], [zqf85], []))], zqw374)
def zpA298 : zAnn := []

/-- PushedIn$Acts.above ((1, 7), (2, 2), (4, 4)) -/
def zpC299 : zC := (41, (3, 89), ([(2, 0, 8, 1)], ([zqv170, zqv210, zqv154, zqv261, zqv359], [], [zqa58, zqa26, zqa13, zqa13, zqa19], [], [zqf84], [])), [([(1, 0, 0, 0)], ([zqv170, zqv210, zqv154, zqv261, zqv359, zqv166], [], [], [zqa38], [zqf85], []))], zqw374)
def zpA299 : zAnn := []

/-- PushedIn$Acts.runBody ((1, 80), (3, 4)) -/
def zpC300 : zC := (45, (10, 258), ([(2, 0, 8, 1)], ([zqv170, zqv210, zqv154, zqv261, zqv359], [], [zqa58, zqa31, zqa13, zqa19], [], [zqf84], [])), [([(1, 0, 0, 0), (2, 0, 8, 1)], ([zqv170, zqv210, zqv154, zqv261, zqv359, zqv166, [(9, 13)]], [(6, 4, 4), (4, 6, (-2))], [], [zqa38], [zqf90], []))], zqw374)
def zpA300 : zAnn := []

/-- PushedIn$Acts.runFrom ((1, 7), (2, 2), (4, 3)) -/
def zpC301 : zC := (46, (11, 281), ([(2, 0, 8, 1)], ([zqv170, zqv210, zqv154, zqv261, zqv354], [], [zqa58, zqa26, zqa13, zqa13, zqa15, zqa0, zqa0], [], [zqf84], [])), [([(1, 0, 0, 0), (2, 0, 8, 1)], ([zqv170, zqv210, zqv154, zqv261, zqv354, zqv166, [(9, 13)]], [(6, 4, 5), (4, 6, (-3))], [], [zqa38], [zqf90], []))], zqw374)
def zpA301 : zAnn := []

/-- PushedIn$Acts.own ((1, 2), (3, 3)) -/
def zpC302 : zC := (43, (12, 307), ([(2, 0, 8, 1)], ([zqv170, zqv210, zqv154, zqv261, zqv354], [], [zqa58, zqa13, zqa13, zqa15], [], [zqf84], [])), [([(1, 0, 0, 0), (2, 0, 8, 1)], ([zqv170, zqv210, zqv154, zqv261, zqv354, zqv166, zqv357], [(6, 4, 5), (4, 6, (-1))], [], [zqa38], [zqf90], []))], zqw374)
def zpA302 : zAnn := []

/-- PushedIn$Acts.runBody ((1, 70), (3, 3)) -/
def zpC303 : zC := (45, (16, 404), ([(0, 2, 0, 0)], ([zqv170, zqv210, zqv154, zqv261, zqv166], [], [zqa58, (1, 0, 70, 0, 0), zqa37, zqa15], [], [zqf78], [])), [([(1, 0, 0, 0), (2, 0, 8, 1)], ([zqv170, zqv210, zqv154, zqv261, zqv166, zqv166, zqv357], [], [], [zqa38], [zqf90], []))], zqw374)
def zpA303 : zAnn := []

/-- PushedIn$Acts.runFrom ((1, 6), (2, 1), (4, 2)) -/
def zpC304 : zC := (46, (17, 427), ([(0, 3, 0, 0)], ([zqv170, zqv210, zqv154, zqv261, zqv166], [], [zqa58, zqa25, zqa9, zqa37, zqa13, zqa0, zqa0], [], [zqf77], [])), [([(1, 0, 0, 0), (2, 0, 8, 1)], ([zqv170, zqv210, zqv154, zqv261, zqv166, zqv166, zqv357], [], [], [zqa38], [zqf90], []))], zqw374)
def zpA304 : zAnn := []

/-- PushedIn$Acts.runFrom ((1, 7), (2, 1), (4, 2)) -/
def zpC305 : zC := (46, (11, 281), ([(0, 3, 0, 0)], ([zqv170, zqv210, zqv154, zqv261, zqv166], [], [zqa58, zqa26, zqa9, zqa37, zqa13, zqa0, zqa0], [], [zqf77], [])), [([(1, 0, 0, 0), (2, 0, 8, 1)], ([zqv170, zqv210, zqv154, zqv261, zqv166, zqv166, zqv316], [], [], [zqa38], [zqf90], []))], zqw374)
def zpA305 : zAnn := []

/-- PushedIn$Acts.own ((1, 1), (3, 2)) -/
def zpC306 : zC := (43, (18, 453), ([(0, 2, 0, 0)], ([zqv170, zqv210, zqv154, zqv261, zqv166], [], [zqa58, zqa9, zqa37, zqa13], [], [zqf77], [])), [([(1, 0, 0, 0), (2, 0, 8, 1)], ([zqv170, zqv210, zqv154, zqv261, zqv166, zqv166, zqv312], [], [], [zqa38], [zqf90], []))], zqw374)
def zpA306 : zAnn := []

/-- PushedIn$Acts.runBody ((1, 11), (3, 3)) -/
def zpC307 : zC := (45, (1, 40), ([(0, 2, 0, 0), (2, 0, 8, 1)], ([zqv170, zqv210, zqv154, zqv261, zqv247, zqv331], [], [zqa58, zqa12, zqa37, zqa15], [], [zqf86], [])), [([(1, 0, 0, 0)], ([zqv170, zqv210, zqv154, zqv261, zqv247, zqv331, zqv166], [], [], [zqa39], [zqf86], []))], zqw384)
def zpA307 : zAnn := []

/-- PushedIn$Acts.runFrom ((1, 0), (2, 2), (4, 2)) -/
def zpC308 : zC := (46, (2, 63), ([(0, 3, 0, 0), (2, 0, 8, 1)], ([zqv170, zqv210, zqv154, zqv261, zqv247, zqv312], [], [zqa58, zqa8, zqa13, zqa37, zqa13, zqa0, zqa0], [], [zqf86], [])), [([(1, 0, 0, 0)], ([zqv170, zqv210, zqv154, zqv261, zqv247, zqv312, zqv166], [], [], [zqa39], [zqf87], []))], zqw374)
def zpA308 : zAnn := []

/-- PushedIn$Acts.runFrom ((1, 1), (2, 2), (4, 2)) -/
def zpC309 : zC := (46, (2, 63), ([(0, 3, 0, 0), (2, 0, 8, 1)], ([zqv170, zqv210, zqv154, zqv261, zqv247, zqv312], [], [zqa58, zqa9, zqa13, zqa37, zqa13, zqa0, zqa0], [], [zqf86], [])), [([(1, 0, 0, 0)], ([zqv170, zqv210, zqv154, zqv261, zqv247, zqv312, zqv166], [], [], [zqa39], [zqf87], []))], zqw374)
def zpA309 : zAnn := []

/-- PushedIn$Acts.above ((1, 2), (2, 2), (4, 3)) -/
def zpC310 : zC := (41, (3, 89), ([(0, 3, 0, 0), (2, 0, 8, 1)], ([zqv170, zqv210, zqv154, zqv261, zqv247, zqv331], [], [zqa58, zqa13, zqa13, zqa37, zqa15], [], [zqf86], [])), [([(1, 0, 0, 0)], ([zqv170, zqv210, zqv154, zqv261, zqv247, zqv331, zqv166], [], [], [zqa39], [zqf87], []))], zqw374)
def zpA310 : zAnn := []

/-- PushedIn$Acts.runBody ((1, 30), (3, 3)) -/
def zpC311 : zC := (45, (4, 113), ([(0, 2, 0, 0), (2, 0, 8, 1)], ([zqv170, zqv210, zqv154, zqv261, zqv247, zqv331], [], [zqa58, zqa16, zqa37, zqa15], [], [zqf86], [])), [([(1, 0, 0, 0)], ([zqv170, zqv210, zqv154, zqv261, zqv247, zqv331, zqv166], [], [], [zqa39], [zqf87], []))], zqw374)
def zpA311 : zAnn := []

/-- PushedIn$Acts.runFrom ((1, 2), (2, 2), (4, 2)) -/
def zpC312 : zC := (46, (5, 136), ([(0, 3, 0, 0), (2, 0, 8, 1)], ([zqv170, zqv210, zqv154, zqv261, zqv247, zqv312], [], [zqa58, zqa13, zqa13, zqa37, zqa13, zqa0, zqa0], [], [zqf86], [])), [([(1, 0, 0, 0)], ([zqv170, zqv210, zqv154, zqv261, zqv247, zqv312, zqv166], [], [], [zqa39], [zqf88], []))], zqw374)
def zpA312 : zAnn := []

/-- PushedIn$Acts.runFrom ((1, 3), (2, 2), (4, 2)) -/
def zpC313 : zC := (46, (2, 63), ([(0, 3, 0, 0), (2, 0, 8, 1)], ([zqv170, zqv210, zqv154, zqv261, zqv247, zqv312], [], [zqa58, zqa15, zqa13, zqa37, zqa13, zqa0, zqa0], [], [zqf86], [])), [([(1, 0, 0, 0)], ([zqv170, zqv210, zqv154, zqv261, zqv247, zqv312, zqv166], [], [], [zqa39], [zqf87], []))], zqw374)
def zpA313 : zAnn := []

/-- PushedIn$Acts.runFrom ((1, 4), (2, 2), (4, 2)) -/
def zpC314 : zC := (46, (2, 63), ([(0, 3, 0, 0), (2, 0, 8, 1)], ([zqv170, zqv210, zqv154, zqv261, zqv247, zqv312], [], [zqa58, zqa19, zqa13, zqa37, zqa13, zqa0, zqa0], [], [zqf86], [])), [([(1, 0, 0, 0)], ([zqv170, zqv210, zqv154, zqv261, zqv247, zqv312, zqv166], [], [], [zqa39], [zqf87], []))], zqw374)
def zpA314 : zAnn := []

/-- PushedIn$Acts.runFrom ((1, 5), (2, 2), (4, 2)) -/
def zpC315 : zC := (46, (2, 63), ([(0, 3, 0, 0), (2, 0, 8, 1)], ([zqv170, zqv210, zqv154, zqv261, zqv247, zqv312], [], [zqa58, zqa22, zqa13, zqa37, zqa13, zqa0, zqa0], [], [zqf86], [])), [([(1, 0, 0, 0)], ([zqv170, zqv210, zqv154, zqv261, zqv247, zqv312, zqv166], [], [], [zqa39], [zqf87], []))], zqw374)
def zpA315 : zAnn := []

/-- PushedIn$Acts.runFrom ((1, 6), (2, 2), (4, 2)) -/
def zpC316 : zC := (46, (2, 63), ([(0, 3, 0, 0), (2, 0, 8, 1)], ([zqv170, zqv210, zqv154, zqv261, zqv247, zqv312], [], [zqa58, zqa25, zqa13, zqa37, zqa13, zqa0, zqa0], [], [zqf86], [])), [([(1, 0, 0, 0)], ([zqv170, zqv210, zqv154, zqv261, zqv247, zqv312, zqv166], [], [], [zqa39], [zqf87], []))], zqw374)
def zpA316 : zAnn := []

/-- PushedIn$Acts.above ((1, 7), (2, 2), (4, 3)) -/
def zpC317 : zC := (41, (3, 89), ([(0, 3, 0, 0), (2, 0, 8, 1)], ([zqv170, zqv210, zqv154, zqv261, zqv247, zqv331], [], [zqa58, zqa26, zqa13, zqa37, zqa15], [], [zqf86], [])), [([(1, 0, 0, 0)], ([zqv170, zqv210, zqv154, zqv261, zqv247, zqv331, zqv166], [], [], [zqa39], [zqf87], []))], zqw374)
def zpA317 : zAnn := []

/-- PushedIn$Acts.runBody ((1, 80), (3, 3)) -/
def zpC318 : zC := (45, (10, 258), ([(0, 2, 0, 0), (2, 0, 8, 1)], ([zqv170, zqv210, zqv154, zqv261, zqv247, zqv331], [], [zqa58, zqa31, zqa37, zqa15], [], [zqf86], [])), [([(1, 0, 0, 0), (2, 0, 8, 1)], ([zqv170, zqv210, zqv154, zqv261, zqv247, zqv331, zqv166, [(7, 18)]], [(7, 5, 4), (5, 7, (-2))], [], [zqa39], [zqf91], []))], zqw374)
def zpA318 : zAnn := []

/-- PushedIn$Acts.runFrom ((1, 7), (2, 2), (4, 2)) -/
def zpC319 : zC := (46, (11, 281), ([(0, 3, 0, 0), (2, 0, 8, 1)], ([zqv170, zqv210, zqv154, zqv261, zqv247, zqv312], [], [zqa58, zqa26, zqa13, zqa37, zqa13, zqa0, zqa0], [], [zqf86], [])), [([(1, 0, 0, 0), (2, 0, 8, 1)], ([zqv170, zqv210, zqv154, zqv261, zqv247, zqv312, zqv166, [(7, 18)]], [(7, 5, 5), (5, 7, (-3))], [], [zqa39], [zqf91], []))], zqw374)
def zpA319 : zAnn := []

/-- PushedIn$Acts.own ((1, 2), (3, 2)) -/
def zpC320 : zC := (43, (12, 307), ([(0, 2, 0, 0), (2, 0, 8, 1)], ([zqv170, zqv210, zqv154, zqv261, zqv247, zqv312], [], [zqa58, zqa13, zqa37, zqa13], [], [zqf86], [])), [([(1, 0, 0, 0), (2, 0, 8, 1)], ([zqv170, zqv210, zqv154, zqv261, zqv247, zqv312, zqv166, zqv332], [(7, 5, 5), (5, 7, (-1))], [], [zqa39], [zqf91], []))], zqw374)
def zpA320 : zAnn := []

/-- PushedIn$Acts.runBody ((1, 2), (3, 2)) -/
def zpC321 : zC := (45, (19, 476), ([(0, 2, 0, 0)], ([zqv170, zqv210, zqv154, zqv261, zqv166], [], [zqa58, zqa13, zqa37, zqa13], [], [zqf77], [])), [([(1, 0, 0, 0), (2, 0, 8, 1)], ([zqv170, zqv210, zqv154, zqv261, zqv166, zqv166, zqv332], [], [], [zqa38], [zqf90], []))], zqw374)
def zpA321 : zAnn := []

/-- PushedIn$Acts.runFrom ((1, 0), (2, 3), (4, 1)) -/
def zpC322 : zC := (46, (20, 499), ([(0, 3, 0, 0)], ([zqv170, zqv210, zqv154, zqv261, zqv166], [], [zqa58, zqa8, zqa15, zqa37, zqa9, zqa0, zqa0], [], [zqf76], [])), [([(1, 0, 0, 0), (2, 0, 8, 1)], ([zqv170, zqv210, zqv154, zqv261, zqv166, zqv166, zqv332], [], [], [zqa38], [zqf90], []))], zqw374)
def zpA322 : zAnn := []

/-- PushedIn$Acts.above ((1, 5), (2, 3), (4, 1)) -/
def zpC323 : zC := (41, (21, 525), ([(0, 3, 0, 0)], ([zqv170, zqv210, zqv154, zqv261, zqv166], [], [zqa58, zqa22, zqa15, zqa37, zqa9], [], [zqf76], [])), [([(1, 0, 0, 0), (2, 0, 8, 1)], ([zqv170, zqv210, zqv154, zqv261, zqv166, zqv166, zqv332], [], [], [zqa38], [zqf90], []))], zqw374)
def zpA323 : zAnn := []

/-- PushedIn$Acts.runFrom ((1, 3), (2, 0), (4, 1)) -/
def zpC324 : zC := (46, (5, 136), ([(0, 3, 0, 0), (2, 0, 8, 1)], ([zqv170, zqv210, zqv154, zqv261, zqv166, zqv247], [], [zqa58, zqa15, zqa8, zqa37, zqa9, zqa0, zqa0], [], [zqf86], [])), [([(1, 0, 0, 0)], ([zqv170, zqv210, zqv154, zqv261, zqv166, zqv247, zqv166], [], [], [zqa39], [zqf88], []))], zqw374)
def zpA324 : zAnn := []

/-- PushedIn$Acts.above ((1, 6), (2, 0), (4, 1)) -/
def zpC325 : zC := (41, (6, 162), ([(0, 3, 0, 0)], ([zqv170, zqv210, zqv154, zqv261, zqv166], [], [zqa58, zqa25, zqa8, zqa37, zqa9], [], [zqf76], [])), [([(1, 0, 0, 0)], ([zqv170, zqv210, zqv154, zqv261, zqv166, zqv166], [], [], [zqa38], [zqf78], []))], zqw374)
def zpA325 : zAnn := []

/-- PushedIn$Acts.above ((1, 3), (2, 1), (4, 2)) -/
def zpC326 : zC := (41, (12, 307), ([(0, 3, 0, 0)], ([zqv170, zqv210, zqv154, zqv261, zqv166], [], [zqa58, zqa15, zqa9, zqa37, zqa13], [], [zqf77], [])), [([(1, 0, 0, 0), (2, 0, 8, 1)], ([zqv170, zqv210, zqv154, zqv261, zqv166, zqv166, zqv316], [], [], [zqa38], [zqf90], []))], zqw374)
def zpA326 : zAnn := []

/-- PushedIn$Acts.runBody ((1, 40), (3, 2)) -/
def zpC327 : zC := (45, (13, 331), ([(0, 2, 0, 0)], ([zqv170, zqv210, zqv154, zqv261, zqv166], [], [zqa58, zqa20, zqa37, zqa13], [], [zqf77], [])), [([(1, 0, 0, 0), (2, 0, 8, 1)], ([zqv170, zqv210, zqv154, zqv261, zqv166, zqv166, zqv316], [], [], [zqa38], [zqf90], []))], zqw374)
def zpA327 : zAnn := []

/-- PushedIn$Acts.runFrom ((1, 3), (2, 1), (4, 1)) -/
def zpC328 : zC := (46, (14, 354), ([(0, 3, 0, 0)], ([zqv170, zqv210, zqv154, zqv261, zqv166], [], [zqa58, zqa15, zqa9, zqa37, zqa9, zqa0, zqa0], [], [zqf76], [])), [([(1, 0, 0, 0), (2, 0, 8, 1)], ([zqv170, zqv210, zqv154, zqv261, zqv166, zqv166, zqv316], [], [], [zqa38], [zqf90], []))], zqw374)
def zpA328 : zAnn := []

/-- PushedIn$Acts.above ((1, 6), (2, 1), (4, 1)) -/
def zpC329 : zC := (41, (15, 380), ([(0, 3, 0, 0)], ([zqv170, zqv210, zqv154, zqv261, zqv166], [], [zqa58, zqa25, zqa9, zqa37, zqa9], [], [zqf76], [])), [([(1, 0, 0, 0), (2, 0, 8, 1)], ([zqv170, zqv210, zqv154, zqv261, zqv166, zqv166, zqv316], [], [], [zqa38], [zqf90], []))], zqw374)
def zpA329 : zAnn := []

/-- PushedIn$Acts.above ((1, 7), (2, 2), (4, 1)) -/
def zpC330 : zC := (41, (3, 89), ([(0, 3, 0, 0)], ([zqv170, zqv210, zqv154, zqv261, zqv166], [], [zqa58, zqa26, zqa13, zqa37, zqa9], [], [zqf76], [])), [([(1, 0, 0, 0)], ([zqv170, zqv210, zqv154, zqv261, zqv166, zqv166], [], [], [zqa38], [zqf77], []))], zqw374)
def zpA330 : zAnn := []

/-- PushedIn$Acts.runFrom ((1, 2), (2, 0), (4, 1)) -/
def zpC331 : zC := (46, (2, 63), ([(0, 3, 0, 0), (2, 0, 8, 1)], ([zqv170, zqv210, zqv154, zqv261, zqv166, zqv247], [], [zqa58, zqa13, zqa8, zqa37, zqa9, zqa0, zqa0], [], [zqf86], [])), [([(1, 0, 0, 0)], ([zqv170, zqv210, zqv154, zqv261, zqv166, zqv247, zqv166], [], [], [zqa39], [zqf87], []))], zqw374)
def zpA331 : zAnn := []

/-- PushedIn$Acts.above ((1, 4), (2, 0), (4, 2)) -/
def zpC332 : zC := (41, (6, 162), ([(0, 3, 0, 0), (2, 0, 8, 1)], ([zqv170, zqv210, zqv154, zqv261, zqv166, zqv278], [], [zqa58, zqa19, zqa8, zqa37, zqa13], [], [zqf86], [])), [([(1, 0, 0, 0)], ([zqv170, zqv210, zqv154, zqv261, zqv166, zqv278, zqv166], [], [], [zqa39], [zqf88], []))], zqw374)
def zpA332 : zAnn := []

/-- PushedIn$Acts.runBody ((1, 50), (3, 2)) -/
def zpC333 : zC := (45, (7, 186), ([(0, 2, 0, 0), (2, 0, 8, 1)], ([zqv170, zqv210, zqv154, zqv261, zqv166, zqv278], [], [zqa58, zqa23, zqa37, zqa13], [], [zqf86], [])), [([(1, 0, 0, 0)], ([zqv170, zqv210, zqv154, zqv261, zqv166, zqv278, zqv166], [], [], [zqa39], [zqf88], []))], zqw374)
def zpA333 : zAnn := []

/-- PushedIn$Acts.runFrom ((1, 4), (2, 0), (4, 1)) -/
def zpC334 : zC := (46, (8, 209), ([(0, 3, 0, 0), (2, 0, 8, 1)], ([zqv170, zqv210, zqv154, zqv261, zqv166, zqv247], [], [zqa58, zqa19, zqa8, zqa37, zqa9, zqa0, zqa0], [], [zqf86], [])), [([(1, 0, 0, 0)], ([zqv170, zqv210, zqv154, zqv261, zqv166, zqv247, zqv166], [], [], [zqa39], [zqf89], []))], zqw374)
def zpA334 : zAnn := []

/-- PushedIn$Acts.runFrom ((1, 5), (2, 0), (4, 1)) -/
def zpC335 : zC := (46, (2, 63), ([(0, 3, 0, 0), (2, 0, 8, 1)], ([zqv170, zqv210, zqv154, zqv261, zqv166, zqv247], [], [zqa58, zqa22, zqa8, zqa37, zqa9, zqa0, zqa0], [], [zqf86], [])), [([(1, 0, 0, 0)], ([zqv170, zqv210, zqv154, zqv261, zqv166, zqv247, zqv166], [], [], [zqa39], [zqf87], []))], zqw374)
def zpA335 : zAnn := []

/-- PushedIn$Acts.above ((1, 6), (2, 0), (4, 2)) -/
def zpC336 : zC := (41, (6, 162), ([(0, 3, 0, 0), (2, 0, 8, 1)], ([zqv170, zqv210, zqv154, zqv261, zqv166, zqv278], [], [zqa58, zqa25, zqa8, zqa37, zqa13], [], [zqf86], [])), [([(1, 0, 0, 0)], ([zqv170, zqv210, zqv154, zqv261, zqv166, zqv278, zqv166], [], [], [zqa39], [zqf88], []))], zqw374)
def zpA336 : zAnn := []

/-- PushedIn$Acts.runBody ((1, 71), (3, 2)) -/
def zpC337 : zC := (45, (7, 186), ([(0, 2, 0, 0), (2, 0, 8, 1)], ([zqv170, zqv210, zqv154, zqv261, zqv166, zqv278], [], [zqa58, zqa27, zqa37, zqa13], [], [zqf86], [])), [([(1, 0, 0, 0)], ([zqv170, zqv210, zqv154, zqv261, zqv166, zqv278, zqv166], [], [], [zqa39], [zqf88], []))], zqw374)
def zpA337 : zAnn := []

/-- PushedIn$Acts.runFrom ((1, 6), (2, 0), (4, 1)) -/
def zpC338 : zC := (46, (8, 209), ([(0, 3, 0, 0), (2, 0, 8, 1)], ([zqv170, zqv210, zqv154, zqv261, zqv166, zqv247], [], [zqa58, zqa25, zqa8, zqa37, zqa9, zqa0, zqa0], [], [zqf86], [])), [([(1, 0, 0, 0)], ([zqv170, zqv210, zqv154, zqv261, zqv166, zqv247, zqv166], [], [], [zqa39], [zqf89], []))], zqw374)
def zpA338 : zAnn := []

/-- PushedIn$Acts.runFrom ((1, 7), (2, 0), (4, 1)) -/
def zpC339 : zC := (46, (2, 63), ([(0, 3, 0, 0), (2, 0, 8, 1)], ([zqv170, zqv210, zqv154, zqv261, zqv166, zqv247], [], [zqa58, zqa26, zqa8, zqa37, zqa9, zqa0, zqa0], [], [zqf86], [])), [([(1, 0, 0, 0)], ([zqv170, zqv210, zqv154, zqv261, zqv166, zqv247, zqv166], [], [], [zqa39], [zqf87], []))], zqw374)
def zpA339 : zAnn := []

/-- PushedIn$Acts.own ((1, 0), (3, 1)) -/
def zpC340 : zC := (43, (9, 235), ([(0, 2, 0, 0), (2, 0, 8, 1)], ([zqv170, zqv210, zqv154, zqv261, zqv166, zqv247], [], [zqa58, zqa8, zqa37, zqa9], [], [zqf86], [])), [([(1, 0, 0, 0), (2, 0, 8, 1)], ([zqv170, zqv210, zqv154, zqv261, zqv166, zqv247, zqv166, [(2, 5)]], [(7, 5, 3), (5, 7, (-1))], [], [zqa39], [zqf91], []))], zqw374)
def zpA340 : zAnn := []

/-- PushedIn$Acts.runFrom ((1, 0), (2, 1), (4, 1)) -/
def zpC341 : zC := (46, (11, 281), ([(0, 3, 0, 0)], ([zqv170, zqv210, zqv154, zqv261, zqv166], [], [zqa58, zqa8, zqa9, zqa37, zqa9, zqa0, zqa0], [], [zqf76], [])), [([(1, 0, 0, 0), (2, 0, 8, 1)], ([zqv170, zqv210, zqv154, zqv261, zqv166, zqv166, zqv296], [], [], [zqa38], [zqf90], []))], zqw374)
def zpA341 : zAnn := []

/-- PushedIn$Acts.runFrom ((1, 2), (2, 1), (4, 1)) -/
def zpC342 : zC := (46, (11, 281), ([(0, 3, 0, 0)], ([zqv170, zqv210, zqv154, zqv261, zqv166], [], [zqa58, zqa13, zqa9, zqa37, zqa9, zqa0, zqa0], [], [zqf76], [])), [([(1, 0, 0, 0), (2, 0, 8, 1)], ([zqv170, zqv210, zqv154, zqv261, zqv166, zqv166, zqv296], [], [], [zqa38], [zqf90], []))], zqw374)
def zpA342 : zAnn := []

/-- PushedIn$Acts.runFrom ((1, 4), (2, 1), (4, 1)) -/
def zpC343 : zC := (46, (11, 281), ([(0, 3, 0, 0)], ([zqv170, zqv210, zqv154, zqv261, zqv166], [], [zqa58, zqa19, zqa9, zqa37, zqa9, zqa0, zqa0], [], [zqf76], [])), [([(1, 0, 0, 0), (2, 0, 8, 1)], ([zqv170, zqv210, zqv154, zqv261, zqv166, zqv166, zqv296], [], [], [zqa38], [zqf90], []))], zqw374)
def zpA343 : zAnn := []

/-- PushedIn$Acts.runFrom ((1, 5), (2, 1), (4, 1)) -/
def zpC344 : zC := (46, (11, 281), ([(0, 3, 0, 0)], ([zqv170, zqv210, zqv154, zqv261, zqv166], [], [zqa58, zqa22, zqa9, zqa37, zqa9, zqa0, zqa0], [], [zqf76], [])), [([(1, 0, 0, 0), (2, 0, 8, 1)], ([zqv170, zqv210, zqv154, zqv261, zqv166, zqv166, zqv296], [], [], [zqa38], [zqf90], []))], zqw374)
def zpA344 : zAnn := []

/-- PushedIn$Acts.above ((1, 6), (2, 1), (4, 2)) -/
def zpC345 : zC := (41, (15, 380), ([(0, 3, 0, 0)], ([zqv170, zqv210, zqv154, zqv261, zqv166], [], [zqa58, zqa25, zqa9, zqa37, zqa13], [], [zqf77], [])), [([(1, 0, 0, 0), (2, 0, 8, 1)], ([zqv170, zqv210, zqv154, zqv261, zqv166, zqv166, zqv338], [], [], [zqa38], [zqf90], []))], zqw374)
def zpA345 : zAnn := []

/-- PushedIn$Acts.runBody ((1, 70), (3, 2)) -/
def zpC346 : zC := (45, (16, 404), ([(0, 2, 0, 0)], ([zqv170, zqv210, zqv154, zqv261, zqv166], [], [zqa58, (1, 0, 70, 0, 0), zqa37, zqa13], [], [zqf77], [])), [([(1, 0, 0, 0), (2, 0, 8, 1)], ([zqv170, zqv210, zqv154, zqv261, zqv166, zqv166, zqv350], [], [], [zqa38], [zqf90], []))], zqw374)
def zpA346 : zAnn := []

/-- PushedIn$Acts.runFrom ((1, 6), (2, 1), (4, 1)) -/
def zpC347 : zC := (46, (17, 427), ([(0, 3, 0, 0)], ([zqv170, zqv210, zqv154, zqv261, zqv166], [], [zqa58, zqa25, zqa9, zqa37, zqa9, zqa0, zqa0], [], [zqf76], [])), [([(1, 0, 0, 0), (2, 0, 8, 1)], ([zqv170, zqv210, zqv154, zqv261, zqv166, zqv166, zqv350], [], [], [zqa38], [zqf90], []))], zqw374)
def zpA347 : zAnn := []

/-- PushedIn$Acts.runFrom ((1, 7), (2, 1), (4, 1)) -/
def zpC348 : zC := (46, (11, 281), ([(0, 3, 0, 0)], ([zqv170, zqv210, zqv154, zqv261, zqv166], [], [zqa58, zqa26, zqa9, zqa37, zqa9, zqa0, zqa0], [], [zqf76], [])), [([(1, 0, 0, 0), (2, 0, 8, 1)], ([zqv170, zqv210, zqv154, zqv261, zqv166, zqv166, zqv296], [], [], [zqa38], [zqf90], []))], zqw374)
def zpA348 : zAnn := []

/-- PushedIn$Acts.own ((1, 1), (3, 1)) -/
def zpC349 : zC := (43, (18, 453), ([(0, 2, 0, 0)], ([zqv170, zqv210, zqv154, zqv261, zqv166], [], [zqa58, zqa9, zqa37, zqa9], [], [zqf76], [])), [([(1, 0, 0, 0), (2, 0, 8, 1)], ([zqv170, zqv210, zqv154, zqv261, zqv166, zqv166, zqv292], [], [], [zqa38], [zqf90], []))], zqw374)
def zpA349 : zAnn := []

/-- PushedIn$Acts.runFrom ((1, 1), (2, 2), (4, 1)) -/
def zpC350 : zC := (46, (2, 63), ([(0, 3, 0, 0), (2, 0, 8, 1)], ([zqv170, zqv210, zqv154, zqv261, zqv247, zqv292], [], [zqa58, zqa9, zqa13, zqa37, zqa9, zqa0, zqa0], [], [zqf86], [])), [([(1, 0, 0, 0)], ([zqv170, zqv210, zqv154, zqv261, zqv247, zqv292, zqv166], [], [], [zqa39], [zqf87], []))], zqw374)
def zpA350 : zAnn := []

/-- PushedIn$Acts.above ((1, 2), (2, 2), (4, 2)) -/
def zpC351 : zC := (41, (3, 89), ([(0, 3, 0, 0), (2, 0, 8, 1)], ([zqv170, zqv210, zqv154, zqv261, zqv247, zqv312], [], [zqa58, zqa13, zqa13, zqa37, zqa13], [], [zqf86], [])), [([(1, 0, 0, 0)], ([zqv170, zqv210, zqv154, zqv261, zqv247, zqv312, zqv166], [], [], [zqa39], [zqf87], []))], zqw374)
def zpA351 : zAnn := []

/-- PushedIn$Acts.runBody ((1, 30), (3, 2)) -/
def zpC352 : zC := (45, (4, 113), ([(0, 2, 0, 0), (2, 0, 8, 1)], ([zqv170, zqv210, zqv154, zqv261, zqv247, zqv312], [], [zqa58, zqa16, zqa37, zqa13], [], [zqf86], [])), [([(1, 0, 0, 0)], ([zqv170, zqv210, zqv154, zqv261, zqv247, zqv312, zqv166], [], [], [zqa39], [zqf87], []))], zqw374)
def zpA352 : zAnn := []

/-- PushedIn$Acts.runFrom ((1, 2), (2, 2), (4, 1)) -/
def zpC353 : zC := (46, (5, 136), ([(0, 3, 0, 0), (2, 0, 8, 1)], ([zqv170, zqv210, zqv154, zqv261, zqv247, zqv292], [], [zqa58, zqa13, zqa13, zqa37, zqa9, zqa0, zqa0], [], [zqf86], [])), [([(1, 0, 0, 0)], ([zqv170, zqv210, zqv154, zqv261, zqv247, zqv292, zqv166], [], [], [zqa39], [zqf88], []))], zqw374)
def zpA353 : zAnn := []

/-- PushedIn$Acts.runFrom ((1, 3), (2, 2), (4, 1)) -/
def zpC354 : zC := (46, (2, 63), ([(0, 3, 0, 0), (2, 0, 8, 1)], ([zqv170, zqv210, zqv154, zqv261, zqv247, zqv292], [], [zqa58, zqa15, zqa13, zqa37, zqa9, zqa0, zqa0], [], [zqf86], [])), [([(1, 0, 0, 0)], ([zqv170, zqv210, zqv154, zqv261, zqv247, zqv292, zqv166], [], [], [zqa39], [zqf87], []))], zqw374)
def zpA354 : zAnn := []

/-- PushedIn$Acts.runFrom ((1, 4), (2, 2), (4, 1)) -/
def zpC355 : zC := (46, (2, 63), ([(0, 3, 0, 0), (2, 0, 8, 1)], ([zqv170, zqv210, zqv154, zqv261, zqv247, zqv292], [], [zqa58, zqa19, zqa13, zqa37, zqa9, zqa0, zqa0], [], [zqf86], [])), [([(1, 0, 0, 0)], ([zqv170, zqv210, zqv154, zqv261, zqv247, zqv292, zqv166], [], [], [zqa39], [zqf87], []))], zqw374)
def zpA355 : zAnn := []

/-- PushedIn$Acts.runFrom ((1, 5), (2, 2), (4, 1)) -/
def zpC356 : zC := (46, (2, 63), ([(0, 3, 0, 0), (2, 0, 8, 1)], ([zqv170, zqv210, zqv154, zqv261, zqv247, zqv292], [], [zqa58, zqa22, zqa13, zqa37, zqa9, zqa0, zqa0], [], [zqf86], [])), [([(1, 0, 0, 0)], ([zqv170, zqv210, zqv154, zqv261, zqv247, zqv292, zqv166], [], [], [zqa39], [zqf87], []))], zqw374)
def zpA356 : zAnn := []

/-- PushedIn$Acts.runFrom ((1, 6), (2, 2), (4, 1)) -/
def zpC357 : zC := (46, (2, 63), ([(0, 3, 0, 0), (2, 0, 8, 1)], ([zqv170, zqv210, zqv154, zqv261, zqv247, zqv292], [], [zqa58, zqa25, zqa13, zqa37, zqa9, zqa0, zqa0], [], [zqf86], [])), [([(1, 0, 0, 0)], ([zqv170, zqv210, zqv154, zqv261, zqv247, zqv292, zqv166], [], [], [zqa39], [zqf87], []))], zqw374)
def zpA357 : zAnn := []

/-- PushedIn$Acts.above ((1, 7), (2, 2), (4, 2)) -/
def zpC358 : zC := (41, (3, 89), ([(0, 3, 0, 0), (2, 0, 8, 1)], ([zqv170, zqv210, zqv154, zqv261, zqv247, zqv312], [], [zqa58, zqa26, zqa13, zqa37, zqa13], [], [zqf86], [])), [([(1, 0, 0, 0)], ([zqv170, zqv210, zqv154, zqv261, zqv247, zqv312, zqv166], [], [], [zqa39], [zqf87], []))], zqw374)
def zpA358 : zAnn := []

/-- PushedIn$Acts.runBody ((1, 80), (3, 2)) -/
def zpC359 : zC := (45, (10, 258), ([(0, 2, 0, 0), (2, 0, 8, 1)], ([zqv170, zqv210, zqv154, zqv261, zqv247, zqv312], [], [zqa58, zqa31, zqa37, zqa13], [], [zqf86], [])), [([(1, 0, 0, 0), (2, 0, 8, 1)], ([zqv170, zqv210, zqv154, zqv261, zqv247, zqv312, zqv166, [(6, 17)]], [(7, 5, 4), (5, 7, (-2))], [], [zqa39], [zqf91], []))], zqw374)
def zpA359 : zAnn := []

/-- PushedIn$Acts.runFrom ((1, 7), (2, 2), (4, 1)) -/
def zpC360 : zC := (46, (11, 281), ([(0, 3, 0, 0), (2, 0, 8, 1)], ([zqv170, zqv210, zqv154, zqv261, zqv247, zqv292], [], [zqa58, zqa26, zqa13, zqa37, zqa9, zqa0, zqa0], [], [zqf86], [])), [([(1, 0, 0, 0), (2, 0, 8, 1)], ([zqv170, zqv210, zqv154, zqv261, zqv247, zqv292, zqv166, [(6, 17)]], [(7, 5, 5), (5, 7, (-3))], [], [zqa39], [zqf91], []))], zqw374)
def zpA360 : zAnn := []

/-- PushedIn$Acts.own ((1, 2), (3, 1)) -/
def zpC361 : zC := (43, (12, 307), ([(0, 2, 0, 0), (2, 0, 8, 1)], ([zqv170, zqv210, zqv154, zqv261, zqv247, zqv292], [], [zqa58, zqa13, zqa37, zqa9], [], [zqf86], [])), [([(1, 0, 0, 0), (2, 0, 8, 1)], ([zqv170, zqv210, zqv154, zqv261, zqv247, zqv292, zqv166, [(4, 17)]], [(7, 5, 5), (5, 7, (-1))], [], [zqa39], [zqf91], []))], zqw374)
def zpA361 : zAnn := []

/-- PushedIn$Acts.runBody ((3, 1),) -/
def zpC362 : zC := (45, (22, 549), ([(0, 1, 0, 0), (0, 2, 0, 0)], ([zqv170, zqv210, zqv154, zqv261, [(0, 50), (60, 60), (70, 80)], zqv166], [], [zqa58, zqa37, zqa38, zqa9], [], [zqf76], [])), [([(1, 0, 0, 0), (2, 0, 8, 1)], ([zqv170, zqv210, zqv154, zqv261, zqv252, zqv166, zqv166, zqv246], [], [], [zqa39], [zqf91], [])), ([], ([zqv170, zqv210, zqv154, zqv261, [(0, 9), (12, 49), (72, 79)], zqv166], [], [], [zqa8], [zqf76], []))], zqw374)
def zpA362 : zAnn := []

/-- PushedIn$Acts.runFrom ((1, 0), (4, 0)) -/
def zpC363 : zC := (46, (23, 572), ([(0, 2, 0, 0), (0, 3, 0, 0)], ([zqv170, zqv210, zqv154, zqv261, zqv198, zqv166], [], [zqa58, zqa8, zqa37, zqa38, zqa8, zqa0, zqa0], [], [zqf75], [])), [([(1, 0, 0, 0), (2, 0, 8, 1)], ([zqv170, zqv210, zqv154, zqv261, zqv198, zqv166, zqv166, zqv246], [], [], [zqa39], [zqf91], [])), ([(2, 0, 8, 1)], ([zqv170, zqv210, zqv154, zqv261, zqv198, zqv166, zqv171], [], [], [zqa8], [zqf90], []))], zqw374)
def zpA363 : zAnn := []

/-- PushedIn$Acts.runFrom ((1, 1), (4, 0)) -/
def zpC364 : zC := (46, (23, 572), ([(0, 2, 0, 0), (0, 3, 0, 0)], ([zqv170, zqv210, zqv154, zqv261, zqv198, zqv166], [], [zqa58, zqa9, zqa37, zqa38, zqa8, zqa0, zqa0], [], [zqf75], [])), [([(1, 0, 0, 0), (2, 0, 8, 1)], ([zqv170, zqv210, zqv154, zqv261, zqv198, zqv166, zqv166, zqv246], [], [], [zqa39], [zqf91], [])), ([(2, 0, 8, 1)], ([zqv170, zqv210, zqv154, zqv261, zqv198, zqv166, zqv171], [], [], [zqa8], [zqf90], []))], zqw374)
def zpA364 : zAnn := []

/-- PushedIn$Acts.runFrom ((1, 2), (4, 0)) -/
def zpC365 : zC := (46, (23, 572), ([(0, 2, 0, 0), (0, 3, 0, 0)], ([zqv170, zqv210, zqv154, zqv261, zqv198, zqv166], [], [zqa58, zqa13, zqa37, zqa38, zqa8, zqa0, zqa0], [], [zqf75], [])), [([(1, 0, 0, 0), (2, 0, 8, 1)], ([zqv170, zqv210, zqv154, zqv261, zqv198, zqv166, zqv166, zqv246], [], [], [zqa39], [zqf91], [])), ([(2, 0, 8, 1)], ([zqv170, zqv210, zqv154, zqv261, zqv198, zqv166, zqv171], [], [], [zqa8], [zqf90], []))], zqw374)
def zpA365 : zAnn := []

/-- PushedIn$Acts.runFrom ((1, 3), (4, 0)) -/
def zpC366 : zC := (46, (23, 572), ([(0, 2, 0, 0), (0, 3, 0, 0)], ([zqv170, zqv210, zqv154, zqv261, zqv198, zqv166], [], [zqa58, zqa15, zqa37, zqa38, zqa8, zqa0, zqa0], [], [zqf75], [])), [([(1, 0, 0, 0), (2, 0, 8, 1)], ([zqv170, zqv210, zqv154, zqv261, zqv198, zqv166, zqv166, zqv246], [], [], [zqa39], [zqf91], [])), ([(2, 0, 8, 1)], ([zqv170, zqv210, zqv154, zqv261, zqv198, zqv166, zqv171], [], [], [zqa8], [zqf90], []))], zqw374)
def zpA366 : zAnn := []

/-- PushedIn$Acts.runFrom ((1, 4), (4, 0)) -/
def zpC367 : zC := (46, (23, 572), ([(0, 2, 0, 0), (0, 3, 0, 0)], ([zqv170, zqv210, zqv154, zqv261, zqv198, zqv166], [], [zqa58, zqa19, zqa37, zqa38, zqa8, zqa0, zqa0], [], [zqf75], [])), [([(1, 0, 0, 0), (2, 0, 8, 1)], ([zqv170, zqv210, zqv154, zqv261, zqv198, zqv166, zqv166, zqv246], [], [], [zqa39], [zqf91], [])), ([(2, 0, 8, 1)], ([zqv170, zqv210, zqv154, zqv261, zqv198, zqv166, zqv171], [], [], [zqa8], [zqf90], []))], zqw374)
def zpA367 : zAnn := []

/-- PushedIn$Acts.runFrom ((1, 5), (4, 0)) -/
def zpC368 : zC := (46, (23, 572), ([(0, 2, 0, 0), (0, 3, 0, 0)], ([zqv170, zqv210, zqv154, zqv261, zqv198, zqv166], [], [zqa58, zqa22, zqa37, zqa38, zqa8, zqa0, zqa0], [], [zqf75], [])), [([(1, 0, 0, 0), (2, 0, 8, 1)], ([zqv170, zqv210, zqv154, zqv261, zqv198, zqv166, zqv166, zqv246], [], [], [zqa39], [zqf91], [])), ([(2, 0, 8, 1)], ([zqv170, zqv210, zqv154, zqv261, zqv198, zqv166, zqv171], [], [], [zqa8], [zqf90], []))], zqw374)
def zpA368 : zAnn := []

/-- PushedIn$Acts.runFrom ((1, 6), (4, 0)) -/
def zpC369 : zC := (46, (23, 572), ([(0, 2, 0, 0), (0, 3, 0, 0)], ([zqv170, zqv210, zqv154, zqv261, zqv198, zqv166], [], [zqa58, zqa25, zqa37, zqa38, zqa8, zqa0, zqa0], [], [zqf75], [])), [([(1, 0, 0, 0), (2, 0, 8, 1)], ([zqv170, zqv210, zqv154, zqv261, zqv198, zqv166, zqv166, zqv246], [], [], [zqa39], [zqf91], [])), ([(2, 0, 8, 1)], ([zqv170, zqv210, zqv154, zqv261, zqv198, zqv166, zqv171], [], [], [zqa8], [zqf90], []))], zqw374)
def zpA369 : zAnn := []

/-- PushedIn$Acts.runFrom ((1, 7), (4, 0)) -/
def zpC370 : zC := (46, (23, 572), ([(0, 2, 0, 0), (0, 3, 0, 0)], ([zqv170, zqv210, zqv154, zqv261, zqv198, zqv166], [], [zqa58, zqa26, zqa37, zqa38, zqa8, zqa0, zqa0], [], [zqf75], [])), [([(1, 0, 0, 0), (2, 0, 8, 1)], ([zqv170, zqv210, zqv154, zqv261, zqv198, zqv166, zqv166, zqv246], [], [], [zqa39], [zqf91], [])), ([(2, 0, 8, 1)], ([zqv170, zqv210, zqv154, zqv261, zqv198, zqv166, zqv171], [], [], [zqa8], [zqf90], []))], zqw374)
def zpA370 : zAnn := []

/-- PushedIn$Acts.own ((3, 0),) -/
def zpC371 : zC := (43, (24, 598), ([(0, 1, 0, 0), (0, 2, 0, 0)], ([zqv170, zqv210, zqv154, zqv261, zqv198, zqv166], [], [zqa58, zqa37, zqa38, zqa8], [], [zqf75], [])), [([(1, 0, 0, 0), (2, 0, 8, 1)], ([zqv170, zqv210, zqv154, zqv261, zqv198, zqv166, zqv166, zqv246], [], [], [zqa39], [zqf91], [])), ([(2, 0, 8, 1)], ([zqv170, zqv210, zqv154, zqv261, zqv198, zqv166, zqv171], [], [], [zqa8], [zqf90], []))], zqw374)
def zpA371 : zAnn := []

/-- PushedIn$Acts.perform () -/
def zpC372 : zC := (44, (25, 621), ([(0, 1, 0, 0), (0, 2, 0, 0), (0, 3, 0, 0), (0, 4, 0, 0)], ([zqv170, zqv210, zqv154, zqv261, zqv181, zqv235, zqv198, zqv166], [], [zqa58, zqa37, zqa38, zqa39, zqa40], [], [zqf75], [])), [([(1, 0, 0, 0), (2, 0, 8, 1)], ([zqv170, zqv210, zqv154, zqv261, zqv181, zqv235, zqv198, zqv166, zqv166, zqv246], [], [], [zqa41], [(0, 8, 1, (1, 9, 0, 0, 0))], [])), ([(2, 0, 8, 1)], ([zqv170, zqv210, zqv154, zqv261, zqv181, zqv235, zqv198, zqv166, zqv171], [], [], [zqa8], [(0, 8, 1, (1, 8, 0, 0, 0))], []))], [(8, 8, 1, 1), (8, 8, 1, 2), (8, 8, 1, 3), (39, 39, 0, 0)])
def zpA372 : zAnn := []

/-- PushedIn.act () -/
def zpC373 : zC := (0, (26, 645), ([(0, 1, 0, 0), (0, 2, 0, 0), (0, 3, 0, 0)], ([zqv170, zqv210, zqv154, zqv261, zqv166, zqv166, zqv166], [], [zqa50, zqa37, zqa38, zqa39], [], [], [])), [([(1, 0, 0, 0)], ([zqv170, zqv210, zqv154, zqv261, zqv181, zqv198, zqv166, zqv166], [], [], [zqa40], [], [])), ([], ([zqv170, zqv210, zqv154, zqv261, zqv166, zqv166, zqv166], [], [], [zqa8], [], []))], [(8, 8, 1, 1), (8, 8, 1, 2), (8, 8, 1, 3), (39, 39, 0, 0)])
def zpA373 : zAnn := []

/-- PushedIn.within ((1, 24),) -/
def zpC374 : zC := (39, (1, 40), ([(0, 0, 0, 0)], ([zqv170, zqv210, zqv154, zqv261, zqv166], [], [zqa37, (1, 0, 24, 0, 0)], [], [], [])), [([], ([zqv170, zqv210, zqv154, zqv261, [((-2147483648), (-1)), (24, 2147483647)]], [], [], [zqa8], [], [])), ([], ([zqv170, zqv210, zqv154, zqv261, zqv190], [], [], [zqa9], [], []))], zqw384)
def zpA374 : zAnn := []

/-- PushedIn.trace () -/
def zpC375 : zC := (36, (2, 61), ([(0, 1, 0, 0)], ([zqv170, zqv210, zqv154, zqv261, zqv166], [], [zqa50, zqa37], [], [], [])), [([(1, 0, 0, 0)], ([zqv170, zqv210, zqv154, zqv261, zqv190, zqv166], [], [], [zqa38], [], [])), ([], ([zqv170, zqv210, zqv154, zqv261, zqv166], [], [], [zqa1], [], []))], zqw384)
def zpA375 : zAnn := []

/-- PushedIn$Places.clear () -/
def zpC376 : zC := (67, (1, 40), ([(0, 1, 0, 0)], ([zqv170, zqv210, zqv154, zqv261, zqv221], [], [zqa59, zqa37], [], [], [])), [([], ([zqv170, zqv210, zqv154, zqv261, zqv221], [], [], [], [], []))], [(40, 40, 0, 0)])
def zpA376 : zAnn := []

/-- PushedIn$Places.holdRule () -/
def zpC377 : zC := (70, (1, 40), ([(0, 1, 0, 0), (0, 2, 0, 0)], ([zqv170, zqv210, zqv154, zqv261, zqv221, zqv181], [], [zqa59, zqa37, zqa38], [], [], [])), [([], ([zqv170, zqv210, zqv154, zqv261, zqv221, zqv181], [], [], [], [], []))], [(40, 40, 0, 0), (41, 41, 0, 0)])
def zpA377 : zAnn := []

/-- PushedIn.keep () -/
def zpC378 : zC := (18, (3, 82), ([(0, 1, 0, 0), (0, 2, 0, 0)], ([zqv170, zqv210, zqv154, zqv261, zqv166, zqv166], [], [zqa50, zqa37, zqa38], [], [], [])), [([], ([zqv170, zqv210, zqv154, zqv261, zqv166, zqv166], [], [], [zqa1], [], [])), ([], ([zqv170, zqv210, zqv154, zqv261, zqv221, zqv150], [], [], [zqa9], [], []))], [(40, 40, 0, 0), (41, 41, 0, 0)])
def zpA378 : zAnn := []

/-- PushedIn$Places.holdRow () -/
def zpC379 : zC := (69, (1, 40), ([(0, 1, 0, 0), (0, 2, 0, 0), (0, 3, 0, 0)], ([zqv170, zqv210, zqv154, zqv261, zqv221, zqv209, zqv233], [], [zqa59, zqa37, zqa38, zqa39, zqa0], [], [], [])), [([], ([zqv170, zqv210, zqv154, zqv261, zqv221, zqv209, zqv233], [], [], [], [], []))], [(40, 40, 0, 0), (42, 42, 0, 0), (44, 49, 0, 0)])
def zpA379 : zAnn := [(17, ([(0, 4, 0, 0)], ([zqv170, zqv210, zqv154, zqv261, zqv221, zqv209, zqv233, zqv233], [], [zqa59, zqa37, zqa38, zqa39, zqa40], [], [], [])), [(2, 0, 0), (0, 7, 60), (2, 0, 0)])]

/-- PushedIn.within ((1, 5),) -/
def zpC380 : zC := (39, (1, 40), ([(0, 0, 0, 0)], ([zqv170, zqv210, zqv154, zqv261, zqv166], [], [zqa37, zqa22], [], [], [])), [([], ([zqv170, zqv210, zqv154, zqv261, [((-2147483648), (-1)), (5, 2147483647)]], [], [], [zqa8], [], [])), ([], ([zqv170, zqv210, zqv154, zqv261, zqv209], [], [], [zqa9], [], []))], zqw384)
def zpA380 : zAnn := []

/-- PushedIn.row () -/
def zpC381 : zC := (28, (2, 64), ([(0, 1, 0, 0), (0, 2, 0, 0), (0, 3, 0, 0)], ([zqv170, zqv210, zqv154, zqv261, zqv166, zqv166, zqv166], [], [zqa50, zqa37, zqa38, zqa39], [], [], [])), [([], ([zqv170, zqv210, zqv154, zqv261, zqv166, zqv166, zqv166], [], [], [zqa1], [], [])), ([], ([zqv170, zqv210, zqv154, zqv261, zqv221, zqv209, zqv162], [], [], [(1, 0, (-14), 0, 0)], [], [])), ([], ([zqv170, zqv210, zqv154, zqv261, zqv221, zqv209, zqv233], [], [], [zqa9], [], []))], [(40, 40, 0, 0), (42, 42, 0, 0), (44, 49, 0, 0)])
def zpA381 : zAnn := []

/-- PushedIn$Places.narrowed () -/
def zpC382 : zC := (73, (1, 40), ([(0, 1, 0, 0), (0, 2, 0, 0)], ([zqv170, zqv210, zqv154, zqv261, zqv221, zqv168], [], [zqa59, zqa37, zqa48, zqa0], [], [], [])), [([(1, 0, 0, 0)], ([zqv170, zqv210, zqv154, zqv261, zqv221, zqv168, zqv166], [], [], [zqa49], [], [])), ([], ([zqv170, zqv210, zqv154, zqv261, zqv221, zqv170], [], [], [zqa44], [], [])), ([], ([zqv170, zqv210, zqv154, zqv261, zqv221, [((-9223372036854775808), (-1)), (1, 9223372036854775807)]], [], [], [zqa45], [], [])), ([], ([zqv170, zqv210, zqv154, zqv261, zqv221, zqv168], [], [], [zqa48], [], []))], zqw384)
def zpA382 : zAnn := []

/-- PushedIn$Places.refusesBoth () -/
def zpC383 : zC := (76, (2, 61), ([(0, 1, 0, 0), (0, 2, 0, 0)], ([zqv170, zqv210, zqv154, zqv261, zqv166, zqv166], [], [zqa59, zqa37, zqa38], [], [], [])), [([], ([zqv170, zqv210, zqv154, zqv261, zqv166, zqv166], [], [], [zqa1], [], [])), ([], ([zqv170, zqv210, zqv154, zqv261, zqv221, zqv221], [], [], [zqa2], [], [])), ([], ([zqv170, zqv210, zqv154, zqv261, zqv221, zqv221], [], [], [zqa3], [], [])), ([], ([zqv170, zqv210, zqv154, zqv261, zqv221, zqv221], [], [], [zqa8], [], []))], zqw384)
def zpA383 : zAnn := []

/-- PushedIn$Places.refuses () -/
def zpC384 : zC := (75, (3, 83), ([(0, 1, 0, 0), (0, 2, 0, 0)], ([zqv170, zqv210, zqv154, zqv261, zqv166, zqv166], [], [zqa59, zqa37, zqa38, zqa0], [], [], [])), [([], ([zqv170, zqv210, zqv154, zqv261, zqv166, zqv166], [], [], [zqa1], [], [])), ([], ([zqv170, zqv210, zqv154, zqv261, zqv221, zqv166], [], [], [zqa2], [], [])), ([], ([zqv170, zqv210, zqv154, zqv261, zqv221, zqv166], [], [], [zqa3], [], [])), ([], ([zqv170, zqv210, zqv154, zqv261, zqv221, zqv166], [], [], [zqa4], [], [])), ([], ([zqv170, zqv210, zqv154, zqv261, zqv221, zqv231], [], [], [zqa8], [], []))], zqw384)
def zpA384 : zAnn := []

/-- PushedIn.put () -/
def zpC385 : zC := (26, (4, 106), ([(0, 1, 0, 0), (0, 2, 0, 0), (0, 3, 0, 0)], ([zqv170, zqv210, zqv154, zqv261, zqv166, zqv166, zqv168], [], [zqa50, zqa37, zqa38, zqa49, zqa0, zqa0], [], [], [])), [([], ([zqv170, zqv210, zqv154, zqv261, zqv166, zqv166, zqv168], [], [], [zqa1], [], [])), ([], ([zqv170, zqv210, zqv154, zqv261, zqv221, zqv166, zqv168], [], [], [zqa2], [], [])), ([], ([zqv170, zqv210, zqv154, zqv261, zqv221, zqv166, zqv168], [], [], [zqa3], [], [])), ([], ([zqv170, zqv210, zqv154, zqv261, zqv221, zqv166, zqv168], [], [], [zqa4], [], [])), ([], ([zqv170, zqv210, zqv154, zqv261, zqv221, zqv231, zqv168], [], [], [zqa9], [], []))], [(44, 49, 0, 0)])
def zpA385 : zAnn := []

/-- PushedIn.element () -/
def zpC386 : zC := (10, (4, 106), ([(0, 1, 0, 0), (0, 2, 0, 0)], ([zqv170, zqv210, zqv154, zqv261, zqv166, zqv166], [], [zqa50, zqa37, zqa38], [], [], [])), [([(1, 0, 0, 0)], ([zqv170, zqv210, zqv154, zqv261, zqv221, zqv231, zqv168], [], [], [zqa49], [], [])), ([], ([zqv170, zqv210, zqv154, zqv261, zqv166, zqv166], [], [], [(2, 0, (-9223372036854775808), 0, 0)], [], []))], zqw384)
def zpA386 : zAnn := []

/-- PushedIn$Places.hasRange ((3, (-2147483648, 2147483647)),) -/
def zpC387 : zC := (68, (1, 40), ([(0, 1, 0, 0), (0, 2, 0, 0), (0, 3, 0, 0)], ([zqv170, zqv210, zqv154, zqv261, zqv221, zqv166, zqv160], [], [zqa59, zqa37, zqa38, zqa39], [], [], [])), [([], ([zqv170, zqv210, zqv154, zqv261, zqv221, zqv166, zqv160], [], [], [zqa8], [], []))], zqw384)
def zpA387 : zAnn := []

/-- PushedIn$Places.hasRange ((3, 0),) -/
def zpC388 : zC := (68, (1, 40), ([(0, 1, 0, 0), (0, 2, 0, 0)], ([zqv170, zqv210, zqv154, zqv261, zqv221, zqv166], [], [zqa59, zqa37, zqa38, zqa8], [], [], [])), [([], ([zqv170, zqv210, zqv154, zqv261, zqv221, [((-2147483648), (-1)), (1, 2147483647)]], [], [], [zqa8], [], [])), ([], ([zqv170, zqv210, zqv154, zqv261, zqv221, zqv233], [], [], [zqa9], [], []))], zqw384)
def zpA388 : zAnn := []

/-- PushedIn$Places.hasRange ((3, 1),) -/
def zpC389 : zC := (68, (1, 40), ([(0, 1, 0, 0), (0, 2, 0, 0)], ([zqv170, zqv210, zqv154, zqv261, zqv221, zqv166], [], [zqa59, zqa37, zqa38, zqa9], [], [], [])), [([], ([zqv170, zqv210, zqv154, zqv261, zqv221, zqv166], [], [], [zqa8], [], [])), ([], ([zqv170, zqv210, zqv154, zqv261, zqv221, zqv231], [], [], [zqa9], [], []))], zqw384)
def zpA389 : zAnn := []

/-- PushedIn$Places.hasRange ((3, 10),) -/
def zpC390 : zC := (68, (1, 40), ([(0, 1, 0, 0), (0, 2, 0, 0)], ([zqv170, zqv210, zqv154, zqv261, zqv221, zqv166], [], [zqa59, zqa37, zqa38, zqa10], [], [], [])), [([], ([zqv170, zqv210, zqv154, zqv261, zqv221, zqv166], [], [], [zqa8], [], [])), ([], ([zqv170, zqv210, zqv154, zqv261, zqv221, zqv222], [], [], [zqa9], [], []))], zqw384)
def zpA390 : zAnn := []

/-- PushedIn$Places.hasRange ((3, 11),) -/
def zpC391 : zC := (68, (1, 40), ([(0, 1, 0, 0), (0, 2, 0, 0)], ([zqv170, zqv210, zqv154, zqv261, zqv221, zqv166], [], [zqa59, zqa37, zqa38, zqa12], [], [], [])), [([], ([zqv170, zqv210, zqv154, zqv261, zqv221, zqv166], [], [], [zqa8], [], [])), ([], ([zqv170, zqv210, zqv154, zqv261, zqv221, zqv220], [], [], [zqa9], [], []))], zqw384)
def zpA391 : zAnn := []

/-- PushedIn$Places.hasRange ((3, 12),) -/
def zpC392 : zC := (68, (1, 40), ([(0, 1, 0, 0), (0, 2, 0, 0)], ([zqv170, zqv210, zqv154, zqv261, zqv221, zqv166], [], [zqa59, zqa37, zqa38, (1, 0, 12, 0, 0)], [], [], [])), [([], ([zqv170, zqv210, zqv154, zqv261, zqv221, zqv166], [], [], [zqa8], [], [])), ([], ([zqv170, zqv210, zqv154, zqv261, zqv221, zqv219], [], [], [zqa9], [], []))], zqw384)
def zpA392 : zAnn := []

/-- PushedIn$Places.hasRange ((3, 13),) -/
def zpC393 : zC := (68, (1, 40), ([(0, 1, 0, 0), (0, 2, 0, 0)], ([zqv170, zqv210, zqv154, zqv261, zqv221, zqv166], [], [zqa59, zqa37, zqa38, (1, 0, 13, 0, 0)], [], [], [])), [([], ([zqv170, zqv210, zqv154, zqv261, zqv221, zqv166], [], [], [zqa8], [], [])), ([], ([zqv170, zqv210, zqv154, zqv261, zqv221, zqv218], [], [], [zqa9], [], []))], zqw384)
def zpA393 : zAnn := []

/-- PushedIn$Places.hasRange ((3, 14),) -/
def zpC394 : zC := (68, (1, 40), ([(0, 1, 0, 0), (0, 2, 0, 0)], ([zqv170, zqv210, zqv154, zqv261, zqv221, zqv166], [], [zqa59, zqa37, zqa38, (1, 0, 14, 0, 0)], [], [], [])), [([], ([zqv170, zqv210, zqv154, zqv261, zqv221, zqv166], [], [], [zqa8], [], [])), ([], ([zqv170, zqv210, zqv154, zqv261, zqv221, zqv216], [], [], [zqa9], [], []))], zqw384)
def zpA394 : zAnn := []

/-- PushedIn$Places.hasRange ((3, 15),) -/
def zpC395 : zC := (68, (1, 40), ([(0, 1, 0, 0), (0, 2, 0, 0)], ([zqv170, zqv210, zqv154, zqv261, zqv221, zqv166], [], [zqa59, zqa37, zqa38, (1, 0, 15, 0, 0)], [], [], [])), [([], ([zqv170, zqv210, zqv154, zqv261, zqv221, zqv166], [], [], [zqa8], [], [])), ([], ([zqv170, zqv210, zqv154, zqv261, zqv221, zqv215], [], [], [zqa9], [], []))], zqw384)
def zpA395 : zAnn := []

/-- PushedIn$Places.hasRange ((3, 16),) -/
def zpC396 : zC := (68, (1, 40), ([(0, 1, 0, 0), (0, 2, 0, 0)], ([zqv170, zqv210, zqv154, zqv261, zqv221, zqv166], [], [zqa59, zqa37, zqa38, (1, 0, 16, 0, 0)], [], [], [])), [([], ([zqv170, zqv210, zqv154, zqv261, zqv221, zqv166], [], [], [zqa8], [], [])), ([], ([zqv170, zqv210, zqv154, zqv261, zqv221, zqv214], [], [], [zqa9], [], []))], zqw384)
def zpA396 : zAnn := []

/-- PushedIn$Places.hasRange ((3, 17),) -/
def zpC397 : zC := (68, (1, 40), ([(0, 1, 0, 0), (0, 2, 0, 0)], ([zqv170, zqv210, zqv154, zqv261, zqv221, zqv166], [], [zqa59, zqa37, zqa38, (1, 0, 17, 0, 0)], [], [], [])), [([], ([zqv170, zqv210, zqv154, zqv261, zqv221, zqv166], [], [], [zqa8], [], [])), ([], ([zqv170, zqv210, zqv154, zqv261, zqv221, zqv213], [], [], [zqa9], [], []))], zqw384)
def zpA397 : zAnn := []

/-- PushedIn$Places.hasRange ((3, 18),) -/
def zpC398 : zC := (68, (1, 40), ([(0, 1, 0, 0), (0, 2, 0, 0)], ([zqv170, zqv210, zqv154, zqv261, zqv221, zqv166], [], [zqa59, zqa37, zqa38, (1, 0, 18, 0, 0)], [], [], [])), [([], ([zqv170, zqv210, zqv154, zqv261, zqv221, zqv166], [], [], [zqa8], [], [])), ([], ([zqv170, zqv210, zqv154, zqv261, zqv221, zqv212], [], [], [zqa9], [], []))], zqw384)
def zpA398 : zAnn := []

/-- PushedIn$Places.hasRange ((3, 19),) -/
def zpC399 : zC := (68, (1, 40), ([(0, 1, 0, 0), (0, 2, 0, 0)], ([zqv170, zqv210, zqv154, zqv261, zqv221, zqv166], [], [zqa59, zqa37, zqa38, (1, 0, 19, 0, 0)], [], [], [])), [([], ([zqv170, zqv210, zqv154, zqv261, zqv221, zqv166], [], [], [zqa8], [], [])), ([], ([zqv170, zqv210, zqv154, zqv261, zqv221, zqv211], [], [], [zqa9], [], []))], zqw384)
def zpA399 : zAnn := []

/-- PushedIn$Places.hasRange ((3, 2),) -/
def zpC400 : zC := (68, (1, 40), ([(0, 1, 0, 0), (0, 2, 0, 0)], ([zqv170, zqv210, zqv154, zqv261, zqv221, zqv166], [], [zqa59, zqa37, zqa38, zqa13], [], [], [])), [([], ([zqv170, zqv210, zqv154, zqv261, zqv221, zqv166], [], [], [zqa8], [], [])), ([], ([zqv170, zqv210, zqv154, zqv261, zqv221, zqv230], [], [], [zqa9], [], []))], zqw384)
def zpA400 : zAnn := []

/-- PushedIn$Places.hasRange ((3, 20),) -/
def zpC401 : zC := (68, (1, 40), ([(0, 1, 0, 0), (0, 2, 0, 0)], ([zqv170, zqv210, zqv154, zqv261, zqv221, zqv166], [], [zqa59, zqa37, zqa38, zqa14], [], [], [])), [([], ([zqv170, zqv210, zqv154, zqv261, zqv221, zqv166], [], [], [zqa8], [], [])), ([], ([zqv170, zqv210, zqv154, zqv261, zqv221, zqv210], [], [], [zqa9], [], []))], zqw384)
def zpA401 : zAnn := []

/-- PushedIn$Places.hasRange ((3, 21),) -/
def zpC402 : zC := (68, (1, 40), ([(0, 1, 0, 0), (0, 2, 0, 0)], ([zqv170, zqv210, zqv154, zqv261, zqv221, zqv166], [], [zqa59, zqa37, zqa38, (1, 0, 21, 0, 0)], [], [], [])), [([], ([zqv170, zqv210, zqv154, zqv261, zqv221, zqv166], [], [], [zqa8], [], [])), ([], ([zqv170, zqv210, zqv154, zqv261, zqv221, zqv208], [], [], [zqa9], [], []))], zqw384)
def zpA402 : zAnn := []

/-- PushedIn$Places.hasRange ((3, 22),) -/
def zpC403 : zC := (68, (1, 40), ([(0, 1, 0, 0), (0, 2, 0, 0)], ([zqv170, zqv210, zqv154, zqv261, zqv221, zqv166], [], [zqa59, zqa37, zqa38, (1, 0, 22, 0, 0)], [], [], [])), [([], ([zqv170, zqv210, zqv154, zqv261, zqv221, zqv166], [], [], [zqa8], [], [])), ([], ([zqv170, zqv210, zqv154, zqv261, zqv221, zqv207], [], [], [zqa9], [], []))], zqw384)
def zpA403 : zAnn := []

/-- PushedIn$Places.hasRange ((3, 23),) -/
def zpC404 : zC := (68, (1, 40), ([(0, 1, 0, 0), (0, 2, 0, 0)], ([zqv170, zqv210, zqv154, zqv261, zqv221, zqv166], [], [zqa59, zqa37, zqa38, (1, 0, 23, 0, 0)], [], [], [])), [([], ([zqv170, zqv210, zqv154, zqv261, zqv221, zqv166], [], [], [zqa8], [], [])), ([], ([zqv170, zqv210, zqv154, zqv261, zqv221, zqv206], [], [], [zqa9], [], []))], zqw384)
def zpA404 : zAnn := []

/-- PushedIn$Places.hasRange ((3, 24),) -/
def zpC405 : zC := (68, (1, 40), ([(0, 1, 0, 0), (0, 2, 0, 0)], ([zqv170, zqv210, zqv154, zqv261, zqv221, zqv166], [], [zqa59, zqa37, zqa38, (1, 0, 24, 0, 0)], [], [], [])), [([], ([zqv170, zqv210, zqv154, zqv261, zqv221, zqv166], [], [], [zqa8], [], [])), ([], ([zqv170, zqv210, zqv154, zqv261, zqv221, zqv205], [], [], [zqa9], [], []))], zqw384)
def zpA405 : zAnn := []

/-- PushedIn$Places.hasRange ((3, 25),) -/
def zpC406 : zC := (68, (1, 40), ([(0, 1, 0, 0), (0, 2, 0, 0)], ([zqv170, zqv210, zqv154, zqv261, zqv221, zqv166], [], [zqa59, zqa37, zqa38, (1, 0, 25, 0, 0)], [], [], [])), [([], ([zqv170, zqv210, zqv154, zqv261, zqv221, zqv166], [], [], [zqa8], [], [])), ([], ([zqv170, zqv210, zqv154, zqv261, zqv221, zqv204], [], [], [zqa9], [], []))], zqw384)
def zpA406 : zAnn := []

/-- PushedIn$Places.hasRange ((3, 26),) -/
def zpC407 : zC := (68, (1, 40), ([(0, 1, 0, 0), (0, 2, 0, 0)], ([zqv170, zqv210, zqv154, zqv261, zqv221, zqv166], [], [zqa59, zqa37, zqa38, (1, 0, 26, 0, 0)], [], [], [])), [([], ([zqv170, zqv210, zqv154, zqv261, zqv221, zqv166], [], [], [zqa8], [], [])), ([], ([zqv170, zqv210, zqv154, zqv261, zqv221, zqv203], [], [], [zqa9], [], []))], zqw384)
def zpA407 : zAnn := []

/-- PushedIn$Places.hasRange ((3, 27),) -/
def zpC408 : zC := (68, (1, 40), ([(0, 1, 0, 0), (0, 2, 0, 0)], ([zqv170, zqv210, zqv154, zqv261, zqv221, zqv166], [], [zqa59, zqa37, zqa38, (1, 0, 27, 0, 0)], [], [], [])), [([], ([zqv170, zqv210, zqv154, zqv261, zqv221, zqv166], [], [], [zqa8], [], [])), ([], ([zqv170, zqv210, zqv154, zqv261, zqv221, zqv202], [], [], [zqa9], [], []))], zqw384)
def zpA408 : zAnn := []

/-- PushedIn$Places.hasRange ((3, 28),) -/
def zpC409 : zC := (68, (1, 40), ([(0, 1, 0, 0), (0, 2, 0, 0)], ([zqv170, zqv210, zqv154, zqv261, zqv221, zqv166], [], [zqa59, zqa37, zqa38, (1, 0, 28, 0, 0)], [], [], [])), [([], ([zqv170, zqv210, zqv154, zqv261, zqv221, zqv166], [], [], [zqa8], [], [])), ([], ([zqv170, zqv210, zqv154, zqv261, zqv221, zqv201], [], [], [zqa9], [], []))], zqw384)
def zpA409 : zAnn := []

/-- PushedIn$Places.hasRange ((3, 29),) -/
def zpC410 : zC := (68, (1, 40), ([(0, 1, 0, 0), (0, 2, 0, 0)], ([zqv170, zqv210, zqv154, zqv261, zqv221, zqv166], [], [zqa59, zqa37, zqa38, (1, 0, 29, 0, 0)], [], [], [])), [([], ([zqv170, zqv210, zqv154, zqv261, zqv221, zqv166], [], [], [zqa8], [], [])), ([], ([zqv170, zqv210, zqv154, zqv261, zqv221, zqv200], [], [], [zqa9], [], []))], zqw384)
def zpA410 : zAnn := []

/-- PushedIn$Places.hasRange ((3, 3),) -/
def zpC411 : zC := (68, (1, 40), ([(0, 1, 0, 0), (0, 2, 0, 0)], ([zqv170, zqv210, zqv154, zqv261, zqv221, zqv166], [], [zqa59, zqa37, zqa38, zqa15], [], [], [])), [([], ([zqv170, zqv210, zqv154, zqv261, zqv221, zqv166], [], [], [zqa8], [], [])), ([], ([zqv170, zqv210, zqv154, zqv261, zqv221, zqv229], [], [], [zqa9], [], []))], zqw384)
def zpA411 : zAnn := []

/-- PushedIn$Places.hasRange ((3, 30),) -/
def zpC412 : zC := (68, (1, 40), ([(0, 1, 0, 0), (0, 2, 0, 0)], ([zqv170, zqv210, zqv154, zqv261, zqv221, zqv166], [], [zqa59, zqa37, zqa38, zqa16], [], [], [])), [([], ([zqv170, zqv210, zqv154, zqv261, zqv221, zqv166], [], [], [zqa8], [], [])), ([], ([zqv170, zqv210, zqv154, zqv261, zqv221, zqv199], [], [], [zqa9], [], []))], zqw384)
def zpA412 : zAnn := []

/-- PushedIn$Places.hasRange ((3, 31),) -/
def zpC413 : zC := (68, (1, 40), ([(0, 1, 0, 0), (0, 2, 0, 0)], ([zqv170, zqv210, zqv154, zqv261, zqv221, zqv166], [], [zqa59, zqa37, zqa38, (1, 0, 31, 0, 0)], [], [], [])), [([], ([zqv170, zqv210, zqv154, zqv261, zqv221, zqv166], [], [], [zqa8], [], [])), ([], ([zqv170, zqv210, zqv154, zqv261, zqv221, zqv197], [], [], [zqa9], [], []))], zqw384)
def zpA413 : zAnn := []

/-- PushedIn$Places.hasRange ((3, 32),) -/
def zpC414 : zC := (68, (1, 40), ([(0, 1, 0, 0), (0, 2, 0, 0)], ([zqv170, zqv210, zqv154, zqv261, zqv221, zqv166], [], [zqa59, zqa37, zqa38, (1, 0, 32, 0, 0)], [], [], [])), [([], ([zqv170, zqv210, zqv154, zqv261, zqv221, zqv166], [], [], [zqa8], [], [])), ([], ([zqv170, zqv210, zqv154, zqv261, zqv221, zqv196], [], [], [zqa9], [], []))], zqw384)
def zpA414 : zAnn := []

/-- PushedIn$Places.hasRange ((3, 33),) -/
def zpC415 : zC := (68, (1, 40), ([(0, 1, 0, 0), (0, 2, 0, 0)], ([zqv170, zqv210, zqv154, zqv261, zqv221, zqv166], [], [zqa59, zqa37, zqa38, (1, 0, 33, 0, 0)], [], [], [])), [([], ([zqv170, zqv210, zqv154, zqv261, zqv221, zqv166], [], [], [zqa8], [], [])), ([], ([zqv170, zqv210, zqv154, zqv261, zqv221, zqv195], [], [], [zqa9], [], []))], zqw384)
def zpA415 : zAnn := []

/-- PushedIn$Places.hasRange ((3, 34),) -/
def zpC416 : zC := (68, (1, 40), ([(0, 1, 0, 0), (0, 2, 0, 0)], ([zqv170, zqv210, zqv154, zqv261, zqv221, zqv166], [], [zqa59, zqa37, zqa38, (1, 0, 34, 0, 0)], [], [], [])), [([], ([zqv170, zqv210, zqv154, zqv261, zqv221, zqv166], [], [], [zqa8], [], [])), ([], ([zqv170, zqv210, zqv154, zqv261, zqv221, zqv194], [], [], [zqa9], [], []))], zqw384)
def zpA416 : zAnn := []

/-- PushedIn$Places.hasRange ((3, 35),) -/
def zpC417 : zC := (68, (1, 40), ([(0, 1, 0, 0), (0, 2, 0, 0)], ([zqv170, zqv210, zqv154, zqv261, zqv221, zqv166], [], [zqa59, zqa37, zqa38, zqa17], [], [], [])), [([], ([zqv170, zqv210, zqv154, zqv261, zqv221, zqv166], [], [], [zqa8], [], [])), ([], ([zqv170, zqv210, zqv154, zqv261, zqv221, zqv192], [], [], [zqa9], [], []))], zqw384)
def zpA417 : zAnn := []

/-- PushedIn$Places.hasRange ((3, 36),) -/
def zpC418 : zC := (68, (1, 40), ([(0, 1, 0, 0), (0, 2, 0, 0)], ([zqv170, zqv210, zqv154, zqv261, zqv221, zqv166], [], [zqa59, zqa37, zqa38, (1, 0, 36, 0, 0)], [], [], [])), [([], ([zqv170, zqv210, zqv154, zqv261, zqv221, zqv166], [], [], [zqa8], [], [])), ([], ([zqv170, zqv210, zqv154, zqv261, zqv221, zqv191], [], [], [zqa9], [], []))], zqw384)
def zpA418 : zAnn := []

/-- PushedIn$Places.hasRange ((3, 37),) -/
def zpC419 : zC := (68, (1, 40), ([(0, 1, 0, 0), (0, 2, 0, 0)], ([zqv170, zqv210, zqv154, zqv261, zqv221, zqv166], [], [zqa59, zqa37, zqa38, (1, 0, 37, 0, 0)], [], [], [])), [([], ([zqv170, zqv210, zqv154, zqv261, zqv221, zqv166], [], [], [zqa8], [], [])), ([], ([zqv170, zqv210, zqv154, zqv261, zqv221, zqv190], [], [], [zqa9], [], []))], zqw384)
def zpA419 : zAnn := []

/-- PushedIn$Places.hasRange ((3, 38),) -/
def zpC420 : zC := (68, (1, 40), ([(0, 1, 0, 0), (0, 2, 0, 0)], ([zqv170, zqv210, zqv154, zqv261, zqv221, zqv166], [], [zqa59, zqa37, zqa38, zqa18], [], [], [])), [([], ([zqv170, zqv210, zqv154, zqv261, zqv221, zqv166], [], [], [zqa8], [], [])), ([], ([zqv170, zqv210, zqv154, zqv261, zqv221, zqv189], [], [], [zqa9], [], []))], zqw384)
def zpA420 : zAnn := []

/-- PushedIn$Places.hasRange ((3, 39),) -/
def zpC421 : zC := (68, (1, 40), ([(0, 1, 0, 0), (0, 2, 0, 0)], ([zqv170, zqv210, zqv154, zqv261, zqv221, zqv166], [], [zqa59, zqa37, zqa38, (1, 0, 39, 0, 0)], [], [], [])), [([], ([zqv170, zqv210, zqv154, zqv261, zqv221, zqv166], [], [], [zqa8], [], [])), ([], ([zqv170, zqv210, zqv154, zqv261, zqv221, zqv185], [], [], [zqa9], [], []))], zqw384)
def zpA421 : zAnn := []

/-- PushedIn$Places.hasRange ((3, 4),) -/
def zpC422 : zC := (68, (1, 40), ([(0, 1, 0, 0), (0, 2, 0, 0)], ([zqv170, zqv210, zqv154, zqv261, zqv221, zqv166], [], [zqa59, zqa37, zqa38, zqa19], [], [], [])), [([], ([zqv170, zqv210, zqv154, zqv261, zqv221, zqv166], [], [], [zqa8], [], [])), ([], ([zqv170, zqv210, zqv154, zqv261, zqv221, zqv228], [], [], [zqa9], [], []))], zqw384)
def zpA422 : zAnn := []

/-- PushedIn$Places.hasRange ((3, 40),) -/
def zpC423 : zC := (68, (1, 40), ([(0, 1, 0, 0), (0, 2, 0, 0)], ([zqv170, zqv210, zqv154, zqv261, zqv221, zqv166], [], [zqa59, zqa37, zqa38, zqa20], [], [], [])), [([], ([zqv170, zqv210, zqv154, zqv261, zqv221, zqv166], [], [], [zqa8], [], [])), ([], ([zqv170, zqv210, zqv154, zqv261, zqv221, zqv183], [], [], [zqa9], [], []))], zqw384)
def zpA423 : zAnn := []

/-- PushedIn$Places.hasRange ((3, 41),) -/
def zpC424 : zC := (68, (1, 40), ([(0, 1, 0, 0), (0, 2, 0, 0)], ([zqv170, zqv210, zqv154, zqv261, zqv221, zqv166], [], [zqa59, zqa37, zqa38, zqa21], [], [], [])), [([], ([zqv170, zqv210, zqv154, zqv261, zqv221, zqv166], [], [], [zqa8], [], [])), ([], ([zqv170, zqv210, zqv154, zqv261, zqv221, zqv181], [], [], [zqa9], [], []))], zqw384)
def zpA424 : zAnn := []

/-- PushedIn$Places.hasRange ((3, 42),) -/
def zpC425 : zC := (68, (1, 40), ([(0, 1, 0, 0), (0, 2, 0, 0)], ([zqv170, zqv210, zqv154, zqv261, zqv221, zqv166], [], [zqa59, zqa37, zqa38, (1, 0, 42, 0, 0)], [], [], [])), [([], ([zqv170, zqv210, zqv154, zqv261, zqv221, zqv166], [], [], [zqa8], [], [])), ([], ([zqv170, zqv210, zqv154, zqv261, zqv221, zqv180], [], [], [zqa9], [], []))], zqw384)
def zpA425 : zAnn := []

/-- PushedIn$Places.hasRange ((3, 43),) -/
def zpC426 : zC := (68, (1, 40), ([(0, 1, 0, 0), (0, 2, 0, 0)], ([zqv170, zqv210, zqv154, zqv261, zqv221, zqv166], [], [zqa59, zqa37, zqa38, (1, 0, 43, 0, 0)], [], [], [])), [([], ([zqv170, zqv210, zqv154, zqv261, zqv221, zqv166], [], [], [zqa8], [], [])), ([], ([zqv170, zqv210, zqv154, zqv261, zqv221, zqv179], [], [], [zqa9], [], []))], zqw384)
def zpA426 : zAnn := []

/-- PushedIn$Places.hasRange ((3, 44),) -/
def zpC427 : zC := (68, (1, 40), ([(0, 1, 0, 0), (0, 2, 0, 0)], ([zqv170, zqv210, zqv154, zqv261, zqv221, zqv166], [], [zqa59, zqa37, zqa38, (1, 0, 44, 0, 0)], [], [], [])), [([], ([zqv170, zqv210, zqv154, zqv261, zqv221, zqv166], [], [], [zqa8], [], [])), ([], ([zqv170, zqv210, zqv154, zqv261, zqv221, zqv178], [], [], [zqa9], [], []))], zqw384)
def zpA427 : zAnn := []

/-- PushedIn$Places.hasRange ((3, 45),) -/
def zpC428 : zC := (68, (1, 40), ([(0, 1, 0, 0), (0, 2, 0, 0)], ([zqv170, zqv210, zqv154, zqv261, zqv221, zqv166], [], [zqa59, zqa37, zqa38, (1, 0, 45, 0, 0)], [], [], [])), [([], ([zqv170, zqv210, zqv154, zqv261, zqv221, zqv166], [], [], [zqa8], [], [])), ([], ([zqv170, zqv210, zqv154, zqv261, zqv221, zqv177], [], [], [zqa9], [], []))], zqw384)
def zpA428 : zAnn := []

/-- PushedIn$Places.hasRange ((3, 46),) -/
def zpC429 : zC := (68, (1, 40), ([(0, 1, 0, 0), (0, 2, 0, 0)], ([zqv170, zqv210, zqv154, zqv261, zqv221, zqv166], [], [zqa59, zqa37, zqa38, (1, 0, 46, 0, 0)], [], [], [])), [([], ([zqv170, zqv210, zqv154, zqv261, zqv221, zqv166], [], [], [zqa8], [], [])), ([], ([zqv170, zqv210, zqv154, zqv261, zqv221, zqv176], [], [], [zqa9], [], []))], zqw384)
def zpA429 : zAnn := []

/-- PushedIn$Places.hasRange ((3, 47),) -/
def zpC430 : zC := (68, (1, 40), ([(0, 1, 0, 0), (0, 2, 0, 0)], ([zqv170, zqv210, zqv154, zqv261, zqv221, zqv166], [], [zqa59, zqa37, zqa38, (1, 0, 47, 0, 0)], [], [], [])), [([], ([zqv170, zqv210, zqv154, zqv261, zqv221, zqv166], [], [], [zqa8], [], [])), ([], ([zqv170, zqv210, zqv154, zqv261, zqv221, zqv175], [], [], [zqa9], [], []))], zqw384)
def zpA430 : zAnn := []

/-- PushedIn$Places.hasRange ((3, 48),) -/
def zpC431 : zC := (68, (1, 40), ([(0, 1, 0, 0), (0, 2, 0, 0)], ([zqv170, zqv210, zqv154, zqv261, zqv221, zqv166], [], [zqa59, zqa37, zqa38, (1, 0, 48, 0, 0)], [], [], [])), [([], ([zqv170, zqv210, zqv154, zqv261, zqv221, zqv166], [], [], [zqa8], [], [])), ([], ([zqv170, zqv210, zqv154, zqv261, zqv221, zqv174], [], [], [zqa9], [], []))], zqw384)
def zpA431 : zAnn := []

/-- PushedIn$Places.hasRange ((3, 49),) -/
def zpC432 : zC := (68, (1, 40), ([(0, 1, 0, 0), (0, 2, 0, 0)], ([zqv170, zqv210, zqv154, zqv261, zqv221, zqv166], [], [zqa59, zqa37, zqa38, (1, 0, 49, 0, 0)], [], [], [])), [([], ([zqv170, zqv210, zqv154, zqv261, zqv221, zqv166], [], [], [zqa8], [], [])), ([], ([zqv170, zqv210, zqv154, zqv261, zqv221, zqv173], [], [], [zqa9], [], []))], zqw384)
def zpA432 : zAnn := []

/-- PushedIn$Places.hasRange ((3, 5),) -/
def zpC433 : zC := (68, (1, 40), ([(0, 1, 0, 0), (0, 2, 0, 0)], ([zqv170, zqv210, zqv154, zqv261, zqv221, zqv166], [], [zqa59, zqa37, zqa38, zqa22], [], [], [])), [([], ([zqv170, zqv210, zqv154, zqv261, zqv221, zqv166], [], [], [zqa8], [], [])), ([], ([zqv170, zqv210, zqv154, zqv261, zqv221, zqv227], [], [], [zqa9], [], []))], zqw384)
def zpA433 : zAnn := []

/-- PushedIn$Places.hasRange ((3, 50),) -/
def zpC434 : zC := (68, (1, 40), ([(0, 1, 0, 0), (0, 2, 0, 0)], ([zqv170, zqv210, zqv154, zqv261, zqv221, zqv166], [], [zqa59, zqa37, zqa38, zqa23], [], [], [])), [([], ([zqv170, zqv210, zqv154, zqv261, zqv221, zqv166], [], [], [zqa8], [], [])), ([], ([zqv170, zqv210, zqv154, zqv261, zqv221, zqv172], [], [], [zqa9], [], []))], zqw384)
def zpA434 : zAnn := []

/-- PushedIn$Places.hasRange ((3, 51),) -/
def zpC435 : zC := (68, (1, 40), ([(0, 1, 0, 0), (0, 2, 0, 0)], ([zqv170, zqv210, zqv154, zqv261, zqv221, zqv166], [], [zqa59, zqa37, zqa38, (1, 0, 51, 0, 0)], [], [], [])), [([], ([zqv170, zqv210, zqv154, zqv261, zqv221, zqv166], [], [], [zqa8], [], [])), ([], ([zqv170, zqv210, zqv154, zqv261, zqv221, zqv239], [], [], [zqa9], [], []))], zqw384)
def zpA435 : zAnn := []

/-- PushedIn$Places.hasRange ((3, 52),) -/
def zpC436 : zC := (68, (1, 40), ([(0, 1, 0, 0), (0, 2, 0, 0)], ([zqv170, zqv210, zqv154, zqv261, zqv221, zqv166], [], [zqa59, zqa37, zqa38, (1, 0, 52, 0, 0)], [], [], [])), [([], ([zqv170, zqv210, zqv154, zqv261, zqv221, zqv166], [], [], [zqa8], [], [])), ([], ([zqv170, zqv210, zqv154, zqv261, zqv221, zqv238], [], [], [zqa9], [], []))], zqw384)
def zpA436 : zAnn := []

/-- PushedIn$Places.hasRange ((3, 53),) -/
def zpC437 : zC := (68, (1, 40), ([(0, 1, 0, 0), (0, 2, 0, 0)], ([zqv170, zqv210, zqv154, zqv261, zqv221, zqv166], [], [zqa59, zqa37, zqa38, (1, 0, 53, 0, 0)], [], [], [])), [([], ([zqv170, zqv210, zqv154, zqv261, zqv221, zqv166], [], [], [zqa8], [], [])), ([], ([zqv170, zqv210, zqv154, zqv261, zqv221, zqv235], [], [], [zqa9], [], []))], zqw384)
def zpA437 : zAnn := []

/-- PushedIn$Places.hasRange ((3, 54),) -/
def zpC438 : zC := (68, (1, 40), ([(0, 1, 0, 0), (0, 2, 0, 0)], ([zqv170, zqv210, zqv154, zqv261, zqv221, zqv166], [], [zqa59, zqa37, zqa38, (1, 0, 54, 0, 0)], [], [], [])), [([], ([zqv170, zqv210, zqv154, zqv261, zqv221, zqv166], [], [], [zqa8], [], [])), ([], ([zqv170, zqv210, zqv154, zqv261, zqv221, zqv232], [], [], [zqa9], [], []))], zqw384)
def zpA438 : zAnn := []

/-- PushedIn$Places.hasRange ((3, 55),) -/
def zpC439 : zC := (68, (1, 40), ([(0, 1, 0, 0), (0, 2, 0, 0)], ([zqv170, zqv210, zqv154, zqv261, zqv221, zqv166], [], [zqa59, zqa37, zqa38, (1, 0, 55, 0, 0)], [], [], [])), [([], ([zqv170, zqv210, zqv154, zqv261, zqv221, zqv166], [], [], [zqa8], [], [])), ([], ([zqv170, zqv210, zqv154, zqv261, zqv221, zqv221], [], [], [zqa9], [], []))], zqw384)
def zpA439 : zAnn := []

/-- PushedIn$Places.hasRange ((3, 56),) -/
def zpC440 : zC := (68, (1, 40), ([(0, 1, 0, 0), (0, 2, 0, 0)], ([zqv170, zqv210, zqv154, zqv261, zqv221, zqv166], [], [zqa59, zqa37, zqa38, (1, 0, 56, 0, 0)], [], [], [])), [([], ([zqv170, zqv210, zqv154, zqv261, zqv221, zqv166], [], [], [zqa8], [], [])), ([], ([zqv170, zqv210, zqv154, zqv261, zqv221, zqv209], [], [], [zqa9], [], []))], zqw384)
def zpA440 : zAnn := []

/-- PushedIn$Places.hasRange ((3, 57),) -/
def zpC441 : zC := (68, (1, 40), ([(0, 1, 0, 0), (0, 2, 0, 0)], ([zqv170, zqv210, zqv154, zqv261, zqv221, zqv166], [], [zqa59, zqa37, zqa38, (1, 0, 57, 0, 0)], [], [], [])), [([], ([zqv170, zqv210, zqv154, zqv261, zqv221, zqv166], [], [], [zqa8], [], [])), ([], ([zqv170, zqv210, zqv154, zqv261, zqv221, zqv198], [], [], [zqa9], [], []))], zqw384)
def zpA441 : zAnn := []

/-- PushedIn$Places.hasRange ((3, 58),) -/
def zpC442 : zC := (68, (1, 40), ([(0, 1, 0, 0), (0, 2, 0, 0)], ([zqv170, zqv210, zqv154, zqv261, zqv221, zqv166], [], [zqa59, zqa37, zqa38, (1, 0, 58, 0, 0)], [], [], [])), [([], ([zqv170, zqv210, zqv154, zqv261, zqv221, zqv166], [], [], [zqa8], [], [])), ([], ([zqv170, zqv210, zqv154, zqv261, zqv221, zqv182], [], [], [zqa9], [], []))], zqw384)
def zpA442 : zAnn := []

/-- PushedIn$Places.hasRange ((3, 59),) -/
def zpC443 : zC := (68, (1, 40), ([(0, 1, 0, 0), (0, 2, 0, 0)], ([zqv170, zqv210, zqv154, zqv261, zqv221, zqv166], [], [zqa59, zqa37, zqa38, zqa24], [], [], [])), [([], ([zqv170, zqv210, zqv154, zqv261, zqv221, zqv166], [], [], [zqa8], [], [])), ([], ([zqv170, zqv210, zqv154, zqv261, zqv221, zqv171], [], [], [zqa9], [], []))], zqw384)
def zpA443 : zAnn := []

/-- PushedIn$Places.hasRange ((3, 6),) -/
def zpC444 : zC := (68, (1, 40), ([(0, 1, 0, 0), (0, 2, 0, 0)], ([zqv170, zqv210, zqv154, zqv261, zqv221, zqv166], [], [zqa59, zqa37, zqa38, zqa25], [], [], [])), [([], ([zqv170, zqv210, zqv154, zqv261, zqv221, zqv166], [], [], [zqa8], [], [])), ([], ([zqv170, zqv210, zqv154, zqv261, zqv221, zqv226], [], [], [zqa9], [], []))], zqw384)
def zpA444 : zAnn := []

/-- PushedIn$Places.hasRange ((3, 60),) -/
def zpC445 : zC := (68, (1, 40), ([(0, 1, 0, 0), (0, 2, 0, 0)], ([zqv170, zqv210, zqv154, zqv261, zqv221, zqv166], [], [zqa59, zqa37, zqa38, (1, 0, 60, 0, 0)], [], [], [])), [([], ([zqv170, zqv210, zqv154, zqv261, zqv221, zqv166], [], [], [zqa8], [], [])), ([], ([zqv170, zqv210, zqv154, zqv261, zqv221, zqv170], [], [], [zqa9], [], []))], zqw384)
def zpA445 : zAnn := []

/-- PushedIn$Places.hasRange ((3, 7),) -/
def zpC446 : zC := (68, (1, 40), ([(0, 1, 0, 0), (0, 2, 0, 0)], ([zqv170, zqv210, zqv154, zqv261, zqv221, zqv166], [], [zqa59, zqa37, zqa38, zqa26], [], [], [])), [([], ([zqv170, zqv210, zqv154, zqv261, zqv221, zqv166], [], [], [zqa8], [], [])), ([], ([zqv170, zqv210, zqv154, zqv261, zqv221, zqv225], [], [], [zqa9], [], []))], zqw384)
def zpA446 : zAnn := []

/-- PushedIn$Places.hasRange ((3, 8),) -/
def zpC447 : zC := (68, (1, 40), ([(0, 1, 0, 0), (0, 2, 0, 0)], ([zqv170, zqv210, zqv154, zqv261, zqv221, zqv166], [], [zqa59, zqa37, zqa38, zqa30], [], [], [])), [([], ([zqv170, zqv210, zqv154, zqv261, zqv221, zqv166], [], [], [zqa8], [], [])), ([], ([zqv170, zqv210, zqv154, zqv261, zqv221, zqv224], [], [], [zqa9], [], []))], zqw384)
def zpA447 : zAnn := []

/-- PushedIn$Places.hasRange ((3, 9),) -/
def zpC448 : zC := (68, (1, 40), ([(0, 1, 0, 0), (0, 2, 0, 0)], ([zqv170, zqv210, zqv154, zqv261, zqv221, zqv166], [], [zqa59, zqa37, zqa38, zqa32], [], [], [])), [([], ([zqv170, zqv210, zqv154, zqv261, zqv221, zqv166], [], [], [zqa8], [], [])), ([], ([zqv170, zqv210, zqv154, zqv261, zqv221, zqv223], [], [], [zqa9], [], []))], zqw384)
def zpA448 : zAnn := []

/-- PushedIn.shift () -/
def zpC449 : zC := (31, (3, 1000), ([(0, 1, 0, 0), (0, 2, 0, 0), (0, 3, 0, 0), (0, 4, 0, 0), (0, 5, 0, 0)], ([zqv170, zqv210, zqv154, zqv261, zqv166, zqv166, zqv166, zqv166, zqv166], [], [zqa50, zqa37, zqa38, zqa39, zqa40, zqa41, zqa0], [], [], [])), [([(1, 0, 0, 0)], ([zqv170, zqv210, zqv154, zqv261, zqv166, zqv166, zqv166, zqv166, zqv166, [((-13), (-11)), ((-1), 60)]], [], [], [zqa42], [], []))], [(44, 49, 0, 0)])
def zpA449h0 : Nat × zTm × zRk := (19, ([], ([zqv170, zqv210, zqv154, zqv261, zqv221, zqv166, zqv221, zqv166, zqv160], [], [zqa50, zqa37, zqa38, zqa39, zqa40, zqa41, zqa8], [], [], [])), [(2, 0, 0)])
def zpA449h1 : Nat × zTm × zRk := (19, ([], ([zqv170, zqv210, zqv154, zqv261, zqv221, zqv166, zqv221, zqv166, zqv170], [], [zqa50, zqa37, zqa38, zqa39, zqa40, zqa41, zqa8], [], [], [])), [(2, 0, 1)])
def zpA449h2 : Nat × zTm × zRk := (19, ([], ([zqv170, zqv210, zqv154, zqv261, zqv221, zqv166, zqv221, zqv166, zqv243], [], [zqa50, zqa37, zqa38, zqa39, zqa40, zqa41, zqa8], [], [], [])), [(2, 0, 2)])
def zpA449h3 : Nat × zTm × zRk := (19, ([], ([zqv170, zqv210, zqv154, zqv261, zqv221, zqv166, zqv221, zqv166, zqv260], [], [zqa50, zqa37, zqa38, zqa39, zqa40, zqa41, zqa8], [], [], [])), [(2, 0, 3)])
def zpA449h4 : Nat × zTm × zRk := (19, ([], ([zqv170, zqv210, zqv154, zqv261, zqv221, zqv166, zqv221, zqv166, zqv264], [], [zqa50, zqa37, zqa38, zqa39, zqa40, zqa41, zqa8], [], [], [])), [(2, 0, 4)])
def zpA449h5 : Nat × zTm × zRk := (19, ([], ([zqv170, zqv210, zqv154, zqv261, zqv221, zqv166, zqv221, zqv166, zqv266], [], [zqa50, zqa37, zqa38, zqa39, zqa40, zqa41, zqa8], [], [], [])), [(2, 0, 5)])
def zpA449h6 : Nat × zTm × zRk := (19, ([], ([zqv170, zqv210, zqv154, zqv261, zqv221, zqv166, zqv221, zqv166, zqv267], [], [zqa50, zqa37, zqa38, zqa39, zqa40, zqa41, zqa8], [], [], [])), [(2, 0, 6)])
def zpA449h7 : Nat × zTm × zRk := (19, ([], ([zqv170, zqv210, zqv154, zqv261, zqv221, zqv166, zqv221, zqv166, zqv268], [], [zqa50, zqa37, zqa38, zqa39, zqa40, zqa41, zqa8], [], [], [])), [(2, 0, 7)])
def zpA449h8 : Nat × zTm × zRk := (19, ([], ([zqv170, zqv210, zqv154, zqv261, zqv221, zqv166, zqv221, zqv166, zqv269], [], [zqa50, zqa37, zqa38, zqa39, zqa40, zqa41, zqa8], [], [], [])), [(2, 0, 8)])
def zpA449h9 : Nat × zTm × zRk := (19, ([], ([zqv170, zqv210, zqv154, zqv261, zqv221, zqv166, zqv221, zqv166, zqv270], [], [zqa50, zqa37, zqa38, zqa39, zqa40, zqa41, zqa8], [], [], [])), [(2, 0, 9)])
def zpA449h10 : Nat × zTm × zRk := (19, ([], ([zqv170, zqv210, zqv154, zqv261, zqv221, zqv166, zqv221, zqv166, zqv271], [], [zqa50, zqa37, zqa38, zqa39, zqa40, zqa41, zqa8], [], [], [])), [(2, 0, 10)])
def zpA449h11 : Nat × zTm × zRk := (19, ([], ([zqv170, zqv210, zqv154, zqv261, zqv221, zqv166, zqv221, zqv166, zqv272], [], [zqa50, zqa37, zqa38, zqa39, zqa40, zqa41, zqa8], [], [], [])), [(2, 0, 11)])
def zpA449h12 : Nat × zTm × zRk := (19, ([], ([zqv170, zqv210, zqv154, zqv261, zqv221, zqv166, zqv221, zqv166, zqv273], [], [zqa50, zqa37, zqa38, zqa39, zqa40, zqa41, zqa8], [], [], [])), [(2, 0, 12)])
def zpA449h13 : Nat × zTm × zRk := (19, ([], ([zqv170, zqv210, zqv154, zqv261, zqv221, zqv166, zqv221, zqv166, zqv276], [], [zqa50, zqa37, zqa38, zqa39, zqa40, zqa41, zqa8], [], [], [])), [(2, 0, 13)])
def zpA449h14 : Nat × zTm × zRk := (19, ([], ([zqv170, zqv210, zqv154, zqv261, zqv221, zqv166, zqv221, zqv166, zqv282], [], [zqa50, zqa37, zqa38, zqa39, zqa40, zqa41, zqa8], [], [], [])), [(2, 0, 14)])
def zpA449h15 : Nat × zTm × zRk := (19, ([], ([zqv170, zqv210, zqv154, zqv261, zqv221, zqv166, zqv221, zqv166, zqv283], [], [zqa50, zqa37, zqa38, zqa39, zqa40, zqa41, zqa8], [], [], [])), [(2, 0, 15)])
def zpA449h16 : Nat × zTm × zRk := (19, ([], ([zqv170, zqv210, zqv154, zqv261, zqv221, zqv166, zqv221, zqv166, zqv284], [], [zqa50, zqa37, zqa38, zqa39, zqa40, zqa41, zqa8], [], [], [])), [(2, 0, 16)])
def zpA449h17 : Nat × zTm × zRk := (19, ([], ([zqv170, zqv210, zqv154, zqv261, zqv221, zqv166, zqv221, zqv166, zqv285], [], [zqa50, zqa37, zqa38, zqa39, zqa40, zqa41, zqa8], [], [], [])), [(2, 0, 17)])
def zpA449h18 : Nat × zTm × zRk := (19, ([], ([zqv170, zqv210, zqv154, zqv261, zqv221, zqv166, zqv221, zqv166, zqv286], [], [zqa50, zqa37, zqa38, zqa39, zqa40, zqa41, zqa8], [], [], [])), [(2, 0, 18)])
def zpA449h19 : Nat × zTm × zRk := (19, ([], ([zqv170, zqv210, zqv154, zqv261, zqv221, zqv166, zqv221, zqv166, zqv287], [], [zqa50, zqa37, zqa38, zqa39, zqa40, zqa41, zqa8], [], [], [])), [(2, 0, 19)])
def zpA449h20 : Nat × zTm × zRk := (19, ([], ([zqv170, zqv210, zqv154, zqv261, zqv221, zqv166, zqv221, zqv166, zqv288], [], [zqa50, zqa37, zqa38, zqa39, zqa40, zqa41, zqa8], [], [], [])), [(2, 0, 20)])
def zpA449h21 : Nat × zTm × zRk := (19, ([], ([zqv170, zqv210, zqv154, zqv261, zqv221, zqv166, zqv221, zqv166, zqv289], [], [zqa50, zqa37, zqa38, zqa39, zqa40, zqa41, zqa8], [], [], [])), [(2, 0, 21)])
def zpA449h22 : Nat × zTm × zRk := (19, ([], ([zqv170, zqv210, zqv154, zqv261, zqv221, zqv166, zqv221, zqv166, zqv290], [], [zqa50, zqa37, zqa38, zqa39, zqa40, zqa41, zqa8], [], [], [])), [(2, 0, 22)])
def zpA449h23 : Nat × zTm × zRk := (19, ([], ([zqv170, zqv210, zqv154, zqv261, zqv221, zqv166, zqv221, zqv166, zqv291], [], [zqa50, zqa37, zqa38, zqa39, zqa40, zqa41, zqa8], [], [], [])), [(2, 0, 23)])
def zpA449h24 : Nat × zTm × zRk := (19, ([], ([zqv170, zqv210, zqv154, zqv261, zqv221, zqv166, zqv221, zqv166, zqv294], [], [zqa50, zqa37, zqa38, zqa39, zqa40, zqa41, zqa8], [], [], [])), [(2, 0, 24)])
def zpA449h25 : Nat × zTm × zRk := (19, ([], ([zqv170, zqv210, zqv154, zqv261, zqv221, zqv166, zqv221, zqv166, zqv299], [], [zqa50, zqa37, zqa38, zqa39, zqa40, zqa41, zqa8], [], [], [])), [(2, 0, 25)])
def zpA449h26 : Nat × zTm × zRk := (19, ([], ([zqv170, zqv210, zqv154, zqv261, zqv221, zqv166, zqv221, zqv166, zqv300], [], [zqa50, zqa37, zqa38, zqa39, zqa40, zqa41, zqa8], [], [], [])), [(2, 0, 26)])
def zpA449h27 : Nat × zTm × zRk := (19, ([], ([zqv170, zqv210, zqv154, zqv261, zqv221, zqv166, zqv221, zqv166, zqv301], [], [zqa50, zqa37, zqa38, zqa39, zqa40, zqa41, zqa8], [], [], [])), [(2, 0, 27)])
def zpA449h28 : Nat × zTm × zRk := (19, ([], ([zqv170, zqv210, zqv154, zqv261, zqv221, zqv166, zqv221, zqv166, zqv303], [], [zqa50, zqa37, zqa38, zqa39, zqa40, zqa41, zqa8], [], [], [])), [(2, 0, 28)])
def zpA449h29 : Nat × zTm × zRk := (19, ([], ([zqv170, zqv210, zqv154, zqv261, zqv221, zqv166, zqv221, zqv166, zqv304], [], [zqa50, zqa37, zqa38, zqa39, zqa40, zqa41, zqa8], [], [], [])), [(2, 0, 29)])
def zpA449h30 : Nat × zTm × zRk := (19, ([], ([zqv170, zqv210, zqv154, zqv261, zqv221, zqv166, zqv221, zqv166, zqv305], [], [zqa50, zqa37, zqa38, zqa39, zqa40, zqa41, zqa8], [], [], [])), [(2, 0, 30)])
def zpA449h31 : Nat × zTm × zRk := (19, ([], ([zqv170, zqv210, zqv154, zqv261, zqv221, zqv166, zqv221, zqv166, zqv306], [], [zqa50, zqa37, zqa38, zqa39, zqa40, zqa41, zqa8], [], [], [])), [(2, 0, 31)])
def zpA449h32 : Nat × zTm × zRk := (19, ([], ([zqv170, zqv210, zqv154, zqv261, zqv221, zqv166, zqv221, zqv166, zqv308], [], [zqa50, zqa37, zqa38, zqa39, zqa40, zqa41, zqa8], [], [], [])), [(2, 0, 32)])
def zpA449h33 : Nat × zTm × zRk := (19, ([], ([zqv170, zqv210, zqv154, zqv261, zqv221, zqv166, zqv221, zqv166, zqv309], [], [zqa50, zqa37, zqa38, zqa39, zqa40, zqa41, zqa8], [], [], [])), [(2, 0, 33)])
def zpA449h34 : Nat × zTm × zRk := (19, ([], ([zqv170, zqv210, zqv154, zqv261, zqv221, zqv166, zqv221, zqv166, zqv310], [], [zqa50, zqa37, zqa38, zqa39, zqa40, zqa41, zqa8], [], [], [])), [(2, 0, 34)])
def zpA449h35 : Nat × zTm × zRk := (19, ([], ([zqv170, zqv210, zqv154, zqv261, zqv221, zqv166, zqv221, zqv166, zqv315], [], [zqa50, zqa37, zqa38, zqa39, zqa40, zqa41, zqa8], [], [], [])), [(2, 0, 35)])
def zpA449h36 : Nat × zTm × zRk := (19, ([], ([zqv170, zqv210, zqv154, zqv261, zqv221, zqv166, zqv221, zqv166, zqv318], [], [zqa50, zqa37, zqa38, zqa39, zqa40, zqa41, zqa8], [], [], [])), [(2, 0, 36)])
def zpA449h37 : Nat × zTm × zRk := (19, ([], ([zqv170, zqv210, zqv154, zqv261, zqv221, zqv166, zqv221, zqv166, zqv319], [], [zqa50, zqa37, zqa38, zqa39, zqa40, zqa41, zqa8], [], [], [])), [(2, 0, 37)])
def zpA449h38 : Nat × zTm × zRk := (19, ([], ([zqv170, zqv210, zqv154, zqv261, zqv221, zqv166, zqv221, zqv166, zqv320], [], [zqa50, zqa37, zqa38, zqa39, zqa40, zqa41, zqa8], [], [], [])), [(2, 0, 38)])
def zpA449h39 : Nat × zTm × zRk := (19, ([], ([zqv170, zqv210, zqv154, zqv261, zqv221, zqv166, zqv221, zqv166, zqv321], [], [zqa50, zqa37, zqa38, zqa39, zqa40, zqa41, zqa8], [], [], [])), [(2, 0, 39)])
def zpA449h40 : Nat × zTm × zRk := (19, ([], ([zqv170, zqv210, zqv154, zqv261, zqv221, zqv166, zqv221, zqv166, zqv322], [], [zqa50, zqa37, zqa38, zqa39, zqa40, zqa41, zqa8], [], [], [])), [(2, 0, 40)])
def zpA449h41 : Nat × zTm × zRk := (19, ([], ([zqv170, zqv210, zqv154, zqv261, zqv221, zqv166, zqv221, zqv166, zqv325], [], [zqa50, zqa37, zqa38, zqa39, zqa40, zqa41, zqa8], [], [], [])), [(2, 0, 41)])
def zpA449h42 : Nat × zTm × zRk := (19, ([], ([zqv170, zqv210, zqv154, zqv261, zqv221, zqv166, zqv221, zqv166, zqv326], [], [zqa50, zqa37, zqa38, zqa39, zqa40, zqa41, zqa8], [], [], [])), [(2, 0, 42)])
def zpA449h43 : Nat × zTm × zRk := (19, ([], ([zqv170, zqv210, zqv154, zqv261, zqv221, zqv166, zqv221, zqv166, zqv327], [], [zqa50, zqa37, zqa38, zqa39, zqa40, zqa41, zqa8], [], [], [])), [(2, 0, 43)])
def zpA449h44 : Nat × zTm × zRk := (19, ([], ([zqv170, zqv210, zqv154, zqv261, zqv221, zqv166, zqv221, zqv166, zqv328], [], [zqa50, zqa37, zqa38, zqa39, zqa40, zqa41, zqa8], [], [], [])), [(2, 0, 44)])
def zpA449h45 : Nat × zTm × zRk := (19, ([], ([zqv170, zqv210, zqv154, zqv261, zqv221, zqv166, zqv221, zqv166, zqv329], [], [zqa50, zqa37, zqa38, zqa39, zqa40, zqa41, zqa8], [], [], [])), [(2, 0, 45)])
def zpA449h46 : Nat × zTm × zRk := (19, ([], ([zqv170, zqv210, zqv154, zqv261, zqv221, zqv166, zqv221, zqv166, zqv335], [], [zqa50, zqa37, zqa38, zqa39, zqa40, zqa41, zqa8], [], [], [])), [(2, 0, 46)])
def zpA449h47 : Nat × zTm × zRk := (19, ([], ([zqv170, zqv210, zqv154, zqv261, zqv221, zqv166, zqv221, zqv166, zqv339], [], [zqa50, zqa37, zqa38, zqa39, zqa40, zqa41, zqa8], [], [], [])), [(2, 0, 47)])
def zpA449h48 : Nat × zTm × zRk := (19, ([], ([zqv170, zqv210, zqv154, zqv261, zqv221, zqv166, zqv221, zqv166, zqv341], [], [zqa50, zqa37, zqa38, zqa39, zqa40, zqa41, zqa8], [], [], [])), [(2, 0, 48)])
def zpA449h49 : Nat × zTm × zRk := (19, ([], ([zqv170, zqv210, zqv154, zqv261, zqv221, zqv166, zqv221, zqv166, zqv342], [], [zqa50, zqa37, zqa38, zqa39, zqa40, zqa41, zqa8], [], [], [])), [(2, 0, 49)])
def zpA449h50 : Nat × zTm × zRk := (19, ([], ([zqv170, zqv210, zqv154, zqv261, zqv221, zqv166, zqv221, zqv166, zqv343], [], [zqa50, zqa37, zqa38, zqa39, zqa40, zqa41, zqa8], [], [], [])), [(2, 0, 50)])
def zpA449h51 : Nat × zTm × zRk := (19, ([], ([zqv170, zqv210, zqv154, zqv261, zqv221, zqv166, zqv221, zqv166, zqv344], [], [zqa50, zqa37, zqa38, zqa39, zqa40, zqa41, zqa8], [], [], [])), [(2, 0, 51)])
def zpA449h52 : Nat × zTm × zRk := (19, ([], ([zqv170, zqv210, zqv154, zqv261, zqv221, zqv166, zqv221, zqv166, zqv345], [], [zqa50, zqa37, zqa38, zqa39, zqa40, zqa41, zqa8], [], [], [])), [(2, 0, 52)])
def zpA449h53 : Nat × zTm × zRk := (19, ([], ([zqv170, zqv210, zqv154, zqv261, zqv221, zqv166, zqv221, zqv166, zqv346], [], [zqa50, zqa37, zqa38, zqa39, zqa40, zqa41, zqa8], [], [], [])), [(2, 0, 53)])
def zpA449h54 : Nat × zTm × zRk := (19, ([], ([zqv170, zqv210, zqv154, zqv261, zqv221, zqv166, zqv221, zqv166, zqv347], [], [zqa50, zqa37, zqa38, zqa39, zqa40, zqa41, zqa8], [], [], [])), [(2, 0, 54)])
def zpA449h55 : Nat × zTm × zRk := (19, ([], ([zqv170, zqv210, zqv154, zqv261, zqv221, zqv166, zqv221, zqv166, zqv348], [], [zqa50, zqa37, zqa38, zqa39, zqa40, zqa41, zqa8], [], [], [])), [(2, 0, 55)])
def zpA449h56 : Nat × zTm × zRk := (19, ([], ([zqv170, zqv210, zqv154, zqv261, zqv221, zqv166, zqv221, zqv166, zqv349], [], [zqa50, zqa37, zqa38, zqa39, zqa40, zqa41, zqa8], [], [], [])), [(2, 0, 56)])
def zpA449h57 : Nat × zTm × zRk := (19, ([], ([zqv170, zqv210, zqv154, zqv261, zqv221, zqv166, zqv221, zqv166, zqv352], [], [zqa50, zqa37, zqa38, zqa39, zqa40, zqa41, zqa8], [], [], [])), [(2, 0, 57)])
def zpA449h58 : Nat × zTm × zRk := (19, ([], ([zqv170, zqv210, zqv154, zqv261, zqv221, zqv166, zqv221, zqv166, zqv355], [], [zqa50, zqa37, zqa38, zqa39, zqa40, zqa41, zqa8], [], [], [])), [(2, 0, 58)])
def zpA449h59 : Nat × zTm × zRk := (19, ([], ([zqv170, zqv210, zqv154, zqv261, zqv221, zqv166, zqv221, zqv166, zqv358], [], [zqa50, zqa37, zqa38, zqa39, zqa40, zqa41, zqa8], [], [], [])), [(2, 0, 59)])
def zpA449h60 : Nat × zTm × zRk := (19, ([], ([zqv170, zqv210, zqv154, zqv261, zqv221, zqv166, zqv221, zqv166, zqv362], [], [zqa50, zqa37, zqa38, zqa39, zqa40, zqa41, zqa8], [], [], [])), [(2, 0, 60)])
def zpA449h61 : Nat × zTm × zRk := (19, ([], ([zqv170, zqv210, zqv154, zqv261, zqv221, zqv166, zqv221, zqv166, zqv365], [], [zqa50, zqa37, zqa38, zqa39, zqa40, zqa41, zqa8], [], [], [])), [(2, 0, 61)])
def zpA449 : zAnn := [zpA449h0, zpA449h1, zpA449h2, zpA449h3, zpA449h4, zpA449h5, zpA449h6, zpA449h7, zpA449h8, zpA449h9, zpA449h10, zpA449h11, zpA449h12, zpA449h13, zpA449h14, zpA449h15, zpA449h16, zpA449h17, zpA449h18, zpA449h19, zpA449h20, zpA449h21, zpA449h22, zpA449h23, zpA449h24, zpA449h25, zpA449h26, zpA449h27, zpA449h28, zpA449h29, zpA449h30, zpA449h31, zpA449h32, zpA449h33, zpA449h34, zpA449h35, zpA449h36, zpA449h37, zpA449h38, zpA449h39, zpA449h40, zpA449h41, zpA449h42, zpA449h43, zpA449h44, zpA449h45, zpA449h46, zpA449h47, zpA449h48, zpA449h49, zpA449h50, zpA449h51, zpA449h52, zpA449h53, zpA449h54, zpA449h55, zpA449h56, zpA449h57, zpA449h58, zpA449h59, zpA449h60, zpA449h61]

/-- PushedIn$Places.ruleAt () -/
def zpC450 : zC := (77, (1, 40), ([(0, 1, 0, 0)], ([zqv170, zqv210, zqv154, zqv261, zqv221], [], [zqa59, zqa37], [], [], [])), [([(1, 0, 0, 0)], ([zqv170, zqv210, zqv154, zqv261, zqv221, zqv166], [], [], [zqa38], [], [])), ([], ([zqv170, zqv210, zqv154, zqv261, zqv221], [], [], [zqa1], [], []))], zqw384)
def zpA450 : zAnn := []

/-- PushedIn.isUnder () -/
def zpC451 : zC := (16, (2, 61), ([(0, 0, 0, 0), (0, 1, 0, 0)], ([zqv170, zqv210, zqv154, zqv261, zqv235, zqv235], [], [zqa37, zqa38, zqa0, zqa0], [], [], [])), [([], ([zqv170, zqv210, zqv154, zqv261, zqv235, zqv235], [], [], [zqa8], [], [])), ([], ([zqv170, zqv210, zqv154, zqv261, zqv235, zqv235], [], [], [zqa9], [], []))], zqw384)
def zpA451 : zAnn := [(4, ([(0, 2, 0, 0), (0, 3, 0, 0)], ([zqv170, zqv210, zqv154, zqv261, zqv235, zqv235, [((-1), 7)], zqv238], [], [zqa37, zqa38, zqa39, zqa40], [], [], [])), [(2, 0, 0), (0, 7, 8), (2, 0, 0)])]

/-- PushedIn.taken () -/
def zpC452 : zC := (34, (3, 84), ([(0, 1, 0, 0), (0, 2, 0, 0)], ([zqv170, zqv210, zqv154, zqv261, zqv166, zqv166], [], [zqa50, zqa37, zqa38, zqa0], [], [], [])), [([(1, 0, 0, 0)], ([zqv170, zqv210, zqv154, zqv261, zqv221, zqv235, zqv235], [], [], [zqa39], [], [])), ([], ([zqv170, zqv210, zqv154, zqv261, zqv166, zqv166], [], [], [zqa1], [], [])), ([], ([zqv170, zqv210, zqv154, zqv261, zqv221, zqv235], [], [], [zqa2], [], [])), ([], ([zqv170, zqv210, zqv154, zqv261, zqv221, zqv235], [], [], [zqa3], [], []))], zqw384)
def zpA452 : zAnn := []

/-- PushedIn.count () -/
def zpC453 : zC := (9, (1, 40), ([(0, 1, 0, 0)], ([zqv170, zqv210, zqv154, zqv261, zqv166], [], [zqa50, zqa37], [], [], [])), [([(1, 0, 0, 0)], ([zqv170, zqv210, zqv154, zqv261, [(1, 5)], zqv188], [], [], [zqa38], [], [])), ([], ([zqv170, zqv210, zqv154, zqv261, zqv159], [], [], [zqa1], [], [])), ([], ([zqv170, zqv210, zqv154, zqv261, zqv170], [], [], [(1, 1, 0, 0, 0)], [], []))], zqw384)
def zpA453 : zAnn := []

/-- PushedInModel.within ((1, 0), (2, 3)) -/
def zpC454 : zC := (212, (1, 40), ([(0, 0, 0, 0)], ([zqv170, zqv210, zqv154, zqv261, zqv166], [], [zqa47, zqa0, zqa44, zqa0, (2, 0, 3, 0, 0), zqa0], [], [], [])), [([], ([zqv170, zqv210, zqv154, zqv261, zqv158], [], [], [zqa8], [], [])), ([], ([zqv170, zqv210, zqv154, zqv261, zqv198], [], [], [zqa9], [], []))], zqw384)
def zpA454 : zAnn := []

/-- PushedInModel.isDoor () -/
def zpC455 : zC := (166, (2, 65), ([(0, 0, 0, 0)], ([zqv170, zqv210, zqv154, zqv261, zqv166], [], [zqa37], [], [], [])), [([], ([zqv170, zqv210, zqv154, zqv261, zqv158], [], [], [zqa8], [], [])), ([], ([zqv170, zqv210, zqv154, zqv261, zqv198], [], [], [zqa9], [], []))], zqw384)
def zpA455 : zAnn := []

/-- PushedInModel.within ((1, 0), (2, 719)) -/
def zpC456 : zC := (212, (1, 40), ([(0, 0, 0, 0)], ([zqv170, zqv210, zqv154, zqv261, zqv166], [], [zqa47, zqa0, zqa44, zqa0, zqa46, zqa0], [], [], [])), [([], ([zqv170, zqv210, zqv154, zqv261, zqv161], [], [], [zqa8], [], [])), ([], ([zqv170, zqv210, zqv154, zqv261, zqv237], [], [], [zqa9], [], []))], zqw384)
def zpA456 : zAnn := []

/-- PushedInModel.isMinute () -/
def zpC457 : zC := (168, (2, 65), ([(0, 0, 0, 0)], ([zqv170, zqv210, zqv154, zqv261, zqv166], [], [zqa37], [], [], [])), [([], ([zqv170, zqv210, zqv154, zqv261, zqv161], [], [], [zqa8], [], [])), ([], ([zqv170, zqv210, zqv154, zqv261, zqv237], [], [], [zqa9], [], []))], zqw384)
def zpA457 : zAnn := []

/-- PushedInModel.away () -/
def zpC458 : zC := (137, (3, 85), ([(0, 1, 0, 0), (0, 2, 0, 0)], ([zqv170, zqv210, zqv154, zqv261, zqv166, zqv166], [], [zqa60, zqa37, zqa38], [], [], [])), [([(1, 0, 0, 0)], ([zqv170, zqv210, zqv154, zqv261, zqv198, zqv188, zqv244], [], [], [zqa39], [], [])), ([], ([zqv170, zqv210, zqv154, zqv261, zqv166, zqv166], [], [], [zqa1], [], [])), ([], ([zqv170, zqv210, zqv154, zqv261, zqv198, zqv188], [], [], [zqa6], [], []))], [(90, 90, 1, 6), (95, 95, 0, 0), (96, 96, 0, 0), (97, 97, 0, 0)])
def zpA458 : zAnn := []

/-- PushedInModel.becomes () -/
def zpC459 : zC := (138, (1, 40), ([(0, 1, 0, 0), (0, 2, 0, 0), (2, 0, 90, 5), (2, 0, 90, 4)], ([zqv170, zqv210, zqv154, zqv261, zqv224, zqv187, zqv210, zqv210], [(6, 7, 0)], [zqa60, zqa37, zqa38, zqa0, zqa0], [], [zqf142, zqf135], [])), [([(1, 0, 0, 0), (2, 0, 90, 5), (2, 0, 90, 4)], ([zqv170, zqv210, zqv154, zqv261, zqv224, zqv187, zqv210, zqv210, zqv166, zqv210, zqv210], [(10, 7, 1), (9, 10, 0), (9, 6, 1), (9, 7, 1), (6, 10, 0), (6, 9, 0)], [], [zqa41], [zqf143, zqf133], []))], zqw382)
def zpA459 : zAnn := [(26, ([(0, 3, 0, 0), (0, 4, 0, 0)], ([zqv170, zqv210, zqv154, zqv261, zqv224, zqv187, zqv318, zqv210, zqv166, zqv251], [(6, 7, 0)], [zqa60, zqa37, zqa38, zqa41, zqa42], [], [zqf142, zqf135], [])), [(2, 0, 0), (0, 9, 40), (2, 0, 0)])]

/-- PushedInModel.within ((1, 0), (2, 1)) -/
def zpC460 : zC := (212, (1, 40), ([(0, 0, 0, 0)], ([zqv170, zqv210, zqv154, zqv261, zqv166], [], [zqa47, zqa0, zqa44, zqa0, zqa45, zqa0], [], [], [])), [([], ([zqv170, zqv210, zqv154, zqv261, zqv157], [], [], [zqa8], [], [])), ([], ([zqv170, zqv210, zqv154, zqv261, zqv171], [], [], [zqa9], [], []))], zqw384)
def zpA460 : zAnn := []

/-- PushedInModel.within ((1, 0), (2, 5)) -/
def zpC461 : zC := (212, (1, 40), ([(0, 0, 0, 0)], ([zqv170, zqv210, zqv154, zqv261, zqv166], [], [zqa47, zqa0, zqa44, zqa0, (2, 0, 5, 0, 0), zqa0], [], [], [])), [([], ([zqv170, zqv210, zqv154, zqv261, zqv159], [], [], [zqa8], [], [])), ([], ([zqv170, zqv210, zqv154, zqv261, zqv221], [], [], [zqa9], [], []))], zqw384)
def zpA461 : zAnn := []

/-- PushedInModel.within ((1, 1), (2, 99)) -/
def zpC462 : zC := (212, (1, 40), ([(0, 0, 0, 0)], ([zqv170, zqv210, zqv154, zqv261, zqv166], [], [zqa47, zqa0, zqa45, zqa0, (2, 0, 99, 0, 0), zqa0], [], [], [])), [([], ([zqv170, zqv210, zqv154, zqv261, [((-2147483648), 0), (100, 2147483647)]], [], [], [zqa8], [], [])), ([], ([zqv170, zqv210, zqv154, zqv261, zqv259], [], [], [zqa9], [], []))], zqw384)
def zpA462 : zAnn := []

/-- PushedInModel.matter () -/
def zpC463 : zC := (177, (2, 65), ([(0, 1, 0, 0), (0, 2, 0, 0), (0, 3, 0, 0), (2, 0, 90, 5), (2, 0, 90, 4)], ([zqv170, zqv210, zqv154, zqv261, zqv166, zqv166, zqv166, zqv210, zqv210], [(7, 8, 0)], [zqa60, zqa37, zqa38, zqa39, zqa0], [], [(0, 90, 5, (1, 7, 0, 0, 0)), (0, 90, 4, (1, 8, 0, 0, 0))], [])), [([(1, 0, 0, 0), (2, 0, 90, 5), (2, 0, 90, 4)], ([zqv170, zqv210, zqv154, zqv261, zqv221, zqv171, zqv259, zqv210, zqv210, zqv166, zqv210, zqv210], [(11, 8, 1), (10, 11, 0), (10, 7, 1), (10, 8, 1), (7, 11, 0), (7, 10, 0)], [], [zqa42], [(0, 90, 5, (1, 10, 0, 0, 0)), (0, 90, 4, (1, 11, 0, 0, 0))], [])), ([], ([zqv170, zqv210, zqv154, zqv261, zqv166, zqv166, zqv166, zqv210, zqv210], [], [], [zqa1], [(0, 90, 5, (1, 7, 0, 0, 0)), (0, 90, 4, (1, 8, 0, 0, 0))], []))], zqw382)
def zpA463 : zAnn := []

/-- PushedInModel.within ((1, 0), (2, 2)) -/
def zpC464 : zC := (212, (1, 40), ([(0, 0, 0, 0)], ([zqv170, zqv210, zqv154, zqv261, zqv166], [], [zqa47, zqa0, zqa44, zqa0, (2, 0, 2, 0, 0), zqa0], [], [], [])), [([], ([zqv170, zqv210, zqv154, zqv261, [((-2147483648), (-1)), (3, 2147483647)]], [], [], [zqa8], [], [])), ([], ([zqv170, zqv210, zqv154, zqv261, zqv182], [], [], [zqa9], [], []))], zqw384)
def zpA464 : zAnn := []

/-- PushedInModel.within ((1, 0), (2, 30)) -/
def zpC465 : zC := (212, (1, 40), ([(0, 0, 0, 0)], ([zqv170, zqv210, zqv154, zqv261, zqv166], [], [zqa47, zqa0, zqa44, zqa0, (2, 0, 30, 0, 0), zqa0], [], [], [])), [([], ([zqv170, zqv210, zqv154, zqv261, [((-2147483648), (-1)), (31, 2147483647)]], [], [], [zqa8], [], [])), ([], ([zqv170, zqv210, zqv154, zqv261, zqv199], [], [], [zqa9], [], []))], zqw384)
def zpA465 : zAnn := []

/-- PushedInModel.yard () -/
def zpC466 : zC := (215, (2, 65), ([(0, 1, 0, 0), (0, 2, 0, 0), (2, 0, 90, 5), (2, 0, 90, 4)], ([zqv170, zqv210, zqv154, zqv261, zqv166, zqv166, zqv210, zqv210], [(6, 7, 0)], [zqa60, zqa37, zqa38, zqa0], [], [zqf142, zqf135], [])), [([(1, 0, 0, 0), (2, 0, 90, 5), (2, 0, 90, 4)], ([zqv170, zqv210, zqv154, zqv261, zqv182, zqv199, zqv210, zqv210, zqv166, zqv210, zqv210], [(10, 7, 1), (9, 10, 0), (9, 6, 1), (9, 7, 1), (6, 10, 0), (6, 9, 0)], [], [zqa41], [zqf143, zqf133], [])), ([], ([zqv170, zqv210, zqv154, zqv261, zqv166, zqv166, zqv210, zqv210], [], [], [zqa1], [zqf142, zqf135], []))], [(90, 90, 1, 4), (90, 90, 1, 5), (90, 90, 1, 10), (90, 90, 1, 11), (91, 91, 0, 0), (92, 92, 0, 0), (93, 93, 0, 0), (94, 94, 0, 0)])
def zpA466 : zAnn := []

/-- PushedInModel.within ((1, 1), (2, 4)) -/
def zpC467 : zC := (212, (1, 40), ([(0, 0, 0, 0)], ([zqv170, zqv210, zqv154, zqv261, zqv166], [], [zqa47, zqa0, zqa45, zqa0, (2, 0, 4, 0, 0), zqa0], [], [], [])), [([], ([zqv170, zqv210, zqv154, zqv261, zqv164], [], [], [zqa8], [], [])), ([], ([zqv170, zqv210, zqv154, zqv261, zqv250], [], [], [zqa9], [], []))], zqw384)
def zpA467 : zAnn := []

/-- PushedInModel.feed () -/
def zpC468 : zC := (156, (2, 65), ([(0, 1, 0, 0), (0, 2, 0, 0)], ([zqv170, zqv210, zqv154, zqv261, zqv166, zqv166], [], [zqa60, zqa37, zqa38, zqa0], [], [], [])), [([(1, 0, 0, 0)], ([zqv170, zqv210, zqv154, zqv261, zqv250, zqv166, zqv255], [], [], [zqa39], [], [])), ([], ([zqv170, zqv210, zqv154, zqv261, zqv164, zqv166], [], [], [zqa1], [], [])), ([], ([zqv170, zqv210, zqv154, zqv261, zqv250, zqv166], [], [], [zqa6], [], []))], [(90, 90, 1, 13), (98, 98, 0, 0)])
def zpA468 : zAnn := []

/-- PushedInModel.addComer () -/
def zpC469 : zC := (133, (1, 40), ([(2, 0, 90, 22), (2, 0, 109, 3)], ([zqv170, zqv210, zqv154, zqv261, zqv208, zqv221], [], [zqa60], [], [(0, 90, 22, (1, 4, 0, 0, 0)), (0, 109, 3, (1, 5, 0, 0, 0))], [])), [([], ([zqv170, zqv210, zqv154, zqv261, zqv208, zqv221], [], [], [], [(0, 90, 22, (1, 4, 1, 0, 0)), (0, 109, 3, (1, 5, 0, 0, 0))], []))], [(90, 90, 1, 22), (91, 91, 0, 0), (101, 101, 0, 0), (102, 102, 0, 0), (103, 103, 0, 0), (104, 104, 0, 0), (105, 105, 0, 0), (106, 106, 0, 0), (107, 107, 0, 0), (108, 108, 0, 0)])
def zpA469 : zAnn := []

/-- PushedInModel.wrong () -/
def zpC470 : zC := (214, (1, 40), ([(2, 0, 90, 17), (2, 0, 90, 19)], ([zqv170, zqv210, zqv154, zqv261, zqv255, zqv255], [(4, 5, 0), (5, 4, 0)], [zqa60], [], [zqf93, zqf105], [])), [([], ([zqv170, zqv210, zqv154, zqv261, zqv255, zqv255], [], [], [zqa8], [zqf93, zqf105], []))], zqw380)
def zpA470 : zAnn := []

/-- PushedInModel.numberRead ((1, 1), (2, 0), (3, 3)) -/
def zpC471 : zC := (181, (2, 60), ([(2, 0, 90, 17), (2, 0, 90, 18), (2, 0, 90, 19)], ([zqv170, zqv210, zqv154, zqv261, zqv257, zqv233, zqv257], [(4, 6, 0), (6, 4, 0)], [zqa60, zqa9, zqa8, zqa15, zqa0, zqa0], [], [zqf93, zqf101, zqf106], [])), [([], ([zqv170, zqv210, zqv154, zqv261, zqv257, zqv233, zqv257], [], [], [zqa8], [zqf93, zqf101, zqf106], []))], zqw380)
def zpA471 : zAnn := [(9, ([], ([zqv170, zqv210, zqv154, zqv261, zqv257, zqv233, zqv257], [(4, 6, 0), (6, 4, 0)], [zqa60, zqa9, zqa8, zqa15, zqa37, zqa8], [], [zqf93, zqf101, zqf106], [])), [(2, 0, 0)])]

/-- PushedInModel.byteAt () -/
def zpC472 : zC := (142, (1, 40), ([(2, 0, 90, 17), (2, 0, 90, 18)], ([zqv170, zqv210, zqv154, zqv261, zqv233, zqv233], [], [zqa60], [], [zqf93, zqf101], [])), [([(1, 0, 0, 0)], ([zqv170, zqv210, zqv154, zqv261, zqv231, zqv255, zqv193], [(4, 5, (-1))], [], [zqa39], [zqf93, zqf101], [])), ([], ([zqv170, zqv210, zqv154, zqv261, zqv233, zqv233], [(5, 4, 0)], [], [zqa8], [zqf93, zqf101], []))], zqw384)
def zpA472 : zAnn := []

/-- PushedInModel.wrong (((90, 19), -1),) -/
def zpC473 : zC := (214, (1, 40), ([(2, 0, 90, 17)], ([zqv170, zqv210, zqv154, zqv261, zqv233], [], [zqa60], [], [zqf93, zqf103], [])), [([], ([zqv170, zqv210, zqv154, zqv261, zqv233], [], [], [zqa8], [zqf93, (0, 90, 19, (1, 4, 0, 0, 0))], []))], zqw380)
def zpA473 : zAnn := []

/-- PushedInModel.numberRead ((1, 1), (2, 0), (3, 3), ((90, 19), -1)) -/
def zpC474 : zC := (181, (2, 65), ([(2, 0, 90, 17), (2, 0, 90, 18)], ([zqv170, zqv210, zqv154, zqv261, zqv317, zqv317], [(4, 5, 0)], [zqa60, zqa9, zqa8, zqa15, zqa0, zqa0], [], [zqf93, zqf101, zqf103], [])), [([(1, 0, 0, 0), (2, 0, 90, 17)], ([zqv170, zqv210, zqv154, zqv261, [(4, 59)], zqv317, zqv198, zqv337], [(7, 5, 0), (4, 7, (-1)), (4, 5, (-1))], [], [zqa39], [zqf97, zqf101, zqf103], [])), ([(2, 0, 90, 17), (2, 0, 90, 19)], ([zqv170, zqv210, zqv154, zqv261, zqv317, zqv317, zqv317, zqv317], [(6, 7, 0), (6, 4, 0), (6, 5, 0), (7, 6, 0), (7, 4, 0), (7, 5, 0), (4, 6, 0), (4, 7, 0)], [], [zqa8], [zqf96, zqf101, zqf107], []))], zqw378)
def zpA474 : zAnn := [(9, ([(0, 5, 0, 0), (2, 0, 90, 17)], ([zqv170, zqv210, zqv154, zqv261, zqv317, zqv317, zqv166, zqv317], [(7, 5, 0), (4, 7, 0), (4, 5, 0)], [zqa60, zqa9, zqa8, zqa15, zqa37, zqa39], [], [zqf97, zqf101, zqf103], [])), [(2, 0, 0), (0, 7, 60), (2, 0, 0)])]

/-- PushedInModel.wrong (((90, 19), 0),) -/
def zpC475 : zC := (214, (1, 40), ([], ([zqv170, zqv210, zqv154, zqv261], [], [zqa60], [], [zqf92, zqf104], [])), [([], ([zqv170, zqv210, zqv154, zqv261], [], [], [zqa8], [zqf92, zqf104], []))], zqw380)
def zpA475 : zAnn := []

/-- PushedInModel.numberRead ((1, 1), (2, 0), (3, 3), ((90, 19), 0)) -/
def zpC476 : zC := (181, (2, 60), ([(2, 0, 90, 18)], ([zqv170, zqv210, zqv154, zqv261, zqv233], [], [zqa60, zqa9, zqa8, zqa15, zqa0, zqa0], [], [zqf92, zqf100, zqf104], [])), [([], ([zqv170, zqv210, zqv154, zqv261, zqv233], [], [], [zqa8], [zqf92, zqf100, zqf104], []))], zqw380)
def zpA476 : zAnn := [(9, ([], ([zqv170, zqv210, zqv154, zqv261, zqv233], [], [zqa60, zqa9, zqa8, zqa15, zqa8, zqa8], [], [zqf92, zqf100, zqf104], [])), [(2, 0, 0)])]

/-- PushedInModel.numberRead ((1, 1), (2, 0), (3, 5)) -/
def zpC477 : zC := (181, (2, 60), ([(2, 0, 90, 17), (2, 0, 90, 18), (2, 0, 90, 19)], ([zqv170, zqv210, zqv154, zqv261, zqv255, zqv233, zqv255], [(4, 6, 0), (6, 4, 0)], [zqa60, zqa9, zqa8, zqa22, zqa0, zqa0], [], [zqf93, zqf101, zqf106], [])), [([], ([zqv170, zqv210, zqv154, zqv261, zqv255, zqv233, zqv255], [], [], [zqa8], [zqf93, zqf101, zqf106], []))], zqw380)
def zpA477 : zAnn := [(9, ([], ([zqv170, zqv210, zqv154, zqv261, zqv255, zqv233, zqv255], [(4, 6, 0), (6, 4, 0)], [zqa60, zqa9, zqa8, zqa22, zqa37, zqa8], [], [zqf93, zqf101, zqf106], [])), [(2, 0, 0)])]

/-- PushedInModel.numberRead ((1, 1), (2, 0), (3, 5), ((90, 19), -1)) -/
def zpC478 : zC := (181, (2, 65), ([(2, 0, 90, 17), (2, 0, 90, 18)], ([zqv170, zqv210, zqv154, zqv261, zqv353, zqv353], [(4, 5, 0)], [zqa60, zqa9, zqa8, zqa22, zqa0, zqa0], [], [zqf93, zqf101, zqf103], [])), [([(1, 0, 0, 0), (2, 0, 90, 17)], ([zqv170, zqv210, zqv154, zqv261, [(6, 59)], zqv353, zqv221, [(7, 60)]], [(7, 5, 0), (4, 7, (-1)), (4, 5, (-1))], [], [zqa39], [zqf97, zqf101, zqf103], [])), ([(2, 0, 90, 17), (2, 0, 90, 19)], ([zqv170, zqv210, zqv154, zqv261, zqv353, zqv353, zqv353, zqv353], [(6, 7, 0), (6, 4, 0), (6, 5, 0), (7, 6, 0), (7, 4, 0), (7, 5, 0), (4, 6, 0), (4, 7, 0)], [], [zqa8], [zqf96, zqf101, zqf107], []))], zqw378)
def zpA478 : zAnn := [(9, ([(0, 5, 0, 0), (2, 0, 90, 17)], ([zqv170, zqv210, zqv154, zqv261, zqv353, zqv353, zqv166, zqv353], [(7, 5, 0), (4, 7, 0), (4, 5, 0)], [zqa60, zqa9, zqa8, zqa22, zqa37, zqa39], [], [zqf97, zqf101, zqf103], [])), [(2, 0, 0), (0, 7, 60), (2, 0, 0)])]

/-- PushedInModel.numberRead ((1, 1), (2, 0), (3, 5), ((90, 19), 0)) -/
def zpC479 : zC := (181, (2, 60), ([(2, 0, 90, 18)], ([zqv170, zqv210, zqv154, zqv261, zqv233], [], [zqa60, zqa9, zqa8, zqa22, zqa0, zqa0], [], [zqf92, zqf100, zqf104], [])), [([], ([zqv170, zqv210, zqv154, zqv261, zqv233], [], [], [zqa8], [zqf92, zqf100, zqf104], []))], zqw380)
def zpA479 : zAnn := [(9, ([], ([zqv170, zqv210, zqv154, zqv261, zqv233], [], [zqa60, zqa9, zqa8, zqa22, zqa8, zqa8], [], [zqf92, zqf100, zqf104], [])), [(2, 0, 0)])]

/-- PushedInModel.numberRead ((1, 1), (2, 0), (3, 7)) -/
def zpC480 : zC := (181, (2, 60), ([(2, 0, 90, 17), (2, 0, 90, 18), (2, 0, 90, 19)], ([zqv170, zqv210, zqv154, zqv261, zqv255, zqv233, zqv255], [(4, 6, 0), (6, 4, 0)], [zqa60, zqa9, zqa8, zqa26, zqa0, zqa0], [], [zqf93, zqf101, zqf106], [])), [([], ([zqv170, zqv210, zqv154, zqv261, zqv255, zqv233, zqv255], [], [], [zqa8], [zqf93, zqf101, zqf106], []))], zqw380)
def zpA480 : zAnn := [(9, ([], ([zqv170, zqv210, zqv154, zqv261, zqv255, zqv233, zqv255], [(4, 6, 0), (6, 4, 0)], [zqa60, zqa9, zqa8, zqa26, zqa37, zqa8], [], [zqf93, zqf101, zqf106], [])), [(2, 0, 0)])]

/-- PushedInModel.within ((1, 0), (2, 7)) -/
def zpC481 : zC := (212, (1, 40), ([(0, 0, 0, 0)], ([zqv170, zqv210, zqv154, zqv261, zqv166], [], [zqa47, zqa0, zqa44, zqa0, (2, 0, 7, 0, 0), zqa0], [], [], [])), [([], ([zqv170, zqv210, zqv154, zqv261, [((-2147483648), (-1)), (8, 2147483647)]], [], [], [zqa8], [], [])), ([], ([zqv170, zqv210, zqv154, zqv261, zqv235], [], [], [zqa9], [], []))], zqw384)
def zpA481 : zAnn := []

/-- PushedInModel.numberRead ((1, 1), (2, 0), (3, 7), ((90, 19), -1)) -/
def zpC482 : zC := (181, (2, 65), ([(2, 0, 90, 17), (2, 0, 90, 18)], ([zqv170, zqv210, zqv154, zqv261, zqv361, zqv361], [(4, 5, 0)], [zqa60, zqa9, zqa8, zqa26, zqa0, zqa0], [], [zqf93, zqf101, zqf103], [])), [([(1, 0, 0, 0), (2, 0, 90, 17)], ([zqv170, zqv210, zqv154, zqv261, [(8, 59)], zqv361, zqv235, zqv364], [(7, 5, 0), (4, 7, (-1)), (4, 5, (-1))], [], [zqa39], [zqf97, zqf101, zqf103], [])), ([(2, 0, 90, 17), (2, 0, 90, 19)], ([zqv170, zqv210, zqv154, zqv261, zqv361, zqv361, zqv361, zqv361], [(6, 7, 0), (6, 4, 0), (6, 5, 0), (7, 6, 0), (7, 4, 0), (7, 5, 0), (4, 6, 0), (4, 7, 0)], [], [zqa8], [zqf96, zqf101, zqf107], []))], zqw378)
def zpA482 : zAnn := [(9, ([(0, 5, 0, 0), (2, 0, 90, 17)], ([zqv170, zqv210, zqv154, zqv261, zqv361, zqv361, zqv166, zqv361], [(7, 5, 0), (4, 7, 0), (4, 5, 0)], [zqa60, zqa9, zqa8, zqa26, zqa37, zqa39], [], [zqf97, zqf101, zqf103], [])), [(2, 0, 0), (0, 7, 60), (2, 0, 0)])]

/-- PushedInModel.numberRead ((1, 1), (2, 0), (3, 7), ((90, 19), 0)) -/
def zpC483 : zC := (181, (2, 60), ([(2, 0, 90, 18)], ([zqv170, zqv210, zqv154, zqv261, zqv233], [], [zqa60, zqa9, zqa8, zqa26, zqa0, zqa0], [], [zqf92, zqf100, zqf104], [])), [([], ([zqv170, zqv210, zqv154, zqv261, zqv233], [], [], [zqa8], [zqf92, zqf100, zqf104], []))], zqw380)
def zpA483 : zAnn := [(9, ([], ([zqv170, zqv210, zqv154, zqv261, zqv233], [], [zqa60, zqa9, zqa8, zqa26, zqa8, zqa8], [], [zqf92, zqf100, zqf104], [])), [(2, 0, 0)])]

/-- PushedInModel.within ((1, 0), (2, 99)) -/
def zpC484 : zC := (212, (1, 40), ([(0, 0, 0, 0)], ([zqv170, zqv210, zqv154, zqv261, zqv166], [], [zqa47, zqa0, zqa44, zqa0, (2, 0, 99, 0, 0), zqa0], [], [], [])), [([], ([zqv170, zqv210, zqv154, zqv261, [((-2147483648), (-1)), (100, 2147483647)]], [], [], [zqa8], [], [])), ([], ([zqv170, zqv210, zqv154, zqv261, zqv241], [], [], [zqa9], [], []))], zqw384)
def zpA484 : zAnn := []

/-- PushedInModel.numberRead ((1, 2), (2, 0), (3, 99), ((90, 19), -1)) -/
def zpC485 : zC := (181, (2, 65), ([(2, 0, 90, 17), (2, 0, 90, 18)], ([zqv170, zqv210, zqv154, zqv261, zqv263, zqv263], [(4, 5, 0)], [zqa60, zqa13, zqa8, zqa33, zqa0, zqa0], [], [zqf93, zqf101, zqf103], [])), [([(1, 0, 0, 0), (2, 0, 90, 17)], ([zqv170, zqv210, zqv154, zqv261, [(10, 59)], zqv263, zqv241, [(11, 60)]], [(7, 5, 0), (4, 7, (-1)), (4, 5, (-1))], [], [zqa39], [zqf97, zqf101, zqf103], [])), ([(2, 0, 90, 17), (2, 0, 90, 19)], ([zqv170, zqv210, zqv154, zqv261, zqv263, zqv263, zqv263, zqv263], [(6, 7, 0), (6, 4, 0), (6, 5, 0), (7, 6, 0), (7, 4, 0), (7, 5, 0), (4, 6, 0), (4, 7, 0)], [], [zqa8], [zqf96, zqf101, zqf107], []))], zqw378)
def zpA485 : zAnn := [(9, ([(0, 5, 0, 0), (2, 0, 90, 17)], ([zqv170, zqv210, zqv154, zqv261, zqv263, zqv263, zqv166, zqv263], [(7, 5, 0), (4, 7, 0), (4, 5, 0)], [zqa60, zqa13, zqa8, zqa33, zqa37, zqa39], [], [zqf97, zqf101, zqf103], [])), [(2, 0, 0), (0, 7, 60), (2, 0, 0)])]

/-- PushedInModel.within ((1, 0), (2, 718)) -/
def zpC486 : zC := (212, (1, 40), ([(0, 0, 0, 0)], ([zqv170, zqv210, zqv154, zqv261, zqv166], [], [zqa47, zqa0, zqa44, zqa0, (2, 0, 718, 0, 0), zqa0], [], [], [])), [([], ([zqv170, zqv210, zqv154, zqv261, [((-2147483648), (-1)), (719, 2147483647)]], [], [], [zqa8], [], [])), ([], ([zqv170, zqv210, zqv154, zqv261, zqv236], [], [], [zqa9], [], []))], zqw384)
def zpA486 : zAnn := []

/-- PushedInModel.numberRead ((1, 3), (2, 0), (3, 718), ((90, 19), -1)) -/
def zpC487 : zC := (181, (2, 65), ([(2, 0, 90, 18)], ([zqv170, zqv210, zqv154, zqv261, zqv233], [], [zqa60, zqa15, zqa8, zqa28, zqa0, zqa0], [], [zqf92, zqf100, zqf103], [])), [([(1, 0, 0, 0), (2, 0, 90, 17)], ([zqv170, zqv210, zqv154, zqv261, zqv233, zqv236, zqv249], [], [], [zqa38], [zqf96, zqf100, zqf103], [])), ([], ([zqv170, zqv210, zqv154, zqv261, zqv233], [], [], [zqa8], [zqf92, zqf100, zqf104], []))], zqw378)
def zpA487 : zAnn := [(9, ([(0, 5, 0, 0), (2, 0, 90, 17)], ([zqv170, zqv210, zqv154, zqv261, zqv233, zqv166, zqv198], [], [zqa60, zqa15, zqa8, zqa28, zqa8, zqa38], [], [zqf96, zqf100, zqf103], [])), [(2, 0, 0), (0, 6, 3), (2, 0, 0)])]

/-- PushedInModel.numberRead ((1, 3), (2, 1), (3, 719), ((90, 19), 0)) -/
def zpC488 : zC := (181, (2, 60), ([(2, 0, 90, 18)], ([zqv170, zqv210, zqv154, zqv261, zqv233], [], [zqa60, zqa15, zqa9, zqa29, zqa0, zqa0], [], [zqf92, zqf100, zqf104], [])), [([], ([zqv170, zqv210, zqv154, zqv261, zqv233], [], [], [zqa8], [zqf92, zqf100, zqf104], []))], zqw380)
def zpA488 : zAnn := [(9, ([], ([zqv170, zqv210, zqv154, zqv261, zqv233], [], [zqa60, zqa15, zqa9, zqa29, zqa8, zqa8], [], [zqf92, zqf100, zqf104], [])), [(2, 0, 0)])]

/-- PushedInModel.numberRead ((1, 3), (3, 719)) -/
def zpC489 : zC := (181, (2, 60), ([(0, 2, 0, 0), (2, 0, 90, 17), (2, 0, 90, 18), (2, 0, 90, 19)], ([zqv170, zqv210, zqv154, zqv261, zqv258, zqv249, zqv233, zqv249], [(5, 7, 0), (7, 5, 0)], [zqa60, zqa15, zqa37, zqa29, zqa0, zqa0], [], [zqf95, zqf102, zqf107], [])), [([], ([zqv170, zqv210, zqv154, zqv261, zqv258, zqv249, zqv233, zqv249], [], [], [zqa8], [zqf95, zqf102, zqf107], []))], zqw380)
def zpA489 : zAnn := [(9, ([], ([zqv170, zqv210, zqv154, zqv261, zqv258, zqv249, zqv233, zqv249], [(5, 7, 0), (7, 5, 0)], [zqa60, zqa15, zqa37, zqa29, zqa38, zqa8], [], [zqf95, zqf102, zqf107], [])), [(2, 0, 0)])]

/-- PushedInModel.within ((2, 719),) -/
def zpC490 : zC := (212, (1, 40), ([(0, 0, 0, 0), (0, 2, 0, 0)], ([zqv170, zqv210, zqv154, zqv261, zqv166, zqv258], [], [zqa47, zqa0, zqa48, zqa0, zqa46, zqa0], [], [], [])), [([], ([zqv170, zqv210, zqv154, zqv261, [((-2147483648), 718), (720, 2147483647)], zqv258], [], [], [zqa8], [], [])), ([], ([zqv170, zqv210, zqv154, zqv261, zqv258, zqv258], [(5, 4, 0)], [], [zqa9], [], []))], zqw384)
def zpA490 : zAnn := []

/-- PushedInModel.numberRead ((1, 3), (3, 719), ((90, 19), -1)) -/
def zpC491 : zC := (181, (2, 65), ([(0, 2, 0, 0), (2, 0, 90, 17), (2, 0, 90, 18)], ([zqv170, zqv210, zqv154, zqv261, zqv258, zqv279, zqv281], [(5, 6, 0)], [zqa60, zqa15, zqa37, zqa29, zqa0, zqa0], [], [zqf95, zqf102, zqf103], [])), [([(1, 0, 0, 0), (2, 0, 90, 17)], ([zqv170, zqv210, zqv154, zqv261, zqv258, zqv279, zqv281, zqv258, [(3, 7)]], [(8, 6, 0), (4, 7, 0), (5, 8, (-1)), (5, 6, (-1))], [], [zqa40], [zqf98, zqf102, zqf103], [])), ([(2, 0, 90, 17), (2, 0, 90, 19)], ([zqv170, zqv210, zqv154, zqv261, zqv258, zqv279, zqv281, zqv279, zqv279], [(7, 8, 0), (7, 5, 0), (7, 6, 0), (8, 7, 0), (8, 5, 0), (8, 6, 0), (5, 7, 0), (5, 8, 0)], [], [zqa8], [zqf97, zqf102, zqf108], []))], zqw378)
def zpA491 : zAnn := [(9, ([(0, 5, 0, 0), (2, 0, 90, 17)], ([zqv170, zqv210, zqv154, zqv261, zqv258, zqv279, zqv281, zqv166, [(2, 7)]], [(8, 6, 0), (5, 8, 0), (5, 6, 0)], [zqa60, zqa15, zqa37, zqa29, zqa38, zqa40], [], [zqf98, zqf102, zqf103], [])), [(2, 0, 0), (0, 8, 7), (2, 0, 0)])]

/-- PushedInModel.takes ((1, 108), ((90, 19), -1)) -/
def zpC492 : zC := (202, (2, 60), ([(2, 0, 90, 17), (2, 0, 90, 18)], ([zqv170, zqv210, zqv154, zqv261, zqv364, zqv364], [(4, 5, 0)], [zqa60, zqa11], [], [zqf93, zqf101, zqf103], [])), [([], ([zqv170, zqv210, zqv154, zqv261, zqv364, zqv364], [], [], [zqa8], [zqf93, zqf101, zqf103], [])), ([], ([zqv170, zqv210, zqv154, zqv261, [(9, 59)], zqv263], [(4, 5, (-1))], [], [zqa9], [zqf94, zqf101, zqf103], []))], zqw379)
def zpA492 : zAnn := []

/-- PushedInModel.takes ((1, 108), ((90, 19), 0)) -/
def zpC493 : zC := (202, (1, 40), ([(2, 0, 90, 18)], ([zqv170, zqv210, zqv154, zqv261, zqv233], [], [zqa60, zqa11], [], [zqf92, zqf100, zqf104], [])), [([], ([zqv170, zqv210, zqv154, zqv261, zqv233], [], [], [zqa8], [zqf92, zqf100, zqf104], []))], zqw384)
def zpA493 : zAnn := []

/-- PushedInModel.takes ((1, 108),) -/
def zpC494 : zC := (202, (1, 40), ([(2, 0, 90, 17), (2, 0, 90, 18), (2, 0, 90, 19)], ([zqv170, zqv210, zqv154, zqv261, zqv255, zqv233, zqv255], [(4, 6, 0), (6, 4, 0)], [zqa60, zqa11], [], [zqf93, zqf101, zqf106], [])), [([], ([zqv170, zqv210, zqv154, zqv261, zqv255, zqv233, zqv255], [], [], [zqa8], [zqf93, zqf101, zqf106], []))], zqw384)
def zpA494 : zAnn := []

/-- PushedInModel.takes ((1, 35), ((90, 19), -1)) -/
def zpC495 : zC := (202, (2, 60), ([(2, 0, 90, 17), (2, 0, 90, 18)], ([zqv170, zqv210, zqv154, zqv261, zqv364, zqv364], [(4, 5, 0)], [zqa60, zqa17], [], [zqf93, zqf101, zqf103], [])), [([], ([zqv170, zqv210, zqv154, zqv261, zqv364, zqv364], [], [], [zqa8], [zqf93, zqf101, zqf103], [])), ([], ([zqv170, zqv210, zqv154, zqv261, [(9, 59)], zqv263], [(4, 5, (-1))], [], [zqa9], [zqf94, zqf101, zqf103], []))], zqw379)
def zpA495 : zAnn := []

/-- PushedInModel.takes ((1, 35), ((90, 19), 0)) -/
def zpC496 : zC := (202, (1, 40), ([(2, 0, 90, 18)], ([zqv170, zqv210, zqv154, zqv261, zqv233], [], [zqa60, zqa17], [], [zqf92, zqf100, zqf104], [])), [([], ([zqv170, zqv210, zqv154, zqv261, zqv233], [], [], [zqa8], [zqf92, zqf100, zqf104], []))], zqw384)
def zpA496 : zAnn := []

/-- PushedInModel.takes ((1, 35),) -/
def zpC497 : zC := (202, (1, 40), ([(2, 0, 90, 17), (2, 0, 90, 18), (2, 0, 90, 19)], ([zqv170, zqv210, zqv154, zqv261, zqv255, zqv233, zqv255], [(4, 6, 0), (6, 4, 0)], [zqa60, zqa17], [], [zqf93, zqf101, zqf106], [])), [([], ([zqv170, zqv210, zqv154, zqv261, zqv255, zqv233, zqv255], [], [], [zqa8], [zqf93, zqf101, zqf106], []))], zqw384)
def zpA497 : zAnn := []

/-- PushedInModel.takes (((90, 19), -1),) -/
def zpC498 : zC := (202, (2, 60), ([(0, 1, 0, 0), (2, 0, 90, 17), (2, 0, 90, 18)], ([zqv170, zqv210, zqv154, zqv261, zqv323, zqv255, zqv233], [(5, 4, (-1))], [zqa60, zqa37], [], [zqf95, zqf102, zqf103], [])), [([], ([zqv170, zqv210, zqv154, zqv261, zqv323, zqv255, zqv233], [], [], [zqa8], [zqf95, zqf102, zqf103], [])), ([], ([zqv170, zqv210, zqv154, zqv261, zqv323, zqv253, zqv281], [(5, 6, (-1))], [], [zqa9], [(0, 90, 17, (1, 5, 1, 0, 0)), zqf102, zqf103], []))], zqw379)
def zpA498 : zAnn := []

/-- PushedInModel.wants (((90, 19), -1),) -/
def zpC499 : zC := (210, (3, 81), ([(0, 1, 0, 0), (2, 0, 90, 17), (2, 0, 90, 18)], ([zqv170, zqv210, zqv154, zqv261, zqv323, zqv255, zqv233], [(5, 4, (-1))], [zqa60, zqa37], [], [zqf95, zqf102, zqf103], [])), [([], ([zqv170, zqv210, zqv154, zqv261, zqv323, zqv255, zqv233], [], [], [], [zqf95, zqf102, zqf105], [])), ([], ([zqv170, zqv210, zqv154, zqv261, zqv323, zqv253, zqv281], [(5, 6, (-1))], [], [], [(0, 90, 17, (1, 5, 1, 0, 0)), zqf102, zqf103], []))], zqw378)
def zpA499 : zAnn := []

/-- PushedInModel.wants (((90, 19), 0),) -/
def zpC500 : zC := (210, (1, 40), ([(0, 1, 0, 0), (2, 0, 90, 18)], ([zqv170, zqv210, zqv154, zqv261, zqv324, zqv233], [], [zqa60, zqa37], [], [zqf92, zqf101, zqf104], [])), [([], ([zqv170, zqv210, zqv154, zqv261, zqv324, zqv233], [], [], [], [zqf92, zqf101, zqf104], []))], zqw384)
def zpA500 : zAnn := []

/-- PushedInModel.wants () -/
def zpC501 : zC := (210, (1, 40), ([(0, 1, 0, 0), (2, 0, 90, 17), (2, 0, 90, 18), (2, 0, 90, 19)], ([zqv170, zqv210, zqv154, zqv261, [(64, 199)], zqv255, zqv233, zqv255], [(5, 7, 0), (7, 5, 0)], [zqa60, zqa37], [], [zqf95, zqf102, zqf107], [])), [([], ([zqv170, zqv210, zqv154, zqv261, [(64, 199)], zqv255, zqv233, zqv255], [], [], [], [zqf95, zqf102, zqf107], []))], zqw384)
def zpA501 : zAnn := []

/-- PushedInModel.comer () -/
def zpC502 : zC := (147, (4, 102), ([], ([zqv170, zqv210, zqv154, zqv261], [], [zqa60], [], [], [])), [([(1, 0, 0, 0)], ([zqv170, zqv210, zqv154, zqv261, [((-160), (-101)), (0, 39)]], [], [], [zqa37], [], [])), ([], ([zqv170, zqv210, zqv154, zqv261], [], [], [(1, 0, (-100), 0, 0)], [], [])), ([], ([zqv170, zqv210, zqv154, zqv261], [], [], [zqa6], [], []))], [(90, 90, 1, 13), (90, 90, 1, 16), (90, 90, 1, 17), (90, 90, 1, 18), (90, 90, 1, 19), (90, 90, 1, 22), (91, 91, 0, 0), (101, 101, 0, 0), (102, 102, 0, 0), (103, 103, 0, 0), (104, 104, 0, 0), (105, 105, 0, 0), (106, 106, 0, 0), (107, 107, 0, 0), (108, 108, 0, 0), (109, 109, 0, 0)])
def zpA502h0 : Nat × zTm × zRk := (195, ([(2, 0, 90, 17), (2, 0, 90, 18), (2, 0, 90, 19), (2, 0, 90, 22), (2, 0, 109, 3)], ([zqv170, zqv210, zqv154, zqv261, zqv255, zqv233, zqv255, zqv208, zqv221], [(8, 4, 0), (8, 5, 0), (8, 6, 0), (4, 6, 0), (6, 4, 0)], [zqa60], [], [zqf93, zqf101, zqf106, zqf117, (0, 109, 3, (1, 8, 0, 0, 0))], [])), [(2, 0, 0)])
def zpA502h1 : Nat × zTm × zRk := (195, ([(2, 0, 90, 17), (2, 0, 90, 18), (2, 0, 90, 22), (2, 0, 109, 3)], ([zqv170, zqv210, zqv154, zqv261, zqv364, zqv364, zqv208, zqv221], [(4, 5, 0)], [zqa60], [], [zqf93, zqf101, zqf103, (0, 90, 22, (1, 6, 0, 0, 0)), (0, 109, 3, (1, 7, 0, 0, 0))], [])), [(2, 0, 1)])
def zpA502h2 : Nat × zTm × zRk := (195, ([(2, 0, 90, 18), (2, 0, 90, 22)], ([zqv170, zqv210, zqv154, zqv261, zqv233, zqv208], [], [zqa60], [], [zqf92, zqf100, zqf104, (0, 90, 22, (1, 5, 0, 0, 0)), (0, 109, 3, (1, 0, 0, 0, 0))], [])), [(2, 0, 2)])
def zpA502 : zAnn := [zpA502h0, zpA502h1, zpA502h2]

/-- PushedInModel.isShelf () -/
def zpC503 : zC := (170, (2, 65), ([(0, 0, 0, 0)], ([zqv170, zqv210, zqv154, zqv261, zqv166], [], [zqa37], [], [], [])), [([], ([zqv170, zqv210, zqv154, zqv261, zqv159], [], [], [zqa8], [], [])), ([], ([zqv170, zqv210, zqv154, zqv261, zqv221], [], [], [zqa9], [], []))], zqw384)
def zpA503 : zAnn := []

/-- PushedInModel.within ((1, 1), (2, 12)) -/
def zpC504 : zC := (212, (1, 40), ([(0, 0, 0, 0)], ([zqv170, zqv210, zqv154, zqv261, zqv166], [], [zqa47, zqa0, zqa45, zqa0, (2, 0, 12, 0, 0), zqa0], [], [], [])), [([], ([zqv170, zqv210, zqv154, zqv261, [((-2147483648), 0), (13, 2147483647)]], [], [], [zqa8], [], [])), ([], ([zqv170, zqv210, zqv154, zqv261, zqv244], [], [], [zqa9], [], []))], zqw384)
def zpA504 : zAnn := []

/-- PushedInModel.comers () -/
def zpC505 : zC := (148, (3, 85), ([(0, 1, 0, 0), (0, 2, 0, 0), (0, 3, 0, 0), (2, 0, 90, 22)], ([zqv170, zqv210, zqv154, zqv261, zqv166, zqv166, zqv166, zqv210], [], [zqa60, zqa37, zqa38, zqa39, zqa0, zqa0, zqa0], [], [zqf117], [])), [([(1, 0, 0, 0), (2, 0, 90, 22)], ([zqv170, zqv210, zqv154, zqv261, zqv166, zqv166, zqv166, zqv210, [((-12), (-12)), ((-1), 12)], zqv210], [(9, 7, 12), (7, 9, 0)], [], [zqa41], [(0, 90, 22, (1, 9, 0, 0, 0))], []))], [(90, 90, 1, 22), (91, 91, 0, 0), (101, 101, 0, 0), (102, 102, 0, 0), (103, 103, 0, 0), (104, 104, 0, 0), (105, 105, 0, 0), (106, 106, 0, 0), (107, 107, 0, 0), (108, 108, 0, 0), (109, 109, 0, 0)])
def zpA505h0 : Nat × zTm × zRk := (116, ([], ([zqv170, zqv210, zqv154, zqv261, zqv221, zqv188, zqv244, zqv210], [], [zqa60, zqa37, zqa38, zqa39, zqa8, zqa8, zqa8], [], [zqf117], [])), [(2, 0, 1)])
def zpA505h1 : Nat × zTm × zRk := (116, ([(0, 6, 0, 0)], ([zqv170, zqv210, zqv154, zqv261, zqv221, zqv227, zqv244, zqv208, zqv221], [], [zqa60, zqa37, zqa38, zqa39, zqa8, zqa9, zqa41], [], [zqf117], [])), [(2, 0, 47), (0, 8, 5), (2, 0, 0)])
def zpA505h2 : Nat × zTm × zRk := (116, ([], ([zqv170, zqv210, zqv154, zqv261, zqv221, zqv227, zqv274, zqv208], [], [zqa60, zqa37, zqa38, zqa39, zqa9, zqa8, zqa8], [], [zqf118], [])), [(2, 0, 45)])
def zpA505h3 : Nat × zTm × zRk := (116, ([(0, 6, 0, 0)], ([zqv170, zqv210, zqv154, zqv261, zqv221, zqv222, zqv274, zqv207, zqv221], [], [zqa60, zqa37, zqa38, zqa39, zqa9, zqa9, zqa41], [], [zqf118], [])), [(2, 0, 44), (0, 8, 5), (2, 0, 0)])
def zpA505h4 : Nat × zTm × zRk := (116, ([], ([zqv170, zqv210, zqv154, zqv261, zqv221, zqv172, zqv265, zqv199], [], [zqa60, zqa37, zqa38, zqa39, zqa10, zqa8, zqa8], [], [zqf119], [])), [(2, 0, 9)])
def zpA505h5 : Nat × zTm × zRk := (116, ([(0, 6, 0, 0)], ([zqv170, zqv210, zqv154, zqv261, zqv221, zqv221, zqv265, zqv197, zqv221], [], [zqa60, zqa37, zqa38, zqa39, zqa10, zqa9, zqa41], [], [zqf119], [])), [(2, 0, 8), (0, 8, 5), (2, 0, 0)])
def zpA505h6 : Nat × zTm × zRk := (116, ([], ([zqv170, zqv210, zqv154, zqv261, zqv221, zqv221, zqv266, zqv197], [], [zqa60, zqa37, zqa38, zqa39, zqa12, zqa8, zqa8], [], [zqf120], [])), [(2, 0, 5)])
def zpA505h7 : Nat × zTm × zRk := (116, ([(0, 6, 0, 0)], ([zqv170, zqv210, zqv154, zqv261, zqv221, zqv170, zqv266, zqv196, zqv221], [], [zqa60, zqa37, zqa38, zqa39, zqa12, zqa9, zqa41], [], [zqf120], [])), [(2, 0, 4), (0, 8, 5), (2, 0, 0)])
def zpA505h8 : Nat × zTm × zRk := (116, ([], ([zqv170, zqv210, zqv154, zqv261, zqv221, zqv222, zqv292, zqv207], [], [zqa60, zqa37, zqa38, zqa39, zqa13, zqa8, zqa8], [], [zqf121], [])), [(2, 0, 41)])
def zpA505h9 : Nat × zTm × zRk := (116, ([(0, 6, 0, 0)], ([zqv170, zqv210, zqv154, zqv261, zqv221, zqv215, zqv292, zqv206, zqv221], [], [zqa60, zqa37, zqa38, zqa39, zqa13, zqa9, zqa41], [], [zqf121], [])), [(2, 0, 40), (0, 8, 5), (2, 0, 0)])
def zpA505h10 : Nat × zTm × zRk := (116, ([], ([zqv170, zqv210, zqv154, zqv261, zqv221, zqv215, zqv311, zqv206], [], [zqa60, zqa37, zqa38, zqa39, zqa15, zqa8, zqa8], [], [zqf122], [])), [(2, 0, 37)])
def zpA505h11 : Nat × zTm × zRk := (116, ([(0, 6, 0, 0)], ([zqv170, zqv210, zqv154, zqv261, zqv221, zqv210, zqv311, zqv205, zqv221], [], [zqa60, zqa37, zqa38, zqa39, zqa15, zqa9, zqa41], [], [zqf122], [])), [(2, 0, 36), (0, 8, 5), (2, 0, 0)])
def zpA505h12 : Nat × zTm × zRk := (116, ([], ([zqv170, zqv210, zqv154, zqv261, zqv221, zqv210, zqv330, zqv205], [], [zqa60, zqa37, zqa38, zqa39, zqa19, zqa8, zqa8], [], [zqf123], [])), [(2, 0, 33)])
def zpA505h13 : Nat × zTm × zRk := (116, ([(0, 6, 0, 0)], ([zqv170, zqv210, zqv154, zqv261, zqv221, zqv204, zqv330, zqv204, zqv221], [], [zqa60, zqa37, zqa38, zqa39, zqa19, zqa9, zqa41], [], [zqf123], [])), [(2, 0, 32), (0, 8, 5), (2, 0, 0)])
def zpA505h14 : Nat × zTm × zRk := (116, ([], ([zqv170, zqv210, zqv154, zqv261, zqv221, zqv204, zqv350, zqv204], [], [zqa60, zqa37, zqa38, zqa39, zqa22, zqa8, zqa8], [], [zqf124], [])), [(2, 0, 29)])
def zpA505h15 : Nat × zTm × zRk := (116, ([(0, 6, 0, 0)], ([zqv170, zqv210, zqv154, zqv261, zqv221, zqv199, zqv350, zqv203, zqv221], [], [zqa60, zqa37, zqa38, zqa39, zqa22, zqa9, zqa41], [], [zqf124], [])), [(2, 0, 28), (0, 8, 5), (2, 0, 0)])
def zpA505h16 : Nat × zTm × zRk := (116, ([], ([zqv170, zqv210, zqv154, zqv261, zqv221, zqv199, zqv356, zqv203], [], [zqa60, zqa37, zqa38, zqa39, zqa25, zqa8, zqa8], [], [zqf125], [])), [(2, 0, 25)])
def zpA505h17 : Nat × zTm × zRk := (116, ([(0, 6, 0, 0)], ([zqv170, zqv210, zqv154, zqv261, zqv221, zqv192, zqv356, zqv202, zqv221], [], [zqa60, zqa37, zqa38, zqa39, zqa25, zqa9, zqa41], [], [zqf125], [])), [(2, 0, 24), (0, 8, 5), (2, 0, 0)])
def zpA505h18 : Nat × zTm × zRk := (116, ([], ([zqv170, zqv210, zqv154, zqv261, zqv221, zqv192, zqv360, zqv202], [], [zqa60, zqa37, zqa38, zqa39, zqa26, zqa8, zqa8], [], [zqf126], [])), [(2, 0, 21)])
def zpA505h19 : Nat × zTm × zRk := (116, ([(0, 6, 0, 0)], ([zqv170, zqv210, zqv154, zqv261, zqv221, zqv183, zqv360, zqv201, zqv221], [], [zqa60, zqa37, zqa38, zqa39, zqa26, zqa9, zqa41], [], [zqf126], [])), [(2, 0, 20), (0, 8, 5), (2, 0, 0)])
def zpA505h20 : Nat × zTm × zRk := (116, ([], ([zqv170, zqv210, zqv154, zqv261, zqv221, zqv183, zqv363, zqv201], [], [zqa60, zqa37, zqa38, zqa39, zqa30, zqa8, zqa8], [], [zqf127], [])), [(2, 0, 17)])
def zpA505h21 : Nat × zTm × zRk := (116, ([(0, 6, 0, 0)], ([zqv170, zqv210, zqv154, zqv261, zqv221, zqv177, zqv363, zqv200, zqv221], [], [zqa60, zqa37, zqa38, zqa39, zqa30, zqa9, zqa41], [], [zqf127], [])), [(2, 0, 16), (0, 8, 5), (2, 0, 0)])
def zpA505h22 : Nat × zTm × zRk := (116, ([], ([zqv170, zqv210, zqv154, zqv261, zqv221, zqv177, zqv262, zqv200], [], [zqa60, zqa37, zqa38, zqa39, zqa32, zqa8, zqa8], [], [zqf128], [])), [(2, 0, 13)])
def zpA505h23 : Nat × zTm × zRk := (116, ([(0, 6, 0, 0)], ([zqv170, zqv210, zqv154, zqv261, zqv221, zqv172, zqv262, zqv199, zqv221], [], [zqa60, zqa37, zqa38, zqa39, zqa32, zqa9, zqa41], [], [zqf128], [])), [(2, 0, 12), (0, 8, 5), (2, 0, 0)])
def zpA505h24 : Nat × zTm × zRk := (69, ([], ([zqv170, zqv210, zqv154, zqv261, zqv221, zqv166, zqv244, zqv210], [], [zqa60, zqa37, zqa38, zqa39, zqa8, zqa8, zqa0], [], [zqf117], [])), [(2, 0, 0)])
def zpA505h25 : Nat × zTm × zRk := (69, ([], ([zqv170, zqv210, zqv154, zqv261, zqv221, zqv188, zqv244, zqv210], [], [zqa60, zqa37, zqa38, zqa39, zqa8, zqa9, zqa0], [], [zqf117], [])), [(2, 0, 48)])
def zpA505h26 : Nat × zTm × zRk := (69, ([(0, 6, 0, 0)], ([zqv170, zqv210, zqv154, zqv261, zqv221, zqv227, zqv274, zqv208, zqv169], [], [zqa60, zqa37, zqa38, zqa39, zqa9, zqa8, zqa41], [], [zqf118], [])), [(2, 0, 43)])
def zpA505h27 : Nat × zTm × zRk := (69, ([(0, 6, 0, 0)], ([zqv170, zqv210, zqv154, zqv261, zqv221, zqv227, zqv244, zqv208, zqv335], [], [zqa60, zqa37, zqa38, zqa39, zqa9, zqa9, zqa41], [], [zqf118], [])), [(2, 0, 46)])
def zpA505h28 : Nat × zTm × zRk := (69, ([(0, 6, 0, 0)], ([zqv170, zqv210, zqv154, zqv261, zqv221, zqv172, zqv265, zqv199, zqv169], [], [zqa60, zqa37, zqa38, zqa39, zqa10, zqa8, zqa41], [], [zqf119], [])), [(2, 0, 7)])
def zpA505h29 : Nat × zTm × zRk := (69, ([(0, 6, 0, 0)], ([zqv170, zqv210, zqv154, zqv261, zqv221, zqv172, zqv262, zqv199, zqv335], [], [zqa60, zqa37, zqa38, zqa39, zqa10, zqa9, zqa41], [], [zqf119], [])), [(2, 0, 10)])
def zpA505h30 : Nat × zTm × zRk := (69, ([(0, 6, 0, 0)], ([zqv170, zqv210, zqv154, zqv261, zqv221, zqv221, zqv266, zqv197, zqv169], [], [zqa60, zqa37, zqa38, zqa39, zqa12, zqa8, zqa41], [], [zqf120], [])), [(2, 0, 3)])
def zpA505h31 : Nat × zTm × zRk := (69, ([(0, 6, 0, 0)], ([zqv170, zqv210, zqv154, zqv261, zqv221, zqv221, zqv265, zqv197, zqv335], [], [zqa60, zqa37, zqa38, zqa39, zqa12, zqa9, zqa41], [], [zqf120], [])), [(2, 0, 6)])
def zpA505h32 : Nat × zTm × zRk := (69, ([(0, 6, 0, 0)], ([zqv170, zqv210, zqv154, zqv261, zqv221, zqv170, zqv266, zqv196, zqv335], [], [zqa60, zqa37, zqa38, zqa39, (1, 0, 12, 0, 0), zqa9, zqa41], [], [(0, 90, 22, (1, 7, 12, 0, 0))], [])), [(2, 0, 2)])
def zpA505h33 : Nat × zTm × zRk := (69, ([(0, 6, 0, 0)], ([zqv170, zqv210, zqv154, zqv261, zqv221, zqv222, zqv292, zqv207, zqv169], [], [zqa60, zqa37, zqa38, zqa39, zqa13, zqa8, zqa41], [], [zqf121], [])), [(2, 0, 39)])
def zpA505h34 : Nat × zTm × zRk := (69, ([(0, 6, 0, 0)], ([zqv170, zqv210, zqv154, zqv261, zqv221, zqv222, zqv274, zqv207, zqv335], [], [zqa60, zqa37, zqa38, zqa39, zqa13, zqa9, zqa41], [], [zqf121], [])), [(2, 0, 42)])
def zpA505h35 : Nat × zTm × zRk := (69, ([(0, 6, 0, 0)], ([zqv170, zqv210, zqv154, zqv261, zqv221, zqv215, zqv311, zqv206, zqv169], [], [zqa60, zqa37, zqa38, zqa39, zqa15, zqa8, zqa41], [], [zqf122], [])), [(2, 0, 35)])
def zpA505h36 : Nat × zTm × zRk := (69, ([(0, 6, 0, 0)], ([zqv170, zqv210, zqv154, zqv261, zqv221, zqv215, zqv292, zqv206, zqv335], [], [zqa60, zqa37, zqa38, zqa39, zqa15, zqa9, zqa41], [], [zqf122], [])), [(2, 0, 38)])
def zpA505h37 : Nat × zTm × zRk := (69, ([(0, 6, 0, 0)], ([zqv170, zqv210, zqv154, zqv261, zqv221, zqv210, zqv330, zqv205, zqv169], [], [zqa60, zqa37, zqa38, zqa39, zqa19, zqa8, zqa41], [], [zqf123], [])), [(2, 0, 31)])
def zpA505h38 : Nat × zTm × zRk := (69, ([(0, 6, 0, 0)], ([zqv170, zqv210, zqv154, zqv261, zqv221, zqv210, zqv311, zqv205, zqv335], [], [zqa60, zqa37, zqa38, zqa39, zqa19, zqa9, zqa41], [], [zqf123], [])), [(2, 0, 34)])
def zpA505h39 : Nat × zTm × zRk := (69, ([(0, 6, 0, 0)], ([zqv170, zqv210, zqv154, zqv261, zqv221, zqv204, zqv350, zqv204, zqv169], [], [zqa60, zqa37, zqa38, zqa39, zqa22, zqa8, zqa41], [], [zqf124], [])), [(2, 0, 27)])
def zpA505h40 : Nat × zTm × zRk := (69, ([(0, 6, 0, 0)], ([zqv170, zqv210, zqv154, zqv261, zqv221, zqv204, zqv330, zqv204, zqv335], [], [zqa60, zqa37, zqa38, zqa39, zqa22, zqa9, zqa41], [], [zqf124], [])), [(2, 0, 30)])
def zpA505h41 : Nat × zTm × zRk := (69, ([(0, 6, 0, 0)], ([zqv170, zqv210, zqv154, zqv261, zqv221, zqv199, zqv356, zqv203, zqv169], [], [zqa60, zqa37, zqa38, zqa39, zqa25, zqa8, zqa41], [], [zqf125], [])), [(2, 0, 23)])
def zpA505h42 : Nat × zTm × zRk := (69, ([(0, 6, 0, 0)], ([zqv170, zqv210, zqv154, zqv261, zqv221, zqv199, zqv350, zqv203, zqv335], [], [zqa60, zqa37, zqa38, zqa39, zqa25, zqa9, zqa41], [], [zqf125], [])), [(2, 0, 26)])
def zpA505h43 : Nat × zTm × zRk := (69, ([(0, 6, 0, 0)], ([zqv170, zqv210, zqv154, zqv261, zqv221, zqv192, zqv360, zqv202, zqv169], [], [zqa60, zqa37, zqa38, zqa39, zqa26, zqa8, zqa41], [], [zqf126], [])), [(2, 0, 19)])
def zpA505h44 : Nat × zTm × zRk := (69, ([(0, 6, 0, 0)], ([zqv170, zqv210, zqv154, zqv261, zqv221, zqv192, zqv356, zqv202, zqv335], [], [zqa60, zqa37, zqa38, zqa39, zqa26, zqa9, zqa41], [], [zqf126], [])), [(2, 0, 22)])
def zpA505h45 : Nat × zTm × zRk := (69, ([(0, 6, 0, 0)], ([zqv170, zqv210, zqv154, zqv261, zqv221, zqv183, zqv363, zqv201, zqv169], [], [zqa60, zqa37, zqa38, zqa39, zqa30, zqa8, zqa41], [], [zqf127], [])), [(2, 0, 15)])
def zpA505h46 : Nat × zTm × zRk := (69, ([(0, 6, 0, 0)], ([zqv170, zqv210, zqv154, zqv261, zqv221, zqv183, zqv360, zqv201, zqv335], [], [zqa60, zqa37, zqa38, zqa39, zqa30, zqa9, zqa41], [], [zqf127], [])), [(2, 0, 18)])
def zpA505h47 : Nat × zTm × zRk := (69, ([(0, 6, 0, 0)], ([zqv170, zqv210, zqv154, zqv261, zqv221, zqv177, zqv262, zqv200, zqv169], [], [zqa60, zqa37, zqa38, zqa39, zqa32, zqa8, zqa41], [], [zqf128], [])), [(2, 0, 11)])
def zpA505h48 : Nat × zTm × zRk := (69, ([(0, 6, 0, 0)], ([zqv170, zqv210, zqv154, zqv261, zqv221, zqv177, zqv363, zqv200, zqv335], [], [zqa60, zqa37, zqa38, zqa39, zqa32, zqa9, zqa41], [], [zqf128], [])), [(2, 0, 14)])
def zpA505 : zAnn := [zpA505h0, zpA505h1, zpA505h2, zpA505h3, zpA505h4, zpA505h5, zpA505h6, zpA505h7, zpA505h8, zpA505h9, zpA505h10, zpA505h11, zpA505h12, zpA505h13, zpA505h14, zpA505h15, zpA505h16, zpA505h17, zpA505h18, zpA505h19, zpA505h20, zpA505h21, zpA505h22, zpA505h23, zpA505h24, zpA505h25, zpA505h26, zpA505h27, zpA505h28, zpA505h29, zpA505h30, zpA505h31, zpA505h32, zpA505h33, zpA505h34, zpA505h35, zpA505h36, zpA505h37, zpA505h38, zpA505h39, zpA505h40, zpA505h41, zpA505h42, zpA505h43, zpA505h44, zpA505h45, zpA505h46, zpA505h47, zpA505h48]

/-- PushedInModel.goesAhead () -/
def zpC506 : zC := (160, (1, 40), ([(0, 1, 0, 0), (0, 2, 0, 0)], ([zqv170, zqv210, zqv154, zqv261, zqv208, zqv208], [], [zqa60, zqa37, zqa38], [], [], [])), [([], ([zqv170, zqv210, zqv154, zqv261, zqv208, zqv208], [], [], [zqa8], [], [])), ([], ([zqv170, zqv210, zqv154, zqv261, zqv208, zqv208], [], [], [zqa9], [], []))], zqw384)
def zpA506 : zAnn := []

/-- PushedInModel.aheadOf () -/
def zpC507 : zC := (134, (2, 62), ([(0, 1, 0, 0)], ([zqv170, zqv210, zqv154, zqv261, zqv208], [], [zqa60, zqa37, zqa0, zqa0], [], [], [])), [([(1, 0, 0, 0)], ([zqv170, zqv210, zqv154, zqv261, zqv208, zqv153], [], [], [zqa38], [], []))], zqw384)
def zpA507 : zAnn := [(4, ([(0, 2, 0, 0), (0, 3, 0, 0)], ([zqv170, zqv210, zqv154, zqv261, zqv208, zqv153, zqv210], [(5, 6, 0)], [zqa60, zqa37, zqa38, zqa39], [], [], [])), [(2, 0, 0), (0, 5, 39), (2, 0, 0), (0, 6, 40)])]

/-- PushedInModel.within () -/
def zpC508 : zC := (212, (1, 40), ([(0, 0, 0, 0), (0, 2, 0, 0), (0, 4, 0, 0)], ([zqv170, zqv210, zqv154, zqv261, zqv166, zqv166, zqv166], [], [zqa47, zqa0, zqa48, zqa0, zqa49, zqa0], [], [], [])), [([], ([zqv170, zqv210, zqv154, zqv261, zqv166, zqv166, zqv166], [], [], [zqa8], [], [])), ([], ([zqv170, zqv210, zqv154, zqv261, zqv166, zqv166, zqv166], [(4, 6, 0), (5, 4, 0), (5, 6, 0)], [], [zqa9], [], []))], zqw384)
def zpA508 : zAnn := []

/-- PushedInModel.isAway () -/
def zpC509 : zC := (163, (2, 65), ([(0, 1, 0, 0), (0, 2, 0, 0)], ([zqv170, zqv210, zqv154, zqv261, zqv166, zqv165], [], [zqa60, zqa37, zqa38, zqa0], [], [], [])), [([], ([zqv170, zqv210, zqv154, zqv261, zqv166, zqv165], [], [], [zqa8], [], [])), ([], ([zqv170, zqv210, zqv154, zqv261, zqv166, zqv165], [], [], [zqa9], [], []))], zqw384)
def zpA509 : zAnn := [(2, ([(0, 3, 0, 0)], ([zqv170, zqv210, zqv154, zqv261, zqv166, zqv165, zqv174], [], [zqa60, zqa37, zqa38, zqa39], [], [], [])), [(2, 0, 0), (0, 6, 12), (2, 0, 0)])]

/-- PushedInModel.lateOf () -/
def zpC510 : zC := (175, (1, 40), ([(0, 1, 0, 0)], ([zqv170, zqv210, zqv154, zqv261, zqv208], [], [zqa60, zqa37], [], [], [])), [([(1, 0, 0, 0)], ([zqv170, zqv210, zqv154, zqv261, zqv208, zqv166], [], [], [zqa38], [], []))], zqw384)
def zpA510 : zAnn := []

/-- PushedInModel.earlyOf () -/
def zpC511 : zC := (153, (3, 88), ([(0, 1, 0, 0)], ([zqv170, zqv210, zqv154, zqv261, zqv208], [], [zqa60, zqa37, zqa0, zqa0, zqa0, zqa0], [], [], [])), [([(1, 0, 0, 0)], ([zqv170, zqv210, zqv154, zqv261, zqv208, zqv188], [], [], [zqa38], [], [])), ([], ([zqv170, zqv210, zqv154, zqv261, zqv208], [], [], [zqa5], [], []))], zqw384)
def zpA511 : zAnn := [(96, ([(0, 2, 0, 0), (0, 3, 0, 0), (0, 4, 0, 0), (0, 5, 0, 0)], ([zqv170, zqv210, zqv154, zqv261, zqv208, zqv188, zqv166, zqv153, zqv188], [(5, 8, 0)], [zqa60, zqa37, zqa38, zqa39, zqa40, zqa41], [], [], [])), [(2, 0, 0), (0, 5, 2147483647), (2, 0, 0), (0, 8, 2147483647)])]

/-- PushedInModel.within ((1, 0),) -/
def zpC512 : zC := (212, (1, 40), ([(0, 0, 0, 0), (0, 4, 0, 0)], ([zqv170, zqv210, zqv154, zqv261, zqv166, zqv153], [], [zqa47, zqa0, zqa44, zqa0, zqa48, zqa0], [], [], [])), [([], ([zqv170, zqv210, zqv154, zqv261, zqv166, zqv153], [], [], [zqa8], [], [])), ([], ([zqv170, zqv210, zqv154, zqv261, zqv208, zqv208], [(4, 5, 0)], [], [zqa9], [], []))], zqw384)
def zpA512 : zAnn := []

/-- PushedInModel.isComer () -/
def zpC513 : zC := (164, (2, 65), ([(0, 1, 0, 0)], ([zqv170, zqv210, zqv154, zqv261, zqv166], [], [zqa60, zqa37], [], [], [])), [([], ([zqv170, zqv210, zqv154, zqv261, zqv166], [], [], [zqa8], [], [])), ([], ([zqv170, zqv210, zqv154, zqv261, zqv208], [], [], [zqa9], [], []))], zqw384)
def zpA513 : zAnn := []

/-- PushedInModel.of () -/
def zpC514 : zC := (182, (4, 113), ([(0, 1, 0, 0), (0, 2, 0, 0)], ([zqv170, zqv210, zqv154, zqv261, zqv166, zqv166], [], [zqa60, zqa37, zqa38], [], [], [])), [([(1, 0, 0, 0)], ([zqv170, zqv210, zqv154, zqv261, zqv208, zqv172, zqv166], [], [], [zqa39], [], [])), ([], ([zqv170, zqv210, zqv154, zqv261, zqv166, zqv166], [], [], [zqa1], [], [])), ([], ([zqv170, zqv210, zqv154, zqv261, zqv208, [(9, 10)]], [], [], [zqa5], [], []))], zqw384)
def zpA514 : zAnn := []

/-- PushedInModel.came () -/
def zpC515 : zC := (143, (3, 86), ([(0, 1, 0, 0), (0, 2, 0, 0), (2, 0, 90, 5), (2, 0, 90, 4)], ([zqv170, zqv210, zqv154, zqv261, zqv166, zqv166, zqv210, zqv210], [(6, 7, 0)], [zqa60, zqa37, zqa38], [], [zqf142, zqf135], [])), [([(1, 0, 0, 0), (2, 0, 90, 5), (2, 0, 90, 4)], ([zqv170, zqv210, zqv154, zqv261, zqv208, zqv187, zqv210, zqv210, zqv166, zqv210, zqv210], [(10, 7, 1), (9, 10, 0), (9, 6, 1), (9, 7, 1), (6, 10, 0), (6, 9, 0)], [], [zqa41], [zqf143, zqf133], [])), ([], ([zqv170, zqv210, zqv154, zqv261, zqv166, zqv166, zqv210, zqv210], [], [], [zqa1], [zqf142, zqf135], []))], zqw382)
def zpA515 : zAnn := []

/-- PushedInModel.isDay () -/
def zpC516 : zC := (165, (2, 65), ([(0, 0, 0, 0)], ([zqv170, zqv210, zqv154, zqv261, zqv166], [], [zqa37], [], [], [])), [([], ([zqv170, zqv210, zqv154, zqv261, zqv158], [], [], [zqa8], [], [])), ([], ([zqv170, zqv210, zqv154, zqv261, zqv198], [], [], [zqa9], [], []))], zqw384)
def zpA516 : zAnn := []

/-- PushedInModel.cant () -/
def zpC517 : zC := (144, (4, 113), ([(0, 1, 0, 0)], ([zqv170, zqv210, zqv154, zqv261, zqv166], [], [zqa60, zqa37, zqa0], [], [], [])), [([(1, 0, 0, 0)], ([zqv170, zqv210, zqv154, zqv261, zqv198, zqv208], [], [], [zqa38], [], [])), ([], ([zqv170, zqv210, zqv154, zqv261, zqv158], [], [], [zqa1], [], [])), ([], ([zqv170, zqv210, zqv154, zqv261, zqv198], [], [], [zqa5], [], []))], zqw384)
def zpA517 : zAnn := [(11, ([(0, 2, 0, 0)], ([zqv170, zqv210, zqv154, zqv261, zqv198, zqv210], [], [zqa60, zqa37, zqa38], [], [], [])), [(2, 0, 0), (0, 5, 40), (2, 0, 0)])]

/-- PushedInModel.findStarts () -/
def zpC518 : zC := (159, (4, 113), ([], ([zqv170, zqv210, zqv154, zqv261], [], [zqa60, zqa0], [], [], [])), [([], ([zqv170, zqv210, zqv154, zqv261], [], [], [], [], []))], zqw368)
def zpA518 : zAnn := [(2, ([(0, 1, 0, 0)], ([zqv170, zqv210, zqv154, zqv261, zqv210], [], [zqa60, zqa37], [], [], [])), [(2, 0, 0), (0, 4, 40), (2, 0, 0)])]

/-- PushedInModel.isLater () -/
def zpC519 : zC := (167, (1, 40), ([(0, 1, 0, 0), (0, 2, 0, 0)], ([zqv170, zqv210, zqv154, zqv261, zqv208, zqv208], [], [zqa60, zqa37, zqa38], [], [], [])), [([], ([zqv170, zqv210, zqv154, zqv261, zqv208, zqv208], [], [], [zqa8], [], [])), ([], ([zqv170, zqv210, zqv154, zqv261, zqv208, zqv208], [], [], [zqa9], [], []))], zqw384)
def zpA519 : zAnn := []

/-- PushedInModel.passes () -/
def zpC520 : zC := (186, (2, 62), ([(0, 1, 0, 0), (0, 2, 0, 0), (0, 3, 0, 0)], ([zqv170, zqv210, zqv154, zqv261, zqv208, zqv208, zqv171], [], [zqa60, zqa37, zqa38, zqa39], [], [], [])), [([], ([zqv170, zqv210, zqv154, zqv261, zqv208, zqv208, zqv171], [], [], [zqa8], [], [])), ([], ([zqv170, zqv210, zqv154, zqv261, zqv208, zqv208, zqv171], [], [], [zqa9], [], []))], zqw384)
def zpA520 : zAnn := []

/-- PushedInModel.passed () -/
def zpC521 : zC := (185, (5, 134), ([(0, 1, 0, 0), (0, 2, 0, 0)], ([zqv170, zqv210, zqv154, zqv261, zqv166, zqv166], [], [zqa60, zqa37, zqa38], [], [], [])), [([], ([zqv170, zqv210, zqv154, zqv261, zqv166, zqv166], [], [], [zqa1], [], [])), ([], ([zqv170, zqv210, zqv154, zqv261, zqv188, zqv171], [], [], [zqa8], [], [])), ([], ([zqv170, zqv210, zqv154, zqv261, zqv188, zqv171], [], [], [zqa9], [], []))], zqw368)
def zpA521 : zAnn := []

/-- PushedInModel.pairs () -/
def zpC522 : zC := (184, (5, 134), ([(0, 1, 0, 0), (0, 2, 0, 0)], ([zqv170, zqv210, zqv154, zqv261, zqv166, zqv166], [], [zqa60, zqa37, zqa38, zqa0, zqa0, zqa0], [], [], [])), [([(1, 0, 0, 0)], ([zqv170, zqv210, zqv154, zqv261, zqv198, zqv171, zqv166], [], [], [zqa39], [], [])), ([], ([zqv170, zqv210, zqv154, zqv261, zqv166, zqv166], [], [], [zqa1], [], []))], zqw368)
def zpA522 : zAnn := [(28, ([(0, 3, 0, 0), (0, 4, 0, 0)], ([zqv170, zqv210, zqv154, zqv261, zqv198, zqv171, zqv166, zqv210], [], [zqa60, zqa37, zqa38, zqa39, zqa40, zqa0], [], [], [])), [(2, 0, 0), (0, 7, 40), (2, 0, 1)]), (40, ([(0, 3, 0, 0), (0, 4, 0, 0), (0, 5, 0, 0)], ([zqv170, zqv210, zqv154, zqv261, zqv198, zqv171, zqv166, zqv208, zqv210], [], [zqa60, zqa37, zqa38, zqa39, zqa40, zqa41], [], [], [])), [(2, 0, 0), (0, 7, 40), (2, 0, 0), (0, 8, 40)])]

/-- PushedInModel.within ((1, -1), (2, 719)) -/
def zpC523 : zC := (212, (1, 40), ([(0, 0, 0, 0)], ([zqv170, zqv210, zqv154, zqv261, zqv166], [], [zqa47, zqa0, zqa43, zqa0, zqa46, zqa0], [], [], [])), [([], ([zqv170, zqv210, zqv154, zqv261, [((-2147483648), (-2)), (720, 2147483647)]], [], [], [zqa8], [], [])), ([], ([zqv170, zqv210, zqv154, zqv261, zqv155], [], [], [zqa9], [], []))], zqw384)
def zpA523 : zAnn := []

/-- PushedInModel.start () -/
def zpC524 : zC := (199, (3, 86), ([(0, 1, 0, 0), (0, 2, 0, 0)], ([zqv170, zqv210, zqv154, zqv261, zqv166, zqv166], [], [zqa60, zqa37, zqa38], [], [], [])), [([], ([zqv170, zqv210, zqv154, zqv261, zqv166, zqv166], [], [], [zqa1], [], [])), ([], ([zqv170, zqv210, zqv154, zqv261, zqv208, zqv155], [], [], [zqa9], [], []))], [(108, 108, 0, 0)])
def zpA524 : zAnn := []

/-- PushedInModel.passesAsTold () -/
def zpC525 : zC := (187, (2, 62), ([(0, 1, 0, 0), (0, 2, 0, 0)], ([zqv170, zqv210, zqv154, zqv261, zqv208, zqv208], [], [zqa60, zqa37, zqa38], [], [], [])), [([], ([zqv170, zqv210, zqv154, zqv261, zqv208, zqv208], [], [], [zqa8], [], [])), ([], ([zqv170, zqv210, zqv154, zqv261, zqv208, zqv208], [], [], [zqa9], [], []))], zqw384)
def zpA525 : zAnn := []

/-- PushedInModel.judge () -/
def zpC526 : zC := (171, (5, 134), ([(0, 1, 0, 0), (0, 2, 0, 0)], ([zqv170, zqv210, zqv154, zqv261, zqv166, zqv166], [], [zqa60, zqa37, zqa38, zqa0, zqa0, zqa0, zqa0], [], [], [])), [([(1, 0, 0, 0)], ([zqv170, zqv210, zqv154, zqv261, zqv198, zqv171, zqv166], [], [], [zqa39], [], [])), ([], ([zqv170, zqv210, zqv154, zqv261, zqv166, zqv166], [], [], [zqa1], [], [])), ([], ([zqv170, zqv210, zqv154, zqv261, zqv198, zqv170], [], [], [zqa5], [], []))], zqw368)
def zpA526 : zAnn := [(126, ([(0, 3, 0, 0), (0, 4, 0, 0), (0, 5, 0, 0), (0, 6, 0, 0)], ([zqv170, zqv210, zqv154, zqv261, zqv198, zqv171, zqv166, zqv208, zqv171, zqv210], [], [zqa60, zqa37, zqa38, zqa39, zqa40, zqa41, zqa42], [], [], [])), [(2, 0, 0), (0, 7, 40), (2, 0, 0), (0, 9, 40)]), (28, ([(0, 3, 0, 0), (0, 4, 0, 0)], ([zqv170, zqv210, zqv154, zqv261, zqv198, zqv171, zqv166, zqv210], [], [zqa60, zqa37, zqa38, zqa39, zqa40, zqa0, zqa0], [], [], [])), [(2, 0, 0), (0, 7, 40), (2, 0, 1)])]

/-- PushedInModel.whom () -/
def zpC527 : zC := (211, (5, 134), ([(0, 1, 0, 0)], ([zqv170, zqv210, zqv154, zqv261, zqv166], [], [zqa60, zqa37, zqa0, zqa0, zqa0], [], [], [])), [([(1, 0, 0, 0)], ([zqv170, zqv210, zqv154, zqv261, zqv208, zqv168], [], [], [zqa48], [], [])), ([], ([zqv170, zqv210, zqv154, zqv261, zqv166], [], [], [zqa43], [], []))], zqw368)
def zpA527 : zAnn := [(21, ([(0, 2, 0, 0), (0, 4, 0, 0)], ([zqv170, zqv210, zqv154, zqv261, zqv208, zqv168, zqv210], [], [zqa60, zqa37, zqa48, zqa0, zqa39], [], [], [])), [(2, 0, 0), (0, 6, 40), (2, 0, 0)])]

/-- PushedInModel.chooseFrom ((1, 6),) -/
def zpC528 : zC := (146, (1, 40), ([(0, 2, 0, 0)], ([zqv170, zqv210, zqv154, zqv261, zqv166], [], [zqa60, zqa25, zqa37, zqa0, zqa0, zqa0, zqa0, zqa0], [], [(0, 90, 36, (1, 0, 6, 0, 0))], [])), [([], ([zqv170, zqv210, zqv154, zqv261, zqv166], [], [], [], [(0, 90, 36, (1, 0, 6, 0, 0))], []))], [(90, 90, 1, 37)])
def zpA528 : zAnn := []

/-- PushedInModel.chooseFrom ((1, 5),) -/
def zpC529 : zC := (146, (2, 67), ([(0, 2, 0, 0), (2, 0, 90, 36)], ([zqv170, zqv210, zqv154, zqv261, zqv166, zqv336], [], [zqa60, zqa22, zqa37, zqa0, zqa0, zqa0, zqa0, zqa0], [], [zqf130], [])), [([(2, 0, 90, 36)], ([zqv170, zqv210, zqv154, zqv261, zqv166, zqv336, zqv336], [], [], [], [zqf131], []))], zqw381)
def zpA529 : zAnn := [(121, ([(0, 3, 0, 0), (0, 4, 0, 0), (0, 5, 0, 0), (0, 6, 0, 0), (0, 7, 0, 0), (2, 0, 90, 36)], ([zqv170, zqv210, zqv154, zqv261, zqv165, zqv352, zqv208, zqv173, zqv166, zqv166, zqv221, zqv352], [], [zqa60, zqa22, zqa37, zqa39, zqa40, zqa41, zqa42, zqa34], [], [zqf129], [])), [(2, 0, 0), (0, 7, 12), (2, 0, 0), (0, 10, 5)]), (33, ([(0, 3, 0, 0), (0, 4, 0, 0), (2, 0, 90, 36)], ([zqv170, zqv210, zqv154, zqv261, zqv165, zqv352, zqv208, zqv174, zqv352], [], [zqa60, zqa22, zqa37, zqa39, zqa40, zqa0, zqa0, zqa0], [], [zqf132], [])), [(2, 0, 0), (0, 7, 12), (2, 0, 1)])]

/-- PushedInModel.chooseFrom ((1, 4),) -/
def zpC530 : zC := (146, (3, 94), ([(0, 2, 0, 0), (2, 0, 90, 36)], ([zqv170, zqv210, zqv154, zqv261, zqv166, zqv316], [], [zqa60, zqa19, zqa37, zqa0, zqa0, zqa0, zqa0, zqa0], [], [zqf130], [])), [([(2, 0, 90, 36)], ([zqv170, zqv210, zqv154, zqv261, zqv166, zqv316, zqv316], [], [], [], [zqf131], []))], zqw381)
def zpA530 : zAnn := [(121, ([(0, 3, 0, 0), (0, 4, 0, 0), (0, 5, 0, 0), (0, 6, 0, 0), (0, 7, 0, 0), (2, 0, 90, 36)], ([zqv170, zqv210, zqv154, zqv261, zqv165, zqv336, zqv208, zqv173, zqv166, zqv166, zqv209, zqv336], [], [zqa60, zqa19, zqa37, zqa39, zqa40, zqa41, zqa42, zqa34], [], [zqf129], [])), [(2, 0, 0), (0, 7, 12), (2, 0, 0), (0, 10, 4)]), (33, ([(0, 3, 0, 0), (0, 4, 0, 0), (2, 0, 90, 36)], ([zqv170, zqv210, zqv154, zqv261, zqv165, zqv336, zqv208, zqv174, zqv336], [], [zqa60, zqa19, zqa37, zqa39, zqa40, zqa0, zqa0, zqa0], [], [zqf132], [])), [(2, 0, 0), (0, 7, 12), (2, 0, 1)])]

/-- PushedInModel.chooseFrom ((1, 3),) -/
def zpC531 : zC := (146, (4, 121), ([(0, 2, 0, 0), (2, 0, 90, 36)], ([zqv170, zqv210, zqv154, zqv261, zqv166, zqv297], [], [zqa60, zqa15, zqa37, zqa0, zqa0, zqa0, zqa0, zqa0], [], [zqf130], [])), [([(2, 0, 90, 36)], ([zqv170, zqv210, zqv154, zqv261, zqv166, zqv297, zqv297], [], [], [], [zqf131], []))], zqw381)
def zpA531 : zAnn := [(121, ([(0, 3, 0, 0), (0, 4, 0, 0), (0, 5, 0, 0), (0, 6, 0, 0), (0, 7, 0, 0), (2, 0, 90, 36)], ([zqv170, zqv210, zqv154, zqv261, zqv165, zqv316, zqv208, zqv173, zqv166, zqv166, zqv198, zqv316], [], [zqa60, zqa15, zqa37, zqa39, zqa40, zqa41, zqa42, zqa34], [], [zqf129], [])), [(2, 0, 0), (0, 7, 12), (2, 0, 0), (0, 10, 3)]), (33, ([(0, 3, 0, 0), (0, 4, 0, 0), (2, 0, 90, 36)], ([zqv170, zqv210, zqv154, zqv261, zqv165, zqv316, zqv208, zqv174, zqv316], [], [zqa60, zqa15, zqa37, zqa39, zqa40, zqa0, zqa0, zqa0], [], [zqf132], [])), [(2, 0, 0), (0, 7, 12), (2, 0, 1)])]

/-- PushedInModel.chooseFrom ((1, 2),) -/
def zpC532 : zC := (146, (5, 148), ([(0, 2, 0, 0), (2, 0, 90, 36)], ([zqv170, zqv210, zqv154, zqv261, zqv171, zqv280], [], [zqa60, zqa13, zqa37, zqa0, zqa0, zqa0, zqa0, zqa0], [], [zqf130], [])), [([(2, 0, 90, 36)], ([zqv170, zqv210, zqv154, zqv261, zqv171, zqv280, zqv280], [], [], [], [zqf131], []))], zqw381)
def zpA532 : zAnn := [(121, ([(0, 3, 0, 0), (0, 4, 0, 0), (0, 5, 0, 0), (0, 6, 0, 0), (0, 7, 0, 0), (2, 0, 90, 36)], ([zqv170, zqv210, zqv154, zqv261, zqv171, zqv297, zqv208, zqv173, zqv166, zqv166, zqv182, zqv297], [], [zqa60, zqa13, zqa37, zqa39, zqa40, zqa41, zqa42, zqa34], [], [zqf129], [])), [(2, 0, 0), (0, 7, 12), (2, 0, 0), (0, 10, 2)]), (33, ([(0, 3, 0, 0), (0, 4, 0, 0), (2, 0, 90, 36)], ([zqv170, zqv210, zqv154, zqv261, zqv171, zqv297, zqv208, zqv174, zqv297], [], [zqa60, zqa13, zqa37, zqa39, zqa40, zqa0, zqa0, zqa0], [], [zqf132], [])), [(2, 0, 0), (0, 7, 12), (2, 0, 1)])]

/-- PushedInModel.chooseFrom ((1, 1),) -/
def zpC533 : zC := (146, (6, 175), ([(2, 0, 90, 36)], ([zqv170, zqv210, zqv154, zqv261, zqv254], [], [zqa60, zqa9, zqa8, zqa0, zqa0, zqa0, zqa0, zqa0], [], [(0, 90, 36, (1, 4, 0, 0, 0))], [])), [([(2, 0, 90, 36)], ([zqv170, zqv210, zqv154, zqv261, zqv254, zqv254], [], [], [], [zqf130], []))], zqw381)
def zpA533 : zAnn := [(121, ([(0, 3, 0, 0), (0, 4, 0, 0), (0, 5, 0, 0), (0, 6, 0, 0), (0, 7, 0, 0), (2, 0, 90, 36)], ([zqv170, zqv210, zqv154, zqv261, zqv280, zqv208, zqv173, zqv166, zqv171, zqv171, zqv280], [(8, 9, 0)], [zqa60, zqa9, zqa8, zqa38, zqa39, zqa40, zqa41, zqa42], [], [(0, 90, 36, (1, 10, 0, 0, 0))], [])), [(2, 0, 0), (0, 6, 12), (2, 0, 0), (0, 9, 1)]), (33, ([(0, 3, 0, 0), (0, 4, 0, 0), (2, 0, 90, 36)], ([zqv170, zqv210, zqv154, zqv261, zqv280, zqv208, zqv174, zqv280], [], [zqa60, zqa9, zqa8, zqa38, zqa39, zqa0, zqa0, zqa0], [], [(0, 90, 36, (1, 7, 0, 0, 0))], [])), [(2, 0, 0), (0, 6, 12), (2, 0, 1)])]

/-- PushedInModel.chooseFrom ((1, 0),) -/
def zpC534 : zC := (146, (7, 202), ([(2, 0, 90, 36)], ([zqv170, zqv210, zqv154, zqv261, zqv232], [], [zqa60, zqa8, zqa8, zqa0, zqa0, zqa0, zqa0, zqa0], [], [(0, 90, 36, (1, 4, 0, 0, 0))], [])), [([(2, 0, 90, 36)], ([zqv170, zqv210, zqv154, zqv261, zqv232, zqv232], [], [], [], [zqf130], []))], zqw381)
def zpA534 : zAnn := [(121, ([(0, 3, 0, 0), (0, 4, 0, 0), (0, 5, 0, 0), (2, 0, 90, 36)], ([zqv170, zqv210, zqv154, zqv261, zqv254, zqv208, zqv173, zqv166, zqv254], [], [zqa60, zqa8, zqa8, zqa38, zqa39, zqa40, zqa8, zqa8], [], [zqf132], [])), [(2, 0, 0), (0, 6, 12), (2, 0, 0)]), (33, ([(0, 3, 0, 0), (0, 4, 0, 0), (2, 0, 90, 36)], ([zqv170, zqv210, zqv154, zqv261, zqv254, zqv208, zqv174, zqv254], [], [zqa60, zqa8, zqa8, zqa38, zqa39, zqa0, zqa0, zqa0], [], [(0, 90, 36, (1, 7, 0, 0, 0))], [])), [(2, 0, 0), (0, 6, 12), (2, 0, 1)])]

/-- PushedInModel.fewest () -/
def zpC535 : zC := (157, (8, 229), ([(0, 1, 0, 0)], ([zqv170, zqv210, zqv154, zqv261, zqv168], [], [zqa60, zqa47, zqa0, zqa0], [], [], [])), [([(1, 0, 0, 0)], ([zqv170, zqv210, zqv154, zqv261, [(1, 9223372036854775807)], zqv166], [], [], [zqa38], [], [])), ([], ([zqv170, zqv210, zqv154, zqv261, zqv168], [], [], [zqa1], [], []))], [(90, 90, 1, 36), (90, 90, 1, 37), (110, 110, 0, 0), (111, 111, 0, 0), (112, 112, 0, 0), (113, 113, 0, 0)])
def zpA535 : zAnn := [(30, ([(0, 3, 0, 0)], ([zqv170, zqv210, zqv154, zqv261, [(1, 9223372036854775807)], zqv210], [], [zqa60, zqa47, zqa0, zqa38], [], [], [])), [(2, 0, 0), (0, 5, 40), (2, 0, 0)])]

/-- PushedInModel.within ((1, 0), (2, 9999)) -/
def zpC536 : zC := (212, (1, 40), ([(0, 0, 0, 0)], ([zqv170, zqv210, zqv154, zqv261, zqv166], [], [zqa47, zqa0, zqa44, zqa0, (2, 0, 9999, 0, 0), zqa0], [], [], [])), [([], ([zqv170, zqv210, zqv154, zqv261, [((-2147483648), (-1)), (10000, 2147483647)]], [], [], [zqa8], [], [])), ([], ([zqv170, zqv210, zqv154, zqv261, zqv242], [], [], [zqa9], [], []))], zqw384)
def zpA536 : zAnn := []

/-- PushedInModel.rule () -/
def zpC537 : zC := (194, (2, 65), ([(0, 1, 0, 0), (0, 2, 0, 0), (0, 3, 0, 0)], ([zqv170, zqv210, zqv154, zqv261, zqv166, zqv166, zqv166], [], [zqa60, zqa37, zqa38, zqa39], [], [], [])), [([(1, 0, 0, 0)], ([zqv170, zqv210, zqv154, zqv261, zqv235, zqv242, zqv241, zqv181], [], [], [zqa40], [], [])), ([], ([zqv170, zqv210, zqv154, zqv261, zqv166, zqv166, zqv166], [], [], [zqa1], [], [])), ([], ([zqv170, zqv210, zqv154, zqv261, zqv235, zqv242, zqv241], [], [], [zqa6], [], []))], [(90, 90, 1, 38), (114, 114, 0, 0), (115, 115, 0, 0), (116, 116, 0, 0), (117, 117, 0, 0)])
def zpA537 : zAnn := []

/-- PushedInModel.nameOf () -/
def zpC538 : zC := (178, (1, 40), ([(0, 0, 0, 0)], ([zqv170, zqv210, zqv154, zqv261, [(0, 39), (41, 44), (46, 255)]], [], [zqa37], [], [], [])), [([], ([zqv170, zqv210, zqv154, zqv261, zqv240], [], [], [zqa1], [], [])), ([], ([zqv170, zqv210, zqv154, zqv261, [(119, 119)]], [], [], [zqa8], [], [])), ([], ([zqv170, zqv210, zqv154, zqv261, [(115, 115)]], [], [], [zqa9], [], [])), ([], ([zqv170, zqv210, zqv154, zqv261, [(109, 109)]], [], [], [zqa13], [], [])), ([], ([zqv170, zqv210, zqv154, zqv261, [(108, 108)]], [], [], [zqa15], [], [])), ([], ([zqv170, zqv210, zqv154, zqv261, [(110, 110)]], [], [], [zqa19], [], [])), ([], ([zqv170, zqv210, zqv154, zqv261, [(100, 100)]], [], [], [zqa22], [], [])), ([], ([zqv170, zqv210, zqv154, zqv261, [(97, 97)]], [], [], [zqa25], [], [])), ([], ([zqv170, zqv210, zqv154, zqv261, [(98, 98)]], [], [], [zqa26], [], []))], zqw384)
def zpA538 : zAnn := []

/-- PushedInModel.one (((90, 19), -1), ((90, 20), 6)) -/
def zpC539 : zC := (183, (2, 60), ([(2, 0, 90, 17), (2, 0, 90, 18)], ([zqv170, zqv210, zqv154, zqv261, zqv353, zqv353], [(4, 5, 0)], [zqa60, zqa0, zqa0, zqa0, zqa0], [], [zqf93, zqf101, zqf103, zqf115], [])), [([(2, 0, 90, 17), (2, 0, 90, 19)], ([zqv170, zqv210, zqv154, zqv261, zqv353, zqv353, zqv353, zqv353], [(6, 7, 0), (6, 5, 0), (7, 6, 0), (7, 5, 0), (4, 6, 0), (4, 7, 0)], [], [zqa8], [zqf96, zqf101, zqf107, zqf115], [])), ([(1, 0, 0, 0), (2, 0, 90, 17)], ([zqv170, zqv210, zqv154, zqv261, zqv353, zqv353, zqv166, zqv353], [(7, 5, 0), (4, 7, 0)], [], [zqa39], [zqf97, zqf101, zqf103, zqf115], []))], zqw378)
def zpA539 : zAnn := [(176, ([(0, 1, 0, 0), (0, 3, 0, 0), (0, 4, 0, 0), (2, 0, 90, 17)], ([zqv170, zqv210, zqv154, zqv261, zqv353, zqv353, zqv240, zqv166, zqv209, zqv353], [(9, 5, 0), (4, 9, 0), (4, 5, 0)], [zqa60, zqa39, zqa1, zqa40, zqa41], [], [zqf99, zqf101, zqf103, zqf115], [])), [(2, 0, 0), (0, 8, 4), (2, 0, 0)])]

/-- PushedInModel.product (((90, 19), -1), ((90, 20), 6)) -/
def zpC540 : zC := (189, (3, 84), ([(2, 0, 90, 17), (2, 0, 90, 18)], ([zqv170, zqv210, zqv154, zqv261, zqv353, zqv353], [(4, 5, 0)], [zqa60, zqa0, zqa0, zqa0], [], [zqf93, zqf101, zqf103, zqf115], [])), [([(2, 0, 90, 17), (2, 0, 90, 19)], ([zqv170, zqv210, zqv154, zqv261, zqv353, zqv353, zqv353, zqv353], [(6, 7, 0), (6, 5, 0), (7, 6, 0), (7, 5, 0), (4, 6, 0), (4, 7, 0)], [], [zqa8], [zqf96, zqf101, zqf107, zqf115], [])), ([(1, 0, 0, 0), (2, 0, 90, 17)], ([zqv170, zqv210, zqv154, zqv261, zqv353, zqv353, zqv166, zqv353], [(7, 5, 0), (4, 7, 0)], [], [zqa39], [zqf97, zqf101, zqf103, zqf115], []))], zqw378)
def zpA540 : zAnn := [(35, ([(0, 1, 0, 0), (0, 2, 0, 0), (2, 0, 90, 17)], ([zqv170, zqv210, zqv154, zqv261, zqv353, [(7, 60)], zqv166, zqv307, [(6, 59)]], [(8, 5, (-1)), (4, 8, 0), (4, 5, 0)], [zqa60, zqa39, zqa40, zqa0], [], [zqf98, zqf101, zqf103, zqf115], [])), [(2, 0, 0), (0, 8, 59), (2, 0, 0)])]

/-- PushedInModel.sums (((90, 19), -1), ((90, 20), 6)) -/
def zpC541 : zC := (200, (4, 107), ([(2, 0, 90, 17), (2, 0, 90, 18)], ([zqv170, zqv210, zqv154, zqv261, zqv353, zqv353], [(4, 5, 0)], [zqa60, zqa0, zqa0, zqa0], [], [zqf93, zqf101, zqf103, zqf115], [])), [([(1, 0, 0, 0), (2, 0, 90, 17), (2, 0, 90, 19)], ([zqv170, zqv210, zqv154, zqv261, zqv353, zqv353, zqv166, zqv353, zqv353], [(7, 8, 0), (7, 5, 0), (8, 7, 0), (8, 5, 0), (4, 7, 0), (4, 8, 0)], [], [zqa39], [zqf97, zqf101, zqf108, zqf115], [])), ([(1, 0, 0, 0), (2, 0, 90, 17)], ([zqv170, zqv210, zqv154, zqv261, zqv353, zqv353, zqv166, zqv353], [(7, 5, 0), (4, 7, 0)], [], [zqa39], [zqf97, zqf101, zqf103, zqf115], []))], zqw378)
def zpA541 : zAnn := [(5, ([(0, 1, 0, 0), (2, 0, 90, 17), (2, 0, 90, 19)], ([zqv170, zqv210, zqv154, zqv261, zqv353, zqv353, zqv166, zqv353, zqv353], [(7, 8, 0), (7, 5, 0), (8, 7, 0), (8, 5, 0), (4, 7, 0), (4, 8, 0), (4, 5, 0)], [zqa60, zqa39, zqa0, zqa0], [], [zqf97, zqf101, zqf108, zqf115], [])), [(2, 0, 0)]), (5, ([(0, 1, 0, 0), (2, 0, 90, 17)], ([zqv170, zqv210, zqv154, zqv261, zqv353, zqv353, zqv166, zqv353], [(7, 5, 0), (4, 7, 0), (4, 5, 0)], [zqa60, zqa39, zqa0, zqa0], [], [zqf97, zqf101, zqf103, zqf115], [])), [(2, 0, 1), (0, 7, 60), (2, 0, 0)])]

/-- PushedInModel.compared (((90, 19), -1), ((90, 20), 6)) -/
def zpC542 : zC := (149, (5, 130), ([(2, 0, 90, 17), (2, 0, 90, 18)], ([zqv170, zqv210, zqv154, zqv261, zqv353, zqv353], [(4, 5, 0)], [zqa60, zqa0, zqa0, zqa0], [], [zqf93, zqf101, zqf103, zqf115], [])), [([(1, 0, 0, 0), (2, 0, 90, 17), (2, 0, 90, 19)], ([zqv170, zqv210, zqv154, zqv261, zqv353, zqv353, zqv166, zqv353, zqv353], [(7, 8, 0), (7, 5, 0), (8, 7, 0), (8, 5, 0), (4, 7, 0), (4, 8, 0)], [], [zqa39], [zqf97, zqf101, zqf108, zqf115], [])), ([(1, 0, 0, 0), (2, 0, 90, 17)], ([zqv170, zqv210, zqv154, zqv261, zqv353, zqv353, zqv166, zqv353], [(7, 5, 0), (4, 7, 0)], [], [zqa39], [zqf97, zqf101, zqf103, zqf115], []))], zqw378)
def zpA542 : zAnn := []

/-- PushedInModel.takes ((1, 38), ((90, 19), -1)) -/
def zpC543 : zC := (202, (2, 60), ([(2, 0, 90, 17), (2, 0, 90, 18)], ([zqv170, zqv210, zqv154, zqv261, zqv233, zqv233], [], [zqa60, zqa18], [], [zqf93, zqf101, zqf103], [])), [([], ([zqv170, zqv210, zqv154, zqv261, zqv233, zqv233], [], [], [zqa8], [zqf93, zqf101, zqf103], [])), ([], ([zqv170, zqv210, zqv154, zqv261, zqv231, zqv255], [(4, 5, (-1))], [], [zqa9], [zqf94, zqf101, zqf103], []))], zqw379)
def zpA543 : zAnn := []

/-- PushedInModel.takes ((1, 38),) -/
def zpC544 : zC := (202, (1, 40), ([(2, 0, 90, 17), (2, 0, 90, 18), (2, 0, 90, 19)], ([zqv170, zqv210, zqv154, zqv261, zqv233, zqv233, zqv233], [(4, 6, 0), (6, 4, 0)], [zqa60, zqa18], [], [zqf93, zqf101, zqf106], [])), [([], ([zqv170, zqv210, zqv154, zqv261, zqv233, zqv233, zqv233], [], [], [zqa8], [zqf93, zqf101, zqf106], []))], zqw384)
def zpA544 : zAnn := []

/-- PushedInModel.both (((90, 19), -1), ((90, 20), 6)) -/
def zpC545 : zC := (140, (6, 153), ([(2, 0, 90, 17), (2, 0, 90, 18)], ([zqv170, zqv210, zqv154, zqv261, zqv353, zqv353], [(4, 5, 0)], [zqa60, zqa0, zqa0], [], [zqf93, zqf101, zqf103, zqf115], [])), [([(1, 0, 0, 0), (2, 0, 90, 17), (2, 0, 90, 19)], ([zqv170, zqv210, zqv154, zqv261, zqv353, zqv353, zqv166, zqv353, zqv353], [(7, 8, 0), (7, 5, 0), (8, 7, 0), (8, 5, 0), (4, 7, 0), (4, 8, 0)], [], [zqa39], [zqf97, zqf101, zqf108, zqf115], [])), ([(1, 0, 0, 0), (2, 0, 90, 17)], ([zqv170, zqv210, zqv154, zqv261, zqv353, zqv353, zqv166, zqv353], [(7, 5, 0), (4, 7, 0)], [], [zqa39], [zqf97, zqf101, zqf103, zqf115], []))], zqw378)
def zpA545 : zAnn := [(5, ([(0, 1, 0, 0), (2, 0, 90, 17), (2, 0, 90, 19)], ([zqv170, zqv210, zqv154, zqv261, zqv353, zqv353, zqv166, zqv353, zqv353], [(7, 8, 0), (7, 5, 0), (8, 7, 0), (8, 5, 0), (4, 7, 0), (4, 8, 0), (4, 5, 0)], [zqa60, zqa39, zqa0], [], [zqf97, zqf101, zqf108, zqf115], [])), [(2, 0, 0)]), (5, ([(0, 1, 0, 0), (2, 0, 90, 17)], ([zqv170, zqv210, zqv154, zqv261, zqv353, zqv353, zqv166, zqv353], [(7, 5, 0), (4, 7, 0), (4, 5, 0)], [zqa60, zqa39, zqa0], [], [zqf97, zqf101, zqf103, zqf115], [])), [(2, 0, 1), (0, 7, 60), (2, 0, 0)])]

/-- PushedInModel.takes ((1, 124), ((90, 19), -1)) -/
def zpC546 : zC := (202, (2, 60), ([(2, 0, 90, 17), (2, 0, 90, 18)], ([zqv170, zqv210, zqv154, zqv261, zqv233, zqv233], [], [zqa60, (1, 0, 124, 0, 0)], [], [zqf93, zqf101, zqf103], [])), [([], ([zqv170, zqv210, zqv154, zqv261, zqv233, zqv233], [], [], [zqa8], [zqf93, zqf101, zqf103], [])), ([], ([zqv170, zqv210, zqv154, zqv261, zqv231, zqv255], [(4, 5, (-1))], [], [zqa9], [zqf94, zqf101, zqf103], []))], zqw379)
def zpA546 : zAnn := []

/-- PushedInModel.takes ((1, 124),) -/
def zpC547 : zC := (202, (1, 40), ([(2, 0, 90, 17), (2, 0, 90, 18), (2, 0, 90, 19)], ([zqv170, zqv210, zqv154, zqv261, zqv233, zqv233, zqv233], [(4, 6, 0), (6, 4, 0)], [zqa60, (1, 0, 124, 0, 0)], [], [zqf93, zqf101, zqf106], [])), [([], ([zqv170, zqv210, zqv154, zqv261, zqv233, zqv233, zqv233], [], [], [zqa8], [zqf93, zqf101, zqf106], []))], zqw384)
def zpA547 : zAnn := []

/-- PushedInModel.either (((90, 19), -1), ((90, 20), 6)) -/
def zpC548 : zC := (154, (7, 175), ([(2, 0, 90, 17), (2, 0, 90, 18)], ([zqv170, zqv210, zqv154, zqv261, zqv353, zqv353], [(4, 5, 0)], [zqa60, zqa0, zqa0], [], [zqf93, zqf101, zqf103, zqf115], [])), [([(1, 0, 0, 0), (2, 0, 90, 17), (2, 0, 90, 19)], ([zqv170, zqv210, zqv154, zqv261, zqv353, zqv353, zqv166, zqv353, zqv353], [(7, 8, 0), (7, 5, 0), (8, 7, 0), (8, 5, 0), (4, 7, 0), (4, 8, 0)], [], [zqa39], [zqf97, zqf101, zqf108, zqf115], [])), ([(1, 0, 0, 0), (2, 0, 90, 17)], ([zqv170, zqv210, zqv154, zqv261, zqv353, zqv353, zqv166, zqv353], [(7, 5, 0), (4, 7, 0)], [], [zqa39], [zqf97, zqf101, zqf103, zqf115], []))], zqw378)
def zpA548 : zAnn := [(5, ([(0, 1, 0, 0), (2, 0, 90, 17), (2, 0, 90, 19)], ([zqv170, zqv210, zqv154, zqv261, zqv353, zqv353, zqv166, zqv353, zqv353], [(7, 8, 0), (7, 5, 0), (8, 7, 0), (8, 5, 0), (4, 7, 0), (4, 8, 0), (4, 5, 0)], [zqa60, zqa39, zqa0], [], [zqf97, zqf101, zqf108, zqf115], [])), [(2, 0, 0)]), (5, ([(0, 1, 0, 0), (2, 0, 90, 17)], ([zqv170, zqv210, zqv154, zqv261, zqv353, zqv353, zqv166, zqv353], [(7, 5, 0), (4, 7, 0), (4, 5, 0)], [zqa60, zqa39, zqa0], [], [zqf97, zqf101, zqf103, zqf115], [])), [(2, 0, 1), (0, 7, 60), (2, 0, 0)])]

/-- PushedInModel.takes ((1, 41), ((90, 19), -1)) -/
def zpC549 : zC := (202, (2, 60), ([(2, 0, 90, 17), (2, 0, 90, 18)], ([zqv170, zqv210, zqv154, zqv261, zqv255, zqv255], [(4, 5, 0)], [zqa60, zqa21], [], [zqf93, zqf101, zqf103], [])), [([], ([zqv170, zqv210, zqv154, zqv261, zqv255, zqv255], [], [], [zqa8], [zqf93, zqf101, zqf103], [])), ([], ([zqv170, zqv210, zqv154, zqv261, zqv253, zqv281], [(4, 5, (-1))], [], [zqa9], [zqf94, zqf101, zqf103], []))], zqw379)
def zpA549 : zAnn := []

/-- PushedInModel.takes ((1, 41),) -/
def zpC550 : zC := (202, (1, 40), ([(2, 0, 90, 17), (2, 0, 90, 18), (2, 0, 90, 19)], ([zqv170, zqv210, zqv154, zqv261, zqv255, zqv255, zqv255], [(4, 5, 0), (4, 6, 0), (6, 4, 0), (6, 5, 0)], [zqa60, zqa21], [], [zqf93, zqf101, zqf106], [])), [([], ([zqv170, zqv210, zqv154, zqv261, zqv255, zqv255, zqv255], [], [], [zqa8], [zqf93, zqf101, zqf106], []))], zqw384)
def zpA550 : zAnn := []

/-- PushedInModel.one (((90, 19), -1), ((90, 20), 5)) -/
def zpC551 : zC := (183, (8, 197), ([(2, 0, 90, 17), (2, 0, 90, 18)], ([zqv170, zqv210, zqv154, zqv261, zqv337, zqv337], [(4, 5, 0)], [zqa60, zqa0, zqa0, zqa0, zqa0], [], [zqf93, zqf101, zqf103, zqf114], [])), [([(1, 0, 0, 0), (2, 0, 90, 17), (2, 0, 90, 19), (2, 0, 90, 20)], ([zqv170, zqv210, zqv154, zqv261, zqv337, zqv337, zqv166, zqv337, zqv337, zqv336], [(7, 8, 0), (7, 5, 0), (8, 7, 0), (8, 5, 0), (4, 7, 0), (4, 8, 0)], [], [zqa39], [zqf97, zqf101, zqf108, zqf116], [])), ([(1, 0, 0, 0), (2, 0, 90, 17)], ([zqv170, zqv210, zqv154, zqv261, zqv337, zqv337, zqv166, zqv337], [(7, 5, 0), (4, 7, 0)], [], [zqa39], [zqf97, zqf101, zqf103, zqf114], []))], zqw377)
def zpA551h0 : Nat × zTm × zRk := (176, ([(0, 1, 0, 0), (0, 3, 0, 0), (0, 4, 0, 0), (2, 0, 90, 17)], ([zqv170, zqv210, zqv154, zqv261, zqv337, zqv337, zqv240, zqv166, zqv209, zqv337], [(9, 5, 0), (4, 9, 0), (4, 5, 0)], [zqa60, zqa39, zqa1, zqa40, zqa41], [], [zqf99, zqf101, zqf103, zqf114], [])), [(2, 0, 0), (0, 8, 4), (2, 0, 0)])
def zpA551 : zAnn := [zpA551h0]

/-- PushedInModel.product (((90, 19), -1), ((90, 20), 5)) -/
def zpC552 : zC := (189, (9, 221), ([(2, 0, 90, 17), (2, 0, 90, 18)], ([zqv170, zqv210, zqv154, zqv261, zqv337, zqv337], [(4, 5, 0)], [zqa60, zqa0, zqa0, zqa0], [], [zqf93, zqf101, zqf103, zqf114], [])), [([(1, 0, 0, 0), (2, 0, 90, 17), (2, 0, 90, 19), (2, 0, 90, 20)], ([zqv170, zqv210, zqv154, zqv261, zqv337, zqv337, zqv166, zqv337, zqv337, zqv336], [(7, 8, 0), (7, 5, 0), (8, 7, 0), (8, 5, 0), (4, 7, 0), (4, 8, 0)], [], [zqa39], [zqf97, zqf101, zqf108, zqf116], [])), ([(1, 0, 0, 0), (2, 0, 90, 17)], ([zqv170, zqv210, zqv154, zqv261, zqv337, zqv337, zqv166, zqv337], [(7, 5, 0), (4, 7, 0)], [], [zqa39], [zqf97, zqf101, zqf103, zqf114], []))], zqw377)
def zpA552 : zAnn := [(35, ([(0, 1, 0, 0), (0, 2, 0, 0), (2, 0, 90, 17)], ([zqv170, zqv210, zqv154, zqv261, zqv337, zqv353, zqv166, zqv307, [(5, 59)]], [(8, 5, (-1)), (4, 8, 0), (4, 5, 0)], [zqa60, zqa39, zqa40, zqa0], [], [zqf98, zqf101, zqf103, zqf114], [])), [(2, 0, 0), (0, 8, 59), (2, 0, 0)])]

/-- PushedInModel.sums (((90, 19), -1), ((90, 20), 5)) -/
def zpC553 : zC := (200, (10, 244), ([(2, 0, 90, 17), (2, 0, 90, 18)], ([zqv170, zqv210, zqv154, zqv261, zqv337, zqv337], [(4, 5, 0)], [zqa60, zqa0, zqa0, zqa0], [], [zqf93, zqf101, zqf103, zqf114], [])), [([(1, 0, 0, 0), (2, 0, 90, 17), (2, 0, 90, 19), (2, 0, 90, 20)], ([zqv170, zqv210, zqv154, zqv261, zqv337, zqv337, zqv166, zqv337, zqv337, zqv336], [(7, 8, 0), (7, 5, 0), (8, 7, 0), (8, 5, 0), (4, 7, 0), (4, 8, 0)], [], [zqa39], [zqf97, zqf101, zqf108, zqf116], [])), ([(1, 0, 0, 0), (2, 0, 90, 17)], ([zqv170, zqv210, zqv154, zqv261, zqv337, zqv337, zqv166, zqv337], [(7, 5, 0), (4, 7, 0)], [], [zqa39], [zqf97, zqf101, zqf103, zqf114], []))], zqw377)
def zpA553 : zAnn := [(5, ([(0, 1, 0, 0), (2, 0, 90, 17), (2, 0, 90, 19), (2, 0, 90, 20)], ([zqv170, zqv210, zqv154, zqv261, zqv337, zqv337, zqv166, zqv337, zqv337, zqv336], [(7, 8, 0), (7, 5, 0), (8, 7, 0), (8, 5, 0), (4, 7, 0), (4, 8, 0), (4, 5, 0)], [zqa60, zqa39, zqa0, zqa0], [], [zqf97, zqf101, zqf108, zqf116], [])), [(2, 0, 0)]), (5, ([(0, 1, 0, 0), (2, 0, 90, 17)], ([zqv170, zqv210, zqv154, zqv261, zqv337, zqv337, zqv166, zqv337], [(7, 5, 0), (4, 7, 0), (4, 5, 0)], [zqa60, zqa39, zqa0, zqa0], [], [zqf97, zqf101, zqf103, zqf114], [])), [(2, 0, 1), (0, 7, 60), (2, 0, 0)])]

/-- PushedInModel.compared (((90, 19), -1), ((90, 20), 5)) -/
def zpC554 : zC := (149, (11, 267), ([(2, 0, 90, 17), (2, 0, 90, 18)], ([zqv170, zqv210, zqv154, zqv261, zqv337, zqv337], [(4, 5, 0)], [zqa60, zqa0, zqa0, zqa0], [], [zqf93, zqf101, zqf103, zqf114], [])), [([(1, 0, 0, 0), (2, 0, 90, 17), (2, 0, 90, 19), (2, 0, 90, 20)], ([zqv170, zqv210, zqv154, zqv261, zqv337, zqv337, zqv166, zqv337, zqv337, zqv336], [(7, 8, 0), (7, 5, 0), (8, 7, 0), (8, 5, 0), (4, 7, 0), (4, 8, 0)], [], [zqa39], [zqf97, zqf101, zqf108, zqf116], [])), ([(1, 0, 0, 0), (2, 0, 90, 17)], ([zqv170, zqv210, zqv154, zqv261, zqv337, zqv337, zqv166, zqv337], [(7, 5, 0), (4, 7, 0)], [], [zqa39], [zqf97, zqf101, zqf103, zqf114], []))], zqw377)
def zpA554 : zAnn := []

/-- PushedInModel.both (((90, 19), -1), ((90, 20), 5)) -/
def zpC555 : zC := (140, (12, 290), ([(2, 0, 90, 17), (2, 0, 90, 18)], ([zqv170, zqv210, zqv154, zqv261, zqv337, zqv337], [(4, 5, 0)], [zqa60, zqa0, zqa0], [], [zqf93, zqf101, zqf103, zqf114], [])), [([(1, 0, 0, 0), (2, 0, 90, 17), (2, 0, 90, 19), (2, 0, 90, 20)], ([zqv170, zqv210, zqv154, zqv261, zqv337, zqv337, zqv166, zqv337, zqv337, zqv336], [(7, 8, 0), (7, 5, 0), (8, 7, 0), (8, 5, 0), (4, 7, 0), (4, 8, 0)], [], [zqa39], [zqf97, zqf101, zqf108, zqf116], [])), ([(1, 0, 0, 0), (2, 0, 90, 17)], ([zqv170, zqv210, zqv154, zqv261, zqv337, zqv337, zqv166, zqv337], [(7, 5, 0), (4, 7, 0)], [], [zqa39], [zqf97, zqf101, zqf103, zqf114], []))], zqw377)
def zpA555 : zAnn := [(5, ([(0, 1, 0, 0), (2, 0, 90, 17), (2, 0, 90, 19), (2, 0, 90, 20)], ([zqv170, zqv210, zqv154, zqv261, zqv337, zqv337, zqv166, zqv337, zqv337, zqv336], [(7, 8, 0), (7, 5, 0), (8, 7, 0), (8, 5, 0), (4, 7, 0), (4, 8, 0), (4, 5, 0)], [zqa60, zqa39, zqa0], [], [zqf97, zqf101, zqf108, zqf116], [])), [(2, 0, 0)]), (5, ([(0, 1, 0, 0), (2, 0, 90, 17)], ([zqv170, zqv210, zqv154, zqv261, zqv337, zqv337, zqv166, zqv337], [(7, 5, 0), (4, 7, 0), (4, 5, 0)], [zqa60, zqa39, zqa0], [], [zqf97, zqf101, zqf103, zqf114], [])), [(2, 0, 1), (0, 7, 60), (2, 0, 0)])]

/-- PushedInModel.either (((90, 19), -1), ((90, 20), 5)) -/
def zpC556 : zC := (154, (13, 312), ([(2, 0, 90, 17), (2, 0, 90, 18)], ([zqv170, zqv210, zqv154, zqv261, zqv337, zqv337], [(4, 5, 0)], [zqa60, zqa0, zqa0], [], [zqf93, zqf101, zqf103, zqf114], [])), [([(1, 0, 0, 0), (2, 0, 90, 17), (2, 0, 90, 19), (2, 0, 90, 20)], ([zqv170, zqv210, zqv154, zqv261, zqv337, zqv337, zqv166, zqv337, zqv337, zqv336], [(7, 8, 0), (7, 5, 0), (8, 7, 0), (8, 5, 0), (4, 7, 0), (4, 8, 0)], [], [zqa39], [zqf97, zqf101, zqf108, zqf116], [])), ([(1, 0, 0, 0), (2, 0, 90, 17)], ([zqv170, zqv210, zqv154, zqv261, zqv337, zqv337, zqv166, zqv337], [(7, 5, 0), (4, 7, 0)], [], [zqa39], [zqf97, zqf101, zqf103, zqf114], []))], zqw377)
def zpA556 : zAnn := [(5, ([(0, 1, 0, 0), (2, 0, 90, 17), (2, 0, 90, 19), (2, 0, 90, 20)], ([zqv170, zqv210, zqv154, zqv261, zqv337, zqv337, zqv166, zqv337, zqv337, zqv336], [(7, 8, 0), (7, 5, 0), (8, 7, 0), (8, 5, 0), (4, 7, 0), (4, 8, 0), (4, 5, 0)], [zqa60, zqa39, zqa0], [], [zqf97, zqf101, zqf108, zqf116], [])), [(2, 0, 0)]), (5, ([(0, 1, 0, 0), (2, 0, 90, 17)], ([zqv170, zqv210, zqv154, zqv261, zqv337, zqv337, zqv166, zqv337], [(7, 5, 0), (4, 7, 0), (4, 5, 0)], [zqa60, zqa39, zqa0], [], [zqf97, zqf101, zqf103, zqf114], [])), [(2, 0, 1), (0, 7, 60), (2, 0, 0)])]

/-- PushedInModel.one (((90, 19), -1), ((90, 20), 4)) -/
def zpC557 : zC := (183, (14, 334), ([(2, 0, 90, 17), (2, 0, 90, 18)], ([zqv170, zqv210, zqv154, zqv261, zqv317, zqv317], [(4, 5, 0)], [zqa60, zqa0, zqa0, zqa0, zqa0], [], [zqf93, zqf101, zqf103, zqf113], [])), [([(1, 0, 0, 0), (2, 0, 90, 17), (2, 0, 90, 19), (2, 0, 90, 20)], ([zqv170, zqv210, zqv154, zqv261, zqv317, zqv317, zqv166, zqv317, zqv317, zqv316], [(7, 8, 0), (7, 5, 0), (8, 7, 0), (8, 5, 0), (4, 7, 0), (4, 8, 0)], [], [zqa39], [zqf97, zqf101, zqf108, zqf116], [])), ([(1, 0, 0, 0), (2, 0, 90, 17)], ([zqv170, zqv210, zqv154, zqv261, zqv317, zqv317, zqv166, zqv317], [(7, 5, 0), (4, 7, 0)], [], [zqa39], [zqf97, zqf101, zqf103, zqf113], []))], zqw377)
def zpA557h0 : Nat × zTm × zRk := (176, ([(0, 1, 0, 0), (0, 3, 0, 0), (0, 4, 0, 0), (2, 0, 90, 17)], ([zqv170, zqv210, zqv154, zqv261, zqv317, zqv317, zqv240, zqv166, zqv209, zqv317], [(9, 5, 0), (4, 9, 0), (4, 5, 0)], [zqa60, zqa39, zqa1, zqa40, zqa41], [], [zqf99, zqf101, zqf103, zqf113], [])), [(2, 0, 0), (0, 8, 4), (2, 0, 0)])
def zpA557 : zAnn := [zpA557h0]

/-- PushedInModel.product (((90, 19), -1), ((90, 20), 4)) -/
def zpC558 : zC := (189, (15, 358), ([(2, 0, 90, 17), (2, 0, 90, 18)], ([zqv170, zqv210, zqv154, zqv261, zqv317, zqv317], [(4, 5, 0)], [zqa60, zqa0, zqa0, zqa0], [], [zqf93, zqf101, zqf103, zqf113], [])), [([(1, 0, 0, 0), (2, 0, 90, 17), (2, 0, 90, 19), (2, 0, 90, 20)], ([zqv170, zqv210, zqv154, zqv261, zqv317, zqv317, zqv166, zqv317, zqv317, zqv316], [(7, 8, 0), (7, 5, 0), (8, 7, 0), (8, 5, 0), (4, 7, 0), (4, 8, 0)], [], [zqa39], [zqf97, zqf101, zqf108, zqf116], [])), ([(1, 0, 0, 0), (2, 0, 90, 17)], ([zqv170, zqv210, zqv154, zqv261, zqv317, zqv317, zqv166, zqv317], [(7, 5, 0), (4, 7, 0)], [], [zqa39], [zqf97, zqf101, zqf103, zqf113], []))], zqw377)
def zpA558 : zAnn := [(35, ([(0, 1, 0, 0), (0, 2, 0, 0), (2, 0, 90, 17)], ([zqv170, zqv210, zqv154, zqv261, zqv317, zqv337, zqv166, zqv307, [(4, 59)]], [(8, 5, (-1)), (4, 8, 0), (4, 5, 0)], [zqa60, zqa39, zqa40, zqa0], [], [zqf98, zqf101, zqf103, zqf113], [])), [(2, 0, 0), (0, 8, 59), (2, 0, 0)])]

/-- PushedInModel.sums (((90, 19), -1), ((90, 20), 4)) -/
def zpC559 : zC := (200, (16, 381), ([(2, 0, 90, 17), (2, 0, 90, 18)], ([zqv170, zqv210, zqv154, zqv261, zqv317, zqv317], [(4, 5, 0)], [zqa60, zqa0, zqa0, zqa0], [], [zqf93, zqf101, zqf103, zqf113], [])), [([(1, 0, 0, 0), (2, 0, 90, 17), (2, 0, 90, 19), (2, 0, 90, 20)], ([zqv170, zqv210, zqv154, zqv261, zqv317, zqv317, zqv166, zqv317, zqv317, zqv316], [(7, 8, 0), (7, 5, 0), (8, 7, 0), (8, 5, 0), (4, 7, 0), (4, 8, 0)], [], [zqa39], [zqf97, zqf101, zqf108, zqf116], [])), ([(1, 0, 0, 0), (2, 0, 90, 17)], ([zqv170, zqv210, zqv154, zqv261, zqv317, zqv317, zqv166, zqv317], [(7, 5, 0), (4, 7, 0)], [], [zqa39], [zqf97, zqf101, zqf103, zqf113], []))], zqw377)
def zpA559 : zAnn := [(5, ([(0, 1, 0, 0), (2, 0, 90, 17), (2, 0, 90, 19), (2, 0, 90, 20)], ([zqv170, zqv210, zqv154, zqv261, zqv317, zqv317, zqv166, zqv317, zqv317, zqv316], [(7, 8, 0), (7, 5, 0), (8, 7, 0), (8, 5, 0), (4, 7, 0), (4, 8, 0), (4, 5, 0)], [zqa60, zqa39, zqa0, zqa0], [], [zqf97, zqf101, zqf108, zqf116], [])), [(2, 0, 0)]), (5, ([(0, 1, 0, 0), (2, 0, 90, 17)], ([zqv170, zqv210, zqv154, zqv261, zqv317, zqv317, zqv166, zqv317], [(7, 5, 0), (4, 7, 0), (4, 5, 0)], [zqa60, zqa39, zqa0, zqa0], [], [zqf97, zqf101, zqf103, zqf113], [])), [(2, 0, 1), (0, 7, 60), (2, 0, 0)])]

/-- PushedInModel.compared (((90, 19), -1), ((90, 20), 4)) -/
def zpC560 : zC := (149, (17, 404), ([(2, 0, 90, 17), (2, 0, 90, 18)], ([zqv170, zqv210, zqv154, zqv261, zqv317, zqv317], [(4, 5, 0)], [zqa60, zqa0, zqa0, zqa0], [], [zqf93, zqf101, zqf103, zqf113], [])), [([(1, 0, 0, 0), (2, 0, 90, 17), (2, 0, 90, 19), (2, 0, 90, 20)], ([zqv170, zqv210, zqv154, zqv261, zqv317, zqv317, zqv166, zqv317, zqv317, zqv316], [(7, 8, 0), (7, 5, 0), (8, 7, 0), (8, 5, 0), (4, 7, 0), (4, 8, 0)], [], [zqa39], [zqf97, zqf101, zqf108, zqf116], [])), ([(1, 0, 0, 0), (2, 0, 90, 17)], ([zqv170, zqv210, zqv154, zqv261, zqv317, zqv317, zqv166, zqv317], [(7, 5, 0), (4, 7, 0)], [], [zqa39], [zqf97, zqf101, zqf103, zqf113], []))], zqw377)
def zpA560 : zAnn := []

/-- PushedInModel.both (((90, 19), -1), ((90, 20), 4)) -/
def zpC561 : zC := (140, (18, 427), ([(2, 0, 90, 17), (2, 0, 90, 18)], ([zqv170, zqv210, zqv154, zqv261, zqv317, zqv317], [(4, 5, 0)], [zqa60, zqa0, zqa0], [], [zqf93, zqf101, zqf103, zqf113], [])), [([(1, 0, 0, 0), (2, 0, 90, 17), (2, 0, 90, 19), (2, 0, 90, 20)], ([zqv170, zqv210, zqv154, zqv261, zqv317, zqv317, zqv166, zqv317, zqv317, zqv316], [(7, 8, 0), (7, 5, 0), (8, 7, 0), (8, 5, 0), (4, 7, 0), (4, 8, 0)], [], [zqa39], [zqf97, zqf101, zqf108, zqf116], [])), ([(1, 0, 0, 0), (2, 0, 90, 17)], ([zqv170, zqv210, zqv154, zqv261, zqv317, zqv317, zqv166, zqv317], [(7, 5, 0), (4, 7, 0)], [], [zqa39], [zqf97, zqf101, zqf103, zqf113], []))], zqw377)
def zpA561 : zAnn := [(5, ([(0, 1, 0, 0), (2, 0, 90, 17), (2, 0, 90, 19), (2, 0, 90, 20)], ([zqv170, zqv210, zqv154, zqv261, zqv317, zqv317, zqv166, zqv317, zqv317, zqv316], [(7, 8, 0), (7, 5, 0), (8, 7, 0), (8, 5, 0), (4, 7, 0), (4, 8, 0), (4, 5, 0)], [zqa60, zqa39, zqa0], [], [zqf97, zqf101, zqf108, zqf116], [])), [(2, 0, 0)]), (5, ([(0, 1, 0, 0), (2, 0, 90, 17)], ([zqv170, zqv210, zqv154, zqv261, zqv317, zqv317, zqv166, zqv317], [(7, 5, 0), (4, 7, 0), (4, 5, 0)], [zqa60, zqa39, zqa0], [], [zqf97, zqf101, zqf103, zqf113], [])), [(2, 0, 1), (0, 7, 60), (2, 0, 0)])]

/-- PushedInModel.either (((90, 19), -1), ((90, 20), 4)) -/
def zpC562 : zC := (154, (19, 449), ([(2, 0, 90, 17), (2, 0, 90, 18)], ([zqv170, zqv210, zqv154, zqv261, zqv317, zqv317], [(4, 5, 0)], [zqa60, zqa0, zqa0], [], [zqf93, zqf101, zqf103, zqf113], [])), [([(1, 0, 0, 0), (2, 0, 90, 17), (2, 0, 90, 19), (2, 0, 90, 20)], ([zqv170, zqv210, zqv154, zqv261, zqv317, zqv317, zqv166, zqv317, zqv317, zqv316], [(7, 8, 0), (7, 5, 0), (8, 7, 0), (8, 5, 0), (4, 7, 0), (4, 8, 0)], [], [zqa39], [zqf97, zqf101, zqf108, zqf116], [])), ([(1, 0, 0, 0), (2, 0, 90, 17)], ([zqv170, zqv210, zqv154, zqv261, zqv317, zqv317, zqv166, zqv317], [(7, 5, 0), (4, 7, 0)], [], [zqa39], [zqf97, zqf101, zqf103, zqf113], []))], zqw377)
def zpA562 : zAnn := [(5, ([(0, 1, 0, 0), (2, 0, 90, 17), (2, 0, 90, 19), (2, 0, 90, 20)], ([zqv170, zqv210, zqv154, zqv261, zqv317, zqv317, zqv166, zqv317, zqv317, zqv316], [(7, 8, 0), (7, 5, 0), (8, 7, 0), (8, 5, 0), (4, 7, 0), (4, 8, 0), (4, 5, 0)], [zqa60, zqa39, zqa0], [], [zqf97, zqf101, zqf108, zqf116], [])), [(2, 0, 0)]), (5, ([(0, 1, 0, 0), (2, 0, 90, 17)], ([zqv170, zqv210, zqv154, zqv261, zqv317, zqv317, zqv166, zqv317], [(7, 5, 0), (4, 7, 0), (4, 5, 0)], [zqa60, zqa39, zqa0], [], [zqf97, zqf101, zqf103, zqf113], [])), [(2, 0, 1), (0, 7, 60), (2, 0, 0)])]

/-- PushedInModel.one (((90, 19), -1), ((90, 20), 3)) -/
def zpC563 : zC := (183, (20, 471), ([(2, 0, 90, 17), (2, 0, 90, 18)], ([zqv170, zqv210, zqv154, zqv261, zqv298, zqv298], [(4, 5, 0)], [zqa60, zqa0, zqa0, zqa0, zqa0], [], [zqf93, zqf101, zqf103, zqf112], [])), [([(1, 0, 0, 0), (2, 0, 90, 17), (2, 0, 90, 19), (2, 0, 90, 20)], ([zqv170, zqv210, zqv154, zqv261, zqv298, zqv298, zqv166, zqv298, zqv298, zqv297], [(7, 8, 0), (7, 5, 0), (8, 7, 0), (8, 5, 0), (4, 7, 0), (4, 8, 0)], [], [zqa39], [zqf97, zqf101, zqf108, zqf116], [])), ([(1, 0, 0, 0), (2, 0, 90, 17)], ([zqv170, zqv210, zqv154, zqv261, zqv298, zqv298, zqv166, zqv298], [(7, 5, 0), (4, 7, 0)], [], [zqa39], [zqf97, zqf101, zqf103, zqf112], []))], zqw377)
def zpA563h0 : Nat × zTm × zRk := (176, ([(0, 1, 0, 0), (0, 3, 0, 0), (0, 4, 0, 0), (2, 0, 90, 17)], ([zqv170, zqv210, zqv154, zqv261, zqv298, zqv298, zqv240, zqv166, zqv209, zqv298], [(8, 9, 0), (9, 5, 0), (4, 9, 0), (4, 5, 0)], [zqa60, zqa39, zqa1, zqa40, zqa41], [], [zqf99, zqf101, zqf103, zqf112], [])), [(2, 0, 0), (0, 8, 4), (2, 0, 0)])
def zpA563 : zAnn := [zpA563h0]

/-- PushedInModel.product (((90, 19), -1), ((90, 20), 3)) -/
def zpC564 : zC := (189, (21, 495), ([(2, 0, 90, 17), (2, 0, 90, 18)], ([zqv170, zqv210, zqv154, zqv261, zqv298, zqv298], [(4, 5, 0)], [zqa60, zqa0, zqa0, zqa0], [], [zqf93, zqf101, zqf103, zqf112], [])), [([(1, 0, 0, 0), (2, 0, 90, 17), (2, 0, 90, 19), (2, 0, 90, 20)], ([zqv170, zqv210, zqv154, zqv261, zqv298, zqv298, zqv166, zqv298, zqv298, zqv297], [(7, 8, 0), (7, 5, 0), (8, 7, 0), (8, 5, 0), (4, 7, 0), (4, 8, 0)], [], [zqa39], [zqf97, zqf101, zqf108, zqf116], [])), ([(1, 0, 0, 0), (2, 0, 90, 17)], ([zqv170, zqv210, zqv154, zqv261, zqv298, zqv298, zqv166, zqv298], [(7, 5, 0), (4, 7, 0)], [], [zqa39], [zqf97, zqf101, zqf103, zqf112], []))], zqw377)
def zpA564 : zAnn := [(35, ([(0, 1, 0, 0), (0, 2, 0, 0), (2, 0, 90, 17)], ([zqv170, zqv210, zqv154, zqv261, zqv298, zqv317, zqv166, zqv307, [(3, 59)]], [(8, 5, (-1)), (4, 8, 0), (4, 5, 0)], [zqa60, zqa39, zqa40, zqa0], [], [zqf98, zqf101, zqf103, zqf112], [])), [(2, 0, 0), (0, 8, 59), (2, 0, 0)])]

/-- PushedInModel.sums (((90, 19), -1), ((90, 20), 3)) -/
def zpC565 : zC := (200, (22, 518), ([(2, 0, 90, 17), (2, 0, 90, 18)], ([zqv170, zqv210, zqv154, zqv261, zqv298, zqv298], [(4, 5, 0)], [zqa60, zqa0, zqa0, zqa0], [], [zqf93, zqf101, zqf103, zqf112], [])), [([(1, 0, 0, 0), (2, 0, 90, 17), (2, 0, 90, 19), (2, 0, 90, 20)], ([zqv170, zqv210, zqv154, zqv261, zqv298, zqv298, zqv166, zqv298, zqv298, zqv297], [(7, 8, 0), (7, 5, 0), (8, 7, 0), (8, 5, 0), (4, 7, 0), (4, 8, 0)], [], [zqa39], [zqf97, zqf101, zqf108, zqf116], [])), ([(1, 0, 0, 0), (2, 0, 90, 17)], ([zqv170, zqv210, zqv154, zqv261, zqv298, zqv298, zqv166, zqv298], [(7, 5, 0), (4, 7, 0)], [], [zqa39], [zqf97, zqf101, zqf103, zqf112], []))], zqw377)
def zpA565 : zAnn := [(5, ([(0, 1, 0, 0), (2, 0, 90, 17), (2, 0, 90, 19), (2, 0, 90, 20)], ([zqv170, zqv210, zqv154, zqv261, zqv298, zqv298, zqv166, zqv298, zqv298, zqv297], [(7, 8, 0), (7, 5, 0), (8, 7, 0), (8, 5, 0), (4, 7, 0), (4, 8, 0), (4, 5, 0)], [zqa60, zqa39, zqa0, zqa0], [], [zqf97, zqf101, zqf108, zqf116], [])), [(2, 0, 0)]), (5, ([(0, 1, 0, 0), (2, 0, 90, 17)], ([zqv170, zqv210, zqv154, zqv261, zqv298, zqv298, zqv166, zqv298], [(7, 5, 0), (4, 7, 0), (4, 5, 0)], [zqa60, zqa39, zqa0, zqa0], [], [zqf97, zqf101, zqf103, zqf112], [])), [(2, 0, 1), (0, 7, 60), (2, 0, 0)])]

/-- PushedInModel.compared (((90, 19), -1), ((90, 20), 3)) -/
def zpC566 : zC := (149, (23, 541), ([(2, 0, 90, 17), (2, 0, 90, 18)], ([zqv170, zqv210, zqv154, zqv261, zqv298, zqv298], [(4, 5, 0)], [zqa60, zqa0, zqa0, zqa0], [], [zqf93, zqf101, zqf103, zqf112], [])), [([(1, 0, 0, 0), (2, 0, 90, 17), (2, 0, 90, 19), (2, 0, 90, 20)], ([zqv170, zqv210, zqv154, zqv261, zqv298, zqv298, zqv166, zqv298, zqv298, zqv297], [(7, 8, 0), (7, 5, 0), (8, 7, 0), (8, 5, 0), (4, 7, 0), (4, 8, 0)], [], [zqa39], [zqf97, zqf101, zqf108, zqf116], [])), ([(1, 0, 0, 0), (2, 0, 90, 17)], ([zqv170, zqv210, zqv154, zqv261, zqv298, zqv298, zqv166, zqv298], [(7, 5, 0), (4, 7, 0)], [], [zqa39], [zqf97, zqf101, zqf103, zqf112], []))], zqw377)
def zpA566 : zAnn := []

/-- PushedInModel.both (((90, 19), -1), ((90, 20), 3)) -/
def zpC567 : zC := (140, (24, 564), ([(2, 0, 90, 17), (2, 0, 90, 18)], ([zqv170, zqv210, zqv154, zqv261, zqv298, zqv298], [(4, 5, 0)], [zqa60, zqa0, zqa0], [], [zqf93, zqf101, zqf103, zqf112], [])), [([(1, 0, 0, 0), (2, 0, 90, 17), (2, 0, 90, 19), (2, 0, 90, 20)], ([zqv170, zqv210, zqv154, zqv261, zqv298, zqv298, zqv166, zqv298, zqv298, zqv297], [(7, 8, 0), (7, 5, 0), (8, 7, 0), (8, 5, 0), (4, 7, 0), (4, 8, 0)], [], [zqa39], [zqf97, zqf101, zqf108, zqf116], [])), ([(1, 0, 0, 0), (2, 0, 90, 17)], ([zqv170, zqv210, zqv154, zqv261, zqv298, zqv298, zqv166, zqv298], [(7, 5, 0), (4, 7, 0)], [], [zqa39], [zqf97, zqf101, zqf103, zqf112], []))], zqw377)
def zpA567 : zAnn := [(5, ([(0, 1, 0, 0), (2, 0, 90, 17), (2, 0, 90, 19), (2, 0, 90, 20)], ([zqv170, zqv210, zqv154, zqv261, zqv298, zqv298, zqv166, zqv298, zqv298, zqv297], [(7, 8, 0), (7, 5, 0), (8, 7, 0), (8, 5, 0), (4, 7, 0), (4, 8, 0), (4, 5, 0)], [zqa60, zqa39, zqa0], [], [zqf97, zqf101, zqf108, zqf116], [])), [(2, 0, 0)]), (5, ([(0, 1, 0, 0), (2, 0, 90, 17)], ([zqv170, zqv210, zqv154, zqv261, zqv298, zqv298, zqv166, zqv298], [(7, 5, 0), (4, 7, 0), (4, 5, 0)], [zqa60, zqa39, zqa0], [], [zqf97, zqf101, zqf103, zqf112], [])), [(2, 0, 1), (0, 7, 60), (2, 0, 0)])]

/-- PushedInModel.either (((90, 19), -1), ((90, 20), 3)) -/
def zpC568 : zC := (154, (25, 586), ([(2, 0, 90, 17), (2, 0, 90, 18)], ([zqv170, zqv210, zqv154, zqv261, zqv298, zqv298], [(4, 5, 0)], [zqa60, zqa0, zqa0], [], [zqf93, zqf101, zqf103, zqf112], [])), [([(1, 0, 0, 0), (2, 0, 90, 17), (2, 0, 90, 19), (2, 0, 90, 20)], ([zqv170, zqv210, zqv154, zqv261, zqv298, zqv298, zqv166, zqv298, zqv298, zqv297], [(7, 8, 0), (7, 5, 0), (8, 7, 0), (8, 5, 0), (4, 7, 0), (4, 8, 0)], [], [zqa39], [zqf97, zqf101, zqf108, zqf116], [])), ([(1, 0, 0, 0), (2, 0, 90, 17)], ([zqv170, zqv210, zqv154, zqv261, zqv298, zqv298, zqv166, zqv298], [(7, 5, 0), (4, 7, 0)], [], [zqa39], [zqf97, zqf101, zqf103, zqf112], []))], zqw377)
def zpA568 : zAnn := [(5, ([(0, 1, 0, 0), (2, 0, 90, 17), (2, 0, 90, 19), (2, 0, 90, 20)], ([zqv170, zqv210, zqv154, zqv261, zqv298, zqv298, zqv166, zqv298, zqv298, zqv297], [(7, 8, 0), (7, 5, 0), (8, 7, 0), (8, 5, 0), (4, 7, 0), (4, 8, 0), (4, 5, 0)], [zqa60, zqa39, zqa0], [], [zqf97, zqf101, zqf108, zqf116], [])), [(2, 0, 0)]), (5, ([(0, 1, 0, 0), (2, 0, 90, 17)], ([zqv170, zqv210, zqv154, zqv261, zqv298, zqv298, zqv166, zqv298], [(7, 5, 0), (4, 7, 0), (4, 5, 0)], [zqa60, zqa39, zqa0], [], [zqf97, zqf101, zqf103, zqf112], [])), [(2, 0, 1), (0, 7, 60), (2, 0, 0)])]

/-- PushedInModel.one (((90, 19), -1), ((90, 20), 2)) -/
def zpC569 : zC := (183, (26, 608), ([(2, 0, 90, 17), (2, 0, 90, 18)], ([zqv170, zqv210, zqv154, zqv261, zqv281, zqv281], [(4, 5, 0)], [zqa60, zqa0, zqa0, zqa0, zqa0], [], [zqf93, zqf101, zqf103, zqf111], [])), [([(1, 0, 0, 0), (2, 0, 90, 17), (2, 0, 90, 19), (2, 0, 90, 20)], ([zqv170, zqv210, zqv154, zqv261, zqv281, zqv281, zqv166, zqv281, zqv281, zqv280], [(7, 8, 0), (7, 5, 0), (8, 7, 0), (8, 5, 0), (4, 7, 0), (4, 8, 0)], [], [zqa39], [zqf97, zqf101, zqf108, zqf116], [])), ([(1, 0, 0, 0), (2, 0, 90, 17)], ([zqv170, zqv210, zqv154, zqv261, zqv281, zqv281, zqv166, zqv281], [(7, 5, 0), (4, 7, 0)], [], [zqa39], [zqf97, zqf101, zqf103, zqf111], []))], zqw377)
def zpA569h0 : Nat × zTm × zRk := (176, ([(0, 1, 0, 0), (0, 3, 0, 0), (0, 4, 0, 0), (2, 0, 90, 17)], ([zqv170, zqv210, zqv154, zqv261, zqv281, zqv281, zqv240, zqv166, zqv209, zqv281], [(8, 9, 0), (9, 5, 0), (4, 9, 0), (4, 5, 0)], [zqa60, zqa39, zqa1, zqa40, zqa41], [], [zqf99, zqf101, zqf103, zqf111], [])), [(2, 0, 0), (0, 8, 4), (2, 0, 0)])
def zpA569 : zAnn := [zpA569h0]

/-- PushedInModel.product (((90, 19), -1), ((90, 20), 2)) -/
def zpC570 : zC := (189, (27, 632), ([(2, 0, 90, 17), (2, 0, 90, 18)], ([zqv170, zqv210, zqv154, zqv261, zqv281, zqv281], [(4, 5, 0)], [zqa60, zqa0, zqa0, zqa0], [], [zqf93, zqf101, zqf103, zqf111], [])), [([(1, 0, 0, 0), (2, 0, 90, 17), (2, 0, 90, 19), (2, 0, 90, 20)], ([zqv170, zqv210, zqv154, zqv261, zqv281, zqv281, zqv166, zqv281, zqv281, zqv280], [(7, 8, 0), (7, 5, 0), (8, 7, 0), (8, 5, 0), (4, 7, 0), (4, 8, 0)], [], [zqa39], [zqf97, zqf101, zqf108, zqf116], [])), ([(1, 0, 0, 0), (2, 0, 90, 17)], ([zqv170, zqv210, zqv154, zqv261, zqv281, zqv281, zqv166, zqv281], [(7, 5, 0), (4, 7, 0)], [], [zqa39], [zqf97, zqf101, zqf103, zqf111], []))], zqw377)
def zpA570 : zAnn := [(35, ([(0, 1, 0, 0), (0, 2, 0, 0), (2, 0, 90, 17)], ([zqv170, zqv210, zqv154, zqv261, zqv281, zqv298, zqv166, zqv307, [(2, 59)]], [(8, 5, (-1)), (4, 8, 0), (4, 5, 0)], [zqa60, zqa39, zqa40, zqa0], [], [zqf98, zqf101, zqf103, zqf111], [])), [(2, 0, 0), (0, 8, 59), (2, 0, 0)])]

/-- PushedInModel.sums (((90, 19), -1), ((90, 20), 2)) -/
def zpC571 : zC := (200, (28, 655), ([(2, 0, 90, 17), (2, 0, 90, 18)], ([zqv170, zqv210, zqv154, zqv261, zqv281, zqv281], [(4, 5, 0)], [zqa60, zqa0, zqa0, zqa0], [], [zqf93, zqf101, zqf103, zqf111], [])), [([(1, 0, 0, 0), (2, 0, 90, 17), (2, 0, 90, 19), (2, 0, 90, 20)], ([zqv170, zqv210, zqv154, zqv261, zqv281, zqv281, zqv166, zqv281, zqv281, zqv280], [(7, 8, 0), (7, 5, 0), (8, 7, 0), (8, 5, 0), (4, 7, 0), (4, 8, 0)], [], [zqa39], [zqf97, zqf101, zqf108, zqf116], [])), ([(1, 0, 0, 0), (2, 0, 90, 17)], ([zqv170, zqv210, zqv154, zqv261, zqv281, zqv281, zqv166, zqv281], [(7, 5, 0), (4, 7, 0)], [], [zqa39], [zqf97, zqf101, zqf103, zqf111], []))], zqw377)
def zpA571 : zAnn := [(5, ([(0, 1, 0, 0), (2, 0, 90, 17), (2, 0, 90, 19), (2, 0, 90, 20)], ([zqv170, zqv210, zqv154, zqv261, zqv281, zqv281, zqv166, zqv281, zqv281, zqv280], [(7, 8, 0), (7, 5, 0), (8, 7, 0), (8, 5, 0), (4, 7, 0), (4, 8, 0), (4, 5, 0)], [zqa60, zqa39, zqa0, zqa0], [], [zqf97, zqf101, zqf108, zqf116], [])), [(2, 0, 0)]), (5, ([(0, 1, 0, 0), (2, 0, 90, 17)], ([zqv170, zqv210, zqv154, zqv261, zqv281, zqv281, zqv166, zqv281], [(7, 5, 0), (4, 7, 0), (4, 5, 0)], [zqa60, zqa39, zqa0, zqa0], [], [zqf97, zqf101, zqf103, zqf111], [])), [(2, 0, 1), (0, 7, 60), (2, 0, 0)])]

/-- PushedInModel.compared (((90, 19), -1), ((90, 20), 2)) -/
def zpC572 : zC := (149, (29, 678), ([(2, 0, 90, 17), (2, 0, 90, 18)], ([zqv170, zqv210, zqv154, zqv261, zqv281, zqv281], [(4, 5, 0)], [zqa60, zqa0, zqa0, zqa0], [], [zqf93, zqf101, zqf103, zqf111], [])), [([(1, 0, 0, 0), (2, 0, 90, 17), (2, 0, 90, 19), (2, 0, 90, 20)], ([zqv170, zqv210, zqv154, zqv261, zqv281, zqv281, zqv166, zqv281, zqv281, zqv280], [(7, 8, 0), (7, 5, 0), (8, 7, 0), (8, 5, 0), (4, 7, 0), (4, 8, 0)], [], [zqa39], [zqf97, zqf101, zqf108, zqf116], [])), ([(1, 0, 0, 0), (2, 0, 90, 17)], ([zqv170, zqv210, zqv154, zqv261, zqv281, zqv281, zqv166, zqv281], [(7, 5, 0), (4, 7, 0)], [], [zqa39], [zqf97, zqf101, zqf103, zqf111], []))], zqw377)
def zpA572 : zAnn := []

/-- PushedInModel.both (((90, 19), -1), ((90, 20), 2)) -/
def zpC573 : zC := (140, (30, 701), ([(2, 0, 90, 17), (2, 0, 90, 18)], ([zqv170, zqv210, zqv154, zqv261, zqv281, zqv281], [(4, 5, 0)], [zqa60, zqa0, zqa0], [], [zqf93, zqf101, zqf103, zqf111], [])), [([(1, 0, 0, 0), (2, 0, 90, 17), (2, 0, 90, 19), (2, 0, 90, 20)], ([zqv170, zqv210, zqv154, zqv261, zqv281, zqv281, zqv166, zqv281, zqv281, zqv280], [(7, 8, 0), (7, 5, 0), (8, 7, 0), (8, 5, 0), (4, 7, 0), (4, 8, 0)], [], [zqa39], [zqf97, zqf101, zqf108, zqf116], [])), ([(1, 0, 0, 0), (2, 0, 90, 17)], ([zqv170, zqv210, zqv154, zqv261, zqv281, zqv281, zqv166, zqv281], [(7, 5, 0), (4, 7, 0)], [], [zqa39], [zqf97, zqf101, zqf103, zqf111], []))], zqw377)
def zpA573 : zAnn := [(5, ([(0, 1, 0, 0), (2, 0, 90, 17), (2, 0, 90, 19), (2, 0, 90, 20)], ([zqv170, zqv210, zqv154, zqv261, zqv281, zqv281, zqv166, zqv281, zqv281, zqv280], [(7, 8, 0), (7, 5, 0), (8, 7, 0), (8, 5, 0), (4, 7, 0), (4, 8, 0), (4, 5, 0)], [zqa60, zqa39, zqa0], [], [zqf97, zqf101, zqf108, zqf116], [])), [(2, 0, 0)]), (5, ([(0, 1, 0, 0), (2, 0, 90, 17)], ([zqv170, zqv210, zqv154, zqv261, zqv281, zqv281, zqv166, zqv281], [(7, 5, 0), (4, 7, 0), (4, 5, 0)], [zqa60, zqa39, zqa0], [], [zqf97, zqf101, zqf103, zqf111], [])), [(2, 0, 1), (0, 7, 60), (2, 0, 0)])]

/-- PushedInModel.either (((90, 19), -1), ((90, 20), 2)) -/
def zpC574 : zC := (154, (31, 723), ([(2, 0, 90, 17), (2, 0, 90, 18)], ([zqv170, zqv210, zqv154, zqv261, zqv281, zqv281], [(4, 5, 0)], [zqa60, zqa0, zqa0], [], [zqf93, zqf101, zqf103, zqf111], [])), [([(1, 0, 0, 0), (2, 0, 90, 17), (2, 0, 90, 19), (2, 0, 90, 20)], ([zqv170, zqv210, zqv154, zqv261, zqv281, zqv281, zqv166, zqv281, zqv281, zqv280], [(7, 8, 0), (7, 5, 0), (8, 7, 0), (8, 5, 0), (4, 7, 0), (4, 8, 0)], [], [zqa39], [zqf97, zqf101, zqf108, zqf116], [])), ([(1, 0, 0, 0), (2, 0, 90, 17)], ([zqv170, zqv210, zqv154, zqv261, zqv281, zqv281, zqv166, zqv281], [(7, 5, 0), (4, 7, 0)], [], [zqa39], [zqf97, zqf101, zqf103, zqf111], []))], zqw377)
def zpA574 : zAnn := [(5, ([(0, 1, 0, 0), (2, 0, 90, 17), (2, 0, 90, 19), (2, 0, 90, 20)], ([zqv170, zqv210, zqv154, zqv261, zqv281, zqv281, zqv166, zqv281, zqv281, zqv280], [(7, 8, 0), (7, 5, 0), (8, 7, 0), (8, 5, 0), (4, 7, 0), (4, 8, 0), (4, 5, 0)], [zqa60, zqa39, zqa0], [], [zqf97, zqf101, zqf108, zqf116], [])), [(2, 0, 0)]), (5, ([(0, 1, 0, 0), (2, 0, 90, 17)], ([zqv170, zqv210, zqv154, zqv261, zqv281, zqv281, zqv166, zqv281], [(7, 5, 0), (4, 7, 0), (4, 5, 0)], [zqa60, zqa39, zqa0], [], [zqf97, zqf101, zqf103, zqf111], [])), [(2, 0, 1), (0, 7, 60), (2, 0, 0)])]

/-- PushedInModel.one (((90, 19), -1), ((90, 20), 1)) -/
def zpC575 : zC := (183, (32, 745), ([(2, 0, 90, 17), (2, 0, 90, 18)], ([zqv170, zqv210, zqv154, zqv261, zqv255, zqv255], [(4, 5, 0)], [zqa60, zqa0, zqa0, zqa0, zqa0], [], [zqf93, zqf101, zqf103, zqf110], [])), [([(1, 0, 0, 0), (2, 0, 90, 17), (2, 0, 90, 19), (2, 0, 90, 20)], ([zqv170, zqv210, zqv154, zqv261, zqv255, zqv255, zqv166, zqv255, zqv255, zqv254], [(7, 8, 0), (7, 5, 0), (8, 7, 0), (8, 5, 0), (4, 7, 0), (4, 8, 0)], [], [zqa39], [zqf97, zqf101, zqf108, zqf116], [])), ([(1, 0, 0, 0), (2, 0, 90, 17)], ([zqv170, zqv210, zqv154, zqv261, zqv255, zqv255, zqv166, zqv255], [(7, 5, 0), (4, 7, 0)], [], [zqa39], [zqf97, zqf101, zqf103, zqf110], []))], zqw377)
def zpA575h0 : Nat × zTm × zRk := (176, ([(0, 1, 0, 0), (0, 3, 0, 0), (0, 4, 0, 0), (2, 0, 90, 17)], ([zqv170, zqv210, zqv154, zqv261, zqv255, zqv255, zqv240, zqv166, zqv209, zqv255], [(8, 9, 0), (9, 5, 0), (4, 9, 0), (4, 5, 0)], [zqa60, zqa39, zqa1, zqa40, zqa41], [], [zqf99, zqf101, zqf103, zqf110], [])), [(2, 0, 0), (0, 8, 4), (2, 0, 0)])
def zpA575 : zAnn := [zpA575h0]

/-- PushedInModel.product (((90, 19), -1), ((90, 20), 1)) -/
def zpC576 : zC := (189, (33, 769), ([(2, 0, 90, 17), (2, 0, 90, 18)], ([zqv170, zqv210, zqv154, zqv261, zqv255, zqv255], [(4, 5, 0)], [zqa60, zqa0, zqa0, zqa0], [], [zqf93, zqf101, zqf103, zqf110], [])), [([(1, 0, 0, 0), (2, 0, 90, 17), (2, 0, 90, 19), (2, 0, 90, 20)], ([zqv170, zqv210, zqv154, zqv261, zqv255, zqv255, zqv166, zqv255, zqv255, zqv254], [(7, 8, 0), (7, 5, 0), (8, 7, 0), (8, 5, 0), (4, 7, 0), (4, 8, 0)], [], [zqa39], [zqf97, zqf101, zqf108, zqf116], [])), ([(1, 0, 0, 0), (2, 0, 90, 17)], ([zqv170, zqv210, zqv154, zqv261, zqv255, zqv255, zqv166, zqv255], [(7, 5, 0), (4, 7, 0)], [], [zqa39], [zqf97, zqf101, zqf103, zqf110], []))], zqw377)
def zpA576 : zAnn := [(35, ([(0, 1, 0, 0), (0, 2, 0, 0), (2, 0, 90, 17)], ([zqv170, zqv210, zqv154, zqv261, zqv255, zqv281, zqv166, zqv307, zqv253], [(8, 5, (-1)), (4, 8, 0), (4, 5, 0)], [zqa60, zqa39, zqa40, zqa0], [], [zqf98, zqf101, zqf103, zqf110], [])), [(2, 0, 0), (0, 8, 59), (2, 0, 0)])]

/-- PushedInModel.sums (((90, 19), -1), ((90, 20), 1)) -/
def zpC577 : zC := (200, (34, 792), ([(2, 0, 90, 17), (2, 0, 90, 18)], ([zqv170, zqv210, zqv154, zqv261, zqv255, zqv255], [(4, 5, 0)], [zqa60, zqa0, zqa0, zqa0], [], [zqf93, zqf101, zqf103, zqf110], [])), [([(1, 0, 0, 0), (2, 0, 90, 17), (2, 0, 90, 19), (2, 0, 90, 20)], ([zqv170, zqv210, zqv154, zqv261, zqv255, zqv255, zqv166, zqv255, zqv255, zqv254], [(7, 8, 0), (7, 5, 0), (8, 7, 0), (8, 5, 0), (4, 7, 0), (4, 8, 0)], [], [zqa39], [zqf97, zqf101, zqf108, zqf116], [])), ([(1, 0, 0, 0), (2, 0, 90, 17)], ([zqv170, zqv210, zqv154, zqv261, zqv255, zqv255, zqv166, zqv255], [(7, 5, 0), (4, 7, 0)], [], [zqa39], [zqf97, zqf101, zqf103, zqf110], []))], zqw377)
def zpA577 : zAnn := [(5, ([(0, 1, 0, 0), (2, 0, 90, 17), (2, 0, 90, 19), (2, 0, 90, 20)], ([zqv170, zqv210, zqv154, zqv261, zqv255, zqv255, zqv166, zqv255, zqv255, zqv254], [(7, 8, 0), (7, 5, 0), (8, 7, 0), (8, 5, 0), (4, 7, 0), (4, 8, 0), (4, 5, 0)], [zqa60, zqa39, zqa0, zqa0], [], [zqf97, zqf101, zqf108, zqf116], [])), [(2, 0, 0)]), (5, ([(0, 1, 0, 0), (2, 0, 90, 17)], ([zqv170, zqv210, zqv154, zqv261, zqv255, zqv255, zqv166, zqv255], [(7, 5, 0), (4, 7, 0), (4, 5, 0)], [zqa60, zqa39, zqa0, zqa0], [], [zqf97, zqf101, zqf103, zqf110], [])), [(2, 0, 1), (0, 7, 60), (2, 0, 0)])]

/-- PushedInModel.compared (((90, 19), -1), ((90, 20), 1)) -/
def zpC578 : zC := (149, (35, 815), ([(2, 0, 90, 17), (2, 0, 90, 18)], ([zqv170, zqv210, zqv154, zqv261, zqv255, zqv255], [(4, 5, 0)], [zqa60, zqa0, zqa0, zqa0], [], [zqf93, zqf101, zqf103, zqf110], [])), [([(1, 0, 0, 0), (2, 0, 90, 17), (2, 0, 90, 19), (2, 0, 90, 20)], ([zqv170, zqv210, zqv154, zqv261, zqv255, zqv255, zqv166, zqv255, zqv255, zqv254], [(7, 8, 0), (7, 5, 0), (8, 7, 0), (8, 5, 0), (4, 7, 0), (4, 8, 0)], [], [zqa39], [zqf97, zqf101, zqf108, zqf116], [])), ([(1, 0, 0, 0), (2, 0, 90, 17)], ([zqv170, zqv210, zqv154, zqv261, zqv255, zqv255, zqv166, zqv255], [(7, 5, 0), (4, 7, 0)], [], [zqa39], [zqf97, zqf101, zqf103, zqf110], []))], zqw377)
def zpA578 : zAnn := []

/-- PushedInModel.both (((90, 19), -1), ((90, 20), 1)) -/
def zpC579 : zC := (140, (36, 838), ([(2, 0, 90, 17), (2, 0, 90, 18)], ([zqv170, zqv210, zqv154, zqv261, zqv255, zqv255], [(4, 5, 0)], [zqa60, zqa0, zqa0], [], [zqf93, zqf101, zqf103, zqf110], [])), [([(1, 0, 0, 0), (2, 0, 90, 17), (2, 0, 90, 19), (2, 0, 90, 20)], ([zqv170, zqv210, zqv154, zqv261, zqv255, zqv255, zqv166, zqv255, zqv255, zqv254], [(7, 8, 0), (7, 5, 0), (8, 7, 0), (8, 5, 0), (4, 7, 0), (4, 8, 0)], [], [zqa39], [zqf97, zqf101, zqf108, zqf116], [])), ([(1, 0, 0, 0), (2, 0, 90, 17)], ([zqv170, zqv210, zqv154, zqv261, zqv255, zqv255, zqv166, zqv255], [(7, 5, 0), (4, 7, 0)], [], [zqa39], [zqf97, zqf101, zqf103, zqf110], []))], zqw377)
def zpA579 : zAnn := [(5, ([(0, 1, 0, 0), (2, 0, 90, 17), (2, 0, 90, 19), (2, 0, 90, 20)], ([zqv170, zqv210, zqv154, zqv261, zqv255, zqv255, zqv166, zqv255, zqv255, zqv254], [(7, 8, 0), (7, 5, 0), (8, 7, 0), (8, 5, 0), (4, 7, 0), (4, 8, 0), (4, 5, 0)], [zqa60, zqa39, zqa0], [], [zqf97, zqf101, zqf108, zqf116], [])), [(2, 0, 0)]), (5, ([(0, 1, 0, 0), (2, 0, 90, 17)], ([zqv170, zqv210, zqv154, zqv261, zqv255, zqv255, zqv166, zqv255], [(7, 5, 0), (4, 7, 0), (4, 5, 0)], [zqa60, zqa39, zqa0], [], [zqf97, zqf101, zqf103, zqf110], [])), [(2, 0, 1), (0, 7, 60), (2, 0, 0)])]

/-- PushedInModel.either (((90, 19), -1), ((90, 20), 1)) -/
def zpC580 : zC := (154, (37, 860), ([(2, 0, 90, 17), (2, 0, 90, 18)], ([zqv170, zqv210, zqv154, zqv261, zqv255, zqv255], [(4, 5, 0)], [zqa60, zqa0, zqa0], [], [zqf93, zqf101, zqf103, zqf110], [])), [([(1, 0, 0, 0), (2, 0, 90, 17), (2, 0, 90, 19), (2, 0, 90, 20)], ([zqv170, zqv210, zqv154, zqv261, zqv255, zqv255, zqv166, zqv255, zqv255, zqv254], [(7, 8, 0), (7, 5, 0), (8, 7, 0), (8, 5, 0), (4, 7, 0), (4, 8, 0)], [], [zqa39], [zqf97, zqf101, zqf108, zqf116], [])), ([(1, 0, 0, 0), (2, 0, 90, 17)], ([zqv170, zqv210, zqv154, zqv261, zqv255, zqv255, zqv166, zqv255], [(7, 5, 0), (4, 7, 0)], [], [zqa39], [zqf97, zqf101, zqf103, zqf110], []))], zqw377)
def zpA580 : zAnn := [(5, ([(0, 1, 0, 0), (2, 0, 90, 17), (2, 0, 90, 19), (2, 0, 90, 20)], ([zqv170, zqv210, zqv154, zqv261, zqv255, zqv255, zqv166, zqv255, zqv255, zqv254], [(7, 8, 0), (7, 5, 0), (8, 7, 0), (8, 5, 0), (4, 7, 0), (4, 8, 0), (4, 5, 0)], [zqa60, zqa39, zqa0], [], [zqf97, zqf101, zqf108, zqf116], [])), [(2, 0, 0)]), (5, ([(0, 1, 0, 0), (2, 0, 90, 17)], ([zqv170, zqv210, zqv154, zqv261, zqv255, zqv255, zqv166, zqv255], [(7, 5, 0), (4, 7, 0), (4, 5, 0)], [zqa60, zqa39, zqa0], [], [zqf97, zqf101, zqf103, zqf110], [])), [(2, 0, 1), (0, 7, 60), (2, 0, 0)])]

/-- PushedInModel.one (((90, 19), -1), ((90, 20), 0)) -/
def zpC581 : zC := (183, (38, 882), ([(2, 0, 90, 17), (2, 0, 90, 18)], ([zqv170, zqv210, zqv154, zqv261, zqv233, zqv233], [], [zqa60, zqa0, zqa0, zqa0, zqa0], [], [zqf93, zqf101, zqf103, zqf109], [])), [([(1, 0, 0, 0), (2, 0, 90, 17), (2, 0, 90, 19), (2, 0, 90, 20)], ([zqv170, zqv210, zqv154, zqv261, zqv233, zqv233, zqv166, zqv233, zqv233, zqv232], [(7, 8, 0), (8, 7, 0), (4, 7, 0), (4, 8, 0)], [], [zqa39], [zqf97, zqf101, zqf108, zqf116], [])), ([(1, 0, 0, 0), (2, 0, 90, 17)], ([zqv170, zqv210, zqv154, zqv261, zqv233, zqv233, zqv166, zqv233], [(4, 7, 0)], [], [zqa39], [zqf97, zqf101, zqf103, zqf109], []))], zqw377)
def zpA581h0 : Nat × zTm × zRk := (176, ([(0, 1, 0, 0), (0, 3, 0, 0), (0, 4, 0, 0), (2, 0, 90, 17)], ([zqv170, zqv210, zqv154, zqv261, zqv233, zqv233, zqv240, zqv166, zqv209, zqv233], [(8, 9, 0), (4, 9, 0)], [zqa60, zqa39, zqa1, zqa40, zqa41], [], [zqf99, zqf101, zqf103, zqf109], [])), [(2, 0, 0), (0, 8, 4), (2, 0, 0)])
def zpA581 : zAnn := [zpA581h0]

/-- PushedInModel.product (((90, 19), -1), ((90, 20), 0)) -/
def zpC582 : zC := (189, (39, 906), ([(2, 0, 90, 17), (2, 0, 90, 18)], ([zqv170, zqv210, zqv154, zqv261, zqv233, zqv233], [], [zqa60, zqa0, zqa0, zqa0], [], [zqf93, zqf101, zqf103, zqf109], [])), [([(1, 0, 0, 0), (2, 0, 90, 17), (2, 0, 90, 19), (2, 0, 90, 20)], ([zqv170, zqv210, zqv154, zqv261, zqv233, zqv233, zqv166, zqv233, zqv233, zqv232], [(7, 8, 0), (8, 7, 0), (4, 7, 0), (4, 8, 0)], [], [zqa39], [zqf97, zqf101, zqf108, zqf116], [])), ([(1, 0, 0, 0), (2, 0, 90, 17)], ([zqv170, zqv210, zqv154, zqv261, zqv233, zqv233, zqv166, zqv233], [(4, 7, 0)], [], [zqa39], [zqf97, zqf101, zqf103, zqf109], []))], zqw377)
def zpA582 : zAnn := [(35, ([(0, 1, 0, 0), (0, 2, 0, 0), (2, 0, 90, 17)], ([zqv170, zqv210, zqv154, zqv261, zqv233, zqv255, zqv166, zqv307, zqv231], [(8, 5, (-1)), (4, 8, 0)], [zqa60, zqa39, zqa40, zqa0], [], [zqf98, zqf101, zqf103, zqf109], [])), [(2, 0, 0), (0, 8, 59), (2, 0, 0)])]

/-- PushedInModel.sums (((90, 19), -1), ((90, 20), 0)) -/
def zpC583 : zC := (200, (40, 929), ([(2, 0, 90, 17), (2, 0, 90, 18)], ([zqv170, zqv210, zqv154, zqv261, zqv233, zqv233], [], [zqa60, zqa0, zqa0, zqa0], [], [zqf93, zqf101, zqf103, zqf109], [])), [([(1, 0, 0, 0), (2, 0, 90, 17), (2, 0, 90, 19), (2, 0, 90, 20)], ([zqv170, zqv210, zqv154, zqv261, zqv233, zqv233, zqv166, zqv233, zqv233, zqv232], [(7, 8, 0), (8, 7, 0), (4, 7, 0), (4, 8, 0)], [], [zqa39], [zqf97, zqf101, zqf108, zqf116], [])), ([(1, 0, 0, 0), (2, 0, 90, 17)], ([zqv170, zqv210, zqv154, zqv261, zqv233, zqv233, zqv166, zqv233], [(4, 7, 0)], [], [zqa39], [zqf97, zqf101, zqf103, zqf109], []))], zqw377)
def zpA583 : zAnn := [(5, ([(0, 1, 0, 0), (2, 0, 90, 17), (2, 0, 90, 19), (2, 0, 90, 20)], ([zqv170, zqv210, zqv154, zqv261, zqv233, zqv233, zqv166, zqv233, zqv233, zqv232], [(7, 8, 0), (8, 7, 0), (4, 7, 0), (4, 8, 0)], [zqa60, zqa39, zqa0, zqa0], [], [zqf97, zqf101, zqf108, zqf116], [])), [(2, 0, 0)]), (5, ([(0, 1, 0, 0), (2, 0, 90, 17)], ([zqv170, zqv210, zqv154, zqv261, zqv233, zqv233, zqv166, zqv233], [(4, 7, 0)], [zqa60, zqa39, zqa0, zqa0], [], [zqf97, zqf101, zqf103, zqf109], [])), [(2, 0, 1), (0, 7, 60), (2, 0, 0)])]

/-- PushedInModel.compared (((90, 19), -1), ((90, 20), 0)) -/
def zpC584 : zC := (149, (41, 952), ([(2, 0, 90, 17), (2, 0, 90, 18)], ([zqv170, zqv210, zqv154, zqv261, zqv233, zqv233], [], [zqa60, zqa0, zqa0, zqa0], [], [zqf93, zqf101, zqf103, zqf109], [])), [([(1, 0, 0, 0), (2, 0, 90, 17), (2, 0, 90, 19), (2, 0, 90, 20)], ([zqv170, zqv210, zqv154, zqv261, zqv233, zqv233, zqv166, zqv233, zqv233, zqv232], [(7, 8, 0), (8, 7, 0), (4, 7, 0), (4, 8, 0)], [], [zqa39], [zqf97, zqf101, zqf108, zqf116], [])), ([(1, 0, 0, 0), (2, 0, 90, 17)], ([zqv170, zqv210, zqv154, zqv261, zqv233, zqv233, zqv166, zqv233], [(4, 7, 0)], [], [zqa39], [zqf97, zqf101, zqf103, zqf109], []))], zqw377)
def zpA584 : zAnn := []

/-- PushedInModel.both (((90, 19), -1), ((90, 20), 0)) -/
def zpC585 : zC := (140, (42, 975), ([(2, 0, 90, 17), (2, 0, 90, 18)], ([zqv170, zqv210, zqv154, zqv261, zqv233, zqv233], [], [zqa60, zqa0, zqa0], [], [zqf93, zqf101, zqf103, zqf109], [])), [([(1, 0, 0, 0), (2, 0, 90, 17), (2, 0, 90, 19), (2, 0, 90, 20)], ([zqv170, zqv210, zqv154, zqv261, zqv233, zqv233, zqv166, zqv233, zqv233, zqv232], [(7, 8, 0), (8, 7, 0), (4, 7, 0), (4, 8, 0)], [], [zqa39], [zqf97, zqf101, zqf108, zqf116], [])), ([(1, 0, 0, 0), (2, 0, 90, 17)], ([zqv170, zqv210, zqv154, zqv261, zqv233, zqv233, zqv166, zqv233], [(4, 7, 0)], [], [zqa39], [zqf97, zqf101, zqf103, zqf109], []))], zqw377)
def zpA585 : zAnn := [(5, ([(0, 1, 0, 0), (2, 0, 90, 17), (2, 0, 90, 19), (2, 0, 90, 20)], ([zqv170, zqv210, zqv154, zqv261, zqv233, zqv233, zqv166, zqv233, zqv233, zqv232], [(7, 8, 0), (8, 7, 0), (4, 7, 0), (4, 8, 0)], [zqa60, zqa39, zqa0], [], [zqf97, zqf101, zqf108, zqf116], [])), [(2, 0, 0)]), (5, ([(0, 1, 0, 0), (2, 0, 90, 17)], ([zqv170, zqv210, zqv154, zqv261, zqv233, zqv233, zqv166, zqv233], [(4, 7, 0)], [zqa60, zqa39, zqa0], [], [zqf97, zqf101, zqf103, zqf109], [])), [(2, 0, 1), (0, 7, 60), (2, 0, 0)])]

/-- PushedInModel.either (((90, 19), -1), ((90, 20), 0)) -/
def zpC586 : zC := (154, (43, 997), ([(2, 0, 90, 17), (2, 0, 90, 18)], ([zqv170, zqv210, zqv154, zqv261, zqv233, zqv233], [], [zqa60, zqa0, zqa0], [], [zqf93, zqf101, zqf103, zqf109], [])), [([(1, 0, 0, 0), (2, 0, 90, 17), (2, 0, 90, 19), (2, 0, 90, 20)], ([zqv170, zqv210, zqv154, zqv261, zqv233, zqv233, zqv166, zqv233, zqv233, zqv232], [(7, 8, 0), (8, 7, 0), (4, 7, 0), (4, 8, 0)], [], [zqa39], [zqf97, zqf101, zqf108, zqf116], [])), ([(1, 0, 0, 0), (2, 0, 90, 17)], ([zqv170, zqv210, zqv154, zqv261, zqv233, zqv233, zqv166, zqv233], [(4, 7, 0)], [], [zqa39], [zqf97, zqf101, zqf103, zqf109], []))], zqw377)
def zpA586 : zAnn := [(5, ([(0, 1, 0, 0), (2, 0, 90, 17), (2, 0, 90, 19), (2, 0, 90, 20)], ([zqv170, zqv210, zqv154, zqv261, zqv233, zqv233, zqv166, zqv233, zqv233, zqv232], [(7, 8, 0), (8, 7, 0), (4, 7, 0), (4, 8, 0)], [zqa60, zqa39, zqa0], [], [zqf97, zqf101, zqf108, zqf116], [])), [(2, 0, 0)]), (5, ([(0, 1, 0, 0), (2, 0, 90, 17)], ([zqv170, zqv210, zqv154, zqv261, zqv233, zqv233, zqv166, zqv233], [(4, 7, 0)], [zqa60, zqa39, zqa0], [], [zqf97, zqf101, zqf103, zqf109], [])), [(2, 0, 1), (0, 7, 60), (2, 0, 0)])]

/-- PushedInModel.takes ((1, 59), ((90, 19), -1)) -/
def zpC587 : zC := (202, (2, 60), ([(2, 0, 90, 17), (2, 0, 90, 18)], ([zqv170, zqv210, zqv154, zqv261, zqv233, zqv233], [], [zqa60, zqa24], [], [zqf93, zqf101, zqf103], [])), [([], ([zqv170, zqv210, zqv154, zqv261, zqv233, zqv233], [], [], [zqa8], [zqf93, zqf101, zqf103], [])), ([], ([zqv170, zqv210, zqv154, zqv261, zqv231, zqv255], [(4, 5, (-1))], [], [zqa9], [zqf94, zqf101, zqf103], []))], zqw379)
def zpA587 : zAnn := []

/-- PushedInModel.takes ((1, 59),) -/
def zpC588 : zC := (202, (1, 40), ([(2, 0, 90, 17), (2, 0, 90, 18), (2, 0, 90, 19)], ([zqv170, zqv210, zqv154, zqv261, zqv233, zqv233, zqv233], [(4, 6, 0), (6, 4, 0)], [zqa60, zqa24], [], [zqf93, zqf101, zqf106], [])), [([], ([zqv170, zqv210, zqv154, zqv261, zqv233, zqv233, zqv233], [], [], [zqa8], [zqf93, zqf101, zqf106], []))], zqw384)
def zpA588 : zAnn := []

/-- PushedInModel.takes ((1, 63), ((90, 19), -1)) -/
def zpC589 : zC := (202, (2, 60), ([(2, 0, 90, 17), (2, 0, 90, 18)], ([zqv170, zqv210, zqv154, zqv261, zqv233, zqv233], [], [zqa60, (1, 0, 63, 0, 0)], [], [zqf93, zqf101, zqf103], [])), [([], ([zqv170, zqv210, zqv154, zqv261, zqv233, zqv233], [], [], [zqa8], [zqf93, zqf101, zqf103], [])), ([], ([zqv170, zqv210, zqv154, zqv261, zqv231, zqv255], [(4, 5, (-1))], [], [zqa9], [zqf94, zqf101, zqf103], []))], zqw379)
def zpA589 : zAnn := []

/-- PushedInModel.takes ((1, 63),) -/
def zpC590 : zC := (202, (1, 40), ([(2, 0, 90, 17), (2, 0, 90, 18), (2, 0, 90, 19)], ([zqv170, zqv210, zqv154, zqv261, zqv233, zqv233, zqv233], [(4, 6, 0), (6, 4, 0)], [zqa60, (1, 0, 63, 0, 0)], [], [zqf93, zqf101, zqf106], [])), [([], ([zqv170, zqv210, zqv154, zqv261, zqv233, zqv233, zqv233], [], [], [zqa8], [zqf93, zqf101, zqf106], []))], zqw384)
def zpA590 : zAnn := []

/-- PushedInModel.workOut () -/
def zpC591 : zC := (213, (44, 1019), ([(0, 1, 0, 0), (0, 2, 0, 0), (2, 0, 90, 17), (2, 0, 90, 18), (2, 0, 90, 19), (2, 0, 90, 20)], ([zqv170, zqv210, zqv154, zqv261, zqv149, zqv233, zqv233, zqv233, zqv154, zqv232], [], [zqa60, zqa37, zqa38, zqa0, zqa0, zqa0, zqa0, zqa0], [], [zqf96, (0, 90, 18, (1, 7, 0, 0, 0)), zqf108, zqf116], [])), [([(1, 0, 0, 0), (2, 0, 90, 17), (2, 0, 90, 19), (2, 0, 90, 20)], ([zqv170, zqv210, zqv154, zqv261, zqv149, zqv233, zqv233, zqv233, zqv154, zqv232, zqv166, zqv233, zqv233, zqv232], [(11, 12, 0), (12, 11, 0)], [], [zqa34], [(0, 90, 17, (1, 11, 0, 0, 0)), zqf101, (0, 90, 19, (1, 12, 0, 0, 0)), (0, 90, 20, (1, 13, 0, 0, 0))], [])), ([(1, 0, 0, 0), (2, 0, 90, 17)], ([zqv170, zqv210, zqv154, zqv261, zqv149, zqv233, zqv233, zqv233, zqv154, zqv232, zqv166, zqv233], [(5, 11, 0)], [], [zqa34], [(0, 90, 17, (1, 11, 0, 0, 0)), zqf101, zqf103, zqf109], [])), ([(2, 0, 90, 17), (2, 0, 90, 19)], ([zqv170, zqv210, zqv154, zqv261, zqv149, zqv255, zqv233, zqv233, zqv154, zqv232, zqv231, zqv231], [(10, 11, 0), (10, 5, (-1)), (11, 10, 0), (11, 5, (-1))], [], [zqa8], [(0, 90, 17, (1, 10, 0, 0, 0)), zqf101, (0, 90, 19, (1, 11, 0, 0, 0)), zqf109], []))], [(90, 90, 1, 16), (90, 90, 1, 17), (90, 90, 1, 18), (90, 90, 1, 19), (90, 90, 1, 20)])
def zpA591 : zAnn := [(33, ([(0, 3, 0, 0), (0, 4, 0, 0), (0, 6, 0, 0), (0, 7, 0, 0), (2, 0, 90, 17), (2, 0, 90, 19), (2, 0, 90, 20)], ([zqv170, zqv210, zqv154, zqv261, zqv149, zqv233, zqv233, zqv233, zqv154, zqv232, zqv171, zqv166, zqv166, zqv171, zqv233, zqv233, zqv232], [(14, 15, 0), (15, 14, 0)], [zqa60, zqa37, zqa38, zqa34, zqa35, zqa8, zqa36, (1, 13, 0, 0, 0)], [], [(0, 90, 17, (1, 14, 0, 0, 0)), zqf101, (0, 90, 19, (1, 15, 0, 0, 0)), (0, 90, 20, (1, 16, 0, 0, 0))], [])), [(2, 0, 0)]), (33, ([(0, 3, 0, 0), (0, 4, 0, 0), (0, 5, 0, 0), (2, 0, 90, 17)], ([zqv170, zqv210, zqv154, zqv261, zqv149, zqv233, zqv233, zqv233, zqv154, zqv232, zqv171, zqv166, zqv171, zqv233], [], [zqa60, zqa37, zqa38, zqa34, zqa35, zqa36, zqa0, zqa0], [], [(0, 90, 17, (1, 13, 0, 0, 0)), zqf101, zqf103, zqf109], [])), [(2, 0, 1), (1, 12, 0), (2, 0, 0), (0, 13, 60)])]

/-- PushedInModel.text () -/
def zpC592 : zC := (204, (45, 1046), ([], ([zqv170, zqv210, zqv154, zqv261], [], [zqa60, zqa0, zqa0, zqa0], [], [], [])), [([(1, 0, 0, 0)], ([zqv170, zqv210, zqv154, zqv261, [((-160), (-100))]], [], [], [zqa37], [], [])), ([], ([zqv170, zqv210, zqv154, zqv261], [], [], [zqa9], [], []))], [(90, 90, 1, 13), (90, 90, 1, 15), (90, 90, 1, 16), (90, 90, 1, 17), (90, 90, 1, 18), (90, 90, 1, 19), (90, 90, 1, 20), (99, 99, 0, 0)])
def zpA592 : zAnn := [(37, ([(0, 1, 0, 0), (0, 2, 0, 0), (0, 3, 0, 0)], ([zqv170, zqv210, zqv154, zqv261, zqv166, zqv233, zqv233], [(6, 5, 0)], [zqa60, zqa37, zqa38, zqa39], [], [], [])), [(2, 0, 0), (0, 6, 60), (2, 0, 0)])]

/-- PushedInModel.isRule () -/
def zpC593 : zC := (169, (2, 65), ([(0, 1, 0, 0)], ([zqv170, zqv210, zqv154, zqv261, zqv166], [], [zqa60, zqa37], [], [], [])), [([], ([zqv170, zqv210, zqv154, zqv261, zqv166], [], [], [zqa8], [], [])), ([], ([zqv170, zqv210, zqv154, zqv261, zqv181], [], [], [zqa9], [], []))], zqw384)
def zpA593 : zAnn := []

/-- PushedInModel.textScore () -/
def zpC594 : zC := (205, (45, 1046), ([(0, 1, 0, 0), (0, 2, 0, 0), (0, 3, 0, 0), (0, 4, 0, 0)], ([zqv170, zqv210, zqv154, zqv261, zqv181, zqv208, zqv166, zqv166], [], [zqa60, zqa37, zqa38, zqa39, zqa40], [], [], [])), [([(1, 0, 0, 0)], ([zqv170, zqv210, zqv154, zqv261, zqv181, zqv208, zqv166, zqv166, zqv166], [], [], [zqa41], [], [])), ([], ([zqv170, zqv210, zqv154, zqv261, zqv181, zqv208, zqv166, zqv166], [], [], [zqa8], [], []))], zqw376)
def zpA594 : zAnn := []

/-- PushedInModel.score () -/
def zpC595 : zC := (195, (46, 1070), ([(0, 1, 0, 0), (0, 2, 0, 0), (0, 3, 0, 0), (0, 4, 0, 0)], ([zqv170, zqv210, zqv154, zqv261, zqv181, zqv208, zqv166, zqv166], [], [zqa60, zqa37, zqa38, zqa39, zqa40, zqa0], [], [], [])), [([(1, 0, 0, 0)], ([zqv170, zqv210, zqv154, zqv261, zqv181, zqv208, zqv166, zqv166, zqv166], [], [], [zqa41], [], [])), ([], ([zqv170, zqv210, zqv154, zqv261, zqv181, zqv208, zqv166, zqv166], [], [], [zqa8], [], [])), ([], ([zqv170, zqv210, zqv154, zqv261, zqv181, zqv208, zqv166, zqv166], [], [], [zqa9], [], [])), ([], ([zqv170, zqv210, zqv154, zqv261, zqv181, zqv208, zqv166, zqv166], [], [], [zqa13], [], []))], zqw376)
def zpA595 : zAnn := []

/-- PushedInModel.nextOf () -/
def zpC596 : zC := (180, (47, 1095), ([(0, 1, 0, 0), (0, 2, 0, 0), (0, 3, 0, 0), (0, 4, 0, 0)], ([zqv170, zqv210, zqv154, zqv261, zqv181, zqv166, zqv166, zqv166], [], [zqa60, zqa37, zqa38, zqa39, zqa40, zqa0, zqa0, zqa0, zqa0], [], [], [])), [([(1, 0, 0, 0)], ([zqv170, zqv210, zqv154, zqv261, zqv181, zqv166, zqv166, zqv166, zqv156], [], [], [zqa41], [], []))], zqw376)
def zpA596h0 : Nat × zTm × zRk := (10, ([(0, 5, 0, 0), (0, 6, 0, 0), (0, 7, 0, 0)], ([zqv170, zqv210, zqv154, zqv261, zqv181, zqv166, zqv166, zqv166, zqv156, zqv166, zqv210], [(8, 10, 0)], [zqa60, zqa37, zqa38, zqa39, zqa40, zqa41, zqa42, zqa34, zqa0], [], [], [])), [(2, 0, 0), (0, 8, 39), (2, 0, 0), (0, 10, 40)])
def zpA596 : zAnn := [zpA596h0]

/-- PushedInModel.next () -/
def zpC597 : zC := (179, (48, 1123), ([(0, 1, 0, 0), (0, 2, 0, 0), (0, 3, 0, 0)], ([zqv170, zqv210, zqv154, zqv261, zqv166, zqv166, zqv166], [], [zqa60, zqa37, zqa38, zqa39], [], [], [])), [([(1, 0, 0, 0)], ([zqv170, zqv210, zqv154, zqv261, zqv181, zqv188, zqv237, zqv156], [], [], [zqa40], [], [])), ([], ([zqv170, zqv210, zqv154, zqv261, zqv166, zqv166, zqv166], [], [], [zqa1], [], []))], zqw375)
def zpA597 : zAnn := []

/-- PushedInModel.doesBreak () -/
def zpC598 : zC := (152, (48, 1123), ([(0, 1, 0, 0), (0, 2, 0, 0)], ([zqv170, zqv210, zqv154, zqv261, zqv181, zqv208], [], [zqa60, zqa37, zqa38], [], [], [])), [([], ([zqv170, zqv210, zqv154, zqv261, zqv181, zqv208], [], [], [zqa8], [], [])), ([], ([zqv170, zqv210, zqv154, zqv261, zqv181, zqv208], [], [], [zqa9], [], []))], zqw376)
def zpA598 : zAnn := []

/-- PushedInModel.breaks () -/
def zpC599 : zC := (141, (49, 1145), ([(0, 1, 0, 0), (0, 2, 0, 0), (0, 3, 0, 0)], ([zqv170, zqv210, zqv154, zqv261, zqv166, zqv166, zqv166], [], [zqa60, zqa37, zqa38, zqa39, zqa0, zqa0], [], [], [])), [([(1, 0, 0, 0)], ([zqv170, zqv210, zqv154, zqv261, zqv181, zqv198, [((-1), 40)], zqv210], [], [], [zqa40], [], [])), ([], ([zqv170, zqv210, zqv154, zqv261, zqv166, zqv166, zqv166], [], [], [zqa1], [], []))], zqw375)
def zpA599 : zAnn := [(32, ([(0, 4, 0, 0), (0, 5, 0, 0)], ([zqv170, zqv210, zqv154, zqv261, zqv181, zqv198, zqv151, zqv210, zqv210], [(7, 8, 0)], [zqa60, zqa37, zqa38, zqa39, zqa40, zqa41], [], [], [])), [(2, 0, 0), (0, 7, 40), (2, 0, 0), (0, 8, 40)])]

/-- PushedInModel.kept () -/
def zpC600 : zC := (173, (49, 1145), ([(0, 1, 0, 0)], ([zqv170, zqv210, zqv154, zqv261, zqv166], [], [zqa60, zqa37, zqa0, zqa0, zqa0], [], [], [])), [([(1, 0, 0, 0)], ([zqv170, zqv210, zqv154, zqv261, zqv181, zqv166], [], [], [zqa38], [], [])), ([], ([zqv170, zqv210, zqv154, zqv261, zqv166], [], [], [zqa1], [], []))], zqw375)
def zpA600 : zAnn := [(21, ([(0, 2, 0, 0), (0, 3, 0, 0), (0, 4, 0, 0)], ([zqv170, zqv210, zqv154, zqv261, zqv181, zqv166, zqv166, zqv210], [], [zqa60, zqa37, zqa38, zqa39, zqa40], [], [], [])), [(2, 0, 0), (0, 7, 40), (2, 0, 0)])]

/-- PushedInModel.find () -/
def zpC601 : zC := (158, (49, 1145), ([(0, 1, 0, 0)], ([zqv170, zqv210, zqv154, zqv261, zqv166], [], [zqa60, zqa37, zqa0, zqa0, zqa0, zqa0, zqa0], [], [], [])), [([(1, 0, 0, 0)], ([zqv170, zqv210, zqv154, zqv261, zqv171, zqv166], [], [], [zqa38], [], [])), ([], ([zqv170, zqv210, zqv154, zqv261, zqv157], [], [], [zqa1], [], [])), ([], ([zqv170, zqv210, zqv154, zqv261, zqv171], [], [], [zqa7], [], []))], zqw375)
def zpA601 : zAnn := [(33, ([(0, 2, 0, 0), (0, 3, 0, 0), (0, 4, 0, 0)], ([zqv170, zqv210, zqv154, zqv261, zqv171, zqv150, zqv166, zqv183], [(5, 7, 0)], [zqa60, zqa37, zqa38, zqa39, zqa40, zqa0, zqa0], [], [], [])), [(2, 0, 0), (0, 7, 20), (2, 0, 1)]), (54, ([(0, 2, 0, 0), (0, 3, 0, 0), (0, 4, 0, 0), (0, 5, 0, 0), (0, 6, 0, 0)], ([zqv170, zqv210, zqv154, zqv261, zqv171, zqv150, zqv166, zqv181, zqv166, zqv210], [(5, 7, 0)], [zqa60, zqa37, zqa38, zqa39, zqa40, zqa41, zqa42], [], [], [])), [(2, 0, 0), (0, 7, 20), (2, 0, 0), (0, 9, 40)])]

/-- PushedInModel.led () -/
def zpC602 : zC := (176, (49, 1145), ([(0, 1, 0, 0)], ([zqv170, zqv210, zqv154, zqv261, zqv166], [], [zqa60, zqa37, zqa0, zqa0], [], [], [])), [([(1, 0, 0, 0)], ([zqv170, zqv210, zqv154, zqv261, zqv208, zqv166], [], [], [zqa38], [], [])), ([], ([zqv170, zqv210, zqv154, zqv261, zqv166], [], [], [zqa1], [], []))], zqw375)
def zpA602 : zAnn := [(18, ([(0, 2, 0, 0), (0, 3, 0, 0)], ([zqv170, zqv210, zqv154, zqv261, zqv208, zqv166, zqv183], [], [zqa60, zqa37, zqa38, zqa39], [], [], [])), [(2, 0, 0), (0, 6, 20), (2, 0, 0)])]

/-- PushedInModel.changed () -/
def zpC603 : zC := (145, (3, 85), ([(0, 1, 0, 0), (0, 2, 0, 0)], ([zqv170, zqv210, zqv154, zqv261, zqv166, zqv166], [], [zqa60, zqa37, zqa38, zqa0, zqa0], [], [], [])), [([(1, 0, 0, 0)], ([zqv170, zqv210, zqv154, zqv261, zqv198, [((-1), 40)], zqv210], [], [], [zqa39], [], [])), ([], ([zqv170, zqv210, zqv154, zqv261, zqv166, zqv166], [], [], [zqa1], [], [])), ([], ([zqv170, zqv210, zqv154, zqv261, zqv198, zqv151], [], [], [zqa7], [], []))], zqw384)
def zpA603 : zAnn := [(29, ([(0, 3, 0, 0), (0, 4, 0, 0)], ([zqv170, zqv210, zqv154, zqv261, zqv198, zqv151, zqv210, zqv210], [(6, 7, 0)], [zqa60, zqa37, zqa38, zqa39, zqa40], [], [], [])), [(2, 0, 0), (0, 6, 40), (2, 0, 0), (0, 7, 40)])]

/-- PushedInModel.waits () -/
def zpC604 : zC := (208, (1, 40), ([(0, 1, 0, 0), (0, 2, 0, 0), (0, 3, 0, 0)], ([zqv170, zqv210, zqv154, zqv261, zqv186, zqv239, zqv165], [], [zqa60, zqa37, zqa38, zqa39, zqa0, zqa0], [], [], [])), [([], ([zqv170, zqv210, zqv154, zqv261, zqv186, zqv239, zqv165], [], [], [zqa8], [], [])), ([], ([zqv170, zqv210, zqv154, zqv261, zqv186, zqv239, zqv165], [], [], [zqa9], [], []))], zqw384)
def zpA604 : zAnn := [(3, ([(0, 4, 0, 0)], ([zqv170, zqv210, zqv154, zqv261, zqv186, zqv239, zqv165, zqv210], [], [zqa60, zqa37, zqa38, zqa39, zqa40, zqa0], [], [], [])), [(2, 0, 0), (0, 7, 40), (2, 0, 0)])]

/-- PushedInModel.idle () -/
def zpC605 : zC := (162, (5, 134), ([(0, 1, 0, 0), (0, 2, 0, 0)], ([zqv170, zqv210, zqv154, zqv261, zqv166, zqv166], [], [zqa60, zqa37, zqa38, zqa0, zqa0, zqa0, zqa0, zqa0], [], [], [])), [([(1, 0, 0, 0)], ([zqv170, zqv210, zqv154, zqv261, zqv188, zqv171, zqv166], [], [], [zqa39], [], [])), ([], ([zqv170, zqv210, zqv154, zqv261, zqv166, zqv166], [], [], [zqa1], [], []))], zqw368)
def zpA605 : zAnn := [(125, ([(0, 3, 0, 0), (0, 4, 0, 0), (0, 5, 0, 0), (0, 6, 0, 0), (0, 7, 0, 0)], ([zqv170, zqv210, zqv154, zqv261, zqv188, zqv171, zqv166, zqv165, zqv208, zqv208, zqv166], [], [zqa60, zqa37, zqa38, zqa39, zqa40, zqa41, zqa42, zqa34], [], [], [])), [(2, 0, 0), (0, 8, 40), (2, 0, 0), (0, 10, 2147483647)]), (49, ([(0, 3, 0, 0), (0, 4, 0, 0), (0, 5, 0, 0)], ([zqv170, zqv210, zqv154, zqv261, zqv188, zqv171, zqv166, zqv165, zqv210], [], [zqa60, zqa37, zqa38, zqa39, zqa40, zqa41, zqa0, zqa0], [], [], [])), [(2, 0, 0), (0, 8, 40), (2, 0, 1)])]

/-- PushedInModel.waitsIn () -/
def zpC606 : zC := (209, (1, 40), ([(0, 1, 0, 0), (0, 2, 0, 0)], ([zqv170, zqv210, zqv154, zqv261, zqv210, zqv239], [], [zqa60, zqa37, zqa38, zqa0, zqa0, zqa0], [], [], [])), [([(1, 0, 0, 0)], ([zqv170, zqv210, zqv154, zqv261, zqv210, zqv239, zqv166], [], [], [zqa39], [], []))], zqw384)
def zpA606 : zAnn := [(5, ([(0, 3, 0, 0), (0, 4, 0, 0)], ([zqv170, zqv210, zqv154, zqv261, zqv210, zqv239, zqv166, zqv210], [], [zqa60, zqa37, zqa38, zqa39, zqa40, zqa0], [], [], [])), [(2, 0, 0), (0, 7, 40), (2, 0, 0)])]

/-- PushedInModel.within ((1, 1), (2, 200)) -/
def zpC607 : zC := (212, (1, 40), ([(0, 0, 0, 0)], ([zqv170, zqv210, zqv154, zqv261, zqv166], [], [zqa47, zqa0, zqa45, zqa0, (2, 0, 200, 0, 0), zqa0], [], [], [])), [([], ([zqv170, zqv210, zqv154, zqv261, [((-2147483648), 0), (201, 2147483647)]], [], [], [zqa8], [], [])), ([], ([zqv170, zqv210, zqv154, zqv261, zqv248], [], [], [zqa9], [], []))], zqw384)
def zpA607 : zAnn := []

/-- PushedInModel.seldom () -/
def zpC608 : zC := (196, (5, 134), ([(0, 1, 0, 0), (0, 2, 0, 0), (0, 3, 0, 0)], ([zqv170, zqv210, zqv154, zqv261, zqv166, zqv166, zqv166], [], [zqa60, zqa37, zqa38, zqa39, zqa0, zqa0, zqa0, zqa0, zqa0, zqa0, zqa0, zqa0], [], [], [])), [([(1, 0, 0, 0)], ([zqv170, zqv210, zqv154, zqv261, zqv188, zqv166, zqv248, zqv184], [], [], [zqa40], [], [])), ([], ([zqv170, zqv210, zqv154, zqv261, zqv166, zqv166, zqv166], [], [], [zqa1], [], []))], [(110, 110, 0, 0), (111, 111, 0, 0), (118, 118, 0, 0), (119, 119, 0, 0)])
def zpA608 : zAnn := [(123, ([(0, 4, 0, 0), (0, 5, 0, 0), (0, 6, 0, 0), (0, 7, 0, 0), (0, 8, 0, 0)], ([zqv170, zqv210, zqv154, zqv261, zqv188, zqv166, zqv248, zqv210, zqv166, zqv166, zqv184, zqv184], [(10, 11, 0)], [zqa60, zqa37, zqa38, zqa39, zqa40, zqa41, zqa42, zqa34, zqa35, zqa0, zqa0, zqa0], [], [], [])), [(2, 0, 0), (0, 11, 200), (2, 0, 1)]), (135, ([(0, 4, 0, 0), (0, 5, 0, 0), (0, 6, 0, 0), (0, 7, 0, 0), (0, 8, 0, 0), (0, 9, 0, 0)], ([zqv170, zqv210, zqv154, zqv261, zqv188, zqv166, zqv248, zqv210, zqv166, zqv166, [(0, 199)], [(0, 199)], zqv153], [(10, 11, 0), (12, 7, (-1))], [zqa60, zqa37, zqa38, zqa39, zqa40, zqa41, zqa42, zqa34, zqa35, zqa36, zqa0, zqa0], [], [], [])), [(2, 0, 0), (0, 11, 200), (2, 0, 0), (1, 12, (-1))]), (47, ([(0, 4, 0, 0), (0, 5, 0, 0)], ([zqv170, zqv210, zqv154, zqv261, zqv188, zqv166, zqv248, zqv210, zqv210], [(7, 8, 0)], [zqa60, zqa37, zqa38, zqa39, zqa40, zqa41, zqa0, zqa0, zqa0, zqa0, zqa0, zqa0], [], [], [])), [(2, 0, 1), (0, 7, 40), (2, 0, 0), (0, 8, 40)])]

/-- PushedInModel.along () -/
def zpC609 : zC := (135, (3, 85), ([(0, 1, 0, 0), (0, 2, 0, 0), (0, 3, 0, 0)], ([zqv170, zqv210, zqv154, zqv261, zqv166, zqv166, zqv166], [], [zqa60, zqa37, zqa38, zqa39, zqa0, zqa0, zqa0, zqa0, zqa0], [], [], [])), [([(1, 0, 0, 0)], ([zqv170, zqv210, zqv154, zqv261, zqv188, zqv198, zqv241, zqv166], [], [], [zqa40], [], [])), ([], ([zqv170, zqv210, zqv154, zqv261, zqv166, zqv166, zqv166], [], [], [zqa1], [], []))], zqw384)
def zpA609h0 : Nat × zTm × zRk := (49, ([(0, 4, 0, 0), (0, 5, 0, 0)], ([zqv170, zqv210, zqv154, zqv261, zqv188, zqv198, zqv241, zqv166, zqv210], [], [zqa60, zqa37, zqa38, zqa39, zqa40, zqa41, zqa0, zqa0, zqa0], [], [], [])), [(2, 0, 0), (0, 8, 40), (2, 0, 1)])
def zpA609h1 : Nat × zTm × zRk := (61, ([(0, 4, 0, 0), (0, 5, 0, 0), (0, 6, 0, 0)], ([zqv170, zqv210, zqv154, zqv261, zqv188, zqv198, zqv241, zqv166, zqv208, zqv208], [(9, 8, 0)], [zqa60, zqa37, zqa38, zqa39, zqa40, zqa41, zqa42, zqa0, zqa0], [], [], [])), [(2, 0, 0), (0, 8, 40), (2, 0, 0), (0, 9, 39)])
def zpA609 : zAnn := [zpA609h0, zpA609h1]

/-- PushedInModel.stand () -/
def zpC610 : zC := (198, (4, 113), ([(0, 1, 0, 0), (0, 2, 0, 0)], ([zqv170, zqv210, zqv154, zqv261, zqv166, zqv166], [], [zqa60, zqa37, zqa38, zqa0, zqa0, zqa0, zqa0, zqa0, zqa0], [], [], [])), [([(1, 0, 0, 0)], ([zqv170, zqv210, zqv154, zqv261, zqv198, zqv171, zqv151], [], [], [zqa39], [], [])), ([], ([zqv170, zqv210, zqv154, zqv261, zqv166, zqv166], [], [], [zqa1], [], []))], zqw384)
def zpA610 : zAnn := [(27, ([(0, 3, 0, 0), (0, 4, 0, 0), (0, 5, 0, 0)], ([zqv170, zqv210, zqv154, zqv261, zqv198, zqv171, zqv198, zqv151, zqv209], [(6, 8, 0)], [zqa60, zqa37, zqa38, zqa39, zqa40, zqa41, zqa0, zqa0, zqa0], [], [], [])), [(2, 0, 0), (0, 8, 4), (2, 0, 1)]), (39, ([(0, 3, 0, 0), (0, 4, 0, 0), (0, 5, 0, 0), (0, 6, 0, 0), (0, 7, 0, 0)], ([zqv170, zqv210, zqv154, zqv261, zqv198, zqv171, zqv198, zqv151, zqv198, zqv166, zqv210], [(6, 8, 0)], [zqa60, zqa37, zqa38, zqa39, zqa40, zqa41, zqa42, zqa34, zqa0], [], [], [])), [(2, 0, 0), (0, 8, 4), (2, 0, 0), (0, 10, 40)])]

/-- PushedInModel.undo () -/
def zpC611 : zC := (207, (1, 40), ([(2, 0, 90, 5), (2, 0, 90, 4)], ([zqv170, zqv210, zqv154, zqv261, zqv210, zqv210], [(4, 5, 0)], [zqa60], [], [zqf141, zqf134], [])), [([], ([zqv170, zqv210, zqv154, zqv261, zqv170, zqv210], [], [], [zqa7], [zqf141, zqf134], [])), ([], ([zqv170, zqv210, zqv154, zqv261, zqv251, zqv210], [], [], [(1, 4, (-1), 0, 0)], [(0, 90, 5, (1, 4, (-1), 0, 0)), zqf134], []))], [(90, 90, 1, 5), (91, 91, 0, 0)])
def zpA611 : zAnn := []

/-- PushedInModel.redo () -/
def zpC612 : zC := (191, (1, 40), ([(2, 0, 90, 5), (2, 0, 90, 4)], ([zqv170, zqv210, zqv154, zqv261, zqv210, zqv210], [(4, 5, 0)], [zqa60], [], [zqf141, zqf134], [])), [([(1, 0, 0, 0)], ([zqv170, zqv210, zqv154, zqv261, zqv208, zqv251, [((-39), 39)]], [(4, 5, (-1))], [], [zqa39], [(0, 90, 5, (1, 4, 1, 0, 0)), zqf134], [])), ([], ([zqv170, zqv210, zqv154, zqv261, zqv210, zqv210], [(5, 4, 0)], [], [zqa7], [zqf141, zqf134], []))], [(90, 90, 1, 5), (91, 91, 0, 0)])
def zpA612 : zAnn := []

/-- PushedInModel.begins () -/
def zpC613 : zC := (139, (1, 40), ([(0, 1, 0, 0), (2, 0, 90, 46)], ([zqv170, zqv210, zqv154, zqv261, zqv252, zqv179], [], [zqa60, zqa37], [], [zqf136], [])), [([], ([zqv170, zqv210, zqv154, zqv261, zqv252, zqv179], [], [], [], [zqf137], []))], zqw383)
def zpA613 : zAnn := []

/-- PushedInModel.costsAs ((1, 0),) -/
def zpC614 : zC := (150, (2, 61), ([(0, 2, 0, 0), (2, 0, 90, 46)], ([zqv170, zqv210, zqv154, zqv261, zqv166, [(1, 1), (4, 14)]], [], [zqa60, zqa8, zqa37, zqa0], [], [zqf136], [])), [([(1, 0, 0, 0)], ([zqv170, zqv210, zqv154, zqv261, zqv166, [(1, 1), (4, 14)], zqv166], [], [], [zqa39], [zqf137], []))], zqw383)
def zpA614 : zAnn := []

/-- PushedInModel.picksAs ((1, 0),) -/
def zpC615 : zC := (188, (2, 61), ([(0, 2, 0, 0), (2, 0, 90, 46)], ([zqv170, zqv210, zqv154, zqv261, zqv166, [(1, 17)]], [], [zqa60, zqa8, zqa37], [], [zqf136], [])), [([(1, 0, 0, 0)], ([zqv170, zqv210, zqv154, zqv261, zqv166, [(1, 17)], zqv166], [], [], [zqa39], [zqf137], []))], zqw383)
def zpA615 : zAnn := []

/-- PushedInModel.picksAs ((1, 1),) -/
def zpC616 : zC := (188, (3, 83), ([(0, 2, 0, 0), (2, 0, 90, 46)], ([zqv170, zqv210, zqv154, zqv261, zqv166, zqv245], [], [zqa60, zqa9, zqa37], [], [zqf136], [])), [([(1, 0, 0, 0)], ([zqv170, zqv210, zqv154, zqv261, zqv166, zqv245, zqv166], [], [], [zqa39], [(0, 90, 46, (1, 5, 2, 0, 0))], []))], zqw383)
def zpA616 : zAnn := []

/-- PushedInModel.picksAs ((1, 3),) -/
def zpC617 : zC := (188, (3, 83), ([(0, 2, 0, 0), (2, 0, 90, 46)], ([zqv170, zqv210, zqv154, zqv261, zqv166, zqv245], [], [zqa60, zqa15, zqa37], [], [zqf136], [])), [([(1, 0, 0, 0)], ([zqv170, zqv210, zqv154, zqv261, zqv166, zqv245, zqv166], [], [], [zqa39], [(0, 90, 46, (1, 5, 2, 0, 0))], []))], zqw383)
def zpA617 : zAnn := []

/-- PushedInModel.picksAs () -/
def zpC618 : zC := (188, (4, 105), ([(0, 1, 0, 0), (0, 2, 0, 0), (2, 0, 90, 46)], ([zqv170, zqv210, zqv154, zqv261, zqv235, zqv166, zqv177], [], [zqa60, zqa37, zqa38], [], [zqf138], [])), [([(1, 0, 0, 0), (2, 0, 90, 46)], ([zqv170, zqv210, zqv154, zqv261, zqv235, zqv166, zqv177, zqv166, zqv246], [(8, 6, 3), (6, 8, (-1))], [], [zqa40], [zqf140], []))], zqw383)
def zpA618 : zAnn := []

/-- PushedInModel.costsAs () -/
def zpC619 : zC := (150, (5, 127), ([(0, 1, 0, 0), (0, 2, 0, 0), (2, 0, 90, 46)], ([zqv170, zqv210, zqv154, zqv261, zqv235, zqv166, [(0, 0), (3, 13)]], [], [zqa60, zqa37, zqa38, zqa0], [], [zqf138], [])), [([(1, 0, 0, 0), (2, 0, 90, 46)], ([zqv170, zqv210, zqv154, zqv261, zqv235, zqv166, [(0, 0), (3, 13)], zqv166, zqv246], [(8, 6, 5), (6, 8, (-1))], [], [zqa40], [zqf140], []))], zqw383)
def zpA619 : zAnn := []

/-- PushedInModel.holdsAs ((1, 1),) -/
def zpC620 : zC := (161, (5, 127), ([(0, 2, 0, 0), (2, 0, 90, 46)], ([zqv170, zqv210, zqv154, zqv261, zqv166, zqv250], [], [zqa60, zqa9, zqa37, zqa0], [], [zqf136], [])), [([(1, 0, 0, 0), (2, 0, 90, 46)], ([zqv170, zqv210, zqv154, zqv261, zqv166, zqv250, zqv166, [(3, 8)]], [(7, 5, 4), (5, 7, (-2))], [], [zqa39], [zqf139], []))], zqw383)
def zpA620 : zAnn := []

/-- PushedInModel.holdsAs ((1, 3),) -/
def zpC621 : zC := (161, (6, 150), ([(0, 2, 0, 0), (2, 0, 90, 46)], ([zqv170, zqv210, zqv154, zqv261, zqv166, zqv249], [], [zqa60, zqa15, zqa37, zqa0], [], [zqf136], [])), [([(1, 0, 0, 0), (2, 0, 90, 46)], ([zqv170, zqv210, zqv154, zqv261, zqv166, zqv249, zqv166, [(4, 8)]], [(7, 5, 5), (5, 7, (-3))], [], [zqa39], [zqf139], []))], zqw383)
def zpA621 : zAnn := []

/-- PushedInModel.holdsAs () -/
def zpC622 : zC := (161, (7, 173), ([(0, 1, 0, 0), (0, 2, 0, 0), (2, 0, 90, 46)], ([zqv170, zqv210, zqv154, zqv261, zqv235, zqv166, zqv182], [], [zqa60, zqa37, zqa38, zqa0], [], [zqf138], [])), [([(1, 0, 0, 0), (2, 0, 90, 46)], ([zqv170, zqv210, zqv154, zqv261, zqv235, zqv166, zqv182, zqv166, [(2, 13)]], [(8, 6, 11), (6, 8, (-2))], [], [zqa40], [zqf140], []))], zqw383)
def zpA622 : zAnn := []

/-- PushedInModel.tellsAs ((1, 0),) -/
def zpC623 : zC := (203, (8, 196), ([(0, 2, 0, 0)], ([zqv170, zqv210, zqv154, zqv261, zqv166], [], [zqa60, zqa8, zqa37, zqa0], [], [(0, 90, 46, (1, 0, 1, 0, 0))], [])), [([(1, 0, 0, 0), (2, 0, 90, 46)], ([zqv170, zqv210, zqv154, zqv261, zqv166, zqv166, zqv332], [], [], [zqa38], [zqf138], []))], zqw383)
def zpA623 : zAnn := []

/-- PushedInModel.tellsAs () -/
def zpC624 : zC := (203, (9, 219), ([(0, 1, 0, 0), (0, 2, 0, 0)], ([zqv170, zqv210, zqv154, zqv261, zqv235, zqv166], [], [zqa60, zqa37, zqa38, zqa0], [], [(0, 90, 46, (1, 0, 0, 0, 0))], [])), [([(1, 0, 0, 0), (2, 0, 90, 46)], ([zqv170, zqv210, zqv154, zqv261, zqv235, zqv166, zqv166, [(4, 18)]], [], [], [zqa39], [zqf139], []))], zqw383)
def zpA624 : zAnn := []

/-- PushedInModel.act () -/
def zpC625 : zC := (132, (10, 242), ([(0, 1, 0, 0), (0, 2, 0, 0), (0, 3, 0, 0)], ([zqv170, zqv210, zqv154, zqv261, zqv166, zqv166, zqv166], [], [zqa60, zqa37, zqa38, zqa39], [], [], [])), [([(1, 0, 0, 0)], ([zqv170, zqv210, zqv154, zqv261, zqv181, zqv198, zqv166, zqv166], [], [], [zqa40], [], [])), ([], ([zqv170, zqv210, zqv154, zqv261, zqv166, zqv166, zqv166], [], [], [zqa8], [], []))], [(90, 90, 1, 46), (90, 90, 1, 47), (90, 90, 1, 48), (120, 120, 0, 0)])
def zpA625 : zAnn := []

/-- PushedInModel.trace () -/
def zpC626 : zC := (206, (1, 40), ([(0, 1, 0, 0)], ([zqv170, zqv210, zqv154, zqv261, zqv166], [], [zqa60, zqa37], [], [], [])), [([(1, 0, 0, 0)], ([zqv170, zqv210, zqv154, zqv261, zqv190, zqv166], [], [], [zqa38], [], [])), ([], ([zqv170, zqv210, zqv154, zqv261, zqv166], [], [], [zqa1], [], []))], zqw384)
def zpA626 : zAnn := []

/-- PushedInModel.keep () -/
def zpC627 : zC := (172, (3, 86), ([(0, 1, 0, 0), (0, 2, 0, 0)], ([zqv170, zqv210, zqv154, zqv261, zqv166, zqv166], [], [zqa60, zqa37, zqa38], [], [], [])), [([], ([zqv170, zqv210, zqv154, zqv261, zqv166, zqv166], [], [], [zqa1], [], [])), ([], ([zqv170, zqv210, zqv154, zqv261, zqv221, zqv150], [], [], [zqa9], [], []))], [(121, 121, 0, 0), (122, 122, 0, 0)])
def zpA627 : zAnn := []

/-- PushedInModel.within ((1, 0), (2, 4)) -/
def zpC628 : zC := (212, (1, 40), ([(0, 0, 0, 0)], ([zqv170, zqv210, zqv154, zqv261, zqv166], [], [zqa47, zqa0, zqa44, zqa0, (2, 0, 4, 0, 0), zqa0], [], [], [])), [([], ([zqv170, zqv210, zqv154, zqv261, [((-2147483648), (-1)), (5, 2147483647)]], [], [], [zqa8], [], [])), ([], ([zqv170, zqv210, zqv154, zqv261, zqv209], [], [], [zqa9], [], []))], zqw384)
def zpA628 : zAnn := []

/-- PushedInModel.row () -/
def zpC629 : zC := (193, (3, 85), ([(0, 1, 0, 0), (0, 2, 0, 0), (0, 3, 0, 0)], ([zqv170, zqv210, zqv154, zqv261, zqv166, zqv166, zqv166], [], [zqa60, zqa37, zqa38, zqa39, zqa0], [], [], [])), [([], ([zqv170, zqv210, zqv154, zqv261, zqv166, zqv166, zqv166], [], [], [zqa1], [], [])), ([], ([zqv170, zqv210, zqv154, zqv261, zqv221, zqv209, zqv162], [], [], [(1, 0, (-14), 0, 0)], [], [])), ([], ([zqv170, zqv210, zqv154, zqv261, zqv221, zqv209, zqv233], [], [], [zqa9], [], []))], [(121, 121, 0, 0), (122, 122, 0, 0), (123, 123, 0, 0)])
def zpA629 : zAnn := [(57, ([(0, 4, 0, 0)], ([zqv170, zqv210, zqv154, zqv261, zqv221, zqv209, zqv233, [(0, 360)]], [], [zqa60, zqa37, zqa38, zqa39, zqa40], [], [], [])), [(2, 0, 0), (0, 7, 360), (2, 0, 0)])]

/-- PushedInModel.asSort () -/
def zpC630 : zC := (136, (1, 40), ([(0, 0, 0, 0), (0, 1, 0, 0)], ([zqv170, zqv210, zqv154, zqv261, [((-21), 4)], zqv168], [], [zqa37, zqa48, zqa0], [], [], [])), [([(1, 0, 0, 0)], ([zqv170, zqv210, zqv154, zqv261, zqv182, zqv168, zqv166], [], [], [zqa49], [], [])), ([], ([zqv170, zqv210, zqv154, zqv261, zqv315, zqv170], [], [], [zqa44], [], [])), ([], ([zqv170, zqv210, zqv154, zqv261, zqv315, [((-9223372036854775808), (-1)), (1, 9223372036854775807)]], [], [], [zqa45], [], [])), ([], ([zqv170, zqv210, zqv154, zqv261, [((-21), (-1)), (3, 3)], zqv168], [], [], [zqa48], [], []))], zqw384)
def zpA630 : zAnn := []

/-- PushedInModel.refusal () -/
def zpC631 : zC := (192, (3, 85), ([(0, 1, 0, 0), (0, 2, 0, 0)], ([zqv170, zqv210, zqv154, zqv261, zqv166, zqv166], [], [zqa60, zqa37, zqa38], [], [], [])), [([], ([zqv170, zqv210, zqv154, zqv261, zqv159, zqv166], [], [], [zqa1], [], [])), ([], ([zqv170, zqv210, zqv154, zqv261, zqv221, zqv166], [], [], [zqa2], [], [])), ([], ([zqv170, zqv210, zqv154, zqv261, zqv221, zqv166], [], [], [zqa3], [], [])), ([], ([zqv170, zqv210, zqv154, zqv261, zqv221, zqv166], [], [], [zqa4], [], [])), ([], ([zqv170, zqv210, zqv154, zqv261, zqv221, zqv231], [], [], [zqa8], [], []))], zqw384)
def zpA631 : zAnn := []

/-- PushedInModel.put () -/
def zpC632 : zC := (190, (4, 107), ([(0, 1, 0, 0), (0, 2, 0, 0), (0, 3, 0, 0)], ([zqv170, zqv210, zqv154, zqv261, zqv166, zqv166, zqv168], [], [zqa60, zqa37, zqa38, zqa49, zqa0, zqa0], [], [], [])), [([], ([zqv170, zqv210, zqv154, zqv261, zqv159, zqv166, zqv168], [], [], [zqa1], [], [])), ([], ([zqv170, zqv210, zqv154, zqv261, zqv221, zqv166, zqv168], [], [], [zqa2], [], [])), ([], ([zqv170, zqv210, zqv154, zqv261, zqv221, zqv166, zqv168], [], [], [zqa3], [], [])), ([], ([zqv170, zqv210, zqv154, zqv261, zqv221, zqv166, zqv168], [], [], [zqa4], [], [])), ([], ([zqv170, zqv210, zqv154, zqv261, zqv221, zqv231, zqv168], [], [], [zqa9], [], []))], [(123, 123, 0, 0)])
def zpA632 : zAnn := []

/-- PushedInModel.element () -/
def zpC633 : zC := (155, (4, 107), ([(0, 1, 0, 0), (0, 2, 0, 0)], ([zqv170, zqv210, zqv154, zqv261, zqv166, zqv166], [], [zqa60, zqa37, zqa38], [], [], [])), [([(1, 0, 0, 0)], ([zqv170, zqv210, zqv154, zqv261, zqv221, zqv231, zqv168], [], [], [zqa49], [], [])), ([], ([zqv170, zqv210, zqv154, zqv261, zqv166, zqv166], [], [], [(2, 0, (-9223372036854775808), 0, 0)], [], []))], zqw384)
def zpA633 : zAnn := []

/-- PushedInModel.shift () -/
def zpC634 : zC := (197, (3, 85), ([(0, 1, 0, 0), (0, 2, 0, 0), (0, 3, 0, 0), (0, 4, 0, 0), (0, 5, 0, 0)], ([zqv170, zqv210, zqv154, zqv261, zqv166, zqv166, zqv166, zqv166, zqv166], [], [zqa60, zqa37, zqa38, zqa39, zqa40, zqa41, zqa0], [], [], [])), [([(1, 0, 0, 0)], ([zqv170, zqv210, zqv154, zqv261, zqv166, zqv166, zqv166, zqv166, zqv166, [((-13), (-11)), ((-1), 60)]], [], [], [zqa42], [], []))], [(123, 123, 0, 0), (124, 124, 0, 0)])
def zpA634h0 : Nat × zTm × zRk := (113, ([], ([zqv170, zqv210, zqv154, zqv261, zqv221, zqv233, zqv221, zqv233, zqv170], [], [zqa60, zqa37, zqa38, zqa39, zqa40, zqa41, zqa8], [], [], [])), [(2, 0, 1)])
def zpA634h1 : Nat × zTm × zRk := (113, ([(0, 6, 0, 0)], ([zqv170, zqv210, zqv154, zqv261, zqv221, zqv231, zqv221, zqv231, zqv243, zqv171], [], [zqa60, zqa37, zqa38, zqa39, zqa40, zqa41, zqa42], [], [], [])), [(2, 0, 3), (0, 9, 1), (2, 0, 0)])
def zpA634h2 : Nat × zTm × zRk := (113, ([(0, 6, 0, 0)], ([zqv170, zqv210, zqv154, zqv261, zqv221, zqv222, zqv221, zqv222, zqv260, zqv172], [], [zqa60, zqa37, zqa38, zqa39, zqa40, zqa41, zqa42], [], [], [])), [(2, 0, 5), (0, 9, 10), (2, 0, 0)])
def zpA634h3 : Nat × zTm × zRk := (113, ([(0, 6, 0, 0)], ([zqv170, zqv210, zqv154, zqv261, zqv221, zqv220, zqv221, zqv220, zqv264, zqv173], [], [zqa60, zqa37, zqa38, zqa39, zqa40, zqa41, zqa42], [], [], [])), [(2, 0, 7), (0, 9, 11), (2, 0, 0)])
def zpA634h4 : Nat × zTm × zRk := (113, ([(0, 6, 0, 0)], ([zqv170, zqv210, zqv154, zqv261, zqv221, zqv219, zqv221, zqv219, zqv266, zqv174], [], [zqa60, zqa37, zqa38, zqa39, zqa40, zqa41, zqa42], [], [], [])), [(2, 0, 9), (0, 9, 12), (2, 0, 0)])
def zpA634h5 : Nat × zTm × zRk := (113, ([(0, 6, 0, 0)], ([zqv170, zqv210, zqv154, zqv261, zqv221, zqv218, zqv221, zqv218, zqv267, zqv175], [], [zqa60, zqa37, zqa38, zqa39, zqa40, zqa41, zqa42], [], [], [])), [(2, 0, 11), (0, 9, 13), (2, 0, 0)])
def zpA634h6 : Nat × zTm × zRk := (113, ([(0, 6, 0, 0)], ([zqv170, zqv210, zqv154, zqv261, zqv221, zqv216, zqv221, zqv216, zqv268, zqv177], [], [zqa60, zqa37, zqa38, zqa39, zqa40, zqa41, zqa42], [], [], [])), [(2, 0, 13), (0, 9, 15), (2, 0, 0)])
def zpA634h7 : Nat × zTm × zRk := (113, ([(0, 6, 0, 0)], ([zqv170, zqv210, zqv154, zqv261, zqv221, zqv215, zqv221, zqv215, zqv269, zqv177], [], [zqa60, zqa37, zqa38, zqa39, zqa40, zqa41, zqa42], [], [], [])), [(2, 0, 15), (0, 9, 15), (2, 0, 0)])
def zpA634h8 : Nat × zTm × zRk := (113, ([(0, 6, 0, 0)], ([zqv170, zqv210, zqv154, zqv261, zqv221, zqv214, zqv221, zqv214, zqv270, zqv181], [], [zqa60, zqa37, zqa38, zqa39, zqa40, zqa41, zqa42], [], [], [])), [(2, 0, 17), (0, 9, 19), (2, 0, 0)])
def zpA634h9 : Nat × zTm × zRk := (113, ([(0, 6, 0, 0)], ([zqv170, zqv210, zqv154, zqv261, zqv221, zqv213, zqv221, zqv213, zqv271, zqv181], [], [zqa60, zqa37, zqa38, zqa39, zqa40, zqa41, zqa42], [], [], [])), [(2, 0, 19), (0, 9, 19), (2, 0, 0)])
def zpA634h10 : Nat × zTm × zRk := (113, ([(0, 6, 0, 0)], ([zqv170, zqv210, zqv154, zqv261, zqv221, zqv212, zqv221, zqv212, zqv272, zqv181], [], [zqa60, zqa37, zqa38, zqa39, zqa40, zqa41, zqa42], [], [], [])), [(2, 0, 21), (0, 9, 19), (2, 0, 0)])
def zpA634h11 : Nat × zTm × zRk := (113, ([(0, 6, 0, 0)], ([zqv170, zqv210, zqv154, zqv261, zqv221, zqv211, zqv221, zqv211, zqv273, zqv181], [], [zqa60, zqa37, zqa38, zqa39, zqa40, zqa41, zqa42], [], [], [])), [(2, 0, 23), (0, 9, 19), (2, 0, 0)])
def zpA634h12 : Nat × zTm × zRk := (113, ([(0, 6, 0, 0)], ([zqv170, zqv210, zqv154, zqv261, zqv221, zqv230, zqv221, zqv230, zqv276, zqv182], [], [zqa60, zqa37, zqa38, zqa39, zqa40, zqa41, zqa42], [], [], [])), [(2, 0, 25), (0, 9, 2), (2, 0, 0)])
def zpA634h13 : Nat × zTm × zRk := (113, ([(0, 6, 0, 0)], ([zqv170, zqv210, zqv154, zqv261, zqv221, zqv210, zqv221, zqv210, zqv282, zqv183], [], [zqa60, zqa37, zqa38, zqa39, zqa40, zqa41, zqa42], [], [], [])), [(2, 0, 27), (0, 9, 20), (2, 0, 0)])
def zpA634h14 : Nat × zTm × zRk := (113, ([(0, 6, 0, 0)], ([zqv170, zqv210, zqv154, zqv261, zqv221, zqv208, zqv221, zqv208, zqv283, zqv190], [], [zqa60, zqa37, zqa38, zqa39, zqa40, zqa41, zqa42], [], [], [])), [(2, 0, 29), (0, 9, 23), (2, 0, 0)])
def zpA634h15 : Nat × zTm × zRk := (113, ([(0, 6, 0, 0)], ([zqv170, zqv210, zqv154, zqv261, zqv221, zqv207, zqv221, zqv207, zqv284, zqv190], [], [zqa60, zqa37, zqa38, zqa39, zqa40, zqa41, zqa42], [], [], [])), [(2, 0, 31), (0, 9, 23), (2, 0, 0)])
def zpA634h16 : Nat × zTm × zRk := (113, ([(0, 6, 0, 0)], ([zqv170, zqv210, zqv154, zqv261, zqv221, zqv206, zqv221, zqv206, zqv285, zqv190], [], [zqa60, zqa37, zqa38, zqa39, zqa40, zqa41, zqa42], [], [], [])), [(2, 0, 33), (0, 9, 23), (2, 0, 0)])
def zpA634h17 : Nat × zTm × zRk := (113, ([(0, 6, 0, 0)], ([zqv170, zqv210, zqv154, zqv261, zqv221, zqv205, zqv221, zqv205, zqv286, zqv191], [], [zqa60, zqa37, zqa38, zqa39, zqa40, zqa41, zqa42], [], [], [])), [(2, 0, 35), (0, 9, 24), (2, 0, 0)])
def zpA634h18 : Nat × zTm × zRk := (113, ([(0, 6, 0, 0)], ([zqv170, zqv210, zqv154, zqv261, zqv221, zqv204, zqv221, zqv204, zqv287, zqv197], [], [zqa60, zqa37, zqa38, zqa39, zqa40, zqa41, zqa42], [], [], [])), [(2, 0, 37), (0, 9, 29), (2, 0, 0)])
def zpA634h19 : Nat × zTm × zRk := (113, ([(0, 6, 0, 0)], ([zqv170, zqv210, zqv154, zqv261, zqv221, zqv203, zqv221, zqv203, zqv288, zqv197], [], [zqa60, zqa37, zqa38, zqa39, zqa40, zqa41, zqa42], [], [], [])), [(2, 0, 39), (0, 9, 29), (2, 0, 0)])
def zpA634h20 : Nat × zTm × zRk := (113, ([(0, 6, 0, 0)], ([zqv170, zqv210, zqv154, zqv261, zqv221, zqv202, zqv221, zqv202, zqv289, zqv197], [], [zqa60, zqa37, zqa38, zqa39, zqa40, zqa41, zqa42], [], [], [])), [(2, 0, 41), (0, 9, 29), (2, 0, 0)])
def zpA634h21 : Nat × zTm × zRk := (113, ([(0, 6, 0, 0)], ([zqv170, zqv210, zqv154, zqv261, zqv221, zqv201, zqv221, zqv201, zqv290, zqv197], [], [zqa60, zqa37, zqa38, zqa39, zqa40, zqa41, zqa42], [], [], [])), [(2, 0, 43), (0, 9, 29), (2, 0, 0)])
def zpA634h22 : Nat × zTm × zRk := (113, ([(0, 6, 0, 0)], ([zqv170, zqv210, zqv154, zqv261, zqv221, zqv200, zqv221, zqv200, zqv291, zqv197], [], [zqa60, zqa37, zqa38, zqa39, zqa40, zqa41, zqa42], [], [], [])), [(2, 0, 45), (0, 9, 29), (2, 0, 0)])
def zpA634h23 : Nat × zTm × zRk := (113, ([(0, 6, 0, 0)], ([zqv170, zqv210, zqv154, zqv261, zqv221, zqv229, zqv221, zqv229, zqv294, zqv198], [], [zqa60, zqa37, zqa38, zqa39, zqa40, zqa41, zqa42], [], [], [])), [(2, 0, 47), (0, 9, 3), (2, 0, 0)])
def zpA634h24 : Nat × zTm × zRk := (113, ([(0, 6, 0, 0)], ([zqv170, zqv210, zqv154, zqv261, zqv221, zqv199, zqv221, zqv199, zqv299, zqv199], [], [zqa60, zqa37, zqa38, zqa39, zqa40, zqa41, zqa42], [], [], [])), [(2, 0, 49), (0, 9, 30), (2, 0, 0)])
def zpA634h25 : Nat × zTm × zRk := (113, ([(0, 6, 0, 0)], ([zqv170, zqv210, zqv154, zqv261, zqv221, zqv197, zqv221, zqv197, zqv300, zqv200], [], [zqa60, zqa37, zqa38, zqa39, zqa40, zqa41, zqa42], [], [], [])), [(2, 0, 51), (0, 9, 31), (2, 0, 0)])
def zpA634h26 : Nat × zTm × zRk := (113, ([(0, 6, 0, 0)], ([zqv170, zqv210, zqv154, zqv261, zqv221, zqv196, zqv221, zqv196, zqv301, zqv201], [], [zqa60, zqa37, zqa38, zqa39, zqa40, zqa41, zqa42], [], [], [])), [(2, 0, 53), (0, 9, 32), (2, 0, 0)])
def zpA634h27 : Nat × zTm × zRk := (113, ([(0, 6, 0, 0)], ([zqv170, zqv210, zqv154, zqv261, zqv221, zqv195, zqv221, zqv195, zqv303, zqv207], [], [zqa60, zqa37, zqa38, zqa39, zqa40, zqa41, zqa42], [], [], [])), [(2, 0, 55), (0, 9, 38), (2, 0, 0)])
def zpA634h28 : Nat × zTm × zRk := (113, ([(0, 6, 0, 0)], ([zqv170, zqv210, zqv154, zqv261, zqv221, zqv194, zqv221, zqv194, zqv304, zqv207], [], [zqa60, zqa37, zqa38, zqa39, zqa40, zqa41, zqa42], [], [], [])), [(2, 0, 57), (0, 9, 38), (2, 0, 0)])
def zpA634h29 : Nat × zTm × zRk := (113, ([(0, 6, 0, 0)], ([zqv170, zqv210, zqv154, zqv261, zqv221, zqv192, zqv221, zqv192, zqv305, zqv207], [], [zqa60, zqa37, zqa38, zqa39, zqa40, zqa41, zqa42], [], [], [])), [(2, 0, 59), (0, 9, 38), (2, 0, 0)])
def zpA634h30 : Nat × zTm × zRk := (113, ([(0, 6, 0, 0)], ([zqv170, zqv210, zqv154, zqv261, zqv221, zqv191, zqv221, zqv191, zqv306, zqv207], [], [zqa60, zqa37, zqa38, zqa39, zqa40, zqa41, zqa42], [], [], [])), [(2, 0, 61), (0, 9, 38), (2, 0, 0)])
def zpA634h31 : Nat × zTm × zRk := (113, ([(0, 6, 0, 0)], ([zqv170, zqv210, zqv154, zqv261, zqv221, zqv190, zqv221, zqv190, zqv308, zqv207], [], [zqa60, zqa37, zqa38, zqa39, zqa40, zqa41, zqa42], [], [], [])), [(2, 0, 63), (0, 9, 38), (2, 0, 0)])
def zpA634h32 : Nat × zTm × zRk := (113, ([(0, 6, 0, 0)], ([zqv170, zqv210, zqv154, zqv261, zqv221, zqv189, zqv221, zqv189, zqv309, zqv207], [], [zqa60, zqa37, zqa38, zqa39, zqa40, zqa41, zqa42], [], [], [])), [(2, 0, 65), (0, 9, 38), (2, 0, 0)])
def zpA634h33 : Nat × zTm × zRk := (113, ([(0, 6, 0, 0)], ([zqv170, zqv210, zqv154, zqv261, zqv221, zqv185, zqv221, zqv185, zqv310, zqv208], [], [zqa60, zqa37, zqa38, zqa39, zqa40, zqa41, zqa42], [], [], [])), [(2, 0, 67), (0, 9, 39), (2, 0, 0)])
def zpA634h34 : Nat × zTm × zRk := (113, ([(0, 6, 0, 0)], ([zqv170, zqv210, zqv154, zqv261, zqv221, zqv228, zqv221, zqv228, zqv315, zqv209], [], [zqa60, zqa37, zqa38, zqa39, zqa40, zqa41, zqa42], [], [], [])), [(2, 0, 69), (0, 9, 4), (2, 0, 0)])
def zpA634h35 : Nat × zTm × zRk := (113, ([(0, 6, 0, 0)], ([zqv170, zqv210, zqv154, zqv261, zqv221, zqv183, zqv221, zqv183, zqv318, zqv210], [], [zqa60, zqa37, zqa38, zqa39, zqa40, zqa41, zqa42], [], [], [])), [(2, 0, 71), (0, 9, 40), (2, 0, 0)])
def zpA634h36 : Nat × zTm × zRk := (113, ([(0, 6, 0, 0)], ([zqv170, zqv210, zqv154, zqv261, zqv221, zqv181, zqv221, zqv181, zqv319, zqv211], [], [zqa60, zqa37, zqa38, zqa39, zqa40, zqa41, zqa42], [], [], [])), [(2, 0, 73), (0, 9, 41), (2, 0, 0)])
def zpA634h37 : Nat × zTm × zRk := (113, ([(0, 6, 0, 0)], ([zqv170, zqv210, zqv154, zqv261, zqv221, zqv180, zqv221, zqv180, zqv320, zqv224], [], [zqa60, zqa37, zqa38, zqa39, zqa40, zqa41, zqa42], [], [], [])), [(2, 0, 75), (0, 9, 52), (2, 0, 0)])
def zpA634h38 : Nat × zTm × zRk := (113, ([(0, 6, 0, 0)], ([zqv170, zqv210, zqv154, zqv261, zqv221, zqv179, zqv221, zqv179, zqv321, zqv224], [], [zqa60, zqa37, zqa38, zqa39, zqa40, zqa41, zqa42], [], [], [])), [(2, 0, 77), (0, 9, 52), (2, 0, 0)])
def zpA634h39 : Nat × zTm × zRk := (113, ([(0, 6, 0, 0)], ([zqv170, zqv210, zqv154, zqv261, zqv221, zqv178, zqv221, zqv178, zqv322, zqv224], [], [zqa60, zqa37, zqa38, zqa39, zqa40, zqa41, zqa42], [], [], [])), [(2, 0, 79), (0, 9, 52), (2, 0, 0)])
def zpA634h40 : Nat × zTm × zRk := (113, ([(0, 6, 0, 0)], ([zqv170, zqv210, zqv154, zqv261, zqv221, zqv177, zqv221, zqv177, zqv325, zqv224], [], [zqa60, zqa37, zqa38, zqa39, zqa40, zqa41, zqa42], [], [], [])), [(2, 0, 81), (0, 9, 52), (2, 0, 0)])
def zpA634h41 : Nat × zTm × zRk := (113, ([(0, 6, 0, 0)], ([zqv170, zqv210, zqv154, zqv261, zqv221, zqv176, zqv221, zqv176, zqv326, zqv224], [], [zqa60, zqa37, zqa38, zqa39, zqa40, zqa41, zqa42], [], [], [])), [(2, 0, 83), (0, 9, 52), (2, 0, 0)])
def zpA634h42 : Nat × zTm × zRk := (113, ([(0, 6, 0, 0)], ([zqv170, zqv210, zqv154, zqv261, zqv221, zqv175, zqv221, zqv175, zqv327, zqv224], [], [zqa60, zqa37, zqa38, zqa39, zqa40, zqa41, zqa42], [], [], [])), [(2, 0, 85), (0, 9, 52), (2, 0, 0)])
def zpA634h43 : Nat × zTm × zRk := (113, ([(0, 6, 0, 0)], ([zqv170, zqv210, zqv154, zqv261, zqv221, zqv174, zqv221, zqv174, zqv328, zqv224], [], [zqa60, zqa37, zqa38, zqa39, zqa40, zqa41, zqa42], [], [], [])), [(2, 0, 87), (0, 9, 52), (2, 0, 0)])
def zpA634h44 : Nat × zTm × zRk := (113, ([(0, 6, 0, 0)], ([zqv170, zqv210, zqv154, zqv261, zqv221, zqv173, zqv221, zqv173, zqv329, zqv224], [], [zqa60, zqa37, zqa38, zqa39, zqa40, zqa41, zqa42], [], [], [])), [(2, 0, 89), (0, 9, 52), (2, 0, 0)])
def zpA634h45 : Nat × zTm × zRk := (113, ([(0, 6, 0, 0)], ([zqv170, zqv210, zqv154, zqv261, zqv221, zqv227, zqv221, zqv227, zqv335, zqv221], [], [zqa60, zqa37, zqa38, zqa39, zqa40, zqa41, zqa42], [], [], [])), [(2, 0, 91), (0, 9, 5), (2, 0, 0)])
def zpA634h46 : Nat × zTm × zRk := (113, ([(0, 6, 0, 0)], ([zqv170, zqv210, zqv154, zqv261, zqv221, zqv172, zqv221, zqv172, zqv339, zqv224], [], [zqa60, zqa37, zqa38, zqa39, zqa40, zqa41, zqa42], [], [], [])), [(2, 0, 93), (0, 9, 52), (2, 0, 0)])
def zpA634h47 : Nat × zTm × zRk := (113, ([(0, 6, 0, 0)], ([zqv170, zqv210, zqv154, zqv261, zqv221, zqv239, zqv221, zqv239, zqv341, zqv224], [], [zqa60, zqa37, zqa38, zqa39, zqa40, zqa41, zqa42], [], [], [])), [(2, 0, 95), (0, 9, 52), (2, 0, 0)])
def zpA634h48 : Nat × zTm × zRk := (113, ([(0, 6, 0, 0)], ([zqv170, zqv210, zqv154, zqv261, zqv221, zqv238, zqv221, zqv238, zqv342, zqv224], [], [zqa60, zqa37, zqa38, zqa39, zqa40, zqa41, zqa42], [], [], [])), [(2, 0, 97), (0, 9, 52), (2, 0, 0)])
def zpA634h49 : Nat × zTm × zRk := (113, ([(0, 6, 0, 0)], ([zqv170, zqv210, zqv154, zqv261, zqv221, zqv235, zqv221, zqv235, zqv343, zqv225], [], [zqa60, zqa37, zqa38, zqa39, zqa40, zqa41, zqa42], [], [], [])), [(2, 0, 99), (0, 9, 53), (2, 0, 0)])
def zpA634h50 : Nat × zTm × zRk := (113, ([(0, 6, 0, 0)], ([zqv170, zqv210, zqv154, zqv261, zqv221, zqv232, zqv221, zqv232, zqv344, zqv230], [], [zqa60, zqa37, zqa38, zqa39, zqa40, zqa41, zqa42], [], [], [])), [(2, 0, 101), (0, 9, 58), (2, 0, 0)])
def zpA634h51 : Nat × zTm × zRk := (113, ([(0, 6, 0, 0)], ([zqv170, zqv210, zqv154, zqv261, zqv221, zqv221, zqv221, zqv221, zqv345, zqv230], [], [zqa60, zqa37, zqa38, zqa39, zqa40, zqa41, zqa42], [], [], [])), [(2, 0, 103), (0, 9, 58), (2, 0, 0)])
def zpA634h52 : Nat × zTm × zRk := (113, ([(0, 6, 0, 0)], ([zqv170, zqv210, zqv154, zqv261, zqv221, zqv209, zqv221, zqv209, zqv346, zqv230], [], [zqa60, zqa37, zqa38, zqa39, zqa40, zqa41, zqa42], [], [], [])), [(2, 0, 105), (0, 9, 58), (2, 0, 0)])
def zpA634h53 : Nat × zTm × zRk := (113, ([(0, 6, 0, 0)], ([zqv170, zqv210, zqv154, zqv261, zqv221, zqv198, zqv221, zqv198, zqv347, zqv230], [], [zqa60, zqa37, zqa38, zqa39, zqa40, zqa41, zqa42], [], [], [])), [(2, 0, 107), (0, 9, 58), (2, 0, 0)])
def zpA634h54 : Nat × zTm × zRk := (113, ([(0, 6, 0, 0)], ([zqv170, zqv210, zqv154, zqv261, zqv221, zqv182, zqv221, zqv182, zqv348, zqv230], [], [zqa60, zqa37, zqa38, zqa39, zqa40, zqa41, zqa42], [], [], [])), [(2, 0, 109), (0, 9, 58), (2, 0, 0)])
def zpA634h55 : Nat × zTm × zRk := (113, ([(0, 6, 0, 0)], ([zqv170, zqv210, zqv154, zqv261, zqv221, zqv171, zqv221, zqv171, zqv349, zqv231], [], [zqa60, zqa37, zqa38, zqa39, zqa40, zqa41, zqa42], [], [], [])), [(2, 0, 111), (0, 9, 59), (2, 0, 0)])
def zpA634h56 : Nat × zTm × zRk := (113, ([(0, 6, 0, 0)], ([zqv170, zqv210, zqv154, zqv261, zqv221, zqv226, zqv221, zqv226, zqv352, zqv232], [], [zqa60, zqa37, zqa38, zqa39, zqa40, zqa41, zqa42], [], [], [])), [(2, 0, 113), (0, 9, 6), (2, 0, 0)])
def zpA634h57 : Nat × zTm × zRk := (113, ([(0, 6, 0, 0)], ([zqv170, zqv210, zqv154, zqv261, zqv221, zqv170, zqv221, zqv170, zqv355, zqv233], [], [zqa60, zqa37, zqa38, zqa39, zqa40, zqa41, zqa42], [], [], [])), [(2, 0, 115), (0, 9, 60), (2, 0, 0)])
def zpA634h58 : Nat × zTm × zRk := (113, ([(0, 6, 0, 0)], ([zqv170, zqv210, zqv154, zqv261, zqv221, zqv225, zqv221, zqv225, zqv358, zqv235], [], [zqa60, zqa37, zqa38, zqa39, zqa40, zqa41, zqa42], [], [], [])), [(2, 0, 117), (0, 9, 7), (2, 0, 0)])
def zpA634h59 : Nat × zTm × zRk := (113, ([(0, 6, 0, 0)], ([zqv170, zqv210, zqv154, zqv261, zqv221, zqv224, zqv221, zqv224, zqv362, zqv238], [], [zqa60, zqa37, zqa38, zqa39, zqa40, zqa41, zqa42], [], [], [])), [(2, 0, 119), (0, 9, 8), (2, 0, 0)])
def zpA634h60 : Nat × zTm × zRk := (113, ([(0, 6, 0, 0)], ([zqv170, zqv210, zqv154, zqv261, zqv221, zqv223, zqv221, zqv223, zqv365, zqv239], [], [zqa60, zqa37, zqa38, zqa39, zqa40, zqa41, zqa42], [], [], [])), [(2, 0, 121), (0, 9, 9), (2, 0, 0)])
def zpA634h61 : Nat × zTm × zRk := (150, ([], ([zqv170, zqv210, zqv154, zqv261, zqv221, zqv233, zqv221, zqv233, zqv170], [], [zqa60, zqa37, zqa38, zqa39, zqa40, zqa41, zqa8], [], [], [])), [(2, 0, 0)])
def zpA634h62 : Nat × zTm × zRk := (150, ([(0, 6, 0, 0)], ([zqv170, zqv210, zqv154, zqv261, zqv221, zqv231, zqv221, zqv231, zqv243, zqv171], [], [zqa60, zqa37, zqa38, zqa39, zqa40, zqa41, zqa42], [], [], [])), [(2, 0, 2), (0, 9, 1), (2, 0, 0)])
def zpA634h63 : Nat × zTm × zRk := (150, ([(0, 6, 0, 0)], ([zqv170, zqv210, zqv154, zqv261, zqv221, zqv222, zqv221, zqv222, zqv260, zqv172], [], [zqa60, zqa37, zqa38, zqa39, zqa40, zqa41, zqa42], [], [], [])), [(2, 0, 4), (0, 9, 10), (2, 0, 0)])
def zpA634h64 : Nat × zTm × zRk := (150, ([(0, 6, 0, 0)], ([zqv170, zqv210, zqv154, zqv261, zqv221, zqv220, zqv221, zqv220, zqv264, zqv173], [], [zqa60, zqa37, zqa38, zqa39, zqa40, zqa41, zqa42], [], [], [])), [(2, 0, 6), (0, 9, 11), (2, 0, 0)])
def zpA634h65 : Nat × zTm × zRk := (150, ([(0, 6, 0, 0)], ([zqv170, zqv210, zqv154, zqv261, zqv221, zqv219, zqv221, zqv219, zqv266, zqv174], [], [zqa60, zqa37, zqa38, zqa39, zqa40, zqa41, zqa42], [], [], [])), [(2, 0, 8), (0, 9, 12), (2, 0, 0)])
def zpA634h66 : Nat × zTm × zRk := (150, ([(0, 6, 0, 0)], ([zqv170, zqv210, zqv154, zqv261, zqv221, zqv218, zqv221, zqv218, zqv267, zqv175], [], [zqa60, zqa37, zqa38, zqa39, zqa40, zqa41, zqa42], [], [], [])), [(2, 0, 10), (0, 9, 13), (2, 0, 0)])
def zpA634h67 : Nat × zTm × zRk := (150, ([(0, 6, 0, 0)], ([zqv170, zqv210, zqv154, zqv261, zqv221, zqv216, zqv221, zqv216, zqv268, zqv177], [], [zqa60, zqa37, zqa38, zqa39, zqa40, zqa41, zqa42], [], [], [])), [(2, 0, 12), (0, 9, 15), (2, 0, 0)])
def zpA634h68 : Nat × zTm × zRk := (150, ([(0, 6, 0, 0)], ([zqv170, zqv210, zqv154, zqv261, zqv221, zqv215, zqv221, zqv215, zqv269, zqv177], [], [zqa60, zqa37, zqa38, zqa39, zqa40, zqa41, zqa42], [], [], [])), [(2, 0, 14), (0, 9, 15), (2, 0, 0)])
def zpA634h69 : Nat × zTm × zRk := (150, ([(0, 6, 0, 0)], ([zqv170, zqv210, zqv154, zqv261, zqv221, zqv214, zqv221, zqv214, zqv270, zqv181], [], [zqa60, zqa37, zqa38, zqa39, zqa40, zqa41, zqa42], [], [], [])), [(2, 0, 16), (0, 9, 19), (2, 0, 0)])
def zpA634h70 : Nat × zTm × zRk := (150, ([(0, 6, 0, 0)], ([zqv170, zqv210, zqv154, zqv261, zqv221, zqv213, zqv221, zqv213, zqv271, zqv181], [], [zqa60, zqa37, zqa38, zqa39, zqa40, zqa41, zqa42], [], [], [])), [(2, 0, 18), (0, 9, 19), (2, 0, 0)])
def zpA634h71 : Nat × zTm × zRk := (150, ([(0, 6, 0, 0)], ([zqv170, zqv210, zqv154, zqv261, zqv221, zqv212, zqv221, zqv212, zqv272, zqv181], [], [zqa60, zqa37, zqa38, zqa39, zqa40, zqa41, zqa42], [], [], [])), [(2, 0, 20), (0, 9, 19), (2, 0, 0)])
def zpA634h72 : Nat × zTm × zRk := (150, ([(0, 6, 0, 0)], ([zqv170, zqv210, zqv154, zqv261, zqv221, zqv211, zqv221, zqv211, zqv273, zqv181], [], [zqa60, zqa37, zqa38, zqa39, zqa40, zqa41, zqa42], [], [], [])), [(2, 0, 22), (0, 9, 19), (2, 0, 0)])
def zpA634h73 : Nat × zTm × zRk := (150, ([(0, 6, 0, 0)], ([zqv170, zqv210, zqv154, zqv261, zqv221, zqv230, zqv221, zqv230, zqv276, zqv182], [], [zqa60, zqa37, zqa38, zqa39, zqa40, zqa41, zqa42], [], [], [])), [(2, 0, 24), (0, 9, 2), (2, 0, 0)])
def zpA634h74 : Nat × zTm × zRk := (150, ([(0, 6, 0, 0)], ([zqv170, zqv210, zqv154, zqv261, zqv221, zqv210, zqv221, zqv210, zqv282, zqv183], [], [zqa60, zqa37, zqa38, zqa39, zqa40, zqa41, zqa42], [], [], [])), [(2, 0, 26), (0, 9, 20), (2, 0, 0)])
def zpA634h75 : Nat × zTm × zRk := (150, ([(0, 6, 0, 0)], ([zqv170, zqv210, zqv154, zqv261, zqv221, zqv208, zqv221, zqv208, zqv283, zqv190], [], [zqa60, zqa37, zqa38, zqa39, zqa40, zqa41, zqa42], [], [], [])), [(2, 0, 28), (0, 9, 23), (2, 0, 0)])
def zpA634h76 : Nat × zTm × zRk := (150, ([(0, 6, 0, 0)], ([zqv170, zqv210, zqv154, zqv261, zqv221, zqv207, zqv221, zqv207, zqv284, zqv190], [], [zqa60, zqa37, zqa38, zqa39, zqa40, zqa41, zqa42], [], [], [])), [(2, 0, 30), (0, 9, 23), (2, 0, 0)])
def zpA634h77 : Nat × zTm × zRk := (150, ([(0, 6, 0, 0)], ([zqv170, zqv210, zqv154, zqv261, zqv221, zqv206, zqv221, zqv206, zqv285, zqv190], [], [zqa60, zqa37, zqa38, zqa39, zqa40, zqa41, zqa42], [], [], [])), [(2, 0, 32), (0, 9, 23), (2, 0, 0)])
def zpA634h78 : Nat × zTm × zRk := (150, ([(0, 6, 0, 0)], ([zqv170, zqv210, zqv154, zqv261, zqv221, zqv205, zqv221, zqv205, zqv286, zqv191], [], [zqa60, zqa37, zqa38, zqa39, zqa40, zqa41, zqa42], [], [], [])), [(2, 0, 34), (0, 9, 24), (2, 0, 0)])
def zpA634h79 : Nat × zTm × zRk := (150, ([(0, 6, 0, 0)], ([zqv170, zqv210, zqv154, zqv261, zqv221, zqv204, zqv221, zqv204, zqv287, zqv197], [], [zqa60, zqa37, zqa38, zqa39, zqa40, zqa41, zqa42], [], [], [])), [(2, 0, 36), (0, 9, 29), (2, 0, 0)])
def zpA634h80 : Nat × zTm × zRk := (150, ([(0, 6, 0, 0)], ([zqv170, zqv210, zqv154, zqv261, zqv221, zqv203, zqv221, zqv203, zqv288, zqv197], [], [zqa60, zqa37, zqa38, zqa39, zqa40, zqa41, zqa42], [], [], [])), [(2, 0, 38), (0, 9, 29), (2, 0, 0)])
def zpA634h81 : Nat × zTm × zRk := (150, ([(0, 6, 0, 0)], ([zqv170, zqv210, zqv154, zqv261, zqv221, zqv202, zqv221, zqv202, zqv289, zqv197], [], [zqa60, zqa37, zqa38, zqa39, zqa40, zqa41, zqa42], [], [], [])), [(2, 0, 40), (0, 9, 29), (2, 0, 0)])
def zpA634h82 : Nat × zTm × zRk := (150, ([(0, 6, 0, 0)], ([zqv170, zqv210, zqv154, zqv261, zqv221, zqv201, zqv221, zqv201, zqv290, zqv197], [], [zqa60, zqa37, zqa38, zqa39, zqa40, zqa41, zqa42], [], [], [])), [(2, 0, 42), (0, 9, 29), (2, 0, 0)])
def zpA634h83 : Nat × zTm × zRk := (150, ([(0, 6, 0, 0)], ([zqv170, zqv210, zqv154, zqv261, zqv221, zqv200, zqv221, zqv200, zqv291, zqv197], [], [zqa60, zqa37, zqa38, zqa39, zqa40, zqa41, zqa42], [], [], [])), [(2, 0, 44), (0, 9, 29), (2, 0, 0)])
def zpA634h84 : Nat × zTm × zRk := (150, ([(0, 6, 0, 0)], ([zqv170, zqv210, zqv154, zqv261, zqv221, zqv229, zqv221, zqv229, zqv294, zqv198], [], [zqa60, zqa37, zqa38, zqa39, zqa40, zqa41, zqa42], [], [], [])), [(2, 0, 46), (0, 9, 3), (2, 0, 0)])
def zpA634h85 : Nat × zTm × zRk := (150, ([(0, 6, 0, 0)], ([zqv170, zqv210, zqv154, zqv261, zqv221, zqv199, zqv221, zqv199, zqv299, zqv199], [], [zqa60, zqa37, zqa38, zqa39, zqa40, zqa41, zqa42], [], [], [])), [(2, 0, 48), (0, 9, 30), (2, 0, 0)])
def zpA634h86 : Nat × zTm × zRk := (150, ([(0, 6, 0, 0)], ([zqv170, zqv210, zqv154, zqv261, zqv221, zqv197, zqv221, zqv197, zqv300, zqv200], [], [zqa60, zqa37, zqa38, zqa39, zqa40, zqa41, zqa42], [], [], [])), [(2, 0, 50), (0, 9, 31), (2, 0, 0)])
def zpA634h87 : Nat × zTm × zRk := (150, ([(0, 6, 0, 0)], ([zqv170, zqv210, zqv154, zqv261, zqv221, zqv196, zqv221, zqv196, zqv301, zqv201], [], [zqa60, zqa37, zqa38, zqa39, zqa40, zqa41, zqa42], [], [], [])), [(2, 0, 52), (0, 9, 32), (2, 0, 0)])
def zpA634h88 : Nat × zTm × zRk := (150, ([(0, 6, 0, 0)], ([zqv170, zqv210, zqv154, zqv261, zqv221, zqv195, zqv221, zqv195, zqv303, zqv207], [], [zqa60, zqa37, zqa38, zqa39, zqa40, zqa41, zqa42], [], [], [])), [(2, 0, 54), (0, 9, 38), (2, 0, 0)])
def zpA634h89 : Nat × zTm × zRk := (150, ([(0, 6, 0, 0)], ([zqv170, zqv210, zqv154, zqv261, zqv221, zqv194, zqv221, zqv194, zqv304, zqv207], [], [zqa60, zqa37, zqa38, zqa39, zqa40, zqa41, zqa42], [], [], [])), [(2, 0, 56), (0, 9, 38), (2, 0, 0)])
def zpA634h90 : Nat × zTm × zRk := (150, ([(0, 6, 0, 0)], ([zqv170, zqv210, zqv154, zqv261, zqv221, zqv192, zqv221, zqv192, zqv305, zqv207], [], [zqa60, zqa37, zqa38, zqa39, zqa40, zqa41, zqa42], [], [], [])), [(2, 0, 58), (0, 9, 38), (2, 0, 0)])
def zpA634h91 : Nat × zTm × zRk := (150, ([(0, 6, 0, 0)], ([zqv170, zqv210, zqv154, zqv261, zqv221, zqv191, zqv221, zqv191, zqv306, zqv207], [], [zqa60, zqa37, zqa38, zqa39, zqa40, zqa41, zqa42], [], [], [])), [(2, 0, 60), (0, 9, 38), (2, 0, 0)])
def zpA634h92 : Nat × zTm × zRk := (150, ([(0, 6, 0, 0)], ([zqv170, zqv210, zqv154, zqv261, zqv221, zqv190, zqv221, zqv190, zqv308, zqv207], [], [zqa60, zqa37, zqa38, zqa39, zqa40, zqa41, zqa42], [], [], [])), [(2, 0, 62), (0, 9, 38), (2, 0, 0)])
def zpA634h93 : Nat × zTm × zRk := (150, ([(0, 6, 0, 0)], ([zqv170, zqv210, zqv154, zqv261, zqv221, zqv189, zqv221, zqv189, zqv309, zqv207], [], [zqa60, zqa37, zqa38, zqa39, zqa40, zqa41, zqa42], [], [], [])), [(2, 0, 64), (0, 9, 38), (2, 0, 0)])
def zpA634h94 : Nat × zTm × zRk := (150, ([(0, 6, 0, 0)], ([zqv170, zqv210, zqv154, zqv261, zqv221, zqv185, zqv221, zqv185, zqv310, zqv208], [], [zqa60, zqa37, zqa38, zqa39, zqa40, zqa41, zqa42], [], [], [])), [(2, 0, 66), (0, 9, 39), (2, 0, 0)])
def zpA634h95 : Nat × zTm × zRk := (150, ([(0, 6, 0, 0)], ([zqv170, zqv210, zqv154, zqv261, zqv221, zqv228, zqv221, zqv228, zqv315, zqv209], [], [zqa60, zqa37, zqa38, zqa39, zqa40, zqa41, zqa42], [], [], [])), [(2, 0, 68), (0, 9, 4), (2, 0, 0)])
def zpA634h96 : Nat × zTm × zRk := (150, ([(0, 6, 0, 0)], ([zqv170, zqv210, zqv154, zqv261, zqv221, zqv183, zqv221, zqv183, zqv318, zqv210], [], [zqa60, zqa37, zqa38, zqa39, zqa40, zqa41, zqa42], [], [], [])), [(2, 0, 70), (0, 9, 40), (2, 0, 0)])
def zpA634h97 : Nat × zTm × zRk := (150, ([(0, 6, 0, 0)], ([zqv170, zqv210, zqv154, zqv261, zqv221, zqv181, zqv221, zqv181, zqv319, zqv211], [], [zqa60, zqa37, zqa38, zqa39, zqa40, zqa41, zqa42], [], [], [])), [(2, 0, 72), (0, 9, 41), (2, 0, 0)])
def zpA634h98 : Nat × zTm × zRk := (150, ([(0, 6, 0, 0)], ([zqv170, zqv210, zqv154, zqv261, zqv221, zqv180, zqv221, zqv180, zqv320, zqv224], [], [zqa60, zqa37, zqa38, zqa39, zqa40, zqa41, zqa42], [], [], [])), [(2, 0, 74), (0, 9, 52), (2, 0, 0)])
def zpA634h99 : Nat × zTm × zRk := (150, ([(0, 6, 0, 0)], ([zqv170, zqv210, zqv154, zqv261, zqv221, zqv179, zqv221, zqv179, zqv321, zqv224], [], [zqa60, zqa37, zqa38, zqa39, zqa40, zqa41, zqa42], [], [], [])), [(2, 0, 76), (0, 9, 52), (2, 0, 0)])
def zpA634h100 : Nat × zTm × zRk := (150, ([(0, 6, 0, 0)], ([zqv170, zqv210, zqv154, zqv261, zqv221, zqv178, zqv221, zqv178, zqv322, zqv224], [], [zqa60, zqa37, zqa38, zqa39, zqa40, zqa41, zqa42], [], [], [])), [(2, 0, 78), (0, 9, 52), (2, 0, 0)])
def zpA634h101 : Nat × zTm × zRk := (150, ([(0, 6, 0, 0)], ([zqv170, zqv210, zqv154, zqv261, zqv221, zqv177, zqv221, zqv177, zqv325, zqv224], [], [zqa60, zqa37, zqa38, zqa39, zqa40, zqa41, zqa42], [], [], [])), [(2, 0, 80), (0, 9, 52), (2, 0, 0)])
def zpA634h102 : Nat × zTm × zRk := (150, ([(0, 6, 0, 0)], ([zqv170, zqv210, zqv154, zqv261, zqv221, zqv176, zqv221, zqv176, zqv326, zqv224], [], [zqa60, zqa37, zqa38, zqa39, zqa40, zqa41, zqa42], [], [], [])), [(2, 0, 82), (0, 9, 52), (2, 0, 0)])
def zpA634h103 : Nat × zTm × zRk := (150, ([(0, 6, 0, 0)], ([zqv170, zqv210, zqv154, zqv261, zqv221, zqv175, zqv221, zqv175, zqv327, zqv224], [], [zqa60, zqa37, zqa38, zqa39, zqa40, zqa41, zqa42], [], [], [])), [(2, 0, 84), (0, 9, 52), (2, 0, 0)])
def zpA634h104 : Nat × zTm × zRk := (150, ([(0, 6, 0, 0)], ([zqv170, zqv210, zqv154, zqv261, zqv221, zqv174, zqv221, zqv174, zqv328, zqv224], [], [zqa60, zqa37, zqa38, zqa39, zqa40, zqa41, zqa42], [], [], [])), [(2, 0, 86), (0, 9, 52), (2, 0, 0)])
def zpA634h105 : Nat × zTm × zRk := (150, ([(0, 6, 0, 0)], ([zqv170, zqv210, zqv154, zqv261, zqv221, zqv173, zqv221, zqv173, zqv329, zqv224], [], [zqa60, zqa37, zqa38, zqa39, zqa40, zqa41, zqa42], [], [], [])), [(2, 0, 88), (0, 9, 52), (2, 0, 0)])
def zpA634h106 : Nat × zTm × zRk := (150, ([(0, 6, 0, 0)], ([zqv170, zqv210, zqv154, zqv261, zqv221, zqv227, zqv221, zqv227, zqv335, zqv221], [], [zqa60, zqa37, zqa38, zqa39, zqa40, zqa41, zqa42], [], [], [])), [(2, 0, 90), (0, 9, 5), (2, 0, 0)])
def zpA634h107 : Nat × zTm × zRk := (150, ([(0, 6, 0, 0)], ([zqv170, zqv210, zqv154, zqv261, zqv221, zqv172, zqv221, zqv172, zqv339, zqv224], [], [zqa60, zqa37, zqa38, zqa39, zqa40, zqa41, zqa42], [], [], [])), [(2, 0, 92), (0, 9, 52), (2, 0, 0)])
def zpA634h108 : Nat × zTm × zRk := (150, ([(0, 6, 0, 0)], ([zqv170, zqv210, zqv154, zqv261, zqv221, zqv239, zqv221, zqv239, zqv341, zqv224], [], [zqa60, zqa37, zqa38, zqa39, zqa40, zqa41, zqa42], [], [], [])), [(2, 0, 94), (0, 9, 52), (2, 0, 0)])
def zpA634h109 : Nat × zTm × zRk := (150, ([(0, 6, 0, 0)], ([zqv170, zqv210, zqv154, zqv261, zqv221, zqv238, zqv221, zqv238, zqv342, zqv224], [], [zqa60, zqa37, zqa38, zqa39, zqa40, zqa41, zqa42], [], [], [])), [(2, 0, 96), (0, 9, 52), (2, 0, 0)])
def zpA634h110 : Nat × zTm × zRk := (150, ([(0, 6, 0, 0)], ([zqv170, zqv210, zqv154, zqv261, zqv221, zqv235, zqv221, zqv235, zqv343, zqv225], [], [zqa60, zqa37, zqa38, zqa39, zqa40, zqa41, zqa42], [], [], [])), [(2, 0, 98), (0, 9, 53), (2, 0, 0)])
def zpA634h111 : Nat × zTm × zRk := (150, ([(0, 6, 0, 0)], ([zqv170, zqv210, zqv154, zqv261, zqv221, zqv232, zqv221, zqv232, zqv344, zqv230], [], [zqa60, zqa37, zqa38, zqa39, zqa40, zqa41, zqa42], [], [], [])), [(2, 0, 100), (0, 9, 58), (2, 0, 0)])
def zpA634h112 : Nat × zTm × zRk := (150, ([(0, 6, 0, 0)], ([zqv170, zqv210, zqv154, zqv261, zqv221, zqv221, zqv221, zqv221, zqv345, zqv230], [], [zqa60, zqa37, zqa38, zqa39, zqa40, zqa41, zqa42], [], [], [])), [(2, 0, 102), (0, 9, 58), (2, 0, 0)])
def zpA634h113 : Nat × zTm × zRk := (150, ([(0, 6, 0, 0)], ([zqv170, zqv210, zqv154, zqv261, zqv221, zqv209, zqv221, zqv209, zqv346, zqv230], [], [zqa60, zqa37, zqa38, zqa39, zqa40, zqa41, zqa42], [], [], [])), [(2, 0, 104), (0, 9, 58), (2, 0, 0)])
def zpA634h114 : Nat × zTm × zRk := (150, ([(0, 6, 0, 0)], ([zqv170, zqv210, zqv154, zqv261, zqv221, zqv198, zqv221, zqv198, zqv347, zqv230], [], [zqa60, zqa37, zqa38, zqa39, zqa40, zqa41, zqa42], [], [], [])), [(2, 0, 106), (0, 9, 58), (2, 0, 0)])
def zpA634h115 : Nat × zTm × zRk := (150, ([(0, 6, 0, 0)], ([zqv170, zqv210, zqv154, zqv261, zqv221, zqv182, zqv221, zqv182, zqv348, zqv230], [], [zqa60, zqa37, zqa38, zqa39, zqa40, zqa41, zqa42], [], [], [])), [(2, 0, 108), (0, 9, 58), (2, 0, 0)])
def zpA634h116 : Nat × zTm × zRk := (150, ([(0, 6, 0, 0)], ([zqv170, zqv210, zqv154, zqv261, zqv221, zqv171, zqv221, zqv171, zqv349, zqv231], [], [zqa60, zqa37, zqa38, zqa39, zqa40, zqa41, zqa42], [], [], [])), [(2, 0, 110), (0, 9, 59), (2, 0, 0)])
def zpA634h117 : Nat × zTm × zRk := (150, ([(0, 6, 0, 0)], ([zqv170, zqv210, zqv154, zqv261, zqv221, zqv226, zqv221, zqv226, zqv352, zqv232], [], [zqa60, zqa37, zqa38, zqa39, zqa40, zqa41, zqa42], [], [], [])), [(2, 0, 112), (0, 9, 6), (2, 0, 0)])
def zpA634h118 : Nat × zTm × zRk := (150, ([(0, 6, 0, 0)], ([zqv170, zqv210, zqv154, zqv261, zqv221, zqv170, zqv221, zqv170, zqv355, zqv233], [], [zqa60, zqa37, zqa38, zqa39, zqa40, zqa41, zqa42], [], [], [])), [(2, 0, 114), (0, 9, 60), (2, 0, 0)])
def zpA634h119 : Nat × zTm × zRk := (150, ([(0, 6, 0, 0)], ([zqv170, zqv210, zqv154, zqv261, zqv221, zqv225, zqv221, zqv225, zqv358, zqv235], [], [zqa60, zqa37, zqa38, zqa39, zqa40, zqa41, zqa42], [], [], [])), [(2, 0, 116), (0, 9, 7), (2, 0, 0)])
def zpA634h120 : Nat × zTm × zRk := (150, ([(0, 6, 0, 0)], ([zqv170, zqv210, zqv154, zqv261, zqv221, zqv224, zqv221, zqv224, zqv362, zqv238], [], [zqa60, zqa37, zqa38, zqa39, zqa40, zqa41, zqa42], [], [], [])), [(2, 0, 118), (0, 9, 8), (2, 0, 0)])
def zpA634h121 : Nat × zTm × zRk := (150, ([(0, 6, 0, 0)], ([zqv170, zqv210, zqv154, zqv261, zqv221, zqv223, zqv221, zqv223, zqv365, zqv239], [], [zqa60, zqa37, zqa38, zqa39, zqa40, zqa41, zqa42], [], [], [])), [(2, 0, 120), (0, 9, 9), (2, 0, 0)])
def zpA634h122 : Nat × zTm × zRk := (71, ([], ([zqv170, zqv210, zqv154, zqv261, zqv221, zqv166, zqv221, zqv166, [(61, 2147483647)]], [], [zqa60, zqa37, zqa38, zqa39, zqa40, zqa41, zqa0], [], [], [])), [(2, 0, 122)])
def zpA634h123 : Nat × zTm × zRk := (71, ([], ([zqv170, zqv210, zqv154, zqv261, zqv221, zqv166, zqv221, zqv166, zqv170], [], [zqa60, zqa37, zqa38, zqa39, zqa40, zqa41, zqa0], [], [], [])), [(2, 0, 123)])
def zpA634h124 : Nat × zTm × zRk := (71, ([], ([zqv170, zqv210, zqv154, zqv261, zqv221, zqv166, zqv221, zqv166, zqv243], [], [zqa60, zqa37, zqa38, zqa39, zqa40, zqa41, zqa0], [], [], [])), [(2, 0, 124)])
def zpA634h125 : Nat × zTm × zRk := (71, ([], ([zqv170, zqv210, zqv154, zqv261, zqv221, zqv166, zqv221, zqv166, zqv260], [], [zqa60, zqa37, zqa38, zqa39, zqa40, zqa41, zqa0], [], [], [])), [(2, 0, 125)])
def zpA634h126 : Nat × zTm × zRk := (71, ([], ([zqv170, zqv210, zqv154, zqv261, zqv221, zqv166, zqv221, zqv166, zqv264], [], [zqa60, zqa37, zqa38, zqa39, zqa40, zqa41, zqa0], [], [], [])), [(2, 0, 126)])
def zpA634h127 : Nat × zTm × zRk := (71, ([], ([zqv170, zqv210, zqv154, zqv261, zqv221, zqv166, zqv221, zqv166, zqv266], [], [zqa60, zqa37, zqa38, zqa39, zqa40, zqa41, zqa0], [], [], [])), [(2, 0, 127)])
def zpA634h128 : Nat × zTm × zRk := (71, ([], ([zqv170, zqv210, zqv154, zqv261, zqv221, zqv166, zqv221, zqv166, zqv267], [], [zqa60, zqa37, zqa38, zqa39, zqa40, zqa41, zqa0], [], [], [])), [(2, 0, 128)])
def zpA634h129 : Nat × zTm × zRk := (71, ([], ([zqv170, zqv210, zqv154, zqv261, zqv221, zqv166, zqv221, zqv166, zqv268], [], [zqa60, zqa37, zqa38, zqa39, zqa40, zqa41, zqa0], [], [], [])), [(2, 0, 129)])
def zpA634h130 : Nat × zTm × zRk := (71, ([], ([zqv170, zqv210, zqv154, zqv261, zqv221, zqv166, zqv221, zqv166, zqv269], [], [zqa60, zqa37, zqa38, zqa39, zqa40, zqa41, zqa0], [], [], [])), [(2, 0, 130)])
def zpA634h131 : Nat × zTm × zRk := (71, ([], ([zqv170, zqv210, zqv154, zqv261, zqv221, zqv166, zqv221, zqv166, zqv270], [], [zqa60, zqa37, zqa38, zqa39, zqa40, zqa41, zqa0], [], [], [])), [(2, 0, 131)])
def zpA634h132 : Nat × zTm × zRk := (71, ([], ([zqv170, zqv210, zqv154, zqv261, zqv221, zqv166, zqv221, zqv166, zqv271], [], [zqa60, zqa37, zqa38, zqa39, zqa40, zqa41, zqa0], [], [], [])), [(2, 0, 132)])
def zpA634h133 : Nat × zTm × zRk := (71, ([], ([zqv170, zqv210, zqv154, zqv261, zqv221, zqv166, zqv221, zqv166, zqv272], [], [zqa60, zqa37, zqa38, zqa39, zqa40, zqa41, zqa0], [], [], [])), [(2, 0, 133)])
def zpA634h134 : Nat × zTm × zRk := (71, ([], ([zqv170, zqv210, zqv154, zqv261, zqv221, zqv166, zqv221, zqv166, zqv273], [], [zqa60, zqa37, zqa38, zqa39, zqa40, zqa41, zqa0], [], [], [])), [(2, 0, 134)])
def zpA634h135 : Nat × zTm × zRk := (71, ([], ([zqv170, zqv210, zqv154, zqv261, zqv221, zqv166, zqv221, zqv166, zqv276], [], [zqa60, zqa37, zqa38, zqa39, zqa40, zqa41, zqa0], [], [], [])), [(2, 0, 135)])
def zpA634h136 : Nat × zTm × zRk := (71, ([], ([zqv170, zqv210, zqv154, zqv261, zqv221, zqv166, zqv221, zqv166, zqv282], [], [zqa60, zqa37, zqa38, zqa39, zqa40, zqa41, zqa0], [], [], [])), [(2, 0, 136)])
def zpA634h137 : Nat × zTm × zRk := (71, ([], ([zqv170, zqv210, zqv154, zqv261, zqv221, zqv166, zqv221, zqv166, zqv283], [], [zqa60, zqa37, zqa38, zqa39, zqa40, zqa41, zqa0], [], [], [])), [(2, 0, 137)])
def zpA634h138 : Nat × zTm × zRk := (71, ([], ([zqv170, zqv210, zqv154, zqv261, zqv221, zqv166, zqv221, zqv166, zqv284], [], [zqa60, zqa37, zqa38, zqa39, zqa40, zqa41, zqa0], [], [], [])), [(2, 0, 138)])
def zpA634h139 : Nat × zTm × zRk := (71, ([], ([zqv170, zqv210, zqv154, zqv261, zqv221, zqv166, zqv221, zqv166, zqv285], [], [zqa60, zqa37, zqa38, zqa39, zqa40, zqa41, zqa0], [], [], [])), [(2, 0, 139)])
def zpA634h140 : Nat × zTm × zRk := (71, ([], ([zqv170, zqv210, zqv154, zqv261, zqv221, zqv166, zqv221, zqv166, zqv286], [], [zqa60, zqa37, zqa38, zqa39, zqa40, zqa41, zqa0], [], [], [])), [(2, 0, 140)])
def zpA634h141 : Nat × zTm × zRk := (71, ([], ([zqv170, zqv210, zqv154, zqv261, zqv221, zqv166, zqv221, zqv166, zqv287], [], [zqa60, zqa37, zqa38, zqa39, zqa40, zqa41, zqa0], [], [], [])), [(2, 0, 141)])
def zpA634h142 : Nat × zTm × zRk := (71, ([], ([zqv170, zqv210, zqv154, zqv261, zqv221, zqv166, zqv221, zqv166, zqv288], [], [zqa60, zqa37, zqa38, zqa39, zqa40, zqa41, zqa0], [], [], [])), [(2, 0, 142)])
def zpA634h143 : Nat × zTm × zRk := (71, ([], ([zqv170, zqv210, zqv154, zqv261, zqv221, zqv166, zqv221, zqv166, zqv289], [], [zqa60, zqa37, zqa38, zqa39, zqa40, zqa41, zqa0], [], [], [])), [(2, 0, 143)])
def zpA634h144 : Nat × zTm × zRk := (71, ([], ([zqv170, zqv210, zqv154, zqv261, zqv221, zqv166, zqv221, zqv166, zqv290], [], [zqa60, zqa37, zqa38, zqa39, zqa40, zqa41, zqa0], [], [], [])), [(2, 0, 144)])
def zpA634h145 : Nat × zTm × zRk := (71, ([], ([zqv170, zqv210, zqv154, zqv261, zqv221, zqv166, zqv221, zqv166, zqv291], [], [zqa60, zqa37, zqa38, zqa39, zqa40, zqa41, zqa0], [], [], [])), [(2, 0, 145)])
def zpA634h146 : Nat × zTm × zRk := (71, ([], ([zqv170, zqv210, zqv154, zqv261, zqv221, zqv166, zqv221, zqv166, zqv294], [], [zqa60, zqa37, zqa38, zqa39, zqa40, zqa41, zqa0], [], [], [])), [(2, 0, 146)])
def zpA634h147 : Nat × zTm × zRk := (71, ([], ([zqv170, zqv210, zqv154, zqv261, zqv221, zqv166, zqv221, zqv166, zqv299], [], [zqa60, zqa37, zqa38, zqa39, zqa40, zqa41, zqa0], [], [], [])), [(2, 0, 147)])
def zpA634h148 : Nat × zTm × zRk := (71, ([], ([zqv170, zqv210, zqv154, zqv261, zqv221, zqv166, zqv221, zqv166, zqv300], [], [zqa60, zqa37, zqa38, zqa39, zqa40, zqa41, zqa0], [], [], [])), [(2, 0, 148)])
def zpA634h149 : Nat × zTm × zRk := (71, ([], ([zqv170, zqv210, zqv154, zqv261, zqv221, zqv166, zqv221, zqv166, zqv301], [], [zqa60, zqa37, zqa38, zqa39, zqa40, zqa41, zqa0], [], [], [])), [(2, 0, 149)])
def zpA634h150 : Nat × zTm × zRk := (71, ([], ([zqv170, zqv210, zqv154, zqv261, zqv221, zqv166, zqv221, zqv166, zqv303], [], [zqa60, zqa37, zqa38, zqa39, zqa40, zqa41, zqa0], [], [], [])), [(2, 0, 150)])
def zpA634h151 : Nat × zTm × zRk := (71, ([], ([zqv170, zqv210, zqv154, zqv261, zqv221, zqv166, zqv221, zqv166, zqv304], [], [zqa60, zqa37, zqa38, zqa39, zqa40, zqa41, zqa0], [], [], [])), [(2, 0, 151)])
def zpA634h152 : Nat × zTm × zRk := (71, ([], ([zqv170, zqv210, zqv154, zqv261, zqv221, zqv166, zqv221, zqv166, zqv305], [], [zqa60, zqa37, zqa38, zqa39, zqa40, zqa41, zqa0], [], [], [])), [(2, 0, 152)])
def zpA634h153 : Nat × zTm × zRk := (71, ([], ([zqv170, zqv210, zqv154, zqv261, zqv221, zqv166, zqv221, zqv166, zqv306], [], [zqa60, zqa37, zqa38, zqa39, zqa40, zqa41, zqa0], [], [], [])), [(2, 0, 153)])
def zpA634h154 : Nat × zTm × zRk := (71, ([], ([zqv170, zqv210, zqv154, zqv261, zqv221, zqv166, zqv221, zqv166, zqv308], [], [zqa60, zqa37, zqa38, zqa39, zqa40, zqa41, zqa0], [], [], [])), [(2, 0, 154)])
def zpA634h155 : Nat × zTm × zRk := (71, ([], ([zqv170, zqv210, zqv154, zqv261, zqv221, zqv166, zqv221, zqv166, zqv309], [], [zqa60, zqa37, zqa38, zqa39, zqa40, zqa41, zqa0], [], [], [])), [(2, 0, 155)])
def zpA634h156 : Nat × zTm × zRk := (71, ([], ([zqv170, zqv210, zqv154, zqv261, zqv221, zqv166, zqv221, zqv166, zqv310], [], [zqa60, zqa37, zqa38, zqa39, zqa40, zqa41, zqa0], [], [], [])), [(2, 0, 156)])
def zpA634h157 : Nat × zTm × zRk := (71, ([], ([zqv170, zqv210, zqv154, zqv261, zqv221, zqv166, zqv221, zqv166, zqv315], [], [zqa60, zqa37, zqa38, zqa39, zqa40, zqa41, zqa0], [], [], [])), [(2, 0, 157)])
def zpA634h158 : Nat × zTm × zRk := (71, ([], ([zqv170, zqv210, zqv154, zqv261, zqv221, zqv166, zqv221, zqv166, zqv318], [], [zqa60, zqa37, zqa38, zqa39, zqa40, zqa41, zqa0], [], [], [])), [(2, 0, 158)])
def zpA634h159 : Nat × zTm × zRk := (71, ([], ([zqv170, zqv210, zqv154, zqv261, zqv221, zqv166, zqv221, zqv166, zqv319], [], [zqa60, zqa37, zqa38, zqa39, zqa40, zqa41, zqa0], [], [], [])), [(2, 0, 159)])
def zpA634h160 : Nat × zTm × zRk := (71, ([], ([zqv170, zqv210, zqv154, zqv261, zqv221, zqv166, zqv221, zqv166, zqv320], [], [zqa60, zqa37, zqa38, zqa39, zqa40, zqa41, zqa0], [], [], [])), [(2, 0, 160)])
def zpA634h161 : Nat × zTm × zRk := (71, ([], ([zqv170, zqv210, zqv154, zqv261, zqv221, zqv166, zqv221, zqv166, zqv321], [], [zqa60, zqa37, zqa38, zqa39, zqa40, zqa41, zqa0], [], [], [])), [(2, 0, 161)])
def zpA634h162 : Nat × zTm × zRk := (71, ([], ([zqv170, zqv210, zqv154, zqv261, zqv221, zqv166, zqv221, zqv166, zqv322], [], [zqa60, zqa37, zqa38, zqa39, zqa40, zqa41, zqa0], [], [], [])), [(2, 0, 162)])
def zpA634h163 : Nat × zTm × zRk := (71, ([], ([zqv170, zqv210, zqv154, zqv261, zqv221, zqv166, zqv221, zqv166, zqv325], [], [zqa60, zqa37, zqa38, zqa39, zqa40, zqa41, zqa0], [], [], [])), [(2, 0, 163)])
def zpA634h164 : Nat × zTm × zRk := (71, ([], ([zqv170, zqv210, zqv154, zqv261, zqv221, zqv166, zqv221, zqv166, zqv326], [], [zqa60, zqa37, zqa38, zqa39, zqa40, zqa41, zqa0], [], [], [])), [(2, 0, 164)])
def zpA634h165 : Nat × zTm × zRk := (71, ([], ([zqv170, zqv210, zqv154, zqv261, zqv221, zqv166, zqv221, zqv166, zqv327], [], [zqa60, zqa37, zqa38, zqa39, zqa40, zqa41, zqa0], [], [], [])), [(2, 0, 165)])
def zpA634h166 : Nat × zTm × zRk := (71, ([], ([zqv170, zqv210, zqv154, zqv261, zqv221, zqv166, zqv221, zqv166, zqv328], [], [zqa60, zqa37, zqa38, zqa39, zqa40, zqa41, zqa0], [], [], [])), [(2, 0, 166)])
def zpA634h167 : Nat × zTm × zRk := (71, ([], ([zqv170, zqv210, zqv154, zqv261, zqv221, zqv166, zqv221, zqv166, zqv329], [], [zqa60, zqa37, zqa38, zqa39, zqa40, zqa41, zqa0], [], [], [])), [(2, 0, 167)])
def zpA634h168 : Nat × zTm × zRk := (71, ([], ([zqv170, zqv210, zqv154, zqv261, zqv221, zqv166, zqv221, zqv166, zqv335], [], [zqa60, zqa37, zqa38, zqa39, zqa40, zqa41, zqa0], [], [], [])), [(2, 0, 168)])
def zpA634h169 : Nat × zTm × zRk := (71, ([], ([zqv170, zqv210, zqv154, zqv261, zqv221, zqv166, zqv221, zqv166, zqv339], [], [zqa60, zqa37, zqa38, zqa39, zqa40, zqa41, zqa0], [], [], [])), [(2, 0, 169)])
def zpA634h170 : Nat × zTm × zRk := (71, ([], ([zqv170, zqv210, zqv154, zqv261, zqv221, zqv166, zqv221, zqv166, zqv341], [], [zqa60, zqa37, zqa38, zqa39, zqa40, zqa41, zqa0], [], [], [])), [(2, 0, 170)])
def zpA634h171 : Nat × zTm × zRk := (71, ([], ([zqv170, zqv210, zqv154, zqv261, zqv221, zqv166, zqv221, zqv166, zqv342], [], [zqa60, zqa37, zqa38, zqa39, zqa40, zqa41, zqa0], [], [], [])), [(2, 0, 171)])
def zpA634h172 : Nat × zTm × zRk := (71, ([], ([zqv170, zqv210, zqv154, zqv261, zqv221, zqv166, zqv221, zqv166, zqv343], [], [zqa60, zqa37, zqa38, zqa39, zqa40, zqa41, zqa0], [], [], [])), [(2, 0, 172)])
def zpA634h173 : Nat × zTm × zRk := (71, ([], ([zqv170, zqv210, zqv154, zqv261, zqv221, zqv166, zqv221, zqv166, zqv344], [], [zqa60, zqa37, zqa38, zqa39, zqa40, zqa41, zqa0], [], [], [])), [(2, 0, 173)])
def zpA634h174 : Nat × zTm × zRk := (71, ([], ([zqv170, zqv210, zqv154, zqv261, zqv221, zqv166, zqv221, zqv166, zqv345], [], [zqa60, zqa37, zqa38, zqa39, zqa40, zqa41, zqa0], [], [], [])), [(2, 0, 174)])
def zpA634h175 : Nat × zTm × zRk := (71, ([], ([zqv170, zqv210, zqv154, zqv261, zqv221, zqv166, zqv221, zqv166, zqv346], [], [zqa60, zqa37, zqa38, zqa39, zqa40, zqa41, zqa0], [], [], [])), [(2, 0, 175)])
def zpA634h176 : Nat × zTm × zRk := (71, ([], ([zqv170, zqv210, zqv154, zqv261, zqv221, zqv166, zqv221, zqv166, zqv347], [], [zqa60, zqa37, zqa38, zqa39, zqa40, zqa41, zqa0], [], [], [])), [(2, 0, 176)])
def zpA634h177 : Nat × zTm × zRk := (71, ([], ([zqv170, zqv210, zqv154, zqv261, zqv221, zqv166, zqv221, zqv166, zqv348], [], [zqa60, zqa37, zqa38, zqa39, zqa40, zqa41, zqa0], [], [], [])), [(2, 0, 177)])
def zpA634h178 : Nat × zTm × zRk := (71, ([], ([zqv170, zqv210, zqv154, zqv261, zqv221, zqv166, zqv221, zqv166, zqv349], [], [zqa60, zqa37, zqa38, zqa39, zqa40, zqa41, zqa0], [], [], [])), [(2, 0, 178)])
def zpA634h179 : Nat × zTm × zRk := (71, ([], ([zqv170, zqv210, zqv154, zqv261, zqv221, zqv166, zqv221, zqv166, zqv352], [], [zqa60, zqa37, zqa38, zqa39, zqa40, zqa41, zqa0], [], [], [])), [(2, 0, 179)])
def zpA634h180 : Nat × zTm × zRk := (71, ([], ([zqv170, zqv210, zqv154, zqv261, zqv221, zqv166, zqv221, zqv166, zqv355], [], [zqa60, zqa37, zqa38, zqa39, zqa40, zqa41, zqa0], [], [], [])), [(2, 0, 180)])
def zpA634h181 : Nat × zTm × zRk := (71, ([], ([zqv170, zqv210, zqv154, zqv261, zqv221, zqv166, zqv221, zqv166, zqv358], [], [zqa60, zqa37, zqa38, zqa39, zqa40, zqa41, zqa0], [], [], [])), [(2, 0, 181)])
def zpA634h182 : Nat × zTm × zRk := (71, ([], ([zqv170, zqv210, zqv154, zqv261, zqv221, zqv166, zqv221, zqv166, zqv362], [], [zqa60, zqa37, zqa38, zqa39, zqa40, zqa41, zqa0], [], [], [])), [(2, 0, 182)])
def zpA634h183 : Nat × zTm × zRk := (71, ([], ([zqv170, zqv210, zqv154, zqv261, zqv221, zqv166, zqv221, zqv166, zqv365], [], [zqa60, zqa37, zqa38, zqa39, zqa40, zqa41, zqa0], [], [], [])), [(2, 0, 183)])
def zpA634 : zAnn := [zpA634h0, zpA634h1, zpA634h2, zpA634h3, zpA634h4, zpA634h5, zpA634h6, zpA634h7, zpA634h8, zpA634h9, zpA634h10, zpA634h11, zpA634h12, zpA634h13, zpA634h14, zpA634h15, zpA634h16, zpA634h17, zpA634h18, zpA634h19, zpA634h20, zpA634h21, zpA634h22, zpA634h23, zpA634h24, zpA634h25, zpA634h26, zpA634h27, zpA634h28, zpA634h29, zpA634h30, zpA634h31, zpA634h32, zpA634h33, zpA634h34, zpA634h35, zpA634h36, zpA634h37, zpA634h38, zpA634h39, zpA634h40, zpA634h41, zpA634h42, zpA634h43, zpA634h44, zpA634h45, zpA634h46, zpA634h47, zpA634h48, zpA634h49, zpA634h50, zpA634h51, zpA634h52, zpA634h53, zpA634h54, zpA634h55, zpA634h56, zpA634h57, zpA634h58, zpA634h59, zpA634h60, zpA634h61, zpA634h62, zpA634h63, zpA634h64, zpA634h65, zpA634h66, zpA634h67, zpA634h68, zpA634h69, zpA634h70, zpA634h71, zpA634h72, zpA634h73, zpA634h74, zpA634h75, zpA634h76, zpA634h77, zpA634h78, zpA634h79, zpA634h80, zpA634h81, zpA634h82, zpA634h83, zpA634h84, zpA634h85, zpA634h86, zpA634h87, zpA634h88, zpA634h89, zpA634h90, zpA634h91, zpA634h92, zpA634h93, zpA634h94, zpA634h95, zpA634h96, zpA634h97, zpA634h98, zpA634h99, zpA634h100, zpA634h101, zpA634h102, zpA634h103, zpA634h104, zpA634h105, zpA634h106, zpA634h107, zpA634h108, zpA634h109, zpA634h110, zpA634h111, zpA634h112, zpA634h113, zpA634h114, zpA634h115, zpA634h116, zpA634h117, zpA634h118, zpA634h119, zpA634h120, zpA634h121, zpA634h122, zpA634h123, zpA634h124, zpA634h125, zpA634h126, zpA634h127, zpA634h128, zpA634h129, zpA634h130, zpA634h131, zpA634h132, zpA634h133, zpA634h134, zpA634h135, zpA634h136, zpA634h137, zpA634h138, zpA634h139, zpA634h140, zpA634h141, zpA634h142, zpA634h143, zpA634h144, zpA634h145, zpA634h146, zpA634h147, zpA634h148, zpA634h149, zpA634h150, zpA634h151, zpA634h152, zpA634h153, zpA634h154, zpA634h155, zpA634h156, zpA634h157, zpA634h158, zpA634h159, zpA634h160, zpA634h161, zpA634h162, zpA634h163, zpA634h164, zpA634h165, zpA634h166, zpA634h167, zpA634h168, zpA634h169, zpA634h170, zpA634h171, zpA634h172, zpA634h173, zpA634h174, zpA634h175, zpA634h176, zpA634h177, zpA634h178, zpA634h179, zpA634h180, zpA634h181, zpA634h182, zpA634h183]

/-- PushedInModel.above ((0, 1),) -/
def zpC635 : zC := (131, (1, 40), ([], ([zqv170, zqv210, zqv154, zqv261], [], [zqa9], [], [], [])), [([], ([zqv170, zqv210, zqv154, zqv261], [], [], [zqa8], [], []))], zqw384)
def zpA635 : zAnn := []

/-- PushedInModel.above ((0, 2),) -/
def zpC636 : zC := (131, (1, 40), ([], ([zqv170, zqv210, zqv154, zqv261], [], [zqa13], [], [], [])), [([], ([zqv170, zqv210, zqv154, zqv261], [], [], [zqa8], [], []))], zqw384)
def zpA636 : zAnn := []

/-- PushedInModel.above ((0, 3),) -/
def zpC637 : zC := (131, (1, 40), ([], ([zqv170, zqv210, zqv154, zqv261], [], [zqa15], [], [], [])), [([], ([zqv170, zqv210, zqv154, zqv261], [], [], [zqa9], [], []))], zqw384)
def zpA637 : zAnn := []

/-- PushedInModel.above ((0, 4),) -/
def zpC638 : zC := (131, (1, 40), ([], ([zqv170, zqv210, zqv154, zqv261], [], [zqa19], [], [], [])), [([], ([zqv170, zqv210, zqv154, zqv261], [], [], [zqa9], [], []))], zqw384)
def zpA638 : zAnn := []

/-- PushedInModel.above ((0, 5),) -/
def zpC639 : zC := (131, (1, 40), ([], ([zqv170, zqv210, zqv154, zqv261], [], [zqa22], [], [], [])), [([], ([zqv170, zqv210, zqv154, zqv261], [], [], [zqa8], [], []))], zqw384)
def zpA639 : zAnn := []

/-- PushedInModel.above ((0, 6),) -/
def zpC640 : zC := (131, (1, 40), ([], ([zqv170, zqv210, zqv154, zqv261], [], [zqa25], [], [], [])), [([], ([zqv170, zqv210, zqv154, zqv261], [], [], [zqa15], [], []))], zqw384)
def zpA640 : zAnn := []

/-- PushedInModel.above ((0, 7),) -/
def zpC641 : zC := (131, (1, 40), ([], ([zqv170, zqv210, zqv154, zqv261], [], [zqa26], [], [], [])), [([], ([zqv170, zqv210, zqv154, zqv261], [], [], [zqa8], [], []))], zqw384)
def zpA641 : zAnn := []

/-- PushedInModel.kindOf () -/
def zpC642 : zC := (174, (1, 40), ([(0, 1, 0, 0)], ([zqv170, zqv210, zqv154, zqv261, zqv181], [], [zqa60, zqa37], [], [], [])), [([(1, 0, 0, 0)], ([zqv170, zqv210, zqv154, zqv261, zqv181, zqv235], [], [], [zqa38], [], []))], zqw384)
def zpA642 : zAnn := []

/-- PushedInModel.taken () -/
def zpC643 : zC := (201, (3, 85), ([(0, 1, 0, 0), (0, 2, 0, 0)], ([zqv170, zqv210, zqv154, zqv261, zqv166, zqv166], [], [zqa60, zqa37, zqa38, zqa0], [], [], [])), [([(1, 0, 0, 0)], ([zqv170, zqv210, zqv154, zqv261, zqv221, zqv235, zqv235], [], [], [zqa39], [], [])), ([], ([zqv170, zqv210, zqv154, zqv261, zqv166, zqv166], [], [], [zqa1], [], [])), ([], ([zqv170, zqv210, zqv154, zqv261, zqv221, zqv235], [], [], [zqa2], [], [])), ([], ([zqv170, zqv210, zqv154, zqv261, zqv221, zqv235], [], [], [zqa3], [], []))], zqw384)
def zpA643h0 : Nat × zTm × zRk := (21, ([], ([zqv170, zqv210, zqv154, zqv261, zqv170, zqv235], [], [zqa60, zqa37, zqa38, zqa0], [], [], [])), [(2, 0, 0)])
def zpA643h1 : Nat × zTm × zRk := (21, ([], ([zqv170, zqv210, zqv154, zqv261, zqv243, zqv235], [], [zqa60, zqa37, zqa38, zqa0], [], [], [])), [(2, 0, 1)])
def zpA643h2 : Nat × zTm × zRk := (21, ([], ([zqv170, zqv210, zqv154, zqv261, zqv276, zqv235], [], [zqa60, zqa37, zqa38, zqa0], [], [], [])), [(2, 0, 2)])
def zpA643h3 : Nat × zTm × zRk := (21, ([], ([zqv170, zqv210, zqv154, zqv261, zqv294, zqv235], [], [zqa60, zqa37, zqa38, zqa0], [], [], [])), [(2, 0, 3)])
def zpA643h4 : Nat × zTm × zRk := (21, ([], ([zqv170, zqv210, zqv154, zqv261, zqv315, zqv235], [], [zqa60, zqa37, zqa38, zqa0], [], [], [])), [(2, 0, 4)])
def zpA643h5 : Nat × zTm × zRk := (21, ([], ([zqv170, zqv210, zqv154, zqv261, zqv335, zqv235], [], [zqa60, zqa37, zqa38, zqa0], [], [], [])), [(2, 0, 5)])
def zpA643 : zAnn := [zpA643h0, zpA643h1, zpA643h2, zpA643h3, zpA643h4, zpA643h5]

/-- PushedInModel.count () -/
def zpC644 : zC := (151, (1, 40), ([(0, 1, 0, 0)], ([zqv170, zqv210, zqv154, zqv261, zqv166], [], [zqa60, zqa37], [], [], [])), [([(1, 0, 0, 0)], ([zqv170, zqv210, zqv154, zqv261, zqv221, zqv188], [], [], [zqa38], [], [])), ([], ([zqv170, zqv210, zqv154, zqv261, zqv159], [], [], [zqa1], [], []))], zqw384)
def zpA644 : zAnn := []

/-- one more, by hand -/
def zpCadm : zC := (120, (4, 110), ([], zad0 4), [([], (zadX, [], [], [], [], []))], [(1, 1, 1, 1), (50, 89, 1, 0), (50, 89, 1, 8), (50, 89, 1, 9), (50, 89, 1, 10), (50, 89, 1, 11)])
