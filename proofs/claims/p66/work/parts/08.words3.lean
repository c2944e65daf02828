theorem jw_969 : Cond.code ⟨"LevelingNetwork", "tolerance", "(I)I"⟩ prog_1_method_31_code 2 (Option.some ClassFile.FieldType.int) ∈ jk_WS := jk_wt5 (i := 9) (by decide +kernel) rfl
theorem jw_970 : Cond.methodLink "LevelingNetwork" 228 ⟨"LevelingNetwork", "within", "(III)Z"⟩ ∈ jk_WS := jk_wt5 (i := 10) (by decide +kernel) rfl
theorem jw_972 : Cond.methodLink "LevelingNetwork" 237 ⟨"LevelingNetwork", "toleranceFor", "(I)I"⟩ ∈ jk_WS := jk_wt5 (i := 12) (by decide +kernel) rfl
theorem jw_973 : Cond.methodLink "LevelingNetworkLaw" 321 ⟨"LevelingNetwork", "lineByDiscrepancy", "(I)I"⟩ ∈ jk_WS := jk_wt5 (i := 13) (by decide +kernel) rfl
theorem jw_974 : Cond.instanceMethod ⟨"LevelingNetwork", "lineByDiscrepancy", "(I)I"⟩ ∈ jk_WS := jk_wt5 (i := 14) (by decide +kernel) rfl
theorem jw_975 : Cond.selects "LevelingNetwork" ⟨"LevelingNetwork", "lineByDiscrepancy", "(I)I"⟩ ⟨"LevelingNetwork", "lineByDiscrepancy", "(I)I"⟩ ∈ jk_WS := jk_wt5 (i := 15) (by decide +kernel) rfl
theorem jw_976 : Cond.code ⟨"LevelingNetwork", "lineByDiscrepancy", "(I)I"⟩ prog_1_method_32_code 3 (Option.some ClassFile.FieldType.int) ∈ jk_WS := jk_wt5 (i := 16) (by decide +kernel) rfl
theorem jw_977 : Cond.methodLink "LevelingNetwork" 240 ⟨"LevelingNetwork$Survey", "lineAtRank", "(I)I"⟩ ∈ jk_WS := jk_wt5 (i := 17) (by decide +kernel) rfl
theorem jw_978 : Cond.instanceMethod ⟨"LevelingNetwork$Survey", "lineAtRank", "(I)I"⟩ ∈ jk_WS := jk_wt5 (i := 18) (by decide +kernel) rfl
theorem jw_979 : Cond.selects "LevelingNetwork$Survey" ⟨"LevelingNetwork$Survey", "lineAtRank", "(I)I"⟩ ⟨"LevelingNetwork$Survey", "lineAtRank", "(I)I"⟩ ∈ jk_WS := jk_wt5 (i := 19) (by decide +kernel) rfl
theorem jw_980 : Cond.code ⟨"LevelingNetwork$Survey", "lineAtRank", "(I)I"⟩ prog_11_method_16_code 3 (Option.some ClassFile.FieldType.int) ∈ jk_WS := jk_wt5 (i := 20) (by decide +kernel) rfl
theorem jw_981 : Cond.methodLink "LevelingNetwork$Survey" 99 ⟨"LevelingNetwork$Survey", "linesAheadOf", "(I)I"⟩ ∈ jk_WS := jk_wt5 (i := 21) (by decide +kernel) rfl
theorem jw_983 : Cond.instanceMethod ⟨"LevelingNetwork$Survey", "linesAheadOf", "(I)I"⟩ ∈ jk_WS := jk_wt5 (i := 23) (by decide +kernel) rfl
theorem jw_984 : Cond.code ⟨"LevelingNetwork$Survey", "linesAheadOf", "(I)I"⟩ prog_11_method_17_code 6 (Option.some ClassFile.FieldType.int) ∈ jk_WS := jk_wt5 (i := 24) (by decide +kernel) rfl
theorem jw_985 : Cond.methodLink "LevelingNetworkLaw" 271 ⟨"LevelingNetwork", "forestLength", "()I"⟩ ∈ jk_WS := jk_wt5 (i := 25) (by decide +kernel) rfl
theorem jw_986 : Cond.instanceMethod ⟨"LevelingNetwork", "forestLength", "()I"⟩ ∈ jk_WS := jk_wt5 (i := 26) (by decide +kernel) rfl
theorem jw_987 : Cond.selects "LevelingNetwork" ⟨"LevelingNetwork", "forestLength", "()I"⟩ ⟨"LevelingNetwork", "forestLength", "()I"⟩ ∈ jk_WS := jk_wt5 (i := 27) (by decide +kernel) rfl
theorem jw_988 : Cond.code ⟨"LevelingNetwork", "forestLength", "()I"⟩ prog_1_method_34_code 1 (Option.some ClassFile.FieldType.int) ∈ jk_WS := jk_wt5 (i := 28) (by decide +kernel) rfl
theorem jw_989 : Cond.methodLink "LevelingNetwork" 246 ⟨"LevelingNetwork$Forest", "takenLength", "()I"⟩ ∈ jk_WS := jk_wt5 (i := 29) (by decide +kernel) rfl
theorem jw_990 : Cond.instanceMethod ⟨"LevelingNetwork$Forest", "takenLength", "()I"⟩ ∈ jk_WS := jk_wt5 (i := 30) (by decide +kernel) rfl
theorem jw_991 : Cond.selects "LevelingNetwork$Forest" ⟨"LevelingNetwork$Forest", "takenLength", "()I"⟩ ⟨"LevelingNetwork$Forest", "takenLength", "()I"⟩ ∈ jk_WS := jk_wt5 (i := 31) (by decide +kernel) rfl
theorem jw_992 : Cond.code ⟨"LevelingNetwork$Forest", "takenLength", "()I"⟩ prog_5_method_5_code 3 (Option.some ClassFile.FieldType.int) ∈ jk_WS := jk_wt5 (i := 32) (by decide +kernel) rfl
theorem jw_993 : Cond.methodLink "LevelingNetworkLaw" 299 ⟨"LevelingNetwork", "forestLengthByGrowing", "()I"⟩ ∈ jk_WS := jk_wt5 (i := 33) (by decide +kernel) rfl
theorem jw_994 : Cond.instanceMethod ⟨"LevelingNetwork", "forestLengthByGrowing", "()I"⟩ ∈ jk_WS := jk_wt5 (i := 34) (by decide +kernel) rfl
theorem jw_995 : Cond.selects "LevelingNetwork" ⟨"LevelingNetwork", "forestLengthByGrowing", "()I"⟩ ⟨"LevelingNetwork", "forestLengthByGrowing", "()I"⟩ ∈ jk_WS := jk_wt5 (i := 35) (by decide +kernel) rfl
theorem jw_996 : Cond.code ⟨"LevelingNetwork", "forestLengthByGrowing", "()I"⟩ prog_1_method_35_code 1 (Option.some ClassFile.FieldType.int) ∈ jk_WS := jk_wt5 (i := 36) (by decide +kernel) rfl
theorem jw_997 : Cond.methodLink "LevelingNetwork" 250 ⟨"LevelingNetwork$Forest", "grownLength", "()I"⟩ ∈ jk_WS := jk_wt5 (i := 37) (by decide +kernel) rfl
theorem jw_998 : Cond.instanceMethod ⟨"LevelingNetwork$Forest", "grownLength", "()I"⟩ ∈ jk_WS := jk_wt5 (i := 38) (by decide +kernel) rfl
theorem jw_999 : Cond.selects "LevelingNetwork$Forest" ⟨"LevelingNetwork$Forest", "grownLength", "()I"⟩ ⟨"LevelingNetwork$Forest", "grownLength", "()I"⟩ ∈ jk_WS := jk_wt5 (i := 39) (by decide +kernel) rfl
theorem jw_1000 : Cond.code ⟨"LevelingNetwork$Forest", "grownLength", "()I"⟩ prog_5_method_6_code 3 (Option.some ClassFile.FieldType.int) ∈ jk_WS := jk_wt5 (i := 40) (by decide +kernel) rfl
theorem jw_1001 : Cond.methodLink "LevelingNetwork$Forest" 70 ⟨"LevelingNetwork$Forest", "growReached", "()I"⟩ ∈ jk_WS := jk_wt5 (i := 41) (by decide +kernel) rfl
theorem jw_1003 : Cond.instanceMethod ⟨"LevelingNetwork$Forest", "growReached", "()I"⟩ ∈ jk_WS := jk_wt5 (i := 43) (by decide +kernel) rfl
theorem jw_1004 : Cond.code ⟨"LevelingNetwork$Forest", "growReached", "()I"⟩ prog_5_method_7_code 4 (Option.some ClassFile.FieldType.int) ∈ jk_WS := jk_wt5 (i := 44) (by decide +kernel) rfl
theorem jw_1005 : Cond.methodLink "LevelingNetwork$Forest" 74 ⟨"LevelingNetwork$Forest", "firstLineOutOfReached", "()I"⟩ ∈ jk_WS := jk_wt5 (i := 45) (by decide +kernel) rfl
theorem jw_1007 : Cond.instanceMethod ⟨"LevelingNetwork$Forest", "firstLineOutOfReached", "()I"⟩ ∈ jk_WS := jk_wt5 (i := 47) (by decide +kernel) rfl
theorem jw_1008 : Cond.code ⟨"LevelingNetwork$Forest", "firstLineOutOfReached", "()I"⟩ prog_5_method_8_code 3 (Option.some ClassFile.FieldType.int) ∈ jk_WS := jk_wt5 (i := 48) (by decide +kernel) rfl
theorem jw_1009 : Cond.methodLink "LevelingNetworkLaw" 268 ⟨"LevelingNetwork", "treeCount", "()I"⟩ ∈ jk_WS := jk_wt5 (i := 49) (by decide +kernel) rfl
theorem jw_1010 : Cond.instanceMethod ⟨"LevelingNetwork", "treeCount", "()I"⟩ ∈ jk_WS := jk_wt5 (i := 50) (by decide +kernel) rfl
theorem jw_1011 : Cond.selects "LevelingNetwork" ⟨"LevelingNetwork", "treeCount", "()I"⟩ ⟨"LevelingNetwork", "treeCount", "()I"⟩ ∈ jk_WS := jk_wt5 (i := 51) (by decide +kernel) rfl
theorem jw_1012 : Cond.code ⟨"LevelingNetwork", "treeCount", "()I"⟩ prog_1_method_36_code 1 (Option.some ClassFile.FieldType.int) ∈ jk_WS := jk_wt5 (i := 52) (by decide +kernel) rfl
theorem jw_1013 : Cond.methodLink "LevelingNetwork" 253 ⟨"LevelingNetwork$Forest", "trees", "()I"⟩ ∈ jk_WS := jk_wt5 (i := 53) (by decide +kernel) rfl
theorem jw_1014 : Cond.instanceMethod ⟨"LevelingNetwork$Forest", "trees", "()I"⟩ ∈ jk_WS := jk_wt5 (i := 54) (by decide +kernel) rfl
theorem jw_1015 : Cond.selects "LevelingNetwork$Forest" ⟨"LevelingNetwork$Forest", "trees", "()I"⟩ ⟨"LevelingNetwork$Forest", "trees", "()I"⟩ ∈ jk_WS := jk_wt5 (i := 55) (by decide +kernel) rfl
theorem jw_1016 : Cond.code ⟨"LevelingNetwork$Forest", "trees", "()I"⟩ prog_5_method_9_code 3 (Option.some ClassFile.FieldType.int) ∈ jk_WS := jk_wt5 (i := 56) (by decide +kernel) rfl
theorem jw_1017 : Cond.methodLink "LevelingNetworkLaw" 46 ⟨"LevelingNetwork", "loopCount", "()I"⟩ ∈ jk_WS := jk_wt5 (i := 57) (by decide +kernel) rfl
theorem jw_1018 : Cond.instanceMethod ⟨"LevelingNetwork", "loopCount", "()I"⟩ ∈ jk_WS := jk_wt5 (i := 58) (by decide +kernel) rfl
theorem jw_1019 : Cond.selects "LevelingNetwork" ⟨"LevelingNetwork", "loopCount", "()I"⟩ ⟨"LevelingNetwork", "loopCount", "()I"⟩ ∈ jk_WS := jk_wt5 (i := 59) (by decide +kernel) rfl
theorem jw_1020 : Cond.code ⟨"LevelingNetwork", "loopCount", "()I"⟩ prog_1_method_37_code 1 (Option.some ClassFile.FieldType.int) ∈ jk_WS := jk_wt5 (i := 60) (by decide +kernel) rfl
theorem jw_1021 : Cond.methodLink "LevelingNetwork" 256 ⟨"LevelingNetwork$Forest", "loops", "()I"⟩ ∈ jk_WS := jk_wt5 (i := 61) (by decide +kernel) rfl
theorem jw_1022 : Cond.instanceMethod ⟨"LevelingNetwork$Forest", "loops", "()I"⟩ ∈ jk_WS := jk_wt5 (i := 62) (by decide +kernel) rfl
theorem jw_1023 : Cond.selects "LevelingNetwork$Forest" ⟨"LevelingNetwork$Forest", "loops", "()I"⟩ ⟨"LevelingNetwork$Forest", "loops", "()I"⟩ ∈ jk_WS := jk_wt5 (i := 63) (by decide +kernel) rfl
theorem jw_1024 : Cond.code ⟨"LevelingNetwork$Forest", "loops", "()I"⟩ prog_5_method_11_code 3 (Option.some ClassFile.FieldType.int) ∈ jk_WS := jk_wt5 (i := 64) (by decide +kernel) rfl
theorem jw_1025 : Cond.methodLink "LevelingNetwork$Forest" 77 ⟨"LevelingNetwork$Forest", "closesLoop", "(I)Z"⟩ ∈ jk_WS := jk_wt5 (i := 65) (by decide +kernel) rfl
theorem jw_1026 : Cond.methodLink "LevelingNetworkLaw" 49 ⟨"LevelingNetwork", "loopAt", "(I)I"⟩ ∈ jk_WS := jk_wt5 (i := 66) (by decide +kernel) rfl
theorem jw_1027 : Cond.instanceMethod ⟨"LevelingNetwork", "loopAt", "(I)I"⟩ ∈ jk_WS := jk_wt5 (i := 67) (by decide +kernel) rfl
theorem jw_1028 : Cond.selects "LevelingNetwork" ⟨"LevelingNetwork", "loopAt", "(I)I"⟩ ⟨"LevelingNetwork", "loopAt", "(I)I"⟩ ∈ jk_WS := jk_wt5 (i := 68) (by decide +kernel) rfl
theorem jw_1029 : Cond.code ⟨"LevelingNetwork", "loopAt", "(I)I"⟩ prog_1_method_38_code 3 (Option.some ClassFile.FieldType.int) ∈ jk_WS := jk_wt5 (i := 69) (by decide +kernel) rfl
theorem jw_1030 : Cond.methodLink "LevelingNetwork" 259 ⟨"LevelingNetwork$Forest", "closingLineAt", "(I)I"⟩ ∈ jk_WS := jk_wt5 (i := 70) (by decide +kernel) rfl
theorem jw_1031 : Cond.instanceMethod ⟨"LevelingNetwork$Forest", "closingLineAt", "(I)I"⟩ ∈ jk_WS := jk_wt5 (i := 71) (by decide +kernel) rfl
theorem jw_1032 : Cond.selects "LevelingNetwork$Forest" ⟨"LevelingNetwork$Forest", "closingLineAt", "(I)I"⟩ ⟨"LevelingNetwork$Forest", "closingLineAt", "(I)I"⟩ ∈ jk_WS := jk_wt5 (i := 72) (by decide +kernel) rfl
theorem jw_1033 : Cond.code ⟨"LevelingNetwork$Forest", "closingLineAt", "(I)I"⟩ prog_5_method_12_code 4 (Option.some ClassFile.FieldType.int) ∈ jk_WS := jk_wt5 (i := 73) (by decide +kernel) rfl
theorem jw_1035 : Cond.methodLink "LevelingNetworkLaw" 130 ⟨"LevelingNetwork", "loopSize", "(I)I"⟩ ∈ jk_WS := jk_wt5 (i := 75) (by decide +kernel) rfl
theorem jw_1036 : Cond.instanceMethod ⟨"LevelingNetwork", "loopSize", "(I)I"⟩ ∈ jk_WS := jk_wt5 (i := 76) (by decide +kernel) rfl
theorem jw_1037 : Cond.selects "LevelingNetwork" ⟨"LevelingNetwork", "loopSize", "(I)I"⟩ ⟨"LevelingNetwork", "loopSize", "(I)I"⟩ ∈ jk_WS := jk_wt5 (i := 77) (by decide +kernel) rfl
theorem jw_1038 : Cond.code ⟨"LevelingNetwork", "loopSize", "(I)I"⟩ prog_1_method_39_code 2 (Option.some ClassFile.FieldType.int) ∈ jk_WS := jk_wt5 (i := 78) (by decide +kernel) rfl
theorem jw_1039 : Cond.methodLink "LevelingNetwork" 264 ⟨"LevelingNetwork", "traceLoop", "(I)V"⟩ ∈ jk_WS := jk_wt5 (i := 79) (by decide +kernel) rfl
theorem jw_1041 : Cond.instanceMethod ⟨"LevelingNetwork", "traceLoop", "(I)V"⟩ ∈ jk_WS := jk_wt5 (i := 81) (by decide +kernel) rfl
theorem jw_1042 : Cond.code ⟨"LevelingNetwork", "traceLoop", "(I)V"⟩ prog_1_method_71_code 2 (Option.none : Option ClassFile.FieldType) ∈ jk_WS := jk_wt5 (i := 82) (by decide +kernel) rfl
theorem jw_1043 : Cond.methodLink "LevelingNetwork" 479 ⟨"LevelingNetwork$Forest", "closesLoop", "(I)Z"⟩ ∈ jk_WS := jk_wt5 (i := 83) (by decide +kernel) rfl
theorem jw_1044 : Cond.methodLink "LevelingNetwork" 482 ⟨"LevelingNetwork$Way", "traceLoop", "(I)V"⟩ ∈ jk_WS := jk_wt5 (i := 84) (by decide +kernel) rfl
theorem jw_1045 : Cond.methodLink "LevelingNetworkLaw" 127 ⟨"LevelingNetwork", "loopLength", "(I)I"⟩ ∈ jk_WS := jk_wt5 (i := 85) (by decide +kernel) rfl
theorem jw_1046 : Cond.instanceMethod ⟨"LevelingNetwork", "loopLength", "(I)I"⟩ ∈ jk_WS := jk_wt5 (i := 86) (by decide +kernel) rfl
theorem jw_1047 : Cond.selects "LevelingNetwork" ⟨"LevelingNetwork", "loopLength", "(I)I"⟩ ⟨"LevelingNetwork", "loopLength", "(I)I"⟩ ∈ jk_WS := jk_wt5 (i := 87) (by decide +kernel) rfl
theorem jw_1048 : Cond.code ⟨"LevelingNetwork", "loopLength", "(I)I"⟩ prog_1_method_40_code 2 (Option.some ClassFile.FieldType.int) ∈ jk_WS := jk_wt5 (i := 88) (by decide +kernel) rfl
theorem jw_1049 : Cond.methodLink "LevelingNetwork" 270 ⟨"LevelingNetwork$Way", "totalLength", "()I"⟩ ∈ jk_WS := jk_wt5 (i := 89) (by decide +kernel) rfl
theorem jw_1050 : Cond.methodLink "LevelingNetworkLaw" 121 ⟨"LevelingNetwork", "misclosure", "(I)I"⟩ ∈ jk_WS := jk_wt5 (i := 90) (by decide +kernel) rfl
theorem jw_1051 : Cond.instanceMethod ⟨"LevelingNetwork", "misclosure", "(I)I"⟩ ∈ jk_WS := jk_wt5 (i := 91) (by decide +kernel) rfl
theorem jw_1052 : Cond.selects "LevelingNetwork" ⟨"LevelingNetwork", "misclosure", "(I)I"⟩ ⟨"LevelingNetwork", "misclosure", "(I)I"⟩ ∈ jk_WS := jk_wt5 (i := 92) (by decide +kernel) rfl
theorem jw_1053 : Cond.code ⟨"LevelingNetwork", "misclosure", "(I)I"⟩ prog_1_method_41_code 2 (Option.some ClassFile.FieldType.int) ∈ jk_WS := jk_wt5 (i := 93) (by decide +kernel) rfl
theorem jw_1054 : Cond.methodLink "LevelingNetwork" 273 ⟨"LevelingNetwork$Way", "rise", "()I"⟩ ∈ jk_WS := jk_wt5 (i := 94) (by decide +kernel) rfl
theorem jw_1055 : Cond.methodLink "LevelingNetworkLaw" 124 ⟨"LevelingNetwork", "misclosureByLevels", "(I)I"⟩ ∈ jk_WS := jk_wt5 (i := 95) (by decide +kernel) rfl
theorem jw_1056 : Cond.instanceMethod ⟨"LevelingNetwork", "misclosureByLevels", "(I)I"⟩ ∈ jk_WS := jk_wt5 (i := 96) (by decide +kernel) rfl
theorem jw_1057 : Cond.selects "LevelingNetwork" ⟨"LevelingNetwork", "misclosureByLevels", "(I)I"⟩ ⟨"LevelingNetwork", "misclosureByLevels", "(I)I"⟩ ∈ jk_WS := jk_wt5 (i := 97) (by decide +kernel) rfl
theorem jw_1058 : Cond.code ⟨"LevelingNetwork", "misclosureByLevels", "(I)I"⟩ prog_1_method_42_code 2 (Option.some ClassFile.FieldType.int) ∈ jk_WS := jk_wt5 (i := 98) (by decide +kernel) rfl
theorem jw_1059 : Cond.methodLink "LevelingNetwork" 276 ⟨"LevelingNetwork$Heights", "gapByLevels", "(I)I"⟩ ∈ jk_WS := jk_wt5 (i := 99) (by decide +kernel) rfl
theorem jw_1060 : Cond.instanceMethod ⟨"LevelingNetwork$Heights", "gapByLevels", "(I)I"⟩ ∈ jk_WS := jk_wt5 (i := 100) (by decide +kernel) rfl
theorem jw_1061 : Cond.selects "LevelingNetwork$Heights" ⟨"LevelingNetwork$Heights", "gapByLevels", "(I)I"⟩ ⟨"LevelingNetwork$Heights", "gapByLevels", "(I)I"⟩ ∈ jk_WS := jk_wt5 (i := 101) (by decide +kernel) rfl
theorem jw_1062 : Cond.code ⟨"LevelingNetwork$Heights", "gapByLevels", "(I)I"⟩ prog_6_method_7_code 4 (Option.some ClassFile.FieldType.int) ∈ jk_WS := jk_wt5 (i := 102) (by decide +kernel) rfl
theorem jw_1063 : Cond.methodLink "LevelingNetworkLaw" 136 ⟨"LevelingNetwork", "part", "(II)I"⟩ ∈ jk_WS := jk_wt5 (i := 103) (by decide +kernel) rfl
theorem jw_1064 : Cond.instanceMethod ⟨"LevelingNetwork", "part", "(II)I"⟩ ∈ jk_WS := jk_wt5 (i := 104) (by decide +kernel) rfl
theorem jw_1065 : Cond.selects "LevelingNetwork" ⟨"LevelingNetwork", "part", "(II)I"⟩ ⟨"LevelingNetwork", "part", "(II)I"⟩ ∈ jk_WS := jk_wt5 (i := 105) (by decide +kernel) rfl
theorem jw_1066 : Cond.code ⟨"LevelingNetwork", "part", "(II)I"⟩ prog_1_method_43_code 3 (Option.some ClassFile.FieldType.int) ∈ jk_WS := jk_wt5 (i := 106) (by decide +kernel) rfl
theorem jw_1067 : Cond.methodLink "LevelingNetwork" 279 ⟨"LevelingNetwork$Sharing", "divide", "(LLevelingNetwork$Way;)V"⟩ ∈ jk_WS := jk_wt5 (i := 107) (by decide +kernel) rfl
theorem jw_1068 : Cond.methodLink "LevelingNetworkLaw" 154 ⟨"LevelingNetwork", "waterLevel", "()I"⟩ ∈ jk_WS := jk_wt5 (i := 108) (by decide +kernel) rfl
theorem jw_1069 : Cond.instanceMethod ⟨"LevelingNetwork", "waterLevel", "()I"⟩ ∈ jk_WS := jk_wt5 (i := 109) (by decide +kernel) rfl
theorem jw_1070 : Cond.selects "LevelingNetwork" ⟨"LevelingNetwork", "waterLevel", "()I"⟩ ⟨"LevelingNetwork", "waterLevel", "()I"⟩ ∈ jk_WS := jk_wt5 (i := 110) (by decide +kernel) rfl
theorem jw_1071 : Cond.code ⟨"LevelingNetwork", "waterLevel", "()I"⟩ prog_1_method_46_code 1 (Option.some ClassFile.FieldType.int) ∈ jk_WS := jk_wt5 (i := 111) (by decide +kernel) rfl
theorem jw_1072 : Cond.methodLink "LevelingNetworkLaw" 109 ⟨"LevelingNetwork", "ground", "(II)I"⟩ ∈ jk_WS := jk_wt5 (i := 112) (by decide +kernel) rfl
theorem jw_1073 : Cond.instanceMethod ⟨"LevelingNetwork", "ground", "(II)I"⟩ ∈ jk_WS := jk_wt5 (i := 113) (by decide +kernel) rfl
theorem jw_1074 : Cond.selects "LevelingNetwork" ⟨"LevelingNetwork", "ground", "(II)I"⟩ ⟨"LevelingNetwork", "ground", "(II)I"⟩ ∈ jk_WS := jk_wt5 (i := 114) (by decide +kernel) rfl
theorem jw_1075 : Cond.code ⟨"LevelingNetwork", "ground", "(II)I"⟩ prog_1_method_47_code 3 (Option.some ClassFile.FieldType.int) ∈ jk_WS := jk_wt5 (i := 115) (by decide +kernel) rfl
theorem jw_1076 : Cond.methodLink "LevelingNetwork" 289 ⟨"LevelingNetwork", "requireProfile", "(I)V"⟩ ∈ jk_WS := jk_wt5 (i := 116) (by decide +kernel) rfl
theorem jw_1078 : Cond.instanceMethod ⟨"LevelingNetwork", "requireProfile", "(I)V"⟩ ∈ jk_WS := jk_wt5 (i := 118) (by decide +kernel) rfl
theorem jw_1079 : Cond.code ⟨"LevelingNetwork", "requireProfile", "(I)V"⟩ prog_1_method_69_code 2 (Option.none : Option ClassFile.FieldType) ∈ jk_WS := jk_wt5 (i := 119) (by decide +kernel) rfl
theorem jw_1080 : Cond.methodLink "LevelingNetwork" 472 ⟨"LevelingNetwork$Survey", "hasProfile", "(I)Z"⟩ ∈ jk_WS := jk_wt5 (i := 120) (by decide +kernel) rfl
theorem jw_1082 : Cond.methodLink "LevelingNetwork" 298 ⟨"LevelingNetwork$Bank", "hasColumn", "(II)Z"⟩ ∈ jk_WS := jk_wt5 (i := 122) (by decide +kernel) rfl
theorem jw_1083 : Cond.instanceMethod ⟨"LevelingNetwork$Bank", "hasColumn", "(II)Z"⟩ ∈ jk_WS := jk_wt5 (i := 123) (by decide +kernel) rfl
theorem jw_1084 : Cond.selects "LevelingNetwork$Bank" ⟨"LevelingNetwork$Bank", "hasColumn", "(II)Z"⟩ ⟨"LevelingNetwork$Bank", "hasColumn", "(II)Z"⟩ ∈ jk_WS := jk_wt5 (i := 124) (by decide +kernel) rfl
theorem jw_1085 : Cond.code ⟨"LevelingNetwork$Bank", "hasColumn", "(II)Z"⟩ prog_3_method_2_code 3 (Option.some ClassFile.FieldType.boolean) ∈ jk_WS := jk_wt5 (i := 125) (by decide +kernel) rfl
theorem jw_1086 : Cond.methodLink "LevelingNetwork$Bank" 15 ⟨"LevelingNetwork$Bank", "firstColumn", "(I)I"⟩ ∈ jk_WS := jk_wt5 (i := 126) (by decide +kernel) rfl
theorem jw_1088 : Cond.instanceMethod ⟨"LevelingNetwork$Bank", "firstColumn", "(I)I"⟩ ∈ jk_WS := jk_wt5 (i := 128) (by decide +kernel) rfl
theorem jw_1089 : Cond.code ⟨"LevelingNetwork$Bank", "firstColumn", "(I)I"⟩ prog_3_method_3_code 2 (Option.some ClassFile.FieldType.int) ∈ jk_WS := jk_wt5 (i := 129) (by decide +kernel) rfl
theorem jw_1090 : Cond.methodLink "LevelingNetwork$Bank" 19 ⟨"LevelingNetwork$Bank", "lastColumn", "(I)I"⟩ ∈ jk_WS := jk_wt5 (i := 130) (by decide +kernel) rfl
theorem jw_1092 : Cond.instanceMethod ⟨"LevelingNetwork$Bank", "lastColumn", "(I)I"⟩ ∈ jk_WS := jk_wt5 (i := 132) (by decide +kernel) rfl
theorem jw_1093 : Cond.code ⟨"LevelingNetwork$Bank", "lastColumn", "(I)I"⟩ prog_3_method_4_code 3 (Option.some ClassFile.FieldType.int) ∈ jk_WS := jk_wt5 (i := 133) (by decide +kernel) rfl
theorem jw_1094 : Cond.methodLinkNest "LevelingNetwork$Bank" 22 ⟨"LevelingNetwork", "within", "(III)Z"⟩ "LevelingNetwork" ∈ jk_WS := jk_wt5 (i := 134) (by decide +kernel) rfl
theorem jw_1096 : Cond.methodLink "LevelingNetwork" 307 ⟨"LevelingNetwork$Bank", "offsetAt", "(II)I"⟩ ∈ jk_WS := jk_wt5 (i := 136) (by decide +kernel) rfl
theorem jw_1097 : Cond.instanceMethod ⟨"LevelingNetwork$Bank", "offsetAt", "(II)I"⟩ ∈ jk_WS := jk_wt5 (i := 137) (by decide +kernel) rfl
theorem jw_1098 : Cond.selects "LevelingNetwork$Bank" ⟨"LevelingNetwork$Bank", "offsetAt", "(II)I"⟩ ⟨"LevelingNetwork$Bank", "offsetAt", "(II)I"⟩ ∈ jk_WS := jk_wt5 (i := 138) (by decide +kernel) rfl
theorem jw_1099 : Cond.code ⟨"LevelingNetwork$Bank", "offsetAt", "(II)I"⟩ prog_3_method_5_code 8 (Option.some ClassFile.FieldType.int) ∈ jk_WS := jk_wt5 (i := 139) (by decide +kernel) rfl
theorem jw_1100 : Cond.methodLink "LevelingNetwork$Bank" 39 ⟨"java/lang/Math", "floorDiv", "(II)I"⟩ ∈ jk_WS := jk_wt5 (i := 140) (by decide +kernel) rfl
theorem jw_1101 : Cond.static ⟨"java/lang/Math", "floorDiv", "(II)I"⟩ ∈ jk_WS := jk_wt5 (i := 141) (by decide +kernel) rfl
theorem jw_1102 : Cond.code ⟨"java/lang/Math", "floorDiv", "(II)I"⟩ prog_30_method_47_code 3 (Option.some ClassFile.FieldType.int) ∈ jk_WS := jk_wt5 (i := 142) (by decide +kernel) rfl
theorem jw_1103 : Cond.methodLink "LevelingNetworkLaw" 112 ⟨"LevelingNetwork", "wetColumns", "(I)I"⟩ ∈ jk_WS := jk_wt5 (i := 143) (by decide +kernel) rfl
theorem jw_1104 : Cond.instanceMethod ⟨"LevelingNetwork", "wetColumns", "(I)I"⟩ ∈ jk_WS := jk_wt5 (i := 144) (by decide +kernel) rfl
theorem jw_1105 : Cond.selects "LevelingNetwork" ⟨"LevelingNetwork", "wetColumns", "(I)I"⟩ ⟨"LevelingNetwork", "wetColumns", "(I)I"⟩ ∈ jk_WS := jk_wt5 (i := 145) (by decide +kernel) rfl
theorem jw_1106 : Cond.code ⟨"LevelingNetwork", "wetColumns", "(I)I"⟩ prog_1_method_48_code 2 (Option.some ClassFile.FieldType.int) ∈ jk_WS := jk_wt5 (i := 146) (by decide +kernel) rfl
theorem jw_1107 : Cond.methodLink "LevelingNetwork" 311 ⟨"LevelingNetwork", "surfaceAt", "(I)I"⟩ ∈ jk_WS := jk_wt5 (i := 147) (by decide +kernel) rfl
theorem jw_1109 : Cond.instanceMethod ⟨"LevelingNetwork", "surfaceAt", "(I)I"⟩ ∈ jk_WS := jk_wt5 (i := 149) (by decide +kernel) rfl
theorem jw_1110 : Cond.code ⟨"LevelingNetwork", "surfaceAt", "(I)I"⟩ prog_1_method_72_code 2 (Option.some ClassFile.FieldType.int) ∈ jk_WS := jk_wt5 (i := 150) (by decide +kernel) rfl
theorem jw_1111 : Cond.methodLink "LevelingNetwork" 314 ⟨"LevelingNetwork$Bank", "wetByColumns", "(II)I"⟩ ∈ jk_WS := jk_wt5 (i := 151) (by decide +kernel) rfl
theorem jw_1112 : Cond.instanceMethod ⟨"LevelingNetwork$Bank", "wetByColumns", "(II)I"⟩ ∈ jk_WS := jk_wt5 (i := 152) (by decide +kernel) rfl
theorem jw_1113 : Cond.selects "LevelingNetwork$Bank" ⟨"LevelingNetwork$Bank", "wetByColumns", "(II)I"⟩ ⟨"LevelingNetwork$Bank", "wetByColumns", "(II)I"⟩ ∈ jk_WS := jk_wt5 (i := 153) (by decide +kernel) rfl
theorem jw_1114 : Cond.code ⟨"LevelingNetwork$Bank", "wetByColumns", "(II)I"⟩ prog_3_method_6_code 6 (Option.some ClassFile.FieldType.int) ∈ jk_WS := jk_wt5 (i := 154) (by decide +kernel) rfl
theorem jw_1115 : Cond.methodLink "LevelingNetwork$Bank" 45 ⟨"LevelingNetwork$Bank", "offsetAt", "(II)I"⟩ ∈ jk_WS := jk_wt5 (i := 155) (by decide +kernel) rfl
theorem jw_1116 : Cond.methodLink "LevelingNetworkLaw" 115 ⟨"LevelingNetwork", "wetColumnsBySegments", "(I)I"⟩ ∈ jk_WS := jk_wt5 (i := 156) (by decide +kernel) rfl
theorem jw_1117 : Cond.instanceMethod ⟨"LevelingNetwork", "wetColumnsBySegments", "(I)I"⟩ ∈ jk_WS := jk_wt5 (i := 157) (by decide +kernel) rfl
theorem jw_1118 : Cond.selects "LevelingNetwork" ⟨"LevelingNetwork", "wetColumnsBySegments", "(I)I"⟩ ⟨"LevelingNetwork", "wetColumnsBySegments", "(I)I"⟩ ∈ jk_WS := jk_wt5 (i := 158) (by decide +kernel) rfl
theorem jw_1119 : Cond.code ⟨"LevelingNetwork", "wetColumnsBySegments", "(I)I"⟩ prog_1_method_49_code 2 (Option.some ClassFile.FieldType.int) ∈ jk_WS := jk_wt5 (i := 159) (by decide +kernel) rfl
theorem jw_1120 : Cond.methodLink "LevelingNetwork" 317 ⟨"LevelingNetwork$Bank", "wetBySegments", "(II)I"⟩ ∈ jk_WS := jk_wt5 (i := 160) (by decide +kernel) rfl
theorem jw_1121 : Cond.instanceMethod ⟨"LevelingNetwork$Bank", "wetBySegments", "(II)I"⟩ ∈ jk_WS := jk_wt5 (i := 161) (by decide +kernel) rfl
theorem jw_1122 : Cond.selects "LevelingNetwork$Bank" ⟨"LevelingNetwork$Bank", "wetBySegments", "(II)I"⟩ ⟨"LevelingNetwork$Bank", "wetBySegments", "(II)I"⟩ ∈ jk_WS := jk_wt5 (i := 162) (by decide +kernel) rfl
theorem jw_1123 : Cond.code ⟨"LevelingNetwork$Bank", "wetBySegments", "(II)I"⟩ prog_3_method_9_code 9 (Option.some ClassFile.FieldType.int) ∈ jk_WS := jk_wt5 (i := 163) (by decide +kernel) rfl
theorem jw_1124 : Cond.methodLink "LevelingNetwork$Bank" 48 ⟨"LevelingNetwork$Bank", "wetOfSegment", "(III)I"⟩ ∈ jk_WS := jk_wt5 (i := 164) (by decide +kernel) rfl
theorem jw_1125 : Cond.static ⟨"LevelingNetwork$Bank", "wetOfSegment", "(III)I"⟩ ∈ jk_WS := jk_wt5 (i := 165) (by decide +kernel) rfl
theorem jw_1126 : Cond.code ⟨"LevelingNetwork$Bank", "wetOfSegment", "(III)I"⟩ prog_3_method_10_code 3 (Option.some ClassFile.FieldType.int) ∈ jk_WS := jk_wt5 (i := 166) (by decide +kernel) rfl
theorem jw_1127 : Cond.methodLink "LevelingNetwork$Bank" 52 ⟨"LevelingNetwork$Bank", "clamp", "(II)I"⟩ ∈ jk_WS := jk_wt5 (i := 167) (by decide +kernel) rfl
theorem jw_1128 : Cond.static ⟨"LevelingNetwork$Bank", "clamp", "(II)I"⟩ ∈ jk_WS := jk_wt5 (i := 168) (by decide +kernel) rfl
theorem jw_1129 : Cond.code ⟨"LevelingNetwork$Bank", "clamp", "(II)I"⟩ prog_3_method_11_code 2 (Option.some ClassFile.FieldType.int) ∈ jk_WS := jk_wt5 (i := 169) (by decide +kernel) rfl
theorem jw_1130 : Cond.methodLink "LevelingNetwork$Bank" 55 ⟨"java/lang/Math", "min", "(II)I"⟩ ∈ jk_WS := jk_wt5 (i := 170) (by decide +kernel) rfl
theorem jw_1131 : Cond.methodLink "LevelingNetwork$Bank" 58 ⟨"java/lang/Math", "max", "(II)I"⟩ ∈ jk_WS := jk_wt5 (i := 171) (by decide +kernel) rfl
theorem jw_1132 : Cond.methodLink "LevelingNetworkLaw" 118 ⟨"LevelingNetwork", "shores", "(I)I"⟩ ∈ jk_WS := jk_wt5 (i := 172) (by decide +kernel) rfl
theorem jw_1133 : Cond.instanceMethod ⟨"LevelingNetwork", "shores", "(I)I"⟩ ∈ jk_WS := jk_wt5 (i := 173) (by decide +kernel) rfl
theorem jw_1134 : Cond.selects "LevelingNetwork" ⟨"LevelingNetwork", "shores", "(I)I"⟩ ⟨"LevelingNetwork", "shores", "(I)I"⟩ ∈ jk_WS := jk_wt5 (i := 174) (by decide +kernel) rfl
theorem jw_1135 : Cond.code ⟨"LevelingNetwork", "shores", "(I)I"⟩ prog_1_method_50_code 2 (Option.some ClassFile.FieldType.int) ∈ jk_WS := jk_wt5 (i := 175) (by decide +kernel) rfl
theorem jw_1136 : Cond.methodLink "LevelingNetwork" 320 ⟨"LevelingNetwork$Bank", "shoreLines", "(II)I"⟩ ∈ jk_WS := jk_wt5 (i := 176) (by decide +kernel) rfl
theorem jw_1137 : Cond.instanceMethod ⟨"LevelingNetwork$Bank", "shoreLines", "(II)I"⟩ ∈ jk_WS := jk_wt5 (i := 177) (by decide +kernel) rfl
theorem jw_1138 : Cond.selects "LevelingNetwork$Bank" ⟨"LevelingNetwork$Bank", "shoreLines", "(II)I"⟩ ⟨"LevelingNetwork$Bank", "shoreLines", "(II)I"⟩ ∈ jk_WS := jk_wt5 (i := 178) (by decide +kernel) rfl
theorem jw_1139 : Cond.code ⟨"LevelingNetwork$Bank", "shoreLines", "(II)I"⟩ prog_3_method_7_code 8 (Option.some ClassFile.FieldType.int) ∈ jk_WS := jk_wt5 (i := 179) (by decide +kernel) rfl
theorem jw_1140 : Cond.methodLink "LevelingNetworkLaw" 139 ⟨"LevelingNetwork", "lowestColumn", "(I)I"⟩ ∈ jk_WS := jk_wt5 (i := 180) (by decide +kernel) rfl
theorem jw_1141 : Cond.instanceMethod ⟨"LevelingNetwork", "lowestColumn", "(I)I"⟩ ∈ jk_WS := jk_wt5 (i := 181) (by decide +kernel) rfl
theorem jw_1142 : Cond.selects "LevelingNetwork" ⟨"LevelingNetwork", "lowestColumn", "(I)I"⟩ ⟨"LevelingNetwork", "lowestColumn", "(I)I"⟩ ∈ jk_WS := jk_wt5 (i := 182) (by decide +kernel) rfl
theorem jw_1143 : Cond.code ⟨"LevelingNetwork", "lowestColumn", "(I)I"⟩ prog_1_method_51_code 2 (Option.some ClassFile.FieldType.int) ∈ jk_WS := jk_wt5 (i := 183) (by decide +kernel) rfl
theorem jw_1145 : Cond.methodLink "LevelingNetwork" 325 ⟨"LevelingNetwork$Bank", "columnOfLowestOffset", "(I)I"⟩ ∈ jk_WS := jk_wt5 (i := 185) (by decide +kernel) rfl
theorem jw_1146 : Cond.instanceMethod ⟨"LevelingNetwork$Bank", "columnOfLowestOffset", "(I)I"⟩ ∈ jk_WS := jk_wt5 (i := 186) (by decide +kernel) rfl
theorem jw_1147 : Cond.selects "LevelingNetwork$Bank" ⟨"LevelingNetwork$Bank", "columnOfLowestOffset", "(I)I"⟩ ⟨"LevelingNetwork$Bank", "columnOfLowestOffset", "(I)I"⟩ ∈ jk_WS := jk_wt5 (i := 187) (by decide +kernel) rfl
theorem jw_1148 : Cond.code ⟨"LevelingNetwork$Bank", "columnOfLowestOffset", "(I)I"⟩ prog_3_method_8_code 5 (Option.some ClassFile.FieldType.int) ∈ jk_WS := jk_wt5 (i := 188) (by decide +kernel) rfl
theorem jw_1149 : Cond.methodLink "LevelingNetworkLaw" 332 ⟨"LevelingNetwork", "meanLength", "()D"⟩ ∈ jk_WS := jk_wt5 (i := 189) (by decide +kernel) rfl
theorem jw_1150 : Cond.instanceMethod ⟨"LevelingNetwork", "meanLength", "()D"⟩ ∈ jk_WS := jk_wt5 (i := 190) (by decide +kernel) rfl
theorem jw_1151 : Cond.selects "LevelingNetwork" ⟨"LevelingNetwork", "meanLength", "()D"⟩ ⟨"LevelingNetwork", "meanLength", "()D"⟩ ∈ jk_WS := jk_wt5 (i := 191) (by decide +kernel) rfl
theorem jw_1152 : Cond.code ⟨"LevelingNetwork", "meanLength", "()D"⟩ prog_1_method_52_code 2 (Option.some ClassFile.FieldType.double) ∈ jk_WS := jk_wt5 (i := 192) (by decide +kernel) rfl
theorem jw_1153 : Cond.methodLink "LevelingNetwork" 328 ⟨"LevelingNetwork$Survey", "usableLines", "()I"⟩ ∈ jk_WS := jk_wt5 (i := 193) (by decide +kernel) rfl
theorem jw_1154 : Cond.classLink "LevelingNetwork" 331 "java/lang/ArithmeticException" ∈ jk_WS := jk_wt5 (i := 194) (by decide +kernel) rfl
theorem jw_1155 : Cond.instantiable "java/lang/ArithmeticException" 6 ∈ jk_WS := jk_wt5 (i := 195) (by decide +kernel) rfl
theorem jw_1156 : Cond.castable "java/lang/ArithmeticException" "java/lang/ArithmeticException" ∈ jk_WS := jk_wt5 (i := 196) (by decide +kernel) rfl
theorem jw_1157 : Cond.selects "java/lang/ArithmeticException" ⟨"java/lang/Throwable", "fillInStackTrace", "(I)Ljava/lang/Throwable;"⟩ ⟨"java/lang/Throwable", "fillInStackTrace", "(I)Ljava/lang/Throwable;"⟩ ∈ jk_WS := jk_wt5 (i := 197) (by decide +kernel) rfl
theorem jw_1158 : Cond.lays "java/lang/ArithmeticException" "java/lang/Throwable" "cause" "Ljava/lang/Throwable;" ∈ jk_WS := jk_wt5 (i := 198) (by decide +kernel) rfl
theorem jw_1159 : Cond.lays "java/lang/ArithmeticException" "java/lang/Throwable" "stackTrace" "[Ljava/lang/StackTraceElement;" ∈ jk_WS := jk_wt5 (i := 199) (by decide +kernel) rfl
theorem jw_1160 : Cond.lays "java/lang/ArithmeticException" "java/lang/Throwable" "suppressedExceptions" "Ljava/util/List;" ∈ jk_WS := jk_wt5 (i := 200) (by decide +kernel) rfl
theorem jw_1161 : Cond.lays "java/lang/ArithmeticException" "java/lang/Throwable" "detailMessage" "Ljava/lang/String;" ∈ jk_WS := jk_wt5 (i := 201) (by decide +kernel) rfl
theorem jw_1162 : Cond.lays "java/lang/ArithmeticException" "java/lang/Throwable" "backtrace" "Ljava/lang/Object;" ∈ jk_WS := jk_wt5 (i := 202) (by decide +kernel) rfl
theorem jw_1164 : Cond.methodLink "LevelingNetwork" 335 ⟨"java/lang/ArithmeticException", "<init>", "(Ljava/lang/String;)V"⟩ ∈ jk_WS := jk_wt5 (i := 204) (by decide +kernel) rfl
theorem jw_1165 : Cond.instanceMethod ⟨"java/lang/ArithmeticException", "<init>", "(Ljava/lang/String;)V"⟩ ∈ jk_WS := jk_wt5 (i := 205) (by decide +kernel) rfl
theorem jw_1166 : Cond.code ⟨"java/lang/ArithmeticException", "<init>", "(Ljava/lang/String;)V"⟩ prog_19_method_2_code 2 (Option.none : Option ClassFile.FieldType) ∈ jk_WS := jk_wt5 (i := 206) (by decide +kernel) rfl
theorem jw_1167 : Cond.methodLink "java/lang/ArithmeticException" 7 ⟨"java/lang/RuntimeException", "<init>", "(Ljava/lang/String;)V"⟩ ∈ jk_WS := jk_wt5 (i := 207) (by decide +kernel) rfl
theorem jw_1168 : Cond.lays "java/lang/ArithmeticException" "java/lang/Throwable" "depth" "I" ∈ jk_WS := jk_wt5 (i := 208) (by decide +kernel) rfl
theorem jw_1169 : Cond.superclass "java/lang/ArithmeticException" "java/lang/RuntimeException" ∈ jk_WS := jk_wt5 (i := 209) (by decide +kernel) rfl
theorem jw_1170 : Cond.methodLink "LevelingNetwork" 336 ⟨"LevelingNetwork$Survey", "usableLength", "()I"⟩ ∈ jk_WS := jk_wt5 (i := 210) (by decide +kernel) rfl
theorem jw_1171 : Cond.instanceMethod ⟨"LevelingNetwork$Survey", "usableLength", "()I"⟩ ∈ jk_WS := jk_wt5 (i := 211) (by decide +kernel) rfl
theorem jw_1172 : Cond.selects "LevelingNetwork$Survey" ⟨"LevelingNetwork$Survey", "usableLength", "()I"⟩ ⟨"LevelingNetwork$Survey", "usableLength", "()I"⟩ ∈ jk_WS := jk_wt5 (i := 212) (by decide +kernel) rfl
theorem jw_1173 : Cond.code ⟨"LevelingNetwork$Survey", "usableLength", "()I"⟩ prog_11_method_15_code 3 (Option.some ClassFile.FieldType.int) ∈ jk_WS := jk_wt5 (i := 213) (by decide +kernel) rfl
theorem jw_1174 : Cond.methodLink "LevelingNetworkLaw" 327 ⟨"LevelingNetwork", "usableShare", "()F"⟩ ∈ jk_WS := jk_wt5 (i := 214) (by decide +kernel) rfl
theorem jw_1175 : Cond.instanceMethod ⟨"LevelingNetwork", "usableShare", "()F"⟩ ∈ jk_WS := jk_wt5 (i := 215) (by decide +kernel) rfl
theorem jw_1176 : Cond.selects "LevelingNetwork" ⟨"LevelingNetwork", "usableShare", "()F"⟩ ⟨"LevelingNetwork", "usableShare", "()F"⟩ ∈ jk_WS := jk_wt5 (i := 216) (by decide +kernel) rfl
theorem jw_1177 : Cond.code ⟨"LevelingNetwork", "usableShare", "()F"⟩ prog_1_method_53_code 1 (Option.some ClassFile.FieldType.float) ∈ jk_WS := jk_wt5 (i := 217) (by decide +kernel) rfl
theorem jw_1179 : Cond.methodLink "LevelingNetworkLaw" 264 ⟨"LevelingNetwork", "isConsistent", "()Z"⟩ ∈ jk_WS := jk_wt5 (i := 219) (by decide +kernel) rfl
theorem jw_1180 : Cond.instanceMethod ⟨"LevelingNetwork", "isConsistent", "()Z"⟩ ∈ jk_WS := jk_wt5 (i := 220) (by decide +kernel) rfl
theorem jw_1181 : Cond.selects "LevelingNetwork" ⟨"LevelingNetwork", "isConsistent", "()Z"⟩ ⟨"LevelingNetwork", "isConsistent", "()Z"⟩ ∈ jk_WS := jk_wt5 (i := 221) (by decide +kernel) rfl
theorem jw_1182 : Cond.code ⟨"LevelingNetwork", "isConsistent", "()Z"⟩ prog_1_method_54_code 1 (Option.some ClassFile.FieldType.boolean) ∈ jk_WS := jk_wt5 (i := 222) (by decide +kernel) rfl
theorem jw_1183 : Cond.methodLink "LevelingNetwork" 341 ⟨"LevelingNetwork", "heightsAgree", "()Z"⟩ ∈ jk_WS := jk_wt5 (i := 223) (by decide +kernel) rfl
theorem jw_1185 : Cond.instanceMethod ⟨"LevelingNetwork", "heightsAgree", "()Z"⟩ ∈ jk_WS := jk_wt5 (i := 225) (by decide +kernel) rfl
theorem jw_1186 : Cond.code ⟨"LevelingNetwork", "heightsAgree", "()Z"⟩ prog_1_method_74_code 2 (Option.some ClassFile.FieldType.boolean) ∈ jk_WS := jk_wt5 (i := 226) (by decide +kernel) rfl
theorem jw_1187 : Cond.methodLink "LevelingNetwork" 345 ⟨"LevelingNetwork", "misclosuresAgree", "()Z"⟩ ∈ jk_WS := jk_wt5 (i := 227) (by decide +kernel) rfl
theorem jw_1189 : Cond.instanceMethod ⟨"LevelingNetwork", "misclosuresAgree", "()Z"⟩ ∈ jk_WS := jk_wt5 (i := 229) (by decide +kernel) rfl
theorem jw_1190 : Cond.code ⟨"LevelingNetwork", "misclosuresAgree", "()Z"⟩ prog_1_method_75_code 2 (Option.some ClassFile.FieldType.boolean) ∈ jk_WS := jk_wt5 (i := 230) (by decide +kernel) rfl
theorem jw_1191 : Cond.methodLink "LevelingNetwork" 348 ⟨"LevelingNetwork", "wetColumnsAgree", "()Z"⟩ ∈ jk_WS := jk_wt5 (i := 231) (by decide +kernel) rfl
theorem jw_1193 : Cond.instanceMethod ⟨"LevelingNetwork", "wetColumnsAgree", "()Z"⟩ ∈ jk_WS := jk_wt5 (i := 233) (by decide +kernel) rfl
theorem jw_1194 : Cond.code ⟨"LevelingNetwork", "wetColumnsAgree", "()Z"⟩ prog_1_method_76_code 3 (Option.some ClassFile.FieldType.boolean) ∈ jk_WS := jk_wt5 (i := 234) (by decide +kernel) rfl
theorem jw_1195 : Cond.methodLink "LevelingNetworkLaw" 305 ⟨"LevelingNetwork", "renderLine", "(I)I"⟩ ∈ jk_WS := jk_wt5 (i := 235) (by decide +kernel) rfl
theorem jw_1196 : Cond.instanceMethod ⟨"LevelingNetwork", "renderLine", "(I)I"⟩ ∈ jk_WS := jk_wt5 (i := 236) (by decide +kernel) rfl
theorem jw_1197 : Cond.selects "LevelingNetwork" ⟨"LevelingNetwork", "renderLine", "(I)I"⟩ ⟨"LevelingNetwork", "renderLine", "(I)I"⟩ ∈ jk_WS := jk_wt5 (i := 237) (by decide +kernel) rfl
theorem jw_1198 : Cond.code ⟨"LevelingNetwork", "renderLine", "(I)I"⟩ prog_1_method_55_code 2 (Option.some ClassFile.FieldType.int) ∈ jk_WS := jk_wt5 (i := 238) (by decide +kernel) rfl
theorem jw_1199 : Cond.methodLink "LevelingNetwork" 351 ⟨"java/lang/StringBuilder", "setLength", "(I)V"⟩ ∈ jk_WS := jk_wt5 (i := 239) (by decide +kernel) rfl
theorem jw_1200 : Cond.instanceMethod ⟨"java/lang/StringBuilder", "setLength", "(I)V"⟩ ∈ jk_WS := jk_wt6 (i := 0) (by decide +kernel) rfl
theorem jw_1201 : Cond.selects "java/lang/StringBuilder" ⟨"java/lang/StringBuilder", "setLength", "(I)V"⟩ ⟨"java/lang/StringBuilder", "setLength", "(I)V"⟩ ∈ jk_WS := jk_wt6 (i := 1) (by decide +kernel) rfl
theorem jw_1202 : Cond.code ⟨"java/lang/StringBuilder", "setLength", "(I)V"⟩ prog_34_method_89_code 2 (Option.none : Option ClassFile.FieldType) ∈ jk_WS := jk_wt6 (i := 2) (by decide +kernel) rfl
theorem jw_1203 : Cond.methodLink "java/lang/StringBuilder" 333 ⟨"java/lang/AbstractStringBuilder", "setLength", "(I)V"⟩ ∈ jk_WS := jk_wt6 (i := 3) (by decide +kernel) rfl
theorem jw_1204 : Cond.instanceMethod ⟨"java/lang/AbstractStringBuilder", "setLength", "(I)V"⟩ ∈ jk_WS := jk_wt6 (i := 4) (by decide +kernel) rfl
theorem jw_1205 : Cond.code ⟨"java/lang/AbstractStringBuilder", "setLength", "(I)V"⟩ prog_17_method_13_code 2 (Option.none : Option ClassFile.FieldType) ∈ jk_WS := jk_wt6 (i := 5) (by decide +kernel) rfl
theorem jw_1206 : Cond.classLink "java/lang/AbstractStringBuilder" 129 "java/lang/StringIndexOutOfBoundsException" ∈ jk_WS := jk_wt6 (i := 6) (by decide +kernel) rfl
theorem jw_1207 : Cond.instantiable "java/lang/StringIndexOutOfBoundsException" 6 ∈ jk_WS := jk_wt6 (i := 7) (by decide +kernel) rfl
theorem jw_1208 : Cond.methodLink "java/lang/AbstractStringBuilder" 131 ⟨"java/lang/StringIndexOutOfBoundsException", "<init>", "(I)V"⟩ ∈ jk_WS := jk_wt6 (i := 8) (by decide +kernel) rfl
theorem jw_1209 : Cond.instanceMethod ⟨"java/lang/StringIndexOutOfBoundsException", "<init>", "(I)V"⟩ ∈ jk_WS := jk_wt6 (i := 9) (by decide +kernel) rfl
theorem jw_1210 : Cond.code ⟨"java/lang/StringIndexOutOfBoundsException", "<init>", "(I)V"⟩ prog_35_method_3_code 2 (Option.none : Option ClassFile.FieldType) ∈ jk_WS := jk_wt6 (i := 10) (by decide +kernel) rfl
theorem jw_1211 : Cond.classLink "java/lang/StringIndexOutOfBoundsException" 10 "java/lang/StringBuilder" ∈ jk_WS := jk_wt6 (i := 11) (by decide +kernel) rfl
theorem jw_1212 : Cond.methodLink "java/lang/StringIndexOutOfBoundsException" 12 ⟨"java/lang/StringBuilder", "<init>", "()V"⟩ ∈ jk_WS := jk_wt6 (i := 12) (by decide +kernel) rfl
theorem jw_1214 : Cond.methodLink "java/lang/StringIndexOutOfBoundsException" 15 ⟨"java/lang/StringBuilder", "append", "(Ljava/lang/String;)Ljava/lang/StringBuilder;"⟩ ∈ jk_WS := jk_wt6 (i := 14) (by decide +kernel) rfl
theorem jw_1215 : Cond.instanceMethod ⟨"java/lang/StringBuilder", "append", "(Ljava/lang/String;)Ljava/lang/StringBuilder;"⟩ ∈ jk_WS := jk_wt6 (i := 15) (by decide +kernel) rfl
theorem jw_1216 : Cond.selects "java/lang/StringBuilder" ⟨"java/lang/StringBuilder", "append", "(Ljava/lang/String;)Ljava/lang/StringBuilder;"⟩ ⟨"java/lang/StringBuilder", "append", "(Ljava/lang/String;)Ljava/lang/StringBuilder;"⟩ ∈ jk_WS := jk_wt6 (i := 16) (by decide +kernel) rfl
theorem jw_1217 : Cond.code ⟨"java/lang/StringBuilder", "append", "(Ljava/lang/String;)Ljava/lang/StringBuilder;"⟩ prog_34_method_7_code 2 (Option.some (ClassFile.FieldType.object "java/lang/StringBuilder")) ∈ jk_WS := jk_wt6 (i := 17) (by decide +kernel) rfl
theorem jw_1218 : Cond.methodLink "java/lang/StringBuilder" 29 ⟨"java/lang/AbstractStringBuilder", "append", "(Ljava/lang/String;)Ljava/lang/AbstractStringBuilder;"⟩ ∈ jk_WS := jk_wt6 (i := 18) (by decide +kernel) rfl
theorem jw_1219 : Cond.instanceMethod ⟨"java/lang/AbstractStringBuilder", "append", "(Ljava/lang/String;)Ljava/lang/AbstractStringBuilder;"⟩ ∈ jk_WS := jk_wt6 (i := 19) (by decide +kernel) rfl
theorem jw_1220 : Cond.code ⟨"java/lang/AbstractStringBuilder", "append", "(Ljava/lang/String;)Ljava/lang/AbstractStringBuilder;"⟩ prog_17_method_22_code 3 (Option.some (ClassFile.FieldType.object "java/lang/AbstractStringBuilder")) ∈ jk_WS := jk_wt6 (i := 20) (by decide +kernel) rfl
theorem jw_1221 : Cond.methodLink "java/lang/AbstractStringBuilder" 204 ⟨"java/lang/AbstractStringBuilder", "appendNull", "()Ljava/lang/AbstractStringBuilder;"⟩ ∈ jk_WS := jk_wt6 (i := 21) (by decide +kernel) rfl
theorem jw_1223 : Cond.instanceMethod ⟨"java/lang/AbstractStringBuilder", "appendNull", "()Ljava/lang/AbstractStringBuilder;"⟩ ∈ jk_WS := jk_wt6 (i := 23) (by decide +kernel) rfl
theorem jw_1224 : Cond.code ⟨"java/lang/AbstractStringBuilder", "appendNull", "()Ljava/lang/AbstractStringBuilder;"⟩ prog_17_method_26_code 3 (Option.some (ClassFile.FieldType.object "java/lang/AbstractStringBuilder")) ∈ jk_WS := jk_wt6 (i := 24) (by decide +kernel) rfl
theorem jw_1225 : Cond.methodLink "java/lang/AbstractStringBuilder" 100 ⟨"java/lang/AbstractStringBuilder", "ensureCapacityInternal", "(I)V"⟩ ∈ jk_WS := jk_wt6 (i := 25) (by decide +kernel) rfl
theorem jw_1227 : Cond.instanceMethod ⟨"java/lang/AbstractStringBuilder", "ensureCapacityInternal", "(I)V"⟩ ∈ jk_WS := jk_wt6 (i := 27) (by decide +kernel) rfl
theorem jw_1228 : Cond.code ⟨"java/lang/AbstractStringBuilder", "ensureCapacityInternal", "(I)V"⟩ prog_17_method_9_code 3 (Option.none : Option ClassFile.FieldType) ∈ jk_WS := jk_wt6 (i := 28) (by decide +kernel) rfl
theorem jw_1229 : Cond.methodLink "java/lang/AbstractStringBuilder" 104 ⟨"java/lang/AbstractStringBuilder", "newCapacity", "(I)I"⟩ ∈ jk_WS := jk_wt6 (i := 29) (by decide +kernel) rfl
theorem jw_1231 : Cond.instanceMethod ⟨"java/lang/AbstractStringBuilder", "newCapacity", "(I)I"⟩ ∈ jk_WS := jk_wt6 (i := 31) (by decide +kernel) rfl
theorem jw_1232 : Cond.code ⟨"java/lang/AbstractStringBuilder", "newCapacity", "(I)I"⟩ prog_17_method_10_code 6 (Option.some ClassFile.FieldType.int) ∈ jk_WS := jk_wt6 (i := 32) (by decide +kernel) rfl
theorem jw_1233 : Cond.methodLink "java/lang/AbstractStringBuilder" 114 ⟨"jdk/internal/util/ArraysSupport", "newLength", "(III)I"⟩ ∈ jk_WS := jk_wt6 (i := 33) (by decide +kernel) rfl
theorem jw_1234 : Cond.static ⟨"jdk/internal/util/ArraysSupport", "newLength", "(III)I"⟩ ∈ jk_WS := jk_wt6 (i := 34) (by decide +kernel) rfl
theorem jw_1235 : Cond.code ⟨"jdk/internal/util/ArraysSupport", "newLength", "(III)I"⟩ prog_45_method_27_code 4 (Option.some ClassFile.FieldType.int) ∈ jk_WS := jk_wt6 (i := 35) (by decide +kernel) rfl
theorem jw_1236 : Cond.methodLink "jdk/internal/util/ArraysSupport" 194 ⟨"java/lang/Math", "max", "(II)I"⟩ ∈ jk_WS := jk_wt6 (i := 36) (by decide +kernel) rfl
theorem jw_1237 : Cond.constant "jdk/internal/util/ArraysSupport" 200 (2147483639 : Int32) ∈ jk_WS := jk_wt6 (i := 37) (by decide +kernel) rfl
theorem jw_1238 : Cond.methodLink "jdk/internal/util/ArraysSupport" 201 ⟨"jdk/internal/util/ArraysSupport", "hugeLength", "(II)I"⟩ ∈ jk_WS := jk_wt6 (i := 38) (by decide +kernel) rfl
theorem jw_1239 : Cond.static ⟨"jdk/internal/util/ArraysSupport", "hugeLength", "(II)I"⟩ ∈ jk_WS := jk_wt6 (i := 39) (by decide +kernel) rfl
theorem jw_1240 : Cond.code ⟨"jdk/internal/util/ArraysSupport", "hugeLength", "(II)I"⟩ prog_45_method_28_code 3 (Option.some ClassFile.FieldType.int) ∈ jk_WS := jk_wt6 (i := 40) (by decide +kernel) rfl
theorem jw_1241 : Cond.constant "java/lang/AbstractStringBuilder" 39 (2147483647 : Int32) ∈ jk_WS := jk_wt6 (i := 41) (by decide +kernel) rfl
theorem jw_1242 : Cond.methodLink "java/lang/AbstractStringBuilder" 108 ⟨"java/util/Arrays", "copyOf", "([BI)[B"⟩ ∈ jk_WS := jk_wt6 (i := 42) (by decide +kernel) rfl
theorem jw_1243 : Cond.static ⟨"java/util/Arrays", "copyOf", "([BI)[B"⟩ ∈ jk_WS := jk_wt6 (i := 43) (by decide +kernel) rfl
theorem jw_1244 : Cond.code ⟨"java/util/Arrays", "copyOf", "([BI)[B"⟩ prog_43_method_121_code 3 (Option.some (ClassFile.FieldType.array ClassFile.FieldType.byte)) ∈ jk_WS := jk_wt6 (i := 44) (by decide +kernel) rfl
theorem jw_1245 : Cond.methodLink "java/util/Arrays" 310 ⟨"[B", "clone", "()Ljava/lang/Object;"⟩ ∈ jk_WS := jk_wt6 (i := 45) (by decide +kernel) rfl
theorem jw_1246 : Cond.sameMethod "[B" "java/lang/Object" "clone" "()Ljava/lang/Object;" ∈ jk_WS := jk_wt6 (i := 46) (by decide +kernel) rfl
theorem jw_1247 : Cond.native ⟨"java/lang/Object", "clone", "()Ljava/lang/Object;"⟩ ∈ jk_WS := jk_wt6 (i := 47) (by decide +kernel) rfl
theorem jw_1248 : Cond.instanceMethod ⟨"java/lang/Object", "clone", "()Ljava/lang/Object;"⟩ ∈ jk_WS := jk_wt6 (i := 48) (by decide +kernel) rfl
theorem jw_1249 : Cond.selects "[B" ⟨"[B", "clone", "()Ljava/lang/Object;"⟩ ⟨"java/lang/Object", "clone", "()Ljava/lang/Object;"⟩ ∈ jk_WS := jk_wt6 (i := 49) (by decide +kernel) rfl
theorem jw_1250 : Cond.castable "[B" "java/lang/Cloneable" ∈ jk_WS := jk_wt6 (i := 50) (by decide +kernel) rfl
theorem jw_1251 : Cond.classLink "java/util/Arrays" 311 "[B" ∈ jk_WS := jk_wt6 (i := 51) (by decide +kernel) rfl
theorem jw_1252 : Cond.methodLink "java/util/Arrays" 304 ⟨"java/lang/Math", "min", "(II)I"⟩ ∈ jk_WS := jk_wt6 (i := 52) (by decide +kernel) rfl
theorem jw_1253 : Cond.methodLink "java/util/Arrays" 150 ⟨"java/lang/System", "arraycopy", "(Ljava/lang/Object;ILjava/lang/Object;II)V"⟩ ∈ jk_WS := jk_wt6 (i := 53) (by decide +kernel) rfl
theorem jw_1254 : Cond.static ⟨"java/lang/System", "arraycopy", "(Ljava/lang/Object;ILjava/lang/Object;II)V"⟩ ∈ jk_WS := jk_wt6 (i := 54) (by decide +kernel) rfl
theorem jw_1255 : Cond.native ⟨"java/lang/System", "arraycopy", "(Ljava/lang/Object;ILjava/lang/Object;II)V"⟩ ∈ jk_WS := jk_wt6 (i := 55) (by decide +kernel) rfl
theorem jw_1256 : Cond.methodLink "java/lang/AbstractStringBuilder" 83 ⟨"java/lang/AbstractStringBuilder", "isLatin1", "()Z"⟩ ∈ jk_WS := jk_wt6 (i := 56) (by decide +kernel) rfl
theorem jw_1257 : Cond.instanceMethod ⟨"java/lang/AbstractStringBuilder", "isLatin1", "()Z"⟩ ∈ jk_WS := jk_wt6 (i := 57) (by decide +kernel) rfl
theorem jw_1258 : Cond.sameMethod "java/lang/AbstractStringBuilder" "java/lang/AbstractStringBuilder" "isLatin1" "()Z" ∈ jk_WS := jk_wt6 (i := 58) (by decide +kernel) rfl
theorem jw_1259 : Cond.selects "java/lang/StringBuilder" ⟨"java/lang/AbstractStringBuilder", "isLatin1", "()Z"⟩ ⟨"java/lang/AbstractStringBuilder", "isLatin1", "()Z"⟩ ∈ jk_WS := jk_wt6 (i := 59) (by decide +kernel) rfl
theorem jw_1260 : Cond.code ⟨"java/lang/AbstractStringBuilder", "isLatin1", "()Z"⟩ prog_17_method_68_code 1 (Option.some ClassFile.FieldType.boolean) ∈ jk_WS := jk_wt6 (i := 60) (by decide +kernel) rfl
theorem jw_1261 : Cond.methodLink "java/lang/AbstractStringBuilder" 226 ⟨"java/lang/StringUTF16", "putCharsAt", "([BICCCC)I"⟩ ∈ jk_WS := jk_wt6 (i := 61) (by decide +kernel) rfl
theorem jw_1262 : Cond.static ⟨"java/lang/StringUTF16", "putCharsAt", "([BICCCC)I"⟩ ∈ jk_WS := jk_wt6 (i := 62) (by decide +kernel) rfl
theorem jw_1263 : Cond.code ⟨"java/lang/StringUTF16", "putCharsAt", "([BICCCC)I"⟩ prog_37_method_81_code 7 (Option.some ClassFile.FieldType.int) ∈ jk_WS := jk_wt6 (i := 63) (by decide +kernel) rfl
theorem jw_1264 : Cond.methodLink "java/lang/StringUTF16" 96 ⟨"java/lang/StringUTF16", "checkBoundsBeginEnd", "(II[B)V"⟩ ∈ jk_WS := jk_wt6 (i := 64) (by decide +kernel) rfl
theorem jw_1265 : Cond.static ⟨"java/lang/StringUTF16", "checkBoundsBeginEnd", "(II[B)V"⟩ ∈ jk_WS := jk_wt6 (i := 65) (by decide +kernel) rfl
theorem jw_1266 : Cond.code ⟨"java/lang/StringUTF16", "checkBoundsBeginEnd", "(II[B)V"⟩ prog_37_method_93_code 3 (Option.none : Option ClassFile.FieldType) ∈ jk_WS := jk_wt6 (i := 66) (by decide +kernel) rfl
theorem jw_1267 : Cond.methodLink "java/lang/StringUTF16" 48 ⟨"java/lang/StringUTF16", "length", "([B)I"⟩ ∈ jk_WS := jk_wt6 (i := 67) (by decide +kernel) rfl
theorem jw_1268 : Cond.static ⟨"java/lang/StringUTF16", "length", "([B)I"⟩ ∈ jk_WS := jk_wt6 (i := 68) (by decide +kernel) rfl
theorem jw_1269 : Cond.code ⟨"java/lang/StringUTF16", "length", "([B)I"⟩ prog_37_method_6_code 1 (Option.some ClassFile.FieldType.int) ∈ jk_WS := jk_wt6 (i := 69) (by decide +kernel) rfl
theorem jw_1270 : Cond.methodLink "java/lang/StringUTF16" 241 ⟨"java/lang/String", "checkBoundsBeginEnd", "(III)V"⟩ ∈ jk_WS := jk_wt6 (i := 70) (by decide +kernel) rfl
