abbrev mX1_init : jk_M := (RX1, cX1_init, 2, none, [], true, 1)
theorem jm_X1_init : jk_mI yX1_init mX1_init 1 := ⟨⟨jw_283, jw_8, ⟨by decide +kernel, by decide +kernel⟩, by decide +kernel, by decide +kernel, rfl, by decide, fun _ => rfl, rfl⟩, rfl, jw_282, rfl⟩
abbrev mX1_hasColumn : jk_M := (RX1, cX1_hasColumn, 3, (some FieldType.boolean), [], false, 1)
theorem jm_X1_hasColumn : jk_mV yX1_hasColumn mX1_hasColumn 2 := ⟨⟨jw_1085, jw_8, ⟨by decide +kernel, by decide +kernel⟩, by decide +kernel, by decide +kernel, rfl, by decide, fun h => absurd h (by decide), rfl⟩, jw_1083, jw_1084⟩
abbrev mX1_firstColumn : jk_M := (RX1, cX1_firstColumn, 2, (some FieldType.int), [], false, 0)
theorem jm_X1_firstColumn : jk_mV yX1_firstColumn mX1_firstColumn 1 := ⟨⟨jw_1089, jw_8, ⟨by decide +kernel, by decide +kernel⟩, by decide +kernel, by decide +kernel, rfl, by decide, fun h => absurd h (by decide), rfl⟩, jw_1088, jw_s36⟩
abbrev mX1_lastColumn : jk_M := (RX1, cX1_lastColumn, 3, (some FieldType.int), [], false, 0)
theorem jm_X1_lastColumn : jk_mV yX1_lastColumn mX1_lastColumn 1 := ⟨⟨jw_1093, jw_8, ⟨by decide +kernel, by decide +kernel⟩, by decide +kernel, by decide +kernel, rfl, by decide, fun h => absurd h (by decide), rfl⟩, jw_1092, jw_s37⟩
abbrev mX1_offsetAt : jk_M := (RX1, cX1_offsetAt, 8, (some FieldType.int), [], false, 1)
theorem jm_X1_offsetAt : jk_mV yX1_offsetAt mX1_offsetAt 2 := ⟨⟨jw_1099, jw_8, ⟨by decide +kernel, by decide +kernel⟩, by decide +kernel, by decide +kernel, rfl, by decide, fun h => absurd h (by decide), rfl⟩, jw_1097, jw_1098⟩
abbrev mX1_wetByColumns : jk_M := (RX1, cX1_wetByColumns, 6, (some FieldType.int), [], false, 2)
theorem jm_X1_wetByColumns : jk_mV yX1_wetByColumns mX1_wetByColumns 2 := ⟨⟨jw_1114, jw_8, ⟨by decide +kernel, by decide +kernel⟩, by decide +kernel, by decide +kernel, rfl, by decide, fun h => absurd h (by decide), rfl⟩, jw_1112, jw_1113⟩
abbrev mX1_shoreLines : jk_M := (RX1, cX1_shoreLines, 8, (some FieldType.int), [], false, 2)
theorem jm_X1_shoreLines : jk_mV yX1_shoreLines mX1_shoreLines 2 := ⟨⟨jw_1139, jw_8, ⟨by decide +kernel, by decide +kernel⟩, by decide +kernel, by decide +kernel, rfl, by decide, fun h => absurd h (by decide), rfl⟩, jw_1137, jw_1138⟩
abbrev mX1_columnOfLowestOffset : jk_M := (RX1, cX1_columnOfLowestOffset, 5, (some FieldType.int), [], false, 2)
theorem jm_X1_columnOfLowestOffset : jk_mV yX1_columnOfLowestOffset mX1_columnOfLowestOffset 1 := ⟨⟨jw_1148, jw_8, ⟨by decide +kernel, by decide +kernel⟩, by decide +kernel, by decide +kernel, rfl, by decide, fun h => absurd h (by decide), rfl⟩, jw_1146, jw_1147⟩
abbrev mX1_wetBySegments : jk_M := (RX1, cX1_wetBySegments, 9, (some FieldType.int), [], false, 3)
theorem jm_X1_wetBySegments : jk_mV yX1_wetBySegments mX1_wetBySegments 2 := ⟨⟨jw_1123, jw_8, ⟨by decide +kernel, by decide +kernel⟩, by decide +kernel, by decide +kernel, rfl, by decide, fun h => absurd h (by decide), rfl⟩, jw_1121, jw_1122⟩
abbrev mX1_wetOfSegment : jk_M := (RX1, cX1_wetOfSegment, 3, (some FieldType.int), [], false, 2)
theorem jm_X1_wetOfSegment : jk_mS yX1_wetOfSegment mX1_wetOfSegment 3 := ⟨⟨jw_1126, jw_8, ⟨by decide +kernel, by decide +kernel⟩, by decide +kernel, by decide +kernel, rfl, by decide, fun h => absurd h (by decide), rfl⟩, jw_1125⟩
abbrev mX1_clamp : jk_M := (RX1, cX1_clamp, 2, (some FieldType.int), [], false, 1)
theorem jm_X1_clamp : jk_mS yX1_clamp mX1_clamp 2 := ⟨⟨jw_1129, jw_8, ⟨by decide +kernel, by decide +kernel⟩, by decide +kernel, by decide +kernel, rfl, by decide, fun h => absurd h (by decide), rfl⟩, jw_1128⟩
abbrev mX2_init : jk_M := (RX2, cX2_init, 5, none, [], true, 1)
theorem jm_X2_init : jk_mI yX2_init mX2_init 4 := ⟨⟨jw_293, jw_9, ⟨by decide +kernel, by decide +kernel⟩, by decide +kernel, by decide +kernel, rfl, by decide, fun _ => rfl, rfl⟩, rfl, jw_292, rfl⟩
abbrev mX2_troubleWith : jk_M := (RX2, cX2_troubleWith, 6, (some (FieldType.object "LevelingNetwork$Trouble")), [], false, 17)
theorem jm_X2_troubleWith : jk_mV yX2_troubleWith mX2_troubleWith 5 := ⟨⟨jw_434, jw_9, ⟨by decide +kernel, by decide +kernel⟩, by decide +kernel, by decide +kernel, rfl, by decide, fun h => absurd h (by decide), rfl⟩, jw_432, jw_433⟩
abbrev mX2_stateTroubleUnless : jk_M := (RX2, cX2_stateTroubleUnless, 1, (some (FieldType.object "LevelingNetwork$Trouble")), [], false, 0)
theorem jm_X2_stateTroubleUnless : jk_mS yX2_stateTroubleUnless mX2_stateTroubleUnless 1 := ⟨⟨jw_445, jw_9, ⟨by decide +kernel, by decide +kernel⟩, by decide +kernel, by decide +kernel, rfl, by decide, fun h => absurd h (by decide), rfl⟩, jw_444⟩
abbrev mX2_isHeight : jk_M := (RX2, cX2_isHeight, 1, (some FieldType.boolean), [], false, 1)
theorem jm_X2_isHeight : jk_mS yX2_isHeight mX2_isHeight 1 := ⟨⟨jw_462, jw_9, ⟨by decide +kernel, by decide +kernel⟩, by decide +kernel, by decide +kernel, rfl, by decide, fun h => absurd h (by decide), rfl⟩, jw_461⟩
abbrev mX2_isRun : jk_M := (RX2, cX2_isRun, 1, (some FieldType.boolean), [], false, 1)
theorem jm_X2_isRun : jk_mS yX2_isRun mX2_isRun 1 := ⟨⟨jw_480, jw_9, ⟨by decide +kernel, by decide +kernel⟩, by decide +kernel, by decide +kernel, rfl, by decide, fun h => absurd h (by decide), rfl⟩, jw_479⟩
abbrev mX2_troubleWithFixing : jk_M := (RX2, cX2_troubleWithFixing, 3, (some (FieldType.object "LevelingNetwork$Trouble")), [], false, 2)
theorem jm_X2_troubleWithFixing : jk_mV yX2_troubleWithFixing mX2_troubleWithFixing 2 := ⟨⟨jw_453, jw_9, ⟨by decide +kernel, by decide +kernel⟩, by decide +kernel, by decide +kernel, rfl, by decide, fun h => absurd h (by decide), rfl⟩, jw_452, jw_s1⟩
abbrev mX2_troubleWithFreeing : jk_M := (RX2, cX2_troubleWithFreeing, 2, (some (FieldType.object "LevelingNetwork$Trouble")), [], false, 1)
theorem jm_X2_troubleWithFreeing : jk_mV yX2_troubleWithFreeing mX2_troubleWithFreeing 1 := ⟨⟨jw_473, jw_9, ⟨by decide +kernel, by decide +kernel⟩, by decide +kernel, by decide +kernel, rfl, by decide, fun h => absurd h (by decide), rfl⟩, jw_472, jw_s2⟩
abbrev mX2_troubleWithLine : jk_M := (RX2, cX2_troubleWithLine, 5, (some (FieldType.object "LevelingNetwork$Trouble")), [], false, 2)
theorem jm_X2_troubleWithLine : jk_mV yX2_troubleWithLine mX2_troubleWithLine 4 := ⟨⟨jw_477, jw_9, ⟨by decide +kernel, by decide +kernel⟩, by decide +kernel, by decide +kernel, rfl, by decide, fun h => absurd h (by decide), rfl⟩, jw_476, jw_s3⟩
abbrev mX2_troubleWithBackwardRun : jk_M := (RX2, cX2_troubleWithBackwardRun, 3, (some (FieldType.object "LevelingNetwork$Trouble")), [], false, 2)
theorem jm_X2_troubleWithBackwardRun : jk_mV yX2_troubleWithBackwardRun mX2_troubleWithBackwardRun 2 := ⟨⟨jw_484, jw_9, ⟨by decide +kernel, by decide +kernel⟩, by decide +kernel, by decide +kernel, rfl, by decide, fun h => absurd h (by decide), rfl⟩, jw_483, jw_s4⟩
abbrev mX2_troubleWithExclusion : jk_M := (RX2, cX2_troubleWithExclusion, 3, (some (FieldType.object "LevelingNetwork$Trouble")), [], false, 1)
theorem jm_X2_troubleWithExclusion : jk_mV yX2_troubleWithExclusion mX2_troubleWithExclusion 2 := ⟨⟨jw_492, jw_9, ⟨by decide +kernel, by decide +kernel⟩, by decide +kernel, by decide +kernel, rfl, by decide, fun h => absurd h (by decide), rfl⟩, jw_491, jw_s5⟩
abbrev mX2_troubleWithSharing : jk_M := (RX2, cX2_troubleWithSharing, 3, (some (FieldType.object "LevelingNetwork$Trouble")), [], false, 16)
theorem jm_X2_troubleWithSharing : jk_mV yX2_troubleWithSharing mX2_troubleWithSharing 1 := ⟨⟨jw_496, jw_9, ⟨by decide +kernel, by decide +kernel⟩, by decide +kernel, by decide +kernel, rfl, by decide, fun h => absurd h (by decide), rfl⟩, jw_495, jw_s6⟩
abbrev mX2_troubleWithProfile : jk_M := (RX2, cX2_troubleWithProfile, 2, (some (FieldType.object "LevelingNetwork$Trouble")), [], false, 1)
theorem jm_X2_troubleWithProfile : jk_mV yX2_troubleWithProfile mX2_troubleWithProfile 1 := ⟨⟨jw_573, jw_9, ⟨by decide +kernel, by decide +kernel⟩, by decide +kernel, by decide +kernel, rfl, by decide, fun h => absurd h (by decide), rfl⟩, jw_572, jw_s11⟩
abbrev mX2_troubleWithStation : jk_M := (RX2, cX2_troubleWithStation, 5, (some (FieldType.object "LevelingNetwork$Trouble")), [], false, 1)
theorem jm_X2_troubleWithStation : jk_mV yX2_troubleWithStation mX2_troubleWithStation 3 := ⟨⟨jw_577, jw_9, ⟨by decide +kernel, by decide +kernel⟩, by decide +kernel, by decide +kernel, rfl, by decide, fun h => absurd h (by decide), rfl⟩, jw_576, jw_s12⟩
abbrev mX2_carryOut : jk_M := (RX2, cX2_carryOut, 6, (some FieldType.int), [], false, 17)
theorem jm_X2_carryOut : jk_mV yX2_carryOut mX2_carryOut 5 := ⟨⟨jw_749, jw_9, ⟨by decide +kernel, by decide +kernel⟩, by decide +kernel, by decide +kernel, rfl, by decide, fun h => absurd h (by decide), rfl⟩, jw_747, jw_748⟩
abbrev mX2_putBenchmark : jk_M := (RX2, cX2_putBenchmark, 2, (some FieldType.int), [], false, 0)
theorem jm_X2_putBenchmark : jk_mV yX2_putBenchmark mX2_putBenchmark 0 := ⟨⟨jw_753, jw_9, ⟨by decide +kernel, by decide +kernel⟩, by decide +kernel, by decide +kernel, rfl, by decide, fun h => absurd h (by decide), rfl⟩, jw_752, jw_s17⟩
abbrev mX2_putLine : jk_M := (RX2, cX2_putLine, 6, (some FieldType.int), [], false, 0)
theorem jm_X2_putLine : jk_mV yX2_putLine mX2_putLine 4 := ⟨⟨jw_761, jw_9, ⟨by decide +kernel, by decide +kernel⟩, by decide +kernel, by decide +kernel, rfl, by decide, fun h => absurd h (by decide), rfl⟩, jw_760, jw_s18⟩
abbrev mX2_shareOut : jk_M := (RX2, cX2_shareOut, 3, (some FieldType.int), [], false, 16)
theorem jm_X2_shareOut : jk_mV yX2_shareOut mX2_shareOut 1 := ⟨⟨jw_771, jw_9, ⟨by decide +kernel, by decide +kernel⟩, by decide +kernel, by decide +kernel, rfl, by decide, fun h => absurd h (by decide), rfl⟩, jw_770, jw_s19⟩
abbrev mX2_clearCorrections : jk_M := (RX2, cX2_clearCorrections, 3, (some FieldType.int), [], false, 0)
theorem jm_X2_clearCorrections : jk_mV yX2_clearCorrections mX2_clearCorrections 0 := ⟨⟨jw_790, jw_9, ⟨by decide +kernel, by decide +kernel⟩, by decide +kernel, by decide +kernel, rfl, by decide, fun h => absurd h (by decide), rfl⟩, jw_789, jw_s21⟩
abbrev mX2_putProfile : jk_M := (RX2, cX2_putProfile, 3, (some FieldType.int), [], false, 0)
theorem jm_X2_putProfile : jk_mV yX2_putProfile mX2_putProfile 1 := ⟨⟨jw_794, jw_9, ⟨by decide +kernel, by decide +kernel⟩, by decide +kernel, by decide +kernel, rfl, by decide, fun h => absurd h (by decide), rfl⟩, jw_793, jw_s22⟩
abbrev mX2_putStation : jk_M := (RX2, cX2_putStation, 5, (some FieldType.int), [], false, 0)
theorem jm_X2_putStation : jk_mV yX2_putStation mX2_putStation 3 := ⟨⟨jw_798, jw_9, ⟨by decide +kernel, by decide +kernel⟩, by decide +kernel, by decide +kernel, rfl, by decide, fun h => absurd h (by decide), rfl⟩, jw_797, jw_s23⟩
abbrev mX2_putWater : jk_M := (RX2, cX2_putWater, 3, (some FieldType.int), [], false, 0)
theorem jm_X2_putWater : jk_mV yX2_putWater mX2_putWater 1 := ⟨⟨jw_802, jw_9, ⟨by decide +kernel, by decide +kernel⟩, by decide +kernel, by decide +kernel, rfl, by decide, fun h => absurd h (by decide), rfl⟩, jw_801, jw_s24⟩
abbrev mX3_init : jk_M := (RX3, cX3_init, 2, none, [], true, 1)
theorem jm_X3_init : jk_mI yX3_init mX3_init 1 := ⟨⟨jw_187, jw_4, ⟨by decide +kernel, by decide +kernel⟩, by decide +kernel, by decide +kernel, rfl, by decide, fun _ => rfl, rfl⟩, rfl, jw_186, rfl⟩
abbrev mX3_find : jk_M := (RX3, cX3_find, 2, none, [], false, 3)
theorem jm_X3_find : jk_mV yX3_find mX3_find 0 := ⟨⟨jw_500, jw_4, ⟨by decide +kernel, by decide +kernel⟩, by decide +kernel, by decide +kernel, rfl, by decide, fun h => absurd h (by decide), rfl⟩, jw_498, jw_499⟩
abbrev mX3_putInOrder : jk_M := (RX3, cX3_putInOrder, 3, none, [], false, 2)
theorem jm_X3_putInOrder : jk_mV yX3_putInOrder mX3_putInOrder 0 := ⟨⟨jw_504, jw_4, ⟨by decide +kernel, by decide +kernel⟩, by decide +kernel, by decide +kernel, rfl, by decide, fun h => absurd h (by decide), rfl⟩, jw_503, jw_s7⟩
abbrev mX3_consider : jk_M := (RX3, cX3_consider, 7, none, [], false, 1)
theorem jm_X3_consider : jk_mV yX3_consider mX3_consider 1 := ⟨⟨jw_522, jw_4, ⟨by decide +kernel, by decide +kernel⟩, by decide +kernel, by decide +kernel, rfl, by decide, fun h => absurd h (by decide), rfl⟩, jw_521, jw_s8⟩
abbrev mX3_takenLength : jk_M := (RX3, cX3_takenLength, 3, (some FieldType.int), [], false, 0)
theorem jm_X3_takenLength : jk_mV yX3_takenLength mX3_takenLength 0 := ⟨⟨jw_992, jw_4, ⟨by decide +kernel, by decide +kernel⟩, by decide +kernel, by decide +kernel, rfl, by decide, fun h => absurd h (by decide), rfl⟩, jw_990, jw_991⟩
abbrev mX3_grownLength : jk_M := (RX3, cX3_grownLength, 3, (some FieldType.int), [], false, 2)
theorem jm_X3_grownLength : jk_mV yX3_grownLength mX3_grownLength 0 := ⟨⟨jw_1000, jw_4, ⟨by decide +kernel, by decide +kernel⟩, by decide +kernel, by decide +kernel, rfl, by decide, fun h => absurd h (by decide), rfl⟩, jw_998, jw_999⟩
abbrev mX3_growReached : jk_M := (RX3, cX3_growReached, 4, (some FieldType.int), [], false, 1)
theorem jm_X3_growReached : jk_mV yX3_growReached mX3_growReached 0 := ⟨⟨jw_1004, jw_4, ⟨by decide +kernel, by decide +kernel⟩, by decide +kernel, by decide +kernel, rfl, by decide, fun h => absurd h (by decide), rfl⟩, jw_1003, jw_s32⟩
abbrev mX3_firstLineOutOfReached : jk_M := (RX3, cX3_firstLineOutOfReached, 3, (some FieldType.int), [], false, 0)
theorem jm_X3_firstLineOutOfReached : jk_mV yX3_firstLineOutOfReached mX3_firstLineOutOfReached 0 := ⟨⟨jw_1008, jw_4, ⟨by decide +kernel, by decide +kernel⟩, by decide +kernel, by decide +kernel, rfl, by decide, fun h => absurd h (by decide), rfl⟩, jw_1007, jw_s33⟩
abbrev mX3_trees : jk_M := (RX3, cX3_trees, 3, (some FieldType.int), [], false, 0)
theorem jm_X3_trees : jk_mV yX3_trees mX3_trees 0 := ⟨⟨jw_1016, jw_4, ⟨by decide +kernel, by decide +kernel⟩, by decide +kernel, by decide +kernel, rfl, by decide, fun h => absurd h (by decide), rfl⟩, jw_1014, jw_1015⟩
abbrev mX3_closesLoop : jk_M := (RX3, cX3_closesLoop, 2, (some FieldType.boolean), [], false, 2)
theorem jm_X3_closesLoop : jk_mV yX3_closesLoop mX3_closesLoop 1 := ⟨⟨jw_532, jw_4, ⟨by decide +kernel, by decide +kernel⟩, by decide +kernel, by decide +kernel, rfl, by decide, fun h => absurd h (by decide), rfl⟩, jw_530, jw_531⟩
abbrev mX3_loops : jk_M := (RX3, cX3_loops, 3, (some FieldType.int), [], false, 3)
theorem jm_X3_loops : jk_mV yX3_loops mX3_loops 0 := ⟨⟨jw_1024, jw_4, ⟨by decide +kernel, by decide +kernel⟩, by decide +kernel, by decide +kernel, rfl, by decide, fun h => absurd h (by decide), rfl⟩, jw_1022, jw_1023⟩
abbrev mX3_closingLineAt : jk_M := (RX3, cX3_closingLineAt, 4, (some FieldType.int), [], false, 3)
theorem jm_X3_closingLineAt : jk_mV yX3_closingLineAt mX3_closingLineAt 1 := ⟨⟨jw_1033, jw_4, ⟨by decide +kernel, by decide +kernel⟩, by decide +kernel, by decide +kernel, rfl, by decide, fun h => absurd h (by decide), rfl⟩, jw_1031, jw_1032⟩
abbrev mX4_init : jk_M := (RX4, cX4_init, 3, none, [], true, 2)
theorem jm_X4_init : jk_mI yX4_init mX4_init 2 := ⟨⟨jw_259, jw_7, ⟨by decide +kernel, by decide +kernel⟩, by decide +kernel, by decide +kernel, rfl, by decide, fun _ => rfl, rfl⟩, rfl, jw_258, rfl⟩
abbrev mX4_datumOf : jk_M := (RX4, cX4_datumOf, 3, (some FieldType.int), [], false, 0)
theorem jm_X4_datumOf : jk_mV yX4_datumOf mX4_datumOf 1 := ⟨⟨jw_873, jw_7, ⟨by decide +kernel, by decide +kernel⟩, by decide +kernel, by decide +kernel, rfl, by decide, fun h => absurd h (by decide), rfl⟩, jw_871, jw_872⟩
abbrev mX4_exists : jk_M := (RX4, cX4_exists, 2, (some FieldType.boolean), [], false, 1)
theorem jm_X4_exists : jk_mV yX4_exists mX4_exists 1 := ⟨⟨jw_869, jw_7, ⟨by decide +kernel, by decide +kernel⟩, by decide +kernel, by decide +kernel, rfl, by decide, fun h => absurd h (by decide), rfl⟩, jw_867, jw_868⟩
abbrev mX4_byWay : jk_M := (RX4, cX4_byWay, 2, (some FieldType.int), [], false, 17)
theorem jm_X4_byWay : jk_mV yX4_byWay mX4_byWay 1 := ⟨⟨jw_886, jw_7, ⟨by decide +kernel, by decide +kernel⟩, by decide +kernel, by decide +kernel, rfl, by decide, fun h => absurd h (by decide), rfl⟩, jw_884, jw_885⟩
abbrev mX4_carriedFromDatum : jk_M := (RX4, cX4_carriedFromDatum, 3, (some FieldType.int), [], false, 16)
theorem jm_X4_carriedFromDatum : jk_mV yX4_carriedFromDatum mX4_carriedFromDatum 1 := ⟨⟨jw_890, jw_7, ⟨by decide +kernel, by decide +kernel⟩, by decide +kernel, by decide +kernel, rfl, by decide, fun h => absurd h (by decide), rfl⟩, jw_888, jw_889⟩
abbrev mX4_byRounds : jk_M := (RX4, cX4_byRounds, 3, (some FieldType.int), [], false, 4)
theorem jm_X4_byRounds : jk_mV yX4_byRounds mX4_byRounds 1 := ⟨⟨jw_903, jw_7, ⟨by decide +kernel, by decide +kernel⟩, by decide +kernel, by decide +kernel, rfl, by decide, fun h => absurd h (by decide), rfl⟩, jw_901, jw_902⟩
abbrev mX4_gapByLevels : jk_M := (RX4, cX4_gapByLevels, 4, (some FieldType.int), [], false, 4)
theorem jm_X4_gapByLevels : jk_mV yX4_gapByLevels mX4_gapByLevels 1 := ⟨⟨jw_1062, jw_7, ⟨by decide +kernel, by decide +kernel⟩, by decide +kernel, by decide +kernel, rfl, by decide, fun h => absurd h (by decide), rfl⟩, jw_1060, jw_1061⟩
abbrev mX4_passOn : jk_M := (RX4, cX4_passOn, 5, none, [], false, 3)
theorem jm_X4_passOn : jk_mV yX4_passOn mX4_passOn 2 := ⟨⟨jw_907, jw_7, ⟨by decide +kernel, by decide +kernel⟩, by decide +kernel, by decide +kernel, rfl, by decide, fun h => absurd h (by decide), rfl⟩, jw_906, jw_s27⟩
abbrev mX4_passOnOnce : jk_M := (RX4, cX4_passOnOnce, 5, (some FieldType.boolean), [], false, 2)
theorem jm_X4_passOnOnce : jk_mV yX4_passOnOnce mX4_passOnOnce 0 := ⟨⟨jw_911, jw_7, ⟨by decide +kernel, by decide +kernel⟩, by decide +kernel, by decide +kernel, rfl, by decide, fun h => absurd h (by decide), rfl⟩, jw_910, jw_s28⟩
abbrev mX4_atRank : jk_M := (RX4, cX4_atRank, 3, (some FieldType.int), [], false, 19)
theorem jm_X4_atRank : jk_mV yX4_atRank mX4_atRank 1 := ⟨⟨jw_932, jw_7, ⟨by decide +kernel, by decide +kernel⟩, by decide +kernel, by decide +kernel, rfl, by decide, fun h => absurd h (by decide), rfl⟩, jw_930, jw_931⟩
abbrev mX4_benchmarksAheadOf : jk_M := (RX4, cX4_benchmarksAheadOf, 6, (some FieldType.int), [], false, 18)
theorem jm_X4_benchmarksAheadOf : jk_mV yX4_benchmarksAheadOf mX4_benchmarksAheadOf 1 := ⟨⟨jw_937, jw_7, ⟨by decide +kernel, by decide +kernel⟩, by decide +kernel, by decide +kernel, rfl, by decide, fun h => absurd h (by decide), rfl⟩, jw_936, jw_s29⟩
abbrev mX5_init : jk_M := (RX5, cX5_init, 2, none, [], true, 2)
theorem jm_X5_init : jk_mI yX5_init mX5_init 0 := ⟨⟨jw_167, jw_3, ⟨by decide +kernel, by decide +kernel⟩, by decide +kernel, by decide +kernel, rfl, by decide, fun _ => rfl, rfl⟩, rfl, jw_166, rfl⟩
abbrev mX5_push : jk_M := (RX5, cX5_push, 2, none, [], false, 2)
theorem jm_X5_push : jk_mV yX5_push mX5_push 1 := ⟨⟨jw_729, jw_3, ⟨by decide +kernel, by decide +kernel⟩, by decide +kernel, by decide +kernel, rfl, by decide, fun h => absurd h (by decide), rfl⟩, jw_727, jw_728⟩
abbrev mX5_popInto : jk_M := (RX5, cX5_popInto, 2, none, [], false, 2)
theorem jm_X5_popInto : jk_mV yX5_popInto mX5_popInto 1 := ⟨⟨jw_1583, jw_3, ⟨by decide +kernel, by decide +kernel⟩, by decide +kernel, by decide +kernel, rfl, by decide, fun h => absurd h (by decide), rfl⟩, jw_1581, jw_1582⟩
abbrev mX7_init : jk_M := (RX7, cX7_init, 1, none, [], true, 1)
theorem jm_X7_init : jk_mI yX7_init mX7_init 0 := ⟨⟨jw_312, jw_10, ⟨by decide +kernel, by decide +kernel⟩, by decide +kernel, by decide +kernel, rfl, by decide, fun _ => rfl, rfl⟩, rfl, jw_311, rfl⟩
abbrev mX7_add : jk_M := (RX7, cX7_add, 2, none, [], false, 0)
theorem jm_X7_add : jk_mV yX7_add mX7_add 1 := ⟨⟨jw_1610, jw_10, ⟨by decide +kernel, by decide +kernel⟩, by decide +kernel, by decide +kernel, rfl, by decide, fun h => absurd h (by decide), rfl⟩, jw_1608, jw_1609⟩
abbrev mX7_read : jk_M := (RX7, cX7_read, 3, (some FieldType.boolean), [], false, 17)
theorem jm_X7_read : jk_mV yX7_read mX7_read 0 := ⟨⟨jw_1510, jw_10, ⟨by decide +kernel, by decide +kernel⟩, by decide +kernel, by decide +kernel, rfl, by decide, fun h => absurd h (by decide), rfl⟩, jw_1508, jw_1509⟩
abbrev mX7_readCommand : jk_M := (RX7, cX7_readCommand, 2, (some FieldType.boolean), [], false, 16)
theorem jm_X7_readCommand : jk_mV yX7_readCommand mX7_readCommand 0 := ⟨⟨jw_1514, jw_10, ⟨by decide +kernel, by decide +kernel⟩, by decide +kernel, by decide +kernel, rfl, by decide, fun h => absurd h (by decide), rfl⟩, jw_1513, jw_s43⟩
abbrev mX7_readWord : jk_M := (RX7, cX7_readWord, 4, (some (FieldType.object "LevelingNetwork$Kind")), [], false, 15)
theorem jm_X7_readWord : jk_mV yX7_readWord mX7_readWord 0 := ⟨⟨jw_1518, jw_10, ⟨by decide +kernel, by decide +kernel⟩, by decide +kernel, by decide +kernel, rfl, by decide, fun h => absurd h (by decide), rfl⟩, jw_1517, jw_s44⟩
abbrev mX7_fittingSigns : jk_M := (RX7, cX7_fittingSigns, 4, (some FieldType.int), [], false, 14)
theorem jm_X7_fittingSigns : jk_mV yX7_fittingSigns mX7_fittingSigns 1 := ⟨⟨jw_1524, jw_10, ⟨by decide +kernel, by decide +kernel⟩, by decide +kernel, by decide +kernel, rfl, by decide, fun h => absurd h (by decide), rfl⟩, jw_1523, jw_s45⟩
abbrev mX7_readForm : jk_M := (RX7, cX7_readForm, 8, (some FieldType.boolean), [], false, 14)
theorem jm_X7_readForm : jk_mV yX7_readForm mX7_readForm 2 := ⟨⟨jw_1549, jw_10, ⟨by decide +kernel, by decide +kernel⟩, by decide +kernel, by decide +kernel, rfl, by decide, fun h => absurd h (by decide), rfl⟩, jw_1548, jw_s47⟩
abbrev mX7_mostDigits : jk_M := (RX7, cX7_mostDigits, 1, (some FieldType.int), [], false, 0)
theorem jm_X7_mostDigits : jk_mS yX7_mostDigits mX7_mostDigits 1 := ⟨⟨jw_1552, jw_10, ⟨by decide +kernel, by decide +kernel⟩, by decide +kernel, by decide +kernel, rfl, by decide, fun h => absurd h (by decide), rfl⟩, jw_1551⟩
abbrev mX7_readArgument : jk_M := (RX7, cX7_readArgument, 8, (some FieldType.boolean), [], false, 2)
theorem jm_X7_readArgument : jk_mV yX7_readArgument mX7_readArgument 4 := ⟨⟨jw_1560, jw_10, ⟨by decide +kernel, by decide +kernel⟩, by decide +kernel, by decide +kernel, rfl, by decide, fun h => absurd h (by decide), rfl⟩, jw_1559, jw_s49⟩
abbrev mX7_readSign : jk_M := (RX7, cX7_readSign, 3, (some FieldType.boolean), [], false, 1)
theorem jm_X7_readSign : jk_mV yX7_readSign mX7_readSign 1 := ⟨⟨jw_1556, jw_10, ⟨by decide +kernel, by decide +kernel⟩, by decide +kernel, by decide +kernel, rfl, by decide, fun h => absurd h (by decide), rfl⟩, jw_1555, jw_s48⟩
abbrev mX7_signAt : jk_M := (RX7, cX7_signAt, 2, (some FieldType.char), [], false, 0)
theorem jm_X7_signAt : jk_mV yX7_signAt mX7_signAt 1 := ⟨⟨jw_1529, jw_10, ⟨by decide +kernel, by decide +kernel⟩, by decide +kernel, by decide +kernel, rfl, by decide, fun h => absurd h (by decide), rfl⟩, jw_1528, jw_s46⟩
abbrev mX8_init : jk_M := (RX8, cX8_init, 2, none, [], true, 1)
theorem jm_X8_init : jk_mI yX8_init mX8_init 1 := ⟨⟨jw_242, jw_6, ⟨by decide +kernel, by decide +kernel⟩, by decide +kernel, by decide +kernel, rfl, by decide, fun _ => rfl, rfl⟩, rfl, jw_241, rfl⟩
abbrev mX8_divide : jk_M := (RX8, cX8_divide, 8, none, [], false, 3)
theorem jm_X8_divide : jk_mV yX8_divide mX8_divide 1 := ⟨⟨jw_775, jw_6, ⟨by decide +kernel, by decide +kernel⟩, by decide +kernel, by decide +kernel, rfl, by decide, fun h => absurd h (by decide), rfl⟩, jw_773, jw_774⟩
abbrev mX8_giveOut : jk_M := (RX8, cX8_giveOut, 5, none, [], false, 0)
theorem jm_X8_giveOut : jk_mV yX8_giveOut mX8_giveOut 1 := ⟨⟨jw_782, jw_6, ⟨by decide +kernel, by decide +kernel⟩, by decide +kernel, by decide +kernel, rfl, by decide, fun h => absurd h (by decide), rfl⟩, jw_781, jw_s20⟩
abbrev mX8_correct : jk_M := (RX8, cX8_correct, 5, none, [], false, 3)
theorem jm_X8_correct : jk_mV yX8_correct mX8_correct 1 := ⟨⟨jw_786, jw_6, ⟨by decide +kernel, by decide +kernel⟩, by decide +kernel, by decide +kernel, rfl, by decide, fun h => absurd h (by decide), rfl⟩, jw_784, jw_785⟩
abbrev mX9_init : jk_M := (RX9, cX9_init, 1, none, [], true, 1)
theorem jm_X9_init : jk_mI yX9_init mX9_init 0 := ⟨⟨jw_50, jw_2, ⟨by decide +kernel, by decide +kernel⟩, by decide +kernel, by decide +kernel, rfl, by decide, fun _ => rfl, rfl⟩, rfl, jw_49, rfl⟩
abbrev mX9_copyFrom : jk_M := (RX9, cX9_copyFrom, 2, none, [], false, 1)
theorem jm_X9_copyFrom : jk_mV yX9_copyFrom mX9_copyFrom 1 := ⟨⟨jw_733, jw_2, ⟨by decide +kernel, by decide +kernel⟩, by decide +kernel, by decide +kernel, rfl, by decide, fun h => absurd h (by decide), rfl⟩, jw_731, jw_732⟩
abbrev mX9_copyBenchmarks : jk_M := (RX9, cX9_copyBenchmarks, 3, none, [], false, 0)
theorem jm_X9_copyBenchmarks : jk_mV yX9_copyBenchmarks mX9_copyBenchmarks 1 := ⟨⟨jw_737, jw_2, ⟨by decide +kernel, by decide +kernel⟩, by decide +kernel, by decide +kernel, rfl, by decide, fun h => absurd h (by decide), rfl⟩, jw_736, jw_s14⟩
abbrev mX9_copyLines : jk_M := (RX9, cX9_copyLines, 3, none, [], false, 0)
theorem jm_X9_copyLines : jk_mV yX9_copyLines mX9_copyLines 1 := ⟨⟨jw_741, jw_2, ⟨by decide +kernel, by decide +kernel⟩, by decide +kernel, by decide +kernel, rfl, by decide, fun h => absurd h (by decide), rfl⟩, jw_740, jw_s15⟩
abbrev mX9_copyProfiles : jk_M := (RX9, cX9_copyProfiles, 4, none, [], false, 0)
theorem jm_X9_copyProfiles : jk_mV yX9_copyProfiles mX9_copyProfiles 1 := ⟨⟨jw_745, jw_2, ⟨by decide +kernel, by decide +kernel⟩, by decide +kernel, by decide +kernel, rfl, by decide, fun h => absurd h (by decide), rfl⟩, jw_744, jw_s16⟩
abbrev mX9_hasBenchmark : jk_M := (RX9, cX9_hasBenchmark, 2, (some FieldType.boolean), [], false, 0)
theorem jm_X9_hasBenchmark : jk_mV yX9_hasBenchmark mX9_hasBenchmark 1 := ⟨⟨jw_457, jw_2, ⟨by decide +kernel, by decide +kernel⟩, by decide +kernel, by decide +kernel, rfl, by decide, fun h => absurd h (by decide), rfl⟩, jw_455, jw_456⟩
abbrev mX9_hasLine : jk_M := (RX9, cX9_hasLine, 2, (some FieldType.boolean), [], false, 0)
theorem jm_X9_hasLine : jk_mV yX9_hasLine mX9_hasLine 1 := ⟨⟨jw_488, jw_2, ⟨by decide +kernel, by decide +kernel⟩, by decide +kernel, by decide +kernel, rfl, by decide, fun h => absurd h (by decide), rfl⟩, jw_486, jw_487⟩
abbrev mX9_hasProfile : jk_M := (RX9, cX9_hasProfile, 2, (some FieldType.boolean), [], false, 0)
theorem jm_X9_hasProfile : jk_mV yX9_hasProfile mX9_hasProfile 1 := ⟨⟨jw_581, jw_2, ⟨by decide +kernel, by decide +kernel⟩, by decide +kernel, by decide +kernel, rfl, by decide, fun h => absurd h (by decide), rfl⟩, jw_579, jw_580⟩
abbrev mX9_fixedBenchmarks : jk_M := (RX9, cX9_fixedBenchmarks, 3, (some FieldType.int), [], false, 0)
theorem jm_X9_fixedBenchmarks : jk_mV yX9_fixedBenchmarks mX9_fixedBenchmarks 0 := ⟨⟨jw_757, jw_2, ⟨by decide +kernel, by decide +kernel⟩, by decide +kernel, by decide +kernel, rfl, by decide, fun h => absurd h (by decide), rfl⟩, jw_755, jw_756⟩
abbrev mX9_sumOfRuns : jk_M := (RX9, cX9_sumOfRuns, 2, (some FieldType.int), [], false, 0)
theorem jm_X9_sumOfRuns : jk_mV yX9_sumOfRuns mX9_sumOfRuns 1 := ⟨⟨jw_512, jw_2, ⟨by decide +kernel, by decide +kernel⟩, by decide +kernel, by decide +kernel, rfl, by decide, fun h => absurd h (by decide), rfl⟩, jw_510, jw_511⟩
abbrev mX9_levelled : jk_M := (RX9, cX9_levelled, 2, (some FieldType.int), [], false, 0)
theorem jm_X9_levelled : jk_mV yX9_levelled mX9_levelled 1 := ⟨⟨jw_561, jw_2, ⟨by decide +kernel, by decide +kernel⟩, by decide +kernel, by decide +kernel, rfl, by decide, fun h => absurd h (by decide), rfl⟩, jw_559, jw_560⟩
abbrev mX9_corrected : jk_M := (RX9, cX9_corrected, 2, (some FieldType.int), [], false, 1)
theorem jm_X9_corrected : jk_mV yX9_corrected mX9_corrected 1 := ⟨⟨jw_557, jw_2, ⟨by decide +kernel, by decide +kernel⟩, by decide +kernel, by decide +kernel, rfl, by decide, fun h => absurd h (by decide), rfl⟩, jw_555, jw_556⟩
abbrev mX9_usable : jk_M := (RX9, cX9_usable, 2, (some FieldType.boolean), [], false, 1)
theorem jm_X9_usable : jk_mV yX9_usable mX9_usable 1 := ⟨⟨jw_508, jw_2, ⟨by decide +kernel, by decide +kernel⟩, by decide +kernel, by decide +kernel, rfl, by decide, fun h => absurd h (by decide), rfl⟩, jw_506, jw_507⟩
abbrev mX9_usableLines : jk_M := (RX9, cX9_usableLines, 3, (some FieldType.int), [], false, 2)
theorem jm_X9_usableLines : jk_mV yX9_usableLines mX9_usableLines 0 := ⟨⟨jw_766, jw_2, ⟨by decide +kernel, by decide +kernel⟩, by decide +kernel, by decide +kernel, rfl, by decide, fun h => absurd h (by decide), rfl⟩, jw_764, jw_765⟩
abbrev mX9_usableLength : jk_M := (RX9, cX9_usableLength, 3, (some FieldType.int), [], false, 2)
theorem jm_X9_usableLength : jk_mV yX9_usableLength mX9_usableLength 0 := ⟨⟨jw_1173, jw_2, ⟨by decide +kernel, by decide +kernel⟩, by decide +kernel, by decide +kernel, rfl, by decide, fun h => absurd h (by decide), rfl⟩, jw_1171, jw_1172⟩
abbrev mX9_lineAtRank : jk_M := (RX9, cX9_lineAtRank, 3, (some FieldType.int), [], false, 2)
theorem jm_X9_lineAtRank : jk_mV yX9_lineAtRank mX9_lineAtRank 1 := ⟨⟨jw_980, jw_2, ⟨by decide +kernel, by decide +kernel⟩, by decide +kernel, by decide +kernel, rfl, by decide, fun h => absurd h (by decide), rfl⟩, jw_978, jw_979⟩
abbrev mX9_linesAheadOf : jk_M := (RX9, cX9_linesAheadOf, 6, (some FieldType.int), [], false, 1)
theorem jm_X9_linesAheadOf : jk_mV yX9_linesAheadOf mX9_linesAheadOf 1 := ⟨⟨jw_984, jw_2, ⟨by decide +kernel, by decide +kernel⟩, by decide +kernel, by decide +kernel, rfl, by decide, fun h => absurd h (by decide), rfl⟩, jw_983, jw_s31⟩
abbrev mX11_init : jk_M := (RX11, cX11_init, 3, none, [], true, 1)
theorem jm_X11_init : jk_mI yX11_init mX11_init 2 := ⟨⟨jw_216, jw_5, ⟨by decide +kernel, by decide +kernel⟩, by decide +kernel, by decide +kernel, rfl, by decide, fun _ => rfl, rfl⟩, rfl, jw_215, rfl⟩
abbrev mX11_trace : jk_M := (RX11, cX11_trace, 3, none, [], false, 15)
theorem jm_X11_trace : jk_mV yX11_trace mX11_trace 2 := ⟨⟨jw_894, jw_5, ⟨by decide +kernel, by decide +kernel⟩, by decide +kernel, by decide +kernel, rfl, by decide, fun h => absurd h (by decide), rfl⟩, jw_892, jw_893⟩
abbrev mX11_traceLoop : jk_M := (RX11, cX11_traceLoop, 2, none, [], false, 15)
theorem jm_X11_traceLoop : jk_mV yX11_traceLoop mX11_traceLoop 1 := ⟨⟨jw_538, jw_5, ⟨by decide +kernel, by decide +kernel⟩, by decide +kernel, by decide +kernel, rfl, by decide, fun h => absurd h (by decide), rfl⟩, jw_536, jw_537⟩
abbrev mX11_walk : jk_M := (RX11, cX11_walk, 6, (some FieldType.boolean), [], false, 14)
theorem jm_X11_walk : jk_mS yX11_walk mX11_walk 4 := ⟨⟨jw_545, jw_5, ⟨by decide +kernel, by decide +kernel⟩, by decide +kernel, by decide +kernel, rfl, by decide, fun h => absurd h (by decide), rfl⟩, jw_544⟩
abbrev mX11_leadsOn : jk_M := (RX11, cX11_leadsOn, 4, (some FieldType.boolean), [], false, 0)
theorem jm_X11_leadsOn : jk_mV yX11_leadsOn mX11_leadsOn 2 := ⟨⟨jw_549, jw_5, ⟨by decide +kernel, by decide +kernel⟩, by decide +kernel, by decide +kernel, rfl, by decide, fun h => absurd h (by decide), rfl⟩, jw_548, jw_s10⟩
abbrev mX11_add : jk_M := (RX11, cX11_add, 4, (some FieldType.int), [], false, 0)
theorem jm_X11_add : jk_mV yX11_add mX11_add 2 := ⟨⟨jw_542, jw_5, ⟨by decide +kernel, by decide +kernel⟩, by decide +kernel, by decide +kernel, rfl, by decide, fun h => absurd h (by decide), rfl⟩, jw_541, jw_s9⟩
abbrev mX11_rise : jk_M := (RX11, cX11_rise, 3, (some FieldType.int), [], false, 2)
theorem jm_X11_rise : jk_mV yX11_rise mX11_rise 0 := ⟨⟨jw_553, jw_5, ⟨by decide +kernel, by decide +kernel⟩, by decide +kernel, by decide +kernel, rfl, by decide, fun h => absurd h (by decide), rfl⟩, jw_551, jw_552⟩
abbrev mX11_totalLength : jk_M := (RX11, cX11_totalLength, 3, (some FieldType.int), [], false, 0)
theorem jm_X11_totalLength : jk_mV yX11_totalLength mX11_totalLength 0 := ⟨⟨jw_566, jw_5, ⟨by decide +kernel, by decide +kernel⟩, by decide +kernel, by decide +kernel, rfl, by decide, fun h => absurd h (by decide), rfl⟩, jw_564, jw_565⟩
abbrev mX12_init : jk_M := (RX12, cX12_init, 1, none, [], true, 13)
theorem jm_X12_init : jk_mI yX12_init mX12_init 0 := ⟨⟨jw_42, jw_1, ⟨by decide +kernel, by decide +kernel⟩, by decide +kernel, by decide +kernel, rfl, by decide, fun _ => rfl, rfl⟩, rfl, jw_41, rfl⟩
abbrev mX12_addBenchmark : jk_M := (RX12, cX12_addBenchmark, 1, (some FieldType.int), [], false, 19)
theorem jm_X12_addBenchmark : jk_mV yX12_addBenchmark mX12_addBenchmark 0 := ⟨⟨jw_424, jw_1, ⟨by decide +kernel, by decide +kernel⟩, by decide +kernel, by decide +kernel, rfl, by decide, fun h => absurd h (by decide), rfl⟩, jw_422, jw_423⟩
abbrev mX12_fix : jk_M := (RX12, cX12_fix, 3, (some FieldType.int), [], false, 19)
theorem jm_X12_fix : jk_mV yX12_fix mX12_fix 2 := ⟨⟨jw_806, jw_1, ⟨by decide +kernel, by decide +kernel⟩, by decide +kernel, by decide +kernel, rfl, by decide, fun h => absurd h (by decide), rfl⟩, jw_804, jw_805⟩
abbrev mX12_release : jk_M := (RX12, cX12_release, 2, (some FieldType.int), [], false, 19)
theorem jm_X12_release : jk_mV yX12_release mX12_release 1 := ⟨⟨jw_812, jw_1, ⟨by decide +kernel, by decide +kernel⟩, by decide +kernel, by decide +kernel, rfl, by decide, fun h => absurd h (by decide), rfl⟩, jw_810, jw_811⟩
abbrev mX12_addLine : jk_M := (RX12, cX12_addLine, 5, (some FieldType.int), [], false, 19)
theorem jm_X12_addLine : jk_mV yX12_addLine mX12_addLine 4 := ⟨⟨jw_1647, jw_1, ⟨by decide +kernel, by decide +kernel⟩, by decide +kernel, by decide +kernel, rfl, by decide, fun h => absurd h (by decide), rfl⟩, jw_1645, jw_1646⟩
abbrev mX12_addBackwardRun : jk_M := (RX12, cX12_addBackwardRun, 3, (some FieldType.int), [], false, 19)
theorem jm_X12_addBackwardRun : jk_mV yX12_addBackwardRun mX12_addBackwardRun 2 := ⟨⟨jw_818, jw_1, ⟨by decide +kernel, by decide +kernel⟩, by decide +kernel, by decide +kernel, rfl, by decide, fun h => absurd h (by decide), rfl⟩, jw_816, jw_817⟩
abbrev mX12_exclude : jk_M := (RX12, cX12_exclude, 2, (some FieldType.int), [], false, 19)
theorem jm_X12_exclude : jk_mV yX12_exclude mX12_exclude 1 := ⟨⟨jw_824, jw_1, ⟨by decide +kernel, by decide +kernel⟩, by decide +kernel, by decide +kernel, rfl, by decide, fun h => absurd h (by decide), rfl⟩, jw_822, jw_823⟩
abbrev mX12_include : jk_M := (RX12, cX12_include, 2, (some FieldType.int), [], false, 19)
theorem jm_X12_include : jk_mV yX12_include mX12_include 1 := ⟨⟨jw_830, jw_1, ⟨by decide +kernel, by decide +kernel⟩, by decide +kernel, by decide +kernel, rfl, by decide, fun h => absurd h (by decide), rfl⟩, jw_828, jw_829⟩
abbrev mX12_shareMisclosure : jk_M := (RX12, cX12_shareMisclosure, 2, (some FieldType.int), [], false, 19)
theorem jm_X12_shareMisclosure : jk_mV yX12_shareMisclosure mX12_shareMisclosure 1 := ⟨⟨jw_836, jw_1, ⟨by decide +kernel, by decide +kernel⟩, by decide +kernel, by decide +kernel, rfl, by decide, fun h => absurd h (by decide), rfl⟩, jw_834, jw_835⟩
abbrev mX12_resetCorrections : jk_M := (RX12, cX12_resetCorrections, 1, (some FieldType.int), [], false, 19)
theorem jm_X12_resetCorrections : jk_mV yX12_resetCorrections mX12_resetCorrections 0 := ⟨⟨jw_842, jw_1, ⟨by decide +kernel, by decide +kernel⟩, by decide +kernel, by decide +kernel, rfl, by decide, fun h => absurd h (by decide), rfl⟩, jw_840, jw_841⟩
abbrev mX12_addProfile : jk_M := (RX12, cX12_addProfile, 2, (some FieldType.int), [], false, 19)
theorem jm_X12_addProfile : jk_mV yX12_addProfile mX12_addProfile 1 := ⟨⟨jw_1627, jw_1, ⟨by decide +kernel, by decide +kernel⟩, by decide +kernel, by decide +kernel, rfl, by decide, fun h => absurd h (by decide), rfl⟩, jw_1625, jw_1626⟩
abbrev mX12_addStation : jk_M := (RX12, cX12_addStation, 4, (some FieldType.int), [], false, 19)
theorem jm_X12_addStation : jk_mV yX12_addStation mX12_addStation 3 := ⟨⟨jw_1633, jw_1, ⟨by decide +kernel, by decide +kernel⟩, by decide +kernel, by decide +kernel, rfl, by decide, fun h => absurd h (by decide), rfl⟩, jw_1631, jw_1632⟩
abbrev mX12_setWaterLevel : jk_M := (RX12, cX12_setWaterLevel, 2, (some FieldType.int), [], false, 19)
theorem jm_X12_setWaterLevel : jk_mV yX12_setWaterLevel mX12_setWaterLevel 1 := ⟨⟨jw_848, jw_1, ⟨by decide +kernel, by decide +kernel⟩, by decide +kernel, by decide +kernel, rfl, by decide, fun h => absurd h (by decide), rfl⟩, jw_846, jw_847⟩
abbrev mX12_benchmarkCount : jk_M := (RX12, cX12_benchmarkCount, 1, (some FieldType.int), [], false, 0)
theorem jm_X12_benchmarkCount : jk_mV yX12_benchmarkCount mX12_benchmarkCount 0 := ⟨⟨jw_854, jw_1, ⟨by decide +kernel, by decide +kernel⟩, by decide +kernel, by decide +kernel, rfl, by decide, fun h => absurd h (by decide), rfl⟩, jw_852, jw_853⟩
abbrev mX12_isFixed : jk_M := (RX12, cX12_isFixed, 2, (some FieldType.boolean), [], false, 10)
theorem jm_X12_isFixed : jk_mV yX12_isFixed mX12_isFixed 1 := ⟨⟨jw_1665, jw_1, ⟨by decide +kernel, by decide +kernel⟩, by decide +kernel, by decide +kernel, rfl, by decide, fun h => absurd h (by decide), rfl⟩, jw_1663, jw_1664⟩
abbrev mX12_hasHeight : jk_M := (RX12, cX12_hasHeight, 2, (some FieldType.boolean), [], false, 10)
theorem jm_X12_hasHeight : jk_mV yX12_hasHeight mX12_hasHeight 1 := ⟨⟨jw_858, jw_1, ⟨by decide +kernel, by decide +kernel⟩, by decide +kernel, by decide +kernel, rfl, by decide, fun h => absurd h (by decide), rfl⟩, jw_856, jw_857⟩
abbrev mX12_height : jk_M := (RX12, cX12_height, 2, (some FieldType.int), [], false, 18)
theorem jm_X12_height : jk_mV yX12_height mX12_height 1 := ⟨⟨jw_877, jw_1, ⟨by decide +kernel, by decide +kernel⟩, by decide +kernel, by decide +kernel, rfl, by decide, fun h => absurd h (by decide), rfl⟩, jw_875, jw_876⟩
abbrev mX12_heightByRounds : jk_M := (RX12, cX12_heightByRounds, 2, (some FieldType.int), [], false, 10)
theorem jm_X12_heightByRounds : jk_mV yX12_heightByRounds mX12_heightByRounds 1 := ⟨⟨jw_899, jw_1, ⟨by decide +kernel, by decide +kernel⟩, by decide +kernel, by decide +kernel, rfl, by decide, fun h => absurd h (by decide), rfl⟩, jw_897, jw_898⟩
abbrev mX12_closingError : jk_M := (RX12, cX12_closingError, 2, (some FieldType.int), [], false, 17)
theorem jm_X12_closingError : jk_mV yX12_closingError mX12_closingError 1 := ⟨⟨jw_916, jw_1, ⟨by decide +kernel, by decide +kernel⟩, by decide +kernel, by decide +kernel, rfl, by decide, fun h => absurd h (by decide), rfl⟩, jw_914, jw_915⟩
abbrev mX12_datum : jk_M := (RX12, cX12_datum, 3, (some FieldType.int), [], false, 10)
theorem jm_X12_datum : jk_mV yX12_datum mX12_datum 1 := ⟨⟨jw_922, jw_1, ⟨by decide +kernel, by decide +kernel⟩, by decide +kernel, by decide +kernel, rfl, by decide, fun h => absurd h (by decide), rfl⟩, jw_920, jw_921⟩
abbrev mX12_benchmarkByHeight : jk_M := (RX12, cX12_benchmarkByHeight, 3, (some FieldType.int), [], false, 20)
theorem jm_X12_benchmarkByHeight : jk_mV yX12_benchmarkByHeight mX12_benchmarkByHeight 1 := ⟨⟨jw_928, jw_1, ⟨by decide +kernel, by decide +kernel⟩, by decide +kernel, by decide +kernel, rfl, by decide, fun h => absurd h (by decide), rfl⟩, jw_926, jw_927⟩
abbrev mX12_lineCount : jk_M := (RX12, cX12_lineCount, 1, (some FieldType.int), [], false, 0)
theorem jm_X12_lineCount : jk_mV yX12_lineCount mX12_lineCount 0 := ⟨⟨jw_1653, jw_1, ⟨by decide +kernel, by decide +kernel⟩, by decide +kernel, by decide +kernel, rfl, by decide, fun h => absurd h (by decide), rfl⟩, jw_1651, jw_1652⟩
abbrev mX12_firstOf : jk_M := (RX12, cX12_firstOf, 2, (some FieldType.int), [], false, 10)
theorem jm_X12_firstOf : jk_mV yX12_firstOf mX12_firstOf 1 := ⟨⟨jw_1669, jw_1, ⟨by decide +kernel, by decide +kernel⟩, by decide +kernel, by decide +kernel, rfl, by decide, fun h => absurd h (by decide), rfl⟩, jw_1667, jw_1668⟩
abbrev mX12_secondOf : jk_M := (RX12, cX12_secondOf, 2, (some FieldType.int), [], false, 10)
theorem jm_X12_secondOf : jk_mV yX12_secondOf mX12_secondOf 1 := ⟨⟨jw_1673, jw_1, ⟨by decide +kernel, by decide +kernel⟩, by decide +kernel, by decide +kernel, rfl, by decide, fun h => absurd h (by decide), rfl⟩, jw_1671, jw_1672⟩
abbrev mX12_lengthOf : jk_M := (RX12, cX12_lengthOf, 2, (some FieldType.int), [], false, 10)
theorem jm_X12_lengthOf : jk_mV yX12_lengthOf mX12_lengthOf 1 := ⟨⟨jw_1677, jw_1, ⟨by decide +kernel, by decide +kernel⟩, by decide +kernel, by decide +kernel, rfl, by decide, fun h => absurd h (by decide), rfl⟩, jw_1675, jw_1676⟩
abbrev mX12_levelledDifference : jk_M := (RX12, cX12_levelledDifference, 2, (some FieldType.int), [], false, 10)
theorem jm_X12_levelledDifference : jk_mV yX12_levelledDifference mX12_levelledDifference 1 := ⟨⟨jw_943, jw_1, ⟨by decide +kernel, by decide +kernel⟩, by decide +kernel, by decide +kernel, rfl, by decide, fun h => absurd h (by decide), rfl⟩, jw_941, jw_942⟩
abbrev mX12_correction : jk_M := (RX12, cX12_correction, 2, (some FieldType.int), [], false, 10)
theorem jm_X12_correction : jk_mV yX12_correction mX12_correction 1 := ⟨⟨jw_954, jw_1, ⟨by decide +kernel, by decide +kernel⟩, by decide +kernel, by decide +kernel, rfl, by decide, fun h => absurd h (by decide), rfl⟩, jw_952, jw_953⟩
abbrev mX12_discrepancy : jk_M := (RX12, cX12_discrepancy, 2, (some FieldType.int), [], false, 10)
theorem jm_X12_discrepancy : jk_mV yX12_discrepancy mX12_discrepancy 1 := ⟨⟨jw_958, jw_1, ⟨by decide +kernel, by decide +kernel⟩, by decide +kernel, by decide +kernel, rfl, by decide, fun h => absurd h (by decide), rfl⟩, jw_956, jw_957⟩
abbrev mX12_isExcluded : jk_M := (RX12, cX12_isExcluded, 2, (some FieldType.boolean), [], false, 10)
theorem jm_X12_isExcluded : jk_mV yX12_isExcluded mX12_isExcluded 1 := ⟨⟨jw_1681, jw_1, ⟨by decide +kernel, by decide +kernel⟩, by decide +kernel, by decide +kernel, rfl, by decide, fun h => absurd h (by decide), rfl⟩, jw_1679, jw_1680⟩
abbrev mX12_isUsable : jk_M := (RX12, cX12_isUsable, 2, (some FieldType.boolean), [], false, 10)
theorem jm_X12_isUsable : jk_mV yX12_isUsable mX12_isUsable 1 := ⟨⟨jw_964, jw_1, ⟨by decide +kernel, by decide +kernel⟩, by decide +kernel, by decide +kernel, rfl, by decide, fun h => absurd h (by decide), rfl⟩, jw_962, jw_963⟩
abbrev mX12_tolerance : jk_M := (RX12, cX12_tolerance, 2, (some FieldType.int), [], false, 9)
theorem jm_X12_tolerance : jk_mV yX12_tolerance mX12_tolerance 1 := ⟨⟨jw_969, jw_1, ⟨by decide +kernel, by decide +kernel⟩, by decide +kernel, by decide +kernel, rfl, by decide, fun h => absurd h (by decide), rfl⟩, jw_967, jw_968⟩
abbrev mX12_lineByDiscrepancy : jk_M := (RX12, cX12_lineByDiscrepancy, 3, (some FieldType.int), [], false, 9)
theorem jm_X12_lineByDiscrepancy : jk_mV yX12_lineByDiscrepancy mX12_lineByDiscrepancy 1 := ⟨⟨jw_976, jw_1, ⟨by decide +kernel, by decide +kernel⟩, by decide +kernel, by decide +kernel, rfl, by decide, fun h => absurd h (by decide), rfl⟩, jw_974, jw_975⟩
abbrev mX12_forestLength : jk_M := (RX12, cX12_forestLength, 1, (some FieldType.int), [], false, 4)
theorem jm_X12_forestLength : jk_mV yX12_forestLength mX12_forestLength 0 := ⟨⟨jw_988, jw_1, ⟨by decide +kernel, by decide +kernel⟩, by decide +kernel, by decide +kernel, rfl, by decide, fun h => absurd h (by decide), rfl⟩, jw_986, jw_987⟩
abbrev mX12_forestLengthByGrowing : jk_M := (RX12, cX12_forestLengthByGrowing, 1, (some FieldType.int), [], false, 4)
theorem jm_X12_forestLengthByGrowing : jk_mV yX12_forestLengthByGrowing mX12_forestLengthByGrowing 0 := ⟨⟨jw_996, jw_1, ⟨by decide +kernel, by decide +kernel⟩, by decide +kernel, by decide +kernel, rfl, by decide, fun h => absurd h (by decide), rfl⟩, jw_994, jw_995⟩
abbrev mX12_treeCount : jk_M := (RX12, cX12_treeCount, 1, (some FieldType.int), [], false, 4)
theorem jm_X12_treeCount : jk_mV yX12_treeCount mX12_treeCount 0 := ⟨⟨jw_1012, jw_1, ⟨by decide +kernel, by decide +kernel⟩, by decide +kernel, by decide +kernel, rfl, by decide, fun h => absurd h (by decide), rfl⟩, jw_1010, jw_1011⟩
abbrev mX12_loopCount : jk_M := (RX12, cX12_loopCount, 1, (some FieldType.int), [], false, 4)
theorem jm_X12_loopCount : jk_mV yX12_loopCount mX12_loopCount 0 := ⟨⟨jw_1020, jw_1, ⟨by decide +kernel, by decide +kernel⟩, by decide +kernel, by decide +kernel, rfl, by decide, fun h => absurd h (by decide), rfl⟩, jw_1018, jw_1019⟩
abbrev mX12_loopAt : jk_M := (RX12, cX12_loopAt, 3, (some FieldType.int), [], false, 9)
theorem jm_X12_loopAt : jk_mV yX12_loopAt mX12_loopAt 1 := ⟨⟨jw_1029, jw_1, ⟨by decide +kernel, by decide +kernel⟩, by decide +kernel, by decide +kernel, rfl, by decide, fun h => absurd h (by decide), rfl⟩, jw_1027, jw_1028⟩
abbrev mX12_loopSize : jk_M := (RX12, cX12_loopSize, 2, (some FieldType.int), [], false, 17)
theorem jm_X12_loopSize : jk_mV yX12_loopSize mX12_loopSize 1 := ⟨⟨jw_1038, jw_1, ⟨by decide +kernel, by decide +kernel⟩, by decide +kernel, by decide +kernel, rfl, by decide, fun h => absurd h (by decide), rfl⟩, jw_1036, jw_1037⟩
abbrev mX12_loopLength : jk_M := (RX12, cX12_loopLength, 2, (some FieldType.int), [], false, 17)
theorem jm_X12_loopLength : jk_mV yX12_loopLength mX12_loopLength 1 := ⟨⟨jw_1048, jw_1, ⟨by decide +kernel, by decide +kernel⟩, by decide +kernel, by decide +kernel, rfl, by decide, fun h => absurd h (by decide), rfl⟩, jw_1046, jw_1047⟩
abbrev mX12_misclosure : jk_M := (RX12, cX12_misclosure, 2, (some FieldType.int), [], false, 17)
theorem jm_X12_misclosure : jk_mV yX12_misclosure mX12_misclosure 1 := ⟨⟨jw_1053, jw_1, ⟨by decide +kernel, by decide +kernel⟩, by decide +kernel, by decide +kernel, rfl, by decide, fun h => absurd h (by decide), rfl⟩, jw_1051, jw_1052⟩
abbrev mX12_misclosureByLevels : jk_M := (RX12, cX12_misclosureByLevels, 2, (some FieldType.int), [], false, 17)
theorem jm_X12_misclosureByLevels : jk_mV yX12_misclosureByLevels mX12_misclosureByLevels 1 := ⟨⟨jw_1058, jw_1, ⟨by decide +kernel, by decide +kernel⟩, by decide +kernel, by decide +kernel, rfl, by decide, fun h => absurd h (by decide), rfl⟩, jw_1056, jw_1057⟩
abbrev mX12_part : jk_M := (RX12, cX12_part, 3, (some FieldType.int), [], false, 17)
theorem jm_X12_part : jk_mV yX12_part mX12_part 2 := ⟨⟨jw_1066, jw_1, ⟨by decide +kernel, by decide +kernel⟩, by decide +kernel, by decide +kernel, rfl, by decide, fun h => absurd h (by decide), rfl⟩, jw_1064, jw_1065⟩
abbrev mX12_profileCount : jk_M := (RX12, cX12_profileCount, 1, (some FieldType.int), [], false, 0)
theorem jm_X12_profileCount : jk_mV yX12_profileCount mX12_profileCount 0 := ⟨⟨jw_1661, jw_1, ⟨by decide +kernel, by decide +kernel⟩, by decide +kernel, by decide +kernel, rfl, by decide, fun h => absurd h (by decide), rfl⟩, jw_1659, jw_1660⟩
abbrev mX12_stationCount : jk_M := (RX12, cX12_stationCount, 2, (some FieldType.int), [], false, 10)
theorem jm_X12_stationCount : jk_mV yX12_stationCount mX12_stationCount 1 := ⟨⟨jw_1685, jw_1, ⟨by decide +kernel, by decide +kernel⟩, by decide +kernel, by decide +kernel, rfl, by decide, fun h => absurd h (by decide), rfl⟩, jw_1683, jw_1684⟩
abbrev mX12_waterLevel : jk_M := (RX12, cX12_waterLevel, 1, (some FieldType.int), [], false, 0)
theorem jm_X12_waterLevel : jk_mV yX12_waterLevel mX12_waterLevel 0 := ⟨⟨jw_1071, jw_1, ⟨by decide +kernel, by decide +kernel⟩, by decide +kernel, by decide +kernel, rfl, by decide, fun h => absurd h (by decide), rfl⟩, jw_1069, jw_1070⟩
abbrev mX12_ground : jk_M := (RX12, cX12_ground, 3, (some FieldType.int), [], false, 18)
theorem jm_X12_ground : jk_mV yX12_ground mX12_ground 2 := ⟨⟨jw_1075, jw_1, ⟨by decide +kernel, by decide +kernel⟩, by decide +kernel, by decide +kernel, rfl, by decide, fun h => absurd h (by decide), rfl⟩, jw_1073, jw_1074⟩
abbrev mX12_wetColumns : jk_M := (RX12, cX12_wetColumns, 2, (some FieldType.int), [], false, 19)
theorem jm_X12_wetColumns : jk_mV yX12_wetColumns mX12_wetColumns 1 := ⟨⟨jw_1106, jw_1, ⟨by decide +kernel, by decide +kernel⟩, by decide +kernel, by decide +kernel, rfl, by decide, fun h => absurd h (by decide), rfl⟩, jw_1104, jw_1105⟩
abbrev mX12_wetColumnsBySegments : jk_M := (RX12, cX12_wetColumnsBySegments, 2, (some FieldType.int), [], false, 19)
theorem jm_X12_wetColumnsBySegments : jk_mV yX12_wetColumnsBySegments mX12_wetColumnsBySegments 1 := ⟨⟨jw_1119, jw_1, ⟨by decide +kernel, by decide +kernel⟩, by decide +kernel, by decide +kernel, rfl, by decide, fun h => absurd h (by decide), rfl⟩, jw_1117, jw_1118⟩
abbrev mX12_shores : jk_M := (RX12, cX12_shores, 2, (some FieldType.int), [], false, 19)
theorem jm_X12_shores : jk_mV yX12_shores mX12_shores 1 := ⟨⟨jw_1135, jw_1, ⟨by decide +kernel, by decide +kernel⟩, by decide +kernel, by decide +kernel, rfl, by decide, fun h => absurd h (by decide), rfl⟩, jw_1133, jw_1134⟩
abbrev mX12_lowestColumn : jk_M := (RX12, cX12_lowestColumn, 2, (some FieldType.int), [], false, 10)
theorem jm_X12_lowestColumn : jk_mV yX12_lowestColumn mX12_lowestColumn 1 := ⟨⟨jw_1143, jw_1, ⟨by decide +kernel, by decide +kernel⟩, by decide +kernel, by decide +kernel, rfl, by decide, fun h => absurd h (by decide), rfl⟩, jw_1141, jw_1142⟩
abbrev mX12_meanLength : jk_M := (RX12, cX12_meanLength, 2, (some FieldType.double), [], false, 9)
theorem jm_X12_meanLength : jk_mV yX12_meanLength mX12_meanLength 0 := ⟨⟨jw_1152, jw_1, ⟨by decide +kernel, by decide +kernel⟩, by decide +kernel, by decide +kernel, rfl, by decide, fun h => absurd h (by decide), rfl⟩, jw_1150, jw_1151⟩
abbrev mX12_usableShare : jk_M := (RX12, cX12_usableShare, 1, (some FieldType.float), [], false, 9)
theorem jm_X12_usableShare : jk_mV yX12_usableShare mX12_usableShare 0 := ⟨⟨jw_1177, jw_1, ⟨by decide +kernel, by decide +kernel⟩, by decide +kernel, by decide +kernel, rfl, by decide, fun h => absurd h (by decide), rfl⟩, jw_1175, jw_1176⟩
abbrev mX12_isConsistent : jk_M := (RX12, cX12_isConsistent, 1, (some FieldType.boolean), [], false, 20)
theorem jm_X12_isConsistent : jk_mV yX12_isConsistent mX12_isConsistent 0 := ⟨⟨jw_1182, jw_1, ⟨by decide +kernel, by decide +kernel⟩, by decide +kernel, by decide +kernel, rfl, by decide, fun h => absurd h (by decide), rfl⟩, jw_1180, jw_1181⟩
abbrev mX12_renderLine : jk_M := (RX12, cX12_renderLine, 2, (some FieldType.int), [], false, 32)
theorem jm_X12_renderLine : jk_mV yX12_renderLine mX12_renderLine 1 := ⟨⟨jw_1198, jw_1, ⟨by decide +kernel, by decide +kernel⟩, by decide +kernel, by decide +kernel, rfl, by decide, fun h => absurd h (by decide), rfl⟩, jw_1196, jw_1197⟩
abbrev mX12_renderBenchmark : jk_M := (RX12, cX12_renderBenchmark, 2, (some FieldType.int), [], false, 32)
theorem jm_X12_renderBenchmark : jk_mV yX12_renderBenchmark mX12_renderBenchmark 1 := ⟨⟨jw_1502, jw_1, ⟨by decide +kernel, by decide +kernel⟩, by decide +kernel, by decide +kernel, rfl, by decide, fun h => absurd h (by decide), rfl⟩, jw_1500, jw_1501⟩
abbrev mX12_outputAt : jk_M := (RX12, cX12_outputAt, 2, (some FieldType.char), [], false, 13)
theorem jm_X12_outputAt : jk_mV yX12_outputAt mX12_outputAt 1 := ⟨⟨jw_1692, jw_1, ⟨by decide +kernel, by decide +kernel⟩, by decide +kernel, by decide +kernel, rfl, by decide, fun h => absurd h (by decide), rfl⟩, jw_1690, jw_1691⟩
abbrev mX12_type : jk_M := (RX12, cX12_type, 2, (some FieldType.int), [], false, 9)
theorem jm_X12_type : jk_mV yX12_type mX12_type 1 := ⟨⟨jw_1604, jw_1, ⟨by decide +kernel, by decide +kernel⟩, by decide +kernel, by decide +kernel, rfl, by decide, fun h => absurd h (by decide), rfl⟩, jw_1602, jw_1603⟩
abbrev mX12_runScript : jk_M := (RX12, cX12_runScript, 3, (some FieldType.int), [], false, 19)
theorem jm_X12_runScript : jk_mV yX12_runScript mX12_runScript 0 := ⟨⟨jw_1506, jw_1, ⟨by decide +kernel, by decide +kernel⟩, by decide +kernel, by decide +kernel, rfl, by decide, fun h => absurd h (by decide), rfl⟩, jw_1504, jw_1505⟩
abbrev mX12_errorPosition : jk_M := (RX12, cX12_errorPosition, 1, (some FieldType.int), [], false, 9)
theorem jm_X12_errorPosition : jk_mV yX12_errorPosition mX12_errorPosition 0 := ⟨⟨jw_1713, jw_1, ⟨by decide +kernel, by decide +kernel⟩, by decide +kernel, by decide +kernel, rfl, by decide, fun h => absurd h (by decide), rfl⟩, jw_1711, jw_1712⟩
abbrev mX12_failedCommand : jk_M := (RX12, cX12_failedCommand, 1, (some FieldType.int), [], false, 9)
theorem jm_X12_failedCommand : jk_mV yX12_failedCommand mX12_failedCommand 0 := ⟨⟨jw_1573, jw_1, ⟨by decide +kernel, by decide +kernel⟩, by decide +kernel, by decide +kernel, rfl, by decide, fun h => absurd h (by decide), rfl⟩, jw_1571, jw_1572⟩
abbrev mX12_undo : jk_M := (RX12, cX12_undo, 1, (some FieldType.int), [], false, 9)
theorem jm_X12_undo : jk_mV yX12_undo mX12_undo 0 := ⟨⟨jw_1578, jw_1, ⟨by decide +kernel, by decide +kernel⟩, by decide +kernel, by decide +kernel, rfl, by decide, fun h => absurd h (by decide), rfl⟩, jw_1576, jw_1577⟩
abbrev mX12_save : jk_M := (RX12, cX12_save, 1, (some FieldType.int), [], false, 2)
theorem jm_X12_save : jk_mV yX12_save mX12_save 0 := ⟨⟨jw_1587, jw_1, ⟨by decide +kernel, by decide +kernel⟩, by decide +kernel, by decide +kernel, rfl, by decide, fun h => absurd h (by decide), rfl⟩, jw_1585, jw_1586⟩
abbrev mX12_restore : jk_M := (RX12, cX12_restore, 1, (some FieldType.int), [], false, 9)
theorem jm_X12_restore : jk_mV yX12_restore mX12_restore 0 := ⟨⟨jw_1591, jw_1, ⟨by decide +kernel, by decide +kernel⟩, by decide +kernel, by decide +kernel, rfl, by decide, fun h => absurd h (by decide), rfl⟩, jw_1589, jw_1590⟩
abbrev mX12_change : jk_M := (RX12, cX12_change, 6, (some FieldType.int), [], false, 18)
theorem jm_X12_change : jk_mV yX12_change mX12_change 5 := ⟨⟨jw_430, jw_1, ⟨by decide +kernel, by decide +kernel⟩, by decide +kernel, by decide +kernel, rfl, by decide, fun h => absurd h (by decide), rfl⟩, jw_429, jw_s0⟩
abbrev mX12_raise : jk_M := (RX12, cX12_raise, 1, none, [], false, 9)
theorem jm_X12_raise : jk_mS yX12_raise mX12_raise 1 := ⟨⟨jw_584, jw_1, ⟨by decide +kernel, by decide +kernel⟩, by decide +kernel, by decide +kernel, rfl, by decide, fun h => absurd h (by decide), rfl⟩, jw_583⟩
abbrev mX12_requireBenchmark : jk_M := (RX12, cX12_requireBenchmark, 2, none, [], false, 9)
theorem jm_X12_requireBenchmark : jk_mV yX12_requireBenchmark mX12_requireBenchmark 1 := ⟨⟨jw_862, jw_1, ⟨by decide +kernel, by decide +kernel⟩, by decide +kernel, by decide +kernel, rfl, by decide, fun h => absurd h (by decide), rfl⟩, jw_861, jw_s25⟩
abbrev mX12_requireLine : jk_M := (RX12, cX12_requireLine, 2, none, [], false, 9)
theorem jm_X12_requireLine : jk_mV yX12_requireLine mX12_requireLine 1 := ⟨⟨jw_947, jw_1, ⟨by decide +kernel, by decide +kernel⟩, by decide +kernel, by decide +kernel, rfl, by decide, fun h => absurd h (by decide), rfl⟩, jw_946, jw_s30⟩
abbrev mX12_requireProfile : jk_M := (RX12, cX12_requireProfile, 2, none, [], false, 9)
theorem jm_X12_requireProfile : jk_mV yX12_requireProfile mX12_requireProfile 1 := ⟨⟨jw_1079, jw_1, ⟨by decide +kernel, by decide +kernel⟩, by decide +kernel, by decide +kernel, rfl, by decide, fun h => absurd h (by decide), rfl⟩, jw_1078, jw_s35⟩
abbrev mX12_requireHeight : jk_M := (RX12, cX12_requireHeight, 2, none, [], false, 9)
theorem jm_X12_requireHeight : jk_mV yX12_requireHeight mX12_requireHeight 1 := ⟨⟨jw_881, jw_1, ⟨by decide +kernel, by decide +kernel⟩, by decide +kernel, by decide +kernel, rfl, by decide, fun h => absurd h (by decide), rfl⟩, jw_880, jw_s26⟩
abbrev mX12_traceLoop : jk_M := (RX12, cX12_traceLoop, 2, none, [], false, 16)
theorem jm_X12_traceLoop : jk_mV yX12_traceLoop mX12_traceLoop 1 := ⟨⟨jw_1042, jw_1, ⟨by decide +kernel, by decide +kernel⟩, by decide +kernel, by decide +kernel, rfl, by decide, fun h => absurd h (by decide), rfl⟩, jw_1041, jw_s34⟩
abbrev mX12_surfaceAt : jk_M := (RX12, cX12_surfaceAt, 2, (some FieldType.int), [], false, 18)
theorem jm_X12_surfaceAt : jk_mV yX12_surfaceAt mX12_surfaceAt 1 := ⟨⟨jw_1110, jw_1, ⟨by decide +kernel, by decide +kernel⟩, by decide +kernel, by decide +kernel, rfl, by decide, fun h => absurd h (by decide), rfl⟩, jw_1109, jw_s38⟩
abbrev mX12_markOf : jk_M := (RX12, cX12_markOf, 2, (some FieldType.char), [], false, 2)
theorem jm_X12_markOf : jk_mV yX12_markOf mX12_markOf 1 := ⟨⟨jw_1497, jw_1, ⟨by decide +kernel, by decide +kernel⟩, by decide +kernel, by decide +kernel, rfl, by decide, fun h => absurd h (by decide), rfl⟩, jw_1496, jw_s42⟩
abbrev mX12_heightsAgree : jk_M := (RX12, cX12_heightsAgree, 2, (some FieldType.boolean), [], false, 18)
theorem jm_X12_heightsAgree : jk_mV yX12_heightsAgree mX12_heightsAgree 0 := ⟨⟨jw_1186, jw_1, ⟨by decide +kernel, by decide +kernel⟩, by decide +kernel, by decide +kernel, rfl, by decide, fun h => absurd h (by decide), rfl⟩, jw_1185, jw_s39⟩
abbrev mX12_misclosuresAgree : jk_M := (RX12, cX12_misclosuresAgree, 2, (some FieldType.boolean), [], false, 16)
theorem jm_X12_misclosuresAgree : jk_mV yX12_misclosuresAgree mX12_misclosuresAgree 0 := ⟨⟨jw_1190, jw_1, ⟨by decide +kernel, by decide +kernel⟩, by decide +kernel, by decide +kernel, rfl, by decide, fun h => absurd h (by decide), rfl⟩, jw_1189, jw_s40⟩
abbrev mX12_wetColumnsAgree : jk_M := (RX12, cX12_wetColumnsAgree, 3, (some FieldType.boolean), [], false, 19)
theorem jm_X12_wetColumnsAgree : jk_mV yX12_wetColumnsAgree mX12_wetColumnsAgree 0 := ⟨⟨jw_1194, jw_1, ⟨by decide +kernel, by decide +kernel⟩, by decide +kernel, by decide +kernel, rfl, by decide, fun h => absurd h (by decide), rfl⟩, jw_1193, jw_s41⟩
abbrev mX12_firstFailure : jk_M := (RX12, cX12_firstFailure, 4, (some FieldType.int), [], false, 18)
theorem jm_X12_firstFailure : jk_mV yX12_firstFailure mX12_firstFailure 0 := ⟨⟨jw_1567, jw_1, ⟨by decide +kernel, by decide +kernel⟩, by decide +kernel, by decide +kernel, rfl, by decide, fun h => absurd h (by decide), rfl⟩, jw_1566, jw_s50⟩
abbrev mX12_within : jk_M := (RX12, cX12_within, 3, (some FieldType.boolean), [], false, 0)
theorem jm_X12_within : jk_mS yX12_within mX12_within 3 := ⟨⟨jw_467, jw_1, ⟨by decide +kernel, by decide +kernel⟩, by decide +kernel, by decide +kernel, rfl, by decide, fun h => absurd h (by decide), rfl⟩, jw_466⟩
abbrev mX12_toleranceFor : jk_M := (RX12, cX12_toleranceFor, 3, (some FieldType.int), [], false, 0)
theorem jm_X12_toleranceFor : jk_mS yX12_toleranceFor mX12_toleranceFor 1 := ⟨⟨jw_518, jw_1, ⟨by decide +kernel, by decide +kernel⟩, by decide +kernel, by decide +kernel, rfl, by decide, fun h => absurd h (by decide), rfl⟩, jw_517⟩
abbrev mJ5_init_d00df : jk_M := (RJ5, cJ5_init_d00df, 2, none, [], true, 11)
theorem jm_J5_init_d00df : jk_mI yJ5_init_d00df mJ5_init_d00df 1 := ⟨⟨jw_349, jw_11, ⟨by decide +kernel, by decide +kernel⟩, by decide +kernel, by decide +kernel, rfl, by decide, fun _ => rfl, rfl⟩, rfl, jw_348, rfl⟩
abbrev mJ5_length_8abf5 : jk_M := (RJ5, cJ5_length_8abf5, 1, (some FieldType.int), [], false, 0)
abbrev mJ5_ensureCapacityInternal_d00df : jk_M := (RJ5, cJ5_ensureCapacityInternal_d00df, 3, none, [], false, 12)
abbrev mJ5_newCapacity_0f7a4 : jk_M := (RJ5, cJ5_newCapacity_0f7a4, 6, (some FieldType.int), [], false, 11)
abbrev mJ5_inflate_da8c8 : jk_M := (RJ5, cJ5_inflate_da8c8, 2, none, [], false, 14)
abbrev mJ5_setLength_d00df : jk_M := (RJ5, cJ5_setLength_d00df, 2, none, [], false, 30)
abbrev mJ5_charAt_5068e : jk_M := (RJ5, cJ5_charAt_5068e, 5, (some FieldType.char), [], false, 11)
abbrev mJ5_append_cf1ce : jk_M := (RJ5, cJ5_append_cf1ce, 3, (some (FieldType.object "java/lang/AbstractStringBuilder")), [], false, 17)
abbrev mJ5_appendNull_278bc : jk_M := (RJ5, cJ5_appendNull_278bc, 3, (some (FieldType.object "java/lang/AbstractStringBuilder")), [], false, 13)
abbrev mJ5_append_3fe6f : jk_M := (RJ5, cJ5_append_3fe6f, 2, (some (FieldType.object "java/lang/AbstractStringBuilder")), [], false, 15)
abbrev mJ5_append_c97b9 : jk_M := (RJ5, cJ5_append_c97b9, 4, (some (FieldType.object "java/lang/AbstractStringBuilder")), [], false, 13)
abbrev mJ5_getValue_6d5f1 : jk_M := (RJ5, cJ5_getValue_6d5f1, 1, (some (FieldType.array FieldType.byte)), [], false, 0)
abbrev mJ5_isLatin1_aae02 : jk_M := (RJ5, cJ5_isLatin1_aae02, 1, (some FieldType.boolean), [], false, 0)
abbrev mJ5_inflateIfNeededFor_a7421 : jk_M := (RJ5, cJ5_inflateIfNeededFor_a7421, 2, none, [], false, 15)
abbrev mJ5_putStringAt_47b60 : jk_M := (RJ5, cJ5_putStringAt_47b60, 3, none, [], false, 16)
abbrev mJ6_getChars_ba4f3 : jk_M := (RJ6, cJ6_getChars_ba4f3, 7, (some FieldType.int), [], false, 0)
theorem jm_J6_getChars_ba4f3 : jk_mS yJ6_getChars_ba4f3 mJ6_getChars_ba4f3 3 := ⟨⟨jw_1342, jw_35, ⟨by decide +kernel, by decide +kernel⟩, by decide +kernel, by decide +kernel, rfl, by decide, fun h => absurd h (by decide), rfl⟩, jw_1341⟩
abbrev mJ6_stringSize_0f7a4 : jk_M := (RJ6, cJ6_stringSize_0f7a4, 4, (some FieldType.int), [], false, 0)
theorem jm_J6_stringSize_0f7a4 : jk_mS yJ6_stringSize_0f7a4 mJ6_stringSize_0f7a4 1 := ⟨⟨jw_1339, jw_35, ⟨by decide +kernel, by decide +kernel⟩, by decide +kernel, by decide +kernel, rfl, by decide, fun h => absurd h (by decide), rfl⟩, jw_1338⟩
abbrev mJ0_init_81219 : jk_M := (RJ0, cJ0_init_81219, 2, none, [], true, 24)
theorem jm_J0_init_81219 : jk_mI yJ0_init_81219 mJ0_init_81219 1 := ⟨⟨jw_1363, jw_13, ⟨by decide +kernel, by decide +kernel⟩, by decide +kernel, by decide +kernel, rfl, by decide, fun _ => rfl, rfl⟩, rfl, jw_1362, rfl⟩
abbrev mJ0_length_8abf5 : jk_M := (RJ0, cJ0_length_8abf5, 1, (some FieldType.int), [], false, 1)
theorem jm_J0_length_8abf5 : jk_mV yJ0_length_8abf5 mJ0_length_8abf5 0 := ⟨⟨jw_1290, jw_13, ⟨by decide +kernel, by decide +kernel⟩, by decide +kernel, by decide +kernel, rfl, by decide, fun h => absurd h (by decide), rfl⟩, jw_1288, jw_1289⟩
abbrev mJ0_charAt_5068e : jk_M := (RJ0, cJ0_charAt_5068e, 2, (some FieldType.char), [], false, 13)
theorem jm_J0_charAt_5068e : jk_mV yJ0_charAt_5068e mJ0_charAt_5068e 1 := ⟨⟨jw_1533, jw_13, ⟨by decide +kernel, by decide +kernel⟩, by decide +kernel, by decide +kernel, rfl, by decide, fun h => absurd h (by decide), rfl⟩, jw_1531, jw_1532⟩
abbrev mJ0_getBytes_840e7 : jk_M := (RJ0, cJ0_getBytes_840e7, 4, none, [], false, 14)
theorem jm_J0_getBytes_840e7 : jk_mV yJ0_getBytes_840e7 mJ0_getBytes_840e7 3 := ⟨⟨jw_1327, jw_13, ⟨by decide +kernel, by decide +kernel⟩, by decide +kernel, by decide +kernel, rfl, by decide, fun h => absurd h (by decide), rfl⟩, jw_1325, jw_1326⟩
abbrev mJ0_init_db425 : jk_M := (RJ0, cJ0_init_db425, 5, none, [], true, 23)
theorem jm_J0_init_db425 : jk_mI yJ0_init_db425 mJ0_init_db425 2 := ⟨⟨jw_1366, jw_13, ⟨by decide +kernel, by decide +kernel⟩, by decide +kernel, by decide +kernel, rfl, by decide, fun _ => rfl, rfl⟩, rfl, jw_1365, rfl⟩
abbrev mJ0_coder_7d493 : jk_M := (RJ0, cJ0_coder_7d493, 1, (some FieldType.byte), [], false, 0)
theorem jm_J0_coder_7d493 : jk_mV yJ0_coder_7d493 mJ0_coder_7d493 0 := ⟨⟨jw_1294, jw_13, ⟨by decide +kernel, by decide +kernel⟩, by decide +kernel, by decide +kernel, rfl, by decide, fun h => absurd h (by decide), rfl⟩, jw_1292, jw_1293⟩
abbrev mJ0_isLatin1_aae02 : jk_M := (RJ0, cJ0_isLatin1_aae02, 1, (some FieldType.boolean), [], false, 0)
theorem jm_J0_isLatin1_aae02 : jk_mV yJ0_isLatin1_aae02 mJ0_isLatin1_aae02 0 := ⟨⟨jw_1537, jw_13, ⟨by decide +kernel, by decide +kernel⟩, by decide +kernel, by decide +kernel, rfl, by decide, fun h => absurd h (by decide), rfl⟩, jw_1535, jw_1536⟩
abbrev mJ0_checkIndex_df160 : jk_M := (RJ0, cJ0_checkIndex_df160, 2, none, [], false, 10)
theorem jm_J0_checkIndex_df160 : jk_mS yJ0_checkIndex_df160 mJ0_checkIndex_df160 2 := ⟨⟨jw_1489, jw_13, ⟨by decide +kernel, by decide +kernel⟩, by decide +kernel, by decide +kernel, rfl, by decide, fun h => absurd h (by decide), rfl⟩, jw_1488⟩
abbrev mJ0_checkBoundsOffCount_cabcc : jk_M := (RJ0, cJ0_checkBoundsOffCount_cabcc, 3, (some FieldType.int), [], false, 10)
theorem jm_J0_checkBoundsOffCount_cabcc : jk_mS yJ0_checkBoundsOffCount_cabcc mJ0_checkBoundsOffCount_cabcc 3 := ⟨⟨jw_1320, jw_13, ⟨by decide +kernel, by decide +kernel⟩, by decide +kernel, by decide +kernel, rfl, by decide, fun h => absurd h (by decide), rfl⟩, jw_1319⟩
abbrev mJ0_checkBoundsBeginEnd_23922 : jk_M := (RJ0, cJ0_checkBoundsBeginEnd_23922, 3, none, [], false, 10)
theorem jm_J0_checkBoundsBeginEnd_23922 : jk_mS yJ0_checkBoundsBeginEnd_23922 mJ0_checkBoundsBeginEnd_23922 3 := ⟨⟨jw_1272, jw_13, ⟨by decide +kernel, by decide +kernel⟩, by decide +kernel, by decide +kernel, rfl, by decide, fun h => absurd h (by decide), rfl⟩, jw_1271⟩
abbrev mJ4_init_da8c8 : jk_M := (RJ4, cJ4_init_da8c8, 1, none, [], true, 12)
theorem jm_J4_init_da8c8 : jk_mI yJ4_init_da8c8 mJ4_init_da8c8 0 := ⟨⟨jw_346, jw_12, ⟨by decide +kernel, by decide +kernel⟩, by decide +kernel, by decide +kernel, rfl, by decide, fun _ => rfl, rfl⟩, rfl, jw_345, rfl⟩
abbrev mJ4_append_15ec4 : jk_M := (RJ4, cJ4_append_15ec4, 2, (some (FieldType.object "java/lang/StringBuilder")), [], false, 18)
theorem jm_J4_append_15ec4 : jk_mV yJ4_append_15ec4 mJ4_append_15ec4 1 := ⟨⟨jw_1217, jw_12, ⟨by decide +kernel, by decide +kernel⟩, by decide +kernel, by decide +kernel, rfl, by decide, fun h => absurd h (by decide), rfl⟩, jw_1215, jw_1216⟩
abbrev mJ4_append_cf468 : jk_M := (RJ4, cJ4_append_cf468, 2, (some (FieldType.object "java/lang/StringBuilder")), [], false, 16)
theorem jm_J4_append_cf468 : jk_mV yJ4_append_cf468 mJ4_append_cf468 1 := ⟨⟨jw_1474, jw_12, ⟨by decide +kernel, by decide +kernel⟩, by decide +kernel, by decide +kernel, rfl, by decide, fun h => absurd h (by decide), rfl⟩, jw_1472, jw_1473⟩
abbrev mJ4_append_bf812 : jk_M := (RJ4, cJ4_append_bf812, 2, (some (FieldType.object "java/lang/StringBuilder")), [], false, 14)
theorem jm_J4_append_bf812 : jk_mV yJ4_append_bf812 mJ4_append_bf812 1 := ⟨⟨jw_1333, jw_12, ⟨by decide +kernel, by decide +kernel⟩, by decide +kernel, by decide +kernel, rfl, by decide, fun h => absurd h (by decide), rfl⟩, jw_1331, jw_1332⟩
abbrev mJ4_toString_0e30d : jk_M := (RJ4, cJ4_toString_0e30d, 1, (some (FieldType.object "java/lang/String")), [], false, 25)
theorem jm_J4_toString_0e30d : jk_mV yJ4_toString_0e30d mJ4_toString_0e30d 0 := ⟨⟨jw_1358, jw_12, ⟨by decide +kernel, by decide +kernel⟩, by decide +kernel, by decide +kernel, rfl, by decide, fun h => absurd h (by decide), rfl⟩, jw_1356, jw_1357⟩
abbrev mJ4_charAt_5068e : jk_M := (RJ4, cJ4_charAt_5068e, 2, (some FieldType.char), [], false, 12)
theorem jm_J4_charAt_5068e : jk_mV yJ4_charAt_5068e mJ4_charAt_5068e 1 := ⟨⟨jw_1697, jw_12, ⟨by decide +kernel, by decide +kernel⟩, by decide +kernel, by decide +kernel, rfl, by decide, fun h => absurd h (by decide), rfl⟩, jw_1695, jw_1696⟩
abbrev mJ4_setLength_d00df : jk_M := (RJ4, cJ4_setLength_d00df, 2, none, [], false, 31)
theorem jm_J4_setLength_d00df : jk_mV yJ4_setLength_d00df mJ4_setLength_d00df 1 := ⟨⟨jw_1202, jw_12, ⟨by decide +kernel, by decide +kernel⟩, by decide +kernel, by decide +kernel, rfl, by decide, fun h => absurd h (by decide), rfl⟩, jw_1200, jw_1201⟩
abbrev mJ4_length_8abf5 : jk_M := (RJ4, cJ4_length_8abf5, 1, (some FieldType.int), [], false, 1)
theorem jm_J4_length_8abf5 : jk_mV yJ4_length_8abf5 mJ4_length_8abf5 0 := ⟨⟨jw_1378, jw_12, ⟨by decide +kernel, by decide +kernel⟩, by decide +kernel, by decide +kernel, rfl, by decide, fun h => absurd h (by decide), rfl⟩, jw_1377, jw_1756⟩
abbrev mJ1_charAt_3b067 : jk_M := (RJ1, cJ1_charAt_3b067, 2, (some FieldType.char), [], false, 11)
theorem jm_J1_charAt_3b067 : jk_mS yJ1_charAt_3b067 mJ1_charAt_3b067 2 := ⟨⟨jw_1540, jw_29, ⟨by decide +kernel, by decide +kernel⟩, by decide +kernel, by decide +kernel, rfl, by decide, fun h => absurd h (by decide), rfl⟩, jw_1539⟩
abbrev mJ1_canEncode_fc78d : jk_M := (RJ1, cJ1_canEncode_fc78d, 1, (some FieldType.boolean), [], false, 0)
theorem jm_J1_canEncode_fc78d : jk_mS yJ1_canEncode_fc78d mJ1_canEncode_fc78d 1 := ⟨⟨jw_1480, jw_29, ⟨by decide +kernel, by decide +kernel⟩, by decide +kernel, by decide +kernel, rfl, by decide, fun h => absurd h (by decide), rfl⟩, jw_1479⟩
abbrev mJ1_fillNull_b72d1 : jk_M := (RJ1, cJ1_fillNull_b72d1, 3, none, [], false, 29)
theorem jm_J1_fillNull_b72d1 : jk_mS yJ1_fillNull_b72d1 mJ1_fillNull_b72d1 3 := ⟨⟨jw_1433, jw_29, ⟨by decide +kernel, by decide +kernel⟩, by decide +kernel, by decide +kernel, rfl, by decide, fun h => absurd h (by decide), rfl⟩, jw_1432⟩
abbrev mJ1_inflate_0e8fd : jk_M := (RJ1, cJ1_inflate_0e8fd, 5, none, [], false, 13)
theorem jm_J1_inflate_0e8fd : jk_mS yJ1_inflate_0e8fd mJ1_inflate_0e8fd 5 := ⟨⟨jw_1311, jw_29, ⟨by decide +kernel, by decide +kernel⟩, by decide +kernel, by decide +kernel, rfl, by decide, fun h => absurd h (by decide), rfl⟩, jw_1310⟩
abbrev mJ2_newBytesFor_77867 : jk_M := (RJ2, cJ2_newBytesFor_77867, 1, (some (FieldType.array FieldType.byte)), [], false, 10)
theorem jm_J2_newBytesFor_77867 : jk_mS yJ2_newBytesFor_77867 mJ2_newBytesFor_77867 1 := ⟨⟨jw_355, jw_14, ⟨by decide +kernel, by decide +kernel⟩, by decide +kernel, by decide +kernel, rfl, by decide, fun h => absurd h (by decide), rfl⟩, jw_354⟩
abbrev mJ2_newBytesLength_0f7a4 : jk_M := (RJ2, cJ2_newBytesLength_0f7a4, 1, (some FieldType.int), [], false, 9)
theorem jm_J2_newBytesLength_0f7a4 : jk_mS yJ2_newBytesLength_0f7a4 mJ2_newBytesLength_0f7a4 1 := ⟨⟨jw_358, jw_14, ⟨by decide +kernel, by decide +kernel⟩, by decide +kernel, by decide +kernel, rfl, by decide, fun h => absurd h (by decide), rfl⟩, jw_357⟩
abbrev mJ2_putChar_b72d1 : jk_M := (RJ2, cJ2_putChar_b72d1, 3, none, [], false, 9)
theorem jm_J2_putChar_b72d1 : jk_mS yJ2_putChar_b72d1 mJ2_putChar_b72d1 3 := ⟨⟨jw_1280, jw_14, ⟨by decide +kernel, by decide +kernel⟩, by decide +kernel, by decide +kernel, rfl, by decide, fun h => absurd h (by decide), rfl⟩, jw_1279⟩
abbrev mJ2_getChar_3b067 : jk_M := (RJ2, cJ2_getChar_3b067, 2, (some FieldType.char), [], false, 9)
theorem jm_J2_getChar_3b067 : jk_mS yJ2_getChar_3b067 mJ2_getChar_3b067 2 := ⟨⟨jw_1407, jw_14, ⟨by decide +kernel, by decide +kernel⟩, by decide +kernel, by decide +kernel, rfl, by decide, fun h => absurd h (by decide), rfl⟩, jw_1406⟩
abbrev mJ2_length_9d52b : jk_M := (RJ2, cJ2_length_9d52b, 1, (some FieldType.int), [], false, 0)
theorem jm_J2_length_9d52b : jk_mS yJ2_length_9d52b mJ2_length_9d52b 1 := ⟨⟨jw_1269, jw_14, ⟨by decide +kernel, by decide +kernel⟩, by decide +kernel, by decide +kernel, rfl, by decide, fun h => absurd h (by decide), rfl⟩, jw_1268⟩
abbrev mJ2_coderFromArrayLen_85cad : jk_M := (RJ2, cJ2_coderFromArrayLen_85cad, 2, (some FieldType.byte), [], false, 0)
theorem jm_J2_coderFromArrayLen_85cad : jk_mS yJ2_coderFromArrayLen_85cad mJ2_coderFromArrayLen_85cad 2 := ⟨⟨jw_1411, jw_14, ⟨by decide +kernel, by decide +kernel⟩, by decide +kernel, by decide +kernel, rfl, by decide, fun h => absurd h (by decide), rfl⟩, jw_1410⟩
abbrev mJ2_compress_39247 : jk_M := (RJ2, cJ2_compress_39247, 6, (some (FieldType.array FieldType.byte)), [], false, 22)
theorem jm_J2_compress_39247 : jk_mS yJ2_compress_39247 mJ2_compress_39247 3 := ⟨⟨jw_1401, jw_14, ⟨by decide +kernel, by decide +kernel⟩, by decide +kernel, by decide +kernel, rfl, by decide, fun h => absurd h (by decide), rfl⟩, jw_1400⟩
abbrev mJ2_compress_5af95 : jk_M := (RJ2, cJ2_compress_5af95, 7, (some FieldType.int), [], false, 12)
theorem jm_J2_compress_5af95 : jk_mS yJ2_compress_5af95 mJ2_compress_5af95 5 := ⟨⟨jw_1404, jw_14, ⟨by decide +kernel, by decide +kernel⟩, by decide +kernel, by decide +kernel, rfl, by decide, fun h => absurd h (by decide), rfl⟩, jw_1403⟩
abbrev mJ2_fillNull_b72d1 : jk_M := (RJ2, cJ2_fillNull_b72d1, 3, none, [], false, 29)
theorem jm_J2_fillNull_b72d1 : jk_mS yJ2_fillNull_b72d1 mJ2_fillNull_b72d1 3 := ⟨⟨jw_1468, jw_14, ⟨by decide +kernel, by decide +kernel⟩, by decide +kernel, by decide +kernel, rfl, by decide, fun h => absurd h (by decide), rfl⟩, jw_1467⟩
abbrev mJ2_putCharSB_b72d1 : jk_M := (RJ2, cJ2_putCharSB_b72d1, 3, none, [], false, 12)
theorem jm_J2_putCharSB_b72d1 : jk_mS yJ2_putCharSB_b72d1 mJ2_putCharSB_b72d1 3 := ⟨⟨jw_1483, jw_14, ⟨by decide +kernel, by decide +kernel⟩, by decide +kernel, by decide +kernel, rfl, by decide, fun h => absurd h (by decide), rfl⟩, jw_1482⟩
abbrev mJ2_getChars_46870 : jk_M := (RJ2, cJ2_getChars_46870, 5, (some FieldType.int), [], false, 12)
theorem jm_J2_getChars_46870 : jk_mS yJ2_getChars_46870 mJ2_getChars_46870 4 := ⟨⟨jw_1349, jw_14, ⟨by decide +kernel, by decide +kernel⟩, by decide +kernel, by decide +kernel, rfl, by decide, fun h => absurd h (by decide), rfl⟩, jw_1348⟩
abbrev mJ2_putCharsAt_cd4e5 : jk_M := (RJ2, cJ2_putCharsAt_cd4e5, 7, (some FieldType.int), [], false, 12)
theorem jm_J2_putCharsAt_cd4e5 : jk_mS yJ2_putCharsAt_cd4e5 mJ2_putCharsAt_cd4e5 6 := ⟨⟨jw_1263, jw_14, ⟨by decide +kernel, by decide +kernel⟩, by decide +kernel, by decide +kernel, rfl, by decide, fun h => absurd h (by decide), rfl⟩, jw_1262⟩
abbrev mJ2_charAt_3b067 : jk_M := (RJ2, cJ2_charAt_3b067, 2, (some FieldType.char), [], false, 12)
theorem jm_J2_charAt_3b067 : jk_mS yJ2_charAt_3b067 mJ2_charAt_3b067 2 := ⟨⟨jw_1544, jw_14, ⟨by decide +kernel, by decide +kernel⟩, by decide +kernel, by decide +kernel, rfl, by decide, fun h => absurd h (by decide), rfl⟩, jw_1543⟩
abbrev mJ2_inflate_0e8fd : jk_M := (RJ2, cJ2_inflate_0e8fd, 6, none, [], false, 12)
theorem jm_J2_inflate_0e8fd : jk_mS yJ2_inflate_0e8fd mJ2_inflate_0e8fd 5 := ⟨⟨jw_1314, jw_14, ⟨by decide +kernel, by decide +kernel⟩, by decide +kernel, by decide +kernel, rfl, by decide, fun h => absurd h (by decide), rfl⟩, jw_1313⟩
abbrev mJ2_getChars_ba4f3 : jk_M := (RJ2, cJ2_getChars_ba4f3, 7, (some FieldType.int), [], false, 10)
theorem jm_J2_getChars_ba4f3 : jk_mS yJ2_getChars_ba4f3 mJ2_getChars_ba4f3 3 := ⟨⟨jw_1352, jw_14, ⟨by decide +kernel, by decide +kernel⟩, by decide +kernel, by decide +kernel, rfl, by decide, fun h => absurd h (by decide), rfl⟩, jw_1351⟩
abbrev mJ2_checkIndex_2214a : jk_M := (RJ2, cJ2_checkIndex_2214a, 2, none, [], false, 11)
theorem jm_J2_checkIndex_2214a : jk_mS yJ2_checkIndex_2214a mJ2_checkIndex_2214a 2 := ⟨⟨jw_1486, jw_14, ⟨by decide +kernel, by decide +kernel⟩, by decide +kernel, by decide +kernel, rfl, by decide, fun h => absurd h (by decide), rfl⟩, jw_1485⟩
abbrev mJ2_checkBoundsBeginEnd_d044e : jk_M := (RJ2, cJ2_checkBoundsBeginEnd_d044e, 3, none, [], false, 11)
theorem jm_J2_checkBoundsBeginEnd_d044e : jk_mS yJ2_checkBoundsBeginEnd_d044e mJ2_checkBoundsBeginEnd_d044e 3 := ⟨⟨jw_1266, jw_14, ⟨by decide +kernel, by decide +kernel⟩, by decide +kernel, by decide +kernel, rfl, by decide, fun h => absurd h (by decide), rfl⟩, jw_1265⟩
abbrev mJ2_checkBoundsOffCount_d044e : jk_M := (RJ2, cJ2_checkBoundsOffCount_d044e, 3, none, [], false, 11)
theorem jm_J2_checkBoundsOffCount_d044e : jk_mS yJ2_checkBoundsOffCount_d044e mJ2_checkBoundsOffCount_d044e 3 := ⟨⟨jw_1317, jw_14, ⟨by decide +kernel, by decide +kernel⟩, by decide +kernel, by decide +kernel, rfl, by decide, fun h => absurd h (by decide), rfl⟩, jw_1316⟩
abbrev mJ7_rangeCheck_23922 : jk_M := (RJ7, cJ7_rangeCheck_23922, 3, none, [], false, 27)
theorem jm_J7_rangeCheck_23922 : jk_mS yJ7_rangeCheck_23922 mJ7_rangeCheck_23922 3 := ⟨⟨jw_1439, jw_32, ⟨by decide +kernel, by decide +kernel⟩, by decide +kernel, by decide +kernel, rfl, by decide, fun h => absurd h (by decide), rfl⟩, jw_1438⟩
abbrev mJ7_fill_eb02e : jk_M := (RJ7, cJ7_fill_eb02e, 5, none, [], false, 28)
theorem jm_J7_fill_eb02e : jk_mS yJ7_fill_eb02e mJ7_fill_eb02e 4 := ⟨⟨jw_1436, jw_32, ⟨by decide +kernel, by decide +kernel⟩, by decide +kernel, by decide +kernel, rfl, by decide, fun h => absurd h (by decide), rfl⟩, jw_1435⟩
abbrev mJ7_copyOf_9075b : jk_M := (RJ7, cJ7_copyOf_9075b, 3, (some (FieldType.array FieldType.byte)), [], false, 1)
theorem jm_J7_copyOf_9075b : jk_mS yJ7_copyOf_9075b mJ7_copyOf_9075b 2 := ⟨⟨jw_1244, jw_32, ⟨by decide +kernel, by decide +kernel⟩, by decide +kernel, by decide +kernel, rfl, by decide, fun h => absurd h (by decide), rfl⟩, jw_1243⟩
abbrev mJ7_checkLength_df160 : jk_M := (RJ7, cJ7_checkLength_df160, 2, none, [], false, 19)
theorem jm_J7_checkLength_df160 : jk_mS yJ7_checkLength_df160 mJ7_checkLength_df160 2 := ⟨⟨jw_1390, jw_32, ⟨by decide +kernel, by decide +kernel⟩, by decide +kernel, by decide +kernel, rfl, by decide, fun h => absurd h (by decide), rfl⟩, jw_1389⟩
abbrev mJ7_copyOfRange_39247 : jk_M := (RJ7, cJ7_copyOfRange_39247, 3, (some (FieldType.array FieldType.byte)), [], false, 21)
theorem jm_J7_copyOfRange_39247 : jk_mS yJ7_copyOfRange_39247 mJ7_copyOfRange_39247 3 := ⟨⟨jw_1384, jw_32, ⟨by decide +kernel, by decide +kernel⟩, by decide +kernel, by decide +kernel, rfl, by decide, fun h => absurd h (by decide), rfl⟩, jw_1383⟩
abbrev mJ7_copyOfRangeByte_39247 : jk_M := (RJ7, cJ7_copyOfRangeByte_39247, 5, (some (FieldType.array FieldType.byte)), [], false, 20)
theorem jm_J7_copyOfRangeByte_39247 : jk_mS yJ7_copyOfRangeByte_39247 mJ7_copyOfRangeByte_39247 3 := ⟨⟨jw_1387, jw_32, ⟨by decide +kernel, by decide +kernel⟩, by decide +kernel, by decide +kernel, rfl, by decide, fun h => absurd h (by decide), rfl⟩, jw_1386⟩
abbrev mJ8_newLength_cabcc : jk_M := (RJ8, cJ8_newLength_cabcc, 4, (some FieldType.int), [], false, 10)
theorem jm_J8_newLength_cabcc : jk_mS yJ8_newLength_cabcc mJ8_newLength_cabcc 3 := ⟨⟨jw_1235, jw_31, ⟨by decide +kernel, by decide +kernel⟩, by decide +kernel, by decide +kernel, rfl, by decide, fun h => absurd h (by decide), rfl⟩, jw_1234⟩
abbrev mJ8_hugeLength_7cf53 : jk_M := (RJ8, cJ8_hugeLength_7cf53, 3, (some FieldType.int), [], false, 9)
theorem jm_J8_hugeLength_7cf53 : jk_mS yJ8_hugeLength_7cf53 mJ8_hugeLength_7cf53 2 := ⟨⟨jw_1240, jw_31, ⟨by decide +kernel, by decide +kernel⟩, by decide +kernel, by decide +kernel, rfl, by decide, fun h => absurd h (by decide), rfl⟩, jw_1239⟩
abbrev mJ3_checkIndex_8e157 : jk_M := (RJ3, cJ3_checkIndex_8e157, 3, (some FieldType.int), [], false, 9)
theorem jm_J3_checkIndex_8e157 : jk_mS yJ3_checkIndex_8e157 mJ3_checkIndex_8e157 3 := ⟨⟨jw_1492, jw_30, ⟨by decide +kernel, by decide +kernel⟩, by decide +kernel, by decide +kernel, rfl, by decide, fun h => absurd h (by decide), rfl⟩, jw_1491⟩
abbrev mJ3_checkFromToIndex_8c36e : jk_M := (RJ3, cJ3_checkFromToIndex_8c36e, 4, (some FieldType.int), [], false, 9)
theorem jm_J3_checkFromToIndex_8c36e : jk_mS yJ3_checkFromToIndex_8c36e mJ3_checkFromToIndex_8c36e 4 := ⟨⟨jw_1277, jw_30, ⟨by decide +kernel, by decide +kernel⟩, by decide +kernel, by decide +kernel, rfl, by decide, fun h => absurd h (by decide), rfl⟩, jw_1276⟩
abbrev mJ3_checkFromIndexSize_8c36e : jk_M := (RJ3, cJ3_checkFromIndexSize_8c36e, 4, (some FieldType.int), [], false, 9)
theorem jm_J3_checkFromIndexSize_8c36e : jk_mS yJ3_checkFromIndexSize_8c36e mJ3_checkFromIndexSize_8c36e 4 := ⟨⟨jw_1323, jw_30, ⟨by decide +kernel, by decide +kernel⟩, by decide +kernel, by decide +kernel, rfl, by decide, fun h => absurd h (by decide), rfl⟩, jw_1322⟩
