abbrev mX1_init : jk_M := (RX1, cX1_init, 2, none, [], true, 1)
theorem jm_X1_init : jk_mI yX1_init mX1_init 1 := ⟨⟨jw_284, jw_8, ⟨by decide +kernel, by decide +kernel⟩, by decide +kernel, by decide +kernel, rfl, by decide, fun _ => rfl, rfl⟩, rfl, jw_283, rfl⟩
abbrev mX1_hasColumn : jk_M := (RX1, cX1_hasColumn, 3, (some FieldType.boolean), [], false, 1)
theorem jm_X1_hasColumn : jk_mV yX1_hasColumn mX1_hasColumn 2 := ⟨⟨jw_1333, jw_8, ⟨by decide +kernel, by decide +kernel⟩, by decide +kernel, by decide +kernel, rfl, by decide, fun h => absurd h (by decide), rfl⟩, jw_1331, jw_1332⟩
abbrev mX1_firstColumn : jk_M := (RX1, cX1_firstColumn, 2, (some FieldType.int), [], false, 0)
theorem jm_X1_firstColumn : jk_mV yX1_firstColumn mX1_firstColumn 1 := ⟨⟨jw_935, jw_8, ⟨by decide +kernel, by decide +kernel⟩, by decide +kernel, by decide +kernel, rfl, by decide, fun h => absurd h (by decide), rfl⟩, jw_934, jw_s34⟩
abbrev mX1_lastColumn : jk_M := (RX1, cX1_lastColumn, 3, (some FieldType.int), [], false, 0)
theorem jm_X1_lastColumn : jk_mV yX1_lastColumn mX1_lastColumn 1 := ⟨⟨jw_931, jw_8, ⟨by decide +kernel, by decide +kernel⟩, by decide +kernel, by decide +kernel, rfl, by decide, fun h => absurd h (by decide), rfl⟩, jw_930, jw_s33⟩
abbrev mX1_offsetAt : jk_M := (RX1, cX1_offsetAt, 8, (some FieldType.int), [], false, 1)
theorem jm_X1_offsetAt : jk_mV yX1_offsetAt mX1_offsetAt 2 := ⟨⟨jw_939, jw_8, ⟨by decide +kernel, by decide +kernel⟩, by decide +kernel, by decide +kernel, rfl, by decide, fun h => absurd h (by decide), rfl⟩, jw_937, jw_938⟩
abbrev mX1_wetByColumns : jk_M := (RX1, cX1_wetByColumns, 6, (some FieldType.int), [], false, 2)
theorem jm_X1_wetByColumns : jk_mV yX1_wetByColumns mX1_wetByColumns 2 := ⟨⟨jw_927, jw_8, ⟨by decide +kernel, by decide +kernel⟩, by decide +kernel, by decide +kernel, rfl, by decide, fun h => absurd h (by decide), rfl⟩, jw_925, jw_926⟩
abbrev mX1_shoreLines : jk_M := (RX1, cX1_shoreLines, 8, (some FieldType.int), [], false, 2)
theorem jm_X1_shoreLines : jk_mV yX1_shoreLines mX1_shoreLines 2 := ⟨⟨jw_1361, jw_8, ⟨by decide +kernel, by decide +kernel⟩, by decide +kernel, by decide +kernel, rfl, by decide, fun h => absurd h (by decide), rfl⟩, jw_1359, jw_1360⟩
abbrev mX1_columnOfLowestOffset : jk_M := (RX1, cX1_columnOfLowestOffset, 5, (some FieldType.int), [], false, 2)
theorem jm_X1_columnOfLowestOffset : jk_mV yX1_columnOfLowestOffset mX1_columnOfLowestOffset 1 := ⟨⟨jw_1373, jw_8, ⟨by decide +kernel, by decide +kernel⟩, by decide +kernel, by decide +kernel, rfl, by decide, fun h => absurd h (by decide), rfl⟩, jw_1371, jw_1372⟩
abbrev mX1_wetBySegments : jk_M := (RX1, cX1_wetBySegments, 9, (some FieldType.int), [], false, 3)
theorem jm_X1_wetBySegments : jk_mV yX1_wetBySegments mX1_wetBySegments 2 := ⟨⟨jw_946, jw_8, ⟨by decide +kernel, by decide +kernel⟩, by decide +kernel, by decide +kernel, rfl, by decide, fun h => absurd h (by decide), rfl⟩, jw_944, jw_945⟩
abbrev mX1_wetOfSegment : jk_M := (RX1, cX1_wetOfSegment, 3, (some FieldType.int), [], false, 2)
theorem jm_X1_wetOfSegment : jk_mS yX1_wetOfSegment mX1_wetOfSegment 3 := ⟨⟨jw_949, jw_8, ⟨by decide +kernel, by decide +kernel⟩, by decide +kernel, by decide +kernel, rfl, by decide, fun h => absurd h (by decide), rfl⟩, jw_948⟩
abbrev mX1_clamp : jk_M := (RX1, cX1_clamp, 2, (some FieldType.int), [], false, 1)
theorem jm_X1_clamp : jk_mS yX1_clamp mX1_clamp 2 := ⟨⟨jw_952, jw_8, ⟨by decide +kernel, by decide +kernel⟩, by decide +kernel, by decide +kernel, rfl, by decide, fun h => absurd h (by decide), rfl⟩, jw_951⟩
abbrev mX2_init : jk_M := (RX2, cX2_init, 5, none, [], true, 1)
theorem jm_X2_init : jk_mI yX2_init mX2_init 4 := ⟨⟨jw_294, jw_9, ⟨by decide +kernel, by decide +kernel⟩, by decide +kernel, by decide +kernel, rfl, by decide, fun _ => rfl, rfl⟩, rfl, jw_293, rfl⟩
abbrev mX2_troubleWith : jk_M := (RX2, cX2_troubleWith, 6, (some (FieldType.object "LevelingNetwork$Trouble")), [], false, 17)
theorem jm_X2_troubleWith : jk_mV yX2_troubleWith mX2_troubleWith 5 := ⟨⟨jw_435, jw_9, ⟨by decide +kernel, by decide +kernel⟩, by decide +kernel, by decide +kernel, rfl, by decide, fun h => absurd h (by decide), rfl⟩, jw_433, jw_434⟩
abbrev mX2_stateTroubleUnless : jk_M := (RX2, cX2_stateTroubleUnless, 1, (some (FieldType.object "LevelingNetwork$Trouble")), [], false, 0)
theorem jm_X2_stateTroubleUnless : jk_mS yX2_stateTroubleUnless mX2_stateTroubleUnless 1 := ⟨⟨jw_446, jw_9, ⟨by decide +kernel, by decide +kernel⟩, by decide +kernel, by decide +kernel, rfl, by decide, fun h => absurd h (by decide), rfl⟩, jw_445⟩
abbrev mX2_isHeight : jk_M := (RX2, cX2_isHeight, 1, (some FieldType.boolean), [], false, 1)
theorem jm_X2_isHeight : jk_mS yX2_isHeight mX2_isHeight 1 := ⟨⟨jw_463, jw_9, ⟨by decide +kernel, by decide +kernel⟩, by decide +kernel, by decide +kernel, rfl, by decide, fun h => absurd h (by decide), rfl⟩, jw_462⟩
abbrev mX2_isRun : jk_M := (RX2, cX2_isRun, 1, (some FieldType.boolean), [], false, 1)
theorem jm_X2_isRun : jk_mS yX2_isRun mX2_isRun 1 := ⟨⟨jw_481, jw_9, ⟨by decide +kernel, by decide +kernel⟩, by decide +kernel, by decide +kernel, rfl, by decide, fun h => absurd h (by decide), rfl⟩, jw_480⟩
abbrev mX2_troubleWithFixing : jk_M := (RX2, cX2_troubleWithFixing, 3, (some (FieldType.object "LevelingNetwork$Trouble")), [], false, 2)
theorem jm_X2_troubleWithFixing : jk_mV yX2_troubleWithFixing mX2_troubleWithFixing 2 := ⟨⟨jw_454, jw_9, ⟨by decide +kernel, by decide +kernel⟩, by decide +kernel, by decide +kernel, rfl, by decide, fun h => absurd h (by decide), rfl⟩, jw_453, jw_s1⟩
abbrev mX2_troubleWithFreeing : jk_M := (RX2, cX2_troubleWithFreeing, 2, (some (FieldType.object "LevelingNetwork$Trouble")), [], false, 1)
theorem jm_X2_troubleWithFreeing : jk_mV yX2_troubleWithFreeing mX2_troubleWithFreeing 1 := ⟨⟨jw_474, jw_9, ⟨by decide +kernel, by decide +kernel⟩, by decide +kernel, by decide +kernel, rfl, by decide, fun h => absurd h (by decide), rfl⟩, jw_473, jw_s2⟩
abbrev mX2_troubleWithLine : jk_M := (RX2, cX2_troubleWithLine, 5, (some (FieldType.object "LevelingNetwork$Trouble")), [], false, 2)
theorem jm_X2_troubleWithLine : jk_mV yX2_troubleWithLine mX2_troubleWithLine 4 := ⟨⟨jw_478, jw_9, ⟨by decide +kernel, by decide +kernel⟩, by decide +kernel, by decide +kernel, rfl, by decide, fun h => absurd h (by decide), rfl⟩, jw_477, jw_s3⟩
abbrev mX2_troubleWithBackwardRun : jk_M := (RX2, cX2_troubleWithBackwardRun, 3, (some (FieldType.object "LevelingNetwork$Trouble")), [], false, 2)
theorem jm_X2_troubleWithBackwardRun : jk_mV yX2_troubleWithBackwardRun mX2_troubleWithBackwardRun 2 := ⟨⟨jw_485, jw_9, ⟨by decide +kernel, by decide +kernel⟩, by decide +kernel, by decide +kernel, rfl, by decide, fun h => absurd h (by decide), rfl⟩, jw_484, jw_s4⟩
abbrev mX2_troubleWithExclusion : jk_M := (RX2, cX2_troubleWithExclusion, 3, (some (FieldType.object "LevelingNetwork$Trouble")), [], false, 1)
theorem jm_X2_troubleWithExclusion : jk_mV yX2_troubleWithExclusion mX2_troubleWithExclusion 2 := ⟨⟨jw_493, jw_9, ⟨by decide +kernel, by decide +kernel⟩, by decide +kernel, by decide +kernel, rfl, by decide, fun h => absurd h (by decide), rfl⟩, jw_492, jw_s5⟩
abbrev mX2_troubleWithSharing : jk_M := (RX2, cX2_troubleWithSharing, 3, (some (FieldType.object "LevelingNetwork$Trouble")), [], false, 16)
theorem jm_X2_troubleWithSharing : jk_mV yX2_troubleWithSharing mX2_troubleWithSharing 1 := ⟨⟨jw_497, jw_9, ⟨by decide +kernel, by decide +kernel⟩, by decide +kernel, by decide +kernel, rfl, by decide, fun h => absurd h (by decide), rfl⟩, jw_496, jw_s6⟩
abbrev mX2_troubleWithProfile : jk_M := (RX2, cX2_troubleWithProfile, 2, (some (FieldType.object "LevelingNetwork$Trouble")), [], false, 1)
theorem jm_X2_troubleWithProfile : jk_mV yX2_troubleWithProfile mX2_troubleWithProfile 1 := ⟨⟨jw_574, jw_9, ⟨by decide +kernel, by decide +kernel⟩, by decide +kernel, by decide +kernel, rfl, by decide, fun h => absurd h (by decide), rfl⟩, jw_573, jw_s11⟩
abbrev mX2_troubleWithStation : jk_M := (RX2, cX2_troubleWithStation, 5, (some (FieldType.object "LevelingNetwork$Trouble")), [], false, 1)
theorem jm_X2_troubleWithStation : jk_mV yX2_troubleWithStation mX2_troubleWithStation 3 := ⟨⟨jw_578, jw_9, ⟨by decide +kernel, by decide +kernel⟩, by decide +kernel, by decide +kernel, rfl, by decide, fun h => absurd h (by decide), rfl⟩, jw_577, jw_s12⟩
abbrev mX2_carryOut : jk_M := (RX2, cX2_carryOut, 6, (some FieldType.int), [], false, 17)
theorem jm_X2_carryOut : jk_mV yX2_carryOut mX2_carryOut 5 := ⟨⟨jw_750, jw_9, ⟨by decide +kernel, by decide +kernel⟩, by decide +kernel, by decide +kernel, rfl, by decide, fun h => absurd h (by decide), rfl⟩, jw_748, jw_749⟩
abbrev mX2_putBenchmark : jk_M := (RX2, cX2_putBenchmark, 2, (some FieldType.int), [], false, 0)
theorem jm_X2_putBenchmark : jk_mV yX2_putBenchmark mX2_putBenchmark 0 := ⟨⟨jw_754, jw_9, ⟨by decide +kernel, by decide +kernel⟩, by decide +kernel, by decide +kernel, rfl, by decide, fun h => absurd h (by decide), rfl⟩, jw_753, jw_s17⟩
abbrev mX2_putLine : jk_M := (RX2, cX2_putLine, 6, (some FieldType.int), [], false, 0)
theorem jm_X2_putLine : jk_mV yX2_putLine mX2_putLine 4 := ⟨⟨jw_762, jw_9, ⟨by decide +kernel, by decide +kernel⟩, by decide +kernel, by decide +kernel, rfl, by decide, fun h => absurd h (by decide), rfl⟩, jw_761, jw_s18⟩
abbrev mX2_shareOut : jk_M := (RX2, cX2_shareOut, 3, (some FieldType.int), [], false, 16)
theorem jm_X2_shareOut : jk_mV yX2_shareOut mX2_shareOut 1 := ⟨⟨jw_772, jw_9, ⟨by decide +kernel, by decide +kernel⟩, by decide +kernel, by decide +kernel, rfl, by decide, fun h => absurd h (by decide), rfl⟩, jw_771, jw_s19⟩
abbrev mX2_clearCorrections : jk_M := (RX2, cX2_clearCorrections, 3, (some FieldType.int), [], false, 0)
theorem jm_X2_clearCorrections : jk_mV yX2_clearCorrections mX2_clearCorrections 0 := ⟨⟨jw_791, jw_9, ⟨by decide +kernel, by decide +kernel⟩, by decide +kernel, by decide +kernel, rfl, by decide, fun h => absurd h (by decide), rfl⟩, jw_790, jw_s21⟩
abbrev mX2_putProfile : jk_M := (RX2, cX2_putProfile, 3, (some FieldType.int), [], false, 0)
theorem jm_X2_putProfile : jk_mV yX2_putProfile mX2_putProfile 1 := ⟨⟨jw_795, jw_9, ⟨by decide +kernel, by decide +kernel⟩, by decide +kernel, by decide +kernel, rfl, by decide, fun h => absurd h (by decide), rfl⟩, jw_794, jw_s22⟩
abbrev mX2_putStation : jk_M := (RX2, cX2_putStation, 5, (some FieldType.int), [], false, 0)
theorem jm_X2_putStation : jk_mV yX2_putStation mX2_putStation 3 := ⟨⟨jw_799, jw_9, ⟨by decide +kernel, by decide +kernel⟩, by decide +kernel, by decide +kernel, rfl, by decide, fun h => absurd h (by decide), rfl⟩, jw_798, jw_s23⟩
abbrev mX2_putWater : jk_M := (RX2, cX2_putWater, 3, (some FieldType.int), [], false, 0)
theorem jm_X2_putWater : jk_mV yX2_putWater mX2_putWater 1 := ⟨⟨jw_803, jw_9, ⟨by decide +kernel, by decide +kernel⟩, by decide +kernel, by decide +kernel, rfl, by decide, fun h => absurd h (by decide), rfl⟩, jw_802, jw_s24⟩
abbrev mX3_init : jk_M := (RX3, cX3_init, 2, none, [], true, 1)
theorem jm_X3_init : jk_mI yX3_init mX3_init 1 := ⟨⟨jw_188, jw_4, ⟨by decide +kernel, by decide +kernel⟩, by decide +kernel, by decide +kernel, rfl, by decide, fun _ => rfl, rfl⟩, rfl, jw_187, rfl⟩
abbrev mX3_find : jk_M := (RX3, cX3_find, 2, none, [], false, 3)
theorem jm_X3_find : jk_mV yX3_find mX3_find 0 := ⟨⟨jw_501, jw_4, ⟨by decide +kernel, by decide +kernel⟩, by decide +kernel, by decide +kernel, rfl, by decide, fun h => absurd h (by decide), rfl⟩, jw_499, jw_500⟩
abbrev mX3_putInOrder : jk_M := (RX3, cX3_putInOrder, 3, none, [], false, 2)
theorem jm_X3_putInOrder : jk_mV yX3_putInOrder mX3_putInOrder 0 := ⟨⟨jw_505, jw_4, ⟨by decide +kernel, by decide +kernel⟩, by decide +kernel, by decide +kernel, rfl, by decide, fun h => absurd h (by decide), rfl⟩, jw_504, jw_s7⟩
abbrev mX3_consider : jk_M := (RX3, cX3_consider, 7, none, [], false, 1)
theorem jm_X3_consider : jk_mV yX3_consider mX3_consider 1 := ⟨⟨jw_523, jw_4, ⟨by decide +kernel, by decide +kernel⟩, by decide +kernel, by decide +kernel, rfl, by decide, fun h => absurd h (by decide), rfl⟩, jw_522, jw_s8⟩
abbrev mX3_takenLength : jk_M := (RX3, cX3_takenLength, 3, (some FieldType.int), [], false, 0)
theorem jm_X3_takenLength : jk_mV yX3_takenLength mX3_takenLength 0 := ⟨⟨jw_820, jw_4, ⟨by decide +kernel, by decide +kernel⟩, by decide +kernel, by decide +kernel, rfl, by decide, fun h => absurd h (by decide), rfl⟩, jw_818, jw_819⟩
abbrev mX3_grownLength : jk_M := (RX3, cX3_grownLength, 3, (some FieldType.int), [], false, 2)
theorem jm_X3_grownLength : jk_mV yX3_grownLength mX3_grownLength 0 := ⟨⟨jw_828, jw_4, ⟨by decide +kernel, by decide +kernel⟩, by decide +kernel, by decide +kernel, rfl, by decide, fun h => absurd h (by decide), rfl⟩, jw_826, jw_827⟩
abbrev mX3_growReached : jk_M := (RX3, cX3_growReached, 4, (some FieldType.int), [], false, 1)
theorem jm_X3_growReached : jk_mV yX3_growReached mX3_growReached 0 := ⟨⟨jw_832, jw_4, ⟨by decide +kernel, by decide +kernel⟩, by decide +kernel, by decide +kernel, rfl, by decide, fun h => absurd h (by decide), rfl⟩, jw_831, jw_s25⟩
abbrev mX3_firstLineOutOfReached : jk_M := (RX3, cX3_firstLineOutOfReached, 3, (some FieldType.int), [], false, 0)
theorem jm_X3_firstLineOutOfReached : jk_mV yX3_firstLineOutOfReached mX3_firstLineOutOfReached 0 := ⟨⟨jw_836, jw_4, ⟨by decide +kernel, by decide +kernel⟩, by decide +kernel, by decide +kernel, rfl, by decide, fun h => absurd h (by decide), rfl⟩, jw_835, jw_s26⟩
abbrev mX3_trees : jk_M := (RX3, cX3_trees, 3, (some FieldType.int), [], false, 0)
theorem jm_X3_trees : jk_mV yX3_trees mX3_trees 0 := ⟨⟨jw_844, jw_4, ⟨by decide +kernel, by decide +kernel⟩, by decide +kernel, by decide +kernel, rfl, by decide, fun h => absurd h (by decide), rfl⟩, jw_842, jw_843⟩
abbrev mX3_closesLoop : jk_M := (RX3, cX3_closesLoop, 2, (some FieldType.boolean), [], false, 2)
theorem jm_X3_closesLoop : jk_mV yX3_closesLoop mX3_closesLoop 1 := ⟨⟨jw_533, jw_4, ⟨by decide +kernel, by decide +kernel⟩, by decide +kernel, by decide +kernel, rfl, by decide, fun h => absurd h (by decide), rfl⟩, jw_531, jw_532⟩
abbrev mX3_loops : jk_M := (RX3, cX3_loops, 3, (some FieldType.int), [], false, 3)
theorem jm_X3_loops : jk_mV yX3_loops mX3_loops 0 := ⟨⟨jw_852, jw_4, ⟨by decide +kernel, by decide +kernel⟩, by decide +kernel, by decide +kernel, rfl, by decide, fun h => absurd h (by decide), rfl⟩, jw_850, jw_851⟩
abbrev mX3_closingLineAt : jk_M := (RX3, cX3_closingLineAt, 4, (some FieldType.int), [], false, 3)
theorem jm_X3_closingLineAt : jk_mV yX3_closingLineAt mX3_closingLineAt 1 := ⟨⟨jw_1267, jw_4, ⟨by decide +kernel, by decide +kernel⟩, by decide +kernel, by decide +kernel, rfl, by decide, fun h => absurd h (by decide), rfl⟩, jw_1265, jw_1266⟩
abbrev mX4_init : jk_M := (RX4, cX4_init, 3, none, [], true, 2)
theorem jm_X4_init : jk_mI yX4_init mX4_init 2 := ⟨⟨jw_260, jw_7, ⟨by decide +kernel, by decide +kernel⟩, by decide +kernel, by decide +kernel, rfl, by decide, fun _ => rfl, rfl⟩, rfl, jw_259, rfl⟩
abbrev mX4_datumOf : jk_M := (RX4, cX4_datumOf, 3, (some FieldType.int), [], false, 0)
theorem jm_X4_datumOf : jk_mV yX4_datumOf mX4_datumOf 1 := ⟨⟨jw_878, jw_7, ⟨by decide +kernel, by decide +kernel⟩, by decide +kernel, by decide +kernel, rfl, by decide, fun h => absurd h (by decide), rfl⟩, jw_876, jw_877⟩
abbrev mX4_exists : jk_M := (RX4, cX4_exists, 2, (some FieldType.boolean), [], false, 1)
theorem jm_X4_exists : jk_mV yX4_exists mX4_exists 1 := ⟨⟨jw_874, jw_7, ⟨by decide +kernel, by decide +kernel⟩, by decide +kernel, by decide +kernel, rfl, by decide, fun h => absurd h (by decide), rfl⟩, jw_872, jw_873⟩
abbrev mX4_byWay : jk_M := (RX4, cX4_byWay, 2, (some FieldType.int), [], false, 17)
theorem jm_X4_byWay : jk_mV yX4_byWay mX4_byWay 1 := ⟨⟨jw_882, jw_7, ⟨by decide +kernel, by decide +kernel⟩, by decide +kernel, by decide +kernel, rfl, by decide, fun h => absurd h (by decide), rfl⟩, jw_880, jw_881⟩
abbrev mX4_carriedFromDatum : jk_M := (RX4, cX4_carriedFromDatum, 3, (some FieldType.int), [], false, 16)
theorem jm_X4_carriedFromDatum : jk_mV yX4_carriedFromDatum mX4_carriedFromDatum 1 := ⟨⟨jw_886, jw_7, ⟨by decide +kernel, by decide +kernel⟩, by decide +kernel, by decide +kernel, rfl, by decide, fun h => absurd h (by decide), rfl⟩, jw_884, jw_885⟩
abbrev mX4_byRounds : jk_M := (RX4, cX4_byRounds, 3, (some FieldType.int), [], false, 4)
theorem jm_X4_byRounds : jk_mV yX4_byRounds mX4_byRounds 1 := ⟨⟨jw_895, jw_7, ⟨by decide +kernel, by decide +kernel⟩, by decide +kernel, by decide +kernel, rfl, by decide, fun h => absurd h (by decide), rfl⟩, jw_893, jw_894⟩
abbrev mX4_gapByLevels : jk_M := (RX4, cX4_gapByLevels, 4, (some FieldType.int), [], false, 4)
theorem jm_X4_gapByLevels : jk_mV yX4_gapByLevels mX4_gapByLevels 1 := ⟨⟨jw_915, jw_7, ⟨by decide +kernel, by decide +kernel⟩, by decide +kernel, by decide +kernel, rfl, by decide, fun h => absurd h (by decide), rfl⟩, jw_913, jw_914⟩
abbrev mX4_passOn : jk_M := (RX4, cX4_passOn, 5, none, [], false, 3)
theorem jm_X4_passOn : jk_mV yX4_passOn mX4_passOn 2 := ⟨⟨jw_899, jw_7, ⟨by decide +kernel, by decide +kernel⟩, by decide +kernel, by decide +kernel, rfl, by decide, fun h => absurd h (by decide), rfl⟩, jw_898, jw_s28⟩
abbrev mX4_passOnOnce : jk_M := (RX4, cX4_passOnOnce, 5, (some FieldType.boolean), [], false, 2)
theorem jm_X4_passOnOnce : jk_mV yX4_passOnOnce mX4_passOnOnce 0 := ⟨⟨jw_903, jw_7, ⟨by decide +kernel, by decide +kernel⟩, by decide +kernel, by decide +kernel, rfl, by decide, fun h => absurd h (by decide), rfl⟩, jw_902, jw_s29⟩
abbrev mX4_atRank : jk_M := (RX4, cX4_atRank, 3, (some FieldType.int), [], false, 19)
theorem jm_X4_atRank : jk_mV yX4_atRank mX4_atRank 1 := ⟨⟨jw_1151, jw_7, ⟨by decide +kernel, by decide +kernel⟩, by decide +kernel, by decide +kernel, rfl, by decide, fun h => absurd h (by decide), rfl⟩, jw_1149, jw_1150⟩
abbrev mX4_benchmarksAheadOf : jk_M := (RX4, cX4_benchmarksAheadOf, 6, (some FieldType.int), [], false, 18)
theorem jm_X4_benchmarksAheadOf : jk_mV yX4_benchmarksAheadOf mX4_benchmarksAheadOf 1 := ⟨⟨jw_1156, jw_7, ⟨by decide +kernel, by decide +kernel⟩, by decide +kernel, by decide +kernel, rfl, by decide, fun h => absurd h (by decide), rfl⟩, jw_1155, jw_s37⟩
abbrev mX5_init : jk_M := (RX5, cX5_init, 2, none, [], true, 2)
theorem jm_X5_init : jk_mI yX5_init mX5_init 0 := ⟨⟨jw_168, jw_3, ⟨by decide +kernel, by decide +kernel⟩, by decide +kernel, by decide +kernel, rfl, by decide, fun _ => rfl, rfl⟩, rfl, jw_167, rfl⟩
abbrev mX5_push : jk_M := (RX5, cX5_push, 2, none, [], false, 2)
theorem jm_X5_push : jk_mV yX5_push mX5_push 1 := ⟨⟨jw_730, jw_3, ⟨by decide +kernel, by decide +kernel⟩, by decide +kernel, by decide +kernel, rfl, by decide, fun h => absurd h (by decide), rfl⟩, jw_728, jw_729⟩
abbrev mX5_popInto : jk_M := (RX5, cX5_popInto, 2, none, [], false, 2)
theorem jm_X5_popInto : jk_mV yX5_popInto mX5_popInto 1 := ⟨⟨jw_1833, jw_3, ⟨by decide +kernel, by decide +kernel⟩, by decide +kernel, by decide +kernel, rfl, by decide, fun h => absurd h (by decide), rfl⟩, jw_1831, jw_1832⟩
abbrev mX7_init : jk_M := (RX7, cX7_init, 1, none, [], true, 1)
theorem jm_X7_init : jk_mI yX7_init mX7_init 0 := ⟨⟨jw_313, jw_10, ⟨by decide +kernel, by decide +kernel⟩, by decide +kernel, by decide +kernel, rfl, by decide, fun _ => rfl, rfl⟩, rfl, jw_312, rfl⟩
abbrev mX7_add : jk_M := (RX7, cX7_add, 2, none, [], false, 0)
theorem jm_X7_add : jk_mV yX7_add mX7_add 1 := ⟨⟨jw_1736, jw_10, ⟨by decide +kernel, by decide +kernel⟩, by decide +kernel, by decide +kernel, rfl, by decide, fun h => absurd h (by decide), rfl⟩, jw_1734, jw_1735⟩
abbrev mX7_read : jk_M := (RX7, cX7_read, 3, (some FieldType.boolean), [], false, 17)
theorem jm_X7_read : jk_mV yX7_read mX7_read 0 := ⟨⟨jw_1747, jw_10, ⟨by decide +kernel, by decide +kernel⟩, by decide +kernel, by decide +kernel, rfl, by decide, fun h => absurd h (by decide), rfl⟩, jw_1745, jw_1746⟩
abbrev mX7_readCommand : jk_M := (RX7, cX7_readCommand, 2, (some FieldType.boolean), [], false, 16)
theorem jm_X7_readCommand : jk_mV yX7_readCommand mX7_readCommand 0 := ⟨⟨jw_1751, jw_10, ⟨by decide +kernel, by decide +kernel⟩, by decide +kernel, by decide +kernel, rfl, by decide, fun h => absurd h (by decide), rfl⟩, jw_1750, jw_s43⟩
abbrev mX7_readWord : jk_M := (RX7, cX7_readWord, 4, (some (FieldType.object "LevelingNetwork$Kind")), [], false, 15)
theorem jm_X7_readWord : jk_mV yX7_readWord mX7_readWord 0 := ⟨⟨jw_1755, jw_10, ⟨by decide +kernel, by decide +kernel⟩, by decide +kernel, by decide +kernel, rfl, by decide, fun h => absurd h (by decide), rfl⟩, jw_1754, jw_s44⟩
abbrev mX7_fittingSigns : jk_M := (RX7, cX7_fittingSigns, 4, (some FieldType.int), [], false, 14)
theorem jm_X7_fittingSigns : jk_mV yX7_fittingSigns mX7_fittingSigns 1 := ⟨⟨jw_1761, jw_10, ⟨by decide +kernel, by decide +kernel⟩, by decide +kernel, by decide +kernel, rfl, by decide, fun h => absurd h (by decide), rfl⟩, jw_1760, jw_s45⟩
abbrev mX7_readForm : jk_M := (RX7, cX7_readForm, 8, (some FieldType.boolean), [], false, 14)
theorem jm_X7_readForm : jk_mV yX7_readForm mX7_readForm 2 := ⟨⟨jw_1786, jw_10, ⟨by decide +kernel, by decide +kernel⟩, by decide +kernel, by decide +kernel, rfl, by decide, fun h => absurd h (by decide), rfl⟩, jw_1785, jw_s47⟩
abbrev mX7_mostDigits : jk_M := (RX7, cX7_mostDigits, 1, (some FieldType.int), [], false, 0)
theorem jm_X7_mostDigits : jk_mS yX7_mostDigits mX7_mostDigits 1 := ⟨⟨jw_1789, jw_10, ⟨by decide +kernel, by decide +kernel⟩, by decide +kernel, by decide +kernel, rfl, by decide, fun h => absurd h (by decide), rfl⟩, jw_1788⟩
abbrev mX7_readArgument : jk_M := (RX7, cX7_readArgument, 8, (some FieldType.boolean), [], false, 2)
theorem jm_X7_readArgument : jk_mV yX7_readArgument mX7_readArgument 4 := ⟨⟨jw_1797, jw_10, ⟨by decide +kernel, by decide +kernel⟩, by decide +kernel, by decide +kernel, rfl, by decide, fun h => absurd h (by decide), rfl⟩, jw_1796, jw_s49⟩
abbrev mX7_readSign : jk_M := (RX7, cX7_readSign, 3, (some FieldType.boolean), [], false, 1)
theorem jm_X7_readSign : jk_mV yX7_readSign mX7_readSign 1 := ⟨⟨jw_1793, jw_10, ⟨by decide +kernel, by decide +kernel⟩, by decide +kernel, by decide +kernel, rfl, by decide, fun h => absurd h (by decide), rfl⟩, jw_1792, jw_s48⟩
abbrev mX7_signAt : jk_M := (RX7, cX7_signAt, 2, (some FieldType.char), [], false, 0)
theorem jm_X7_signAt : jk_mV yX7_signAt mX7_signAt 1 := ⟨⟨jw_1766, jw_10, ⟨by decide +kernel, by decide +kernel⟩, by decide +kernel, by decide +kernel, rfl, by decide, fun h => absurd h (by decide), rfl⟩, jw_1765, jw_s46⟩
abbrev mX8_init : jk_M := (RX8, cX8_init, 2, none, [], true, 1)
theorem jm_X8_init : jk_mI yX8_init mX8_init 1 := ⟨⟨jw_243, jw_6, ⟨by decide +kernel, by decide +kernel⟩, by decide +kernel, by decide +kernel, rfl, by decide, fun _ => rfl, rfl⟩, rfl, jw_242, rfl⟩
abbrev mX8_divide : jk_M := (RX8, cX8_divide, 8, none, [], false, 3)
theorem jm_X8_divide : jk_mV yX8_divide mX8_divide 1 := ⟨⟨jw_776, jw_6, ⟨by decide +kernel, by decide +kernel⟩, by decide +kernel, by decide +kernel, rfl, by decide, fun h => absurd h (by decide), rfl⟩, jw_774, jw_775⟩
abbrev mX8_giveOut : jk_M := (RX8, cX8_giveOut, 5, none, [], false, 0)
theorem jm_X8_giveOut : jk_mV yX8_giveOut mX8_giveOut 1 := ⟨⟨jw_783, jw_6, ⟨by decide +kernel, by decide +kernel⟩, by decide +kernel, by decide +kernel, rfl, by decide, fun h => absurd h (by decide), rfl⟩, jw_782, jw_s20⟩
abbrev mX8_correct : jk_M := (RX8, cX8_correct, 5, none, [], false, 3)
theorem jm_X8_correct : jk_mV yX8_correct mX8_correct 1 := ⟨⟨jw_787, jw_6, ⟨by decide +kernel, by decide +kernel⟩, by decide +kernel, by decide +kernel, rfl, by decide, fun h => absurd h (by decide), rfl⟩, jw_785, jw_786⟩
abbrev mX9_init : jk_M := (RX9, cX9_init, 1, none, [], true, 1)
theorem jm_X9_init : jk_mI yX9_init mX9_init 0 := ⟨⟨jw_51, jw_2, ⟨by decide +kernel, by decide +kernel⟩, by decide +kernel, by decide +kernel, rfl, by decide, fun _ => rfl, rfl⟩, rfl, jw_50, rfl⟩
abbrev mX9_copyFrom : jk_M := (RX9, cX9_copyFrom, 2, none, [], false, 1)
theorem jm_X9_copyFrom : jk_mV yX9_copyFrom mX9_copyFrom 1 := ⟨⟨jw_734, jw_2, ⟨by decide +kernel, by decide +kernel⟩, by decide +kernel, by decide +kernel, rfl, by decide, fun h => absurd h (by decide), rfl⟩, jw_732, jw_733⟩
abbrev mX9_copyBenchmarks : jk_M := (RX9, cX9_copyBenchmarks, 3, none, [], false, 0)
theorem jm_X9_copyBenchmarks : jk_mV yX9_copyBenchmarks mX9_copyBenchmarks 1 := ⟨⟨jw_738, jw_2, ⟨by decide +kernel, by decide +kernel⟩, by decide +kernel, by decide +kernel, rfl, by decide, fun h => absurd h (by decide), rfl⟩, jw_737, jw_s14⟩
abbrev mX9_copyLines : jk_M := (RX9, cX9_copyLines, 3, none, [], false, 0)
theorem jm_X9_copyLines : jk_mV yX9_copyLines mX9_copyLines 1 := ⟨⟨jw_742, jw_2, ⟨by decide +kernel, by decide +kernel⟩, by decide +kernel, by decide +kernel, rfl, by decide, fun h => absurd h (by decide), rfl⟩, jw_741, jw_s15⟩
abbrev mX9_copyProfiles : jk_M := (RX9, cX9_copyProfiles, 4, none, [], false, 0)
theorem jm_X9_copyProfiles : jk_mV yX9_copyProfiles mX9_copyProfiles 1 := ⟨⟨jw_746, jw_2, ⟨by decide +kernel, by decide +kernel⟩, by decide +kernel, by decide +kernel, rfl, by decide, fun h => absurd h (by decide), rfl⟩, jw_745, jw_s16⟩
abbrev mX9_hasBenchmark : jk_M := (RX9, cX9_hasBenchmark, 2, (some FieldType.boolean), [], false, 0)
theorem jm_X9_hasBenchmark : jk_mV yX9_hasBenchmark mX9_hasBenchmark 1 := ⟨⟨jw_458, jw_2, ⟨by decide +kernel, by decide +kernel⟩, by decide +kernel, by decide +kernel, rfl, by decide, fun h => absurd h (by decide), rfl⟩, jw_456, jw_457⟩
abbrev mX9_hasLine : jk_M := (RX9, cX9_hasLine, 2, (some FieldType.boolean), [], false, 0)
theorem jm_X9_hasLine : jk_mV yX9_hasLine mX9_hasLine 1 := ⟨⟨jw_489, jw_2, ⟨by decide +kernel, by decide +kernel⟩, by decide +kernel, by decide +kernel, rfl, by decide, fun h => absurd h (by decide), rfl⟩, jw_487, jw_488⟩
abbrev mX9_hasProfile : jk_M := (RX9, cX9_hasProfile, 2, (some FieldType.boolean), [], false, 0)
theorem jm_X9_hasProfile : jk_mV yX9_hasProfile mX9_hasProfile 1 := ⟨⟨jw_582, jw_2, ⟨by decide +kernel, by decide +kernel⟩, by decide +kernel, by decide +kernel, rfl, by decide, fun h => absurd h (by decide), rfl⟩, jw_580, jw_581⟩
abbrev mX9_fixedBenchmarks : jk_M := (RX9, cX9_fixedBenchmarks, 3, (some FieldType.int), [], false, 0)
theorem jm_X9_fixedBenchmarks : jk_mV yX9_fixedBenchmarks mX9_fixedBenchmarks 0 := ⟨⟨jw_758, jw_2, ⟨by decide +kernel, by decide +kernel⟩, by decide +kernel, by decide +kernel, rfl, by decide, fun h => absurd h (by decide), rfl⟩, jw_756, jw_757⟩
abbrev mX9_sumOfRuns : jk_M := (RX9, cX9_sumOfRuns, 2, (some FieldType.int), [], false, 0)
theorem jm_X9_sumOfRuns : jk_mV yX9_sumOfRuns mX9_sumOfRuns 1 := ⟨⟨jw_513, jw_2, ⟨by decide +kernel, by decide +kernel⟩, by decide +kernel, by decide +kernel, rfl, by decide, fun h => absurd h (by decide), rfl⟩, jw_511, jw_512⟩
abbrev mX9_levelled : jk_M := (RX9, cX9_levelled, 2, (some FieldType.int), [], false, 0)
theorem jm_X9_levelled : jk_mV yX9_levelled mX9_levelled 1 := ⟨⟨jw_562, jw_2, ⟨by decide +kernel, by decide +kernel⟩, by decide +kernel, by decide +kernel, rfl, by decide, fun h => absurd h (by decide), rfl⟩, jw_560, jw_561⟩
abbrev mX9_corrected : jk_M := (RX9, cX9_corrected, 2, (some FieldType.int), [], false, 1)
theorem jm_X9_corrected : jk_mV yX9_corrected mX9_corrected 1 := ⟨⟨jw_558, jw_2, ⟨by decide +kernel, by decide +kernel⟩, by decide +kernel, by decide +kernel, rfl, by decide, fun h => absurd h (by decide), rfl⟩, jw_556, jw_557⟩
abbrev mX9_usable : jk_M := (RX9, cX9_usable, 2, (some FieldType.boolean), [], false, 1)
theorem jm_X9_usable : jk_mV yX9_usable mX9_usable 1 := ⟨⟨jw_509, jw_2, ⟨by decide +kernel, by decide +kernel⟩, by decide +kernel, by decide +kernel, rfl, by decide, fun h => absurd h (by decide), rfl⟩, jw_507, jw_508⟩
abbrev mX9_usableLines : jk_M := (RX9, cX9_usableLines, 3, (some FieldType.int), [], false, 2)
theorem jm_X9_usableLines : jk_mV yX9_usableLines mX9_usableLines 0 := ⟨⟨jw_767, jw_2, ⟨by decide +kernel, by decide +kernel⟩, by decide +kernel, by decide +kernel, rfl, by decide, fun h => absurd h (by decide), rfl⟩, jw_765, jw_766⟩
abbrev mX9_usableLength : jk_M := (RX9, cX9_usableLength, 3, (some FieldType.int), [], false, 2)
theorem jm_X9_usableLength : jk_mV yX9_usableLength mX9_usableLength 0 := ⟨⟨jw_1401, jw_2, ⟨by decide +kernel, by decide +kernel⟩, by decide +kernel, by decide +kernel, rfl, by decide, fun h => absurd h (by decide), rfl⟩, jw_1399, jw_1400⟩
abbrev mX9_lineAtRank : jk_M := (RX9, cX9_lineAtRank, 3, (some FieldType.int), [], false, 2)
theorem jm_X9_lineAtRank : jk_mV yX9_lineAtRank mX9_lineAtRank 1 := ⟨⟨jw_1245, jw_2, ⟨by decide +kernel, by decide +kernel⟩, by decide +kernel, by decide +kernel, rfl, by decide, fun h => absurd h (by decide), rfl⟩, jw_1243, jw_1244⟩
abbrev mX9_linesAheadOf : jk_M := (RX9, cX9_linesAheadOf, 6, (some FieldType.int), [], false, 1)
theorem jm_X9_linesAheadOf : jk_mV yX9_linesAheadOf mX9_linesAheadOf 1 := ⟨⟨jw_1249, jw_2, ⟨by decide +kernel, by decide +kernel⟩, by decide +kernel, by decide +kernel, rfl, by decide, fun h => absurd h (by decide), rfl⟩, jw_1248, jw_s39⟩
abbrev mX11_init : jk_M := (RX11, cX11_init, 3, none, [], true, 1)
theorem jm_X11_init : jk_mI yX11_init mX11_init 2 := ⟨⟨jw_217, jw_5, ⟨by decide +kernel, by decide +kernel⟩, by decide +kernel, by decide +kernel, rfl, by decide, fun _ => rfl, rfl⟩, rfl, jw_216, rfl⟩
abbrev mX11_trace : jk_M := (RX11, cX11_trace, 3, none, [], false, 15)
theorem jm_X11_trace : jk_mV yX11_trace mX11_trace 2 := ⟨⟨jw_890, jw_5, ⟨by decide +kernel, by decide +kernel⟩, by decide +kernel, by decide +kernel, rfl, by decide, fun h => absurd h (by decide), rfl⟩, jw_888, jw_889⟩
abbrev mX11_traceLoop : jk_M := (RX11, cX11_traceLoop, 2, none, [], false, 15)
theorem jm_X11_traceLoop : jk_mV yX11_traceLoop mX11_traceLoop 1 := ⟨⟨jw_539, jw_5, ⟨by decide +kernel, by decide +kernel⟩, by decide +kernel, by decide +kernel, rfl, by decide, fun h => absurd h (by decide), rfl⟩, jw_537, jw_538⟩
abbrev mX11_walk : jk_M := (RX11, cX11_walk, 6, (some FieldType.boolean), [], false, 14)
theorem jm_X11_walk : jk_mS yX11_walk mX11_walk 4 := ⟨⟨jw_546, jw_5, ⟨by decide +kernel, by decide +kernel⟩, by decide +kernel, by decide +kernel, rfl, by decide, fun h => absurd h (by decide), rfl⟩, jw_545⟩
abbrev mX11_leadsOn : jk_M := (RX11, cX11_leadsOn, 4, (some FieldType.boolean), [], false, 0)
theorem jm_X11_leadsOn : jk_mV yX11_leadsOn mX11_leadsOn 2 := ⟨⟨jw_550, jw_5, ⟨by decide +kernel, by decide +kernel⟩, by decide +kernel, by decide +kernel, rfl, by decide, fun h => absurd h (by decide), rfl⟩, jw_549, jw_s10⟩
abbrev mX11_add : jk_M := (RX11, cX11_add, 4, (some FieldType.int), [], false, 0)
theorem jm_X11_add : jk_mV yX11_add mX11_add 2 := ⟨⟨jw_543, jw_5, ⟨by decide +kernel, by decide +kernel⟩, by decide +kernel, by decide +kernel, rfl, by decide, fun h => absurd h (by decide), rfl⟩, jw_542, jw_s9⟩
abbrev mX11_rise : jk_M := (RX11, cX11_rise, 3, (some FieldType.int), [], false, 2)
theorem jm_X11_rise : jk_mV yX11_rise mX11_rise 0 := ⟨⟨jw_554, jw_5, ⟨by decide +kernel, by decide +kernel⟩, by decide +kernel, by decide +kernel, rfl, by decide, fun h => absurd h (by decide), rfl⟩, jw_552, jw_553⟩
abbrev mX11_totalLength : jk_M := (RX11, cX11_totalLength, 3, (some FieldType.int), [], false, 0)
theorem jm_X11_totalLength : jk_mV yX11_totalLength mX11_totalLength 0 := ⟨⟨jw_567, jw_5, ⟨by decide +kernel, by decide +kernel⟩, by decide +kernel, by decide +kernel, rfl, by decide, fun h => absurd h (by decide), rfl⟩, jw_565, jw_566⟩
abbrev mX12_init : jk_M := (RX12, cX12_init, 1, none, [], true, 13)
theorem jm_X12_init : jk_mI yX12_init mX12_init 0 := ⟨⟨jw_43, jw_1, ⟨by decide +kernel, by decide +kernel⟩, by decide +kernel, by decide +kernel, rfl, by decide, fun _ => rfl, rfl⟩, rfl, jw_42, rfl⟩
abbrev mX12_addBenchmark : jk_M := (RX12, cX12_addBenchmark, 1, (some FieldType.int), [], false, 19)
theorem jm_X12_addBenchmark : jk_mV yX12_addBenchmark mX12_addBenchmark 0 := ⟨⟨jw_967, jw_1, ⟨by decide +kernel, by decide +kernel⟩, by decide +kernel, by decide +kernel, rfl, by decide, fun h => absurd h (by decide), rfl⟩, jw_965, jw_966⟩
abbrev mX12_fix : jk_M := (RX12, cX12_fix, 3, (some FieldType.int), [], false, 19)
theorem jm_X12_fix : jk_mV yX12_fix mX12_fix 2 := ⟨⟨jw_998, jw_1, ⟨by decide +kernel, by decide +kernel⟩, by decide +kernel, by decide +kernel, rfl, by decide, fun h => absurd h (by decide), rfl⟩, jw_996, jw_997⟩
abbrev mX12_release : jk_M := (RX12, cX12_release, 2, (some FieldType.int), [], false, 19)
theorem jm_X12_release : jk_mV yX12_release mX12_release 1 := ⟨⟨jw_1007, jw_1, ⟨by decide +kernel, by decide +kernel⟩, by decide +kernel, by decide +kernel, rfl, by decide, fun h => absurd h (by decide), rfl⟩, jw_1005, jw_1006⟩
abbrev mX12_addLine : jk_M := (RX12, cX12_addLine, 5, (some FieldType.int), [], false, 19)
theorem jm_X12_addLine : jk_mV yX12_addLine mX12_addLine 4 := ⟨⟨jw_1016, jw_1, ⟨by decide +kernel, by decide +kernel⟩, by decide +kernel, by decide +kernel, rfl, by decide, fun h => absurd h (by decide), rfl⟩, jw_1014, jw_1015⟩
abbrev mX12_addBackwardRun : jk_M := (RX12, cX12_addBackwardRun, 3, (some FieldType.int), [], false, 19)
theorem jm_X12_addBackwardRun : jk_mV yX12_addBackwardRun mX12_addBackwardRun 2 := ⟨⟨jw_1025, jw_1, ⟨by decide +kernel, by decide +kernel⟩, by decide +kernel, by decide +kernel, rfl, by decide, fun h => absurd h (by decide), rfl⟩, jw_1023, jw_1024⟩
abbrev mX12_exclude : jk_M := (RX12, cX12_exclude, 2, (some FieldType.int), [], false, 19)
theorem jm_X12_exclude : jk_mV yX12_exclude mX12_exclude 1 := ⟨⟨jw_1034, jw_1, ⟨by decide +kernel, by decide +kernel⟩, by decide +kernel, by decide +kernel, rfl, by decide, fun h => absurd h (by decide), rfl⟩, jw_1032, jw_1033⟩
abbrev mX12_include : jk_M := (RX12, cX12_include, 2, (some FieldType.int), [], false, 19)
theorem jm_X12_include : jk_mV yX12_include mX12_include 1 := ⟨⟨jw_1043, jw_1, ⟨by decide +kernel, by decide +kernel⟩, by decide +kernel, by decide +kernel, rfl, by decide, fun h => absurd h (by decide), rfl⟩, jw_1041, jw_1042⟩
abbrev mX12_shareMisclosure : jk_M := (RX12, cX12_shareMisclosure, 2, (some FieldType.int), [], false, 19)
theorem jm_X12_shareMisclosure : jk_mV yX12_shareMisclosure mX12_shareMisclosure 1 := ⟨⟨jw_1054, jw_1, ⟨by decide +kernel, by decide +kernel⟩, by decide +kernel, by decide +kernel, rfl, by decide, fun h => absurd h (by decide), rfl⟩, jw_1052, jw_1053⟩
abbrev mX12_resetCorrections : jk_M := (RX12, cX12_resetCorrections, 1, (some FieldType.int), [], false, 19)
theorem jm_X12_resetCorrections : jk_mV yX12_resetCorrections mX12_resetCorrections 0 := ⟨⟨jw_425, jw_1, ⟨by decide +kernel, by decide +kernel⟩, by decide +kernel, by decide +kernel, rfl, by decide, fun h => absurd h (by decide), rfl⟩, jw_423, jw_424⟩
abbrev mX12_addProfile : jk_M := (RX12, cX12_addProfile, 2, (some FieldType.int), [], false, 19)
theorem jm_X12_addProfile : jk_mV yX12_addProfile mX12_addProfile 1 := ⟨⟨jw_1063, jw_1, ⟨by decide +kernel, by decide +kernel⟩, by decide +kernel, by decide +kernel, rfl, by decide, fun h => absurd h (by decide), rfl⟩, jw_1061, jw_1062⟩
abbrev mX12_addStation : jk_M := (RX12, cX12_addStation, 4, (some FieldType.int), [], false, 19)
theorem jm_X12_addStation : jk_mV yX12_addStation mX12_addStation 3 := ⟨⟨jw_1072, jw_1, ⟨by decide +kernel, by decide +kernel⟩, by decide +kernel, by decide +kernel, rfl, by decide, fun h => absurd h (by decide), rfl⟩, jw_1070, jw_1071⟩
abbrev mX12_setWaterLevel : jk_M := (RX12, cX12_setWaterLevel, 2, (some FieldType.int), [], false, 19)
theorem jm_X12_setWaterLevel : jk_mV yX12_setWaterLevel mX12_setWaterLevel 1 := ⟨⟨jw_1081, jw_1, ⟨by decide +kernel, by decide +kernel⟩, by decide +kernel, by decide +kernel, rfl, by decide, fun h => absurd h (by decide), rfl⟩, jw_1079, jw_1080⟩
abbrev mX12_benchmarkCount : jk_M := (RX12, cX12_benchmarkCount, 1, (some FieldType.int), [], false, 0)
theorem jm_X12_benchmarkCount : jk_mV yX12_benchmarkCount mX12_benchmarkCount 0 := ⟨⟨jw_807, jw_1, ⟨by decide +kernel, by decide +kernel⟩, by decide +kernel, by decide +kernel, rfl, by decide, fun h => absurd h (by decide), rfl⟩, jw_805, jw_806⟩
abbrev mX12_isFixed : jk_M := (RX12, cX12_isFixed, 2, (some FieldType.boolean), [], false, 10)
theorem jm_X12_isFixed : jk_mV yX12_isFixed mX12_isFixed 1 := ⟨⟨jw_1090, jw_1, ⟨by decide +kernel, by decide +kernel⟩, by decide +kernel, by decide +kernel, rfl, by decide, fun h => absurd h (by decide), rfl⟩, jw_1088, jw_1089⟩
abbrev mX12_hasHeight : jk_M := (RX12, cX12_hasHeight, 2, (some FieldType.boolean), [], false, 10)
theorem jm_X12_hasHeight : jk_mV yX12_hasHeight mX12_hasHeight 1 := ⟨⟨jw_1103, jw_1, ⟨by decide +kernel, by decide +kernel⟩, by decide +kernel, by decide +kernel, rfl, by decide, fun h => absurd h (by decide), rfl⟩, jw_1101, jw_1102⟩
abbrev mX12_height : jk_M := (RX12, cX12_height, 2, (some FieldType.int), [], false, 18)
theorem jm_X12_height : jk_mV yX12_height mX12_height 1 := ⟨⟨jw_1110, jw_1, ⟨by decide +kernel, by decide +kernel⟩, by decide +kernel, by decide +kernel, rfl, by decide, fun h => absurd h (by decide), rfl⟩, jw_1108, jw_1109⟩
abbrev mX12_heightByRounds : jk_M := (RX12, cX12_heightByRounds, 2, (some FieldType.int), [], false, 10)
theorem jm_X12_heightByRounds : jk_mV yX12_heightByRounds mX12_heightByRounds 1 := ⟨⟨jw_1122, jw_1, ⟨by decide +kernel, by decide +kernel⟩, by decide +kernel, by decide +kernel, rfl, by decide, fun h => absurd h (by decide), rfl⟩, jw_1120, jw_1121⟩
abbrev mX12_closingError : jk_M := (RX12, cX12_closingError, 2, (some FieldType.int), [], false, 17)
theorem jm_X12_closingError : jk_mV yX12_closingError mX12_closingError 1 := ⟨⟨jw_1129, jw_1, ⟨by decide +kernel, by decide +kernel⟩, by decide +kernel, by decide +kernel, rfl, by decide, fun h => absurd h (by decide), rfl⟩, jw_1127, jw_1128⟩
abbrev mX12_datum : jk_M := (RX12, cX12_datum, 3, (some FieldType.int), [], false, 10)
theorem jm_X12_datum : jk_mV yX12_datum mX12_datum 1 := ⟨⟨jw_1138, jw_1, ⟨by decide +kernel, by decide +kernel⟩, by decide +kernel, by decide +kernel, rfl, by decide, fun h => absurd h (by decide), rfl⟩, jw_1136, jw_1137⟩
abbrev mX12_benchmarkByHeight : jk_M := (RX12, cX12_benchmarkByHeight, 3, (some FieldType.int), [], false, 20)
theorem jm_X12_benchmarkByHeight : jk_mV yX12_benchmarkByHeight mX12_benchmarkByHeight 1 := ⟨⟨jw_1147, jw_1, ⟨by decide +kernel, by decide +kernel⟩, by decide +kernel, by decide +kernel, rfl, by decide, fun h => absurd h (by decide), rfl⟩, jw_1145, jw_1146⟩
abbrev mX12_lineCount : jk_M := (RX12, cX12_lineCount, 1, (some FieldType.int), [], false, 0)
theorem jm_X12_lineCount : jk_mV yX12_lineCount mX12_lineCount 0 := ⟨⟨jw_811, jw_1, ⟨by decide +kernel, by decide +kernel⟩, by decide +kernel, by decide +kernel, rfl, by decide, fun h => absurd h (by decide), rfl⟩, jw_809, jw_810⟩
abbrev mX12_firstOf : jk_M := (RX12, cX12_firstOf, 2, (some FieldType.int), [], false, 10)
theorem jm_X12_firstOf : jk_mV yX12_firstOf mX12_firstOf 1 := ⟨⟨jw_1165, jw_1, ⟨by decide +kernel, by decide +kernel⟩, by decide +kernel, by decide +kernel, rfl, by decide, fun h => absurd h (by decide), rfl⟩, jw_1163, jw_1164⟩
abbrev mX12_secondOf : jk_M := (RX12, cX12_secondOf, 2, (some FieldType.int), [], false, 10)
theorem jm_X12_secondOf : jk_mV yX12_secondOf mX12_secondOf 1 := ⟨⟨jw_1178, jw_1, ⟨by decide +kernel, by decide +kernel⟩, by decide +kernel, by decide +kernel, rfl, by decide, fun h => absurd h (by decide), rfl⟩, jw_1176, jw_1177⟩
abbrev mX12_lengthOf : jk_M := (RX12, cX12_lengthOf, 2, (some FieldType.int), [], false, 10)
theorem jm_X12_lengthOf : jk_mV yX12_lengthOf mX12_lengthOf 1 := ⟨⟨jw_1185, jw_1, ⟨by decide +kernel, by decide +kernel⟩, by decide +kernel, by decide +kernel, rfl, by decide, fun h => absurd h (by decide), rfl⟩, jw_1183, jw_1184⟩
abbrev mX12_levelledDifference : jk_M := (RX12, cX12_levelledDifference, 2, (some FieldType.int), [], false, 10)
theorem jm_X12_levelledDifference : jk_mV yX12_levelledDifference mX12_levelledDifference 1 := ⟨⟨jw_1192, jw_1, ⟨by decide +kernel, by decide +kernel⟩, by decide +kernel, by decide +kernel, rfl, by decide, fun h => absurd h (by decide), rfl⟩, jw_1190, jw_1191⟩
abbrev mX12_correction : jk_M := (RX12, cX12_correction, 2, (some FieldType.int), [], false, 10)
theorem jm_X12_correction : jk_mV yX12_correction mX12_correction 1 := ⟨⟨jw_1200, jw_1, ⟨by decide +kernel, by decide +kernel⟩, by decide +kernel, by decide +kernel, rfl, by decide, fun h => absurd h (by decide), rfl⟩, jw_1198, jw_1199⟩
abbrev mX12_discrepancy : jk_M := (RX12, cX12_discrepancy, 2, (some FieldType.int), [], false, 10)
theorem jm_X12_discrepancy : jk_mV yX12_discrepancy mX12_discrepancy 1 := ⟨⟨jw_1207, jw_1, ⟨by decide +kernel, by decide +kernel⟩, by decide +kernel, by decide +kernel, rfl, by decide, fun h => absurd h (by decide), rfl⟩, jw_1205, jw_1206⟩
abbrev mX12_isExcluded : jk_M := (RX12, cX12_isExcluded, 2, (some FieldType.boolean), [], false, 10)
theorem jm_X12_isExcluded : jk_mV yX12_isExcluded mX12_isExcluded 1 := ⟨⟨jw_1216, jw_1, ⟨by decide +kernel, by decide +kernel⟩, by decide +kernel, by decide +kernel, rfl, by decide, fun h => absurd h (by decide), rfl⟩, jw_1214, jw_1215⟩
abbrev mX12_isUsable : jk_M := (RX12, cX12_isUsable, 2, (some FieldType.boolean), [], false, 10)
theorem jm_X12_isUsable : jk_mV yX12_isUsable mX12_isUsable 1 := ⟨⟨jw_1223, jw_1, ⟨by decide +kernel, by decide +kernel⟩, by decide +kernel, by decide +kernel, rfl, by decide, fun h => absurd h (by decide), rfl⟩, jw_1221, jw_1222⟩
abbrev mX12_tolerance : jk_M := (RX12, cX12_tolerance, 2, (some FieldType.int), [], false, 9)
theorem jm_X12_tolerance : jk_mV yX12_tolerance mX12_tolerance 1 := ⟨⟨jw_1231, jw_1, ⟨by decide +kernel, by decide +kernel⟩, by decide +kernel, by decide +kernel, rfl, by decide, fun h => absurd h (by decide), rfl⟩, jw_1229, jw_1230⟩
abbrev mX12_lineByDiscrepancy : jk_M := (RX12, cX12_lineByDiscrepancy, 3, (some FieldType.int), [], false, 9)
theorem jm_X12_lineByDiscrepancy : jk_mV yX12_lineByDiscrepancy mX12_lineByDiscrepancy 1 := ⟨⟨jw_1241, jw_1, ⟨by decide +kernel, by decide +kernel⟩, by decide +kernel, by decide +kernel, rfl, by decide, fun h => absurd h (by decide), rfl⟩, jw_1239, jw_1240⟩
abbrev mX12_isInForest : jk_M := (RX12, cX12_isInForest, 2, (some FieldType.boolean), [], false, 10)
theorem jm_X12_isInForest : jk_mV yX12_isInForest mX12_isInForest 1 := ⟨⟨jw_1256, jw_1, ⟨by decide +kernel, by decide +kernel⟩, by decide +kernel, by decide +kernel, rfl, by decide, fun h => absurd h (by decide), rfl⟩, jw_1254, jw_1255⟩
abbrev mX12_forestLength : jk_M := (RX12, cX12_forestLength, 1, (some FieldType.int), [], false, 4)
theorem jm_X12_forestLength : jk_mV yX12_forestLength mX12_forestLength 0 := ⟨⟨jw_815, jw_1, ⟨by decide +kernel, by decide +kernel⟩, by decide +kernel, by decide +kernel, rfl, by decide, fun h => absurd h (by decide), rfl⟩, jw_813, jw_814⟩
abbrev mX12_forestLengthByGrowing : jk_M := (RX12, cX12_forestLengthByGrowing, 1, (some FieldType.int), [], false, 4)
theorem jm_X12_forestLengthByGrowing : jk_mV yX12_forestLengthByGrowing mX12_forestLengthByGrowing 0 := ⟨⟨jw_824, jw_1, ⟨by decide +kernel, by decide +kernel⟩, by decide +kernel, by decide +kernel, rfl, by decide, fun h => absurd h (by decide), rfl⟩, jw_822, jw_823⟩
abbrev mX12_treeCount : jk_M := (RX12, cX12_treeCount, 1, (some FieldType.int), [], false, 4)
theorem jm_X12_treeCount : jk_mV yX12_treeCount mX12_treeCount 0 := ⟨⟨jw_840, jw_1, ⟨by decide +kernel, by decide +kernel⟩, by decide +kernel, by decide +kernel, rfl, by decide, fun h => absurd h (by decide), rfl⟩, jw_838, jw_839⟩
abbrev mX12_loopCount : jk_M := (RX12, cX12_loopCount, 1, (some FieldType.int), [], false, 4)
theorem jm_X12_loopCount : jk_mV yX12_loopCount mX12_loopCount 0 := ⟨⟨jw_848, jw_1, ⟨by decide +kernel, by decide +kernel⟩, by decide +kernel, by decide +kernel, rfl, by decide, fun h => absurd h (by decide), rfl⟩, jw_846, jw_847⟩
abbrev mX12_loopAt : jk_M := (RX12, cX12_loopAt, 3, (some FieldType.int), [], false, 9)
theorem jm_X12_loopAt : jk_mV yX12_loopAt mX12_loopAt 1 := ⟨⟨jw_1263, jw_1, ⟨by decide +kernel, by decide +kernel⟩, by decide +kernel, by decide +kernel, rfl, by decide, fun h => absurd h (by decide), rfl⟩, jw_1261, jw_1262⟩
abbrev mX12_loopSize : jk_M := (RX12, cX12_loopSize, 2, (some FieldType.int), [], false, 17)
theorem jm_X12_loopSize : jk_mV yX12_loopSize mX12_loopSize 1 := ⟨⟨jw_1275, jw_1, ⟨by decide +kernel, by decide +kernel⟩, by decide +kernel, by decide +kernel, rfl, by decide, fun h => absurd h (by decide), rfl⟩, jw_1273, jw_1274⟩
abbrev mX12_loopLength : jk_M := (RX12, cX12_loopLength, 2, (some FieldType.int), [], false, 17)
theorem jm_X12_loopLength : jk_mV yX12_loopLength mX12_loopLength 1 := ⟨⟨jw_1286, jw_1, ⟨by decide +kernel, by decide +kernel⟩, by decide +kernel, by decide +kernel, rfl, by decide, fun h => absurd h (by decide), rfl⟩, jw_1284, jw_1285⟩
abbrev mX12_misclosure : jk_M := (RX12, cX12_misclosure, 2, (some FieldType.int), [], false, 17)
theorem jm_X12_misclosure : jk_mV yX12_misclosure mX12_misclosure 1 := ⟨⟨jw_1294, jw_1, ⟨by decide +kernel, by decide +kernel⟩, by decide +kernel, by decide +kernel, rfl, by decide, fun h => absurd h (by decide), rfl⟩, jw_1292, jw_1293⟩
abbrev mX12_misclosureByLevels : jk_M := (RX12, cX12_misclosureByLevels, 2, (some FieldType.int), [], false, 17)
theorem jm_X12_misclosureByLevels : jk_mV yX12_misclosureByLevels mX12_misclosureByLevels 1 := ⟨⟨jw_1301, jw_1, ⟨by decide +kernel, by decide +kernel⟩, by decide +kernel, by decide +kernel, rfl, by decide, fun h => absurd h (by decide), rfl⟩, jw_1299, jw_1300⟩
abbrev mX12_part : jk_M := (RX12, cX12_part, 3, (some FieldType.int), [], false, 17)
theorem jm_X12_part : jk_mV yX12_part mX12_part 2 := ⟨⟨jw_1308, jw_1, ⟨by decide +kernel, by decide +kernel⟩, by decide +kernel, by decide +kernel, rfl, by decide, fun h => absurd h (by decide), rfl⟩, jw_1306, jw_1307⟩
abbrev mX12_profileCount : jk_M := (RX12, cX12_profileCount, 1, (some FieldType.int), [], false, 0)
theorem jm_X12_profileCount : jk_mV yX12_profileCount mX12_profileCount 0 := ⟨⟨jw_857, jw_1, ⟨by decide +kernel, by decide +kernel⟩, by decide +kernel, by decide +kernel, rfl, by decide, fun h => absurd h (by decide), rfl⟩, jw_855, jw_856⟩
abbrev mX12_stationCount : jk_M := (RX12, cX12_stationCount, 2, (some FieldType.int), [], false, 10)
theorem jm_X12_stationCount : jk_mV yX12_stationCount mX12_stationCount 1 := ⟨⟨jw_1316, jw_1, ⟨by decide +kernel, by decide +kernel⟩, by decide +kernel, by decide +kernel, rfl, by decide, fun h => absurd h (by decide), rfl⟩, jw_1314, jw_1315⟩
abbrev mX12_waterLevel : jk_M := (RX12, cX12_waterLevel, 1, (some FieldType.int), [], false, 0)
theorem jm_X12_waterLevel : jk_mV yX12_waterLevel mX12_waterLevel 0 := ⟨⟨jw_861, jw_1, ⟨by decide +kernel, by decide +kernel⟩, by decide +kernel, by decide +kernel, rfl, by decide, fun h => absurd h (by decide), rfl⟩, jw_859, jw_860⟩
abbrev mX12_ground : jk_M := (RX12, cX12_ground, 3, (some FieldType.int), [], false, 18)
theorem jm_X12_ground : jk_mV yX12_ground mX12_ground 2 := ⟨⟨jw_1329, jw_1, ⟨by decide +kernel, by decide +kernel⟩, by decide +kernel, by decide +kernel, rfl, by decide, fun h => absurd h (by decide), rfl⟩, jw_1327, jw_1328⟩
abbrev mX12_wetColumns : jk_M := (RX12, cX12_wetColumns, 2, (some FieldType.int), [], false, 19)
theorem jm_X12_wetColumns : jk_mV yX12_wetColumns mX12_wetColumns 1 := ⟨⟨jw_1343, jw_1, ⟨by decide +kernel, by decide +kernel⟩, by decide +kernel, by decide +kernel, rfl, by decide, fun h => absurd h (by decide), rfl⟩, jw_1341, jw_1342⟩
abbrev mX12_wetColumnsBySegments : jk_M := (RX12, cX12_wetColumnsBySegments, 2, (some FieldType.int), [], false, 19)
theorem jm_X12_wetColumnsBySegments : jk_mV yX12_wetColumnsBySegments mX12_wetColumnsBySegments 1 := ⟨⟨jw_1350, jw_1, ⟨by decide +kernel, by decide +kernel⟩, by decide +kernel, by decide +kernel, rfl, by decide, fun h => absurd h (by decide), rfl⟩, jw_1348, jw_1349⟩
abbrev mX12_shores : jk_M := (RX12, cX12_shores, 2, (some FieldType.int), [], false, 19)
theorem jm_X12_shores : jk_mV yX12_shores mX12_shores 1 := ⟨⟨jw_1357, jw_1, ⟨by decide +kernel, by decide +kernel⟩, by decide +kernel, by decide +kernel, rfl, by decide, fun h => absurd h (by decide), rfl⟩, jw_1355, jw_1356⟩
abbrev mX12_lowestColumn : jk_M := (RX12, cX12_lowestColumn, 2, (some FieldType.int), [], false, 10)
theorem jm_X12_lowestColumn : jk_mV yX12_lowestColumn mX12_lowestColumn 1 := ⟨⟨jw_1368, jw_1, ⟨by decide +kernel, by decide +kernel⟩, by decide +kernel, by decide +kernel, rfl, by decide, fun h => absurd h (by decide), rfl⟩, jw_1366, jw_1367⟩
abbrev mX12_meanLength : jk_M := (RX12, cX12_meanLength, 2, (some FieldType.double), [], false, 9)
theorem jm_X12_meanLength : jk_mV yX12_meanLength mX12_meanLength 0 := ⟨⟨jw_1394, jw_1, ⟨by decide +kernel, by decide +kernel⟩, by decide +kernel, by decide +kernel, rfl, by decide, fun h => absurd h (by decide), rfl⟩, jw_1392, jw_1393⟩
abbrev mX12_usableShare : jk_M := (RX12, cX12_usableShare, 1, (some FieldType.float), [], false, 9)
theorem jm_X12_usableShare : jk_mV yX12_usableShare mX12_usableShare 0 := ⟨⟨jw_1408, jw_1, ⟨by decide +kernel, by decide +kernel⟩, by decide +kernel, by decide +kernel, rfl, by decide, fun h => absurd h (by decide), rfl⟩, jw_1406, jw_1407⟩
abbrev mX12_isConsistent : jk_M := (RX12, cX12_isConsistent, 1, (some FieldType.boolean), [], false, 20)
theorem jm_X12_isConsistent : jk_mV yX12_isConsistent mX12_isConsistent 0 := ⟨⟨jw_865, jw_1, ⟨by decide +kernel, by decide +kernel⟩, by decide +kernel, by decide +kernel, rfl, by decide, fun h => absurd h (by decide), rfl⟩, jw_863, jw_864⟩
abbrev mX12_renderLine : jk_M := (RX12, cX12_renderLine, 2, (some FieldType.int), [], false, 32)
theorem jm_X12_renderLine : jk_mV yX12_renderLine mX12_renderLine 1 := ⟨⟨jw_1416, jw_1, ⟨by decide +kernel, by decide +kernel⟩, by decide +kernel, by decide +kernel, rfl, by decide, fun h => absurd h (by decide), rfl⟩, jw_1414, jw_1415⟩
abbrev mX12_renderBenchmark : jk_M := (RX12, cX12_renderBenchmark, 2, (some FieldType.int), [], false, 32)
theorem jm_X12_renderBenchmark : jk_mV yX12_renderBenchmark mX12_renderBenchmark 1 := ⟨⟨jw_1705, jw_1, ⟨by decide +kernel, by decide +kernel⟩, by decide +kernel, by decide +kernel, rfl, by decide, fun h => absurd h (by decide), rfl⟩, jw_1703, jw_1704⟩
abbrev mX12_outputAt : jk_M := (RX12, cX12_outputAt, 2, (some FieldType.char), [], false, 13)
theorem jm_X12_outputAt : jk_mV yX12_outputAt mX12_outputAt 1 := ⟨⟨jw_1712, jw_1, ⟨by decide +kernel, by decide +kernel⟩, by decide +kernel, by decide +kernel, rfl, by decide, fun h => absurd h (by decide), rfl⟩, jw_1710, jw_1711⟩
abbrev mX12_type : jk_M := (RX12, cX12_type, 2, (some FieldType.int), [], false, 9)
theorem jm_X12_type : jk_mV yX12_type mX12_type 1 := ⟨⟨jw_1730, jw_1, ⟨by decide +kernel, by decide +kernel⟩, by decide +kernel, by decide +kernel, rfl, by decide, fun h => absurd h (by decide), rfl⟩, jw_1728, jw_1729⟩
abbrev mX12_runScript : jk_M := (RX12, cX12_runScript, 3, (some FieldType.int), [], false, 19)
theorem jm_X12_runScript : jk_mV yX12_runScript mX12_runScript 0 := ⟨⟨jw_1743, jw_1, ⟨by decide +kernel, by decide +kernel⟩, by decide +kernel, by decide +kernel, rfl, by decide, fun h => absurd h (by decide), rfl⟩, jw_1741, jw_1742⟩
abbrev mX12_errorPosition : jk_M := (RX12, cX12_errorPosition, 1, (some FieldType.int), [], false, 9)
theorem jm_X12_errorPosition : jk_mV yX12_errorPosition mX12_errorPosition 0 := ⟨⟨jw_1812, jw_1, ⟨by decide +kernel, by decide +kernel⟩, by decide +kernel, by decide +kernel, rfl, by decide, fun h => absurd h (by decide), rfl⟩, jw_1810, jw_1811⟩
abbrev mX12_failedCommand : jk_M := (RX12, cX12_failedCommand, 1, (some FieldType.int), [], false, 9)
theorem jm_X12_failedCommand : jk_mV yX12_failedCommand mX12_failedCommand 0 := ⟨⟨jw_1820, jw_1, ⟨by decide +kernel, by decide +kernel⟩, by decide +kernel, by decide +kernel, rfl, by decide, fun h => absurd h (by decide), rfl⟩, jw_1818, jw_1819⟩
abbrev mX12_undo : jk_M := (RX12, cX12_undo, 1, (some FieldType.int), [], false, 9)
theorem jm_X12_undo : jk_mV yX12_undo mX12_undo 0 := ⟨⟨jw_1828, jw_1, ⟨by decide +kernel, by decide +kernel⟩, by decide +kernel, by decide +kernel, rfl, by decide, fun h => absurd h (by decide), rfl⟩, jw_1826, jw_1827⟩
abbrev mX12_save : jk_M := (RX12, cX12_save, 1, (some FieldType.int), [], false, 2)
theorem jm_X12_save : jk_mV yX12_save mX12_save 0 := ⟨⟨jw_958, jw_1, ⟨by decide +kernel, by decide +kernel⟩, by decide +kernel, by decide +kernel, rfl, by decide, fun h => absurd h (by decide), rfl⟩, jw_956, jw_957⟩
abbrev mX12_restore : jk_M := (RX12, cX12_restore, 1, (some FieldType.int), [], false, 9)
theorem jm_X12_restore : jk_mV yX12_restore mX12_restore 0 := ⟨⟨jw_1840, jw_1, ⟨by decide +kernel, by decide +kernel⟩, by decide +kernel, by decide +kernel, rfl, by decide, fun h => absurd h (by decide), rfl⟩, jw_1838, jw_1839⟩
abbrev mX12_change : jk_M := (RX12, cX12_change, 6, (some FieldType.int), [], false, 18)
theorem jm_X12_change : jk_mV yX12_change mX12_change 5 := ⟨⟨jw_431, jw_1, ⟨by decide +kernel, by decide +kernel⟩, by decide +kernel, by decide +kernel, rfl, by decide, fun h => absurd h (by decide), rfl⟩, jw_430, jw_s0⟩
abbrev mX12_raise : jk_M := (RX12, cX12_raise, 1, none, [], false, 9)
theorem jm_X12_raise : jk_mS yX12_raise mX12_raise 1 := ⟨⟨jw_585, jw_1, ⟨by decide +kernel, by decide +kernel⟩, by decide +kernel, by decide +kernel, rfl, by decide, fun h => absurd h (by decide), rfl⟩, jw_584⟩
abbrev mX12_requireBenchmark : jk_M := (RX12, cX12_requireBenchmark, 2, none, [], false, 9)
theorem jm_X12_requireBenchmark : jk_mV yX12_requireBenchmark mX12_requireBenchmark 1 := ⟨⟨jw_1094, jw_1, ⟨by decide +kernel, by decide +kernel⟩, by decide +kernel, by decide +kernel, rfl, by decide, fun h => absurd h (by decide), rfl⟩, jw_1093, jw_s35⟩
abbrev mX12_requireLine : jk_M := (RX12, cX12_requireLine, 2, none, [], false, 9)
theorem jm_X12_requireLine : jk_mV yX12_requireLine mX12_requireLine 1 := ⟨⟨jw_1169, jw_1, ⟨by decide +kernel, by decide +kernel⟩, by decide +kernel, by decide +kernel, rfl, by decide, fun h => absurd h (by decide), rfl⟩, jw_1168, jw_s38⟩
abbrev mX12_requireProfile : jk_M := (RX12, cX12_requireProfile, 2, none, [], false, 9)
theorem jm_X12_requireProfile : jk_mV yX12_requireProfile mX12_requireProfile 1 := ⟨⟨jw_1320, jw_1, ⟨by decide +kernel, by decide +kernel⟩, by decide +kernel, by decide +kernel, rfl, by decide, fun h => absurd h (by decide), rfl⟩, jw_1319, jw_s41⟩
abbrev mX12_requireHeight : jk_M := (RX12, cX12_requireHeight, 2, none, [], false, 9)
theorem jm_X12_requireHeight : jk_mV yX12_requireHeight mX12_requireHeight 1 := ⟨⟨jw_1114, jw_1, ⟨by decide +kernel, by decide +kernel⟩, by decide +kernel, by decide +kernel, rfl, by decide, fun h => absurd h (by decide), rfl⟩, jw_1113, jw_s36⟩
abbrev mX12_traceLoop : jk_M := (RX12, cX12_traceLoop, 2, none, [], false, 16)
theorem jm_X12_traceLoop : jk_mV yX12_traceLoop mX12_traceLoop 1 := ⟨⟨jw_1279, jw_1, ⟨by decide +kernel, by decide +kernel⟩, by decide +kernel, by decide +kernel, rfl, by decide, fun h => absurd h (by decide), rfl⟩, jw_1278, jw_s40⟩
abbrev mX12_surfaceAt : jk_M := (RX12, cX12_surfaceAt, 2, (some FieldType.int), [], false, 18)
theorem jm_X12_surfaceAt : jk_mV yX12_surfaceAt mX12_surfaceAt 1 := ⟨⟨jw_923, jw_1, ⟨by decide +kernel, by decide +kernel⟩, by decide +kernel, by decide +kernel, rfl, by decide, fun h => absurd h (by decide), rfl⟩, jw_922, jw_s32⟩
abbrev mX12_markOf : jk_M := (RX12, cX12_markOf, 2, (some FieldType.char), [], false, 2)
theorem jm_X12_markOf : jk_mV yX12_markOf mX12_markOf 1 := ⟨⟨jw_1697, jw_1, ⟨by decide +kernel, by decide +kernel⟩, by decide +kernel, by decide +kernel, rfl, by decide, fun h => absurd h (by decide), rfl⟩, jw_1696, jw_s42⟩
abbrev mX12_heightsAgree : jk_M := (RX12, cX12_heightsAgree, 2, (some FieldType.boolean), [], false, 18)
theorem jm_X12_heightsAgree : jk_mV yX12_heightsAgree mX12_heightsAgree 0 := ⟨⟨jw_870, jw_1, ⟨by decide +kernel, by decide +kernel⟩, by decide +kernel, by decide +kernel, rfl, by decide, fun h => absurd h (by decide), rfl⟩, jw_869, jw_s27⟩
abbrev mX12_misclosuresAgree : jk_M := (RX12, cX12_misclosuresAgree, 2, (some FieldType.boolean), [], false, 16)
theorem jm_X12_misclosuresAgree : jk_mV yX12_misclosuresAgree mX12_misclosuresAgree 0 := ⟨⟨jw_908, jw_1, ⟨by decide +kernel, by decide +kernel⟩, by decide +kernel, by decide +kernel, rfl, by decide, fun h => absurd h (by decide), rfl⟩, jw_907, jw_s30⟩
abbrev mX12_wetColumnsAgree : jk_M := (RX12, cX12_wetColumnsAgree, 3, (some FieldType.boolean), [], false, 19)
theorem jm_X12_wetColumnsAgree : jk_mV yX12_wetColumnsAgree mX12_wetColumnsAgree 0 := ⟨⟨jw_919, jw_1, ⟨by decide +kernel, by decide +kernel⟩, by decide +kernel, by decide +kernel, rfl, by decide, fun h => absurd h (by decide), rfl⟩, jw_918, jw_s31⟩
abbrev mX12_firstFailure : jk_M := (RX12, cX12_firstFailure, 4, (some FieldType.int), [], false, 18)
theorem jm_X12_firstFailure : jk_mV yX12_firstFailure mX12_firstFailure 0 := ⟨⟨jw_1803, jw_1, ⟨by decide +kernel, by decide +kernel⟩, by decide +kernel, by decide +kernel, rfl, by decide, fun h => absurd h (by decide), rfl⟩, jw_1802, jw_s50⟩
abbrev mX12_within : jk_M := (RX12, cX12_within, 3, (some FieldType.boolean), [], false, 0)
theorem jm_X12_within : jk_mS yX12_within mX12_within 3 := ⟨⟨jw_468, jw_1, ⟨by decide +kernel, by decide +kernel⟩, by decide +kernel, by decide +kernel, rfl, by decide, fun h => absurd h (by decide), rfl⟩, jw_467⟩
abbrev mX12_toleranceFor : jk_M := (RX12, cX12_toleranceFor, 3, (some FieldType.int), [], false, 0)
theorem jm_X12_toleranceFor : jk_mS yX12_toleranceFor mX12_toleranceFor 1 := ⟨⟨jw_519, jw_1, ⟨by decide +kernel, by decide +kernel⟩, by decide +kernel, by decide +kernel, rfl, by decide, fun h => absurd h (by decide), rfl⟩, jw_518⟩
abbrev mX13_init : jk_M := (RX13, cX13_init, 1, none, [], true, 1)
theorem jm_X13_init : jk_mI yX13_init mX13_init 0 := ⟨⟨jw_1846, jw_15, ⟨by decide +kernel, by decide +kernel⟩, by decide +kernel, by decide +kernel, rfl, by decide, fun _ => rfl, rfl⟩, rfl, jw_1845, rfl⟩
abbrev mX13_thrown : jk_M := (RX13, cX13_thrown, 1, (some FieldType.int), [], false, 0)
theorem jm_X13_thrown : jk_mV yX13_thrown mX13_thrown 0 := ⟨⟨jw_1921, jw_15, ⟨by decide +kernel, by decide +kernel⟩, by decide +kernel, by decide +kernel, rfl, by decide, fun h => absurd h (by decide), rfl⟩, jw_1919, jw_1920⟩
abbrev mX13_in : jk_M := (RX13, cX13_in, 3, (some FieldType.boolean), [], false, 0)
theorem jm_X13_in : jk_mS yX13_in mX13_in 3 := ⟨⟨jw_1963, jw_15, ⟨by decide +kernel, by decide +kernel⟩, by decide +kernel, by decide +kernel, rfl, by decide, fun h => absurd h (by decide), rfl⟩, jw_1962⟩
abbrev mX13_size : jk_M := (RX13, cX13_size, 1, (some FieldType.int), [], false, 0)
theorem jm_X13_size : jk_mS yX13_size mX13_size 1 := ⟨⟨jw_2016, jw_15, ⟨by decide +kernel, by decide +kernel⟩, by decide +kernel, by decide +kernel, rfl, by decide, fun h => absurd h (by decide), rfl⟩, jw_2015⟩
abbrev mX13_quotient : jk_M := (RX13, cX13_quotient, 2, (some FieldType.int), [], false, 0)
theorem jm_X13_quotient : jk_mS yX13_quotient mX13_quotient 2 := ⟨⟨jw_2062, jw_15, ⟨by decide +kernel, by decide +kernel⟩, by decide +kernel, by decide +kernel, rfl, by decide, fun h => absurd h (by decide), rfl⟩, jw_2061⟩
abbrev mX13_done : jk_M := (RX13, cX13_done, 2, (some FieldType.int), [], false, 0)
theorem jm_X13_done : jk_mV yX13_done mX13_done 1 := ⟨⟨jw_1944, jw_15, ⟨by decide +kernel, by decide +kernel⟩, by decide +kernel, by decide +kernel, rfl, by decide, fun h => absurd h (by decide), rfl⟩, jw_1943, jw_s54⟩
abbrev mX13_fails : jk_M := (RX13, cX13_fails, 2, (some FieldType.int), [], false, 0)
theorem jm_X13_fails : jk_mV yX13_fails mX13_fails 1 := ⟨⟨jw_1940, jw_15, ⟨by decide +kernel, by decide +kernel⟩, by decide +kernel, by decide +kernel, rfl, by decide, fun h => absurd h (by decide), rfl⟩, jw_1939, jw_s53⟩
abbrev mX13_copy : jk_M := (RX13, cX13_copy, 5, none, [], false, 0)
theorem jm_X13_copy : jk_mS yX13_copy mX13_copy 4 := ⟨⟨jw_1932, jw_15, ⟨by decide +kernel, by decide +kernel⟩, by decide +kernel, by decide +kernel, rfl, by decide, fun h => absurd h (by decide), rfl⟩, jw_1931⟩
abbrev mX13_begin : jk_M := (RX13, cX13_begin, 1, none, [], false, 1)
theorem jm_X13_begin : jk_mV yX13_begin mX13_begin 0 := ⟨⟨jw_1929, jw_15, ⟨by decide +kernel, by decide +kernel⟩, by decide +kernel, by decide +kernel, rfl, by decide, fun h => absurd h (by decide), rfl⟩, jw_1928, jw_s51⟩
abbrev mX13_kept : jk_M := (RX13, cX13_kept, 3, (some FieldType.int), [], false, 1)
theorem jm_X13_kept : jk_mV yX13_kept mX13_kept 1 := ⟨⟨jw_1948, jw_15, ⟨by decide +kernel, by decide +kernel⟩, by decide +kernel, by decide +kernel, rfl, by decide, fun h => absurd h (by decide), rfl⟩, jw_1947, jw_s55⟩
abbrev mX13_isPoint : jk_M := (RX13, cX13_isPoint, 2, (some FieldType.boolean), [], false, 1)
theorem jm_X13_isPoint : jk_mV yX13_isPoint mX13_isPoint 1 := ⟨⟨jw_1960, jw_15, ⟨by decide +kernel, by decide +kernel⟩, by decide +kernel, by decide +kernel, rfl, by decide, fun h => absurd h (by decide), rfl⟩, jw_1959, jw_s57⟩
abbrev mX13_isLine : jk_M := (RX13, cX13_isLine, 2, (some FieldType.boolean), [], false, 1)
theorem jm_X13_isLine : jk_mV yX13_isLine mX13_isLine 1 := ⟨⟨jw_1993, jw_15, ⟨by decide +kernel, by decide +kernel⟩, by decide +kernel, by decide +kernel, rfl, by decide, fun h => absurd h (by decide), rfl⟩, jw_1992, jw_s61⟩
abbrev mX13_isProfile : jk_M := (RX13, cX13_isProfile, 2, (some FieldType.boolean), [], false, 1)
theorem jm_X13_isProfile : jk_mV yX13_isProfile mX13_isProfile 1 := ⟨⟨jw_2118, jw_15, ⟨by decide +kernel, by decide +kernel⟩, by decide +kernel, by decide +kernel, rfl, by decide, fun h => absurd h (by decide), rfl⟩, jw_2117, jw_s84⟩
abbrev mX13_allowed : jk_M := (RX13, cX13_allowed, 2, (some FieldType.int), [], false, 0)
theorem jm_X13_allowed : jk_mS yX13_allowed mX13_allowed 1 := ⟨⟨jw_2019, jw_15, ⟨by decide +kernel, by decide +kernel⟩, by decide +kernel, by decide +kernel, rfl, by decide, fun h => absurd h (by decide), rfl⟩, jw_2018⟩
abbrev mX13_gapOf : jk_M := (RX13, cX13_gapOf, 2, (some FieldType.int), [], false, 0)
theorem jm_X13_gapOf : jk_mV yX13_gapOf mX13_gapOf 1 := ⟨⟨jw_1997, jw_15, ⟨by decide +kernel, by decide +kernel⟩, by decide +kernel, by decide +kernel, rfl, by decide, fun h => absurd h (by decide), rfl⟩, jw_1996, jw_s62⟩
abbrev mX13_isGood : jk_M := (RX13, cX13_isGood, 3, (some FieldType.boolean), [], false, 1)
theorem jm_X13_isGood : jk_mV yX13_isGood mX13_isGood 1 := ⟨⟨jw_2013, jw_15, ⟨by decide +kernel, by decide +kernel⟩, by decide +kernel, by decide +kernel, rfl, by decide, fun h => absurd h (by decide), rfl⟩, jw_2012, jw_s65⟩
abbrev mX13_goodOnes : jk_M := (RX13, cX13_goodOnes, 3, (some FieldType.int), [], false, 2)
theorem jm_X13_goodOnes : jk_mV yX13_goodOnes mX13_goodOnes 0 := ⟨⟨jw_2009, jw_15, ⟨by decide +kernel, by decide +kernel⟩, by decide +kernel, by decide +kernel, rfl, by decide, fun h => absurd h (by decide), rfl⟩, jw_2008, jw_s64⟩
abbrev mX13_levelled : jk_M := (RX13, cX13_levelled, 2, (some FieldType.int), [], false, 1)
theorem jm_X13_levelled : jk_mV yX13_levelled mX13_levelled 1 := ⟨⟨jw_2059, jw_15, ⟨by decide +kernel, by decide +kernel⟩, by decide +kernel, by decide +kernel, rfl, by decide, fun h => absurd h (by decide), rfl⟩, jw_2058, jw_s73⟩
abbrev mX13_corrected : jk_M := (RX13, cX13_corrected, 2, (some FieldType.int), [], false, 2)
theorem jm_X13_corrected : jk_mV yX13_corrected mX13_corrected 1 := ⟨⟨jw_2055, jw_15, ⟨by decide +kernel, by decide +kernel⟩, by decide +kernel, by decide +kernel, rfl, by decide, fun h => absurd h (by decide), rfl⟩, jw_2054, jw_s72⟩
abbrev mX13_unites : jk_M := (RX13, cX13_unites, 6, none, [], false, 0)
theorem jm_X13_unites : jk_mV yX13_unites mX13_unites 2 := ⟨⟨jw_2047, jw_15, ⟨by decide +kernel, by decide +kernel⟩, by decide +kernel, by decide +kernel, rfl, by decide, fun h => absurd h (by decide), rfl⟩, jw_2046, jw_s70⟩
abbrev mX13_takesLine : jk_M := (RX13, cX13_takesLine, 4, none, [], false, 2)
theorem jm_X13_takesLine : jk_mV yX13_takesLine mX13_takesLine 1 := ⟨⟨jw_2043, jw_15, ⟨by decide +kernel, by decide +kernel⟩, by decide +kernel, by decide +kernel, rfl, by decide, fun h => absurd h (by decide), rfl⟩, jw_2042, jw_s69⟩
abbrev mX13_passes : jk_M := (RX13, cX13_passes, 4, (some FieldType.boolean), [], false, 3)
theorem jm_X13_passes : jk_mV yX13_passes mX13_passes 1 := ⟨⟨jw_2051, jw_15, ⟨by decide +kernel, by decide +kernel⟩, by decide +kernel, by decide +kernel, rfl, by decide, fun h => absurd h (by decide), rfl⟩, jw_2050, jw_s71⟩
abbrev mX13_grows : jk_M := (RX13, cX13_grows, 3, none, [], false, 4)
theorem jm_X13_grows : jk_mV yX13_grows mX13_grows 0 := ⟨⟨jw_2039, jw_15, ⟨by decide +kernel, by decide +kernel⟩, by decide +kernel, by decide +kernel, rfl, by decide, fun h => absurd h (by decide), rfl⟩, jw_2038, jw_s68⟩
abbrev mX13_closes : jk_M := (RX13, cX13_closes, 2, (some FieldType.boolean), [], false, 2)
theorem jm_X13_closes : jk_mV yX13_closes mX13_closes 1 := ⟨⟨jw_2066, jw_15, ⟨by decide +kernel, by decide +kernel⟩, by decide +kernel, by decide +kernel, rfl, by decide, fun h => absurd h (by decide), rfl⟩, jw_2065, jw_s74⟩
abbrev mX13_datumOf : jk_M := (RX13, cX13_datumOf, 3, (some FieldType.int), [], false, 0)
theorem jm_X13_datumOf : jk_mV yX13_datumOf mX13_datumOf 1 := ⟨⟨jw_2150, jw_15, ⟨by decide +kernel, by decide +kernel⟩, by decide +kernel, by decide +kernel, rfl, by decide, fun h => absurd h (by decide), rfl⟩, jw_2149, jw_s88⟩
abbrev mX13_byDatum : jk_M := (RX13, cX13_byDatum, 3, (some FieldType.int), [], false, 1)
theorem jm_X13_byDatum : jk_mV yX13_byDatum mX13_byDatum 1 := ⟨⟨jw_2162, jw_15, ⟨by decide +kernel, by decide +kernel⟩, by decide +kernel, by decide +kernel, rfl, by decide, fun h => absurd h (by decide), rfl⟩, jw_2161, jw_s90⟩
abbrev mX13_isHigh : jk_M := (RX13, cX13_isHigh, 2, (some FieldType.boolean), [], false, 1)
theorem jm_X13_isHigh : jk_mV yX13_isHigh mX13_isHigh 1 := ⟨⟨jw_2146, jw_15, ⟨by decide +kernel, by decide +kernel⟩, by decide +kernel, by decide +kernel, rfl, by decide, fun h => absurd h (by decide), rfl⟩, jw_2145, jw_s87⟩
abbrev mX13_heightOf : jk_M := (RX13, cX13_heightOf, 2, (some FieldType.int), [], false, 2)
theorem jm_X13_heightOf : jk_mV yX13_heightOf mX13_heightOf 1 := ⟨⟨jw_2158, jw_15, ⟨by decide +kernel, by decide +kernel⟩, by decide +kernel, by decide +kernel, rfl, by decide, fun h => absurd h (by decide), rfl⟩, jw_2157, jw_s89⟩
abbrev mX13_reaches : jk_M := (RX13, cX13_reaches, 6, none, [], false, 0)
theorem jm_X13_reaches : jk_mV yX13_reaches mX13_reaches 1 := ⟨⟨jw_2074, jw_15, ⟨by decide +kernel, by decide +kernel⟩, by decide +kernel, by decide +kernel, rfl, by decide, fun h => absurd h (by decide), rfl⟩, jw_2073, jw_s76⟩
abbrev mX13_circles : jk_M := (RX13, cX13_circles, 4, none, [], false, 1)
theorem jm_X13_circles : jk_mV yX13_circles mX13_circles 1 := ⟨⟨jw_2070, jw_15, ⟨by decide +kernel, by decide +kernel⟩, by decide +kernel, by decide +kernel, rfl, by decide, fun h => absurd h (by decide), rfl⟩, jw_2069, jw_s75⟩
abbrev mX13_lengthAround : jk_M := (RX13, cX13_lengthAround, 3, (some FieldType.int), [], false, 0)
theorem jm_X13_lengthAround : jk_mV yX13_lengthAround mX13_lengthAround 0 := ⟨⟨jw_2082, jw_15, ⟨by decide +kernel, by decide +kernel⟩, by decide +kernel, by decide +kernel, rfl, by decide, fun h => absurd h (by decide), rfl⟩, jw_2081, jw_s78⟩
abbrev mX13_errorAround : jk_M := (RX13, cX13_errorAround, 3, (some FieldType.int), [], false, 3)
theorem jm_X13_errorAround : jk_mV yX13_errorAround mX13_errorAround 0 := ⟨⟨jw_2078, jw_15, ⟨by decide +kernel, by decide +kernel⟩, by decide +kernel, by decide +kernel, rfl, by decide, fun h => absurd h (by decide), rfl⟩, jw_2077, jw_s77⟩
abbrev mX13_remainder : jk_M := (RX13, cX13_remainder, 4, (some FieldType.int), [], false, 0)
theorem jm_X13_remainder : jk_mV yX13_remainder mX13_remainder 3 := ⟨⟨jw_2090, jw_15, ⟨by decide +kernel, by decide +kernel⟩, by decide +kernel, by decide +kernel, rfl, by decide, fun h => absurd h (by decide), rfl⟩, jw_2089, jw_s80⟩
abbrev mX13_sharesOut : jk_M := (RX13, cX13_sharesOut, 9, none, [], false, 4)
theorem jm_X13_sharesOut : jk_mV yX13_sharesOut mX13_sharesOut 0 := ⟨⟨jw_2086, jw_15, ⟨by decide +kernel, by decide +kernel⟩, by decide +kernel, by decide +kernel, rfl, by decide, fun h => absurd h (by decide), rfl⟩, jw_2085, jw_s79⟩
abbrev mX13_addsPoint : jk_M := (RX13, cX13_addsPoint, 1, (some FieldType.int), [], false, 1)
theorem jm_X13_addsPoint : jk_mV yX13_addsPoint mX13_addsPoint 0 := ⟨⟨jw_1936, jw_15, ⟨by decide +kernel, by decide +kernel⟩, by decide +kernel, by decide +kernel, rfl, by decide, fun h => absurd h (by decide), rfl⟩, jw_1935, jw_s52⟩
abbrev mX13_addBenchmark : jk_M := (RX13, cX13_addBenchmark, 1, (some FieldType.int), [], false, 2)
theorem jm_X13_addBenchmark : jk_mV yX13_addBenchmark mX13_addBenchmark 0 := ⟨⟨jw_1925, jw_15, ⟨by decide +kernel, by decide +kernel⟩, by decide +kernel, by decide +kernel, rfl, by decide, fun h => absurd h (by decide), rfl⟩, jw_1923, jw_1924⟩
abbrev mX13_fixes : jk_M := (RX13, cX13_fixes, 5, (some FieldType.int), [], false, 2)
theorem jm_X13_fixes : jk_mV yX13_fixes mX13_fixes 2 := ⟨⟨jw_1956, jw_15, ⟨by decide +kernel, by decide +kernel⟩, by decide +kernel, by decide +kernel, rfl, by decide, fun h => absurd h (by decide), rfl⟩, jw_1955, jw_s56⟩
abbrev mX13_fix : jk_M := (RX13, cX13_fix, 3, (some FieldType.int), [], false, 3)
theorem jm_X13_fix : jk_mV yX13_fix mX13_fix 2 := ⟨⟨jw_1952, jw_15, ⟨by decide +kernel, by decide +kernel⟩, by decide +kernel, by decide +kernel, rfl, by decide, fun h => absurd h (by decide), rfl⟩, jw_1950, jw_1951⟩
abbrev mX13_releases : jk_M := (RX13, cX13_releases, 2, (some FieldType.int), [], false, 2)
theorem jm_X13_releases : jk_mV yX13_releases mX13_releases 1 := ⟨⟨jw_1973, jw_15, ⟨by decide +kernel, by decide +kernel⟩, by decide +kernel, by decide +kernel, rfl, by decide, fun h => absurd h (by decide), rfl⟩, jw_1972, jw_s58⟩
abbrev mX13_release : jk_M := (RX13, cX13_release, 2, (some FieldType.int), [], false, 3)
theorem jm_X13_release : jk_mV yX13_release mX13_release 1 := ⟨⟨jw_1969, jw_15, ⟨by decide +kernel, by decide +kernel⟩, by decide +kernel, by decide +kernel, rfl, by decide, fun h => absurd h (by decide), rfl⟩, jw_1967, jw_1968⟩
abbrev mX13_addsLine : jk_M := (RX13, cX13_addsLine, 6, (some FieldType.int), [], false, 2)
theorem jm_X13_addsLine : jk_mV yX13_addsLine mX13_addsLine 4 := ⟨⟨jw_1981, jw_15, ⟨by decide +kernel, by decide +kernel⟩, by decide +kernel, by decide +kernel, rfl, by decide, fun h => absurd h (by decide), rfl⟩, jw_1980, jw_s59⟩
abbrev mX13_addLine : jk_M := (RX13, cX13_addLine, 5, (some FieldType.int), [], false, 3)
theorem jm_X13_addLine : jk_mV yX13_addLine mX13_addLine 4 := ⟨⟨jw_1977, jw_15, ⟨by decide +kernel, by decide +kernel⟩, by decide +kernel, by decide +kernel, rfl, by decide, fun h => absurd h (by decide), rfl⟩, jw_1975, jw_1976⟩
abbrev mX13_addsRun : jk_M := (RX13, cX13_addsRun, 3, (some FieldType.int), [], false, 2)
theorem jm_X13_addsRun : jk_mV yX13_addsRun mX13_addsRun 2 := ⟨⟨jw_1989, jw_15, ⟨by decide +kernel, by decide +kernel⟩, by decide +kernel, by decide +kernel, rfl, by decide, fun h => absurd h (by decide), rfl⟩, jw_1988, jw_s60⟩
abbrev mX13_addBackwardRun : jk_M := (RX13, cX13_addBackwardRun, 3, (some FieldType.int), [], false, 3)
theorem jm_X13_addBackwardRun : jk_mV yX13_addBackwardRun mX13_addBackwardRun 2 := ⟨⟨jw_1985, jw_15, ⟨by decide +kernel, by decide +kernel⟩, by decide +kernel, by decide +kernel, rfl, by decide, fun h => absurd h (by decide), rfl⟩, jw_1983, jw_1984⟩
abbrev mX13_marks : jk_M := (RX13, cX13_marks, 3, (some FieldType.int), [], false, 3)
theorem jm_X13_marks : jk_mV yX13_marks mX13_marks 2 := ⟨⟨jw_2005, jw_15, ⟨by decide +kernel, by decide +kernel⟩, by decide +kernel, by decide +kernel, rfl, by decide, fun h => absurd h (by decide), rfl⟩, jw_2004, jw_s63⟩
abbrev mX13_exclude : jk_M := (RX13, cX13_exclude, 2, (some FieldType.int), [], false, 4)
theorem jm_X13_exclude : jk_mV yX13_exclude mX13_exclude 1 := ⟨⟨jw_2001, jw_15, ⟨by decide +kernel, by decide +kernel⟩, by decide +kernel, by decide +kernel, rfl, by decide, fun h => absurd h (by decide), rfl⟩, jw_1999, jw_2000⟩
abbrev mX13_include : jk_M := (RX13, cX13_include, 2, (some FieldType.int), [], false, 4)
theorem jm_X13_include : jk_mV yX13_include mX13_include 1 := ⟨⟨jw_2023, jw_15, ⟨by decide +kernel, by decide +kernel⟩, by decide +kernel, by decide +kernel, rfl, by decide, fun h => absurd h (by decide), rfl⟩, jw_2021, jw_2022⟩
abbrev mX13_whyNoLoop : jk_M := (RX13, cX13_whyNoLoop, 2, (some FieldType.int), [], false, 5)
theorem jm_X13_whyNoLoop : jk_mV yX13_whyNoLoop mX13_whyNoLoop 1 := ⟨⟨jw_2035, jw_15, ⟨by decide +kernel, by decide +kernel⟩, by decide +kernel, by decide +kernel, rfl, by decide, fun h => absurd h (by decide), rfl⟩, jw_2034, jw_s67⟩
abbrev mX13_shares : jk_M := (RX13, cX13_shares, 6, (some FieldType.int), [], false, 6)
theorem jm_X13_shares : jk_mV yX13_shares mX13_shares 1 := ⟨⟨jw_2031, jw_15, ⟨by decide +kernel, by decide +kernel⟩, by decide +kernel, by decide +kernel, rfl, by decide, fun h => absurd h (by decide), rfl⟩, jw_2030, jw_s66⟩
abbrev mX13_shareMisclosure : jk_M := (RX13, cX13_shareMisclosure, 2, (some FieldType.int), [], false, 7)
theorem jm_X13_shareMisclosure : jk_mV yX13_shareMisclosure mX13_shareMisclosure 1 := ⟨⟨jw_2027, jw_15, ⟨by decide +kernel, by decide +kernel⟩, by decide +kernel, by decide +kernel, rfl, by decide, fun h => absurd h (by decide), rfl⟩, jw_2025, jw_2026⟩
abbrev mX13_resets : jk_M := (RX13, cX13_resets, 3, (some FieldType.int), [], false, 1)
theorem jm_X13_resets : jk_mV yX13_resets mX13_resets 0 := ⟨⟨jw_2098, jw_15, ⟨by decide +kernel, by decide +kernel⟩, by decide +kernel, by decide +kernel, rfl, by decide, fun h => absurd h (by decide), rfl⟩, jw_2097, jw_s81⟩
abbrev mX13_resetCorrections : jk_M := (RX13, cX13_resetCorrections, 1, (some FieldType.int), [], false, 2)
theorem jm_X13_resetCorrections : jk_mV yX13_resetCorrections mX13_resetCorrections 0 := ⟨⟨jw_2094, jw_15, ⟨by decide +kernel, by decide +kernel⟩, by decide +kernel, by decide +kernel, rfl, by decide, fun h => absurd h (by decide), rfl⟩, jw_2092, jw_2093⟩
abbrev mX13_addsProfile : jk_M := (RX13, cX13_addsProfile, 3, (some FieldType.int), [], false, 2)
theorem jm_X13_addsProfile : jk_mV yX13_addsProfile mX13_addsProfile 1 := ⟨⟨jw_2106, jw_15, ⟨by decide +kernel, by decide +kernel⟩, by decide +kernel, by decide +kernel, rfl, by decide, fun h => absurd h (by decide), rfl⟩, jw_2105, jw_s82⟩
abbrev mX13_addProfile : jk_M := (RX13, cX13_addProfile, 2, (some FieldType.int), [], false, 3)
theorem jm_X13_addProfile : jk_mV yX13_addProfile mX13_addProfile 1 := ⟨⟨jw_2102, jw_15, ⟨by decide +kernel, by decide +kernel⟩, by decide +kernel, by decide +kernel, rfl, by decide, fun h => absurd h (by decide), rfl⟩, jw_2100, jw_2101⟩
abbrev mX13_distanceOf : jk_M := (RX13, cX13_distanceOf, 3, (some FieldType.int), [], false, 0)
theorem jm_X13_distanceOf : jk_mV yX13_distanceOf mX13_distanceOf 2 := ⟨⟨jw_2122, jw_15, ⟨by decide +kernel, by decide +kernel⟩, by decide +kernel, by decide +kernel, rfl, by decide, fun h => absurd h (by decide), rfl⟩, jw_2121, jw_s85⟩
abbrev mX13_addsStation : jk_M := (RX13, cX13_addsStation, 5, (some FieldType.int), [], false, 2)
theorem jm_X13_addsStation : jk_mV yX13_addsStation mX13_addsStation 3 := ⟨⟨jw_2114, jw_15, ⟨by decide +kernel, by decide +kernel⟩, by decide +kernel, by decide +kernel, rfl, by decide, fun h => absurd h (by decide), rfl⟩, jw_2113, jw_s83⟩
abbrev mX13_addStation : jk_M := (RX13, cX13_addStation, 4, (some FieldType.int), [], false, 3)
theorem jm_X13_addStation : jk_mV yX13_addStation mX13_addStation 3 := ⟨⟨jw_2110, jw_15, ⟨by decide +kernel, by decide +kernel⟩, by decide +kernel, by decide +kernel, rfl, by decide, fun h => absurd h (by decide), rfl⟩, jw_2108, jw_2109⟩
abbrev mX13_setsWater : jk_M := (RX13, cX13_setsWater, 3, (some FieldType.int), [], false, 1)
theorem jm_X13_setsWater : jk_mV yX13_setsWater mX13_setsWater 1 := ⟨⟨jw_2130, jw_15, ⟨by decide +kernel, by decide +kernel⟩, by decide +kernel, by decide +kernel, rfl, by decide, fun h => absurd h (by decide), rfl⟩, jw_2129, jw_s86⟩
abbrev mX13_setWaterLevel : jk_M := (RX13, cX13_setWaterLevel, 2, (some FieldType.int), [], false, 2)
theorem jm_X13_setWaterLevel : jk_mV yX13_setWaterLevel mX13_setWaterLevel 1 := ⟨⟨jw_2126, jw_15, ⟨by decide +kernel, by decide +kernel⟩, by decide +kernel, by decide +kernel, rfl, by decide, fun h => absurd h (by decide), rfl⟩, jw_2124, jw_2125⟩
abbrev mX13_benchmarkCount : jk_M := (RX13, cX13_benchmarkCount, 1, (some FieldType.int), [], false, 1)
theorem jm_X13_benchmarkCount : jk_mV yX13_benchmarkCount mX13_benchmarkCount 0 := ⟨⟨jw_2134, jw_15, ⟨by decide +kernel, by decide +kernel⟩, by decide +kernel, by decide +kernel, rfl, by decide, fun h => absurd h (by decide), rfl⟩, jw_2132, jw_2133⟩
abbrev mX13_isFixed : jk_M := (RX13, cX13_isFixed, 2, (some FieldType.boolean), [], false, 2)
theorem jm_X13_isFixed : jk_mV yX13_isFixed mX13_isFixed 1 := ⟨⟨jw_2138, jw_15, ⟨by decide +kernel, by decide +kernel⟩, by decide +kernel, by decide +kernel, rfl, by decide, fun h => absurd h (by decide), rfl⟩, jw_2136, jw_2137⟩
abbrev mX13_hasHeight : jk_M := (RX13, cX13_hasHeight, 2, (some FieldType.boolean), [], false, 5)
theorem jm_X13_hasHeight : jk_mV yX13_hasHeight mX13_hasHeight 1 := ⟨⟨jw_2142, jw_15, ⟨by decide +kernel, by decide +kernel⟩, by decide +kernel, by decide +kernel, rfl, by decide, fun h => absurd h (by decide), rfl⟩, jw_2140, jw_2141⟩
abbrev mX13_height : jk_M := (RX13, cX13_height, 2, (some FieldType.int), [], false, 5)
theorem jm_X13_height : jk_mV yX13_height mX13_height 1 := ⟨⟨jw_2154, jw_15, ⟨by decide +kernel, by decide +kernel⟩, by decide +kernel, by decide +kernel, rfl, by decide, fun h => absurd h (by decide), rfl⟩, jw_2152, jw_2153⟩
abbrev mX13_heightByRounds : jk_M := (RX13, cX13_heightByRounds, 2, (some FieldType.int), [], false, 6)
theorem jm_X13_heightByRounds : jk_mV yX13_heightByRounds mX13_heightByRounds 1 := ⟨⟨jw_2166, jw_15, ⟨by decide +kernel, by decide +kernel⟩, by decide +kernel, by decide +kernel, rfl, by decide, fun h => absurd h (by decide), rfl⟩, jw_2164, jw_2165⟩
abbrev mX13_closingError : jk_M := (RX13, cX13_closingError, 2, (some FieldType.int), [], false, 5)
theorem jm_X13_closingError : jk_mV yX13_closingError mX13_closingError 1 := ⟨⟨jw_2171, jw_15, ⟨by decide +kernel, by decide +kernel⟩, by decide +kernel, by decide +kernel, rfl, by decide, fun h => absurd h (by decide), rfl⟩, jw_2169, jw_2170⟩
abbrev mX13_datum : jk_M := (RX13, cX13_datum, 2, (some FieldType.int), [], false, 5)
theorem jm_X13_datum : jk_mV yX13_datum mX13_datum 1 := ⟨⟨jw_2175, jw_15, ⟨by decide +kernel, by decide +kernel⟩, by decide +kernel, by decide +kernel, rfl, by decide, fun h => absurd h (by decide), rfl⟩, jw_2173, jw_2174⟩
abbrev mX13_isAbove : jk_M := (RX13, cX13_isAbove, 4, (some FieldType.boolean), [], false, 3)
theorem jm_X13_isAbove : jk_mV yX13_isAbove mX13_isAbove 2 := ⟨⟨jw_2183, jw_15, ⟨by decide +kernel, by decide +kernel⟩, by decide +kernel, by decide +kernel, rfl, by decide, fun h => absurd h (by decide), rfl⟩, jw_2182, jw_s91⟩
abbrev mX13_benchmarkByHeight : jk_M := (RX13, cX13_benchmarkByHeight, 5, (some FieldType.int), [], false, 5)
theorem jm_X13_benchmarkByHeight : jk_mV yX13_benchmarkByHeight mX13_benchmarkByHeight 1 := ⟨⟨jw_2179, jw_15, ⟨by decide +kernel, by decide +kernel⟩, by decide +kernel, by decide +kernel, rfl, by decide, fun h => absurd h (by decide), rfl⟩, jw_2177, jw_2178⟩
abbrev mX13_lineCount : jk_M := (RX13, cX13_lineCount, 1, (some FieldType.int), [], false, 1)
theorem jm_X13_lineCount : jk_mV yX13_lineCount mX13_lineCount 0 := ⟨⟨jw_2187, jw_15, ⟨by decide +kernel, by decide +kernel⟩, by decide +kernel, by decide +kernel, rfl, by decide, fun h => absurd h (by decide), rfl⟩, jw_2185, jw_2186⟩
abbrev mX13_lineNumber : jk_M := (RX13, cX13_lineNumber, 3, (some FieldType.int), [], false, 2)
theorem jm_X13_lineNumber : jk_mV yX13_lineNumber mX13_lineNumber 2 := ⟨⟨jw_2195, jw_15, ⟨by decide +kernel, by decide +kernel⟩, by decide +kernel, by decide +kernel, rfl, by decide, fun h => absurd h (by decide), rfl⟩, jw_2194, jw_s92⟩
abbrev mX13_firstOf : jk_M := (RX13, cX13_firstOf, 2, (some FieldType.int), [], false, 3)
theorem jm_X13_firstOf : jk_mV yX13_firstOf mX13_firstOf 1 := ⟨⟨jw_2191, jw_15, ⟨by decide +kernel, by decide +kernel⟩, by decide +kernel, by decide +kernel, rfl, by decide, fun h => absurd h (by decide), rfl⟩, jw_2189, jw_2190⟩
abbrev mX13_secondOf : jk_M := (RX13, cX13_secondOf, 2, (some FieldType.int), [], false, 3)
theorem jm_X13_secondOf : jk_mV yX13_secondOf mX13_secondOf 1 := ⟨⟨jw_2199, jw_15, ⟨by decide +kernel, by decide +kernel⟩, by decide +kernel, by decide +kernel, rfl, by decide, fun h => absurd h (by decide), rfl⟩, jw_2197, jw_2198⟩
abbrev mX13_lengthOf : jk_M := (RX13, cX13_lengthOf, 2, (some FieldType.int), [], false, 3)
theorem jm_X13_lengthOf : jk_mV yX13_lengthOf mX13_lengthOf 1 := ⟨⟨jw_2203, jw_15, ⟨by decide +kernel, by decide +kernel⟩, by decide +kernel, by decide +kernel, rfl, by decide, fun h => absurd h (by decide), rfl⟩, jw_2201, jw_2202⟩
abbrev mX13_levelledDifference : jk_M := (RX13, cX13_levelledDifference, 2, (some FieldType.int), [], false, 2)
theorem jm_X13_levelledDifference : jk_mV yX13_levelledDifference mX13_levelledDifference 1 := ⟨⟨jw_2207, jw_15, ⟨by decide +kernel, by decide +kernel⟩, by decide +kernel, by decide +kernel, rfl, by decide, fun h => absurd h (by decide), rfl⟩, jw_2205, jw_2206⟩
abbrev mX13_correction : jk_M := (RX13, cX13_correction, 2, (some FieldType.int), [], false, 3)
theorem jm_X13_correction : jk_mV yX13_correction mX13_correction 1 := ⟨⟨jw_2211, jw_15, ⟨by decide +kernel, by decide +kernel⟩, by decide +kernel, by decide +kernel, rfl, by decide, fun h => absurd h (by decide), rfl⟩, jw_2209, jw_2210⟩
abbrev mX13_discrepancy : jk_M := (RX13, cX13_discrepancy, 2, (some FieldType.int), [], false, 2)
theorem jm_X13_discrepancy : jk_mV yX13_discrepancy mX13_discrepancy 1 := ⟨⟨jw_2215, jw_15, ⟨by decide +kernel, by decide +kernel⟩, by decide +kernel, by decide +kernel, rfl, by decide, fun h => absurd h (by decide), rfl⟩, jw_2213, jw_2214⟩
abbrev mX13_isExcluded : jk_M := (RX13, cX13_isExcluded, 2, (some FieldType.boolean), [], false, 3)
theorem jm_X13_isExcluded : jk_mV yX13_isExcluded mX13_isExcluded 1 := ⟨⟨jw_2219, jw_15, ⟨by decide +kernel, by decide +kernel⟩, by decide +kernel, by decide +kernel, rfl, by decide, fun h => absurd h (by decide), rfl⟩, jw_2217, jw_2218⟩
abbrev mX13_isUsable : jk_M := (RX13, cX13_isUsable, 2, (some FieldType.boolean), [], false, 2)
theorem jm_X13_isUsable : jk_mV yX13_isUsable mX13_isUsable 1 := ⟨⟨jw_2223, jw_15, ⟨by decide +kernel, by decide +kernel⟩, by decide +kernel, by decide +kernel, rfl, by decide, fun h => absurd h (by decide), rfl⟩, jw_2221, jw_2222⟩
abbrev mX13_tolerance : jk_M := (RX13, cX13_tolerance, 2, (some FieldType.int), [], false, 1)
theorem jm_X13_tolerance : jk_mV yX13_tolerance mX13_tolerance 1 := ⟨⟨jw_2227, jw_15, ⟨by decide +kernel, by decide +kernel⟩, by decide +kernel, by decide +kernel, rfl, by decide, fun h => absurd h (by decide), rfl⟩, jw_2225, jw_2226⟩
abbrev mX13_isWorse : jk_M := (RX13, cX13_isWorse, 4, (some FieldType.boolean), [], false, 1)
theorem jm_X13_isWorse : jk_mV yX13_isWorse mX13_isWorse 2 := ⟨⟨jw_2235, jw_15, ⟨by decide +kernel, by decide +kernel⟩, by decide +kernel, by decide +kernel, rfl, by decide, fun h => absurd h (by decide), rfl⟩, jw_2234, jw_s93⟩
abbrev mX13_lineByDiscrepancy : jk_M := (RX13, cX13_lineByDiscrepancy, 5, (some FieldType.int), [], false, 2)
theorem jm_X13_lineByDiscrepancy : jk_mV yX13_lineByDiscrepancy mX13_lineByDiscrepancy 1 := ⟨⟨jw_2231, jw_15, ⟨by decide +kernel, by decide +kernel⟩, by decide +kernel, by decide +kernel, rfl, by decide, fun h => absurd h (by decide), rfl⟩, jw_2229, jw_2230⟩
abbrev mX13_isInForest : jk_M := (RX13, cX13_isInForest, 2, (some FieldType.boolean), [], false, 5)
theorem jm_X13_isInForest : jk_mV yX13_isInForest mX13_isInForest 1 := ⟨⟨jw_2239, jw_15, ⟨by decide +kernel, by decide +kernel⟩, by decide +kernel, by decide +kernel, rfl, by decide, fun h => absurd h (by decide), rfl⟩, jw_2237, jw_2238⟩
abbrev mX13_forestLength : jk_M := (RX13, cX13_forestLength, 3, (some FieldType.int), [], false, 5)
theorem jm_X13_forestLength : jk_mV yX13_forestLength mX13_forestLength 0 := ⟨⟨jw_2243, jw_15, ⟨by decide +kernel, by decide +kernel⟩, by decide +kernel, by decide +kernel, rfl, by decide, fun h => absurd h (by decide), rfl⟩, jw_2241, jw_2242⟩
abbrev mX13_forestLengthByGrowing : jk_M := (RX13, cX13_forestLengthByGrowing, 1, (some FieldType.int), [], false, 6)
theorem jm_X13_forestLengthByGrowing : jk_mV yX13_forestLengthByGrowing mX13_forestLengthByGrowing 0 := ⟨⟨jw_2247, jw_15, ⟨by decide +kernel, by decide +kernel⟩, by decide +kernel, by decide +kernel, rfl, by decide, fun h => absurd h (by decide), rfl⟩, jw_2245, jw_2246⟩
abbrev mX13_treeCount : jk_M := (RX13, cX13_treeCount, 3, (some FieldType.int), [], false, 5)
theorem jm_X13_treeCount : jk_mV yX13_treeCount mX13_treeCount 0 := ⟨⟨jw_2252, jw_15, ⟨by decide +kernel, by decide +kernel⟩, by decide +kernel, by decide +kernel, rfl, by decide, fun h => absurd h (by decide), rfl⟩, jw_2250, jw_2251⟩
abbrev mX13_loopCount : jk_M := (RX13, cX13_loopCount, 3, (some FieldType.int), [], false, 5)
theorem jm_X13_loopCount : jk_mV yX13_loopCount mX13_loopCount 0 := ⟨⟨jw_2256, jw_15, ⟨by decide +kernel, by decide +kernel⟩, by decide +kernel, by decide +kernel, rfl, by decide, fun h => absurd h (by decide), rfl⟩, jw_2254, jw_2255⟩
abbrev mX13_loopAt : jk_M := (RX13, cX13_loopAt, 4, (some FieldType.int), [], false, 5)
theorem jm_X13_loopAt : jk_mV yX13_loopAt mX13_loopAt 1 := ⟨⟨jw_2260, jw_15, ⟨by decide +kernel, by decide +kernel⟩, by decide +kernel, by decide +kernel, rfl, by decide, fun h => absurd h (by decide), rfl⟩, jw_2258, jw_2259⟩
abbrev mX13_loopSize : jk_M := (RX13, cX13_loopSize, 5, (some FieldType.int), [], false, 6)
theorem jm_X13_loopSize : jk_mV yX13_loopSize mX13_loopSize 1 := ⟨⟨jw_2264, jw_15, ⟨by decide +kernel, by decide +kernel⟩, by decide +kernel, by decide +kernel, rfl, by decide, fun h => absurd h (by decide), rfl⟩, jw_2262, jw_2263⟩
abbrev mX13_loopLength : jk_M := (RX13, cX13_loopLength, 3, (some FieldType.int), [], false, 6)
theorem jm_X13_loopLength : jk_mV yX13_loopLength mX13_loopLength 1 := ⟨⟨jw_2268, jw_15, ⟨by decide +kernel, by decide +kernel⟩, by decide +kernel, by decide +kernel, rfl, by decide, fun h => absurd h (by decide), rfl⟩, jw_2266, jw_2267⟩
abbrev mX13_misclosure : jk_M := (RX13, cX13_misclosure, 3, (some FieldType.int), [], false, 6)
theorem jm_X13_misclosure : jk_mV yX13_misclosure mX13_misclosure 1 := ⟨⟨jw_2272, jw_15, ⟨by decide +kernel, by decide +kernel⟩, by decide +kernel, by decide +kernel, rfl, by decide, fun h => absurd h (by decide), rfl⟩, jw_2270, jw_2271⟩
abbrev mX13_misclosureByLevels : jk_M := (RX13, cX13_misclosureByLevels, 2, (some FieldType.int), [], false, 7)
theorem jm_X13_misclosureByLevels : jk_mV yX13_misclosureByLevels mX13_misclosureByLevels 1 := ⟨⟨jw_2276, jw_15, ⟨by decide +kernel, by decide +kernel⟩, by decide +kernel, by decide +kernel, rfl, by decide, fun h => absurd h (by decide), rfl⟩, jw_2274, jw_2275⟩
abbrev mX13_part : jk_M := (RX13, cX13_part, 4, (some FieldType.int), [], false, 6)
theorem jm_X13_part : jk_mV yX13_part mX13_part 2 := ⟨⟨jw_2281, jw_15, ⟨by decide +kernel, by decide +kernel⟩, by decide +kernel, by decide +kernel, rfl, by decide, fun h => absurd h (by decide), rfl⟩, jw_2279, jw_2280⟩
abbrev mX13_profileCount : jk_M := (RX13, cX13_profileCount, 1, (some FieldType.int), [], false, 1)
theorem jm_X13_profileCount : jk_mV yX13_profileCount mX13_profileCount 0 := ⟨⟨jw_2285, jw_15, ⟨by decide +kernel, by decide +kernel⟩, by decide +kernel, by decide +kernel, rfl, by decide, fun h => absurd h (by decide), rfl⟩, jw_2283, jw_2284⟩
abbrev mX13_stationCount : jk_M := (RX13, cX13_stationCount, 2, (some FieldType.int), [], false, 2)
theorem jm_X13_stationCount : jk_mV yX13_stationCount mX13_stationCount 1 := ⟨⟨jw_2289, jw_15, ⟨by decide +kernel, by decide +kernel⟩, by decide +kernel, by decide +kernel, rfl, by decide, fun h => absurd h (by decide), rfl⟩, jw_2287, jw_2288⟩
abbrev mX13_waterLevel : jk_M := (RX13, cX13_waterLevel, 1, (some FieldType.int), [], false, 1)
theorem jm_X13_waterLevel : jk_mV yX13_waterLevel mX13_waterLevel 0 := ⟨⟨jw_2293, jw_15, ⟨by decide +kernel, by decide +kernel⟩, by decide +kernel, by decide +kernel, rfl, by decide, fun h => absurd h (by decide), rfl⟩, jw_2291, jw_2292⟩
abbrev mX13_firstColumn : jk_M := (RX13, cX13_firstColumn, 2, (some FieldType.int), [], false, 1)
theorem jm_X13_firstColumn : jk_mV yX13_firstColumn mX13_firstColumn 1 := ⟨⟨jw_2301, jw_15, ⟨by decide +kernel, by decide +kernel⟩, by decide +kernel, by decide +kernel, rfl, by decide, fun h => absurd h (by decide), rfl⟩, jw_2300, jw_s94⟩
abbrev mX13_lastColumn : jk_M := (RX13, cX13_lastColumn, 2, (some FieldType.int), [], false, 1)
theorem jm_X13_lastColumn : jk_mV yX13_lastColumn mX13_lastColumn 1 := ⟨⟨jw_2305, jw_15, ⟨by decide +kernel, by decide +kernel⟩, by decide +kernel, by decide +kernel, rfl, by decide, fun h => absurd h (by decide), rfl⟩, jw_2304, jw_s95⟩
abbrev mX13_offsetAt : jk_M := (RX13, cX13_offsetAt, 6, (some FieldType.int), [], false, 1)
theorem jm_X13_offsetAt : jk_mV yX13_offsetAt mX13_offsetAt 2 := ⟨⟨jw_2313, jw_15, ⟨by decide +kernel, by decide +kernel⟩, by decide +kernel, by decide +kernel, rfl, by decide, fun h => absurd h (by decide), rfl⟩, jw_2312, jw_s97⟩
abbrev mX13_groundAt : jk_M := (RX13, cX13_groundAt, 3, (some FieldType.int), [], false, 3)
theorem jm_X13_groundAt : jk_mV yX13_groundAt mX13_groundAt 2 := ⟨⟨jw_2309, jw_15, ⟨by decide +kernel, by decide +kernel⟩, by decide +kernel, by decide +kernel, rfl, by decide, fun h => absurd h (by decide), rfl⟩, jw_2308, jw_s96⟩
abbrev mX13_isWet : jk_M := (RX13, cX13_isWet, 3, (some FieldType.boolean), [], false, 4)
theorem jm_X13_isWet : jk_mV yX13_isWet mX13_isWet 2 := ⟨⟨jw_2325, jw_15, ⟨by decide +kernel, by decide +kernel⟩, by decide +kernel, by decide +kernel, rfl, by decide, fun h => absurd h (by decide), rfl⟩, jw_2324, jw_s99⟩
abbrev mX13_ground : jk_M := (RX13, cX13_ground, 3, (some FieldType.int), [], false, 5)
theorem jm_X13_ground : jk_mV yX13_ground mX13_ground 2 := ⟨⟨jw_2297, jw_15, ⟨by decide +kernel, by decide +kernel⟩, by decide +kernel, by decide +kernel, rfl, by decide, fun h => absurd h (by decide), rfl⟩, jw_2295, jw_2296⟩
abbrev mX13_whyNoGround : jk_M := (RX13, cX13_whyNoGround, 2, (some FieldType.int), [], false, 5)
theorem jm_X13_whyNoGround : jk_mV yX13_whyNoGround mX13_whyNoGround 1 := ⟨⟨jw_2321, jw_15, ⟨by decide +kernel, by decide +kernel⟩, by decide +kernel, by decide +kernel, rfl, by decide, fun h => absurd h (by decide), rfl⟩, jw_2320, jw_s98⟩
abbrev mX13_wetColumns : jk_M := (RX13, cX13_wetColumns, 5, (some FieldType.int), [], false, 6)
theorem jm_X13_wetColumns : jk_mV yX13_wetColumns mX13_wetColumns 1 := ⟨⟨jw_2317, jw_15, ⟨by decide +kernel, by decide +kernel⟩, by decide +kernel, by decide +kernel, rfl, by decide, fun h => absurd h (by decide), rfl⟩, jw_2315, jw_2316⟩
abbrev mX13_wetColumnsBySegments : jk_M := (RX13, cX13_wetColumnsBySegments, 2, (some FieldType.int), [], false, 7)
theorem jm_X13_wetColumnsBySegments : jk_mV yX13_wetColumnsBySegments mX13_wetColumnsBySegments 1 := ⟨⟨jw_2329, jw_15, ⟨by decide +kernel, by decide +kernel⟩, by decide +kernel, by decide +kernel, rfl, by decide, fun h => absurd h (by decide), rfl⟩, jw_2327, jw_2328⟩
abbrev mX13_shores : jk_M := (RX13, cX13_shores, 6, (some FieldType.int), [], false, 6)
theorem jm_X13_shores : jk_mV yX13_shores mX13_shores 1 := ⟨⟨jw_2334, jw_15, ⟨by decide +kernel, by decide +kernel⟩, by decide +kernel, by decide +kernel, rfl, by decide, fun h => absurd h (by decide), rfl⟩, jw_2332, jw_2333⟩
abbrev mX13_lowestColumn : jk_M := (RX13, cX13_lowestColumn, 4, (some FieldType.int), [], false, 2)
theorem jm_X13_lowestColumn : jk_mV yX13_lowestColumn mX13_lowestColumn 1 := ⟨⟨jw_2338, jw_15, ⟨by decide +kernel, by decide +kernel⟩, by decide +kernel, by decide +kernel, rfl, by decide, fun h => absurd h (by decide), rfl⟩, jw_2336, jw_2337⟩
abbrev mX13_meanLength : jk_M := (RX13, cX13_meanLength, 3, (some FieldType.double), [], false, 3)
theorem jm_X13_meanLength : jk_mV yX13_meanLength mX13_meanLength 0 := ⟨⟨jw_2342, jw_15, ⟨by decide +kernel, by decide +kernel⟩, by decide +kernel, by decide +kernel, rfl, by decide, fun h => absurd h (by decide), rfl⟩, jw_2340, jw_2341⟩
abbrev mX13_usableShare : jk_M := (RX13, cX13_usableShare, 1, (some FieldType.float), [], false, 3)
theorem jm_X13_usableShare : jk_mV yX13_usableShare mX13_usableShare 0 := ⟨⟨jw_2346, jw_15, ⟨by decide +kernel, by decide +kernel⟩, by decide +kernel, by decide +kernel, rfl, by decide, fun h => absurd h (by decide), rfl⟩, jw_2344, jw_2345⟩
abbrev mX13_isConsistent : jk_M := (RX13, cX13_isConsistent, 1, (some FieldType.boolean), [], false, 0)
theorem jm_X13_isConsistent : jk_mV yX13_isConsistent mX13_isConsistent 0 := ⟨⟨jw_2350, jw_15, ⟨by decide +kernel, by decide +kernel⟩, by decide +kernel, by decide +kernel, rfl, by decide, fun h => absurd h (by decide), rfl⟩, jw_2348, jw_2349⟩
abbrev mX13_writes : jk_M := (RX13, cX13_writes, 2, none, [], false, 0)
theorem jm_X13_writes : jk_mV yX13_writes mX13_writes 1 := ⟨⟨jw_2362, jw_15, ⟨by decide +kernel, by decide +kernel⟩, by decide +kernel, by decide +kernel, rfl, by decide, fun h => absurd h (by decide), rfl⟩, jw_2361, jw_s101⟩
abbrev mX13_writesNumber : jk_M := (RX13, cX13_writesNumber, 4, none, [], false, 1)
theorem jm_X13_writesNumber : jk_mV yX13_writesNumber mX13_writesNumber 1 := ⟨⟨jw_2358, jw_15, ⟨by decide +kernel, by decide +kernel⟩, by decide +kernel, by decide +kernel, rfl, by decide, fun h => absurd h (by decide), rfl⟩, jw_2357, jw_s100⟩
abbrev mX13_renderLine : jk_M := (RX13, cX13_renderLine, 2, (some FieldType.int), [], false, 5)
theorem jm_X13_renderLine : jk_mV yX13_renderLine mX13_renderLine 1 := ⟨⟨jw_2354, jw_15, ⟨by decide +kernel, by decide +kernel⟩, by decide +kernel, by decide +kernel, rfl, by decide, fun h => absurd h (by decide), rfl⟩, jw_2352, jw_2353⟩
abbrev mX13_renderBenchmark : jk_M := (RX13, cX13_renderBenchmark, 2, (some FieldType.int), [], false, 5)
theorem jm_X13_renderBenchmark : jk_mV yX13_renderBenchmark mX13_renderBenchmark 1 := ⟨⟨jw_2367, jw_15, ⟨by decide +kernel, by decide +kernel⟩, by decide +kernel, by decide +kernel, rfl, by decide, fun h => absurd h (by decide), rfl⟩, jw_2365, jw_2366⟩
abbrev mX13_outputAt : jk_M := (RX13, cX13_outputAt, 2, (some FieldType.char), [], false, 1)
theorem jm_X13_outputAt : jk_mV yX13_outputAt mX13_outputAt 1 := ⟨⟨jw_2371, jw_15, ⟨by decide +kernel, by decide +kernel⟩, by decide +kernel, by decide +kernel, rfl, by decide, fun h => absurd h (by decide), rfl⟩, jw_2369, jw_2370⟩
abbrev mX13_type : jk_M := (RX13, cX13_type, 2, (some FieldType.int), [], false, 1)
theorem jm_X13_type : jk_mV yX13_type mX13_type 1 := ⟨⟨jw_2375, jw_15, ⟨by decide +kernel, by decide +kernel⟩, by decide +kernel, by decide +kernel, rfl, by decide, fun h => absurd h (by decide), rfl⟩, jw_2373, jw_2374⟩
abbrev mX13_here : jk_M := (RX13, cX13_here, 1, (some FieldType.int), [], false, 0)
theorem jm_X13_here : jk_mV yX13_here mX13_here 0 := ⟨⟨jw_2387, jw_15, ⟨by decide +kernel, by decide +kernel⟩, by decide +kernel, by decide +kernel, rfl, by decide, fun h => absurd h (by decide), rfl⟩, jw_2386, jw_s103⟩
abbrev mX13_needs : jk_M := (RX13, cX13_needs, 2, none, [], false, 1)
theorem jm_X13_needs : jk_mV yX13_needs mX13_needs 1 := ⟨⟨jw_2399, jw_15, ⟨by decide +kernel, by decide +kernel⟩, by decide +kernel, by decide +kernel, rfl, by decide, fun h => absurd h (by decide), rfl⟩, jw_2398, jw_s106⟩
abbrev mX13_needsThree : jk_M := (RX13, cX13_needsThree, 4, none, [], false, 2)
theorem jm_X13_needsThree : jk_mV yX13_needsThree mX13_needsThree 3 := ⟨⟨jw_2395, jw_15, ⟨by decide +kernel, by decide +kernel⟩, by decide +kernel, by decide +kernel, rfl, by decide, fun h => absurd h (by decide), rfl⟩, jw_2394, jw_s105⟩
abbrev mX13_digits : jk_M := (RX13, cX13_digits, 4, (some FieldType.int), [], false, 1)
theorem jm_X13_digits : jk_mV yX13_digits mX13_digits 1 := ⟨⟨jw_2407, jw_15, ⟨by decide +kernel, by decide +kernel⟩, by decide +kernel, by decide +kernel, rfl, by decide, fun h => absurd h (by decide), rfl⟩, jw_2406, jw_s108⟩
abbrev mX13_digitsAfter : jk_M := (RX13, cX13_digitsAfter, 3, (some FieldType.int), [], false, 2)
theorem jm_X13_digitsAfter : jk_mV yX13_digitsAfter mX13_digitsAfter 2 := ⟨⟨jw_2403, jw_15, ⟨by decide +kernel, by decide +kernel⟩, by decide +kernel, by decide +kernel, rfl, by decide, fun h => absurd h (by decide), rfl⟩, jw_2402, jw_s107⟩
abbrev mX13_valueAfter : jk_M := (RX13, cX13_valueAfter, 4, (some FieldType.int), [], false, 2)
theorem jm_X13_valueAfter : jk_mV yX13_valueAfter mX13_valueAfter 1 := ⟨⟨jw_2415, jw_15, ⟨by decide +kernel, by decide +kernel⟩, by decide +kernel, by decide +kernel, rfl, by decide, fun h => absurd h (by decide), rfl⟩, jw_2414, jw_s110⟩
abbrev mX13_parsesP : jk_M := (RX13, cX13_parsesP, 2, none, [], false, 3)
theorem jm_X13_parsesP : jk_mV yX13_parsesP mX13_parsesP 1 := ⟨⟨jw_2391, jw_15, ⟨by decide +kernel, by decide +kernel⟩, by decide +kernel, by decide +kernel, rfl, by decide, fun h => absurd h (by decide), rfl⟩, jw_2390, jw_s104⟩
abbrev mX13_parsesF : jk_M := (RX13, cX13_parsesF, 2, none, [], false, 3)
theorem jm_X13_parsesF : jk_mV yX13_parsesF mX13_parsesF 1 := ⟨⟨jw_2411, jw_15, ⟨by decide +kernel, by decide +kernel⟩, by decide +kernel, by decide +kernel, rfl, by decide, fun h => absurd h (by decide), rfl⟩, jw_2410, jw_s109⟩
abbrev mX13_parsesS : jk_M := (RX13, cX13_parsesS, 2, none, [], false, 3)
theorem jm_X13_parsesS : jk_mV yX13_parsesS mX13_parsesS 1 := ⟨⟨jw_2427, jw_15, ⟨by decide +kernel, by decide +kernel⟩, by decide +kernel, by decide +kernel, rfl, by decide, fun h => absurd h (by decide), rfl⟩, jw_2426, jw_s113⟩
abbrev mX13_parsesLine : jk_M := (RX13, cX13_parsesLine, 2, none, [], false, 3)
theorem jm_X13_parsesLine : jk_mV yX13_parsesLine mX13_parsesLine 1 := ⟨⟨jw_2419, jw_15, ⟨by decide +kernel, by decide +kernel⟩, by decide +kernel, by decide +kernel, rfl, by decide, fun h => absurd h (by decide), rfl⟩, jw_2418, jw_s111⟩
abbrev mX13_parsesMark : jk_M := (RX13, cX13_parsesMark, 4, none, [], false, 3)
theorem jm_X13_parsesMark : jk_mV yX13_parsesMark mX13_parsesMark 3 := ⟨⟨jw_2423, jw_15, ⟨by decide +kernel, by decide +kernel⟩, by decide +kernel, by decide +kernel, rfl, by decide, fun h => absurd h (by decide), rfl⟩, jw_2422, jw_s112⟩
abbrev mX13_parsesCommand : jk_M := (RX13, cX13_parsesCommand, 3, none, [], false, 4)
theorem jm_X13_parsesCommand : jk_mV yX13_parsesCommand mX13_parsesCommand 1 := ⟨⟨jw_2383, jw_15, ⟨by decide +kernel, by decide +kernel⟩, by decide +kernel, by decide +kernel, rfl, by decide, fun h => absurd h (by decide), rfl⟩, jw_2382, jw_s102⟩
abbrev mX13_carriesOut : jk_M := (RX13, cX13_carriesOut, 4, (some FieldType.int), [], false, 7)
theorem jm_X13_carriesOut : jk_mV yX13_carriesOut mX13_carriesOut 1 := ⟨⟨jw_2431, jw_15, ⟨by decide +kernel, by decide +kernel⟩, by decide +kernel, by decide +kernel, rfl, by decide, fun h => absurd h (by decide), rfl⟩, jw_2430, jw_s114⟩
abbrev mX13_runScript : jk_M := (RX13, cX13_runScript, 5, (some FieldType.int), [], false, 8)
theorem jm_X13_runScript : jk_mV yX13_runScript mX13_runScript 0 := ⟨⟨jw_2379, jw_15, ⟨by decide +kernel, by decide +kernel⟩, by decide +kernel, by decide +kernel, rfl, by decide, fun h => absurd h (by decide), rfl⟩, jw_2377, jw_2378⟩
abbrev mX13_errorPosition : jk_M := (RX13, cX13_errorPosition, 1, (some FieldType.int), [], false, 1)
theorem jm_X13_errorPosition : jk_mV yX13_errorPosition mX13_errorPosition 0 := ⟨⟨jw_2435, jw_15, ⟨by decide +kernel, by decide +kernel⟩, by decide +kernel, by decide +kernel, rfl, by decide, fun h => absurd h (by decide), rfl⟩, jw_2433, jw_2434⟩
abbrev mX13_failedCommand : jk_M := (RX13, cX13_failedCommand, 1, (some FieldType.int), [], false, 1)
theorem jm_X13_failedCommand : jk_mV yX13_failedCommand mX13_failedCommand 0 := ⟨⟨jw_2439, jw_15, ⟨by decide +kernel, by decide +kernel⟩, by decide +kernel, by decide +kernel, rfl, by decide, fun h => absurd h (by decide), rfl⟩, jw_2437, jw_2438⟩
abbrev mX13_undo : jk_M := (RX13, cX13_undo, 1, (some FieldType.int), [], false, 1)
theorem jm_X13_undo : jk_mV yX13_undo mX13_undo 0 := ⟨⟨jw_2443, jw_15, ⟨by decide +kernel, by decide +kernel⟩, by decide +kernel, by decide +kernel, rfl, by decide, fun h => absurd h (by decide), rfl⟩, jw_2441, jw_2442⟩
abbrev mX13_save : jk_M := (RX13, cX13_save, 1, (some FieldType.int), [], false, 1)
theorem jm_X13_save : jk_mV yX13_save mX13_save 0 := ⟨⟨jw_2447, jw_15, ⟨by decide +kernel, by decide +kernel⟩, by decide +kernel, by decide +kernel, rfl, by decide, fun h => absurd h (by decide), rfl⟩, jw_2445, jw_2446⟩
abbrev mX13_restore : jk_M := (RX13, cX13_restore, 1, (some FieldType.int), [], false, 1)
theorem jm_X13_restore : jk_mV yX13_restore mX13_restore 0 := ⟨⟨jw_2451, jw_15, ⟨by decide +kernel, by decide +kernel⟩, by decide +kernel, by decide +kernel, rfl, by decide, fun h => absurd h (by decide), rfl⟩, jw_2449, jw_2450⟩
abbrev mJ5_init_d00df : jk_M := (RJ5, cJ5_init_d00df, 2, none, [], true, 11)
theorem jm_J5_init_d00df : jk_mI yJ5_init_d00df mJ5_init_d00df 1 := ⟨⟨jw_350, jw_11, ⟨by decide +kernel, by decide +kernel⟩, by decide +kernel, by decide +kernel, rfl, by decide, fun _ => rfl, rfl⟩, rfl, jw_349, rfl⟩
abbrev mJ5_length_8abf5 : jk_M := (RJ5, cJ5_length_8abf5, 1, (some FieldType.int), [], false, 0)
abbrev mJ5_ensureCapacityInternal_d00df : jk_M := (RJ5, cJ5_ensureCapacityInternal_d00df, 3, none, [], false, 12)
abbrev mJ5_newCapacity_0f7a4 : jk_M := (RJ5, cJ5_newCapacity_0f7a4, 6, (some FieldType.int), [], false, 11)
abbrev mJ5_inflate_da8c8 : jk_M := (RJ5, cJ5_inflate_da8c8, 2, none, [], false, 14)
abbrev mJ5_setLength_d00df : jk_M := (RJ5, cJ5_setLength_d00df, 2, none, [], false, 30)
abbrev mJ5_charAt_5068e : jk_M := (RJ5, cJ5_charAt_5068e, 5, (some FieldType.char), [], false, 11)
abbrev mJ5_append_cf1ce : jk_M := (RJ5, cJ5_append_cf1ce, 3, (some (FieldType.object "java/lang/AbstractStringBuilder")), [], false, 17)
abbrev mJ5_appendNull_278bc : jk_M := (RJ5, cJ5_appendNull_278bc, 3, (some (FieldType.object "java/lang/AbstractStringBuilder")), [], false, 13)
abbrev mJ5_append_3fe6f : jk_M := (RJ5, cJ5_append_3fe6f, 2, (some (FieldType.object "java/lang/AbstractStringBuilder")), [], false, 15)
abbrev mJ5_append_c97b9 : jk_M := (RJ5, cJ5_append_c97b9, 4, (some (FieldType.object "java/lang/AbstractStringBuilder")), [], false, 13)
abbrev mJ5_getValue_6d5f1 : jk_M := (RJ5, cJ5_getValue_6d5f1, 1, (some (FieldType.array FieldType.byte)), [], false, 0)
abbrev mJ5_isLatin1_aae02 : jk_M := (RJ5, cJ5_isLatin1_aae02, 1, (some FieldType.boolean), [], false, 0)
abbrev mJ5_inflateIfNeededFor_a7421 : jk_M := (RJ5, cJ5_inflateIfNeededFor_a7421, 2, none, [], false, 15)
abbrev mJ5_putStringAt_47b60 : jk_M := (RJ5, cJ5_putStringAt_47b60, 3, none, [], false, 16)
abbrev mJ6_getChars_ba4f3 : jk_M := (RJ6, cJ6_getChars_ba4f3, 7, (some FieldType.int), [], false, 0)
theorem jm_J6_getChars_ba4f3 : jk_mS yJ6_getChars_ba4f3 mJ6_getChars_ba4f3 3 := ⟨⟨jw_1560, jw_38, ⟨by decide +kernel, by decide +kernel⟩, by decide +kernel, by decide +kernel, rfl, by decide, fun h => absurd h (by decide), rfl⟩, jw_1559⟩
abbrev mJ6_stringSize_0f7a4 : jk_M := (RJ6, cJ6_stringSize_0f7a4, 4, (some FieldType.int), [], false, 0)
theorem jm_J6_stringSize_0f7a4 : jk_mS yJ6_stringSize_0f7a4 mJ6_stringSize_0f7a4 1 := ⟨⟨jw_1557, jw_38, ⟨by decide +kernel, by decide +kernel⟩, by decide +kernel, by decide +kernel, rfl, by decide, fun h => absurd h (by decide), rfl⟩, jw_1556⟩
abbrev mJ0_init_81219 : jk_M := (RJ0, cJ0_init_81219, 2, none, [], true, 24)
theorem jm_J0_init_81219 : jk_mI yJ0_init_81219 mJ0_init_81219 1 := ⟨⟨jw_1580, jw_13, ⟨by decide +kernel, by decide +kernel⟩, by decide +kernel, by decide +kernel, rfl, by decide, fun _ => rfl, rfl⟩, rfl, jw_1579, rfl⟩
abbrev mJ0_length_8abf5 : jk_M := (RJ0, cJ0_length_8abf5, 1, (some FieldType.int), [], false, 1)
theorem jm_J0_length_8abf5 : jk_mV yJ0_length_8abf5 mJ0_length_8abf5 0 := ⟨⟨jw_1508, jw_13, ⟨by decide +kernel, by decide +kernel⟩, by decide +kernel, by decide +kernel, rfl, by decide, fun h => absurd h (by decide), rfl⟩, jw_1506, jw_1507⟩
abbrev mJ0_charAt_5068e : jk_M := (RJ0, cJ0_charAt_5068e, 2, (some FieldType.char), [], false, 13)
theorem jm_J0_charAt_5068e : jk_mV yJ0_charAt_5068e mJ0_charAt_5068e 1 := ⟨⟨jw_1770, jw_13, ⟨by decide +kernel, by decide +kernel⟩, by decide +kernel, by decide +kernel, rfl, by decide, fun h => absurd h (by decide), rfl⟩, jw_1768, jw_1769⟩
abbrev mJ0_getBytes_840e7 : jk_M := (RJ0, cJ0_getBytes_840e7, 4, none, [], false, 14)
theorem jm_J0_getBytes_840e7 : jk_mV yJ0_getBytes_840e7 mJ0_getBytes_840e7 3 := ⟨⟨jw_1545, jw_13, ⟨by decide +kernel, by decide +kernel⟩, by decide +kernel, by decide +kernel, rfl, by decide, fun h => absurd h (by decide), rfl⟩, jw_1543, jw_1544⟩
abbrev mJ0_init_db425 : jk_M := (RJ0, cJ0_init_db425, 5, none, [], true, 23)
theorem jm_J0_init_db425 : jk_mI yJ0_init_db425 mJ0_init_db425 2 := ⟨⟨jw_1583, jw_13, ⟨by decide +kernel, by decide +kernel⟩, by decide +kernel, by decide +kernel, rfl, by decide, fun _ => rfl, rfl⟩, rfl, jw_1582, rfl⟩
abbrev mJ0_coder_7d493 : jk_M := (RJ0, cJ0_coder_7d493, 1, (some FieldType.byte), [], false, 0)
theorem jm_J0_coder_7d493 : jk_mV yJ0_coder_7d493 mJ0_coder_7d493 0 := ⟨⟨jw_1512, jw_13, ⟨by decide +kernel, by decide +kernel⟩, by decide +kernel, by decide +kernel, rfl, by decide, fun h => absurd h (by decide), rfl⟩, jw_1510, jw_1511⟩
abbrev mJ0_isLatin1_aae02 : jk_M := (RJ0, cJ0_isLatin1_aae02, 1, (some FieldType.boolean), [], false, 0)
theorem jm_J0_isLatin1_aae02 : jk_mV yJ0_isLatin1_aae02 mJ0_isLatin1_aae02 0 := ⟨⟨jw_1774, jw_13, ⟨by decide +kernel, by decide +kernel⟩, by decide +kernel, by decide +kernel, rfl, by decide, fun h => absurd h (by decide), rfl⟩, jw_1772, jw_1773⟩
abbrev mJ0_checkIndex_df160 : jk_M := (RJ0, cJ0_checkIndex_df160, 2, none, [], false, 10)
theorem jm_J0_checkIndex_df160 : jk_mS yJ0_checkIndex_df160 mJ0_checkIndex_df160 2 := ⟨⟨jw_1689, jw_13, ⟨by decide +kernel, by decide +kernel⟩, by decide +kernel, by decide +kernel, rfl, by decide, fun h => absurd h (by decide), rfl⟩, jw_1688⟩
abbrev mJ0_checkBoundsOffCount_cabcc : jk_M := (RJ0, cJ0_checkBoundsOffCount_cabcc, 3, (some FieldType.int), [], false, 10)
theorem jm_J0_checkBoundsOffCount_cabcc : jk_mS yJ0_checkBoundsOffCount_cabcc mJ0_checkBoundsOffCount_cabcc 3 := ⟨⟨jw_1538, jw_13, ⟨by decide +kernel, by decide +kernel⟩, by decide +kernel, by decide +kernel, rfl, by decide, fun h => absurd h (by decide), rfl⟩, jw_1537⟩
abbrev mJ0_checkBoundsBeginEnd_23922 : jk_M := (RJ0, cJ0_checkBoundsBeginEnd_23922, 3, none, [], false, 10)
theorem jm_J0_checkBoundsBeginEnd_23922 : jk_mS yJ0_checkBoundsBeginEnd_23922 mJ0_checkBoundsBeginEnd_23922 3 := ⟨⟨jw_1490, jw_13, ⟨by decide +kernel, by decide +kernel⟩, by decide +kernel, by decide +kernel, rfl, by decide, fun h => absurd h (by decide), rfl⟩, jw_1489⟩
abbrev mJ4_init_da8c8 : jk_M := (RJ4, cJ4_init_da8c8, 1, none, [], true, 12)
theorem jm_J4_init_da8c8 : jk_mI yJ4_init_da8c8 mJ4_init_da8c8 0 := ⟨⟨jw_347, jw_12, ⟨by decide +kernel, by decide +kernel⟩, by decide +kernel, by decide +kernel, rfl, by decide, fun _ => rfl, rfl⟩, rfl, jw_346, rfl⟩
abbrev mJ4_append_15ec4 : jk_M := (RJ4, cJ4_append_15ec4, 2, (some (FieldType.object "java/lang/StringBuilder")), [], false, 18)
theorem jm_J4_append_15ec4 : jk_mV yJ4_append_15ec4 mJ4_append_15ec4 1 := ⟨⟨jw_1435, jw_12, ⟨by decide +kernel, by decide +kernel⟩, by decide +kernel, by decide +kernel, rfl, by decide, fun h => absurd h (by decide), rfl⟩, jw_1433, jw_1434⟩
abbrev mJ4_append_cf468 : jk_M := (RJ4, cJ4_append_cf468, 2, (some (FieldType.object "java/lang/StringBuilder")), [], false, 16)
theorem jm_J4_append_cf468 : jk_mV yJ4_append_cf468 mJ4_append_cf468 1 := ⟨⟨jw_1674, jw_12, ⟨by decide +kernel, by decide +kernel⟩, by decide +kernel, by decide +kernel, rfl, by decide, fun h => absurd h (by decide), rfl⟩, jw_1672, jw_1673⟩
abbrev mJ4_append_bf812 : jk_M := (RJ4, cJ4_append_bf812, 2, (some (FieldType.object "java/lang/StringBuilder")), [], false, 14)
theorem jm_J4_append_bf812 : jk_mV yJ4_append_bf812 mJ4_append_bf812 1 := ⟨⟨jw_1551, jw_12, ⟨by decide +kernel, by decide +kernel⟩, by decide +kernel, by decide +kernel, rfl, by decide, fun h => absurd h (by decide), rfl⟩, jw_1549, jw_1550⟩
abbrev mJ4_toString_0e30d : jk_M := (RJ4, cJ4_toString_0e30d, 1, (some (FieldType.object "java/lang/String")), [], false, 25)
theorem jm_J4_toString_0e30d : jk_mV yJ4_toString_0e30d mJ4_toString_0e30d 0 := ⟨⟨jw_1576, jw_12, ⟨by decide +kernel, by decide +kernel⟩, by decide +kernel, by decide +kernel, rfl, by decide, fun h => absurd h (by decide), rfl⟩, jw_1574, jw_1575⟩
abbrev mJ4_charAt_5068e : jk_M := (RJ4, cJ4_charAt_5068e, 2, (some FieldType.char), [], false, 12)
theorem jm_J4_charAt_5068e : jk_mV yJ4_charAt_5068e mJ4_charAt_5068e 1 := ⟨⟨jw_1717, jw_12, ⟨by decide +kernel, by decide +kernel⟩, by decide +kernel, by decide +kernel, rfl, by decide, fun h => absurd h (by decide), rfl⟩, jw_1715, jw_1716⟩
abbrev mJ4_setLength_d00df : jk_M := (RJ4, cJ4_setLength_d00df, 2, none, [], false, 31)
theorem jm_J4_setLength_d00df : jk_mV yJ4_setLength_d00df mJ4_setLength_d00df 1 := ⟨⟨jw_1420, jw_12, ⟨by decide +kernel, by decide +kernel⟩, by decide +kernel, by decide +kernel, rfl, by decide, fun h => absurd h (by decide), rfl⟩, jw_1418, jw_1419⟩
abbrev mJ4_length_8abf5 : jk_M := (RJ4, cJ4_length_8abf5, 1, (some FieldType.int), [], false, 1)
theorem jm_J4_length_8abf5 : jk_mV yJ4_length_8abf5 mJ4_length_8abf5 0 := ⟨⟨jw_1595, jw_12, ⟨by decide +kernel, by decide +kernel⟩, by decide +kernel, by decide +kernel, rfl, by decide, fun h => absurd h (by decide), rfl⟩, jw_1594, jw_2465⟩
abbrev mJ1_charAt_3b067 : jk_M := (RJ1, cJ1_charAt_3b067, 2, (some FieldType.char), [], false, 11)
theorem jm_J1_charAt_3b067 : jk_mS yJ1_charAt_3b067 mJ1_charAt_3b067 2 := ⟨⟨jw_1777, jw_36, ⟨by decide +kernel, by decide +kernel⟩, by decide +kernel, by decide +kernel, rfl, by decide, fun h => absurd h (by decide), rfl⟩, jw_1776⟩
abbrev mJ1_canEncode_fc78d : jk_M := (RJ1, cJ1_canEncode_fc78d, 1, (some FieldType.boolean), [], false, 0)
theorem jm_J1_canEncode_fc78d : jk_mS yJ1_canEncode_fc78d mJ1_canEncode_fc78d 1 := ⟨⟨jw_1680, jw_36, ⟨by decide +kernel, by decide +kernel⟩, by decide +kernel, by decide +kernel, rfl, by decide, fun h => absurd h (by decide), rfl⟩, jw_1679⟩
abbrev mJ1_fillNull_b72d1 : jk_M := (RJ1, cJ1_fillNull_b72d1, 3, none, [], false, 29)
theorem jm_J1_fillNull_b72d1 : jk_mS yJ1_fillNull_b72d1 mJ1_fillNull_b72d1 3 := ⟨⟨jw_1646, jw_36, ⟨by decide +kernel, by decide +kernel⟩, by decide +kernel, by decide +kernel, rfl, by decide, fun h => absurd h (by decide), rfl⟩, jw_1645⟩
abbrev mJ1_inflate_0e8fd : jk_M := (RJ1, cJ1_inflate_0e8fd, 5, none, [], false, 13)
theorem jm_J1_inflate_0e8fd : jk_mS yJ1_inflate_0e8fd mJ1_inflate_0e8fd 5 := ⟨⟨jw_1529, jw_36, ⟨by decide +kernel, by decide +kernel⟩, by decide +kernel, by decide +kernel, rfl, by decide, fun h => absurd h (by decide), rfl⟩, jw_1528⟩
abbrev mJ2_newBytesFor_77867 : jk_M := (RJ2, cJ2_newBytesFor_77867, 1, (some (FieldType.array FieldType.byte)), [], false, 10)
theorem jm_J2_newBytesFor_77867 : jk_mS yJ2_newBytesFor_77867 mJ2_newBytesFor_77867 1 := ⟨⟨jw_356, jw_14, ⟨by decide +kernel, by decide +kernel⟩, by decide +kernel, by decide +kernel, rfl, by decide, fun h => absurd h (by decide), rfl⟩, jw_355⟩
abbrev mJ2_newBytesLength_0f7a4 : jk_M := (RJ2, cJ2_newBytesLength_0f7a4, 1, (some FieldType.int), [], false, 9)
theorem jm_J2_newBytesLength_0f7a4 : jk_mS yJ2_newBytesLength_0f7a4 mJ2_newBytesLength_0f7a4 1 := ⟨⟨jw_359, jw_14, ⟨by decide +kernel, by decide +kernel⟩, by decide +kernel, by decide +kernel, rfl, by decide, fun h => absurd h (by decide), rfl⟩, jw_358⟩
abbrev mJ2_putChar_b72d1 : jk_M := (RJ2, cJ2_putChar_b72d1, 3, none, [], false, 9)
theorem jm_J2_putChar_b72d1 : jk_mS yJ2_putChar_b72d1 mJ2_putChar_b72d1 3 := ⟨⟨jw_1498, jw_14, ⟨by decide +kernel, by decide +kernel⟩, by decide +kernel, by decide +kernel, rfl, by decide, fun h => absurd h (by decide), rfl⟩, jw_1497⟩
abbrev mJ2_getChar_3b067 : jk_M := (RJ2, cJ2_getChar_3b067, 2, (some FieldType.char), [], false, 9)
theorem jm_J2_getChar_3b067 : jk_mS yJ2_getChar_3b067 mJ2_getChar_3b067 2 := ⟨⟨jw_1624, jw_14, ⟨by decide +kernel, by decide +kernel⟩, by decide +kernel, by decide +kernel, rfl, by decide, fun h => absurd h (by decide), rfl⟩, jw_1623⟩
abbrev mJ2_length_9d52b : jk_M := (RJ2, cJ2_length_9d52b, 1, (some FieldType.int), [], false, 0)
theorem jm_J2_length_9d52b : jk_mS yJ2_length_9d52b mJ2_length_9d52b 1 := ⟨⟨jw_1487, jw_14, ⟨by decide +kernel, by decide +kernel⟩, by decide +kernel, by decide +kernel, rfl, by decide, fun h => absurd h (by decide), rfl⟩, jw_1486⟩
abbrev mJ2_coderFromArrayLen_85cad : jk_M := (RJ2, cJ2_coderFromArrayLen_85cad, 2, (some FieldType.byte), [], false, 0)
theorem jm_J2_coderFromArrayLen_85cad : jk_mS yJ2_coderFromArrayLen_85cad mJ2_coderFromArrayLen_85cad 2 := ⟨⟨jw_1628, jw_14, ⟨by decide +kernel, by decide +kernel⟩, by decide +kernel, by decide +kernel, rfl, by decide, fun h => absurd h (by decide), rfl⟩, jw_1627⟩
abbrev mJ2_compress_39247 : jk_M := (RJ2, cJ2_compress_39247, 6, (some (FieldType.array FieldType.byte)), [], false, 22)
theorem jm_J2_compress_39247 : jk_mS yJ2_compress_39247 mJ2_compress_39247 3 := ⟨⟨jw_1618, jw_14, ⟨by decide +kernel, by decide +kernel⟩, by decide +kernel, by decide +kernel, rfl, by decide, fun h => absurd h (by decide), rfl⟩, jw_1617⟩
abbrev mJ2_compress_5af95 : jk_M := (RJ2, cJ2_compress_5af95, 7, (some FieldType.int), [], false, 12)
theorem jm_J2_compress_5af95 : jk_mS yJ2_compress_5af95 mJ2_compress_5af95 5 := ⟨⟨jw_1621, jw_14, ⟨by decide +kernel, by decide +kernel⟩, by decide +kernel, by decide +kernel, rfl, by decide, fun h => absurd h (by decide), rfl⟩, jw_1620⟩
abbrev mJ2_fillNull_b72d1 : jk_M := (RJ2, cJ2_fillNull_b72d1, 3, none, [], false, 29)
theorem jm_J2_fillNull_b72d1 : jk_mS yJ2_fillNull_b72d1 mJ2_fillNull_b72d1 3 := ⟨⟨jw_1668, jw_14, ⟨by decide +kernel, by decide +kernel⟩, by decide +kernel, by decide +kernel, rfl, by decide, fun h => absurd h (by decide), rfl⟩, jw_1667⟩
abbrev mJ2_putCharSB_b72d1 : jk_M := (RJ2, cJ2_putCharSB_b72d1, 3, none, [], false, 12)
theorem jm_J2_putCharSB_b72d1 : jk_mS yJ2_putCharSB_b72d1 mJ2_putCharSB_b72d1 3 := ⟨⟨jw_1683, jw_14, ⟨by decide +kernel, by decide +kernel⟩, by decide +kernel, by decide +kernel, rfl, by decide, fun h => absurd h (by decide), rfl⟩, jw_1682⟩
abbrev mJ2_getChars_46870 : jk_M := (RJ2, cJ2_getChars_46870, 5, (some FieldType.int), [], false, 12)
theorem jm_J2_getChars_46870 : jk_mS yJ2_getChars_46870 mJ2_getChars_46870 4 := ⟨⟨jw_1567, jw_14, ⟨by decide +kernel, by decide +kernel⟩, by decide +kernel, by decide +kernel, rfl, by decide, fun h => absurd h (by decide), rfl⟩, jw_1566⟩
abbrev mJ2_putCharsAt_cd4e5 : jk_M := (RJ2, cJ2_putCharsAt_cd4e5, 7, (some FieldType.int), [], false, 12)
theorem jm_J2_putCharsAt_cd4e5 : jk_mS yJ2_putCharsAt_cd4e5 mJ2_putCharsAt_cd4e5 6 := ⟨⟨jw_1481, jw_14, ⟨by decide +kernel, by decide +kernel⟩, by decide +kernel, by decide +kernel, rfl, by decide, fun h => absurd h (by decide), rfl⟩, jw_1480⟩
abbrev mJ2_charAt_3b067 : jk_M := (RJ2, cJ2_charAt_3b067, 2, (some FieldType.char), [], false, 12)
theorem jm_J2_charAt_3b067 : jk_mS yJ2_charAt_3b067 mJ2_charAt_3b067 2 := ⟨⟨jw_1781, jw_14, ⟨by decide +kernel, by decide +kernel⟩, by decide +kernel, by decide +kernel, rfl, by decide, fun h => absurd h (by decide), rfl⟩, jw_1780⟩
abbrev mJ2_inflate_0e8fd : jk_M := (RJ2, cJ2_inflate_0e8fd, 6, none, [], false, 12)
theorem jm_J2_inflate_0e8fd : jk_mS yJ2_inflate_0e8fd mJ2_inflate_0e8fd 5 := ⟨⟨jw_1532, jw_14, ⟨by decide +kernel, by decide +kernel⟩, by decide +kernel, by decide +kernel, rfl, by decide, fun h => absurd h (by decide), rfl⟩, jw_1531⟩
abbrev mJ2_getChars_ba4f3 : jk_M := (RJ2, cJ2_getChars_ba4f3, 7, (some FieldType.int), [], false, 10)
theorem jm_J2_getChars_ba4f3 : jk_mS yJ2_getChars_ba4f3 mJ2_getChars_ba4f3 3 := ⟨⟨jw_1570, jw_14, ⟨by decide +kernel, by decide +kernel⟩, by decide +kernel, by decide +kernel, rfl, by decide, fun h => absurd h (by decide), rfl⟩, jw_1569⟩
abbrev mJ2_checkIndex_2214a : jk_M := (RJ2, cJ2_checkIndex_2214a, 2, none, [], false, 11)
theorem jm_J2_checkIndex_2214a : jk_mS yJ2_checkIndex_2214a mJ2_checkIndex_2214a 2 := ⟨⟨jw_1686, jw_14, ⟨by decide +kernel, by decide +kernel⟩, by decide +kernel, by decide +kernel, rfl, by decide, fun h => absurd h (by decide), rfl⟩, jw_1685⟩
abbrev mJ2_checkBoundsBeginEnd_d044e : jk_M := (RJ2, cJ2_checkBoundsBeginEnd_d044e, 3, none, [], false, 11)
theorem jm_J2_checkBoundsBeginEnd_d044e : jk_mS yJ2_checkBoundsBeginEnd_d044e mJ2_checkBoundsBeginEnd_d044e 3 := ⟨⟨jw_1484, jw_14, ⟨by decide +kernel, by decide +kernel⟩, by decide +kernel, by decide +kernel, rfl, by decide, fun h => absurd h (by decide), rfl⟩, jw_1483⟩
abbrev mJ2_checkBoundsOffCount_d044e : jk_M := (RJ2, cJ2_checkBoundsOffCount_d044e, 3, none, [], false, 11)
theorem jm_J2_checkBoundsOffCount_d044e : jk_mS yJ2_checkBoundsOffCount_d044e mJ2_checkBoundsOffCount_d044e 3 := ⟨⟨jw_1535, jw_14, ⟨by decide +kernel, by decide +kernel⟩, by decide +kernel, by decide +kernel, rfl, by decide, fun h => absurd h (by decide), rfl⟩, jw_1534⟩
abbrev mJ7_rangeCheck_23922 : jk_M := (RJ7, cJ7_rangeCheck_23922, 3, none, [], false, 27)
theorem jm_J7_rangeCheck_23922 : jk_mS yJ7_rangeCheck_23922 mJ7_rangeCheck_23922 3 := ⟨⟨jw_1652, jw_33, ⟨by decide +kernel, by decide +kernel⟩, by decide +kernel, by decide +kernel, rfl, by decide, fun h => absurd h (by decide), rfl⟩, jw_1651⟩
abbrev mJ7_fill_eb02e : jk_M := (RJ7, cJ7_fill_eb02e, 5, none, [], false, 28)
theorem jm_J7_fill_eb02e : jk_mS yJ7_fill_eb02e mJ7_fill_eb02e 4 := ⟨⟨jw_1649, jw_33, ⟨by decide +kernel, by decide +kernel⟩, by decide +kernel, by decide +kernel, rfl, by decide, fun h => absurd h (by decide), rfl⟩, jw_1648⟩
abbrev mJ7_copyOf_9075b : jk_M := (RJ7, cJ7_copyOf_9075b, 3, (some (FieldType.array FieldType.byte)), [], false, 1)
theorem jm_J7_copyOf_9075b : jk_mS yJ7_copyOf_9075b mJ7_copyOf_9075b 2 := ⟨⟨jw_1462, jw_33, ⟨by decide +kernel, by decide +kernel⟩, by decide +kernel, by decide +kernel, rfl, by decide, fun h => absurd h (by decide), rfl⟩, jw_1461⟩
abbrev mJ7_checkLength_df160 : jk_M := (RJ7, cJ7_checkLength_df160, 2, none, [], false, 19)
theorem jm_J7_checkLength_df160 : jk_mS yJ7_checkLength_df160 mJ7_checkLength_df160 2 := ⟨⟨jw_1607, jw_33, ⟨by decide +kernel, by decide +kernel⟩, by decide +kernel, by decide +kernel, rfl, by decide, fun h => absurd h (by decide), rfl⟩, jw_1606⟩
abbrev mJ7_copyOfRange_39247 : jk_M := (RJ7, cJ7_copyOfRange_39247, 3, (some (FieldType.array FieldType.byte)), [], false, 21)
theorem jm_J7_copyOfRange_39247 : jk_mS yJ7_copyOfRange_39247 mJ7_copyOfRange_39247 3 := ⟨⟨jw_1601, jw_33, ⟨by decide +kernel, by decide +kernel⟩, by decide +kernel, by decide +kernel, rfl, by decide, fun h => absurd h (by decide), rfl⟩, jw_1600⟩
abbrev mJ7_copyOfRangeByte_39247 : jk_M := (RJ7, cJ7_copyOfRangeByte_39247, 5, (some (FieldType.array FieldType.byte)), [], false, 20)
theorem jm_J7_copyOfRangeByte_39247 : jk_mS yJ7_copyOfRangeByte_39247 mJ7_copyOfRangeByte_39247 3 := ⟨⟨jw_1604, jw_33, ⟨by decide +kernel, by decide +kernel⟩, by decide +kernel, by decide +kernel, rfl, by decide, fun h => absurd h (by decide), rfl⟩, jw_1603⟩
abbrev mJ8_newLength_cabcc : jk_M := (RJ8, cJ8_newLength_cabcc, 4, (some FieldType.int), [], false, 10)
theorem jm_J8_newLength_cabcc : jk_mS yJ8_newLength_cabcc mJ8_newLength_cabcc 3 := ⟨⟨jw_1453, jw_32, ⟨by decide +kernel, by decide +kernel⟩, by decide +kernel, by decide +kernel, rfl, by decide, fun h => absurd h (by decide), rfl⟩, jw_1452⟩
abbrev mJ8_hugeLength_7cf53 : jk_M := (RJ8, cJ8_hugeLength_7cf53, 3, (some FieldType.int), [], false, 9)
theorem jm_J8_hugeLength_7cf53 : jk_mS yJ8_hugeLength_7cf53 mJ8_hugeLength_7cf53 2 := ⟨⟨jw_1458, jw_32, ⟨by decide +kernel, by decide +kernel⟩, by decide +kernel, by decide +kernel, rfl, by decide, fun h => absurd h (by decide), rfl⟩, jw_1457⟩
abbrev mJ3_checkIndex_8e157 : jk_M := (RJ3, cJ3_checkIndex_8e157, 3, (some FieldType.int), [], false, 9)
theorem jm_J3_checkIndex_8e157 : jk_mS yJ3_checkIndex_8e157 mJ3_checkIndex_8e157 3 := ⟨⟨jw_1692, jw_35, ⟨by decide +kernel, by decide +kernel⟩, by decide +kernel, by decide +kernel, rfl, by decide, fun h => absurd h (by decide), rfl⟩, jw_1691⟩
abbrev mJ3_checkFromToIndex_8c36e : jk_M := (RJ3, cJ3_checkFromToIndex_8c36e, 4, (some FieldType.int), [], false, 9)
theorem jm_J3_checkFromToIndex_8c36e : jk_mS yJ3_checkFromToIndex_8c36e mJ3_checkFromToIndex_8c36e 4 := ⟨⟨jw_1495, jw_35, ⟨by decide +kernel, by decide +kernel⟩, by decide +kernel, by decide +kernel, rfl, by decide, fun h => absurd h (by decide), rfl⟩, jw_1494⟩
abbrev mJ3_checkFromIndexSize_8c36e : jk_M := (RJ3, cJ3_checkFromIndexSize_8c36e, 4, (some FieldType.int), [], false, 9)
theorem jm_J3_checkFromIndexSize_8c36e : jk_mS yJ3_checkFromIndexSize_8c36e mJ3_checkFromIndexSize_8c36e 4 := ⟨⟨jw_1541, jw_35, ⟨by decide +kernel, by decide +kernel⟩, by decide +kernel, by decide +kernel, rfl, by decide, fun h => absurd h (by decide), rfl⟩, jw_1540⟩
