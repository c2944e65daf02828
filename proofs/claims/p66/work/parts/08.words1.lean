theorem jw_315 : Cond.arrayOver (ClassFile.FieldType.object "LevelingNetwork$Kind") ∈ jk_WS := jk_wt2 (i := 75) (by decide +kernel) rfl
theorem jw_316 : Cond.classLink "LevelingNetwork$Script" 21 "[[I" ∈ jk_WS := jk_wt2 (i := 76) (by decide +kernel) rfl
theorem jw_317 : Cond.fieldLink "LevelingNetwork$Script" 9 "LevelingNetwork$Script" "text" "[C" ∈ jk_WS := jk_wt2 (i := 77) (by decide +kernel) rfl
theorem jw_318 : Cond.fieldLink "LevelingNetwork$Script" 26 "LevelingNetwork$Script" "size" "I" ∈ jk_WS := jk_wt2 (i := 78) (by decide +kernel) rfl
theorem jw_319 : Cond.fieldLink "LevelingNetwork" 380 "LevelingNetwork$Script" "size" "I" ∈ jk_WS := jk_wt2 (i := 79) (by decide +kernel) rfl
theorem jw_320 : Cond.fieldLink "LevelingNetwork$Script" 30 "LevelingNetwork$Script" "position" "I" ∈ jk_WS := jk_wt2 (i := 80) (by decide +kernel) rfl
theorem jw_321 : Cond.fieldLink "LevelingNetwork" 393 "LevelingNetwork$Script" "position" "I" ∈ jk_WS := jk_wt2 (i := 81) (by decide +kernel) rfl
theorem jw_322 : Cond.fieldLink "LevelingNetwork$Script" 33 "LevelingNetwork$Script" "commands" "I" ∈ jk_WS := jk_wt2 (i := 82) (by decide +kernel) rfl
theorem jw_323 : Cond.fieldLink "LevelingNetwork" 409 "LevelingNetwork$Script" "commands" "I" ∈ jk_WS := jk_wt2 (i := 83) (by decide +kernel) rfl
theorem jw_324 : Cond.fieldLink "LevelingNetwork$Script" 17 "LevelingNetwork$Script" "kinds" "[LLevelingNetwork$Kind;" ∈ jk_WS := jk_wt2 (i := 84) (by decide +kernel) rfl
theorem jw_325 : Cond.fieldLink "LevelingNetwork" 483 "LevelingNetwork$Script" "kinds" "[LLevelingNetwork$Kind;" ∈ jk_WS := jk_wt2 (i := 85) (by decide +kernel) rfl
theorem jw_326 : Cond.fieldLink "LevelingNetwork$Script" 23 "LevelingNetwork$Script" "arguments" "[[I" ∈ jk_WS := jk_wt2 (i := 86) (by decide +kernel) rfl
theorem jw_327 : Cond.fieldLink "LevelingNetwork" 487 "LevelingNetwork$Script" "arguments" "[[I" ∈ jk_WS := jk_wt2 (i := 87) (by decide +kernel) rfl
theorem jw_328 : Cond.laysFinal "LevelingNetwork$Script" "LevelingNetwork$Script" "text" "[C" ∈ jk_WS := jk_wt2 (i := 88) (by decide +kernel) rfl
theorem jw_330 : Cond.lays "LevelingNetwork$Script" "LevelingNetwork$Script" "size" "I" ∈ jk_WS := jk_wt2 (i := 90) (by decide +kernel) rfl
theorem jw_332 : Cond.lays "LevelingNetwork$Script" "LevelingNetwork$Script" "position" "I" ∈ jk_WS := jk_wt2 (i := 92) (by decide +kernel) rfl
theorem jw_334 : Cond.lays "LevelingNetwork$Script" "LevelingNetwork$Script" "commands" "I" ∈ jk_WS := jk_wt2 (i := 94) (by decide +kernel) rfl
theorem jw_336 : Cond.laysFinal "LevelingNetwork$Script" "LevelingNetwork$Script" "kinds" "[LLevelingNetwork$Kind;" ∈ jk_WS := jk_wt2 (i := 96) (by decide +kernel) rfl
theorem jw_338 : Cond.laysFinal "LevelingNetwork$Script" "LevelingNetwork$Script" "arguments" "[[I" ∈ jk_WS := jk_wt2 (i := 98) (by decide +kernel) rfl
theorem jw_340 : Cond.superclass "LevelingNetwork$Script" "java/lang/Object" ∈ jk_WS := jk_wt2 (i := 100) (by decide +kernel) rfl
theorem jw_341 : Cond.arrayClass ClassFile.FieldType.char ∈ jk_WS := jk_wt2 (i := 101) (by decide +kernel) rfl
theorem jw_342 : Cond.classLink "LevelingNetwork" 84 "java/lang/StringBuilder" ∈ jk_WS := jk_wt2 (i := 102) (by decide +kernel) rfl
theorem jw_343 : Cond.instantiable "java/lang/StringBuilder" 4 ∈ jk_WS := jk_wt2 (i := 103) (by decide +kernel) rfl
theorem jw_344 : Cond.methodLink "LevelingNetwork" 86 ⟨"java/lang/StringBuilder", "<init>", "()V"⟩ ∈ jk_WS := jk_wt2 (i := 104) (by decide +kernel) rfl
theorem jw_345 : Cond.instanceMethod ⟨"java/lang/StringBuilder", "<init>", "()V"⟩ ∈ jk_WS := jk_wt2 (i := 105) (by decide +kernel) rfl
theorem jw_346 : Cond.code ⟨"java/lang/StringBuilder", "<init>", "()V"⟩ prog_34_method_1_code 1 (Option.none : Option ClassFile.FieldType) ∈ jk_WS := jk_wt2 (i := 106) (by decide +kernel) rfl
theorem jw_347 : Cond.methodLink "java/lang/StringBuilder" 1 ⟨"java/lang/AbstractStringBuilder", "<init>", "(I)V"⟩ ∈ jk_WS := jk_wt2 (i := 107) (by decide +kernel) rfl
theorem jw_348 : Cond.instanceMethod ⟨"java/lang/AbstractStringBuilder", "<init>", "(I)V"⟩ ∈ jk_WS := jk_wt2 (i := 108) (by decide +kernel) rfl
theorem jw_349 : Cond.code ⟨"java/lang/AbstractStringBuilder", "<init>", "(I)V"⟩ prog_17_method_2_code 2 (Option.none : Option ClassFile.FieldType) ∈ jk_WS := jk_wt2 (i := 109) (by decide +kernel) rfl
theorem jw_350 : Cond.methodLink "java/lang/AbstractStringBuilder" 3 ⟨"java/lang/Object", "<init>", "()V"⟩ ∈ jk_WS := jk_wt2 (i := 110) (by decide +kernel) rfl
theorem jw_351 : Cond.fieldLink "java/lang/AbstractStringBuilder" 18 "java/lang/String" "COMPACT_STRINGS" "Z" ∈ jk_WS := jk_wt2 (i := 111) (by decide +kernel) rfl
theorem jw_353 : Cond.methodLink "java/lang/AbstractStringBuilder" 26 ⟨"java/lang/StringUTF16", "newBytesFor", "(I)[B"⟩ ∈ jk_WS := jk_wt2 (i := 113) (by decide +kernel) rfl
theorem jw_354 : Cond.static ⟨"java/lang/StringUTF16", "newBytesFor", "(I)[B"⟩ ∈ jk_WS := jk_wt2 (i := 114) (by decide +kernel) rfl
theorem jw_355 : Cond.code ⟨"java/lang/StringUTF16", "newBytesFor", "(I)[B"⟩ prog_37_method_2_code 1 (Option.some (ClassFile.FieldType.array ClassFile.FieldType.byte)) ∈ jk_WS := jk_wt2 (i := 115) (by decide +kernel) rfl
theorem jw_356 : Cond.methodLink "java/lang/StringUTF16" 11 ⟨"java/lang/StringUTF16", "newBytesLength", "(I)I"⟩ ∈ jk_WS := jk_wt2 (i := 116) (by decide +kernel) rfl
theorem jw_357 : Cond.static ⟨"java/lang/StringUTF16", "newBytesLength", "(I)I"⟩ ∈ jk_WS := jk_wt2 (i := 117) (by decide +kernel) rfl
theorem jw_358 : Cond.code ⟨"java/lang/StringUTF16", "newBytesLength", "(I)I"⟩ prog_37_method_3_code 1 (Option.some ClassFile.FieldType.int) ∈ jk_WS := jk_wt2 (i := 118) (by decide +kernel) rfl
theorem jw_359 : Cond.constant "java/lang/StringUTF16" 20 (1073741823 : Int32) ∈ jk_WS := jk_wt2 (i := 119) (by decide +kernel) rfl
theorem jw_360 : Cond.fieldLink "java/lang/AbstractStringBuilder" 15 "java/lang/AbstractStringBuilder" "value" "[B" ∈ jk_WS := jk_wt2 (i := 120) (by decide +kernel) rfl
theorem jw_361 : Cond.fieldLink "java/lang/AbstractStringBuilder" 22 "java/lang/AbstractStringBuilder" "coder" "B" ∈ jk_WS := jk_wt2 (i := 121) (by decide +kernel) rfl
theorem jw_362 : Cond.fieldLink "java/lang/AbstractStringBuilder" 73 "java/lang/AbstractStringBuilder" "maybeLatin1" "Z" ∈ jk_WS := jk_wt2 (i := 122) (by decide +kernel) rfl
theorem jw_363 : Cond.fieldLink "java/lang/String" 1048 "java/lang/AbstractStringBuilder" "maybeLatin1" "Z" ∈ jk_WS := jk_wt2 (i := 123) (by decide +kernel) rfl
theorem jw_364 : Cond.fieldLink "java/lang/AbstractStringBuilder" 79 "java/lang/AbstractStringBuilder" "count" "I" ∈ jk_WS := jk_wt2 (i := 124) (by decide +kernel) rfl
theorem jw_365 : Cond.lays "java/lang/StringBuilder" "java/lang/AbstractStringBuilder" "value" "[B" ∈ jk_WS := jk_wt2 (i := 125) (by decide +kernel) rfl
theorem jw_367 : Cond.lays "java/lang/StringBuilder" "java/lang/AbstractStringBuilder" "coder" "B" ∈ jk_WS := jk_wt2 (i := 127) (by decide +kernel) rfl
theorem jw_369 : Cond.lays "java/lang/StringBuilder" "java/lang/AbstractStringBuilder" "maybeLatin1" "Z" ∈ jk_WS := jk_wt2 (i := 129) (by decide +kernel) rfl
theorem jw_371 : Cond.lays "java/lang/StringBuilder" "java/lang/AbstractStringBuilder" "count" "I" ∈ jk_WS := jk_wt2 (i := 131) (by decide +kernel) rfl
theorem jw_373 : Cond.superclass "java/lang/StringBuilder" "java/lang/AbstractStringBuilder" ∈ jk_WS := jk_wt2 (i := 133) (by decide +kernel) rfl
theorem jw_374 : Cond.arrayClass ClassFile.FieldType.byte ∈ jk_WS := jk_wt2 (i := 134) (by decide +kernel) rfl
theorem jw_375 : Cond.fieldLink "LevelingNetwork" 10 "LevelingNetwork" "survey" "LLevelingNetwork$Survey;" ∈ jk_WS := jk_wt2 (i := 135) (by decide +kernel) rfl
theorem jw_376 : Cond.fieldLink "LevelingNetwork" 16 "LevelingNetwork" "before" "LLevelingNetwork$Survey;" ∈ jk_WS := jk_wt2 (i := 136) (by decide +kernel) rfl
theorem jw_377 : Cond.fieldLink "LevelingNetwork" 19 "LevelingNetwork" "snapshot" "LLevelingNetwork$Survey;" ∈ jk_WS := jk_wt2 (i := 137) (by decide +kernel) rfl
theorem jw_378 : Cond.fieldLink "LevelingNetwork" 422 "LevelingNetwork" "hasSnapshot" "Z" ∈ jk_WS := jk_wt2 (i := 138) (by decide +kernel) rfl
theorem jw_379 : Cond.fieldLink "LevelingNetwork" 25 "LevelingNetwork" "history" "LLevelingNetwork$History;" ∈ jk_WS := jk_wt2 (i := 139) (by decide +kernel) rfl
theorem jw_380 : Cond.fieldLink "LevelingNetwork" 34 "LevelingNetwork" "forest" "LLevelingNetwork$Forest;" ∈ jk_WS := jk_wt2 (i := 140) (by decide +kernel) rfl
theorem jw_381 : Cond.fieldLink "LevelingNetwork" 43 "LevelingNetwork" "loopWay" "LLevelingNetwork$Way;" ∈ jk_WS := jk_wt2 (i := 141) (by decide +kernel) rfl
theorem jw_382 : Cond.fieldLink "LevelingNetwork" 50 "LevelingNetwork" "sharing" "LLevelingNetwork$Sharing;" ∈ jk_WS := jk_wt2 (i := 142) (by decide +kernel) rfl
theorem jw_383 : Cond.fieldLink "LevelingNetwork" 57 "LevelingNetwork" "heights" "LLevelingNetwork$Heights;" ∈ jk_WS := jk_wt2 (i := 143) (by decide +kernel) rfl
theorem jw_384 : Cond.fieldLink "LevelingNetwork" 64 "LevelingNetwork" "bank" "LLevelingNetwork$Bank;" ∈ jk_WS := jk_wt2 (i := 144) (by decide +kernel) rfl
theorem jw_385 : Cond.fieldLink "LevelingNetwork" 73 "LevelingNetwork" "changes" "LLevelingNetwork$Changes;" ∈ jk_WS := jk_wt2 (i := 145) (by decide +kernel) rfl
theorem jw_386 : Cond.fieldLink "LevelingNetwork" 80 "LevelingNetwork" "script" "LLevelingNetwork$Script;" ∈ jk_WS := jk_wt2 (i := 146) (by decide +kernel) rfl
theorem jw_387 : Cond.fieldLink "LevelingNetwork" 87 "LevelingNetwork" "output" "Ljava/lang/StringBuilder;" ∈ jk_WS := jk_wt2 (i := 147) (by decide +kernel) rfl
theorem jw_388 : Cond.fieldLink "LevelingNetwork" 91 "LevelingNetwork" "errorAt" "I" ∈ jk_WS := jk_wt2 (i := 148) (by decide +kernel) rfl
theorem jw_389 : Cond.fieldLink "LevelingNetwork" 95 "LevelingNetwork" "failedAt" "I" ∈ jk_WS := jk_wt2 (i := 149) (by decide +kernel) rfl
theorem jw_390 : Cond.laysFinal "LevelingNetwork" "LevelingNetwork" "survey" "LLevelingNetwork$Survey;" ∈ jk_WS := jk_wt2 (i := 150) (by decide +kernel) rfl
theorem jw_392 : Cond.laysFinal "LevelingNetwork" "LevelingNetwork" "before" "LLevelingNetwork$Survey;" ∈ jk_WS := jk_wt2 (i := 152) (by decide +kernel) rfl
theorem jw_394 : Cond.laysFinal "LevelingNetwork" "LevelingNetwork" "snapshot" "LLevelingNetwork$Survey;" ∈ jk_WS := jk_wt2 (i := 154) (by decide +kernel) rfl
theorem jw_396 : Cond.lays "LevelingNetwork" "LevelingNetwork" "hasSnapshot" "Z" ∈ jk_WS := jk_wt2 (i := 156) (by decide +kernel) rfl
theorem jw_398 : Cond.laysFinal "LevelingNetwork" "LevelingNetwork" "history" "LLevelingNetwork$History;" ∈ jk_WS := jk_wt2 (i := 158) (by decide +kernel) rfl
theorem jw_400 : Cond.laysFinal "LevelingNetwork" "LevelingNetwork" "forest" "LLevelingNetwork$Forest;" ∈ jk_WS := jk_wt2 (i := 160) (by decide +kernel) rfl
theorem jw_402 : Cond.laysFinal "LevelingNetwork" "LevelingNetwork" "loopWay" "LLevelingNetwork$Way;" ∈ jk_WS := jk_wt2 (i := 162) (by decide +kernel) rfl
theorem jw_404 : Cond.laysFinal "LevelingNetwork" "LevelingNetwork" "sharing" "LLevelingNetwork$Sharing;" ∈ jk_WS := jk_wt2 (i := 164) (by decide +kernel) rfl
theorem jw_406 : Cond.laysFinal "LevelingNetwork" "LevelingNetwork" "heights" "LLevelingNetwork$Heights;" ∈ jk_WS := jk_wt2 (i := 166) (by decide +kernel) rfl
theorem jw_408 : Cond.laysFinal "LevelingNetwork" "LevelingNetwork" "bank" "LLevelingNetwork$Bank;" ∈ jk_WS := jk_wt2 (i := 168) (by decide +kernel) rfl
theorem jw_410 : Cond.laysFinal "LevelingNetwork" "LevelingNetwork" "changes" "LLevelingNetwork$Changes;" ∈ jk_WS := jk_wt2 (i := 170) (by decide +kernel) rfl
theorem jw_412 : Cond.laysFinal "LevelingNetwork" "LevelingNetwork" "script" "LLevelingNetwork$Script;" ∈ jk_WS := jk_wt2 (i := 172) (by decide +kernel) rfl
theorem jw_414 : Cond.laysFinal "LevelingNetwork" "LevelingNetwork" "output" "Ljava/lang/StringBuilder;" ∈ jk_WS := jk_wt2 (i := 174) (by decide +kernel) rfl
theorem jw_416 : Cond.lays "LevelingNetwork" "LevelingNetwork" "errorAt" "I" ∈ jk_WS := jk_wt2 (i := 176) (by decide +kernel) rfl
theorem jw_418 : Cond.lays "LevelingNetwork" "LevelingNetwork" "failedAt" "I" ∈ jk_WS := jk_wt2 (i := 178) (by decide +kernel) rfl
theorem jw_420 : Cond.superclass "LevelingNetwork" "java/lang/Object" ∈ jk_WS := jk_wt2 (i := 180) (by decide +kernel) rfl
theorem jw_421 : Cond.methodLink "LevelingNetworkLaw" 66 ⟨"LevelingNetwork", "addBenchmark", "()I"⟩ ∈ jk_WS := jk_wt2 (i := 181) (by decide +kernel) rfl
theorem jw_422 : Cond.instanceMethod ⟨"LevelingNetwork", "addBenchmark", "()I"⟩ ∈ jk_WS := jk_wt2 (i := 182) (by decide +kernel) rfl
theorem jw_423 : Cond.selects "LevelingNetwork" ⟨"LevelingNetwork", "addBenchmark", "()I"⟩ ⟨"LevelingNetwork", "addBenchmark", "()I"⟩ ∈ jk_WS := jk_wt2 (i := 183) (by decide +kernel) rfl
theorem jw_424 : Cond.code ⟨"LevelingNetwork", "addBenchmark", "()I"⟩ prog_1_method_2_code 1 (Option.some ClassFile.FieldType.int) ∈ jk_WS := jk_wt2 (i := 184) (by decide +kernel) rfl
theorem jw_425 : Cond.fieldLink "LevelingNetwork" 98 "LevelingNetwork$Kind" "POINT" "LLevelingNetwork$Kind;" ∈ jk_WS := jk_wt2 (i := 185) (by decide +kernel) rfl
theorem jw_427 : Cond.methodLink "LevelingNetwork" 104 ⟨"LevelingNetwork", "change", "(LLevelingNetwork$Kind;IIII)I"⟩ ∈ jk_WS := jk_wt2 (i := 187) (by decide +kernel) rfl
theorem jw_429 : Cond.instanceMethod ⟨"LevelingNetwork", "change", "(LLevelingNetwork$Kind;IIII)I"⟩ ∈ jk_WS := jk_wt2 (i := 189) (by decide +kernel) rfl
theorem jw_430 : Cond.code ⟨"LevelingNetwork", "change", "(LLevelingNetwork$Kind;IIII)I"⟩ prog_1_method_65_code 6 (Option.some ClassFile.FieldType.int) ∈ jk_WS := jk_wt2 (i := 190) (by decide +kernel) rfl
theorem jw_431 : Cond.methodLink "LevelingNetwork" 428 ⟨"LevelingNetwork$Changes", "troubleWith", "(LLevelingNetwork$Kind;IIII)LLevelingNetwork$Trouble;"⟩ ∈ jk_WS := jk_wt2 (i := 191) (by decide +kernel) rfl
theorem jw_432 : Cond.instanceMethod ⟨"LevelingNetwork$Changes", "troubleWith", "(LLevelingNetwork$Kind;IIII)LLevelingNetwork$Trouble;"⟩ ∈ jk_WS := jk_wt2 (i := 192) (by decide +kernel) rfl
theorem jw_433 : Cond.selects "LevelingNetwork$Changes" ⟨"LevelingNetwork$Changes", "troubleWith", "(LLevelingNetwork$Kind;IIII)LLevelingNetwork$Trouble;"⟩ ⟨"LevelingNetwork$Changes", "troubleWith", "(LLevelingNetwork$Kind;IIII)LLevelingNetwork$Trouble;"⟩ ∈ jk_WS := jk_wt2 (i := 193) (by decide +kernel) rfl
theorem jw_434 : Cond.code ⟨"LevelingNetwork$Changes", "troubleWith", "(LLevelingNetwork$Kind;IIII)LLevelingNetwork$Trouble;"⟩ prog_4_method_2_code 6 (Option.some (ClassFile.FieldType.object "LevelingNetwork$Trouble")) ∈ jk_WS := jk_wt2 (i := 194) (by decide +kernel) rfl
theorem jw_435 : Cond.fieldLink "LevelingNetwork$Changes" 27 "LevelingNetwork$1" "$SwitchMap$LevelingNetwork$Kind" "[I" ∈ jk_WS := jk_wt2 (i := 195) (by decide +kernel) rfl
theorem jw_437 : Cond.methodLink "LevelingNetwork$Changes" 33 ⟨"LevelingNetwork$Kind", "ordinal", "()I"⟩ ∈ jk_WS := jk_wt2 (i := 197) (by decide +kernel) rfl
theorem jw_438 : Cond.sameMethod "LevelingNetwork$Kind" "java/lang/Enum" "ordinal" "()I" ∈ jk_WS := jk_wt2 (i := 198) (by decide +kernel) rfl
theorem jw_439 : Cond.declares ⟨"java/lang/Enum", "ordinal", "()I"⟩ ∈ jk_WS := jk_wt2 (i := 199) (by decide +kernel) rfl
theorem jw_440 : Cond.selects "LevelingNetwork$Kind" ⟨"LevelingNetwork$Kind", "ordinal", "()I"⟩ ⟨"java/lang/Enum", "ordinal", "()I"⟩ ∈ jk_WS := jk_wt2 (i := 200) (by decide +kernel) rfl
theorem jw_441 : Cond.instanceMethod ⟨"java/lang/Enum", "ordinal", "()I"⟩ ∈ jk_WS := jk_wt2 (i := 201) (by decide +kernel) rfl
theorem jw_442 : Cond.code ⟨"java/lang/Enum", "ordinal", "()I"⟩ prog_24_method_2_code 1 (Option.some ClassFile.FieldType.int) ∈ jk_WS := jk_wt2 (i := 202) (by decide +kernel) rfl
theorem jw_443 : Cond.methodLink "LevelingNetwork$Changes" 45 ⟨"LevelingNetwork$Changes", "stateTroubleUnless", "(Z)LLevelingNetwork$Trouble;"⟩ ∈ jk_WS := jk_wt2 (i := 203) (by decide +kernel) rfl
theorem jw_444 : Cond.static ⟨"LevelingNetwork$Changes", "stateTroubleUnless", "(Z)LLevelingNetwork$Trouble;"⟩ ∈ jk_WS := jk_wt2 (i := 204) (by decide +kernel) rfl
theorem jw_445 : Cond.code ⟨"LevelingNetwork$Changes", "stateTroubleUnless", "(Z)LLevelingNetwork$Trouble;"⟩ prog_4_method_3_code 1 (Option.some (ClassFile.FieldType.object "LevelingNetwork$Trouble")) ∈ jk_WS := jk_wt2 (i := 205) (by decide +kernel) rfl
theorem jw_446 : Cond.fieldLink "LevelingNetwork$Changes" 82 "LevelingNetwork$Trouble" "NOTHING" "LLevelingNetwork$Trouble;" ∈ jk_WS := jk_wt2 (i := 206) (by decide +kernel) rfl
theorem jw_448 : Cond.fieldLink "LevelingNetwork$Changes" 91 "LevelingNetwork$Trouble" "BAD_STATE" "LLevelingNetwork$Trouble;" ∈ jk_WS := jk_wt2 (i := 208) (by decide +kernel) rfl
theorem jw_450 : Cond.methodLink "LevelingNetwork$Changes" 49 ⟨"LevelingNetwork$Changes", "troubleWithFixing", "(II)LLevelingNetwork$Trouble;"⟩ ∈ jk_WS := jk_wt2 (i := 210) (by decide +kernel) rfl
theorem jw_452 : Cond.instanceMethod ⟨"LevelingNetwork$Changes", "troubleWithFixing", "(II)LLevelingNetwork$Trouble;"⟩ ∈ jk_WS := jk_wt2 (i := 212) (by decide +kernel) rfl
theorem jw_453 : Cond.code ⟨"LevelingNetwork$Changes", "troubleWithFixing", "(II)LLevelingNetwork$Trouble;"⟩ prog_4_method_6_code 3 (Option.some (ClassFile.FieldType.object "LevelingNetwork$Trouble")) ∈ jk_WS := jk_wt2 (i := 213) (by decide +kernel) rfl
theorem jw_454 : Cond.methodLink "LevelingNetwork$Changes" 100 ⟨"LevelingNetwork$Survey", "hasBenchmark", "(I)Z"⟩ ∈ jk_WS := jk_wt2 (i := 214) (by decide +kernel) rfl
theorem jw_455 : Cond.instanceMethod ⟨"LevelingNetwork$Survey", "hasBenchmark", "(I)Z"⟩ ∈ jk_WS := jk_wt2 (i := 215) (by decide +kernel) rfl
theorem jw_456 : Cond.selects "LevelingNetwork$Survey" ⟨"LevelingNetwork$Survey", "hasBenchmark", "(I)Z"⟩ ⟨"LevelingNetwork$Survey", "hasBenchmark", "(I)Z"⟩ ∈ jk_WS := jk_wt2 (i := 216) (by decide +kernel) rfl
theorem jw_457 : Cond.code ⟨"LevelingNetwork$Survey", "hasBenchmark", "(I)Z"⟩ prog_11_method_6_code 2 (Option.some ClassFile.FieldType.boolean) ∈ jk_WS := jk_wt2 (i := 217) (by decide +kernel) rfl
theorem jw_458 : Cond.fieldLink "LevelingNetwork$Changes" 103 "LevelingNetwork$Trouble" "NO_INDEX" "LLevelingNetwork$Trouble;" ∈ jk_WS := jk_wt2 (i := 218) (by decide +kernel) rfl
theorem jw_460 : Cond.methodLink "LevelingNetwork$Changes" 78 ⟨"LevelingNetwork$Changes", "isHeight", "(I)Z"⟩ ∈ jk_WS := jk_wt2 (i := 220) (by decide +kernel) rfl
theorem jw_461 : Cond.static ⟨"LevelingNetwork$Changes", "isHeight", "(I)Z"⟩ ∈ jk_WS := jk_wt2 (i := 221) (by decide +kernel) rfl
theorem jw_462 : Cond.code ⟨"LevelingNetwork$Changes", "isHeight", "(I)Z"⟩ prog_4_method_4_code 1 (Option.some ClassFile.FieldType.boolean) ∈ jk_WS := jk_wt2 (i := 222) (by decide +kernel) rfl
theorem jw_463 : Cond.constant "LevelingNetwork$Changes" 94 (-99999 : Int32) ∈ jk_WS := jk_wt2 (i := 223) (by decide +kernel) rfl
theorem jw_464 : Cond.constant "LevelingNetwork$Changes" 95 (99999 : Int32) ∈ jk_WS := jk_wt2 (i := 224) (by decide +kernel) rfl
theorem jw_465 : Cond.methodLinkNest "LevelingNetwork$Changes" 96 ⟨"LevelingNetwork", "within", "(III)Z"⟩ "LevelingNetwork" ∈ jk_WS := jk_wt2 (i := 225) (by decide +kernel) rfl
theorem jw_466 : Cond.static ⟨"LevelingNetwork", "within", "(III)Z"⟩ ∈ jk_WS := jk_wt2 (i := 226) (by decide +kernel) rfl
theorem jw_467 : Cond.code ⟨"LevelingNetwork", "within", "(III)Z"⟩ prog_1_method_78_code 3 (Option.some ClassFile.FieldType.boolean) ∈ jk_WS := jk_wt2 (i := 227) (by decide +kernel) rfl
theorem jw_468 : Cond.fieldLink "LevelingNetwork$Changes" 88 "LevelingNetwork$Trouble" "BAD_ARGUMENT" "LLevelingNetwork$Trouble;" ∈ jk_WS := jk_wt2 (i := 228) (by decide +kernel) rfl
theorem jw_470 : Cond.methodLink "LevelingNetwork$Changes" 53 ⟨"LevelingNetwork$Changes", "troubleWithFreeing", "(I)LLevelingNetwork$Trouble;"⟩ ∈ jk_WS := jk_wt2 (i := 230) (by decide +kernel) rfl
theorem jw_472 : Cond.instanceMethod ⟨"LevelingNetwork$Changes", "troubleWithFreeing", "(I)LLevelingNetwork$Trouble;"⟩ ∈ jk_WS := jk_wt2 (i := 232) (by decide +kernel) rfl
theorem jw_473 : Cond.code ⟨"LevelingNetwork$Changes", "troubleWithFreeing", "(I)LLevelingNetwork$Trouble;"⟩ prog_4_method_7_code 2 (Option.some (ClassFile.FieldType.object "LevelingNetwork$Trouble")) ∈ jk_WS := jk_wt2 (i := 233) (by decide +kernel) rfl
theorem jw_474 : Cond.methodLink "LevelingNetwork$Changes" 57 ⟨"LevelingNetwork$Changes", "troubleWithLine", "(IIII)LLevelingNetwork$Trouble;"⟩ ∈ jk_WS := jk_wt2 (i := 234) (by decide +kernel) rfl
theorem jw_476 : Cond.instanceMethod ⟨"LevelingNetwork$Changes", "troubleWithLine", "(IIII)LLevelingNetwork$Trouble;"⟩ ∈ jk_WS := jk_wt2 (i := 236) (by decide +kernel) rfl
theorem jw_477 : Cond.code ⟨"LevelingNetwork$Changes", "troubleWithLine", "(IIII)LLevelingNetwork$Trouble;"⟩ prog_4_method_8_code 5 (Option.some (ClassFile.FieldType.object "LevelingNetwork$Trouble")) ∈ jk_WS := jk_wt2 (i := 237) (by decide +kernel) rfl
theorem jw_478 : Cond.methodLink "LevelingNetwork$Changes" 110 ⟨"LevelingNetwork$Changes", "isRun", "(I)Z"⟩ ∈ jk_WS := jk_wt2 (i := 238) (by decide +kernel) rfl
theorem jw_479 : Cond.static ⟨"LevelingNetwork$Changes", "isRun", "(I)Z"⟩ ∈ jk_WS := jk_wt2 (i := 239) (by decide +kernel) rfl
theorem jw_480 : Cond.code ⟨"LevelingNetwork$Changes", "isRun", "(I)Z"⟩ prog_4_method_5_code 1 (Option.some ClassFile.FieldType.boolean) ∈ jk_WS := jk_wt3 (i := 0) (by decide +kernel) rfl
theorem jw_481 : Cond.methodLink "LevelingNetwork$Changes" 61 ⟨"LevelingNetwork$Changes", "troubleWithBackwardRun", "(II)LLevelingNetwork$Trouble;"⟩ ∈ jk_WS := jk_wt3 (i := 1) (by decide +kernel) rfl
theorem jw_483 : Cond.instanceMethod ⟨"LevelingNetwork$Changes", "troubleWithBackwardRun", "(II)LLevelingNetwork$Trouble;"⟩ ∈ jk_WS := jk_wt3 (i := 3) (by decide +kernel) rfl
theorem jw_484 : Cond.code ⟨"LevelingNetwork$Changes", "troubleWithBackwardRun", "(II)LLevelingNetwork$Trouble;"⟩ prog_4_method_9_code 3 (Option.some (ClassFile.FieldType.object "LevelingNetwork$Trouble")) ∈ jk_WS := jk_wt3 (i := 4) (by decide +kernel) rfl
theorem jw_485 : Cond.methodLink "LevelingNetwork$Changes" 116 ⟨"LevelingNetwork$Survey", "hasLine", "(I)Z"⟩ ∈ jk_WS := jk_wt3 (i := 5) (by decide +kernel) rfl
theorem jw_486 : Cond.instanceMethod ⟨"LevelingNetwork$Survey", "hasLine", "(I)Z"⟩ ∈ jk_WS := jk_wt3 (i := 6) (by decide +kernel) rfl
theorem jw_487 : Cond.selects "LevelingNetwork$Survey" ⟨"LevelingNetwork$Survey", "hasLine", "(I)Z"⟩ ⟨"LevelingNetwork$Survey", "hasLine", "(I)Z"⟩ ∈ jk_WS := jk_wt3 (i := 7) (by decide +kernel) rfl
theorem jw_488 : Cond.code ⟨"LevelingNetwork$Survey", "hasLine", "(I)Z"⟩ prog_11_method_7_code 2 (Option.some ClassFile.FieldType.boolean) ∈ jk_WS := jk_wt3 (i := 8) (by decide +kernel) rfl
theorem jw_489 : Cond.methodLink "LevelingNetwork$Changes" 64 ⟨"LevelingNetwork$Changes", "troubleWithExclusion", "(IZ)LLevelingNetwork$Trouble;"⟩ ∈ jk_WS := jk_wt3 (i := 9) (by decide +kernel) rfl
theorem jw_491 : Cond.instanceMethod ⟨"LevelingNetwork$Changes", "troubleWithExclusion", "(IZ)LLevelingNetwork$Trouble;"⟩ ∈ jk_WS := jk_wt3 (i := 11) (by decide +kernel) rfl
theorem jw_492 : Cond.code ⟨"LevelingNetwork$Changes", "troubleWithExclusion", "(IZ)LLevelingNetwork$Trouble;"⟩ prog_4_method_10_code 3 (Option.some (ClassFile.FieldType.object "LevelingNetwork$Trouble")) ∈ jk_WS := jk_wt3 (i := 12) (by decide +kernel) rfl
theorem jw_493 : Cond.methodLink "LevelingNetwork$Changes" 68 ⟨"LevelingNetwork$Changes", "troubleWithSharing", "(I)LLevelingNetwork$Trouble;"⟩ ∈ jk_WS := jk_wt3 (i := 13) (by decide +kernel) rfl
theorem jw_495 : Cond.instanceMethod ⟨"LevelingNetwork$Changes", "troubleWithSharing", "(I)LLevelingNetwork$Trouble;"⟩ ∈ jk_WS := jk_wt3 (i := 15) (by decide +kernel) rfl
theorem jw_496 : Cond.code ⟨"LevelingNetwork$Changes", "troubleWithSharing", "(I)LLevelingNetwork$Trouble;"⟩ prog_4_method_11_code 3 (Option.some (ClassFile.FieldType.object "LevelingNetwork$Trouble")) ∈ jk_WS := jk_wt3 (i := 16) (by decide +kernel) rfl
theorem jw_497 : Cond.methodLink "LevelingNetwork$Changes" 125 ⟨"LevelingNetwork$Forest", "find", "()V"⟩ ∈ jk_WS := jk_wt3 (i := 17) (by decide +kernel) rfl
theorem jw_498 : Cond.instanceMethod ⟨"LevelingNetwork$Forest", "find", "()V"⟩ ∈ jk_WS := jk_wt3 (i := 18) (by decide +kernel) rfl
theorem jw_499 : Cond.selects "LevelingNetwork$Forest" ⟨"LevelingNetwork$Forest", "find", "()V"⟩ ⟨"LevelingNetwork$Forest", "find", "()V"⟩ ∈ jk_WS := jk_wt3 (i := 19) (by decide +kernel) rfl
theorem jw_500 : Cond.code ⟨"LevelingNetwork$Forest", "find", "()V"⟩ prog_5_method_2_code 2 (Option.none : Option ClassFile.FieldType) ∈ jk_WS := jk_wt3 (i := 20) (by decide +kernel) rfl
theorem jw_501 : Cond.methodLink "LevelingNetwork$Forest" 29 ⟨"LevelingNetwork$Forest", "putInOrder", "()V"⟩ ∈ jk_WS := jk_wt3 (i := 21) (by decide +kernel) rfl
theorem jw_503 : Cond.instanceMethod ⟨"LevelingNetwork$Forest", "putInOrder", "()V"⟩ ∈ jk_WS := jk_wt3 (i := 23) (by decide +kernel) rfl
theorem jw_504 : Cond.code ⟨"LevelingNetwork$Forest", "putInOrder", "()V"⟩ prog_5_method_3_code 3 (Option.none : Option ClassFile.FieldType) ∈ jk_WS := jk_wt3 (i := 24) (by decide +kernel) rfl
theorem jw_505 : Cond.methodLink "LevelingNetwork$Forest" 45 ⟨"LevelingNetwork$Survey", "usable", "(I)Z"⟩ ∈ jk_WS := jk_wt3 (i := 25) (by decide +kernel) rfl
theorem jw_506 : Cond.instanceMethod ⟨"LevelingNetwork$Survey", "usable", "(I)Z"⟩ ∈ jk_WS := jk_wt3 (i := 26) (by decide +kernel) rfl
theorem jw_507 : Cond.selects "LevelingNetwork$Survey" ⟨"LevelingNetwork$Survey", "usable", "(I)Z"⟩ ⟨"LevelingNetwork$Survey", "usable", "(I)Z"⟩ ∈ jk_WS := jk_wt3 (i := 27) (by decide +kernel) rfl
theorem jw_508 : Cond.code ⟨"LevelingNetwork$Survey", "usable", "(I)Z"⟩ prog_11_method_13_code 2 (Option.some ClassFile.FieldType.boolean) ∈ jk_WS := jk_wt3 (i := 28) (by decide +kernel) rfl
theorem jw_509 : Cond.methodLink "LevelingNetwork$Survey" 84 ⟨"LevelingNetwork$Survey", "sumOfRuns", "(I)I"⟩ ∈ jk_WS := jk_wt3 (i := 29) (by decide +kernel) rfl
theorem jw_510 : Cond.instanceMethod ⟨"LevelingNetwork$Survey", "sumOfRuns", "(I)I"⟩ ∈ jk_WS := jk_wt3 (i := 30) (by decide +kernel) rfl
theorem jw_511 : Cond.selects "LevelingNetwork$Survey" ⟨"LevelingNetwork$Survey", "sumOfRuns", "(I)I"⟩ ⟨"LevelingNetwork$Survey", "sumOfRuns", "(I)I"⟩ ∈ jk_WS := jk_wt3 (i := 31) (by decide +kernel) rfl
theorem jw_512 : Cond.code ⟨"LevelingNetwork$Survey", "sumOfRuns", "(I)I"⟩ prog_11_method_10_code 2 (Option.some ClassFile.FieldType.int) ∈ jk_WS := jk_wt3 (i := 32) (by decide +kernel) rfl
theorem jw_513 : Cond.methodLink "LevelingNetwork$Survey" 87 ⟨"java/lang/Math", "abs", "(I)I"⟩ ∈ jk_WS := jk_wt3 (i := 33) (by decide +kernel) rfl
theorem jw_514 : Cond.static ⟨"java/lang/Math", "abs", "(I)I"⟩ ∈ jk_WS := jk_wt3 (i := 34) (by decide +kernel) rfl
theorem jw_515 : Cond.code ⟨"java/lang/Math", "abs", "(I)I"⟩ prog_30_method_59_code 1 (Option.some ClassFile.FieldType.int) ∈ jk_WS := jk_wt3 (i := 35) (by decide +kernel) rfl
theorem jw_516 : Cond.methodLinkNest "LevelingNetwork$Survey" 92 ⟨"LevelingNetwork", "toleranceFor", "(I)I"⟩ "LevelingNetwork" ∈ jk_WS := jk_wt3 (i := 36) (by decide +kernel) rfl
theorem jw_517 : Cond.static ⟨"LevelingNetwork", "toleranceFor", "(I)I"⟩ ∈ jk_WS := jk_wt3 (i := 37) (by decide +kernel) rfl
theorem jw_518 : Cond.code ⟨"LevelingNetwork", "toleranceFor", "(I)I"⟩ prog_1_method_79_code 3 (Option.some ClassFile.FieldType.int) ∈ jk_WS := jk_wt3 (i := 38) (by decide +kernel) rfl
theorem jw_519 : Cond.methodLink "LevelingNetwork$Forest" 36 ⟨"LevelingNetwork$Forest", "consider", "(I)V"⟩ ∈ jk_WS := jk_wt3 (i := 39) (by decide +kernel) rfl
theorem jw_521 : Cond.instanceMethod ⟨"LevelingNetwork$Forest", "consider", "(I)V"⟩ ∈ jk_WS := jk_wt3 (i := 41) (by decide +kernel) rfl
theorem jw_522 : Cond.code ⟨"LevelingNetwork$Forest", "consider", "(I)V"⟩ prog_5_method_4_code 7 (Option.none : Option ClassFile.FieldType) ∈ jk_WS := jk_wt3 (i := 42) (by decide +kernel) rfl
theorem jw_523 : Cond.methodLink "LevelingNetwork$Forest" 58 ⟨"java/lang/Math", "min", "(II)I"⟩ ∈ jk_WS := jk_wt3 (i := 43) (by decide +kernel) rfl
theorem jw_524 : Cond.static ⟨"java/lang/Math", "min", "(II)I"⟩ ∈ jk_WS := jk_wt3 (i := 44) (by decide +kernel) rfl
theorem jw_525 : Cond.code ⟨"java/lang/Math", "min", "(II)I"⟩ prog_30_method_69_code 2 (Option.some ClassFile.FieldType.int) ∈ jk_WS := jk_wt3 (i := 45) (by decide +kernel) rfl
theorem jw_526 : Cond.methodLink "LevelingNetwork$Forest" 64 ⟨"java/lang/Math", "max", "(II)I"⟩ ∈ jk_WS := jk_wt3 (i := 46) (by decide +kernel) rfl
theorem jw_527 : Cond.static ⟨"java/lang/Math", "max", "(II)I"⟩ ∈ jk_WS := jk_wt3 (i := 47) (by decide +kernel) rfl
theorem jw_528 : Cond.code ⟨"java/lang/Math", "max", "(II)I"⟩ prog_30_method_65_code 2 (Option.some ClassFile.FieldType.int) ∈ jk_WS := jk_wt3 (i := 48) (by decide +kernel) rfl
theorem jw_529 : Cond.methodLink "LevelingNetwork$Changes" 130 ⟨"LevelingNetwork$Forest", "closesLoop", "(I)Z"⟩ ∈ jk_WS := jk_wt3 (i := 49) (by decide +kernel) rfl
theorem jw_530 : Cond.instanceMethod ⟨"LevelingNetwork$Forest", "closesLoop", "(I)Z"⟩ ∈ jk_WS := jk_wt3 (i := 50) (by decide +kernel) rfl
theorem jw_531 : Cond.selects "LevelingNetwork$Forest" ⟨"LevelingNetwork$Forest", "closesLoop", "(I)Z"⟩ ⟨"LevelingNetwork$Forest", "closesLoop", "(I)Z"⟩ ∈ jk_WS := jk_wt3 (i := 51) (by decide +kernel) rfl
theorem jw_532 : Cond.code ⟨"LevelingNetwork$Forest", "closesLoop", "(I)Z"⟩ prog_5_method_10_code 2 (Option.some ClassFile.FieldType.boolean) ∈ jk_WS := jk_wt3 (i := 52) (by decide +kernel) rfl
theorem jw_533 : Cond.fieldLink "LevelingNetwork$Changes" 133 "LevelingNetwork$Trouble" "NO_LOOP" "LLevelingNetwork$Trouble;" ∈ jk_WS := jk_wt3 (i := 53) (by decide +kernel) rfl
theorem jw_535 : Cond.methodLink "LevelingNetwork$Changes" 136 ⟨"LevelingNetwork$Way", "traceLoop", "(I)V"⟩ ∈ jk_WS := jk_wt3 (i := 55) (by decide +kernel) rfl
theorem jw_536 : Cond.instanceMethod ⟨"LevelingNetwork$Way", "traceLoop", "(I)V"⟩ ∈ jk_WS := jk_wt3 (i := 56) (by decide +kernel) rfl
theorem jw_537 : Cond.selects "LevelingNetwork$Way" ⟨"LevelingNetwork$Way", "traceLoop", "(I)V"⟩ ⟨"LevelingNetwork$Way", "traceLoop", "(I)V"⟩ ∈ jk_WS := jk_wt3 (i := 57) (by decide +kernel) rfl
theorem jw_538 : Cond.code ⟨"LevelingNetwork$Way", "traceLoop", "(I)V"⟩ prog_13_method_3_code 2 (Option.none : Option ClassFile.FieldType) ∈ jk_WS := jk_wt3 (i := 58) (by decide +kernel) rfl
theorem jw_539 : Cond.methodLink "LevelingNetwork$Way" 39 ⟨"LevelingNetwork$Way", "add", "(II)I"⟩ ∈ jk_WS := jk_wt3 (i := 59) (by decide +kernel) rfl
theorem jw_541 : Cond.instanceMethod ⟨"LevelingNetwork$Way", "add", "(II)I"⟩ ∈ jk_WS := jk_wt3 (i := 61) (by decide +kernel) rfl
theorem jw_542 : Cond.code ⟨"LevelingNetwork$Way", "add", "(II)I"⟩ prog_13_method_6_code 4 (Option.some ClassFile.FieldType.int) ∈ jk_WS := jk_wt3 (i := 62) (by decide +kernel) rfl
theorem jw_543 : Cond.methodLink "LevelingNetwork$Way" 30 ⟨"LevelingNetwork$Way", "walk", "(LLevelingNetwork$Way;III)Z"⟩ ∈ jk_WS := jk_wt3 (i := 63) (by decide +kernel) rfl
theorem jw_544 : Cond.static ⟨"LevelingNetwork$Way", "walk", "(LLevelingNetwork$Way;III)Z"⟩ ∈ jk_WS := jk_wt3 (i := 64) (by decide +kernel) rfl
theorem jw_545 : Cond.code ⟨"LevelingNetwork$Way", "walk", "(LLevelingNetwork$Way;III)Z"⟩ prog_13_method_4_code 6 (Option.some ClassFile.FieldType.boolean) ∈ jk_WS := jk_wt3 (i := 65) (by decide +kernel) rfl
theorem jw_546 : Cond.methodLink "LevelingNetwork$Way" 48 ⟨"LevelingNetwork$Way", "leadsOn", "(II)Z"⟩ ∈ jk_WS := jk_wt3 (i := 66) (by decide +kernel) rfl
theorem jw_548 : Cond.instanceMethod ⟨"LevelingNetwork$Way", "leadsOn", "(II)Z"⟩ ∈ jk_WS := jk_wt3 (i := 68) (by decide +kernel) rfl
theorem jw_549 : Cond.code ⟨"LevelingNetwork$Way", "leadsOn", "(II)Z"⟩ prog_13_method_5_code 4 (Option.some ClassFile.FieldType.boolean) ∈ jk_WS := jk_wt3 (i := 69) (by decide +kernel) rfl
theorem jw_550 : Cond.methodLink "LevelingNetwork$Changes" 142 ⟨"LevelingNetwork$Way", "rise", "()I"⟩ ∈ jk_WS := jk_wt3 (i := 70) (by decide +kernel) rfl
theorem jw_551 : Cond.instanceMethod ⟨"LevelingNetwork$Way", "rise", "()I"⟩ ∈ jk_WS := jk_wt3 (i := 71) (by decide +kernel) rfl
theorem jw_552 : Cond.selects "LevelingNetwork$Way" ⟨"LevelingNetwork$Way", "rise", "()I"⟩ ⟨"LevelingNetwork$Way", "rise", "()I"⟩ ∈ jk_WS := jk_wt3 (i := 72) (by decide +kernel) rfl
theorem jw_553 : Cond.code ⟨"LevelingNetwork$Way", "rise", "()I"⟩ prog_13_method_7_code 3 (Option.some ClassFile.FieldType.int) ∈ jk_WS := jk_wt3 (i := 73) (by decide +kernel) rfl
theorem jw_554 : Cond.methodLink "LevelingNetwork$Way" 58 ⟨"LevelingNetwork$Survey", "corrected", "(I)I"⟩ ∈ jk_WS := jk_wt3 (i := 74) (by decide +kernel) rfl
theorem jw_555 : Cond.instanceMethod ⟨"LevelingNetwork$Survey", "corrected", "(I)I"⟩ ∈ jk_WS := jk_wt3 (i := 75) (by decide +kernel) rfl
theorem jw_556 : Cond.selects "LevelingNetwork$Survey" ⟨"LevelingNetwork$Survey", "corrected", "(I)I"⟩ ⟨"LevelingNetwork$Survey", "corrected", "(I)I"⟩ ∈ jk_WS := jk_wt3 (i := 76) (by decide +kernel) rfl
theorem jw_557 : Cond.code ⟨"LevelingNetwork$Survey", "corrected", "(I)I"⟩ prog_11_method_12_code 2 (Option.some ClassFile.FieldType.int) ∈ jk_WS := jk_wt3 (i := 77) (by decide +kernel) rfl
theorem jw_558 : Cond.methodLink "LevelingNetwork$Survey" 80 ⟨"LevelingNetwork$Survey", "levelled", "(I)I"⟩ ∈ jk_WS := jk_wt3 (i := 78) (by decide +kernel) rfl
theorem jw_559 : Cond.instanceMethod ⟨"LevelingNetwork$Survey", "levelled", "(I)I"⟩ ∈ jk_WS := jk_wt3 (i := 79) (by decide +kernel) rfl
theorem jw_560 : Cond.selects "LevelingNetwork$Survey" ⟨"LevelingNetwork$Survey", "levelled", "(I)I"⟩ ⟨"LevelingNetwork$Survey", "levelled", "(I)I"⟩ ∈ jk_WS := jk_wt3 (i := 80) (by decide +kernel) rfl
theorem jw_561 : Cond.code ⟨"LevelingNetwork$Survey", "levelled", "(I)I"⟩ prog_11_method_11_code 2 (Option.some ClassFile.FieldType.int) ∈ jk_WS := jk_wt3 (i := 81) (by decide +kernel) rfl
theorem jw_562 : Cond.methodLink "LevelingNetwork$Changes" 145 ⟨"java/lang/Math", "abs", "(I)I"⟩ ∈ jk_WS := jk_wt3 (i := 82) (by decide +kernel) rfl
theorem jw_563 : Cond.methodLink "LevelingNetwork$Changes" 151 ⟨"LevelingNetwork$Way", "totalLength", "()I"⟩ ∈ jk_WS := jk_wt3 (i := 83) (by decide +kernel) rfl
theorem jw_564 : Cond.instanceMethod ⟨"LevelingNetwork$Way", "totalLength", "()I"⟩ ∈ jk_WS := jk_wt3 (i := 84) (by decide +kernel) rfl
theorem jw_565 : Cond.selects "LevelingNetwork$Way" ⟨"LevelingNetwork$Way", "totalLength", "()I"⟩ ⟨"LevelingNetwork$Way", "totalLength", "()I"⟩ ∈ jk_WS := jk_wt3 (i := 85) (by decide +kernel) rfl
theorem jw_566 : Cond.code ⟨"LevelingNetwork$Way", "totalLength", "()I"⟩ prog_13_method_8_code 3 (Option.some ClassFile.FieldType.int) ∈ jk_WS := jk_wt3 (i := 86) (by decide +kernel) rfl
theorem jw_567 : Cond.methodLinkNest "LevelingNetwork$Changes" 154 ⟨"LevelingNetwork", "toleranceFor", "(I)I"⟩ "LevelingNetwork" ∈ jk_WS := jk_wt3 (i := 87) (by decide +kernel) rfl
theorem jw_568 : Cond.fieldLink "LevelingNetwork$Changes" 157 "LevelingNetwork$Trouble" "TOO_GREAT" "LLevelingNetwork$Trouble;" ∈ jk_WS := jk_wt3 (i := 88) (by decide +kernel) rfl
theorem jw_570 : Cond.methodLink "LevelingNetwork$Changes" 71 ⟨"LevelingNetwork$Changes", "troubleWithProfile", "(I)LLevelingNetwork$Trouble;"⟩ ∈ jk_WS := jk_wt3 (i := 90) (by decide +kernel) rfl
theorem jw_572 : Cond.instanceMethod ⟨"LevelingNetwork$Changes", "troubleWithProfile", "(I)LLevelingNetwork$Trouble;"⟩ ∈ jk_WS := jk_wt3 (i := 92) (by decide +kernel) rfl
theorem jw_573 : Cond.code ⟨"LevelingNetwork$Changes", "troubleWithProfile", "(I)LLevelingNetwork$Trouble;"⟩ prog_4_method_12_code 2 (Option.some (ClassFile.FieldType.object "LevelingNetwork$Trouble")) ∈ jk_WS := jk_wt3 (i := 93) (by decide +kernel) rfl
theorem jw_574 : Cond.methodLink "LevelingNetwork$Changes" 74 ⟨"LevelingNetwork$Changes", "troubleWithStation", "(III)LLevelingNetwork$Trouble;"⟩ ∈ jk_WS := jk_wt3 (i := 94) (by decide +kernel) rfl
theorem jw_576 : Cond.instanceMethod ⟨"LevelingNetwork$Changes", "troubleWithStation", "(III)LLevelingNetwork$Trouble;"⟩ ∈ jk_WS := jk_wt3 (i := 96) (by decide +kernel) rfl
theorem jw_577 : Cond.code ⟨"LevelingNetwork$Changes", "troubleWithStation", "(III)LLevelingNetwork$Trouble;"⟩ prog_4_method_13_code 5 (Option.some (ClassFile.FieldType.object "LevelingNetwork$Trouble")) ∈ jk_WS := jk_wt3 (i := 97) (by decide +kernel) rfl
theorem jw_578 : Cond.methodLink "LevelingNetwork$Changes" 163 ⟨"LevelingNetwork$Survey", "hasProfile", "(I)Z"⟩ ∈ jk_WS := jk_wt3 (i := 98) (by decide +kernel) rfl
theorem jw_579 : Cond.instanceMethod ⟨"LevelingNetwork$Survey", "hasProfile", "(I)Z"⟩ ∈ jk_WS := jk_wt3 (i := 99) (by decide +kernel) rfl
theorem jw_580 : Cond.selects "LevelingNetwork$Survey" ⟨"LevelingNetwork$Survey", "hasProfile", "(I)Z"⟩ ⟨"LevelingNetwork$Survey", "hasProfile", "(I)Z"⟩ ∈ jk_WS := jk_wt3 (i := 100) (by decide +kernel) rfl
theorem jw_581 : Cond.code ⟨"LevelingNetwork$Survey", "hasProfile", "(I)Z"⟩ prog_11_method_8_code 2 (Option.some ClassFile.FieldType.boolean) ∈ jk_WS := jk_wt3 (i := 101) (by decide +kernel) rfl
theorem jw_582 : Cond.methodLink "LevelingNetwork" 432 ⟨"LevelingNetwork", "raise", "(LLevelingNetwork$Trouble;)V"⟩ ∈ jk_WS := jk_wt3 (i := 102) (by decide +kernel) rfl
theorem jw_583 : Cond.static ⟨"LevelingNetwork", "raise", "(LLevelingNetwork$Trouble;)V"⟩ ∈ jk_WS := jk_wt3 (i := 103) (by decide +kernel) rfl
theorem jw_584 : Cond.code ⟨"LevelingNetwork", "raise", "(LLevelingNetwork$Trouble;)V"⟩ prog_1_method_66_code 1 (Option.none : Option ClassFile.FieldType) ∈ jk_WS := jk_wt3 (i := 104) (by decide +kernel) rfl
theorem jw_585 : Cond.fieldLink "LevelingNetwork" 439 "LevelingNetwork$1" "$SwitchMap$LevelingNetwork$Trouble" "[I" ∈ jk_WS := jk_wt3 (i := 105) (by decide +kernel) rfl
theorem jw_587 : Cond.methodLink "LevelingNetwork" 444 ⟨"LevelingNetwork$Trouble", "ordinal", "()I"⟩ ∈ jk_WS := jk_wt3 (i := 107) (by decide +kernel) rfl
theorem jw_588 : Cond.sameMethod "LevelingNetwork$Trouble" "java/lang/Enum" "ordinal" "()I" ∈ jk_WS := jk_wt3 (i := 108) (by decide +kernel) rfl
theorem jw_589 : Cond.selects "LevelingNetwork$Trouble" ⟨"LevelingNetwork$Trouble", "ordinal", "()I"⟩ ⟨"java/lang/Enum", "ordinal", "()I"⟩ ∈ jk_WS := jk_wt3 (i := 109) (by decide +kernel) rfl
theorem jw_590 : Cond.classLink "LevelingNetwork" 370 "java/lang/IndexOutOfBoundsException" ∈ jk_WS := jk_wt3 (i := 110) (by decide +kernel) rfl
theorem jw_591 : Cond.instantiable "java/lang/IndexOutOfBoundsException" 6 ∈ jk_WS := jk_wt3 (i := 111) (by decide +kernel) rfl
theorem jw_592 : Cond.castable "java/lang/IndexOutOfBoundsException" "java/lang/IndexOutOfBoundsException" ∈ jk_WS := jk_wt3 (i := 112) (by decide +kernel) rfl
theorem jw_593 : Cond.declares ⟨"java/lang/RuntimeException", "<init>", "()V"⟩ ∈ jk_WS := jk_wt3 (i := 113) (by decide +kernel) rfl
theorem jw_594 : Cond.declares ⟨"java/lang/RuntimeException", "<init>", "(Ljava/lang/String;)V"⟩ ∈ jk_WS := jk_wt3 (i := 114) (by decide +kernel) rfl
theorem jw_595 : Cond.declares ⟨"java/lang/Exception", "<init>", "()V"⟩ ∈ jk_WS := jk_wt3 (i := 115) (by decide +kernel) rfl
theorem jw_596 : Cond.declares ⟨"java/lang/Exception", "<init>", "(Ljava/lang/String;)V"⟩ ∈ jk_WS := jk_wt3 (i := 116) (by decide +kernel) rfl
theorem jw_597 : Cond.declares ⟨"java/lang/Throwable", "<init>", "()V"⟩ ∈ jk_WS := jk_wt3 (i := 117) (by decide +kernel) rfl
theorem jw_598 : Cond.declares ⟨"java/lang/Throwable", "<init>", "(Ljava/lang/String;)V"⟩ ∈ jk_WS := jk_wt3 (i := 118) (by decide +kernel) rfl
theorem jw_599 : Cond.selects "java/lang/IndexOutOfBoundsException" ⟨"java/lang/Throwable", "fillInStackTrace", "(I)Ljava/lang/Throwable;"⟩ ⟨"java/lang/Throwable", "fillInStackTrace", "(I)Ljava/lang/Throwable;"⟩ ∈ jk_WS := jk_wt3 (i := 119) (by decide +kernel) rfl
theorem jw_600 : Cond.selects "java/lang/IndexOutOfBoundsException" ⟨"java/lang/Throwable", "fillInStackTrace", "()Ljava/lang/Throwable;"⟩ ⟨"java/lang/Throwable", "fillInStackTrace", "()Ljava/lang/Throwable;"⟩ ∈ jk_WS := jk_wt3 (i := 120) (by decide +kernel) rfl
theorem jw_601 : Cond.lays "java/lang/IndexOutOfBoundsException" "java/lang/Throwable" "cause" "Ljava/lang/Throwable;" ∈ jk_WS := jk_wt3 (i := 121) (by decide +kernel) rfl
theorem jw_602 : Cond.lays "java/lang/Throwable" "java/lang/Throwable" "cause" "Ljava/lang/Throwable;" ∈ jk_WS := jk_wt3 (i := 122) (by decide +kernel) rfl
theorem jw_603 : Cond.lays "java/lang/IndexOutOfBoundsException" "java/lang/Throwable" "stackTrace" "[Ljava/lang/StackTraceElement;" ∈ jk_WS := jk_wt3 (i := 123) (by decide +kernel) rfl
theorem jw_604 : Cond.lays "java/lang/Throwable" "java/lang/Throwable" "stackTrace" "[Ljava/lang/StackTraceElement;" ∈ jk_WS := jk_wt3 (i := 124) (by decide +kernel) rfl
theorem jw_605 : Cond.lays "java/lang/IndexOutOfBoundsException" "java/lang/Throwable" "suppressedExceptions" "Ljava/util/List;" ∈ jk_WS := jk_wt3 (i := 125) (by decide +kernel) rfl
theorem jw_606 : Cond.lays "java/lang/Throwable" "java/lang/Throwable" "suppressedExceptions" "Ljava/util/List;" ∈ jk_WS := jk_wt3 (i := 126) (by decide +kernel) rfl
theorem jw_607 : Cond.lays "java/lang/IndexOutOfBoundsException" "java/lang/Throwable" "detailMessage" "Ljava/lang/String;" ∈ jk_WS := jk_wt3 (i := 127) (by decide +kernel) rfl
theorem jw_608 : Cond.lays "java/lang/Throwable" "java/lang/Throwable" "detailMessage" "Ljava/lang/String;" ∈ jk_WS := jk_wt3 (i := 128) (by decide +kernel) rfl
theorem jw_609 : Cond.lays "java/lang/IndexOutOfBoundsException" "java/lang/Throwable" "backtrace" "Ljava/lang/Object;" ∈ jk_WS := jk_wt3 (i := 129) (by decide +kernel) rfl
theorem jw_610 : Cond.lays "java/lang/Throwable" "java/lang/Throwable" "backtrace" "Ljava/lang/Object;" ∈ jk_WS := jk_wt3 (i := 130) (by decide +kernel) rfl
theorem jw_611 : Cond.fieldLink "java/lang/Throwable" 198 "java/lang/Throwable" "backtrace" "Ljava/lang/Object;" ∈ jk_WS := jk_wt3 (i := 131) (by decide +kernel) rfl
theorem jw_612 : Cond.superclass "java/lang/Throwable" "java/lang/Object" ∈ jk_WS := jk_wt3 (i := 132) (by decide +kernel) rfl
theorem jw_613 : Cond.instanceMethod ⟨"java/lang/Throwable", "<init>", "()V"⟩ ∈ jk_WS := jk_wt3 (i := 133) (by decide +kernel) rfl
theorem jw_614 : Cond.code ⟨"java/lang/Throwable", "<init>", "()V"⟩ prog_39_method_1_code 1 (Option.none : Option ClassFile.FieldType) ∈ jk_WS := jk_wt3 (i := 134) (by decide +kernel) rfl
theorem jw_615 : Cond.methodLink "java/lang/Throwable" 1 ⟨"java/lang/Object", "<init>", "()V"⟩ ∈ jk_WS := jk_wt3 (i := 135) (by decide +kernel) rfl
theorem jw_616 : Cond.fieldLink "java/lang/Throwable" 13 "java/lang/Throwable" "UNASSIGNED_STACK" "[Ljava/lang/StackTraceElement;" ∈ jk_WS := jk_wt3 (i := 136) (by decide +kernel) rfl
theorem jw_618 : Cond.fieldLink "java/lang/Throwable" 20 "java/lang/Throwable" "SUPPRESSED_SENTINEL" "Ljava/util/List;" ∈ jk_WS := jk_wt3 (i := 138) (by decide +kernel) rfl
theorem jw_620 : Cond.methodLink "java/lang/Throwable" 27 ⟨"java/lang/Throwable", "fillInStackTrace", "()Ljava/lang/Throwable;"⟩ ∈ jk_WS := jk_wt3 (i := 140) (by decide +kernel) rfl
theorem jw_621 : Cond.instanceMethod ⟨"java/lang/Throwable", "fillInStackTrace", "()Ljava/lang/Throwable;"⟩ ∈ jk_WS := jk_wt3 (i := 141) (by decide +kernel) rfl
theorem jw_622 : Cond.sameMethod "java/lang/Throwable" "java/lang/Throwable" "fillInStackTrace" "()Ljava/lang/Throwable;" ∈ jk_WS := jk_wt3 (i := 142) (by decide +kernel) rfl
theorem jw_623 : Cond.selects "java/lang/ArithmeticException" ⟨"java/lang/Throwable", "fillInStackTrace", "()Ljava/lang/Throwable;"⟩ ⟨"java/lang/Throwable", "fillInStackTrace", "()Ljava/lang/Throwable;"⟩ ∈ jk_WS := jk_wt3 (i := 143) (by decide +kernel) rfl
theorem jw_624 : Cond.selects "java/lang/ArrayIndexOutOfBoundsException" ⟨"java/lang/Throwable", "fillInStackTrace", "()Ljava/lang/Throwable;"⟩ ⟨"java/lang/Throwable", "fillInStackTrace", "()Ljava/lang/Throwable;"⟩ ∈ jk_WS := jk_wt3 (i := 144) (by decide +kernel) rfl
theorem jw_625 : Cond.selects "java/lang/IllegalArgumentException" ⟨"java/lang/Throwable", "fillInStackTrace", "()Ljava/lang/Throwable;"⟩ ⟨"java/lang/Throwable", "fillInStackTrace", "()Ljava/lang/Throwable;"⟩ ∈ jk_WS := jk_wt3 (i := 145) (by decide +kernel) rfl
theorem jw_626 : Cond.selects "java/lang/IllegalStateException" ⟨"java/lang/Throwable", "fillInStackTrace", "()Ljava/lang/Throwable;"⟩ ⟨"java/lang/Throwable", "fillInStackTrace", "()Ljava/lang/Throwable;"⟩ ∈ jk_WS := jk_wt3 (i := 146) (by decide +kernel) rfl
theorem jw_627 : Cond.selects "java/lang/StringIndexOutOfBoundsException" ⟨"java/lang/Throwable", "fillInStackTrace", "()Ljava/lang/Throwable;"⟩ ⟨"java/lang/Throwable", "fillInStackTrace", "()Ljava/lang/Throwable;"⟩ ∈ jk_WS := jk_wt3 (i := 147) (by decide +kernel) rfl
theorem jw_628 : Cond.selects "java/lang/UnsupportedOperationException" ⟨"java/lang/Throwable", "fillInStackTrace", "()Ljava/lang/Throwable;"⟩ ⟨"java/lang/Throwable", "fillInStackTrace", "()Ljava/lang/Throwable;"⟩ ∈ jk_WS := jk_wt3 (i := 148) (by decide +kernel) rfl
theorem jw_629 : Cond.selects "java/util/NoSuchElementException" ⟨"java/lang/Throwable", "fillInStackTrace", "()Ljava/lang/Throwable;"⟩ ⟨"java/lang/Throwable", "fillInStackTrace", "()Ljava/lang/Throwable;"⟩ ∈ jk_WS := jk_wt3 (i := 149) (by decide +kernel) rfl
theorem jw_630 : Cond.codeSync ⟨"java/lang/Throwable", "fillInStackTrace", "()Ljava/lang/Throwable;"⟩ prog_39_method_18_code 1 (Option.some (ClassFile.FieldType.object "java/lang/Throwable")) ∈ jk_WS := jk_wt3 (i := 150) (by decide +kernel) rfl
theorem jw_631 : Cond.methodLink "java/lang/Throwable" 202 ⟨"java/lang/Throwable", "fillInStackTrace", "(I)Ljava/lang/Throwable;"⟩ ∈ jk_WS := jk_wt3 (i := 151) (by decide +kernel) rfl
theorem jw_633 : Cond.instanceMethod ⟨"java/lang/Throwable", "fillInStackTrace", "(I)Ljava/lang/Throwable;"⟩ ∈ jk_WS := jk_wt3 (i := 153) (by decide +kernel) rfl
theorem jw_634 : Cond.instantiable "java/lang/Throwable" 6 ∈ jk_WS := jk_wt3 (i := 154) (by decide +kernel) rfl
theorem jw_635 : Cond.native ⟨"java/lang/Throwable", "fillInStackTrace", "(I)Ljava/lang/Throwable;"⟩ ∈ jk_WS := jk_wt3 (i := 155) (by decide +kernel) rfl
theorem jw_637 : Cond.methodLink "LevelingNetwork" 374 ⟨"java/lang/IndexOutOfBoundsException", "<init>", "(Ljava/lang/String;)V"⟩ ∈ jk_WS := jk_wt3 (i := 157) (by decide +kernel) rfl
theorem jw_638 : Cond.instanceMethod ⟨"java/lang/IndexOutOfBoundsException", "<init>", "(Ljava/lang/String;)V"⟩ ∈ jk_WS := jk_wt3 (i := 158) (by decide +kernel) rfl
theorem jw_639 : Cond.code ⟨"java/lang/IndexOutOfBoundsException", "<init>", "(Ljava/lang/String;)V"⟩ prog_28_method_2_code 2 (Option.none : Option ClassFile.FieldType) ∈ jk_WS := jk_wt3 (i := 159) (by decide +kernel) rfl
theorem jw_640 : Cond.methodLink "java/lang/IndexOutOfBoundsException" 7 ⟨"java/lang/RuntimeException", "<init>", "(Ljava/lang/String;)V"⟩ ∈ jk_WS := jk_wt3 (i := 160) (by decide +kernel) rfl
theorem jw_641 : Cond.instanceMethod ⟨"java/lang/RuntimeException", "<init>", "(Ljava/lang/String;)V"⟩ ∈ jk_WS := jk_wt3 (i := 161) (by decide +kernel) rfl
theorem jw_642 : Cond.code ⟨"java/lang/RuntimeException", "<init>", "(Ljava/lang/String;)V"⟩ prog_32_method_2_code 2 (Option.none : Option ClassFile.FieldType) ∈ jk_WS := jk_wt3 (i := 162) (by decide +kernel) rfl
theorem jw_643 : Cond.methodLink "java/lang/RuntimeException" 7 ⟨"java/lang/Exception", "<init>", "(Ljava/lang/String;)V"⟩ ∈ jk_WS := jk_wt3 (i := 163) (by decide +kernel) rfl
theorem jw_644 : Cond.instanceMethod ⟨"java/lang/Exception", "<init>", "(Ljava/lang/String;)V"⟩ ∈ jk_WS := jk_wt3 (i := 164) (by decide +kernel) rfl
theorem jw_645 : Cond.code ⟨"java/lang/Exception", "<init>", "(Ljava/lang/String;)V"⟩ prog_25_method_2_code 2 (Option.none : Option ClassFile.FieldType) ∈ jk_WS := jk_wt3 (i := 165) (by decide +kernel) rfl
theorem jw_646 : Cond.methodLink "java/lang/Exception" 7 ⟨"java/lang/Throwable", "<init>", "(Ljava/lang/String;)V"⟩ ∈ jk_WS := jk_wt3 (i := 166) (by decide +kernel) rfl
