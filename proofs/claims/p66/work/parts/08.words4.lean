theorem jw_1271 : Cond.static ⟨"java/lang/String", "checkBoundsBeginEnd", "(III)V"⟩ ∈ jk_WS := jk_wt6 (i := 71) (by decide +kernel) rfl
theorem jw_1272 : Cond.code ⟨"java/lang/String", "checkBoundsBeginEnd", "(III)V"⟩ prog_33_method_158_code 3 (Option.none : Option ClassFile.FieldType) ∈ jk_WS := jk_wt6 (i := 72) (by decide +kernel) rfl
theorem jw_1273 : Cond.fieldLink "java/lang/String" 1053 "jdk/internal/util/Preconditions" "SIOOBE_FORMATTER" "Ljava/util/function/BiFunction;" ∈ jk_WS := jk_wt6 (i := 73) (by decide +kernel) rfl
theorem jw_1275 : Cond.methodLink "java/lang/String" 1062 ⟨"jdk/internal/util/Preconditions", "checkFromToIndex", "(IIILjava/util/function/BiFunction;)I"⟩ ∈ jk_WS := jk_wt6 (i := 75) (by decide +kernel) rfl
theorem jw_1276 : Cond.static ⟨"jdk/internal/util/Preconditions", "checkFromToIndex", "(IIILjava/util/function/BiFunction;)I"⟩ ∈ jk_WS := jk_wt6 (i := 76) (by decide +kernel) rfl
theorem jw_1277 : Cond.code ⟨"jdk/internal/util/Preconditions", "checkFromToIndex", "(IIILjava/util/function/BiFunction;)I"⟩ prog_46_method_12_code 4 (Option.some ClassFile.FieldType.int) ∈ jk_WS := jk_wt6 (i := 77) (by decide +kernel) rfl
theorem jw_1278 : Cond.methodLink "java/lang/StringUTF16" 111 ⟨"java/lang/StringUTF16", "putChar", "([BII)V"⟩ ∈ jk_WS := jk_wt6 (i := 78) (by decide +kernel) rfl
theorem jw_1279 : Cond.static ⟨"java/lang/StringUTF16", "putChar", "([BII)V"⟩ ∈ jk_WS := jk_wt6 (i := 79) (by decide +kernel) rfl
theorem jw_1280 : Cond.code ⟨"java/lang/StringUTF16", "putChar", "([BII)V"⟩ prog_37_method_4_code 3 (Option.none : Option ClassFile.FieldType) ∈ jk_WS := jk_wt6 (i := 80) (by decide +kernel) rfl
theorem jw_1281 : Cond.fieldLink "java/lang/StringUTF16" 44 "java/lang/StringUTF16" "$assertionsDisabled" "Z" ∈ jk_WS := jk_wt6 (i := 81) (by decide +kernel) rfl
theorem jw_1283 : Cond.fieldLink "java/lang/StringUTF16" 59 "java/lang/StringUTF16" "HI_BYTE_SHIFT" "I" ∈ jk_WS := jk_wt6 (i := 83) (by decide +kernel) rfl
theorem jw_1285 : Cond.fieldLink "java/lang/StringUTF16" 63 "java/lang/StringUTF16" "LO_BYTE_SHIFT" "I" ∈ jk_WS := jk_wt6 (i := 85) (by decide +kernel) rfl
theorem jw_1287 : Cond.methodLink "java/lang/AbstractStringBuilder" 32 ⟨"java/lang/String", "length", "()I"⟩ ∈ jk_WS := jk_wt6 (i := 87) (by decide +kernel) rfl
theorem jw_1288 : Cond.instanceMethod ⟨"java/lang/String", "length", "()I"⟩ ∈ jk_WS := jk_wt6 (i := 88) (by decide +kernel) rfl
theorem jw_1289 : Cond.selects "java/lang/String" ⟨"java/lang/String", "length", "()I"⟩ ⟨"java/lang/String", "length", "()I"⟩ ∈ jk_WS := jk_wt6 (i := 89) (by decide +kernel) rfl
theorem jw_1290 : Cond.code ⟨"java/lang/String", "length", "()I"⟩ prog_33_method_54_code 1 (Option.some ClassFile.FieldType.int) ∈ jk_WS := jk_wt6 (i := 90) (by decide +kernel) rfl
theorem jw_1291 : Cond.methodLink "java/lang/String" 335 ⟨"java/lang/String", "coder", "()B"⟩ ∈ jk_WS := jk_wt6 (i := 91) (by decide +kernel) rfl
theorem jw_1292 : Cond.instanceMethod ⟨"java/lang/String", "coder", "()B"⟩ ∈ jk_WS := jk_wt6 (i := 92) (by decide +kernel) rfl
theorem jw_1293 : Cond.selects "java/lang/String" ⟨"java/lang/String", "coder", "()B"⟩ ⟨"java/lang/String", "coder", "()B"⟩ ∈ jk_WS := jk_wt6 (i := 93) (by decide +kernel) rfl
theorem jw_1294 : Cond.code ⟨"java/lang/String", "coder", "()B"⟩ prog_33_method_152_code 1 (Option.some ClassFile.FieldType.byte) ∈ jk_WS := jk_wt6 (i := 94) (by decide +kernel) rfl
theorem jw_1295 : Cond.fieldLink "java/lang/String" 38 "java/lang/String" "COMPACT_STRINGS" "Z" ∈ jk_WS := jk_wt6 (i := 95) (by decide +kernel) rfl
theorem jw_1296 : Cond.methodLink "java/lang/AbstractStringBuilder" 208 ⟨"java/lang/AbstractStringBuilder", "putStringAt", "(ILjava/lang/String;)V"⟩ ∈ jk_WS := jk_wt6 (i := 96) (by decide +kernel) rfl
theorem jw_1298 : Cond.instanceMethod ⟨"java/lang/AbstractStringBuilder", "putStringAt", "(ILjava/lang/String;)V"⟩ ∈ jk_WS := jk_wt6 (i := 98) (by decide +kernel) rfl
theorem jw_1299 : Cond.code ⟨"java/lang/AbstractStringBuilder", "putStringAt", "(ILjava/lang/String;)V"⟩ prog_17_method_73_code 3 (Option.none : Option ClassFile.FieldType) ∈ jk_WS := jk_wt6 (i := 99) (by decide +kernel) rfl
theorem jw_1300 : Cond.methodLink "java/lang/AbstractStringBuilder" 397 ⟨"java/lang/AbstractStringBuilder", "inflateIfNeededFor", "(Ljava/lang/String;)V"⟩ ∈ jk_WS := jk_wt6 (i := 100) (by decide +kernel) rfl
theorem jw_1302 : Cond.instanceMethod ⟨"java/lang/AbstractStringBuilder", "inflateIfNeededFor", "(Ljava/lang/String;)V"⟩ ∈ jk_WS := jk_wt6 (i := 102) (by decide +kernel) rfl
theorem jw_1303 : Cond.code ⟨"java/lang/AbstractStringBuilder", "inflateIfNeededFor", "(Ljava/lang/String;)V"⟩ prog_17_method_71_code 2 (Option.none : Option ClassFile.FieldType) ∈ jk_WS := jk_wt6 (i := 103) (by decide +kernel) rfl
theorem jw_1304 : Cond.methodLink "java/lang/AbstractStringBuilder" 40 ⟨"java/lang/String", "coder", "()B"⟩ ∈ jk_WS := jk_wt6 (i := 104) (by decide +kernel) rfl
theorem jw_1305 : Cond.methodLink "java/lang/AbstractStringBuilder" 195 ⟨"java/lang/AbstractStringBuilder", "inflate", "()V"⟩ ∈ jk_WS := jk_wt6 (i := 105) (by decide +kernel) rfl
theorem jw_1307 : Cond.instanceMethod ⟨"java/lang/AbstractStringBuilder", "inflate", "()V"⟩ ∈ jk_WS := jk_wt6 (i := 107) (by decide +kernel) rfl
theorem jw_1308 : Cond.code ⟨"java/lang/AbstractStringBuilder", "inflate", "()V"⟩ prog_17_method_11_code 2 (Option.none : Option ClassFile.FieldType) ∈ jk_WS := jk_wt6 (i := 108) (by decide +kernel) rfl
theorem jw_1309 : Cond.methodLink "java/lang/AbstractStringBuilder" 125 ⟨"java/lang/StringLatin1", "inflate", "([BI[BII)V"⟩ ∈ jk_WS := jk_wt6 (i := 109) (by decide +kernel) rfl
theorem jw_1310 : Cond.static ⟨"java/lang/StringLatin1", "inflate", "([BI[BII)V"⟩ ∈ jk_WS := jk_wt6 (i := 110) (by decide +kernel) rfl
theorem jw_1311 : Cond.code ⟨"java/lang/StringLatin1", "inflate", "([BI[BII)V"⟩ prog_36_method_50_code 5 (Option.none : Option ClassFile.FieldType) ∈ jk_WS := jk_wt6 (i := 111) (by decide +kernel) rfl
theorem jw_1312 : Cond.methodLink "java/lang/StringLatin1" 240 ⟨"java/lang/StringUTF16", "inflate", "([BI[BII)V"⟩ ∈ jk_WS := jk_wt6 (i := 112) (by decide +kernel) rfl
theorem jw_1313 : Cond.static ⟨"java/lang/StringUTF16", "inflate", "([BI[BII)V"⟩ ∈ jk_WS := jk_wt6 (i := 113) (by decide +kernel) rfl
theorem jw_1314 : Cond.code ⟨"java/lang/StringUTF16", "inflate", "([BI[BII)V"⟩ prog_37_method_86_code 6 (Option.none : Option ClassFile.FieldType) ∈ jk_WS := jk_wt6 (i := 114) (by decide +kernel) rfl
theorem jw_1315 : Cond.methodLink "java/lang/StringUTF16" 173 ⟨"java/lang/StringUTF16", "checkBoundsOffCount", "(II[B)V"⟩ ∈ jk_WS := jk_wt6 (i := 115) (by decide +kernel) rfl
theorem jw_1316 : Cond.static ⟨"java/lang/StringUTF16", "checkBoundsOffCount", "(II[B)V"⟩ ∈ jk_WS := jk_wt6 (i := 116) (by decide +kernel) rfl
theorem jw_1317 : Cond.code ⟨"java/lang/StringUTF16", "checkBoundsOffCount", "(II[B)V"⟩ prog_37_method_94_code 3 (Option.none : Option ClassFile.FieldType) ∈ jk_WS := jk_wt6 (i := 117) (by decide +kernel) rfl
theorem jw_1318 : Cond.methodLink "java/lang/StringUTF16" 419 ⟨"java/lang/String", "checkBoundsOffCount", "(III)I"⟩ ∈ jk_WS := jk_wt6 (i := 118) (by decide +kernel) rfl
theorem jw_1319 : Cond.static ⟨"java/lang/String", "checkBoundsOffCount", "(III)I"⟩ ∈ jk_WS := jk_wt6 (i := 119) (by decide +kernel) rfl
theorem jw_1320 : Cond.code ⟨"java/lang/String", "checkBoundsOffCount", "(III)I"⟩ prog_33_method_157_code 3 (Option.some ClassFile.FieldType.int) ∈ jk_WS := jk_wt6 (i := 120) (by decide +kernel) rfl
theorem jw_1321 : Cond.methodLink "java/lang/String" 1065 ⟨"jdk/internal/util/Preconditions", "checkFromIndexSize", "(IIILjava/util/function/BiFunction;)I"⟩ ∈ jk_WS := jk_wt6 (i := 121) (by decide +kernel) rfl
theorem jw_1322 : Cond.static ⟨"jdk/internal/util/Preconditions", "checkFromIndexSize", "(IIILjava/util/function/BiFunction;)I"⟩ ∈ jk_WS := jk_wt6 (i := 122) (by decide +kernel) rfl
theorem jw_1323 : Cond.code ⟨"jdk/internal/util/Preconditions", "checkFromIndexSize", "(IIILjava/util/function/BiFunction;)I"⟩ prog_46_method_13_code 4 (Option.some ClassFile.FieldType.int) ∈ jk_WS := jk_wt6 (i := 123) (by decide +kernel) rfl
theorem jw_1324 : Cond.methodLink "java/lang/AbstractStringBuilder" 399 ⟨"java/lang/String", "getBytes", "([BIB)V"⟩ ∈ jk_WS := jk_wt6 (i := 124) (by decide +kernel) rfl
theorem jw_1325 : Cond.instanceMethod ⟨"java/lang/String", "getBytes", "([BIB)V"⟩ ∈ jk_WS := jk_wt6 (i := 125) (by decide +kernel) rfl
theorem jw_1326 : Cond.selects "java/lang/String" ⟨"java/lang/String", "getBytes", "([BIB)V"⟩ ⟨"java/lang/String", "getBytes", "([BIB)V"⟩ ∈ jk_WS := jk_wt6 (i := 126) (by decide +kernel) rfl
theorem jw_1327 : Cond.code ⟨"java/lang/String", "getBytes", "([BIB)V"⟩ prog_33_method_147_code 4 (Option.none : Option ClassFile.FieldType) ∈ jk_WS := jk_wt6 (i := 127) (by decide +kernel) rfl
theorem jw_1328 : Cond.methodLink "java/lang/String" 212 ⟨"java/lang/System", "arraycopy", "(Ljava/lang/Object;ILjava/lang/Object;II)V"⟩ ∈ jk_WS := jk_wt6 (i := 128) (by decide +kernel) rfl
theorem jw_1329 : Cond.methodLink "java/lang/String" 106 ⟨"java/lang/StringLatin1", "inflate", "([BI[BII)V"⟩ ∈ jk_WS := jk_wt6 (i := 129) (by decide +kernel) rfl
theorem jw_1330 : Cond.methodLink "java/lang/StringIndexOutOfBoundsException" 19 ⟨"java/lang/StringBuilder", "append", "(I)Ljava/lang/StringBuilder;"⟩ ∈ jk_WS := jk_wt6 (i := 130) (by decide +kernel) rfl
theorem jw_1331 : Cond.instanceMethod ⟨"java/lang/StringBuilder", "append", "(I)Ljava/lang/StringBuilder;"⟩ ∈ jk_WS := jk_wt6 (i := 131) (by decide +kernel) rfl
theorem jw_1332 : Cond.selects "java/lang/StringBuilder" ⟨"java/lang/StringBuilder", "append", "(I)Ljava/lang/StringBuilder;"⟩ ⟨"java/lang/StringBuilder", "append", "(I)Ljava/lang/StringBuilder;"⟩ ∈ jk_WS := jk_wt6 (i := 132) (by decide +kernel) rfl
theorem jw_1333 : Cond.code ⟨"java/lang/StringBuilder", "append", "(I)Ljava/lang/StringBuilder;"⟩ prog_34_method_15_code 2 (Option.some (ClassFile.FieldType.object "java/lang/StringBuilder")) ∈ jk_WS := jk_wt6 (i := 133) (by decide +kernel) rfl
theorem jw_1334 : Cond.methodLink "java/lang/StringBuilder" 53 ⟨"java/lang/AbstractStringBuilder", "append", "(I)Ljava/lang/AbstractStringBuilder;"⟩ ∈ jk_WS := jk_wt6 (i := 134) (by decide +kernel) rfl
theorem jw_1335 : Cond.instanceMethod ⟨"java/lang/AbstractStringBuilder", "append", "(I)Ljava/lang/AbstractStringBuilder;"⟩ ∈ jk_WS := jk_wt6 (i := 135) (by decide +kernel) rfl
theorem jw_1336 : Cond.code ⟨"java/lang/AbstractStringBuilder", "append", "(I)Ljava/lang/AbstractStringBuilder;"⟩ prog_17_method_32_code 4 (Option.some (ClassFile.FieldType.object "java/lang/AbstractStringBuilder")) ∈ jk_WS := jk_wt6 (i := 136) (by decide +kernel) rfl
theorem jw_1337 : Cond.methodLink "java/lang/AbstractStringBuilder" 245 ⟨"java/lang/Integer", "stringSize", "(I)I"⟩ ∈ jk_WS := jk_wt6 (i := 137) (by decide +kernel) rfl
theorem jw_1338 : Cond.static ⟨"java/lang/Integer", "stringSize", "(I)I"⟩ ∈ jk_WS := jk_wt6 (i := 138) (by decide +kernel) rfl
theorem jw_1339 : Cond.code ⟨"java/lang/Integer", "stringSize", "(I)I"⟩ prog_29_method_13_code 4 (Option.some ClassFile.FieldType.int) ∈ jk_WS := jk_wt6 (i := 139) (by decide +kernel) rfl
theorem jw_1340 : Cond.methodLink "java/lang/AbstractStringBuilder" 248 ⟨"java/lang/Integer", "getChars", "(II[B)I"⟩ ∈ jk_WS := jk_wt6 (i := 140) (by decide +kernel) rfl
theorem jw_1341 : Cond.static ⟨"java/lang/Integer", "getChars", "(II[B)I"⟩ ∈ jk_WS := jk_wt6 (i := 141) (by decide +kernel) rfl
theorem jw_1342 : Cond.code ⟨"java/lang/Integer", "getChars", "(II[B)I"⟩ prog_29_method_12_code 7 (Option.some ClassFile.FieldType.int) ∈ jk_WS := jk_wt6 (i := 142) (by decide +kernel) rfl
theorem jw_1343 : Cond.fieldLink "java/lang/Integer" 83 "java/lang/Integer" "DigitOnes" "[B" ∈ jk_WS := jk_wt6 (i := 143) (by decide +kernel) rfl
theorem jw_1345 : Cond.fieldLink "java/lang/Integer" 87 "java/lang/Integer" "DigitTens" "[B" ∈ jk_WS := jk_wt6 (i := 145) (by decide +kernel) rfl
theorem jw_1347 : Cond.methodLink "java/lang/AbstractStringBuilder" 251 ⟨"java/lang/StringUTF16", "getChars", "(III[B)I"⟩ ∈ jk_WS := jk_wt6 (i := 147) (by decide +kernel) rfl
theorem jw_1348 : Cond.static ⟨"java/lang/StringUTF16", "getChars", "(III[B)I"⟩ ∈ jk_WS := jk_wt6 (i := 148) (by decide +kernel) rfl
theorem jw_1349 : Cond.code ⟨"java/lang/StringUTF16", "getChars", "(III[B)I"⟩ prog_37_method_77_code 5 (Option.some ClassFile.FieldType.int) ∈ jk_WS := jk_wt6 (i := 149) (by decide +kernel) rfl
theorem jw_1350 : Cond.methodLink "java/lang/StringUTF16" 393 ⟨"java/lang/StringUTF16", "getChars", "(II[B)I"⟩ ∈ jk_WS := jk_wt6 (i := 150) (by decide +kernel) rfl
theorem jw_1351 : Cond.static ⟨"java/lang/StringUTF16", "getChars", "(II[B)I"⟩ ∈ jk_WS := jk_wt6 (i := 151) (by decide +kernel) rfl
theorem jw_1352 : Cond.code ⟨"java/lang/StringUTF16", "getChars", "(II[B)I"⟩ prog_37_method_89_code 7 (Option.some ClassFile.FieldType.int) ∈ jk_WS := jk_wt6 (i := 152) (by decide +kernel) rfl
theorem jw_1353 : Cond.fieldLink "java/lang/StringUTF16" 403 "java/lang/Integer" "DigitOnes" "[B" ∈ jk_WS := jk_wt6 (i := 153) (by decide +kernel) rfl
theorem jw_1354 : Cond.fieldLink "java/lang/StringUTF16" 407 "java/lang/Integer" "DigitTens" "[B" ∈ jk_WS := jk_wt6 (i := 154) (by decide +kernel) rfl
theorem jw_1355 : Cond.methodLink "java/lang/StringIndexOutOfBoundsException" 22 ⟨"java/lang/StringBuilder", "toString", "()Ljava/lang/String;"⟩ ∈ jk_WS := jk_wt6 (i := 155) (by decide +kernel) rfl
theorem jw_1356 : Cond.instanceMethod ⟨"java/lang/StringBuilder", "toString", "()Ljava/lang/String;"⟩ ∈ jk_WS := jk_wt6 (i := 156) (by decide +kernel) rfl
theorem jw_1357 : Cond.selects "java/lang/StringBuilder" ⟨"java/lang/StringBuilder", "toString", "()Ljava/lang/String;"⟩ ⟨"java/lang/StringBuilder", "toString", "()Ljava/lang/String;"⟩ ∈ jk_WS := jk_wt6 (i := 157) (by decide +kernel) rfl
theorem jw_1358 : Cond.code ⟨"java/lang/StringBuilder", "toString", "()Ljava/lang/String;"⟩ prog_34_method_42_code 1 (Option.some (ClassFile.FieldType.object "java/lang/String")) ∈ jk_WS := jk_wt6 (i := 158) (by decide +kernel) rfl
theorem jw_1359 : Cond.classLink "java/lang/StringBuilder" 18 "java/lang/String" ∈ jk_WS := jk_wt6 (i := 159) (by decide +kernel) rfl
theorem jw_1360 : Cond.instantiable "java/lang/String" 4 ∈ jk_WS := jk_wt6 (i := 160) (by decide +kernel) rfl
theorem jw_1361 : Cond.methodLink "java/lang/StringBuilder" 137 ⟨"java/lang/String", "<init>", "(Ljava/lang/StringBuilder;)V"⟩ ∈ jk_WS := jk_wt6 (i := 161) (by decide +kernel) rfl
theorem jw_1362 : Cond.instanceMethod ⟨"java/lang/String", "<init>", "(Ljava/lang/StringBuilder;)V"⟩ ∈ jk_WS := jk_wt6 (i := 162) (by decide +kernel) rfl
theorem jw_1363 : Cond.code ⟨"java/lang/String", "<init>", "(Ljava/lang/StringBuilder;)V"⟩ prog_33_method_53_code 2 (Option.none : Option ClassFile.FieldType) ∈ jk_WS := jk_wt6 (i := 163) (by decide +kernel) rfl
theorem jw_1364 : Cond.methodLink "java/lang/String" 489 ⟨"java/lang/String", "<init>", "(Ljava/lang/AbstractStringBuilder;Ljava/lang/Void;)V"⟩ ∈ jk_WS := jk_wt6 (i := 164) (by decide +kernel) rfl
theorem jw_1365 : Cond.instanceMethod ⟨"java/lang/String", "<init>", "(Ljava/lang/AbstractStringBuilder;Ljava/lang/Void;)V"⟩ ∈ jk_WS := jk_wt6 (i := 165) (by decide +kernel) rfl
theorem jw_1366 : Cond.code ⟨"java/lang/String", "<init>", "(Ljava/lang/AbstractStringBuilder;Ljava/lang/Void;)V"⟩ prog_33_method_150_code 5 (Option.none : Option ClassFile.FieldType) ∈ jk_WS := jk_wt6 (i := 166) (by decide +kernel) rfl
theorem jw_1367 : Cond.methodLink "java/lang/String" 1 ⟨"java/lang/Object", "<init>", "()V"⟩ ∈ jk_WS := jk_wt6 (i := 167) (by decide +kernel) rfl
theorem jw_1368 : Cond.methodLink "java/lang/String" 552 ⟨"java/lang/AbstractStringBuilder", "getValue", "()[B"⟩ ∈ jk_WS := jk_wt6 (i := 168) (by decide +kernel) rfl
theorem jw_1369 : Cond.instanceMethod ⟨"java/lang/AbstractStringBuilder", "getValue", "()[B"⟩ ∈ jk_WS := jk_wt6 (i := 169) (by decide +kernel) rfl
theorem jw_1370 : Cond.sameMethod "java/lang/AbstractStringBuilder" "java/lang/AbstractStringBuilder" "getValue" "()[B" ∈ jk_WS := jk_wt6 (i := 170) (by decide +kernel) rfl
theorem jw_1371 : Cond.selects "java/lang/StringBuilder" ⟨"java/lang/AbstractStringBuilder", "getValue", "()[B"⟩ ⟨"java/lang/AbstractStringBuilder", "getValue", "()[B"⟩ ∈ jk_WS := jk_wt6 (i := 171) (by decide +kernel) rfl
theorem jw_1372 : Cond.code ⟨"java/lang/AbstractStringBuilder", "getValue", "()[B"⟩ prog_17_method_64_code 1 (Option.some (ClassFile.FieldType.array ClassFile.FieldType.byte)) ∈ jk_WS := jk_wt6 (i := 172) (by decide +kernel) rfl
theorem jw_1373 : Cond.methodLink "java/lang/String" 549 ⟨"java/lang/AbstractStringBuilder", "length", "()I"⟩ ∈ jk_WS := jk_wt6 (i := 173) (by decide +kernel) rfl
theorem jw_1374 : Cond.instanceMethod ⟨"java/lang/AbstractStringBuilder", "length", "()I"⟩ ∈ jk_WS := jk_wt6 (i := 174) (by decide +kernel) rfl
theorem jw_1375 : Cond.sameMethod "java/lang/AbstractStringBuilder" "java/lang/AbstractStringBuilder" "length" "()I" ∈ jk_WS := jk_wt6 (i := 175) (by decide +kernel) rfl
theorem jw_1376 : Cond.selects "java/lang/StringBuilder" ⟨"java/lang/AbstractStringBuilder", "length", "()I"⟩ ⟨"java/lang/StringBuilder", "length", "()I"⟩ ∈ jk_WS := jk_wt6 (i := 176) (by decide +kernel) rfl
theorem jw_1377 : Cond.instanceMethod ⟨"java/lang/StringBuilder", "length", "()I"⟩ ∈ jk_WS := jk_wt6 (i := 177) (by decide +kernel) rfl
theorem jw_1378 : Cond.code ⟨"java/lang/StringBuilder", "length", "()I"⟩ prog_34_method_93_code 1 (Option.some ClassFile.FieldType.int) ∈ jk_WS := jk_wt6 (i := 178) (by decide +kernel) rfl
theorem jw_1379 : Cond.methodLink "java/lang/StringBuilder" 343 ⟨"java/lang/AbstractStringBuilder", "length", "()I"⟩ ∈ jk_WS := jk_wt6 (i := 179) (by decide +kernel) rfl
theorem jw_1380 : Cond.code ⟨"java/lang/AbstractStringBuilder", "length", "()I"⟩ prog_17_method_6_code 1 (Option.some ClassFile.FieldType.int) ∈ jk_WS := jk_wt6 (i := 180) (by decide +kernel) rfl
theorem jw_1381 : Cond.methodLink "java/lang/String" 1047 ⟨"java/lang/AbstractStringBuilder", "isLatin1", "()Z"⟩ ∈ jk_WS := jk_wt6 (i := 181) (by decide +kernel) rfl
theorem jw_1382 : Cond.methodLink "java/lang/String" 54 ⟨"java/util/Arrays", "copyOfRange", "([BII)[B"⟩ ∈ jk_WS := jk_wt6 (i := 182) (by decide +kernel) rfl
theorem jw_1383 : Cond.static ⟨"java/util/Arrays", "copyOfRange", "([BII)[B"⟩ ∈ jk_WS := jk_wt6 (i := 183) (by decide +kernel) rfl
theorem jw_1384 : Cond.code ⟨"java/util/Arrays", "copyOfRange", "([BII)[B"⟩ prog_43_method_132_code 3 (Option.some (ClassFile.FieldType.array ClassFile.FieldType.byte)) ∈ jk_WS := jk_wt6 (i := 184) (by decide +kernel) rfl
theorem jw_1385 : Cond.methodLink "java/util/Arrays" 339 ⟨"java/util/Arrays", "copyOfRangeByte", "([BII)[B"⟩ ∈ jk_WS := jk_wt6 (i := 185) (by decide +kernel) rfl
theorem jw_1386 : Cond.static ⟨"java/util/Arrays", "copyOfRangeByte", "([BII)[B"⟩ ∈ jk_WS := jk_wt6 (i := 186) (by decide +kernel) rfl
theorem jw_1387 : Cond.code ⟨"java/util/Arrays", "copyOfRangeByte", "([BII)[B"⟩ prog_43_method_133_code 5 (Option.some (ClassFile.FieldType.array ClassFile.FieldType.byte)) ∈ jk_WS := jk_wt6 (i := 187) (by decide +kernel) rfl
theorem jw_1388 : Cond.methodLink "java/util/Arrays" 343 ⟨"java/util/Arrays", "checkLength", "(II)V"⟩ ∈ jk_WS := jk_wt6 (i := 188) (by decide +kernel) rfl
theorem jw_1389 : Cond.static ⟨"java/util/Arrays", "checkLength", "(II)V"⟩ ∈ jk_WS := jk_wt6 (i := 189) (by decide +kernel) rfl
theorem jw_1390 : Cond.code ⟨"java/util/Arrays", "checkLength", "(II)V"⟩ prog_43_method_131_code 2 (Option.none : Option ClassFile.FieldType) ∈ jk_WS := jk_wt6 (i := 190) (by decide +kernel) rfl
theorem jw_1391 : Cond.classLink "java/util/Arrays" 43 "java/lang/IllegalArgumentException" ∈ jk_WS := jk_wt6 (i := 191) (by decide +kernel) rfl
theorem jw_1392 : Cond.classLink "java/util/Arrays" 45 "java/lang/StringBuilder" ∈ jk_WS := jk_wt6 (i := 192) (by decide +kernel) rfl
theorem jw_1393 : Cond.methodLink "java/util/Arrays" 47 ⟨"java/lang/StringBuilder", "<init>", "()V"⟩ ∈ jk_WS := jk_wt6 (i := 193) (by decide +kernel) rfl
theorem jw_1394 : Cond.methodLink "java/util/Arrays" 54 ⟨"java/lang/StringBuilder", "append", "(I)Ljava/lang/StringBuilder;"⟩ ∈ jk_WS := jk_wt6 (i := 194) (by decide +kernel) rfl
theorem jw_1396 : Cond.methodLink "java/util/Arrays" 50 ⟨"java/lang/StringBuilder", "append", "(Ljava/lang/String;)Ljava/lang/StringBuilder;"⟩ ∈ jk_WS := jk_wt6 (i := 196) (by decide +kernel) rfl
theorem jw_1397 : Cond.methodLink "java/util/Arrays" 61 ⟨"java/lang/StringBuilder", "toString", "()Ljava/lang/String;"⟩ ∈ jk_WS := jk_wt6 (i := 197) (by decide +kernel) rfl
theorem jw_1398 : Cond.methodLink "java/util/Arrays" 65 ⟨"java/lang/IllegalArgumentException", "<init>", "(Ljava/lang/String;)V"⟩ ∈ jk_WS := jk_wt6 (i := 198) (by decide +kernel) rfl
theorem jw_1399 : Cond.methodLink "java/lang/String" 1051 ⟨"java/lang/StringUTF16", "compress", "([BII)[B"⟩ ∈ jk_WS := jk_wt6 (i := 199) (by decide +kernel) rfl
theorem jw_1400 : Cond.static ⟨"java/lang/StringUTF16", "compress", "([BII)[B"⟩ ∈ jk_WS := jk_wt6 (i := 200) (by decide +kernel) rfl
theorem jw_1401 : Cond.code ⟨"java/lang/StringUTF16", "compress", "([BII)[B"⟩ prog_37_method_17_code 6 (Option.some (ClassFile.FieldType.array ClassFile.FieldType.byte)) ∈ jk_WS := jk_wt6 (i := 201) (by decide +kernel) rfl
theorem jw_1402 : Cond.methodLink "java/lang/StringUTF16" 123 ⟨"java/lang/StringUTF16", "compress", "([BI[BII)I"⟩ ∈ jk_WS := jk_wt6 (i := 202) (by decide +kernel) rfl
theorem jw_1403 : Cond.static ⟨"java/lang/StringUTF16", "compress", "([BI[BII)I"⟩ ∈ jk_WS := jk_wt6 (i := 203) (by decide +kernel) rfl
theorem jw_1404 : Cond.code ⟨"java/lang/StringUTF16", "compress", "([BI[BII)I"⟩ prog_37_method_22_code 7 (Option.some ClassFile.FieldType.int) ∈ jk_WS := jk_wt6 (i := 204) (by decide +kernel) rfl
theorem jw_1405 : Cond.methodLink "java/lang/StringUTF16" 71 ⟨"java/lang/StringUTF16", "getChar", "([BI)C"⟩ ∈ jk_WS := jk_wt6 (i := 205) (by decide +kernel) rfl
theorem jw_1406 : Cond.static ⟨"java/lang/StringUTF16", "getChar", "([BI)C"⟩ ∈ jk_WS := jk_wt6 (i := 206) (by decide +kernel) rfl
theorem jw_1407 : Cond.code ⟨"java/lang/StringUTF16", "getChar", "([BI)C"⟩ prog_37_method_5_code 2 (Option.some ClassFile.FieldType.char) ∈ jk_WS := jk_wt6 (i := 207) (by decide +kernel) rfl
theorem jw_1408 : Cond.methodLink "java/lang/StringUTF16" 126 ⟨"java/util/Arrays", "copyOfRange", "([BII)[B"⟩ ∈ jk_WS := jk_wt6 (i := 208) (by decide +kernel) rfl
theorem jw_1409 : Cond.methodLink "java/lang/String" 47 ⟨"java/lang/StringUTF16", "coderFromArrayLen", "([BI)B"⟩ ∈ jk_WS := jk_wt6 (i := 209) (by decide +kernel) rfl
theorem jw_1410 : Cond.static ⟨"java/lang/StringUTF16", "coderFromArrayLen", "([BI)B"⟩ ∈ jk_WS := jk_wt6 (i := 210) (by decide +kernel) rfl
theorem jw_1411 : Cond.code ⟨"java/lang/StringUTF16", "coderFromArrayLen", "([BI)B"⟩ prog_37_method_15_code 2 (Option.some ClassFile.FieldType.byte) ∈ jk_WS := jk_wt6 (i := 211) (by decide +kernel) rfl
theorem jw_1412 : Cond.fieldLink "java/lang/String" 9 "java/lang/String" "value" "[B" ∈ jk_WS := jk_wt6 (i := 212) (by decide +kernel) rfl
theorem jw_1413 : Cond.fieldLink "java/lang/String" 15 "java/lang/String" "coder" "B" ∈ jk_WS := jk_wt6 (i := 213) (by decide +kernel) rfl
theorem jw_1414 : Cond.laysFinal "java/lang/String" "java/lang/String" "value" "[B" ∈ jk_WS := jk_wt6 (i := 214) (by decide +kernel) rfl
theorem jw_1416 : Cond.laysFinal "java/lang/String" "java/lang/String" "coder" "B" ∈ jk_WS := jk_wt6 (i := 216) (by decide +kernel) rfl
theorem jw_1418 : Cond.lays "java/lang/String" "java/lang/String" "hash" "I" ∈ jk_WS := jk_wt6 (i := 218) (by decide +kernel) rfl
theorem jw_1420 : Cond.lays "java/lang/String" "java/lang/String" "hashIsZero" "Z" ∈ jk_WS := jk_wt6 (i := 220) (by decide +kernel) rfl
theorem jw_1422 : Cond.superclass "java/lang/String" "java/lang/Object" ∈ jk_WS := jk_wt6 (i := 222) (by decide +kernel) rfl
theorem jw_1423 : Cond.methodLink "java/lang/StringIndexOutOfBoundsException" 7 ⟨"java/lang/IndexOutOfBoundsException", "<init>", "(Ljava/lang/String;)V"⟩ ∈ jk_WS := jk_wt6 (i := 223) (by decide +kernel) rfl
theorem jw_1424 : Cond.lays "java/lang/StringIndexOutOfBoundsException" "java/lang/Throwable" "backtrace" "Ljava/lang/Object;" ∈ jk_WS := jk_wt6 (i := 224) (by decide +kernel) rfl
theorem jw_1425 : Cond.lays "java/lang/StringIndexOutOfBoundsException" "java/lang/Throwable" "detailMessage" "Ljava/lang/String;" ∈ jk_WS := jk_wt6 (i := 225) (by decide +kernel) rfl
theorem jw_1426 : Cond.lays "java/lang/StringIndexOutOfBoundsException" "java/lang/Throwable" "cause" "Ljava/lang/Throwable;" ∈ jk_WS := jk_wt6 (i := 226) (by decide +kernel) rfl
theorem jw_1427 : Cond.lays "java/lang/StringIndexOutOfBoundsException" "java/lang/Throwable" "stackTrace" "[Ljava/lang/StackTraceElement;" ∈ jk_WS := jk_wt6 (i := 227) (by decide +kernel) rfl
theorem jw_1428 : Cond.lays "java/lang/StringIndexOutOfBoundsException" "java/lang/Throwable" "depth" "I" ∈ jk_WS := jk_wt6 (i := 228) (by decide +kernel) rfl
theorem jw_1429 : Cond.lays "java/lang/StringIndexOutOfBoundsException" "java/lang/Throwable" "suppressedExceptions" "Ljava/util/List;" ∈ jk_WS := jk_wt6 (i := 229) (by decide +kernel) rfl
theorem jw_1430 : Cond.superclass "java/lang/StringIndexOutOfBoundsException" "java/lang/IndexOutOfBoundsException" ∈ jk_WS := jk_wt6 (i := 230) (by decide +kernel) rfl
theorem jw_1431 : Cond.methodLink "java/lang/AbstractStringBuilder" 133 ⟨"java/lang/StringLatin1", "fillNull", "([BII)V"⟩ ∈ jk_WS := jk_wt6 (i := 231) (by decide +kernel) rfl
theorem jw_1432 : Cond.static ⟨"java/lang/StringLatin1", "fillNull", "([BII)V"⟩ ∈ jk_WS := jk_wt6 (i := 232) (by decide +kernel) rfl
theorem jw_1433 : Cond.code ⟨"java/lang/StringLatin1", "fillNull", "([BII)V"⟩ prog_36_method_48_code 3 (Option.none : Option ClassFile.FieldType) ∈ jk_WS := jk_wt6 (i := 233) (by decide +kernel) rfl
theorem jw_1434 : Cond.methodLink "java/lang/StringLatin1" 236 ⟨"java/util/Arrays", "fill", "([BIIB)V"⟩ ∈ jk_WS := jk_wt6 (i := 234) (by decide +kernel) rfl
theorem jw_1435 : Cond.static ⟨"java/util/Arrays", "fill", "([BIIB)V"⟩ ∈ jk_WS := jk_wt6 (i := 235) (by decide +kernel) rfl
theorem jw_1436 : Cond.code ⟨"java/util/Arrays", "fill", "([BIIB)V"⟩ prog_43_method_110_code 5 (Option.none : Option ClassFile.FieldType) ∈ jk_WS := jk_wt6 (i := 236) (by decide +kernel) rfl
theorem jw_1437 : Cond.methodLink "java/util/Arrays" 13 ⟨"java/util/Arrays", "rangeCheck", "(III)V"⟩ ∈ jk_WS := jk_wt6 (i := 237) (by decide +kernel) rfl
theorem jw_1438 : Cond.static ⟨"java/util/Arrays", "rangeCheck", "(III)V"⟩ ∈ jk_WS := jk_wt6 (i := 238) (by decide +kernel) rfl
theorem jw_1439 : Cond.code ⟨"java/util/Arrays", "rangeCheck", "(III)V"⟩ prog_43_method_30_code 3 (Option.none : Option ClassFile.FieldType) ∈ jk_WS := jk_wt6 (i := 239) (by decide +kernel) rfl
theorem jw_1443 : Cond.classLink "java/util/Arrays" 68 "java/lang/ArrayIndexOutOfBoundsException" ∈ jk_WS := jk_wt7 (i := 3) (by decide +kernel) rfl
theorem jw_1444 : Cond.instantiable "java/lang/ArrayIndexOutOfBoundsException" 6 ∈ jk_WS := jk_wt7 (i := 4) (by decide +kernel) rfl
theorem jw_1445 : Cond.castable "java/lang/ArrayIndexOutOfBoundsException" "java/lang/ArrayIndexOutOfBoundsException" ∈ jk_WS := jk_wt7 (i := 5) (by decide +kernel) rfl
theorem jw_1446 : Cond.declares ⟨"java/lang/IndexOutOfBoundsException", "<init>", "()V"⟩ ∈ jk_WS := jk_wt7 (i := 6) (by decide +kernel) rfl
theorem jw_1447 : Cond.declares ⟨"java/lang/IndexOutOfBoundsException", "<init>", "(Ljava/lang/String;)V"⟩ ∈ jk_WS := jk_wt7 (i := 7) (by decide +kernel) rfl
theorem jw_1448 : Cond.selects "java/lang/ArrayIndexOutOfBoundsException" ⟨"java/lang/Throwable", "fillInStackTrace", "(I)Ljava/lang/Throwable;"⟩ ⟨"java/lang/Throwable", "fillInStackTrace", "(I)Ljava/lang/Throwable;"⟩ ∈ jk_WS := jk_wt7 (i := 8) (by decide +kernel) rfl
theorem jw_1449 : Cond.lays "java/lang/ArrayIndexOutOfBoundsException" "java/lang/Throwable" "cause" "Ljava/lang/Throwable;" ∈ jk_WS := jk_wt7 (i := 9) (by decide +kernel) rfl
theorem jw_1450 : Cond.lays "java/lang/ArrayIndexOutOfBoundsException" "java/lang/Throwable" "stackTrace" "[Ljava/lang/StackTraceElement;" ∈ jk_WS := jk_wt7 (i := 10) (by decide +kernel) rfl
theorem jw_1451 : Cond.lays "java/lang/ArrayIndexOutOfBoundsException" "java/lang/Throwable" "suppressedExceptions" "Ljava/util/List;" ∈ jk_WS := jk_wt7 (i := 11) (by decide +kernel) rfl
theorem jw_1452 : Cond.lays "java/lang/ArrayIndexOutOfBoundsException" "java/lang/Throwable" "detailMessage" "Ljava/lang/String;" ∈ jk_WS := jk_wt7 (i := 12) (by decide +kernel) rfl
theorem jw_1453 : Cond.lays "java/lang/ArrayIndexOutOfBoundsException" "java/lang/Throwable" "backtrace" "Ljava/lang/Object;" ∈ jk_WS := jk_wt7 (i := 13) (by decide +kernel) rfl
theorem jw_1454 : Cond.methodLink "java/util/Arrays" 70 ⟨"java/lang/ArrayIndexOutOfBoundsException", "<init>", "(I)V"⟩ ∈ jk_WS := jk_wt7 (i := 14) (by decide +kernel) rfl
theorem jw_1455 : Cond.instanceMethod ⟨"java/lang/ArrayIndexOutOfBoundsException", "<init>", "(I)V"⟩ ∈ jk_WS := jk_wt7 (i := 15) (by decide +kernel) rfl
theorem jw_1456 : Cond.code ⟨"java/lang/ArrayIndexOutOfBoundsException", "<init>", "(I)V"⟩ prog_20_method_3_code 2 (Option.none : Option ClassFile.FieldType) ∈ jk_WS := jk_wt7 (i := 16) (by decide +kernel) rfl
theorem jw_1457 : Cond.classLink "java/lang/ArrayIndexOutOfBoundsException" 10 "java/lang/StringBuilder" ∈ jk_WS := jk_wt7 (i := 17) (by decide +kernel) rfl
theorem jw_1458 : Cond.methodLink "java/lang/ArrayIndexOutOfBoundsException" 12 ⟨"java/lang/StringBuilder", "<init>", "()V"⟩ ∈ jk_WS := jk_wt7 (i := 18) (by decide +kernel) rfl
theorem jw_1460 : Cond.methodLink "java/lang/ArrayIndexOutOfBoundsException" 15 ⟨"java/lang/StringBuilder", "append", "(Ljava/lang/String;)Ljava/lang/StringBuilder;"⟩ ∈ jk_WS := jk_wt7 (i := 20) (by decide +kernel) rfl
theorem jw_1461 : Cond.methodLink "java/lang/ArrayIndexOutOfBoundsException" 19 ⟨"java/lang/StringBuilder", "append", "(I)Ljava/lang/StringBuilder;"⟩ ∈ jk_WS := jk_wt7 (i := 21) (by decide +kernel) rfl
theorem jw_1462 : Cond.methodLink "java/lang/ArrayIndexOutOfBoundsException" 22 ⟨"java/lang/StringBuilder", "toString", "()Ljava/lang/String;"⟩ ∈ jk_WS := jk_wt7 (i := 22) (by decide +kernel) rfl
theorem jw_1463 : Cond.methodLink "java/lang/ArrayIndexOutOfBoundsException" 7 ⟨"java/lang/IndexOutOfBoundsException", "<init>", "(Ljava/lang/String;)V"⟩ ∈ jk_WS := jk_wt7 (i := 23) (by decide +kernel) rfl
theorem jw_1464 : Cond.lays "java/lang/ArrayIndexOutOfBoundsException" "java/lang/Throwable" "depth" "I" ∈ jk_WS := jk_wt7 (i := 24) (by decide +kernel) rfl
theorem jw_1465 : Cond.superclass "java/lang/ArrayIndexOutOfBoundsException" "java/lang/IndexOutOfBoundsException" ∈ jk_WS := jk_wt7 (i := 25) (by decide +kernel) rfl
theorem jw_1466 : Cond.methodLink "java/lang/AbstractStringBuilder" 137 ⟨"java/lang/StringUTF16", "fillNull", "([BII)V"⟩ ∈ jk_WS := jk_wt7 (i := 26) (by decide +kernel) rfl
theorem jw_1467 : Cond.static ⟨"java/lang/StringUTF16", "fillNull", "([BII)V"⟩ ∈ jk_WS := jk_wt7 (i := 27) (by decide +kernel) rfl
theorem jw_1468 : Cond.code ⟨"java/lang/StringUTF16", "fillNull", "([BII)V"⟩ prog_37_method_70_code 3 (Option.none : Option ClassFile.FieldType) ∈ jk_WS := jk_wt7 (i := 28) (by decide +kernel) rfl
theorem jw_1469 : Cond.methodLink "java/lang/StringUTF16" 380 ⟨"java/util/Arrays", "fill", "([BIIB)V"⟩ ∈ jk_WS := jk_wt7 (i := 29) (by decide +kernel) rfl
theorem jw_1470 : Cond.methodLink "LevelingNetwork" 354 ⟨"java/lang/StringBuilder", "append", "(I)Ljava/lang/StringBuilder;"⟩ ∈ jk_WS := jk_wt7 (i := 30) (by decide +kernel) rfl
theorem jw_1471 : Cond.methodLink "LevelingNetwork" 358 ⟨"java/lang/StringBuilder", "append", "(C)Ljava/lang/StringBuilder;"⟩ ∈ jk_WS := jk_wt7 (i := 31) (by decide +kernel) rfl
theorem jw_1472 : Cond.instanceMethod ⟨"java/lang/StringBuilder", "append", "(C)Ljava/lang/StringBuilder;"⟩ ∈ jk_WS := jk_wt7 (i := 32) (by decide +kernel) rfl
theorem jw_1473 : Cond.selects "java/lang/StringBuilder" ⟨"java/lang/StringBuilder", "append", "(C)Ljava/lang/StringBuilder;"⟩ ⟨"java/lang/StringBuilder", "append", "(C)Ljava/lang/StringBuilder;"⟩ ∈ jk_WS := jk_wt7 (i := 33) (by decide +kernel) rfl
theorem jw_1474 : Cond.code ⟨"java/lang/StringBuilder", "append", "(C)Ljava/lang/StringBuilder;"⟩ prog_34_method_14_code 2 (Option.some (ClassFile.FieldType.object "java/lang/StringBuilder")) ∈ jk_WS := jk_wt7 (i := 34) (by decide +kernel) rfl
theorem jw_1475 : Cond.methodLink "java/lang/StringBuilder" 50 ⟨"java/lang/AbstractStringBuilder", "append", "(C)Ljava/lang/AbstractStringBuilder;"⟩ ∈ jk_WS := jk_wt7 (i := 35) (by decide +kernel) rfl
theorem jw_1476 : Cond.instanceMethod ⟨"java/lang/AbstractStringBuilder", "append", "(C)Ljava/lang/AbstractStringBuilder;"⟩ ∈ jk_WS := jk_wt7 (i := 36) (by decide +kernel) rfl
theorem jw_1477 : Cond.code ⟨"java/lang/AbstractStringBuilder", "append", "(C)Ljava/lang/AbstractStringBuilder;"⟩ prog_17_method_31_code 2 (Option.some (ClassFile.FieldType.object "java/lang/AbstractStringBuilder")) ∈ jk_WS := jk_wt7 (i := 37) (by decide +kernel) rfl
theorem jw_1478 : Cond.methodLink "java/lang/AbstractStringBuilder" 191 ⟨"java/lang/StringLatin1", "canEncode", "(C)Z"⟩ ∈ jk_WS := jk_wt7 (i := 38) (by decide +kernel) rfl
theorem jw_1479 : Cond.static ⟨"java/lang/StringLatin1", "canEncode", "(C)Z"⟩ ∈ jk_WS := jk_wt7 (i := 39) (by decide +kernel) rfl
theorem jw_1480 : Cond.code ⟨"java/lang/StringLatin1", "canEncode", "(C)Z"⟩ prog_36_method_3_code 1 (Option.some ClassFile.FieldType.boolean) ∈ jk_WS := jk_wt7 (i := 40) (by decide +kernel) rfl
theorem jw_1481 : Cond.methodLink "java/lang/AbstractStringBuilder" 197 ⟨"java/lang/StringUTF16", "putCharSB", "([BII)V"⟩ ∈ jk_WS := jk_wt7 (i := 41) (by decide +kernel) rfl
theorem jw_1482 : Cond.static ⟨"java/lang/StringUTF16", "putCharSB", "([BII)V"⟩ ∈ jk_WS := jk_wt7 (i := 42) (by decide +kernel) rfl
theorem jw_1483 : Cond.code ⟨"java/lang/StringUTF16", "putCharSB", "([BII)V"⟩ prog_37_method_71_code 3 (Option.none : Option ClassFile.FieldType) ∈ jk_WS := jk_wt7 (i := 43) (by decide +kernel) rfl
theorem jw_1484 : Cond.methodLink "java/lang/StringUTF16" 67 ⟨"java/lang/StringUTF16", "checkIndex", "(I[B)V"⟩ ∈ jk_WS := jk_wt7 (i := 44) (by decide +kernel) rfl
theorem jw_1485 : Cond.static ⟨"java/lang/StringUTF16", "checkIndex", "(I[B)V"⟩ ∈ jk_WS := jk_wt7 (i := 45) (by decide +kernel) rfl
theorem jw_1486 : Cond.code ⟨"java/lang/StringUTF16", "checkIndex", "(I[B)V"⟩ prog_37_method_91_code 2 (Option.none : Option ClassFile.FieldType) ∈ jk_WS := jk_wt7 (i := 46) (by decide +kernel) rfl
theorem jw_1487 : Cond.methodLink "java/lang/StringUTF16" 414 ⟨"java/lang/String", "checkIndex", "(II)V"⟩ ∈ jk_WS := jk_wt7 (i := 47) (by decide +kernel) rfl
theorem jw_1488 : Cond.static ⟨"java/lang/String", "checkIndex", "(II)V"⟩ ∈ jk_WS := jk_wt7 (i := 48) (by decide +kernel) rfl
theorem jw_1489 : Cond.code ⟨"java/lang/String", "checkIndex", "(II)V"⟩ prog_33_method_155_code 2 (Option.none : Option ClassFile.FieldType) ∈ jk_WS := jk_wt7 (i := 49) (by decide +kernel) rfl
theorem jw_1490 : Cond.methodLink "java/lang/String" 1059 ⟨"jdk/internal/util/Preconditions", "checkIndex", "(IILjava/util/function/BiFunction;)I"⟩ ∈ jk_WS := jk_wt7 (i := 50) (by decide +kernel) rfl
theorem jw_1491 : Cond.static ⟨"jdk/internal/util/Preconditions", "checkIndex", "(IILjava/util/function/BiFunction;)I"⟩ ∈ jk_WS := jk_wt7 (i := 51) (by decide +kernel) rfl
theorem jw_1492 : Cond.code ⟨"jdk/internal/util/Preconditions", "checkIndex", "(IILjava/util/function/BiFunction;)I"⟩ prog_46_method_11_code 3 (Option.some ClassFile.FieldType.int) ∈ jk_WS := jk_wt7 (i := 52) (by decide +kernel) rfl
theorem jw_1493 : Cond.methodLink "LevelingNetwork" 361 ⟨"LevelingNetwork$Survey", "corrected", "(I)I"⟩ ∈ jk_WS := jk_wt7 (i := 53) (by decide +kernel) rfl
theorem jw_1494 : Cond.methodLink "LevelingNetwork" 364 ⟨"LevelingNetwork", "markOf", "(I)C"⟩ ∈ jk_WS := jk_wt7 (i := 54) (by decide +kernel) rfl
theorem jw_1496 : Cond.instanceMethod ⟨"LevelingNetwork", "markOf", "(I)C"⟩ ∈ jk_WS := jk_wt7 (i := 56) (by decide +kernel) rfl
theorem jw_1497 : Cond.code ⟨"LevelingNetwork", "markOf", "(I)C"⟩ prog_1_method_73_code 2 (Option.some ClassFile.FieldType.char) ∈ jk_WS := jk_wt7 (i := 57) (by decide +kernel) rfl
theorem jw_1498 : Cond.methodLink "LevelingNetwork" 368 ⟨"java/lang/StringBuilder", "length", "()I"⟩ ∈ jk_WS := jk_wt7 (i := 58) (by decide +kernel) rfl
theorem jw_1499 : Cond.methodLink "LevelingNetworkLaw" 316 ⟨"LevelingNetwork", "renderBenchmark", "(I)I"⟩ ∈ jk_WS := jk_wt7 (i := 59) (by decide +kernel) rfl
theorem jw_1500 : Cond.instanceMethod ⟨"LevelingNetwork", "renderBenchmark", "(I)I"⟩ ∈ jk_WS := jk_wt7 (i := 60) (by decide +kernel) rfl
theorem jw_1501 : Cond.selects "LevelingNetwork" ⟨"LevelingNetwork", "renderBenchmark", "(I)I"⟩ ⟨"LevelingNetwork", "renderBenchmark", "(I)I"⟩ ∈ jk_WS := jk_wt7 (i := 61) (by decide +kernel) rfl
theorem jw_1502 : Cond.code ⟨"LevelingNetwork", "renderBenchmark", "(I)I"⟩ prog_1_method_56_code 2 (Option.some ClassFile.FieldType.int) ∈ jk_WS := jk_wt7 (i := 62) (by decide +kernel) rfl
theorem jw_1503 : Cond.methodLink "LevelingNetworkLaw" 218 ⟨"LevelingNetwork", "runScript", "()I"⟩ ∈ jk_WS := jk_wt7 (i := 63) (by decide +kernel) rfl
theorem jw_1504 : Cond.instanceMethod ⟨"LevelingNetwork", "runScript", "()I"⟩ ∈ jk_WS := jk_wt7 (i := 64) (by decide +kernel) rfl
theorem jw_1505 : Cond.selects "LevelingNetwork" ⟨"LevelingNetwork", "runScript", "()I"⟩ ⟨"LevelingNetwork", "runScript", "()I"⟩ ∈ jk_WS := jk_wt7 (i := 65) (by decide +kernel) rfl
theorem jw_1506 : Cond.code ⟨"LevelingNetwork", "runScript", "()I"⟩ prog_1_method_59_code 3 (Option.some ClassFile.FieldType.int) ∈ jk_WS := jk_wt7 (i := 66) (by decide +kernel) rfl
theorem jw_1507 : Cond.methodLink "LevelingNetwork" 390 ⟨"LevelingNetwork$Script", "read", "()Z"⟩ ∈ jk_WS := jk_wt7 (i := 67) (by decide +kernel) rfl
theorem jw_1508 : Cond.instanceMethod ⟨"LevelingNetwork$Script", "read", "()Z"⟩ ∈ jk_WS := jk_wt7 (i := 68) (by decide +kernel) rfl
theorem jw_1509 : Cond.selects "LevelingNetwork$Script" ⟨"LevelingNetwork$Script", "read", "()Z"⟩ ⟨"LevelingNetwork$Script", "read", "()Z"⟩ ∈ jk_WS := jk_wt7 (i := 69) (by decide +kernel) rfl
theorem jw_1510 : Cond.code ⟨"LevelingNetwork$Script", "read", "()Z"⟩ prog_9_method_3_code 3 (Option.some ClassFile.FieldType.boolean) ∈ jk_WS := jk_wt7 (i := 70) (by decide +kernel) rfl
theorem jw_1511 : Cond.methodLink "LevelingNetwork$Script" 36 ⟨"LevelingNetwork$Script", "readCommand", "()Z"⟩ ∈ jk_WS := jk_wt7 (i := 71) (by decide +kernel) rfl
theorem jw_1513 : Cond.instanceMethod ⟨"LevelingNetwork$Script", "readCommand", "()Z"⟩ ∈ jk_WS := jk_wt7 (i := 73) (by decide +kernel) rfl
theorem jw_1514 : Cond.code ⟨"LevelingNetwork$Script", "readCommand", "()Z"⟩ prog_9_method_4_code 2 (Option.some ClassFile.FieldType.boolean) ∈ jk_WS := jk_wt7 (i := 74) (by decide +kernel) rfl
theorem jw_1515 : Cond.methodLink "LevelingNetwork$Script" 44 ⟨"LevelingNetwork$Script", "readWord", "()LLevelingNetwork$Kind;"⟩ ∈ jk_WS := jk_wt7 (i := 75) (by decide +kernel) rfl
theorem jw_1517 : Cond.instanceMethod ⟨"LevelingNetwork$Script", "readWord", "()LLevelingNetwork$Kind;"⟩ ∈ jk_WS := jk_wt7 (i := 77) (by decide +kernel) rfl
theorem jw_1518 : Cond.code ⟨"LevelingNetwork$Script", "readWord", "()LLevelingNetwork$Kind;"⟩ prog_9_method_5_code 4 (Option.some (ClassFile.FieldType.object "LevelingNetwork$Kind")) ∈ jk_WS := jk_wt7 (i := 78) (by decide +kernel) rfl
theorem jw_1519 : Cond.fieldLinkNest "LevelingNetwork$Script" 56 "LevelingNetwork" "KINDS" "[LLevelingNetwork$Kind;" "LevelingNetwork" ∈ jk_WS := jk_wt7 (i := 79) (by decide +kernel) rfl
theorem jw_1521 : Cond.methodLink "LevelingNetwork$Script" 62 ⟨"LevelingNetwork$Script", "fittingSigns", "(Ljava/lang/String;)I"⟩ ∈ jk_WS := jk_wt7 (i := 81) (by decide +kernel) rfl
theorem jw_1523 : Cond.instanceMethod ⟨"LevelingNetwork$Script", "fittingSigns", "(Ljava/lang/String;)I"⟩ ∈ jk_WS := jk_wt7 (i := 83) (by decide +kernel) rfl
theorem jw_1524 : Cond.code ⟨"LevelingNetwork$Script", "fittingSigns", "(Ljava/lang/String;)I"⟩ prog_9_method_6_code 4 (Option.some ClassFile.FieldType.int) ∈ jk_WS := jk_wt7 (i := 84) (by decide +kernel) rfl
theorem jw_1525 : Cond.methodLink "LevelingNetwork$Script" 66 ⟨"java/lang/String", "length", "()I"⟩ ∈ jk_WS := jk_wt7 (i := 85) (by decide +kernel) rfl
theorem jw_1526 : Cond.methodLink "LevelingNetwork$Script" 78 ⟨"LevelingNetwork$Script", "signAt", "(I)C"⟩ ∈ jk_WS := jk_wt7 (i := 86) (by decide +kernel) rfl
theorem jw_1528 : Cond.instanceMethod ⟨"LevelingNetwork$Script", "signAt", "(I)C"⟩ ∈ jk_WS := jk_wt7 (i := 88) (by decide +kernel) rfl
theorem jw_1529 : Cond.code ⟨"LevelingNetwork$Script", "signAt", "(I)C"⟩ prog_9_method_11_code 2 (Option.some ClassFile.FieldType.char) ∈ jk_WS := jk_wt7 (i := 89) (by decide +kernel) rfl
theorem jw_1530 : Cond.methodLink "LevelingNetwork$Script" 82 ⟨"java/lang/String", "charAt", "(I)C"⟩ ∈ jk_WS := jk_wt7 (i := 90) (by decide +kernel) rfl
theorem jw_1531 : Cond.instanceMethod ⟨"java/lang/String", "charAt", "(I)C"⟩ ∈ jk_WS := jk_wt7 (i := 91) (by decide +kernel) rfl
theorem jw_1532 : Cond.selects "java/lang/String" ⟨"java/lang/String", "charAt", "(I)C"⟩ ⟨"java/lang/String", "charAt", "(I)C"⟩ ∈ jk_WS := jk_wt7 (i := 92) (by decide +kernel) rfl
theorem jw_1533 : Cond.code ⟨"java/lang/String", "charAt", "(I)C"⟩ prog_33_method_56_code 2 (Option.some ClassFile.FieldType.char) ∈ jk_WS := jk_wt7 (i := 93) (by decide +kernel) rfl
theorem jw_1534 : Cond.methodLink "java/lang/String" 492 ⟨"java/lang/String", "isLatin1", "()Z"⟩ ∈ jk_WS := jk_wt7 (i := 94) (by decide +kernel) rfl
theorem jw_1535 : Cond.instanceMethod ⟨"java/lang/String", "isLatin1", "()Z"⟩ ∈ jk_WS := jk_wt7 (i := 95) (by decide +kernel) rfl
theorem jw_1536 : Cond.selects "java/lang/String" ⟨"java/lang/String", "isLatin1", "()Z"⟩ ⟨"java/lang/String", "isLatin1", "()Z"⟩ ∈ jk_WS := jk_wt7 (i := 96) (by decide +kernel) rfl
theorem jw_1537 : Cond.code ⟨"java/lang/String", "isLatin1", "()Z"⟩ prog_33_method_154_code 1 (Option.some ClassFile.FieldType.boolean) ∈ jk_WS := jk_wt7 (i := 97) (by decide +kernel) rfl
theorem jw_1538 : Cond.methodLink "java/lang/String" 495 ⟨"java/lang/StringLatin1", "charAt", "([BI)C"⟩ ∈ jk_WS := jk_wt7 (i := 98) (by decide +kernel) rfl
theorem jw_1539 : Cond.static ⟨"java/lang/StringLatin1", "charAt", "([BI)C"⟩ ∈ jk_WS := jk_wt7 (i := 99) (by decide +kernel) rfl
theorem jw_1540 : Cond.code ⟨"java/lang/StringLatin1", "charAt", "([BI)C"⟩ prog_36_method_2_code 2 (Option.some ClassFile.FieldType.char) ∈ jk_WS := jk_wt7 (i := 100) (by decide +kernel) rfl
theorem jw_1541 : Cond.methodLink "java/lang/StringLatin1" 9 ⟨"java/lang/String", "checkIndex", "(II)V"⟩ ∈ jk_WS := jk_wt7 (i := 101) (by decide +kernel) rfl
theorem jw_1542 : Cond.methodLink "java/lang/String" 498 ⟨"java/lang/StringUTF16", "charAt", "([BI)C"⟩ ∈ jk_WS := jk_wt7 (i := 102) (by decide +kernel) rfl
theorem jw_1543 : Cond.static ⟨"java/lang/StringUTF16", "charAt", "([BI)C"⟩ ∈ jk_WS := jk_wt7 (i := 103) (by decide +kernel) rfl
theorem jw_1544 : Cond.code ⟨"java/lang/StringUTF16", "charAt", "([BI)C"⟩ prog_37_method_83_code 2 (Option.some ClassFile.FieldType.char) ∈ jk_WS := jk_wt7 (i := 104) (by decide +kernel) rfl
theorem jw_1545 : Cond.methodLink "LevelingNetwork$Script" 72 ⟨"java/lang/Math", "max", "(II)I"⟩ ∈ jk_WS := jk_wt7 (i := 105) (by decide +kernel) rfl
theorem jw_1546 : Cond.methodLink "LevelingNetwork$Script" 52 ⟨"LevelingNetwork$Script", "readForm", "(Ljava/lang/String;[I)Z"⟩ ∈ jk_WS := jk_wt7 (i := 106) (by decide +kernel) rfl
theorem jw_1548 : Cond.instanceMethod ⟨"LevelingNetwork$Script", "readForm", "(Ljava/lang/String;[I)Z"⟩ ∈ jk_WS := jk_wt7 (i := 108) (by decide +kernel) rfl
theorem jw_1549 : Cond.code ⟨"LevelingNetwork$Script", "readForm", "(Ljava/lang/String;[I)Z"⟩ prog_9_method_7_code 8 (Option.some ClassFile.FieldType.boolean) ∈ jk_WS := jk_wt7 (i := 109) (by decide +kernel) rfl
theorem jw_1550 : Cond.methodLink "LevelingNetwork$Script" 85 ⟨"LevelingNetwork$Script", "mostDigits", "(C)I"⟩ ∈ jk_WS := jk_wt7 (i := 110) (by decide +kernel) rfl
theorem jw_1551 : Cond.static ⟨"LevelingNetwork$Script", "mostDigits", "(C)I"⟩ ∈ jk_WS := jk_wt7 (i := 111) (by decide +kernel) rfl
theorem jw_1552 : Cond.code ⟨"LevelingNetwork$Script", "mostDigits", "(C)I"⟩ prog_9_method_8_code 1 (Option.some ClassFile.FieldType.int) ∈ jk_WS := jk_wt7 (i := 112) (by decide +kernel) rfl
theorem jw_1553 : Cond.methodLink "LevelingNetwork$Script" 40 ⟨"LevelingNetwork$Script", "readSign", "(C)Z"⟩ ∈ jk_WS := jk_wt7 (i := 113) (by decide +kernel) rfl
theorem jw_1555 : Cond.instanceMethod ⟨"LevelingNetwork$Script", "readSign", "(C)Z"⟩ ∈ jk_WS := jk_wt7 (i := 115) (by decide +kernel) rfl
theorem jw_1556 : Cond.code ⟨"LevelingNetwork$Script", "readSign", "(C)Z"⟩ prog_9_method_10_code 3 (Option.some ClassFile.FieldType.boolean) ∈ jk_WS := jk_wt7 (i := 116) (by decide +kernel) rfl
theorem jw_1557 : Cond.methodLink "LevelingNetwork$Script" 89 ⟨"LevelingNetwork$Script", "readArgument", "(IZ[II)Z"⟩ ∈ jk_WS := jk_wt7 (i := 117) (by decide +kernel) rfl
theorem jw_1559 : Cond.instanceMethod ⟨"LevelingNetwork$Script", "readArgument", "(IZ[II)Z"⟩ ∈ jk_WS := jk_wt7 (i := 119) (by decide +kernel) rfl
theorem jw_1560 : Cond.code ⟨"LevelingNetwork$Script", "readArgument", "(IZ[II)Z"⟩ prog_9_method_9_code 8 (Option.some ClassFile.FieldType.boolean) ∈ jk_WS := jk_wt7 (i := 120) (by decide +kernel) rfl
theorem jw_1561 : Cond.methodLinkNest "LevelingNetwork$Script" 93 ⟨"LevelingNetwork", "within", "(III)Z"⟩ "LevelingNetwork" ∈ jk_WS := jk_wt7 (i := 121) (by decide +kernel) rfl
theorem jw_1563 : Cond.methodLink "LevelingNetwork" 398 ⟨"LevelingNetwork$Survey", "copyFrom", "(LLevelingNetwork$Survey;)V"⟩ ∈ jk_WS := jk_wt7 (i := 123) (by decide +kernel) rfl
theorem jw_1564 : Cond.methodLink "LevelingNetwork" 401 ⟨"LevelingNetwork", "firstFailure", "()I"⟩ ∈ jk_WS := jk_wt7 (i := 124) (by decide +kernel) rfl
theorem jw_1566 : Cond.instanceMethod ⟨"LevelingNetwork", "firstFailure", "()I"⟩ ∈ jk_WS := jk_wt7 (i := 126) (by decide +kernel) rfl
theorem jw_1567 : Cond.code ⟨"LevelingNetwork", "firstFailure", "()I"⟩ prog_1_method_77_code 4 (Option.some ClassFile.FieldType.int) ∈ jk_WS := jk_wt7 (i := 127) (by decide +kernel) rfl
theorem jw_1568 : Cond.fieldLink "LevelingNetwork" 491 "LevelingNetwork$Trouble" "NOTHING" "LLevelingNetwork$Trouble;" ∈ jk_WS := jk_wt7 (i := 128) (by decide +kernel) rfl
theorem jw_1570 : Cond.methodLink "LevelingNetworkLaw" 233 ⟨"LevelingNetwork", "failedCommand", "()I"⟩ ∈ jk_WS := jk_wt7 (i := 130) (by decide +kernel) rfl
theorem jw_1571 : Cond.instanceMethod ⟨"LevelingNetwork", "failedCommand", "()I"⟩ ∈ jk_WS := jk_wt7 (i := 131) (by decide +kernel) rfl
theorem jw_1572 : Cond.selects "LevelingNetwork" ⟨"LevelingNetwork", "failedCommand", "()I"⟩ ⟨"LevelingNetwork", "failedCommand", "()I"⟩ ∈ jk_WS := jk_wt7 (i := 132) (by decide +kernel) rfl
theorem jw_1573 : Cond.code ⟨"LevelingNetwork", "failedCommand", "()I"⟩ prog_1_method_61_code 1 (Option.some ClassFile.FieldType.int) ∈ jk_WS := jk_wt7 (i := 133) (by decide +kernel) rfl
theorem jw_1575 : Cond.methodLink "LevelingNetworkLaw" 225 ⟨"LevelingNetwork", "undo", "()I"⟩ ∈ jk_WS := jk_wt7 (i := 135) (by decide +kernel) rfl
theorem jw_1576 : Cond.instanceMethod ⟨"LevelingNetwork", "undo", "()I"⟩ ∈ jk_WS := jk_wt7 (i := 136) (by decide +kernel) rfl
theorem jw_1577 : Cond.selects "LevelingNetwork" ⟨"LevelingNetwork", "undo", "()I"⟩ ⟨"LevelingNetwork", "undo", "()I"⟩ ∈ jk_WS := jk_wt7 (i := 137) (by decide +kernel) rfl
theorem jw_1578 : Cond.code ⟨"LevelingNetwork", "undo", "()I"⟩ prog_1_method_62_code 1 (Option.some ClassFile.FieldType.int) ∈ jk_WS := jk_wt7 (i := 138) (by decide +kernel) rfl
theorem jw_1580 : Cond.methodLink "LevelingNetwork" 419 ⟨"LevelingNetwork$History", "popInto", "(LLevelingNetwork$Survey;)V"⟩ ∈ jk_WS := jk_wt7 (i := 140) (by decide +kernel) rfl
theorem jw_1581 : Cond.instanceMethod ⟨"LevelingNetwork$History", "popInto", "(LLevelingNetwork$Survey;)V"⟩ ∈ jk_WS := jk_wt7 (i := 141) (by decide +kernel) rfl
theorem jw_1582 : Cond.selects "LevelingNetwork$History" ⟨"LevelingNetwork$History", "popInto", "(LLevelingNetwork$Survey;)V"⟩ ⟨"LevelingNetwork$History", "popInto", "(LLevelingNetwork$Survey;)V"⟩ ∈ jk_WS := jk_wt7 (i := 142) (by decide +kernel) rfl
