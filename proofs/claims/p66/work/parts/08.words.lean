def jk_dummyW : Nat := 0
theorem jk_wt1 {i : Nat} {w : Cond} (h : tables_1_1[i]? = some w) (hk : jk_kw w = true) : w ∈ jk_WS := jk_ws (List.mem_append_right (k2_sels lw_privs) (List.mem_append_left _ (List.mem_of_getElem? h))) hk
theorem jk_wt2 {i : Nat} {w : Cond} (h : tables_1_2[i]? = some w) (hk : jk_kw w = true) : w ∈ jk_WS := jk_ws (List.mem_append_right (k2_sels lw_privs) (List.mem_append_right _ (List.mem_append_left _ (List.mem_of_getElem? h)))) hk
theorem jk_wt3 {i : Nat} {w : Cond} (h : tables_1_3[i]? = some w) (hk : jk_kw w = true) : w ∈ jk_WS := jk_ws (List.mem_append_right (k2_sels lw_privs) (List.mem_append_right _ (List.mem_append_right _ (List.mem_append_left _ (List.mem_of_getElem? h))))) hk
theorem jk_wt4 {i : Nat} {w : Cond} (h : tables_1_4[i]? = some w) (hk : jk_kw w = true) : w ∈ jk_WS := jk_ws (List.mem_append_right (k2_sels lw_privs) (List.mem_append_right _ (List.mem_append_right _ (List.mem_append_right _ (List.mem_append_left _ (List.mem_of_getElem? h)))))) hk
theorem jk_wt5 {i : Nat} {w : Cond} (h : tables_1_5[i]? = some w) (hk : jk_kw w = true) : w ∈ jk_WS := jk_ws (List.mem_append_right (k2_sels lw_privs) (List.mem_append_right _ (List.mem_append_right _ (List.mem_append_right _ (List.mem_append_right _ (List.mem_append_left _ (List.mem_of_getElem? h))))))) hk
theorem jk_wt6 {i : Nat} {w : Cond} (h : tables_1_6[i]? = some w) (hk : jk_kw w = true) : w ∈ jk_WS := jk_ws (List.mem_append_right (k2_sels lw_privs) (List.mem_append_right _ (List.mem_append_right _ (List.mem_append_right _ (List.mem_append_right _ (List.mem_append_right _ (List.mem_append_left _ (List.mem_of_getElem? h)))))))) hk
theorem jk_wt7 {i : Nat} {w : Cond} (h : tables_1_7[i]? = some w) (hk : jk_kw w = true) : w ∈ jk_WS := jk_ws (List.mem_append_right (k2_sels lw_privs) (List.mem_append_right _ (List.mem_append_right _ (List.mem_append_right _ (List.mem_append_right _ (List.mem_append_right _ (List.mem_append_right _ (List.mem_append_left _ (List.mem_of_getElem? h))))))))) hk
theorem jk_wt8 {i : Nat} {w : Cond} (h : tables_1_8[i]? = some w) (hk : jk_kw w = true) : w ∈ jk_WS := jk_ws (List.mem_append_right (k2_sels lw_privs) (List.mem_append_right _ (List.mem_append_right _ (List.mem_append_right _ (List.mem_append_right _ (List.mem_append_right _ (List.mem_append_right _ (List.mem_append_right _ (List.mem_of_getElem? h))))))))) hk
theorem jk_wts {i : Nat} {w : Cond} (h : (k2_sels lw_privs)[i]? = some w) (hk : jk_kw w = true) : w ∈ jk_WS := jk_ws (List.mem_append_left tables_1 (List.mem_of_getElem? h)) hk
theorem jw_0 : Cond.initialized "LevelingNetworkLaw" ∈ jk_WS := jk_wt1 (i := 0) (by decide +kernel) rfl
theorem jw_1 : Cond.initialized "LevelingNetwork" ∈ jk_WS := jk_wt1 (i := 1) (by decide +kernel) rfl
theorem jw_2 : Cond.initialized "LevelingNetwork$Survey" ∈ jk_WS := jk_wt1 (i := 2) (by decide +kernel) rfl
theorem jw_3 : Cond.initialized "LevelingNetwork$History" ∈ jk_WS := jk_wt1 (i := 3) (by decide +kernel) rfl
theorem jw_4 : Cond.initialized "LevelingNetwork$Forest" ∈ jk_WS := jk_wt1 (i := 4) (by decide +kernel) rfl
theorem jw_5 : Cond.initialized "LevelingNetwork$Way" ∈ jk_WS := jk_wt1 (i := 5) (by decide +kernel) rfl
theorem jw_6 : Cond.initialized "LevelingNetwork$Sharing" ∈ jk_WS := jk_wt1 (i := 6) (by decide +kernel) rfl
theorem jw_7 : Cond.initialized "LevelingNetwork$Heights" ∈ jk_WS := jk_wt1 (i := 7) (by decide +kernel) rfl
theorem jw_8 : Cond.initialized "LevelingNetwork$Bank" ∈ jk_WS := jk_wt1 (i := 8) (by decide +kernel) rfl
theorem jw_9 : Cond.initialized "LevelingNetwork$Changes" ∈ jk_WS := jk_wt1 (i := 9) (by decide +kernel) rfl
theorem jw_10 : Cond.initialized "LevelingNetwork$Script" ∈ jk_WS := jk_wt1 (i := 10) (by decide +kernel) rfl
theorem jw_11 : Cond.initialized "java/lang/AbstractStringBuilder" ∈ jk_WS := jk_wt1 (i := 11) (by decide +kernel) rfl
theorem jw_12 : Cond.initialized "java/lang/StringBuilder" ∈ jk_WS := jk_wt1 (i := 12) (by decide +kernel) rfl
theorem jw_13 : Cond.initialized "java/lang/String" ∈ jk_WS := jk_wt1 (i := 13) (by decide +kernel) rfl
theorem jw_14 : Cond.initialized "java/lang/StringUTF16" ∈ jk_WS := jk_wt1 (i := 14) (by decide +kernel) rfl
theorem jw_15 : Cond.initialized "java/lang/Throwable" ∈ jk_WS := jk_wt1 (i := 15) (by decide +kernel) rfl
theorem jw_16 : Cond.initialized "java/lang/Exception" ∈ jk_WS := jk_wt1 (i := 16) (by decide +kernel) rfl
theorem jw_17 : Cond.initialized "java/lang/RuntimeException" ∈ jk_WS := jk_wt1 (i := 17) (by decide +kernel) rfl
theorem jw_18 : Cond.initialized "java/lang/IndexOutOfBoundsException" ∈ jk_WS := jk_wt1 (i := 18) (by decide +kernel) rfl
theorem jw_19 : Cond.initialized "java/lang/ArrayIndexOutOfBoundsException" ∈ jk_WS := jk_wt1 (i := 19) (by decide +kernel) rfl
theorem jw_20 : Cond.initialized "java/lang/Enum" ∈ jk_WS := jk_wt1 (i := 20) (by decide +kernel) rfl
theorem jw_21 : Cond.initialized "LevelingNetwork$Kind" ∈ jk_WS := jk_wt1 (i := 21) (by decide +kernel) rfl
theorem jw_22 : Cond.initialized "LevelingNetwork$1" ∈ jk_WS := jk_wt1 (i := 22) (by decide +kernel) rfl
theorem jw_23 : Cond.initialized "LevelingNetwork$Trouble" ∈ jk_WS := jk_wt1 (i := 23) (by decide +kernel) rfl
theorem jw_24 : Cond.initialized "java/lang/Math" ∈ jk_WS := jk_wt1 (i := 24) (by decide +kernel) rfl
theorem jw_25 : Cond.initialized "java/lang/IllegalArgumentException" ∈ jk_WS := jk_wt1 (i := 25) (by decide +kernel) rfl
theorem jw_26 : Cond.initialized "java/lang/IllegalStateException" ∈ jk_WS := jk_wt1 (i := 26) (by decide +kernel) rfl
theorem jw_27 : Cond.initialized "java/util/NoSuchElementException" ∈ jk_WS := jk_wt1 (i := 27) (by decide +kernel) rfl
theorem jw_28 : Cond.initialized "java/lang/UnsupportedOperationException" ∈ jk_WS := jk_wt1 (i := 28) (by decide +kernel) rfl
theorem jw_29 : Cond.initialized "java/lang/StringLatin1" ∈ jk_WS := jk_wt1 (i := 29) (by decide +kernel) rfl
theorem jw_30 : Cond.initialized "jdk/internal/util/Preconditions" ∈ jk_WS := jk_wt1 (i := 30) (by decide +kernel) rfl
theorem jw_31 : Cond.initialized "jdk/internal/util/ArraysSupport" ∈ jk_WS := jk_wt1 (i := 31) (by decide +kernel) rfl
theorem jw_32 : Cond.initialized "java/util/Arrays" ∈ jk_WS := jk_wt1 (i := 32) (by decide +kernel) rfl
theorem jw_33 : Cond.initialized "java/lang/System" ∈ jk_WS := jk_wt1 (i := 33) (by decide +kernel) rfl
theorem jw_34 : Cond.initialized "java/lang/Number" ∈ jk_WS := jk_wt1 (i := 34) (by decide +kernel) rfl
theorem jw_35 : Cond.initialized "java/lang/Integer" ∈ jk_WS := jk_wt1 (i := 35) (by decide +kernel) rfl
theorem jw_36 : Cond.initialized "java/lang/StringIndexOutOfBoundsException" ∈ jk_WS := jk_wt1 (i := 36) (by decide +kernel) rfl
theorem jw_37 : Cond.initialized "java/lang/ArithmeticException" ∈ jk_WS := jk_wt1 (i := 37) (by decide +kernel) rfl
theorem jw_38 : Cond.classLink "LevelingNetworkLaw" 18 "LevelingNetwork" ∈ jk_WS := jk_wt1 (i := 38) (by decide +kernel) rfl
theorem jw_39 : Cond.instantiable "LevelingNetwork" 15 ∈ jk_WS := jk_wt1 (i := 39) (by decide +kernel) rfl
theorem jw_40 : Cond.methodLink "LevelingNetworkLaw" 23 ⟨"LevelingNetwork", "<init>", "()V"⟩ ∈ jk_WS := jk_wt1 (i := 40) (by decide +kernel) rfl
theorem jw_41 : Cond.instanceMethod ⟨"LevelingNetwork", "<init>", "()V"⟩ ∈ jk_WS := jk_wt1 (i := 41) (by decide +kernel) rfl
theorem jw_42 : Cond.code ⟨"LevelingNetwork", "<init>", "()V"⟩ prog_1_method_1_code 1 (Option.none : Option ClassFile.FieldType) ∈ jk_WS := jk_wt1 (i := 42) (by decide +kernel) rfl
theorem jw_43 : Cond.methodLink "LevelingNetwork" 1 ⟨"java/lang/Object", "<init>", "()V"⟩ ∈ jk_WS := jk_wt1 (i := 43) (by decide +kernel) rfl
theorem jw_44 : Cond.instanceMethod ⟨"java/lang/Object", "<init>", "()V"⟩ ∈ jk_WS := jk_wt1 (i := 44) (by decide +kernel) rfl
theorem jw_45 : Cond.code ⟨"java/lang/Object", "<init>", "()V"⟩ object_method_1_code 1 (Option.none : Option ClassFile.FieldType) ∈ jk_WS := jk_wt1 (i := 45) (by decide +kernel) rfl
theorem jw_46 : Cond.classLink "LevelingNetwork" 7 "LevelingNetwork$Survey" ∈ jk_WS := jk_wt1 (i := 46) (by decide +kernel) rfl
theorem jw_47 : Cond.instantiable "LevelingNetwork$Survey" 18 ∈ jk_WS := jk_wt1 (i := 47) (by decide +kernel) rfl
theorem jw_48 : Cond.methodLinkNest "LevelingNetwork" 9 ⟨"LevelingNetwork$Survey", "<init>", "()V"⟩ "LevelingNetwork" ∈ jk_WS := jk_wt1 (i := 48) (by decide +kernel) rfl
theorem jw_49 : Cond.instanceMethod ⟨"LevelingNetwork$Survey", "<init>", "()V"⟩ ∈ jk_WS := jk_wt1 (i := 49) (by decide +kernel) rfl
theorem jw_50 : Cond.code ⟨"LevelingNetwork$Survey", "<init>", "()V"⟩ prog_11_method_1_code 1 (Option.none : Option ClassFile.FieldType) ∈ jk_WS := jk_wt1 (i := 50) (by decide +kernel) rfl
theorem jw_51 : Cond.methodLink "LevelingNetwork$Survey" 3 ⟨"java/lang/Object", "<init>", "()V"⟩ ∈ jk_WS := jk_wt1 (i := 51) (by decide +kernel) rfl
theorem jw_52 : Cond.classLink "LevelingNetwork$Survey" 49 "[[I" ∈ jk_WS := jk_wt1 (i := 52) (by decide +kernel) rfl
theorem jw_53 : Cond.arrayOver (ClassFile.FieldType.array ClassFile.FieldType.int) ∈ jk_WS := jk_wt1 (i := 53) (by decide +kernel) rfl
theorem jw_54 : Cond.fieldLink "LevelingNetwork$Heights" 36 "LevelingNetwork$Survey" "benchmarks" "I" ∈ jk_WS := jk_wt1 (i := 54) (by decide +kernel) rfl
theorem jw_55 : Cond.fieldLink "LevelingNetwork$Changes" 39 "LevelingNetwork$Survey" "benchmarks" "I" ∈ jk_WS := jk_wt1 (i := 55) (by decide +kernel) rfl
theorem jw_56 : Cond.fieldLink "LevelingNetwork$Survey" 71 "LevelingNetwork$Survey" "benchmarks" "I" ∈ jk_WS := jk_wt1 (i := 56) (by decide +kernel) rfl
theorem jw_57 : Cond.fieldLink "LevelingNetwork$Forest" 67 "LevelingNetwork$Survey" "benchmarks" "I" ∈ jk_WS := jk_wt1 (i := 57) (by decide +kernel) rfl
theorem jw_58 : Cond.fieldLink "LevelingNetwork" 141 "LevelingNetwork$Survey" "benchmarks" "I" ∈ jk_WS := jk_wt1 (i := 58) (by decide +kernel) rfl
theorem jw_59 : Cond.fieldLink "LevelingNetwork$Survey" 9 "LevelingNetwork$Survey" "fixed" "[Z" ∈ jk_WS := jk_wt1 (i := 59) (by decide +kernel) rfl
theorem jw_60 : Cond.fieldLink "LevelingNetwork$Heights" 42 "LevelingNetwork$Survey" "fixed" "[Z" ∈ jk_WS := jk_wt1 (i := 60) (by decide +kernel) rfl
theorem jw_61 : Cond.fieldLink "LevelingNetwork$Changes" 106 "LevelingNetwork$Survey" "fixed" "[Z" ∈ jk_WS := jk_wt1 (i := 61) (by decide +kernel) rfl
theorem jw_62 : Cond.fieldLink "LevelingNetwork" 148 "LevelingNetwork$Survey" "fixed" "[Z" ∈ jk_WS := jk_wt1 (i := 62) (by decide +kernel) rfl
theorem jw_63 : Cond.fieldLink "LevelingNetwork$Survey" 15 "LevelingNetwork$Survey" "fixedHeight" "[I" ∈ jk_WS := jk_wt1 (i := 63) (by decide +kernel) rfl
theorem jw_64 : Cond.fieldLink "LevelingNetwork$Heights" 54 "LevelingNetwork$Survey" "fixedHeight" "[I" ∈ jk_WS := jk_wt1 (i := 64) (by decide +kernel) rfl
theorem jw_65 : Cond.fieldLink "LevelingNetwork$Changes" 176 "LevelingNetwork$Survey" "fixedHeight" "[I" ∈ jk_WS := jk_wt1 (i := 65) (by decide +kernel) rfl
theorem jw_66 : Cond.fieldLink "LevelingNetwork" 179 "LevelingNetwork$Survey" "fixedHeight" "[I" ∈ jk_WS := jk_wt1 (i := 66) (by decide +kernel) rfl
theorem jw_67 : Cond.fieldLink "LevelingNetwork$Forest" 40 "LevelingNetwork$Survey" "lines" "I" ∈ jk_WS := jk_wt1 (i := 67) (by decide +kernel) rfl
theorem jw_68 : Cond.fieldLink "LevelingNetwork$Survey" 74 "LevelingNetwork$Survey" "lines" "I" ∈ jk_WS := jk_wt1 (i := 68) (by decide +kernel) rfl
theorem jw_69 : Cond.fieldLink "LevelingNetwork$Way" 46 "LevelingNetwork$Survey" "lines" "I" ∈ jk_WS := jk_wt1 (i := 69) (by decide +kernel) rfl
theorem jw_70 : Cond.fieldLink "LevelingNetwork$Changes" 113 "LevelingNetwork$Survey" "lines" "I" ∈ jk_WS := jk_wt1 (i := 70) (by decide +kernel) rfl
theorem jw_71 : Cond.fieldLink "LevelingNetwork$Heights" 84 "LevelingNetwork$Survey" "lines" "I" ∈ jk_WS := jk_wt1 (i := 71) (by decide +kernel) rfl
theorem jw_72 : Cond.fieldLink "LevelingNetwork" 193 "LevelingNetwork$Survey" "lines" "I" ∈ jk_WS := jk_wt1 (i := 72) (by decide +kernel) rfl
theorem jw_73 : Cond.fieldLink "LevelingNetwork$Survey" 19 "LevelingNetwork$Survey" "first" "[I" ∈ jk_WS := jk_wt1 (i := 73) (by decide +kernel) rfl
theorem jw_74 : Cond.fieldLink "LevelingNetwork$Way" 34 "LevelingNetwork$Survey" "first" "[I" ∈ jk_WS := jk_wt1 (i := 74) (by decide +kernel) rfl
theorem jw_75 : Cond.fieldLink "LevelingNetwork$Forest" 52 "LevelingNetwork$Survey" "first" "[I" ∈ jk_WS := jk_wt1 (i := 75) (by decide +kernel) rfl
theorem jw_76 : Cond.fieldLink "LevelingNetwork$Heights" 71 "LevelingNetwork$Survey" "first" "[I" ∈ jk_WS := jk_wt1 (i := 76) (by decide +kernel) rfl
theorem jw_77 : Cond.fieldLink "LevelingNetwork$Changes" 211 "LevelingNetwork$Survey" "first" "[I" ∈ jk_WS := jk_wt1 (i := 77) (by decide +kernel) rfl
theorem jw_78 : Cond.fieldLink "LevelingNetwork" 199 "LevelingNetwork$Survey" "first" "[I" ∈ jk_WS := jk_wt1 (i := 78) (by decide +kernel) rfl
theorem jw_79 : Cond.fieldLink "LevelingNetwork$Survey" 22 "LevelingNetwork$Survey" "second" "[I" ∈ jk_WS := jk_wt1 (i := 79) (by decide +kernel) rfl
theorem jw_80 : Cond.fieldLink "LevelingNetwork$Way" 43 "LevelingNetwork$Survey" "second" "[I" ∈ jk_WS := jk_wt1 (i := 80) (by decide +kernel) rfl
theorem jw_81 : Cond.fieldLink "LevelingNetwork$Forest" 55 "LevelingNetwork$Survey" "second" "[I" ∈ jk_WS := jk_wt1 (i := 81) (by decide +kernel) rfl
theorem jw_82 : Cond.fieldLink "LevelingNetwork$Heights" 74 "LevelingNetwork$Survey" "second" "[I" ∈ jk_WS := jk_wt1 (i := 82) (by decide +kernel) rfl
theorem jw_83 : Cond.fieldLink "LevelingNetwork$Changes" 214 "LevelingNetwork$Survey" "second" "[I" ∈ jk_WS := jk_wt1 (i := 83) (by decide +kernel) rfl
theorem jw_84 : Cond.fieldLink "LevelingNetwork" 202 "LevelingNetwork$Survey" "second" "[I" ∈ jk_WS := jk_wt1 (i := 84) (by decide +kernel) rfl
theorem jw_85 : Cond.fieldLink "LevelingNetwork$Survey" 25 "LevelingNetwork$Survey" "length" "[I" ∈ jk_WS := jk_wt1 (i := 85) (by decide +kernel) rfl
theorem jw_86 : Cond.fieldLink "LevelingNetwork$Sharing" 44 "LevelingNetwork$Survey" "length" "[I" ∈ jk_WS := jk_wt1 (i := 86) (by decide +kernel) rfl
theorem jw_87 : Cond.fieldLink "LevelingNetwork$Forest" 49 "LevelingNetwork$Survey" "length" "[I" ∈ jk_WS := jk_wt1 (i := 87) (by decide +kernel) rfl
theorem jw_88 : Cond.fieldLink "LevelingNetwork$Way" 62 "LevelingNetwork$Survey" "length" "[I" ∈ jk_WS := jk_wt1 (i := 88) (by decide +kernel) rfl
theorem jw_89 : Cond.fieldLink "LevelingNetwork$Changes" 217 "LevelingNetwork$Survey" "length" "[I" ∈ jk_WS := jk_wt1 (i := 89) (by decide +kernel) rfl
theorem jw_90 : Cond.fieldLink "LevelingNetwork" 205 "LevelingNetwork$Survey" "length" "[I" ∈ jk_WS := jk_wt1 (i := 90) (by decide +kernel) rfl
theorem jw_91 : Cond.fieldLink "LevelingNetwork$Survey" 28 "LevelingNetwork$Survey" "forward" "[I" ∈ jk_WS := jk_wt1 (i := 91) (by decide +kernel) rfl
theorem jw_92 : Cond.fieldLink "LevelingNetwork$Changes" 220 "LevelingNetwork$Survey" "forward" "[I" ∈ jk_WS := jk_wt1 (i := 92) (by decide +kernel) rfl
theorem jw_93 : Cond.fieldLink "LevelingNetwork$Survey" 31 "LevelingNetwork$Survey" "backward" "[I" ∈ jk_WS := jk_wt1 (i := 93) (by decide +kernel) rfl
theorem jw_94 : Cond.fieldLink "LevelingNetwork$Changes" 186 "LevelingNetwork$Survey" "backward" "[I" ∈ jk_WS := jk_wt1 (i := 94) (by decide +kernel) rfl
theorem jw_95 : Cond.fieldLink "LevelingNetwork$Survey" 34 "LevelingNetwork$Survey" "doubleRun" "[Z" ∈ jk_WS := jk_wt1 (i := 95) (by decide +kernel) rfl
theorem jw_96 : Cond.fieldLink "LevelingNetwork$Changes" 119 "LevelingNetwork$Survey" "doubleRun" "[Z" ∈ jk_WS := jk_wt1 (i := 96) (by decide +kernel) rfl
theorem jw_97 : Cond.fieldLink "LevelingNetwork" 214 "LevelingNetwork$Survey" "doubleRun" "[Z" ∈ jk_WS := jk_wt1 (i := 97) (by decide +kernel) rfl
theorem jw_98 : Cond.fieldLink "LevelingNetwork$Survey" 37 "LevelingNetwork$Survey" "excluded" "[Z" ∈ jk_WS := jk_wt1 (i := 98) (by decide +kernel) rfl
theorem jw_99 : Cond.fieldLink "LevelingNetwork$Changes" 122 "LevelingNetwork$Survey" "excluded" "[Z" ∈ jk_WS := jk_wt1 (i := 99) (by decide +kernel) rfl
theorem jw_100 : Cond.fieldLink "LevelingNetwork" 222 "LevelingNetwork$Survey" "excluded" "[Z" ∈ jk_WS := jk_wt1 (i := 100) (by decide +kernel) rfl
theorem jw_101 : Cond.fieldLink "LevelingNetwork$Survey" 40 "LevelingNetwork$Survey" "correction" "[I" ∈ jk_WS := jk_wt1 (i := 101) (by decide +kernel) rfl
theorem jw_102 : Cond.fieldLink "LevelingNetwork$Sharing" 53 "LevelingNetwork$Survey" "correction" "[I" ∈ jk_WS := jk_wt1 (i := 102) (by decide +kernel) rfl
theorem jw_103 : Cond.fieldLink "LevelingNetwork$Changes" 223 "LevelingNetwork$Survey" "correction" "[I" ∈ jk_WS := jk_wt1 (i := 103) (by decide +kernel) rfl
theorem jw_104 : Cond.fieldLink "LevelingNetwork" 211 "LevelingNetwork$Survey" "correction" "[I" ∈ jk_WS := jk_wt1 (i := 104) (by decide +kernel) rfl
theorem jw_105 : Cond.fieldLink "LevelingNetwork$Survey" 77 "LevelingNetwork$Survey" "profiles" "I" ∈ jk_WS := jk_wt1 (i := 105) (by decide +kernel) rfl
theorem jw_106 : Cond.fieldLink "LevelingNetwork$Changes" 160 "LevelingNetwork$Survey" "profiles" "I" ∈ jk_WS := jk_wt1 (i := 106) (by decide +kernel) rfl
theorem jw_107 : Cond.fieldLink "LevelingNetwork" 286 "LevelingNetwork$Survey" "profiles" "I" ∈ jk_WS := jk_wt1 (i := 107) (by decide +kernel) rfl
theorem jw_108 : Cond.fieldLink "LevelingNetwork$Survey" 43 "LevelingNetwork$Survey" "site" "[I" ∈ jk_WS := jk_wt1 (i := 108) (by decide +kernel) rfl
theorem jw_109 : Cond.fieldLink "LevelingNetwork$Changes" 235 "LevelingNetwork$Survey" "site" "[I" ∈ jk_WS := jk_wt1 (i := 109) (by decide +kernel) rfl
theorem jw_110 : Cond.fieldLink "LevelingNetwork" 304 "LevelingNetwork$Survey" "site" "[I" ∈ jk_WS := jk_wt1 (i := 110) (by decide +kernel) rfl
theorem jw_111 : Cond.fieldLink "LevelingNetwork$Survey" 46 "LevelingNetwork$Survey" "stations" "[I" ∈ jk_WS := jk_wt1 (i := 111) (by decide +kernel) rfl
theorem jw_112 : Cond.fieldLink "LevelingNetwork$Bank" 32 "LevelingNetwork$Survey" "stations" "[I" ∈ jk_WS := jk_wt1 (i := 112) (by decide +kernel) rfl
theorem jw_113 : Cond.fieldLink "LevelingNetwork$Changes" 166 "LevelingNetwork$Survey" "stations" "[I" ∈ jk_WS := jk_wt1 (i := 113) (by decide +kernel) rfl
theorem jw_114 : Cond.fieldLink "LevelingNetwork" 292 "LevelingNetwork$Survey" "stations" "[I" ∈ jk_WS := jk_wt1 (i := 114) (by decide +kernel) rfl
theorem jw_115 : Cond.fieldLink "LevelingNetwork$Survey" 51 "LevelingNetwork$Survey" "distance" "[[I" ∈ jk_WS := jk_wt1 (i := 115) (by decide +kernel) rfl
theorem jw_116 : Cond.fieldLink "LevelingNetwork$Bank" 26 "LevelingNetwork$Survey" "distance" "[[I" ∈ jk_WS := jk_wt1 (i := 116) (by decide +kernel) rfl
theorem jw_117 : Cond.fieldLink "LevelingNetwork$Changes" 169 "LevelingNetwork$Survey" "distance" "[[I" ∈ jk_WS := jk_wt1 (i := 117) (by decide +kernel) rfl
theorem jw_118 : Cond.fieldLink "LevelingNetwork$Survey" 54 "LevelingNetwork$Survey" "offset" "[[I" ∈ jk_WS := jk_wt1 (i := 118) (by decide +kernel) rfl
theorem jw_119 : Cond.fieldLink "LevelingNetwork$Bank" 36 "LevelingNetwork$Survey" "offset" "[[I" ∈ jk_WS := jk_wt1 (i := 119) (by decide +kernel) rfl
theorem jw_120 : Cond.fieldLink "LevelingNetwork$Changes" 238 "LevelingNetwork$Survey" "offset" "[[I" ∈ jk_WS := jk_wt1 (i := 120) (by decide +kernel) rfl
theorem jw_121 : Cond.fieldLink "LevelingNetwork$Survey" 67 "LevelingNetwork$Survey" "water" "I" ∈ jk_WS := jk_wt1 (i := 121) (by decide +kernel) rfl
theorem jw_122 : Cond.fieldLink "LevelingNetwork$Changes" 241 "LevelingNetwork$Survey" "water" "I" ∈ jk_WS := jk_wt1 (i := 122) (by decide +kernel) rfl
theorem jw_123 : Cond.fieldLink "LevelingNetwork" 295 "LevelingNetwork$Survey" "water" "I" ∈ jk_WS := jk_wt1 (i := 123) (by decide +kernel) rfl
theorem jw_124 : Cond.lays "LevelingNetwork$Survey" "LevelingNetwork$Survey" "benchmarks" "I" ∈ jk_WS := jk_wt1 (i := 124) (by decide +kernel) rfl
theorem jw_126 : Cond.laysFinal "LevelingNetwork$Survey" "LevelingNetwork$Survey" "fixed" "[Z" ∈ jk_WS := jk_wt1 (i := 126) (by decide +kernel) rfl
theorem jw_128 : Cond.laysFinal "LevelingNetwork$Survey" "LevelingNetwork$Survey" "fixedHeight" "[I" ∈ jk_WS := jk_wt1 (i := 128) (by decide +kernel) rfl
theorem jw_130 : Cond.lays "LevelingNetwork$Survey" "LevelingNetwork$Survey" "lines" "I" ∈ jk_WS := jk_wt1 (i := 130) (by decide +kernel) rfl
theorem jw_132 : Cond.laysFinal "LevelingNetwork$Survey" "LevelingNetwork$Survey" "first" "[I" ∈ jk_WS := jk_wt1 (i := 132) (by decide +kernel) rfl
theorem jw_134 : Cond.laysFinal "LevelingNetwork$Survey" "LevelingNetwork$Survey" "second" "[I" ∈ jk_WS := jk_wt1 (i := 134) (by decide +kernel) rfl
theorem jw_136 : Cond.laysFinal "LevelingNetwork$Survey" "LevelingNetwork$Survey" "length" "[I" ∈ jk_WS := jk_wt1 (i := 136) (by decide +kernel) rfl
theorem jw_138 : Cond.laysFinal "LevelingNetwork$Survey" "LevelingNetwork$Survey" "forward" "[I" ∈ jk_WS := jk_wt1 (i := 138) (by decide +kernel) rfl
theorem jw_140 : Cond.laysFinal "LevelingNetwork$Survey" "LevelingNetwork$Survey" "backward" "[I" ∈ jk_WS := jk_wt1 (i := 140) (by decide +kernel) rfl
theorem jw_142 : Cond.laysFinal "LevelingNetwork$Survey" "LevelingNetwork$Survey" "doubleRun" "[Z" ∈ jk_WS := jk_wt1 (i := 142) (by decide +kernel) rfl
theorem jw_144 : Cond.laysFinal "LevelingNetwork$Survey" "LevelingNetwork$Survey" "excluded" "[Z" ∈ jk_WS := jk_wt1 (i := 144) (by decide +kernel) rfl
theorem jw_146 : Cond.laysFinal "LevelingNetwork$Survey" "LevelingNetwork$Survey" "correction" "[I" ∈ jk_WS := jk_wt1 (i := 146) (by decide +kernel) rfl
theorem jw_148 : Cond.lays "LevelingNetwork$Survey" "LevelingNetwork$Survey" "profiles" "I" ∈ jk_WS := jk_wt1 (i := 148) (by decide +kernel) rfl
theorem jw_150 : Cond.laysFinal "LevelingNetwork$Survey" "LevelingNetwork$Survey" "site" "[I" ∈ jk_WS := jk_wt1 (i := 150) (by decide +kernel) rfl
theorem jw_152 : Cond.laysFinal "LevelingNetwork$Survey" "LevelingNetwork$Survey" "stations" "[I" ∈ jk_WS := jk_wt1 (i := 152) (by decide +kernel) rfl
theorem jw_154 : Cond.laysFinal "LevelingNetwork$Survey" "LevelingNetwork$Survey" "distance" "[[I" ∈ jk_WS := jk_wt1 (i := 154) (by decide +kernel) rfl
theorem jw_156 : Cond.laysFinal "LevelingNetwork$Survey" "LevelingNetwork$Survey" "offset" "[[I" ∈ jk_WS := jk_wt1 (i := 156) (by decide +kernel) rfl
theorem jw_158 : Cond.lays "LevelingNetwork$Survey" "LevelingNetwork$Survey" "water" "I" ∈ jk_WS := jk_wt1 (i := 158) (by decide +kernel) rfl
theorem jw_160 : Cond.superclass "LevelingNetwork$Survey" "java/lang/Object" ∈ jk_WS := jk_wt1 (i := 160) (by decide +kernel) rfl
theorem jw_161 : Cond.arrayClass ClassFile.FieldType.boolean ∈ jk_WS := jk_wt1 (i := 161) (by decide +kernel) rfl
theorem jw_162 : Cond.arrayClass ClassFile.FieldType.int ∈ jk_WS := jk_wt1 (i := 162) (by decide +kernel) rfl
theorem jw_163 : Cond.classLink "LevelingNetwork" 22 "LevelingNetwork$History" ∈ jk_WS := jk_wt1 (i := 163) (by decide +kernel) rfl
theorem jw_164 : Cond.instantiable "LevelingNetwork$History" 3 ∈ jk_WS := jk_wt1 (i := 164) (by decide +kernel) rfl
theorem jw_165 : Cond.methodLink "LevelingNetwork" 24 ⟨"LevelingNetwork$History", "<init>", "()V"⟩ ∈ jk_WS := jk_wt1 (i := 165) (by decide +kernel) rfl
theorem jw_166 : Cond.instanceMethod ⟨"LevelingNetwork$History", "<init>", "()V"⟩ ∈ jk_WS := jk_wt1 (i := 166) (by decide +kernel) rfl
theorem jw_167 : Cond.code ⟨"LevelingNetwork$History", "<init>", "()V"⟩ prog_7_method_1_code 2 (Option.none : Option ClassFile.FieldType) ∈ jk_WS := jk_wt1 (i := 167) (by decide +kernel) rfl
theorem jw_168 : Cond.methodLink "LevelingNetwork$History" 3 ⟨"java/lang/Object", "<init>", "()V"⟩ ∈ jk_WS := jk_wt1 (i := 168) (by decide +kernel) rfl
theorem jw_169 : Cond.classLink "LevelingNetwork$History" 9 "LevelingNetwork$Survey" ∈ jk_WS := jk_wt1 (i := 169) (by decide +kernel) rfl
theorem jw_170 : Cond.arrayOver (ClassFile.FieldType.object "LevelingNetwork$Survey") ∈ jk_WS := jk_wt1 (i := 170) (by decide +kernel) rfl
theorem jw_171 : Cond.methodLinkNest "LevelingNetwork$History" 17 ⟨"LevelingNetwork$Survey", "<init>", "()V"⟩ "LevelingNetwork" ∈ jk_WS := jk_wt1 (i := 171) (by decide +kernel) rfl
theorem jw_172 : Cond.fieldLink "LevelingNetwork$History" 11 "LevelingNetwork$History" "past" "[LLevelingNetwork$Survey;" ∈ jk_WS := jk_wt1 (i := 172) (by decide +kernel) rfl
theorem jw_173 : Cond.fieldLink "LevelingNetwork$History" 18 "LevelingNetwork$History" "next" "I" ∈ jk_WS := jk_wt1 (i := 173) (by decide +kernel) rfl
theorem jw_174 : Cond.fieldLink "LevelingNetwork$History" 26 "LevelingNetwork$History" "size" "I" ∈ jk_WS := jk_wt1 (i := 174) (by decide +kernel) rfl
theorem jw_175 : Cond.fieldLink "LevelingNetwork" 416 "LevelingNetwork$History" "size" "I" ∈ jk_WS := jk_wt1 (i := 175) (by decide +kernel) rfl
theorem jw_176 : Cond.laysFinal "LevelingNetwork$History" "LevelingNetwork$History" "past" "[LLevelingNetwork$Survey;" ∈ jk_WS := jk_wt1 (i := 176) (by decide +kernel) rfl
theorem jw_178 : Cond.lays "LevelingNetwork$History" "LevelingNetwork$History" "next" "I" ∈ jk_WS := jk_wt1 (i := 178) (by decide +kernel) rfl
theorem jw_180 : Cond.lays "LevelingNetwork$History" "LevelingNetwork$History" "size" "I" ∈ jk_WS := jk_wt1 (i := 180) (by decide +kernel) rfl
theorem jw_182 : Cond.superclass "LevelingNetwork$History" "java/lang/Object" ∈ jk_WS := jk_wt1 (i := 182) (by decide +kernel) rfl
theorem jw_183 : Cond.classLink "LevelingNetwork" 29 "LevelingNetwork$Forest" ∈ jk_WS := jk_wt1 (i := 183) (by decide +kernel) rfl
theorem jw_184 : Cond.instantiable "LevelingNetwork$Forest" 6 ∈ jk_WS := jk_wt1 (i := 184) (by decide +kernel) rfl
theorem jw_185 : Cond.methodLink "LevelingNetwork" 31 ⟨"LevelingNetwork$Forest", "<init>", "(LLevelingNetwork$Survey;)V"⟩ ∈ jk_WS := jk_wt1 (i := 185) (by decide +kernel) rfl
theorem jw_186 : Cond.instanceMethod ⟨"LevelingNetwork$Forest", "<init>", "(LLevelingNetwork$Survey;)V"⟩ ∈ jk_WS := jk_wt1 (i := 186) (by decide +kernel) rfl
theorem jw_187 : Cond.code ⟨"LevelingNetwork$Forest", "<init>", "(LLevelingNetwork$Survey;)V"⟩ prog_5_method_1_code 2 (Option.none : Option ClassFile.FieldType) ∈ jk_WS := jk_wt1 (i := 187) (by decide +kernel) rfl
theorem jw_188 : Cond.methodLink "LevelingNetwork$Forest" 3 ⟨"java/lang/Object", "<init>", "()V"⟩ ∈ jk_WS := jk_wt1 (i := 188) (by decide +kernel) rfl
theorem jw_189 : Cond.fieldLink "LevelingNetwork$Forest" 25 "LevelingNetwork$Forest" "survey" "LLevelingNetwork$Survey;" ∈ jk_WS := jk_wt1 (i := 189) (by decide +kernel) rfl
theorem jw_190 : Cond.fieldLink "LevelingNetwork$Forest" 9 "LevelingNetwork$Forest" "order" "[I" ∈ jk_WS := jk_wt1 (i := 190) (by decide +kernel) rfl
theorem jw_191 : Cond.fieldLink "LevelingNetwork$Forest" 32 "LevelingNetwork$Forest" "ordered" "I" ∈ jk_WS := jk_wt1 (i := 191) (by decide +kernel) rfl
theorem jw_192 : Cond.fieldLink "LevelingNetwork$Forest" 15 "LevelingNetwork$Forest" "reached" "[Z" ∈ jk_WS := jk_wt1 (i := 192) (by decide +kernel) rfl
theorem jw_193 : Cond.fieldLink "LevelingNetwork$Forest" 19 "LevelingNetwork$Forest" "taken" "[Z" ∈ jk_WS := jk_wt1 (i := 193) (by decide +kernel) rfl
theorem jw_194 : Cond.fieldLink "LevelingNetwork$Way" 52 "LevelingNetwork$Forest" "taken" "[Z" ∈ jk_WS := jk_wt1 (i := 194) (by decide +kernel) rfl
theorem jw_195 : Cond.fieldLink "LevelingNetwork$Heights" 87 "LevelingNetwork$Forest" "taken" "[Z" ∈ jk_WS := jk_wt1 (i := 195) (by decide +kernel) rfl
theorem jw_196 : Cond.fieldLink "LevelingNetwork" 243 "LevelingNetwork$Forest" "taken" "[Z" ∈ jk_WS := jk_wt1 (i := 196) (by decide +kernel) rfl
theorem jw_197 : Cond.fieldLink "LevelingNetwork$Forest" 22 "LevelingNetwork$Forest" "root" "[I" ∈ jk_WS := jk_wt1 (i := 197) (by decide +kernel) rfl
theorem jw_198 : Cond.fieldLink "LevelingNetwork$Heights" 45 "LevelingNetwork$Forest" "root" "[I" ∈ jk_WS := jk_wt1 (i := 198) (by decide +kernel) rfl
theorem jw_199 : Cond.laysFinal "LevelingNetwork$Forest" "LevelingNetwork$Forest" "survey" "LLevelingNetwork$Survey;" ∈ jk_WS := jk_wt1 (i := 199) (by decide +kernel) rfl
theorem jw_201 : Cond.laysFinal "LevelingNetwork$Forest" "LevelingNetwork$Forest" "order" "[I" ∈ jk_WS := jk_wt1 (i := 201) (by decide +kernel) rfl
theorem jw_203 : Cond.lays "LevelingNetwork$Forest" "LevelingNetwork$Forest" "ordered" "I" ∈ jk_WS := jk_wt1 (i := 203) (by decide +kernel) rfl
theorem jw_205 : Cond.laysFinal "LevelingNetwork$Forest" "LevelingNetwork$Forest" "reached" "[Z" ∈ jk_WS := jk_wt1 (i := 205) (by decide +kernel) rfl
theorem jw_207 : Cond.laysFinal "LevelingNetwork$Forest" "LevelingNetwork$Forest" "taken" "[Z" ∈ jk_WS := jk_wt1 (i := 207) (by decide +kernel) rfl
theorem jw_209 : Cond.laysFinal "LevelingNetwork$Forest" "LevelingNetwork$Forest" "root" "[I" ∈ jk_WS := jk_wt1 (i := 209) (by decide +kernel) rfl
theorem jw_211 : Cond.superclass "LevelingNetwork$Forest" "java/lang/Object" ∈ jk_WS := jk_wt1 (i := 211) (by decide +kernel) rfl
theorem jw_212 : Cond.classLink "LevelingNetwork" 38 "LevelingNetwork$Way" ∈ jk_WS := jk_wt1 (i := 212) (by decide +kernel) rfl
theorem jw_213 : Cond.instantiable "LevelingNetwork$Way" 5 ∈ jk_WS := jk_wt1 (i := 213) (by decide +kernel) rfl
theorem jw_214 : Cond.methodLink "LevelingNetwork" 40 ⟨"LevelingNetwork$Way", "<init>", "(LLevelingNetwork$Survey;LLevelingNetwork$Forest;)V"⟩ ∈ jk_WS := jk_wt1 (i := 214) (by decide +kernel) rfl
theorem jw_215 : Cond.instanceMethod ⟨"LevelingNetwork$Way", "<init>", "(LLevelingNetwork$Survey;LLevelingNetwork$Forest;)V"⟩ ∈ jk_WS := jk_wt1 (i := 215) (by decide +kernel) rfl
theorem jw_216 : Cond.code ⟨"LevelingNetwork$Way", "<init>", "(LLevelingNetwork$Survey;LLevelingNetwork$Forest;)V"⟩ prog_13_method_1_code 3 (Option.none : Option ClassFile.FieldType) ∈ jk_WS := jk_wt1 (i := 216) (by decide +kernel) rfl
theorem jw_217 : Cond.methodLink "LevelingNetwork$Way" 3 ⟨"java/lang/Object", "<init>", "()V"⟩ ∈ jk_WS := jk_wt1 (i := 217) (by decide +kernel) rfl
theorem jw_218 : Cond.fieldLink "LevelingNetwork$Way" 18 "LevelingNetwork$Way" "survey" "LLevelingNetwork$Survey;" ∈ jk_WS := jk_wt1 (i := 218) (by decide +kernel) rfl
theorem jw_219 : Cond.fieldLink "LevelingNetwork$Way" 22 "LevelingNetwork$Way" "forest" "LLevelingNetwork$Forest;" ∈ jk_WS := jk_wt1 (i := 219) (by decide +kernel) rfl
theorem jw_220 : Cond.fieldLink "LevelingNetwork$Way" 9 "LevelingNetwork$Way" "lines" "[I" ∈ jk_WS := jk_wt1 (i := 220) (by decide +kernel) rfl
theorem jw_221 : Cond.fieldLink "LevelingNetwork$Sharing" 41 "LevelingNetwork$Way" "lines" "[I" ∈ jk_WS := jk_wt1 (i := 221) (by decide +kernel) rfl
theorem jw_222 : Cond.fieldLink "LevelingNetwork$Way" 15 "LevelingNetwork$Way" "signs" "[I" ∈ jk_WS := jk_wt1 (i := 222) (by decide +kernel) rfl
theorem jw_223 : Cond.fieldLink "LevelingNetwork$Sharing" 56 "LevelingNetwork$Way" "signs" "[I" ∈ jk_WS := jk_wt1 (i := 223) (by decide +kernel) rfl
theorem jw_224 : Cond.fieldLink "LevelingNetwork$Way" 26 "LevelingNetwork$Way" "size" "I" ∈ jk_WS := jk_wt1 (i := 224) (by decide +kernel) rfl
theorem jw_225 : Cond.fieldLink "LevelingNetwork$Sharing" 37 "LevelingNetwork$Way" "size" "I" ∈ jk_WS := jk_wt1 (i := 225) (by decide +kernel) rfl
theorem jw_226 : Cond.fieldLink "LevelingNetwork" 267 "LevelingNetwork$Way" "size" "I" ∈ jk_WS := jk_wt1 (i := 226) (by decide +kernel) rfl
theorem jw_227 : Cond.laysFinal "LevelingNetwork$Way" "LevelingNetwork$Way" "survey" "LLevelingNetwork$Survey;" ∈ jk_WS := jk_wt1 (i := 227) (by decide +kernel) rfl
theorem jw_229 : Cond.laysFinal "LevelingNetwork$Way" "LevelingNetwork$Way" "forest" "LLevelingNetwork$Forest;" ∈ jk_WS := jk_wt1 (i := 229) (by decide +kernel) rfl
theorem jw_231 : Cond.laysFinal "LevelingNetwork$Way" "LevelingNetwork$Way" "lines" "[I" ∈ jk_WS := jk_wt1 (i := 231) (by decide +kernel) rfl
theorem jw_233 : Cond.laysFinal "LevelingNetwork$Way" "LevelingNetwork$Way" "signs" "[I" ∈ jk_WS := jk_wt1 (i := 233) (by decide +kernel) rfl
theorem jw_235 : Cond.lays "LevelingNetwork$Way" "LevelingNetwork$Way" "size" "I" ∈ jk_WS := jk_wt1 (i := 235) (by decide +kernel) rfl
theorem jw_237 : Cond.superclass "LevelingNetwork$Way" "java/lang/Object" ∈ jk_WS := jk_wt1 (i := 237) (by decide +kernel) rfl
theorem jw_238 : Cond.classLink "LevelingNetwork" 47 "LevelingNetwork$Sharing" ∈ jk_WS := jk_wt1 (i := 238) (by decide +kernel) rfl
theorem jw_239 : Cond.instantiable "LevelingNetwork$Sharing" 3 ∈ jk_WS := jk_wt1 (i := 239) (by decide +kernel) rfl
theorem jw_240 : Cond.methodLink "LevelingNetwork" 49 ⟨"LevelingNetwork$Sharing", "<init>", "(LLevelingNetwork$Survey;)V"⟩ ∈ jk_WS := jk_wt2 (i := 0) (by decide +kernel) rfl
theorem jw_241 : Cond.instanceMethod ⟨"LevelingNetwork$Sharing", "<init>", "(LLevelingNetwork$Survey;)V"⟩ ∈ jk_WS := jk_wt2 (i := 1) (by decide +kernel) rfl
theorem jw_242 : Cond.code ⟨"LevelingNetwork$Sharing", "<init>", "(LLevelingNetwork$Survey;)V"⟩ prog_10_method_1_code 2 (Option.none : Option ClassFile.FieldType) ∈ jk_WS := jk_wt2 (i := 2) (by decide +kernel) rfl
theorem jw_243 : Cond.methodLink "LevelingNetwork$Sharing" 3 ⟨"java/lang/Object", "<init>", "()V"⟩ ∈ jk_WS := jk_wt2 (i := 3) (by decide +kernel) rfl
theorem jw_244 : Cond.fieldLink "LevelingNetwork$Sharing" 18 "LevelingNetwork$Sharing" "survey" "LLevelingNetwork$Survey;" ∈ jk_WS := jk_wt2 (i := 4) (by decide +kernel) rfl
theorem jw_245 : Cond.fieldLink "LevelingNetwork$Sharing" 9 "LevelingNetwork$Sharing" "parts" "[I" ∈ jk_WS := jk_wt2 (i := 5) (by decide +kernel) rfl
theorem jw_246 : Cond.fieldLink "LevelingNetwork" 283 "LevelingNetwork$Sharing" "parts" "[I" ∈ jk_WS := jk_wt2 (i := 6) (by decide +kernel) rfl
theorem jw_247 : Cond.fieldLink "LevelingNetwork$Sharing" 15 "LevelingNetwork$Sharing" "remainders" "[I" ∈ jk_WS := jk_wt2 (i := 7) (by decide +kernel) rfl
theorem jw_248 : Cond.laysFinal "LevelingNetwork$Sharing" "LevelingNetwork$Sharing" "survey" "LLevelingNetwork$Survey;" ∈ jk_WS := jk_wt2 (i := 8) (by decide +kernel) rfl
theorem jw_250 : Cond.laysFinal "LevelingNetwork$Sharing" "LevelingNetwork$Sharing" "parts" "[I" ∈ jk_WS := jk_wt2 (i := 10) (by decide +kernel) rfl
theorem jw_252 : Cond.laysFinal "LevelingNetwork$Sharing" "LevelingNetwork$Sharing" "remainders" "[I" ∈ jk_WS := jk_wt2 (i := 12) (by decide +kernel) rfl
theorem jw_254 : Cond.superclass "LevelingNetwork$Sharing" "java/lang/Object" ∈ jk_WS := jk_wt2 (i := 14) (by decide +kernel) rfl
theorem jw_255 : Cond.classLink "LevelingNetwork" 54 "LevelingNetwork$Heights" ∈ jk_WS := jk_wt2 (i := 15) (by decide +kernel) rfl
theorem jw_256 : Cond.instantiable "LevelingNetwork$Heights" 5 ∈ jk_WS := jk_wt2 (i := 16) (by decide +kernel) rfl
theorem jw_257 : Cond.methodLink "LevelingNetwork" 56 ⟨"LevelingNetwork$Heights", "<init>", "(LLevelingNetwork$Survey;LLevelingNetwork$Forest;)V"⟩ ∈ jk_WS := jk_wt2 (i := 17) (by decide +kernel) rfl
theorem jw_258 : Cond.instanceMethod ⟨"LevelingNetwork$Heights", "<init>", "(LLevelingNetwork$Survey;LLevelingNetwork$Forest;)V"⟩ ∈ jk_WS := jk_wt2 (i := 18) (by decide +kernel) rfl
theorem jw_259 : Cond.code ⟨"LevelingNetwork$Heights", "<init>", "(LLevelingNetwork$Survey;LLevelingNetwork$Forest;)V"⟩ prog_6_method_1_code 3 (Option.none : Option ClassFile.FieldType) ∈ jk_WS := jk_wt2 (i := 19) (by decide +kernel) rfl
theorem jw_260 : Cond.methodLink "LevelingNetwork$Heights" 3 ⟨"java/lang/Object", "<init>", "()V"⟩ ∈ jk_WS := jk_wt2 (i := 20) (by decide +kernel) rfl
theorem jw_261 : Cond.classLink "LevelingNetwork$Heights" 27 "LevelingNetwork$Way" ∈ jk_WS := jk_wt2 (i := 21) (by decide +kernel) rfl
theorem jw_262 : Cond.methodLink "LevelingNetwork$Heights" 29 ⟨"LevelingNetwork$Way", "<init>", "(LLevelingNetwork$Survey;LLevelingNetwork$Forest;)V"⟩ ∈ jk_WS := jk_wt2 (i := 22) (by decide +kernel) rfl
theorem jw_263 : Cond.fieldLink "LevelingNetwork$Heights" 19 "LevelingNetwork$Heights" "survey" "LLevelingNetwork$Survey;" ∈ jk_WS := jk_wt2 (i := 23) (by decide +kernel) rfl
theorem jw_264 : Cond.fieldLink "LevelingNetwork$Heights" 23 "LevelingNetwork$Heights" "forest" "LLevelingNetwork$Forest;" ∈ jk_WS := jk_wt2 (i := 24) (by decide +kernel) rfl
theorem jw_265 : Cond.fieldLink "LevelingNetwork$Heights" 32 "LevelingNetwork$Heights" "way" "LLevelingNetwork$Way;" ∈ jk_WS := jk_wt2 (i := 25) (by decide +kernel) rfl
theorem jw_266 : Cond.fieldLink "LevelingNetwork$Heights" 9 "LevelingNetwork$Heights" "known" "[Z" ∈ jk_WS := jk_wt2 (i := 26) (by decide +kernel) rfl
theorem jw_267 : Cond.fieldLink "LevelingNetwork$Heights" 15 "LevelingNetwork$Heights" "level" "[I" ∈ jk_WS := jk_wt2 (i := 27) (by decide +kernel) rfl
theorem jw_268 : Cond.laysFinal "LevelingNetwork$Heights" "LevelingNetwork$Heights" "survey" "LLevelingNetwork$Survey;" ∈ jk_WS := jk_wt2 (i := 28) (by decide +kernel) rfl
theorem jw_270 : Cond.laysFinal "LevelingNetwork$Heights" "LevelingNetwork$Heights" "forest" "LLevelingNetwork$Forest;" ∈ jk_WS := jk_wt2 (i := 30) (by decide +kernel) rfl
theorem jw_272 : Cond.laysFinal "LevelingNetwork$Heights" "LevelingNetwork$Heights" "way" "LLevelingNetwork$Way;" ∈ jk_WS := jk_wt2 (i := 32) (by decide +kernel) rfl
theorem jw_274 : Cond.laysFinal "LevelingNetwork$Heights" "LevelingNetwork$Heights" "known" "[Z" ∈ jk_WS := jk_wt2 (i := 34) (by decide +kernel) rfl
theorem jw_276 : Cond.laysFinal "LevelingNetwork$Heights" "LevelingNetwork$Heights" "level" "[I" ∈ jk_WS := jk_wt2 (i := 36) (by decide +kernel) rfl
theorem jw_278 : Cond.superclass "LevelingNetwork$Heights" "java/lang/Object" ∈ jk_WS := jk_wt2 (i := 38) (by decide +kernel) rfl
theorem jw_279 : Cond.classLink "LevelingNetwork" 61 "LevelingNetwork$Bank" ∈ jk_WS := jk_wt2 (i := 39) (by decide +kernel) rfl
theorem jw_280 : Cond.instantiable "LevelingNetwork$Bank" 1 ∈ jk_WS := jk_wt2 (i := 40) (by decide +kernel) rfl
theorem jw_281 : Cond.methodLink "LevelingNetwork" 63 ⟨"LevelingNetwork$Bank", "<init>", "(LLevelingNetwork$Survey;)V"⟩ ∈ jk_WS := jk_wt2 (i := 41) (by decide +kernel) rfl
theorem jw_282 : Cond.instanceMethod ⟨"LevelingNetwork$Bank", "<init>", "(LLevelingNetwork$Survey;)V"⟩ ∈ jk_WS := jk_wt2 (i := 42) (by decide +kernel) rfl
theorem jw_283 : Cond.code ⟨"LevelingNetwork$Bank", "<init>", "(LLevelingNetwork$Survey;)V"⟩ prog_3_method_1_code 2 (Option.none : Option ClassFile.FieldType) ∈ jk_WS := jk_wt2 (i := 43) (by decide +kernel) rfl
theorem jw_284 : Cond.methodLink "LevelingNetwork$Bank" 3 ⟨"java/lang/Object", "<init>", "()V"⟩ ∈ jk_WS := jk_wt2 (i := 44) (by decide +kernel) rfl
theorem jw_285 : Cond.fieldLink "LevelingNetwork$Bank" 9 "LevelingNetwork$Bank" "survey" "LLevelingNetwork$Survey;" ∈ jk_WS := jk_wt2 (i := 45) (by decide +kernel) rfl
theorem jw_286 : Cond.laysFinal "LevelingNetwork$Bank" "LevelingNetwork$Bank" "survey" "LLevelingNetwork$Survey;" ∈ jk_WS := jk_wt2 (i := 46) (by decide +kernel) rfl
theorem jw_288 : Cond.superclass "LevelingNetwork$Bank" "java/lang/Object" ∈ jk_WS := jk_wt2 (i := 48) (by decide +kernel) rfl
theorem jw_289 : Cond.classLink "LevelingNetwork" 68 "LevelingNetwork$Changes" ∈ jk_WS := jk_wt2 (i := 49) (by decide +kernel) rfl
theorem jw_290 : Cond.instantiable "LevelingNetwork$Changes" 4 ∈ jk_WS := jk_wt2 (i := 50) (by decide +kernel) rfl
theorem jw_291 : Cond.methodLink "LevelingNetwork" 70 ⟨"LevelingNetwork$Changes", "<init>", "(LLevelingNetwork$Survey;LLevelingNetwork$Forest;LLevelingNetwork$Way;LLevelingNetwork$Sharing;)V"⟩ ∈ jk_WS := jk_wt2 (i := 51) (by decide +kernel) rfl
theorem jw_292 : Cond.instanceMethod ⟨"LevelingNetwork$Changes", "<init>", "(LLevelingNetwork$Survey;LLevelingNetwork$Forest;LLevelingNetwork$Way;LLevelingNetwork$Sharing;)V"⟩ ∈ jk_WS := jk_wt2 (i := 52) (by decide +kernel) rfl
theorem jw_293 : Cond.code ⟨"LevelingNetwork$Changes", "<init>", "(LLevelingNetwork$Survey;LLevelingNetwork$Forest;LLevelingNetwork$Way;LLevelingNetwork$Sharing;)V"⟩ prog_4_method_1_code 5 (Option.none : Option ClassFile.FieldType) ∈ jk_WS := jk_wt2 (i := 53) (by decide +kernel) rfl
theorem jw_294 : Cond.methodLink "LevelingNetwork$Changes" 3 ⟨"java/lang/Object", "<init>", "()V"⟩ ∈ jk_WS := jk_wt2 (i := 54) (by decide +kernel) rfl
theorem jw_295 : Cond.fieldLink "LevelingNetwork$Changes" 9 "LevelingNetwork$Changes" "survey" "LLevelingNetwork$Survey;" ∈ jk_WS := jk_wt2 (i := 55) (by decide +kernel) rfl
theorem jw_296 : Cond.fieldLink "LevelingNetwork$Changes" 15 "LevelingNetwork$Changes" "forest" "LLevelingNetwork$Forest;" ∈ jk_WS := jk_wt2 (i := 56) (by decide +kernel) rfl
theorem jw_297 : Cond.fieldLink "LevelingNetwork$Changes" 19 "LevelingNetwork$Changes" "loopWay" "LLevelingNetwork$Way;" ∈ jk_WS := jk_wt2 (i := 57) (by decide +kernel) rfl
theorem jw_298 : Cond.fieldLink "LevelingNetwork$Changes" 23 "LevelingNetwork$Changes" "sharing" "LLevelingNetwork$Sharing;" ∈ jk_WS := jk_wt2 (i := 58) (by decide +kernel) rfl
theorem jw_299 : Cond.laysFinal "LevelingNetwork$Changes" "LevelingNetwork$Changes" "survey" "LLevelingNetwork$Survey;" ∈ jk_WS := jk_wt2 (i := 59) (by decide +kernel) rfl
theorem jw_301 : Cond.laysFinal "LevelingNetwork$Changes" "LevelingNetwork$Changes" "forest" "LLevelingNetwork$Forest;" ∈ jk_WS := jk_wt2 (i := 61) (by decide +kernel) rfl
theorem jw_303 : Cond.laysFinal "LevelingNetwork$Changes" "LevelingNetwork$Changes" "loopWay" "LLevelingNetwork$Way;" ∈ jk_WS := jk_wt2 (i := 63) (by decide +kernel) rfl
theorem jw_305 : Cond.laysFinal "LevelingNetwork$Changes" "LevelingNetwork$Changes" "sharing" "LLevelingNetwork$Sharing;" ∈ jk_WS := jk_wt2 (i := 65) (by decide +kernel) rfl
theorem jw_307 : Cond.superclass "LevelingNetwork$Changes" "java/lang/Object" ∈ jk_WS := jk_wt2 (i := 67) (by decide +kernel) rfl
theorem jw_308 : Cond.classLink "LevelingNetwork" 77 "LevelingNetwork$Script" ∈ jk_WS := jk_wt2 (i := 68) (by decide +kernel) rfl
theorem jw_309 : Cond.instantiable "LevelingNetwork$Script" 6 ∈ jk_WS := jk_wt2 (i := 69) (by decide +kernel) rfl
theorem jw_310 : Cond.methodLinkNest "LevelingNetwork" 79 ⟨"LevelingNetwork$Script", "<init>", "()V"⟩ "LevelingNetwork" ∈ jk_WS := jk_wt2 (i := 70) (by decide +kernel) rfl
theorem jw_311 : Cond.instanceMethod ⟨"LevelingNetwork$Script", "<init>", "()V"⟩ ∈ jk_WS := jk_wt2 (i := 71) (by decide +kernel) rfl
theorem jw_312 : Cond.code ⟨"LevelingNetwork$Script", "<init>", "()V"⟩ prog_9_method_1_code 1 (Option.none : Option ClassFile.FieldType) ∈ jk_WS := jk_wt2 (i := 72) (by decide +kernel) rfl
theorem jw_313 : Cond.methodLink "LevelingNetwork$Script" 3 ⟨"java/lang/Object", "<init>", "()V"⟩ ∈ jk_WS := jk_wt2 (i := 73) (by decide +kernel) rfl
theorem jw_314 : Cond.classLink "LevelingNetwork$Script" 15 "LevelingNetwork$Kind" ∈ jk_WS := jk_wt2 (i := 74) (by decide +kernel) rfl
theorem jw_315 : Cond.arrayOver (ClassFile.FieldType.object "LevelingNetwork$Kind") ∈ jk_WS := jk_wt2 (i := 75) (by decide +kernel) rfl
theorem jw_316 : Cond.classLink "LevelingNetwork$Script" 21 "[[I" ∈ jk_WS := jk_wt2 (i := 76) (by decide +kernel) rfl
theorem jw_317 : Cond.fieldLink "LevelingNetwork$Script" 9 "LevelingNetwork$Script" "text" "[C" ∈ jk_WS := jk_wt2 (i := 77) (by decide +kernel) rfl
theorem jw_318 : Cond.fieldLink "LevelingNetwork$Script" 26 "LevelingNetwork$Script" "size" "I" ∈ jk_WS := jk_wt2 (i := 78) (by decide +kernel) rfl
theorem jw_319 : Cond.fieldLink "LevelingNetwork" 380 "LevelingNetwork$Script" "size" "I" ∈ jk_WS := jk_wt2 (i := 79) (by decide +kernel) rfl
theorem jw_320 : Cond.fieldLink "LevelingNetwork$Script" 30 "LevelingNetwork$Script" "position" "I" ∈ jk_WS := jk_wt2 (i := 80) (by decide +kernel) rfl
theorem jw_321 : Cond.fieldLink "LevelingNetwork" 393 "LevelingNetwork$Script" "position" "I" ∈ jk_WS := jk_wt2 (i := 81) (by decide +kernel) rfl
theorem jw_322 : Cond.fieldLink "LevelingNetwork$Script" 33 "LevelingNetwork$Script" "commands" "I" ∈ jk_WS := jk_wt2 (i := 82) (by decide +kernel) rfl
theorem jw_323 : Cond.fieldLink "LevelingNetwork" 409 "LevelingNetwork$Script" "commands" "I" ∈ jk_WS := jk_wt2 (i := 83) (by decide +kernel) rfl
theorem jw_324 : Cond.fieldLink "LevelingNetwork$Script" 17 "LevelingNetwork$Script" "kinds" "[LLevelingNetwork$Kind;" ∈ jk_WS := jk_wt2 (i := 84) (by decide +kernel) rfl
theorem jw_325 : Cond.fieldLink "LevelingNetwork" 483 "LevelingNetwork$Script" "kinds" "[LLevelingNetwork$Kind;" ∈ jk_WS := jk_wt2 (i := 85) (by decide +kernel) rfl
theorem jw_326 : Cond.fieldLink "LevelingNetwork$Script" 23 "LevelingNetwork$Script" "arguments" "[[I" ∈ jk_WS := jk_wt2 (i := 86) (by decide +kernel) rfl
theorem jw_327 : Cond.fieldLink "LevelingNetwork" 487 "LevelingNetwork$Script" "arguments" "[[I" ∈ jk_WS := jk_wt2 (i := 87) (by decide +kernel) rfl
theorem jw_328 : Cond.laysFinal "LevelingNetwork$Script" "LevelingNetwork$Script" "text" "[C" ∈ jk_WS := jk_wt2 (i := 88) (by decide +kernel) rfl
theorem jw_330 : Cond.lays "LevelingNetwork$Script" "LevelingNetwork$Script" "size" "I" ∈ jk_WS := jk_wt2 (i := 90) (by decide +kernel) rfl
theorem jw_332 : Cond.lays "LevelingNetwork$Script" "LevelingNetwork$Script" "position" "I" ∈ jk_WS := jk_wt2 (i := 92) (by decide +kernel) rfl
theorem jw_334 : Cond.lays "LevelingNetwork$Script" "LevelingNetwork$Script" "commands" "I" ∈ jk_WS := jk_wt2 (i := 94) (by decide +kernel) rfl
theorem jw_336 : Cond.laysFinal "LevelingNetwork$Script" "LevelingNetwork$Script" "kinds" "[LLevelingNetwork$Kind;" ∈ jk_WS := jk_wt2 (i := 96) (by decide +kernel) rfl
theorem jw_338 : Cond.laysFinal "LevelingNetwork$Script" "LevelingNetwork$Script" "arguments" "[[I" ∈ jk_WS := jk_wt2 (i := 98) (by decide +kernel) rfl
theorem jw_340 : Cond.superclass "LevelingNetwork$Script" "java/lang/Object" ∈ jk_WS := jk_wt2 (i := 100) (by decide +kernel) rfl
theorem jw_341 : Cond.arrayClass ClassFile.FieldType.char ∈ jk_WS := jk_wt2 (i := 101) (by decide +kernel) rfl
theorem jw_342 : Cond.classLink "LevelingNetwork" 84 "java/lang/StringBuilder" ∈ jk_WS := jk_wt2 (i := 102) (by decide +kernel) rfl
theorem jw_343 : Cond.instantiable "java/lang/StringBuilder" 4 ∈ jk_WS := jk_wt2 (i := 103) (by decide +kernel) rfl
theorem jw_344 : Cond.methodLink "LevelingNetwork" 86 ⟨"java/lang/StringBuilder", "<init>", "()V"⟩ ∈ jk_WS := jk_wt2 (i := 104) (by decide +kernel) rfl
theorem jw_345 : Cond.instanceMethod ⟨"java/lang/StringBuilder", "<init>", "()V"⟩ ∈ jk_WS := jk_wt2 (i := 105) (by decide +kernel) rfl
theorem jw_346 : Cond.code ⟨"java/lang/StringBuilder", "<init>", "()V"⟩ prog_34_method_1_code 1 (Option.none : Option ClassFile.FieldType) ∈ jk_WS := jk_wt2 (i := 106) (by decide +kernel) rfl
theorem jw_347 : Cond.methodLink "java/lang/StringBuilder" 1 ⟨"java/lang/AbstractStringBuilder", "<init>", "(I)V"⟩ ∈ jk_WS := jk_wt2 (i := 107) (by decide +kernel) rfl
theorem jw_348 : Cond.instanceMethod ⟨"java/lang/AbstractStringBuilder", "<init>", "(I)V"⟩ ∈ jk_WS := jk_wt2 (i := 108) (by decide +kernel) rfl
theorem jw_349 : Cond.code ⟨"java/lang/AbstractStringBuilder", "<init>", "(I)V"⟩ prog_17_method_2_code 2 (Option.none : Option ClassFile.FieldType) ∈ jk_WS := jk_wt2 (i := 109) (by decide +kernel) rfl
theorem jw_350 : Cond.methodLink "java/lang/AbstractStringBuilder" 3 ⟨"java/lang/Object", "<init>", "()V"⟩ ∈ jk_WS := jk_wt2 (i := 110) (by decide +kernel) rfl
theorem jw_351 : Cond.fieldLink "java/lang/AbstractStringBuilder" 18 "java/lang/String" "COMPACT_STRINGS" "Z" ∈ jk_WS := jk_wt2 (i := 111) (by decide +kernel) rfl
theorem jw_353 : Cond.methodLink "java/lang/AbstractStringBuilder" 26 ⟨"java/lang/StringUTF16", "newBytesFor", "(I)[B"⟩ ∈ jk_WS := jk_wt2 (i := 113) (by decide +kernel) rfl
theorem jw_354 : Cond.static ⟨"java/lang/StringUTF16", "newBytesFor", "(I)[B"⟩ ∈ jk_WS := jk_wt2 (i := 114) (by decide +kernel) rfl
theorem jw_355 : Cond.code ⟨"java/lang/StringUTF16", "newBytesFor", "(I)[B"⟩ prog_37_method_2_code 1 (Option.some (ClassFile.FieldType.array ClassFile.FieldType.byte)) ∈ jk_WS := jk_wt2 (i := 115) (by decide +kernel) rfl
theorem jw_356 : Cond.methodLink "java/lang/StringUTF16" 11 ⟨"java/lang/StringUTF16", "newBytesLength", "(I)I"⟩ ∈ jk_WS := jk_wt2 (i := 116) (by decide +kernel) rfl
theorem jw_357 : Cond.static ⟨"java/lang/StringUTF16", "newBytesLength", "(I)I"⟩ ∈ jk_WS := jk_wt2 (i := 117) (by decide +kernel) rfl
theorem jw_358 : Cond.code ⟨"java/lang/StringUTF16", "newBytesLength", "(I)I"⟩ prog_37_method_3_code 1 (Option.some ClassFile.FieldType.int) ∈ jk_WS := jk_wt2 (i := 118) (by decide +kernel) rfl
theorem jw_359 : Cond.constant "java/lang/StringUTF16" 20 (1073741823 : Int32) ∈ jk_WS := jk_wt2 (i := 119) (by decide +kernel) rfl
theorem jw_360 : Cond.fieldLink "java/lang/AbstractStringBuilder" 15 "java/lang/AbstractStringBuilder" "value" "[B" ∈ jk_WS := jk_wt2 (i := 120) (by decide +kernel) rfl
theorem jw_361 : Cond.fieldLink "java/lang/AbstractStringBuilder" 22 "java/lang/AbstractStringBuilder" "coder" "B" ∈ jk_WS := jk_wt2 (i := 121) (by decide +kernel) rfl
theorem jw_362 : Cond.fieldLink "java/lang/AbstractStringBuilder" 73 "java/lang/AbstractStringBuilder" "maybeLatin1" "Z" ∈ jk_WS := jk_wt2 (i := 122) (by decide +kernel) rfl
theorem jw_363 : Cond.fieldLink "java/lang/String" 1048 "java/lang/AbstractStringBuilder" "maybeLatin1" "Z" ∈ jk_WS := jk_wt2 (i := 123) (by decide +kernel) rfl
theorem jw_364 : Cond.fieldLink "java/lang/AbstractStringBuilder" 79 "java/lang/AbstractStringBuilder" "count" "I" ∈ jk_WS := jk_wt2 (i := 124) (by decide +kernel) rfl
theorem jw_365 : Cond.lays "java/lang/StringBuilder" "java/lang/AbstractStringBuilder" "value" "[B" ∈ jk_WS := jk_wt2 (i := 125) (by decide +kernel) rfl
theorem jw_367 : Cond.lays "java/lang/StringBuilder" "java/lang/AbstractStringBuilder" "coder" "B" ∈ jk_WS := jk_wt2 (i := 127) (by decide +kernel) rfl
theorem jw_369 : Cond.lays "java/lang/StringBuilder" "java/lang/AbstractStringBuilder" "maybeLatin1" "Z" ∈ jk_WS := jk_wt2 (i := 129) (by decide +kernel) rfl
theorem jw_371 : Cond.lays "java/lang/StringBuilder" "java/lang/AbstractStringBuilder" "count" "I" ∈ jk_WS := jk_wt2 (i := 131) (by decide +kernel) rfl
theorem jw_373 : Cond.superclass "java/lang/StringBuilder" "java/lang/AbstractStringBuilder" ∈ jk_WS := jk_wt2 (i := 133) (by decide +kernel) rfl
theorem jw_374 : Cond.arrayClass ClassFile.FieldType.byte ∈ jk_WS := jk_wt2 (i := 134) (by decide +kernel) rfl
theorem jw_375 : Cond.fieldLink "LevelingNetwork" 10 "LevelingNetwork" "survey" "LLevelingNetwork$Survey;" ∈ jk_WS := jk_wt2 (i := 135) (by decide +kernel) rfl
theorem jw_376 : Cond.fieldLink "LevelingNetwork" 16 "LevelingNetwork" "before" "LLevelingNetwork$Survey;" ∈ jk_WS := jk_wt2 (i := 136) (by decide +kernel) rfl
theorem jw_377 : Cond.fieldLink "LevelingNetwork" 19 "LevelingNetwork" "snapshot" "LLevelingNetwork$Survey;" ∈ jk_WS := jk_wt2 (i := 137) (by decide +kernel) rfl
theorem jw_378 : Cond.fieldLink "LevelingNetwork" 422 "LevelingNetwork" "hasSnapshot" "Z" ∈ jk_WS := jk_wt2 (i := 138) (by decide +kernel) rfl
theorem jw_379 : Cond.fieldLink "LevelingNetwork" 25 "LevelingNetwork" "history" "LLevelingNetwork$History;" ∈ jk_WS := jk_wt2 (i := 139) (by decide +kernel) rfl
theorem jw_380 : Cond.fieldLink "LevelingNetwork" 34 "LevelingNetwork" "forest" "LLevelingNetwork$Forest;" ∈ jk_WS := jk_wt2 (i := 140) (by decide +kernel) rfl
theorem jw_381 : Cond.fieldLink "LevelingNetwork" 43 "LevelingNetwork" "loopWay" "LLevelingNetwork$Way;" ∈ jk_WS := jk_wt2 (i := 141) (by decide +kernel) rfl
theorem jw_382 : Cond.fieldLink "LevelingNetwork" 50 "LevelingNetwork" "sharing" "LLevelingNetwork$Sharing;" ∈ jk_WS := jk_wt2 (i := 142) (by decide +kernel) rfl
theorem jw_383 : Cond.fieldLink "LevelingNetwork" 57 "LevelingNetwork" "heights" "LLevelingNetwork$Heights;" ∈ jk_WS := jk_wt2 (i := 143) (by decide +kernel) rfl
theorem jw_384 : Cond.fieldLink "LevelingNetwork" 64 "LevelingNetwork" "bank" "LLevelingNetwork$Bank;" ∈ jk_WS := jk_wt2 (i := 144) (by decide +kernel) rfl
theorem jw_385 : Cond.fieldLink "LevelingNetwork" 73 "LevelingNetwork" "changes" "LLevelingNetwork$Changes;" ∈ jk_WS := jk_wt2 (i := 145) (by decide +kernel) rfl
theorem jw_386 : Cond.fieldLink "LevelingNetwork" 80 "LevelingNetwork" "script" "LLevelingNetwork$Script;" ∈ jk_WS := jk_wt2 (i := 146) (by decide +kernel) rfl
theorem jw_387 : Cond.fieldLink "LevelingNetwork" 87 "LevelingNetwork" "output" "Ljava/lang/StringBuilder;" ∈ jk_WS := jk_wt2 (i := 147) (by decide +kernel) rfl
theorem jw_388 : Cond.fieldLink "LevelingNetwork" 91 "LevelingNetwork" "errorAt" "I" ∈ jk_WS := jk_wt2 (i := 148) (by decide +kernel) rfl
theorem jw_389 : Cond.fieldLink "LevelingNetwork" 95 "LevelingNetwork" "failedAt" "I" ∈ jk_WS := jk_wt2 (i := 149) (by decide +kernel) rfl
theorem jw_390 : Cond.laysFinal "LevelingNetwork" "LevelingNetwork" "survey" "LLevelingNetwork$Survey;" ∈ jk_WS := jk_wt2 (i := 150) (by decide +kernel) rfl
theorem jw_392 : Cond.laysFinal "LevelingNetwork" "LevelingNetwork" "before" "LLevelingNetwork$Survey;" ∈ jk_WS := jk_wt2 (i := 152) (by decide +kernel) rfl
theorem jw_394 : Cond.laysFinal "LevelingNetwork" "LevelingNetwork" "snapshot" "LLevelingNetwork$Survey;" ∈ jk_WS := jk_wt2 (i := 154) (by decide +kernel) rfl
theorem jw_396 : Cond.lays "LevelingNetwork" "LevelingNetwork" "hasSnapshot" "Z" ∈ jk_WS := jk_wt2 (i := 156) (by decide +kernel) rfl
theorem jw_398 : Cond.laysFinal "LevelingNetwork" "LevelingNetwork" "history" "LLevelingNetwork$History;" ∈ jk_WS := jk_wt2 (i := 158) (by decide +kernel) rfl
theorem jw_400 : Cond.laysFinal "LevelingNetwork" "LevelingNetwork" "forest" "LLevelingNetwork$Forest;" ∈ jk_WS := jk_wt2 (i := 160) (by decide +kernel) rfl
theorem jw_402 : Cond.laysFinal "LevelingNetwork" "LevelingNetwork" "loopWay" "LLevelingNetwork$Way;" ∈ jk_WS := jk_wt2 (i := 162) (by decide +kernel) rfl
theorem jw_404 : Cond.laysFinal "LevelingNetwork" "LevelingNetwork" "sharing" "LLevelingNetwork$Sharing;" ∈ jk_WS := jk_wt2 (i := 164) (by decide +kernel) rfl
theorem jw_406 : Cond.laysFinal "LevelingNetwork" "LevelingNetwork" "heights" "LLevelingNetwork$Heights;" ∈ jk_WS := jk_wt2 (i := 166) (by decide +kernel) rfl
theorem jw_408 : Cond.laysFinal "LevelingNetwork" "LevelingNetwork" "bank" "LLevelingNetwork$Bank;" ∈ jk_WS := jk_wt2 (i := 168) (by decide +kernel) rfl
theorem jw_410 : Cond.laysFinal "LevelingNetwork" "LevelingNetwork" "changes" "LLevelingNetwork$Changes;" ∈ jk_WS := jk_wt2 (i := 170) (by decide +kernel) rfl
theorem jw_412 : Cond.laysFinal "LevelingNetwork" "LevelingNetwork" "script" "LLevelingNetwork$Script;" ∈ jk_WS := jk_wt2 (i := 172) (by decide +kernel) rfl
theorem jw_414 : Cond.laysFinal "LevelingNetwork" "LevelingNetwork" "output" "Ljava/lang/StringBuilder;" ∈ jk_WS := jk_wt2 (i := 174) (by decide +kernel) rfl
theorem jw_416 : Cond.lays "LevelingNetwork" "LevelingNetwork" "errorAt" "I" ∈ jk_WS := jk_wt2 (i := 176) (by decide +kernel) rfl
theorem jw_418 : Cond.lays "LevelingNetwork" "LevelingNetwork" "failedAt" "I" ∈ jk_WS := jk_wt2 (i := 178) (by decide +kernel) rfl
theorem jw_420 : Cond.superclass "LevelingNetwork" "java/lang/Object" ∈ jk_WS := jk_wt2 (i := 180) (by decide +kernel) rfl
theorem jw_421 : Cond.methodLink "LevelingNetworkLaw" 66 ⟨"LevelingNetwork", "addBenchmark", "()I"⟩ ∈ jk_WS := jk_wt2 (i := 181) (by decide +kernel) rfl
theorem jw_422 : Cond.instanceMethod ⟨"LevelingNetwork", "addBenchmark", "()I"⟩ ∈ jk_WS := jk_wt2 (i := 182) (by decide +kernel) rfl
theorem jw_423 : Cond.selects "LevelingNetwork" ⟨"LevelingNetwork", "addBenchmark", "()I"⟩ ⟨"LevelingNetwork", "addBenchmark", "()I"⟩ ∈ jk_WS := jk_wt2 (i := 183) (by decide +kernel) rfl
theorem jw_424 : Cond.code ⟨"LevelingNetwork", "addBenchmark", "()I"⟩ prog_1_method_2_code 1 (Option.some ClassFile.FieldType.int) ∈ jk_WS := jk_wt2 (i := 184) (by decide +kernel) rfl
theorem jw_425 : Cond.fieldLink "LevelingNetwork" 98 "LevelingNetwork$Kind" "POINT" "LLevelingNetwork$Kind;" ∈ jk_WS := jk_wt2 (i := 185) (by decide +kernel) rfl
theorem jw_427 : Cond.methodLink "LevelingNetwork" 104 ⟨"LevelingNetwork", "change", "(LLevelingNetwork$Kind;IIII)I"⟩ ∈ jk_WS := jk_wt2 (i := 187) (by decide +kernel) rfl
theorem jw_429 : Cond.instanceMethod ⟨"LevelingNetwork", "change", "(LLevelingNetwork$Kind;IIII)I"⟩ ∈ jk_WS := jk_wt2 (i := 189) (by decide +kernel) rfl
theorem jw_430 : Cond.code ⟨"LevelingNetwork", "change", "(LLevelingNetwork$Kind;IIII)I"⟩ prog_1_method_65_code 6 (Option.some ClassFile.FieldType.int) ∈ jk_WS := jk_wt2 (i := 190) (by decide +kernel) rfl
theorem jw_431 : Cond.methodLink "LevelingNetwork" 428 ⟨"LevelingNetwork$Changes", "troubleWith", "(LLevelingNetwork$Kind;IIII)LLevelingNetwork$Trouble;"⟩ ∈ jk_WS := jk_wt2 (i := 191) (by decide +kernel) rfl
theorem jw_432 : Cond.instanceMethod ⟨"LevelingNetwork$Changes", "troubleWith", "(LLevelingNetwork$Kind;IIII)LLevelingNetwork$Trouble;"⟩ ∈ jk_WS := jk_wt2 (i := 192) (by decide +kernel) rfl
theorem jw_433 : Cond.selects "LevelingNetwork$Changes" ⟨"LevelingNetwork$Changes", "troubleWith", "(LLevelingNetwork$Kind;IIII)LLevelingNetwork$Trouble;"⟩ ⟨"LevelingNetwork$Changes", "troubleWith", "(LLevelingNetwork$Kind;IIII)LLevelingNetwork$Trouble;"⟩ ∈ jk_WS := jk_wt2 (i := 193) (by decide +kernel) rfl
theorem jw_434 : Cond.code ⟨"LevelingNetwork$Changes", "troubleWith", "(LLevelingNetwork$Kind;IIII)LLevelingNetwork$Trouble;"⟩ prog_4_method_2_code 6 (Option.some (ClassFile.FieldType.object "LevelingNetwork$Trouble")) ∈ jk_WS := jk_wt2 (i := 194) (by decide +kernel) rfl
theorem jw_435 : Cond.fieldLink "LevelingNetwork$Changes" 27 "LevelingNetwork$1" "$SwitchMap$LevelingNetwork$Kind" "[I" ∈ jk_WS := jk_wt2 (i := 195) (by decide +kernel) rfl
theorem jw_437 : Cond.methodLink "LevelingNetwork$Changes" 33 ⟨"LevelingNetwork$Kind", "ordinal", "()I"⟩ ∈ jk_WS := jk_wt2 (i := 197) (by decide +kernel) rfl
theorem jw_438 : Cond.sameMethod "LevelingNetwork$Kind" "java/lang/Enum" "ordinal" "()I" ∈ jk_WS := jk_wt2 (i := 198) (by decide +kernel) rfl
theorem jw_439 : Cond.declares ⟨"java/lang/Enum", "ordinal", "()I"⟩ ∈ jk_WS := jk_wt2 (i := 199) (by decide +kernel) rfl
theorem jw_440 : Cond.selects "LevelingNetwork$Kind" ⟨"LevelingNetwork$Kind", "ordinal", "()I"⟩ ⟨"java/lang/Enum", "ordinal", "()I"⟩ ∈ jk_WS := jk_wt2 (i := 200) (by decide +kernel) rfl
theorem jw_441 : Cond.instanceMethod ⟨"java/lang/Enum", "ordinal", "()I"⟩ ∈ jk_WS := jk_wt2 (i := 201) (by decide +kernel) rfl
theorem jw_442 : Cond.code ⟨"java/lang/Enum", "ordinal", "()I"⟩ prog_24_method_2_code 1 (Option.some ClassFile.FieldType.int) ∈ jk_WS := jk_wt2 (i := 202) (by decide +kernel) rfl
theorem jw_443 : Cond.methodLink "LevelingNetwork$Changes" 45 ⟨"LevelingNetwork$Changes", "stateTroubleUnless", "(Z)LLevelingNetwork$Trouble;"⟩ ∈ jk_WS := jk_wt2 (i := 203) (by decide +kernel) rfl
theorem jw_444 : Cond.static ⟨"LevelingNetwork$Changes", "stateTroubleUnless", "(Z)LLevelingNetwork$Trouble;"⟩ ∈ jk_WS := jk_wt2 (i := 204) (by decide +kernel) rfl
theorem jw_445 : Cond.code ⟨"LevelingNetwork$Changes", "stateTroubleUnless", "(Z)LLevelingNetwork$Trouble;"⟩ prog_4_method_3_code 1 (Option.some (ClassFile.FieldType.object "LevelingNetwork$Trouble")) ∈ jk_WS := jk_wt2 (i := 205) (by decide +kernel) rfl
theorem jw_446 : Cond.fieldLink "LevelingNetwork$Changes" 82 "LevelingNetwork$Trouble" "NOTHING" "LLevelingNetwork$Trouble;" ∈ jk_WS := jk_wt2 (i := 206) (by decide +kernel) rfl
theorem jw_448 : Cond.fieldLink "LevelingNetwork$Changes" 91 "LevelingNetwork$Trouble" "BAD_STATE" "LLevelingNetwork$Trouble;" ∈ jk_WS := jk_wt2 (i := 208) (by decide +kernel) rfl
theorem jw_450 : Cond.methodLink "LevelingNetwork$Changes" 49 ⟨"LevelingNetwork$Changes", "troubleWithFixing", "(II)LLevelingNetwork$Trouble;"⟩ ∈ jk_WS := jk_wt2 (i := 210) (by decide +kernel) rfl
theorem jw_452 : Cond.instanceMethod ⟨"LevelingNetwork$Changes", "troubleWithFixing", "(II)LLevelingNetwork$Trouble;"⟩ ∈ jk_WS := jk_wt2 (i := 212) (by decide +kernel) rfl
theorem jw_453 : Cond.code ⟨"LevelingNetwork$Changes", "troubleWithFixing", "(II)LLevelingNetwork$Trouble;"⟩ prog_4_method_6_code 3 (Option.some (ClassFile.FieldType.object "LevelingNetwork$Trouble")) ∈ jk_WS := jk_wt2 (i := 213) (by decide +kernel) rfl
theorem jw_454 : Cond.methodLink "LevelingNetwork$Changes" 100 ⟨"LevelingNetwork$Survey", "hasBenchmark", "(I)Z"⟩ ∈ jk_WS := jk_wt2 (i := 214) (by decide +kernel) rfl
theorem jw_455 : Cond.instanceMethod ⟨"LevelingNetwork$Survey", "hasBenchmark", "(I)Z"⟩ ∈ jk_WS := jk_wt2 (i := 215) (by decide +kernel) rfl
theorem jw_456 : Cond.selects "LevelingNetwork$Survey" ⟨"LevelingNetwork$Survey", "hasBenchmark", "(I)Z"⟩ ⟨"LevelingNetwork$Survey", "hasBenchmark", "(I)Z"⟩ ∈ jk_WS := jk_wt2 (i := 216) (by decide +kernel) rfl
theorem jw_457 : Cond.code ⟨"LevelingNetwork$Survey", "hasBenchmark", "(I)Z"⟩ prog_11_method_6_code 2 (Option.some ClassFile.FieldType.boolean) ∈ jk_WS := jk_wt2 (i := 217) (by decide +kernel) rfl
theorem jw_458 : Cond.fieldLink "LevelingNetwork$Changes" 103 "LevelingNetwork$Trouble" "NO_INDEX" "LLevelingNetwork$Trouble;" ∈ jk_WS := jk_wt2 (i := 218) (by decide +kernel) rfl
theorem jw_460 : Cond.methodLink "LevelingNetwork$Changes" 78 ⟨"LevelingNetwork$Changes", "isHeight", "(I)Z"⟩ ∈ jk_WS := jk_wt2 (i := 220) (by decide +kernel) rfl
theorem jw_461 : Cond.static ⟨"LevelingNetwork$Changes", "isHeight", "(I)Z"⟩ ∈ jk_WS := jk_wt2 (i := 221) (by decide +kernel) rfl
theorem jw_462 : Cond.code ⟨"LevelingNetwork$Changes", "isHeight", "(I)Z"⟩ prog_4_method_4_code 1 (Option.some ClassFile.FieldType.boolean) ∈ jk_WS := jk_wt2 (i := 222) (by decide +kernel) rfl
theorem jw_463 : Cond.constant "LevelingNetwork$Changes" 94 (-99999 : Int32) ∈ jk_WS := jk_wt2 (i := 223) (by decide +kernel) rfl
theorem jw_464 : Cond.constant "LevelingNetwork$Changes" 95 (99999 : Int32) ∈ jk_WS := jk_wt2 (i := 224) (by decide +kernel) rfl
theorem jw_465 : Cond.methodLinkNest "LevelingNetwork$Changes" 96 ⟨"LevelingNetwork", "within", "(III)Z"⟩ "LevelingNetwork" ∈ jk_WS := jk_wt2 (i := 225) (by decide +kernel) rfl
theorem jw_466 : Cond.static ⟨"LevelingNetwork", "within", "(III)Z"⟩ ∈ jk_WS := jk_wt2 (i := 226) (by decide +kernel) rfl
theorem jw_467 : Cond.code ⟨"LevelingNetwork", "within", "(III)Z"⟩ prog_1_method_78_code 3 (Option.some ClassFile.FieldType.boolean) ∈ jk_WS := jk_wt2 (i := 227) (by decide +kernel) rfl
theorem jw_468 : Cond.fieldLink "LevelingNetwork$Changes" 88 "LevelingNetwork$Trouble" "BAD_ARGUMENT" "LLevelingNetwork$Trouble;" ∈ jk_WS := jk_wt2 (i := 228) (by decide +kernel) rfl
theorem jw_470 : Cond.methodLink "LevelingNetwork$Changes" 53 ⟨"LevelingNetwork$Changes", "troubleWithFreeing", "(I)LLevelingNetwork$Trouble;"⟩ ∈ jk_WS := jk_wt2 (i := 230) (by decide +kernel) rfl
theorem jw_472 : Cond.instanceMethod ⟨"LevelingNetwork$Changes", "troubleWithFreeing", "(I)LLevelingNetwork$Trouble;"⟩ ∈ jk_WS := jk_wt2 (i := 232) (by decide +kernel) rfl
theorem jw_473 : Cond.code ⟨"LevelingNetwork$Changes", "troubleWithFreeing", "(I)LLevelingNetwork$Trouble;"⟩ prog_4_method_7_code 2 (Option.some (ClassFile.FieldType.object "LevelingNetwork$Trouble")) ∈ jk_WS := jk_wt2 (i := 233) (by decide +kernel) rfl
theorem jw_474 : Cond.methodLink "LevelingNetwork$Changes" 57 ⟨"LevelingNetwork$Changes", "troubleWithLine", "(IIII)LLevelingNetwork$Trouble;"⟩ ∈ jk_WS := jk_wt2 (i := 234) (by decide +kernel) rfl
theorem jw_476 : Cond.instanceMethod ⟨"LevelingNetwork$Changes", "troubleWithLine", "(IIII)LLevelingNetwork$Trouble;"⟩ ∈ jk_WS := jk_wt2 (i := 236) (by decide +kernel) rfl
theorem jw_477 : Cond.code ⟨"LevelingNetwork$Changes", "troubleWithLine", "(IIII)LLevelingNetwork$Trouble;"⟩ prog_4_method_8_code 5 (Option.some (ClassFile.FieldType.object "LevelingNetwork$Trouble")) ∈ jk_WS := jk_wt2 (i := 237) (by decide +kernel) rfl
theorem jw_478 : Cond.methodLink "LevelingNetwork$Changes" 110 ⟨"LevelingNetwork$Changes", "isRun", "(I)Z"⟩ ∈ jk_WS := jk_wt2 (i := 238) (by decide +kernel) rfl
theorem jw_479 : Cond.static ⟨"LevelingNetwork$Changes", "isRun", "(I)Z"⟩ ∈ jk_WS := jk_wt2 (i := 239) (by decide +kernel) rfl
theorem jw_480 : Cond.code ⟨"LevelingNetwork$Changes", "isRun", "(I)Z"⟩ prog_4_method_5_code 1 (Option.some ClassFile.FieldType.boolean) ∈ jk_WS := jk_wt3 (i := 0) (by decide +kernel) rfl
theorem jw_481 : Cond.methodLink "LevelingNetwork$Changes" 61 ⟨"LevelingNetwork$Changes", "troubleWithBackwardRun", "(II)LLevelingNetwork$Trouble;"⟩ ∈ jk_WS := jk_wt3 (i := 1) (by decide +kernel) rfl
theorem jw_483 : Cond.instanceMethod ⟨"LevelingNetwork$Changes", "troubleWithBackwardRun", "(II)LLevelingNetwork$Trouble;"⟩ ∈ jk_WS := jk_wt3 (i := 3) (by decide +kernel) rfl
theorem jw_484 : Cond.code ⟨"LevelingNetwork$Changes", "troubleWithBackwardRun", "(II)LLevelingNetwork$Trouble;"⟩ prog_4_method_9_code 3 (Option.some (ClassFile.FieldType.object "LevelingNetwork$Trouble")) ∈ jk_WS := jk_wt3 (i := 4) (by decide +kernel) rfl
theorem jw_485 : Cond.methodLink "LevelingNetwork$Changes" 116 ⟨"LevelingNetwork$Survey", "hasLine", "(I)Z"⟩ ∈ jk_WS := jk_wt3 (i := 5) (by decide +kernel) rfl
theorem jw_486 : Cond.instanceMethod ⟨"LevelingNetwork$Survey", "hasLine", "(I)Z"⟩ ∈ jk_WS := jk_wt3 (i := 6) (by decide +kernel) rfl
theorem jw_487 : Cond.selects "LevelingNetwork$Survey" ⟨"LevelingNetwork$Survey", "hasLine", "(I)Z"⟩ ⟨"LevelingNetwork$Survey", "hasLine", "(I)Z"⟩ ∈ jk_WS := jk_wt3 (i := 7) (by decide +kernel) rfl
theorem jw_488 : Cond.code ⟨"LevelingNetwork$Survey", "hasLine", "(I)Z"⟩ prog_11_method_7_code 2 (Option.some ClassFile.FieldType.boolean) ∈ jk_WS := jk_wt3 (i := 8) (by decide +kernel) rfl
theorem jw_489 : Cond.methodLink "LevelingNetwork$Changes" 64 ⟨"LevelingNetwork$Changes", "troubleWithExclusion", "(IZ)LLevelingNetwork$Trouble;"⟩ ∈ jk_WS := jk_wt3 (i := 9) (by decide +kernel) rfl
theorem jw_491 : Cond.instanceMethod ⟨"LevelingNetwork$Changes", "troubleWithExclusion", "(IZ)LLevelingNetwork$Trouble;"⟩ ∈ jk_WS := jk_wt3 (i := 11) (by decide +kernel) rfl
theorem jw_492 : Cond.code ⟨"LevelingNetwork$Changes", "troubleWithExclusion", "(IZ)LLevelingNetwork$Trouble;"⟩ prog_4_method_10_code 3 (Option.some (ClassFile.FieldType.object "LevelingNetwork$Trouble")) ∈ jk_WS := jk_wt3 (i := 12) (by decide +kernel) rfl
theorem jw_493 : Cond.methodLink "LevelingNetwork$Changes" 68 ⟨"LevelingNetwork$Changes", "troubleWithSharing", "(I)LLevelingNetwork$Trouble;"⟩ ∈ jk_WS := jk_wt3 (i := 13) (by decide +kernel) rfl
theorem jw_495 : Cond.instanceMethod ⟨"LevelingNetwork$Changes", "troubleWithSharing", "(I)LLevelingNetwork$Trouble;"⟩ ∈ jk_WS := jk_wt3 (i := 15) (by decide +kernel) rfl
theorem jw_496 : Cond.code ⟨"LevelingNetwork$Changes", "troubleWithSharing", "(I)LLevelingNetwork$Trouble;"⟩ prog_4_method_11_code 3 (Option.some (ClassFile.FieldType.object "LevelingNetwork$Trouble")) ∈ jk_WS := jk_wt3 (i := 16) (by decide +kernel) rfl
theorem jw_497 : Cond.methodLink "LevelingNetwork$Changes" 125 ⟨"LevelingNetwork$Forest", "find", "()V"⟩ ∈ jk_WS := jk_wt3 (i := 17) (by decide +kernel) rfl
theorem jw_498 : Cond.instanceMethod ⟨"LevelingNetwork$Forest", "find", "()V"⟩ ∈ jk_WS := jk_wt3 (i := 18) (by decide +kernel) rfl
theorem jw_499 : Cond.selects "LevelingNetwork$Forest" ⟨"LevelingNetwork$Forest", "find", "()V"⟩ ⟨"LevelingNetwork$Forest", "find", "()V"⟩ ∈ jk_WS := jk_wt3 (i := 19) (by decide +kernel) rfl
theorem jw_500 : Cond.code ⟨"LevelingNetwork$Forest", "find", "()V"⟩ prog_5_method_2_code 2 (Option.none : Option ClassFile.FieldType) ∈ jk_WS := jk_wt3 (i := 20) (by decide +kernel) rfl
theorem jw_501 : Cond.methodLink "LevelingNetwork$Forest" 29 ⟨"LevelingNetwork$Forest", "putInOrder", "()V"⟩ ∈ jk_WS := jk_wt3 (i := 21) (by decide +kernel) rfl
theorem jw_503 : Cond.instanceMethod ⟨"LevelingNetwork$Forest", "putInOrder", "()V"⟩ ∈ jk_WS := jk_wt3 (i := 23) (by decide +kernel) rfl
theorem jw_504 : Cond.code ⟨"LevelingNetwork$Forest", "putInOrder", "()V"⟩ prog_5_method_3_code 3 (Option.none : Option ClassFile.FieldType) ∈ jk_WS := jk_wt3 (i := 24) (by decide +kernel) rfl
theorem jw_505 : Cond.methodLink "LevelingNetwork$Forest" 45 ⟨"LevelingNetwork$Survey", "usable", "(I)Z"⟩ ∈ jk_WS := jk_wt3 (i := 25) (by decide +kernel) rfl
theorem jw_506 : Cond.instanceMethod ⟨"LevelingNetwork$Survey", "usable", "(I)Z"⟩ ∈ jk_WS := jk_wt3 (i := 26) (by decide +kernel) rfl
theorem jw_507 : Cond.selects "LevelingNetwork$Survey" ⟨"LevelingNetwork$Survey", "usable", "(I)Z"⟩ ⟨"LevelingNetwork$Survey", "usable", "(I)Z"⟩ ∈ jk_WS := jk_wt3 (i := 27) (by decide +kernel) rfl
theorem jw_508 : Cond.code ⟨"LevelingNetwork$Survey", "usable", "(I)Z"⟩ prog_11_method_13_code 2 (Option.some ClassFile.FieldType.boolean) ∈ jk_WS := jk_wt3 (i := 28) (by decide +kernel) rfl
theorem jw_509 : Cond.methodLink "LevelingNetwork$Survey" 84 ⟨"LevelingNetwork$Survey", "sumOfRuns", "(I)I"⟩ ∈ jk_WS := jk_wt3 (i := 29) (by decide +kernel) rfl
theorem jw_510 : Cond.instanceMethod ⟨"LevelingNetwork$Survey", "sumOfRuns", "(I)I"⟩ ∈ jk_WS := jk_wt3 (i := 30) (by decide +kernel) rfl
theorem jw_511 : Cond.selects "LevelingNetwork$Survey" ⟨"LevelingNetwork$Survey", "sumOfRuns", "(I)I"⟩ ⟨"LevelingNetwork$Survey", "sumOfRuns", "(I)I"⟩ ∈ jk_WS := jk_wt3 (i := 31) (by decide +kernel) rfl
theorem jw_512 : Cond.code ⟨"LevelingNetwork$Survey", "sumOfRuns", "(I)I"⟩ prog_11_method_10_code 2 (Option.some ClassFile.FieldType.int) ∈ jk_WS := jk_wt3 (i := 32) (by decide +kernel) rfl
theorem jw_513 : Cond.methodLink "LevelingNetwork$Survey" 87 ⟨"java/lang/Math", "abs", "(I)I"⟩ ∈ jk_WS := jk_wt3 (i := 33) (by decide +kernel) rfl
theorem jw_514 : Cond.static ⟨"java/lang/Math", "abs", "(I)I"⟩ ∈ jk_WS := jk_wt3 (i := 34) (by decide +kernel) rfl
theorem jw_515 : Cond.code ⟨"java/lang/Math", "abs", "(I)I"⟩ prog_30_method_59_code 1 (Option.some ClassFile.FieldType.int) ∈ jk_WS := jk_wt3 (i := 35) (by decide +kernel) rfl
theorem jw_516 : Cond.methodLinkNest "LevelingNetwork$Survey" 92 ⟨"LevelingNetwork", "toleranceFor", "(I)I"⟩ "LevelingNetwork" ∈ jk_WS := jk_wt3 (i := 36) (by decide +kernel) rfl
theorem jw_517 : Cond.static ⟨"LevelingNetwork", "toleranceFor", "(I)I"⟩ ∈ jk_WS := jk_wt3 (i := 37) (by decide +kernel) rfl
theorem jw_518 : Cond.code ⟨"LevelingNetwork", "toleranceFor", "(I)I"⟩ prog_1_method_79_code 3 (Option.some ClassFile.FieldType.int) ∈ jk_WS := jk_wt3 (i := 38) (by decide +kernel) rfl
theorem jw_519 : Cond.methodLink "LevelingNetwork$Forest" 36 ⟨"LevelingNetwork$Forest", "consider", "(I)V"⟩ ∈ jk_WS := jk_wt3 (i := 39) (by decide +kernel) rfl
theorem jw_521 : Cond.instanceMethod ⟨"LevelingNetwork$Forest", "consider", "(I)V"⟩ ∈ jk_WS := jk_wt3 (i := 41) (by decide +kernel) rfl
theorem jw_522 : Cond.code ⟨"LevelingNetwork$Forest", "consider", "(I)V"⟩ prog_5_method_4_code 7 (Option.none : Option ClassFile.FieldType) ∈ jk_WS := jk_wt3 (i := 42) (by decide +kernel) rfl
theorem jw_523 : Cond.methodLink "LevelingNetwork$Forest" 58 ⟨"java/lang/Math", "min", "(II)I"⟩ ∈ jk_WS := jk_wt3 (i := 43) (by decide +kernel) rfl
theorem jw_524 : Cond.static ⟨"java/lang/Math", "min", "(II)I"⟩ ∈ jk_WS := jk_wt3 (i := 44) (by decide +kernel) rfl
theorem jw_525 : Cond.code ⟨"java/lang/Math", "min", "(II)I"⟩ prog_30_method_69_code 2 (Option.some ClassFile.FieldType.int) ∈ jk_WS := jk_wt3 (i := 45) (by decide +kernel) rfl
theorem jw_526 : Cond.methodLink "LevelingNetwork$Forest" 64 ⟨"java/lang/Math", "max", "(II)I"⟩ ∈ jk_WS := jk_wt3 (i := 46) (by decide +kernel) rfl
theorem jw_527 : Cond.static ⟨"java/lang/Math", "max", "(II)I"⟩ ∈ jk_WS := jk_wt3 (i := 47) (by decide +kernel) rfl
theorem jw_528 : Cond.code ⟨"java/lang/Math", "max", "(II)I"⟩ prog_30_method_65_code 2 (Option.some ClassFile.FieldType.int) ∈ jk_WS := jk_wt3 (i := 48) (by decide +kernel) rfl
theorem jw_529 : Cond.methodLink "LevelingNetwork$Changes" 130 ⟨"LevelingNetwork$Forest", "closesLoop", "(I)Z"⟩ ∈ jk_WS := jk_wt3 (i := 49) (by decide +kernel) rfl
theorem jw_530 : Cond.instanceMethod ⟨"LevelingNetwork$Forest", "closesLoop", "(I)Z"⟩ ∈ jk_WS := jk_wt3 (i := 50) (by decide +kernel) rfl
theorem jw_531 : Cond.selects "LevelingNetwork$Forest" ⟨"LevelingNetwork$Forest", "closesLoop", "(I)Z"⟩ ⟨"LevelingNetwork$Forest", "closesLoop", "(I)Z"⟩ ∈ jk_WS := jk_wt3 (i := 51) (by decide +kernel) rfl
theorem jw_532 : Cond.code ⟨"LevelingNetwork$Forest", "closesLoop", "(I)Z"⟩ prog_5_method_10_code 2 (Option.some ClassFile.FieldType.boolean) ∈ jk_WS := jk_wt3 (i := 52) (by decide +kernel) rfl
theorem jw_533 : Cond.fieldLink "LevelingNetwork$Changes" 133 "LevelingNetwork$Trouble" "NO_LOOP" "LLevelingNetwork$Trouble;" ∈ jk_WS := jk_wt3 (i := 53) (by decide +kernel) rfl
theorem jw_535 : Cond.methodLink "LevelingNetwork$Changes" 136 ⟨"LevelingNetwork$Way", "traceLoop", "(I)V"⟩ ∈ jk_WS := jk_wt3 (i := 55) (by decide +kernel) rfl
theorem jw_536 : Cond.instanceMethod ⟨"LevelingNetwork$Way", "traceLoop", "(I)V"⟩ ∈ jk_WS := jk_wt3 (i := 56) (by decide +kernel) rfl
theorem jw_537 : Cond.selects "LevelingNetwork$Way" ⟨"LevelingNetwork$Way", "traceLoop", "(I)V"⟩ ⟨"LevelingNetwork$Way", "traceLoop", "(I)V"⟩ ∈ jk_WS := jk_wt3 (i := 57) (by decide +kernel) rfl
theorem jw_538 : Cond.code ⟨"LevelingNetwork$Way", "traceLoop", "(I)V"⟩ prog_13_method_3_code 2 (Option.none : Option ClassFile.FieldType) ∈ jk_WS := jk_wt3 (i := 58) (by decide +kernel) rfl
theorem jw_539 : Cond.methodLink "LevelingNetwork$Way" 39 ⟨"LevelingNetwork$Way", "add", "(II)I"⟩ ∈ jk_WS := jk_wt3 (i := 59) (by decide +kernel) rfl
theorem jw_541 : Cond.instanceMethod ⟨"LevelingNetwork$Way", "add", "(II)I"⟩ ∈ jk_WS := jk_wt3 (i := 61) (by decide +kernel) rfl
theorem jw_542 : Cond.code ⟨"LevelingNetwork$Way", "add", "(II)I"⟩ prog_13_method_6_code 4 (Option.some ClassFile.FieldType.int) ∈ jk_WS := jk_wt3 (i := 62) (by decide +kernel) rfl
theorem jw_543 : Cond.methodLink "LevelingNetwork$Way" 30 ⟨"LevelingNetwork$Way", "walk", "(LLevelingNetwork$Way;III)Z"⟩ ∈ jk_WS := jk_wt3 (i := 63) (by decide +kernel) rfl
theorem jw_544 : Cond.static ⟨"LevelingNetwork$Way", "walk", "(LLevelingNetwork$Way;III)Z"⟩ ∈ jk_WS := jk_wt3 (i := 64) (by decide +kernel) rfl
theorem jw_545 : Cond.code ⟨"LevelingNetwork$Way", "walk", "(LLevelingNetwork$Way;III)Z"⟩ prog_13_method_4_code 6 (Option.some ClassFile.FieldType.boolean) ∈ jk_WS := jk_wt3 (i := 65) (by decide +kernel) rfl
theorem jw_546 : Cond.methodLink "LevelingNetwork$Way" 48 ⟨"LevelingNetwork$Way", "leadsOn", "(II)Z"⟩ ∈ jk_WS := jk_wt3 (i := 66) (by decide +kernel) rfl
theorem jw_548 : Cond.instanceMethod ⟨"LevelingNetwork$Way", "leadsOn", "(II)Z"⟩ ∈ jk_WS := jk_wt3 (i := 68) (by decide +kernel) rfl
theorem jw_549 : Cond.code ⟨"LevelingNetwork$Way", "leadsOn", "(II)Z"⟩ prog_13_method_5_code 4 (Option.some ClassFile.FieldType.boolean) ∈ jk_WS := jk_wt3 (i := 69) (by decide +kernel) rfl
theorem jw_550 : Cond.methodLink "LevelingNetwork$Changes" 142 ⟨"LevelingNetwork$Way", "rise", "()I"⟩ ∈ jk_WS := jk_wt3 (i := 70) (by decide +kernel) rfl
theorem jw_551 : Cond.instanceMethod ⟨"LevelingNetwork$Way", "rise", "()I"⟩ ∈ jk_WS := jk_wt3 (i := 71) (by decide +kernel) rfl
theorem jw_552 : Cond.selects "LevelingNetwork$Way" ⟨"LevelingNetwork$Way", "rise", "()I"⟩ ⟨"LevelingNetwork$Way", "rise", "()I"⟩ ∈ jk_WS := jk_wt3 (i := 72) (by decide +kernel) rfl
theorem jw_553 : Cond.code ⟨"LevelingNetwork$Way", "rise", "()I"⟩ prog_13_method_7_code 3 (Option.some ClassFile.FieldType.int) ∈ jk_WS := jk_wt3 (i := 73) (by decide +kernel) rfl
theorem jw_554 : Cond.methodLink "LevelingNetwork$Way" 58 ⟨"LevelingNetwork$Survey", "corrected", "(I)I"⟩ ∈ jk_WS := jk_wt3 (i := 74) (by decide +kernel) rfl
theorem jw_555 : Cond.instanceMethod ⟨"LevelingNetwork$Survey", "corrected", "(I)I"⟩ ∈ jk_WS := jk_wt3 (i := 75) (by decide +kernel) rfl
theorem jw_556 : Cond.selects "LevelingNetwork$Survey" ⟨"LevelingNetwork$Survey", "corrected", "(I)I"⟩ ⟨"LevelingNetwork$Survey", "corrected", "(I)I"⟩ ∈ jk_WS := jk_wt3 (i := 76) (by decide +kernel) rfl
theorem jw_557 : Cond.code ⟨"LevelingNetwork$Survey", "corrected", "(I)I"⟩ prog_11_method_12_code 2 (Option.some ClassFile.FieldType.int) ∈ jk_WS := jk_wt3 (i := 77) (by decide +kernel) rfl
theorem jw_558 : Cond.methodLink "LevelingNetwork$Survey" 80 ⟨"LevelingNetwork$Survey", "levelled", "(I)I"⟩ ∈ jk_WS := jk_wt3 (i := 78) (by decide +kernel) rfl
theorem jw_559 : Cond.instanceMethod ⟨"LevelingNetwork$Survey", "levelled", "(I)I"⟩ ∈ jk_WS := jk_wt3 (i := 79) (by decide +kernel) rfl
theorem jw_560 : Cond.selects "LevelingNetwork$Survey" ⟨"LevelingNetwork$Survey", "levelled", "(I)I"⟩ ⟨"LevelingNetwork$Survey", "levelled", "(I)I"⟩ ∈ jk_WS := jk_wt3 (i := 80) (by decide +kernel) rfl
theorem jw_561 : Cond.code ⟨"LevelingNetwork$Survey", "levelled", "(I)I"⟩ prog_11_method_11_code 2 (Option.some ClassFile.FieldType.int) ∈ jk_WS := jk_wt3 (i := 81) (by decide +kernel) rfl
theorem jw_562 : Cond.methodLink "LevelingNetwork$Changes" 145 ⟨"java/lang/Math", "abs", "(I)I"⟩ ∈ jk_WS := jk_wt3 (i := 82) (by decide +kernel) rfl
theorem jw_563 : Cond.methodLink "LevelingNetwork$Changes" 151 ⟨"LevelingNetwork$Way", "totalLength", "()I"⟩ ∈ jk_WS := jk_wt3 (i := 83) (by decide +kernel) rfl
theorem jw_564 : Cond.instanceMethod ⟨"LevelingNetwork$Way", "totalLength", "()I"⟩ ∈ jk_WS := jk_wt3 (i := 84) (by decide +kernel) rfl
theorem jw_565 : Cond.selects "LevelingNetwork$Way" ⟨"LevelingNetwork$Way", "totalLength", "()I"⟩ ⟨"LevelingNetwork$Way", "totalLength", "()I"⟩ ∈ jk_WS := jk_wt3 (i := 85) (by decide +kernel) rfl
theorem jw_566 : Cond.code ⟨"LevelingNetwork$Way", "totalLength", "()I"⟩ prog_13_method_8_code 3 (Option.some ClassFile.FieldType.int) ∈ jk_WS := jk_wt3 (i := 86) (by decide +kernel) rfl
theorem jw_567 : Cond.methodLinkNest "LevelingNetwork$Changes" 154 ⟨"LevelingNetwork", "toleranceFor", "(I)I"⟩ "LevelingNetwork" ∈ jk_WS := jk_wt3 (i := 87) (by decide +kernel) rfl
theorem jw_568 : Cond.fieldLink "LevelingNetwork$Changes" 157 "LevelingNetwork$Trouble" "TOO_GREAT" "LLevelingNetwork$Trouble;" ∈ jk_WS := jk_wt3 (i := 88) (by decide +kernel) rfl
theorem jw_570 : Cond.methodLink "LevelingNetwork$Changes" 71 ⟨"LevelingNetwork$Changes", "troubleWithProfile", "(I)LLevelingNetwork$Trouble;"⟩ ∈ jk_WS := jk_wt3 (i := 90) (by decide +kernel) rfl
theorem jw_572 : Cond.instanceMethod ⟨"LevelingNetwork$Changes", "troubleWithProfile", "(I)LLevelingNetwork$Trouble;"⟩ ∈ jk_WS := jk_wt3 (i := 92) (by decide +kernel) rfl
theorem jw_573 : Cond.code ⟨"LevelingNetwork$Changes", "troubleWithProfile", "(I)LLevelingNetwork$Trouble;"⟩ prog_4_method_12_code 2 (Option.some (ClassFile.FieldType.object "LevelingNetwork$Trouble")) ∈ jk_WS := jk_wt3 (i := 93) (by decide +kernel) rfl
theorem jw_574 : Cond.methodLink "LevelingNetwork$Changes" 74 ⟨"LevelingNetwork$Changes", "troubleWithStation", "(III)LLevelingNetwork$Trouble;"⟩ ∈ jk_WS := jk_wt3 (i := 94) (by decide +kernel) rfl
theorem jw_576 : Cond.instanceMethod ⟨"LevelingNetwork$Changes", "troubleWithStation", "(III)LLevelingNetwork$Trouble;"⟩ ∈ jk_WS := jk_wt3 (i := 96) (by decide +kernel) rfl
theorem jw_577 : Cond.code ⟨"LevelingNetwork$Changes", "troubleWithStation", "(III)LLevelingNetwork$Trouble;"⟩ prog_4_method_13_code 5 (Option.some (ClassFile.FieldType.object "LevelingNetwork$Trouble")) ∈ jk_WS := jk_wt3 (i := 97) (by decide +kernel) rfl
theorem jw_578 : Cond.methodLink "LevelingNetwork$Changes" 163 ⟨"LevelingNetwork$Survey", "hasProfile", "(I)Z"⟩ ∈ jk_WS := jk_wt3 (i := 98) (by decide +kernel) rfl
theorem jw_579 : Cond.instanceMethod ⟨"LevelingNetwork$Survey", "hasProfile", "(I)Z"⟩ ∈ jk_WS := jk_wt3 (i := 99) (by decide +kernel) rfl
theorem jw_580 : Cond.selects "LevelingNetwork$Survey" ⟨"LevelingNetwork$Survey", "hasProfile", "(I)Z"⟩ ⟨"LevelingNetwork$Survey", "hasProfile", "(I)Z"⟩ ∈ jk_WS := jk_wt3 (i := 100) (by decide +kernel) rfl
theorem jw_581 : Cond.code ⟨"LevelingNetwork$Survey", "hasProfile", "(I)Z"⟩ prog_11_method_8_code 2 (Option.some ClassFile.FieldType.boolean) ∈ jk_WS := jk_wt3 (i := 101) (by decide +kernel) rfl
theorem jw_582 : Cond.methodLink "LevelingNetwork" 432 ⟨"LevelingNetwork", "raise", "(LLevelingNetwork$Trouble;)V"⟩ ∈ jk_WS := jk_wt3 (i := 102) (by decide +kernel) rfl
theorem jw_583 : Cond.static ⟨"LevelingNetwork", "raise", "(LLevelingNetwork$Trouble;)V"⟩ ∈ jk_WS := jk_wt3 (i := 103) (by decide +kernel) rfl
theorem jw_584 : Cond.code ⟨"LevelingNetwork", "raise", "(LLevelingNetwork$Trouble;)V"⟩ prog_1_method_66_code 1 (Option.none : Option ClassFile.FieldType) ∈ jk_WS := jk_wt3 (i := 104) (by decide +kernel) rfl
theorem jw_585 : Cond.fieldLink "LevelingNetwork" 439 "LevelingNetwork$1" "$SwitchMap$LevelingNetwork$Trouble" "[I" ∈ jk_WS := jk_wt3 (i := 105) (by decide +kernel) rfl
theorem jw_587 : Cond.methodLink "LevelingNetwork" 444 ⟨"LevelingNetwork$Trouble", "ordinal", "()I"⟩ ∈ jk_WS := jk_wt3 (i := 107) (by decide +kernel) rfl
theorem jw_588 : Cond.sameMethod "LevelingNetwork$Trouble" "java/lang/Enum" "ordinal" "()I" ∈ jk_WS := jk_wt3 (i := 108) (by decide +kernel) rfl
theorem jw_589 : Cond.selects "LevelingNetwork$Trouble" ⟨"LevelingNetwork$Trouble", "ordinal", "()I"⟩ ⟨"java/lang/Enum", "ordinal", "()I"⟩ ∈ jk_WS := jk_wt3 (i := 109) (by decide +kernel) rfl
theorem jw_590 : Cond.classLink "LevelingNetwork" 370 "java/lang/IndexOutOfBoundsException" ∈ jk_WS := jk_wt3 (i := 110) (by decide +kernel) rfl
theorem jw_591 : Cond.instantiable "java/lang/IndexOutOfBoundsException" 6 ∈ jk_WS := jk_wt3 (i := 111) (by decide +kernel) rfl
theorem jw_592 : Cond.castable "java/lang/IndexOutOfBoundsException" "java/lang/IndexOutOfBoundsException" ∈ jk_WS := jk_wt3 (i := 112) (by decide +kernel) rfl
theorem jw_593 : Cond.declares ⟨"java/lang/RuntimeException", "<init>", "()V"⟩ ∈ jk_WS := jk_wt3 (i := 113) (by decide +kernel) rfl
theorem jw_594 : Cond.declares ⟨"java/lang/RuntimeException", "<init>", "(Ljava/lang/String;)V"⟩ ∈ jk_WS := jk_wt3 (i := 114) (by decide +kernel) rfl
theorem jw_595 : Cond.declares ⟨"java/lang/Exception", "<init>", "()V"⟩ ∈ jk_WS := jk_wt3 (i := 115) (by decide +kernel) rfl
theorem jw_596 : Cond.declares ⟨"java/lang/Exception", "<init>", "(Ljava/lang/String;)V"⟩ ∈ jk_WS := jk_wt3 (i := 116) (by decide +kernel) rfl
theorem jw_597 : Cond.declares ⟨"java/lang/Throwable", "<init>", "()V"⟩ ∈ jk_WS := jk_wt3 (i := 117) (by decide +kernel) rfl
theorem jw_598 : Cond.declares ⟨"java/lang/Throwable", "<init>", "(Ljava/lang/String;)V"⟩ ∈ jk_WS := jk_wt3 (i := 118) (by decide +kernel) rfl
theorem jw_599 : Cond.selects "java/lang/IndexOutOfBoundsException" ⟨"java/lang/Throwable", "fillInStackTrace", "(I)Ljava/lang/Throwable;"⟩ ⟨"java/lang/Throwable", "fillInStackTrace", "(I)Ljava/lang/Throwable;"⟩ ∈ jk_WS := jk_wt3 (i := 119) (by decide +kernel) rfl
theorem jw_600 : Cond.selects "java/lang/IndexOutOfBoundsException" ⟨"java/lang/Throwable", "fillInStackTrace", "()Ljava/lang/Throwable;"⟩ ⟨"java/lang/Throwable", "fillInStackTrace", "()Ljava/lang/Throwable;"⟩ ∈ jk_WS := jk_wt3 (i := 120) (by decide +kernel) rfl
theorem jw_601 : Cond.lays "java/lang/IndexOutOfBoundsException" "java/lang/Throwable" "cause" "Ljava/lang/Throwable;" ∈ jk_WS := jk_wt3 (i := 121) (by decide +kernel) rfl
theorem jw_602 : Cond.lays "java/lang/Throwable" "java/lang/Throwable" "cause" "Ljava/lang/Throwable;" ∈ jk_WS := jk_wt3 (i := 122) (by decide +kernel) rfl
theorem jw_603 : Cond.lays "java/lang/IndexOutOfBoundsException" "java/lang/Throwable" "stackTrace" "[Ljava/lang/StackTraceElement;" ∈ jk_WS := jk_wt3 (i := 123) (by decide +kernel) rfl
theorem jw_604 : Cond.lays "java/lang/Throwable" "java/lang/Throwable" "stackTrace" "[Ljava/lang/StackTraceElement;" ∈ jk_WS := jk_wt3 (i := 124) (by decide +kernel) rfl
theorem jw_605 : Cond.lays "java/lang/IndexOutOfBoundsException" "java/lang/Throwable" "suppressedExceptions" "Ljava/util/List;" ∈ jk_WS := jk_wt3 (i := 125) (by decide +kernel) rfl
theorem jw_606 : Cond.lays "java/lang/Throwable" "java/lang/Throwable" "suppressedExceptions" "Ljava/util/List;" ∈ jk_WS := jk_wt3 (i := 126) (by decide +kernel) rfl
theorem jw_607 : Cond.lays "java/lang/IndexOutOfBoundsException" "java/lang/Throwable" "detailMessage" "Ljava/lang/String;" ∈ jk_WS := jk_wt3 (i := 127) (by decide +kernel) rfl
theorem jw_608 : Cond.lays "java/lang/Throwable" "java/lang/Throwable" "detailMessage" "Ljava/lang/String;" ∈ jk_WS := jk_wt3 (i := 128) (by decide +kernel) rfl
theorem jw_609 : Cond.lays "java/lang/IndexOutOfBoundsException" "java/lang/Throwable" "backtrace" "Ljava/lang/Object;" ∈ jk_WS := jk_wt3 (i := 129) (by decide +kernel) rfl
theorem jw_610 : Cond.lays "java/lang/Throwable" "java/lang/Throwable" "backtrace" "Ljava/lang/Object;" ∈ jk_WS := jk_wt3 (i := 130) (by decide +kernel) rfl
theorem jw_611 : Cond.fieldLink "java/lang/Throwable" 198 "java/lang/Throwable" "backtrace" "Ljava/lang/Object;" ∈ jk_WS := jk_wt3 (i := 131) (by decide +kernel) rfl
theorem jw_612 : Cond.superclass "java/lang/Throwable" "java/lang/Object" ∈ jk_WS := jk_wt3 (i := 132) (by decide +kernel) rfl
theorem jw_613 : Cond.instanceMethod ⟨"java/lang/Throwable", "<init>", "()V"⟩ ∈ jk_WS := jk_wt3 (i := 133) (by decide +kernel) rfl
theorem jw_614 : Cond.code ⟨"java/lang/Throwable", "<init>", "()V"⟩ prog_39_method_1_code 1 (Option.none : Option ClassFile.FieldType) ∈ jk_WS := jk_wt3 (i := 134) (by decide +kernel) rfl
theorem jw_615 : Cond.methodLink "java/lang/Throwable" 1 ⟨"java/lang/Object", "<init>", "()V"⟩ ∈ jk_WS := jk_wt3 (i := 135) (by decide +kernel) rfl
theorem jw_616 : Cond.fieldLink "java/lang/Throwable" 13 "java/lang/Throwable" "UNASSIGNED_STACK" "[Ljava/lang/StackTraceElement;" ∈ jk_WS := jk_wt3 (i := 136) (by decide +kernel) rfl
theorem jw_618 : Cond.fieldLink "java/lang/Throwable" 20 "java/lang/Throwable" "SUPPRESSED_SENTINEL" "Ljava/util/List;" ∈ jk_WS := jk_wt3 (i := 138) (by decide +kernel) rfl
theorem jw_620 : Cond.methodLink "java/lang/Throwable" 27 ⟨"java/lang/Throwable", "fillInStackTrace", "()Ljava/lang/Throwable;"⟩ ∈ jk_WS := jk_wt3 (i := 140) (by decide +kernel) rfl
theorem jw_621 : Cond.instanceMethod ⟨"java/lang/Throwable", "fillInStackTrace", "()Ljava/lang/Throwable;"⟩ ∈ jk_WS := jk_wt3 (i := 141) (by decide +kernel) rfl
theorem jw_622 : Cond.sameMethod "java/lang/Throwable" "java/lang/Throwable" "fillInStackTrace" "()Ljava/lang/Throwable;" ∈ jk_WS := jk_wt3 (i := 142) (by decide +kernel) rfl
theorem jw_623 : Cond.selects "java/lang/ArithmeticException" ⟨"java/lang/Throwable", "fillInStackTrace", "()Ljava/lang/Throwable;"⟩ ⟨"java/lang/Throwable", "fillInStackTrace", "()Ljava/lang/Throwable;"⟩ ∈ jk_WS := jk_wt3 (i := 143) (by decide +kernel) rfl
theorem jw_624 : Cond.selects "java/lang/ArrayIndexOutOfBoundsException" ⟨"java/lang/Throwable", "fillInStackTrace", "()Ljava/lang/Throwable;"⟩ ⟨"java/lang/Throwable", "fillInStackTrace", "()Ljava/lang/Throwable;"⟩ ∈ jk_WS := jk_wt3 (i := 144) (by decide +kernel) rfl
theorem jw_625 : Cond.selects "java/lang/IllegalArgumentException" ⟨"java/lang/Throwable", "fillInStackTrace", "()Ljava/lang/Throwable;"⟩ ⟨"java/lang/Throwable", "fillInStackTrace", "()Ljava/lang/Throwable;"⟩ ∈ jk_WS := jk_wt3 (i := 145) (by decide +kernel) rfl
theorem jw_626 : Cond.selects "java/lang/IllegalStateException" ⟨"java/lang/Throwable", "fillInStackTrace", "()Ljava/lang/Throwable;"⟩ ⟨"java/lang/Throwable", "fillInStackTrace", "()Ljava/lang/Throwable;"⟩ ∈ jk_WS := jk_wt3 (i := 146) (by decide +kernel) rfl
theorem jw_627 : Cond.selects "java/lang/StringIndexOutOfBoundsException" ⟨"java/lang/Throwable", "fillInStackTrace", "()Ljava/lang/Throwable;"⟩ ⟨"java/lang/Throwable", "fillInStackTrace", "()Ljava/lang/Throwable;"⟩ ∈ jk_WS := jk_wt3 (i := 147) (by decide +kernel) rfl
theorem jw_628 : Cond.selects "java/lang/UnsupportedOperationException" ⟨"java/lang/Throwable", "fillInStackTrace", "()Ljava/lang/Throwable;"⟩ ⟨"java/lang/Throwable", "fillInStackTrace", "()Ljava/lang/Throwable;"⟩ ∈ jk_WS := jk_wt3 (i := 148) (by decide +kernel) rfl
theorem jw_629 : Cond.selects "java/util/NoSuchElementException" ⟨"java/lang/Throwable", "fillInStackTrace", "()Ljava/lang/Throwable;"⟩ ⟨"java/lang/Throwable", "fillInStackTrace", "()Ljava/lang/Throwable;"⟩ ∈ jk_WS := jk_wt3 (i := 149) (by decide +kernel) rfl
theorem jw_630 : Cond.codeSync ⟨"java/lang/Throwable", "fillInStackTrace", "()Ljava/lang/Throwable;"⟩ prog_39_method_18_code 1 (Option.some (ClassFile.FieldType.object "java/lang/Throwable")) ∈ jk_WS := jk_wt3 (i := 150) (by decide +kernel) rfl
theorem jw_631 : Cond.methodLink "java/lang/Throwable" 202 ⟨"java/lang/Throwable", "fillInStackTrace", "(I)Ljava/lang/Throwable;"⟩ ∈ jk_WS := jk_wt3 (i := 151) (by decide +kernel) rfl
theorem jw_633 : Cond.instanceMethod ⟨"java/lang/Throwable", "fillInStackTrace", "(I)Ljava/lang/Throwable;"⟩ ∈ jk_WS := jk_wt3 (i := 153) (by decide +kernel) rfl
theorem jw_634 : Cond.instantiable "java/lang/Throwable" 6 ∈ jk_WS := jk_wt3 (i := 154) (by decide +kernel) rfl
theorem jw_635 : Cond.native ⟨"java/lang/Throwable", "fillInStackTrace", "(I)Ljava/lang/Throwable;"⟩ ∈ jk_WS := jk_wt3 (i := 155) (by decide +kernel) rfl
theorem jw_637 : Cond.methodLink "LevelingNetwork" 374 ⟨"java/lang/IndexOutOfBoundsException", "<init>", "(Ljava/lang/String;)V"⟩ ∈ jk_WS := jk_wt3 (i := 157) (by decide +kernel) rfl
theorem jw_638 : Cond.instanceMethod ⟨"java/lang/IndexOutOfBoundsException", "<init>", "(Ljava/lang/String;)V"⟩ ∈ jk_WS := jk_wt3 (i := 158) (by decide +kernel) rfl
theorem jw_639 : Cond.code ⟨"java/lang/IndexOutOfBoundsException", "<init>", "(Ljava/lang/String;)V"⟩ prog_28_method_2_code 2 (Option.none : Option ClassFile.FieldType) ∈ jk_WS := jk_wt3 (i := 159) (by decide +kernel) rfl
theorem jw_640 : Cond.methodLink "java/lang/IndexOutOfBoundsException" 7 ⟨"java/lang/RuntimeException", "<init>", "(Ljava/lang/String;)V"⟩ ∈ jk_WS := jk_wt3 (i := 160) (by decide +kernel) rfl
theorem jw_641 : Cond.instanceMethod ⟨"java/lang/RuntimeException", "<init>", "(Ljava/lang/String;)V"⟩ ∈ jk_WS := jk_wt3 (i := 161) (by decide +kernel) rfl
theorem jw_642 : Cond.code ⟨"java/lang/RuntimeException", "<init>", "(Ljava/lang/String;)V"⟩ prog_32_method_2_code 2 (Option.none : Option ClassFile.FieldType) ∈ jk_WS := jk_wt3 (i := 162) (by decide +kernel) rfl
theorem jw_643 : Cond.methodLink "java/lang/RuntimeException" 7 ⟨"java/lang/Exception", "<init>", "(Ljava/lang/String;)V"⟩ ∈ jk_WS := jk_wt3 (i := 163) (by decide +kernel) rfl
theorem jw_644 : Cond.instanceMethod ⟨"java/lang/Exception", "<init>", "(Ljava/lang/String;)V"⟩ ∈ jk_WS := jk_wt3 (i := 164) (by decide +kernel) rfl
theorem jw_645 : Cond.code ⟨"java/lang/Exception", "<init>", "(Ljava/lang/String;)V"⟩ prog_25_method_2_code 2 (Option.none : Option ClassFile.FieldType) ∈ jk_WS := jk_wt3 (i := 165) (by decide +kernel) rfl
theorem jw_646 : Cond.methodLink "java/lang/Exception" 7 ⟨"java/lang/Throwable", "<init>", "(Ljava/lang/String;)V"⟩ ∈ jk_WS := jk_wt3 (i := 166) (by decide +kernel) rfl
theorem jw_647 : Cond.instanceMethod ⟨"java/lang/Throwable", "<init>", "(Ljava/lang/String;)V"⟩ ∈ jk_WS := jk_wt3 (i := 167) (by decide +kernel) rfl
theorem jw_648 : Cond.code ⟨"java/lang/Throwable", "<init>", "(Ljava/lang/String;)V"⟩ prog_39_method_2_code 2 (Option.none : Option ClassFile.FieldType) ∈ jk_WS := jk_wt3 (i := 168) (by decide +kernel) rfl
theorem jw_649 : Cond.fieldLink "java/lang/Throwable" 198 "java/lang/Throwable" "backtrace" "Ljava/lang/Object;" ∈ jk_WS := jk_wt3 (i := 169) (by decide +kernel) rfl
theorem jw_650 : Cond.fieldLink "java/lang/Throwable" 31 "java/lang/Throwable" "detailMessage" "Ljava/lang/String;" ∈ jk_WS := jk_wt3 (i := 170) (by decide +kernel) rfl
theorem jw_651 : Cond.fieldLink "java/lang/Throwable" 7 "java/lang/Throwable" "cause" "Ljava/lang/Throwable;" ∈ jk_WS := jk_wt3 (i := 171) (by decide +kernel) rfl
theorem jw_652 : Cond.fieldLink "java/lang/Throwable" 17 "java/lang/Throwable" "stackTrace" "[Ljava/lang/StackTraceElement;" ∈ jk_WS := jk_wt3 (i := 172) (by decide +kernel) rfl
theorem jw_653 : Cond.fieldLink "java/lang/Throwable" 24 "java/lang/Throwable" "suppressedExceptions" "Ljava/util/List;" ∈ jk_WS := jk_wt3 (i := 173) (by decide +kernel) rfl
theorem jw_658 : Cond.lays "java/lang/IndexOutOfBoundsException" "java/lang/Throwable" "depth" "I" ∈ jk_WS := jk_wt3 (i := 178) (by decide +kernel) rfl
theorem jw_661 : Cond.superclass "java/lang/IndexOutOfBoundsException" "java/lang/RuntimeException" ∈ jk_WS := jk_wt3 (i := 181) (by decide +kernel) rfl
theorem jw_662 : Cond.classLink "LevelingNetwork" 232 "java/lang/IllegalArgumentException" ∈ jk_WS := jk_wt3 (i := 182) (by decide +kernel) rfl
theorem jw_663 : Cond.instantiable "java/lang/IllegalArgumentException" 6 ∈ jk_WS := jk_wt3 (i := 183) (by decide +kernel) rfl
theorem jw_664 : Cond.castable "java/lang/IllegalArgumentException" "java/lang/IllegalArgumentException" ∈ jk_WS := jk_wt3 (i := 184) (by decide +kernel) rfl
theorem jw_665 : Cond.selects "java/lang/IllegalArgumentException" ⟨"java/lang/Throwable", "fillInStackTrace", "(I)Ljava/lang/Throwable;"⟩ ⟨"java/lang/Throwable", "fillInStackTrace", "(I)Ljava/lang/Throwable;"⟩ ∈ jk_WS := jk_wt3 (i := 185) (by decide +kernel) rfl
theorem jw_666 : Cond.lays "java/lang/IllegalArgumentException" "java/lang/Throwable" "cause" "Ljava/lang/Throwable;" ∈ jk_WS := jk_wt3 (i := 186) (by decide +kernel) rfl
theorem jw_667 : Cond.lays "java/lang/IllegalArgumentException" "java/lang/Throwable" "stackTrace" "[Ljava/lang/StackTraceElement;" ∈ jk_WS := jk_wt3 (i := 187) (by decide +kernel) rfl
theorem jw_668 : Cond.lays "java/lang/IllegalArgumentException" "java/lang/Throwable" "suppressedExceptions" "Ljava/util/List;" ∈ jk_WS := jk_wt3 (i := 188) (by decide +kernel) rfl
theorem jw_669 : Cond.lays "java/lang/IllegalArgumentException" "java/lang/Throwable" "detailMessage" "Ljava/lang/String;" ∈ jk_WS := jk_wt3 (i := 189) (by decide +kernel) rfl
theorem jw_670 : Cond.lays "java/lang/IllegalArgumentException" "java/lang/Throwable" "backtrace" "Ljava/lang/Object;" ∈ jk_WS := jk_wt3 (i := 190) (by decide +kernel) rfl
theorem jw_672 : Cond.methodLink "LevelingNetwork" 236 ⟨"java/lang/IllegalArgumentException", "<init>", "(Ljava/lang/String;)V"⟩ ∈ jk_WS := jk_wt3 (i := 192) (by decide +kernel) rfl
theorem jw_673 : Cond.instanceMethod ⟨"java/lang/IllegalArgumentException", "<init>", "(Ljava/lang/String;)V"⟩ ∈ jk_WS := jk_wt3 (i := 193) (by decide +kernel) rfl
theorem jw_674 : Cond.code ⟨"java/lang/IllegalArgumentException", "<init>", "(Ljava/lang/String;)V"⟩ prog_26_method_2_code 2 (Option.none : Option ClassFile.FieldType) ∈ jk_WS := jk_wt3 (i := 194) (by decide +kernel) rfl
theorem jw_675 : Cond.methodLink "java/lang/IllegalArgumentException" 7 ⟨"java/lang/RuntimeException", "<init>", "(Ljava/lang/String;)V"⟩ ∈ jk_WS := jk_wt3 (i := 195) (by decide +kernel) rfl
theorem jw_676 : Cond.lays "java/lang/IllegalArgumentException" "java/lang/Throwable" "depth" "I" ∈ jk_WS := jk_wt3 (i := 196) (by decide +kernel) rfl
theorem jw_677 : Cond.superclass "java/lang/IllegalArgumentException" "java/lang/RuntimeException" ∈ jk_WS := jk_wt3 (i := 197) (by decide +kernel) rfl
theorem jw_678 : Cond.classLink "LevelingNetwork" 381 "java/lang/IllegalStateException" ∈ jk_WS := jk_wt3 (i := 198) (by decide +kernel) rfl
theorem jw_679 : Cond.instantiable "java/lang/IllegalStateException" 6 ∈ jk_WS := jk_wt3 (i := 199) (by decide +kernel) rfl
theorem jw_680 : Cond.castable "java/lang/IllegalStateException" "java/lang/IllegalStateException" ∈ jk_WS := jk_wt3 (i := 200) (by decide +kernel) rfl
theorem jw_681 : Cond.selects "java/lang/IllegalStateException" ⟨"java/lang/Throwable", "fillInStackTrace", "(I)Ljava/lang/Throwable;"⟩ ⟨"java/lang/Throwable", "fillInStackTrace", "(I)Ljava/lang/Throwable;"⟩ ∈ jk_WS := jk_wt3 (i := 201) (by decide +kernel) rfl
theorem jw_682 : Cond.lays "java/lang/IllegalStateException" "java/lang/Throwable" "cause" "Ljava/lang/Throwable;" ∈ jk_WS := jk_wt3 (i := 202) (by decide +kernel) rfl
theorem jw_683 : Cond.lays "java/lang/IllegalStateException" "java/lang/Throwable" "stackTrace" "[Ljava/lang/StackTraceElement;" ∈ jk_WS := jk_wt3 (i := 203) (by decide +kernel) rfl
theorem jw_684 : Cond.lays "java/lang/IllegalStateException" "java/lang/Throwable" "suppressedExceptions" "Ljava/util/List;" ∈ jk_WS := jk_wt3 (i := 204) (by decide +kernel) rfl
theorem jw_685 : Cond.lays "java/lang/IllegalStateException" "java/lang/Throwable" "detailMessage" "Ljava/lang/String;" ∈ jk_WS := jk_wt3 (i := 205) (by decide +kernel) rfl
theorem jw_686 : Cond.lays "java/lang/IllegalStateException" "java/lang/Throwable" "backtrace" "Ljava/lang/Object;" ∈ jk_WS := jk_wt3 (i := 206) (by decide +kernel) rfl
theorem jw_688 : Cond.methodLink "LevelingNetwork" 385 ⟨"java/lang/IllegalStateException", "<init>", "(Ljava/lang/String;)V"⟩ ∈ jk_WS := jk_wt3 (i := 208) (by decide +kernel) rfl
theorem jw_689 : Cond.instanceMethod ⟨"java/lang/IllegalStateException", "<init>", "(Ljava/lang/String;)V"⟩ ∈ jk_WS := jk_wt3 (i := 209) (by decide +kernel) rfl
theorem jw_690 : Cond.code ⟨"java/lang/IllegalStateException", "<init>", "(Ljava/lang/String;)V"⟩ prog_27_method_2_code 2 (Option.none : Option ClassFile.FieldType) ∈ jk_WS := jk_wt3 (i := 210) (by decide +kernel) rfl
theorem jw_691 : Cond.methodLink "java/lang/IllegalStateException" 7 ⟨"java/lang/RuntimeException", "<init>", "(Ljava/lang/String;)V"⟩ ∈ jk_WS := jk_wt3 (i := 211) (by decide +kernel) rfl
theorem jw_692 : Cond.lays "java/lang/IllegalStateException" "java/lang/Throwable" "depth" "I" ∈ jk_WS := jk_wt3 (i := 212) (by decide +kernel) rfl
theorem jw_693 : Cond.superclass "java/lang/IllegalStateException" "java/lang/RuntimeException" ∈ jk_WS := jk_wt3 (i := 213) (by decide +kernel) rfl
theorem jw_694 : Cond.classLink "LevelingNetwork" 169 "java/util/NoSuchElementException" ∈ jk_WS := jk_wt3 (i := 214) (by decide +kernel) rfl
theorem jw_695 : Cond.instantiable "java/util/NoSuchElementException" 6 ∈ jk_WS := jk_wt3 (i := 215) (by decide +kernel) rfl
theorem jw_696 : Cond.castable "java/util/NoSuchElementException" "java/util/NoSuchElementException" ∈ jk_WS := jk_wt3 (i := 216) (by decide +kernel) rfl
theorem jw_697 : Cond.selects "java/util/NoSuchElementException" ⟨"java/lang/Throwable", "fillInStackTrace", "(I)Ljava/lang/Throwable;"⟩ ⟨"java/lang/Throwable", "fillInStackTrace", "(I)Ljava/lang/Throwable;"⟩ ∈ jk_WS := jk_wt3 (i := 217) (by decide +kernel) rfl
theorem jw_698 : Cond.lays "java/util/NoSuchElementException" "java/lang/Throwable" "cause" "Ljava/lang/Throwable;" ∈ jk_WS := jk_wt3 (i := 218) (by decide +kernel) rfl
theorem jw_699 : Cond.lays "java/util/NoSuchElementException" "java/lang/Throwable" "stackTrace" "[Ljava/lang/StackTraceElement;" ∈ jk_WS := jk_wt3 (i := 219) (by decide +kernel) rfl
theorem jw_700 : Cond.lays "java/util/NoSuchElementException" "java/lang/Throwable" "suppressedExceptions" "Ljava/util/List;" ∈ jk_WS := jk_wt3 (i := 220) (by decide +kernel) rfl
theorem jw_701 : Cond.lays "java/util/NoSuchElementException" "java/lang/Throwable" "detailMessage" "Ljava/lang/String;" ∈ jk_WS := jk_wt3 (i := 221) (by decide +kernel) rfl
theorem jw_702 : Cond.lays "java/util/NoSuchElementException" "java/lang/Throwable" "backtrace" "Ljava/lang/Object;" ∈ jk_WS := jk_wt3 (i := 222) (by decide +kernel) rfl
theorem jw_704 : Cond.methodLink "LevelingNetwork" 173 ⟨"java/util/NoSuchElementException", "<init>", "(Ljava/lang/String;)V"⟩ ∈ jk_WS := jk_wt3 (i := 224) (by decide +kernel) rfl
theorem jw_705 : Cond.instanceMethod ⟨"java/util/NoSuchElementException", "<init>", "(Ljava/lang/String;)V"⟩ ∈ jk_WS := jk_wt3 (i := 225) (by decide +kernel) rfl
theorem jw_706 : Cond.code ⟨"java/util/NoSuchElementException", "<init>", "(Ljava/lang/String;)V"⟩ prog_44_method_4_code 2 (Option.none : Option ClassFile.FieldType) ∈ jk_WS := jk_wt3 (i := 226) (by decide +kernel) rfl
theorem jw_707 : Cond.methodLink "java/util/NoSuchElementException" 13 ⟨"java/lang/RuntimeException", "<init>", "(Ljava/lang/String;)V"⟩ ∈ jk_WS := jk_wt3 (i := 227) (by decide +kernel) rfl
theorem jw_708 : Cond.lays "java/util/NoSuchElementException" "java/lang/Throwable" "depth" "I" ∈ jk_WS := jk_wt3 (i := 228) (by decide +kernel) rfl
theorem jw_709 : Cond.superclass "java/util/NoSuchElementException" "java/lang/RuntimeException" ∈ jk_WS := jk_wt3 (i := 229) (by decide +kernel) rfl
theorem jw_710 : Cond.classLink "LevelingNetwork" 457 "java/lang/UnsupportedOperationException" ∈ jk_WS := jk_wt3 (i := 230) (by decide +kernel) rfl
theorem jw_711 : Cond.instantiable "java/lang/UnsupportedOperationException" 6 ∈ jk_WS := jk_wt3 (i := 231) (by decide +kernel) rfl
theorem jw_712 : Cond.castable "java/lang/UnsupportedOperationException" "java/lang/UnsupportedOperationException" ∈ jk_WS := jk_wt3 (i := 232) (by decide +kernel) rfl
theorem jw_713 : Cond.selects "java/lang/UnsupportedOperationException" ⟨"java/lang/Throwable", "fillInStackTrace", "(I)Ljava/lang/Throwable;"⟩ ⟨"java/lang/Throwable", "fillInStackTrace", "(I)Ljava/lang/Throwable;"⟩ ∈ jk_WS := jk_wt3 (i := 233) (by decide +kernel) rfl
theorem jw_714 : Cond.lays "java/lang/UnsupportedOperationException" "java/lang/Throwable" "cause" "Ljava/lang/Throwable;" ∈ jk_WS := jk_wt3 (i := 234) (by decide +kernel) rfl
theorem jw_715 : Cond.lays "java/lang/UnsupportedOperationException" "java/lang/Throwable" "stackTrace" "[Ljava/lang/StackTraceElement;" ∈ jk_WS := jk_wt3 (i := 235) (by decide +kernel) rfl
theorem jw_716 : Cond.lays "java/lang/UnsupportedOperationException" "java/lang/Throwable" "suppressedExceptions" "Ljava/util/List;" ∈ jk_WS := jk_wt3 (i := 236) (by decide +kernel) rfl
theorem jw_717 : Cond.lays "java/lang/UnsupportedOperationException" "java/lang/Throwable" "detailMessage" "Ljava/lang/String;" ∈ jk_WS := jk_wt3 (i := 237) (by decide +kernel) rfl
theorem jw_718 : Cond.lays "java/lang/UnsupportedOperationException" "java/lang/Throwable" "backtrace" "Ljava/lang/Object;" ∈ jk_WS := jk_wt3 (i := 238) (by decide +kernel) rfl
theorem jw_720 : Cond.methodLink "LevelingNetwork" 461 ⟨"java/lang/UnsupportedOperationException", "<init>", "(Ljava/lang/String;)V"⟩ ∈ jk_WS := jk_wt4 (i := 0) (by decide +kernel) rfl
theorem jw_721 : Cond.instanceMethod ⟨"java/lang/UnsupportedOperationException", "<init>", "(Ljava/lang/String;)V"⟩ ∈ jk_WS := jk_wt4 (i := 1) (by decide +kernel) rfl
theorem jw_722 : Cond.code ⟨"java/lang/UnsupportedOperationException", "<init>", "(Ljava/lang/String;)V"⟩ prog_40_method_2_code 2 (Option.none : Option ClassFile.FieldType) ∈ jk_WS := jk_wt4 (i := 2) (by decide +kernel) rfl
theorem jw_723 : Cond.methodLink "java/lang/UnsupportedOperationException" 7 ⟨"java/lang/RuntimeException", "<init>", "(Ljava/lang/String;)V"⟩ ∈ jk_WS := jk_wt4 (i := 3) (by decide +kernel) rfl
theorem jw_724 : Cond.lays "java/lang/UnsupportedOperationException" "java/lang/Throwable" "depth" "I" ∈ jk_WS := jk_wt4 (i := 4) (by decide +kernel) rfl
theorem jw_725 : Cond.superclass "java/lang/UnsupportedOperationException" "java/lang/RuntimeException" ∈ jk_WS := jk_wt4 (i := 5) (by decide +kernel) rfl
theorem jw_726 : Cond.methodLink "LevelingNetwork" 406 ⟨"LevelingNetwork$History", "push", "(LLevelingNetwork$Survey;)V"⟩ ∈ jk_WS := jk_wt4 (i := 6) (by decide +kernel) rfl
theorem jw_727 : Cond.instanceMethod ⟨"LevelingNetwork$History", "push", "(LLevelingNetwork$Survey;)V"⟩ ∈ jk_WS := jk_wt4 (i := 7) (by decide +kernel) rfl
theorem jw_728 : Cond.selects "LevelingNetwork$History" ⟨"LevelingNetwork$History", "push", "(LLevelingNetwork$Survey;)V"⟩ ⟨"LevelingNetwork$History", "push", "(LLevelingNetwork$Survey;)V"⟩ ∈ jk_WS := jk_wt4 (i := 8) (by decide +kernel) rfl
theorem jw_729 : Cond.code ⟨"LevelingNetwork$History", "push", "(LLevelingNetwork$Survey;)V"⟩ prog_7_method_2_code 2 (Option.none : Option ClassFile.FieldType) ∈ jk_WS := jk_wt4 (i := 9) (by decide +kernel) rfl
theorem jw_730 : Cond.methodLink "LevelingNetwork$History" 22 ⟨"LevelingNetwork$Survey", "copyFrom", "(LLevelingNetwork$Survey;)V"⟩ ∈ jk_WS := jk_wt4 (i := 10) (by decide +kernel) rfl
theorem jw_731 : Cond.instanceMethod ⟨"LevelingNetwork$Survey", "copyFrom", "(LLevelingNetwork$Survey;)V"⟩ ∈ jk_WS := jk_wt4 (i := 11) (by decide +kernel) rfl
theorem jw_732 : Cond.selects "LevelingNetwork$Survey" ⟨"LevelingNetwork$Survey", "copyFrom", "(LLevelingNetwork$Survey;)V"⟩ ⟨"LevelingNetwork$Survey", "copyFrom", "(LLevelingNetwork$Survey;)V"⟩ ∈ jk_WS := jk_wt4 (i := 12) (by decide +kernel) rfl
theorem jw_733 : Cond.code ⟨"LevelingNetwork$Survey", "copyFrom", "(LLevelingNetwork$Survey;)V"⟩ prog_11_method_2_code 2 (Option.none : Option ClassFile.FieldType) ∈ jk_WS := jk_wt4 (i := 13) (by decide +kernel) rfl
theorem jw_734 : Cond.methodLink "LevelingNetwork$Survey" 57 ⟨"LevelingNetwork$Survey", "copyBenchmarks", "(LLevelingNetwork$Survey;)V"⟩ ∈ jk_WS := jk_wt4 (i := 14) (by decide +kernel) rfl
theorem jw_736 : Cond.instanceMethod ⟨"LevelingNetwork$Survey", "copyBenchmarks", "(LLevelingNetwork$Survey;)V"⟩ ∈ jk_WS := jk_wt4 (i := 16) (by decide +kernel) rfl
theorem jw_737 : Cond.code ⟨"LevelingNetwork$Survey", "copyBenchmarks", "(LLevelingNetwork$Survey;)V"⟩ prog_11_method_3_code 3 (Option.none : Option ClassFile.FieldType) ∈ jk_WS := jk_wt4 (i := 17) (by decide +kernel) rfl
theorem jw_738 : Cond.methodLink "LevelingNetwork$Survey" 61 ⟨"LevelingNetwork$Survey", "copyLines", "(LLevelingNetwork$Survey;)V"⟩ ∈ jk_WS := jk_wt4 (i := 18) (by decide +kernel) rfl
theorem jw_740 : Cond.instanceMethod ⟨"LevelingNetwork$Survey", "copyLines", "(LLevelingNetwork$Survey;)V"⟩ ∈ jk_WS := jk_wt4 (i := 20) (by decide +kernel) rfl
theorem jw_741 : Cond.code ⟨"LevelingNetwork$Survey", "copyLines", "(LLevelingNetwork$Survey;)V"⟩ prog_11_method_4_code 3 (Option.none : Option ClassFile.FieldType) ∈ jk_WS := jk_wt4 (i := 21) (by decide +kernel) rfl
theorem jw_742 : Cond.methodLink "LevelingNetwork$Survey" 64 ⟨"LevelingNetwork$Survey", "copyProfiles", "(LLevelingNetwork$Survey;)V"⟩ ∈ jk_WS := jk_wt4 (i := 22) (by decide +kernel) rfl
theorem jw_744 : Cond.instanceMethod ⟨"LevelingNetwork$Survey", "copyProfiles", "(LLevelingNetwork$Survey;)V"⟩ ∈ jk_WS := jk_wt4 (i := 24) (by decide +kernel) rfl
theorem jw_745 : Cond.code ⟨"LevelingNetwork$Survey", "copyProfiles", "(LLevelingNetwork$Survey;)V"⟩ prog_11_method_5_code 4 (Option.none : Option ClassFile.FieldType) ∈ jk_WS := jk_wt4 (i := 25) (by decide +kernel) rfl
theorem jw_746 : Cond.methodLink "LevelingNetwork" 436 ⟨"LevelingNetwork$Changes", "carryOut", "(LLevelingNetwork$Kind;IIII)I"⟩ ∈ jk_WS := jk_wt4 (i := 26) (by decide +kernel) rfl
theorem jw_747 : Cond.instanceMethod ⟨"LevelingNetwork$Changes", "carryOut", "(LLevelingNetwork$Kind;IIII)I"⟩ ∈ jk_WS := jk_wt4 (i := 27) (by decide +kernel) rfl
theorem jw_748 : Cond.selects "LevelingNetwork$Changes" ⟨"LevelingNetwork$Changes", "carryOut", "(LLevelingNetwork$Kind;IIII)I"⟩ ⟨"LevelingNetwork$Changes", "carryOut", "(LLevelingNetwork$Kind;IIII)I"⟩ ∈ jk_WS := jk_wt4 (i := 28) (by decide +kernel) rfl
theorem jw_749 : Cond.code ⟨"LevelingNetwork$Changes", "carryOut", "(LLevelingNetwork$Kind;IIII)I"⟩ prog_4_method_14_code 6 (Option.some ClassFile.FieldType.int) ∈ jk_WS := jk_wt4 (i := 29) (by decide +kernel) rfl
theorem jw_750 : Cond.methodLink "LevelingNetwork$Changes" 173 ⟨"LevelingNetwork$Changes", "putBenchmark", "()I"⟩ ∈ jk_WS := jk_wt4 (i := 30) (by decide +kernel) rfl
theorem jw_752 : Cond.instanceMethod ⟨"LevelingNetwork$Changes", "putBenchmark", "()I"⟩ ∈ jk_WS := jk_wt4 (i := 32) (by decide +kernel) rfl
theorem jw_753 : Cond.code ⟨"LevelingNetwork$Changes", "putBenchmark", "()I"⟩ prog_4_method_15_code 2 (Option.some ClassFile.FieldType.int) ∈ jk_WS := jk_wt4 (i := 33) (by decide +kernel) rfl
theorem jw_754 : Cond.methodLink "LevelingNetwork$Changes" 179 ⟨"LevelingNetwork$Survey", "fixedBenchmarks", "()I"⟩ ∈ jk_WS := jk_wt4 (i := 34) (by decide +kernel) rfl
theorem jw_755 : Cond.instanceMethod ⟨"LevelingNetwork$Survey", "fixedBenchmarks", "()I"⟩ ∈ jk_WS := jk_wt4 (i := 35) (by decide +kernel) rfl
theorem jw_756 : Cond.selects "LevelingNetwork$Survey" ⟨"LevelingNetwork$Survey", "fixedBenchmarks", "()I"⟩ ⟨"LevelingNetwork$Survey", "fixedBenchmarks", "()I"⟩ ∈ jk_WS := jk_wt4 (i := 36) (by decide +kernel) rfl
theorem jw_757 : Cond.code ⟨"LevelingNetwork$Survey", "fixedBenchmarks", "()I"⟩ prog_11_method_9_code 3 (Option.some ClassFile.FieldType.int) ∈ jk_WS := jk_wt4 (i := 37) (by decide +kernel) rfl
theorem jw_758 : Cond.methodLink "LevelingNetwork$Changes" 182 ⟨"LevelingNetwork$Changes", "putLine", "(IIII)I"⟩ ∈ jk_WS := jk_wt4 (i := 38) (by decide +kernel) rfl
theorem jw_760 : Cond.instanceMethod ⟨"LevelingNetwork$Changes", "putLine", "(IIII)I"⟩ ∈ jk_WS := jk_wt4 (i := 40) (by decide +kernel) rfl
theorem jw_761 : Cond.code ⟨"LevelingNetwork$Changes", "putLine", "(IIII)I"⟩ prog_4_method_16_code 6 (Option.some ClassFile.FieldType.int) ∈ jk_WS := jk_wt4 (i := 41) (by decide +kernel) rfl
theorem jw_762 : Cond.methodLink "LevelingNetwork$Changes" 189 ⟨"LevelingNetwork$Survey", "sumOfRuns", "(I)I"⟩ ∈ jk_WS := jk_wt4 (i := 42) (by decide +kernel) rfl
theorem jw_763 : Cond.methodLink "LevelingNetwork$Changes" 192 ⟨"LevelingNetwork$Survey", "usableLines", "()I"⟩ ∈ jk_WS := jk_wt4 (i := 43) (by decide +kernel) rfl
theorem jw_764 : Cond.instanceMethod ⟨"LevelingNetwork$Survey", "usableLines", "()I"⟩ ∈ jk_WS := jk_wt4 (i := 44) (by decide +kernel) rfl
theorem jw_765 : Cond.selects "LevelingNetwork$Survey" ⟨"LevelingNetwork$Survey", "usableLines", "()I"⟩ ⟨"LevelingNetwork$Survey", "usableLines", "()I"⟩ ∈ jk_WS := jk_wt4 (i := 45) (by decide +kernel) rfl
theorem jw_766 : Cond.code ⟨"LevelingNetwork$Survey", "usableLines", "()I"⟩ prog_11_method_14_code 3 (Option.some ClassFile.FieldType.int) ∈ jk_WS := jk_wt4 (i := 46) (by decide +kernel) rfl
theorem jw_767 : Cond.methodLink "LevelingNetwork$Survey" 95 ⟨"LevelingNetwork$Survey", "usable", "(I)Z"⟩ ∈ jk_WS := jk_wt4 (i := 47) (by decide +kernel) rfl
theorem jw_768 : Cond.methodLink "LevelingNetwork$Changes" 195 ⟨"LevelingNetwork$Changes", "shareOut", "(I)I"⟩ ∈ jk_WS := jk_wt4 (i := 48) (by decide +kernel) rfl
theorem jw_770 : Cond.instanceMethod ⟨"LevelingNetwork$Changes", "shareOut", "(I)I"⟩ ∈ jk_WS := jk_wt4 (i := 50) (by decide +kernel) rfl
theorem jw_771 : Cond.code ⟨"LevelingNetwork$Changes", "shareOut", "(I)I"⟩ prog_4_method_17_code 3 (Option.some ClassFile.FieldType.int) ∈ jk_WS := jk_wt4 (i := 51) (by decide +kernel) rfl
theorem jw_772 : Cond.methodLink "LevelingNetwork$Changes" 226 ⟨"LevelingNetwork$Sharing", "divide", "(LLevelingNetwork$Way;)V"⟩ ∈ jk_WS := jk_wt4 (i := 52) (by decide +kernel) rfl
theorem jw_773 : Cond.instanceMethod ⟨"LevelingNetwork$Sharing", "divide", "(LLevelingNetwork$Way;)V"⟩ ∈ jk_WS := jk_wt4 (i := 53) (by decide +kernel) rfl
theorem jw_774 : Cond.selects "LevelingNetwork$Sharing" ⟨"LevelingNetwork$Sharing", "divide", "(LLevelingNetwork$Way;)V"⟩ ⟨"LevelingNetwork$Sharing", "divide", "(LLevelingNetwork$Way;)V"⟩ ∈ jk_WS := jk_wt4 (i := 54) (by decide +kernel) rfl
theorem jw_775 : Cond.code ⟨"LevelingNetwork$Sharing", "divide", "(LLevelingNetwork$Way;)V"⟩ prog_10_method_2_code 8 (Option.none : Option ClassFile.FieldType) ∈ jk_WS := jk_wt4 (i := 55) (by decide +kernel) rfl
theorem jw_776 : Cond.methodLink "LevelingNetwork$Sharing" 22 ⟨"LevelingNetwork$Way", "rise", "()I"⟩ ∈ jk_WS := jk_wt4 (i := 56) (by decide +kernel) rfl
theorem jw_777 : Cond.methodLink "LevelingNetwork$Sharing" 28 ⟨"java/lang/Math", "abs", "(I)I"⟩ ∈ jk_WS := jk_wt4 (i := 57) (by decide +kernel) rfl
theorem jw_778 : Cond.methodLink "LevelingNetwork$Sharing" 34 ⟨"LevelingNetwork$Way", "totalLength", "()I"⟩ ∈ jk_WS := jk_wt4 (i := 58) (by decide +kernel) rfl
theorem jw_779 : Cond.methodLink "LevelingNetwork$Sharing" 49 ⟨"LevelingNetwork$Sharing", "giveOut", "(I)V"⟩ ∈ jk_WS := jk_wt4 (i := 59) (by decide +kernel) rfl
theorem jw_781 : Cond.instanceMethod ⟨"LevelingNetwork$Sharing", "giveOut", "(I)V"⟩ ∈ jk_WS := jk_wt4 (i := 61) (by decide +kernel) rfl
theorem jw_782 : Cond.code ⟨"LevelingNetwork$Sharing", "giveOut", "(I)V"⟩ prog_10_method_3_code 5 (Option.none : Option ClassFile.FieldType) ∈ jk_WS := jk_wt4 (i := 62) (by decide +kernel) rfl
theorem jw_783 : Cond.methodLink "LevelingNetwork$Changes" 232 ⟨"LevelingNetwork$Sharing", "correct", "(LLevelingNetwork$Way;)V"⟩ ∈ jk_WS := jk_wt4 (i := 63) (by decide +kernel) rfl
theorem jw_784 : Cond.instanceMethod ⟨"LevelingNetwork$Sharing", "correct", "(LLevelingNetwork$Way;)V"⟩ ∈ jk_WS := jk_wt4 (i := 64) (by decide +kernel) rfl
theorem jw_785 : Cond.selects "LevelingNetwork$Sharing" ⟨"LevelingNetwork$Sharing", "correct", "(LLevelingNetwork$Way;)V"⟩ ⟨"LevelingNetwork$Sharing", "correct", "(LLevelingNetwork$Way;)V"⟩ ∈ jk_WS := jk_wt4 (i := 65) (by decide +kernel) rfl
theorem jw_786 : Cond.code ⟨"LevelingNetwork$Sharing", "correct", "(LLevelingNetwork$Way;)V"⟩ prog_10_method_4_code 5 (Option.none : Option ClassFile.FieldType) ∈ jk_WS := jk_wt4 (i := 66) (by decide +kernel) rfl
theorem jw_787 : Cond.methodLink "LevelingNetwork$Changes" 198 ⟨"LevelingNetwork$Changes", "clearCorrections", "()I"⟩ ∈ jk_WS := jk_wt4 (i := 67) (by decide +kernel) rfl
theorem jw_789 : Cond.instanceMethod ⟨"LevelingNetwork$Changes", "clearCorrections", "()I"⟩ ∈ jk_WS := jk_wt4 (i := 69) (by decide +kernel) rfl
theorem jw_790 : Cond.code ⟨"LevelingNetwork$Changes", "clearCorrections", "()I"⟩ prog_4_method_18_code 3 (Option.some ClassFile.FieldType.int) ∈ jk_WS := jk_wt4 (i := 70) (by decide +kernel) rfl
theorem jw_791 : Cond.methodLink "LevelingNetwork$Changes" 201 ⟨"LevelingNetwork$Changes", "putProfile", "(I)I"⟩ ∈ jk_WS := jk_wt4 (i := 71) (by decide +kernel) rfl
theorem jw_793 : Cond.instanceMethod ⟨"LevelingNetwork$Changes", "putProfile", "(I)I"⟩ ∈ jk_WS := jk_wt4 (i := 73) (by decide +kernel) rfl
theorem jw_794 : Cond.code ⟨"LevelingNetwork$Changes", "putProfile", "(I)I"⟩ prog_4_method_19_code 3 (Option.some ClassFile.FieldType.int) ∈ jk_WS := jk_wt4 (i := 74) (by decide +kernel) rfl
theorem jw_795 : Cond.methodLink "LevelingNetwork$Changes" 204 ⟨"LevelingNetwork$Changes", "putStation", "(III)I"⟩ ∈ jk_WS := jk_wt4 (i := 75) (by decide +kernel) rfl
theorem jw_797 : Cond.instanceMethod ⟨"LevelingNetwork$Changes", "putStation", "(III)I"⟩ ∈ jk_WS := jk_wt4 (i := 77) (by decide +kernel) rfl
theorem jw_798 : Cond.code ⟨"LevelingNetwork$Changes", "putStation", "(III)I"⟩ prog_4_method_20_code 5 (Option.some ClassFile.FieldType.int) ∈ jk_WS := jk_wt4 (i := 78) (by decide +kernel) rfl
theorem jw_799 : Cond.methodLink "LevelingNetwork$Changes" 208 ⟨"LevelingNetwork$Changes", "putWater", "(I)I"⟩ ∈ jk_WS := jk_wt4 (i := 79) (by decide +kernel) rfl
theorem jw_801 : Cond.instanceMethod ⟨"LevelingNetwork$Changes", "putWater", "(I)I"⟩ ∈ jk_WS := jk_wt4 (i := 81) (by decide +kernel) rfl
theorem jw_802 : Cond.code ⟨"LevelingNetwork$Changes", "putWater", "(I)I"⟩ prog_4_method_21_code 3 (Option.some ClassFile.FieldType.int) ∈ jk_WS := jk_wt4 (i := 82) (by decide +kernel) rfl
theorem jw_803 : Cond.methodLink "LevelingNetworkLaw" 69 ⟨"LevelingNetwork", "fix", "(II)I"⟩ ∈ jk_WS := jk_wt4 (i := 83) (by decide +kernel) rfl
theorem jw_804 : Cond.instanceMethod ⟨"LevelingNetwork", "fix", "(II)I"⟩ ∈ jk_WS := jk_wt4 (i := 84) (by decide +kernel) rfl
theorem jw_805 : Cond.selects "LevelingNetwork" ⟨"LevelingNetwork", "fix", "(II)I"⟩ ⟨"LevelingNetwork", "fix", "(II)I"⟩ ∈ jk_WS := jk_wt4 (i := 85) (by decide +kernel) rfl
theorem jw_806 : Cond.code ⟨"LevelingNetwork", "fix", "(II)I"⟩ prog_1_method_3_code 3 (Option.some ClassFile.FieldType.int) ∈ jk_WS := jk_wt4 (i := 86) (by decide +kernel) rfl
theorem jw_807 : Cond.fieldLink "LevelingNetwork" 108 "LevelingNetwork$Kind" "FIX" "LLevelingNetwork$Kind;" ∈ jk_WS := jk_wt4 (i := 87) (by decide +kernel) rfl
theorem jw_809 : Cond.methodLink "LevelingNetworkLaw" 72 ⟨"LevelingNetwork", "release", "(I)I"⟩ ∈ jk_WS := jk_wt4 (i := 89) (by decide +kernel) rfl
theorem jw_810 : Cond.instanceMethod ⟨"LevelingNetwork", "release", "(I)I"⟩ ∈ jk_WS := jk_wt4 (i := 90) (by decide +kernel) rfl
theorem jw_811 : Cond.selects "LevelingNetwork" ⟨"LevelingNetwork", "release", "(I)I"⟩ ⟨"LevelingNetwork", "release", "(I)I"⟩ ∈ jk_WS := jk_wt4 (i := 91) (by decide +kernel) rfl
theorem jw_812 : Cond.code ⟨"LevelingNetwork", "release", "(I)I"⟩ prog_1_method_4_code 2 (Option.some ClassFile.FieldType.int) ∈ jk_WS := jk_wt4 (i := 92) (by decide +kernel) rfl
theorem jw_813 : Cond.fieldLink "LevelingNetwork" 111 "LevelingNetwork$Kind" "FREE" "LLevelingNetwork$Kind;" ∈ jk_WS := jk_wt4 (i := 93) (by decide +kernel) rfl
theorem jw_815 : Cond.methodLink "LevelingNetworkLaw" 75 ⟨"LevelingNetwork", "addBackwardRun", "(II)I"⟩ ∈ jk_WS := jk_wt4 (i := 95) (by decide +kernel) rfl
theorem jw_816 : Cond.instanceMethod ⟨"LevelingNetwork", "addBackwardRun", "(II)I"⟩ ∈ jk_WS := jk_wt4 (i := 96) (by decide +kernel) rfl
theorem jw_817 : Cond.selects "LevelingNetwork" ⟨"LevelingNetwork", "addBackwardRun", "(II)I"⟩ ⟨"LevelingNetwork", "addBackwardRun", "(II)I"⟩ ∈ jk_WS := jk_wt4 (i := 97) (by decide +kernel) rfl
theorem jw_818 : Cond.code ⟨"LevelingNetwork", "addBackwardRun", "(II)I"⟩ prog_1_method_6_code 3 (Option.some ClassFile.FieldType.int) ∈ jk_WS := jk_wt4 (i := 98) (by decide +kernel) rfl
theorem jw_819 : Cond.fieldLink "LevelingNetwork" 117 "LevelingNetwork$Kind" "BACK" "LLevelingNetwork$Kind;" ∈ jk_WS := jk_wt4 (i := 99) (by decide +kernel) rfl
theorem jw_821 : Cond.methodLink "LevelingNetworkLaw" 78 ⟨"LevelingNetwork", "exclude", "(I)I"⟩ ∈ jk_WS := jk_wt4 (i := 101) (by decide +kernel) rfl
theorem jw_822 : Cond.instanceMethod ⟨"LevelingNetwork", "exclude", "(I)I"⟩ ∈ jk_WS := jk_wt4 (i := 102) (by decide +kernel) rfl
theorem jw_823 : Cond.selects "LevelingNetwork" ⟨"LevelingNetwork", "exclude", "(I)I"⟩ ⟨"LevelingNetwork", "exclude", "(I)I"⟩ ∈ jk_WS := jk_wt4 (i := 103) (by decide +kernel) rfl
theorem jw_824 : Cond.code ⟨"LevelingNetwork", "exclude", "(I)I"⟩ prog_1_method_7_code 2 (Option.some ClassFile.FieldType.int) ∈ jk_WS := jk_wt4 (i := 104) (by decide +kernel) rfl
theorem jw_825 : Cond.fieldLink "LevelingNetwork" 120 "LevelingNetwork$Kind" "EXCLUDE" "LLevelingNetwork$Kind;" ∈ jk_WS := jk_wt4 (i := 105) (by decide +kernel) rfl
theorem jw_827 : Cond.methodLink "LevelingNetworkLaw" 81 ⟨"LevelingNetwork", "include", "(I)I"⟩ ∈ jk_WS := jk_wt4 (i := 107) (by decide +kernel) rfl
theorem jw_828 : Cond.instanceMethod ⟨"LevelingNetwork", "include", "(I)I"⟩ ∈ jk_WS := jk_wt4 (i := 108) (by decide +kernel) rfl
theorem jw_829 : Cond.selects "LevelingNetwork" ⟨"LevelingNetwork", "include", "(I)I"⟩ ⟨"LevelingNetwork", "include", "(I)I"⟩ ∈ jk_WS := jk_wt4 (i := 109) (by decide +kernel) rfl
theorem jw_830 : Cond.code ⟨"LevelingNetwork", "include", "(I)I"⟩ prog_1_method_8_code 2 (Option.some ClassFile.FieldType.int) ∈ jk_WS := jk_wt4 (i := 110) (by decide +kernel) rfl
theorem jw_831 : Cond.fieldLink "LevelingNetwork" 123 "LevelingNetwork$Kind" "INCLUDE" "LLevelingNetwork$Kind;" ∈ jk_WS := jk_wt4 (i := 111) (by decide +kernel) rfl
theorem jw_833 : Cond.methodLink "LevelingNetworkLaw" 84 ⟨"LevelingNetwork", "shareMisclosure", "(I)I"⟩ ∈ jk_WS := jk_wt4 (i := 113) (by decide +kernel) rfl
theorem jw_834 : Cond.instanceMethod ⟨"LevelingNetwork", "shareMisclosure", "(I)I"⟩ ∈ jk_WS := jk_wt4 (i := 114) (by decide +kernel) rfl
theorem jw_835 : Cond.selects "LevelingNetwork" ⟨"LevelingNetwork", "shareMisclosure", "(I)I"⟩ ⟨"LevelingNetwork", "shareMisclosure", "(I)I"⟩ ∈ jk_WS := jk_wt4 (i := 115) (by decide +kernel) rfl
theorem jw_836 : Cond.code ⟨"LevelingNetwork", "shareMisclosure", "(I)I"⟩ prog_1_method_9_code 2 (Option.some ClassFile.FieldType.int) ∈ jk_WS := jk_wt4 (i := 116) (by decide +kernel) rfl
theorem jw_837 : Cond.fieldLink "LevelingNetwork" 126 "LevelingNetwork$Kind" "SHARE" "LLevelingNetwork$Kind;" ∈ jk_WS := jk_wt4 (i := 117) (by decide +kernel) rfl
theorem jw_839 : Cond.methodLink "LevelingNetworkLaw" 222 ⟨"LevelingNetwork", "resetCorrections", "()I"⟩ ∈ jk_WS := jk_wt4 (i := 119) (by decide +kernel) rfl
theorem jw_840 : Cond.instanceMethod ⟨"LevelingNetwork", "resetCorrections", "()I"⟩ ∈ jk_WS := jk_wt4 (i := 120) (by decide +kernel) rfl
theorem jw_841 : Cond.selects "LevelingNetwork" ⟨"LevelingNetwork", "resetCorrections", "()I"⟩ ⟨"LevelingNetwork", "resetCorrections", "()I"⟩ ∈ jk_WS := jk_wt4 (i := 121) (by decide +kernel) rfl
theorem jw_842 : Cond.code ⟨"LevelingNetwork", "resetCorrections", "()I"⟩ prog_1_method_10_code 1 (Option.some ClassFile.FieldType.int) ∈ jk_WS := jk_wt4 (i := 122) (by decide +kernel) rfl
theorem jw_843 : Cond.fieldLink "LevelingNetwork" 129 "LevelingNetwork$Kind" "RESET" "LLevelingNetwork$Kind;" ∈ jk_WS := jk_wt4 (i := 123) (by decide +kernel) rfl
theorem jw_845 : Cond.methodLink "LevelingNetworkLaw" 94 ⟨"LevelingNetwork", "setWaterLevel", "(I)I"⟩ ∈ jk_WS := jk_wt4 (i := 125) (by decide +kernel) rfl
theorem jw_846 : Cond.instanceMethod ⟨"LevelingNetwork", "setWaterLevel", "(I)I"⟩ ∈ jk_WS := jk_wt4 (i := 126) (by decide +kernel) rfl
theorem jw_847 : Cond.selects "LevelingNetwork" ⟨"LevelingNetwork", "setWaterLevel", "(I)I"⟩ ⟨"LevelingNetwork", "setWaterLevel", "(I)I"⟩ ∈ jk_WS := jk_wt4 (i := 127) (by decide +kernel) rfl
theorem jw_848 : Cond.code ⟨"LevelingNetwork", "setWaterLevel", "(I)I"⟩ prog_1_method_13_code 2 (Option.some ClassFile.FieldType.int) ∈ jk_WS := jk_wt4 (i := 128) (by decide +kernel) rfl
theorem jw_849 : Cond.fieldLink "LevelingNetwork" 138 "LevelingNetwork$Kind" "WATER" "LLevelingNetwork$Kind;" ∈ jk_WS := jk_wt4 (i := 129) (by decide +kernel) rfl
theorem jw_851 : Cond.methodLink "LevelingNetworkLaw" 148 ⟨"LevelingNetwork", "benchmarkCount", "()I"⟩ ∈ jk_WS := jk_wt4 (i := 131) (by decide +kernel) rfl
theorem jw_852 : Cond.instanceMethod ⟨"LevelingNetwork", "benchmarkCount", "()I"⟩ ∈ jk_WS := jk_wt4 (i := 132) (by decide +kernel) rfl
theorem jw_853 : Cond.selects "LevelingNetwork" ⟨"LevelingNetwork", "benchmarkCount", "()I"⟩ ⟨"LevelingNetwork", "benchmarkCount", "()I"⟩ ∈ jk_WS := jk_wt4 (i := 133) (by decide +kernel) rfl
theorem jw_854 : Cond.code ⟨"LevelingNetwork", "benchmarkCount", "()I"⟩ prog_1_method_14_code 1 (Option.some ClassFile.FieldType.int) ∈ jk_WS := jk_wt4 (i := 134) (by decide +kernel) rfl
theorem jw_855 : Cond.methodLink "LevelingNetworkLaw" 338 ⟨"LevelingNetwork", "hasHeight", "(I)Z"⟩ ∈ jk_WS := jk_wt4 (i := 135) (by decide +kernel) rfl
theorem jw_856 : Cond.instanceMethod ⟨"LevelingNetwork", "hasHeight", "(I)Z"⟩ ∈ jk_WS := jk_wt4 (i := 136) (by decide +kernel) rfl
theorem jw_857 : Cond.selects "LevelingNetwork" ⟨"LevelingNetwork", "hasHeight", "(I)Z"⟩ ⟨"LevelingNetwork", "hasHeight", "(I)Z"⟩ ∈ jk_WS := jk_wt4 (i := 137) (by decide +kernel) rfl
theorem jw_858 : Cond.code ⟨"LevelingNetwork", "hasHeight", "(I)Z"⟩ prog_1_method_16_code 2 (Option.some ClassFile.FieldType.boolean) ∈ jk_WS := jk_wt4 (i := 138) (by decide +kernel) rfl
theorem jw_859 : Cond.methodLink "LevelingNetwork" 144 ⟨"LevelingNetwork", "requireBenchmark", "(I)V"⟩ ∈ jk_WS := jk_wt4 (i := 139) (by decide +kernel) rfl
theorem jw_861 : Cond.instanceMethod ⟨"LevelingNetwork", "requireBenchmark", "(I)V"⟩ ∈ jk_WS := jk_wt4 (i := 141) (by decide +kernel) rfl
theorem jw_862 : Cond.code ⟨"LevelingNetwork", "requireBenchmark", "(I)V"⟩ prog_1_method_67_code 2 (Option.none : Option ClassFile.FieldType) ∈ jk_WS := jk_wt4 (i := 142) (by decide +kernel) rfl
theorem jw_863 : Cond.methodLink "LevelingNetwork" 462 ⟨"LevelingNetwork$Survey", "hasBenchmark", "(I)Z"⟩ ∈ jk_WS := jk_wt4 (i := 143) (by decide +kernel) rfl
theorem jw_865 : Cond.methodLink "LevelingNetwork" 152 ⟨"LevelingNetwork$Forest", "find", "()V"⟩ ∈ jk_WS := jk_wt4 (i := 145) (by decide +kernel) rfl
theorem jw_866 : Cond.methodLink "LevelingNetwork" 155 ⟨"LevelingNetwork$Heights", "exists", "(I)Z"⟩ ∈ jk_WS := jk_wt4 (i := 146) (by decide +kernel) rfl
theorem jw_867 : Cond.instanceMethod ⟨"LevelingNetwork$Heights", "exists", "(I)Z"⟩ ∈ jk_WS := jk_wt4 (i := 147) (by decide +kernel) rfl
theorem jw_868 : Cond.selects "LevelingNetwork$Heights" ⟨"LevelingNetwork$Heights", "exists", "(I)Z"⟩ ⟨"LevelingNetwork$Heights", "exists", "(I)Z"⟩ ∈ jk_WS := jk_wt4 (i := 148) (by decide +kernel) rfl
theorem jw_869 : Cond.code ⟨"LevelingNetwork$Heights", "exists", "(I)Z"⟩ prog_6_method_3_code 2 (Option.some ClassFile.FieldType.boolean) ∈ jk_WS := jk_wt4 (i := 149) (by decide +kernel) rfl
theorem jw_870 : Cond.methodLink "LevelingNetwork$Heights" 50 ⟨"LevelingNetwork$Heights", "datumOf", "(I)I"⟩ ∈ jk_WS := jk_wt4 (i := 150) (by decide +kernel) rfl
theorem jw_871 : Cond.instanceMethod ⟨"LevelingNetwork$Heights", "datumOf", "(I)I"⟩ ∈ jk_WS := jk_wt4 (i := 151) (by decide +kernel) rfl
theorem jw_872 : Cond.selects "LevelingNetwork$Heights" ⟨"LevelingNetwork$Heights", "datumOf", "(I)I"⟩ ⟨"LevelingNetwork$Heights", "datumOf", "(I)I"⟩ ∈ jk_WS := jk_wt4 (i := 152) (by decide +kernel) rfl
theorem jw_873 : Cond.code ⟨"LevelingNetwork$Heights", "datumOf", "(I)I"⟩ prog_6_method_2_code 3 (Option.some ClassFile.FieldType.int) ∈ jk_WS := jk_wt4 (i := 153) (by decide +kernel) rfl
theorem jw_874 : Cond.methodLink "LevelingNetworkLaw" 97 ⟨"LevelingNetwork", "height", "(I)I"⟩ ∈ jk_WS := jk_wt4 (i := 154) (by decide +kernel) rfl
theorem jw_875 : Cond.instanceMethod ⟨"LevelingNetwork", "height", "(I)I"⟩ ∈ jk_WS := jk_wt4 (i := 155) (by decide +kernel) rfl
theorem jw_876 : Cond.selects "LevelingNetwork" ⟨"LevelingNetwork", "height", "(I)I"⟩ ⟨"LevelingNetwork", "height", "(I)I"⟩ ∈ jk_WS := jk_wt4 (i := 156) (by decide +kernel) rfl
theorem jw_877 : Cond.code ⟨"LevelingNetwork", "height", "(I)I"⟩ prog_1_method_17_code 2 (Option.some ClassFile.FieldType.int) ∈ jk_WS := jk_wt4 (i := 157) (by decide +kernel) rfl
theorem jw_878 : Cond.methodLink "LevelingNetwork" 159 ⟨"LevelingNetwork", "requireHeight", "(I)V"⟩ ∈ jk_WS := jk_wt4 (i := 158) (by decide +kernel) rfl
theorem jw_880 : Cond.instanceMethod ⟨"LevelingNetwork", "requireHeight", "(I)V"⟩ ∈ jk_WS := jk_wt4 (i := 160) (by decide +kernel) rfl
theorem jw_881 : Cond.code ⟨"LevelingNetwork", "requireHeight", "(I)V"⟩ prog_1_method_70_code 2 (Option.none : Option ClassFile.FieldType) ∈ jk_WS := jk_wt4 (i := 161) (by decide +kernel) rfl
theorem jw_883 : Cond.methodLink "LevelingNetwork" 162 ⟨"LevelingNetwork$Heights", "byWay", "(I)I"⟩ ∈ jk_WS := jk_wt4 (i := 163) (by decide +kernel) rfl
theorem jw_884 : Cond.instanceMethod ⟨"LevelingNetwork$Heights", "byWay", "(I)I"⟩ ∈ jk_WS := jk_wt4 (i := 164) (by decide +kernel) rfl
theorem jw_885 : Cond.selects "LevelingNetwork$Heights" ⟨"LevelingNetwork$Heights", "byWay", "(I)I"⟩ ⟨"LevelingNetwork$Heights", "byWay", "(I)I"⟩ ∈ jk_WS := jk_wt4 (i := 165) (by decide +kernel) rfl
theorem jw_886 : Cond.code ⟨"LevelingNetwork$Heights", "byWay", "(I)I"⟩ prog_6_method_4_code 2 (Option.some ClassFile.FieldType.int) ∈ jk_WS := jk_wt4 (i := 166) (by decide +kernel) rfl
theorem jw_887 : Cond.methodLink "LevelingNetwork$Heights" 57 ⟨"LevelingNetwork$Heights", "carriedFromDatum", "(I)I"⟩ ∈ jk_WS := jk_wt4 (i := 167) (by decide +kernel) rfl
theorem jw_888 : Cond.instanceMethod ⟨"LevelingNetwork$Heights", "carriedFromDatum", "(I)I"⟩ ∈ jk_WS := jk_wt4 (i := 168) (by decide +kernel) rfl
theorem jw_889 : Cond.selects "LevelingNetwork$Heights" ⟨"LevelingNetwork$Heights", "carriedFromDatum", "(I)I"⟩ ⟨"LevelingNetwork$Heights", "carriedFromDatum", "(I)I"⟩ ∈ jk_WS := jk_wt4 (i := 169) (by decide +kernel) rfl
theorem jw_890 : Cond.code ⟨"LevelingNetwork$Heights", "carriedFromDatum", "(I)I"⟩ prog_6_method_5_code 3 (Option.some ClassFile.FieldType.int) ∈ jk_WS := jk_wt4 (i := 170) (by decide +kernel) rfl
theorem jw_891 : Cond.methodLink "LevelingNetwork$Heights" 60 ⟨"LevelingNetwork$Way", "trace", "(II)V"⟩ ∈ jk_WS := jk_wt4 (i := 171) (by decide +kernel) rfl
theorem jw_892 : Cond.instanceMethod ⟨"LevelingNetwork$Way", "trace", "(II)V"⟩ ∈ jk_WS := jk_wt4 (i := 172) (by decide +kernel) rfl
theorem jw_893 : Cond.selects "LevelingNetwork$Way" ⟨"LevelingNetwork$Way", "trace", "(II)V"⟩ ⟨"LevelingNetwork$Way", "trace", "(II)V"⟩ ∈ jk_WS := jk_wt4 (i := 173) (by decide +kernel) rfl
theorem jw_894 : Cond.code ⟨"LevelingNetwork$Way", "trace", "(II)V"⟩ prog_13_method_2_code 3 (Option.none : Option ClassFile.FieldType) ∈ jk_WS := jk_wt4 (i := 174) (by decide +kernel) rfl
theorem jw_895 : Cond.methodLink "LevelingNetwork$Heights" 64 ⟨"LevelingNetwork$Way", "rise", "()I"⟩ ∈ jk_WS := jk_wt4 (i := 175) (by decide +kernel) rfl
theorem jw_896 : Cond.methodLink "LevelingNetworkLaw" 100 ⟨"LevelingNetwork", "heightByRounds", "(I)I"⟩ ∈ jk_WS := jk_wt4 (i := 176) (by decide +kernel) rfl
theorem jw_897 : Cond.instanceMethod ⟨"LevelingNetwork", "heightByRounds", "(I)I"⟩ ∈ jk_WS := jk_wt4 (i := 177) (by decide +kernel) rfl
theorem jw_898 : Cond.selects "LevelingNetwork" ⟨"LevelingNetwork", "heightByRounds", "(I)I"⟩ ⟨"LevelingNetwork", "heightByRounds", "(I)I"⟩ ∈ jk_WS := jk_wt4 (i := 178) (by decide +kernel) rfl
theorem jw_899 : Cond.code ⟨"LevelingNetwork", "heightByRounds", "(I)I"⟩ prog_1_method_18_code 2 (Option.some ClassFile.FieldType.int) ∈ jk_WS := jk_wt4 (i := 179) (by decide +kernel) rfl
theorem jw_900 : Cond.methodLink "LevelingNetwork" 166 ⟨"LevelingNetwork$Heights", "byRounds", "(I)I"⟩ ∈ jk_WS := jk_wt4 (i := 180) (by decide +kernel) rfl
theorem jw_901 : Cond.instanceMethod ⟨"LevelingNetwork$Heights", "byRounds", "(I)I"⟩ ∈ jk_WS := jk_wt4 (i := 181) (by decide +kernel) rfl
theorem jw_902 : Cond.selects "LevelingNetwork$Heights" ⟨"LevelingNetwork$Heights", "byRounds", "(I)I"⟩ ⟨"LevelingNetwork$Heights", "byRounds", "(I)I"⟩ ∈ jk_WS := jk_wt4 (i := 182) (by decide +kernel) rfl
theorem jw_903 : Cond.code ⟨"LevelingNetwork$Heights", "byRounds", "(I)I"⟩ prog_6_method_6_code 3 (Option.some ClassFile.FieldType.int) ∈ jk_WS := jk_wt4 (i := 183) (by decide +kernel) rfl
theorem jw_904 : Cond.methodLink "LevelingNetwork$Heights" 68 ⟨"LevelingNetwork$Heights", "passOn", "(II)V"⟩ ∈ jk_WS := jk_wt4 (i := 184) (by decide +kernel) rfl
theorem jw_906 : Cond.instanceMethod ⟨"LevelingNetwork$Heights", "passOn", "(II)V"⟩ ∈ jk_WS := jk_wt4 (i := 186) (by decide +kernel) rfl
theorem jw_907 : Cond.code ⟨"LevelingNetwork$Heights", "passOn", "(II)V"⟩ prog_6_method_8_code 5 (Option.none : Option ClassFile.FieldType) ∈ jk_WS := jk_wt4 (i := 187) (by decide +kernel) rfl
theorem jw_908 : Cond.methodLink "LevelingNetwork$Heights" 80 ⟨"LevelingNetwork$Heights", "passOnOnce", "()Z"⟩ ∈ jk_WS := jk_wt4 (i := 188) (by decide +kernel) rfl
theorem jw_910 : Cond.instanceMethod ⟨"LevelingNetwork$Heights", "passOnOnce", "()Z"⟩ ∈ jk_WS := jk_wt4 (i := 190) (by decide +kernel) rfl
theorem jw_911 : Cond.code ⟨"LevelingNetwork$Heights", "passOnOnce", "()Z"⟩ prog_6_method_9_code 5 (Option.some ClassFile.FieldType.boolean) ∈ jk_WS := jk_wt4 (i := 191) (by decide +kernel) rfl
theorem jw_912 : Cond.methodLink "LevelingNetwork$Heights" 77 ⟨"LevelingNetwork$Survey", "corrected", "(I)I"⟩ ∈ jk_WS := jk_wt4 (i := 192) (by decide +kernel) rfl
theorem jw_913 : Cond.methodLink "LevelingNetworkLaw" 103 ⟨"LevelingNetwork", "closingError", "(I)I"⟩ ∈ jk_WS := jk_wt4 (i := 193) (by decide +kernel) rfl
theorem jw_914 : Cond.instanceMethod ⟨"LevelingNetwork", "closingError", "(I)I"⟩ ∈ jk_WS := jk_wt4 (i := 194) (by decide +kernel) rfl
theorem jw_915 : Cond.selects "LevelingNetwork" ⟨"LevelingNetwork", "closingError", "(I)I"⟩ ⟨"LevelingNetwork", "closingError", "(I)I"⟩ ∈ jk_WS := jk_wt4 (i := 195) (by decide +kernel) rfl
theorem jw_916 : Cond.code ⟨"LevelingNetwork", "closingError", "(I)I"⟩ prog_1_method_19_code 2 (Option.some ClassFile.FieldType.int) ∈ jk_WS := jk_wt4 (i := 196) (by decide +kernel) rfl
theorem jw_918 : Cond.methodLink "LevelingNetwork" 176 ⟨"LevelingNetwork$Heights", "carriedFromDatum", "(I)I"⟩ ∈ jk_WS := jk_wt4 (i := 198) (by decide +kernel) rfl
theorem jw_919 : Cond.methodLink "LevelingNetworkLaw" 106 ⟨"LevelingNetwork", "datum", "(I)I"⟩ ∈ jk_WS := jk_wt4 (i := 199) (by decide +kernel) rfl
theorem jw_920 : Cond.instanceMethod ⟨"LevelingNetwork", "datum", "(I)I"⟩ ∈ jk_WS := jk_wt4 (i := 200) (by decide +kernel) rfl
theorem jw_921 : Cond.selects "LevelingNetwork" ⟨"LevelingNetwork", "datum", "(I)I"⟩ ⟨"LevelingNetwork", "datum", "(I)I"⟩ ∈ jk_WS := jk_wt4 (i := 201) (by decide +kernel) rfl
theorem jw_922 : Cond.code ⟨"LevelingNetwork", "datum", "(I)I"⟩ prog_1_method_20_code 3 (Option.some ClassFile.FieldType.int) ∈ jk_WS := jk_wt4 (i := 202) (by decide +kernel) rfl
theorem jw_923 : Cond.methodLink "LevelingNetwork" 183 ⟨"LevelingNetwork$Heights", "datumOf", "(I)I"⟩ ∈ jk_WS := jk_wt4 (i := 203) (by decide +kernel) rfl
theorem jw_925 : Cond.methodLink "LevelingNetworkLaw" 302 ⟨"LevelingNetwork", "benchmarkByHeight", "(I)I"⟩ ∈ jk_WS := jk_wt4 (i := 205) (by decide +kernel) rfl
theorem jw_926 : Cond.instanceMethod ⟨"LevelingNetwork", "benchmarkByHeight", "(I)I"⟩ ∈ jk_WS := jk_wt4 (i := 206) (by decide +kernel) rfl
theorem jw_927 : Cond.selects "LevelingNetwork" ⟨"LevelingNetwork", "benchmarkByHeight", "(I)I"⟩ ⟨"LevelingNetwork", "benchmarkByHeight", "(I)I"⟩ ∈ jk_WS := jk_wt4 (i := 207) (by decide +kernel) rfl
theorem jw_928 : Cond.code ⟨"LevelingNetwork", "benchmarkByHeight", "(I)I"⟩ prog_1_method_21_code 3 (Option.some ClassFile.FieldType.int) ∈ jk_WS := jk_wt4 (i := 208) (by decide +kernel) rfl
theorem jw_929 : Cond.methodLink "LevelingNetwork" 188 ⟨"LevelingNetwork$Heights", "atRank", "(I)I"⟩ ∈ jk_WS := jk_wt4 (i := 209) (by decide +kernel) rfl
theorem jw_930 : Cond.instanceMethod ⟨"LevelingNetwork$Heights", "atRank", "(I)I"⟩ ∈ jk_WS := jk_wt4 (i := 210) (by decide +kernel) rfl
theorem jw_931 : Cond.selects "LevelingNetwork$Heights" ⟨"LevelingNetwork$Heights", "atRank", "(I)I"⟩ ⟨"LevelingNetwork$Heights", "atRank", "(I)I"⟩ ∈ jk_WS := jk_wt4 (i := 211) (by decide +kernel) rfl
theorem jw_932 : Cond.code ⟨"LevelingNetwork$Heights", "atRank", "(I)I"⟩ prog_6_method_10_code 3 (Option.some ClassFile.FieldType.int) ∈ jk_WS := jk_wt4 (i := 212) (by decide +kernel) rfl
theorem jw_933 : Cond.methodLink "LevelingNetwork$Heights" 90 ⟨"LevelingNetwork$Heights", "exists", "(I)Z"⟩ ∈ jk_WS := jk_wt4 (i := 213) (by decide +kernel) rfl
theorem jw_934 : Cond.methodLink "LevelingNetwork$Heights" 94 ⟨"LevelingNetwork$Heights", "benchmarksAheadOf", "(I)I"⟩ ∈ jk_WS := jk_wt4 (i := 214) (by decide +kernel) rfl
theorem jw_936 : Cond.instanceMethod ⟨"LevelingNetwork$Heights", "benchmarksAheadOf", "(I)I"⟩ ∈ jk_WS := jk_wt4 (i := 216) (by decide +kernel) rfl
theorem jw_937 : Cond.code ⟨"LevelingNetwork$Heights", "benchmarksAheadOf", "(I)I"⟩ prog_6_method_11_code 6 (Option.some ClassFile.FieldType.int) ∈ jk_WS := jk_wt4 (i := 217) (by decide +kernel) rfl
theorem jw_938 : Cond.methodLink "LevelingNetwork$Heights" 97 ⟨"LevelingNetwork$Heights", "byWay", "(I)I"⟩ ∈ jk_WS := jk_wt4 (i := 218) (by decide +kernel) rfl
theorem jw_940 : Cond.methodLink "LevelingNetworkLaw" 170 ⟨"LevelingNetwork", "levelledDifference", "(I)I"⟩ ∈ jk_WS := jk_wt4 (i := 220) (by decide +kernel) rfl
theorem jw_941 : Cond.instanceMethod ⟨"LevelingNetwork", "levelledDifference", "(I)I"⟩ ∈ jk_WS := jk_wt4 (i := 221) (by decide +kernel) rfl
theorem jw_942 : Cond.selects "LevelingNetwork" ⟨"LevelingNetwork", "levelledDifference", "(I)I"⟩ ⟨"LevelingNetwork", "levelledDifference", "(I)I"⟩ ∈ jk_WS := jk_wt4 (i := 222) (by decide +kernel) rfl
theorem jw_943 : Cond.code ⟨"LevelingNetwork", "levelledDifference", "(I)I"⟩ prog_1_method_26_code 2 (Option.some ClassFile.FieldType.int) ∈ jk_WS := jk_wt4 (i := 223) (by decide +kernel) rfl
theorem jw_944 : Cond.methodLink "LevelingNetwork" 196 ⟨"LevelingNetwork", "requireLine", "(I)V"⟩ ∈ jk_WS := jk_wt4 (i := 224) (by decide +kernel) rfl
theorem jw_946 : Cond.instanceMethod ⟨"LevelingNetwork", "requireLine", "(I)V"⟩ ∈ jk_WS := jk_wt4 (i := 226) (by decide +kernel) rfl
theorem jw_947 : Cond.code ⟨"LevelingNetwork", "requireLine", "(I)V"⟩ prog_1_method_68_code 2 (Option.none : Option ClassFile.FieldType) ∈ jk_WS := jk_wt4 (i := 227) (by decide +kernel) rfl
theorem jw_948 : Cond.methodLink "LevelingNetwork" 467 ⟨"LevelingNetwork$Survey", "hasLine", "(I)Z"⟩ ∈ jk_WS := jk_wt4 (i := 228) (by decide +kernel) rfl
theorem jw_950 : Cond.methodLink "LevelingNetwork" 208 ⟨"LevelingNetwork$Survey", "levelled", "(I)I"⟩ ∈ jk_WS := jk_wt4 (i := 230) (by decide +kernel) rfl
theorem jw_951 : Cond.methodLink "LevelingNetworkLaw" 173 ⟨"LevelingNetwork", "correction", "(I)I"⟩ ∈ jk_WS := jk_wt4 (i := 231) (by decide +kernel) rfl
theorem jw_952 : Cond.instanceMethod ⟨"LevelingNetwork", "correction", "(I)I"⟩ ∈ jk_WS := jk_wt4 (i := 232) (by decide +kernel) rfl
theorem jw_953 : Cond.selects "LevelingNetwork" ⟨"LevelingNetwork", "correction", "(I)I"⟩ ⟨"LevelingNetwork", "correction", "(I)I"⟩ ∈ jk_WS := jk_wt4 (i := 233) (by decide +kernel) rfl
theorem jw_954 : Cond.code ⟨"LevelingNetwork", "correction", "(I)I"⟩ prog_1_method_27_code 2 (Option.some ClassFile.FieldType.int) ∈ jk_WS := jk_wt4 (i := 234) (by decide +kernel) rfl
theorem jw_955 : Cond.methodLink "LevelingNetworkLaw" 133 ⟨"LevelingNetwork", "discrepancy", "(I)I"⟩ ∈ jk_WS := jk_wt4 (i := 235) (by decide +kernel) rfl
theorem jw_956 : Cond.instanceMethod ⟨"LevelingNetwork", "discrepancy", "(I)I"⟩ ∈ jk_WS := jk_wt4 (i := 236) (by decide +kernel) rfl
theorem jw_957 : Cond.selects "LevelingNetwork" ⟨"LevelingNetwork", "discrepancy", "(I)I"⟩ ⟨"LevelingNetwork", "discrepancy", "(I)I"⟩ ∈ jk_WS := jk_wt4 (i := 237) (by decide +kernel) rfl
theorem jw_958 : Cond.code ⟨"LevelingNetwork", "discrepancy", "(I)I"⟩ prog_1_method_28_code 2 (Option.some ClassFile.FieldType.int) ∈ jk_WS := jk_wt4 (i := 238) (by decide +kernel) rfl
theorem jw_960 : Cond.methodLink "LevelingNetwork" 219 ⟨"LevelingNetwork$Survey", "sumOfRuns", "(I)I"⟩ ∈ jk_WS := jk_wt5 (i := 0) (by decide +kernel) rfl
theorem jw_961 : Cond.methodLink "LevelingNetworkLaw" 182 ⟨"LevelingNetwork", "isUsable", "(I)Z"⟩ ∈ jk_WS := jk_wt5 (i := 1) (by decide +kernel) rfl
theorem jw_962 : Cond.instanceMethod ⟨"LevelingNetwork", "isUsable", "(I)Z"⟩ ∈ jk_WS := jk_wt5 (i := 2) (by decide +kernel) rfl
theorem jw_963 : Cond.selects "LevelingNetwork" ⟨"LevelingNetwork", "isUsable", "(I)Z"⟩ ⟨"LevelingNetwork", "isUsable", "(I)Z"⟩ ∈ jk_WS := jk_wt5 (i := 3) (by decide +kernel) rfl
theorem jw_964 : Cond.code ⟨"LevelingNetwork", "isUsable", "(I)Z"⟩ prog_1_method_30_code 2 (Option.some ClassFile.FieldType.boolean) ∈ jk_WS := jk_wt5 (i := 4) (by decide +kernel) rfl
theorem jw_965 : Cond.methodLink "LevelingNetwork" 225 ⟨"LevelingNetwork$Survey", "usable", "(I)Z"⟩ ∈ jk_WS := jk_wt5 (i := 5) (by decide +kernel) rfl
theorem jw_966 : Cond.methodLink "LevelingNetworkLaw" 274 ⟨"LevelingNetwork", "tolerance", "(I)I"⟩ ∈ jk_WS := jk_wt5 (i := 6) (by decide +kernel) rfl
theorem jw_967 : Cond.instanceMethod ⟨"LevelingNetwork", "tolerance", "(I)I"⟩ ∈ jk_WS := jk_wt5 (i := 7) (by decide +kernel) rfl
theorem jw_968 : Cond.selects "LevelingNetwork" ⟨"LevelingNetwork", "tolerance", "(I)I"⟩ ⟨"LevelingNetwork", "tolerance", "(I)I"⟩ ∈ jk_WS := jk_wt5 (i := 8) (by decide +kernel) rfl
theorem jw_969 : Cond.code ⟨"LevelingNetwork", "tolerance", "(I)I"⟩ prog_1_method_31_code 2 (Option.some ClassFile.FieldType.int) ∈ jk_WS := jk_wt5 (i := 9) (by decide +kernel) rfl
theorem jw_970 : Cond.methodLink "LevelingNetwork" 228 ⟨"LevelingNetwork", "within", "(III)Z"⟩ ∈ jk_WS := jk_wt5 (i := 10) (by decide +kernel) rfl
theorem jw_972 : Cond.methodLink "LevelingNetwork" 237 ⟨"LevelingNetwork", "toleranceFor", "(I)I"⟩ ∈ jk_WS := jk_wt5 (i := 12) (by decide +kernel) rfl
theorem jw_973 : Cond.methodLink "LevelingNetworkLaw" 321 ⟨"LevelingNetwork", "lineByDiscrepancy", "(I)I"⟩ ∈ jk_WS := jk_wt5 (i := 13) (by decide +kernel) rfl
theorem jw_974 : Cond.instanceMethod ⟨"LevelingNetwork", "lineByDiscrepancy", "(I)I"⟩ ∈ jk_WS := jk_wt5 (i := 14) (by decide +kernel) rfl
theorem jw_975 : Cond.selects "LevelingNetwork" ⟨"LevelingNetwork", "lineByDiscrepancy", "(I)I"⟩ ⟨"LevelingNetwork", "lineByDiscrepancy", "(I)I"⟩ ∈ jk_WS := jk_wt5 (i := 15) (by decide +kernel) rfl
theorem jw_976 : Cond.code ⟨"LevelingNetwork", "lineByDiscrepancy", "(I)I"⟩ prog_1_method_32_code 3 (Option.some ClassFile.FieldType.int) ∈ jk_WS := jk_wt5 (i := 16) (by decide +kernel) rfl
theorem jw_977 : Cond.methodLink "LevelingNetwork" 240 ⟨"LevelingNetwork$Survey", "lineAtRank", "(I)I"⟩ ∈ jk_WS := jk_wt5 (i := 17) (by decide +kernel) rfl
theorem jw_978 : Cond.instanceMethod ⟨"LevelingNetwork$Survey", "lineAtRank", "(I)I"⟩ ∈ jk_WS := jk_wt5 (i := 18) (by decide +kernel) rfl
theorem jw_979 : Cond.selects "LevelingNetwork$Survey" ⟨"LevelingNetwork$Survey", "lineAtRank", "(I)I"⟩ ⟨"LevelingNetwork$Survey", "lineAtRank", "(I)I"⟩ ∈ jk_WS := jk_wt5 (i := 19) (by decide +kernel) rfl
theorem jw_980 : Cond.code ⟨"LevelingNetwork$Survey", "lineAtRank", "(I)I"⟩ prog_11_method_16_code 3 (Option.some ClassFile.FieldType.int) ∈ jk_WS := jk_wt5 (i := 20) (by decide +kernel) rfl
theorem jw_981 : Cond.methodLink "LevelingNetwork$Survey" 99 ⟨"LevelingNetwork$Survey", "linesAheadOf", "(I)I"⟩ ∈ jk_WS := jk_wt5 (i := 21) (by decide +kernel) rfl
theorem jw_983 : Cond.instanceMethod ⟨"LevelingNetwork$Survey", "linesAheadOf", "(I)I"⟩ ∈ jk_WS := jk_wt5 (i := 23) (by decide +kernel) rfl
theorem jw_984 : Cond.code ⟨"LevelingNetwork$Survey", "linesAheadOf", "(I)I"⟩ prog_11_method_17_code 6 (Option.some ClassFile.FieldType.int) ∈ jk_WS := jk_wt5 (i := 24) (by decide +kernel) rfl
theorem jw_985 : Cond.methodLink "LevelingNetworkLaw" 271 ⟨"LevelingNetwork", "forestLength", "()I"⟩ ∈ jk_WS := jk_wt5 (i := 25) (by decide +kernel) rfl
theorem jw_986 : Cond.instanceMethod ⟨"LevelingNetwork", "forestLength", "()I"⟩ ∈ jk_WS := jk_wt5 (i := 26) (by decide +kernel) rfl
theorem jw_987 : Cond.selects "LevelingNetwork" ⟨"LevelingNetwork", "forestLength", "()I"⟩ ⟨"LevelingNetwork", "forestLength", "()I"⟩ ∈ jk_WS := jk_wt5 (i := 27) (by decide +kernel) rfl
theorem jw_988 : Cond.code ⟨"LevelingNetwork", "forestLength", "()I"⟩ prog_1_method_34_code 1 (Option.some ClassFile.FieldType.int) ∈ jk_WS := jk_wt5 (i := 28) (by decide +kernel) rfl
theorem jw_989 : Cond.methodLink "LevelingNetwork" 246 ⟨"LevelingNetwork$Forest", "takenLength", "()I"⟩ ∈ jk_WS := jk_wt5 (i := 29) (by decide +kernel) rfl
theorem jw_990 : Cond.instanceMethod ⟨"LevelingNetwork$Forest", "takenLength", "()I"⟩ ∈ jk_WS := jk_wt5 (i := 30) (by decide +kernel) rfl
theorem jw_991 : Cond.selects "LevelingNetwork$Forest" ⟨"LevelingNetwork$Forest", "takenLength", "()I"⟩ ⟨"LevelingNetwork$Forest", "takenLength", "()I"⟩ ∈ jk_WS := jk_wt5 (i := 31) (by decide +kernel) rfl
theorem jw_992 : Cond.code ⟨"LevelingNetwork$Forest", "takenLength", "()I"⟩ prog_5_method_5_code 3 (Option.some ClassFile.FieldType.int) ∈ jk_WS := jk_wt5 (i := 32) (by decide +kernel) rfl
theorem jw_993 : Cond.methodLink "LevelingNetworkLaw" 299 ⟨"LevelingNetwork", "forestLengthByGrowing", "()I"⟩ ∈ jk_WS := jk_wt5 (i := 33) (by decide +kernel) rfl
theorem jw_994 : Cond.instanceMethod ⟨"LevelingNetwork", "forestLengthByGrowing", "()I"⟩ ∈ jk_WS := jk_wt5 (i := 34) (by decide +kernel) rfl
theorem jw_995 : Cond.selects "LevelingNetwork" ⟨"LevelingNetwork", "forestLengthByGrowing", "()I"⟩ ⟨"LevelingNetwork", "forestLengthByGrowing", "()I"⟩ ∈ jk_WS := jk_wt5 (i := 35) (by decide +kernel) rfl
theorem jw_996 : Cond.code ⟨"LevelingNetwork", "forestLengthByGrowing", "()I"⟩ prog_1_method_35_code 1 (Option.some ClassFile.FieldType.int) ∈ jk_WS := jk_wt5 (i := 36) (by decide +kernel) rfl
theorem jw_997 : Cond.methodLink "LevelingNetwork" 250 ⟨"LevelingNetwork$Forest", "grownLength", "()I"⟩ ∈ jk_WS := jk_wt5 (i := 37) (by decide +kernel) rfl
theorem jw_998 : Cond.instanceMethod ⟨"LevelingNetwork$Forest", "grownLength", "()I"⟩ ∈ jk_WS := jk_wt5 (i := 38) (by decide +kernel) rfl
theorem jw_999 : Cond.selects "LevelingNetwork$Forest" ⟨"LevelingNetwork$Forest", "grownLength", "()I"⟩ ⟨"LevelingNetwork$Forest", "grownLength", "()I"⟩ ∈ jk_WS := jk_wt5 (i := 39) (by decide +kernel) rfl
theorem jw_1000 : Cond.code ⟨"LevelingNetwork$Forest", "grownLength", "()I"⟩ prog_5_method_6_code 3 (Option.some ClassFile.FieldType.int) ∈ jk_WS := jk_wt5 (i := 40) (by decide +kernel) rfl
theorem jw_1001 : Cond.methodLink "LevelingNetwork$Forest" 70 ⟨"LevelingNetwork$Forest", "growReached", "()I"⟩ ∈ jk_WS := jk_wt5 (i := 41) (by decide +kernel) rfl
theorem jw_1003 : Cond.instanceMethod ⟨"LevelingNetwork$Forest", "growReached", "()I"⟩ ∈ jk_WS := jk_wt5 (i := 43) (by decide +kernel) rfl
theorem jw_1004 : Cond.code ⟨"LevelingNetwork$Forest", "growReached", "()I"⟩ prog_5_method_7_code 4 (Option.some ClassFile.FieldType.int) ∈ jk_WS := jk_wt5 (i := 44) (by decide +kernel) rfl
theorem jw_1005 : Cond.methodLink "LevelingNetwork$Forest" 74 ⟨"LevelingNetwork$Forest", "firstLineOutOfReached", "()I"⟩ ∈ jk_WS := jk_wt5 (i := 45) (by decide +kernel) rfl
theorem jw_1007 : Cond.instanceMethod ⟨"LevelingNetwork$Forest", "firstLineOutOfReached", "()I"⟩ ∈ jk_WS := jk_wt5 (i := 47) (by decide +kernel) rfl
theorem jw_1008 : Cond.code ⟨"LevelingNetwork$Forest", "firstLineOutOfReached", "()I"⟩ prog_5_method_8_code 3 (Option.some ClassFile.FieldType.int) ∈ jk_WS := jk_wt5 (i := 48) (by decide +kernel) rfl
theorem jw_1009 : Cond.methodLink "LevelingNetworkLaw" 268 ⟨"LevelingNetwork", "treeCount", "()I"⟩ ∈ jk_WS := jk_wt5 (i := 49) (by decide +kernel) rfl
theorem jw_1010 : Cond.instanceMethod ⟨"LevelingNetwork", "treeCount", "()I"⟩ ∈ jk_WS := jk_wt5 (i := 50) (by decide +kernel) rfl
theorem jw_1011 : Cond.selects "LevelingNetwork" ⟨"LevelingNetwork", "treeCount", "()I"⟩ ⟨"LevelingNetwork", "treeCount", "()I"⟩ ∈ jk_WS := jk_wt5 (i := 51) (by decide +kernel) rfl
theorem jw_1012 : Cond.code ⟨"LevelingNetwork", "treeCount", "()I"⟩ prog_1_method_36_code 1 (Option.some ClassFile.FieldType.int) ∈ jk_WS := jk_wt5 (i := 52) (by decide +kernel) rfl
theorem jw_1013 : Cond.methodLink "LevelingNetwork" 253 ⟨"LevelingNetwork$Forest", "trees", "()I"⟩ ∈ jk_WS := jk_wt5 (i := 53) (by decide +kernel) rfl
theorem jw_1014 : Cond.instanceMethod ⟨"LevelingNetwork$Forest", "trees", "()I"⟩ ∈ jk_WS := jk_wt5 (i := 54) (by decide +kernel) rfl
theorem jw_1015 : Cond.selects "LevelingNetwork$Forest" ⟨"LevelingNetwork$Forest", "trees", "()I"⟩ ⟨"LevelingNetwork$Forest", "trees", "()I"⟩ ∈ jk_WS := jk_wt5 (i := 55) (by decide +kernel) rfl
theorem jw_1016 : Cond.code ⟨"LevelingNetwork$Forest", "trees", "()I"⟩ prog_5_method_9_code 3 (Option.some ClassFile.FieldType.int) ∈ jk_WS := jk_wt5 (i := 56) (by decide +kernel) rfl
theorem jw_1017 : Cond.methodLink "LevelingNetworkLaw" 46 ⟨"LevelingNetwork", "loopCount", "()I"⟩ ∈ jk_WS := jk_wt5 (i := 57) (by decide +kernel) rfl
theorem jw_1018 : Cond.instanceMethod ⟨"LevelingNetwork", "loopCount", "()I"⟩ ∈ jk_WS := jk_wt5 (i := 58) (by decide +kernel) rfl
theorem jw_1019 : Cond.selects "LevelingNetwork" ⟨"LevelingNetwork", "loopCount", "()I"⟩ ⟨"LevelingNetwork", "loopCount", "()I"⟩ ∈ jk_WS := jk_wt5 (i := 59) (by decide +kernel) rfl
theorem jw_1020 : Cond.code ⟨"LevelingNetwork", "loopCount", "()I"⟩ prog_1_method_37_code 1 (Option.some ClassFile.FieldType.int) ∈ jk_WS := jk_wt5 (i := 60) (by decide +kernel) rfl
theorem jw_1021 : Cond.methodLink "LevelingNetwork" 256 ⟨"LevelingNetwork$Forest", "loops", "()I"⟩ ∈ jk_WS := jk_wt5 (i := 61) (by decide +kernel) rfl
theorem jw_1022 : Cond.instanceMethod ⟨"LevelingNetwork$Forest", "loops", "()I"⟩ ∈ jk_WS := jk_wt5 (i := 62) (by decide +kernel) rfl
theorem jw_1023 : Cond.selects "LevelingNetwork$Forest" ⟨"LevelingNetwork$Forest", "loops", "()I"⟩ ⟨"LevelingNetwork$Forest", "loops", "()I"⟩ ∈ jk_WS := jk_wt5 (i := 63) (by decide +kernel) rfl
theorem jw_1024 : Cond.code ⟨"LevelingNetwork$Forest", "loops", "()I"⟩ prog_5_method_11_code 3 (Option.some ClassFile.FieldType.int) ∈ jk_WS := jk_wt5 (i := 64) (by decide +kernel) rfl
theorem jw_1025 : Cond.methodLink "LevelingNetwork$Forest" 77 ⟨"LevelingNetwork$Forest", "closesLoop", "(I)Z"⟩ ∈ jk_WS := jk_wt5 (i := 65) (by decide +kernel) rfl
theorem jw_1026 : Cond.methodLink "LevelingNetworkLaw" 49 ⟨"LevelingNetwork", "loopAt", "(I)I"⟩ ∈ jk_WS := jk_wt5 (i := 66) (by decide +kernel) rfl
theorem jw_1027 : Cond.instanceMethod ⟨"LevelingNetwork", "loopAt", "(I)I"⟩ ∈ jk_WS := jk_wt5 (i := 67) (by decide +kernel) rfl
theorem jw_1028 : Cond.selects "LevelingNetwork" ⟨"LevelingNetwork", "loopAt", "(I)I"⟩ ⟨"LevelingNetwork", "loopAt", "(I)I"⟩ ∈ jk_WS := jk_wt5 (i := 68) (by decide +kernel) rfl
theorem jw_1029 : Cond.code ⟨"LevelingNetwork", "loopAt", "(I)I"⟩ prog_1_method_38_code 3 (Option.some ClassFile.FieldType.int) ∈ jk_WS := jk_wt5 (i := 69) (by decide +kernel) rfl
theorem jw_1030 : Cond.methodLink "LevelingNetwork" 259 ⟨"LevelingNetwork$Forest", "closingLineAt", "(I)I"⟩ ∈ jk_WS := jk_wt5 (i := 70) (by decide +kernel) rfl
theorem jw_1031 : Cond.instanceMethod ⟨"LevelingNetwork$Forest", "closingLineAt", "(I)I"⟩ ∈ jk_WS := jk_wt5 (i := 71) (by decide +kernel) rfl
theorem jw_1032 : Cond.selects "LevelingNetwork$Forest" ⟨"LevelingNetwork$Forest", "closingLineAt", "(I)I"⟩ ⟨"LevelingNetwork$Forest", "closingLineAt", "(I)I"⟩ ∈ jk_WS := jk_wt5 (i := 72) (by decide +kernel) rfl
theorem jw_1033 : Cond.code ⟨"LevelingNetwork$Forest", "closingLineAt", "(I)I"⟩ prog_5_method_12_code 4 (Option.some ClassFile.FieldType.int) ∈ jk_WS := jk_wt5 (i := 73) (by decide +kernel) rfl
theorem jw_1035 : Cond.methodLink "LevelingNetworkLaw" 130 ⟨"LevelingNetwork", "loopSize", "(I)I"⟩ ∈ jk_WS := jk_wt5 (i := 75) (by decide +kernel) rfl
theorem jw_1036 : Cond.instanceMethod ⟨"LevelingNetwork", "loopSize", "(I)I"⟩ ∈ jk_WS := jk_wt5 (i := 76) (by decide +kernel) rfl
theorem jw_1037 : Cond.selects "LevelingNetwork" ⟨"LevelingNetwork", "loopSize", "(I)I"⟩ ⟨"LevelingNetwork", "loopSize", "(I)I"⟩ ∈ jk_WS := jk_wt5 (i := 77) (by decide +kernel) rfl
theorem jw_1038 : Cond.code ⟨"LevelingNetwork", "loopSize", "(I)I"⟩ prog_1_method_39_code 2 (Option.some ClassFile.FieldType.int) ∈ jk_WS := jk_wt5 (i := 78) (by decide +kernel) rfl
theorem jw_1039 : Cond.methodLink "LevelingNetwork" 264 ⟨"LevelingNetwork", "traceLoop", "(I)V"⟩ ∈ jk_WS := jk_wt5 (i := 79) (by decide +kernel) rfl
theorem jw_1041 : Cond.instanceMethod ⟨"LevelingNetwork", "traceLoop", "(I)V"⟩ ∈ jk_WS := jk_wt5 (i := 81) (by decide +kernel) rfl
theorem jw_1042 : Cond.code ⟨"LevelingNetwork", "traceLoop", "(I)V"⟩ prog_1_method_71_code 2 (Option.none : Option ClassFile.FieldType) ∈ jk_WS := jk_wt5 (i := 82) (by decide +kernel) rfl
theorem jw_1043 : Cond.methodLink "LevelingNetwork" 479 ⟨"LevelingNetwork$Forest", "closesLoop", "(I)Z"⟩ ∈ jk_WS := jk_wt5 (i := 83) (by decide +kernel) rfl
theorem jw_1044 : Cond.methodLink "LevelingNetwork" 482 ⟨"LevelingNetwork$Way", "traceLoop", "(I)V"⟩ ∈ jk_WS := jk_wt5 (i := 84) (by decide +kernel) rfl
theorem jw_1045 : Cond.methodLink "LevelingNetworkLaw" 127 ⟨"LevelingNetwork", "loopLength", "(I)I"⟩ ∈ jk_WS := jk_wt5 (i := 85) (by decide +kernel) rfl
theorem jw_1046 : Cond.instanceMethod ⟨"LevelingNetwork", "loopLength", "(I)I"⟩ ∈ jk_WS := jk_wt5 (i := 86) (by decide +kernel) rfl
theorem jw_1047 : Cond.selects "LevelingNetwork" ⟨"LevelingNetwork", "loopLength", "(I)I"⟩ ⟨"LevelingNetwork", "loopLength", "(I)I"⟩ ∈ jk_WS := jk_wt5 (i := 87) (by decide +kernel) rfl
theorem jw_1048 : Cond.code ⟨"LevelingNetwork", "loopLength", "(I)I"⟩ prog_1_method_40_code 2 (Option.some ClassFile.FieldType.int) ∈ jk_WS := jk_wt5 (i := 88) (by decide +kernel) rfl
theorem jw_1049 : Cond.methodLink "LevelingNetwork" 270 ⟨"LevelingNetwork$Way", "totalLength", "()I"⟩ ∈ jk_WS := jk_wt5 (i := 89) (by decide +kernel) rfl
theorem jw_1050 : Cond.methodLink "LevelingNetworkLaw" 121 ⟨"LevelingNetwork", "misclosure", "(I)I"⟩ ∈ jk_WS := jk_wt5 (i := 90) (by decide +kernel) rfl
theorem jw_1051 : Cond.instanceMethod ⟨"LevelingNetwork", "misclosure", "(I)I"⟩ ∈ jk_WS := jk_wt5 (i := 91) (by decide +kernel) rfl
theorem jw_1052 : Cond.selects "LevelingNetwork" ⟨"LevelingNetwork", "misclosure", "(I)I"⟩ ⟨"LevelingNetwork", "misclosure", "(I)I"⟩ ∈ jk_WS := jk_wt5 (i := 92) (by decide +kernel) rfl
theorem jw_1053 : Cond.code ⟨"LevelingNetwork", "misclosure", "(I)I"⟩ prog_1_method_41_code 2 (Option.some ClassFile.FieldType.int) ∈ jk_WS := jk_wt5 (i := 93) (by decide +kernel) rfl
theorem jw_1054 : Cond.methodLink "LevelingNetwork" 273 ⟨"LevelingNetwork$Way", "rise", "()I"⟩ ∈ jk_WS := jk_wt5 (i := 94) (by decide +kernel) rfl
theorem jw_1055 : Cond.methodLink "LevelingNetworkLaw" 124 ⟨"LevelingNetwork", "misclosureByLevels", "(I)I"⟩ ∈ jk_WS := jk_wt5 (i := 95) (by decide +kernel) rfl
theorem jw_1056 : Cond.instanceMethod ⟨"LevelingNetwork", "misclosureByLevels", "(I)I"⟩ ∈ jk_WS := jk_wt5 (i := 96) (by decide +kernel) rfl
theorem jw_1057 : Cond.selects "LevelingNetwork" ⟨"LevelingNetwork", "misclosureByLevels", "(I)I"⟩ ⟨"LevelingNetwork", "misclosureByLevels", "(I)I"⟩ ∈ jk_WS := jk_wt5 (i := 97) (by decide +kernel) rfl
theorem jw_1058 : Cond.code ⟨"LevelingNetwork", "misclosureByLevels", "(I)I"⟩ prog_1_method_42_code 2 (Option.some ClassFile.FieldType.int) ∈ jk_WS := jk_wt5 (i := 98) (by decide +kernel) rfl
theorem jw_1059 : Cond.methodLink "LevelingNetwork" 276 ⟨"LevelingNetwork$Heights", "gapByLevels", "(I)I"⟩ ∈ jk_WS := jk_wt5 (i := 99) (by decide +kernel) rfl
theorem jw_1060 : Cond.instanceMethod ⟨"LevelingNetwork$Heights", "gapByLevels", "(I)I"⟩ ∈ jk_WS := jk_wt5 (i := 100) (by decide +kernel) rfl
theorem jw_1061 : Cond.selects "LevelingNetwork$Heights" ⟨"LevelingNetwork$Heights", "gapByLevels", "(I)I"⟩ ⟨"LevelingNetwork$Heights", "gapByLevels", "(I)I"⟩ ∈ jk_WS := jk_wt5 (i := 101) (by decide +kernel) rfl
theorem jw_1062 : Cond.code ⟨"LevelingNetwork$Heights", "gapByLevels", "(I)I"⟩ prog_6_method_7_code 4 (Option.some ClassFile.FieldType.int) ∈ jk_WS := jk_wt5 (i := 102) (by decide +kernel) rfl
theorem jw_1063 : Cond.methodLink "LevelingNetworkLaw" 136 ⟨"LevelingNetwork", "part", "(II)I"⟩ ∈ jk_WS := jk_wt5 (i := 103) (by decide +kernel) rfl
theorem jw_1064 : Cond.instanceMethod ⟨"LevelingNetwork", "part", "(II)I"⟩ ∈ jk_WS := jk_wt5 (i := 104) (by decide +kernel) rfl
theorem jw_1065 : Cond.selects "LevelingNetwork" ⟨"LevelingNetwork", "part", "(II)I"⟩ ⟨"LevelingNetwork", "part", "(II)I"⟩ ∈ jk_WS := jk_wt5 (i := 105) (by decide +kernel) rfl
theorem jw_1066 : Cond.code ⟨"LevelingNetwork", "part", "(II)I"⟩ prog_1_method_43_code 3 (Option.some ClassFile.FieldType.int) ∈ jk_WS := jk_wt5 (i := 106) (by decide +kernel) rfl
theorem jw_1067 : Cond.methodLink "LevelingNetwork" 279 ⟨"LevelingNetwork$Sharing", "divide", "(LLevelingNetwork$Way;)V"⟩ ∈ jk_WS := jk_wt5 (i := 107) (by decide +kernel) rfl
theorem jw_1068 : Cond.methodLink "LevelingNetworkLaw" 154 ⟨"LevelingNetwork", "waterLevel", "()I"⟩ ∈ jk_WS := jk_wt5 (i := 108) (by decide +kernel) rfl
theorem jw_1069 : Cond.instanceMethod ⟨"LevelingNetwork", "waterLevel", "()I"⟩ ∈ jk_WS := jk_wt5 (i := 109) (by decide +kernel) rfl
theorem jw_1070 : Cond.selects "LevelingNetwork" ⟨"LevelingNetwork", "waterLevel", "()I"⟩ ⟨"LevelingNetwork", "waterLevel", "()I"⟩ ∈ jk_WS := jk_wt5 (i := 110) (by decide +kernel) rfl
theorem jw_1071 : Cond.code ⟨"LevelingNetwork", "waterLevel", "()I"⟩ prog_1_method_46_code 1 (Option.some ClassFile.FieldType.int) ∈ jk_WS := jk_wt5 (i := 111) (by decide +kernel) rfl
theorem jw_1072 : Cond.methodLink "LevelingNetworkLaw" 109 ⟨"LevelingNetwork", "ground", "(II)I"⟩ ∈ jk_WS := jk_wt5 (i := 112) (by decide +kernel) rfl
theorem jw_1073 : Cond.instanceMethod ⟨"LevelingNetwork", "ground", "(II)I"⟩ ∈ jk_WS := jk_wt5 (i := 113) (by decide +kernel) rfl
theorem jw_1074 : Cond.selects "LevelingNetwork" ⟨"LevelingNetwork", "ground", "(II)I"⟩ ⟨"LevelingNetwork", "ground", "(II)I"⟩ ∈ jk_WS := jk_wt5 (i := 114) (by decide +kernel) rfl
theorem jw_1075 : Cond.code ⟨"LevelingNetwork", "ground", "(II)I"⟩ prog_1_method_47_code 3 (Option.some ClassFile.FieldType.int) ∈ jk_WS := jk_wt5 (i := 115) (by decide +kernel) rfl
theorem jw_1076 : Cond.methodLink "LevelingNetwork" 289 ⟨"LevelingNetwork", "requireProfile", "(I)V"⟩ ∈ jk_WS := jk_wt5 (i := 116) (by decide +kernel) rfl
theorem jw_1078 : Cond.instanceMethod ⟨"LevelingNetwork", "requireProfile", "(I)V"⟩ ∈ jk_WS := jk_wt5 (i := 118) (by decide +kernel) rfl
theorem jw_1079 : Cond.code ⟨"LevelingNetwork", "requireProfile", "(I)V"⟩ prog_1_method_69_code 2 (Option.none : Option ClassFile.FieldType) ∈ jk_WS := jk_wt5 (i := 119) (by decide +kernel) rfl
theorem jw_1080 : Cond.methodLink "LevelingNetwork" 472 ⟨"LevelingNetwork$Survey", "hasProfile", "(I)Z"⟩ ∈ jk_WS := jk_wt5 (i := 120) (by decide +kernel) rfl
theorem jw_1082 : Cond.methodLink "LevelingNetwork" 298 ⟨"LevelingNetwork$Bank", "hasColumn", "(II)Z"⟩ ∈ jk_WS := jk_wt5 (i := 122) (by decide +kernel) rfl
theorem jw_1083 : Cond.instanceMethod ⟨"LevelingNetwork$Bank", "hasColumn", "(II)Z"⟩ ∈ jk_WS := jk_wt5 (i := 123) (by decide +kernel) rfl
theorem jw_1084 : Cond.selects "LevelingNetwork$Bank" ⟨"LevelingNetwork$Bank", "hasColumn", "(II)Z"⟩ ⟨"LevelingNetwork$Bank", "hasColumn", "(II)Z"⟩ ∈ jk_WS := jk_wt5 (i := 124) (by decide +kernel) rfl
theorem jw_1085 : Cond.code ⟨"LevelingNetwork$Bank", "hasColumn", "(II)Z"⟩ prog_3_method_2_code 3 (Option.some ClassFile.FieldType.boolean) ∈ jk_WS := jk_wt5 (i := 125) (by decide +kernel) rfl
theorem jw_1086 : Cond.methodLink "LevelingNetwork$Bank" 15 ⟨"LevelingNetwork$Bank", "firstColumn", "(I)I"⟩ ∈ jk_WS := jk_wt5 (i := 126) (by decide +kernel) rfl
theorem jw_1088 : Cond.instanceMethod ⟨"LevelingNetwork$Bank", "firstColumn", "(I)I"⟩ ∈ jk_WS := jk_wt5 (i := 128) (by decide +kernel) rfl
theorem jw_1089 : Cond.code ⟨"LevelingNetwork$Bank", "firstColumn", "(I)I"⟩ prog_3_method_3_code 2 (Option.some ClassFile.FieldType.int) ∈ jk_WS := jk_wt5 (i := 129) (by decide +kernel) rfl
theorem jw_1090 : Cond.methodLink "LevelingNetwork$Bank" 19 ⟨"LevelingNetwork$Bank", "lastColumn", "(I)I"⟩ ∈ jk_WS := jk_wt5 (i := 130) (by decide +kernel) rfl
theorem jw_1092 : Cond.instanceMethod ⟨"LevelingNetwork$Bank", "lastColumn", "(I)I"⟩ ∈ jk_WS := jk_wt5 (i := 132) (by decide +kernel) rfl
theorem jw_1093 : Cond.code ⟨"LevelingNetwork$Bank", "lastColumn", "(I)I"⟩ prog_3_method_4_code 3 (Option.some ClassFile.FieldType.int) ∈ jk_WS := jk_wt5 (i := 133) (by decide +kernel) rfl
theorem jw_1094 : Cond.methodLinkNest "LevelingNetwork$Bank" 22 ⟨"LevelingNetwork", "within", "(III)Z"⟩ "LevelingNetwork" ∈ jk_WS := jk_wt5 (i := 134) (by decide +kernel) rfl
theorem jw_1096 : Cond.methodLink "LevelingNetwork" 307 ⟨"LevelingNetwork$Bank", "offsetAt", "(II)I"⟩ ∈ jk_WS := jk_wt5 (i := 136) (by decide +kernel) rfl
theorem jw_1097 : Cond.instanceMethod ⟨"LevelingNetwork$Bank", "offsetAt", "(II)I"⟩ ∈ jk_WS := jk_wt5 (i := 137) (by decide +kernel) rfl
theorem jw_1098 : Cond.selects "LevelingNetwork$Bank" ⟨"LevelingNetwork$Bank", "offsetAt", "(II)I"⟩ ⟨"LevelingNetwork$Bank", "offsetAt", "(II)I"⟩ ∈ jk_WS := jk_wt5 (i := 138) (by decide +kernel) rfl
theorem jw_1099 : Cond.code ⟨"LevelingNetwork$Bank", "offsetAt", "(II)I"⟩ prog_3_method_5_code 8 (Option.some ClassFile.FieldType.int) ∈ jk_WS := jk_wt5 (i := 139) (by decide +kernel) rfl
theorem jw_1100 : Cond.methodLink "LevelingNetwork$Bank" 39 ⟨"java/lang/Math", "floorDiv", "(II)I"⟩ ∈ jk_WS := jk_wt5 (i := 140) (by decide +kernel) rfl
theorem jw_1101 : Cond.static ⟨"java/lang/Math", "floorDiv", "(II)I"⟩ ∈ jk_WS := jk_wt5 (i := 141) (by decide +kernel) rfl
theorem jw_1102 : Cond.code ⟨"java/lang/Math", "floorDiv", "(II)I"⟩ prog_30_method_47_code 3 (Option.some ClassFile.FieldType.int) ∈ jk_WS := jk_wt5 (i := 142) (by decide +kernel) rfl
theorem jw_1103 : Cond.methodLink "LevelingNetworkLaw" 112 ⟨"LevelingNetwork", "wetColumns", "(I)I"⟩ ∈ jk_WS := jk_wt5 (i := 143) (by decide +kernel) rfl
theorem jw_1104 : Cond.instanceMethod ⟨"LevelingNetwork", "wetColumns", "(I)I"⟩ ∈ jk_WS := jk_wt5 (i := 144) (by decide +kernel) rfl
theorem jw_1105 : Cond.selects "LevelingNetwork" ⟨"LevelingNetwork", "wetColumns", "(I)I"⟩ ⟨"LevelingNetwork", "wetColumns", "(I)I"⟩ ∈ jk_WS := jk_wt5 (i := 145) (by decide +kernel) rfl
theorem jw_1106 : Cond.code ⟨"LevelingNetwork", "wetColumns", "(I)I"⟩ prog_1_method_48_code 2 (Option.some ClassFile.FieldType.int) ∈ jk_WS := jk_wt5 (i := 146) (by decide +kernel) rfl
theorem jw_1107 : Cond.methodLink "LevelingNetwork" 311 ⟨"LevelingNetwork", "surfaceAt", "(I)I"⟩ ∈ jk_WS := jk_wt5 (i := 147) (by decide +kernel) rfl
theorem jw_1109 : Cond.instanceMethod ⟨"LevelingNetwork", "surfaceAt", "(I)I"⟩ ∈ jk_WS := jk_wt5 (i := 149) (by decide +kernel) rfl
theorem jw_1110 : Cond.code ⟨"LevelingNetwork", "surfaceAt", "(I)I"⟩ prog_1_method_72_code 2 (Option.some ClassFile.FieldType.int) ∈ jk_WS := jk_wt5 (i := 150) (by decide +kernel) rfl
theorem jw_1111 : Cond.methodLink "LevelingNetwork" 314 ⟨"LevelingNetwork$Bank", "wetByColumns", "(II)I"⟩ ∈ jk_WS := jk_wt5 (i := 151) (by decide +kernel) rfl
theorem jw_1112 : Cond.instanceMethod ⟨"LevelingNetwork$Bank", "wetByColumns", "(II)I"⟩ ∈ jk_WS := jk_wt5 (i := 152) (by decide +kernel) rfl
theorem jw_1113 : Cond.selects "LevelingNetwork$Bank" ⟨"LevelingNetwork$Bank", "wetByColumns", "(II)I"⟩ ⟨"LevelingNetwork$Bank", "wetByColumns", "(II)I"⟩ ∈ jk_WS := jk_wt5 (i := 153) (by decide +kernel) rfl
theorem jw_1114 : Cond.code ⟨"LevelingNetwork$Bank", "wetByColumns", "(II)I"⟩ prog_3_method_6_code 6 (Option.some ClassFile.FieldType.int) ∈ jk_WS := jk_wt5 (i := 154) (by decide +kernel) rfl
theorem jw_1115 : Cond.methodLink "LevelingNetwork$Bank" 45 ⟨"LevelingNetwork$Bank", "offsetAt", "(II)I"⟩ ∈ jk_WS := jk_wt5 (i := 155) (by decide +kernel) rfl
theorem jw_1116 : Cond.methodLink "LevelingNetworkLaw" 115 ⟨"LevelingNetwork", "wetColumnsBySegments", "(I)I"⟩ ∈ jk_WS := jk_wt5 (i := 156) (by decide +kernel) rfl
theorem jw_1117 : Cond.instanceMethod ⟨"LevelingNetwork", "wetColumnsBySegments", "(I)I"⟩ ∈ jk_WS := jk_wt5 (i := 157) (by decide +kernel) rfl
theorem jw_1118 : Cond.selects "LevelingNetwork" ⟨"LevelingNetwork", "wetColumnsBySegments", "(I)I"⟩ ⟨"LevelingNetwork", "wetColumnsBySegments", "(I)I"⟩ ∈ jk_WS := jk_wt5 (i := 158) (by decide +kernel) rfl
theorem jw_1119 : Cond.code ⟨"LevelingNetwork", "wetColumnsBySegments", "(I)I"⟩ prog_1_method_49_code 2 (Option.some ClassFile.FieldType.int) ∈ jk_WS := jk_wt5 (i := 159) (by decide +kernel) rfl
theorem jw_1120 : Cond.methodLink "LevelingNetwork" 317 ⟨"LevelingNetwork$Bank", "wetBySegments", "(II)I"⟩ ∈ jk_WS := jk_wt5 (i := 160) (by decide +kernel) rfl
theorem jw_1121 : Cond.instanceMethod ⟨"LevelingNetwork$Bank", "wetBySegments", "(II)I"⟩ ∈ jk_WS := jk_wt5 (i := 161) (by decide +kernel) rfl
theorem jw_1122 : Cond.selects "LevelingNetwork$Bank" ⟨"LevelingNetwork$Bank", "wetBySegments", "(II)I"⟩ ⟨"LevelingNetwork$Bank", "wetBySegments", "(II)I"⟩ ∈ jk_WS := jk_wt5 (i := 162) (by decide +kernel) rfl
theorem jw_1123 : Cond.code ⟨"LevelingNetwork$Bank", "wetBySegments", "(II)I"⟩ prog_3_method_9_code 9 (Option.some ClassFile.FieldType.int) ∈ jk_WS := jk_wt5 (i := 163) (by decide +kernel) rfl
theorem jw_1124 : Cond.methodLink "LevelingNetwork$Bank" 48 ⟨"LevelingNetwork$Bank", "wetOfSegment", "(III)I"⟩ ∈ jk_WS := jk_wt5 (i := 164) (by decide +kernel) rfl
theorem jw_1125 : Cond.static ⟨"LevelingNetwork$Bank", "wetOfSegment", "(III)I"⟩ ∈ jk_WS := jk_wt5 (i := 165) (by decide +kernel) rfl
theorem jw_1126 : Cond.code ⟨"LevelingNetwork$Bank", "wetOfSegment", "(III)I"⟩ prog_3_method_10_code 3 (Option.some ClassFile.FieldType.int) ∈ jk_WS := jk_wt5 (i := 166) (by decide +kernel) rfl
theorem jw_1127 : Cond.methodLink "LevelingNetwork$Bank" 52 ⟨"LevelingNetwork$Bank", "clamp", "(II)I"⟩ ∈ jk_WS := jk_wt5 (i := 167) (by decide +kernel) rfl
theorem jw_1128 : Cond.static ⟨"LevelingNetwork$Bank", "clamp", "(II)I"⟩ ∈ jk_WS := jk_wt5 (i := 168) (by decide +kernel) rfl
theorem jw_1129 : Cond.code ⟨"LevelingNetwork$Bank", "clamp", "(II)I"⟩ prog_3_method_11_code 2 (Option.some ClassFile.FieldType.int) ∈ jk_WS := jk_wt5 (i := 169) (by decide +kernel) rfl
theorem jw_1130 : Cond.methodLink "LevelingNetwork$Bank" 55 ⟨"java/lang/Math", "min", "(II)I"⟩ ∈ jk_WS := jk_wt5 (i := 170) (by decide +kernel) rfl
theorem jw_1131 : Cond.methodLink "LevelingNetwork$Bank" 58 ⟨"java/lang/Math", "max", "(II)I"⟩ ∈ jk_WS := jk_wt5 (i := 171) (by decide +kernel) rfl
theorem jw_1132 : Cond.methodLink "LevelingNetworkLaw" 118 ⟨"LevelingNetwork", "shores", "(I)I"⟩ ∈ jk_WS := jk_wt5 (i := 172) (by decide +kernel) rfl
theorem jw_1133 : Cond.instanceMethod ⟨"LevelingNetwork", "shores", "(I)I"⟩ ∈ jk_WS := jk_wt5 (i := 173) (by decide +kernel) rfl
theorem jw_1134 : Cond.selects "LevelingNetwork" ⟨"LevelingNetwork", "shores", "(I)I"⟩ ⟨"LevelingNetwork", "shores", "(I)I"⟩ ∈ jk_WS := jk_wt5 (i := 174) (by decide +kernel) rfl
theorem jw_1135 : Cond.code ⟨"LevelingNetwork", "shores", "(I)I"⟩ prog_1_method_50_code 2 (Option.some ClassFile.FieldType.int) ∈ jk_WS := jk_wt5 (i := 175) (by decide +kernel) rfl
theorem jw_1136 : Cond.methodLink "LevelingNetwork" 320 ⟨"LevelingNetwork$Bank", "shoreLines", "(II)I"⟩ ∈ jk_WS := jk_wt5 (i := 176) (by decide +kernel) rfl
theorem jw_1137 : Cond.instanceMethod ⟨"LevelingNetwork$Bank", "shoreLines", "(II)I"⟩ ∈ jk_WS := jk_wt5 (i := 177) (by decide +kernel) rfl
theorem jw_1138 : Cond.selects "LevelingNetwork$Bank" ⟨"LevelingNetwork$Bank", "shoreLines", "(II)I"⟩ ⟨"LevelingNetwork$Bank", "shoreLines", "(II)I"⟩ ∈ jk_WS := jk_wt5 (i := 178) (by decide +kernel) rfl
theorem jw_1139 : Cond.code ⟨"LevelingNetwork$Bank", "shoreLines", "(II)I"⟩ prog_3_method_7_code 8 (Option.some ClassFile.FieldType.int) ∈ jk_WS := jk_wt5 (i := 179) (by decide +kernel) rfl
theorem jw_1140 : Cond.methodLink "LevelingNetworkLaw" 139 ⟨"LevelingNetwork", "lowestColumn", "(I)I"⟩ ∈ jk_WS := jk_wt5 (i := 180) (by decide +kernel) rfl
theorem jw_1141 : Cond.instanceMethod ⟨"LevelingNetwork", "lowestColumn", "(I)I"⟩ ∈ jk_WS := jk_wt5 (i := 181) (by decide +kernel) rfl
theorem jw_1142 : Cond.selects "LevelingNetwork" ⟨"LevelingNetwork", "lowestColumn", "(I)I"⟩ ⟨"LevelingNetwork", "lowestColumn", "(I)I"⟩ ∈ jk_WS := jk_wt5 (i := 182) (by decide +kernel) rfl
theorem jw_1143 : Cond.code ⟨"LevelingNetwork", "lowestColumn", "(I)I"⟩ prog_1_method_51_code 2 (Option.some ClassFile.FieldType.int) ∈ jk_WS := jk_wt5 (i := 183) (by decide +kernel) rfl
theorem jw_1145 : Cond.methodLink "LevelingNetwork" 325 ⟨"LevelingNetwork$Bank", "columnOfLowestOffset", "(I)I"⟩ ∈ jk_WS := jk_wt5 (i := 185) (by decide +kernel) rfl
theorem jw_1146 : Cond.instanceMethod ⟨"LevelingNetwork$Bank", "columnOfLowestOffset", "(I)I"⟩ ∈ jk_WS := jk_wt5 (i := 186) (by decide +kernel) rfl
theorem jw_1147 : Cond.selects "LevelingNetwork$Bank" ⟨"LevelingNetwork$Bank", "columnOfLowestOffset", "(I)I"⟩ ⟨"LevelingNetwork$Bank", "columnOfLowestOffset", "(I)I"⟩ ∈ jk_WS := jk_wt5 (i := 187) (by decide +kernel) rfl
theorem jw_1148 : Cond.code ⟨"LevelingNetwork$Bank", "columnOfLowestOffset", "(I)I"⟩ prog_3_method_8_code 5 (Option.some ClassFile.FieldType.int) ∈ jk_WS := jk_wt5 (i := 188) (by decide +kernel) rfl
theorem jw_1149 : Cond.methodLink "LevelingNetworkLaw" 332 ⟨"LevelingNetwork", "meanLength", "()D"⟩ ∈ jk_WS := jk_wt5 (i := 189) (by decide +kernel) rfl
theorem jw_1150 : Cond.instanceMethod ⟨"LevelingNetwork", "meanLength", "()D"⟩ ∈ jk_WS := jk_wt5 (i := 190) (by decide +kernel) rfl
theorem jw_1151 : Cond.selects "LevelingNetwork" ⟨"LevelingNetwork", "meanLength", "()D"⟩ ⟨"LevelingNetwork", "meanLength", "()D"⟩ ∈ jk_WS := jk_wt5 (i := 191) (by decide +kernel) rfl
theorem jw_1152 : Cond.code ⟨"LevelingNetwork", "meanLength", "()D"⟩ prog_1_method_52_code 2 (Option.some ClassFile.FieldType.double) ∈ jk_WS := jk_wt5 (i := 192) (by decide +kernel) rfl
theorem jw_1153 : Cond.methodLink "LevelingNetwork" 328 ⟨"LevelingNetwork$Survey", "usableLines", "()I"⟩ ∈ jk_WS := jk_wt5 (i := 193) (by decide +kernel) rfl
theorem jw_1154 : Cond.classLink "LevelingNetwork" 331 "java/lang/ArithmeticException" ∈ jk_WS := jk_wt5 (i := 194) (by decide +kernel) rfl
theorem jw_1155 : Cond.instantiable "java/lang/ArithmeticException" 6 ∈ jk_WS := jk_wt5 (i := 195) (by decide +kernel) rfl
theorem jw_1156 : Cond.castable "java/lang/ArithmeticException" "java/lang/ArithmeticException" ∈ jk_WS := jk_wt5 (i := 196) (by decide +kernel) rfl
theorem jw_1157 : Cond.selects "java/lang/ArithmeticException" ⟨"java/lang/Throwable", "fillInStackTrace", "(I)Ljava/lang/Throwable;"⟩ ⟨"java/lang/Throwable", "fillInStackTrace", "(I)Ljava/lang/Throwable;"⟩ ∈ jk_WS := jk_wt5 (i := 197) (by decide +kernel) rfl
theorem jw_1158 : Cond.lays "java/lang/ArithmeticException" "java/lang/Throwable" "cause" "Ljava/lang/Throwable;" ∈ jk_WS := jk_wt5 (i := 198) (by decide +kernel) rfl
theorem jw_1159 : Cond.lays "java/lang/ArithmeticException" "java/lang/Throwable" "stackTrace" "[Ljava/lang/StackTraceElement;" ∈ jk_WS := jk_wt5 (i := 199) (by decide +kernel) rfl
theorem jw_1160 : Cond.lays "java/lang/ArithmeticException" "java/lang/Throwable" "suppressedExceptions" "Ljava/util/List;" ∈ jk_WS := jk_wt5 (i := 200) (by decide +kernel) rfl
theorem jw_1161 : Cond.lays "java/lang/ArithmeticException" "java/lang/Throwable" "detailMessage" "Ljava/lang/String;" ∈ jk_WS := jk_wt5 (i := 201) (by decide +kernel) rfl
theorem jw_1162 : Cond.lays "java/lang/ArithmeticException" "java/lang/Throwable" "backtrace" "Ljava/lang/Object;" ∈ jk_WS := jk_wt5 (i := 202) (by decide +kernel) rfl
theorem jw_1164 : Cond.methodLink "LevelingNetwork" 335 ⟨"java/lang/ArithmeticException", "<init>", "(Ljava/lang/String;)V"⟩ ∈ jk_WS := jk_wt5 (i := 204) (by decide +kernel) rfl
theorem jw_1165 : Cond.instanceMethod ⟨"java/lang/ArithmeticException", "<init>", "(Ljava/lang/String;)V"⟩ ∈ jk_WS := jk_wt5 (i := 205) (by decide +kernel) rfl
theorem jw_1166 : Cond.code ⟨"java/lang/ArithmeticException", "<init>", "(Ljava/lang/String;)V"⟩ prog_19_method_2_code 2 (Option.none : Option ClassFile.FieldType) ∈ jk_WS := jk_wt5 (i := 206) (by decide +kernel) rfl
theorem jw_1167 : Cond.methodLink "java/lang/ArithmeticException" 7 ⟨"java/lang/RuntimeException", "<init>", "(Ljava/lang/String;)V"⟩ ∈ jk_WS := jk_wt5 (i := 207) (by decide +kernel) rfl
theorem jw_1168 : Cond.lays "java/lang/ArithmeticException" "java/lang/Throwable" "depth" "I" ∈ jk_WS := jk_wt5 (i := 208) (by decide +kernel) rfl
theorem jw_1169 : Cond.superclass "java/lang/ArithmeticException" "java/lang/RuntimeException" ∈ jk_WS := jk_wt5 (i := 209) (by decide +kernel) rfl
theorem jw_1170 : Cond.methodLink "LevelingNetwork" 336 ⟨"LevelingNetwork$Survey", "usableLength", "()I"⟩ ∈ jk_WS := jk_wt5 (i := 210) (by decide +kernel) rfl
theorem jw_1171 : Cond.instanceMethod ⟨"LevelingNetwork$Survey", "usableLength", "()I"⟩ ∈ jk_WS := jk_wt5 (i := 211) (by decide +kernel) rfl
theorem jw_1172 : Cond.selects "LevelingNetwork$Survey" ⟨"LevelingNetwork$Survey", "usableLength", "()I"⟩ ⟨"LevelingNetwork$Survey", "usableLength", "()I"⟩ ∈ jk_WS := jk_wt5 (i := 212) (by decide +kernel) rfl
theorem jw_1173 : Cond.code ⟨"LevelingNetwork$Survey", "usableLength", "()I"⟩ prog_11_method_15_code 3 (Option.some ClassFile.FieldType.int) ∈ jk_WS := jk_wt5 (i := 213) (by decide +kernel) rfl
theorem jw_1174 : Cond.methodLink "LevelingNetworkLaw" 327 ⟨"LevelingNetwork", "usableShare", "()F"⟩ ∈ jk_WS := jk_wt5 (i := 214) (by decide +kernel) rfl
theorem jw_1175 : Cond.instanceMethod ⟨"LevelingNetwork", "usableShare", "()F"⟩ ∈ jk_WS := jk_wt5 (i := 215) (by decide +kernel) rfl
theorem jw_1176 : Cond.selects "LevelingNetwork" ⟨"LevelingNetwork", "usableShare", "()F"⟩ ⟨"LevelingNetwork", "usableShare", "()F"⟩ ∈ jk_WS := jk_wt5 (i := 216) (by decide +kernel) rfl
theorem jw_1177 : Cond.code ⟨"LevelingNetwork", "usableShare", "()F"⟩ prog_1_method_53_code 1 (Option.some ClassFile.FieldType.float) ∈ jk_WS := jk_wt5 (i := 217) (by decide +kernel) rfl
theorem jw_1179 : Cond.methodLink "LevelingNetworkLaw" 264 ⟨"LevelingNetwork", "isConsistent", "()Z"⟩ ∈ jk_WS := jk_wt5 (i := 219) (by decide +kernel) rfl
theorem jw_1180 : Cond.instanceMethod ⟨"LevelingNetwork", "isConsistent", "()Z"⟩ ∈ jk_WS := jk_wt5 (i := 220) (by decide +kernel) rfl
theorem jw_1181 : Cond.selects "LevelingNetwork" ⟨"LevelingNetwork", "isConsistent", "()Z"⟩ ⟨"LevelingNetwork", "isConsistent", "()Z"⟩ ∈ jk_WS := jk_wt5 (i := 221) (by decide +kernel) rfl
theorem jw_1182 : Cond.code ⟨"LevelingNetwork", "isConsistent", "()Z"⟩ prog_1_method_54_code 1 (Option.some ClassFile.FieldType.boolean) ∈ jk_WS := jk_wt5 (i := 222) (by decide +kernel) rfl
theorem jw_1183 : Cond.methodLink "LevelingNetwork" 341 ⟨"LevelingNetwork", "heightsAgree", "()Z"⟩ ∈ jk_WS := jk_wt5 (i := 223) (by decide +kernel) rfl
theorem jw_1185 : Cond.instanceMethod ⟨"LevelingNetwork", "heightsAgree", "()Z"⟩ ∈ jk_WS := jk_wt5 (i := 225) (by decide +kernel) rfl
theorem jw_1186 : Cond.code ⟨"LevelingNetwork", "heightsAgree", "()Z"⟩ prog_1_method_74_code 2 (Option.some ClassFile.FieldType.boolean) ∈ jk_WS := jk_wt5 (i := 226) (by decide +kernel) rfl
theorem jw_1187 : Cond.methodLink "LevelingNetwork" 345 ⟨"LevelingNetwork", "misclosuresAgree", "()Z"⟩ ∈ jk_WS := jk_wt5 (i := 227) (by decide +kernel) rfl
theorem jw_1189 : Cond.instanceMethod ⟨"LevelingNetwork", "misclosuresAgree", "()Z"⟩ ∈ jk_WS := jk_wt5 (i := 229) (by decide +kernel) rfl
theorem jw_1190 : Cond.code ⟨"LevelingNetwork", "misclosuresAgree", "()Z"⟩ prog_1_method_75_code 2 (Option.some ClassFile.FieldType.boolean) ∈ jk_WS := jk_wt5 (i := 230) (by decide +kernel) rfl
theorem jw_1191 : Cond.methodLink "LevelingNetwork" 348 ⟨"LevelingNetwork", "wetColumnsAgree", "()Z"⟩ ∈ jk_WS := jk_wt5 (i := 231) (by decide +kernel) rfl
theorem jw_1193 : Cond.instanceMethod ⟨"LevelingNetwork", "wetColumnsAgree", "()Z"⟩ ∈ jk_WS := jk_wt5 (i := 233) (by decide +kernel) rfl
theorem jw_1194 : Cond.code ⟨"LevelingNetwork", "wetColumnsAgree", "()Z"⟩ prog_1_method_76_code 3 (Option.some ClassFile.FieldType.boolean) ∈ jk_WS := jk_wt5 (i := 234) (by decide +kernel) rfl
theorem jw_1195 : Cond.methodLink "LevelingNetworkLaw" 305 ⟨"LevelingNetwork", "renderLine", "(I)I"⟩ ∈ jk_WS := jk_wt5 (i := 235) (by decide +kernel) rfl
theorem jw_1196 : Cond.instanceMethod ⟨"LevelingNetwork", "renderLine", "(I)I"⟩ ∈ jk_WS := jk_wt5 (i := 236) (by decide +kernel) rfl
theorem jw_1197 : Cond.selects "LevelingNetwork" ⟨"LevelingNetwork", "renderLine", "(I)I"⟩ ⟨"LevelingNetwork", "renderLine", "(I)I"⟩ ∈ jk_WS := jk_wt5 (i := 237) (by decide +kernel) rfl
theorem jw_1198 : Cond.code ⟨"LevelingNetwork", "renderLine", "(I)I"⟩ prog_1_method_55_code 2 (Option.some ClassFile.FieldType.int) ∈ jk_WS := jk_wt5 (i := 238) (by decide +kernel) rfl
theorem jw_1199 : Cond.methodLink "LevelingNetwork" 351 ⟨"java/lang/StringBuilder", "setLength", "(I)V"⟩ ∈ jk_WS := jk_wt5 (i := 239) (by decide +kernel) rfl
theorem jw_1200 : Cond.instanceMethod ⟨"java/lang/StringBuilder", "setLength", "(I)V"⟩ ∈ jk_WS := jk_wt6 (i := 0) (by decide +kernel) rfl
theorem jw_1201 : Cond.selects "java/lang/StringBuilder" ⟨"java/lang/StringBuilder", "setLength", "(I)V"⟩ ⟨"java/lang/StringBuilder", "setLength", "(I)V"⟩ ∈ jk_WS := jk_wt6 (i := 1) (by decide +kernel) rfl
theorem jw_1202 : Cond.code ⟨"java/lang/StringBuilder", "setLength", "(I)V"⟩ prog_34_method_89_code 2 (Option.none : Option ClassFile.FieldType) ∈ jk_WS := jk_wt6 (i := 2) (by decide +kernel) rfl
theorem jw_1203 : Cond.methodLink "java/lang/StringBuilder" 333 ⟨"java/lang/AbstractStringBuilder", "setLength", "(I)V"⟩ ∈ jk_WS := jk_wt6 (i := 3) (by decide +kernel) rfl
theorem jw_1204 : Cond.instanceMethod ⟨"java/lang/AbstractStringBuilder", "setLength", "(I)V"⟩ ∈ jk_WS := jk_wt6 (i := 4) (by decide +kernel) rfl
theorem jw_1205 : Cond.code ⟨"java/lang/AbstractStringBuilder", "setLength", "(I)V"⟩ prog_17_method_13_code 2 (Option.none : Option ClassFile.FieldType) ∈ jk_WS := jk_wt6 (i := 5) (by decide +kernel) rfl
theorem jw_1206 : Cond.classLink "java/lang/AbstractStringBuilder" 129 "java/lang/StringIndexOutOfBoundsException" ∈ jk_WS := jk_wt6 (i := 6) (by decide +kernel) rfl
theorem jw_1207 : Cond.instantiable "java/lang/StringIndexOutOfBoundsException" 6 ∈ jk_WS := jk_wt6 (i := 7) (by decide +kernel) rfl
theorem jw_1208 : Cond.methodLink "java/lang/AbstractStringBuilder" 131 ⟨"java/lang/StringIndexOutOfBoundsException", "<init>", "(I)V"⟩ ∈ jk_WS := jk_wt6 (i := 8) (by decide +kernel) rfl
theorem jw_1209 : Cond.instanceMethod ⟨"java/lang/StringIndexOutOfBoundsException", "<init>", "(I)V"⟩ ∈ jk_WS := jk_wt6 (i := 9) (by decide +kernel) rfl
theorem jw_1210 : Cond.code ⟨"java/lang/StringIndexOutOfBoundsException", "<init>", "(I)V"⟩ prog_35_method_3_code 2 (Option.none : Option ClassFile.FieldType) ∈ jk_WS := jk_wt6 (i := 10) (by decide +kernel) rfl
theorem jw_1211 : Cond.classLink "java/lang/StringIndexOutOfBoundsException" 10 "java/lang/StringBuilder" ∈ jk_WS := jk_wt6 (i := 11) (by decide +kernel) rfl
theorem jw_1212 : Cond.methodLink "java/lang/StringIndexOutOfBoundsException" 12 ⟨"java/lang/StringBuilder", "<init>", "()V"⟩ ∈ jk_WS := jk_wt6 (i := 12) (by decide +kernel) rfl
theorem jw_1214 : Cond.methodLink "java/lang/StringIndexOutOfBoundsException" 15 ⟨"java/lang/StringBuilder", "append", "(Ljava/lang/String;)Ljava/lang/StringBuilder;"⟩ ∈ jk_WS := jk_wt6 (i := 14) (by decide +kernel) rfl
theorem jw_1215 : Cond.instanceMethod ⟨"java/lang/StringBuilder", "append", "(Ljava/lang/String;)Ljava/lang/StringBuilder;"⟩ ∈ jk_WS := jk_wt6 (i := 15) (by decide +kernel) rfl
theorem jw_1216 : Cond.selects "java/lang/StringBuilder" ⟨"java/lang/StringBuilder", "append", "(Ljava/lang/String;)Ljava/lang/StringBuilder;"⟩ ⟨"java/lang/StringBuilder", "append", "(Ljava/lang/String;)Ljava/lang/StringBuilder;"⟩ ∈ jk_WS := jk_wt6 (i := 16) (by decide +kernel) rfl
theorem jw_1217 : Cond.code ⟨"java/lang/StringBuilder", "append", "(Ljava/lang/String;)Ljava/lang/StringBuilder;"⟩ prog_34_method_7_code 2 (Option.some (ClassFile.FieldType.object "java/lang/StringBuilder")) ∈ jk_WS := jk_wt6 (i := 17) (by decide +kernel) rfl
theorem jw_1218 : Cond.methodLink "java/lang/StringBuilder" 29 ⟨"java/lang/AbstractStringBuilder", "append", "(Ljava/lang/String;)Ljava/lang/AbstractStringBuilder;"⟩ ∈ jk_WS := jk_wt6 (i := 18) (by decide +kernel) rfl
theorem jw_1219 : Cond.instanceMethod ⟨"java/lang/AbstractStringBuilder", "append", "(Ljava/lang/String;)Ljava/lang/AbstractStringBuilder;"⟩ ∈ jk_WS := jk_wt6 (i := 19) (by decide +kernel) rfl
theorem jw_1220 : Cond.code ⟨"java/lang/AbstractStringBuilder", "append", "(Ljava/lang/String;)Ljava/lang/AbstractStringBuilder;"⟩ prog_17_method_22_code 3 (Option.some (ClassFile.FieldType.object "java/lang/AbstractStringBuilder")) ∈ jk_WS := jk_wt6 (i := 20) (by decide +kernel) rfl
theorem jw_1221 : Cond.methodLink "java/lang/AbstractStringBuilder" 204 ⟨"java/lang/AbstractStringBuilder", "appendNull", "()Ljava/lang/AbstractStringBuilder;"⟩ ∈ jk_WS := jk_wt6 (i := 21) (by decide +kernel) rfl
theorem jw_1223 : Cond.instanceMethod ⟨"java/lang/AbstractStringBuilder", "appendNull", "()Ljava/lang/AbstractStringBuilder;"⟩ ∈ jk_WS := jk_wt6 (i := 23) (by decide +kernel) rfl
theorem jw_1224 : Cond.code ⟨"java/lang/AbstractStringBuilder", "appendNull", "()Ljava/lang/AbstractStringBuilder;"⟩ prog_17_method_26_code 3 (Option.some (ClassFile.FieldType.object "java/lang/AbstractStringBuilder")) ∈ jk_WS := jk_wt6 (i := 24) (by decide +kernel) rfl
theorem jw_1225 : Cond.methodLink "java/lang/AbstractStringBuilder" 100 ⟨"java/lang/AbstractStringBuilder", "ensureCapacityInternal", "(I)V"⟩ ∈ jk_WS := jk_wt6 (i := 25) (by decide +kernel) rfl
theorem jw_1227 : Cond.instanceMethod ⟨"java/lang/AbstractStringBuilder", "ensureCapacityInternal", "(I)V"⟩ ∈ jk_WS := jk_wt6 (i := 27) (by decide +kernel) rfl
theorem jw_1228 : Cond.code ⟨"java/lang/AbstractStringBuilder", "ensureCapacityInternal", "(I)V"⟩ prog_17_method_9_code 3 (Option.none : Option ClassFile.FieldType) ∈ jk_WS := jk_wt6 (i := 28) (by decide +kernel) rfl
theorem jw_1229 : Cond.methodLink "java/lang/AbstractStringBuilder" 104 ⟨"java/lang/AbstractStringBuilder", "newCapacity", "(I)I"⟩ ∈ jk_WS := jk_wt6 (i := 29) (by decide +kernel) rfl
theorem jw_1231 : Cond.instanceMethod ⟨"java/lang/AbstractStringBuilder", "newCapacity", "(I)I"⟩ ∈ jk_WS := jk_wt6 (i := 31) (by decide +kernel) rfl
theorem jw_1232 : Cond.code ⟨"java/lang/AbstractStringBuilder", "newCapacity", "(I)I"⟩ prog_17_method_10_code 6 (Option.some ClassFile.FieldType.int) ∈ jk_WS := jk_wt6 (i := 32) (by decide +kernel) rfl
theorem jw_1233 : Cond.methodLink "java/lang/AbstractStringBuilder" 114 ⟨"jdk/internal/util/ArraysSupport", "newLength", "(III)I"⟩ ∈ jk_WS := jk_wt6 (i := 33) (by decide +kernel) rfl
theorem jw_1234 : Cond.static ⟨"jdk/internal/util/ArraysSupport", "newLength", "(III)I"⟩ ∈ jk_WS := jk_wt6 (i := 34) (by decide +kernel) rfl
theorem jw_1235 : Cond.code ⟨"jdk/internal/util/ArraysSupport", "newLength", "(III)I"⟩ prog_45_method_27_code 4 (Option.some ClassFile.FieldType.int) ∈ jk_WS := jk_wt6 (i := 35) (by decide +kernel) rfl
theorem jw_1236 : Cond.methodLink "jdk/internal/util/ArraysSupport" 194 ⟨"java/lang/Math", "max", "(II)I"⟩ ∈ jk_WS := jk_wt6 (i := 36) (by decide +kernel) rfl
theorem jw_1237 : Cond.constant "jdk/internal/util/ArraysSupport" 200 (2147483639 : Int32) ∈ jk_WS := jk_wt6 (i := 37) (by decide +kernel) rfl
theorem jw_1238 : Cond.methodLink "jdk/internal/util/ArraysSupport" 201 ⟨"jdk/internal/util/ArraysSupport", "hugeLength", "(II)I"⟩ ∈ jk_WS := jk_wt6 (i := 38) (by decide +kernel) rfl
theorem jw_1239 : Cond.static ⟨"jdk/internal/util/ArraysSupport", "hugeLength", "(II)I"⟩ ∈ jk_WS := jk_wt6 (i := 39) (by decide +kernel) rfl
theorem jw_1240 : Cond.code ⟨"jdk/internal/util/ArraysSupport", "hugeLength", "(II)I"⟩ prog_45_method_28_code 3 (Option.some ClassFile.FieldType.int) ∈ jk_WS := jk_wt6 (i := 40) (by decide +kernel) rfl
theorem jw_1241 : Cond.constant "java/lang/AbstractStringBuilder" 39 (2147483647 : Int32) ∈ jk_WS := jk_wt6 (i := 41) (by decide +kernel) rfl
theorem jw_1242 : Cond.methodLink "java/lang/AbstractStringBuilder" 108 ⟨"java/util/Arrays", "copyOf", "([BI)[B"⟩ ∈ jk_WS := jk_wt6 (i := 42) (by decide +kernel) rfl
theorem jw_1243 : Cond.static ⟨"java/util/Arrays", "copyOf", "([BI)[B"⟩ ∈ jk_WS := jk_wt6 (i := 43) (by decide +kernel) rfl
theorem jw_1244 : Cond.code ⟨"java/util/Arrays", "copyOf", "([BI)[B"⟩ prog_43_method_121_code 3 (Option.some (ClassFile.FieldType.array ClassFile.FieldType.byte)) ∈ jk_WS := jk_wt6 (i := 44) (by decide +kernel) rfl
theorem jw_1245 : Cond.methodLink "java/util/Arrays" 310 ⟨"[B", "clone", "()Ljava/lang/Object;"⟩ ∈ jk_WS := jk_wt6 (i := 45) (by decide +kernel) rfl
theorem jw_1246 : Cond.sameMethod "[B" "java/lang/Object" "clone" "()Ljava/lang/Object;" ∈ jk_WS := jk_wt6 (i := 46) (by decide +kernel) rfl
theorem jw_1247 : Cond.native ⟨"java/lang/Object", "clone", "()Ljava/lang/Object;"⟩ ∈ jk_WS := jk_wt6 (i := 47) (by decide +kernel) rfl
theorem jw_1248 : Cond.instanceMethod ⟨"java/lang/Object", "clone", "()Ljava/lang/Object;"⟩ ∈ jk_WS := jk_wt6 (i := 48) (by decide +kernel) rfl
theorem jw_1249 : Cond.selects "[B" ⟨"[B", "clone", "()Ljava/lang/Object;"⟩ ⟨"java/lang/Object", "clone", "()Ljava/lang/Object;"⟩ ∈ jk_WS := jk_wt6 (i := 49) (by decide +kernel) rfl
theorem jw_1250 : Cond.castable "[B" "java/lang/Cloneable" ∈ jk_WS := jk_wt6 (i := 50) (by decide +kernel) rfl
theorem jw_1251 : Cond.classLink "java/util/Arrays" 311 "[B" ∈ jk_WS := jk_wt6 (i := 51) (by decide +kernel) rfl
theorem jw_1252 : Cond.methodLink "java/util/Arrays" 304 ⟨"java/lang/Math", "min", "(II)I"⟩ ∈ jk_WS := jk_wt6 (i := 52) (by decide +kernel) rfl
theorem jw_1253 : Cond.methodLink "java/util/Arrays" 150 ⟨"java/lang/System", "arraycopy", "(Ljava/lang/Object;ILjava/lang/Object;II)V"⟩ ∈ jk_WS := jk_wt6 (i := 53) (by decide +kernel) rfl
theorem jw_1254 : Cond.static ⟨"java/lang/System", "arraycopy", "(Ljava/lang/Object;ILjava/lang/Object;II)V"⟩ ∈ jk_WS := jk_wt6 (i := 54) (by decide +kernel) rfl
theorem jw_1255 : Cond.native ⟨"java/lang/System", "arraycopy", "(Ljava/lang/Object;ILjava/lang/Object;II)V"⟩ ∈ jk_WS := jk_wt6 (i := 55) (by decide +kernel) rfl
theorem jw_1256 : Cond.methodLink "java/lang/AbstractStringBuilder" 83 ⟨"java/lang/AbstractStringBuilder", "isLatin1", "()Z"⟩ ∈ jk_WS := jk_wt6 (i := 56) (by decide +kernel) rfl
theorem jw_1257 : Cond.instanceMethod ⟨"java/lang/AbstractStringBuilder", "isLatin1", "()Z"⟩ ∈ jk_WS := jk_wt6 (i := 57) (by decide +kernel) rfl
theorem jw_1258 : Cond.sameMethod "java/lang/AbstractStringBuilder" "java/lang/AbstractStringBuilder" "isLatin1" "()Z" ∈ jk_WS := jk_wt6 (i := 58) (by decide +kernel) rfl
theorem jw_1259 : Cond.selects "java/lang/StringBuilder" ⟨"java/lang/AbstractStringBuilder", "isLatin1", "()Z"⟩ ⟨"java/lang/AbstractStringBuilder", "isLatin1", "()Z"⟩ ∈ jk_WS := jk_wt6 (i := 59) (by decide +kernel) rfl
theorem jw_1260 : Cond.code ⟨"java/lang/AbstractStringBuilder", "isLatin1", "()Z"⟩ prog_17_method_68_code 1 (Option.some ClassFile.FieldType.boolean) ∈ jk_WS := jk_wt6 (i := 60) (by decide +kernel) rfl
theorem jw_1261 : Cond.methodLink "java/lang/AbstractStringBuilder" 226 ⟨"java/lang/StringUTF16", "putCharsAt", "([BICCCC)I"⟩ ∈ jk_WS := jk_wt6 (i := 61) (by decide +kernel) rfl
theorem jw_1262 : Cond.static ⟨"java/lang/StringUTF16", "putCharsAt", "([BICCCC)I"⟩ ∈ jk_WS := jk_wt6 (i := 62) (by decide +kernel) rfl
theorem jw_1263 : Cond.code ⟨"java/lang/StringUTF16", "putCharsAt", "([BICCCC)I"⟩ prog_37_method_81_code 7 (Option.some ClassFile.FieldType.int) ∈ jk_WS := jk_wt6 (i := 63) (by decide +kernel) rfl
theorem jw_1264 : Cond.methodLink "java/lang/StringUTF16" 96 ⟨"java/lang/StringUTF16", "checkBoundsBeginEnd", "(II[B)V"⟩ ∈ jk_WS := jk_wt6 (i := 64) (by decide +kernel) rfl
theorem jw_1265 : Cond.static ⟨"java/lang/StringUTF16", "checkBoundsBeginEnd", "(II[B)V"⟩ ∈ jk_WS := jk_wt6 (i := 65) (by decide +kernel) rfl
theorem jw_1266 : Cond.code ⟨"java/lang/StringUTF16", "checkBoundsBeginEnd", "(II[B)V"⟩ prog_37_method_93_code 3 (Option.none : Option ClassFile.FieldType) ∈ jk_WS := jk_wt6 (i := 66) (by decide +kernel) rfl
theorem jw_1267 : Cond.methodLink "java/lang/StringUTF16" 48 ⟨"java/lang/StringUTF16", "length", "([B)I"⟩ ∈ jk_WS := jk_wt6 (i := 67) (by decide +kernel) rfl
theorem jw_1268 : Cond.static ⟨"java/lang/StringUTF16", "length", "([B)I"⟩ ∈ jk_WS := jk_wt6 (i := 68) (by decide +kernel) rfl
theorem jw_1269 : Cond.code ⟨"java/lang/StringUTF16", "length", "([B)I"⟩ prog_37_method_6_code 1 (Option.some ClassFile.FieldType.int) ∈ jk_WS := jk_wt6 (i := 69) (by decide +kernel) rfl
theorem jw_1270 : Cond.methodLink "java/lang/StringUTF16" 241 ⟨"java/lang/String", "checkBoundsBeginEnd", "(III)V"⟩ ∈ jk_WS := jk_wt6 (i := 70) (by decide +kernel) rfl
theorem jw_1271 : Cond.static ⟨"java/lang/String", "checkBoundsBeginEnd", "(III)V"⟩ ∈ jk_WS := jk_wt6 (i := 71) (by decide +kernel) rfl
theorem jw_1272 : Cond.code ⟨"java/lang/String", "checkBoundsBeginEnd", "(III)V"⟩ prog_33_method_158_code 3 (Option.none : Option ClassFile.FieldType) ∈ jk_WS := jk_wt6 (i := 72) (by decide +kernel) rfl
theorem jw_1273 : Cond.fieldLink "java/lang/String" 1053 "jdk/internal/util/Preconditions" "SIOOBE_FORMATTER" "Ljava/util/function/BiFunction;" ∈ jk_WS := jk_wt6 (i := 73) (by decide +kernel) rfl
theorem jw_1275 : Cond.methodLink "java/lang/String" 1062 ⟨"jdk/internal/util/Preconditions", "checkFromToIndex", "(IIILjava/util/function/BiFunction;)I"⟩ ∈ jk_WS := jk_wt6 (i := 75) (by decide +kernel) rfl
theorem jw_1276 : Cond.static ⟨"jdk/internal/util/Preconditions", "checkFromToIndex", "(IIILjava/util/function/BiFunction;)I"⟩ ∈ jk_WS := jk_wt6 (i := 76) (by decide +kernel) rfl
theorem jw_1277 : Cond.code ⟨"jdk/internal/util/Preconditions", "checkFromToIndex", "(IIILjava/util/function/BiFunction;)I"⟩ prog_46_method_12_code 4 (Option.some ClassFile.FieldType.int) ∈ jk_WS := jk_wt6 (i := 77) (by decide +kernel) rfl
theorem jw_1278 : Cond.methodLink "java/lang/StringUTF16" 111 ⟨"java/lang/StringUTF16", "putChar", "([BII)V"⟩ ∈ jk_WS := jk_wt6 (i := 78) (by decide +kernel) rfl
theorem jw_1279 : Cond.static ⟨"java/lang/StringUTF16", "putChar", "([BII)V"⟩ ∈ jk_WS := jk_wt6 (i := 79) (by decide +kernel) rfl
theorem jw_1280 : Cond.code ⟨"java/lang/StringUTF16", "putChar", "([BII)V"⟩ prog_37_method_4_code 3 (Option.none : Option ClassFile.FieldType) ∈ jk_WS := jk_wt6 (i := 80) (by decide +kernel) rfl
theorem jw_1281 : Cond.fieldLink "java/lang/StringUTF16" 44 "java/lang/StringUTF16" "$assertionsDisabled" "Z" ∈ jk_WS := jk_wt6 (i := 81) (by decide +kernel) rfl
theorem jw_1283 : Cond.fieldLink "java/lang/StringUTF16" 59 "java/lang/StringUTF16" "HI_BYTE_SHIFT" "I" ∈ jk_WS := jk_wt6 (i := 83) (by decide +kernel) rfl
theorem jw_1285 : Cond.fieldLink "java/lang/StringUTF16" 63 "java/lang/StringUTF16" "LO_BYTE_SHIFT" "I" ∈ jk_WS := jk_wt6 (i := 85) (by decide +kernel) rfl
theorem jw_1287 : Cond.methodLink "java/lang/AbstractStringBuilder" 32 ⟨"java/lang/String", "length", "()I"⟩ ∈ jk_WS := jk_wt6 (i := 87) (by decide +kernel) rfl
theorem jw_1288 : Cond.instanceMethod ⟨"java/lang/String", "length", "()I"⟩ ∈ jk_WS := jk_wt6 (i := 88) (by decide +kernel) rfl
theorem jw_1289 : Cond.selects "java/lang/String" ⟨"java/lang/String", "length", "()I"⟩ ⟨"java/lang/String", "length", "()I"⟩ ∈ jk_WS := jk_wt6 (i := 89) (by decide +kernel) rfl
theorem jw_1290 : Cond.code ⟨"java/lang/String", "length", "()I"⟩ prog_33_method_54_code 1 (Option.some ClassFile.FieldType.int) ∈ jk_WS := jk_wt6 (i := 90) (by decide +kernel) rfl
theorem jw_1291 : Cond.methodLink "java/lang/String" 335 ⟨"java/lang/String", "coder", "()B"⟩ ∈ jk_WS := jk_wt6 (i := 91) (by decide +kernel) rfl
theorem jw_1292 : Cond.instanceMethod ⟨"java/lang/String", "coder", "()B"⟩ ∈ jk_WS := jk_wt6 (i := 92) (by decide +kernel) rfl
theorem jw_1293 : Cond.selects "java/lang/String" ⟨"java/lang/String", "coder", "()B"⟩ ⟨"java/lang/String", "coder", "()B"⟩ ∈ jk_WS := jk_wt6 (i := 93) (by decide +kernel) rfl
theorem jw_1294 : Cond.code ⟨"java/lang/String", "coder", "()B"⟩ prog_33_method_152_code 1 (Option.some ClassFile.FieldType.byte) ∈ jk_WS := jk_wt6 (i := 94) (by decide +kernel) rfl
theorem jw_1295 : Cond.fieldLink "java/lang/String" 38 "java/lang/String" "COMPACT_STRINGS" "Z" ∈ jk_WS := jk_wt6 (i := 95) (by decide +kernel) rfl
theorem jw_1296 : Cond.methodLink "java/lang/AbstractStringBuilder" 208 ⟨"java/lang/AbstractStringBuilder", "putStringAt", "(ILjava/lang/String;)V"⟩ ∈ jk_WS := jk_wt6 (i := 96) (by decide +kernel) rfl
theorem jw_1298 : Cond.instanceMethod ⟨"java/lang/AbstractStringBuilder", "putStringAt", "(ILjava/lang/String;)V"⟩ ∈ jk_WS := jk_wt6 (i := 98) (by decide +kernel) rfl
theorem jw_1299 : Cond.code ⟨"java/lang/AbstractStringBuilder", "putStringAt", "(ILjava/lang/String;)V"⟩ prog_17_method_73_code 3 (Option.none : Option ClassFile.FieldType) ∈ jk_WS := jk_wt6 (i := 99) (by decide +kernel) rfl
theorem jw_1300 : Cond.methodLink "java/lang/AbstractStringBuilder" 397 ⟨"java/lang/AbstractStringBuilder", "inflateIfNeededFor", "(Ljava/lang/String;)V"⟩ ∈ jk_WS := jk_wt6 (i := 100) (by decide +kernel) rfl
theorem jw_1302 : Cond.instanceMethod ⟨"java/lang/AbstractStringBuilder", "inflateIfNeededFor", "(Ljava/lang/String;)V"⟩ ∈ jk_WS := jk_wt6 (i := 102) (by decide +kernel) rfl
theorem jw_1303 : Cond.code ⟨"java/lang/AbstractStringBuilder", "inflateIfNeededFor", "(Ljava/lang/String;)V"⟩ prog_17_method_71_code 2 (Option.none : Option ClassFile.FieldType) ∈ jk_WS := jk_wt6 (i := 103) (by decide +kernel) rfl
theorem jw_1304 : Cond.methodLink "java/lang/AbstractStringBuilder" 40 ⟨"java/lang/String", "coder", "()B"⟩ ∈ jk_WS := jk_wt6 (i := 104) (by decide +kernel) rfl
theorem jw_1305 : Cond.methodLink "java/lang/AbstractStringBuilder" 195 ⟨"java/lang/AbstractStringBuilder", "inflate", "()V"⟩ ∈ jk_WS := jk_wt6 (i := 105) (by decide +kernel) rfl
theorem jw_1307 : Cond.instanceMethod ⟨"java/lang/AbstractStringBuilder", "inflate", "()V"⟩ ∈ jk_WS := jk_wt6 (i := 107) (by decide +kernel) rfl
theorem jw_1308 : Cond.code ⟨"java/lang/AbstractStringBuilder", "inflate", "()V"⟩ prog_17_method_11_code 2 (Option.none : Option ClassFile.FieldType) ∈ jk_WS := jk_wt6 (i := 108) (by decide +kernel) rfl
theorem jw_1309 : Cond.methodLink "java/lang/AbstractStringBuilder" 125 ⟨"java/lang/StringLatin1", "inflate", "([BI[BII)V"⟩ ∈ jk_WS := jk_wt6 (i := 109) (by decide +kernel) rfl
theorem jw_1310 : Cond.static ⟨"java/lang/StringLatin1", "inflate", "([BI[BII)V"⟩ ∈ jk_WS := jk_wt6 (i := 110) (by decide +kernel) rfl
theorem jw_1311 : Cond.code ⟨"java/lang/StringLatin1", "inflate", "([BI[BII)V"⟩ prog_36_method_50_code 5 (Option.none : Option ClassFile.FieldType) ∈ jk_WS := jk_wt6 (i := 111) (by decide +kernel) rfl
theorem jw_1312 : Cond.methodLink "java/lang/StringLatin1" 240 ⟨"java/lang/StringUTF16", "inflate", "([BI[BII)V"⟩ ∈ jk_WS := jk_wt6 (i := 112) (by decide +kernel) rfl
theorem jw_1313 : Cond.static ⟨"java/lang/StringUTF16", "inflate", "([BI[BII)V"⟩ ∈ jk_WS := jk_wt6 (i := 113) (by decide +kernel) rfl
theorem jw_1314 : Cond.code ⟨"java/lang/StringUTF16", "inflate", "([BI[BII)V"⟩ prog_37_method_86_code 6 (Option.none : Option ClassFile.FieldType) ∈ jk_WS := jk_wt6 (i := 114) (by decide +kernel) rfl
theorem jw_1315 : Cond.methodLink "java/lang/StringUTF16" 173 ⟨"java/lang/StringUTF16", "checkBoundsOffCount", "(II[B)V"⟩ ∈ jk_WS := jk_wt6 (i := 115) (by decide +kernel) rfl
theorem jw_1316 : Cond.static ⟨"java/lang/StringUTF16", "checkBoundsOffCount", "(II[B)V"⟩ ∈ jk_WS := jk_wt6 (i := 116) (by decide +kernel) rfl
theorem jw_1317 : Cond.code ⟨"java/lang/StringUTF16", "checkBoundsOffCount", "(II[B)V"⟩ prog_37_method_94_code 3 (Option.none : Option ClassFile.FieldType) ∈ jk_WS := jk_wt6 (i := 117) (by decide +kernel) rfl
theorem jw_1318 : Cond.methodLink "java/lang/StringUTF16" 419 ⟨"java/lang/String", "checkBoundsOffCount", "(III)I"⟩ ∈ jk_WS := jk_wt6 (i := 118) (by decide +kernel) rfl
theorem jw_1319 : Cond.static ⟨"java/lang/String", "checkBoundsOffCount", "(III)I"⟩ ∈ jk_WS := jk_wt6 (i := 119) (by decide +kernel) rfl
theorem jw_1320 : Cond.code ⟨"java/lang/String", "checkBoundsOffCount", "(III)I"⟩ prog_33_method_157_code 3 (Option.some ClassFile.FieldType.int) ∈ jk_WS := jk_wt6 (i := 120) (by decide +kernel) rfl
theorem jw_1321 : Cond.methodLink "java/lang/String" 1065 ⟨"jdk/internal/util/Preconditions", "checkFromIndexSize", "(IIILjava/util/function/BiFunction;)I"⟩ ∈ jk_WS := jk_wt6 (i := 121) (by decide +kernel) rfl
theorem jw_1322 : Cond.static ⟨"jdk/internal/util/Preconditions", "checkFromIndexSize", "(IIILjava/util/function/BiFunction;)I"⟩ ∈ jk_WS := jk_wt6 (i := 122) (by decide +kernel) rfl
theorem jw_1323 : Cond.code ⟨"jdk/internal/util/Preconditions", "checkFromIndexSize", "(IIILjava/util/function/BiFunction;)I"⟩ prog_46_method_13_code 4 (Option.some ClassFile.FieldType.int) ∈ jk_WS := jk_wt6 (i := 123) (by decide +kernel) rfl
theorem jw_1324 : Cond.methodLink "java/lang/AbstractStringBuilder" 399 ⟨"java/lang/String", "getBytes", "([BIB)V"⟩ ∈ jk_WS := jk_wt6 (i := 124) (by decide +kernel) rfl
theorem jw_1325 : Cond.instanceMethod ⟨"java/lang/String", "getBytes", "([BIB)V"⟩ ∈ jk_WS := jk_wt6 (i := 125) (by decide +kernel) rfl
theorem jw_1326 : Cond.selects "java/lang/String" ⟨"java/lang/String", "getBytes", "([BIB)V"⟩ ⟨"java/lang/String", "getBytes", "([BIB)V"⟩ ∈ jk_WS := jk_wt6 (i := 126) (by decide +kernel) rfl
theorem jw_1327 : Cond.code ⟨"java/lang/String", "getBytes", "([BIB)V"⟩ prog_33_method_147_code 4 (Option.none : Option ClassFile.FieldType) ∈ jk_WS := jk_wt6 (i := 127) (by decide +kernel) rfl
theorem jw_1328 : Cond.methodLink "java/lang/String" 212 ⟨"java/lang/System", "arraycopy", "(Ljava/lang/Object;ILjava/lang/Object;II)V"⟩ ∈ jk_WS := jk_wt6 (i := 128) (by decide +kernel) rfl
theorem jw_1329 : Cond.methodLink "java/lang/String" 106 ⟨"java/lang/StringLatin1", "inflate", "([BI[BII)V"⟩ ∈ jk_WS := jk_wt6 (i := 129) (by decide +kernel) rfl
theorem jw_1330 : Cond.methodLink "java/lang/StringIndexOutOfBoundsException" 19 ⟨"java/lang/StringBuilder", "append", "(I)Ljava/lang/StringBuilder;"⟩ ∈ jk_WS := jk_wt6 (i := 130) (by decide +kernel) rfl
theorem jw_1331 : Cond.instanceMethod ⟨"java/lang/StringBuilder", "append", "(I)Ljava/lang/StringBuilder;"⟩ ∈ jk_WS := jk_wt6 (i := 131) (by decide +kernel) rfl
theorem jw_1332 : Cond.selects "java/lang/StringBuilder" ⟨"java/lang/StringBuilder", "append", "(I)Ljava/lang/StringBuilder;"⟩ ⟨"java/lang/StringBuilder", "append", "(I)Ljava/lang/StringBuilder;"⟩ ∈ jk_WS := jk_wt6 (i := 132) (by decide +kernel) rfl
theorem jw_1333 : Cond.code ⟨"java/lang/StringBuilder", "append", "(I)Ljava/lang/StringBuilder;"⟩ prog_34_method_15_code 2 (Option.some (ClassFile.FieldType.object "java/lang/StringBuilder")) ∈ jk_WS := jk_wt6 (i := 133) (by decide +kernel) rfl
theorem jw_1334 : Cond.methodLink "java/lang/StringBuilder" 53 ⟨"java/lang/AbstractStringBuilder", "append", "(I)Ljava/lang/AbstractStringBuilder;"⟩ ∈ jk_WS := jk_wt6 (i := 134) (by decide +kernel) rfl
theorem jw_1335 : Cond.instanceMethod ⟨"java/lang/AbstractStringBuilder", "append", "(I)Ljava/lang/AbstractStringBuilder;"⟩ ∈ jk_WS := jk_wt6 (i := 135) (by decide +kernel) rfl
theorem jw_1336 : Cond.code ⟨"java/lang/AbstractStringBuilder", "append", "(I)Ljava/lang/AbstractStringBuilder;"⟩ prog_17_method_32_code 4 (Option.some (ClassFile.FieldType.object "java/lang/AbstractStringBuilder")) ∈ jk_WS := jk_wt6 (i := 136) (by decide +kernel) rfl
theorem jw_1337 : Cond.methodLink "java/lang/AbstractStringBuilder" 245 ⟨"java/lang/Integer", "stringSize", "(I)I"⟩ ∈ jk_WS := jk_wt6 (i := 137) (by decide +kernel) rfl
theorem jw_1338 : Cond.static ⟨"java/lang/Integer", "stringSize", "(I)I"⟩ ∈ jk_WS := jk_wt6 (i := 138) (by decide +kernel) rfl
theorem jw_1339 : Cond.code ⟨"java/lang/Integer", "stringSize", "(I)I"⟩ prog_29_method_13_code 4 (Option.some ClassFile.FieldType.int) ∈ jk_WS := jk_wt6 (i := 139) (by decide +kernel) rfl
theorem jw_1340 : Cond.methodLink "java/lang/AbstractStringBuilder" 248 ⟨"java/lang/Integer", "getChars", "(II[B)I"⟩ ∈ jk_WS := jk_wt6 (i := 140) (by decide +kernel) rfl
theorem jw_1341 : Cond.static ⟨"java/lang/Integer", "getChars", "(II[B)I"⟩ ∈ jk_WS := jk_wt6 (i := 141) (by decide +kernel) rfl
theorem jw_1342 : Cond.code ⟨"java/lang/Integer", "getChars", "(II[B)I"⟩ prog_29_method_12_code 7 (Option.some ClassFile.FieldType.int) ∈ jk_WS := jk_wt6 (i := 142) (by decide +kernel) rfl
theorem jw_1343 : Cond.fieldLink "java/lang/Integer" 83 "java/lang/Integer" "DigitOnes" "[B" ∈ jk_WS := jk_wt6 (i := 143) (by decide +kernel) rfl
theorem jw_1345 : Cond.fieldLink "java/lang/Integer" 87 "java/lang/Integer" "DigitTens" "[B" ∈ jk_WS := jk_wt6 (i := 145) (by decide +kernel) rfl
theorem jw_1347 : Cond.methodLink "java/lang/AbstractStringBuilder" 251 ⟨"java/lang/StringUTF16", "getChars", "(III[B)I"⟩ ∈ jk_WS := jk_wt6 (i := 147) (by decide +kernel) rfl
theorem jw_1348 : Cond.static ⟨"java/lang/StringUTF16", "getChars", "(III[B)I"⟩ ∈ jk_WS := jk_wt6 (i := 148) (by decide +kernel) rfl
theorem jw_1349 : Cond.code ⟨"java/lang/StringUTF16", "getChars", "(III[B)I"⟩ prog_37_method_77_code 5 (Option.some ClassFile.FieldType.int) ∈ jk_WS := jk_wt6 (i := 149) (by decide +kernel) rfl
theorem jw_1350 : Cond.methodLink "java/lang/StringUTF16" 393 ⟨"java/lang/StringUTF16", "getChars", "(II[B)I"⟩ ∈ jk_WS := jk_wt6 (i := 150) (by decide +kernel) rfl
theorem jw_1351 : Cond.static ⟨"java/lang/StringUTF16", "getChars", "(II[B)I"⟩ ∈ jk_WS := jk_wt6 (i := 151) (by decide +kernel) rfl
theorem jw_1352 : Cond.code ⟨"java/lang/StringUTF16", "getChars", "(II[B)I"⟩ prog_37_method_89_code 7 (Option.some ClassFile.FieldType.int) ∈ jk_WS := jk_wt6 (i := 152) (by decide +kernel) rfl
theorem jw_1353 : Cond.fieldLink "java/lang/StringUTF16" 403 "java/lang/Integer" "DigitOnes" "[B" ∈ jk_WS := jk_wt6 (i := 153) (by decide +kernel) rfl
theorem jw_1354 : Cond.fieldLink "java/lang/StringUTF16" 407 "java/lang/Integer" "DigitTens" "[B" ∈ jk_WS := jk_wt6 (i := 154) (by decide +kernel) rfl
theorem jw_1355 : Cond.methodLink "java/lang/StringIndexOutOfBoundsException" 22 ⟨"java/lang/StringBuilder", "toString", "()Ljava/lang/String;"⟩ ∈ jk_WS := jk_wt6 (i := 155) (by decide +kernel) rfl
theorem jw_1356 : Cond.instanceMethod ⟨"java/lang/StringBuilder", "toString", "()Ljava/lang/String;"⟩ ∈ jk_WS := jk_wt6 (i := 156) (by decide +kernel) rfl
theorem jw_1357 : Cond.selects "java/lang/StringBuilder" ⟨"java/lang/StringBuilder", "toString", "()Ljava/lang/String;"⟩ ⟨"java/lang/StringBuilder", "toString", "()Ljava/lang/String;"⟩ ∈ jk_WS := jk_wt6 (i := 157) (by decide +kernel) rfl
theorem jw_1358 : Cond.code ⟨"java/lang/StringBuilder", "toString", "()Ljava/lang/String;"⟩ prog_34_method_42_code 1 (Option.some (ClassFile.FieldType.object "java/lang/String")) ∈ jk_WS := jk_wt6 (i := 158) (by decide +kernel) rfl
theorem jw_1359 : Cond.classLink "java/lang/StringBuilder" 18 "java/lang/String" ∈ jk_WS := jk_wt6 (i := 159) (by decide +kernel) rfl
theorem jw_1360 : Cond.instantiable "java/lang/String" 4 ∈ jk_WS := jk_wt6 (i := 160) (by decide +kernel) rfl
theorem jw_1361 : Cond.methodLink "java/lang/StringBuilder" 137 ⟨"java/lang/String", "<init>", "(Ljava/lang/StringBuilder;)V"⟩ ∈ jk_WS := jk_wt6 (i := 161) (by decide +kernel) rfl
theorem jw_1362 : Cond.instanceMethod ⟨"java/lang/String", "<init>", "(Ljava/lang/StringBuilder;)V"⟩ ∈ jk_WS := jk_wt6 (i := 162) (by decide +kernel) rfl
theorem jw_1363 : Cond.code ⟨"java/lang/String", "<init>", "(Ljava/lang/StringBuilder;)V"⟩ prog_33_method_53_code 2 (Option.none : Option ClassFile.FieldType) ∈ jk_WS := jk_wt6 (i := 163) (by decide +kernel) rfl
theorem jw_1364 : Cond.methodLink "java/lang/String" 489 ⟨"java/lang/String", "<init>", "(Ljava/lang/AbstractStringBuilder;Ljava/lang/Void;)V"⟩ ∈ jk_WS := jk_wt6 (i := 164) (by decide +kernel) rfl
theorem jw_1365 : Cond.instanceMethod ⟨"java/lang/String", "<init>", "(Ljava/lang/AbstractStringBuilder;Ljava/lang/Void;)V"⟩ ∈ jk_WS := jk_wt6 (i := 165) (by decide +kernel) rfl
theorem jw_1366 : Cond.code ⟨"java/lang/String", "<init>", "(Ljava/lang/AbstractStringBuilder;Ljava/lang/Void;)V"⟩ prog_33_method_150_code 5 (Option.none : Option ClassFile.FieldType) ∈ jk_WS := jk_wt6 (i := 166) (by decide +kernel) rfl
theorem jw_1367 : Cond.methodLink "java/lang/String" 1 ⟨"java/lang/Object", "<init>", "()V"⟩ ∈ jk_WS := jk_wt6 (i := 167) (by decide +kernel) rfl
theorem jw_1368 : Cond.methodLink "java/lang/String" 552 ⟨"java/lang/AbstractStringBuilder", "getValue", "()[B"⟩ ∈ jk_WS := jk_wt6 (i := 168) (by decide +kernel) rfl
theorem jw_1369 : Cond.instanceMethod ⟨"java/lang/AbstractStringBuilder", "getValue", "()[B"⟩ ∈ jk_WS := jk_wt6 (i := 169) (by decide +kernel) rfl
theorem jw_1370 : Cond.sameMethod "java/lang/AbstractStringBuilder" "java/lang/AbstractStringBuilder" "getValue" "()[B" ∈ jk_WS := jk_wt6 (i := 170) (by decide +kernel) rfl
theorem jw_1371 : Cond.selects "java/lang/StringBuilder" ⟨"java/lang/AbstractStringBuilder", "getValue", "()[B"⟩ ⟨"java/lang/AbstractStringBuilder", "getValue", "()[B"⟩ ∈ jk_WS := jk_wt6 (i := 171) (by decide +kernel) rfl
theorem jw_1372 : Cond.code ⟨"java/lang/AbstractStringBuilder", "getValue", "()[B"⟩ prog_17_method_64_code 1 (Option.some (ClassFile.FieldType.array ClassFile.FieldType.byte)) ∈ jk_WS := jk_wt6 (i := 172) (by decide +kernel) rfl
theorem jw_1373 : Cond.methodLink "java/lang/String" 549 ⟨"java/lang/AbstractStringBuilder", "length", "()I"⟩ ∈ jk_WS := jk_wt6 (i := 173) (by decide +kernel) rfl
theorem jw_1374 : Cond.instanceMethod ⟨"java/lang/AbstractStringBuilder", "length", "()I"⟩ ∈ jk_WS := jk_wt6 (i := 174) (by decide +kernel) rfl
theorem jw_1375 : Cond.sameMethod "java/lang/AbstractStringBuilder" "java/lang/AbstractStringBuilder" "length" "()I" ∈ jk_WS := jk_wt6 (i := 175) (by decide +kernel) rfl
theorem jw_1376 : Cond.selects "java/lang/StringBuilder" ⟨"java/lang/AbstractStringBuilder", "length", "()I"⟩ ⟨"java/lang/StringBuilder", "length", "()I"⟩ ∈ jk_WS := jk_wt6 (i := 176) (by decide +kernel) rfl
theorem jw_1377 : Cond.instanceMethod ⟨"java/lang/StringBuilder", "length", "()I"⟩ ∈ jk_WS := jk_wt6 (i := 177) (by decide +kernel) rfl
theorem jw_1378 : Cond.code ⟨"java/lang/StringBuilder", "length", "()I"⟩ prog_34_method_93_code 1 (Option.some ClassFile.FieldType.int) ∈ jk_WS := jk_wt6 (i := 178) (by decide +kernel) rfl
theorem jw_1379 : Cond.methodLink "java/lang/StringBuilder" 343 ⟨"java/lang/AbstractStringBuilder", "length", "()I"⟩ ∈ jk_WS := jk_wt6 (i := 179) (by decide +kernel) rfl
theorem jw_1380 : Cond.code ⟨"java/lang/AbstractStringBuilder", "length", "()I"⟩ prog_17_method_6_code 1 (Option.some ClassFile.FieldType.int) ∈ jk_WS := jk_wt6 (i := 180) (by decide +kernel) rfl
theorem jw_1381 : Cond.methodLink "java/lang/String" 1047 ⟨"java/lang/AbstractStringBuilder", "isLatin1", "()Z"⟩ ∈ jk_WS := jk_wt6 (i := 181) (by decide +kernel) rfl
theorem jw_1382 : Cond.methodLink "java/lang/String" 54 ⟨"java/util/Arrays", "copyOfRange", "([BII)[B"⟩ ∈ jk_WS := jk_wt6 (i := 182) (by decide +kernel) rfl
theorem jw_1383 : Cond.static ⟨"java/util/Arrays", "copyOfRange", "([BII)[B"⟩ ∈ jk_WS := jk_wt6 (i := 183) (by decide +kernel) rfl
theorem jw_1384 : Cond.code ⟨"java/util/Arrays", "copyOfRange", "([BII)[B"⟩ prog_43_method_132_code 3 (Option.some (ClassFile.FieldType.array ClassFile.FieldType.byte)) ∈ jk_WS := jk_wt6 (i := 184) (by decide +kernel) rfl
theorem jw_1385 : Cond.methodLink "java/util/Arrays" 339 ⟨"java/util/Arrays", "copyOfRangeByte", "([BII)[B"⟩ ∈ jk_WS := jk_wt6 (i := 185) (by decide +kernel) rfl
theorem jw_1386 : Cond.static ⟨"java/util/Arrays", "copyOfRangeByte", "([BII)[B"⟩ ∈ jk_WS := jk_wt6 (i := 186) (by decide +kernel) rfl
theorem jw_1387 : Cond.code ⟨"java/util/Arrays", "copyOfRangeByte", "([BII)[B"⟩ prog_43_method_133_code 5 (Option.some (ClassFile.FieldType.array ClassFile.FieldType.byte)) ∈ jk_WS := jk_wt6 (i := 187) (by decide +kernel) rfl
theorem jw_1388 : Cond.methodLink "java/util/Arrays" 343 ⟨"java/util/Arrays", "checkLength", "(II)V"⟩ ∈ jk_WS := jk_wt6 (i := 188) (by decide +kernel) rfl
theorem jw_1389 : Cond.static ⟨"java/util/Arrays", "checkLength", "(II)V"⟩ ∈ jk_WS := jk_wt6 (i := 189) (by decide +kernel) rfl
theorem jw_1390 : Cond.code ⟨"java/util/Arrays", "checkLength", "(II)V"⟩ prog_43_method_131_code 2 (Option.none : Option ClassFile.FieldType) ∈ jk_WS := jk_wt6 (i := 190) (by decide +kernel) rfl
theorem jw_1391 : Cond.classLink "java/util/Arrays" 43 "java/lang/IllegalArgumentException" ∈ jk_WS := jk_wt6 (i := 191) (by decide +kernel) rfl
theorem jw_1392 : Cond.classLink "java/util/Arrays" 45 "java/lang/StringBuilder" ∈ jk_WS := jk_wt6 (i := 192) (by decide +kernel) rfl
theorem jw_1393 : Cond.methodLink "java/util/Arrays" 47 ⟨"java/lang/StringBuilder", "<init>", "()V"⟩ ∈ jk_WS := jk_wt6 (i := 193) (by decide +kernel) rfl
theorem jw_1394 : Cond.methodLink "java/util/Arrays" 54 ⟨"java/lang/StringBuilder", "append", "(I)Ljava/lang/StringBuilder;"⟩ ∈ jk_WS := jk_wt6 (i := 194) (by decide +kernel) rfl
theorem jw_1396 : Cond.methodLink "java/util/Arrays" 50 ⟨"java/lang/StringBuilder", "append", "(Ljava/lang/String;)Ljava/lang/StringBuilder;"⟩ ∈ jk_WS := jk_wt6 (i := 196) (by decide +kernel) rfl
theorem jw_1397 : Cond.methodLink "java/util/Arrays" 61 ⟨"java/lang/StringBuilder", "toString", "()Ljava/lang/String;"⟩ ∈ jk_WS := jk_wt6 (i := 197) (by decide +kernel) rfl
theorem jw_1398 : Cond.methodLink "java/util/Arrays" 65 ⟨"java/lang/IllegalArgumentException", "<init>", "(Ljava/lang/String;)V"⟩ ∈ jk_WS := jk_wt6 (i := 198) (by decide +kernel) rfl
theorem jw_1399 : Cond.methodLink "java/lang/String" 1051 ⟨"java/lang/StringUTF16", "compress", "([BII)[B"⟩ ∈ jk_WS := jk_wt6 (i := 199) (by decide +kernel) rfl
theorem jw_1400 : Cond.static ⟨"java/lang/StringUTF16", "compress", "([BII)[B"⟩ ∈ jk_WS := jk_wt6 (i := 200) (by decide +kernel) rfl
theorem jw_1401 : Cond.code ⟨"java/lang/StringUTF16", "compress", "([BII)[B"⟩ prog_37_method_17_code 6 (Option.some (ClassFile.FieldType.array ClassFile.FieldType.byte)) ∈ jk_WS := jk_wt6 (i := 201) (by decide +kernel) rfl
theorem jw_1402 : Cond.methodLink "java/lang/StringUTF16" 123 ⟨"java/lang/StringUTF16", "compress", "([BI[BII)I"⟩ ∈ jk_WS := jk_wt6 (i := 202) (by decide +kernel) rfl
theorem jw_1403 : Cond.static ⟨"java/lang/StringUTF16", "compress", "([BI[BII)I"⟩ ∈ jk_WS := jk_wt6 (i := 203) (by decide +kernel) rfl
theorem jw_1404 : Cond.code ⟨"java/lang/StringUTF16", "compress", "([BI[BII)I"⟩ prog_37_method_22_code 7 (Option.some ClassFile.FieldType.int) ∈ jk_WS := jk_wt6 (i := 204) (by decide +kernel) rfl
theorem jw_1405 : Cond.methodLink "java/lang/StringUTF16" 71 ⟨"java/lang/StringUTF16", "getChar", "([BI)C"⟩ ∈ jk_WS := jk_wt6 (i := 205) (by decide +kernel) rfl
theorem jw_1406 : Cond.static ⟨"java/lang/StringUTF16", "getChar", "([BI)C"⟩ ∈ jk_WS := jk_wt6 (i := 206) (by decide +kernel) rfl
theorem jw_1407 : Cond.code ⟨"java/lang/StringUTF16", "getChar", "([BI)C"⟩ prog_37_method_5_code 2 (Option.some ClassFile.FieldType.char) ∈ jk_WS := jk_wt6 (i := 207) (by decide +kernel) rfl
theorem jw_1408 : Cond.methodLink "java/lang/StringUTF16" 126 ⟨"java/util/Arrays", "copyOfRange", "([BII)[B"⟩ ∈ jk_WS := jk_wt6 (i := 208) (by decide +kernel) rfl
theorem jw_1409 : Cond.methodLink "java/lang/String" 47 ⟨"java/lang/StringUTF16", "coderFromArrayLen", "([BI)B"⟩ ∈ jk_WS := jk_wt6 (i := 209) (by decide +kernel) rfl
theorem jw_1410 : Cond.static ⟨"java/lang/StringUTF16", "coderFromArrayLen", "([BI)B"⟩ ∈ jk_WS := jk_wt6 (i := 210) (by decide +kernel) rfl
theorem jw_1411 : Cond.code ⟨"java/lang/StringUTF16", "coderFromArrayLen", "([BI)B"⟩ prog_37_method_15_code 2 (Option.some ClassFile.FieldType.byte) ∈ jk_WS := jk_wt6 (i := 211) (by decide +kernel) rfl
theorem jw_1412 : Cond.fieldLink "java/lang/String" 9 "java/lang/String" "value" "[B" ∈ jk_WS := jk_wt6 (i := 212) (by decide +kernel) rfl
theorem jw_1413 : Cond.fieldLink "java/lang/String" 15 "java/lang/String" "coder" "B" ∈ jk_WS := jk_wt6 (i := 213) (by decide +kernel) rfl
theorem jw_1414 : Cond.laysFinal "java/lang/String" "java/lang/String" "value" "[B" ∈ jk_WS := jk_wt6 (i := 214) (by decide +kernel) rfl
theorem jw_1416 : Cond.laysFinal "java/lang/String" "java/lang/String" "coder" "B" ∈ jk_WS := jk_wt6 (i := 216) (by decide +kernel) rfl
theorem jw_1418 : Cond.lays "java/lang/String" "java/lang/String" "hash" "I" ∈ jk_WS := jk_wt6 (i := 218) (by decide +kernel) rfl
theorem jw_1420 : Cond.lays "java/lang/String" "java/lang/String" "hashIsZero" "Z" ∈ jk_WS := jk_wt6 (i := 220) (by decide +kernel) rfl
theorem jw_1422 : Cond.superclass "java/lang/String" "java/lang/Object" ∈ jk_WS := jk_wt6 (i := 222) (by decide +kernel) rfl
theorem jw_1423 : Cond.methodLink "java/lang/StringIndexOutOfBoundsException" 7 ⟨"java/lang/IndexOutOfBoundsException", "<init>", "(Ljava/lang/String;)V"⟩ ∈ jk_WS := jk_wt6 (i := 223) (by decide +kernel) rfl
theorem jw_1424 : Cond.lays "java/lang/StringIndexOutOfBoundsException" "java/lang/Throwable" "backtrace" "Ljava/lang/Object;" ∈ jk_WS := jk_wt6 (i := 224) (by decide +kernel) rfl
theorem jw_1425 : Cond.lays "java/lang/StringIndexOutOfBoundsException" "java/lang/Throwable" "detailMessage" "Ljava/lang/String;" ∈ jk_WS := jk_wt6 (i := 225) (by decide +kernel) rfl
theorem jw_1426 : Cond.lays "java/lang/StringIndexOutOfBoundsException" "java/lang/Throwable" "cause" "Ljava/lang/Throwable;" ∈ jk_WS := jk_wt6 (i := 226) (by decide +kernel) rfl
theorem jw_1427 : Cond.lays "java/lang/StringIndexOutOfBoundsException" "java/lang/Throwable" "stackTrace" "[Ljava/lang/StackTraceElement;" ∈ jk_WS := jk_wt6 (i := 227) (by decide +kernel) rfl
theorem jw_1428 : Cond.lays "java/lang/StringIndexOutOfBoundsException" "java/lang/Throwable" "depth" "I" ∈ jk_WS := jk_wt6 (i := 228) (by decide +kernel) rfl
theorem jw_1429 : Cond.lays "java/lang/StringIndexOutOfBoundsException" "java/lang/Throwable" "suppressedExceptions" "Ljava/util/List;" ∈ jk_WS := jk_wt6 (i := 229) (by decide +kernel) rfl
theorem jw_1430 : Cond.superclass "java/lang/StringIndexOutOfBoundsException" "java/lang/IndexOutOfBoundsException" ∈ jk_WS := jk_wt6 (i := 230) (by decide +kernel) rfl
theorem jw_1431 : Cond.methodLink "java/lang/AbstractStringBuilder" 133 ⟨"java/lang/StringLatin1", "fillNull", "([BII)V"⟩ ∈ jk_WS := jk_wt6 (i := 231) (by decide +kernel) rfl
theorem jw_1432 : Cond.static ⟨"java/lang/StringLatin1", "fillNull", "([BII)V"⟩ ∈ jk_WS := jk_wt6 (i := 232) (by decide +kernel) rfl
theorem jw_1433 : Cond.code ⟨"java/lang/StringLatin1", "fillNull", "([BII)V"⟩ prog_36_method_48_code 3 (Option.none : Option ClassFile.FieldType) ∈ jk_WS := jk_wt6 (i := 233) (by decide +kernel) rfl
theorem jw_1434 : Cond.methodLink "java/lang/StringLatin1" 236 ⟨"java/util/Arrays", "fill", "([BIIB)V"⟩ ∈ jk_WS := jk_wt6 (i := 234) (by decide +kernel) rfl
theorem jw_1435 : Cond.static ⟨"java/util/Arrays", "fill", "([BIIB)V"⟩ ∈ jk_WS := jk_wt6 (i := 235) (by decide +kernel) rfl
theorem jw_1436 : Cond.code ⟨"java/util/Arrays", "fill", "([BIIB)V"⟩ prog_43_method_110_code 5 (Option.none : Option ClassFile.FieldType) ∈ jk_WS := jk_wt6 (i := 236) (by decide +kernel) rfl
theorem jw_1437 : Cond.methodLink "java/util/Arrays" 13 ⟨"java/util/Arrays", "rangeCheck", "(III)V"⟩ ∈ jk_WS := jk_wt6 (i := 237) (by decide +kernel) rfl
theorem jw_1438 : Cond.static ⟨"java/util/Arrays", "rangeCheck", "(III)V"⟩ ∈ jk_WS := jk_wt6 (i := 238) (by decide +kernel) rfl
theorem jw_1439 : Cond.code ⟨"java/util/Arrays", "rangeCheck", "(III)V"⟩ prog_43_method_30_code 3 (Option.none : Option ClassFile.FieldType) ∈ jk_WS := jk_wt6 (i := 239) (by decide +kernel) rfl
theorem jw_1443 : Cond.classLink "java/util/Arrays" 68 "java/lang/ArrayIndexOutOfBoundsException" ∈ jk_WS := jk_wt7 (i := 3) (by decide +kernel) rfl
theorem jw_1444 : Cond.instantiable "java/lang/ArrayIndexOutOfBoundsException" 6 ∈ jk_WS := jk_wt7 (i := 4) (by decide +kernel) rfl
theorem jw_1445 : Cond.castable "java/lang/ArrayIndexOutOfBoundsException" "java/lang/ArrayIndexOutOfBoundsException" ∈ jk_WS := jk_wt7 (i := 5) (by decide +kernel) rfl
theorem jw_1446 : Cond.declares ⟨"java/lang/IndexOutOfBoundsException", "<init>", "()V"⟩ ∈ jk_WS := jk_wt7 (i := 6) (by decide +kernel) rfl
theorem jw_1447 : Cond.declares ⟨"java/lang/IndexOutOfBoundsException", "<init>", "(Ljava/lang/String;)V"⟩ ∈ jk_WS := jk_wt7 (i := 7) (by decide +kernel) rfl
theorem jw_1448 : Cond.selects "java/lang/ArrayIndexOutOfBoundsException" ⟨"java/lang/Throwable", "fillInStackTrace", "(I)Ljava/lang/Throwable;"⟩ ⟨"java/lang/Throwable", "fillInStackTrace", "(I)Ljava/lang/Throwable;"⟩ ∈ jk_WS := jk_wt7 (i := 8) (by decide +kernel) rfl
theorem jw_1449 : Cond.lays "java/lang/ArrayIndexOutOfBoundsException" "java/lang/Throwable" "cause" "Ljava/lang/Throwable;" ∈ jk_WS := jk_wt7 (i := 9) (by decide +kernel) rfl
theorem jw_1450 : Cond.lays "java/lang/ArrayIndexOutOfBoundsException" "java/lang/Throwable" "stackTrace" "[Ljava/lang/StackTraceElement;" ∈ jk_WS := jk_wt7 (i := 10) (by decide +kernel) rfl
theorem jw_1451 : Cond.lays "java/lang/ArrayIndexOutOfBoundsException" "java/lang/Throwable" "suppressedExceptions" "Ljava/util/List;" ∈ jk_WS := jk_wt7 (i := 11) (by decide +kernel) rfl
theorem jw_1452 : Cond.lays "java/lang/ArrayIndexOutOfBoundsException" "java/lang/Throwable" "detailMessage" "Ljava/lang/String;" ∈ jk_WS := jk_wt7 (i := 12) (by decide +kernel) rfl
theorem jw_1453 : Cond.lays "java/lang/ArrayIndexOutOfBoundsException" "java/lang/Throwable" "backtrace" "Ljava/lang/Object;" ∈ jk_WS := jk_wt7 (i := 13) (by decide +kernel) rfl
theorem jw_1454 : Cond.methodLink "java/util/Arrays" 70 ⟨"java/lang/ArrayIndexOutOfBoundsException", "<init>", "(I)V"⟩ ∈ jk_WS := jk_wt7 (i := 14) (by decide +kernel) rfl
theorem jw_1455 : Cond.instanceMethod ⟨"java/lang/ArrayIndexOutOfBoundsException", "<init>", "(I)V"⟩ ∈ jk_WS := jk_wt7 (i := 15) (by decide +kernel) rfl
theorem jw_1456 : Cond.code ⟨"java/lang/ArrayIndexOutOfBoundsException", "<init>", "(I)V"⟩ prog_20_method_3_code 2 (Option.none : Option ClassFile.FieldType) ∈ jk_WS := jk_wt7 (i := 16) (by decide +kernel) rfl
theorem jw_1457 : Cond.classLink "java/lang/ArrayIndexOutOfBoundsException" 10 "java/lang/StringBuilder" ∈ jk_WS := jk_wt7 (i := 17) (by decide +kernel) rfl
theorem jw_1458 : Cond.methodLink "java/lang/ArrayIndexOutOfBoundsException" 12 ⟨"java/lang/StringBuilder", "<init>", "()V"⟩ ∈ jk_WS := jk_wt7 (i := 18) (by decide +kernel) rfl
theorem jw_1460 : Cond.methodLink "java/lang/ArrayIndexOutOfBoundsException" 15 ⟨"java/lang/StringBuilder", "append", "(Ljava/lang/String;)Ljava/lang/StringBuilder;"⟩ ∈ jk_WS := jk_wt7 (i := 20) (by decide +kernel) rfl
theorem jw_1461 : Cond.methodLink "java/lang/ArrayIndexOutOfBoundsException" 19 ⟨"java/lang/StringBuilder", "append", "(I)Ljava/lang/StringBuilder;"⟩ ∈ jk_WS := jk_wt7 (i := 21) (by decide +kernel) rfl
theorem jw_1462 : Cond.methodLink "java/lang/ArrayIndexOutOfBoundsException" 22 ⟨"java/lang/StringBuilder", "toString", "()Ljava/lang/String;"⟩ ∈ jk_WS := jk_wt7 (i := 22) (by decide +kernel) rfl
theorem jw_1463 : Cond.methodLink "java/lang/ArrayIndexOutOfBoundsException" 7 ⟨"java/lang/IndexOutOfBoundsException", "<init>", "(Ljava/lang/String;)V"⟩ ∈ jk_WS := jk_wt7 (i := 23) (by decide +kernel) rfl
theorem jw_1464 : Cond.lays "java/lang/ArrayIndexOutOfBoundsException" "java/lang/Throwable" "depth" "I" ∈ jk_WS := jk_wt7 (i := 24) (by decide +kernel) rfl
theorem jw_1465 : Cond.superclass "java/lang/ArrayIndexOutOfBoundsException" "java/lang/IndexOutOfBoundsException" ∈ jk_WS := jk_wt7 (i := 25) (by decide +kernel) rfl
theorem jw_1466 : Cond.methodLink "java/lang/AbstractStringBuilder" 137 ⟨"java/lang/StringUTF16", "fillNull", "([BII)V"⟩ ∈ jk_WS := jk_wt7 (i := 26) (by decide +kernel) rfl
theorem jw_1467 : Cond.static ⟨"java/lang/StringUTF16", "fillNull", "([BII)V"⟩ ∈ jk_WS := jk_wt7 (i := 27) (by decide +kernel) rfl
theorem jw_1468 : Cond.code ⟨"java/lang/StringUTF16", "fillNull", "([BII)V"⟩ prog_37_method_70_code 3 (Option.none : Option ClassFile.FieldType) ∈ jk_WS := jk_wt7 (i := 28) (by decide +kernel) rfl
theorem jw_1469 : Cond.methodLink "java/lang/StringUTF16" 380 ⟨"java/util/Arrays", "fill", "([BIIB)V"⟩ ∈ jk_WS := jk_wt7 (i := 29) (by decide +kernel) rfl
theorem jw_1470 : Cond.methodLink "LevelingNetwork" 354 ⟨"java/lang/StringBuilder", "append", "(I)Ljava/lang/StringBuilder;"⟩ ∈ jk_WS := jk_wt7 (i := 30) (by decide +kernel) rfl
theorem jw_1471 : Cond.methodLink "LevelingNetwork" 358 ⟨"java/lang/StringBuilder", "append", "(C)Ljava/lang/StringBuilder;"⟩ ∈ jk_WS := jk_wt7 (i := 31) (by decide +kernel) rfl
theorem jw_1472 : Cond.instanceMethod ⟨"java/lang/StringBuilder", "append", "(C)Ljava/lang/StringBuilder;"⟩ ∈ jk_WS := jk_wt7 (i := 32) (by decide +kernel) rfl
theorem jw_1473 : Cond.selects "java/lang/StringBuilder" ⟨"java/lang/StringBuilder", "append", "(C)Ljava/lang/StringBuilder;"⟩ ⟨"java/lang/StringBuilder", "append", "(C)Ljava/lang/StringBuilder;"⟩ ∈ jk_WS := jk_wt7 (i := 33) (by decide +kernel) rfl
theorem jw_1474 : Cond.code ⟨"java/lang/StringBuilder", "append", "(C)Ljava/lang/StringBuilder;"⟩ prog_34_method_14_code 2 (Option.some (ClassFile.FieldType.object "java/lang/StringBuilder")) ∈ jk_WS := jk_wt7 (i := 34) (by decide +kernel) rfl
theorem jw_1475 : Cond.methodLink "java/lang/StringBuilder" 50 ⟨"java/lang/AbstractStringBuilder", "append", "(C)Ljava/lang/AbstractStringBuilder;"⟩ ∈ jk_WS := jk_wt7 (i := 35) (by decide +kernel) rfl
theorem jw_1476 : Cond.instanceMethod ⟨"java/lang/AbstractStringBuilder", "append", "(C)Ljava/lang/AbstractStringBuilder;"⟩ ∈ jk_WS := jk_wt7 (i := 36) (by decide +kernel) rfl
theorem jw_1477 : Cond.code ⟨"java/lang/AbstractStringBuilder", "append", "(C)Ljava/lang/AbstractStringBuilder;"⟩ prog_17_method_31_code 2 (Option.some (ClassFile.FieldType.object "java/lang/AbstractStringBuilder")) ∈ jk_WS := jk_wt7 (i := 37) (by decide +kernel) rfl
theorem jw_1478 : Cond.methodLink "java/lang/AbstractStringBuilder" 191 ⟨"java/lang/StringLatin1", "canEncode", "(C)Z"⟩ ∈ jk_WS := jk_wt7 (i := 38) (by decide +kernel) rfl
theorem jw_1479 : Cond.static ⟨"java/lang/StringLatin1", "canEncode", "(C)Z"⟩ ∈ jk_WS := jk_wt7 (i := 39) (by decide +kernel) rfl
theorem jw_1480 : Cond.code ⟨"java/lang/StringLatin1", "canEncode", "(C)Z"⟩ prog_36_method_3_code 1 (Option.some ClassFile.FieldType.boolean) ∈ jk_WS := jk_wt7 (i := 40) (by decide +kernel) rfl
theorem jw_1481 : Cond.methodLink "java/lang/AbstractStringBuilder" 197 ⟨"java/lang/StringUTF16", "putCharSB", "([BII)V"⟩ ∈ jk_WS := jk_wt7 (i := 41) (by decide +kernel) rfl
theorem jw_1482 : Cond.static ⟨"java/lang/StringUTF16", "putCharSB", "([BII)V"⟩ ∈ jk_WS := jk_wt7 (i := 42) (by decide +kernel) rfl
theorem jw_1483 : Cond.code ⟨"java/lang/StringUTF16", "putCharSB", "([BII)V"⟩ prog_37_method_71_code 3 (Option.none : Option ClassFile.FieldType) ∈ jk_WS := jk_wt7 (i := 43) (by decide +kernel) rfl
theorem jw_1484 : Cond.methodLink "java/lang/StringUTF16" 67 ⟨"java/lang/StringUTF16", "checkIndex", "(I[B)V"⟩ ∈ jk_WS := jk_wt7 (i := 44) (by decide +kernel) rfl
theorem jw_1485 : Cond.static ⟨"java/lang/StringUTF16", "checkIndex", "(I[B)V"⟩ ∈ jk_WS := jk_wt7 (i := 45) (by decide +kernel) rfl
theorem jw_1486 : Cond.code ⟨"java/lang/StringUTF16", "checkIndex", "(I[B)V"⟩ prog_37_method_91_code 2 (Option.none : Option ClassFile.FieldType) ∈ jk_WS := jk_wt7 (i := 46) (by decide +kernel) rfl
theorem jw_1487 : Cond.methodLink "java/lang/StringUTF16" 414 ⟨"java/lang/String", "checkIndex", "(II)V"⟩ ∈ jk_WS := jk_wt7 (i := 47) (by decide +kernel) rfl
theorem jw_1488 : Cond.static ⟨"java/lang/String", "checkIndex", "(II)V"⟩ ∈ jk_WS := jk_wt7 (i := 48) (by decide +kernel) rfl
theorem jw_1489 : Cond.code ⟨"java/lang/String", "checkIndex", "(II)V"⟩ prog_33_method_155_code 2 (Option.none : Option ClassFile.FieldType) ∈ jk_WS := jk_wt7 (i := 49) (by decide +kernel) rfl
theorem jw_1490 : Cond.methodLink "java/lang/String" 1059 ⟨"jdk/internal/util/Preconditions", "checkIndex", "(IILjava/util/function/BiFunction;)I"⟩ ∈ jk_WS := jk_wt7 (i := 50) (by decide +kernel) rfl
theorem jw_1491 : Cond.static ⟨"jdk/internal/util/Preconditions", "checkIndex", "(IILjava/util/function/BiFunction;)I"⟩ ∈ jk_WS := jk_wt7 (i := 51) (by decide +kernel) rfl
theorem jw_1492 : Cond.code ⟨"jdk/internal/util/Preconditions", "checkIndex", "(IILjava/util/function/BiFunction;)I"⟩ prog_46_method_11_code 3 (Option.some ClassFile.FieldType.int) ∈ jk_WS := jk_wt7 (i := 52) (by decide +kernel) rfl
theorem jw_1493 : Cond.methodLink "LevelingNetwork" 361 ⟨"LevelingNetwork$Survey", "corrected", "(I)I"⟩ ∈ jk_WS := jk_wt7 (i := 53) (by decide +kernel) rfl
theorem jw_1494 : Cond.methodLink "LevelingNetwork" 364 ⟨"LevelingNetwork", "markOf", "(I)C"⟩ ∈ jk_WS := jk_wt7 (i := 54) (by decide +kernel) rfl
theorem jw_1496 : Cond.instanceMethod ⟨"LevelingNetwork", "markOf", "(I)C"⟩ ∈ jk_WS := jk_wt7 (i := 56) (by decide +kernel) rfl
theorem jw_1497 : Cond.code ⟨"LevelingNetwork", "markOf", "(I)C"⟩ prog_1_method_73_code 2 (Option.some ClassFile.FieldType.char) ∈ jk_WS := jk_wt7 (i := 57) (by decide +kernel) rfl
theorem jw_1498 : Cond.methodLink "LevelingNetwork" 368 ⟨"java/lang/StringBuilder", "length", "()I"⟩ ∈ jk_WS := jk_wt7 (i := 58) (by decide +kernel) rfl
theorem jw_1499 : Cond.methodLink "LevelingNetworkLaw" 316 ⟨"LevelingNetwork", "renderBenchmark", "(I)I"⟩ ∈ jk_WS := jk_wt7 (i := 59) (by decide +kernel) rfl
theorem jw_1500 : Cond.instanceMethod ⟨"LevelingNetwork", "renderBenchmark", "(I)I"⟩ ∈ jk_WS := jk_wt7 (i := 60) (by decide +kernel) rfl
theorem jw_1501 : Cond.selects "LevelingNetwork" ⟨"LevelingNetwork", "renderBenchmark", "(I)I"⟩ ⟨"LevelingNetwork", "renderBenchmark", "(I)I"⟩ ∈ jk_WS := jk_wt7 (i := 61) (by decide +kernel) rfl
theorem jw_1502 : Cond.code ⟨"LevelingNetwork", "renderBenchmark", "(I)I"⟩ prog_1_method_56_code 2 (Option.some ClassFile.FieldType.int) ∈ jk_WS := jk_wt7 (i := 62) (by decide +kernel) rfl
theorem jw_1503 : Cond.methodLink "LevelingNetworkLaw" 218 ⟨"LevelingNetwork", "runScript", "()I"⟩ ∈ jk_WS := jk_wt7 (i := 63) (by decide +kernel) rfl
theorem jw_1504 : Cond.instanceMethod ⟨"LevelingNetwork", "runScript", "()I"⟩ ∈ jk_WS := jk_wt7 (i := 64) (by decide +kernel) rfl
theorem jw_1505 : Cond.selects "LevelingNetwork" ⟨"LevelingNetwork", "runScript", "()I"⟩ ⟨"LevelingNetwork", "runScript", "()I"⟩ ∈ jk_WS := jk_wt7 (i := 65) (by decide +kernel) rfl
theorem jw_1506 : Cond.code ⟨"LevelingNetwork", "runScript", "()I"⟩ prog_1_method_59_code 3 (Option.some ClassFile.FieldType.int) ∈ jk_WS := jk_wt7 (i := 66) (by decide +kernel) rfl
theorem jw_1507 : Cond.methodLink "LevelingNetwork" 390 ⟨"LevelingNetwork$Script", "read", "()Z"⟩ ∈ jk_WS := jk_wt7 (i := 67) (by decide +kernel) rfl
theorem jw_1508 : Cond.instanceMethod ⟨"LevelingNetwork$Script", "read", "()Z"⟩ ∈ jk_WS := jk_wt7 (i := 68) (by decide +kernel) rfl
theorem jw_1509 : Cond.selects "LevelingNetwork$Script" ⟨"LevelingNetwork$Script", "read", "()Z"⟩ ⟨"LevelingNetwork$Script", "read", "()Z"⟩ ∈ jk_WS := jk_wt7 (i := 69) (by decide +kernel) rfl
theorem jw_1510 : Cond.code ⟨"LevelingNetwork$Script", "read", "()Z"⟩ prog_9_method_3_code 3 (Option.some ClassFile.FieldType.boolean) ∈ jk_WS := jk_wt7 (i := 70) (by decide +kernel) rfl
theorem jw_1511 : Cond.methodLink "LevelingNetwork$Script" 36 ⟨"LevelingNetwork$Script", "readCommand", "()Z"⟩ ∈ jk_WS := jk_wt7 (i := 71) (by decide +kernel) rfl
theorem jw_1513 : Cond.instanceMethod ⟨"LevelingNetwork$Script", "readCommand", "()Z"⟩ ∈ jk_WS := jk_wt7 (i := 73) (by decide +kernel) rfl
theorem jw_1514 : Cond.code ⟨"LevelingNetwork$Script", "readCommand", "()Z"⟩ prog_9_method_4_code 2 (Option.some ClassFile.FieldType.boolean) ∈ jk_WS := jk_wt7 (i := 74) (by decide +kernel) rfl
theorem jw_1515 : Cond.methodLink "LevelingNetwork$Script" 44 ⟨"LevelingNetwork$Script", "readWord", "()LLevelingNetwork$Kind;"⟩ ∈ jk_WS := jk_wt7 (i := 75) (by decide +kernel) rfl
theorem jw_1517 : Cond.instanceMethod ⟨"LevelingNetwork$Script", "readWord", "()LLevelingNetwork$Kind;"⟩ ∈ jk_WS := jk_wt7 (i := 77) (by decide +kernel) rfl
theorem jw_1518 : Cond.code ⟨"LevelingNetwork$Script", "readWord", "()LLevelingNetwork$Kind;"⟩ prog_9_method_5_code 4 (Option.some (ClassFile.FieldType.object "LevelingNetwork$Kind")) ∈ jk_WS := jk_wt7 (i := 78) (by decide +kernel) rfl
theorem jw_1519 : Cond.fieldLinkNest "LevelingNetwork$Script" 56 "LevelingNetwork" "KINDS" "[LLevelingNetwork$Kind;" "LevelingNetwork" ∈ jk_WS := jk_wt7 (i := 79) (by decide +kernel) rfl
theorem jw_1521 : Cond.methodLink "LevelingNetwork$Script" 62 ⟨"LevelingNetwork$Script", "fittingSigns", "(Ljava/lang/String;)I"⟩ ∈ jk_WS := jk_wt7 (i := 81) (by decide +kernel) rfl
theorem jw_1523 : Cond.instanceMethod ⟨"LevelingNetwork$Script", "fittingSigns", "(Ljava/lang/String;)I"⟩ ∈ jk_WS := jk_wt7 (i := 83) (by decide +kernel) rfl
theorem jw_1524 : Cond.code ⟨"LevelingNetwork$Script", "fittingSigns", "(Ljava/lang/String;)I"⟩ prog_9_method_6_code 4 (Option.some ClassFile.FieldType.int) ∈ jk_WS := jk_wt7 (i := 84) (by decide +kernel) rfl
theorem jw_1525 : Cond.methodLink "LevelingNetwork$Script" 66 ⟨"java/lang/String", "length", "()I"⟩ ∈ jk_WS := jk_wt7 (i := 85) (by decide +kernel) rfl
theorem jw_1526 : Cond.methodLink "LevelingNetwork$Script" 78 ⟨"LevelingNetwork$Script", "signAt", "(I)C"⟩ ∈ jk_WS := jk_wt7 (i := 86) (by decide +kernel) rfl
theorem jw_1528 : Cond.instanceMethod ⟨"LevelingNetwork$Script", "signAt", "(I)C"⟩ ∈ jk_WS := jk_wt7 (i := 88) (by decide +kernel) rfl
theorem jw_1529 : Cond.code ⟨"LevelingNetwork$Script", "signAt", "(I)C"⟩ prog_9_method_11_code 2 (Option.some ClassFile.FieldType.char) ∈ jk_WS := jk_wt7 (i := 89) (by decide +kernel) rfl
theorem jw_1530 : Cond.methodLink "LevelingNetwork$Script" 82 ⟨"java/lang/String", "charAt", "(I)C"⟩ ∈ jk_WS := jk_wt7 (i := 90) (by decide +kernel) rfl
theorem jw_1531 : Cond.instanceMethod ⟨"java/lang/String", "charAt", "(I)C"⟩ ∈ jk_WS := jk_wt7 (i := 91) (by decide +kernel) rfl
theorem jw_1532 : Cond.selects "java/lang/String" ⟨"java/lang/String", "charAt", "(I)C"⟩ ⟨"java/lang/String", "charAt", "(I)C"⟩ ∈ jk_WS := jk_wt7 (i := 92) (by decide +kernel) rfl
theorem jw_1533 : Cond.code ⟨"java/lang/String", "charAt", "(I)C"⟩ prog_33_method_56_code 2 (Option.some ClassFile.FieldType.char) ∈ jk_WS := jk_wt7 (i := 93) (by decide +kernel) rfl
theorem jw_1534 : Cond.methodLink "java/lang/String" 492 ⟨"java/lang/String", "isLatin1", "()Z"⟩ ∈ jk_WS := jk_wt7 (i := 94) (by decide +kernel) rfl
theorem jw_1535 : Cond.instanceMethod ⟨"java/lang/String", "isLatin1", "()Z"⟩ ∈ jk_WS := jk_wt7 (i := 95) (by decide +kernel) rfl
theorem jw_1536 : Cond.selects "java/lang/String" ⟨"java/lang/String", "isLatin1", "()Z"⟩ ⟨"java/lang/String", "isLatin1", "()Z"⟩ ∈ jk_WS := jk_wt7 (i := 96) (by decide +kernel) rfl
theorem jw_1537 : Cond.code ⟨"java/lang/String", "isLatin1", "()Z"⟩ prog_33_method_154_code 1 (Option.some ClassFile.FieldType.boolean) ∈ jk_WS := jk_wt7 (i := 97) (by decide +kernel) rfl
theorem jw_1538 : Cond.methodLink "java/lang/String" 495 ⟨"java/lang/StringLatin1", "charAt", "([BI)C"⟩ ∈ jk_WS := jk_wt7 (i := 98) (by decide +kernel) rfl
theorem jw_1539 : Cond.static ⟨"java/lang/StringLatin1", "charAt", "([BI)C"⟩ ∈ jk_WS := jk_wt7 (i := 99) (by decide +kernel) rfl
theorem jw_1540 : Cond.code ⟨"java/lang/StringLatin1", "charAt", "([BI)C"⟩ prog_36_method_2_code 2 (Option.some ClassFile.FieldType.char) ∈ jk_WS := jk_wt7 (i := 100) (by decide +kernel) rfl
theorem jw_1541 : Cond.methodLink "java/lang/StringLatin1" 9 ⟨"java/lang/String", "checkIndex", "(II)V"⟩ ∈ jk_WS := jk_wt7 (i := 101) (by decide +kernel) rfl
theorem jw_1542 : Cond.methodLink "java/lang/String" 498 ⟨"java/lang/StringUTF16", "charAt", "([BI)C"⟩ ∈ jk_WS := jk_wt7 (i := 102) (by decide +kernel) rfl
theorem jw_1543 : Cond.static ⟨"java/lang/StringUTF16", "charAt", "([BI)C"⟩ ∈ jk_WS := jk_wt7 (i := 103) (by decide +kernel) rfl
theorem jw_1544 : Cond.code ⟨"java/lang/StringUTF16", "charAt", "([BI)C"⟩ prog_37_method_83_code 2 (Option.some ClassFile.FieldType.char) ∈ jk_WS := jk_wt7 (i := 104) (by decide +kernel) rfl
theorem jw_1545 : Cond.methodLink "LevelingNetwork$Script" 72 ⟨"java/lang/Math", "max", "(II)I"⟩ ∈ jk_WS := jk_wt7 (i := 105) (by decide +kernel) rfl
theorem jw_1546 : Cond.methodLink "LevelingNetwork$Script" 52 ⟨"LevelingNetwork$Script", "readForm", "(Ljava/lang/String;[I)Z"⟩ ∈ jk_WS := jk_wt7 (i := 106) (by decide +kernel) rfl
theorem jw_1548 : Cond.instanceMethod ⟨"LevelingNetwork$Script", "readForm", "(Ljava/lang/String;[I)Z"⟩ ∈ jk_WS := jk_wt7 (i := 108) (by decide +kernel) rfl
theorem jw_1549 : Cond.code ⟨"LevelingNetwork$Script", "readForm", "(Ljava/lang/String;[I)Z"⟩ prog_9_method_7_code 8 (Option.some ClassFile.FieldType.boolean) ∈ jk_WS := jk_wt7 (i := 109) (by decide +kernel) rfl
theorem jw_1550 : Cond.methodLink "LevelingNetwork$Script" 85 ⟨"LevelingNetwork$Script", "mostDigits", "(C)I"⟩ ∈ jk_WS := jk_wt7 (i := 110) (by decide +kernel) rfl
theorem jw_1551 : Cond.static ⟨"LevelingNetwork$Script", "mostDigits", "(C)I"⟩ ∈ jk_WS := jk_wt7 (i := 111) (by decide +kernel) rfl
theorem jw_1552 : Cond.code ⟨"LevelingNetwork$Script", "mostDigits", "(C)I"⟩ prog_9_method_8_code 1 (Option.some ClassFile.FieldType.int) ∈ jk_WS := jk_wt7 (i := 112) (by decide +kernel) rfl
theorem jw_1553 : Cond.methodLink "LevelingNetwork$Script" 40 ⟨"LevelingNetwork$Script", "readSign", "(C)Z"⟩ ∈ jk_WS := jk_wt7 (i := 113) (by decide +kernel) rfl
theorem jw_1555 : Cond.instanceMethod ⟨"LevelingNetwork$Script", "readSign", "(C)Z"⟩ ∈ jk_WS := jk_wt7 (i := 115) (by decide +kernel) rfl
theorem jw_1556 : Cond.code ⟨"LevelingNetwork$Script", "readSign", "(C)Z"⟩ prog_9_method_10_code 3 (Option.some ClassFile.FieldType.boolean) ∈ jk_WS := jk_wt7 (i := 116) (by decide +kernel) rfl
theorem jw_1557 : Cond.methodLink "LevelingNetwork$Script" 89 ⟨"LevelingNetwork$Script", "readArgument", "(IZ[II)Z"⟩ ∈ jk_WS := jk_wt7 (i := 117) (by decide +kernel) rfl
theorem jw_1559 : Cond.instanceMethod ⟨"LevelingNetwork$Script", "readArgument", "(IZ[II)Z"⟩ ∈ jk_WS := jk_wt7 (i := 119) (by decide +kernel) rfl
theorem jw_1560 : Cond.code ⟨"LevelingNetwork$Script", "readArgument", "(IZ[II)Z"⟩ prog_9_method_9_code 8 (Option.some ClassFile.FieldType.boolean) ∈ jk_WS := jk_wt7 (i := 120) (by decide +kernel) rfl
theorem jw_1561 : Cond.methodLinkNest "LevelingNetwork$Script" 93 ⟨"LevelingNetwork", "within", "(III)Z"⟩ "LevelingNetwork" ∈ jk_WS := jk_wt7 (i := 121) (by decide +kernel) rfl
theorem jw_1563 : Cond.methodLink "LevelingNetwork" 398 ⟨"LevelingNetwork$Survey", "copyFrom", "(LLevelingNetwork$Survey;)V"⟩ ∈ jk_WS := jk_wt7 (i := 123) (by decide +kernel) rfl
theorem jw_1564 : Cond.methodLink "LevelingNetwork" 401 ⟨"LevelingNetwork", "firstFailure", "()I"⟩ ∈ jk_WS := jk_wt7 (i := 124) (by decide +kernel) rfl
theorem jw_1566 : Cond.instanceMethod ⟨"LevelingNetwork", "firstFailure", "()I"⟩ ∈ jk_WS := jk_wt7 (i := 126) (by decide +kernel) rfl
theorem jw_1567 : Cond.code ⟨"LevelingNetwork", "firstFailure", "()I"⟩ prog_1_method_77_code 4 (Option.some ClassFile.FieldType.int) ∈ jk_WS := jk_wt7 (i := 127) (by decide +kernel) rfl
theorem jw_1568 : Cond.fieldLink "LevelingNetwork" 491 "LevelingNetwork$Trouble" "NOTHING" "LLevelingNetwork$Trouble;" ∈ jk_WS := jk_wt7 (i := 128) (by decide +kernel) rfl
theorem jw_1570 : Cond.methodLink "LevelingNetworkLaw" 233 ⟨"LevelingNetwork", "failedCommand", "()I"⟩ ∈ jk_WS := jk_wt7 (i := 130) (by decide +kernel) rfl
theorem jw_1571 : Cond.instanceMethod ⟨"LevelingNetwork", "failedCommand", "()I"⟩ ∈ jk_WS := jk_wt7 (i := 131) (by decide +kernel) rfl
theorem jw_1572 : Cond.selects "LevelingNetwork" ⟨"LevelingNetwork", "failedCommand", "()I"⟩ ⟨"LevelingNetwork", "failedCommand", "()I"⟩ ∈ jk_WS := jk_wt7 (i := 132) (by decide +kernel) rfl
theorem jw_1573 : Cond.code ⟨"LevelingNetwork", "failedCommand", "()I"⟩ prog_1_method_61_code 1 (Option.some ClassFile.FieldType.int) ∈ jk_WS := jk_wt7 (i := 133) (by decide +kernel) rfl
theorem jw_1575 : Cond.methodLink "LevelingNetworkLaw" 225 ⟨"LevelingNetwork", "undo", "()I"⟩ ∈ jk_WS := jk_wt7 (i := 135) (by decide +kernel) rfl
theorem jw_1576 : Cond.instanceMethod ⟨"LevelingNetwork", "undo", "()I"⟩ ∈ jk_WS := jk_wt7 (i := 136) (by decide +kernel) rfl
theorem jw_1577 : Cond.selects "LevelingNetwork" ⟨"LevelingNetwork", "undo", "()I"⟩ ⟨"LevelingNetwork", "undo", "()I"⟩ ∈ jk_WS := jk_wt7 (i := 137) (by decide +kernel) rfl
theorem jw_1578 : Cond.code ⟨"LevelingNetwork", "undo", "()I"⟩ prog_1_method_62_code 1 (Option.some ClassFile.FieldType.int) ∈ jk_WS := jk_wt7 (i := 138) (by decide +kernel) rfl
theorem jw_1580 : Cond.methodLink "LevelingNetwork" 419 ⟨"LevelingNetwork$History", "popInto", "(LLevelingNetwork$Survey;)V"⟩ ∈ jk_WS := jk_wt7 (i := 140) (by decide +kernel) rfl
theorem jw_1581 : Cond.instanceMethod ⟨"LevelingNetwork$History", "popInto", "(LLevelingNetwork$Survey;)V"⟩ ∈ jk_WS := jk_wt7 (i := 141) (by decide +kernel) rfl
theorem jw_1582 : Cond.selects "LevelingNetwork$History" ⟨"LevelingNetwork$History", "popInto", "(LLevelingNetwork$Survey;)V"⟩ ⟨"LevelingNetwork$History", "popInto", "(LLevelingNetwork$Survey;)V"⟩ ∈ jk_WS := jk_wt7 (i := 142) (by decide +kernel) rfl
theorem jw_1583 : Cond.code ⟨"LevelingNetwork$History", "popInto", "(LLevelingNetwork$Survey;)V"⟩ prog_7_method_3_code 2 (Option.none : Option ClassFile.FieldType) ∈ jk_WS := jk_wt7 (i := 143) (by decide +kernel) rfl
theorem jw_1584 : Cond.methodLink "LevelingNetworkLaw" 205 ⟨"LevelingNetwork", "save", "()I"⟩ ∈ jk_WS := jk_wt7 (i := 144) (by decide +kernel) rfl
theorem jw_1585 : Cond.instanceMethod ⟨"LevelingNetwork", "save", "()I"⟩ ∈ jk_WS := jk_wt7 (i := 145) (by decide +kernel) rfl
theorem jw_1586 : Cond.selects "LevelingNetwork" ⟨"LevelingNetwork", "save", "()I"⟩ ⟨"LevelingNetwork", "save", "()I"⟩ ∈ jk_WS := jk_wt7 (i := 146) (by decide +kernel) rfl
theorem jw_1587 : Cond.code ⟨"LevelingNetwork", "save", "()I"⟩ prog_1_method_63_code 1 (Option.some ClassFile.FieldType.int) ∈ jk_WS := jk_wt7 (i := 147) (by decide +kernel) rfl
theorem jw_1588 : Cond.methodLink "LevelingNetworkLaw" 341 ⟨"LevelingNetwork", "restore", "()I"⟩ ∈ jk_WS := jk_wt7 (i := 148) (by decide +kernel) rfl
theorem jw_1589 : Cond.instanceMethod ⟨"LevelingNetwork", "restore", "()I"⟩ ∈ jk_WS := jk_wt7 (i := 149) (by decide +kernel) rfl
theorem jw_1590 : Cond.selects "LevelingNetwork" ⟨"LevelingNetwork", "restore", "()I"⟩ ⟨"LevelingNetwork", "restore", "()I"⟩ ∈ jk_WS := jk_wt7 (i := 150) (by decide +kernel) rfl
theorem jw_1591 : Cond.code ⟨"LevelingNetwork", "restore", "()I"⟩ prog_1_method_64_code 1 (Option.some ClassFile.FieldType.int) ∈ jk_WS := jk_wt7 (i := 151) (by decide +kernel) rfl
theorem jw_1593 : Cond.methodLink "LevelingNetworkLaw" 24 ⟨"LevelingNetworkLaw", "at", "([II)I"⟩ ∈ jk_WS := jk_wt7 (i := 153) (by decide +kernel) rfl
theorem jw_1594 : Cond.static ⟨"LevelingNetworkLaw", "at", "([II)I"⟩ ∈ jk_WS := jk_wt7 (i := 154) (by decide +kernel) rfl
theorem jw_1595 : Cond.code ⟨"LevelingNetworkLaw", "at", "([II)I"⟩ method_2_code 2 (Option.some ClassFile.FieldType.int) ∈ jk_WS := jk_wt7 (i := 155) (by decide +kernel) rfl
theorem jw_1596 : Cond.methodLink "LevelingNetworkLaw" 214 ⟨"LevelingNetworkLaw", "put", "(LLevelingNetwork;Ljava/lang/String;)V"⟩ ∈ jk_WS := jk_wt7 (i := 156) (by decide +kernel) rfl
theorem jw_1597 : Cond.static ⟨"LevelingNetworkLaw", "put", "(LLevelingNetwork;Ljava/lang/String;)V"⟩ ∈ jk_WS := jk_wt7 (i := 157) (by decide +kernel) rfl
theorem jw_1598 : Cond.code ⟨"LevelingNetworkLaw", "put", "(LLevelingNetwork;Ljava/lang/String;)V"⟩ method_3_code 3 (Option.none : Option ClassFile.FieldType) ∈ jk_WS := jk_wt7 (i := 158) (by decide +kernel) rfl
theorem jw_1599 : Cond.methodLink "LevelingNetworkLaw" 7 ⟨"java/lang/String", "length", "()I"⟩ ∈ jk_WS := jk_wt7 (i := 159) (by decide +kernel) rfl
theorem jw_1600 : Cond.methodLink "LevelingNetworkLaw" 13 ⟨"java/lang/String", "charAt", "(I)C"⟩ ∈ jk_WS := jk_wt7 (i := 160) (by decide +kernel) rfl
theorem jw_1601 : Cond.methodLink "LevelingNetworkLaw" 17 ⟨"LevelingNetwork", "type", "(C)I"⟩ ∈ jk_WS := jk_wt7 (i := 161) (by decide +kernel) rfl
theorem jw_1602 : Cond.instanceMethod ⟨"LevelingNetwork", "type", "(C)I"⟩ ∈ jk_WS := jk_wt7 (i := 162) (by decide +kernel) rfl
theorem jw_1603 : Cond.selects "LevelingNetwork" ⟨"LevelingNetwork", "type", "(C)I"⟩ ⟨"LevelingNetwork", "type", "(C)I"⟩ ∈ jk_WS := jk_wt7 (i := 163) (by decide +kernel) rfl
theorem jw_1604 : Cond.code ⟨"LevelingNetwork", "type", "(C)I"⟩ prog_1_method_58_code 2 (Option.some ClassFile.FieldType.int) ∈ jk_WS := jk_wt7 (i := 164) (by decide +kernel) rfl
theorem jw_1607 : Cond.methodLink "LevelingNetwork" 386 ⟨"LevelingNetwork$Script", "add", "(C)V"⟩ ∈ jk_WS := jk_wt7 (i := 167) (by decide +kernel) rfl
theorem jw_1608 : Cond.instanceMethod ⟨"LevelingNetwork$Script", "add", "(C)V"⟩ ∈ jk_WS := jk_wt7 (i := 168) (by decide +kernel) rfl
theorem jw_1609 : Cond.selects "LevelingNetwork$Script" ⟨"LevelingNetwork$Script", "add", "(C)V"⟩ ⟨"LevelingNetwork$Script", "add", "(C)V"⟩ ∈ jk_WS := jk_wt7 (i := 169) (by decide +kernel) rfl
theorem jw_1610 : Cond.code ⟨"LevelingNetwork$Script", "add", "(C)V"⟩ prog_9_method_2_code 2 (Option.none : Option ClassFile.FieldType) ∈ jk_WS := jk_wt7 (i := 170) (by decide +kernel) rfl
theorem jw_1611 : Cond.methodLink "LevelingNetworkLaw" 201 ⟨"LevelingNetworkLaw", "build", "([I)LLevelingNetwork;"⟩ ∈ jk_WS := jk_wt7 (i := 171) (by decide +kernel) rfl
theorem jw_1612 : Cond.static ⟨"LevelingNetworkLaw", "build", "([I)LLevelingNetwork;"⟩ ∈ jk_WS := jk_wt7 (i := 172) (by decide +kernel) rfl
theorem jw_1613 : Cond.code ⟨"LevelingNetworkLaw", "build", "([I)LLevelingNetwork;"⟩ method_4_code 10 (Option.some (ClassFile.FieldType.object "LevelingNetwork")) ∈ jk_WS := jk_wt7 (i := 173) (by decide +kernel) rfl
theorem jw_1614 : Cond.methodLink "LevelingNetworkLaw" 30 ⟨"LevelingNetworkLaw", "act", "(LLevelingNetwork;IIII)I"⟩ ∈ jk_WS := jk_wt7 (i := 174) (by decide +kernel) rfl
theorem jw_1615 : Cond.static ⟨"LevelingNetworkLaw", "act", "(LLevelingNetwork;IIII)I"⟩ ∈ jk_WS := jk_wt7 (i := 175) (by decide +kernel) rfl
theorem jw_1616 : Cond.codeWith ⟨"LevelingNetworkLaw", "act", "(LLevelingNetwork;IIII)I"⟩ method_6_code 6 (Option.some ClassFile.FieldType.int) [(0, 116, 268, 57), (117, 123, 268, 57), (124, 129, 268, 57), (130, 136, 268, 57), (137, 142, 268, 57), (143, 148, 268, 57), (149, 154, 268, 57), (155, 160, 268, 57), (161, 169, 268, 57), (170, 175, 268, 57), (176, 181, 268, 57), (182, 187, 268, 57), (188, 193, 268, 57), (194, 199, 268, 57), (200, 206, 268, 57), (207, 212, 268, 57), (213, 218, 268, 57), (219, 224, 268, 57), (225, 230, 268, 57), (231, 236, 268, 57), (237, 242, 268, 57), (243, 248, 268, 57), (249, 254, 268, 57), (255, 261, 268, 57), (262, 267, 268, 57), (0, 116, 273, 60), (117, 123, 273, 60), (124, 129, 273, 60), (130, 136, 273, 60), (137, 142, 273, 60), (143, 148, 273, 60), (149, 154, 273, 60), (155, 160, 273, 60), (161, 169, 273, 60), (170, 175, 273, 60), (176, 181, 273, 60), (182, 187, 273, 60), (188, 193, 273, 60), (194, 199, 273, 60), (200, 206, 273, 60), (207, 212, 273, 60), (213, 218, 273, 60), (219, 224, 273, 60), (225, 230, 273, 60), (231, 236, 273, 60), (237, 242, 273, 60), (243, 248, 273, 60), (249, 254, 273, 60), (255, 261, 273, 60), (262, 267, 273, 60), (0, 116, 278, 63), (117, 123, 278, 63), (124, 129, 278, 63), (130, 136, 278, 63), (137, 142, 278, 63), (143, 148, 278, 63), (149, 154, 278, 63), (155, 160, 278, 63), (161, 169, 278, 63), (170, 175, 278, 63), (176, 181, 278, 63), (182, 187, 278, 63), (188, 193, 278, 63), (194, 199, 278, 63), (200, 206, 278, 63), (207, 212, 278, 63), (213, 218, 278, 63), (219, 224, 278, 63), (225, 230, 278, 63), (231, 236, 278, 63), (237, 242, 278, 63), (243, 248, 278, 63), (249, 254, 278, 63), (255, 261, 278, 63), (262, 267, 278, 63), (0, 116, 283, 142), (117, 123, 283, 142), (124, 129, 283, 142), (130, 136, 283, 142), (137, 142, 283, 142), (143, 148, 283, 142), (149, 154, 283, 142), (155, 160, 283, 142), (161, 169, 283, 142), (170, 175, 283, 142), (176, 181, 283, 142), (182, 187, 283, 142), (188, 193, 283, 142), (194, 199, 283, 142), (200, 206, 283, 142), (207, 212, 283, 142), (213, 218, 283, 142), (219, 224, 283, 142), (225, 230, 283, 142), (231, 236, 283, 142), (237, 242, 283, 142), (243, 248, 283, 142), (249, 254, 283, 142), (255, 261, 283, 142), (262, 267, 283, 142), (0, 116, 288, 145), (117, 123, 288, 145), (124, 129, 288, 145), (130, 136, 288, 145), (137, 142, 288, 145), (143, 148, 288, 145), (149, 154, 288, 145), (155, 160, 288, 145), (161, 169, 288, 145), (170, 175, 288, 145), (176, 181, 288, 145), (182, 187, 288, 145), (188, 193, 288, 145), (194, 199, 288, 145), (200, 206, 288, 145), (207, 212, 288, 145), (213, 218, 288, 145), (219, 224, 288, 145), (225, 230, 288, 145), (231, 236, 288, 145), (237, 242, 288, 145), (243, 248, 288, 145), (249, 254, 288, 145), (255, 261, 288, 145), (262, 267, 288, 145)] ∈ jk_WS := jk_wt7 (i := 176) (by decide +kernel) rfl
theorem jw_1617 : Cond.classLink "LevelingNetworkLaw" 57 "java/lang/IndexOutOfBoundsException" ∈ jk_WS := jk_wt7 (i := 177) (by decide +kernel) rfl
theorem jw_1618 : Cond.instanceMethod ⟨"java/lang/ArrayIndexOutOfBoundsException", "<init>", "(Ljava/lang/String;)V"⟩ ∈ jk_WS := jk_wt7 (i := 178) (by decide +kernel) rfl
theorem jw_1619 : Cond.code ⟨"java/lang/ArrayIndexOutOfBoundsException", "<init>", "(Ljava/lang/String;)V"⟩ prog_20_method_2_code 2 (Option.none : Option ClassFile.FieldType) ∈ jk_WS := jk_wt7 (i := 179) (by decide +kernel) rfl
theorem jw_1620 : Cond.classLink "LevelingNetworkLaw" 60 "java/lang/IllegalArgumentException" ∈ jk_WS := jk_wt7 (i := 180) (by decide +kernel) rfl
theorem jw_1621 : Cond.classLink "LevelingNetworkLaw" 63 "java/lang/IllegalStateException" ∈ jk_WS := jk_wt7 (i := 181) (by decide +kernel) rfl
theorem jw_1622 : Cond.classLink "LevelingNetworkLaw" 142 "java/lang/UnsupportedOperationException" ∈ jk_WS := jk_wt7 (i := 182) (by decide +kernel) rfl
theorem jw_1623 : Cond.classLink "LevelingNetworkLaw" 145 "java/util/NoSuchElementException" ∈ jk_WS := jk_wt7 (i := 183) (by decide +kernel) rfl
theorem jw_1624 : Cond.methodLink "LevelingNetworkLaw" 87 ⟨"LevelingNetwork", "addProfile", "(I)I"⟩ ∈ jk_WS := jk_wt7 (i := 184) (by decide +kernel) rfl
theorem jw_1625 : Cond.instanceMethod ⟨"LevelingNetwork", "addProfile", "(I)I"⟩ ∈ jk_WS := jk_wt7 (i := 185) (by decide +kernel) rfl
theorem jw_1626 : Cond.selects "LevelingNetwork" ⟨"LevelingNetwork", "addProfile", "(I)I"⟩ ⟨"LevelingNetwork", "addProfile", "(I)I"⟩ ∈ jk_WS := jk_wt7 (i := 186) (by decide +kernel) rfl
theorem jw_1627 : Cond.code ⟨"LevelingNetwork", "addProfile", "(I)I"⟩ prog_1_method_11_code 2 (Option.some ClassFile.FieldType.int) ∈ jk_WS := jk_wt7 (i := 187) (by decide +kernel) rfl
theorem jw_1628 : Cond.fieldLink "LevelingNetwork" 132 "LevelingNetwork$Kind" "PROFILE" "LLevelingNetwork$Kind;" ∈ jk_WS := jk_wt7 (i := 188) (by decide +kernel) rfl
theorem jw_1630 : Cond.methodLink "LevelingNetworkLaw" 90 ⟨"LevelingNetwork", "addStation", "(III)I"⟩ ∈ jk_WS := jk_wt7 (i := 190) (by decide +kernel) rfl
theorem jw_1631 : Cond.instanceMethod ⟨"LevelingNetwork", "addStation", "(III)I"⟩ ∈ jk_WS := jk_wt7 (i := 191) (by decide +kernel) rfl
theorem jw_1632 : Cond.selects "LevelingNetwork" ⟨"LevelingNetwork", "addStation", "(III)I"⟩ ⟨"LevelingNetwork", "addStation", "(III)I"⟩ ∈ jk_WS := jk_wt7 (i := 192) (by decide +kernel) rfl
theorem jw_1633 : Cond.code ⟨"LevelingNetwork", "addStation", "(III)I"⟩ prog_1_method_12_code 4 (Option.some ClassFile.FieldType.int) ∈ jk_WS := jk_wt7 (i := 193) (by decide +kernel) rfl
theorem jw_1634 : Cond.fieldLink "LevelingNetwork" 135 "LevelingNetwork$Kind" "STATION" "LLevelingNetwork$Kind;" ∈ jk_WS := jk_wt7 (i := 194) (by decide +kernel) rfl
theorem jw_1636 : Cond.constant "LevelingNetworkLaw" 59 (-200001 : Int32) ∈ jk_WS := jk_wt7 (i := 196) (by decide +kernel) rfl
theorem jw_1637 : Cond.constant "LevelingNetworkLaw" 62 (-200002 : Int32) ∈ jk_WS := jk_wt7 (i := 197) (by decide +kernel) rfl
theorem jw_1638 : Cond.constant "LevelingNetworkLaw" 65 (-200003 : Int32) ∈ jk_WS := jk_wt7 (i := 198) (by decide +kernel) rfl
theorem jw_1639 : Cond.constant "LevelingNetworkLaw" 144 (-200004 : Int32) ∈ jk_WS := jk_wt7 (i := 199) (by decide +kernel) rfl
theorem jw_1640 : Cond.constant "LevelingNetworkLaw" 147 (-200005 : Int32) ∈ jk_WS := jk_wt7 (i := 200) (by decide +kernel) rfl
theorem jw_1641 : Cond.methodLink "LevelingNetworkLaw" 34 ⟨"LevelingNetworkLaw", "line", "(LLevelingNetwork;IIII)I"⟩ ∈ jk_WS := jk_wt7 (i := 201) (by decide +kernel) rfl
theorem jw_1642 : Cond.static ⟨"LevelingNetworkLaw", "line", "(LLevelingNetwork;IIII)I"⟩ ∈ jk_WS := jk_wt7 (i := 202) (by decide +kernel) rfl
theorem jw_1643 : Cond.codeWith ⟨"LevelingNetworkLaw", "line", "(LLevelingNetwork;IIII)I"⟩ method_5_code 6 (Option.some ClassFile.FieldType.int) [(0, 9, 10, 57), (0, 9, 15, 60), (0, 9, 20, 63)] ∈ jk_WS := jk_wt7 (i := 203) (by decide +kernel) rfl
theorem jw_1644 : Cond.methodLink "LevelingNetworkLaw" 53 ⟨"LevelingNetwork", "addLine", "(IIII)I"⟩ ∈ jk_WS := jk_wt7 (i := 204) (by decide +kernel) rfl
theorem jw_1645 : Cond.instanceMethod ⟨"LevelingNetwork", "addLine", "(IIII)I"⟩ ∈ jk_WS := jk_wt7 (i := 205) (by decide +kernel) rfl
theorem jw_1646 : Cond.selects "LevelingNetwork" ⟨"LevelingNetwork", "addLine", "(IIII)I"⟩ ⟨"LevelingNetwork", "addLine", "(IIII)I"⟩ ∈ jk_WS := jk_wt7 (i := 206) (by decide +kernel) rfl
theorem jw_1647 : Cond.code ⟨"LevelingNetwork", "addLine", "(IIII)I"⟩ prog_1_method_5_code 5 (Option.some ClassFile.FieldType.int) ∈ jk_WS := jk_wt7 (i := 207) (by decide +kernel) rfl
theorem jw_1648 : Cond.fieldLink "LevelingNetwork" 114 "LevelingNetwork$Kind" "LINE" "LLevelingNetwork$Kind;" ∈ jk_WS := jk_wt7 (i := 208) (by decide +kernel) rfl
theorem jw_1650 : Cond.methodLink "LevelingNetworkLaw" 37 ⟨"LevelingNetwork", "lineCount", "()I"⟩ ∈ jk_WS := jk_wt7 (i := 210) (by decide +kernel) rfl
theorem jw_1651 : Cond.instanceMethod ⟨"LevelingNetwork", "lineCount", "()I"⟩ ∈ jk_WS := jk_wt7 (i := 211) (by decide +kernel) rfl
theorem jw_1652 : Cond.selects "LevelingNetwork" ⟨"LevelingNetwork", "lineCount", "()I"⟩ ⟨"LevelingNetwork", "lineCount", "()I"⟩ ∈ jk_WS := jk_wt7 (i := 212) (by decide +kernel) rfl
theorem jw_1653 : Cond.code ⟨"LevelingNetwork", "lineCount", "()I"⟩ prog_1_method_22_code 1 (Option.some ClassFile.FieldType.int) ∈ jk_WS := jk_wt7 (i := 213) (by decide +kernel) rfl
theorem jw_1654 : Cond.methodLink "LevelingNetworkLaw" 40 ⟨"java/lang/Math", "max", "(II)I"⟩ ∈ jk_WS := jk_wt7 (i := 214) (by decide +kernel) rfl
theorem jw_1655 : Cond.methodLink "LevelingNetworkLaw" 208 ⟨"LevelingNetworkLaw", "state", "(LLevelingNetwork;)I"⟩ ∈ jk_WS := jk_wt7 (i := 215) (by decide +kernel) rfl
theorem jw_1656 : Cond.static ⟨"LevelingNetworkLaw", "state", "(LLevelingNetwork;)I"⟩ ∈ jk_WS := jk_wt7 (i := 216) (by decide +kernel) rfl
theorem jw_1657 : Cond.code ⟨"LevelingNetworkLaw", "state", "(LLevelingNetwork;)I"⟩ method_7_code 4 (Option.some ClassFile.FieldType.int) ∈ jk_WS := jk_wt7 (i := 217) (by decide +kernel) rfl
theorem jw_1658 : Cond.methodLink "LevelingNetworkLaw" 151 ⟨"LevelingNetwork", "profileCount", "()I"⟩ ∈ jk_WS := jk_wt7 (i := 218) (by decide +kernel) rfl
theorem jw_1659 : Cond.instanceMethod ⟨"LevelingNetwork", "profileCount", "()I"⟩ ∈ jk_WS := jk_wt7 (i := 219) (by decide +kernel) rfl
theorem jw_1660 : Cond.selects "LevelingNetwork" ⟨"LevelingNetwork", "profileCount", "()I"⟩ ⟨"LevelingNetwork", "profileCount", "()I"⟩ ∈ jk_WS := jk_wt7 (i := 220) (by decide +kernel) rfl
theorem jw_1661 : Cond.code ⟨"LevelingNetwork", "profileCount", "()I"⟩ prog_1_method_44_code 1 (Option.some ClassFile.FieldType.int) ∈ jk_WS := jk_wt7 (i := 221) (by decide +kernel) rfl
theorem jw_1662 : Cond.methodLink "LevelingNetworkLaw" 157 ⟨"LevelingNetwork", "isFixed", "(I)Z"⟩ ∈ jk_WS := jk_wt7 (i := 222) (by decide +kernel) rfl
theorem jw_1663 : Cond.instanceMethod ⟨"LevelingNetwork", "isFixed", "(I)Z"⟩ ∈ jk_WS := jk_wt7 (i := 223) (by decide +kernel) rfl
theorem jw_1664 : Cond.selects "LevelingNetwork" ⟨"LevelingNetwork", "isFixed", "(I)Z"⟩ ⟨"LevelingNetwork", "isFixed", "(I)Z"⟩ ∈ jk_WS := jk_wt7 (i := 224) (by decide +kernel) rfl
theorem jw_1665 : Cond.code ⟨"LevelingNetwork", "isFixed", "(I)Z"⟩ prog_1_method_15_code 2 (Option.some ClassFile.FieldType.boolean) ∈ jk_WS := jk_wt7 (i := 225) (by decide +kernel) rfl
theorem jw_1666 : Cond.methodLink "LevelingNetworkLaw" 161 ⟨"LevelingNetwork", "firstOf", "(I)I"⟩ ∈ jk_WS := jk_wt7 (i := 226) (by decide +kernel) rfl
theorem jw_1667 : Cond.instanceMethod ⟨"LevelingNetwork", "firstOf", "(I)I"⟩ ∈ jk_WS := jk_wt7 (i := 227) (by decide +kernel) rfl
theorem jw_1668 : Cond.selects "LevelingNetwork" ⟨"LevelingNetwork", "firstOf", "(I)I"⟩ ⟨"LevelingNetwork", "firstOf", "(I)I"⟩ ∈ jk_WS := jk_wt7 (i := 228) (by decide +kernel) rfl
theorem jw_1669 : Cond.code ⟨"LevelingNetwork", "firstOf", "(I)I"⟩ prog_1_method_23_code 2 (Option.some ClassFile.FieldType.int) ∈ jk_WS := jk_wt7 (i := 229) (by decide +kernel) rfl
theorem jw_1670 : Cond.methodLink "LevelingNetworkLaw" 164 ⟨"LevelingNetwork", "secondOf", "(I)I"⟩ ∈ jk_WS := jk_wt7 (i := 230) (by decide +kernel) rfl
theorem jw_1671 : Cond.instanceMethod ⟨"LevelingNetwork", "secondOf", "(I)I"⟩ ∈ jk_WS := jk_wt7 (i := 231) (by decide +kernel) rfl
theorem jw_1672 : Cond.selects "LevelingNetwork" ⟨"LevelingNetwork", "secondOf", "(I)I"⟩ ⟨"LevelingNetwork", "secondOf", "(I)I"⟩ ∈ jk_WS := jk_wt7 (i := 232) (by decide +kernel) rfl
theorem jw_1673 : Cond.code ⟨"LevelingNetwork", "secondOf", "(I)I"⟩ prog_1_method_24_code 2 (Option.some ClassFile.FieldType.int) ∈ jk_WS := jk_wt7 (i := 233) (by decide +kernel) rfl
theorem jw_1674 : Cond.methodLink "LevelingNetworkLaw" 167 ⟨"LevelingNetwork", "lengthOf", "(I)I"⟩ ∈ jk_WS := jk_wt7 (i := 234) (by decide +kernel) rfl
theorem jw_1675 : Cond.instanceMethod ⟨"LevelingNetwork", "lengthOf", "(I)I"⟩ ∈ jk_WS := jk_wt7 (i := 235) (by decide +kernel) rfl
theorem jw_1676 : Cond.selects "LevelingNetwork" ⟨"LevelingNetwork", "lengthOf", "(I)I"⟩ ⟨"LevelingNetwork", "lengthOf", "(I)I"⟩ ∈ jk_WS := jk_wt7 (i := 236) (by decide +kernel) rfl
theorem jw_1677 : Cond.code ⟨"LevelingNetwork", "lengthOf", "(I)I"⟩ prog_1_method_25_code 2 (Option.some ClassFile.FieldType.int) ∈ jk_WS := jk_wt7 (i := 237) (by decide +kernel) rfl
theorem jw_1678 : Cond.methodLink "LevelingNetworkLaw" 176 ⟨"LevelingNetwork", "isExcluded", "(I)Z"⟩ ∈ jk_WS := jk_wt7 (i := 238) (by decide +kernel) rfl
theorem jw_1679 : Cond.instanceMethod ⟨"LevelingNetwork", "isExcluded", "(I)Z"⟩ ∈ jk_WS := jk_wt7 (i := 239) (by decide +kernel) rfl
theorem jw_1680 : Cond.selects "LevelingNetwork" ⟨"LevelingNetwork", "isExcluded", "(I)Z"⟩ ⟨"LevelingNetwork", "isExcluded", "(I)Z"⟩ ∈ jk_WS := jk_wt8 (i := 0) (by decide +kernel) rfl
theorem jw_1681 : Cond.code ⟨"LevelingNetwork", "isExcluded", "(I)Z"⟩ prog_1_method_29_code 2 (Option.some ClassFile.FieldType.boolean) ∈ jk_WS := jk_wt8 (i := 1) (by decide +kernel) rfl
theorem jw_1682 : Cond.methodLink "LevelingNetworkLaw" 179 ⟨"LevelingNetwork", "stationCount", "(I)I"⟩ ∈ jk_WS := jk_wt8 (i := 2) (by decide +kernel) rfl
theorem jw_1683 : Cond.instanceMethod ⟨"LevelingNetwork", "stationCount", "(I)I"⟩ ∈ jk_WS := jk_wt8 (i := 3) (by decide +kernel) rfl
theorem jw_1684 : Cond.selects "LevelingNetwork" ⟨"LevelingNetwork", "stationCount", "(I)I"⟩ ⟨"LevelingNetwork", "stationCount", "(I)I"⟩ ∈ jk_WS := jk_wt8 (i := 4) (by decide +kernel) rfl
theorem jw_1685 : Cond.code ⟨"LevelingNetwork", "stationCount", "(I)I"⟩ prog_1_method_45_code 2 (Option.some ClassFile.FieldType.int) ∈ jk_WS := jk_wt8 (i := 5) (by decide +kernel) rfl
theorem jw_1686 : Cond.methodLink "LevelingNetworkLaw" 312 ⟨"LevelingNetworkLaw", "isLine", "(LLevelingNetwork;ILjava/lang/String;)Z"⟩ ∈ jk_WS := jk_wt8 (i := 6) (by decide +kernel) rfl
theorem jw_1687 : Cond.static ⟨"LevelingNetworkLaw", "isLine", "(LLevelingNetwork;ILjava/lang/String;)Z"⟩ ∈ jk_WS := jk_wt8 (i := 7) (by decide +kernel) rfl
theorem jw_1688 : Cond.code ⟨"LevelingNetworkLaw", "isLine", "(LLevelingNetwork;ILjava/lang/String;)Z"⟩ method_15_code 4 (Option.some ClassFile.FieldType.boolean) ∈ jk_WS := jk_wt8 (i := 8) (by decide +kernel) rfl
theorem jw_1689 : Cond.methodLink "LevelingNetworkLaw" 344 ⟨"LevelingNetwork", "outputAt", "(I)C"⟩ ∈ jk_WS := jk_wt8 (i := 9) (by decide +kernel) rfl
theorem jw_1690 : Cond.instanceMethod ⟨"LevelingNetwork", "outputAt", "(I)C"⟩ ∈ jk_WS := jk_wt8 (i := 10) (by decide +kernel) rfl
theorem jw_1691 : Cond.selects "LevelingNetwork" ⟨"LevelingNetwork", "outputAt", "(I)C"⟩ ⟨"LevelingNetwork", "outputAt", "(I)C"⟩ ∈ jk_WS := jk_wt8 (i := 11) (by decide +kernel) rfl
theorem jw_1692 : Cond.code ⟨"LevelingNetwork", "outputAt", "(I)C"⟩ prog_1_method_57_code 2 (Option.some ClassFile.FieldType.char) ∈ jk_WS := jk_wt8 (i := 12) (by decide +kernel) rfl
theorem jw_1694 : Cond.methodLink "LevelingNetwork" 375 ⟨"java/lang/StringBuilder", "charAt", "(I)C"⟩ ∈ jk_WS := jk_wt8 (i := 14) (by decide +kernel) rfl
theorem jw_1695 : Cond.instanceMethod ⟨"java/lang/StringBuilder", "charAt", "(I)C"⟩ ∈ jk_WS := jk_wt8 (i := 15) (by decide +kernel) rfl
theorem jw_1696 : Cond.selects "java/lang/StringBuilder" ⟨"java/lang/StringBuilder", "charAt", "(I)C"⟩ ⟨"java/lang/StringBuilder", "charAt", "(I)C"⟩ ∈ jk_WS := jk_wt8 (i := 16) (by decide +kernel) rfl
theorem jw_1697 : Cond.code ⟨"java/lang/StringBuilder", "charAt", "(I)C"⟩ prog_34_method_88_code 2 (Option.some ClassFile.FieldType.char) ∈ jk_WS := jk_wt8 (i := 17) (by decide +kernel) rfl
theorem jw_1698 : Cond.methodLink "java/lang/StringBuilder" 329 ⟨"java/lang/AbstractStringBuilder", "charAt", "(I)C"⟩ ∈ jk_WS := jk_wt8 (i := 18) (by decide +kernel) rfl
theorem jw_1699 : Cond.instanceMethod ⟨"java/lang/AbstractStringBuilder", "charAt", "(I)C"⟩ ∈ jk_WS := jk_wt8 (i := 19) (by decide +kernel) rfl
theorem jw_1700 : Cond.code ⟨"java/lang/AbstractStringBuilder", "charAt", "(I)C"⟩ prog_17_method_14_code 5 (Option.some ClassFile.FieldType.char) ∈ jk_WS := jk_wt8 (i := 20) (by decide +kernel) rfl
theorem jw_1701 : Cond.methodLink "java/lang/AbstractStringBuilder" 138 ⟨"java/lang/Math", "min", "(II)I"⟩ ∈ jk_WS := jk_wt8 (i := 21) (by decide +kernel) rfl
theorem jw_1702 : Cond.methodLink "java/lang/AbstractStringBuilder" 144 ⟨"java/lang/String", "checkIndex", "(II)V"⟩ ∈ jk_WS := jk_wt8 (i := 22) (by decide +kernel) rfl
theorem jw_1703 : Cond.methodLink "java/lang/AbstractStringBuilder" 148 ⟨"java/lang/StringUTF16", "getChar", "([BI)C"⟩ ∈ jk_WS := jk_wt8 (i := 23) (by decide +kernel) rfl
theorem jw_1704 : Cond.methodLink "LevelingNetworkLaw" 230 ⟨"LevelingNetworkLaw", "runs", "(LLevelingNetwork;)I"⟩ ∈ jk_WS := jk_wt8 (i := 24) (by decide +kernel) rfl
theorem jw_1705 : Cond.static ⟨"LevelingNetworkLaw", "runs", "(LLevelingNetwork;)I"⟩ ∈ jk_WS := jk_wt8 (i := 25) (by decide +kernel) rfl
theorem jw_1706 : Cond.codeWith ⟨"LevelingNetworkLaw", "runs", "(LLevelingNetwork;)I"⟩ method_16_code 2 (Option.some ClassFile.FieldType.int) [(0, 4, 5, 60), (0, 4, 8, 63)] ∈ jk_WS := jk_wt8 (i := 26) (by decide +kernel) rfl
theorem jw_1707 : Cond.methodLink "LevelingNetworkLaw" 240 ⟨"LevelingNetworkLaw", "fails", "(LLevelingNetwork;Ljava/lang/String;I)Z"⟩ ∈ jk_WS := jk_wt8 (i := 27) (by decide +kernel) rfl
theorem jw_1708 : Cond.static ⟨"LevelingNetworkLaw", "fails", "(LLevelingNetwork;Ljava/lang/String;I)Z"⟩ ∈ jk_WS := jk_wt8 (i := 28) (by decide +kernel) rfl
theorem jw_1709 : Cond.code ⟨"LevelingNetworkLaw", "fails", "(LLevelingNetwork;Ljava/lang/String;I)Z"⟩ method_17_code 3 (Option.some ClassFile.FieldType.boolean) ∈ jk_WS := jk_wt8 (i := 29) (by decide +kernel) rfl
theorem jw_1710 : Cond.methodLink "LevelingNetworkLaw" 347 ⟨"LevelingNetwork", "errorPosition", "()I"⟩ ∈ jk_WS := jk_wt8 (i := 30) (by decide +kernel) rfl
theorem jw_1711 : Cond.instanceMethod ⟨"LevelingNetwork", "errorPosition", "()I"⟩ ∈ jk_WS := jk_wt8 (i := 31) (by decide +kernel) rfl
theorem jw_1712 : Cond.selects "LevelingNetwork" ⟨"LevelingNetwork", "errorPosition", "()I"⟩ ⟨"LevelingNetwork", "errorPosition", "()I"⟩ ∈ jk_WS := jk_wt8 (i := 32) (by decide +kernel) rfl
theorem jw_1713 : Cond.code ⟨"LevelingNetwork", "errorPosition", "()I"⟩ prog_1_method_60_code 1 (Option.some ClassFile.FieldType.int) ∈ jk_WS := jk_wt8 (i := 33) (by decide +kernel) rfl
theorem jw_1715 : Cond.methodLink "LevelingNetworkLaw" 324 ⟨"java/lang/Math", "floorDiv", "(II)I"⟩ ∈ jk_WS := jk_wt8 (i := 35) (by decide +kernel) rfl
theorem jw_1716 : Cond.classLink "LevelingNetworkLaw" 277 "java/lang/StringBuilder" ∈ jk_WS := jk_wt8 (i := 36) (by decide +kernel) rfl
theorem jw_1717 : Cond.methodLink "LevelingNetworkLaw" 279 ⟨"java/lang/StringBuilder", "<init>", "()V"⟩ ∈ jk_WS := jk_wt8 (i := 37) (by decide +kernel) rfl
theorem jw_1718 : Cond.methodLink "LevelingNetworkLaw" 282 ⟨"java/lang/StringBuilder", "append", "(Ljava/lang/String;)Ljava/lang/StringBuilder;"⟩ ∈ jk_WS := jk_wt8 (i := 38) (by decide +kernel) rfl
theorem jw_1719 : Cond.methodLink "LevelingNetworkLaw" 286 ⟨"java/lang/StringBuilder", "append", "(I)Ljava/lang/StringBuilder;"⟩ ∈ jk_WS := jk_wt8 (i := 39) (by decide +kernel) rfl
theorem jw_1720 : Cond.methodLink "LevelingNetworkLaw" 291 ⟨"java/lang/StringBuilder", "toString", "()Ljava/lang/String;"⟩ ∈ jk_WS := jk_wt8 (i := 40) (by decide +kernel) rfl
theorem jw_1722 : Cond.constant "LevelingNetworkLaw" 221 (-150000 : Int32) ∈ jk_WS := jk_wt8 (i := 42) (by decide +kernel) rfl
theorem jw_1745 : Cond.sameMethod "java/lang/Throwable" "java/lang/Throwable" "fillInStackTrace" "(I)Ljava/lang/Throwable;" ∈ jk_WS := jk_wt8 (i := 65) (by decide +kernel) rfl
theorem jw_1746 : Cond.sameMethod "java/lang/AbstractStringBuilder" "java/lang/AbstractStringBuilder" "setLength" "(I)V" ∈ jk_WS := jk_wt8 (i := 66) (by decide +kernel) rfl
theorem jw_1747 : Cond.sameMethod "java/lang/AbstractStringBuilder" "java/lang/AbstractStringBuilder" "append" "(Ljava/lang/String;)Ljava/lang/AbstractStringBuilder;" ∈ jk_WS := jk_wt8 (i := 67) (by decide +kernel) rfl
theorem jw_1748 : Cond.sameMethod "java/lang/AbstractStringBuilder" "java/lang/AbstractStringBuilder" "appendNull" "()Ljava/lang/AbstractStringBuilder;" ∈ jk_WS := jk_wt8 (i := 68) (by decide +kernel) rfl
theorem jw_1749 : Cond.sameMethod "java/lang/AbstractStringBuilder" "java/lang/AbstractStringBuilder" "ensureCapacityInternal" "(I)V" ∈ jk_WS := jk_wt8 (i := 69) (by decide +kernel) rfl
theorem jw_1750 : Cond.sameMethod "java/lang/AbstractStringBuilder" "java/lang/AbstractStringBuilder" "newCapacity" "(I)I" ∈ jk_WS := jk_wt8 (i := 70) (by decide +kernel) rfl
theorem jw_1751 : Cond.sameMethod "java/lang/AbstractStringBuilder" "java/lang/AbstractStringBuilder" "putStringAt" "(ILjava/lang/String;)V" ∈ jk_WS := jk_wt8 (i := 71) (by decide +kernel) rfl
theorem jw_1752 : Cond.sameMethod "java/lang/AbstractStringBuilder" "java/lang/AbstractStringBuilder" "inflateIfNeededFor" "(Ljava/lang/String;)V" ∈ jk_WS := jk_wt8 (i := 72) (by decide +kernel) rfl
theorem jw_1753 : Cond.sameMethod "java/lang/AbstractStringBuilder" "java/lang/AbstractStringBuilder" "inflate" "()V" ∈ jk_WS := jk_wt8 (i := 73) (by decide +kernel) rfl
theorem jw_1754 : Cond.sameMethod "java/lang/AbstractStringBuilder" "java/lang/AbstractStringBuilder" "append" "(I)Ljava/lang/AbstractStringBuilder;" ∈ jk_WS := jk_wt8 (i := 74) (by decide +kernel) rfl
theorem jw_1755 : Cond.sameMethod "java/lang/AbstractStringBuilder" "java/lang/AbstractStringBuilder" "append" "(C)Ljava/lang/AbstractStringBuilder;" ∈ jk_WS := jk_wt8 (i := 75) (by decide +kernel) rfl
theorem jw_1756 : Cond.selects "java/lang/StringBuilder" ⟨"java/lang/StringBuilder", "length", "()I"⟩ ⟨"java/lang/StringBuilder", "length", "()I"⟩ ∈ jk_WS := jk_wt8 (i := 76) (by decide +kernel) rfl
theorem jw_1757 : Cond.sameMethod "java/lang/AbstractStringBuilder" "java/lang/AbstractStringBuilder" "charAt" "(I)C" ∈ jk_WS := jk_wt8 (i := 77) (by decide +kernel) rfl
theorem jw_1758 : Cond.castable "java/lang/ArrayIndexOutOfBoundsException" "java/lang/IndexOutOfBoundsException" ∈ jk_WS := jk_wt8 (i := 78) (by decide +kernel) rfl
theorem jw_1759 : Cond.castable "java/lang/StringIndexOutOfBoundsException" "java/lang/IndexOutOfBoundsException" ∈ jk_WS := jk_wt8 (i := 79) (by decide +kernel) rfl
theorem jw_1760 : Cond.castable "LevelingNetwork" "java/lang/Object" ∈ jk_WS := jk_wt8 (i := 80) (by decide +kernel) rfl
theorem jw_1761 : Cond.castable "LevelingNetwork$Survey" "java/lang/Object" ∈ jk_WS := jk_wt8 (i := 81) (by decide +kernel) rfl
theorem jw_1762 : Cond.castable "LevelingNetwork$History" "java/lang/Object" ∈ jk_WS := jk_wt8 (i := 82) (by decide +kernel) rfl
theorem jw_1763 : Cond.castable "LevelingNetwork$Forest" "java/lang/Object" ∈ jk_WS := jk_wt8 (i := 83) (by decide +kernel) rfl
theorem jw_1764 : Cond.castable "LevelingNetwork$Way" "java/lang/Object" ∈ jk_WS := jk_wt8 (i := 84) (by decide +kernel) rfl
theorem jw_1765 : Cond.castable "LevelingNetwork$Sharing" "java/lang/Object" ∈ jk_WS := jk_wt8 (i := 85) (by decide +kernel) rfl
theorem jw_1766 : Cond.castable "LevelingNetwork$Heights" "java/lang/Object" ∈ jk_WS := jk_wt8 (i := 86) (by decide +kernel) rfl
theorem jw_1767 : Cond.castable "LevelingNetwork$Bank" "java/lang/Object" ∈ jk_WS := jk_wt8 (i := 87) (by decide +kernel) rfl
theorem jw_1768 : Cond.castable "LevelingNetwork$Changes" "java/lang/Object" ∈ jk_WS := jk_wt8 (i := 88) (by decide +kernel) rfl
theorem jw_1769 : Cond.castable "LevelingNetwork$Script" "java/lang/Object" ∈ jk_WS := jk_wt8 (i := 89) (by decide +kernel) rfl
theorem jw_1770 : Cond.castable "java/lang/StringBuilder" "java/lang/Object" ∈ jk_WS := jk_wt8 (i := 90) (by decide +kernel) rfl
theorem jw_1771 : Cond.castable "java/lang/ArrayIndexOutOfBoundsException" "java/lang/Object" ∈ jk_WS := jk_wt8 (i := 91) (by decide +kernel) rfl
theorem jw_1772 : Cond.castable "LevelingNetwork$Kind" "java/lang/Object" ∈ jk_WS := jk_wt8 (i := 92) (by decide +kernel) rfl
theorem jw_1773 : Cond.castable "LevelingNetwork$Trouble" "java/lang/Object" ∈ jk_WS := jk_wt8 (i := 93) (by decide +kernel) rfl
theorem jw_1774 : Cond.castable "java/lang/IndexOutOfBoundsException" "java/lang/Object" ∈ jk_WS := jk_wt8 (i := 94) (by decide +kernel) rfl
theorem jw_1775 : Cond.castable "java/lang/IllegalArgumentException" "java/lang/Object" ∈ jk_WS := jk_wt8 (i := 95) (by decide +kernel) rfl
theorem jw_1776 : Cond.castable "java/lang/IllegalStateException" "java/lang/Object" ∈ jk_WS := jk_wt8 (i := 96) (by decide +kernel) rfl
theorem jw_1777 : Cond.castable "java/util/NoSuchElementException" "java/lang/Object" ∈ jk_WS := jk_wt8 (i := 97) (by decide +kernel) rfl
theorem jw_1778 : Cond.castable "java/lang/UnsupportedOperationException" "java/lang/Object" ∈ jk_WS := jk_wt8 (i := 98) (by decide +kernel) rfl
theorem jw_1779 : Cond.castable "java/lang/String" "java/lang/Object" ∈ jk_WS := jk_wt8 (i := 99) (by decide +kernel) rfl
theorem jw_1780 : Cond.castable "java/lang/StringIndexOutOfBoundsException" "java/lang/Object" ∈ jk_WS := jk_wt8 (i := 100) (by decide +kernel) rfl
theorem jw_1781 : Cond.castable "java/lang/ArithmeticException" "java/lang/Object" ∈ jk_WS := jk_wt8 (i := 101) (by decide +kernel) rfl
theorem jw_1782 : Cond.castable "java/lang/Throwable" "java/lang/Object" ∈ jk_WS := jk_wt8 (i := 102) (by decide +kernel) rfl
theorem jw_1783 : Cond.fieldLink "java/lang/Enum" 7 "java/lang/Enum" "ordinal" "I" ∈ jk_WS := jk_wt8 (i := 103) (by decide +kernel) rfl
theorem jw_1784 : Cond.fieldLink "LevelingNetwork$Script" 59 "LevelingNetwork$Kind" "word" "Ljava/lang/String;" ∈ jk_WS := jk_wt8 (i := 104) (by decide +kernel) rfl
theorem jw_1785 : Cond.fieldLink "LevelingNetwork$Script" 48 "LevelingNetwork$Kind" "form" "Ljava/lang/String;" ∈ jk_WS := jk_wt8 (i := 105) (by decide +kernel) rfl
theorem jw_s0 : Cond.selects "LevelingNetwork" ⟨"LevelingNetwork", "change", "(LLevelingNetwork$Kind;IIII)I"⟩ ⟨"LevelingNetwork", "change", "(LLevelingNetwork$Kind;IIII)I"⟩ ∈ jk_WS := jk_wts (i := 0) (by decide +kernel) rfl
theorem jw_s1 : Cond.selects "LevelingNetwork$Changes" ⟨"LevelingNetwork$Changes", "troubleWithFixing", "(II)LLevelingNetwork$Trouble;"⟩ ⟨"LevelingNetwork$Changes", "troubleWithFixing", "(II)LLevelingNetwork$Trouble;"⟩ ∈ jk_WS := jk_wts (i := 1) (by decide +kernel) rfl
theorem jw_s2 : Cond.selects "LevelingNetwork$Changes" ⟨"LevelingNetwork$Changes", "troubleWithFreeing", "(I)LLevelingNetwork$Trouble;"⟩ ⟨"LevelingNetwork$Changes", "troubleWithFreeing", "(I)LLevelingNetwork$Trouble;"⟩ ∈ jk_WS := jk_wts (i := 2) (by decide +kernel) rfl
theorem jw_s3 : Cond.selects "LevelingNetwork$Changes" ⟨"LevelingNetwork$Changes", "troubleWithLine", "(IIII)LLevelingNetwork$Trouble;"⟩ ⟨"LevelingNetwork$Changes", "troubleWithLine", "(IIII)LLevelingNetwork$Trouble;"⟩ ∈ jk_WS := jk_wts (i := 3) (by decide +kernel) rfl
theorem jw_s4 : Cond.selects "LevelingNetwork$Changes" ⟨"LevelingNetwork$Changes", "troubleWithBackwardRun", "(II)LLevelingNetwork$Trouble;"⟩ ⟨"LevelingNetwork$Changes", "troubleWithBackwardRun", "(II)LLevelingNetwork$Trouble;"⟩ ∈ jk_WS := jk_wts (i := 4) (by decide +kernel) rfl
theorem jw_s5 : Cond.selects "LevelingNetwork$Changes" ⟨"LevelingNetwork$Changes", "troubleWithExclusion", "(IZ)LLevelingNetwork$Trouble;"⟩ ⟨"LevelingNetwork$Changes", "troubleWithExclusion", "(IZ)LLevelingNetwork$Trouble;"⟩ ∈ jk_WS := jk_wts (i := 5) (by decide +kernel) rfl
theorem jw_s6 : Cond.selects "LevelingNetwork$Changes" ⟨"LevelingNetwork$Changes", "troubleWithSharing", "(I)LLevelingNetwork$Trouble;"⟩ ⟨"LevelingNetwork$Changes", "troubleWithSharing", "(I)LLevelingNetwork$Trouble;"⟩ ∈ jk_WS := jk_wts (i := 6) (by decide +kernel) rfl
theorem jw_s7 : Cond.selects "LevelingNetwork$Forest" ⟨"LevelingNetwork$Forest", "putInOrder", "()V"⟩ ⟨"LevelingNetwork$Forest", "putInOrder", "()V"⟩ ∈ jk_WS := jk_wts (i := 7) (by decide +kernel) rfl
theorem jw_s8 : Cond.selects "LevelingNetwork$Forest" ⟨"LevelingNetwork$Forest", "consider", "(I)V"⟩ ⟨"LevelingNetwork$Forest", "consider", "(I)V"⟩ ∈ jk_WS := jk_wts (i := 8) (by decide +kernel) rfl
theorem jw_s9 : Cond.selects "LevelingNetwork$Way" ⟨"LevelingNetwork$Way", "add", "(II)I"⟩ ⟨"LevelingNetwork$Way", "add", "(II)I"⟩ ∈ jk_WS := jk_wts (i := 9) (by decide +kernel) rfl
theorem jw_s10 : Cond.selects "LevelingNetwork$Way" ⟨"LevelingNetwork$Way", "leadsOn", "(II)Z"⟩ ⟨"LevelingNetwork$Way", "leadsOn", "(II)Z"⟩ ∈ jk_WS := jk_wts (i := 10) (by decide +kernel) rfl
theorem jw_s11 : Cond.selects "LevelingNetwork$Changes" ⟨"LevelingNetwork$Changes", "troubleWithProfile", "(I)LLevelingNetwork$Trouble;"⟩ ⟨"LevelingNetwork$Changes", "troubleWithProfile", "(I)LLevelingNetwork$Trouble;"⟩ ∈ jk_WS := jk_wts (i := 11) (by decide +kernel) rfl
theorem jw_s12 : Cond.selects "LevelingNetwork$Changes" ⟨"LevelingNetwork$Changes", "troubleWithStation", "(III)LLevelingNetwork$Trouble;"⟩ ⟨"LevelingNetwork$Changes", "troubleWithStation", "(III)LLevelingNetwork$Trouble;"⟩ ∈ jk_WS := jk_wts (i := 12) (by decide +kernel) rfl
theorem jw_s13 : Cond.selects "java/lang/Throwable" ⟨"java/lang/Throwable", "fillInStackTrace", "(I)Ljava/lang/Throwable;"⟩ ⟨"java/lang/Throwable", "fillInStackTrace", "(I)Ljava/lang/Throwable;"⟩ ∈ jk_WS := jk_wts (i := 13) (by decide +kernel) rfl
theorem jw_s14 : Cond.selects "LevelingNetwork$Survey" ⟨"LevelingNetwork$Survey", "copyBenchmarks", "(LLevelingNetwork$Survey;)V"⟩ ⟨"LevelingNetwork$Survey", "copyBenchmarks", "(LLevelingNetwork$Survey;)V"⟩ ∈ jk_WS := jk_wts (i := 14) (by decide +kernel) rfl
theorem jw_s15 : Cond.selects "LevelingNetwork$Survey" ⟨"LevelingNetwork$Survey", "copyLines", "(LLevelingNetwork$Survey;)V"⟩ ⟨"LevelingNetwork$Survey", "copyLines", "(LLevelingNetwork$Survey;)V"⟩ ∈ jk_WS := jk_wts (i := 15) (by decide +kernel) rfl
theorem jw_s16 : Cond.selects "LevelingNetwork$Survey" ⟨"LevelingNetwork$Survey", "copyProfiles", "(LLevelingNetwork$Survey;)V"⟩ ⟨"LevelingNetwork$Survey", "copyProfiles", "(LLevelingNetwork$Survey;)V"⟩ ∈ jk_WS := jk_wts (i := 16) (by decide +kernel) rfl
theorem jw_s17 : Cond.selects "LevelingNetwork$Changes" ⟨"LevelingNetwork$Changes", "putBenchmark", "()I"⟩ ⟨"LevelingNetwork$Changes", "putBenchmark", "()I"⟩ ∈ jk_WS := jk_wts (i := 17) (by decide +kernel) rfl
theorem jw_s18 : Cond.selects "LevelingNetwork$Changes" ⟨"LevelingNetwork$Changes", "putLine", "(IIII)I"⟩ ⟨"LevelingNetwork$Changes", "putLine", "(IIII)I"⟩ ∈ jk_WS := jk_wts (i := 18) (by decide +kernel) rfl
theorem jw_s19 : Cond.selects "LevelingNetwork$Changes" ⟨"LevelingNetwork$Changes", "shareOut", "(I)I"⟩ ⟨"LevelingNetwork$Changes", "shareOut", "(I)I"⟩ ∈ jk_WS := jk_wts (i := 19) (by decide +kernel) rfl
theorem jw_s20 : Cond.selects "LevelingNetwork$Sharing" ⟨"LevelingNetwork$Sharing", "giveOut", "(I)V"⟩ ⟨"LevelingNetwork$Sharing", "giveOut", "(I)V"⟩ ∈ jk_WS := jk_wts (i := 20) (by decide +kernel) rfl
theorem jw_s21 : Cond.selects "LevelingNetwork$Changes" ⟨"LevelingNetwork$Changes", "clearCorrections", "()I"⟩ ⟨"LevelingNetwork$Changes", "clearCorrections", "()I"⟩ ∈ jk_WS := jk_wts (i := 21) (by decide +kernel) rfl
theorem jw_s22 : Cond.selects "LevelingNetwork$Changes" ⟨"LevelingNetwork$Changes", "putProfile", "(I)I"⟩ ⟨"LevelingNetwork$Changes", "putProfile", "(I)I"⟩ ∈ jk_WS := jk_wts (i := 22) (by decide +kernel) rfl
theorem jw_s23 : Cond.selects "LevelingNetwork$Changes" ⟨"LevelingNetwork$Changes", "putStation", "(III)I"⟩ ⟨"LevelingNetwork$Changes", "putStation", "(III)I"⟩ ∈ jk_WS := jk_wts (i := 23) (by decide +kernel) rfl
theorem jw_s24 : Cond.selects "LevelingNetwork$Changes" ⟨"LevelingNetwork$Changes", "putWater", "(I)I"⟩ ⟨"LevelingNetwork$Changes", "putWater", "(I)I"⟩ ∈ jk_WS := jk_wts (i := 24) (by decide +kernel) rfl
theorem jw_s25 : Cond.selects "LevelingNetwork" ⟨"LevelingNetwork", "requireBenchmark", "(I)V"⟩ ⟨"LevelingNetwork", "requireBenchmark", "(I)V"⟩ ∈ jk_WS := jk_wts (i := 25) (by decide +kernel) rfl
theorem jw_s26 : Cond.selects "LevelingNetwork" ⟨"LevelingNetwork", "requireHeight", "(I)V"⟩ ⟨"LevelingNetwork", "requireHeight", "(I)V"⟩ ∈ jk_WS := jk_wts (i := 26) (by decide +kernel) rfl
theorem jw_s27 : Cond.selects "LevelingNetwork$Heights" ⟨"LevelingNetwork$Heights", "passOn", "(II)V"⟩ ⟨"LevelingNetwork$Heights", "passOn", "(II)V"⟩ ∈ jk_WS := jk_wts (i := 27) (by decide +kernel) rfl
theorem jw_s28 : Cond.selects "LevelingNetwork$Heights" ⟨"LevelingNetwork$Heights", "passOnOnce", "()Z"⟩ ⟨"LevelingNetwork$Heights", "passOnOnce", "()Z"⟩ ∈ jk_WS := jk_wts (i := 28) (by decide +kernel) rfl
theorem jw_s29 : Cond.selects "LevelingNetwork$Heights" ⟨"LevelingNetwork$Heights", "benchmarksAheadOf", "(I)I"⟩ ⟨"LevelingNetwork$Heights", "benchmarksAheadOf", "(I)I"⟩ ∈ jk_WS := jk_wts (i := 29) (by decide +kernel) rfl
theorem jw_s30 : Cond.selects "LevelingNetwork" ⟨"LevelingNetwork", "requireLine", "(I)V"⟩ ⟨"LevelingNetwork", "requireLine", "(I)V"⟩ ∈ jk_WS := jk_wts (i := 30) (by decide +kernel) rfl
theorem jw_s31 : Cond.selects "LevelingNetwork$Survey" ⟨"LevelingNetwork$Survey", "linesAheadOf", "(I)I"⟩ ⟨"LevelingNetwork$Survey", "linesAheadOf", "(I)I"⟩ ∈ jk_WS := jk_wts (i := 31) (by decide +kernel) rfl
theorem jw_s32 : Cond.selects "LevelingNetwork$Forest" ⟨"LevelingNetwork$Forest", "growReached", "()I"⟩ ⟨"LevelingNetwork$Forest", "growReached", "()I"⟩ ∈ jk_WS := jk_wts (i := 32) (by decide +kernel) rfl
theorem jw_s33 : Cond.selects "LevelingNetwork$Forest" ⟨"LevelingNetwork$Forest", "firstLineOutOfReached", "()I"⟩ ⟨"LevelingNetwork$Forest", "firstLineOutOfReached", "()I"⟩ ∈ jk_WS := jk_wts (i := 33) (by decide +kernel) rfl
theorem jw_s34 : Cond.selects "LevelingNetwork" ⟨"LevelingNetwork", "traceLoop", "(I)V"⟩ ⟨"LevelingNetwork", "traceLoop", "(I)V"⟩ ∈ jk_WS := jk_wts (i := 34) (by decide +kernel) rfl
theorem jw_s35 : Cond.selects "LevelingNetwork" ⟨"LevelingNetwork", "requireProfile", "(I)V"⟩ ⟨"LevelingNetwork", "requireProfile", "(I)V"⟩ ∈ jk_WS := jk_wts (i := 35) (by decide +kernel) rfl
theorem jw_s36 : Cond.selects "LevelingNetwork$Bank" ⟨"LevelingNetwork$Bank", "firstColumn", "(I)I"⟩ ⟨"LevelingNetwork$Bank", "firstColumn", "(I)I"⟩ ∈ jk_WS := jk_wts (i := 36) (by decide +kernel) rfl
theorem jw_s37 : Cond.selects "LevelingNetwork$Bank" ⟨"LevelingNetwork$Bank", "lastColumn", "(I)I"⟩ ⟨"LevelingNetwork$Bank", "lastColumn", "(I)I"⟩ ∈ jk_WS := jk_wts (i := 37) (by decide +kernel) rfl
theorem jw_s38 : Cond.selects "LevelingNetwork" ⟨"LevelingNetwork", "surfaceAt", "(I)I"⟩ ⟨"LevelingNetwork", "surfaceAt", "(I)I"⟩ ∈ jk_WS := jk_wts (i := 38) (by decide +kernel) rfl
theorem jw_s39 : Cond.selects "LevelingNetwork" ⟨"LevelingNetwork", "heightsAgree", "()Z"⟩ ⟨"LevelingNetwork", "heightsAgree", "()Z"⟩ ∈ jk_WS := jk_wts (i := 39) (by decide +kernel) rfl
theorem jw_s40 : Cond.selects "LevelingNetwork" ⟨"LevelingNetwork", "misclosuresAgree", "()Z"⟩ ⟨"LevelingNetwork", "misclosuresAgree", "()Z"⟩ ∈ jk_WS := jk_wts (i := 40) (by decide +kernel) rfl
theorem jw_s41 : Cond.selects "LevelingNetwork" ⟨"LevelingNetwork", "wetColumnsAgree", "()Z"⟩ ⟨"LevelingNetwork", "wetColumnsAgree", "()Z"⟩ ∈ jk_WS := jk_wts (i := 41) (by decide +kernel) rfl
theorem jw_s42 : Cond.selects "LevelingNetwork" ⟨"LevelingNetwork", "markOf", "(I)C"⟩ ⟨"LevelingNetwork", "markOf", "(I)C"⟩ ∈ jk_WS := jk_wts (i := 42) (by decide +kernel) rfl
theorem jw_s43 : Cond.selects "LevelingNetwork$Script" ⟨"LevelingNetwork$Script", "readCommand", "()Z"⟩ ⟨"LevelingNetwork$Script", "readCommand", "()Z"⟩ ∈ jk_WS := jk_wts (i := 43) (by decide +kernel) rfl
theorem jw_s44 : Cond.selects "LevelingNetwork$Script" ⟨"LevelingNetwork$Script", "readWord", "()LLevelingNetwork$Kind;"⟩ ⟨"LevelingNetwork$Script", "readWord", "()LLevelingNetwork$Kind;"⟩ ∈ jk_WS := jk_wts (i := 44) (by decide +kernel) rfl
theorem jw_s45 : Cond.selects "LevelingNetwork$Script" ⟨"LevelingNetwork$Script", "fittingSigns", "(Ljava/lang/String;)I"⟩ ⟨"LevelingNetwork$Script", "fittingSigns", "(Ljava/lang/String;)I"⟩ ∈ jk_WS := jk_wts (i := 45) (by decide +kernel) rfl
theorem jw_s46 : Cond.selects "LevelingNetwork$Script" ⟨"LevelingNetwork$Script", "signAt", "(I)C"⟩ ⟨"LevelingNetwork$Script", "signAt", "(I)C"⟩ ∈ jk_WS := jk_wts (i := 46) (by decide +kernel) rfl
theorem jw_s47 : Cond.selects "LevelingNetwork$Script" ⟨"LevelingNetwork$Script", "readForm", "(Ljava/lang/String;[I)Z"⟩ ⟨"LevelingNetwork$Script", "readForm", "(Ljava/lang/String;[I)Z"⟩ ∈ jk_WS := jk_wts (i := 47) (by decide +kernel) rfl
theorem jw_s48 : Cond.selects "LevelingNetwork$Script" ⟨"LevelingNetwork$Script", "readSign", "(C)Z"⟩ ⟨"LevelingNetwork$Script", "readSign", "(C)Z"⟩ ∈ jk_WS := jk_wts (i := 48) (by decide +kernel) rfl
theorem jw_s49 : Cond.selects "LevelingNetwork$Script" ⟨"LevelingNetwork$Script", "readArgument", "(IZ[II)Z"⟩ ⟨"LevelingNetwork$Script", "readArgument", "(IZ[II)Z"⟩ ∈ jk_WS := jk_wts (i := 49) (by decide +kernel) rfl
theorem jw_s50 : Cond.selects "LevelingNetwork" ⟨"LevelingNetwork", "firstFailure", "()I"⟩ ⟨"LevelingNetwork", "firstFailure", "()I"⟩ ∈ jk_WS := jk_wts (i := 50) (by decide +kernel) rfl
