def jk_dummyW : Nat := 0
theorem jk_wt1 {i : Nat} {w : Cond} (h : tables_1_1[i]? = some w) (hk : jk_kw w = true) : w ∈ jk_WS := jk_ws (List.mem_append_right (k2_sels lw_privs) (List.mem_append_left _ (List.mem_of_getElem? h))) hk
theorem jk_wt2 {i : Nat} {w : Cond} (h : tables_1_2[i]? = some w) (hk : jk_kw w = true) : w ∈ jk_WS := jk_ws (List.mem_append_right (k2_sels lw_privs) (List.mem_append_right _ (List.mem_append_left _ (List.mem_of_getElem? h)))) hk
theorem jk_wt3 {i : Nat} {w : Cond} (h : tables_1_3[i]? = some w) (hk : jk_kw w = true) : w ∈ jk_WS := jk_ws (List.mem_append_right (k2_sels lw_privs) (List.mem_append_right _ (List.mem_append_right _ (List.mem_append_left _ (List.mem_of_getElem? h))))) hk
theorem jk_wt4 {i : Nat} {w : Cond} (h : tables_1_4[i]? = some w) (hk : jk_kw w = true) : w ∈ jk_WS := jk_ws (List.mem_append_right (k2_sels lw_privs) (List.mem_append_right _ (List.mem_append_right _ (List.mem_append_right _ (List.mem_append_left _ (List.mem_of_getElem? h)))))) hk
theorem jk_wt5 {i : Nat} {w : Cond} (h : tables_1_5[i]? = some w) (hk : jk_kw w = true) : w ∈ jk_WS := jk_ws (List.mem_append_right (k2_sels lw_privs) (List.mem_append_right _ (List.mem_append_right _ (List.mem_append_right _ (List.mem_append_right _ (List.mem_append_left _ (List.mem_of_getElem? h))))))) hk
theorem jk_wt6 {i : Nat} {w : Cond} (h : tables_1_6[i]? = some w) (hk : jk_kw w = true) : w ∈ jk_WS := jk_ws (List.mem_append_right (k2_sels lw_privs) (List.mem_append_right _ (List.mem_append_right _ (List.mem_append_right _ (List.mem_append_right _ (List.mem_append_right _ (List.mem_append_left _ (List.mem_of_getElem? h)))))))) hk
theorem jk_wt7 {i : Nat} {w : Cond} (h : tables_1_7[i]? = some w) (hk : jk_kw w = true) : w ∈ jk_WS := jk_ws (List.mem_append_right (k2_sels lw_privs) (List.mem_append_right _ (List.mem_append_right _ (List.mem_append_right _ (List.mem_append_right _ (List.mem_append_right _ (List.mem_append_right _ (List.mem_append_left _ (List.mem_of_getElem? h))))))))) hk
theorem jk_wt8 {i : Nat} {w : Cond} (h : tables_1_8[i]? = some w) (hk : jk_kw w = true) : w ∈ jk_WS := jk_ws (List.mem_append_right (k2_sels lw_privs) (List.mem_append_right _ (List.mem_append_right _ (List.mem_append_right _ (List.mem_append_right _ (List.mem_append_right _ (List.mem_append_right _ (List.mem_append_right _ (List.mem_of_getElem? h))))))))) hk
theorem jk_wts {i : Nat} {w : Cond} (h : (k2_sels lw_privs)[i]? = some w) (hk : jk_kw w = true) : w ∈ jk_WS := jk_ws (List.mem_append_left tables_1 (List.mem_of_getElem? h)) hk
theorem jw_0 : Cond.initialized "LevelingNetworkLaw" ∈ jk_WS := jk_wt1 (i := 0) (by decide +kernel) rfl
theorem jw_1 : Cond.initialized "LevelingNetwork" ∈ jk_WS := jk_wt1 (i := 1) (by decide +kernel) rfl
theorem jw_2 : Cond.initialized "LevelingNetwork$Survey" ∈ jk_WS := jk_wt1 (i := 2) (by decide +kernel) rfl
theorem jw_3 : Cond.initialized "LevelingNetwork$History" ∈ jk_WS := jk_wt1 (i := 3) (by decide +kernel) rfl
theorem jw_4 : Cond.initialized "LevelingNetwork$Forest" ∈ jk_WS := jk_wt1 (i := 4) (by decide +kernel) rfl
theorem jw_5 : Cond.initialized "LevelingNetwork$Way" ∈ jk_WS := jk_wt1 (i := 5) (by decide +kernel) rfl
theorem jw_6 : Cond.initialized "LevelingNetwork$Sharing" ∈ jk_WS := jk_wt1 (i := 6) (by decide +kernel) rfl
theorem jw_7 : Cond.initialized "LevelingNetwork$Heights" ∈ jk_WS := jk_wt1 (i := 7) (by decide +kernel) rfl
theorem jw_8 : Cond.initialized "LevelingNetwork$Bank" ∈ jk_WS := jk_wt1 (i := 8) (by decide +kernel) rfl
theorem jw_9 : Cond.initialized "LevelingNetwork$Changes" ∈ jk_WS := jk_wt1 (i := 9) (by decide +kernel) rfl
theorem jw_10 : Cond.initialized "LevelingNetwork$Script" ∈ jk_WS := jk_wt1 (i := 10) (by decide +kernel) rfl
theorem jw_11 : Cond.initialized "java/lang/AbstractStringBuilder" ∈ jk_WS := jk_wt1 (i := 11) (by decide +kernel) rfl
theorem jw_12 : Cond.initialized "java/lang/StringBuilder" ∈ jk_WS := jk_wt1 (i := 12) (by decide +kernel) rfl
theorem jw_13 : Cond.initialized "java/lang/String" ∈ jk_WS := jk_wt1 (i := 13) (by decide +kernel) rfl
theorem jw_14 : Cond.initialized "java/lang/StringUTF16" ∈ jk_WS := jk_wt1 (i := 14) (by decide +kernel) rfl
theorem jw_15 : Cond.initialized "java/lang/Throwable" ∈ jk_WS := jk_wt1 (i := 15) (by decide +kernel) rfl
theorem jw_16 : Cond.initialized "java/lang/Exception" ∈ jk_WS := jk_wt1 (i := 16) (by decide +kernel) rfl
theorem jw_17 : Cond.initialized "java/lang/RuntimeException" ∈ jk_WS := jk_wt1 (i := 17) (by decide +kernel) rfl
theorem jw_18 : Cond.initialized "java/lang/IndexOutOfBoundsException" ∈ jk_WS := jk_wt1 (i := 18) (by decide +kernel) rfl
theorem jw_19 : Cond.initialized "java/lang/ArrayIndexOutOfBoundsException" ∈ jk_WS := jk_wt1 (i := 19) (by decide +kernel) rfl
theorem jw_20 : Cond.initialized "java/lang/Enum" ∈ jk_WS := jk_wt1 (i := 20) (by decide +kernel) rfl
theorem jw_21 : Cond.initialized "LevelingNetwork$Kind" ∈ jk_WS := jk_wt1 (i := 21) (by decide +kernel) rfl
theorem jw_22 : Cond.initialized "LevelingNetwork$1" ∈ jk_WS := jk_wt1 (i := 22) (by decide +kernel) rfl
theorem jw_23 : Cond.initialized "LevelingNetwork$Trouble" ∈ jk_WS := jk_wt1 (i := 23) (by decide +kernel) rfl
theorem jw_24 : Cond.initialized "java/lang/Math" ∈ jk_WS := jk_wt1 (i := 24) (by decide +kernel) rfl
theorem jw_25 : Cond.initialized "java/lang/IllegalArgumentException" ∈ jk_WS := jk_wt1 (i := 25) (by decide +kernel) rfl
theorem jw_26 : Cond.initialized "java/lang/IllegalStateException" ∈ jk_WS := jk_wt1 (i := 26) (by decide +kernel) rfl
theorem jw_27 : Cond.initialized "java/util/NoSuchElementException" ∈ jk_WS := jk_wt1 (i := 27) (by decide +kernel) rfl
theorem jw_28 : Cond.initialized "java/lang/UnsupportedOperationException" ∈ jk_WS := jk_wt1 (i := 28) (by decide +kernel) rfl
theorem jw_29 : Cond.initialized "java/lang/StringLatin1" ∈ jk_WS := jk_wt1 (i := 29) (by decide +kernel) rfl
theorem jw_30 : Cond.initialized "jdk/internal/util/Preconditions" ∈ jk_WS := jk_wt1 (i := 30) (by decide +kernel) rfl
theorem jw_31 : Cond.initialized "jdk/internal/util/ArraysSupport" ∈ jk_WS := jk_wt1 (i := 31) (by decide +kernel) rfl
theorem jw_32 : Cond.initialized "java/util/Arrays" ∈ jk_WS := jk_wt1 (i := 32) (by decide +kernel) rfl
theorem jw_33 : Cond.initialized "java/lang/System" ∈ jk_WS := jk_wt1 (i := 33) (by decide +kernel) rfl
theorem jw_34 : Cond.initialized "java/lang/Number" ∈ jk_WS := jk_wt1 (i := 34) (by decide +kernel) rfl
theorem jw_35 : Cond.initialized "java/lang/Integer" ∈ jk_WS := jk_wt1 (i := 35) (by decide +kernel) rfl
theorem jw_36 : Cond.initialized "java/lang/StringIndexOutOfBoundsException" ∈ jk_WS := jk_wt1 (i := 36) (by decide +kernel) rfl
theorem jw_37 : Cond.initialized "java/lang/ArithmeticException" ∈ jk_WS := jk_wt1 (i := 37) (by decide +kernel) rfl
theorem jw_38 : Cond.classLink "LevelingNetworkLaw" 18 "LevelingNetwork" ∈ jk_WS := jk_wt1 (i := 38) (by decide +kernel) rfl
theorem jw_39 : Cond.instantiable "LevelingNetwork" 15 ∈ jk_WS := jk_wt1 (i := 39) (by decide +kernel) rfl
theorem jw_40 : Cond.methodLink "LevelingNetworkLaw" 23 ⟨"LevelingNetwork", "<init>", "()V"⟩ ∈ jk_WS := jk_wt1 (i := 40) (by decide +kernel) rfl
theorem jw_41 : Cond.instanceMethod ⟨"LevelingNetwork", "<init>", "()V"⟩ ∈ jk_WS := jk_wt1 (i := 41) (by decide +kernel) rfl
theorem jw_42 : Cond.code ⟨"LevelingNetwork", "<init>", "()V"⟩ prog_1_method_1_code 1 (Option.none : Option ClassFile.FieldType) ∈ jk_WS := jk_wt1 (i := 42) (by decide +kernel) rfl
theorem jw_43 : Cond.methodLink "LevelingNetwork" 1 ⟨"java/lang/Object", "<init>", "()V"⟩ ∈ jk_WS := jk_wt1 (i := 43) (by decide +kernel) rfl
theorem jw_44 : Cond.instanceMethod ⟨"java/lang/Object", "<init>", "()V"⟩ ∈ jk_WS := jk_wt1 (i := 44) (by decide +kernel) rfl
theorem jw_45 : Cond.code ⟨"java/lang/Object", "<init>", "()V"⟩ object_method_1_code 1 (Option.none : Option ClassFile.FieldType) ∈ jk_WS := jk_wt1 (i := 45) (by decide +kernel) rfl
theorem jw_46 : Cond.classLink "LevelingNetwork" 7 "LevelingNetwork$Survey" ∈ jk_WS := jk_wt1 (i := 46) (by decide +kernel) rfl
theorem jw_47 : Cond.instantiable "LevelingNetwork$Survey" 18 ∈ jk_WS := jk_wt1 (i := 47) (by decide +kernel) rfl
theorem jw_48 : Cond.methodLinkNest "LevelingNetwork" 9 ⟨"LevelingNetwork$Survey", "<init>", "()V"⟩ "LevelingNetwork" ∈ jk_WS := jk_wt1 (i := 48) (by decide +kernel) rfl
theorem jw_49 : Cond.instanceMethod ⟨"LevelingNetwork$Survey", "<init>", "()V"⟩ ∈ jk_WS := jk_wt1 (i := 49) (by decide +kernel) rfl
theorem jw_50 : Cond.code ⟨"LevelingNetwork$Survey", "<init>", "()V"⟩ prog_11_method_1_code 1 (Option.none : Option ClassFile.FieldType) ∈ jk_WS := jk_wt1 (i := 50) (by decide +kernel) rfl
theorem jw_51 : Cond.methodLink "LevelingNetwork$Survey" 3 ⟨"java/lang/Object", "<init>", "()V"⟩ ∈ jk_WS := jk_wt1 (i := 51) (by decide +kernel) rfl
theorem jw_52 : Cond.classLink "LevelingNetwork$Survey" 49 "[[I" ∈ jk_WS := jk_wt1 (i := 52) (by decide +kernel) rfl
theorem jw_53 : Cond.arrayOver (ClassFile.FieldType.array ClassFile.FieldType.int) ∈ jk_WS := jk_wt1 (i := 53) (by decide +kernel) rfl
theorem jw_54 : Cond.fieldLink "LevelingNetwork$Heights" 36 "LevelingNetwork$Survey" "benchmarks" "I" ∈ jk_WS := jk_wt1 (i := 54) (by decide +kernel) rfl
theorem jw_55 : Cond.fieldLink "LevelingNetwork$Changes" 39 "LevelingNetwork$Survey" "benchmarks" "I" ∈ jk_WS := jk_wt1 (i := 55) (by decide +kernel) rfl
theorem jw_56 : Cond.fieldLink "LevelingNetwork$Survey" 71 "LevelingNetwork$Survey" "benchmarks" "I" ∈ jk_WS := jk_wt1 (i := 56) (by decide +kernel) rfl
theorem jw_57 : Cond.fieldLink "LevelingNetwork$Forest" 67 "LevelingNetwork$Survey" "benchmarks" "I" ∈ jk_WS := jk_wt1 (i := 57) (by decide +kernel) rfl
theorem jw_58 : Cond.fieldLink "LevelingNetwork" 141 "LevelingNetwork$Survey" "benchmarks" "I" ∈ jk_WS := jk_wt1 (i := 58) (by decide +kernel) rfl
theorem jw_59 : Cond.fieldLink "LevelingNetwork$Survey" 9 "LevelingNetwork$Survey" "fixed" "[Z" ∈ jk_WS := jk_wt1 (i := 59) (by decide +kernel) rfl
theorem jw_60 : Cond.fieldLink "LevelingNetwork$Heights" 42 "LevelingNetwork$Survey" "fixed" "[Z" ∈ jk_WS := jk_wt1 (i := 60) (by decide +kernel) rfl
theorem jw_61 : Cond.fieldLink "LevelingNetwork$Changes" 106 "LevelingNetwork$Survey" "fixed" "[Z" ∈ jk_WS := jk_wt1 (i := 61) (by decide +kernel) rfl
theorem jw_62 : Cond.fieldLink "LevelingNetwork" 148 "LevelingNetwork$Survey" "fixed" "[Z" ∈ jk_WS := jk_wt1 (i := 62) (by decide +kernel) rfl
theorem jw_63 : Cond.fieldLink "LevelingNetwork$Survey" 15 "LevelingNetwork$Survey" "fixedHeight" "[I" ∈ jk_WS := jk_wt1 (i := 63) (by decide +kernel) rfl
theorem jw_64 : Cond.fieldLink "LevelingNetwork$Heights" 54 "LevelingNetwork$Survey" "fixedHeight" "[I" ∈ jk_WS := jk_wt1 (i := 64) (by decide +kernel) rfl
theorem jw_65 : Cond.fieldLink "LevelingNetwork$Changes" 176 "LevelingNetwork$Survey" "fixedHeight" "[I" ∈ jk_WS := jk_wt1 (i := 65) (by decide +kernel) rfl
theorem jw_66 : Cond.fieldLink "LevelingNetwork" 179 "LevelingNetwork$Survey" "fixedHeight" "[I" ∈ jk_WS := jk_wt1 (i := 66) (by decide +kernel) rfl
theorem jw_67 : Cond.fieldLink "LevelingNetwork$Forest" 40 "LevelingNetwork$Survey" "lines" "I" ∈ jk_WS := jk_wt1 (i := 67) (by decide +kernel) rfl
theorem jw_68 : Cond.fieldLink "LevelingNetwork$Survey" 74 "LevelingNetwork$Survey" "lines" "I" ∈ jk_WS := jk_wt1 (i := 68) (by decide +kernel) rfl
theorem jw_69 : Cond.fieldLink "LevelingNetwork$Way" 46 "LevelingNetwork$Survey" "lines" "I" ∈ jk_WS := jk_wt1 (i := 69) (by decide +kernel) rfl
theorem jw_70 : Cond.fieldLink "LevelingNetwork$Changes" 113 "LevelingNetwork$Survey" "lines" "I" ∈ jk_WS := jk_wt1 (i := 70) (by decide +kernel) rfl
theorem jw_71 : Cond.fieldLink "LevelingNetwork$Heights" 84 "LevelingNetwork$Survey" "lines" "I" ∈ jk_WS := jk_wt1 (i := 71) (by decide +kernel) rfl
theorem jw_72 : Cond.fieldLink "LevelingNetwork" 193 "LevelingNetwork$Survey" "lines" "I" ∈ jk_WS := jk_wt1 (i := 72) (by decide +kernel) rfl
theorem jw_73 : Cond.fieldLink "LevelingNetwork$Survey" 19 "LevelingNetwork$Survey" "first" "[I" ∈ jk_WS := jk_wt1 (i := 73) (by decide +kernel) rfl
theorem jw_74 : Cond.fieldLink "LevelingNetwork$Way" 34 "LevelingNetwork$Survey" "first" "[I" ∈ jk_WS := jk_wt1 (i := 74) (by decide +kernel) rfl
theorem jw_75 : Cond.fieldLink "LevelingNetwork$Forest" 52 "LevelingNetwork$Survey" "first" "[I" ∈ jk_WS := jk_wt1 (i := 75) (by decide +kernel) rfl
theorem jw_76 : Cond.fieldLink "LevelingNetwork$Heights" 71 "LevelingNetwork$Survey" "first" "[I" ∈ jk_WS := jk_wt1 (i := 76) (by decide +kernel) rfl
theorem jw_77 : Cond.fieldLink "LevelingNetwork$Changes" 211 "LevelingNetwork$Survey" "first" "[I" ∈ jk_WS := jk_wt1 (i := 77) (by decide +kernel) rfl
theorem jw_78 : Cond.fieldLink "LevelingNetwork" 199 "LevelingNetwork$Survey" "first" "[I" ∈ jk_WS := jk_wt1 (i := 78) (by decide +kernel) rfl
theorem jw_79 : Cond.fieldLink "LevelingNetwork$Survey" 22 "LevelingNetwork$Survey" "second" "[I" ∈ jk_WS := jk_wt1 (i := 79) (by decide +kernel) rfl
theorem jw_80 : Cond.fieldLink "LevelingNetwork$Way" 43 "LevelingNetwork$Survey" "second" "[I" ∈ jk_WS := jk_wt1 (i := 80) (by decide +kernel) rfl
theorem jw_81 : Cond.fieldLink "LevelingNetwork$Forest" 55 "LevelingNetwork$Survey" "second" "[I" ∈ jk_WS := jk_wt1 (i := 81) (by decide +kernel) rfl
theorem jw_82 : Cond.fieldLink "LevelingNetwork$Heights" 74 "LevelingNetwork$Survey" "second" "[I" ∈ jk_WS := jk_wt1 (i := 82) (by decide +kernel) rfl
theorem jw_83 : Cond.fieldLink "LevelingNetwork$Changes" 214 "LevelingNetwork$Survey" "second" "[I" ∈ jk_WS := jk_wt1 (i := 83) (by decide +kernel) rfl
theorem jw_84 : Cond.fieldLink "LevelingNetwork" 202 "LevelingNetwork$Survey" "second" "[I" ∈ jk_WS := jk_wt1 (i := 84) (by decide +kernel) rfl
theorem jw_85 : Cond.fieldLink "LevelingNetwork$Survey" 25 "LevelingNetwork$Survey" "length" "[I" ∈ jk_WS := jk_wt1 (i := 85) (by decide +kernel) rfl
theorem jw_86 : Cond.fieldLink "LevelingNetwork$Sharing" 44 "LevelingNetwork$Survey" "length" "[I" ∈ jk_WS := jk_wt1 (i := 86) (by decide +kernel) rfl
theorem jw_87 : Cond.fieldLink "LevelingNetwork$Forest" 49 "LevelingNetwork$Survey" "length" "[I" ∈ jk_WS := jk_wt1 (i := 87) (by decide +kernel) rfl
theorem jw_88 : Cond.fieldLink "LevelingNetwork$Way" 62 "LevelingNetwork$Survey" "length" "[I" ∈ jk_WS := jk_wt1 (i := 88) (by decide +kernel) rfl
theorem jw_89 : Cond.fieldLink "LevelingNetwork$Changes" 217 "LevelingNetwork$Survey" "length" "[I" ∈ jk_WS := jk_wt1 (i := 89) (by decide +kernel) rfl
theorem jw_90 : Cond.fieldLink "LevelingNetwork" 205 "LevelingNetwork$Survey" "length" "[I" ∈ jk_WS := jk_wt1 (i := 90) (by decide +kernel) rfl
theorem jw_91 : Cond.fieldLink "LevelingNetwork$Survey" 28 "LevelingNetwork$Survey" "forward" "[I" ∈ jk_WS := jk_wt1 (i := 91) (by decide +kernel) rfl
theorem jw_92 : Cond.fieldLink "LevelingNetwork$Changes" 220 "LevelingNetwork$Survey" "forward" "[I" ∈ jk_WS := jk_wt1 (i := 92) (by decide +kernel) rfl
theorem jw_93 : Cond.fieldLink "LevelingNetwork$Survey" 31 "LevelingNetwork$Survey" "backward" "[I" ∈ jk_WS := jk_wt1 (i := 93) (by decide +kernel) rfl
theorem jw_94 : Cond.fieldLink "LevelingNetwork$Changes" 186 "LevelingNetwork$Survey" "backward" "[I" ∈ jk_WS := jk_wt1 (i := 94) (by decide +kernel) rfl
theorem jw_95 : Cond.fieldLink "LevelingNetwork$Survey" 34 "LevelingNetwork$Survey" "doubleRun" "[Z" ∈ jk_WS := jk_wt1 (i := 95) (by decide +kernel) rfl
theorem jw_96 : Cond.fieldLink "LevelingNetwork$Changes" 119 "LevelingNetwork$Survey" "doubleRun" "[Z" ∈ jk_WS := jk_wt1 (i := 96) (by decide +kernel) rfl
theorem jw_97 : Cond.fieldLink "LevelingNetwork" 214 "LevelingNetwork$Survey" "doubleRun" "[Z" ∈ jk_WS := jk_wt1 (i := 97) (by decide +kernel) rfl
theorem jw_98 : Cond.fieldLink "LevelingNetwork$Survey" 37 "LevelingNetwork$Survey" "excluded" "[Z" ∈ jk_WS := jk_wt1 (i := 98) (by decide +kernel) rfl
theorem jw_99 : Cond.fieldLink "LevelingNetwork$Changes" 122 "LevelingNetwork$Survey" "excluded" "[Z" ∈ jk_WS := jk_wt1 (i := 99) (by decide +kernel) rfl
theorem jw_100 : Cond.fieldLink "LevelingNetwork" 222 "LevelingNetwork$Survey" "excluded" "[Z" ∈ jk_WS := jk_wt1 (i := 100) (by decide +kernel) rfl
theorem jw_101 : Cond.fieldLink "LevelingNetwork$Survey" 40 "LevelingNetwork$Survey" "correction" "[I" ∈ jk_WS := jk_wt1 (i := 101) (by decide +kernel) rfl
theorem jw_102 : Cond.fieldLink "LevelingNetwork$Sharing" 53 "LevelingNetwork$Survey" "correction" "[I" ∈ jk_WS := jk_wt1 (i := 102) (by decide +kernel) rfl
theorem jw_103 : Cond.fieldLink "LevelingNetwork$Changes" 223 "LevelingNetwork$Survey" "correction" "[I" ∈ jk_WS := jk_wt1 (i := 103) (by decide +kernel) rfl
theorem jw_104 : Cond.fieldLink "LevelingNetwork" 211 "LevelingNetwork$Survey" "correction" "[I" ∈ jk_WS := jk_wt1 (i := 104) (by decide +kernel) rfl
theorem jw_105 : Cond.fieldLink "LevelingNetwork$Survey" 77 "LevelingNetwork$Survey" "profiles" "I" ∈ jk_WS := jk_wt1 (i := 105) (by decide +kernel) rfl
theorem jw_106 : Cond.fieldLink "LevelingNetwork$Changes" 160 "LevelingNetwork$Survey" "profiles" "I" ∈ jk_WS := jk_wt1 (i := 106) (by decide +kernel) rfl
theorem jw_107 : Cond.fieldLink "LevelingNetwork" 286 "LevelingNetwork$Survey" "profiles" "I" ∈ jk_WS := jk_wt1 (i := 107) (by decide +kernel) rfl
theorem jw_108 : Cond.fieldLink "LevelingNetwork$Survey" 43 "LevelingNetwork$Survey" "site" "[I" ∈ jk_WS := jk_wt1 (i := 108) (by decide +kernel) rfl
theorem jw_109 : Cond.fieldLink "LevelingNetwork$Changes" 235 "LevelingNetwork$Survey" "site" "[I" ∈ jk_WS := jk_wt1 (i := 109) (by decide +kernel) rfl
theorem jw_110 : Cond.fieldLink "LevelingNetwork" 304 "LevelingNetwork$Survey" "site" "[I" ∈ jk_WS := jk_wt1 (i := 110) (by decide +kernel) rfl
theorem jw_111 : Cond.fieldLink "LevelingNetwork$Survey" 46 "LevelingNetwork$Survey" "stations" "[I" ∈ jk_WS := jk_wt1 (i := 111) (by decide +kernel) rfl
theorem jw_112 : Cond.fieldLink "LevelingNetwork$Bank" 32 "LevelingNetwork$Survey" "stations" "[I" ∈ jk_WS := jk_wt1 (i := 112) (by decide +kernel) rfl
theorem jw_113 : Cond.fieldLink "LevelingNetwork$Changes" 166 "LevelingNetwork$Survey" "stations" "[I" ∈ jk_WS := jk_wt1 (i := 113) (by decide +kernel) rfl
theorem jw_114 : Cond.fieldLink "LevelingNetwork" 292 "LevelingNetwork$Survey" "stations" "[I" ∈ jk_WS := jk_wt1 (i := 114) (by decide +kernel) rfl
theorem jw_115 : Cond.fieldLink "LevelingNetwork$Survey" 51 "LevelingNetwork$Survey" "distance" "[[I" ∈ jk_WS := jk_wt1 (i := 115) (by decide +kernel) rfl
theorem jw_116 : Cond.fieldLink "LevelingNetwork$Bank" 26 "LevelingNetwork$Survey" "distance" "[[I" ∈ jk_WS := jk_wt1 (i := 116) (by decide +kernel) rfl
theorem jw_117 : Cond.fieldLink "LevelingNetwork$Changes" 169 "LevelingNetwork$Survey" "distance" "[[I" ∈ jk_WS := jk_wt1 (i := 117) (by decide +kernel) rfl
theorem jw_118 : Cond.fieldLink "LevelingNetwork$Survey" 54 "LevelingNetwork$Survey" "offset" "[[I" ∈ jk_WS := jk_wt1 (i := 118) (by decide +kernel) rfl
theorem jw_119 : Cond.fieldLink "LevelingNetwork$Bank" 36 "LevelingNetwork$Survey" "offset" "[[I" ∈ jk_WS := jk_wt1 (i := 119) (by decide +kernel) rfl
theorem jw_120 : Cond.fieldLink "LevelingNetwork$Changes" 238 "LevelingNetwork$Survey" "offset" "[[I" ∈ jk_WS := jk_wt1 (i := 120) (by decide +kernel) rfl
theorem jw_121 : Cond.fieldLink "LevelingNetwork$Survey" 67 "LevelingNetwork$Survey" "water" "I" ∈ jk_WS := jk_wt1 (i := 121) (by decide +kernel) rfl
theorem jw_122 : Cond.fieldLink "LevelingNetwork$Changes" 241 "LevelingNetwork$Survey" "water" "I" ∈ jk_WS := jk_wt1 (i := 122) (by decide +kernel) rfl
theorem jw_123 : Cond.fieldLink "LevelingNetwork" 295 "LevelingNetwork$Survey" "water" "I" ∈ jk_WS := jk_wt1 (i := 123) (by decide +kernel) rfl
theorem jw_124 : Cond.lays "LevelingNetwork$Survey" "LevelingNetwork$Survey" "benchmarks" "I" ∈ jk_WS := jk_wt1 (i := 124) (by decide +kernel) rfl
theorem jw_126 : Cond.laysFinal "LevelingNetwork$Survey" "LevelingNetwork$Survey" "fixed" "[Z" ∈ jk_WS := jk_wt1 (i := 126) (by decide +kernel) rfl
theorem jw_128 : Cond.laysFinal "LevelingNetwork$Survey" "LevelingNetwork$Survey" "fixedHeight" "[I" ∈ jk_WS := jk_wt1 (i := 128) (by decide +kernel) rfl
theorem jw_130 : Cond.lays "LevelingNetwork$Survey" "LevelingNetwork$Survey" "lines" "I" ∈ jk_WS := jk_wt1 (i := 130) (by decide +kernel) rfl
theorem jw_132 : Cond.laysFinal "LevelingNetwork$Survey" "LevelingNetwork$Survey" "first" "[I" ∈ jk_WS := jk_wt1 (i := 132) (by decide +kernel) rfl
theorem jw_134 : Cond.laysFinal "LevelingNetwork$Survey" "LevelingNetwork$Survey" "second" "[I" ∈ jk_WS := jk_wt1 (i := 134) (by decide +kernel) rfl
theorem jw_136 : Cond.laysFinal "LevelingNetwork$Survey" "LevelingNetwork$Survey" "length" "[I" ∈ jk_WS := jk_wt1 (i := 136) (by decide +kernel) rfl
theorem jw_138 : Cond.laysFinal "LevelingNetwork$Survey" "LevelingNetwork$Survey" "forward" "[I" ∈ jk_WS := jk_wt1 (i := 138) (by decide +kernel) rfl
theorem jw_140 : Cond.laysFinal "LevelingNetwork$Survey" "LevelingNetwork$Survey" "backward" "[I" ∈ jk_WS := jk_wt1 (i := 140) (by decide +kernel) rfl
theorem jw_142 : Cond.laysFinal "LevelingNetwork$Survey" "LevelingNetwork$Survey" "doubleRun" "[Z" ∈ jk_WS := jk_wt1 (i := 142) (by decide +kernel) rfl
theorem jw_144 : Cond.laysFinal "LevelingNetwork$Survey" "LevelingNetwork$Survey" "excluded" "[Z" ∈ jk_WS := jk_wt1 (i := 144) (by decide +kernel) rfl
theorem jw_146 : Cond.laysFinal "LevelingNetwork$Survey" "LevelingNetwork$Survey" "correction" "[I" ∈ jk_WS := jk_wt1 (i := 146) (by decide +kernel) rfl
theorem jw_148 : Cond.lays "LevelingNetwork$Survey" "LevelingNetwork$Survey" "profiles" "I" ∈ jk_WS := jk_wt1 (i := 148) (by decide +kernel) rfl
theorem jw_150 : Cond.laysFinal "LevelingNetwork$Survey" "LevelingNetwork$Survey" "site" "[I" ∈ jk_WS := jk_wt1 (i := 150) (by decide +kernel) rfl
theorem jw_152 : Cond.laysFinal "LevelingNetwork$Survey" "LevelingNetwork$Survey" "stations" "[I" ∈ jk_WS := jk_wt1 (i := 152) (by decide +kernel) rfl
theorem jw_154 : Cond.laysFinal "LevelingNetwork$Survey" "LevelingNetwork$Survey" "distance" "[[I" ∈ jk_WS := jk_wt1 (i := 154) (by decide +kernel) rfl
theorem jw_156 : Cond.laysFinal "LevelingNetwork$Survey" "LevelingNetwork$Survey" "offset" "[[I" ∈ jk_WS := jk_wt1 (i := 156) (by decide +kernel) rfl
theorem jw_158 : Cond.lays "LevelingNetwork$Survey" "LevelingNetwork$Survey" "water" "I" ∈ jk_WS := jk_wt1 (i := 158) (by decide +kernel) rfl
theorem jw_160 : Cond.superclass "LevelingNetwork$Survey" "java/lang/Object" ∈ jk_WS := jk_wt1 (i := 160) (by decide +kernel) rfl
theorem jw_161 : Cond.arrayClass ClassFile.FieldType.boolean ∈ jk_WS := jk_wt1 (i := 161) (by decide +kernel) rfl
theorem jw_162 : Cond.arrayClass ClassFile.FieldType.int ∈ jk_WS := jk_wt1 (i := 162) (by decide +kernel) rfl
theorem jw_163 : Cond.classLink "LevelingNetwork" 22 "LevelingNetwork$History" ∈ jk_WS := jk_wt1 (i := 163) (by decide +kernel) rfl
theorem jw_164 : Cond.instantiable "LevelingNetwork$History" 3 ∈ jk_WS := jk_wt1 (i := 164) (by decide +kernel) rfl
theorem jw_165 : Cond.methodLink "LevelingNetwork" 24 ⟨"LevelingNetwork$History", "<init>", "()V"⟩ ∈ jk_WS := jk_wt1 (i := 165) (by decide +kernel) rfl
theorem jw_166 : Cond.instanceMethod ⟨"LevelingNetwork$History", "<init>", "()V"⟩ ∈ jk_WS := jk_wt1 (i := 166) (by decide +kernel) rfl
theorem jw_167 : Cond.code ⟨"LevelingNetwork$History", "<init>", "()V"⟩ prog_7_method_1_code 2 (Option.none : Option ClassFile.FieldType) ∈ jk_WS := jk_wt1 (i := 167) (by decide +kernel) rfl
theorem jw_168 : Cond.methodLink "LevelingNetwork$History" 3 ⟨"java/lang/Object", "<init>", "()V"⟩ ∈ jk_WS := jk_wt1 (i := 168) (by decide +kernel) rfl
theorem jw_169 : Cond.classLink "LevelingNetwork$History" 9 "LevelingNetwork$Survey" ∈ jk_WS := jk_wt1 (i := 169) (by decide +kernel) rfl
theorem jw_170 : Cond.arrayOver (ClassFile.FieldType.object "LevelingNetwork$Survey") ∈ jk_WS := jk_wt1 (i := 170) (by decide +kernel) rfl
theorem jw_171 : Cond.methodLinkNest "LevelingNetwork$History" 17 ⟨"LevelingNetwork$Survey", "<init>", "()V"⟩ "LevelingNetwork" ∈ jk_WS := jk_wt1 (i := 171) (by decide +kernel) rfl
theorem jw_172 : Cond.fieldLink "LevelingNetwork$History" 11 "LevelingNetwork$History" "past" "[LLevelingNetwork$Survey;" ∈ jk_WS := jk_wt1 (i := 172) (by decide +kernel) rfl
theorem jw_173 : Cond.fieldLink "LevelingNetwork$History" 18 "LevelingNetwork$History" "next" "I" ∈ jk_WS := jk_wt1 (i := 173) (by decide +kernel) rfl
theorem jw_174 : Cond.fieldLink "LevelingNetwork$History" 26 "LevelingNetwork$History" "size" "I" ∈ jk_WS := jk_wt1 (i := 174) (by decide +kernel) rfl
theorem jw_175 : Cond.fieldLink "LevelingNetwork" 416 "LevelingNetwork$History" "size" "I" ∈ jk_WS := jk_wt1 (i := 175) (by decide +kernel) rfl
theorem jw_176 : Cond.laysFinal "LevelingNetwork$History" "LevelingNetwork$History" "past" "[LLevelingNetwork$Survey;" ∈ jk_WS := jk_wt1 (i := 176) (by decide +kernel) rfl
theorem jw_178 : Cond.lays "LevelingNetwork$History" "LevelingNetwork$History" "next" "I" ∈ jk_WS := jk_wt1 (i := 178) (by decide +kernel) rfl
theorem jw_180 : Cond.lays "LevelingNetwork$History" "LevelingNetwork$History" "size" "I" ∈ jk_WS := jk_wt1 (i := 180) (by decide +kernel) rfl
theorem jw_182 : Cond.superclass "LevelingNetwork$History" "java/lang/Object" ∈ jk_WS := jk_wt1 (i := 182) (by decide +kernel) rfl
theorem jw_183 : Cond.classLink "LevelingNetwork" 29 "LevelingNetwork$Forest" ∈ jk_WS := jk_wt1 (i := 183) (by decide +kernel) rfl
theorem jw_184 : Cond.instantiable "LevelingNetwork$Forest" 6 ∈ jk_WS := jk_wt1 (i := 184) (by decide +kernel) rfl
theorem jw_185 : Cond.methodLink "LevelingNetwork" 31 ⟨"LevelingNetwork$Forest", "<init>", "(LLevelingNetwork$Survey;)V"⟩ ∈ jk_WS := jk_wt1 (i := 185) (by decide +kernel) rfl
theorem jw_186 : Cond.instanceMethod ⟨"LevelingNetwork$Forest", "<init>", "(LLevelingNetwork$Survey;)V"⟩ ∈ jk_WS := jk_wt1 (i := 186) (by decide +kernel) rfl
theorem jw_187 : Cond.code ⟨"LevelingNetwork$Forest", "<init>", "(LLevelingNetwork$Survey;)V"⟩ prog_5_method_1_code 2 (Option.none : Option ClassFile.FieldType) ∈ jk_WS := jk_wt1 (i := 187) (by decide +kernel) rfl
theorem jw_188 : Cond.methodLink "LevelingNetwork$Forest" 3 ⟨"java/lang/Object", "<init>", "()V"⟩ ∈ jk_WS := jk_wt1 (i := 188) (by decide +kernel) rfl
theorem jw_189 : Cond.fieldLink "LevelingNetwork$Forest" 25 "LevelingNetwork$Forest" "survey" "LLevelingNetwork$Survey;" ∈ jk_WS := jk_wt1 (i := 189) (by decide +kernel) rfl
theorem jw_190 : Cond.fieldLink "LevelingNetwork$Forest" 9 "LevelingNetwork$Forest" "order" "[I" ∈ jk_WS := jk_wt1 (i := 190) (by decide +kernel) rfl
theorem jw_191 : Cond.fieldLink "LevelingNetwork$Forest" 32 "LevelingNetwork$Forest" "ordered" "I" ∈ jk_WS := jk_wt1 (i := 191) (by decide +kernel) rfl
theorem jw_192 : Cond.fieldLink "LevelingNetwork$Forest" 15 "LevelingNetwork$Forest" "reached" "[Z" ∈ jk_WS := jk_wt1 (i := 192) (by decide +kernel) rfl
theorem jw_193 : Cond.fieldLink "LevelingNetwork$Forest" 19 "LevelingNetwork$Forest" "taken" "[Z" ∈ jk_WS := jk_wt1 (i := 193) (by decide +kernel) rfl
theorem jw_194 : Cond.fieldLink "LevelingNetwork$Way" 52 "LevelingNetwork$Forest" "taken" "[Z" ∈ jk_WS := jk_wt1 (i := 194) (by decide +kernel) rfl
theorem jw_195 : Cond.fieldLink "LevelingNetwork$Heights" 87 "LevelingNetwork$Forest" "taken" "[Z" ∈ jk_WS := jk_wt1 (i := 195) (by decide +kernel) rfl
theorem jw_196 : Cond.fieldLink "LevelingNetwork" 243 "LevelingNetwork$Forest" "taken" "[Z" ∈ jk_WS := jk_wt1 (i := 196) (by decide +kernel) rfl
theorem jw_197 : Cond.fieldLink "LevelingNetwork$Forest" 22 "LevelingNetwork$Forest" "root" "[I" ∈ jk_WS := jk_wt1 (i := 197) (by decide +kernel) rfl
theorem jw_198 : Cond.fieldLink "LevelingNetwork$Heights" 45 "LevelingNetwork$Forest" "root" "[I" ∈ jk_WS := jk_wt1 (i := 198) (by decide +kernel) rfl
theorem jw_199 : Cond.laysFinal "LevelingNetwork$Forest" "LevelingNetwork$Forest" "survey" "LLevelingNetwork$Survey;" ∈ jk_WS := jk_wt1 (i := 199) (by decide +kernel) rfl
theorem jw_201 : Cond.laysFinal "LevelingNetwork$Forest" "LevelingNetwork$Forest" "order" "[I" ∈ jk_WS := jk_wt1 (i := 201) (by decide +kernel) rfl
theorem jw_203 : Cond.lays "LevelingNetwork$Forest" "LevelingNetwork$Forest" "ordered" "I" ∈ jk_WS := jk_wt1 (i := 203) (by decide +kernel) rfl
theorem jw_205 : Cond.laysFinal "LevelingNetwork$Forest" "LevelingNetwork$Forest" "reached" "[Z" ∈ jk_WS := jk_wt1 (i := 205) (by decide +kernel) rfl
theorem jw_207 : Cond.laysFinal "LevelingNetwork$Forest" "LevelingNetwork$Forest" "taken" "[Z" ∈ jk_WS := jk_wt1 (i := 207) (by decide +kernel) rfl
theorem jw_209 : Cond.laysFinal "LevelingNetwork$Forest" "LevelingNetwork$Forest" "root" "[I" ∈ jk_WS := jk_wt1 (i := 209) (by decide +kernel) rfl
theorem jw_211 : Cond.superclass "LevelingNetwork$Forest" "java/lang/Object" ∈ jk_WS := jk_wt1 (i := 211) (by decide +kernel) rfl
theorem jw_212 : Cond.classLink "LevelingNetwork" 38 "LevelingNetwork$Way" ∈ jk_WS := jk_wt1 (i := 212) (by decide +kernel) rfl
theorem jw_213 : Cond.instantiable "LevelingNetwork$Way" 5 ∈ jk_WS := jk_wt1 (i := 213) (by decide +kernel) rfl
theorem jw_214 : Cond.methodLink "LevelingNetwork" 40 ⟨"LevelingNetwork$Way", "<init>", "(LLevelingNetwork$Survey;LLevelingNetwork$Forest;)V"⟩ ∈ jk_WS := jk_wt1 (i := 214) (by decide +kernel) rfl
theorem jw_215 : Cond.instanceMethod ⟨"LevelingNetwork$Way", "<init>", "(LLevelingNetwork$Survey;LLevelingNetwork$Forest;)V"⟩ ∈ jk_WS := jk_wt1 (i := 215) (by decide +kernel) rfl
theorem jw_216 : Cond.code ⟨"LevelingNetwork$Way", "<init>", "(LLevelingNetwork$Survey;LLevelingNetwork$Forest;)V"⟩ prog_13_method_1_code 3 (Option.none : Option ClassFile.FieldType) ∈ jk_WS := jk_wt1 (i := 216) (by decide +kernel) rfl
theorem jw_217 : Cond.methodLink "LevelingNetwork$Way" 3 ⟨"java/lang/Object", "<init>", "()V"⟩ ∈ jk_WS := jk_wt1 (i := 217) (by decide +kernel) rfl
theorem jw_218 : Cond.fieldLink "LevelingNetwork$Way" 18 "LevelingNetwork$Way" "survey" "LLevelingNetwork$Survey;" ∈ jk_WS := jk_wt1 (i := 218) (by decide +kernel) rfl
theorem jw_219 : Cond.fieldLink "LevelingNetwork$Way" 22 "LevelingNetwork$Way" "forest" "LLevelingNetwork$Forest;" ∈ jk_WS := jk_wt1 (i := 219) (by decide +kernel) rfl
theorem jw_220 : Cond.fieldLink "LevelingNetwork$Way" 9 "LevelingNetwork$Way" "lines" "[I" ∈ jk_WS := jk_wt1 (i := 220) (by decide +kernel) rfl
theorem jw_221 : Cond.fieldLink "LevelingNetwork$Sharing" 41 "LevelingNetwork$Way" "lines" "[I" ∈ jk_WS := jk_wt1 (i := 221) (by decide +kernel) rfl
theorem jw_222 : Cond.fieldLink "LevelingNetwork$Way" 15 "LevelingNetwork$Way" "signs" "[I" ∈ jk_WS := jk_wt1 (i := 222) (by decide +kernel) rfl
theorem jw_223 : Cond.fieldLink "LevelingNetwork$Sharing" 56 "LevelingNetwork$Way" "signs" "[I" ∈ jk_WS := jk_wt1 (i := 223) (by decide +kernel) rfl
theorem jw_224 : Cond.fieldLink "LevelingNetwork$Way" 26 "LevelingNetwork$Way" "size" "I" ∈ jk_WS := jk_wt1 (i := 224) (by decide +kernel) rfl
theorem jw_225 : Cond.fieldLink "LevelingNetwork$Sharing" 37 "LevelingNetwork$Way" "size" "I" ∈ jk_WS := jk_wt1 (i := 225) (by decide +kernel) rfl
theorem jw_226 : Cond.fieldLink "LevelingNetwork" 267 "LevelingNetwork$Way" "size" "I" ∈ jk_WS := jk_wt1 (i := 226) (by decide +kernel) rfl
theorem jw_227 : Cond.laysFinal "LevelingNetwork$Way" "LevelingNetwork$Way" "survey" "LLevelingNetwork$Survey;" ∈ jk_WS := jk_wt1 (i := 227) (by decide +kernel) rfl
theorem jw_229 : Cond.laysFinal "LevelingNetwork$Way" "LevelingNetwork$Way" "forest" "LLevelingNetwork$Forest;" ∈ jk_WS := jk_wt1 (i := 229) (by decide +kernel) rfl
theorem jw_231 : Cond.laysFinal "LevelingNetwork$Way" "LevelingNetwork$Way" "lines" "[I" ∈ jk_WS := jk_wt1 (i := 231) (by decide +kernel) rfl
theorem jw_233 : Cond.laysFinal "LevelingNetwork$Way" "LevelingNetwork$Way" "signs" "[I" ∈ jk_WS := jk_wt1 (i := 233) (by decide +kernel) rfl
theorem jw_235 : Cond.lays "LevelingNetwork$Way" "LevelingNetwork$Way" "size" "I" ∈ jk_WS := jk_wt1 (i := 235) (by decide +kernel) rfl
theorem jw_237 : Cond.superclass "LevelingNetwork$Way" "java/lang/Object" ∈ jk_WS := jk_wt1 (i := 237) (by decide +kernel) rfl
theorem jw_238 : Cond.classLink "LevelingNetwork" 47 "LevelingNetwork$Sharing" ∈ jk_WS := jk_wt1 (i := 238) (by decide +kernel) rfl
theorem jw_239 : Cond.instantiable "LevelingNetwork$Sharing" 3 ∈ jk_WS := jk_wt1 (i := 239) (by decide +kernel) rfl
theorem jw_240 : Cond.methodLink "LevelingNetwork" 49 ⟨"LevelingNetwork$Sharing", "<init>", "(LLevelingNetwork$Survey;)V"⟩ ∈ jk_WS := jk_wt2 (i := 0) (by decide +kernel) rfl
theorem jw_241 : Cond.instanceMethod ⟨"LevelingNetwork$Sharing", "<init>", "(LLevelingNetwork$Survey;)V"⟩ ∈ jk_WS := jk_wt2 (i := 1) (by decide +kernel) rfl
theorem jw_242 : Cond.code ⟨"LevelingNetwork$Sharing", "<init>", "(LLevelingNetwork$Survey;)V"⟩ prog_10_method_1_code 2 (Option.none : Option ClassFile.FieldType) ∈ jk_WS := jk_wt2 (i := 2) (by decide +kernel) rfl
theorem jw_243 : Cond.methodLink "LevelingNetwork$Sharing" 3 ⟨"java/lang/Object", "<init>", "()V"⟩ ∈ jk_WS := jk_wt2 (i := 3) (by decide +kernel) rfl
theorem jw_244 : Cond.fieldLink "LevelingNetwork$Sharing" 18 "LevelingNetwork$Sharing" "survey" "LLevelingNetwork$Survey;" ∈ jk_WS := jk_wt2 (i := 4) (by decide +kernel) rfl
theorem jw_245 : Cond.fieldLink "LevelingNetwork$Sharing" 9 "LevelingNetwork$Sharing" "parts" "[I" ∈ jk_WS := jk_wt2 (i := 5) (by decide +kernel) rfl
theorem jw_246 : Cond.fieldLink "LevelingNetwork" 283 "LevelingNetwork$Sharing" "parts" "[I" ∈ jk_WS := jk_wt2 (i := 6) (by decide +kernel) rfl
theorem jw_247 : Cond.fieldLink "LevelingNetwork$Sharing" 15 "LevelingNetwork$Sharing" "remainders" "[I" ∈ jk_WS := jk_wt2 (i := 7) (by decide +kernel) rfl
theorem jw_248 : Cond.laysFinal "LevelingNetwork$Sharing" "LevelingNetwork$Sharing" "survey" "LLevelingNetwork$Survey;" ∈ jk_WS := jk_wt2 (i := 8) (by decide +kernel) rfl
theorem jw_250 : Cond.laysFinal "LevelingNetwork$Sharing" "LevelingNetwork$Sharing" "parts" "[I" ∈ jk_WS := jk_wt2 (i := 10) (by decide +kernel) rfl
theorem jw_252 : Cond.laysFinal "LevelingNetwork$Sharing" "LevelingNetwork$Sharing" "remainders" "[I" ∈ jk_WS := jk_wt2 (i := 12) (by decide +kernel) rfl
theorem jw_254 : Cond.superclass "LevelingNetwork$Sharing" "java/lang/Object" ∈ jk_WS := jk_wt2 (i := 14) (by decide +kernel) rfl
theorem jw_255 : Cond.classLink "LevelingNetwork" 54 "LevelingNetwork$Heights" ∈ jk_WS := jk_wt2 (i := 15) (by decide +kernel) rfl
theorem jw_256 : Cond.instantiable "LevelingNetwork$Heights" 5 ∈ jk_WS := jk_wt2 (i := 16) (by decide +kernel) rfl
theorem jw_257 : Cond.methodLink "LevelingNetwork" 56 ⟨"LevelingNetwork$Heights", "<init>", "(LLevelingNetwork$Survey;LLevelingNetwork$Forest;)V"⟩ ∈ jk_WS := jk_wt2 (i := 17) (by decide +kernel) rfl
theorem jw_258 : Cond.instanceMethod ⟨"LevelingNetwork$Heights", "<init>", "(LLevelingNetwork$Survey;LLevelingNetwork$Forest;)V"⟩ ∈ jk_WS := jk_wt2 (i := 18) (by decide +kernel) rfl
theorem jw_259 : Cond.code ⟨"LevelingNetwork$Heights", "<init>", "(LLevelingNetwork$Survey;LLevelingNetwork$Forest;)V"⟩ prog_6_method_1_code 3 (Option.none : Option ClassFile.FieldType) ∈ jk_WS := jk_wt2 (i := 19) (by decide +kernel) rfl
theorem jw_260 : Cond.methodLink "LevelingNetwork$Heights" 3 ⟨"java/lang/Object", "<init>", "()V"⟩ ∈ jk_WS := jk_wt2 (i := 20) (by decide +kernel) rfl
theorem jw_261 : Cond.classLink "LevelingNetwork$Heights" 27 "LevelingNetwork$Way" ∈ jk_WS := jk_wt2 (i := 21) (by decide +kernel) rfl
theorem jw_262 : Cond.methodLink "LevelingNetwork$Heights" 29 ⟨"LevelingNetwork$Way", "<init>", "(LLevelingNetwork$Survey;LLevelingNetwork$Forest;)V"⟩ ∈ jk_WS := jk_wt2 (i := 22) (by decide +kernel) rfl
theorem jw_263 : Cond.fieldLink "LevelingNetwork$Heights" 19 "LevelingNetwork$Heights" "survey" "LLevelingNetwork$Survey;" ∈ jk_WS := jk_wt2 (i := 23) (by decide +kernel) rfl
theorem jw_264 : Cond.fieldLink "LevelingNetwork$Heights" 23 "LevelingNetwork$Heights" "forest" "LLevelingNetwork$Forest;" ∈ jk_WS := jk_wt2 (i := 24) (by decide +kernel) rfl
theorem jw_265 : Cond.fieldLink "LevelingNetwork$Heights" 32 "LevelingNetwork$Heights" "way" "LLevelingNetwork$Way;" ∈ jk_WS := jk_wt2 (i := 25) (by decide +kernel) rfl
theorem jw_266 : Cond.fieldLink "LevelingNetwork$Heights" 9 "LevelingNetwork$Heights" "known" "[Z" ∈ jk_WS := jk_wt2 (i := 26) (by decide +kernel) rfl
theorem jw_267 : Cond.fieldLink "LevelingNetwork$Heights" 15 "LevelingNetwork$Heights" "level" "[I" ∈ jk_WS := jk_wt2 (i := 27) (by decide +kernel) rfl
theorem jw_268 : Cond.laysFinal "LevelingNetwork$Heights" "LevelingNetwork$Heights" "survey" "LLevelingNetwork$Survey;" ∈ jk_WS := jk_wt2 (i := 28) (by decide +kernel) rfl
theorem jw_270 : Cond.laysFinal "LevelingNetwork$Heights" "LevelingNetwork$Heights" "forest" "LLevelingNetwork$Forest;" ∈ jk_WS := jk_wt2 (i := 30) (by decide +kernel) rfl
theorem jw_272 : Cond.laysFinal "LevelingNetwork$Heights" "LevelingNetwork$Heights" "way" "LLevelingNetwork$Way;" ∈ jk_WS := jk_wt2 (i := 32) (by decide +kernel) rfl
theorem jw_274 : Cond.laysFinal "LevelingNetwork$Heights" "LevelingNetwork$Heights" "known" "[Z" ∈ jk_WS := jk_wt2 (i := 34) (by decide +kernel) rfl
theorem jw_276 : Cond.laysFinal "LevelingNetwork$Heights" "LevelingNetwork$Heights" "level" "[I" ∈ jk_WS := jk_wt2 (i := 36) (by decide +kernel) rfl
theorem jw_278 : Cond.superclass "LevelingNetwork$Heights" "java/lang/Object" ∈ jk_WS := jk_wt2 (i := 38) (by decide +kernel) rfl
theorem jw_279 : Cond.classLink "LevelingNetwork" 61 "LevelingNetwork$Bank" ∈ jk_WS := jk_wt2 (i := 39) (by decide +kernel) rfl
theorem jw_280 : Cond.instantiable "LevelingNetwork$Bank" 1 ∈ jk_WS := jk_wt2 (i := 40) (by decide +kernel) rfl
theorem jw_281 : Cond.methodLink "LevelingNetwork" 63 ⟨"LevelingNetwork$Bank", "<init>", "(LLevelingNetwork$Survey;)V"⟩ ∈ jk_WS := jk_wt2 (i := 41) (by decide +kernel) rfl
theorem jw_282 : Cond.instanceMethod ⟨"LevelingNetwork$Bank", "<init>", "(LLevelingNetwork$Survey;)V"⟩ ∈ jk_WS := jk_wt2 (i := 42) (by decide +kernel) rfl
theorem jw_283 : Cond.code ⟨"LevelingNetwork$Bank", "<init>", "(LLevelingNetwork$Survey;)V"⟩ prog_3_method_1_code 2 (Option.none : Option ClassFile.FieldType) ∈ jk_WS := jk_wt2 (i := 43) (by decide +kernel) rfl
theorem jw_284 : Cond.methodLink "LevelingNetwork$Bank" 3 ⟨"java/lang/Object", "<init>", "()V"⟩ ∈ jk_WS := jk_wt2 (i := 44) (by decide +kernel) rfl
theorem jw_285 : Cond.fieldLink "LevelingNetwork$Bank" 9 "LevelingNetwork$Bank" "survey" "LLevelingNetwork$Survey;" ∈ jk_WS := jk_wt2 (i := 45) (by decide +kernel) rfl
theorem jw_286 : Cond.laysFinal "LevelingNetwork$Bank" "LevelingNetwork$Bank" "survey" "LLevelingNetwork$Survey;" ∈ jk_WS := jk_wt2 (i := 46) (by decide +kernel) rfl
theorem jw_288 : Cond.superclass "LevelingNetwork$Bank" "java/lang/Object" ∈ jk_WS := jk_wt2 (i := 48) (by decide +kernel) rfl
theorem jw_289 : Cond.classLink "LevelingNetwork" 68 "LevelingNetwork$Changes" ∈ jk_WS := jk_wt2 (i := 49) (by decide +kernel) rfl
theorem jw_290 : Cond.instantiable "LevelingNetwork$Changes" 4 ∈ jk_WS := jk_wt2 (i := 50) (by decide +kernel) rfl
theorem jw_291 : Cond.methodLink "LevelingNetwork" 70 ⟨"LevelingNetwork$Changes", "<init>", "(LLevelingNetwork$Survey;LLevelingNetwork$Forest;LLevelingNetwork$Way;LLevelingNetwork$Sharing;)V"⟩ ∈ jk_WS := jk_wt2 (i := 51) (by decide +kernel) rfl
theorem jw_292 : Cond.instanceMethod ⟨"LevelingNetwork$Changes", "<init>", "(LLevelingNetwork$Survey;LLevelingNetwork$Forest;LLevelingNetwork$Way;LLevelingNetwork$Sharing;)V"⟩ ∈ jk_WS := jk_wt2 (i := 52) (by decide +kernel) rfl
theorem jw_293 : Cond.code ⟨"LevelingNetwork$Changes", "<init>", "(LLevelingNetwork$Survey;LLevelingNetwork$Forest;LLevelingNetwork$Way;LLevelingNetwork$Sharing;)V"⟩ prog_4_method_1_code 5 (Option.none : Option ClassFile.FieldType) ∈ jk_WS := jk_wt2 (i := 53) (by decide +kernel) rfl
theorem jw_294 : Cond.methodLink "LevelingNetwork$Changes" 3 ⟨"java/lang/Object", "<init>", "()V"⟩ ∈ jk_WS := jk_wt2 (i := 54) (by decide +kernel) rfl
theorem jw_295 : Cond.fieldLink "LevelingNetwork$Changes" 9 "LevelingNetwork$Changes" "survey" "LLevelingNetwork$Survey;" ∈ jk_WS := jk_wt2 (i := 55) (by decide +kernel) rfl
theorem jw_296 : Cond.fieldLink "LevelingNetwork$Changes" 15 "LevelingNetwork$Changes" "forest" "LLevelingNetwork$Forest;" ∈ jk_WS := jk_wt2 (i := 56) (by decide +kernel) rfl
theorem jw_297 : Cond.fieldLink "LevelingNetwork$Changes" 19 "LevelingNetwork$Changes" "loopWay" "LLevelingNetwork$Way;" ∈ jk_WS := jk_wt2 (i := 57) (by decide +kernel) rfl
theorem jw_298 : Cond.fieldLink "LevelingNetwork$Changes" 23 "LevelingNetwork$Changes" "sharing" "LLevelingNetwork$Sharing;" ∈ jk_WS := jk_wt2 (i := 58) (by decide +kernel) rfl
theorem jw_299 : Cond.laysFinal "LevelingNetwork$Changes" "LevelingNetwork$Changes" "survey" "LLevelingNetwork$Survey;" ∈ jk_WS := jk_wt2 (i := 59) (by decide +kernel) rfl
theorem jw_301 : Cond.laysFinal "LevelingNetwork$Changes" "LevelingNetwork$Changes" "forest" "LLevelingNetwork$Forest;" ∈ jk_WS := jk_wt2 (i := 61) (by decide +kernel) rfl
theorem jw_303 : Cond.laysFinal "LevelingNetwork$Changes" "LevelingNetwork$Changes" "loopWay" "LLevelingNetwork$Way;" ∈ jk_WS := jk_wt2 (i := 63) (by decide +kernel) rfl
theorem jw_305 : Cond.laysFinal "LevelingNetwork$Changes" "LevelingNetwork$Changes" "sharing" "LLevelingNetwork$Sharing;" ∈ jk_WS := jk_wt2 (i := 65) (by decide +kernel) rfl
theorem jw_307 : Cond.superclass "LevelingNetwork$Changes" "java/lang/Object" ∈ jk_WS := jk_wt2 (i := 67) (by decide +kernel) rfl
theorem jw_308 : Cond.classLink "LevelingNetwork" 77 "LevelingNetwork$Script" ∈ jk_WS := jk_wt2 (i := 68) (by decide +kernel) rfl
theorem jw_309 : Cond.instantiable "LevelingNetwork$Script" 6 ∈ jk_WS := jk_wt2 (i := 69) (by decide +kernel) rfl
theorem jw_310 : Cond.methodLinkNest "LevelingNetwork" 79 ⟨"LevelingNetwork$Script", "<init>", "()V"⟩ "LevelingNetwork" ∈ jk_WS := jk_wt2 (i := 70) (by decide +kernel) rfl
theorem jw_311 : Cond.instanceMethod ⟨"LevelingNetwork$Script", "<init>", "()V"⟩ ∈ jk_WS := jk_wt2 (i := 71) (by decide +kernel) rfl
theorem jw_312 : Cond.code ⟨"LevelingNetwork$Script", "<init>", "()V"⟩ prog_9_method_1_code 1 (Option.none : Option ClassFile.FieldType) ∈ jk_WS := jk_wt2 (i := 72) (by decide +kernel) rfl
theorem jw_313 : Cond.methodLink "LevelingNetwork$Script" 3 ⟨"java/lang/Object", "<init>", "()V"⟩ ∈ jk_WS := jk_wt2 (i := 73) (by decide +kernel) rfl
theorem jw_314 : Cond.classLink "LevelingNetwork$Script" 15 "LevelingNetwork$Kind" ∈ jk_WS := jk_wt2 (i := 74) (by decide +kernel) rfl
