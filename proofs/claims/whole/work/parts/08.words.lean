def jk_dummyW : Nat := 0
theorem jk_wt1 {i : Nat} {w : Cond} (h : tables_1_1[i]? = some w) (hk : jk_kw w = true) : w ∈ jk_WS := jk_ws (List.mem_append_right (k2_sels lw_privs) (List.mem_append_left _ (List.mem_of_getElem? h))) hk
theorem jk_wt2 {i : Nat} {w : Cond} (h : tables_1_2[i]? = some w) (hk : jk_kw w = true) : w ∈ jk_WS := jk_ws (List.mem_append_right (k2_sels lw_privs) (List.mem_append_right _ (List.mem_append_left _ (List.mem_of_getElem? h)))) hk
theorem jk_wt3 {i : Nat} {w : Cond} (h : tables_1_3[i]? = some w) (hk : jk_kw w = true) : w ∈ jk_WS := jk_ws (List.mem_append_right (k2_sels lw_privs) (List.mem_append_right _ (List.mem_append_right _ (List.mem_append_left _ (List.mem_of_getElem? h))))) hk
theorem jk_wt4 {i : Nat} {w : Cond} (h : tables_1_4[i]? = some w) (hk : jk_kw w = true) : w ∈ jk_WS := jk_ws (List.mem_append_right (k2_sels lw_privs) (List.mem_append_right _ (List.mem_append_right _ (List.mem_append_right _ (List.mem_append_left _ (List.mem_of_getElem? h)))))) hk
theorem jk_wt5 {i : Nat} {w : Cond} (h : tables_1_5[i]? = some w) (hk : jk_kw w = true) : w ∈ jk_WS := jk_ws (List.mem_append_right (k2_sels lw_privs) (List.mem_append_right _ (List.mem_append_right _ (List.mem_append_right _ (List.mem_append_right _ (List.mem_append_left _ (List.mem_of_getElem? h))))))) hk
theorem jk_wt6 {i : Nat} {w : Cond} (h : tables_1_6[i]? = some w) (hk : jk_kw w = true) : w ∈ jk_WS := jk_ws (List.mem_append_right (k2_sels lw_privs) (List.mem_append_right _ (List.mem_append_right _ (List.mem_append_right _ (List.mem_append_right _ (List.mem_append_right _ (List.mem_append_left _ (List.mem_of_getElem? h)))))))) hk
theorem jk_wt7 {i : Nat} {w : Cond} (h : tables_1_7[i]? = some w) (hk : jk_kw w = true) : w ∈ jk_WS := jk_ws (List.mem_append_right (k2_sels lw_privs) (List.mem_append_right _ (List.mem_append_right _ (List.mem_append_right _ (List.mem_append_right _ (List.mem_append_right _ (List.mem_append_right _ (List.mem_append_left _ (List.mem_of_getElem? h))))))))) hk
theorem jk_wt8 {i : Nat} {w : Cond} (h : tables_1_8[i]? = some w) (hk : jk_kw w = true) : w ∈ jk_WS := jk_ws (List.mem_append_right (k2_sels lw_privs) (List.mem_append_right _ (List.mem_append_right _ (List.mem_append_right _ (List.mem_append_right _ (List.mem_append_right _ (List.mem_append_right _ (List.mem_append_right _ (List.mem_append_left _ (List.mem_of_getElem? h)))))))))) hk
theorem jk_wt9 {i : Nat} {w : Cond} (h : tables_1_9[i]? = some w) (hk : jk_kw w = true) : w ∈ jk_WS := jk_ws (List.mem_append_right (k2_sels lw_privs) (List.mem_append_right _ (List.mem_append_right _ (List.mem_append_right _ (List.mem_append_right _ (List.mem_append_right _ (List.mem_append_right _ (List.mem_append_right _ (List.mem_append_right _ (List.mem_append_left _ (List.mem_of_getElem? h))))))))))) hk
theorem jk_wt10 {i : Nat} {w : Cond} (h : tables_1_10[i]? = some w) (hk : jk_kw w = true) : w ∈ jk_WS := jk_ws (List.mem_append_right (k2_sels lw_privs) (List.mem_append_right _ (List.mem_append_right _ (List.mem_append_right _ (List.mem_append_right _ (List.mem_append_right _ (List.mem_append_right _ (List.mem_append_right _ (List.mem_append_right _ (List.mem_append_right _ (List.mem_append_left _ (List.mem_of_getElem? h)))))))))))) hk
theorem jk_wt11 {i : Nat} {w : Cond} (h : tables_1_11[i]? = some w) (hk : jk_kw w = true) : w ∈ jk_WS := jk_ws (List.mem_append_right (k2_sels lw_privs) (List.mem_append_right _ (List.mem_append_right _ (List.mem_append_right _ (List.mem_append_right _ (List.mem_append_right _ (List.mem_append_right _ (List.mem_append_right _ (List.mem_append_right _ (List.mem_append_right _ (List.mem_append_right _ (List.mem_of_getElem? h)))))))))))) hk
theorem jk_wts {i : Nat} {w : Cond} (h : (k2_sels lw_privs)[i]? = some w) (hk : jk_kw w = true) : w ∈ jk_WS := jk_ws (List.mem_append_left tables_1 (List.mem_of_getElem? h)) hk
theorem jw_0 : Cond.initialized "LevelingNetworkLaw" ∈ jk_WS := jk_wt1 (i := 0) (by decide +kernel) rfl
theorem jw_1 : Cond.initialized "LevelingNetwork" ∈ jk_WS := jk_wt1 (i := 1) (by decide +kernel) rfl
theorem jw_2 : Cond.initialized "LevelingNetwork$Survey" ∈ jk_WS := jk_wt1 (i := 2) (by decide +kernel) rfl
theorem jw_3 : Cond.initialized "LevelingNetwork$History" ∈ jk_WS := jk_wt1 (i := 3) (by decide +kernel) rfl
theorem jw_4 : Cond.initialized "LevelingNetwork$Forest" ∈ jk_WS := jk_wt1 (i := 4) (by decide +kernel) rfl
theorem jw_5 : Cond.initialized "LevelingNetwork$Way" ∈ jk_WS := jk_wt1 (i := 5) (by decide +kernel) rfl
theorem jw_6 : Cond.initialized "LevelingNetwork$Sharing" ∈ jk_WS := jk_wt1 (i := 6) (by decide +kernel) rfl
theorem jw_7 : Cond.initialized "LevelingNetwork$Heights" ∈ jk_WS := jk_wt1 (i := 7) (by decide +kernel) rfl
theorem jw_8 : Cond.initialized "LevelingNetwork$Bank" ∈ jk_WS := jk_wt1 (i := 8) (by decide +kernel) rfl
theorem jw_9 : Cond.initialized "LevelingNetwork$Changes" ∈ jk_WS := jk_wt1 (i := 9) (by decide +kernel) rfl
theorem jw_10 : Cond.initialized "LevelingNetwork$Script" ∈ jk_WS := jk_wt1 (i := 10) (by decide +kernel) rfl
theorem jw_11 : Cond.initialized "java/lang/AbstractStringBuilder" ∈ jk_WS := jk_wt1 (i := 11) (by decide +kernel) rfl
theorem jw_12 : Cond.initialized "java/lang/StringBuilder" ∈ jk_WS := jk_wt1 (i := 12) (by decide +kernel) rfl
theorem jw_13 : Cond.initialized "java/lang/String" ∈ jk_WS := jk_wt1 (i := 13) (by decide +kernel) rfl
theorem jw_14 : Cond.initialized "java/lang/StringUTF16" ∈ jk_WS := jk_wt1 (i := 14) (by decide +kernel) rfl
theorem jw_15 : Cond.initialized "LevelingNetworkModel" ∈ jk_WS := jk_wt1 (i := 15) (by decide +kernel) rfl
theorem jw_16 : Cond.initialized "java/lang/Enum" ∈ jk_WS := jk_wt1 (i := 16) (by decide +kernel) rfl
theorem jw_17 : Cond.initialized "LevelingNetwork$Kind" ∈ jk_WS := jk_wt1 (i := 17) (by decide +kernel) rfl
theorem jw_18 : Cond.initialized "LevelingNetwork$1" ∈ jk_WS := jk_wt1 (i := 18) (by decide +kernel) rfl
theorem jw_19 : Cond.initialized "LevelingNetwork$Trouble" ∈ jk_WS := jk_wt1 (i := 19) (by decide +kernel) rfl
theorem jw_20 : Cond.initialized "java/lang/Math" ∈ jk_WS := jk_wt1 (i := 20) (by decide +kernel) rfl
theorem jw_21 : Cond.initialized "java/lang/Throwable" ∈ jk_WS := jk_wt1 (i := 21) (by decide +kernel) rfl
theorem jw_22 : Cond.initialized "java/lang/Exception" ∈ jk_WS := jk_wt1 (i := 22) (by decide +kernel) rfl
theorem jw_23 : Cond.initialized "java/lang/RuntimeException" ∈ jk_WS := jk_wt1 (i := 23) (by decide +kernel) rfl
theorem jw_24 : Cond.initialized "java/lang/IndexOutOfBoundsException" ∈ jk_WS := jk_wt1 (i := 24) (by decide +kernel) rfl
theorem jw_25 : Cond.initialized "java/lang/IllegalArgumentException" ∈ jk_WS := jk_wt1 (i := 25) (by decide +kernel) rfl
theorem jw_26 : Cond.initialized "java/lang/IllegalStateException" ∈ jk_WS := jk_wt1 (i := 26) (by decide +kernel) rfl
theorem jw_27 : Cond.initialized "java/util/NoSuchElementException" ∈ jk_WS := jk_wt1 (i := 27) (by decide +kernel) rfl
theorem jw_28 : Cond.initialized "java/lang/UnsupportedOperationException" ∈ jk_WS := jk_wt1 (i := 28) (by decide +kernel) rfl
theorem jw_29 : Cond.initialized "java/lang/ArrayIndexOutOfBoundsException" ∈ jk_WS := jk_wt1 (i := 29) (by decide +kernel) rfl
theorem jw_30 : Cond.initialized "java/lang/ArithmeticException" ∈ jk_WS := jk_wt1 (i := 30) (by decide +kernel) rfl
theorem jw_31 : Cond.initialized "java/lang/StringIndexOutOfBoundsException" ∈ jk_WS := jk_wt1 (i := 31) (by decide +kernel) rfl
theorem jw_32 : Cond.initialized "jdk/internal/util/ArraysSupport" ∈ jk_WS := jk_wt1 (i := 32) (by decide +kernel) rfl
theorem jw_33 : Cond.initialized "java/util/Arrays" ∈ jk_WS := jk_wt1 (i := 33) (by decide +kernel) rfl
theorem jw_34 : Cond.initialized "java/lang/System" ∈ jk_WS := jk_wt1 (i := 34) (by decide +kernel) rfl
theorem jw_35 : Cond.initialized "jdk/internal/util/Preconditions" ∈ jk_WS := jk_wt1 (i := 35) (by decide +kernel) rfl
theorem jw_36 : Cond.initialized "java/lang/StringLatin1" ∈ jk_WS := jk_wt1 (i := 36) (by decide +kernel) rfl
theorem jw_37 : Cond.initialized "java/lang/Number" ∈ jk_WS := jk_wt1 (i := 37) (by decide +kernel) rfl
theorem jw_38 : Cond.initialized "java/lang/Integer" ∈ jk_WS := jk_wt1 (i := 38) (by decide +kernel) rfl
theorem jw_39 : Cond.classLink "LevelingNetworkLaw" 8 "LevelingNetwork" ∈ jk_WS := jk_wt1 (i := 39) (by decide +kernel) rfl
theorem jw_40 : Cond.instantiable "LevelingNetwork" 15 ∈ jk_WS := jk_wt1 (i := 40) (by decide +kernel) rfl
theorem jw_41 : Cond.methodLink "LevelingNetworkLaw" 187 ⟨"LevelingNetwork", "<init>", "()V"⟩ ∈ jk_WS := jk_wt1 (i := 41) (by decide +kernel) rfl
theorem jw_42 : Cond.instanceMethod ⟨"LevelingNetwork", "<init>", "()V"⟩ ∈ jk_WS := jk_wt1 (i := 42) (by decide +kernel) rfl
theorem jw_43 : Cond.code ⟨"LevelingNetwork", "<init>", "()V"⟩ prog_1_method_1_code 1 (Option.none : Option ClassFile.FieldType) ∈ jk_WS := jk_wt1 (i := 43) (by decide +kernel) rfl
theorem jw_44 : Cond.methodLink "LevelingNetwork" 1 ⟨"java/lang/Object", "<init>", "()V"⟩ ∈ jk_WS := jk_wt1 (i := 44) (by decide +kernel) rfl
theorem jw_45 : Cond.instanceMethod ⟨"java/lang/Object", "<init>", "()V"⟩ ∈ jk_WS := jk_wt1 (i := 45) (by decide +kernel) rfl
theorem jw_46 : Cond.code ⟨"java/lang/Object", "<init>", "()V"⟩ object_method_1_code 1 (Option.none : Option ClassFile.FieldType) ∈ jk_WS := jk_wt1 (i := 46) (by decide +kernel) rfl
theorem jw_47 : Cond.classLink "LevelingNetwork" 7 "LevelingNetwork$Survey" ∈ jk_WS := jk_wt1 (i := 47) (by decide +kernel) rfl
theorem jw_48 : Cond.instantiable "LevelingNetwork$Survey" 18 ∈ jk_WS := jk_wt1 (i := 48) (by decide +kernel) rfl
theorem jw_49 : Cond.methodLinkNest "LevelingNetwork" 9 ⟨"LevelingNetwork$Survey", "<init>", "()V"⟩ "LevelingNetwork" ∈ jk_WS := jk_wt1 (i := 49) (by decide +kernel) rfl
theorem jw_50 : Cond.instanceMethod ⟨"LevelingNetwork$Survey", "<init>", "()V"⟩ ∈ jk_WS := jk_wt1 (i := 50) (by decide +kernel) rfl
theorem jw_51 : Cond.code ⟨"LevelingNetwork$Survey", "<init>", "()V"⟩ prog_11_method_1_code 1 (Option.none : Option ClassFile.FieldType) ∈ jk_WS := jk_wt1 (i := 51) (by decide +kernel) rfl
theorem jw_52 : Cond.methodLink "LevelingNetwork$Survey" 3 ⟨"java/lang/Object", "<init>", "()V"⟩ ∈ jk_WS := jk_wt1 (i := 52) (by decide +kernel) rfl
theorem jw_53 : Cond.classLink "LevelingNetwork$Survey" 49 "[[I" ∈ jk_WS := jk_wt1 (i := 53) (by decide +kernel) rfl
theorem jw_54 : Cond.arrayOver (ClassFile.FieldType.array ClassFile.FieldType.int) ∈ jk_WS := jk_wt1 (i := 54) (by decide +kernel) rfl
theorem jw_55 : Cond.fieldLink "LevelingNetwork$Heights" 36 "LevelingNetwork$Survey" "benchmarks" "I" ∈ jk_WS := jk_wt1 (i := 55) (by decide +kernel) rfl
theorem jw_56 : Cond.fieldLink "LevelingNetwork$Changes" 39 "LevelingNetwork$Survey" "benchmarks" "I" ∈ jk_WS := jk_wt1 (i := 56) (by decide +kernel) rfl
theorem jw_57 : Cond.fieldLink "LevelingNetwork$Survey" 71 "LevelingNetwork$Survey" "benchmarks" "I" ∈ jk_WS := jk_wt1 (i := 57) (by decide +kernel) rfl
theorem jw_58 : Cond.fieldLink "LevelingNetwork$Forest" 67 "LevelingNetwork$Survey" "benchmarks" "I" ∈ jk_WS := jk_wt1 (i := 58) (by decide +kernel) rfl
theorem jw_59 : Cond.fieldLink "LevelingNetwork" 141 "LevelingNetwork$Survey" "benchmarks" "I" ∈ jk_WS := jk_wt1 (i := 59) (by decide +kernel) rfl
theorem jw_60 : Cond.fieldLink "LevelingNetwork$Survey" 9 "LevelingNetwork$Survey" "fixed" "[Z" ∈ jk_WS := jk_wt1 (i := 60) (by decide +kernel) rfl
theorem jw_61 : Cond.fieldLink "LevelingNetwork$Heights" 42 "LevelingNetwork$Survey" "fixed" "[Z" ∈ jk_WS := jk_wt1 (i := 61) (by decide +kernel) rfl
theorem jw_62 : Cond.fieldLink "LevelingNetwork$Changes" 106 "LevelingNetwork$Survey" "fixed" "[Z" ∈ jk_WS := jk_wt1 (i := 62) (by decide +kernel) rfl
theorem jw_63 : Cond.fieldLink "LevelingNetwork" 148 "LevelingNetwork$Survey" "fixed" "[Z" ∈ jk_WS := jk_wt1 (i := 63) (by decide +kernel) rfl
theorem jw_64 : Cond.fieldLink "LevelingNetwork$Survey" 15 "LevelingNetwork$Survey" "fixedHeight" "[I" ∈ jk_WS := jk_wt1 (i := 64) (by decide +kernel) rfl
theorem jw_65 : Cond.fieldLink "LevelingNetwork$Heights" 54 "LevelingNetwork$Survey" "fixedHeight" "[I" ∈ jk_WS := jk_wt1 (i := 65) (by decide +kernel) rfl
theorem jw_66 : Cond.fieldLink "LevelingNetwork$Changes" 176 "LevelingNetwork$Survey" "fixedHeight" "[I" ∈ jk_WS := jk_wt1 (i := 66) (by decide +kernel) rfl
theorem jw_67 : Cond.fieldLink "LevelingNetwork" 179 "LevelingNetwork$Survey" "fixedHeight" "[I" ∈ jk_WS := jk_wt1 (i := 67) (by decide +kernel) rfl
theorem jw_68 : Cond.fieldLink "LevelingNetwork$Forest" 40 "LevelingNetwork$Survey" "lines" "I" ∈ jk_WS := jk_wt1 (i := 68) (by decide +kernel) rfl
theorem jw_69 : Cond.fieldLink "LevelingNetwork$Survey" 74 "LevelingNetwork$Survey" "lines" "I" ∈ jk_WS := jk_wt1 (i := 69) (by decide +kernel) rfl
theorem jw_70 : Cond.fieldLink "LevelingNetwork$Way" 46 "LevelingNetwork$Survey" "lines" "I" ∈ jk_WS := jk_wt1 (i := 70) (by decide +kernel) rfl
theorem jw_71 : Cond.fieldLink "LevelingNetwork$Changes" 113 "LevelingNetwork$Survey" "lines" "I" ∈ jk_WS := jk_wt1 (i := 71) (by decide +kernel) rfl
theorem jw_72 : Cond.fieldLink "LevelingNetwork$Heights" 84 "LevelingNetwork$Survey" "lines" "I" ∈ jk_WS := jk_wt1 (i := 72) (by decide +kernel) rfl
theorem jw_73 : Cond.fieldLink "LevelingNetwork" 193 "LevelingNetwork$Survey" "lines" "I" ∈ jk_WS := jk_wt1 (i := 73) (by decide +kernel) rfl
theorem jw_74 : Cond.fieldLink "LevelingNetwork$Survey" 19 "LevelingNetwork$Survey" "first" "[I" ∈ jk_WS := jk_wt1 (i := 74) (by decide +kernel) rfl
theorem jw_75 : Cond.fieldLink "LevelingNetwork$Way" 34 "LevelingNetwork$Survey" "first" "[I" ∈ jk_WS := jk_wt1 (i := 75) (by decide +kernel) rfl
theorem jw_76 : Cond.fieldLink "LevelingNetwork$Forest" 52 "LevelingNetwork$Survey" "first" "[I" ∈ jk_WS := jk_wt1 (i := 76) (by decide +kernel) rfl
theorem jw_77 : Cond.fieldLink "LevelingNetwork$Heights" 71 "LevelingNetwork$Survey" "first" "[I" ∈ jk_WS := jk_wt1 (i := 77) (by decide +kernel) rfl
theorem jw_78 : Cond.fieldLink "LevelingNetwork$Changes" 211 "LevelingNetwork$Survey" "first" "[I" ∈ jk_WS := jk_wt1 (i := 78) (by decide +kernel) rfl
theorem jw_79 : Cond.fieldLink "LevelingNetwork" 199 "LevelingNetwork$Survey" "first" "[I" ∈ jk_WS := jk_wt1 (i := 79) (by decide +kernel) rfl
theorem jw_80 : Cond.fieldLink "LevelingNetwork$Survey" 22 "LevelingNetwork$Survey" "second" "[I" ∈ jk_WS := jk_wt1 (i := 80) (by decide +kernel) rfl
theorem jw_81 : Cond.fieldLink "LevelingNetwork$Way" 43 "LevelingNetwork$Survey" "second" "[I" ∈ jk_WS := jk_wt1 (i := 81) (by decide +kernel) rfl
theorem jw_82 : Cond.fieldLink "LevelingNetwork$Forest" 55 "LevelingNetwork$Survey" "second" "[I" ∈ jk_WS := jk_wt1 (i := 82) (by decide +kernel) rfl
theorem jw_83 : Cond.fieldLink "LevelingNetwork$Heights" 74 "LevelingNetwork$Survey" "second" "[I" ∈ jk_WS := jk_wt1 (i := 83) (by decide +kernel) rfl
theorem jw_84 : Cond.fieldLink "LevelingNetwork$Changes" 214 "LevelingNetwork$Survey" "second" "[I" ∈ jk_WS := jk_wt1 (i := 84) (by decide +kernel) rfl
theorem jw_85 : Cond.fieldLink "LevelingNetwork" 202 "LevelingNetwork$Survey" "second" "[I" ∈ jk_WS := jk_wt1 (i := 85) (by decide +kernel) rfl
theorem jw_86 : Cond.fieldLink "LevelingNetwork$Survey" 25 "LevelingNetwork$Survey" "length" "[I" ∈ jk_WS := jk_wt1 (i := 86) (by decide +kernel) rfl
theorem jw_87 : Cond.fieldLink "LevelingNetwork$Sharing" 44 "LevelingNetwork$Survey" "length" "[I" ∈ jk_WS := jk_wt1 (i := 87) (by decide +kernel) rfl
theorem jw_88 : Cond.fieldLink "LevelingNetwork$Forest" 49 "LevelingNetwork$Survey" "length" "[I" ∈ jk_WS := jk_wt1 (i := 88) (by decide +kernel) rfl
theorem jw_89 : Cond.fieldLink "LevelingNetwork$Way" 62 "LevelingNetwork$Survey" "length" "[I" ∈ jk_WS := jk_wt1 (i := 89) (by decide +kernel) rfl
theorem jw_90 : Cond.fieldLink "LevelingNetwork$Changes" 217 "LevelingNetwork$Survey" "length" "[I" ∈ jk_WS := jk_wt1 (i := 90) (by decide +kernel) rfl
theorem jw_91 : Cond.fieldLink "LevelingNetwork" 205 "LevelingNetwork$Survey" "length" "[I" ∈ jk_WS := jk_wt1 (i := 91) (by decide +kernel) rfl
theorem jw_92 : Cond.fieldLink "LevelingNetwork$Survey" 28 "LevelingNetwork$Survey" "forward" "[I" ∈ jk_WS := jk_wt1 (i := 92) (by decide +kernel) rfl
theorem jw_93 : Cond.fieldLink "LevelingNetwork$Changes" 220 "LevelingNetwork$Survey" "forward" "[I" ∈ jk_WS := jk_wt1 (i := 93) (by decide +kernel) rfl
theorem jw_94 : Cond.fieldLink "LevelingNetwork$Survey" 31 "LevelingNetwork$Survey" "backward" "[I" ∈ jk_WS := jk_wt1 (i := 94) (by decide +kernel) rfl
theorem jw_95 : Cond.fieldLink "LevelingNetwork$Changes" 186 "LevelingNetwork$Survey" "backward" "[I" ∈ jk_WS := jk_wt1 (i := 95) (by decide +kernel) rfl
theorem jw_96 : Cond.fieldLink "LevelingNetwork$Survey" 34 "LevelingNetwork$Survey" "doubleRun" "[Z" ∈ jk_WS := jk_wt1 (i := 96) (by decide +kernel) rfl
theorem jw_97 : Cond.fieldLink "LevelingNetwork$Changes" 119 "LevelingNetwork$Survey" "doubleRun" "[Z" ∈ jk_WS := jk_wt1 (i := 97) (by decide +kernel) rfl
theorem jw_98 : Cond.fieldLink "LevelingNetwork" 214 "LevelingNetwork$Survey" "doubleRun" "[Z" ∈ jk_WS := jk_wt1 (i := 98) (by decide +kernel) rfl
theorem jw_99 : Cond.fieldLink "LevelingNetwork$Survey" 37 "LevelingNetwork$Survey" "excluded" "[Z" ∈ jk_WS := jk_wt1 (i := 99) (by decide +kernel) rfl
theorem jw_100 : Cond.fieldLink "LevelingNetwork$Changes" 122 "LevelingNetwork$Survey" "excluded" "[Z" ∈ jk_WS := jk_wt1 (i := 100) (by decide +kernel) rfl
theorem jw_101 : Cond.fieldLink "LevelingNetwork" 222 "LevelingNetwork$Survey" "excluded" "[Z" ∈ jk_WS := jk_wt1 (i := 101) (by decide +kernel) rfl
theorem jw_102 : Cond.fieldLink "LevelingNetwork$Survey" 40 "LevelingNetwork$Survey" "correction" "[I" ∈ jk_WS := jk_wt1 (i := 102) (by decide +kernel) rfl
theorem jw_103 : Cond.fieldLink "LevelingNetwork$Sharing" 53 "LevelingNetwork$Survey" "correction" "[I" ∈ jk_WS := jk_wt1 (i := 103) (by decide +kernel) rfl
theorem jw_104 : Cond.fieldLink "LevelingNetwork$Changes" 223 "LevelingNetwork$Survey" "correction" "[I" ∈ jk_WS := jk_wt1 (i := 104) (by decide +kernel) rfl
theorem jw_105 : Cond.fieldLink "LevelingNetwork" 211 "LevelingNetwork$Survey" "correction" "[I" ∈ jk_WS := jk_wt1 (i := 105) (by decide +kernel) rfl
theorem jw_106 : Cond.fieldLink "LevelingNetwork$Survey" 77 "LevelingNetwork$Survey" "profiles" "I" ∈ jk_WS := jk_wt1 (i := 106) (by decide +kernel) rfl
theorem jw_107 : Cond.fieldLink "LevelingNetwork$Changes" 160 "LevelingNetwork$Survey" "profiles" "I" ∈ jk_WS := jk_wt1 (i := 107) (by decide +kernel) rfl
theorem jw_108 : Cond.fieldLink "LevelingNetwork" 286 "LevelingNetwork$Survey" "profiles" "I" ∈ jk_WS := jk_wt1 (i := 108) (by decide +kernel) rfl
theorem jw_109 : Cond.fieldLink "LevelingNetwork$Survey" 43 "LevelingNetwork$Survey" "site" "[I" ∈ jk_WS := jk_wt1 (i := 109) (by decide +kernel) rfl
theorem jw_110 : Cond.fieldLink "LevelingNetwork$Changes" 235 "LevelingNetwork$Survey" "site" "[I" ∈ jk_WS := jk_wt1 (i := 110) (by decide +kernel) rfl
theorem jw_111 : Cond.fieldLink "LevelingNetwork" 304 "LevelingNetwork$Survey" "site" "[I" ∈ jk_WS := jk_wt1 (i := 111) (by decide +kernel) rfl
theorem jw_112 : Cond.fieldLink "LevelingNetwork$Survey" 46 "LevelingNetwork$Survey" "stations" "[I" ∈ jk_WS := jk_wt1 (i := 112) (by decide +kernel) rfl
theorem jw_113 : Cond.fieldLink "LevelingNetwork$Bank" 32 "LevelingNetwork$Survey" "stations" "[I" ∈ jk_WS := jk_wt1 (i := 113) (by decide +kernel) rfl
theorem jw_114 : Cond.fieldLink "LevelingNetwork$Changes" 166 "LevelingNetwork$Survey" "stations" "[I" ∈ jk_WS := jk_wt1 (i := 114) (by decide +kernel) rfl
theorem jw_115 : Cond.fieldLink "LevelingNetwork" 292 "LevelingNetwork$Survey" "stations" "[I" ∈ jk_WS := jk_wt1 (i := 115) (by decide +kernel) rfl
theorem jw_116 : Cond.fieldLink "LevelingNetwork$Survey" 51 "LevelingNetwork$Survey" "distance" "[[I" ∈ jk_WS := jk_wt1 (i := 116) (by decide +kernel) rfl
theorem jw_117 : Cond.fieldLink "LevelingNetwork$Bank" 26 "LevelingNetwork$Survey" "distance" "[[I" ∈ jk_WS := jk_wt1 (i := 117) (by decide +kernel) rfl
theorem jw_118 : Cond.fieldLink "LevelingNetwork$Changes" 169 "LevelingNetwork$Survey" "distance" "[[I" ∈ jk_WS := jk_wt1 (i := 118) (by decide +kernel) rfl
theorem jw_119 : Cond.fieldLink "LevelingNetwork$Survey" 54 "LevelingNetwork$Survey" "offset" "[[I" ∈ jk_WS := jk_wt1 (i := 119) (by decide +kernel) rfl
theorem jw_120 : Cond.fieldLink "LevelingNetwork$Bank" 36 "LevelingNetwork$Survey" "offset" "[[I" ∈ jk_WS := jk_wt1 (i := 120) (by decide +kernel) rfl
theorem jw_121 : Cond.fieldLink "LevelingNetwork$Changes" 238 "LevelingNetwork$Survey" "offset" "[[I" ∈ jk_WS := jk_wt1 (i := 121) (by decide +kernel) rfl
theorem jw_122 : Cond.fieldLink "LevelingNetwork$Survey" 67 "LevelingNetwork$Survey" "water" "I" ∈ jk_WS := jk_wt1 (i := 122) (by decide +kernel) rfl
theorem jw_123 : Cond.fieldLink "LevelingNetwork$Changes" 241 "LevelingNetwork$Survey" "water" "I" ∈ jk_WS := jk_wt1 (i := 123) (by decide +kernel) rfl
theorem jw_124 : Cond.fieldLink "LevelingNetwork" 295 "LevelingNetwork$Survey" "water" "I" ∈ jk_WS := jk_wt1 (i := 124) (by decide +kernel) rfl
theorem jw_125 : Cond.lays "LevelingNetwork$Survey" "LevelingNetwork$Survey" "benchmarks" "I" ∈ jk_WS := jk_wt1 (i := 125) (by decide +kernel) rfl
theorem jw_127 : Cond.laysFinal "LevelingNetwork$Survey" "LevelingNetwork$Survey" "fixed" "[Z" ∈ jk_WS := jk_wt1 (i := 127) (by decide +kernel) rfl
theorem jw_129 : Cond.laysFinal "LevelingNetwork$Survey" "LevelingNetwork$Survey" "fixedHeight" "[I" ∈ jk_WS := jk_wt1 (i := 129) (by decide +kernel) rfl
theorem jw_131 : Cond.lays "LevelingNetwork$Survey" "LevelingNetwork$Survey" "lines" "I" ∈ jk_WS := jk_wt1 (i := 131) (by decide +kernel) rfl
theorem jw_133 : Cond.laysFinal "LevelingNetwork$Survey" "LevelingNetwork$Survey" "first" "[I" ∈ jk_WS := jk_wt1 (i := 133) (by decide +kernel) rfl
theorem jw_135 : Cond.laysFinal "LevelingNetwork$Survey" "LevelingNetwork$Survey" "second" "[I" ∈ jk_WS := jk_wt1 (i := 135) (by decide +kernel) rfl
theorem jw_137 : Cond.laysFinal "LevelingNetwork$Survey" "LevelingNetwork$Survey" "length" "[I" ∈ jk_WS := jk_wt1 (i := 137) (by decide +kernel) rfl
theorem jw_139 : Cond.laysFinal "LevelingNetwork$Survey" "LevelingNetwork$Survey" "forward" "[I" ∈ jk_WS := jk_wt1 (i := 139) (by decide +kernel) rfl
theorem jw_141 : Cond.laysFinal "LevelingNetwork$Survey" "LevelingNetwork$Survey" "backward" "[I" ∈ jk_WS := jk_wt1 (i := 141) (by decide +kernel) rfl
theorem jw_143 : Cond.laysFinal "LevelingNetwork$Survey" "LevelingNetwork$Survey" "doubleRun" "[Z" ∈ jk_WS := jk_wt1 (i := 143) (by decide +kernel) rfl
theorem jw_145 : Cond.laysFinal "LevelingNetwork$Survey" "LevelingNetwork$Survey" "excluded" "[Z" ∈ jk_WS := jk_wt1 (i := 145) (by decide +kernel) rfl
theorem jw_147 : Cond.laysFinal "LevelingNetwork$Survey" "LevelingNetwork$Survey" "correction" "[I" ∈ jk_WS := jk_wt1 (i := 147) (by decide +kernel) rfl
theorem jw_149 : Cond.lays "LevelingNetwork$Survey" "LevelingNetwork$Survey" "profiles" "I" ∈ jk_WS := jk_wt1 (i := 149) (by decide +kernel) rfl
theorem jw_151 : Cond.laysFinal "LevelingNetwork$Survey" "LevelingNetwork$Survey" "site" "[I" ∈ jk_WS := jk_wt1 (i := 151) (by decide +kernel) rfl
theorem jw_153 : Cond.laysFinal "LevelingNetwork$Survey" "LevelingNetwork$Survey" "stations" "[I" ∈ jk_WS := jk_wt1 (i := 153) (by decide +kernel) rfl
theorem jw_155 : Cond.laysFinal "LevelingNetwork$Survey" "LevelingNetwork$Survey" "distance" "[[I" ∈ jk_WS := jk_wt1 (i := 155) (by decide +kernel) rfl
theorem jw_157 : Cond.laysFinal "LevelingNetwork$Survey" "LevelingNetwork$Survey" "offset" "[[I" ∈ jk_WS := jk_wt1 (i := 157) (by decide +kernel) rfl
theorem jw_159 : Cond.lays "LevelingNetwork$Survey" "LevelingNetwork$Survey" "water" "I" ∈ jk_WS := jk_wt1 (i := 159) (by decide +kernel) rfl
theorem jw_161 : Cond.superclass "LevelingNetwork$Survey" "java/lang/Object" ∈ jk_WS := jk_wt1 (i := 161) (by decide +kernel) rfl
theorem jw_162 : Cond.arrayClass ClassFile.FieldType.boolean ∈ jk_WS := jk_wt1 (i := 162) (by decide +kernel) rfl
theorem jw_163 : Cond.arrayClass ClassFile.FieldType.int ∈ jk_WS := jk_wt1 (i := 163) (by decide +kernel) rfl
theorem jw_164 : Cond.classLink "LevelingNetwork" 22 "LevelingNetwork$History" ∈ jk_WS := jk_wt1 (i := 164) (by decide +kernel) rfl
theorem jw_165 : Cond.instantiable "LevelingNetwork$History" 3 ∈ jk_WS := jk_wt1 (i := 165) (by decide +kernel) rfl
theorem jw_166 : Cond.methodLink "LevelingNetwork" 24 ⟨"LevelingNetwork$History", "<init>", "()V"⟩ ∈ jk_WS := jk_wt1 (i := 166) (by decide +kernel) rfl
theorem jw_167 : Cond.instanceMethod ⟨"LevelingNetwork$History", "<init>", "()V"⟩ ∈ jk_WS := jk_wt1 (i := 167) (by decide +kernel) rfl
theorem jw_168 : Cond.code ⟨"LevelingNetwork$History", "<init>", "()V"⟩ prog_7_method_1_code 2 (Option.none : Option ClassFile.FieldType) ∈ jk_WS := jk_wt1 (i := 168) (by decide +kernel) rfl
theorem jw_169 : Cond.methodLink "LevelingNetwork$History" 3 ⟨"java/lang/Object", "<init>", "()V"⟩ ∈ jk_WS := jk_wt1 (i := 169) (by decide +kernel) rfl
theorem jw_170 : Cond.classLink "LevelingNetwork$History" 9 "LevelingNetwork$Survey" ∈ jk_WS := jk_wt1 (i := 170) (by decide +kernel) rfl
theorem jw_171 : Cond.arrayOver (ClassFile.FieldType.object "LevelingNetwork$Survey") ∈ jk_WS := jk_wt1 (i := 171) (by decide +kernel) rfl
theorem jw_172 : Cond.methodLinkNest "LevelingNetwork$History" 17 ⟨"LevelingNetwork$Survey", "<init>", "()V"⟩ "LevelingNetwork" ∈ jk_WS := jk_wt1 (i := 172) (by decide +kernel) rfl
theorem jw_173 : Cond.fieldLink "LevelingNetwork$History" 11 "LevelingNetwork$History" "past" "[LLevelingNetwork$Survey;" ∈ jk_WS := jk_wt1 (i := 173) (by decide +kernel) rfl
theorem jw_174 : Cond.fieldLink "LevelingNetwork$History" 18 "LevelingNetwork$History" "next" "I" ∈ jk_WS := jk_wt1 (i := 174) (by decide +kernel) rfl
theorem jw_175 : Cond.fieldLink "LevelingNetwork$History" 26 "LevelingNetwork$History" "size" "I" ∈ jk_WS := jk_wt1 (i := 175) (by decide +kernel) rfl
theorem jw_176 : Cond.fieldLink "LevelingNetwork" 416 "LevelingNetwork$History" "size" "I" ∈ jk_WS := jk_wt1 (i := 176) (by decide +kernel) rfl
theorem jw_177 : Cond.laysFinal "LevelingNetwork$History" "LevelingNetwork$History" "past" "[LLevelingNetwork$Survey;" ∈ jk_WS := jk_wt1 (i := 177) (by decide +kernel) rfl
theorem jw_179 : Cond.lays "LevelingNetwork$History" "LevelingNetwork$History" "next" "I" ∈ jk_WS := jk_wt1 (i := 179) (by decide +kernel) rfl
theorem jw_181 : Cond.lays "LevelingNetwork$History" "LevelingNetwork$History" "size" "I" ∈ jk_WS := jk_wt1 (i := 181) (by decide +kernel) rfl
theorem jw_183 : Cond.superclass "LevelingNetwork$History" "java/lang/Object" ∈ jk_WS := jk_wt1 (i := 183) (by decide +kernel) rfl
theorem jw_184 : Cond.classLink "LevelingNetwork" 29 "LevelingNetwork$Forest" ∈ jk_WS := jk_wt1 (i := 184) (by decide +kernel) rfl
theorem jw_185 : Cond.instantiable "LevelingNetwork$Forest" 6 ∈ jk_WS := jk_wt1 (i := 185) (by decide +kernel) rfl
theorem jw_186 : Cond.methodLink "LevelingNetwork" 31 ⟨"LevelingNetwork$Forest", "<init>", "(LLevelingNetwork$Survey;)V"⟩ ∈ jk_WS := jk_wt1 (i := 186) (by decide +kernel) rfl
theorem jw_187 : Cond.instanceMethod ⟨"LevelingNetwork$Forest", "<init>", "(LLevelingNetwork$Survey;)V"⟩ ∈ jk_WS := jk_wt1 (i := 187) (by decide +kernel) rfl
theorem jw_188 : Cond.code ⟨"LevelingNetwork$Forest", "<init>", "(LLevelingNetwork$Survey;)V"⟩ prog_5_method_1_code 2 (Option.none : Option ClassFile.FieldType) ∈ jk_WS := jk_wt1 (i := 188) (by decide +kernel) rfl
theorem jw_189 : Cond.methodLink "LevelingNetwork$Forest" 3 ⟨"java/lang/Object", "<init>", "()V"⟩ ∈ jk_WS := jk_wt1 (i := 189) (by decide +kernel) rfl
theorem jw_190 : Cond.fieldLink "LevelingNetwork$Forest" 25 "LevelingNetwork$Forest" "survey" "LLevelingNetwork$Survey;" ∈ jk_WS := jk_wt1 (i := 190) (by decide +kernel) rfl
theorem jw_191 : Cond.fieldLink "LevelingNetwork$Forest" 9 "LevelingNetwork$Forest" "order" "[I" ∈ jk_WS := jk_wt1 (i := 191) (by decide +kernel) rfl
theorem jw_192 : Cond.fieldLink "LevelingNetwork$Forest" 32 "LevelingNetwork$Forest" "ordered" "I" ∈ jk_WS := jk_wt1 (i := 192) (by decide +kernel) rfl
theorem jw_193 : Cond.fieldLink "LevelingNetwork$Forest" 15 "LevelingNetwork$Forest" "reached" "[Z" ∈ jk_WS := jk_wt1 (i := 193) (by decide +kernel) rfl
theorem jw_194 : Cond.fieldLink "LevelingNetwork$Forest" 19 "LevelingNetwork$Forest" "taken" "[Z" ∈ jk_WS := jk_wt1 (i := 194) (by decide +kernel) rfl
theorem jw_195 : Cond.fieldLink "LevelingNetwork$Way" 52 "LevelingNetwork$Forest" "taken" "[Z" ∈ jk_WS := jk_wt1 (i := 195) (by decide +kernel) rfl
theorem jw_196 : Cond.fieldLink "LevelingNetwork$Heights" 87 "LevelingNetwork$Forest" "taken" "[Z" ∈ jk_WS := jk_wt1 (i := 196) (by decide +kernel) rfl
theorem jw_197 : Cond.fieldLink "LevelingNetwork" 243 "LevelingNetwork$Forest" "taken" "[Z" ∈ jk_WS := jk_wt1 (i := 197) (by decide +kernel) rfl
theorem jw_198 : Cond.fieldLink "LevelingNetwork$Forest" 22 "LevelingNetwork$Forest" "root" "[I" ∈ jk_WS := jk_wt1 (i := 198) (by decide +kernel) rfl
theorem jw_199 : Cond.fieldLink "LevelingNetwork$Heights" 45 "LevelingNetwork$Forest" "root" "[I" ∈ jk_WS := jk_wt1 (i := 199) (by decide +kernel) rfl
theorem jw_200 : Cond.laysFinal "LevelingNetwork$Forest" "LevelingNetwork$Forest" "survey" "LLevelingNetwork$Survey;" ∈ jk_WS := jk_wt1 (i := 200) (by decide +kernel) rfl
theorem jw_202 : Cond.laysFinal "LevelingNetwork$Forest" "LevelingNetwork$Forest" "order" "[I" ∈ jk_WS := jk_wt1 (i := 202) (by decide +kernel) rfl
theorem jw_204 : Cond.lays "LevelingNetwork$Forest" "LevelingNetwork$Forest" "ordered" "I" ∈ jk_WS := jk_wt1 (i := 204) (by decide +kernel) rfl
theorem jw_206 : Cond.laysFinal "LevelingNetwork$Forest" "LevelingNetwork$Forest" "reached" "[Z" ∈ jk_WS := jk_wt1 (i := 206) (by decide +kernel) rfl
theorem jw_208 : Cond.laysFinal "LevelingNetwork$Forest" "LevelingNetwork$Forest" "taken" "[Z" ∈ jk_WS := jk_wt1 (i := 208) (by decide +kernel) rfl
theorem jw_210 : Cond.laysFinal "LevelingNetwork$Forest" "LevelingNetwork$Forest" "root" "[I" ∈ jk_WS := jk_wt1 (i := 210) (by decide +kernel) rfl
theorem jw_212 : Cond.superclass "LevelingNetwork$Forest" "java/lang/Object" ∈ jk_WS := jk_wt1 (i := 212) (by decide +kernel) rfl
theorem jw_213 : Cond.classLink "LevelingNetwork" 38 "LevelingNetwork$Way" ∈ jk_WS := jk_wt1 (i := 213) (by decide +kernel) rfl
theorem jw_214 : Cond.instantiable "LevelingNetwork$Way" 5 ∈ jk_WS := jk_wt1 (i := 214) (by decide +kernel) rfl
theorem jw_215 : Cond.methodLink "LevelingNetwork" 40 ⟨"LevelingNetwork$Way", "<init>", "(LLevelingNetwork$Survey;LLevelingNetwork$Forest;)V"⟩ ∈ jk_WS := jk_wt1 (i := 215) (by decide +kernel) rfl
theorem jw_216 : Cond.instanceMethod ⟨"LevelingNetwork$Way", "<init>", "(LLevelingNetwork$Survey;LLevelingNetwork$Forest;)V"⟩ ∈ jk_WS := jk_wt1 (i := 216) (by decide +kernel) rfl
theorem jw_217 : Cond.code ⟨"LevelingNetwork$Way", "<init>", "(LLevelingNetwork$Survey;LLevelingNetwork$Forest;)V"⟩ prog_13_method_1_code 3 (Option.none : Option ClassFile.FieldType) ∈ jk_WS := jk_wt1 (i := 217) (by decide +kernel) rfl
theorem jw_218 : Cond.methodLink "LevelingNetwork$Way" 3 ⟨"java/lang/Object", "<init>", "()V"⟩ ∈ jk_WS := jk_wt1 (i := 218) (by decide +kernel) rfl
theorem jw_219 : Cond.fieldLink "LevelingNetwork$Way" 18 "LevelingNetwork$Way" "survey" "LLevelingNetwork$Survey;" ∈ jk_WS := jk_wt1 (i := 219) (by decide +kernel) rfl
theorem jw_220 : Cond.fieldLink "LevelingNetwork$Way" 22 "LevelingNetwork$Way" "forest" "LLevelingNetwork$Forest;" ∈ jk_WS := jk_wt1 (i := 220) (by decide +kernel) rfl
theorem jw_221 : Cond.fieldLink "LevelingNetwork$Way" 9 "LevelingNetwork$Way" "lines" "[I" ∈ jk_WS := jk_wt1 (i := 221) (by decide +kernel) rfl
theorem jw_222 : Cond.fieldLink "LevelingNetwork$Sharing" 41 "LevelingNetwork$Way" "lines" "[I" ∈ jk_WS := jk_wt1 (i := 222) (by decide +kernel) rfl
theorem jw_223 : Cond.fieldLink "LevelingNetwork$Way" 15 "LevelingNetwork$Way" "signs" "[I" ∈ jk_WS := jk_wt1 (i := 223) (by decide +kernel) rfl
theorem jw_224 : Cond.fieldLink "LevelingNetwork$Sharing" 56 "LevelingNetwork$Way" "signs" "[I" ∈ jk_WS := jk_wt1 (i := 224) (by decide +kernel) rfl
theorem jw_225 : Cond.fieldLink "LevelingNetwork$Way" 26 "LevelingNetwork$Way" "size" "I" ∈ jk_WS := jk_wt1 (i := 225) (by decide +kernel) rfl
theorem jw_226 : Cond.fieldLink "LevelingNetwork$Sharing" 37 "LevelingNetwork$Way" "size" "I" ∈ jk_WS := jk_wt1 (i := 226) (by decide +kernel) rfl
theorem jw_227 : Cond.fieldLink "LevelingNetwork" 267 "LevelingNetwork$Way" "size" "I" ∈ jk_WS := jk_wt1 (i := 227) (by decide +kernel) rfl
theorem jw_228 : Cond.laysFinal "LevelingNetwork$Way" "LevelingNetwork$Way" "survey" "LLevelingNetwork$Survey;" ∈ jk_WS := jk_wt1 (i := 228) (by decide +kernel) rfl
theorem jw_230 : Cond.laysFinal "LevelingNetwork$Way" "LevelingNetwork$Way" "forest" "LLevelingNetwork$Forest;" ∈ jk_WS := jk_wt1 (i := 230) (by decide +kernel) rfl
theorem jw_232 : Cond.laysFinal "LevelingNetwork$Way" "LevelingNetwork$Way" "lines" "[I" ∈ jk_WS := jk_wt1 (i := 232) (by decide +kernel) rfl
theorem jw_234 : Cond.laysFinal "LevelingNetwork$Way" "LevelingNetwork$Way" "signs" "[I" ∈ jk_WS := jk_wt1 (i := 234) (by decide +kernel) rfl
theorem jw_236 : Cond.lays "LevelingNetwork$Way" "LevelingNetwork$Way" "size" "I" ∈ jk_WS := jk_wt1 (i := 236) (by decide +kernel) rfl
theorem jw_238 : Cond.superclass "LevelingNetwork$Way" "java/lang/Object" ∈ jk_WS := jk_wt1 (i := 238) (by decide +kernel) rfl
theorem jw_239 : Cond.classLink "LevelingNetwork" 47 "LevelingNetwork$Sharing" ∈ jk_WS := jk_wt1 (i := 239) (by decide +kernel) rfl
theorem jw_240 : Cond.instantiable "LevelingNetwork$Sharing" 3 ∈ jk_WS := jk_wt2 (i := 0) (by decide +kernel) rfl
theorem jw_241 : Cond.methodLink "LevelingNetwork" 49 ⟨"LevelingNetwork$Sharing", "<init>", "(LLevelingNetwork$Survey;)V"⟩ ∈ jk_WS := jk_wt2 (i := 1) (by decide +kernel) rfl
theorem jw_242 : Cond.instanceMethod ⟨"LevelingNetwork$Sharing", "<init>", "(LLevelingNetwork$Survey;)V"⟩ ∈ jk_WS := jk_wt2 (i := 2) (by decide +kernel) rfl
theorem jw_243 : Cond.code ⟨"LevelingNetwork$Sharing", "<init>", "(LLevelingNetwork$Survey;)V"⟩ prog_10_method_1_code 2 (Option.none : Option ClassFile.FieldType) ∈ jk_WS := jk_wt2 (i := 3) (by decide +kernel) rfl
theorem jw_244 : Cond.methodLink "LevelingNetwork$Sharing" 3 ⟨"java/lang/Object", "<init>", "()V"⟩ ∈ jk_WS := jk_wt2 (i := 4) (by decide +kernel) rfl
theorem jw_245 : Cond.fieldLink "LevelingNetwork$Sharing" 18 "LevelingNetwork$Sharing" "survey" "LLevelingNetwork$Survey;" ∈ jk_WS := jk_wt2 (i := 5) (by decide +kernel) rfl
theorem jw_246 : Cond.fieldLink "LevelingNetwork$Sharing" 9 "LevelingNetwork$Sharing" "parts" "[I" ∈ jk_WS := jk_wt2 (i := 6) (by decide +kernel) rfl
theorem jw_247 : Cond.fieldLink "LevelingNetwork" 283 "LevelingNetwork$Sharing" "parts" "[I" ∈ jk_WS := jk_wt2 (i := 7) (by decide +kernel) rfl
theorem jw_248 : Cond.fieldLink "LevelingNetwork$Sharing" 15 "LevelingNetwork$Sharing" "remainders" "[I" ∈ jk_WS := jk_wt2 (i := 8) (by decide +kernel) rfl
theorem jw_249 : Cond.laysFinal "LevelingNetwork$Sharing" "LevelingNetwork$Sharing" "survey" "LLevelingNetwork$Survey;" ∈ jk_WS := jk_wt2 (i := 9) (by decide +kernel) rfl
theorem jw_251 : Cond.laysFinal "LevelingNetwork$Sharing" "LevelingNetwork$Sharing" "parts" "[I" ∈ jk_WS := jk_wt2 (i := 11) (by decide +kernel) rfl
theorem jw_253 : Cond.laysFinal "LevelingNetwork$Sharing" "LevelingNetwork$Sharing" "remainders" "[I" ∈ jk_WS := jk_wt2 (i := 13) (by decide +kernel) rfl
theorem jw_255 : Cond.superclass "LevelingNetwork$Sharing" "java/lang/Object" ∈ jk_WS := jk_wt2 (i := 15) (by decide +kernel) rfl
theorem jw_256 : Cond.classLink "LevelingNetwork" 54 "LevelingNetwork$Heights" ∈ jk_WS := jk_wt2 (i := 16) (by decide +kernel) rfl
theorem jw_257 : Cond.instantiable "LevelingNetwork$Heights" 5 ∈ jk_WS := jk_wt2 (i := 17) (by decide +kernel) rfl
theorem jw_258 : Cond.methodLink "LevelingNetwork" 56 ⟨"LevelingNetwork$Heights", "<init>", "(LLevelingNetwork$Survey;LLevelingNetwork$Forest;)V"⟩ ∈ jk_WS := jk_wt2 (i := 18) (by decide +kernel) rfl
theorem jw_259 : Cond.instanceMethod ⟨"LevelingNetwork$Heights", "<init>", "(LLevelingNetwork$Survey;LLevelingNetwork$Forest;)V"⟩ ∈ jk_WS := jk_wt2 (i := 19) (by decide +kernel) rfl
theorem jw_260 : Cond.code ⟨"LevelingNetwork$Heights", "<init>", "(LLevelingNetwork$Survey;LLevelingNetwork$Forest;)V"⟩ prog_6_method_1_code 3 (Option.none : Option ClassFile.FieldType) ∈ jk_WS := jk_wt2 (i := 20) (by decide +kernel) rfl
theorem jw_261 : Cond.methodLink "LevelingNetwork$Heights" 3 ⟨"java/lang/Object", "<init>", "()V"⟩ ∈ jk_WS := jk_wt2 (i := 21) (by decide +kernel) rfl
theorem jw_262 : Cond.classLink "LevelingNetwork$Heights" 27 "LevelingNetwork$Way" ∈ jk_WS := jk_wt2 (i := 22) (by decide +kernel) rfl
theorem jw_263 : Cond.methodLink "LevelingNetwork$Heights" 29 ⟨"LevelingNetwork$Way", "<init>", "(LLevelingNetwork$Survey;LLevelingNetwork$Forest;)V"⟩ ∈ jk_WS := jk_wt2 (i := 23) (by decide +kernel) rfl
theorem jw_264 : Cond.fieldLink "LevelingNetwork$Heights" 19 "LevelingNetwork$Heights" "survey" "LLevelingNetwork$Survey;" ∈ jk_WS := jk_wt2 (i := 24) (by decide +kernel) rfl
theorem jw_265 : Cond.fieldLink "LevelingNetwork$Heights" 23 "LevelingNetwork$Heights" "forest" "LLevelingNetwork$Forest;" ∈ jk_WS := jk_wt2 (i := 25) (by decide +kernel) rfl
theorem jw_266 : Cond.fieldLink "LevelingNetwork$Heights" 32 "LevelingNetwork$Heights" "way" "LLevelingNetwork$Way;" ∈ jk_WS := jk_wt2 (i := 26) (by decide +kernel) rfl
theorem jw_267 : Cond.fieldLink "LevelingNetwork$Heights" 9 "LevelingNetwork$Heights" "known" "[Z" ∈ jk_WS := jk_wt2 (i := 27) (by decide +kernel) rfl
theorem jw_268 : Cond.fieldLink "LevelingNetwork$Heights" 15 "LevelingNetwork$Heights" "level" "[I" ∈ jk_WS := jk_wt2 (i := 28) (by decide +kernel) rfl
theorem jw_269 : Cond.laysFinal "LevelingNetwork$Heights" "LevelingNetwork$Heights" "survey" "LLevelingNetwork$Survey;" ∈ jk_WS := jk_wt2 (i := 29) (by decide +kernel) rfl
theorem jw_271 : Cond.laysFinal "LevelingNetwork$Heights" "LevelingNetwork$Heights" "forest" "LLevelingNetwork$Forest;" ∈ jk_WS := jk_wt2 (i := 31) (by decide +kernel) rfl
theorem jw_273 : Cond.laysFinal "LevelingNetwork$Heights" "LevelingNetwork$Heights" "way" "LLevelingNetwork$Way;" ∈ jk_WS := jk_wt2 (i := 33) (by decide +kernel) rfl
theorem jw_275 : Cond.laysFinal "LevelingNetwork$Heights" "LevelingNetwork$Heights" "known" "[Z" ∈ jk_WS := jk_wt2 (i := 35) (by decide +kernel) rfl
theorem jw_277 : Cond.laysFinal "LevelingNetwork$Heights" "LevelingNetwork$Heights" "level" "[I" ∈ jk_WS := jk_wt2 (i := 37) (by decide +kernel) rfl
theorem jw_279 : Cond.superclass "LevelingNetwork$Heights" "java/lang/Object" ∈ jk_WS := jk_wt2 (i := 39) (by decide +kernel) rfl
theorem jw_280 : Cond.classLink "LevelingNetwork" 61 "LevelingNetwork$Bank" ∈ jk_WS := jk_wt2 (i := 40) (by decide +kernel) rfl
theorem jw_281 : Cond.instantiable "LevelingNetwork$Bank" 1 ∈ jk_WS := jk_wt2 (i := 41) (by decide +kernel) rfl
theorem jw_282 : Cond.methodLink "LevelingNetwork" 63 ⟨"LevelingNetwork$Bank", "<init>", "(LLevelingNetwork$Survey;)V"⟩ ∈ jk_WS := jk_wt2 (i := 42) (by decide +kernel) rfl
theorem jw_283 : Cond.instanceMethod ⟨"LevelingNetwork$Bank", "<init>", "(LLevelingNetwork$Survey;)V"⟩ ∈ jk_WS := jk_wt2 (i := 43) (by decide +kernel) rfl
theorem jw_284 : Cond.code ⟨"LevelingNetwork$Bank", "<init>", "(LLevelingNetwork$Survey;)V"⟩ prog_3_method_1_code 2 (Option.none : Option ClassFile.FieldType) ∈ jk_WS := jk_wt2 (i := 44) (by decide +kernel) rfl
theorem jw_285 : Cond.methodLink "LevelingNetwork$Bank" 3 ⟨"java/lang/Object", "<init>", "()V"⟩ ∈ jk_WS := jk_wt2 (i := 45) (by decide +kernel) rfl
theorem jw_286 : Cond.fieldLink "LevelingNetwork$Bank" 9 "LevelingNetwork$Bank" "survey" "LLevelingNetwork$Survey;" ∈ jk_WS := jk_wt2 (i := 46) (by decide +kernel) rfl
theorem jw_287 : Cond.laysFinal "LevelingNetwork$Bank" "LevelingNetwork$Bank" "survey" "LLevelingNetwork$Survey;" ∈ jk_WS := jk_wt2 (i := 47) (by decide +kernel) rfl
theorem jw_289 : Cond.superclass "LevelingNetwork$Bank" "java/lang/Object" ∈ jk_WS := jk_wt2 (i := 49) (by decide +kernel) rfl
theorem jw_290 : Cond.classLink "LevelingNetwork" 68 "LevelingNetwork$Changes" ∈ jk_WS := jk_wt2 (i := 50) (by decide +kernel) rfl
theorem jw_291 : Cond.instantiable "LevelingNetwork$Changes" 4 ∈ jk_WS := jk_wt2 (i := 51) (by decide +kernel) rfl
theorem jw_292 : Cond.methodLink "LevelingNetwork" 70 ⟨"LevelingNetwork$Changes", "<init>", "(LLevelingNetwork$Survey;LLevelingNetwork$Forest;LLevelingNetwork$Way;LLevelingNetwork$Sharing;)V"⟩ ∈ jk_WS := jk_wt2 (i := 52) (by decide +kernel) rfl
theorem jw_293 : Cond.instanceMethod ⟨"LevelingNetwork$Changes", "<init>", "(LLevelingNetwork$Survey;LLevelingNetwork$Forest;LLevelingNetwork$Way;LLevelingNetwork$Sharing;)V"⟩ ∈ jk_WS := jk_wt2 (i := 53) (by decide +kernel) rfl
theorem jw_294 : Cond.code ⟨"LevelingNetwork$Changes", "<init>", "(LLevelingNetwork$Survey;LLevelingNetwork$Forest;LLevelingNetwork$Way;LLevelingNetwork$Sharing;)V"⟩ prog_4_method_1_code 5 (Option.none : Option ClassFile.FieldType) ∈ jk_WS := jk_wt2 (i := 54) (by decide +kernel) rfl
theorem jw_295 : Cond.methodLink "LevelingNetwork$Changes" 3 ⟨"java/lang/Object", "<init>", "()V"⟩ ∈ jk_WS := jk_wt2 (i := 55) (by decide +kernel) rfl
theorem jw_296 : Cond.fieldLink "LevelingNetwork$Changes" 9 "LevelingNetwork$Changes" "survey" "LLevelingNetwork$Survey;" ∈ jk_WS := jk_wt2 (i := 56) (by decide +kernel) rfl
theorem jw_297 : Cond.fieldLink "LevelingNetwork$Changes" 15 "LevelingNetwork$Changes" "forest" "LLevelingNetwork$Forest;" ∈ jk_WS := jk_wt2 (i := 57) (by decide +kernel) rfl
theorem jw_298 : Cond.fieldLink "LevelingNetwork$Changes" 19 "LevelingNetwork$Changes" "loopWay" "LLevelingNetwork$Way;" ∈ jk_WS := jk_wt2 (i := 58) (by decide +kernel) rfl
theorem jw_299 : Cond.fieldLink "LevelingNetwork$Changes" 23 "LevelingNetwork$Changes" "sharing" "LLevelingNetwork$Sharing;" ∈ jk_WS := jk_wt2 (i := 59) (by decide +kernel) rfl
theorem jw_300 : Cond.laysFinal "LevelingNetwork$Changes" "LevelingNetwork$Changes" "survey" "LLevelingNetwork$Survey;" ∈ jk_WS := jk_wt2 (i := 60) (by decide +kernel) rfl
theorem jw_302 : Cond.laysFinal "LevelingNetwork$Changes" "LevelingNetwork$Changes" "forest" "LLevelingNetwork$Forest;" ∈ jk_WS := jk_wt2 (i := 62) (by decide +kernel) rfl
theorem jw_304 : Cond.laysFinal "LevelingNetwork$Changes" "LevelingNetwork$Changes" "loopWay" "LLevelingNetwork$Way;" ∈ jk_WS := jk_wt2 (i := 64) (by decide +kernel) rfl
theorem jw_306 : Cond.laysFinal "LevelingNetwork$Changes" "LevelingNetwork$Changes" "sharing" "LLevelingNetwork$Sharing;" ∈ jk_WS := jk_wt2 (i := 66) (by decide +kernel) rfl
theorem jw_308 : Cond.superclass "LevelingNetwork$Changes" "java/lang/Object" ∈ jk_WS := jk_wt2 (i := 68) (by decide +kernel) rfl
theorem jw_309 : Cond.classLink "LevelingNetwork" 77 "LevelingNetwork$Script" ∈ jk_WS := jk_wt2 (i := 69) (by decide +kernel) rfl
theorem jw_310 : Cond.instantiable "LevelingNetwork$Script" 6 ∈ jk_WS := jk_wt2 (i := 70) (by decide +kernel) rfl
theorem jw_311 : Cond.methodLinkNest "LevelingNetwork" 79 ⟨"LevelingNetwork$Script", "<init>", "()V"⟩ "LevelingNetwork" ∈ jk_WS := jk_wt2 (i := 71) (by decide +kernel) rfl
theorem jw_312 : Cond.instanceMethod ⟨"LevelingNetwork$Script", "<init>", "()V"⟩ ∈ jk_WS := jk_wt2 (i := 72) (by decide +kernel) rfl
theorem jw_313 : Cond.code ⟨"LevelingNetwork$Script", "<init>", "()V"⟩ prog_9_method_1_code 1 (Option.none : Option ClassFile.FieldType) ∈ jk_WS := jk_wt2 (i := 73) (by decide +kernel) rfl
theorem jw_314 : Cond.methodLink "LevelingNetwork$Script" 3 ⟨"java/lang/Object", "<init>", "()V"⟩ ∈ jk_WS := jk_wt2 (i := 74) (by decide +kernel) rfl
theorem jw_315 : Cond.classLink "LevelingNetwork$Script" 15 "LevelingNetwork$Kind" ∈ jk_WS := jk_wt2 (i := 75) (by decide +kernel) rfl
theorem jw_316 : Cond.arrayOver (ClassFile.FieldType.object "LevelingNetwork$Kind") ∈ jk_WS := jk_wt2 (i := 76) (by decide +kernel) rfl
theorem jw_317 : Cond.classLink "LevelingNetwork$Script" 21 "[[I" ∈ jk_WS := jk_wt2 (i := 77) (by decide +kernel) rfl
theorem jw_318 : Cond.fieldLink "LevelingNetwork$Script" 9 "LevelingNetwork$Script" "text" "[C" ∈ jk_WS := jk_wt2 (i := 78) (by decide +kernel) rfl
theorem jw_319 : Cond.fieldLink "LevelingNetwork$Script" 26 "LevelingNetwork$Script" "size" "I" ∈ jk_WS := jk_wt2 (i := 79) (by decide +kernel) rfl
theorem jw_320 : Cond.fieldLink "LevelingNetwork" 380 "LevelingNetwork$Script" "size" "I" ∈ jk_WS := jk_wt2 (i := 80) (by decide +kernel) rfl
theorem jw_321 : Cond.fieldLink "LevelingNetwork$Script" 30 "LevelingNetwork$Script" "position" "I" ∈ jk_WS := jk_wt2 (i := 81) (by decide +kernel) rfl
theorem jw_322 : Cond.fieldLink "LevelingNetwork" 393 "LevelingNetwork$Script" "position" "I" ∈ jk_WS := jk_wt2 (i := 82) (by decide +kernel) rfl
theorem jw_323 : Cond.fieldLink "LevelingNetwork$Script" 33 "LevelingNetwork$Script" "commands" "I" ∈ jk_WS := jk_wt2 (i := 83) (by decide +kernel) rfl
theorem jw_324 : Cond.fieldLink "LevelingNetwork" 409 "LevelingNetwork$Script" "commands" "I" ∈ jk_WS := jk_wt2 (i := 84) (by decide +kernel) rfl
theorem jw_325 : Cond.fieldLink "LevelingNetwork$Script" 17 "LevelingNetwork$Script" "kinds" "[LLevelingNetwork$Kind;" ∈ jk_WS := jk_wt2 (i := 85) (by decide +kernel) rfl
theorem jw_326 : Cond.fieldLink "LevelingNetwork" 483 "LevelingNetwork$Script" "kinds" "[LLevelingNetwork$Kind;" ∈ jk_WS := jk_wt2 (i := 86) (by decide +kernel) rfl
theorem jw_327 : Cond.fieldLink "LevelingNetwork$Script" 23 "LevelingNetwork$Script" "arguments" "[[I" ∈ jk_WS := jk_wt2 (i := 87) (by decide +kernel) rfl
theorem jw_328 : Cond.fieldLink "LevelingNetwork" 487 "LevelingNetwork$Script" "arguments" "[[I" ∈ jk_WS := jk_wt2 (i := 88) (by decide +kernel) rfl
theorem jw_329 : Cond.laysFinal "LevelingNetwork$Script" "LevelingNetwork$Script" "text" "[C" ∈ jk_WS := jk_wt2 (i := 89) (by decide +kernel) rfl
theorem jw_331 : Cond.lays "LevelingNetwork$Script" "LevelingNetwork$Script" "size" "I" ∈ jk_WS := jk_wt2 (i := 91) (by decide +kernel) rfl
theorem jw_333 : Cond.lays "LevelingNetwork$Script" "LevelingNetwork$Script" "position" "I" ∈ jk_WS := jk_wt2 (i := 93) (by decide +kernel) rfl
theorem jw_335 : Cond.lays "LevelingNetwork$Script" "LevelingNetwork$Script" "commands" "I" ∈ jk_WS := jk_wt2 (i := 95) (by decide +kernel) rfl
theorem jw_337 : Cond.laysFinal "LevelingNetwork$Script" "LevelingNetwork$Script" "kinds" "[LLevelingNetwork$Kind;" ∈ jk_WS := jk_wt2 (i := 97) (by decide +kernel) rfl
theorem jw_339 : Cond.laysFinal "LevelingNetwork$Script" "LevelingNetwork$Script" "arguments" "[[I" ∈ jk_WS := jk_wt2 (i := 99) (by decide +kernel) rfl
theorem jw_341 : Cond.superclass "LevelingNetwork$Script" "java/lang/Object" ∈ jk_WS := jk_wt2 (i := 101) (by decide +kernel) rfl
theorem jw_342 : Cond.arrayClass ClassFile.FieldType.char ∈ jk_WS := jk_wt2 (i := 102) (by decide +kernel) rfl
theorem jw_343 : Cond.classLink "LevelingNetwork" 84 "java/lang/StringBuilder" ∈ jk_WS := jk_wt2 (i := 103) (by decide +kernel) rfl
theorem jw_344 : Cond.instantiable "java/lang/StringBuilder" 4 ∈ jk_WS := jk_wt2 (i := 104) (by decide +kernel) rfl
theorem jw_345 : Cond.methodLink "LevelingNetwork" 86 ⟨"java/lang/StringBuilder", "<init>", "()V"⟩ ∈ jk_WS := jk_wt2 (i := 105) (by decide +kernel) rfl
theorem jw_346 : Cond.instanceMethod ⟨"java/lang/StringBuilder", "<init>", "()V"⟩ ∈ jk_WS := jk_wt2 (i := 106) (by decide +kernel) rfl
theorem jw_347 : Cond.code ⟨"java/lang/StringBuilder", "<init>", "()V"⟩ prog_34_method_1_code 1 (Option.none : Option ClassFile.FieldType) ∈ jk_WS := jk_wt2 (i := 107) (by decide +kernel) rfl
theorem jw_348 : Cond.methodLink "java/lang/StringBuilder" 1 ⟨"java/lang/AbstractStringBuilder", "<init>", "(I)V"⟩ ∈ jk_WS := jk_wt2 (i := 108) (by decide +kernel) rfl
theorem jw_349 : Cond.instanceMethod ⟨"java/lang/AbstractStringBuilder", "<init>", "(I)V"⟩ ∈ jk_WS := jk_wt2 (i := 109) (by decide +kernel) rfl
theorem jw_350 : Cond.code ⟨"java/lang/AbstractStringBuilder", "<init>", "(I)V"⟩ prog_17_method_2_code 2 (Option.none : Option ClassFile.FieldType) ∈ jk_WS := jk_wt2 (i := 110) (by decide +kernel) rfl
theorem jw_351 : Cond.methodLink "java/lang/AbstractStringBuilder" 3 ⟨"java/lang/Object", "<init>", "()V"⟩ ∈ jk_WS := jk_wt2 (i := 111) (by decide +kernel) rfl
theorem jw_352 : Cond.fieldLink "java/lang/AbstractStringBuilder" 18 "java/lang/String" "COMPACT_STRINGS" "Z" ∈ jk_WS := jk_wt2 (i := 112) (by decide +kernel) rfl
theorem jw_354 : Cond.methodLink "java/lang/AbstractStringBuilder" 26 ⟨"java/lang/StringUTF16", "newBytesFor", "(I)[B"⟩ ∈ jk_WS := jk_wt2 (i := 114) (by decide +kernel) rfl
theorem jw_355 : Cond.static ⟨"java/lang/StringUTF16", "newBytesFor", "(I)[B"⟩ ∈ jk_WS := jk_wt2 (i := 115) (by decide +kernel) rfl
theorem jw_356 : Cond.code ⟨"java/lang/StringUTF16", "newBytesFor", "(I)[B"⟩ prog_37_method_2_code 1 (Option.some (ClassFile.FieldType.array ClassFile.FieldType.byte)) ∈ jk_WS := jk_wt2 (i := 116) (by decide +kernel) rfl
theorem jw_357 : Cond.methodLink "java/lang/StringUTF16" 11 ⟨"java/lang/StringUTF16", "newBytesLength", "(I)I"⟩ ∈ jk_WS := jk_wt2 (i := 117) (by decide +kernel) rfl
theorem jw_358 : Cond.static ⟨"java/lang/StringUTF16", "newBytesLength", "(I)I"⟩ ∈ jk_WS := jk_wt2 (i := 118) (by decide +kernel) rfl
theorem jw_359 : Cond.code ⟨"java/lang/StringUTF16", "newBytesLength", "(I)I"⟩ prog_37_method_3_code 1 (Option.some ClassFile.FieldType.int) ∈ jk_WS := jk_wt2 (i := 119) (by decide +kernel) rfl
theorem jw_360 : Cond.constant "java/lang/StringUTF16" 20 (1073741823 : Int32) ∈ jk_WS := jk_wt2 (i := 120) (by decide +kernel) rfl
theorem jw_361 : Cond.fieldLink "java/lang/AbstractStringBuilder" 15 "java/lang/AbstractStringBuilder" "value" "[B" ∈ jk_WS := jk_wt2 (i := 121) (by decide +kernel) rfl
theorem jw_362 : Cond.fieldLink "java/lang/AbstractStringBuilder" 22 "java/lang/AbstractStringBuilder" "coder" "B" ∈ jk_WS := jk_wt2 (i := 122) (by decide +kernel) rfl
theorem jw_363 : Cond.fieldLink "java/lang/AbstractStringBuilder" 73 "java/lang/AbstractStringBuilder" "maybeLatin1" "Z" ∈ jk_WS := jk_wt2 (i := 123) (by decide +kernel) rfl
theorem jw_364 : Cond.fieldLink "java/lang/String" 1048 "java/lang/AbstractStringBuilder" "maybeLatin1" "Z" ∈ jk_WS := jk_wt2 (i := 124) (by decide +kernel) rfl
theorem jw_365 : Cond.fieldLink "java/lang/AbstractStringBuilder" 79 "java/lang/AbstractStringBuilder" "count" "I" ∈ jk_WS := jk_wt2 (i := 125) (by decide +kernel) rfl
theorem jw_366 : Cond.lays "java/lang/StringBuilder" "java/lang/AbstractStringBuilder" "value" "[B" ∈ jk_WS := jk_wt2 (i := 126) (by decide +kernel) rfl
theorem jw_368 : Cond.lays "java/lang/StringBuilder" "java/lang/AbstractStringBuilder" "coder" "B" ∈ jk_WS := jk_wt2 (i := 128) (by decide +kernel) rfl
theorem jw_370 : Cond.lays "java/lang/StringBuilder" "java/lang/AbstractStringBuilder" "maybeLatin1" "Z" ∈ jk_WS := jk_wt2 (i := 130) (by decide +kernel) rfl
theorem jw_372 : Cond.lays "java/lang/StringBuilder" "java/lang/AbstractStringBuilder" "count" "I" ∈ jk_WS := jk_wt2 (i := 132) (by decide +kernel) rfl
theorem jw_374 : Cond.superclass "java/lang/StringBuilder" "java/lang/AbstractStringBuilder" ∈ jk_WS := jk_wt2 (i := 134) (by decide +kernel) rfl
theorem jw_375 : Cond.arrayClass ClassFile.FieldType.byte ∈ jk_WS := jk_wt2 (i := 135) (by decide +kernel) rfl
theorem jw_376 : Cond.fieldLink "LevelingNetwork" 10 "LevelingNetwork" "survey" "LLevelingNetwork$Survey;" ∈ jk_WS := jk_wt2 (i := 136) (by decide +kernel) rfl
theorem jw_377 : Cond.fieldLink "LevelingNetwork" 16 "LevelingNetwork" "before" "LLevelingNetwork$Survey;" ∈ jk_WS := jk_wt2 (i := 137) (by decide +kernel) rfl
theorem jw_378 : Cond.fieldLink "LevelingNetwork" 19 "LevelingNetwork" "snapshot" "LLevelingNetwork$Survey;" ∈ jk_WS := jk_wt2 (i := 138) (by decide +kernel) rfl
theorem jw_379 : Cond.fieldLink "LevelingNetwork" 422 "LevelingNetwork" "hasSnapshot" "Z" ∈ jk_WS := jk_wt2 (i := 139) (by decide +kernel) rfl
theorem jw_380 : Cond.fieldLink "LevelingNetwork" 25 "LevelingNetwork" "history" "LLevelingNetwork$History;" ∈ jk_WS := jk_wt2 (i := 140) (by decide +kernel) rfl
theorem jw_381 : Cond.fieldLink "LevelingNetwork" 34 "LevelingNetwork" "forest" "LLevelingNetwork$Forest;" ∈ jk_WS := jk_wt2 (i := 141) (by decide +kernel) rfl
theorem jw_382 : Cond.fieldLink "LevelingNetwork" 43 "LevelingNetwork" "loopWay" "LLevelingNetwork$Way;" ∈ jk_WS := jk_wt2 (i := 142) (by decide +kernel) rfl
theorem jw_383 : Cond.fieldLink "LevelingNetwork" 50 "LevelingNetwork" "sharing" "LLevelingNetwork$Sharing;" ∈ jk_WS := jk_wt2 (i := 143) (by decide +kernel) rfl
theorem jw_384 : Cond.fieldLink "LevelingNetwork" 57 "LevelingNetwork" "heights" "LLevelingNetwork$Heights;" ∈ jk_WS := jk_wt2 (i := 144) (by decide +kernel) rfl
theorem jw_385 : Cond.fieldLink "LevelingNetwork" 64 "LevelingNetwork" "bank" "LLevelingNetwork$Bank;" ∈ jk_WS := jk_wt2 (i := 145) (by decide +kernel) rfl
theorem jw_386 : Cond.fieldLink "LevelingNetwork" 73 "LevelingNetwork" "changes" "LLevelingNetwork$Changes;" ∈ jk_WS := jk_wt2 (i := 146) (by decide +kernel) rfl
theorem jw_387 : Cond.fieldLink "LevelingNetwork" 80 "LevelingNetwork" "script" "LLevelingNetwork$Script;" ∈ jk_WS := jk_wt2 (i := 147) (by decide +kernel) rfl
theorem jw_388 : Cond.fieldLink "LevelingNetwork" 87 "LevelingNetwork" "output" "Ljava/lang/StringBuilder;" ∈ jk_WS := jk_wt2 (i := 148) (by decide +kernel) rfl
theorem jw_389 : Cond.fieldLink "LevelingNetwork" 91 "LevelingNetwork" "errorAt" "I" ∈ jk_WS := jk_wt2 (i := 149) (by decide +kernel) rfl
theorem jw_390 : Cond.fieldLink "LevelingNetwork" 95 "LevelingNetwork" "failedAt" "I" ∈ jk_WS := jk_wt2 (i := 150) (by decide +kernel) rfl
theorem jw_391 : Cond.laysFinal "LevelingNetwork" "LevelingNetwork" "survey" "LLevelingNetwork$Survey;" ∈ jk_WS := jk_wt2 (i := 151) (by decide +kernel) rfl
theorem jw_393 : Cond.laysFinal "LevelingNetwork" "LevelingNetwork" "before" "LLevelingNetwork$Survey;" ∈ jk_WS := jk_wt2 (i := 153) (by decide +kernel) rfl
theorem jw_395 : Cond.laysFinal "LevelingNetwork" "LevelingNetwork" "snapshot" "LLevelingNetwork$Survey;" ∈ jk_WS := jk_wt2 (i := 155) (by decide +kernel) rfl
theorem jw_397 : Cond.lays "LevelingNetwork" "LevelingNetwork" "hasSnapshot" "Z" ∈ jk_WS := jk_wt2 (i := 157) (by decide +kernel) rfl
theorem jw_399 : Cond.laysFinal "LevelingNetwork" "LevelingNetwork" "history" "LLevelingNetwork$History;" ∈ jk_WS := jk_wt2 (i := 159) (by decide +kernel) rfl
theorem jw_401 : Cond.laysFinal "LevelingNetwork" "LevelingNetwork" "forest" "LLevelingNetwork$Forest;" ∈ jk_WS := jk_wt2 (i := 161) (by decide +kernel) rfl
theorem jw_403 : Cond.laysFinal "LevelingNetwork" "LevelingNetwork" "loopWay" "LLevelingNetwork$Way;" ∈ jk_WS := jk_wt2 (i := 163) (by decide +kernel) rfl
theorem jw_405 : Cond.laysFinal "LevelingNetwork" "LevelingNetwork" "sharing" "LLevelingNetwork$Sharing;" ∈ jk_WS := jk_wt2 (i := 165) (by decide +kernel) rfl
theorem jw_407 : Cond.laysFinal "LevelingNetwork" "LevelingNetwork" "heights" "LLevelingNetwork$Heights;" ∈ jk_WS := jk_wt2 (i := 167) (by decide +kernel) rfl
theorem jw_409 : Cond.laysFinal "LevelingNetwork" "LevelingNetwork" "bank" "LLevelingNetwork$Bank;" ∈ jk_WS := jk_wt2 (i := 169) (by decide +kernel) rfl
theorem jw_411 : Cond.laysFinal "LevelingNetwork" "LevelingNetwork" "changes" "LLevelingNetwork$Changes;" ∈ jk_WS := jk_wt2 (i := 171) (by decide +kernel) rfl
theorem jw_413 : Cond.laysFinal "LevelingNetwork" "LevelingNetwork" "script" "LLevelingNetwork$Script;" ∈ jk_WS := jk_wt2 (i := 173) (by decide +kernel) rfl
theorem jw_415 : Cond.laysFinal "LevelingNetwork" "LevelingNetwork" "output" "Ljava/lang/StringBuilder;" ∈ jk_WS := jk_wt2 (i := 175) (by decide +kernel) rfl
theorem jw_417 : Cond.lays "LevelingNetwork" "LevelingNetwork" "errorAt" "I" ∈ jk_WS := jk_wt2 (i := 177) (by decide +kernel) rfl
theorem jw_419 : Cond.lays "LevelingNetwork" "LevelingNetwork" "failedAt" "I" ∈ jk_WS := jk_wt2 (i := 179) (by decide +kernel) rfl
theorem jw_421 : Cond.superclass "LevelingNetwork" "java/lang/Object" ∈ jk_WS := jk_wt2 (i := 181) (by decide +kernel) rfl
theorem jw_422 : Cond.methodLink "LevelingNetworkLaw" 224 ⟨"LevelingNetwork", "resetCorrections", "()I"⟩ ∈ jk_WS := jk_wt2 (i := 182) (by decide +kernel) rfl
theorem jw_423 : Cond.instanceMethod ⟨"LevelingNetwork", "resetCorrections", "()I"⟩ ∈ jk_WS := jk_wt2 (i := 183) (by decide +kernel) rfl
theorem jw_424 : Cond.selects "LevelingNetwork" ⟨"LevelingNetwork", "resetCorrections", "()I"⟩ ⟨"LevelingNetwork", "resetCorrections", "()I"⟩ ∈ jk_WS := jk_wt2 (i := 184) (by decide +kernel) rfl
theorem jw_425 : Cond.code ⟨"LevelingNetwork", "resetCorrections", "()I"⟩ prog_1_method_10_code 1 (Option.some ClassFile.FieldType.int) ∈ jk_WS := jk_wt2 (i := 185) (by decide +kernel) rfl
theorem jw_426 : Cond.fieldLink "LevelingNetwork" 129 "LevelingNetwork$Kind" "RESET" "LLevelingNetwork$Kind;" ∈ jk_WS := jk_wt2 (i := 186) (by decide +kernel) rfl
theorem jw_428 : Cond.methodLink "LevelingNetwork" 104 ⟨"LevelingNetwork", "change", "(LLevelingNetwork$Kind;IIII)I"⟩ ∈ jk_WS := jk_wt2 (i := 188) (by decide +kernel) rfl
theorem jw_430 : Cond.instanceMethod ⟨"LevelingNetwork", "change", "(LLevelingNetwork$Kind;IIII)I"⟩ ∈ jk_WS := jk_wt2 (i := 190) (by decide +kernel) rfl
theorem jw_431 : Cond.code ⟨"LevelingNetwork", "change", "(LLevelingNetwork$Kind;IIII)I"⟩ prog_1_method_65_code 6 (Option.some ClassFile.FieldType.int) ∈ jk_WS := jk_wt2 (i := 191) (by decide +kernel) rfl
theorem jw_432 : Cond.methodLink "LevelingNetwork" 428 ⟨"LevelingNetwork$Changes", "troubleWith", "(LLevelingNetwork$Kind;IIII)LLevelingNetwork$Trouble;"⟩ ∈ jk_WS := jk_wt2 (i := 192) (by decide +kernel) rfl
theorem jw_433 : Cond.instanceMethod ⟨"LevelingNetwork$Changes", "troubleWith", "(LLevelingNetwork$Kind;IIII)LLevelingNetwork$Trouble;"⟩ ∈ jk_WS := jk_wt2 (i := 193) (by decide +kernel) rfl
theorem jw_434 : Cond.selects "LevelingNetwork$Changes" ⟨"LevelingNetwork$Changes", "troubleWith", "(LLevelingNetwork$Kind;IIII)LLevelingNetwork$Trouble;"⟩ ⟨"LevelingNetwork$Changes", "troubleWith", "(LLevelingNetwork$Kind;IIII)LLevelingNetwork$Trouble;"⟩ ∈ jk_WS := jk_wt2 (i := 194) (by decide +kernel) rfl
theorem jw_435 : Cond.code ⟨"LevelingNetwork$Changes", "troubleWith", "(LLevelingNetwork$Kind;IIII)LLevelingNetwork$Trouble;"⟩ prog_4_method_2_code 6 (Option.some (ClassFile.FieldType.object "LevelingNetwork$Trouble")) ∈ jk_WS := jk_wt2 (i := 195) (by decide +kernel) rfl
theorem jw_436 : Cond.fieldLink "LevelingNetwork$Changes" 27 "LevelingNetwork$1" "$SwitchMap$LevelingNetwork$Kind" "[I" ∈ jk_WS := jk_wt2 (i := 196) (by decide +kernel) rfl
theorem jw_438 : Cond.methodLink "LevelingNetwork$Changes" 33 ⟨"LevelingNetwork$Kind", "ordinal", "()I"⟩ ∈ jk_WS := jk_wt2 (i := 198) (by decide +kernel) rfl
theorem jw_439 : Cond.sameMethod "LevelingNetwork$Kind" "java/lang/Enum" "ordinal" "()I" ∈ jk_WS := jk_wt2 (i := 199) (by decide +kernel) rfl
theorem jw_440 : Cond.declares ⟨"java/lang/Enum", "ordinal", "()I"⟩ ∈ jk_WS := jk_wt2 (i := 200) (by decide +kernel) rfl
theorem jw_441 : Cond.selects "LevelingNetwork$Kind" ⟨"LevelingNetwork$Kind", "ordinal", "()I"⟩ ⟨"java/lang/Enum", "ordinal", "()I"⟩ ∈ jk_WS := jk_wt2 (i := 201) (by decide +kernel) rfl
theorem jw_442 : Cond.instanceMethod ⟨"java/lang/Enum", "ordinal", "()I"⟩ ∈ jk_WS := jk_wt2 (i := 202) (by decide +kernel) rfl
theorem jw_443 : Cond.code ⟨"java/lang/Enum", "ordinal", "()I"⟩ prog_24_method_2_code 1 (Option.some ClassFile.FieldType.int) ∈ jk_WS := jk_wt2 (i := 203) (by decide +kernel) rfl
theorem jw_444 : Cond.methodLink "LevelingNetwork$Changes" 45 ⟨"LevelingNetwork$Changes", "stateTroubleUnless", "(Z)LLevelingNetwork$Trouble;"⟩ ∈ jk_WS := jk_wt2 (i := 204) (by decide +kernel) rfl
theorem jw_445 : Cond.static ⟨"LevelingNetwork$Changes", "stateTroubleUnless", "(Z)LLevelingNetwork$Trouble;"⟩ ∈ jk_WS := jk_wt2 (i := 205) (by decide +kernel) rfl
theorem jw_446 : Cond.code ⟨"LevelingNetwork$Changes", "stateTroubleUnless", "(Z)LLevelingNetwork$Trouble;"⟩ prog_4_method_3_code 1 (Option.some (ClassFile.FieldType.object "LevelingNetwork$Trouble")) ∈ jk_WS := jk_wt2 (i := 206) (by decide +kernel) rfl
theorem jw_447 : Cond.fieldLink "LevelingNetwork$Changes" 82 "LevelingNetwork$Trouble" "NOTHING" "LLevelingNetwork$Trouble;" ∈ jk_WS := jk_wt2 (i := 207) (by decide +kernel) rfl
theorem jw_449 : Cond.fieldLink "LevelingNetwork$Changes" 91 "LevelingNetwork$Trouble" "BAD_STATE" "LLevelingNetwork$Trouble;" ∈ jk_WS := jk_wt2 (i := 209) (by decide +kernel) rfl
theorem jw_451 : Cond.methodLink "LevelingNetwork$Changes" 49 ⟨"LevelingNetwork$Changes", "troubleWithFixing", "(II)LLevelingNetwork$Trouble;"⟩ ∈ jk_WS := jk_wt2 (i := 211) (by decide +kernel) rfl
theorem jw_453 : Cond.instanceMethod ⟨"LevelingNetwork$Changes", "troubleWithFixing", "(II)LLevelingNetwork$Trouble;"⟩ ∈ jk_WS := jk_wt2 (i := 213) (by decide +kernel) rfl
theorem jw_454 : Cond.code ⟨"LevelingNetwork$Changes", "troubleWithFixing", "(II)LLevelingNetwork$Trouble;"⟩ prog_4_method_6_code 3 (Option.some (ClassFile.FieldType.object "LevelingNetwork$Trouble")) ∈ jk_WS := jk_wt2 (i := 214) (by decide +kernel) rfl
theorem jw_455 : Cond.methodLink "LevelingNetwork$Changes" 100 ⟨"LevelingNetwork$Survey", "hasBenchmark", "(I)Z"⟩ ∈ jk_WS := jk_wt2 (i := 215) (by decide +kernel) rfl
theorem jw_456 : Cond.instanceMethod ⟨"LevelingNetwork$Survey", "hasBenchmark", "(I)Z"⟩ ∈ jk_WS := jk_wt2 (i := 216) (by decide +kernel) rfl
theorem jw_457 : Cond.selects "LevelingNetwork$Survey" ⟨"LevelingNetwork$Survey", "hasBenchmark", "(I)Z"⟩ ⟨"LevelingNetwork$Survey", "hasBenchmark", "(I)Z"⟩ ∈ jk_WS := jk_wt2 (i := 217) (by decide +kernel) rfl
theorem jw_458 : Cond.code ⟨"LevelingNetwork$Survey", "hasBenchmark", "(I)Z"⟩ prog_11_method_6_code 2 (Option.some ClassFile.FieldType.boolean) ∈ jk_WS := jk_wt2 (i := 218) (by decide +kernel) rfl
theorem jw_459 : Cond.fieldLink "LevelingNetwork$Changes" 103 "LevelingNetwork$Trouble" "NO_INDEX" "LLevelingNetwork$Trouble;" ∈ jk_WS := jk_wt2 (i := 219) (by decide +kernel) rfl
theorem jw_461 : Cond.methodLink "LevelingNetwork$Changes" 78 ⟨"LevelingNetwork$Changes", "isHeight", "(I)Z"⟩ ∈ jk_WS := jk_wt2 (i := 221) (by decide +kernel) rfl
theorem jw_462 : Cond.static ⟨"LevelingNetwork$Changes", "isHeight", "(I)Z"⟩ ∈ jk_WS := jk_wt2 (i := 222) (by decide +kernel) rfl
theorem jw_463 : Cond.code ⟨"LevelingNetwork$Changes", "isHeight", "(I)Z"⟩ prog_4_method_4_code 1 (Option.some ClassFile.FieldType.boolean) ∈ jk_WS := jk_wt2 (i := 223) (by decide +kernel) rfl
theorem jw_464 : Cond.constant "LevelingNetwork$Changes" 94 (-99999 : Int32) ∈ jk_WS := jk_wt2 (i := 224) (by decide +kernel) rfl
theorem jw_465 : Cond.constant "LevelingNetwork$Changes" 95 (99999 : Int32) ∈ jk_WS := jk_wt2 (i := 225) (by decide +kernel) rfl
theorem jw_466 : Cond.methodLinkNest "LevelingNetwork$Changes" 96 ⟨"LevelingNetwork", "within", "(III)Z"⟩ "LevelingNetwork" ∈ jk_WS := jk_wt2 (i := 226) (by decide +kernel) rfl
theorem jw_467 : Cond.static ⟨"LevelingNetwork", "within", "(III)Z"⟩ ∈ jk_WS := jk_wt2 (i := 227) (by decide +kernel) rfl
theorem jw_468 : Cond.code ⟨"LevelingNetwork", "within", "(III)Z"⟩ prog_1_method_78_code 3 (Option.some ClassFile.FieldType.boolean) ∈ jk_WS := jk_wt2 (i := 228) (by decide +kernel) rfl
theorem jw_469 : Cond.fieldLink "LevelingNetwork$Changes" 88 "LevelingNetwork$Trouble" "BAD_ARGUMENT" "LLevelingNetwork$Trouble;" ∈ jk_WS := jk_wt2 (i := 229) (by decide +kernel) rfl
theorem jw_471 : Cond.methodLink "LevelingNetwork$Changes" 53 ⟨"LevelingNetwork$Changes", "troubleWithFreeing", "(I)LLevelingNetwork$Trouble;"⟩ ∈ jk_WS := jk_wt2 (i := 231) (by decide +kernel) rfl
theorem jw_473 : Cond.instanceMethod ⟨"LevelingNetwork$Changes", "troubleWithFreeing", "(I)LLevelingNetwork$Trouble;"⟩ ∈ jk_WS := jk_wt2 (i := 233) (by decide +kernel) rfl
theorem jw_474 : Cond.code ⟨"LevelingNetwork$Changes", "troubleWithFreeing", "(I)LLevelingNetwork$Trouble;"⟩ prog_4_method_7_code 2 (Option.some (ClassFile.FieldType.object "LevelingNetwork$Trouble")) ∈ jk_WS := jk_wt2 (i := 234) (by decide +kernel) rfl
theorem jw_475 : Cond.methodLink "LevelingNetwork$Changes" 57 ⟨"LevelingNetwork$Changes", "troubleWithLine", "(IIII)LLevelingNetwork$Trouble;"⟩ ∈ jk_WS := jk_wt2 (i := 235) (by decide +kernel) rfl
theorem jw_477 : Cond.instanceMethod ⟨"LevelingNetwork$Changes", "troubleWithLine", "(IIII)LLevelingNetwork$Trouble;"⟩ ∈ jk_WS := jk_wt2 (i := 237) (by decide +kernel) rfl
theorem jw_478 : Cond.code ⟨"LevelingNetwork$Changes", "troubleWithLine", "(IIII)LLevelingNetwork$Trouble;"⟩ prog_4_method_8_code 5 (Option.some (ClassFile.FieldType.object "LevelingNetwork$Trouble")) ∈ jk_WS := jk_wt2 (i := 238) (by decide +kernel) rfl
theorem jw_479 : Cond.methodLink "LevelingNetwork$Changes" 110 ⟨"LevelingNetwork$Changes", "isRun", "(I)Z"⟩ ∈ jk_WS := jk_wt2 (i := 239) (by decide +kernel) rfl
theorem jw_480 : Cond.static ⟨"LevelingNetwork$Changes", "isRun", "(I)Z"⟩ ∈ jk_WS := jk_wt3 (i := 0) (by decide +kernel) rfl
theorem jw_481 : Cond.code ⟨"LevelingNetwork$Changes", "isRun", "(I)Z"⟩ prog_4_method_5_code 1 (Option.some ClassFile.FieldType.boolean) ∈ jk_WS := jk_wt3 (i := 1) (by decide +kernel) rfl
theorem jw_482 : Cond.methodLink "LevelingNetwork$Changes" 61 ⟨"LevelingNetwork$Changes", "troubleWithBackwardRun", "(II)LLevelingNetwork$Trouble;"⟩ ∈ jk_WS := jk_wt3 (i := 2) (by decide +kernel) rfl
theorem jw_484 : Cond.instanceMethod ⟨"LevelingNetwork$Changes", "troubleWithBackwardRun", "(II)LLevelingNetwork$Trouble;"⟩ ∈ jk_WS := jk_wt3 (i := 4) (by decide +kernel) rfl
theorem jw_485 : Cond.code ⟨"LevelingNetwork$Changes", "troubleWithBackwardRun", "(II)LLevelingNetwork$Trouble;"⟩ prog_4_method_9_code 3 (Option.some (ClassFile.FieldType.object "LevelingNetwork$Trouble")) ∈ jk_WS := jk_wt3 (i := 5) (by decide +kernel) rfl
theorem jw_486 : Cond.methodLink "LevelingNetwork$Changes" 116 ⟨"LevelingNetwork$Survey", "hasLine", "(I)Z"⟩ ∈ jk_WS := jk_wt3 (i := 6) (by decide +kernel) rfl
theorem jw_487 : Cond.instanceMethod ⟨"LevelingNetwork$Survey", "hasLine", "(I)Z"⟩ ∈ jk_WS := jk_wt3 (i := 7) (by decide +kernel) rfl
theorem jw_488 : Cond.selects "LevelingNetwork$Survey" ⟨"LevelingNetwork$Survey", "hasLine", "(I)Z"⟩ ⟨"LevelingNetwork$Survey", "hasLine", "(I)Z"⟩ ∈ jk_WS := jk_wt3 (i := 8) (by decide +kernel) rfl
theorem jw_489 : Cond.code ⟨"LevelingNetwork$Survey", "hasLine", "(I)Z"⟩ prog_11_method_7_code 2 (Option.some ClassFile.FieldType.boolean) ∈ jk_WS := jk_wt3 (i := 9) (by decide +kernel) rfl
theorem jw_490 : Cond.methodLink "LevelingNetwork$Changes" 64 ⟨"LevelingNetwork$Changes", "troubleWithExclusion", "(IZ)LLevelingNetwork$Trouble;"⟩ ∈ jk_WS := jk_wt3 (i := 10) (by decide +kernel) rfl
theorem jw_492 : Cond.instanceMethod ⟨"LevelingNetwork$Changes", "troubleWithExclusion", "(IZ)LLevelingNetwork$Trouble;"⟩ ∈ jk_WS := jk_wt3 (i := 12) (by decide +kernel) rfl
theorem jw_493 : Cond.code ⟨"LevelingNetwork$Changes", "troubleWithExclusion", "(IZ)LLevelingNetwork$Trouble;"⟩ prog_4_method_10_code 3 (Option.some (ClassFile.FieldType.object "LevelingNetwork$Trouble")) ∈ jk_WS := jk_wt3 (i := 13) (by decide +kernel) rfl
theorem jw_494 : Cond.methodLink "LevelingNetwork$Changes" 68 ⟨"LevelingNetwork$Changes", "troubleWithSharing", "(I)LLevelingNetwork$Trouble;"⟩ ∈ jk_WS := jk_wt3 (i := 14) (by decide +kernel) rfl
theorem jw_496 : Cond.instanceMethod ⟨"LevelingNetwork$Changes", "troubleWithSharing", "(I)LLevelingNetwork$Trouble;"⟩ ∈ jk_WS := jk_wt3 (i := 16) (by decide +kernel) rfl
theorem jw_497 : Cond.code ⟨"LevelingNetwork$Changes", "troubleWithSharing", "(I)LLevelingNetwork$Trouble;"⟩ prog_4_method_11_code 3 (Option.some (ClassFile.FieldType.object "LevelingNetwork$Trouble")) ∈ jk_WS := jk_wt3 (i := 17) (by decide +kernel) rfl
theorem jw_498 : Cond.methodLink "LevelingNetwork$Changes" 125 ⟨"LevelingNetwork$Forest", "find", "()V"⟩ ∈ jk_WS := jk_wt3 (i := 18) (by decide +kernel) rfl
theorem jw_499 : Cond.instanceMethod ⟨"LevelingNetwork$Forest", "find", "()V"⟩ ∈ jk_WS := jk_wt3 (i := 19) (by decide +kernel) rfl
theorem jw_500 : Cond.selects "LevelingNetwork$Forest" ⟨"LevelingNetwork$Forest", "find", "()V"⟩ ⟨"LevelingNetwork$Forest", "find", "()V"⟩ ∈ jk_WS := jk_wt3 (i := 20) (by decide +kernel) rfl
theorem jw_501 : Cond.code ⟨"LevelingNetwork$Forest", "find", "()V"⟩ prog_5_method_2_code 2 (Option.none : Option ClassFile.FieldType) ∈ jk_WS := jk_wt3 (i := 21) (by decide +kernel) rfl
theorem jw_502 : Cond.methodLink "LevelingNetwork$Forest" 29 ⟨"LevelingNetwork$Forest", "putInOrder", "()V"⟩ ∈ jk_WS := jk_wt3 (i := 22) (by decide +kernel) rfl
theorem jw_504 : Cond.instanceMethod ⟨"LevelingNetwork$Forest", "putInOrder", "()V"⟩ ∈ jk_WS := jk_wt3 (i := 24) (by decide +kernel) rfl
theorem jw_505 : Cond.code ⟨"LevelingNetwork$Forest", "putInOrder", "()V"⟩ prog_5_method_3_code 3 (Option.none : Option ClassFile.FieldType) ∈ jk_WS := jk_wt3 (i := 25) (by decide +kernel) rfl
theorem jw_506 : Cond.methodLink "LevelingNetwork$Forest" 45 ⟨"LevelingNetwork$Survey", "usable", "(I)Z"⟩ ∈ jk_WS := jk_wt3 (i := 26) (by decide +kernel) rfl
theorem jw_507 : Cond.instanceMethod ⟨"LevelingNetwork$Survey", "usable", "(I)Z"⟩ ∈ jk_WS := jk_wt3 (i := 27) (by decide +kernel) rfl
theorem jw_508 : Cond.selects "LevelingNetwork$Survey" ⟨"LevelingNetwork$Survey", "usable", "(I)Z"⟩ ⟨"LevelingNetwork$Survey", "usable", "(I)Z"⟩ ∈ jk_WS := jk_wt3 (i := 28) (by decide +kernel) rfl
theorem jw_509 : Cond.code ⟨"LevelingNetwork$Survey", "usable", "(I)Z"⟩ prog_11_method_13_code 2 (Option.some ClassFile.FieldType.boolean) ∈ jk_WS := jk_wt3 (i := 29) (by decide +kernel) rfl
theorem jw_510 : Cond.methodLink "LevelingNetwork$Survey" 84 ⟨"LevelingNetwork$Survey", "sumOfRuns", "(I)I"⟩ ∈ jk_WS := jk_wt3 (i := 30) (by decide +kernel) rfl
theorem jw_511 : Cond.instanceMethod ⟨"LevelingNetwork$Survey", "sumOfRuns", "(I)I"⟩ ∈ jk_WS := jk_wt3 (i := 31) (by decide +kernel) rfl
theorem jw_512 : Cond.selects "LevelingNetwork$Survey" ⟨"LevelingNetwork$Survey", "sumOfRuns", "(I)I"⟩ ⟨"LevelingNetwork$Survey", "sumOfRuns", "(I)I"⟩ ∈ jk_WS := jk_wt3 (i := 32) (by decide +kernel) rfl
theorem jw_513 : Cond.code ⟨"LevelingNetwork$Survey", "sumOfRuns", "(I)I"⟩ prog_11_method_10_code 2 (Option.some ClassFile.FieldType.int) ∈ jk_WS := jk_wt3 (i := 33) (by decide +kernel) rfl
theorem jw_514 : Cond.methodLink "LevelingNetwork$Survey" 87 ⟨"java/lang/Math", "abs", "(I)I"⟩ ∈ jk_WS := jk_wt3 (i := 34) (by decide +kernel) rfl
theorem jw_515 : Cond.static ⟨"java/lang/Math", "abs", "(I)I"⟩ ∈ jk_WS := jk_wt3 (i := 35) (by decide +kernel) rfl
theorem jw_516 : Cond.code ⟨"java/lang/Math", "abs", "(I)I"⟩ prog_30_method_59_code 1 (Option.some ClassFile.FieldType.int) ∈ jk_WS := jk_wt3 (i := 36) (by decide +kernel) rfl
theorem jw_517 : Cond.methodLinkNest "LevelingNetwork$Survey" 92 ⟨"LevelingNetwork", "toleranceFor", "(I)I"⟩ "LevelingNetwork" ∈ jk_WS := jk_wt3 (i := 37) (by decide +kernel) rfl
theorem jw_518 : Cond.static ⟨"LevelingNetwork", "toleranceFor", "(I)I"⟩ ∈ jk_WS := jk_wt3 (i := 38) (by decide +kernel) rfl
theorem jw_519 : Cond.code ⟨"LevelingNetwork", "toleranceFor", "(I)I"⟩ prog_1_method_79_code 3 (Option.some ClassFile.FieldType.int) ∈ jk_WS := jk_wt3 (i := 39) (by decide +kernel) rfl
theorem jw_520 : Cond.methodLink "LevelingNetwork$Forest" 36 ⟨"LevelingNetwork$Forest", "consider", "(I)V"⟩ ∈ jk_WS := jk_wt3 (i := 40) (by decide +kernel) rfl
theorem jw_522 : Cond.instanceMethod ⟨"LevelingNetwork$Forest", "consider", "(I)V"⟩ ∈ jk_WS := jk_wt3 (i := 42) (by decide +kernel) rfl
theorem jw_523 : Cond.code ⟨"LevelingNetwork$Forest", "consider", "(I)V"⟩ prog_5_method_4_code 7 (Option.none : Option ClassFile.FieldType) ∈ jk_WS := jk_wt3 (i := 43) (by decide +kernel) rfl
theorem jw_524 : Cond.methodLink "LevelingNetwork$Forest" 58 ⟨"java/lang/Math", "min", "(II)I"⟩ ∈ jk_WS := jk_wt3 (i := 44) (by decide +kernel) rfl
theorem jw_525 : Cond.static ⟨"java/lang/Math", "min", "(II)I"⟩ ∈ jk_WS := jk_wt3 (i := 45) (by decide +kernel) rfl
theorem jw_526 : Cond.code ⟨"java/lang/Math", "min", "(II)I"⟩ prog_30_method_69_code 2 (Option.some ClassFile.FieldType.int) ∈ jk_WS := jk_wt3 (i := 46) (by decide +kernel) rfl
theorem jw_527 : Cond.methodLink "LevelingNetwork$Forest" 64 ⟨"java/lang/Math", "max", "(II)I"⟩ ∈ jk_WS := jk_wt3 (i := 47) (by decide +kernel) rfl
theorem jw_528 : Cond.static ⟨"java/lang/Math", "max", "(II)I"⟩ ∈ jk_WS := jk_wt3 (i := 48) (by decide +kernel) rfl
theorem jw_529 : Cond.code ⟨"java/lang/Math", "max", "(II)I"⟩ prog_30_method_65_code 2 (Option.some ClassFile.FieldType.int) ∈ jk_WS := jk_wt3 (i := 49) (by decide +kernel) rfl
theorem jw_530 : Cond.methodLink "LevelingNetwork$Changes" 130 ⟨"LevelingNetwork$Forest", "closesLoop", "(I)Z"⟩ ∈ jk_WS := jk_wt3 (i := 50) (by decide +kernel) rfl
theorem jw_531 : Cond.instanceMethod ⟨"LevelingNetwork$Forest", "closesLoop", "(I)Z"⟩ ∈ jk_WS := jk_wt3 (i := 51) (by decide +kernel) rfl
theorem jw_532 : Cond.selects "LevelingNetwork$Forest" ⟨"LevelingNetwork$Forest", "closesLoop", "(I)Z"⟩ ⟨"LevelingNetwork$Forest", "closesLoop", "(I)Z"⟩ ∈ jk_WS := jk_wt3 (i := 52) (by decide +kernel) rfl
theorem jw_533 : Cond.code ⟨"LevelingNetwork$Forest", "closesLoop", "(I)Z"⟩ prog_5_method_10_code 2 (Option.some ClassFile.FieldType.boolean) ∈ jk_WS := jk_wt3 (i := 53) (by decide +kernel) rfl
theorem jw_534 : Cond.fieldLink "LevelingNetwork$Changes" 133 "LevelingNetwork$Trouble" "NO_LOOP" "LLevelingNetwork$Trouble;" ∈ jk_WS := jk_wt3 (i := 54) (by decide +kernel) rfl
theorem jw_536 : Cond.methodLink "LevelingNetwork$Changes" 136 ⟨"LevelingNetwork$Way", "traceLoop", "(I)V"⟩ ∈ jk_WS := jk_wt3 (i := 56) (by decide +kernel) rfl
theorem jw_537 : Cond.instanceMethod ⟨"LevelingNetwork$Way", "traceLoop", "(I)V"⟩ ∈ jk_WS := jk_wt3 (i := 57) (by decide +kernel) rfl
theorem jw_538 : Cond.selects "LevelingNetwork$Way" ⟨"LevelingNetwork$Way", "traceLoop", "(I)V"⟩ ⟨"LevelingNetwork$Way", "traceLoop", "(I)V"⟩ ∈ jk_WS := jk_wt3 (i := 58) (by decide +kernel) rfl
theorem jw_539 : Cond.code ⟨"LevelingNetwork$Way", "traceLoop", "(I)V"⟩ prog_13_method_3_code 2 (Option.none : Option ClassFile.FieldType) ∈ jk_WS := jk_wt3 (i := 59) (by decide +kernel) rfl
theorem jw_540 : Cond.methodLink "LevelingNetwork$Way" 39 ⟨"LevelingNetwork$Way", "add", "(II)I"⟩ ∈ jk_WS := jk_wt3 (i := 60) (by decide +kernel) rfl
theorem jw_542 : Cond.instanceMethod ⟨"LevelingNetwork$Way", "add", "(II)I"⟩ ∈ jk_WS := jk_wt3 (i := 62) (by decide +kernel) rfl
theorem jw_543 : Cond.code ⟨"LevelingNetwork$Way", "add", "(II)I"⟩ prog_13_method_6_code 4 (Option.some ClassFile.FieldType.int) ∈ jk_WS := jk_wt3 (i := 63) (by decide +kernel) rfl
theorem jw_544 : Cond.methodLink "LevelingNetwork$Way" 30 ⟨"LevelingNetwork$Way", "walk", "(LLevelingNetwork$Way;III)Z"⟩ ∈ jk_WS := jk_wt3 (i := 64) (by decide +kernel) rfl
theorem jw_545 : Cond.static ⟨"LevelingNetwork$Way", "walk", "(LLevelingNetwork$Way;III)Z"⟩ ∈ jk_WS := jk_wt3 (i := 65) (by decide +kernel) rfl
theorem jw_546 : Cond.code ⟨"LevelingNetwork$Way", "walk", "(LLevelingNetwork$Way;III)Z"⟩ prog_13_method_4_code 6 (Option.some ClassFile.FieldType.boolean) ∈ jk_WS := jk_wt3 (i := 66) (by decide +kernel) rfl
theorem jw_547 : Cond.methodLink "LevelingNetwork$Way" 48 ⟨"LevelingNetwork$Way", "leadsOn", "(II)Z"⟩ ∈ jk_WS := jk_wt3 (i := 67) (by decide +kernel) rfl
theorem jw_549 : Cond.instanceMethod ⟨"LevelingNetwork$Way", "leadsOn", "(II)Z"⟩ ∈ jk_WS := jk_wt3 (i := 69) (by decide +kernel) rfl
theorem jw_550 : Cond.code ⟨"LevelingNetwork$Way", "leadsOn", "(II)Z"⟩ prog_13_method_5_code 4 (Option.some ClassFile.FieldType.boolean) ∈ jk_WS := jk_wt3 (i := 70) (by decide +kernel) rfl
theorem jw_551 : Cond.methodLink "LevelingNetwork$Changes" 142 ⟨"LevelingNetwork$Way", "rise", "()I"⟩ ∈ jk_WS := jk_wt3 (i := 71) (by decide +kernel) rfl
theorem jw_552 : Cond.instanceMethod ⟨"LevelingNetwork$Way", "rise", "()I"⟩ ∈ jk_WS := jk_wt3 (i := 72) (by decide +kernel) rfl
theorem jw_553 : Cond.selects "LevelingNetwork$Way" ⟨"LevelingNetwork$Way", "rise", "()I"⟩ ⟨"LevelingNetwork$Way", "rise", "()I"⟩ ∈ jk_WS := jk_wt3 (i := 73) (by decide +kernel) rfl
theorem jw_554 : Cond.code ⟨"LevelingNetwork$Way", "rise", "()I"⟩ prog_13_method_7_code 3 (Option.some ClassFile.FieldType.int) ∈ jk_WS := jk_wt3 (i := 74) (by decide +kernel) rfl
theorem jw_555 : Cond.methodLink "LevelingNetwork$Way" 58 ⟨"LevelingNetwork$Survey", "corrected", "(I)I"⟩ ∈ jk_WS := jk_wt3 (i := 75) (by decide +kernel) rfl
theorem jw_556 : Cond.instanceMethod ⟨"LevelingNetwork$Survey", "corrected", "(I)I"⟩ ∈ jk_WS := jk_wt3 (i := 76) (by decide +kernel) rfl
theorem jw_557 : Cond.selects "LevelingNetwork$Survey" ⟨"LevelingNetwork$Survey", "corrected", "(I)I"⟩ ⟨"LevelingNetwork$Survey", "corrected", "(I)I"⟩ ∈ jk_WS := jk_wt3 (i := 77) (by decide +kernel) rfl
theorem jw_558 : Cond.code ⟨"LevelingNetwork$Survey", "corrected", "(I)I"⟩ prog_11_method_12_code 2 (Option.some ClassFile.FieldType.int) ∈ jk_WS := jk_wt3 (i := 78) (by decide +kernel) rfl
theorem jw_559 : Cond.methodLink "LevelingNetwork$Survey" 80 ⟨"LevelingNetwork$Survey", "levelled", "(I)I"⟩ ∈ jk_WS := jk_wt3 (i := 79) (by decide +kernel) rfl
theorem jw_560 : Cond.instanceMethod ⟨"LevelingNetwork$Survey", "levelled", "(I)I"⟩ ∈ jk_WS := jk_wt3 (i := 80) (by decide +kernel) rfl
theorem jw_561 : Cond.selects "LevelingNetwork$Survey" ⟨"LevelingNetwork$Survey", "levelled", "(I)I"⟩ ⟨"LevelingNetwork$Survey", "levelled", "(I)I"⟩ ∈ jk_WS := jk_wt3 (i := 81) (by decide +kernel) rfl
theorem jw_562 : Cond.code ⟨"LevelingNetwork$Survey", "levelled", "(I)I"⟩ prog_11_method_11_code 2 (Option.some ClassFile.FieldType.int) ∈ jk_WS := jk_wt3 (i := 82) (by decide +kernel) rfl
theorem jw_563 : Cond.methodLink "LevelingNetwork$Changes" 145 ⟨"java/lang/Math", "abs", "(I)I"⟩ ∈ jk_WS := jk_wt3 (i := 83) (by decide +kernel) rfl
theorem jw_564 : Cond.methodLink "LevelingNetwork$Changes" 151 ⟨"LevelingNetwork$Way", "totalLength", "()I"⟩ ∈ jk_WS := jk_wt3 (i := 84) (by decide +kernel) rfl
theorem jw_565 : Cond.instanceMethod ⟨"LevelingNetwork$Way", "totalLength", "()I"⟩ ∈ jk_WS := jk_wt3 (i := 85) (by decide +kernel) rfl
theorem jw_566 : Cond.selects "LevelingNetwork$Way" ⟨"LevelingNetwork$Way", "totalLength", "()I"⟩ ⟨"LevelingNetwork$Way", "totalLength", "()I"⟩ ∈ jk_WS := jk_wt3 (i := 86) (by decide +kernel) rfl
theorem jw_567 : Cond.code ⟨"LevelingNetwork$Way", "totalLength", "()I"⟩ prog_13_method_8_code 3 (Option.some ClassFile.FieldType.int) ∈ jk_WS := jk_wt3 (i := 87) (by decide +kernel) rfl
theorem jw_568 : Cond.methodLinkNest "LevelingNetwork$Changes" 154 ⟨"LevelingNetwork", "toleranceFor", "(I)I"⟩ "LevelingNetwork" ∈ jk_WS := jk_wt3 (i := 88) (by decide +kernel) rfl
theorem jw_569 : Cond.fieldLink "LevelingNetwork$Changes" 157 "LevelingNetwork$Trouble" "TOO_GREAT" "LLevelingNetwork$Trouble;" ∈ jk_WS := jk_wt3 (i := 89) (by decide +kernel) rfl
theorem jw_571 : Cond.methodLink "LevelingNetwork$Changes" 71 ⟨"LevelingNetwork$Changes", "troubleWithProfile", "(I)LLevelingNetwork$Trouble;"⟩ ∈ jk_WS := jk_wt3 (i := 91) (by decide +kernel) rfl
theorem jw_573 : Cond.instanceMethod ⟨"LevelingNetwork$Changes", "troubleWithProfile", "(I)LLevelingNetwork$Trouble;"⟩ ∈ jk_WS := jk_wt3 (i := 93) (by decide +kernel) rfl
theorem jw_574 : Cond.code ⟨"LevelingNetwork$Changes", "troubleWithProfile", "(I)LLevelingNetwork$Trouble;"⟩ prog_4_method_12_code 2 (Option.some (ClassFile.FieldType.object "LevelingNetwork$Trouble")) ∈ jk_WS := jk_wt3 (i := 94) (by decide +kernel) rfl
theorem jw_575 : Cond.methodLink "LevelingNetwork$Changes" 74 ⟨"LevelingNetwork$Changes", "troubleWithStation", "(III)LLevelingNetwork$Trouble;"⟩ ∈ jk_WS := jk_wt3 (i := 95) (by decide +kernel) rfl
theorem jw_577 : Cond.instanceMethod ⟨"LevelingNetwork$Changes", "troubleWithStation", "(III)LLevelingNetwork$Trouble;"⟩ ∈ jk_WS := jk_wt3 (i := 97) (by decide +kernel) rfl
theorem jw_578 : Cond.code ⟨"LevelingNetwork$Changes", "troubleWithStation", "(III)LLevelingNetwork$Trouble;"⟩ prog_4_method_13_code 5 (Option.some (ClassFile.FieldType.object "LevelingNetwork$Trouble")) ∈ jk_WS := jk_wt3 (i := 98) (by decide +kernel) rfl
theorem jw_579 : Cond.methodLink "LevelingNetwork$Changes" 163 ⟨"LevelingNetwork$Survey", "hasProfile", "(I)Z"⟩ ∈ jk_WS := jk_wt3 (i := 99) (by decide +kernel) rfl
theorem jw_580 : Cond.instanceMethod ⟨"LevelingNetwork$Survey", "hasProfile", "(I)Z"⟩ ∈ jk_WS := jk_wt3 (i := 100) (by decide +kernel) rfl
theorem jw_581 : Cond.selects "LevelingNetwork$Survey" ⟨"LevelingNetwork$Survey", "hasProfile", "(I)Z"⟩ ⟨"LevelingNetwork$Survey", "hasProfile", "(I)Z"⟩ ∈ jk_WS := jk_wt3 (i := 101) (by decide +kernel) rfl
theorem jw_582 : Cond.code ⟨"LevelingNetwork$Survey", "hasProfile", "(I)Z"⟩ prog_11_method_8_code 2 (Option.some ClassFile.FieldType.boolean) ∈ jk_WS := jk_wt3 (i := 102) (by decide +kernel) rfl
theorem jw_583 : Cond.methodLink "LevelingNetwork" 432 ⟨"LevelingNetwork", "raise", "(LLevelingNetwork$Trouble;)V"⟩ ∈ jk_WS := jk_wt3 (i := 103) (by decide +kernel) rfl
theorem jw_584 : Cond.static ⟨"LevelingNetwork", "raise", "(LLevelingNetwork$Trouble;)V"⟩ ∈ jk_WS := jk_wt3 (i := 104) (by decide +kernel) rfl
theorem jw_585 : Cond.code ⟨"LevelingNetwork", "raise", "(LLevelingNetwork$Trouble;)V"⟩ prog_1_method_66_code 1 (Option.none : Option ClassFile.FieldType) ∈ jk_WS := jk_wt3 (i := 105) (by decide +kernel) rfl
theorem jw_586 : Cond.fieldLink "LevelingNetwork" 439 "LevelingNetwork$1" "$SwitchMap$LevelingNetwork$Trouble" "[I" ∈ jk_WS := jk_wt3 (i := 106) (by decide +kernel) rfl
theorem jw_588 : Cond.methodLink "LevelingNetwork" 444 ⟨"LevelingNetwork$Trouble", "ordinal", "()I"⟩ ∈ jk_WS := jk_wt3 (i := 108) (by decide +kernel) rfl
theorem jw_589 : Cond.sameMethod "LevelingNetwork$Trouble" "java/lang/Enum" "ordinal" "()I" ∈ jk_WS := jk_wt3 (i := 109) (by decide +kernel) rfl
theorem jw_590 : Cond.selects "LevelingNetwork$Trouble" ⟨"LevelingNetwork$Trouble", "ordinal", "()I"⟩ ⟨"java/lang/Enum", "ordinal", "()I"⟩ ∈ jk_WS := jk_wt3 (i := 110) (by decide +kernel) rfl
theorem jw_591 : Cond.classLink "LevelingNetwork" 370 "java/lang/IndexOutOfBoundsException" ∈ jk_WS := jk_wt3 (i := 111) (by decide +kernel) rfl
theorem jw_592 : Cond.instantiable "java/lang/IndexOutOfBoundsException" 6 ∈ jk_WS := jk_wt3 (i := 112) (by decide +kernel) rfl
theorem jw_593 : Cond.castable "java/lang/IndexOutOfBoundsException" "java/lang/IndexOutOfBoundsException" ∈ jk_WS := jk_wt3 (i := 113) (by decide +kernel) rfl
theorem jw_594 : Cond.declares ⟨"java/lang/RuntimeException", "<init>", "()V"⟩ ∈ jk_WS := jk_wt3 (i := 114) (by decide +kernel) rfl
theorem jw_595 : Cond.declares ⟨"java/lang/RuntimeException", "<init>", "(Ljava/lang/String;)V"⟩ ∈ jk_WS := jk_wt3 (i := 115) (by decide +kernel) rfl
theorem jw_596 : Cond.declares ⟨"java/lang/Exception", "<init>", "()V"⟩ ∈ jk_WS := jk_wt3 (i := 116) (by decide +kernel) rfl
theorem jw_597 : Cond.declares ⟨"java/lang/Exception", "<init>", "(Ljava/lang/String;)V"⟩ ∈ jk_WS := jk_wt3 (i := 117) (by decide +kernel) rfl
theorem jw_598 : Cond.declares ⟨"java/lang/Throwable", "<init>", "()V"⟩ ∈ jk_WS := jk_wt3 (i := 118) (by decide +kernel) rfl
theorem jw_599 : Cond.declares ⟨"java/lang/Throwable", "<init>", "(Ljava/lang/String;)V"⟩ ∈ jk_WS := jk_wt3 (i := 119) (by decide +kernel) rfl
theorem jw_600 : Cond.selects "java/lang/IndexOutOfBoundsException" ⟨"java/lang/Throwable", "fillInStackTrace", "(I)Ljava/lang/Throwable;"⟩ ⟨"java/lang/Throwable", "fillInStackTrace", "(I)Ljava/lang/Throwable;"⟩ ∈ jk_WS := jk_wt3 (i := 120) (by decide +kernel) rfl
theorem jw_601 : Cond.selects "java/lang/IndexOutOfBoundsException" ⟨"java/lang/Throwable", "fillInStackTrace", "()Ljava/lang/Throwable;"⟩ ⟨"java/lang/Throwable", "fillInStackTrace", "()Ljava/lang/Throwable;"⟩ ∈ jk_WS := jk_wt3 (i := 121) (by decide +kernel) rfl
theorem jw_602 : Cond.lays "java/lang/IndexOutOfBoundsException" "java/lang/Throwable" "cause" "Ljava/lang/Throwable;" ∈ jk_WS := jk_wt3 (i := 122) (by decide +kernel) rfl
theorem jw_603 : Cond.lays "java/lang/Throwable" "java/lang/Throwable" "cause" "Ljava/lang/Throwable;" ∈ jk_WS := jk_wt3 (i := 123) (by decide +kernel) rfl
theorem jw_604 : Cond.lays "java/lang/IndexOutOfBoundsException" "java/lang/Throwable" "stackTrace" "[Ljava/lang/StackTraceElement;" ∈ jk_WS := jk_wt3 (i := 124) (by decide +kernel) rfl
theorem jw_605 : Cond.lays "java/lang/Throwable" "java/lang/Throwable" "stackTrace" "[Ljava/lang/StackTraceElement;" ∈ jk_WS := jk_wt3 (i := 125) (by decide +kernel) rfl
theorem jw_606 : Cond.lays "java/lang/IndexOutOfBoundsException" "java/lang/Throwable" "suppressedExceptions" "Ljava/util/List;" ∈ jk_WS := jk_wt3 (i := 126) (by decide +kernel) rfl
theorem jw_607 : Cond.lays "java/lang/Throwable" "java/lang/Throwable" "suppressedExceptions" "Ljava/util/List;" ∈ jk_WS := jk_wt3 (i := 127) (by decide +kernel) rfl
theorem jw_608 : Cond.lays "java/lang/IndexOutOfBoundsException" "java/lang/Throwable" "detailMessage" "Ljava/lang/String;" ∈ jk_WS := jk_wt3 (i := 128) (by decide +kernel) rfl
theorem jw_609 : Cond.lays "java/lang/Throwable" "java/lang/Throwable" "detailMessage" "Ljava/lang/String;" ∈ jk_WS := jk_wt3 (i := 129) (by decide +kernel) rfl
theorem jw_610 : Cond.lays "java/lang/IndexOutOfBoundsException" "java/lang/Throwable" "backtrace" "Ljava/lang/Object;" ∈ jk_WS := jk_wt3 (i := 130) (by decide +kernel) rfl
theorem jw_611 : Cond.lays "java/lang/Throwable" "java/lang/Throwable" "backtrace" "Ljava/lang/Object;" ∈ jk_WS := jk_wt3 (i := 131) (by decide +kernel) rfl
theorem jw_612 : Cond.fieldLink "java/lang/Throwable" 198 "java/lang/Throwable" "backtrace" "Ljava/lang/Object;" ∈ jk_WS := jk_wt3 (i := 132) (by decide +kernel) rfl
theorem jw_613 : Cond.superclass "java/lang/Throwable" "java/lang/Object" ∈ jk_WS := jk_wt3 (i := 133) (by decide +kernel) rfl
theorem jw_614 : Cond.instanceMethod ⟨"java/lang/Throwable", "<init>", "()V"⟩ ∈ jk_WS := jk_wt3 (i := 134) (by decide +kernel) rfl
theorem jw_615 : Cond.code ⟨"java/lang/Throwable", "<init>", "()V"⟩ prog_39_method_1_code 1 (Option.none : Option ClassFile.FieldType) ∈ jk_WS := jk_wt3 (i := 135) (by decide +kernel) rfl
theorem jw_616 : Cond.methodLink "java/lang/Throwable" 1 ⟨"java/lang/Object", "<init>", "()V"⟩ ∈ jk_WS := jk_wt3 (i := 136) (by decide +kernel) rfl
theorem jw_617 : Cond.fieldLink "java/lang/Throwable" 13 "java/lang/Throwable" "UNASSIGNED_STACK" "[Ljava/lang/StackTraceElement;" ∈ jk_WS := jk_wt3 (i := 137) (by decide +kernel) rfl
theorem jw_619 : Cond.fieldLink "java/lang/Throwable" 20 "java/lang/Throwable" "SUPPRESSED_SENTINEL" "Ljava/util/List;" ∈ jk_WS := jk_wt3 (i := 139) (by decide +kernel) rfl
theorem jw_621 : Cond.methodLink "java/lang/Throwable" 27 ⟨"java/lang/Throwable", "fillInStackTrace", "()Ljava/lang/Throwable;"⟩ ∈ jk_WS := jk_wt3 (i := 141) (by decide +kernel) rfl
theorem jw_622 : Cond.instanceMethod ⟨"java/lang/Throwable", "fillInStackTrace", "()Ljava/lang/Throwable;"⟩ ∈ jk_WS := jk_wt3 (i := 142) (by decide +kernel) rfl
theorem jw_623 : Cond.sameMethod "java/lang/Throwable" "java/lang/Throwable" "fillInStackTrace" "()Ljava/lang/Throwable;" ∈ jk_WS := jk_wt3 (i := 143) (by decide +kernel) rfl
theorem jw_624 : Cond.selects "java/lang/ArithmeticException" ⟨"java/lang/Throwable", "fillInStackTrace", "()Ljava/lang/Throwable;"⟩ ⟨"java/lang/Throwable", "fillInStackTrace", "()Ljava/lang/Throwable;"⟩ ∈ jk_WS := jk_wt3 (i := 144) (by decide +kernel) rfl
theorem jw_625 : Cond.selects "java/lang/ArrayIndexOutOfBoundsException" ⟨"java/lang/Throwable", "fillInStackTrace", "()Ljava/lang/Throwable;"⟩ ⟨"java/lang/Throwable", "fillInStackTrace", "()Ljava/lang/Throwable;"⟩ ∈ jk_WS := jk_wt3 (i := 145) (by decide +kernel) rfl
theorem jw_626 : Cond.selects "java/lang/IllegalArgumentException" ⟨"java/lang/Throwable", "fillInStackTrace", "()Ljava/lang/Throwable;"⟩ ⟨"java/lang/Throwable", "fillInStackTrace", "()Ljava/lang/Throwable;"⟩ ∈ jk_WS := jk_wt3 (i := 146) (by decide +kernel) rfl
theorem jw_627 : Cond.selects "java/lang/IllegalStateException" ⟨"java/lang/Throwable", "fillInStackTrace", "()Ljava/lang/Throwable;"⟩ ⟨"java/lang/Throwable", "fillInStackTrace", "()Ljava/lang/Throwable;"⟩ ∈ jk_WS := jk_wt3 (i := 147) (by decide +kernel) rfl
theorem jw_628 : Cond.selects "java/lang/StringIndexOutOfBoundsException" ⟨"java/lang/Throwable", "fillInStackTrace", "()Ljava/lang/Throwable;"⟩ ⟨"java/lang/Throwable", "fillInStackTrace", "()Ljava/lang/Throwable;"⟩ ∈ jk_WS := jk_wt3 (i := 148) (by decide +kernel) rfl
theorem jw_629 : Cond.selects "java/lang/UnsupportedOperationException" ⟨"java/lang/Throwable", "fillInStackTrace", "()Ljava/lang/Throwable;"⟩ ⟨"java/lang/Throwable", "fillInStackTrace", "()Ljava/lang/Throwable;"⟩ ∈ jk_WS := jk_wt3 (i := 149) (by decide +kernel) rfl
theorem jw_630 : Cond.selects "java/util/NoSuchElementException" ⟨"java/lang/Throwable", "fillInStackTrace", "()Ljava/lang/Throwable;"⟩ ⟨"java/lang/Throwable", "fillInStackTrace", "()Ljava/lang/Throwable;"⟩ ∈ jk_WS := jk_wt3 (i := 150) (by decide +kernel) rfl
theorem jw_631 : Cond.codeSync ⟨"java/lang/Throwable", "fillInStackTrace", "()Ljava/lang/Throwable;"⟩ prog_39_method_18_code 1 (Option.some (ClassFile.FieldType.object "java/lang/Throwable")) ∈ jk_WS := jk_wt3 (i := 151) (by decide +kernel) rfl
theorem jw_632 : Cond.methodLink "java/lang/Throwable" 202 ⟨"java/lang/Throwable", "fillInStackTrace", "(I)Ljava/lang/Throwable;"⟩ ∈ jk_WS := jk_wt3 (i := 152) (by decide +kernel) rfl
theorem jw_634 : Cond.instanceMethod ⟨"java/lang/Throwable", "fillInStackTrace", "(I)Ljava/lang/Throwable;"⟩ ∈ jk_WS := jk_wt3 (i := 154) (by decide +kernel) rfl
theorem jw_635 : Cond.instantiable "java/lang/Throwable" 6 ∈ jk_WS := jk_wt3 (i := 155) (by decide +kernel) rfl
theorem jw_636 : Cond.native ⟨"java/lang/Throwable", "fillInStackTrace", "(I)Ljava/lang/Throwable;"⟩ ∈ jk_WS := jk_wt3 (i := 156) (by decide +kernel) rfl
theorem jw_638 : Cond.methodLink "LevelingNetwork" 374 ⟨"java/lang/IndexOutOfBoundsException", "<init>", "(Ljava/lang/String;)V"⟩ ∈ jk_WS := jk_wt3 (i := 158) (by decide +kernel) rfl
theorem jw_639 : Cond.instanceMethod ⟨"java/lang/IndexOutOfBoundsException", "<init>", "(Ljava/lang/String;)V"⟩ ∈ jk_WS := jk_wt3 (i := 159) (by decide +kernel) rfl
theorem jw_640 : Cond.code ⟨"java/lang/IndexOutOfBoundsException", "<init>", "(Ljava/lang/String;)V"⟩ prog_28_method_2_code 2 (Option.none : Option ClassFile.FieldType) ∈ jk_WS := jk_wt3 (i := 160) (by decide +kernel) rfl
theorem jw_641 : Cond.methodLink "java/lang/IndexOutOfBoundsException" 7 ⟨"java/lang/RuntimeException", "<init>", "(Ljava/lang/String;)V"⟩ ∈ jk_WS := jk_wt3 (i := 161) (by decide +kernel) rfl
theorem jw_642 : Cond.instanceMethod ⟨"java/lang/RuntimeException", "<init>", "(Ljava/lang/String;)V"⟩ ∈ jk_WS := jk_wt3 (i := 162) (by decide +kernel) rfl
theorem jw_643 : Cond.code ⟨"java/lang/RuntimeException", "<init>", "(Ljava/lang/String;)V"⟩ prog_32_method_2_code 2 (Option.none : Option ClassFile.FieldType) ∈ jk_WS := jk_wt3 (i := 163) (by decide +kernel) rfl
theorem jw_644 : Cond.methodLink "java/lang/RuntimeException" 7 ⟨"java/lang/Exception", "<init>", "(Ljava/lang/String;)V"⟩ ∈ jk_WS := jk_wt3 (i := 164) (by decide +kernel) rfl
theorem jw_645 : Cond.instanceMethod ⟨"java/lang/Exception", "<init>", "(Ljava/lang/String;)V"⟩ ∈ jk_WS := jk_wt3 (i := 165) (by decide +kernel) rfl
theorem jw_646 : Cond.code ⟨"java/lang/Exception", "<init>", "(Ljava/lang/String;)V"⟩ prog_25_method_2_code 2 (Option.none : Option ClassFile.FieldType) ∈ jk_WS := jk_wt3 (i := 166) (by decide +kernel) rfl
theorem jw_647 : Cond.methodLink "java/lang/Exception" 7 ⟨"java/lang/Throwable", "<init>", "(Ljava/lang/String;)V"⟩ ∈ jk_WS := jk_wt3 (i := 167) (by decide +kernel) rfl
theorem jw_648 : Cond.instanceMethod ⟨"java/lang/Throwable", "<init>", "(Ljava/lang/String;)V"⟩ ∈ jk_WS := jk_wt3 (i := 168) (by decide +kernel) rfl
theorem jw_649 : Cond.code ⟨"java/lang/Throwable", "<init>", "(Ljava/lang/String;)V"⟩ prog_39_method_2_code 2 (Option.none : Option ClassFile.FieldType) ∈ jk_WS := jk_wt3 (i := 169) (by decide +kernel) rfl
theorem jw_650 : Cond.fieldLink "java/lang/Throwable" 198 "java/lang/Throwable" "backtrace" "Ljava/lang/Object;" ∈ jk_WS := jk_wt3 (i := 170) (by decide +kernel) rfl
theorem jw_651 : Cond.fieldLink "java/lang/Throwable" 31 "java/lang/Throwable" "detailMessage" "Ljava/lang/String;" ∈ jk_WS := jk_wt3 (i := 171) (by decide +kernel) rfl
theorem jw_652 : Cond.fieldLink "java/lang/Throwable" 7 "java/lang/Throwable" "cause" "Ljava/lang/Throwable;" ∈ jk_WS := jk_wt3 (i := 172) (by decide +kernel) rfl
theorem jw_653 : Cond.fieldLink "java/lang/Throwable" 17 "java/lang/Throwable" "stackTrace" "[Ljava/lang/StackTraceElement;" ∈ jk_WS := jk_wt3 (i := 173) (by decide +kernel) rfl
theorem jw_654 : Cond.fieldLink "java/lang/Throwable" 24 "java/lang/Throwable" "suppressedExceptions" "Ljava/util/List;" ∈ jk_WS := jk_wt3 (i := 174) (by decide +kernel) rfl
theorem jw_659 : Cond.lays "java/lang/IndexOutOfBoundsException" "java/lang/Throwable" "depth" "I" ∈ jk_WS := jk_wt3 (i := 179) (by decide +kernel) rfl
theorem jw_662 : Cond.superclass "java/lang/IndexOutOfBoundsException" "java/lang/RuntimeException" ∈ jk_WS := jk_wt3 (i := 182) (by decide +kernel) rfl
theorem jw_663 : Cond.classLink "LevelingNetwork" 232 "java/lang/IllegalArgumentException" ∈ jk_WS := jk_wt3 (i := 183) (by decide +kernel) rfl
theorem jw_664 : Cond.instantiable "java/lang/IllegalArgumentException" 6 ∈ jk_WS := jk_wt3 (i := 184) (by decide +kernel) rfl
theorem jw_665 : Cond.castable "java/lang/IllegalArgumentException" "java/lang/IllegalArgumentException" ∈ jk_WS := jk_wt3 (i := 185) (by decide +kernel) rfl
theorem jw_666 : Cond.selects "java/lang/IllegalArgumentException" ⟨"java/lang/Throwable", "fillInStackTrace", "(I)Ljava/lang/Throwable;"⟩ ⟨"java/lang/Throwable", "fillInStackTrace", "(I)Ljava/lang/Throwable;"⟩ ∈ jk_WS := jk_wt3 (i := 186) (by decide +kernel) rfl
theorem jw_667 : Cond.lays "java/lang/IllegalArgumentException" "java/lang/Throwable" "cause" "Ljava/lang/Throwable;" ∈ jk_WS := jk_wt3 (i := 187) (by decide +kernel) rfl
theorem jw_668 : Cond.lays "java/lang/IllegalArgumentException" "java/lang/Throwable" "stackTrace" "[Ljava/lang/StackTraceElement;" ∈ jk_WS := jk_wt3 (i := 188) (by decide +kernel) rfl
theorem jw_669 : Cond.lays "java/lang/IllegalArgumentException" "java/lang/Throwable" "suppressedExceptions" "Ljava/util/List;" ∈ jk_WS := jk_wt3 (i := 189) (by decide +kernel) rfl
theorem jw_670 : Cond.lays "java/lang/IllegalArgumentException" "java/lang/Throwable" "detailMessage" "Ljava/lang/String;" ∈ jk_WS := jk_wt3 (i := 190) (by decide +kernel) rfl
theorem jw_671 : Cond.lays "java/lang/IllegalArgumentException" "java/lang/Throwable" "backtrace" "Ljava/lang/Object;" ∈ jk_WS := jk_wt3 (i := 191) (by decide +kernel) rfl
theorem jw_673 : Cond.methodLink "LevelingNetwork" 236 ⟨"java/lang/IllegalArgumentException", "<init>", "(Ljava/lang/String;)V"⟩ ∈ jk_WS := jk_wt3 (i := 193) (by decide +kernel) rfl
theorem jw_674 : Cond.instanceMethod ⟨"java/lang/IllegalArgumentException", "<init>", "(Ljava/lang/String;)V"⟩ ∈ jk_WS := jk_wt3 (i := 194) (by decide +kernel) rfl
theorem jw_675 : Cond.code ⟨"java/lang/IllegalArgumentException", "<init>", "(Ljava/lang/String;)V"⟩ prog_26_method_2_code 2 (Option.none : Option ClassFile.FieldType) ∈ jk_WS := jk_wt3 (i := 195) (by decide +kernel) rfl
theorem jw_676 : Cond.methodLink "java/lang/IllegalArgumentException" 7 ⟨"java/lang/RuntimeException", "<init>", "(Ljava/lang/String;)V"⟩ ∈ jk_WS := jk_wt3 (i := 196) (by decide +kernel) rfl
theorem jw_677 : Cond.lays "java/lang/IllegalArgumentException" "java/lang/Throwable" "depth" "I" ∈ jk_WS := jk_wt3 (i := 197) (by decide +kernel) rfl
theorem jw_678 : Cond.superclass "java/lang/IllegalArgumentException" "java/lang/RuntimeException" ∈ jk_WS := jk_wt3 (i := 198) (by decide +kernel) rfl
theorem jw_679 : Cond.classLink "LevelingNetwork" 381 "java/lang/IllegalStateException" ∈ jk_WS := jk_wt3 (i := 199) (by decide +kernel) rfl
theorem jw_680 : Cond.instantiable "java/lang/IllegalStateException" 6 ∈ jk_WS := jk_wt3 (i := 200) (by decide +kernel) rfl
theorem jw_681 : Cond.castable "java/lang/IllegalStateException" "java/lang/IllegalStateException" ∈ jk_WS := jk_wt3 (i := 201) (by decide +kernel) rfl
theorem jw_682 : Cond.selects "java/lang/IllegalStateException" ⟨"java/lang/Throwable", "fillInStackTrace", "(I)Ljava/lang/Throwable;"⟩ ⟨"java/lang/Throwable", "fillInStackTrace", "(I)Ljava/lang/Throwable;"⟩ ∈ jk_WS := jk_wt3 (i := 202) (by decide +kernel) rfl
theorem jw_683 : Cond.lays "java/lang/IllegalStateException" "java/lang/Throwable" "cause" "Ljava/lang/Throwable;" ∈ jk_WS := jk_wt3 (i := 203) (by decide +kernel) rfl
theorem jw_684 : Cond.lays "java/lang/IllegalStateException" "java/lang/Throwable" "stackTrace" "[Ljava/lang/StackTraceElement;" ∈ jk_WS := jk_wt3 (i := 204) (by decide +kernel) rfl
theorem jw_685 : Cond.lays "java/lang/IllegalStateException" "java/lang/Throwable" "suppressedExceptions" "Ljava/util/List;" ∈ jk_WS := jk_wt3 (i := 205) (by decide +kernel) rfl
theorem jw_686 : Cond.lays "java/lang/IllegalStateException" "java/lang/Throwable" "detailMessage" "Ljava/lang/String;" ∈ jk_WS := jk_wt3 (i := 206) (by decide +kernel) rfl
theorem jw_687 : Cond.lays "java/lang/IllegalStateException" "java/lang/Throwable" "backtrace" "Ljava/lang/Object;" ∈ jk_WS := jk_wt3 (i := 207) (by decide +kernel) rfl
theorem jw_689 : Cond.methodLink "LevelingNetwork" 385 ⟨"java/lang/IllegalStateException", "<init>", "(Ljava/lang/String;)V"⟩ ∈ jk_WS := jk_wt3 (i := 209) (by decide +kernel) rfl
theorem jw_690 : Cond.instanceMethod ⟨"java/lang/IllegalStateException", "<init>", "(Ljava/lang/String;)V"⟩ ∈ jk_WS := jk_wt3 (i := 210) (by decide +kernel) rfl
theorem jw_691 : Cond.code ⟨"java/lang/IllegalStateException", "<init>", "(Ljava/lang/String;)V"⟩ prog_27_method_2_code 2 (Option.none : Option ClassFile.FieldType) ∈ jk_WS := jk_wt3 (i := 211) (by decide +kernel) rfl
theorem jw_692 : Cond.methodLink "java/lang/IllegalStateException" 7 ⟨"java/lang/RuntimeException", "<init>", "(Ljava/lang/String;)V"⟩ ∈ jk_WS := jk_wt3 (i := 212) (by decide +kernel) rfl
theorem jw_693 : Cond.lays "java/lang/IllegalStateException" "java/lang/Throwable" "depth" "I" ∈ jk_WS := jk_wt3 (i := 213) (by decide +kernel) rfl
theorem jw_694 : Cond.superclass "java/lang/IllegalStateException" "java/lang/RuntimeException" ∈ jk_WS := jk_wt3 (i := 214) (by decide +kernel) rfl
theorem jw_695 : Cond.classLink "LevelingNetwork" 169 "java/util/NoSuchElementException" ∈ jk_WS := jk_wt3 (i := 215) (by decide +kernel) rfl
theorem jw_696 : Cond.instantiable "java/util/NoSuchElementException" 6 ∈ jk_WS := jk_wt3 (i := 216) (by decide +kernel) rfl
theorem jw_697 : Cond.castable "java/util/NoSuchElementException" "java/util/NoSuchElementException" ∈ jk_WS := jk_wt3 (i := 217) (by decide +kernel) rfl
theorem jw_698 : Cond.selects "java/util/NoSuchElementException" ⟨"java/lang/Throwable", "fillInStackTrace", "(I)Ljava/lang/Throwable;"⟩ ⟨"java/lang/Throwable", "fillInStackTrace", "(I)Ljava/lang/Throwable;"⟩ ∈ jk_WS := jk_wt3 (i := 218) (by decide +kernel) rfl
theorem jw_699 : Cond.lays "java/util/NoSuchElementException" "java/lang/Throwable" "cause" "Ljava/lang/Throwable;" ∈ jk_WS := jk_wt3 (i := 219) (by decide +kernel) rfl
theorem jw_700 : Cond.lays "java/util/NoSuchElementException" "java/lang/Throwable" "stackTrace" "[Ljava/lang/StackTraceElement;" ∈ jk_WS := jk_wt3 (i := 220) (by decide +kernel) rfl
theorem jw_701 : Cond.lays "java/util/NoSuchElementException" "java/lang/Throwable" "suppressedExceptions" "Ljava/util/List;" ∈ jk_WS := jk_wt3 (i := 221) (by decide +kernel) rfl
theorem jw_702 : Cond.lays "java/util/NoSuchElementException" "java/lang/Throwable" "detailMessage" "Ljava/lang/String;" ∈ jk_WS := jk_wt3 (i := 222) (by decide +kernel) rfl
theorem jw_703 : Cond.lays "java/util/NoSuchElementException" "java/lang/Throwable" "backtrace" "Ljava/lang/Object;" ∈ jk_WS := jk_wt3 (i := 223) (by decide +kernel) rfl
theorem jw_705 : Cond.methodLink "LevelingNetwork" 173 ⟨"java/util/NoSuchElementException", "<init>", "(Ljava/lang/String;)V"⟩ ∈ jk_WS := jk_wt3 (i := 225) (by decide +kernel) rfl
theorem jw_706 : Cond.instanceMethod ⟨"java/util/NoSuchElementException", "<init>", "(Ljava/lang/String;)V"⟩ ∈ jk_WS := jk_wt3 (i := 226) (by decide +kernel) rfl
theorem jw_707 : Cond.code ⟨"java/util/NoSuchElementException", "<init>", "(Ljava/lang/String;)V"⟩ prog_44_method_4_code 2 (Option.none : Option ClassFile.FieldType) ∈ jk_WS := jk_wt3 (i := 227) (by decide +kernel) rfl
theorem jw_708 : Cond.methodLink "java/util/NoSuchElementException" 13 ⟨"java/lang/RuntimeException", "<init>", "(Ljava/lang/String;)V"⟩ ∈ jk_WS := jk_wt3 (i := 228) (by decide +kernel) rfl
theorem jw_709 : Cond.lays "java/util/NoSuchElementException" "java/lang/Throwable" "depth" "I" ∈ jk_WS := jk_wt3 (i := 229) (by decide +kernel) rfl
theorem jw_710 : Cond.superclass "java/util/NoSuchElementException" "java/lang/RuntimeException" ∈ jk_WS := jk_wt3 (i := 230) (by decide +kernel) rfl
theorem jw_711 : Cond.classLink "LevelingNetwork" 457 "java/lang/UnsupportedOperationException" ∈ jk_WS := jk_wt3 (i := 231) (by decide +kernel) rfl
theorem jw_712 : Cond.instantiable "java/lang/UnsupportedOperationException" 6 ∈ jk_WS := jk_wt3 (i := 232) (by decide +kernel) rfl
theorem jw_713 : Cond.castable "java/lang/UnsupportedOperationException" "java/lang/UnsupportedOperationException" ∈ jk_WS := jk_wt3 (i := 233) (by decide +kernel) rfl
theorem jw_714 : Cond.selects "java/lang/UnsupportedOperationException" ⟨"java/lang/Throwable", "fillInStackTrace", "(I)Ljava/lang/Throwable;"⟩ ⟨"java/lang/Throwable", "fillInStackTrace", "(I)Ljava/lang/Throwable;"⟩ ∈ jk_WS := jk_wt3 (i := 234) (by decide +kernel) rfl
theorem jw_715 : Cond.lays "java/lang/UnsupportedOperationException" "java/lang/Throwable" "cause" "Ljava/lang/Throwable;" ∈ jk_WS := jk_wt3 (i := 235) (by decide +kernel) rfl
theorem jw_716 : Cond.lays "java/lang/UnsupportedOperationException" "java/lang/Throwable" "stackTrace" "[Ljava/lang/StackTraceElement;" ∈ jk_WS := jk_wt3 (i := 236) (by decide +kernel) rfl
theorem jw_717 : Cond.lays "java/lang/UnsupportedOperationException" "java/lang/Throwable" "suppressedExceptions" "Ljava/util/List;" ∈ jk_WS := jk_wt3 (i := 237) (by decide +kernel) rfl
theorem jw_718 : Cond.lays "java/lang/UnsupportedOperationException" "java/lang/Throwable" "detailMessage" "Ljava/lang/String;" ∈ jk_WS := jk_wt3 (i := 238) (by decide +kernel) rfl
theorem jw_719 : Cond.lays "java/lang/UnsupportedOperationException" "java/lang/Throwable" "backtrace" "Ljava/lang/Object;" ∈ jk_WS := jk_wt3 (i := 239) (by decide +kernel) rfl
theorem jw_721 : Cond.methodLink "LevelingNetwork" 461 ⟨"java/lang/UnsupportedOperationException", "<init>", "(Ljava/lang/String;)V"⟩ ∈ jk_WS := jk_wt4 (i := 1) (by decide +kernel) rfl
theorem jw_722 : Cond.instanceMethod ⟨"java/lang/UnsupportedOperationException", "<init>", "(Ljava/lang/String;)V"⟩ ∈ jk_WS := jk_wt4 (i := 2) (by decide +kernel) rfl
theorem jw_723 : Cond.code ⟨"java/lang/UnsupportedOperationException", "<init>", "(Ljava/lang/String;)V"⟩ prog_40_method_2_code 2 (Option.none : Option ClassFile.FieldType) ∈ jk_WS := jk_wt4 (i := 3) (by decide +kernel) rfl
theorem jw_724 : Cond.methodLink "java/lang/UnsupportedOperationException" 7 ⟨"java/lang/RuntimeException", "<init>", "(Ljava/lang/String;)V"⟩ ∈ jk_WS := jk_wt4 (i := 4) (by decide +kernel) rfl
theorem jw_725 : Cond.lays "java/lang/UnsupportedOperationException" "java/lang/Throwable" "depth" "I" ∈ jk_WS := jk_wt4 (i := 5) (by decide +kernel) rfl
theorem jw_726 : Cond.superclass "java/lang/UnsupportedOperationException" "java/lang/RuntimeException" ∈ jk_WS := jk_wt4 (i := 6) (by decide +kernel) rfl
theorem jw_727 : Cond.methodLink "LevelingNetwork" 406 ⟨"LevelingNetwork$History", "push", "(LLevelingNetwork$Survey;)V"⟩ ∈ jk_WS := jk_wt4 (i := 7) (by decide +kernel) rfl
theorem jw_728 : Cond.instanceMethod ⟨"LevelingNetwork$History", "push", "(LLevelingNetwork$Survey;)V"⟩ ∈ jk_WS := jk_wt4 (i := 8) (by decide +kernel) rfl
theorem jw_729 : Cond.selects "LevelingNetwork$History" ⟨"LevelingNetwork$History", "push", "(LLevelingNetwork$Survey;)V"⟩ ⟨"LevelingNetwork$History", "push", "(LLevelingNetwork$Survey;)V"⟩ ∈ jk_WS := jk_wt4 (i := 9) (by decide +kernel) rfl
theorem jw_730 : Cond.code ⟨"LevelingNetwork$History", "push", "(LLevelingNetwork$Survey;)V"⟩ prog_7_method_2_code 2 (Option.none : Option ClassFile.FieldType) ∈ jk_WS := jk_wt4 (i := 10) (by decide +kernel) rfl
theorem jw_731 : Cond.methodLink "LevelingNetwork$History" 22 ⟨"LevelingNetwork$Survey", "copyFrom", "(LLevelingNetwork$Survey;)V"⟩ ∈ jk_WS := jk_wt4 (i := 11) (by decide +kernel) rfl
theorem jw_732 : Cond.instanceMethod ⟨"LevelingNetwork$Survey", "copyFrom", "(LLevelingNetwork$Survey;)V"⟩ ∈ jk_WS := jk_wt4 (i := 12) (by decide +kernel) rfl
theorem jw_733 : Cond.selects "LevelingNetwork$Survey" ⟨"LevelingNetwork$Survey", "copyFrom", "(LLevelingNetwork$Survey;)V"⟩ ⟨"LevelingNetwork$Survey", "copyFrom", "(LLevelingNetwork$Survey;)V"⟩ ∈ jk_WS := jk_wt4 (i := 13) (by decide +kernel) rfl
theorem jw_734 : Cond.code ⟨"LevelingNetwork$Survey", "copyFrom", "(LLevelingNetwork$Survey;)V"⟩ prog_11_method_2_code 2 (Option.none : Option ClassFile.FieldType) ∈ jk_WS := jk_wt4 (i := 14) (by decide +kernel) rfl
theorem jw_735 : Cond.methodLink "LevelingNetwork$Survey" 57 ⟨"LevelingNetwork$Survey", "copyBenchmarks", "(LLevelingNetwork$Survey;)V"⟩ ∈ jk_WS := jk_wt4 (i := 15) (by decide +kernel) rfl
theorem jw_737 : Cond.instanceMethod ⟨"LevelingNetwork$Survey", "copyBenchmarks", "(LLevelingNetwork$Survey;)V"⟩ ∈ jk_WS := jk_wt4 (i := 17) (by decide +kernel) rfl
theorem jw_738 : Cond.code ⟨"LevelingNetwork$Survey", "copyBenchmarks", "(LLevelingNetwork$Survey;)V"⟩ prog_11_method_3_code 3 (Option.none : Option ClassFile.FieldType) ∈ jk_WS := jk_wt4 (i := 18) (by decide +kernel) rfl
theorem jw_739 : Cond.methodLink "LevelingNetwork$Survey" 61 ⟨"LevelingNetwork$Survey", "copyLines", "(LLevelingNetwork$Survey;)V"⟩ ∈ jk_WS := jk_wt4 (i := 19) (by decide +kernel) rfl
theorem jw_741 : Cond.instanceMethod ⟨"LevelingNetwork$Survey", "copyLines", "(LLevelingNetwork$Survey;)V"⟩ ∈ jk_WS := jk_wt4 (i := 21) (by decide +kernel) rfl
theorem jw_742 : Cond.code ⟨"LevelingNetwork$Survey", "copyLines", "(LLevelingNetwork$Survey;)V"⟩ prog_11_method_4_code 3 (Option.none : Option ClassFile.FieldType) ∈ jk_WS := jk_wt4 (i := 22) (by decide +kernel) rfl
theorem jw_743 : Cond.methodLink "LevelingNetwork$Survey" 64 ⟨"LevelingNetwork$Survey", "copyProfiles", "(LLevelingNetwork$Survey;)V"⟩ ∈ jk_WS := jk_wt4 (i := 23) (by decide +kernel) rfl
theorem jw_745 : Cond.instanceMethod ⟨"LevelingNetwork$Survey", "copyProfiles", "(LLevelingNetwork$Survey;)V"⟩ ∈ jk_WS := jk_wt4 (i := 25) (by decide +kernel) rfl
theorem jw_746 : Cond.code ⟨"LevelingNetwork$Survey", "copyProfiles", "(LLevelingNetwork$Survey;)V"⟩ prog_11_method_5_code 4 (Option.none : Option ClassFile.FieldType) ∈ jk_WS := jk_wt4 (i := 26) (by decide +kernel) rfl
theorem jw_747 : Cond.methodLink "LevelingNetwork" 436 ⟨"LevelingNetwork$Changes", "carryOut", "(LLevelingNetwork$Kind;IIII)I"⟩ ∈ jk_WS := jk_wt4 (i := 27) (by decide +kernel) rfl
theorem jw_748 : Cond.instanceMethod ⟨"LevelingNetwork$Changes", "carryOut", "(LLevelingNetwork$Kind;IIII)I"⟩ ∈ jk_WS := jk_wt4 (i := 28) (by decide +kernel) rfl
theorem jw_749 : Cond.selects "LevelingNetwork$Changes" ⟨"LevelingNetwork$Changes", "carryOut", "(LLevelingNetwork$Kind;IIII)I"⟩ ⟨"LevelingNetwork$Changes", "carryOut", "(LLevelingNetwork$Kind;IIII)I"⟩ ∈ jk_WS := jk_wt4 (i := 29) (by decide +kernel) rfl
theorem jw_750 : Cond.code ⟨"LevelingNetwork$Changes", "carryOut", "(LLevelingNetwork$Kind;IIII)I"⟩ prog_4_method_14_code 6 (Option.some ClassFile.FieldType.int) ∈ jk_WS := jk_wt4 (i := 30) (by decide +kernel) rfl
theorem jw_751 : Cond.methodLink "LevelingNetwork$Changes" 173 ⟨"LevelingNetwork$Changes", "putBenchmark", "()I"⟩ ∈ jk_WS := jk_wt4 (i := 31) (by decide +kernel) rfl
theorem jw_753 : Cond.instanceMethod ⟨"LevelingNetwork$Changes", "putBenchmark", "()I"⟩ ∈ jk_WS := jk_wt4 (i := 33) (by decide +kernel) rfl
theorem jw_754 : Cond.code ⟨"LevelingNetwork$Changes", "putBenchmark", "()I"⟩ prog_4_method_15_code 2 (Option.some ClassFile.FieldType.int) ∈ jk_WS := jk_wt4 (i := 34) (by decide +kernel) rfl
theorem jw_755 : Cond.methodLink "LevelingNetwork$Changes" 179 ⟨"LevelingNetwork$Survey", "fixedBenchmarks", "()I"⟩ ∈ jk_WS := jk_wt4 (i := 35) (by decide +kernel) rfl
theorem jw_756 : Cond.instanceMethod ⟨"LevelingNetwork$Survey", "fixedBenchmarks", "()I"⟩ ∈ jk_WS := jk_wt4 (i := 36) (by decide +kernel) rfl
theorem jw_757 : Cond.selects "LevelingNetwork$Survey" ⟨"LevelingNetwork$Survey", "fixedBenchmarks", "()I"⟩ ⟨"LevelingNetwork$Survey", "fixedBenchmarks", "()I"⟩ ∈ jk_WS := jk_wt4 (i := 37) (by decide +kernel) rfl
theorem jw_758 : Cond.code ⟨"LevelingNetwork$Survey", "fixedBenchmarks", "()I"⟩ prog_11_method_9_code 3 (Option.some ClassFile.FieldType.int) ∈ jk_WS := jk_wt4 (i := 38) (by decide +kernel) rfl
theorem jw_759 : Cond.methodLink "LevelingNetwork$Changes" 182 ⟨"LevelingNetwork$Changes", "putLine", "(IIII)I"⟩ ∈ jk_WS := jk_wt4 (i := 39) (by decide +kernel) rfl
theorem jw_761 : Cond.instanceMethod ⟨"LevelingNetwork$Changes", "putLine", "(IIII)I"⟩ ∈ jk_WS := jk_wt4 (i := 41) (by decide +kernel) rfl
theorem jw_762 : Cond.code ⟨"LevelingNetwork$Changes", "putLine", "(IIII)I"⟩ prog_4_method_16_code 6 (Option.some ClassFile.FieldType.int) ∈ jk_WS := jk_wt4 (i := 42) (by decide +kernel) rfl
theorem jw_763 : Cond.methodLink "LevelingNetwork$Changes" 189 ⟨"LevelingNetwork$Survey", "sumOfRuns", "(I)I"⟩ ∈ jk_WS := jk_wt4 (i := 43) (by decide +kernel) rfl
theorem jw_764 : Cond.methodLink "LevelingNetwork$Changes" 192 ⟨"LevelingNetwork$Survey", "usableLines", "()I"⟩ ∈ jk_WS := jk_wt4 (i := 44) (by decide +kernel) rfl
theorem jw_765 : Cond.instanceMethod ⟨"LevelingNetwork$Survey", "usableLines", "()I"⟩ ∈ jk_WS := jk_wt4 (i := 45) (by decide +kernel) rfl
theorem jw_766 : Cond.selects "LevelingNetwork$Survey" ⟨"LevelingNetwork$Survey", "usableLines", "()I"⟩ ⟨"LevelingNetwork$Survey", "usableLines", "()I"⟩ ∈ jk_WS := jk_wt4 (i := 46) (by decide +kernel) rfl
theorem jw_767 : Cond.code ⟨"LevelingNetwork$Survey", "usableLines", "()I"⟩ prog_11_method_14_code 3 (Option.some ClassFile.FieldType.int) ∈ jk_WS := jk_wt4 (i := 47) (by decide +kernel) rfl
theorem jw_768 : Cond.methodLink "LevelingNetwork$Survey" 95 ⟨"LevelingNetwork$Survey", "usable", "(I)Z"⟩ ∈ jk_WS := jk_wt4 (i := 48) (by decide +kernel) rfl
theorem jw_769 : Cond.methodLink "LevelingNetwork$Changes" 195 ⟨"LevelingNetwork$Changes", "shareOut", "(I)I"⟩ ∈ jk_WS := jk_wt4 (i := 49) (by decide +kernel) rfl
theorem jw_771 : Cond.instanceMethod ⟨"LevelingNetwork$Changes", "shareOut", "(I)I"⟩ ∈ jk_WS := jk_wt4 (i := 51) (by decide +kernel) rfl
theorem jw_772 : Cond.code ⟨"LevelingNetwork$Changes", "shareOut", "(I)I"⟩ prog_4_method_17_code 3 (Option.some ClassFile.FieldType.int) ∈ jk_WS := jk_wt4 (i := 52) (by decide +kernel) rfl
theorem jw_773 : Cond.methodLink "LevelingNetwork$Changes" 226 ⟨"LevelingNetwork$Sharing", "divide", "(LLevelingNetwork$Way;)V"⟩ ∈ jk_WS := jk_wt4 (i := 53) (by decide +kernel) rfl
theorem jw_774 : Cond.instanceMethod ⟨"LevelingNetwork$Sharing", "divide", "(LLevelingNetwork$Way;)V"⟩ ∈ jk_WS := jk_wt4 (i := 54) (by decide +kernel) rfl
theorem jw_775 : Cond.selects "LevelingNetwork$Sharing" ⟨"LevelingNetwork$Sharing", "divide", "(LLevelingNetwork$Way;)V"⟩ ⟨"LevelingNetwork$Sharing", "divide", "(LLevelingNetwork$Way;)V"⟩ ∈ jk_WS := jk_wt4 (i := 55) (by decide +kernel) rfl
theorem jw_776 : Cond.code ⟨"LevelingNetwork$Sharing", "divide", "(LLevelingNetwork$Way;)V"⟩ prog_10_method_2_code 8 (Option.none : Option ClassFile.FieldType) ∈ jk_WS := jk_wt4 (i := 56) (by decide +kernel) rfl
theorem jw_777 : Cond.methodLink "LevelingNetwork$Sharing" 22 ⟨"LevelingNetwork$Way", "rise", "()I"⟩ ∈ jk_WS := jk_wt4 (i := 57) (by decide +kernel) rfl
theorem jw_778 : Cond.methodLink "LevelingNetwork$Sharing" 28 ⟨"java/lang/Math", "abs", "(I)I"⟩ ∈ jk_WS := jk_wt4 (i := 58) (by decide +kernel) rfl
theorem jw_779 : Cond.methodLink "LevelingNetwork$Sharing" 34 ⟨"LevelingNetwork$Way", "totalLength", "()I"⟩ ∈ jk_WS := jk_wt4 (i := 59) (by decide +kernel) rfl
theorem jw_780 : Cond.methodLink "LevelingNetwork$Sharing" 49 ⟨"LevelingNetwork$Sharing", "giveOut", "(I)V"⟩ ∈ jk_WS := jk_wt4 (i := 60) (by decide +kernel) rfl
theorem jw_782 : Cond.instanceMethod ⟨"LevelingNetwork$Sharing", "giveOut", "(I)V"⟩ ∈ jk_WS := jk_wt4 (i := 62) (by decide +kernel) rfl
theorem jw_783 : Cond.code ⟨"LevelingNetwork$Sharing", "giveOut", "(I)V"⟩ prog_10_method_3_code 5 (Option.none : Option ClassFile.FieldType) ∈ jk_WS := jk_wt4 (i := 63) (by decide +kernel) rfl
theorem jw_784 : Cond.methodLink "LevelingNetwork$Changes" 232 ⟨"LevelingNetwork$Sharing", "correct", "(LLevelingNetwork$Way;)V"⟩ ∈ jk_WS := jk_wt4 (i := 64) (by decide +kernel) rfl
theorem jw_785 : Cond.instanceMethod ⟨"LevelingNetwork$Sharing", "correct", "(LLevelingNetwork$Way;)V"⟩ ∈ jk_WS := jk_wt4 (i := 65) (by decide +kernel) rfl
theorem jw_786 : Cond.selects "LevelingNetwork$Sharing" ⟨"LevelingNetwork$Sharing", "correct", "(LLevelingNetwork$Way;)V"⟩ ⟨"LevelingNetwork$Sharing", "correct", "(LLevelingNetwork$Way;)V"⟩ ∈ jk_WS := jk_wt4 (i := 66) (by decide +kernel) rfl
theorem jw_787 : Cond.code ⟨"LevelingNetwork$Sharing", "correct", "(LLevelingNetwork$Way;)V"⟩ prog_10_method_4_code 5 (Option.none : Option ClassFile.FieldType) ∈ jk_WS := jk_wt4 (i := 67) (by decide +kernel) rfl
theorem jw_788 : Cond.methodLink "LevelingNetwork$Changes" 198 ⟨"LevelingNetwork$Changes", "clearCorrections", "()I"⟩ ∈ jk_WS := jk_wt4 (i := 68) (by decide +kernel) rfl
theorem jw_790 : Cond.instanceMethod ⟨"LevelingNetwork$Changes", "clearCorrections", "()I"⟩ ∈ jk_WS := jk_wt4 (i := 70) (by decide +kernel) rfl
theorem jw_791 : Cond.code ⟨"LevelingNetwork$Changes", "clearCorrections", "()I"⟩ prog_4_method_18_code 3 (Option.some ClassFile.FieldType.int) ∈ jk_WS := jk_wt4 (i := 71) (by decide +kernel) rfl
theorem jw_792 : Cond.methodLink "LevelingNetwork$Changes" 201 ⟨"LevelingNetwork$Changes", "putProfile", "(I)I"⟩ ∈ jk_WS := jk_wt4 (i := 72) (by decide +kernel) rfl
theorem jw_794 : Cond.instanceMethod ⟨"LevelingNetwork$Changes", "putProfile", "(I)I"⟩ ∈ jk_WS := jk_wt4 (i := 74) (by decide +kernel) rfl
theorem jw_795 : Cond.code ⟨"LevelingNetwork$Changes", "putProfile", "(I)I"⟩ prog_4_method_19_code 3 (Option.some ClassFile.FieldType.int) ∈ jk_WS := jk_wt4 (i := 75) (by decide +kernel) rfl
theorem jw_796 : Cond.methodLink "LevelingNetwork$Changes" 204 ⟨"LevelingNetwork$Changes", "putStation", "(III)I"⟩ ∈ jk_WS := jk_wt4 (i := 76) (by decide +kernel) rfl
theorem jw_798 : Cond.instanceMethod ⟨"LevelingNetwork$Changes", "putStation", "(III)I"⟩ ∈ jk_WS := jk_wt4 (i := 78) (by decide +kernel) rfl
theorem jw_799 : Cond.code ⟨"LevelingNetwork$Changes", "putStation", "(III)I"⟩ prog_4_method_20_code 5 (Option.some ClassFile.FieldType.int) ∈ jk_WS := jk_wt4 (i := 79) (by decide +kernel) rfl
theorem jw_800 : Cond.methodLink "LevelingNetwork$Changes" 208 ⟨"LevelingNetwork$Changes", "putWater", "(I)I"⟩ ∈ jk_WS := jk_wt4 (i := 80) (by decide +kernel) rfl
theorem jw_802 : Cond.instanceMethod ⟨"LevelingNetwork$Changes", "putWater", "(I)I"⟩ ∈ jk_WS := jk_wt4 (i := 82) (by decide +kernel) rfl
theorem jw_803 : Cond.code ⟨"LevelingNetwork$Changes", "putWater", "(I)I"⟩ prog_4_method_21_code 3 (Option.some ClassFile.FieldType.int) ∈ jk_WS := jk_wt4 (i := 83) (by decide +kernel) rfl
theorem jw_804 : Cond.methodLink "LevelingNetworkLaw" 238 ⟨"LevelingNetwork", "benchmarkCount", "()I"⟩ ∈ jk_WS := jk_wt4 (i := 84) (by decide +kernel) rfl
theorem jw_805 : Cond.instanceMethod ⟨"LevelingNetwork", "benchmarkCount", "()I"⟩ ∈ jk_WS := jk_wt4 (i := 85) (by decide +kernel) rfl
theorem jw_806 : Cond.selects "LevelingNetwork" ⟨"LevelingNetwork", "benchmarkCount", "()I"⟩ ⟨"LevelingNetwork", "benchmarkCount", "()I"⟩ ∈ jk_WS := jk_wt4 (i := 86) (by decide +kernel) rfl
theorem jw_807 : Cond.code ⟨"LevelingNetwork", "benchmarkCount", "()I"⟩ prog_1_method_14_code 1 (Option.some ClassFile.FieldType.int) ∈ jk_WS := jk_wt4 (i := 87) (by decide +kernel) rfl
theorem jw_808 : Cond.methodLink "LevelingNetworkLaw" 263 ⟨"LevelingNetwork", "lineCount", "()I"⟩ ∈ jk_WS := jk_wt4 (i := 88) (by decide +kernel) rfl
theorem jw_809 : Cond.instanceMethod ⟨"LevelingNetwork", "lineCount", "()I"⟩ ∈ jk_WS := jk_wt4 (i := 89) (by decide +kernel) rfl
theorem jw_810 : Cond.selects "LevelingNetwork" ⟨"LevelingNetwork", "lineCount", "()I"⟩ ⟨"LevelingNetwork", "lineCount", "()I"⟩ ∈ jk_WS := jk_wt4 (i := 90) (by decide +kernel) rfl
theorem jw_811 : Cond.code ⟨"LevelingNetwork", "lineCount", "()I"⟩ prog_1_method_22_code 1 (Option.some ClassFile.FieldType.int) ∈ jk_WS := jk_wt4 (i := 91) (by decide +kernel) rfl
theorem jw_812 : Cond.methodLink "LevelingNetworkLaw" 300 ⟨"LevelingNetwork", "forestLength", "()I"⟩ ∈ jk_WS := jk_wt4 (i := 92) (by decide +kernel) rfl
theorem jw_813 : Cond.instanceMethod ⟨"LevelingNetwork", "forestLength", "()I"⟩ ∈ jk_WS := jk_wt4 (i := 93) (by decide +kernel) rfl
theorem jw_814 : Cond.selects "LevelingNetwork" ⟨"LevelingNetwork", "forestLength", "()I"⟩ ⟨"LevelingNetwork", "forestLength", "()I"⟩ ∈ jk_WS := jk_wt4 (i := 94) (by decide +kernel) rfl
theorem jw_815 : Cond.code ⟨"LevelingNetwork", "forestLength", "()I"⟩ prog_1_method_34_code 1 (Option.some ClassFile.FieldType.int) ∈ jk_WS := jk_wt4 (i := 95) (by decide +kernel) rfl
theorem jw_816 : Cond.methodLink "LevelingNetwork" 152 ⟨"LevelingNetwork$Forest", "find", "()V"⟩ ∈ jk_WS := jk_wt4 (i := 96) (by decide +kernel) rfl
theorem jw_817 : Cond.methodLink "LevelingNetwork" 246 ⟨"LevelingNetwork$Forest", "takenLength", "()I"⟩ ∈ jk_WS := jk_wt4 (i := 97) (by decide +kernel) rfl
theorem jw_818 : Cond.instanceMethod ⟨"LevelingNetwork$Forest", "takenLength", "()I"⟩ ∈ jk_WS := jk_wt4 (i := 98) (by decide +kernel) rfl
theorem jw_819 : Cond.selects "LevelingNetwork$Forest" ⟨"LevelingNetwork$Forest", "takenLength", "()I"⟩ ⟨"LevelingNetwork$Forest", "takenLength", "()I"⟩ ∈ jk_WS := jk_wt4 (i := 99) (by decide +kernel) rfl
theorem jw_820 : Cond.code ⟨"LevelingNetwork$Forest", "takenLength", "()I"⟩ prog_5_method_5_code 3 (Option.some ClassFile.FieldType.int) ∈ jk_WS := jk_wt4 (i := 100) (by decide +kernel) rfl
theorem jw_821 : Cond.methodLink "LevelingNetworkLaw" 304 ⟨"LevelingNetwork", "forestLengthByGrowing", "()I"⟩ ∈ jk_WS := jk_wt4 (i := 101) (by decide +kernel) rfl
theorem jw_822 : Cond.instanceMethod ⟨"LevelingNetwork", "forestLengthByGrowing", "()I"⟩ ∈ jk_WS := jk_wt4 (i := 102) (by decide +kernel) rfl
theorem jw_823 : Cond.selects "LevelingNetwork" ⟨"LevelingNetwork", "forestLengthByGrowing", "()I"⟩ ⟨"LevelingNetwork", "forestLengthByGrowing", "()I"⟩ ∈ jk_WS := jk_wt4 (i := 103) (by decide +kernel) rfl
theorem jw_824 : Cond.code ⟨"LevelingNetwork", "forestLengthByGrowing", "()I"⟩ prog_1_method_35_code 1 (Option.some ClassFile.FieldType.int) ∈ jk_WS := jk_wt4 (i := 104) (by decide +kernel) rfl
theorem jw_825 : Cond.methodLink "LevelingNetwork" 250 ⟨"LevelingNetwork$Forest", "grownLength", "()I"⟩ ∈ jk_WS := jk_wt4 (i := 105) (by decide +kernel) rfl
theorem jw_826 : Cond.instanceMethod ⟨"LevelingNetwork$Forest", "grownLength", "()I"⟩ ∈ jk_WS := jk_wt4 (i := 106) (by decide +kernel) rfl
theorem jw_827 : Cond.selects "LevelingNetwork$Forest" ⟨"LevelingNetwork$Forest", "grownLength", "()I"⟩ ⟨"LevelingNetwork$Forest", "grownLength", "()I"⟩ ∈ jk_WS := jk_wt4 (i := 107) (by decide +kernel) rfl
theorem jw_828 : Cond.code ⟨"LevelingNetwork$Forest", "grownLength", "()I"⟩ prog_5_method_6_code 3 (Option.some ClassFile.FieldType.int) ∈ jk_WS := jk_wt4 (i := 108) (by decide +kernel) rfl
theorem jw_829 : Cond.methodLink "LevelingNetwork$Forest" 70 ⟨"LevelingNetwork$Forest", "growReached", "()I"⟩ ∈ jk_WS := jk_wt4 (i := 109) (by decide +kernel) rfl
theorem jw_831 : Cond.instanceMethod ⟨"LevelingNetwork$Forest", "growReached", "()I"⟩ ∈ jk_WS := jk_wt4 (i := 111) (by decide +kernel) rfl
theorem jw_832 : Cond.code ⟨"LevelingNetwork$Forest", "growReached", "()I"⟩ prog_5_method_7_code 4 (Option.some ClassFile.FieldType.int) ∈ jk_WS := jk_wt4 (i := 112) (by decide +kernel) rfl
theorem jw_833 : Cond.methodLink "LevelingNetwork$Forest" 74 ⟨"LevelingNetwork$Forest", "firstLineOutOfReached", "()I"⟩ ∈ jk_WS := jk_wt4 (i := 113) (by decide +kernel) rfl
theorem jw_835 : Cond.instanceMethod ⟨"LevelingNetwork$Forest", "firstLineOutOfReached", "()I"⟩ ∈ jk_WS := jk_wt4 (i := 115) (by decide +kernel) rfl
theorem jw_836 : Cond.code ⟨"LevelingNetwork$Forest", "firstLineOutOfReached", "()I"⟩ prog_5_method_8_code 3 (Option.some ClassFile.FieldType.int) ∈ jk_WS := jk_wt4 (i := 116) (by decide +kernel) rfl
theorem jw_837 : Cond.methodLink "LevelingNetworkLaw" 308 ⟨"LevelingNetwork", "treeCount", "()I"⟩ ∈ jk_WS := jk_wt4 (i := 117) (by decide +kernel) rfl
theorem jw_838 : Cond.instanceMethod ⟨"LevelingNetwork", "treeCount", "()I"⟩ ∈ jk_WS := jk_wt4 (i := 118) (by decide +kernel) rfl
theorem jw_839 : Cond.selects "LevelingNetwork" ⟨"LevelingNetwork", "treeCount", "()I"⟩ ⟨"LevelingNetwork", "treeCount", "()I"⟩ ∈ jk_WS := jk_wt4 (i := 119) (by decide +kernel) rfl
theorem jw_840 : Cond.code ⟨"LevelingNetwork", "treeCount", "()I"⟩ prog_1_method_36_code 1 (Option.some ClassFile.FieldType.int) ∈ jk_WS := jk_wt4 (i := 120) (by decide +kernel) rfl
theorem jw_841 : Cond.methodLink "LevelingNetwork" 253 ⟨"LevelingNetwork$Forest", "trees", "()I"⟩ ∈ jk_WS := jk_wt4 (i := 121) (by decide +kernel) rfl
theorem jw_842 : Cond.instanceMethod ⟨"LevelingNetwork$Forest", "trees", "()I"⟩ ∈ jk_WS := jk_wt4 (i := 122) (by decide +kernel) rfl
theorem jw_843 : Cond.selects "LevelingNetwork$Forest" ⟨"LevelingNetwork$Forest", "trees", "()I"⟩ ⟨"LevelingNetwork$Forest", "trees", "()I"⟩ ∈ jk_WS := jk_wt4 (i := 123) (by decide +kernel) rfl
theorem jw_844 : Cond.code ⟨"LevelingNetwork$Forest", "trees", "()I"⟩ prog_5_method_9_code 3 (Option.some ClassFile.FieldType.int) ∈ jk_WS := jk_wt4 (i := 124) (by decide +kernel) rfl
theorem jw_845 : Cond.methodLink "LevelingNetworkLaw" 312 ⟨"LevelingNetwork", "loopCount", "()I"⟩ ∈ jk_WS := jk_wt4 (i := 125) (by decide +kernel) rfl
theorem jw_846 : Cond.instanceMethod ⟨"LevelingNetwork", "loopCount", "()I"⟩ ∈ jk_WS := jk_wt4 (i := 126) (by decide +kernel) rfl
theorem jw_847 : Cond.selects "LevelingNetwork" ⟨"LevelingNetwork", "loopCount", "()I"⟩ ⟨"LevelingNetwork", "loopCount", "()I"⟩ ∈ jk_WS := jk_wt4 (i := 127) (by decide +kernel) rfl
theorem jw_848 : Cond.code ⟨"LevelingNetwork", "loopCount", "()I"⟩ prog_1_method_37_code 1 (Option.some ClassFile.FieldType.int) ∈ jk_WS := jk_wt4 (i := 128) (by decide +kernel) rfl
theorem jw_849 : Cond.methodLink "LevelingNetwork" 256 ⟨"LevelingNetwork$Forest", "loops", "()I"⟩ ∈ jk_WS := jk_wt4 (i := 129) (by decide +kernel) rfl
theorem jw_850 : Cond.instanceMethod ⟨"LevelingNetwork$Forest", "loops", "()I"⟩ ∈ jk_WS := jk_wt4 (i := 130) (by decide +kernel) rfl
theorem jw_851 : Cond.selects "LevelingNetwork$Forest" ⟨"LevelingNetwork$Forest", "loops", "()I"⟩ ⟨"LevelingNetwork$Forest", "loops", "()I"⟩ ∈ jk_WS := jk_wt4 (i := 131) (by decide +kernel) rfl
theorem jw_852 : Cond.code ⟨"LevelingNetwork$Forest", "loops", "()I"⟩ prog_5_method_11_code 3 (Option.some ClassFile.FieldType.int) ∈ jk_WS := jk_wt4 (i := 132) (by decide +kernel) rfl
theorem jw_853 : Cond.methodLink "LevelingNetwork$Forest" 77 ⟨"LevelingNetwork$Forest", "closesLoop", "(I)Z"⟩ ∈ jk_WS := jk_wt4 (i := 133) (by decide +kernel) rfl
theorem jw_854 : Cond.methodLink "LevelingNetworkLaw" 334 ⟨"LevelingNetwork", "profileCount", "()I"⟩ ∈ jk_WS := jk_wt4 (i := 134) (by decide +kernel) rfl
theorem jw_855 : Cond.instanceMethod ⟨"LevelingNetwork", "profileCount", "()I"⟩ ∈ jk_WS := jk_wt4 (i := 135) (by decide +kernel) rfl
theorem jw_856 : Cond.selects "LevelingNetwork" ⟨"LevelingNetwork", "profileCount", "()I"⟩ ⟨"LevelingNetwork", "profileCount", "()I"⟩ ∈ jk_WS := jk_wt4 (i := 136) (by decide +kernel) rfl
theorem jw_857 : Cond.code ⟨"LevelingNetwork", "profileCount", "()I"⟩ prog_1_method_44_code 1 (Option.some ClassFile.FieldType.int) ∈ jk_WS := jk_wt4 (i := 137) (by decide +kernel) rfl
theorem jw_858 : Cond.methodLink "LevelingNetworkLaw" 341 ⟨"LevelingNetwork", "waterLevel", "()I"⟩ ∈ jk_WS := jk_wt4 (i := 138) (by decide +kernel) rfl
theorem jw_859 : Cond.instanceMethod ⟨"LevelingNetwork", "waterLevel", "()I"⟩ ∈ jk_WS := jk_wt4 (i := 139) (by decide +kernel) rfl
theorem jw_860 : Cond.selects "LevelingNetwork" ⟨"LevelingNetwork", "waterLevel", "()I"⟩ ⟨"LevelingNetwork", "waterLevel", "()I"⟩ ∈ jk_WS := jk_wt4 (i := 140) (by decide +kernel) rfl
theorem jw_861 : Cond.code ⟨"LevelingNetwork", "waterLevel", "()I"⟩ prog_1_method_46_code 1 (Option.some ClassFile.FieldType.int) ∈ jk_WS := jk_wt4 (i := 141) (by decide +kernel) rfl
theorem jw_862 : Cond.methodLink "LevelingNetworkLaw" 367 ⟨"LevelingNetwork", "isConsistent", "()Z"⟩ ∈ jk_WS := jk_wt4 (i := 142) (by decide +kernel) rfl
theorem jw_863 : Cond.instanceMethod ⟨"LevelingNetwork", "isConsistent", "()Z"⟩ ∈ jk_WS := jk_wt4 (i := 143) (by decide +kernel) rfl
theorem jw_864 : Cond.selects "LevelingNetwork" ⟨"LevelingNetwork", "isConsistent", "()Z"⟩ ⟨"LevelingNetwork", "isConsistent", "()Z"⟩ ∈ jk_WS := jk_wt4 (i := 144) (by decide +kernel) rfl
theorem jw_865 : Cond.code ⟨"LevelingNetwork", "isConsistent", "()Z"⟩ prog_1_method_54_code 1 (Option.some ClassFile.FieldType.boolean) ∈ jk_WS := jk_wt4 (i := 145) (by decide +kernel) rfl
theorem jw_866 : Cond.methodLink "LevelingNetwork" 328 ⟨"LevelingNetwork$Survey", "usableLines", "()I"⟩ ∈ jk_WS := jk_wt4 (i := 146) (by decide +kernel) rfl
theorem jw_867 : Cond.methodLink "LevelingNetwork" 341 ⟨"LevelingNetwork", "heightsAgree", "()Z"⟩ ∈ jk_WS := jk_wt4 (i := 147) (by decide +kernel) rfl
theorem jw_869 : Cond.instanceMethod ⟨"LevelingNetwork", "heightsAgree", "()Z"⟩ ∈ jk_WS := jk_wt4 (i := 149) (by decide +kernel) rfl
theorem jw_870 : Cond.code ⟨"LevelingNetwork", "heightsAgree", "()Z"⟩ prog_1_method_74_code 2 (Option.some ClassFile.FieldType.boolean) ∈ jk_WS := jk_wt4 (i := 150) (by decide +kernel) rfl
theorem jw_871 : Cond.methodLink "LevelingNetwork" 155 ⟨"LevelingNetwork$Heights", "exists", "(I)Z"⟩ ∈ jk_WS := jk_wt4 (i := 151) (by decide +kernel) rfl
theorem jw_872 : Cond.instanceMethod ⟨"LevelingNetwork$Heights", "exists", "(I)Z"⟩ ∈ jk_WS := jk_wt4 (i := 152) (by decide +kernel) rfl
theorem jw_873 : Cond.selects "LevelingNetwork$Heights" ⟨"LevelingNetwork$Heights", "exists", "(I)Z"⟩ ⟨"LevelingNetwork$Heights", "exists", "(I)Z"⟩ ∈ jk_WS := jk_wt4 (i := 153) (by decide +kernel) rfl
theorem jw_874 : Cond.code ⟨"LevelingNetwork$Heights", "exists", "(I)Z"⟩ prog_6_method_3_code 2 (Option.some ClassFile.FieldType.boolean) ∈ jk_WS := jk_wt4 (i := 154) (by decide +kernel) rfl
theorem jw_875 : Cond.methodLink "LevelingNetwork$Heights" 50 ⟨"LevelingNetwork$Heights", "datumOf", "(I)I"⟩ ∈ jk_WS := jk_wt4 (i := 155) (by decide +kernel) rfl
theorem jw_876 : Cond.instanceMethod ⟨"LevelingNetwork$Heights", "datumOf", "(I)I"⟩ ∈ jk_WS := jk_wt4 (i := 156) (by decide +kernel) rfl
theorem jw_877 : Cond.selects "LevelingNetwork$Heights" ⟨"LevelingNetwork$Heights", "datumOf", "(I)I"⟩ ⟨"LevelingNetwork$Heights", "datumOf", "(I)I"⟩ ∈ jk_WS := jk_wt4 (i := 157) (by decide +kernel) rfl
theorem jw_878 : Cond.code ⟨"LevelingNetwork$Heights", "datumOf", "(I)I"⟩ prog_6_method_2_code 3 (Option.some ClassFile.FieldType.int) ∈ jk_WS := jk_wt4 (i := 158) (by decide +kernel) rfl
theorem jw_879 : Cond.methodLink "LevelingNetwork" 162 ⟨"LevelingNetwork$Heights", "byWay", "(I)I"⟩ ∈ jk_WS := jk_wt4 (i := 159) (by decide +kernel) rfl
theorem jw_880 : Cond.instanceMethod ⟨"LevelingNetwork$Heights", "byWay", "(I)I"⟩ ∈ jk_WS := jk_wt4 (i := 160) (by decide +kernel) rfl
theorem jw_881 : Cond.selects "LevelingNetwork$Heights" ⟨"LevelingNetwork$Heights", "byWay", "(I)I"⟩ ⟨"LevelingNetwork$Heights", "byWay", "(I)I"⟩ ∈ jk_WS := jk_wt4 (i := 161) (by decide +kernel) rfl
theorem jw_882 : Cond.code ⟨"LevelingNetwork$Heights", "byWay", "(I)I"⟩ prog_6_method_4_code 2 (Option.some ClassFile.FieldType.int) ∈ jk_WS := jk_wt4 (i := 162) (by decide +kernel) rfl
theorem jw_883 : Cond.methodLink "LevelingNetwork$Heights" 57 ⟨"LevelingNetwork$Heights", "carriedFromDatum", "(I)I"⟩ ∈ jk_WS := jk_wt4 (i := 163) (by decide +kernel) rfl
theorem jw_884 : Cond.instanceMethod ⟨"LevelingNetwork$Heights", "carriedFromDatum", "(I)I"⟩ ∈ jk_WS := jk_wt4 (i := 164) (by decide +kernel) rfl
theorem jw_885 : Cond.selects "LevelingNetwork$Heights" ⟨"LevelingNetwork$Heights", "carriedFromDatum", "(I)I"⟩ ⟨"LevelingNetwork$Heights", "carriedFromDatum", "(I)I"⟩ ∈ jk_WS := jk_wt4 (i := 165) (by decide +kernel) rfl
theorem jw_886 : Cond.code ⟨"LevelingNetwork$Heights", "carriedFromDatum", "(I)I"⟩ prog_6_method_5_code 3 (Option.some ClassFile.FieldType.int) ∈ jk_WS := jk_wt4 (i := 166) (by decide +kernel) rfl
theorem jw_887 : Cond.methodLink "LevelingNetwork$Heights" 60 ⟨"LevelingNetwork$Way", "trace", "(II)V"⟩ ∈ jk_WS := jk_wt4 (i := 167) (by decide +kernel) rfl
theorem jw_888 : Cond.instanceMethod ⟨"LevelingNetwork$Way", "trace", "(II)V"⟩ ∈ jk_WS := jk_wt4 (i := 168) (by decide +kernel) rfl
theorem jw_889 : Cond.selects "LevelingNetwork$Way" ⟨"LevelingNetwork$Way", "trace", "(II)V"⟩ ⟨"LevelingNetwork$Way", "trace", "(II)V"⟩ ∈ jk_WS := jk_wt4 (i := 169) (by decide +kernel) rfl
theorem jw_890 : Cond.code ⟨"LevelingNetwork$Way", "trace", "(II)V"⟩ prog_13_method_2_code 3 (Option.none : Option ClassFile.FieldType) ∈ jk_WS := jk_wt4 (i := 170) (by decide +kernel) rfl
theorem jw_891 : Cond.methodLink "LevelingNetwork$Heights" 64 ⟨"LevelingNetwork$Way", "rise", "()I"⟩ ∈ jk_WS := jk_wt4 (i := 171) (by decide +kernel) rfl
theorem jw_892 : Cond.methodLink "LevelingNetwork" 166 ⟨"LevelingNetwork$Heights", "byRounds", "(I)I"⟩ ∈ jk_WS := jk_wt4 (i := 172) (by decide +kernel) rfl
theorem jw_893 : Cond.instanceMethod ⟨"LevelingNetwork$Heights", "byRounds", "(I)I"⟩ ∈ jk_WS := jk_wt4 (i := 173) (by decide +kernel) rfl
theorem jw_894 : Cond.selects "LevelingNetwork$Heights" ⟨"LevelingNetwork$Heights", "byRounds", "(I)I"⟩ ⟨"LevelingNetwork$Heights", "byRounds", "(I)I"⟩ ∈ jk_WS := jk_wt4 (i := 174) (by decide +kernel) rfl
theorem jw_895 : Cond.code ⟨"LevelingNetwork$Heights", "byRounds", "(I)I"⟩ prog_6_method_6_code 3 (Option.some ClassFile.FieldType.int) ∈ jk_WS := jk_wt4 (i := 175) (by decide +kernel) rfl
theorem jw_896 : Cond.methodLink "LevelingNetwork$Heights" 68 ⟨"LevelingNetwork$Heights", "passOn", "(II)V"⟩ ∈ jk_WS := jk_wt4 (i := 176) (by decide +kernel) rfl
theorem jw_898 : Cond.instanceMethod ⟨"LevelingNetwork$Heights", "passOn", "(II)V"⟩ ∈ jk_WS := jk_wt4 (i := 178) (by decide +kernel) rfl
theorem jw_899 : Cond.code ⟨"LevelingNetwork$Heights", "passOn", "(II)V"⟩ prog_6_method_8_code 5 (Option.none : Option ClassFile.FieldType) ∈ jk_WS := jk_wt4 (i := 179) (by decide +kernel) rfl
theorem jw_900 : Cond.methodLink "LevelingNetwork$Heights" 80 ⟨"LevelingNetwork$Heights", "passOnOnce", "()Z"⟩ ∈ jk_WS := jk_wt4 (i := 180) (by decide +kernel) rfl
theorem jw_902 : Cond.instanceMethod ⟨"LevelingNetwork$Heights", "passOnOnce", "()Z"⟩ ∈ jk_WS := jk_wt4 (i := 182) (by decide +kernel) rfl
theorem jw_903 : Cond.code ⟨"LevelingNetwork$Heights", "passOnOnce", "()Z"⟩ prog_6_method_9_code 5 (Option.some ClassFile.FieldType.boolean) ∈ jk_WS := jk_wt4 (i := 183) (by decide +kernel) rfl
theorem jw_904 : Cond.methodLink "LevelingNetwork$Heights" 77 ⟨"LevelingNetwork$Survey", "corrected", "(I)I"⟩ ∈ jk_WS := jk_wt4 (i := 184) (by decide +kernel) rfl
theorem jw_905 : Cond.methodLink "LevelingNetwork" 345 ⟨"LevelingNetwork", "misclosuresAgree", "()Z"⟩ ∈ jk_WS := jk_wt4 (i := 185) (by decide +kernel) rfl
theorem jw_907 : Cond.instanceMethod ⟨"LevelingNetwork", "misclosuresAgree", "()Z"⟩ ∈ jk_WS := jk_wt4 (i := 187) (by decide +kernel) rfl
theorem jw_908 : Cond.code ⟨"LevelingNetwork", "misclosuresAgree", "()Z"⟩ prog_1_method_75_code 2 (Option.some ClassFile.FieldType.boolean) ∈ jk_WS := jk_wt4 (i := 188) (by decide +kernel) rfl
theorem jw_909 : Cond.methodLink "LevelingNetwork" 479 ⟨"LevelingNetwork$Forest", "closesLoop", "(I)Z"⟩ ∈ jk_WS := jk_wt4 (i := 189) (by decide +kernel) rfl
theorem jw_910 : Cond.methodLink "LevelingNetwork" 482 ⟨"LevelingNetwork$Way", "traceLoop", "(I)V"⟩ ∈ jk_WS := jk_wt4 (i := 190) (by decide +kernel) rfl
theorem jw_911 : Cond.methodLink "LevelingNetwork" 273 ⟨"LevelingNetwork$Way", "rise", "()I"⟩ ∈ jk_WS := jk_wt4 (i := 191) (by decide +kernel) rfl
theorem jw_912 : Cond.methodLink "LevelingNetwork" 276 ⟨"LevelingNetwork$Heights", "gapByLevels", "(I)I"⟩ ∈ jk_WS := jk_wt4 (i := 192) (by decide +kernel) rfl
theorem jw_913 : Cond.instanceMethod ⟨"LevelingNetwork$Heights", "gapByLevels", "(I)I"⟩ ∈ jk_WS := jk_wt4 (i := 193) (by decide +kernel) rfl
theorem jw_914 : Cond.selects "LevelingNetwork$Heights" ⟨"LevelingNetwork$Heights", "gapByLevels", "(I)I"⟩ ⟨"LevelingNetwork$Heights", "gapByLevels", "(I)I"⟩ ∈ jk_WS := jk_wt4 (i := 194) (by decide +kernel) rfl
theorem jw_915 : Cond.code ⟨"LevelingNetwork$Heights", "gapByLevels", "(I)I"⟩ prog_6_method_7_code 4 (Option.some ClassFile.FieldType.int) ∈ jk_WS := jk_wt4 (i := 195) (by decide +kernel) rfl
theorem jw_916 : Cond.methodLink "LevelingNetwork" 348 ⟨"LevelingNetwork", "wetColumnsAgree", "()Z"⟩ ∈ jk_WS := jk_wt4 (i := 196) (by decide +kernel) rfl
theorem jw_918 : Cond.instanceMethod ⟨"LevelingNetwork", "wetColumnsAgree", "()Z"⟩ ∈ jk_WS := jk_wt4 (i := 198) (by decide +kernel) rfl
theorem jw_919 : Cond.code ⟨"LevelingNetwork", "wetColumnsAgree", "()Z"⟩ prog_1_method_76_code 3 (Option.some ClassFile.FieldType.boolean) ∈ jk_WS := jk_wt4 (i := 199) (by decide +kernel) rfl
theorem jw_920 : Cond.methodLink "LevelingNetwork" 311 ⟨"LevelingNetwork", "surfaceAt", "(I)I"⟩ ∈ jk_WS := jk_wt4 (i := 200) (by decide +kernel) rfl
theorem jw_922 : Cond.instanceMethod ⟨"LevelingNetwork", "surfaceAt", "(I)I"⟩ ∈ jk_WS := jk_wt4 (i := 202) (by decide +kernel) rfl
theorem jw_923 : Cond.code ⟨"LevelingNetwork", "surfaceAt", "(I)I"⟩ prog_1_method_72_code 2 (Option.some ClassFile.FieldType.int) ∈ jk_WS := jk_wt4 (i := 203) (by decide +kernel) rfl
theorem jw_924 : Cond.methodLink "LevelingNetwork" 314 ⟨"LevelingNetwork$Bank", "wetByColumns", "(II)I"⟩ ∈ jk_WS := jk_wt4 (i := 204) (by decide +kernel) rfl
theorem jw_925 : Cond.instanceMethod ⟨"LevelingNetwork$Bank", "wetByColumns", "(II)I"⟩ ∈ jk_WS := jk_wt4 (i := 205) (by decide +kernel) rfl
theorem jw_926 : Cond.selects "LevelingNetwork$Bank" ⟨"LevelingNetwork$Bank", "wetByColumns", "(II)I"⟩ ⟨"LevelingNetwork$Bank", "wetByColumns", "(II)I"⟩ ∈ jk_WS := jk_wt4 (i := 206) (by decide +kernel) rfl
theorem jw_927 : Cond.code ⟨"LevelingNetwork$Bank", "wetByColumns", "(II)I"⟩ prog_3_method_6_code 6 (Option.some ClassFile.FieldType.int) ∈ jk_WS := jk_wt4 (i := 207) (by decide +kernel) rfl
theorem jw_928 : Cond.methodLink "LevelingNetwork$Bank" 19 ⟨"LevelingNetwork$Bank", "lastColumn", "(I)I"⟩ ∈ jk_WS := jk_wt4 (i := 208) (by decide +kernel) rfl
theorem jw_930 : Cond.instanceMethod ⟨"LevelingNetwork$Bank", "lastColumn", "(I)I"⟩ ∈ jk_WS := jk_wt4 (i := 210) (by decide +kernel) rfl
theorem jw_931 : Cond.code ⟨"LevelingNetwork$Bank", "lastColumn", "(I)I"⟩ prog_3_method_4_code 3 (Option.some ClassFile.FieldType.int) ∈ jk_WS := jk_wt4 (i := 211) (by decide +kernel) rfl
theorem jw_932 : Cond.methodLink "LevelingNetwork$Bank" 15 ⟨"LevelingNetwork$Bank", "firstColumn", "(I)I"⟩ ∈ jk_WS := jk_wt4 (i := 212) (by decide +kernel) rfl
theorem jw_934 : Cond.instanceMethod ⟨"LevelingNetwork$Bank", "firstColumn", "(I)I"⟩ ∈ jk_WS := jk_wt4 (i := 214) (by decide +kernel) rfl
theorem jw_935 : Cond.code ⟨"LevelingNetwork$Bank", "firstColumn", "(I)I"⟩ prog_3_method_3_code 2 (Option.some ClassFile.FieldType.int) ∈ jk_WS := jk_wt4 (i := 215) (by decide +kernel) rfl
theorem jw_936 : Cond.methodLink "LevelingNetwork$Bank" 45 ⟨"LevelingNetwork$Bank", "offsetAt", "(II)I"⟩ ∈ jk_WS := jk_wt4 (i := 216) (by decide +kernel) rfl
theorem jw_937 : Cond.instanceMethod ⟨"LevelingNetwork$Bank", "offsetAt", "(II)I"⟩ ∈ jk_WS := jk_wt4 (i := 217) (by decide +kernel) rfl
theorem jw_938 : Cond.selects "LevelingNetwork$Bank" ⟨"LevelingNetwork$Bank", "offsetAt", "(II)I"⟩ ⟨"LevelingNetwork$Bank", "offsetAt", "(II)I"⟩ ∈ jk_WS := jk_wt4 (i := 218) (by decide +kernel) rfl
theorem jw_939 : Cond.code ⟨"LevelingNetwork$Bank", "offsetAt", "(II)I"⟩ prog_3_method_5_code 8 (Option.some ClassFile.FieldType.int) ∈ jk_WS := jk_wt4 (i := 219) (by decide +kernel) rfl
theorem jw_940 : Cond.methodLink "LevelingNetwork$Bank" 39 ⟨"java/lang/Math", "floorDiv", "(II)I"⟩ ∈ jk_WS := jk_wt4 (i := 220) (by decide +kernel) rfl
theorem jw_941 : Cond.static ⟨"java/lang/Math", "floorDiv", "(II)I"⟩ ∈ jk_WS := jk_wt4 (i := 221) (by decide +kernel) rfl
theorem jw_942 : Cond.code ⟨"java/lang/Math", "floorDiv", "(II)I"⟩ prog_30_method_47_code 3 (Option.some ClassFile.FieldType.int) ∈ jk_WS := jk_wt4 (i := 222) (by decide +kernel) rfl
theorem jw_943 : Cond.methodLink "LevelingNetwork" 317 ⟨"LevelingNetwork$Bank", "wetBySegments", "(II)I"⟩ ∈ jk_WS := jk_wt4 (i := 223) (by decide +kernel) rfl
theorem jw_944 : Cond.instanceMethod ⟨"LevelingNetwork$Bank", "wetBySegments", "(II)I"⟩ ∈ jk_WS := jk_wt4 (i := 224) (by decide +kernel) rfl
theorem jw_945 : Cond.selects "LevelingNetwork$Bank" ⟨"LevelingNetwork$Bank", "wetBySegments", "(II)I"⟩ ⟨"LevelingNetwork$Bank", "wetBySegments", "(II)I"⟩ ∈ jk_WS := jk_wt4 (i := 225) (by decide +kernel) rfl
theorem jw_946 : Cond.code ⟨"LevelingNetwork$Bank", "wetBySegments", "(II)I"⟩ prog_3_method_9_code 9 (Option.some ClassFile.FieldType.int) ∈ jk_WS := jk_wt4 (i := 226) (by decide +kernel) rfl
theorem jw_947 : Cond.methodLink "LevelingNetwork$Bank" 48 ⟨"LevelingNetwork$Bank", "wetOfSegment", "(III)I"⟩ ∈ jk_WS := jk_wt4 (i := 227) (by decide +kernel) rfl
theorem jw_948 : Cond.static ⟨"LevelingNetwork$Bank", "wetOfSegment", "(III)I"⟩ ∈ jk_WS := jk_wt4 (i := 228) (by decide +kernel) rfl
theorem jw_949 : Cond.code ⟨"LevelingNetwork$Bank", "wetOfSegment", "(III)I"⟩ prog_3_method_10_code 3 (Option.some ClassFile.FieldType.int) ∈ jk_WS := jk_wt4 (i := 229) (by decide +kernel) rfl
theorem jw_950 : Cond.methodLink "LevelingNetwork$Bank" 52 ⟨"LevelingNetwork$Bank", "clamp", "(II)I"⟩ ∈ jk_WS := jk_wt4 (i := 230) (by decide +kernel) rfl
theorem jw_951 : Cond.static ⟨"LevelingNetwork$Bank", "clamp", "(II)I"⟩ ∈ jk_WS := jk_wt4 (i := 231) (by decide +kernel) rfl
theorem jw_952 : Cond.code ⟨"LevelingNetwork$Bank", "clamp", "(II)I"⟩ prog_3_method_11_code 2 (Option.some ClassFile.FieldType.int) ∈ jk_WS := jk_wt4 (i := 232) (by decide +kernel) rfl
theorem jw_953 : Cond.methodLink "LevelingNetwork$Bank" 55 ⟨"java/lang/Math", "min", "(II)I"⟩ ∈ jk_WS := jk_wt4 (i := 233) (by decide +kernel) rfl
theorem jw_954 : Cond.methodLink "LevelingNetwork$Bank" 58 ⟨"java/lang/Math", "max", "(II)I"⟩ ∈ jk_WS := jk_wt4 (i := 234) (by decide +kernel) rfl
theorem jw_955 : Cond.methodLink "LevelingNetworkLaw" 397 ⟨"LevelingNetwork", "save", "()I"⟩ ∈ jk_WS := jk_wt4 (i := 235) (by decide +kernel) rfl
theorem jw_956 : Cond.instanceMethod ⟨"LevelingNetwork", "save", "()I"⟩ ∈ jk_WS := jk_wt4 (i := 236) (by decide +kernel) rfl
theorem jw_957 : Cond.selects "LevelingNetwork" ⟨"LevelingNetwork", "save", "()I"⟩ ⟨"LevelingNetwork", "save", "()I"⟩ ∈ jk_WS := jk_wt4 (i := 237) (by decide +kernel) rfl
theorem jw_958 : Cond.code ⟨"LevelingNetwork", "save", "()I"⟩ prog_1_method_63_code 1 (Option.some ClassFile.FieldType.int) ∈ jk_WS := jk_wt4 (i := 238) (by decide +kernel) rfl
theorem jw_959 : Cond.methodLink "LevelingNetwork" 398 ⟨"LevelingNetwork$Survey", "copyFrom", "(LLevelingNetwork$Survey;)V"⟩ ∈ jk_WS := jk_wt4 (i := 239) (by decide +kernel) rfl
theorem jw_960 : Cond.methodLink "LevelingNetworkLaw" 191 ⟨"LevelingNetworkLaw", "addBenchmark", "(LLevelingNetwork;[J)I"⟩ ∈ jk_WS := jk_wt5 (i := 0) (by decide +kernel) rfl
theorem jw_961 : Cond.static ⟨"LevelingNetworkLaw", "addBenchmark", "(LLevelingNetwork;[J)I"⟩ ∈ jk_WS := jk_wt5 (i := 1) (by decide +kernel) rfl
theorem jw_962 : Cond.codeWith ⟨"LevelingNetworkLaw", "addBenchmark", "(LLevelingNetwork;[J)I"⟩ method_3_code 3 (Option.some ClassFile.FieldType.int) [(0, 8, 11, 13)] ∈ jk_WS := jk_wt5 (i := 2) (by decide +kernel) rfl
theorem jw_963 : Cond.classLink "LevelingNetworkLaw" 13 "java/lang/IllegalStateException" ∈ jk_WS := jk_wt5 (i := 3) (by decide +kernel) rfl
theorem jw_964 : Cond.methodLink "LevelingNetworkLaw" 7 ⟨"LevelingNetwork", "addBenchmark", "()I"⟩ ∈ jk_WS := jk_wt5 (i := 4) (by decide +kernel) rfl
theorem jw_965 : Cond.instanceMethod ⟨"LevelingNetwork", "addBenchmark", "()I"⟩ ∈ jk_WS := jk_wt5 (i := 5) (by decide +kernel) rfl
theorem jw_966 : Cond.selects "LevelingNetwork" ⟨"LevelingNetwork", "addBenchmark", "()I"⟩ ⟨"LevelingNetwork", "addBenchmark", "()I"⟩ ∈ jk_WS := jk_wt5 (i := 6) (by decide +kernel) rfl
theorem jw_967 : Cond.code ⟨"LevelingNetwork", "addBenchmark", "()I"⟩ prog_1_method_2_code 1 (Option.some ClassFile.FieldType.int) ∈ jk_WS := jk_wt5 (i := 7) (by decide +kernel) rfl
theorem jw_968 : Cond.fieldLink "LevelingNetwork" 98 "LevelingNetwork$Kind" "POINT" "LLevelingNetwork$Kind;" ∈ jk_WS := jk_wt5 (i := 8) (by decide +kernel) rfl
theorem jw_970 : Cond.methodLink "LevelingNetworkLaw" 200 ⟨"LevelingNetworkLaw", "fix", "(LLevelingNetwork;II[J)I"⟩ ∈ jk_WS := jk_wt5 (i := 10) (by decide +kernel) rfl
theorem jw_971 : Cond.static ⟨"LevelingNetworkLaw", "fix", "(LLevelingNetwork;II[J)I"⟩ ∈ jk_WS := jk_wt5 (i := 11) (by decide +kernel) rfl
theorem jw_972 : Cond.codeWith ⟨"LevelingNetworkLaw", "fix", "(LLevelingNetwork;II[J)I"⟩ method_4_code 5 (Option.some ClassFile.FieldType.int) [(0, 10, 13, 19), (0, 10, 17, 21)] ∈ jk_WS := jk_wt5 (i := 12) (by decide +kernel) rfl
theorem jw_973 : Cond.classLink "LevelingNetworkLaw" 19 "java/lang/IndexOutOfBoundsException" ∈ jk_WS := jk_wt5 (i := 13) (by decide +kernel) rfl
theorem jw_974 : Cond.instantiable "java/lang/ArrayIndexOutOfBoundsException" 6 ∈ jk_WS := jk_wt5 (i := 14) (by decide +kernel) rfl
theorem jw_975 : Cond.instanceMethod ⟨"java/lang/ArrayIndexOutOfBoundsException", "<init>", "(Ljava/lang/String;)V"⟩ ∈ jk_WS := jk_wt5 (i := 15) (by decide +kernel) rfl
theorem jw_976 : Cond.code ⟨"java/lang/ArrayIndexOutOfBoundsException", "<init>", "(Ljava/lang/String;)V"⟩ prog_20_method_2_code 2 (Option.none : Option ClassFile.FieldType) ∈ jk_WS := jk_wt5 (i := 16) (by decide +kernel) rfl
theorem jw_977 : Cond.methodLink "java/lang/ArrayIndexOutOfBoundsException" 7 ⟨"java/lang/IndexOutOfBoundsException", "<init>", "(Ljava/lang/String;)V"⟩ ∈ jk_WS := jk_wt5 (i := 17) (by decide +kernel) rfl
theorem jw_978 : Cond.lays "java/lang/ArrayIndexOutOfBoundsException" "java/lang/Throwable" "backtrace" "Ljava/lang/Object;" ∈ jk_WS := jk_wt5 (i := 18) (by decide +kernel) rfl
theorem jw_979 : Cond.lays "java/lang/ArrayIndexOutOfBoundsException" "java/lang/Throwable" "detailMessage" "Ljava/lang/String;" ∈ jk_WS := jk_wt5 (i := 19) (by decide +kernel) rfl
theorem jw_980 : Cond.lays "java/lang/ArrayIndexOutOfBoundsException" "java/lang/Throwable" "cause" "Ljava/lang/Throwable;" ∈ jk_WS := jk_wt5 (i := 20) (by decide +kernel) rfl
theorem jw_981 : Cond.lays "java/lang/ArrayIndexOutOfBoundsException" "java/lang/Throwable" "stackTrace" "[Ljava/lang/StackTraceElement;" ∈ jk_WS := jk_wt5 (i := 21) (by decide +kernel) rfl
theorem jw_982 : Cond.lays "java/lang/ArrayIndexOutOfBoundsException" "java/lang/Throwable" "depth" "I" ∈ jk_WS := jk_wt5 (i := 22) (by decide +kernel) rfl
theorem jw_983 : Cond.lays "java/lang/ArrayIndexOutOfBoundsException" "java/lang/Throwable" "suppressedExceptions" "Ljava/util/List;" ∈ jk_WS := jk_wt5 (i := 23) (by decide +kernel) rfl
theorem jw_984 : Cond.superclass "java/lang/ArrayIndexOutOfBoundsException" "java/lang/IndexOutOfBoundsException" ∈ jk_WS := jk_wt5 (i := 24) (by decide +kernel) rfl
theorem jw_985 : Cond.castable "java/lang/ArrayIndexOutOfBoundsException" "java/lang/ArrayIndexOutOfBoundsException" ∈ jk_WS := jk_wt5 (i := 25) (by decide +kernel) rfl
theorem jw_986 : Cond.declares ⟨"java/lang/IndexOutOfBoundsException", "<init>", "()V"⟩ ∈ jk_WS := jk_wt5 (i := 26) (by decide +kernel) rfl
theorem jw_987 : Cond.declares ⟨"java/lang/IndexOutOfBoundsException", "<init>", "(Ljava/lang/String;)V"⟩ ∈ jk_WS := jk_wt5 (i := 27) (by decide +kernel) rfl
theorem jw_988 : Cond.selects "java/lang/ArrayIndexOutOfBoundsException" ⟨"java/lang/Throwable", "fillInStackTrace", "(I)Ljava/lang/Throwable;"⟩ ⟨"java/lang/Throwable", "fillInStackTrace", "(I)Ljava/lang/Throwable;"⟩ ∈ jk_WS := jk_wt5 (i := 28) (by decide +kernel) rfl
theorem jw_989 : Cond.instantiable "java/lang/String" 4 ∈ jk_WS := jk_wt5 (i := 29) (by decide +kernel) rfl
theorem jw_990 : Cond.laysFinal "java/lang/String" "java/lang/String" "value" "[B" ∈ jk_WS := jk_wt5 (i := 30) (by decide +kernel) rfl
theorem jw_992 : Cond.laysFinal "java/lang/String" "java/lang/String" "coder" "B" ∈ jk_WS := jk_wt5 (i := 32) (by decide +kernel) rfl
theorem jw_994 : Cond.classLink "LevelingNetworkLaw" 21 "java/lang/IllegalArgumentException" ∈ jk_WS := jk_wt5 (i := 34) (by decide +kernel) rfl
theorem jw_995 : Cond.methodLink "LevelingNetworkLaw" 15 ⟨"LevelingNetwork", "fix", "(II)I"⟩ ∈ jk_WS := jk_wt5 (i := 35) (by decide +kernel) rfl
theorem jw_996 : Cond.instanceMethod ⟨"LevelingNetwork", "fix", "(II)I"⟩ ∈ jk_WS := jk_wt5 (i := 36) (by decide +kernel) rfl
theorem jw_997 : Cond.selects "LevelingNetwork" ⟨"LevelingNetwork", "fix", "(II)I"⟩ ⟨"LevelingNetwork", "fix", "(II)I"⟩ ∈ jk_WS := jk_wt5 (i := 37) (by decide +kernel) rfl
theorem jw_998 : Cond.code ⟨"LevelingNetwork", "fix", "(II)I"⟩ prog_1_method_3_code 3 (Option.some ClassFile.FieldType.int) ∈ jk_WS := jk_wt5 (i := 38) (by decide +kernel) rfl
theorem jw_999 : Cond.fieldLink "LevelingNetwork" 108 "LevelingNetwork$Kind" "FIX" "LLevelingNetwork$Kind;" ∈ jk_WS := jk_wt5 (i := 39) (by decide +kernel) rfl
theorem jw_1001 : Cond.methodLink "LevelingNetworkLaw" 204 ⟨"LevelingNetworkLaw", "release", "(LLevelingNetwork;I[J)I"⟩ ∈ jk_WS := jk_wt5 (i := 41) (by decide +kernel) rfl
theorem jw_1002 : Cond.static ⟨"LevelingNetworkLaw", "release", "(LLevelingNetwork;I[J)I"⟩ ∈ jk_WS := jk_wt5 (i := 42) (by decide +kernel) rfl
theorem jw_1003 : Cond.codeWith ⟨"LevelingNetworkLaw", "release", "(LLevelingNetwork;I[J)I"⟩ method_5_code 4 (Option.some ClassFile.FieldType.int) [(0, 9, 12, 19), (0, 9, 15, 13)] ∈ jk_WS := jk_wt5 (i := 43) (by decide +kernel) rfl
theorem jw_1004 : Cond.methodLink "LevelingNetworkLaw" 23 ⟨"LevelingNetwork", "release", "(I)I"⟩ ∈ jk_WS := jk_wt5 (i := 44) (by decide +kernel) rfl
theorem jw_1005 : Cond.instanceMethod ⟨"LevelingNetwork", "release", "(I)I"⟩ ∈ jk_WS := jk_wt5 (i := 45) (by decide +kernel) rfl
theorem jw_1006 : Cond.selects "LevelingNetwork" ⟨"LevelingNetwork", "release", "(I)I"⟩ ⟨"LevelingNetwork", "release", "(I)I"⟩ ∈ jk_WS := jk_wt5 (i := 46) (by decide +kernel) rfl
theorem jw_1007 : Cond.code ⟨"LevelingNetwork", "release", "(I)I"⟩ prog_1_method_4_code 2 (Option.some ClassFile.FieldType.int) ∈ jk_WS := jk_wt5 (i := 47) (by decide +kernel) rfl
theorem jw_1008 : Cond.fieldLink "LevelingNetwork" 111 "LevelingNetwork$Kind" "FREE" "LLevelingNetwork$Kind;" ∈ jk_WS := jk_wt5 (i := 48) (by decide +kernel) rfl
theorem jw_1010 : Cond.methodLink "LevelingNetworkLaw" 208 ⟨"LevelingNetworkLaw", "addLine", "(LLevelingNetwork;IIII[J)I"⟩ ∈ jk_WS := jk_wt5 (i := 50) (by decide +kernel) rfl
theorem jw_1011 : Cond.static ⟨"LevelingNetworkLaw", "addLine", "(LLevelingNetwork;IIII[J)I"⟩ ∈ jk_WS := jk_wt5 (i := 51) (by decide +kernel) rfl
theorem jw_1012 : Cond.codeWith ⟨"LevelingNetworkLaw", "addLine", "(LLevelingNetwork;IIII[J)I"⟩ method_6_code 7 (Option.some ClassFile.FieldType.int) [(0, 14, 17, 19), (0, 14, 21, 21), (0, 14, 25, 13)] ∈ jk_WS := jk_wt5 (i := 52) (by decide +kernel) rfl
theorem jw_1013 : Cond.methodLink "LevelingNetworkLaw" 27 ⟨"LevelingNetwork", "addLine", "(IIII)I"⟩ ∈ jk_WS := jk_wt5 (i := 53) (by decide +kernel) rfl
theorem jw_1014 : Cond.instanceMethod ⟨"LevelingNetwork", "addLine", "(IIII)I"⟩ ∈ jk_WS := jk_wt5 (i := 54) (by decide +kernel) rfl
theorem jw_1015 : Cond.selects "LevelingNetwork" ⟨"LevelingNetwork", "addLine", "(IIII)I"⟩ ⟨"LevelingNetwork", "addLine", "(IIII)I"⟩ ∈ jk_WS := jk_wt5 (i := 55) (by decide +kernel) rfl
theorem jw_1016 : Cond.code ⟨"LevelingNetwork", "addLine", "(IIII)I"⟩ prog_1_method_5_code 5 (Option.some ClassFile.FieldType.int) ∈ jk_WS := jk_wt5 (i := 56) (by decide +kernel) rfl
theorem jw_1017 : Cond.fieldLink "LevelingNetwork" 114 "LevelingNetwork$Kind" "LINE" "LLevelingNetwork$Kind;" ∈ jk_WS := jk_wt5 (i := 57) (by decide +kernel) rfl
theorem jw_1019 : Cond.methodLink "LevelingNetworkLaw" 212 ⟨"LevelingNetworkLaw", "addBackwardRun", "(LLevelingNetwork;II[J)I"⟩ ∈ jk_WS := jk_wt5 (i := 59) (by decide +kernel) rfl
theorem jw_1020 : Cond.static ⟨"LevelingNetworkLaw", "addBackwardRun", "(LLevelingNetwork;II[J)I"⟩ ∈ jk_WS := jk_wt5 (i := 60) (by decide +kernel) rfl
theorem jw_1021 : Cond.codeWith ⟨"LevelingNetworkLaw", "addBackwardRun", "(LLevelingNetwork;II[J)I"⟩ method_7_code 5 (Option.some ClassFile.FieldType.int) [(0, 10, 13, 19), (0, 10, 17, 21), (0, 10, 21, 13)] ∈ jk_WS := jk_wt5 (i := 61) (by decide +kernel) rfl
theorem jw_1022 : Cond.methodLink "LevelingNetworkLaw" 31 ⟨"LevelingNetwork", "addBackwardRun", "(II)I"⟩ ∈ jk_WS := jk_wt5 (i := 62) (by decide +kernel) rfl
theorem jw_1023 : Cond.instanceMethod ⟨"LevelingNetwork", "addBackwardRun", "(II)I"⟩ ∈ jk_WS := jk_wt5 (i := 63) (by decide +kernel) rfl
theorem jw_1024 : Cond.selects "LevelingNetwork" ⟨"LevelingNetwork", "addBackwardRun", "(II)I"⟩ ⟨"LevelingNetwork", "addBackwardRun", "(II)I"⟩ ∈ jk_WS := jk_wt5 (i := 64) (by decide +kernel) rfl
theorem jw_1025 : Cond.code ⟨"LevelingNetwork", "addBackwardRun", "(II)I"⟩ prog_1_method_6_code 3 (Option.some ClassFile.FieldType.int) ∈ jk_WS := jk_wt5 (i := 65) (by decide +kernel) rfl
theorem jw_1026 : Cond.fieldLink "LevelingNetwork" 117 "LevelingNetwork$Kind" "BACK" "LLevelingNetwork$Kind;" ∈ jk_WS := jk_wt5 (i := 66) (by decide +kernel) rfl
theorem jw_1028 : Cond.methodLink "LevelingNetworkLaw" 215 ⟨"LevelingNetworkLaw", "exclude", "(LLevelingNetwork;I[J)I"⟩ ∈ jk_WS := jk_wt5 (i := 68) (by decide +kernel) rfl
theorem jw_1029 : Cond.static ⟨"LevelingNetworkLaw", "exclude", "(LLevelingNetwork;I[J)I"⟩ ∈ jk_WS := jk_wt5 (i := 69) (by decide +kernel) rfl
theorem jw_1030 : Cond.codeWith ⟨"LevelingNetworkLaw", "exclude", "(LLevelingNetwork;I[J)I"⟩ method_8_code 4 (Option.some ClassFile.FieldType.int) [(0, 9, 12, 19), (0, 9, 15, 13)] ∈ jk_WS := jk_wt5 (i := 70) (by decide +kernel) rfl
theorem jw_1031 : Cond.methodLink "LevelingNetworkLaw" 34 ⟨"LevelingNetwork", "exclude", "(I)I"⟩ ∈ jk_WS := jk_wt5 (i := 71) (by decide +kernel) rfl
theorem jw_1032 : Cond.instanceMethod ⟨"LevelingNetwork", "exclude", "(I)I"⟩ ∈ jk_WS := jk_wt5 (i := 72) (by decide +kernel) rfl
theorem jw_1033 : Cond.selects "LevelingNetwork" ⟨"LevelingNetwork", "exclude", "(I)I"⟩ ⟨"LevelingNetwork", "exclude", "(I)I"⟩ ∈ jk_WS := jk_wt5 (i := 73) (by decide +kernel) rfl
theorem jw_1034 : Cond.code ⟨"LevelingNetwork", "exclude", "(I)I"⟩ prog_1_method_7_code 2 (Option.some ClassFile.FieldType.int) ∈ jk_WS := jk_wt5 (i := 74) (by decide +kernel) rfl
theorem jw_1035 : Cond.fieldLink "LevelingNetwork" 120 "LevelingNetwork$Kind" "EXCLUDE" "LLevelingNetwork$Kind;" ∈ jk_WS := jk_wt5 (i := 75) (by decide +kernel) rfl
theorem jw_1037 : Cond.methodLink "LevelingNetworkLaw" 218 ⟨"LevelingNetworkLaw", "include", "(LLevelingNetwork;I[J)I"⟩ ∈ jk_WS := jk_wt5 (i := 77) (by decide +kernel) rfl
theorem jw_1038 : Cond.static ⟨"LevelingNetworkLaw", "include", "(LLevelingNetwork;I[J)I"⟩ ∈ jk_WS := jk_wt5 (i := 78) (by decide +kernel) rfl
theorem jw_1039 : Cond.codeWith ⟨"LevelingNetworkLaw", "include", "(LLevelingNetwork;I[J)I"⟩ method_9_code 4 (Option.some ClassFile.FieldType.int) [(0, 9, 12, 19), (0, 9, 15, 13)] ∈ jk_WS := jk_wt5 (i := 79) (by decide +kernel) rfl
theorem jw_1040 : Cond.methodLink "LevelingNetworkLaw" 37 ⟨"LevelingNetwork", "include", "(I)I"⟩ ∈ jk_WS := jk_wt5 (i := 80) (by decide +kernel) rfl
theorem jw_1041 : Cond.instanceMethod ⟨"LevelingNetwork", "include", "(I)I"⟩ ∈ jk_WS := jk_wt5 (i := 81) (by decide +kernel) rfl
theorem jw_1042 : Cond.selects "LevelingNetwork" ⟨"LevelingNetwork", "include", "(I)I"⟩ ⟨"LevelingNetwork", "include", "(I)I"⟩ ∈ jk_WS := jk_wt5 (i := 82) (by decide +kernel) rfl
theorem jw_1043 : Cond.code ⟨"LevelingNetwork", "include", "(I)I"⟩ prog_1_method_8_code 2 (Option.some ClassFile.FieldType.int) ∈ jk_WS := jk_wt5 (i := 83) (by decide +kernel) rfl
theorem jw_1044 : Cond.fieldLink "LevelingNetwork" 123 "LevelingNetwork$Kind" "INCLUDE" "LLevelingNetwork$Kind;" ∈ jk_WS := jk_wt5 (i := 84) (by decide +kernel) rfl
theorem jw_1046 : Cond.methodLink "LevelingNetworkLaw" 221 ⟨"LevelingNetworkLaw", "shareMisclosure", "(LLevelingNetwork;I[J)I"⟩ ∈ jk_WS := jk_wt5 (i := 86) (by decide +kernel) rfl
theorem jw_1047 : Cond.static ⟨"LevelingNetworkLaw", "shareMisclosure", "(LLevelingNetwork;I[J)I"⟩ ∈ jk_WS := jk_wt5 (i := 87) (by decide +kernel) rfl
theorem jw_1048 : Cond.codeWith ⟨"LevelingNetworkLaw", "shareMisclosure", "(LLevelingNetwork;I[J)I"⟩ method_10_code 4 (Option.some ClassFile.FieldType.int) [(0, 9, 12, 19), (0, 9, 15, 43), (0, 9, 18, 45)] ∈ jk_WS := jk_wt5 (i := 88) (by decide +kernel) rfl
theorem jw_1049 : Cond.classLink "LevelingNetworkLaw" 43 "java/util/NoSuchElementException" ∈ jk_WS := jk_wt5 (i := 89) (by decide +kernel) rfl
theorem jw_1050 : Cond.classLink "LevelingNetworkLaw" 45 "java/lang/UnsupportedOperationException" ∈ jk_WS := jk_wt5 (i := 90) (by decide +kernel) rfl
theorem jw_1051 : Cond.methodLink "LevelingNetworkLaw" 40 ⟨"LevelingNetwork", "shareMisclosure", "(I)I"⟩ ∈ jk_WS := jk_wt5 (i := 91) (by decide +kernel) rfl
theorem jw_1052 : Cond.instanceMethod ⟨"LevelingNetwork", "shareMisclosure", "(I)I"⟩ ∈ jk_WS := jk_wt5 (i := 92) (by decide +kernel) rfl
theorem jw_1053 : Cond.selects "LevelingNetwork" ⟨"LevelingNetwork", "shareMisclosure", "(I)I"⟩ ⟨"LevelingNetwork", "shareMisclosure", "(I)I"⟩ ∈ jk_WS := jk_wt5 (i := 93) (by decide +kernel) rfl
theorem jw_1054 : Cond.code ⟨"LevelingNetwork", "shareMisclosure", "(I)I"⟩ prog_1_method_9_code 2 (Option.some ClassFile.FieldType.int) ∈ jk_WS := jk_wt5 (i := 94) (by decide +kernel) rfl
theorem jw_1055 : Cond.fieldLink "LevelingNetwork" 126 "LevelingNetwork$Kind" "SHARE" "LLevelingNetwork$Kind;" ∈ jk_WS := jk_wt5 (i := 95) (by decide +kernel) rfl
theorem jw_1057 : Cond.methodLink "LevelingNetworkLaw" 228 ⟨"LevelingNetworkLaw", "addProfile", "(LLevelingNetwork;I[J)I"⟩ ∈ jk_WS := jk_wt5 (i := 97) (by decide +kernel) rfl
theorem jw_1058 : Cond.static ⟨"LevelingNetworkLaw", "addProfile", "(LLevelingNetwork;I[J)I"⟩ ∈ jk_WS := jk_wt5 (i := 98) (by decide +kernel) rfl
theorem jw_1059 : Cond.codeWith ⟨"LevelingNetworkLaw", "addProfile", "(LLevelingNetwork;I[J)I"⟩ method_11_code 4 (Option.some ClassFile.FieldType.int) [(0, 9, 12, 19), (0, 9, 15, 13)] ∈ jk_WS := jk_wt5 (i := 99) (by decide +kernel) rfl
theorem jw_1060 : Cond.methodLink "LevelingNetworkLaw" 47 ⟨"LevelingNetwork", "addProfile", "(I)I"⟩ ∈ jk_WS := jk_wt5 (i := 100) (by decide +kernel) rfl
theorem jw_1061 : Cond.instanceMethod ⟨"LevelingNetwork", "addProfile", "(I)I"⟩ ∈ jk_WS := jk_wt5 (i := 101) (by decide +kernel) rfl
theorem jw_1062 : Cond.selects "LevelingNetwork" ⟨"LevelingNetwork", "addProfile", "(I)I"⟩ ⟨"LevelingNetwork", "addProfile", "(I)I"⟩ ∈ jk_WS := jk_wt5 (i := 102) (by decide +kernel) rfl
theorem jw_1063 : Cond.code ⟨"LevelingNetwork", "addProfile", "(I)I"⟩ prog_1_method_11_code 2 (Option.some ClassFile.FieldType.int) ∈ jk_WS := jk_wt5 (i := 103) (by decide +kernel) rfl
theorem jw_1064 : Cond.fieldLink "LevelingNetwork" 132 "LevelingNetwork$Kind" "PROFILE" "LLevelingNetwork$Kind;" ∈ jk_WS := jk_wt5 (i := 104) (by decide +kernel) rfl
theorem jw_1066 : Cond.methodLink "LevelingNetworkLaw" 231 ⟨"LevelingNetworkLaw", "addStation", "(LLevelingNetwork;III[J)I"⟩ ∈ jk_WS := jk_wt5 (i := 106) (by decide +kernel) rfl
theorem jw_1067 : Cond.static ⟨"LevelingNetworkLaw", "addStation", "(LLevelingNetwork;III[J)I"⟩ ∈ jk_WS := jk_wt5 (i := 107) (by decide +kernel) rfl
theorem jw_1068 : Cond.codeWith ⟨"LevelingNetworkLaw", "addStation", "(LLevelingNetwork;III[J)I"⟩ method_12_code 6 (Option.some ClassFile.FieldType.int) [(0, 12, 15, 19), (0, 12, 19, 21), (0, 12, 23, 13)] ∈ jk_WS := jk_wt5 (i := 108) (by decide +kernel) rfl
theorem jw_1069 : Cond.methodLink "LevelingNetworkLaw" 50 ⟨"LevelingNetwork", "addStation", "(III)I"⟩ ∈ jk_WS := jk_wt5 (i := 109) (by decide +kernel) rfl
theorem jw_1070 : Cond.instanceMethod ⟨"LevelingNetwork", "addStation", "(III)I"⟩ ∈ jk_WS := jk_wt5 (i := 110) (by decide +kernel) rfl
theorem jw_1071 : Cond.selects "LevelingNetwork" ⟨"LevelingNetwork", "addStation", "(III)I"⟩ ⟨"LevelingNetwork", "addStation", "(III)I"⟩ ∈ jk_WS := jk_wt5 (i := 111) (by decide +kernel) rfl
theorem jw_1072 : Cond.code ⟨"LevelingNetwork", "addStation", "(III)I"⟩ prog_1_method_12_code 4 (Option.some ClassFile.FieldType.int) ∈ jk_WS := jk_wt5 (i := 112) (by decide +kernel) rfl
theorem jw_1073 : Cond.fieldLink "LevelingNetwork" 135 "LevelingNetwork$Kind" "STATION" "LLevelingNetwork$Kind;" ∈ jk_WS := jk_wt5 (i := 113) (by decide +kernel) rfl
theorem jw_1075 : Cond.methodLink "LevelingNetworkLaw" 235 ⟨"LevelingNetworkLaw", "setWaterLevel", "(LLevelingNetwork;I[J)I"⟩ ∈ jk_WS := jk_wt5 (i := 115) (by decide +kernel) rfl
theorem jw_1076 : Cond.static ⟨"LevelingNetworkLaw", "setWaterLevel", "(LLevelingNetwork;I[J)I"⟩ ∈ jk_WS := jk_wt5 (i := 116) (by decide +kernel) rfl
theorem jw_1077 : Cond.codeWith ⟨"LevelingNetworkLaw", "setWaterLevel", "(LLevelingNetwork;I[J)I"⟩ method_13_code 4 (Option.some ClassFile.FieldType.int) [(0, 9, 12, 21)] ∈ jk_WS := jk_wt5 (i := 117) (by decide +kernel) rfl
theorem jw_1078 : Cond.methodLink "LevelingNetworkLaw" 54 ⟨"LevelingNetwork", "setWaterLevel", "(I)I"⟩ ∈ jk_WS := jk_wt5 (i := 118) (by decide +kernel) rfl
theorem jw_1079 : Cond.instanceMethod ⟨"LevelingNetwork", "setWaterLevel", "(I)I"⟩ ∈ jk_WS := jk_wt5 (i := 119) (by decide +kernel) rfl
theorem jw_1080 : Cond.selects "LevelingNetwork" ⟨"LevelingNetwork", "setWaterLevel", "(I)I"⟩ ⟨"LevelingNetwork", "setWaterLevel", "(I)I"⟩ ∈ jk_WS := jk_wt5 (i := 120) (by decide +kernel) rfl
theorem jw_1081 : Cond.code ⟨"LevelingNetwork", "setWaterLevel", "(I)I"⟩ prog_1_method_13_code 2 (Option.some ClassFile.FieldType.int) ∈ jk_WS := jk_wt5 (i := 121) (by decide +kernel) rfl
theorem jw_1082 : Cond.fieldLink "LevelingNetwork" 138 "LevelingNetwork$Kind" "WATER" "LLevelingNetwork$Kind;" ∈ jk_WS := jk_wt5 (i := 122) (by decide +kernel) rfl
theorem jw_1084 : Cond.methodLink "LevelingNetworkLaw" 242 ⟨"LevelingNetworkLaw", "isFixed", "(LLevelingNetwork;I[J)I"⟩ ∈ jk_WS := jk_wt5 (i := 124) (by decide +kernel) rfl
theorem jw_1085 : Cond.static ⟨"LevelingNetworkLaw", "isFixed", "(LLevelingNetwork;I[J)I"⟩ ∈ jk_WS := jk_wt5 (i := 125) (by decide +kernel) rfl
theorem jw_1086 : Cond.codeWith ⟨"LevelingNetworkLaw", "isFixed", "(LLevelingNetwork;I[J)I"⟩ method_14_code 4 (Option.some ClassFile.FieldType.int) [(0, 16, 19, 19)] ∈ jk_WS := jk_wt5 (i := 126) (by decide +kernel) rfl
theorem jw_1087 : Cond.methodLink "LevelingNetworkLaw" 57 ⟨"LevelingNetwork", "isFixed", "(I)Z"⟩ ∈ jk_WS := jk_wt5 (i := 127) (by decide +kernel) rfl
theorem jw_1088 : Cond.instanceMethod ⟨"LevelingNetwork", "isFixed", "(I)Z"⟩ ∈ jk_WS := jk_wt5 (i := 128) (by decide +kernel) rfl
theorem jw_1089 : Cond.selects "LevelingNetwork" ⟨"LevelingNetwork", "isFixed", "(I)Z"⟩ ⟨"LevelingNetwork", "isFixed", "(I)Z"⟩ ∈ jk_WS := jk_wt5 (i := 129) (by decide +kernel) rfl
theorem jw_1090 : Cond.code ⟨"LevelingNetwork", "isFixed", "(I)Z"⟩ prog_1_method_15_code 2 (Option.some ClassFile.FieldType.boolean) ∈ jk_WS := jk_wt5 (i := 130) (by decide +kernel) rfl
theorem jw_1091 : Cond.methodLink "LevelingNetwork" 144 ⟨"LevelingNetwork", "requireBenchmark", "(I)V"⟩ ∈ jk_WS := jk_wt5 (i := 131) (by decide +kernel) rfl
theorem jw_1093 : Cond.instanceMethod ⟨"LevelingNetwork", "requireBenchmark", "(I)V"⟩ ∈ jk_WS := jk_wt5 (i := 133) (by decide +kernel) rfl
theorem jw_1094 : Cond.code ⟨"LevelingNetwork", "requireBenchmark", "(I)V"⟩ prog_1_method_67_code 2 (Option.none : Option ClassFile.FieldType) ∈ jk_WS := jk_wt5 (i := 134) (by decide +kernel) rfl
theorem jw_1095 : Cond.methodLink "LevelingNetwork" 462 ⟨"LevelingNetwork$Survey", "hasBenchmark", "(I)Z"⟩ ∈ jk_WS := jk_wt5 (i := 135) (by decide +kernel) rfl
theorem jw_1097 : Cond.methodLink "LevelingNetworkLaw" 245 ⟨"LevelingNetworkLaw", "hasHeight", "(LLevelingNetwork;I[J)I"⟩ ∈ jk_WS := jk_wt5 (i := 137) (by decide +kernel) rfl
theorem jw_1098 : Cond.static ⟨"LevelingNetworkLaw", "hasHeight", "(LLevelingNetwork;I[J)I"⟩ ∈ jk_WS := jk_wt5 (i := 138) (by decide +kernel) rfl
theorem jw_1099 : Cond.codeWith ⟨"LevelingNetworkLaw", "hasHeight", "(LLevelingNetwork;I[J)I"⟩ method_15_code 4 (Option.some ClassFile.FieldType.int) [(0, 16, 19, 19)] ∈ jk_WS := jk_wt5 (i := 139) (by decide +kernel) rfl
theorem jw_1100 : Cond.methodLink "LevelingNetworkLaw" 61 ⟨"LevelingNetwork", "hasHeight", "(I)Z"⟩ ∈ jk_WS := jk_wt5 (i := 140) (by decide +kernel) rfl
theorem jw_1101 : Cond.instanceMethod ⟨"LevelingNetwork", "hasHeight", "(I)Z"⟩ ∈ jk_WS := jk_wt5 (i := 141) (by decide +kernel) rfl
theorem jw_1102 : Cond.selects "LevelingNetwork" ⟨"LevelingNetwork", "hasHeight", "(I)Z"⟩ ⟨"LevelingNetwork", "hasHeight", "(I)Z"⟩ ∈ jk_WS := jk_wt5 (i := 142) (by decide +kernel) rfl
theorem jw_1103 : Cond.code ⟨"LevelingNetwork", "hasHeight", "(I)Z"⟩ prog_1_method_16_code 2 (Option.some ClassFile.FieldType.boolean) ∈ jk_WS := jk_wt5 (i := 143) (by decide +kernel) rfl
theorem jw_1104 : Cond.methodLink "LevelingNetworkLaw" 248 ⟨"LevelingNetworkLaw", "height", "(LLevelingNetwork;I[J)I"⟩ ∈ jk_WS := jk_wt5 (i := 144) (by decide +kernel) rfl
theorem jw_1105 : Cond.static ⟨"LevelingNetworkLaw", "height", "(LLevelingNetwork;I[J)I"⟩ ∈ jk_WS := jk_wt5 (i := 145) (by decide +kernel) rfl
theorem jw_1106 : Cond.codeWith ⟨"LevelingNetworkLaw", "height", "(LLevelingNetwork;I[J)I"⟩ method_16_code 4 (Option.some ClassFile.FieldType.int) [(0, 9, 12, 19), (0, 9, 15, 43)] ∈ jk_WS := jk_wt5 (i := 146) (by decide +kernel) rfl
theorem jw_1107 : Cond.methodLink "LevelingNetworkLaw" 64 ⟨"LevelingNetwork", "height", "(I)I"⟩ ∈ jk_WS := jk_wt5 (i := 147) (by decide +kernel) rfl
theorem jw_1108 : Cond.instanceMethod ⟨"LevelingNetwork", "height", "(I)I"⟩ ∈ jk_WS := jk_wt5 (i := 148) (by decide +kernel) rfl
theorem jw_1109 : Cond.selects "LevelingNetwork" ⟨"LevelingNetwork", "height", "(I)I"⟩ ⟨"LevelingNetwork", "height", "(I)I"⟩ ∈ jk_WS := jk_wt5 (i := 149) (by decide +kernel) rfl
theorem jw_1110 : Cond.code ⟨"LevelingNetwork", "height", "(I)I"⟩ prog_1_method_17_code 2 (Option.some ClassFile.FieldType.int) ∈ jk_WS := jk_wt5 (i := 150) (by decide +kernel) rfl
theorem jw_1111 : Cond.methodLink "LevelingNetwork" 159 ⟨"LevelingNetwork", "requireHeight", "(I)V"⟩ ∈ jk_WS := jk_wt5 (i := 151) (by decide +kernel) rfl
theorem jw_1113 : Cond.instanceMethod ⟨"LevelingNetwork", "requireHeight", "(I)V"⟩ ∈ jk_WS := jk_wt5 (i := 153) (by decide +kernel) rfl
theorem jw_1114 : Cond.code ⟨"LevelingNetwork", "requireHeight", "(I)V"⟩ prog_1_method_70_code 2 (Option.none : Option ClassFile.FieldType) ∈ jk_WS := jk_wt5 (i := 154) (by decide +kernel) rfl
theorem jw_1116 : Cond.methodLink "LevelingNetworkLaw" 251 ⟨"LevelingNetworkLaw", "heightByRounds", "(LLevelingNetwork;I[J)I"⟩ ∈ jk_WS := jk_wt5 (i := 156) (by decide +kernel) rfl
theorem jw_1117 : Cond.static ⟨"LevelingNetworkLaw", "heightByRounds", "(LLevelingNetwork;I[J)I"⟩ ∈ jk_WS := jk_wt5 (i := 157) (by decide +kernel) rfl
theorem jw_1118 : Cond.codeWith ⟨"LevelingNetworkLaw", "heightByRounds", "(LLevelingNetwork;I[J)I"⟩ method_17_code 4 (Option.some ClassFile.FieldType.int) [(0, 9, 12, 19), (0, 9, 15, 43)] ∈ jk_WS := jk_wt5 (i := 158) (by decide +kernel) rfl
theorem jw_1119 : Cond.methodLink "LevelingNetworkLaw" 67 ⟨"LevelingNetwork", "heightByRounds", "(I)I"⟩ ∈ jk_WS := jk_wt5 (i := 159) (by decide +kernel) rfl
theorem jw_1120 : Cond.instanceMethod ⟨"LevelingNetwork", "heightByRounds", "(I)I"⟩ ∈ jk_WS := jk_wt5 (i := 160) (by decide +kernel) rfl
theorem jw_1121 : Cond.selects "LevelingNetwork" ⟨"LevelingNetwork", "heightByRounds", "(I)I"⟩ ⟨"LevelingNetwork", "heightByRounds", "(I)I"⟩ ∈ jk_WS := jk_wt5 (i := 161) (by decide +kernel) rfl
theorem jw_1122 : Cond.code ⟨"LevelingNetwork", "heightByRounds", "(I)I"⟩ prog_1_method_18_code 2 (Option.some ClassFile.FieldType.int) ∈ jk_WS := jk_wt5 (i := 162) (by decide +kernel) rfl
theorem jw_1123 : Cond.methodLink "LevelingNetworkLaw" 254 ⟨"LevelingNetworkLaw", "closingError", "(LLevelingNetwork;I[J)I"⟩ ∈ jk_WS := jk_wt5 (i := 163) (by decide +kernel) rfl
theorem jw_1124 : Cond.static ⟨"LevelingNetworkLaw", "closingError", "(LLevelingNetwork;I[J)I"⟩ ∈ jk_WS := jk_wt5 (i := 164) (by decide +kernel) rfl
theorem jw_1125 : Cond.codeWith ⟨"LevelingNetworkLaw", "closingError", "(LLevelingNetwork;I[J)I"⟩ method_18_code 4 (Option.some ClassFile.FieldType.int) [(0, 9, 12, 19), (0, 9, 15, 43)] ∈ jk_WS := jk_wt5 (i := 165) (by decide +kernel) rfl
theorem jw_1126 : Cond.methodLink "LevelingNetworkLaw" 70 ⟨"LevelingNetwork", "closingError", "(I)I"⟩ ∈ jk_WS := jk_wt5 (i := 166) (by decide +kernel) rfl
theorem jw_1127 : Cond.instanceMethod ⟨"LevelingNetwork", "closingError", "(I)I"⟩ ∈ jk_WS := jk_wt5 (i := 167) (by decide +kernel) rfl
theorem jw_1128 : Cond.selects "LevelingNetwork" ⟨"LevelingNetwork", "closingError", "(I)I"⟩ ⟨"LevelingNetwork", "closingError", "(I)I"⟩ ∈ jk_WS := jk_wt5 (i := 168) (by decide +kernel) rfl
theorem jw_1129 : Cond.code ⟨"LevelingNetwork", "closingError", "(I)I"⟩ prog_1_method_19_code 2 (Option.some ClassFile.FieldType.int) ∈ jk_WS := jk_wt5 (i := 169) (by decide +kernel) rfl
theorem jw_1131 : Cond.methodLink "LevelingNetwork" 176 ⟨"LevelingNetwork$Heights", "carriedFromDatum", "(I)I"⟩ ∈ jk_WS := jk_wt5 (i := 171) (by decide +kernel) rfl
theorem jw_1132 : Cond.methodLink "LevelingNetworkLaw" 257 ⟨"LevelingNetworkLaw", "datum", "(LLevelingNetwork;I[J)I"⟩ ∈ jk_WS := jk_wt5 (i := 172) (by decide +kernel) rfl
theorem jw_1133 : Cond.static ⟨"LevelingNetworkLaw", "datum", "(LLevelingNetwork;I[J)I"⟩ ∈ jk_WS := jk_wt5 (i := 173) (by decide +kernel) rfl
theorem jw_1134 : Cond.codeWith ⟨"LevelingNetworkLaw", "datum", "(LLevelingNetwork;I[J)I"⟩ method_19_code 4 (Option.some ClassFile.FieldType.int) [(0, 9, 12, 19), (0, 9, 15, 43)] ∈ jk_WS := jk_wt5 (i := 174) (by decide +kernel) rfl
theorem jw_1135 : Cond.methodLink "LevelingNetworkLaw" 73 ⟨"LevelingNetwork", "datum", "(I)I"⟩ ∈ jk_WS := jk_wt5 (i := 175) (by decide +kernel) rfl
theorem jw_1136 : Cond.instanceMethod ⟨"LevelingNetwork", "datum", "(I)I"⟩ ∈ jk_WS := jk_wt5 (i := 176) (by decide +kernel) rfl
theorem jw_1137 : Cond.selects "LevelingNetwork" ⟨"LevelingNetwork", "datum", "(I)I"⟩ ⟨"LevelingNetwork", "datum", "(I)I"⟩ ∈ jk_WS := jk_wt5 (i := 177) (by decide +kernel) rfl
theorem jw_1138 : Cond.code ⟨"LevelingNetwork", "datum", "(I)I"⟩ prog_1_method_20_code 3 (Option.some ClassFile.FieldType.int) ∈ jk_WS := jk_wt5 (i := 178) (by decide +kernel) rfl
theorem jw_1139 : Cond.methodLink "LevelingNetwork" 183 ⟨"LevelingNetwork$Heights", "datumOf", "(I)I"⟩ ∈ jk_WS := jk_wt5 (i := 179) (by decide +kernel) rfl
theorem jw_1141 : Cond.methodLink "LevelingNetworkLaw" 260 ⟨"LevelingNetworkLaw", "benchmarkByHeight", "(LLevelingNetwork;I[J)I"⟩ ∈ jk_WS := jk_wt5 (i := 181) (by decide +kernel) rfl
theorem jw_1142 : Cond.static ⟨"LevelingNetworkLaw", "benchmarkByHeight", "(LLevelingNetwork;I[J)I"⟩ ∈ jk_WS := jk_wt5 (i := 182) (by decide +kernel) rfl
theorem jw_1143 : Cond.codeWith ⟨"LevelingNetworkLaw", "benchmarkByHeight", "(LLevelingNetwork;I[J)I"⟩ method_20_code 4 (Option.some ClassFile.FieldType.int) [(0, 9, 12, 43)] ∈ jk_WS := jk_wt5 (i := 183) (by decide +kernel) rfl
theorem jw_1144 : Cond.methodLink "LevelingNetworkLaw" 76 ⟨"LevelingNetwork", "benchmarkByHeight", "(I)I"⟩ ∈ jk_WS := jk_wt5 (i := 184) (by decide +kernel) rfl
theorem jw_1145 : Cond.instanceMethod ⟨"LevelingNetwork", "benchmarkByHeight", "(I)I"⟩ ∈ jk_WS := jk_wt5 (i := 185) (by decide +kernel) rfl
theorem jw_1146 : Cond.selects "LevelingNetwork" ⟨"LevelingNetwork", "benchmarkByHeight", "(I)I"⟩ ⟨"LevelingNetwork", "benchmarkByHeight", "(I)I"⟩ ∈ jk_WS := jk_wt5 (i := 186) (by decide +kernel) rfl
theorem jw_1147 : Cond.code ⟨"LevelingNetwork", "benchmarkByHeight", "(I)I"⟩ prog_1_method_21_code 3 (Option.some ClassFile.FieldType.int) ∈ jk_WS := jk_wt5 (i := 187) (by decide +kernel) rfl
theorem jw_1148 : Cond.methodLink "LevelingNetwork" 188 ⟨"LevelingNetwork$Heights", "atRank", "(I)I"⟩ ∈ jk_WS := jk_wt5 (i := 188) (by decide +kernel) rfl
theorem jw_1149 : Cond.instanceMethod ⟨"LevelingNetwork$Heights", "atRank", "(I)I"⟩ ∈ jk_WS := jk_wt5 (i := 189) (by decide +kernel) rfl
theorem jw_1150 : Cond.selects "LevelingNetwork$Heights" ⟨"LevelingNetwork$Heights", "atRank", "(I)I"⟩ ⟨"LevelingNetwork$Heights", "atRank", "(I)I"⟩ ∈ jk_WS := jk_wt5 (i := 190) (by decide +kernel) rfl
theorem jw_1151 : Cond.code ⟨"LevelingNetwork$Heights", "atRank", "(I)I"⟩ prog_6_method_10_code 3 (Option.some ClassFile.FieldType.int) ∈ jk_WS := jk_wt5 (i := 191) (by decide +kernel) rfl
theorem jw_1152 : Cond.methodLink "LevelingNetwork$Heights" 90 ⟨"LevelingNetwork$Heights", "exists", "(I)Z"⟩ ∈ jk_WS := jk_wt5 (i := 192) (by decide +kernel) rfl
theorem jw_1153 : Cond.methodLink "LevelingNetwork$Heights" 94 ⟨"LevelingNetwork$Heights", "benchmarksAheadOf", "(I)I"⟩ ∈ jk_WS := jk_wt5 (i := 193) (by decide +kernel) rfl
theorem jw_1155 : Cond.instanceMethod ⟨"LevelingNetwork$Heights", "benchmarksAheadOf", "(I)I"⟩ ∈ jk_WS := jk_wt5 (i := 195) (by decide +kernel) rfl
theorem jw_1156 : Cond.code ⟨"LevelingNetwork$Heights", "benchmarksAheadOf", "(I)I"⟩ prog_6_method_11_code 6 (Option.some ClassFile.FieldType.int) ∈ jk_WS := jk_wt5 (i := 196) (by decide +kernel) rfl
theorem jw_1157 : Cond.methodLink "LevelingNetwork$Heights" 97 ⟨"LevelingNetwork$Heights", "byWay", "(I)I"⟩ ∈ jk_WS := jk_wt5 (i := 197) (by decide +kernel) rfl
theorem jw_1159 : Cond.methodLink "LevelingNetworkLaw" 267 ⟨"LevelingNetworkLaw", "firstOf", "(LLevelingNetwork;I[J)I"⟩ ∈ jk_WS := jk_wt5 (i := 199) (by decide +kernel) rfl
theorem jw_1160 : Cond.static ⟨"LevelingNetworkLaw", "firstOf", "(LLevelingNetwork;I[J)I"⟩ ∈ jk_WS := jk_wt5 (i := 200) (by decide +kernel) rfl
theorem jw_1161 : Cond.codeWith ⟨"LevelingNetworkLaw", "firstOf", "(LLevelingNetwork;I[J)I"⟩ method_21_code 4 (Option.some ClassFile.FieldType.int) [(0, 9, 12, 19)] ∈ jk_WS := jk_wt5 (i := 201) (by decide +kernel) rfl
theorem jw_1162 : Cond.methodLink "LevelingNetworkLaw" 79 ⟨"LevelingNetwork", "firstOf", "(I)I"⟩ ∈ jk_WS := jk_wt5 (i := 202) (by decide +kernel) rfl
theorem jw_1163 : Cond.instanceMethod ⟨"LevelingNetwork", "firstOf", "(I)I"⟩ ∈ jk_WS := jk_wt5 (i := 203) (by decide +kernel) rfl
theorem jw_1164 : Cond.selects "LevelingNetwork" ⟨"LevelingNetwork", "firstOf", "(I)I"⟩ ⟨"LevelingNetwork", "firstOf", "(I)I"⟩ ∈ jk_WS := jk_wt5 (i := 204) (by decide +kernel) rfl
theorem jw_1165 : Cond.code ⟨"LevelingNetwork", "firstOf", "(I)I"⟩ prog_1_method_23_code 2 (Option.some ClassFile.FieldType.int) ∈ jk_WS := jk_wt5 (i := 205) (by decide +kernel) rfl
theorem jw_1166 : Cond.methodLink "LevelingNetwork" 196 ⟨"LevelingNetwork", "requireLine", "(I)V"⟩ ∈ jk_WS := jk_wt5 (i := 206) (by decide +kernel) rfl
theorem jw_1168 : Cond.instanceMethod ⟨"LevelingNetwork", "requireLine", "(I)V"⟩ ∈ jk_WS := jk_wt5 (i := 208) (by decide +kernel) rfl
theorem jw_1169 : Cond.code ⟨"LevelingNetwork", "requireLine", "(I)V"⟩ prog_1_method_68_code 2 (Option.none : Option ClassFile.FieldType) ∈ jk_WS := jk_wt5 (i := 209) (by decide +kernel) rfl
theorem jw_1170 : Cond.methodLink "LevelingNetwork" 467 ⟨"LevelingNetwork$Survey", "hasLine", "(I)Z"⟩ ∈ jk_WS := jk_wt5 (i := 210) (by decide +kernel) rfl
theorem jw_1172 : Cond.methodLink "LevelingNetworkLaw" 270 ⟨"LevelingNetworkLaw", "secondOf", "(LLevelingNetwork;I[J)I"⟩ ∈ jk_WS := jk_wt5 (i := 212) (by decide +kernel) rfl
theorem jw_1173 : Cond.static ⟨"LevelingNetworkLaw", "secondOf", "(LLevelingNetwork;I[J)I"⟩ ∈ jk_WS := jk_wt5 (i := 213) (by decide +kernel) rfl
theorem jw_1174 : Cond.codeWith ⟨"LevelingNetworkLaw", "secondOf", "(LLevelingNetwork;I[J)I"⟩ method_22_code 4 (Option.some ClassFile.FieldType.int) [(0, 9, 12, 19)] ∈ jk_WS := jk_wt5 (i := 214) (by decide +kernel) rfl
theorem jw_1175 : Cond.methodLink "LevelingNetworkLaw" 82 ⟨"LevelingNetwork", "secondOf", "(I)I"⟩ ∈ jk_WS := jk_wt5 (i := 215) (by decide +kernel) rfl
theorem jw_1176 : Cond.instanceMethod ⟨"LevelingNetwork", "secondOf", "(I)I"⟩ ∈ jk_WS := jk_wt5 (i := 216) (by decide +kernel) rfl
theorem jw_1177 : Cond.selects "LevelingNetwork" ⟨"LevelingNetwork", "secondOf", "(I)I"⟩ ⟨"LevelingNetwork", "secondOf", "(I)I"⟩ ∈ jk_WS := jk_wt5 (i := 217) (by decide +kernel) rfl
theorem jw_1178 : Cond.code ⟨"LevelingNetwork", "secondOf", "(I)I"⟩ prog_1_method_24_code 2 (Option.some ClassFile.FieldType.int) ∈ jk_WS := jk_wt5 (i := 218) (by decide +kernel) rfl
theorem jw_1179 : Cond.methodLink "LevelingNetworkLaw" 273 ⟨"LevelingNetworkLaw", "lengthOf", "(LLevelingNetwork;I[J)I"⟩ ∈ jk_WS := jk_wt5 (i := 219) (by decide +kernel) rfl
theorem jw_1180 : Cond.static ⟨"LevelingNetworkLaw", "lengthOf", "(LLevelingNetwork;I[J)I"⟩ ∈ jk_WS := jk_wt5 (i := 220) (by decide +kernel) rfl
theorem jw_1181 : Cond.codeWith ⟨"LevelingNetworkLaw", "lengthOf", "(LLevelingNetwork;I[J)I"⟩ method_23_code 4 (Option.some ClassFile.FieldType.int) [(0, 9, 12, 19)] ∈ jk_WS := jk_wt5 (i := 221) (by decide +kernel) rfl
theorem jw_1182 : Cond.methodLink "LevelingNetworkLaw" 85 ⟨"LevelingNetwork", "lengthOf", "(I)I"⟩ ∈ jk_WS := jk_wt5 (i := 222) (by decide +kernel) rfl
theorem jw_1183 : Cond.instanceMethod ⟨"LevelingNetwork", "lengthOf", "(I)I"⟩ ∈ jk_WS := jk_wt5 (i := 223) (by decide +kernel) rfl
theorem jw_1184 : Cond.selects "LevelingNetwork" ⟨"LevelingNetwork", "lengthOf", "(I)I"⟩ ⟨"LevelingNetwork", "lengthOf", "(I)I"⟩ ∈ jk_WS := jk_wt5 (i := 224) (by decide +kernel) rfl
theorem jw_1185 : Cond.code ⟨"LevelingNetwork", "lengthOf", "(I)I"⟩ prog_1_method_25_code 2 (Option.some ClassFile.FieldType.int) ∈ jk_WS := jk_wt5 (i := 225) (by decide +kernel) rfl
theorem jw_1186 : Cond.methodLink "LevelingNetworkLaw" 276 ⟨"LevelingNetworkLaw", "levelledDifference", "(LLevelingNetwork;I[J)I"⟩ ∈ jk_WS := jk_wt5 (i := 226) (by decide +kernel) rfl
theorem jw_1187 : Cond.static ⟨"LevelingNetworkLaw", "levelledDifference", "(LLevelingNetwork;I[J)I"⟩ ∈ jk_WS := jk_wt5 (i := 227) (by decide +kernel) rfl
theorem jw_1188 : Cond.codeWith ⟨"LevelingNetworkLaw", "levelledDifference", "(LLevelingNetwork;I[J)I"⟩ method_24_code 4 (Option.some ClassFile.FieldType.int) [(0, 9, 12, 19)] ∈ jk_WS := jk_wt5 (i := 228) (by decide +kernel) rfl
theorem jw_1189 : Cond.methodLink "LevelingNetworkLaw" 88 ⟨"LevelingNetwork", "levelledDifference", "(I)I"⟩ ∈ jk_WS := jk_wt5 (i := 229) (by decide +kernel) rfl
theorem jw_1190 : Cond.instanceMethod ⟨"LevelingNetwork", "levelledDifference", "(I)I"⟩ ∈ jk_WS := jk_wt5 (i := 230) (by decide +kernel) rfl
theorem jw_1191 : Cond.selects "LevelingNetwork" ⟨"LevelingNetwork", "levelledDifference", "(I)I"⟩ ⟨"LevelingNetwork", "levelledDifference", "(I)I"⟩ ∈ jk_WS := jk_wt5 (i := 231) (by decide +kernel) rfl
theorem jw_1192 : Cond.code ⟨"LevelingNetwork", "levelledDifference", "(I)I"⟩ prog_1_method_26_code 2 (Option.some ClassFile.FieldType.int) ∈ jk_WS := jk_wt5 (i := 232) (by decide +kernel) rfl
theorem jw_1193 : Cond.methodLink "LevelingNetwork" 208 ⟨"LevelingNetwork$Survey", "levelled", "(I)I"⟩ ∈ jk_WS := jk_wt5 (i := 233) (by decide +kernel) rfl
theorem jw_1194 : Cond.methodLink "LevelingNetworkLaw" 279 ⟨"LevelingNetworkLaw", "correction", "(LLevelingNetwork;I[J)I"⟩ ∈ jk_WS := jk_wt5 (i := 234) (by decide +kernel) rfl
theorem jw_1195 : Cond.static ⟨"LevelingNetworkLaw", "correction", "(LLevelingNetwork;I[J)I"⟩ ∈ jk_WS := jk_wt5 (i := 235) (by decide +kernel) rfl
theorem jw_1196 : Cond.codeWith ⟨"LevelingNetworkLaw", "correction", "(LLevelingNetwork;I[J)I"⟩ method_25_code 4 (Option.some ClassFile.FieldType.int) [(0, 9, 12, 19)] ∈ jk_WS := jk_wt5 (i := 236) (by decide +kernel) rfl
theorem jw_1197 : Cond.methodLink "LevelingNetworkLaw" 91 ⟨"LevelingNetwork", "correction", "(I)I"⟩ ∈ jk_WS := jk_wt5 (i := 237) (by decide +kernel) rfl
theorem jw_1198 : Cond.instanceMethod ⟨"LevelingNetwork", "correction", "(I)I"⟩ ∈ jk_WS := jk_wt5 (i := 238) (by decide +kernel) rfl
theorem jw_1199 : Cond.selects "LevelingNetwork" ⟨"LevelingNetwork", "correction", "(I)I"⟩ ⟨"LevelingNetwork", "correction", "(I)I"⟩ ∈ jk_WS := jk_wt5 (i := 239) (by decide +kernel) rfl
theorem jw_1200 : Cond.code ⟨"LevelingNetwork", "correction", "(I)I"⟩ prog_1_method_27_code 2 (Option.some ClassFile.FieldType.int) ∈ jk_WS := jk_wt6 (i := 0) (by decide +kernel) rfl
theorem jw_1201 : Cond.methodLink "LevelingNetworkLaw" 282 ⟨"LevelingNetworkLaw", "discrepancy", "(LLevelingNetwork;I[J)I"⟩ ∈ jk_WS := jk_wt6 (i := 1) (by decide +kernel) rfl
theorem jw_1202 : Cond.static ⟨"LevelingNetworkLaw", "discrepancy", "(LLevelingNetwork;I[J)I"⟩ ∈ jk_WS := jk_wt6 (i := 2) (by decide +kernel) rfl
theorem jw_1203 : Cond.codeWith ⟨"LevelingNetworkLaw", "discrepancy", "(LLevelingNetwork;I[J)I"⟩ method_26_code 4 (Option.some ClassFile.FieldType.int) [(0, 9, 12, 19), (0, 9, 15, 43)] ∈ jk_WS := jk_wt6 (i := 3) (by decide +kernel) rfl
theorem jw_1204 : Cond.methodLink "LevelingNetworkLaw" 94 ⟨"LevelingNetwork", "discrepancy", "(I)I"⟩ ∈ jk_WS := jk_wt6 (i := 4) (by decide +kernel) rfl
theorem jw_1205 : Cond.instanceMethod ⟨"LevelingNetwork", "discrepancy", "(I)I"⟩ ∈ jk_WS := jk_wt6 (i := 5) (by decide +kernel) rfl
theorem jw_1206 : Cond.selects "LevelingNetwork" ⟨"LevelingNetwork", "discrepancy", "(I)I"⟩ ⟨"LevelingNetwork", "discrepancy", "(I)I"⟩ ∈ jk_WS := jk_wt6 (i := 6) (by decide +kernel) rfl
theorem jw_1207 : Cond.code ⟨"LevelingNetwork", "discrepancy", "(I)I"⟩ prog_1_method_28_code 2 (Option.some ClassFile.FieldType.int) ∈ jk_WS := jk_wt6 (i := 7) (by decide +kernel) rfl
theorem jw_1209 : Cond.methodLink "LevelingNetwork" 219 ⟨"LevelingNetwork$Survey", "sumOfRuns", "(I)I"⟩ ∈ jk_WS := jk_wt6 (i := 9) (by decide +kernel) rfl
theorem jw_1210 : Cond.methodLink "LevelingNetworkLaw" 285 ⟨"LevelingNetworkLaw", "isExcluded", "(LLevelingNetwork;I[J)I"⟩ ∈ jk_WS := jk_wt6 (i := 10) (by decide +kernel) rfl
theorem jw_1211 : Cond.static ⟨"LevelingNetworkLaw", "isExcluded", "(LLevelingNetwork;I[J)I"⟩ ∈ jk_WS := jk_wt6 (i := 11) (by decide +kernel) rfl
theorem jw_1212 : Cond.codeWith ⟨"LevelingNetworkLaw", "isExcluded", "(LLevelingNetwork;I[J)I"⟩ method_27_code 4 (Option.some ClassFile.FieldType.int) [(0, 16, 19, 19)] ∈ jk_WS := jk_wt6 (i := 12) (by decide +kernel) rfl
theorem jw_1213 : Cond.methodLink "LevelingNetworkLaw" 97 ⟨"LevelingNetwork", "isExcluded", "(I)Z"⟩ ∈ jk_WS := jk_wt6 (i := 13) (by decide +kernel) rfl
theorem jw_1214 : Cond.instanceMethod ⟨"LevelingNetwork", "isExcluded", "(I)Z"⟩ ∈ jk_WS := jk_wt6 (i := 14) (by decide +kernel) rfl
theorem jw_1215 : Cond.selects "LevelingNetwork" ⟨"LevelingNetwork", "isExcluded", "(I)Z"⟩ ⟨"LevelingNetwork", "isExcluded", "(I)Z"⟩ ∈ jk_WS := jk_wt6 (i := 15) (by decide +kernel) rfl
theorem jw_1216 : Cond.code ⟨"LevelingNetwork", "isExcluded", "(I)Z"⟩ prog_1_method_29_code 2 (Option.some ClassFile.FieldType.boolean) ∈ jk_WS := jk_wt6 (i := 16) (by decide +kernel) rfl
theorem jw_1217 : Cond.methodLink "LevelingNetworkLaw" 288 ⟨"LevelingNetworkLaw", "isUsable", "(LLevelingNetwork;I[J)I"⟩ ∈ jk_WS := jk_wt6 (i := 17) (by decide +kernel) rfl
theorem jw_1218 : Cond.static ⟨"LevelingNetworkLaw", "isUsable", "(LLevelingNetwork;I[J)I"⟩ ∈ jk_WS := jk_wt6 (i := 18) (by decide +kernel) rfl
theorem jw_1219 : Cond.codeWith ⟨"LevelingNetworkLaw", "isUsable", "(LLevelingNetwork;I[J)I"⟩ method_28_code 4 (Option.some ClassFile.FieldType.int) [(0, 16, 19, 19)] ∈ jk_WS := jk_wt6 (i := 19) (by decide +kernel) rfl
theorem jw_1220 : Cond.methodLink "LevelingNetworkLaw" 100 ⟨"LevelingNetwork", "isUsable", "(I)Z"⟩ ∈ jk_WS := jk_wt6 (i := 20) (by decide +kernel) rfl
theorem jw_1221 : Cond.instanceMethod ⟨"LevelingNetwork", "isUsable", "(I)Z"⟩ ∈ jk_WS := jk_wt6 (i := 21) (by decide +kernel) rfl
theorem jw_1222 : Cond.selects "LevelingNetwork" ⟨"LevelingNetwork", "isUsable", "(I)Z"⟩ ⟨"LevelingNetwork", "isUsable", "(I)Z"⟩ ∈ jk_WS := jk_wt6 (i := 22) (by decide +kernel) rfl
theorem jw_1223 : Cond.code ⟨"LevelingNetwork", "isUsable", "(I)Z"⟩ prog_1_method_30_code 2 (Option.some ClassFile.FieldType.boolean) ∈ jk_WS := jk_wt6 (i := 23) (by decide +kernel) rfl
theorem jw_1224 : Cond.methodLink "LevelingNetwork" 225 ⟨"LevelingNetwork$Survey", "usable", "(I)Z"⟩ ∈ jk_WS := jk_wt6 (i := 24) (by decide +kernel) rfl
theorem jw_1225 : Cond.methodLink "LevelingNetworkLaw" 291 ⟨"LevelingNetworkLaw", "tolerance", "(LLevelingNetwork;I[J)I"⟩ ∈ jk_WS := jk_wt6 (i := 25) (by decide +kernel) rfl
theorem jw_1226 : Cond.static ⟨"LevelingNetworkLaw", "tolerance", "(LLevelingNetwork;I[J)I"⟩ ∈ jk_WS := jk_wt6 (i := 26) (by decide +kernel) rfl
theorem jw_1227 : Cond.codeWith ⟨"LevelingNetworkLaw", "tolerance", "(LLevelingNetwork;I[J)I"⟩ method_29_code 4 (Option.some ClassFile.FieldType.int) [(0, 9, 12, 21)] ∈ jk_WS := jk_wt6 (i := 27) (by decide +kernel) rfl
theorem jw_1228 : Cond.methodLink "LevelingNetworkLaw" 103 ⟨"LevelingNetwork", "tolerance", "(I)I"⟩ ∈ jk_WS := jk_wt6 (i := 28) (by decide +kernel) rfl
theorem jw_1229 : Cond.instanceMethod ⟨"LevelingNetwork", "tolerance", "(I)I"⟩ ∈ jk_WS := jk_wt6 (i := 29) (by decide +kernel) rfl
theorem jw_1230 : Cond.selects "LevelingNetwork" ⟨"LevelingNetwork", "tolerance", "(I)I"⟩ ⟨"LevelingNetwork", "tolerance", "(I)I"⟩ ∈ jk_WS := jk_wt6 (i := 30) (by decide +kernel) rfl
theorem jw_1231 : Cond.code ⟨"LevelingNetwork", "tolerance", "(I)I"⟩ prog_1_method_31_code 2 (Option.some ClassFile.FieldType.int) ∈ jk_WS := jk_wt6 (i := 31) (by decide +kernel) rfl
theorem jw_1232 : Cond.methodLink "LevelingNetwork" 228 ⟨"LevelingNetwork", "within", "(III)Z"⟩ ∈ jk_WS := jk_wt6 (i := 32) (by decide +kernel) rfl
theorem jw_1234 : Cond.methodLink "LevelingNetwork" 237 ⟨"LevelingNetwork", "toleranceFor", "(I)I"⟩ ∈ jk_WS := jk_wt6 (i := 34) (by decide +kernel) rfl
theorem jw_1235 : Cond.methodLink "LevelingNetworkLaw" 294 ⟨"LevelingNetworkLaw", "lineByDiscrepancy", "(LLevelingNetwork;I[J)I"⟩ ∈ jk_WS := jk_wt6 (i := 35) (by decide +kernel) rfl
theorem jw_1236 : Cond.static ⟨"LevelingNetworkLaw", "lineByDiscrepancy", "(LLevelingNetwork;I[J)I"⟩ ∈ jk_WS := jk_wt6 (i := 36) (by decide +kernel) rfl
theorem jw_1237 : Cond.codeWith ⟨"LevelingNetworkLaw", "lineByDiscrepancy", "(LLevelingNetwork;I[J)I"⟩ method_30_code 4 (Option.some ClassFile.FieldType.int) [(0, 9, 12, 43)] ∈ jk_WS := jk_wt6 (i := 37) (by decide +kernel) rfl
theorem jw_1238 : Cond.methodLink "LevelingNetworkLaw" 106 ⟨"LevelingNetwork", "lineByDiscrepancy", "(I)I"⟩ ∈ jk_WS := jk_wt6 (i := 38) (by decide +kernel) rfl
theorem jw_1239 : Cond.instanceMethod ⟨"LevelingNetwork", "lineByDiscrepancy", "(I)I"⟩ ∈ jk_WS := jk_wt6 (i := 39) (by decide +kernel) rfl
theorem jw_1240 : Cond.selects "LevelingNetwork" ⟨"LevelingNetwork", "lineByDiscrepancy", "(I)I"⟩ ⟨"LevelingNetwork", "lineByDiscrepancy", "(I)I"⟩ ∈ jk_WS := jk_wt6 (i := 40) (by decide +kernel) rfl
theorem jw_1241 : Cond.code ⟨"LevelingNetwork", "lineByDiscrepancy", "(I)I"⟩ prog_1_method_32_code 3 (Option.some ClassFile.FieldType.int) ∈ jk_WS := jk_wt6 (i := 41) (by decide +kernel) rfl
theorem jw_1242 : Cond.methodLink "LevelingNetwork" 240 ⟨"LevelingNetwork$Survey", "lineAtRank", "(I)I"⟩ ∈ jk_WS := jk_wt6 (i := 42) (by decide +kernel) rfl
theorem jw_1243 : Cond.instanceMethod ⟨"LevelingNetwork$Survey", "lineAtRank", "(I)I"⟩ ∈ jk_WS := jk_wt6 (i := 43) (by decide +kernel) rfl
theorem jw_1244 : Cond.selects "LevelingNetwork$Survey" ⟨"LevelingNetwork$Survey", "lineAtRank", "(I)I"⟩ ⟨"LevelingNetwork$Survey", "lineAtRank", "(I)I"⟩ ∈ jk_WS := jk_wt6 (i := 44) (by decide +kernel) rfl
theorem jw_1245 : Cond.code ⟨"LevelingNetwork$Survey", "lineAtRank", "(I)I"⟩ prog_11_method_16_code 3 (Option.some ClassFile.FieldType.int) ∈ jk_WS := jk_wt6 (i := 45) (by decide +kernel) rfl
theorem jw_1246 : Cond.methodLink "LevelingNetwork$Survey" 99 ⟨"LevelingNetwork$Survey", "linesAheadOf", "(I)I"⟩ ∈ jk_WS := jk_wt6 (i := 46) (by decide +kernel) rfl
theorem jw_1248 : Cond.instanceMethod ⟨"LevelingNetwork$Survey", "linesAheadOf", "(I)I"⟩ ∈ jk_WS := jk_wt6 (i := 48) (by decide +kernel) rfl
theorem jw_1249 : Cond.code ⟨"LevelingNetwork$Survey", "linesAheadOf", "(I)I"⟩ prog_11_method_17_code 6 (Option.some ClassFile.FieldType.int) ∈ jk_WS := jk_wt6 (i := 49) (by decide +kernel) rfl
theorem jw_1250 : Cond.methodLink "LevelingNetworkLaw" 297 ⟨"LevelingNetworkLaw", "isInForest", "(LLevelingNetwork;I[J)I"⟩ ∈ jk_WS := jk_wt6 (i := 50) (by decide +kernel) rfl
theorem jw_1251 : Cond.static ⟨"LevelingNetworkLaw", "isInForest", "(LLevelingNetwork;I[J)I"⟩ ∈ jk_WS := jk_wt6 (i := 51) (by decide +kernel) rfl
theorem jw_1252 : Cond.codeWith ⟨"LevelingNetworkLaw", "isInForest", "(LLevelingNetwork;I[J)I"⟩ method_31_code 4 (Option.some ClassFile.FieldType.int) [(0, 16, 19, 19)] ∈ jk_WS := jk_wt6 (i := 52) (by decide +kernel) rfl
theorem jw_1253 : Cond.methodLink "LevelingNetworkLaw" 109 ⟨"LevelingNetwork", "isInForest", "(I)Z"⟩ ∈ jk_WS := jk_wt6 (i := 53) (by decide +kernel) rfl
theorem jw_1254 : Cond.instanceMethod ⟨"LevelingNetwork", "isInForest", "(I)Z"⟩ ∈ jk_WS := jk_wt6 (i := 54) (by decide +kernel) rfl
theorem jw_1255 : Cond.selects "LevelingNetwork" ⟨"LevelingNetwork", "isInForest", "(I)Z"⟩ ⟨"LevelingNetwork", "isInForest", "(I)Z"⟩ ∈ jk_WS := jk_wt6 (i := 55) (by decide +kernel) rfl
theorem jw_1256 : Cond.code ⟨"LevelingNetwork", "isInForest", "(I)Z"⟩ prog_1_method_33_code 2 (Option.some ClassFile.FieldType.boolean) ∈ jk_WS := jk_wt6 (i := 56) (by decide +kernel) rfl
theorem jw_1257 : Cond.methodLink "LevelingNetworkLaw" 316 ⟨"LevelingNetworkLaw", "loopAt", "(LLevelingNetwork;I[J)I"⟩ ∈ jk_WS := jk_wt6 (i := 57) (by decide +kernel) rfl
theorem jw_1258 : Cond.static ⟨"LevelingNetworkLaw", "loopAt", "(LLevelingNetwork;I[J)I"⟩ ∈ jk_WS := jk_wt6 (i := 58) (by decide +kernel) rfl
theorem jw_1259 : Cond.codeWith ⟨"LevelingNetworkLaw", "loopAt", "(LLevelingNetwork;I[J)I"⟩ method_32_code 4 (Option.some ClassFile.FieldType.int) [(0, 9, 12, 43)] ∈ jk_WS := jk_wt6 (i := 59) (by decide +kernel) rfl
theorem jw_1260 : Cond.methodLink "LevelingNetworkLaw" 112 ⟨"LevelingNetwork", "loopAt", "(I)I"⟩ ∈ jk_WS := jk_wt6 (i := 60) (by decide +kernel) rfl
theorem jw_1261 : Cond.instanceMethod ⟨"LevelingNetwork", "loopAt", "(I)I"⟩ ∈ jk_WS := jk_wt6 (i := 61) (by decide +kernel) rfl
theorem jw_1262 : Cond.selects "LevelingNetwork" ⟨"LevelingNetwork", "loopAt", "(I)I"⟩ ⟨"LevelingNetwork", "loopAt", "(I)I"⟩ ∈ jk_WS := jk_wt6 (i := 62) (by decide +kernel) rfl
theorem jw_1263 : Cond.code ⟨"LevelingNetwork", "loopAt", "(I)I"⟩ prog_1_method_38_code 3 (Option.some ClassFile.FieldType.int) ∈ jk_WS := jk_wt6 (i := 63) (by decide +kernel) rfl
theorem jw_1264 : Cond.methodLink "LevelingNetwork" 259 ⟨"LevelingNetwork$Forest", "closingLineAt", "(I)I"⟩ ∈ jk_WS := jk_wt6 (i := 64) (by decide +kernel) rfl
theorem jw_1265 : Cond.instanceMethod ⟨"LevelingNetwork$Forest", "closingLineAt", "(I)I"⟩ ∈ jk_WS := jk_wt6 (i := 65) (by decide +kernel) rfl
theorem jw_1266 : Cond.selects "LevelingNetwork$Forest" ⟨"LevelingNetwork$Forest", "closingLineAt", "(I)I"⟩ ⟨"LevelingNetwork$Forest", "closingLineAt", "(I)I"⟩ ∈ jk_WS := jk_wt6 (i := 66) (by decide +kernel) rfl
theorem jw_1267 : Cond.code ⟨"LevelingNetwork$Forest", "closingLineAt", "(I)I"⟩ prog_5_method_12_code 4 (Option.some ClassFile.FieldType.int) ∈ jk_WS := jk_wt6 (i := 67) (by decide +kernel) rfl
theorem jw_1269 : Cond.methodLink "LevelingNetworkLaw" 319 ⟨"LevelingNetworkLaw", "loopSize", "(LLevelingNetwork;I[J)I"⟩ ∈ jk_WS := jk_wt6 (i := 69) (by decide +kernel) rfl
theorem jw_1270 : Cond.static ⟨"LevelingNetworkLaw", "loopSize", "(LLevelingNetwork;I[J)I"⟩ ∈ jk_WS := jk_wt6 (i := 70) (by decide +kernel) rfl
theorem jw_1271 : Cond.codeWith ⟨"LevelingNetworkLaw", "loopSize", "(LLevelingNetwork;I[J)I"⟩ method_33_code 4 (Option.some ClassFile.FieldType.int) [(0, 9, 12, 19), (0, 9, 15, 43)] ∈ jk_WS := jk_wt6 (i := 71) (by decide +kernel) rfl
theorem jw_1272 : Cond.methodLink "LevelingNetworkLaw" 115 ⟨"LevelingNetwork", "loopSize", "(I)I"⟩ ∈ jk_WS := jk_wt6 (i := 72) (by decide +kernel) rfl
theorem jw_1273 : Cond.instanceMethod ⟨"LevelingNetwork", "loopSize", "(I)I"⟩ ∈ jk_WS := jk_wt6 (i := 73) (by decide +kernel) rfl
theorem jw_1274 : Cond.selects "LevelingNetwork" ⟨"LevelingNetwork", "loopSize", "(I)I"⟩ ⟨"LevelingNetwork", "loopSize", "(I)I"⟩ ∈ jk_WS := jk_wt6 (i := 74) (by decide +kernel) rfl
theorem jw_1275 : Cond.code ⟨"LevelingNetwork", "loopSize", "(I)I"⟩ prog_1_method_39_code 2 (Option.some ClassFile.FieldType.int) ∈ jk_WS := jk_wt6 (i := 75) (by decide +kernel) rfl
theorem jw_1276 : Cond.methodLink "LevelingNetwork" 264 ⟨"LevelingNetwork", "traceLoop", "(I)V"⟩ ∈ jk_WS := jk_wt6 (i := 76) (by decide +kernel) rfl
theorem jw_1278 : Cond.instanceMethod ⟨"LevelingNetwork", "traceLoop", "(I)V"⟩ ∈ jk_WS := jk_wt6 (i := 78) (by decide +kernel) rfl
theorem jw_1279 : Cond.code ⟨"LevelingNetwork", "traceLoop", "(I)V"⟩ prog_1_method_71_code 2 (Option.none : Option ClassFile.FieldType) ∈ jk_WS := jk_wt6 (i := 79) (by decide +kernel) rfl
theorem jw_1280 : Cond.methodLink "LevelingNetworkLaw" 322 ⟨"LevelingNetworkLaw", "loopLength", "(LLevelingNetwork;I[J)I"⟩ ∈ jk_WS := jk_wt6 (i := 80) (by decide +kernel) rfl
theorem jw_1281 : Cond.static ⟨"LevelingNetworkLaw", "loopLength", "(LLevelingNetwork;I[J)I"⟩ ∈ jk_WS := jk_wt6 (i := 81) (by decide +kernel) rfl
theorem jw_1282 : Cond.codeWith ⟨"LevelingNetworkLaw", "loopLength", "(LLevelingNetwork;I[J)I"⟩ method_34_code 4 (Option.some ClassFile.FieldType.int) [(0, 9, 12, 19), (0, 9, 15, 43)] ∈ jk_WS := jk_wt6 (i := 82) (by decide +kernel) rfl
theorem jw_1283 : Cond.methodLink "LevelingNetworkLaw" 118 ⟨"LevelingNetwork", "loopLength", "(I)I"⟩ ∈ jk_WS := jk_wt6 (i := 83) (by decide +kernel) rfl
theorem jw_1284 : Cond.instanceMethod ⟨"LevelingNetwork", "loopLength", "(I)I"⟩ ∈ jk_WS := jk_wt6 (i := 84) (by decide +kernel) rfl
theorem jw_1285 : Cond.selects "LevelingNetwork" ⟨"LevelingNetwork", "loopLength", "(I)I"⟩ ⟨"LevelingNetwork", "loopLength", "(I)I"⟩ ∈ jk_WS := jk_wt6 (i := 85) (by decide +kernel) rfl
theorem jw_1286 : Cond.code ⟨"LevelingNetwork", "loopLength", "(I)I"⟩ prog_1_method_40_code 2 (Option.some ClassFile.FieldType.int) ∈ jk_WS := jk_wt6 (i := 86) (by decide +kernel) rfl
theorem jw_1287 : Cond.methodLink "LevelingNetwork" 270 ⟨"LevelingNetwork$Way", "totalLength", "()I"⟩ ∈ jk_WS := jk_wt6 (i := 87) (by decide +kernel) rfl
theorem jw_1288 : Cond.methodLink "LevelingNetworkLaw" 325 ⟨"LevelingNetworkLaw", "misclosure", "(LLevelingNetwork;I[J)I"⟩ ∈ jk_WS := jk_wt6 (i := 88) (by decide +kernel) rfl
theorem jw_1289 : Cond.static ⟨"LevelingNetworkLaw", "misclosure", "(LLevelingNetwork;I[J)I"⟩ ∈ jk_WS := jk_wt6 (i := 89) (by decide +kernel) rfl
theorem jw_1290 : Cond.codeWith ⟨"LevelingNetworkLaw", "misclosure", "(LLevelingNetwork;I[J)I"⟩ method_35_code 4 (Option.some ClassFile.FieldType.int) [(0, 9, 12, 19), (0, 9, 15, 43)] ∈ jk_WS := jk_wt6 (i := 90) (by decide +kernel) rfl
theorem jw_1291 : Cond.methodLink "LevelingNetworkLaw" 121 ⟨"LevelingNetwork", "misclosure", "(I)I"⟩ ∈ jk_WS := jk_wt6 (i := 91) (by decide +kernel) rfl
theorem jw_1292 : Cond.instanceMethod ⟨"LevelingNetwork", "misclosure", "(I)I"⟩ ∈ jk_WS := jk_wt6 (i := 92) (by decide +kernel) rfl
theorem jw_1293 : Cond.selects "LevelingNetwork" ⟨"LevelingNetwork", "misclosure", "(I)I"⟩ ⟨"LevelingNetwork", "misclosure", "(I)I"⟩ ∈ jk_WS := jk_wt6 (i := 93) (by decide +kernel) rfl
theorem jw_1294 : Cond.code ⟨"LevelingNetwork", "misclosure", "(I)I"⟩ prog_1_method_41_code 2 (Option.some ClassFile.FieldType.int) ∈ jk_WS := jk_wt6 (i := 94) (by decide +kernel) rfl
theorem jw_1295 : Cond.methodLink "LevelingNetworkLaw" 328 ⟨"LevelingNetworkLaw", "misclosureByLevels", "(LLevelingNetwork;I[J)I"⟩ ∈ jk_WS := jk_wt6 (i := 95) (by decide +kernel) rfl
theorem jw_1296 : Cond.static ⟨"LevelingNetworkLaw", "misclosureByLevels", "(LLevelingNetwork;I[J)I"⟩ ∈ jk_WS := jk_wt6 (i := 96) (by decide +kernel) rfl
theorem jw_1297 : Cond.codeWith ⟨"LevelingNetworkLaw", "misclosureByLevels", "(LLevelingNetwork;I[J)I"⟩ method_36_code 4 (Option.some ClassFile.FieldType.int) [(0, 9, 12, 19), (0, 9, 15, 43)] ∈ jk_WS := jk_wt6 (i := 97) (by decide +kernel) rfl
theorem jw_1298 : Cond.methodLink "LevelingNetworkLaw" 124 ⟨"LevelingNetwork", "misclosureByLevels", "(I)I"⟩ ∈ jk_WS := jk_wt6 (i := 98) (by decide +kernel) rfl
theorem jw_1299 : Cond.instanceMethod ⟨"LevelingNetwork", "misclosureByLevels", "(I)I"⟩ ∈ jk_WS := jk_wt6 (i := 99) (by decide +kernel) rfl
theorem jw_1300 : Cond.selects "LevelingNetwork" ⟨"LevelingNetwork", "misclosureByLevels", "(I)I"⟩ ⟨"LevelingNetwork", "misclosureByLevels", "(I)I"⟩ ∈ jk_WS := jk_wt6 (i := 100) (by decide +kernel) rfl
theorem jw_1301 : Cond.code ⟨"LevelingNetwork", "misclosureByLevels", "(I)I"⟩ prog_1_method_42_code 2 (Option.some ClassFile.FieldType.int) ∈ jk_WS := jk_wt6 (i := 101) (by decide +kernel) rfl
theorem jw_1302 : Cond.methodLink "LevelingNetworkLaw" 331 ⟨"LevelingNetworkLaw", "part", "(LLevelingNetwork;II[J)I"⟩ ∈ jk_WS := jk_wt6 (i := 102) (by decide +kernel) rfl
theorem jw_1303 : Cond.static ⟨"LevelingNetworkLaw", "part", "(LLevelingNetwork;II[J)I"⟩ ∈ jk_WS := jk_wt6 (i := 103) (by decide +kernel) rfl
theorem jw_1304 : Cond.codeWith ⟨"LevelingNetworkLaw", "part", "(LLevelingNetwork;II[J)I"⟩ method_37_code 5 (Option.some ClassFile.FieldType.int) [(0, 10, 13, 19), (0, 10, 17, 43)] ∈ jk_WS := jk_wt6 (i := 104) (by decide +kernel) rfl
theorem jw_1305 : Cond.methodLink "LevelingNetworkLaw" 127 ⟨"LevelingNetwork", "part", "(II)I"⟩ ∈ jk_WS := jk_wt6 (i := 105) (by decide +kernel) rfl
theorem jw_1306 : Cond.instanceMethod ⟨"LevelingNetwork", "part", "(II)I"⟩ ∈ jk_WS := jk_wt6 (i := 106) (by decide +kernel) rfl
theorem jw_1307 : Cond.selects "LevelingNetwork" ⟨"LevelingNetwork", "part", "(II)I"⟩ ⟨"LevelingNetwork", "part", "(II)I"⟩ ∈ jk_WS := jk_wt6 (i := 107) (by decide +kernel) rfl
theorem jw_1308 : Cond.code ⟨"LevelingNetwork", "part", "(II)I"⟩ prog_1_method_43_code 3 (Option.some ClassFile.FieldType.int) ∈ jk_WS := jk_wt6 (i := 108) (by decide +kernel) rfl
theorem jw_1309 : Cond.methodLink "LevelingNetwork" 279 ⟨"LevelingNetwork$Sharing", "divide", "(LLevelingNetwork$Way;)V"⟩ ∈ jk_WS := jk_wt6 (i := 109) (by decide +kernel) rfl
theorem jw_1310 : Cond.methodLink "LevelingNetworkLaw" 338 ⟨"LevelingNetworkLaw", "stationCount", "(LLevelingNetwork;I[J)I"⟩ ∈ jk_WS := jk_wt6 (i := 110) (by decide +kernel) rfl
theorem jw_1311 : Cond.static ⟨"LevelingNetworkLaw", "stationCount", "(LLevelingNetwork;I[J)I"⟩ ∈ jk_WS := jk_wt6 (i := 111) (by decide +kernel) rfl
theorem jw_1312 : Cond.codeWith ⟨"LevelingNetworkLaw", "stationCount", "(LLevelingNetwork;I[J)I"⟩ method_38_code 4 (Option.some ClassFile.FieldType.int) [(0, 9, 12, 19)] ∈ jk_WS := jk_wt6 (i := 112) (by decide +kernel) rfl
theorem jw_1313 : Cond.methodLink "LevelingNetworkLaw" 130 ⟨"LevelingNetwork", "stationCount", "(I)I"⟩ ∈ jk_WS := jk_wt6 (i := 113) (by decide +kernel) rfl
theorem jw_1314 : Cond.instanceMethod ⟨"LevelingNetwork", "stationCount", "(I)I"⟩ ∈ jk_WS := jk_wt6 (i := 114) (by decide +kernel) rfl
theorem jw_1315 : Cond.selects "LevelingNetwork" ⟨"LevelingNetwork", "stationCount", "(I)I"⟩ ⟨"LevelingNetwork", "stationCount", "(I)I"⟩ ∈ jk_WS := jk_wt6 (i := 115) (by decide +kernel) rfl
theorem jw_1316 : Cond.code ⟨"LevelingNetwork", "stationCount", "(I)I"⟩ prog_1_method_45_code 2 (Option.some ClassFile.FieldType.int) ∈ jk_WS := jk_wt6 (i := 116) (by decide +kernel) rfl
theorem jw_1317 : Cond.methodLink "LevelingNetwork" 289 ⟨"LevelingNetwork", "requireProfile", "(I)V"⟩ ∈ jk_WS := jk_wt6 (i := 117) (by decide +kernel) rfl
theorem jw_1319 : Cond.instanceMethod ⟨"LevelingNetwork", "requireProfile", "(I)V"⟩ ∈ jk_WS := jk_wt6 (i := 119) (by decide +kernel) rfl
theorem jw_1320 : Cond.code ⟨"LevelingNetwork", "requireProfile", "(I)V"⟩ prog_1_method_69_code 2 (Option.none : Option ClassFile.FieldType) ∈ jk_WS := jk_wt6 (i := 120) (by decide +kernel) rfl
theorem jw_1321 : Cond.methodLink "LevelingNetwork" 472 ⟨"LevelingNetwork$Survey", "hasProfile", "(I)Z"⟩ ∈ jk_WS := jk_wt6 (i := 121) (by decide +kernel) rfl
theorem jw_1323 : Cond.methodLink "LevelingNetworkLaw" 345 ⟨"LevelingNetworkLaw", "ground", "(LLevelingNetwork;II[J)I"⟩ ∈ jk_WS := jk_wt6 (i := 123) (by decide +kernel) rfl
theorem jw_1324 : Cond.static ⟨"LevelingNetworkLaw", "ground", "(LLevelingNetwork;II[J)I"⟩ ∈ jk_WS := jk_wt6 (i := 124) (by decide +kernel) rfl
theorem jw_1325 : Cond.codeWith ⟨"LevelingNetworkLaw", "ground", "(LLevelingNetwork;II[J)I"⟩ method_39_code 5 (Option.some ClassFile.FieldType.int) [(0, 10, 13, 19), (0, 10, 17, 21), (0, 10, 21, 43)] ∈ jk_WS := jk_wt6 (i := 125) (by decide +kernel) rfl
theorem jw_1326 : Cond.methodLink "LevelingNetworkLaw" 133 ⟨"LevelingNetwork", "ground", "(II)I"⟩ ∈ jk_WS := jk_wt6 (i := 126) (by decide +kernel) rfl
theorem jw_1327 : Cond.instanceMethod ⟨"LevelingNetwork", "ground", "(II)I"⟩ ∈ jk_WS := jk_wt6 (i := 127) (by decide +kernel) rfl
theorem jw_1328 : Cond.selects "LevelingNetwork" ⟨"LevelingNetwork", "ground", "(II)I"⟩ ⟨"LevelingNetwork", "ground", "(II)I"⟩ ∈ jk_WS := jk_wt6 (i := 128) (by decide +kernel) rfl
theorem jw_1329 : Cond.code ⟨"LevelingNetwork", "ground", "(II)I"⟩ prog_1_method_47_code 3 (Option.some ClassFile.FieldType.int) ∈ jk_WS := jk_wt6 (i := 129) (by decide +kernel) rfl
theorem jw_1330 : Cond.methodLink "LevelingNetwork" 298 ⟨"LevelingNetwork$Bank", "hasColumn", "(II)Z"⟩ ∈ jk_WS := jk_wt6 (i := 130) (by decide +kernel) rfl
theorem jw_1331 : Cond.instanceMethod ⟨"LevelingNetwork$Bank", "hasColumn", "(II)Z"⟩ ∈ jk_WS := jk_wt6 (i := 131) (by decide +kernel) rfl
theorem jw_1332 : Cond.selects "LevelingNetwork$Bank" ⟨"LevelingNetwork$Bank", "hasColumn", "(II)Z"⟩ ⟨"LevelingNetwork$Bank", "hasColumn", "(II)Z"⟩ ∈ jk_WS := jk_wt6 (i := 132) (by decide +kernel) rfl
theorem jw_1333 : Cond.code ⟨"LevelingNetwork$Bank", "hasColumn", "(II)Z"⟩ prog_3_method_2_code 3 (Option.some ClassFile.FieldType.boolean) ∈ jk_WS := jk_wt6 (i := 133) (by decide +kernel) rfl
theorem jw_1334 : Cond.methodLinkNest "LevelingNetwork$Bank" 22 ⟨"LevelingNetwork", "within", "(III)Z"⟩ "LevelingNetwork" ∈ jk_WS := jk_wt6 (i := 134) (by decide +kernel) rfl
theorem jw_1336 : Cond.methodLink "LevelingNetwork" 307 ⟨"LevelingNetwork$Bank", "offsetAt", "(II)I"⟩ ∈ jk_WS := jk_wt6 (i := 136) (by decide +kernel) rfl
theorem jw_1337 : Cond.methodLink "LevelingNetworkLaw" 348 ⟨"LevelingNetworkLaw", "wetColumns", "(LLevelingNetwork;I[J)I"⟩ ∈ jk_WS := jk_wt6 (i := 137) (by decide +kernel) rfl
theorem jw_1338 : Cond.static ⟨"LevelingNetworkLaw", "wetColumns", "(LLevelingNetwork;I[J)I"⟩ ∈ jk_WS := jk_wt6 (i := 138) (by decide +kernel) rfl
theorem jw_1339 : Cond.codeWith ⟨"LevelingNetworkLaw", "wetColumns", "(LLevelingNetwork;I[J)I"⟩ method_40_code 4 (Option.some ClassFile.FieldType.int) [(0, 9, 12, 19), (0, 9, 15, 43)] ∈ jk_WS := jk_wt6 (i := 139) (by decide +kernel) rfl
theorem jw_1340 : Cond.methodLink "LevelingNetworkLaw" 136 ⟨"LevelingNetwork", "wetColumns", "(I)I"⟩ ∈ jk_WS := jk_wt6 (i := 140) (by decide +kernel) rfl
theorem jw_1341 : Cond.instanceMethod ⟨"LevelingNetwork", "wetColumns", "(I)I"⟩ ∈ jk_WS := jk_wt6 (i := 141) (by decide +kernel) rfl
theorem jw_1342 : Cond.selects "LevelingNetwork" ⟨"LevelingNetwork", "wetColumns", "(I)I"⟩ ⟨"LevelingNetwork", "wetColumns", "(I)I"⟩ ∈ jk_WS := jk_wt6 (i := 142) (by decide +kernel) rfl
theorem jw_1343 : Cond.code ⟨"LevelingNetwork", "wetColumns", "(I)I"⟩ prog_1_method_48_code 2 (Option.some ClassFile.FieldType.int) ∈ jk_WS := jk_wt6 (i := 143) (by decide +kernel) rfl
theorem jw_1344 : Cond.methodLink "LevelingNetworkLaw" 351 ⟨"LevelingNetworkLaw", "wetColumnsBySegments", "(LLevelingNetwork;I[J)I"⟩ ∈ jk_WS := jk_wt6 (i := 144) (by decide +kernel) rfl
theorem jw_1345 : Cond.static ⟨"LevelingNetworkLaw", "wetColumnsBySegments", "(LLevelingNetwork;I[J)I"⟩ ∈ jk_WS := jk_wt6 (i := 145) (by decide +kernel) rfl
theorem jw_1346 : Cond.codeWith ⟨"LevelingNetworkLaw", "wetColumnsBySegments", "(LLevelingNetwork;I[J)I"⟩ method_41_code 4 (Option.some ClassFile.FieldType.int) [(0, 9, 12, 19), (0, 9, 15, 43)] ∈ jk_WS := jk_wt6 (i := 146) (by decide +kernel) rfl
theorem jw_1347 : Cond.methodLink "LevelingNetworkLaw" 139 ⟨"LevelingNetwork", "wetColumnsBySegments", "(I)I"⟩ ∈ jk_WS := jk_wt6 (i := 147) (by decide +kernel) rfl
theorem jw_1348 : Cond.instanceMethod ⟨"LevelingNetwork", "wetColumnsBySegments", "(I)I"⟩ ∈ jk_WS := jk_wt6 (i := 148) (by decide +kernel) rfl
theorem jw_1349 : Cond.selects "LevelingNetwork" ⟨"LevelingNetwork", "wetColumnsBySegments", "(I)I"⟩ ⟨"LevelingNetwork", "wetColumnsBySegments", "(I)I"⟩ ∈ jk_WS := jk_wt6 (i := 149) (by decide +kernel) rfl
theorem jw_1350 : Cond.code ⟨"LevelingNetwork", "wetColumnsBySegments", "(I)I"⟩ prog_1_method_49_code 2 (Option.some ClassFile.FieldType.int) ∈ jk_WS := jk_wt6 (i := 150) (by decide +kernel) rfl
theorem jw_1351 : Cond.methodLink "LevelingNetworkLaw" 354 ⟨"LevelingNetworkLaw", "shores", "(LLevelingNetwork;I[J)I"⟩ ∈ jk_WS := jk_wt6 (i := 151) (by decide +kernel) rfl
theorem jw_1352 : Cond.static ⟨"LevelingNetworkLaw", "shores", "(LLevelingNetwork;I[J)I"⟩ ∈ jk_WS := jk_wt6 (i := 152) (by decide +kernel) rfl
theorem jw_1353 : Cond.codeWith ⟨"LevelingNetworkLaw", "shores", "(LLevelingNetwork;I[J)I"⟩ method_42_code 4 (Option.some ClassFile.FieldType.int) [(0, 9, 12, 19), (0, 9, 15, 43)] ∈ jk_WS := jk_wt6 (i := 153) (by decide +kernel) rfl
theorem jw_1354 : Cond.methodLink "LevelingNetworkLaw" 142 ⟨"LevelingNetwork", "shores", "(I)I"⟩ ∈ jk_WS := jk_wt6 (i := 154) (by decide +kernel) rfl
theorem jw_1355 : Cond.instanceMethod ⟨"LevelingNetwork", "shores", "(I)I"⟩ ∈ jk_WS := jk_wt6 (i := 155) (by decide +kernel) rfl
theorem jw_1356 : Cond.selects "LevelingNetwork" ⟨"LevelingNetwork", "shores", "(I)I"⟩ ⟨"LevelingNetwork", "shores", "(I)I"⟩ ∈ jk_WS := jk_wt6 (i := 156) (by decide +kernel) rfl
theorem jw_1357 : Cond.code ⟨"LevelingNetwork", "shores", "(I)I"⟩ prog_1_method_50_code 2 (Option.some ClassFile.FieldType.int) ∈ jk_WS := jk_wt6 (i := 157) (by decide +kernel) rfl
theorem jw_1358 : Cond.methodLink "LevelingNetwork" 320 ⟨"LevelingNetwork$Bank", "shoreLines", "(II)I"⟩ ∈ jk_WS := jk_wt6 (i := 158) (by decide +kernel) rfl
theorem jw_1359 : Cond.instanceMethod ⟨"LevelingNetwork$Bank", "shoreLines", "(II)I"⟩ ∈ jk_WS := jk_wt6 (i := 159) (by decide +kernel) rfl
theorem jw_1360 : Cond.selects "LevelingNetwork$Bank" ⟨"LevelingNetwork$Bank", "shoreLines", "(II)I"⟩ ⟨"LevelingNetwork$Bank", "shoreLines", "(II)I"⟩ ∈ jk_WS := jk_wt6 (i := 160) (by decide +kernel) rfl
theorem jw_1361 : Cond.code ⟨"LevelingNetwork$Bank", "shoreLines", "(II)I"⟩ prog_3_method_7_code 8 (Option.some ClassFile.FieldType.int) ∈ jk_WS := jk_wt6 (i := 161) (by decide +kernel) rfl
theorem jw_1362 : Cond.methodLink "LevelingNetworkLaw" 357 ⟨"LevelingNetworkLaw", "lowestColumn", "(LLevelingNetwork;I[J)I"⟩ ∈ jk_WS := jk_wt6 (i := 162) (by decide +kernel) rfl
theorem jw_1363 : Cond.static ⟨"LevelingNetworkLaw", "lowestColumn", "(LLevelingNetwork;I[J)I"⟩ ∈ jk_WS := jk_wt6 (i := 163) (by decide +kernel) rfl
theorem jw_1364 : Cond.codeWith ⟨"LevelingNetworkLaw", "lowestColumn", "(LLevelingNetwork;I[J)I"⟩ method_43_code 4 (Option.some ClassFile.FieldType.int) [(0, 9, 12, 19), (0, 9, 15, 43)] ∈ jk_WS := jk_wt6 (i := 164) (by decide +kernel) rfl
theorem jw_1365 : Cond.methodLink "LevelingNetworkLaw" 145 ⟨"LevelingNetwork", "lowestColumn", "(I)I"⟩ ∈ jk_WS := jk_wt6 (i := 165) (by decide +kernel) rfl
theorem jw_1366 : Cond.instanceMethod ⟨"LevelingNetwork", "lowestColumn", "(I)I"⟩ ∈ jk_WS := jk_wt6 (i := 166) (by decide +kernel) rfl
theorem jw_1367 : Cond.selects "LevelingNetwork" ⟨"LevelingNetwork", "lowestColumn", "(I)I"⟩ ⟨"LevelingNetwork", "lowestColumn", "(I)I"⟩ ∈ jk_WS := jk_wt6 (i := 167) (by decide +kernel) rfl
theorem jw_1368 : Cond.code ⟨"LevelingNetwork", "lowestColumn", "(I)I"⟩ prog_1_method_51_code 2 (Option.some ClassFile.FieldType.int) ∈ jk_WS := jk_wt6 (i := 168) (by decide +kernel) rfl
theorem jw_1370 : Cond.methodLink "LevelingNetwork" 325 ⟨"LevelingNetwork$Bank", "columnOfLowestOffset", "(I)I"⟩ ∈ jk_WS := jk_wt6 (i := 170) (by decide +kernel) rfl
theorem jw_1371 : Cond.instanceMethod ⟨"LevelingNetwork$Bank", "columnOfLowestOffset", "(I)I"⟩ ∈ jk_WS := jk_wt6 (i := 171) (by decide +kernel) rfl
theorem jw_1372 : Cond.selects "LevelingNetwork$Bank" ⟨"LevelingNetwork$Bank", "columnOfLowestOffset", "(I)I"⟩ ⟨"LevelingNetwork$Bank", "columnOfLowestOffset", "(I)I"⟩ ∈ jk_WS := jk_wt6 (i := 172) (by decide +kernel) rfl
theorem jw_1373 : Cond.code ⟨"LevelingNetwork$Bank", "columnOfLowestOffset", "(I)I"⟩ prog_3_method_8_code 5 (Option.some ClassFile.FieldType.int) ∈ jk_WS := jk_wt6 (i := 173) (by decide +kernel) rfl
theorem jw_1374 : Cond.methodLink "LevelingNetworkLaw" 360 ⟨"LevelingNetworkLaw", "meanLength", "(LLevelingNetwork;[D)I"⟩ ∈ jk_WS := jk_wt6 (i := 174) (by decide +kernel) rfl
theorem jw_1375 : Cond.static ⟨"LevelingNetworkLaw", "meanLength", "(LLevelingNetwork;[D)I"⟩ ∈ jk_WS := jk_wt6 (i := 175) (by decide +kernel) rfl
theorem jw_1376 : Cond.codeWith ⟨"LevelingNetworkLaw", "meanLength", "(LLevelingNetwork;[D)I"⟩ method_44_code 3 (Option.some ClassFile.FieldType.int) [(0, 7, 10, 152)] ∈ jk_WS := jk_wt6 (i := 176) (by decide +kernel) rfl
theorem jw_1377 : Cond.classLink "LevelingNetworkLaw" 152 "java/lang/ArithmeticException" ∈ jk_WS := jk_wt6 (i := 177) (by decide +kernel) rfl
theorem jw_1378 : Cond.instantiable "java/lang/ArithmeticException" 6 ∈ jk_WS := jk_wt6 (i := 178) (by decide +kernel) rfl
theorem jw_1379 : Cond.instanceMethod ⟨"java/lang/ArithmeticException", "<init>", "(Ljava/lang/String;)V"⟩ ∈ jk_WS := jk_wt6 (i := 179) (by decide +kernel) rfl
theorem jw_1380 : Cond.code ⟨"java/lang/ArithmeticException", "<init>", "(Ljava/lang/String;)V"⟩ prog_19_method_2_code 2 (Option.none : Option ClassFile.FieldType) ∈ jk_WS := jk_wt6 (i := 180) (by decide +kernel) rfl
theorem jw_1381 : Cond.methodLink "java/lang/ArithmeticException" 7 ⟨"java/lang/RuntimeException", "<init>", "(Ljava/lang/String;)V"⟩ ∈ jk_WS := jk_wt6 (i := 181) (by decide +kernel) rfl
theorem jw_1382 : Cond.lays "java/lang/ArithmeticException" "java/lang/Throwable" "backtrace" "Ljava/lang/Object;" ∈ jk_WS := jk_wt6 (i := 182) (by decide +kernel) rfl
theorem jw_1383 : Cond.lays "java/lang/ArithmeticException" "java/lang/Throwable" "detailMessage" "Ljava/lang/String;" ∈ jk_WS := jk_wt6 (i := 183) (by decide +kernel) rfl
theorem jw_1384 : Cond.lays "java/lang/ArithmeticException" "java/lang/Throwable" "cause" "Ljava/lang/Throwable;" ∈ jk_WS := jk_wt6 (i := 184) (by decide +kernel) rfl
theorem jw_1385 : Cond.lays "java/lang/ArithmeticException" "java/lang/Throwable" "stackTrace" "[Ljava/lang/StackTraceElement;" ∈ jk_WS := jk_wt6 (i := 185) (by decide +kernel) rfl
theorem jw_1386 : Cond.lays "java/lang/ArithmeticException" "java/lang/Throwable" "depth" "I" ∈ jk_WS := jk_wt6 (i := 186) (by decide +kernel) rfl
theorem jw_1387 : Cond.lays "java/lang/ArithmeticException" "java/lang/Throwable" "suppressedExceptions" "Ljava/util/List;" ∈ jk_WS := jk_wt6 (i := 187) (by decide +kernel) rfl
theorem jw_1388 : Cond.superclass "java/lang/ArithmeticException" "java/lang/RuntimeException" ∈ jk_WS := jk_wt6 (i := 188) (by decide +kernel) rfl
theorem jw_1389 : Cond.castable "java/lang/ArithmeticException" "java/lang/ArithmeticException" ∈ jk_WS := jk_wt6 (i := 189) (by decide +kernel) rfl
theorem jw_1390 : Cond.selects "java/lang/ArithmeticException" ⟨"java/lang/Throwable", "fillInStackTrace", "(I)Ljava/lang/Throwable;"⟩ ⟨"java/lang/Throwable", "fillInStackTrace", "(I)Ljava/lang/Throwable;"⟩ ∈ jk_WS := jk_wt6 (i := 190) (by decide +kernel) rfl
theorem jw_1391 : Cond.methodLink "LevelingNetworkLaw" 148 ⟨"LevelingNetwork", "meanLength", "()D"⟩ ∈ jk_WS := jk_wt6 (i := 191) (by decide +kernel) rfl
theorem jw_1392 : Cond.instanceMethod ⟨"LevelingNetwork", "meanLength", "()D"⟩ ∈ jk_WS := jk_wt6 (i := 192) (by decide +kernel) rfl
theorem jw_1393 : Cond.selects "LevelingNetwork" ⟨"LevelingNetwork", "meanLength", "()D"⟩ ⟨"LevelingNetwork", "meanLength", "()D"⟩ ∈ jk_WS := jk_wt6 (i := 193) (by decide +kernel) rfl
theorem jw_1394 : Cond.code ⟨"LevelingNetwork", "meanLength", "()D"⟩ prog_1_method_52_code 2 (Option.some ClassFile.FieldType.double) ∈ jk_WS := jk_wt6 (i := 194) (by decide +kernel) rfl
theorem jw_1395 : Cond.classLink "LevelingNetwork" 331 "java/lang/ArithmeticException" ∈ jk_WS := jk_wt6 (i := 195) (by decide +kernel) rfl
theorem jw_1397 : Cond.methodLink "LevelingNetwork" 335 ⟨"java/lang/ArithmeticException", "<init>", "(Ljava/lang/String;)V"⟩ ∈ jk_WS := jk_wt6 (i := 197) (by decide +kernel) rfl
theorem jw_1398 : Cond.methodLink "LevelingNetwork" 336 ⟨"LevelingNetwork$Survey", "usableLength", "()I"⟩ ∈ jk_WS := jk_wt6 (i := 198) (by decide +kernel) rfl
theorem jw_1399 : Cond.instanceMethod ⟨"LevelingNetwork$Survey", "usableLength", "()I"⟩ ∈ jk_WS := jk_wt6 (i := 199) (by decide +kernel) rfl
theorem jw_1400 : Cond.selects "LevelingNetwork$Survey" ⟨"LevelingNetwork$Survey", "usableLength", "()I"⟩ ⟨"LevelingNetwork$Survey", "usableLength", "()I"⟩ ∈ jk_WS := jk_wt6 (i := 200) (by decide +kernel) rfl
theorem jw_1401 : Cond.code ⟨"LevelingNetwork$Survey", "usableLength", "()I"⟩ prog_11_method_15_code 3 (Option.some ClassFile.FieldType.int) ∈ jk_WS := jk_wt6 (i := 201) (by decide +kernel) rfl
theorem jw_1402 : Cond.methodLink "LevelingNetworkLaw" 364 ⟨"LevelingNetworkLaw", "usableShare", "(LLevelingNetwork;[D)I"⟩ ∈ jk_WS := jk_wt6 (i := 202) (by decide +kernel) rfl
theorem jw_1403 : Cond.static ⟨"LevelingNetworkLaw", "usableShare", "(LLevelingNetwork;[D)I"⟩ ∈ jk_WS := jk_wt6 (i := 203) (by decide +kernel) rfl
theorem jw_1404 : Cond.codeWith ⟨"LevelingNetworkLaw", "usableShare", "(LLevelingNetwork;[D)I"⟩ method_45_code 3 (Option.some ClassFile.FieldType.int) [(0, 8, 11, 152)] ∈ jk_WS := jk_wt6 (i := 204) (by decide +kernel) rfl
theorem jw_1405 : Cond.methodLink "LevelingNetworkLaw" 154 ⟨"LevelingNetwork", "usableShare", "()F"⟩ ∈ jk_WS := jk_wt6 (i := 205) (by decide +kernel) rfl
theorem jw_1406 : Cond.instanceMethod ⟨"LevelingNetwork", "usableShare", "()F"⟩ ∈ jk_WS := jk_wt6 (i := 206) (by decide +kernel) rfl
theorem jw_1407 : Cond.selects "LevelingNetwork" ⟨"LevelingNetwork", "usableShare", "()F"⟩ ⟨"LevelingNetwork", "usableShare", "()F"⟩ ∈ jk_WS := jk_wt6 (i := 207) (by decide +kernel) rfl
theorem jw_1408 : Cond.code ⟨"LevelingNetwork", "usableShare", "()F"⟩ prog_1_method_53_code 1 (Option.some ClassFile.FieldType.float) ∈ jk_WS := jk_wt6 (i := 208) (by decide +kernel) rfl
theorem jw_1410 : Cond.methodLink "LevelingNetworkLaw" 372 ⟨"LevelingNetworkLaw", "renderLine", "(LLevelingNetwork;I[J)I"⟩ ∈ jk_WS := jk_wt6 (i := 210) (by decide +kernel) rfl
theorem jw_1411 : Cond.static ⟨"LevelingNetworkLaw", "renderLine", "(LLevelingNetwork;I[J)I"⟩ ∈ jk_WS := jk_wt6 (i := 211) (by decide +kernel) rfl
theorem jw_1412 : Cond.codeWith ⟨"LevelingNetworkLaw", "renderLine", "(LLevelingNetwork;I[J)I"⟩ method_46_code 4 (Option.some ClassFile.FieldType.int) [(0, 9, 12, 19)] ∈ jk_WS := jk_wt6 (i := 212) (by decide +kernel) rfl
theorem jw_1413 : Cond.methodLink "LevelingNetworkLaw" 158 ⟨"LevelingNetwork", "renderLine", "(I)I"⟩ ∈ jk_WS := jk_wt6 (i := 213) (by decide +kernel) rfl
theorem jw_1414 : Cond.instanceMethod ⟨"LevelingNetwork", "renderLine", "(I)I"⟩ ∈ jk_WS := jk_wt6 (i := 214) (by decide +kernel) rfl
theorem jw_1415 : Cond.selects "LevelingNetwork" ⟨"LevelingNetwork", "renderLine", "(I)I"⟩ ⟨"LevelingNetwork", "renderLine", "(I)I"⟩ ∈ jk_WS := jk_wt6 (i := 215) (by decide +kernel) rfl
theorem jw_1416 : Cond.code ⟨"LevelingNetwork", "renderLine", "(I)I"⟩ prog_1_method_55_code 2 (Option.some ClassFile.FieldType.int) ∈ jk_WS := jk_wt6 (i := 216) (by decide +kernel) rfl
theorem jw_1417 : Cond.methodLink "LevelingNetwork" 351 ⟨"java/lang/StringBuilder", "setLength", "(I)V"⟩ ∈ jk_WS := jk_wt6 (i := 217) (by decide +kernel) rfl
theorem jw_1418 : Cond.instanceMethod ⟨"java/lang/StringBuilder", "setLength", "(I)V"⟩ ∈ jk_WS := jk_wt6 (i := 218) (by decide +kernel) rfl
theorem jw_1419 : Cond.selects "java/lang/StringBuilder" ⟨"java/lang/StringBuilder", "setLength", "(I)V"⟩ ⟨"java/lang/StringBuilder", "setLength", "(I)V"⟩ ∈ jk_WS := jk_wt6 (i := 219) (by decide +kernel) rfl
theorem jw_1420 : Cond.code ⟨"java/lang/StringBuilder", "setLength", "(I)V"⟩ prog_34_method_89_code 2 (Option.none : Option ClassFile.FieldType) ∈ jk_WS := jk_wt6 (i := 220) (by decide +kernel) rfl
theorem jw_1421 : Cond.methodLink "java/lang/StringBuilder" 333 ⟨"java/lang/AbstractStringBuilder", "setLength", "(I)V"⟩ ∈ jk_WS := jk_wt6 (i := 221) (by decide +kernel) rfl
theorem jw_1422 : Cond.instanceMethod ⟨"java/lang/AbstractStringBuilder", "setLength", "(I)V"⟩ ∈ jk_WS := jk_wt6 (i := 222) (by decide +kernel) rfl
theorem jw_1423 : Cond.code ⟨"java/lang/AbstractStringBuilder", "setLength", "(I)V"⟩ prog_17_method_13_code 2 (Option.none : Option ClassFile.FieldType) ∈ jk_WS := jk_wt6 (i := 223) (by decide +kernel) rfl
theorem jw_1424 : Cond.classLink "java/lang/AbstractStringBuilder" 129 "java/lang/StringIndexOutOfBoundsException" ∈ jk_WS := jk_wt6 (i := 224) (by decide +kernel) rfl
theorem jw_1425 : Cond.instantiable "java/lang/StringIndexOutOfBoundsException" 6 ∈ jk_WS := jk_wt6 (i := 225) (by decide +kernel) rfl
theorem jw_1426 : Cond.methodLink "java/lang/AbstractStringBuilder" 131 ⟨"java/lang/StringIndexOutOfBoundsException", "<init>", "(I)V"⟩ ∈ jk_WS := jk_wt6 (i := 226) (by decide +kernel) rfl
theorem jw_1427 : Cond.instanceMethod ⟨"java/lang/StringIndexOutOfBoundsException", "<init>", "(I)V"⟩ ∈ jk_WS := jk_wt6 (i := 227) (by decide +kernel) rfl
theorem jw_1428 : Cond.code ⟨"java/lang/StringIndexOutOfBoundsException", "<init>", "(I)V"⟩ prog_35_method_3_code 2 (Option.none : Option ClassFile.FieldType) ∈ jk_WS := jk_wt6 (i := 228) (by decide +kernel) rfl
theorem jw_1429 : Cond.classLink "java/lang/StringIndexOutOfBoundsException" 10 "java/lang/StringBuilder" ∈ jk_WS := jk_wt6 (i := 229) (by decide +kernel) rfl
theorem jw_1430 : Cond.methodLink "java/lang/StringIndexOutOfBoundsException" 12 ⟨"java/lang/StringBuilder", "<init>", "()V"⟩ ∈ jk_WS := jk_wt6 (i := 230) (by decide +kernel) rfl
theorem jw_1432 : Cond.methodLink "java/lang/StringIndexOutOfBoundsException" 15 ⟨"java/lang/StringBuilder", "append", "(Ljava/lang/String;)Ljava/lang/StringBuilder;"⟩ ∈ jk_WS := jk_wt6 (i := 232) (by decide +kernel) rfl
theorem jw_1433 : Cond.instanceMethod ⟨"java/lang/StringBuilder", "append", "(Ljava/lang/String;)Ljava/lang/StringBuilder;"⟩ ∈ jk_WS := jk_wt6 (i := 233) (by decide +kernel) rfl
theorem jw_1434 : Cond.selects "java/lang/StringBuilder" ⟨"java/lang/StringBuilder", "append", "(Ljava/lang/String;)Ljava/lang/StringBuilder;"⟩ ⟨"java/lang/StringBuilder", "append", "(Ljava/lang/String;)Ljava/lang/StringBuilder;"⟩ ∈ jk_WS := jk_wt6 (i := 234) (by decide +kernel) rfl
theorem jw_1435 : Cond.code ⟨"java/lang/StringBuilder", "append", "(Ljava/lang/String;)Ljava/lang/StringBuilder;"⟩ prog_34_method_7_code 2 (Option.some (ClassFile.FieldType.object "java/lang/StringBuilder")) ∈ jk_WS := jk_wt6 (i := 235) (by decide +kernel) rfl
theorem jw_1436 : Cond.methodLink "java/lang/StringBuilder" 29 ⟨"java/lang/AbstractStringBuilder", "append", "(Ljava/lang/String;)Ljava/lang/AbstractStringBuilder;"⟩ ∈ jk_WS := jk_wt6 (i := 236) (by decide +kernel) rfl
theorem jw_1437 : Cond.instanceMethod ⟨"java/lang/AbstractStringBuilder", "append", "(Ljava/lang/String;)Ljava/lang/AbstractStringBuilder;"⟩ ∈ jk_WS := jk_wt6 (i := 237) (by decide +kernel) rfl
theorem jw_1438 : Cond.code ⟨"java/lang/AbstractStringBuilder", "append", "(Ljava/lang/String;)Ljava/lang/AbstractStringBuilder;"⟩ prog_17_method_22_code 3 (Option.some (ClassFile.FieldType.object "java/lang/AbstractStringBuilder")) ∈ jk_WS := jk_wt6 (i := 238) (by decide +kernel) rfl
theorem jw_1439 : Cond.methodLink "java/lang/AbstractStringBuilder" 204 ⟨"java/lang/AbstractStringBuilder", "appendNull", "()Ljava/lang/AbstractStringBuilder;"⟩ ∈ jk_WS := jk_wt6 (i := 239) (by decide +kernel) rfl
theorem jw_1441 : Cond.instanceMethod ⟨"java/lang/AbstractStringBuilder", "appendNull", "()Ljava/lang/AbstractStringBuilder;"⟩ ∈ jk_WS := jk_wt7 (i := 1) (by decide +kernel) rfl
theorem jw_1442 : Cond.code ⟨"java/lang/AbstractStringBuilder", "appendNull", "()Ljava/lang/AbstractStringBuilder;"⟩ prog_17_method_26_code 3 (Option.some (ClassFile.FieldType.object "java/lang/AbstractStringBuilder")) ∈ jk_WS := jk_wt7 (i := 2) (by decide +kernel) rfl
theorem jw_1443 : Cond.methodLink "java/lang/AbstractStringBuilder" 100 ⟨"java/lang/AbstractStringBuilder", "ensureCapacityInternal", "(I)V"⟩ ∈ jk_WS := jk_wt7 (i := 3) (by decide +kernel) rfl
theorem jw_1445 : Cond.instanceMethod ⟨"java/lang/AbstractStringBuilder", "ensureCapacityInternal", "(I)V"⟩ ∈ jk_WS := jk_wt7 (i := 5) (by decide +kernel) rfl
theorem jw_1446 : Cond.code ⟨"java/lang/AbstractStringBuilder", "ensureCapacityInternal", "(I)V"⟩ prog_17_method_9_code 3 (Option.none : Option ClassFile.FieldType) ∈ jk_WS := jk_wt7 (i := 6) (by decide +kernel) rfl
theorem jw_1447 : Cond.methodLink "java/lang/AbstractStringBuilder" 104 ⟨"java/lang/AbstractStringBuilder", "newCapacity", "(I)I"⟩ ∈ jk_WS := jk_wt7 (i := 7) (by decide +kernel) rfl
theorem jw_1449 : Cond.instanceMethod ⟨"java/lang/AbstractStringBuilder", "newCapacity", "(I)I"⟩ ∈ jk_WS := jk_wt7 (i := 9) (by decide +kernel) rfl
theorem jw_1450 : Cond.code ⟨"java/lang/AbstractStringBuilder", "newCapacity", "(I)I"⟩ prog_17_method_10_code 6 (Option.some ClassFile.FieldType.int) ∈ jk_WS := jk_wt7 (i := 10) (by decide +kernel) rfl
theorem jw_1451 : Cond.methodLink "java/lang/AbstractStringBuilder" 114 ⟨"jdk/internal/util/ArraysSupport", "newLength", "(III)I"⟩ ∈ jk_WS := jk_wt7 (i := 11) (by decide +kernel) rfl
theorem jw_1452 : Cond.static ⟨"jdk/internal/util/ArraysSupport", "newLength", "(III)I"⟩ ∈ jk_WS := jk_wt7 (i := 12) (by decide +kernel) rfl
theorem jw_1453 : Cond.code ⟨"jdk/internal/util/ArraysSupport", "newLength", "(III)I"⟩ prog_45_method_27_code 4 (Option.some ClassFile.FieldType.int) ∈ jk_WS := jk_wt7 (i := 13) (by decide +kernel) rfl
theorem jw_1454 : Cond.methodLink "jdk/internal/util/ArraysSupport" 194 ⟨"java/lang/Math", "max", "(II)I"⟩ ∈ jk_WS := jk_wt7 (i := 14) (by decide +kernel) rfl
theorem jw_1455 : Cond.constant "jdk/internal/util/ArraysSupport" 200 (2147483639 : Int32) ∈ jk_WS := jk_wt7 (i := 15) (by decide +kernel) rfl
theorem jw_1456 : Cond.methodLink "jdk/internal/util/ArraysSupport" 201 ⟨"jdk/internal/util/ArraysSupport", "hugeLength", "(II)I"⟩ ∈ jk_WS := jk_wt7 (i := 16) (by decide +kernel) rfl
theorem jw_1457 : Cond.static ⟨"jdk/internal/util/ArraysSupport", "hugeLength", "(II)I"⟩ ∈ jk_WS := jk_wt7 (i := 17) (by decide +kernel) rfl
theorem jw_1458 : Cond.code ⟨"jdk/internal/util/ArraysSupport", "hugeLength", "(II)I"⟩ prog_45_method_28_code 3 (Option.some ClassFile.FieldType.int) ∈ jk_WS := jk_wt7 (i := 18) (by decide +kernel) rfl
theorem jw_1459 : Cond.constant "java/lang/AbstractStringBuilder" 39 (2147483647 : Int32) ∈ jk_WS := jk_wt7 (i := 19) (by decide +kernel) rfl
theorem jw_1460 : Cond.methodLink "java/lang/AbstractStringBuilder" 108 ⟨"java/util/Arrays", "copyOf", "([BI)[B"⟩ ∈ jk_WS := jk_wt7 (i := 20) (by decide +kernel) rfl
theorem jw_1461 : Cond.static ⟨"java/util/Arrays", "copyOf", "([BI)[B"⟩ ∈ jk_WS := jk_wt7 (i := 21) (by decide +kernel) rfl
theorem jw_1462 : Cond.code ⟨"java/util/Arrays", "copyOf", "([BI)[B"⟩ prog_43_method_121_code 3 (Option.some (ClassFile.FieldType.array ClassFile.FieldType.byte)) ∈ jk_WS := jk_wt7 (i := 22) (by decide +kernel) rfl
theorem jw_1463 : Cond.methodLink "java/util/Arrays" 310 ⟨"[B", "clone", "()Ljava/lang/Object;"⟩ ∈ jk_WS := jk_wt7 (i := 23) (by decide +kernel) rfl
theorem jw_1464 : Cond.sameMethod "[B" "java/lang/Object" "clone" "()Ljava/lang/Object;" ∈ jk_WS := jk_wt7 (i := 24) (by decide +kernel) rfl
theorem jw_1465 : Cond.native ⟨"java/lang/Object", "clone", "()Ljava/lang/Object;"⟩ ∈ jk_WS := jk_wt7 (i := 25) (by decide +kernel) rfl
theorem jw_1466 : Cond.instanceMethod ⟨"java/lang/Object", "clone", "()Ljava/lang/Object;"⟩ ∈ jk_WS := jk_wt7 (i := 26) (by decide +kernel) rfl
theorem jw_1467 : Cond.selects "[B" ⟨"[B", "clone", "()Ljava/lang/Object;"⟩ ⟨"java/lang/Object", "clone", "()Ljava/lang/Object;"⟩ ∈ jk_WS := jk_wt7 (i := 27) (by decide +kernel) rfl
theorem jw_1468 : Cond.castable "[B" "java/lang/Cloneable" ∈ jk_WS := jk_wt7 (i := 28) (by decide +kernel) rfl
theorem jw_1469 : Cond.classLink "java/util/Arrays" 311 "[B" ∈ jk_WS := jk_wt7 (i := 29) (by decide +kernel) rfl
theorem jw_1470 : Cond.methodLink "java/util/Arrays" 304 ⟨"java/lang/Math", "min", "(II)I"⟩ ∈ jk_WS := jk_wt7 (i := 30) (by decide +kernel) rfl
theorem jw_1471 : Cond.methodLink "java/util/Arrays" 150 ⟨"java/lang/System", "arraycopy", "(Ljava/lang/Object;ILjava/lang/Object;II)V"⟩ ∈ jk_WS := jk_wt7 (i := 31) (by decide +kernel) rfl
theorem jw_1472 : Cond.static ⟨"java/lang/System", "arraycopy", "(Ljava/lang/Object;ILjava/lang/Object;II)V"⟩ ∈ jk_WS := jk_wt7 (i := 32) (by decide +kernel) rfl
theorem jw_1473 : Cond.native ⟨"java/lang/System", "arraycopy", "(Ljava/lang/Object;ILjava/lang/Object;II)V"⟩ ∈ jk_WS := jk_wt7 (i := 33) (by decide +kernel) rfl
theorem jw_1474 : Cond.methodLink "java/lang/AbstractStringBuilder" 83 ⟨"java/lang/AbstractStringBuilder", "isLatin1", "()Z"⟩ ∈ jk_WS := jk_wt7 (i := 34) (by decide +kernel) rfl
theorem jw_1475 : Cond.instanceMethod ⟨"java/lang/AbstractStringBuilder", "isLatin1", "()Z"⟩ ∈ jk_WS := jk_wt7 (i := 35) (by decide +kernel) rfl
theorem jw_1476 : Cond.sameMethod "java/lang/AbstractStringBuilder" "java/lang/AbstractStringBuilder" "isLatin1" "()Z" ∈ jk_WS := jk_wt7 (i := 36) (by decide +kernel) rfl
theorem jw_1477 : Cond.selects "java/lang/StringBuilder" ⟨"java/lang/AbstractStringBuilder", "isLatin1", "()Z"⟩ ⟨"java/lang/AbstractStringBuilder", "isLatin1", "()Z"⟩ ∈ jk_WS := jk_wt7 (i := 37) (by decide +kernel) rfl
theorem jw_1478 : Cond.code ⟨"java/lang/AbstractStringBuilder", "isLatin1", "()Z"⟩ prog_17_method_68_code 1 (Option.some ClassFile.FieldType.boolean) ∈ jk_WS := jk_wt7 (i := 38) (by decide +kernel) rfl
theorem jw_1479 : Cond.methodLink "java/lang/AbstractStringBuilder" 226 ⟨"java/lang/StringUTF16", "putCharsAt", "([BICCCC)I"⟩ ∈ jk_WS := jk_wt7 (i := 39) (by decide +kernel) rfl
theorem jw_1480 : Cond.static ⟨"java/lang/StringUTF16", "putCharsAt", "([BICCCC)I"⟩ ∈ jk_WS := jk_wt7 (i := 40) (by decide +kernel) rfl
theorem jw_1481 : Cond.code ⟨"java/lang/StringUTF16", "putCharsAt", "([BICCCC)I"⟩ prog_37_method_81_code 7 (Option.some ClassFile.FieldType.int) ∈ jk_WS := jk_wt7 (i := 41) (by decide +kernel) rfl
theorem jw_1482 : Cond.methodLink "java/lang/StringUTF16" 96 ⟨"java/lang/StringUTF16", "checkBoundsBeginEnd", "(II[B)V"⟩ ∈ jk_WS := jk_wt7 (i := 42) (by decide +kernel) rfl
theorem jw_1483 : Cond.static ⟨"java/lang/StringUTF16", "checkBoundsBeginEnd", "(II[B)V"⟩ ∈ jk_WS := jk_wt7 (i := 43) (by decide +kernel) rfl
theorem jw_1484 : Cond.code ⟨"java/lang/StringUTF16", "checkBoundsBeginEnd", "(II[B)V"⟩ prog_37_method_93_code 3 (Option.none : Option ClassFile.FieldType) ∈ jk_WS := jk_wt7 (i := 44) (by decide +kernel) rfl
theorem jw_1485 : Cond.methodLink "java/lang/StringUTF16" 48 ⟨"java/lang/StringUTF16", "length", "([B)I"⟩ ∈ jk_WS := jk_wt7 (i := 45) (by decide +kernel) rfl
theorem jw_1486 : Cond.static ⟨"java/lang/StringUTF16", "length", "([B)I"⟩ ∈ jk_WS := jk_wt7 (i := 46) (by decide +kernel) rfl
theorem jw_1487 : Cond.code ⟨"java/lang/StringUTF16", "length", "([B)I"⟩ prog_37_method_6_code 1 (Option.some ClassFile.FieldType.int) ∈ jk_WS := jk_wt7 (i := 47) (by decide +kernel) rfl
theorem jw_1488 : Cond.methodLink "java/lang/StringUTF16" 241 ⟨"java/lang/String", "checkBoundsBeginEnd", "(III)V"⟩ ∈ jk_WS := jk_wt7 (i := 48) (by decide +kernel) rfl
theorem jw_1489 : Cond.static ⟨"java/lang/String", "checkBoundsBeginEnd", "(III)V"⟩ ∈ jk_WS := jk_wt7 (i := 49) (by decide +kernel) rfl
theorem jw_1490 : Cond.code ⟨"java/lang/String", "checkBoundsBeginEnd", "(III)V"⟩ prog_33_method_158_code 3 (Option.none : Option ClassFile.FieldType) ∈ jk_WS := jk_wt7 (i := 50) (by decide +kernel) rfl
theorem jw_1491 : Cond.fieldLink "java/lang/String" 1053 "jdk/internal/util/Preconditions" "SIOOBE_FORMATTER" "Ljava/util/function/BiFunction;" ∈ jk_WS := jk_wt7 (i := 51) (by decide +kernel) rfl
theorem jw_1493 : Cond.methodLink "java/lang/String" 1062 ⟨"jdk/internal/util/Preconditions", "checkFromToIndex", "(IIILjava/util/function/BiFunction;)I"⟩ ∈ jk_WS := jk_wt7 (i := 53) (by decide +kernel) rfl
theorem jw_1494 : Cond.static ⟨"jdk/internal/util/Preconditions", "checkFromToIndex", "(IIILjava/util/function/BiFunction;)I"⟩ ∈ jk_WS := jk_wt7 (i := 54) (by decide +kernel) rfl
theorem jw_1495 : Cond.code ⟨"jdk/internal/util/Preconditions", "checkFromToIndex", "(IIILjava/util/function/BiFunction;)I"⟩ prog_46_method_12_code 4 (Option.some ClassFile.FieldType.int) ∈ jk_WS := jk_wt7 (i := 55) (by decide +kernel) rfl
theorem jw_1496 : Cond.methodLink "java/lang/StringUTF16" 111 ⟨"java/lang/StringUTF16", "putChar", "([BII)V"⟩ ∈ jk_WS := jk_wt7 (i := 56) (by decide +kernel) rfl
theorem jw_1497 : Cond.static ⟨"java/lang/StringUTF16", "putChar", "([BII)V"⟩ ∈ jk_WS := jk_wt7 (i := 57) (by decide +kernel) rfl
theorem jw_1498 : Cond.code ⟨"java/lang/StringUTF16", "putChar", "([BII)V"⟩ prog_37_method_4_code 3 (Option.none : Option ClassFile.FieldType) ∈ jk_WS := jk_wt7 (i := 58) (by decide +kernel) rfl
theorem jw_1499 : Cond.fieldLink "java/lang/StringUTF16" 44 "java/lang/StringUTF16" "$assertionsDisabled" "Z" ∈ jk_WS := jk_wt7 (i := 59) (by decide +kernel) rfl
theorem jw_1501 : Cond.fieldLink "java/lang/StringUTF16" 59 "java/lang/StringUTF16" "HI_BYTE_SHIFT" "I" ∈ jk_WS := jk_wt7 (i := 61) (by decide +kernel) rfl
theorem jw_1503 : Cond.fieldLink "java/lang/StringUTF16" 63 "java/lang/StringUTF16" "LO_BYTE_SHIFT" "I" ∈ jk_WS := jk_wt7 (i := 63) (by decide +kernel) rfl
theorem jw_1505 : Cond.methodLink "java/lang/AbstractStringBuilder" 32 ⟨"java/lang/String", "length", "()I"⟩ ∈ jk_WS := jk_wt7 (i := 65) (by decide +kernel) rfl
theorem jw_1506 : Cond.instanceMethod ⟨"java/lang/String", "length", "()I"⟩ ∈ jk_WS := jk_wt7 (i := 66) (by decide +kernel) rfl
theorem jw_1507 : Cond.selects "java/lang/String" ⟨"java/lang/String", "length", "()I"⟩ ⟨"java/lang/String", "length", "()I"⟩ ∈ jk_WS := jk_wt7 (i := 67) (by decide +kernel) rfl
theorem jw_1508 : Cond.code ⟨"java/lang/String", "length", "()I"⟩ prog_33_method_54_code 1 (Option.some ClassFile.FieldType.int) ∈ jk_WS := jk_wt7 (i := 68) (by decide +kernel) rfl
theorem jw_1509 : Cond.methodLink "java/lang/String" 335 ⟨"java/lang/String", "coder", "()B"⟩ ∈ jk_WS := jk_wt7 (i := 69) (by decide +kernel) rfl
theorem jw_1510 : Cond.instanceMethod ⟨"java/lang/String", "coder", "()B"⟩ ∈ jk_WS := jk_wt7 (i := 70) (by decide +kernel) rfl
theorem jw_1511 : Cond.selects "java/lang/String" ⟨"java/lang/String", "coder", "()B"⟩ ⟨"java/lang/String", "coder", "()B"⟩ ∈ jk_WS := jk_wt7 (i := 71) (by decide +kernel) rfl
theorem jw_1512 : Cond.code ⟨"java/lang/String", "coder", "()B"⟩ prog_33_method_152_code 1 (Option.some ClassFile.FieldType.byte) ∈ jk_WS := jk_wt7 (i := 72) (by decide +kernel) rfl
theorem jw_1513 : Cond.fieldLink "java/lang/String" 38 "java/lang/String" "COMPACT_STRINGS" "Z" ∈ jk_WS := jk_wt7 (i := 73) (by decide +kernel) rfl
theorem jw_1514 : Cond.methodLink "java/lang/AbstractStringBuilder" 208 ⟨"java/lang/AbstractStringBuilder", "putStringAt", "(ILjava/lang/String;)V"⟩ ∈ jk_WS := jk_wt7 (i := 74) (by decide +kernel) rfl
theorem jw_1516 : Cond.instanceMethod ⟨"java/lang/AbstractStringBuilder", "putStringAt", "(ILjava/lang/String;)V"⟩ ∈ jk_WS := jk_wt7 (i := 76) (by decide +kernel) rfl
theorem jw_1517 : Cond.code ⟨"java/lang/AbstractStringBuilder", "putStringAt", "(ILjava/lang/String;)V"⟩ prog_17_method_73_code 3 (Option.none : Option ClassFile.FieldType) ∈ jk_WS := jk_wt7 (i := 77) (by decide +kernel) rfl
theorem jw_1518 : Cond.methodLink "java/lang/AbstractStringBuilder" 397 ⟨"java/lang/AbstractStringBuilder", "inflateIfNeededFor", "(Ljava/lang/String;)V"⟩ ∈ jk_WS := jk_wt7 (i := 78) (by decide +kernel) rfl
theorem jw_1520 : Cond.instanceMethod ⟨"java/lang/AbstractStringBuilder", "inflateIfNeededFor", "(Ljava/lang/String;)V"⟩ ∈ jk_WS := jk_wt7 (i := 80) (by decide +kernel) rfl
theorem jw_1521 : Cond.code ⟨"java/lang/AbstractStringBuilder", "inflateIfNeededFor", "(Ljava/lang/String;)V"⟩ prog_17_method_71_code 2 (Option.none : Option ClassFile.FieldType) ∈ jk_WS := jk_wt7 (i := 81) (by decide +kernel) rfl
theorem jw_1522 : Cond.methodLink "java/lang/AbstractStringBuilder" 40 ⟨"java/lang/String", "coder", "()B"⟩ ∈ jk_WS := jk_wt7 (i := 82) (by decide +kernel) rfl
theorem jw_1523 : Cond.methodLink "java/lang/AbstractStringBuilder" 195 ⟨"java/lang/AbstractStringBuilder", "inflate", "()V"⟩ ∈ jk_WS := jk_wt7 (i := 83) (by decide +kernel) rfl
theorem jw_1525 : Cond.instanceMethod ⟨"java/lang/AbstractStringBuilder", "inflate", "()V"⟩ ∈ jk_WS := jk_wt7 (i := 85) (by decide +kernel) rfl
theorem jw_1526 : Cond.code ⟨"java/lang/AbstractStringBuilder", "inflate", "()V"⟩ prog_17_method_11_code 2 (Option.none : Option ClassFile.FieldType) ∈ jk_WS := jk_wt7 (i := 86) (by decide +kernel) rfl
theorem jw_1527 : Cond.methodLink "java/lang/AbstractStringBuilder" 125 ⟨"java/lang/StringLatin1", "inflate", "([BI[BII)V"⟩ ∈ jk_WS := jk_wt7 (i := 87) (by decide +kernel) rfl
theorem jw_1528 : Cond.static ⟨"java/lang/StringLatin1", "inflate", "([BI[BII)V"⟩ ∈ jk_WS := jk_wt7 (i := 88) (by decide +kernel) rfl
theorem jw_1529 : Cond.code ⟨"java/lang/StringLatin1", "inflate", "([BI[BII)V"⟩ prog_36_method_50_code 5 (Option.none : Option ClassFile.FieldType) ∈ jk_WS := jk_wt7 (i := 89) (by decide +kernel) rfl
theorem jw_1530 : Cond.methodLink "java/lang/StringLatin1" 240 ⟨"java/lang/StringUTF16", "inflate", "([BI[BII)V"⟩ ∈ jk_WS := jk_wt7 (i := 90) (by decide +kernel) rfl
theorem jw_1531 : Cond.static ⟨"java/lang/StringUTF16", "inflate", "([BI[BII)V"⟩ ∈ jk_WS := jk_wt7 (i := 91) (by decide +kernel) rfl
theorem jw_1532 : Cond.code ⟨"java/lang/StringUTF16", "inflate", "([BI[BII)V"⟩ prog_37_method_86_code 6 (Option.none : Option ClassFile.FieldType) ∈ jk_WS := jk_wt7 (i := 92) (by decide +kernel) rfl
theorem jw_1533 : Cond.methodLink "java/lang/StringUTF16" 173 ⟨"java/lang/StringUTF16", "checkBoundsOffCount", "(II[B)V"⟩ ∈ jk_WS := jk_wt7 (i := 93) (by decide +kernel) rfl
theorem jw_1534 : Cond.static ⟨"java/lang/StringUTF16", "checkBoundsOffCount", "(II[B)V"⟩ ∈ jk_WS := jk_wt7 (i := 94) (by decide +kernel) rfl
theorem jw_1535 : Cond.code ⟨"java/lang/StringUTF16", "checkBoundsOffCount", "(II[B)V"⟩ prog_37_method_94_code 3 (Option.none : Option ClassFile.FieldType) ∈ jk_WS := jk_wt7 (i := 95) (by decide +kernel) rfl
theorem jw_1536 : Cond.methodLink "java/lang/StringUTF16" 419 ⟨"java/lang/String", "checkBoundsOffCount", "(III)I"⟩ ∈ jk_WS := jk_wt7 (i := 96) (by decide +kernel) rfl
theorem jw_1537 : Cond.static ⟨"java/lang/String", "checkBoundsOffCount", "(III)I"⟩ ∈ jk_WS := jk_wt7 (i := 97) (by decide +kernel) rfl
theorem jw_1538 : Cond.code ⟨"java/lang/String", "checkBoundsOffCount", "(III)I"⟩ prog_33_method_157_code 3 (Option.some ClassFile.FieldType.int) ∈ jk_WS := jk_wt7 (i := 98) (by decide +kernel) rfl
theorem jw_1539 : Cond.methodLink "java/lang/String" 1065 ⟨"jdk/internal/util/Preconditions", "checkFromIndexSize", "(IIILjava/util/function/BiFunction;)I"⟩ ∈ jk_WS := jk_wt7 (i := 99) (by decide +kernel) rfl
theorem jw_1540 : Cond.static ⟨"jdk/internal/util/Preconditions", "checkFromIndexSize", "(IIILjava/util/function/BiFunction;)I"⟩ ∈ jk_WS := jk_wt7 (i := 100) (by decide +kernel) rfl
theorem jw_1541 : Cond.code ⟨"jdk/internal/util/Preconditions", "checkFromIndexSize", "(IIILjava/util/function/BiFunction;)I"⟩ prog_46_method_13_code 4 (Option.some ClassFile.FieldType.int) ∈ jk_WS := jk_wt7 (i := 101) (by decide +kernel) rfl
theorem jw_1542 : Cond.methodLink "java/lang/AbstractStringBuilder" 399 ⟨"java/lang/String", "getBytes", "([BIB)V"⟩ ∈ jk_WS := jk_wt7 (i := 102) (by decide +kernel) rfl
theorem jw_1543 : Cond.instanceMethod ⟨"java/lang/String", "getBytes", "([BIB)V"⟩ ∈ jk_WS := jk_wt7 (i := 103) (by decide +kernel) rfl
theorem jw_1544 : Cond.selects "java/lang/String" ⟨"java/lang/String", "getBytes", "([BIB)V"⟩ ⟨"java/lang/String", "getBytes", "([BIB)V"⟩ ∈ jk_WS := jk_wt7 (i := 104) (by decide +kernel) rfl
theorem jw_1545 : Cond.code ⟨"java/lang/String", "getBytes", "([BIB)V"⟩ prog_33_method_147_code 4 (Option.none : Option ClassFile.FieldType) ∈ jk_WS := jk_wt7 (i := 105) (by decide +kernel) rfl
theorem jw_1546 : Cond.methodLink "java/lang/String" 212 ⟨"java/lang/System", "arraycopy", "(Ljava/lang/Object;ILjava/lang/Object;II)V"⟩ ∈ jk_WS := jk_wt7 (i := 106) (by decide +kernel) rfl
theorem jw_1547 : Cond.methodLink "java/lang/String" 106 ⟨"java/lang/StringLatin1", "inflate", "([BI[BII)V"⟩ ∈ jk_WS := jk_wt7 (i := 107) (by decide +kernel) rfl
theorem jw_1548 : Cond.methodLink "java/lang/StringIndexOutOfBoundsException" 19 ⟨"java/lang/StringBuilder", "append", "(I)Ljava/lang/StringBuilder;"⟩ ∈ jk_WS := jk_wt7 (i := 108) (by decide +kernel) rfl
theorem jw_1549 : Cond.instanceMethod ⟨"java/lang/StringBuilder", "append", "(I)Ljava/lang/StringBuilder;"⟩ ∈ jk_WS := jk_wt7 (i := 109) (by decide +kernel) rfl
theorem jw_1550 : Cond.selects "java/lang/StringBuilder" ⟨"java/lang/StringBuilder", "append", "(I)Ljava/lang/StringBuilder;"⟩ ⟨"java/lang/StringBuilder", "append", "(I)Ljava/lang/StringBuilder;"⟩ ∈ jk_WS := jk_wt7 (i := 110) (by decide +kernel) rfl
theorem jw_1551 : Cond.code ⟨"java/lang/StringBuilder", "append", "(I)Ljava/lang/StringBuilder;"⟩ prog_34_method_15_code 2 (Option.some (ClassFile.FieldType.object "java/lang/StringBuilder")) ∈ jk_WS := jk_wt7 (i := 111) (by decide +kernel) rfl
theorem jw_1552 : Cond.methodLink "java/lang/StringBuilder" 53 ⟨"java/lang/AbstractStringBuilder", "append", "(I)Ljava/lang/AbstractStringBuilder;"⟩ ∈ jk_WS := jk_wt7 (i := 112) (by decide +kernel) rfl
theorem jw_1553 : Cond.instanceMethod ⟨"java/lang/AbstractStringBuilder", "append", "(I)Ljava/lang/AbstractStringBuilder;"⟩ ∈ jk_WS := jk_wt7 (i := 113) (by decide +kernel) rfl
theorem jw_1554 : Cond.code ⟨"java/lang/AbstractStringBuilder", "append", "(I)Ljava/lang/AbstractStringBuilder;"⟩ prog_17_method_32_code 4 (Option.some (ClassFile.FieldType.object "java/lang/AbstractStringBuilder")) ∈ jk_WS := jk_wt7 (i := 114) (by decide +kernel) rfl
theorem jw_1555 : Cond.methodLink "java/lang/AbstractStringBuilder" 245 ⟨"java/lang/Integer", "stringSize", "(I)I"⟩ ∈ jk_WS := jk_wt7 (i := 115) (by decide +kernel) rfl
theorem jw_1556 : Cond.static ⟨"java/lang/Integer", "stringSize", "(I)I"⟩ ∈ jk_WS := jk_wt7 (i := 116) (by decide +kernel) rfl
theorem jw_1557 : Cond.code ⟨"java/lang/Integer", "stringSize", "(I)I"⟩ prog_29_method_13_code 4 (Option.some ClassFile.FieldType.int) ∈ jk_WS := jk_wt7 (i := 117) (by decide +kernel) rfl
theorem jw_1558 : Cond.methodLink "java/lang/AbstractStringBuilder" 248 ⟨"java/lang/Integer", "getChars", "(II[B)I"⟩ ∈ jk_WS := jk_wt7 (i := 118) (by decide +kernel) rfl
theorem jw_1559 : Cond.static ⟨"java/lang/Integer", "getChars", "(II[B)I"⟩ ∈ jk_WS := jk_wt7 (i := 119) (by decide +kernel) rfl
theorem jw_1560 : Cond.code ⟨"java/lang/Integer", "getChars", "(II[B)I"⟩ prog_29_method_12_code 7 (Option.some ClassFile.FieldType.int) ∈ jk_WS := jk_wt7 (i := 120) (by decide +kernel) rfl
theorem jw_1561 : Cond.fieldLink "java/lang/Integer" 83 "java/lang/Integer" "DigitOnes" "[B" ∈ jk_WS := jk_wt7 (i := 121) (by decide +kernel) rfl
theorem jw_1563 : Cond.fieldLink "java/lang/Integer" 87 "java/lang/Integer" "DigitTens" "[B" ∈ jk_WS := jk_wt7 (i := 123) (by decide +kernel) rfl
theorem jw_1565 : Cond.methodLink "java/lang/AbstractStringBuilder" 251 ⟨"java/lang/StringUTF16", "getChars", "(III[B)I"⟩ ∈ jk_WS := jk_wt7 (i := 125) (by decide +kernel) rfl
theorem jw_1566 : Cond.static ⟨"java/lang/StringUTF16", "getChars", "(III[B)I"⟩ ∈ jk_WS := jk_wt7 (i := 126) (by decide +kernel) rfl
theorem jw_1567 : Cond.code ⟨"java/lang/StringUTF16", "getChars", "(III[B)I"⟩ prog_37_method_77_code 5 (Option.some ClassFile.FieldType.int) ∈ jk_WS := jk_wt7 (i := 127) (by decide +kernel) rfl
theorem jw_1568 : Cond.methodLink "java/lang/StringUTF16" 393 ⟨"java/lang/StringUTF16", "getChars", "(II[B)I"⟩ ∈ jk_WS := jk_wt7 (i := 128) (by decide +kernel) rfl
theorem jw_1569 : Cond.static ⟨"java/lang/StringUTF16", "getChars", "(II[B)I"⟩ ∈ jk_WS := jk_wt7 (i := 129) (by decide +kernel) rfl
theorem jw_1570 : Cond.code ⟨"java/lang/StringUTF16", "getChars", "(II[B)I"⟩ prog_37_method_89_code 7 (Option.some ClassFile.FieldType.int) ∈ jk_WS := jk_wt7 (i := 130) (by decide +kernel) rfl
theorem jw_1571 : Cond.fieldLink "java/lang/StringUTF16" 403 "java/lang/Integer" "DigitOnes" "[B" ∈ jk_WS := jk_wt7 (i := 131) (by decide +kernel) rfl
theorem jw_1572 : Cond.fieldLink "java/lang/StringUTF16" 407 "java/lang/Integer" "DigitTens" "[B" ∈ jk_WS := jk_wt7 (i := 132) (by decide +kernel) rfl
theorem jw_1573 : Cond.methodLink "java/lang/StringIndexOutOfBoundsException" 22 ⟨"java/lang/StringBuilder", "toString", "()Ljava/lang/String;"⟩ ∈ jk_WS := jk_wt7 (i := 133) (by decide +kernel) rfl
theorem jw_1574 : Cond.instanceMethod ⟨"java/lang/StringBuilder", "toString", "()Ljava/lang/String;"⟩ ∈ jk_WS := jk_wt7 (i := 134) (by decide +kernel) rfl
theorem jw_1575 : Cond.selects "java/lang/StringBuilder" ⟨"java/lang/StringBuilder", "toString", "()Ljava/lang/String;"⟩ ⟨"java/lang/StringBuilder", "toString", "()Ljava/lang/String;"⟩ ∈ jk_WS := jk_wt7 (i := 135) (by decide +kernel) rfl
theorem jw_1576 : Cond.code ⟨"java/lang/StringBuilder", "toString", "()Ljava/lang/String;"⟩ prog_34_method_42_code 1 (Option.some (ClassFile.FieldType.object "java/lang/String")) ∈ jk_WS := jk_wt7 (i := 136) (by decide +kernel) rfl
theorem jw_1577 : Cond.classLink "java/lang/StringBuilder" 18 "java/lang/String" ∈ jk_WS := jk_wt7 (i := 137) (by decide +kernel) rfl
theorem jw_1578 : Cond.methodLink "java/lang/StringBuilder" 137 ⟨"java/lang/String", "<init>", "(Ljava/lang/StringBuilder;)V"⟩ ∈ jk_WS := jk_wt7 (i := 138) (by decide +kernel) rfl
theorem jw_1579 : Cond.instanceMethod ⟨"java/lang/String", "<init>", "(Ljava/lang/StringBuilder;)V"⟩ ∈ jk_WS := jk_wt7 (i := 139) (by decide +kernel) rfl
theorem jw_1580 : Cond.code ⟨"java/lang/String", "<init>", "(Ljava/lang/StringBuilder;)V"⟩ prog_33_method_53_code 2 (Option.none : Option ClassFile.FieldType) ∈ jk_WS := jk_wt7 (i := 140) (by decide +kernel) rfl
theorem jw_1581 : Cond.methodLink "java/lang/String" 489 ⟨"java/lang/String", "<init>", "(Ljava/lang/AbstractStringBuilder;Ljava/lang/Void;)V"⟩ ∈ jk_WS := jk_wt7 (i := 141) (by decide +kernel) rfl
theorem jw_1582 : Cond.instanceMethod ⟨"java/lang/String", "<init>", "(Ljava/lang/AbstractStringBuilder;Ljava/lang/Void;)V"⟩ ∈ jk_WS := jk_wt7 (i := 142) (by decide +kernel) rfl
theorem jw_1583 : Cond.code ⟨"java/lang/String", "<init>", "(Ljava/lang/AbstractStringBuilder;Ljava/lang/Void;)V"⟩ prog_33_method_150_code 5 (Option.none : Option ClassFile.FieldType) ∈ jk_WS := jk_wt7 (i := 143) (by decide +kernel) rfl
theorem jw_1584 : Cond.methodLink "java/lang/String" 1 ⟨"java/lang/Object", "<init>", "()V"⟩ ∈ jk_WS := jk_wt7 (i := 144) (by decide +kernel) rfl
theorem jw_1585 : Cond.methodLink "java/lang/String" 552 ⟨"java/lang/AbstractStringBuilder", "getValue", "()[B"⟩ ∈ jk_WS := jk_wt7 (i := 145) (by decide +kernel) rfl
theorem jw_1586 : Cond.instanceMethod ⟨"java/lang/AbstractStringBuilder", "getValue", "()[B"⟩ ∈ jk_WS := jk_wt7 (i := 146) (by decide +kernel) rfl
theorem jw_1587 : Cond.sameMethod "java/lang/AbstractStringBuilder" "java/lang/AbstractStringBuilder" "getValue" "()[B" ∈ jk_WS := jk_wt7 (i := 147) (by decide +kernel) rfl
theorem jw_1588 : Cond.selects "java/lang/StringBuilder" ⟨"java/lang/AbstractStringBuilder", "getValue", "()[B"⟩ ⟨"java/lang/AbstractStringBuilder", "getValue", "()[B"⟩ ∈ jk_WS := jk_wt7 (i := 148) (by decide +kernel) rfl
theorem jw_1589 : Cond.code ⟨"java/lang/AbstractStringBuilder", "getValue", "()[B"⟩ prog_17_method_64_code 1 (Option.some (ClassFile.FieldType.array ClassFile.FieldType.byte)) ∈ jk_WS := jk_wt7 (i := 149) (by decide +kernel) rfl
theorem jw_1590 : Cond.methodLink "java/lang/String" 549 ⟨"java/lang/AbstractStringBuilder", "length", "()I"⟩ ∈ jk_WS := jk_wt7 (i := 150) (by decide +kernel) rfl
theorem jw_1591 : Cond.instanceMethod ⟨"java/lang/AbstractStringBuilder", "length", "()I"⟩ ∈ jk_WS := jk_wt7 (i := 151) (by decide +kernel) rfl
theorem jw_1592 : Cond.sameMethod "java/lang/AbstractStringBuilder" "java/lang/AbstractStringBuilder" "length" "()I" ∈ jk_WS := jk_wt7 (i := 152) (by decide +kernel) rfl
theorem jw_1593 : Cond.selects "java/lang/StringBuilder" ⟨"java/lang/AbstractStringBuilder", "length", "()I"⟩ ⟨"java/lang/StringBuilder", "length", "()I"⟩ ∈ jk_WS := jk_wt7 (i := 153) (by decide +kernel) rfl
theorem jw_1594 : Cond.instanceMethod ⟨"java/lang/StringBuilder", "length", "()I"⟩ ∈ jk_WS := jk_wt7 (i := 154) (by decide +kernel) rfl
theorem jw_1595 : Cond.code ⟨"java/lang/StringBuilder", "length", "()I"⟩ prog_34_method_93_code 1 (Option.some ClassFile.FieldType.int) ∈ jk_WS := jk_wt7 (i := 155) (by decide +kernel) rfl
theorem jw_1596 : Cond.methodLink "java/lang/StringBuilder" 343 ⟨"java/lang/AbstractStringBuilder", "length", "()I"⟩ ∈ jk_WS := jk_wt7 (i := 156) (by decide +kernel) rfl
theorem jw_1597 : Cond.code ⟨"java/lang/AbstractStringBuilder", "length", "()I"⟩ prog_17_method_6_code 1 (Option.some ClassFile.FieldType.int) ∈ jk_WS := jk_wt7 (i := 157) (by decide +kernel) rfl
theorem jw_1598 : Cond.methodLink "java/lang/String" 1047 ⟨"java/lang/AbstractStringBuilder", "isLatin1", "()Z"⟩ ∈ jk_WS := jk_wt7 (i := 158) (by decide +kernel) rfl
theorem jw_1599 : Cond.methodLink "java/lang/String" 54 ⟨"java/util/Arrays", "copyOfRange", "([BII)[B"⟩ ∈ jk_WS := jk_wt7 (i := 159) (by decide +kernel) rfl
theorem jw_1600 : Cond.static ⟨"java/util/Arrays", "copyOfRange", "([BII)[B"⟩ ∈ jk_WS := jk_wt7 (i := 160) (by decide +kernel) rfl
theorem jw_1601 : Cond.code ⟨"java/util/Arrays", "copyOfRange", "([BII)[B"⟩ prog_43_method_132_code 3 (Option.some (ClassFile.FieldType.array ClassFile.FieldType.byte)) ∈ jk_WS := jk_wt7 (i := 161) (by decide +kernel) rfl
theorem jw_1602 : Cond.methodLink "java/util/Arrays" 339 ⟨"java/util/Arrays", "copyOfRangeByte", "([BII)[B"⟩ ∈ jk_WS := jk_wt7 (i := 162) (by decide +kernel) rfl
theorem jw_1603 : Cond.static ⟨"java/util/Arrays", "copyOfRangeByte", "([BII)[B"⟩ ∈ jk_WS := jk_wt7 (i := 163) (by decide +kernel) rfl
theorem jw_1604 : Cond.code ⟨"java/util/Arrays", "copyOfRangeByte", "([BII)[B"⟩ prog_43_method_133_code 5 (Option.some (ClassFile.FieldType.array ClassFile.FieldType.byte)) ∈ jk_WS := jk_wt7 (i := 164) (by decide +kernel) rfl
theorem jw_1605 : Cond.methodLink "java/util/Arrays" 343 ⟨"java/util/Arrays", "checkLength", "(II)V"⟩ ∈ jk_WS := jk_wt7 (i := 165) (by decide +kernel) rfl
theorem jw_1606 : Cond.static ⟨"java/util/Arrays", "checkLength", "(II)V"⟩ ∈ jk_WS := jk_wt7 (i := 166) (by decide +kernel) rfl
theorem jw_1607 : Cond.code ⟨"java/util/Arrays", "checkLength", "(II)V"⟩ prog_43_method_131_code 2 (Option.none : Option ClassFile.FieldType) ∈ jk_WS := jk_wt7 (i := 167) (by decide +kernel) rfl
theorem jw_1608 : Cond.classLink "java/util/Arrays" 43 "java/lang/IllegalArgumentException" ∈ jk_WS := jk_wt7 (i := 168) (by decide +kernel) rfl
theorem jw_1609 : Cond.classLink "java/util/Arrays" 45 "java/lang/StringBuilder" ∈ jk_WS := jk_wt7 (i := 169) (by decide +kernel) rfl
theorem jw_1610 : Cond.methodLink "java/util/Arrays" 47 ⟨"java/lang/StringBuilder", "<init>", "()V"⟩ ∈ jk_WS := jk_wt7 (i := 170) (by decide +kernel) rfl
theorem jw_1611 : Cond.methodLink "java/util/Arrays" 54 ⟨"java/lang/StringBuilder", "append", "(I)Ljava/lang/StringBuilder;"⟩ ∈ jk_WS := jk_wt7 (i := 171) (by decide +kernel) rfl
theorem jw_1613 : Cond.methodLink "java/util/Arrays" 50 ⟨"java/lang/StringBuilder", "append", "(Ljava/lang/String;)Ljava/lang/StringBuilder;"⟩ ∈ jk_WS := jk_wt7 (i := 173) (by decide +kernel) rfl
theorem jw_1614 : Cond.methodLink "java/util/Arrays" 61 ⟨"java/lang/StringBuilder", "toString", "()Ljava/lang/String;"⟩ ∈ jk_WS := jk_wt7 (i := 174) (by decide +kernel) rfl
theorem jw_1615 : Cond.methodLink "java/util/Arrays" 65 ⟨"java/lang/IllegalArgumentException", "<init>", "(Ljava/lang/String;)V"⟩ ∈ jk_WS := jk_wt7 (i := 175) (by decide +kernel) rfl
theorem jw_1616 : Cond.methodLink "java/lang/String" 1051 ⟨"java/lang/StringUTF16", "compress", "([BII)[B"⟩ ∈ jk_WS := jk_wt7 (i := 176) (by decide +kernel) rfl
theorem jw_1617 : Cond.static ⟨"java/lang/StringUTF16", "compress", "([BII)[B"⟩ ∈ jk_WS := jk_wt7 (i := 177) (by decide +kernel) rfl
theorem jw_1618 : Cond.code ⟨"java/lang/StringUTF16", "compress", "([BII)[B"⟩ prog_37_method_17_code 6 (Option.some (ClassFile.FieldType.array ClassFile.FieldType.byte)) ∈ jk_WS := jk_wt7 (i := 178) (by decide +kernel) rfl
theorem jw_1619 : Cond.methodLink "java/lang/StringUTF16" 123 ⟨"java/lang/StringUTF16", "compress", "([BI[BII)I"⟩ ∈ jk_WS := jk_wt7 (i := 179) (by decide +kernel) rfl
theorem jw_1620 : Cond.static ⟨"java/lang/StringUTF16", "compress", "([BI[BII)I"⟩ ∈ jk_WS := jk_wt7 (i := 180) (by decide +kernel) rfl
theorem jw_1621 : Cond.code ⟨"java/lang/StringUTF16", "compress", "([BI[BII)I"⟩ prog_37_method_22_code 7 (Option.some ClassFile.FieldType.int) ∈ jk_WS := jk_wt7 (i := 181) (by decide +kernel) rfl
theorem jw_1622 : Cond.methodLink "java/lang/StringUTF16" 71 ⟨"java/lang/StringUTF16", "getChar", "([BI)C"⟩ ∈ jk_WS := jk_wt7 (i := 182) (by decide +kernel) rfl
theorem jw_1623 : Cond.static ⟨"java/lang/StringUTF16", "getChar", "([BI)C"⟩ ∈ jk_WS := jk_wt7 (i := 183) (by decide +kernel) rfl
theorem jw_1624 : Cond.code ⟨"java/lang/StringUTF16", "getChar", "([BI)C"⟩ prog_37_method_5_code 2 (Option.some ClassFile.FieldType.char) ∈ jk_WS := jk_wt7 (i := 184) (by decide +kernel) rfl
theorem jw_1625 : Cond.methodLink "java/lang/StringUTF16" 126 ⟨"java/util/Arrays", "copyOfRange", "([BII)[B"⟩ ∈ jk_WS := jk_wt7 (i := 185) (by decide +kernel) rfl
theorem jw_1626 : Cond.methodLink "java/lang/String" 47 ⟨"java/lang/StringUTF16", "coderFromArrayLen", "([BI)B"⟩ ∈ jk_WS := jk_wt7 (i := 186) (by decide +kernel) rfl
theorem jw_1627 : Cond.static ⟨"java/lang/StringUTF16", "coderFromArrayLen", "([BI)B"⟩ ∈ jk_WS := jk_wt7 (i := 187) (by decide +kernel) rfl
theorem jw_1628 : Cond.code ⟨"java/lang/StringUTF16", "coderFromArrayLen", "([BI)B"⟩ prog_37_method_15_code 2 (Option.some ClassFile.FieldType.byte) ∈ jk_WS := jk_wt7 (i := 188) (by decide +kernel) rfl
theorem jw_1629 : Cond.fieldLink "java/lang/String" 9 "java/lang/String" "value" "[B" ∈ jk_WS := jk_wt7 (i := 189) (by decide +kernel) rfl
theorem jw_1630 : Cond.fieldLink "java/lang/String" 15 "java/lang/String" "coder" "B" ∈ jk_WS := jk_wt7 (i := 190) (by decide +kernel) rfl
theorem jw_1631 : Cond.lays "java/lang/String" "java/lang/String" "hash" "I" ∈ jk_WS := jk_wt7 (i := 191) (by decide +kernel) rfl
theorem jw_1633 : Cond.lays "java/lang/String" "java/lang/String" "hashIsZero" "Z" ∈ jk_WS := jk_wt7 (i := 193) (by decide +kernel) rfl
theorem jw_1635 : Cond.superclass "java/lang/String" "java/lang/Object" ∈ jk_WS := jk_wt7 (i := 195) (by decide +kernel) rfl
theorem jw_1636 : Cond.methodLink "java/lang/StringIndexOutOfBoundsException" 7 ⟨"java/lang/IndexOutOfBoundsException", "<init>", "(Ljava/lang/String;)V"⟩ ∈ jk_WS := jk_wt7 (i := 196) (by decide +kernel) rfl
theorem jw_1637 : Cond.lays "java/lang/StringIndexOutOfBoundsException" "java/lang/Throwable" "backtrace" "Ljava/lang/Object;" ∈ jk_WS := jk_wt7 (i := 197) (by decide +kernel) rfl
theorem jw_1638 : Cond.lays "java/lang/StringIndexOutOfBoundsException" "java/lang/Throwable" "detailMessage" "Ljava/lang/String;" ∈ jk_WS := jk_wt7 (i := 198) (by decide +kernel) rfl
theorem jw_1639 : Cond.lays "java/lang/StringIndexOutOfBoundsException" "java/lang/Throwable" "cause" "Ljava/lang/Throwable;" ∈ jk_WS := jk_wt7 (i := 199) (by decide +kernel) rfl
theorem jw_1640 : Cond.lays "java/lang/StringIndexOutOfBoundsException" "java/lang/Throwable" "stackTrace" "[Ljava/lang/StackTraceElement;" ∈ jk_WS := jk_wt7 (i := 200) (by decide +kernel) rfl
theorem jw_1641 : Cond.lays "java/lang/StringIndexOutOfBoundsException" "java/lang/Throwable" "depth" "I" ∈ jk_WS := jk_wt7 (i := 201) (by decide +kernel) rfl
theorem jw_1642 : Cond.lays "java/lang/StringIndexOutOfBoundsException" "java/lang/Throwable" "suppressedExceptions" "Ljava/util/List;" ∈ jk_WS := jk_wt7 (i := 202) (by decide +kernel) rfl
theorem jw_1643 : Cond.superclass "java/lang/StringIndexOutOfBoundsException" "java/lang/IndexOutOfBoundsException" ∈ jk_WS := jk_wt7 (i := 203) (by decide +kernel) rfl
theorem jw_1644 : Cond.methodLink "java/lang/AbstractStringBuilder" 133 ⟨"java/lang/StringLatin1", "fillNull", "([BII)V"⟩ ∈ jk_WS := jk_wt7 (i := 204) (by decide +kernel) rfl
theorem jw_1645 : Cond.static ⟨"java/lang/StringLatin1", "fillNull", "([BII)V"⟩ ∈ jk_WS := jk_wt7 (i := 205) (by decide +kernel) rfl
theorem jw_1646 : Cond.code ⟨"java/lang/StringLatin1", "fillNull", "([BII)V"⟩ prog_36_method_48_code 3 (Option.none : Option ClassFile.FieldType) ∈ jk_WS := jk_wt7 (i := 206) (by decide +kernel) rfl
theorem jw_1647 : Cond.methodLink "java/lang/StringLatin1" 236 ⟨"java/util/Arrays", "fill", "([BIIB)V"⟩ ∈ jk_WS := jk_wt7 (i := 207) (by decide +kernel) rfl
theorem jw_1648 : Cond.static ⟨"java/util/Arrays", "fill", "([BIIB)V"⟩ ∈ jk_WS := jk_wt7 (i := 208) (by decide +kernel) rfl
theorem jw_1649 : Cond.code ⟨"java/util/Arrays", "fill", "([BIIB)V"⟩ prog_43_method_110_code 5 (Option.none : Option ClassFile.FieldType) ∈ jk_WS := jk_wt7 (i := 209) (by decide +kernel) rfl
theorem jw_1650 : Cond.methodLink "java/util/Arrays" 13 ⟨"java/util/Arrays", "rangeCheck", "(III)V"⟩ ∈ jk_WS := jk_wt7 (i := 210) (by decide +kernel) rfl
theorem jw_1651 : Cond.static ⟨"java/util/Arrays", "rangeCheck", "(III)V"⟩ ∈ jk_WS := jk_wt7 (i := 211) (by decide +kernel) rfl
theorem jw_1652 : Cond.code ⟨"java/util/Arrays", "rangeCheck", "(III)V"⟩ prog_43_method_30_code 3 (Option.none : Option ClassFile.FieldType) ∈ jk_WS := jk_wt7 (i := 212) (by decide +kernel) rfl
theorem jw_1656 : Cond.classLink "java/util/Arrays" 68 "java/lang/ArrayIndexOutOfBoundsException" ∈ jk_WS := jk_wt7 (i := 216) (by decide +kernel) rfl
theorem jw_1657 : Cond.methodLink "java/util/Arrays" 70 ⟨"java/lang/ArrayIndexOutOfBoundsException", "<init>", "(I)V"⟩ ∈ jk_WS := jk_wt7 (i := 217) (by decide +kernel) rfl
theorem jw_1658 : Cond.instanceMethod ⟨"java/lang/ArrayIndexOutOfBoundsException", "<init>", "(I)V"⟩ ∈ jk_WS := jk_wt7 (i := 218) (by decide +kernel) rfl
theorem jw_1659 : Cond.code ⟨"java/lang/ArrayIndexOutOfBoundsException", "<init>", "(I)V"⟩ prog_20_method_3_code 2 (Option.none : Option ClassFile.FieldType) ∈ jk_WS := jk_wt7 (i := 219) (by decide +kernel) rfl
theorem jw_1660 : Cond.classLink "java/lang/ArrayIndexOutOfBoundsException" 10 "java/lang/StringBuilder" ∈ jk_WS := jk_wt7 (i := 220) (by decide +kernel) rfl
theorem jw_1661 : Cond.methodLink "java/lang/ArrayIndexOutOfBoundsException" 12 ⟨"java/lang/StringBuilder", "<init>", "()V"⟩ ∈ jk_WS := jk_wt7 (i := 221) (by decide +kernel) rfl
theorem jw_1663 : Cond.methodLink "java/lang/ArrayIndexOutOfBoundsException" 15 ⟨"java/lang/StringBuilder", "append", "(Ljava/lang/String;)Ljava/lang/StringBuilder;"⟩ ∈ jk_WS := jk_wt7 (i := 223) (by decide +kernel) rfl
theorem jw_1664 : Cond.methodLink "java/lang/ArrayIndexOutOfBoundsException" 19 ⟨"java/lang/StringBuilder", "append", "(I)Ljava/lang/StringBuilder;"⟩ ∈ jk_WS := jk_wt7 (i := 224) (by decide +kernel) rfl
theorem jw_1665 : Cond.methodLink "java/lang/ArrayIndexOutOfBoundsException" 22 ⟨"java/lang/StringBuilder", "toString", "()Ljava/lang/String;"⟩ ∈ jk_WS := jk_wt7 (i := 225) (by decide +kernel) rfl
theorem jw_1666 : Cond.methodLink "java/lang/AbstractStringBuilder" 137 ⟨"java/lang/StringUTF16", "fillNull", "([BII)V"⟩ ∈ jk_WS := jk_wt7 (i := 226) (by decide +kernel) rfl
theorem jw_1667 : Cond.static ⟨"java/lang/StringUTF16", "fillNull", "([BII)V"⟩ ∈ jk_WS := jk_wt7 (i := 227) (by decide +kernel) rfl
theorem jw_1668 : Cond.code ⟨"java/lang/StringUTF16", "fillNull", "([BII)V"⟩ prog_37_method_70_code 3 (Option.none : Option ClassFile.FieldType) ∈ jk_WS := jk_wt7 (i := 228) (by decide +kernel) rfl
theorem jw_1669 : Cond.methodLink "java/lang/StringUTF16" 380 ⟨"java/util/Arrays", "fill", "([BIIB)V"⟩ ∈ jk_WS := jk_wt7 (i := 229) (by decide +kernel) rfl
theorem jw_1670 : Cond.methodLink "LevelingNetwork" 354 ⟨"java/lang/StringBuilder", "append", "(I)Ljava/lang/StringBuilder;"⟩ ∈ jk_WS := jk_wt7 (i := 230) (by decide +kernel) rfl
theorem jw_1671 : Cond.methodLink "LevelingNetwork" 358 ⟨"java/lang/StringBuilder", "append", "(C)Ljava/lang/StringBuilder;"⟩ ∈ jk_WS := jk_wt7 (i := 231) (by decide +kernel) rfl
theorem jw_1672 : Cond.instanceMethod ⟨"java/lang/StringBuilder", "append", "(C)Ljava/lang/StringBuilder;"⟩ ∈ jk_WS := jk_wt7 (i := 232) (by decide +kernel) rfl
theorem jw_1673 : Cond.selects "java/lang/StringBuilder" ⟨"java/lang/StringBuilder", "append", "(C)Ljava/lang/StringBuilder;"⟩ ⟨"java/lang/StringBuilder", "append", "(C)Ljava/lang/StringBuilder;"⟩ ∈ jk_WS := jk_wt7 (i := 233) (by decide +kernel) rfl
theorem jw_1674 : Cond.code ⟨"java/lang/StringBuilder", "append", "(C)Ljava/lang/StringBuilder;"⟩ prog_34_method_14_code 2 (Option.some (ClassFile.FieldType.object "java/lang/StringBuilder")) ∈ jk_WS := jk_wt7 (i := 234) (by decide +kernel) rfl
theorem jw_1675 : Cond.methodLink "java/lang/StringBuilder" 50 ⟨"java/lang/AbstractStringBuilder", "append", "(C)Ljava/lang/AbstractStringBuilder;"⟩ ∈ jk_WS := jk_wt7 (i := 235) (by decide +kernel) rfl
theorem jw_1676 : Cond.instanceMethod ⟨"java/lang/AbstractStringBuilder", "append", "(C)Ljava/lang/AbstractStringBuilder;"⟩ ∈ jk_WS := jk_wt7 (i := 236) (by decide +kernel) rfl
theorem jw_1677 : Cond.code ⟨"java/lang/AbstractStringBuilder", "append", "(C)Ljava/lang/AbstractStringBuilder;"⟩ prog_17_method_31_code 2 (Option.some (ClassFile.FieldType.object "java/lang/AbstractStringBuilder")) ∈ jk_WS := jk_wt7 (i := 237) (by decide +kernel) rfl
theorem jw_1678 : Cond.methodLink "java/lang/AbstractStringBuilder" 191 ⟨"java/lang/StringLatin1", "canEncode", "(C)Z"⟩ ∈ jk_WS := jk_wt7 (i := 238) (by decide +kernel) rfl
theorem jw_1679 : Cond.static ⟨"java/lang/StringLatin1", "canEncode", "(C)Z"⟩ ∈ jk_WS := jk_wt7 (i := 239) (by decide +kernel) rfl
theorem jw_1680 : Cond.code ⟨"java/lang/StringLatin1", "canEncode", "(C)Z"⟩ prog_36_method_3_code 1 (Option.some ClassFile.FieldType.boolean) ∈ jk_WS := jk_wt8 (i := 0) (by decide +kernel) rfl
theorem jw_1681 : Cond.methodLink "java/lang/AbstractStringBuilder" 197 ⟨"java/lang/StringUTF16", "putCharSB", "([BII)V"⟩ ∈ jk_WS := jk_wt8 (i := 1) (by decide +kernel) rfl
theorem jw_1682 : Cond.static ⟨"java/lang/StringUTF16", "putCharSB", "([BII)V"⟩ ∈ jk_WS := jk_wt8 (i := 2) (by decide +kernel) rfl
theorem jw_1683 : Cond.code ⟨"java/lang/StringUTF16", "putCharSB", "([BII)V"⟩ prog_37_method_71_code 3 (Option.none : Option ClassFile.FieldType) ∈ jk_WS := jk_wt8 (i := 3) (by decide +kernel) rfl
theorem jw_1684 : Cond.methodLink "java/lang/StringUTF16" 67 ⟨"java/lang/StringUTF16", "checkIndex", "(I[B)V"⟩ ∈ jk_WS := jk_wt8 (i := 4) (by decide +kernel) rfl
theorem jw_1685 : Cond.static ⟨"java/lang/StringUTF16", "checkIndex", "(I[B)V"⟩ ∈ jk_WS := jk_wt8 (i := 5) (by decide +kernel) rfl
theorem jw_1686 : Cond.code ⟨"java/lang/StringUTF16", "checkIndex", "(I[B)V"⟩ prog_37_method_91_code 2 (Option.none : Option ClassFile.FieldType) ∈ jk_WS := jk_wt8 (i := 6) (by decide +kernel) rfl
theorem jw_1687 : Cond.methodLink "java/lang/StringUTF16" 414 ⟨"java/lang/String", "checkIndex", "(II)V"⟩ ∈ jk_WS := jk_wt8 (i := 7) (by decide +kernel) rfl
theorem jw_1688 : Cond.static ⟨"java/lang/String", "checkIndex", "(II)V"⟩ ∈ jk_WS := jk_wt8 (i := 8) (by decide +kernel) rfl
theorem jw_1689 : Cond.code ⟨"java/lang/String", "checkIndex", "(II)V"⟩ prog_33_method_155_code 2 (Option.none : Option ClassFile.FieldType) ∈ jk_WS := jk_wt8 (i := 9) (by decide +kernel) rfl
theorem jw_1690 : Cond.methodLink "java/lang/String" 1059 ⟨"jdk/internal/util/Preconditions", "checkIndex", "(IILjava/util/function/BiFunction;)I"⟩ ∈ jk_WS := jk_wt8 (i := 10) (by decide +kernel) rfl
theorem jw_1691 : Cond.static ⟨"jdk/internal/util/Preconditions", "checkIndex", "(IILjava/util/function/BiFunction;)I"⟩ ∈ jk_WS := jk_wt8 (i := 11) (by decide +kernel) rfl
theorem jw_1692 : Cond.code ⟨"jdk/internal/util/Preconditions", "checkIndex", "(IILjava/util/function/BiFunction;)I"⟩ prog_46_method_11_code 3 (Option.some ClassFile.FieldType.int) ∈ jk_WS := jk_wt8 (i := 12) (by decide +kernel) rfl
theorem jw_1693 : Cond.methodLink "LevelingNetwork" 361 ⟨"LevelingNetwork$Survey", "corrected", "(I)I"⟩ ∈ jk_WS := jk_wt8 (i := 13) (by decide +kernel) rfl
theorem jw_1694 : Cond.methodLink "LevelingNetwork" 364 ⟨"LevelingNetwork", "markOf", "(I)C"⟩ ∈ jk_WS := jk_wt8 (i := 14) (by decide +kernel) rfl
theorem jw_1696 : Cond.instanceMethod ⟨"LevelingNetwork", "markOf", "(I)C"⟩ ∈ jk_WS := jk_wt8 (i := 16) (by decide +kernel) rfl
theorem jw_1697 : Cond.code ⟨"LevelingNetwork", "markOf", "(I)C"⟩ prog_1_method_73_code 2 (Option.some ClassFile.FieldType.char) ∈ jk_WS := jk_wt8 (i := 17) (by decide +kernel) rfl
theorem jw_1698 : Cond.methodLink "LevelingNetwork" 368 ⟨"java/lang/StringBuilder", "length", "()I"⟩ ∈ jk_WS := jk_wt8 (i := 18) (by decide +kernel) rfl
theorem jw_1699 : Cond.methodLink "LevelingNetworkLaw" 375 ⟨"LevelingNetworkLaw", "renderBenchmark", "(LLevelingNetwork;I[J)I"⟩ ∈ jk_WS := jk_wt8 (i := 19) (by decide +kernel) rfl
theorem jw_1700 : Cond.static ⟨"LevelingNetworkLaw", "renderBenchmark", "(LLevelingNetwork;I[J)I"⟩ ∈ jk_WS := jk_wt8 (i := 20) (by decide +kernel) rfl
theorem jw_1701 : Cond.codeWith ⟨"LevelingNetworkLaw", "renderBenchmark", "(LLevelingNetwork;I[J)I"⟩ method_47_code 4 (Option.some ClassFile.FieldType.int) [(0, 9, 12, 19)] ∈ jk_WS := jk_wt8 (i := 21) (by decide +kernel) rfl
theorem jw_1702 : Cond.methodLink "LevelingNetworkLaw" 161 ⟨"LevelingNetwork", "renderBenchmark", "(I)I"⟩ ∈ jk_WS := jk_wt8 (i := 22) (by decide +kernel) rfl
theorem jw_1703 : Cond.instanceMethod ⟨"LevelingNetwork", "renderBenchmark", "(I)I"⟩ ∈ jk_WS := jk_wt8 (i := 23) (by decide +kernel) rfl
theorem jw_1704 : Cond.selects "LevelingNetwork" ⟨"LevelingNetwork", "renderBenchmark", "(I)I"⟩ ⟨"LevelingNetwork", "renderBenchmark", "(I)I"⟩ ∈ jk_WS := jk_wt8 (i := 24) (by decide +kernel) rfl
theorem jw_1705 : Cond.code ⟨"LevelingNetwork", "renderBenchmark", "(I)I"⟩ prog_1_method_56_code 2 (Option.some ClassFile.FieldType.int) ∈ jk_WS := jk_wt8 (i := 25) (by decide +kernel) rfl
theorem jw_1706 : Cond.methodLink "LevelingNetworkLaw" 378 ⟨"LevelingNetworkLaw", "outputAt", "(LLevelingNetwork;I[J)I"⟩ ∈ jk_WS := jk_wt8 (i := 26) (by decide +kernel) rfl
theorem jw_1707 : Cond.static ⟨"LevelingNetworkLaw", "outputAt", "(LLevelingNetwork;I[J)I"⟩ ∈ jk_WS := jk_wt8 (i := 27) (by decide +kernel) rfl
theorem jw_1708 : Cond.codeWith ⟨"LevelingNetworkLaw", "outputAt", "(LLevelingNetwork;I[J)I"⟩ method_48_code 4 (Option.some ClassFile.FieldType.int) [(0, 9, 12, 19)] ∈ jk_WS := jk_wt8 (i := 28) (by decide +kernel) rfl
theorem jw_1709 : Cond.methodLink "LevelingNetworkLaw" 164 ⟨"LevelingNetwork", "outputAt", "(I)C"⟩ ∈ jk_WS := jk_wt8 (i := 29) (by decide +kernel) rfl
theorem jw_1710 : Cond.instanceMethod ⟨"LevelingNetwork", "outputAt", "(I)C"⟩ ∈ jk_WS := jk_wt8 (i := 30) (by decide +kernel) rfl
theorem jw_1711 : Cond.selects "LevelingNetwork" ⟨"LevelingNetwork", "outputAt", "(I)C"⟩ ⟨"LevelingNetwork", "outputAt", "(I)C"⟩ ∈ jk_WS := jk_wt8 (i := 31) (by decide +kernel) rfl
theorem jw_1712 : Cond.code ⟨"LevelingNetwork", "outputAt", "(I)C"⟩ prog_1_method_57_code 2 (Option.some ClassFile.FieldType.char) ∈ jk_WS := jk_wt8 (i := 32) (by decide +kernel) rfl
theorem jw_1714 : Cond.methodLink "LevelingNetwork" 375 ⟨"java/lang/StringBuilder", "charAt", "(I)C"⟩ ∈ jk_WS := jk_wt8 (i := 34) (by decide +kernel) rfl
theorem jw_1715 : Cond.instanceMethod ⟨"java/lang/StringBuilder", "charAt", "(I)C"⟩ ∈ jk_WS := jk_wt8 (i := 35) (by decide +kernel) rfl
theorem jw_1716 : Cond.selects "java/lang/StringBuilder" ⟨"java/lang/StringBuilder", "charAt", "(I)C"⟩ ⟨"java/lang/StringBuilder", "charAt", "(I)C"⟩ ∈ jk_WS := jk_wt8 (i := 36) (by decide +kernel) rfl
theorem jw_1717 : Cond.code ⟨"java/lang/StringBuilder", "charAt", "(I)C"⟩ prog_34_method_88_code 2 (Option.some ClassFile.FieldType.char) ∈ jk_WS := jk_wt8 (i := 37) (by decide +kernel) rfl
theorem jw_1718 : Cond.methodLink "java/lang/StringBuilder" 329 ⟨"java/lang/AbstractStringBuilder", "charAt", "(I)C"⟩ ∈ jk_WS := jk_wt8 (i := 38) (by decide +kernel) rfl
theorem jw_1719 : Cond.instanceMethod ⟨"java/lang/AbstractStringBuilder", "charAt", "(I)C"⟩ ∈ jk_WS := jk_wt8 (i := 39) (by decide +kernel) rfl
theorem jw_1720 : Cond.code ⟨"java/lang/AbstractStringBuilder", "charAt", "(I)C"⟩ prog_17_method_14_code 5 (Option.some ClassFile.FieldType.char) ∈ jk_WS := jk_wt8 (i := 40) (by decide +kernel) rfl
theorem jw_1721 : Cond.methodLink "java/lang/AbstractStringBuilder" 138 ⟨"java/lang/Math", "min", "(II)I"⟩ ∈ jk_WS := jk_wt8 (i := 41) (by decide +kernel) rfl
theorem jw_1722 : Cond.methodLink "java/lang/AbstractStringBuilder" 144 ⟨"java/lang/String", "checkIndex", "(II)V"⟩ ∈ jk_WS := jk_wt8 (i := 42) (by decide +kernel) rfl
theorem jw_1723 : Cond.methodLink "java/lang/AbstractStringBuilder" 148 ⟨"java/lang/StringUTF16", "getChar", "([BI)C"⟩ ∈ jk_WS := jk_wt8 (i := 43) (by decide +kernel) rfl
theorem jw_1724 : Cond.methodLink "LevelingNetworkLaw" 381 ⟨"LevelingNetworkLaw", "type", "(LLevelingNetwork;C[J)I"⟩ ∈ jk_WS := jk_wt8 (i := 44) (by decide +kernel) rfl
theorem jw_1725 : Cond.static ⟨"LevelingNetworkLaw", "type", "(LLevelingNetwork;C[J)I"⟩ ∈ jk_WS := jk_wt8 (i := 45) (by decide +kernel) rfl
theorem jw_1726 : Cond.codeWith ⟨"LevelingNetworkLaw", "type", "(LLevelingNetwork;C[J)I"⟩ method_49_code 4 (Option.some ClassFile.FieldType.int) [(0, 9, 12, 21), (0, 9, 15, 13)] ∈ jk_WS := jk_wt8 (i := 46) (by decide +kernel) rfl
theorem jw_1727 : Cond.methodLink "LevelingNetworkLaw" 168 ⟨"LevelingNetwork", "type", "(C)I"⟩ ∈ jk_WS := jk_wt8 (i := 47) (by decide +kernel) rfl
theorem jw_1728 : Cond.instanceMethod ⟨"LevelingNetwork", "type", "(C)I"⟩ ∈ jk_WS := jk_wt8 (i := 48) (by decide +kernel) rfl
theorem jw_1729 : Cond.selects "LevelingNetwork" ⟨"LevelingNetwork", "type", "(C)I"⟩ ⟨"LevelingNetwork", "type", "(C)I"⟩ ∈ jk_WS := jk_wt8 (i := 49) (by decide +kernel) rfl
theorem jw_1730 : Cond.code ⟨"LevelingNetwork", "type", "(C)I"⟩ prog_1_method_58_code 2 (Option.some ClassFile.FieldType.int) ∈ jk_WS := jk_wt8 (i := 50) (by decide +kernel) rfl
theorem jw_1733 : Cond.methodLink "LevelingNetwork" 386 ⟨"LevelingNetwork$Script", "add", "(C)V"⟩ ∈ jk_WS := jk_wt8 (i := 53) (by decide +kernel) rfl
theorem jw_1734 : Cond.instanceMethod ⟨"LevelingNetwork$Script", "add", "(C)V"⟩ ∈ jk_WS := jk_wt8 (i := 54) (by decide +kernel) rfl
theorem jw_1735 : Cond.selects "LevelingNetwork$Script" ⟨"LevelingNetwork$Script", "add", "(C)V"⟩ ⟨"LevelingNetwork$Script", "add", "(C)V"⟩ ∈ jk_WS := jk_wt8 (i := 55) (by decide +kernel) rfl
theorem jw_1736 : Cond.code ⟨"LevelingNetwork$Script", "add", "(C)V"⟩ prog_9_method_2_code 2 (Option.none : Option ClassFile.FieldType) ∈ jk_WS := jk_wt8 (i := 56) (by decide +kernel) rfl
theorem jw_1737 : Cond.methodLink "LevelingNetworkLaw" 385 ⟨"LevelingNetworkLaw", "runScript", "(LLevelingNetwork;[J)I"⟩ ∈ jk_WS := jk_wt8 (i := 57) (by decide +kernel) rfl
theorem jw_1738 : Cond.static ⟨"LevelingNetworkLaw", "runScript", "(LLevelingNetwork;[J)I"⟩ ∈ jk_WS := jk_wt8 (i := 58) (by decide +kernel) rfl
theorem jw_1739 : Cond.codeWith ⟨"LevelingNetworkLaw", "runScript", "(LLevelingNetwork;[J)I"⟩ method_50_code 3 (Option.some ClassFile.FieldType.int) [(0, 8, 11, 21), (0, 8, 14, 13)] ∈ jk_WS := jk_wt8 (i := 59) (by decide +kernel) rfl
theorem jw_1740 : Cond.methodLink "LevelingNetworkLaw" 172 ⟨"LevelingNetwork", "runScript", "()I"⟩ ∈ jk_WS := jk_wt8 (i := 60) (by decide +kernel) rfl
theorem jw_1741 : Cond.instanceMethod ⟨"LevelingNetwork", "runScript", "()I"⟩ ∈ jk_WS := jk_wt8 (i := 61) (by decide +kernel) rfl
theorem jw_1742 : Cond.selects "LevelingNetwork" ⟨"LevelingNetwork", "runScript", "()I"⟩ ⟨"LevelingNetwork", "runScript", "()I"⟩ ∈ jk_WS := jk_wt8 (i := 62) (by decide +kernel) rfl
theorem jw_1743 : Cond.code ⟨"LevelingNetwork", "runScript", "()I"⟩ prog_1_method_59_code 3 (Option.some ClassFile.FieldType.int) ∈ jk_WS := jk_wt8 (i := 63) (by decide +kernel) rfl
theorem jw_1744 : Cond.methodLink "LevelingNetwork" 390 ⟨"LevelingNetwork$Script", "read", "()Z"⟩ ∈ jk_WS := jk_wt8 (i := 64) (by decide +kernel) rfl
theorem jw_1745 : Cond.instanceMethod ⟨"LevelingNetwork$Script", "read", "()Z"⟩ ∈ jk_WS := jk_wt8 (i := 65) (by decide +kernel) rfl
theorem jw_1746 : Cond.selects "LevelingNetwork$Script" ⟨"LevelingNetwork$Script", "read", "()Z"⟩ ⟨"LevelingNetwork$Script", "read", "()Z"⟩ ∈ jk_WS := jk_wt8 (i := 66) (by decide +kernel) rfl
theorem jw_1747 : Cond.code ⟨"LevelingNetwork$Script", "read", "()Z"⟩ prog_9_method_3_code 3 (Option.some ClassFile.FieldType.boolean) ∈ jk_WS := jk_wt8 (i := 67) (by decide +kernel) rfl
theorem jw_1748 : Cond.methodLink "LevelingNetwork$Script" 36 ⟨"LevelingNetwork$Script", "readCommand", "()Z"⟩ ∈ jk_WS := jk_wt8 (i := 68) (by decide +kernel) rfl
theorem jw_1750 : Cond.instanceMethod ⟨"LevelingNetwork$Script", "readCommand", "()Z"⟩ ∈ jk_WS := jk_wt8 (i := 70) (by decide +kernel) rfl
theorem jw_1751 : Cond.code ⟨"LevelingNetwork$Script", "readCommand", "()Z"⟩ prog_9_method_4_code 2 (Option.some ClassFile.FieldType.boolean) ∈ jk_WS := jk_wt8 (i := 71) (by decide +kernel) rfl
theorem jw_1752 : Cond.methodLink "LevelingNetwork$Script" 44 ⟨"LevelingNetwork$Script", "readWord", "()LLevelingNetwork$Kind;"⟩ ∈ jk_WS := jk_wt8 (i := 72) (by decide +kernel) rfl
theorem jw_1754 : Cond.instanceMethod ⟨"LevelingNetwork$Script", "readWord", "()LLevelingNetwork$Kind;"⟩ ∈ jk_WS := jk_wt8 (i := 74) (by decide +kernel) rfl
theorem jw_1755 : Cond.code ⟨"LevelingNetwork$Script", "readWord", "()LLevelingNetwork$Kind;"⟩ prog_9_method_5_code 4 (Option.some (ClassFile.FieldType.object "LevelingNetwork$Kind")) ∈ jk_WS := jk_wt8 (i := 75) (by decide +kernel) rfl
theorem jw_1756 : Cond.fieldLinkNest "LevelingNetwork$Script" 56 "LevelingNetwork" "KINDS" "[LLevelingNetwork$Kind;" "LevelingNetwork" ∈ jk_WS := jk_wt8 (i := 76) (by decide +kernel) rfl
theorem jw_1758 : Cond.methodLink "LevelingNetwork$Script" 62 ⟨"LevelingNetwork$Script", "fittingSigns", "(Ljava/lang/String;)I"⟩ ∈ jk_WS := jk_wt8 (i := 78) (by decide +kernel) rfl
theorem jw_1760 : Cond.instanceMethod ⟨"LevelingNetwork$Script", "fittingSigns", "(Ljava/lang/String;)I"⟩ ∈ jk_WS := jk_wt8 (i := 80) (by decide +kernel) rfl
theorem jw_1761 : Cond.code ⟨"LevelingNetwork$Script", "fittingSigns", "(Ljava/lang/String;)I"⟩ prog_9_method_6_code 4 (Option.some ClassFile.FieldType.int) ∈ jk_WS := jk_wt8 (i := 81) (by decide +kernel) rfl
theorem jw_1762 : Cond.methodLink "LevelingNetwork$Script" 66 ⟨"java/lang/String", "length", "()I"⟩ ∈ jk_WS := jk_wt8 (i := 82) (by decide +kernel) rfl
theorem jw_1763 : Cond.methodLink "LevelingNetwork$Script" 78 ⟨"LevelingNetwork$Script", "signAt", "(I)C"⟩ ∈ jk_WS := jk_wt8 (i := 83) (by decide +kernel) rfl
theorem jw_1765 : Cond.instanceMethod ⟨"LevelingNetwork$Script", "signAt", "(I)C"⟩ ∈ jk_WS := jk_wt8 (i := 85) (by decide +kernel) rfl
theorem jw_1766 : Cond.code ⟨"LevelingNetwork$Script", "signAt", "(I)C"⟩ prog_9_method_11_code 2 (Option.some ClassFile.FieldType.char) ∈ jk_WS := jk_wt8 (i := 86) (by decide +kernel) rfl
theorem jw_1767 : Cond.methodLink "LevelingNetwork$Script" 82 ⟨"java/lang/String", "charAt", "(I)C"⟩ ∈ jk_WS := jk_wt8 (i := 87) (by decide +kernel) rfl
theorem jw_1768 : Cond.instanceMethod ⟨"java/lang/String", "charAt", "(I)C"⟩ ∈ jk_WS := jk_wt8 (i := 88) (by decide +kernel) rfl
theorem jw_1769 : Cond.selects "java/lang/String" ⟨"java/lang/String", "charAt", "(I)C"⟩ ⟨"java/lang/String", "charAt", "(I)C"⟩ ∈ jk_WS := jk_wt8 (i := 89) (by decide +kernel) rfl
theorem jw_1770 : Cond.code ⟨"java/lang/String", "charAt", "(I)C"⟩ prog_33_method_56_code 2 (Option.some ClassFile.FieldType.char) ∈ jk_WS := jk_wt8 (i := 90) (by decide +kernel) rfl
theorem jw_1771 : Cond.methodLink "java/lang/String" 492 ⟨"java/lang/String", "isLatin1", "()Z"⟩ ∈ jk_WS := jk_wt8 (i := 91) (by decide +kernel) rfl
theorem jw_1772 : Cond.instanceMethod ⟨"java/lang/String", "isLatin1", "()Z"⟩ ∈ jk_WS := jk_wt8 (i := 92) (by decide +kernel) rfl
theorem jw_1773 : Cond.selects "java/lang/String" ⟨"java/lang/String", "isLatin1", "()Z"⟩ ⟨"java/lang/String", "isLatin1", "()Z"⟩ ∈ jk_WS := jk_wt8 (i := 93) (by decide +kernel) rfl
theorem jw_1774 : Cond.code ⟨"java/lang/String", "isLatin1", "()Z"⟩ prog_33_method_154_code 1 (Option.some ClassFile.FieldType.boolean) ∈ jk_WS := jk_wt8 (i := 94) (by decide +kernel) rfl
theorem jw_1775 : Cond.methodLink "java/lang/String" 495 ⟨"java/lang/StringLatin1", "charAt", "([BI)C"⟩ ∈ jk_WS := jk_wt8 (i := 95) (by decide +kernel) rfl
theorem jw_1776 : Cond.static ⟨"java/lang/StringLatin1", "charAt", "([BI)C"⟩ ∈ jk_WS := jk_wt8 (i := 96) (by decide +kernel) rfl
theorem jw_1777 : Cond.code ⟨"java/lang/StringLatin1", "charAt", "([BI)C"⟩ prog_36_method_2_code 2 (Option.some ClassFile.FieldType.char) ∈ jk_WS := jk_wt8 (i := 97) (by decide +kernel) rfl
theorem jw_1778 : Cond.methodLink "java/lang/StringLatin1" 9 ⟨"java/lang/String", "checkIndex", "(II)V"⟩ ∈ jk_WS := jk_wt8 (i := 98) (by decide +kernel) rfl
theorem jw_1779 : Cond.methodLink "java/lang/String" 498 ⟨"java/lang/StringUTF16", "charAt", "([BI)C"⟩ ∈ jk_WS := jk_wt8 (i := 99) (by decide +kernel) rfl
theorem jw_1780 : Cond.static ⟨"java/lang/StringUTF16", "charAt", "([BI)C"⟩ ∈ jk_WS := jk_wt8 (i := 100) (by decide +kernel) rfl
theorem jw_1781 : Cond.code ⟨"java/lang/StringUTF16", "charAt", "([BI)C"⟩ prog_37_method_83_code 2 (Option.some ClassFile.FieldType.char) ∈ jk_WS := jk_wt8 (i := 101) (by decide +kernel) rfl
theorem jw_1782 : Cond.methodLink "LevelingNetwork$Script" 72 ⟨"java/lang/Math", "max", "(II)I"⟩ ∈ jk_WS := jk_wt8 (i := 102) (by decide +kernel) rfl
theorem jw_1783 : Cond.methodLink "LevelingNetwork$Script" 52 ⟨"LevelingNetwork$Script", "readForm", "(Ljava/lang/String;[I)Z"⟩ ∈ jk_WS := jk_wt8 (i := 103) (by decide +kernel) rfl
theorem jw_1785 : Cond.instanceMethod ⟨"LevelingNetwork$Script", "readForm", "(Ljava/lang/String;[I)Z"⟩ ∈ jk_WS := jk_wt8 (i := 105) (by decide +kernel) rfl
theorem jw_1786 : Cond.code ⟨"LevelingNetwork$Script", "readForm", "(Ljava/lang/String;[I)Z"⟩ prog_9_method_7_code 8 (Option.some ClassFile.FieldType.boolean) ∈ jk_WS := jk_wt8 (i := 106) (by decide +kernel) rfl
theorem jw_1787 : Cond.methodLink "LevelingNetwork$Script" 85 ⟨"LevelingNetwork$Script", "mostDigits", "(C)I"⟩ ∈ jk_WS := jk_wt8 (i := 107) (by decide +kernel) rfl
theorem jw_1788 : Cond.static ⟨"LevelingNetwork$Script", "mostDigits", "(C)I"⟩ ∈ jk_WS := jk_wt8 (i := 108) (by decide +kernel) rfl
theorem jw_1789 : Cond.code ⟨"LevelingNetwork$Script", "mostDigits", "(C)I"⟩ prog_9_method_8_code 1 (Option.some ClassFile.FieldType.int) ∈ jk_WS := jk_wt8 (i := 109) (by decide +kernel) rfl
theorem jw_1790 : Cond.methodLink "LevelingNetwork$Script" 40 ⟨"LevelingNetwork$Script", "readSign", "(C)Z"⟩ ∈ jk_WS := jk_wt8 (i := 110) (by decide +kernel) rfl
theorem jw_1792 : Cond.instanceMethod ⟨"LevelingNetwork$Script", "readSign", "(C)Z"⟩ ∈ jk_WS := jk_wt8 (i := 112) (by decide +kernel) rfl
theorem jw_1793 : Cond.code ⟨"LevelingNetwork$Script", "readSign", "(C)Z"⟩ prog_9_method_10_code 3 (Option.some ClassFile.FieldType.boolean) ∈ jk_WS := jk_wt8 (i := 113) (by decide +kernel) rfl
theorem jw_1794 : Cond.methodLink "LevelingNetwork$Script" 89 ⟨"LevelingNetwork$Script", "readArgument", "(IZ[II)Z"⟩ ∈ jk_WS := jk_wt8 (i := 114) (by decide +kernel) rfl
theorem jw_1796 : Cond.instanceMethod ⟨"LevelingNetwork$Script", "readArgument", "(IZ[II)Z"⟩ ∈ jk_WS := jk_wt8 (i := 116) (by decide +kernel) rfl
theorem jw_1797 : Cond.code ⟨"LevelingNetwork$Script", "readArgument", "(IZ[II)Z"⟩ prog_9_method_9_code 8 (Option.some ClassFile.FieldType.boolean) ∈ jk_WS := jk_wt8 (i := 117) (by decide +kernel) rfl
theorem jw_1798 : Cond.methodLinkNest "LevelingNetwork$Script" 93 ⟨"LevelingNetwork", "within", "(III)Z"⟩ "LevelingNetwork" ∈ jk_WS := jk_wt8 (i := 118) (by decide +kernel) rfl
theorem jw_1800 : Cond.methodLink "LevelingNetwork" 401 ⟨"LevelingNetwork", "firstFailure", "()I"⟩ ∈ jk_WS := jk_wt8 (i := 120) (by decide +kernel) rfl
theorem jw_1802 : Cond.instanceMethod ⟨"LevelingNetwork", "firstFailure", "()I"⟩ ∈ jk_WS := jk_wt8 (i := 122) (by decide +kernel) rfl
theorem jw_1803 : Cond.code ⟨"LevelingNetwork", "firstFailure", "()I"⟩ prog_1_method_77_code 4 (Option.some ClassFile.FieldType.int) ∈ jk_WS := jk_wt8 (i := 123) (by decide +kernel) rfl
theorem jw_1804 : Cond.fieldLink "LevelingNetwork" 491 "LevelingNetwork$Trouble" "NOTHING" "LLevelingNetwork$Trouble;" ∈ jk_WS := jk_wt8 (i := 124) (by decide +kernel) rfl
theorem jw_1806 : Cond.methodLink "LevelingNetworkLaw" 388 ⟨"LevelingNetworkLaw", "errorPosition", "(LLevelingNetwork;[J)I"⟩ ∈ jk_WS := jk_wt8 (i := 126) (by decide +kernel) rfl
theorem jw_1807 : Cond.static ⟨"LevelingNetworkLaw", "errorPosition", "(LLevelingNetwork;[J)I"⟩ ∈ jk_WS := jk_wt8 (i := 127) (by decide +kernel) rfl
theorem jw_1808 : Cond.codeWith ⟨"LevelingNetworkLaw", "errorPosition", "(LLevelingNetwork;[J)I"⟩ method_51_code 3 (Option.some ClassFile.FieldType.int) [(0, 8, 11, 43)] ∈ jk_WS := jk_wt8 (i := 128) (by decide +kernel) rfl
theorem jw_1809 : Cond.methodLink "LevelingNetworkLaw" 175 ⟨"LevelingNetwork", "errorPosition", "()I"⟩ ∈ jk_WS := jk_wt8 (i := 129) (by decide +kernel) rfl
theorem jw_1810 : Cond.instanceMethod ⟨"LevelingNetwork", "errorPosition", "()I"⟩ ∈ jk_WS := jk_wt8 (i := 130) (by decide +kernel) rfl
theorem jw_1811 : Cond.selects "LevelingNetwork" ⟨"LevelingNetwork", "errorPosition", "()I"⟩ ⟨"LevelingNetwork", "errorPosition", "()I"⟩ ∈ jk_WS := jk_wt8 (i := 131) (by decide +kernel) rfl
theorem jw_1812 : Cond.code ⟨"LevelingNetwork", "errorPosition", "()I"⟩ prog_1_method_60_code 1 (Option.some ClassFile.FieldType.int) ∈ jk_WS := jk_wt8 (i := 132) (by decide +kernel) rfl
theorem jw_1814 : Cond.methodLink "LevelingNetworkLaw" 391 ⟨"LevelingNetworkLaw", "failedCommand", "(LLevelingNetwork;[J)I"⟩ ∈ jk_WS := jk_wt8 (i := 134) (by decide +kernel) rfl
theorem jw_1815 : Cond.static ⟨"LevelingNetworkLaw", "failedCommand", "(LLevelingNetwork;[J)I"⟩ ∈ jk_WS := jk_wt8 (i := 135) (by decide +kernel) rfl
theorem jw_1816 : Cond.codeWith ⟨"LevelingNetworkLaw", "failedCommand", "(LLevelingNetwork;[J)I"⟩ method_52_code 3 (Option.some ClassFile.FieldType.int) [(0, 8, 11, 43)] ∈ jk_WS := jk_wt8 (i := 136) (by decide +kernel) rfl
theorem jw_1817 : Cond.methodLink "LevelingNetworkLaw" 178 ⟨"LevelingNetwork", "failedCommand", "()I"⟩ ∈ jk_WS := jk_wt8 (i := 137) (by decide +kernel) rfl
theorem jw_1818 : Cond.instanceMethod ⟨"LevelingNetwork", "failedCommand", "()I"⟩ ∈ jk_WS := jk_wt8 (i := 138) (by decide +kernel) rfl
theorem jw_1819 : Cond.selects "LevelingNetwork" ⟨"LevelingNetwork", "failedCommand", "()I"⟩ ⟨"LevelingNetwork", "failedCommand", "()I"⟩ ∈ jk_WS := jk_wt8 (i := 139) (by decide +kernel) rfl
theorem jw_1820 : Cond.code ⟨"LevelingNetwork", "failedCommand", "()I"⟩ prog_1_method_61_code 1 (Option.some ClassFile.FieldType.int) ∈ jk_WS := jk_wt8 (i := 140) (by decide +kernel) rfl
theorem jw_1822 : Cond.methodLink "LevelingNetworkLaw" 394 ⟨"LevelingNetworkLaw", "undo", "(LLevelingNetwork;[J)I"⟩ ∈ jk_WS := jk_wt8 (i := 142) (by decide +kernel) rfl
theorem jw_1823 : Cond.static ⟨"LevelingNetworkLaw", "undo", "(LLevelingNetwork;[J)I"⟩ ∈ jk_WS := jk_wt8 (i := 143) (by decide +kernel) rfl
theorem jw_1824 : Cond.codeWith ⟨"LevelingNetworkLaw", "undo", "(LLevelingNetwork;[J)I"⟩ method_53_code 3 (Option.some ClassFile.FieldType.int) [(0, 8, 11, 43)] ∈ jk_WS := jk_wt8 (i := 144) (by decide +kernel) rfl
theorem jw_1825 : Cond.methodLink "LevelingNetworkLaw" 181 ⟨"LevelingNetwork", "undo", "()I"⟩ ∈ jk_WS := jk_wt8 (i := 145) (by decide +kernel) rfl
theorem jw_1826 : Cond.instanceMethod ⟨"LevelingNetwork", "undo", "()I"⟩ ∈ jk_WS := jk_wt8 (i := 146) (by decide +kernel) rfl
theorem jw_1827 : Cond.selects "LevelingNetwork" ⟨"LevelingNetwork", "undo", "()I"⟩ ⟨"LevelingNetwork", "undo", "()I"⟩ ∈ jk_WS := jk_wt8 (i := 147) (by decide +kernel) rfl
theorem jw_1828 : Cond.code ⟨"LevelingNetwork", "undo", "()I"⟩ prog_1_method_62_code 1 (Option.some ClassFile.FieldType.int) ∈ jk_WS := jk_wt8 (i := 148) (by decide +kernel) rfl
theorem jw_1830 : Cond.methodLink "LevelingNetwork" 419 ⟨"LevelingNetwork$History", "popInto", "(LLevelingNetwork$Survey;)V"⟩ ∈ jk_WS := jk_wt8 (i := 150) (by decide +kernel) rfl
theorem jw_1831 : Cond.instanceMethod ⟨"LevelingNetwork$History", "popInto", "(LLevelingNetwork$Survey;)V"⟩ ∈ jk_WS := jk_wt8 (i := 151) (by decide +kernel) rfl
theorem jw_1832 : Cond.selects "LevelingNetwork$History" ⟨"LevelingNetwork$History", "popInto", "(LLevelingNetwork$Survey;)V"⟩ ⟨"LevelingNetwork$History", "popInto", "(LLevelingNetwork$Survey;)V"⟩ ∈ jk_WS := jk_wt8 (i := 152) (by decide +kernel) rfl
theorem jw_1833 : Cond.code ⟨"LevelingNetwork$History", "popInto", "(LLevelingNetwork$Survey;)V"⟩ prog_7_method_3_code 2 (Option.none : Option ClassFile.FieldType) ∈ jk_WS := jk_wt8 (i := 153) (by decide +kernel) rfl
theorem jw_1834 : Cond.methodLink "LevelingNetworkLaw" 401 ⟨"LevelingNetworkLaw", "restore", "(LLevelingNetwork;[J)I"⟩ ∈ jk_WS := jk_wt8 (i := 154) (by decide +kernel) rfl
theorem jw_1835 : Cond.static ⟨"LevelingNetworkLaw", "restore", "(LLevelingNetwork;[J)I"⟩ ∈ jk_WS := jk_wt8 (i := 155) (by decide +kernel) rfl
theorem jw_1836 : Cond.codeWith ⟨"LevelingNetworkLaw", "restore", "(LLevelingNetwork;[J)I"⟩ method_54_code 3 (Option.some ClassFile.FieldType.int) [(0, 8, 11, 13)] ∈ jk_WS := jk_wt8 (i := 156) (by decide +kernel) rfl
theorem jw_1837 : Cond.methodLink "LevelingNetworkLaw" 184 ⟨"LevelingNetwork", "restore", "()I"⟩ ∈ jk_WS := jk_wt8 (i := 157) (by decide +kernel) rfl
theorem jw_1838 : Cond.instanceMethod ⟨"LevelingNetwork", "restore", "()I"⟩ ∈ jk_WS := jk_wt8 (i := 158) (by decide +kernel) rfl
theorem jw_1839 : Cond.selects "LevelingNetwork" ⟨"LevelingNetwork", "restore", "()I"⟩ ⟨"LevelingNetwork", "restore", "()I"⟩ ∈ jk_WS := jk_wt8 (i := 159) (by decide +kernel) rfl
theorem jw_1840 : Cond.code ⟨"LevelingNetwork", "restore", "()I"⟩ prog_1_method_64_code 1 (Option.some ClassFile.FieldType.int) ∈ jk_WS := jk_wt8 (i := 160) (by decide +kernel) rfl
theorem jw_1842 : Cond.classLink "LevelingNetworkLaw" 188 "LevelingNetworkModel" ∈ jk_WS := jk_wt8 (i := 162) (by decide +kernel) rfl
theorem jw_1843 : Cond.instantiable "LevelingNetworkModel" 23 ∈ jk_WS := jk_wt8 (i := 163) (by decide +kernel) rfl
theorem jw_1844 : Cond.methodLink "LevelingNetworkLaw" 190 ⟨"LevelingNetworkModel", "<init>", "()V"⟩ ∈ jk_WS := jk_wt8 (i := 164) (by decide +kernel) rfl
theorem jw_1845 : Cond.instanceMethod ⟨"LevelingNetworkModel", "<init>", "()V"⟩ ∈ jk_WS := jk_wt8 (i := 165) (by decide +kernel) rfl
theorem jw_1846 : Cond.code ⟨"LevelingNetworkModel", "<init>", "()V"⟩ prog_15_method_1_code 1 (Option.none : Option ClassFile.FieldType) ∈ jk_WS := jk_wt8 (i := 166) (by decide +kernel) rfl
theorem jw_1847 : Cond.methodLink "LevelingNetworkModel" 1 ⟨"java/lang/Object", "<init>", "()V"⟩ ∈ jk_WS := jk_wt8 (i := 167) (by decide +kernel) rfl
theorem jw_1848 : Cond.fieldLink "LevelingNetworkModel" 7 "LevelingNetworkModel" "g" "[I" ∈ jk_WS := jk_wt8 (i := 168) (by decide +kernel) rfl
theorem jw_1849 : Cond.fieldLink "LevelingNetworkModel" 13 "LevelingNetworkModel" "before" "[I" ∈ jk_WS := jk_wt8 (i := 169) (by decide +kernel) rfl
theorem jw_1850 : Cond.fieldLink "LevelingNetworkModel" 16 "LevelingNetworkModel" "history" "[I" ∈ jk_WS := jk_wt8 (i := 170) (by decide +kernel) rfl
theorem jw_1851 : Cond.fieldLink "LevelingNetworkModel" 68 "LevelingNetworkModel" "changes" "I" ∈ jk_WS := jk_wt8 (i := 171) (by decide +kernel) rfl
theorem jw_1852 : Cond.fieldLink "LevelingNetworkModel" 19 "LevelingNetworkModel" "savedState" "[I" ∈ jk_WS := jk_wt8 (i := 172) (by decide +kernel) rfl
theorem jw_1853 : Cond.fieldLink "LevelingNetworkModel" 314 "LevelingNetworkModel" "hasSaved" "Z" ∈ jk_WS := jk_wt8 (i := 173) (by decide +kernel) rfl
theorem jw_1854 : Cond.fieldLink "LevelingNetworkModel" 22 "LevelingNetworkModel" "buffer" "[C" ∈ jk_WS := jk_wt8 (i := 174) (by decide +kernel) rfl
theorem jw_1855 : Cond.fieldLink "LevelingNetworkModel" 264 "LevelingNetworkModel" "typed" "I" ∈ jk_WS := jk_wt8 (i := 175) (by decide +kernel) rfl
theorem jw_1856 : Cond.fieldLink "LevelingNetworkModel" 26 "LevelingNetworkModel" "errorAt" "I" ∈ jk_WS := jk_wt8 (i := 176) (by decide +kernel) rfl
theorem jw_1857 : Cond.fieldLink "LevelingNetworkModel" 30 "LevelingNetworkModel" "failedAt" "I" ∈ jk_WS := jk_wt8 (i := 177) (by decide +kernel) rfl
theorem jw_1858 : Cond.fieldLink "LevelingNetworkModel" 33 "LevelingNetworkModel" "letters" "[C" ∈ jk_WS := jk_wt8 (i := 178) (by decide +kernel) rfl
theorem jw_1859 : Cond.fieldLink "LevelingNetworkModel" 254 "LevelingNetworkModel" "outputLength" "I" ∈ jk_WS := jk_wt8 (i := 179) (by decide +kernel) rfl
theorem jw_1860 : Cond.fieldLink "LevelingNetworkModel" 61 "LevelingNetworkModel" "thrown" "I" ∈ jk_WS := jk_wt8 (i := 180) (by decide +kernel) rfl
theorem jw_1861 : Cond.fieldLink "LevelingNetworkModel" 36 "LevelingNetworkModel" "isTaken" "[I" ∈ jk_WS := jk_wt8 (i := 181) (by decide +kernel) rfl
theorem jw_1862 : Cond.fieldLink "LevelingNetworkModel" 39 "LevelingNetworkModel" "root" "[I" ∈ jk_WS := jk_wt8 (i := 182) (by decide +kernel) rfl
theorem jw_1863 : Cond.fieldLink "LevelingNetworkModel" 42 "LevelingNetworkModel" "level" "[I" ∈ jk_WS := jk_wt8 (i := 183) (by decide +kernel) rfl
theorem jw_1864 : Cond.fieldLink "LevelingNetworkModel" 45 "LevelingNetworkModel" "isKnown" "[Z" ∈ jk_WS := jk_wt8 (i := 184) (by decide +kernel) rfl
theorem jw_1865 : Cond.fieldLink "LevelingNetworkModel" 49 "LevelingNetworkModel" "sign" "[I" ∈ jk_WS := jk_wt8 (i := 185) (by decide +kernel) rfl
theorem jw_1866 : Cond.fieldLink "LevelingNetworkModel" 52 "LevelingNetworkModel" "parts" "[I" ∈ jk_WS := jk_wt8 (i := 186) (by decide +kernel) rfl
theorem jw_1867 : Cond.fieldLink "LevelingNetworkModel" 55 "LevelingNetworkModel" "reachedBy" "[I" ∈ jk_WS := jk_wt8 (i := 187) (by decide +kernel) rfl
theorem jw_1868 : Cond.fieldLink "LevelingNetworkModel" 267 "LevelingNetworkModel" "spot" "I" ∈ jk_WS := jk_wt8 (i := 188) (by decide +kernel) rfl
theorem jw_1869 : Cond.fieldLink "LevelingNetworkModel" 270 "LevelingNetworkModel" "isWrong" "Z" ∈ jk_WS := jk_wt8 (i := 189) (by decide +kernel) rfl
theorem jw_1870 : Cond.fieldLink "LevelingNetworkModel" 58 "LevelingNetworkModel" "parsed" "[I" ∈ jk_WS := jk_wt8 (i := 190) (by decide +kernel) rfl
theorem jw_1871 : Cond.laysFinal "LevelingNetworkModel" "LevelingNetworkModel" "g" "[I" ∈ jk_WS := jk_wt8 (i := 191) (by decide +kernel) rfl
theorem jw_1873 : Cond.laysFinal "LevelingNetworkModel" "LevelingNetworkModel" "before" "[I" ∈ jk_WS := jk_wt8 (i := 193) (by decide +kernel) rfl
theorem jw_1875 : Cond.laysFinal "LevelingNetworkModel" "LevelingNetworkModel" "history" "[I" ∈ jk_WS := jk_wt8 (i := 195) (by decide +kernel) rfl
theorem jw_1877 : Cond.lays "LevelingNetworkModel" "LevelingNetworkModel" "changes" "I" ∈ jk_WS := jk_wt8 (i := 197) (by decide +kernel) rfl
theorem jw_1879 : Cond.laysFinal "LevelingNetworkModel" "LevelingNetworkModel" "savedState" "[I" ∈ jk_WS := jk_wt8 (i := 199) (by decide +kernel) rfl
theorem jw_1881 : Cond.lays "LevelingNetworkModel" "LevelingNetworkModel" "hasSaved" "Z" ∈ jk_WS := jk_wt8 (i := 201) (by decide +kernel) rfl
theorem jw_1883 : Cond.laysFinal "LevelingNetworkModel" "LevelingNetworkModel" "buffer" "[C" ∈ jk_WS := jk_wt8 (i := 203) (by decide +kernel) rfl
theorem jw_1885 : Cond.lays "LevelingNetworkModel" "LevelingNetworkModel" "typed" "I" ∈ jk_WS := jk_wt8 (i := 205) (by decide +kernel) rfl
theorem jw_1887 : Cond.lays "LevelingNetworkModel" "LevelingNetworkModel" "errorAt" "I" ∈ jk_WS := jk_wt8 (i := 207) (by decide +kernel) rfl
theorem jw_1889 : Cond.lays "LevelingNetworkModel" "LevelingNetworkModel" "failedAt" "I" ∈ jk_WS := jk_wt8 (i := 209) (by decide +kernel) rfl
theorem jw_1891 : Cond.laysFinal "LevelingNetworkModel" "LevelingNetworkModel" "letters" "[C" ∈ jk_WS := jk_wt8 (i := 211) (by decide +kernel) rfl
theorem jw_1893 : Cond.lays "LevelingNetworkModel" "LevelingNetworkModel" "outputLength" "I" ∈ jk_WS := jk_wt8 (i := 213) (by decide +kernel) rfl
theorem jw_1895 : Cond.lays "LevelingNetworkModel" "LevelingNetworkModel" "thrown" "I" ∈ jk_WS := jk_wt8 (i := 215) (by decide +kernel) rfl
theorem jw_1897 : Cond.laysFinal "LevelingNetworkModel" "LevelingNetworkModel" "isTaken" "[I" ∈ jk_WS := jk_wt8 (i := 217) (by decide +kernel) rfl
theorem jw_1899 : Cond.laysFinal "LevelingNetworkModel" "LevelingNetworkModel" "root" "[I" ∈ jk_WS := jk_wt8 (i := 219) (by decide +kernel) rfl
theorem jw_1901 : Cond.laysFinal "LevelingNetworkModel" "LevelingNetworkModel" "level" "[I" ∈ jk_WS := jk_wt8 (i := 221) (by decide +kernel) rfl
theorem jw_1903 : Cond.laysFinal "LevelingNetworkModel" "LevelingNetworkModel" "isKnown" "[Z" ∈ jk_WS := jk_wt8 (i := 223) (by decide +kernel) rfl
theorem jw_1905 : Cond.laysFinal "LevelingNetworkModel" "LevelingNetworkModel" "sign" "[I" ∈ jk_WS := jk_wt8 (i := 225) (by decide +kernel) rfl
theorem jw_1907 : Cond.laysFinal "LevelingNetworkModel" "LevelingNetworkModel" "parts" "[I" ∈ jk_WS := jk_wt8 (i := 227) (by decide +kernel) rfl
theorem jw_1909 : Cond.laysFinal "LevelingNetworkModel" "LevelingNetworkModel" "reachedBy" "[I" ∈ jk_WS := jk_wt8 (i := 229) (by decide +kernel) rfl
theorem jw_1911 : Cond.lays "LevelingNetworkModel" "LevelingNetworkModel" "spot" "I" ∈ jk_WS := jk_wt8 (i := 231) (by decide +kernel) rfl
theorem jw_1913 : Cond.lays "LevelingNetworkModel" "LevelingNetworkModel" "isWrong" "Z" ∈ jk_WS := jk_wt8 (i := 233) (by decide +kernel) rfl
theorem jw_1915 : Cond.laysFinal "LevelingNetworkModel" "LevelingNetworkModel" "parsed" "[I" ∈ jk_WS := jk_wt8 (i := 235) (by decide +kernel) rfl
theorem jw_1917 : Cond.superclass "LevelingNetworkModel" "java/lang/Object" ∈ jk_WS := jk_wt8 (i := 237) (by decide +kernel) rfl
theorem jw_1918 : Cond.methodLink "LevelingNetworkLaw" 197 ⟨"LevelingNetworkModel", "thrown", "()I"⟩ ∈ jk_WS := jk_wt8 (i := 238) (by decide +kernel) rfl
theorem jw_1919 : Cond.instanceMethod ⟨"LevelingNetworkModel", "thrown", "()I"⟩ ∈ jk_WS := jk_wt8 (i := 239) (by decide +kernel) rfl
theorem jw_1920 : Cond.selects "LevelingNetworkModel" ⟨"LevelingNetworkModel", "thrown", "()I"⟩ ⟨"LevelingNetworkModel", "thrown", "()I"⟩ ∈ jk_WS := jk_wt9 (i := 0) (by decide +kernel) rfl
theorem jw_1921 : Cond.code ⟨"LevelingNetworkModel", "thrown", "()I"⟩ prog_15_method_2_code 1 (Option.some ClassFile.FieldType.int) ∈ jk_WS := jk_wt9 (i := 1) (by decide +kernel) rfl
theorem jw_1922 : Cond.methodLink "LevelingNetworkLaw" 196 ⟨"LevelingNetworkModel", "addBenchmark", "()I"⟩ ∈ jk_WS := jk_wt9 (i := 2) (by decide +kernel) rfl
theorem jw_1923 : Cond.instanceMethod ⟨"LevelingNetworkModel", "addBenchmark", "()I"⟩ ∈ jk_WS := jk_wt9 (i := 3) (by decide +kernel) rfl
theorem jw_1924 : Cond.selects "LevelingNetworkModel" ⟨"LevelingNetworkModel", "addBenchmark", "()I"⟩ ⟨"LevelingNetworkModel", "addBenchmark", "()I"⟩ ∈ jk_WS := jk_wt9 (i := 4) (by decide +kernel) rfl
theorem jw_1925 : Cond.code ⟨"LevelingNetworkModel", "addBenchmark", "()I"⟩ prog_15_method_36_code 1 (Option.some ClassFile.FieldType.int) ∈ jk_WS := jk_wt9 (i := 5) (by decide +kernel) rfl
theorem jw_1926 : Cond.methodLink "LevelingNetworkModel" 136 ⟨"LevelingNetworkModel", "begin", "()V"⟩ ∈ jk_WS := jk_wt9 (i := 6) (by decide +kernel) rfl
theorem jw_1928 : Cond.instanceMethod ⟨"LevelingNetworkModel", "begin", "()V"⟩ ∈ jk_WS := jk_wt9 (i := 8) (by decide +kernel) rfl
theorem jw_1929 : Cond.code ⟨"LevelingNetworkModel", "begin", "()V"⟩ prog_15_method_9_code 1 (Option.none : Option ClassFile.FieldType) ∈ jk_WS := jk_wt9 (i := 9) (by decide +kernel) rfl
theorem jw_1930 : Cond.methodLink "LevelingNetworkModel" 64 ⟨"LevelingNetworkModel", "copy", "([II[II)V"⟩ ∈ jk_WS := jk_wt9 (i := 10) (by decide +kernel) rfl
theorem jw_1931 : Cond.static ⟨"LevelingNetworkModel", "copy", "([II[II)V"⟩ ∈ jk_WS := jk_wt9 (i := 11) (by decide +kernel) rfl
theorem jw_1932 : Cond.code ⟨"LevelingNetworkModel", "copy", "([II[II)V"⟩ prog_15_method_8_code 5 (Option.none : Option ClassFile.FieldType) ∈ jk_WS := jk_wt9 (i := 12) (by decide +kernel) rfl
theorem jw_1933 : Cond.methodLink "LevelingNetworkModel" 139 ⟨"LevelingNetworkModel", "addsPoint", "()I"⟩ ∈ jk_WS := jk_wt9 (i := 13) (by decide +kernel) rfl
theorem jw_1935 : Cond.instanceMethod ⟨"LevelingNetworkModel", "addsPoint", "()I"⟩ ∈ jk_WS := jk_wt9 (i := 15) (by decide +kernel) rfl
theorem jw_1936 : Cond.code ⟨"LevelingNetworkModel", "addsPoint", "()I"⟩ prog_15_method_35_code 1 (Option.some ClassFile.FieldType.int) ∈ jk_WS := jk_wt9 (i := 16) (by decide +kernel) rfl
theorem jw_1937 : Cond.methodLink "LevelingNetworkModel" 130 ⟨"LevelingNetworkModel", "fails", "(I)I"⟩ ∈ jk_WS := jk_wt9 (i := 17) (by decide +kernel) rfl
theorem jw_1939 : Cond.instanceMethod ⟨"LevelingNetworkModel", "fails", "(I)I"⟩ ∈ jk_WS := jk_wt9 (i := 19) (by decide +kernel) rfl
theorem jw_1940 : Cond.code ⟨"LevelingNetworkModel", "fails", "(I)I"⟩ prog_15_method_7_code 2 (Option.some ClassFile.FieldType.int) ∈ jk_WS := jk_wt9 (i := 20) (by decide +kernel) rfl
theorem jw_1941 : Cond.methodLink "LevelingNetworkModel" 133 ⟨"LevelingNetworkModel", "done", "(I)I"⟩ ∈ jk_WS := jk_wt9 (i := 21) (by decide +kernel) rfl
theorem jw_1943 : Cond.instanceMethod ⟨"LevelingNetworkModel", "done", "(I)I"⟩ ∈ jk_WS := jk_wt9 (i := 23) (by decide +kernel) rfl
theorem jw_1944 : Cond.code ⟨"LevelingNetworkModel", "done", "(I)I"⟩ prog_15_method_6_code 2 (Option.some ClassFile.FieldType.int) ∈ jk_WS := jk_wt9 (i := 24) (by decide +kernel) rfl
theorem jw_1945 : Cond.methodLink "LevelingNetworkModel" 142 ⟨"LevelingNetworkModel", "kept", "(I)I"⟩ ∈ jk_WS := jk_wt9 (i := 25) (by decide +kernel) rfl
theorem jw_1947 : Cond.instanceMethod ⟨"LevelingNetworkModel", "kept", "(I)I"⟩ ∈ jk_WS := jk_wt9 (i := 27) (by decide +kernel) rfl
theorem jw_1948 : Cond.code ⟨"LevelingNetworkModel", "kept", "(I)I"⟩ prog_15_method_10_code 3 (Option.some ClassFile.FieldType.int) ∈ jk_WS := jk_wt9 (i := 28) (by decide +kernel) rfl
theorem jw_1949 : Cond.methodLink "LevelingNetworkLaw" 203 ⟨"LevelingNetworkModel", "fix", "(II)I"⟩ ∈ jk_WS := jk_wt9 (i := 29) (by decide +kernel) rfl
theorem jw_1950 : Cond.instanceMethod ⟨"LevelingNetworkModel", "fix", "(II)I"⟩ ∈ jk_WS := jk_wt9 (i := 30) (by decide +kernel) rfl
theorem jw_1951 : Cond.selects "LevelingNetworkModel" ⟨"LevelingNetworkModel", "fix", "(II)I"⟩ ⟨"LevelingNetworkModel", "fix", "(II)I"⟩ ∈ jk_WS := jk_wt9 (i := 31) (by decide +kernel) rfl
theorem jw_1952 : Cond.code ⟨"LevelingNetworkModel", "fix", "(II)I"⟩ prog_15_method_38_code 3 (Option.some ClassFile.FieldType.int) ∈ jk_WS := jk_wt9 (i := 32) (by decide +kernel) rfl
theorem jw_1953 : Cond.methodLink "LevelingNetworkModel" 150 ⟨"LevelingNetworkModel", "fixes", "(II)I"⟩ ∈ jk_WS := jk_wt9 (i := 33) (by decide +kernel) rfl
theorem jw_1955 : Cond.instanceMethod ⟨"LevelingNetworkModel", "fixes", "(II)I"⟩ ∈ jk_WS := jk_wt9 (i := 35) (by decide +kernel) rfl
theorem jw_1956 : Cond.code ⟨"LevelingNetworkModel", "fixes", "(II)I"⟩ prog_15_method_37_code 5 (Option.some ClassFile.FieldType.int) ∈ jk_WS := jk_wt9 (i := 36) (by decide +kernel) rfl
theorem jw_1957 : Cond.methodLink "LevelingNetworkModel" 145 ⟨"LevelingNetworkModel", "isPoint", "(I)Z"⟩ ∈ jk_WS := jk_wt9 (i := 37) (by decide +kernel) rfl
theorem jw_1959 : Cond.instanceMethod ⟨"LevelingNetworkModel", "isPoint", "(I)Z"⟩ ∈ jk_WS := jk_wt9 (i := 39) (by decide +kernel) rfl
theorem jw_1960 : Cond.code ⟨"LevelingNetworkModel", "isPoint", "(I)Z"⟩ prog_15_method_11_code 2 (Option.some ClassFile.FieldType.boolean) ∈ jk_WS := jk_wt9 (i := 40) (by decide +kernel) rfl
theorem jw_1961 : Cond.methodLink "LevelingNetworkModel" 71 ⟨"LevelingNetworkModel", "in", "(III)Z"⟩ ∈ jk_WS := jk_wt9 (i := 41) (by decide +kernel) rfl
theorem jw_1962 : Cond.static ⟨"LevelingNetworkModel", "in", "(III)Z"⟩ ∈ jk_WS := jk_wt9 (i := 42) (by decide +kernel) rfl
theorem jw_1963 : Cond.code ⟨"LevelingNetworkModel", "in", "(III)Z"⟩ prog_15_method_3_code 3 (Option.some ClassFile.FieldType.boolean) ∈ jk_WS := jk_wt9 (i := 43) (by decide +kernel) rfl
theorem jw_1964 : Cond.constant "LevelingNetworkModel" 148 (-99999 : Int32) ∈ jk_WS := jk_wt9 (i := 44) (by decide +kernel) rfl
theorem jw_1965 : Cond.constant "LevelingNetworkModel" 149 (99999 : Int32) ∈ jk_WS := jk_wt9 (i := 45) (by decide +kernel) rfl
theorem jw_1966 : Cond.methodLink "LevelingNetworkLaw" 207 ⟨"LevelingNetworkModel", "release", "(I)I"⟩ ∈ jk_WS := jk_wt9 (i := 46) (by decide +kernel) rfl
theorem jw_1967 : Cond.instanceMethod ⟨"LevelingNetworkModel", "release", "(I)I"⟩ ∈ jk_WS := jk_wt9 (i := 47) (by decide +kernel) rfl
theorem jw_1968 : Cond.selects "LevelingNetworkModel" ⟨"LevelingNetworkModel", "release", "(I)I"⟩ ⟨"LevelingNetworkModel", "release", "(I)I"⟩ ∈ jk_WS := jk_wt9 (i := 48) (by decide +kernel) rfl
theorem jw_1969 : Cond.code ⟨"LevelingNetworkModel", "release", "(I)I"⟩ prog_15_method_40_code 2 (Option.some ClassFile.FieldType.int) ∈ jk_WS := jk_wt9 (i := 49) (by decide +kernel) rfl
theorem jw_1970 : Cond.methodLink "LevelingNetworkModel" 153 ⟨"LevelingNetworkModel", "releases", "(I)I"⟩ ∈ jk_WS := jk_wt9 (i := 50) (by decide +kernel) rfl
theorem jw_1972 : Cond.instanceMethod ⟨"LevelingNetworkModel", "releases", "(I)I"⟩ ∈ jk_WS := jk_wt9 (i := 52) (by decide +kernel) rfl
theorem jw_1973 : Cond.code ⟨"LevelingNetworkModel", "releases", "(I)I"⟩ prog_15_method_39_code 2 (Option.some ClassFile.FieldType.int) ∈ jk_WS := jk_wt9 (i := 53) (by decide +kernel) rfl
theorem jw_1974 : Cond.methodLink "LevelingNetworkLaw" 211 ⟨"LevelingNetworkModel", "addLine", "(IIII)I"⟩ ∈ jk_WS := jk_wt9 (i := 54) (by decide +kernel) rfl
theorem jw_1975 : Cond.instanceMethod ⟨"LevelingNetworkModel", "addLine", "(IIII)I"⟩ ∈ jk_WS := jk_wt9 (i := 55) (by decide +kernel) rfl
theorem jw_1976 : Cond.selects "LevelingNetworkModel" ⟨"LevelingNetworkModel", "addLine", "(IIII)I"⟩ ⟨"LevelingNetworkModel", "addLine", "(IIII)I"⟩ ∈ jk_WS := jk_wt9 (i := 56) (by decide +kernel) rfl
theorem jw_1977 : Cond.code ⟨"LevelingNetworkModel", "addLine", "(IIII)I"⟩ prog_15_method_42_code 5 (Option.some ClassFile.FieldType.int) ∈ jk_WS := jk_wt9 (i := 57) (by decide +kernel) rfl
theorem jw_1978 : Cond.methodLink "LevelingNetworkModel" 156 ⟨"LevelingNetworkModel", "addsLine", "(IIII)I"⟩ ∈ jk_WS := jk_wt9 (i := 58) (by decide +kernel) rfl
theorem jw_1980 : Cond.instanceMethod ⟨"LevelingNetworkModel", "addsLine", "(IIII)I"⟩ ∈ jk_WS := jk_wt9 (i := 60) (by decide +kernel) rfl
theorem jw_1981 : Cond.code ⟨"LevelingNetworkModel", "addsLine", "(IIII)I"⟩ prog_15_method_41_code 6 (Option.some ClassFile.FieldType.int) ∈ jk_WS := jk_wt9 (i := 61) (by decide +kernel) rfl
theorem jw_1982 : Cond.methodLink "LevelingNetworkLaw" 214 ⟨"LevelingNetworkModel", "addBackwardRun", "(II)I"⟩ ∈ jk_WS := jk_wt9 (i := 62) (by decide +kernel) rfl
theorem jw_1983 : Cond.instanceMethod ⟨"LevelingNetworkModel", "addBackwardRun", "(II)I"⟩ ∈ jk_WS := jk_wt9 (i := 63) (by decide +kernel) rfl
theorem jw_1984 : Cond.selects "LevelingNetworkModel" ⟨"LevelingNetworkModel", "addBackwardRun", "(II)I"⟩ ⟨"LevelingNetworkModel", "addBackwardRun", "(II)I"⟩ ∈ jk_WS := jk_wt9 (i := 64) (by decide +kernel) rfl
theorem jw_1985 : Cond.code ⟨"LevelingNetworkModel", "addBackwardRun", "(II)I"⟩ prog_15_method_44_code 3 (Option.some ClassFile.FieldType.int) ∈ jk_WS := jk_wt9 (i := 65) (by decide +kernel) rfl
theorem jw_1986 : Cond.methodLink "LevelingNetworkModel" 163 ⟨"LevelingNetworkModel", "addsRun", "(II)I"⟩ ∈ jk_WS := jk_wt9 (i := 66) (by decide +kernel) rfl
theorem jw_1988 : Cond.instanceMethod ⟨"LevelingNetworkModel", "addsRun", "(II)I"⟩ ∈ jk_WS := jk_wt9 (i := 68) (by decide +kernel) rfl
theorem jw_1989 : Cond.code ⟨"LevelingNetworkModel", "addsRun", "(II)I"⟩ prog_15_method_43_code 3 (Option.some ClassFile.FieldType.int) ∈ jk_WS := jk_wt9 (i := 69) (by decide +kernel) rfl
theorem jw_1990 : Cond.methodLink "LevelingNetworkModel" 160 ⟨"LevelingNetworkModel", "isLine", "(I)Z"⟩ ∈ jk_WS := jk_wt9 (i := 70) (by decide +kernel) rfl
theorem jw_1992 : Cond.instanceMethod ⟨"LevelingNetworkModel", "isLine", "(I)Z"⟩ ∈ jk_WS := jk_wt9 (i := 72) (by decide +kernel) rfl
theorem jw_1993 : Cond.code ⟨"LevelingNetworkModel", "isLine", "(I)Z"⟩ prog_15_method_12_code 2 (Option.some ClassFile.FieldType.boolean) ∈ jk_WS := jk_wt9 (i := 73) (by decide +kernel) rfl
theorem jw_1994 : Cond.methodLink "LevelingNetworkModel" 75 ⟨"LevelingNetworkModel", "gapOf", "(I)I"⟩ ∈ jk_WS := jk_wt9 (i := 74) (by decide +kernel) rfl
theorem jw_1996 : Cond.instanceMethod ⟨"LevelingNetworkModel", "gapOf", "(I)I"⟩ ∈ jk_WS := jk_wt9 (i := 76) (by decide +kernel) rfl
theorem jw_1997 : Cond.code ⟨"LevelingNetworkModel", "gapOf", "(I)I"⟩ prog_15_method_15_code 2 (Option.some ClassFile.FieldType.int) ∈ jk_WS := jk_wt9 (i := 77) (by decide +kernel) rfl
theorem jw_1998 : Cond.methodLink "LevelingNetworkLaw" 217 ⟨"LevelingNetworkModel", "exclude", "(I)I"⟩ ∈ jk_WS := jk_wt9 (i := 78) (by decide +kernel) rfl
theorem jw_1999 : Cond.instanceMethod ⟨"LevelingNetworkModel", "exclude", "(I)I"⟩ ∈ jk_WS := jk_wt9 (i := 79) (by decide +kernel) rfl
theorem jw_2000 : Cond.selects "LevelingNetworkModel" ⟨"LevelingNetworkModel", "exclude", "(I)I"⟩ ⟨"LevelingNetworkModel", "exclude", "(I)I"⟩ ∈ jk_WS := jk_wt9 (i := 80) (by decide +kernel) rfl
theorem jw_2001 : Cond.code ⟨"LevelingNetworkModel", "exclude", "(I)I"⟩ prog_15_method_46_code 2 (Option.some ClassFile.FieldType.int) ∈ jk_WS := jk_wt9 (i := 81) (by decide +kernel) rfl
theorem jw_2002 : Cond.methodLink "LevelingNetworkModel" 169 ⟨"LevelingNetworkModel", "marks", "(II)I"⟩ ∈ jk_WS := jk_wt9 (i := 82) (by decide +kernel) rfl
theorem jw_2004 : Cond.instanceMethod ⟨"LevelingNetworkModel", "marks", "(II)I"⟩ ∈ jk_WS := jk_wt9 (i := 84) (by decide +kernel) rfl
theorem jw_2005 : Cond.code ⟨"LevelingNetworkModel", "marks", "(II)I"⟩ prog_15_method_45_code 3 (Option.some ClassFile.FieldType.int) ∈ jk_WS := jk_wt9 (i := 85) (by decide +kernel) rfl
theorem jw_2006 : Cond.methodLink "LevelingNetworkModel" 166 ⟨"LevelingNetworkModel", "goodOnes", "()I"⟩ ∈ jk_WS := jk_wt9 (i := 86) (by decide +kernel) rfl
theorem jw_2008 : Cond.instanceMethod ⟨"LevelingNetworkModel", "goodOnes", "()I"⟩ ∈ jk_WS := jk_wt9 (i := 88) (by decide +kernel) rfl
theorem jw_2009 : Cond.code ⟨"LevelingNetworkModel", "goodOnes", "()I"⟩ prog_15_method_17_code 3 (Option.some ClassFile.FieldType.int) ∈ jk_WS := jk_wt9 (i := 89) (by decide +kernel) rfl
theorem jw_2010 : Cond.methodLink "LevelingNetworkModel" 85 ⟨"LevelingNetworkModel", "isGood", "(I)Z"⟩ ∈ jk_WS := jk_wt9 (i := 90) (by decide +kernel) rfl
theorem jw_2012 : Cond.instanceMethod ⟨"LevelingNetworkModel", "isGood", "(I)Z"⟩ ∈ jk_WS := jk_wt9 (i := 92) (by decide +kernel) rfl
theorem jw_2013 : Cond.code ⟨"LevelingNetworkModel", "isGood", "(I)Z"⟩ prog_15_method_16_code 3 (Option.some ClassFile.FieldType.boolean) ∈ jk_WS := jk_wt9 (i := 93) (by decide +kernel) rfl
theorem jw_2014 : Cond.methodLink "LevelingNetworkModel" 79 ⟨"LevelingNetworkModel", "size", "(I)I"⟩ ∈ jk_WS := jk_wt9 (i := 94) (by decide +kernel) rfl
theorem jw_2015 : Cond.static ⟨"LevelingNetworkModel", "size", "(I)I"⟩ ∈ jk_WS := jk_wt9 (i := 95) (by decide +kernel) rfl
theorem jw_2016 : Cond.code ⟨"LevelingNetworkModel", "size", "(I)I"⟩ prog_15_method_4_code 1 (Option.some ClassFile.FieldType.int) ∈ jk_WS := jk_wt9 (i := 96) (by decide +kernel) rfl
theorem jw_2017 : Cond.methodLink "LevelingNetworkModel" 82 ⟨"LevelingNetworkModel", "allowed", "(I)I"⟩ ∈ jk_WS := jk_wt9 (i := 97) (by decide +kernel) rfl
theorem jw_2018 : Cond.static ⟨"LevelingNetworkModel", "allowed", "(I)I"⟩ ∈ jk_WS := jk_wt9 (i := 98) (by decide +kernel) rfl
theorem jw_2019 : Cond.code ⟨"LevelingNetworkModel", "allowed", "(I)I"⟩ prog_15_method_14_code 2 (Option.some ClassFile.FieldType.int) ∈ jk_WS := jk_wt9 (i := 99) (by decide +kernel) rfl
theorem jw_2020 : Cond.methodLink "LevelingNetworkLaw" 220 ⟨"LevelingNetworkModel", "include", "(I)I"⟩ ∈ jk_WS := jk_wt9 (i := 100) (by decide +kernel) rfl
theorem jw_2021 : Cond.instanceMethod ⟨"LevelingNetworkModel", "include", "(I)I"⟩ ∈ jk_WS := jk_wt9 (i := 101) (by decide +kernel) rfl
theorem jw_2022 : Cond.selects "LevelingNetworkModel" ⟨"LevelingNetworkModel", "include", "(I)I"⟩ ⟨"LevelingNetworkModel", "include", "(I)I"⟩ ∈ jk_WS := jk_wt9 (i := 102) (by decide +kernel) rfl
theorem jw_2023 : Cond.code ⟨"LevelingNetworkModel", "include", "(I)I"⟩ prog_15_method_47_code 2 (Option.some ClassFile.FieldType.int) ∈ jk_WS := jk_wt9 (i := 103) (by decide +kernel) rfl
theorem jw_2024 : Cond.methodLink "LevelingNetworkLaw" 223 ⟨"LevelingNetworkModel", "shareMisclosure", "(I)I"⟩ ∈ jk_WS := jk_wt9 (i := 104) (by decide +kernel) rfl
theorem jw_2025 : Cond.instanceMethod ⟨"LevelingNetworkModel", "shareMisclosure", "(I)I"⟩ ∈ jk_WS := jk_wt9 (i := 105) (by decide +kernel) rfl
theorem jw_2026 : Cond.selects "LevelingNetworkModel" ⟨"LevelingNetworkModel", "shareMisclosure", "(I)I"⟩ ⟨"LevelingNetworkModel", "shareMisclosure", "(I)I"⟩ ∈ jk_WS := jk_wt9 (i := 106) (by decide +kernel) rfl
theorem jw_2027 : Cond.code ⟨"LevelingNetworkModel", "shareMisclosure", "(I)I"⟩ prog_15_method_50_code 2 (Option.some ClassFile.FieldType.int) ∈ jk_WS := jk_wt9 (i := 107) (by decide +kernel) rfl
theorem jw_2028 : Cond.methodLink "LevelingNetworkModel" 187 ⟨"LevelingNetworkModel", "shares", "(I)I"⟩ ∈ jk_WS := jk_wt9 (i := 108) (by decide +kernel) rfl
theorem jw_2030 : Cond.instanceMethod ⟨"LevelingNetworkModel", "shares", "(I)I"⟩ ∈ jk_WS := jk_wt9 (i := 110) (by decide +kernel) rfl
theorem jw_2031 : Cond.code ⟨"LevelingNetworkModel", "shares", "(I)I"⟩ prog_15_method_49_code 6 (Option.some ClassFile.FieldType.int) ∈ jk_WS := jk_wt9 (i := 111) (by decide +kernel) rfl
theorem jw_2032 : Cond.methodLink "LevelingNetworkModel" 181 ⟨"LevelingNetworkModel", "whyNoLoop", "(I)I"⟩ ∈ jk_WS := jk_wt9 (i := 112) (by decide +kernel) rfl
theorem jw_2034 : Cond.instanceMethod ⟨"LevelingNetworkModel", "whyNoLoop", "(I)I"⟩ ∈ jk_WS := jk_wt9 (i := 114) (by decide +kernel) rfl
theorem jw_2035 : Cond.code ⟨"LevelingNetworkModel", "whyNoLoop", "(I)I"⟩ prog_15_method_48_code 2 (Option.some ClassFile.FieldType.int) ∈ jk_WS := jk_wt9 (i := 115) (by decide +kernel) rfl
theorem jw_2036 : Cond.methodLink "LevelingNetworkModel" 172 ⟨"LevelingNetworkModel", "grows", "()V"⟩ ∈ jk_WS := jk_wt9 (i := 116) (by decide +kernel) rfl
theorem jw_2038 : Cond.instanceMethod ⟨"LevelingNetworkModel", "grows", "()V"⟩ ∈ jk_WS := jk_wt9 (i := 118) (by decide +kernel) rfl
theorem jw_2039 : Cond.code ⟨"LevelingNetworkModel", "grows", "()V"⟩ prog_15_method_23_code 3 (Option.none : Option ClassFile.FieldType) ∈ jk_WS := jk_wt9 (i := 119) (by decide +kernel) rfl
theorem jw_2040 : Cond.methodLink "LevelingNetworkModel" 103 ⟨"LevelingNetworkModel", "takesLine", "(I)V"⟩ ∈ jk_WS := jk_wt9 (i := 120) (by decide +kernel) rfl
theorem jw_2042 : Cond.instanceMethod ⟨"LevelingNetworkModel", "takesLine", "(I)V"⟩ ∈ jk_WS := jk_wt9 (i := 122) (by decide +kernel) rfl
theorem jw_2043 : Cond.code ⟨"LevelingNetworkModel", "takesLine", "(I)V"⟩ prog_15_method_21_code 4 (Option.none : Option ClassFile.FieldType) ∈ jk_WS := jk_wt9 (i := 123) (by decide +kernel) rfl
theorem jw_2044 : Cond.methodLink "LevelingNetworkModel" 96 ⟨"LevelingNetworkModel", "unites", "(II)V"⟩ ∈ jk_WS := jk_wt9 (i := 124) (by decide +kernel) rfl
theorem jw_2046 : Cond.instanceMethod ⟨"LevelingNetworkModel", "unites", "(II)V"⟩ ∈ jk_WS := jk_wt9 (i := 126) (by decide +kernel) rfl
theorem jw_2047 : Cond.code ⟨"LevelingNetworkModel", "unites", "(II)V"⟩ prog_15_method_20_code 6 (Option.none : Option ClassFile.FieldType) ∈ jk_WS := jk_wt9 (i := 127) (by decide +kernel) rfl
theorem jw_2048 : Cond.methodLink "LevelingNetworkModel" 107 ⟨"LevelingNetworkModel", "passes", "(I)Z"⟩ ∈ jk_WS := jk_wt9 (i := 128) (by decide +kernel) rfl
theorem jw_2050 : Cond.instanceMethod ⟨"LevelingNetworkModel", "passes", "(I)Z"⟩ ∈ jk_WS := jk_wt9 (i := 130) (by decide +kernel) rfl
theorem jw_2051 : Cond.code ⟨"LevelingNetworkModel", "passes", "(I)Z"⟩ prog_15_method_22_code 4 (Option.some ClassFile.FieldType.boolean) ∈ jk_WS := jk_wt9 (i := 131) (by decide +kernel) rfl
theorem jw_2052 : Cond.methodLink "LevelingNetworkModel" 100 ⟨"LevelingNetworkModel", "corrected", "(I)I"⟩ ∈ jk_WS := jk_wt9 (i := 132) (by decide +kernel) rfl
theorem jw_2054 : Cond.instanceMethod ⟨"LevelingNetworkModel", "corrected", "(I)I"⟩ ∈ jk_WS := jk_wt9 (i := 134) (by decide +kernel) rfl
theorem jw_2055 : Cond.code ⟨"LevelingNetworkModel", "corrected", "(I)I"⟩ prog_15_method_19_code 2 (Option.some ClassFile.FieldType.int) ∈ jk_WS := jk_wt9 (i := 135) (by decide +kernel) rfl
theorem jw_2056 : Cond.methodLink "LevelingNetworkModel" 93 ⟨"LevelingNetworkModel", "levelled", "(I)I"⟩ ∈ jk_WS := jk_wt9 (i := 136) (by decide +kernel) rfl
theorem jw_2058 : Cond.instanceMethod ⟨"LevelingNetworkModel", "levelled", "(I)I"⟩ ∈ jk_WS := jk_wt9 (i := 138) (by decide +kernel) rfl
theorem jw_2059 : Cond.code ⟨"LevelingNetworkModel", "levelled", "(I)I"⟩ prog_15_method_18_code 2 (Option.some ClassFile.FieldType.int) ∈ jk_WS := jk_wt9 (i := 139) (by decide +kernel) rfl
theorem jw_2060 : Cond.methodLink "LevelingNetworkModel" 89 ⟨"LevelingNetworkModel", "quotient", "(II)I"⟩ ∈ jk_WS := jk_wt9 (i := 140) (by decide +kernel) rfl
theorem jw_2061 : Cond.static ⟨"LevelingNetworkModel", "quotient", "(II)I"⟩ ∈ jk_WS := jk_wt9 (i := 141) (by decide +kernel) rfl
theorem jw_2062 : Cond.code ⟨"LevelingNetworkModel", "quotient", "(II)I"⟩ prog_15_method_5_code 2 (Option.some ClassFile.FieldType.int) ∈ jk_WS := jk_wt9 (i := 142) (by decide +kernel) rfl
theorem jw_2063 : Cond.methodLink "LevelingNetworkModel" 175 ⟨"LevelingNetworkModel", "closes", "(I)Z"⟩ ∈ jk_WS := jk_wt9 (i := 143) (by decide +kernel) rfl
theorem jw_2065 : Cond.instanceMethod ⟨"LevelingNetworkModel", "closes", "(I)Z"⟩ ∈ jk_WS := jk_wt9 (i := 145) (by decide +kernel) rfl
theorem jw_2066 : Cond.code ⟨"LevelingNetworkModel", "closes", "(I)Z"⟩ prog_15_method_24_code 2 (Option.some ClassFile.FieldType.boolean) ∈ jk_WS := jk_wt9 (i := 146) (by decide +kernel) rfl
theorem jw_2067 : Cond.methodLink "LevelingNetworkModel" 178 ⟨"LevelingNetworkModel", "circles", "(I)V"⟩ ∈ jk_WS := jk_wt9 (i := 147) (by decide +kernel) rfl
theorem jw_2069 : Cond.instanceMethod ⟨"LevelingNetworkModel", "circles", "(I)V"⟩ ∈ jk_WS := jk_wt9 (i := 149) (by decide +kernel) rfl
theorem jw_2070 : Cond.code ⟨"LevelingNetworkModel", "circles", "(I)V"⟩ prog_15_method_30_code 4 (Option.none : Option ClassFile.FieldType) ∈ jk_WS := jk_wt9 (i := 150) (by decide +kernel) rfl
theorem jw_2071 : Cond.methodLink "LevelingNetworkModel" 116 ⟨"LevelingNetworkModel", "reaches", "(I)V"⟩ ∈ jk_WS := jk_wt9 (i := 151) (by decide +kernel) rfl
theorem jw_2073 : Cond.instanceMethod ⟨"LevelingNetworkModel", "reaches", "(I)V"⟩ ∈ jk_WS := jk_wt9 (i := 153) (by decide +kernel) rfl
theorem jw_2074 : Cond.code ⟨"LevelingNetworkModel", "reaches", "(I)V"⟩ prog_15_method_29_code 6 (Option.none : Option ClassFile.FieldType) ∈ jk_WS := jk_wt9 (i := 154) (by decide +kernel) rfl
theorem jw_2075 : Cond.methodLink "LevelingNetworkModel" 119 ⟨"LevelingNetworkModel", "errorAround", "()I"⟩ ∈ jk_WS := jk_wt9 (i := 155) (by decide +kernel) rfl
theorem jw_2077 : Cond.instanceMethod ⟨"LevelingNetworkModel", "errorAround", "()I"⟩ ∈ jk_WS := jk_wt9 (i := 157) (by decide +kernel) rfl
theorem jw_2078 : Cond.code ⟨"LevelingNetworkModel", "errorAround", "()I"⟩ prog_15_method_32_code 3 (Option.some ClassFile.FieldType.int) ∈ jk_WS := jk_wt9 (i := 158) (by decide +kernel) rfl
theorem jw_2079 : Cond.methodLink "LevelingNetworkModel" 123 ⟨"LevelingNetworkModel", "lengthAround", "()I"⟩ ∈ jk_WS := jk_wt9 (i := 159) (by decide +kernel) rfl
theorem jw_2081 : Cond.instanceMethod ⟨"LevelingNetworkModel", "lengthAround", "()I"⟩ ∈ jk_WS := jk_wt9 (i := 161) (by decide +kernel) rfl
theorem jw_2082 : Cond.code ⟨"LevelingNetworkModel", "lengthAround", "()I"⟩ prog_15_method_31_code 3 (Option.some ClassFile.FieldType.int) ∈ jk_WS := jk_wt9 (i := 162) (by decide +kernel) rfl
theorem jw_2083 : Cond.methodLink "LevelingNetworkModel" 184 ⟨"LevelingNetworkModel", "sharesOut", "()V"⟩ ∈ jk_WS := jk_wt9 (i := 163) (by decide +kernel) rfl
theorem jw_2085 : Cond.instanceMethod ⟨"LevelingNetworkModel", "sharesOut", "()V"⟩ ∈ jk_WS := jk_wt9 (i := 165) (by decide +kernel) rfl
theorem jw_2086 : Cond.code ⟨"LevelingNetworkModel", "sharesOut", "()V"⟩ prog_15_method_34_code 9 (Option.none : Option ClassFile.FieldType) ∈ jk_WS := jk_wt9 (i := 166) (by decide +kernel) rfl
theorem jw_2087 : Cond.methodLink "LevelingNetworkModel" 126 ⟨"LevelingNetworkModel", "remainder", "(III)I"⟩ ∈ jk_WS := jk_wt9 (i := 167) (by decide +kernel) rfl
theorem jw_2089 : Cond.instanceMethod ⟨"LevelingNetworkModel", "remainder", "(III)I"⟩ ∈ jk_WS := jk_wt9 (i := 169) (by decide +kernel) rfl
theorem jw_2090 : Cond.code ⟨"LevelingNetworkModel", "remainder", "(III)I"⟩ prog_15_method_33_code 4 (Option.some ClassFile.FieldType.int) ∈ jk_WS := jk_wt9 (i := 170) (by decide +kernel) rfl
theorem jw_2091 : Cond.methodLink "LevelingNetworkLaw" 227 ⟨"LevelingNetworkModel", "resetCorrections", "()I"⟩ ∈ jk_WS := jk_wt9 (i := 171) (by decide +kernel) rfl
theorem jw_2092 : Cond.instanceMethod ⟨"LevelingNetworkModel", "resetCorrections", "()I"⟩ ∈ jk_WS := jk_wt9 (i := 172) (by decide +kernel) rfl
theorem jw_2093 : Cond.selects "LevelingNetworkModel" ⟨"LevelingNetworkModel", "resetCorrections", "()I"⟩ ⟨"LevelingNetworkModel", "resetCorrections", "()I"⟩ ∈ jk_WS := jk_wt9 (i := 173) (by decide +kernel) rfl
theorem jw_2094 : Cond.code ⟨"LevelingNetworkModel", "resetCorrections", "()I"⟩ prog_15_method_52_code 1 (Option.some ClassFile.FieldType.int) ∈ jk_WS := jk_wt9 (i := 174) (by decide +kernel) rfl
theorem jw_2095 : Cond.methodLink "LevelingNetworkModel" 190 ⟨"LevelingNetworkModel", "resets", "()I"⟩ ∈ jk_WS := jk_wt9 (i := 175) (by decide +kernel) rfl
theorem jw_2097 : Cond.instanceMethod ⟨"LevelingNetworkModel", "resets", "()I"⟩ ∈ jk_WS := jk_wt9 (i := 177) (by decide +kernel) rfl
theorem jw_2098 : Cond.code ⟨"LevelingNetworkModel", "resets", "()I"⟩ prog_15_method_51_code 3 (Option.some ClassFile.FieldType.int) ∈ jk_WS := jk_wt9 (i := 178) (by decide +kernel) rfl
theorem jw_2099 : Cond.methodLink "LevelingNetworkLaw" 230 ⟨"LevelingNetworkModel", "addProfile", "(I)I"⟩ ∈ jk_WS := jk_wt9 (i := 179) (by decide +kernel) rfl
theorem jw_2100 : Cond.instanceMethod ⟨"LevelingNetworkModel", "addProfile", "(I)I"⟩ ∈ jk_WS := jk_wt9 (i := 180) (by decide +kernel) rfl
theorem jw_2101 : Cond.selects "LevelingNetworkModel" ⟨"LevelingNetworkModel", "addProfile", "(I)I"⟩ ⟨"LevelingNetworkModel", "addProfile", "(I)I"⟩ ∈ jk_WS := jk_wt9 (i := 181) (by decide +kernel) rfl
theorem jw_2102 : Cond.code ⟨"LevelingNetworkModel", "addProfile", "(I)I"⟩ prog_15_method_54_code 2 (Option.some ClassFile.FieldType.int) ∈ jk_WS := jk_wt9 (i := 182) (by decide +kernel) rfl
theorem jw_2103 : Cond.methodLink "LevelingNetworkModel" 193 ⟨"LevelingNetworkModel", "addsProfile", "(I)I"⟩ ∈ jk_WS := jk_wt9 (i := 183) (by decide +kernel) rfl
theorem jw_2105 : Cond.instanceMethod ⟨"LevelingNetworkModel", "addsProfile", "(I)I"⟩ ∈ jk_WS := jk_wt9 (i := 185) (by decide +kernel) rfl
theorem jw_2106 : Cond.code ⟨"LevelingNetworkModel", "addsProfile", "(I)I"⟩ prog_15_method_53_code 3 (Option.some ClassFile.FieldType.int) ∈ jk_WS := jk_wt9 (i := 186) (by decide +kernel) rfl
theorem jw_2107 : Cond.methodLink "LevelingNetworkLaw" 234 ⟨"LevelingNetworkModel", "addStation", "(III)I"⟩ ∈ jk_WS := jk_wt9 (i := 187) (by decide +kernel) rfl
theorem jw_2108 : Cond.instanceMethod ⟨"LevelingNetworkModel", "addStation", "(III)I"⟩ ∈ jk_WS := jk_wt9 (i := 188) (by decide +kernel) rfl
theorem jw_2109 : Cond.selects "LevelingNetworkModel" ⟨"LevelingNetworkModel", "addStation", "(III)I"⟩ ⟨"LevelingNetworkModel", "addStation", "(III)I"⟩ ∈ jk_WS := jk_wt9 (i := 189) (by decide +kernel) rfl
theorem jw_2110 : Cond.code ⟨"LevelingNetworkModel", "addStation", "(III)I"⟩ prog_15_method_57_code 4 (Option.some ClassFile.FieldType.int) ∈ jk_WS := jk_wt9 (i := 190) (by decide +kernel) rfl
theorem jw_2111 : Cond.methodLink "LevelingNetworkModel" 202 ⟨"LevelingNetworkModel", "addsStation", "(III)I"⟩ ∈ jk_WS := jk_wt9 (i := 191) (by decide +kernel) rfl
theorem jw_2113 : Cond.instanceMethod ⟨"LevelingNetworkModel", "addsStation", "(III)I"⟩ ∈ jk_WS := jk_wt9 (i := 193) (by decide +kernel) rfl
theorem jw_2114 : Cond.code ⟨"LevelingNetworkModel", "addsStation", "(III)I"⟩ prog_15_method_56_code 5 (Option.some ClassFile.FieldType.int) ∈ jk_WS := jk_wt9 (i := 194) (by decide +kernel) rfl
theorem jw_2115 : Cond.methodLink "LevelingNetworkModel" 196 ⟨"LevelingNetworkModel", "isProfile", "(I)Z"⟩ ∈ jk_WS := jk_wt9 (i := 195) (by decide +kernel) rfl
theorem jw_2117 : Cond.instanceMethod ⟨"LevelingNetworkModel", "isProfile", "(I)Z"⟩ ∈ jk_WS := jk_wt9 (i := 197) (by decide +kernel) rfl
theorem jw_2118 : Cond.code ⟨"LevelingNetworkModel", "isProfile", "(I)Z"⟩ prog_15_method_13_code 2 (Option.some ClassFile.FieldType.boolean) ∈ jk_WS := jk_wt9 (i := 198) (by decide +kernel) rfl
theorem jw_2119 : Cond.methodLink "LevelingNetworkModel" 199 ⟨"LevelingNetworkModel", "distanceOf", "(II)I"⟩ ∈ jk_WS := jk_wt9 (i := 199) (by decide +kernel) rfl
theorem jw_2121 : Cond.instanceMethod ⟨"LevelingNetworkModel", "distanceOf", "(II)I"⟩ ∈ jk_WS := jk_wt9 (i := 201) (by decide +kernel) rfl
theorem jw_2122 : Cond.code ⟨"LevelingNetworkModel", "distanceOf", "(II)I"⟩ prog_15_method_55_code 3 (Option.some ClassFile.FieldType.int) ∈ jk_WS := jk_wt9 (i := 202) (by decide +kernel) rfl
theorem jw_2123 : Cond.methodLink "LevelingNetworkLaw" 237 ⟨"LevelingNetworkModel", "setWaterLevel", "(I)I"⟩ ∈ jk_WS := jk_wt9 (i := 203) (by decide +kernel) rfl
theorem jw_2124 : Cond.instanceMethod ⟨"LevelingNetworkModel", "setWaterLevel", "(I)I"⟩ ∈ jk_WS := jk_wt9 (i := 204) (by decide +kernel) rfl
theorem jw_2125 : Cond.selects "LevelingNetworkModel" ⟨"LevelingNetworkModel", "setWaterLevel", "(I)I"⟩ ⟨"LevelingNetworkModel", "setWaterLevel", "(I)I"⟩ ∈ jk_WS := jk_wt9 (i := 205) (by decide +kernel) rfl
theorem jw_2126 : Cond.code ⟨"LevelingNetworkModel", "setWaterLevel", "(I)I"⟩ prog_15_method_59_code 2 (Option.some ClassFile.FieldType.int) ∈ jk_WS := jk_wt9 (i := 206) (by decide +kernel) rfl
theorem jw_2127 : Cond.methodLink "LevelingNetworkModel" 205 ⟨"LevelingNetworkModel", "setsWater", "(I)I"⟩ ∈ jk_WS := jk_wt9 (i := 207) (by decide +kernel) rfl
theorem jw_2129 : Cond.instanceMethod ⟨"LevelingNetworkModel", "setsWater", "(I)I"⟩ ∈ jk_WS := jk_wt9 (i := 209) (by decide +kernel) rfl
theorem jw_2130 : Cond.code ⟨"LevelingNetworkModel", "setsWater", "(I)I"⟩ prog_15_method_58_code 3 (Option.some ClassFile.FieldType.int) ∈ jk_WS := jk_wt9 (i := 210) (by decide +kernel) rfl
theorem jw_2131 : Cond.methodLink "LevelingNetworkLaw" 241 ⟨"LevelingNetworkModel", "benchmarkCount", "()I"⟩ ∈ jk_WS := jk_wt9 (i := 211) (by decide +kernel) rfl
theorem jw_2132 : Cond.instanceMethod ⟨"LevelingNetworkModel", "benchmarkCount", "()I"⟩ ∈ jk_WS := jk_wt9 (i := 212) (by decide +kernel) rfl
theorem jw_2133 : Cond.selects "LevelingNetworkModel" ⟨"LevelingNetworkModel", "benchmarkCount", "()I"⟩ ⟨"LevelingNetworkModel", "benchmarkCount", "()I"⟩ ∈ jk_WS := jk_wt9 (i := 213) (by decide +kernel) rfl
theorem jw_2134 : Cond.code ⟨"LevelingNetworkModel", "benchmarkCount", "()I"⟩ prog_15_method_60_code 1 (Option.some ClassFile.FieldType.int) ∈ jk_WS := jk_wt9 (i := 214) (by decide +kernel) rfl
theorem jw_2135 : Cond.methodLink "LevelingNetworkLaw" 244 ⟨"LevelingNetworkModel", "isFixed", "(I)Z"⟩ ∈ jk_WS := jk_wt9 (i := 215) (by decide +kernel) rfl
theorem jw_2136 : Cond.instanceMethod ⟨"LevelingNetworkModel", "isFixed", "(I)Z"⟩ ∈ jk_WS := jk_wt9 (i := 216) (by decide +kernel) rfl
theorem jw_2137 : Cond.selects "LevelingNetworkModel" ⟨"LevelingNetworkModel", "isFixed", "(I)Z"⟩ ⟨"LevelingNetworkModel", "isFixed", "(I)Z"⟩ ∈ jk_WS := jk_wt9 (i := 217) (by decide +kernel) rfl
theorem jw_2138 : Cond.code ⟨"LevelingNetworkModel", "isFixed", "(I)Z"⟩ prog_15_method_61_code 2 (Option.some ClassFile.FieldType.boolean) ∈ jk_WS := jk_wt9 (i := 218) (by decide +kernel) rfl
theorem jw_2139 : Cond.methodLink "LevelingNetworkLaw" 247 ⟨"LevelingNetworkModel", "hasHeight", "(I)Z"⟩ ∈ jk_WS := jk_wt9 (i := 219) (by decide +kernel) rfl
theorem jw_2140 : Cond.instanceMethod ⟨"LevelingNetworkModel", "hasHeight", "(I)Z"⟩ ∈ jk_WS := jk_wt9 (i := 220) (by decide +kernel) rfl
theorem jw_2141 : Cond.selects "LevelingNetworkModel" ⟨"LevelingNetworkModel", "hasHeight", "(I)Z"⟩ ⟨"LevelingNetworkModel", "hasHeight", "(I)Z"⟩ ∈ jk_WS := jk_wt9 (i := 221) (by decide +kernel) rfl
theorem jw_2142 : Cond.code ⟨"LevelingNetworkModel", "hasHeight", "(I)Z"⟩ prog_15_method_62_code 2 (Option.some ClassFile.FieldType.boolean) ∈ jk_WS := jk_wt9 (i := 222) (by decide +kernel) rfl
theorem jw_2143 : Cond.methodLink "LevelingNetworkModel" 208 ⟨"LevelingNetworkModel", "isHigh", "(I)Z"⟩ ∈ jk_WS := jk_wt9 (i := 223) (by decide +kernel) rfl
theorem jw_2145 : Cond.instanceMethod ⟨"LevelingNetworkModel", "isHigh", "(I)Z"⟩ ∈ jk_WS := jk_wt9 (i := 225) (by decide +kernel) rfl
theorem jw_2146 : Cond.code ⟨"LevelingNetworkModel", "isHigh", "(I)Z"⟩ prog_15_method_27_code 2 (Option.some ClassFile.FieldType.boolean) ∈ jk_WS := jk_wt9 (i := 226) (by decide +kernel) rfl
theorem jw_2147 : Cond.methodLink "LevelingNetworkModel" 110 ⟨"LevelingNetworkModel", "datumOf", "(I)I"⟩ ∈ jk_WS := jk_wt9 (i := 227) (by decide +kernel) rfl
theorem jw_2149 : Cond.instanceMethod ⟨"LevelingNetworkModel", "datumOf", "(I)I"⟩ ∈ jk_WS := jk_wt9 (i := 229) (by decide +kernel) rfl
theorem jw_2150 : Cond.code ⟨"LevelingNetworkModel", "datumOf", "(I)I"⟩ prog_15_method_25_code 3 (Option.some ClassFile.FieldType.int) ∈ jk_WS := jk_wt9 (i := 230) (by decide +kernel) rfl
theorem jw_2151 : Cond.methodLink "LevelingNetworkLaw" 250 ⟨"LevelingNetworkModel", "height", "(I)I"⟩ ∈ jk_WS := jk_wt9 (i := 231) (by decide +kernel) rfl
theorem jw_2152 : Cond.instanceMethod ⟨"LevelingNetworkModel", "height", "(I)I"⟩ ∈ jk_WS := jk_wt9 (i := 232) (by decide +kernel) rfl
theorem jw_2153 : Cond.selects "LevelingNetworkModel" ⟨"LevelingNetworkModel", "height", "(I)I"⟩ ⟨"LevelingNetworkModel", "height", "(I)I"⟩ ∈ jk_WS := jk_wt9 (i := 233) (by decide +kernel) rfl
theorem jw_2154 : Cond.code ⟨"LevelingNetworkModel", "height", "(I)I"⟩ prog_15_method_63_code 2 (Option.some ClassFile.FieldType.int) ∈ jk_WS := jk_wt9 (i := 234) (by decide +kernel) rfl
theorem jw_2155 : Cond.methodLink "LevelingNetworkModel" 211 ⟨"LevelingNetworkModel", "heightOf", "(I)I"⟩ ∈ jk_WS := jk_wt9 (i := 235) (by decide +kernel) rfl
theorem jw_2157 : Cond.instanceMethod ⟨"LevelingNetworkModel", "heightOf", "(I)I"⟩ ∈ jk_WS := jk_wt9 (i := 237) (by decide +kernel) rfl
theorem jw_2158 : Cond.code ⟨"LevelingNetworkModel", "heightOf", "(I)I"⟩ prog_15_method_28_code 2 (Option.some ClassFile.FieldType.int) ∈ jk_WS := jk_wt9 (i := 238) (by decide +kernel) rfl
theorem jw_2159 : Cond.methodLink "LevelingNetworkModel" 113 ⟨"LevelingNetworkModel", "byDatum", "(I)I"⟩ ∈ jk_WS := jk_wt9 (i := 239) (by decide +kernel) rfl
theorem jw_2161 : Cond.instanceMethod ⟨"LevelingNetworkModel", "byDatum", "(I)I"⟩ ∈ jk_WS := jk_wt10 (i := 1) (by decide +kernel) rfl
theorem jw_2162 : Cond.code ⟨"LevelingNetworkModel", "byDatum", "(I)I"⟩ prog_15_method_26_code 3 (Option.some ClassFile.FieldType.int) ∈ jk_WS := jk_wt10 (i := 2) (by decide +kernel) rfl
theorem jw_2163 : Cond.methodLink "LevelingNetworkLaw" 253 ⟨"LevelingNetworkModel", "heightByRounds", "(I)I"⟩ ∈ jk_WS := jk_wt10 (i := 3) (by decide +kernel) rfl
theorem jw_2164 : Cond.instanceMethod ⟨"LevelingNetworkModel", "heightByRounds", "(I)I"⟩ ∈ jk_WS := jk_wt10 (i := 4) (by decide +kernel) rfl
theorem jw_2165 : Cond.selects "LevelingNetworkModel" ⟨"LevelingNetworkModel", "heightByRounds", "(I)I"⟩ ⟨"LevelingNetworkModel", "heightByRounds", "(I)I"⟩ ∈ jk_WS := jk_wt10 (i := 5) (by decide +kernel) rfl
theorem jw_2166 : Cond.code ⟨"LevelingNetworkModel", "heightByRounds", "(I)I"⟩ prog_15_method_64_code 2 (Option.some ClassFile.FieldType.int) ∈ jk_WS := jk_wt10 (i := 6) (by decide +kernel) rfl
theorem jw_2167 : Cond.methodLink "LevelingNetworkModel" 214 ⟨"LevelingNetworkModel", "height", "(I)I"⟩ ∈ jk_WS := jk_wt10 (i := 7) (by decide +kernel) rfl
theorem jw_2168 : Cond.methodLink "LevelingNetworkLaw" 256 ⟨"LevelingNetworkModel", "closingError", "(I)I"⟩ ∈ jk_WS := jk_wt10 (i := 8) (by decide +kernel) rfl
theorem jw_2169 : Cond.instanceMethod ⟨"LevelingNetworkModel", "closingError", "(I)I"⟩ ∈ jk_WS := jk_wt10 (i := 9) (by decide +kernel) rfl
theorem jw_2170 : Cond.selects "LevelingNetworkModel" ⟨"LevelingNetworkModel", "closingError", "(I)I"⟩ ⟨"LevelingNetworkModel", "closingError", "(I)I"⟩ ∈ jk_WS := jk_wt10 (i := 10) (by decide +kernel) rfl
theorem jw_2171 : Cond.code ⟨"LevelingNetworkModel", "closingError", "(I)I"⟩ prog_15_method_65_code 2 (Option.some ClassFile.FieldType.int) ∈ jk_WS := jk_wt10 (i := 11) (by decide +kernel) rfl
theorem jw_2172 : Cond.methodLink "LevelingNetworkLaw" 259 ⟨"LevelingNetworkModel", "datum", "(I)I"⟩ ∈ jk_WS := jk_wt10 (i := 12) (by decide +kernel) rfl
theorem jw_2173 : Cond.instanceMethod ⟨"LevelingNetworkModel", "datum", "(I)I"⟩ ∈ jk_WS := jk_wt10 (i := 13) (by decide +kernel) rfl
theorem jw_2174 : Cond.selects "LevelingNetworkModel" ⟨"LevelingNetworkModel", "datum", "(I)I"⟩ ⟨"LevelingNetworkModel", "datum", "(I)I"⟩ ∈ jk_WS := jk_wt10 (i := 14) (by decide +kernel) rfl
theorem jw_2175 : Cond.code ⟨"LevelingNetworkModel", "datum", "(I)I"⟩ prog_15_method_66_code 2 (Option.some ClassFile.FieldType.int) ∈ jk_WS := jk_wt10 (i := 15) (by decide +kernel) rfl
theorem jw_2176 : Cond.methodLink "LevelingNetworkLaw" 262 ⟨"LevelingNetworkModel", "benchmarkByHeight", "(I)I"⟩ ∈ jk_WS := jk_wt10 (i := 16) (by decide +kernel) rfl
theorem jw_2177 : Cond.instanceMethod ⟨"LevelingNetworkModel", "benchmarkByHeight", "(I)I"⟩ ∈ jk_WS := jk_wt10 (i := 17) (by decide +kernel) rfl
theorem jw_2178 : Cond.selects "LevelingNetworkModel" ⟨"LevelingNetworkModel", "benchmarkByHeight", "(I)I"⟩ ⟨"LevelingNetworkModel", "benchmarkByHeight", "(I)I"⟩ ∈ jk_WS := jk_wt10 (i := 18) (by decide +kernel) rfl
theorem jw_2179 : Cond.code ⟨"LevelingNetworkModel", "benchmarkByHeight", "(I)I"⟩ prog_15_method_68_code 5 (Option.some ClassFile.FieldType.int) ∈ jk_WS := jk_wt10 (i := 19) (by decide +kernel) rfl
theorem jw_2180 : Cond.methodLink "LevelingNetworkModel" 217 ⟨"LevelingNetworkModel", "isAbove", "(II)Z"⟩ ∈ jk_WS := jk_wt10 (i := 20) (by decide +kernel) rfl
theorem jw_2182 : Cond.instanceMethod ⟨"LevelingNetworkModel", "isAbove", "(II)Z"⟩ ∈ jk_WS := jk_wt10 (i := 22) (by decide +kernel) rfl
theorem jw_2183 : Cond.code ⟨"LevelingNetworkModel", "isAbove", "(II)Z"⟩ prog_15_method_67_code 4 (Option.some ClassFile.FieldType.boolean) ∈ jk_WS := jk_wt10 (i := 23) (by decide +kernel) rfl
theorem jw_2184 : Cond.methodLink "LevelingNetworkLaw" 266 ⟨"LevelingNetworkModel", "lineCount", "()I"⟩ ∈ jk_WS := jk_wt10 (i := 24) (by decide +kernel) rfl
theorem jw_2185 : Cond.instanceMethod ⟨"LevelingNetworkModel", "lineCount", "()I"⟩ ∈ jk_WS := jk_wt10 (i := 25) (by decide +kernel) rfl
theorem jw_2186 : Cond.selects "LevelingNetworkModel" ⟨"LevelingNetworkModel", "lineCount", "()I"⟩ ⟨"LevelingNetworkModel", "lineCount", "()I"⟩ ∈ jk_WS := jk_wt10 (i := 26) (by decide +kernel) rfl
theorem jw_2187 : Cond.code ⟨"LevelingNetworkModel", "lineCount", "()I"⟩ prog_15_method_69_code 1 (Option.some ClassFile.FieldType.int) ∈ jk_WS := jk_wt10 (i := 27) (by decide +kernel) rfl
theorem jw_2188 : Cond.methodLink "LevelingNetworkLaw" 269 ⟨"LevelingNetworkModel", "firstOf", "(I)I"⟩ ∈ jk_WS := jk_wt10 (i := 28) (by decide +kernel) rfl
theorem jw_2189 : Cond.instanceMethod ⟨"LevelingNetworkModel", "firstOf", "(I)I"⟩ ∈ jk_WS := jk_wt10 (i := 29) (by decide +kernel) rfl
theorem jw_2190 : Cond.selects "LevelingNetworkModel" ⟨"LevelingNetworkModel", "firstOf", "(I)I"⟩ ⟨"LevelingNetworkModel", "firstOf", "(I)I"⟩ ∈ jk_WS := jk_wt10 (i := 30) (by decide +kernel) rfl
theorem jw_2191 : Cond.code ⟨"LevelingNetworkModel", "firstOf", "(I)I"⟩ prog_15_method_71_code 2 (Option.some ClassFile.FieldType.int) ∈ jk_WS := jk_wt10 (i := 31) (by decide +kernel) rfl
theorem jw_2192 : Cond.methodLink "LevelingNetworkModel" 221 ⟨"LevelingNetworkModel", "lineNumber", "(II)I"⟩ ∈ jk_WS := jk_wt10 (i := 32) (by decide +kernel) rfl
theorem jw_2194 : Cond.instanceMethod ⟨"LevelingNetworkModel", "lineNumber", "(II)I"⟩ ∈ jk_WS := jk_wt10 (i := 34) (by decide +kernel) rfl
theorem jw_2195 : Cond.code ⟨"LevelingNetworkModel", "lineNumber", "(II)I"⟩ prog_15_method_70_code 3 (Option.some ClassFile.FieldType.int) ∈ jk_WS := jk_wt10 (i := 35) (by decide +kernel) rfl
theorem jw_2196 : Cond.methodLink "LevelingNetworkLaw" 272 ⟨"LevelingNetworkModel", "secondOf", "(I)I"⟩ ∈ jk_WS := jk_wt10 (i := 36) (by decide +kernel) rfl
theorem jw_2197 : Cond.instanceMethod ⟨"LevelingNetworkModel", "secondOf", "(I)I"⟩ ∈ jk_WS := jk_wt10 (i := 37) (by decide +kernel) rfl
theorem jw_2198 : Cond.selects "LevelingNetworkModel" ⟨"LevelingNetworkModel", "secondOf", "(I)I"⟩ ⟨"LevelingNetworkModel", "secondOf", "(I)I"⟩ ∈ jk_WS := jk_wt10 (i := 38) (by decide +kernel) rfl
theorem jw_2199 : Cond.code ⟨"LevelingNetworkModel", "secondOf", "(I)I"⟩ prog_15_method_72_code 2 (Option.some ClassFile.FieldType.int) ∈ jk_WS := jk_wt10 (i := 39) (by decide +kernel) rfl
theorem jw_2200 : Cond.methodLink "LevelingNetworkLaw" 275 ⟨"LevelingNetworkModel", "lengthOf", "(I)I"⟩ ∈ jk_WS := jk_wt10 (i := 40) (by decide +kernel) rfl
theorem jw_2201 : Cond.instanceMethod ⟨"LevelingNetworkModel", "lengthOf", "(I)I"⟩ ∈ jk_WS := jk_wt10 (i := 41) (by decide +kernel) rfl
theorem jw_2202 : Cond.selects "LevelingNetworkModel" ⟨"LevelingNetworkModel", "lengthOf", "(I)I"⟩ ⟨"LevelingNetworkModel", "lengthOf", "(I)I"⟩ ∈ jk_WS := jk_wt10 (i := 42) (by decide +kernel) rfl
theorem jw_2203 : Cond.code ⟨"LevelingNetworkModel", "lengthOf", "(I)I"⟩ prog_15_method_73_code 2 (Option.some ClassFile.FieldType.int) ∈ jk_WS := jk_wt10 (i := 43) (by decide +kernel) rfl
theorem jw_2204 : Cond.methodLink "LevelingNetworkLaw" 278 ⟨"LevelingNetworkModel", "levelledDifference", "(I)I"⟩ ∈ jk_WS := jk_wt10 (i := 44) (by decide +kernel) rfl
theorem jw_2205 : Cond.instanceMethod ⟨"LevelingNetworkModel", "levelledDifference", "(I)I"⟩ ∈ jk_WS := jk_wt10 (i := 45) (by decide +kernel) rfl
theorem jw_2206 : Cond.selects "LevelingNetworkModel" ⟨"LevelingNetworkModel", "levelledDifference", "(I)I"⟩ ⟨"LevelingNetworkModel", "levelledDifference", "(I)I"⟩ ∈ jk_WS := jk_wt10 (i := 46) (by decide +kernel) rfl
theorem jw_2207 : Cond.code ⟨"LevelingNetworkModel", "levelledDifference", "(I)I"⟩ prog_15_method_74_code 2 (Option.some ClassFile.FieldType.int) ∈ jk_WS := jk_wt10 (i := 47) (by decide +kernel) rfl
theorem jw_2208 : Cond.methodLink "LevelingNetworkLaw" 281 ⟨"LevelingNetworkModel", "correction", "(I)I"⟩ ∈ jk_WS := jk_wt10 (i := 48) (by decide +kernel) rfl
theorem jw_2209 : Cond.instanceMethod ⟨"LevelingNetworkModel", "correction", "(I)I"⟩ ∈ jk_WS := jk_wt10 (i := 49) (by decide +kernel) rfl
theorem jw_2210 : Cond.selects "LevelingNetworkModel" ⟨"LevelingNetworkModel", "correction", "(I)I"⟩ ⟨"LevelingNetworkModel", "correction", "(I)I"⟩ ∈ jk_WS := jk_wt10 (i := 50) (by decide +kernel) rfl
theorem jw_2211 : Cond.code ⟨"LevelingNetworkModel", "correction", "(I)I"⟩ prog_15_method_75_code 2 (Option.some ClassFile.FieldType.int) ∈ jk_WS := jk_wt10 (i := 51) (by decide +kernel) rfl
theorem jw_2212 : Cond.methodLink "LevelingNetworkLaw" 284 ⟨"LevelingNetworkModel", "discrepancy", "(I)I"⟩ ∈ jk_WS := jk_wt10 (i := 52) (by decide +kernel) rfl
theorem jw_2213 : Cond.instanceMethod ⟨"LevelingNetworkModel", "discrepancy", "(I)I"⟩ ∈ jk_WS := jk_wt10 (i := 53) (by decide +kernel) rfl
theorem jw_2214 : Cond.selects "LevelingNetworkModel" ⟨"LevelingNetworkModel", "discrepancy", "(I)I"⟩ ⟨"LevelingNetworkModel", "discrepancy", "(I)I"⟩ ∈ jk_WS := jk_wt10 (i := 54) (by decide +kernel) rfl
theorem jw_2215 : Cond.code ⟨"LevelingNetworkModel", "discrepancy", "(I)I"⟩ prog_15_method_76_code 2 (Option.some ClassFile.FieldType.int) ∈ jk_WS := jk_wt10 (i := 55) (by decide +kernel) rfl
theorem jw_2216 : Cond.methodLink "LevelingNetworkLaw" 287 ⟨"LevelingNetworkModel", "isExcluded", "(I)Z"⟩ ∈ jk_WS := jk_wt10 (i := 56) (by decide +kernel) rfl
theorem jw_2217 : Cond.instanceMethod ⟨"LevelingNetworkModel", "isExcluded", "(I)Z"⟩ ∈ jk_WS := jk_wt10 (i := 57) (by decide +kernel) rfl
theorem jw_2218 : Cond.selects "LevelingNetworkModel" ⟨"LevelingNetworkModel", "isExcluded", "(I)Z"⟩ ⟨"LevelingNetworkModel", "isExcluded", "(I)Z"⟩ ∈ jk_WS := jk_wt10 (i := 58) (by decide +kernel) rfl
theorem jw_2219 : Cond.code ⟨"LevelingNetworkModel", "isExcluded", "(I)Z"⟩ prog_15_method_77_code 2 (Option.some ClassFile.FieldType.boolean) ∈ jk_WS := jk_wt10 (i := 59) (by decide +kernel) rfl
theorem jw_2220 : Cond.methodLink "LevelingNetworkLaw" 290 ⟨"LevelingNetworkModel", "isUsable", "(I)Z"⟩ ∈ jk_WS := jk_wt10 (i := 60) (by decide +kernel) rfl
theorem jw_2221 : Cond.instanceMethod ⟨"LevelingNetworkModel", "isUsable", "(I)Z"⟩ ∈ jk_WS := jk_wt10 (i := 61) (by decide +kernel) rfl
theorem jw_2222 : Cond.selects "LevelingNetworkModel" ⟨"LevelingNetworkModel", "isUsable", "(I)Z"⟩ ⟨"LevelingNetworkModel", "isUsable", "(I)Z"⟩ ∈ jk_WS := jk_wt10 (i := 62) (by decide +kernel) rfl
theorem jw_2223 : Cond.code ⟨"LevelingNetworkModel", "isUsable", "(I)Z"⟩ prog_15_method_78_code 2 (Option.some ClassFile.FieldType.boolean) ∈ jk_WS := jk_wt10 (i := 63) (by decide +kernel) rfl
theorem jw_2224 : Cond.methodLink "LevelingNetworkLaw" 293 ⟨"LevelingNetworkModel", "tolerance", "(I)I"⟩ ∈ jk_WS := jk_wt10 (i := 64) (by decide +kernel) rfl
theorem jw_2225 : Cond.instanceMethod ⟨"LevelingNetworkModel", "tolerance", "(I)I"⟩ ∈ jk_WS := jk_wt10 (i := 65) (by decide +kernel) rfl
theorem jw_2226 : Cond.selects "LevelingNetworkModel" ⟨"LevelingNetworkModel", "tolerance", "(I)I"⟩ ⟨"LevelingNetworkModel", "tolerance", "(I)I"⟩ ∈ jk_WS := jk_wt10 (i := 66) (by decide +kernel) rfl
theorem jw_2227 : Cond.code ⟨"LevelingNetworkModel", "tolerance", "(I)I"⟩ prog_15_method_79_code 2 (Option.some ClassFile.FieldType.int) ∈ jk_WS := jk_wt10 (i := 67) (by decide +kernel) rfl
theorem jw_2228 : Cond.methodLink "LevelingNetworkLaw" 296 ⟨"LevelingNetworkModel", "lineByDiscrepancy", "(I)I"⟩ ∈ jk_WS := jk_wt10 (i := 68) (by decide +kernel) rfl
theorem jw_2229 : Cond.instanceMethod ⟨"LevelingNetworkModel", "lineByDiscrepancy", "(I)I"⟩ ∈ jk_WS := jk_wt10 (i := 69) (by decide +kernel) rfl
theorem jw_2230 : Cond.selects "LevelingNetworkModel" ⟨"LevelingNetworkModel", "lineByDiscrepancy", "(I)I"⟩ ⟨"LevelingNetworkModel", "lineByDiscrepancy", "(I)I"⟩ ∈ jk_WS := jk_wt10 (i := 70) (by decide +kernel) rfl
theorem jw_2231 : Cond.code ⟨"LevelingNetworkModel", "lineByDiscrepancy", "(I)I"⟩ prog_15_method_81_code 5 (Option.some ClassFile.FieldType.int) ∈ jk_WS := jk_wt10 (i := 71) (by decide +kernel) rfl
theorem jw_2232 : Cond.methodLink "LevelingNetworkModel" 224 ⟨"LevelingNetworkModel", "isWorse", "(II)Z"⟩ ∈ jk_WS := jk_wt10 (i := 72) (by decide +kernel) rfl
theorem jw_2234 : Cond.instanceMethod ⟨"LevelingNetworkModel", "isWorse", "(II)Z"⟩ ∈ jk_WS := jk_wt10 (i := 74) (by decide +kernel) rfl
theorem jw_2235 : Cond.code ⟨"LevelingNetworkModel", "isWorse", "(II)Z"⟩ prog_15_method_80_code 4 (Option.some ClassFile.FieldType.boolean) ∈ jk_WS := jk_wt10 (i := 75) (by decide +kernel) rfl
theorem jw_2236 : Cond.methodLink "LevelingNetworkLaw" 299 ⟨"LevelingNetworkModel", "isInForest", "(I)Z"⟩ ∈ jk_WS := jk_wt10 (i := 76) (by decide +kernel) rfl
theorem jw_2237 : Cond.instanceMethod ⟨"LevelingNetworkModel", "isInForest", "(I)Z"⟩ ∈ jk_WS := jk_wt10 (i := 77) (by decide +kernel) rfl
theorem jw_2238 : Cond.selects "LevelingNetworkModel" ⟨"LevelingNetworkModel", "isInForest", "(I)Z"⟩ ⟨"LevelingNetworkModel", "isInForest", "(I)Z"⟩ ∈ jk_WS := jk_wt10 (i := 78) (by decide +kernel) rfl
theorem jw_2239 : Cond.code ⟨"LevelingNetworkModel", "isInForest", "(I)Z"⟩ prog_15_method_82_code 2 (Option.some ClassFile.FieldType.boolean) ∈ jk_WS := jk_wt10 (i := 79) (by decide +kernel) rfl
theorem jw_2240 : Cond.methodLink "LevelingNetworkLaw" 303 ⟨"LevelingNetworkModel", "forestLength", "()I"⟩ ∈ jk_WS := jk_wt10 (i := 80) (by decide +kernel) rfl
theorem jw_2241 : Cond.instanceMethod ⟨"LevelingNetworkModel", "forestLength", "()I"⟩ ∈ jk_WS := jk_wt10 (i := 81) (by decide +kernel) rfl
theorem jw_2242 : Cond.selects "LevelingNetworkModel" ⟨"LevelingNetworkModel", "forestLength", "()I"⟩ ⟨"LevelingNetworkModel", "forestLength", "()I"⟩ ∈ jk_WS := jk_wt10 (i := 82) (by decide +kernel) rfl
theorem jw_2243 : Cond.code ⟨"LevelingNetworkModel", "forestLength", "()I"⟩ prog_15_method_83_code 3 (Option.some ClassFile.FieldType.int) ∈ jk_WS := jk_wt10 (i := 83) (by decide +kernel) rfl
theorem jw_2244 : Cond.methodLink "LevelingNetworkLaw" 307 ⟨"LevelingNetworkModel", "forestLengthByGrowing", "()I"⟩ ∈ jk_WS := jk_wt10 (i := 84) (by decide +kernel) rfl
theorem jw_2245 : Cond.instanceMethod ⟨"LevelingNetworkModel", "forestLengthByGrowing", "()I"⟩ ∈ jk_WS := jk_wt10 (i := 85) (by decide +kernel) rfl
theorem jw_2246 : Cond.selects "LevelingNetworkModel" ⟨"LevelingNetworkModel", "forestLengthByGrowing", "()I"⟩ ⟨"LevelingNetworkModel", "forestLengthByGrowing", "()I"⟩ ∈ jk_WS := jk_wt10 (i := 86) (by decide +kernel) rfl
theorem jw_2247 : Cond.code ⟨"LevelingNetworkModel", "forestLengthByGrowing", "()I"⟩ prog_15_method_84_code 1 (Option.some ClassFile.FieldType.int) ∈ jk_WS := jk_wt10 (i := 87) (by decide +kernel) rfl
theorem jw_2248 : Cond.methodLink "LevelingNetworkModel" 227 ⟨"LevelingNetworkModel", "forestLength", "()I"⟩ ∈ jk_WS := jk_wt10 (i := 88) (by decide +kernel) rfl
theorem jw_2249 : Cond.methodLink "LevelingNetworkLaw" 311 ⟨"LevelingNetworkModel", "treeCount", "()I"⟩ ∈ jk_WS := jk_wt10 (i := 89) (by decide +kernel) rfl
theorem jw_2250 : Cond.instanceMethod ⟨"LevelingNetworkModel", "treeCount", "()I"⟩ ∈ jk_WS := jk_wt10 (i := 90) (by decide +kernel) rfl
theorem jw_2251 : Cond.selects "LevelingNetworkModel" ⟨"LevelingNetworkModel", "treeCount", "()I"⟩ ⟨"LevelingNetworkModel", "treeCount", "()I"⟩ ∈ jk_WS := jk_wt10 (i := 91) (by decide +kernel) rfl
theorem jw_2252 : Cond.code ⟨"LevelingNetworkModel", "treeCount", "()I"⟩ prog_15_method_85_code 3 (Option.some ClassFile.FieldType.int) ∈ jk_WS := jk_wt10 (i := 92) (by decide +kernel) rfl
theorem jw_2253 : Cond.methodLink "LevelingNetworkLaw" 315 ⟨"LevelingNetworkModel", "loopCount", "()I"⟩ ∈ jk_WS := jk_wt10 (i := 93) (by decide +kernel) rfl
theorem jw_2254 : Cond.instanceMethod ⟨"LevelingNetworkModel", "loopCount", "()I"⟩ ∈ jk_WS := jk_wt10 (i := 94) (by decide +kernel) rfl
theorem jw_2255 : Cond.selects "LevelingNetworkModel" ⟨"LevelingNetworkModel", "loopCount", "()I"⟩ ⟨"LevelingNetworkModel", "loopCount", "()I"⟩ ∈ jk_WS := jk_wt10 (i := 95) (by decide +kernel) rfl
theorem jw_2256 : Cond.code ⟨"LevelingNetworkModel", "loopCount", "()I"⟩ prog_15_method_86_code 3 (Option.some ClassFile.FieldType.int) ∈ jk_WS := jk_wt10 (i := 96) (by decide +kernel) rfl
theorem jw_2257 : Cond.methodLink "LevelingNetworkLaw" 318 ⟨"LevelingNetworkModel", "loopAt", "(I)I"⟩ ∈ jk_WS := jk_wt10 (i := 97) (by decide +kernel) rfl
theorem jw_2258 : Cond.instanceMethod ⟨"LevelingNetworkModel", "loopAt", "(I)I"⟩ ∈ jk_WS := jk_wt10 (i := 98) (by decide +kernel) rfl
theorem jw_2259 : Cond.selects "LevelingNetworkModel" ⟨"LevelingNetworkModel", "loopAt", "(I)I"⟩ ⟨"LevelingNetworkModel", "loopAt", "(I)I"⟩ ∈ jk_WS := jk_wt10 (i := 99) (by decide +kernel) rfl
theorem jw_2260 : Cond.code ⟨"LevelingNetworkModel", "loopAt", "(I)I"⟩ prog_15_method_87_code 4 (Option.some ClassFile.FieldType.int) ∈ jk_WS := jk_wt10 (i := 100) (by decide +kernel) rfl
theorem jw_2261 : Cond.methodLink "LevelingNetworkLaw" 321 ⟨"LevelingNetworkModel", "loopSize", "(I)I"⟩ ∈ jk_WS := jk_wt10 (i := 101) (by decide +kernel) rfl
theorem jw_2262 : Cond.instanceMethod ⟨"LevelingNetworkModel", "loopSize", "(I)I"⟩ ∈ jk_WS := jk_wt10 (i := 102) (by decide +kernel) rfl
theorem jw_2263 : Cond.selects "LevelingNetworkModel" ⟨"LevelingNetworkModel", "loopSize", "(I)I"⟩ ⟨"LevelingNetworkModel", "loopSize", "(I)I"⟩ ∈ jk_WS := jk_wt10 (i := 103) (by decide +kernel) rfl
theorem jw_2264 : Cond.code ⟨"LevelingNetworkModel", "loopSize", "(I)I"⟩ prog_15_method_88_code 5 (Option.some ClassFile.FieldType.int) ∈ jk_WS := jk_wt10 (i := 104) (by decide +kernel) rfl
theorem jw_2265 : Cond.methodLink "LevelingNetworkLaw" 324 ⟨"LevelingNetworkModel", "loopLength", "(I)I"⟩ ∈ jk_WS := jk_wt10 (i := 105) (by decide +kernel) rfl
theorem jw_2266 : Cond.instanceMethod ⟨"LevelingNetworkModel", "loopLength", "(I)I"⟩ ∈ jk_WS := jk_wt10 (i := 106) (by decide +kernel) rfl
theorem jw_2267 : Cond.selects "LevelingNetworkModel" ⟨"LevelingNetworkModel", "loopLength", "(I)I"⟩ ⟨"LevelingNetworkModel", "loopLength", "(I)I"⟩ ∈ jk_WS := jk_wt10 (i := 107) (by decide +kernel) rfl
theorem jw_2268 : Cond.code ⟨"LevelingNetworkModel", "loopLength", "(I)I"⟩ prog_15_method_89_code 3 (Option.some ClassFile.FieldType.int) ∈ jk_WS := jk_wt10 (i := 108) (by decide +kernel) rfl
theorem jw_2269 : Cond.methodLink "LevelingNetworkLaw" 327 ⟨"LevelingNetworkModel", "misclosure", "(I)I"⟩ ∈ jk_WS := jk_wt10 (i := 109) (by decide +kernel) rfl
theorem jw_2270 : Cond.instanceMethod ⟨"LevelingNetworkModel", "misclosure", "(I)I"⟩ ∈ jk_WS := jk_wt10 (i := 110) (by decide +kernel) rfl
theorem jw_2271 : Cond.selects "LevelingNetworkModel" ⟨"LevelingNetworkModel", "misclosure", "(I)I"⟩ ⟨"LevelingNetworkModel", "misclosure", "(I)I"⟩ ∈ jk_WS := jk_wt10 (i := 111) (by decide +kernel) rfl
theorem jw_2272 : Cond.code ⟨"LevelingNetworkModel", "misclosure", "(I)I"⟩ prog_15_method_90_code 3 (Option.some ClassFile.FieldType.int) ∈ jk_WS := jk_wt10 (i := 112) (by decide +kernel) rfl
theorem jw_2273 : Cond.methodLink "LevelingNetworkLaw" 330 ⟨"LevelingNetworkModel", "misclosureByLevels", "(I)I"⟩ ∈ jk_WS := jk_wt10 (i := 113) (by decide +kernel) rfl
theorem jw_2274 : Cond.instanceMethod ⟨"LevelingNetworkModel", "misclosureByLevels", "(I)I"⟩ ∈ jk_WS := jk_wt10 (i := 114) (by decide +kernel) rfl
theorem jw_2275 : Cond.selects "LevelingNetworkModel" ⟨"LevelingNetworkModel", "misclosureByLevels", "(I)I"⟩ ⟨"LevelingNetworkModel", "misclosureByLevels", "(I)I"⟩ ∈ jk_WS := jk_wt10 (i := 115) (by decide +kernel) rfl
theorem jw_2276 : Cond.code ⟨"LevelingNetworkModel", "misclosureByLevels", "(I)I"⟩ prog_15_method_91_code 2 (Option.some ClassFile.FieldType.int) ∈ jk_WS := jk_wt10 (i := 116) (by decide +kernel) rfl
theorem jw_2277 : Cond.methodLink "LevelingNetworkModel" 230 ⟨"LevelingNetworkModel", "misclosure", "(I)I"⟩ ∈ jk_WS := jk_wt10 (i := 117) (by decide +kernel) rfl
theorem jw_2278 : Cond.methodLink "LevelingNetworkLaw" 333 ⟨"LevelingNetworkModel", "part", "(II)I"⟩ ∈ jk_WS := jk_wt10 (i := 118) (by decide +kernel) rfl
theorem jw_2279 : Cond.instanceMethod ⟨"LevelingNetworkModel", "part", "(II)I"⟩ ∈ jk_WS := jk_wt10 (i := 119) (by decide +kernel) rfl
theorem jw_2280 : Cond.selects "LevelingNetworkModel" ⟨"LevelingNetworkModel", "part", "(II)I"⟩ ⟨"LevelingNetworkModel", "part", "(II)I"⟩ ∈ jk_WS := jk_wt10 (i := 120) (by decide +kernel) rfl
theorem jw_2281 : Cond.code ⟨"LevelingNetworkModel", "part", "(II)I"⟩ prog_15_method_92_code 4 (Option.some ClassFile.FieldType.int) ∈ jk_WS := jk_wt10 (i := 121) (by decide +kernel) rfl
theorem jw_2282 : Cond.methodLink "LevelingNetworkLaw" 337 ⟨"LevelingNetworkModel", "profileCount", "()I"⟩ ∈ jk_WS := jk_wt10 (i := 122) (by decide +kernel) rfl
theorem jw_2283 : Cond.instanceMethod ⟨"LevelingNetworkModel", "profileCount", "()I"⟩ ∈ jk_WS := jk_wt10 (i := 123) (by decide +kernel) rfl
theorem jw_2284 : Cond.selects "LevelingNetworkModel" ⟨"LevelingNetworkModel", "profileCount", "()I"⟩ ⟨"LevelingNetworkModel", "profileCount", "()I"⟩ ∈ jk_WS := jk_wt10 (i := 124) (by decide +kernel) rfl
theorem jw_2285 : Cond.code ⟨"LevelingNetworkModel", "profileCount", "()I"⟩ prog_15_method_93_code 1 (Option.some ClassFile.FieldType.int) ∈ jk_WS := jk_wt10 (i := 125) (by decide +kernel) rfl
theorem jw_2286 : Cond.methodLink "LevelingNetworkLaw" 340 ⟨"LevelingNetworkModel", "stationCount", "(I)I"⟩ ∈ jk_WS := jk_wt10 (i := 126) (by decide +kernel) rfl
theorem jw_2287 : Cond.instanceMethod ⟨"LevelingNetworkModel", "stationCount", "(I)I"⟩ ∈ jk_WS := jk_wt10 (i := 127) (by decide +kernel) rfl
theorem jw_2288 : Cond.selects "LevelingNetworkModel" ⟨"LevelingNetworkModel", "stationCount", "(I)I"⟩ ⟨"LevelingNetworkModel", "stationCount", "(I)I"⟩ ∈ jk_WS := jk_wt10 (i := 128) (by decide +kernel) rfl
theorem jw_2289 : Cond.code ⟨"LevelingNetworkModel", "stationCount", "(I)I"⟩ prog_15_method_94_code 2 (Option.some ClassFile.FieldType.int) ∈ jk_WS := jk_wt10 (i := 129) (by decide +kernel) rfl
theorem jw_2290 : Cond.methodLink "LevelingNetworkLaw" 344 ⟨"LevelingNetworkModel", "waterLevel", "()I"⟩ ∈ jk_WS := jk_wt10 (i := 130) (by decide +kernel) rfl
theorem jw_2291 : Cond.instanceMethod ⟨"LevelingNetworkModel", "waterLevel", "()I"⟩ ∈ jk_WS := jk_wt10 (i := 131) (by decide +kernel) rfl
theorem jw_2292 : Cond.selects "LevelingNetworkModel" ⟨"LevelingNetworkModel", "waterLevel", "()I"⟩ ⟨"LevelingNetworkModel", "waterLevel", "()I"⟩ ∈ jk_WS := jk_wt10 (i := 132) (by decide +kernel) rfl
theorem jw_2293 : Cond.code ⟨"LevelingNetworkModel", "waterLevel", "()I"⟩ prog_15_method_95_code 1 (Option.some ClassFile.FieldType.int) ∈ jk_WS := jk_wt10 (i := 133) (by decide +kernel) rfl
theorem jw_2294 : Cond.methodLink "LevelingNetworkLaw" 347 ⟨"LevelingNetworkModel", "ground", "(II)I"⟩ ∈ jk_WS := jk_wt10 (i := 134) (by decide +kernel) rfl
theorem jw_2295 : Cond.instanceMethod ⟨"LevelingNetworkModel", "ground", "(II)I"⟩ ∈ jk_WS := jk_wt10 (i := 135) (by decide +kernel) rfl
theorem jw_2296 : Cond.selects "LevelingNetworkModel" ⟨"LevelingNetworkModel", "ground", "(II)I"⟩ ⟨"LevelingNetworkModel", "ground", "(II)I"⟩ ∈ jk_WS := jk_wt10 (i := 136) (by decide +kernel) rfl
theorem jw_2297 : Cond.code ⟨"LevelingNetworkModel", "ground", "(II)I"⟩ prog_15_method_101_code 3 (Option.some ClassFile.FieldType.int) ∈ jk_WS := jk_wt10 (i := 137) (by decide +kernel) rfl
theorem jw_2298 : Cond.methodLink "LevelingNetworkModel" 239 ⟨"LevelingNetworkModel", "firstColumn", "(I)I"⟩ ∈ jk_WS := jk_wt10 (i := 138) (by decide +kernel) rfl
theorem jw_2300 : Cond.instanceMethod ⟨"LevelingNetworkModel", "firstColumn", "(I)I"⟩ ∈ jk_WS := jk_wt10 (i := 140) (by decide +kernel) rfl
theorem jw_2301 : Cond.code ⟨"LevelingNetworkModel", "firstColumn", "(I)I"⟩ prog_15_method_96_code 2 (Option.some ClassFile.FieldType.int) ∈ jk_WS := jk_wt10 (i := 141) (by decide +kernel) rfl
theorem jw_2302 : Cond.methodLink "LevelingNetworkModel" 242 ⟨"LevelingNetworkModel", "lastColumn", "(I)I"⟩ ∈ jk_WS := jk_wt10 (i := 142) (by decide +kernel) rfl
theorem jw_2304 : Cond.instanceMethod ⟨"LevelingNetworkModel", "lastColumn", "(I)I"⟩ ∈ jk_WS := jk_wt10 (i := 144) (by decide +kernel) rfl
theorem jw_2305 : Cond.code ⟨"LevelingNetworkModel", "lastColumn", "(I)I"⟩ prog_15_method_97_code 2 (Option.some ClassFile.FieldType.int) ∈ jk_WS := jk_wt10 (i := 145) (by decide +kernel) rfl
theorem jw_2306 : Cond.methodLink "LevelingNetworkModel" 236 ⟨"LevelingNetworkModel", "groundAt", "(II)I"⟩ ∈ jk_WS := jk_wt10 (i := 146) (by decide +kernel) rfl
theorem jw_2308 : Cond.instanceMethod ⟨"LevelingNetworkModel", "groundAt", "(II)I"⟩ ∈ jk_WS := jk_wt10 (i := 148) (by decide +kernel) rfl
theorem jw_2309 : Cond.code ⟨"LevelingNetworkModel", "groundAt", "(II)I"⟩ prog_15_method_99_code 3 (Option.some ClassFile.FieldType.int) ∈ jk_WS := jk_wt10 (i := 149) (by decide +kernel) rfl
theorem jw_2310 : Cond.methodLink "LevelingNetworkModel" 233 ⟨"LevelingNetworkModel", "offsetAt", "(II)I"⟩ ∈ jk_WS := jk_wt10 (i := 150) (by decide +kernel) rfl
theorem jw_2312 : Cond.instanceMethod ⟨"LevelingNetworkModel", "offsetAt", "(II)I"⟩ ∈ jk_WS := jk_wt10 (i := 152) (by decide +kernel) rfl
theorem jw_2313 : Cond.code ⟨"LevelingNetworkModel", "offsetAt", "(II)I"⟩ prog_15_method_98_code 6 (Option.some ClassFile.FieldType.int) ∈ jk_WS := jk_wt10 (i := 153) (by decide +kernel) rfl
theorem jw_2314 : Cond.methodLink "LevelingNetworkLaw" 350 ⟨"LevelingNetworkModel", "wetColumns", "(I)I"⟩ ∈ jk_WS := jk_wt10 (i := 154) (by decide +kernel) rfl
theorem jw_2315 : Cond.instanceMethod ⟨"LevelingNetworkModel", "wetColumns", "(I)I"⟩ ∈ jk_WS := jk_wt10 (i := 155) (by decide +kernel) rfl
theorem jw_2316 : Cond.selects "LevelingNetworkModel" ⟨"LevelingNetworkModel", "wetColumns", "(I)I"⟩ ⟨"LevelingNetworkModel", "wetColumns", "(I)I"⟩ ∈ jk_WS := jk_wt10 (i := 156) (by decide +kernel) rfl
theorem jw_2317 : Cond.code ⟨"LevelingNetworkModel", "wetColumns", "(I)I"⟩ prog_15_method_103_code 5 (Option.some ClassFile.FieldType.int) ∈ jk_WS := jk_wt10 (i := 157) (by decide +kernel) rfl
theorem jw_2318 : Cond.methodLink "LevelingNetworkModel" 245 ⟨"LevelingNetworkModel", "whyNoGround", "(I)I"⟩ ∈ jk_WS := jk_wt10 (i := 158) (by decide +kernel) rfl
theorem jw_2320 : Cond.instanceMethod ⟨"LevelingNetworkModel", "whyNoGround", "(I)I"⟩ ∈ jk_WS := jk_wt10 (i := 160) (by decide +kernel) rfl
theorem jw_2321 : Cond.code ⟨"LevelingNetworkModel", "whyNoGround", "(I)I"⟩ prog_15_method_102_code 2 (Option.some ClassFile.FieldType.int) ∈ jk_WS := jk_wt10 (i := 161) (by decide +kernel) rfl
theorem jw_2322 : Cond.methodLink "LevelingNetworkModel" 248 ⟨"LevelingNetworkModel", "isWet", "(II)Z"⟩ ∈ jk_WS := jk_wt10 (i := 162) (by decide +kernel) rfl
theorem jw_2324 : Cond.instanceMethod ⟨"LevelingNetworkModel", "isWet", "(II)Z"⟩ ∈ jk_WS := jk_wt10 (i := 164) (by decide +kernel) rfl
theorem jw_2325 : Cond.code ⟨"LevelingNetworkModel", "isWet", "(II)Z"⟩ prog_15_method_100_code 3 (Option.some ClassFile.FieldType.boolean) ∈ jk_WS := jk_wt10 (i := 165) (by decide +kernel) rfl
theorem jw_2326 : Cond.methodLink "LevelingNetworkLaw" 353 ⟨"LevelingNetworkModel", "wetColumnsBySegments", "(I)I"⟩ ∈ jk_WS := jk_wt10 (i := 166) (by decide +kernel) rfl
theorem jw_2327 : Cond.instanceMethod ⟨"LevelingNetworkModel", "wetColumnsBySegments", "(I)I"⟩ ∈ jk_WS := jk_wt10 (i := 167) (by decide +kernel) rfl
theorem jw_2328 : Cond.selects "LevelingNetworkModel" ⟨"LevelingNetworkModel", "wetColumnsBySegments", "(I)I"⟩ ⟨"LevelingNetworkModel", "wetColumnsBySegments", "(I)I"⟩ ∈ jk_WS := jk_wt10 (i := 168) (by decide +kernel) rfl
theorem jw_2329 : Cond.code ⟨"LevelingNetworkModel", "wetColumnsBySegments", "(I)I"⟩ prog_15_method_104_code 2 (Option.some ClassFile.FieldType.int) ∈ jk_WS := jk_wt10 (i := 169) (by decide +kernel) rfl
theorem jw_2330 : Cond.methodLink "LevelingNetworkModel" 251 ⟨"LevelingNetworkModel", "wetColumns", "(I)I"⟩ ∈ jk_WS := jk_wt10 (i := 170) (by decide +kernel) rfl
theorem jw_2331 : Cond.methodLink "LevelingNetworkLaw" 356 ⟨"LevelingNetworkModel", "shores", "(I)I"⟩ ∈ jk_WS := jk_wt10 (i := 171) (by decide +kernel) rfl
theorem jw_2332 : Cond.instanceMethod ⟨"LevelingNetworkModel", "shores", "(I)I"⟩ ∈ jk_WS := jk_wt10 (i := 172) (by decide +kernel) rfl
theorem jw_2333 : Cond.selects "LevelingNetworkModel" ⟨"LevelingNetworkModel", "shores", "(I)I"⟩ ⟨"LevelingNetworkModel", "shores", "(I)I"⟩ ∈ jk_WS := jk_wt10 (i := 173) (by decide +kernel) rfl
theorem jw_2334 : Cond.code ⟨"LevelingNetworkModel", "shores", "(I)I"⟩ prog_15_method_105_code 6 (Option.some ClassFile.FieldType.int) ∈ jk_WS := jk_wt10 (i := 174) (by decide +kernel) rfl
theorem jw_2335 : Cond.methodLink "LevelingNetworkLaw" 359 ⟨"LevelingNetworkModel", "lowestColumn", "(I)I"⟩ ∈ jk_WS := jk_wt10 (i := 175) (by decide +kernel) rfl
theorem jw_2336 : Cond.instanceMethod ⟨"LevelingNetworkModel", "lowestColumn", "(I)I"⟩ ∈ jk_WS := jk_wt10 (i := 176) (by decide +kernel) rfl
theorem jw_2337 : Cond.selects "LevelingNetworkModel" ⟨"LevelingNetworkModel", "lowestColumn", "(I)I"⟩ ⟨"LevelingNetworkModel", "lowestColumn", "(I)I"⟩ ∈ jk_WS := jk_wt10 (i := 177) (by decide +kernel) rfl
theorem jw_2338 : Cond.code ⟨"LevelingNetworkModel", "lowestColumn", "(I)I"⟩ prog_15_method_106_code 4 (Option.some ClassFile.FieldType.int) ∈ jk_WS := jk_wt10 (i := 178) (by decide +kernel) rfl
theorem jw_2339 : Cond.methodLink "LevelingNetworkLaw" 363 ⟨"LevelingNetworkModel", "meanLength", "()D"⟩ ∈ jk_WS := jk_wt10 (i := 179) (by decide +kernel) rfl
theorem jw_2340 : Cond.instanceMethod ⟨"LevelingNetworkModel", "meanLength", "()D"⟩ ∈ jk_WS := jk_wt10 (i := 180) (by decide +kernel) rfl
theorem jw_2341 : Cond.selects "LevelingNetworkModel" ⟨"LevelingNetworkModel", "meanLength", "()D"⟩ ⟨"LevelingNetworkModel", "meanLength", "()D"⟩ ∈ jk_WS := jk_wt10 (i := 181) (by decide +kernel) rfl
theorem jw_2342 : Cond.code ⟨"LevelingNetworkModel", "meanLength", "()D"⟩ prog_15_method_107_code 3 (Option.some ClassFile.FieldType.double) ∈ jk_WS := jk_wt10 (i := 182) (by decide +kernel) rfl
theorem jw_2343 : Cond.methodLink "LevelingNetworkLaw" 366 ⟨"LevelingNetworkModel", "usableShare", "()F"⟩ ∈ jk_WS := jk_wt10 (i := 183) (by decide +kernel) rfl
theorem jw_2344 : Cond.instanceMethod ⟨"LevelingNetworkModel", "usableShare", "()F"⟩ ∈ jk_WS := jk_wt10 (i := 184) (by decide +kernel) rfl
theorem jw_2345 : Cond.selects "LevelingNetworkModel" ⟨"LevelingNetworkModel", "usableShare", "()F"⟩ ⟨"LevelingNetworkModel", "usableShare", "()F"⟩ ∈ jk_WS := jk_wt10 (i := 185) (by decide +kernel) rfl
theorem jw_2346 : Cond.code ⟨"LevelingNetworkModel", "usableShare", "()F"⟩ prog_15_method_108_code 1 (Option.some ClassFile.FieldType.float) ∈ jk_WS := jk_wt10 (i := 186) (by decide +kernel) rfl
theorem jw_2347 : Cond.methodLink "LevelingNetworkLaw" 371 ⟨"LevelingNetworkModel", "isConsistent", "()Z"⟩ ∈ jk_WS := jk_wt10 (i := 187) (by decide +kernel) rfl
theorem jw_2348 : Cond.instanceMethod ⟨"LevelingNetworkModel", "isConsistent", "()Z"⟩ ∈ jk_WS := jk_wt10 (i := 188) (by decide +kernel) rfl
theorem jw_2349 : Cond.selects "LevelingNetworkModel" ⟨"LevelingNetworkModel", "isConsistent", "()Z"⟩ ⟨"LevelingNetworkModel", "isConsistent", "()Z"⟩ ∈ jk_WS := jk_wt10 (i := 189) (by decide +kernel) rfl
theorem jw_2350 : Cond.code ⟨"LevelingNetworkModel", "isConsistent", "()Z"⟩ prog_15_method_109_code 1 (Option.some ClassFile.FieldType.boolean) ∈ jk_WS := jk_wt10 (i := 190) (by decide +kernel) rfl
theorem jw_2351 : Cond.methodLink "LevelingNetworkLaw" 374 ⟨"LevelingNetworkModel", "renderLine", "(I)I"⟩ ∈ jk_WS := jk_wt10 (i := 191) (by decide +kernel) rfl
theorem jw_2352 : Cond.instanceMethod ⟨"LevelingNetworkModel", "renderLine", "(I)I"⟩ ∈ jk_WS := jk_wt10 (i := 192) (by decide +kernel) rfl
theorem jw_2353 : Cond.selects "LevelingNetworkModel" ⟨"LevelingNetworkModel", "renderLine", "(I)I"⟩ ⟨"LevelingNetworkModel", "renderLine", "(I)I"⟩ ∈ jk_WS := jk_wt10 (i := 193) (by decide +kernel) rfl
theorem jw_2354 : Cond.code ⟨"LevelingNetworkModel", "renderLine", "(I)I"⟩ prog_15_method_112_code 2 (Option.some ClassFile.FieldType.int) ∈ jk_WS := jk_wt10 (i := 194) (by decide +kernel) rfl
theorem jw_2355 : Cond.methodLink "LevelingNetworkModel" 261 ⟨"LevelingNetworkModel", "writesNumber", "(I)V"⟩ ∈ jk_WS := jk_wt10 (i := 195) (by decide +kernel) rfl
theorem jw_2357 : Cond.instanceMethod ⟨"LevelingNetworkModel", "writesNumber", "(I)V"⟩ ∈ jk_WS := jk_wt10 (i := 197) (by decide +kernel) rfl
theorem jw_2358 : Cond.code ⟨"LevelingNetworkModel", "writesNumber", "(I)V"⟩ prog_15_method_111_code 4 (Option.none : Option ClassFile.FieldType) ∈ jk_WS := jk_wt10 (i := 198) (by decide +kernel) rfl
theorem jw_2359 : Cond.methodLink "LevelingNetworkModel" 257 ⟨"LevelingNetworkModel", "writes", "(I)V"⟩ ∈ jk_WS := jk_wt10 (i := 199) (by decide +kernel) rfl
theorem jw_2361 : Cond.instanceMethod ⟨"LevelingNetworkModel", "writes", "(I)V"⟩ ∈ jk_WS := jk_wt10 (i := 201) (by decide +kernel) rfl
theorem jw_2362 : Cond.code ⟨"LevelingNetworkModel", "writes", "(I)V"⟩ prog_15_method_110_code 2 (Option.none : Option ClassFile.FieldType) ∈ jk_WS := jk_wt10 (i := 202) (by decide +kernel) rfl
theorem jw_2363 : Cond.constant "LevelingNetworkModel" 260 (10000000 : Int32) ∈ jk_WS := jk_wt10 (i := 203) (by decide +kernel) rfl
theorem jw_2364 : Cond.methodLink "LevelingNetworkLaw" 377 ⟨"LevelingNetworkModel", "renderBenchmark", "(I)I"⟩ ∈ jk_WS := jk_wt10 (i := 204) (by decide +kernel) rfl
theorem jw_2365 : Cond.instanceMethod ⟨"LevelingNetworkModel", "renderBenchmark", "(I)I"⟩ ∈ jk_WS := jk_wt10 (i := 205) (by decide +kernel) rfl
theorem jw_2366 : Cond.selects "LevelingNetworkModel" ⟨"LevelingNetworkModel", "renderBenchmark", "(I)I"⟩ ⟨"LevelingNetworkModel", "renderBenchmark", "(I)I"⟩ ∈ jk_WS := jk_wt10 (i := 206) (by decide +kernel) rfl
theorem jw_2367 : Cond.code ⟨"LevelingNetworkModel", "renderBenchmark", "(I)I"⟩ prog_15_method_113_code 2 (Option.some ClassFile.FieldType.int) ∈ jk_WS := jk_wt10 (i := 207) (by decide +kernel) rfl
theorem jw_2368 : Cond.methodLink "LevelingNetworkLaw" 380 ⟨"LevelingNetworkModel", "outputAt", "(I)C"⟩ ∈ jk_WS := jk_wt10 (i := 208) (by decide +kernel) rfl
theorem jw_2369 : Cond.instanceMethod ⟨"LevelingNetworkModel", "outputAt", "(I)C"⟩ ∈ jk_WS := jk_wt10 (i := 209) (by decide +kernel) rfl
theorem jw_2370 : Cond.selects "LevelingNetworkModel" ⟨"LevelingNetworkModel", "outputAt", "(I)C"⟩ ⟨"LevelingNetworkModel", "outputAt", "(I)C"⟩ ∈ jk_WS := jk_wt10 (i := 210) (by decide +kernel) rfl
theorem jw_2371 : Cond.code ⟨"LevelingNetworkModel", "outputAt", "(I)C"⟩ prog_15_method_114_code 2 (Option.some ClassFile.FieldType.char) ∈ jk_WS := jk_wt10 (i := 211) (by decide +kernel) rfl
theorem jw_2372 : Cond.methodLink "LevelingNetworkLaw" 384 ⟨"LevelingNetworkModel", "type", "(C)I"⟩ ∈ jk_WS := jk_wt10 (i := 212) (by decide +kernel) rfl
theorem jw_2373 : Cond.instanceMethod ⟨"LevelingNetworkModel", "type", "(C)I"⟩ ∈ jk_WS := jk_wt10 (i := 213) (by decide +kernel) rfl
theorem jw_2374 : Cond.selects "LevelingNetworkModel" ⟨"LevelingNetworkModel", "type", "(C)I"⟩ ⟨"LevelingNetworkModel", "type", "(C)I"⟩ ∈ jk_WS := jk_wt10 (i := 214) (by decide +kernel) rfl
theorem jw_2375 : Cond.code ⟨"LevelingNetworkModel", "type", "(C)I"⟩ prog_15_method_115_code 2 (Option.some ClassFile.FieldType.int) ∈ jk_WS := jk_wt10 (i := 215) (by decide +kernel) rfl
theorem jw_2376 : Cond.methodLink "LevelingNetworkLaw" 387 ⟨"LevelingNetworkModel", "runScript", "()I"⟩ ∈ jk_WS := jk_wt10 (i := 216) (by decide +kernel) rfl
theorem jw_2377 : Cond.instanceMethod ⟨"LevelingNetworkModel", "runScript", "()I"⟩ ∈ jk_WS := jk_wt10 (i := 217) (by decide +kernel) rfl
theorem jw_2378 : Cond.selects "LevelingNetworkModel" ⟨"LevelingNetworkModel", "runScript", "()I"⟩ ⟨"LevelingNetworkModel", "runScript", "()I"⟩ ∈ jk_WS := jk_wt10 (i := 218) (by decide +kernel) rfl
theorem jw_2379 : Cond.code ⟨"LevelingNetworkModel", "runScript", "()I"⟩ prog_15_method_129_code 5 (Option.some ClassFile.FieldType.int) ∈ jk_WS := jk_wt10 (i := 219) (by decide +kernel) rfl
theorem jw_2380 : Cond.methodLink "LevelingNetworkModel" 308 ⟨"LevelingNetworkModel", "parsesCommand", "(I)V"⟩ ∈ jk_WS := jk_wt10 (i := 220) (by decide +kernel) rfl
theorem jw_2382 : Cond.instanceMethod ⟨"LevelingNetworkModel", "parsesCommand", "(I)V"⟩ ∈ jk_WS := jk_wt10 (i := 222) (by decide +kernel) rfl
theorem jw_2383 : Cond.code ⟨"LevelingNetworkModel", "parsesCommand", "(I)V"⟩ prog_15_method_127_code 3 (Option.none : Option ClassFile.FieldType) ∈ jk_WS := jk_wt10 (i := 223) (by decide +kernel) rfl
theorem jw_2384 : Cond.methodLink "LevelingNetworkModel" 274 ⟨"LevelingNetworkModel", "here", "()I"⟩ ∈ jk_WS := jk_wt10 (i := 224) (by decide +kernel) rfl
theorem jw_2386 : Cond.instanceMethod ⟨"LevelingNetworkModel", "here", "()I"⟩ ∈ jk_WS := jk_wt10 (i := 226) (by decide +kernel) rfl
theorem jw_2387 : Cond.code ⟨"LevelingNetworkModel", "here", "()I"⟩ prog_15_method_116_code 1 (Option.some ClassFile.FieldType.int) ∈ jk_WS := jk_wt10 (i := 227) (by decide +kernel) rfl
theorem jw_2388 : Cond.methodLink "LevelingNetworkModel" 293 ⟨"LevelingNetworkModel", "parsesP", "(I)V"⟩ ∈ jk_WS := jk_wt10 (i := 228) (by decide +kernel) rfl
theorem jw_2390 : Cond.instanceMethod ⟨"LevelingNetworkModel", "parsesP", "(I)V"⟩ ∈ jk_WS := jk_wt10 (i := 230) (by decide +kernel) rfl
theorem jw_2391 : Cond.code ⟨"LevelingNetworkModel", "parsesP", "(I)V"⟩ prog_15_method_122_code 2 (Option.none : Option ClassFile.FieldType) ∈ jk_WS := jk_wt10 (i := 231) (by decide +kernel) rfl
theorem jw_2392 : Cond.methodLink "LevelingNetworkModel" 283 ⟨"LevelingNetworkModel", "needsThree", "(III)V"⟩ ∈ jk_WS := jk_wt10 (i := 232) (by decide +kernel) rfl
theorem jw_2394 : Cond.instanceMethod ⟨"LevelingNetworkModel", "needsThree", "(III)V"⟩ ∈ jk_WS := jk_wt10 (i := 234) (by decide +kernel) rfl
theorem jw_2395 : Cond.code ⟨"LevelingNetworkModel", "needsThree", "(III)V"⟩ prog_15_method_118_code 4 (Option.none : Option ClassFile.FieldType) ∈ jk_WS := jk_wt10 (i := 235) (by decide +kernel) rfl
theorem jw_2396 : Cond.methodLink "LevelingNetworkModel" 277 ⟨"LevelingNetworkModel", "needs", "(I)V"⟩ ∈ jk_WS := jk_wt10 (i := 236) (by decide +kernel) rfl
theorem jw_2398 : Cond.instanceMethod ⟨"LevelingNetworkModel", "needs", "(I)V"⟩ ∈ jk_WS := jk_wt10 (i := 238) (by decide +kernel) rfl
theorem jw_2399 : Cond.code ⟨"LevelingNetworkModel", "needs", "(I)V"⟩ prog_15_method_117_code 2 (Option.none : Option ClassFile.FieldType) ∈ jk_WS := jk_wt10 (i := 239) (by decide +kernel) rfl
theorem jw_2400 : Cond.methodLink "LevelingNetworkModel" 287 ⟨"LevelingNetworkModel", "digitsAfter", "(II)I"⟩ ∈ jk_WS := jk_wt11 (i := 0) (by decide +kernel) rfl
theorem jw_2402 : Cond.instanceMethod ⟨"LevelingNetworkModel", "digitsAfter", "(II)I"⟩ ∈ jk_WS := jk_wt11 (i := 2) (by decide +kernel) rfl
theorem jw_2403 : Cond.code ⟨"LevelingNetworkModel", "digitsAfter", "(II)I"⟩ prog_15_method_120_code 3 (Option.some ClassFile.FieldType.int) ∈ jk_WS := jk_wt11 (i := 3) (by decide +kernel) rfl
theorem jw_2404 : Cond.methodLink "LevelingNetworkModel" 280 ⟨"LevelingNetworkModel", "digits", "(I)I"⟩ ∈ jk_WS := jk_wt11 (i := 4) (by decide +kernel) rfl
theorem jw_2406 : Cond.instanceMethod ⟨"LevelingNetworkModel", "digits", "(I)I"⟩ ∈ jk_WS := jk_wt11 (i := 6) (by decide +kernel) rfl
theorem jw_2407 : Cond.code ⟨"LevelingNetworkModel", "digits", "(I)I"⟩ prog_15_method_119_code 4 (Option.some ClassFile.FieldType.int) ∈ jk_WS := jk_wt11 (i := 7) (by decide +kernel) rfl
theorem jw_2408 : Cond.methodLink "LevelingNetworkModel" 296 ⟨"LevelingNetworkModel", "parsesF", "(I)V"⟩ ∈ jk_WS := jk_wt11 (i := 8) (by decide +kernel) rfl
theorem jw_2410 : Cond.instanceMethod ⟨"LevelingNetworkModel", "parsesF", "(I)V"⟩ ∈ jk_WS := jk_wt11 (i := 10) (by decide +kernel) rfl
theorem jw_2411 : Cond.code ⟨"LevelingNetworkModel", "parsesF", "(I)V"⟩ prog_15_method_123_code 2 (Option.none : Option ClassFile.FieldType) ∈ jk_WS := jk_wt11 (i := 11) (by decide +kernel) rfl
theorem jw_2412 : Cond.methodLink "LevelingNetworkModel" 290 ⟨"LevelingNetworkModel", "valueAfter", "(I)I"⟩ ∈ jk_WS := jk_wt11 (i := 12) (by decide +kernel) rfl
theorem jw_2414 : Cond.instanceMethod ⟨"LevelingNetworkModel", "valueAfter", "(I)I"⟩ ∈ jk_WS := jk_wt11 (i := 14) (by decide +kernel) rfl
theorem jw_2415 : Cond.code ⟨"LevelingNetworkModel", "valueAfter", "(I)I"⟩ prog_15_method_121_code 4 (Option.some ClassFile.FieldType.int) ∈ jk_WS := jk_wt11 (i := 15) (by decide +kernel) rfl
theorem jw_2416 : Cond.methodLink "LevelingNetworkModel" 299 ⟨"LevelingNetworkModel", "parsesLine", "(I)V"⟩ ∈ jk_WS := jk_wt11 (i := 16) (by decide +kernel) rfl
theorem jw_2418 : Cond.instanceMethod ⟨"LevelingNetworkModel", "parsesLine", "(I)V"⟩ ∈ jk_WS := jk_wt11 (i := 18) (by decide +kernel) rfl
theorem jw_2419 : Cond.code ⟨"LevelingNetworkModel", "parsesLine", "(I)V"⟩ prog_15_method_125_code 2 (Option.none : Option ClassFile.FieldType) ∈ jk_WS := jk_wt11 (i := 19) (by decide +kernel) rfl
theorem jw_2420 : Cond.methodLink "LevelingNetworkModel" 302 ⟨"LevelingNetworkModel", "parsesMark", "(III)V"⟩ ∈ jk_WS := jk_wt11 (i := 20) (by decide +kernel) rfl
theorem jw_2422 : Cond.instanceMethod ⟨"LevelingNetworkModel", "parsesMark", "(III)V"⟩ ∈ jk_WS := jk_wt11 (i := 22) (by decide +kernel) rfl
theorem jw_2423 : Cond.code ⟨"LevelingNetworkModel", "parsesMark", "(III)V"⟩ prog_15_method_126_code 4 (Option.none : Option ClassFile.FieldType) ∈ jk_WS := jk_wt11 (i := 23) (by decide +kernel) rfl
theorem jw_2424 : Cond.methodLink "LevelingNetworkModel" 305 ⟨"LevelingNetworkModel", "parsesS", "(I)V"⟩ ∈ jk_WS := jk_wt11 (i := 24) (by decide +kernel) rfl
theorem jw_2426 : Cond.instanceMethod ⟨"LevelingNetworkModel", "parsesS", "(I)V"⟩ ∈ jk_WS := jk_wt11 (i := 26) (by decide +kernel) rfl
theorem jw_2427 : Cond.code ⟨"LevelingNetworkModel", "parsesS", "(I)V"⟩ prog_15_method_124_code 2 (Option.none : Option ClassFile.FieldType) ∈ jk_WS := jk_wt11 (i := 27) (by decide +kernel) rfl
theorem jw_2428 : Cond.methodLink "LevelingNetworkModel" 311 ⟨"LevelingNetworkModel", "carriesOut", "(I)I"⟩ ∈ jk_WS := jk_wt11 (i := 28) (by decide +kernel) rfl
theorem jw_2430 : Cond.instanceMethod ⟨"LevelingNetworkModel", "carriesOut", "(I)I"⟩ ∈ jk_WS := jk_wt11 (i := 30) (by decide +kernel) rfl
theorem jw_2431 : Cond.code ⟨"LevelingNetworkModel", "carriesOut", "(I)I"⟩ prog_15_method_128_code 4 (Option.some ClassFile.FieldType.int) ∈ jk_WS := jk_wt11 (i := 31) (by decide +kernel) rfl
theorem jw_2432 : Cond.methodLink "LevelingNetworkLaw" 390 ⟨"LevelingNetworkModel", "errorPosition", "()I"⟩ ∈ jk_WS := jk_wt11 (i := 32) (by decide +kernel) rfl
theorem jw_2433 : Cond.instanceMethod ⟨"LevelingNetworkModel", "errorPosition", "()I"⟩ ∈ jk_WS := jk_wt11 (i := 33) (by decide +kernel) rfl
theorem jw_2434 : Cond.selects "LevelingNetworkModel" ⟨"LevelingNetworkModel", "errorPosition", "()I"⟩ ⟨"LevelingNetworkModel", "errorPosition", "()I"⟩ ∈ jk_WS := jk_wt11 (i := 34) (by decide +kernel) rfl
theorem jw_2435 : Cond.code ⟨"LevelingNetworkModel", "errorPosition", "()I"⟩ prog_15_method_130_code 1 (Option.some ClassFile.FieldType.int) ∈ jk_WS := jk_wt11 (i := 35) (by decide +kernel) rfl
theorem jw_2436 : Cond.methodLink "LevelingNetworkLaw" 393 ⟨"LevelingNetworkModel", "failedCommand", "()I"⟩ ∈ jk_WS := jk_wt11 (i := 36) (by decide +kernel) rfl
theorem jw_2437 : Cond.instanceMethod ⟨"LevelingNetworkModel", "failedCommand", "()I"⟩ ∈ jk_WS := jk_wt11 (i := 37) (by decide +kernel) rfl
theorem jw_2438 : Cond.selects "LevelingNetworkModel" ⟨"LevelingNetworkModel", "failedCommand", "()I"⟩ ⟨"LevelingNetworkModel", "failedCommand", "()I"⟩ ∈ jk_WS := jk_wt11 (i := 38) (by decide +kernel) rfl
theorem jw_2439 : Cond.code ⟨"LevelingNetworkModel", "failedCommand", "()I"⟩ prog_15_method_131_code 1 (Option.some ClassFile.FieldType.int) ∈ jk_WS := jk_wt11 (i := 39) (by decide +kernel) rfl
theorem jw_2440 : Cond.methodLink "LevelingNetworkLaw" 396 ⟨"LevelingNetworkModel", "undo", "()I"⟩ ∈ jk_WS := jk_wt11 (i := 40) (by decide +kernel) rfl
theorem jw_2441 : Cond.instanceMethod ⟨"LevelingNetworkModel", "undo", "()I"⟩ ∈ jk_WS := jk_wt11 (i := 41) (by decide +kernel) rfl
theorem jw_2442 : Cond.selects "LevelingNetworkModel" ⟨"LevelingNetworkModel", "undo", "()I"⟩ ⟨"LevelingNetworkModel", "undo", "()I"⟩ ∈ jk_WS := jk_wt11 (i := 42) (by decide +kernel) rfl
theorem jw_2443 : Cond.code ⟨"LevelingNetworkModel", "undo", "()I"⟩ prog_15_method_132_code 1 (Option.some ClassFile.FieldType.int) ∈ jk_WS := jk_wt11 (i := 43) (by decide +kernel) rfl
theorem jw_2444 : Cond.methodLink "LevelingNetworkLaw" 400 ⟨"LevelingNetworkModel", "save", "()I"⟩ ∈ jk_WS := jk_wt11 (i := 44) (by decide +kernel) rfl
theorem jw_2445 : Cond.instanceMethod ⟨"LevelingNetworkModel", "save", "()I"⟩ ∈ jk_WS := jk_wt11 (i := 45) (by decide +kernel) rfl
theorem jw_2446 : Cond.selects "LevelingNetworkModel" ⟨"LevelingNetworkModel", "save", "()I"⟩ ⟨"LevelingNetworkModel", "save", "()I"⟩ ∈ jk_WS := jk_wt11 (i := 46) (by decide +kernel) rfl
theorem jw_2447 : Cond.code ⟨"LevelingNetworkModel", "save", "()I"⟩ prog_15_method_133_code 1 (Option.some ClassFile.FieldType.int) ∈ jk_WS := jk_wt11 (i := 47) (by decide +kernel) rfl
theorem jw_2448 : Cond.methodLink "LevelingNetworkLaw" 403 ⟨"LevelingNetworkModel", "restore", "()I"⟩ ∈ jk_WS := jk_wt11 (i := 48) (by decide +kernel) rfl
theorem jw_2449 : Cond.instanceMethod ⟨"LevelingNetworkModel", "restore", "()I"⟩ ∈ jk_WS := jk_wt11 (i := 49) (by decide +kernel) rfl
theorem jw_2450 : Cond.selects "LevelingNetworkModel" ⟨"LevelingNetworkModel", "restore", "()I"⟩ ⟨"LevelingNetworkModel", "restore", "()I"⟩ ∈ jk_WS := jk_wt11 (i := 50) (by decide +kernel) rfl
theorem jw_2451 : Cond.code ⟨"LevelingNetworkModel", "restore", "()I"⟩ prog_15_method_134_code 1 (Option.some ClassFile.FieldType.int) ∈ jk_WS := jk_wt11 (i := 51) (by decide +kernel) rfl
theorem jw_2452 : Cond.arrayClass ClassFile.FieldType.long ∈ jk_WS := jk_wt11 (i := 52) (by decide +kernel) rfl
theorem jw_2453 : Cond.arrayClass ClassFile.FieldType.double ∈ jk_WS := jk_wt11 (i := 53) (by decide +kernel) rfl
theorem jw_2454 : Cond.sameMethod "java/lang/Throwable" "java/lang/Throwable" "fillInStackTrace" "(I)Ljava/lang/Throwable;" ∈ jk_WS := jk_wt11 (i := 54) (by decide +kernel) rfl
theorem jw_2455 : Cond.sameMethod "java/lang/AbstractStringBuilder" "java/lang/AbstractStringBuilder" "setLength" "(I)V" ∈ jk_WS := jk_wt11 (i := 55) (by decide +kernel) rfl
theorem jw_2456 : Cond.sameMethod "java/lang/AbstractStringBuilder" "java/lang/AbstractStringBuilder" "append" "(Ljava/lang/String;)Ljava/lang/AbstractStringBuilder;" ∈ jk_WS := jk_wt11 (i := 56) (by decide +kernel) rfl
theorem jw_2457 : Cond.sameMethod "java/lang/AbstractStringBuilder" "java/lang/AbstractStringBuilder" "appendNull" "()Ljava/lang/AbstractStringBuilder;" ∈ jk_WS := jk_wt11 (i := 57) (by decide +kernel) rfl
theorem jw_2458 : Cond.sameMethod "java/lang/AbstractStringBuilder" "java/lang/AbstractStringBuilder" "ensureCapacityInternal" "(I)V" ∈ jk_WS := jk_wt11 (i := 58) (by decide +kernel) rfl
theorem jw_2459 : Cond.sameMethod "java/lang/AbstractStringBuilder" "java/lang/AbstractStringBuilder" "newCapacity" "(I)I" ∈ jk_WS := jk_wt11 (i := 59) (by decide +kernel) rfl
theorem jw_2460 : Cond.sameMethod "java/lang/AbstractStringBuilder" "java/lang/AbstractStringBuilder" "putStringAt" "(ILjava/lang/String;)V" ∈ jk_WS := jk_wt11 (i := 60) (by decide +kernel) rfl
theorem jw_2461 : Cond.sameMethod "java/lang/AbstractStringBuilder" "java/lang/AbstractStringBuilder" "inflateIfNeededFor" "(Ljava/lang/String;)V" ∈ jk_WS := jk_wt11 (i := 61) (by decide +kernel) rfl
theorem jw_2462 : Cond.sameMethod "java/lang/AbstractStringBuilder" "java/lang/AbstractStringBuilder" "inflate" "()V" ∈ jk_WS := jk_wt11 (i := 62) (by decide +kernel) rfl
theorem jw_2463 : Cond.sameMethod "java/lang/AbstractStringBuilder" "java/lang/AbstractStringBuilder" "append" "(I)Ljava/lang/AbstractStringBuilder;" ∈ jk_WS := jk_wt11 (i := 63) (by decide +kernel) rfl
theorem jw_2464 : Cond.sameMethod "java/lang/AbstractStringBuilder" "java/lang/AbstractStringBuilder" "append" "(C)Ljava/lang/AbstractStringBuilder;" ∈ jk_WS := jk_wt11 (i := 64) (by decide +kernel) rfl
theorem jw_2465 : Cond.selects "java/lang/StringBuilder" ⟨"java/lang/StringBuilder", "length", "()I"⟩ ⟨"java/lang/StringBuilder", "length", "()I"⟩ ∈ jk_WS := jk_wt11 (i := 65) (by decide +kernel) rfl
theorem jw_2466 : Cond.sameMethod "java/lang/AbstractStringBuilder" "java/lang/AbstractStringBuilder" "charAt" "(I)C" ∈ jk_WS := jk_wt11 (i := 66) (by decide +kernel) rfl
theorem jw_2467 : Cond.castable "java/lang/ArrayIndexOutOfBoundsException" "java/lang/IndexOutOfBoundsException" ∈ jk_WS := jk_wt11 (i := 67) (by decide +kernel) rfl
theorem jw_2468 : Cond.castable "java/lang/StringIndexOutOfBoundsException" "java/lang/IndexOutOfBoundsException" ∈ jk_WS := jk_wt11 (i := 68) (by decide +kernel) rfl
theorem jw_2469 : Cond.castable "LevelingNetwork" "java/lang/Object" ∈ jk_WS := jk_wt11 (i := 69) (by decide +kernel) rfl
theorem jw_2470 : Cond.castable "LevelingNetwork$Survey" "java/lang/Object" ∈ jk_WS := jk_wt11 (i := 70) (by decide +kernel) rfl
theorem jw_2471 : Cond.castable "LevelingNetwork$History" "java/lang/Object" ∈ jk_WS := jk_wt11 (i := 71) (by decide +kernel) rfl
theorem jw_2472 : Cond.castable "LevelingNetwork$Forest" "java/lang/Object" ∈ jk_WS := jk_wt11 (i := 72) (by decide +kernel) rfl
theorem jw_2473 : Cond.castable "LevelingNetwork$Way" "java/lang/Object" ∈ jk_WS := jk_wt11 (i := 73) (by decide +kernel) rfl
theorem jw_2474 : Cond.castable "LevelingNetwork$Sharing" "java/lang/Object" ∈ jk_WS := jk_wt11 (i := 74) (by decide +kernel) rfl
theorem jw_2475 : Cond.castable "LevelingNetwork$Heights" "java/lang/Object" ∈ jk_WS := jk_wt11 (i := 75) (by decide +kernel) rfl
theorem jw_2476 : Cond.castable "LevelingNetwork$Bank" "java/lang/Object" ∈ jk_WS := jk_wt11 (i := 76) (by decide +kernel) rfl
theorem jw_2477 : Cond.castable "LevelingNetwork$Changes" "java/lang/Object" ∈ jk_WS := jk_wt11 (i := 77) (by decide +kernel) rfl
theorem jw_2478 : Cond.castable "LevelingNetwork$Script" "java/lang/Object" ∈ jk_WS := jk_wt11 (i := 78) (by decide +kernel) rfl
theorem jw_2479 : Cond.castable "java/lang/StringBuilder" "java/lang/Object" ∈ jk_WS := jk_wt11 (i := 79) (by decide +kernel) rfl
theorem jw_2480 : Cond.castable "LevelingNetworkModel" "java/lang/Object" ∈ jk_WS := jk_wt11 (i := 80) (by decide +kernel) rfl
theorem jw_2481 : Cond.castable "LevelingNetwork$Kind" "java/lang/Object" ∈ jk_WS := jk_wt11 (i := 81) (by decide +kernel) rfl
theorem jw_2482 : Cond.castable "LevelingNetwork$Trouble" "java/lang/Object" ∈ jk_WS := jk_wt11 (i := 82) (by decide +kernel) rfl
theorem jw_2483 : Cond.castable "java/lang/IndexOutOfBoundsException" "java/lang/Object" ∈ jk_WS := jk_wt11 (i := 83) (by decide +kernel) rfl
theorem jw_2484 : Cond.castable "java/lang/IllegalArgumentException" "java/lang/Object" ∈ jk_WS := jk_wt11 (i := 84) (by decide +kernel) rfl
theorem jw_2485 : Cond.castable "java/lang/IllegalStateException" "java/lang/Object" ∈ jk_WS := jk_wt11 (i := 85) (by decide +kernel) rfl
theorem jw_2486 : Cond.castable "java/util/NoSuchElementException" "java/lang/Object" ∈ jk_WS := jk_wt11 (i := 86) (by decide +kernel) rfl
theorem jw_2487 : Cond.castable "java/lang/UnsupportedOperationException" "java/lang/Object" ∈ jk_WS := jk_wt11 (i := 87) (by decide +kernel) rfl
theorem jw_2488 : Cond.castable "java/lang/ArrayIndexOutOfBoundsException" "java/lang/Object" ∈ jk_WS := jk_wt11 (i := 88) (by decide +kernel) rfl
theorem jw_2489 : Cond.castable "java/lang/ArithmeticException" "java/lang/Object" ∈ jk_WS := jk_wt11 (i := 89) (by decide +kernel) rfl
theorem jw_2490 : Cond.castable "java/lang/StringIndexOutOfBoundsException" "java/lang/Object" ∈ jk_WS := jk_wt11 (i := 90) (by decide +kernel) rfl
theorem jw_2491 : Cond.castable "java/lang/String" "java/lang/Object" ∈ jk_WS := jk_wt11 (i := 91) (by decide +kernel) rfl
theorem jw_2492 : Cond.castable "java/lang/Throwable" "java/lang/Object" ∈ jk_WS := jk_wt11 (i := 92) (by decide +kernel) rfl
theorem jw_2493 : Cond.fieldLink "java/lang/Enum" 7 "java/lang/Enum" "ordinal" "I" ∈ jk_WS := jk_wt11 (i := 93) (by decide +kernel) rfl
theorem jw_2494 : Cond.fieldLink "LevelingNetwork$Script" 59 "LevelingNetwork$Kind" "word" "Ljava/lang/String;" ∈ jk_WS := jk_wt11 (i := 94) (by decide +kernel) rfl
theorem jw_2495 : Cond.fieldLink "LevelingNetwork$Script" 48 "LevelingNetwork$Kind" "form" "Ljava/lang/String;" ∈ jk_WS := jk_wt11 (i := 95) (by decide +kernel) rfl
theorem jw_s0 : Cond.selects "LevelingNetwork" ⟨"LevelingNetwork", "change", "(LLevelingNetwork$Kind;IIII)I"⟩ ⟨"LevelingNetwork", "change", "(LLevelingNetwork$Kind;IIII)I"⟩ ∈ jk_WS := jk_wts (i := 0) (by decide +kernel) rfl
theorem jw_s1 : Cond.selects "LevelingNetwork$Changes" ⟨"LevelingNetwork$Changes", "troubleWithFixing", "(II)LLevelingNetwork$Trouble;"⟩ ⟨"LevelingNetwork$Changes", "troubleWithFixing", "(II)LLevelingNetwork$Trouble;"⟩ ∈ jk_WS := jk_wts (i := 1) (by decide +kernel) rfl
theorem jw_s2 : Cond.selects "LevelingNetwork$Changes" ⟨"LevelingNetwork$Changes", "troubleWithFreeing", "(I)LLevelingNetwork$Trouble;"⟩ ⟨"LevelingNetwork$Changes", "troubleWithFreeing", "(I)LLevelingNetwork$Trouble;"⟩ ∈ jk_WS := jk_wts (i := 2) (by decide +kernel) rfl
theorem jw_s3 : Cond.selects "LevelingNetwork$Changes" ⟨"LevelingNetwork$Changes", "troubleWithLine", "(IIII)LLevelingNetwork$Trouble;"⟩ ⟨"LevelingNetwork$Changes", "troubleWithLine", "(IIII)LLevelingNetwork$Trouble;"⟩ ∈ jk_WS := jk_wts (i := 3) (by decide +kernel) rfl
theorem jw_s4 : Cond.selects "LevelingNetwork$Changes" ⟨"LevelingNetwork$Changes", "troubleWithBackwardRun", "(II)LLevelingNetwork$Trouble;"⟩ ⟨"LevelingNetwork$Changes", "troubleWithBackwardRun", "(II)LLevelingNetwork$Trouble;"⟩ ∈ jk_WS := jk_wts (i := 4) (by decide +kernel) rfl
theorem jw_s5 : Cond.selects "LevelingNetwork$Changes" ⟨"LevelingNetwork$Changes", "troubleWithExclusion", "(IZ)LLevelingNetwork$Trouble;"⟩ ⟨"LevelingNetwork$Changes", "troubleWithExclusion", "(IZ)LLevelingNetwork$Trouble;"⟩ ∈ jk_WS := jk_wts (i := 5) (by decide +kernel) rfl
theorem jw_s6 : Cond.selects "LevelingNetwork$Changes" ⟨"LevelingNetwork$Changes", "troubleWithSharing", "(I)LLevelingNetwork$Trouble;"⟩ ⟨"LevelingNetwork$Changes", "troubleWithSharing", "(I)LLevelingNetwork$Trouble;"⟩ ∈ jk_WS := jk_wts (i := 6) (by decide +kernel) rfl
theorem jw_s7 : Cond.selects "LevelingNetwork$Forest" ⟨"LevelingNetwork$Forest", "putInOrder", "()V"⟩ ⟨"LevelingNetwork$Forest", "putInOrder", "()V"⟩ ∈ jk_WS := jk_wts (i := 7) (by decide +kernel) rfl
theorem jw_s8 : Cond.selects "LevelingNetwork$Forest" ⟨"LevelingNetwork$Forest", "consider", "(I)V"⟩ ⟨"LevelingNetwork$Forest", "consider", "(I)V"⟩ ∈ jk_WS := jk_wts (i := 8) (by decide +kernel) rfl
theorem jw_s9 : Cond.selects "LevelingNetwork$Way" ⟨"LevelingNetwork$Way", "add", "(II)I"⟩ ⟨"LevelingNetwork$Way", "add", "(II)I"⟩ ∈ jk_WS := jk_wts (i := 9) (by decide +kernel) rfl
theorem jw_s10 : Cond.selects "LevelingNetwork$Way" ⟨"LevelingNetwork$Way", "leadsOn", "(II)Z"⟩ ⟨"LevelingNetwork$Way", "leadsOn", "(II)Z"⟩ ∈ jk_WS := jk_wts (i := 10) (by decide +kernel) rfl
theorem jw_s11 : Cond.selects "LevelingNetwork$Changes" ⟨"LevelingNetwork$Changes", "troubleWithProfile", "(I)LLevelingNetwork$Trouble;"⟩ ⟨"LevelingNetwork$Changes", "troubleWithProfile", "(I)LLevelingNetwork$Trouble;"⟩ ∈ jk_WS := jk_wts (i := 11) (by decide +kernel) rfl
theorem jw_s12 : Cond.selects "LevelingNetwork$Changes" ⟨"LevelingNetwork$Changes", "troubleWithStation", "(III)LLevelingNetwork$Trouble;"⟩ ⟨"LevelingNetwork$Changes", "troubleWithStation", "(III)LLevelingNetwork$Trouble;"⟩ ∈ jk_WS := jk_wts (i := 12) (by decide +kernel) rfl
theorem jw_s13 : Cond.selects "java/lang/Throwable" ⟨"java/lang/Throwable", "fillInStackTrace", "(I)Ljava/lang/Throwable;"⟩ ⟨"java/lang/Throwable", "fillInStackTrace", "(I)Ljava/lang/Throwable;"⟩ ∈ jk_WS := jk_wts (i := 13) (by decide +kernel) rfl
theorem jw_s14 : Cond.selects "LevelingNetwork$Survey" ⟨"LevelingNetwork$Survey", "copyBenchmarks", "(LLevelingNetwork$Survey;)V"⟩ ⟨"LevelingNetwork$Survey", "copyBenchmarks", "(LLevelingNetwork$Survey;)V"⟩ ∈ jk_WS := jk_wts (i := 14) (by decide +kernel) rfl
theorem jw_s15 : Cond.selects "LevelingNetwork$Survey" ⟨"LevelingNetwork$Survey", "copyLines", "(LLevelingNetwork$Survey;)V"⟩ ⟨"LevelingNetwork$Survey", "copyLines", "(LLevelingNetwork$Survey;)V"⟩ ∈ jk_WS := jk_wts (i := 15) (by decide +kernel) rfl
theorem jw_s16 : Cond.selects "LevelingNetwork$Survey" ⟨"LevelingNetwork$Survey", "copyProfiles", "(LLevelingNetwork$Survey;)V"⟩ ⟨"LevelingNetwork$Survey", "copyProfiles", "(LLevelingNetwork$Survey;)V"⟩ ∈ jk_WS := jk_wts (i := 16) (by decide +kernel) rfl
theorem jw_s17 : Cond.selects "LevelingNetwork$Changes" ⟨"LevelingNetwork$Changes", "putBenchmark", "()I"⟩ ⟨"LevelingNetwork$Changes", "putBenchmark", "()I"⟩ ∈ jk_WS := jk_wts (i := 17) (by decide +kernel) rfl
theorem jw_s18 : Cond.selects "LevelingNetwork$Changes" ⟨"LevelingNetwork$Changes", "putLine", "(IIII)I"⟩ ⟨"LevelingNetwork$Changes", "putLine", "(IIII)I"⟩ ∈ jk_WS := jk_wts (i := 18) (by decide +kernel) rfl
theorem jw_s19 : Cond.selects "LevelingNetwork$Changes" ⟨"LevelingNetwork$Changes", "shareOut", "(I)I"⟩ ⟨"LevelingNetwork$Changes", "shareOut", "(I)I"⟩ ∈ jk_WS := jk_wts (i := 19) (by decide +kernel) rfl
theorem jw_s20 : Cond.selects "LevelingNetwork$Sharing" ⟨"LevelingNetwork$Sharing", "giveOut", "(I)V"⟩ ⟨"LevelingNetwork$Sharing", "giveOut", "(I)V"⟩ ∈ jk_WS := jk_wts (i := 20) (by decide +kernel) rfl
theorem jw_s21 : Cond.selects "LevelingNetwork$Changes" ⟨"LevelingNetwork$Changes", "clearCorrections", "()I"⟩ ⟨"LevelingNetwork$Changes", "clearCorrections", "()I"⟩ ∈ jk_WS := jk_wts (i := 21) (by decide +kernel) rfl
theorem jw_s22 : Cond.selects "LevelingNetwork$Changes" ⟨"LevelingNetwork$Changes", "putProfile", "(I)I"⟩ ⟨"LevelingNetwork$Changes", "putProfile", "(I)I"⟩ ∈ jk_WS := jk_wts (i := 22) (by decide +kernel) rfl
theorem jw_s23 : Cond.selects "LevelingNetwork$Changes" ⟨"LevelingNetwork$Changes", "putStation", "(III)I"⟩ ⟨"LevelingNetwork$Changes", "putStation", "(III)I"⟩ ∈ jk_WS := jk_wts (i := 23) (by decide +kernel) rfl
theorem jw_s24 : Cond.selects "LevelingNetwork$Changes" ⟨"LevelingNetwork$Changes", "putWater", "(I)I"⟩ ⟨"LevelingNetwork$Changes", "putWater", "(I)I"⟩ ∈ jk_WS := jk_wts (i := 24) (by decide +kernel) rfl
theorem jw_s25 : Cond.selects "LevelingNetwork$Forest" ⟨"LevelingNetwork$Forest", "growReached", "()I"⟩ ⟨"LevelingNetwork$Forest", "growReached", "()I"⟩ ∈ jk_WS := jk_wts (i := 25) (by decide +kernel) rfl
theorem jw_s26 : Cond.selects "LevelingNetwork$Forest" ⟨"LevelingNetwork$Forest", "firstLineOutOfReached", "()I"⟩ ⟨"LevelingNetwork$Forest", "firstLineOutOfReached", "()I"⟩ ∈ jk_WS := jk_wts (i := 26) (by decide +kernel) rfl
theorem jw_s27 : Cond.selects "LevelingNetwork" ⟨"LevelingNetwork", "heightsAgree", "()Z"⟩ ⟨"LevelingNetwork", "heightsAgree", "()Z"⟩ ∈ jk_WS := jk_wts (i := 27) (by decide +kernel) rfl
theorem jw_s28 : Cond.selects "LevelingNetwork$Heights" ⟨"LevelingNetwork$Heights", "passOn", "(II)V"⟩ ⟨"LevelingNetwork$Heights", "passOn", "(II)V"⟩ ∈ jk_WS := jk_wts (i := 28) (by decide +kernel) rfl
theorem jw_s29 : Cond.selects "LevelingNetwork$Heights" ⟨"LevelingNetwork$Heights", "passOnOnce", "()Z"⟩ ⟨"LevelingNetwork$Heights", "passOnOnce", "()Z"⟩ ∈ jk_WS := jk_wts (i := 29) (by decide +kernel) rfl
theorem jw_s30 : Cond.selects "LevelingNetwork" ⟨"LevelingNetwork", "misclosuresAgree", "()Z"⟩ ⟨"LevelingNetwork", "misclosuresAgree", "()Z"⟩ ∈ jk_WS := jk_wts (i := 30) (by decide +kernel) rfl
theorem jw_s31 : Cond.selects "LevelingNetwork" ⟨"LevelingNetwork", "wetColumnsAgree", "()Z"⟩ ⟨"LevelingNetwork", "wetColumnsAgree", "()Z"⟩ ∈ jk_WS := jk_wts (i := 31) (by decide +kernel) rfl
theorem jw_s32 : Cond.selects "LevelingNetwork" ⟨"LevelingNetwork", "surfaceAt", "(I)I"⟩ ⟨"LevelingNetwork", "surfaceAt", "(I)I"⟩ ∈ jk_WS := jk_wts (i := 32) (by decide +kernel) rfl
theorem jw_s33 : Cond.selects "LevelingNetwork$Bank" ⟨"LevelingNetwork$Bank", "lastColumn", "(I)I"⟩ ⟨"LevelingNetwork$Bank", "lastColumn", "(I)I"⟩ ∈ jk_WS := jk_wts (i := 33) (by decide +kernel) rfl
theorem jw_s34 : Cond.selects "LevelingNetwork$Bank" ⟨"LevelingNetwork$Bank", "firstColumn", "(I)I"⟩ ⟨"LevelingNetwork$Bank", "firstColumn", "(I)I"⟩ ∈ jk_WS := jk_wts (i := 34) (by decide +kernel) rfl
theorem jw_s35 : Cond.selects "LevelingNetwork" ⟨"LevelingNetwork", "requireBenchmark", "(I)V"⟩ ⟨"LevelingNetwork", "requireBenchmark", "(I)V"⟩ ∈ jk_WS := jk_wts (i := 35) (by decide +kernel) rfl
theorem jw_s36 : Cond.selects "LevelingNetwork" ⟨"LevelingNetwork", "requireHeight", "(I)V"⟩ ⟨"LevelingNetwork", "requireHeight", "(I)V"⟩ ∈ jk_WS := jk_wts (i := 36) (by decide +kernel) rfl
theorem jw_s37 : Cond.selects "LevelingNetwork$Heights" ⟨"LevelingNetwork$Heights", "benchmarksAheadOf", "(I)I"⟩ ⟨"LevelingNetwork$Heights", "benchmarksAheadOf", "(I)I"⟩ ∈ jk_WS := jk_wts (i := 37) (by decide +kernel) rfl
theorem jw_s38 : Cond.selects "LevelingNetwork" ⟨"LevelingNetwork", "requireLine", "(I)V"⟩ ⟨"LevelingNetwork", "requireLine", "(I)V"⟩ ∈ jk_WS := jk_wts (i := 38) (by decide +kernel) rfl
theorem jw_s39 : Cond.selects "LevelingNetwork$Survey" ⟨"LevelingNetwork$Survey", "linesAheadOf", "(I)I"⟩ ⟨"LevelingNetwork$Survey", "linesAheadOf", "(I)I"⟩ ∈ jk_WS := jk_wts (i := 39) (by decide +kernel) rfl
theorem jw_s40 : Cond.selects "LevelingNetwork" ⟨"LevelingNetwork", "traceLoop", "(I)V"⟩ ⟨"LevelingNetwork", "traceLoop", "(I)V"⟩ ∈ jk_WS := jk_wts (i := 40) (by decide +kernel) rfl
theorem jw_s41 : Cond.selects "LevelingNetwork" ⟨"LevelingNetwork", "requireProfile", "(I)V"⟩ ⟨"LevelingNetwork", "requireProfile", "(I)V"⟩ ∈ jk_WS := jk_wts (i := 41) (by decide +kernel) rfl
theorem jw_s42 : Cond.selects "LevelingNetwork" ⟨"LevelingNetwork", "markOf", "(I)C"⟩ ⟨"LevelingNetwork", "markOf", "(I)C"⟩ ∈ jk_WS := jk_wts (i := 42) (by decide +kernel) rfl
theorem jw_s43 : Cond.selects "LevelingNetwork$Script" ⟨"LevelingNetwork$Script", "readCommand", "()Z"⟩ ⟨"LevelingNetwork$Script", "readCommand", "()Z"⟩ ∈ jk_WS := jk_wts (i := 43) (by decide +kernel) rfl
theorem jw_s44 : Cond.selects "LevelingNetwork$Script" ⟨"LevelingNetwork$Script", "readWord", "()LLevelingNetwork$Kind;"⟩ ⟨"LevelingNetwork$Script", "readWord", "()LLevelingNetwork$Kind;"⟩ ∈ jk_WS := jk_wts (i := 44) (by decide +kernel) rfl
theorem jw_s45 : Cond.selects "LevelingNetwork$Script" ⟨"LevelingNetwork$Script", "fittingSigns", "(Ljava/lang/String;)I"⟩ ⟨"LevelingNetwork$Script", "fittingSigns", "(Ljava/lang/String;)I"⟩ ∈ jk_WS := jk_wts (i := 45) (by decide +kernel) rfl
theorem jw_s46 : Cond.selects "LevelingNetwork$Script" ⟨"LevelingNetwork$Script", "signAt", "(I)C"⟩ ⟨"LevelingNetwork$Script", "signAt", "(I)C"⟩ ∈ jk_WS := jk_wts (i := 46) (by decide +kernel) rfl
theorem jw_s47 : Cond.selects "LevelingNetwork$Script" ⟨"LevelingNetwork$Script", "readForm", "(Ljava/lang/String;[I)Z"⟩ ⟨"LevelingNetwork$Script", "readForm", "(Ljava/lang/String;[I)Z"⟩ ∈ jk_WS := jk_wts (i := 47) (by decide +kernel) rfl
theorem jw_s48 : Cond.selects "LevelingNetwork$Script" ⟨"LevelingNetwork$Script", "readSign", "(C)Z"⟩ ⟨"LevelingNetwork$Script", "readSign", "(C)Z"⟩ ∈ jk_WS := jk_wts (i := 48) (by decide +kernel) rfl
theorem jw_s49 : Cond.selects "LevelingNetwork$Script" ⟨"LevelingNetwork$Script", "readArgument", "(IZ[II)Z"⟩ ⟨"LevelingNetwork$Script", "readArgument", "(IZ[II)Z"⟩ ∈ jk_WS := jk_wts (i := 49) (by decide +kernel) rfl
theorem jw_s50 : Cond.selects "LevelingNetwork" ⟨"LevelingNetwork", "firstFailure", "()I"⟩ ⟨"LevelingNetwork", "firstFailure", "()I"⟩ ∈ jk_WS := jk_wts (i := 50) (by decide +kernel) rfl
theorem jw_s51 : Cond.selects "LevelingNetworkModel" ⟨"LevelingNetworkModel", "begin", "()V"⟩ ⟨"LevelingNetworkModel", "begin", "()V"⟩ ∈ jk_WS := jk_wts (i := 51) (by decide +kernel) rfl
theorem jw_s52 : Cond.selects "LevelingNetworkModel" ⟨"LevelingNetworkModel", "addsPoint", "()I"⟩ ⟨"LevelingNetworkModel", "addsPoint", "()I"⟩ ∈ jk_WS := jk_wts (i := 52) (by decide +kernel) rfl
theorem jw_s53 : Cond.selects "LevelingNetworkModel" ⟨"LevelingNetworkModel", "fails", "(I)I"⟩ ⟨"LevelingNetworkModel", "fails", "(I)I"⟩ ∈ jk_WS := jk_wts (i := 53) (by decide +kernel) rfl
theorem jw_s54 : Cond.selects "LevelingNetworkModel" ⟨"LevelingNetworkModel", "done", "(I)I"⟩ ⟨"LevelingNetworkModel", "done", "(I)I"⟩ ∈ jk_WS := jk_wts (i := 54) (by decide +kernel) rfl
theorem jw_s55 : Cond.selects "LevelingNetworkModel" ⟨"LevelingNetworkModel", "kept", "(I)I"⟩ ⟨"LevelingNetworkModel", "kept", "(I)I"⟩ ∈ jk_WS := jk_wts (i := 55) (by decide +kernel) rfl
theorem jw_s56 : Cond.selects "LevelingNetworkModel" ⟨"LevelingNetworkModel", "fixes", "(II)I"⟩ ⟨"LevelingNetworkModel", "fixes", "(II)I"⟩ ∈ jk_WS := jk_wts (i := 56) (by decide +kernel) rfl
theorem jw_s57 : Cond.selects "LevelingNetworkModel" ⟨"LevelingNetworkModel", "isPoint", "(I)Z"⟩ ⟨"LevelingNetworkModel", "isPoint", "(I)Z"⟩ ∈ jk_WS := jk_wts (i := 57) (by decide +kernel) rfl
theorem jw_s58 : Cond.selects "LevelingNetworkModel" ⟨"LevelingNetworkModel", "releases", "(I)I"⟩ ⟨"LevelingNetworkModel", "releases", "(I)I"⟩ ∈ jk_WS := jk_wts (i := 58) (by decide +kernel) rfl
theorem jw_s59 : Cond.selects "LevelingNetworkModel" ⟨"LevelingNetworkModel", "addsLine", "(IIII)I"⟩ ⟨"LevelingNetworkModel", "addsLine", "(IIII)I"⟩ ∈ jk_WS := jk_wts (i := 59) (by decide +kernel) rfl
theorem jw_s60 : Cond.selects "LevelingNetworkModel" ⟨"LevelingNetworkModel", "addsRun", "(II)I"⟩ ⟨"LevelingNetworkModel", "addsRun", "(II)I"⟩ ∈ jk_WS := jk_wts (i := 60) (by decide +kernel) rfl
theorem jw_s61 : Cond.selects "LevelingNetworkModel" ⟨"LevelingNetworkModel", "isLine", "(I)Z"⟩ ⟨"LevelingNetworkModel", "isLine", "(I)Z"⟩ ∈ jk_WS := jk_wts (i := 61) (by decide +kernel) rfl
theorem jw_s62 : Cond.selects "LevelingNetworkModel" ⟨"LevelingNetworkModel", "gapOf", "(I)I"⟩ ⟨"LevelingNetworkModel", "gapOf", "(I)I"⟩ ∈ jk_WS := jk_wts (i := 62) (by decide +kernel) rfl
theorem jw_s63 : Cond.selects "LevelingNetworkModel" ⟨"LevelingNetworkModel", "marks", "(II)I"⟩ ⟨"LevelingNetworkModel", "marks", "(II)I"⟩ ∈ jk_WS := jk_wts (i := 63) (by decide +kernel) rfl
theorem jw_s64 : Cond.selects "LevelingNetworkModel" ⟨"LevelingNetworkModel", "goodOnes", "()I"⟩ ⟨"LevelingNetworkModel", "goodOnes", "()I"⟩ ∈ jk_WS := jk_wts (i := 64) (by decide +kernel) rfl
theorem jw_s65 : Cond.selects "LevelingNetworkModel" ⟨"LevelingNetworkModel", "isGood", "(I)Z"⟩ ⟨"LevelingNetworkModel", "isGood", "(I)Z"⟩ ∈ jk_WS := jk_wts (i := 65) (by decide +kernel) rfl
theorem jw_s66 : Cond.selects "LevelingNetworkModel" ⟨"LevelingNetworkModel", "shares", "(I)I"⟩ ⟨"LevelingNetworkModel", "shares", "(I)I"⟩ ∈ jk_WS := jk_wts (i := 66) (by decide +kernel) rfl
theorem jw_s67 : Cond.selects "LevelingNetworkModel" ⟨"LevelingNetworkModel", "whyNoLoop", "(I)I"⟩ ⟨"LevelingNetworkModel", "whyNoLoop", "(I)I"⟩ ∈ jk_WS := jk_wts (i := 67) (by decide +kernel) rfl
theorem jw_s68 : Cond.selects "LevelingNetworkModel" ⟨"LevelingNetworkModel", "grows", "()V"⟩ ⟨"LevelingNetworkModel", "grows", "()V"⟩ ∈ jk_WS := jk_wts (i := 68) (by decide +kernel) rfl
theorem jw_s69 : Cond.selects "LevelingNetworkModel" ⟨"LevelingNetworkModel", "takesLine", "(I)V"⟩ ⟨"LevelingNetworkModel", "takesLine", "(I)V"⟩ ∈ jk_WS := jk_wts (i := 69) (by decide +kernel) rfl
theorem jw_s70 : Cond.selects "LevelingNetworkModel" ⟨"LevelingNetworkModel", "unites", "(II)V"⟩ ⟨"LevelingNetworkModel", "unites", "(II)V"⟩ ∈ jk_WS := jk_wts (i := 70) (by decide +kernel) rfl
theorem jw_s71 : Cond.selects "LevelingNetworkModel" ⟨"LevelingNetworkModel", "passes", "(I)Z"⟩ ⟨"LevelingNetworkModel", "passes", "(I)Z"⟩ ∈ jk_WS := jk_wts (i := 71) (by decide +kernel) rfl
theorem jw_s72 : Cond.selects "LevelingNetworkModel" ⟨"LevelingNetworkModel", "corrected", "(I)I"⟩ ⟨"LevelingNetworkModel", "corrected", "(I)I"⟩ ∈ jk_WS := jk_wts (i := 72) (by decide +kernel) rfl
theorem jw_s73 : Cond.selects "LevelingNetworkModel" ⟨"LevelingNetworkModel", "levelled", "(I)I"⟩ ⟨"LevelingNetworkModel", "levelled", "(I)I"⟩ ∈ jk_WS := jk_wts (i := 73) (by decide +kernel) rfl
theorem jw_s74 : Cond.selects "LevelingNetworkModel" ⟨"LevelingNetworkModel", "closes", "(I)Z"⟩ ⟨"LevelingNetworkModel", "closes", "(I)Z"⟩ ∈ jk_WS := jk_wts (i := 74) (by decide +kernel) rfl
theorem jw_s75 : Cond.selects "LevelingNetworkModel" ⟨"LevelingNetworkModel", "circles", "(I)V"⟩ ⟨"LevelingNetworkModel", "circles", "(I)V"⟩ ∈ jk_WS := jk_wts (i := 75) (by decide +kernel) rfl
theorem jw_s76 : Cond.selects "LevelingNetworkModel" ⟨"LevelingNetworkModel", "reaches", "(I)V"⟩ ⟨"LevelingNetworkModel", "reaches", "(I)V"⟩ ∈ jk_WS := jk_wts (i := 76) (by decide +kernel) rfl
theorem jw_s77 : Cond.selects "LevelingNetworkModel" ⟨"LevelingNetworkModel", "errorAround", "()I"⟩ ⟨"LevelingNetworkModel", "errorAround", "()I"⟩ ∈ jk_WS := jk_wts (i := 77) (by decide +kernel) rfl
theorem jw_s78 : Cond.selects "LevelingNetworkModel" ⟨"LevelingNetworkModel", "lengthAround", "()I"⟩ ⟨"LevelingNetworkModel", "lengthAround", "()I"⟩ ∈ jk_WS := jk_wts (i := 78) (by decide +kernel) rfl
theorem jw_s79 : Cond.selects "LevelingNetworkModel" ⟨"LevelingNetworkModel", "sharesOut", "()V"⟩ ⟨"LevelingNetworkModel", "sharesOut", "()V"⟩ ∈ jk_WS := jk_wts (i := 79) (by decide +kernel) rfl
theorem jw_s80 : Cond.selects "LevelingNetworkModel" ⟨"LevelingNetworkModel", "remainder", "(III)I"⟩ ⟨"LevelingNetworkModel", "remainder", "(III)I"⟩ ∈ jk_WS := jk_wts (i := 80) (by decide +kernel) rfl
theorem jw_s81 : Cond.selects "LevelingNetworkModel" ⟨"LevelingNetworkModel", "resets", "()I"⟩ ⟨"LevelingNetworkModel", "resets", "()I"⟩ ∈ jk_WS := jk_wts (i := 81) (by decide +kernel) rfl
theorem jw_s82 : Cond.selects "LevelingNetworkModel" ⟨"LevelingNetworkModel", "addsProfile", "(I)I"⟩ ⟨"LevelingNetworkModel", "addsProfile", "(I)I"⟩ ∈ jk_WS := jk_wts (i := 82) (by decide +kernel) rfl
theorem jw_s83 : Cond.selects "LevelingNetworkModel" ⟨"LevelingNetworkModel", "addsStation", "(III)I"⟩ ⟨"LevelingNetworkModel", "addsStation", "(III)I"⟩ ∈ jk_WS := jk_wts (i := 83) (by decide +kernel) rfl
theorem jw_s84 : Cond.selects "LevelingNetworkModel" ⟨"LevelingNetworkModel", "isProfile", "(I)Z"⟩ ⟨"LevelingNetworkModel", "isProfile", "(I)Z"⟩ ∈ jk_WS := jk_wts (i := 84) (by decide +kernel) rfl
theorem jw_s85 : Cond.selects "LevelingNetworkModel" ⟨"LevelingNetworkModel", "distanceOf", "(II)I"⟩ ⟨"LevelingNetworkModel", "distanceOf", "(II)I"⟩ ∈ jk_WS := jk_wts (i := 85) (by decide +kernel) rfl
theorem jw_s86 : Cond.selects "LevelingNetworkModel" ⟨"LevelingNetworkModel", "setsWater", "(I)I"⟩ ⟨"LevelingNetworkModel", "setsWater", "(I)I"⟩ ∈ jk_WS := jk_wts (i := 86) (by decide +kernel) rfl
theorem jw_s87 : Cond.selects "LevelingNetworkModel" ⟨"LevelingNetworkModel", "isHigh", "(I)Z"⟩ ⟨"LevelingNetworkModel", "isHigh", "(I)Z"⟩ ∈ jk_WS := jk_wts (i := 87) (by decide +kernel) rfl
theorem jw_s88 : Cond.selects "LevelingNetworkModel" ⟨"LevelingNetworkModel", "datumOf", "(I)I"⟩ ⟨"LevelingNetworkModel", "datumOf", "(I)I"⟩ ∈ jk_WS := jk_wts (i := 88) (by decide +kernel) rfl
theorem jw_s89 : Cond.selects "LevelingNetworkModel" ⟨"LevelingNetworkModel", "heightOf", "(I)I"⟩ ⟨"LevelingNetworkModel", "heightOf", "(I)I"⟩ ∈ jk_WS := jk_wts (i := 89) (by decide +kernel) rfl
theorem jw_s90 : Cond.selects "LevelingNetworkModel" ⟨"LevelingNetworkModel", "byDatum", "(I)I"⟩ ⟨"LevelingNetworkModel", "byDatum", "(I)I"⟩ ∈ jk_WS := jk_wts (i := 90) (by decide +kernel) rfl
theorem jw_s91 : Cond.selects "LevelingNetworkModel" ⟨"LevelingNetworkModel", "isAbove", "(II)Z"⟩ ⟨"LevelingNetworkModel", "isAbove", "(II)Z"⟩ ∈ jk_WS := jk_wts (i := 91) (by decide +kernel) rfl
theorem jw_s92 : Cond.selects "LevelingNetworkModel" ⟨"LevelingNetworkModel", "lineNumber", "(II)I"⟩ ⟨"LevelingNetworkModel", "lineNumber", "(II)I"⟩ ∈ jk_WS := jk_wts (i := 92) (by decide +kernel) rfl
theorem jw_s93 : Cond.selects "LevelingNetworkModel" ⟨"LevelingNetworkModel", "isWorse", "(II)Z"⟩ ⟨"LevelingNetworkModel", "isWorse", "(II)Z"⟩ ∈ jk_WS := jk_wts (i := 93) (by decide +kernel) rfl
theorem jw_s94 : Cond.selects "LevelingNetworkModel" ⟨"LevelingNetworkModel", "firstColumn", "(I)I"⟩ ⟨"LevelingNetworkModel", "firstColumn", "(I)I"⟩ ∈ jk_WS := jk_wts (i := 94) (by decide +kernel) rfl
theorem jw_s95 : Cond.selects "LevelingNetworkModel" ⟨"LevelingNetworkModel", "lastColumn", "(I)I"⟩ ⟨"LevelingNetworkModel", "lastColumn", "(I)I"⟩ ∈ jk_WS := jk_wts (i := 95) (by decide +kernel) rfl
theorem jw_s96 : Cond.selects "LevelingNetworkModel" ⟨"LevelingNetworkModel", "groundAt", "(II)I"⟩ ⟨"LevelingNetworkModel", "groundAt", "(II)I"⟩ ∈ jk_WS := jk_wts (i := 96) (by decide +kernel) rfl
theorem jw_s97 : Cond.selects "LevelingNetworkModel" ⟨"LevelingNetworkModel", "offsetAt", "(II)I"⟩ ⟨"LevelingNetworkModel", "offsetAt", "(II)I"⟩ ∈ jk_WS := jk_wts (i := 97) (by decide +kernel) rfl
theorem jw_s98 : Cond.selects "LevelingNetworkModel" ⟨"LevelingNetworkModel", "whyNoGround", "(I)I"⟩ ⟨"LevelingNetworkModel", "whyNoGround", "(I)I"⟩ ∈ jk_WS := jk_wts (i := 98) (by decide +kernel) rfl
theorem jw_s99 : Cond.selects "LevelingNetworkModel" ⟨"LevelingNetworkModel", "isWet", "(II)Z"⟩ ⟨"LevelingNetworkModel", "isWet", "(II)Z"⟩ ∈ jk_WS := jk_wts (i := 99) (by decide +kernel) rfl
theorem jw_s100 : Cond.selects "LevelingNetworkModel" ⟨"LevelingNetworkModel", "writesNumber", "(I)V"⟩ ⟨"LevelingNetworkModel", "writesNumber", "(I)V"⟩ ∈ jk_WS := jk_wts (i := 100) (by decide +kernel) rfl
theorem jw_s101 : Cond.selects "LevelingNetworkModel" ⟨"LevelingNetworkModel", "writes", "(I)V"⟩ ⟨"LevelingNetworkModel", "writes", "(I)V"⟩ ∈ jk_WS := jk_wts (i := 101) (by decide +kernel) rfl
theorem jw_s102 : Cond.selects "LevelingNetworkModel" ⟨"LevelingNetworkModel", "parsesCommand", "(I)V"⟩ ⟨"LevelingNetworkModel", "parsesCommand", "(I)V"⟩ ∈ jk_WS := jk_wts (i := 102) (by decide +kernel) rfl
theorem jw_s103 : Cond.selects "LevelingNetworkModel" ⟨"LevelingNetworkModel", "here", "()I"⟩ ⟨"LevelingNetworkModel", "here", "()I"⟩ ∈ jk_WS := jk_wts (i := 103) (by decide +kernel) rfl
theorem jw_s104 : Cond.selects "LevelingNetworkModel" ⟨"LevelingNetworkModel", "parsesP", "(I)V"⟩ ⟨"LevelingNetworkModel", "parsesP", "(I)V"⟩ ∈ jk_WS := jk_wts (i := 104) (by decide +kernel) rfl
theorem jw_s105 : Cond.selects "LevelingNetworkModel" ⟨"LevelingNetworkModel", "needsThree", "(III)V"⟩ ⟨"LevelingNetworkModel", "needsThree", "(III)V"⟩ ∈ jk_WS := jk_wts (i := 105) (by decide +kernel) rfl
theorem jw_s106 : Cond.selects "LevelingNetworkModel" ⟨"LevelingNetworkModel", "needs", "(I)V"⟩ ⟨"LevelingNetworkModel", "needs", "(I)V"⟩ ∈ jk_WS := jk_wts (i := 106) (by decide +kernel) rfl
theorem jw_s107 : Cond.selects "LevelingNetworkModel" ⟨"LevelingNetworkModel", "digitsAfter", "(II)I"⟩ ⟨"LevelingNetworkModel", "digitsAfter", "(II)I"⟩ ∈ jk_WS := jk_wts (i := 107) (by decide +kernel) rfl
theorem jw_s108 : Cond.selects "LevelingNetworkModel" ⟨"LevelingNetworkModel", "digits", "(I)I"⟩ ⟨"LevelingNetworkModel", "digits", "(I)I"⟩ ∈ jk_WS := jk_wts (i := 108) (by decide +kernel) rfl
theorem jw_s109 : Cond.selects "LevelingNetworkModel" ⟨"LevelingNetworkModel", "parsesF", "(I)V"⟩ ⟨"LevelingNetworkModel", "parsesF", "(I)V"⟩ ∈ jk_WS := jk_wts (i := 109) (by decide +kernel) rfl
theorem jw_s110 : Cond.selects "LevelingNetworkModel" ⟨"LevelingNetworkModel", "valueAfter", "(I)I"⟩ ⟨"LevelingNetworkModel", "valueAfter", "(I)I"⟩ ∈ jk_WS := jk_wts (i := 110) (by decide +kernel) rfl
theorem jw_s111 : Cond.selects "LevelingNetworkModel" ⟨"LevelingNetworkModel", "parsesLine", "(I)V"⟩ ⟨"LevelingNetworkModel", "parsesLine", "(I)V"⟩ ∈ jk_WS := jk_wts (i := 111) (by decide +kernel) rfl
theorem jw_s112 : Cond.selects "LevelingNetworkModel" ⟨"LevelingNetworkModel", "parsesMark", "(III)V"⟩ ⟨"LevelingNetworkModel", "parsesMark", "(III)V"⟩ ∈ jk_WS := jk_wts (i := 112) (by decide +kernel) rfl
theorem jw_s113 : Cond.selects "LevelingNetworkModel" ⟨"LevelingNetworkModel", "parsesS", "(I)V"⟩ ⟨"LevelingNetworkModel", "parsesS", "(I)V"⟩ ∈ jk_WS := jk_wts (i := 113) (by decide +kernel) rfl
theorem jw_s114 : Cond.selects "LevelingNetworkModel" ⟨"LevelingNetworkModel", "carriesOut", "(I)I"⟩ ⟨"LevelingNetworkModel", "carriesOut", "(I)I"⟩ ∈ jk_WS := jk_wts (i := 114) (by decide +kernel) rfl
