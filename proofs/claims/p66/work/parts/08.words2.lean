theorem jw_647 : Cond.instanceMethod ⟨"java/lang/Throwable", "<init>", "(Ljava/lang/String;)V"⟩ ∈ jk_WS := jk_wt3 (i := 167) (by decide +kernel) rfl
theorem jw_648 : Cond.code ⟨"java/lang/Throwable", "<init>", "(Ljava/lang/String;)V"⟩ prog_39_method_2_code 2 (Option.none : Option ClassFile.FieldType) ∈ jk_WS := jk_wt3 (i := 168) (by decide +kernel) rfl
theorem jw_649 : Cond.fieldLink "java/lang/Throwable" 198 "java/lang/Throwable" "backtrace" "Ljava/lang/Object;" ∈ jk_WS := jk_wt3 (i := 169) (by decide +kernel) rfl
theorem jw_650 : Cond.fieldLink "java/lang/Throwable" 31 "java/lang/Throwable" "detailMessage" "Ljava/lang/String;" ∈ jk_WS := jk_wt3 (i := 170) (by decide +kernel) rfl
theorem jw_651 : Cond.fieldLink "java/lang/Throwable" 7 "java/lang/Throwable" "cause" "Ljava/lang/Throwable;" ∈ jk_WS := jk_wt3 (i := 171) (by decide +kernel) rfl
theorem jw_652 : Cond.fieldLink "java/lang/Throwable" 17 "java/lang/Throwable" "stackTrace" "[Ljava/lang/StackTraceElement;" ∈ jk_WS := jk_wt3 (i := 172) (by decide +kernel) rfl
theorem jw_653 : Cond.fieldLink "java/lang/Throwable" 24 "java/lang/Throwable" "suppressedExceptions" "Ljava/util/List;" ∈ jk_WS := jk_wt3 (i := 173) (by decide +kernel) rfl
theorem jw_658 : Cond.lays "java/lang/IndexOutOfBoundsException" "java/lang/Throwable" "depth" "I" ∈ jk_WS := jk_wt3 (i := 178) (by decide +kernel) rfl
theorem jw_661 : Cond.superclass "java/lang/IndexOutOfBoundsException" "java/lang/RuntimeException" ∈ jk_WS := jk_wt3 (i := 181) (by decide +kernel) rfl
theorem jw_662 : Cond.classLink "LevelingNetwork" 232 "java/lang/IllegalArgumentException" ∈ jk_WS := jk_wt3 (i := 182) (by decide +kernel) rfl
theorem jw_663 : Cond.instantiable "java/lang/IllegalArgumentException" 6 ∈ jk_WS := jk_wt3 (i := 183) (by decide +kernel) rfl
theorem jw_664 : Cond.castable "java/lang/IllegalArgumentException" "java/lang/IllegalArgumentException" ∈ jk_WS := jk_wt3 (i := 184) (by decide +kernel) rfl
theorem jw_665 : Cond.selects "java/lang/IllegalArgumentException" ⟨"java/lang/Throwable", "fillInStackTrace", "(I)Ljava/lang/Throwable;"⟩ ⟨"java/lang/Throwable", "fillInStackTrace", "(I)Ljava/lang/Throwable;"⟩ ∈ jk_WS := jk_wt3 (i := 185) (by decide +kernel) rfl
theorem jw_666 : Cond.lays "java/lang/IllegalArgumentException" "java/lang/Throwable" "cause" "Ljava/lang/Throwable;" ∈ jk_WS := jk_wt3 (i := 186) (by decide +kernel) rfl
theorem jw_667 : Cond.lays "java/lang/IllegalArgumentException" "java/lang/Throwable" "stackTrace" "[Ljava/lang/StackTraceElement;" ∈ jk_WS := jk_wt3 (i := 187) (by decide +kernel) rfl
theorem jw_668 : Cond.lays "java/lang/IllegalArgumentException" "java/lang/Throwable" "suppressedExceptions" "Ljava/util/List;" ∈ jk_WS := jk_wt3 (i := 188) (by decide +kernel) rfl
theorem jw_669 : Cond.lays "java/lang/IllegalArgumentException" "java/lang/Throwable" "detailMessage" "Ljava/lang/String;" ∈ jk_WS := jk_wt3 (i := 189) (by decide +kernel) rfl
theorem jw_670 : Cond.lays "java/lang/IllegalArgumentException" "java/lang/Throwable" "backtrace" "Ljava/lang/Object;" ∈ jk_WS := jk_wt3 (i := 190) (by decide +kernel) rfl
theorem jw_672 : Cond.methodLink "LevelingNetwork" 236 ⟨"java/lang/IllegalArgumentException", "<init>", "(Ljava/lang/String;)V"⟩ ∈ jk_WS := jk_wt3 (i := 192) (by decide +kernel) rfl
theorem jw_673 : Cond.instanceMethod ⟨"java/lang/IllegalArgumentException", "<init>", "(Ljava/lang/String;)V"⟩ ∈ jk_WS := jk_wt3 (i := 193) (by decide +kernel) rfl
theorem jw_674 : Cond.code ⟨"java/lang/IllegalArgumentException", "<init>", "(Ljava/lang/String;)V"⟩ prog_26_method_2_code 2 (Option.none : Option ClassFile.FieldType) ∈ jk_WS := jk_wt3 (i := 194) (by decide +kernel) rfl
theorem jw_675 : Cond.methodLink "java/lang/IllegalArgumentException" 7 ⟨"java/lang/RuntimeException", "<init>", "(Ljava/lang/String;)V"⟩ ∈ jk_WS := jk_wt3 (i := 195) (by decide +kernel) rfl
theorem jw_676 : Cond.lays "java/lang/IllegalArgumentException" "java/lang/Throwable" "depth" "I" ∈ jk_WS := jk_wt3 (i := 196) (by decide +kernel) rfl
theorem jw_677 : Cond.superclass "java/lang/IllegalArgumentException" "java/lang/RuntimeException" ∈ jk_WS := jk_wt3 (i := 197) (by decide +kernel) rfl
theorem jw_678 : Cond.classLink "LevelingNetwork" 381 "java/lang/IllegalStateException" ∈ jk_WS := jk_wt3 (i := 198) (by decide +kernel) rfl
theorem jw_679 : Cond.instantiable "java/lang/IllegalStateException" 6 ∈ jk_WS := jk_wt3 (i := 199) (by decide +kernel) rfl
theorem jw_680 : Cond.castable "java/lang/IllegalStateException" "java/lang/IllegalStateException" ∈ jk_WS := jk_wt3 (i := 200) (by decide +kernel) rfl
theorem jw_681 : Cond.selects "java/lang/IllegalStateException" ⟨"java/lang/Throwable", "fillInStackTrace", "(I)Ljava/lang/Throwable;"⟩ ⟨"java/lang/Throwable", "fillInStackTrace", "(I)Ljava/lang/Throwable;"⟩ ∈ jk_WS := jk_wt3 (i := 201) (by decide +kernel) rfl
theorem jw_682 : Cond.lays "java/lang/IllegalStateException" "java/lang/Throwable" "cause" "Ljava/lang/Throwable;" ∈ jk_WS := jk_wt3 (i := 202) (by decide +kernel) rfl
theorem jw_683 : Cond.lays "java/lang/IllegalStateException" "java/lang/Throwable" "stackTrace" "[Ljava/lang/StackTraceElement;" ∈ jk_WS := jk_wt3 (i := 203) (by decide +kernel) rfl
theorem jw_684 : Cond.lays "java/lang/IllegalStateException" "java/lang/Throwable" "suppressedExceptions" "Ljava/util/List;" ∈ jk_WS := jk_wt3 (i := 204) (by decide +kernel) rfl
theorem jw_685 : Cond.lays "java/lang/IllegalStateException" "java/lang/Throwable" "detailMessage" "Ljava/lang/String;" ∈ jk_WS := jk_wt3 (i := 205) (by decide +kernel) rfl
theorem jw_686 : Cond.lays "java/lang/IllegalStateException" "java/lang/Throwable" "backtrace" "Ljava/lang/Object;" ∈ jk_WS := jk_wt3 (i := 206) (by decide +kernel) rfl
theorem jw_688 : Cond.methodLink "LevelingNetwork" 385 ⟨"java/lang/IllegalStateException", "<init>", "(Ljava/lang/String;)V"⟩ ∈ jk_WS := jk_wt3 (i := 208) (by decide +kernel) rfl
theorem jw_689 : Cond.instanceMethod ⟨"java/lang/IllegalStateException", "<init>", "(Ljava/lang/String;)V"⟩ ∈ jk_WS := jk_wt3 (i := 209) (by decide +kernel) rfl
theorem jw_690 : Cond.code ⟨"java/lang/IllegalStateException", "<init>", "(Ljava/lang/String;)V"⟩ prog_27_method_2_code 2 (Option.none : Option ClassFile.FieldType) ∈ jk_WS := jk_wt3 (i := 210) (by decide +kernel) rfl
theorem jw_691 : Cond.methodLink "java/lang/IllegalStateException" 7 ⟨"java/lang/RuntimeException", "<init>", "(Ljava/lang/String;)V"⟩ ∈ jk_WS := jk_wt3 (i := 211) (by decide +kernel) rfl
theorem jw_692 : Cond.lays "java/lang/IllegalStateException" "java/lang/Throwable" "depth" "I" ∈ jk_WS := jk_wt3 (i := 212) (by decide +kernel) rfl
theorem jw_693 : Cond.superclass "java/lang/IllegalStateException" "java/lang/RuntimeException" ∈ jk_WS := jk_wt3 (i := 213) (by decide +kernel) rfl
theorem jw_694 : Cond.classLink "LevelingNetwork" 169 "java/util/NoSuchElementException" ∈ jk_WS := jk_wt3 (i := 214) (by decide +kernel) rfl
theorem jw_695 : Cond.instantiable "java/util/NoSuchElementException" 6 ∈ jk_WS := jk_wt3 (i := 215) (by decide +kernel) rfl
theorem jw_696 : Cond.castable "java/util/NoSuchElementException" "java/util/NoSuchElementException" ∈ jk_WS := jk_wt3 (i := 216) (by decide +kernel) rfl
theorem jw_697 : Cond.selects "java/util/NoSuchElementException" ⟨"java/lang/Throwable", "fillInStackTrace", "(I)Ljava/lang/Throwable;"⟩ ⟨"java/lang/Throwable", "fillInStackTrace", "(I)Ljava/lang/Throwable;"⟩ ∈ jk_WS := jk_wt3 (i := 217) (by decide +kernel) rfl
theorem jw_698 : Cond.lays "java/util/NoSuchElementException" "java/lang/Throwable" "cause" "Ljava/lang/Throwable;" ∈ jk_WS := jk_wt3 (i := 218) (by decide +kernel) rfl
theorem jw_699 : Cond.lays "java/util/NoSuchElementException" "java/lang/Throwable" "stackTrace" "[Ljava/lang/StackTraceElement;" ∈ jk_WS := jk_wt3 (i := 219) (by decide +kernel) rfl
theorem jw_700 : Cond.lays "java/util/NoSuchElementException" "java/lang/Throwable" "suppressedExceptions" "Ljava/util/List;" ∈ jk_WS := jk_wt3 (i := 220) (by decide +kernel) rfl
theorem jw_701 : Cond.lays "java/util/NoSuchElementException" "java/lang/Throwable" "detailMessage" "Ljava/lang/String;" ∈ jk_WS := jk_wt3 (i := 221) (by decide +kernel) rfl
theorem jw_702 : Cond.lays "java/util/NoSuchElementException" "java/lang/Throwable" "backtrace" "Ljava/lang/Object;" ∈ jk_WS := jk_wt3 (i := 222) (by decide +kernel) rfl
theorem jw_704 : Cond.methodLink "LevelingNetwork" 173 ⟨"java/util/NoSuchElementException", "<init>", "(Ljava/lang/String;)V"⟩ ∈ jk_WS := jk_wt3 (i := 224) (by decide +kernel) rfl
theorem jw_705 : Cond.instanceMethod ⟨"java/util/NoSuchElementException", "<init>", "(Ljava/lang/String;)V"⟩ ∈ jk_WS := jk_wt3 (i := 225) (by decide +kernel) rfl
theorem jw_706 : Cond.code ⟨"java/util/NoSuchElementException", "<init>", "(Ljava/lang/String;)V"⟩ prog_44_method_4_code 2 (Option.none : Option ClassFile.FieldType) ∈ jk_WS := jk_wt3 (i := 226) (by decide +kernel) rfl
theorem jw_707 : Cond.methodLink "java/util/NoSuchElementException" 13 ⟨"java/lang/RuntimeException", "<init>", "(Ljava/lang/String;)V"⟩ ∈ jk_WS := jk_wt3 (i := 227) (by decide +kernel) rfl
theorem jw_708 : Cond.lays "java/util/NoSuchElementException" "java/lang/Throwable" "depth" "I" ∈ jk_WS := jk_wt3 (i := 228) (by decide +kernel) rfl
theorem jw_709 : Cond.superclass "java/util/NoSuchElementException" "java/lang/RuntimeException" ∈ jk_WS := jk_wt3 (i := 229) (by decide +kernel) rfl
theorem jw_710 : Cond.classLink "LevelingNetwork" 457 "java/lang/UnsupportedOperationException" ∈ jk_WS := jk_wt3 (i := 230) (by decide +kernel) rfl
theorem jw_711 : Cond.instantiable "java/lang/UnsupportedOperationException" 6 ∈ jk_WS := jk_wt3 (i := 231) (by decide +kernel) rfl
theorem jw_712 : Cond.castable "java/lang/UnsupportedOperationException" "java/lang/UnsupportedOperationException" ∈ jk_WS := jk_wt3 (i := 232) (by decide +kernel) rfl
theorem jw_713 : Cond.selects "java/lang/UnsupportedOperationException" ⟨"java/lang/Throwable", "fillInStackTrace", "(I)Ljava/lang/Throwable;"⟩ ⟨"java/lang/Throwable", "fillInStackTrace", "(I)Ljava/lang/Throwable;"⟩ ∈ jk_WS := jk_wt3 (i := 233) (by decide +kernel) rfl
theorem jw_714 : Cond.lays "java/lang/UnsupportedOperationException" "java/lang/Throwable" "cause" "Ljava/lang/Throwable;" ∈ jk_WS := jk_wt3 (i := 234) (by decide +kernel) rfl
theorem jw_715 : Cond.lays "java/lang/UnsupportedOperationException" "java/lang/Throwable" "stackTrace" "[Ljava/lang/StackTraceElement;" ∈ jk_WS := jk_wt3 (i := 235) (by decide +kernel) rfl
theorem jw_716 : Cond.lays "java/lang/UnsupportedOperationException" "java/lang/Throwable" "suppressedExceptions" "Ljava/util/List;" ∈ jk_WS := jk_wt3 (i := 236) (by decide +kernel) rfl
theorem jw_717 : Cond.lays "java/lang/UnsupportedOperationException" "java/lang/Throwable" "detailMessage" "Ljava/lang/String;" ∈ jk_WS := jk_wt3 (i := 237) (by decide +kernel) rfl
theorem jw_718 : Cond.lays "java/lang/UnsupportedOperationException" "java/lang/Throwable" "backtrace" "Ljava/lang/Object;" ∈ jk_WS := jk_wt3 (i := 238) (by decide +kernel) rfl
theorem jw_720 : Cond.methodLink "LevelingNetwork" 461 ⟨"java/lang/UnsupportedOperationException", "<init>", "(Ljava/lang/String;)V"⟩ ∈ jk_WS := jk_wt4 (i := 0) (by decide +kernel) rfl
theorem jw_721 : Cond.instanceMethod ⟨"java/lang/UnsupportedOperationException", "<init>", "(Ljava/lang/String;)V"⟩ ∈ jk_WS := jk_wt4 (i := 1) (by decide +kernel) rfl
theorem jw_722 : Cond.code ⟨"java/lang/UnsupportedOperationException", "<init>", "(Ljava/lang/String;)V"⟩ prog_40_method_2_code 2 (Option.none : Option ClassFile.FieldType) ∈ jk_WS := jk_wt4 (i := 2) (by decide +kernel) rfl
theorem jw_723 : Cond.methodLink "java/lang/UnsupportedOperationException" 7 ⟨"java/lang/RuntimeException", "<init>", "(Ljava/lang/String;)V"⟩ ∈ jk_WS := jk_wt4 (i := 3) (by decide +kernel) rfl
theorem jw_724 : Cond.lays "java/lang/UnsupportedOperationException" "java/lang/Throwable" "depth" "I" ∈ jk_WS := jk_wt4 (i := 4) (by decide +kernel) rfl
theorem jw_725 : Cond.superclass "java/lang/UnsupportedOperationException" "java/lang/RuntimeException" ∈ jk_WS := jk_wt4 (i := 5) (by decide +kernel) rfl
theorem jw_726 : Cond.methodLink "LevelingNetwork" 406 ⟨"LevelingNetwork$History", "push", "(LLevelingNetwork$Survey;)V"⟩ ∈ jk_WS := jk_wt4 (i := 6) (by decide +kernel) rfl
theorem jw_727 : Cond.instanceMethod ⟨"LevelingNetwork$History", "push", "(LLevelingNetwork$Survey;)V"⟩ ∈ jk_WS := jk_wt4 (i := 7) (by decide +kernel) rfl
theorem jw_728 : Cond.selects "LevelingNetwork$History" ⟨"LevelingNetwork$History", "push", "(LLevelingNetwork$Survey;)V"⟩ ⟨"LevelingNetwork$History", "push", "(LLevelingNetwork$Survey;)V"⟩ ∈ jk_WS := jk_wt4 (i := 8) (by decide +kernel) rfl
theorem jw_729 : Cond.code ⟨"LevelingNetwork$History", "push", "(LLevelingNetwork$Survey;)V"⟩ prog_7_method_2_code 2 (Option.none : Option ClassFile.FieldType) ∈ jk_WS := jk_wt4 (i := 9) (by decide +kernel) rfl
theorem jw_730 : Cond.methodLink "LevelingNetwork$History" 22 ⟨"LevelingNetwork$Survey", "copyFrom", "(LLevelingNetwork$Survey;)V"⟩ ∈ jk_WS := jk_wt4 (i := 10) (by decide +kernel) rfl
theorem jw_731 : Cond.instanceMethod ⟨"LevelingNetwork$Survey", "copyFrom", "(LLevelingNetwork$Survey;)V"⟩ ∈ jk_WS := jk_wt4 (i := 11) (by decide +kernel) rfl
theorem jw_732 : Cond.selects "LevelingNetwork$Survey" ⟨"LevelingNetwork$Survey", "copyFrom", "(LLevelingNetwork$Survey;)V"⟩ ⟨"LevelingNetwork$Survey", "copyFrom", "(LLevelingNetwork$Survey;)V"⟩ ∈ jk_WS := jk_wt4 (i := 12) (by decide +kernel) rfl
theorem jw_733 : Cond.code ⟨"LevelingNetwork$Survey", "copyFrom", "(LLevelingNetwork$Survey;)V"⟩ prog_11_method_2_code 2 (Option.none : Option ClassFile.FieldType) ∈ jk_WS := jk_wt4 (i := 13) (by decide +kernel) rfl
theorem jw_734 : Cond.methodLink "LevelingNetwork$Survey" 57 ⟨"LevelingNetwork$Survey", "copyBenchmarks", "(LLevelingNetwork$Survey;)V"⟩ ∈ jk_WS := jk_wt4 (i := 14) (by decide +kernel) rfl
theorem jw_736 : Cond.instanceMethod ⟨"LevelingNetwork$Survey", "copyBenchmarks", "(LLevelingNetwork$Survey;)V"⟩ ∈ jk_WS := jk_wt4 (i := 16) (by decide +kernel) rfl
theorem jw_737 : Cond.code ⟨"LevelingNetwork$Survey", "copyBenchmarks", "(LLevelingNetwork$Survey;)V"⟩ prog_11_method_3_code 3 (Option.none : Option ClassFile.FieldType) ∈ jk_WS := jk_wt4 (i := 17) (by decide +kernel) rfl
theorem jw_738 : Cond.methodLink "LevelingNetwork$Survey" 61 ⟨"LevelingNetwork$Survey", "copyLines", "(LLevelingNetwork$Survey;)V"⟩ ∈ jk_WS := jk_wt4 (i := 18) (by decide +kernel) rfl
theorem jw_740 : Cond.instanceMethod ⟨"LevelingNetwork$Survey", "copyLines", "(LLevelingNetwork$Survey;)V"⟩ ∈ jk_WS := jk_wt4 (i := 20) (by decide +kernel) rfl
theorem jw_741 : Cond.code ⟨"LevelingNetwork$Survey", "copyLines", "(LLevelingNetwork$Survey;)V"⟩ prog_11_method_4_code 3 (Option.none : Option ClassFile.FieldType) ∈ jk_WS := jk_wt4 (i := 21) (by decide +kernel) rfl
theorem jw_742 : Cond.methodLink "LevelingNetwork$Survey" 64 ⟨"LevelingNetwork$Survey", "copyProfiles", "(LLevelingNetwork$Survey;)V"⟩ ∈ jk_WS := jk_wt4 (i := 22) (by decide +kernel) rfl
theorem jw_744 : Cond.instanceMethod ⟨"LevelingNetwork$Survey", "copyProfiles", "(LLevelingNetwork$Survey;)V"⟩ ∈ jk_WS := jk_wt4 (i := 24) (by decide +kernel) rfl
theorem jw_745 : Cond.code ⟨"LevelingNetwork$Survey", "copyProfiles", "(LLevelingNetwork$Survey;)V"⟩ prog_11_method_5_code 4 (Option.none : Option ClassFile.FieldType) ∈ jk_WS := jk_wt4 (i := 25) (by decide +kernel) rfl
theorem jw_746 : Cond.methodLink "LevelingNetwork" 436 ⟨"LevelingNetwork$Changes", "carryOut", "(LLevelingNetwork$Kind;IIII)I"⟩ ∈ jk_WS := jk_wt4 (i := 26) (by decide +kernel) rfl
theorem jw_747 : Cond.instanceMethod ⟨"LevelingNetwork$Changes", "carryOut", "(LLevelingNetwork$Kind;IIII)I"⟩ ∈ jk_WS := jk_wt4 (i := 27) (by decide +kernel) rfl
theorem jw_748 : Cond.selects "LevelingNetwork$Changes" ⟨"LevelingNetwork$Changes", "carryOut", "(LLevelingNetwork$Kind;IIII)I"⟩ ⟨"LevelingNetwork$Changes", "carryOut", "(LLevelingNetwork$Kind;IIII)I"⟩ ∈ jk_WS := jk_wt4 (i := 28) (by decide +kernel) rfl
theorem jw_749 : Cond.code ⟨"LevelingNetwork$Changes", "carryOut", "(LLevelingNetwork$Kind;IIII)I"⟩ prog_4_method_14_code 6 (Option.some ClassFile.FieldType.int) ∈ jk_WS := jk_wt4 (i := 29) (by decide +kernel) rfl
theorem jw_750 : Cond.methodLink "LevelingNetwork$Changes" 173 ⟨"LevelingNetwork$Changes", "putBenchmark", "()I"⟩ ∈ jk_WS := jk_wt4 (i := 30) (by decide +kernel) rfl
theorem jw_752 : Cond.instanceMethod ⟨"LevelingNetwork$Changes", "putBenchmark", "()I"⟩ ∈ jk_WS := jk_wt4 (i := 32) (by decide +kernel) rfl
theorem jw_753 : Cond.code ⟨"LevelingNetwork$Changes", "putBenchmark", "()I"⟩ prog_4_method_15_code 2 (Option.some ClassFile.FieldType.int) ∈ jk_WS := jk_wt4 (i := 33) (by decide +kernel) rfl
theorem jw_754 : Cond.methodLink "LevelingNetwork$Changes" 179 ⟨"LevelingNetwork$Survey", "fixedBenchmarks", "()I"⟩ ∈ jk_WS := jk_wt4 (i := 34) (by decide +kernel) rfl
theorem jw_755 : Cond.instanceMethod ⟨"LevelingNetwork$Survey", "fixedBenchmarks", "()I"⟩ ∈ jk_WS := jk_wt4 (i := 35) (by decide +kernel) rfl
theorem jw_756 : Cond.selects "LevelingNetwork$Survey" ⟨"LevelingNetwork$Survey", "fixedBenchmarks", "()I"⟩ ⟨"LevelingNetwork$Survey", "fixedBenchmarks", "()I"⟩ ∈ jk_WS := jk_wt4 (i := 36) (by decide +kernel) rfl
theorem jw_757 : Cond.code ⟨"LevelingNetwork$Survey", "fixedBenchmarks", "()I"⟩ prog_11_method_9_code 3 (Option.some ClassFile.FieldType.int) ∈ jk_WS := jk_wt4 (i := 37) (by decide +kernel) rfl
theorem jw_758 : Cond.methodLink "LevelingNetwork$Changes" 182 ⟨"LevelingNetwork$Changes", "putLine", "(IIII)I"⟩ ∈ jk_WS := jk_wt4 (i := 38) (by decide +kernel) rfl
theorem jw_760 : Cond.instanceMethod ⟨"LevelingNetwork$Changes", "putLine", "(IIII)I"⟩ ∈ jk_WS := jk_wt4 (i := 40) (by decide +kernel) rfl
theorem jw_761 : Cond.code ⟨"LevelingNetwork$Changes", "putLine", "(IIII)I"⟩ prog_4_method_16_code 6 (Option.some ClassFile.FieldType.int) ∈ jk_WS := jk_wt4 (i := 41) (by decide +kernel) rfl
theorem jw_762 : Cond.methodLink "LevelingNetwork$Changes" 189 ⟨"LevelingNetwork$Survey", "sumOfRuns", "(I)I"⟩ ∈ jk_WS := jk_wt4 (i := 42) (by decide +kernel) rfl
theorem jw_763 : Cond.methodLink "LevelingNetwork$Changes" 192 ⟨"LevelingNetwork$Survey", "usableLines", "()I"⟩ ∈ jk_WS := jk_wt4 (i := 43) (by decide +kernel) rfl
theorem jw_764 : Cond.instanceMethod ⟨"LevelingNetwork$Survey", "usableLines", "()I"⟩ ∈ jk_WS := jk_wt4 (i := 44) (by decide +kernel) rfl
theorem jw_765 : Cond.selects "LevelingNetwork$Survey" ⟨"LevelingNetwork$Survey", "usableLines", "()I"⟩ ⟨"LevelingNetwork$Survey", "usableLines", "()I"⟩ ∈ jk_WS := jk_wt4 (i := 45) (by decide +kernel) rfl
theorem jw_766 : Cond.code ⟨"LevelingNetwork$Survey", "usableLines", "()I"⟩ prog_11_method_14_code 3 (Option.some ClassFile.FieldType.int) ∈ jk_WS := jk_wt4 (i := 46) (by decide +kernel) rfl
theorem jw_767 : Cond.methodLink "LevelingNetwork$Survey" 95 ⟨"LevelingNetwork$Survey", "usable", "(I)Z"⟩ ∈ jk_WS := jk_wt4 (i := 47) (by decide +kernel) rfl
theorem jw_768 : Cond.methodLink "LevelingNetwork$Changes" 195 ⟨"LevelingNetwork$Changes", "shareOut", "(I)I"⟩ ∈ jk_WS := jk_wt4 (i := 48) (by decide +kernel) rfl
theorem jw_770 : Cond.instanceMethod ⟨"LevelingNetwork$Changes", "shareOut", "(I)I"⟩ ∈ jk_WS := jk_wt4 (i := 50) (by decide +kernel) rfl
theorem jw_771 : Cond.code ⟨"LevelingNetwork$Changes", "shareOut", "(I)I"⟩ prog_4_method_17_code 3 (Option.some ClassFile.FieldType.int) ∈ jk_WS := jk_wt4 (i := 51) (by decide +kernel) rfl
theorem jw_772 : Cond.methodLink "LevelingNetwork$Changes" 226 ⟨"LevelingNetwork$Sharing", "divide", "(LLevelingNetwork$Way;)V"⟩ ∈ jk_WS := jk_wt4 (i := 52) (by decide +kernel) rfl
theorem jw_773 : Cond.instanceMethod ⟨"LevelingNetwork$Sharing", "divide", "(LLevelingNetwork$Way;)V"⟩ ∈ jk_WS := jk_wt4 (i := 53) (by decide +kernel) rfl
theorem jw_774 : Cond.selects "LevelingNetwork$Sharing" ⟨"LevelingNetwork$Sharing", "divide", "(LLevelingNetwork$Way;)V"⟩ ⟨"LevelingNetwork$Sharing", "divide", "(LLevelingNetwork$Way;)V"⟩ ∈ jk_WS := jk_wt4 (i := 54) (by decide +kernel) rfl
theorem jw_775 : Cond.code ⟨"LevelingNetwork$Sharing", "divide", "(LLevelingNetwork$Way;)V"⟩ prog_10_method_2_code 8 (Option.none : Option ClassFile.FieldType) ∈ jk_WS := jk_wt4 (i := 55) (by decide +kernel) rfl
theorem jw_776 : Cond.methodLink "LevelingNetwork$Sharing" 22 ⟨"LevelingNetwork$Way", "rise", "()I"⟩ ∈ jk_WS := jk_wt4 (i := 56) (by decide +kernel) rfl
theorem jw_777 : Cond.methodLink "LevelingNetwork$Sharing" 28 ⟨"java/lang/Math", "abs", "(I)I"⟩ ∈ jk_WS := jk_wt4 (i := 57) (by decide +kernel) rfl
theorem jw_778 : Cond.methodLink "LevelingNetwork$Sharing" 34 ⟨"LevelingNetwork$Way", "totalLength", "()I"⟩ ∈ jk_WS := jk_wt4 (i := 58) (by decide +kernel) rfl
theorem jw_779 : Cond.methodLink "LevelingNetwork$Sharing" 49 ⟨"LevelingNetwork$Sharing", "giveOut", "(I)V"⟩ ∈ jk_WS := jk_wt4 (i := 59) (by decide +kernel) rfl
theorem jw_781 : Cond.instanceMethod ⟨"LevelingNetwork$Sharing", "giveOut", "(I)V"⟩ ∈ jk_WS := jk_wt4 (i := 61) (by decide +kernel) rfl
theorem jw_782 : Cond.code ⟨"LevelingNetwork$Sharing", "giveOut", "(I)V"⟩ prog_10_method_3_code 5 (Option.none : Option ClassFile.FieldType) ∈ jk_WS := jk_wt4 (i := 62) (by decide +kernel) rfl
theorem jw_783 : Cond.methodLink "LevelingNetwork$Changes" 232 ⟨"LevelingNetwork$Sharing", "correct", "(LLevelingNetwork$Way;)V"⟩ ∈ jk_WS := jk_wt4 (i := 63) (by decide +kernel) rfl
theorem jw_784 : Cond.instanceMethod ⟨"LevelingNetwork$Sharing", "correct", "(LLevelingNetwork$Way;)V"⟩ ∈ jk_WS := jk_wt4 (i := 64) (by decide +kernel) rfl
theorem jw_785 : Cond.selects "LevelingNetwork$Sharing" ⟨"LevelingNetwork$Sharing", "correct", "(LLevelingNetwork$Way;)V"⟩ ⟨"LevelingNetwork$Sharing", "correct", "(LLevelingNetwork$Way;)V"⟩ ∈ jk_WS := jk_wt4 (i := 65) (by decide +kernel) rfl
theorem jw_786 : Cond.code ⟨"LevelingNetwork$Sharing", "correct", "(LLevelingNetwork$Way;)V"⟩ prog_10_method_4_code 5 (Option.none : Option ClassFile.FieldType) ∈ jk_WS := jk_wt4 (i := 66) (by decide +kernel) rfl
theorem jw_787 : Cond.methodLink "LevelingNetwork$Changes" 198 ⟨"LevelingNetwork$Changes", "clearCorrections", "()I"⟩ ∈ jk_WS := jk_wt4 (i := 67) (by decide +kernel) rfl
theorem jw_789 : Cond.instanceMethod ⟨"LevelingNetwork$Changes", "clearCorrections", "()I"⟩ ∈ jk_WS := jk_wt4 (i := 69) (by decide +kernel) rfl
theorem jw_790 : Cond.code ⟨"LevelingNetwork$Changes", "clearCorrections", "()I"⟩ prog_4_method_18_code 3 (Option.some ClassFile.FieldType.int) ∈ jk_WS := jk_wt4 (i := 70) (by decide +kernel) rfl
theorem jw_791 : Cond.methodLink "LevelingNetwork$Changes" 201 ⟨"LevelingNetwork$Changes", "putProfile", "(I)I"⟩ ∈ jk_WS := jk_wt4 (i := 71) (by decide +kernel) rfl
theorem jw_793 : Cond.instanceMethod ⟨"LevelingNetwork$Changes", "putProfile", "(I)I"⟩ ∈ jk_WS := jk_wt4 (i := 73) (by decide +kernel) rfl
theorem jw_794 : Cond.code ⟨"LevelingNetwork$Changes", "putProfile", "(I)I"⟩ prog_4_method_19_code 3 (Option.some ClassFile.FieldType.int) ∈ jk_WS := jk_wt4 (i := 74) (by decide +kernel) rfl
theorem jw_795 : Cond.methodLink "LevelingNetwork$Changes" 204 ⟨"LevelingNetwork$Changes", "putStation", "(III)I"⟩ ∈ jk_WS := jk_wt4 (i := 75) (by decide +kernel) rfl
theorem jw_797 : Cond.instanceMethod ⟨"LevelingNetwork$Changes", "putStation", "(III)I"⟩ ∈ jk_WS := jk_wt4 (i := 77) (by decide +kernel) rfl
theorem jw_798 : Cond.code ⟨"LevelingNetwork$Changes", "putStation", "(III)I"⟩ prog_4_method_20_code 5 (Option.some ClassFile.FieldType.int) ∈ jk_WS := jk_wt4 (i := 78) (by decide +kernel) rfl
theorem jw_799 : Cond.methodLink "LevelingNetwork$Changes" 208 ⟨"LevelingNetwork$Changes", "putWater", "(I)I"⟩ ∈ jk_WS := jk_wt4 (i := 79) (by decide +kernel) rfl
theorem jw_801 : Cond.instanceMethod ⟨"LevelingNetwork$Changes", "putWater", "(I)I"⟩ ∈ jk_WS := jk_wt4 (i := 81) (by decide +kernel) rfl
theorem jw_802 : Cond.code ⟨"LevelingNetwork$Changes", "putWater", "(I)I"⟩ prog_4_method_21_code 3 (Option.some ClassFile.FieldType.int) ∈ jk_WS := jk_wt4 (i := 82) (by decide +kernel) rfl
theorem jw_803 : Cond.methodLink "LevelingNetworkLaw" 69 ⟨"LevelingNetwork", "fix", "(II)I"⟩ ∈ jk_WS := jk_wt4 (i := 83) (by decide +kernel) rfl
theorem jw_804 : Cond.instanceMethod ⟨"LevelingNetwork", "fix", "(II)I"⟩ ∈ jk_WS := jk_wt4 (i := 84) (by decide +kernel) rfl
theorem jw_805 : Cond.selects "LevelingNetwork" ⟨"LevelingNetwork", "fix", "(II)I"⟩ ⟨"LevelingNetwork", "fix", "(II)I"⟩ ∈ jk_WS := jk_wt4 (i := 85) (by decide +kernel) rfl
theorem jw_806 : Cond.code ⟨"LevelingNetwork", "fix", "(II)I"⟩ prog_1_method_3_code 3 (Option.some ClassFile.FieldType.int) ∈ jk_WS := jk_wt4 (i := 86) (by decide +kernel) rfl
theorem jw_807 : Cond.fieldLink "LevelingNetwork" 108 "LevelingNetwork$Kind" "FIX" "LLevelingNetwork$Kind;" ∈ jk_WS := jk_wt4 (i := 87) (by decide +kernel) rfl
theorem jw_809 : Cond.methodLink "LevelingNetworkLaw" 72 ⟨"LevelingNetwork", "release", "(I)I"⟩ ∈ jk_WS := jk_wt4 (i := 89) (by decide +kernel) rfl
theorem jw_810 : Cond.instanceMethod ⟨"LevelingNetwork", "release", "(I)I"⟩ ∈ jk_WS := jk_wt4 (i := 90) (by decide +kernel) rfl
theorem jw_811 : Cond.selects "LevelingNetwork" ⟨"LevelingNetwork", "release", "(I)I"⟩ ⟨"LevelingNetwork", "release", "(I)I"⟩ ∈ jk_WS := jk_wt4 (i := 91) (by decide +kernel) rfl
theorem jw_812 : Cond.code ⟨"LevelingNetwork", "release", "(I)I"⟩ prog_1_method_4_code 2 (Option.some ClassFile.FieldType.int) ∈ jk_WS := jk_wt4 (i := 92) (by decide +kernel) rfl
theorem jw_813 : Cond.fieldLink "LevelingNetwork" 111 "LevelingNetwork$Kind" "FREE" "LLevelingNetwork$Kind;" ∈ jk_WS := jk_wt4 (i := 93) (by decide +kernel) rfl
theorem jw_815 : Cond.methodLink "LevelingNetworkLaw" 75 ⟨"LevelingNetwork", "addBackwardRun", "(II)I"⟩ ∈ jk_WS := jk_wt4 (i := 95) (by decide +kernel) rfl
theorem jw_816 : Cond.instanceMethod ⟨"LevelingNetwork", "addBackwardRun", "(II)I"⟩ ∈ jk_WS := jk_wt4 (i := 96) (by decide +kernel) rfl
theorem jw_817 : Cond.selects "LevelingNetwork" ⟨"LevelingNetwork", "addBackwardRun", "(II)I"⟩ ⟨"LevelingNetwork", "addBackwardRun", "(II)I"⟩ ∈ jk_WS := jk_wt4 (i := 97) (by decide +kernel) rfl
theorem jw_818 : Cond.code ⟨"LevelingNetwork", "addBackwardRun", "(II)I"⟩ prog_1_method_6_code 3 (Option.some ClassFile.FieldType.int) ∈ jk_WS := jk_wt4 (i := 98) (by decide +kernel) rfl
theorem jw_819 : Cond.fieldLink "LevelingNetwork" 117 "LevelingNetwork$Kind" "BACK" "LLevelingNetwork$Kind;" ∈ jk_WS := jk_wt4 (i := 99) (by decide +kernel) rfl
theorem jw_821 : Cond.methodLink "LevelingNetworkLaw" 78 ⟨"LevelingNetwork", "exclude", "(I)I"⟩ ∈ jk_WS := jk_wt4 (i := 101) (by decide +kernel) rfl
theorem jw_822 : Cond.instanceMethod ⟨"LevelingNetwork", "exclude", "(I)I"⟩ ∈ jk_WS := jk_wt4 (i := 102) (by decide +kernel) rfl
theorem jw_823 : Cond.selects "LevelingNetwork" ⟨"LevelingNetwork", "exclude", "(I)I"⟩ ⟨"LevelingNetwork", "exclude", "(I)I"⟩ ∈ jk_WS := jk_wt4 (i := 103) (by decide +kernel) rfl
theorem jw_824 : Cond.code ⟨"LevelingNetwork", "exclude", "(I)I"⟩ prog_1_method_7_code 2 (Option.some ClassFile.FieldType.int) ∈ jk_WS := jk_wt4 (i := 104) (by decide +kernel) rfl
theorem jw_825 : Cond.fieldLink "LevelingNetwork" 120 "LevelingNetwork$Kind" "EXCLUDE" "LLevelingNetwork$Kind;" ∈ jk_WS := jk_wt4 (i := 105) (by decide +kernel) rfl
theorem jw_827 : Cond.methodLink "LevelingNetworkLaw" 81 ⟨"LevelingNetwork", "include", "(I)I"⟩ ∈ jk_WS := jk_wt4 (i := 107) (by decide +kernel) rfl
theorem jw_828 : Cond.instanceMethod ⟨"LevelingNetwork", "include", "(I)I"⟩ ∈ jk_WS := jk_wt4 (i := 108) (by decide +kernel) rfl
theorem jw_829 : Cond.selects "LevelingNetwork" ⟨"LevelingNetwork", "include", "(I)I"⟩ ⟨"LevelingNetwork", "include", "(I)I"⟩ ∈ jk_WS := jk_wt4 (i := 109) (by decide +kernel) rfl
theorem jw_830 : Cond.code ⟨"LevelingNetwork", "include", "(I)I"⟩ prog_1_method_8_code 2 (Option.some ClassFile.FieldType.int) ∈ jk_WS := jk_wt4 (i := 110) (by decide +kernel) rfl
theorem jw_831 : Cond.fieldLink "LevelingNetwork" 123 "LevelingNetwork$Kind" "INCLUDE" "LLevelingNetwork$Kind;" ∈ jk_WS := jk_wt4 (i := 111) (by decide +kernel) rfl
theorem jw_833 : Cond.methodLink "LevelingNetworkLaw" 84 ⟨"LevelingNetwork", "shareMisclosure", "(I)I"⟩ ∈ jk_WS := jk_wt4 (i := 113) (by decide +kernel) rfl
theorem jw_834 : Cond.instanceMethod ⟨"LevelingNetwork", "shareMisclosure", "(I)I"⟩ ∈ jk_WS := jk_wt4 (i := 114) (by decide +kernel) rfl
theorem jw_835 : Cond.selects "LevelingNetwork" ⟨"LevelingNetwork", "shareMisclosure", "(I)I"⟩ ⟨"LevelingNetwork", "shareMisclosure", "(I)I"⟩ ∈ jk_WS := jk_wt4 (i := 115) (by decide +kernel) rfl
theorem jw_836 : Cond.code ⟨"LevelingNetwork", "shareMisclosure", "(I)I"⟩ prog_1_method_9_code 2 (Option.some ClassFile.FieldType.int) ∈ jk_WS := jk_wt4 (i := 116) (by decide +kernel) rfl
theorem jw_837 : Cond.fieldLink "LevelingNetwork" 126 "LevelingNetwork$Kind" "SHARE" "LLevelingNetwork$Kind;" ∈ jk_WS := jk_wt4 (i := 117) (by decide +kernel) rfl
theorem jw_839 : Cond.methodLink "LevelingNetworkLaw" 222 ⟨"LevelingNetwork", "resetCorrections", "()I"⟩ ∈ jk_WS := jk_wt4 (i := 119) (by decide +kernel) rfl
theorem jw_840 : Cond.instanceMethod ⟨"LevelingNetwork", "resetCorrections", "()I"⟩ ∈ jk_WS := jk_wt4 (i := 120) (by decide +kernel) rfl
theorem jw_841 : Cond.selects "LevelingNetwork" ⟨"LevelingNetwork", "resetCorrections", "()I"⟩ ⟨"LevelingNetwork", "resetCorrections", "()I"⟩ ∈ jk_WS := jk_wt4 (i := 121) (by decide +kernel) rfl
theorem jw_842 : Cond.code ⟨"LevelingNetwork", "resetCorrections", "()I"⟩ prog_1_method_10_code 1 (Option.some ClassFile.FieldType.int) ∈ jk_WS := jk_wt4 (i := 122) (by decide +kernel) rfl
theorem jw_843 : Cond.fieldLink "LevelingNetwork" 129 "LevelingNetwork$Kind" "RESET" "LLevelingNetwork$Kind;" ∈ jk_WS := jk_wt4 (i := 123) (by decide +kernel) rfl
theorem jw_845 : Cond.methodLink "LevelingNetworkLaw" 94 ⟨"LevelingNetwork", "setWaterLevel", "(I)I"⟩ ∈ jk_WS := jk_wt4 (i := 125) (by decide +kernel) rfl
theorem jw_846 : Cond.instanceMethod ⟨"LevelingNetwork", "setWaterLevel", "(I)I"⟩ ∈ jk_WS := jk_wt4 (i := 126) (by decide +kernel) rfl
theorem jw_847 : Cond.selects "LevelingNetwork" ⟨"LevelingNetwork", "setWaterLevel", "(I)I"⟩ ⟨"LevelingNetwork", "setWaterLevel", "(I)I"⟩ ∈ jk_WS := jk_wt4 (i := 127) (by decide +kernel) rfl
theorem jw_848 : Cond.code ⟨"LevelingNetwork", "setWaterLevel", "(I)I"⟩ prog_1_method_13_code 2 (Option.some ClassFile.FieldType.int) ∈ jk_WS := jk_wt4 (i := 128) (by decide +kernel) rfl
theorem jw_849 : Cond.fieldLink "LevelingNetwork" 138 "LevelingNetwork$Kind" "WATER" "LLevelingNetwork$Kind;" ∈ jk_WS := jk_wt4 (i := 129) (by decide +kernel) rfl
theorem jw_851 : Cond.methodLink "LevelingNetworkLaw" 148 ⟨"LevelingNetwork", "benchmarkCount", "()I"⟩ ∈ jk_WS := jk_wt4 (i := 131) (by decide +kernel) rfl
theorem jw_852 : Cond.instanceMethod ⟨"LevelingNetwork", "benchmarkCount", "()I"⟩ ∈ jk_WS := jk_wt4 (i := 132) (by decide +kernel) rfl
theorem jw_853 : Cond.selects "LevelingNetwork" ⟨"LevelingNetwork", "benchmarkCount", "()I"⟩ ⟨"LevelingNetwork", "benchmarkCount", "()I"⟩ ∈ jk_WS := jk_wt4 (i := 133) (by decide +kernel) rfl
theorem jw_854 : Cond.code ⟨"LevelingNetwork", "benchmarkCount", "()I"⟩ prog_1_method_14_code 1 (Option.some ClassFile.FieldType.int) ∈ jk_WS := jk_wt4 (i := 134) (by decide +kernel) rfl
theorem jw_855 : Cond.methodLink "LevelingNetworkLaw" 338 ⟨"LevelingNetwork", "hasHeight", "(I)Z"⟩ ∈ jk_WS := jk_wt4 (i := 135) (by decide +kernel) rfl
theorem jw_856 : Cond.instanceMethod ⟨"LevelingNetwork", "hasHeight", "(I)Z"⟩ ∈ jk_WS := jk_wt4 (i := 136) (by decide +kernel) rfl
theorem jw_857 : Cond.selects "LevelingNetwork" ⟨"LevelingNetwork", "hasHeight", "(I)Z"⟩ ⟨"LevelingNetwork", "hasHeight", "(I)Z"⟩ ∈ jk_WS := jk_wt4 (i := 137) (by decide +kernel) rfl
theorem jw_858 : Cond.code ⟨"LevelingNetwork", "hasHeight", "(I)Z"⟩ prog_1_method_16_code 2 (Option.some ClassFile.FieldType.boolean) ∈ jk_WS := jk_wt4 (i := 138) (by decide +kernel) rfl
theorem jw_859 : Cond.methodLink "LevelingNetwork" 144 ⟨"LevelingNetwork", "requireBenchmark", "(I)V"⟩ ∈ jk_WS := jk_wt4 (i := 139) (by decide +kernel) rfl
theorem jw_861 : Cond.instanceMethod ⟨"LevelingNetwork", "requireBenchmark", "(I)V"⟩ ∈ jk_WS := jk_wt4 (i := 141) (by decide +kernel) rfl
theorem jw_862 : Cond.code ⟨"LevelingNetwork", "requireBenchmark", "(I)V"⟩ prog_1_method_67_code 2 (Option.none : Option ClassFile.FieldType) ∈ jk_WS := jk_wt4 (i := 142) (by decide +kernel) rfl
theorem jw_863 : Cond.methodLink "LevelingNetwork" 462 ⟨"LevelingNetwork$Survey", "hasBenchmark", "(I)Z"⟩ ∈ jk_WS := jk_wt4 (i := 143) (by decide +kernel) rfl
theorem jw_865 : Cond.methodLink "LevelingNetwork" 152 ⟨"LevelingNetwork$Forest", "find", "()V"⟩ ∈ jk_WS := jk_wt4 (i := 145) (by decide +kernel) rfl
theorem jw_866 : Cond.methodLink "LevelingNetwork" 155 ⟨"LevelingNetwork$Heights", "exists", "(I)Z"⟩ ∈ jk_WS := jk_wt4 (i := 146) (by decide +kernel) rfl
theorem jw_867 : Cond.instanceMethod ⟨"LevelingNetwork$Heights", "exists", "(I)Z"⟩ ∈ jk_WS := jk_wt4 (i := 147) (by decide +kernel) rfl
theorem jw_868 : Cond.selects "LevelingNetwork$Heights" ⟨"LevelingNetwork$Heights", "exists", "(I)Z"⟩ ⟨"LevelingNetwork$Heights", "exists", "(I)Z"⟩ ∈ jk_WS := jk_wt4 (i := 148) (by decide +kernel) rfl
theorem jw_869 : Cond.code ⟨"LevelingNetwork$Heights", "exists", "(I)Z"⟩ prog_6_method_3_code 2 (Option.some ClassFile.FieldType.boolean) ∈ jk_WS := jk_wt4 (i := 149) (by decide +kernel) rfl
theorem jw_870 : Cond.methodLink "LevelingNetwork$Heights" 50 ⟨"LevelingNetwork$Heights", "datumOf", "(I)I"⟩ ∈ jk_WS := jk_wt4 (i := 150) (by decide +kernel) rfl
theorem jw_871 : Cond.instanceMethod ⟨"LevelingNetwork$Heights", "datumOf", "(I)I"⟩ ∈ jk_WS := jk_wt4 (i := 151) (by decide +kernel) rfl
theorem jw_872 : Cond.selects "LevelingNetwork$Heights" ⟨"LevelingNetwork$Heights", "datumOf", "(I)I"⟩ ⟨"LevelingNetwork$Heights", "datumOf", "(I)I"⟩ ∈ jk_WS := jk_wt4 (i := 152) (by decide +kernel) rfl
theorem jw_873 : Cond.code ⟨"LevelingNetwork$Heights", "datumOf", "(I)I"⟩ prog_6_method_2_code 3 (Option.some ClassFile.FieldType.int) ∈ jk_WS := jk_wt4 (i := 153) (by decide +kernel) rfl
theorem jw_874 : Cond.methodLink "LevelingNetworkLaw" 97 ⟨"LevelingNetwork", "height", "(I)I"⟩ ∈ jk_WS := jk_wt4 (i := 154) (by decide +kernel) rfl
theorem jw_875 : Cond.instanceMethod ⟨"LevelingNetwork", "height", "(I)I"⟩ ∈ jk_WS := jk_wt4 (i := 155) (by decide +kernel) rfl
theorem jw_876 : Cond.selects "LevelingNetwork" ⟨"LevelingNetwork", "height", "(I)I"⟩ ⟨"LevelingNetwork", "height", "(I)I"⟩ ∈ jk_WS := jk_wt4 (i := 156) (by decide +kernel) rfl
theorem jw_877 : Cond.code ⟨"LevelingNetwork", "height", "(I)I"⟩ prog_1_method_17_code 2 (Option.some ClassFile.FieldType.int) ∈ jk_WS := jk_wt4 (i := 157) (by decide +kernel) rfl
theorem jw_878 : Cond.methodLink "LevelingNetwork" 159 ⟨"LevelingNetwork", "requireHeight", "(I)V"⟩ ∈ jk_WS := jk_wt4 (i := 158) (by decide +kernel) rfl
theorem jw_880 : Cond.instanceMethod ⟨"LevelingNetwork", "requireHeight", "(I)V"⟩ ∈ jk_WS := jk_wt4 (i := 160) (by decide +kernel) rfl
theorem jw_881 : Cond.code ⟨"LevelingNetwork", "requireHeight", "(I)V"⟩ prog_1_method_70_code 2 (Option.none : Option ClassFile.FieldType) ∈ jk_WS := jk_wt4 (i := 161) (by decide +kernel) rfl
theorem jw_883 : Cond.methodLink "LevelingNetwork" 162 ⟨"LevelingNetwork$Heights", "byWay", "(I)I"⟩ ∈ jk_WS := jk_wt4 (i := 163) (by decide +kernel) rfl
theorem jw_884 : Cond.instanceMethod ⟨"LevelingNetwork$Heights", "byWay", "(I)I"⟩ ∈ jk_WS := jk_wt4 (i := 164) (by decide +kernel) rfl
theorem jw_885 : Cond.selects "LevelingNetwork$Heights" ⟨"LevelingNetwork$Heights", "byWay", "(I)I"⟩ ⟨"LevelingNetwork$Heights", "byWay", "(I)I"⟩ ∈ jk_WS := jk_wt4 (i := 165) (by decide +kernel) rfl
theorem jw_886 : Cond.code ⟨"LevelingNetwork$Heights", "byWay", "(I)I"⟩ prog_6_method_4_code 2 (Option.some ClassFile.FieldType.int) ∈ jk_WS := jk_wt4 (i := 166) (by decide +kernel) rfl
theorem jw_887 : Cond.methodLink "LevelingNetwork$Heights" 57 ⟨"LevelingNetwork$Heights", "carriedFromDatum", "(I)I"⟩ ∈ jk_WS := jk_wt4 (i := 167) (by decide +kernel) rfl
theorem jw_888 : Cond.instanceMethod ⟨"LevelingNetwork$Heights", "carriedFromDatum", "(I)I"⟩ ∈ jk_WS := jk_wt4 (i := 168) (by decide +kernel) rfl
theorem jw_889 : Cond.selects "LevelingNetwork$Heights" ⟨"LevelingNetwork$Heights", "carriedFromDatum", "(I)I"⟩ ⟨"LevelingNetwork$Heights", "carriedFromDatum", "(I)I"⟩ ∈ jk_WS := jk_wt4 (i := 169) (by decide +kernel) rfl
theorem jw_890 : Cond.code ⟨"LevelingNetwork$Heights", "carriedFromDatum", "(I)I"⟩ prog_6_method_5_code 3 (Option.some ClassFile.FieldType.int) ∈ jk_WS := jk_wt4 (i := 170) (by decide +kernel) rfl
theorem jw_891 : Cond.methodLink "LevelingNetwork$Heights" 60 ⟨"LevelingNetwork$Way", "trace", "(II)V"⟩ ∈ jk_WS := jk_wt4 (i := 171) (by decide +kernel) rfl
theorem jw_892 : Cond.instanceMethod ⟨"LevelingNetwork$Way", "trace", "(II)V"⟩ ∈ jk_WS := jk_wt4 (i := 172) (by decide +kernel) rfl
theorem jw_893 : Cond.selects "LevelingNetwork$Way" ⟨"LevelingNetwork$Way", "trace", "(II)V"⟩ ⟨"LevelingNetwork$Way", "trace", "(II)V"⟩ ∈ jk_WS := jk_wt4 (i := 173) (by decide +kernel) rfl
theorem jw_894 : Cond.code ⟨"LevelingNetwork$Way", "trace", "(II)V"⟩ prog_13_method_2_code 3 (Option.none : Option ClassFile.FieldType) ∈ jk_WS := jk_wt4 (i := 174) (by decide +kernel) rfl
theorem jw_895 : Cond.methodLink "LevelingNetwork$Heights" 64 ⟨"LevelingNetwork$Way", "rise", "()I"⟩ ∈ jk_WS := jk_wt4 (i := 175) (by decide +kernel) rfl
theorem jw_896 : Cond.methodLink "LevelingNetworkLaw" 100 ⟨"LevelingNetwork", "heightByRounds", "(I)I"⟩ ∈ jk_WS := jk_wt4 (i := 176) (by decide +kernel) rfl
theorem jw_897 : Cond.instanceMethod ⟨"LevelingNetwork", "heightByRounds", "(I)I"⟩ ∈ jk_WS := jk_wt4 (i := 177) (by decide +kernel) rfl
theorem jw_898 : Cond.selects "LevelingNetwork" ⟨"LevelingNetwork", "heightByRounds", "(I)I"⟩ ⟨"LevelingNetwork", "heightByRounds", "(I)I"⟩ ∈ jk_WS := jk_wt4 (i := 178) (by decide +kernel) rfl
theorem jw_899 : Cond.code ⟨"LevelingNetwork", "heightByRounds", "(I)I"⟩ prog_1_method_18_code 2 (Option.some ClassFile.FieldType.int) ∈ jk_WS := jk_wt4 (i := 179) (by decide +kernel) rfl
theorem jw_900 : Cond.methodLink "LevelingNetwork" 166 ⟨"LevelingNetwork$Heights", "byRounds", "(I)I"⟩ ∈ jk_WS := jk_wt4 (i := 180) (by decide +kernel) rfl
theorem jw_901 : Cond.instanceMethod ⟨"LevelingNetwork$Heights", "byRounds", "(I)I"⟩ ∈ jk_WS := jk_wt4 (i := 181) (by decide +kernel) rfl
theorem jw_902 : Cond.selects "LevelingNetwork$Heights" ⟨"LevelingNetwork$Heights", "byRounds", "(I)I"⟩ ⟨"LevelingNetwork$Heights", "byRounds", "(I)I"⟩ ∈ jk_WS := jk_wt4 (i := 182) (by decide +kernel) rfl
theorem jw_903 : Cond.code ⟨"LevelingNetwork$Heights", "byRounds", "(I)I"⟩ prog_6_method_6_code 3 (Option.some ClassFile.FieldType.int) ∈ jk_WS := jk_wt4 (i := 183) (by decide +kernel) rfl
theorem jw_904 : Cond.methodLink "LevelingNetwork$Heights" 68 ⟨"LevelingNetwork$Heights", "passOn", "(II)V"⟩ ∈ jk_WS := jk_wt4 (i := 184) (by decide +kernel) rfl
theorem jw_906 : Cond.instanceMethod ⟨"LevelingNetwork$Heights", "passOn", "(II)V"⟩ ∈ jk_WS := jk_wt4 (i := 186) (by decide +kernel) rfl
theorem jw_907 : Cond.code ⟨"LevelingNetwork$Heights", "passOn", "(II)V"⟩ prog_6_method_8_code 5 (Option.none : Option ClassFile.FieldType) ∈ jk_WS := jk_wt4 (i := 187) (by decide +kernel) rfl
theorem jw_908 : Cond.methodLink "LevelingNetwork$Heights" 80 ⟨"LevelingNetwork$Heights", "passOnOnce", "()Z"⟩ ∈ jk_WS := jk_wt4 (i := 188) (by decide +kernel) rfl
theorem jw_910 : Cond.instanceMethod ⟨"LevelingNetwork$Heights", "passOnOnce", "()Z"⟩ ∈ jk_WS := jk_wt4 (i := 190) (by decide +kernel) rfl
theorem jw_911 : Cond.code ⟨"LevelingNetwork$Heights", "passOnOnce", "()Z"⟩ prog_6_method_9_code 5 (Option.some ClassFile.FieldType.boolean) ∈ jk_WS := jk_wt4 (i := 191) (by decide +kernel) rfl
theorem jw_912 : Cond.methodLink "LevelingNetwork$Heights" 77 ⟨"LevelingNetwork$Survey", "corrected", "(I)I"⟩ ∈ jk_WS := jk_wt4 (i := 192) (by decide +kernel) rfl
theorem jw_913 : Cond.methodLink "LevelingNetworkLaw" 103 ⟨"LevelingNetwork", "closingError", "(I)I"⟩ ∈ jk_WS := jk_wt4 (i := 193) (by decide +kernel) rfl
theorem jw_914 : Cond.instanceMethod ⟨"LevelingNetwork", "closingError", "(I)I"⟩ ∈ jk_WS := jk_wt4 (i := 194) (by decide +kernel) rfl
theorem jw_915 : Cond.selects "LevelingNetwork" ⟨"LevelingNetwork", "closingError", "(I)I"⟩ ⟨"LevelingNetwork", "closingError", "(I)I"⟩ ∈ jk_WS := jk_wt4 (i := 195) (by decide +kernel) rfl
theorem jw_916 : Cond.code ⟨"LevelingNetwork", "closingError", "(I)I"⟩ prog_1_method_19_code 2 (Option.some ClassFile.FieldType.int) ∈ jk_WS := jk_wt4 (i := 196) (by decide +kernel) rfl
theorem jw_918 : Cond.methodLink "LevelingNetwork" 176 ⟨"LevelingNetwork$Heights", "carriedFromDatum", "(I)I"⟩ ∈ jk_WS := jk_wt4 (i := 198) (by decide +kernel) rfl
theorem jw_919 : Cond.methodLink "LevelingNetworkLaw" 106 ⟨"LevelingNetwork", "datum", "(I)I"⟩ ∈ jk_WS := jk_wt4 (i := 199) (by decide +kernel) rfl
theorem jw_920 : Cond.instanceMethod ⟨"LevelingNetwork", "datum", "(I)I"⟩ ∈ jk_WS := jk_wt4 (i := 200) (by decide +kernel) rfl
theorem jw_921 : Cond.selects "LevelingNetwork" ⟨"LevelingNetwork", "datum", "(I)I"⟩ ⟨"LevelingNetwork", "datum", "(I)I"⟩ ∈ jk_WS := jk_wt4 (i := 201) (by decide +kernel) rfl
theorem jw_922 : Cond.code ⟨"LevelingNetwork", "datum", "(I)I"⟩ prog_1_method_20_code 3 (Option.some ClassFile.FieldType.int) ∈ jk_WS := jk_wt4 (i := 202) (by decide +kernel) rfl
theorem jw_923 : Cond.methodLink "LevelingNetwork" 183 ⟨"LevelingNetwork$Heights", "datumOf", "(I)I"⟩ ∈ jk_WS := jk_wt4 (i := 203) (by decide +kernel) rfl
theorem jw_925 : Cond.methodLink "LevelingNetworkLaw" 302 ⟨"LevelingNetwork", "benchmarkByHeight", "(I)I"⟩ ∈ jk_WS := jk_wt4 (i := 205) (by decide +kernel) rfl
theorem jw_926 : Cond.instanceMethod ⟨"LevelingNetwork", "benchmarkByHeight", "(I)I"⟩ ∈ jk_WS := jk_wt4 (i := 206) (by decide +kernel) rfl
theorem jw_927 : Cond.selects "LevelingNetwork" ⟨"LevelingNetwork", "benchmarkByHeight", "(I)I"⟩ ⟨"LevelingNetwork", "benchmarkByHeight", "(I)I"⟩ ∈ jk_WS := jk_wt4 (i := 207) (by decide +kernel) rfl
theorem jw_928 : Cond.code ⟨"LevelingNetwork", "benchmarkByHeight", "(I)I"⟩ prog_1_method_21_code 3 (Option.some ClassFile.FieldType.int) ∈ jk_WS := jk_wt4 (i := 208) (by decide +kernel) rfl
theorem jw_929 : Cond.methodLink "LevelingNetwork" 188 ⟨"LevelingNetwork$Heights", "atRank", "(I)I"⟩ ∈ jk_WS := jk_wt4 (i := 209) (by decide +kernel) rfl
theorem jw_930 : Cond.instanceMethod ⟨"LevelingNetwork$Heights", "atRank", "(I)I"⟩ ∈ jk_WS := jk_wt4 (i := 210) (by decide +kernel) rfl
theorem jw_931 : Cond.selects "LevelingNetwork$Heights" ⟨"LevelingNetwork$Heights", "atRank", "(I)I"⟩ ⟨"LevelingNetwork$Heights", "atRank", "(I)I"⟩ ∈ jk_WS := jk_wt4 (i := 211) (by decide +kernel) rfl
theorem jw_932 : Cond.code ⟨"LevelingNetwork$Heights", "atRank", "(I)I"⟩ prog_6_method_10_code 3 (Option.some ClassFile.FieldType.int) ∈ jk_WS := jk_wt4 (i := 212) (by decide +kernel) rfl
theorem jw_933 : Cond.methodLink "LevelingNetwork$Heights" 90 ⟨"LevelingNetwork$Heights", "exists", "(I)Z"⟩ ∈ jk_WS := jk_wt4 (i := 213) (by decide +kernel) rfl
theorem jw_934 : Cond.methodLink "LevelingNetwork$Heights" 94 ⟨"LevelingNetwork$Heights", "benchmarksAheadOf", "(I)I"⟩ ∈ jk_WS := jk_wt4 (i := 214) (by decide +kernel) rfl
theorem jw_936 : Cond.instanceMethod ⟨"LevelingNetwork$Heights", "benchmarksAheadOf", "(I)I"⟩ ∈ jk_WS := jk_wt4 (i := 216) (by decide +kernel) rfl
theorem jw_937 : Cond.code ⟨"LevelingNetwork$Heights", "benchmarksAheadOf", "(I)I"⟩ prog_6_method_11_code 6 (Option.some ClassFile.FieldType.int) ∈ jk_WS := jk_wt4 (i := 217) (by decide +kernel) rfl
theorem jw_938 : Cond.methodLink "LevelingNetwork$Heights" 97 ⟨"LevelingNetwork$Heights", "byWay", "(I)I"⟩ ∈ jk_WS := jk_wt4 (i := 218) (by decide +kernel) rfl
theorem jw_940 : Cond.methodLink "LevelingNetworkLaw" 170 ⟨"LevelingNetwork", "levelledDifference", "(I)I"⟩ ∈ jk_WS := jk_wt4 (i := 220) (by decide +kernel) rfl
theorem jw_941 : Cond.instanceMethod ⟨"LevelingNetwork", "levelledDifference", "(I)I"⟩ ∈ jk_WS := jk_wt4 (i := 221) (by decide +kernel) rfl
theorem jw_942 : Cond.selects "LevelingNetwork" ⟨"LevelingNetwork", "levelledDifference", "(I)I"⟩ ⟨"LevelingNetwork", "levelledDifference", "(I)I"⟩ ∈ jk_WS := jk_wt4 (i := 222) (by decide +kernel) rfl
theorem jw_943 : Cond.code ⟨"LevelingNetwork", "levelledDifference", "(I)I"⟩ prog_1_method_26_code 2 (Option.some ClassFile.FieldType.int) ∈ jk_WS := jk_wt4 (i := 223) (by decide +kernel) rfl
theorem jw_944 : Cond.methodLink "LevelingNetwork" 196 ⟨"LevelingNetwork", "requireLine", "(I)V"⟩ ∈ jk_WS := jk_wt4 (i := 224) (by decide +kernel) rfl
theorem jw_946 : Cond.instanceMethod ⟨"LevelingNetwork", "requireLine", "(I)V"⟩ ∈ jk_WS := jk_wt4 (i := 226) (by decide +kernel) rfl
theorem jw_947 : Cond.code ⟨"LevelingNetwork", "requireLine", "(I)V"⟩ prog_1_method_68_code 2 (Option.none : Option ClassFile.FieldType) ∈ jk_WS := jk_wt4 (i := 227) (by decide +kernel) rfl
theorem jw_948 : Cond.methodLink "LevelingNetwork" 467 ⟨"LevelingNetwork$Survey", "hasLine", "(I)Z"⟩ ∈ jk_WS := jk_wt4 (i := 228) (by decide +kernel) rfl
theorem jw_950 : Cond.methodLink "LevelingNetwork" 208 ⟨"LevelingNetwork$Survey", "levelled", "(I)I"⟩ ∈ jk_WS := jk_wt4 (i := 230) (by decide +kernel) rfl
theorem jw_951 : Cond.methodLink "LevelingNetworkLaw" 173 ⟨"LevelingNetwork", "correction", "(I)I"⟩ ∈ jk_WS := jk_wt4 (i := 231) (by decide +kernel) rfl
theorem jw_952 : Cond.instanceMethod ⟨"LevelingNetwork", "correction", "(I)I"⟩ ∈ jk_WS := jk_wt4 (i := 232) (by decide +kernel) rfl
theorem jw_953 : Cond.selects "LevelingNetwork" ⟨"LevelingNetwork", "correction", "(I)I"⟩ ⟨"LevelingNetwork", "correction", "(I)I"⟩ ∈ jk_WS := jk_wt4 (i := 233) (by decide +kernel) rfl
theorem jw_954 : Cond.code ⟨"LevelingNetwork", "correction", "(I)I"⟩ prog_1_method_27_code 2 (Option.some ClassFile.FieldType.int) ∈ jk_WS := jk_wt4 (i := 234) (by decide +kernel) rfl
theorem jw_955 : Cond.methodLink "LevelingNetworkLaw" 133 ⟨"LevelingNetwork", "discrepancy", "(I)I"⟩ ∈ jk_WS := jk_wt4 (i := 235) (by decide +kernel) rfl
theorem jw_956 : Cond.instanceMethod ⟨"LevelingNetwork", "discrepancy", "(I)I"⟩ ∈ jk_WS := jk_wt4 (i := 236) (by decide +kernel) rfl
theorem jw_957 : Cond.selects "LevelingNetwork" ⟨"LevelingNetwork", "discrepancy", "(I)I"⟩ ⟨"LevelingNetwork", "discrepancy", "(I)I"⟩ ∈ jk_WS := jk_wt4 (i := 237) (by decide +kernel) rfl
theorem jw_958 : Cond.code ⟨"LevelingNetwork", "discrepancy", "(I)I"⟩ prog_1_method_28_code 2 (Option.some ClassFile.FieldType.int) ∈ jk_WS := jk_wt4 (i := 238) (by decide +kernel) rfl
theorem jw_960 : Cond.methodLink "LevelingNetwork" 219 ⟨"LevelingNetwork$Survey", "sumOfRuns", "(I)I"⟩ ∈ jk_WS := jk_wt5 (i := 0) (by decide +kernel) rfl
theorem jw_961 : Cond.methodLink "LevelingNetworkLaw" 182 ⟨"LevelingNetwork", "isUsable", "(I)Z"⟩ ∈ jk_WS := jk_wt5 (i := 1) (by decide +kernel) rfl
theorem jw_962 : Cond.instanceMethod ⟨"LevelingNetwork", "isUsable", "(I)Z"⟩ ∈ jk_WS := jk_wt5 (i := 2) (by decide +kernel) rfl
theorem jw_963 : Cond.selects "LevelingNetwork" ⟨"LevelingNetwork", "isUsable", "(I)Z"⟩ ⟨"LevelingNetwork", "isUsable", "(I)Z"⟩ ∈ jk_WS := jk_wt5 (i := 3) (by decide +kernel) rfl
theorem jw_964 : Cond.code ⟨"LevelingNetwork", "isUsable", "(I)Z"⟩ prog_1_method_30_code 2 (Option.some ClassFile.FieldType.boolean) ∈ jk_WS := jk_wt5 (i := 4) (by decide +kernel) rfl
theorem jw_965 : Cond.methodLink "LevelingNetwork" 225 ⟨"LevelingNetwork$Survey", "usable", "(I)Z"⟩ ∈ jk_WS := jk_wt5 (i := 5) (by decide +kernel) rfl
theorem jw_966 : Cond.methodLink "LevelingNetworkLaw" 274 ⟨"LevelingNetwork", "tolerance", "(I)I"⟩ ∈ jk_WS := jk_wt5 (i := 6) (by decide +kernel) rfl
theorem jw_967 : Cond.instanceMethod ⟨"LevelingNetwork", "tolerance", "(I)I"⟩ ∈ jk_WS := jk_wt5 (i := 7) (by decide +kernel) rfl
theorem jw_968 : Cond.selects "LevelingNetwork" ⟨"LevelingNetwork", "tolerance", "(I)I"⟩ ⟨"LevelingNetwork", "tolerance", "(I)I"⟩ ∈ jk_WS := jk_wt5 (i := 8) (by decide +kernel) rfl
