theorem dX1_init_0 : decode cX1_init 0 = .ok (.aload_n 0, 1) := by decide +kernel
theorem dX1_init_1 : decode cX1_init 1 = .ok (.invokespecial 3, 3) := by decide +kernel
theorem dX1_init_4 : decode cX1_init 4 = .ok (.aload_n 0, 1) := by decide +kernel
theorem dX1_init_5 : decode cX1_init 5 = .ok (.aload_n 1, 1) := by decide +kernel
theorem dX1_init_6 : decode cX1_init 6 = .ok (.putfield 9, 3) := by decide +kernel
theorem dX1_init_9 : decode cX1_init 9 = .ok (.return_, 1) := by decide +kernel
theorem dX1_hasColumn_0 : decode cX1_hasColumn 0 = .ok (.iload_n 2, 1) := by decide +kernel
theorem dX1_hasColumn_1 : decode cX1_hasColumn 1 = .ok (.aload_n 0, 1) := by decide +kernel
theorem dX1_hasColumn_2 : decode cX1_hasColumn 2 = .ok (.iload_n 1, 1) := by decide +kernel
theorem dX1_hasColumn_3 : decode cX1_hasColumn 3 = .ok (.invokevirtual 15, 3) := by decide +kernel
theorem dX1_hasColumn_6 : decode cX1_hasColumn 6 = .ok (.aload_n 0, 1) := by decide +kernel
theorem dX1_hasColumn_7 : decode cX1_hasColumn 7 = .ok (.iload_n 1, 1) := by decide +kernel
theorem dX1_hasColumn_8 : decode cX1_hasColumn 8 = .ok (.invokevirtual 19, 3) := by decide +kernel
theorem dX1_hasColumn_11 : decode cX1_hasColumn 11 = .ok (.invokestatic 22, 3) := by decide +kernel
theorem dX1_hasColumn_14 : decode cX1_hasColumn 14 = .ok (.ireturn, 1) := by decide +kernel
theorem dX1_firstColumn_0 : decode cX1_firstColumn 0 = .ok (.aload_n 0, 1) := by decide +kernel
theorem dX1_firstColumn_1 : decode cX1_firstColumn 1 = .ok (.getfield 9, 3) := by decide +kernel
theorem dX1_firstColumn_4 : decode cX1_firstColumn 4 = .ok (.getfield 26, 3) := by decide +kernel
theorem dX1_firstColumn_7 : decode cX1_firstColumn 7 = .ok (.iload_n 1, 1) := by decide +kernel
theorem dX1_firstColumn_8 : decode cX1_firstColumn 8 = .ok (.aaload, 1) := by decide +kernel
theorem dX1_firstColumn_9 : decode cX1_firstColumn 9 = .ok (.iconst 0, 1) := by decide +kernel
theorem dX1_firstColumn_10 : decode cX1_firstColumn 10 = .ok (.iaload, 1) := by decide +kernel
theorem dX1_firstColumn_11 : decode cX1_firstColumn 11 = .ok (.ireturn, 1) := by decide +kernel
theorem dX1_lastColumn_0 : decode cX1_lastColumn 0 = .ok (.aload_n 0, 1) := by decide +kernel
theorem dX1_lastColumn_1 : decode cX1_lastColumn 1 = .ok (.getfield 9, 3) := by decide +kernel
theorem dX1_lastColumn_4 : decode cX1_lastColumn 4 = .ok (.getfield 32, 3) := by decide +kernel
theorem dX1_lastColumn_7 : decode cX1_lastColumn 7 = .ok (.iload_n 1, 1) := by decide +kernel
theorem dX1_lastColumn_8 : decode cX1_lastColumn 8 = .ok (.iaload, 1) := by decide +kernel
theorem dX1_lastColumn_9 : decode cX1_lastColumn 9 = .ok (.istore_n 2, 1) := by decide +kernel
theorem dX1_lastColumn_10 : decode cX1_lastColumn 10 = .ok (.iload_n 2, 1) := by decide +kernel
theorem dX1_lastColumn_11 : decode cX1_lastColumn 11 = .ok (.ifCond .le 19, 3) := by decide +kernel
theorem dX1_lastColumn_14 : decode cX1_lastColumn 14 = .ok (.aload_n 0, 1) := by decide +kernel
theorem dX1_lastColumn_15 : decode cX1_lastColumn 15 = .ok (.getfield 9, 3) := by decide +kernel
theorem dX1_lastColumn_18 : decode cX1_lastColumn 18 = .ok (.getfield 26, 3) := by decide +kernel
theorem dX1_lastColumn_21 : decode cX1_lastColumn 21 = .ok (.iload_n 1, 1) := by decide +kernel
theorem dX1_lastColumn_22 : decode cX1_lastColumn 22 = .ok (.aaload, 1) := by decide +kernel
theorem dX1_lastColumn_23 : decode cX1_lastColumn 23 = .ok (.iload_n 2, 1) := by decide +kernel
theorem dX1_lastColumn_24 : decode cX1_lastColumn 24 = .ok (.iconst 1, 1) := by decide +kernel
theorem dX1_lastColumn_25 : decode cX1_lastColumn 25 = .ok (.isub, 1) := by decide +kernel
theorem dX1_lastColumn_26 : decode cX1_lastColumn 26 = .ok (.iaload, 1) := by decide +kernel
theorem dX1_lastColumn_27 : decode cX1_lastColumn 27 = .ok (.goto 4, 3) := by decide +kernel
theorem dX1_lastColumn_30 : decode cX1_lastColumn 30 = .ok (.iconst (-1), 1) := by decide +kernel
theorem dX1_lastColumn_31 : decode cX1_lastColumn 31 = .ok (.ireturn, 1) := by decide +kernel
theorem dX1_offsetAt_0 : decode cX1_offsetAt 0 = .ok (.aload_n 0, 1) := by decide +kernel
theorem dX1_offsetAt_1 : decode cX1_offsetAt 1 = .ok (.getfield 9, 3) := by decide +kernel
theorem dX1_offsetAt_4 : decode cX1_offsetAt 4 = .ok (.getfield 26, 3) := by decide +kernel
theorem dX1_offsetAt_7 : decode cX1_offsetAt 7 = .ok (.iload_n 1, 1) := by decide +kernel
theorem dX1_offsetAt_8 : decode cX1_offsetAt 8 = .ok (.aaload, 1) := by decide +kernel
theorem dX1_offsetAt_9 : decode cX1_offsetAt 9 = .ok (.astore_n 3, 1) := by decide +kernel
theorem dX1_offsetAt_10 : decode cX1_offsetAt 10 = .ok (.aload_n 0, 1) := by decide +kernel
theorem dX1_offsetAt_11 : decode cX1_offsetAt 11 = .ok (.getfield 9, 3) := by decide +kernel
theorem dX1_offsetAt_14 : decode cX1_offsetAt 14 = .ok (.getfield 36, 3) := by decide +kernel
theorem dX1_offsetAt_17 : decode cX1_offsetAt 17 = .ok (.iload_n 1, 1) := by decide +kernel
theorem dX1_offsetAt_18 : decode cX1_offsetAt 18 = .ok (.aaload, 1) := by decide +kernel
theorem dX1_offsetAt_19 : decode cX1_offsetAt 19 = .ok (.astore 4, 2) := by decide +kernel
theorem dX1_offsetAt_21 : decode cX1_offsetAt 21 = .ok (.aload_n 0, 1) := by decide +kernel
theorem dX1_offsetAt_22 : decode cX1_offsetAt 22 = .ok (.getfield 9, 3) := by decide +kernel
theorem dX1_offsetAt_25 : decode cX1_offsetAt 25 = .ok (.getfield 32, 3) := by decide +kernel
theorem dX1_offsetAt_28 : decode cX1_offsetAt 28 = .ok (.iload_n 1, 1) := by decide +kernel
theorem dX1_offsetAt_29 : decode cX1_offsetAt 29 = .ok (.iaload, 1) := by decide +kernel
theorem dX1_offsetAt_30 : decode cX1_offsetAt 30 = .ok (.iconst 1, 1) := by decide +kernel
theorem dX1_offsetAt_31 : decode cX1_offsetAt 31 = .ok (.isub, 1) := by decide +kernel
theorem dX1_offsetAt_32 : decode cX1_offsetAt 32 = .ok (.istore 5, 2) := by decide +kernel
theorem dX1_offsetAt_34 : decode cX1_offsetAt 34 = .ok (.iconst 0, 1) := by decide +kernel
theorem dX1_offsetAt_35 : decode cX1_offsetAt 35 = .ok (.istore 6, 2) := by decide +kernel
theorem dX1_offsetAt_37 : decode cX1_offsetAt 37 = .ok (.iload 6, 2) := by decide +kernel
theorem dX1_offsetAt_39 : decode cX1_offsetAt 39 = .ok (.iload 5, 2) := by decide +kernel
theorem dX1_offsetAt_41 : decode cX1_offsetAt 41 = .ok (.if_icmp .ge 69, 3) := by decide +kernel
theorem dX1_offsetAt_44 : decode cX1_offsetAt 44 = .ok (.aload_n 3, 1) := by decide +kernel
theorem dX1_offsetAt_45 : decode cX1_offsetAt 45 = .ok (.iload 6, 2) := by decide +kernel
theorem dX1_offsetAt_47 : decode cX1_offsetAt 47 = .ok (.iconst 1, 1) := by decide +kernel
theorem dX1_offsetAt_48 : decode cX1_offsetAt 48 = .ok (.iadd, 1) := by decide +kernel
theorem dX1_offsetAt_49 : decode cX1_offsetAt 49 = .ok (.iaload, 1) := by decide +kernel
theorem dX1_offsetAt_50 : decode cX1_offsetAt 50 = .ok (.aload_n 3, 1) := by decide +kernel
theorem dX1_offsetAt_51 : decode cX1_offsetAt 51 = .ok (.iload 6, 2) := by decide +kernel
theorem dX1_offsetAt_53 : decode cX1_offsetAt 53 = .ok (.iaload, 1) := by decide +kernel
theorem dX1_offsetAt_54 : decode cX1_offsetAt 54 = .ok (.isub, 1) := by decide +kernel
theorem dX1_offsetAt_55 : decode cX1_offsetAt 55 = .ok (.istore 7, 2) := by decide +kernel
theorem dX1_offsetAt_57 : decode cX1_offsetAt 57 = .ok (.iload_n 2, 1) := by decide +kernel
theorem dX1_offsetAt_58 : decode cX1_offsetAt 58 = .ok (.aload_n 3, 1) := by decide +kernel
theorem dX1_offsetAt_59 : decode cX1_offsetAt 59 = .ok (.iload 6, 2) := by decide +kernel
theorem dX1_offsetAt_61 : decode cX1_offsetAt 61 = .ok (.iconst 1, 1) := by decide +kernel
theorem dX1_offsetAt_62 : decode cX1_offsetAt 62 = .ok (.iadd, 1) := by decide +kernel
theorem dX1_offsetAt_63 : decode cX1_offsetAt 63 = .ok (.iaload, 1) := by decide +kernel
theorem dX1_offsetAt_64 : decode cX1_offsetAt 64 = .ok (.if_icmp .ge 40, 3) := by decide +kernel
theorem dX1_offsetAt_67 : decode cX1_offsetAt 67 = .ok (.iload 7, 2) := by decide +kernel
theorem dX1_offsetAt_69 : decode cX1_offsetAt 69 = .ok (.ifCond .le 35, 3) := by decide +kernel
theorem dX1_offsetAt_72 : decode cX1_offsetAt 72 = .ok (.aload 4, 2) := by decide +kernel
theorem dX1_offsetAt_74 : decode cX1_offsetAt 74 = .ok (.iload 6, 2) := by decide +kernel
theorem dX1_offsetAt_76 : decode cX1_offsetAt 76 = .ok (.iaload, 1) := by decide +kernel
theorem dX1_offsetAt_77 : decode cX1_offsetAt 77 = .ok (.aload 4, 2) := by decide +kernel
theorem dX1_offsetAt_79 : decode cX1_offsetAt 79 = .ok (.iload 6, 2) := by decide +kernel
theorem dX1_offsetAt_81 : decode cX1_offsetAt 81 = .ok (.iconst 1, 1) := by decide +kernel
theorem dX1_offsetAt_82 : decode cX1_offsetAt 82 = .ok (.iadd, 1) := by decide +kernel
theorem dX1_offsetAt_83 : decode cX1_offsetAt 83 = .ok (.iaload, 1) := by decide +kernel
theorem dX1_offsetAt_84 : decode cX1_offsetAt 84 = .ok (.aload 4, 2) := by decide +kernel
theorem dX1_offsetAt_86 : decode cX1_offsetAt 86 = .ok (.iload 6, 2) := by decide +kernel
theorem dX1_offsetAt_88 : decode cX1_offsetAt 88 = .ok (.iaload, 1) := by decide +kernel
theorem dX1_offsetAt_89 : decode cX1_offsetAt 89 = .ok (.isub, 1) := by decide +kernel
theorem dX1_offsetAt_90 : decode cX1_offsetAt 90 = .ok (.iload_n 2, 1) := by decide +kernel
theorem dX1_offsetAt_91 : decode cX1_offsetAt 91 = .ok (.aload_n 3, 1) := by decide +kernel
theorem dX1_offsetAt_92 : decode cX1_offsetAt 92 = .ok (.iload 6, 2) := by decide +kernel
theorem dX1_offsetAt_94 : decode cX1_offsetAt 94 = .ok (.iaload, 1) := by decide +kernel
theorem dX1_offsetAt_95 : decode cX1_offsetAt 95 = .ok (.isub, 1) := by decide +kernel
theorem dX1_offsetAt_96 : decode cX1_offsetAt 96 = .ok (.imul, 1) := by decide +kernel
theorem dX1_offsetAt_97 : decode cX1_offsetAt 97 = .ok (.iload 7, 2) := by decide +kernel
theorem dX1_offsetAt_99 : decode cX1_offsetAt 99 = .ok (.invokestatic 39, 3) := by decide +kernel
theorem dX1_offsetAt_102 : decode cX1_offsetAt 102 = .ok (.iadd, 1) := by decide +kernel
theorem dX1_offsetAt_103 : decode cX1_offsetAt 103 = .ok (.ireturn, 1) := by decide +kernel
theorem dX1_offsetAt_104 : decode cX1_offsetAt 104 = .ok (.iinc 6 1, 3) := by decide +kernel
theorem dX1_offsetAt_107 : decode cX1_offsetAt 107 = .ok (.goto (-70), 3) := by decide +kernel
theorem dX1_offsetAt_110 : decode cX1_offsetAt 110 = .ok (.iload 5, 2) := by decide +kernel
theorem dX1_offsetAt_112 : decode cX1_offsetAt 112 = .ok (.ifCond .lt 11, 3) := by decide +kernel
theorem dX1_offsetAt_115 : decode cX1_offsetAt 115 = .ok (.aload 4, 2) := by decide +kernel
theorem dX1_offsetAt_117 : decode cX1_offsetAt 117 = .ok (.iload 5, 2) := by decide +kernel
theorem dX1_offsetAt_119 : decode cX1_offsetAt 119 = .ok (.iaload, 1) := by decide +kernel
theorem dX1_offsetAt_120 : decode cX1_offsetAt 120 = .ok (.goto 4, 3) := by decide +kernel
theorem dX1_offsetAt_123 : decode cX1_offsetAt 123 = .ok (.iconst 0, 1) := by decide +kernel
theorem dX1_offsetAt_124 : decode cX1_offsetAt 124 = .ok (.ireturn, 1) := by decide +kernel
theorem dX1_wetByColumns_0 : decode cX1_wetByColumns 0 = .ok (.aload_n 0, 1) := by decide +kernel
theorem dX1_wetByColumns_1 : decode cX1_wetByColumns 1 = .ok (.iload_n 1, 1) := by decide +kernel
theorem dX1_wetByColumns_2 : decode cX1_wetByColumns 2 = .ok (.invokevirtual 19, 3) := by decide +kernel
theorem dX1_wetByColumns_5 : decode cX1_wetByColumns 5 = .ok (.istore_n 3, 1) := by decide +kernel
theorem dX1_wetByColumns_6 : decode cX1_wetByColumns 6 = .ok (.iconst 0, 1) := by decide +kernel
theorem dX1_wetByColumns_7 : decode cX1_wetByColumns 7 = .ok (.istore 4, 2) := by decide +kernel
theorem dX1_wetByColumns_9 : decode cX1_wetByColumns 9 = .ok (.aload_n 0, 1) := by decide +kernel
theorem dX1_wetByColumns_10 : decode cX1_wetByColumns 10 = .ok (.iload_n 1, 1) := by decide +kernel
theorem dX1_wetByColumns_11 : decode cX1_wetByColumns 11 = .ok (.invokevirtual 15, 3) := by decide +kernel
theorem dX1_wetByColumns_14 : decode cX1_wetByColumns 14 = .ok (.istore 5, 2) := by decide +kernel
theorem dX1_wetByColumns_16 : decode cX1_wetByColumns 16 = .ok (.iload 5, 2) := by decide +kernel
theorem dX1_wetByColumns_18 : decode cX1_wetByColumns 18 = .ok (.iload_n 3, 1) := by decide +kernel
theorem dX1_wetByColumns_19 : decode cX1_wetByColumns 19 = .ok (.if_icmp .gt 30, 3) := by decide +kernel
theorem dX1_wetByColumns_22 : decode cX1_wetByColumns 22 = .ok (.iload 4, 2) := by decide +kernel
theorem dX1_wetByColumns_24 : decode cX1_wetByColumns 24 = .ok (.aload_n 0, 1) := by decide +kernel
theorem dX1_wetByColumns_25 : decode cX1_wetByColumns 25 = .ok (.iload_n 1, 1) := by decide +kernel
theorem dX1_wetByColumns_26 : decode cX1_wetByColumns 26 = .ok (.iload 5, 2) := by decide +kernel
theorem dX1_wetByColumns_28 : decode cX1_wetByColumns 28 = .ok (.invokevirtual 45, 3) := by decide +kernel
theorem dX1_wetByColumns_31 : decode cX1_wetByColumns 31 = .ok (.iload_n 2, 1) := by decide +kernel
theorem dX1_wetByColumns_32 : decode cX1_wetByColumns 32 = .ok (.if_icmp .ge 7, 3) := by decide +kernel
theorem dX1_wetByColumns_35 : decode cX1_wetByColumns 35 = .ok (.iconst 1, 1) := by decide +kernel
theorem dX1_wetByColumns_36 : decode cX1_wetByColumns 36 = .ok (.goto 4, 3) := by decide +kernel
theorem dX1_wetByColumns_39 : decode cX1_wetByColumns 39 = .ok (.iconst 0, 1) := by decide +kernel
theorem dX1_wetByColumns_40 : decode cX1_wetByColumns 40 = .ok (.iadd, 1) := by decide +kernel
theorem dX1_wetByColumns_41 : decode cX1_wetByColumns 41 = .ok (.istore 4, 2) := by decide +kernel
theorem dX1_wetByColumns_43 : decode cX1_wetByColumns 43 = .ok (.iinc 5 1, 3) := by decide +kernel
theorem dX1_wetByColumns_46 : decode cX1_wetByColumns 46 = .ok (.goto (-30), 3) := by decide +kernel
theorem dX1_wetByColumns_49 : decode cX1_wetByColumns 49 = .ok (.iload 4, 2) := by decide +kernel
theorem dX1_wetByColumns_51 : decode cX1_wetByColumns 51 = .ok (.ireturn, 1) := by decide +kernel
theorem dX1_shoreLines_0 : decode cX1_shoreLines 0 = .ok (.aload_n 0, 1) := by decide +kernel
theorem dX1_shoreLines_1 : decode cX1_shoreLines 1 = .ok (.iload_n 1, 1) := by decide +kernel
theorem dX1_shoreLines_2 : decode cX1_shoreLines 2 = .ok (.invokevirtual 19, 3) := by decide +kernel
theorem dX1_shoreLines_5 : decode cX1_shoreLines 5 = .ok (.istore_n 3, 1) := by decide +kernel
theorem dX1_shoreLines_6 : decode cX1_shoreLines 6 = .ok (.iconst 0, 1) := by decide +kernel
theorem dX1_shoreLines_7 : decode cX1_shoreLines 7 = .ok (.istore 4, 2) := by decide +kernel
theorem dX1_shoreLines_9 : decode cX1_shoreLines 9 = .ok (.aload_n 0, 1) := by decide +kernel
theorem dX1_shoreLines_10 : decode cX1_shoreLines 10 = .ok (.iload_n 1, 1) := by decide +kernel
theorem dX1_shoreLines_11 : decode cX1_shoreLines 11 = .ok (.invokevirtual 15, 3) := by decide +kernel
theorem dX1_shoreLines_14 : decode cX1_shoreLines 14 = .ok (.istore 5, 2) := by decide +kernel
theorem dX1_shoreLines_16 : decode cX1_shoreLines 16 = .ok (.iload 5, 2) := by decide +kernel
theorem dX1_shoreLines_18 : decode cX1_shoreLines 18 = .ok (.iload_n 3, 1) := by decide +kernel
theorem dX1_shoreLines_19 : decode cX1_shoreLines 19 = .ok (.if_icmp .ge 64, 3) := by decide +kernel
theorem dX1_shoreLines_22 : decode cX1_shoreLines 22 = .ok (.aload_n 0, 1) := by decide +kernel
theorem dX1_shoreLines_23 : decode cX1_shoreLines 23 = .ok (.iload_n 1, 1) := by decide +kernel
theorem dX1_shoreLines_24 : decode cX1_shoreLines 24 = .ok (.iload 5, 2) := by decide +kernel
theorem dX1_shoreLines_26 : decode cX1_shoreLines 26 = .ok (.invokevirtual 45, 3) := by decide +kernel
theorem dX1_shoreLines_29 : decode cX1_shoreLines 29 = .ok (.iload_n 2, 1) := by decide +kernel
theorem dX1_shoreLines_30 : decode cX1_shoreLines 30 = .ok (.if_icmp .ge 7, 3) := by decide +kernel
theorem dX1_shoreLines_33 : decode cX1_shoreLines 33 = .ok (.iconst 1, 1) := by decide +kernel
theorem dX1_shoreLines_34 : decode cX1_shoreLines 34 = .ok (.goto 4, 3) := by decide +kernel
theorem dX1_shoreLines_37 : decode cX1_shoreLines 37 = .ok (.iconst 0, 1) := by decide +kernel
theorem dX1_shoreLines_38 : decode cX1_shoreLines 38 = .ok (.istore 6, 2) := by decide +kernel
theorem dX1_shoreLines_40 : decode cX1_shoreLines 40 = .ok (.aload_n 0, 1) := by decide +kernel
theorem dX1_shoreLines_41 : decode cX1_shoreLines 41 = .ok (.iload_n 1, 1) := by decide +kernel
theorem dX1_shoreLines_42 : decode cX1_shoreLines 42 = .ok (.iload 5, 2) := by decide +kernel
theorem dX1_shoreLines_44 : decode cX1_shoreLines 44 = .ok (.iconst 1, 1) := by decide +kernel
theorem dX1_shoreLines_45 : decode cX1_shoreLines 45 = .ok (.iadd, 1) := by decide +kernel
theorem dX1_shoreLines_46 : decode cX1_shoreLines 46 = .ok (.invokevirtual 45, 3) := by decide +kernel
theorem dX1_shoreLines_49 : decode cX1_shoreLines 49 = .ok (.iload_n 2, 1) := by decide +kernel
theorem dX1_shoreLines_50 : decode cX1_shoreLines 50 = .ok (.if_icmp .ge 7, 3) := by decide +kernel
theorem dX1_shoreLines_53 : decode cX1_shoreLines 53 = .ok (.iconst 1, 1) := by decide +kernel
theorem dX1_shoreLines_54 : decode cX1_shoreLines 54 = .ok (.goto 4, 3) := by decide +kernel
theorem dX1_shoreLines_57 : decode cX1_shoreLines 57 = .ok (.iconst 0, 1) := by decide +kernel
theorem dX1_shoreLines_58 : decode cX1_shoreLines 58 = .ok (.istore 7, 2) := by decide +kernel
theorem dX1_shoreLines_60 : decode cX1_shoreLines 60 = .ok (.iload 4, 2) := by decide +kernel
theorem dX1_shoreLines_62 : decode cX1_shoreLines 62 = .ok (.iload 6, 2) := by decide +kernel
theorem dX1_shoreLines_64 : decode cX1_shoreLines 64 = .ok (.iload 7, 2) := by decide +kernel
theorem dX1_shoreLines_66 : decode cX1_shoreLines 66 = .ok (.if_icmp .eq 7, 3) := by decide +kernel
theorem dX1_shoreLines_69 : decode cX1_shoreLines 69 = .ok (.iconst 1, 1) := by decide +kernel
theorem dX1_shoreLines_70 : decode cX1_shoreLines 70 = .ok (.goto 4, 3) := by decide +kernel
theorem dX1_shoreLines_73 : decode cX1_shoreLines 73 = .ok (.iconst 0, 1) := by decide +kernel
theorem dX1_shoreLines_74 : decode cX1_shoreLines 74 = .ok (.iadd, 1) := by decide +kernel
theorem dX1_shoreLines_75 : decode cX1_shoreLines 75 = .ok (.istore 4, 2) := by decide +kernel
theorem dX1_shoreLines_77 : decode cX1_shoreLines 77 = .ok (.iinc 5 1, 3) := by decide +kernel
theorem dX1_shoreLines_80 : decode cX1_shoreLines 80 = .ok (.goto (-64), 3) := by decide +kernel
theorem dX1_shoreLines_83 : decode cX1_shoreLines 83 = .ok (.iload 4, 2) := by decide +kernel
theorem dX1_shoreLines_85 : decode cX1_shoreLines 85 = .ok (.ireturn, 1) := by decide +kernel
theorem dX1_columnOfLowestOffset_0 : decode cX1_columnOfLowestOffset 0 = .ok (.aload_n 0, 1) := by decide +kernel
theorem dX1_columnOfLowestOffset_1 : decode cX1_columnOfLowestOffset 1 = .ok (.iload_n 1, 1) := by decide +kernel
theorem dX1_columnOfLowestOffset_2 : decode cX1_columnOfLowestOffset 2 = .ok (.invokevirtual 19, 3) := by decide +kernel
theorem dX1_columnOfLowestOffset_5 : decode cX1_columnOfLowestOffset 5 = .ok (.istore_n 2, 1) := by decide +kernel
theorem dX1_columnOfLowestOffset_6 : decode cX1_columnOfLowestOffset 6 = .ok (.aload_n 0, 1) := by decide +kernel
theorem dX1_columnOfLowestOffset_7 : decode cX1_columnOfLowestOffset 7 = .ok (.iload_n 1, 1) := by decide +kernel
theorem dX1_columnOfLowestOffset_8 : decode cX1_columnOfLowestOffset 8 = .ok (.invokevirtual 15, 3) := by decide +kernel
theorem dX1_columnOfLowestOffset_11 : decode cX1_columnOfLowestOffset 11 = .ok (.istore_n 3, 1) := by decide +kernel
theorem dX1_columnOfLowestOffset_12 : decode cX1_columnOfLowestOffset 12 = .ok (.iload_n 3, 1) := by decide +kernel
theorem dX1_columnOfLowestOffset_13 : decode cX1_columnOfLowestOffset 13 = .ok (.iconst 1, 1) := by decide +kernel
theorem dX1_columnOfLowestOffset_14 : decode cX1_columnOfLowestOffset 14 = .ok (.iadd, 1) := by decide +kernel
theorem dX1_columnOfLowestOffset_15 : decode cX1_columnOfLowestOffset 15 = .ok (.istore 4, 2) := by decide +kernel
theorem dX1_columnOfLowestOffset_17 : decode cX1_columnOfLowestOffset 17 = .ok (.iload 4, 2) := by decide +kernel
theorem dX1_columnOfLowestOffset_19 : decode cX1_columnOfLowestOffset 19 = .ok (.iload_n 2, 1) := by decide +kernel
theorem dX1_columnOfLowestOffset_20 : decode cX1_columnOfLowestOffset 20 = .ok (.if_icmp .gt 28, 3) := by decide +kernel
theorem dX1_columnOfLowestOffset_23 : decode cX1_columnOfLowestOffset 23 = .ok (.aload_n 0, 1) := by decide +kernel
theorem dX1_columnOfLowestOffset_24 : decode cX1_columnOfLowestOffset 24 = .ok (.iload_n 1, 1) := by decide +kernel
theorem dX1_columnOfLowestOffset_25 : decode cX1_columnOfLowestOffset 25 = .ok (.iload 4, 2) := by decide +kernel
theorem dX1_columnOfLowestOffset_27 : decode cX1_columnOfLowestOffset 27 = .ok (.invokevirtual 45, 3) := by decide +kernel
theorem dX1_columnOfLowestOffset_30 : decode cX1_columnOfLowestOffset 30 = .ok (.aload_n 0, 1) := by decide +kernel
theorem dX1_columnOfLowestOffset_31 : decode cX1_columnOfLowestOffset 31 = .ok (.iload_n 1, 1) := by decide +kernel
theorem dX1_columnOfLowestOffset_32 : decode cX1_columnOfLowestOffset 32 = .ok (.iload_n 3, 1) := by decide +kernel
theorem dX1_columnOfLowestOffset_33 : decode cX1_columnOfLowestOffset 33 = .ok (.invokevirtual 45, 3) := by decide +kernel
theorem dX1_columnOfLowestOffset_36 : decode cX1_columnOfLowestOffset 36 = .ok (.if_icmp .ge 6, 3) := by decide +kernel
theorem dX1_columnOfLowestOffset_39 : decode cX1_columnOfLowestOffset 39 = .ok (.iload 4, 2) := by decide +kernel
theorem dX1_columnOfLowestOffset_41 : decode cX1_columnOfLowestOffset 41 = .ok (.istore_n 3, 1) := by decide +kernel
theorem dX1_columnOfLowestOffset_42 : decode cX1_columnOfLowestOffset 42 = .ok (.iinc 4 1, 3) := by decide +kernel
theorem dX1_columnOfLowestOffset_45 : decode cX1_columnOfLowestOffset 45 = .ok (.goto (-28), 3) := by decide +kernel
theorem dX1_columnOfLowestOffset_48 : decode cX1_columnOfLowestOffset 48 = .ok (.iload_n 3, 1) := by decide +kernel
theorem dX1_columnOfLowestOffset_49 : decode cX1_columnOfLowestOffset 49 = .ok (.ireturn, 1) := by decide +kernel
theorem dX1_wetBySegments_0 : decode cX1_wetBySegments 0 = .ok (.aload_n 0, 1) := by decide +kernel
theorem dX1_wetBySegments_1 : decode cX1_wetBySegments 1 = .ok (.getfield 9, 3) := by decide +kernel
theorem dX1_wetBySegments_4 : decode cX1_wetBySegments 4 = .ok (.getfield 26, 3) := by decide +kernel
theorem dX1_wetBySegments_7 : decode cX1_wetBySegments 7 = .ok (.iload_n 1, 1) := by decide +kernel
theorem dX1_wetBySegments_8 : decode cX1_wetBySegments 8 = .ok (.aaload, 1) := by decide +kernel
theorem dX1_wetBySegments_9 : decode cX1_wetBySegments 9 = .ok (.astore_n 3, 1) := by decide +kernel
theorem dX1_wetBySegments_10 : decode cX1_wetBySegments 10 = .ok (.aload_n 0, 1) := by decide +kernel
theorem dX1_wetBySegments_11 : decode cX1_wetBySegments 11 = .ok (.getfield 9, 3) := by decide +kernel
theorem dX1_wetBySegments_14 : decode cX1_wetBySegments 14 = .ok (.getfield 36, 3) := by decide +kernel
theorem dX1_wetBySegments_17 : decode cX1_wetBySegments 17 = .ok (.iload_n 1, 1) := by decide +kernel
theorem dX1_wetBySegments_18 : decode cX1_wetBySegments 18 = .ok (.aaload, 1) := by decide +kernel
theorem dX1_wetBySegments_19 : decode cX1_wetBySegments 19 = .ok (.astore 4, 2) := by decide +kernel
theorem dX1_wetBySegments_21 : decode cX1_wetBySegments 21 = .ok (.aload_n 0, 1) := by decide +kernel
theorem dX1_wetBySegments_22 : decode cX1_wetBySegments 22 = .ok (.getfield 9, 3) := by decide +kernel
theorem dX1_wetBySegments_25 : decode cX1_wetBySegments 25 = .ok (.getfield 32, 3) := by decide +kernel
theorem dX1_wetBySegments_28 : decode cX1_wetBySegments 28 = .ok (.iload_n 1, 1) := by decide +kernel
theorem dX1_wetBySegments_29 : decode cX1_wetBySegments 29 = .ok (.iaload, 1) := by decide +kernel
theorem dX1_wetBySegments_30 : decode cX1_wetBySegments 30 = .ok (.iconst 1, 1) := by decide +kernel
theorem dX1_wetBySegments_31 : decode cX1_wetBySegments 31 = .ok (.isub, 1) := by decide +kernel
theorem dX1_wetBySegments_32 : decode cX1_wetBySegments 32 = .ok (.istore 5, 2) := by decide +kernel
theorem dX1_wetBySegments_34 : decode cX1_wetBySegments 34 = .ok (.iload 5, 2) := by decide +kernel
theorem dX1_wetBySegments_36 : decode cX1_wetBySegments 36 = .ok (.ifCond .ge 5, 3) := by decide +kernel
theorem dX1_wetBySegments_39 : decode cX1_wetBySegments 39 = .ok (.iconst 0, 1) := by decide +kernel
theorem dX1_wetBySegments_40 : decode cX1_wetBySegments 40 = .ok (.ireturn, 1) := by decide +kernel
theorem dX1_wetBySegments_41 : decode cX1_wetBySegments 41 = .ok (.aload 4, 2) := by decide +kernel
theorem dX1_wetBySegments_43 : decode cX1_wetBySegments 43 = .ok (.iload 5, 2) := by decide +kernel
theorem dX1_wetBySegments_45 : decode cX1_wetBySegments 45 = .ok (.iaload, 1) := by decide +kernel
theorem dX1_wetBySegments_46 : decode cX1_wetBySegments 46 = .ok (.iload_n 2, 1) := by decide +kernel
theorem dX1_wetBySegments_47 : decode cX1_wetBySegments 47 = .ok (.if_icmp .ge 7, 3) := by decide +kernel
theorem dX1_wetBySegments_50 : decode cX1_wetBySegments 50 = .ok (.iconst 1, 1) := by decide +kernel
theorem dX1_wetBySegments_51 : decode cX1_wetBySegments 51 = .ok (.goto 4, 3) := by decide +kernel
theorem dX1_wetBySegments_54 : decode cX1_wetBySegments 54 = .ok (.iconst 0, 1) := by decide +kernel
theorem dX1_wetBySegments_55 : decode cX1_wetBySegments 55 = .ok (.istore 6, 2) := by decide +kernel
theorem dX1_wetBySegments_57 : decode cX1_wetBySegments 57 = .ok (.iconst 0, 1) := by decide +kernel
theorem dX1_wetBySegments_58 : decode cX1_wetBySegments 58 = .ok (.istore 7, 2) := by decide +kernel
theorem dX1_wetBySegments_60 : decode cX1_wetBySegments 60 = .ok (.iload 7, 2) := by decide +kernel
theorem dX1_wetBySegments_62 : decode cX1_wetBySegments 62 = .ok (.iload 5, 2) := by decide +kernel
theorem dX1_wetBySegments_64 : decode cX1_wetBySegments 64 = .ok (.if_icmp .ge 52, 3) := by decide +kernel
theorem dX1_wetBySegments_67 : decode cX1_wetBySegments 67 = .ok (.aload_n 3, 1) := by decide +kernel
theorem dX1_wetBySegments_68 : decode cX1_wetBySegments 68 = .ok (.iload 7, 2) := by decide +kernel
theorem dX1_wetBySegments_70 : decode cX1_wetBySegments 70 = .ok (.iconst 1, 1) := by decide +kernel
theorem dX1_wetBySegments_71 : decode cX1_wetBySegments 71 = .ok (.iadd, 1) := by decide +kernel
theorem dX1_wetBySegments_72 : decode cX1_wetBySegments 72 = .ok (.iaload, 1) := by decide +kernel
theorem dX1_wetBySegments_73 : decode cX1_wetBySegments 73 = .ok (.aload_n 3, 1) := by decide +kernel
theorem dX1_wetBySegments_74 : decode cX1_wetBySegments 74 = .ok (.iload 7, 2) := by decide +kernel
theorem dX1_wetBySegments_76 : decode cX1_wetBySegments 76 = .ok (.iaload, 1) := by decide +kernel
theorem dX1_wetBySegments_77 : decode cX1_wetBySegments 77 = .ok (.isub, 1) := by decide +kernel
theorem dX1_wetBySegments_78 : decode cX1_wetBySegments 78 = .ok (.istore 8, 2) := by decide +kernel
theorem dX1_wetBySegments_80 : decode cX1_wetBySegments 80 = .ok (.iload 6, 2) := by decide +kernel
theorem dX1_wetBySegments_82 : decode cX1_wetBySegments 82 = .ok (.iload 8, 2) := by decide +kernel
theorem dX1_wetBySegments_84 : decode cX1_wetBySegments 84 = .ok (.aload 4, 2) := by decide +kernel
theorem dX1_wetBySegments_86 : decode cX1_wetBySegments 86 = .ok (.iload 7, 2) := by decide +kernel
theorem dX1_wetBySegments_88 : decode cX1_wetBySegments 88 = .ok (.iconst 1, 1) := by decide +kernel
theorem dX1_wetBySegments_89 : decode cX1_wetBySegments 89 = .ok (.iadd, 1) := by decide +kernel
theorem dX1_wetBySegments_90 : decode cX1_wetBySegments 90 = .ok (.iaload, 1) := by decide +kernel
theorem dX1_wetBySegments_91 : decode cX1_wetBySegments 91 = .ok (.aload 4, 2) := by decide +kernel
theorem dX1_wetBySegments_93 : decode cX1_wetBySegments 93 = .ok (.iload 7, 2) := by decide +kernel
theorem dX1_wetBySegments_95 : decode cX1_wetBySegments 95 = .ok (.iaload, 1) := by decide +kernel
theorem dX1_wetBySegments_96 : decode cX1_wetBySegments 96 = .ok (.isub, 1) := by decide +kernel
theorem dX1_wetBySegments_97 : decode cX1_wetBySegments 97 = .ok (.iload_n 2, 1) := by decide +kernel
theorem dX1_wetBySegments_98 : decode cX1_wetBySegments 98 = .ok (.aload 4, 2) := by decide +kernel
theorem dX1_wetBySegments_100 : decode cX1_wetBySegments 100 = .ok (.iload 7, 2) := by decide +kernel
theorem dX1_wetBySegments_102 : decode cX1_wetBySegments 102 = .ok (.iaload, 1) := by decide +kernel
theorem dX1_wetBySegments_103 : decode cX1_wetBySegments 103 = .ok (.isub, 1) := by decide +kernel
theorem dX1_wetBySegments_104 : decode cX1_wetBySegments 104 = .ok (.invokestatic 48, 3) := by decide +kernel
theorem dX1_wetBySegments_107 : decode cX1_wetBySegments 107 = .ok (.iadd, 1) := by decide +kernel
theorem dX1_wetBySegments_108 : decode cX1_wetBySegments 108 = .ok (.istore 6, 2) := by decide +kernel
theorem dX1_wetBySegments_110 : decode cX1_wetBySegments 110 = .ok (.iinc 7 1, 3) := by decide +kernel
theorem dX1_wetBySegments_113 : decode cX1_wetBySegments 113 = .ok (.goto (-53), 3) := by decide +kernel
theorem dX1_wetBySegments_116 : decode cX1_wetBySegments 116 = .ok (.iload 6, 2) := by decide +kernel
theorem dX1_wetBySegments_118 : decode cX1_wetBySegments 118 = .ok (.ireturn, 1) := by decide +kernel
theorem dX1_wetOfSegment_0 : decode cX1_wetOfSegment 0 = .ok (.iload_n 1, 1) := by decide +kernel
theorem dX1_wetOfSegment_1 : decode cX1_wetOfSegment 1 = .ok (.ifCond .ne 13, 3) := by decide +kernel
theorem dX1_wetOfSegment_4 : decode cX1_wetOfSegment 4 = .ok (.iload_n 2, 1) := by decide +kernel
theorem dX1_wetOfSegment_5 : decode cX1_wetOfSegment 5 = .ok (.ifCond .le 7, 3) := by decide +kernel
theorem dX1_wetOfSegment_8 : decode cX1_wetOfSegment 8 = .ok (.iload_n 0, 1) := by decide +kernel
theorem dX1_wetOfSegment_9 : decode cX1_wetOfSegment 9 = .ok (.goto 4, 3) := by decide +kernel
theorem dX1_wetOfSegment_12 : decode cX1_wetOfSegment 12 = .ok (.iconst 0, 1) := by decide +kernel
theorem dX1_wetOfSegment_13 : decode cX1_wetOfSegment 13 = .ok (.ireturn, 1) := by decide +kernel
theorem dX1_wetOfSegment_14 : decode cX1_wetOfSegment 14 = .ok (.iload_n 1, 1) := by decide +kernel
theorem dX1_wetOfSegment_15 : decode cX1_wetOfSegment 15 = .ok (.ifCond .le 19, 3) := by decide +kernel
theorem dX1_wetOfSegment_18 : decode cX1_wetOfSegment 18 = .ok (.iload_n 2, 1) := by decide +kernel
theorem dX1_wetOfSegment_19 : decode cX1_wetOfSegment 19 = .ok (.iload_n 0, 1) := by decide +kernel
theorem dX1_wetOfSegment_20 : decode cX1_wetOfSegment 20 = .ok (.imul, 1) := by decide +kernel
theorem dX1_wetOfSegment_21 : decode cX1_wetOfSegment 21 = .ok (.iconst 1, 1) := by decide +kernel
theorem dX1_wetOfSegment_22 : decode cX1_wetOfSegment 22 = .ok (.isub, 1) := by decide +kernel
theorem dX1_wetOfSegment_23 : decode cX1_wetOfSegment 23 = .ok (.iload_n 1, 1) := by decide +kernel
theorem dX1_wetOfSegment_24 : decode cX1_wetOfSegment 24 = .ok (.invokestatic 39, 3) := by decide +kernel
theorem dX1_wetOfSegment_27 : decode cX1_wetOfSegment 27 = .ok (.iconst 1, 1) := by decide +kernel
theorem dX1_wetOfSegment_28 : decode cX1_wetOfSegment 28 = .ok (.iadd, 1) := by decide +kernel
theorem dX1_wetOfSegment_29 : decode cX1_wetOfSegment 29 = .ok (.iload_n 0, 1) := by decide +kernel
theorem dX1_wetOfSegment_30 : decode cX1_wetOfSegment 30 = .ok (.invokestatic 52, 3) := by decide +kernel
theorem dX1_wetOfSegment_33 : decode cX1_wetOfSegment 33 = .ok (.ireturn, 1) := by decide +kernel
theorem dX1_wetOfSegment_34 : decode cX1_wetOfSegment 34 = .ok (.iload_n 0, 1) := by decide +kernel
theorem dX1_wetOfSegment_35 : decode cX1_wetOfSegment 35 = .ok (.iload_n 2, 1) := by decide +kernel
theorem dX1_wetOfSegment_36 : decode cX1_wetOfSegment 36 = .ok (.ineg, 1) := by decide +kernel
theorem dX1_wetOfSegment_37 : decode cX1_wetOfSegment 37 = .ok (.iload_n 0, 1) := by decide +kernel
theorem dX1_wetOfSegment_38 : decode cX1_wetOfSegment 38 = .ok (.imul, 1) := by decide +kernel
theorem dX1_wetOfSegment_39 : decode cX1_wetOfSegment 39 = .ok (.iload_n 1, 1) := by decide +kernel
theorem dX1_wetOfSegment_40 : decode cX1_wetOfSegment 40 = .ok (.ineg, 1) := by decide +kernel
theorem dX1_wetOfSegment_41 : decode cX1_wetOfSegment 41 = .ok (.invokestatic 39, 3) := by decide +kernel
theorem dX1_wetOfSegment_44 : decode cX1_wetOfSegment 44 = .ok (.iconst 1, 1) := by decide +kernel
theorem dX1_wetOfSegment_45 : decode cX1_wetOfSegment 45 = .ok (.iadd, 1) := by decide +kernel
theorem dX1_wetOfSegment_46 : decode cX1_wetOfSegment 46 = .ok (.iload_n 0, 1) := by decide +kernel
theorem dX1_wetOfSegment_47 : decode cX1_wetOfSegment 47 = .ok (.invokestatic 52, 3) := by decide +kernel
theorem dX1_wetOfSegment_50 : decode cX1_wetOfSegment 50 = .ok (.isub, 1) := by decide +kernel
theorem dX1_wetOfSegment_51 : decode cX1_wetOfSegment 51 = .ok (.ireturn, 1) := by decide +kernel
theorem dX1_clamp_0 : decode cX1_clamp 0 = .ok (.iconst 0, 1) := by decide +kernel
theorem dX1_clamp_1 : decode cX1_clamp 1 = .ok (.iload_n 0, 1) := by decide +kernel
theorem dX1_clamp_2 : decode cX1_clamp 2 = .ok (.iload_n 1, 1) := by decide +kernel
theorem dX1_clamp_3 : decode cX1_clamp 3 = .ok (.invokestatic 55, 3) := by decide +kernel
theorem dX1_clamp_6 : decode cX1_clamp 6 = .ok (.invokestatic 58, 3) := by decide +kernel
theorem dX1_clamp_9 : decode cX1_clamp 9 = .ok (.ireturn, 1) := by decide +kernel
theorem dX2_init_0 : decode cX2_init 0 = .ok (.aload_n 0, 1) := by decide +kernel
theorem dX2_init_1 : decode cX2_init 1 = .ok (.invokespecial 3, 3) := by decide +kernel
theorem dX2_init_4 : decode cX2_init 4 = .ok (.aload_n 0, 1) := by decide +kernel
theorem dX2_init_5 : decode cX2_init 5 = .ok (.aload_n 1, 1) := by decide +kernel
theorem dX2_init_6 : decode cX2_init 6 = .ok (.putfield 9, 3) := by decide +kernel
theorem dX2_init_9 : decode cX2_init 9 = .ok (.aload_n 0, 1) := by decide +kernel
theorem dX2_init_10 : decode cX2_init 10 = .ok (.aload_n 2, 1) := by decide +kernel
theorem dX2_init_11 : decode cX2_init 11 = .ok (.putfield 15, 3) := by decide +kernel
theorem dX2_init_14 : decode cX2_init 14 = .ok (.aload_n 0, 1) := by decide +kernel
theorem dX2_init_15 : decode cX2_init 15 = .ok (.aload_n 3, 1) := by decide +kernel
theorem dX2_init_16 : decode cX2_init 16 = .ok (.putfield 19, 3) := by decide +kernel
theorem dX2_init_19 : decode cX2_init 19 = .ok (.aload_n 0, 1) := by decide +kernel
theorem dX2_init_20 : decode cX2_init 20 = .ok (.aload 4, 2) := by decide +kernel
theorem dX2_init_22 : decode cX2_init 22 = .ok (.putfield 23, 3) := by decide +kernel
theorem dX2_init_25 : decode cX2_init 25 = .ok (.return_, 1) := by decide +kernel
theorem dX2_troubleWith_0 : decode cX2_troubleWith 0 = .ok (.getstatic 27, 3) := by decide +kernel
theorem dX2_troubleWith_3 : decode cX2_troubleWith 3 = .ok (.aload_n 1, 1) := by decide +kernel
theorem dX2_troubleWith_4 : decode cX2_troubleWith 4 = .ok (.invokevirtual 33, 3) := by decide +kernel
theorem dX2_troubleWith_7 : decode cX2_troubleWith 7 = .ok (.iaload, 1) := by decide +kernel
theorem dX2_troubleWith_8 : decode cX2_troubleWith 8 = .ok (.tableswitch 164 1 11 #[60, 81, 88, 94, 105, 112, 119, 126, 132, 138, 147], 60) := by decide +kernel
theorem dX2_troubleWith_68 : decode cX2_troubleWith 68 = .ok (.aload_n 0, 1) := by decide +kernel
theorem dX2_troubleWith_69 : decode cX2_troubleWith 69 = .ok (.getfield 9, 3) := by decide +kernel
theorem dX2_troubleWith_72 : decode cX2_troubleWith 72 = .ok (.getfield 39, 3) := by decide +kernel
theorem dX2_troubleWith_75 : decode cX2_troubleWith 75 = .ok (.bipush 10, 2) := by decide +kernel
theorem dX2_troubleWith_77 : decode cX2_troubleWith 77 = .ok (.if_icmp .ge 7, 3) := by decide +kernel
theorem dX2_troubleWith_80 : decode cX2_troubleWith 80 = .ok (.iconst 1, 1) := by decide +kernel
theorem dX2_troubleWith_81 : decode cX2_troubleWith 81 = .ok (.goto 4, 3) := by decide +kernel
theorem dX2_troubleWith_84 : decode cX2_troubleWith 84 = .ok (.iconst 0, 1) := by decide +kernel
theorem dX2_troubleWith_85 : decode cX2_troubleWith 85 = .ok (.invokestatic 45, 3) := by decide +kernel
theorem dX2_troubleWith_88 : decode cX2_troubleWith 88 = .ok (.areturn, 1) := by decide +kernel
theorem dX2_troubleWith_89 : decode cX2_troubleWith 89 = .ok (.aload_n 0, 1) := by decide +kernel
theorem dX2_troubleWith_90 : decode cX2_troubleWith 90 = .ok (.iload_n 2, 1) := by decide +kernel
theorem dX2_troubleWith_91 : decode cX2_troubleWith 91 = .ok (.iload_n 3, 1) := by decide +kernel
theorem dX2_troubleWith_92 : decode cX2_troubleWith 92 = .ok (.invokevirtual 49, 3) := by decide +kernel
theorem dX2_troubleWith_95 : decode cX2_troubleWith 95 = .ok (.areturn, 1) := by decide +kernel
theorem dX2_troubleWith_96 : decode cX2_troubleWith 96 = .ok (.aload_n 0, 1) := by decide +kernel
theorem dX2_troubleWith_97 : decode cX2_troubleWith 97 = .ok (.iload_n 2, 1) := by decide +kernel
theorem dX2_troubleWith_98 : decode cX2_troubleWith 98 = .ok (.invokevirtual 53, 3) := by decide +kernel
theorem dX2_troubleWith_101 : decode cX2_troubleWith 101 = .ok (.areturn, 1) := by decide +kernel
theorem dX2_troubleWith_102 : decode cX2_troubleWith 102 = .ok (.aload_n 0, 1) := by decide +kernel
theorem dX2_troubleWith_103 : decode cX2_troubleWith 103 = .ok (.iload_n 2, 1) := by decide +kernel
theorem dX2_troubleWith_104 : decode cX2_troubleWith 104 = .ok (.iload_n 3, 1) := by decide +kernel
theorem dX2_troubleWith_105 : decode cX2_troubleWith 105 = .ok (.iload 4, 2) := by decide +kernel
theorem dX2_troubleWith_107 : decode cX2_troubleWith 107 = .ok (.iload 5, 2) := by decide +kernel
theorem dX2_troubleWith_109 : decode cX2_troubleWith 109 = .ok (.invokevirtual 57, 3) := by decide +kernel
theorem dX2_troubleWith_112 : decode cX2_troubleWith 112 = .ok (.areturn, 1) := by decide +kernel
theorem dX2_troubleWith_113 : decode cX2_troubleWith 113 = .ok (.aload_n 0, 1) := by decide +kernel
theorem dX2_troubleWith_114 : decode cX2_troubleWith 114 = .ok (.iload_n 2, 1) := by decide +kernel
theorem dX2_troubleWith_115 : decode cX2_troubleWith 115 = .ok (.iload_n 3, 1) := by decide +kernel
theorem dX2_troubleWith_116 : decode cX2_troubleWith 116 = .ok (.invokevirtual 61, 3) := by decide +kernel
theorem dX2_troubleWith_119 : decode cX2_troubleWith 119 = .ok (.areturn, 1) := by decide +kernel
theorem dX2_troubleWith_120 : decode cX2_troubleWith 120 = .ok (.aload_n 0, 1) := by decide +kernel
theorem dX2_troubleWith_121 : decode cX2_troubleWith 121 = .ok (.iload_n 2, 1) := by decide +kernel
theorem dX2_troubleWith_122 : decode cX2_troubleWith 122 = .ok (.iconst 1, 1) := by decide +kernel
theorem dX2_troubleWith_123 : decode cX2_troubleWith 123 = .ok (.invokevirtual 64, 3) := by decide +kernel
theorem dX2_troubleWith_126 : decode cX2_troubleWith 126 = .ok (.areturn, 1) := by decide +kernel
theorem dX2_troubleWith_127 : decode cX2_troubleWith 127 = .ok (.aload_n 0, 1) := by decide +kernel
theorem dX2_troubleWith_128 : decode cX2_troubleWith 128 = .ok (.iload_n 2, 1) := by decide +kernel
theorem dX2_troubleWith_129 : decode cX2_troubleWith 129 = .ok (.iconst 0, 1) := by decide +kernel
theorem dX2_troubleWith_130 : decode cX2_troubleWith 130 = .ok (.invokevirtual 64, 3) := by decide +kernel
theorem dX2_troubleWith_133 : decode cX2_troubleWith 133 = .ok (.areturn, 1) := by decide +kernel
theorem dX2_troubleWith_134 : decode cX2_troubleWith 134 = .ok (.aload_n 0, 1) := by decide +kernel
theorem dX2_troubleWith_135 : decode cX2_troubleWith 135 = .ok (.iload_n 2, 1) := by decide +kernel
theorem dX2_troubleWith_136 : decode cX2_troubleWith 136 = .ok (.invokevirtual 68, 3) := by decide +kernel
theorem dX2_troubleWith_139 : decode cX2_troubleWith 139 = .ok (.areturn, 1) := by decide +kernel
theorem dX2_troubleWith_140 : decode cX2_troubleWith 140 = .ok (.aload_n 0, 1) := by decide +kernel
theorem dX2_troubleWith_141 : decode cX2_troubleWith 141 = .ok (.iload_n 2, 1) := by decide +kernel
theorem dX2_troubleWith_142 : decode cX2_troubleWith 142 = .ok (.invokevirtual 71, 3) := by decide +kernel
theorem dX2_troubleWith_145 : decode cX2_troubleWith 145 = .ok (.areturn, 1) := by decide +kernel
theorem dX2_troubleWith_146 : decode cX2_troubleWith 146 = .ok (.aload_n 0, 1) := by decide +kernel
theorem dX2_troubleWith_147 : decode cX2_troubleWith 147 = .ok (.iload_n 2, 1) := by decide +kernel
theorem dX2_troubleWith_148 : decode cX2_troubleWith 148 = .ok (.iload_n 3, 1) := by decide +kernel
theorem dX2_troubleWith_149 : decode cX2_troubleWith 149 = .ok (.iload 4, 2) := by decide +kernel
theorem dX2_troubleWith_151 : decode cX2_troubleWith 151 = .ok (.invokevirtual 74, 3) := by decide +kernel
theorem dX2_troubleWith_154 : decode cX2_troubleWith 154 = .ok (.areturn, 1) := by decide +kernel
theorem dX2_troubleWith_155 : decode cX2_troubleWith 155 = .ok (.iload_n 2, 1) := by decide +kernel
theorem dX2_troubleWith_156 : decode cX2_troubleWith 156 = .ok (.invokestatic 78, 3) := by decide +kernel
theorem dX2_troubleWith_159 : decode cX2_troubleWith 159 = .ok (.ifCond .eq 9, 3) := by decide +kernel
theorem dX2_troubleWith_162 : decode cX2_troubleWith 162 = .ok (.getstatic 82, 3) := by decide +kernel
theorem dX2_troubleWith_165 : decode cX2_troubleWith 165 = .ok (.goto 6, 3) := by decide +kernel
theorem dX2_troubleWith_168 : decode cX2_troubleWith 168 = .ok (.getstatic 88, 3) := by decide +kernel
theorem dX2_troubleWith_171 : decode cX2_troubleWith 171 = .ok (.areturn, 1) := by decide +kernel
theorem dX2_troubleWith_172 : decode cX2_troubleWith 172 = .ok (.getstatic 82, 3) := by decide +kernel
theorem dX2_troubleWith_175 : decode cX2_troubleWith 175 = .ok (.areturn, 1) := by decide +kernel
theorem dX2_stateTroubleUnless_0 : decode cX2_stateTroubleUnless 0 = .ok (.iload_n 0, 1) := by decide +kernel
theorem dX2_stateTroubleUnless_1 : decode cX2_stateTroubleUnless 1 = .ok (.ifCond .eq 9, 3) := by decide +kernel
theorem dX2_stateTroubleUnless_4 : decode cX2_stateTroubleUnless 4 = .ok (.getstatic 82, 3) := by decide +kernel
theorem dX2_stateTroubleUnless_7 : decode cX2_stateTroubleUnless 7 = .ok (.goto 6, 3) := by decide +kernel
theorem dX2_stateTroubleUnless_10 : decode cX2_stateTroubleUnless 10 = .ok (.getstatic 91, 3) := by decide +kernel
theorem dX2_stateTroubleUnless_13 : decode cX2_stateTroubleUnless 13 = .ok (.areturn, 1) := by decide +kernel
theorem dX2_isHeight_0 : decode cX2_isHeight 0 = .ok (.iload_n 0, 1) := by decide +kernel
theorem dX2_isHeight_1 : decode cX2_isHeight 1 = .ok (.ldc 94, 2) := by decide +kernel
theorem dX2_isHeight_3 : decode cX2_isHeight 3 = .ok (.ldc 95, 2) := by decide +kernel
theorem dX2_isHeight_5 : decode cX2_isHeight 5 = .ok (.invokestatic 96, 3) := by decide +kernel
theorem dX2_isHeight_8 : decode cX2_isHeight 8 = .ok (.ireturn, 1) := by decide +kernel
theorem dX2_isRun_0 : decode cX2_isRun 0 = .ok (.iload_n 0, 1) := by decide +kernel
theorem dX2_isRun_1 : decode cX2_isRun 1 = .ok (.sipush (-9999), 3) := by decide +kernel
theorem dX2_isRun_4 : decode cX2_isRun 4 = .ok (.sipush 9999, 3) := by decide +kernel
theorem dX2_isRun_7 : decode cX2_isRun 7 = .ok (.invokestatic 96, 3) := by decide +kernel
theorem dX2_isRun_10 : decode cX2_isRun 10 = .ok (.ireturn, 1) := by decide +kernel
theorem dX2_troubleWithFixing_0 : decode cX2_troubleWithFixing 0 = .ok (.aload_n 0, 1) := by decide +kernel
theorem dX2_troubleWithFixing_1 : decode cX2_troubleWithFixing 1 = .ok (.getfield 9, 3) := by decide +kernel
theorem dX2_troubleWithFixing_4 : decode cX2_troubleWithFixing 4 = .ok (.iload_n 1, 1) := by decide +kernel
theorem dX2_troubleWithFixing_5 : decode cX2_troubleWithFixing 5 = .ok (.invokevirtual 100, 3) := by decide +kernel
theorem dX2_troubleWithFixing_8 : decode cX2_troubleWithFixing 8 = .ok (.ifCond .ne 7, 3) := by decide +kernel
theorem dX2_troubleWithFixing_11 : decode cX2_troubleWithFixing 11 = .ok (.getstatic 103, 3) := by decide +kernel
theorem dX2_troubleWithFixing_14 : decode cX2_troubleWithFixing 14 = .ok (.areturn, 1) := by decide +kernel
theorem dX2_troubleWithFixing_15 : decode cX2_troubleWithFixing 15 = .ok (.iload_n 2, 1) := by decide +kernel
theorem dX2_troubleWithFixing_16 : decode cX2_troubleWithFixing 16 = .ok (.invokestatic 78, 3) := by decide +kernel
theorem dX2_troubleWithFixing_19 : decode cX2_troubleWithFixing 19 = .ok (.ifCond .eq 9, 3) := by decide +kernel
theorem dX2_troubleWithFixing_22 : decode cX2_troubleWithFixing 22 = .ok (.getstatic 82, 3) := by decide +kernel
theorem dX2_troubleWithFixing_25 : decode cX2_troubleWithFixing 25 = .ok (.goto 6, 3) := by decide +kernel
theorem dX2_troubleWithFixing_28 : decode cX2_troubleWithFixing 28 = .ok (.getstatic 88, 3) := by decide +kernel
theorem dX2_troubleWithFixing_31 : decode cX2_troubleWithFixing 31 = .ok (.areturn, 1) := by decide +kernel
theorem dX2_troubleWithFreeing_0 : decode cX2_troubleWithFreeing 0 = .ok (.aload_n 0, 1) := by decide +kernel
theorem dX2_troubleWithFreeing_1 : decode cX2_troubleWithFreeing 1 = .ok (.getfield 9, 3) := by decide +kernel
theorem dX2_troubleWithFreeing_4 : decode cX2_troubleWithFreeing 4 = .ok (.iload_n 1, 1) := by decide +kernel
theorem dX2_troubleWithFreeing_5 : decode cX2_troubleWithFreeing 5 = .ok (.invokevirtual 100, 3) := by decide +kernel
theorem dX2_troubleWithFreeing_8 : decode cX2_troubleWithFreeing 8 = .ok (.ifCond .ne 7, 3) := by decide +kernel
theorem dX2_troubleWithFreeing_11 : decode cX2_troubleWithFreeing 11 = .ok (.getstatic 103, 3) := by decide +kernel
theorem dX2_troubleWithFreeing_14 : decode cX2_troubleWithFreeing 14 = .ok (.areturn, 1) := by decide +kernel
theorem dX2_troubleWithFreeing_15 : decode cX2_troubleWithFreeing 15 = .ok (.aload_n 0, 1) := by decide +kernel
theorem dX2_troubleWithFreeing_16 : decode cX2_troubleWithFreeing 16 = .ok (.getfield 9, 3) := by decide +kernel
theorem dX2_troubleWithFreeing_19 : decode cX2_troubleWithFreeing 19 = .ok (.getfield 106, 3) := by decide +kernel
theorem dX2_troubleWithFreeing_22 : decode cX2_troubleWithFreeing 22 = .ok (.iload_n 1, 1) := by decide +kernel
theorem dX2_troubleWithFreeing_23 : decode cX2_troubleWithFreeing 23 = .ok (.baload, 1) := by decide +kernel
theorem dX2_troubleWithFreeing_24 : decode cX2_troubleWithFreeing 24 = .ok (.invokestatic 45, 3) := by decide +kernel
theorem dX2_troubleWithFreeing_27 : decode cX2_troubleWithFreeing 27 = .ok (.areturn, 1) := by decide +kernel
theorem dX2_troubleWithLine_0 : decode cX2_troubleWithLine 0 = .ok (.aload_n 0, 1) := by decide +kernel
theorem dX2_troubleWithLine_1 : decode cX2_troubleWithLine 1 = .ok (.getfield 9, 3) := by decide +kernel
theorem dX2_troubleWithLine_4 : decode cX2_troubleWithLine 4 = .ok (.iload_n 1, 1) := by decide +kernel
theorem dX2_troubleWithLine_5 : decode cX2_troubleWithLine 5 = .ok (.invokevirtual 100, 3) := by decide +kernel
theorem dX2_troubleWithLine_8 : decode cX2_troubleWithLine 8 = .ok (.ifCond .eq 14, 3) := by decide +kernel
theorem dX2_troubleWithLine_11 : decode cX2_troubleWithLine 11 = .ok (.aload_n 0, 1) := by decide +kernel
theorem dX2_troubleWithLine_12 : decode cX2_troubleWithLine 12 = .ok (.getfield 9, 3) := by decide +kernel
theorem dX2_troubleWithLine_15 : decode cX2_troubleWithLine 15 = .ok (.iload_n 2, 1) := by decide +kernel
theorem dX2_troubleWithLine_16 : decode cX2_troubleWithLine 16 = .ok (.invokevirtual 100, 3) := by decide +kernel
theorem dX2_troubleWithLine_19 : decode cX2_troubleWithLine 19 = .ok (.ifCond .ne 7, 3) := by decide +kernel
theorem dX2_troubleWithLine_22 : decode cX2_troubleWithLine 22 = .ok (.getstatic 103, 3) := by decide +kernel
theorem dX2_troubleWithLine_25 : decode cX2_troubleWithLine 25 = .ok (.areturn, 1) := by decide +kernel
theorem dX2_troubleWithLine_26 : decode cX2_troubleWithLine 26 = .ok (.iload_n 1, 1) := by decide +kernel
theorem dX2_troubleWithLine_27 : decode cX2_troubleWithLine 27 = .ok (.iload_n 2, 1) := by decide +kernel
theorem dX2_troubleWithLine_28 : decode cX2_troubleWithLine 28 = .ok (.if_icmp .eq 21, 3) := by decide +kernel
theorem dX2_troubleWithLine_31 : decode cX2_troubleWithLine 31 = .ok (.iload_n 3, 1) := by decide +kernel
theorem dX2_troubleWithLine_32 : decode cX2_troubleWithLine 32 = .ok (.invokestatic 110, 3) := by decide +kernel
theorem dX2_troubleWithLine_35 : decode cX2_troubleWithLine 35 = .ok (.ifCond .eq 14, 3) := by decide +kernel
theorem dX2_troubleWithLine_38 : decode cX2_troubleWithLine 38 = .ok (.iload 4, 2) := by decide +kernel
theorem dX2_troubleWithLine_40 : decode cX2_troubleWithLine 40 = .ok (.iconst 1, 1) := by decide +kernel
theorem dX2_troubleWithLine_41 : decode cX2_troubleWithLine 41 = .ok (.bipush 50, 2) := by decide +kernel
theorem dX2_troubleWithLine_43 : decode cX2_troubleWithLine 43 = .ok (.invokestatic 96, 3) := by decide +kernel
theorem dX2_troubleWithLine_46 : decode cX2_troubleWithLine 46 = .ok (.ifCond .ne 7, 3) := by decide +kernel
theorem dX2_troubleWithLine_49 : decode cX2_troubleWithLine 49 = .ok (.getstatic 88, 3) := by decide +kernel
theorem dX2_troubleWithLine_52 : decode cX2_troubleWithLine 52 = .ok (.areturn, 1) := by decide +kernel
theorem dX2_troubleWithLine_53 : decode cX2_troubleWithLine 53 = .ok (.aload_n 0, 1) := by decide +kernel
theorem dX2_troubleWithLine_54 : decode cX2_troubleWithLine 54 = .ok (.getfield 9, 3) := by decide +kernel
theorem dX2_troubleWithLine_57 : decode cX2_troubleWithLine 57 = .ok (.getfield 113, 3) := by decide +kernel
theorem dX2_troubleWithLine_60 : decode cX2_troubleWithLine 60 = .ok (.bipush 16, 2) := by decide +kernel
theorem dX2_troubleWithLine_62 : decode cX2_troubleWithLine 62 = .ok (.if_icmp .ge 7, 3) := by decide +kernel
theorem dX2_troubleWithLine_65 : decode cX2_troubleWithLine 65 = .ok (.iconst 1, 1) := by decide +kernel
theorem dX2_troubleWithLine_66 : decode cX2_troubleWithLine 66 = .ok (.goto 4, 3) := by decide +kernel
theorem dX2_troubleWithLine_69 : decode cX2_troubleWithLine 69 = .ok (.iconst 0, 1) := by decide +kernel
theorem dX2_troubleWithLine_70 : decode cX2_troubleWithLine 70 = .ok (.invokestatic 45, 3) := by decide +kernel
theorem dX2_troubleWithLine_73 : decode cX2_troubleWithLine 73 = .ok (.areturn, 1) := by decide +kernel
theorem dX2_troubleWithBackwardRun_0 : decode cX2_troubleWithBackwardRun 0 = .ok (.aload_n 0, 1) := by decide +kernel
theorem dX2_troubleWithBackwardRun_1 : decode cX2_troubleWithBackwardRun 1 = .ok (.getfield 9, 3) := by decide +kernel
theorem dX2_troubleWithBackwardRun_4 : decode cX2_troubleWithBackwardRun 4 = .ok (.iload_n 1, 1) := by decide +kernel
theorem dX2_troubleWithBackwardRun_5 : decode cX2_troubleWithBackwardRun 5 = .ok (.invokevirtual 116, 3) := by decide +kernel
theorem dX2_troubleWithBackwardRun_8 : decode cX2_troubleWithBackwardRun 8 = .ok (.ifCond .ne 7, 3) := by decide +kernel
theorem dX2_troubleWithBackwardRun_11 : decode cX2_troubleWithBackwardRun 11 = .ok (.getstatic 103, 3) := by decide +kernel
theorem dX2_troubleWithBackwardRun_14 : decode cX2_troubleWithBackwardRun 14 = .ok (.areturn, 1) := by decide +kernel
theorem dX2_troubleWithBackwardRun_15 : decode cX2_troubleWithBackwardRun 15 = .ok (.iload_n 2, 1) := by decide +kernel
theorem dX2_troubleWithBackwardRun_16 : decode cX2_troubleWithBackwardRun 16 = .ok (.invokestatic 110, 3) := by decide +kernel
theorem dX2_troubleWithBackwardRun_19 : decode cX2_troubleWithBackwardRun 19 = .ok (.ifCond .ne 7, 3) := by decide +kernel
theorem dX2_troubleWithBackwardRun_22 : decode cX2_troubleWithBackwardRun 22 = .ok (.getstatic 88, 3) := by decide +kernel
theorem dX2_troubleWithBackwardRun_25 : decode cX2_troubleWithBackwardRun 25 = .ok (.areturn, 1) := by decide +kernel
theorem dX2_troubleWithBackwardRun_26 : decode cX2_troubleWithBackwardRun 26 = .ok (.aload_n 0, 1) := by decide +kernel
theorem dX2_troubleWithBackwardRun_27 : decode cX2_troubleWithBackwardRun 27 = .ok (.getfield 9, 3) := by decide +kernel
theorem dX2_troubleWithBackwardRun_30 : decode cX2_troubleWithBackwardRun 30 = .ok (.getfield 119, 3) := by decide +kernel
theorem dX2_troubleWithBackwardRun_33 : decode cX2_troubleWithBackwardRun 33 = .ok (.iload_n 1, 1) := by decide +kernel
theorem dX2_troubleWithBackwardRun_34 : decode cX2_troubleWithBackwardRun 34 = .ok (.baload, 1) := by decide +kernel
theorem dX2_troubleWithBackwardRun_35 : decode cX2_troubleWithBackwardRun 35 = .ok (.ifCond .ne 7, 3) := by decide +kernel
theorem dX2_troubleWithBackwardRun_38 : decode cX2_troubleWithBackwardRun 38 = .ok (.iconst 1, 1) := by decide +kernel
theorem dX2_troubleWithBackwardRun_39 : decode cX2_troubleWithBackwardRun 39 = .ok (.goto 4, 3) := by decide +kernel
theorem dX2_troubleWithBackwardRun_42 : decode cX2_troubleWithBackwardRun 42 = .ok (.iconst 0, 1) := by decide +kernel
theorem dX2_troubleWithBackwardRun_43 : decode cX2_troubleWithBackwardRun 43 = .ok (.invokestatic 45, 3) := by decide +kernel
theorem dX2_troubleWithBackwardRun_46 : decode cX2_troubleWithBackwardRun 46 = .ok (.areturn, 1) := by decide +kernel
theorem dX2_troubleWithExclusion_0 : decode cX2_troubleWithExclusion 0 = .ok (.aload_n 0, 1) := by decide +kernel
theorem dX2_troubleWithExclusion_1 : decode cX2_troubleWithExclusion 1 = .ok (.getfield 9, 3) := by decide +kernel
theorem dX2_troubleWithExclusion_4 : decode cX2_troubleWithExclusion 4 = .ok (.iload_n 1, 1) := by decide +kernel
theorem dX2_troubleWithExclusion_5 : decode cX2_troubleWithExclusion 5 = .ok (.invokevirtual 116, 3) := by decide +kernel
theorem dX2_troubleWithExclusion_8 : decode cX2_troubleWithExclusion 8 = .ok (.ifCond .ne 7, 3) := by decide +kernel
theorem dX2_troubleWithExclusion_11 : decode cX2_troubleWithExclusion 11 = .ok (.getstatic 103, 3) := by decide +kernel
theorem dX2_troubleWithExclusion_14 : decode cX2_troubleWithExclusion 14 = .ok (.areturn, 1) := by decide +kernel
theorem dX2_troubleWithExclusion_15 : decode cX2_troubleWithExclusion 15 = .ok (.aload_n 0, 1) := by decide +kernel
theorem dX2_troubleWithExclusion_16 : decode cX2_troubleWithExclusion 16 = .ok (.getfield 9, 3) := by decide +kernel
theorem dX2_troubleWithExclusion_19 : decode cX2_troubleWithExclusion 19 = .ok (.getfield 122, 3) := by decide +kernel
theorem dX2_troubleWithExclusion_22 : decode cX2_troubleWithExclusion 22 = .ok (.iload_n 1, 1) := by decide +kernel
theorem dX2_troubleWithExclusion_23 : decode cX2_troubleWithExclusion 23 = .ok (.baload, 1) := by decide +kernel
theorem dX2_troubleWithExclusion_24 : decode cX2_troubleWithExclusion 24 = .ok (.iload_n 2, 1) := by decide +kernel
theorem dX2_troubleWithExclusion_25 : decode cX2_troubleWithExclusion 25 = .ok (.if_icmp .eq 7, 3) := by decide +kernel
theorem dX2_troubleWithExclusion_28 : decode cX2_troubleWithExclusion 28 = .ok (.iconst 1, 1) := by decide +kernel
theorem dX2_troubleWithExclusion_29 : decode cX2_troubleWithExclusion 29 = .ok (.goto 4, 3) := by decide +kernel
theorem dX2_troubleWithExclusion_32 : decode cX2_troubleWithExclusion 32 = .ok (.iconst 0, 1) := by decide +kernel
theorem dX2_troubleWithExclusion_33 : decode cX2_troubleWithExclusion 33 = .ok (.invokestatic 45, 3) := by decide +kernel
theorem dX2_troubleWithExclusion_36 : decode cX2_troubleWithExclusion 36 = .ok (.areturn, 1) := by decide +kernel
theorem dX2_troubleWithSharing_0 : decode cX2_troubleWithSharing 0 = .ok (.aload_n 0, 1) := by decide +kernel
theorem dX2_troubleWithSharing_1 : decode cX2_troubleWithSharing 1 = .ok (.getfield 9, 3) := by decide +kernel
theorem dX2_troubleWithSharing_4 : decode cX2_troubleWithSharing 4 = .ok (.iload_n 1, 1) := by decide +kernel
theorem dX2_troubleWithSharing_5 : decode cX2_troubleWithSharing 5 = .ok (.invokevirtual 116, 3) := by decide +kernel
theorem dX2_troubleWithSharing_8 : decode cX2_troubleWithSharing 8 = .ok (.ifCond .ne 7, 3) := by decide +kernel
theorem dX2_troubleWithSharing_11 : decode cX2_troubleWithSharing 11 = .ok (.getstatic 103, 3) := by decide +kernel
theorem dX2_troubleWithSharing_14 : decode cX2_troubleWithSharing 14 = .ok (.areturn, 1) := by decide +kernel
theorem dX2_troubleWithSharing_15 : decode cX2_troubleWithSharing 15 = .ok (.aload_n 0, 1) := by decide +kernel
theorem dX2_troubleWithSharing_16 : decode cX2_troubleWithSharing 16 = .ok (.getfield 15, 3) := by decide +kernel
theorem dX2_troubleWithSharing_19 : decode cX2_troubleWithSharing 19 = .ok (.invokevirtual 125, 3) := by decide +kernel
theorem dX2_troubleWithSharing_22 : decode cX2_troubleWithSharing 22 = .ok (.aload_n 0, 1) := by decide +kernel
theorem dX2_troubleWithSharing_23 : decode cX2_troubleWithSharing 23 = .ok (.getfield 15, 3) := by decide +kernel
theorem dX2_troubleWithSharing_26 : decode cX2_troubleWithSharing 26 = .ok (.iload_n 1, 1) := by decide +kernel
theorem dX2_troubleWithSharing_27 : decode cX2_troubleWithSharing 27 = .ok (.invokevirtual 130, 3) := by decide +kernel
theorem dX2_troubleWithSharing_30 : decode cX2_troubleWithSharing 30 = .ok (.ifCond .ne 7, 3) := by decide +kernel
theorem dX2_troubleWithSharing_33 : decode cX2_troubleWithSharing 33 = .ok (.getstatic 133, 3) := by decide +kernel
theorem dX2_troubleWithSharing_36 : decode cX2_troubleWithSharing 36 = .ok (.areturn, 1) := by decide +kernel
theorem dX2_troubleWithSharing_37 : decode cX2_troubleWithSharing 37 = .ok (.aload_n 0, 1) := by decide +kernel
theorem dX2_troubleWithSharing_38 : decode cX2_troubleWithSharing 38 = .ok (.getfield 19, 3) := by decide +kernel
theorem dX2_troubleWithSharing_41 : decode cX2_troubleWithSharing 41 = .ok (.iload_n 1, 1) := by decide +kernel
theorem dX2_troubleWithSharing_42 : decode cX2_troubleWithSharing 42 = .ok (.invokevirtual 136, 3) := by decide +kernel
theorem dX2_troubleWithSharing_45 : decode cX2_troubleWithSharing 45 = .ok (.aload_n 0, 1) := by decide +kernel
theorem dX2_troubleWithSharing_46 : decode cX2_troubleWithSharing 46 = .ok (.getfield 19, 3) := by decide +kernel
theorem dX2_troubleWithSharing_49 : decode cX2_troubleWithSharing 49 = .ok (.invokevirtual 142, 3) := by decide +kernel
theorem dX2_troubleWithSharing_52 : decode cX2_troubleWithSharing 52 = .ok (.invokestatic 145, 3) := by decide +kernel
theorem dX2_troubleWithSharing_55 : decode cX2_troubleWithSharing 55 = .ok (.aload_n 0, 1) := by decide +kernel
theorem dX2_troubleWithSharing_56 : decode cX2_troubleWithSharing 56 = .ok (.getfield 19, 3) := by decide +kernel
theorem dX2_troubleWithSharing_59 : decode cX2_troubleWithSharing 59 = .ok (.invokevirtual 151, 3) := by decide +kernel
theorem dX2_troubleWithSharing_62 : decode cX2_troubleWithSharing 62 = .ok (.invokestatic 154, 3) := by decide +kernel
theorem dX2_troubleWithSharing_65 : decode cX2_troubleWithSharing 65 = .ok (.if_icmp .gt 7, 3) := by decide +kernel
theorem dX2_troubleWithSharing_68 : decode cX2_troubleWithSharing 68 = .ok (.iconst 1, 1) := by decide +kernel
theorem dX2_troubleWithSharing_69 : decode cX2_troubleWithSharing 69 = .ok (.goto 4, 3) := by decide +kernel
theorem dX2_troubleWithSharing_72 : decode cX2_troubleWithSharing 72 = .ok (.iconst 0, 1) := by decide +kernel
theorem dX2_troubleWithSharing_73 : decode cX2_troubleWithSharing 73 = .ok (.istore_n 2, 1) := by decide +kernel
theorem dX2_troubleWithSharing_74 : decode cX2_troubleWithSharing 74 = .ok (.iload_n 2, 1) := by decide +kernel
theorem dX2_troubleWithSharing_75 : decode cX2_troubleWithSharing 75 = .ok (.ifCond .eq 9, 3) := by decide +kernel
theorem dX2_troubleWithSharing_78 : decode cX2_troubleWithSharing 78 = .ok (.getstatic 82, 3) := by decide +kernel
theorem dX2_troubleWithSharing_81 : decode cX2_troubleWithSharing 81 = .ok (.goto 6, 3) := by decide +kernel
theorem dX2_troubleWithSharing_84 : decode cX2_troubleWithSharing 84 = .ok (.getstatic 157, 3) := by decide +kernel
theorem dX2_troubleWithSharing_87 : decode cX2_troubleWithSharing 87 = .ok (.areturn, 1) := by decide +kernel
theorem dX2_troubleWithProfile_0 : decode cX2_troubleWithProfile 0 = .ok (.aload_n 0, 1) := by decide +kernel
theorem dX2_troubleWithProfile_1 : decode cX2_troubleWithProfile 1 = .ok (.getfield 9, 3) := by decide +kernel
theorem dX2_troubleWithProfile_4 : decode cX2_troubleWithProfile 4 = .ok (.iload_n 1, 1) := by decide +kernel
theorem dX2_troubleWithProfile_5 : decode cX2_troubleWithProfile 5 = .ok (.invokevirtual 100, 3) := by decide +kernel
theorem dX2_troubleWithProfile_8 : decode cX2_troubleWithProfile 8 = .ok (.ifCond .ne 7, 3) := by decide +kernel
theorem dX2_troubleWithProfile_11 : decode cX2_troubleWithProfile 11 = .ok (.getstatic 103, 3) := by decide +kernel
theorem dX2_troubleWithProfile_14 : decode cX2_troubleWithProfile 14 = .ok (.areturn, 1) := by decide +kernel
theorem dX2_troubleWithProfile_15 : decode cX2_troubleWithProfile 15 = .ok (.aload_n 0, 1) := by decide +kernel
theorem dX2_troubleWithProfile_16 : decode cX2_troubleWithProfile 16 = .ok (.getfield 9, 3) := by decide +kernel
theorem dX2_troubleWithProfile_19 : decode cX2_troubleWithProfile 19 = .ok (.getfield 160, 3) := by decide +kernel
theorem dX2_troubleWithProfile_22 : decode cX2_troubleWithProfile 22 = .ok (.iconst 4, 1) := by decide +kernel
theorem dX2_troubleWithProfile_23 : decode cX2_troubleWithProfile 23 = .ok (.if_icmp .ge 7, 3) := by decide +kernel
theorem dX2_troubleWithProfile_26 : decode cX2_troubleWithProfile 26 = .ok (.iconst 1, 1) := by decide +kernel
theorem dX2_troubleWithProfile_27 : decode cX2_troubleWithProfile 27 = .ok (.goto 4, 3) := by decide +kernel
theorem dX2_troubleWithProfile_30 : decode cX2_troubleWithProfile 30 = .ok (.iconst 0, 1) := by decide +kernel
theorem dX2_troubleWithProfile_31 : decode cX2_troubleWithProfile 31 = .ok (.invokestatic 45, 3) := by decide +kernel
theorem dX2_troubleWithProfile_34 : decode cX2_troubleWithProfile 34 = .ok (.areturn, 1) := by decide +kernel
theorem dX2_troubleWithStation_0 : decode cX2_troubleWithStation 0 = .ok (.aload_n 0, 1) := by decide +kernel
theorem dX2_troubleWithStation_1 : decode cX2_troubleWithStation 1 = .ok (.getfield 9, 3) := by decide +kernel
theorem dX2_troubleWithStation_4 : decode cX2_troubleWithStation 4 = .ok (.iload_n 1, 1) := by decide +kernel
theorem dX2_troubleWithStation_5 : decode cX2_troubleWithStation 5 = .ok (.invokevirtual 163, 3) := by decide +kernel
theorem dX2_troubleWithStation_8 : decode cX2_troubleWithStation 8 = .ok (.ifCond .ne 7, 3) := by decide +kernel
theorem dX2_troubleWithStation_11 : decode cX2_troubleWithStation 11 = .ok (.getstatic 103, 3) := by decide +kernel
theorem dX2_troubleWithStation_14 : decode cX2_troubleWithStation 14 = .ok (.areturn, 1) := by decide +kernel
theorem dX2_troubleWithStation_15 : decode cX2_troubleWithStation 15 = .ok (.iload_n 2, 1) := by decide +kernel
theorem dX2_troubleWithStation_16 : decode cX2_troubleWithStation 16 = .ok (.iconst 0, 1) := by decide +kernel
theorem dX2_troubleWithStation_17 : decode cX2_troubleWithStation 17 = .ok (.bipush 99, 2) := by decide +kernel
theorem dX2_troubleWithStation_19 : decode cX2_troubleWithStation 19 = .ok (.invokestatic 96, 3) := by decide +kernel
theorem dX2_troubleWithStation_22 : decode cX2_troubleWithStation 22 = .ok (.ifCond .eq 16, 3) := by decide +kernel
theorem dX2_troubleWithStation_25 : decode cX2_troubleWithStation 25 = .ok (.iload_n 3, 1) := by decide +kernel
theorem dX2_troubleWithStation_26 : decode cX2_troubleWithStation 26 = .ok (.sipush (-999), 3) := by decide +kernel
theorem dX2_troubleWithStation_29 : decode cX2_troubleWithStation 29 = .ok (.sipush 999, 3) := by decide +kernel
theorem dX2_troubleWithStation_32 : decode cX2_troubleWithStation 32 = .ok (.invokestatic 96, 3) := by decide +kernel
theorem dX2_troubleWithStation_35 : decode cX2_troubleWithStation 35 = .ok (.ifCond .ne 7, 3) := by decide +kernel
theorem dX2_troubleWithStation_38 : decode cX2_troubleWithStation 38 = .ok (.getstatic 88, 3) := by decide +kernel
theorem dX2_troubleWithStation_41 : decode cX2_troubleWithStation 41 = .ok (.areturn, 1) := by decide +kernel
theorem dX2_troubleWithStation_42 : decode cX2_troubleWithStation 42 = .ok (.aload_n 0, 1) := by decide +kernel
theorem dX2_troubleWithStation_43 : decode cX2_troubleWithStation 43 = .ok (.getfield 9, 3) := by decide +kernel
theorem dX2_troubleWithStation_46 : decode cX2_troubleWithStation 46 = .ok (.getfield 166, 3) := by decide +kernel
theorem dX2_troubleWithStation_49 : decode cX2_troubleWithStation 49 = .ok (.iload_n 1, 1) := by decide +kernel
theorem dX2_troubleWithStation_50 : decode cX2_troubleWithStation 50 = .ok (.iaload, 1) := by decide +kernel
theorem dX2_troubleWithStation_51 : decode cX2_troubleWithStation 51 = .ok (.istore 4, 2) := by decide +kernel
theorem dX2_troubleWithStation_53 : decode cX2_troubleWithStation 53 = .ok (.iload 4, 2) := by decide +kernel
theorem dX2_troubleWithStation_55 : decode cX2_troubleWithStation 55 = .ok (.bipush 10, 2) := by decide +kernel
theorem dX2_troubleWithStation_57 : decode cX2_troubleWithStation 57 = .ok (.if_icmp .ge 30, 3) := by decide +kernel
theorem dX2_troubleWithStation_60 : decode cX2_troubleWithStation 60 = .ok (.iload 4, 2) := by decide +kernel
theorem dX2_troubleWithStation_62 : decode cX2_troubleWithStation 62 = .ok (.ifCond .eq 21, 3) := by decide +kernel
theorem dX2_troubleWithStation_65 : decode cX2_troubleWithStation 65 = .ok (.iload_n 2, 1) := by decide +kernel
theorem dX2_troubleWithStation_66 : decode cX2_troubleWithStation 66 = .ok (.aload_n 0, 1) := by decide +kernel
theorem dX2_troubleWithStation_67 : decode cX2_troubleWithStation 67 = .ok (.getfield 9, 3) := by decide +kernel
theorem dX2_troubleWithStation_70 : decode cX2_troubleWithStation 70 = .ok (.getfield 169, 3) := by decide +kernel
theorem dX2_troubleWithStation_73 : decode cX2_troubleWithStation 73 = .ok (.iload_n 1, 1) := by decide +kernel
theorem dX2_troubleWithStation_74 : decode cX2_troubleWithStation 74 = .ok (.aaload, 1) := by decide +kernel
theorem dX2_troubleWithStation_75 : decode cX2_troubleWithStation 75 = .ok (.iload 4, 2) := by decide +kernel
theorem dX2_troubleWithStation_77 : decode cX2_troubleWithStation 77 = .ok (.iconst 1, 1) := by decide +kernel
theorem dX2_troubleWithStation_78 : decode cX2_troubleWithStation 78 = .ok (.isub, 1) := by decide +kernel
theorem dX2_troubleWithStation_79 : decode cX2_troubleWithStation 79 = .ok (.iaload, 1) := by decide +kernel
theorem dX2_troubleWithStation_80 : decode cX2_troubleWithStation 80 = .ok (.if_icmp .le 7, 3) := by decide +kernel
theorem dX2_troubleWithStation_83 : decode cX2_troubleWithStation 83 = .ok (.iconst 1, 1) := by decide +kernel
theorem dX2_troubleWithStation_84 : decode cX2_troubleWithStation 84 = .ok (.goto 4, 3) := by decide +kernel
theorem dX2_troubleWithStation_87 : decode cX2_troubleWithStation 87 = .ok (.iconst 0, 1) := by decide +kernel
theorem dX2_troubleWithStation_88 : decode cX2_troubleWithStation 88 = .ok (.invokestatic 45, 3) := by decide +kernel
theorem dX2_troubleWithStation_91 : decode cX2_troubleWithStation 91 = .ok (.areturn, 1) := by decide +kernel
theorem dX2_carryOut_0 : decode cX2_carryOut 0 = .ok (.getstatic 27, 3) := by decide +kernel
theorem dX2_carryOut_3 : decode cX2_carryOut 3 = .ok (.aload_n 1, 1) := by decide +kernel
theorem dX2_carryOut_4 : decode cX2_carryOut 4 = .ok (.invokevirtual 33, 3) := by decide +kernel
theorem dX2_carryOut_7 : decode cX2_carryOut 7 = .ok (.iaload, 1) := by decide +kernel
theorem dX2_carryOut_8 : decode cX2_carryOut 8 = .ok (.tableswitch 225 1 12 #[64, 69, 97, 117, 128, 157, 175, 193, 204, 210, 219, 199], 64) := by decide +kernel
theorem dX2_carryOut_72 : decode cX2_carryOut 72 = .ok (.aload_n 0, 1) := by decide +kernel
theorem dX2_carryOut_73 : decode cX2_carryOut 73 = .ok (.invokevirtual 173, 3) := by decide +kernel
theorem dX2_carryOut_76 : decode cX2_carryOut 76 = .ok (.ireturn, 1) := by decide +kernel
theorem dX2_carryOut_77 : decode cX2_carryOut 77 = .ok (.aload_n 0, 1) := by decide +kernel
theorem dX2_carryOut_78 : decode cX2_carryOut 78 = .ok (.getfield 9, 3) := by decide +kernel
theorem dX2_carryOut_81 : decode cX2_carryOut 81 = .ok (.getfield 106, 3) := by decide +kernel
theorem dX2_carryOut_84 : decode cX2_carryOut 84 = .ok (.iload_n 2, 1) := by decide +kernel
theorem dX2_carryOut_85 : decode cX2_carryOut 85 = .ok (.iconst 1, 1) := by decide +kernel
theorem dX2_carryOut_86 : decode cX2_carryOut 86 = .ok (.bastore, 1) := by decide +kernel
theorem dX2_carryOut_87 : decode cX2_carryOut 87 = .ok (.aload_n 0, 1) := by decide +kernel
theorem dX2_carryOut_88 : decode cX2_carryOut 88 = .ok (.getfield 9, 3) := by decide +kernel
theorem dX2_carryOut_91 : decode cX2_carryOut 91 = .ok (.getfield 176, 3) := by decide +kernel
theorem dX2_carryOut_94 : decode cX2_carryOut 94 = .ok (.iload_n 2, 1) := by decide +kernel
theorem dX2_carryOut_95 : decode cX2_carryOut 95 = .ok (.iload_n 3, 1) := by decide +kernel
theorem dX2_carryOut_96 : decode cX2_carryOut 96 = .ok (.iastore, 1) := by decide +kernel
theorem dX2_carryOut_97 : decode cX2_carryOut 97 = .ok (.aload_n 0, 1) := by decide +kernel
theorem dX2_carryOut_98 : decode cX2_carryOut 98 = .ok (.getfield 9, 3) := by decide +kernel
theorem dX2_carryOut_101 : decode cX2_carryOut 101 = .ok (.invokevirtual 179, 3) := by decide +kernel
theorem dX2_carryOut_104 : decode cX2_carryOut 104 = .ok (.ireturn, 1) := by decide +kernel
theorem dX2_carryOut_105 : decode cX2_carryOut 105 = .ok (.aload_n 0, 1) := by decide +kernel
theorem dX2_carryOut_106 : decode cX2_carryOut 106 = .ok (.getfield 9, 3) := by decide +kernel
theorem dX2_carryOut_109 : decode cX2_carryOut 109 = .ok (.getfield 106, 3) := by decide +kernel
theorem dX2_carryOut_112 : decode cX2_carryOut 112 = .ok (.iload_n 2, 1) := by decide +kernel
theorem dX2_carryOut_113 : decode cX2_carryOut 113 = .ok (.iconst 0, 1) := by decide +kernel
theorem dX2_carryOut_114 : decode cX2_carryOut 114 = .ok (.bastore, 1) := by decide +kernel
theorem dX2_carryOut_115 : decode cX2_carryOut 115 = .ok (.aload_n 0, 1) := by decide +kernel
theorem dX2_carryOut_116 : decode cX2_carryOut 116 = .ok (.getfield 9, 3) := by decide +kernel
theorem dX2_carryOut_119 : decode cX2_carryOut 119 = .ok (.getfield 176, 3) := by decide +kernel
theorem dX2_carryOut_122 : decode cX2_carryOut 122 = .ok (.iload_n 2, 1) := by decide +kernel
theorem dX2_carryOut_123 : decode cX2_carryOut 123 = .ok (.iaload, 1) := by decide +kernel
theorem dX2_carryOut_124 : decode cX2_carryOut 124 = .ok (.ireturn, 1) := by decide +kernel
theorem dX2_carryOut_125 : decode cX2_carryOut 125 = .ok (.aload_n 0, 1) := by decide +kernel
theorem dX2_carryOut_126 : decode cX2_carryOut 126 = .ok (.iload_n 2, 1) := by decide +kernel
theorem dX2_carryOut_127 : decode cX2_carryOut 127 = .ok (.iload_n 3, 1) := by decide +kernel
theorem dX2_carryOut_128 : decode cX2_carryOut 128 = .ok (.iload 4, 2) := by decide +kernel
theorem dX2_carryOut_130 : decode cX2_carryOut 130 = .ok (.iload 5, 2) := by decide +kernel
theorem dX2_carryOut_132 : decode cX2_carryOut 132 = .ok (.invokevirtual 182, 3) := by decide +kernel
theorem dX2_carryOut_135 : decode cX2_carryOut 135 = .ok (.ireturn, 1) := by decide +kernel
theorem dX2_carryOut_136 : decode cX2_carryOut 136 = .ok (.aload_n 0, 1) := by decide +kernel
theorem dX2_carryOut_137 : decode cX2_carryOut 137 = .ok (.getfield 9, 3) := by decide +kernel
theorem dX2_carryOut_140 : decode cX2_carryOut 140 = .ok (.getfield 186, 3) := by decide +kernel
theorem dX2_carryOut_143 : decode cX2_carryOut 143 = .ok (.iload_n 2, 1) := by decide +kernel
theorem dX2_carryOut_144 : decode cX2_carryOut 144 = .ok (.iload_n 3, 1) := by decide +kernel
theorem dX2_carryOut_145 : decode cX2_carryOut 145 = .ok (.iastore, 1) := by decide +kernel
theorem dX2_carryOut_146 : decode cX2_carryOut 146 = .ok (.aload_n 0, 1) := by decide +kernel
theorem dX2_carryOut_147 : decode cX2_carryOut 147 = .ok (.getfield 9, 3) := by decide +kernel
theorem dX2_carryOut_150 : decode cX2_carryOut 150 = .ok (.getfield 119, 3) := by decide +kernel
theorem dX2_carryOut_153 : decode cX2_carryOut 153 = .ok (.iload_n 2, 1) := by decide +kernel
theorem dX2_carryOut_154 : decode cX2_carryOut 154 = .ok (.iconst 1, 1) := by decide +kernel
theorem dX2_carryOut_155 : decode cX2_carryOut 155 = .ok (.bastore, 1) := by decide +kernel
theorem dX2_carryOut_156 : decode cX2_carryOut 156 = .ok (.aload_n 0, 1) := by decide +kernel
theorem dX2_carryOut_157 : decode cX2_carryOut 157 = .ok (.getfield 9, 3) := by decide +kernel
theorem dX2_carryOut_160 : decode cX2_carryOut 160 = .ok (.iload_n 2, 1) := by decide +kernel
theorem dX2_carryOut_161 : decode cX2_carryOut 161 = .ok (.invokevirtual 189, 3) := by decide +kernel
theorem dX2_carryOut_164 : decode cX2_carryOut 164 = .ok (.ireturn, 1) := by decide +kernel
theorem dX2_carryOut_165 : decode cX2_carryOut 165 = .ok (.aload_n 0, 1) := by decide +kernel
theorem dX2_carryOut_166 : decode cX2_carryOut 166 = .ok (.getfield 9, 3) := by decide +kernel
theorem dX2_carryOut_169 : decode cX2_carryOut 169 = .ok (.getfield 122, 3) := by decide +kernel
theorem dX2_carryOut_172 : decode cX2_carryOut 172 = .ok (.iload_n 2, 1) := by decide +kernel
theorem dX2_carryOut_173 : decode cX2_carryOut 173 = .ok (.iconst 1, 1) := by decide +kernel
theorem dX2_carryOut_174 : decode cX2_carryOut 174 = .ok (.bastore, 1) := by decide +kernel
theorem dX2_carryOut_175 : decode cX2_carryOut 175 = .ok (.aload_n 0, 1) := by decide +kernel
theorem dX2_carryOut_176 : decode cX2_carryOut 176 = .ok (.getfield 9, 3) := by decide +kernel
theorem dX2_carryOut_179 : decode cX2_carryOut 179 = .ok (.invokevirtual 192, 3) := by decide +kernel
theorem dX2_carryOut_182 : decode cX2_carryOut 182 = .ok (.ireturn, 1) := by decide +kernel
theorem dX2_carryOut_183 : decode cX2_carryOut 183 = .ok (.aload_n 0, 1) := by decide +kernel
theorem dX2_carryOut_184 : decode cX2_carryOut 184 = .ok (.getfield 9, 3) := by decide +kernel
theorem dX2_carryOut_187 : decode cX2_carryOut 187 = .ok (.getfield 122, 3) := by decide +kernel
theorem dX2_carryOut_190 : decode cX2_carryOut 190 = .ok (.iload_n 2, 1) := by decide +kernel
theorem dX2_carryOut_191 : decode cX2_carryOut 191 = .ok (.iconst 0, 1) := by decide +kernel
theorem dX2_carryOut_192 : decode cX2_carryOut 192 = .ok (.bastore, 1) := by decide +kernel
theorem dX2_carryOut_193 : decode cX2_carryOut 193 = .ok (.aload_n 0, 1) := by decide +kernel
theorem dX2_carryOut_194 : decode cX2_carryOut 194 = .ok (.getfield 9, 3) := by decide +kernel
theorem dX2_carryOut_197 : decode cX2_carryOut 197 = .ok (.invokevirtual 192, 3) := by decide +kernel
theorem dX2_carryOut_200 : decode cX2_carryOut 200 = .ok (.ireturn, 1) := by decide +kernel
theorem dX2_carryOut_201 : decode cX2_carryOut 201 = .ok (.aload_n 0, 1) := by decide +kernel
theorem dX2_carryOut_202 : decode cX2_carryOut 202 = .ok (.iload_n 2, 1) := by decide +kernel
theorem dX2_carryOut_203 : decode cX2_carryOut 203 = .ok (.invokevirtual 195, 3) := by decide +kernel
theorem dX2_carryOut_206 : decode cX2_carryOut 206 = .ok (.ireturn, 1) := by decide +kernel
theorem dX2_carryOut_207 : decode cX2_carryOut 207 = .ok (.aload_n 0, 1) := by decide +kernel
theorem dX2_carryOut_208 : decode cX2_carryOut 208 = .ok (.invokevirtual 198, 3) := by decide +kernel
theorem dX2_carryOut_211 : decode cX2_carryOut 211 = .ok (.ireturn, 1) := by decide +kernel
theorem dX2_carryOut_212 : decode cX2_carryOut 212 = .ok (.aload_n 0, 1) := by decide +kernel
theorem dX2_carryOut_213 : decode cX2_carryOut 213 = .ok (.iload_n 2, 1) := by decide +kernel
theorem dX2_carryOut_214 : decode cX2_carryOut 214 = .ok (.invokevirtual 201, 3) := by decide +kernel
theorem dX2_carryOut_217 : decode cX2_carryOut 217 = .ok (.ireturn, 1) := by decide +kernel
theorem dX2_carryOut_218 : decode cX2_carryOut 218 = .ok (.aload_n 0, 1) := by decide +kernel
theorem dX2_carryOut_219 : decode cX2_carryOut 219 = .ok (.iload_n 2, 1) := by decide +kernel
theorem dX2_carryOut_220 : decode cX2_carryOut 220 = .ok (.iload_n 3, 1) := by decide +kernel
theorem dX2_carryOut_221 : decode cX2_carryOut 221 = .ok (.iload 4, 2) := by decide +kernel
theorem dX2_carryOut_223 : decode cX2_carryOut 223 = .ok (.invokevirtual 204, 3) := by decide +kernel
theorem dX2_carryOut_226 : decode cX2_carryOut 226 = .ok (.ireturn, 1) := by decide +kernel
theorem dX2_carryOut_227 : decode cX2_carryOut 227 = .ok (.aload_n 0, 1) := by decide +kernel
theorem dX2_carryOut_228 : decode cX2_carryOut 228 = .ok (.iload_n 2, 1) := by decide +kernel
theorem dX2_carryOut_229 : decode cX2_carryOut 229 = .ok (.invokevirtual 208, 3) := by decide +kernel
theorem dX2_carryOut_232 : decode cX2_carryOut 232 = .ok (.ireturn, 1) := by decide +kernel
theorem dX2_carryOut_233 : decode cX2_carryOut 233 = .ok (.iconst (-1), 1) := by decide +kernel
theorem dX2_carryOut_234 : decode cX2_carryOut 234 = .ok (.ireturn, 1) := by decide +kernel
theorem dX2_putBenchmark_0 : decode cX2_putBenchmark 0 = .ok (.aload_n 0, 1) := by decide +kernel
theorem dX2_putBenchmark_1 : decode cX2_putBenchmark 1 = .ok (.getfield 9, 3) := by decide +kernel
theorem dX2_putBenchmark_4 : decode cX2_putBenchmark 4 = .ok (.getfield 39, 3) := by decide +kernel
theorem dX2_putBenchmark_7 : decode cX2_putBenchmark 7 = .ok (.istore_n 1, 1) := by decide +kernel
theorem dX2_putBenchmark_8 : decode cX2_putBenchmark 8 = .ok (.aload_n 0, 1) := by decide +kernel
theorem dX2_putBenchmark_9 : decode cX2_putBenchmark 9 = .ok (.getfield 9, 3) := by decide +kernel
theorem dX2_putBenchmark_12 : decode cX2_putBenchmark 12 = .ok (.getfield 106, 3) := by decide +kernel
theorem dX2_putBenchmark_15 : decode cX2_putBenchmark 15 = .ok (.iload_n 1, 1) := by decide +kernel
theorem dX2_putBenchmark_16 : decode cX2_putBenchmark 16 = .ok (.iconst 0, 1) := by decide +kernel
theorem dX2_putBenchmark_17 : decode cX2_putBenchmark 17 = .ok (.bastore, 1) := by decide +kernel
theorem dX2_putBenchmark_18 : decode cX2_putBenchmark 18 = .ok (.aload_n 0, 1) := by decide +kernel
theorem dX2_putBenchmark_19 : decode cX2_putBenchmark 19 = .ok (.getfield 9, 3) := by decide +kernel
theorem dX2_putBenchmark_22 : decode cX2_putBenchmark 22 = .ok (.getfield 176, 3) := by decide +kernel
theorem dX2_putBenchmark_25 : decode cX2_putBenchmark 25 = .ok (.iload_n 1, 1) := by decide +kernel
theorem dX2_putBenchmark_26 : decode cX2_putBenchmark 26 = .ok (.iconst 0, 1) := by decide +kernel
theorem dX2_putBenchmark_27 : decode cX2_putBenchmark 27 = .ok (.iastore, 1) := by decide +kernel
theorem dX2_putBenchmark_28 : decode cX2_putBenchmark 28 = .ok (.aload_n 0, 1) := by decide +kernel
theorem dX2_putBenchmark_29 : decode cX2_putBenchmark 29 = .ok (.getfield 9, 3) := by decide +kernel
theorem dX2_putBenchmark_32 : decode cX2_putBenchmark 32 = .ok (.dup, 1) := by decide +kernel
theorem dX2_putBenchmark_33 : decode cX2_putBenchmark 33 = .ok (.getfield 39, 3) := by decide +kernel
theorem dX2_putBenchmark_36 : decode cX2_putBenchmark 36 = .ok (.iconst 1, 1) := by decide +kernel
theorem dX2_putBenchmark_37 : decode cX2_putBenchmark 37 = .ok (.iadd, 1) := by decide +kernel
theorem dX2_putBenchmark_38 : decode cX2_putBenchmark 38 = .ok (.putfield 39, 3) := by decide +kernel
theorem dX2_putBenchmark_41 : decode cX2_putBenchmark 41 = .ok (.iload_n 1, 1) := by decide +kernel
theorem dX2_putBenchmark_42 : decode cX2_putBenchmark 42 = .ok (.ireturn, 1) := by decide +kernel
theorem dX2_putLine_0 : decode cX2_putLine 0 = .ok (.aload_n 0, 1) := by decide +kernel
theorem dX2_putLine_1 : decode cX2_putLine 1 = .ok (.getfield 9, 3) := by decide +kernel
theorem dX2_putLine_4 : decode cX2_putLine 4 = .ok (.getfield 113, 3) := by decide +kernel
theorem dX2_putLine_7 : decode cX2_putLine 7 = .ok (.istore 5, 2) := by decide +kernel
theorem dX2_putLine_9 : decode cX2_putLine 9 = .ok (.aload_n 0, 1) := by decide +kernel
theorem dX2_putLine_10 : decode cX2_putLine 10 = .ok (.getfield 9, 3) := by decide +kernel
theorem dX2_putLine_13 : decode cX2_putLine 13 = .ok (.getfield 211, 3) := by decide +kernel
theorem dX2_putLine_16 : decode cX2_putLine 16 = .ok (.iload 5, 2) := by decide +kernel
theorem dX2_putLine_18 : decode cX2_putLine 18 = .ok (.iload_n 1, 1) := by decide +kernel
theorem dX2_putLine_19 : decode cX2_putLine 19 = .ok (.iastore, 1) := by decide +kernel
theorem dX2_putLine_20 : decode cX2_putLine 20 = .ok (.aload_n 0, 1) := by decide +kernel
theorem dX2_putLine_21 : decode cX2_putLine 21 = .ok (.getfield 9, 3) := by decide +kernel
theorem dX2_putLine_24 : decode cX2_putLine 24 = .ok (.getfield 214, 3) := by decide +kernel
theorem dX2_putLine_27 : decode cX2_putLine 27 = .ok (.iload 5, 2) := by decide +kernel
theorem dX2_putLine_29 : decode cX2_putLine 29 = .ok (.iload_n 2, 1) := by decide +kernel
theorem dX2_putLine_30 : decode cX2_putLine 30 = .ok (.iastore, 1) := by decide +kernel
theorem dX2_putLine_31 : decode cX2_putLine 31 = .ok (.aload_n 0, 1) := by decide +kernel
theorem dX2_putLine_32 : decode cX2_putLine 32 = .ok (.getfield 9, 3) := by decide +kernel
theorem dX2_putLine_35 : decode cX2_putLine 35 = .ok (.getfield 217, 3) := by decide +kernel
theorem dX2_putLine_38 : decode cX2_putLine 38 = .ok (.iload 5, 2) := by decide +kernel
theorem dX2_putLine_40 : decode cX2_putLine 40 = .ok (.iload 4, 2) := by decide +kernel
theorem dX2_putLine_42 : decode cX2_putLine 42 = .ok (.iastore, 1) := by decide +kernel
theorem dX2_putLine_43 : decode cX2_putLine 43 = .ok (.aload_n 0, 1) := by decide +kernel
theorem dX2_putLine_44 : decode cX2_putLine 44 = .ok (.getfield 9, 3) := by decide +kernel
theorem dX2_putLine_47 : decode cX2_putLine 47 = .ok (.getfield 220, 3) := by decide +kernel
theorem dX2_putLine_50 : decode cX2_putLine 50 = .ok (.iload 5, 2) := by decide +kernel
theorem dX2_putLine_52 : decode cX2_putLine 52 = .ok (.iload_n 3, 1) := by decide +kernel
theorem dX2_putLine_53 : decode cX2_putLine 53 = .ok (.iastore, 1) := by decide +kernel
theorem dX2_putLine_54 : decode cX2_putLine 54 = .ok (.aload_n 0, 1) := by decide +kernel
theorem dX2_putLine_55 : decode cX2_putLine 55 = .ok (.getfield 9, 3) := by decide +kernel
theorem dX2_putLine_58 : decode cX2_putLine 58 = .ok (.getfield 186, 3) := by decide +kernel
theorem dX2_putLine_61 : decode cX2_putLine 61 = .ok (.iload 5, 2) := by decide +kernel
theorem dX2_putLine_63 : decode cX2_putLine 63 = .ok (.iconst 0, 1) := by decide +kernel
theorem dX2_putLine_64 : decode cX2_putLine 64 = .ok (.iastore, 1) := by decide +kernel
theorem dX2_putLine_65 : decode cX2_putLine 65 = .ok (.aload_n 0, 1) := by decide +kernel
theorem dX2_putLine_66 : decode cX2_putLine 66 = .ok (.getfield 9, 3) := by decide +kernel
theorem dX2_putLine_69 : decode cX2_putLine 69 = .ok (.getfield 119, 3) := by decide +kernel
theorem dX2_putLine_72 : decode cX2_putLine 72 = .ok (.iload 5, 2) := by decide +kernel
theorem dX2_putLine_74 : decode cX2_putLine 74 = .ok (.iconst 0, 1) := by decide +kernel
theorem dX2_putLine_75 : decode cX2_putLine 75 = .ok (.bastore, 1) := by decide +kernel
theorem dX2_putLine_76 : decode cX2_putLine 76 = .ok (.aload_n 0, 1) := by decide +kernel
theorem dX2_putLine_77 : decode cX2_putLine 77 = .ok (.getfield 9, 3) := by decide +kernel
theorem dX2_putLine_80 : decode cX2_putLine 80 = .ok (.getfield 122, 3) := by decide +kernel
theorem dX2_putLine_83 : decode cX2_putLine 83 = .ok (.iload 5, 2) := by decide +kernel
theorem dX2_putLine_85 : decode cX2_putLine 85 = .ok (.iconst 0, 1) := by decide +kernel
theorem dX2_putLine_86 : decode cX2_putLine 86 = .ok (.bastore, 1) := by decide +kernel
theorem dX2_putLine_87 : decode cX2_putLine 87 = .ok (.aload_n 0, 1) := by decide +kernel
theorem dX2_putLine_88 : decode cX2_putLine 88 = .ok (.getfield 9, 3) := by decide +kernel
theorem dX2_putLine_91 : decode cX2_putLine 91 = .ok (.getfield 223, 3) := by decide +kernel
theorem dX2_putLine_94 : decode cX2_putLine 94 = .ok (.iload 5, 2) := by decide +kernel
theorem dX2_putLine_96 : decode cX2_putLine 96 = .ok (.iconst 0, 1) := by decide +kernel
theorem dX2_putLine_97 : decode cX2_putLine 97 = .ok (.iastore, 1) := by decide +kernel
theorem dX2_putLine_98 : decode cX2_putLine 98 = .ok (.aload_n 0, 1) := by decide +kernel
theorem dX2_putLine_99 : decode cX2_putLine 99 = .ok (.getfield 9, 3) := by decide +kernel
theorem dX2_putLine_102 : decode cX2_putLine 102 = .ok (.dup, 1) := by decide +kernel
theorem dX2_putLine_103 : decode cX2_putLine 103 = .ok (.getfield 113, 3) := by decide +kernel
theorem dX2_putLine_106 : decode cX2_putLine 106 = .ok (.iconst 1, 1) := by decide +kernel
theorem dX2_putLine_107 : decode cX2_putLine 107 = .ok (.iadd, 1) := by decide +kernel
theorem dX2_putLine_108 : decode cX2_putLine 108 = .ok (.putfield 113, 3) := by decide +kernel
theorem dX2_putLine_111 : decode cX2_putLine 111 = .ok (.iload 5, 2) := by decide +kernel
theorem dX2_putLine_113 : decode cX2_putLine 113 = .ok (.ireturn, 1) := by decide +kernel
theorem dX2_shareOut_0 : decode cX2_shareOut 0 = .ok (.aload_n 0, 1) := by decide +kernel
theorem dX2_shareOut_1 : decode cX2_shareOut 1 = .ok (.getfield 15, 3) := by decide +kernel
theorem dX2_shareOut_4 : decode cX2_shareOut 4 = .ok (.invokevirtual 125, 3) := by decide +kernel
theorem dX2_shareOut_7 : decode cX2_shareOut 7 = .ok (.aload_n 0, 1) := by decide +kernel
theorem dX2_shareOut_8 : decode cX2_shareOut 8 = .ok (.getfield 19, 3) := by decide +kernel
theorem dX2_shareOut_11 : decode cX2_shareOut 11 = .ok (.iload_n 1, 1) := by decide +kernel
theorem dX2_shareOut_12 : decode cX2_shareOut 12 = .ok (.invokevirtual 136, 3) := by decide +kernel
theorem dX2_shareOut_15 : decode cX2_shareOut 15 = .ok (.aload_n 0, 1) := by decide +kernel
theorem dX2_shareOut_16 : decode cX2_shareOut 16 = .ok (.getfield 19, 3) := by decide +kernel
theorem dX2_shareOut_19 : decode cX2_shareOut 19 = .ok (.invokevirtual 142, 3) := by decide +kernel
theorem dX2_shareOut_22 : decode cX2_shareOut 22 = .ok (.istore_n 2, 1) := by decide +kernel
theorem dX2_shareOut_23 : decode cX2_shareOut 23 = .ok (.aload_n 0, 1) := by decide +kernel
theorem dX2_shareOut_24 : decode cX2_shareOut 24 = .ok (.getfield 23, 3) := by decide +kernel
theorem dX2_shareOut_27 : decode cX2_shareOut 27 = .ok (.aload_n 0, 1) := by decide +kernel
theorem dX2_shareOut_28 : decode cX2_shareOut 28 = .ok (.getfield 19, 3) := by decide +kernel
theorem dX2_shareOut_31 : decode cX2_shareOut 31 = .ok (.invokevirtual 226, 3) := by decide +kernel
theorem dX2_shareOut_34 : decode cX2_shareOut 34 = .ok (.aload_n 0, 1) := by decide +kernel
theorem dX2_shareOut_35 : decode cX2_shareOut 35 = .ok (.getfield 23, 3) := by decide +kernel
theorem dX2_shareOut_38 : decode cX2_shareOut 38 = .ok (.aload_n 0, 1) := by decide +kernel
theorem dX2_shareOut_39 : decode cX2_shareOut 39 = .ok (.getfield 19, 3) := by decide +kernel
theorem dX2_shareOut_42 : decode cX2_shareOut 42 = .ok (.invokevirtual 232, 3) := by decide +kernel
theorem dX2_shareOut_45 : decode cX2_shareOut 45 = .ok (.iload_n 2, 1) := by decide +kernel
theorem dX2_shareOut_46 : decode cX2_shareOut 46 = .ok (.ireturn, 1) := by decide +kernel
theorem dX2_clearCorrections_0 : decode cX2_clearCorrections 0 = .ok (.iconst 0, 1) := by decide +kernel
theorem dX2_clearCorrections_1 : decode cX2_clearCorrections 1 = .ok (.istore_n 1, 1) := by decide +kernel
theorem dX2_clearCorrections_2 : decode cX2_clearCorrections 2 = .ok (.iconst 0, 1) := by decide +kernel
theorem dX2_clearCorrections_3 : decode cX2_clearCorrections 3 = .ok (.istore_n 2, 1) := by decide +kernel
theorem dX2_clearCorrections_4 : decode cX2_clearCorrections 4 = .ok (.iload_n 2, 1) := by decide +kernel
theorem dX2_clearCorrections_5 : decode cX2_clearCorrections 5 = .ok (.aload_n 0, 1) := by decide +kernel
theorem dX2_clearCorrections_6 : decode cX2_clearCorrections 6 = .ok (.getfield 9, 3) := by decide +kernel
theorem dX2_clearCorrections_9 : decode cX2_clearCorrections 9 = .ok (.getfield 113, 3) := by decide +kernel
theorem dX2_clearCorrections_12 : decode cX2_clearCorrections 12 = .ok (.if_icmp .ge 39, 3) := by decide +kernel
theorem dX2_clearCorrections_15 : decode cX2_clearCorrections 15 = .ok (.iload_n 1, 1) := by decide +kernel
theorem dX2_clearCorrections_16 : decode cX2_clearCorrections 16 = .ok (.aload_n 0, 1) := by decide +kernel
theorem dX2_clearCorrections_17 : decode cX2_clearCorrections 17 = .ok (.getfield 9, 3) := by decide +kernel
theorem dX2_clearCorrections_20 : decode cX2_clearCorrections 20 = .ok (.getfield 223, 3) := by decide +kernel
theorem dX2_clearCorrections_23 : decode cX2_clearCorrections 23 = .ok (.iload_n 2, 1) := by decide +kernel
theorem dX2_clearCorrections_24 : decode cX2_clearCorrections 24 = .ok (.iaload, 1) := by decide +kernel
theorem dX2_clearCorrections_25 : decode cX2_clearCorrections 25 = .ok (.ifCond .eq 7, 3) := by decide +kernel
theorem dX2_clearCorrections_28 : decode cX2_clearCorrections 28 = .ok (.iconst 1, 1) := by decide +kernel
theorem dX2_clearCorrections_29 : decode cX2_clearCorrections 29 = .ok (.goto 4, 3) := by decide +kernel
theorem dX2_clearCorrections_32 : decode cX2_clearCorrections 32 = .ok (.iconst 0, 1) := by decide +kernel
theorem dX2_clearCorrections_33 : decode cX2_clearCorrections 33 = .ok (.iadd, 1) := by decide +kernel
theorem dX2_clearCorrections_34 : decode cX2_clearCorrections 34 = .ok (.istore_n 1, 1) := by decide +kernel
theorem dX2_clearCorrections_35 : decode cX2_clearCorrections 35 = .ok (.aload_n 0, 1) := by decide +kernel
theorem dX2_clearCorrections_36 : decode cX2_clearCorrections 36 = .ok (.getfield 9, 3) := by decide +kernel
theorem dX2_clearCorrections_39 : decode cX2_clearCorrections 39 = .ok (.getfield 223, 3) := by decide +kernel
theorem dX2_clearCorrections_42 : decode cX2_clearCorrections 42 = .ok (.iload_n 2, 1) := by decide +kernel
theorem dX2_clearCorrections_43 : decode cX2_clearCorrections 43 = .ok (.iconst 0, 1) := by decide +kernel
theorem dX2_clearCorrections_44 : decode cX2_clearCorrections 44 = .ok (.iastore, 1) := by decide +kernel
theorem dX2_clearCorrections_45 : decode cX2_clearCorrections 45 = .ok (.iinc 2 1, 3) := by decide +kernel
theorem dX2_clearCorrections_48 : decode cX2_clearCorrections 48 = .ok (.goto (-44), 3) := by decide +kernel
theorem dX2_clearCorrections_51 : decode cX2_clearCorrections 51 = .ok (.iload_n 1, 1) := by decide +kernel
theorem dX2_clearCorrections_52 : decode cX2_clearCorrections 52 = .ok (.ireturn, 1) := by decide +kernel
theorem dX2_putProfile_0 : decode cX2_putProfile 0 = .ok (.aload_n 0, 1) := by decide +kernel
theorem dX2_putProfile_1 : decode cX2_putProfile 1 = .ok (.getfield 9, 3) := by decide +kernel
theorem dX2_putProfile_4 : decode cX2_putProfile 4 = .ok (.getfield 160, 3) := by decide +kernel
theorem dX2_putProfile_7 : decode cX2_putProfile 7 = .ok (.istore_n 2, 1) := by decide +kernel
theorem dX2_putProfile_8 : decode cX2_putProfile 8 = .ok (.aload_n 0, 1) := by decide +kernel
theorem dX2_putProfile_9 : decode cX2_putProfile 9 = .ok (.getfield 9, 3) := by decide +kernel
theorem dX2_putProfile_12 : decode cX2_putProfile 12 = .ok (.getfield 235, 3) := by decide +kernel
theorem dX2_putProfile_15 : decode cX2_putProfile 15 = .ok (.iload_n 2, 1) := by decide +kernel
theorem dX2_putProfile_16 : decode cX2_putProfile 16 = .ok (.iload_n 1, 1) := by decide +kernel
theorem dX2_putProfile_17 : decode cX2_putProfile 17 = .ok (.iastore, 1) := by decide +kernel
theorem dX2_putProfile_18 : decode cX2_putProfile 18 = .ok (.aload_n 0, 1) := by decide +kernel
theorem dX2_putProfile_19 : decode cX2_putProfile 19 = .ok (.getfield 9, 3) := by decide +kernel
theorem dX2_putProfile_22 : decode cX2_putProfile 22 = .ok (.getfield 166, 3) := by decide +kernel
theorem dX2_putProfile_25 : decode cX2_putProfile 25 = .ok (.iload_n 2, 1) := by decide +kernel
theorem dX2_putProfile_26 : decode cX2_putProfile 26 = .ok (.iconst 0, 1) := by decide +kernel
theorem dX2_putProfile_27 : decode cX2_putProfile 27 = .ok (.iastore, 1) := by decide +kernel
theorem dX2_putProfile_28 : decode cX2_putProfile 28 = .ok (.aload_n 0, 1) := by decide +kernel
theorem dX2_putProfile_29 : decode cX2_putProfile 29 = .ok (.getfield 9, 3) := by decide +kernel
theorem dX2_putProfile_32 : decode cX2_putProfile 32 = .ok (.dup, 1) := by decide +kernel
theorem dX2_putProfile_33 : decode cX2_putProfile 33 = .ok (.getfield 160, 3) := by decide +kernel
theorem dX2_putProfile_36 : decode cX2_putProfile 36 = .ok (.iconst 1, 1) := by decide +kernel
theorem dX2_putProfile_37 : decode cX2_putProfile 37 = .ok (.iadd, 1) := by decide +kernel
theorem dX2_putProfile_38 : decode cX2_putProfile 38 = .ok (.putfield 160, 3) := by decide +kernel
theorem dX2_putProfile_41 : decode cX2_putProfile 41 = .ok (.iload_n 2, 1) := by decide +kernel
theorem dX2_putProfile_42 : decode cX2_putProfile 42 = .ok (.ireturn, 1) := by decide +kernel
theorem dX2_putStation_0 : decode cX2_putStation 0 = .ok (.aload_n 0, 1) := by decide +kernel
theorem dX2_putStation_1 : decode cX2_putStation 1 = .ok (.getfield 9, 3) := by decide +kernel
theorem dX2_putStation_4 : decode cX2_putStation 4 = .ok (.getfield 166, 3) := by decide +kernel
theorem dX2_putStation_7 : decode cX2_putStation 7 = .ok (.iload_n 1, 1) := by decide +kernel
theorem dX2_putStation_8 : decode cX2_putStation 8 = .ok (.iaload, 1) := by decide +kernel
theorem dX2_putStation_9 : decode cX2_putStation 9 = .ok (.istore 4, 2) := by decide +kernel
theorem dX2_putStation_11 : decode cX2_putStation 11 = .ok (.aload_n 0, 1) := by decide +kernel
theorem dX2_putStation_12 : decode cX2_putStation 12 = .ok (.getfield 9, 3) := by decide +kernel
theorem dX2_putStation_15 : decode cX2_putStation 15 = .ok (.getfield 169, 3) := by decide +kernel
theorem dX2_putStation_18 : decode cX2_putStation 18 = .ok (.iload_n 1, 1) := by decide +kernel
theorem dX2_putStation_19 : decode cX2_putStation 19 = .ok (.aaload, 1) := by decide +kernel
theorem dX2_putStation_20 : decode cX2_putStation 20 = .ok (.iload 4, 2) := by decide +kernel
theorem dX2_putStation_22 : decode cX2_putStation 22 = .ok (.iload_n 2, 1) := by decide +kernel
theorem dX2_putStation_23 : decode cX2_putStation 23 = .ok (.iastore, 1) := by decide +kernel
theorem dX2_putStation_24 : decode cX2_putStation 24 = .ok (.aload_n 0, 1) := by decide +kernel
theorem dX2_putStation_25 : decode cX2_putStation 25 = .ok (.getfield 9, 3) := by decide +kernel
theorem dX2_putStation_28 : decode cX2_putStation 28 = .ok (.getfield 238, 3) := by decide +kernel
theorem dX2_putStation_31 : decode cX2_putStation 31 = .ok (.iload_n 1, 1) := by decide +kernel
theorem dX2_putStation_32 : decode cX2_putStation 32 = .ok (.aaload, 1) := by decide +kernel
theorem dX2_putStation_33 : decode cX2_putStation 33 = .ok (.iload 4, 2) := by decide +kernel
theorem dX2_putStation_35 : decode cX2_putStation 35 = .ok (.iload_n 3, 1) := by decide +kernel
theorem dX2_putStation_36 : decode cX2_putStation 36 = .ok (.iastore, 1) := by decide +kernel
theorem dX2_putStation_37 : decode cX2_putStation 37 = .ok (.aload_n 0, 1) := by decide +kernel
theorem dX2_putStation_38 : decode cX2_putStation 38 = .ok (.getfield 9, 3) := by decide +kernel
theorem dX2_putStation_41 : decode cX2_putStation 41 = .ok (.getfield 166, 3) := by decide +kernel
theorem dX2_putStation_44 : decode cX2_putStation 44 = .ok (.iload_n 1, 1) := by decide +kernel
theorem dX2_putStation_45 : decode cX2_putStation 45 = .ok (.dup2, 1) := by decide +kernel
theorem dX2_putStation_46 : decode cX2_putStation 46 = .ok (.iaload, 1) := by decide +kernel
theorem dX2_putStation_47 : decode cX2_putStation 47 = .ok (.iconst 1, 1) := by decide +kernel
theorem dX2_putStation_48 : decode cX2_putStation 48 = .ok (.iadd, 1) := by decide +kernel
theorem dX2_putStation_49 : decode cX2_putStation 49 = .ok (.iastore, 1) := by decide +kernel
theorem dX2_putStation_50 : decode cX2_putStation 50 = .ok (.aload_n 0, 1) := by decide +kernel
theorem dX2_putStation_51 : decode cX2_putStation 51 = .ok (.getfield 9, 3) := by decide +kernel
theorem dX2_putStation_54 : decode cX2_putStation 54 = .ok (.getfield 166, 3) := by decide +kernel
theorem dX2_putStation_57 : decode cX2_putStation 57 = .ok (.iload_n 1, 1) := by decide +kernel
theorem dX2_putStation_58 : decode cX2_putStation 58 = .ok (.iaload, 1) := by decide +kernel
theorem dX2_putStation_59 : decode cX2_putStation 59 = .ok (.ireturn, 1) := by decide +kernel
theorem dX2_putWater_0 : decode cX2_putWater 0 = .ok (.aload_n 0, 1) := by decide +kernel
theorem dX2_putWater_1 : decode cX2_putWater 1 = .ok (.getfield 9, 3) := by decide +kernel
theorem dX2_putWater_4 : decode cX2_putWater 4 = .ok (.getfield 241, 3) := by decide +kernel
theorem dX2_putWater_7 : decode cX2_putWater 7 = .ok (.istore_n 2, 1) := by decide +kernel
theorem dX2_putWater_8 : decode cX2_putWater 8 = .ok (.aload_n 0, 1) := by decide +kernel
theorem dX2_putWater_9 : decode cX2_putWater 9 = .ok (.getfield 9, 3) := by decide +kernel
theorem dX2_putWater_12 : decode cX2_putWater 12 = .ok (.iload_n 1, 1) := by decide +kernel
theorem dX2_putWater_13 : decode cX2_putWater 13 = .ok (.putfield 241, 3) := by decide +kernel
theorem dX2_putWater_16 : decode cX2_putWater 16 = .ok (.iload_n 2, 1) := by decide +kernel
theorem dX2_putWater_17 : decode cX2_putWater 17 = .ok (.ireturn, 1) := by decide +kernel
theorem dX3_init_0 : decode cX3_init 0 = .ok (.aload_n 0, 1) := by decide +kernel
theorem dX3_init_1 : decode cX3_init 1 = .ok (.invokespecial 3, 3) := by decide +kernel
theorem dX3_init_4 : decode cX3_init 4 = .ok (.aload_n 0, 1) := by decide +kernel
theorem dX3_init_5 : decode cX3_init 5 = .ok (.bipush 16, 2) := by decide +kernel
theorem dX3_init_7 : decode cX3_init 7 = .ok (.newarray .int, 2) := by decide +kernel
theorem dX3_init_9 : decode cX3_init 9 = .ok (.putfield 9, 3) := by decide +kernel
theorem dX3_init_12 : decode cX3_init 12 = .ok (.aload_n 0, 1) := by decide +kernel
theorem dX3_init_13 : decode cX3_init 13 = .ok (.bipush 10, 2) := by decide +kernel
theorem dX3_init_15 : decode cX3_init 15 = .ok (.newarray .boolean, 2) := by decide +kernel
theorem dX3_init_17 : decode cX3_init 17 = .ok (.putfield 15, 3) := by decide +kernel
theorem dX3_init_20 : decode cX3_init 20 = .ok (.aload_n 0, 1) := by decide +kernel
theorem dX3_init_21 : decode cX3_init 21 = .ok (.bipush 16, 2) := by decide +kernel
theorem dX3_init_23 : decode cX3_init 23 = .ok (.newarray .boolean, 2) := by decide +kernel
theorem dX3_init_25 : decode cX3_init 25 = .ok (.putfield 19, 3) := by decide +kernel
theorem dX3_init_28 : decode cX3_init 28 = .ok (.aload_n 0, 1) := by decide +kernel
theorem dX3_init_29 : decode cX3_init 29 = .ok (.bipush 10, 2) := by decide +kernel
theorem dX3_init_31 : decode cX3_init 31 = .ok (.newarray .int, 2) := by decide +kernel
theorem dX3_init_33 : decode cX3_init 33 = .ok (.putfield 22, 3) := by decide +kernel
theorem dX3_init_36 : decode cX3_init 36 = .ok (.aload_n 0, 1) := by decide +kernel
theorem dX3_init_37 : decode cX3_init 37 = .ok (.aload_n 1, 1) := by decide +kernel
theorem dX3_init_38 : decode cX3_init 38 = .ok (.putfield 25, 3) := by decide +kernel
theorem dX3_init_41 : decode cX3_init 41 = .ok (.return_, 1) := by decide +kernel
theorem dX3_find_0 : decode cX3_find 0 = .ok (.aload_n 0, 1) := by decide +kernel
theorem dX3_find_1 : decode cX3_find 1 = .ok (.invokevirtual 29, 3) := by decide +kernel
theorem dX3_find_4 : decode cX3_find 4 = .ok (.iconst 0, 1) := by decide +kernel
theorem dX3_find_5 : decode cX3_find 5 = .ok (.istore_n 1, 1) := by decide +kernel
theorem dX3_find_6 : decode cX3_find 6 = .ok (.iload_n 1, 1) := by decide +kernel
theorem dX3_find_7 : decode cX3_find 7 = .ok (.bipush 10, 2) := by decide +kernel
theorem dX3_find_9 : decode cX3_find 9 = .ok (.if_icmp .ge 16, 3) := by decide +kernel
theorem dX3_find_12 : decode cX3_find 12 = .ok (.aload_n 0, 1) := by decide +kernel
theorem dX3_find_13 : decode cX3_find 13 = .ok (.getfield 22, 3) := by decide +kernel
theorem dX3_find_16 : decode cX3_find 16 = .ok (.iload_n 1, 1) := by decide +kernel
theorem dX3_find_17 : decode cX3_find 17 = .ok (.iload_n 1, 1) := by decide +kernel
theorem dX3_find_18 : decode cX3_find 18 = .ok (.iastore, 1) := by decide +kernel
theorem dX3_find_19 : decode cX3_find 19 = .ok (.iinc 1 1, 3) := by decide +kernel
theorem dX3_find_22 : decode cX3_find 22 = .ok (.goto (-16), 3) := by decide +kernel
theorem dX3_find_25 : decode cX3_find 25 = .ok (.iconst 0, 1) := by decide +kernel
theorem dX3_find_26 : decode cX3_find 26 = .ok (.istore_n 1, 1) := by decide +kernel
theorem dX3_find_27 : decode cX3_find 27 = .ok (.iload_n 1, 1) := by decide +kernel
theorem dX3_find_28 : decode cX3_find 28 = .ok (.bipush 16, 2) := by decide +kernel
theorem dX3_find_30 : decode cX3_find 30 = .ok (.if_icmp .ge 16, 3) := by decide +kernel
theorem dX3_find_33 : decode cX3_find 33 = .ok (.aload_n 0, 1) := by decide +kernel
theorem dX3_find_34 : decode cX3_find 34 = .ok (.getfield 19, 3) := by decide +kernel
theorem dX3_find_37 : decode cX3_find 37 = .ok (.iload_n 1, 1) := by decide +kernel
theorem dX3_find_38 : decode cX3_find 38 = .ok (.iconst 0, 1) := by decide +kernel
theorem dX3_find_39 : decode cX3_find 39 = .ok (.bastore, 1) := by decide +kernel
theorem dX3_find_40 : decode cX3_find 40 = .ok (.iinc 1 1, 3) := by decide +kernel
theorem dX3_find_43 : decode cX3_find 43 = .ok (.goto (-16), 3) := by decide +kernel
theorem dX3_find_46 : decode cX3_find 46 = .ok (.iconst 0, 1) := by decide +kernel
theorem dX3_find_47 : decode cX3_find 47 = .ok (.istore_n 1, 1) := by decide +kernel
theorem dX3_find_48 : decode cX3_find 48 = .ok (.iload_n 1, 1) := by decide +kernel
theorem dX3_find_49 : decode cX3_find 49 = .ok (.aload_n 0, 1) := by decide +kernel
theorem dX3_find_50 : decode cX3_find 50 = .ok (.getfield 32, 3) := by decide +kernel
theorem dX3_find_53 : decode cX3_find 53 = .ok (.if_icmp .ge 19, 3) := by decide +kernel
theorem dX3_find_56 : decode cX3_find 56 = .ok (.aload_n 0, 1) := by decide +kernel
theorem dX3_find_57 : decode cX3_find 57 = .ok (.aload_n 0, 1) := by decide +kernel
theorem dX3_find_58 : decode cX3_find 58 = .ok (.getfield 9, 3) := by decide +kernel
theorem dX3_find_61 : decode cX3_find 61 = .ok (.iload_n 1, 1) := by decide +kernel
theorem dX3_find_62 : decode cX3_find 62 = .ok (.iaload, 1) := by decide +kernel
theorem dX3_find_63 : decode cX3_find 63 = .ok (.invokevirtual 36, 3) := by decide +kernel
theorem dX3_find_66 : decode cX3_find 66 = .ok (.iinc 1 1, 3) := by decide +kernel
theorem dX3_find_69 : decode cX3_find 69 = .ok (.goto (-21), 3) := by decide +kernel
theorem dX3_find_72 : decode cX3_find 72 = .ok (.return_, 1) := by decide +kernel
theorem dX3_putInOrder_0 : decode cX3_putInOrder 0 = .ok (.aload_n 0, 1) := by decide +kernel
theorem dX3_putInOrder_1 : decode cX3_putInOrder 1 = .ok (.iconst 0, 1) := by decide +kernel
theorem dX3_putInOrder_2 : decode cX3_putInOrder 2 = .ok (.putfield 32, 3) := by decide +kernel
theorem dX3_putInOrder_5 : decode cX3_putInOrder 5 = .ok (.iconst 0, 1) := by decide +kernel
theorem dX3_putInOrder_6 : decode cX3_putInOrder 6 = .ok (.istore_n 1, 1) := by decide +kernel
theorem dX3_putInOrder_7 : decode cX3_putInOrder 7 = .ok (.iload_n 1, 1) := by decide +kernel
theorem dX3_putInOrder_8 : decode cX3_putInOrder 8 = .ok (.aload_n 0, 1) := by decide +kernel
theorem dX3_putInOrder_9 : decode cX3_putInOrder 9 = .ok (.getfield 25, 3) := by decide +kernel
theorem dX3_putInOrder_12 : decode cX3_putInOrder 12 = .ok (.getfield 40, 3) := by decide +kernel
theorem dX3_putInOrder_15 : decode cX3_putInOrder 15 = .ok (.if_icmp .ge 94, 3) := by decide +kernel
theorem dX3_putInOrder_18 : decode cX3_putInOrder 18 = .ok (.aload_n 0, 1) := by decide +kernel
theorem dX3_putInOrder_19 : decode cX3_putInOrder 19 = .ok (.getfield 25, 3) := by decide +kernel
theorem dX3_putInOrder_22 : decode cX3_putInOrder 22 = .ok (.iload_n 1, 1) := by decide +kernel
theorem dX3_putInOrder_23 : decode cX3_putInOrder 23 = .ok (.invokevirtual 45, 3) := by decide +kernel
theorem dX3_putInOrder_26 : decode cX3_putInOrder 26 = .ok (.ifCond .eq 77, 3) := by decide +kernel
theorem dX3_putInOrder_29 : decode cX3_putInOrder 29 = .ok (.aload_n 0, 1) := by decide +kernel
theorem dX3_putInOrder_30 : decode cX3_putInOrder 30 = .ok (.getfield 32, 3) := by decide +kernel
theorem dX3_putInOrder_33 : decode cX3_putInOrder 33 = .ok (.istore_n 2, 1) := by decide +kernel
theorem dX3_putInOrder_34 : decode cX3_putInOrder 34 = .ok (.iload_n 2, 1) := by decide +kernel
theorem dX3_putInOrder_35 : decode cX3_putInOrder 35 = .ok (.ifCond .le 51, 3) := by decide +kernel
theorem dX3_putInOrder_38 : decode cX3_putInOrder 38 = .ok (.aload_n 0, 1) := by decide +kernel
theorem dX3_putInOrder_39 : decode cX3_putInOrder 39 = .ok (.getfield 25, 3) := by decide +kernel
theorem dX3_putInOrder_42 : decode cX3_putInOrder 42 = .ok (.getfield 49, 3) := by decide +kernel
theorem dX3_putInOrder_45 : decode cX3_putInOrder 45 = .ok (.aload_n 0, 1) := by decide +kernel
theorem dX3_putInOrder_46 : decode cX3_putInOrder 46 = .ok (.getfield 9, 3) := by decide +kernel
theorem dX3_putInOrder_49 : decode cX3_putInOrder 49 = .ok (.iload_n 2, 1) := by decide +kernel
theorem dX3_putInOrder_50 : decode cX3_putInOrder 50 = .ok (.iconst 1, 1) := by decide +kernel
theorem dX3_putInOrder_51 : decode cX3_putInOrder 51 = .ok (.isub, 1) := by decide +kernel
theorem dX3_putInOrder_52 : decode cX3_putInOrder 52 = .ok (.iaload, 1) := by decide +kernel
theorem dX3_putInOrder_53 : decode cX3_putInOrder 53 = .ok (.iaload, 1) := by decide +kernel
theorem dX3_putInOrder_54 : decode cX3_putInOrder 54 = .ok (.aload_n 0, 1) := by decide +kernel
theorem dX3_putInOrder_55 : decode cX3_putInOrder 55 = .ok (.getfield 25, 3) := by decide +kernel
theorem dX3_putInOrder_58 : decode cX3_putInOrder 58 = .ok (.getfield 49, 3) := by decide +kernel
theorem dX3_putInOrder_61 : decode cX3_putInOrder 61 = .ok (.iload_n 1, 1) := by decide +kernel
theorem dX3_putInOrder_62 : decode cX3_putInOrder 62 = .ok (.iaload, 1) := by decide +kernel
theorem dX3_putInOrder_63 : decode cX3_putInOrder 63 = .ok (.if_icmp .le 23, 3) := by decide +kernel
theorem dX3_putInOrder_66 : decode cX3_putInOrder 66 = .ok (.aload_n 0, 1) := by decide +kernel
theorem dX3_putInOrder_67 : decode cX3_putInOrder 67 = .ok (.getfield 9, 3) := by decide +kernel
theorem dX3_putInOrder_70 : decode cX3_putInOrder 70 = .ok (.iload_n 2, 1) := by decide +kernel
theorem dX3_putInOrder_71 : decode cX3_putInOrder 71 = .ok (.aload_n 0, 1) := by decide +kernel
theorem dX3_putInOrder_72 : decode cX3_putInOrder 72 = .ok (.getfield 9, 3) := by decide +kernel
theorem dX3_putInOrder_75 : decode cX3_putInOrder 75 = .ok (.iload_n 2, 1) := by decide +kernel
theorem dX3_putInOrder_76 : decode cX3_putInOrder 76 = .ok (.iconst 1, 1) := by decide +kernel
theorem dX3_putInOrder_77 : decode cX3_putInOrder 77 = .ok (.isub, 1) := by decide +kernel
theorem dX3_putInOrder_78 : decode cX3_putInOrder 78 = .ok (.iaload, 1) := by decide +kernel
theorem dX3_putInOrder_79 : decode cX3_putInOrder 79 = .ok (.iastore, 1) := by decide +kernel
theorem dX3_putInOrder_80 : decode cX3_putInOrder 80 = .ok (.iinc 2 (-1), 3) := by decide +kernel
theorem dX3_putInOrder_83 : decode cX3_putInOrder 83 = .ok (.goto (-49), 3) := by decide +kernel
theorem dX3_putInOrder_86 : decode cX3_putInOrder 86 = .ok (.aload_n 0, 1) := by decide +kernel
theorem dX3_putInOrder_87 : decode cX3_putInOrder 87 = .ok (.getfield 9, 3) := by decide +kernel
theorem dX3_putInOrder_90 : decode cX3_putInOrder 90 = .ok (.iload_n 2, 1) := by decide +kernel
theorem dX3_putInOrder_91 : decode cX3_putInOrder 91 = .ok (.iload_n 1, 1) := by decide +kernel
theorem dX3_putInOrder_92 : decode cX3_putInOrder 92 = .ok (.iastore, 1) := by decide +kernel
theorem dX3_putInOrder_93 : decode cX3_putInOrder 93 = .ok (.aload_n 0, 1) := by decide +kernel
theorem dX3_putInOrder_94 : decode cX3_putInOrder 94 = .ok (.dup, 1) := by decide +kernel
theorem dX3_putInOrder_95 : decode cX3_putInOrder 95 = .ok (.getfield 32, 3) := by decide +kernel
theorem dX3_putInOrder_98 : decode cX3_putInOrder 98 = .ok (.iconst 1, 1) := by decide +kernel
theorem dX3_putInOrder_99 : decode cX3_putInOrder 99 = .ok (.iadd, 1) := by decide +kernel
theorem dX3_putInOrder_100 : decode cX3_putInOrder 100 = .ok (.putfield 32, 3) := by decide +kernel
theorem dX3_putInOrder_103 : decode cX3_putInOrder 103 = .ok (.iinc 1 1, 3) := by decide +kernel
theorem dX3_putInOrder_106 : decode cX3_putInOrder 106 = .ok (.goto (-99), 3) := by decide +kernel
theorem dX3_putInOrder_109 : decode cX3_putInOrder 109 = .ok (.return_, 1) := by decide +kernel
theorem dX3_consider_0 : decode cX3_consider 0 = .ok (.aload_n 0, 1) := by decide +kernel
theorem dX3_consider_1 : decode cX3_consider 1 = .ok (.getfield 22, 3) := by decide +kernel
theorem dX3_consider_4 : decode cX3_consider 4 = .ok (.aload_n 0, 1) := by decide +kernel
theorem dX3_consider_5 : decode cX3_consider 5 = .ok (.getfield 25, 3) := by decide +kernel
theorem dX3_consider_8 : decode cX3_consider 8 = .ok (.getfield 52, 3) := by decide +kernel
theorem dX3_consider_11 : decode cX3_consider 11 = .ok (.iload_n 1, 1) := by decide +kernel
theorem dX3_consider_12 : decode cX3_consider 12 = .ok (.iaload, 1) := by decide +kernel
theorem dX3_consider_13 : decode cX3_consider 13 = .ok (.iaload, 1) := by decide +kernel
theorem dX3_consider_14 : decode cX3_consider 14 = .ok (.istore_n 2, 1) := by decide +kernel
theorem dX3_consider_15 : decode cX3_consider 15 = .ok (.aload_n 0, 1) := by decide +kernel
theorem dX3_consider_16 : decode cX3_consider 16 = .ok (.getfield 22, 3) := by decide +kernel
theorem dX3_consider_19 : decode cX3_consider 19 = .ok (.aload_n 0, 1) := by decide +kernel
theorem dX3_consider_20 : decode cX3_consider 20 = .ok (.getfield 25, 3) := by decide +kernel
theorem dX3_consider_23 : decode cX3_consider 23 = .ok (.getfield 55, 3) := by decide +kernel
theorem dX3_consider_26 : decode cX3_consider 26 = .ok (.iload_n 1, 1) := by decide +kernel
theorem dX3_consider_27 : decode cX3_consider 27 = .ok (.iaload, 1) := by decide +kernel
theorem dX3_consider_28 : decode cX3_consider 28 = .ok (.iaload, 1) := by decide +kernel
theorem dX3_consider_29 : decode cX3_consider 29 = .ok (.istore_n 3, 1) := by decide +kernel
theorem dX3_consider_30 : decode cX3_consider 30 = .ok (.iload_n 2, 1) := by decide +kernel
theorem dX3_consider_31 : decode cX3_consider 31 = .ok (.iload_n 3, 1) := by decide +kernel
theorem dX3_consider_32 : decode cX3_consider 32 = .ok (.if_icmp .ne 4, 3) := by decide +kernel
theorem dX3_consider_35 : decode cX3_consider 35 = .ok (.return_, 1) := by decide +kernel
theorem dX3_consider_36 : decode cX3_consider 36 = .ok (.aload_n 0, 1) := by decide +kernel
theorem dX3_consider_37 : decode cX3_consider 37 = .ok (.getfield 19, 3) := by decide +kernel
theorem dX3_consider_40 : decode cX3_consider 40 = .ok (.iload_n 1, 1) := by decide +kernel
theorem dX3_consider_41 : decode cX3_consider 41 = .ok (.iconst 1, 1) := by decide +kernel
theorem dX3_consider_42 : decode cX3_consider 42 = .ok (.bastore, 1) := by decide +kernel
theorem dX3_consider_43 : decode cX3_consider 43 = .ok (.iload_n 2, 1) := by decide +kernel
theorem dX3_consider_44 : decode cX3_consider 44 = .ok (.iload_n 3, 1) := by decide +kernel
theorem dX3_consider_45 : decode cX3_consider 45 = .ok (.invokestatic 58, 3) := by decide +kernel
theorem dX3_consider_48 : decode cX3_consider 48 = .ok (.istore 4, 2) := by decide +kernel
theorem dX3_consider_50 : decode cX3_consider 50 = .ok (.iload_n 2, 1) := by decide +kernel
theorem dX3_consider_51 : decode cX3_consider 51 = .ok (.iload_n 3, 1) := by decide +kernel
theorem dX3_consider_52 : decode cX3_consider 52 = .ok (.invokestatic 64, 3) := by decide +kernel
theorem dX3_consider_55 : decode cX3_consider 55 = .ok (.istore 5, 2) := by decide +kernel
theorem dX3_consider_57 : decode cX3_consider 57 = .ok (.iconst 0, 1) := by decide +kernel
theorem dX3_consider_58 : decode cX3_consider 58 = .ok (.istore 6, 2) := by decide +kernel
theorem dX3_consider_60 : decode cX3_consider 60 = .ok (.iload 6, 2) := by decide +kernel
theorem dX3_consider_62 : decode cX3_consider 62 = .ok (.aload_n 0, 1) := by decide +kernel
theorem dX3_consider_63 : decode cX3_consider 63 = .ok (.getfield 25, 3) := by decide +kernel
theorem dX3_consider_66 : decode cX3_consider 66 = .ok (.getfield 67, 3) := by decide +kernel
theorem dX3_consider_69 : decode cX3_consider 69 = .ok (.if_icmp .ge 30, 3) := by decide +kernel
theorem dX3_consider_72 : decode cX3_consider 72 = .ok (.aload_n 0, 1) := by decide +kernel
theorem dX3_consider_73 : decode cX3_consider 73 = .ok (.getfield 22, 3) := by decide +kernel
theorem dX3_consider_76 : decode cX3_consider 76 = .ok (.iload 6, 2) := by decide +kernel
theorem dX3_consider_78 : decode cX3_consider 78 = .ok (.iaload, 1) := by decide +kernel
theorem dX3_consider_79 : decode cX3_consider 79 = .ok (.iload 5, 2) := by decide +kernel
theorem dX3_consider_81 : decode cX3_consider 81 = .ok (.if_icmp .ne 12, 3) := by decide +kernel
theorem dX3_consider_84 : decode cX3_consider 84 = .ok (.aload_n 0, 1) := by decide +kernel
theorem dX3_consider_85 : decode cX3_consider 85 = .ok (.getfield 22, 3) := by decide +kernel
theorem dX3_consider_88 : decode cX3_consider 88 = .ok (.iload 6, 2) := by decide +kernel
theorem dX3_consider_90 : decode cX3_consider 90 = .ok (.iload 4, 2) := by decide +kernel
theorem dX3_consider_92 : decode cX3_consider 92 = .ok (.iastore, 1) := by decide +kernel
theorem dX3_consider_93 : decode cX3_consider 93 = .ok (.iinc 6 1, 3) := by decide +kernel
theorem dX3_consider_96 : decode cX3_consider 96 = .ok (.goto (-36), 3) := by decide +kernel
theorem dX3_consider_99 : decode cX3_consider 99 = .ok (.return_, 1) := by decide +kernel
theorem dX3_takenLength_0 : decode cX3_takenLength 0 = .ok (.iconst 0, 1) := by decide +kernel
theorem dX3_takenLength_1 : decode cX3_takenLength 1 = .ok (.istore_n 1, 1) := by decide +kernel
theorem dX3_takenLength_2 : decode cX3_takenLength 2 = .ok (.iconst 0, 1) := by decide +kernel
theorem dX3_takenLength_3 : decode cX3_takenLength 3 = .ok (.istore_n 2, 1) := by decide +kernel
theorem dX3_takenLength_4 : decode cX3_takenLength 4 = .ok (.iload_n 2, 1) := by decide +kernel
theorem dX3_takenLength_5 : decode cX3_takenLength 5 = .ok (.aload_n 0, 1) := by decide +kernel
theorem dX3_takenLength_6 : decode cX3_takenLength 6 = .ok (.getfield 25, 3) := by decide +kernel
theorem dX3_takenLength_9 : decode cX3_takenLength 9 = .ok (.getfield 40, 3) := by decide +kernel
theorem dX3_takenLength_12 : decode cX3_takenLength 12 = .ok (.if_icmp .ge 34, 3) := by decide +kernel
theorem dX3_takenLength_15 : decode cX3_takenLength 15 = .ok (.iload_n 1, 1) := by decide +kernel
theorem dX3_takenLength_16 : decode cX3_takenLength 16 = .ok (.aload_n 0, 1) := by decide +kernel
theorem dX3_takenLength_17 : decode cX3_takenLength 17 = .ok (.getfield 19, 3) := by decide +kernel
theorem dX3_takenLength_20 : decode cX3_takenLength 20 = .ok (.iload_n 2, 1) := by decide +kernel
theorem dX3_takenLength_21 : decode cX3_takenLength 21 = .ok (.baload, 1) := by decide +kernel
theorem dX3_takenLength_22 : decode cX3_takenLength 22 = .ok (.ifCond .eq 15, 3) := by decide +kernel
theorem dX3_takenLength_25 : decode cX3_takenLength 25 = .ok (.aload_n 0, 1) := by decide +kernel
theorem dX3_takenLength_26 : decode cX3_takenLength 26 = .ok (.getfield 25, 3) := by decide +kernel
theorem dX3_takenLength_29 : decode cX3_takenLength 29 = .ok (.getfield 49, 3) := by decide +kernel
theorem dX3_takenLength_32 : decode cX3_takenLength 32 = .ok (.iload_n 2, 1) := by decide +kernel
theorem dX3_takenLength_33 : decode cX3_takenLength 33 = .ok (.iaload, 1) := by decide +kernel
theorem dX3_takenLength_34 : decode cX3_takenLength 34 = .ok (.goto 4, 3) := by decide +kernel
theorem dX3_takenLength_37 : decode cX3_takenLength 37 = .ok (.iconst 0, 1) := by decide +kernel
theorem dX3_takenLength_38 : decode cX3_takenLength 38 = .ok (.iadd, 1) := by decide +kernel
theorem dX3_takenLength_39 : decode cX3_takenLength 39 = .ok (.istore_n 1, 1) := by decide +kernel
theorem dX3_takenLength_40 : decode cX3_takenLength 40 = .ok (.iinc 2 1, 3) := by decide +kernel
theorem dX3_takenLength_43 : decode cX3_takenLength 43 = .ok (.goto (-39), 3) := by decide +kernel
theorem dX3_takenLength_46 : decode cX3_takenLength 46 = .ok (.iload_n 1, 1) := by decide +kernel
theorem dX3_takenLength_47 : decode cX3_takenLength 47 = .ok (.ireturn, 1) := by decide +kernel
theorem dX3_grownLength_0 : decode cX3_grownLength 0 = .ok (.iconst 0, 1) := by decide +kernel
theorem dX3_grownLength_1 : decode cX3_grownLength 1 = .ok (.istore_n 1, 1) := by decide +kernel
theorem dX3_grownLength_2 : decode cX3_grownLength 2 = .ok (.iload_n 1, 1) := by decide +kernel
theorem dX3_grownLength_3 : decode cX3_grownLength 3 = .ok (.bipush 10, 2) := by decide +kernel
theorem dX3_grownLength_5 : decode cX3_grownLength 5 = .ok (.if_icmp .ge 16, 3) := by decide +kernel
theorem dX3_grownLength_8 : decode cX3_grownLength 8 = .ok (.aload_n 0, 1) := by decide +kernel
theorem dX3_grownLength_9 : decode cX3_grownLength 9 = .ok (.getfield 15, 3) := by decide +kernel
theorem dX3_grownLength_12 : decode cX3_grownLength 12 = .ok (.iload_n 1, 1) := by decide +kernel
theorem dX3_grownLength_13 : decode cX3_grownLength 13 = .ok (.iconst 0, 1) := by decide +kernel
theorem dX3_grownLength_14 : decode cX3_grownLength 14 = .ok (.bastore, 1) := by decide +kernel
theorem dX3_grownLength_15 : decode cX3_grownLength 15 = .ok (.iinc 1 1, 3) := by decide +kernel
theorem dX3_grownLength_18 : decode cX3_grownLength 18 = .ok (.goto (-16), 3) := by decide +kernel
theorem dX3_grownLength_21 : decode cX3_grownLength 21 = .ok (.iconst 0, 1) := by decide +kernel
theorem dX3_grownLength_22 : decode cX3_grownLength 22 = .ok (.istore_n 1, 1) := by decide +kernel
theorem dX3_grownLength_23 : decode cX3_grownLength 23 = .ok (.iconst 0, 1) := by decide +kernel
theorem dX3_grownLength_24 : decode cX3_grownLength 24 = .ok (.istore_n 2, 1) := by decide +kernel
theorem dX3_grownLength_25 : decode cX3_grownLength 25 = .ok (.iload_n 2, 1) := by decide +kernel
theorem dX3_grownLength_26 : decode cX3_grownLength 26 = .ok (.aload_n 0, 1) := by decide +kernel
theorem dX3_grownLength_27 : decode cX3_grownLength 27 = .ok (.getfield 25, 3) := by decide +kernel
theorem dX3_grownLength_30 : decode cX3_grownLength 30 = .ok (.getfield 67, 3) := by decide +kernel
theorem dX3_grownLength_33 : decode cX3_grownLength 33 = .ok (.if_icmp .ge 32, 3) := by decide +kernel
theorem dX3_grownLength_36 : decode cX3_grownLength 36 = .ok (.aload_n 0, 1) := by decide +kernel
theorem dX3_grownLength_37 : decode cX3_grownLength 37 = .ok (.getfield 15, 3) := by decide +kernel
theorem dX3_grownLength_40 : decode cX3_grownLength 40 = .ok (.iload_n 2, 1) := by decide +kernel
theorem dX3_grownLength_41 : decode cX3_grownLength 41 = .ok (.baload, 1) := by decide +kernel
theorem dX3_grownLength_42 : decode cX3_grownLength 42 = .ok (.ifCond .ne 17, 3) := by decide +kernel
theorem dX3_grownLength_45 : decode cX3_grownLength 45 = .ok (.aload_n 0, 1) := by decide +kernel
theorem dX3_grownLength_46 : decode cX3_grownLength 46 = .ok (.getfield 15, 3) := by decide +kernel
theorem dX3_grownLength_49 : decode cX3_grownLength 49 = .ok (.iload_n 2, 1) := by decide +kernel
theorem dX3_grownLength_50 : decode cX3_grownLength 50 = .ok (.iconst 1, 1) := by decide +kernel
theorem dX3_grownLength_51 : decode cX3_grownLength 51 = .ok (.bastore, 1) := by decide +kernel
theorem dX3_grownLength_52 : decode cX3_grownLength 52 = .ok (.iload_n 1, 1) := by decide +kernel
theorem dX3_grownLength_53 : decode cX3_grownLength 53 = .ok (.aload_n 0, 1) := by decide +kernel
theorem dX3_grownLength_54 : decode cX3_grownLength 54 = .ok (.invokevirtual 70, 3) := by decide +kernel
theorem dX3_grownLength_57 : decode cX3_grownLength 57 = .ok (.iadd, 1) := by decide +kernel
theorem dX3_grownLength_58 : decode cX3_grownLength 58 = .ok (.istore_n 1, 1) := by decide +kernel
theorem dX3_grownLength_59 : decode cX3_grownLength 59 = .ok (.iinc 2 1, 3) := by decide +kernel
theorem dX3_grownLength_62 : decode cX3_grownLength 62 = .ok (.goto (-37), 3) := by decide +kernel
theorem dX3_grownLength_65 : decode cX3_grownLength 65 = .ok (.iload_n 1, 1) := by decide +kernel
theorem dX3_grownLength_66 : decode cX3_grownLength 66 = .ok (.ireturn, 1) := by decide +kernel
theorem dX3_growReached_0 : decode cX3_growReached 0 = .ok (.iconst 0, 1) := by decide +kernel
theorem dX3_growReached_1 : decode cX3_growReached 1 = .ok (.istore_n 1, 1) := by decide +kernel
theorem dX3_growReached_2 : decode cX3_growReached 2 = .ok (.iconst 1, 1) := by decide +kernel
theorem dX3_growReached_3 : decode cX3_growReached 3 = .ok (.istore_n 2, 1) := by decide +kernel
theorem dX3_growReached_4 : decode cX3_growReached 4 = .ok (.iload_n 2, 1) := by decide +kernel
theorem dX3_growReached_5 : decode cX3_growReached 5 = .ok (.bipush 10, 2) := by decide +kernel
theorem dX3_growReached_7 : decode cX3_growReached 7 = .ok (.if_icmp .ge 64, 3) := by decide +kernel
theorem dX3_growReached_10 : decode cX3_growReached 10 = .ok (.aload_n 0, 1) := by decide +kernel
theorem dX3_growReached_11 : decode cX3_growReached 11 = .ok (.invokevirtual 74, 3) := by decide +kernel
theorem dX3_growReached_14 : decode cX3_growReached 14 = .ok (.istore_n 3, 1) := by decide +kernel
theorem dX3_growReached_15 : decode cX3_growReached 15 = .ok (.iload_n 3, 1) := by decide +kernel
theorem dX3_growReached_16 : decode cX3_growReached 16 = .ok (.iconst (-1), 1) := by decide +kernel
theorem dX3_growReached_17 : decode cX3_growReached 17 = .ok (.if_icmp .ne 6, 3) := by decide +kernel
theorem dX3_growReached_20 : decode cX3_growReached 20 = .ok (.goto 51, 3) := by decide +kernel
theorem dX3_growReached_23 : decode cX3_growReached 23 = .ok (.aload_n 0, 1) := by decide +kernel
theorem dX3_growReached_24 : decode cX3_growReached 24 = .ok (.getfield 15, 3) := by decide +kernel
theorem dX3_growReached_27 : decode cX3_growReached 27 = .ok (.aload_n 0, 1) := by decide +kernel
theorem dX3_growReached_28 : decode cX3_growReached 28 = .ok (.getfield 25, 3) := by decide +kernel
theorem dX3_growReached_31 : decode cX3_growReached 31 = .ok (.getfield 52, 3) := by decide +kernel
theorem dX3_growReached_34 : decode cX3_growReached 34 = .ok (.iload_n 3, 1) := by decide +kernel
theorem dX3_growReached_35 : decode cX3_growReached 35 = .ok (.iaload, 1) := by decide +kernel
theorem dX3_growReached_36 : decode cX3_growReached 36 = .ok (.iconst 1, 1) := by decide +kernel
theorem dX3_growReached_37 : decode cX3_growReached 37 = .ok (.bastore, 1) := by decide +kernel
theorem dX3_growReached_38 : decode cX3_growReached 38 = .ok (.aload_n 0, 1) := by decide +kernel
theorem dX3_growReached_39 : decode cX3_growReached 39 = .ok (.getfield 15, 3) := by decide +kernel
theorem dX3_growReached_42 : decode cX3_growReached 42 = .ok (.aload_n 0, 1) := by decide +kernel
theorem dX3_growReached_43 : decode cX3_growReached 43 = .ok (.getfield 25, 3) := by decide +kernel
theorem dX3_growReached_46 : decode cX3_growReached 46 = .ok (.getfield 55, 3) := by decide +kernel
theorem dX3_growReached_49 : decode cX3_growReached 49 = .ok (.iload_n 3, 1) := by decide +kernel
theorem dX3_growReached_50 : decode cX3_growReached 50 = .ok (.iaload, 1) := by decide +kernel
theorem dX3_growReached_51 : decode cX3_growReached 51 = .ok (.iconst 1, 1) := by decide +kernel
theorem dX3_growReached_52 : decode cX3_growReached 52 = .ok (.bastore, 1) := by decide +kernel
theorem dX3_growReached_53 : decode cX3_growReached 53 = .ok (.iload_n 1, 1) := by decide +kernel
theorem dX3_growReached_54 : decode cX3_growReached 54 = .ok (.aload_n 0, 1) := by decide +kernel
theorem dX3_growReached_55 : decode cX3_growReached 55 = .ok (.getfield 25, 3) := by decide +kernel
theorem dX3_growReached_58 : decode cX3_growReached 58 = .ok (.getfield 49, 3) := by decide +kernel
theorem dX3_growReached_61 : decode cX3_growReached 61 = .ok (.iload_n 3, 1) := by decide +kernel
theorem dX3_growReached_62 : decode cX3_growReached 62 = .ok (.iaload, 1) := by decide +kernel
theorem dX3_growReached_63 : decode cX3_growReached 63 = .ok (.iadd, 1) := by decide +kernel
theorem dX3_growReached_64 : decode cX3_growReached 64 = .ok (.istore_n 1, 1) := by decide +kernel
theorem dX3_growReached_65 : decode cX3_growReached 65 = .ok (.iinc 2 1, 3) := by decide +kernel
theorem dX3_growReached_68 : decode cX3_growReached 68 = .ok (.goto (-64), 3) := by decide +kernel
theorem dX3_growReached_71 : decode cX3_growReached 71 = .ok (.iload_n 1, 1) := by decide +kernel
theorem dX3_growReached_72 : decode cX3_growReached 72 = .ok (.ireturn, 1) := by decide +kernel
theorem dX3_firstLineOutOfReached_0 : decode cX3_firstLineOutOfReached 0 = .ok (.iconst 0, 1) := by decide +kernel
theorem dX3_firstLineOutOfReached_1 : decode cX3_firstLineOutOfReached 1 = .ok (.istore_n 1, 1) := by decide +kernel
theorem dX3_firstLineOutOfReached_2 : decode cX3_firstLineOutOfReached 2 = .ok (.iload_n 1, 1) := by decide +kernel
theorem dX3_firstLineOutOfReached_3 : decode cX3_firstLineOutOfReached 3 = .ok (.aload_n 0, 1) := by decide +kernel
theorem dX3_firstLineOutOfReached_4 : decode cX3_firstLineOutOfReached 4 = .ok (.getfield 32, 3) := by decide +kernel
theorem dX3_firstLineOutOfReached_7 : decode cX3_firstLineOutOfReached 7 = .ok (.if_icmp .ge 49, 3) := by decide +kernel
theorem dX3_firstLineOutOfReached_10 : decode cX3_firstLineOutOfReached 10 = .ok (.aload_n 0, 1) := by decide +kernel
theorem dX3_firstLineOutOfReached_11 : decode cX3_firstLineOutOfReached 11 = .ok (.getfield 9, 3) := by decide +kernel
theorem dX3_firstLineOutOfReached_14 : decode cX3_firstLineOutOfReached 14 = .ok (.iload_n 1, 1) := by decide +kernel
theorem dX3_firstLineOutOfReached_15 : decode cX3_firstLineOutOfReached 15 = .ok (.iaload, 1) := by decide +kernel
theorem dX3_firstLineOutOfReached_16 : decode cX3_firstLineOutOfReached 16 = .ok (.istore_n 2, 1) := by decide +kernel
theorem dX3_firstLineOutOfReached_17 : decode cX3_firstLineOutOfReached 17 = .ok (.aload_n 0, 1) := by decide +kernel
theorem dX3_firstLineOutOfReached_18 : decode cX3_firstLineOutOfReached 18 = .ok (.getfield 15, 3) := by decide +kernel
theorem dX3_firstLineOutOfReached_21 : decode cX3_firstLineOutOfReached 21 = .ok (.aload_n 0, 1) := by decide +kernel
theorem dX3_firstLineOutOfReached_22 : decode cX3_firstLineOutOfReached 22 = .ok (.getfield 25, 3) := by decide +kernel
theorem dX3_firstLineOutOfReached_25 : decode cX3_firstLineOutOfReached 25 = .ok (.getfield 52, 3) := by decide +kernel
theorem dX3_firstLineOutOfReached_28 : decode cX3_firstLineOutOfReached 28 = .ok (.iload_n 2, 1) := by decide +kernel
theorem dX3_firstLineOutOfReached_29 : decode cX3_firstLineOutOfReached 29 = .ok (.iaload, 1) := by decide +kernel
theorem dX3_firstLineOutOfReached_30 : decode cX3_firstLineOutOfReached 30 = .ok (.baload, 1) := by decide +kernel
theorem dX3_firstLineOutOfReached_31 : decode cX3_firstLineOutOfReached 31 = .ok (.aload_n 0, 1) := by decide +kernel
theorem dX3_firstLineOutOfReached_32 : decode cX3_firstLineOutOfReached 32 = .ok (.getfield 15, 3) := by decide +kernel
theorem dX3_firstLineOutOfReached_35 : decode cX3_firstLineOutOfReached 35 = .ok (.aload_n 0, 1) := by decide +kernel
theorem dX3_firstLineOutOfReached_36 : decode cX3_firstLineOutOfReached 36 = .ok (.getfield 25, 3) := by decide +kernel
theorem dX3_firstLineOutOfReached_39 : decode cX3_firstLineOutOfReached 39 = .ok (.getfield 55, 3) := by decide +kernel
theorem dX3_firstLineOutOfReached_42 : decode cX3_firstLineOutOfReached 42 = .ok (.iload_n 2, 1) := by decide +kernel
theorem dX3_firstLineOutOfReached_43 : decode cX3_firstLineOutOfReached 43 = .ok (.iaload, 1) := by decide +kernel
theorem dX3_firstLineOutOfReached_44 : decode cX3_firstLineOutOfReached 44 = .ok (.baload, 1) := by decide +kernel
theorem dX3_firstLineOutOfReached_45 : decode cX3_firstLineOutOfReached 45 = .ok (.if_icmp .eq 5, 3) := by decide +kernel
theorem dX3_firstLineOutOfReached_48 : decode cX3_firstLineOutOfReached 48 = .ok (.iload_n 2, 1) := by decide +kernel
theorem dX3_firstLineOutOfReached_49 : decode cX3_firstLineOutOfReached 49 = .ok (.ireturn, 1) := by decide +kernel
theorem dX3_firstLineOutOfReached_50 : decode cX3_firstLineOutOfReached 50 = .ok (.iinc 1 1, 3) := by decide +kernel
theorem dX3_firstLineOutOfReached_53 : decode cX3_firstLineOutOfReached 53 = .ok (.goto (-51), 3) := by decide +kernel
theorem dX3_firstLineOutOfReached_56 : decode cX3_firstLineOutOfReached 56 = .ok (.iconst (-1), 1) := by decide +kernel
theorem dX3_firstLineOutOfReached_57 : decode cX3_firstLineOutOfReached 57 = .ok (.ireturn, 1) := by decide +kernel
theorem dX3_trees_0 : decode cX3_trees 0 = .ok (.iconst 0, 1) := by decide +kernel
theorem dX3_trees_1 : decode cX3_trees 1 = .ok (.istore_n 1, 1) := by decide +kernel
theorem dX3_trees_2 : decode cX3_trees 2 = .ok (.iconst 0, 1) := by decide +kernel
theorem dX3_trees_3 : decode cX3_trees 3 = .ok (.istore_n 2, 1) := by decide +kernel
theorem dX3_trees_4 : decode cX3_trees 4 = .ok (.iload_n 2, 1) := by decide +kernel
theorem dX3_trees_5 : decode cX3_trees 5 = .ok (.aload_n 0, 1) := by decide +kernel
theorem dX3_trees_6 : decode cX3_trees 6 = .ok (.getfield 25, 3) := by decide +kernel
theorem dX3_trees_9 : decode cX3_trees 9 = .ok (.getfield 67, 3) := by decide +kernel
theorem dX3_trees_12 : decode cX3_trees 12 = .ok (.if_icmp .ge 27, 3) := by decide +kernel
theorem dX3_trees_15 : decode cX3_trees 15 = .ok (.iload_n 1, 1) := by decide +kernel
theorem dX3_trees_16 : decode cX3_trees 16 = .ok (.aload_n 0, 1) := by decide +kernel
theorem dX3_trees_17 : decode cX3_trees 17 = .ok (.getfield 22, 3) := by decide +kernel
theorem dX3_trees_20 : decode cX3_trees 20 = .ok (.iload_n 2, 1) := by decide +kernel
theorem dX3_trees_21 : decode cX3_trees 21 = .ok (.iaload, 1) := by decide +kernel
theorem dX3_trees_22 : decode cX3_trees 22 = .ok (.iload_n 2, 1) := by decide +kernel
theorem dX3_trees_23 : decode cX3_trees 23 = .ok (.if_icmp .ne 7, 3) := by decide +kernel
theorem dX3_trees_26 : decode cX3_trees 26 = .ok (.iconst 1, 1) := by decide +kernel
theorem dX3_trees_27 : decode cX3_trees 27 = .ok (.goto 4, 3) := by decide +kernel
theorem dX3_trees_30 : decode cX3_trees 30 = .ok (.iconst 0, 1) := by decide +kernel
theorem dX3_trees_31 : decode cX3_trees 31 = .ok (.iadd, 1) := by decide +kernel
theorem dX3_trees_32 : decode cX3_trees 32 = .ok (.istore_n 1, 1) := by decide +kernel
theorem dX3_trees_33 : decode cX3_trees 33 = .ok (.iinc 2 1, 3) := by decide +kernel
theorem dX3_trees_36 : decode cX3_trees 36 = .ok (.goto (-32), 3) := by decide +kernel
theorem dX3_trees_39 : decode cX3_trees 39 = .ok (.iload_n 1, 1) := by decide +kernel
theorem dX3_trees_40 : decode cX3_trees 40 = .ok (.ireturn, 1) := by decide +kernel
theorem dX3_closesLoop_0 : decode cX3_closesLoop 0 = .ok (.aload_n 0, 1) := by decide +kernel
theorem dX3_closesLoop_1 : decode cX3_closesLoop 1 = .ok (.getfield 25, 3) := by decide +kernel
theorem dX3_closesLoop_4 : decode cX3_closesLoop 4 = .ok (.iload_n 1, 1) := by decide +kernel
theorem dX3_closesLoop_5 : decode cX3_closesLoop 5 = .ok (.invokevirtual 45, 3) := by decide +kernel
theorem dX3_closesLoop_8 : decode cX3_closesLoop 8 = .ok (.ifCond .eq 16, 3) := by decide +kernel
theorem dX3_closesLoop_11 : decode cX3_closesLoop 11 = .ok (.aload_n 0, 1) := by decide +kernel
theorem dX3_closesLoop_12 : decode cX3_closesLoop 12 = .ok (.getfield 19, 3) := by decide +kernel
theorem dX3_closesLoop_15 : decode cX3_closesLoop 15 = .ok (.iload_n 1, 1) := by decide +kernel
theorem dX3_closesLoop_16 : decode cX3_closesLoop 16 = .ok (.baload, 1) := by decide +kernel
theorem dX3_closesLoop_17 : decode cX3_closesLoop 17 = .ok (.ifCond .ne 7, 3) := by decide +kernel
theorem dX3_closesLoop_20 : decode cX3_closesLoop 20 = .ok (.iconst 1, 1) := by decide +kernel
theorem dX3_closesLoop_21 : decode cX3_closesLoop 21 = .ok (.goto 4, 3) := by decide +kernel
theorem dX3_closesLoop_24 : decode cX3_closesLoop 24 = .ok (.iconst 0, 1) := by decide +kernel
theorem dX3_closesLoop_25 : decode cX3_closesLoop 25 = .ok (.ireturn, 1) := by decide +kernel
theorem dX3_loops_0 : decode cX3_loops 0 = .ok (.iconst 0, 1) := by decide +kernel
theorem dX3_loops_1 : decode cX3_loops 1 = .ok (.istore_n 1, 1) := by decide +kernel
theorem dX3_loops_2 : decode cX3_loops 2 = .ok (.iconst 0, 1) := by decide +kernel
theorem dX3_loops_3 : decode cX3_loops 3 = .ok (.istore_n 2, 1) := by decide +kernel
theorem dX3_loops_4 : decode cX3_loops 4 = .ok (.iload_n 2, 1) := by decide +kernel
theorem dX3_loops_5 : decode cX3_loops 5 = .ok (.aload_n 0, 1) := by decide +kernel
theorem dX3_loops_6 : decode cX3_loops 6 = .ok (.getfield 25, 3) := by decide +kernel
theorem dX3_loops_9 : decode cX3_loops 9 = .ok (.getfield 40, 3) := by decide +kernel
theorem dX3_loops_12 : decode cX3_loops 12 = .ok (.if_icmp .ge 25, 3) := by decide +kernel
theorem dX3_loops_15 : decode cX3_loops 15 = .ok (.iload_n 1, 1) := by decide +kernel
theorem dX3_loops_16 : decode cX3_loops 16 = .ok (.aload_n 0, 1) := by decide +kernel
theorem dX3_loops_17 : decode cX3_loops 17 = .ok (.iload_n 2, 1) := by decide +kernel
theorem dX3_loops_18 : decode cX3_loops 18 = .ok (.invokevirtual 77, 3) := by decide +kernel
theorem dX3_loops_21 : decode cX3_loops 21 = .ok (.ifCond .eq 7, 3) := by decide +kernel
theorem dX3_loops_24 : decode cX3_loops 24 = .ok (.iconst 1, 1) := by decide +kernel
theorem dX3_loops_25 : decode cX3_loops 25 = .ok (.goto 4, 3) := by decide +kernel
theorem dX3_loops_28 : decode cX3_loops 28 = .ok (.iconst 0, 1) := by decide +kernel
theorem dX3_loops_29 : decode cX3_loops 29 = .ok (.iadd, 1) := by decide +kernel
theorem dX3_loops_30 : decode cX3_loops 30 = .ok (.istore_n 1, 1) := by decide +kernel
theorem dX3_loops_31 : decode cX3_loops 31 = .ok (.iinc 2 1, 3) := by decide +kernel
theorem dX3_loops_34 : decode cX3_loops 34 = .ok (.goto (-30), 3) := by decide +kernel
theorem dX3_loops_37 : decode cX3_loops 37 = .ok (.iload_n 1, 1) := by decide +kernel
theorem dX3_loops_38 : decode cX3_loops 38 = .ok (.ireturn, 1) := by decide +kernel
theorem dX3_closingLineAt_0 : decode cX3_closingLineAt 0 = .ok (.iconst 0, 1) := by decide +kernel
theorem dX3_closingLineAt_1 : decode cX3_closingLineAt 1 = .ok (.istore_n 2, 1) := by decide +kernel
theorem dX3_closingLineAt_2 : decode cX3_closingLineAt 2 = .ok (.iconst 0, 1) := by decide +kernel
theorem dX3_closingLineAt_3 : decode cX3_closingLineAt 3 = .ok (.istore_n 3, 1) := by decide +kernel
theorem dX3_closingLineAt_4 : decode cX3_closingLineAt 4 = .ok (.iload_n 3, 1) := by decide +kernel
theorem dX3_closingLineAt_5 : decode cX3_closingLineAt 5 = .ok (.aload_n 0, 1) := by decide +kernel
theorem dX3_closingLineAt_6 : decode cX3_closingLineAt 6 = .ok (.getfield 25, 3) := by decide +kernel
theorem dX3_closingLineAt_9 : decode cX3_closingLineAt 9 = .ok (.getfield 40, 3) := by decide +kernel
theorem dX3_closingLineAt_12 : decode cX3_closingLineAt 12 = .ok (.if_icmp .ge 27, 3) := by decide +kernel
theorem dX3_closingLineAt_15 : decode cX3_closingLineAt 15 = .ok (.aload_n 0, 1) := by decide +kernel
theorem dX3_closingLineAt_16 : decode cX3_closingLineAt 16 = .ok (.iload_n 3, 1) := by decide +kernel
theorem dX3_closingLineAt_17 : decode cX3_closingLineAt 17 = .ok (.invokevirtual 77, 3) := by decide +kernel
theorem dX3_closingLineAt_20 : decode cX3_closingLineAt 20 = .ok (.ifCond .eq 13, 3) := by decide +kernel
theorem dX3_closingLineAt_23 : decode cX3_closingLineAt 23 = .ok (.iload_n 2, 1) := by decide +kernel
theorem dX3_closingLineAt_24 : decode cX3_closingLineAt 24 = .ok (.iload_n 1, 1) := by decide +kernel
theorem dX3_closingLineAt_25 : decode cX3_closingLineAt 25 = .ok (.if_icmp .ne 5, 3) := by decide +kernel
theorem dX3_closingLineAt_28 : decode cX3_closingLineAt 28 = .ok (.iload_n 3, 1) := by decide +kernel
theorem dX3_closingLineAt_29 : decode cX3_closingLineAt 29 = .ok (.ireturn, 1) := by decide +kernel
theorem dX3_closingLineAt_30 : decode cX3_closingLineAt 30 = .ok (.iinc 2 1, 3) := by decide +kernel
theorem dX3_closingLineAt_33 : decode cX3_closingLineAt 33 = .ok (.iinc 3 1, 3) := by decide +kernel
theorem dX3_closingLineAt_36 : decode cX3_closingLineAt 36 = .ok (.goto (-32), 3) := by decide +kernel
theorem dX3_closingLineAt_39 : decode cX3_closingLineAt 39 = .ok (.iconst (-1), 1) := by decide +kernel
theorem dX3_closingLineAt_40 : decode cX3_closingLineAt 40 = .ok (.ireturn, 1) := by decide +kernel
theorem dX4_init_0 : decode cX4_init 0 = .ok (.aload_n 0, 1) := by decide +kernel
theorem dX4_init_1 : decode cX4_init 1 = .ok (.invokespecial 3, 3) := by decide +kernel
theorem dX4_init_4 : decode cX4_init 4 = .ok (.aload_n 0, 1) := by decide +kernel
theorem dX4_init_5 : decode cX4_init 5 = .ok (.bipush 10, 2) := by decide +kernel
theorem dX4_init_7 : decode cX4_init 7 = .ok (.newarray .boolean, 2) := by decide +kernel
theorem dX4_init_9 : decode cX4_init 9 = .ok (.putfield 9, 3) := by decide +kernel
theorem dX4_init_12 : decode cX4_init 12 = .ok (.aload_n 0, 1) := by decide +kernel
theorem dX4_init_13 : decode cX4_init 13 = .ok (.bipush 10, 2) := by decide +kernel
theorem dX4_init_15 : decode cX4_init 15 = .ok (.newarray .int, 2) := by decide +kernel
theorem dX4_init_17 : decode cX4_init 17 = .ok (.putfield 15, 3) := by decide +kernel
theorem dX4_init_20 : decode cX4_init 20 = .ok (.aload_n 0, 1) := by decide +kernel
theorem dX4_init_21 : decode cX4_init 21 = .ok (.aload_n 1, 1) := by decide +kernel
theorem dX4_init_22 : decode cX4_init 22 = .ok (.putfield 19, 3) := by decide +kernel
theorem dX4_init_25 : decode cX4_init 25 = .ok (.aload_n 0, 1) := by decide +kernel
theorem dX4_init_26 : decode cX4_init 26 = .ok (.aload_n 2, 1) := by decide +kernel
theorem dX4_init_27 : decode cX4_init 27 = .ok (.putfield 23, 3) := by decide +kernel
theorem dX4_init_30 : decode cX4_init 30 = .ok (.aload_n 0, 1) := by decide +kernel
theorem dX4_init_31 : decode cX4_init 31 = .ok (.new 27, 3) := by decide +kernel
theorem dX4_init_34 : decode cX4_init 34 = .ok (.dup, 1) := by decide +kernel
theorem dX4_init_35 : decode cX4_init 35 = .ok (.aload_n 1, 1) := by decide +kernel
theorem dX4_init_36 : decode cX4_init 36 = .ok (.aload_n 2, 1) := by decide +kernel
theorem dX4_init_37 : decode cX4_init 37 = .ok (.invokespecial 29, 3) := by decide +kernel
theorem dX4_init_40 : decode cX4_init 40 = .ok (.putfield 32, 3) := by decide +kernel
theorem dX4_init_43 : decode cX4_init 43 = .ok (.return_, 1) := by decide +kernel
theorem dX4_datumOf_0 : decode cX4_datumOf 0 = .ok (.iconst 0, 1) := by decide +kernel
theorem dX4_datumOf_1 : decode cX4_datumOf 1 = .ok (.istore_n 2, 1) := by decide +kernel
theorem dX4_datumOf_2 : decode cX4_datumOf 2 = .ok (.iload_n 2, 1) := by decide +kernel
theorem dX4_datumOf_3 : decode cX4_datumOf 3 = .ok (.aload_n 0, 1) := by decide +kernel
theorem dX4_datumOf_4 : decode cX4_datumOf 4 = .ok (.getfield 19, 3) := by decide +kernel
theorem dX4_datumOf_7 : decode cX4_datumOf 7 = .ok (.getfield 36, 3) := by decide +kernel
theorem dX4_datumOf_10 : decode cX4_datumOf 10 = .ok (.if_icmp .ge 44, 3) := by decide +kernel
theorem dX4_datumOf_13 : decode cX4_datumOf 13 = .ok (.aload_n 0, 1) := by decide +kernel
theorem dX4_datumOf_14 : decode cX4_datumOf 14 = .ok (.getfield 19, 3) := by decide +kernel
theorem dX4_datumOf_17 : decode cX4_datumOf 17 = .ok (.getfield 42, 3) := by decide +kernel
theorem dX4_datumOf_20 : decode cX4_datumOf 20 = .ok (.iload_n 2, 1) := by decide +kernel
theorem dX4_datumOf_21 : decode cX4_datumOf 21 = .ok (.baload, 1) := by decide +kernel
theorem dX4_datumOf_22 : decode cX4_datumOf 22 = .ok (.ifCond .eq 26, 3) := by decide +kernel
theorem dX4_datumOf_25 : decode cX4_datumOf 25 = .ok (.aload_n 0, 1) := by decide +kernel
theorem dX4_datumOf_26 : decode cX4_datumOf 26 = .ok (.getfield 23, 3) := by decide +kernel
theorem dX4_datumOf_29 : decode cX4_datumOf 29 = .ok (.getfield 45, 3) := by decide +kernel
theorem dX4_datumOf_32 : decode cX4_datumOf 32 = .ok (.iload_n 2, 1) := by decide +kernel
theorem dX4_datumOf_33 : decode cX4_datumOf 33 = .ok (.iaload, 1) := by decide +kernel
theorem dX4_datumOf_34 : decode cX4_datumOf 34 = .ok (.aload_n 0, 1) := by decide +kernel
theorem dX4_datumOf_35 : decode cX4_datumOf 35 = .ok (.getfield 23, 3) := by decide +kernel
theorem dX4_datumOf_38 : decode cX4_datumOf 38 = .ok (.getfield 45, 3) := by decide +kernel
theorem dX4_datumOf_41 : decode cX4_datumOf 41 = .ok (.iload_n 1, 1) := by decide +kernel
theorem dX4_datumOf_42 : decode cX4_datumOf 42 = .ok (.iaload, 1) := by decide +kernel
theorem dX4_datumOf_43 : decode cX4_datumOf 43 = .ok (.if_icmp .ne 5, 3) := by decide +kernel
theorem dX4_datumOf_46 : decode cX4_datumOf 46 = .ok (.iload_n 2, 1) := by decide +kernel
theorem dX4_datumOf_47 : decode cX4_datumOf 47 = .ok (.ireturn, 1) := by decide +kernel
theorem dX4_datumOf_48 : decode cX4_datumOf 48 = .ok (.iinc 2 1, 3) := by decide +kernel
theorem dX4_datumOf_51 : decode cX4_datumOf 51 = .ok (.goto (-49), 3) := by decide +kernel
theorem dX4_datumOf_54 : decode cX4_datumOf 54 = .ok (.iconst (-1), 1) := by decide +kernel
theorem dX4_datumOf_55 : decode cX4_datumOf 55 = .ok (.ireturn, 1) := by decide +kernel
theorem dX4_exists_0 : decode cX4_exists 0 = .ok (.aload_n 0, 1) := by decide +kernel
theorem dX4_exists_1 : decode cX4_exists 1 = .ok (.iload_n 1, 1) := by decide +kernel
theorem dX4_exists_2 : decode cX4_exists 2 = .ok (.invokevirtual 50, 3) := by decide +kernel
theorem dX4_exists_5 : decode cX4_exists 5 = .ok (.iconst (-1), 1) := by decide +kernel
theorem dX4_exists_6 : decode cX4_exists 6 = .ok (.if_icmp .eq 7, 3) := by decide +kernel
theorem dX4_exists_9 : decode cX4_exists 9 = .ok (.iconst 1, 1) := by decide +kernel
theorem dX4_exists_10 : decode cX4_exists 10 = .ok (.goto 4, 3) := by decide +kernel
theorem dX4_exists_13 : decode cX4_exists 13 = .ok (.iconst 0, 1) := by decide +kernel
theorem dX4_exists_14 : decode cX4_exists 14 = .ok (.ireturn, 1) := by decide +kernel
theorem dX4_byWay_0 : decode cX4_byWay 0 = .ok (.aload_n 0, 1) := by decide +kernel
theorem dX4_byWay_1 : decode cX4_byWay 1 = .ok (.getfield 19, 3) := by decide +kernel
theorem dX4_byWay_4 : decode cX4_byWay 4 = .ok (.getfield 42, 3) := by decide +kernel
theorem dX4_byWay_7 : decode cX4_byWay 7 = .ok (.iload_n 1, 1) := by decide +kernel
theorem dX4_byWay_8 : decode cX4_byWay 8 = .ok (.baload, 1) := by decide +kernel
theorem dX4_byWay_9 : decode cX4_byWay 9 = .ok (.ifCond .eq 15, 3) := by decide +kernel
theorem dX4_byWay_12 : decode cX4_byWay 12 = .ok (.aload_n 0, 1) := by decide +kernel
theorem dX4_byWay_13 : decode cX4_byWay 13 = .ok (.getfield 19, 3) := by decide +kernel
theorem dX4_byWay_16 : decode cX4_byWay 16 = .ok (.getfield 54, 3) := by decide +kernel
theorem dX4_byWay_19 : decode cX4_byWay 19 = .ok (.iload_n 1, 1) := by decide +kernel
theorem dX4_byWay_20 : decode cX4_byWay 20 = .ok (.iaload, 1) := by decide +kernel
theorem dX4_byWay_21 : decode cX4_byWay 21 = .ok (.goto 8, 3) := by decide +kernel
theorem dX4_byWay_24 : decode cX4_byWay 24 = .ok (.aload_n 0, 1) := by decide +kernel
theorem dX4_byWay_25 : decode cX4_byWay 25 = .ok (.iload_n 1, 1) := by decide +kernel
theorem dX4_byWay_26 : decode cX4_byWay 26 = .ok (.invokevirtual 57, 3) := by decide +kernel
theorem dX4_byWay_29 : decode cX4_byWay 29 = .ok (.ireturn, 1) := by decide +kernel
theorem dX4_carriedFromDatum_0 : decode cX4_carriedFromDatum 0 = .ok (.aload_n 0, 1) := by decide +kernel
theorem dX4_carriedFromDatum_1 : decode cX4_carriedFromDatum 1 = .ok (.iload_n 1, 1) := by decide +kernel
theorem dX4_carriedFromDatum_2 : decode cX4_carriedFromDatum 2 = .ok (.invokevirtual 50, 3) := by decide +kernel
theorem dX4_carriedFromDatum_5 : decode cX4_carriedFromDatum 5 = .ok (.istore_n 2, 1) := by decide +kernel
theorem dX4_carriedFromDatum_6 : decode cX4_carriedFromDatum 6 = .ok (.iload_n 2, 1) := by decide +kernel
theorem dX4_carriedFromDatum_7 : decode cX4_carriedFromDatum 7 = .ok (.iconst (-1), 1) := by decide +kernel
theorem dX4_carriedFromDatum_8 : decode cX4_carriedFromDatum 8 = .ok (.if_icmp .ne 5, 3) := by decide +kernel
theorem dX4_carriedFromDatum_11 : decode cX4_carriedFromDatum 11 = .ok (.iconst 0, 1) := by decide +kernel
theorem dX4_carriedFromDatum_12 : decode cX4_carriedFromDatum 12 = .ok (.ireturn, 1) := by decide +kernel
theorem dX4_carriedFromDatum_13 : decode cX4_carriedFromDatum 13 = .ok (.aload_n 0, 1) := by decide +kernel
theorem dX4_carriedFromDatum_14 : decode cX4_carriedFromDatum 14 = .ok (.getfield 32, 3) := by decide +kernel
theorem dX4_carriedFromDatum_17 : decode cX4_carriedFromDatum 17 = .ok (.iload_n 2, 1) := by decide +kernel
theorem dX4_carriedFromDatum_18 : decode cX4_carriedFromDatum 18 = .ok (.iload_n 1, 1) := by decide +kernel
theorem dX4_carriedFromDatum_19 : decode cX4_carriedFromDatum 19 = .ok (.invokevirtual 60, 3) := by decide +kernel
theorem dX4_carriedFromDatum_22 : decode cX4_carriedFromDatum 22 = .ok (.aload_n 0, 1) := by decide +kernel
theorem dX4_carriedFromDatum_23 : decode cX4_carriedFromDatum 23 = .ok (.getfield 19, 3) := by decide +kernel
theorem dX4_carriedFromDatum_26 : decode cX4_carriedFromDatum 26 = .ok (.getfield 54, 3) := by decide +kernel
theorem dX4_carriedFromDatum_29 : decode cX4_carriedFromDatum 29 = .ok (.iload_n 2, 1) := by decide +kernel
theorem dX4_carriedFromDatum_30 : decode cX4_carriedFromDatum 30 = .ok (.iaload, 1) := by decide +kernel
theorem dX4_carriedFromDatum_31 : decode cX4_carriedFromDatum 31 = .ok (.aload_n 0, 1) := by decide +kernel
theorem dX4_carriedFromDatum_32 : decode cX4_carriedFromDatum 32 = .ok (.getfield 32, 3) := by decide +kernel
theorem dX4_carriedFromDatum_35 : decode cX4_carriedFromDatum 35 = .ok (.invokevirtual 64, 3) := by decide +kernel
theorem dX4_carriedFromDatum_38 : decode cX4_carriedFromDatum 38 = .ok (.iadd, 1) := by decide +kernel
theorem dX4_carriedFromDatum_39 : decode cX4_carriedFromDatum 39 = .ok (.ireturn, 1) := by decide +kernel
theorem dX4_byRounds_0 : decode cX4_byRounds 0 = .ok (.aload_n 0, 1) := by decide +kernel
theorem dX4_byRounds_1 : decode cX4_byRounds 1 = .ok (.iload_n 1, 1) := by decide +kernel
theorem dX4_byRounds_2 : decode cX4_byRounds 2 = .ok (.invokevirtual 50, 3) := by decide +kernel
theorem dX4_byRounds_5 : decode cX4_byRounds 5 = .ok (.istore_n 2, 1) := by decide +kernel
theorem dX4_byRounds_6 : decode cX4_byRounds 6 = .ok (.aload_n 0, 1) := by decide +kernel
theorem dX4_byRounds_7 : decode cX4_byRounds 7 = .ok (.getfield 19, 3) := by decide +kernel
theorem dX4_byRounds_10 : decode cX4_byRounds 10 = .ok (.getfield 42, 3) := by decide +kernel
theorem dX4_byRounds_13 : decode cX4_byRounds 13 = .ok (.iload_n 1, 1) := by decide +kernel
theorem dX4_byRounds_14 : decode cX4_byRounds 14 = .ok (.baload, 1) := by decide +kernel
theorem dX4_byRounds_15 : decode cX4_byRounds 15 = .ok (.ifCond .ne 8, 3) := by decide +kernel
theorem dX4_byRounds_18 : decode cX4_byRounds 18 = .ok (.iload_n 2, 1) := by decide +kernel
theorem dX4_byRounds_19 : decode cX4_byRounds 19 = .ok (.iconst (-1), 1) := by decide +kernel
theorem dX4_byRounds_20 : decode cX4_byRounds 20 = .ok (.if_icmp .ne 13, 3) := by decide +kernel
theorem dX4_byRounds_23 : decode cX4_byRounds 23 = .ok (.aload_n 0, 1) := by decide +kernel
theorem dX4_byRounds_24 : decode cX4_byRounds 24 = .ok (.getfield 19, 3) := by decide +kernel
theorem dX4_byRounds_27 : decode cX4_byRounds 27 = .ok (.getfield 54, 3) := by decide +kernel
theorem dX4_byRounds_30 : decode cX4_byRounds 30 = .ok (.iload_n 1, 1) := by decide +kernel
theorem dX4_byRounds_31 : decode cX4_byRounds 31 = .ok (.iaload, 1) := by decide +kernel
theorem dX4_byRounds_32 : decode cX4_byRounds 32 = .ok (.ireturn, 1) := by decide +kernel
theorem dX4_byRounds_33 : decode cX4_byRounds 33 = .ok (.aload_n 0, 1) := by decide +kernel
theorem dX4_byRounds_34 : decode cX4_byRounds 34 = .ok (.iload_n 2, 1) := by decide +kernel
theorem dX4_byRounds_35 : decode cX4_byRounds 35 = .ok (.aload_n 0, 1) := by decide +kernel
theorem dX4_byRounds_36 : decode cX4_byRounds 36 = .ok (.getfield 19, 3) := by decide +kernel
theorem dX4_byRounds_39 : decode cX4_byRounds 39 = .ok (.getfield 54, 3) := by decide +kernel
theorem dX4_byRounds_42 : decode cX4_byRounds 42 = .ok (.iload_n 2, 1) := by decide +kernel
theorem dX4_byRounds_43 : decode cX4_byRounds 43 = .ok (.iaload, 1) := by decide +kernel
theorem dX4_byRounds_44 : decode cX4_byRounds 44 = .ok (.invokevirtual 68, 3) := by decide +kernel
theorem dX4_byRounds_47 : decode cX4_byRounds 47 = .ok (.aload_n 0, 1) := by decide +kernel
theorem dX4_byRounds_48 : decode cX4_byRounds 48 = .ok (.getfield 15, 3) := by decide +kernel
theorem dX4_byRounds_51 : decode cX4_byRounds 51 = .ok (.iload_n 1, 1) := by decide +kernel
theorem dX4_byRounds_52 : decode cX4_byRounds 52 = .ok (.iaload, 1) := by decide +kernel
theorem dX4_byRounds_53 : decode cX4_byRounds 53 = .ok (.ireturn, 1) := by decide +kernel
theorem dX4_gapByLevels_0 : decode cX4_gapByLevels 0 = .ok (.aload_n 0, 1) := by decide +kernel
theorem dX4_gapByLevels_1 : decode cX4_gapByLevels 1 = .ok (.getfield 19, 3) := by decide +kernel
theorem dX4_gapByLevels_4 : decode cX4_gapByLevels 4 = .ok (.getfield 71, 3) := by decide +kernel
theorem dX4_gapByLevels_7 : decode cX4_gapByLevels 7 = .ok (.iload_n 1, 1) := by decide +kernel
theorem dX4_gapByLevels_8 : decode cX4_gapByLevels 8 = .ok (.iaload, 1) := by decide +kernel
theorem dX4_gapByLevels_9 : decode cX4_gapByLevels 9 = .ok (.istore_n 2, 1) := by decide +kernel
theorem dX4_gapByLevels_10 : decode cX4_gapByLevels 10 = .ok (.aload_n 0, 1) := by decide +kernel
theorem dX4_gapByLevels_11 : decode cX4_gapByLevels 11 = .ok (.getfield 19, 3) := by decide +kernel
theorem dX4_gapByLevels_14 : decode cX4_gapByLevels 14 = .ok (.getfield 74, 3) := by decide +kernel
theorem dX4_gapByLevels_17 : decode cX4_gapByLevels 17 = .ok (.iload_n 1, 1) := by decide +kernel
theorem dX4_gapByLevels_18 : decode cX4_gapByLevels 18 = .ok (.iaload, 1) := by decide +kernel
theorem dX4_gapByLevels_19 : decode cX4_gapByLevels 19 = .ok (.istore_n 3, 1) := by decide +kernel
theorem dX4_gapByLevels_20 : decode cX4_gapByLevels 20 = .ok (.aload_n 0, 1) := by decide +kernel
theorem dX4_gapByLevels_21 : decode cX4_gapByLevels 21 = .ok (.aload_n 0, 1) := by decide +kernel
theorem dX4_gapByLevels_22 : decode cX4_gapByLevels 22 = .ok (.getfield 23, 3) := by decide +kernel
theorem dX4_gapByLevels_25 : decode cX4_gapByLevels 25 = .ok (.getfield 45, 3) := by decide +kernel
theorem dX4_gapByLevels_28 : decode cX4_gapByLevels 28 = .ok (.iload_n 2, 1) := by decide +kernel
theorem dX4_gapByLevels_29 : decode cX4_gapByLevels 29 = .ok (.iaload, 1) := by decide +kernel
theorem dX4_gapByLevels_30 : decode cX4_gapByLevels 30 = .ok (.iconst 0, 1) := by decide +kernel
theorem dX4_gapByLevels_31 : decode cX4_gapByLevels 31 = .ok (.invokevirtual 68, 3) := by decide +kernel
theorem dX4_gapByLevels_34 : decode cX4_gapByLevels 34 = .ok (.aload_n 0, 1) := by decide +kernel
theorem dX4_gapByLevels_35 : decode cX4_gapByLevels 35 = .ok (.getfield 19, 3) := by decide +kernel
theorem dX4_gapByLevels_38 : decode cX4_gapByLevels 38 = .ok (.iload_n 1, 1) := by decide +kernel
theorem dX4_gapByLevels_39 : decode cX4_gapByLevels 39 = .ok (.invokevirtual 77, 3) := by decide +kernel
theorem dX4_gapByLevels_42 : decode cX4_gapByLevels 42 = .ok (.aload_n 0, 1) := by decide +kernel
theorem dX4_gapByLevels_43 : decode cX4_gapByLevels 43 = .ok (.getfield 15, 3) := by decide +kernel
theorem dX4_gapByLevels_46 : decode cX4_gapByLevels 46 = .ok (.iload_n 3, 1) := by decide +kernel
theorem dX4_gapByLevels_47 : decode cX4_gapByLevels 47 = .ok (.iaload, 1) := by decide +kernel
theorem dX4_gapByLevels_48 : decode cX4_gapByLevels 48 = .ok (.aload_n 0, 1) := by decide +kernel
theorem dX4_gapByLevels_49 : decode cX4_gapByLevels 49 = .ok (.getfield 15, 3) := by decide +kernel
theorem dX4_gapByLevels_52 : decode cX4_gapByLevels 52 = .ok (.iload_n 2, 1) := by decide +kernel
theorem dX4_gapByLevels_53 : decode cX4_gapByLevels 53 = .ok (.iaload, 1) := by decide +kernel
theorem dX4_gapByLevels_54 : decode cX4_gapByLevels 54 = .ok (.isub, 1) := by decide +kernel
theorem dX4_gapByLevels_55 : decode cX4_gapByLevels 55 = .ok (.isub, 1) := by decide +kernel
theorem dX4_gapByLevels_56 : decode cX4_gapByLevels 56 = .ok (.ireturn, 1) := by decide +kernel
theorem dX4_passOn_0 : decode cX4_passOn 0 = .ok (.iconst 0, 1) := by decide +kernel
theorem dX4_passOn_1 : decode cX4_passOn 1 = .ok (.istore_n 3, 1) := by decide +kernel
theorem dX4_passOn_2 : decode cX4_passOn 2 = .ok (.iload_n 3, 1) := by decide +kernel
theorem dX4_passOn_3 : decode cX4_passOn 3 = .ok (.bipush 10, 2) := by decide +kernel
theorem dX4_passOn_5 : decode cX4_passOn 5 = .ok (.if_icmp .ge 23, 3) := by decide +kernel
theorem dX4_passOn_8 : decode cX4_passOn 8 = .ok (.aload_n 0, 1) := by decide +kernel
theorem dX4_passOn_9 : decode cX4_passOn 9 = .ok (.getfield 9, 3) := by decide +kernel
theorem dX4_passOn_12 : decode cX4_passOn 12 = .ok (.iload_n 3, 1) := by decide +kernel
theorem dX4_passOn_13 : decode cX4_passOn 13 = .ok (.iconst 0, 1) := by decide +kernel
theorem dX4_passOn_14 : decode cX4_passOn 14 = .ok (.bastore, 1) := by decide +kernel
theorem dX4_passOn_15 : decode cX4_passOn 15 = .ok (.aload_n 0, 1) := by decide +kernel
theorem dX4_passOn_16 : decode cX4_passOn 16 = .ok (.getfield 15, 3) := by decide +kernel
theorem dX4_passOn_19 : decode cX4_passOn 19 = .ok (.iload_n 3, 1) := by decide +kernel
theorem dX4_passOn_20 : decode cX4_passOn 20 = .ok (.iconst 0, 1) := by decide +kernel
theorem dX4_passOn_21 : decode cX4_passOn 21 = .ok (.iastore, 1) := by decide +kernel
theorem dX4_passOn_22 : decode cX4_passOn 22 = .ok (.iinc 3 1, 3) := by decide +kernel
theorem dX4_passOn_25 : decode cX4_passOn 25 = .ok (.goto (-23), 3) := by decide +kernel
theorem dX4_passOn_28 : decode cX4_passOn 28 = .ok (.aload_n 0, 1) := by decide +kernel
theorem dX4_passOn_29 : decode cX4_passOn 29 = .ok (.getfield 9, 3) := by decide +kernel
theorem dX4_passOn_32 : decode cX4_passOn 32 = .ok (.iload_n 1, 1) := by decide +kernel
theorem dX4_passOn_33 : decode cX4_passOn 33 = .ok (.iconst 1, 1) := by decide +kernel
theorem dX4_passOn_34 : decode cX4_passOn 34 = .ok (.bastore, 1) := by decide +kernel
theorem dX4_passOn_35 : decode cX4_passOn 35 = .ok (.aload_n 0, 1) := by decide +kernel
theorem dX4_passOn_36 : decode cX4_passOn 36 = .ok (.getfield 15, 3) := by decide +kernel
theorem dX4_passOn_39 : decode cX4_passOn 39 = .ok (.iload_n 1, 1) := by decide +kernel
theorem dX4_passOn_40 : decode cX4_passOn 40 = .ok (.iload_n 2, 1) := by decide +kernel
theorem dX4_passOn_41 : decode cX4_passOn 41 = .ok (.iastore, 1) := by decide +kernel
theorem dX4_passOn_42 : decode cX4_passOn 42 = .ok (.iconst 1, 1) := by decide +kernel
theorem dX4_passOn_43 : decode cX4_passOn 43 = .ok (.istore_n 3, 1) := by decide +kernel
theorem dX4_passOn_44 : decode cX4_passOn 44 = .ok (.iconst 0, 1) := by decide +kernel
theorem dX4_passOn_45 : decode cX4_passOn 45 = .ok (.istore 4, 2) := by decide +kernel
theorem dX4_passOn_47 : decode cX4_passOn 47 = .ok (.iload 4, 2) := by decide +kernel
theorem dX4_passOn_49 : decode cX4_passOn 49 = .ok (.bipush 10, 2) := by decide +kernel
theorem dX4_passOn_51 : decode cX4_passOn 51 = .ok (.if_icmp .ge 18, 3) := by decide +kernel
theorem dX4_passOn_54 : decode cX4_passOn 54 = .ok (.iload_n 3, 1) := by decide +kernel
theorem dX4_passOn_55 : decode cX4_passOn 55 = .ok (.ifCond .eq 14, 3) := by decide +kernel
theorem dX4_passOn_58 : decode cX4_passOn 58 = .ok (.aload_n 0, 1) := by decide +kernel
theorem dX4_passOn_59 : decode cX4_passOn 59 = .ok (.invokevirtual 80, 3) := by decide +kernel
theorem dX4_passOn_62 : decode cX4_passOn 62 = .ok (.istore_n 3, 1) := by decide +kernel
theorem dX4_passOn_63 : decode cX4_passOn 63 = .ok (.iinc 4 1, 3) := by decide +kernel
theorem dX4_passOn_66 : decode cX4_passOn 66 = .ok (.goto (-19), 3) := by decide +kernel
theorem dX4_passOn_69 : decode cX4_passOn 69 = .ok (.return_, 1) := by decide +kernel
theorem dX4_passOnOnce_0 : decode cX4_passOnOnce 0 = .ok (.iconst 0, 1) := by decide +kernel
theorem dX4_passOnOnce_1 : decode cX4_passOnOnce 1 = .ok (.istore_n 1, 1) := by decide +kernel
theorem dX4_passOnOnce_2 : decode cX4_passOnOnce 2 = .ok (.iconst 0, 1) := by decide +kernel
theorem dX4_passOnOnce_3 : decode cX4_passOnOnce 3 = .ok (.istore_n 2, 1) := by decide +kernel
theorem dX4_passOnOnce_4 : decode cX4_passOnOnce 4 = .ok (.iload_n 2, 1) := by decide +kernel
theorem dX4_passOnOnce_5 : decode cX4_passOnOnce 5 = .ok (.aload_n 0, 1) := by decide +kernel
theorem dX4_passOnOnce_6 : decode cX4_passOnOnce 6 = .ok (.getfield 19, 3) := by decide +kernel
theorem dX4_passOnOnce_9 : decode cX4_passOnOnce 9 = .ok (.getfield 84, 3) := by decide +kernel
theorem dX4_passOnOnce_12 : decode cX4_passOnOnce 12 = .ok (.if_icmp .ge 131, 3) := by decide +kernel
theorem dX4_passOnOnce_15 : decode cX4_passOnOnce 15 = .ok (.aload_n 0, 1) := by decide +kernel
theorem dX4_passOnOnce_16 : decode cX4_passOnOnce 16 = .ok (.getfield 19, 3) := by decide +kernel
theorem dX4_passOnOnce_19 : decode cX4_passOnOnce 19 = .ok (.getfield 71, 3) := by decide +kernel
theorem dX4_passOnOnce_22 : decode cX4_passOnOnce 22 = .ok (.iload_n 2, 1) := by decide +kernel
theorem dX4_passOnOnce_23 : decode cX4_passOnOnce 23 = .ok (.iaload, 1) := by decide +kernel
theorem dX4_passOnOnce_24 : decode cX4_passOnOnce 24 = .ok (.istore_n 3, 1) := by decide +kernel
theorem dX4_passOnOnce_25 : decode cX4_passOnOnce 25 = .ok (.aload_n 0, 1) := by decide +kernel
theorem dX4_passOnOnce_26 : decode cX4_passOnOnce 26 = .ok (.getfield 19, 3) := by decide +kernel
theorem dX4_passOnOnce_29 : decode cX4_passOnOnce 29 = .ok (.getfield 74, 3) := by decide +kernel
theorem dX4_passOnOnce_32 : decode cX4_passOnOnce 32 = .ok (.iload_n 2, 1) := by decide +kernel
theorem dX4_passOnOnce_33 : decode cX4_passOnOnce 33 = .ok (.iaload, 1) := by decide +kernel
theorem dX4_passOnOnce_34 : decode cX4_passOnOnce 34 = .ok (.istore 4, 2) := by decide +kernel
theorem dX4_passOnOnce_36 : decode cX4_passOnOnce 36 = .ok (.aload_n 0, 1) := by decide +kernel
theorem dX4_passOnOnce_37 : decode cX4_passOnOnce 37 = .ok (.getfield 23, 3) := by decide +kernel
theorem dX4_passOnOnce_40 : decode cX4_passOnOnce 40 = .ok (.getfield 87, 3) := by decide +kernel
theorem dX4_passOnOnce_43 : decode cX4_passOnOnce 43 = .ok (.iload_n 2, 1) := by decide +kernel
theorem dX4_passOnOnce_44 : decode cX4_passOnOnce 44 = .ok (.baload, 1) := by decide +kernel
theorem dX4_passOnOnce_45 : decode cX4_passOnOnce 45 = .ok (.ifCond .eq 92, 3) := by decide +kernel
theorem dX4_passOnOnce_48 : decode cX4_passOnOnce 48 = .ok (.aload_n 0, 1) := by decide +kernel
theorem dX4_passOnOnce_49 : decode cX4_passOnOnce 49 = .ok (.getfield 9, 3) := by decide +kernel
theorem dX4_passOnOnce_52 : decode cX4_passOnOnce 52 = .ok (.iload_n 3, 1) := by decide +kernel
theorem dX4_passOnOnce_53 : decode cX4_passOnOnce 53 = .ok (.baload, 1) := by decide +kernel
theorem dX4_passOnOnce_54 : decode cX4_passOnOnce 54 = .ok (.aload_n 0, 1) := by decide +kernel
theorem dX4_passOnOnce_55 : decode cX4_passOnOnce 55 = .ok (.getfield 9, 3) := by decide +kernel
theorem dX4_passOnOnce_58 : decode cX4_passOnOnce 58 = .ok (.iload 4, 2) := by decide +kernel
theorem dX4_passOnOnce_60 : decode cX4_passOnOnce 60 = .ok (.baload, 1) := by decide +kernel
theorem dX4_passOnOnce_61 : decode cX4_passOnOnce 61 = .ok (.if_icmp .eq 76, 3) := by decide +kernel
theorem dX4_passOnOnce_64 : decode cX4_passOnOnce 64 = .ok (.aload_n 0, 1) := by decide +kernel
theorem dX4_passOnOnce_65 : decode cX4_passOnOnce 65 = .ok (.getfield 9, 3) := by decide +kernel
theorem dX4_passOnOnce_68 : decode cX4_passOnOnce 68 = .ok (.iload_n 3, 1) := by decide +kernel
theorem dX4_passOnOnce_69 : decode cX4_passOnOnce 69 = .ok (.baload, 1) := by decide +kernel
theorem dX4_passOnOnce_70 : decode cX4_passOnOnce 70 = .ok (.ifCond .eq 28, 3) := by decide +kernel
theorem dX4_passOnOnce_73 : decode cX4_passOnOnce 73 = .ok (.aload_n 0, 1) := by decide +kernel
theorem dX4_passOnOnce_74 : decode cX4_passOnOnce 74 = .ok (.getfield 15, 3) := by decide +kernel
theorem dX4_passOnOnce_77 : decode cX4_passOnOnce 77 = .ok (.iload 4, 2) := by decide +kernel
theorem dX4_passOnOnce_79 : decode cX4_passOnOnce 79 = .ok (.aload_n 0, 1) := by decide +kernel
theorem dX4_passOnOnce_80 : decode cX4_passOnOnce 80 = .ok (.getfield 15, 3) := by decide +kernel
theorem dX4_passOnOnce_83 : decode cX4_passOnOnce 83 = .ok (.iload_n 3, 1) := by decide +kernel
theorem dX4_passOnOnce_84 : decode cX4_passOnOnce 84 = .ok (.iaload, 1) := by decide +kernel
theorem dX4_passOnOnce_85 : decode cX4_passOnOnce 85 = .ok (.aload_n 0, 1) := by decide +kernel
theorem dX4_passOnOnce_86 : decode cX4_passOnOnce 86 = .ok (.getfield 19, 3) := by decide +kernel
theorem dX4_passOnOnce_89 : decode cX4_passOnOnce 89 = .ok (.iload_n 2, 1) := by decide +kernel
theorem dX4_passOnOnce_90 : decode cX4_passOnOnce 90 = .ok (.invokevirtual 77, 3) := by decide +kernel
theorem dX4_passOnOnce_93 : decode cX4_passOnOnce 93 = .ok (.iadd, 1) := by decide +kernel
theorem dX4_passOnOnce_94 : decode cX4_passOnOnce 94 = .ok (.iastore, 1) := by decide +kernel
theorem dX4_passOnOnce_95 : decode cX4_passOnOnce 95 = .ok (.goto 25, 3) := by decide +kernel
theorem dX4_passOnOnce_98 : decode cX4_passOnOnce 98 = .ok (.aload_n 0, 1) := by decide +kernel
theorem dX4_passOnOnce_99 : decode cX4_passOnOnce 99 = .ok (.getfield 15, 3) := by decide +kernel
theorem dX4_passOnOnce_102 : decode cX4_passOnOnce 102 = .ok (.iload_n 3, 1) := by decide +kernel
theorem dX4_passOnOnce_103 : decode cX4_passOnOnce 103 = .ok (.aload_n 0, 1) := by decide +kernel
theorem dX4_passOnOnce_104 : decode cX4_passOnOnce 104 = .ok (.getfield 15, 3) := by decide +kernel
theorem dX4_passOnOnce_107 : decode cX4_passOnOnce 107 = .ok (.iload 4, 2) := by decide +kernel
theorem dX4_passOnOnce_109 : decode cX4_passOnOnce 109 = .ok (.iaload, 1) := by decide +kernel
theorem dX4_passOnOnce_110 : decode cX4_passOnOnce 110 = .ok (.aload_n 0, 1) := by decide +kernel
theorem dX4_passOnOnce_111 : decode cX4_passOnOnce 111 = .ok (.getfield 19, 3) := by decide +kernel
theorem dX4_passOnOnce_114 : decode cX4_passOnOnce 114 = .ok (.iload_n 2, 1) := by decide +kernel
theorem dX4_passOnOnce_115 : decode cX4_passOnOnce 115 = .ok (.invokevirtual 77, 3) := by decide +kernel
theorem dX4_passOnOnce_118 : decode cX4_passOnOnce 118 = .ok (.isub, 1) := by decide +kernel
theorem dX4_passOnOnce_119 : decode cX4_passOnOnce 119 = .ok (.iastore, 1) := by decide +kernel
theorem dX4_passOnOnce_120 : decode cX4_passOnOnce 120 = .ok (.aload_n 0, 1) := by decide +kernel
theorem dX4_passOnOnce_121 : decode cX4_passOnOnce 121 = .ok (.getfield 9, 3) := by decide +kernel
theorem dX4_passOnOnce_124 : decode cX4_passOnOnce 124 = .ok (.iload_n 3, 1) := by decide +kernel
theorem dX4_passOnOnce_125 : decode cX4_passOnOnce 125 = .ok (.iconst 1, 1) := by decide +kernel
theorem dX4_passOnOnce_126 : decode cX4_passOnOnce 126 = .ok (.bastore, 1) := by decide +kernel
theorem dX4_passOnOnce_127 : decode cX4_passOnOnce 127 = .ok (.aload_n 0, 1) := by decide +kernel
theorem dX4_passOnOnce_128 : decode cX4_passOnOnce 128 = .ok (.getfield 9, 3) := by decide +kernel
theorem dX4_passOnOnce_131 : decode cX4_passOnOnce 131 = .ok (.iload 4, 2) := by decide +kernel
theorem dX4_passOnOnce_133 : decode cX4_passOnOnce 133 = .ok (.iconst 1, 1) := by decide +kernel
theorem dX4_passOnOnce_134 : decode cX4_passOnOnce 134 = .ok (.bastore, 1) := by decide +kernel
theorem dX4_passOnOnce_135 : decode cX4_passOnOnce 135 = .ok (.iconst 1, 1) := by decide +kernel
theorem dX4_passOnOnce_136 : decode cX4_passOnOnce 136 = .ok (.istore_n 1, 1) := by decide +kernel
theorem dX4_passOnOnce_137 : decode cX4_passOnOnce 137 = .ok (.iinc 2 1, 3) := by decide +kernel
theorem dX4_passOnOnce_140 : decode cX4_passOnOnce 140 = .ok (.goto (-136), 3) := by decide +kernel
theorem dX4_passOnOnce_143 : decode cX4_passOnOnce 143 = .ok (.iload_n 1, 1) := by decide +kernel
theorem dX4_passOnOnce_144 : decode cX4_passOnOnce 144 = .ok (.ireturn, 1) := by decide +kernel
theorem dX4_atRank_0 : decode cX4_atRank 0 = .ok (.iconst 0, 1) := by decide +kernel
theorem dX4_atRank_1 : decode cX4_atRank 1 = .ok (.istore_n 2, 1) := by decide +kernel
theorem dX4_atRank_2 : decode cX4_atRank 2 = .ok (.iload_n 2, 1) := by decide +kernel
theorem dX4_atRank_3 : decode cX4_atRank 3 = .ok (.aload_n 0, 1) := by decide +kernel
theorem dX4_atRank_4 : decode cX4_atRank 4 = .ok (.getfield 19, 3) := by decide +kernel
theorem dX4_atRank_7 : decode cX4_atRank 7 = .ok (.getfield 36, 3) := by decide +kernel
theorem dX4_atRank_10 : decode cX4_atRank 10 = .ok (.if_icmp .ge 28, 3) := by decide +kernel
theorem dX4_atRank_13 : decode cX4_atRank 13 = .ok (.aload_n 0, 1) := by decide +kernel
theorem dX4_atRank_14 : decode cX4_atRank 14 = .ok (.iload_n 2, 1) := by decide +kernel
theorem dX4_atRank_15 : decode cX4_atRank 15 = .ok (.invokevirtual 90, 3) := by decide +kernel
theorem dX4_atRank_18 : decode cX4_atRank 18 = .ok (.ifCond .eq 14, 3) := by decide +kernel
theorem dX4_atRank_21 : decode cX4_atRank 21 = .ok (.aload_n 0, 1) := by decide +kernel
theorem dX4_atRank_22 : decode cX4_atRank 22 = .ok (.iload_n 2, 1) := by decide +kernel
theorem dX4_atRank_23 : decode cX4_atRank 23 = .ok (.invokevirtual 94, 3) := by decide +kernel
theorem dX4_atRank_26 : decode cX4_atRank 26 = .ok (.iload_n 1, 1) := by decide +kernel
theorem dX4_atRank_27 : decode cX4_atRank 27 = .ok (.if_icmp .ne 5, 3) := by decide +kernel
theorem dX4_atRank_30 : decode cX4_atRank 30 = .ok (.iload_n 2, 1) := by decide +kernel
theorem dX4_atRank_31 : decode cX4_atRank 31 = .ok (.ireturn, 1) := by decide +kernel
theorem dX4_atRank_32 : decode cX4_atRank 32 = .ok (.iinc 2 1, 3) := by decide +kernel
theorem dX4_atRank_35 : decode cX4_atRank 35 = .ok (.goto (-33), 3) := by decide +kernel
theorem dX4_atRank_38 : decode cX4_atRank 38 = .ok (.iconst (-1), 1) := by decide +kernel
theorem dX4_atRank_39 : decode cX4_atRank 39 = .ok (.ireturn, 1) := by decide +kernel
theorem dX4_benchmarksAheadOf_0 : decode cX4_benchmarksAheadOf 0 = .ok (.aload_n 0, 1) := by decide +kernel
theorem dX4_benchmarksAheadOf_1 : decode cX4_benchmarksAheadOf 1 = .ok (.iload_n 1, 1) := by decide +kernel
theorem dX4_benchmarksAheadOf_2 : decode cX4_benchmarksAheadOf 2 = .ok (.invokevirtual 97, 3) := by decide +kernel
theorem dX4_benchmarksAheadOf_5 : decode cX4_benchmarksAheadOf 5 = .ok (.istore_n 2, 1) := by decide +kernel
theorem dX4_benchmarksAheadOf_6 : decode cX4_benchmarksAheadOf 6 = .ok (.iconst 0, 1) := by decide +kernel
theorem dX4_benchmarksAheadOf_7 : decode cX4_benchmarksAheadOf 7 = .ok (.istore_n 3, 1) := by decide +kernel
theorem dX4_benchmarksAheadOf_8 : decode cX4_benchmarksAheadOf 8 = .ok (.iconst 0, 1) := by decide +kernel
theorem dX4_benchmarksAheadOf_9 : decode cX4_benchmarksAheadOf 9 = .ok (.istore 4, 2) := by decide +kernel
theorem dX4_benchmarksAheadOf_11 : decode cX4_benchmarksAheadOf 11 = .ok (.iload 4, 2) := by decide +kernel
theorem dX4_benchmarksAheadOf_13 : decode cX4_benchmarksAheadOf 13 = .ok (.aload_n 0, 1) := by decide +kernel
theorem dX4_benchmarksAheadOf_14 : decode cX4_benchmarksAheadOf 14 = .ok (.getfield 19, 3) := by decide +kernel
theorem dX4_benchmarksAheadOf_17 : decode cX4_benchmarksAheadOf 17 = .ok (.getfield 36, 3) := by decide +kernel
theorem dX4_benchmarksAheadOf_20 : decode cX4_benchmarksAheadOf 20 = .ok (.if_icmp .ge 52, 3) := by decide +kernel
theorem dX4_benchmarksAheadOf_23 : decode cX4_benchmarksAheadOf 23 = .ok (.aload_n 0, 1) := by decide +kernel
theorem dX4_benchmarksAheadOf_24 : decode cX4_benchmarksAheadOf 24 = .ok (.iload 4, 2) := by decide +kernel
theorem dX4_benchmarksAheadOf_26 : decode cX4_benchmarksAheadOf 26 = .ok (.invokevirtual 90, 3) := by decide +kernel
theorem dX4_benchmarksAheadOf_29 : decode cX4_benchmarksAheadOf 29 = .ok (.ifCond .eq 37, 3) := by decide +kernel
theorem dX4_benchmarksAheadOf_32 : decode cX4_benchmarksAheadOf 32 = .ok (.aload_n 0, 1) := by decide +kernel
theorem dX4_benchmarksAheadOf_33 : decode cX4_benchmarksAheadOf 33 = .ok (.iload 4, 2) := by decide +kernel
theorem dX4_benchmarksAheadOf_35 : decode cX4_benchmarksAheadOf 35 = .ok (.invokevirtual 97, 3) := by decide +kernel
theorem dX4_benchmarksAheadOf_38 : decode cX4_benchmarksAheadOf 38 = .ok (.istore 5, 2) := by decide +kernel
theorem dX4_benchmarksAheadOf_40 : decode cX4_benchmarksAheadOf 40 = .ok (.iload_n 3, 1) := by decide +kernel
theorem dX4_benchmarksAheadOf_41 : decode cX4_benchmarksAheadOf 41 = .ok (.iload 5, 2) := by decide +kernel
theorem dX4_benchmarksAheadOf_43 : decode cX4_benchmarksAheadOf 43 = .ok (.iload_n 2, 1) := by decide +kernel
theorem dX4_benchmarksAheadOf_44 : decode cX4_benchmarksAheadOf 44 = .ok (.if_icmp .gt 15, 3) := by decide +kernel
theorem dX4_benchmarksAheadOf_47 : decode cX4_benchmarksAheadOf 47 = .ok (.iload 5, 2) := by decide +kernel
theorem dX4_benchmarksAheadOf_49 : decode cX4_benchmarksAheadOf 49 = .ok (.iload_n 2, 1) := by decide +kernel
theorem dX4_benchmarksAheadOf_50 : decode cX4_benchmarksAheadOf 50 = .ok (.if_icmp .ne 13, 3) := by decide +kernel
theorem dX4_benchmarksAheadOf_53 : decode cX4_benchmarksAheadOf 53 = .ok (.iload 4, 2) := by decide +kernel
theorem dX4_benchmarksAheadOf_55 : decode cX4_benchmarksAheadOf 55 = .ok (.iload_n 1, 1) := by decide +kernel
theorem dX4_benchmarksAheadOf_56 : decode cX4_benchmarksAheadOf 56 = .ok (.if_icmp .ge 7, 3) := by decide +kernel
theorem dX4_benchmarksAheadOf_59 : decode cX4_benchmarksAheadOf 59 = .ok (.iconst 1, 1) := by decide +kernel
theorem dX4_benchmarksAheadOf_60 : decode cX4_benchmarksAheadOf 60 = .ok (.goto 4, 3) := by decide +kernel
theorem dX4_benchmarksAheadOf_63 : decode cX4_benchmarksAheadOf 63 = .ok (.iconst 0, 1) := by decide +kernel
theorem dX4_benchmarksAheadOf_64 : decode cX4_benchmarksAheadOf 64 = .ok (.iadd, 1) := by decide +kernel
theorem dX4_benchmarksAheadOf_65 : decode cX4_benchmarksAheadOf 65 = .ok (.istore_n 3, 1) := by decide +kernel
theorem dX4_benchmarksAheadOf_66 : decode cX4_benchmarksAheadOf 66 = .ok (.iinc 4 1, 3) := by decide +kernel
theorem dX4_benchmarksAheadOf_69 : decode cX4_benchmarksAheadOf 69 = .ok (.goto (-58), 3) := by decide +kernel
theorem dX4_benchmarksAheadOf_72 : decode cX4_benchmarksAheadOf 72 = .ok (.iload_n 3, 1) := by decide +kernel
theorem dX4_benchmarksAheadOf_73 : decode cX4_benchmarksAheadOf 73 = .ok (.ireturn, 1) := by decide +kernel
theorem dX5_init_0 : decode cX5_init 0 = .ok (.aload_n 0, 1) := by decide +kernel
theorem dX5_init_1 : decode cX5_init 1 = .ok (.invokespecial 3, 3) := by decide +kernel
theorem dX5_init_4 : decode cX5_init 4 = .ok (.aload_n 0, 1) := by decide +kernel
theorem dX5_init_5 : decode cX5_init 5 = .ok (.bipush 8, 2) := by decide +kernel
theorem dX5_init_7 : decode cX5_init 7 = .ok (.anewarray 9, 3) := by decide +kernel
theorem dX5_init_10 : decode cX5_init 10 = .ok (.putfield 11, 3) := by decide +kernel
theorem dX5_init_13 : decode cX5_init 13 = .ok (.iconst 0, 1) := by decide +kernel
theorem dX5_init_14 : decode cX5_init 14 = .ok (.istore_n 1, 1) := by decide +kernel
theorem dX5_init_15 : decode cX5_init 15 = .ok (.iload_n 1, 1) := by decide +kernel
theorem dX5_init_16 : decode cX5_init 16 = .ok (.bipush 8, 2) := by decide +kernel
theorem dX5_init_18 : decode cX5_init 18 = .ok (.if_icmp .ge 22, 3) := by decide +kernel
theorem dX5_init_21 : decode cX5_init 21 = .ok (.aload_n 0, 1) := by decide +kernel
theorem dX5_init_22 : decode cX5_init 22 = .ok (.getfield 11, 3) := by decide +kernel
theorem dX5_init_25 : decode cX5_init 25 = .ok (.iload_n 1, 1) := by decide +kernel
theorem dX5_init_26 : decode cX5_init 26 = .ok (.new 9, 3) := by decide +kernel
theorem dX5_init_29 : decode cX5_init 29 = .ok (.dup, 1) := by decide +kernel
theorem dX5_init_30 : decode cX5_init 30 = .ok (.invokespecial 17, 3) := by decide +kernel
theorem dX5_init_33 : decode cX5_init 33 = .ok (.aastore, 1) := by decide +kernel
theorem dX5_init_34 : decode cX5_init 34 = .ok (.iinc 1 1, 3) := by decide +kernel
theorem dX5_init_37 : decode cX5_init 37 = .ok (.goto (-22), 3) := by decide +kernel
theorem dX5_init_40 : decode cX5_init 40 = .ok (.return_, 1) := by decide +kernel
theorem dX5_push_0 : decode cX5_push 0 = .ok (.aload_n 0, 1) := by decide +kernel
theorem dX5_push_1 : decode cX5_push 1 = .ok (.getfield 11, 3) := by decide +kernel
theorem dX5_push_4 : decode cX5_push 4 = .ok (.aload_n 0, 1) := by decide +kernel
theorem dX5_push_5 : decode cX5_push 5 = .ok (.getfield 18, 3) := by decide +kernel
theorem dX5_push_8 : decode cX5_push 8 = .ok (.aaload, 1) := by decide +kernel
theorem dX5_push_9 : decode cX5_push 9 = .ok (.aload_n 1, 1) := by decide +kernel
theorem dX5_push_10 : decode cX5_push 10 = .ok (.invokevirtual 22, 3) := by decide +kernel
theorem dX5_push_13 : decode cX5_push 13 = .ok (.aload_n 0, 1) := by decide +kernel
theorem dX5_push_14 : decode cX5_push 14 = .ok (.aload_n 0, 1) := by decide +kernel
theorem dX5_push_15 : decode cX5_push 15 = .ok (.getfield 18, 3) := by decide +kernel
theorem dX5_push_18 : decode cX5_push 18 = .ok (.iconst 1, 1) := by decide +kernel
theorem dX5_push_19 : decode cX5_push 19 = .ok (.iadd, 1) := by decide +kernel
theorem dX5_push_20 : decode cX5_push 20 = .ok (.bipush 8, 2) := by decide +kernel
theorem dX5_push_22 : decode cX5_push 22 = .ok (.if_icmp .ge 12, 3) := by decide +kernel
theorem dX5_push_25 : decode cX5_push 25 = .ok (.aload_n 0, 1) := by decide +kernel
theorem dX5_push_26 : decode cX5_push 26 = .ok (.getfield 18, 3) := by decide +kernel
theorem dX5_push_29 : decode cX5_push 29 = .ok (.iconst 1, 1) := by decide +kernel
theorem dX5_push_30 : decode cX5_push 30 = .ok (.iadd, 1) := by decide +kernel
theorem dX5_push_31 : decode cX5_push 31 = .ok (.goto 4, 3) := by decide +kernel
theorem dX5_push_34 : decode cX5_push 34 = .ok (.iconst 0, 1) := by decide +kernel
theorem dX5_push_35 : decode cX5_push 35 = .ok (.putfield 18, 3) := by decide +kernel
theorem dX5_push_38 : decode cX5_push 38 = .ok (.aload_n 0, 1) := by decide +kernel
theorem dX5_push_39 : decode cX5_push 39 = .ok (.aload_n 0, 1) := by decide +kernel
theorem dX5_push_40 : decode cX5_push 40 = .ok (.getfield 26, 3) := by decide +kernel
theorem dX5_push_43 : decode cX5_push 43 = .ok (.bipush 8, 2) := by decide +kernel
theorem dX5_push_45 : decode cX5_push 45 = .ok (.if_icmp .ge 12, 3) := by decide +kernel
theorem dX5_push_48 : decode cX5_push 48 = .ok (.aload_n 0, 1) := by decide +kernel
theorem dX5_push_49 : decode cX5_push 49 = .ok (.getfield 26, 3) := by decide +kernel
theorem dX5_push_52 : decode cX5_push 52 = .ok (.iconst 1, 1) := by decide +kernel
theorem dX5_push_53 : decode cX5_push 53 = .ok (.iadd, 1) := by decide +kernel
theorem dX5_push_54 : decode cX5_push 54 = .ok (.goto 5, 3) := by decide +kernel
theorem dX5_push_57 : decode cX5_push 57 = .ok (.bipush 8, 2) := by decide +kernel
theorem dX5_push_59 : decode cX5_push 59 = .ok (.putfield 26, 3) := by decide +kernel
theorem dX5_push_62 : decode cX5_push 62 = .ok (.return_, 1) := by decide +kernel
theorem dX5_popInto_0 : decode cX5_popInto 0 = .ok (.aload_n 0, 1) := by decide +kernel
theorem dX5_popInto_1 : decode cX5_popInto 1 = .ok (.getfield 26, 3) := by decide +kernel
theorem dX5_popInto_4 : decode cX5_popInto 4 = .ok (.ifCond .le 48, 3) := by decide +kernel
theorem dX5_popInto_7 : decode cX5_popInto 7 = .ok (.aload_n 0, 1) := by decide +kernel
theorem dX5_popInto_8 : decode cX5_popInto 8 = .ok (.aload_n 0, 1) := by decide +kernel
theorem dX5_popInto_9 : decode cX5_popInto 9 = .ok (.getfield 18, 3) := by decide +kernel
theorem dX5_popInto_12 : decode cX5_popInto 12 = .ok (.ifCond .le 12, 3) := by decide +kernel
theorem dX5_popInto_15 : decode cX5_popInto 15 = .ok (.aload_n 0, 1) := by decide +kernel
theorem dX5_popInto_16 : decode cX5_popInto 16 = .ok (.getfield 18, 3) := by decide +kernel
theorem dX5_popInto_19 : decode cX5_popInto 19 = .ok (.iconst 1, 1) := by decide +kernel
theorem dX5_popInto_20 : decode cX5_popInto 20 = .ok (.isub, 1) := by decide +kernel
theorem dX5_popInto_21 : decode cX5_popInto 21 = .ok (.goto 5, 3) := by decide +kernel
theorem dX5_popInto_24 : decode cX5_popInto 24 = .ok (.bipush 7, 2) := by decide +kernel
theorem dX5_popInto_26 : decode cX5_popInto 26 = .ok (.putfield 18, 3) := by decide +kernel
theorem dX5_popInto_29 : decode cX5_popInto 29 = .ok (.aload_n 0, 1) := by decide +kernel
theorem dX5_popInto_30 : decode cX5_popInto 30 = .ok (.dup, 1) := by decide +kernel
theorem dX5_popInto_31 : decode cX5_popInto 31 = .ok (.getfield 26, 3) := by decide +kernel
theorem dX5_popInto_34 : decode cX5_popInto 34 = .ok (.iconst 1, 1) := by decide +kernel
theorem dX5_popInto_35 : decode cX5_popInto 35 = .ok (.isub, 1) := by decide +kernel
theorem dX5_popInto_36 : decode cX5_popInto 36 = .ok (.putfield 26, 3) := by decide +kernel
theorem dX5_popInto_39 : decode cX5_popInto 39 = .ok (.aload_n 1, 1) := by decide +kernel
theorem dX5_popInto_40 : decode cX5_popInto 40 = .ok (.aload_n 0, 1) := by decide +kernel
theorem dX5_popInto_41 : decode cX5_popInto 41 = .ok (.getfield 11, 3) := by decide +kernel
theorem dX5_popInto_44 : decode cX5_popInto 44 = .ok (.aload_n 0, 1) := by decide +kernel
theorem dX5_popInto_45 : decode cX5_popInto 45 = .ok (.getfield 18, 3) := by decide +kernel
theorem dX5_popInto_48 : decode cX5_popInto 48 = .ok (.aaload, 1) := by decide +kernel
theorem dX5_popInto_49 : decode cX5_popInto 49 = .ok (.invokevirtual 22, 3) := by decide +kernel
theorem dX5_popInto_52 : decode cX5_popInto 52 = .ok (.return_, 1) := by decide +kernel
theorem dX7_init_0 : decode cX7_init 0 = .ok (.aload_n 0, 1) := by decide +kernel
theorem dX7_init_1 : decode cX7_init 1 = .ok (.invokespecial 3, 3) := by decide +kernel
theorem dX7_init_4 : decode cX7_init 4 = .ok (.aload_n 0, 1) := by decide +kernel
theorem dX7_init_5 : decode cX7_init 5 = .ok (.bipush 60, 2) := by decide +kernel
theorem dX7_init_7 : decode cX7_init 7 = .ok (.newarray .char, 2) := by decide +kernel
theorem dX7_init_9 : decode cX7_init 9 = .ok (.putfield 9, 3) := by decide +kernel
theorem dX7_init_12 : decode cX7_init 12 = .ok (.aload_n 0, 1) := by decide +kernel
theorem dX7_init_13 : decode cX7_init 13 = .ok (.bipush 10, 2) := by decide +kernel
theorem dX7_init_15 : decode cX7_init 15 = .ok (.anewarray 15, 3) := by decide +kernel
theorem dX7_init_18 : decode cX7_init 18 = .ok (.putfield 17, 3) := by decide +kernel
theorem dX7_init_21 : decode cX7_init 21 = .ok (.aload_n 0, 1) := by decide +kernel
theorem dX7_init_22 : decode cX7_init 22 = .ok (.bipush 10, 2) := by decide +kernel
theorem dX7_init_24 : decode cX7_init 24 = .ok (.iconst 4, 1) := by decide +kernel
theorem dX7_init_25 : decode cX7_init 25 = .ok (.multianewarray 21 2, 4) := by decide +kernel
theorem dX7_init_29 : decode cX7_init 29 = .ok (.putfield 23, 3) := by decide +kernel
theorem dX7_init_32 : decode cX7_init 32 = .ok (.return_, 1) := by decide +kernel
theorem dX7_add_0 : decode cX7_add 0 = .ok (.aload_n 0, 1) := by decide +kernel
theorem dX7_add_1 : decode cX7_add 1 = .ok (.getfield 9, 3) := by decide +kernel
theorem dX7_add_4 : decode cX7_add 4 = .ok (.aload_n 0, 1) := by decide +kernel
theorem dX7_add_5 : decode cX7_add 5 = .ok (.getfield 26, 3) := by decide +kernel
theorem dX7_add_8 : decode cX7_add 8 = .ok (.iload_n 1, 1) := by decide +kernel
theorem dX7_add_9 : decode cX7_add 9 = .ok (.castore, 1) := by decide +kernel
theorem dX7_add_10 : decode cX7_add 10 = .ok (.aload_n 0, 1) := by decide +kernel
theorem dX7_add_11 : decode cX7_add 11 = .ok (.dup, 1) := by decide +kernel
theorem dX7_add_12 : decode cX7_add 12 = .ok (.getfield 26, 3) := by decide +kernel
theorem dX7_add_15 : decode cX7_add 15 = .ok (.iconst 1, 1) := by decide +kernel
theorem dX7_add_16 : decode cX7_add 16 = .ok (.iadd, 1) := by decide +kernel
theorem dX7_add_17 : decode cX7_add 17 = .ok (.putfield 26, 3) := by decide +kernel
theorem dX7_add_20 : decode cX7_add 20 = .ok (.return_, 1) := by decide +kernel
theorem dX7_read_0 : decode cX7_read 0 = .ok (.aload_n 0, 1) := by decide +kernel
theorem dX7_read_1 : decode cX7_read 1 = .ok (.iconst 0, 1) := by decide +kernel
theorem dX7_read_2 : decode cX7_read 2 = .ok (.putfield 30, 3) := by decide +kernel
theorem dX7_read_5 : decode cX7_read 5 = .ok (.aload_n 0, 1) := by decide +kernel
theorem dX7_read_6 : decode cX7_read 6 = .ok (.iconst 0, 1) := by decide +kernel
theorem dX7_read_7 : decode cX7_read 7 = .ok (.putfield 33, 3) := by decide +kernel
theorem dX7_read_10 : decode cX7_read 10 = .ok (.iconst 1, 1) := by decide +kernel
theorem dX7_read_11 : decode cX7_read 11 = .ok (.istore_n 1, 1) := by decide +kernel
theorem dX7_read_12 : decode cX7_read 12 = .ok (.iconst 0, 1) := by decide +kernel
theorem dX7_read_13 : decode cX7_read 13 = .ok (.istore_n 2, 1) := by decide +kernel
theorem dX7_read_14 : decode cX7_read 14 = .ok (.iload_n 2, 1) := by decide +kernel
theorem dX7_read_15 : decode cX7_read 15 = .ok (.bipush 10, 2) := by decide +kernel
theorem dX7_read_17 : decode cX7_read 17 = .ok (.if_icmp .ge 29, 3) := by decide +kernel
theorem dX7_read_20 : decode cX7_read 20 = .ok (.iload_n 1, 1) := by decide +kernel
theorem dX7_read_21 : decode cX7_read 21 = .ok (.ifCond .eq 25, 3) := by decide +kernel
theorem dX7_read_24 : decode cX7_read 24 = .ok (.aload_n 0, 1) := by decide +kernel
theorem dX7_read_25 : decode cX7_read 25 = .ok (.invokevirtual 36, 3) := by decide +kernel
theorem dX7_read_28 : decode cX7_read 28 = .ok (.ifCond .ne 5, 3) := by decide +kernel
theorem dX7_read_31 : decode cX7_read 31 = .ok (.iconst 0, 1) := by decide +kernel
theorem dX7_read_32 : decode cX7_read 32 = .ok (.ireturn, 1) := by decide +kernel
theorem dX7_read_33 : decode cX7_read 33 = .ok (.aload_n 0, 1) := by decide +kernel
theorem dX7_read_34 : decode cX7_read 34 = .ok (.bipush 59, 2) := by decide +kernel
theorem dX7_read_36 : decode cX7_read 36 = .ok (.invokevirtual 40, 3) := by decide +kernel
theorem dX7_read_39 : decode cX7_read 39 = .ok (.istore_n 1, 1) := by decide +kernel
theorem dX7_read_40 : decode cX7_read 40 = .ok (.iinc 2 1, 3) := by decide +kernel
theorem dX7_read_43 : decode cX7_read 43 = .ok (.goto (-29), 3) := by decide +kernel
theorem dX7_read_46 : decode cX7_read 46 = .ok (.iload_n 1, 1) := by decide +kernel
theorem dX7_read_47 : decode cX7_read 47 = .ok (.ifCond .ne 18, 3) := by decide +kernel
theorem dX7_read_50 : decode cX7_read 50 = .ok (.aload_n 0, 1) := by decide +kernel
theorem dX7_read_51 : decode cX7_read 51 = .ok (.getfield 30, 3) := by decide +kernel
theorem dX7_read_54 : decode cX7_read 54 = .ok (.aload_n 0, 1) := by decide +kernel
theorem dX7_read_55 : decode cX7_read 55 = .ok (.getfield 26, 3) := by decide +kernel
theorem dX7_read_58 : decode cX7_read 58 = .ok (.if_icmp .ne 7, 3) := by decide +kernel
theorem dX7_read_61 : decode cX7_read 61 = .ok (.iconst 1, 1) := by decide +kernel
theorem dX7_read_62 : decode cX7_read 62 = .ok (.goto 4, 3) := by decide +kernel
theorem dX7_read_65 : decode cX7_read 65 = .ok (.iconst 0, 1) := by decide +kernel
theorem dX7_read_66 : decode cX7_read 66 = .ok (.ireturn, 1) := by decide +kernel
theorem dX7_readCommand_0 : decode cX7_readCommand 0 = .ok (.aload_n 0, 1) := by decide +kernel
theorem dX7_readCommand_1 : decode cX7_readCommand 1 = .ok (.invokevirtual 44, 3) := by decide +kernel
theorem dX7_readCommand_4 : decode cX7_readCommand 4 = .ok (.astore_n 1, 1) := by decide +kernel
theorem dX7_readCommand_5 : decode cX7_readCommand 5 = .ok (.aload_n 1, 1) := by decide +kernel
theorem dX7_readCommand_6 : decode cX7_readCommand 6 = .ok (.ifnull 32, 3) := by decide +kernel
theorem dX7_readCommand_9 : decode cX7_readCommand 9 = .ok (.aload_n 0, 1) := by decide +kernel
theorem dX7_readCommand_10 : decode cX7_readCommand 10 = .ok (.getfield 33, 3) := by decide +kernel
theorem dX7_readCommand_13 : decode cX7_readCommand 13 = .ok (.bipush 10, 2) := by decide +kernel
theorem dX7_readCommand_15 : decode cX7_readCommand 15 = .ok (.if_icmp .ge 23, 3) := by decide +kernel
theorem dX7_readCommand_18 : decode cX7_readCommand 18 = .ok (.aload_n 0, 1) := by decide +kernel
theorem dX7_readCommand_19 : decode cX7_readCommand 19 = .ok (.aload_n 1, 1) := by decide +kernel
theorem dX7_readCommand_20 : decode cX7_readCommand 20 = .ok (.getfield 48, 3) := by decide +kernel
theorem dX7_readCommand_23 : decode cX7_readCommand 23 = .ok (.aload_n 0, 1) := by decide +kernel
theorem dX7_readCommand_24 : decode cX7_readCommand 24 = .ok (.getfield 23, 3) := by decide +kernel
theorem dX7_readCommand_27 : decode cX7_readCommand 27 = .ok (.aload_n 0, 1) := by decide +kernel
theorem dX7_readCommand_28 : decode cX7_readCommand 28 = .ok (.getfield 33, 3) := by decide +kernel
theorem dX7_readCommand_31 : decode cX7_readCommand 31 = .ok (.aaload, 1) := by decide +kernel
theorem dX7_readCommand_32 : decode cX7_readCommand 32 = .ok (.invokevirtual 52, 3) := by decide +kernel
theorem dX7_readCommand_35 : decode cX7_readCommand 35 = .ok (.ifCond .ne 5, 3) := by decide +kernel
theorem dX7_readCommand_38 : decode cX7_readCommand 38 = .ok (.iconst 0, 1) := by decide +kernel
theorem dX7_readCommand_39 : decode cX7_readCommand 39 = .ok (.ireturn, 1) := by decide +kernel
theorem dX7_readCommand_40 : decode cX7_readCommand 40 = .ok (.aload_n 0, 1) := by decide +kernel
theorem dX7_readCommand_41 : decode cX7_readCommand 41 = .ok (.getfield 17, 3) := by decide +kernel
theorem dX7_readCommand_44 : decode cX7_readCommand 44 = .ok (.aload_n 0, 1) := by decide +kernel
theorem dX7_readCommand_45 : decode cX7_readCommand 45 = .ok (.getfield 33, 3) := by decide +kernel
theorem dX7_readCommand_48 : decode cX7_readCommand 48 = .ok (.aload_n 1, 1) := by decide +kernel
theorem dX7_readCommand_49 : decode cX7_readCommand 49 = .ok (.aastore, 1) := by decide +kernel
theorem dX7_readCommand_50 : decode cX7_readCommand 50 = .ok (.aload_n 0, 1) := by decide +kernel
theorem dX7_readCommand_51 : decode cX7_readCommand 51 = .ok (.dup, 1) := by decide +kernel
theorem dX7_readCommand_52 : decode cX7_readCommand 52 = .ok (.getfield 33, 3) := by decide +kernel
theorem dX7_readCommand_55 : decode cX7_readCommand 55 = .ok (.iconst 1, 1) := by decide +kernel
theorem dX7_readCommand_56 : decode cX7_readCommand 56 = .ok (.iadd, 1) := by decide +kernel
theorem dX7_readCommand_57 : decode cX7_readCommand 57 = .ok (.putfield 33, 3) := by decide +kernel
theorem dX7_readCommand_60 : decode cX7_readCommand 60 = .ok (.iconst 1, 1) := by decide +kernel
theorem dX7_readCommand_61 : decode cX7_readCommand 61 = .ok (.ireturn, 1) := by decide +kernel
theorem dX7_readWord_0 : decode cX7_readWord 0 = .ok (.iconst 0, 1) := by decide +kernel
theorem dX7_readWord_1 : decode cX7_readWord 1 = .ok (.istore_n 1, 1) := by decide +kernel
theorem dX7_readWord_2 : decode cX7_readWord 2 = .ok (.iconst 0, 1) := by decide +kernel
theorem dX7_readWord_3 : decode cX7_readWord 3 = .ok (.istore_n 2, 1) := by decide +kernel
theorem dX7_readWord_4 : decode cX7_readWord 4 = .ok (.iload_n 2, 1) := by decide +kernel
theorem dX7_readWord_5 : decode cX7_readWord 5 = .ok (.getstatic 56, 3) := by decide +kernel
theorem dX7_readWord_8 : decode cX7_readWord 8 = .ok (.arraylength, 1) := by decide +kernel
theorem dX7_readWord_9 : decode cX7_readWord 9 = .ok (.if_icmp .ge 59, 3) := by decide +kernel
theorem dX7_readWord_12 : decode cX7_readWord 12 = .ok (.aload_n 0, 1) := by decide +kernel
theorem dX7_readWord_13 : decode cX7_readWord 13 = .ok (.getstatic 56, 3) := by decide +kernel
theorem dX7_readWord_16 : decode cX7_readWord 16 = .ok (.iload_n 2, 1) := by decide +kernel
theorem dX7_readWord_17 : decode cX7_readWord 17 = .ok (.aaload, 1) := by decide +kernel
theorem dX7_readWord_18 : decode cX7_readWord 18 = .ok (.getfield 59, 3) := by decide +kernel
theorem dX7_readWord_21 : decode cX7_readWord 21 = .ok (.invokevirtual 62, 3) := by decide +kernel
theorem dX7_readWord_24 : decode cX7_readWord 24 = .ok (.istore_n 3, 1) := by decide +kernel
theorem dX7_readWord_25 : decode cX7_readWord 25 = .ok (.iload_n 3, 1) := by decide +kernel
theorem dX7_readWord_26 : decode cX7_readWord 26 = .ok (.getstatic 56, 3) := by decide +kernel
theorem dX7_readWord_29 : decode cX7_readWord 29 = .ok (.iload_n 2, 1) := by decide +kernel
theorem dX7_readWord_30 : decode cX7_readWord 30 = .ok (.aaload, 1) := by decide +kernel
theorem dX7_readWord_31 : decode cX7_readWord 31 = .ok (.getfield 59, 3) := by decide +kernel
theorem dX7_readWord_34 : decode cX7_readWord 34 = .ok (.invokevirtual 66, 3) := by decide +kernel
theorem dX7_readWord_37 : decode cX7_readWord 37 = .ok (.if_icmp .ne 19, 3) := by decide +kernel
theorem dX7_readWord_40 : decode cX7_readWord 40 = .ok (.aload_n 0, 1) := by decide +kernel
theorem dX7_readWord_41 : decode cX7_readWord 41 = .ok (.dup, 1) := by decide +kernel
theorem dX7_readWord_42 : decode cX7_readWord 42 = .ok (.getfield 30, 3) := by decide +kernel
theorem dX7_readWord_45 : decode cX7_readWord 45 = .ok (.iload_n 3, 1) := by decide +kernel
theorem dX7_readWord_46 : decode cX7_readWord 46 = .ok (.iadd, 1) := by decide +kernel
theorem dX7_readWord_47 : decode cX7_readWord 47 = .ok (.putfield 30, 3) := by decide +kernel
theorem dX7_readWord_50 : decode cX7_readWord 50 = .ok (.getstatic 56, 3) := by decide +kernel
theorem dX7_readWord_53 : decode cX7_readWord 53 = .ok (.iload_n 2, 1) := by decide +kernel
theorem dX7_readWord_54 : decode cX7_readWord 54 = .ok (.aaload, 1) := by decide +kernel
theorem dX7_readWord_55 : decode cX7_readWord 55 = .ok (.areturn, 1) := by decide +kernel
theorem dX7_readWord_56 : decode cX7_readWord 56 = .ok (.iload_n 1, 1) := by decide +kernel
theorem dX7_readWord_57 : decode cX7_readWord 57 = .ok (.iload_n 3, 1) := by decide +kernel
theorem dX7_readWord_58 : decode cX7_readWord 58 = .ok (.invokestatic 72, 3) := by decide +kernel
theorem dX7_readWord_61 : decode cX7_readWord 61 = .ok (.istore_n 1, 1) := by decide +kernel
theorem dX7_readWord_62 : decode cX7_readWord 62 = .ok (.iinc 2 1, 3) := by decide +kernel
theorem dX7_readWord_65 : decode cX7_readWord 65 = .ok (.goto (-61), 3) := by decide +kernel
theorem dX7_readWord_68 : decode cX7_readWord 68 = .ok (.aload_n 0, 1) := by decide +kernel
theorem dX7_readWord_69 : decode cX7_readWord 69 = .ok (.dup, 1) := by decide +kernel
theorem dX7_readWord_70 : decode cX7_readWord 70 = .ok (.getfield 30, 3) := by decide +kernel
theorem dX7_readWord_73 : decode cX7_readWord 73 = .ok (.iload_n 1, 1) := by decide +kernel
theorem dX7_readWord_74 : decode cX7_readWord 74 = .ok (.iadd, 1) := by decide +kernel
theorem dX7_readWord_75 : decode cX7_readWord 75 = .ok (.putfield 30, 3) := by decide +kernel
theorem dX7_readWord_78 : decode cX7_readWord 78 = .ok (.aconst_null, 1) := by decide +kernel
theorem dX7_readWord_79 : decode cX7_readWord 79 = .ok (.areturn, 1) := by decide +kernel
theorem dX7_fittingSigns_0 : decode cX7_fittingSigns 0 = .ok (.iconst 0, 1) := by decide +kernel
theorem dX7_fittingSigns_1 : decode cX7_fittingSigns 1 = .ok (.istore_n 2, 1) := by decide +kernel
theorem dX7_fittingSigns_2 : decode cX7_fittingSigns 2 = .ok (.iconst 0, 1) := by decide +kernel
theorem dX7_fittingSigns_3 : decode cX7_fittingSigns 3 = .ok (.istore_n 3, 1) := by decide +kernel
theorem dX7_fittingSigns_4 : decode cX7_fittingSigns 4 = .ok (.iload_n 3, 1) := by decide +kernel
theorem dX7_fittingSigns_5 : decode cX7_fittingSigns 5 = .ok (.aload_n 1, 1) := by decide +kernel
theorem dX7_fittingSigns_6 : decode cX7_fittingSigns 6 = .ok (.invokevirtual 66, 3) := by decide +kernel
theorem dX7_fittingSigns_9 : decode cX7_fittingSigns 9 = .ok (.if_icmp .ge 30, 3) := by decide +kernel
theorem dX7_fittingSigns_12 : decode cX7_fittingSigns 12 = .ok (.aload_n 0, 1) := by decide +kernel
theorem dX7_fittingSigns_13 : decode cX7_fittingSigns 13 = .ok (.aload_n 0, 1) := by decide +kernel
theorem dX7_fittingSigns_14 : decode cX7_fittingSigns 14 = .ok (.getfield 30, 3) := by decide +kernel
theorem dX7_fittingSigns_17 : decode cX7_fittingSigns 17 = .ok (.iload_n 3, 1) := by decide +kernel
theorem dX7_fittingSigns_18 : decode cX7_fittingSigns 18 = .ok (.iadd, 1) := by decide +kernel
theorem dX7_fittingSigns_19 : decode cX7_fittingSigns 19 = .ok (.invokevirtual 78, 3) := by decide +kernel
theorem dX7_fittingSigns_22 : decode cX7_fittingSigns 22 = .ok (.aload_n 1, 1) := by decide +kernel
theorem dX7_fittingSigns_23 : decode cX7_fittingSigns 23 = .ok (.iload_n 3, 1) := by decide +kernel
theorem dX7_fittingSigns_24 : decode cX7_fittingSigns 24 = .ok (.invokevirtual 82, 3) := by decide +kernel
theorem dX7_fittingSigns_27 : decode cX7_fittingSigns 27 = .ok (.if_icmp .ne 12, 3) := by decide +kernel
theorem dX7_fittingSigns_30 : decode cX7_fittingSigns 30 = .ok (.iinc 2 1, 3) := by decide +kernel
theorem dX7_fittingSigns_33 : decode cX7_fittingSigns 33 = .ok (.iinc 3 1, 3) := by decide +kernel
theorem dX7_fittingSigns_36 : decode cX7_fittingSigns 36 = .ok (.goto (-32), 3) := by decide +kernel
theorem dX7_fittingSigns_39 : decode cX7_fittingSigns 39 = .ok (.iload_n 2, 1) := by decide +kernel
theorem dX7_fittingSigns_40 : decode cX7_fittingSigns 40 = .ok (.ireturn, 1) := by decide +kernel
theorem dX7_readForm_0 : decode cX7_readForm 0 = .ok (.iconst 0, 1) := by decide +kernel
theorem dX7_readForm_1 : decode cX7_readForm 1 = .ok (.istore_n 3, 1) := by decide +kernel
theorem dX7_readForm_2 : decode cX7_readForm 2 = .ok (.iconst 1, 1) := by decide +kernel
theorem dX7_readForm_3 : decode cX7_readForm 3 = .ok (.istore 4, 2) := by decide +kernel
theorem dX7_readForm_5 : decode cX7_readForm 5 = .ok (.iconst 0, 1) := by decide +kernel
theorem dX7_readForm_6 : decode cX7_readForm 6 = .ok (.istore 5, 2) := by decide +kernel
theorem dX7_readForm_8 : decode cX7_readForm 8 = .ok (.iload 5, 2) := by decide +kernel
theorem dX7_readForm_10 : decode cX7_readForm 10 = .ok (.aload_n 1, 1) := by decide +kernel
theorem dX7_readForm_11 : decode cX7_readForm 11 = .ok (.invokevirtual 66, 3) := by decide +kernel
theorem dX7_readForm_14 : decode cX7_readForm 14 = .ok (.if_icmp .ge 75, 3) := by decide +kernel
theorem dX7_readForm_17 : decode cX7_readForm 17 = .ok (.iload 4, 2) := by decide +kernel
theorem dX7_readForm_19 : decode cX7_readForm 19 = .ok (.ifCond .eq 70, 3) := by decide +kernel
theorem dX7_readForm_22 : decode cX7_readForm 22 = .ok (.aload_n 1, 1) := by decide +kernel
theorem dX7_readForm_23 : decode cX7_readForm 23 = .ok (.iload 5, 2) := by decide +kernel
theorem dX7_readForm_25 : decode cX7_readForm 25 = .ok (.invokevirtual 82, 3) := by decide +kernel
theorem dX7_readForm_28 : decode cX7_readForm 28 = .ok (.istore 6, 2) := by decide +kernel
theorem dX7_readForm_30 : decode cX7_readForm 30 = .ok (.iload 6, 2) := by decide +kernel
theorem dX7_readForm_32 : decode cX7_readForm 32 = .ok (.invokestatic 85, 3) := by decide +kernel
theorem dX7_readForm_35 : decode cX7_readForm 35 = .ok (.istore 7, 2) := by decide +kernel
theorem dX7_readForm_37 : decode cX7_readForm 37 = .ok (.iload 7, 2) := by decide +kernel
theorem dX7_readForm_39 : decode cX7_readForm 39 = .ok (.ifCond .ne 14, 3) := by decide +kernel
theorem dX7_readForm_42 : decode cX7_readForm 42 = .ok (.aload_n 0, 1) := by decide +kernel
theorem dX7_readForm_43 : decode cX7_readForm 43 = .ok (.iload 6, 2) := by decide +kernel
theorem dX7_readForm_45 : decode cX7_readForm 45 = .ok (.invokevirtual 40, 3) := by decide +kernel
theorem dX7_readForm_48 : decode cX7_readForm 48 = .ok (.istore 4, 2) := by decide +kernel
theorem dX7_readForm_50 : decode cX7_readForm 50 = .ok (.goto 33, 3) := by decide +kernel
theorem dX7_readForm_53 : decode cX7_readForm 53 = .ok (.iload_n 3, 1) := by decide +kernel
theorem dX7_readForm_54 : decode cX7_readForm 54 = .ok (.iconst 4, 1) := by decide +kernel
theorem dX7_readForm_55 : decode cX7_readForm 55 = .ok (.if_icmp .ge 28, 3) := by decide +kernel
theorem dX7_readForm_58 : decode cX7_readForm 58 = .ok (.aload_n 0, 1) := by decide +kernel
theorem dX7_readForm_59 : decode cX7_readForm 59 = .ok (.iload 7, 2) := by decide +kernel
theorem dX7_readForm_61 : decode cX7_readForm 61 = .ok (.iload 6, 2) := by decide +kernel
theorem dX7_readForm_63 : decode cX7_readForm 63 = .ok (.bipush 118, 2) := by decide +kernel
theorem dX7_readForm_65 : decode cX7_readForm 65 = .ok (.if_icmp .ne 7, 3) := by decide +kernel
theorem dX7_readForm_68 : decode cX7_readForm 68 = .ok (.iconst 1, 1) := by decide +kernel
theorem dX7_readForm_69 : decode cX7_readForm 69 = .ok (.goto 4, 3) := by decide +kernel
theorem dX7_readForm_72 : decode cX7_readForm 72 = .ok (.iconst 0, 1) := by decide +kernel
theorem dX7_readForm_73 : decode cX7_readForm 73 = .ok (.aload_n 2, 1) := by decide +kernel
theorem dX7_readForm_74 : decode cX7_readForm 74 = .ok (.iload_n 3, 1) := by decide +kernel
theorem dX7_readForm_75 : decode cX7_readForm 75 = .ok (.invokevirtual 89, 3) := by decide +kernel
theorem dX7_readForm_78 : decode cX7_readForm 78 = .ok (.istore 4, 2) := by decide +kernel
theorem dX7_readForm_80 : decode cX7_readForm 80 = .ok (.iinc 3 1, 3) := by decide +kernel
theorem dX7_readForm_83 : decode cX7_readForm 83 = .ok (.iinc 5 1, 3) := by decide +kernel
theorem dX7_readForm_86 : decode cX7_readForm 86 = .ok (.goto (-78), 3) := by decide +kernel
theorem dX7_readForm_89 : decode cX7_readForm 89 = .ok (.iload 4, 2) := by decide +kernel
theorem dX7_readForm_91 : decode cX7_readForm 91 = .ok (.ireturn, 1) := by decide +kernel
theorem dX7_mostDigits_0 : decode cX7_mostDigits 0 = .ok (.iload_n 0, 1) := by decide +kernel
theorem dX7_mostDigits_1 : decode cX7_mostDigits 1 = .ok (.lookupswitch 41 #[(100, 35), (110, 37), (118, 39)], 35) := by decide +kernel
theorem dX7_mostDigits_36 : decode cX7_mostDigits 36 = .ok (.iconst 1, 1) := by decide +kernel
theorem dX7_mostDigits_37 : decode cX7_mostDigits 37 = .ok (.ireturn, 1) := by decide +kernel
theorem dX7_mostDigits_38 : decode cX7_mostDigits 38 = .ok (.iconst 2, 1) := by decide +kernel
theorem dX7_mostDigits_39 : decode cX7_mostDigits 39 = .ok (.ireturn, 1) := by decide +kernel
theorem dX7_mostDigits_40 : decode cX7_mostDigits 40 = .ok (.iconst 5, 1) := by decide +kernel
theorem dX7_mostDigits_41 : decode cX7_mostDigits 41 = .ok (.ireturn, 1) := by decide +kernel
theorem dX7_mostDigits_42 : decode cX7_mostDigits 42 = .ok (.iconst 0, 1) := by decide +kernel
theorem dX7_mostDigits_43 : decode cX7_mostDigits 43 = .ok (.ireturn, 1) := by decide +kernel
theorem dX7_readArgument_0 : decode cX7_readArgument 0 = .ok (.iload_n 2, 1) := by decide +kernel
theorem dX7_readArgument_1 : decode cX7_readArgument 1 = .ok (.ifCond .eq 16, 3) := by decide +kernel
theorem dX7_readArgument_4 : decode cX7_readArgument 4 = .ok (.aload_n 0, 1) := by decide +kernel
theorem dX7_readArgument_5 : decode cX7_readArgument 5 = .ok (.bipush 45, 2) := by decide +kernel
theorem dX7_readArgument_7 : decode cX7_readArgument 7 = .ok (.invokevirtual 40, 3) := by decide +kernel
theorem dX7_readArgument_10 : decode cX7_readArgument 10 = .ok (.ifCond .eq 7, 3) := by decide +kernel
theorem dX7_readArgument_13 : decode cX7_readArgument 13 = .ok (.iconst 1, 1) := by decide +kernel
theorem dX7_readArgument_14 : decode cX7_readArgument 14 = .ok (.goto 4, 3) := by decide +kernel
theorem dX7_readArgument_17 : decode cX7_readArgument 17 = .ok (.iconst 0, 1) := by decide +kernel
theorem dX7_readArgument_18 : decode cX7_readArgument 18 = .ok (.istore 5, 2) := by decide +kernel
theorem dX7_readArgument_20 : decode cX7_readArgument 20 = .ok (.iconst 0, 1) := by decide +kernel
theorem dX7_readArgument_21 : decode cX7_readArgument 21 = .ok (.istore 6, 2) := by decide +kernel
theorem dX7_readArgument_23 : decode cX7_readArgument 23 = .ok (.iconst 0, 1) := by decide +kernel
theorem dX7_readArgument_24 : decode cX7_readArgument 24 = .ok (.istore 7, 2) := by decide +kernel
theorem dX7_readArgument_26 : decode cX7_readArgument 26 = .ok (.iload 7, 2) := by decide +kernel
theorem dX7_readArgument_28 : decode cX7_readArgument 28 = .ok (.iload_n 1, 1) := by decide +kernel
theorem dX7_readArgument_29 : decode cX7_readArgument 29 = .ok (.if_icmp .ge 56, 3) := by decide +kernel
theorem dX7_readArgument_32 : decode cX7_readArgument 32 = .ok (.aload_n 0, 1) := by decide +kernel
theorem dX7_readArgument_33 : decode cX7_readArgument 33 = .ok (.aload_n 0, 1) := by decide +kernel
theorem dX7_readArgument_34 : decode cX7_readArgument 34 = .ok (.getfield 30, 3) := by decide +kernel
theorem dX7_readArgument_37 : decode cX7_readArgument 37 = .ok (.invokevirtual 78, 3) := by decide +kernel
theorem dX7_readArgument_40 : decode cX7_readArgument 40 = .ok (.bipush 48, 2) := by decide +kernel
theorem dX7_readArgument_42 : decode cX7_readArgument 42 = .ok (.bipush 57, 2) := by decide +kernel
theorem dX7_readArgument_44 : decode cX7_readArgument 44 = .ok (.invokestatic 93, 3) := by decide +kernel
theorem dX7_readArgument_47 : decode cX7_readArgument 47 = .ok (.ifCond .eq 38, 3) := by decide +kernel
theorem dX7_readArgument_50 : decode cX7_readArgument 50 = .ok (.bipush 10, 2) := by decide +kernel
theorem dX7_readArgument_52 : decode cX7_readArgument 52 = .ok (.iload 6, 2) := by decide +kernel
theorem dX7_readArgument_54 : decode cX7_readArgument 54 = .ok (.imul, 1) := by decide +kernel
theorem dX7_readArgument_55 : decode cX7_readArgument 55 = .ok (.aload_n 0, 1) := by decide +kernel
theorem dX7_readArgument_56 : decode cX7_readArgument 56 = .ok (.aload_n 0, 1) := by decide +kernel
theorem dX7_readArgument_57 : decode cX7_readArgument 57 = .ok (.getfield 30, 3) := by decide +kernel
theorem dX7_readArgument_60 : decode cX7_readArgument 60 = .ok (.invokevirtual 78, 3) := by decide +kernel
theorem dX7_readArgument_63 : decode cX7_readArgument 63 = .ok (.bipush 48, 2) := by decide +kernel
theorem dX7_readArgument_65 : decode cX7_readArgument 65 = .ok (.isub, 1) := by decide +kernel
theorem dX7_readArgument_66 : decode cX7_readArgument 66 = .ok (.iadd, 1) := by decide +kernel
theorem dX7_readArgument_67 : decode cX7_readArgument 67 = .ok (.istore 6, 2) := by decide +kernel
theorem dX7_readArgument_69 : decode cX7_readArgument 69 = .ok (.aload_n 0, 1) := by decide +kernel
theorem dX7_readArgument_70 : decode cX7_readArgument 70 = .ok (.dup, 1) := by decide +kernel
theorem dX7_readArgument_71 : decode cX7_readArgument 71 = .ok (.getfield 30, 3) := by decide +kernel
theorem dX7_readArgument_74 : decode cX7_readArgument 74 = .ok (.iconst 1, 1) := by decide +kernel
theorem dX7_readArgument_75 : decode cX7_readArgument 75 = .ok (.iadd, 1) := by decide +kernel
theorem dX7_readArgument_76 : decode cX7_readArgument 76 = .ok (.putfield 30, 3) := by decide +kernel
theorem dX7_readArgument_79 : decode cX7_readArgument 79 = .ok (.iinc 7 1, 3) := by decide +kernel
theorem dX7_readArgument_82 : decode cX7_readArgument 82 = .ok (.goto (-56), 3) := by decide +kernel
theorem dX7_readArgument_85 : decode cX7_readArgument 85 = .ok (.aload_n 3, 1) := by decide +kernel
theorem dX7_readArgument_86 : decode cX7_readArgument 86 = .ok (.iload 4, 2) := by decide +kernel
theorem dX7_readArgument_88 : decode cX7_readArgument 88 = .ok (.iload 5, 2) := by decide +kernel
theorem dX7_readArgument_90 : decode cX7_readArgument 90 = .ok (.ifCond .eq 9, 3) := by decide +kernel
theorem dX7_readArgument_93 : decode cX7_readArgument 93 = .ok (.iload 6, 2) := by decide +kernel
theorem dX7_readArgument_95 : decode cX7_readArgument 95 = .ok (.ineg, 1) := by decide +kernel
theorem dX7_readArgument_96 : decode cX7_readArgument 96 = .ok (.goto 5, 3) := by decide +kernel
theorem dX7_readArgument_99 : decode cX7_readArgument 99 = .ok (.iload 6, 2) := by decide +kernel
theorem dX7_readArgument_101 : decode cX7_readArgument 101 = .ok (.iastore, 1) := by decide +kernel
theorem dX7_readArgument_102 : decode cX7_readArgument 102 = .ok (.iload 7, 2) := by decide +kernel
theorem dX7_readArgument_104 : decode cX7_readArgument 104 = .ok (.ifCond .le 7, 3) := by decide +kernel
theorem dX7_readArgument_107 : decode cX7_readArgument 107 = .ok (.iconst 1, 1) := by decide +kernel
theorem dX7_readArgument_108 : decode cX7_readArgument 108 = .ok (.goto 4, 3) := by decide +kernel
theorem dX7_readArgument_111 : decode cX7_readArgument 111 = .ok (.iconst 0, 1) := by decide +kernel
theorem dX7_readArgument_112 : decode cX7_readArgument 112 = .ok (.ireturn, 1) := by decide +kernel
theorem dX7_readSign_0 : decode cX7_readSign 0 = .ok (.aload_n 0, 1) := by decide +kernel
theorem dX7_readSign_1 : decode cX7_readSign 1 = .ok (.aload_n 0, 1) := by decide +kernel
theorem dX7_readSign_2 : decode cX7_readSign 2 = .ok (.getfield 30, 3) := by decide +kernel
theorem dX7_readSign_5 : decode cX7_readSign 5 = .ok (.invokevirtual 78, 3) := by decide +kernel
theorem dX7_readSign_8 : decode cX7_readSign 8 = .ok (.iload_n 1, 1) := by decide +kernel
theorem dX7_readSign_9 : decode cX7_readSign 9 = .ok (.if_icmp .ne 7, 3) := by decide +kernel
theorem dX7_readSign_12 : decode cX7_readSign 12 = .ok (.iconst 1, 1) := by decide +kernel
theorem dX7_readSign_13 : decode cX7_readSign 13 = .ok (.goto 4, 3) := by decide +kernel
theorem dX7_readSign_16 : decode cX7_readSign 16 = .ok (.iconst 0, 1) := by decide +kernel
theorem dX7_readSign_17 : decode cX7_readSign 17 = .ok (.istore_n 2, 1) := by decide +kernel
theorem dX7_readSign_18 : decode cX7_readSign 18 = .ok (.iload_n 2, 1) := by decide +kernel
theorem dX7_readSign_19 : decode cX7_readSign 19 = .ok (.ifCond .eq 13, 3) := by decide +kernel
theorem dX7_readSign_22 : decode cX7_readSign 22 = .ok (.aload_n 0, 1) := by decide +kernel
theorem dX7_readSign_23 : decode cX7_readSign 23 = .ok (.dup, 1) := by decide +kernel
theorem dX7_readSign_24 : decode cX7_readSign 24 = .ok (.getfield 30, 3) := by decide +kernel
theorem dX7_readSign_27 : decode cX7_readSign 27 = .ok (.iconst 1, 1) := by decide +kernel
theorem dX7_readSign_28 : decode cX7_readSign 28 = .ok (.iadd, 1) := by decide +kernel
theorem dX7_readSign_29 : decode cX7_readSign 29 = .ok (.putfield 30, 3) := by decide +kernel
theorem dX7_readSign_32 : decode cX7_readSign 32 = .ok (.iload_n 2, 1) := by decide +kernel
theorem dX7_readSign_33 : decode cX7_readSign 33 = .ok (.ireturn, 1) := by decide +kernel
theorem dX7_signAt_0 : decode cX7_signAt 0 = .ok (.iload_n 1, 1) := by decide +kernel
theorem dX7_signAt_1 : decode cX7_signAt 1 = .ok (.ifCond .lt 20, 3) := by decide +kernel
theorem dX7_signAt_4 : decode cX7_signAt 4 = .ok (.iload_n 1, 1) := by decide +kernel
theorem dX7_signAt_5 : decode cX7_signAt 5 = .ok (.aload_n 0, 1) := by decide +kernel
theorem dX7_signAt_6 : decode cX7_signAt 6 = .ok (.getfield 26, 3) := by decide +kernel
theorem dX7_signAt_9 : decode cX7_signAt 9 = .ok (.if_icmp .ge 12, 3) := by decide +kernel
theorem dX7_signAt_12 : decode cX7_signAt 12 = .ok (.aload_n 0, 1) := by decide +kernel
theorem dX7_signAt_13 : decode cX7_signAt 13 = .ok (.getfield 9, 3) := by decide +kernel
theorem dX7_signAt_16 : decode cX7_signAt 16 = .ok (.iload_n 1, 1) := by decide +kernel
theorem dX7_signAt_17 : decode cX7_signAt 17 = .ok (.caload, 1) := by decide +kernel
theorem dX7_signAt_18 : decode cX7_signAt 18 = .ok (.goto 4, 3) := by decide +kernel
theorem dX7_signAt_21 : decode cX7_signAt 21 = .ok (.iconst 0, 1) := by decide +kernel
theorem dX7_signAt_22 : decode cX7_signAt 22 = .ok (.ireturn, 1) := by decide +kernel
theorem dX8_init_0 : decode cX8_init 0 = .ok (.aload_n 0, 1) := by decide +kernel
theorem dX8_init_1 : decode cX8_init 1 = .ok (.invokespecial 3, 3) := by decide +kernel
theorem dX8_init_4 : decode cX8_init 4 = .ok (.aload_n 0, 1) := by decide +kernel
theorem dX8_init_5 : decode cX8_init 5 = .ok (.bipush 16, 2) := by decide +kernel
theorem dX8_init_7 : decode cX8_init 7 = .ok (.newarray .int, 2) := by decide +kernel
theorem dX8_init_9 : decode cX8_init 9 = .ok (.putfield 9, 3) := by decide +kernel
theorem dX8_init_12 : decode cX8_init 12 = .ok (.aload_n 0, 1) := by decide +kernel
theorem dX8_init_13 : decode cX8_init 13 = .ok (.bipush 16, 2) := by decide +kernel
theorem dX8_init_15 : decode cX8_init 15 = .ok (.newarray .int, 2) := by decide +kernel
theorem dX8_init_17 : decode cX8_init 17 = .ok (.putfield 15, 3) := by decide +kernel
theorem dX8_init_20 : decode cX8_init 20 = .ok (.aload_n 0, 1) := by decide +kernel
theorem dX8_init_21 : decode cX8_init 21 = .ok (.aload_n 1, 1) := by decide +kernel
theorem dX8_init_22 : decode cX8_init 22 = .ok (.putfield 18, 3) := by decide +kernel
theorem dX8_init_25 : decode cX8_init 25 = .ok (.return_, 1) := by decide +kernel
theorem dX8_divide_0 : decode cX8_divide 0 = .ok (.iconst 0, 1) := by decide +kernel
theorem dX8_divide_1 : decode cX8_divide 1 = .ok (.istore_n 2, 1) := by decide +kernel
theorem dX8_divide_2 : decode cX8_divide 2 = .ok (.iload_n 2, 1) := by decide +kernel
theorem dX8_divide_3 : decode cX8_divide 3 = .ok (.bipush 16, 2) := by decide +kernel
theorem dX8_divide_5 : decode cX8_divide 5 = .ok (.if_icmp .ge 23, 3) := by decide +kernel
theorem dX8_divide_8 : decode cX8_divide 8 = .ok (.aload_n 0, 1) := by decide +kernel
theorem dX8_divide_9 : decode cX8_divide 9 = .ok (.getfield 9, 3) := by decide +kernel
theorem dX8_divide_12 : decode cX8_divide 12 = .ok (.iload_n 2, 1) := by decide +kernel
theorem dX8_divide_13 : decode cX8_divide 13 = .ok (.iconst 0, 1) := by decide +kernel
theorem dX8_divide_14 : decode cX8_divide 14 = .ok (.iastore, 1) := by decide +kernel
theorem dX8_divide_15 : decode cX8_divide 15 = .ok (.aload_n 0, 1) := by decide +kernel
theorem dX8_divide_16 : decode cX8_divide 16 = .ok (.getfield 15, 3) := by decide +kernel
theorem dX8_divide_19 : decode cX8_divide 19 = .ok (.iload_n 2, 1) := by decide +kernel
theorem dX8_divide_20 : decode cX8_divide 20 = .ok (.iconst (-1), 1) := by decide +kernel
theorem dX8_divide_21 : decode cX8_divide 21 = .ok (.iastore, 1) := by decide +kernel
theorem dX8_divide_22 : decode cX8_divide 22 = .ok (.iinc 2 1, 3) := by decide +kernel
theorem dX8_divide_25 : decode cX8_divide 25 = .ok (.goto (-23), 3) := by decide +kernel
theorem dX8_divide_28 : decode cX8_divide 28 = .ok (.aload_n 1, 1) := by decide +kernel
theorem dX8_divide_29 : decode cX8_divide 29 = .ok (.invokevirtual 22, 3) := by decide +kernel
theorem dX8_divide_32 : decode cX8_divide 32 = .ok (.invokestatic 28, 3) := by decide +kernel
theorem dX8_divide_35 : decode cX8_divide 35 = .ok (.istore_n 2, 1) := by decide +kernel
theorem dX8_divide_36 : decode cX8_divide 36 = .ok (.aload_n 1, 1) := by decide +kernel
theorem dX8_divide_37 : decode cX8_divide 37 = .ok (.invokevirtual 34, 3) := by decide +kernel
theorem dX8_divide_40 : decode cX8_divide 40 = .ok (.istore_n 3, 1) := by decide +kernel
theorem dX8_divide_41 : decode cX8_divide 41 = .ok (.iload_n 3, 1) := by decide +kernel
theorem dX8_divide_42 : decode cX8_divide 42 = .ok (.ifCond .gt 4, 3) := by decide +kernel
theorem dX8_divide_45 : decode cX8_divide 45 = .ok (.return_, 1) := by decide +kernel
theorem dX8_divide_46 : decode cX8_divide 46 = .ok (.iload_n 2, 1) := by decide +kernel
theorem dX8_divide_47 : decode cX8_divide 47 = .ok (.istore 4, 2) := by decide +kernel
theorem dX8_divide_49 : decode cX8_divide 49 = .ok (.iconst 0, 1) := by decide +kernel
theorem dX8_divide_50 : decode cX8_divide 50 = .ok (.istore 5, 2) := by decide +kernel
theorem dX8_divide_52 : decode cX8_divide 52 = .ok (.iload 5, 2) := by decide +kernel
theorem dX8_divide_54 : decode cX8_divide 54 = .ok (.aload_n 1, 1) := by decide +kernel
theorem dX8_divide_55 : decode cX8_divide 55 = .ok (.getfield 37, 3) := by decide +kernel
theorem dX8_divide_58 : decode cX8_divide 58 = .ok (.if_icmp .ge 66, 3) := by decide +kernel
theorem dX8_divide_61 : decode cX8_divide 61 = .ok (.aload_n 1, 1) := by decide +kernel
theorem dX8_divide_62 : decode cX8_divide 62 = .ok (.getfield 41, 3) := by decide +kernel
theorem dX8_divide_65 : decode cX8_divide 65 = .ok (.iload 5, 2) := by decide +kernel
theorem dX8_divide_67 : decode cX8_divide 67 = .ok (.iaload, 1) := by decide +kernel
theorem dX8_divide_68 : decode cX8_divide 68 = .ok (.istore 6, 2) := by decide +kernel
theorem dX8_divide_70 : decode cX8_divide 70 = .ok (.iload_n 2, 1) := by decide +kernel
theorem dX8_divide_71 : decode cX8_divide 71 = .ok (.aload_n 0, 1) := by decide +kernel
theorem dX8_divide_72 : decode cX8_divide 72 = .ok (.getfield 18, 3) := by decide +kernel
theorem dX8_divide_75 : decode cX8_divide 75 = .ok (.getfield 44, 3) := by decide +kernel
theorem dX8_divide_78 : decode cX8_divide 78 = .ok (.iload 6, 2) := by decide +kernel
theorem dX8_divide_80 : decode cX8_divide 80 = .ok (.iaload, 1) := by decide +kernel
theorem dX8_divide_81 : decode cX8_divide 81 = .ok (.imul, 1) := by decide +kernel
theorem dX8_divide_82 : decode cX8_divide 82 = .ok (.istore 7, 2) := by decide +kernel
theorem dX8_divide_84 : decode cX8_divide 84 = .ok (.aload_n 0, 1) := by decide +kernel
theorem dX8_divide_85 : decode cX8_divide 85 = .ok (.getfield 9, 3) := by decide +kernel
theorem dX8_divide_88 : decode cX8_divide 88 = .ok (.iload 6, 2) := by decide +kernel
theorem dX8_divide_90 : decode cX8_divide 90 = .ok (.iload 7, 2) := by decide +kernel
theorem dX8_divide_92 : decode cX8_divide 92 = .ok (.iload_n 3, 1) := by decide +kernel
theorem dX8_divide_93 : decode cX8_divide 93 = .ok (.idiv, 1) := by decide +kernel
theorem dX8_divide_94 : decode cX8_divide 94 = .ok (.iastore, 1) := by decide +kernel
theorem dX8_divide_95 : decode cX8_divide 95 = .ok (.aload_n 0, 1) := by decide +kernel
theorem dX8_divide_96 : decode cX8_divide 96 = .ok (.getfield 15, 3) := by decide +kernel
theorem dX8_divide_99 : decode cX8_divide 99 = .ok (.iload 6, 2) := by decide +kernel
theorem dX8_divide_101 : decode cX8_divide 101 = .ok (.iload 7, 2) := by decide +kernel
theorem dX8_divide_103 : decode cX8_divide 103 = .ok (.iload_n 3, 1) := by decide +kernel
theorem dX8_divide_104 : decode cX8_divide 104 = .ok (.irem, 1) := by decide +kernel
theorem dX8_divide_105 : decode cX8_divide 105 = .ok (.iastore, 1) := by decide +kernel
theorem dX8_divide_106 : decode cX8_divide 106 = .ok (.iload 4, 2) := by decide +kernel
theorem dX8_divide_108 : decode cX8_divide 108 = .ok (.aload_n 0, 1) := by decide +kernel
theorem dX8_divide_109 : decode cX8_divide 109 = .ok (.getfield 9, 3) := by decide +kernel
theorem dX8_divide_112 : decode cX8_divide 112 = .ok (.iload 6, 2) := by decide +kernel
theorem dX8_divide_114 : decode cX8_divide 114 = .ok (.iaload, 1) := by decide +kernel
theorem dX8_divide_115 : decode cX8_divide 115 = .ok (.isub, 1) := by decide +kernel
theorem dX8_divide_116 : decode cX8_divide 116 = .ok (.istore 4, 2) := by decide +kernel
theorem dX8_divide_118 : decode cX8_divide 118 = .ok (.iinc 5 1, 3) := by decide +kernel
theorem dX8_divide_121 : decode cX8_divide 121 = .ok (.goto (-69), 3) := by decide +kernel
theorem dX8_divide_124 : decode cX8_divide 124 = .ok (.aload_n 0, 1) := by decide +kernel
theorem dX8_divide_125 : decode cX8_divide 125 = .ok (.iload 4, 2) := by decide +kernel
theorem dX8_divide_127 : decode cX8_divide 127 = .ok (.invokevirtual 49, 3) := by decide +kernel
theorem dX8_divide_130 : decode cX8_divide 130 = .ok (.return_, 1) := by decide +kernel
theorem dX8_giveOut_0 : decode cX8_giveOut 0 = .ok (.iconst 0, 1) := by decide +kernel
theorem dX8_giveOut_1 : decode cX8_giveOut 1 = .ok (.istore_n 2, 1) := by decide +kernel
theorem dX8_giveOut_2 : decode cX8_giveOut 2 = .ok (.iload_n 2, 1) := by decide +kernel
theorem dX8_giveOut_3 : decode cX8_giveOut 3 = .ok (.iload_n 1, 1) := by decide +kernel
theorem dX8_giveOut_4 : decode cX8_giveOut 4 = .ok (.if_icmp .ge 69, 3) := by decide +kernel
theorem dX8_giveOut_7 : decode cX8_giveOut 7 = .ok (.iload_n 2, 1) := by decide +kernel
theorem dX8_giveOut_8 : decode cX8_giveOut 8 = .ok (.bipush 16, 2) := by decide +kernel
theorem dX8_giveOut_10 : decode cX8_giveOut 10 = .ok (.if_icmp .ge 63, 3) := by decide +kernel
theorem dX8_giveOut_13 : decode cX8_giveOut 13 = .ok (.iconst 0, 1) := by decide +kernel
theorem dX8_giveOut_14 : decode cX8_giveOut 14 = .ok (.istore_n 3, 1) := by decide +kernel
theorem dX8_giveOut_15 : decode cX8_giveOut 15 = .ok (.iconst 1, 1) := by decide +kernel
theorem dX8_giveOut_16 : decode cX8_giveOut 16 = .ok (.istore 4, 2) := by decide +kernel
theorem dX8_giveOut_18 : decode cX8_giveOut 18 = .ok (.iload 4, 2) := by decide +kernel
theorem dX8_giveOut_20 : decode cX8_giveOut 20 = .ok (.bipush 16, 2) := by decide +kernel
theorem dX8_giveOut_22 : decode cX8_giveOut 22 = .ok (.if_icmp .ge 28, 3) := by decide +kernel
theorem dX8_giveOut_25 : decode cX8_giveOut 25 = .ok (.aload_n 0, 1) := by decide +kernel
theorem dX8_giveOut_26 : decode cX8_giveOut 26 = .ok (.getfield 15, 3) := by decide +kernel
theorem dX8_giveOut_29 : decode cX8_giveOut 29 = .ok (.iload 4, 2) := by decide +kernel
theorem dX8_giveOut_31 : decode cX8_giveOut 31 = .ok (.iaload, 1) := by decide +kernel
theorem dX8_giveOut_32 : decode cX8_giveOut 32 = .ok (.aload_n 0, 1) := by decide +kernel
theorem dX8_giveOut_33 : decode cX8_giveOut 33 = .ok (.getfield 15, 3) := by decide +kernel
theorem dX8_giveOut_36 : decode cX8_giveOut 36 = .ok (.iload_n 3, 1) := by decide +kernel
theorem dX8_giveOut_37 : decode cX8_giveOut 37 = .ok (.iaload, 1) := by decide +kernel
theorem dX8_giveOut_38 : decode cX8_giveOut 38 = .ok (.if_icmp .le 6, 3) := by decide +kernel
theorem dX8_giveOut_41 : decode cX8_giveOut 41 = .ok (.iload 4, 2) := by decide +kernel
theorem dX8_giveOut_43 : decode cX8_giveOut 43 = .ok (.istore_n 3, 1) := by decide +kernel
theorem dX8_giveOut_44 : decode cX8_giveOut 44 = .ok (.iinc 4 1, 3) := by decide +kernel
theorem dX8_giveOut_47 : decode cX8_giveOut 47 = .ok (.goto (-29), 3) := by decide +kernel
theorem dX8_giveOut_50 : decode cX8_giveOut 50 = .ok (.aload_n 0, 1) := by decide +kernel
theorem dX8_giveOut_51 : decode cX8_giveOut 51 = .ok (.getfield 9, 3) := by decide +kernel
theorem dX8_giveOut_54 : decode cX8_giveOut 54 = .ok (.iload_n 3, 1) := by decide +kernel
theorem dX8_giveOut_55 : decode cX8_giveOut 55 = .ok (.dup2, 1) := by decide +kernel
theorem dX8_giveOut_56 : decode cX8_giveOut 56 = .ok (.iaload, 1) := by decide +kernel
theorem dX8_giveOut_57 : decode cX8_giveOut 57 = .ok (.iconst 1, 1) := by decide +kernel
theorem dX8_giveOut_58 : decode cX8_giveOut 58 = .ok (.iadd, 1) := by decide +kernel
theorem dX8_giveOut_59 : decode cX8_giveOut 59 = .ok (.iastore, 1) := by decide +kernel
theorem dX8_giveOut_60 : decode cX8_giveOut 60 = .ok (.aload_n 0, 1) := by decide +kernel
theorem dX8_giveOut_61 : decode cX8_giveOut 61 = .ok (.getfield 15, 3) := by decide +kernel
theorem dX8_giveOut_64 : decode cX8_giveOut 64 = .ok (.iload_n 3, 1) := by decide +kernel
theorem dX8_giveOut_65 : decode cX8_giveOut 65 = .ok (.iconst (-1), 1) := by decide +kernel
theorem dX8_giveOut_66 : decode cX8_giveOut 66 = .ok (.iastore, 1) := by decide +kernel
theorem dX8_giveOut_67 : decode cX8_giveOut 67 = .ok (.iinc 2 1, 3) := by decide +kernel
theorem dX8_giveOut_70 : decode cX8_giveOut 70 = .ok (.goto (-68), 3) := by decide +kernel
theorem dX8_giveOut_73 : decode cX8_giveOut 73 = .ok (.return_, 1) := by decide +kernel
theorem dX8_correct_0 : decode cX8_correct 0 = .ok (.aload_n 1, 1) := by decide +kernel
theorem dX8_correct_1 : decode cX8_correct 1 = .ok (.invokevirtual 22, 3) := by decide +kernel
theorem dX8_correct_4 : decode cX8_correct 4 = .ok (.ifCond .le 7, 3) := by decide +kernel
theorem dX8_correct_7 : decode cX8_correct 7 = .ok (.iconst (-1), 1) := by decide +kernel
theorem dX8_correct_8 : decode cX8_correct 8 = .ok (.goto 4, 3) := by decide +kernel
theorem dX8_correct_11 : decode cX8_correct 11 = .ok (.iconst 1, 1) := by decide +kernel
theorem dX8_correct_12 : decode cX8_correct 12 = .ok (.istore_n 2, 1) := by decide +kernel
theorem dX8_correct_13 : decode cX8_correct 13 = .ok (.iconst 0, 1) := by decide +kernel
theorem dX8_correct_14 : decode cX8_correct 14 = .ok (.istore_n 3, 1) := by decide +kernel
theorem dX8_correct_15 : decode cX8_correct 15 = .ok (.iload_n 3, 1) := by decide +kernel
theorem dX8_correct_16 : decode cX8_correct 16 = .ok (.aload_n 1, 1) := by decide +kernel
theorem dX8_correct_17 : decode cX8_correct 17 = .ok (.getfield 37, 3) := by decide +kernel
theorem dX8_correct_20 : decode cX8_correct 20 = .ok (.if_icmp .ge 46, 3) := by decide +kernel
theorem dX8_correct_23 : decode cX8_correct 23 = .ok (.aload_n 1, 1) := by decide +kernel
theorem dX8_correct_24 : decode cX8_correct 24 = .ok (.getfield 41, 3) := by decide +kernel
theorem dX8_correct_27 : decode cX8_correct 27 = .ok (.iload_n 3, 1) := by decide +kernel
theorem dX8_correct_28 : decode cX8_correct 28 = .ok (.iaload, 1) := by decide +kernel
theorem dX8_correct_29 : decode cX8_correct 29 = .ok (.istore 4, 2) := by decide +kernel
theorem dX8_correct_31 : decode cX8_correct 31 = .ok (.aload_n 0, 1) := by decide +kernel
theorem dX8_correct_32 : decode cX8_correct 32 = .ok (.getfield 18, 3) := by decide +kernel
theorem dX8_correct_35 : decode cX8_correct 35 = .ok (.getfield 53, 3) := by decide +kernel
theorem dX8_correct_38 : decode cX8_correct 38 = .ok (.iload 4, 2) := by decide +kernel
theorem dX8_correct_40 : decode cX8_correct 40 = .ok (.dup2, 1) := by decide +kernel
theorem dX8_correct_41 : decode cX8_correct 41 = .ok (.iaload, 1) := by decide +kernel
theorem dX8_correct_42 : decode cX8_correct 42 = .ok (.iload_n 2, 1) := by decide +kernel
theorem dX8_correct_43 : decode cX8_correct 43 = .ok (.aload_n 1, 1) := by decide +kernel
theorem dX8_correct_44 : decode cX8_correct 44 = .ok (.getfield 56, 3) := by decide +kernel
theorem dX8_correct_47 : decode cX8_correct 47 = .ok (.iload_n 3, 1) := by decide +kernel
theorem dX8_correct_48 : decode cX8_correct 48 = .ok (.iaload, 1) := by decide +kernel
theorem dX8_correct_49 : decode cX8_correct 49 = .ok (.imul, 1) := by decide +kernel
theorem dX8_correct_50 : decode cX8_correct 50 = .ok (.aload_n 0, 1) := by decide +kernel
theorem dX8_correct_51 : decode cX8_correct 51 = .ok (.getfield 9, 3) := by decide +kernel
theorem dX8_correct_54 : decode cX8_correct 54 = .ok (.iload 4, 2) := by decide +kernel
theorem dX8_correct_56 : decode cX8_correct 56 = .ok (.iaload, 1) := by decide +kernel
theorem dX8_correct_57 : decode cX8_correct 57 = .ok (.imul, 1) := by decide +kernel
theorem dX8_correct_58 : decode cX8_correct 58 = .ok (.iadd, 1) := by decide +kernel
theorem dX8_correct_59 : decode cX8_correct 59 = .ok (.iastore, 1) := by decide +kernel
theorem dX8_correct_60 : decode cX8_correct 60 = .ok (.iinc 3 1, 3) := by decide +kernel
theorem dX8_correct_63 : decode cX8_correct 63 = .ok (.goto (-48), 3) := by decide +kernel
theorem dX8_correct_66 : decode cX8_correct 66 = .ok (.return_, 1) := by decide +kernel
theorem dX9_init_0 : decode cX9_init 0 = .ok (.aload_n 0, 1) := by decide +kernel
theorem dX9_init_1 : decode cX9_init 1 = .ok (.invokespecial 3, 3) := by decide +kernel
theorem dX9_init_4 : decode cX9_init 4 = .ok (.aload_n 0, 1) := by decide +kernel
theorem dX9_init_5 : decode cX9_init 5 = .ok (.bipush 10, 2) := by decide +kernel
theorem dX9_init_7 : decode cX9_init 7 = .ok (.newarray .boolean, 2) := by decide +kernel
theorem dX9_init_9 : decode cX9_init 9 = .ok (.putfield 9, 3) := by decide +kernel
theorem dX9_init_12 : decode cX9_init 12 = .ok (.aload_n 0, 1) := by decide +kernel
theorem dX9_init_13 : decode cX9_init 13 = .ok (.bipush 10, 2) := by decide +kernel
theorem dX9_init_15 : decode cX9_init 15 = .ok (.newarray .int, 2) := by decide +kernel
theorem dX9_init_17 : decode cX9_init 17 = .ok (.putfield 15, 3) := by decide +kernel
theorem dX9_init_20 : decode cX9_init 20 = .ok (.aload_n 0, 1) := by decide +kernel
theorem dX9_init_21 : decode cX9_init 21 = .ok (.bipush 16, 2) := by decide +kernel
theorem dX9_init_23 : decode cX9_init 23 = .ok (.newarray .int, 2) := by decide +kernel
theorem dX9_init_25 : decode cX9_init 25 = .ok (.putfield 19, 3) := by decide +kernel
theorem dX9_init_28 : decode cX9_init 28 = .ok (.aload_n 0, 1) := by decide +kernel
theorem dX9_init_29 : decode cX9_init 29 = .ok (.bipush 16, 2) := by decide +kernel
theorem dX9_init_31 : decode cX9_init 31 = .ok (.newarray .int, 2) := by decide +kernel
theorem dX9_init_33 : decode cX9_init 33 = .ok (.putfield 22, 3) := by decide +kernel
theorem dX9_init_36 : decode cX9_init 36 = .ok (.aload_n 0, 1) := by decide +kernel
theorem dX9_init_37 : decode cX9_init 37 = .ok (.bipush 16, 2) := by decide +kernel
theorem dX9_init_39 : decode cX9_init 39 = .ok (.newarray .int, 2) := by decide +kernel
theorem dX9_init_41 : decode cX9_init 41 = .ok (.putfield 25, 3) := by decide +kernel
theorem dX9_init_44 : decode cX9_init 44 = .ok (.aload_n 0, 1) := by decide +kernel
theorem dX9_init_45 : decode cX9_init 45 = .ok (.bipush 16, 2) := by decide +kernel
theorem dX9_init_47 : decode cX9_init 47 = .ok (.newarray .int, 2) := by decide +kernel
theorem dX9_init_49 : decode cX9_init 49 = .ok (.putfield 28, 3) := by decide +kernel
theorem dX9_init_52 : decode cX9_init 52 = .ok (.aload_n 0, 1) := by decide +kernel
theorem dX9_init_53 : decode cX9_init 53 = .ok (.bipush 16, 2) := by decide +kernel
theorem dX9_init_55 : decode cX9_init 55 = .ok (.newarray .int, 2) := by decide +kernel
theorem dX9_init_57 : decode cX9_init 57 = .ok (.putfield 31, 3) := by decide +kernel
theorem dX9_init_60 : decode cX9_init 60 = .ok (.aload_n 0, 1) := by decide +kernel
theorem dX9_init_61 : decode cX9_init 61 = .ok (.bipush 16, 2) := by decide +kernel
theorem dX9_init_63 : decode cX9_init 63 = .ok (.newarray .boolean, 2) := by decide +kernel
theorem dX9_init_65 : decode cX9_init 65 = .ok (.putfield 34, 3) := by decide +kernel
theorem dX9_init_68 : decode cX9_init 68 = .ok (.aload_n 0, 1) := by decide +kernel
theorem dX9_init_69 : decode cX9_init 69 = .ok (.bipush 16, 2) := by decide +kernel
theorem dX9_init_71 : decode cX9_init 71 = .ok (.newarray .boolean, 2) := by decide +kernel
theorem dX9_init_73 : decode cX9_init 73 = .ok (.putfield 37, 3) := by decide +kernel
theorem dX9_init_76 : decode cX9_init 76 = .ok (.aload_n 0, 1) := by decide +kernel
theorem dX9_init_77 : decode cX9_init 77 = .ok (.bipush 16, 2) := by decide +kernel
theorem dX9_init_79 : decode cX9_init 79 = .ok (.newarray .int, 2) := by decide +kernel
theorem dX9_init_81 : decode cX9_init 81 = .ok (.putfield 40, 3) := by decide +kernel
theorem dX9_init_84 : decode cX9_init 84 = .ok (.aload_n 0, 1) := by decide +kernel
theorem dX9_init_85 : decode cX9_init 85 = .ok (.iconst 4, 1) := by decide +kernel
theorem dX9_init_86 : decode cX9_init 86 = .ok (.newarray .int, 2) := by decide +kernel
theorem dX9_init_88 : decode cX9_init 88 = .ok (.putfield 43, 3) := by decide +kernel
theorem dX9_init_91 : decode cX9_init 91 = .ok (.aload_n 0, 1) := by decide +kernel
theorem dX9_init_92 : decode cX9_init 92 = .ok (.iconst 4, 1) := by decide +kernel
theorem dX9_init_93 : decode cX9_init 93 = .ok (.newarray .int, 2) := by decide +kernel
theorem dX9_init_95 : decode cX9_init 95 = .ok (.putfield 46, 3) := by decide +kernel
theorem dX9_init_98 : decode cX9_init 98 = .ok (.aload_n 0, 1) := by decide +kernel
theorem dX9_init_99 : decode cX9_init 99 = .ok (.iconst 4, 1) := by decide +kernel
theorem dX9_init_100 : decode cX9_init 100 = .ok (.bipush 10, 2) := by decide +kernel
theorem dX9_init_102 : decode cX9_init 102 = .ok (.multianewarray 49 2, 4) := by decide +kernel
theorem dX9_init_106 : decode cX9_init 106 = .ok (.putfield 51, 3) := by decide +kernel
theorem dX9_init_109 : decode cX9_init 109 = .ok (.aload_n 0, 1) := by decide +kernel
theorem dX9_init_110 : decode cX9_init 110 = .ok (.iconst 4, 1) := by decide +kernel
theorem dX9_init_111 : decode cX9_init 111 = .ok (.bipush 10, 2) := by decide +kernel
theorem dX9_init_113 : decode cX9_init 113 = .ok (.multianewarray 49 2, 4) := by decide +kernel
theorem dX9_init_117 : decode cX9_init 117 = .ok (.putfield 54, 3) := by decide +kernel
theorem dX9_init_120 : decode cX9_init 120 = .ok (.return_, 1) := by decide +kernel
theorem dX9_copyFrom_0 : decode cX9_copyFrom 0 = .ok (.aload_n 0, 1) := by decide +kernel
theorem dX9_copyFrom_1 : decode cX9_copyFrom 1 = .ok (.aload_n 1, 1) := by decide +kernel
theorem dX9_copyFrom_2 : decode cX9_copyFrom 2 = .ok (.invokevirtual 57, 3) := by decide +kernel
theorem dX9_copyFrom_5 : decode cX9_copyFrom 5 = .ok (.aload_n 0, 1) := by decide +kernel
theorem dX9_copyFrom_6 : decode cX9_copyFrom 6 = .ok (.aload_n 1, 1) := by decide +kernel
theorem dX9_copyFrom_7 : decode cX9_copyFrom 7 = .ok (.invokevirtual 61, 3) := by decide +kernel
theorem dX9_copyFrom_10 : decode cX9_copyFrom 10 = .ok (.aload_n 0, 1) := by decide +kernel
theorem dX9_copyFrom_11 : decode cX9_copyFrom 11 = .ok (.aload_n 1, 1) := by decide +kernel
theorem dX9_copyFrom_12 : decode cX9_copyFrom 12 = .ok (.invokevirtual 64, 3) := by decide +kernel
theorem dX9_copyFrom_15 : decode cX9_copyFrom 15 = .ok (.aload_n 0, 1) := by decide +kernel
theorem dX9_copyFrom_16 : decode cX9_copyFrom 16 = .ok (.aload_n 1, 1) := by decide +kernel
theorem dX9_copyFrom_17 : decode cX9_copyFrom 17 = .ok (.getfield 67, 3) := by decide +kernel
theorem dX9_copyFrom_20 : decode cX9_copyFrom 20 = .ok (.putfield 67, 3) := by decide +kernel
theorem dX9_copyFrom_23 : decode cX9_copyFrom 23 = .ok (.return_, 1) := by decide +kernel
theorem dX9_copyBenchmarks_0 : decode cX9_copyBenchmarks 0 = .ok (.aload_n 0, 1) := by decide +kernel
theorem dX9_copyBenchmarks_1 : decode cX9_copyBenchmarks 1 = .ok (.aload_n 1, 1) := by decide +kernel
theorem dX9_copyBenchmarks_2 : decode cX9_copyBenchmarks 2 = .ok (.getfield 71, 3) := by decide +kernel
theorem dX9_copyBenchmarks_5 : decode cX9_copyBenchmarks 5 = .ok (.putfield 71, 3) := by decide +kernel
theorem dX9_copyBenchmarks_8 : decode cX9_copyBenchmarks 8 = .ok (.iconst 0, 1) := by decide +kernel
theorem dX9_copyBenchmarks_9 : decode cX9_copyBenchmarks 9 = .ok (.istore_n 2, 1) := by decide +kernel
theorem dX9_copyBenchmarks_10 : decode cX9_copyBenchmarks 10 = .ok (.iload_n 2, 1) := by decide +kernel
theorem dX9_copyBenchmarks_11 : decode cX9_copyBenchmarks 11 = .ok (.aload_n 0, 1) := by decide +kernel
theorem dX9_copyBenchmarks_12 : decode cX9_copyBenchmarks 12 = .ok (.getfield 71, 3) := by decide +kernel
theorem dX9_copyBenchmarks_15 : decode cX9_copyBenchmarks 15 = .ok (.if_icmp .ge 33, 3) := by decide +kernel
theorem dX9_copyBenchmarks_18 : decode cX9_copyBenchmarks 18 = .ok (.aload_n 0, 1) := by decide +kernel
theorem dX9_copyBenchmarks_19 : decode cX9_copyBenchmarks 19 = .ok (.getfield 9, 3) := by decide +kernel
theorem dX9_copyBenchmarks_22 : decode cX9_copyBenchmarks 22 = .ok (.iload_n 2, 1) := by decide +kernel
theorem dX9_copyBenchmarks_23 : decode cX9_copyBenchmarks 23 = .ok (.aload_n 1, 1) := by decide +kernel
theorem dX9_copyBenchmarks_24 : decode cX9_copyBenchmarks 24 = .ok (.getfield 9, 3) := by decide +kernel
theorem dX9_copyBenchmarks_27 : decode cX9_copyBenchmarks 27 = .ok (.iload_n 2, 1) := by decide +kernel
theorem dX9_copyBenchmarks_28 : decode cX9_copyBenchmarks 28 = .ok (.baload, 1) := by decide +kernel
theorem dX9_copyBenchmarks_29 : decode cX9_copyBenchmarks 29 = .ok (.bastore, 1) := by decide +kernel
theorem dX9_copyBenchmarks_30 : decode cX9_copyBenchmarks 30 = .ok (.aload_n 0, 1) := by decide +kernel
theorem dX9_copyBenchmarks_31 : decode cX9_copyBenchmarks 31 = .ok (.getfield 15, 3) := by decide +kernel
theorem dX9_copyBenchmarks_34 : decode cX9_copyBenchmarks 34 = .ok (.iload_n 2, 1) := by decide +kernel
theorem dX9_copyBenchmarks_35 : decode cX9_copyBenchmarks 35 = .ok (.aload_n 1, 1) := by decide +kernel
theorem dX9_copyBenchmarks_36 : decode cX9_copyBenchmarks 36 = .ok (.getfield 15, 3) := by decide +kernel
theorem dX9_copyBenchmarks_39 : decode cX9_copyBenchmarks 39 = .ok (.iload_n 2, 1) := by decide +kernel
theorem dX9_copyBenchmarks_40 : decode cX9_copyBenchmarks 40 = .ok (.iaload, 1) := by decide +kernel
theorem dX9_copyBenchmarks_41 : decode cX9_copyBenchmarks 41 = .ok (.iastore, 1) := by decide +kernel
theorem dX9_copyBenchmarks_42 : decode cX9_copyBenchmarks 42 = .ok (.iinc 2 1, 3) := by decide +kernel
theorem dX9_copyBenchmarks_45 : decode cX9_copyBenchmarks 45 = .ok (.goto (-35), 3) := by decide +kernel
theorem dX9_copyBenchmarks_48 : decode cX9_copyBenchmarks 48 = .ok (.return_, 1) := by decide +kernel
theorem dX9_copyLines_0 : decode cX9_copyLines 0 = .ok (.aload_n 0, 1) := by decide +kernel
theorem dX9_copyLines_1 : decode cX9_copyLines 1 = .ok (.aload_n 1, 1) := by decide +kernel
theorem dX9_copyLines_2 : decode cX9_copyLines 2 = .ok (.getfield 74, 3) := by decide +kernel
theorem dX9_copyLines_5 : decode cX9_copyLines 5 = .ok (.putfield 74, 3) := by decide +kernel
theorem dX9_copyLines_8 : decode cX9_copyLines 8 = .ok (.iconst 0, 1) := by decide +kernel
theorem dX9_copyLines_9 : decode cX9_copyLines 9 = .ok (.istore_n 2, 1) := by decide +kernel
theorem dX9_copyLines_10 : decode cX9_copyLines 10 = .ok (.iload_n 2, 1) := by decide +kernel
theorem dX9_copyLines_11 : decode cX9_copyLines 11 = .ok (.aload_n 0, 1) := by decide +kernel
theorem dX9_copyLines_12 : decode cX9_copyLines 12 = .ok (.getfield 74, 3) := by decide +kernel
theorem dX9_copyLines_15 : decode cX9_copyLines 15 = .ok (.if_icmp .ge 105, 3) := by decide +kernel
theorem dX9_copyLines_18 : decode cX9_copyLines 18 = .ok (.aload_n 0, 1) := by decide +kernel
theorem dX9_copyLines_19 : decode cX9_copyLines 19 = .ok (.getfield 19, 3) := by decide +kernel
theorem dX9_copyLines_22 : decode cX9_copyLines 22 = .ok (.iload_n 2, 1) := by decide +kernel
theorem dX9_copyLines_23 : decode cX9_copyLines 23 = .ok (.aload_n 1, 1) := by decide +kernel
theorem dX9_copyLines_24 : decode cX9_copyLines 24 = .ok (.getfield 19, 3) := by decide +kernel
theorem dX9_copyLines_27 : decode cX9_copyLines 27 = .ok (.iload_n 2, 1) := by decide +kernel
theorem dX9_copyLines_28 : decode cX9_copyLines 28 = .ok (.iaload, 1) := by decide +kernel
theorem dX9_copyLines_29 : decode cX9_copyLines 29 = .ok (.iastore, 1) := by decide +kernel
theorem dX9_copyLines_30 : decode cX9_copyLines 30 = .ok (.aload_n 0, 1) := by decide +kernel
theorem dX9_copyLines_31 : decode cX9_copyLines 31 = .ok (.getfield 22, 3) := by decide +kernel
theorem dX9_copyLines_34 : decode cX9_copyLines 34 = .ok (.iload_n 2, 1) := by decide +kernel
theorem dX9_copyLines_35 : decode cX9_copyLines 35 = .ok (.aload_n 1, 1) := by decide +kernel
theorem dX9_copyLines_36 : decode cX9_copyLines 36 = .ok (.getfield 22, 3) := by decide +kernel
theorem dX9_copyLines_39 : decode cX9_copyLines 39 = .ok (.iload_n 2, 1) := by decide +kernel
theorem dX9_copyLines_40 : decode cX9_copyLines 40 = .ok (.iaload, 1) := by decide +kernel
theorem dX9_copyLines_41 : decode cX9_copyLines 41 = .ok (.iastore, 1) := by decide +kernel
theorem dX9_copyLines_42 : decode cX9_copyLines 42 = .ok (.aload_n 0, 1) := by decide +kernel
theorem dX9_copyLines_43 : decode cX9_copyLines 43 = .ok (.getfield 25, 3) := by decide +kernel
theorem dX9_copyLines_46 : decode cX9_copyLines 46 = .ok (.iload_n 2, 1) := by decide +kernel
theorem dX9_copyLines_47 : decode cX9_copyLines 47 = .ok (.aload_n 1, 1) := by decide +kernel
theorem dX9_copyLines_48 : decode cX9_copyLines 48 = .ok (.getfield 25, 3) := by decide +kernel
theorem dX9_copyLines_51 : decode cX9_copyLines 51 = .ok (.iload_n 2, 1) := by decide +kernel
theorem dX9_copyLines_52 : decode cX9_copyLines 52 = .ok (.iaload, 1) := by decide +kernel
theorem dX9_copyLines_53 : decode cX9_copyLines 53 = .ok (.iastore, 1) := by decide +kernel
theorem dX9_copyLines_54 : decode cX9_copyLines 54 = .ok (.aload_n 0, 1) := by decide +kernel
theorem dX9_copyLines_55 : decode cX9_copyLines 55 = .ok (.getfield 28, 3) := by decide +kernel
theorem dX9_copyLines_58 : decode cX9_copyLines 58 = .ok (.iload_n 2, 1) := by decide +kernel
theorem dX9_copyLines_59 : decode cX9_copyLines 59 = .ok (.aload_n 1, 1) := by decide +kernel
theorem dX9_copyLines_60 : decode cX9_copyLines 60 = .ok (.getfield 28, 3) := by decide +kernel
theorem dX9_copyLines_63 : decode cX9_copyLines 63 = .ok (.iload_n 2, 1) := by decide +kernel
theorem dX9_copyLines_64 : decode cX9_copyLines 64 = .ok (.iaload, 1) := by decide +kernel
theorem dX9_copyLines_65 : decode cX9_copyLines 65 = .ok (.iastore, 1) := by decide +kernel
theorem dX9_copyLines_66 : decode cX9_copyLines 66 = .ok (.aload_n 0, 1) := by decide +kernel
theorem dX9_copyLines_67 : decode cX9_copyLines 67 = .ok (.getfield 31, 3) := by decide +kernel
theorem dX9_copyLines_70 : decode cX9_copyLines 70 = .ok (.iload_n 2, 1) := by decide +kernel
theorem dX9_copyLines_71 : decode cX9_copyLines 71 = .ok (.aload_n 1, 1) := by decide +kernel
theorem dX9_copyLines_72 : decode cX9_copyLines 72 = .ok (.getfield 31, 3) := by decide +kernel
theorem dX9_copyLines_75 : decode cX9_copyLines 75 = .ok (.iload_n 2, 1) := by decide +kernel
theorem dX9_copyLines_76 : decode cX9_copyLines 76 = .ok (.iaload, 1) := by decide +kernel
theorem dX9_copyLines_77 : decode cX9_copyLines 77 = .ok (.iastore, 1) := by decide +kernel
theorem dX9_copyLines_78 : decode cX9_copyLines 78 = .ok (.aload_n 0, 1) := by decide +kernel
theorem dX9_copyLines_79 : decode cX9_copyLines 79 = .ok (.getfield 34, 3) := by decide +kernel
theorem dX9_copyLines_82 : decode cX9_copyLines 82 = .ok (.iload_n 2, 1) := by decide +kernel
theorem dX9_copyLines_83 : decode cX9_copyLines 83 = .ok (.aload_n 1, 1) := by decide +kernel
theorem dX9_copyLines_84 : decode cX9_copyLines 84 = .ok (.getfield 34, 3) := by decide +kernel
theorem dX9_copyLines_87 : decode cX9_copyLines 87 = .ok (.iload_n 2, 1) := by decide +kernel
theorem dX9_copyLines_88 : decode cX9_copyLines 88 = .ok (.baload, 1) := by decide +kernel
theorem dX9_copyLines_89 : decode cX9_copyLines 89 = .ok (.bastore, 1) := by decide +kernel
theorem dX9_copyLines_90 : decode cX9_copyLines 90 = .ok (.aload_n 0, 1) := by decide +kernel
theorem dX9_copyLines_91 : decode cX9_copyLines 91 = .ok (.getfield 37, 3) := by decide +kernel
theorem dX9_copyLines_94 : decode cX9_copyLines 94 = .ok (.iload_n 2, 1) := by decide +kernel
theorem dX9_copyLines_95 : decode cX9_copyLines 95 = .ok (.aload_n 1, 1) := by decide +kernel
theorem dX9_copyLines_96 : decode cX9_copyLines 96 = .ok (.getfield 37, 3) := by decide +kernel
theorem dX9_copyLines_99 : decode cX9_copyLines 99 = .ok (.iload_n 2, 1) := by decide +kernel
theorem dX9_copyLines_100 : decode cX9_copyLines 100 = .ok (.baload, 1) := by decide +kernel
theorem dX9_copyLines_101 : decode cX9_copyLines 101 = .ok (.bastore, 1) := by decide +kernel
theorem dX9_copyLines_102 : decode cX9_copyLines 102 = .ok (.aload_n 0, 1) := by decide +kernel
theorem dX9_copyLines_103 : decode cX9_copyLines 103 = .ok (.getfield 40, 3) := by decide +kernel
theorem dX9_copyLines_106 : decode cX9_copyLines 106 = .ok (.iload_n 2, 1) := by decide +kernel
theorem dX9_copyLines_107 : decode cX9_copyLines 107 = .ok (.aload_n 1, 1) := by decide +kernel
theorem dX9_copyLines_108 : decode cX9_copyLines 108 = .ok (.getfield 40, 3) := by decide +kernel
theorem dX9_copyLines_111 : decode cX9_copyLines 111 = .ok (.iload_n 2, 1) := by decide +kernel
theorem dX9_copyLines_112 : decode cX9_copyLines 112 = .ok (.iaload, 1) := by decide +kernel
theorem dX9_copyLines_113 : decode cX9_copyLines 113 = .ok (.iastore, 1) := by decide +kernel
theorem dX9_copyLines_114 : decode cX9_copyLines 114 = .ok (.iinc 2 1, 3) := by decide +kernel
theorem dX9_copyLines_117 : decode cX9_copyLines 117 = .ok (.goto (-107), 3) := by decide +kernel
theorem dX9_copyLines_120 : decode cX9_copyLines 120 = .ok (.return_, 1) := by decide +kernel
theorem dX9_copyProfiles_0 : decode cX9_copyProfiles 0 = .ok (.aload_n 0, 1) := by decide +kernel
theorem dX9_copyProfiles_1 : decode cX9_copyProfiles 1 = .ok (.aload_n 1, 1) := by decide +kernel
theorem dX9_copyProfiles_2 : decode cX9_copyProfiles 2 = .ok (.getfield 77, 3) := by decide +kernel
theorem dX9_copyProfiles_5 : decode cX9_copyProfiles 5 = .ok (.putfield 77, 3) := by decide +kernel
theorem dX9_copyProfiles_8 : decode cX9_copyProfiles 8 = .ok (.iconst 0, 1) := by decide +kernel
theorem dX9_copyProfiles_9 : decode cX9_copyProfiles 9 = .ok (.istore_n 2, 1) := by decide +kernel
theorem dX9_copyProfiles_10 : decode cX9_copyProfiles 10 = .ok (.iload_n 2, 1) := by decide +kernel
theorem dX9_copyProfiles_11 : decode cX9_copyProfiles 11 = .ok (.aload_n 0, 1) := by decide +kernel
theorem dX9_copyProfiles_12 : decode cX9_copyProfiles 12 = .ok (.getfield 77, 3) := by decide +kernel
theorem dX9_copyProfiles_15 : decode cX9_copyProfiles 15 = .ok (.if_icmp .ge 83, 3) := by decide +kernel
theorem dX9_copyProfiles_18 : decode cX9_copyProfiles 18 = .ok (.aload_n 0, 1) := by decide +kernel
theorem dX9_copyProfiles_19 : decode cX9_copyProfiles 19 = .ok (.getfield 43, 3) := by decide +kernel
theorem dX9_copyProfiles_22 : decode cX9_copyProfiles 22 = .ok (.iload_n 2, 1) := by decide +kernel
theorem dX9_copyProfiles_23 : decode cX9_copyProfiles 23 = .ok (.aload_n 1, 1) := by decide +kernel
theorem dX9_copyProfiles_24 : decode cX9_copyProfiles 24 = .ok (.getfield 43, 3) := by decide +kernel
theorem dX9_copyProfiles_27 : decode cX9_copyProfiles 27 = .ok (.iload_n 2, 1) := by decide +kernel
theorem dX9_copyProfiles_28 : decode cX9_copyProfiles 28 = .ok (.iaload, 1) := by decide +kernel
theorem dX9_copyProfiles_29 : decode cX9_copyProfiles 29 = .ok (.iastore, 1) := by decide +kernel
theorem dX9_copyProfiles_30 : decode cX9_copyProfiles 30 = .ok (.aload_n 0, 1) := by decide +kernel
theorem dX9_copyProfiles_31 : decode cX9_copyProfiles 31 = .ok (.getfield 46, 3) := by decide +kernel
theorem dX9_copyProfiles_34 : decode cX9_copyProfiles 34 = .ok (.iload_n 2, 1) := by decide +kernel
theorem dX9_copyProfiles_35 : decode cX9_copyProfiles 35 = .ok (.aload_n 1, 1) := by decide +kernel
theorem dX9_copyProfiles_36 : decode cX9_copyProfiles 36 = .ok (.getfield 46, 3) := by decide +kernel
theorem dX9_copyProfiles_39 : decode cX9_copyProfiles 39 = .ok (.iload_n 2, 1) := by decide +kernel
theorem dX9_copyProfiles_40 : decode cX9_copyProfiles 40 = .ok (.iaload, 1) := by decide +kernel
theorem dX9_copyProfiles_41 : decode cX9_copyProfiles 41 = .ok (.iastore, 1) := by decide +kernel
theorem dX9_copyProfiles_42 : decode cX9_copyProfiles 42 = .ok (.iconst 0, 1) := by decide +kernel
theorem dX9_copyProfiles_43 : decode cX9_copyProfiles 43 = .ok (.istore_n 3, 1) := by decide +kernel
theorem dX9_copyProfiles_44 : decode cX9_copyProfiles 44 = .ok (.iload_n 3, 1) := by decide +kernel
theorem dX9_copyProfiles_45 : decode cX9_copyProfiles 45 = .ok (.aload_n 0, 1) := by decide +kernel
theorem dX9_copyProfiles_46 : decode cX9_copyProfiles 46 = .ok (.getfield 46, 3) := by decide +kernel
theorem dX9_copyProfiles_49 : decode cX9_copyProfiles 49 = .ok (.iload_n 2, 1) := by decide +kernel
theorem dX9_copyProfiles_50 : decode cX9_copyProfiles 50 = .ok (.iaload, 1) := by decide +kernel
theorem dX9_copyProfiles_51 : decode cX9_copyProfiles 51 = .ok (.if_icmp .ge 41, 3) := by decide +kernel
theorem dX9_copyProfiles_54 : decode cX9_copyProfiles 54 = .ok (.aload_n 0, 1) := by decide +kernel
theorem dX9_copyProfiles_55 : decode cX9_copyProfiles 55 = .ok (.getfield 51, 3) := by decide +kernel
theorem dX9_copyProfiles_58 : decode cX9_copyProfiles 58 = .ok (.iload_n 2, 1) := by decide +kernel
theorem dX9_copyProfiles_59 : decode cX9_copyProfiles 59 = .ok (.aaload, 1) := by decide +kernel
theorem dX9_copyProfiles_60 : decode cX9_copyProfiles 60 = .ok (.iload_n 3, 1) := by decide +kernel
theorem dX9_copyProfiles_61 : decode cX9_copyProfiles 61 = .ok (.aload_n 1, 1) := by decide +kernel
theorem dX9_copyProfiles_62 : decode cX9_copyProfiles 62 = .ok (.getfield 51, 3) := by decide +kernel
theorem dX9_copyProfiles_65 : decode cX9_copyProfiles 65 = .ok (.iload_n 2, 1) := by decide +kernel
theorem dX9_copyProfiles_66 : decode cX9_copyProfiles 66 = .ok (.aaload, 1) := by decide +kernel
theorem dX9_copyProfiles_67 : decode cX9_copyProfiles 67 = .ok (.iload_n 3, 1) := by decide +kernel
theorem dX9_copyProfiles_68 : decode cX9_copyProfiles 68 = .ok (.iaload, 1) := by decide +kernel
theorem dX9_copyProfiles_69 : decode cX9_copyProfiles 69 = .ok (.iastore, 1) := by decide +kernel
theorem dX9_copyProfiles_70 : decode cX9_copyProfiles 70 = .ok (.aload_n 0, 1) := by decide +kernel
theorem dX9_copyProfiles_71 : decode cX9_copyProfiles 71 = .ok (.getfield 54, 3) := by decide +kernel
theorem dX9_copyProfiles_74 : decode cX9_copyProfiles 74 = .ok (.iload_n 2, 1) := by decide +kernel
theorem dX9_copyProfiles_75 : decode cX9_copyProfiles 75 = .ok (.aaload, 1) := by decide +kernel
theorem dX9_copyProfiles_76 : decode cX9_copyProfiles 76 = .ok (.iload_n 3, 1) := by decide +kernel
theorem dX9_copyProfiles_77 : decode cX9_copyProfiles 77 = .ok (.aload_n 1, 1) := by decide +kernel
theorem dX9_copyProfiles_78 : decode cX9_copyProfiles 78 = .ok (.getfield 54, 3) := by decide +kernel
theorem dX9_copyProfiles_81 : decode cX9_copyProfiles 81 = .ok (.iload_n 2, 1) := by decide +kernel
theorem dX9_copyProfiles_82 : decode cX9_copyProfiles 82 = .ok (.aaload, 1) := by decide +kernel
theorem dX9_copyProfiles_83 : decode cX9_copyProfiles 83 = .ok (.iload_n 3, 1) := by decide +kernel
theorem dX9_copyProfiles_84 : decode cX9_copyProfiles 84 = .ok (.iaload, 1) := by decide +kernel
theorem dX9_copyProfiles_85 : decode cX9_copyProfiles 85 = .ok (.iastore, 1) := by decide +kernel
theorem dX9_copyProfiles_86 : decode cX9_copyProfiles 86 = .ok (.iinc 3 1, 3) := by decide +kernel
theorem dX9_copyProfiles_89 : decode cX9_copyProfiles 89 = .ok (.goto (-45), 3) := by decide +kernel
theorem dX9_copyProfiles_92 : decode cX9_copyProfiles 92 = .ok (.iinc 2 1, 3) := by decide +kernel
theorem dX9_copyProfiles_95 : decode cX9_copyProfiles 95 = .ok (.goto (-85), 3) := by decide +kernel
theorem dX9_copyProfiles_98 : decode cX9_copyProfiles 98 = .ok (.return_, 1) := by decide +kernel
theorem dX9_hasBenchmark_0 : decode cX9_hasBenchmark 0 = .ok (.iload_n 1, 1) := by decide +kernel
theorem dX9_hasBenchmark_1 : decode cX9_hasBenchmark 1 = .ok (.ifCond .lt 15, 3) := by decide +kernel
theorem dX9_hasBenchmark_4 : decode cX9_hasBenchmark 4 = .ok (.iload_n 1, 1) := by decide +kernel
theorem dX9_hasBenchmark_5 : decode cX9_hasBenchmark 5 = .ok (.aload_n 0, 1) := by decide +kernel
theorem dX9_hasBenchmark_6 : decode cX9_hasBenchmark 6 = .ok (.getfield 71, 3) := by decide +kernel
theorem dX9_hasBenchmark_9 : decode cX9_hasBenchmark 9 = .ok (.if_icmp .ge 7, 3) := by decide +kernel
theorem dX9_hasBenchmark_12 : decode cX9_hasBenchmark 12 = .ok (.iconst 1, 1) := by decide +kernel
theorem dX9_hasBenchmark_13 : decode cX9_hasBenchmark 13 = .ok (.goto 4, 3) := by decide +kernel
theorem dX9_hasBenchmark_16 : decode cX9_hasBenchmark 16 = .ok (.iconst 0, 1) := by decide +kernel
theorem dX9_hasBenchmark_17 : decode cX9_hasBenchmark 17 = .ok (.ireturn, 1) := by decide +kernel
theorem dX9_hasLine_0 : decode cX9_hasLine 0 = .ok (.iload_n 1, 1) := by decide +kernel
theorem dX9_hasLine_1 : decode cX9_hasLine 1 = .ok (.ifCond .lt 15, 3) := by decide +kernel
theorem dX9_hasLine_4 : decode cX9_hasLine 4 = .ok (.iload_n 1, 1) := by decide +kernel
theorem dX9_hasLine_5 : decode cX9_hasLine 5 = .ok (.aload_n 0, 1) := by decide +kernel
theorem dX9_hasLine_6 : decode cX9_hasLine 6 = .ok (.getfield 74, 3) := by decide +kernel
theorem dX9_hasLine_9 : decode cX9_hasLine 9 = .ok (.if_icmp .ge 7, 3) := by decide +kernel
theorem dX9_hasLine_12 : decode cX9_hasLine 12 = .ok (.iconst 1, 1) := by decide +kernel
theorem dX9_hasLine_13 : decode cX9_hasLine 13 = .ok (.goto 4, 3) := by decide +kernel
theorem dX9_hasLine_16 : decode cX9_hasLine 16 = .ok (.iconst 0, 1) := by decide +kernel
theorem dX9_hasLine_17 : decode cX9_hasLine 17 = .ok (.ireturn, 1) := by decide +kernel
theorem dX9_hasProfile_0 : decode cX9_hasProfile 0 = .ok (.iload_n 1, 1) := by decide +kernel
theorem dX9_hasProfile_1 : decode cX9_hasProfile 1 = .ok (.ifCond .lt 15, 3) := by decide +kernel
theorem dX9_hasProfile_4 : decode cX9_hasProfile 4 = .ok (.iload_n 1, 1) := by decide +kernel
theorem dX9_hasProfile_5 : decode cX9_hasProfile 5 = .ok (.aload_n 0, 1) := by decide +kernel
theorem dX9_hasProfile_6 : decode cX9_hasProfile 6 = .ok (.getfield 77, 3) := by decide +kernel
theorem dX9_hasProfile_9 : decode cX9_hasProfile 9 = .ok (.if_icmp .ge 7, 3) := by decide +kernel
theorem dX9_hasProfile_12 : decode cX9_hasProfile 12 = .ok (.iconst 1, 1) := by decide +kernel
theorem dX9_hasProfile_13 : decode cX9_hasProfile 13 = .ok (.goto 4, 3) := by decide +kernel
theorem dX9_hasProfile_16 : decode cX9_hasProfile 16 = .ok (.iconst 0, 1) := by decide +kernel
theorem dX9_hasProfile_17 : decode cX9_hasProfile 17 = .ok (.ireturn, 1) := by decide +kernel
theorem dX9_fixedBenchmarks_0 : decode cX9_fixedBenchmarks 0 = .ok (.iconst 0, 1) := by decide +kernel
theorem dX9_fixedBenchmarks_1 : decode cX9_fixedBenchmarks 1 = .ok (.istore_n 1, 1) := by decide +kernel
theorem dX9_fixedBenchmarks_2 : decode cX9_fixedBenchmarks 2 = .ok (.iconst 0, 1) := by decide +kernel
theorem dX9_fixedBenchmarks_3 : decode cX9_fixedBenchmarks 3 = .ok (.istore_n 2, 1) := by decide +kernel
theorem dX9_fixedBenchmarks_4 : decode cX9_fixedBenchmarks 4 = .ok (.iload_n 2, 1) := by decide +kernel
theorem dX9_fixedBenchmarks_5 : decode cX9_fixedBenchmarks 5 = .ok (.aload_n 0, 1) := by decide +kernel
theorem dX9_fixedBenchmarks_6 : decode cX9_fixedBenchmarks 6 = .ok (.getfield 71, 3) := by decide +kernel
theorem dX9_fixedBenchmarks_9 : decode cX9_fixedBenchmarks 9 = .ok (.if_icmp .ge 26, 3) := by decide +kernel
theorem dX9_fixedBenchmarks_12 : decode cX9_fixedBenchmarks 12 = .ok (.iload_n 1, 1) := by decide +kernel
theorem dX9_fixedBenchmarks_13 : decode cX9_fixedBenchmarks 13 = .ok (.aload_n 0, 1) := by decide +kernel
theorem dX9_fixedBenchmarks_14 : decode cX9_fixedBenchmarks 14 = .ok (.getfield 9, 3) := by decide +kernel
theorem dX9_fixedBenchmarks_17 : decode cX9_fixedBenchmarks 17 = .ok (.iload_n 2, 1) := by decide +kernel
theorem dX9_fixedBenchmarks_18 : decode cX9_fixedBenchmarks 18 = .ok (.baload, 1) := by decide +kernel
theorem dX9_fixedBenchmarks_19 : decode cX9_fixedBenchmarks 19 = .ok (.ifCond .eq 7, 3) := by decide +kernel
theorem dX9_fixedBenchmarks_22 : decode cX9_fixedBenchmarks 22 = .ok (.iconst 1, 1) := by decide +kernel
theorem dX9_fixedBenchmarks_23 : decode cX9_fixedBenchmarks 23 = .ok (.goto 4, 3) := by decide +kernel
theorem dX9_fixedBenchmarks_26 : decode cX9_fixedBenchmarks 26 = .ok (.iconst 0, 1) := by decide +kernel
theorem dX9_fixedBenchmarks_27 : decode cX9_fixedBenchmarks 27 = .ok (.iadd, 1) := by decide +kernel
theorem dX9_fixedBenchmarks_28 : decode cX9_fixedBenchmarks 28 = .ok (.istore_n 1, 1) := by decide +kernel
theorem dX9_fixedBenchmarks_29 : decode cX9_fixedBenchmarks 29 = .ok (.iinc 2 1, 3) := by decide +kernel
theorem dX9_fixedBenchmarks_32 : decode cX9_fixedBenchmarks 32 = .ok (.goto (-28), 3) := by decide +kernel
theorem dX9_fixedBenchmarks_35 : decode cX9_fixedBenchmarks 35 = .ok (.iload_n 1, 1) := by decide +kernel
theorem dX9_fixedBenchmarks_36 : decode cX9_fixedBenchmarks 36 = .ok (.ireturn, 1) := by decide +kernel
theorem dX9_sumOfRuns_0 : decode cX9_sumOfRuns 0 = .ok (.aload_n 0, 1) := by decide +kernel
theorem dX9_sumOfRuns_1 : decode cX9_sumOfRuns 1 = .ok (.getfield 28, 3) := by decide +kernel
theorem dX9_sumOfRuns_4 : decode cX9_sumOfRuns 4 = .ok (.iload_n 1, 1) := by decide +kernel
theorem dX9_sumOfRuns_5 : decode cX9_sumOfRuns 5 = .ok (.iaload, 1) := by decide +kernel
theorem dX9_sumOfRuns_6 : decode cX9_sumOfRuns 6 = .ok (.aload_n 0, 1) := by decide +kernel
theorem dX9_sumOfRuns_7 : decode cX9_sumOfRuns 7 = .ok (.getfield 31, 3) := by decide +kernel
theorem dX9_sumOfRuns_10 : decode cX9_sumOfRuns 10 = .ok (.iload_n 1, 1) := by decide +kernel
theorem dX9_sumOfRuns_11 : decode cX9_sumOfRuns 11 = .ok (.iaload, 1) := by decide +kernel
theorem dX9_sumOfRuns_12 : decode cX9_sumOfRuns 12 = .ok (.iadd, 1) := by decide +kernel
theorem dX9_sumOfRuns_13 : decode cX9_sumOfRuns 13 = .ok (.ireturn, 1) := by decide +kernel
theorem dX9_levelled_0 : decode cX9_levelled 0 = .ok (.aload_n 0, 1) := by decide +kernel
theorem dX9_levelled_1 : decode cX9_levelled 1 = .ok (.getfield 34, 3) := by decide +kernel
theorem dX9_levelled_4 : decode cX9_levelled 4 = .ok (.iload_n 1, 1) := by decide +kernel
theorem dX9_levelled_5 : decode cX9_levelled 5 = .ok (.baload, 1) := by decide +kernel
theorem dX9_levelled_6 : decode cX9_levelled 6 = .ok (.ifCond .eq 21, 3) := by decide +kernel
theorem dX9_levelled_9 : decode cX9_levelled 9 = .ok (.aload_n 0, 1) := by decide +kernel
theorem dX9_levelled_10 : decode cX9_levelled 10 = .ok (.getfield 28, 3) := by decide +kernel
theorem dX9_levelled_13 : decode cX9_levelled 13 = .ok (.iload_n 1, 1) := by decide +kernel
theorem dX9_levelled_14 : decode cX9_levelled 14 = .ok (.iaload, 1) := by decide +kernel
theorem dX9_levelled_15 : decode cX9_levelled 15 = .ok (.aload_n 0, 1) := by decide +kernel
theorem dX9_levelled_16 : decode cX9_levelled 16 = .ok (.getfield 31, 3) := by decide +kernel
theorem dX9_levelled_19 : decode cX9_levelled 19 = .ok (.iload_n 1, 1) := by decide +kernel
theorem dX9_levelled_20 : decode cX9_levelled 20 = .ok (.iaload, 1) := by decide +kernel
theorem dX9_levelled_21 : decode cX9_levelled 21 = .ok (.isub, 1) := by decide +kernel
theorem dX9_levelled_22 : decode cX9_levelled 22 = .ok (.iconst 1, 1) := by decide +kernel
theorem dX9_levelled_23 : decode cX9_levelled 23 = .ok (.ishr, 1) := by decide +kernel
theorem dX9_levelled_24 : decode cX9_levelled 24 = .ok (.goto 9, 3) := by decide +kernel
theorem dX9_levelled_27 : decode cX9_levelled 27 = .ok (.aload_n 0, 1) := by decide +kernel
theorem dX9_levelled_28 : decode cX9_levelled 28 = .ok (.getfield 28, 3) := by decide +kernel
theorem dX9_levelled_31 : decode cX9_levelled 31 = .ok (.iload_n 1, 1) := by decide +kernel
theorem dX9_levelled_32 : decode cX9_levelled 32 = .ok (.iaload, 1) := by decide +kernel
theorem dX9_levelled_33 : decode cX9_levelled 33 = .ok (.ireturn, 1) := by decide +kernel
theorem dX9_corrected_0 : decode cX9_corrected 0 = .ok (.aload_n 0, 1) := by decide +kernel
theorem dX9_corrected_1 : decode cX9_corrected 1 = .ok (.iload_n 1, 1) := by decide +kernel
theorem dX9_corrected_2 : decode cX9_corrected 2 = .ok (.invokevirtual 80, 3) := by decide +kernel
theorem dX9_corrected_5 : decode cX9_corrected 5 = .ok (.aload_n 0, 1) := by decide +kernel
theorem dX9_corrected_6 : decode cX9_corrected 6 = .ok (.getfield 40, 3) := by decide +kernel
theorem dX9_corrected_9 : decode cX9_corrected 9 = .ok (.iload_n 1, 1) := by decide +kernel
theorem dX9_corrected_10 : decode cX9_corrected 10 = .ok (.iaload, 1) := by decide +kernel
theorem dX9_corrected_11 : decode cX9_corrected 11 = .ok (.iadd, 1) := by decide +kernel
theorem dX9_corrected_12 : decode cX9_corrected 12 = .ok (.ireturn, 1) := by decide +kernel
theorem dX9_usable_0 : decode cX9_usable 0 = .ok (.aload_n 0, 1) := by decide +kernel
theorem dX9_usable_1 : decode cX9_usable 1 = .ok (.getfield 37, 3) := by decide +kernel
theorem dX9_usable_4 : decode cX9_usable 4 = .ok (.iload_n 1, 1) := by decide +kernel
theorem dX9_usable_5 : decode cX9_usable 5 = .ok (.baload, 1) := by decide +kernel
theorem dX9_usable_6 : decode cX9_usable 6 = .ok (.ifCond .ne 36, 3) := by decide +kernel
theorem dX9_usable_9 : decode cX9_usable 9 = .ok (.aload_n 0, 1) := by decide +kernel
theorem dX9_usable_10 : decode cX9_usable 10 = .ok (.getfield 34, 3) := by decide +kernel
theorem dX9_usable_13 : decode cX9_usable 13 = .ok (.iload_n 1, 1) := by decide +kernel
theorem dX9_usable_14 : decode cX9_usable 14 = .ok (.baload, 1) := by decide +kernel
theorem dX9_usable_15 : decode cX9_usable 15 = .ok (.ifCond .eq 23, 3) := by decide +kernel
theorem dX9_usable_18 : decode cX9_usable 18 = .ok (.aload_n 0, 1) := by decide +kernel
theorem dX9_usable_19 : decode cX9_usable 19 = .ok (.iload_n 1, 1) := by decide +kernel
theorem dX9_usable_20 : decode cX9_usable 20 = .ok (.invokevirtual 84, 3) := by decide +kernel
theorem dX9_usable_23 : decode cX9_usable 23 = .ok (.invokestatic 87, 3) := by decide +kernel
theorem dX9_usable_26 : decode cX9_usable 26 = .ok (.aload_n 0, 1) := by decide +kernel
theorem dX9_usable_27 : decode cX9_usable 27 = .ok (.getfield 25, 3) := by decide +kernel
theorem dX9_usable_30 : decode cX9_usable 30 = .ok (.iload_n 1, 1) := by decide +kernel
theorem dX9_usable_31 : decode cX9_usable 31 = .ok (.iaload, 1) := by decide +kernel
theorem dX9_usable_32 : decode cX9_usable 32 = .ok (.invokestatic 92, 3) := by decide +kernel
theorem dX9_usable_35 : decode cX9_usable 35 = .ok (.if_icmp .gt 7, 3) := by decide +kernel
theorem dX9_usable_38 : decode cX9_usable 38 = .ok (.iconst 1, 1) := by decide +kernel
theorem dX9_usable_39 : decode cX9_usable 39 = .ok (.goto 4, 3) := by decide +kernel
theorem dX9_usable_42 : decode cX9_usable 42 = .ok (.iconst 0, 1) := by decide +kernel
theorem dX9_usable_43 : decode cX9_usable 43 = .ok (.ireturn, 1) := by decide +kernel
theorem dX9_usableLines_0 : decode cX9_usableLines 0 = .ok (.iconst 0, 1) := by decide +kernel
theorem dX9_usableLines_1 : decode cX9_usableLines 1 = .ok (.istore_n 1, 1) := by decide +kernel
theorem dX9_usableLines_2 : decode cX9_usableLines 2 = .ok (.iconst 0, 1) := by decide +kernel
theorem dX9_usableLines_3 : decode cX9_usableLines 3 = .ok (.istore_n 2, 1) := by decide +kernel
theorem dX9_usableLines_4 : decode cX9_usableLines 4 = .ok (.iload_n 2, 1) := by decide +kernel
theorem dX9_usableLines_5 : decode cX9_usableLines 5 = .ok (.aload_n 0, 1) := by decide +kernel
theorem dX9_usableLines_6 : decode cX9_usableLines 6 = .ok (.getfield 74, 3) := by decide +kernel
theorem dX9_usableLines_9 : decode cX9_usableLines 9 = .ok (.if_icmp .ge 25, 3) := by decide +kernel
theorem dX9_usableLines_12 : decode cX9_usableLines 12 = .ok (.iload_n 1, 1) := by decide +kernel
theorem dX9_usableLines_13 : decode cX9_usableLines 13 = .ok (.aload_n 0, 1) := by decide +kernel
theorem dX9_usableLines_14 : decode cX9_usableLines 14 = .ok (.iload_n 2, 1) := by decide +kernel
theorem dX9_usableLines_15 : decode cX9_usableLines 15 = .ok (.invokevirtual 95, 3) := by decide +kernel
theorem dX9_usableLines_18 : decode cX9_usableLines 18 = .ok (.ifCond .eq 7, 3) := by decide +kernel
theorem dX9_usableLines_21 : decode cX9_usableLines 21 = .ok (.iconst 1, 1) := by decide +kernel
theorem dX9_usableLines_22 : decode cX9_usableLines 22 = .ok (.goto 4, 3) := by decide +kernel
theorem dX9_usableLines_25 : decode cX9_usableLines 25 = .ok (.iconst 0, 1) := by decide +kernel
theorem dX9_usableLines_26 : decode cX9_usableLines 26 = .ok (.iadd, 1) := by decide +kernel
theorem dX9_usableLines_27 : decode cX9_usableLines 27 = .ok (.istore_n 1, 1) := by decide +kernel
theorem dX9_usableLines_28 : decode cX9_usableLines 28 = .ok (.iinc 2 1, 3) := by decide +kernel
theorem dX9_usableLines_31 : decode cX9_usableLines 31 = .ok (.goto (-27), 3) := by decide +kernel
theorem dX9_usableLines_34 : decode cX9_usableLines 34 = .ok (.iload_n 1, 1) := by decide +kernel
theorem dX9_usableLines_35 : decode cX9_usableLines 35 = .ok (.ireturn, 1) := by decide +kernel
theorem dX9_usableLength_0 : decode cX9_usableLength 0 = .ok (.iconst 0, 1) := by decide +kernel
theorem dX9_usableLength_1 : decode cX9_usableLength 1 = .ok (.istore_n 1, 1) := by decide +kernel
theorem dX9_usableLength_2 : decode cX9_usableLength 2 = .ok (.iconst 0, 1) := by decide +kernel
theorem dX9_usableLength_3 : decode cX9_usableLength 3 = .ok (.istore_n 2, 1) := by decide +kernel
theorem dX9_usableLength_4 : decode cX9_usableLength 4 = .ok (.iload_n 2, 1) := by decide +kernel
theorem dX9_usableLength_5 : decode cX9_usableLength 5 = .ok (.aload_n 0, 1) := by decide +kernel
theorem dX9_usableLength_6 : decode cX9_usableLength 6 = .ok (.getfield 74, 3) := by decide +kernel
theorem dX9_usableLength_9 : decode cX9_usableLength 9 = .ok (.if_icmp .ge 30, 3) := by decide +kernel
theorem dX9_usableLength_12 : decode cX9_usableLength 12 = .ok (.iload_n 1, 1) := by decide +kernel
theorem dX9_usableLength_13 : decode cX9_usableLength 13 = .ok (.aload_n 0, 1) := by decide +kernel
theorem dX9_usableLength_14 : decode cX9_usableLength 14 = .ok (.iload_n 2, 1) := by decide +kernel
theorem dX9_usableLength_15 : decode cX9_usableLength 15 = .ok (.invokevirtual 95, 3) := by decide +kernel
theorem dX9_usableLength_18 : decode cX9_usableLength 18 = .ok (.ifCond .eq 12, 3) := by decide +kernel
theorem dX9_usableLength_21 : decode cX9_usableLength 21 = .ok (.aload_n 0, 1) := by decide +kernel
theorem dX9_usableLength_22 : decode cX9_usableLength 22 = .ok (.getfield 25, 3) := by decide +kernel
theorem dX9_usableLength_25 : decode cX9_usableLength 25 = .ok (.iload_n 2, 1) := by decide +kernel
theorem dX9_usableLength_26 : decode cX9_usableLength 26 = .ok (.iaload, 1) := by decide +kernel
theorem dX9_usableLength_27 : decode cX9_usableLength 27 = .ok (.goto 4, 3) := by decide +kernel
theorem dX9_usableLength_30 : decode cX9_usableLength 30 = .ok (.iconst 0, 1) := by decide +kernel
theorem dX9_usableLength_31 : decode cX9_usableLength 31 = .ok (.iadd, 1) := by decide +kernel
theorem dX9_usableLength_32 : decode cX9_usableLength 32 = .ok (.istore_n 1, 1) := by decide +kernel
theorem dX9_usableLength_33 : decode cX9_usableLength 33 = .ok (.iinc 2 1, 3) := by decide +kernel
theorem dX9_usableLength_36 : decode cX9_usableLength 36 = .ok (.goto (-32), 3) := by decide +kernel
theorem dX9_usableLength_39 : decode cX9_usableLength 39 = .ok (.iload_n 1, 1) := by decide +kernel
theorem dX9_usableLength_40 : decode cX9_usableLength 40 = .ok (.ireturn, 1) := by decide +kernel
theorem dX9_lineAtRank_0 : decode cX9_lineAtRank 0 = .ok (.iconst 0, 1) := by decide +kernel
theorem dX9_lineAtRank_1 : decode cX9_lineAtRank 1 = .ok (.istore_n 2, 1) := by decide +kernel
theorem dX9_lineAtRank_2 : decode cX9_lineAtRank 2 = .ok (.iload_n 2, 1) := by decide +kernel
theorem dX9_lineAtRank_3 : decode cX9_lineAtRank 3 = .ok (.aload_n 0, 1) := by decide +kernel
theorem dX9_lineAtRank_4 : decode cX9_lineAtRank 4 = .ok (.getfield 74, 3) := by decide +kernel
theorem dX9_lineAtRank_7 : decode cX9_lineAtRank 7 = .ok (.if_icmp .ge 29, 3) := by decide +kernel
theorem dX9_lineAtRank_10 : decode cX9_lineAtRank 10 = .ok (.aload_n 0, 1) := by decide +kernel
theorem dX9_lineAtRank_11 : decode cX9_lineAtRank 11 = .ok (.getfield 34, 3) := by decide +kernel
theorem dX9_lineAtRank_14 : decode cX9_lineAtRank 14 = .ok (.iload_n 2, 1) := by decide +kernel
theorem dX9_lineAtRank_15 : decode cX9_lineAtRank 15 = .ok (.baload, 1) := by decide +kernel
theorem dX9_lineAtRank_16 : decode cX9_lineAtRank 16 = .ok (.ifCond .eq 14, 3) := by decide +kernel
theorem dX9_lineAtRank_19 : decode cX9_lineAtRank 19 = .ok (.aload_n 0, 1) := by decide +kernel
theorem dX9_lineAtRank_20 : decode cX9_lineAtRank 20 = .ok (.iload_n 2, 1) := by decide +kernel
theorem dX9_lineAtRank_21 : decode cX9_lineAtRank 21 = .ok (.invokevirtual 99, 3) := by decide +kernel
theorem dX9_lineAtRank_24 : decode cX9_lineAtRank 24 = .ok (.iload_n 1, 1) := by decide +kernel
theorem dX9_lineAtRank_25 : decode cX9_lineAtRank 25 = .ok (.if_icmp .ne 5, 3) := by decide +kernel
theorem dX9_lineAtRank_28 : decode cX9_lineAtRank 28 = .ok (.iload_n 2, 1) := by decide +kernel
theorem dX9_lineAtRank_29 : decode cX9_lineAtRank 29 = .ok (.ireturn, 1) := by decide +kernel
theorem dX9_lineAtRank_30 : decode cX9_lineAtRank 30 = .ok (.iinc 2 1, 3) := by decide +kernel
theorem dX9_lineAtRank_33 : decode cX9_lineAtRank 33 = .ok (.goto (-31), 3) := by decide +kernel
theorem dX9_lineAtRank_36 : decode cX9_lineAtRank 36 = .ok (.iconst (-1), 1) := by decide +kernel
theorem dX9_lineAtRank_37 : decode cX9_lineAtRank 37 = .ok (.ireturn, 1) := by decide +kernel
theorem dX9_linesAheadOf_0 : decode cX9_linesAheadOf 0 = .ok (.aload_n 0, 1) := by decide +kernel
theorem dX9_linesAheadOf_1 : decode cX9_linesAheadOf 1 = .ok (.iload_n 1, 1) := by decide +kernel
theorem dX9_linesAheadOf_2 : decode cX9_linesAheadOf 2 = .ok (.invokevirtual 84, 3) := by decide +kernel
theorem dX9_linesAheadOf_5 : decode cX9_linesAheadOf 5 = .ok (.invokestatic 87, 3) := by decide +kernel
theorem dX9_linesAheadOf_8 : decode cX9_linesAheadOf 8 = .ok (.istore_n 2, 1) := by decide +kernel
theorem dX9_linesAheadOf_9 : decode cX9_linesAheadOf 9 = .ok (.iconst 0, 1) := by decide +kernel
theorem dX9_linesAheadOf_10 : decode cX9_linesAheadOf 10 = .ok (.istore_n 3, 1) := by decide +kernel
theorem dX9_linesAheadOf_11 : decode cX9_linesAheadOf 11 = .ok (.iconst 0, 1) := by decide +kernel
theorem dX9_linesAheadOf_12 : decode cX9_linesAheadOf 12 = .ok (.istore 4, 2) := by decide +kernel
theorem dX9_linesAheadOf_14 : decode cX9_linesAheadOf 14 = .ok (.iload 4, 2) := by decide +kernel
theorem dX9_linesAheadOf_16 : decode cX9_linesAheadOf 16 = .ok (.aload_n 0, 1) := by decide +kernel
theorem dX9_linesAheadOf_17 : decode cX9_linesAheadOf 17 = .ok (.getfield 74, 3) := by decide +kernel
theorem dX9_linesAheadOf_20 : decode cX9_linesAheadOf 20 = .ok (.if_icmp .ge 51, 3) := by decide +kernel
theorem dX9_linesAheadOf_23 : decode cX9_linesAheadOf 23 = .ok (.aload_n 0, 1) := by decide +kernel
theorem dX9_linesAheadOf_24 : decode cX9_linesAheadOf 24 = .ok (.iload 4, 2) := by decide +kernel
theorem dX9_linesAheadOf_26 : decode cX9_linesAheadOf 26 = .ok (.invokevirtual 84, 3) := by decide +kernel
theorem dX9_linesAheadOf_29 : decode cX9_linesAheadOf 29 = .ok (.invokestatic 87, 3) := by decide +kernel
theorem dX9_linesAheadOf_32 : decode cX9_linesAheadOf 32 = .ok (.istore 5, 2) := by decide +kernel
theorem dX9_linesAheadOf_34 : decode cX9_linesAheadOf 34 = .ok (.aload_n 0, 1) := by decide +kernel
theorem dX9_linesAheadOf_35 : decode cX9_linesAheadOf 35 = .ok (.getfield 34, 3) := by decide +kernel
theorem dX9_linesAheadOf_38 : decode cX9_linesAheadOf 38 = .ok (.iload 4, 2) := by decide +kernel
theorem dX9_linesAheadOf_40 : decode cX9_linesAheadOf 40 = .ok (.baload, 1) := by decide +kernel
theorem dX9_linesAheadOf_41 : decode cX9_linesAheadOf 41 = .ok (.ifCond .eq 24, 3) := by decide +kernel
theorem dX9_linesAheadOf_44 : decode cX9_linesAheadOf 44 = .ok (.iload 5, 2) := by decide +kernel
theorem dX9_linesAheadOf_46 : decode cX9_linesAheadOf 46 = .ok (.iload_n 2, 1) := by decide +kernel
theorem dX9_linesAheadOf_47 : decode cX9_linesAheadOf 47 = .ok (.if_icmp .gt 15, 3) := by decide +kernel
theorem dX9_linesAheadOf_50 : decode cX9_linesAheadOf 50 = .ok (.iload 5, 2) := by decide +kernel
theorem dX9_linesAheadOf_52 : decode cX9_linesAheadOf 52 = .ok (.iload_n 2, 1) := by decide +kernel
theorem dX9_linesAheadOf_53 : decode cX9_linesAheadOf 53 = .ok (.if_icmp .ne 12, 3) := by decide +kernel
theorem dX9_linesAheadOf_56 : decode cX9_linesAheadOf 56 = .ok (.iload 4, 2) := by decide +kernel
theorem dX9_linesAheadOf_58 : decode cX9_linesAheadOf 58 = .ok (.iload_n 1, 1) := by decide +kernel
theorem dX9_linesAheadOf_59 : decode cX9_linesAheadOf 59 = .ok (.if_icmp .ge 6, 3) := by decide +kernel
theorem dX9_linesAheadOf_62 : decode cX9_linesAheadOf 62 = .ok (.iinc 3 1, 3) := by decide +kernel
theorem dX9_linesAheadOf_65 : decode cX9_linesAheadOf 65 = .ok (.iinc 4 1, 3) := by decide +kernel
theorem dX9_linesAheadOf_68 : decode cX9_linesAheadOf 68 = .ok (.goto (-54), 3) := by decide +kernel
theorem dX9_linesAheadOf_71 : decode cX9_linesAheadOf 71 = .ok (.iload_n 3, 1) := by decide +kernel
theorem dX9_linesAheadOf_72 : decode cX9_linesAheadOf 72 = .ok (.ireturn, 1) := by decide +kernel
theorem dX11_init_0 : decode cX11_init 0 = .ok (.aload_n 0, 1) := by decide +kernel
theorem dX11_init_1 : decode cX11_init 1 = .ok (.invokespecial 3, 3) := by decide +kernel
theorem dX11_init_4 : decode cX11_init 4 = .ok (.aload_n 0, 1) := by decide +kernel
theorem dX11_init_5 : decode cX11_init 5 = .ok (.bipush 16, 2) := by decide +kernel
theorem dX11_init_7 : decode cX11_init 7 = .ok (.newarray .int, 2) := by decide +kernel
theorem dX11_init_9 : decode cX11_init 9 = .ok (.putfield 9, 3) := by decide +kernel
theorem dX11_init_12 : decode cX11_init 12 = .ok (.aload_n 0, 1) := by decide +kernel
theorem dX11_init_13 : decode cX11_init 13 = .ok (.bipush 16, 2) := by decide +kernel
theorem dX11_init_15 : decode cX11_init 15 = .ok (.newarray .int, 2) := by decide +kernel
theorem dX11_init_17 : decode cX11_init 17 = .ok (.putfield 15, 3) := by decide +kernel
theorem dX11_init_20 : decode cX11_init 20 = .ok (.aload_n 0, 1) := by decide +kernel
theorem dX11_init_21 : decode cX11_init 21 = .ok (.aload_n 1, 1) := by decide +kernel
theorem dX11_init_22 : decode cX11_init 22 = .ok (.putfield 18, 3) := by decide +kernel
theorem dX11_init_25 : decode cX11_init 25 = .ok (.aload_n 0, 1) := by decide +kernel
theorem dX11_init_26 : decode cX11_init 26 = .ok (.aload_n 2, 1) := by decide +kernel
theorem dX11_init_27 : decode cX11_init 27 = .ok (.putfield 22, 3) := by decide +kernel
theorem dX11_init_30 : decode cX11_init 30 = .ok (.return_, 1) := by decide +kernel
theorem dX11_trace_0 : decode cX11_trace 0 = .ok (.aload_n 0, 1) := by decide +kernel
theorem dX11_trace_1 : decode cX11_trace 1 = .ok (.iconst 0, 1) := by decide +kernel
theorem dX11_trace_2 : decode cX11_trace 2 = .ok (.putfield 26, 3) := by decide +kernel
theorem dX11_trace_5 : decode cX11_trace 5 = .ok (.aload_n 0, 1) := by decide +kernel
theorem dX11_trace_6 : decode cX11_trace 6 = .ok (.iload_n 1, 1) := by decide +kernel
theorem dX11_trace_7 : decode cX11_trace 7 = .ok (.iload_n 2, 1) := by decide +kernel
theorem dX11_trace_8 : decode cX11_trace 8 = .ok (.iconst 0, 1) := by decide +kernel
theorem dX11_trace_9 : decode cX11_trace 9 = .ok (.invokestatic 30, 3) := by decide +kernel
theorem dX11_trace_12 : decode cX11_trace 12 = .ok (.pop, 1) := by decide +kernel
theorem dX11_trace_13 : decode cX11_trace 13 = .ok (.return_, 1) := by decide +kernel
theorem dX11_traceLoop_0 : decode cX11_traceLoop 0 = .ok (.aload_n 0, 1) := by decide +kernel
theorem dX11_traceLoop_1 : decode cX11_traceLoop 1 = .ok (.iconst 0, 1) := by decide +kernel
theorem dX11_traceLoop_2 : decode cX11_traceLoop 2 = .ok (.putfield 26, 3) := by decide +kernel
theorem dX11_traceLoop_5 : decode cX11_traceLoop 5 = .ok (.aload_n 0, 1) := by decide +kernel
theorem dX11_traceLoop_6 : decode cX11_traceLoop 6 = .ok (.iload_n 1, 1) := by decide +kernel
theorem dX11_traceLoop_7 : decode cX11_traceLoop 7 = .ok (.aload_n 0, 1) := by decide +kernel
theorem dX11_traceLoop_8 : decode cX11_traceLoop 8 = .ok (.getfield 18, 3) := by decide +kernel
theorem dX11_traceLoop_11 : decode cX11_traceLoop 11 = .ok (.getfield 34, 3) := by decide +kernel
theorem dX11_traceLoop_14 : decode cX11_traceLoop 14 = .ok (.iload_n 1, 1) := by decide +kernel
theorem dX11_traceLoop_15 : decode cX11_traceLoop 15 = .ok (.iaload, 1) := by decide +kernel
theorem dX11_traceLoop_16 : decode cX11_traceLoop 16 = .ok (.invokevirtual 39, 3) := by decide +kernel
theorem dX11_traceLoop_19 : decode cX11_traceLoop 19 = .ok (.pop, 1) := by decide +kernel
theorem dX11_traceLoop_20 : decode cX11_traceLoop 20 = .ok (.aload_n 0, 1) := by decide +kernel
theorem dX11_traceLoop_21 : decode cX11_traceLoop 21 = .ok (.aload_n 0, 1) := by decide +kernel
theorem dX11_traceLoop_22 : decode cX11_traceLoop 22 = .ok (.getfield 18, 3) := by decide +kernel
theorem dX11_traceLoop_25 : decode cX11_traceLoop 25 = .ok (.getfield 43, 3) := by decide +kernel
theorem dX11_traceLoop_28 : decode cX11_traceLoop 28 = .ok (.iload_n 1, 1) := by decide +kernel
theorem dX11_traceLoop_29 : decode cX11_traceLoop 29 = .ok (.iaload, 1) := by decide +kernel
theorem dX11_traceLoop_30 : decode cX11_traceLoop 30 = .ok (.aload_n 0, 1) := by decide +kernel
theorem dX11_traceLoop_31 : decode cX11_traceLoop 31 = .ok (.getfield 18, 3) := by decide +kernel
theorem dX11_traceLoop_34 : decode cX11_traceLoop 34 = .ok (.getfield 34, 3) := by decide +kernel
theorem dX11_traceLoop_37 : decode cX11_traceLoop 37 = .ok (.iload_n 1, 1) := by decide +kernel
theorem dX11_traceLoop_38 : decode cX11_traceLoop 38 = .ok (.iaload, 1) := by decide +kernel
theorem dX11_traceLoop_39 : decode cX11_traceLoop 39 = .ok (.iconst 0, 1) := by decide +kernel
theorem dX11_traceLoop_40 : decode cX11_traceLoop 40 = .ok (.invokestatic 30, 3) := by decide +kernel
theorem dX11_traceLoop_43 : decode cX11_traceLoop 43 = .ok (.pop, 1) := by decide +kernel
theorem dX11_traceLoop_44 : decode cX11_traceLoop 44 = .ok (.return_, 1) := by decide +kernel
theorem dX11_walk_0 : decode cX11_walk 0 = .ok (.iload_n 1, 1) := by decide +kernel
theorem dX11_walk_1 : decode cX11_walk 1 = .ok (.iload_n 2, 1) := by decide +kernel
theorem dX11_walk_2 : decode cX11_walk 2 = .ok (.if_icmp .ne 5, 3) := by decide +kernel
theorem dX11_walk_5 : decode cX11_walk 5 = .ok (.iconst 1, 1) := by decide +kernel
theorem dX11_walk_6 : decode cX11_walk 6 = .ok (.ireturn, 1) := by decide +kernel
theorem dX11_walk_7 : decode cX11_walk 7 = .ok (.iload_n 3, 1) := by decide +kernel
theorem dX11_walk_8 : decode cX11_walk 8 = .ok (.bipush 10, 2) := by decide +kernel
theorem dX11_walk_10 : decode cX11_walk 10 = .ok (.if_icmp .lt 5, 3) := by decide +kernel
theorem dX11_walk_13 : decode cX11_walk 13 = .ok (.iconst 0, 1) := by decide +kernel
theorem dX11_walk_14 : decode cX11_walk 14 = .ok (.ireturn, 1) := by decide +kernel
theorem dX11_walk_15 : decode cX11_walk 15 = .ok (.iconst 0, 1) := by decide +kernel
theorem dX11_walk_16 : decode cX11_walk 16 = .ok (.istore 4, 2) := by decide +kernel
theorem dX11_walk_18 : decode cX11_walk 18 = .ok (.iload 4, 2) := by decide +kernel
theorem dX11_walk_20 : decode cX11_walk 20 = .ok (.aload_n 0, 1) := by decide +kernel
theorem dX11_walk_21 : decode cX11_walk 21 = .ok (.getfield 18, 3) := by decide +kernel
theorem dX11_walk_24 : decode cX11_walk 24 = .ok (.getfield 46, 3) := by decide +kernel
theorem dX11_walk_27 : decode cX11_walk 27 = .ok (.if_icmp .ge 53, 3) := by decide +kernel
theorem dX11_walk_30 : decode cX11_walk 30 = .ok (.aload_n 0, 1) := by decide +kernel
theorem dX11_walk_31 : decode cX11_walk 31 = .ok (.iload 4, 2) := by decide +kernel
theorem dX11_walk_33 : decode cX11_walk 33 = .ok (.iload_n 1, 1) := by decide +kernel
theorem dX11_walk_34 : decode cX11_walk 34 = .ok (.invokevirtual 48, 3) := by decide +kernel
theorem dX11_walk_37 : decode cX11_walk 37 = .ok (.ifCond .eq 37, 3) := by decide +kernel
theorem dX11_walk_40 : decode cX11_walk 40 = .ok (.aload_n 0, 1) := by decide +kernel
theorem dX11_walk_41 : decode cX11_walk 41 = .ok (.iload 4, 2) := by decide +kernel
theorem dX11_walk_43 : decode cX11_walk 43 = .ok (.iload_n 1, 1) := by decide +kernel
theorem dX11_walk_44 : decode cX11_walk 44 = .ok (.invokevirtual 39, 3) := by decide +kernel
theorem dX11_walk_47 : decode cX11_walk 47 = .ok (.istore 5, 2) := by decide +kernel
theorem dX11_walk_49 : decode cX11_walk 49 = .ok (.aload_n 0, 1) := by decide +kernel
theorem dX11_walk_50 : decode cX11_walk 50 = .ok (.iload 5, 2) := by decide +kernel
theorem dX11_walk_52 : decode cX11_walk 52 = .ok (.iload_n 2, 1) := by decide +kernel
theorem dX11_walk_53 : decode cX11_walk 53 = .ok (.iload_n 3, 1) := by decide +kernel
theorem dX11_walk_54 : decode cX11_walk 54 = .ok (.iconst 1, 1) := by decide +kernel
theorem dX11_walk_55 : decode cX11_walk 55 = .ok (.iadd, 1) := by decide +kernel
theorem dX11_walk_56 : decode cX11_walk 56 = .ok (.invokestatic 30, 3) := by decide +kernel
theorem dX11_walk_59 : decode cX11_walk 59 = .ok (.ifCond .eq 5, 3) := by decide +kernel
theorem dX11_walk_62 : decode cX11_walk 62 = .ok (.iconst 1, 1) := by decide +kernel
theorem dX11_walk_63 : decode cX11_walk 63 = .ok (.ireturn, 1) := by decide +kernel
theorem dX11_walk_64 : decode cX11_walk 64 = .ok (.aload_n 0, 1) := by decide +kernel
theorem dX11_walk_65 : decode cX11_walk 65 = .ok (.dup, 1) := by decide +kernel
theorem dX11_walk_66 : decode cX11_walk 66 = .ok (.getfield 26, 3) := by decide +kernel
theorem dX11_walk_69 : decode cX11_walk 69 = .ok (.iconst 1, 1) := by decide +kernel
theorem dX11_walk_70 : decode cX11_walk 70 = .ok (.isub, 1) := by decide +kernel
theorem dX11_walk_71 : decode cX11_walk 71 = .ok (.putfield 26, 3) := by decide +kernel
theorem dX11_walk_74 : decode cX11_walk 74 = .ok (.iinc 4 1, 3) := by decide +kernel
theorem dX11_walk_77 : decode cX11_walk 77 = .ok (.goto (-59), 3) := by decide +kernel
theorem dX11_walk_80 : decode cX11_walk 80 = .ok (.iconst 0, 1) := by decide +kernel
theorem dX11_walk_81 : decode cX11_walk 81 = .ok (.ireturn, 1) := by decide +kernel
theorem dX11_leadsOn_0 : decode cX11_leadsOn 0 = .ok (.aload_n 0, 1) := by decide +kernel
theorem dX11_leadsOn_1 : decode cX11_leadsOn 1 = .ok (.getfield 26, 3) := by decide +kernel
theorem dX11_leadsOn_4 : decode cX11_leadsOn 4 = .ok (.ifCond .le 22, 3) := by decide +kernel
theorem dX11_leadsOn_7 : decode cX11_leadsOn 7 = .ok (.aload_n 0, 1) := by decide +kernel
theorem dX11_leadsOn_8 : decode cX11_leadsOn 8 = .ok (.getfield 9, 3) := by decide +kernel
theorem dX11_leadsOn_11 : decode cX11_leadsOn 11 = .ok (.aload_n 0, 1) := by decide +kernel
theorem dX11_leadsOn_12 : decode cX11_leadsOn 12 = .ok (.getfield 26, 3) := by decide +kernel
theorem dX11_leadsOn_15 : decode cX11_leadsOn 15 = .ok (.iconst 1, 1) := by decide +kernel
theorem dX11_leadsOn_16 : decode cX11_leadsOn 16 = .ok (.isub, 1) := by decide +kernel
theorem dX11_leadsOn_17 : decode cX11_leadsOn 17 = .ok (.iaload, 1) := by decide +kernel
theorem dX11_leadsOn_18 : decode cX11_leadsOn 18 = .ok (.iload_n 1, 1) := by decide +kernel
theorem dX11_leadsOn_19 : decode cX11_leadsOn 19 = .ok (.if_icmp .ne 7, 3) := by decide +kernel
theorem dX11_leadsOn_22 : decode cX11_leadsOn 22 = .ok (.iconst 1, 1) := by decide +kernel
theorem dX11_leadsOn_23 : decode cX11_leadsOn 23 = .ok (.goto 4, 3) := by decide +kernel
theorem dX11_leadsOn_26 : decode cX11_leadsOn 26 = .ok (.iconst 0, 1) := by decide +kernel
theorem dX11_leadsOn_27 : decode cX11_leadsOn 27 = .ok (.istore_n 3, 1) := by decide +kernel
theorem dX11_leadsOn_28 : decode cX11_leadsOn 28 = .ok (.aload_n 0, 1) := by decide +kernel
theorem dX11_leadsOn_29 : decode cX11_leadsOn 29 = .ok (.getfield 22, 3) := by decide +kernel
theorem dX11_leadsOn_32 : decode cX11_leadsOn 32 = .ok (.getfield 52, 3) := by decide +kernel
theorem dX11_leadsOn_35 : decode cX11_leadsOn 35 = .ok (.iload_n 1, 1) := by decide +kernel
theorem dX11_leadsOn_36 : decode cX11_leadsOn 36 = .ok (.baload, 1) := by decide +kernel
theorem dX11_leadsOn_37 : decode cX11_leadsOn 37 = .ok (.ifCond .eq 46, 3) := by decide +kernel
theorem dX11_leadsOn_40 : decode cX11_leadsOn 40 = .ok (.iload_n 3, 1) := by decide +kernel
theorem dX11_leadsOn_41 : decode cX11_leadsOn 41 = .ok (.ifCond .ne 42, 3) := by decide +kernel
theorem dX11_leadsOn_44 : decode cX11_leadsOn 44 = .ok (.aload_n 0, 1) := by decide +kernel
theorem dX11_leadsOn_45 : decode cX11_leadsOn 45 = .ok (.getfield 26, 3) := by decide +kernel
theorem dX11_leadsOn_48 : decode cX11_leadsOn 48 = .ok (.bipush 16, 2) := by decide +kernel
theorem dX11_leadsOn_50 : decode cX11_leadsOn 50 = .ok (.if_icmp .ge 33, 3) := by decide +kernel
theorem dX11_leadsOn_53 : decode cX11_leadsOn 53 = .ok (.aload_n 0, 1) := by decide +kernel
theorem dX11_leadsOn_54 : decode cX11_leadsOn 54 = .ok (.getfield 18, 3) := by decide +kernel
theorem dX11_leadsOn_57 : decode cX11_leadsOn 57 = .ok (.getfield 34, 3) := by decide +kernel
theorem dX11_leadsOn_60 : decode cX11_leadsOn 60 = .ok (.iload_n 1, 1) := by decide +kernel
theorem dX11_leadsOn_61 : decode cX11_leadsOn 61 = .ok (.iaload, 1) := by decide +kernel
theorem dX11_leadsOn_62 : decode cX11_leadsOn 62 = .ok (.iload_n 2, 1) := by decide +kernel
theorem dX11_leadsOn_63 : decode cX11_leadsOn 63 = .ok (.if_icmp .eq 16, 3) := by decide +kernel
theorem dX11_leadsOn_66 : decode cX11_leadsOn 66 = .ok (.aload_n 0, 1) := by decide +kernel
theorem dX11_leadsOn_67 : decode cX11_leadsOn 67 = .ok (.getfield 18, 3) := by decide +kernel
theorem dX11_leadsOn_70 : decode cX11_leadsOn 70 = .ok (.getfield 43, 3) := by decide +kernel
theorem dX11_leadsOn_73 : decode cX11_leadsOn 73 = .ok (.iload_n 1, 1) := by decide +kernel
theorem dX11_leadsOn_74 : decode cX11_leadsOn 74 = .ok (.iaload, 1) := by decide +kernel
theorem dX11_leadsOn_75 : decode cX11_leadsOn 75 = .ok (.iload_n 2, 1) := by decide +kernel
theorem dX11_leadsOn_76 : decode cX11_leadsOn 76 = .ok (.if_icmp .ne 7, 3) := by decide +kernel
theorem dX11_leadsOn_79 : decode cX11_leadsOn 79 = .ok (.iconst 1, 1) := by decide +kernel
theorem dX11_leadsOn_80 : decode cX11_leadsOn 80 = .ok (.goto 4, 3) := by decide +kernel
theorem dX11_leadsOn_83 : decode cX11_leadsOn 83 = .ok (.iconst 0, 1) := by decide +kernel
theorem dX11_leadsOn_84 : decode cX11_leadsOn 84 = .ok (.ireturn, 1) := by decide +kernel
theorem dX11_add_0 : decode cX11_add 0 = .ok (.aload_n 0, 1) := by decide +kernel
theorem dX11_add_1 : decode cX11_add 1 = .ok (.getfield 18, 3) := by decide +kernel
theorem dX11_add_4 : decode cX11_add 4 = .ok (.getfield 34, 3) := by decide +kernel
theorem dX11_add_7 : decode cX11_add 7 = .ok (.iload_n 1, 1) := by decide +kernel
theorem dX11_add_8 : decode cX11_add 8 = .ok (.iaload, 1) := by decide +kernel
theorem dX11_add_9 : decode cX11_add 9 = .ok (.iload_n 2, 1) := by decide +kernel
theorem dX11_add_10 : decode cX11_add 10 = .ok (.if_icmp .ne 7, 3) := by decide +kernel
theorem dX11_add_13 : decode cX11_add 13 = .ok (.iconst 1, 1) := by decide +kernel
theorem dX11_add_14 : decode cX11_add 14 = .ok (.goto 4, 3) := by decide +kernel
theorem dX11_add_17 : decode cX11_add 17 = .ok (.iconst 0, 1) := by decide +kernel
theorem dX11_add_18 : decode cX11_add 18 = .ok (.istore_n 3, 1) := by decide +kernel
theorem dX11_add_19 : decode cX11_add 19 = .ok (.aload_n 0, 1) := by decide +kernel
theorem dX11_add_20 : decode cX11_add 20 = .ok (.getfield 9, 3) := by decide +kernel
theorem dX11_add_23 : decode cX11_add 23 = .ok (.aload_n 0, 1) := by decide +kernel
theorem dX11_add_24 : decode cX11_add 24 = .ok (.getfield 26, 3) := by decide +kernel
theorem dX11_add_27 : decode cX11_add 27 = .ok (.iload_n 1, 1) := by decide +kernel
theorem dX11_add_28 : decode cX11_add 28 = .ok (.iastore, 1) := by decide +kernel
theorem dX11_add_29 : decode cX11_add 29 = .ok (.aload_n 0, 1) := by decide +kernel
theorem dX11_add_30 : decode cX11_add 30 = .ok (.getfield 15, 3) := by decide +kernel
theorem dX11_add_33 : decode cX11_add 33 = .ok (.aload_n 0, 1) := by decide +kernel
theorem dX11_add_34 : decode cX11_add 34 = .ok (.getfield 26, 3) := by decide +kernel
theorem dX11_add_37 : decode cX11_add 37 = .ok (.iload_n 3, 1) := by decide +kernel
theorem dX11_add_38 : decode cX11_add 38 = .ok (.ifCond .eq 7, 3) := by decide +kernel
theorem dX11_add_41 : decode cX11_add 41 = .ok (.iconst 1, 1) := by decide +kernel
theorem dX11_add_42 : decode cX11_add 42 = .ok (.goto 4, 3) := by decide +kernel
theorem dX11_add_45 : decode cX11_add 45 = .ok (.iconst (-1), 1) := by decide +kernel
theorem dX11_add_46 : decode cX11_add 46 = .ok (.iastore, 1) := by decide +kernel
theorem dX11_add_47 : decode cX11_add 47 = .ok (.aload_n 0, 1) := by decide +kernel
theorem dX11_add_48 : decode cX11_add 48 = .ok (.dup, 1) := by decide +kernel
theorem dX11_add_49 : decode cX11_add 49 = .ok (.getfield 26, 3) := by decide +kernel
theorem dX11_add_52 : decode cX11_add 52 = .ok (.iconst 1, 1) := by decide +kernel
theorem dX11_add_53 : decode cX11_add 53 = .ok (.iadd, 1) := by decide +kernel
theorem dX11_add_54 : decode cX11_add 54 = .ok (.putfield 26, 3) := by decide +kernel
theorem dX11_add_57 : decode cX11_add 57 = .ok (.iload_n 3, 1) := by decide +kernel
theorem dX11_add_58 : decode cX11_add 58 = .ok (.ifCond .eq 15, 3) := by decide +kernel
theorem dX11_add_61 : decode cX11_add 61 = .ok (.aload_n 0, 1) := by decide +kernel
theorem dX11_add_62 : decode cX11_add 62 = .ok (.getfield 18, 3) := by decide +kernel
theorem dX11_add_65 : decode cX11_add 65 = .ok (.getfield 43, 3) := by decide +kernel
theorem dX11_add_68 : decode cX11_add 68 = .ok (.iload_n 1, 1) := by decide +kernel
theorem dX11_add_69 : decode cX11_add 69 = .ok (.iaload, 1) := by decide +kernel
theorem dX11_add_70 : decode cX11_add 70 = .ok (.goto 12, 3) := by decide +kernel
theorem dX11_add_73 : decode cX11_add 73 = .ok (.aload_n 0, 1) := by decide +kernel
theorem dX11_add_74 : decode cX11_add 74 = .ok (.getfield 18, 3) := by decide +kernel
theorem dX11_add_77 : decode cX11_add 77 = .ok (.getfield 34, 3) := by decide +kernel
theorem dX11_add_80 : decode cX11_add 80 = .ok (.iload_n 1, 1) := by decide +kernel
theorem dX11_add_81 : decode cX11_add 81 = .ok (.iaload, 1) := by decide +kernel
theorem dX11_add_82 : decode cX11_add 82 = .ok (.ireturn, 1) := by decide +kernel
theorem dX11_rise_0 : decode cX11_rise 0 = .ok (.iconst 0, 1) := by decide +kernel
theorem dX11_rise_1 : decode cX11_rise 1 = .ok (.istore_n 1, 1) := by decide +kernel
theorem dX11_rise_2 : decode cX11_rise 2 = .ok (.iconst 0, 1) := by decide +kernel
theorem dX11_rise_3 : decode cX11_rise 3 = .ok (.istore_n 2, 1) := by decide +kernel
theorem dX11_rise_4 : decode cX11_rise 4 = .ok (.iload_n 2, 1) := by decide +kernel
theorem dX11_rise_5 : decode cX11_rise 5 = .ok (.aload_n 0, 1) := by decide +kernel
theorem dX11_rise_6 : decode cX11_rise 6 = .ok (.getfield 26, 3) := by decide +kernel
theorem dX11_rise_9 : decode cX11_rise 9 = .ok (.if_icmp .ge 32, 3) := by decide +kernel
theorem dX11_rise_12 : decode cX11_rise 12 = .ok (.iload_n 1, 1) := by decide +kernel
theorem dX11_rise_13 : decode cX11_rise 13 = .ok (.aload_n 0, 1) := by decide +kernel
theorem dX11_rise_14 : decode cX11_rise 14 = .ok (.getfield 15, 3) := by decide +kernel
theorem dX11_rise_17 : decode cX11_rise 17 = .ok (.iload_n 2, 1) := by decide +kernel
theorem dX11_rise_18 : decode cX11_rise 18 = .ok (.iaload, 1) := by decide +kernel
theorem dX11_rise_19 : decode cX11_rise 19 = .ok (.aload_n 0, 1) := by decide +kernel
theorem dX11_rise_20 : decode cX11_rise 20 = .ok (.getfield 18, 3) := by decide +kernel
theorem dX11_rise_23 : decode cX11_rise 23 = .ok (.aload_n 0, 1) := by decide +kernel
theorem dX11_rise_24 : decode cX11_rise 24 = .ok (.getfield 9, 3) := by decide +kernel
theorem dX11_rise_27 : decode cX11_rise 27 = .ok (.iload_n 2, 1) := by decide +kernel
theorem dX11_rise_28 : decode cX11_rise 28 = .ok (.iaload, 1) := by decide +kernel
theorem dX11_rise_29 : decode cX11_rise 29 = .ok (.invokevirtual 58, 3) := by decide +kernel
theorem dX11_rise_32 : decode cX11_rise 32 = .ok (.imul, 1) := by decide +kernel
theorem dX11_rise_33 : decode cX11_rise 33 = .ok (.iadd, 1) := by decide +kernel
theorem dX11_rise_34 : decode cX11_rise 34 = .ok (.istore_n 1, 1) := by decide +kernel
theorem dX11_rise_35 : decode cX11_rise 35 = .ok (.iinc 2 1, 3) := by decide +kernel
theorem dX11_rise_38 : decode cX11_rise 38 = .ok (.goto (-34), 3) := by decide +kernel
theorem dX11_rise_41 : decode cX11_rise 41 = .ok (.iload_n 1, 1) := by decide +kernel
theorem dX11_rise_42 : decode cX11_rise 42 = .ok (.ireturn, 1) := by decide +kernel
theorem dX11_totalLength_0 : decode cX11_totalLength 0 = .ok (.iconst 0, 1) := by decide +kernel
theorem dX11_totalLength_1 : decode cX11_totalLength 1 = .ok (.istore_n 1, 1) := by decide +kernel
theorem dX11_totalLength_2 : decode cX11_totalLength 2 = .ok (.iconst 0, 1) := by decide +kernel
theorem dX11_totalLength_3 : decode cX11_totalLength 3 = .ok (.istore_n 2, 1) := by decide +kernel
theorem dX11_totalLength_4 : decode cX11_totalLength 4 = .ok (.iload_n 2, 1) := by decide +kernel
theorem dX11_totalLength_5 : decode cX11_totalLength 5 = .ok (.aload_n 0, 1) := by decide +kernel
theorem dX11_totalLength_6 : decode cX11_totalLength 6 = .ok (.getfield 26, 3) := by decide +kernel
theorem dX11_totalLength_9 : decode cX11_totalLength 9 = .ok (.if_icmp .ge 26, 3) := by decide +kernel
theorem dX11_totalLength_12 : decode cX11_totalLength 12 = .ok (.iload_n 1, 1) := by decide +kernel
theorem dX11_totalLength_13 : decode cX11_totalLength 13 = .ok (.aload_n 0, 1) := by decide +kernel
theorem dX11_totalLength_14 : decode cX11_totalLength 14 = .ok (.getfield 18, 3) := by decide +kernel
theorem dX11_totalLength_17 : decode cX11_totalLength 17 = .ok (.getfield 62, 3) := by decide +kernel
theorem dX11_totalLength_20 : decode cX11_totalLength 20 = .ok (.aload_n 0, 1) := by decide +kernel
theorem dX11_totalLength_21 : decode cX11_totalLength 21 = .ok (.getfield 9, 3) := by decide +kernel
theorem dX11_totalLength_24 : decode cX11_totalLength 24 = .ok (.iload_n 2, 1) := by decide +kernel
theorem dX11_totalLength_25 : decode cX11_totalLength 25 = .ok (.iaload, 1) := by decide +kernel
theorem dX11_totalLength_26 : decode cX11_totalLength 26 = .ok (.iaload, 1) := by decide +kernel
theorem dX11_totalLength_27 : decode cX11_totalLength 27 = .ok (.iadd, 1) := by decide +kernel
theorem dX11_totalLength_28 : decode cX11_totalLength 28 = .ok (.istore_n 1, 1) := by decide +kernel
theorem dX11_totalLength_29 : decode cX11_totalLength 29 = .ok (.iinc 2 1, 3) := by decide +kernel
theorem dX11_totalLength_32 : decode cX11_totalLength 32 = .ok (.goto (-28), 3) := by decide +kernel
theorem dX11_totalLength_35 : decode cX11_totalLength 35 = .ok (.iload_n 1, 1) := by decide +kernel
theorem dX11_totalLength_36 : decode cX11_totalLength 36 = .ok (.ireturn, 1) := by decide +kernel
theorem dX12_init_0 : decode cX12_init 0 = .ok (.aload_n 0, 1) := by decide +kernel
theorem dX12_init_1 : decode cX12_init 1 = .ok (.invokespecial 1, 3) := by decide +kernel
theorem dX12_init_4 : decode cX12_init 4 = .ok (.aload_n 0, 1) := by decide +kernel
theorem dX12_init_5 : decode cX12_init 5 = .ok (.new 7, 3) := by decide +kernel
theorem dX12_init_8 : decode cX12_init 8 = .ok (.dup, 1) := by decide +kernel
theorem dX12_init_9 : decode cX12_init 9 = .ok (.invokespecial 9, 3) := by decide +kernel
theorem dX12_init_12 : decode cX12_init 12 = .ok (.putfield 10, 3) := by decide +kernel
theorem dX12_init_15 : decode cX12_init 15 = .ok (.aload_n 0, 1) := by decide +kernel
theorem dX12_init_16 : decode cX12_init 16 = .ok (.new 7, 3) := by decide +kernel
theorem dX12_init_19 : decode cX12_init 19 = .ok (.dup, 1) := by decide +kernel
theorem dX12_init_20 : decode cX12_init 20 = .ok (.invokespecial 9, 3) := by decide +kernel
theorem dX12_init_23 : decode cX12_init 23 = .ok (.putfield 16, 3) := by decide +kernel
theorem dX12_init_26 : decode cX12_init 26 = .ok (.aload_n 0, 1) := by decide +kernel
theorem dX12_init_27 : decode cX12_init 27 = .ok (.new 7, 3) := by decide +kernel
theorem dX12_init_30 : decode cX12_init 30 = .ok (.dup, 1) := by decide +kernel
theorem dX12_init_31 : decode cX12_init 31 = .ok (.invokespecial 9, 3) := by decide +kernel
theorem dX12_init_34 : decode cX12_init 34 = .ok (.putfield 19, 3) := by decide +kernel
theorem dX12_init_37 : decode cX12_init 37 = .ok (.aload_n 0, 1) := by decide +kernel
theorem dX12_init_38 : decode cX12_init 38 = .ok (.new 22, 3) := by decide +kernel
theorem dX12_init_41 : decode cX12_init 41 = .ok (.dup, 1) := by decide +kernel
theorem dX12_init_42 : decode cX12_init 42 = .ok (.invokespecial 24, 3) := by decide +kernel
theorem dX12_init_45 : decode cX12_init 45 = .ok (.putfield 25, 3) := by decide +kernel
theorem dX12_init_48 : decode cX12_init 48 = .ok (.aload_n 0, 1) := by decide +kernel
theorem dX12_init_49 : decode cX12_init 49 = .ok (.new 29, 3) := by decide +kernel
theorem dX12_init_52 : decode cX12_init 52 = .ok (.dup, 1) := by decide +kernel
theorem dX12_init_53 : decode cX12_init 53 = .ok (.aload_n 0, 1) := by decide +kernel
theorem dX12_init_54 : decode cX12_init 54 = .ok (.getfield 10, 3) := by decide +kernel
theorem dX12_init_57 : decode cX12_init 57 = .ok (.invokespecial 31, 3) := by decide +kernel
theorem dX12_init_60 : decode cX12_init 60 = .ok (.putfield 34, 3) := by decide +kernel
theorem dX12_init_63 : decode cX12_init 63 = .ok (.aload_n 0, 1) := by decide +kernel
theorem dX12_init_64 : decode cX12_init 64 = .ok (.new 38, 3) := by decide +kernel
theorem dX12_init_67 : decode cX12_init 67 = .ok (.dup, 1) := by decide +kernel
theorem dX12_init_68 : decode cX12_init 68 = .ok (.aload_n 0, 1) := by decide +kernel
theorem dX12_init_69 : decode cX12_init 69 = .ok (.getfield 10, 3) := by decide +kernel
theorem dX12_init_72 : decode cX12_init 72 = .ok (.aload_n 0, 1) := by decide +kernel
theorem dX12_init_73 : decode cX12_init 73 = .ok (.getfield 34, 3) := by decide +kernel
theorem dX12_init_76 : decode cX12_init 76 = .ok (.invokespecial 40, 3) := by decide +kernel
theorem dX12_init_79 : decode cX12_init 79 = .ok (.putfield 43, 3) := by decide +kernel
theorem dX12_init_82 : decode cX12_init 82 = .ok (.aload_n 0, 1) := by decide +kernel
theorem dX12_init_83 : decode cX12_init 83 = .ok (.new 47, 3) := by decide +kernel
theorem dX12_init_86 : decode cX12_init 86 = .ok (.dup, 1) := by decide +kernel
theorem dX12_init_87 : decode cX12_init 87 = .ok (.aload_n 0, 1) := by decide +kernel
theorem dX12_init_88 : decode cX12_init 88 = .ok (.getfield 10, 3) := by decide +kernel
theorem dX12_init_91 : decode cX12_init 91 = .ok (.invokespecial 49, 3) := by decide +kernel
theorem dX12_init_94 : decode cX12_init 94 = .ok (.putfield 50, 3) := by decide +kernel
theorem dX12_init_97 : decode cX12_init 97 = .ok (.aload_n 0, 1) := by decide +kernel
theorem dX12_init_98 : decode cX12_init 98 = .ok (.new 54, 3) := by decide +kernel
theorem dX12_init_101 : decode cX12_init 101 = .ok (.dup, 1) := by decide +kernel
theorem dX12_init_102 : decode cX12_init 102 = .ok (.aload_n 0, 1) := by decide +kernel
theorem dX12_init_103 : decode cX12_init 103 = .ok (.getfield 10, 3) := by decide +kernel
theorem dX12_init_106 : decode cX12_init 106 = .ok (.aload_n 0, 1) := by decide +kernel
theorem dX12_init_107 : decode cX12_init 107 = .ok (.getfield 34, 3) := by decide +kernel
theorem dX12_init_110 : decode cX12_init 110 = .ok (.invokespecial 56, 3) := by decide +kernel
theorem dX12_init_113 : decode cX12_init 113 = .ok (.putfield 57, 3) := by decide +kernel
theorem dX12_init_116 : decode cX12_init 116 = .ok (.aload_n 0, 1) := by decide +kernel
theorem dX12_init_117 : decode cX12_init 117 = .ok (.new 61, 3) := by decide +kernel
theorem dX12_init_120 : decode cX12_init 120 = .ok (.dup, 1) := by decide +kernel
theorem dX12_init_121 : decode cX12_init 121 = .ok (.aload_n 0, 1) := by decide +kernel
theorem dX12_init_122 : decode cX12_init 122 = .ok (.getfield 10, 3) := by decide +kernel
theorem dX12_init_125 : decode cX12_init 125 = .ok (.invokespecial 63, 3) := by decide +kernel
theorem dX12_init_128 : decode cX12_init 128 = .ok (.putfield 64, 3) := by decide +kernel
theorem dX12_init_131 : decode cX12_init 131 = .ok (.aload_n 0, 1) := by decide +kernel
theorem dX12_init_132 : decode cX12_init 132 = .ok (.new 68, 3) := by decide +kernel
theorem dX12_init_135 : decode cX12_init 135 = .ok (.dup, 1) := by decide +kernel
theorem dX12_init_136 : decode cX12_init 136 = .ok (.aload_n 0, 1) := by decide +kernel
theorem dX12_init_137 : decode cX12_init 137 = .ok (.getfield 10, 3) := by decide +kernel
theorem dX12_init_140 : decode cX12_init 140 = .ok (.aload_n 0, 1) := by decide +kernel
theorem dX12_init_141 : decode cX12_init 141 = .ok (.getfield 34, 3) := by decide +kernel
theorem dX12_init_144 : decode cX12_init 144 = .ok (.aload_n 0, 1) := by decide +kernel
theorem dX12_init_145 : decode cX12_init 145 = .ok (.getfield 43, 3) := by decide +kernel
theorem dX12_init_148 : decode cX12_init 148 = .ok (.aload_n 0, 1) := by decide +kernel
theorem dX12_init_149 : decode cX12_init 149 = .ok (.getfield 50, 3) := by decide +kernel
theorem dX12_init_152 : decode cX12_init 152 = .ok (.invokespecial 70, 3) := by decide +kernel
theorem dX12_init_155 : decode cX12_init 155 = .ok (.putfield 73, 3) := by decide +kernel
theorem dX12_init_158 : decode cX12_init 158 = .ok (.aload_n 0, 1) := by decide +kernel
theorem dX12_init_159 : decode cX12_init 159 = .ok (.new 77, 3) := by decide +kernel
theorem dX12_init_162 : decode cX12_init 162 = .ok (.dup, 1) := by decide +kernel
theorem dX12_init_163 : decode cX12_init 163 = .ok (.invokespecial 79, 3) := by decide +kernel
theorem dX12_init_166 : decode cX12_init 166 = .ok (.putfield 80, 3) := by decide +kernel
theorem dX12_init_169 : decode cX12_init 169 = .ok (.aload_n 0, 1) := by decide +kernel
theorem dX12_init_170 : decode cX12_init 170 = .ok (.new 84, 3) := by decide +kernel
theorem dX12_init_173 : decode cX12_init 173 = .ok (.dup, 1) := by decide +kernel
theorem dX12_init_174 : decode cX12_init 174 = .ok (.invokespecial 86, 3) := by decide +kernel
theorem dX12_init_177 : decode cX12_init 177 = .ok (.putfield 87, 3) := by decide +kernel
theorem dX12_init_180 : decode cX12_init 180 = .ok (.aload_n 0, 1) := by decide +kernel
theorem dX12_init_181 : decode cX12_init 181 = .ok (.iconst (-1), 1) := by decide +kernel
theorem dX12_init_182 : decode cX12_init 182 = .ok (.putfield 91, 3) := by decide +kernel
theorem dX12_init_185 : decode cX12_init 185 = .ok (.aload_n 0, 1) := by decide +kernel
theorem dX12_init_186 : decode cX12_init 186 = .ok (.iconst (-1), 1) := by decide +kernel
theorem dX12_init_187 : decode cX12_init 187 = .ok (.putfield 95, 3) := by decide +kernel
theorem dX12_init_190 : decode cX12_init 190 = .ok (.return_, 1) := by decide +kernel
theorem dX12_addBenchmark_0 : decode cX12_addBenchmark 0 = .ok (.aload_n 0, 1) := by decide +kernel
theorem dX12_addBenchmark_1 : decode cX12_addBenchmark 1 = .ok (.getstatic 98, 3) := by decide +kernel
theorem dX12_addBenchmark_4 : decode cX12_addBenchmark 4 = .ok (.iconst 0, 1) := by decide +kernel
theorem dX12_addBenchmark_5 : decode cX12_addBenchmark 5 = .ok (.iconst 0, 1) := by decide +kernel
theorem dX12_addBenchmark_6 : decode cX12_addBenchmark 6 = .ok (.iconst 0, 1) := by decide +kernel
theorem dX12_addBenchmark_7 : decode cX12_addBenchmark 7 = .ok (.iconst 0, 1) := by decide +kernel
theorem dX12_addBenchmark_8 : decode cX12_addBenchmark 8 = .ok (.invokevirtual 104, 3) := by decide +kernel
theorem dX12_addBenchmark_11 : decode cX12_addBenchmark 11 = .ok (.ireturn, 1) := by decide +kernel
theorem dX12_fix_0 : decode cX12_fix 0 = .ok (.aload_n 0, 1) := by decide +kernel
theorem dX12_fix_1 : decode cX12_fix 1 = .ok (.getstatic 108, 3) := by decide +kernel
theorem dX12_fix_4 : decode cX12_fix 4 = .ok (.iload_n 1, 1) := by decide +kernel
theorem dX12_fix_5 : decode cX12_fix 5 = .ok (.iload_n 2, 1) := by decide +kernel
theorem dX12_fix_6 : decode cX12_fix 6 = .ok (.iconst 0, 1) := by decide +kernel
theorem dX12_fix_7 : decode cX12_fix 7 = .ok (.iconst 0, 1) := by decide +kernel
theorem dX12_fix_8 : decode cX12_fix 8 = .ok (.invokevirtual 104, 3) := by decide +kernel
theorem dX12_fix_11 : decode cX12_fix 11 = .ok (.ireturn, 1) := by decide +kernel
theorem dX12_release_0 : decode cX12_release 0 = .ok (.aload_n 0, 1) := by decide +kernel
theorem dX12_release_1 : decode cX12_release 1 = .ok (.getstatic 111, 3) := by decide +kernel
theorem dX12_release_4 : decode cX12_release 4 = .ok (.iload_n 1, 1) := by decide +kernel
theorem dX12_release_5 : decode cX12_release 5 = .ok (.iconst 0, 1) := by decide +kernel
theorem dX12_release_6 : decode cX12_release 6 = .ok (.iconst 0, 1) := by decide +kernel
theorem dX12_release_7 : decode cX12_release 7 = .ok (.iconst 0, 1) := by decide +kernel
theorem dX12_release_8 : decode cX12_release 8 = .ok (.invokevirtual 104, 3) := by decide +kernel
theorem dX12_release_11 : decode cX12_release 11 = .ok (.ireturn, 1) := by decide +kernel
theorem dX12_addLine_0 : decode cX12_addLine 0 = .ok (.aload_n 0, 1) := by decide +kernel
theorem dX12_addLine_1 : decode cX12_addLine 1 = .ok (.getstatic 114, 3) := by decide +kernel
theorem dX12_addLine_4 : decode cX12_addLine 4 = .ok (.iload_n 1, 1) := by decide +kernel
theorem dX12_addLine_5 : decode cX12_addLine 5 = .ok (.iload_n 2, 1) := by decide +kernel
theorem dX12_addLine_6 : decode cX12_addLine 6 = .ok (.iload_n 3, 1) := by decide +kernel
theorem dX12_addLine_7 : decode cX12_addLine 7 = .ok (.iload 4, 2) := by decide +kernel
theorem dX12_addLine_9 : decode cX12_addLine 9 = .ok (.invokevirtual 104, 3) := by decide +kernel
theorem dX12_addLine_12 : decode cX12_addLine 12 = .ok (.ireturn, 1) := by decide +kernel
theorem dX12_addBackwardRun_0 : decode cX12_addBackwardRun 0 = .ok (.aload_n 0, 1) := by decide +kernel
theorem dX12_addBackwardRun_1 : decode cX12_addBackwardRun 1 = .ok (.getstatic 117, 3) := by decide +kernel
theorem dX12_addBackwardRun_4 : decode cX12_addBackwardRun 4 = .ok (.iload_n 1, 1) := by decide +kernel
theorem dX12_addBackwardRun_5 : decode cX12_addBackwardRun 5 = .ok (.iload_n 2, 1) := by decide +kernel
theorem dX12_addBackwardRun_6 : decode cX12_addBackwardRun 6 = .ok (.iconst 0, 1) := by decide +kernel
theorem dX12_addBackwardRun_7 : decode cX12_addBackwardRun 7 = .ok (.iconst 0, 1) := by decide +kernel
theorem dX12_addBackwardRun_8 : decode cX12_addBackwardRun 8 = .ok (.invokevirtual 104, 3) := by decide +kernel
theorem dX12_addBackwardRun_11 : decode cX12_addBackwardRun 11 = .ok (.ireturn, 1) := by decide +kernel
theorem dX12_exclude_0 : decode cX12_exclude 0 = .ok (.aload_n 0, 1) := by decide +kernel
theorem dX12_exclude_1 : decode cX12_exclude 1 = .ok (.getstatic 120, 3) := by decide +kernel
theorem dX12_exclude_4 : decode cX12_exclude 4 = .ok (.iload_n 1, 1) := by decide +kernel
theorem dX12_exclude_5 : decode cX12_exclude 5 = .ok (.iconst 0, 1) := by decide +kernel
theorem dX12_exclude_6 : decode cX12_exclude 6 = .ok (.iconst 0, 1) := by decide +kernel
theorem dX12_exclude_7 : decode cX12_exclude 7 = .ok (.iconst 0, 1) := by decide +kernel
theorem dX12_exclude_8 : decode cX12_exclude 8 = .ok (.invokevirtual 104, 3) := by decide +kernel
theorem dX12_exclude_11 : decode cX12_exclude 11 = .ok (.ireturn, 1) := by decide +kernel
theorem dX12_include_0 : decode cX12_include 0 = .ok (.aload_n 0, 1) := by decide +kernel
theorem dX12_include_1 : decode cX12_include 1 = .ok (.getstatic 123, 3) := by decide +kernel
theorem dX12_include_4 : decode cX12_include 4 = .ok (.iload_n 1, 1) := by decide +kernel
theorem dX12_include_5 : decode cX12_include 5 = .ok (.iconst 0, 1) := by decide +kernel
theorem dX12_include_6 : decode cX12_include 6 = .ok (.iconst 0, 1) := by decide +kernel
theorem dX12_include_7 : decode cX12_include 7 = .ok (.iconst 0, 1) := by decide +kernel
theorem dX12_include_8 : decode cX12_include 8 = .ok (.invokevirtual 104, 3) := by decide +kernel
theorem dX12_include_11 : decode cX12_include 11 = .ok (.ireturn, 1) := by decide +kernel
theorem dX12_shareMisclosure_0 : decode cX12_shareMisclosure 0 = .ok (.aload_n 0, 1) := by decide +kernel
theorem dX12_shareMisclosure_1 : decode cX12_shareMisclosure 1 = .ok (.getstatic 126, 3) := by decide +kernel
theorem dX12_shareMisclosure_4 : decode cX12_shareMisclosure 4 = .ok (.iload_n 1, 1) := by decide +kernel
theorem dX12_shareMisclosure_5 : decode cX12_shareMisclosure 5 = .ok (.iconst 0, 1) := by decide +kernel
theorem dX12_shareMisclosure_6 : decode cX12_shareMisclosure 6 = .ok (.iconst 0, 1) := by decide +kernel
theorem dX12_shareMisclosure_7 : decode cX12_shareMisclosure 7 = .ok (.iconst 0, 1) := by decide +kernel
theorem dX12_shareMisclosure_8 : decode cX12_shareMisclosure 8 = .ok (.invokevirtual 104, 3) := by decide +kernel
theorem dX12_shareMisclosure_11 : decode cX12_shareMisclosure 11 = .ok (.ireturn, 1) := by decide +kernel
theorem dX12_resetCorrections_0 : decode cX12_resetCorrections 0 = .ok (.aload_n 0, 1) := by decide +kernel
theorem dX12_resetCorrections_1 : decode cX12_resetCorrections 1 = .ok (.getstatic 129, 3) := by decide +kernel
theorem dX12_resetCorrections_4 : decode cX12_resetCorrections 4 = .ok (.iconst 0, 1) := by decide +kernel
theorem dX12_resetCorrections_5 : decode cX12_resetCorrections 5 = .ok (.iconst 0, 1) := by decide +kernel
theorem dX12_resetCorrections_6 : decode cX12_resetCorrections 6 = .ok (.iconst 0, 1) := by decide +kernel
theorem dX12_resetCorrections_7 : decode cX12_resetCorrections 7 = .ok (.iconst 0, 1) := by decide +kernel
theorem dX12_resetCorrections_8 : decode cX12_resetCorrections 8 = .ok (.invokevirtual 104, 3) := by decide +kernel
theorem dX12_resetCorrections_11 : decode cX12_resetCorrections 11 = .ok (.ireturn, 1) := by decide +kernel
theorem dX12_addProfile_0 : decode cX12_addProfile 0 = .ok (.aload_n 0, 1) := by decide +kernel
theorem dX12_addProfile_1 : decode cX12_addProfile 1 = .ok (.getstatic 132, 3) := by decide +kernel
theorem dX12_addProfile_4 : decode cX12_addProfile 4 = .ok (.iload_n 1, 1) := by decide +kernel
theorem dX12_addProfile_5 : decode cX12_addProfile 5 = .ok (.iconst 0, 1) := by decide +kernel
theorem dX12_addProfile_6 : decode cX12_addProfile 6 = .ok (.iconst 0, 1) := by decide +kernel
theorem dX12_addProfile_7 : decode cX12_addProfile 7 = .ok (.iconst 0, 1) := by decide +kernel
theorem dX12_addProfile_8 : decode cX12_addProfile 8 = .ok (.invokevirtual 104, 3) := by decide +kernel
theorem dX12_addProfile_11 : decode cX12_addProfile 11 = .ok (.ireturn, 1) := by decide +kernel
theorem dX12_addStation_0 : decode cX12_addStation 0 = .ok (.aload_n 0, 1) := by decide +kernel
theorem dX12_addStation_1 : decode cX12_addStation 1 = .ok (.getstatic 135, 3) := by decide +kernel
theorem dX12_addStation_4 : decode cX12_addStation 4 = .ok (.iload_n 1, 1) := by decide +kernel
theorem dX12_addStation_5 : decode cX12_addStation 5 = .ok (.iload_n 2, 1) := by decide +kernel
theorem dX12_addStation_6 : decode cX12_addStation 6 = .ok (.iload_n 3, 1) := by decide +kernel
theorem dX12_addStation_7 : decode cX12_addStation 7 = .ok (.iconst 0, 1) := by decide +kernel
theorem dX12_addStation_8 : decode cX12_addStation 8 = .ok (.invokevirtual 104, 3) := by decide +kernel
theorem dX12_addStation_11 : decode cX12_addStation 11 = .ok (.ireturn, 1) := by decide +kernel
theorem dX12_setWaterLevel_0 : decode cX12_setWaterLevel 0 = .ok (.aload_n 0, 1) := by decide +kernel
theorem dX12_setWaterLevel_1 : decode cX12_setWaterLevel 1 = .ok (.getstatic 138, 3) := by decide +kernel
theorem dX12_setWaterLevel_4 : decode cX12_setWaterLevel 4 = .ok (.iload_n 1, 1) := by decide +kernel
theorem dX12_setWaterLevel_5 : decode cX12_setWaterLevel 5 = .ok (.iconst 0, 1) := by decide +kernel
theorem dX12_setWaterLevel_6 : decode cX12_setWaterLevel 6 = .ok (.iconst 0, 1) := by decide +kernel
theorem dX12_setWaterLevel_7 : decode cX12_setWaterLevel 7 = .ok (.iconst 0, 1) := by decide +kernel
theorem dX12_setWaterLevel_8 : decode cX12_setWaterLevel 8 = .ok (.invokevirtual 104, 3) := by decide +kernel
theorem dX12_setWaterLevel_11 : decode cX12_setWaterLevel 11 = .ok (.ireturn, 1) := by decide +kernel
theorem dX12_benchmarkCount_0 : decode cX12_benchmarkCount 0 = .ok (.aload_n 0, 1) := by decide +kernel
theorem dX12_benchmarkCount_1 : decode cX12_benchmarkCount 1 = .ok (.getfield 10, 3) := by decide +kernel
theorem dX12_benchmarkCount_4 : decode cX12_benchmarkCount 4 = .ok (.getfield 141, 3) := by decide +kernel
theorem dX12_benchmarkCount_7 : decode cX12_benchmarkCount 7 = .ok (.ireturn, 1) := by decide +kernel
theorem dX12_isFixed_0 : decode cX12_isFixed 0 = .ok (.aload_n 0, 1) := by decide +kernel
theorem dX12_isFixed_1 : decode cX12_isFixed 1 = .ok (.iload_n 1, 1) := by decide +kernel
theorem dX12_isFixed_2 : decode cX12_isFixed 2 = .ok (.invokevirtual 144, 3) := by decide +kernel
theorem dX12_isFixed_5 : decode cX12_isFixed 5 = .ok (.aload_n 0, 1) := by decide +kernel
theorem dX12_isFixed_6 : decode cX12_isFixed 6 = .ok (.getfield 10, 3) := by decide +kernel
theorem dX12_isFixed_9 : decode cX12_isFixed 9 = .ok (.getfield 148, 3) := by decide +kernel
theorem dX12_isFixed_12 : decode cX12_isFixed 12 = .ok (.iload_n 1, 1) := by decide +kernel
theorem dX12_isFixed_13 : decode cX12_isFixed 13 = .ok (.baload, 1) := by decide +kernel
theorem dX12_isFixed_14 : decode cX12_isFixed 14 = .ok (.ireturn, 1) := by decide +kernel
theorem dX12_hasHeight_0 : decode cX12_hasHeight 0 = .ok (.aload_n 0, 1) := by decide +kernel
theorem dX12_hasHeight_1 : decode cX12_hasHeight 1 = .ok (.iload_n 1, 1) := by decide +kernel
theorem dX12_hasHeight_2 : decode cX12_hasHeight 2 = .ok (.invokevirtual 144, 3) := by decide +kernel
theorem dX12_hasHeight_5 : decode cX12_hasHeight 5 = .ok (.aload_n 0, 1) := by decide +kernel
theorem dX12_hasHeight_6 : decode cX12_hasHeight 6 = .ok (.getfield 34, 3) := by decide +kernel
theorem dX12_hasHeight_9 : decode cX12_hasHeight 9 = .ok (.invokevirtual 152, 3) := by decide +kernel
theorem dX12_hasHeight_12 : decode cX12_hasHeight 12 = .ok (.aload_n 0, 1) := by decide +kernel
theorem dX12_hasHeight_13 : decode cX12_hasHeight 13 = .ok (.getfield 57, 3) := by decide +kernel
theorem dX12_hasHeight_16 : decode cX12_hasHeight 16 = .ok (.iload_n 1, 1) := by decide +kernel
theorem dX12_hasHeight_17 : decode cX12_hasHeight 17 = .ok (.invokevirtual 155, 3) := by decide +kernel
theorem dX12_hasHeight_20 : decode cX12_hasHeight 20 = .ok (.ireturn, 1) := by decide +kernel
theorem dX12_height_0 : decode cX12_height 0 = .ok (.aload_n 0, 1) := by decide +kernel
theorem dX12_height_1 : decode cX12_height 1 = .ok (.iload_n 1, 1) := by decide +kernel
theorem dX12_height_2 : decode cX12_height 2 = .ok (.invokevirtual 144, 3) := by decide +kernel
theorem dX12_height_5 : decode cX12_height 5 = .ok (.aload_n 0, 1) := by decide +kernel
theorem dX12_height_6 : decode cX12_height 6 = .ok (.iload_n 1, 1) := by decide +kernel
theorem dX12_height_7 : decode cX12_height 7 = .ok (.invokevirtual 159, 3) := by decide +kernel
theorem dX12_height_10 : decode cX12_height 10 = .ok (.aload_n 0, 1) := by decide +kernel
theorem dX12_height_11 : decode cX12_height 11 = .ok (.getfield 57, 3) := by decide +kernel
theorem dX12_height_14 : decode cX12_height 14 = .ok (.iload_n 1, 1) := by decide +kernel
theorem dX12_height_15 : decode cX12_height 15 = .ok (.invokevirtual 162, 3) := by decide +kernel
theorem dX12_height_18 : decode cX12_height 18 = .ok (.ireturn, 1) := by decide +kernel
theorem dX12_heightByRounds_0 : decode cX12_heightByRounds 0 = .ok (.aload_n 0, 1) := by decide +kernel
theorem dX12_heightByRounds_1 : decode cX12_heightByRounds 1 = .ok (.iload_n 1, 1) := by decide +kernel
theorem dX12_heightByRounds_2 : decode cX12_heightByRounds 2 = .ok (.invokevirtual 144, 3) := by decide +kernel
theorem dX12_heightByRounds_5 : decode cX12_heightByRounds 5 = .ok (.aload_n 0, 1) := by decide +kernel
theorem dX12_heightByRounds_6 : decode cX12_heightByRounds 6 = .ok (.iload_n 1, 1) := by decide +kernel
theorem dX12_heightByRounds_7 : decode cX12_heightByRounds 7 = .ok (.invokevirtual 159, 3) := by decide +kernel
theorem dX12_heightByRounds_10 : decode cX12_heightByRounds 10 = .ok (.aload_n 0, 1) := by decide +kernel
theorem dX12_heightByRounds_11 : decode cX12_heightByRounds 11 = .ok (.getfield 57, 3) := by decide +kernel
theorem dX12_heightByRounds_14 : decode cX12_heightByRounds 14 = .ok (.iload_n 1, 1) := by decide +kernel
theorem dX12_heightByRounds_15 : decode cX12_heightByRounds 15 = .ok (.invokevirtual 166, 3) := by decide +kernel
theorem dX12_heightByRounds_18 : decode cX12_heightByRounds 18 = .ok (.ireturn, 1) := by decide +kernel
theorem dX12_closingError_0 : decode cX12_closingError 0 = .ok (.aload_n 0, 1) := by decide +kernel
theorem dX12_closingError_1 : decode cX12_closingError 1 = .ok (.iload_n 1, 1) := by decide +kernel
theorem dX12_closingError_2 : decode cX12_closingError 2 = .ok (.invokevirtual 144, 3) := by decide +kernel
theorem dX12_closingError_5 : decode cX12_closingError 5 = .ok (.aload_n 0, 1) := by decide +kernel
theorem dX12_closingError_6 : decode cX12_closingError 6 = .ok (.getfield 10, 3) := by decide +kernel
theorem dX12_closingError_9 : decode cX12_closingError 9 = .ok (.getfield 148, 3) := by decide +kernel
theorem dX12_closingError_12 : decode cX12_closingError 12 = .ok (.iload_n 1, 1) := by decide +kernel
theorem dX12_closingError_13 : decode cX12_closingError 13 = .ok (.baload, 1) := by decide +kernel
theorem dX12_closingError_14 : decode cX12_closingError 14 = .ok (.ifCond .ne 13, 3) := by decide +kernel
theorem dX12_closingError_17 : decode cX12_closingError 17 = .ok (.new 169, 3) := by decide +kernel
theorem dX12_closingError_20 : decode cX12_closingError 20 = .ok (.dup, 1) := by decide +kernel
theorem dX12_closingError_21 : decode cX12_closingError 21 = .ok (.ldc 171, 2) := by decide +kernel
theorem dX12_closingError_23 : decode cX12_closingError 23 = .ok (.invokespecial 173, 3) := by decide +kernel
theorem dX12_closingError_26 : decode cX12_closingError 26 = .ok (.athrow, 1) := by decide +kernel
theorem dX12_closingError_27 : decode cX12_closingError 27 = .ok (.aload_n 0, 1) := by decide +kernel
theorem dX12_closingError_28 : decode cX12_closingError 28 = .ok (.getfield 34, 3) := by decide +kernel
theorem dX12_closingError_31 : decode cX12_closingError 31 = .ok (.invokevirtual 152, 3) := by decide +kernel
theorem dX12_closingError_34 : decode cX12_closingError 34 = .ok (.aload_n 0, 1) := by decide +kernel
theorem dX12_closingError_35 : decode cX12_closingError 35 = .ok (.getfield 57, 3) := by decide +kernel
theorem dX12_closingError_38 : decode cX12_closingError 38 = .ok (.iload_n 1, 1) := by decide +kernel
theorem dX12_closingError_39 : decode cX12_closingError 39 = .ok (.invokevirtual 176, 3) := by decide +kernel
theorem dX12_closingError_42 : decode cX12_closingError 42 = .ok (.aload_n 0, 1) := by decide +kernel
theorem dX12_closingError_43 : decode cX12_closingError 43 = .ok (.getfield 10, 3) := by decide +kernel
theorem dX12_closingError_46 : decode cX12_closingError 46 = .ok (.getfield 179, 3) := by decide +kernel
theorem dX12_closingError_49 : decode cX12_closingError 49 = .ok (.iload_n 1, 1) := by decide +kernel
theorem dX12_closingError_50 : decode cX12_closingError 50 = .ok (.iaload, 1) := by decide +kernel
theorem dX12_closingError_51 : decode cX12_closingError 51 = .ok (.isub, 1) := by decide +kernel
theorem dX12_closingError_52 : decode cX12_closingError 52 = .ok (.ireturn, 1) := by decide +kernel
theorem dX12_datum_0 : decode cX12_datum 0 = .ok (.aload_n 0, 1) := by decide +kernel
theorem dX12_datum_1 : decode cX12_datum 1 = .ok (.iload_n 1, 1) := by decide +kernel
theorem dX12_datum_2 : decode cX12_datum 2 = .ok (.invokevirtual 144, 3) := by decide +kernel
theorem dX12_datum_5 : decode cX12_datum 5 = .ok (.aload_n 0, 1) := by decide +kernel
theorem dX12_datum_6 : decode cX12_datum 6 = .ok (.getfield 34, 3) := by decide +kernel
theorem dX12_datum_9 : decode cX12_datum 9 = .ok (.invokevirtual 152, 3) := by decide +kernel
theorem dX12_datum_12 : decode cX12_datum 12 = .ok (.aload_n 0, 1) := by decide +kernel
theorem dX12_datum_13 : decode cX12_datum 13 = .ok (.getfield 57, 3) := by decide +kernel
theorem dX12_datum_16 : decode cX12_datum 16 = .ok (.iload_n 1, 1) := by decide +kernel
theorem dX12_datum_17 : decode cX12_datum 17 = .ok (.invokevirtual 183, 3) := by decide +kernel
theorem dX12_datum_20 : decode cX12_datum 20 = .ok (.istore_n 2, 1) := by decide +kernel
theorem dX12_datum_21 : decode cX12_datum 21 = .ok (.iload_n 2, 1) := by decide +kernel
theorem dX12_datum_22 : decode cX12_datum 22 = .ok (.iconst (-1), 1) := by decide +kernel
theorem dX12_datum_23 : decode cX12_datum 23 = .ok (.if_icmp .ne 13, 3) := by decide +kernel
theorem dX12_datum_26 : decode cX12_datum 26 = .ok (.new 169, 3) := by decide +kernel
theorem dX12_datum_29 : decode cX12_datum 29 = .ok (.dup, 1) := by decide +kernel
theorem dX12_datum_30 : decode cX12_datum 30 = .ok (.ldc 186, 2) := by decide +kernel
theorem dX12_datum_32 : decode cX12_datum 32 = .ok (.invokespecial 173, 3) := by decide +kernel
theorem dX12_datum_35 : decode cX12_datum 35 = .ok (.athrow, 1) := by decide +kernel
theorem dX12_datum_36 : decode cX12_datum 36 = .ok (.iload_n 2, 1) := by decide +kernel
theorem dX12_datum_37 : decode cX12_datum 37 = .ok (.ireturn, 1) := by decide +kernel
theorem dX12_benchmarkByHeight_0 : decode cX12_benchmarkByHeight 0 = .ok (.aload_n 0, 1) := by decide +kernel
theorem dX12_benchmarkByHeight_1 : decode cX12_benchmarkByHeight 1 = .ok (.getfield 34, 3) := by decide +kernel
theorem dX12_benchmarkByHeight_4 : decode cX12_benchmarkByHeight 4 = .ok (.invokevirtual 152, 3) := by decide +kernel
theorem dX12_benchmarkByHeight_7 : decode cX12_benchmarkByHeight 7 = .ok (.aload_n 0, 1) := by decide +kernel
theorem dX12_benchmarkByHeight_8 : decode cX12_benchmarkByHeight 8 = .ok (.getfield 57, 3) := by decide +kernel
theorem dX12_benchmarkByHeight_11 : decode cX12_benchmarkByHeight 11 = .ok (.iload_n 1, 1) := by decide +kernel
theorem dX12_benchmarkByHeight_12 : decode cX12_benchmarkByHeight 12 = .ok (.invokevirtual 188, 3) := by decide +kernel
theorem dX12_benchmarkByHeight_15 : decode cX12_benchmarkByHeight 15 = .ok (.istore_n 2, 1) := by decide +kernel
theorem dX12_benchmarkByHeight_16 : decode cX12_benchmarkByHeight 16 = .ok (.iload_n 2, 1) := by decide +kernel
theorem dX12_benchmarkByHeight_17 : decode cX12_benchmarkByHeight 17 = .ok (.iconst (-1), 1) := by decide +kernel
theorem dX12_benchmarkByHeight_18 : decode cX12_benchmarkByHeight 18 = .ok (.if_icmp .ne 13, 3) := by decide +kernel
theorem dX12_benchmarkByHeight_21 : decode cX12_benchmarkByHeight 21 = .ok (.new 169, 3) := by decide +kernel
theorem dX12_benchmarkByHeight_24 : decode cX12_benchmarkByHeight 24 = .ok (.dup, 1) := by decide +kernel
theorem dX12_benchmarkByHeight_25 : decode cX12_benchmarkByHeight 25 = .ok (.ldc 191, 2) := by decide +kernel
theorem dX12_benchmarkByHeight_27 : decode cX12_benchmarkByHeight 27 = .ok (.invokespecial 173, 3) := by decide +kernel
theorem dX12_benchmarkByHeight_30 : decode cX12_benchmarkByHeight 30 = .ok (.athrow, 1) := by decide +kernel
theorem dX12_benchmarkByHeight_31 : decode cX12_benchmarkByHeight 31 = .ok (.iload_n 2, 1) := by decide +kernel
theorem dX12_benchmarkByHeight_32 : decode cX12_benchmarkByHeight 32 = .ok (.ireturn, 1) := by decide +kernel
theorem dX12_lineCount_0 : decode cX12_lineCount 0 = .ok (.aload_n 0, 1) := by decide +kernel
theorem dX12_lineCount_1 : decode cX12_lineCount 1 = .ok (.getfield 10, 3) := by decide +kernel
theorem dX12_lineCount_4 : decode cX12_lineCount 4 = .ok (.getfield 193, 3) := by decide +kernel
theorem dX12_lineCount_7 : decode cX12_lineCount 7 = .ok (.ireturn, 1) := by decide +kernel
theorem dX12_firstOf_0 : decode cX12_firstOf 0 = .ok (.aload_n 0, 1) := by decide +kernel
theorem dX12_firstOf_1 : decode cX12_firstOf 1 = .ok (.iload_n 1, 1) := by decide +kernel
theorem dX12_firstOf_2 : decode cX12_firstOf 2 = .ok (.invokevirtual 196, 3) := by decide +kernel
theorem dX12_firstOf_5 : decode cX12_firstOf 5 = .ok (.aload_n 0, 1) := by decide +kernel
theorem dX12_firstOf_6 : decode cX12_firstOf 6 = .ok (.getfield 10, 3) := by decide +kernel
theorem dX12_firstOf_9 : decode cX12_firstOf 9 = .ok (.getfield 199, 3) := by decide +kernel
theorem dX12_firstOf_12 : decode cX12_firstOf 12 = .ok (.iload_n 1, 1) := by decide +kernel
theorem dX12_firstOf_13 : decode cX12_firstOf 13 = .ok (.iaload, 1) := by decide +kernel
theorem dX12_firstOf_14 : decode cX12_firstOf 14 = .ok (.ireturn, 1) := by decide +kernel
theorem dX12_secondOf_0 : decode cX12_secondOf 0 = .ok (.aload_n 0, 1) := by decide +kernel
theorem dX12_secondOf_1 : decode cX12_secondOf 1 = .ok (.iload_n 1, 1) := by decide +kernel
theorem dX12_secondOf_2 : decode cX12_secondOf 2 = .ok (.invokevirtual 196, 3) := by decide +kernel
theorem dX12_secondOf_5 : decode cX12_secondOf 5 = .ok (.aload_n 0, 1) := by decide +kernel
theorem dX12_secondOf_6 : decode cX12_secondOf 6 = .ok (.getfield 10, 3) := by decide +kernel
theorem dX12_secondOf_9 : decode cX12_secondOf 9 = .ok (.getfield 202, 3) := by decide +kernel
theorem dX12_secondOf_12 : decode cX12_secondOf 12 = .ok (.iload_n 1, 1) := by decide +kernel
theorem dX12_secondOf_13 : decode cX12_secondOf 13 = .ok (.iaload, 1) := by decide +kernel
theorem dX12_secondOf_14 : decode cX12_secondOf 14 = .ok (.ireturn, 1) := by decide +kernel
theorem dX12_lengthOf_0 : decode cX12_lengthOf 0 = .ok (.aload_n 0, 1) := by decide +kernel
theorem dX12_lengthOf_1 : decode cX12_lengthOf 1 = .ok (.iload_n 1, 1) := by decide +kernel
theorem dX12_lengthOf_2 : decode cX12_lengthOf 2 = .ok (.invokevirtual 196, 3) := by decide +kernel
theorem dX12_lengthOf_5 : decode cX12_lengthOf 5 = .ok (.aload_n 0, 1) := by decide +kernel
theorem dX12_lengthOf_6 : decode cX12_lengthOf 6 = .ok (.getfield 10, 3) := by decide +kernel
theorem dX12_lengthOf_9 : decode cX12_lengthOf 9 = .ok (.getfield 205, 3) := by decide +kernel
theorem dX12_lengthOf_12 : decode cX12_lengthOf 12 = .ok (.iload_n 1, 1) := by decide +kernel
theorem dX12_lengthOf_13 : decode cX12_lengthOf 13 = .ok (.iaload, 1) := by decide +kernel
theorem dX12_lengthOf_14 : decode cX12_lengthOf 14 = .ok (.ireturn, 1) := by decide +kernel
theorem dX12_levelledDifference_0 : decode cX12_levelledDifference 0 = .ok (.aload_n 0, 1) := by decide +kernel
theorem dX12_levelledDifference_1 : decode cX12_levelledDifference 1 = .ok (.iload_n 1, 1) := by decide +kernel
theorem dX12_levelledDifference_2 : decode cX12_levelledDifference 2 = .ok (.invokevirtual 196, 3) := by decide +kernel
theorem dX12_levelledDifference_5 : decode cX12_levelledDifference 5 = .ok (.aload_n 0, 1) := by decide +kernel
theorem dX12_levelledDifference_6 : decode cX12_levelledDifference 6 = .ok (.getfield 10, 3) := by decide +kernel
theorem dX12_levelledDifference_9 : decode cX12_levelledDifference 9 = .ok (.iload_n 1, 1) := by decide +kernel
theorem dX12_levelledDifference_10 : decode cX12_levelledDifference 10 = .ok (.invokevirtual 208, 3) := by decide +kernel
theorem dX12_levelledDifference_13 : decode cX12_levelledDifference 13 = .ok (.ireturn, 1) := by decide +kernel
theorem dX12_correction_0 : decode cX12_correction 0 = .ok (.aload_n 0, 1) := by decide +kernel
theorem dX12_correction_1 : decode cX12_correction 1 = .ok (.iload_n 1, 1) := by decide +kernel
theorem dX12_correction_2 : decode cX12_correction 2 = .ok (.invokevirtual 196, 3) := by decide +kernel
theorem dX12_correction_5 : decode cX12_correction 5 = .ok (.aload_n 0, 1) := by decide +kernel
theorem dX12_correction_6 : decode cX12_correction 6 = .ok (.getfield 10, 3) := by decide +kernel
theorem dX12_correction_9 : decode cX12_correction 9 = .ok (.getfield 211, 3) := by decide +kernel
theorem dX12_correction_12 : decode cX12_correction 12 = .ok (.iload_n 1, 1) := by decide +kernel
theorem dX12_correction_13 : decode cX12_correction 13 = .ok (.iaload, 1) := by decide +kernel
theorem dX12_correction_14 : decode cX12_correction 14 = .ok (.ireturn, 1) := by decide +kernel
theorem dX12_discrepancy_0 : decode cX12_discrepancy 0 = .ok (.aload_n 0, 1) := by decide +kernel
theorem dX12_discrepancy_1 : decode cX12_discrepancy 1 = .ok (.iload_n 1, 1) := by decide +kernel
theorem dX12_discrepancy_2 : decode cX12_discrepancy 2 = .ok (.invokevirtual 196, 3) := by decide +kernel
theorem dX12_discrepancy_5 : decode cX12_discrepancy 5 = .ok (.aload_n 0, 1) := by decide +kernel
theorem dX12_discrepancy_6 : decode cX12_discrepancy 6 = .ok (.getfield 10, 3) := by decide +kernel
theorem dX12_discrepancy_9 : decode cX12_discrepancy 9 = .ok (.getfield 214, 3) := by decide +kernel
theorem dX12_discrepancy_12 : decode cX12_discrepancy 12 = .ok (.iload_n 1, 1) := by decide +kernel
theorem dX12_discrepancy_13 : decode cX12_discrepancy 13 = .ok (.baload, 1) := by decide +kernel
theorem dX12_discrepancy_14 : decode cX12_discrepancy 14 = .ok (.ifCond .ne 13, 3) := by decide +kernel
theorem dX12_discrepancy_17 : decode cX12_discrepancy 17 = .ok (.new 169, 3) := by decide +kernel
theorem dX12_discrepancy_20 : decode cX12_discrepancy 20 = .ok (.dup, 1) := by decide +kernel
theorem dX12_discrepancy_21 : decode cX12_discrepancy 21 = .ok (.ldc 217, 2) := by decide +kernel
theorem dX12_discrepancy_23 : decode cX12_discrepancy 23 = .ok (.invokespecial 173, 3) := by decide +kernel
theorem dX12_discrepancy_26 : decode cX12_discrepancy 26 = .ok (.athrow, 1) := by decide +kernel
theorem dX12_discrepancy_27 : decode cX12_discrepancy 27 = .ok (.aload_n 0, 1) := by decide +kernel
theorem dX12_discrepancy_28 : decode cX12_discrepancy 28 = .ok (.getfield 10, 3) := by decide +kernel
theorem dX12_discrepancy_31 : decode cX12_discrepancy 31 = .ok (.iload_n 1, 1) := by decide +kernel
theorem dX12_discrepancy_32 : decode cX12_discrepancy 32 = .ok (.invokevirtual 219, 3) := by decide +kernel
theorem dX12_discrepancy_35 : decode cX12_discrepancy 35 = .ok (.ireturn, 1) := by decide +kernel
theorem dX12_isExcluded_0 : decode cX12_isExcluded 0 = .ok (.aload_n 0, 1) := by decide +kernel
theorem dX12_isExcluded_1 : decode cX12_isExcluded 1 = .ok (.iload_n 1, 1) := by decide +kernel
theorem dX12_isExcluded_2 : decode cX12_isExcluded 2 = .ok (.invokevirtual 196, 3) := by decide +kernel
theorem dX12_isExcluded_5 : decode cX12_isExcluded 5 = .ok (.aload_n 0, 1) := by decide +kernel
theorem dX12_isExcluded_6 : decode cX12_isExcluded 6 = .ok (.getfield 10, 3) := by decide +kernel
theorem dX12_isExcluded_9 : decode cX12_isExcluded 9 = .ok (.getfield 222, 3) := by decide +kernel
theorem dX12_isExcluded_12 : decode cX12_isExcluded 12 = .ok (.iload_n 1, 1) := by decide +kernel
theorem dX12_isExcluded_13 : decode cX12_isExcluded 13 = .ok (.baload, 1) := by decide +kernel
theorem dX12_isExcluded_14 : decode cX12_isExcluded 14 = .ok (.ireturn, 1) := by decide +kernel
theorem dX12_isUsable_0 : decode cX12_isUsable 0 = .ok (.aload_n 0, 1) := by decide +kernel
theorem dX12_isUsable_1 : decode cX12_isUsable 1 = .ok (.iload_n 1, 1) := by decide +kernel
theorem dX12_isUsable_2 : decode cX12_isUsable 2 = .ok (.invokevirtual 196, 3) := by decide +kernel
theorem dX12_isUsable_5 : decode cX12_isUsable 5 = .ok (.aload_n 0, 1) := by decide +kernel
theorem dX12_isUsable_6 : decode cX12_isUsable 6 = .ok (.getfield 10, 3) := by decide +kernel
theorem dX12_isUsable_9 : decode cX12_isUsable 9 = .ok (.iload_n 1, 1) := by decide +kernel
theorem dX12_isUsable_10 : decode cX12_isUsable 10 = .ok (.invokevirtual 225, 3) := by decide +kernel
theorem dX12_isUsable_13 : decode cX12_isUsable 13 = .ok (.ireturn, 1) := by decide +kernel
theorem dX12_tolerance_0 : decode cX12_tolerance 0 = .ok (.iload_n 1, 1) := by decide +kernel
theorem dX12_tolerance_1 : decode cX12_tolerance 1 = .ok (.iconst 0, 1) := by decide +kernel
theorem dX12_tolerance_2 : decode cX12_tolerance 2 = .ok (.sipush 800, 3) := by decide +kernel
theorem dX12_tolerance_5 : decode cX12_tolerance 5 = .ok (.invokestatic 228, 3) := by decide +kernel
theorem dX12_tolerance_8 : decode cX12_tolerance 8 = .ok (.ifCond .ne 13, 3) := by decide +kernel
theorem dX12_tolerance_11 : decode cX12_tolerance 11 = .ok (.new 232, 3) := by decide +kernel
theorem dX12_tolerance_14 : decode cX12_tolerance 14 = .ok (.dup, 1) := by decide +kernel
theorem dX12_tolerance_15 : decode cX12_tolerance 15 = .ok (.ldc 234, 2) := by decide +kernel
theorem dX12_tolerance_17 : decode cX12_tolerance 17 = .ok (.invokespecial 236, 3) := by decide +kernel
theorem dX12_tolerance_20 : decode cX12_tolerance 20 = .ok (.athrow, 1) := by decide +kernel
theorem dX12_tolerance_21 : decode cX12_tolerance 21 = .ok (.iload_n 1, 1) := by decide +kernel
theorem dX12_tolerance_22 : decode cX12_tolerance 22 = .ok (.invokestatic 237, 3) := by decide +kernel
theorem dX12_tolerance_25 : decode cX12_tolerance 25 = .ok (.ireturn, 1) := by decide +kernel
theorem dX12_lineByDiscrepancy_0 : decode cX12_lineByDiscrepancy 0 = .ok (.aload_n 0, 1) := by decide +kernel
theorem dX12_lineByDiscrepancy_1 : decode cX12_lineByDiscrepancy 1 = .ok (.getfield 10, 3) := by decide +kernel
theorem dX12_lineByDiscrepancy_4 : decode cX12_lineByDiscrepancy 4 = .ok (.iload_n 1, 1) := by decide +kernel
theorem dX12_lineByDiscrepancy_5 : decode cX12_lineByDiscrepancy 5 = .ok (.invokevirtual 240, 3) := by decide +kernel
theorem dX12_lineByDiscrepancy_8 : decode cX12_lineByDiscrepancy 8 = .ok (.istore_n 2, 1) := by decide +kernel
theorem dX12_lineByDiscrepancy_9 : decode cX12_lineByDiscrepancy 9 = .ok (.iload_n 2, 1) := by decide +kernel
theorem dX12_lineByDiscrepancy_10 : decode cX12_lineByDiscrepancy 10 = .ok (.iconst (-1), 1) := by decide +kernel
theorem dX12_lineByDiscrepancy_11 : decode cX12_lineByDiscrepancy 11 = .ok (.if_icmp .ne 13, 3) := by decide +kernel
theorem dX12_lineByDiscrepancy_14 : decode cX12_lineByDiscrepancy 14 = .ok (.new 169, 3) := by decide +kernel
theorem dX12_lineByDiscrepancy_17 : decode cX12_lineByDiscrepancy 17 = .ok (.dup, 1) := by decide +kernel
theorem dX12_lineByDiscrepancy_18 : decode cX12_lineByDiscrepancy 18 = .ok (.ldc 191, 2) := by decide +kernel
theorem dX12_lineByDiscrepancy_20 : decode cX12_lineByDiscrepancy 20 = .ok (.invokespecial 173, 3) := by decide +kernel
theorem dX12_lineByDiscrepancy_23 : decode cX12_lineByDiscrepancy 23 = .ok (.athrow, 1) := by decide +kernel
theorem dX12_lineByDiscrepancy_24 : decode cX12_lineByDiscrepancy 24 = .ok (.iload_n 2, 1) := by decide +kernel
theorem dX12_lineByDiscrepancy_25 : decode cX12_lineByDiscrepancy 25 = .ok (.ireturn, 1) := by decide +kernel
theorem dX12_forestLength_0 : decode cX12_forestLength 0 = .ok (.aload_n 0, 1) := by decide +kernel
theorem dX12_forestLength_1 : decode cX12_forestLength 1 = .ok (.getfield 34, 3) := by decide +kernel
theorem dX12_forestLength_4 : decode cX12_forestLength 4 = .ok (.invokevirtual 152, 3) := by decide +kernel
theorem dX12_forestLength_7 : decode cX12_forestLength 7 = .ok (.aload_n 0, 1) := by decide +kernel
theorem dX12_forestLength_8 : decode cX12_forestLength 8 = .ok (.getfield 34, 3) := by decide +kernel
theorem dX12_forestLength_11 : decode cX12_forestLength 11 = .ok (.invokevirtual 246, 3) := by decide +kernel
theorem dX12_forestLength_14 : decode cX12_forestLength 14 = .ok (.ireturn, 1) := by decide +kernel
theorem dX12_forestLengthByGrowing_0 : decode cX12_forestLengthByGrowing 0 = .ok (.aload_n 0, 1) := by decide +kernel
theorem dX12_forestLengthByGrowing_1 : decode cX12_forestLengthByGrowing 1 = .ok (.getfield 34, 3) := by decide +kernel
theorem dX12_forestLengthByGrowing_4 : decode cX12_forestLengthByGrowing 4 = .ok (.invokevirtual 152, 3) := by decide +kernel
theorem dX12_forestLengthByGrowing_7 : decode cX12_forestLengthByGrowing 7 = .ok (.aload_n 0, 1) := by decide +kernel
theorem dX12_forestLengthByGrowing_8 : decode cX12_forestLengthByGrowing 8 = .ok (.getfield 34, 3) := by decide +kernel
theorem dX12_forestLengthByGrowing_11 : decode cX12_forestLengthByGrowing 11 = .ok (.invokevirtual 250, 3) := by decide +kernel
theorem dX12_forestLengthByGrowing_14 : decode cX12_forestLengthByGrowing 14 = .ok (.ireturn, 1) := by decide +kernel
theorem dX12_treeCount_0 : decode cX12_treeCount 0 = .ok (.aload_n 0, 1) := by decide +kernel
theorem dX12_treeCount_1 : decode cX12_treeCount 1 = .ok (.getfield 34, 3) := by decide +kernel
theorem dX12_treeCount_4 : decode cX12_treeCount 4 = .ok (.invokevirtual 152, 3) := by decide +kernel
theorem dX12_treeCount_7 : decode cX12_treeCount 7 = .ok (.aload_n 0, 1) := by decide +kernel
theorem dX12_treeCount_8 : decode cX12_treeCount 8 = .ok (.getfield 34, 3) := by decide +kernel
theorem dX12_treeCount_11 : decode cX12_treeCount 11 = .ok (.invokevirtual 253, 3) := by decide +kernel
theorem dX12_treeCount_14 : decode cX12_treeCount 14 = .ok (.ireturn, 1) := by decide +kernel
theorem dX12_loopCount_0 : decode cX12_loopCount 0 = .ok (.aload_n 0, 1) := by decide +kernel
theorem dX12_loopCount_1 : decode cX12_loopCount 1 = .ok (.getfield 34, 3) := by decide +kernel
theorem dX12_loopCount_4 : decode cX12_loopCount 4 = .ok (.invokevirtual 152, 3) := by decide +kernel
theorem dX12_loopCount_7 : decode cX12_loopCount 7 = .ok (.aload_n 0, 1) := by decide +kernel
theorem dX12_loopCount_8 : decode cX12_loopCount 8 = .ok (.getfield 34, 3) := by decide +kernel
theorem dX12_loopCount_11 : decode cX12_loopCount 11 = .ok (.invokevirtual 256, 3) := by decide +kernel
theorem dX12_loopCount_14 : decode cX12_loopCount 14 = .ok (.ireturn, 1) := by decide +kernel
theorem dX12_loopAt_0 : decode cX12_loopAt 0 = .ok (.aload_n 0, 1) := by decide +kernel
theorem dX12_loopAt_1 : decode cX12_loopAt 1 = .ok (.getfield 34, 3) := by decide +kernel
theorem dX12_loopAt_4 : decode cX12_loopAt 4 = .ok (.invokevirtual 152, 3) := by decide +kernel
theorem dX12_loopAt_7 : decode cX12_loopAt 7 = .ok (.aload_n 0, 1) := by decide +kernel
theorem dX12_loopAt_8 : decode cX12_loopAt 8 = .ok (.getfield 34, 3) := by decide +kernel
theorem dX12_loopAt_11 : decode cX12_loopAt 11 = .ok (.iload_n 1, 1) := by decide +kernel
theorem dX12_loopAt_12 : decode cX12_loopAt 12 = .ok (.invokevirtual 259, 3) := by decide +kernel
theorem dX12_loopAt_15 : decode cX12_loopAt 15 = .ok (.istore_n 2, 1) := by decide +kernel
theorem dX12_loopAt_16 : decode cX12_loopAt 16 = .ok (.iload_n 2, 1) := by decide +kernel
theorem dX12_loopAt_17 : decode cX12_loopAt 17 = .ok (.iconst (-1), 1) := by decide +kernel
theorem dX12_loopAt_18 : decode cX12_loopAt 18 = .ok (.if_icmp .ne 14, 3) := by decide +kernel
theorem dX12_loopAt_21 : decode cX12_loopAt 21 = .ok (.new 169, 3) := by decide +kernel
theorem dX12_loopAt_24 : decode cX12_loopAt 24 = .ok (.dup, 1) := by decide +kernel
theorem dX12_loopAt_25 : decode cX12_loopAt 25 = .ok (.ldc_w 262, 3) := by decide +kernel
theorem dX12_loopAt_28 : decode cX12_loopAt 28 = .ok (.invokespecial 173, 3) := by decide +kernel
theorem dX12_loopAt_31 : decode cX12_loopAt 31 = .ok (.athrow, 1) := by decide +kernel
theorem dX12_loopAt_32 : decode cX12_loopAt 32 = .ok (.iload_n 2, 1) := by decide +kernel
theorem dX12_loopAt_33 : decode cX12_loopAt 33 = .ok (.ireturn, 1) := by decide +kernel
theorem dX12_loopSize_0 : decode cX12_loopSize 0 = .ok (.aload_n 0, 1) := by decide +kernel
theorem dX12_loopSize_1 : decode cX12_loopSize 1 = .ok (.iload_n 1, 1) := by decide +kernel
theorem dX12_loopSize_2 : decode cX12_loopSize 2 = .ok (.invokevirtual 196, 3) := by decide +kernel
theorem dX12_loopSize_5 : decode cX12_loopSize 5 = .ok (.aload_n 0, 1) := by decide +kernel
theorem dX12_loopSize_6 : decode cX12_loopSize 6 = .ok (.iload_n 1, 1) := by decide +kernel
theorem dX12_loopSize_7 : decode cX12_loopSize 7 = .ok (.invokevirtual 264, 3) := by decide +kernel
theorem dX12_loopSize_10 : decode cX12_loopSize 10 = .ok (.aload_n 0, 1) := by decide +kernel
theorem dX12_loopSize_11 : decode cX12_loopSize 11 = .ok (.getfield 43, 3) := by decide +kernel
theorem dX12_loopSize_14 : decode cX12_loopSize 14 = .ok (.getfield 267, 3) := by decide +kernel
theorem dX12_loopSize_17 : decode cX12_loopSize 17 = .ok (.ireturn, 1) := by decide +kernel
theorem dX12_loopLength_0 : decode cX12_loopLength 0 = .ok (.aload_n 0, 1) := by decide +kernel
theorem dX12_loopLength_1 : decode cX12_loopLength 1 = .ok (.iload_n 1, 1) := by decide +kernel
theorem dX12_loopLength_2 : decode cX12_loopLength 2 = .ok (.invokevirtual 196, 3) := by decide +kernel
theorem dX12_loopLength_5 : decode cX12_loopLength 5 = .ok (.aload_n 0, 1) := by decide +kernel
theorem dX12_loopLength_6 : decode cX12_loopLength 6 = .ok (.iload_n 1, 1) := by decide +kernel
theorem dX12_loopLength_7 : decode cX12_loopLength 7 = .ok (.invokevirtual 264, 3) := by decide +kernel
theorem dX12_loopLength_10 : decode cX12_loopLength 10 = .ok (.aload_n 0, 1) := by decide +kernel
theorem dX12_loopLength_11 : decode cX12_loopLength 11 = .ok (.getfield 43, 3) := by decide +kernel
theorem dX12_loopLength_14 : decode cX12_loopLength 14 = .ok (.invokevirtual 270, 3) := by decide +kernel
theorem dX12_loopLength_17 : decode cX12_loopLength 17 = .ok (.ireturn, 1) := by decide +kernel
theorem dX12_misclosure_0 : decode cX12_misclosure 0 = .ok (.aload_n 0, 1) := by decide +kernel
theorem dX12_misclosure_1 : decode cX12_misclosure 1 = .ok (.iload_n 1, 1) := by decide +kernel
theorem dX12_misclosure_2 : decode cX12_misclosure 2 = .ok (.invokevirtual 196, 3) := by decide +kernel
theorem dX12_misclosure_5 : decode cX12_misclosure 5 = .ok (.aload_n 0, 1) := by decide +kernel
theorem dX12_misclosure_6 : decode cX12_misclosure 6 = .ok (.iload_n 1, 1) := by decide +kernel
theorem dX12_misclosure_7 : decode cX12_misclosure 7 = .ok (.invokevirtual 264, 3) := by decide +kernel
theorem dX12_misclosure_10 : decode cX12_misclosure 10 = .ok (.aload_n 0, 1) := by decide +kernel
theorem dX12_misclosure_11 : decode cX12_misclosure 11 = .ok (.getfield 43, 3) := by decide +kernel
theorem dX12_misclosure_14 : decode cX12_misclosure 14 = .ok (.invokevirtual 273, 3) := by decide +kernel
theorem dX12_misclosure_17 : decode cX12_misclosure 17 = .ok (.ireturn, 1) := by decide +kernel
theorem dX12_misclosureByLevels_0 : decode cX12_misclosureByLevels 0 = .ok (.aload_n 0, 1) := by decide +kernel
theorem dX12_misclosureByLevels_1 : decode cX12_misclosureByLevels 1 = .ok (.iload_n 1, 1) := by decide +kernel
theorem dX12_misclosureByLevels_2 : decode cX12_misclosureByLevels 2 = .ok (.invokevirtual 196, 3) := by decide +kernel
theorem dX12_misclosureByLevels_5 : decode cX12_misclosureByLevels 5 = .ok (.aload_n 0, 1) := by decide +kernel
theorem dX12_misclosureByLevels_6 : decode cX12_misclosureByLevels 6 = .ok (.iload_n 1, 1) := by decide +kernel
theorem dX12_misclosureByLevels_7 : decode cX12_misclosureByLevels 7 = .ok (.invokevirtual 264, 3) := by decide +kernel
theorem dX12_misclosureByLevels_10 : decode cX12_misclosureByLevels 10 = .ok (.aload_n 0, 1) := by decide +kernel
theorem dX12_misclosureByLevels_11 : decode cX12_misclosureByLevels 11 = .ok (.getfield 57, 3) := by decide +kernel
theorem dX12_misclosureByLevels_14 : decode cX12_misclosureByLevels 14 = .ok (.iload_n 1, 1) := by decide +kernel
theorem dX12_misclosureByLevels_15 : decode cX12_misclosureByLevels 15 = .ok (.invokevirtual 276, 3) := by decide +kernel
theorem dX12_misclosureByLevels_18 : decode cX12_misclosureByLevels 18 = .ok (.ireturn, 1) := by decide +kernel
theorem dX12_part_0 : decode cX12_part 0 = .ok (.aload_n 0, 1) := by decide +kernel
theorem dX12_part_1 : decode cX12_part 1 = .ok (.iload_n 1, 1) := by decide +kernel
theorem dX12_part_2 : decode cX12_part 2 = .ok (.invokevirtual 196, 3) := by decide +kernel
theorem dX12_part_5 : decode cX12_part 5 = .ok (.aload_n 0, 1) := by decide +kernel
theorem dX12_part_6 : decode cX12_part 6 = .ok (.iload_n 2, 1) := by decide +kernel
theorem dX12_part_7 : decode cX12_part 7 = .ok (.invokevirtual 196, 3) := by decide +kernel
theorem dX12_part_10 : decode cX12_part 10 = .ok (.aload_n 0, 1) := by decide +kernel
theorem dX12_part_11 : decode cX12_part 11 = .ok (.iload_n 1, 1) := by decide +kernel
theorem dX12_part_12 : decode cX12_part 12 = .ok (.invokevirtual 264, 3) := by decide +kernel
theorem dX12_part_15 : decode cX12_part 15 = .ok (.aload_n 0, 1) := by decide +kernel
theorem dX12_part_16 : decode cX12_part 16 = .ok (.getfield 50, 3) := by decide +kernel
theorem dX12_part_19 : decode cX12_part 19 = .ok (.aload_n 0, 1) := by decide +kernel
theorem dX12_part_20 : decode cX12_part 20 = .ok (.getfield 43, 3) := by decide +kernel
theorem dX12_part_23 : decode cX12_part 23 = .ok (.invokevirtual 279, 3) := by decide +kernel
theorem dX12_part_26 : decode cX12_part 26 = .ok (.aload_n 0, 1) := by decide +kernel
theorem dX12_part_27 : decode cX12_part 27 = .ok (.getfield 50, 3) := by decide +kernel
theorem dX12_part_30 : decode cX12_part 30 = .ok (.getfield 283, 3) := by decide +kernel
theorem dX12_part_33 : decode cX12_part 33 = .ok (.iload_n 2, 1) := by decide +kernel
theorem dX12_part_34 : decode cX12_part 34 = .ok (.iaload, 1) := by decide +kernel
theorem dX12_part_35 : decode cX12_part 35 = .ok (.ireturn, 1) := by decide +kernel
theorem dX12_profileCount_0 : decode cX12_profileCount 0 = .ok (.aload_n 0, 1) := by decide +kernel
theorem dX12_profileCount_1 : decode cX12_profileCount 1 = .ok (.getfield 10, 3) := by decide +kernel
theorem dX12_profileCount_4 : decode cX12_profileCount 4 = .ok (.getfield 286, 3) := by decide +kernel
theorem dX12_profileCount_7 : decode cX12_profileCount 7 = .ok (.ireturn, 1) := by decide +kernel
theorem dX12_stationCount_0 : decode cX12_stationCount 0 = .ok (.aload_n 0, 1) := by decide +kernel
theorem dX12_stationCount_1 : decode cX12_stationCount 1 = .ok (.iload_n 1, 1) := by decide +kernel
theorem dX12_stationCount_2 : decode cX12_stationCount 2 = .ok (.invokevirtual 289, 3) := by decide +kernel
theorem dX12_stationCount_5 : decode cX12_stationCount 5 = .ok (.aload_n 0, 1) := by decide +kernel
theorem dX12_stationCount_6 : decode cX12_stationCount 6 = .ok (.getfield 10, 3) := by decide +kernel
theorem dX12_stationCount_9 : decode cX12_stationCount 9 = .ok (.getfield 292, 3) := by decide +kernel
theorem dX12_stationCount_12 : decode cX12_stationCount 12 = .ok (.iload_n 1, 1) := by decide +kernel
theorem dX12_stationCount_13 : decode cX12_stationCount 13 = .ok (.iaload, 1) := by decide +kernel
theorem dX12_stationCount_14 : decode cX12_stationCount 14 = .ok (.ireturn, 1) := by decide +kernel
theorem dX12_waterLevel_0 : decode cX12_waterLevel 0 = .ok (.aload_n 0, 1) := by decide +kernel
theorem dX12_waterLevel_1 : decode cX12_waterLevel 1 = .ok (.getfield 10, 3) := by decide +kernel
theorem dX12_waterLevel_4 : decode cX12_waterLevel 4 = .ok (.getfield 295, 3) := by decide +kernel
theorem dX12_waterLevel_7 : decode cX12_waterLevel 7 = .ok (.ireturn, 1) := by decide +kernel
theorem dX12_ground_0 : decode cX12_ground 0 = .ok (.aload_n 0, 1) := by decide +kernel
theorem dX12_ground_1 : decode cX12_ground 1 = .ok (.iload_n 1, 1) := by decide +kernel
theorem dX12_ground_2 : decode cX12_ground 2 = .ok (.invokevirtual 289, 3) := by decide +kernel
theorem dX12_ground_5 : decode cX12_ground 5 = .ok (.aload_n 0, 1) := by decide +kernel
theorem dX12_ground_6 : decode cX12_ground 6 = .ok (.getfield 64, 3) := by decide +kernel
theorem dX12_ground_9 : decode cX12_ground 9 = .ok (.iload_n 1, 1) := by decide +kernel
theorem dX12_ground_10 : decode cX12_ground 10 = .ok (.iload_n 2, 1) := by decide +kernel
theorem dX12_ground_11 : decode cX12_ground 11 = .ok (.invokevirtual 298, 3) := by decide +kernel
theorem dX12_ground_14 : decode cX12_ground 14 = .ok (.ifCond .ne 14, 3) := by decide +kernel
theorem dX12_ground_17 : decode cX12_ground 17 = .ok (.new 232, 3) := by decide +kernel
theorem dX12_ground_20 : decode cX12_ground 20 = .ok (.dup, 1) := by decide +kernel
theorem dX12_ground_21 : decode cX12_ground 21 = .ok (.ldc_w 302, 3) := by decide +kernel
theorem dX12_ground_24 : decode cX12_ground 24 = .ok (.invokespecial 236, 3) := by decide +kernel
theorem dX12_ground_27 : decode cX12_ground 27 = .ok (.athrow, 1) := by decide +kernel
theorem dX12_ground_28 : decode cX12_ground 28 = .ok (.aload_n 0, 1) := by decide +kernel
theorem dX12_ground_29 : decode cX12_ground 29 = .ok (.aload_n 0, 1) := by decide +kernel
theorem dX12_ground_30 : decode cX12_ground 30 = .ok (.getfield 10, 3) := by decide +kernel
theorem dX12_ground_33 : decode cX12_ground 33 = .ok (.getfield 304, 3) := by decide +kernel
theorem dX12_ground_36 : decode cX12_ground 36 = .ok (.iload_n 1, 1) := by decide +kernel
theorem dX12_ground_37 : decode cX12_ground 37 = .ok (.iaload, 1) := by decide +kernel
theorem dX12_ground_38 : decode cX12_ground 38 = .ok (.invokevirtual 159, 3) := by decide +kernel
theorem dX12_ground_41 : decode cX12_ground 41 = .ok (.aload_n 0, 1) := by decide +kernel
theorem dX12_ground_42 : decode cX12_ground 42 = .ok (.getfield 57, 3) := by decide +kernel
theorem dX12_ground_45 : decode cX12_ground 45 = .ok (.aload_n 0, 1) := by decide +kernel
theorem dX12_ground_46 : decode cX12_ground 46 = .ok (.getfield 10, 3) := by decide +kernel
theorem dX12_ground_49 : decode cX12_ground 49 = .ok (.getfield 304, 3) := by decide +kernel
theorem dX12_ground_52 : decode cX12_ground 52 = .ok (.iload_n 1, 1) := by decide +kernel
theorem dX12_ground_53 : decode cX12_ground 53 = .ok (.iaload, 1) := by decide +kernel
theorem dX12_ground_54 : decode cX12_ground 54 = .ok (.invokevirtual 162, 3) := by decide +kernel
theorem dX12_ground_57 : decode cX12_ground 57 = .ok (.aload_n 0, 1) := by decide +kernel
theorem dX12_ground_58 : decode cX12_ground 58 = .ok (.getfield 64, 3) := by decide +kernel
theorem dX12_ground_61 : decode cX12_ground 61 = .ok (.iload_n 1, 1) := by decide +kernel
theorem dX12_ground_62 : decode cX12_ground 62 = .ok (.iload_n 2, 1) := by decide +kernel
theorem dX12_ground_63 : decode cX12_ground 63 = .ok (.invokevirtual 307, 3) := by decide +kernel
theorem dX12_ground_66 : decode cX12_ground 66 = .ok (.iadd, 1) := by decide +kernel
theorem dX12_ground_67 : decode cX12_ground 67 = .ok (.ireturn, 1) := by decide +kernel
theorem dX12_wetColumns_0 : decode cX12_wetColumns 0 = .ok (.aload_n 0, 1) := by decide +kernel
theorem dX12_wetColumns_1 : decode cX12_wetColumns 1 = .ok (.iload_n 1, 1) := by decide +kernel
theorem dX12_wetColumns_2 : decode cX12_wetColumns 2 = .ok (.invokevirtual 289, 3) := by decide +kernel
theorem dX12_wetColumns_5 : decode cX12_wetColumns 5 = .ok (.aload_n 0, 1) := by decide +kernel
theorem dX12_wetColumns_6 : decode cX12_wetColumns 6 = .ok (.aload_n 0, 1) := by decide +kernel
theorem dX12_wetColumns_7 : decode cX12_wetColumns 7 = .ok (.getfield 10, 3) := by decide +kernel
theorem dX12_wetColumns_10 : decode cX12_wetColumns 10 = .ok (.getfield 304, 3) := by decide +kernel
theorem dX12_wetColumns_13 : decode cX12_wetColumns 13 = .ok (.iload_n 1, 1) := by decide +kernel
theorem dX12_wetColumns_14 : decode cX12_wetColumns 14 = .ok (.iaload, 1) := by decide +kernel
theorem dX12_wetColumns_15 : decode cX12_wetColumns 15 = .ok (.invokevirtual 159, 3) := by decide +kernel
theorem dX12_wetColumns_18 : decode cX12_wetColumns 18 = .ok (.aload_n 0, 1) := by decide +kernel
theorem dX12_wetColumns_19 : decode cX12_wetColumns 19 = .ok (.getfield 64, 3) := by decide +kernel
theorem dX12_wetColumns_22 : decode cX12_wetColumns 22 = .ok (.iload_n 1, 1) := by decide +kernel
theorem dX12_wetColumns_23 : decode cX12_wetColumns 23 = .ok (.aload_n 0, 1) := by decide +kernel
theorem dX12_wetColumns_24 : decode cX12_wetColumns 24 = .ok (.iload_n 1, 1) := by decide +kernel
theorem dX12_wetColumns_25 : decode cX12_wetColumns 25 = .ok (.invokevirtual 311, 3) := by decide +kernel
theorem dX12_wetColumns_28 : decode cX12_wetColumns 28 = .ok (.invokevirtual 314, 3) := by decide +kernel
theorem dX12_wetColumns_31 : decode cX12_wetColumns 31 = .ok (.ireturn, 1) := by decide +kernel
theorem dX12_wetColumnsBySegments_0 : decode cX12_wetColumnsBySegments 0 = .ok (.aload_n 0, 1) := by decide +kernel
theorem dX12_wetColumnsBySegments_1 : decode cX12_wetColumnsBySegments 1 = .ok (.iload_n 1, 1) := by decide +kernel
theorem dX12_wetColumnsBySegments_2 : decode cX12_wetColumnsBySegments 2 = .ok (.invokevirtual 289, 3) := by decide +kernel
theorem dX12_wetColumnsBySegments_5 : decode cX12_wetColumnsBySegments 5 = .ok (.aload_n 0, 1) := by decide +kernel
theorem dX12_wetColumnsBySegments_6 : decode cX12_wetColumnsBySegments 6 = .ok (.aload_n 0, 1) := by decide +kernel
theorem dX12_wetColumnsBySegments_7 : decode cX12_wetColumnsBySegments 7 = .ok (.getfield 10, 3) := by decide +kernel
theorem dX12_wetColumnsBySegments_10 : decode cX12_wetColumnsBySegments 10 = .ok (.getfield 304, 3) := by decide +kernel
theorem dX12_wetColumnsBySegments_13 : decode cX12_wetColumnsBySegments 13 = .ok (.iload_n 1, 1) := by decide +kernel
theorem dX12_wetColumnsBySegments_14 : decode cX12_wetColumnsBySegments 14 = .ok (.iaload, 1) := by decide +kernel
theorem dX12_wetColumnsBySegments_15 : decode cX12_wetColumnsBySegments 15 = .ok (.invokevirtual 159, 3) := by decide +kernel
theorem dX12_wetColumnsBySegments_18 : decode cX12_wetColumnsBySegments 18 = .ok (.aload_n 0, 1) := by decide +kernel
theorem dX12_wetColumnsBySegments_19 : decode cX12_wetColumnsBySegments 19 = .ok (.getfield 64, 3) := by decide +kernel
theorem dX12_wetColumnsBySegments_22 : decode cX12_wetColumnsBySegments 22 = .ok (.iload_n 1, 1) := by decide +kernel
theorem dX12_wetColumnsBySegments_23 : decode cX12_wetColumnsBySegments 23 = .ok (.aload_n 0, 1) := by decide +kernel
theorem dX12_wetColumnsBySegments_24 : decode cX12_wetColumnsBySegments 24 = .ok (.iload_n 1, 1) := by decide +kernel
theorem dX12_wetColumnsBySegments_25 : decode cX12_wetColumnsBySegments 25 = .ok (.invokevirtual 311, 3) := by decide +kernel
theorem dX12_wetColumnsBySegments_28 : decode cX12_wetColumnsBySegments 28 = .ok (.invokevirtual 317, 3) := by decide +kernel
theorem dX12_wetColumnsBySegments_31 : decode cX12_wetColumnsBySegments 31 = .ok (.ireturn, 1) := by decide +kernel
theorem dX12_shores_0 : decode cX12_shores 0 = .ok (.aload_n 0, 1) := by decide +kernel
theorem dX12_shores_1 : decode cX12_shores 1 = .ok (.iload_n 1, 1) := by decide +kernel
theorem dX12_shores_2 : decode cX12_shores 2 = .ok (.invokevirtual 289, 3) := by decide +kernel
theorem dX12_shores_5 : decode cX12_shores 5 = .ok (.aload_n 0, 1) := by decide +kernel
theorem dX12_shores_6 : decode cX12_shores 6 = .ok (.aload_n 0, 1) := by decide +kernel
theorem dX12_shores_7 : decode cX12_shores 7 = .ok (.getfield 10, 3) := by decide +kernel
theorem dX12_shores_10 : decode cX12_shores 10 = .ok (.getfield 304, 3) := by decide +kernel
theorem dX12_shores_13 : decode cX12_shores 13 = .ok (.iload_n 1, 1) := by decide +kernel
theorem dX12_shores_14 : decode cX12_shores 14 = .ok (.iaload, 1) := by decide +kernel
theorem dX12_shores_15 : decode cX12_shores 15 = .ok (.invokevirtual 159, 3) := by decide +kernel
theorem dX12_shores_18 : decode cX12_shores 18 = .ok (.aload_n 0, 1) := by decide +kernel
theorem dX12_shores_19 : decode cX12_shores 19 = .ok (.getfield 64, 3) := by decide +kernel
theorem dX12_shores_22 : decode cX12_shores 22 = .ok (.iload_n 1, 1) := by decide +kernel
theorem dX12_shores_23 : decode cX12_shores 23 = .ok (.aload_n 0, 1) := by decide +kernel
theorem dX12_shores_24 : decode cX12_shores 24 = .ok (.iload_n 1, 1) := by decide +kernel
theorem dX12_shores_25 : decode cX12_shores 25 = .ok (.invokevirtual 311, 3) := by decide +kernel
theorem dX12_shores_28 : decode cX12_shores 28 = .ok (.invokevirtual 320, 3) := by decide +kernel
theorem dX12_shores_31 : decode cX12_shores 31 = .ok (.ireturn, 1) := by decide +kernel
theorem dX12_lowestColumn_0 : decode cX12_lowestColumn 0 = .ok (.aload_n 0, 1) := by decide +kernel
theorem dX12_lowestColumn_1 : decode cX12_lowestColumn 1 = .ok (.iload_n 1, 1) := by decide +kernel
theorem dX12_lowestColumn_2 : decode cX12_lowestColumn 2 = .ok (.invokevirtual 289, 3) := by decide +kernel
theorem dX12_lowestColumn_5 : decode cX12_lowestColumn 5 = .ok (.aload_n 0, 1) := by decide +kernel
theorem dX12_lowestColumn_6 : decode cX12_lowestColumn 6 = .ok (.getfield 10, 3) := by decide +kernel
theorem dX12_lowestColumn_9 : decode cX12_lowestColumn 9 = .ok (.getfield 292, 3) := by decide +kernel
theorem dX12_lowestColumn_12 : decode cX12_lowestColumn 12 = .ok (.iload_n 1, 1) := by decide +kernel
theorem dX12_lowestColumn_13 : decode cX12_lowestColumn 13 = .ok (.iaload, 1) := by decide +kernel
theorem dX12_lowestColumn_14 : decode cX12_lowestColumn 14 = .ok (.ifCond .ne 14, 3) := by decide +kernel
theorem dX12_lowestColumn_17 : decode cX12_lowestColumn 17 = .ok (.new 169, 3) := by decide +kernel
theorem dX12_lowestColumn_20 : decode cX12_lowestColumn 20 = .ok (.dup, 1) := by decide +kernel
theorem dX12_lowestColumn_21 : decode cX12_lowestColumn 21 = .ok (.ldc_w 323, 3) := by decide +kernel
theorem dX12_lowestColumn_24 : decode cX12_lowestColumn 24 = .ok (.invokespecial 173, 3) := by decide +kernel
theorem dX12_lowestColumn_27 : decode cX12_lowestColumn 27 = .ok (.athrow, 1) := by decide +kernel
theorem dX12_lowestColumn_28 : decode cX12_lowestColumn 28 = .ok (.aload_n 0, 1) := by decide +kernel
theorem dX12_lowestColumn_29 : decode cX12_lowestColumn 29 = .ok (.getfield 64, 3) := by decide +kernel
theorem dX12_lowestColumn_32 : decode cX12_lowestColumn 32 = .ok (.iload_n 1, 1) := by decide +kernel
theorem dX12_lowestColumn_33 : decode cX12_lowestColumn 33 = .ok (.invokevirtual 325, 3) := by decide +kernel
theorem dX12_lowestColumn_36 : decode cX12_lowestColumn 36 = .ok (.ireturn, 1) := by decide +kernel
theorem dX12_meanLength_0 : decode cX12_meanLength 0 = .ok (.aload_n 0, 1) := by decide +kernel
theorem dX12_meanLength_1 : decode cX12_meanLength 1 = .ok (.getfield 10, 3) := by decide +kernel
theorem dX12_meanLength_4 : decode cX12_meanLength 4 = .ok (.invokevirtual 328, 3) := by decide +kernel
theorem dX12_meanLength_7 : decode cX12_meanLength 7 = .ok (.istore_n 1, 1) := by decide +kernel
theorem dX12_meanLength_8 : decode cX12_meanLength 8 = .ok (.iload_n 1, 1) := by decide +kernel
theorem dX12_meanLength_9 : decode cX12_meanLength 9 = .ok (.ifCond .ne 14, 3) := by decide +kernel
theorem dX12_meanLength_12 : decode cX12_meanLength 12 = .ok (.new 331, 3) := by decide +kernel
theorem dX12_meanLength_15 : decode cX12_meanLength 15 = .ok (.dup, 1) := by decide +kernel
theorem dX12_meanLength_16 : decode cX12_meanLength 16 = .ok (.ldc_w 333, 3) := by decide +kernel
theorem dX12_meanLength_19 : decode cX12_meanLength 19 = .ok (.invokespecial 335, 3) := by decide +kernel
theorem dX12_meanLength_22 : decode cX12_meanLength 22 = .ok (.athrow, 1) := by decide +kernel
theorem dX12_meanLength_23 : decode cX12_meanLength 23 = .ok (.aload_n 0, 1) := by decide +kernel
theorem dX12_meanLength_24 : decode cX12_meanLength 24 = .ok (.getfield 10, 3) := by decide +kernel
theorem dX12_meanLength_27 : decode cX12_meanLength 27 = .ok (.invokevirtual 336, 3) := by decide +kernel
theorem dX12_meanLength_30 : decode cX12_meanLength 30 = .ok (.i2d, 1) := by decide +kernel
theorem dX12_meanLength_31 : decode cX12_meanLength 31 = .ok (.iload_n 1, 1) := by decide +kernel
theorem dX12_meanLength_32 : decode cX12_meanLength 32 = .ok (.i2d, 1) := by decide +kernel
theorem dX12_meanLength_33 : decode cX12_meanLength 33 = .ok (.ddiv, 1) := by decide +kernel
theorem dX12_meanLength_34 : decode cX12_meanLength 34 = .ok (.dreturn, 1) := by decide +kernel
theorem dX12_usableShare_0 : decode cX12_usableShare 0 = .ok (.aload_n 0, 1) := by decide +kernel
theorem dX12_usableShare_1 : decode cX12_usableShare 1 = .ok (.getfield 10, 3) := by decide +kernel
theorem dX12_usableShare_4 : decode cX12_usableShare 4 = .ok (.getfield 193, 3) := by decide +kernel
theorem dX12_usableShare_7 : decode cX12_usableShare 7 = .ok (.ifCond .ne 14, 3) := by decide +kernel
theorem dX12_usableShare_10 : decode cX12_usableShare 10 = .ok (.new 331, 3) := by decide +kernel
theorem dX12_usableShare_13 : decode cX12_usableShare 13 = .ok (.dup, 1) := by decide +kernel
theorem dX12_usableShare_14 : decode cX12_usableShare 14 = .ok (.ldc_w 339, 3) := by decide +kernel
theorem dX12_usableShare_17 : decode cX12_usableShare 17 = .ok (.invokespecial 335, 3) := by decide +kernel
theorem dX12_usableShare_20 : decode cX12_usableShare 20 = .ok (.athrow, 1) := by decide +kernel
theorem dX12_usableShare_21 : decode cX12_usableShare 21 = .ok (.aload_n 0, 1) := by decide +kernel
theorem dX12_usableShare_22 : decode cX12_usableShare 22 = .ok (.getfield 10, 3) := by decide +kernel
theorem dX12_usableShare_25 : decode cX12_usableShare 25 = .ok (.invokevirtual 328, 3) := by decide +kernel
theorem dX12_usableShare_28 : decode cX12_usableShare 28 = .ok (.i2f, 1) := by decide +kernel
theorem dX12_usableShare_29 : decode cX12_usableShare 29 = .ok (.aload_n 0, 1) := by decide +kernel
theorem dX12_usableShare_30 : decode cX12_usableShare 30 = .ok (.getfield 10, 3) := by decide +kernel
theorem dX12_usableShare_33 : decode cX12_usableShare 33 = .ok (.getfield 193, 3) := by decide +kernel
theorem dX12_usableShare_36 : decode cX12_usableShare 36 = .ok (.i2f, 1) := by decide +kernel
theorem dX12_usableShare_37 : decode cX12_usableShare 37 = .ok (.fdiv, 1) := by decide +kernel
theorem dX12_usableShare_38 : decode cX12_usableShare 38 = .ok (.freturn, 1) := by decide +kernel
theorem dX12_isConsistent_0 : decode cX12_isConsistent 0 = .ok (.aload_n 0, 1) := by decide +kernel
theorem dX12_isConsistent_1 : decode cX12_isConsistent 1 = .ok (.getfield 34, 3) := by decide +kernel
theorem dX12_isConsistent_4 : decode cX12_isConsistent 4 = .ok (.invokevirtual 152, 3) := by decide +kernel
theorem dX12_isConsistent_7 : decode cX12_isConsistent 7 = .ok (.aload_n 0, 1) := by decide +kernel
theorem dX12_isConsistent_8 : decode cX12_isConsistent 8 = .ok (.getfield 34, 3) := by decide +kernel
theorem dX12_isConsistent_11 : decode cX12_isConsistent 11 = .ok (.invokevirtual 246, 3) := by decide +kernel
theorem dX12_isConsistent_14 : decode cX12_isConsistent 14 = .ok (.aload_n 0, 1) := by decide +kernel
theorem dX12_isConsistent_15 : decode cX12_isConsistent 15 = .ok (.getfield 34, 3) := by decide +kernel
theorem dX12_isConsistent_18 : decode cX12_isConsistent 18 = .ok (.invokevirtual 250, 3) := by decide +kernel
theorem dX12_isConsistent_21 : decode cX12_isConsistent 21 = .ok (.if_icmp .ne 61, 3) := by decide +kernel
theorem dX12_isConsistent_24 : decode cX12_isConsistent 24 = .ok (.aload_n 0, 1) := by decide +kernel
theorem dX12_isConsistent_25 : decode cX12_isConsistent 25 = .ok (.getfield 34, 3) := by decide +kernel
theorem dX12_isConsistent_28 : decode cX12_isConsistent 28 = .ok (.invokevirtual 256, 3) := by decide +kernel
theorem dX12_isConsistent_31 : decode cX12_isConsistent 31 = .ok (.aload_n 0, 1) := by decide +kernel
theorem dX12_isConsistent_32 : decode cX12_isConsistent 32 = .ok (.getfield 10, 3) := by decide +kernel
theorem dX12_isConsistent_35 : decode cX12_isConsistent 35 = .ok (.invokevirtual 328, 3) := by decide +kernel
theorem dX12_isConsistent_38 : decode cX12_isConsistent 38 = .ok (.aload_n 0, 1) := by decide +kernel
theorem dX12_isConsistent_39 : decode cX12_isConsistent 39 = .ok (.getfield 10, 3) := by decide +kernel
theorem dX12_isConsistent_42 : decode cX12_isConsistent 42 = .ok (.getfield 141, 3) := by decide +kernel
theorem dX12_isConsistent_45 : decode cX12_isConsistent 45 = .ok (.isub, 1) := by decide +kernel
theorem dX12_isConsistent_46 : decode cX12_isConsistent 46 = .ok (.aload_n 0, 1) := by decide +kernel
theorem dX12_isConsistent_47 : decode cX12_isConsistent 47 = .ok (.getfield 34, 3) := by decide +kernel
theorem dX12_isConsistent_50 : decode cX12_isConsistent 50 = .ok (.invokevirtual 253, 3) := by decide +kernel
theorem dX12_isConsistent_53 : decode cX12_isConsistent 53 = .ok (.iadd, 1) := by decide +kernel
theorem dX12_isConsistent_54 : decode cX12_isConsistent 54 = .ok (.if_icmp .ne 28, 3) := by decide +kernel
theorem dX12_isConsistent_57 : decode cX12_isConsistent 57 = .ok (.aload_n 0, 1) := by decide +kernel
theorem dX12_isConsistent_58 : decode cX12_isConsistent 58 = .ok (.invokevirtual 341, 3) := by decide +kernel
theorem dX12_isConsistent_61 : decode cX12_isConsistent 61 = .ok (.ifCond .eq 21, 3) := by decide +kernel
theorem dX12_isConsistent_64 : decode cX12_isConsistent 64 = .ok (.aload_n 0, 1) := by decide +kernel
theorem dX12_isConsistent_65 : decode cX12_isConsistent 65 = .ok (.invokevirtual 345, 3) := by decide +kernel
theorem dX12_isConsistent_68 : decode cX12_isConsistent 68 = .ok (.ifCond .eq 14, 3) := by decide +kernel
theorem dX12_isConsistent_71 : decode cX12_isConsistent 71 = .ok (.aload_n 0, 1) := by decide +kernel
theorem dX12_isConsistent_72 : decode cX12_isConsistent 72 = .ok (.invokevirtual 348, 3) := by decide +kernel
theorem dX12_isConsistent_75 : decode cX12_isConsistent 75 = .ok (.ifCond .eq 7, 3) := by decide +kernel
theorem dX12_isConsistent_78 : decode cX12_isConsistent 78 = .ok (.iconst 1, 1) := by decide +kernel
theorem dX12_isConsistent_79 : decode cX12_isConsistent 79 = .ok (.goto 4, 3) := by decide +kernel
theorem dX12_isConsistent_82 : decode cX12_isConsistent 82 = .ok (.iconst 0, 1) := by decide +kernel
theorem dX12_isConsistent_83 : decode cX12_isConsistent 83 = .ok (.ireturn, 1) := by decide +kernel
theorem dX12_renderLine_0 : decode cX12_renderLine 0 = .ok (.aload_n 0, 1) := by decide +kernel
theorem dX12_renderLine_1 : decode cX12_renderLine 1 = .ok (.iload_n 1, 1) := by decide +kernel
theorem dX12_renderLine_2 : decode cX12_renderLine 2 = .ok (.invokevirtual 196, 3) := by decide +kernel
theorem dX12_renderLine_5 : decode cX12_renderLine 5 = .ok (.aload_n 0, 1) := by decide +kernel
theorem dX12_renderLine_6 : decode cX12_renderLine 6 = .ok (.getfield 34, 3) := by decide +kernel
theorem dX12_renderLine_9 : decode cX12_renderLine 9 = .ok (.invokevirtual 152, 3) := by decide +kernel
theorem dX12_renderLine_12 : decode cX12_renderLine 12 = .ok (.aload_n 0, 1) := by decide +kernel
theorem dX12_renderLine_13 : decode cX12_renderLine 13 = .ok (.getfield 87, 3) := by decide +kernel
theorem dX12_renderLine_16 : decode cX12_renderLine 16 = .ok (.iconst 0, 1) := by decide +kernel
theorem dX12_renderLine_17 : decode cX12_renderLine 17 = .ok (.invokevirtual 351, 3) := by decide +kernel
theorem dX12_renderLine_20 : decode cX12_renderLine 20 = .ok (.aload_n 0, 1) := by decide +kernel
theorem dX12_renderLine_21 : decode cX12_renderLine 21 = .ok (.getfield 87, 3) := by decide +kernel
theorem dX12_renderLine_24 : decode cX12_renderLine 24 = .ok (.iload_n 1, 1) := by decide +kernel
theorem dX12_renderLine_25 : decode cX12_renderLine 25 = .ok (.invokevirtual 354, 3) := by decide +kernel
theorem dX12_renderLine_28 : decode cX12_renderLine 28 = .ok (.bipush 58, 2) := by decide +kernel
theorem dX12_renderLine_30 : decode cX12_renderLine 30 = .ok (.invokevirtual 358, 3) := by decide +kernel
theorem dX12_renderLine_33 : decode cX12_renderLine 33 = .ok (.pop, 1) := by decide +kernel
theorem dX12_renderLine_34 : decode cX12_renderLine 34 = .ok (.aload_n 0, 1) := by decide +kernel
theorem dX12_renderLine_35 : decode cX12_renderLine 35 = .ok (.getfield 87, 3) := by decide +kernel
theorem dX12_renderLine_38 : decode cX12_renderLine 38 = .ok (.aload_n 0, 1) := by decide +kernel
theorem dX12_renderLine_39 : decode cX12_renderLine 39 = .ok (.getfield 10, 3) := by decide +kernel
theorem dX12_renderLine_42 : decode cX12_renderLine 42 = .ok (.getfield 199, 3) := by decide +kernel
theorem dX12_renderLine_45 : decode cX12_renderLine 45 = .ok (.iload_n 1, 1) := by decide +kernel
theorem dX12_renderLine_46 : decode cX12_renderLine 46 = .ok (.iaload, 1) := by decide +kernel
theorem dX12_renderLine_47 : decode cX12_renderLine 47 = .ok (.invokevirtual 354, 3) := by decide +kernel
theorem dX12_renderLine_50 : decode cX12_renderLine 50 = .ok (.bipush 62, 2) := by decide +kernel
theorem dX12_renderLine_52 : decode cX12_renderLine 52 = .ok (.invokevirtual 358, 3) := by decide +kernel
theorem dX12_renderLine_55 : decode cX12_renderLine 55 = .ok (.aload_n 0, 1) := by decide +kernel
theorem dX12_renderLine_56 : decode cX12_renderLine 56 = .ok (.getfield 10, 3) := by decide +kernel
theorem dX12_renderLine_59 : decode cX12_renderLine 59 = .ok (.getfield 202, 3) := by decide +kernel
theorem dX12_renderLine_62 : decode cX12_renderLine 62 = .ok (.iload_n 1, 1) := by decide +kernel
theorem dX12_renderLine_63 : decode cX12_renderLine 63 = .ok (.iaload, 1) := by decide +kernel
theorem dX12_renderLine_64 : decode cX12_renderLine 64 = .ok (.invokevirtual 354, 3) := by decide +kernel
theorem dX12_renderLine_67 : decode cX12_renderLine 67 = .ok (.pop, 1) := by decide +kernel
theorem dX12_renderLine_68 : decode cX12_renderLine 68 = .ok (.aload_n 0, 1) := by decide +kernel
theorem dX12_renderLine_69 : decode cX12_renderLine 69 = .ok (.getfield 87, 3) := by decide +kernel
theorem dX12_renderLine_72 : decode cX12_renderLine 72 = .ok (.bipush 32, 2) := by decide +kernel
theorem dX12_renderLine_74 : decode cX12_renderLine 74 = .ok (.invokevirtual 358, 3) := by decide +kernel
theorem dX12_renderLine_77 : decode cX12_renderLine 77 = .ok (.aload_n 0, 1) := by decide +kernel
theorem dX12_renderLine_78 : decode cX12_renderLine 78 = .ok (.getfield 10, 3) := by decide +kernel
theorem dX12_renderLine_81 : decode cX12_renderLine 81 = .ok (.iload_n 1, 1) := by decide +kernel
theorem dX12_renderLine_82 : decode cX12_renderLine 82 = .ok (.invokevirtual 361, 3) := by decide +kernel
theorem dX12_renderLine_85 : decode cX12_renderLine 85 = .ok (.invokevirtual 354, 3) := by decide +kernel
theorem dX12_renderLine_88 : decode cX12_renderLine 88 = .ok (.pop, 1) := by decide +kernel
theorem dX12_renderLine_89 : decode cX12_renderLine 89 = .ok (.aload_n 0, 1) := by decide +kernel
theorem dX12_renderLine_90 : decode cX12_renderLine 90 = .ok (.getfield 87, 3) := by decide +kernel
theorem dX12_renderLine_93 : decode cX12_renderLine 93 = .ok (.bipush 47, 2) := by decide +kernel
theorem dX12_renderLine_95 : decode cX12_renderLine 95 = .ok (.invokevirtual 358, 3) := by decide +kernel
theorem dX12_renderLine_98 : decode cX12_renderLine 98 = .ok (.aload_n 0, 1) := by decide +kernel
theorem dX12_renderLine_99 : decode cX12_renderLine 99 = .ok (.getfield 10, 3) := by decide +kernel
theorem dX12_renderLine_102 : decode cX12_renderLine 102 = .ok (.getfield 205, 3) := by decide +kernel
theorem dX12_renderLine_105 : decode cX12_renderLine 105 = .ok (.iload_n 1, 1) := by decide +kernel
theorem dX12_renderLine_106 : decode cX12_renderLine 106 = .ok (.iaload, 1) := by decide +kernel
theorem dX12_renderLine_107 : decode cX12_renderLine 107 = .ok (.invokevirtual 354, 3) := by decide +kernel
theorem dX12_renderLine_110 : decode cX12_renderLine 110 = .ok (.pop, 1) := by decide +kernel
theorem dX12_renderLine_111 : decode cX12_renderLine 111 = .ok (.aload_n 0, 1) := by decide +kernel
theorem dX12_renderLine_112 : decode cX12_renderLine 112 = .ok (.getfield 87, 3) := by decide +kernel
theorem dX12_renderLine_115 : decode cX12_renderLine 115 = .ok (.aload_n 0, 1) := by decide +kernel
theorem dX12_renderLine_116 : decode cX12_renderLine 116 = .ok (.iload_n 1, 1) := by decide +kernel
theorem dX12_renderLine_117 : decode cX12_renderLine 117 = .ok (.invokevirtual 364, 3) := by decide +kernel
theorem dX12_renderLine_120 : decode cX12_renderLine 120 = .ok (.invokevirtual 358, 3) := by decide +kernel
theorem dX12_renderLine_123 : decode cX12_renderLine 123 = .ok (.pop, 1) := by decide +kernel
theorem dX12_renderLine_124 : decode cX12_renderLine 124 = .ok (.aload_n 0, 1) := by decide +kernel
theorem dX12_renderLine_125 : decode cX12_renderLine 125 = .ok (.getfield 87, 3) := by decide +kernel
theorem dX12_renderLine_128 : decode cX12_renderLine 128 = .ok (.invokevirtual 368, 3) := by decide +kernel
theorem dX12_renderLine_131 : decode cX12_renderLine 131 = .ok (.ireturn, 1) := by decide +kernel
theorem dX12_renderBenchmark_0 : decode cX12_renderBenchmark 0 = .ok (.aload_n 0, 1) := by decide +kernel
theorem dX12_renderBenchmark_1 : decode cX12_renderBenchmark 1 = .ok (.iload_n 1, 1) := by decide +kernel
theorem dX12_renderBenchmark_2 : decode cX12_renderBenchmark 2 = .ok (.invokevirtual 144, 3) := by decide +kernel
theorem dX12_renderBenchmark_5 : decode cX12_renderBenchmark 5 = .ok (.aload_n 0, 1) := by decide +kernel
theorem dX12_renderBenchmark_6 : decode cX12_renderBenchmark 6 = .ok (.getfield 34, 3) := by decide +kernel
theorem dX12_renderBenchmark_9 : decode cX12_renderBenchmark 9 = .ok (.invokevirtual 152, 3) := by decide +kernel
theorem dX12_renderBenchmark_12 : decode cX12_renderBenchmark 12 = .ok (.aload_n 0, 1) := by decide +kernel
theorem dX12_renderBenchmark_13 : decode cX12_renderBenchmark 13 = .ok (.getfield 87, 3) := by decide +kernel
theorem dX12_renderBenchmark_16 : decode cX12_renderBenchmark 16 = .ok (.iconst 0, 1) := by decide +kernel
theorem dX12_renderBenchmark_17 : decode cX12_renderBenchmark 17 = .ok (.invokevirtual 351, 3) := by decide +kernel
theorem dX12_renderBenchmark_20 : decode cX12_renderBenchmark 20 = .ok (.aload_n 0, 1) := by decide +kernel
theorem dX12_renderBenchmark_21 : decode cX12_renderBenchmark 21 = .ok (.getfield 87, 3) := by decide +kernel
theorem dX12_renderBenchmark_24 : decode cX12_renderBenchmark 24 = .ok (.iload_n 1, 1) := by decide +kernel
theorem dX12_renderBenchmark_25 : decode cX12_renderBenchmark 25 = .ok (.invokevirtual 354, 3) := by decide +kernel
theorem dX12_renderBenchmark_28 : decode cX12_renderBenchmark 28 = .ok (.bipush 61, 2) := by decide +kernel
theorem dX12_renderBenchmark_30 : decode cX12_renderBenchmark 30 = .ok (.invokevirtual 358, 3) := by decide +kernel
theorem dX12_renderBenchmark_33 : decode cX12_renderBenchmark 33 = .ok (.pop, 1) := by decide +kernel
theorem dX12_renderBenchmark_34 : decode cX12_renderBenchmark 34 = .ok (.aload_n 0, 1) := by decide +kernel
theorem dX12_renderBenchmark_35 : decode cX12_renderBenchmark 35 = .ok (.getfield 57, 3) := by decide +kernel
theorem dX12_renderBenchmark_38 : decode cX12_renderBenchmark 38 = .ok (.iload_n 1, 1) := by decide +kernel
theorem dX12_renderBenchmark_39 : decode cX12_renderBenchmark 39 = .ok (.invokevirtual 155, 3) := by decide +kernel
theorem dX12_renderBenchmark_42 : decode cX12_renderBenchmark 42 = .ok (.ifCond .eq 22, 3) := by decide +kernel
theorem dX12_renderBenchmark_45 : decode cX12_renderBenchmark 45 = .ok (.aload_n 0, 1) := by decide +kernel
theorem dX12_renderBenchmark_46 : decode cX12_renderBenchmark 46 = .ok (.getfield 87, 3) := by decide +kernel
theorem dX12_renderBenchmark_49 : decode cX12_renderBenchmark 49 = .ok (.aload_n 0, 1) := by decide +kernel
theorem dX12_renderBenchmark_50 : decode cX12_renderBenchmark 50 = .ok (.getfield 57, 3) := by decide +kernel
theorem dX12_renderBenchmark_53 : decode cX12_renderBenchmark 53 = .ok (.iload_n 1, 1) := by decide +kernel
theorem dX12_renderBenchmark_54 : decode cX12_renderBenchmark 54 = .ok (.invokevirtual 162, 3) := by decide +kernel
theorem dX12_renderBenchmark_57 : decode cX12_renderBenchmark 57 = .ok (.invokevirtual 354, 3) := by decide +kernel
theorem dX12_renderBenchmark_60 : decode cX12_renderBenchmark 60 = .ok (.pop, 1) := by decide +kernel
theorem dX12_renderBenchmark_61 : decode cX12_renderBenchmark 61 = .ok (.goto 13, 3) := by decide +kernel
theorem dX12_renderBenchmark_64 : decode cX12_renderBenchmark 64 = .ok (.aload_n 0, 1) := by decide +kernel
theorem dX12_renderBenchmark_65 : decode cX12_renderBenchmark 65 = .ok (.getfield 87, 3) := by decide +kernel
theorem dX12_renderBenchmark_68 : decode cX12_renderBenchmark 68 = .ok (.bipush 63, 2) := by decide +kernel
theorem dX12_renderBenchmark_70 : decode cX12_renderBenchmark 70 = .ok (.invokevirtual 358, 3) := by decide +kernel
theorem dX12_renderBenchmark_73 : decode cX12_renderBenchmark 73 = .ok (.pop, 1) := by decide +kernel
theorem dX12_renderBenchmark_74 : decode cX12_renderBenchmark 74 = .ok (.aload_n 0, 1) := by decide +kernel
theorem dX12_renderBenchmark_75 : decode cX12_renderBenchmark 75 = .ok (.getfield 10, 3) := by decide +kernel
theorem dX12_renderBenchmark_78 : decode cX12_renderBenchmark 78 = .ok (.getfield 148, 3) := by decide +kernel
theorem dX12_renderBenchmark_81 : decode cX12_renderBenchmark 81 = .ok (.iload_n 1, 1) := by decide +kernel
theorem dX12_renderBenchmark_82 : decode cX12_renderBenchmark 82 = .ok (.baload, 1) := by decide +kernel
theorem dX12_renderBenchmark_83 : decode cX12_renderBenchmark 83 = .ok (.ifCond .eq 13, 3) := by decide +kernel
theorem dX12_renderBenchmark_86 : decode cX12_renderBenchmark 86 = .ok (.aload_n 0, 1) := by decide +kernel
theorem dX12_renderBenchmark_87 : decode cX12_renderBenchmark 87 = .ok (.getfield 87, 3) := by decide +kernel
theorem dX12_renderBenchmark_90 : decode cX12_renderBenchmark 90 = .ok (.bipush 33, 2) := by decide +kernel
theorem dX12_renderBenchmark_92 : decode cX12_renderBenchmark 92 = .ok (.invokevirtual 358, 3) := by decide +kernel
theorem dX12_renderBenchmark_95 : decode cX12_renderBenchmark 95 = .ok (.pop, 1) := by decide +kernel
theorem dX12_renderBenchmark_96 : decode cX12_renderBenchmark 96 = .ok (.aload_n 0, 1) := by decide +kernel
theorem dX12_renderBenchmark_97 : decode cX12_renderBenchmark 97 = .ok (.getfield 87, 3) := by decide +kernel
theorem dX12_renderBenchmark_100 : decode cX12_renderBenchmark 100 = .ok (.invokevirtual 368, 3) := by decide +kernel
theorem dX12_renderBenchmark_103 : decode cX12_renderBenchmark 103 = .ok (.ireturn, 1) := by decide +kernel
theorem dX12_outputAt_0 : decode cX12_outputAt 0 = .ok (.iload_n 1, 1) := by decide +kernel
theorem dX12_outputAt_1 : decode cX12_outputAt 1 = .ok (.ifCond .lt 14, 3) := by decide +kernel
theorem dX12_outputAt_4 : decode cX12_outputAt 4 = .ok (.iload_n 1, 1) := by decide +kernel
theorem dX12_outputAt_5 : decode cX12_outputAt 5 = .ok (.aload_n 0, 1) := by decide +kernel
theorem dX12_outputAt_6 : decode cX12_outputAt 6 = .ok (.getfield 87, 3) := by decide +kernel
theorem dX12_outputAt_9 : decode cX12_outputAt 9 = .ok (.invokevirtual 368, 3) := by decide +kernel
theorem dX12_outputAt_12 : decode cX12_outputAt 12 = .ok (.if_icmp .lt 14, 3) := by decide +kernel
theorem dX12_outputAt_15 : decode cX12_outputAt 15 = .ok (.new 370, 3) := by decide +kernel
theorem dX12_outputAt_18 : decode cX12_outputAt 18 = .ok (.dup, 1) := by decide +kernel
theorem dX12_outputAt_19 : decode cX12_outputAt 19 = .ok (.ldc_w 372, 3) := by decide +kernel
theorem dX12_outputAt_22 : decode cX12_outputAt 22 = .ok (.invokespecial 374, 3) := by decide +kernel
theorem dX12_outputAt_25 : decode cX12_outputAt 25 = .ok (.athrow, 1) := by decide +kernel
theorem dX12_outputAt_26 : decode cX12_outputAt 26 = .ok (.aload_n 0, 1) := by decide +kernel
theorem dX12_outputAt_27 : decode cX12_outputAt 27 = .ok (.getfield 87, 3) := by decide +kernel
theorem dX12_outputAt_30 : decode cX12_outputAt 30 = .ok (.iload_n 1, 1) := by decide +kernel
theorem dX12_outputAt_31 : decode cX12_outputAt 31 = .ok (.invokevirtual 375, 3) := by decide +kernel
theorem dX12_outputAt_34 : decode cX12_outputAt 34 = .ok (.ireturn, 1) := by decide +kernel
theorem dX12_type_0 : decode cX12_type 0 = .ok (.iload_n 1, 1) := by decide +kernel
theorem dX12_type_1 : decode cX12_type 1 = .ok (.bipush 32, 2) := by decide +kernel
theorem dX12_type_3 : decode cX12_type 3 = .ok (.bipush 126, 2) := by decide +kernel
theorem dX12_type_5 : decode cX12_type 5 = .ok (.invokestatic 228, 3) := by decide +kernel
theorem dX12_type_8 : decode cX12_type 8 = .ok (.ifCond .ne 14, 3) := by decide +kernel
theorem dX12_type_11 : decode cX12_type 11 = .ok (.new 232, 3) := by decide +kernel
theorem dX12_type_14 : decode cX12_type 14 = .ok (.dup, 1) := by decide +kernel
theorem dX12_type_15 : decode cX12_type 15 = .ok (.ldc_w 378, 3) := by decide +kernel
theorem dX12_type_18 : decode cX12_type 18 = .ok (.invokespecial 236, 3) := by decide +kernel
theorem dX12_type_21 : decode cX12_type 21 = .ok (.athrow, 1) := by decide +kernel
theorem dX12_type_22 : decode cX12_type 22 = .ok (.aload_n 0, 1) := by decide +kernel
theorem dX12_type_23 : decode cX12_type 23 = .ok (.getfield 80, 3) := by decide +kernel
theorem dX12_type_26 : decode cX12_type 26 = .ok (.getfield 380, 3) := by decide +kernel
theorem dX12_type_29 : decode cX12_type 29 = .ok (.bipush 60, 2) := by decide +kernel
theorem dX12_type_31 : decode cX12_type 31 = .ok (.if_icmp .lt 14, 3) := by decide +kernel
theorem dX12_type_34 : decode cX12_type 34 = .ok (.new 381, 3) := by decide +kernel
theorem dX12_type_37 : decode cX12_type 37 = .ok (.dup, 1) := by decide +kernel
theorem dX12_type_38 : decode cX12_type 38 = .ok (.ldc_w 383, 3) := by decide +kernel
theorem dX12_type_41 : decode cX12_type 41 = .ok (.invokespecial 385, 3) := by decide +kernel
theorem dX12_type_44 : decode cX12_type 44 = .ok (.athrow, 1) := by decide +kernel
theorem dX12_type_45 : decode cX12_type 45 = .ok (.aload_n 0, 1) := by decide +kernel
theorem dX12_type_46 : decode cX12_type 46 = .ok (.getfield 80, 3) := by decide +kernel
theorem dX12_type_49 : decode cX12_type 49 = .ok (.iload_n 1, 1) := by decide +kernel
theorem dX12_type_50 : decode cX12_type 50 = .ok (.invokevirtual 386, 3) := by decide +kernel
theorem dX12_type_53 : decode cX12_type 53 = .ok (.aload_n 0, 1) := by decide +kernel
theorem dX12_type_54 : decode cX12_type 54 = .ok (.getfield 80, 3) := by decide +kernel
theorem dX12_type_57 : decode cX12_type 57 = .ok (.getfield 380, 3) := by decide +kernel
theorem dX12_type_60 : decode cX12_type 60 = .ok (.ireturn, 1) := by decide +kernel
theorem dX12_runScript_0 : decode cX12_runScript 0 = .ok (.aload_n 0, 1) := by decide +kernel
theorem dX12_runScript_1 : decode cX12_runScript 1 = .ok (.getfield 80, 3) := by decide +kernel
theorem dX12_runScript_4 : decode cX12_runScript 4 = .ok (.invokevirtual 390, 3) := by decide +kernel
theorem dX12_runScript_7 : decode cX12_runScript 7 = .ok (.istore_n 1, 1) := by decide +kernel
theorem dX12_runScript_8 : decode cX12_runScript 8 = .ok (.aload_n 0, 1) := by decide +kernel
theorem dX12_runScript_9 : decode cX12_runScript 9 = .ok (.getfield 80, 3) := by decide +kernel
theorem dX12_runScript_12 : decode cX12_runScript 12 = .ok (.iconst 0, 1) := by decide +kernel
theorem dX12_runScript_13 : decode cX12_runScript 13 = .ok (.putfield 380, 3) := by decide +kernel
theorem dX12_runScript_16 : decode cX12_runScript 16 = .ok (.iload_n 1, 1) := by decide +kernel
theorem dX12_runScript_17 : decode cX12_runScript 17 = .ok (.ifCond .ne 25, 3) := by decide +kernel
theorem dX12_runScript_20 : decode cX12_runScript 20 = .ok (.aload_n 0, 1) := by decide +kernel
theorem dX12_runScript_21 : decode cX12_runScript 21 = .ok (.aload_n 0, 1) := by decide +kernel
theorem dX12_runScript_22 : decode cX12_runScript 22 = .ok (.getfield 80, 3) := by decide +kernel
theorem dX12_runScript_25 : decode cX12_runScript 25 = .ok (.getfield 393, 3) := by decide +kernel
theorem dX12_runScript_28 : decode cX12_runScript 28 = .ok (.putfield 91, 3) := by decide +kernel
theorem dX12_runScript_31 : decode cX12_runScript 31 = .ok (.new 232, 3) := by decide +kernel
theorem dX12_runScript_34 : decode cX12_runScript 34 = .ok (.dup, 1) := by decide +kernel
theorem dX12_runScript_35 : decode cX12_runScript 35 = .ok (.ldc_w 396, 3) := by decide +kernel
theorem dX12_runScript_38 : decode cX12_runScript 38 = .ok (.invokespecial 236, 3) := by decide +kernel
theorem dX12_runScript_41 : decode cX12_runScript 41 = .ok (.athrow, 1) := by decide +kernel
theorem dX12_runScript_42 : decode cX12_runScript 42 = .ok (.aload_n 0, 1) := by decide +kernel
theorem dX12_runScript_43 : decode cX12_runScript 43 = .ok (.getfield 16, 3) := by decide +kernel
theorem dX12_runScript_46 : decode cX12_runScript 46 = .ok (.aload_n 0, 1) := by decide +kernel
theorem dX12_runScript_47 : decode cX12_runScript 47 = .ok (.getfield 10, 3) := by decide +kernel
theorem dX12_runScript_50 : decode cX12_runScript 50 = .ok (.invokevirtual 398, 3) := by decide +kernel
theorem dX12_runScript_53 : decode cX12_runScript 53 = .ok (.aload_n 0, 1) := by decide +kernel
theorem dX12_runScript_54 : decode cX12_runScript 54 = .ok (.invokevirtual 401, 3) := by decide +kernel
theorem dX12_runScript_57 : decode cX12_runScript 57 = .ok (.istore_n 2, 1) := by decide +kernel
theorem dX12_runScript_58 : decode cX12_runScript 58 = .ok (.iload_n 2, 1) := by decide +kernel
theorem dX12_runScript_59 : decode cX12_runScript 59 = .ok (.iconst (-1), 1) := by decide +kernel
theorem dX12_runScript_60 : decode cX12_runScript 60 = .ok (.if_icmp .eq 30, 3) := by decide +kernel
theorem dX12_runScript_63 : decode cX12_runScript 63 = .ok (.aload_n 0, 1) := by decide +kernel
theorem dX12_runScript_64 : decode cX12_runScript 64 = .ok (.getfield 10, 3) := by decide +kernel
theorem dX12_runScript_67 : decode cX12_runScript 67 = .ok (.aload_n 0, 1) := by decide +kernel
theorem dX12_runScript_68 : decode cX12_runScript 68 = .ok (.getfield 16, 3) := by decide +kernel
theorem dX12_runScript_71 : decode cX12_runScript 71 = .ok (.invokevirtual 398, 3) := by decide +kernel
theorem dX12_runScript_74 : decode cX12_runScript 74 = .ok (.aload_n 0, 1) := by decide +kernel
theorem dX12_runScript_75 : decode cX12_runScript 75 = .ok (.iload_n 2, 1) := by decide +kernel
theorem dX12_runScript_76 : decode cX12_runScript 76 = .ok (.putfield 95, 3) := by decide +kernel
theorem dX12_runScript_79 : decode cX12_runScript 79 = .ok (.new 381, 3) := by decide +kernel
theorem dX12_runScript_82 : decode cX12_runScript 82 = .ok (.dup, 1) := by decide +kernel
theorem dX12_runScript_83 : decode cX12_runScript 83 = .ok (.ldc_w 404, 3) := by decide +kernel
theorem dX12_runScript_86 : decode cX12_runScript 86 = .ok (.invokespecial 385, 3) := by decide +kernel
theorem dX12_runScript_89 : decode cX12_runScript 89 = .ok (.athrow, 1) := by decide +kernel
theorem dX12_runScript_90 : decode cX12_runScript 90 = .ok (.aload_n 0, 1) := by decide +kernel
theorem dX12_runScript_91 : decode cX12_runScript 91 = .ok (.getfield 25, 3) := by decide +kernel
theorem dX12_runScript_94 : decode cX12_runScript 94 = .ok (.aload_n 0, 1) := by decide +kernel
theorem dX12_runScript_95 : decode cX12_runScript 95 = .ok (.getfield 16, 3) := by decide +kernel
theorem dX12_runScript_98 : decode cX12_runScript 98 = .ok (.invokevirtual 406, 3) := by decide +kernel
theorem dX12_runScript_101 : decode cX12_runScript 101 = .ok (.aload_n 0, 1) := by decide +kernel
theorem dX12_runScript_102 : decode cX12_runScript 102 = .ok (.getfield 80, 3) := by decide +kernel
theorem dX12_runScript_105 : decode cX12_runScript 105 = .ok (.getfield 409, 3) := by decide +kernel
theorem dX12_runScript_108 : decode cX12_runScript 108 = .ok (.ireturn, 1) := by decide +kernel
theorem dX12_errorPosition_0 : decode cX12_errorPosition 0 = .ok (.aload_n 0, 1) := by decide +kernel
theorem dX12_errorPosition_1 : decode cX12_errorPosition 1 = .ok (.getfield 91, 3) := by decide +kernel
theorem dX12_errorPosition_4 : decode cX12_errorPosition 4 = .ok (.iconst (-1), 1) := by decide +kernel
theorem dX12_errorPosition_5 : decode cX12_errorPosition 5 = .ok (.if_icmp .ne 14, 3) := by decide +kernel
theorem dX12_errorPosition_8 : decode cX12_errorPosition 8 = .ok (.new 169, 3) := by decide +kernel
theorem dX12_errorPosition_11 : decode cX12_errorPosition 11 = .ok (.dup, 1) := by decide +kernel
theorem dX12_errorPosition_12 : decode cX12_errorPosition 12 = .ok (.ldc_w 412, 3) := by decide +kernel
theorem dX12_errorPosition_15 : decode cX12_errorPosition 15 = .ok (.invokespecial 173, 3) := by decide +kernel
theorem dX12_errorPosition_18 : decode cX12_errorPosition 18 = .ok (.athrow, 1) := by decide +kernel
theorem dX12_errorPosition_19 : decode cX12_errorPosition 19 = .ok (.aload_n 0, 1) := by decide +kernel
theorem dX12_errorPosition_20 : decode cX12_errorPosition 20 = .ok (.getfield 91, 3) := by decide +kernel
theorem dX12_errorPosition_23 : decode cX12_errorPosition 23 = .ok (.ireturn, 1) := by decide +kernel
theorem dX12_failedCommand_0 : decode cX12_failedCommand 0 = .ok (.aload_n 0, 1) := by decide +kernel
theorem dX12_failedCommand_1 : decode cX12_failedCommand 1 = .ok (.getfield 95, 3) := by decide +kernel
theorem dX12_failedCommand_4 : decode cX12_failedCommand 4 = .ok (.iconst (-1), 1) := by decide +kernel
theorem dX12_failedCommand_5 : decode cX12_failedCommand 5 = .ok (.if_icmp .ne 14, 3) := by decide +kernel
theorem dX12_failedCommand_8 : decode cX12_failedCommand 8 = .ok (.new 169, 3) := by decide +kernel
theorem dX12_failedCommand_11 : decode cX12_failedCommand 11 = .ok (.dup, 1) := by decide +kernel
theorem dX12_failedCommand_12 : decode cX12_failedCommand 12 = .ok (.ldc_w 414, 3) := by decide +kernel
theorem dX12_failedCommand_15 : decode cX12_failedCommand 15 = .ok (.invokespecial 173, 3) := by decide +kernel
theorem dX12_failedCommand_18 : decode cX12_failedCommand 18 = .ok (.athrow, 1) := by decide +kernel
theorem dX12_failedCommand_19 : decode cX12_failedCommand 19 = .ok (.aload_n 0, 1) := by decide +kernel
theorem dX12_failedCommand_20 : decode cX12_failedCommand 20 = .ok (.getfield 95, 3) := by decide +kernel
theorem dX12_failedCommand_23 : decode cX12_failedCommand 23 = .ok (.ireturn, 1) := by decide +kernel
theorem dX12_undo_0 : decode cX12_undo 0 = .ok (.aload_n 0, 1) := by decide +kernel
theorem dX12_undo_1 : decode cX12_undo 1 = .ok (.getfield 25, 3) := by decide +kernel
theorem dX12_undo_4 : decode cX12_undo 4 = .ok (.getfield 416, 3) := by decide +kernel
theorem dX12_undo_7 : decode cX12_undo 7 = .ok (.ifCond .ne 14, 3) := by decide +kernel
theorem dX12_undo_10 : decode cX12_undo 10 = .ok (.new 169, 3) := by decide +kernel
theorem dX12_undo_13 : decode cX12_undo 13 = .ok (.dup, 1) := by decide +kernel
theorem dX12_undo_14 : decode cX12_undo 14 = .ok (.ldc_w 417, 3) := by decide +kernel
theorem dX12_undo_17 : decode cX12_undo 17 = .ok (.invokespecial 173, 3) := by decide +kernel
theorem dX12_undo_20 : decode cX12_undo 20 = .ok (.athrow, 1) := by decide +kernel
theorem dX12_undo_21 : decode cX12_undo 21 = .ok (.aload_n 0, 1) := by decide +kernel
theorem dX12_undo_22 : decode cX12_undo 22 = .ok (.getfield 25, 3) := by decide +kernel
theorem dX12_undo_25 : decode cX12_undo 25 = .ok (.aload_n 0, 1) := by decide +kernel
theorem dX12_undo_26 : decode cX12_undo 26 = .ok (.getfield 10, 3) := by decide +kernel
theorem dX12_undo_29 : decode cX12_undo 29 = .ok (.invokevirtual 419, 3) := by decide +kernel
theorem dX12_undo_32 : decode cX12_undo 32 = .ok (.aload_n 0, 1) := by decide +kernel
theorem dX12_undo_33 : decode cX12_undo 33 = .ok (.getfield 25, 3) := by decide +kernel
theorem dX12_undo_36 : decode cX12_undo 36 = .ok (.getfield 416, 3) := by decide +kernel
theorem dX12_undo_39 : decode cX12_undo 39 = .ok (.ireturn, 1) := by decide +kernel
theorem dX12_save_0 : decode cX12_save 0 = .ok (.aload_n 0, 1) := by decide +kernel
theorem dX12_save_1 : decode cX12_save 1 = .ok (.getfield 19, 3) := by decide +kernel
theorem dX12_save_4 : decode cX12_save 4 = .ok (.aload_n 0, 1) := by decide +kernel
theorem dX12_save_5 : decode cX12_save 5 = .ok (.getfield 10, 3) := by decide +kernel
theorem dX12_save_8 : decode cX12_save 8 = .ok (.invokevirtual 398, 3) := by decide +kernel
theorem dX12_save_11 : decode cX12_save 11 = .ok (.aload_n 0, 1) := by decide +kernel
theorem dX12_save_12 : decode cX12_save 12 = .ok (.iconst 1, 1) := by decide +kernel
theorem dX12_save_13 : decode cX12_save 13 = .ok (.putfield 422, 3) := by decide +kernel
theorem dX12_save_16 : decode cX12_save 16 = .ok (.aload_n 0, 1) := by decide +kernel
theorem dX12_save_17 : decode cX12_save 17 = .ok (.getfield 10, 3) := by decide +kernel
theorem dX12_save_20 : decode cX12_save 20 = .ok (.getfield 193, 3) := by decide +kernel
theorem dX12_save_23 : decode cX12_save 23 = .ok (.ireturn, 1) := by decide +kernel
theorem dX12_restore_0 : decode cX12_restore 0 = .ok (.aload_n 0, 1) := by decide +kernel
theorem dX12_restore_1 : decode cX12_restore 1 = .ok (.getfield 422, 3) := by decide +kernel
theorem dX12_restore_4 : decode cX12_restore 4 = .ok (.ifCond .ne 14, 3) := by decide +kernel
theorem dX12_restore_7 : decode cX12_restore 7 = .ok (.new 381, 3) := by decide +kernel
theorem dX12_restore_10 : decode cX12_restore 10 = .ok (.dup, 1) := by decide +kernel
theorem dX12_restore_11 : decode cX12_restore 11 = .ok (.ldc_w 426, 3) := by decide +kernel
theorem dX12_restore_14 : decode cX12_restore 14 = .ok (.invokespecial 385, 3) := by decide +kernel
theorem dX12_restore_17 : decode cX12_restore 17 = .ok (.athrow, 1) := by decide +kernel
theorem dX12_restore_18 : decode cX12_restore 18 = .ok (.aload_n 0, 1) := by decide +kernel
theorem dX12_restore_19 : decode cX12_restore 19 = .ok (.getfield 10, 3) := by decide +kernel
theorem dX12_restore_22 : decode cX12_restore 22 = .ok (.aload_n 0, 1) := by decide +kernel
theorem dX12_restore_23 : decode cX12_restore 23 = .ok (.getfield 19, 3) := by decide +kernel
theorem dX12_restore_26 : decode cX12_restore 26 = .ok (.invokevirtual 398, 3) := by decide +kernel
theorem dX12_restore_29 : decode cX12_restore 29 = .ok (.aload_n 0, 1) := by decide +kernel
theorem dX12_restore_30 : decode cX12_restore 30 = .ok (.getfield 25, 3) := by decide +kernel
theorem dX12_restore_33 : decode cX12_restore 33 = .ok (.iconst 0, 1) := by decide +kernel
theorem dX12_restore_34 : decode cX12_restore 34 = .ok (.putfield 416, 3) := by decide +kernel
theorem dX12_restore_37 : decode cX12_restore 37 = .ok (.aload_n 0, 1) := by decide +kernel
theorem dX12_restore_38 : decode cX12_restore 38 = .ok (.getfield 10, 3) := by decide +kernel
theorem dX12_restore_41 : decode cX12_restore 41 = .ok (.getfield 193, 3) := by decide +kernel
theorem dX12_restore_44 : decode cX12_restore 44 = .ok (.ireturn, 1) := by decide +kernel
theorem dX12_change_0 : decode cX12_change 0 = .ok (.aload_n 0, 1) := by decide +kernel
theorem dX12_change_1 : decode cX12_change 1 = .ok (.getfield 73, 3) := by decide +kernel
theorem dX12_change_4 : decode cX12_change 4 = .ok (.aload_n 1, 1) := by decide +kernel
theorem dX12_change_5 : decode cX12_change 5 = .ok (.iload_n 2, 1) := by decide +kernel
theorem dX12_change_6 : decode cX12_change 6 = .ok (.iload_n 3, 1) := by decide +kernel
theorem dX12_change_7 : decode cX12_change 7 = .ok (.iload 4, 2) := by decide +kernel
theorem dX12_change_9 : decode cX12_change 9 = .ok (.iload 5, 2) := by decide +kernel
theorem dX12_change_11 : decode cX12_change 11 = .ok (.invokevirtual 428, 3) := by decide +kernel
theorem dX12_change_14 : decode cX12_change 14 = .ok (.invokestatic 432, 3) := by decide +kernel
theorem dX12_change_17 : decode cX12_change 17 = .ok (.aload_n 0, 1) := by decide +kernel
theorem dX12_change_18 : decode cX12_change 18 = .ok (.getfield 25, 3) := by decide +kernel
theorem dX12_change_21 : decode cX12_change 21 = .ok (.aload_n 0, 1) := by decide +kernel
theorem dX12_change_22 : decode cX12_change 22 = .ok (.getfield 10, 3) := by decide +kernel
theorem dX12_change_25 : decode cX12_change 25 = .ok (.invokevirtual 406, 3) := by decide +kernel
theorem dX12_change_28 : decode cX12_change 28 = .ok (.aload_n 0, 1) := by decide +kernel
theorem dX12_change_29 : decode cX12_change 29 = .ok (.getfield 73, 3) := by decide +kernel
theorem dX12_change_32 : decode cX12_change 32 = .ok (.aload_n 1, 1) := by decide +kernel
theorem dX12_change_33 : decode cX12_change 33 = .ok (.iload_n 2, 1) := by decide +kernel
theorem dX12_change_34 : decode cX12_change 34 = .ok (.iload_n 3, 1) := by decide +kernel
theorem dX12_change_35 : decode cX12_change 35 = .ok (.iload 4, 2) := by decide +kernel
theorem dX12_change_37 : decode cX12_change 37 = .ok (.iload 5, 2) := by decide +kernel
theorem dX12_change_39 : decode cX12_change 39 = .ok (.invokevirtual 436, 3) := by decide +kernel
theorem dX12_change_42 : decode cX12_change 42 = .ok (.ireturn, 1) := by decide +kernel
theorem dX12_raise_0 : decode cX12_raise 0 = .ok (.getstatic 439, 3) := by decide +kernel
theorem dX12_raise_3 : decode cX12_raise 3 = .ok (.aload_n 0, 1) := by decide +kernel
theorem dX12_raise_4 : decode cX12_raise 4 = .ok (.invokevirtual 444, 3) := by decide +kernel
theorem dX12_raise_7 : decode cX12_raise 7 = .ok (.iaload, 1) := by decide +kernel
theorem dX12_raise_8 : decode cX12_raise 8 = .ok (.tableswitch 91 1 5 #[36, 47, 58, 69, 80], 36) := by decide +kernel
theorem dX12_raise_44 : decode cX12_raise 44 = .ok (.new 370, 3) := by decide +kernel
theorem dX12_raise_47 : decode cX12_raise 47 = .ok (.dup, 1) := by decide +kernel
theorem dX12_raise_48 : decode cX12_raise 48 = .ok (.ldc_w 449, 3) := by decide +kernel
theorem dX12_raise_51 : decode cX12_raise 51 = .ok (.invokespecial 374, 3) := by decide +kernel
theorem dX12_raise_54 : decode cX12_raise 54 = .ok (.athrow, 1) := by decide +kernel
theorem dX12_raise_55 : decode cX12_raise 55 = .ok (.new 232, 3) := by decide +kernel
theorem dX12_raise_58 : decode cX12_raise 58 = .ok (.dup, 1) := by decide +kernel
theorem dX12_raise_59 : decode cX12_raise 59 = .ok (.ldc_w 451, 3) := by decide +kernel
theorem dX12_raise_62 : decode cX12_raise 62 = .ok (.invokespecial 236, 3) := by decide +kernel
theorem dX12_raise_65 : decode cX12_raise 65 = .ok (.athrow, 1) := by decide +kernel
theorem dX12_raise_66 : decode cX12_raise 66 = .ok (.new 381, 3) := by decide +kernel
theorem dX12_raise_69 : decode cX12_raise 69 = .ok (.dup, 1) := by decide +kernel
theorem dX12_raise_70 : decode cX12_raise 70 = .ok (.ldc_w 453, 3) := by decide +kernel
theorem dX12_raise_73 : decode cX12_raise 73 = .ok (.invokespecial 385, 3) := by decide +kernel
theorem dX12_raise_76 : decode cX12_raise 76 = .ok (.athrow, 1) := by decide +kernel
theorem dX12_raise_77 : decode cX12_raise 77 = .ok (.new 169, 3) := by decide +kernel
theorem dX12_raise_80 : decode cX12_raise 80 = .ok (.dup, 1) := by decide +kernel
theorem dX12_raise_81 : decode cX12_raise 81 = .ok (.ldc_w 455, 3) := by decide +kernel
theorem dX12_raise_84 : decode cX12_raise 84 = .ok (.invokespecial 173, 3) := by decide +kernel
theorem dX12_raise_87 : decode cX12_raise 87 = .ok (.athrow, 1) := by decide +kernel
theorem dX12_raise_88 : decode cX12_raise 88 = .ok (.new 457, 3) := by decide +kernel
theorem dX12_raise_91 : decode cX12_raise 91 = .ok (.dup, 1) := by decide +kernel
theorem dX12_raise_92 : decode cX12_raise 92 = .ok (.ldc_w 459, 3) := by decide +kernel
theorem dX12_raise_95 : decode cX12_raise 95 = .ok (.invokespecial 461, 3) := by decide +kernel
theorem dX12_raise_98 : decode cX12_raise 98 = .ok (.athrow, 1) := by decide +kernel
theorem dX12_raise_99 : decode cX12_raise 99 = .ok (.return_, 1) := by decide +kernel
theorem dX12_requireBenchmark_0 : decode cX12_requireBenchmark 0 = .ok (.aload_n 0, 1) := by decide +kernel
theorem dX12_requireBenchmark_1 : decode cX12_requireBenchmark 1 = .ok (.getfield 10, 3) := by decide +kernel
theorem dX12_requireBenchmark_4 : decode cX12_requireBenchmark 4 = .ok (.iload_n 1, 1) := by decide +kernel
theorem dX12_requireBenchmark_5 : decode cX12_requireBenchmark 5 = .ok (.invokevirtual 462, 3) := by decide +kernel
theorem dX12_requireBenchmark_8 : decode cX12_requireBenchmark 8 = .ok (.ifCond .ne 14, 3) := by decide +kernel
theorem dX12_requireBenchmark_11 : decode cX12_requireBenchmark 11 = .ok (.new 370, 3) := by decide +kernel
theorem dX12_requireBenchmark_14 : decode cX12_requireBenchmark 14 = .ok (.dup, 1) := by decide +kernel
theorem dX12_requireBenchmark_15 : decode cX12_requireBenchmark 15 = .ok (.ldc_w 465, 3) := by decide +kernel
theorem dX12_requireBenchmark_18 : decode cX12_requireBenchmark 18 = .ok (.invokespecial 374, 3) := by decide +kernel
theorem dX12_requireBenchmark_21 : decode cX12_requireBenchmark 21 = .ok (.athrow, 1) := by decide +kernel
theorem dX12_requireBenchmark_22 : decode cX12_requireBenchmark 22 = .ok (.return_, 1) := by decide +kernel
theorem dX12_requireLine_0 : decode cX12_requireLine 0 = .ok (.aload_n 0, 1) := by decide +kernel
theorem dX12_requireLine_1 : decode cX12_requireLine 1 = .ok (.getfield 10, 3) := by decide +kernel
theorem dX12_requireLine_4 : decode cX12_requireLine 4 = .ok (.iload_n 1, 1) := by decide +kernel
theorem dX12_requireLine_5 : decode cX12_requireLine 5 = .ok (.invokevirtual 467, 3) := by decide +kernel
theorem dX12_requireLine_8 : decode cX12_requireLine 8 = .ok (.ifCond .ne 14, 3) := by decide +kernel
theorem dX12_requireLine_11 : decode cX12_requireLine 11 = .ok (.new 370, 3) := by decide +kernel
theorem dX12_requireLine_14 : decode cX12_requireLine 14 = .ok (.dup, 1) := by decide +kernel
theorem dX12_requireLine_15 : decode cX12_requireLine 15 = .ok (.ldc_w 470, 3) := by decide +kernel
theorem dX12_requireLine_18 : decode cX12_requireLine 18 = .ok (.invokespecial 374, 3) := by decide +kernel
theorem dX12_requireLine_21 : decode cX12_requireLine 21 = .ok (.athrow, 1) := by decide +kernel
theorem dX12_requireLine_22 : decode cX12_requireLine 22 = .ok (.return_, 1) := by decide +kernel
theorem dX12_requireProfile_0 : decode cX12_requireProfile 0 = .ok (.aload_n 0, 1) := by decide +kernel
theorem dX12_requireProfile_1 : decode cX12_requireProfile 1 = .ok (.getfield 10, 3) := by decide +kernel
theorem dX12_requireProfile_4 : decode cX12_requireProfile 4 = .ok (.iload_n 1, 1) := by decide +kernel
theorem dX12_requireProfile_5 : decode cX12_requireProfile 5 = .ok (.invokevirtual 472, 3) := by decide +kernel
theorem dX12_requireProfile_8 : decode cX12_requireProfile 8 = .ok (.ifCond .ne 14, 3) := by decide +kernel
theorem dX12_requireProfile_11 : decode cX12_requireProfile 11 = .ok (.new 370, 3) := by decide +kernel
theorem dX12_requireProfile_14 : decode cX12_requireProfile 14 = .ok (.dup, 1) := by decide +kernel
theorem dX12_requireProfile_15 : decode cX12_requireProfile 15 = .ok (.ldc_w 475, 3) := by decide +kernel
theorem dX12_requireProfile_18 : decode cX12_requireProfile 18 = .ok (.invokespecial 374, 3) := by decide +kernel
theorem dX12_requireProfile_21 : decode cX12_requireProfile 21 = .ok (.athrow, 1) := by decide +kernel
theorem dX12_requireProfile_22 : decode cX12_requireProfile 22 = .ok (.return_, 1) := by decide +kernel
theorem dX12_requireHeight_0 : decode cX12_requireHeight 0 = .ok (.aload_n 0, 1) := by decide +kernel
theorem dX12_requireHeight_1 : decode cX12_requireHeight 1 = .ok (.getfield 34, 3) := by decide +kernel
theorem dX12_requireHeight_4 : decode cX12_requireHeight 4 = .ok (.invokevirtual 152, 3) := by decide +kernel
theorem dX12_requireHeight_7 : decode cX12_requireHeight 7 = .ok (.aload_n 0, 1) := by decide +kernel
theorem dX12_requireHeight_8 : decode cX12_requireHeight 8 = .ok (.getfield 57, 3) := by decide +kernel
theorem dX12_requireHeight_11 : decode cX12_requireHeight 11 = .ok (.iload_n 1, 1) := by decide +kernel
theorem dX12_requireHeight_12 : decode cX12_requireHeight 12 = .ok (.invokevirtual 155, 3) := by decide +kernel
theorem dX12_requireHeight_15 : decode cX12_requireHeight 15 = .ok (.ifCond .ne 14, 3) := by decide +kernel
theorem dX12_requireHeight_18 : decode cX12_requireHeight 18 = .ok (.new 169, 3) := by decide +kernel
theorem dX12_requireHeight_21 : decode cX12_requireHeight 21 = .ok (.dup, 1) := by decide +kernel
theorem dX12_requireHeight_22 : decode cX12_requireHeight 22 = .ok (.ldc_w 477, 3) := by decide +kernel
theorem dX12_requireHeight_25 : decode cX12_requireHeight 25 = .ok (.invokespecial 173, 3) := by decide +kernel
theorem dX12_requireHeight_28 : decode cX12_requireHeight 28 = .ok (.athrow, 1) := by decide +kernel
theorem dX12_requireHeight_29 : decode cX12_requireHeight 29 = .ok (.return_, 1) := by decide +kernel
theorem dX12_traceLoop_0 : decode cX12_traceLoop 0 = .ok (.aload_n 0, 1) := by decide +kernel
theorem dX12_traceLoop_1 : decode cX12_traceLoop 1 = .ok (.getfield 34, 3) := by decide +kernel
theorem dX12_traceLoop_4 : decode cX12_traceLoop 4 = .ok (.invokevirtual 152, 3) := by decide +kernel
theorem dX12_traceLoop_7 : decode cX12_traceLoop 7 = .ok (.aload_n 0, 1) := by decide +kernel
theorem dX12_traceLoop_8 : decode cX12_traceLoop 8 = .ok (.getfield 34, 3) := by decide +kernel
theorem dX12_traceLoop_11 : decode cX12_traceLoop 11 = .ok (.iload_n 1, 1) := by decide +kernel
theorem dX12_traceLoop_12 : decode cX12_traceLoop 12 = .ok (.invokevirtual 479, 3) := by decide +kernel
theorem dX12_traceLoop_15 : decode cX12_traceLoop 15 = .ok (.ifCond .ne 14, 3) := by decide +kernel
theorem dX12_traceLoop_18 : decode cX12_traceLoop 18 = .ok (.new 169, 3) := by decide +kernel
theorem dX12_traceLoop_21 : decode cX12_traceLoop 21 = .ok (.dup, 1) := by decide +kernel
theorem dX12_traceLoop_22 : decode cX12_traceLoop 22 = .ok (.ldc_w 455, 3) := by decide +kernel
theorem dX12_traceLoop_25 : decode cX12_traceLoop 25 = .ok (.invokespecial 173, 3) := by decide +kernel
theorem dX12_traceLoop_28 : decode cX12_traceLoop 28 = .ok (.athrow, 1) := by decide +kernel
theorem dX12_traceLoop_29 : decode cX12_traceLoop 29 = .ok (.aload_n 0, 1) := by decide +kernel
theorem dX12_traceLoop_30 : decode cX12_traceLoop 30 = .ok (.getfield 43, 3) := by decide +kernel
theorem dX12_traceLoop_33 : decode cX12_traceLoop 33 = .ok (.iload_n 1, 1) := by decide +kernel
theorem dX12_traceLoop_34 : decode cX12_traceLoop 34 = .ok (.invokevirtual 482, 3) := by decide +kernel
theorem dX12_traceLoop_37 : decode cX12_traceLoop 37 = .ok (.return_, 1) := by decide +kernel
theorem dX12_surfaceAt_0 : decode cX12_surfaceAt 0 = .ok (.aload_n 0, 1) := by decide +kernel
theorem dX12_surfaceAt_1 : decode cX12_surfaceAt 1 = .ok (.getfield 10, 3) := by decide +kernel
theorem dX12_surfaceAt_4 : decode cX12_surfaceAt 4 = .ok (.getfield 295, 3) := by decide +kernel
theorem dX12_surfaceAt_7 : decode cX12_surfaceAt 7 = .ok (.aload_n 0, 1) := by decide +kernel
theorem dX12_surfaceAt_8 : decode cX12_surfaceAt 8 = .ok (.getfield 57, 3) := by decide +kernel
theorem dX12_surfaceAt_11 : decode cX12_surfaceAt 11 = .ok (.aload_n 0, 1) := by decide +kernel
theorem dX12_surfaceAt_12 : decode cX12_surfaceAt 12 = .ok (.getfield 10, 3) := by decide +kernel
theorem dX12_surfaceAt_15 : decode cX12_surfaceAt 15 = .ok (.getfield 304, 3) := by decide +kernel
theorem dX12_surfaceAt_18 : decode cX12_surfaceAt 18 = .ok (.iload_n 1, 1) := by decide +kernel
theorem dX12_surfaceAt_19 : decode cX12_surfaceAt 19 = .ok (.iaload, 1) := by decide +kernel
theorem dX12_surfaceAt_20 : decode cX12_surfaceAt 20 = .ok (.invokevirtual 162, 3) := by decide +kernel
theorem dX12_surfaceAt_23 : decode cX12_surfaceAt 23 = .ok (.isub, 1) := by decide +kernel
theorem dX12_surfaceAt_24 : decode cX12_surfaceAt 24 = .ok (.ireturn, 1) := by decide +kernel
theorem dX12_markOf_0 : decode cX12_markOf 0 = .ok (.aload_n 0, 1) := by decide +kernel
theorem dX12_markOf_1 : decode cX12_markOf 1 = .ok (.getfield 10, 3) := by decide +kernel
theorem dX12_markOf_4 : decode cX12_markOf 4 = .ok (.iload_n 1, 1) := by decide +kernel
theorem dX12_markOf_5 : decode cX12_markOf 5 = .ok (.invokevirtual 225, 3) := by decide +kernel
theorem dX12_markOf_8 : decode cX12_markOf 8 = .ok (.ifCond .ne 6, 3) := by decide +kernel
theorem dX12_markOf_11 : decode cX12_markOf 11 = .ok (.bipush 120, 2) := by decide +kernel
theorem dX12_markOf_13 : decode cX12_markOf 13 = .ok (.ireturn, 1) := by decide +kernel
theorem dX12_markOf_14 : decode cX12_markOf 14 = .ok (.aload_n 0, 1) := by decide +kernel
theorem dX12_markOf_15 : decode cX12_markOf 15 = .ok (.getfield 34, 3) := by decide +kernel
theorem dX12_markOf_18 : decode cX12_markOf 18 = .ok (.getfield 243, 3) := by decide +kernel
theorem dX12_markOf_21 : decode cX12_markOf 21 = .ok (.iload_n 1, 1) := by decide +kernel
theorem dX12_markOf_22 : decode cX12_markOf 22 = .ok (.baload, 1) := by decide +kernel
theorem dX12_markOf_23 : decode cX12_markOf 23 = .ok (.ifCond .eq 8, 3) := by decide +kernel
theorem dX12_markOf_26 : decode cX12_markOf 26 = .ok (.bipush 42, 2) := by decide +kernel
theorem dX12_markOf_28 : decode cX12_markOf 28 = .ok (.goto 5, 3) := by decide +kernel
theorem dX12_markOf_31 : decode cX12_markOf 31 = .ok (.bipush 111, 2) := by decide +kernel
theorem dX12_markOf_33 : decode cX12_markOf 33 = .ok (.ireturn, 1) := by decide +kernel
theorem dX12_heightsAgree_0 : decode cX12_heightsAgree 0 = .ok (.iconst 0, 1) := by decide +kernel
theorem dX12_heightsAgree_1 : decode cX12_heightsAgree 1 = .ok (.istore_n 1, 1) := by decide +kernel
theorem dX12_heightsAgree_2 : decode cX12_heightsAgree 2 = .ok (.iload_n 1, 1) := by decide +kernel
theorem dX12_heightsAgree_3 : decode cX12_heightsAgree 3 = .ok (.aload_n 0, 1) := by decide +kernel
theorem dX12_heightsAgree_4 : decode cX12_heightsAgree 4 = .ok (.getfield 10, 3) := by decide +kernel
theorem dX12_heightsAgree_7 : decode cX12_heightsAgree 7 = .ok (.getfield 141, 3) := by decide +kernel
theorem dX12_heightsAgree_10 : decode cX12_heightsAgree 10 = .ok (.if_icmp .ge 41, 3) := by decide +kernel
theorem dX12_heightsAgree_13 : decode cX12_heightsAgree 13 = .ok (.aload_n 0, 1) := by decide +kernel
theorem dX12_heightsAgree_14 : decode cX12_heightsAgree 14 = .ok (.getfield 57, 3) := by decide +kernel
theorem dX12_heightsAgree_17 : decode cX12_heightsAgree 17 = .ok (.iload_n 1, 1) := by decide +kernel
theorem dX12_heightsAgree_18 : decode cX12_heightsAgree 18 = .ok (.invokevirtual 155, 3) := by decide +kernel
theorem dX12_heightsAgree_21 : decode cX12_heightsAgree 21 = .ok (.ifCond .eq 24, 3) := by decide +kernel
theorem dX12_heightsAgree_24 : decode cX12_heightsAgree 24 = .ok (.aload_n 0, 1) := by decide +kernel
theorem dX12_heightsAgree_25 : decode cX12_heightsAgree 25 = .ok (.getfield 57, 3) := by decide +kernel
theorem dX12_heightsAgree_28 : decode cX12_heightsAgree 28 = .ok (.iload_n 1, 1) := by decide +kernel
theorem dX12_heightsAgree_29 : decode cX12_heightsAgree 29 = .ok (.invokevirtual 162, 3) := by decide +kernel
theorem dX12_heightsAgree_32 : decode cX12_heightsAgree 32 = .ok (.aload_n 0, 1) := by decide +kernel
theorem dX12_heightsAgree_33 : decode cX12_heightsAgree 33 = .ok (.getfield 57, 3) := by decide +kernel
theorem dX12_heightsAgree_36 : decode cX12_heightsAgree 36 = .ok (.iload_n 1, 1) := by decide +kernel
theorem dX12_heightsAgree_37 : decode cX12_heightsAgree 37 = .ok (.invokevirtual 166, 3) := by decide +kernel
theorem dX12_heightsAgree_40 : decode cX12_heightsAgree 40 = .ok (.if_icmp .eq 5, 3) := by decide +kernel
theorem dX12_heightsAgree_43 : decode cX12_heightsAgree 43 = .ok (.iconst 0, 1) := by decide +kernel
