theorem dX12_heightsAgree_18 : decode cX12_heightsAgree 18 = .ok (.invokevirtual 155, 3) := by decide +kernel
theorem dX12_heightsAgree_21 : decode cX12_heightsAgree 21 = .ok (.ifCond .eq 24, 3) := by decide +kernel
theorem dX12_heightsAgree_24 : decode cX12_heightsAgree 24 = .ok (.aload_n 0, 1) := by decide +kernel
theorem dX12_heightsAgree_25 : decode cX12_heightsAgree 25 = .ok (.getfield 57, 3) := by decide +kernel
theorem dX12_heightsAgree_28 : decode cX12_heightsAgree 28 = .ok (.iload_n 1, 1) := by decide +kernel
theorem dX12_heightsAgree_29 : decode cX12_heightsAgree 29 = .ok (.invokevirtual 162, 3) := by decide +kernel
theorem dX12_heightsAgree_32 : decode cX12_heightsAgree 32 = .ok (.aload_n 0, 1) := by decide +kernel
theorem dX12_heightsAgree_33 : decode cX12_heightsAgree 33 = .ok (.getfield 57, 3) := by decide +kernel
theorem dX12_heightsAgree_36 : decode cX12_heightsAgree 36 = .ok (.iload_n 1, 1) := by decide +kernel
theorem dX12_heightsAgree_37 : decode cX12_heightsAgree 37 = .ok (.invokevirtual 166, 3) := by decide +kernel
theorem dX12_heightsAgree_40 : decode cX12_heightsAgree 40 = .ok (.if_icmp .eq 5, 3) := by decide +kernel
theorem dX12_heightsAgree_43 : decode cX12_heightsAgree 43 = .ok (.iconst 0, 1) := by decide +kernel
theorem dX12_heightsAgree_44 : decode cX12_heightsAgree 44 = .ok (.ireturn, 1) := by decide +kernel
theorem dX12_heightsAgree_45 : decode cX12_heightsAgree 45 = .ok (.iinc 1 1, 3) := by decide +kernel
theorem dX12_heightsAgree_48 : decode cX12_heightsAgree 48 = .ok (.goto (-46), 3) := by decide +kernel
theorem dX12_heightsAgree_51 : decode cX12_heightsAgree 51 = .ok (.iconst 1, 1) := by decide +kernel
theorem dX12_heightsAgree_52 : decode cX12_heightsAgree 52 = .ok (.ireturn, 1) := by decide +kernel
theorem dX12_misclosuresAgree_0 : decode cX12_misclosuresAgree 0 = .ok (.iconst 0, 1) := by decide +kernel
theorem dX12_misclosuresAgree_1 : decode cX12_misclosuresAgree 1 = .ok (.istore_n 1, 1) := by decide +kernel
theorem dX12_misclosuresAgree_2 : decode cX12_misclosuresAgree 2 = .ok (.iload_n 1, 1) := by decide +kernel
theorem dX12_misclosuresAgree_3 : decode cX12_misclosuresAgree 3 = .ok (.aload_n 0, 1) := by decide +kernel
theorem dX12_misclosuresAgree_4 : decode cX12_misclosuresAgree 4 = .ok (.getfield 10, 3) := by decide +kernel
theorem dX12_misclosuresAgree_7 : decode cX12_misclosuresAgree 7 = .ok (.getfield 193, 3) := by decide +kernel
theorem dX12_misclosuresAgree_10 : decode cX12_misclosuresAgree 10 = .ok (.if_icmp .ge 48, 3) := by decide +kernel
theorem dX12_misclosuresAgree_13 : decode cX12_misclosuresAgree 13 = .ok (.aload_n 0, 1) := by decide +kernel
theorem dX12_misclosuresAgree_14 : decode cX12_misclosuresAgree 14 = .ok (.getfield 34, 3) := by decide +kernel
theorem dX12_misclosuresAgree_17 : decode cX12_misclosuresAgree 17 = .ok (.iload_n 1, 1) := by decide +kernel
theorem dX12_misclosuresAgree_18 : decode cX12_misclosuresAgree 18 = .ok (.invokevirtual 479, 3) := by decide +kernel
theorem dX12_misclosuresAgree_21 : decode cX12_misclosuresAgree 21 = .ok (.ifCond .eq 31, 3) := by decide +kernel
theorem dX12_misclosuresAgree_24 : decode cX12_misclosuresAgree 24 = .ok (.aload_n 0, 1) := by decide +kernel
theorem dX12_misclosuresAgree_25 : decode cX12_misclosuresAgree 25 = .ok (.getfield 43, 3) := by decide +kernel
theorem dX12_misclosuresAgree_28 : decode cX12_misclosuresAgree 28 = .ok (.iload_n 1, 1) := by decide +kernel
theorem dX12_misclosuresAgree_29 : decode cX12_misclosuresAgree 29 = .ok (.invokevirtual 482, 3) := by decide +kernel
theorem dX12_misclosuresAgree_32 : decode cX12_misclosuresAgree 32 = .ok (.aload_n 0, 1) := by decide +kernel
theorem dX12_misclosuresAgree_33 : decode cX12_misclosuresAgree 33 = .ok (.getfield 43, 3) := by decide +kernel
theorem dX12_misclosuresAgree_36 : decode cX12_misclosuresAgree 36 = .ok (.invokevirtual 273, 3) := by decide +kernel
theorem dX12_misclosuresAgree_39 : decode cX12_misclosuresAgree 39 = .ok (.aload_n 0, 1) := by decide +kernel
theorem dX12_misclosuresAgree_40 : decode cX12_misclosuresAgree 40 = .ok (.getfield 57, 3) := by decide +kernel
theorem dX12_misclosuresAgree_43 : decode cX12_misclosuresAgree 43 = .ok (.iload_n 1, 1) := by decide +kernel
theorem dX12_misclosuresAgree_44 : decode cX12_misclosuresAgree 44 = .ok (.invokevirtual 276, 3) := by decide +kernel
theorem dX12_misclosuresAgree_47 : decode cX12_misclosuresAgree 47 = .ok (.if_icmp .eq 5, 3) := by decide +kernel
theorem dX12_misclosuresAgree_50 : decode cX12_misclosuresAgree 50 = .ok (.iconst 0, 1) := by decide +kernel
theorem dX12_misclosuresAgree_51 : decode cX12_misclosuresAgree 51 = .ok (.ireturn, 1) := by decide +kernel
theorem dX12_misclosuresAgree_52 : decode cX12_misclosuresAgree 52 = .ok (.iinc 1 1, 3) := by decide +kernel
theorem dX12_misclosuresAgree_55 : decode cX12_misclosuresAgree 55 = .ok (.goto (-53), 3) := by decide +kernel
theorem dX12_misclosuresAgree_58 : decode cX12_misclosuresAgree 58 = .ok (.iconst 1, 1) := by decide +kernel
theorem dX12_misclosuresAgree_59 : decode cX12_misclosuresAgree 59 = .ok (.ireturn, 1) := by decide +kernel
theorem dX12_wetColumnsAgree_0 : decode cX12_wetColumnsAgree 0 = .ok (.iconst 0, 1) := by decide +kernel
theorem dX12_wetColumnsAgree_1 : decode cX12_wetColumnsAgree 1 = .ok (.istore_n 1, 1) := by decide +kernel
theorem dX12_wetColumnsAgree_2 : decode cX12_wetColumnsAgree 2 = .ok (.iload_n 1, 1) := by decide +kernel
theorem dX12_wetColumnsAgree_3 : decode cX12_wetColumnsAgree 3 = .ok (.aload_n 0, 1) := by decide +kernel
theorem dX12_wetColumnsAgree_4 : decode cX12_wetColumnsAgree 4 = .ok (.getfield 10, 3) := by decide +kernel
theorem dX12_wetColumnsAgree_7 : decode cX12_wetColumnsAgree 7 = .ok (.getfield 286, 3) := by decide +kernel
theorem dX12_wetColumnsAgree_10 : decode cX12_wetColumnsAgree 10 = .ok (.if_icmp .ge 57, 3) := by decide +kernel
theorem dX12_wetColumnsAgree_13 : decode cX12_wetColumnsAgree 13 = .ok (.aload_n 0, 1) := by decide +kernel
theorem dX12_wetColumnsAgree_14 : decode cX12_wetColumnsAgree 14 = .ok (.getfield 57, 3) := by decide +kernel
theorem dX12_wetColumnsAgree_17 : decode cX12_wetColumnsAgree 17 = .ok (.aload_n 0, 1) := by decide +kernel
theorem dX12_wetColumnsAgree_18 : decode cX12_wetColumnsAgree 18 = .ok (.getfield 10, 3) := by decide +kernel
theorem dX12_wetColumnsAgree_21 : decode cX12_wetColumnsAgree 21 = .ok (.getfield 304, 3) := by decide +kernel
theorem dX12_wetColumnsAgree_24 : decode cX12_wetColumnsAgree 24 = .ok (.iload_n 1, 1) := by decide +kernel
theorem dX12_wetColumnsAgree_25 : decode cX12_wetColumnsAgree 25 = .ok (.iaload, 1) := by decide +kernel
theorem dX12_wetColumnsAgree_26 : decode cX12_wetColumnsAgree 26 = .ok (.invokevirtual 155, 3) := by decide +kernel
theorem dX12_wetColumnsAgree_29 : decode cX12_wetColumnsAgree 29 = .ok (.ifCond .eq 32, 3) := by decide +kernel
theorem dX12_wetColumnsAgree_32 : decode cX12_wetColumnsAgree 32 = .ok (.aload_n 0, 1) := by decide +kernel
theorem dX12_wetColumnsAgree_33 : decode cX12_wetColumnsAgree 33 = .ok (.iload_n 1, 1) := by decide +kernel
theorem dX12_wetColumnsAgree_34 : decode cX12_wetColumnsAgree 34 = .ok (.invokevirtual 311, 3) := by decide +kernel
theorem dX12_wetColumnsAgree_37 : decode cX12_wetColumnsAgree 37 = .ok (.istore_n 2, 1) := by decide +kernel
theorem dX12_wetColumnsAgree_38 : decode cX12_wetColumnsAgree 38 = .ok (.aload_n 0, 1) := by decide +kernel
theorem dX12_wetColumnsAgree_39 : decode cX12_wetColumnsAgree 39 = .ok (.getfield 64, 3) := by decide +kernel
theorem dX12_wetColumnsAgree_42 : decode cX12_wetColumnsAgree 42 = .ok (.iload_n 1, 1) := by decide +kernel
theorem dX12_wetColumnsAgree_43 : decode cX12_wetColumnsAgree 43 = .ok (.iload_n 2, 1) := by decide +kernel
theorem dX12_wetColumnsAgree_44 : decode cX12_wetColumnsAgree 44 = .ok (.invokevirtual 314, 3) := by decide +kernel
theorem dX12_wetColumnsAgree_47 : decode cX12_wetColumnsAgree 47 = .ok (.aload_n 0, 1) := by decide +kernel
theorem dX12_wetColumnsAgree_48 : decode cX12_wetColumnsAgree 48 = .ok (.getfield 64, 3) := by decide +kernel
theorem dX12_wetColumnsAgree_51 : decode cX12_wetColumnsAgree 51 = .ok (.iload_n 1, 1) := by decide +kernel
theorem dX12_wetColumnsAgree_52 : decode cX12_wetColumnsAgree 52 = .ok (.iload_n 2, 1) := by decide +kernel
theorem dX12_wetColumnsAgree_53 : decode cX12_wetColumnsAgree 53 = .ok (.invokevirtual 317, 3) := by decide +kernel
theorem dX12_wetColumnsAgree_56 : decode cX12_wetColumnsAgree 56 = .ok (.if_icmp .eq 5, 3) := by decide +kernel
theorem dX12_wetColumnsAgree_59 : decode cX12_wetColumnsAgree 59 = .ok (.iconst 0, 1) := by decide +kernel
theorem dX12_wetColumnsAgree_60 : decode cX12_wetColumnsAgree 60 = .ok (.ireturn, 1) := by decide +kernel
theorem dX12_wetColumnsAgree_61 : decode cX12_wetColumnsAgree 61 = .ok (.iinc 1 1, 3) := by decide +kernel
theorem dX12_wetColumnsAgree_64 : decode cX12_wetColumnsAgree 64 = .ok (.goto (-62), 3) := by decide +kernel
theorem dX12_wetColumnsAgree_67 : decode cX12_wetColumnsAgree 67 = .ok (.iconst 1, 1) := by decide +kernel
theorem dX12_wetColumnsAgree_68 : decode cX12_wetColumnsAgree 68 = .ok (.ireturn, 1) := by decide +kernel
theorem dX12_firstFailure_0 : decode cX12_firstFailure 0 = .ok (.iconst 0, 1) := by decide +kernel
theorem dX12_firstFailure_1 : decode cX12_firstFailure 1 = .ok (.istore_n 1, 1) := by decide +kernel
theorem dX12_firstFailure_2 : decode cX12_firstFailure 2 = .ok (.iload_n 1, 1) := by decide +kernel
theorem dX12_firstFailure_3 : decode cX12_firstFailure 3 = .ok (.aload_n 0, 1) := by decide +kernel
theorem dX12_firstFailure_4 : decode cX12_firstFailure 4 = .ok (.getfield 80, 3) := by decide +kernel
theorem dX12_firstFailure_7 : decode cX12_firstFailure 7 = .ok (.getfield 409, 3) := by decide +kernel
theorem dX12_firstFailure_10 : decode cX12_firstFailure 10 = .ok (.if_icmp .ge 82, 3) := by decide +kernel
theorem dX12_firstFailure_13 : decode cX12_firstFailure 13 = .ok (.aload_n 0, 1) := by decide +kernel
theorem dX12_firstFailure_14 : decode cX12_firstFailure 14 = .ok (.getfield 80, 3) := by decide +kernel
theorem dX12_firstFailure_17 : decode cX12_firstFailure 17 = .ok (.getfield 483, 3) := by decide +kernel
theorem dX12_firstFailure_20 : decode cX12_firstFailure 20 = .ok (.iload_n 1, 1) := by decide +kernel
theorem dX12_firstFailure_21 : decode cX12_firstFailure 21 = .ok (.aaload, 1) := by decide +kernel
theorem dX12_firstFailure_22 : decode cX12_firstFailure 22 = .ok (.astore_n 2, 1) := by decide +kernel
theorem dX12_firstFailure_23 : decode cX12_firstFailure 23 = .ok (.aload_n 0, 1) := by decide +kernel
theorem dX12_firstFailure_24 : decode cX12_firstFailure 24 = .ok (.getfield 80, 3) := by decide +kernel
theorem dX12_firstFailure_27 : decode cX12_firstFailure 27 = .ok (.getfield 487, 3) := by decide +kernel
theorem dX12_firstFailure_30 : decode cX12_firstFailure 30 = .ok (.iload_n 1, 1) := by decide +kernel
theorem dX12_firstFailure_31 : decode cX12_firstFailure 31 = .ok (.aaload, 1) := by decide +kernel
theorem dX12_firstFailure_32 : decode cX12_firstFailure 32 = .ok (.astore_n 3, 1) := by decide +kernel
theorem dX12_firstFailure_33 : decode cX12_firstFailure 33 = .ok (.aload_n 2, 1) := by decide +kernel
theorem dX12_firstFailure_34 : decode cX12_firstFailure 34 = .ok (.ifnull 29, 3) := by decide +kernel
theorem dX12_firstFailure_37 : decode cX12_firstFailure 37 = .ok (.aload_n 0, 1) := by decide +kernel
theorem dX12_firstFailure_38 : decode cX12_firstFailure 38 = .ok (.getfield 73, 3) := by decide +kernel
theorem dX12_firstFailure_41 : decode cX12_firstFailure 41 = .ok (.aload_n 2, 1) := by decide +kernel
theorem dX12_firstFailure_42 : decode cX12_firstFailure 42 = .ok (.aload_n 3, 1) := by decide +kernel
theorem dX12_firstFailure_43 : decode cX12_firstFailure 43 = .ok (.iconst 0, 1) := by decide +kernel
theorem dX12_firstFailure_44 : decode cX12_firstFailure 44 = .ok (.iaload, 1) := by decide +kernel
theorem dX12_firstFailure_45 : decode cX12_firstFailure 45 = .ok (.aload_n 3, 1) := by decide +kernel
theorem dX12_firstFailure_46 : decode cX12_firstFailure 46 = .ok (.iconst 1, 1) := by decide +kernel
theorem dX12_firstFailure_47 : decode cX12_firstFailure 47 = .ok (.iaload, 1) := by decide +kernel
theorem dX12_firstFailure_48 : decode cX12_firstFailure 48 = .ok (.aload_n 3, 1) := by decide +kernel
theorem dX12_firstFailure_49 : decode cX12_firstFailure 49 = .ok (.iconst 2, 1) := by decide +kernel
theorem dX12_firstFailure_50 : decode cX12_firstFailure 50 = .ok (.iaload, 1) := by decide +kernel
theorem dX12_firstFailure_51 : decode cX12_firstFailure 51 = .ok (.aload_n 3, 1) := by decide +kernel
theorem dX12_firstFailure_52 : decode cX12_firstFailure 52 = .ok (.iconst 3, 1) := by decide +kernel
theorem dX12_firstFailure_53 : decode cX12_firstFailure 53 = .ok (.iaload, 1) := by decide +kernel
theorem dX12_firstFailure_54 : decode cX12_firstFailure 54 = .ok (.invokevirtual 428, 3) := by decide +kernel
theorem dX12_firstFailure_57 : decode cX12_firstFailure 57 = .ok (.getstatic 491, 3) := by decide +kernel
theorem dX12_firstFailure_60 : decode cX12_firstFailure 60 = .ok (.if_acmp .eq 5, 3) := by decide +kernel
theorem dX12_firstFailure_63 : decode cX12_firstFailure 63 = .ok (.iload_n 1, 1) := by decide +kernel
theorem dX12_firstFailure_64 : decode cX12_firstFailure 64 = .ok (.ireturn, 1) := by decide +kernel
theorem dX12_firstFailure_65 : decode cX12_firstFailure 65 = .ok (.aload_n 0, 1) := by decide +kernel
theorem dX12_firstFailure_66 : decode cX12_firstFailure 66 = .ok (.getfield 73, 3) := by decide +kernel
theorem dX12_firstFailure_69 : decode cX12_firstFailure 69 = .ok (.aload_n 2, 1) := by decide +kernel
theorem dX12_firstFailure_70 : decode cX12_firstFailure 70 = .ok (.aload_n 3, 1) := by decide +kernel
theorem dX12_firstFailure_71 : decode cX12_firstFailure 71 = .ok (.iconst 0, 1) := by decide +kernel
theorem dX12_firstFailure_72 : decode cX12_firstFailure 72 = .ok (.iaload, 1) := by decide +kernel
theorem dX12_firstFailure_73 : decode cX12_firstFailure 73 = .ok (.aload_n 3, 1) := by decide +kernel
theorem dX12_firstFailure_74 : decode cX12_firstFailure 74 = .ok (.iconst 1, 1) := by decide +kernel
theorem dX12_firstFailure_75 : decode cX12_firstFailure 75 = .ok (.iaload, 1) := by decide +kernel
theorem dX12_firstFailure_76 : decode cX12_firstFailure 76 = .ok (.aload_n 3, 1) := by decide +kernel
theorem dX12_firstFailure_77 : decode cX12_firstFailure 77 = .ok (.iconst 2, 1) := by decide +kernel
theorem dX12_firstFailure_78 : decode cX12_firstFailure 78 = .ok (.iaload, 1) := by decide +kernel
theorem dX12_firstFailure_79 : decode cX12_firstFailure 79 = .ok (.aload_n 3, 1) := by decide +kernel
theorem dX12_firstFailure_80 : decode cX12_firstFailure 80 = .ok (.iconst 3, 1) := by decide +kernel
theorem dX12_firstFailure_81 : decode cX12_firstFailure 81 = .ok (.iaload, 1) := by decide +kernel
theorem dX12_firstFailure_82 : decode cX12_firstFailure 82 = .ok (.invokevirtual 436, 3) := by decide +kernel
theorem dX12_firstFailure_85 : decode cX12_firstFailure 85 = .ok (.pop, 1) := by decide +kernel
theorem dX12_firstFailure_86 : decode cX12_firstFailure 86 = .ok (.iinc 1 1, 3) := by decide +kernel
theorem dX12_firstFailure_89 : decode cX12_firstFailure 89 = .ok (.goto (-87), 3) := by decide +kernel
theorem dX12_firstFailure_92 : decode cX12_firstFailure 92 = .ok (.iconst (-1), 1) := by decide +kernel
theorem dX12_firstFailure_93 : decode cX12_firstFailure 93 = .ok (.ireturn, 1) := by decide +kernel
theorem dX12_within_0 : decode cX12_within 0 = .ok (.iload_n 0, 1) := by decide +kernel
theorem dX12_within_1 : decode cX12_within 1 = .ok (.iload_n 1, 1) := by decide +kernel
theorem dX12_within_2 : decode cX12_within 2 = .ok (.if_icmp .lt 12, 3) := by decide +kernel
theorem dX12_within_5 : decode cX12_within 5 = .ok (.iload_n 0, 1) := by decide +kernel
theorem dX12_within_6 : decode cX12_within 6 = .ok (.iload_n 2, 1) := by decide +kernel
theorem dX12_within_7 : decode cX12_within 7 = .ok (.if_icmp .gt 7, 3) := by decide +kernel
theorem dX12_within_10 : decode cX12_within 10 = .ok (.iconst 1, 1) := by decide +kernel
theorem dX12_within_11 : decode cX12_within 11 = .ok (.goto 4, 3) := by decide +kernel
theorem dX12_within_14 : decode cX12_within 14 = .ok (.iconst 0, 1) := by decide +kernel
theorem dX12_within_15 : decode cX12_within 15 = .ok (.ireturn, 1) := by decide +kernel
theorem dX12_toleranceFor_0 : decode cX12_toleranceFor 0 = .ok (.iconst 0, 1) := by decide +kernel
theorem dX12_toleranceFor_1 : decode cX12_toleranceFor 1 = .ok (.istore_n 1, 1) := by decide +kernel
theorem dX12_toleranceFor_2 : decode cX12_toleranceFor 2 = .ok (.iconst 1, 1) := by decide +kernel
theorem dX12_toleranceFor_3 : decode cX12_toleranceFor 3 = .ok (.istore_n 2, 1) := by decide +kernel
theorem dX12_toleranceFor_4 : decode cX12_toleranceFor 4 = .ok (.iload_n 2, 1) := by decide +kernel
theorem dX12_toleranceFor_5 : decode cX12_toleranceFor 5 = .ok (.bipush 84, 2) := by decide +kernel
theorem dX12_toleranceFor_7 : decode cX12_toleranceFor 7 = .ok (.if_icmp .gt 21, 3) := by decide +kernel
theorem dX12_toleranceFor_10 : decode cX12_toleranceFor 10 = .ok (.iload_n 2, 1) := by decide +kernel
theorem dX12_toleranceFor_11 : decode cX12_toleranceFor 11 = .ok (.iload_n 2, 1) := by decide +kernel
theorem dX12_toleranceFor_12 : decode cX12_toleranceFor 12 = .ok (.imul, 1) := by decide +kernel
theorem dX12_toleranceFor_13 : decode cX12_toleranceFor 13 = .ok (.bipush 9, 2) := by decide +kernel
theorem dX12_toleranceFor_15 : decode cX12_toleranceFor 15 = .ok (.iload_n 0, 1) := by decide +kernel
theorem dX12_toleranceFor_16 : decode cX12_toleranceFor 16 = .ok (.imul, 1) := by decide +kernel
theorem dX12_toleranceFor_17 : decode cX12_toleranceFor 17 = .ok (.if_icmp .gt 11, 3) := by decide +kernel
theorem dX12_toleranceFor_20 : decode cX12_toleranceFor 20 = .ok (.iload_n 2, 1) := by decide +kernel
theorem dX12_toleranceFor_21 : decode cX12_toleranceFor 21 = .ok (.istore_n 1, 1) := by decide +kernel
theorem dX12_toleranceFor_22 : decode cX12_toleranceFor 22 = .ok (.iinc 2 1, 3) := by decide +kernel
theorem dX12_toleranceFor_25 : decode cX12_toleranceFor 25 = .ok (.goto (-21), 3) := by decide +kernel
theorem dX12_toleranceFor_28 : decode cX12_toleranceFor 28 = .ok (.iload_n 1, 1) := by decide +kernel
theorem dX12_toleranceFor_29 : decode cX12_toleranceFor 29 = .ok (.ireturn, 1) := by decide +kernel
theorem dX13_init_0 : decode cX13_init 0 = .ok (.aload_n 0, 1) := by decide +kernel
theorem dX13_init_1 : decode cX13_init 1 = .ok (.invokespecial 1, 3) := by decide +kernel
theorem dX13_init_4 : decode cX13_init 4 = .ok (.aload_n 0, 1) := by decide +kernel
theorem dX13_init_5 : decode cX13_init 5 = .ok (.sipush 240, 3) := by decide +kernel
theorem dX13_init_8 : decode cX13_init 8 = .ok (.newarray .int, 2) := by decide +kernel
theorem dX13_init_10 : decode cX13_init 10 = .ok (.putfield 7, 3) := by decide +kernel
theorem dX13_init_13 : decode cX13_init 13 = .ok (.aload_n 0, 1) := by decide +kernel
theorem dX13_init_14 : decode cX13_init 14 = .ok (.sipush 240, 3) := by decide +kernel
theorem dX13_init_17 : decode cX13_init 17 = .ok (.newarray .int, 2) := by decide +kernel
theorem dX13_init_19 : decode cX13_init 19 = .ok (.putfield 13, 3) := by decide +kernel
theorem dX13_init_22 : decode cX13_init 22 = .ok (.aload_n 0, 1) := by decide +kernel
theorem dX13_init_23 : decode cX13_init 23 = .ok (.sipush 1920, 3) := by decide +kernel
theorem dX13_init_26 : decode cX13_init 26 = .ok (.newarray .int, 2) := by decide +kernel
theorem dX13_init_28 : decode cX13_init 28 = .ok (.putfield 16, 3) := by decide +kernel
theorem dX13_init_31 : decode cX13_init 31 = .ok (.aload_n 0, 1) := by decide +kernel
theorem dX13_init_32 : decode cX13_init 32 = .ok (.sipush 240, 3) := by decide +kernel
theorem dX13_init_35 : decode cX13_init 35 = .ok (.newarray .int, 2) := by decide +kernel
theorem dX13_init_37 : decode cX13_init 37 = .ok (.putfield 19, 3) := by decide +kernel
theorem dX13_init_40 : decode cX13_init 40 = .ok (.aload_n 0, 1) := by decide +kernel
theorem dX13_init_41 : decode cX13_init 41 = .ok (.bipush 60, 2) := by decide +kernel
theorem dX13_init_43 : decode cX13_init 43 = .ok (.newarray .char, 2) := by decide +kernel
theorem dX13_init_45 : decode cX13_init 45 = .ok (.putfield 22, 3) := by decide +kernel
theorem dX13_init_48 : decode cX13_init 48 = .ok (.aload_n 0, 1) := by decide +kernel
theorem dX13_init_49 : decode cX13_init 49 = .ok (.iconst (-1), 1) := by decide +kernel
theorem dX13_init_50 : decode cX13_init 50 = .ok (.putfield 26, 3) := by decide +kernel
theorem dX13_init_53 : decode cX13_init 53 = .ok (.aload_n 0, 1) := by decide +kernel
theorem dX13_init_54 : decode cX13_init 54 = .ok (.iconst (-1), 1) := by decide +kernel
theorem dX13_init_55 : decode cX13_init 55 = .ok (.putfield 30, 3) := by decide +kernel
theorem dX13_init_58 : decode cX13_init 58 = .ok (.aload_n 0, 1) := by decide +kernel
theorem dX13_init_59 : decode cX13_init 59 = .ok (.bipush 60, 2) := by decide +kernel
theorem dX13_init_61 : decode cX13_init 61 = .ok (.newarray .char, 2) := by decide +kernel
theorem dX13_init_63 : decode cX13_init 63 = .ok (.putfield 33, 3) := by decide +kernel
theorem dX13_init_66 : decode cX13_init 66 = .ok (.aload_n 0, 1) := by decide +kernel
theorem dX13_init_67 : decode cX13_init 67 = .ok (.bipush 16, 2) := by decide +kernel
theorem dX13_init_69 : decode cX13_init 69 = .ok (.newarray .int, 2) := by decide +kernel
theorem dX13_init_71 : decode cX13_init 71 = .ok (.putfield 36, 3) := by decide +kernel
theorem dX13_init_74 : decode cX13_init 74 = .ok (.aload_n 0, 1) := by decide +kernel
theorem dX13_init_75 : decode cX13_init 75 = .ok (.bipush 10, 2) := by decide +kernel
theorem dX13_init_77 : decode cX13_init 77 = .ok (.newarray .int, 2) := by decide +kernel
theorem dX13_init_79 : decode cX13_init 79 = .ok (.putfield 39, 3) := by decide +kernel
theorem dX13_init_82 : decode cX13_init 82 = .ok (.aload_n 0, 1) := by decide +kernel
theorem dX13_init_83 : decode cX13_init 83 = .ok (.bipush 10, 2) := by decide +kernel
theorem dX13_init_85 : decode cX13_init 85 = .ok (.newarray .int, 2) := by decide +kernel
theorem dX13_init_87 : decode cX13_init 87 = .ok (.putfield 42, 3) := by decide +kernel
theorem dX13_init_90 : decode cX13_init 90 = .ok (.aload_n 0, 1) := by decide +kernel
theorem dX13_init_91 : decode cX13_init 91 = .ok (.bipush 10, 2) := by decide +kernel
theorem dX13_init_93 : decode cX13_init 93 = .ok (.newarray .boolean, 2) := by decide +kernel
theorem dX13_init_95 : decode cX13_init 95 = .ok (.putfield 45, 3) := by decide +kernel
theorem dX13_init_98 : decode cX13_init 98 = .ok (.aload_n 0, 1) := by decide +kernel
theorem dX13_init_99 : decode cX13_init 99 = .ok (.bipush 16, 2) := by decide +kernel
theorem dX13_init_101 : decode cX13_init 101 = .ok (.newarray .int, 2) := by decide +kernel
theorem dX13_init_103 : decode cX13_init 103 = .ok (.putfield 49, 3) := by decide +kernel
theorem dX13_init_106 : decode cX13_init 106 = .ok (.aload_n 0, 1) := by decide +kernel
theorem dX13_init_107 : decode cX13_init 107 = .ok (.bipush 16, 2) := by decide +kernel
theorem dX13_init_109 : decode cX13_init 109 = .ok (.newarray .int, 2) := by decide +kernel
theorem dX13_init_111 : decode cX13_init 111 = .ok (.putfield 52, 3) := by decide +kernel
theorem dX13_init_114 : decode cX13_init 114 = .ok (.aload_n 0, 1) := by decide +kernel
theorem dX13_init_115 : decode cX13_init 115 = .ok (.bipush 10, 2) := by decide +kernel
theorem dX13_init_117 : decode cX13_init 117 = .ok (.newarray .int, 2) := by decide +kernel
theorem dX13_init_119 : decode cX13_init 119 = .ok (.putfield 55, 3) := by decide +kernel
theorem dX13_init_122 : decode cX13_init 122 = .ok (.aload_n 0, 1) := by decide +kernel
theorem dX13_init_123 : decode cX13_init 123 = .ok (.sipush 300, 3) := by decide +kernel
theorem dX13_init_126 : decode cX13_init 126 = .ok (.newarray .int, 2) := by decide +kernel
theorem dX13_init_128 : decode cX13_init 128 = .ok (.putfield 58, 3) := by decide +kernel
theorem dX13_init_131 : decode cX13_init 131 = .ok (.return_, 1) := by decide +kernel
theorem dX13_thrown_0 : decode cX13_thrown 0 = .ok (.aload_n 0, 1) := by decide +kernel
theorem dX13_thrown_1 : decode cX13_thrown 1 = .ok (.getfield 61, 3) := by decide +kernel
theorem dX13_thrown_4 : decode cX13_thrown 4 = .ok (.ireturn, 1) := by decide +kernel
theorem dX13_in_0 : decode cX13_in 0 = .ok (.iload_n 0, 1) := by decide +kernel
theorem dX13_in_1 : decode cX13_in 1 = .ok (.iload_n 1, 1) := by decide +kernel
theorem dX13_in_2 : decode cX13_in 2 = .ok (.if_icmp .lt 12, 3) := by decide +kernel
theorem dX13_in_5 : decode cX13_in 5 = .ok (.iload_n 0, 1) := by decide +kernel
theorem dX13_in_6 : decode cX13_in 6 = .ok (.iload_n 2, 1) := by decide +kernel
theorem dX13_in_7 : decode cX13_in 7 = .ok (.if_icmp .gt 7, 3) := by decide +kernel
theorem dX13_in_10 : decode cX13_in 10 = .ok (.iconst 1, 1) := by decide +kernel
theorem dX13_in_11 : decode cX13_in 11 = .ok (.goto 4, 3) := by decide +kernel
theorem dX13_in_14 : decode cX13_in 14 = .ok (.iconst 0, 1) := by decide +kernel
theorem dX13_in_15 : decode cX13_in 15 = .ok (.ireturn, 1) := by decide +kernel
theorem dX13_size_0 : decode cX13_size 0 = .ok (.iload_n 0, 1) := by decide +kernel
theorem dX13_size_1 : decode cX13_size 1 = .ok (.ifCond .ge 8, 3) := by decide +kernel
theorem dX13_size_4 : decode cX13_size 4 = .ok (.iload_n 0, 1) := by decide +kernel
theorem dX13_size_5 : decode cX13_size 5 = .ok (.ineg, 1) := by decide +kernel
theorem dX13_size_6 : decode cX13_size 6 = .ok (.goto 4, 3) := by decide +kernel
theorem dX13_size_9 : decode cX13_size 9 = .ok (.iload_n 0, 1) := by decide +kernel
theorem dX13_size_10 : decode cX13_size 10 = .ok (.ireturn, 1) := by decide +kernel
theorem dX13_quotient_0 : decode cX13_quotient 0 = .ok (.iload_n 0, 1) := by decide +kernel
theorem dX13_quotient_1 : decode cX13_quotient 1 = .ok (.ifCond .lt 9, 3) := by decide +kernel
theorem dX13_quotient_4 : decode cX13_quotient 4 = .ok (.iload_n 0, 1) := by decide +kernel
theorem dX13_quotient_5 : decode cX13_quotient 5 = .ok (.iload_n 1, 1) := by decide +kernel
theorem dX13_quotient_6 : decode cX13_quotient 6 = .ok (.idiv, 1) := by decide +kernel
theorem dX13_quotient_7 : decode cX13_quotient 7 = .ok (.goto 12, 3) := by decide +kernel
theorem dX13_quotient_10 : decode cX13_quotient 10 = .ok (.iload_n 0, 1) := by decide +kernel
theorem dX13_quotient_11 : decode cX13_quotient 11 = .ok (.ineg, 1) := by decide +kernel
theorem dX13_quotient_12 : decode cX13_quotient 12 = .ok (.iload_n 1, 1) := by decide +kernel
theorem dX13_quotient_13 : decode cX13_quotient 13 = .ok (.iadd, 1) := by decide +kernel
theorem dX13_quotient_14 : decode cX13_quotient 14 = .ok (.iconst 1, 1) := by decide +kernel
theorem dX13_quotient_15 : decode cX13_quotient 15 = .ok (.isub, 1) := by decide +kernel
theorem dX13_quotient_16 : decode cX13_quotient 16 = .ok (.iload_n 1, 1) := by decide +kernel
theorem dX13_quotient_17 : decode cX13_quotient 17 = .ok (.idiv, 1) := by decide +kernel
theorem dX13_quotient_18 : decode cX13_quotient 18 = .ok (.ineg, 1) := by decide +kernel
theorem dX13_quotient_19 : decode cX13_quotient 19 = .ok (.ireturn, 1) := by decide +kernel
theorem dX13_done_0 : decode cX13_done 0 = .ok (.aload_n 0, 1) := by decide +kernel
theorem dX13_done_1 : decode cX13_done 1 = .ok (.iconst 0, 1) := by decide +kernel
theorem dX13_done_2 : decode cX13_done 2 = .ok (.putfield 61, 3) := by decide +kernel
theorem dX13_done_5 : decode cX13_done 5 = .ok (.iload_n 1, 1) := by decide +kernel
theorem dX13_done_6 : decode cX13_done 6 = .ok (.ireturn, 1) := by decide +kernel
theorem dX13_fails_0 : decode cX13_fails 0 = .ok (.aload_n 0, 1) := by decide +kernel
theorem dX13_fails_1 : decode cX13_fails 1 = .ok (.iload_n 1, 1) := by decide +kernel
theorem dX13_fails_2 : decode cX13_fails 2 = .ok (.putfield 61, 3) := by decide +kernel
theorem dX13_fails_5 : decode cX13_fails 5 = .ok (.iconst 0, 1) := by decide +kernel
theorem dX13_fails_6 : decode cX13_fails 6 = .ok (.ireturn, 1) := by decide +kernel
theorem dX13_copy_0 : decode cX13_copy 0 = .ok (.iconst 0, 1) := by decide +kernel
theorem dX13_copy_1 : decode cX13_copy 1 = .ok (.istore 4, 2) := by decide +kernel
theorem dX13_copy_3 : decode cX13_copy 3 = .ok (.iload 4, 2) := by decide +kernel
theorem dX13_copy_5 : decode cX13_copy 5 = .ok (.sipush 240, 3) := by decide +kernel
theorem dX13_copy_8 : decode cX13_copy 8 = .ok (.if_icmp .ge 21, 3) := by decide +kernel
theorem dX13_copy_11 : decode cX13_copy 11 = .ok (.aload_n 2, 1) := by decide +kernel
theorem dX13_copy_12 : decode cX13_copy 12 = .ok (.iload_n 3, 1) := by decide +kernel
theorem dX13_copy_13 : decode cX13_copy 13 = .ok (.iload 4, 2) := by decide +kernel
theorem dX13_copy_15 : decode cX13_copy 15 = .ok (.iadd, 1) := by decide +kernel
theorem dX13_copy_16 : decode cX13_copy 16 = .ok (.aload_n 0, 1) := by decide +kernel
theorem dX13_copy_17 : decode cX13_copy 17 = .ok (.iload_n 1, 1) := by decide +kernel
theorem dX13_copy_18 : decode cX13_copy 18 = .ok (.iload 4, 2) := by decide +kernel
theorem dX13_copy_20 : decode cX13_copy 20 = .ok (.iadd, 1) := by decide +kernel
theorem dX13_copy_21 : decode cX13_copy 21 = .ok (.iaload, 1) := by decide +kernel
theorem dX13_copy_22 : decode cX13_copy 22 = .ok (.iastore, 1) := by decide +kernel
theorem dX13_copy_23 : decode cX13_copy 23 = .ok (.iinc 4 1, 3) := by decide +kernel
theorem dX13_copy_26 : decode cX13_copy 26 = .ok (.goto (-23), 3) := by decide +kernel
theorem dX13_copy_29 : decode cX13_copy 29 = .ok (.return_, 1) := by decide +kernel
theorem dX13_begin_0 : decode cX13_begin 0 = .ok (.aload_n 0, 1) := by decide +kernel
theorem dX13_begin_1 : decode cX13_begin 1 = .ok (.getfield 7, 3) := by decide +kernel
theorem dX13_begin_4 : decode cX13_begin 4 = .ok (.iconst 0, 1) := by decide +kernel
theorem dX13_begin_5 : decode cX13_begin 5 = .ok (.aload_n 0, 1) := by decide +kernel
theorem dX13_begin_6 : decode cX13_begin 6 = .ok (.getfield 13, 3) := by decide +kernel
theorem dX13_begin_9 : decode cX13_begin 9 = .ok (.iconst 0, 1) := by decide +kernel
theorem dX13_begin_10 : decode cX13_begin 10 = .ok (.invokestatic 64, 3) := by decide +kernel
theorem dX13_begin_13 : decode cX13_begin 13 = .ok (.return_, 1) := by decide +kernel
theorem dX13_kept_0 : decode cX13_kept 0 = .ok (.aload_n 0, 1) := by decide +kernel
theorem dX13_kept_1 : decode cX13_kept 1 = .ok (.getfield 61, 3) := by decide +kernel
theorem dX13_kept_4 : decode cX13_kept 4 = .ok (.ifCond .eq 18, 3) := by decide +kernel
theorem dX13_kept_7 : decode cX13_kept 7 = .ok (.aload_n 0, 1) := by decide +kernel
theorem dX13_kept_8 : decode cX13_kept 8 = .ok (.getfield 13, 3) := by decide +kernel
theorem dX13_kept_11 : decode cX13_kept 11 = .ok (.iconst 0, 1) := by decide +kernel
theorem dX13_kept_12 : decode cX13_kept 12 = .ok (.aload_n 0, 1) := by decide +kernel
theorem dX13_kept_13 : decode cX13_kept 13 = .ok (.getfield 7, 3) := by decide +kernel
theorem dX13_kept_16 : decode cX13_kept 16 = .ok (.iconst 0, 1) := by decide +kernel
theorem dX13_kept_17 : decode cX13_kept 17 = .ok (.invokestatic 64, 3) := by decide +kernel
theorem dX13_kept_20 : decode cX13_kept 20 = .ok (.iconst 0, 1) := by decide +kernel
theorem dX13_kept_21 : decode cX13_kept 21 = .ok (.ireturn, 1) := by decide +kernel
theorem dX13_kept_22 : decode cX13_kept 22 = .ok (.aload_n 0, 1) := by decide +kernel
theorem dX13_kept_23 : decode cX13_kept 23 = .ok (.getfield 68, 3) := by decide +kernel
theorem dX13_kept_26 : decode cX13_kept 26 = .ok (.bipush 8, 2) := by decide +kernel
theorem dX13_kept_28 : decode cX13_kept 28 = .ok (.if_icmp .ne 44, 3) := by decide +kernel
theorem dX13_kept_31 : decode cX13_kept 31 = .ok (.iconst 0, 1) := by decide +kernel
theorem dX13_kept_32 : decode cX13_kept 32 = .ok (.istore_n 2, 1) := by decide +kernel
theorem dX13_kept_33 : decode cX13_kept 33 = .ok (.iload_n 2, 1) := by decide +kernel
theorem dX13_kept_34 : decode cX13_kept 34 = .ok (.sipush 1680, 3) := by decide +kernel
theorem dX13_kept_37 : decode cX13_kept 37 = .ok (.if_icmp .ge 25, 3) := by decide +kernel
theorem dX13_kept_40 : decode cX13_kept 40 = .ok (.aload_n 0, 1) := by decide +kernel
theorem dX13_kept_41 : decode cX13_kept 41 = .ok (.getfield 16, 3) := by decide +kernel
theorem dX13_kept_44 : decode cX13_kept 44 = .ok (.iload_n 2, 1) := by decide +kernel
theorem dX13_kept_45 : decode cX13_kept 45 = .ok (.aload_n 0, 1) := by decide +kernel
theorem dX13_kept_46 : decode cX13_kept 46 = .ok (.getfield 16, 3) := by decide +kernel
theorem dX13_kept_49 : decode cX13_kept 49 = .ok (.iload_n 2, 1) := by decide +kernel
theorem dX13_kept_50 : decode cX13_kept 50 = .ok (.sipush 240, 3) := by decide +kernel
theorem dX13_kept_53 : decode cX13_kept 53 = .ok (.iadd, 1) := by decide +kernel
theorem dX13_kept_54 : decode cX13_kept 54 = .ok (.iaload, 1) := by decide +kernel
theorem dX13_kept_55 : decode cX13_kept 55 = .ok (.iastore, 1) := by decide +kernel
theorem dX13_kept_56 : decode cX13_kept 56 = .ok (.iinc 2 1, 3) := by decide +kernel
theorem dX13_kept_59 : decode cX13_kept 59 = .ok (.goto (-26), 3) := by decide +kernel
theorem dX13_kept_62 : decode cX13_kept 62 = .ok (.aload_n 0, 1) := by decide +kernel
theorem dX13_kept_63 : decode cX13_kept 63 = .ok (.dup, 1) := by decide +kernel
theorem dX13_kept_64 : decode cX13_kept 64 = .ok (.getfield 68, 3) := by decide +kernel
theorem dX13_kept_67 : decode cX13_kept 67 = .ok (.iconst 1, 1) := by decide +kernel
theorem dX13_kept_68 : decode cX13_kept 68 = .ok (.isub, 1) := by decide +kernel
theorem dX13_kept_69 : decode cX13_kept 69 = .ok (.putfield 68, 3) := by decide +kernel
theorem dX13_kept_72 : decode cX13_kept 72 = .ok (.aload_n 0, 1) := by decide +kernel
theorem dX13_kept_73 : decode cX13_kept 73 = .ok (.getfield 13, 3) := by decide +kernel
theorem dX13_kept_76 : decode cX13_kept 76 = .ok (.iconst 0, 1) := by decide +kernel
theorem dX13_kept_77 : decode cX13_kept 77 = .ok (.aload_n 0, 1) := by decide +kernel
theorem dX13_kept_78 : decode cX13_kept 78 = .ok (.getfield 16, 3) := by decide +kernel
theorem dX13_kept_81 : decode cX13_kept 81 = .ok (.aload_n 0, 1) := by decide +kernel
theorem dX13_kept_82 : decode cX13_kept 82 = .ok (.getfield 68, 3) := by decide +kernel
theorem dX13_kept_85 : decode cX13_kept 85 = .ok (.sipush 240, 3) := by decide +kernel
theorem dX13_kept_88 : decode cX13_kept 88 = .ok (.imul, 1) := by decide +kernel
theorem dX13_kept_89 : decode cX13_kept 89 = .ok (.invokestatic 64, 3) := by decide +kernel
theorem dX13_kept_92 : decode cX13_kept 92 = .ok (.aload_n 0, 1) := by decide +kernel
theorem dX13_kept_93 : decode cX13_kept 93 = .ok (.dup, 1) := by decide +kernel
theorem dX13_kept_94 : decode cX13_kept 94 = .ok (.getfield 68, 3) := by decide +kernel
theorem dX13_kept_97 : decode cX13_kept 97 = .ok (.iconst 1, 1) := by decide +kernel
theorem dX13_kept_98 : decode cX13_kept 98 = .ok (.iadd, 1) := by decide +kernel
theorem dX13_kept_99 : decode cX13_kept 99 = .ok (.putfield 68, 3) := by decide +kernel
theorem dX13_kept_102 : decode cX13_kept 102 = .ok (.iload_n 1, 1) := by decide +kernel
theorem dX13_kept_103 : decode cX13_kept 103 = .ok (.ireturn, 1) := by decide +kernel
theorem dX13_isPoint_0 : decode cX13_isPoint 0 = .ok (.iload_n 1, 1) := by decide +kernel
theorem dX13_isPoint_1 : decode cX13_isPoint 1 = .ok (.iconst 0, 1) := by decide +kernel
theorem dX13_isPoint_2 : decode cX13_isPoint 2 = .ok (.aload_n 0, 1) := by decide +kernel
theorem dX13_isPoint_3 : decode cX13_isPoint 3 = .ok (.getfield 7, 3) := by decide +kernel
theorem dX13_isPoint_6 : decode cX13_isPoint 6 = .ok (.iconst 0, 1) := by decide +kernel
theorem dX13_isPoint_7 : decode cX13_isPoint 7 = .ok (.iaload, 1) := by decide +kernel
theorem dX13_isPoint_8 : decode cX13_isPoint 8 = .ok (.iconst 1, 1) := by decide +kernel
theorem dX13_isPoint_9 : decode cX13_isPoint 9 = .ok (.isub, 1) := by decide +kernel
theorem dX13_isPoint_10 : decode cX13_isPoint 10 = .ok (.invokestatic 71, 3) := by decide +kernel
theorem dX13_isPoint_13 : decode cX13_isPoint 13 = .ok (.ireturn, 1) := by decide +kernel
theorem dX13_isLine_0 : decode cX13_isLine 0 = .ok (.iload_n 1, 1) := by decide +kernel
theorem dX13_isLine_1 : decode cX13_isLine 1 = .ok (.iconst 0, 1) := by decide +kernel
theorem dX13_isLine_2 : decode cX13_isLine 2 = .ok (.aload_n 0, 1) := by decide +kernel
theorem dX13_isLine_3 : decode cX13_isLine 3 = .ok (.getfield 7, 3) := by decide +kernel
theorem dX13_isLine_6 : decode cX13_isLine 6 = .ok (.iconst 1, 1) := by decide +kernel
theorem dX13_isLine_7 : decode cX13_isLine 7 = .ok (.iaload, 1) := by decide +kernel
theorem dX13_isLine_8 : decode cX13_isLine 8 = .ok (.iconst 1, 1) := by decide +kernel
theorem dX13_isLine_9 : decode cX13_isLine 9 = .ok (.isub, 1) := by decide +kernel
theorem dX13_isLine_10 : decode cX13_isLine 10 = .ok (.invokestatic 71, 3) := by decide +kernel
theorem dX13_isLine_13 : decode cX13_isLine 13 = .ok (.ireturn, 1) := by decide +kernel
theorem dX13_isProfile_0 : decode cX13_isProfile 0 = .ok (.iload_n 1, 1) := by decide +kernel
theorem dX13_isProfile_1 : decode cX13_isProfile 1 = .ok (.iconst 0, 1) := by decide +kernel
theorem dX13_isProfile_2 : decode cX13_isProfile 2 = .ok (.aload_n 0, 1) := by decide +kernel
theorem dX13_isProfile_3 : decode cX13_isProfile 3 = .ok (.getfield 7, 3) := by decide +kernel
theorem dX13_isProfile_6 : decode cX13_isProfile 6 = .ok (.iconst 2, 1) := by decide +kernel
theorem dX13_isProfile_7 : decode cX13_isProfile 7 = .ok (.iaload, 1) := by decide +kernel
theorem dX13_isProfile_8 : decode cX13_isProfile 8 = .ok (.iconst 1, 1) := by decide +kernel
theorem dX13_isProfile_9 : decode cX13_isProfile 9 = .ok (.isub, 1) := by decide +kernel
theorem dX13_isProfile_10 : decode cX13_isProfile 10 = .ok (.invokestatic 71, 3) := by decide +kernel
theorem dX13_isProfile_13 : decode cX13_isProfile 13 = .ok (.ireturn, 1) := by decide +kernel
theorem dX13_allowed_0 : decode cX13_allowed 0 = .ok (.iconst 0, 1) := by decide +kernel
theorem dX13_allowed_1 : decode cX13_allowed 1 = .ok (.istore_n 1, 1) := by decide +kernel
theorem dX13_allowed_2 : decode cX13_allowed 2 = .ok (.iload_n 1, 1) := by decide +kernel
theorem dX13_allowed_3 : decode cX13_allowed 3 = .ok (.iconst 1, 1) := by decide +kernel
theorem dX13_allowed_4 : decode cX13_allowed 4 = .ok (.iadd, 1) := by decide +kernel
theorem dX13_allowed_5 : decode cX13_allowed 5 = .ok (.iload_n 1, 1) := by decide +kernel
theorem dX13_allowed_6 : decode cX13_allowed 6 = .ok (.iconst 1, 1) := by decide +kernel
theorem dX13_allowed_7 : decode cX13_allowed 7 = .ok (.iadd, 1) := by decide +kernel
theorem dX13_allowed_8 : decode cX13_allowed 8 = .ok (.imul, 1) := by decide +kernel
theorem dX13_allowed_9 : decode cX13_allowed 9 = .ok (.bipush 9, 2) := by decide +kernel
theorem dX13_allowed_11 : decode cX13_allowed 11 = .ok (.iload_n 0, 1) := by decide +kernel
theorem dX13_allowed_12 : decode cX13_allowed 12 = .ok (.imul, 1) := by decide +kernel
theorem dX13_allowed_13 : decode cX13_allowed 13 = .ok (.if_icmp .gt 9, 3) := by decide +kernel
theorem dX13_allowed_16 : decode cX13_allowed 16 = .ok (.iinc 1 1, 3) := by decide +kernel
theorem dX13_allowed_19 : decode cX13_allowed 19 = .ok (.goto (-17), 3) := by decide +kernel
theorem dX13_allowed_22 : decode cX13_allowed 22 = .ok (.iload_n 1, 1) := by decide +kernel
theorem dX13_allowed_23 : decode cX13_allowed 23 = .ok (.ireturn, 1) := by decide +kernel
theorem dX13_gapOf_0 : decode cX13_gapOf 0 = .ok (.aload_n 0, 1) := by decide +kernel
theorem dX13_gapOf_1 : decode cX13_gapOf 1 = .ok (.getfield 7, 3) := by decide +kernel
theorem dX13_gapOf_4 : decode cX13_gapOf 4 = .ok (.bipush 72, 2) := by decide +kernel
theorem dX13_gapOf_6 : decode cX13_gapOf 6 = .ok (.iload_n 1, 1) := by decide +kernel
theorem dX13_gapOf_7 : decode cX13_gapOf 7 = .ok (.iadd, 1) := by decide +kernel
theorem dX13_gapOf_8 : decode cX13_gapOf 8 = .ok (.iaload, 1) := by decide +kernel
theorem dX13_gapOf_9 : decode cX13_gapOf 9 = .ok (.aload_n 0, 1) := by decide +kernel
theorem dX13_gapOf_10 : decode cX13_gapOf 10 = .ok (.getfield 7, 3) := by decide +kernel
theorem dX13_gapOf_13 : decode cX13_gapOf 13 = .ok (.bipush 104, 2) := by decide +kernel
theorem dX13_gapOf_15 : decode cX13_gapOf 15 = .ok (.iload_n 1, 1) := by decide +kernel
theorem dX13_gapOf_16 : decode cX13_gapOf 16 = .ok (.iadd, 1) := by decide +kernel
theorem dX13_gapOf_17 : decode cX13_gapOf 17 = .ok (.iaload, 1) := by decide +kernel
theorem dX13_gapOf_18 : decode cX13_gapOf 18 = .ok (.iadd, 1) := by decide +kernel
theorem dX13_gapOf_19 : decode cX13_gapOf 19 = .ok (.ireturn, 1) := by decide +kernel
theorem dX13_isGood_0 : decode cX13_isGood 0 = .ok (.aload_n 0, 1) := by decide +kernel
theorem dX13_isGood_1 : decode cX13_isGood 1 = .ok (.getfield 7, 3) := by decide +kernel
theorem dX13_isGood_4 : decode cX13_isGood 4 = .ok (.bipush 88, 2) := by decide +kernel
theorem dX13_isGood_6 : decode cX13_isGood 6 = .ok (.iload_n 1, 1) := by decide +kernel
theorem dX13_isGood_7 : decode cX13_isGood 7 = .ok (.iadd, 1) := by decide +kernel
theorem dX13_isGood_8 : decode cX13_isGood 8 = .ok (.iaload, 1) := by decide +kernel
theorem dX13_isGood_9 : decode cX13_isGood 9 = .ok (.ifCond .eq 26, 3) := by decide +kernel
theorem dX13_isGood_12 : decode cX13_isGood 12 = .ok (.aload_n 0, 1) := by decide +kernel
theorem dX13_isGood_13 : decode cX13_isGood 13 = .ok (.iload_n 1, 1) := by decide +kernel
theorem dX13_isGood_14 : decode cX13_isGood 14 = .ok (.invokevirtual 75, 3) := by decide +kernel
theorem dX13_isGood_17 : decode cX13_isGood 17 = .ok (.invokestatic 79, 3) := by decide +kernel
theorem dX13_isGood_20 : decode cX13_isGood 20 = .ok (.aload_n 0, 1) := by decide +kernel
theorem dX13_isGood_21 : decode cX13_isGood 21 = .ok (.getfield 7, 3) := by decide +kernel
theorem dX13_isGood_24 : decode cX13_isGood 24 = .ok (.bipush 56, 2) := by decide +kernel
theorem dX13_isGood_26 : decode cX13_isGood 26 = .ok (.iload_n 1, 1) := by decide +kernel
theorem dX13_isGood_27 : decode cX13_isGood 27 = .ok (.iadd, 1) := by decide +kernel
theorem dX13_isGood_28 : decode cX13_isGood 28 = .ok (.iaload, 1) := by decide +kernel
theorem dX13_isGood_29 : decode cX13_isGood 29 = .ok (.invokestatic 82, 3) := by decide +kernel
theorem dX13_isGood_32 : decode cX13_isGood 32 = .ok (.if_icmp .gt 7, 3) := by decide +kernel
theorem dX13_isGood_35 : decode cX13_isGood 35 = .ok (.iconst 1, 1) := by decide +kernel
theorem dX13_isGood_36 : decode cX13_isGood 36 = .ok (.goto 4, 3) := by decide +kernel
theorem dX13_isGood_39 : decode cX13_isGood 39 = .ok (.iconst 0, 1) := by decide +kernel
theorem dX13_isGood_40 : decode cX13_isGood 40 = .ok (.istore_n 2, 1) := by decide +kernel
theorem dX13_isGood_41 : decode cX13_isGood 41 = .ok (.aload_n 0, 1) := by decide +kernel
theorem dX13_isGood_42 : decode cX13_isGood 42 = .ok (.getfield 7, 3) := by decide +kernel
theorem dX13_isGood_45 : decode cX13_isGood 45 = .ok (.bipush 120, 2) := by decide +kernel
theorem dX13_isGood_47 : decode cX13_isGood 47 = .ok (.iload_n 1, 1) := by decide +kernel
theorem dX13_isGood_48 : decode cX13_isGood 48 = .ok (.iadd, 1) := by decide +kernel
theorem dX13_isGood_49 : decode cX13_isGood 49 = .ok (.iaload, 1) := by decide +kernel
theorem dX13_isGood_50 : decode cX13_isGood 50 = .ok (.ifCond .ne 11, 3) := by decide +kernel
theorem dX13_isGood_53 : decode cX13_isGood 53 = .ok (.iload_n 2, 1) := by decide +kernel
theorem dX13_isGood_54 : decode cX13_isGood 54 = .ok (.ifCond .eq 7, 3) := by decide +kernel
theorem dX13_isGood_57 : decode cX13_isGood 57 = .ok (.iconst 1, 1) := by decide +kernel
theorem dX13_isGood_58 : decode cX13_isGood 58 = .ok (.goto 4, 3) := by decide +kernel
theorem dX13_isGood_61 : decode cX13_isGood 61 = .ok (.iconst 0, 1) := by decide +kernel
theorem dX13_isGood_62 : decode cX13_isGood 62 = .ok (.ireturn, 1) := by decide +kernel
theorem dX13_goodOnes_0 : decode cX13_goodOnes 0 = .ok (.iconst 0, 1) := by decide +kernel
theorem dX13_goodOnes_1 : decode cX13_goodOnes 1 = .ok (.istore_n 1, 1) := by decide +kernel
theorem dX13_goodOnes_2 : decode cX13_goodOnes 2 = .ok (.iconst 0, 1) := by decide +kernel
theorem dX13_goodOnes_3 : decode cX13_goodOnes 3 = .ok (.istore_n 2, 1) := by decide +kernel
theorem dX13_goodOnes_4 : decode cX13_goodOnes 4 = .ok (.iload_n 2, 1) := by decide +kernel
theorem dX13_goodOnes_5 : decode cX13_goodOnes 5 = .ok (.aload_n 0, 1) := by decide +kernel
theorem dX13_goodOnes_6 : decode cX13_goodOnes 6 = .ok (.getfield 7, 3) := by decide +kernel
theorem dX13_goodOnes_9 : decode cX13_goodOnes 9 = .ok (.iconst 1, 1) := by decide +kernel
theorem dX13_goodOnes_10 : decode cX13_goodOnes 10 = .ok (.iaload, 1) := by decide +kernel
theorem dX13_goodOnes_11 : decode cX13_goodOnes 11 = .ok (.if_icmp .ge 25, 3) := by decide +kernel
theorem dX13_goodOnes_14 : decode cX13_goodOnes 14 = .ok (.iload_n 1, 1) := by decide +kernel
theorem dX13_goodOnes_15 : decode cX13_goodOnes 15 = .ok (.aload_n 0, 1) := by decide +kernel
theorem dX13_goodOnes_16 : decode cX13_goodOnes 16 = .ok (.iload_n 2, 1) := by decide +kernel
theorem dX13_goodOnes_17 : decode cX13_goodOnes 17 = .ok (.invokevirtual 85, 3) := by decide +kernel
theorem dX13_goodOnes_20 : decode cX13_goodOnes 20 = .ok (.ifCond .eq 7, 3) := by decide +kernel
theorem dX13_goodOnes_23 : decode cX13_goodOnes 23 = .ok (.iconst 1, 1) := by decide +kernel
theorem dX13_goodOnes_24 : decode cX13_goodOnes 24 = .ok (.goto 4, 3) := by decide +kernel
theorem dX13_goodOnes_27 : decode cX13_goodOnes 27 = .ok (.iconst 0, 1) := by decide +kernel
theorem dX13_goodOnes_28 : decode cX13_goodOnes 28 = .ok (.iadd, 1) := by decide +kernel
theorem dX13_goodOnes_29 : decode cX13_goodOnes 29 = .ok (.istore_n 1, 1) := by decide +kernel
theorem dX13_goodOnes_30 : decode cX13_goodOnes 30 = .ok (.iinc 2 1, 3) := by decide +kernel
theorem dX13_goodOnes_33 : decode cX13_goodOnes 33 = .ok (.goto (-29), 3) := by decide +kernel
theorem dX13_goodOnes_36 : decode cX13_goodOnes 36 = .ok (.iload_n 1, 1) := by decide +kernel
theorem dX13_goodOnes_37 : decode cX13_goodOnes 37 = .ok (.ireturn, 1) := by decide +kernel
theorem dX13_levelled_0 : decode cX13_levelled 0 = .ok (.aload_n 0, 1) := by decide +kernel
theorem dX13_levelled_1 : decode cX13_levelled 1 = .ok (.getfield 7, 3) := by decide +kernel
theorem dX13_levelled_4 : decode cX13_levelled 4 = .ok (.bipush 88, 2) := by decide +kernel
theorem dX13_levelled_6 : decode cX13_levelled 6 = .ok (.iload_n 1, 1) := by decide +kernel
theorem dX13_levelled_7 : decode cX13_levelled 7 = .ok (.iadd, 1) := by decide +kernel
theorem dX13_levelled_8 : decode cX13_levelled 8 = .ok (.iaload, 1) := by decide +kernel
theorem dX13_levelled_9 : decode cX13_levelled 9 = .ok (.ifCond .ne 15, 3) := by decide +kernel
theorem dX13_levelled_12 : decode cX13_levelled 12 = .ok (.aload_n 0, 1) := by decide +kernel
theorem dX13_levelled_13 : decode cX13_levelled 13 = .ok (.getfield 7, 3) := by decide +kernel
theorem dX13_levelled_16 : decode cX13_levelled 16 = .ok (.bipush 72, 2) := by decide +kernel
theorem dX13_levelled_18 : decode cX13_levelled 18 = .ok (.iload_n 1, 1) := by decide +kernel
theorem dX13_levelled_19 : decode cX13_levelled 19 = .ok (.iadd, 1) := by decide +kernel
theorem dX13_levelled_20 : decode cX13_levelled 20 = .ok (.iaload, 1) := by decide +kernel
theorem dX13_levelled_21 : decode cX13_levelled 21 = .ok (.goto 26, 3) := by decide +kernel
theorem dX13_levelled_24 : decode cX13_levelled 24 = .ok (.aload_n 0, 1) := by decide +kernel
theorem dX13_levelled_25 : decode cX13_levelled 25 = .ok (.getfield 7, 3) := by decide +kernel
theorem dX13_levelled_28 : decode cX13_levelled 28 = .ok (.bipush 72, 2) := by decide +kernel
theorem dX13_levelled_30 : decode cX13_levelled 30 = .ok (.iload_n 1, 1) := by decide +kernel
theorem dX13_levelled_31 : decode cX13_levelled 31 = .ok (.iadd, 1) := by decide +kernel
theorem dX13_levelled_32 : decode cX13_levelled 32 = .ok (.iaload, 1) := by decide +kernel
theorem dX13_levelled_33 : decode cX13_levelled 33 = .ok (.aload_n 0, 1) := by decide +kernel
theorem dX13_levelled_34 : decode cX13_levelled 34 = .ok (.getfield 7, 3) := by decide +kernel
theorem dX13_levelled_37 : decode cX13_levelled 37 = .ok (.bipush 104, 2) := by decide +kernel
theorem dX13_levelled_39 : decode cX13_levelled 39 = .ok (.iload_n 1, 1) := by decide +kernel
theorem dX13_levelled_40 : decode cX13_levelled 40 = .ok (.iadd, 1) := by decide +kernel
theorem dX13_levelled_41 : decode cX13_levelled 41 = .ok (.iaload, 1) := by decide +kernel
theorem dX13_levelled_42 : decode cX13_levelled 42 = .ok (.isub, 1) := by decide +kernel
theorem dX13_levelled_43 : decode cX13_levelled 43 = .ok (.iconst 2, 1) := by decide +kernel
theorem dX13_levelled_44 : decode cX13_levelled 44 = .ok (.invokestatic 89, 3) := by decide +kernel
theorem dX13_levelled_47 : decode cX13_levelled 47 = .ok (.ireturn, 1) := by decide +kernel
theorem dX13_corrected_0 : decode cX13_corrected 0 = .ok (.aload_n 0, 1) := by decide +kernel
theorem dX13_corrected_1 : decode cX13_corrected 1 = .ok (.iload_n 1, 1) := by decide +kernel
theorem dX13_corrected_2 : decode cX13_corrected 2 = .ok (.invokevirtual 93, 3) := by decide +kernel
theorem dX13_corrected_5 : decode cX13_corrected 5 = .ok (.aload_n 0, 1) := by decide +kernel
theorem dX13_corrected_6 : decode cX13_corrected 6 = .ok (.getfield 7, 3) := by decide +kernel
theorem dX13_corrected_9 : decode cX13_corrected 9 = .ok (.sipush 136, 3) := by decide +kernel
theorem dX13_corrected_12 : decode cX13_corrected 12 = .ok (.iload_n 1, 1) := by decide +kernel
theorem dX13_corrected_13 : decode cX13_corrected 13 = .ok (.iadd, 1) := by decide +kernel
theorem dX13_corrected_14 : decode cX13_corrected 14 = .ok (.iaload, 1) := by decide +kernel
theorem dX13_corrected_15 : decode cX13_corrected 15 = .ok (.iadd, 1) := by decide +kernel
theorem dX13_corrected_16 : decode cX13_corrected 16 = .ok (.ireturn, 1) := by decide +kernel
theorem dX13_unites_0 : decode cX13_unites 0 = .ok (.aload_n 0, 1) := by decide +kernel
theorem dX13_unites_1 : decode cX13_unites 1 = .ok (.getfield 39, 3) := by decide +kernel
theorem dX13_unites_4 : decode cX13_unites 4 = .ok (.iload_n 1, 1) := by decide +kernel
theorem dX13_unites_5 : decode cX13_unites 5 = .ok (.iaload, 1) := by decide +kernel
theorem dX13_unites_6 : decode cX13_unites 6 = .ok (.aload_n 0, 1) := by decide +kernel
theorem dX13_unites_7 : decode cX13_unites 7 = .ok (.getfield 39, 3) := by decide +kernel
theorem dX13_unites_10 : decode cX13_unites 10 = .ok (.iload_n 2, 1) := by decide +kernel
theorem dX13_unites_11 : decode cX13_unites 11 = .ok (.iaload, 1) := by decide +kernel
theorem dX13_unites_12 : decode cX13_unites 12 = .ok (.if_icmp .ge 12, 3) := by decide +kernel
theorem dX13_unites_15 : decode cX13_unites 15 = .ok (.aload_n 0, 1) := by decide +kernel
theorem dX13_unites_16 : decode cX13_unites 16 = .ok (.getfield 39, 3) := by decide +kernel
theorem dX13_unites_19 : decode cX13_unites 19 = .ok (.iload_n 1, 1) := by decide +kernel
theorem dX13_unites_20 : decode cX13_unites 20 = .ok (.iaload, 1) := by decide +kernel
theorem dX13_unites_21 : decode cX13_unites 21 = .ok (.goto 9, 3) := by decide +kernel
theorem dX13_unites_24 : decode cX13_unites 24 = .ok (.aload_n 0, 1) := by decide +kernel
theorem dX13_unites_25 : decode cX13_unites 25 = .ok (.getfield 39, 3) := by decide +kernel
theorem dX13_unites_28 : decode cX13_unites 28 = .ok (.iload_n 2, 1) := by decide +kernel
theorem dX13_unites_29 : decode cX13_unites 29 = .ok (.iaload, 1) := by decide +kernel
theorem dX13_unites_30 : decode cX13_unites 30 = .ok (.istore_n 3, 1) := by decide +kernel
theorem dX13_unites_31 : decode cX13_unites 31 = .ok (.aload_n 0, 1) := by decide +kernel
theorem dX13_unites_32 : decode cX13_unites 32 = .ok (.getfield 39, 3) := by decide +kernel
theorem dX13_unites_35 : decode cX13_unites 35 = .ok (.iload_n 1, 1) := by decide +kernel
theorem dX13_unites_36 : decode cX13_unites 36 = .ok (.iaload, 1) := by decide +kernel
theorem dX13_unites_37 : decode cX13_unites 37 = .ok (.aload_n 0, 1) := by decide +kernel
theorem dX13_unites_38 : decode cX13_unites 38 = .ok (.getfield 39, 3) := by decide +kernel
theorem dX13_unites_41 : decode cX13_unites 41 = .ok (.iload_n 2, 1) := by decide +kernel
theorem dX13_unites_42 : decode cX13_unites 42 = .ok (.iaload, 1) := by decide +kernel
theorem dX13_unites_43 : decode cX13_unites 43 = .ok (.iadd, 1) := by decide +kernel
theorem dX13_unites_44 : decode cX13_unites 44 = .ok (.iload_n 3, 1) := by decide +kernel
theorem dX13_unites_45 : decode cX13_unites 45 = .ok (.isub, 1) := by decide +kernel
theorem dX13_unites_46 : decode cX13_unites 46 = .ok (.istore 4, 2) := by decide +kernel
theorem dX13_unites_48 : decode cX13_unites 48 = .ok (.iconst 0, 1) := by decide +kernel
theorem dX13_unites_49 : decode cX13_unites 49 = .ok (.istore 5, 2) := by decide +kernel
theorem dX13_unites_51 : decode cX13_unites 51 = .ok (.iload 5, 2) := by decide +kernel
theorem dX13_unites_53 : decode cX13_unites 53 = .ok (.aload_n 0, 1) := by decide +kernel
theorem dX13_unites_54 : decode cX13_unites 54 = .ok (.getfield 7, 3) := by decide +kernel
theorem dX13_unites_57 : decode cX13_unites 57 = .ok (.iconst 0, 1) := by decide +kernel
theorem dX13_unites_58 : decode cX13_unites 58 = .ok (.iaload, 1) := by decide +kernel
theorem dX13_unites_59 : decode cX13_unites 59 = .ok (.if_icmp .ge 39, 3) := by decide +kernel
theorem dX13_unites_62 : decode cX13_unites 62 = .ok (.aload_n 0, 1) := by decide +kernel
theorem dX13_unites_63 : decode cX13_unites 63 = .ok (.getfield 39, 3) := by decide +kernel
theorem dX13_unites_66 : decode cX13_unites 66 = .ok (.iload 5, 2) := by decide +kernel
theorem dX13_unites_68 : decode cX13_unites 68 = .ok (.aload_n 0, 1) := by decide +kernel
theorem dX13_unites_69 : decode cX13_unites 69 = .ok (.getfield 39, 3) := by decide +kernel
theorem dX13_unites_72 : decode cX13_unites 72 = .ok (.iload 5, 2) := by decide +kernel
theorem dX13_unites_74 : decode cX13_unites 74 = .ok (.iaload, 1) := by decide +kernel
theorem dX13_unites_75 : decode cX13_unites 75 = .ok (.iload 4, 2) := by decide +kernel
theorem dX13_unites_77 : decode cX13_unites 77 = .ok (.if_icmp .ne 7, 3) := by decide +kernel
theorem dX13_unites_80 : decode cX13_unites 80 = .ok (.iload_n 3, 1) := by decide +kernel
theorem dX13_unites_81 : decode cX13_unites 81 = .ok (.goto 10, 3) := by decide +kernel
theorem dX13_unites_84 : decode cX13_unites 84 = .ok (.aload_n 0, 1) := by decide +kernel
theorem dX13_unites_85 : decode cX13_unites 85 = .ok (.getfield 39, 3) := by decide +kernel
theorem dX13_unites_88 : decode cX13_unites 88 = .ok (.iload 5, 2) := by decide +kernel
theorem dX13_unites_90 : decode cX13_unites 90 = .ok (.iaload, 1) := by decide +kernel
theorem dX13_unites_91 : decode cX13_unites 91 = .ok (.iastore, 1) := by decide +kernel
theorem dX13_unites_92 : decode cX13_unites 92 = .ok (.iinc 5 1, 3) := by decide +kernel
theorem dX13_unites_95 : decode cX13_unites 95 = .ok (.goto (-44), 3) := by decide +kernel
theorem dX13_unites_98 : decode cX13_unites 98 = .ok (.return_, 1) := by decide +kernel
theorem dX13_takesLine_0 : decode cX13_takesLine 0 = .ok (.aload_n 0, 1) := by decide +kernel
theorem dX13_takesLine_1 : decode cX13_takesLine 1 = .ok (.getfield 7, 3) := by decide +kernel
theorem dX13_takesLine_4 : decode cX13_takesLine 4 = .ok (.bipush 24, 2) := by decide +kernel
theorem dX13_takesLine_6 : decode cX13_takesLine 6 = .ok (.iload_n 1, 1) := by decide +kernel
theorem dX13_takesLine_7 : decode cX13_takesLine 7 = .ok (.iadd, 1) := by decide +kernel
theorem dX13_takesLine_8 : decode cX13_takesLine 8 = .ok (.iaload, 1) := by decide +kernel
theorem dX13_takesLine_9 : decode cX13_takesLine 9 = .ok (.istore_n 2, 1) := by decide +kernel
theorem dX13_takesLine_10 : decode cX13_takesLine 10 = .ok (.aload_n 0, 1) := by decide +kernel
theorem dX13_takesLine_11 : decode cX13_takesLine 11 = .ok (.getfield 7, 3) := by decide +kernel
theorem dX13_takesLine_14 : decode cX13_takesLine 14 = .ok (.bipush 40, 2) := by decide +kernel
theorem dX13_takesLine_16 : decode cX13_takesLine 16 = .ok (.iload_n 1, 1) := by decide +kernel
theorem dX13_takesLine_17 : decode cX13_takesLine 17 = .ok (.iadd, 1) := by decide +kernel
theorem dX13_takesLine_18 : decode cX13_takesLine 18 = .ok (.iaload, 1) := by decide +kernel
theorem dX13_takesLine_19 : decode cX13_takesLine 19 = .ok (.istore_n 3, 1) := by decide +kernel
theorem dX13_takesLine_20 : decode cX13_takesLine 20 = .ok (.aload_n 0, 1) := by decide +kernel
theorem dX13_takesLine_21 : decode cX13_takesLine 21 = .ok (.iload_n 1, 1) := by decide +kernel
theorem dX13_takesLine_22 : decode cX13_takesLine 22 = .ok (.invokevirtual 85, 3) := by decide +kernel
theorem dX13_takesLine_25 : decode cX13_takesLine 25 = .ok (.ifCond .eq 31, 3) := by decide +kernel
theorem dX13_takesLine_28 : decode cX13_takesLine 28 = .ok (.aload_n 0, 1) := by decide +kernel
theorem dX13_takesLine_29 : decode cX13_takesLine 29 = .ok (.getfield 39, 3) := by decide +kernel
theorem dX13_takesLine_32 : decode cX13_takesLine 32 = .ok (.iload_n 2, 1) := by decide +kernel
theorem dX13_takesLine_33 : decode cX13_takesLine 33 = .ok (.iaload, 1) := by decide +kernel
theorem dX13_takesLine_34 : decode cX13_takesLine 34 = .ok (.aload_n 0, 1) := by decide +kernel
theorem dX13_takesLine_35 : decode cX13_takesLine 35 = .ok (.getfield 39, 3) := by decide +kernel
theorem dX13_takesLine_38 : decode cX13_takesLine 38 = .ok (.iload_n 3, 1) := by decide +kernel
theorem dX13_takesLine_39 : decode cX13_takesLine 39 = .ok (.iaload, 1) := by decide +kernel
theorem dX13_takesLine_40 : decode cX13_takesLine 40 = .ok (.if_icmp .eq 16, 3) := by decide +kernel
theorem dX13_takesLine_43 : decode cX13_takesLine 43 = .ok (.aload_n 0, 1) := by decide +kernel
theorem dX13_takesLine_44 : decode cX13_takesLine 44 = .ok (.getfield 36, 3) := by decide +kernel
theorem dX13_takesLine_47 : decode cX13_takesLine 47 = .ok (.iload_n 1, 1) := by decide +kernel
theorem dX13_takesLine_48 : decode cX13_takesLine 48 = .ok (.iconst 1, 1) := by decide +kernel
theorem dX13_takesLine_49 : decode cX13_takesLine 49 = .ok (.iastore, 1) := by decide +kernel
theorem dX13_takesLine_50 : decode cX13_takesLine 50 = .ok (.aload_n 0, 1) := by decide +kernel
theorem dX13_takesLine_51 : decode cX13_takesLine 51 = .ok (.iload_n 2, 1) := by decide +kernel
theorem dX13_takesLine_52 : decode cX13_takesLine 52 = .ok (.iload_n 3, 1) := by decide +kernel
theorem dX13_takesLine_53 : decode cX13_takesLine 53 = .ok (.invokevirtual 96, 3) := by decide +kernel
theorem dX13_takesLine_56 : decode cX13_takesLine 56 = .ok (.return_, 1) := by decide +kernel
theorem dX13_passes_0 : decode cX13_passes 0 = .ok (.aload_n 0, 1) := by decide +kernel
theorem dX13_passes_1 : decode cX13_passes 1 = .ok (.getfield 7, 3) := by decide +kernel
theorem dX13_passes_4 : decode cX13_passes 4 = .ok (.bipush 24, 2) := by decide +kernel
theorem dX13_passes_6 : decode cX13_passes 6 = .ok (.iload_n 1, 1) := by decide +kernel
theorem dX13_passes_7 : decode cX13_passes 7 = .ok (.iadd, 1) := by decide +kernel
theorem dX13_passes_8 : decode cX13_passes 8 = .ok (.iaload, 1) := by decide +kernel
theorem dX13_passes_9 : decode cX13_passes 9 = .ok (.istore_n 2, 1) := by decide +kernel
theorem dX13_passes_10 : decode cX13_passes 10 = .ok (.aload_n 0, 1) := by decide +kernel
theorem dX13_passes_11 : decode cX13_passes 11 = .ok (.getfield 7, 3) := by decide +kernel
theorem dX13_passes_14 : decode cX13_passes 14 = .ok (.bipush 40, 2) := by decide +kernel
theorem dX13_passes_16 : decode cX13_passes 16 = .ok (.iload_n 1, 1) := by decide +kernel
theorem dX13_passes_17 : decode cX13_passes 17 = .ok (.iadd, 1) := by decide +kernel
theorem dX13_passes_18 : decode cX13_passes 18 = .ok (.iaload, 1) := by decide +kernel
theorem dX13_passes_19 : decode cX13_passes 19 = .ok (.istore_n 3, 1) := by decide +kernel
theorem dX13_passes_20 : decode cX13_passes 20 = .ok (.aload_n 0, 1) := by decide +kernel
theorem dX13_passes_21 : decode cX13_passes 21 = .ok (.getfield 36, 3) := by decide +kernel
theorem dX13_passes_24 : decode cX13_passes 24 = .ok (.iload_n 1, 1) := by decide +kernel
theorem dX13_passes_25 : decode cX13_passes 25 = .ok (.iaload, 1) := by decide +kernel
theorem dX13_passes_26 : decode cX13_passes 26 = .ok (.ifCond .eq 18, 3) := by decide +kernel
theorem dX13_passes_29 : decode cX13_passes 29 = .ok (.aload_n 0, 1) := by decide +kernel
theorem dX13_passes_30 : decode cX13_passes 30 = .ok (.getfield 45, 3) := by decide +kernel
theorem dX13_passes_33 : decode cX13_passes 33 = .ok (.iload_n 2, 1) := by decide +kernel
theorem dX13_passes_34 : decode cX13_passes 34 = .ok (.baload, 1) := by decide +kernel
theorem dX13_passes_35 : decode cX13_passes 35 = .ok (.aload_n 0, 1) := by decide +kernel
theorem dX13_passes_36 : decode cX13_passes 36 = .ok (.getfield 45, 3) := by decide +kernel
theorem dX13_passes_39 : decode cX13_passes 39 = .ok (.iload_n 3, 1) := by decide +kernel
theorem dX13_passes_40 : decode cX13_passes 40 = .ok (.baload, 1) := by decide +kernel
theorem dX13_passes_41 : decode cX13_passes 41 = .ok (.if_icmp .ne 5, 3) := by decide +kernel
theorem dX13_passes_44 : decode cX13_passes 44 = .ok (.iconst 0, 1) := by decide +kernel
theorem dX13_passes_45 : decode cX13_passes 45 = .ok (.ireturn, 1) := by decide +kernel
theorem dX13_passes_46 : decode cX13_passes 46 = .ok (.aload_n 0, 1) := by decide +kernel
theorem dX13_passes_47 : decode cX13_passes 47 = .ok (.getfield 45, 3) := by decide +kernel
theorem dX13_passes_50 : decode cX13_passes 50 = .ok (.iload_n 2, 1) := by decide +kernel
theorem dX13_passes_51 : decode cX13_passes 51 = .ok (.baload, 1) := by decide +kernel
theorem dX13_passes_52 : decode cX13_passes 52 = .ok (.ifCond .eq 24, 3) := by decide +kernel
theorem dX13_passes_55 : decode cX13_passes 55 = .ok (.aload_n 0, 1) := by decide +kernel
theorem dX13_passes_56 : decode cX13_passes 56 = .ok (.getfield 42, 3) := by decide +kernel
theorem dX13_passes_59 : decode cX13_passes 59 = .ok (.iload_n 3, 1) := by decide +kernel
theorem dX13_passes_60 : decode cX13_passes 60 = .ok (.aload_n 0, 1) := by decide +kernel
theorem dX13_passes_61 : decode cX13_passes 61 = .ok (.getfield 42, 3) := by decide +kernel
theorem dX13_passes_64 : decode cX13_passes 64 = .ok (.iload_n 2, 1) := by decide +kernel
theorem dX13_passes_65 : decode cX13_passes 65 = .ok (.iaload, 1) := by decide +kernel
theorem dX13_passes_66 : decode cX13_passes 66 = .ok (.aload_n 0, 1) := by decide +kernel
theorem dX13_passes_67 : decode cX13_passes 67 = .ok (.iload_n 1, 1) := by decide +kernel
theorem dX13_passes_68 : decode cX13_passes 68 = .ok (.invokevirtual 100, 3) := by decide +kernel
theorem dX13_passes_71 : decode cX13_passes 71 = .ok (.iadd, 1) := by decide +kernel
theorem dX13_passes_72 : decode cX13_passes 72 = .ok (.iastore, 1) := by decide +kernel
theorem dX13_passes_73 : decode cX13_passes 73 = .ok (.goto 21, 3) := by decide +kernel
theorem dX13_passes_76 : decode cX13_passes 76 = .ok (.aload_n 0, 1) := by decide +kernel
theorem dX13_passes_77 : decode cX13_passes 77 = .ok (.getfield 42, 3) := by decide +kernel
theorem dX13_passes_80 : decode cX13_passes 80 = .ok (.iload_n 2, 1) := by decide +kernel
theorem dX13_passes_81 : decode cX13_passes 81 = .ok (.aload_n 0, 1) := by decide +kernel
theorem dX13_passes_82 : decode cX13_passes 82 = .ok (.getfield 42, 3) := by decide +kernel
theorem dX13_passes_85 : decode cX13_passes 85 = .ok (.iload_n 3, 1) := by decide +kernel
theorem dX13_passes_86 : decode cX13_passes 86 = .ok (.iaload, 1) := by decide +kernel
theorem dX13_passes_87 : decode cX13_passes 87 = .ok (.aload_n 0, 1) := by decide +kernel
theorem dX13_passes_88 : decode cX13_passes 88 = .ok (.iload_n 1, 1) := by decide +kernel
theorem dX13_passes_89 : decode cX13_passes 89 = .ok (.invokevirtual 100, 3) := by decide +kernel
theorem dX13_passes_92 : decode cX13_passes 92 = .ok (.isub, 1) := by decide +kernel
theorem dX13_passes_93 : decode cX13_passes 93 = .ok (.iastore, 1) := by decide +kernel
theorem dX13_passes_94 : decode cX13_passes 94 = .ok (.aload_n 0, 1) := by decide +kernel
theorem dX13_passes_95 : decode cX13_passes 95 = .ok (.getfield 45, 3) := by decide +kernel
theorem dX13_passes_98 : decode cX13_passes 98 = .ok (.iload_n 2, 1) := by decide +kernel
theorem dX13_passes_99 : decode cX13_passes 99 = .ok (.iconst 1, 1) := by decide +kernel
theorem dX13_passes_100 : decode cX13_passes 100 = .ok (.bastore, 1) := by decide +kernel
theorem dX13_passes_101 : decode cX13_passes 101 = .ok (.aload_n 0, 1) := by decide +kernel
theorem dX13_passes_102 : decode cX13_passes 102 = .ok (.getfield 45, 3) := by decide +kernel
theorem dX13_passes_105 : decode cX13_passes 105 = .ok (.iload_n 3, 1) := by decide +kernel
theorem dX13_passes_106 : decode cX13_passes 106 = .ok (.iconst 1, 1) := by decide +kernel
theorem dX13_passes_107 : decode cX13_passes 107 = .ok (.bastore, 1) := by decide +kernel
theorem dX13_passes_108 : decode cX13_passes 108 = .ok (.iconst 1, 1) := by decide +kernel
theorem dX13_passes_109 : decode cX13_passes 109 = .ok (.ireturn, 1) := by decide +kernel
theorem dX13_grows_0 : decode cX13_grows 0 = .ok (.iconst 0, 1) := by decide +kernel
theorem dX13_grows_1 : decode cX13_grows 1 = .ok (.istore_n 1, 1) := by decide +kernel
theorem dX13_grows_2 : decode cX13_grows 2 = .ok (.iload_n 1, 1) := by decide +kernel
theorem dX13_grows_3 : decode cX13_grows 3 = .ok (.bipush 10, 2) := by decide +kernel
theorem dX13_grows_5 : decode cX13_grows 5 = .ok (.if_icmp .ge 16, 3) := by decide +kernel
theorem dX13_grows_8 : decode cX13_grows 8 = .ok (.aload_n 0, 1) := by decide +kernel
theorem dX13_grows_9 : decode cX13_grows 9 = .ok (.getfield 39, 3) := by decide +kernel
theorem dX13_grows_12 : decode cX13_grows 12 = .ok (.iload_n 1, 1) := by decide +kernel
theorem dX13_grows_13 : decode cX13_grows 13 = .ok (.iload_n 1, 1) := by decide +kernel
theorem dX13_grows_14 : decode cX13_grows 14 = .ok (.iastore, 1) := by decide +kernel
theorem dX13_grows_15 : decode cX13_grows 15 = .ok (.iinc 1 1, 3) := by decide +kernel
theorem dX13_grows_18 : decode cX13_grows 18 = .ok (.goto (-16), 3) := by decide +kernel
theorem dX13_grows_21 : decode cX13_grows 21 = .ok (.iconst 0, 1) := by decide +kernel
theorem dX13_grows_22 : decode cX13_grows 22 = .ok (.istore_n 1, 1) := by decide +kernel
theorem dX13_grows_23 : decode cX13_grows 23 = .ok (.iload_n 1, 1) := by decide +kernel
theorem dX13_grows_24 : decode cX13_grows 24 = .ok (.bipush 16, 2) := by decide +kernel
theorem dX13_grows_26 : decode cX13_grows 26 = .ok (.if_icmp .ge 16, 3) := by decide +kernel
theorem dX13_grows_29 : decode cX13_grows 29 = .ok (.aload_n 0, 1) := by decide +kernel
theorem dX13_grows_30 : decode cX13_grows 30 = .ok (.getfield 36, 3) := by decide +kernel
theorem dX13_grows_33 : decode cX13_grows 33 = .ok (.iload_n 1, 1) := by decide +kernel
theorem dX13_grows_34 : decode cX13_grows 34 = .ok (.iconst 0, 1) := by decide +kernel
theorem dX13_grows_35 : decode cX13_grows 35 = .ok (.iastore, 1) := by decide +kernel
theorem dX13_grows_36 : decode cX13_grows 36 = .ok (.iinc 1 1, 3) := by decide +kernel
theorem dX13_grows_39 : decode cX13_grows 39 = .ok (.goto (-16), 3) := by decide +kernel
theorem dX13_grows_42 : decode cX13_grows 42 = .ok (.iconst 1, 1) := by decide +kernel
theorem dX13_grows_43 : decode cX13_grows 43 = .ok (.istore_n 1, 1) := by decide +kernel
theorem dX13_grows_44 : decode cX13_grows 44 = .ok (.iload_n 1, 1) := by decide +kernel
theorem dX13_grows_45 : decode cX13_grows 45 = .ok (.bipush 50, 2) := by decide +kernel
theorem dX13_grows_47 : decode cX13_grows 47 = .ok (.if_icmp .gt 45, 3) := by decide +kernel
theorem dX13_grows_50 : decode cX13_grows 50 = .ok (.iconst 0, 1) := by decide +kernel
theorem dX13_grows_51 : decode cX13_grows 51 = .ok (.istore_n 2, 1) := by decide +kernel
theorem dX13_grows_52 : decode cX13_grows 52 = .ok (.iload_n 2, 1) := by decide +kernel
theorem dX13_grows_53 : decode cX13_grows 53 = .ok (.aload_n 0, 1) := by decide +kernel
theorem dX13_grows_54 : decode cX13_grows 54 = .ok (.getfield 7, 3) := by decide +kernel
theorem dX13_grows_57 : decode cX13_grows 57 = .ok (.iconst 1, 1) := by decide +kernel
theorem dX13_grows_58 : decode cX13_grows 58 = .ok (.iaload, 1) := by decide +kernel
theorem dX13_grows_59 : decode cX13_grows 59 = .ok (.if_icmp .ge 27, 3) := by decide +kernel
theorem dX13_grows_62 : decode cX13_grows 62 = .ok (.aload_n 0, 1) := by decide +kernel
theorem dX13_grows_63 : decode cX13_grows 63 = .ok (.getfield 7, 3) := by decide +kernel
theorem dX13_grows_66 : decode cX13_grows 66 = .ok (.bipush 56, 2) := by decide +kernel
theorem dX13_grows_68 : decode cX13_grows 68 = .ok (.iload_n 2, 1) := by decide +kernel
theorem dX13_grows_69 : decode cX13_grows 69 = .ok (.iadd, 1) := by decide +kernel
theorem dX13_grows_70 : decode cX13_grows 70 = .ok (.iaload, 1) := by decide +kernel
theorem dX13_grows_71 : decode cX13_grows 71 = .ok (.iload_n 1, 1) := by decide +kernel
theorem dX13_grows_72 : decode cX13_grows 72 = .ok (.if_icmp .ne 8, 3) := by decide +kernel
theorem dX13_grows_75 : decode cX13_grows 75 = .ok (.aload_n 0, 1) := by decide +kernel
theorem dX13_grows_76 : decode cX13_grows 76 = .ok (.iload_n 2, 1) := by decide +kernel
theorem dX13_grows_77 : decode cX13_grows 77 = .ok (.invokevirtual 103, 3) := by decide +kernel
theorem dX13_grows_80 : decode cX13_grows 80 = .ok (.iinc 2 1, 3) := by decide +kernel
theorem dX13_grows_83 : decode cX13_grows 83 = .ok (.goto (-31), 3) := by decide +kernel
theorem dX13_grows_86 : decode cX13_grows 86 = .ok (.iinc 1 1, 3) := by decide +kernel
theorem dX13_grows_89 : decode cX13_grows 89 = .ok (.goto (-45), 3) := by decide +kernel
theorem dX13_grows_92 : decode cX13_grows 92 = .ok (.iconst 0, 1) := by decide +kernel
theorem dX13_grows_93 : decode cX13_grows 93 = .ok (.istore_n 1, 1) := by decide +kernel
theorem dX13_grows_94 : decode cX13_grows 94 = .ok (.iload_n 1, 1) := by decide +kernel
theorem dX13_grows_95 : decode cX13_grows 95 = .ok (.bipush 10, 2) := by decide +kernel
theorem dX13_grows_97 : decode cX13_grows 97 = .ok (.if_icmp .ge 37, 3) := by decide +kernel
theorem dX13_grows_100 : decode cX13_grows 100 = .ok (.aload_n 0, 1) := by decide +kernel
theorem dX13_grows_101 : decode cX13_grows 101 = .ok (.getfield 45, 3) := by decide +kernel
theorem dX13_grows_104 : decode cX13_grows 104 = .ok (.iload_n 1, 1) := by decide +kernel
theorem dX13_grows_105 : decode cX13_grows 105 = .ok (.aload_n 0, 1) := by decide +kernel
theorem dX13_grows_106 : decode cX13_grows 106 = .ok (.getfield 39, 3) := by decide +kernel
theorem dX13_grows_109 : decode cX13_grows 109 = .ok (.iload_n 1, 1) := by decide +kernel
theorem dX13_grows_110 : decode cX13_grows 110 = .ok (.iaload, 1) := by decide +kernel
theorem dX13_grows_111 : decode cX13_grows 111 = .ok (.iload_n 1, 1) := by decide +kernel
theorem dX13_grows_112 : decode cX13_grows 112 = .ok (.if_icmp .ne 7, 3) := by decide +kernel
theorem dX13_grows_115 : decode cX13_grows 115 = .ok (.iconst 1, 1) := by decide +kernel
theorem dX13_grows_116 : decode cX13_grows 116 = .ok (.goto 4, 3) := by decide +kernel
theorem dX13_grows_119 : decode cX13_grows 119 = .ok (.iconst 0, 1) := by decide +kernel
theorem dX13_grows_120 : decode cX13_grows 120 = .ok (.bastore, 1) := by decide +kernel
theorem dX13_grows_121 : decode cX13_grows 121 = .ok (.aload_n 0, 1) := by decide +kernel
theorem dX13_grows_122 : decode cX13_grows 122 = .ok (.getfield 42, 3) := by decide +kernel
theorem dX13_grows_125 : decode cX13_grows 125 = .ok (.iload_n 1, 1) := by decide +kernel
theorem dX13_grows_126 : decode cX13_grows 126 = .ok (.iconst 0, 1) := by decide +kernel
theorem dX13_grows_127 : decode cX13_grows 127 = .ok (.iastore, 1) := by decide +kernel
theorem dX13_grows_128 : decode cX13_grows 128 = .ok (.iinc 1 1, 3) := by decide +kernel
theorem dX13_grows_131 : decode cX13_grows 131 = .ok (.goto (-37), 3) := by decide +kernel
theorem dX13_grows_134 : decode cX13_grows 134 = .ok (.iconst 1, 1) := by decide +kernel
theorem dX13_grows_135 : decode cX13_grows 135 = .ok (.istore_n 1, 1) := by decide +kernel
theorem dX13_grows_136 : decode cX13_grows 136 = .ok (.iload_n 1, 1) := by decide +kernel
theorem dX13_grows_137 : decode cX13_grows 137 = .ok (.ifCond .eq 44, 3) := by decide +kernel
theorem dX13_grows_140 : decode cX13_grows 140 = .ok (.iconst 0, 1) := by decide +kernel
theorem dX13_grows_141 : decode cX13_grows 141 = .ok (.istore_n 1, 1) := by decide +kernel
theorem dX13_grows_142 : decode cX13_grows 142 = .ok (.iconst 0, 1) := by decide +kernel
theorem dX13_grows_143 : decode cX13_grows 143 = .ok (.istore_n 2, 1) := by decide +kernel
theorem dX13_grows_144 : decode cX13_grows 144 = .ok (.iload_n 2, 1) := by decide +kernel
theorem dX13_grows_145 : decode cX13_grows 145 = .ok (.aload_n 0, 1) := by decide +kernel
theorem dX13_grows_146 : decode cX13_grows 146 = .ok (.getfield 7, 3) := by decide +kernel
theorem dX13_grows_149 : decode cX13_grows 149 = .ok (.iconst 1, 1) := by decide +kernel
theorem dX13_grows_150 : decode cX13_grows 150 = .ok (.iaload, 1) := by decide +kernel
theorem dX13_grows_151 : decode cX13_grows 151 = .ok (.if_icmp .ge 27, 3) := by decide +kernel
theorem dX13_grows_154 : decode cX13_grows 154 = .ok (.aload_n 0, 1) := by decide +kernel
theorem dX13_grows_155 : decode cX13_grows 155 = .ok (.iload_n 2, 1) := by decide +kernel
theorem dX13_grows_156 : decode cX13_grows 156 = .ok (.invokevirtual 107, 3) := by decide +kernel
theorem dX13_grows_159 : decode cX13_grows 159 = .ok (.ifCond .ne 7, 3) := by decide +kernel
theorem dX13_grows_162 : decode cX13_grows 162 = .ok (.iload_n 1, 1) := by decide +kernel
theorem dX13_grows_163 : decode cX13_grows 163 = .ok (.ifCond .eq 7, 3) := by decide +kernel
theorem dX13_grows_166 : decode cX13_grows 166 = .ok (.iconst 1, 1) := by decide +kernel
theorem dX13_grows_167 : decode cX13_grows 167 = .ok (.goto 4, 3) := by decide +kernel
theorem dX13_grows_170 : decode cX13_grows 170 = .ok (.iconst 0, 1) := by decide +kernel
theorem dX13_grows_171 : decode cX13_grows 171 = .ok (.istore_n 1, 1) := by decide +kernel
theorem dX13_grows_172 : decode cX13_grows 172 = .ok (.iinc 2 1, 3) := by decide +kernel
theorem dX13_grows_175 : decode cX13_grows 175 = .ok (.goto (-31), 3) := by decide +kernel
theorem dX13_grows_178 : decode cX13_grows 178 = .ok (.goto (-42), 3) := by decide +kernel
theorem dX13_grows_181 : decode cX13_grows 181 = .ok (.return_, 1) := by decide +kernel
theorem dX13_closes_0 : decode cX13_closes 0 = .ok (.aload_n 0, 1) := by decide +kernel
theorem dX13_closes_1 : decode cX13_closes 1 = .ok (.iload_n 1, 1) := by decide +kernel
theorem dX13_closes_2 : decode cX13_closes 2 = .ok (.invokevirtual 85, 3) := by decide +kernel
theorem dX13_closes_5 : decode cX13_closes 5 = .ok (.ifCond .eq 16, 3) := by decide +kernel
theorem dX13_closes_8 : decode cX13_closes 8 = .ok (.aload_n 0, 1) := by decide +kernel
theorem dX13_closes_9 : decode cX13_closes 9 = .ok (.getfield 36, 3) := by decide +kernel
theorem dX13_closes_12 : decode cX13_closes 12 = .ok (.iload_n 1, 1) := by decide +kernel
theorem dX13_closes_13 : decode cX13_closes 13 = .ok (.iaload, 1) := by decide +kernel
theorem dX13_closes_14 : decode cX13_closes 14 = .ok (.ifCond .ne 7, 3) := by decide +kernel
theorem dX13_closes_17 : decode cX13_closes 17 = .ok (.iconst 1, 1) := by decide +kernel
theorem dX13_closes_18 : decode cX13_closes 18 = .ok (.goto 4, 3) := by decide +kernel
theorem dX13_closes_21 : decode cX13_closes 21 = .ok (.iconst 0, 1) := by decide +kernel
theorem dX13_closes_22 : decode cX13_closes 22 = .ok (.ireturn, 1) := by decide +kernel
theorem dX13_datumOf_0 : decode cX13_datumOf 0 = .ok (.iconst 0, 1) := by decide +kernel
theorem dX13_datumOf_1 : decode cX13_datumOf 1 = .ok (.istore_n 2, 1) := by decide +kernel
theorem dX13_datumOf_2 : decode cX13_datumOf 2 = .ok (.iload_n 2, 1) := by decide +kernel
theorem dX13_datumOf_3 : decode cX13_datumOf 3 = .ok (.aload_n 0, 1) := by decide +kernel
theorem dX13_datumOf_4 : decode cX13_datumOf 4 = .ok (.getfield 7, 3) := by decide +kernel
theorem dX13_datumOf_7 : decode cX13_datumOf 7 = .ok (.iconst 0, 1) := by decide +kernel
theorem dX13_datumOf_8 : decode cX13_datumOf 8 = .ok (.iaload, 1) := by decide +kernel
theorem dX13_datumOf_9 : decode cX13_datumOf 9 = .ok (.if_icmp .ge 38, 3) := by decide +kernel
theorem dX13_datumOf_12 : decode cX13_datumOf 12 = .ok (.aload_n 0, 1) := by decide +kernel
theorem dX13_datumOf_13 : decode cX13_datumOf 13 = .ok (.getfield 39, 3) := by decide +kernel
theorem dX13_datumOf_16 : decode cX13_datumOf 16 = .ok (.iload_n 2, 1) := by decide +kernel
theorem dX13_datumOf_17 : decode cX13_datumOf 17 = .ok (.iaload, 1) := by decide +kernel
theorem dX13_datumOf_18 : decode cX13_datumOf 18 = .ok (.aload_n 0, 1) := by decide +kernel
theorem dX13_datumOf_19 : decode cX13_datumOf 19 = .ok (.getfield 39, 3) := by decide +kernel
theorem dX13_datumOf_22 : decode cX13_datumOf 22 = .ok (.iload_n 1, 1) := by decide +kernel
theorem dX13_datumOf_23 : decode cX13_datumOf 23 = .ok (.iaload, 1) := by decide +kernel
theorem dX13_datumOf_24 : decode cX13_datumOf 24 = .ok (.if_icmp .ne 17, 3) := by decide +kernel
theorem dX13_datumOf_27 : decode cX13_datumOf 27 = .ok (.aload_n 0, 1) := by decide +kernel
theorem dX13_datumOf_28 : decode cX13_datumOf 28 = .ok (.getfield 7, 3) := by decide +kernel
theorem dX13_datumOf_31 : decode cX13_datumOf 31 = .ok (.iconst 4, 1) := by decide +kernel
theorem dX13_datumOf_32 : decode cX13_datumOf 32 = .ok (.iload_n 2, 1) := by decide +kernel
theorem dX13_datumOf_33 : decode cX13_datumOf 33 = .ok (.iadd, 1) := by decide +kernel
theorem dX13_datumOf_34 : decode cX13_datumOf 34 = .ok (.iaload, 1) := by decide +kernel
theorem dX13_datumOf_35 : decode cX13_datumOf 35 = .ok (.iconst 1, 1) := by decide +kernel
theorem dX13_datumOf_36 : decode cX13_datumOf 36 = .ok (.if_icmp .ne 5, 3) := by decide +kernel
theorem dX13_datumOf_39 : decode cX13_datumOf 39 = .ok (.iload_n 2, 1) := by decide +kernel
theorem dX13_datumOf_40 : decode cX13_datumOf 40 = .ok (.ireturn, 1) := by decide +kernel
theorem dX13_datumOf_41 : decode cX13_datumOf 41 = .ok (.iinc 2 1, 3) := by decide +kernel
theorem dX13_datumOf_44 : decode cX13_datumOf 44 = .ok (.goto (-42), 3) := by decide +kernel
theorem dX13_datumOf_47 : decode cX13_datumOf 47 = .ok (.iconst (-1), 1) := by decide +kernel
theorem dX13_datumOf_48 : decode cX13_datumOf 48 = .ok (.ireturn, 1) := by decide +kernel
theorem dX13_byDatum_0 : decode cX13_byDatum 0 = .ok (.aload_n 0, 1) := by decide +kernel
theorem dX13_byDatum_1 : decode cX13_byDatum 1 = .ok (.iload_n 1, 1) := by decide +kernel
theorem dX13_byDatum_2 : decode cX13_byDatum 2 = .ok (.invokevirtual 110, 3) := by decide +kernel
theorem dX13_byDatum_5 : decode cX13_byDatum 5 = .ok (.istore_n 2, 1) := by decide +kernel
theorem dX13_byDatum_6 : decode cX13_byDatum 6 = .ok (.aload_n 0, 1) := by decide +kernel
theorem dX13_byDatum_7 : decode cX13_byDatum 7 = .ok (.getfield 7, 3) := by decide +kernel
theorem dX13_byDatum_10 : decode cX13_byDatum 10 = .ok (.bipush 14, 2) := by decide +kernel
theorem dX13_byDatum_12 : decode cX13_byDatum 12 = .ok (.iload_n 2, 1) := by decide +kernel
theorem dX13_byDatum_13 : decode cX13_byDatum 13 = .ok (.iadd, 1) := by decide +kernel
theorem dX13_byDatum_14 : decode cX13_byDatum 14 = .ok (.iaload, 1) := by decide +kernel
theorem dX13_byDatum_15 : decode cX13_byDatum 15 = .ok (.aload_n 0, 1) := by decide +kernel
theorem dX13_byDatum_16 : decode cX13_byDatum 16 = .ok (.getfield 42, 3) := by decide +kernel
theorem dX13_byDatum_19 : decode cX13_byDatum 19 = .ok (.iload_n 1, 1) := by decide +kernel
theorem dX13_byDatum_20 : decode cX13_byDatum 20 = .ok (.iaload, 1) := by decide +kernel
theorem dX13_byDatum_21 : decode cX13_byDatum 21 = .ok (.iadd, 1) := by decide +kernel
theorem dX13_byDatum_22 : decode cX13_byDatum 22 = .ok (.aload_n 0, 1) := by decide +kernel
theorem dX13_byDatum_23 : decode cX13_byDatum 23 = .ok (.getfield 42, 3) := by decide +kernel
theorem dX13_byDatum_26 : decode cX13_byDatum 26 = .ok (.iload_n 2, 1) := by decide +kernel
theorem dX13_byDatum_27 : decode cX13_byDatum 27 = .ok (.iaload, 1) := by decide +kernel
theorem dX13_byDatum_28 : decode cX13_byDatum 28 = .ok (.isub, 1) := by decide +kernel
theorem dX13_byDatum_29 : decode cX13_byDatum 29 = .ok (.ireturn, 1) := by decide +kernel
theorem dX13_isHigh_0 : decode cX13_isHigh 0 = .ok (.aload_n 0, 1) := by decide +kernel
theorem dX13_isHigh_1 : decode cX13_isHigh 1 = .ok (.iload_n 1, 1) := by decide +kernel
theorem dX13_isHigh_2 : decode cX13_isHigh 2 = .ok (.invokevirtual 110, 3) := by decide +kernel
theorem dX13_isHigh_5 : decode cX13_isHigh 5 = .ok (.iconst (-1), 1) := by decide +kernel
theorem dX13_isHigh_6 : decode cX13_isHigh 6 = .ok (.if_icmp .eq 7, 3) := by decide +kernel
theorem dX13_isHigh_9 : decode cX13_isHigh 9 = .ok (.iconst 1, 1) := by decide +kernel
theorem dX13_isHigh_10 : decode cX13_isHigh 10 = .ok (.goto 4, 3) := by decide +kernel
theorem dX13_isHigh_13 : decode cX13_isHigh 13 = .ok (.iconst 0, 1) := by decide +kernel
theorem dX13_isHigh_14 : decode cX13_isHigh 14 = .ok (.ireturn, 1) := by decide +kernel
theorem dX13_heightOf_0 : decode cX13_heightOf 0 = .ok (.aload_n 0, 1) := by decide +kernel
theorem dX13_heightOf_1 : decode cX13_heightOf 1 = .ok (.getfield 7, 3) := by decide +kernel
theorem dX13_heightOf_4 : decode cX13_heightOf 4 = .ok (.iconst 4, 1) := by decide +kernel
theorem dX13_heightOf_5 : decode cX13_heightOf 5 = .ok (.iload_n 1, 1) := by decide +kernel
theorem dX13_heightOf_6 : decode cX13_heightOf 6 = .ok (.iadd, 1) := by decide +kernel
theorem dX13_heightOf_7 : decode cX13_heightOf 7 = .ok (.iaload, 1) := by decide +kernel
theorem dX13_heightOf_8 : decode cX13_heightOf 8 = .ok (.iconst 1, 1) := by decide +kernel
theorem dX13_heightOf_9 : decode cX13_heightOf 9 = .ok (.if_icmp .ne 15, 3) := by decide +kernel
theorem dX13_heightOf_12 : decode cX13_heightOf 12 = .ok (.aload_n 0, 1) := by decide +kernel
theorem dX13_heightOf_13 : decode cX13_heightOf 13 = .ok (.getfield 7, 3) := by decide +kernel
theorem dX13_heightOf_16 : decode cX13_heightOf 16 = .ok (.bipush 14, 2) := by decide +kernel
theorem dX13_heightOf_18 : decode cX13_heightOf 18 = .ok (.iload_n 1, 1) := by decide +kernel
theorem dX13_heightOf_19 : decode cX13_heightOf 19 = .ok (.iadd, 1) := by decide +kernel
theorem dX13_heightOf_20 : decode cX13_heightOf 20 = .ok (.iaload, 1) := by decide +kernel
theorem dX13_heightOf_21 : decode cX13_heightOf 21 = .ok (.goto 8, 3) := by decide +kernel
theorem dX13_heightOf_24 : decode cX13_heightOf 24 = .ok (.aload_n 0, 1) := by decide +kernel
theorem dX13_heightOf_25 : decode cX13_heightOf 25 = .ok (.iload_n 1, 1) := by decide +kernel
theorem dX13_heightOf_26 : decode cX13_heightOf 26 = .ok (.invokevirtual 113, 3) := by decide +kernel
theorem dX13_heightOf_29 : decode cX13_heightOf 29 = .ok (.ireturn, 1) := by decide +kernel
theorem dX13_reaches_0 : decode cX13_reaches 0 = .ok (.iconst 0, 1) := by decide +kernel
theorem dX13_reaches_1 : decode cX13_reaches 1 = .ok (.istore_n 2, 1) := by decide +kernel
theorem dX13_reaches_2 : decode cX13_reaches 2 = .ok (.iload_n 2, 1) := by decide +kernel
theorem dX13_reaches_3 : decode cX13_reaches 3 = .ok (.bipush 10, 2) := by decide +kernel
theorem dX13_reaches_5 : decode cX13_reaches 5 = .ok (.if_icmp .ge 32, 3) := by decide +kernel
theorem dX13_reaches_8 : decode cX13_reaches 8 = .ok (.aload_n 0, 1) := by decide +kernel
theorem dX13_reaches_9 : decode cX13_reaches 9 = .ok (.getfield 55, 3) := by decide +kernel
theorem dX13_reaches_12 : decode cX13_reaches 12 = .ok (.iload_n 2, 1) := by decide +kernel
theorem dX13_reaches_13 : decode cX13_reaches 13 = .ok (.iconst (-1), 1) := by decide +kernel
theorem dX13_reaches_14 : decode cX13_reaches 14 = .ok (.iastore, 1) := by decide +kernel
theorem dX13_reaches_15 : decode cX13_reaches 15 = .ok (.aload_n 0, 1) := by decide +kernel
theorem dX13_reaches_16 : decode cX13_reaches 16 = .ok (.getfield 45, 3) := by decide +kernel
theorem dX13_reaches_19 : decode cX13_reaches 19 = .ok (.iload_n 2, 1) := by decide +kernel
theorem dX13_reaches_20 : decode cX13_reaches 20 = .ok (.iload_n 2, 1) := by decide +kernel
theorem dX13_reaches_21 : decode cX13_reaches 21 = .ok (.iload_n 1, 1) := by decide +kernel
theorem dX13_reaches_22 : decode cX13_reaches 22 = .ok (.if_icmp .ne 7, 3) := by decide +kernel
theorem dX13_reaches_25 : decode cX13_reaches 25 = .ok (.iconst 1, 1) := by decide +kernel
theorem dX13_reaches_26 : decode cX13_reaches 26 = .ok (.goto 4, 3) := by decide +kernel
theorem dX13_reaches_29 : decode cX13_reaches 29 = .ok (.iconst 0, 1) := by decide +kernel
theorem dX13_reaches_30 : decode cX13_reaches 30 = .ok (.bastore, 1) := by decide +kernel
theorem dX13_reaches_31 : decode cX13_reaches 31 = .ok (.iinc 2 1, 3) := by decide +kernel
theorem dX13_reaches_34 : decode cX13_reaches 34 = .ok (.goto (-32), 3) := by decide +kernel
theorem dX13_reaches_37 : decode cX13_reaches 37 = .ok (.iconst 0, 1) := by decide +kernel
theorem dX13_reaches_38 : decode cX13_reaches 38 = .ok (.istore_n 2, 1) := by decide +kernel
theorem dX13_reaches_39 : decode cX13_reaches 39 = .ok (.iload_n 2, 1) := by decide +kernel
theorem dX13_reaches_40 : decode cX13_reaches 40 = .ok (.bipush 10, 2) := by decide +kernel
theorem dX13_reaches_42 : decode cX13_reaches 42 = .ok (.if_icmp .ge 115, 3) := by decide +kernel
theorem dX13_reaches_45 : decode cX13_reaches 45 = .ok (.iconst 0, 1) := by decide +kernel
theorem dX13_reaches_46 : decode cX13_reaches 46 = .ok (.istore_n 3, 1) := by decide +kernel
theorem dX13_reaches_47 : decode cX13_reaches 47 = .ok (.iload_n 3, 1) := by decide +kernel
theorem dX13_reaches_48 : decode cX13_reaches 48 = .ok (.aload_n 0, 1) := by decide +kernel
theorem dX13_reaches_49 : decode cX13_reaches 49 = .ok (.getfield 7, 3) := by decide +kernel
theorem dX13_reaches_52 : decode cX13_reaches 52 = .ok (.iconst 1, 1) := by decide +kernel
theorem dX13_reaches_53 : decode cX13_reaches 53 = .ok (.iaload, 1) := by decide +kernel
theorem dX13_reaches_54 : decode cX13_reaches 54 = .ok (.if_icmp .ge 97, 3) := by decide +kernel
theorem dX13_reaches_57 : decode cX13_reaches 57 = .ok (.aload_n 0, 1) := by decide +kernel
theorem dX13_reaches_58 : decode cX13_reaches 58 = .ok (.getfield 7, 3) := by decide +kernel
theorem dX13_reaches_61 : decode cX13_reaches 61 = .ok (.bipush 24, 2) := by decide +kernel
theorem dX13_reaches_63 : decode cX13_reaches 63 = .ok (.iload_n 3, 1) := by decide +kernel
theorem dX13_reaches_64 : decode cX13_reaches 64 = .ok (.iadd, 1) := by decide +kernel
theorem dX13_reaches_65 : decode cX13_reaches 65 = .ok (.iaload, 1) := by decide +kernel
theorem dX13_reaches_66 : decode cX13_reaches 66 = .ok (.istore 4, 2) := by decide +kernel
theorem dX13_reaches_68 : decode cX13_reaches 68 = .ok (.aload_n 0, 1) := by decide +kernel
theorem dX13_reaches_69 : decode cX13_reaches 69 = .ok (.getfield 7, 3) := by decide +kernel
theorem dX13_reaches_72 : decode cX13_reaches 72 = .ok (.bipush 40, 2) := by decide +kernel
theorem dX13_reaches_74 : decode cX13_reaches 74 = .ok (.iload_n 3, 1) := by decide +kernel
theorem dX13_reaches_75 : decode cX13_reaches 75 = .ok (.iadd, 1) := by decide +kernel
theorem dX13_reaches_76 : decode cX13_reaches 76 = .ok (.iaload, 1) := by decide +kernel
theorem dX13_reaches_77 : decode cX13_reaches 77 = .ok (.istore 5, 2) := by decide +kernel
theorem dX13_reaches_79 : decode cX13_reaches 79 = .ok (.aload_n 0, 1) := by decide +kernel
theorem dX13_reaches_80 : decode cX13_reaches 80 = .ok (.getfield 36, 3) := by decide +kernel
theorem dX13_reaches_83 : decode cX13_reaches 83 = .ok (.iload_n 3, 1) := by decide +kernel
theorem dX13_reaches_84 : decode cX13_reaches 84 = .ok (.iaload, 1) := by decide +kernel
theorem dX13_reaches_85 : decode cX13_reaches 85 = .ok (.iconst 1, 1) := by decide +kernel
theorem dX13_reaches_86 : decode cX13_reaches 86 = .ok (.if_icmp .ne 59, 3) := by decide +kernel
theorem dX13_reaches_89 : decode cX13_reaches 89 = .ok (.aload_n 0, 1) := by decide +kernel
theorem dX13_reaches_90 : decode cX13_reaches 90 = .ok (.getfield 45, 3) := by decide +kernel
theorem dX13_reaches_93 : decode cX13_reaches 93 = .ok (.iload 4, 2) := by decide +kernel
theorem dX13_reaches_95 : decode cX13_reaches 95 = .ok (.baload, 1) := by decide +kernel
theorem dX13_reaches_96 : decode cX13_reaches 96 = .ok (.aload_n 0, 1) := by decide +kernel
theorem dX13_reaches_97 : decode cX13_reaches 97 = .ok (.getfield 45, 3) := by decide +kernel
theorem dX13_reaches_100 : decode cX13_reaches 100 = .ok (.iload 5, 2) := by decide +kernel
theorem dX13_reaches_102 : decode cX13_reaches 102 = .ok (.baload, 1) := by decide +kernel
theorem dX13_reaches_103 : decode cX13_reaches 103 = .ok (.if_icmp .eq 42, 3) := by decide +kernel
theorem dX13_reaches_106 : decode cX13_reaches 106 = .ok (.aload_n 0, 1) := by decide +kernel
theorem dX13_reaches_107 : decode cX13_reaches 107 = .ok (.getfield 55, 3) := by decide +kernel
theorem dX13_reaches_110 : decode cX13_reaches 110 = .ok (.aload_n 0, 1) := by decide +kernel
theorem dX13_reaches_111 : decode cX13_reaches 111 = .ok (.getfield 45, 3) := by decide +kernel
theorem dX13_reaches_114 : decode cX13_reaches 114 = .ok (.iload 4, 2) := by decide +kernel
theorem dX13_reaches_116 : decode cX13_reaches 116 = .ok (.baload, 1) := by decide +kernel
theorem dX13_reaches_117 : decode cX13_reaches 117 = .ok (.ifCond .eq 8, 3) := by decide +kernel
theorem dX13_reaches_120 : decode cX13_reaches 120 = .ok (.iload 5, 2) := by decide +kernel
theorem dX13_reaches_122 : decode cX13_reaches 122 = .ok (.goto 5, 3) := by decide +kernel
theorem dX13_reaches_125 : decode cX13_reaches 125 = .ok (.iload 4, 2) := by decide +kernel
theorem dX13_reaches_127 : decode cX13_reaches 127 = .ok (.iload_n 3, 1) := by decide +kernel
theorem dX13_reaches_128 : decode cX13_reaches 128 = .ok (.iastore, 1) := by decide +kernel
theorem dX13_reaches_129 : decode cX13_reaches 129 = .ok (.aload_n 0, 1) := by decide +kernel
theorem dX13_reaches_130 : decode cX13_reaches 130 = .ok (.getfield 45, 3) := by decide +kernel
theorem dX13_reaches_133 : decode cX13_reaches 133 = .ok (.iload 4, 2) := by decide +kernel
theorem dX13_reaches_135 : decode cX13_reaches 135 = .ok (.iconst 1, 1) := by decide +kernel
theorem dX13_reaches_136 : decode cX13_reaches 136 = .ok (.bastore, 1) := by decide +kernel
theorem dX13_reaches_137 : decode cX13_reaches 137 = .ok (.aload_n 0, 1) := by decide +kernel
theorem dX13_reaches_138 : decode cX13_reaches 138 = .ok (.getfield 45, 3) := by decide +kernel
theorem dX13_reaches_141 : decode cX13_reaches 141 = .ok (.iload 5, 2) := by decide +kernel
theorem dX13_reaches_143 : decode cX13_reaches 143 = .ok (.iconst 1, 1) := by decide +kernel
theorem dX13_reaches_144 : decode cX13_reaches 144 = .ok (.bastore, 1) := by decide +kernel
theorem dX13_reaches_145 : decode cX13_reaches 145 = .ok (.iinc 3 1, 3) := by decide +kernel
theorem dX13_reaches_148 : decode cX13_reaches 148 = .ok (.goto (-101), 3) := by decide +kernel
theorem dX13_reaches_151 : decode cX13_reaches 151 = .ok (.iinc 2 1, 3) := by decide +kernel
theorem dX13_reaches_154 : decode cX13_reaches 154 = .ok (.goto (-115), 3) := by decide +kernel
theorem dX13_reaches_157 : decode cX13_reaches 157 = .ok (.return_, 1) := by decide +kernel
theorem dX13_circles_0 : decode cX13_circles 0 = .ok (.iconst 0, 1) := by decide +kernel
theorem dX13_circles_1 : decode cX13_circles 1 = .ok (.istore_n 2, 1) := by decide +kernel
theorem dX13_circles_2 : decode cX13_circles 2 = .ok (.iload_n 2, 1) := by decide +kernel
theorem dX13_circles_3 : decode cX13_circles 3 = .ok (.bipush 16, 2) := by decide +kernel
theorem dX13_circles_5 : decode cX13_circles 5 = .ok (.if_icmp .ge 16, 3) := by decide +kernel
theorem dX13_circles_8 : decode cX13_circles 8 = .ok (.aload_n 0, 1) := by decide +kernel
theorem dX13_circles_9 : decode cX13_circles 9 = .ok (.getfield 49, 3) := by decide +kernel
theorem dX13_circles_12 : decode cX13_circles 12 = .ok (.iload_n 2, 1) := by decide +kernel
theorem dX13_circles_13 : decode cX13_circles 13 = .ok (.iconst 0, 1) := by decide +kernel
theorem dX13_circles_14 : decode cX13_circles 14 = .ok (.iastore, 1) := by decide +kernel
theorem dX13_circles_15 : decode cX13_circles 15 = .ok (.iinc 2 1, 3) := by decide +kernel
theorem dX13_circles_18 : decode cX13_circles 18 = .ok (.goto (-16), 3) := by decide +kernel
theorem dX13_circles_21 : decode cX13_circles 21 = .ok (.aload_n 0, 1) := by decide +kernel
theorem dX13_circles_22 : decode cX13_circles 22 = .ok (.aload_n 0, 1) := by decide +kernel
theorem dX13_circles_23 : decode cX13_circles 23 = .ok (.getfield 7, 3) := by decide +kernel
theorem dX13_circles_26 : decode cX13_circles 26 = .ok (.bipush 24, 2) := by decide +kernel
theorem dX13_circles_28 : decode cX13_circles 28 = .ok (.iload_n 1, 1) := by decide +kernel
theorem dX13_circles_29 : decode cX13_circles 29 = .ok (.iadd, 1) := by decide +kernel
theorem dX13_circles_30 : decode cX13_circles 30 = .ok (.iaload, 1) := by decide +kernel
theorem dX13_circles_31 : decode cX13_circles 31 = .ok (.invokevirtual 116, 3) := by decide +kernel
theorem dX13_circles_34 : decode cX13_circles 34 = .ok (.aload_n 0, 1) := by decide +kernel
theorem dX13_circles_35 : decode cX13_circles 35 = .ok (.getfield 7, 3) := by decide +kernel
theorem dX13_circles_38 : decode cX13_circles 38 = .ok (.bipush 40, 2) := by decide +kernel
theorem dX13_circles_40 : decode cX13_circles 40 = .ok (.iload_n 1, 1) := by decide +kernel
theorem dX13_circles_41 : decode cX13_circles 41 = .ok (.iadd, 1) := by decide +kernel
theorem dX13_circles_42 : decode cX13_circles 42 = .ok (.iaload, 1) := by decide +kernel
theorem dX13_circles_43 : decode cX13_circles 43 = .ok (.istore_n 2, 1) := by decide +kernel
theorem dX13_circles_44 : decode cX13_circles 44 = .ok (.iload_n 2, 1) := by decide +kernel
theorem dX13_circles_45 : decode cX13_circles 45 = .ok (.aload_n 0, 1) := by decide +kernel
theorem dX13_circles_46 : decode cX13_circles 46 = .ok (.getfield 7, 3) := by decide +kernel
theorem dX13_circles_49 : decode cX13_circles 49 = .ok (.bipush 24, 2) := by decide +kernel
theorem dX13_circles_51 : decode cX13_circles 51 = .ok (.iload_n 1, 1) := by decide +kernel
theorem dX13_circles_52 : decode cX13_circles 52 = .ok (.iadd, 1) := by decide +kernel
theorem dX13_circles_53 : decode cX13_circles 53 = .ok (.iaload, 1) := by decide +kernel
theorem dX13_circles_54 : decode cX13_circles 54 = .ok (.if_icmp .eq 72, 3) := by decide +kernel
theorem dX13_circles_57 : decode cX13_circles 57 = .ok (.aload_n 0, 1) := by decide +kernel
theorem dX13_circles_58 : decode cX13_circles 58 = .ok (.getfield 55, 3) := by decide +kernel
theorem dX13_circles_61 : decode cX13_circles 61 = .ok (.iload_n 2, 1) := by decide +kernel
theorem dX13_circles_62 : decode cX13_circles 62 = .ok (.iaload, 1) := by decide +kernel
theorem dX13_circles_63 : decode cX13_circles 63 = .ok (.istore_n 3, 1) := by decide +kernel
theorem dX13_circles_64 : decode cX13_circles 64 = .ok (.aload_n 0, 1) := by decide +kernel
theorem dX13_circles_65 : decode cX13_circles 65 = .ok (.getfield 49, 3) := by decide +kernel
theorem dX13_circles_68 : decode cX13_circles 68 = .ok (.iload_n 3, 1) := by decide +kernel
theorem dX13_circles_69 : decode cX13_circles 69 = .ok (.aload_n 0, 1) := by decide +kernel
theorem dX13_circles_70 : decode cX13_circles 70 = .ok (.getfield 7, 3) := by decide +kernel
theorem dX13_circles_73 : decode cX13_circles 73 = .ok (.bipush 24, 2) := by decide +kernel
theorem dX13_circles_75 : decode cX13_circles 75 = .ok (.iload_n 3, 1) := by decide +kernel
theorem dX13_circles_76 : decode cX13_circles 76 = .ok (.iadd, 1) := by decide +kernel
theorem dX13_circles_77 : decode cX13_circles 77 = .ok (.iaload, 1) := by decide +kernel
theorem dX13_circles_78 : decode cX13_circles 78 = .ok (.iload_n 2, 1) := by decide +kernel
theorem dX13_circles_79 : decode cX13_circles 79 = .ok (.if_icmp .ne 7, 3) := by decide +kernel
theorem dX13_circles_82 : decode cX13_circles 82 = .ok (.iconst 1, 1) := by decide +kernel
theorem dX13_circles_83 : decode cX13_circles 83 = .ok (.goto 4, 3) := by decide +kernel
theorem dX13_circles_86 : decode cX13_circles 86 = .ok (.iconst (-1), 1) := by decide +kernel
theorem dX13_circles_87 : decode cX13_circles 87 = .ok (.iastore, 1) := by decide +kernel
theorem dX13_circles_88 : decode cX13_circles 88 = .ok (.aload_n 0, 1) := by decide +kernel
theorem dX13_circles_89 : decode cX13_circles 89 = .ok (.getfield 7, 3) := by decide +kernel
theorem dX13_circles_92 : decode cX13_circles 92 = .ok (.bipush 24, 2) := by decide +kernel
theorem dX13_circles_94 : decode cX13_circles 94 = .ok (.iload_n 3, 1) := by decide +kernel
theorem dX13_circles_95 : decode cX13_circles 95 = .ok (.iadd, 1) := by decide +kernel
theorem dX13_circles_96 : decode cX13_circles 96 = .ok (.iaload, 1) := by decide +kernel
theorem dX13_circles_97 : decode cX13_circles 97 = .ok (.iload_n 2, 1) := by decide +kernel
theorem dX13_circles_98 : decode cX13_circles 98 = .ok (.if_icmp .ne 15, 3) := by decide +kernel
theorem dX13_circles_101 : decode cX13_circles 101 = .ok (.aload_n 0, 1) := by decide +kernel
theorem dX13_circles_102 : decode cX13_circles 102 = .ok (.getfield 7, 3) := by decide +kernel
theorem dX13_circles_105 : decode cX13_circles 105 = .ok (.bipush 40, 2) := by decide +kernel
theorem dX13_circles_107 : decode cX13_circles 107 = .ok (.iload_n 3, 1) := by decide +kernel
theorem dX13_circles_108 : decode cX13_circles 108 = .ok (.iadd, 1) := by decide +kernel
theorem dX13_circles_109 : decode cX13_circles 109 = .ok (.iaload, 1) := by decide +kernel
theorem dX13_circles_110 : decode cX13_circles 110 = .ok (.goto 12, 3) := by decide +kernel
theorem dX13_circles_113 : decode cX13_circles 113 = .ok (.aload_n 0, 1) := by decide +kernel
theorem dX13_circles_114 : decode cX13_circles 114 = .ok (.getfield 7, 3) := by decide +kernel
theorem dX13_circles_117 : decode cX13_circles 117 = .ok (.bipush 24, 2) := by decide +kernel
theorem dX13_circles_119 : decode cX13_circles 119 = .ok (.iload_n 3, 1) := by decide +kernel
theorem dX13_circles_120 : decode cX13_circles 120 = .ok (.iadd, 1) := by decide +kernel
theorem dX13_circles_121 : decode cX13_circles 121 = .ok (.iaload, 1) := by decide +kernel
theorem dX13_circles_122 : decode cX13_circles 122 = .ok (.istore_n 2, 1) := by decide +kernel
theorem dX13_circles_123 : decode cX13_circles 123 = .ok (.goto (-79), 3) := by decide +kernel
theorem dX13_circles_126 : decode cX13_circles 126 = .ok (.aload_n 0, 1) := by decide +kernel
theorem dX13_circles_127 : decode cX13_circles 127 = .ok (.getfield 49, 3) := by decide +kernel
theorem dX13_circles_130 : decode cX13_circles 130 = .ok (.iload_n 1, 1) := by decide +kernel
theorem dX13_circles_131 : decode cX13_circles 131 = .ok (.iconst 1, 1) := by decide +kernel
theorem dX13_circles_132 : decode cX13_circles 132 = .ok (.iastore, 1) := by decide +kernel
theorem dX13_circles_133 : decode cX13_circles 133 = .ok (.return_, 1) := by decide +kernel
theorem dX13_lengthAround_0 : decode cX13_lengthAround 0 = .ok (.iconst 0, 1) := by decide +kernel
theorem dX13_lengthAround_1 : decode cX13_lengthAround 1 = .ok (.istore_n 1, 1) := by decide +kernel
theorem dX13_lengthAround_2 : decode cX13_lengthAround 2 = .ok (.iconst 0, 1) := by decide +kernel
theorem dX13_lengthAround_3 : decode cX13_lengthAround 3 = .ok (.istore_n 2, 1) := by decide +kernel
theorem dX13_lengthAround_4 : decode cX13_lengthAround 4 = .ok (.iload_n 2, 1) := by decide +kernel
theorem dX13_lengthAround_5 : decode cX13_lengthAround 5 = .ok (.aload_n 0, 1) := by decide +kernel
theorem dX13_lengthAround_6 : decode cX13_lengthAround 6 = .ok (.getfield 7, 3) := by decide +kernel
theorem dX13_lengthAround_9 : decode cX13_lengthAround 9 = .ok (.iconst 1, 1) := by decide +kernel
theorem dX13_lengthAround_10 : decode cX13_lengthAround 10 = .ok (.iaload, 1) := by decide +kernel
theorem dX13_lengthAround_11 : decode cX13_lengthAround 11 = .ok (.if_icmp .ge 34, 3) := by decide +kernel
theorem dX13_lengthAround_14 : decode cX13_lengthAround 14 = .ok (.iload_n 1, 1) := by decide +kernel
theorem dX13_lengthAround_15 : decode cX13_lengthAround 15 = .ok (.aload_n 0, 1) := by decide +kernel
theorem dX13_lengthAround_16 : decode cX13_lengthAround 16 = .ok (.getfield 49, 3) := by decide +kernel
theorem dX13_lengthAround_19 : decode cX13_lengthAround 19 = .ok (.iload_n 2, 1) := by decide +kernel
theorem dX13_lengthAround_20 : decode cX13_lengthAround 20 = .ok (.iaload, 1) := by decide +kernel
theorem dX13_lengthAround_21 : decode cX13_lengthAround 21 = .ok (.ifCond .eq 15, 3) := by decide +kernel
theorem dX13_lengthAround_24 : decode cX13_lengthAround 24 = .ok (.aload_n 0, 1) := by decide +kernel
theorem dX13_lengthAround_25 : decode cX13_lengthAround 25 = .ok (.getfield 7, 3) := by decide +kernel
theorem dX13_lengthAround_28 : decode cX13_lengthAround 28 = .ok (.bipush 56, 2) := by decide +kernel
theorem dX13_lengthAround_30 : decode cX13_lengthAround 30 = .ok (.iload_n 2, 1) := by decide +kernel
theorem dX13_lengthAround_31 : decode cX13_lengthAround 31 = .ok (.iadd, 1) := by decide +kernel
theorem dX13_lengthAround_32 : decode cX13_lengthAround 32 = .ok (.iaload, 1) := by decide +kernel
theorem dX13_lengthAround_33 : decode cX13_lengthAround 33 = .ok (.goto 4, 3) := by decide +kernel
theorem dX13_lengthAround_36 : decode cX13_lengthAround 36 = .ok (.iconst 0, 1) := by decide +kernel
theorem dX13_lengthAround_37 : decode cX13_lengthAround 37 = .ok (.iadd, 1) := by decide +kernel
theorem dX13_lengthAround_38 : decode cX13_lengthAround 38 = .ok (.istore_n 1, 1) := by decide +kernel
theorem dX13_lengthAround_39 : decode cX13_lengthAround 39 = .ok (.iinc 2 1, 3) := by decide +kernel
theorem dX13_lengthAround_42 : decode cX13_lengthAround 42 = .ok (.goto (-38), 3) := by decide +kernel
theorem dX13_lengthAround_45 : decode cX13_lengthAround 45 = .ok (.iload_n 1, 1) := by decide +kernel
theorem dX13_lengthAround_46 : decode cX13_lengthAround 46 = .ok (.ireturn, 1) := by decide +kernel
theorem dX13_errorAround_0 : decode cX13_errorAround 0 = .ok (.iconst 0, 1) := by decide +kernel
theorem dX13_errorAround_1 : decode cX13_errorAround 1 = .ok (.istore_n 1, 1) := by decide +kernel
theorem dX13_errorAround_2 : decode cX13_errorAround 2 = .ok (.iconst 0, 1) := by decide +kernel
theorem dX13_errorAround_3 : decode cX13_errorAround 3 = .ok (.istore_n 2, 1) := by decide +kernel
theorem dX13_errorAround_4 : decode cX13_errorAround 4 = .ok (.iload_n 2, 1) := by decide +kernel
theorem dX13_errorAround_5 : decode cX13_errorAround 5 = .ok (.aload_n 0, 1) := by decide +kernel
theorem dX13_errorAround_6 : decode cX13_errorAround 6 = .ok (.getfield 7, 3) := by decide +kernel
theorem dX13_errorAround_9 : decode cX13_errorAround 9 = .ok (.iconst 1, 1) := by decide +kernel
theorem dX13_errorAround_10 : decode cX13_errorAround 10 = .ok (.iaload, 1) := by decide +kernel
theorem dX13_errorAround_11 : decode cX13_errorAround 11 = .ok (.if_icmp .ge 24, 3) := by decide +kernel
theorem dX13_errorAround_14 : decode cX13_errorAround 14 = .ok (.iload_n 1, 1) := by decide +kernel
theorem dX13_errorAround_15 : decode cX13_errorAround 15 = .ok (.aload_n 0, 1) := by decide +kernel
theorem dX13_errorAround_16 : decode cX13_errorAround 16 = .ok (.getfield 49, 3) := by decide +kernel
theorem dX13_errorAround_19 : decode cX13_errorAround 19 = .ok (.iload_n 2, 1) := by decide +kernel
theorem dX13_errorAround_20 : decode cX13_errorAround 20 = .ok (.iaload, 1) := by decide +kernel
theorem dX13_errorAround_21 : decode cX13_errorAround 21 = .ok (.aload_n 0, 1) := by decide +kernel
theorem dX13_errorAround_22 : decode cX13_errorAround 22 = .ok (.iload_n 2, 1) := by decide +kernel
theorem dX13_errorAround_23 : decode cX13_errorAround 23 = .ok (.invokevirtual 100, 3) := by decide +kernel
theorem dX13_errorAround_26 : decode cX13_errorAround 26 = .ok (.imul, 1) := by decide +kernel
theorem dX13_errorAround_27 : decode cX13_errorAround 27 = .ok (.iadd, 1) := by decide +kernel
theorem dX13_errorAround_28 : decode cX13_errorAround 28 = .ok (.istore_n 1, 1) := by decide +kernel
theorem dX13_errorAround_29 : decode cX13_errorAround 29 = .ok (.iinc 2 1, 3) := by decide +kernel
theorem dX13_errorAround_32 : decode cX13_errorAround 32 = .ok (.goto (-28), 3) := by decide +kernel
theorem dX13_errorAround_35 : decode cX13_errorAround 35 = .ok (.iload_n 1, 1) := by decide +kernel
theorem dX13_errorAround_36 : decode cX13_errorAround 36 = .ok (.ireturn, 1) := by decide +kernel
theorem dX13_remainder_0 : decode cX13_remainder 0 = .ok (.aload_n 0, 1) := by decide +kernel
theorem dX13_remainder_1 : decode cX13_remainder 1 = .ok (.getfield 49, 3) := by decide +kernel
theorem dX13_remainder_4 : decode cX13_remainder 4 = .ok (.iload_n 1, 1) := by decide +kernel
theorem dX13_remainder_5 : decode cX13_remainder 5 = .ok (.iaload, 1) := by decide +kernel
theorem dX13_remainder_6 : decode cX13_remainder 6 = .ok (.ifCond .ne 7, 3) := by decide +kernel
theorem dX13_remainder_9 : decode cX13_remainder 9 = .ok (.iconst (-1), 1) := by decide +kernel
theorem dX13_remainder_10 : decode cX13_remainder 10 = .ok (.goto 16, 3) := by decide +kernel
theorem dX13_remainder_13 : decode cX13_remainder 13 = .ok (.iload_n 2, 1) := by decide +kernel
theorem dX13_remainder_14 : decode cX13_remainder 14 = .ok (.aload_n 0, 1) := by decide +kernel
theorem dX13_remainder_15 : decode cX13_remainder 15 = .ok (.getfield 7, 3) := by decide +kernel
theorem dX13_remainder_18 : decode cX13_remainder 18 = .ok (.bipush 56, 2) := by decide +kernel
theorem dX13_remainder_20 : decode cX13_remainder 20 = .ok (.iload_n 1, 1) := by decide +kernel
theorem dX13_remainder_21 : decode cX13_remainder 21 = .ok (.iadd, 1) := by decide +kernel
theorem dX13_remainder_22 : decode cX13_remainder 22 = .ok (.iaload, 1) := by decide +kernel
theorem dX13_remainder_23 : decode cX13_remainder 23 = .ok (.imul, 1) := by decide +kernel
theorem dX13_remainder_24 : decode cX13_remainder 24 = .ok (.iload_n 3, 1) := by decide +kernel
theorem dX13_remainder_25 : decode cX13_remainder 25 = .ok (.irem, 1) := by decide +kernel
theorem dX13_remainder_26 : decode cX13_remainder 26 = .ok (.ireturn, 1) := by decide +kernel
theorem dX13_sharesOut_0 : decode cX13_sharesOut 0 = .ok (.aload_n 0, 1) := by decide +kernel
theorem dX13_sharesOut_1 : decode cX13_sharesOut 1 = .ok (.invokevirtual 119, 3) := by decide +kernel
theorem dX13_sharesOut_4 : decode cX13_sharesOut 4 = .ok (.invokestatic 79, 3) := by decide +kernel
theorem dX13_sharesOut_7 : decode cX13_sharesOut 7 = .ok (.istore_n 1, 1) := by decide +kernel
theorem dX13_sharesOut_8 : decode cX13_sharesOut 8 = .ok (.aload_n 0, 1) := by decide +kernel
theorem dX13_sharesOut_9 : decode cX13_sharesOut 9 = .ok (.invokevirtual 123, 3) := by decide +kernel
theorem dX13_sharesOut_12 : decode cX13_sharesOut 12 = .ok (.istore_n 2, 1) := by decide +kernel
theorem dX13_sharesOut_13 : decode cX13_sharesOut 13 = .ok (.iload_n 1, 1) := by decide +kernel
theorem dX13_sharesOut_14 : decode cX13_sharesOut 14 = .ok (.istore_n 3, 1) := by decide +kernel
theorem dX13_sharesOut_15 : decode cX13_sharesOut 15 = .ok (.iconst 0, 1) := by decide +kernel
theorem dX13_sharesOut_16 : decode cX13_sharesOut 16 = .ok (.istore 4, 2) := by decide +kernel
theorem dX13_sharesOut_18 : decode cX13_sharesOut 18 = .ok (.iload 4, 2) := by decide +kernel
theorem dX13_sharesOut_20 : decode cX13_sharesOut 20 = .ok (.bipush 16, 2) := by decide +kernel
theorem dX13_sharesOut_22 : decode cX13_sharesOut 22 = .ok (.if_icmp .ge 65, 3) := by decide +kernel
theorem dX13_sharesOut_25 : decode cX13_sharesOut 25 = .ok (.aload_n 0, 1) := by decide +kernel
theorem dX13_sharesOut_26 : decode cX13_sharesOut 26 = .ok (.getfield 52, 3) := by decide +kernel
theorem dX13_sharesOut_29 : decode cX13_sharesOut 29 = .ok (.iload 4, 2) := by decide +kernel
theorem dX13_sharesOut_31 : decode cX13_sharesOut 31 = .ok (.iload 4, 2) := by decide +kernel
theorem dX13_sharesOut_33 : decode cX13_sharesOut 33 = .ok (.aload_n 0, 1) := by decide +kernel
theorem dX13_sharesOut_34 : decode cX13_sharesOut 34 = .ok (.getfield 7, 3) := by decide +kernel
theorem dX13_sharesOut_37 : decode cX13_sharesOut 37 = .ok (.iconst 1, 1) := by decide +kernel
theorem dX13_sharesOut_38 : decode cX13_sharesOut 38 = .ok (.iaload, 1) := by decide +kernel
theorem dX13_sharesOut_39 : decode cX13_sharesOut 39 = .ok (.if_icmp .ge 30, 3) := by decide +kernel
theorem dX13_sharesOut_42 : decode cX13_sharesOut 42 = .ok (.aload_n 0, 1) := by decide +kernel
theorem dX13_sharesOut_43 : decode cX13_sharesOut 43 = .ok (.getfield 49, 3) := by decide +kernel
theorem dX13_sharesOut_46 : decode cX13_sharesOut 46 = .ok (.iload 4, 2) := by decide +kernel
theorem dX13_sharesOut_48 : decode cX13_sharesOut 48 = .ok (.iaload, 1) := by decide +kernel
theorem dX13_sharesOut_49 : decode cX13_sharesOut 49 = .ok (.ifCond .eq 20, 3) := by decide +kernel
theorem dX13_sharesOut_52 : decode cX13_sharesOut 52 = .ok (.iload_n 1, 1) := by decide +kernel
theorem dX13_sharesOut_53 : decode cX13_sharesOut 53 = .ok (.aload_n 0, 1) := by decide +kernel
theorem dX13_sharesOut_54 : decode cX13_sharesOut 54 = .ok (.getfield 7, 3) := by decide +kernel
theorem dX13_sharesOut_57 : decode cX13_sharesOut 57 = .ok (.bipush 56, 2) := by decide +kernel
theorem dX13_sharesOut_59 : decode cX13_sharesOut 59 = .ok (.iload 4, 2) := by decide +kernel
theorem dX13_sharesOut_61 : decode cX13_sharesOut 61 = .ok (.iadd, 1) := by decide +kernel
theorem dX13_sharesOut_62 : decode cX13_sharesOut 62 = .ok (.iaload, 1) := by decide +kernel
theorem dX13_sharesOut_63 : decode cX13_sharesOut 63 = .ok (.imul, 1) := by decide +kernel
theorem dX13_sharesOut_64 : decode cX13_sharesOut 64 = .ok (.iload_n 2, 1) := by decide +kernel
theorem dX13_sharesOut_65 : decode cX13_sharesOut 65 = .ok (.idiv, 1) := by decide +kernel
theorem dX13_sharesOut_66 : decode cX13_sharesOut 66 = .ok (.goto 4, 3) := by decide +kernel
theorem dX13_sharesOut_69 : decode cX13_sharesOut 69 = .ok (.iconst 0, 1) := by decide +kernel
theorem dX13_sharesOut_70 : decode cX13_sharesOut 70 = .ok (.iastore, 1) := by decide +kernel
theorem dX13_sharesOut_71 : decode cX13_sharesOut 71 = .ok (.iload_n 3, 1) := by decide +kernel
theorem dX13_sharesOut_72 : decode cX13_sharesOut 72 = .ok (.aload_n 0, 1) := by decide +kernel
theorem dX13_sharesOut_73 : decode cX13_sharesOut 73 = .ok (.getfield 52, 3) := by decide +kernel
theorem dX13_sharesOut_76 : decode cX13_sharesOut 76 = .ok (.iload 4, 2) := by decide +kernel
theorem dX13_sharesOut_78 : decode cX13_sharesOut 78 = .ok (.iaload, 1) := by decide +kernel
theorem dX13_sharesOut_79 : decode cX13_sharesOut 79 = .ok (.isub, 1) := by decide +kernel
theorem dX13_sharesOut_80 : decode cX13_sharesOut 80 = .ok (.istore_n 3, 1) := by decide +kernel
theorem dX13_sharesOut_81 : decode cX13_sharesOut 81 = .ok (.iinc 4 1, 3) := by decide +kernel
theorem dX13_sharesOut_84 : decode cX13_sharesOut 84 = .ok (.goto (-66), 3) := by decide +kernel
theorem dX13_sharesOut_87 : decode cX13_sharesOut 87 = .ok (.iconst 0, 1) := by decide +kernel
theorem dX13_sharesOut_88 : decode cX13_sharesOut 88 = .ok (.istore 4, 2) := by decide +kernel
theorem dX13_sharesOut_90 : decode cX13_sharesOut 90 = .ok (.iload 4, 2) := by decide +kernel
theorem dX13_sharesOut_92 : decode cX13_sharesOut 92 = .ok (.aload_n 0, 1) := by decide +kernel
theorem dX13_sharesOut_93 : decode cX13_sharesOut 93 = .ok (.getfield 7, 3) := by decide +kernel
theorem dX13_sharesOut_96 : decode cX13_sharesOut 96 = .ok (.iconst 1, 1) := by decide +kernel
theorem dX13_sharesOut_97 : decode cX13_sharesOut 97 = .ok (.iaload, 1) := by decide +kernel
theorem dX13_sharesOut_98 : decode cX13_sharesOut 98 = .ok (.if_icmp .ge 110, 3) := by decide +kernel
theorem dX13_sharesOut_101 : decode cX13_sharesOut 101 = .ok (.aload_n 0, 1) := by decide +kernel
theorem dX13_sharesOut_102 : decode cX13_sharesOut 102 = .ok (.iload 4, 2) := by decide +kernel
theorem dX13_sharesOut_104 : decode cX13_sharesOut 104 = .ok (.iload_n 1, 1) := by decide +kernel
theorem dX13_sharesOut_105 : decode cX13_sharesOut 105 = .ok (.iload_n 2, 1) := by decide +kernel
theorem dX13_sharesOut_106 : decode cX13_sharesOut 106 = .ok (.invokevirtual 126, 3) := by decide +kernel
theorem dX13_sharesOut_109 : decode cX13_sharesOut 109 = .ok (.istore 5, 2) := by decide +kernel
theorem dX13_sharesOut_111 : decode cX13_sharesOut 111 = .ok (.iconst 0, 1) := by decide +kernel
theorem dX13_sharesOut_112 : decode cX13_sharesOut 112 = .ok (.istore 6, 2) := by decide +kernel
theorem dX13_sharesOut_114 : decode cX13_sharesOut 114 = .ok (.iconst 0, 1) := by decide +kernel
theorem dX13_sharesOut_115 : decode cX13_sharesOut 115 = .ok (.istore 7, 2) := by decide +kernel
theorem dX13_sharesOut_117 : decode cX13_sharesOut 117 = .ok (.iload 7, 2) := by decide +kernel
theorem dX13_sharesOut_119 : decode cX13_sharesOut 119 = .ok (.aload_n 0, 1) := by decide +kernel
theorem dX13_sharesOut_120 : decode cX13_sharesOut 120 = .ok (.getfield 7, 3) := by decide +kernel
theorem dX13_sharesOut_123 : decode cX13_sharesOut 123 = .ok (.iconst 1, 1) := by decide +kernel
theorem dX13_sharesOut_124 : decode cX13_sharesOut 124 = .ok (.iaload, 1) := by decide +kernel
theorem dX13_sharesOut_125 : decode cX13_sharesOut 125 = .ok (.if_icmp .ge 50, 3) := by decide +kernel
theorem dX13_sharesOut_128 : decode cX13_sharesOut 128 = .ok (.aload_n 0, 1) := by decide +kernel
theorem dX13_sharesOut_129 : decode cX13_sharesOut 129 = .ok (.iload 7, 2) := by decide +kernel
theorem dX13_sharesOut_131 : decode cX13_sharesOut 131 = .ok (.iload_n 1, 1) := by decide +kernel
theorem dX13_sharesOut_132 : decode cX13_sharesOut 132 = .ok (.iload_n 2, 1) := by decide +kernel
theorem dX13_sharesOut_133 : decode cX13_sharesOut 133 = .ok (.invokevirtual 126, 3) := by decide +kernel
theorem dX13_sharesOut_136 : decode cX13_sharesOut 136 = .ok (.istore 8, 2) := by decide +kernel
theorem dX13_sharesOut_138 : decode cX13_sharesOut 138 = .ok (.iload 6, 2) := by decide +kernel
theorem dX13_sharesOut_140 : decode cX13_sharesOut 140 = .ok (.iload 8, 2) := by decide +kernel
theorem dX13_sharesOut_142 : decode cX13_sharesOut 142 = .ok (.iload 5, 2) := by decide +kernel
theorem dX13_sharesOut_144 : decode cX13_sharesOut 144 = .ok (.if_icmp .gt 17, 3) := by decide +kernel
theorem dX13_sharesOut_147 : decode cX13_sharesOut 147 = .ok (.iload 8, 2) := by decide +kernel
theorem dX13_sharesOut_149 : decode cX13_sharesOut 149 = .ok (.iload 5, 2) := by decide +kernel
theorem dX13_sharesOut_151 : decode cX13_sharesOut 151 = .ok (.if_icmp .ne 14, 3) := by decide +kernel
theorem dX13_sharesOut_154 : decode cX13_sharesOut 154 = .ok (.iload 7, 2) := by decide +kernel
theorem dX13_sharesOut_156 : decode cX13_sharesOut 156 = .ok (.iload 4, 2) := by decide +kernel
theorem dX13_sharesOut_158 : decode cX13_sharesOut 158 = .ok (.if_icmp .ge 7, 3) := by decide +kernel
theorem dX13_sharesOut_161 : decode cX13_sharesOut 161 = .ok (.iconst 1, 1) := by decide +kernel
theorem dX13_sharesOut_162 : decode cX13_sharesOut 162 = .ok (.goto 4, 3) := by decide +kernel
theorem dX13_sharesOut_165 : decode cX13_sharesOut 165 = .ok (.iconst 0, 1) := by decide +kernel
theorem dX13_sharesOut_166 : decode cX13_sharesOut 166 = .ok (.iadd, 1) := by decide +kernel
theorem dX13_sharesOut_167 : decode cX13_sharesOut 167 = .ok (.istore 6, 2) := by decide +kernel
theorem dX13_sharesOut_169 : decode cX13_sharesOut 169 = .ok (.iinc 7 1, 3) := by decide +kernel
theorem dX13_sharesOut_172 : decode cX13_sharesOut 172 = .ok (.goto (-55), 3) := by decide +kernel
theorem dX13_sharesOut_175 : decode cX13_sharesOut 175 = .ok (.aload_n 0, 1) := by decide +kernel
theorem dX13_sharesOut_176 : decode cX13_sharesOut 176 = .ok (.getfield 52, 3) := by decide +kernel
theorem dX13_sharesOut_179 : decode cX13_sharesOut 179 = .ok (.iload 4, 2) := by decide +kernel
theorem dX13_sharesOut_181 : decode cX13_sharesOut 181 = .ok (.dup2, 1) := by decide +kernel
theorem dX13_sharesOut_182 : decode cX13_sharesOut 182 = .ok (.iaload, 1) := by decide +kernel
theorem dX13_sharesOut_183 : decode cX13_sharesOut 183 = .ok (.iload 5, 2) := by decide +kernel
theorem dX13_sharesOut_185 : decode cX13_sharesOut 185 = .ok (.iconst (-1), 1) := by decide +kernel
theorem dX13_sharesOut_186 : decode cX13_sharesOut 186 = .ok (.if_icmp .eq 13, 3) := by decide +kernel
theorem dX13_sharesOut_189 : decode cX13_sharesOut 189 = .ok (.iload 6, 2) := by decide +kernel
theorem dX13_sharesOut_191 : decode cX13_sharesOut 191 = .ok (.iload_n 3, 1) := by decide +kernel
theorem dX13_sharesOut_192 : decode cX13_sharesOut 192 = .ok (.if_icmp .ge 7, 3) := by decide +kernel
theorem dX13_sharesOut_195 : decode cX13_sharesOut 195 = .ok (.iconst 1, 1) := by decide +kernel
theorem dX13_sharesOut_196 : decode cX13_sharesOut 196 = .ok (.goto 4, 3) := by decide +kernel
theorem dX13_sharesOut_199 : decode cX13_sharesOut 199 = .ok (.iconst 0, 1) := by decide +kernel
theorem dX13_sharesOut_200 : decode cX13_sharesOut 200 = .ok (.iadd, 1) := by decide +kernel
theorem dX13_sharesOut_201 : decode cX13_sharesOut 201 = .ok (.iastore, 1) := by decide +kernel
theorem dX13_sharesOut_202 : decode cX13_sharesOut 202 = .ok (.iinc 4 1, 3) := by decide +kernel
theorem dX13_sharesOut_205 : decode cX13_sharesOut 205 = .ok (.goto (-115), 3) := by decide +kernel
theorem dX13_sharesOut_208 : decode cX13_sharesOut 208 = .ok (.return_, 1) := by decide +kernel
theorem dX13_addsPoint_0 : decode cX13_addsPoint 0 = .ok (.aload_n 0, 1) := by decide +kernel
theorem dX13_addsPoint_1 : decode cX13_addsPoint 1 = .ok (.getfield 7, 3) := by decide +kernel
theorem dX13_addsPoint_4 : decode cX13_addsPoint 4 = .ok (.iconst 0, 1) := by decide +kernel
theorem dX13_addsPoint_5 : decode cX13_addsPoint 5 = .ok (.iaload, 1) := by decide +kernel
theorem dX13_addsPoint_6 : decode cX13_addsPoint 6 = .ok (.bipush 10, 2) := by decide +kernel
theorem dX13_addsPoint_8 : decode cX13_addsPoint 8 = .ok (.if_icmp .ne 9, 3) := by decide +kernel
theorem dX13_addsPoint_11 : decode cX13_addsPoint 11 = .ok (.aload_n 0, 1) := by decide +kernel
theorem dX13_addsPoint_12 : decode cX13_addsPoint 12 = .ok (.iconst 1, 1) := by decide +kernel
theorem dX13_addsPoint_13 : decode cX13_addsPoint 13 = .ok (.invokevirtual 130, 3) := by decide +kernel
theorem dX13_addsPoint_16 : decode cX13_addsPoint 16 = .ok (.ireturn, 1) := by decide +kernel
theorem dX13_addsPoint_17 : decode cX13_addsPoint 17 = .ok (.aload_n 0, 1) := by decide +kernel
theorem dX13_addsPoint_18 : decode cX13_addsPoint 18 = .ok (.getfield 7, 3) := by decide +kernel
theorem dX13_addsPoint_21 : decode cX13_addsPoint 21 = .ok (.iconst 0, 1) := by decide +kernel
theorem dX13_addsPoint_22 : decode cX13_addsPoint 22 = .ok (.dup2, 1) := by decide +kernel
theorem dX13_addsPoint_23 : decode cX13_addsPoint 23 = .ok (.iaload, 1) := by decide +kernel
theorem dX13_addsPoint_24 : decode cX13_addsPoint 24 = .ok (.iconst 1, 1) := by decide +kernel
theorem dX13_addsPoint_25 : decode cX13_addsPoint 25 = .ok (.iadd, 1) := by decide +kernel
theorem dX13_addsPoint_26 : decode cX13_addsPoint 26 = .ok (.iastore, 1) := by decide +kernel
theorem dX13_addsPoint_27 : decode cX13_addsPoint 27 = .ok (.aload_n 0, 1) := by decide +kernel
theorem dX13_addsPoint_28 : decode cX13_addsPoint 28 = .ok (.aload_n 0, 1) := by decide +kernel
theorem dX13_addsPoint_29 : decode cX13_addsPoint 29 = .ok (.getfield 7, 3) := by decide +kernel
theorem dX13_addsPoint_32 : decode cX13_addsPoint 32 = .ok (.iconst 0, 1) := by decide +kernel
theorem dX13_addsPoint_33 : decode cX13_addsPoint 33 = .ok (.iaload, 1) := by decide +kernel
theorem dX13_addsPoint_34 : decode cX13_addsPoint 34 = .ok (.iconst 1, 1) := by decide +kernel
theorem dX13_addsPoint_35 : decode cX13_addsPoint 35 = .ok (.isub, 1) := by decide +kernel
theorem dX13_addsPoint_36 : decode cX13_addsPoint 36 = .ok (.invokevirtual 133, 3) := by decide +kernel
theorem dX13_addsPoint_39 : decode cX13_addsPoint 39 = .ok (.ireturn, 1) := by decide +kernel
theorem dX13_addBenchmark_0 : decode cX13_addBenchmark 0 = .ok (.aload_n 0, 1) := by decide +kernel
theorem dX13_addBenchmark_1 : decode cX13_addBenchmark 1 = .ok (.invokevirtual 136, 3) := by decide +kernel
theorem dX13_addBenchmark_4 : decode cX13_addBenchmark 4 = .ok (.aload_n 0, 1) := by decide +kernel
theorem dX13_addBenchmark_5 : decode cX13_addBenchmark 5 = .ok (.aload_n 0, 1) := by decide +kernel
theorem dX13_addBenchmark_6 : decode cX13_addBenchmark 6 = .ok (.invokevirtual 139, 3) := by decide +kernel
theorem dX13_addBenchmark_9 : decode cX13_addBenchmark 9 = .ok (.invokevirtual 142, 3) := by decide +kernel
theorem dX13_addBenchmark_12 : decode cX13_addBenchmark 12 = .ok (.ireturn, 1) := by decide +kernel
theorem dX13_fixes_0 : decode cX13_fixes 0 = .ok (.aload_n 0, 1) := by decide +kernel
theorem dX13_fixes_1 : decode cX13_fixes 1 = .ok (.iload_n 1, 1) := by decide +kernel
theorem dX13_fixes_2 : decode cX13_fixes 2 = .ok (.invokevirtual 145, 3) := by decide +kernel
theorem dX13_fixes_5 : decode cX13_fixes 5 = .ok (.ifCond .ne 9, 3) := by decide +kernel
theorem dX13_fixes_8 : decode cX13_fixes 8 = .ok (.aload_n 0, 1) := by decide +kernel
theorem dX13_fixes_9 : decode cX13_fixes 9 = .ok (.iconst 1, 1) := by decide +kernel
theorem dX13_fixes_10 : decode cX13_fixes 10 = .ok (.invokevirtual 130, 3) := by decide +kernel
theorem dX13_fixes_13 : decode cX13_fixes 13 = .ok (.ireturn, 1) := by decide +kernel
theorem dX13_fixes_14 : decode cX13_fixes 14 = .ok (.iload_n 2, 1) := by decide +kernel
theorem dX13_fixes_15 : decode cX13_fixes 15 = .ok (.ldc 148, 2) := by decide +kernel
theorem dX13_fixes_17 : decode cX13_fixes 17 = .ok (.ldc 149, 2) := by decide +kernel
theorem dX13_fixes_19 : decode cX13_fixes 19 = .ok (.invokestatic 71, 3) := by decide +kernel
theorem dX13_fixes_22 : decode cX13_fixes 22 = .ok (.ifCond .ne 9, 3) := by decide +kernel
theorem dX13_fixes_25 : decode cX13_fixes 25 = .ok (.aload_n 0, 1) := by decide +kernel
theorem dX13_fixes_26 : decode cX13_fixes 26 = .ok (.iconst 2, 1) := by decide +kernel
theorem dX13_fixes_27 : decode cX13_fixes 27 = .ok (.invokevirtual 130, 3) := by decide +kernel
theorem dX13_fixes_30 : decode cX13_fixes 30 = .ok (.ireturn, 1) := by decide +kernel
theorem dX13_fixes_31 : decode cX13_fixes 31 = .ok (.aload_n 0, 1) := by decide +kernel
theorem dX13_fixes_32 : decode cX13_fixes 32 = .ok (.getfield 7, 3) := by decide +kernel
theorem dX13_fixes_35 : decode cX13_fixes 35 = .ok (.iconst 4, 1) := by decide +kernel
theorem dX13_fixes_36 : decode cX13_fixes 36 = .ok (.iload_n 1, 1) := by decide +kernel
theorem dX13_fixes_37 : decode cX13_fixes 37 = .ok (.iadd, 1) := by decide +kernel
theorem dX13_fixes_38 : decode cX13_fixes 38 = .ok (.iconst 1, 1) := by decide +kernel
theorem dX13_fixes_39 : decode cX13_fixes 39 = .ok (.iastore, 1) := by decide +kernel
theorem dX13_fixes_40 : decode cX13_fixes 40 = .ok (.aload_n 0, 1) := by decide +kernel
theorem dX13_fixes_41 : decode cX13_fixes 41 = .ok (.getfield 7, 3) := by decide +kernel
theorem dX13_fixes_44 : decode cX13_fixes 44 = .ok (.bipush 14, 2) := by decide +kernel
theorem dX13_fixes_46 : decode cX13_fixes 46 = .ok (.iload_n 1, 1) := by decide +kernel
theorem dX13_fixes_47 : decode cX13_fixes 47 = .ok (.iadd, 1) := by decide +kernel
theorem dX13_fixes_48 : decode cX13_fixes 48 = .ok (.iload_n 2, 1) := by decide +kernel
theorem dX13_fixes_49 : decode cX13_fixes 49 = .ok (.iastore, 1) := by decide +kernel
theorem dX13_fixes_50 : decode cX13_fixes 50 = .ok (.iconst 0, 1) := by decide +kernel
theorem dX13_fixes_51 : decode cX13_fixes 51 = .ok (.istore_n 3, 1) := by decide +kernel
theorem dX13_fixes_52 : decode cX13_fixes 52 = .ok (.iconst 0, 1) := by decide +kernel
theorem dX13_fixes_53 : decode cX13_fixes 53 = .ok (.istore 4, 2) := by decide +kernel
theorem dX13_fixes_55 : decode cX13_fixes 55 = .ok (.iload 4, 2) := by decide +kernel
theorem dX13_fixes_57 : decode cX13_fixes 57 = .ok (.aload_n 0, 1) := by decide +kernel
theorem dX13_fixes_58 : decode cX13_fixes 58 = .ok (.getfield 7, 3) := by decide +kernel
theorem dX13_fixes_61 : decode cX13_fixes 61 = .ok (.iconst 0, 1) := by decide +kernel
theorem dX13_fixes_62 : decode cX13_fixes 62 = .ok (.iaload, 1) := by decide +kernel
theorem dX13_fixes_63 : decode cX13_fixes 63 = .ok (.if_icmp .ge 21, 3) := by decide +kernel
theorem dX13_fixes_66 : decode cX13_fixes 66 = .ok (.iload_n 3, 1) := by decide +kernel
theorem dX13_fixes_67 : decode cX13_fixes 67 = .ok (.aload_n 0, 1) := by decide +kernel
theorem dX13_fixes_68 : decode cX13_fixes 68 = .ok (.getfield 7, 3) := by decide +kernel
theorem dX13_fixes_71 : decode cX13_fixes 71 = .ok (.iconst 4, 1) := by decide +kernel
theorem dX13_fixes_72 : decode cX13_fixes 72 = .ok (.iload 4, 2) := by decide +kernel
theorem dX13_fixes_74 : decode cX13_fixes 74 = .ok (.iadd, 1) := by decide +kernel
theorem dX13_fixes_75 : decode cX13_fixes 75 = .ok (.iaload, 1) := by decide +kernel
theorem dX13_fixes_76 : decode cX13_fixes 76 = .ok (.iadd, 1) := by decide +kernel
theorem dX13_fixes_77 : decode cX13_fixes 77 = .ok (.istore_n 3, 1) := by decide +kernel
theorem dX13_fixes_78 : decode cX13_fixes 78 = .ok (.iinc 4 1, 3) := by decide +kernel
theorem dX13_fixes_81 : decode cX13_fixes 81 = .ok (.goto (-26), 3) := by decide +kernel
theorem dX13_fixes_84 : decode cX13_fixes 84 = .ok (.aload_n 0, 1) := by decide +kernel
theorem dX13_fixes_85 : decode cX13_fixes 85 = .ok (.iload_n 3, 1) := by decide +kernel
theorem dX13_fixes_86 : decode cX13_fixes 86 = .ok (.invokevirtual 133, 3) := by decide +kernel
theorem dX13_fixes_89 : decode cX13_fixes 89 = .ok (.ireturn, 1) := by decide +kernel
theorem dX13_fix_0 : decode cX13_fix 0 = .ok (.aload_n 0, 1) := by decide +kernel
theorem dX13_fix_1 : decode cX13_fix 1 = .ok (.invokevirtual 136, 3) := by decide +kernel
theorem dX13_fix_4 : decode cX13_fix 4 = .ok (.aload_n 0, 1) := by decide +kernel
theorem dX13_fix_5 : decode cX13_fix 5 = .ok (.aload_n 0, 1) := by decide +kernel
theorem dX13_fix_6 : decode cX13_fix 6 = .ok (.iload_n 1, 1) := by decide +kernel
theorem dX13_fix_7 : decode cX13_fix 7 = .ok (.iload_n 2, 1) := by decide +kernel
theorem dX13_fix_8 : decode cX13_fix 8 = .ok (.invokevirtual 150, 3) := by decide +kernel
theorem dX13_fix_11 : decode cX13_fix 11 = .ok (.invokevirtual 142, 3) := by decide +kernel
theorem dX13_fix_14 : decode cX13_fix 14 = .ok (.ireturn, 1) := by decide +kernel
theorem dX13_releases_0 : decode cX13_releases 0 = .ok (.aload_n 0, 1) := by decide +kernel
theorem dX13_releases_1 : decode cX13_releases 1 = .ok (.iload_n 1, 1) := by decide +kernel
theorem dX13_releases_2 : decode cX13_releases 2 = .ok (.invokevirtual 145, 3) := by decide +kernel
theorem dX13_releases_5 : decode cX13_releases 5 = .ok (.ifCond .ne 9, 3) := by decide +kernel
theorem dX13_releases_8 : decode cX13_releases 8 = .ok (.aload_n 0, 1) := by decide +kernel
theorem dX13_releases_9 : decode cX13_releases 9 = .ok (.iconst 1, 1) := by decide +kernel
theorem dX13_releases_10 : decode cX13_releases 10 = .ok (.invokevirtual 130, 3) := by decide +kernel
theorem dX13_releases_13 : decode cX13_releases 13 = .ok (.ireturn, 1) := by decide +kernel
theorem dX13_releases_14 : decode cX13_releases 14 = .ok (.aload_n 0, 1) := by decide +kernel
theorem dX13_releases_15 : decode cX13_releases 15 = .ok (.getfield 7, 3) := by decide +kernel
theorem dX13_releases_18 : decode cX13_releases 18 = .ok (.iconst 4, 1) := by decide +kernel
theorem dX13_releases_19 : decode cX13_releases 19 = .ok (.iload_n 1, 1) := by decide +kernel
theorem dX13_releases_20 : decode cX13_releases 20 = .ok (.iadd, 1) := by decide +kernel
theorem dX13_releases_21 : decode cX13_releases 21 = .ok (.iaload, 1) := by decide +kernel
theorem dX13_releases_22 : decode cX13_releases 22 = .ok (.ifCond .ne 9, 3) := by decide +kernel
theorem dX13_releases_25 : decode cX13_releases 25 = .ok (.aload_n 0, 1) := by decide +kernel
theorem dX13_releases_26 : decode cX13_releases 26 = .ok (.iconst 2, 1) := by decide +kernel
theorem dX13_releases_27 : decode cX13_releases 27 = .ok (.invokevirtual 130, 3) := by decide +kernel
theorem dX13_releases_30 : decode cX13_releases 30 = .ok (.ireturn, 1) := by decide +kernel
theorem dX13_releases_31 : decode cX13_releases 31 = .ok (.aload_n 0, 1) := by decide +kernel
theorem dX13_releases_32 : decode cX13_releases 32 = .ok (.getfield 7, 3) := by decide +kernel
theorem dX13_releases_35 : decode cX13_releases 35 = .ok (.iconst 4, 1) := by decide +kernel
theorem dX13_releases_36 : decode cX13_releases 36 = .ok (.iload_n 1, 1) := by decide +kernel
theorem dX13_releases_37 : decode cX13_releases 37 = .ok (.iadd, 1) := by decide +kernel
theorem dX13_releases_38 : decode cX13_releases 38 = .ok (.iconst 0, 1) := by decide +kernel
theorem dX13_releases_39 : decode cX13_releases 39 = .ok (.iastore, 1) := by decide +kernel
theorem dX13_releases_40 : decode cX13_releases 40 = .ok (.aload_n 0, 1) := by decide +kernel
theorem dX13_releases_41 : decode cX13_releases 41 = .ok (.aload_n 0, 1) := by decide +kernel
theorem dX13_releases_42 : decode cX13_releases 42 = .ok (.getfield 7, 3) := by decide +kernel
theorem dX13_releases_45 : decode cX13_releases 45 = .ok (.bipush 14, 2) := by decide +kernel
theorem dX13_releases_47 : decode cX13_releases 47 = .ok (.iload_n 1, 1) := by decide +kernel
theorem dX13_releases_48 : decode cX13_releases 48 = .ok (.iadd, 1) := by decide +kernel
theorem dX13_releases_49 : decode cX13_releases 49 = .ok (.iaload, 1) := by decide +kernel
theorem dX13_releases_50 : decode cX13_releases 50 = .ok (.invokevirtual 133, 3) := by decide +kernel
theorem dX13_releases_53 : decode cX13_releases 53 = .ok (.ireturn, 1) := by decide +kernel
theorem dX13_release_0 : decode cX13_release 0 = .ok (.aload_n 0, 1) := by decide +kernel
theorem dX13_release_1 : decode cX13_release 1 = .ok (.invokevirtual 136, 3) := by decide +kernel
theorem dX13_release_4 : decode cX13_release 4 = .ok (.aload_n 0, 1) := by decide +kernel
theorem dX13_release_5 : decode cX13_release 5 = .ok (.aload_n 0, 1) := by decide +kernel
theorem dX13_release_6 : decode cX13_release 6 = .ok (.iload_n 1, 1) := by decide +kernel
theorem dX13_release_7 : decode cX13_release 7 = .ok (.invokevirtual 153, 3) := by decide +kernel
theorem dX13_release_10 : decode cX13_release 10 = .ok (.invokevirtual 142, 3) := by decide +kernel
theorem dX13_release_13 : decode cX13_release 13 = .ok (.ireturn, 1) := by decide +kernel
theorem dX13_addsLine_0 : decode cX13_addsLine 0 = .ok (.aload_n 0, 1) := by decide +kernel
theorem dX13_addsLine_1 : decode cX13_addsLine 1 = .ok (.iload_n 1, 1) := by decide +kernel
theorem dX13_addsLine_2 : decode cX13_addsLine 2 = .ok (.invokevirtual 145, 3) := by decide +kernel
theorem dX13_addsLine_5 : decode cX13_addsLine 5 = .ok (.ifCond .eq 11, 3) := by decide +kernel
theorem dX13_addsLine_8 : decode cX13_addsLine 8 = .ok (.aload_n 0, 1) := by decide +kernel
theorem dX13_addsLine_9 : decode cX13_addsLine 9 = .ok (.iload_n 2, 1) := by decide +kernel
theorem dX13_addsLine_10 : decode cX13_addsLine 10 = .ok (.invokevirtual 145, 3) := by decide +kernel
theorem dX13_addsLine_13 : decode cX13_addsLine 13 = .ok (.ifCond .ne 9, 3) := by decide +kernel
theorem dX13_addsLine_16 : decode cX13_addsLine 16 = .ok (.aload_n 0, 1) := by decide +kernel
theorem dX13_addsLine_17 : decode cX13_addsLine 17 = .ok (.iconst 1, 1) := by decide +kernel
theorem dX13_addsLine_18 : decode cX13_addsLine 18 = .ok (.invokevirtual 130, 3) := by decide +kernel
theorem dX13_addsLine_21 : decode cX13_addsLine 21 = .ok (.ireturn, 1) := by decide +kernel
theorem dX13_addsLine_22 : decode cX13_addsLine 22 = .ok (.iload_n 1, 1) := by decide +kernel
theorem dX13_addsLine_23 : decode cX13_addsLine 23 = .ok (.iload_n 2, 1) := by decide +kernel
theorem dX13_addsLine_24 : decode cX13_addsLine 24 = .ok (.if_icmp .eq 27, 3) := by decide +kernel
theorem dX13_addsLine_27 : decode cX13_addsLine 27 = .ok (.iload_n 3, 1) := by decide +kernel
theorem dX13_addsLine_28 : decode cX13_addsLine 28 = .ok (.sipush (-9999), 3) := by decide +kernel
theorem dX13_addsLine_31 : decode cX13_addsLine 31 = .ok (.sipush 9999, 3) := by decide +kernel
theorem dX13_addsLine_34 : decode cX13_addsLine 34 = .ok (.invokestatic 71, 3) := by decide +kernel
theorem dX13_addsLine_37 : decode cX13_addsLine 37 = .ok (.ifCond .eq 14, 3) := by decide +kernel
theorem dX13_addsLine_40 : decode cX13_addsLine 40 = .ok (.iload 4, 2) := by decide +kernel
theorem dX13_addsLine_42 : decode cX13_addsLine 42 = .ok (.iconst 1, 1) := by decide +kernel
theorem dX13_addsLine_43 : decode cX13_addsLine 43 = .ok (.bipush 50, 2) := by decide +kernel
theorem dX13_addsLine_45 : decode cX13_addsLine 45 = .ok (.invokestatic 71, 3) := by decide +kernel
theorem dX13_addsLine_48 : decode cX13_addsLine 48 = .ok (.ifCond .ne 9, 3) := by decide +kernel
theorem dX13_addsLine_51 : decode cX13_addsLine 51 = .ok (.aload_n 0, 1) := by decide +kernel
theorem dX13_addsLine_52 : decode cX13_addsLine 52 = .ok (.iconst 2, 1) := by decide +kernel
theorem dX13_addsLine_53 : decode cX13_addsLine 53 = .ok (.invokevirtual 130, 3) := by decide +kernel
theorem dX13_addsLine_56 : decode cX13_addsLine 56 = .ok (.ireturn, 1) := by decide +kernel
theorem dX13_addsLine_57 : decode cX13_addsLine 57 = .ok (.aload_n 0, 1) := by decide +kernel
theorem dX13_addsLine_58 : decode cX13_addsLine 58 = .ok (.getfield 7, 3) := by decide +kernel
theorem dX13_addsLine_61 : decode cX13_addsLine 61 = .ok (.iconst 1, 1) := by decide +kernel
theorem dX13_addsLine_62 : decode cX13_addsLine 62 = .ok (.iaload, 1) := by decide +kernel
theorem dX13_addsLine_63 : decode cX13_addsLine 63 = .ok (.istore 5, 2) := by decide +kernel
theorem dX13_addsLine_65 : decode cX13_addsLine 65 = .ok (.iload 5, 2) := by decide +kernel
theorem dX13_addsLine_67 : decode cX13_addsLine 67 = .ok (.bipush 16, 2) := by decide +kernel
theorem dX13_addsLine_69 : decode cX13_addsLine 69 = .ok (.if_icmp .ne 9, 3) := by decide +kernel
theorem dX13_addsLine_72 : decode cX13_addsLine 72 = .ok (.aload_n 0, 1) := by decide +kernel
theorem dX13_addsLine_73 : decode cX13_addsLine 73 = .ok (.iconst 3, 1) := by decide +kernel
theorem dX13_addsLine_74 : decode cX13_addsLine 74 = .ok (.invokevirtual 130, 3) := by decide +kernel
theorem dX13_addsLine_77 : decode cX13_addsLine 77 = .ok (.ireturn, 1) := by decide +kernel
theorem dX13_addsLine_78 : decode cX13_addsLine 78 = .ok (.aload_n 0, 1) := by decide +kernel
theorem dX13_addsLine_79 : decode cX13_addsLine 79 = .ok (.getfield 7, 3) := by decide +kernel
theorem dX13_addsLine_82 : decode cX13_addsLine 82 = .ok (.bipush 24, 2) := by decide +kernel
theorem dX13_addsLine_84 : decode cX13_addsLine 84 = .ok (.iload 5, 2) := by decide +kernel
theorem dX13_addsLine_86 : decode cX13_addsLine 86 = .ok (.iadd, 1) := by decide +kernel
theorem dX13_addsLine_87 : decode cX13_addsLine 87 = .ok (.iload_n 1, 1) := by decide +kernel
theorem dX13_addsLine_88 : decode cX13_addsLine 88 = .ok (.iastore, 1) := by decide +kernel
theorem dX13_addsLine_89 : decode cX13_addsLine 89 = .ok (.aload_n 0, 1) := by decide +kernel
theorem dX13_addsLine_90 : decode cX13_addsLine 90 = .ok (.getfield 7, 3) := by decide +kernel
theorem dX13_addsLine_93 : decode cX13_addsLine 93 = .ok (.bipush 40, 2) := by decide +kernel
theorem dX13_addsLine_95 : decode cX13_addsLine 95 = .ok (.iload 5, 2) := by decide +kernel
theorem dX13_addsLine_97 : decode cX13_addsLine 97 = .ok (.iadd, 1) := by decide +kernel
theorem dX13_addsLine_98 : decode cX13_addsLine 98 = .ok (.iload_n 2, 1) := by decide +kernel
theorem dX13_addsLine_99 : decode cX13_addsLine 99 = .ok (.iastore, 1) := by decide +kernel
theorem dX13_addsLine_100 : decode cX13_addsLine 100 = .ok (.aload_n 0, 1) := by decide +kernel
theorem dX13_addsLine_101 : decode cX13_addsLine 101 = .ok (.getfield 7, 3) := by decide +kernel
theorem dX13_addsLine_104 : decode cX13_addsLine 104 = .ok (.bipush 72, 2) := by decide +kernel
theorem dX13_addsLine_106 : decode cX13_addsLine 106 = .ok (.iload 5, 2) := by decide +kernel
theorem dX13_addsLine_108 : decode cX13_addsLine 108 = .ok (.iadd, 1) := by decide +kernel
theorem dX13_addsLine_109 : decode cX13_addsLine 109 = .ok (.iload_n 3, 1) := by decide +kernel
theorem dX13_addsLine_110 : decode cX13_addsLine 110 = .ok (.iastore, 1) := by decide +kernel
theorem dX13_addsLine_111 : decode cX13_addsLine 111 = .ok (.aload_n 0, 1) := by decide +kernel
theorem dX13_addsLine_112 : decode cX13_addsLine 112 = .ok (.getfield 7, 3) := by decide +kernel
theorem dX13_addsLine_115 : decode cX13_addsLine 115 = .ok (.bipush 56, 2) := by decide +kernel
theorem dX13_addsLine_117 : decode cX13_addsLine 117 = .ok (.iload 5, 2) := by decide +kernel
theorem dX13_addsLine_119 : decode cX13_addsLine 119 = .ok (.iadd, 1) := by decide +kernel
theorem dX13_addsLine_120 : decode cX13_addsLine 120 = .ok (.iload 4, 2) := by decide +kernel
theorem dX13_addsLine_122 : decode cX13_addsLine 122 = .ok (.iastore, 1) := by decide +kernel
theorem dX13_addsLine_123 : decode cX13_addsLine 123 = .ok (.aload_n 0, 1) := by decide +kernel
theorem dX13_addsLine_124 : decode cX13_addsLine 124 = .ok (.getfield 7, 3) := by decide +kernel
theorem dX13_addsLine_127 : decode cX13_addsLine 127 = .ok (.iconst 1, 1) := by decide +kernel
theorem dX13_addsLine_128 : decode cX13_addsLine 128 = .ok (.dup2, 1) := by decide +kernel
theorem dX13_addsLine_129 : decode cX13_addsLine 129 = .ok (.iaload, 1) := by decide +kernel
theorem dX13_addsLine_130 : decode cX13_addsLine 130 = .ok (.iconst 1, 1) := by decide +kernel
theorem dX13_addsLine_131 : decode cX13_addsLine 131 = .ok (.iadd, 1) := by decide +kernel
theorem dX13_addsLine_132 : decode cX13_addsLine 132 = .ok (.iastore, 1) := by decide +kernel
theorem dX13_addsLine_133 : decode cX13_addsLine 133 = .ok (.aload_n 0, 1) := by decide +kernel
theorem dX13_addsLine_134 : decode cX13_addsLine 134 = .ok (.iload 5, 2) := by decide +kernel
theorem dX13_addsLine_136 : decode cX13_addsLine 136 = .ok (.invokevirtual 133, 3) := by decide +kernel
theorem dX13_addsLine_139 : decode cX13_addsLine 139 = .ok (.ireturn, 1) := by decide +kernel
theorem dX13_addLine_0 : decode cX13_addLine 0 = .ok (.aload_n 0, 1) := by decide +kernel
theorem dX13_addLine_1 : decode cX13_addLine 1 = .ok (.invokevirtual 136, 3) := by decide +kernel
theorem dX13_addLine_4 : decode cX13_addLine 4 = .ok (.aload_n 0, 1) := by decide +kernel
theorem dX13_addLine_5 : decode cX13_addLine 5 = .ok (.aload_n 0, 1) := by decide +kernel
theorem dX13_addLine_6 : decode cX13_addLine 6 = .ok (.iload_n 1, 1) := by decide +kernel
theorem dX13_addLine_7 : decode cX13_addLine 7 = .ok (.iload_n 2, 1) := by decide +kernel
theorem dX13_addLine_8 : decode cX13_addLine 8 = .ok (.iload_n 3, 1) := by decide +kernel
theorem dX13_addLine_9 : decode cX13_addLine 9 = .ok (.iload 4, 2) := by decide +kernel
theorem dX13_addLine_11 : decode cX13_addLine 11 = .ok (.invokevirtual 156, 3) := by decide +kernel
theorem dX13_addLine_14 : decode cX13_addLine 14 = .ok (.invokevirtual 142, 3) := by decide +kernel
theorem dX13_addLine_17 : decode cX13_addLine 17 = .ok (.ireturn, 1) := by decide +kernel
theorem dX13_addsRun_0 : decode cX13_addsRun 0 = .ok (.aload_n 0, 1) := by decide +kernel
theorem dX13_addsRun_1 : decode cX13_addsRun 1 = .ok (.iload_n 1, 1) := by decide +kernel
theorem dX13_addsRun_2 : decode cX13_addsRun 2 = .ok (.invokevirtual 160, 3) := by decide +kernel
theorem dX13_addsRun_5 : decode cX13_addsRun 5 = .ok (.ifCond .ne 9, 3) := by decide +kernel
theorem dX13_addsRun_8 : decode cX13_addsRun 8 = .ok (.aload_n 0, 1) := by decide +kernel
theorem dX13_addsRun_9 : decode cX13_addsRun 9 = .ok (.iconst 1, 1) := by decide +kernel
theorem dX13_addsRun_10 : decode cX13_addsRun 10 = .ok (.invokevirtual 130, 3) := by decide +kernel
theorem dX13_addsRun_13 : decode cX13_addsRun 13 = .ok (.ireturn, 1) := by decide +kernel
theorem dX13_addsRun_14 : decode cX13_addsRun 14 = .ok (.iload_n 2, 1) := by decide +kernel
theorem dX13_addsRun_15 : decode cX13_addsRun 15 = .ok (.sipush (-9999), 3) := by decide +kernel
theorem dX13_addsRun_18 : decode cX13_addsRun 18 = .ok (.sipush 9999, 3) := by decide +kernel
theorem dX13_addsRun_21 : decode cX13_addsRun 21 = .ok (.invokestatic 71, 3) := by decide +kernel
theorem dX13_addsRun_24 : decode cX13_addsRun 24 = .ok (.ifCond .ne 9, 3) := by decide +kernel
theorem dX13_addsRun_27 : decode cX13_addsRun 27 = .ok (.aload_n 0, 1) := by decide +kernel
theorem dX13_addsRun_28 : decode cX13_addsRun 28 = .ok (.iconst 2, 1) := by decide +kernel
theorem dX13_addsRun_29 : decode cX13_addsRun 29 = .ok (.invokevirtual 130, 3) := by decide +kernel
theorem dX13_addsRun_32 : decode cX13_addsRun 32 = .ok (.ireturn, 1) := by decide +kernel
theorem dX13_addsRun_33 : decode cX13_addsRun 33 = .ok (.aload_n 0, 1) := by decide +kernel
theorem dX13_addsRun_34 : decode cX13_addsRun 34 = .ok (.getfield 7, 3) := by decide +kernel
theorem dX13_addsRun_37 : decode cX13_addsRun 37 = .ok (.bipush 88, 2) := by decide +kernel
theorem dX13_addsRun_39 : decode cX13_addsRun 39 = .ok (.iload_n 1, 1) := by decide +kernel
theorem dX13_addsRun_40 : decode cX13_addsRun 40 = .ok (.iadd, 1) := by decide +kernel
theorem dX13_addsRun_41 : decode cX13_addsRun 41 = .ok (.iaload, 1) := by decide +kernel
theorem dX13_addsRun_42 : decode cX13_addsRun 42 = .ok (.iconst 1, 1) := by decide +kernel
theorem dX13_addsRun_43 : decode cX13_addsRun 43 = .ok (.if_icmp .ne 9, 3) := by decide +kernel
theorem dX13_addsRun_46 : decode cX13_addsRun 46 = .ok (.aload_n 0, 1) := by decide +kernel
theorem dX13_addsRun_47 : decode cX13_addsRun 47 = .ok (.iconst 3, 1) := by decide +kernel
theorem dX13_addsRun_48 : decode cX13_addsRun 48 = .ok (.invokevirtual 130, 3) := by decide +kernel
theorem dX13_addsRun_51 : decode cX13_addsRun 51 = .ok (.ireturn, 1) := by decide +kernel
theorem dX13_addsRun_52 : decode cX13_addsRun 52 = .ok (.aload_n 0, 1) := by decide +kernel
theorem dX13_addsRun_53 : decode cX13_addsRun 53 = .ok (.getfield 7, 3) := by decide +kernel
theorem dX13_addsRun_56 : decode cX13_addsRun 56 = .ok (.bipush 88, 2) := by decide +kernel
theorem dX13_addsRun_58 : decode cX13_addsRun 58 = .ok (.iload_n 1, 1) := by decide +kernel
theorem dX13_addsRun_59 : decode cX13_addsRun 59 = .ok (.iadd, 1) := by decide +kernel
theorem dX13_addsRun_60 : decode cX13_addsRun 60 = .ok (.iconst 1, 1) := by decide +kernel
theorem dX13_addsRun_61 : decode cX13_addsRun 61 = .ok (.iastore, 1) := by decide +kernel
theorem dX13_addsRun_62 : decode cX13_addsRun 62 = .ok (.aload_n 0, 1) := by decide +kernel
theorem dX13_addsRun_63 : decode cX13_addsRun 63 = .ok (.getfield 7, 3) := by decide +kernel
theorem dX13_addsRun_66 : decode cX13_addsRun 66 = .ok (.bipush 104, 2) := by decide +kernel
theorem dX13_addsRun_68 : decode cX13_addsRun 68 = .ok (.iload_n 1, 1) := by decide +kernel
theorem dX13_addsRun_69 : decode cX13_addsRun 69 = .ok (.iadd, 1) := by decide +kernel
theorem dX13_addsRun_70 : decode cX13_addsRun 70 = .ok (.iload_n 2, 1) := by decide +kernel
theorem dX13_addsRun_71 : decode cX13_addsRun 71 = .ok (.iastore, 1) := by decide +kernel
theorem dX13_addsRun_72 : decode cX13_addsRun 72 = .ok (.aload_n 0, 1) := by decide +kernel
theorem dX13_addsRun_73 : decode cX13_addsRun 73 = .ok (.aload_n 0, 1) := by decide +kernel
theorem dX13_addsRun_74 : decode cX13_addsRun 74 = .ok (.iload_n 1, 1) := by decide +kernel
theorem dX13_addsRun_75 : decode cX13_addsRun 75 = .ok (.invokevirtual 75, 3) := by decide +kernel
theorem dX13_addsRun_78 : decode cX13_addsRun 78 = .ok (.invokevirtual 133, 3) := by decide +kernel
theorem dX13_addsRun_81 : decode cX13_addsRun 81 = .ok (.ireturn, 1) := by decide +kernel
theorem dX13_addBackwardRun_0 : decode cX13_addBackwardRun 0 = .ok (.aload_n 0, 1) := by decide +kernel
theorem dX13_addBackwardRun_1 : decode cX13_addBackwardRun 1 = .ok (.invokevirtual 136, 3) := by decide +kernel
theorem dX13_addBackwardRun_4 : decode cX13_addBackwardRun 4 = .ok (.aload_n 0, 1) := by decide +kernel
theorem dX13_addBackwardRun_5 : decode cX13_addBackwardRun 5 = .ok (.aload_n 0, 1) := by decide +kernel
theorem dX13_addBackwardRun_6 : decode cX13_addBackwardRun 6 = .ok (.iload_n 1, 1) := by decide +kernel
theorem dX13_addBackwardRun_7 : decode cX13_addBackwardRun 7 = .ok (.iload_n 2, 1) := by decide +kernel
theorem dX13_addBackwardRun_8 : decode cX13_addBackwardRun 8 = .ok (.invokevirtual 163, 3) := by decide +kernel
theorem dX13_addBackwardRun_11 : decode cX13_addBackwardRun 11 = .ok (.invokevirtual 142, 3) := by decide +kernel
theorem dX13_addBackwardRun_14 : decode cX13_addBackwardRun 14 = .ok (.ireturn, 1) := by decide +kernel
theorem dX13_marks_0 : decode cX13_marks 0 = .ok (.aload_n 0, 1) := by decide +kernel
theorem dX13_marks_1 : decode cX13_marks 1 = .ok (.iload_n 1, 1) := by decide +kernel
theorem dX13_marks_2 : decode cX13_marks 2 = .ok (.invokevirtual 160, 3) := by decide +kernel
theorem dX13_marks_5 : decode cX13_marks 5 = .ok (.ifCond .ne 9, 3) := by decide +kernel
theorem dX13_marks_8 : decode cX13_marks 8 = .ok (.aload_n 0, 1) := by decide +kernel
theorem dX13_marks_9 : decode cX13_marks 9 = .ok (.iconst 1, 1) := by decide +kernel
theorem dX13_marks_10 : decode cX13_marks 10 = .ok (.invokevirtual 130, 3) := by decide +kernel
theorem dX13_marks_13 : decode cX13_marks 13 = .ok (.ireturn, 1) := by decide +kernel
theorem dX13_marks_14 : decode cX13_marks 14 = .ok (.aload_n 0, 1) := by decide +kernel
theorem dX13_marks_15 : decode cX13_marks 15 = .ok (.getfield 7, 3) := by decide +kernel
theorem dX13_marks_18 : decode cX13_marks 18 = .ok (.bipush 120, 2) := by decide +kernel
theorem dX13_marks_20 : decode cX13_marks 20 = .ok (.iload_n 1, 1) := by decide +kernel
theorem dX13_marks_21 : decode cX13_marks 21 = .ok (.iadd, 1) := by decide +kernel
theorem dX13_marks_22 : decode cX13_marks 22 = .ok (.iaload, 1) := by decide +kernel
theorem dX13_marks_23 : decode cX13_marks 23 = .ok (.iload_n 2, 1) := by decide +kernel
theorem dX13_marks_24 : decode cX13_marks 24 = .ok (.if_icmp .eq 9, 3) := by decide +kernel
theorem dX13_marks_27 : decode cX13_marks 27 = .ok (.aload_n 0, 1) := by decide +kernel
theorem dX13_marks_28 : decode cX13_marks 28 = .ok (.iconst 2, 1) := by decide +kernel
theorem dX13_marks_29 : decode cX13_marks 29 = .ok (.invokevirtual 130, 3) := by decide +kernel
theorem dX13_marks_32 : decode cX13_marks 32 = .ok (.ireturn, 1) := by decide +kernel
theorem dX13_marks_33 : decode cX13_marks 33 = .ok (.aload_n 0, 1) := by decide +kernel
theorem dX13_marks_34 : decode cX13_marks 34 = .ok (.getfield 7, 3) := by decide +kernel
theorem dX13_marks_37 : decode cX13_marks 37 = .ok (.bipush 120, 2) := by decide +kernel
theorem dX13_marks_39 : decode cX13_marks 39 = .ok (.iload_n 1, 1) := by decide +kernel
theorem dX13_marks_40 : decode cX13_marks 40 = .ok (.iadd, 1) := by decide +kernel
theorem dX13_marks_41 : decode cX13_marks 41 = .ok (.iconst 1, 1) := by decide +kernel
theorem dX13_marks_42 : decode cX13_marks 42 = .ok (.iload_n 2, 1) := by decide +kernel
theorem dX13_marks_43 : decode cX13_marks 43 = .ok (.isub, 1) := by decide +kernel
theorem dX13_marks_44 : decode cX13_marks 44 = .ok (.iastore, 1) := by decide +kernel
theorem dX13_marks_45 : decode cX13_marks 45 = .ok (.aload_n 0, 1) := by decide +kernel
theorem dX13_marks_46 : decode cX13_marks 46 = .ok (.aload_n 0, 1) := by decide +kernel
theorem dX13_marks_47 : decode cX13_marks 47 = .ok (.invokevirtual 166, 3) := by decide +kernel
theorem dX13_marks_50 : decode cX13_marks 50 = .ok (.invokevirtual 133, 3) := by decide +kernel
theorem dX13_marks_53 : decode cX13_marks 53 = .ok (.ireturn, 1) := by decide +kernel
theorem dX13_exclude_0 : decode cX13_exclude 0 = .ok (.aload_n 0, 1) := by decide +kernel
theorem dX13_exclude_1 : decode cX13_exclude 1 = .ok (.invokevirtual 136, 3) := by decide +kernel
theorem dX13_exclude_4 : decode cX13_exclude 4 = .ok (.aload_n 0, 1) := by decide +kernel
theorem dX13_exclude_5 : decode cX13_exclude 5 = .ok (.aload_n 0, 1) := by decide +kernel
theorem dX13_exclude_6 : decode cX13_exclude 6 = .ok (.iload_n 1, 1) := by decide +kernel
theorem dX13_exclude_7 : decode cX13_exclude 7 = .ok (.iconst 0, 1) := by decide +kernel
theorem dX13_exclude_8 : decode cX13_exclude 8 = .ok (.invokevirtual 169, 3) := by decide +kernel
theorem dX13_exclude_11 : decode cX13_exclude 11 = .ok (.invokevirtual 142, 3) := by decide +kernel
theorem dX13_exclude_14 : decode cX13_exclude 14 = .ok (.ireturn, 1) := by decide +kernel
theorem dX13_include_0 : decode cX13_include 0 = .ok (.aload_n 0, 1) := by decide +kernel
theorem dX13_include_1 : decode cX13_include 1 = .ok (.invokevirtual 136, 3) := by decide +kernel
theorem dX13_include_4 : decode cX13_include 4 = .ok (.aload_n 0, 1) := by decide +kernel
theorem dX13_include_5 : decode cX13_include 5 = .ok (.aload_n 0, 1) := by decide +kernel
theorem dX13_include_6 : decode cX13_include 6 = .ok (.iload_n 1, 1) := by decide +kernel
theorem dX13_include_7 : decode cX13_include 7 = .ok (.iconst 1, 1) := by decide +kernel
theorem dX13_include_8 : decode cX13_include 8 = .ok (.invokevirtual 169, 3) := by decide +kernel
theorem dX13_include_11 : decode cX13_include 11 = .ok (.invokevirtual 142, 3) := by decide +kernel
theorem dX13_include_14 : decode cX13_include 14 = .ok (.ireturn, 1) := by decide +kernel
theorem dX13_whyNoLoop_0 : decode cX13_whyNoLoop 0 = .ok (.aload_n 0, 1) := by decide +kernel
theorem dX13_whyNoLoop_1 : decode cX13_whyNoLoop 1 = .ok (.iload_n 1, 1) := by decide +kernel
theorem dX13_whyNoLoop_2 : decode cX13_whyNoLoop 2 = .ok (.invokevirtual 160, 3) := by decide +kernel
theorem dX13_whyNoLoop_5 : decode cX13_whyNoLoop 5 = .ok (.ifCond .ne 5, 3) := by decide +kernel
theorem dX13_whyNoLoop_8 : decode cX13_whyNoLoop 8 = .ok (.iconst 1, 1) := by decide +kernel
theorem dX13_whyNoLoop_9 : decode cX13_whyNoLoop 9 = .ok (.ireturn, 1) := by decide +kernel
theorem dX13_whyNoLoop_10 : decode cX13_whyNoLoop 10 = .ok (.aload_n 0, 1) := by decide +kernel
theorem dX13_whyNoLoop_11 : decode cX13_whyNoLoop 11 = .ok (.invokevirtual 172, 3) := by decide +kernel
theorem dX13_whyNoLoop_14 : decode cX13_whyNoLoop 14 = .ok (.aload_n 0, 1) := by decide +kernel
theorem dX13_whyNoLoop_15 : decode cX13_whyNoLoop 15 = .ok (.iload_n 1, 1) := by decide +kernel
theorem dX13_whyNoLoop_16 : decode cX13_whyNoLoop 16 = .ok (.invokevirtual 175, 3) := by decide +kernel
theorem dX13_whyNoLoop_19 : decode cX13_whyNoLoop 19 = .ok (.ifCond .ne 5, 3) := by decide +kernel
theorem dX13_whyNoLoop_22 : decode cX13_whyNoLoop 22 = .ok (.iconst 2, 1) := by decide +kernel
theorem dX13_whyNoLoop_23 : decode cX13_whyNoLoop 23 = .ok (.ireturn, 1) := by decide +kernel
theorem dX13_whyNoLoop_24 : decode cX13_whyNoLoop 24 = .ok (.aload_n 0, 1) := by decide +kernel
theorem dX13_whyNoLoop_25 : decode cX13_whyNoLoop 25 = .ok (.iload_n 1, 1) := by decide +kernel
theorem dX13_whyNoLoop_26 : decode cX13_whyNoLoop 26 = .ok (.invokevirtual 178, 3) := by decide +kernel
theorem dX13_whyNoLoop_29 : decode cX13_whyNoLoop 29 = .ok (.iconst 0, 1) := by decide +kernel
theorem dX13_whyNoLoop_30 : decode cX13_whyNoLoop 30 = .ok (.ireturn, 1) := by decide +kernel
theorem dX13_shares_0 : decode cX13_shares 0 = .ok (.aload_n 0, 1) := by decide +kernel
theorem dX13_shares_1 : decode cX13_shares 1 = .ok (.iload_n 1, 1) := by decide +kernel
theorem dX13_shares_2 : decode cX13_shares 2 = .ok (.invokevirtual 181, 3) := by decide +kernel
theorem dX13_shares_5 : decode cX13_shares 5 = .ok (.istore_n 2, 1) := by decide +kernel
theorem dX13_shares_6 : decode cX13_shares 6 = .ok (.iload_n 2, 1) := by decide +kernel
theorem dX13_shares_7 : decode cX13_shares 7 = .ok (.ifCond .le 9, 3) := by decide +kernel
theorem dX13_shares_10 : decode cX13_shares 10 = .ok (.aload_n 0, 1) := by decide +kernel
theorem dX13_shares_11 : decode cX13_shares 11 = .ok (.iload_n 2, 1) := by decide +kernel
theorem dX13_shares_12 : decode cX13_shares 12 = .ok (.invokevirtual 130, 3) := by decide +kernel
theorem dX13_shares_15 : decode cX13_shares 15 = .ok (.ireturn, 1) := by decide +kernel
theorem dX13_shares_16 : decode cX13_shares 16 = .ok (.aload_n 0, 1) := by decide +kernel
theorem dX13_shares_17 : decode cX13_shares 17 = .ok (.invokevirtual 119, 3) := by decide +kernel
theorem dX13_shares_20 : decode cX13_shares 20 = .ok (.istore_n 3, 1) := by decide +kernel
theorem dX13_shares_21 : decode cX13_shares 21 = .ok (.iload_n 3, 1) := by decide +kernel
theorem dX13_shares_22 : decode cX13_shares 22 = .ok (.invokestatic 79, 3) := by decide +kernel
theorem dX13_shares_25 : decode cX13_shares 25 = .ok (.aload_n 0, 1) := by decide +kernel
theorem dX13_shares_26 : decode cX13_shares 26 = .ok (.invokevirtual 123, 3) := by decide +kernel
theorem dX13_shares_29 : decode cX13_shares 29 = .ok (.invokestatic 82, 3) := by decide +kernel
theorem dX13_shares_32 : decode cX13_shares 32 = .ok (.if_icmp .le 9, 3) := by decide +kernel
theorem dX13_shares_35 : decode cX13_shares 35 = .ok (.aload_n 0, 1) := by decide +kernel
theorem dX13_shares_36 : decode cX13_shares 36 = .ok (.iconst 3, 1) := by decide +kernel
theorem dX13_shares_37 : decode cX13_shares 37 = .ok (.invokevirtual 130, 3) := by decide +kernel
theorem dX13_shares_40 : decode cX13_shares 40 = .ok (.ireturn, 1) := by decide +kernel
theorem dX13_shares_41 : decode cX13_shares 41 = .ok (.aload_n 0, 1) := by decide +kernel
theorem dX13_shares_42 : decode cX13_shares 42 = .ok (.invokevirtual 184, 3) := by decide +kernel
theorem dX13_shares_45 : decode cX13_shares 45 = .ok (.iload_n 3, 1) := by decide +kernel
theorem dX13_shares_46 : decode cX13_shares 46 = .ok (.ifCond .le 7, 3) := by decide +kernel
theorem dX13_shares_49 : decode cX13_shares 49 = .ok (.iconst (-1), 1) := by decide +kernel
theorem dX13_shares_50 : decode cX13_shares 50 = .ok (.goto 4, 3) := by decide +kernel
theorem dX13_shares_53 : decode cX13_shares 53 = .ok (.iconst 1, 1) := by decide +kernel
theorem dX13_shares_54 : decode cX13_shares 54 = .ok (.istore 4, 2) := by decide +kernel
theorem dX13_shares_56 : decode cX13_shares 56 = .ok (.iconst 0, 1) := by decide +kernel
theorem dX13_shares_57 : decode cX13_shares 57 = .ok (.istore 5, 2) := by decide +kernel
theorem dX13_shares_59 : decode cX13_shares 59 = .ok (.iload 5, 2) := by decide +kernel
theorem dX13_shares_61 : decode cX13_shares 61 = .ok (.aload_n 0, 1) := by decide +kernel
theorem dX13_shares_62 : decode cX13_shares 62 = .ok (.getfield 7, 3) := by decide +kernel
theorem dX13_shares_65 : decode cX13_shares 65 = .ok (.iconst 1, 1) := by decide +kernel
theorem dX13_shares_66 : decode cX13_shares 66 = .ok (.iaload, 1) := by decide +kernel
theorem dX13_shares_67 : decode cX13_shares 67 = .ok (.if_icmp .ge 41, 3) := by decide +kernel
theorem dX13_shares_70 : decode cX13_shares 70 = .ok (.aload_n 0, 1) := by decide +kernel
theorem dX13_shares_71 : decode cX13_shares 71 = .ok (.getfield 7, 3) := by decide +kernel
theorem dX13_shares_74 : decode cX13_shares 74 = .ok (.sipush 136, 3) := by decide +kernel
theorem dX13_shares_77 : decode cX13_shares 77 = .ok (.iload 5, 2) := by decide +kernel
theorem dX13_shares_79 : decode cX13_shares 79 = .ok (.iadd, 1) := by decide +kernel
theorem dX13_shares_80 : decode cX13_shares 80 = .ok (.dup2, 1) := by decide +kernel
theorem dX13_shares_81 : decode cX13_shares 81 = .ok (.iaload, 1) := by decide +kernel
theorem dX13_shares_82 : decode cX13_shares 82 = .ok (.iload 4, 2) := by decide +kernel
theorem dX13_shares_84 : decode cX13_shares 84 = .ok (.aload_n 0, 1) := by decide +kernel
theorem dX13_shares_85 : decode cX13_shares 85 = .ok (.getfield 49, 3) := by decide +kernel
theorem dX13_shares_88 : decode cX13_shares 88 = .ok (.iload 5, 2) := by decide +kernel
theorem dX13_shares_90 : decode cX13_shares 90 = .ok (.iaload, 1) := by decide +kernel
theorem dX13_shares_91 : decode cX13_shares 91 = .ok (.imul, 1) := by decide +kernel
theorem dX13_shares_92 : decode cX13_shares 92 = .ok (.aload_n 0, 1) := by decide +kernel
theorem dX13_shares_93 : decode cX13_shares 93 = .ok (.getfield 52, 3) := by decide +kernel
theorem dX13_shares_96 : decode cX13_shares 96 = .ok (.iload 5, 2) := by decide +kernel
theorem dX13_shares_98 : decode cX13_shares 98 = .ok (.iaload, 1) := by decide +kernel
theorem dX13_shares_99 : decode cX13_shares 99 = .ok (.imul, 1) := by decide +kernel
theorem dX13_shares_100 : decode cX13_shares 100 = .ok (.iadd, 1) := by decide +kernel
theorem dX13_shares_101 : decode cX13_shares 101 = .ok (.iastore, 1) := by decide +kernel
theorem dX13_shares_102 : decode cX13_shares 102 = .ok (.iinc 5 1, 3) := by decide +kernel
theorem dX13_shares_105 : decode cX13_shares 105 = .ok (.goto (-46), 3) := by decide +kernel
theorem dX13_shares_108 : decode cX13_shares 108 = .ok (.aload_n 0, 1) := by decide +kernel
theorem dX13_shares_109 : decode cX13_shares 109 = .ok (.iload_n 3, 1) := by decide +kernel
theorem dX13_shares_110 : decode cX13_shares 110 = .ok (.invokevirtual 133, 3) := by decide +kernel
theorem dX13_shares_113 : decode cX13_shares 113 = .ok (.ireturn, 1) := by decide +kernel
theorem dX13_shareMisclosure_0 : decode cX13_shareMisclosure 0 = .ok (.aload_n 0, 1) := by decide +kernel
theorem dX13_shareMisclosure_1 : decode cX13_shareMisclosure 1 = .ok (.invokevirtual 136, 3) := by decide +kernel
theorem dX13_shareMisclosure_4 : decode cX13_shareMisclosure 4 = .ok (.aload_n 0, 1) := by decide +kernel
theorem dX13_shareMisclosure_5 : decode cX13_shareMisclosure 5 = .ok (.aload_n 0, 1) := by decide +kernel
theorem dX13_shareMisclosure_6 : decode cX13_shareMisclosure 6 = .ok (.iload_n 1, 1) := by decide +kernel
theorem dX13_shareMisclosure_7 : decode cX13_shareMisclosure 7 = .ok (.invokevirtual 187, 3) := by decide +kernel
theorem dX13_shareMisclosure_10 : decode cX13_shareMisclosure 10 = .ok (.invokevirtual 142, 3) := by decide +kernel
theorem dX13_shareMisclosure_13 : decode cX13_shareMisclosure 13 = .ok (.ireturn, 1) := by decide +kernel
theorem dX13_resets_0 : decode cX13_resets 0 = .ok (.iconst 0, 1) := by decide +kernel
theorem dX13_resets_1 : decode cX13_resets 1 = .ok (.istore_n 1, 1) := by decide +kernel
theorem dX13_resets_2 : decode cX13_resets 2 = .ok (.iconst 0, 1) := by decide +kernel
theorem dX13_resets_3 : decode cX13_resets 3 = .ok (.istore_n 2, 1) := by decide +kernel
theorem dX13_resets_4 : decode cX13_resets 4 = .ok (.iload_n 2, 1) := by decide +kernel
theorem dX13_resets_5 : decode cX13_resets 5 = .ok (.aload_n 0, 1) := by decide +kernel
theorem dX13_resets_6 : decode cX13_resets 6 = .ok (.getfield 7, 3) := by decide +kernel
theorem dX13_resets_9 : decode cX13_resets 9 = .ok (.iconst 1, 1) := by decide +kernel
theorem dX13_resets_10 : decode cX13_resets 10 = .ok (.iaload, 1) := by decide +kernel
theorem dX13_resets_11 : decode cX13_resets 11 = .ok (.if_icmp .ge 41, 3) := by decide +kernel
theorem dX13_resets_14 : decode cX13_resets 14 = .ok (.iload_n 1, 1) := by decide +kernel
theorem dX13_resets_15 : decode cX13_resets 15 = .ok (.aload_n 0, 1) := by decide +kernel
theorem dX13_resets_16 : decode cX13_resets 16 = .ok (.getfield 7, 3) := by decide +kernel
theorem dX13_resets_19 : decode cX13_resets 19 = .ok (.sipush 136, 3) := by decide +kernel
theorem dX13_resets_22 : decode cX13_resets 22 = .ok (.iload_n 2, 1) := by decide +kernel
theorem dX13_resets_23 : decode cX13_resets 23 = .ok (.iadd, 1) := by decide +kernel
theorem dX13_resets_24 : decode cX13_resets 24 = .ok (.iaload, 1) := by decide +kernel
theorem dX13_resets_25 : decode cX13_resets 25 = .ok (.ifCond .eq 7, 3) := by decide +kernel
theorem dX13_resets_28 : decode cX13_resets 28 = .ok (.iconst 1, 1) := by decide +kernel
theorem dX13_resets_29 : decode cX13_resets 29 = .ok (.goto 4, 3) := by decide +kernel
theorem dX13_resets_32 : decode cX13_resets 32 = .ok (.iconst 0, 1) := by decide +kernel
theorem dX13_resets_33 : decode cX13_resets 33 = .ok (.iadd, 1) := by decide +kernel
theorem dX13_resets_34 : decode cX13_resets 34 = .ok (.istore_n 1, 1) := by decide +kernel
theorem dX13_resets_35 : decode cX13_resets 35 = .ok (.aload_n 0, 1) := by decide +kernel
theorem dX13_resets_36 : decode cX13_resets 36 = .ok (.getfield 7, 3) := by decide +kernel
theorem dX13_resets_39 : decode cX13_resets 39 = .ok (.sipush 136, 3) := by decide +kernel
theorem dX13_resets_42 : decode cX13_resets 42 = .ok (.iload_n 2, 1) := by decide +kernel
theorem dX13_resets_43 : decode cX13_resets 43 = .ok (.iadd, 1) := by decide +kernel
theorem dX13_resets_44 : decode cX13_resets 44 = .ok (.iconst 0, 1) := by decide +kernel
theorem dX13_resets_45 : decode cX13_resets 45 = .ok (.iastore, 1) := by decide +kernel
theorem dX13_resets_46 : decode cX13_resets 46 = .ok (.iinc 2 1, 3) := by decide +kernel
theorem dX13_resets_49 : decode cX13_resets 49 = .ok (.goto (-45), 3) := by decide +kernel
theorem dX13_resets_52 : decode cX13_resets 52 = .ok (.aload_n 0, 1) := by decide +kernel
theorem dX13_resets_53 : decode cX13_resets 53 = .ok (.iload_n 1, 1) := by decide +kernel
theorem dX13_resets_54 : decode cX13_resets 54 = .ok (.invokevirtual 133, 3) := by decide +kernel
theorem dX13_resets_57 : decode cX13_resets 57 = .ok (.ireturn, 1) := by decide +kernel
theorem dX13_resetCorrections_0 : decode cX13_resetCorrections 0 = .ok (.aload_n 0, 1) := by decide +kernel
theorem dX13_resetCorrections_1 : decode cX13_resetCorrections 1 = .ok (.invokevirtual 136, 3) := by decide +kernel
theorem dX13_resetCorrections_4 : decode cX13_resetCorrections 4 = .ok (.aload_n 0, 1) := by decide +kernel
theorem dX13_resetCorrections_5 : decode cX13_resetCorrections 5 = .ok (.aload_n 0, 1) := by decide +kernel
theorem dX13_resetCorrections_6 : decode cX13_resetCorrections 6 = .ok (.invokevirtual 190, 3) := by decide +kernel
theorem dX13_resetCorrections_9 : decode cX13_resetCorrections 9 = .ok (.invokevirtual 142, 3) := by decide +kernel
theorem dX13_resetCorrections_12 : decode cX13_resetCorrections 12 = .ok (.ireturn, 1) := by decide +kernel
theorem dX13_addsProfile_0 : decode cX13_addsProfile 0 = .ok (.aload_n 0, 1) := by decide +kernel
theorem dX13_addsProfile_1 : decode cX13_addsProfile 1 = .ok (.iload_n 1, 1) := by decide +kernel
theorem dX13_addsProfile_2 : decode cX13_addsProfile 2 = .ok (.invokevirtual 145, 3) := by decide +kernel
theorem dX13_addsProfile_5 : decode cX13_addsProfile 5 = .ok (.ifCond .ne 9, 3) := by decide +kernel
theorem dX13_addsProfile_8 : decode cX13_addsProfile 8 = .ok (.aload_n 0, 1) := by decide +kernel
theorem dX13_addsProfile_9 : decode cX13_addsProfile 9 = .ok (.iconst 1, 1) := by decide +kernel
theorem dX13_addsProfile_10 : decode cX13_addsProfile 10 = .ok (.invokevirtual 130, 3) := by decide +kernel
theorem dX13_addsProfile_13 : decode cX13_addsProfile 13 = .ok (.ireturn, 1) := by decide +kernel
theorem dX13_addsProfile_14 : decode cX13_addsProfile 14 = .ok (.aload_n 0, 1) := by decide +kernel
theorem dX13_addsProfile_15 : decode cX13_addsProfile 15 = .ok (.getfield 7, 3) := by decide +kernel
theorem dX13_addsProfile_18 : decode cX13_addsProfile 18 = .ok (.iconst 2, 1) := by decide +kernel
theorem dX13_addsProfile_19 : decode cX13_addsProfile 19 = .ok (.iaload, 1) := by decide +kernel
theorem dX13_addsProfile_20 : decode cX13_addsProfile 20 = .ok (.istore_n 2, 1) := by decide +kernel
theorem dX13_addsProfile_21 : decode cX13_addsProfile 21 = .ok (.iload_n 2, 1) := by decide +kernel
theorem dX13_addsProfile_22 : decode cX13_addsProfile 22 = .ok (.iconst 4, 1) := by decide +kernel
theorem dX13_addsProfile_23 : decode cX13_addsProfile 23 = .ok (.if_icmp .ne 9, 3) := by decide +kernel
theorem dX13_addsProfile_26 : decode cX13_addsProfile 26 = .ok (.aload_n 0, 1) := by decide +kernel
theorem dX13_addsProfile_27 : decode cX13_addsProfile 27 = .ok (.iconst 2, 1) := by decide +kernel
theorem dX13_addsProfile_28 : decode cX13_addsProfile 28 = .ok (.invokevirtual 130, 3) := by decide +kernel
theorem dX13_addsProfile_31 : decode cX13_addsProfile 31 = .ok (.ireturn, 1) := by decide +kernel
theorem dX13_addsProfile_32 : decode cX13_addsProfile 32 = .ok (.aload_n 0, 1) := by decide +kernel
theorem dX13_addsProfile_33 : decode cX13_addsProfile 33 = .ok (.getfield 7, 3) := by decide +kernel
theorem dX13_addsProfile_36 : decode cX13_addsProfile 36 = .ok (.sipush 152, 3) := by decide +kernel
theorem dX13_addsProfile_39 : decode cX13_addsProfile 39 = .ok (.iload_n 2, 1) := by decide +kernel
theorem dX13_addsProfile_40 : decode cX13_addsProfile 40 = .ok (.iadd, 1) := by decide +kernel
theorem dX13_addsProfile_41 : decode cX13_addsProfile 41 = .ok (.iload_n 1, 1) := by decide +kernel
theorem dX13_addsProfile_42 : decode cX13_addsProfile 42 = .ok (.iastore, 1) := by decide +kernel
theorem dX13_addsProfile_43 : decode cX13_addsProfile 43 = .ok (.aload_n 0, 1) := by decide +kernel
theorem dX13_addsProfile_44 : decode cX13_addsProfile 44 = .ok (.getfield 7, 3) := by decide +kernel
theorem dX13_addsProfile_47 : decode cX13_addsProfile 47 = .ok (.iconst 2, 1) := by decide +kernel
theorem dX13_addsProfile_48 : decode cX13_addsProfile 48 = .ok (.dup2, 1) := by decide +kernel
theorem dX13_addsProfile_49 : decode cX13_addsProfile 49 = .ok (.iaload, 1) := by decide +kernel
theorem dX13_addsProfile_50 : decode cX13_addsProfile 50 = .ok (.iconst 1, 1) := by decide +kernel
theorem dX13_addsProfile_51 : decode cX13_addsProfile 51 = .ok (.iadd, 1) := by decide +kernel
theorem dX13_addsProfile_52 : decode cX13_addsProfile 52 = .ok (.iastore, 1) := by decide +kernel
theorem dX13_addsProfile_53 : decode cX13_addsProfile 53 = .ok (.aload_n 0, 1) := by decide +kernel
theorem dX13_addsProfile_54 : decode cX13_addsProfile 54 = .ok (.iload_n 2, 1) := by decide +kernel
theorem dX13_addsProfile_55 : decode cX13_addsProfile 55 = .ok (.invokevirtual 133, 3) := by decide +kernel
theorem dX13_addsProfile_58 : decode cX13_addsProfile 58 = .ok (.ireturn, 1) := by decide +kernel
theorem dX13_addProfile_0 : decode cX13_addProfile 0 = .ok (.aload_n 0, 1) := by decide +kernel
theorem dX13_addProfile_1 : decode cX13_addProfile 1 = .ok (.invokevirtual 136, 3) := by decide +kernel
theorem dX13_addProfile_4 : decode cX13_addProfile 4 = .ok (.aload_n 0, 1) := by decide +kernel
theorem dX13_addProfile_5 : decode cX13_addProfile 5 = .ok (.aload_n 0, 1) := by decide +kernel
theorem dX13_addProfile_6 : decode cX13_addProfile 6 = .ok (.iload_n 1, 1) := by decide +kernel
theorem dX13_addProfile_7 : decode cX13_addProfile 7 = .ok (.invokevirtual 193, 3) := by decide +kernel
theorem dX13_addProfile_10 : decode cX13_addProfile 10 = .ok (.invokevirtual 142, 3) := by decide +kernel
theorem dX13_addProfile_13 : decode cX13_addProfile 13 = .ok (.ireturn, 1) := by decide +kernel
theorem dX13_distanceOf_0 : decode cX13_distanceOf 0 = .ok (.aload_n 0, 1) := by decide +kernel
theorem dX13_distanceOf_1 : decode cX13_distanceOf 1 = .ok (.getfield 7, 3) := by decide +kernel
theorem dX13_distanceOf_4 : decode cX13_distanceOf 4 = .ok (.sipush 160, 3) := by decide +kernel
theorem dX13_distanceOf_7 : decode cX13_distanceOf 7 = .ok (.bipush 10, 2) := by decide +kernel
theorem dX13_distanceOf_9 : decode cX13_distanceOf 9 = .ok (.iload_n 1, 1) := by decide +kernel
theorem dX13_distanceOf_10 : decode cX13_distanceOf 10 = .ok (.imul, 1) := by decide +kernel
theorem dX13_distanceOf_11 : decode cX13_distanceOf 11 = .ok (.iadd, 1) := by decide +kernel
theorem dX13_distanceOf_12 : decode cX13_distanceOf 12 = .ok (.iload_n 2, 1) := by decide +kernel
theorem dX13_distanceOf_13 : decode cX13_distanceOf 13 = .ok (.iadd, 1) := by decide +kernel
theorem dX13_distanceOf_14 : decode cX13_distanceOf 14 = .ok (.iaload, 1) := by decide +kernel
theorem dX13_distanceOf_15 : decode cX13_distanceOf 15 = .ok (.ireturn, 1) := by decide +kernel
theorem dX13_addsStation_0 : decode cX13_addsStation 0 = .ok (.aload_n 0, 1) := by decide +kernel
theorem dX13_addsStation_1 : decode cX13_addsStation 1 = .ok (.iload_n 1, 1) := by decide +kernel
theorem dX13_addsStation_2 : decode cX13_addsStation 2 = .ok (.invokevirtual 196, 3) := by decide +kernel
theorem dX13_addsStation_5 : decode cX13_addsStation 5 = .ok (.ifCond .ne 9, 3) := by decide +kernel
theorem dX13_addsStation_8 : decode cX13_addsStation 8 = .ok (.aload_n 0, 1) := by decide +kernel
theorem dX13_addsStation_9 : decode cX13_addsStation 9 = .ok (.iconst 1, 1) := by decide +kernel
theorem dX13_addsStation_10 : decode cX13_addsStation 10 = .ok (.invokevirtual 130, 3) := by decide +kernel
theorem dX13_addsStation_13 : decode cX13_addsStation 13 = .ok (.ireturn, 1) := by decide +kernel
theorem dX13_addsStation_14 : decode cX13_addsStation 14 = .ok (.iload_n 2, 1) := by decide +kernel
theorem dX13_addsStation_15 : decode cX13_addsStation 15 = .ok (.iconst 0, 1) := by decide +kernel
theorem dX13_addsStation_16 : decode cX13_addsStation 16 = .ok (.bipush 99, 2) := by decide +kernel
theorem dX13_addsStation_18 : decode cX13_addsStation 18 = .ok (.invokestatic 71, 3) := by decide +kernel
theorem dX13_addsStation_21 : decode cX13_addsStation 21 = .ok (.ifCond .eq 16, 3) := by decide +kernel
theorem dX13_addsStation_24 : decode cX13_addsStation 24 = .ok (.iload_n 3, 1) := by decide +kernel
theorem dX13_addsStation_25 : decode cX13_addsStation 25 = .ok (.sipush (-999), 3) := by decide +kernel
theorem dX13_addsStation_28 : decode cX13_addsStation 28 = .ok (.sipush 999, 3) := by decide +kernel
theorem dX13_addsStation_31 : decode cX13_addsStation 31 = .ok (.invokestatic 71, 3) := by decide +kernel
theorem dX13_addsStation_34 : decode cX13_addsStation 34 = .ok (.ifCond .ne 9, 3) := by decide +kernel
theorem dX13_addsStation_37 : decode cX13_addsStation 37 = .ok (.aload_n 0, 1) := by decide +kernel
theorem dX13_addsStation_38 : decode cX13_addsStation 38 = .ok (.iconst 2, 1) := by decide +kernel
theorem dX13_addsStation_39 : decode cX13_addsStation 39 = .ok (.invokevirtual 130, 3) := by decide +kernel
theorem dX13_addsStation_42 : decode cX13_addsStation 42 = .ok (.ireturn, 1) := by decide +kernel
theorem dX13_addsStation_43 : decode cX13_addsStation 43 = .ok (.aload_n 0, 1) := by decide +kernel
theorem dX13_addsStation_44 : decode cX13_addsStation 44 = .ok (.getfield 7, 3) := by decide +kernel
theorem dX13_addsStation_47 : decode cX13_addsStation 47 = .ok (.sipush 156, 3) := by decide +kernel
theorem dX13_addsStation_50 : decode cX13_addsStation 50 = .ok (.iload_n 1, 1) := by decide +kernel
theorem dX13_addsStation_51 : decode cX13_addsStation 51 = .ok (.iadd, 1) := by decide +kernel
theorem dX13_addsStation_52 : decode cX13_addsStation 52 = .ok (.iaload, 1) := by decide +kernel
theorem dX13_addsStation_53 : decode cX13_addsStation 53 = .ok (.istore 4, 2) := by decide +kernel
theorem dX13_addsStation_55 : decode cX13_addsStation 55 = .ok (.iload 4, 2) := by decide +kernel
theorem dX13_addsStation_57 : decode cX13_addsStation 57 = .ok (.bipush 10, 2) := by decide +kernel
theorem dX13_addsStation_59 : decode cX13_addsStation 59 = .ok (.if_icmp .eq 21, 3) := by decide +kernel
theorem dX13_addsStation_62 : decode cX13_addsStation 62 = .ok (.iload 4, 2) := by decide +kernel
theorem dX13_addsStation_64 : decode cX13_addsStation 64 = .ok (.ifCond .le 22, 3) := by decide +kernel
theorem dX13_addsStation_67 : decode cX13_addsStation 67 = .ok (.iload_n 2, 1) := by decide +kernel
theorem dX13_addsStation_68 : decode cX13_addsStation 68 = .ok (.aload_n 0, 1) := by decide +kernel
theorem dX13_addsStation_69 : decode cX13_addsStation 69 = .ok (.iload_n 1, 1) := by decide +kernel
theorem dX13_addsStation_70 : decode cX13_addsStation 70 = .ok (.iload 4, 2) := by decide +kernel
theorem dX13_addsStation_72 : decode cX13_addsStation 72 = .ok (.iconst 1, 1) := by decide +kernel
theorem dX13_addsStation_73 : decode cX13_addsStation 73 = .ok (.isub, 1) := by decide +kernel
theorem dX13_addsStation_74 : decode cX13_addsStation 74 = .ok (.invokevirtual 199, 3) := by decide +kernel
theorem dX13_addsStation_77 : decode cX13_addsStation 77 = .ok (.if_icmp .gt 9, 3) := by decide +kernel
theorem dX13_addsStation_80 : decode cX13_addsStation 80 = .ok (.aload_n 0, 1) := by decide +kernel
theorem dX13_addsStation_81 : decode cX13_addsStation 81 = .ok (.iconst 3, 1) := by decide +kernel
theorem dX13_addsStation_82 : decode cX13_addsStation 82 = .ok (.invokevirtual 130, 3) := by decide +kernel
theorem dX13_addsStation_85 : decode cX13_addsStation 85 = .ok (.ireturn, 1) := by decide +kernel
theorem dX13_addsStation_86 : decode cX13_addsStation 86 = .ok (.aload_n 0, 1) := by decide +kernel
theorem dX13_addsStation_87 : decode cX13_addsStation 87 = .ok (.getfield 7, 3) := by decide +kernel
theorem dX13_addsStation_90 : decode cX13_addsStation 90 = .ok (.sipush 160, 3) := by decide +kernel
theorem dX13_addsStation_93 : decode cX13_addsStation 93 = .ok (.bipush 10, 2) := by decide +kernel
theorem dX13_addsStation_95 : decode cX13_addsStation 95 = .ok (.iload_n 1, 1) := by decide +kernel
theorem dX13_addsStation_96 : decode cX13_addsStation 96 = .ok (.imul, 1) := by decide +kernel
theorem dX13_addsStation_97 : decode cX13_addsStation 97 = .ok (.iadd, 1) := by decide +kernel
theorem dX13_addsStation_98 : decode cX13_addsStation 98 = .ok (.iload 4, 2) := by decide +kernel
theorem dX13_addsStation_100 : decode cX13_addsStation 100 = .ok (.iadd, 1) := by decide +kernel
theorem dX13_addsStation_101 : decode cX13_addsStation 101 = .ok (.iload_n 2, 1) := by decide +kernel
theorem dX13_addsStation_102 : decode cX13_addsStation 102 = .ok (.iastore, 1) := by decide +kernel
theorem dX13_addsStation_103 : decode cX13_addsStation 103 = .ok (.aload_n 0, 1) := by decide +kernel
theorem dX13_addsStation_104 : decode cX13_addsStation 104 = .ok (.getfield 7, 3) := by decide +kernel
theorem dX13_addsStation_107 : decode cX13_addsStation 107 = .ok (.sipush 200, 3) := by decide +kernel
theorem dX13_addsStation_110 : decode cX13_addsStation 110 = .ok (.bipush 10, 2) := by decide +kernel
theorem dX13_addsStation_112 : decode cX13_addsStation 112 = .ok (.iload_n 1, 1) := by decide +kernel
theorem dX13_addsStation_113 : decode cX13_addsStation 113 = .ok (.imul, 1) := by decide +kernel
theorem dX13_addsStation_114 : decode cX13_addsStation 114 = .ok (.iadd, 1) := by decide +kernel
theorem dX13_addsStation_115 : decode cX13_addsStation 115 = .ok (.iload 4, 2) := by decide +kernel
theorem dX13_addsStation_117 : decode cX13_addsStation 117 = .ok (.iadd, 1) := by decide +kernel
theorem dX13_addsStation_118 : decode cX13_addsStation 118 = .ok (.iload_n 3, 1) := by decide +kernel
theorem dX13_addsStation_119 : decode cX13_addsStation 119 = .ok (.iastore, 1) := by decide +kernel
theorem dX13_addsStation_120 : decode cX13_addsStation 120 = .ok (.aload_n 0, 1) := by decide +kernel
theorem dX13_addsStation_121 : decode cX13_addsStation 121 = .ok (.getfield 7, 3) := by decide +kernel
theorem dX13_addsStation_124 : decode cX13_addsStation 124 = .ok (.sipush 156, 3) := by decide +kernel
theorem dX13_addsStation_127 : decode cX13_addsStation 127 = .ok (.iload_n 1, 1) := by decide +kernel
theorem dX13_addsStation_128 : decode cX13_addsStation 128 = .ok (.iadd, 1) := by decide +kernel
theorem dX13_addsStation_129 : decode cX13_addsStation 129 = .ok (.dup2, 1) := by decide +kernel
theorem dX13_addsStation_130 : decode cX13_addsStation 130 = .ok (.iaload, 1) := by decide +kernel
theorem dX13_addsStation_131 : decode cX13_addsStation 131 = .ok (.iconst 1, 1) := by decide +kernel
theorem dX13_addsStation_132 : decode cX13_addsStation 132 = .ok (.iadd, 1) := by decide +kernel
theorem dX13_addsStation_133 : decode cX13_addsStation 133 = .ok (.iastore, 1) := by decide +kernel
theorem dX13_addsStation_134 : decode cX13_addsStation 134 = .ok (.aload_n 0, 1) := by decide +kernel
theorem dX13_addsStation_135 : decode cX13_addsStation 135 = .ok (.iload 4, 2) := by decide +kernel
theorem dX13_addsStation_137 : decode cX13_addsStation 137 = .ok (.iconst 1, 1) := by decide +kernel
theorem dX13_addsStation_138 : decode cX13_addsStation 138 = .ok (.iadd, 1) := by decide +kernel
theorem dX13_addsStation_139 : decode cX13_addsStation 139 = .ok (.invokevirtual 133, 3) := by decide +kernel
theorem dX13_addsStation_142 : decode cX13_addsStation 142 = .ok (.ireturn, 1) := by decide +kernel
theorem dX13_addStation_0 : decode cX13_addStation 0 = .ok (.aload_n 0, 1) := by decide +kernel
theorem dX13_addStation_1 : decode cX13_addStation 1 = .ok (.invokevirtual 136, 3) := by decide +kernel
theorem dX13_addStation_4 : decode cX13_addStation 4 = .ok (.aload_n 0, 1) := by decide +kernel
theorem dX13_addStation_5 : decode cX13_addStation 5 = .ok (.aload_n 0, 1) := by decide +kernel
theorem dX13_addStation_6 : decode cX13_addStation 6 = .ok (.iload_n 1, 1) := by decide +kernel
theorem dX13_addStation_7 : decode cX13_addStation 7 = .ok (.iload_n 2, 1) := by decide +kernel
theorem dX13_addStation_8 : decode cX13_addStation 8 = .ok (.iload_n 3, 1) := by decide +kernel
theorem dX13_addStation_9 : decode cX13_addStation 9 = .ok (.invokevirtual 202, 3) := by decide +kernel
theorem dX13_addStation_12 : decode cX13_addStation 12 = .ok (.invokevirtual 142, 3) := by decide +kernel
theorem dX13_addStation_15 : decode cX13_addStation 15 = .ok (.ireturn, 1) := by decide +kernel
theorem dX13_setsWater_0 : decode cX13_setsWater 0 = .ok (.iload_n 1, 1) := by decide +kernel
theorem dX13_setsWater_1 : decode cX13_setsWater 1 = .ok (.ldc 148, 2) := by decide +kernel
theorem dX13_setsWater_3 : decode cX13_setsWater 3 = .ok (.ldc 149, 2) := by decide +kernel
theorem dX13_setsWater_5 : decode cX13_setsWater 5 = .ok (.invokestatic 71, 3) := by decide +kernel
theorem dX13_setsWater_8 : decode cX13_setsWater 8 = .ok (.ifCond .ne 9, 3) := by decide +kernel
theorem dX13_setsWater_11 : decode cX13_setsWater 11 = .ok (.aload_n 0, 1) := by decide +kernel
theorem dX13_setsWater_12 : decode cX13_setsWater 12 = .ok (.iconst 1, 1) := by decide +kernel
theorem dX13_setsWater_13 : decode cX13_setsWater 13 = .ok (.invokevirtual 130, 3) := by decide +kernel
theorem dX13_setsWater_16 : decode cX13_setsWater 16 = .ok (.ireturn, 1) := by decide +kernel
theorem dX13_setsWater_17 : decode cX13_setsWater 17 = .ok (.aload_n 0, 1) := by decide +kernel
theorem dX13_setsWater_18 : decode cX13_setsWater 18 = .ok (.getfield 7, 3) := by decide +kernel
theorem dX13_setsWater_21 : decode cX13_setsWater 21 = .ok (.iconst 3, 1) := by decide +kernel
theorem dX13_setsWater_22 : decode cX13_setsWater 22 = .ok (.iaload, 1) := by decide +kernel
theorem dX13_setsWater_23 : decode cX13_setsWater 23 = .ok (.istore_n 2, 1) := by decide +kernel
theorem dX13_setsWater_24 : decode cX13_setsWater 24 = .ok (.aload_n 0, 1) := by decide +kernel
theorem dX13_setsWater_25 : decode cX13_setsWater 25 = .ok (.getfield 7, 3) := by decide +kernel
theorem dX13_setsWater_28 : decode cX13_setsWater 28 = .ok (.iconst 3, 1) := by decide +kernel
theorem dX13_setsWater_29 : decode cX13_setsWater 29 = .ok (.iload_n 1, 1) := by decide +kernel
theorem dX13_setsWater_30 : decode cX13_setsWater 30 = .ok (.iastore, 1) := by decide +kernel
theorem dX13_setsWater_31 : decode cX13_setsWater 31 = .ok (.aload_n 0, 1) := by decide +kernel
theorem dX13_setsWater_32 : decode cX13_setsWater 32 = .ok (.iload_n 2, 1) := by decide +kernel
theorem dX13_setsWater_33 : decode cX13_setsWater 33 = .ok (.invokevirtual 133, 3) := by decide +kernel
theorem dX13_setsWater_36 : decode cX13_setsWater 36 = .ok (.ireturn, 1) := by decide +kernel
theorem dX13_setWaterLevel_0 : decode cX13_setWaterLevel 0 = .ok (.aload_n 0, 1) := by decide +kernel
theorem dX13_setWaterLevel_1 : decode cX13_setWaterLevel 1 = .ok (.invokevirtual 136, 3) := by decide +kernel
theorem dX13_setWaterLevel_4 : decode cX13_setWaterLevel 4 = .ok (.aload_n 0, 1) := by decide +kernel
theorem dX13_setWaterLevel_5 : decode cX13_setWaterLevel 5 = .ok (.aload_n 0, 1) := by decide +kernel
theorem dX13_setWaterLevel_6 : decode cX13_setWaterLevel 6 = .ok (.iload_n 1, 1) := by decide +kernel
theorem dX13_setWaterLevel_7 : decode cX13_setWaterLevel 7 = .ok (.invokevirtual 205, 3) := by decide +kernel
theorem dX13_setWaterLevel_10 : decode cX13_setWaterLevel 10 = .ok (.invokevirtual 142, 3) := by decide +kernel
theorem dX13_setWaterLevel_13 : decode cX13_setWaterLevel 13 = .ok (.ireturn, 1) := by decide +kernel
theorem dX13_benchmarkCount_0 : decode cX13_benchmarkCount 0 = .ok (.aload_n 0, 1) := by decide +kernel
theorem dX13_benchmarkCount_1 : decode cX13_benchmarkCount 1 = .ok (.aload_n 0, 1) := by decide +kernel
theorem dX13_benchmarkCount_2 : decode cX13_benchmarkCount 2 = .ok (.getfield 7, 3) := by decide +kernel
theorem dX13_benchmarkCount_5 : decode cX13_benchmarkCount 5 = .ok (.iconst 0, 1) := by decide +kernel
theorem dX13_benchmarkCount_6 : decode cX13_benchmarkCount 6 = .ok (.iaload, 1) := by decide +kernel
theorem dX13_benchmarkCount_7 : decode cX13_benchmarkCount 7 = .ok (.invokevirtual 133, 3) := by decide +kernel
theorem dX13_benchmarkCount_10 : decode cX13_benchmarkCount 10 = .ok (.ireturn, 1) := by decide +kernel
theorem dX13_isFixed_0 : decode cX13_isFixed 0 = .ok (.aload_n 0, 1) := by decide +kernel
theorem dX13_isFixed_1 : decode cX13_isFixed 1 = .ok (.aload_n 0, 1) := by decide +kernel
theorem dX13_isFixed_2 : decode cX13_isFixed 2 = .ok (.iload_n 1, 1) := by decide +kernel
theorem dX13_isFixed_3 : decode cX13_isFixed 3 = .ok (.invokevirtual 145, 3) := by decide +kernel
theorem dX13_isFixed_6 : decode cX13_isFixed 6 = .ok (.ifCond .eq 7, 3) := by decide +kernel
theorem dX13_isFixed_9 : decode cX13_isFixed 9 = .ok (.iconst 0, 1) := by decide +kernel
theorem dX13_isFixed_10 : decode cX13_isFixed 10 = .ok (.goto 4, 3) := by decide +kernel
theorem dX13_isFixed_13 : decode cX13_isFixed 13 = .ok (.iconst 1, 1) := by decide +kernel
theorem dX13_isFixed_14 : decode cX13_isFixed 14 = .ok (.putfield 61, 3) := by decide +kernel
theorem dX13_isFixed_17 : decode cX13_isFixed 17 = .ok (.aload_n 0, 1) := by decide +kernel
theorem dX13_isFixed_18 : decode cX13_isFixed 18 = .ok (.getfield 61, 3) := by decide +kernel
theorem dX13_isFixed_21 : decode cX13_isFixed 21 = .ok (.ifCond .ne 19, 3) := by decide +kernel
theorem dX13_isFixed_24 : decode cX13_isFixed 24 = .ok (.aload_n 0, 1) := by decide +kernel
theorem dX13_isFixed_25 : decode cX13_isFixed 25 = .ok (.getfield 7, 3) := by decide +kernel
theorem dX13_isFixed_28 : decode cX13_isFixed 28 = .ok (.iconst 4, 1) := by decide +kernel
theorem dX13_isFixed_29 : decode cX13_isFixed 29 = .ok (.iload_n 1, 1) := by decide +kernel
theorem dX13_isFixed_30 : decode cX13_isFixed 30 = .ok (.iadd, 1) := by decide +kernel
theorem dX13_isFixed_31 : decode cX13_isFixed 31 = .ok (.iaload, 1) := by decide +kernel
theorem dX13_isFixed_32 : decode cX13_isFixed 32 = .ok (.iconst 1, 1) := by decide +kernel
theorem dX13_isFixed_33 : decode cX13_isFixed 33 = .ok (.if_icmp .ne 7, 3) := by decide +kernel
theorem dX13_isFixed_36 : decode cX13_isFixed 36 = .ok (.iconst 1, 1) := by decide +kernel
theorem dX13_isFixed_37 : decode cX13_isFixed 37 = .ok (.goto 4, 3) := by decide +kernel
theorem dX13_isFixed_40 : decode cX13_isFixed 40 = .ok (.iconst 0, 1) := by decide +kernel
theorem dX13_isFixed_41 : decode cX13_isFixed 41 = .ok (.ireturn, 1) := by decide +kernel
theorem dX13_hasHeight_0 : decode cX13_hasHeight 0 = .ok (.aload_n 0, 1) := by decide +kernel
theorem dX13_hasHeight_1 : decode cX13_hasHeight 1 = .ok (.aload_n 0, 1) := by decide +kernel
theorem dX13_hasHeight_2 : decode cX13_hasHeight 2 = .ok (.iload_n 1, 1) := by decide +kernel
theorem dX13_hasHeight_3 : decode cX13_hasHeight 3 = .ok (.invokevirtual 145, 3) := by decide +kernel
theorem dX13_hasHeight_6 : decode cX13_hasHeight 6 = .ok (.ifCond .eq 7, 3) := by decide +kernel
theorem dX13_hasHeight_9 : decode cX13_hasHeight 9 = .ok (.iconst 0, 1) := by decide +kernel
theorem dX13_hasHeight_10 : decode cX13_hasHeight 10 = .ok (.goto 4, 3) := by decide +kernel
theorem dX13_hasHeight_13 : decode cX13_hasHeight 13 = .ok (.iconst 1, 1) := by decide +kernel
theorem dX13_hasHeight_14 : decode cX13_hasHeight 14 = .ok (.putfield 61, 3) := by decide +kernel
theorem dX13_hasHeight_17 : decode cX13_hasHeight 17 = .ok (.aload_n 0, 1) := by decide +kernel
theorem dX13_hasHeight_18 : decode cX13_hasHeight 18 = .ok (.invokevirtual 172, 3) := by decide +kernel
theorem dX13_hasHeight_21 : decode cX13_hasHeight 21 = .ok (.aload_n 0, 1) := by decide +kernel
theorem dX13_hasHeight_22 : decode cX13_hasHeight 22 = .ok (.getfield 61, 3) := by decide +kernel
theorem dX13_hasHeight_25 : decode cX13_hasHeight 25 = .ok (.ifCond .ne 15, 3) := by decide +kernel
theorem dX13_hasHeight_28 : decode cX13_hasHeight 28 = .ok (.aload_n 0, 1) := by decide +kernel
theorem dX13_hasHeight_29 : decode cX13_hasHeight 29 = .ok (.iload_n 1, 1) := by decide +kernel
theorem dX13_hasHeight_30 : decode cX13_hasHeight 30 = .ok (.invokevirtual 208, 3) := by decide +kernel
theorem dX13_hasHeight_33 : decode cX13_hasHeight 33 = .ok (.ifCond .eq 7, 3) := by decide +kernel
theorem dX13_hasHeight_36 : decode cX13_hasHeight 36 = .ok (.iconst 1, 1) := by decide +kernel
theorem dX13_hasHeight_37 : decode cX13_hasHeight 37 = .ok (.goto 4, 3) := by decide +kernel
theorem dX13_hasHeight_40 : decode cX13_hasHeight 40 = .ok (.iconst 0, 1) := by decide +kernel
theorem dX13_hasHeight_41 : decode cX13_hasHeight 41 = .ok (.ireturn, 1) := by decide +kernel
theorem dX13_height_0 : decode cX13_height 0 = .ok (.aload_n 0, 1) := by decide +kernel
theorem dX13_height_1 : decode cX13_height 1 = .ok (.iload_n 1, 1) := by decide +kernel
theorem dX13_height_2 : decode cX13_height 2 = .ok (.invokevirtual 145, 3) := by decide +kernel
theorem dX13_height_5 : decode cX13_height 5 = .ok (.ifCond .ne 9, 3) := by decide +kernel
theorem dX13_height_8 : decode cX13_height 8 = .ok (.aload_n 0, 1) := by decide +kernel
theorem dX13_height_9 : decode cX13_height 9 = .ok (.iconst 1, 1) := by decide +kernel
theorem dX13_height_10 : decode cX13_height 10 = .ok (.invokevirtual 130, 3) := by decide +kernel
theorem dX13_height_13 : decode cX13_height 13 = .ok (.ireturn, 1) := by decide +kernel
theorem dX13_height_14 : decode cX13_height 14 = .ok (.aload_n 0, 1) := by decide +kernel
theorem dX13_height_15 : decode cX13_height 15 = .ok (.invokevirtual 172, 3) := by decide +kernel
theorem dX13_height_18 : decode cX13_height 18 = .ok (.aload_n 0, 1) := by decide +kernel
theorem dX13_height_19 : decode cX13_height 19 = .ok (.iload_n 1, 1) := by decide +kernel
theorem dX13_height_20 : decode cX13_height 20 = .ok (.invokevirtual 208, 3) := by decide +kernel
theorem dX13_height_23 : decode cX13_height 23 = .ok (.ifCond .eq 15, 3) := by decide +kernel
theorem dX13_height_26 : decode cX13_height 26 = .ok (.aload_n 0, 1) := by decide +kernel
theorem dX13_height_27 : decode cX13_height 27 = .ok (.aload_n 0, 1) := by decide +kernel
theorem dX13_height_28 : decode cX13_height 28 = .ok (.iload_n 1, 1) := by decide +kernel
theorem dX13_height_29 : decode cX13_height 29 = .ok (.invokevirtual 211, 3) := by decide +kernel
theorem dX13_height_32 : decode cX13_height 32 = .ok (.invokevirtual 133, 3) := by decide +kernel
theorem dX13_height_35 : decode cX13_height 35 = .ok (.goto 8, 3) := by decide +kernel
theorem dX13_height_38 : decode cX13_height 38 = .ok (.aload_n 0, 1) := by decide +kernel
theorem dX13_height_39 : decode cX13_height 39 = .ok (.iconst 2, 1) := by decide +kernel
theorem dX13_height_40 : decode cX13_height 40 = .ok (.invokevirtual 130, 3) := by decide +kernel
theorem dX13_height_43 : decode cX13_height 43 = .ok (.ireturn, 1) := by decide +kernel
theorem dX13_heightByRounds_0 : decode cX13_heightByRounds 0 = .ok (.aload_n 0, 1) := by decide +kernel
theorem dX13_heightByRounds_1 : decode cX13_heightByRounds 1 = .ok (.iload_n 1, 1) := by decide +kernel
theorem dX13_heightByRounds_2 : decode cX13_heightByRounds 2 = .ok (.invokevirtual 214, 3) := by decide +kernel
theorem dX13_heightByRounds_5 : decode cX13_heightByRounds 5 = .ok (.ireturn, 1) := by decide +kernel
theorem dX13_closingError_0 : decode cX13_closingError 0 = .ok (.aload_n 0, 1) := by decide +kernel
theorem dX13_closingError_1 : decode cX13_closingError 1 = .ok (.iload_n 1, 1) := by decide +kernel
theorem dX13_closingError_2 : decode cX13_closingError 2 = .ok (.invokevirtual 145, 3) := by decide +kernel
theorem dX13_closingError_5 : decode cX13_closingError 5 = .ok (.ifCond .ne 9, 3) := by decide +kernel
theorem dX13_closingError_8 : decode cX13_closingError 8 = .ok (.aload_n 0, 1) := by decide +kernel
theorem dX13_closingError_9 : decode cX13_closingError 9 = .ok (.iconst 1, 1) := by decide +kernel
theorem dX13_closingError_10 : decode cX13_closingError 10 = .ok (.invokevirtual 130, 3) := by decide +kernel
theorem dX13_closingError_13 : decode cX13_closingError 13 = .ok (.ireturn, 1) := by decide +kernel
theorem dX13_closingError_14 : decode cX13_closingError 14 = .ok (.aload_n 0, 1) := by decide +kernel
theorem dX13_closingError_15 : decode cX13_closingError 15 = .ok (.getfield 7, 3) := by decide +kernel
theorem dX13_closingError_18 : decode cX13_closingError 18 = .ok (.iconst 4, 1) := by decide +kernel
theorem dX13_closingError_19 : decode cX13_closingError 19 = .ok (.iload_n 1, 1) := by decide +kernel
theorem dX13_closingError_20 : decode cX13_closingError 20 = .ok (.iadd, 1) := by decide +kernel
theorem dX13_closingError_21 : decode cX13_closingError 21 = .ok (.iaload, 1) := by decide +kernel
theorem dX13_closingError_22 : decode cX13_closingError 22 = .ok (.ifCond .ne 9, 3) := by decide +kernel
theorem dX13_closingError_25 : decode cX13_closingError 25 = .ok (.aload_n 0, 1) := by decide +kernel
theorem dX13_closingError_26 : decode cX13_closingError 26 = .ok (.iconst 2, 1) := by decide +kernel
theorem dX13_closingError_27 : decode cX13_closingError 27 = .ok (.invokevirtual 130, 3) := by decide +kernel
theorem dX13_closingError_30 : decode cX13_closingError 30 = .ok (.ireturn, 1) := by decide +kernel
theorem dX13_closingError_31 : decode cX13_closingError 31 = .ok (.aload_n 0, 1) := by decide +kernel
theorem dX13_closingError_32 : decode cX13_closingError 32 = .ok (.invokevirtual 172, 3) := by decide +kernel
theorem dX13_closingError_35 : decode cX13_closingError 35 = .ok (.aload_n 0, 1) := by decide +kernel
theorem dX13_closingError_36 : decode cX13_closingError 36 = .ok (.aload_n 0, 1) := by decide +kernel
theorem dX13_closingError_37 : decode cX13_closingError 37 = .ok (.iload_n 1, 1) := by decide +kernel
theorem dX13_closingError_38 : decode cX13_closingError 38 = .ok (.invokevirtual 113, 3) := by decide +kernel
theorem dX13_closingError_41 : decode cX13_closingError 41 = .ok (.aload_n 0, 1) := by decide +kernel
theorem dX13_closingError_42 : decode cX13_closingError 42 = .ok (.getfield 7, 3) := by decide +kernel
theorem dX13_closingError_45 : decode cX13_closingError 45 = .ok (.bipush 14, 2) := by decide +kernel
theorem dX13_closingError_47 : decode cX13_closingError 47 = .ok (.iload_n 1, 1) := by decide +kernel
theorem dX13_closingError_48 : decode cX13_closingError 48 = .ok (.iadd, 1) := by decide +kernel
theorem dX13_closingError_49 : decode cX13_closingError 49 = .ok (.iaload, 1) := by decide +kernel
theorem dX13_closingError_50 : decode cX13_closingError 50 = .ok (.isub, 1) := by decide +kernel
theorem dX13_closingError_51 : decode cX13_closingError 51 = .ok (.invokevirtual 133, 3) := by decide +kernel
theorem dX13_closingError_54 : decode cX13_closingError 54 = .ok (.ireturn, 1) := by decide +kernel
theorem dX13_datum_0 : decode cX13_datum 0 = .ok (.aload_n 0, 1) := by decide +kernel
theorem dX13_datum_1 : decode cX13_datum 1 = .ok (.iload_n 1, 1) := by decide +kernel
theorem dX13_datum_2 : decode cX13_datum 2 = .ok (.invokevirtual 145, 3) := by decide +kernel
theorem dX13_datum_5 : decode cX13_datum 5 = .ok (.ifCond .ne 9, 3) := by decide +kernel
theorem dX13_datum_8 : decode cX13_datum 8 = .ok (.aload_n 0, 1) := by decide +kernel
theorem dX13_datum_9 : decode cX13_datum 9 = .ok (.iconst 1, 1) := by decide +kernel
theorem dX13_datum_10 : decode cX13_datum 10 = .ok (.invokevirtual 130, 3) := by decide +kernel
theorem dX13_datum_13 : decode cX13_datum 13 = .ok (.ireturn, 1) := by decide +kernel
theorem dX13_datum_14 : decode cX13_datum 14 = .ok (.aload_n 0, 1) := by decide +kernel
theorem dX13_datum_15 : decode cX13_datum 15 = .ok (.invokevirtual 172, 3) := by decide +kernel
theorem dX13_datum_18 : decode cX13_datum 18 = .ok (.aload_n 0, 1) := by decide +kernel
theorem dX13_datum_19 : decode cX13_datum 19 = .ok (.iload_n 1, 1) := by decide +kernel
theorem dX13_datum_20 : decode cX13_datum 20 = .ok (.invokevirtual 208, 3) := by decide +kernel
theorem dX13_datum_23 : decode cX13_datum 23 = .ok (.ifCond .eq 15, 3) := by decide +kernel
theorem dX13_datum_26 : decode cX13_datum 26 = .ok (.aload_n 0, 1) := by decide +kernel
theorem dX13_datum_27 : decode cX13_datum 27 = .ok (.aload_n 0, 1) := by decide +kernel
theorem dX13_datum_28 : decode cX13_datum 28 = .ok (.iload_n 1, 1) := by decide +kernel
theorem dX13_datum_29 : decode cX13_datum 29 = .ok (.invokevirtual 110, 3) := by decide +kernel
theorem dX13_datum_32 : decode cX13_datum 32 = .ok (.invokevirtual 133, 3) := by decide +kernel
theorem dX13_datum_35 : decode cX13_datum 35 = .ok (.goto 8, 3) := by decide +kernel
theorem dX13_datum_38 : decode cX13_datum 38 = .ok (.aload_n 0, 1) := by decide +kernel
theorem dX13_datum_39 : decode cX13_datum 39 = .ok (.iconst 2, 1) := by decide +kernel
theorem dX13_datum_40 : decode cX13_datum 40 = .ok (.invokevirtual 130, 3) := by decide +kernel
theorem dX13_datum_43 : decode cX13_datum 43 = .ok (.ireturn, 1) := by decide +kernel
theorem dX13_isAbove_0 : decode cX13_isAbove 0 = .ok (.aload_n 0, 1) := by decide +kernel
theorem dX13_isAbove_1 : decode cX13_isAbove 1 = .ok (.iload_n 1, 1) := by decide +kernel
theorem dX13_isAbove_2 : decode cX13_isAbove 2 = .ok (.invokevirtual 211, 3) := by decide +kernel
theorem dX13_isAbove_5 : decode cX13_isAbove 5 = .ok (.aload_n 0, 1) := by decide +kernel
theorem dX13_isAbove_6 : decode cX13_isAbove 6 = .ok (.iload_n 2, 1) := by decide +kernel
theorem dX13_isAbove_7 : decode cX13_isAbove 7 = .ok (.invokevirtual 211, 3) := by decide +kernel
theorem dX13_isAbove_10 : decode cX13_isAbove 10 = .ok (.isub, 1) := by decide +kernel
theorem dX13_isAbove_11 : decode cX13_isAbove 11 = .ok (.istore_n 3, 1) := by decide +kernel
theorem dX13_isAbove_12 : decode cX13_isAbove 12 = .ok (.iload_n 3, 1) := by decide +kernel
theorem dX13_isAbove_13 : decode cX13_isAbove 13 = .ok (.ifCond .gt 12, 3) := by decide +kernel
theorem dX13_isAbove_16 : decode cX13_isAbove 16 = .ok (.iload_n 3, 1) := by decide +kernel
theorem dX13_isAbove_17 : decode cX13_isAbove 17 = .ok (.ifCond .ne 12, 3) := by decide +kernel
theorem dX13_isAbove_20 : decode cX13_isAbove 20 = .ok (.iload_n 1, 1) := by decide +kernel
theorem dX13_isAbove_21 : decode cX13_isAbove 21 = .ok (.iload_n 2, 1) := by decide +kernel
theorem dX13_isAbove_22 : decode cX13_isAbove 22 = .ok (.if_icmp .ge 7, 3) := by decide +kernel
theorem dX13_isAbove_25 : decode cX13_isAbove 25 = .ok (.iconst 1, 1) := by decide +kernel
theorem dX13_isAbove_26 : decode cX13_isAbove 26 = .ok (.goto 4, 3) := by decide +kernel
theorem dX13_isAbove_29 : decode cX13_isAbove 29 = .ok (.iconst 0, 1) := by decide +kernel
theorem dX13_isAbove_30 : decode cX13_isAbove 30 = .ok (.ireturn, 1) := by decide +kernel
theorem dX13_benchmarkByHeight_0 : decode cX13_benchmarkByHeight 0 = .ok (.aload_n 0, 1) := by decide +kernel
theorem dX13_benchmarkByHeight_1 : decode cX13_benchmarkByHeight 1 = .ok (.invokevirtual 172, 3) := by decide +kernel
theorem dX13_benchmarkByHeight_4 : decode cX13_benchmarkByHeight 4 = .ok (.iconst 0, 1) := by decide +kernel
theorem dX13_benchmarkByHeight_5 : decode cX13_benchmarkByHeight 5 = .ok (.istore_n 2, 1) := by decide +kernel
theorem dX13_benchmarkByHeight_6 : decode cX13_benchmarkByHeight 6 = .ok (.iload_n 2, 1) := by decide +kernel
theorem dX13_benchmarkByHeight_7 : decode cX13_benchmarkByHeight 7 = .ok (.aload_n 0, 1) := by decide +kernel
theorem dX13_benchmarkByHeight_8 : decode cX13_benchmarkByHeight 8 = .ok (.getfield 7, 3) := by decide +kernel
theorem dX13_benchmarkByHeight_11 : decode cX13_benchmarkByHeight 11 = .ok (.iconst 0, 1) := by decide +kernel
theorem dX13_benchmarkByHeight_12 : decode cX13_benchmarkByHeight 12 = .ok (.iaload, 1) := by decide +kernel
theorem dX13_benchmarkByHeight_13 : decode cX13_benchmarkByHeight 13 = .ok (.if_icmp .ge 85, 3) := by decide +kernel
theorem dX13_benchmarkByHeight_16 : decode cX13_benchmarkByHeight 16 = .ok (.iconst 0, 1) := by decide +kernel
theorem dX13_benchmarkByHeight_17 : decode cX13_benchmarkByHeight 17 = .ok (.istore_n 3, 1) := by decide +kernel
theorem dX13_benchmarkByHeight_18 : decode cX13_benchmarkByHeight 18 = .ok (.iconst 0, 1) := by decide +kernel
theorem dX13_benchmarkByHeight_19 : decode cX13_benchmarkByHeight 19 = .ok (.istore 4, 2) := by decide +kernel
theorem dX13_benchmarkByHeight_21 : decode cX13_benchmarkByHeight 21 = .ok (.iload 4, 2) := by decide +kernel
theorem dX13_benchmarkByHeight_23 : decode cX13_benchmarkByHeight 23 = .ok (.aload_n 0, 1) := by decide +kernel
theorem dX13_benchmarkByHeight_24 : decode cX13_benchmarkByHeight 24 = .ok (.getfield 7, 3) := by decide +kernel
theorem dX13_benchmarkByHeight_27 : decode cX13_benchmarkByHeight 27 = .ok (.iconst 0, 1) := by decide +kernel
theorem dX13_benchmarkByHeight_28 : decode cX13_benchmarkByHeight 28 = .ok (.iaload, 1) := by decide +kernel
theorem dX13_benchmarkByHeight_29 : decode cX13_benchmarkByHeight 29 = .ok (.if_icmp .ge 44, 3) := by decide +kernel
theorem dX13_benchmarkByHeight_32 : decode cX13_benchmarkByHeight 32 = .ok (.aload_n 0, 1) := by decide +kernel
theorem dX13_benchmarkByHeight_33 : decode cX13_benchmarkByHeight 33 = .ok (.iload_n 2, 1) := by decide +kernel
theorem dX13_benchmarkByHeight_34 : decode cX13_benchmarkByHeight 34 = .ok (.invokevirtual 208, 3) := by decide +kernel
theorem dX13_benchmarkByHeight_37 : decode cX13_benchmarkByHeight 37 = .ok (.ifCond .eq 36, 3) := by decide +kernel
theorem dX13_benchmarkByHeight_40 : decode cX13_benchmarkByHeight 40 = .ok (.iload_n 3, 1) := by decide +kernel
theorem dX13_benchmarkByHeight_41 : decode cX13_benchmarkByHeight 41 = .ok (.aload_n 0, 1) := by decide +kernel
theorem dX13_benchmarkByHeight_42 : decode cX13_benchmarkByHeight 42 = .ok (.iload 4, 2) := by decide +kernel
theorem dX13_benchmarkByHeight_44 : decode cX13_benchmarkByHeight 44 = .ok (.invokevirtual 208, 3) := by decide +kernel
theorem dX13_benchmarkByHeight_47 : decode cX13_benchmarkByHeight 47 = .ok (.ifCond .eq 17, 3) := by decide +kernel
theorem dX13_benchmarkByHeight_50 : decode cX13_benchmarkByHeight 50 = .ok (.aload_n 0, 1) := by decide +kernel
theorem dX13_benchmarkByHeight_51 : decode cX13_benchmarkByHeight 51 = .ok (.iload 4, 2) := by decide +kernel
theorem dX13_benchmarkByHeight_53 : decode cX13_benchmarkByHeight 53 = .ok (.iload_n 2, 1) := by decide +kernel
theorem dX13_benchmarkByHeight_54 : decode cX13_benchmarkByHeight 54 = .ok (.invokevirtual 217, 3) := by decide +kernel
theorem dX13_benchmarkByHeight_57 : decode cX13_benchmarkByHeight 57 = .ok (.ifCond .eq 7, 3) := by decide +kernel
theorem dX13_benchmarkByHeight_60 : decode cX13_benchmarkByHeight 60 = .ok (.iconst 1, 1) := by decide +kernel
theorem dX13_benchmarkByHeight_61 : decode cX13_benchmarkByHeight 61 = .ok (.goto 4, 3) := by decide +kernel
theorem dX13_benchmarkByHeight_64 : decode cX13_benchmarkByHeight 64 = .ok (.iconst 0, 1) := by decide +kernel
theorem dX13_benchmarkByHeight_65 : decode cX13_benchmarkByHeight 65 = .ok (.iadd, 1) := by decide +kernel
theorem dX13_benchmarkByHeight_66 : decode cX13_benchmarkByHeight 66 = .ok (.istore_n 3, 1) := by decide +kernel
theorem dX13_benchmarkByHeight_67 : decode cX13_benchmarkByHeight 67 = .ok (.iinc 4 1, 3) := by decide +kernel
theorem dX13_benchmarkByHeight_70 : decode cX13_benchmarkByHeight 70 = .ok (.goto (-49), 3) := by decide +kernel
theorem dX13_benchmarkByHeight_73 : decode cX13_benchmarkByHeight 73 = .ok (.aload_n 0, 1) := by decide +kernel
theorem dX13_benchmarkByHeight_74 : decode cX13_benchmarkByHeight 74 = .ok (.iload_n 2, 1) := by decide +kernel
theorem dX13_benchmarkByHeight_75 : decode cX13_benchmarkByHeight 75 = .ok (.invokevirtual 208, 3) := by decide +kernel
theorem dX13_benchmarkByHeight_78 : decode cX13_benchmarkByHeight 78 = .ok (.ifCond .eq 14, 3) := by decide +kernel
theorem dX13_benchmarkByHeight_81 : decode cX13_benchmarkByHeight 81 = .ok (.iload_n 3, 1) := by decide +kernel
theorem dX13_benchmarkByHeight_82 : decode cX13_benchmarkByHeight 82 = .ok (.iload_n 1, 1) := by decide +kernel
theorem dX13_benchmarkByHeight_83 : decode cX13_benchmarkByHeight 83 = .ok (.if_icmp .ne 9, 3) := by decide +kernel
theorem dX13_benchmarkByHeight_86 : decode cX13_benchmarkByHeight 86 = .ok (.aload_n 0, 1) := by decide +kernel
theorem dX13_benchmarkByHeight_87 : decode cX13_benchmarkByHeight 87 = .ok (.iload_n 2, 1) := by decide +kernel
theorem dX13_benchmarkByHeight_88 : decode cX13_benchmarkByHeight 88 = .ok (.invokevirtual 133, 3) := by decide +kernel
theorem dX13_benchmarkByHeight_91 : decode cX13_benchmarkByHeight 91 = .ok (.ireturn, 1) := by decide +kernel
theorem dX13_benchmarkByHeight_92 : decode cX13_benchmarkByHeight 92 = .ok (.iinc 2 1, 3) := by decide +kernel
theorem dX13_benchmarkByHeight_95 : decode cX13_benchmarkByHeight 95 = .ok (.goto (-89), 3) := by decide +kernel
theorem dX13_benchmarkByHeight_98 : decode cX13_benchmarkByHeight 98 = .ok (.aload_n 0, 1) := by decide +kernel
theorem dX13_benchmarkByHeight_99 : decode cX13_benchmarkByHeight 99 = .ok (.iconst 1, 1) := by decide +kernel
theorem dX13_benchmarkByHeight_100 : decode cX13_benchmarkByHeight 100 = .ok (.invokevirtual 130, 3) := by decide +kernel
theorem dX13_benchmarkByHeight_103 : decode cX13_benchmarkByHeight 103 = .ok (.ireturn, 1) := by decide +kernel
theorem dX13_lineCount_0 : decode cX13_lineCount 0 = .ok (.aload_n 0, 1) := by decide +kernel
theorem dX13_lineCount_1 : decode cX13_lineCount 1 = .ok (.aload_n 0, 1) := by decide +kernel
theorem dX13_lineCount_2 : decode cX13_lineCount 2 = .ok (.getfield 7, 3) := by decide +kernel
theorem dX13_lineCount_5 : decode cX13_lineCount 5 = .ok (.iconst 1, 1) := by decide +kernel
theorem dX13_lineCount_6 : decode cX13_lineCount 6 = .ok (.iaload, 1) := by decide +kernel
theorem dX13_lineCount_7 : decode cX13_lineCount 7 = .ok (.invokevirtual 133, 3) := by decide +kernel
theorem dX13_lineCount_10 : decode cX13_lineCount 10 = .ok (.ireturn, 1) := by decide +kernel
theorem dX13_lineNumber_0 : decode cX13_lineNumber 0 = .ok (.aload_n 0, 1) := by decide +kernel
theorem dX13_lineNumber_1 : decode cX13_lineNumber 1 = .ok (.iload_n 2, 1) := by decide +kernel
theorem dX13_lineNumber_2 : decode cX13_lineNumber 2 = .ok (.invokevirtual 160, 3) := by decide +kernel
theorem dX13_lineNumber_5 : decode cX13_lineNumber 5 = .ok (.ifCond .eq 18, 3) := by decide +kernel
theorem dX13_lineNumber_8 : decode cX13_lineNumber 8 = .ok (.aload_n 0, 1) := by decide +kernel
theorem dX13_lineNumber_9 : decode cX13_lineNumber 9 = .ok (.aload_n 0, 1) := by decide +kernel
theorem dX13_lineNumber_10 : decode cX13_lineNumber 10 = .ok (.getfield 7, 3) := by decide +kernel
theorem dX13_lineNumber_13 : decode cX13_lineNumber 13 = .ok (.iload_n 1, 1) := by decide +kernel
theorem dX13_lineNumber_14 : decode cX13_lineNumber 14 = .ok (.iload_n 2, 1) := by decide +kernel
theorem dX13_lineNumber_15 : decode cX13_lineNumber 15 = .ok (.iadd, 1) := by decide +kernel
theorem dX13_lineNumber_16 : decode cX13_lineNumber 16 = .ok (.iaload, 1) := by decide +kernel
theorem dX13_lineNumber_17 : decode cX13_lineNumber 17 = .ok (.invokevirtual 133, 3) := by decide +kernel
theorem dX13_lineNumber_20 : decode cX13_lineNumber 20 = .ok (.goto 8, 3) := by decide +kernel
theorem dX13_lineNumber_23 : decode cX13_lineNumber 23 = .ok (.aload_n 0, 1) := by decide +kernel
theorem dX13_lineNumber_24 : decode cX13_lineNumber 24 = .ok (.iconst 1, 1) := by decide +kernel
theorem dX13_lineNumber_25 : decode cX13_lineNumber 25 = .ok (.invokevirtual 130, 3) := by decide +kernel
theorem dX13_lineNumber_28 : decode cX13_lineNumber 28 = .ok (.ireturn, 1) := by decide +kernel
theorem dX13_firstOf_0 : decode cX13_firstOf 0 = .ok (.aload_n 0, 1) := by decide +kernel
theorem dX13_firstOf_1 : decode cX13_firstOf 1 = .ok (.bipush 24, 2) := by decide +kernel
theorem dX13_firstOf_3 : decode cX13_firstOf 3 = .ok (.iload_n 1, 1) := by decide +kernel
theorem dX13_firstOf_4 : decode cX13_firstOf 4 = .ok (.invokevirtual 221, 3) := by decide +kernel
theorem dX13_firstOf_7 : decode cX13_firstOf 7 = .ok (.ireturn, 1) := by decide +kernel
theorem dX13_secondOf_0 : decode cX13_secondOf 0 = .ok (.aload_n 0, 1) := by decide +kernel
theorem dX13_secondOf_1 : decode cX13_secondOf 1 = .ok (.bipush 40, 2) := by decide +kernel
theorem dX13_secondOf_3 : decode cX13_secondOf 3 = .ok (.iload_n 1, 1) := by decide +kernel
theorem dX13_secondOf_4 : decode cX13_secondOf 4 = .ok (.invokevirtual 221, 3) := by decide +kernel
theorem dX13_secondOf_7 : decode cX13_secondOf 7 = .ok (.ireturn, 1) := by decide +kernel
theorem dX13_lengthOf_0 : decode cX13_lengthOf 0 = .ok (.aload_n 0, 1) := by decide +kernel
theorem dX13_lengthOf_1 : decode cX13_lengthOf 1 = .ok (.bipush 56, 2) := by decide +kernel
theorem dX13_lengthOf_3 : decode cX13_lengthOf 3 = .ok (.iload_n 1, 1) := by decide +kernel
theorem dX13_lengthOf_4 : decode cX13_lengthOf 4 = .ok (.invokevirtual 221, 3) := by decide +kernel
theorem dX13_lengthOf_7 : decode cX13_lengthOf 7 = .ok (.ireturn, 1) := by decide +kernel
theorem dX13_levelledDifference_0 : decode cX13_levelledDifference 0 = .ok (.aload_n 0, 1) := by decide +kernel
theorem dX13_levelledDifference_1 : decode cX13_levelledDifference 1 = .ok (.iload_n 1, 1) := by decide +kernel
theorem dX13_levelledDifference_2 : decode cX13_levelledDifference 2 = .ok (.invokevirtual 160, 3) := by decide +kernel
theorem dX13_levelledDifference_5 : decode cX13_levelledDifference 5 = .ok (.ifCond .eq 15, 3) := by decide +kernel
theorem dX13_levelledDifference_8 : decode cX13_levelledDifference 8 = .ok (.aload_n 0, 1) := by decide +kernel
theorem dX13_levelledDifference_9 : decode cX13_levelledDifference 9 = .ok (.aload_n 0, 1) := by decide +kernel
theorem dX13_levelledDifference_10 : decode cX13_levelledDifference 10 = .ok (.iload_n 1, 1) := by decide +kernel
theorem dX13_levelledDifference_11 : decode cX13_levelledDifference 11 = .ok (.invokevirtual 93, 3) := by decide +kernel
theorem dX13_levelledDifference_14 : decode cX13_levelledDifference 14 = .ok (.invokevirtual 133, 3) := by decide +kernel
theorem dX13_levelledDifference_17 : decode cX13_levelledDifference 17 = .ok (.goto 8, 3) := by decide +kernel
theorem dX13_levelledDifference_20 : decode cX13_levelledDifference 20 = .ok (.aload_n 0, 1) := by decide +kernel
theorem dX13_levelledDifference_21 : decode cX13_levelledDifference 21 = .ok (.iconst 1, 1) := by decide +kernel
theorem dX13_levelledDifference_22 : decode cX13_levelledDifference 22 = .ok (.invokevirtual 130, 3) := by decide +kernel
theorem dX13_levelledDifference_25 : decode cX13_levelledDifference 25 = .ok (.ireturn, 1) := by decide +kernel
theorem dX13_correction_0 : decode cX13_correction 0 = .ok (.aload_n 0, 1) := by decide +kernel
theorem dX13_correction_1 : decode cX13_correction 1 = .ok (.sipush 136, 3) := by decide +kernel
theorem dX13_correction_4 : decode cX13_correction 4 = .ok (.iload_n 1, 1) := by decide +kernel
theorem dX13_correction_5 : decode cX13_correction 5 = .ok (.invokevirtual 221, 3) := by decide +kernel
theorem dX13_correction_8 : decode cX13_correction 8 = .ok (.ireturn, 1) := by decide +kernel
theorem dX13_discrepancy_0 : decode cX13_discrepancy 0 = .ok (.aload_n 0, 1) := by decide +kernel
theorem dX13_discrepancy_1 : decode cX13_discrepancy 1 = .ok (.iload_n 1, 1) := by decide +kernel
theorem dX13_discrepancy_2 : decode cX13_discrepancy 2 = .ok (.invokevirtual 160, 3) := by decide +kernel
theorem dX13_discrepancy_5 : decode cX13_discrepancy 5 = .ok (.ifCond .ne 9, 3) := by decide +kernel
theorem dX13_discrepancy_8 : decode cX13_discrepancy 8 = .ok (.aload_n 0, 1) := by decide +kernel
theorem dX13_discrepancy_9 : decode cX13_discrepancy 9 = .ok (.iconst 1, 1) := by decide +kernel
theorem dX13_discrepancy_10 : decode cX13_discrepancy 10 = .ok (.invokevirtual 130, 3) := by decide +kernel
theorem dX13_discrepancy_13 : decode cX13_discrepancy 13 = .ok (.ireturn, 1) := by decide +kernel
theorem dX13_discrepancy_14 : decode cX13_discrepancy 14 = .ok (.aload_n 0, 1) := by decide +kernel
theorem dX13_discrepancy_15 : decode cX13_discrepancy 15 = .ok (.getfield 7, 3) := by decide +kernel
theorem dX13_discrepancy_18 : decode cX13_discrepancy 18 = .ok (.bipush 88, 2) := by decide +kernel
theorem dX13_discrepancy_20 : decode cX13_discrepancy 20 = .ok (.iload_n 1, 1) := by decide +kernel
theorem dX13_discrepancy_21 : decode cX13_discrepancy 21 = .ok (.iadd, 1) := by decide +kernel
theorem dX13_discrepancy_22 : decode cX13_discrepancy 22 = .ok (.iaload, 1) := by decide +kernel
theorem dX13_discrepancy_23 : decode cX13_discrepancy 23 = .ok (.iconst 1, 1) := by decide +kernel
theorem dX13_discrepancy_24 : decode cX13_discrepancy 24 = .ok (.if_icmp .ne 15, 3) := by decide +kernel
theorem dX13_discrepancy_27 : decode cX13_discrepancy 27 = .ok (.aload_n 0, 1) := by decide +kernel
theorem dX13_discrepancy_28 : decode cX13_discrepancy 28 = .ok (.aload_n 0, 1) := by decide +kernel
theorem dX13_discrepancy_29 : decode cX13_discrepancy 29 = .ok (.iload_n 1, 1) := by decide +kernel
theorem dX13_discrepancy_30 : decode cX13_discrepancy 30 = .ok (.invokevirtual 75, 3) := by decide +kernel
theorem dX13_discrepancy_33 : decode cX13_discrepancy 33 = .ok (.invokevirtual 133, 3) := by decide +kernel
theorem dX13_discrepancy_36 : decode cX13_discrepancy 36 = .ok (.goto 8, 3) := by decide +kernel
theorem dX13_discrepancy_39 : decode cX13_discrepancy 39 = .ok (.aload_n 0, 1) := by decide +kernel
theorem dX13_discrepancy_40 : decode cX13_discrepancy 40 = .ok (.iconst 2, 1) := by decide +kernel
theorem dX13_discrepancy_41 : decode cX13_discrepancy 41 = .ok (.invokevirtual 130, 3) := by decide +kernel
theorem dX13_discrepancy_44 : decode cX13_discrepancy 44 = .ok (.ireturn, 1) := by decide +kernel
theorem dX13_isExcluded_0 : decode cX13_isExcluded 0 = .ok (.aload_n 0, 1) := by decide +kernel
theorem dX13_isExcluded_1 : decode cX13_isExcluded 1 = .ok (.bipush 120, 2) := by decide +kernel
theorem dX13_isExcluded_3 : decode cX13_isExcluded 3 = .ok (.iload_n 1, 1) := by decide +kernel
theorem dX13_isExcluded_4 : decode cX13_isExcluded 4 = .ok (.invokevirtual 221, 3) := by decide +kernel
theorem dX13_isExcluded_7 : decode cX13_isExcluded 7 = .ok (.iconst 1, 1) := by decide +kernel
theorem dX13_isExcluded_8 : decode cX13_isExcluded 8 = .ok (.if_icmp .ne 7, 3) := by decide +kernel
theorem dX13_isExcluded_11 : decode cX13_isExcluded 11 = .ok (.iconst 1, 1) := by decide +kernel
theorem dX13_isExcluded_12 : decode cX13_isExcluded 12 = .ok (.goto 4, 3) := by decide +kernel
theorem dX13_isExcluded_15 : decode cX13_isExcluded 15 = .ok (.iconst 0, 1) := by decide +kernel
theorem dX13_isExcluded_16 : decode cX13_isExcluded 16 = .ok (.ireturn, 1) := by decide +kernel
theorem dX13_isUsable_0 : decode cX13_isUsable 0 = .ok (.aload_n 0, 1) := by decide +kernel
theorem dX13_isUsable_1 : decode cX13_isUsable 1 = .ok (.aload_n 0, 1) := by decide +kernel
theorem dX13_isUsable_2 : decode cX13_isUsable 2 = .ok (.iload_n 1, 1) := by decide +kernel
theorem dX13_isUsable_3 : decode cX13_isUsable 3 = .ok (.invokevirtual 160, 3) := by decide +kernel
theorem dX13_isUsable_6 : decode cX13_isUsable 6 = .ok (.ifCond .eq 7, 3) := by decide +kernel
theorem dX13_isUsable_9 : decode cX13_isUsable 9 = .ok (.iconst 0, 1) := by decide +kernel
theorem dX13_isUsable_10 : decode cX13_isUsable 10 = .ok (.goto 4, 3) := by decide +kernel
theorem dX13_isUsable_13 : decode cX13_isUsable 13 = .ok (.iconst 1, 1) := by decide +kernel
theorem dX13_isUsable_14 : decode cX13_isUsable 14 = .ok (.putfield 61, 3) := by decide +kernel
theorem dX13_isUsable_17 : decode cX13_isUsable 17 = .ok (.aload_n 0, 1) := by decide +kernel
theorem dX13_isUsable_18 : decode cX13_isUsable 18 = .ok (.getfield 61, 3) := by decide +kernel
theorem dX13_isUsable_21 : decode cX13_isUsable 21 = .ok (.ifCond .ne 15, 3) := by decide +kernel
theorem dX13_isUsable_24 : decode cX13_isUsable 24 = .ok (.aload_n 0, 1) := by decide +kernel
theorem dX13_isUsable_25 : decode cX13_isUsable 25 = .ok (.iload_n 1, 1) := by decide +kernel
theorem dX13_isUsable_26 : decode cX13_isUsable 26 = .ok (.invokevirtual 85, 3) := by decide +kernel
theorem dX13_isUsable_29 : decode cX13_isUsable 29 = .ok (.ifCond .eq 7, 3) := by decide +kernel
theorem dX13_isUsable_32 : decode cX13_isUsable 32 = .ok (.iconst 1, 1) := by decide +kernel
theorem dX13_isUsable_33 : decode cX13_isUsable 33 = .ok (.goto 4, 3) := by decide +kernel
theorem dX13_isUsable_36 : decode cX13_isUsable 36 = .ok (.iconst 0, 1) := by decide +kernel
theorem dX13_isUsable_37 : decode cX13_isUsable 37 = .ok (.ireturn, 1) := by decide +kernel
theorem dX13_tolerance_0 : decode cX13_tolerance 0 = .ok (.iload_n 1, 1) := by decide +kernel
theorem dX13_tolerance_1 : decode cX13_tolerance 1 = .ok (.iconst 0, 1) := by decide +kernel
theorem dX13_tolerance_2 : decode cX13_tolerance 2 = .ok (.sipush 800, 3) := by decide +kernel
theorem dX13_tolerance_5 : decode cX13_tolerance 5 = .ok (.invokestatic 71, 3) := by decide +kernel
theorem dX13_tolerance_8 : decode cX13_tolerance 8 = .ok (.ifCond .eq 14, 3) := by decide +kernel
theorem dX13_tolerance_11 : decode cX13_tolerance 11 = .ok (.aload_n 0, 1) := by decide +kernel
theorem dX13_tolerance_12 : decode cX13_tolerance 12 = .ok (.iload_n 1, 1) := by decide +kernel
theorem dX13_tolerance_13 : decode cX13_tolerance 13 = .ok (.invokestatic 82, 3) := by decide +kernel
theorem dX13_tolerance_16 : decode cX13_tolerance 16 = .ok (.invokevirtual 133, 3) := by decide +kernel
theorem dX13_tolerance_19 : decode cX13_tolerance 19 = .ok (.goto 8, 3) := by decide +kernel
theorem dX13_tolerance_22 : decode cX13_tolerance 22 = .ok (.aload_n 0, 1) := by decide +kernel
theorem dX13_tolerance_23 : decode cX13_tolerance 23 = .ok (.iconst 1, 1) := by decide +kernel
theorem dX13_tolerance_24 : decode cX13_tolerance 24 = .ok (.invokevirtual 130, 3) := by decide +kernel
theorem dX13_tolerance_27 : decode cX13_tolerance 27 = .ok (.ireturn, 1) := by decide +kernel
theorem dX13_isWorse_0 : decode cX13_isWorse 0 = .ok (.aload_n 0, 1) := by decide +kernel
theorem dX13_isWorse_1 : decode cX13_isWorse 1 = .ok (.iload_n 1, 1) := by decide +kernel
theorem dX13_isWorse_2 : decode cX13_isWorse 2 = .ok (.invokevirtual 75, 3) := by decide +kernel
theorem dX13_isWorse_5 : decode cX13_isWorse 5 = .ok (.invokestatic 79, 3) := by decide +kernel
theorem dX13_isWorse_8 : decode cX13_isWorse 8 = .ok (.aload_n 0, 1) := by decide +kernel
theorem dX13_isWorse_9 : decode cX13_isWorse 9 = .ok (.iload_n 2, 1) := by decide +kernel
theorem dX13_isWorse_10 : decode cX13_isWorse 10 = .ok (.invokevirtual 75, 3) := by decide +kernel
theorem dX13_isWorse_13 : decode cX13_isWorse 13 = .ok (.invokestatic 79, 3) := by decide +kernel
theorem dX13_isWorse_16 : decode cX13_isWorse 16 = .ok (.isub, 1) := by decide +kernel
theorem dX13_isWorse_17 : decode cX13_isWorse 17 = .ok (.istore_n 3, 1) := by decide +kernel
theorem dX13_isWorse_18 : decode cX13_isWorse 18 = .ok (.iload_n 3, 1) := by decide +kernel
theorem dX13_isWorse_19 : decode cX13_isWorse 19 = .ok (.ifCond .gt 12, 3) := by decide +kernel
theorem dX13_isWorse_22 : decode cX13_isWorse 22 = .ok (.iload_n 3, 1) := by decide +kernel
theorem dX13_isWorse_23 : decode cX13_isWorse 23 = .ok (.ifCond .ne 12, 3) := by decide +kernel
theorem dX13_isWorse_26 : decode cX13_isWorse 26 = .ok (.iload_n 1, 1) := by decide +kernel
theorem dX13_isWorse_27 : decode cX13_isWorse 27 = .ok (.iload_n 2, 1) := by decide +kernel
theorem dX13_isWorse_28 : decode cX13_isWorse 28 = .ok (.if_icmp .ge 7, 3) := by decide +kernel
theorem dX13_isWorse_31 : decode cX13_isWorse 31 = .ok (.iconst 1, 1) := by decide +kernel
theorem dX13_isWorse_32 : decode cX13_isWorse 32 = .ok (.goto 4, 3) := by decide +kernel
theorem dX13_isWorse_35 : decode cX13_isWorse 35 = .ok (.iconst 0, 1) := by decide +kernel
theorem dX13_isWorse_36 : decode cX13_isWorse 36 = .ok (.ireturn, 1) := by decide +kernel
theorem dX13_lineByDiscrepancy_0 : decode cX13_lineByDiscrepancy 0 = .ok (.iconst 0, 1) := by decide +kernel
theorem dX13_lineByDiscrepancy_1 : decode cX13_lineByDiscrepancy 1 = .ok (.istore_n 2, 1) := by decide +kernel
theorem dX13_lineByDiscrepancy_2 : decode cX13_lineByDiscrepancy 2 = .ok (.iload_n 2, 1) := by decide +kernel
theorem dX13_lineByDiscrepancy_3 : decode cX13_lineByDiscrepancy 3 = .ok (.aload_n 0, 1) := by decide +kernel
theorem dX13_lineByDiscrepancy_4 : decode cX13_lineByDiscrepancy 4 = .ok (.getfield 7, 3) := by decide +kernel
theorem dX13_lineByDiscrepancy_7 : decode cX13_lineByDiscrepancy 7 = .ok (.iconst 1, 1) := by decide +kernel
theorem dX13_lineByDiscrepancy_8 : decode cX13_lineByDiscrepancy 8 = .ok (.iaload, 1) := by decide +kernel
theorem dX13_lineByDiscrepancy_9 : decode cX13_lineByDiscrepancy 9 = .ok (.if_icmp .ge 87, 3) := by decide +kernel
theorem dX13_lineByDiscrepancy_12 : decode cX13_lineByDiscrepancy 12 = .ok (.iconst 0, 1) := by decide +kernel
theorem dX13_lineByDiscrepancy_13 : decode cX13_lineByDiscrepancy 13 = .ok (.istore_n 3, 1) := by decide +kernel
theorem dX13_lineByDiscrepancy_14 : decode cX13_lineByDiscrepancy 14 = .ok (.iconst 0, 1) := by decide +kernel
theorem dX13_lineByDiscrepancy_15 : decode cX13_lineByDiscrepancy 15 = .ok (.istore 4, 2) := by decide +kernel
theorem dX13_lineByDiscrepancy_17 : decode cX13_lineByDiscrepancy 17 = .ok (.iload 4, 2) := by decide +kernel
theorem dX13_lineByDiscrepancy_19 : decode cX13_lineByDiscrepancy 19 = .ok (.aload_n 0, 1) := by decide +kernel
theorem dX13_lineByDiscrepancy_20 : decode cX13_lineByDiscrepancy 20 = .ok (.getfield 7, 3) := by decide +kernel
theorem dX13_lineByDiscrepancy_23 : decode cX13_lineByDiscrepancy 23 = .ok (.iconst 1, 1) := by decide +kernel
theorem dX13_lineByDiscrepancy_24 : decode cX13_lineByDiscrepancy 24 = .ok (.iaload, 1) := by decide +kernel
theorem dX13_lineByDiscrepancy_25 : decode cX13_lineByDiscrepancy 25 = .ok (.if_icmp .ge 41, 3) := by decide +kernel
theorem dX13_lineByDiscrepancy_28 : decode cX13_lineByDiscrepancy 28 = .ok (.iload_n 3, 1) := by decide +kernel
theorem dX13_lineByDiscrepancy_29 : decode cX13_lineByDiscrepancy 29 = .ok (.aload_n 0, 1) := by decide +kernel
theorem dX13_lineByDiscrepancy_30 : decode cX13_lineByDiscrepancy 30 = .ok (.getfield 7, 3) := by decide +kernel
theorem dX13_lineByDiscrepancy_33 : decode cX13_lineByDiscrepancy 33 = .ok (.bipush 88, 2) := by decide +kernel
theorem dX13_lineByDiscrepancy_35 : decode cX13_lineByDiscrepancy 35 = .ok (.iload 4, 2) := by decide +kernel
theorem dX13_lineByDiscrepancy_37 : decode cX13_lineByDiscrepancy 37 = .ok (.iadd, 1) := by decide +kernel
theorem dX13_lineByDiscrepancy_38 : decode cX13_lineByDiscrepancy 38 = .ok (.iaload, 1) := by decide +kernel
theorem dX13_lineByDiscrepancy_39 : decode cX13_lineByDiscrepancy 39 = .ok (.iconst 1, 1) := by decide +kernel
theorem dX13_lineByDiscrepancy_40 : decode cX13_lineByDiscrepancy 40 = .ok (.if_icmp .ne 17, 3) := by decide +kernel
theorem dX13_lineByDiscrepancy_43 : decode cX13_lineByDiscrepancy 43 = .ok (.aload_n 0, 1) := by decide +kernel
theorem dX13_lineByDiscrepancy_44 : decode cX13_lineByDiscrepancy 44 = .ok (.iload 4, 2) := by decide +kernel
theorem dX13_lineByDiscrepancy_46 : decode cX13_lineByDiscrepancy 46 = .ok (.iload_n 2, 1) := by decide +kernel
theorem dX13_lineByDiscrepancy_47 : decode cX13_lineByDiscrepancy 47 = .ok (.invokevirtual 224, 3) := by decide +kernel
theorem dX13_lineByDiscrepancy_50 : decode cX13_lineByDiscrepancy 50 = .ok (.ifCond .eq 7, 3) := by decide +kernel
theorem dX13_lineByDiscrepancy_53 : decode cX13_lineByDiscrepancy 53 = .ok (.iconst 1, 1) := by decide +kernel
theorem dX13_lineByDiscrepancy_54 : decode cX13_lineByDiscrepancy 54 = .ok (.goto 4, 3) := by decide +kernel
theorem dX13_lineByDiscrepancy_57 : decode cX13_lineByDiscrepancy 57 = .ok (.iconst 0, 1) := by decide +kernel
theorem dX13_lineByDiscrepancy_58 : decode cX13_lineByDiscrepancy 58 = .ok (.iadd, 1) := by decide +kernel
theorem dX13_lineByDiscrepancy_59 : decode cX13_lineByDiscrepancy 59 = .ok (.istore_n 3, 1) := by decide +kernel
theorem dX13_lineByDiscrepancy_60 : decode cX13_lineByDiscrepancy 60 = .ok (.iinc 4 1, 3) := by decide +kernel
theorem dX13_lineByDiscrepancy_63 : decode cX13_lineByDiscrepancy 63 = .ok (.goto (-46), 3) := by decide +kernel
theorem dX13_lineByDiscrepancy_66 : decode cX13_lineByDiscrepancy 66 = .ok (.aload_n 0, 1) := by decide +kernel
theorem dX13_lineByDiscrepancy_67 : decode cX13_lineByDiscrepancy 67 = .ok (.getfield 7, 3) := by decide +kernel
theorem dX13_lineByDiscrepancy_70 : decode cX13_lineByDiscrepancy 70 = .ok (.bipush 88, 2) := by decide +kernel
theorem dX13_lineByDiscrepancy_72 : decode cX13_lineByDiscrepancy 72 = .ok (.iload_n 2, 1) := by decide +kernel
theorem dX13_lineByDiscrepancy_73 : decode cX13_lineByDiscrepancy 73 = .ok (.iadd, 1) := by decide +kernel
theorem dX13_lineByDiscrepancy_74 : decode cX13_lineByDiscrepancy 74 = .ok (.iaload, 1) := by decide +kernel
theorem dX13_lineByDiscrepancy_75 : decode cX13_lineByDiscrepancy 75 = .ok (.iconst 1, 1) := by decide +kernel
theorem dX13_lineByDiscrepancy_76 : decode cX13_lineByDiscrepancy 76 = .ok (.if_icmp .ne 14, 3) := by decide +kernel
theorem dX13_lineByDiscrepancy_79 : decode cX13_lineByDiscrepancy 79 = .ok (.iload_n 3, 1) := by decide +kernel
theorem dX13_lineByDiscrepancy_80 : decode cX13_lineByDiscrepancy 80 = .ok (.iload_n 1, 1) := by decide +kernel
theorem dX13_lineByDiscrepancy_81 : decode cX13_lineByDiscrepancy 81 = .ok (.if_icmp .ne 9, 3) := by decide +kernel
theorem dX13_lineByDiscrepancy_84 : decode cX13_lineByDiscrepancy 84 = .ok (.aload_n 0, 1) := by decide +kernel
theorem dX13_lineByDiscrepancy_85 : decode cX13_lineByDiscrepancy 85 = .ok (.iload_n 2, 1) := by decide +kernel
theorem dX13_lineByDiscrepancy_86 : decode cX13_lineByDiscrepancy 86 = .ok (.invokevirtual 133, 3) := by decide +kernel
theorem dX13_lineByDiscrepancy_89 : decode cX13_lineByDiscrepancy 89 = .ok (.ireturn, 1) := by decide +kernel
theorem dX13_lineByDiscrepancy_90 : decode cX13_lineByDiscrepancy 90 = .ok (.iinc 2 1, 3) := by decide +kernel
theorem dX13_lineByDiscrepancy_93 : decode cX13_lineByDiscrepancy 93 = .ok (.goto (-91), 3) := by decide +kernel
theorem dX13_lineByDiscrepancy_96 : decode cX13_lineByDiscrepancy 96 = .ok (.aload_n 0, 1) := by decide +kernel
theorem dX13_lineByDiscrepancy_97 : decode cX13_lineByDiscrepancy 97 = .ok (.iconst 1, 1) := by decide +kernel
theorem dX13_lineByDiscrepancy_98 : decode cX13_lineByDiscrepancy 98 = .ok (.invokevirtual 130, 3) := by decide +kernel
theorem dX13_lineByDiscrepancy_101 : decode cX13_lineByDiscrepancy 101 = .ok (.ireturn, 1) := by decide +kernel
theorem dX13_isInForest_0 : decode cX13_isInForest 0 = .ok (.aload_n 0, 1) := by decide +kernel
theorem dX13_isInForest_1 : decode cX13_isInForest 1 = .ok (.aload_n 0, 1) := by decide +kernel
theorem dX13_isInForest_2 : decode cX13_isInForest 2 = .ok (.iload_n 1, 1) := by decide +kernel
theorem dX13_isInForest_3 : decode cX13_isInForest 3 = .ok (.invokevirtual 160, 3) := by decide +kernel
theorem dX13_isInForest_6 : decode cX13_isInForest 6 = .ok (.ifCond .eq 7, 3) := by decide +kernel
theorem dX13_isInForest_9 : decode cX13_isInForest 9 = .ok (.iconst 0, 1) := by decide +kernel
theorem dX13_isInForest_10 : decode cX13_isInForest 10 = .ok (.goto 4, 3) := by decide +kernel
theorem dX13_isInForest_13 : decode cX13_isInForest 13 = .ok (.iconst 1, 1) := by decide +kernel
theorem dX13_isInForest_14 : decode cX13_isInForest 14 = .ok (.putfield 61, 3) := by decide +kernel
theorem dX13_isInForest_17 : decode cX13_isInForest 17 = .ok (.aload_n 0, 1) := by decide +kernel
theorem dX13_isInForest_18 : decode cX13_isInForest 18 = .ok (.invokevirtual 172, 3) := by decide +kernel
theorem dX13_isInForest_21 : decode cX13_isInForest 21 = .ok (.aload_n 0, 1) := by decide +kernel
theorem dX13_isInForest_22 : decode cX13_isInForest 22 = .ok (.getfield 61, 3) := by decide +kernel
theorem dX13_isInForest_25 : decode cX13_isInForest 25 = .ok (.ifCond .ne 17, 3) := by decide +kernel
theorem dX13_isInForest_28 : decode cX13_isInForest 28 = .ok (.aload_n 0, 1) := by decide +kernel
theorem dX13_isInForest_29 : decode cX13_isInForest 29 = .ok (.getfield 36, 3) := by decide +kernel
theorem dX13_isInForest_32 : decode cX13_isInForest 32 = .ok (.iload_n 1, 1) := by decide +kernel
theorem dX13_isInForest_33 : decode cX13_isInForest 33 = .ok (.iaload, 1) := by decide +kernel
theorem dX13_isInForest_34 : decode cX13_isInForest 34 = .ok (.iconst 1, 1) := by decide +kernel
theorem dX13_isInForest_35 : decode cX13_isInForest 35 = .ok (.if_icmp .ne 7, 3) := by decide +kernel
theorem dX13_isInForest_38 : decode cX13_isInForest 38 = .ok (.iconst 1, 1) := by decide +kernel
theorem dX13_isInForest_39 : decode cX13_isInForest 39 = .ok (.goto 4, 3) := by decide +kernel
theorem dX13_isInForest_42 : decode cX13_isInForest 42 = .ok (.iconst 0, 1) := by decide +kernel
theorem dX13_isInForest_43 : decode cX13_isInForest 43 = .ok (.ireturn, 1) := by decide +kernel
theorem dX13_forestLength_0 : decode cX13_forestLength 0 = .ok (.aload_n 0, 1) := by decide +kernel
theorem dX13_forestLength_1 : decode cX13_forestLength 1 = .ok (.invokevirtual 172, 3) := by decide +kernel
theorem dX13_forestLength_4 : decode cX13_forestLength 4 = .ok (.iconst 0, 1) := by decide +kernel
theorem dX13_forestLength_5 : decode cX13_forestLength 5 = .ok (.istore_n 1, 1) := by decide +kernel
theorem dX13_forestLength_6 : decode cX13_forestLength 6 = .ok (.iconst 0, 1) := by decide +kernel
theorem dX13_forestLength_7 : decode cX13_forestLength 7 = .ok (.istore_n 2, 1) := by decide +kernel
theorem dX13_forestLength_8 : decode cX13_forestLength 8 = .ok (.iload_n 2, 1) := by decide +kernel
theorem dX13_forestLength_9 : decode cX13_forestLength 9 = .ok (.aload_n 0, 1) := by decide +kernel
theorem dX13_forestLength_10 : decode cX13_forestLength 10 = .ok (.getfield 7, 3) := by decide +kernel
theorem dX13_forestLength_13 : decode cX13_forestLength 13 = .ok (.iconst 1, 1) := by decide +kernel
theorem dX13_forestLength_14 : decode cX13_forestLength 14 = .ok (.iaload, 1) := by decide +kernel
theorem dX13_forestLength_15 : decode cX13_forestLength 15 = .ok (.if_icmp .ge 28, 3) := by decide +kernel
theorem dX13_forestLength_18 : decode cX13_forestLength 18 = .ok (.iload_n 1, 1) := by decide +kernel
theorem dX13_forestLength_19 : decode cX13_forestLength 19 = .ok (.aload_n 0, 1) := by decide +kernel
theorem dX13_forestLength_20 : decode cX13_forestLength 20 = .ok (.getfield 36, 3) := by decide +kernel
theorem dX13_forestLength_23 : decode cX13_forestLength 23 = .ok (.iload_n 2, 1) := by decide +kernel
theorem dX13_forestLength_24 : decode cX13_forestLength 24 = .ok (.iaload, 1) := by decide +kernel
theorem dX13_forestLength_25 : decode cX13_forestLength 25 = .ok (.aload_n 0, 1) := by decide +kernel
theorem dX13_forestLength_26 : decode cX13_forestLength 26 = .ok (.getfield 7, 3) := by decide +kernel
theorem dX13_forestLength_29 : decode cX13_forestLength 29 = .ok (.bipush 56, 2) := by decide +kernel
theorem dX13_forestLength_31 : decode cX13_forestLength 31 = .ok (.iload_n 2, 1) := by decide +kernel
theorem dX13_forestLength_32 : decode cX13_forestLength 32 = .ok (.iadd, 1) := by decide +kernel
theorem dX13_forestLength_33 : decode cX13_forestLength 33 = .ok (.iaload, 1) := by decide +kernel
theorem dX13_forestLength_34 : decode cX13_forestLength 34 = .ok (.imul, 1) := by decide +kernel
theorem dX13_forestLength_35 : decode cX13_forestLength 35 = .ok (.iadd, 1) := by decide +kernel
theorem dX13_forestLength_36 : decode cX13_forestLength 36 = .ok (.istore_n 1, 1) := by decide +kernel
theorem dX13_forestLength_37 : decode cX13_forestLength 37 = .ok (.iinc 2 1, 3) := by decide +kernel
theorem dX13_forestLength_40 : decode cX13_forestLength 40 = .ok (.goto (-32), 3) := by decide +kernel
theorem dX13_forestLength_43 : decode cX13_forestLength 43 = .ok (.aload_n 0, 1) := by decide +kernel
theorem dX13_forestLength_44 : decode cX13_forestLength 44 = .ok (.iload_n 1, 1) := by decide +kernel
theorem dX13_forestLength_45 : decode cX13_forestLength 45 = .ok (.invokevirtual 133, 3) := by decide +kernel
theorem dX13_forestLength_48 : decode cX13_forestLength 48 = .ok (.ireturn, 1) := by decide +kernel
theorem dX13_forestLengthByGrowing_0 : decode cX13_forestLengthByGrowing 0 = .ok (.aload_n 0, 1) := by decide +kernel
theorem dX13_forestLengthByGrowing_1 : decode cX13_forestLengthByGrowing 1 = .ok (.invokevirtual 227, 3) := by decide +kernel
theorem dX13_forestLengthByGrowing_4 : decode cX13_forestLengthByGrowing 4 = .ok (.ireturn, 1) := by decide +kernel
theorem dX13_treeCount_0 : decode cX13_treeCount 0 = .ok (.aload_n 0, 1) := by decide +kernel
theorem dX13_treeCount_1 : decode cX13_treeCount 1 = .ok (.invokevirtual 172, 3) := by decide +kernel
theorem dX13_treeCount_4 : decode cX13_treeCount 4 = .ok (.iconst 0, 1) := by decide +kernel
theorem dX13_treeCount_5 : decode cX13_treeCount 5 = .ok (.istore_n 1, 1) := by decide +kernel
theorem dX13_treeCount_6 : decode cX13_treeCount 6 = .ok (.iconst 0, 1) := by decide +kernel
theorem dX13_treeCount_7 : decode cX13_treeCount 7 = .ok (.istore_n 2, 1) := by decide +kernel
theorem dX13_treeCount_8 : decode cX13_treeCount 8 = .ok (.iload_n 2, 1) := by decide +kernel
theorem dX13_treeCount_9 : decode cX13_treeCount 9 = .ok (.aload_n 0, 1) := by decide +kernel
theorem dX13_treeCount_10 : decode cX13_treeCount 10 = .ok (.getfield 7, 3) := by decide +kernel
theorem dX13_treeCount_13 : decode cX13_treeCount 13 = .ok (.iconst 0, 1) := by decide +kernel
theorem dX13_treeCount_14 : decode cX13_treeCount 14 = .ok (.iaload, 1) := by decide +kernel
theorem dX13_treeCount_15 : decode cX13_treeCount 15 = .ok (.if_icmp .ge 27, 3) := by decide +kernel
theorem dX13_treeCount_18 : decode cX13_treeCount 18 = .ok (.iload_n 1, 1) := by decide +kernel
theorem dX13_treeCount_19 : decode cX13_treeCount 19 = .ok (.aload_n 0, 1) := by decide +kernel
theorem dX13_treeCount_20 : decode cX13_treeCount 20 = .ok (.getfield 39, 3) := by decide +kernel
theorem dX13_treeCount_23 : decode cX13_treeCount 23 = .ok (.iload_n 2, 1) := by decide +kernel
theorem dX13_treeCount_24 : decode cX13_treeCount 24 = .ok (.iaload, 1) := by decide +kernel
theorem dX13_treeCount_25 : decode cX13_treeCount 25 = .ok (.iload_n 2, 1) := by decide +kernel
theorem dX13_treeCount_26 : decode cX13_treeCount 26 = .ok (.if_icmp .ne 7, 3) := by decide +kernel
theorem dX13_treeCount_29 : decode cX13_treeCount 29 = .ok (.iconst 1, 1) := by decide +kernel
theorem dX13_treeCount_30 : decode cX13_treeCount 30 = .ok (.goto 4, 3) := by decide +kernel
theorem dX13_treeCount_33 : decode cX13_treeCount 33 = .ok (.iconst 0, 1) := by decide +kernel
theorem dX13_treeCount_34 : decode cX13_treeCount 34 = .ok (.iadd, 1) := by decide +kernel
theorem dX13_treeCount_35 : decode cX13_treeCount 35 = .ok (.istore_n 1, 1) := by decide +kernel
theorem dX13_treeCount_36 : decode cX13_treeCount 36 = .ok (.iinc 2 1, 3) := by decide +kernel
theorem dX13_treeCount_39 : decode cX13_treeCount 39 = .ok (.goto (-31), 3) := by decide +kernel
theorem dX13_treeCount_42 : decode cX13_treeCount 42 = .ok (.aload_n 0, 1) := by decide +kernel
theorem dX13_treeCount_43 : decode cX13_treeCount 43 = .ok (.iload_n 1, 1) := by decide +kernel
theorem dX13_treeCount_44 : decode cX13_treeCount 44 = .ok (.invokevirtual 133, 3) := by decide +kernel
theorem dX13_treeCount_47 : decode cX13_treeCount 47 = .ok (.ireturn, 1) := by decide +kernel
theorem dX13_loopCount_0 : decode cX13_loopCount 0 = .ok (.aload_n 0, 1) := by decide +kernel
theorem dX13_loopCount_1 : decode cX13_loopCount 1 = .ok (.invokevirtual 172, 3) := by decide +kernel
theorem dX13_loopCount_4 : decode cX13_loopCount 4 = .ok (.iconst 0, 1) := by decide +kernel
theorem dX13_loopCount_5 : decode cX13_loopCount 5 = .ok (.istore_n 1, 1) := by decide +kernel
theorem dX13_loopCount_6 : decode cX13_loopCount 6 = .ok (.iconst 0, 1) := by decide +kernel
theorem dX13_loopCount_7 : decode cX13_loopCount 7 = .ok (.istore_n 2, 1) := by decide +kernel
theorem dX13_loopCount_8 : decode cX13_loopCount 8 = .ok (.iload_n 2, 1) := by decide +kernel
theorem dX13_loopCount_9 : decode cX13_loopCount 9 = .ok (.aload_n 0, 1) := by decide +kernel
theorem dX13_loopCount_10 : decode cX13_loopCount 10 = .ok (.getfield 7, 3) := by decide +kernel
theorem dX13_loopCount_13 : decode cX13_loopCount 13 = .ok (.iconst 1, 1) := by decide +kernel
theorem dX13_loopCount_14 : decode cX13_loopCount 14 = .ok (.iaload, 1) := by decide +kernel
theorem dX13_loopCount_15 : decode cX13_loopCount 15 = .ok (.if_icmp .ge 25, 3) := by decide +kernel
theorem dX13_loopCount_18 : decode cX13_loopCount 18 = .ok (.iload_n 1, 1) := by decide +kernel
theorem dX13_loopCount_19 : decode cX13_loopCount 19 = .ok (.aload_n 0, 1) := by decide +kernel
theorem dX13_loopCount_20 : decode cX13_loopCount 20 = .ok (.iload_n 2, 1) := by decide +kernel
theorem dX13_loopCount_21 : decode cX13_loopCount 21 = .ok (.invokevirtual 175, 3) := by decide +kernel
theorem dX13_loopCount_24 : decode cX13_loopCount 24 = .ok (.ifCond .eq 7, 3) := by decide +kernel
theorem dX13_loopCount_27 : decode cX13_loopCount 27 = .ok (.iconst 1, 1) := by decide +kernel
theorem dX13_loopCount_28 : decode cX13_loopCount 28 = .ok (.goto 4, 3) := by decide +kernel
theorem dX13_loopCount_31 : decode cX13_loopCount 31 = .ok (.iconst 0, 1) := by decide +kernel
theorem dX13_loopCount_32 : decode cX13_loopCount 32 = .ok (.iadd, 1) := by decide +kernel
theorem dX13_loopCount_33 : decode cX13_loopCount 33 = .ok (.istore_n 1, 1) := by decide +kernel
theorem dX13_loopCount_34 : decode cX13_loopCount 34 = .ok (.iinc 2 1, 3) := by decide +kernel
theorem dX13_loopCount_37 : decode cX13_loopCount 37 = .ok (.goto (-29), 3) := by decide +kernel
theorem dX13_loopCount_40 : decode cX13_loopCount 40 = .ok (.aload_n 0, 1) := by decide +kernel
theorem dX13_loopCount_41 : decode cX13_loopCount 41 = .ok (.iload_n 1, 1) := by decide +kernel
theorem dX13_loopCount_42 : decode cX13_loopCount 42 = .ok (.invokevirtual 133, 3) := by decide +kernel
theorem dX13_loopCount_45 : decode cX13_loopCount 45 = .ok (.ireturn, 1) := by decide +kernel
theorem dX13_loopAt_0 : decode cX13_loopAt 0 = .ok (.aload_n 0, 1) := by decide +kernel
theorem dX13_loopAt_1 : decode cX13_loopAt 1 = .ok (.invokevirtual 172, 3) := by decide +kernel
theorem dX13_loopAt_4 : decode cX13_loopAt 4 = .ok (.iconst 0, 1) := by decide +kernel
theorem dX13_loopAt_5 : decode cX13_loopAt 5 = .ok (.istore_n 2, 1) := by decide +kernel
theorem dX13_loopAt_6 : decode cX13_loopAt 6 = .ok (.iconst 0, 1) := by decide +kernel
theorem dX13_loopAt_7 : decode cX13_loopAt 7 = .ok (.istore_n 3, 1) := by decide +kernel
theorem dX13_loopAt_8 : decode cX13_loopAt 8 = .ok (.iload_n 3, 1) := by decide +kernel
theorem dX13_loopAt_9 : decode cX13_loopAt 9 = .ok (.aload_n 0, 1) := by decide +kernel
theorem dX13_loopAt_10 : decode cX13_loopAt 10 = .ok (.getfield 7, 3) := by decide +kernel
theorem dX13_loopAt_13 : decode cX13_loopAt 13 = .ok (.iconst 1, 1) := by decide +kernel
theorem dX13_loopAt_14 : decode cX13_loopAt 14 = .ok (.iaload, 1) := by decide +kernel
theorem dX13_loopAt_15 : decode cX13_loopAt 15 = .ok (.if_icmp .ge 31, 3) := by decide +kernel
theorem dX13_loopAt_18 : decode cX13_loopAt 18 = .ok (.aload_n 0, 1) := by decide +kernel
theorem dX13_loopAt_19 : decode cX13_loopAt 19 = .ok (.iload_n 3, 1) := by decide +kernel
theorem dX13_loopAt_20 : decode cX13_loopAt 20 = .ok (.invokevirtual 175, 3) := by decide +kernel
theorem dX13_loopAt_23 : decode cX13_loopAt 23 = .ok (.ifCond .eq 17, 3) := by decide +kernel
theorem dX13_loopAt_26 : decode cX13_loopAt 26 = .ok (.iload_n 2, 1) := by decide +kernel
theorem dX13_loopAt_27 : decode cX13_loopAt 27 = .ok (.iload_n 1, 1) := by decide +kernel
theorem dX13_loopAt_28 : decode cX13_loopAt 28 = .ok (.if_icmp .ne 9, 3) := by decide +kernel
theorem dX13_loopAt_31 : decode cX13_loopAt 31 = .ok (.aload_n 0, 1) := by decide +kernel
theorem dX13_loopAt_32 : decode cX13_loopAt 32 = .ok (.iload_n 3, 1) := by decide +kernel
theorem dX13_loopAt_33 : decode cX13_loopAt 33 = .ok (.invokevirtual 133, 3) := by decide +kernel
theorem dX13_loopAt_36 : decode cX13_loopAt 36 = .ok (.ireturn, 1) := by decide +kernel
theorem dX13_loopAt_37 : decode cX13_loopAt 37 = .ok (.iinc 2 1, 3) := by decide +kernel
theorem dX13_loopAt_40 : decode cX13_loopAt 40 = .ok (.iinc 3 1, 3) := by decide +kernel
theorem dX13_loopAt_43 : decode cX13_loopAt 43 = .ok (.goto (-35), 3) := by decide +kernel
theorem dX13_loopAt_46 : decode cX13_loopAt 46 = .ok (.aload_n 0, 1) := by decide +kernel
theorem dX13_loopAt_47 : decode cX13_loopAt 47 = .ok (.iconst 1, 1) := by decide +kernel
theorem dX13_loopAt_48 : decode cX13_loopAt 48 = .ok (.invokevirtual 130, 3) := by decide +kernel
theorem dX13_loopAt_51 : decode cX13_loopAt 51 = .ok (.ireturn, 1) := by decide +kernel
theorem dX13_loopSize_0 : decode cX13_loopSize 0 = .ok (.aload_n 0, 1) := by decide +kernel
theorem dX13_loopSize_1 : decode cX13_loopSize 1 = .ok (.iload_n 1, 1) := by decide +kernel
theorem dX13_loopSize_2 : decode cX13_loopSize 2 = .ok (.invokevirtual 181, 3) := by decide +kernel
theorem dX13_loopSize_5 : decode cX13_loopSize 5 = .ok (.istore_n 2, 1) := by decide +kernel
theorem dX13_loopSize_6 : decode cX13_loopSize 6 = .ok (.iload_n 2, 1) := by decide +kernel
theorem dX13_loopSize_7 : decode cX13_loopSize 7 = .ok (.ifCond .le 9, 3) := by decide +kernel
theorem dX13_loopSize_10 : decode cX13_loopSize 10 = .ok (.aload_n 0, 1) := by decide +kernel
theorem dX13_loopSize_11 : decode cX13_loopSize 11 = .ok (.iload_n 2, 1) := by decide +kernel
theorem dX13_loopSize_12 : decode cX13_loopSize 12 = .ok (.invokevirtual 130, 3) := by decide +kernel
theorem dX13_loopSize_15 : decode cX13_loopSize 15 = .ok (.ireturn, 1) := by decide +kernel
theorem dX13_loopSize_16 : decode cX13_loopSize 16 = .ok (.iconst 0, 1) := by decide +kernel
theorem dX13_loopSize_17 : decode cX13_loopSize 17 = .ok (.istore_n 3, 1) := by decide +kernel
theorem dX13_loopSize_18 : decode cX13_loopSize 18 = .ok (.iconst 0, 1) := by decide +kernel
theorem dX13_loopSize_19 : decode cX13_loopSize 19 = .ok (.istore 4, 2) := by decide +kernel
theorem dX13_loopSize_21 : decode cX13_loopSize 21 = .ok (.iload 4, 2) := by decide +kernel
theorem dX13_loopSize_23 : decode cX13_loopSize 23 = .ok (.aload_n 0, 1) := by decide +kernel
theorem dX13_loopSize_24 : decode cX13_loopSize 24 = .ok (.getfield 7, 3) := by decide +kernel
theorem dX13_loopSize_27 : decode cX13_loopSize 27 = .ok (.iconst 1, 1) := by decide +kernel
theorem dX13_loopSize_28 : decode cX13_loopSize 28 = .ok (.iaload, 1) := by decide +kernel
theorem dX13_loopSize_29 : decode cX13_loopSize 29 = .ok (.if_icmp .ge 27, 3) := by decide +kernel
theorem dX13_loopSize_32 : decode cX13_loopSize 32 = .ok (.iload_n 3, 1) := by decide +kernel
theorem dX13_loopSize_33 : decode cX13_loopSize 33 = .ok (.aload_n 0, 1) := by decide +kernel
theorem dX13_loopSize_34 : decode cX13_loopSize 34 = .ok (.getfield 49, 3) := by decide +kernel
theorem dX13_loopSize_37 : decode cX13_loopSize 37 = .ok (.iload 4, 2) := by decide +kernel
theorem dX13_loopSize_39 : decode cX13_loopSize 39 = .ok (.iaload, 1) := by decide +kernel
theorem dX13_loopSize_40 : decode cX13_loopSize 40 = .ok (.ifCond .eq 7, 3) := by decide +kernel
theorem dX13_loopSize_43 : decode cX13_loopSize 43 = .ok (.iconst 1, 1) := by decide +kernel
theorem dX13_loopSize_44 : decode cX13_loopSize 44 = .ok (.goto 4, 3) := by decide +kernel
theorem dX13_loopSize_47 : decode cX13_loopSize 47 = .ok (.iconst 0, 1) := by decide +kernel
theorem dX13_loopSize_48 : decode cX13_loopSize 48 = .ok (.iadd, 1) := by decide +kernel
theorem dX13_loopSize_49 : decode cX13_loopSize 49 = .ok (.istore_n 3, 1) := by decide +kernel
theorem dX13_loopSize_50 : decode cX13_loopSize 50 = .ok (.iinc 4 1, 3) := by decide +kernel
theorem dX13_loopSize_53 : decode cX13_loopSize 53 = .ok (.goto (-32), 3) := by decide +kernel
theorem dX13_loopSize_56 : decode cX13_loopSize 56 = .ok (.aload_n 0, 1) := by decide +kernel
theorem dX13_loopSize_57 : decode cX13_loopSize 57 = .ok (.iload_n 3, 1) := by decide +kernel
theorem dX13_loopSize_58 : decode cX13_loopSize 58 = .ok (.invokevirtual 133, 3) := by decide +kernel
theorem dX13_loopSize_61 : decode cX13_loopSize 61 = .ok (.ireturn, 1) := by decide +kernel
theorem dX13_loopLength_0 : decode cX13_loopLength 0 = .ok (.aload_n 0, 1) := by decide +kernel
theorem dX13_loopLength_1 : decode cX13_loopLength 1 = .ok (.iload_n 1, 1) := by decide +kernel
theorem dX13_loopLength_2 : decode cX13_loopLength 2 = .ok (.invokevirtual 181, 3) := by decide +kernel
theorem dX13_loopLength_5 : decode cX13_loopLength 5 = .ok (.istore_n 2, 1) := by decide +kernel
theorem dX13_loopLength_6 : decode cX13_loopLength 6 = .ok (.iload_n 2, 1) := by decide +kernel
theorem dX13_loopLength_7 : decode cX13_loopLength 7 = .ok (.ifCond .le 11, 3) := by decide +kernel
theorem dX13_loopLength_10 : decode cX13_loopLength 10 = .ok (.aload_n 0, 1) := by decide +kernel
theorem dX13_loopLength_11 : decode cX13_loopLength 11 = .ok (.iload_n 2, 1) := by decide +kernel
theorem dX13_loopLength_12 : decode cX13_loopLength 12 = .ok (.invokevirtual 130, 3) := by decide +kernel
theorem dX13_loopLength_15 : decode cX13_loopLength 15 = .ok (.goto 11, 3) := by decide +kernel
theorem dX13_loopLength_18 : decode cX13_loopLength 18 = .ok (.aload_n 0, 1) := by decide +kernel
theorem dX13_loopLength_19 : decode cX13_loopLength 19 = .ok (.aload_n 0, 1) := by decide +kernel
theorem dX13_loopLength_20 : decode cX13_loopLength 20 = .ok (.invokevirtual 123, 3) := by decide +kernel
theorem dX13_loopLength_23 : decode cX13_loopLength 23 = .ok (.invokevirtual 133, 3) := by decide +kernel
theorem dX13_loopLength_26 : decode cX13_loopLength 26 = .ok (.ireturn, 1) := by decide +kernel
theorem dX13_misclosure_0 : decode cX13_misclosure 0 = .ok (.aload_n 0, 1) := by decide +kernel
theorem dX13_misclosure_1 : decode cX13_misclosure 1 = .ok (.iload_n 1, 1) := by decide +kernel
theorem dX13_misclosure_2 : decode cX13_misclosure 2 = .ok (.invokevirtual 181, 3) := by decide +kernel
theorem dX13_misclosure_5 : decode cX13_misclosure 5 = .ok (.istore_n 2, 1) := by decide +kernel
theorem dX13_misclosure_6 : decode cX13_misclosure 6 = .ok (.iload_n 2, 1) := by decide +kernel
theorem dX13_misclosure_7 : decode cX13_misclosure 7 = .ok (.ifCond .le 11, 3) := by decide +kernel
theorem dX13_misclosure_10 : decode cX13_misclosure 10 = .ok (.aload_n 0, 1) := by decide +kernel
theorem dX13_misclosure_11 : decode cX13_misclosure 11 = .ok (.iload_n 2, 1) := by decide +kernel
theorem dX13_misclosure_12 : decode cX13_misclosure 12 = .ok (.invokevirtual 130, 3) := by decide +kernel
theorem dX13_misclosure_15 : decode cX13_misclosure 15 = .ok (.goto 11, 3) := by decide +kernel
theorem dX13_misclosure_18 : decode cX13_misclosure 18 = .ok (.aload_n 0, 1) := by decide +kernel
theorem dX13_misclosure_19 : decode cX13_misclosure 19 = .ok (.aload_n 0, 1) := by decide +kernel
theorem dX13_misclosure_20 : decode cX13_misclosure 20 = .ok (.invokevirtual 119, 3) := by decide +kernel
theorem dX13_misclosure_23 : decode cX13_misclosure 23 = .ok (.invokevirtual 133, 3) := by decide +kernel
theorem dX13_misclosure_26 : decode cX13_misclosure 26 = .ok (.ireturn, 1) := by decide +kernel
theorem dX13_misclosureByLevels_0 : decode cX13_misclosureByLevels 0 = .ok (.aload_n 0, 1) := by decide +kernel
theorem dX13_misclosureByLevels_1 : decode cX13_misclosureByLevels 1 = .ok (.iload_n 1, 1) := by decide +kernel
theorem dX13_misclosureByLevels_2 : decode cX13_misclosureByLevels 2 = .ok (.invokevirtual 230, 3) := by decide +kernel
theorem dX13_misclosureByLevels_5 : decode cX13_misclosureByLevels 5 = .ok (.ireturn, 1) := by decide +kernel
theorem dX13_part_0 : decode cX13_part 0 = .ok (.aload_n 0, 1) := by decide +kernel
theorem dX13_part_1 : decode cX13_part 1 = .ok (.iload_n 1, 1) := by decide +kernel
theorem dX13_part_2 : decode cX13_part 2 = .ok (.invokevirtual 160, 3) := by decide +kernel
theorem dX13_part_5 : decode cX13_part 5 = .ok (.ifCond .eq 11, 3) := by decide +kernel
theorem dX13_part_8 : decode cX13_part 8 = .ok (.aload_n 0, 1) := by decide +kernel
theorem dX13_part_9 : decode cX13_part 9 = .ok (.iload_n 2, 1) := by decide +kernel
theorem dX13_part_10 : decode cX13_part 10 = .ok (.invokevirtual 160, 3) := by decide +kernel
theorem dX13_part_13 : decode cX13_part 13 = .ok (.ifCond .ne 7, 3) := by decide +kernel
theorem dX13_part_16 : decode cX13_part 16 = .ok (.iconst 1, 1) := by decide +kernel
theorem dX13_part_17 : decode cX13_part 17 = .ok (.goto 8, 3) := by decide +kernel
theorem dX13_part_20 : decode cX13_part 20 = .ok (.aload_n 0, 1) := by decide +kernel
theorem dX13_part_21 : decode cX13_part 21 = .ok (.iload_n 1, 1) := by decide +kernel
theorem dX13_part_22 : decode cX13_part 22 = .ok (.invokevirtual 181, 3) := by decide +kernel
theorem dX13_part_25 : decode cX13_part 25 = .ok (.istore_n 3, 1) := by decide +kernel
theorem dX13_part_26 : decode cX13_part 26 = .ok (.iload_n 3, 1) := by decide +kernel
theorem dX13_part_27 : decode cX13_part 27 = .ok (.ifCond .le 9, 3) := by decide +kernel
theorem dX13_part_30 : decode cX13_part 30 = .ok (.aload_n 0, 1) := by decide +kernel
theorem dX13_part_31 : decode cX13_part 31 = .ok (.iload_n 3, 1) := by decide +kernel
theorem dX13_part_32 : decode cX13_part 32 = .ok (.invokevirtual 130, 3) := by decide +kernel
theorem dX13_part_35 : decode cX13_part 35 = .ok (.ireturn, 1) := by decide +kernel
theorem dX13_part_36 : decode cX13_part 36 = .ok (.aload_n 0, 1) := by decide +kernel
theorem dX13_part_37 : decode cX13_part 37 = .ok (.invokevirtual 184, 3) := by decide +kernel
theorem dX13_part_40 : decode cX13_part 40 = .ok (.aload_n 0, 1) := by decide +kernel
theorem dX13_part_41 : decode cX13_part 41 = .ok (.aload_n 0, 1) := by decide +kernel
theorem dX13_part_42 : decode cX13_part 42 = .ok (.getfield 52, 3) := by decide +kernel
theorem dX13_part_45 : decode cX13_part 45 = .ok (.iload_n 2, 1) := by decide +kernel
theorem dX13_part_46 : decode cX13_part 46 = .ok (.iaload, 1) := by decide +kernel
theorem dX13_part_47 : decode cX13_part 47 = .ok (.invokevirtual 133, 3) := by decide +kernel
theorem dX13_part_50 : decode cX13_part 50 = .ok (.ireturn, 1) := by decide +kernel
theorem dX13_profileCount_0 : decode cX13_profileCount 0 = .ok (.aload_n 0, 1) := by decide +kernel
theorem dX13_profileCount_1 : decode cX13_profileCount 1 = .ok (.aload_n 0, 1) := by decide +kernel
theorem dX13_profileCount_2 : decode cX13_profileCount 2 = .ok (.getfield 7, 3) := by decide +kernel
theorem dX13_profileCount_5 : decode cX13_profileCount 5 = .ok (.iconst 2, 1) := by decide +kernel
theorem dX13_profileCount_6 : decode cX13_profileCount 6 = .ok (.iaload, 1) := by decide +kernel
theorem dX13_profileCount_7 : decode cX13_profileCount 7 = .ok (.invokevirtual 133, 3) := by decide +kernel
theorem dX13_profileCount_10 : decode cX13_profileCount 10 = .ok (.ireturn, 1) := by decide +kernel
theorem dX13_stationCount_0 : decode cX13_stationCount 0 = .ok (.aload_n 0, 1) := by decide +kernel
theorem dX13_stationCount_1 : decode cX13_stationCount 1 = .ok (.iload_n 1, 1) := by decide +kernel
theorem dX13_stationCount_2 : decode cX13_stationCount 2 = .ok (.invokevirtual 196, 3) := by decide +kernel
theorem dX13_stationCount_5 : decode cX13_stationCount 5 = .ok (.ifCond .eq 20, 3) := by decide +kernel
theorem dX13_stationCount_8 : decode cX13_stationCount 8 = .ok (.aload_n 0, 1) := by decide +kernel
theorem dX13_stationCount_9 : decode cX13_stationCount 9 = .ok (.aload_n 0, 1) := by decide +kernel
theorem dX13_stationCount_10 : decode cX13_stationCount 10 = .ok (.getfield 7, 3) := by decide +kernel
theorem dX13_stationCount_13 : decode cX13_stationCount 13 = .ok (.sipush 156, 3) := by decide +kernel
theorem dX13_stationCount_16 : decode cX13_stationCount 16 = .ok (.iload_n 1, 1) := by decide +kernel
theorem dX13_stationCount_17 : decode cX13_stationCount 17 = .ok (.iadd, 1) := by decide +kernel
theorem dX13_stationCount_18 : decode cX13_stationCount 18 = .ok (.iaload, 1) := by decide +kernel
theorem dX13_stationCount_19 : decode cX13_stationCount 19 = .ok (.invokevirtual 133, 3) := by decide +kernel
theorem dX13_stationCount_22 : decode cX13_stationCount 22 = .ok (.goto 8, 3) := by decide +kernel
theorem dX13_stationCount_25 : decode cX13_stationCount 25 = .ok (.aload_n 0, 1) := by decide +kernel
theorem dX13_stationCount_26 : decode cX13_stationCount 26 = .ok (.iconst 1, 1) := by decide +kernel
theorem dX13_stationCount_27 : decode cX13_stationCount 27 = .ok (.invokevirtual 130, 3) := by decide +kernel
theorem dX13_stationCount_30 : decode cX13_stationCount 30 = .ok (.ireturn, 1) := by decide +kernel
theorem dX13_waterLevel_0 : decode cX13_waterLevel 0 = .ok (.aload_n 0, 1) := by decide +kernel
theorem dX13_waterLevel_1 : decode cX13_waterLevel 1 = .ok (.aload_n 0, 1) := by decide +kernel
theorem dX13_waterLevel_2 : decode cX13_waterLevel 2 = .ok (.getfield 7, 3) := by decide +kernel
theorem dX13_waterLevel_5 : decode cX13_waterLevel 5 = .ok (.iconst 3, 1) := by decide +kernel
theorem dX13_waterLevel_6 : decode cX13_waterLevel 6 = .ok (.iaload, 1) := by decide +kernel
theorem dX13_waterLevel_7 : decode cX13_waterLevel 7 = .ok (.invokevirtual 133, 3) := by decide +kernel
theorem dX13_waterLevel_10 : decode cX13_waterLevel 10 = .ok (.ireturn, 1) := by decide +kernel
theorem dX13_firstColumn_0 : decode cX13_firstColumn 0 = .ok (.aload_n 0, 1) := by decide +kernel
theorem dX13_firstColumn_1 : decode cX13_firstColumn 1 = .ok (.iload_n 1, 1) := by decide +kernel
theorem dX13_firstColumn_2 : decode cX13_firstColumn 2 = .ok (.iconst 0, 1) := by decide +kernel
theorem dX13_firstColumn_3 : decode cX13_firstColumn 3 = .ok (.invokevirtual 199, 3) := by decide +kernel
theorem dX13_firstColumn_6 : decode cX13_firstColumn 6 = .ok (.ireturn, 1) := by decide +kernel
theorem dX13_lastColumn_0 : decode cX13_lastColumn 0 = .ok (.aload_n 0, 1) := by decide +kernel
theorem dX13_lastColumn_1 : decode cX13_lastColumn 1 = .ok (.iload_n 1, 1) := by decide +kernel
theorem dX13_lastColumn_2 : decode cX13_lastColumn 2 = .ok (.aload_n 0, 1) := by decide +kernel
theorem dX13_lastColumn_3 : decode cX13_lastColumn 3 = .ok (.getfield 7, 3) := by decide +kernel
theorem dX13_lastColumn_6 : decode cX13_lastColumn 6 = .ok (.sipush 156, 3) := by decide +kernel
theorem dX13_lastColumn_9 : decode cX13_lastColumn 9 = .ok (.iload_n 1, 1) := by decide +kernel
theorem dX13_lastColumn_10 : decode cX13_lastColumn 10 = .ok (.iadd, 1) := by decide +kernel
theorem dX13_lastColumn_11 : decode cX13_lastColumn 11 = .ok (.iaload, 1) := by decide +kernel
theorem dX13_lastColumn_12 : decode cX13_lastColumn 12 = .ok (.iconst 1, 1) := by decide +kernel
theorem dX13_lastColumn_13 : decode cX13_lastColumn 13 = .ok (.isub, 1) := by decide +kernel
theorem dX13_lastColumn_14 : decode cX13_lastColumn 14 = .ok (.invokevirtual 199, 3) := by decide +kernel
theorem dX13_lastColumn_17 : decode cX13_lastColumn 17 = .ok (.ireturn, 1) := by decide +kernel
theorem dX13_offsetAt_0 : decode cX13_offsetAt 0 = .ok (.iconst 0, 1) := by decide +kernel
theorem dX13_offsetAt_1 : decode cX13_offsetAt 1 = .ok (.istore_n 3, 1) := by decide +kernel
theorem dX13_offsetAt_2 : decode cX13_offsetAt 2 = .ok (.iload_n 3, 1) := by decide +kernel
theorem dX13_offsetAt_3 : decode cX13_offsetAt 3 = .ok (.aload_n 0, 1) := by decide +kernel
theorem dX13_offsetAt_4 : decode cX13_offsetAt 4 = .ok (.getfield 7, 3) := by decide +kernel
theorem dX13_offsetAt_7 : decode cX13_offsetAt 7 = .ok (.sipush 156, 3) := by decide +kernel
theorem dX13_offsetAt_10 : decode cX13_offsetAt 10 = .ok (.iload_n 1, 1) := by decide +kernel
theorem dX13_offsetAt_11 : decode cX13_offsetAt 11 = .ok (.iadd, 1) := by decide +kernel
theorem dX13_offsetAt_12 : decode cX13_offsetAt 12 = .ok (.iaload, 1) := by decide +kernel
theorem dX13_offsetAt_13 : decode cX13_offsetAt 13 = .ok (.iconst 1, 1) := by decide +kernel
theorem dX13_offsetAt_14 : decode cX13_offsetAt 14 = .ok (.isub, 1) := by decide +kernel
theorem dX13_offsetAt_15 : decode cX13_offsetAt 15 = .ok (.if_icmp .ge 21, 3) := by decide +kernel
theorem dX13_offsetAt_18 : decode cX13_offsetAt 18 = .ok (.aload_n 0, 1) := by decide +kernel
theorem dX13_offsetAt_19 : decode cX13_offsetAt 19 = .ok (.iload_n 1, 1) := by decide +kernel
theorem dX13_offsetAt_20 : decode cX13_offsetAt 20 = .ok (.iload_n 3, 1) := by decide +kernel
theorem dX13_offsetAt_21 : decode cX13_offsetAt 21 = .ok (.iconst 1, 1) := by decide +kernel
theorem dX13_offsetAt_22 : decode cX13_offsetAt 22 = .ok (.iadd, 1) := by decide +kernel
theorem dX13_offsetAt_23 : decode cX13_offsetAt 23 = .ok (.invokevirtual 199, 3) := by decide +kernel
theorem dX13_offsetAt_26 : decode cX13_offsetAt 26 = .ok (.iload_n 2, 1) := by decide +kernel
theorem dX13_offsetAt_27 : decode cX13_offsetAt 27 = .ok (.if_icmp .gt 9, 3) := by decide +kernel
theorem dX13_offsetAt_30 : decode cX13_offsetAt 30 = .ok (.iinc 3 1, 3) := by decide +kernel
theorem dX13_offsetAt_33 : decode cX13_offsetAt 33 = .ok (.goto (-31), 3) := by decide +kernel
theorem dX13_offsetAt_36 : decode cX13_offsetAt 36 = .ok (.sipush 200, 3) := by decide +kernel
theorem dX13_offsetAt_39 : decode cX13_offsetAt 39 = .ok (.bipush 10, 2) := by decide +kernel
theorem dX13_offsetAt_41 : decode cX13_offsetAt 41 = .ok (.iload_n 1, 1) := by decide +kernel
theorem dX13_offsetAt_42 : decode cX13_offsetAt 42 = .ok (.imul, 1) := by decide +kernel
theorem dX13_offsetAt_43 : decode cX13_offsetAt 43 = .ok (.iadd, 1) := by decide +kernel
theorem dX13_offsetAt_44 : decode cX13_offsetAt 44 = .ok (.iload_n 3, 1) := by decide +kernel
theorem dX13_offsetAt_45 : decode cX13_offsetAt 45 = .ok (.iadd, 1) := by decide +kernel
theorem dX13_offsetAt_46 : decode cX13_offsetAt 46 = .ok (.istore 4, 2) := by decide +kernel
theorem dX13_offsetAt_48 : decode cX13_offsetAt 48 = .ok (.iload_n 3, 1) := by decide +kernel
theorem dX13_offsetAt_49 : decode cX13_offsetAt 49 = .ok (.aload_n 0, 1) := by decide +kernel
theorem dX13_offsetAt_50 : decode cX13_offsetAt 50 = .ok (.getfield 7, 3) := by decide +kernel
theorem dX13_offsetAt_53 : decode cX13_offsetAt 53 = .ok (.sipush 156, 3) := by decide +kernel
theorem dX13_offsetAt_56 : decode cX13_offsetAt 56 = .ok (.iload_n 1, 1) := by decide +kernel
theorem dX13_offsetAt_57 : decode cX13_offsetAt 57 = .ok (.iadd, 1) := by decide +kernel
theorem dX13_offsetAt_58 : decode cX13_offsetAt 58 = .ok (.iaload, 1) := by decide +kernel
theorem dX13_offsetAt_59 : decode cX13_offsetAt 59 = .ok (.iconst 1, 1) := by decide +kernel
theorem dX13_offsetAt_60 : decode cX13_offsetAt 60 = .ok (.isub, 1) := by decide +kernel
theorem dX13_offsetAt_61 : decode cX13_offsetAt 61 = .ok (.if_icmp .ne 11, 3) := by decide +kernel
theorem dX13_offsetAt_64 : decode cX13_offsetAt 64 = .ok (.aload_n 0, 1) := by decide +kernel
theorem dX13_offsetAt_65 : decode cX13_offsetAt 65 = .ok (.getfield 7, 3) := by decide +kernel
theorem dX13_offsetAt_68 : decode cX13_offsetAt 68 = .ok (.iload 4, 2) := by decide +kernel
theorem dX13_offsetAt_70 : decode cX13_offsetAt 70 = .ok (.iaload, 1) := by decide +kernel
theorem dX13_offsetAt_71 : decode cX13_offsetAt 71 = .ok (.ireturn, 1) := by decide +kernel
theorem dX13_offsetAt_72 : decode cX13_offsetAt 72 = .ok (.aload_n 0, 1) := by decide +kernel
theorem dX13_offsetAt_73 : decode cX13_offsetAt 73 = .ok (.iload_n 1, 1) := by decide +kernel
theorem dX13_offsetAt_74 : decode cX13_offsetAt 74 = .ok (.iload_n 3, 1) := by decide +kernel
theorem dX13_offsetAt_75 : decode cX13_offsetAt 75 = .ok (.iconst 1, 1) := by decide +kernel
theorem dX13_offsetAt_76 : decode cX13_offsetAt 76 = .ok (.iadd, 1) := by decide +kernel
theorem dX13_offsetAt_77 : decode cX13_offsetAt 77 = .ok (.invokevirtual 199, 3) := by decide +kernel
theorem dX13_offsetAt_80 : decode cX13_offsetAt 80 = .ok (.aload_n 0, 1) := by decide +kernel
theorem dX13_offsetAt_81 : decode cX13_offsetAt 81 = .ok (.iload_n 1, 1) := by decide +kernel
theorem dX13_offsetAt_82 : decode cX13_offsetAt 82 = .ok (.iload_n 3, 1) := by decide +kernel
theorem dX13_offsetAt_83 : decode cX13_offsetAt 83 = .ok (.invokevirtual 199, 3) := by decide +kernel
theorem dX13_offsetAt_86 : decode cX13_offsetAt 86 = .ok (.isub, 1) := by decide +kernel
theorem dX13_offsetAt_87 : decode cX13_offsetAt 87 = .ok (.istore 5, 2) := by decide +kernel
theorem dX13_offsetAt_89 : decode cX13_offsetAt 89 = .ok (.aload_n 0, 1) := by decide +kernel
theorem dX13_offsetAt_90 : decode cX13_offsetAt 90 = .ok (.getfield 7, 3) := by decide +kernel
theorem dX13_offsetAt_93 : decode cX13_offsetAt 93 = .ok (.iload 4, 2) := by decide +kernel
theorem dX13_offsetAt_95 : decode cX13_offsetAt 95 = .ok (.iaload, 1) := by decide +kernel
theorem dX13_offsetAt_96 : decode cX13_offsetAt 96 = .ok (.aload_n 0, 1) := by decide +kernel
theorem dX13_offsetAt_97 : decode cX13_offsetAt 97 = .ok (.getfield 7, 3) := by decide +kernel
theorem dX13_offsetAt_100 : decode cX13_offsetAt 100 = .ok (.iload 4, 2) := by decide +kernel
theorem dX13_offsetAt_102 : decode cX13_offsetAt 102 = .ok (.iconst 1, 1) := by decide +kernel
theorem dX13_offsetAt_103 : decode cX13_offsetAt 103 = .ok (.iadd, 1) := by decide +kernel
theorem dX13_offsetAt_104 : decode cX13_offsetAt 104 = .ok (.iaload, 1) := by decide +kernel
theorem dX13_offsetAt_105 : decode cX13_offsetAt 105 = .ok (.aload_n 0, 1) := by decide +kernel
theorem dX13_offsetAt_106 : decode cX13_offsetAt 106 = .ok (.getfield 7, 3) := by decide +kernel
theorem dX13_offsetAt_109 : decode cX13_offsetAt 109 = .ok (.iload 4, 2) := by decide +kernel
theorem dX13_offsetAt_111 : decode cX13_offsetAt 111 = .ok (.iaload, 1) := by decide +kernel
theorem dX13_offsetAt_112 : decode cX13_offsetAt 112 = .ok (.isub, 1) := by decide +kernel
theorem dX13_offsetAt_113 : decode cX13_offsetAt 113 = .ok (.iload_n 2, 1) := by decide +kernel
theorem dX13_offsetAt_114 : decode cX13_offsetAt 114 = .ok (.aload_n 0, 1) := by decide +kernel
theorem dX13_offsetAt_115 : decode cX13_offsetAt 115 = .ok (.iload_n 1, 1) := by decide +kernel
theorem dX13_offsetAt_116 : decode cX13_offsetAt 116 = .ok (.iload_n 3, 1) := by decide +kernel
theorem dX13_offsetAt_117 : decode cX13_offsetAt 117 = .ok (.invokevirtual 199, 3) := by decide +kernel
theorem dX13_offsetAt_120 : decode cX13_offsetAt 120 = .ok (.isub, 1) := by decide +kernel
theorem dX13_offsetAt_121 : decode cX13_offsetAt 121 = .ok (.imul, 1) := by decide +kernel
theorem dX13_offsetAt_122 : decode cX13_offsetAt 122 = .ok (.iload 5, 2) := by decide +kernel
theorem dX13_offsetAt_124 : decode cX13_offsetAt 124 = .ok (.invokestatic 89, 3) := by decide +kernel
theorem dX13_offsetAt_127 : decode cX13_offsetAt 127 = .ok (.iadd, 1) := by decide +kernel
theorem dX13_offsetAt_128 : decode cX13_offsetAt 128 = .ok (.ireturn, 1) := by decide +kernel
theorem dX13_groundAt_0 : decode cX13_groundAt 0 = .ok (.aload_n 0, 1) := by decide +kernel
theorem dX13_groundAt_1 : decode cX13_groundAt 1 = .ok (.aload_n 0, 1) := by decide +kernel
theorem dX13_groundAt_2 : decode cX13_groundAt 2 = .ok (.getfield 7, 3) := by decide +kernel
theorem dX13_groundAt_5 : decode cX13_groundAt 5 = .ok (.sipush 152, 3) := by decide +kernel
theorem dX13_groundAt_8 : decode cX13_groundAt 8 = .ok (.iload_n 1, 1) := by decide +kernel
theorem dX13_groundAt_9 : decode cX13_groundAt 9 = .ok (.iadd, 1) := by decide +kernel
theorem dX13_groundAt_10 : decode cX13_groundAt 10 = .ok (.iaload, 1) := by decide +kernel
theorem dX13_groundAt_11 : decode cX13_groundAt 11 = .ok (.invokevirtual 211, 3) := by decide +kernel
theorem dX13_groundAt_14 : decode cX13_groundAt 14 = .ok (.aload_n 0, 1) := by decide +kernel
theorem dX13_groundAt_15 : decode cX13_groundAt 15 = .ok (.iload_n 1, 1) := by decide +kernel
theorem dX13_groundAt_16 : decode cX13_groundAt 16 = .ok (.iload_n 2, 1) := by decide +kernel
theorem dX13_groundAt_17 : decode cX13_groundAt 17 = .ok (.invokevirtual 233, 3) := by decide +kernel
theorem dX13_groundAt_20 : decode cX13_groundAt 20 = .ok (.iadd, 1) := by decide +kernel
theorem dX13_groundAt_21 : decode cX13_groundAt 21 = .ok (.ireturn, 1) := by decide +kernel
theorem dX13_isWet_0 : decode cX13_isWet 0 = .ok (.aload_n 0, 1) := by decide +kernel
theorem dX13_isWet_1 : decode cX13_isWet 1 = .ok (.iload_n 1, 1) := by decide +kernel
theorem dX13_isWet_2 : decode cX13_isWet 2 = .ok (.iload_n 2, 1) := by decide +kernel
theorem dX13_isWet_3 : decode cX13_isWet 3 = .ok (.invokevirtual 236, 3) := by decide +kernel
theorem dX13_isWet_6 : decode cX13_isWet 6 = .ok (.aload_n 0, 1) := by decide +kernel
theorem dX13_isWet_7 : decode cX13_isWet 7 = .ok (.getfield 7, 3) := by decide +kernel
theorem dX13_isWet_10 : decode cX13_isWet 10 = .ok (.iconst 3, 1) := by decide +kernel
theorem dX13_isWet_11 : decode cX13_isWet 11 = .ok (.iaload, 1) := by decide +kernel
theorem dX13_isWet_12 : decode cX13_isWet 12 = .ok (.if_icmp .ge 7, 3) := by decide +kernel
theorem dX13_isWet_15 : decode cX13_isWet 15 = .ok (.iconst 1, 1) := by decide +kernel
theorem dX13_isWet_16 : decode cX13_isWet 16 = .ok (.goto 4, 3) := by decide +kernel
theorem dX13_isWet_19 : decode cX13_isWet 19 = .ok (.iconst 0, 1) := by decide +kernel
theorem dX13_isWet_20 : decode cX13_isWet 20 = .ok (.ireturn, 1) := by decide +kernel
theorem dX13_ground_0 : decode cX13_ground 0 = .ok (.aload_n 0, 1) := by decide +kernel
theorem dX13_ground_1 : decode cX13_ground 1 = .ok (.iload_n 1, 1) := by decide +kernel
theorem dX13_ground_2 : decode cX13_ground 2 = .ok (.invokevirtual 196, 3) := by decide +kernel
theorem dX13_ground_5 : decode cX13_ground 5 = .ok (.ifCond .ne 9, 3) := by decide +kernel
theorem dX13_ground_8 : decode cX13_ground 8 = .ok (.aload_n 0, 1) := by decide +kernel
theorem dX13_ground_9 : decode cX13_ground 9 = .ok (.iconst 1, 1) := by decide +kernel
theorem dX13_ground_10 : decode cX13_ground 10 = .ok (.invokevirtual 130, 3) := by decide +kernel
theorem dX13_ground_13 : decode cX13_ground 13 = .ok (.ireturn, 1) := by decide +kernel
theorem dX13_ground_14 : decode cX13_ground 14 = .ok (.aload_n 0, 1) := by decide +kernel
theorem dX13_ground_15 : decode cX13_ground 15 = .ok (.getfield 7, 3) := by decide +kernel
theorem dX13_ground_18 : decode cX13_ground 18 = .ok (.sipush 156, 3) := by decide +kernel
theorem dX13_ground_21 : decode cX13_ground 21 = .ok (.iload_n 1, 1) := by decide +kernel
theorem dX13_ground_22 : decode cX13_ground 22 = .ok (.iadd, 1) := by decide +kernel
theorem dX13_ground_23 : decode cX13_ground 23 = .ok (.iaload, 1) := by decide +kernel
theorem dX13_ground_24 : decode cX13_ground 24 = .ok (.ifCond .eq 20, 3) := by decide +kernel
theorem dX13_ground_27 : decode cX13_ground 27 = .ok (.iload_n 2, 1) := by decide +kernel
theorem dX13_ground_28 : decode cX13_ground 28 = .ok (.aload_n 0, 1) := by decide +kernel
theorem dX13_ground_29 : decode cX13_ground 29 = .ok (.iload_n 1, 1) := by decide +kernel
theorem dX13_ground_30 : decode cX13_ground 30 = .ok (.invokevirtual 239, 3) := by decide +kernel
theorem dX13_ground_33 : decode cX13_ground 33 = .ok (.aload_n 0, 1) := by decide +kernel
theorem dX13_ground_34 : decode cX13_ground 34 = .ok (.iload_n 1, 1) := by decide +kernel
theorem dX13_ground_35 : decode cX13_ground 35 = .ok (.invokevirtual 242, 3) := by decide +kernel
theorem dX13_ground_38 : decode cX13_ground 38 = .ok (.invokestatic 71, 3) := by decide +kernel
theorem dX13_ground_41 : decode cX13_ground 41 = .ok (.ifCond .ne 9, 3) := by decide +kernel
theorem dX13_ground_44 : decode cX13_ground 44 = .ok (.aload_n 0, 1) := by decide +kernel
theorem dX13_ground_45 : decode cX13_ground 45 = .ok (.iconst 2, 1) := by decide +kernel
theorem dX13_ground_46 : decode cX13_ground 46 = .ok (.invokevirtual 130, 3) := by decide +kernel
theorem dX13_ground_49 : decode cX13_ground 49 = .ok (.ireturn, 1) := by decide +kernel
theorem dX13_ground_50 : decode cX13_ground 50 = .ok (.aload_n 0, 1) := by decide +kernel
theorem dX13_ground_51 : decode cX13_ground 51 = .ok (.invokevirtual 172, 3) := by decide +kernel
theorem dX13_ground_54 : decode cX13_ground 54 = .ok (.aload_n 0, 1) := by decide +kernel
theorem dX13_ground_55 : decode cX13_ground 55 = .ok (.aload_n 0, 1) := by decide +kernel
theorem dX13_ground_56 : decode cX13_ground 56 = .ok (.getfield 7, 3) := by decide +kernel
theorem dX13_ground_59 : decode cX13_ground 59 = .ok (.sipush 152, 3) := by decide +kernel
theorem dX13_ground_62 : decode cX13_ground 62 = .ok (.iload_n 1, 1) := by decide +kernel
theorem dX13_ground_63 : decode cX13_ground 63 = .ok (.iadd, 1) := by decide +kernel
theorem dX13_ground_64 : decode cX13_ground 64 = .ok (.iaload, 1) := by decide +kernel
theorem dX13_ground_65 : decode cX13_ground 65 = .ok (.invokevirtual 208, 3) := by decide +kernel
theorem dX13_ground_68 : decode cX13_ground 68 = .ok (.ifCond .eq 16, 3) := by decide +kernel
theorem dX13_ground_71 : decode cX13_ground 71 = .ok (.aload_n 0, 1) := by decide +kernel
theorem dX13_ground_72 : decode cX13_ground 72 = .ok (.aload_n 0, 1) := by decide +kernel
theorem dX13_ground_73 : decode cX13_ground 73 = .ok (.iload_n 1, 1) := by decide +kernel
theorem dX13_ground_74 : decode cX13_ground 74 = .ok (.iload_n 2, 1) := by decide +kernel
theorem dX13_ground_75 : decode cX13_ground 75 = .ok (.invokevirtual 236, 3) := by decide +kernel
theorem dX13_ground_78 : decode cX13_ground 78 = .ok (.invokevirtual 133, 3) := by decide +kernel
theorem dX13_ground_81 : decode cX13_ground 81 = .ok (.goto 8, 3) := by decide +kernel
theorem dX13_ground_84 : decode cX13_ground 84 = .ok (.aload_n 0, 1) := by decide +kernel
theorem dX13_ground_85 : decode cX13_ground 85 = .ok (.iconst 3, 1) := by decide +kernel
theorem dX13_ground_86 : decode cX13_ground 86 = .ok (.invokevirtual 130, 3) := by decide +kernel
theorem dX13_ground_89 : decode cX13_ground 89 = .ok (.ireturn, 1) := by decide +kernel
theorem dX13_whyNoGround_0 : decode cX13_whyNoGround 0 = .ok (.aload_n 0, 1) := by decide +kernel
theorem dX13_whyNoGround_1 : decode cX13_whyNoGround 1 = .ok (.iload_n 1, 1) := by decide +kernel
theorem dX13_whyNoGround_2 : decode cX13_whyNoGround 2 = .ok (.invokevirtual 196, 3) := by decide +kernel
theorem dX13_whyNoGround_5 : decode cX13_whyNoGround 5 = .ok (.ifCond .ne 5, 3) := by decide +kernel
theorem dX13_whyNoGround_8 : decode cX13_whyNoGround 8 = .ok (.iconst 1, 1) := by decide +kernel
theorem dX13_whyNoGround_9 : decode cX13_whyNoGround 9 = .ok (.ireturn, 1) := by decide +kernel
theorem dX13_whyNoGround_10 : decode cX13_whyNoGround 10 = .ok (.aload_n 0, 1) := by decide +kernel
theorem dX13_whyNoGround_11 : decode cX13_whyNoGround 11 = .ok (.invokevirtual 172, 3) := by decide +kernel
theorem dX13_whyNoGround_14 : decode cX13_whyNoGround 14 = .ok (.aload_n 0, 1) := by decide +kernel
theorem dX13_whyNoGround_15 : decode cX13_whyNoGround 15 = .ok (.aload_n 0, 1) := by decide +kernel
theorem dX13_whyNoGround_16 : decode cX13_whyNoGround 16 = .ok (.getfield 7, 3) := by decide +kernel
theorem dX13_whyNoGround_19 : decode cX13_whyNoGround 19 = .ok (.sipush 152, 3) := by decide +kernel
theorem dX13_whyNoGround_22 : decode cX13_whyNoGround 22 = .ok (.iload_n 1, 1) := by decide +kernel
theorem dX13_whyNoGround_23 : decode cX13_whyNoGround 23 = .ok (.iadd, 1) := by decide +kernel
theorem dX13_whyNoGround_24 : decode cX13_whyNoGround 24 = .ok (.iaload, 1) := by decide +kernel
theorem dX13_whyNoGround_25 : decode cX13_whyNoGround 25 = .ok (.invokevirtual 208, 3) := by decide +kernel
theorem dX13_whyNoGround_28 : decode cX13_whyNoGround 28 = .ok (.ifCond .eq 7, 3) := by decide +kernel
theorem dX13_whyNoGround_31 : decode cX13_whyNoGround 31 = .ok (.iconst 0, 1) := by decide +kernel
theorem dX13_whyNoGround_32 : decode cX13_whyNoGround 32 = .ok (.goto 4, 3) := by decide +kernel
theorem dX13_whyNoGround_35 : decode cX13_whyNoGround 35 = .ok (.iconst 2, 1) := by decide +kernel
theorem dX13_whyNoGround_36 : decode cX13_whyNoGround 36 = .ok (.ireturn, 1) := by decide +kernel
theorem dX13_wetColumns_0 : decode cX13_wetColumns 0 = .ok (.aload_n 0, 1) := by decide +kernel
theorem dX13_wetColumns_1 : decode cX13_wetColumns 1 = .ok (.iload_n 1, 1) := by decide +kernel
theorem dX13_wetColumns_2 : decode cX13_wetColumns 2 = .ok (.invokevirtual 245, 3) := by decide +kernel
theorem dX13_wetColumns_5 : decode cX13_wetColumns 5 = .ok (.istore_n 2, 1) := by decide +kernel
theorem dX13_wetColumns_6 : decode cX13_wetColumns 6 = .ok (.iload_n 2, 1) := by decide +kernel
theorem dX13_wetColumns_7 : decode cX13_wetColumns 7 = .ok (.ifCond .le 9, 3) := by decide +kernel
theorem dX13_wetColumns_10 : decode cX13_wetColumns 10 = .ok (.aload_n 0, 1) := by decide +kernel
theorem dX13_wetColumns_11 : decode cX13_wetColumns 11 = .ok (.iload_n 2, 1) := by decide +kernel
theorem dX13_wetColumns_12 : decode cX13_wetColumns 12 = .ok (.invokevirtual 130, 3) := by decide +kernel
theorem dX13_wetColumns_15 : decode cX13_wetColumns 15 = .ok (.ireturn, 1) := by decide +kernel
theorem dX13_wetColumns_16 : decode cX13_wetColumns 16 = .ok (.iconst 0, 1) := by decide +kernel
theorem dX13_wetColumns_17 : decode cX13_wetColumns 17 = .ok (.istore_n 3, 1) := by decide +kernel
theorem dX13_wetColumns_18 : decode cX13_wetColumns 18 = .ok (.iconst 0, 1) := by decide +kernel
theorem dX13_wetColumns_19 : decode cX13_wetColumns 19 = .ok (.istore 4, 2) := by decide +kernel
theorem dX13_wetColumns_21 : decode cX13_wetColumns 21 = .ok (.iload 4, 2) := by decide +kernel
theorem dX13_wetColumns_23 : decode cX13_wetColumns 23 = .ok (.bipush 100, 2) := by decide +kernel
theorem dX13_wetColumns_25 : decode cX13_wetColumns 25 = .ok (.if_icmp .ge 58, 3) := by decide +kernel
theorem dX13_wetColumns_28 : decode cX13_wetColumns 28 = .ok (.aload_n 0, 1) := by decide +kernel
theorem dX13_wetColumns_29 : decode cX13_wetColumns 29 = .ok (.getfield 7, 3) := by decide +kernel
theorem dX13_wetColumns_32 : decode cX13_wetColumns 32 = .ok (.sipush 156, 3) := by decide +kernel
theorem dX13_wetColumns_35 : decode cX13_wetColumns 35 = .ok (.iload_n 1, 1) := by decide +kernel
theorem dX13_wetColumns_36 : decode cX13_wetColumns 36 = .ok (.iadd, 1) := by decide +kernel
theorem dX13_wetColumns_37 : decode cX13_wetColumns 37 = .ok (.iaload, 1) := by decide +kernel
theorem dX13_wetColumns_38 : decode cX13_wetColumns 38 = .ok (.ifCond .le 45, 3) := by decide +kernel
theorem dX13_wetColumns_41 : decode cX13_wetColumns 41 = .ok (.iload_n 3, 1) := by decide +kernel
theorem dX13_wetColumns_42 : decode cX13_wetColumns 42 = .ok (.iload 4, 2) := by decide +kernel
theorem dX13_wetColumns_44 : decode cX13_wetColumns 44 = .ok (.aload_n 0, 1) := by decide +kernel
theorem dX13_wetColumns_45 : decode cX13_wetColumns 45 = .ok (.iload_n 1, 1) := by decide +kernel
theorem dX13_wetColumns_46 : decode cX13_wetColumns 46 = .ok (.invokevirtual 239, 3) := by decide +kernel
theorem dX13_wetColumns_49 : decode cX13_wetColumns 49 = .ok (.aload_n 0, 1) := by decide +kernel
theorem dX13_wetColumns_50 : decode cX13_wetColumns 50 = .ok (.iload_n 1, 1) := by decide +kernel
theorem dX13_wetColumns_51 : decode cX13_wetColumns 51 = .ok (.invokevirtual 242, 3) := by decide +kernel
theorem dX13_wetColumns_54 : decode cX13_wetColumns 54 = .ok (.invokestatic 71, 3) := by decide +kernel
theorem dX13_wetColumns_57 : decode cX13_wetColumns 57 = .ok (.ifCond .eq 17, 3) := by decide +kernel
theorem dX13_wetColumns_60 : decode cX13_wetColumns 60 = .ok (.aload_n 0, 1) := by decide +kernel
theorem dX13_wetColumns_61 : decode cX13_wetColumns 61 = .ok (.iload_n 1, 1) := by decide +kernel
theorem dX13_wetColumns_62 : decode cX13_wetColumns 62 = .ok (.iload 4, 2) := by decide +kernel
theorem dX13_wetColumns_64 : decode cX13_wetColumns 64 = .ok (.invokevirtual 248, 3) := by decide +kernel
theorem dX13_wetColumns_67 : decode cX13_wetColumns 67 = .ok (.ifCond .eq 7, 3) := by decide +kernel
theorem dX13_wetColumns_70 : decode cX13_wetColumns 70 = .ok (.iconst 1, 1) := by decide +kernel
theorem dX13_wetColumns_71 : decode cX13_wetColumns 71 = .ok (.goto 4, 3) := by decide +kernel
theorem dX13_wetColumns_74 : decode cX13_wetColumns 74 = .ok (.iconst 0, 1) := by decide +kernel
theorem dX13_wetColumns_75 : decode cX13_wetColumns 75 = .ok (.iadd, 1) := by decide +kernel
theorem dX13_wetColumns_76 : decode cX13_wetColumns 76 = .ok (.istore_n 3, 1) := by decide +kernel
theorem dX13_wetColumns_77 : decode cX13_wetColumns 77 = .ok (.iinc 4 1, 3) := by decide +kernel
theorem dX13_wetColumns_80 : decode cX13_wetColumns 80 = .ok (.goto (-59), 3) := by decide +kernel
theorem dX13_wetColumns_83 : decode cX13_wetColumns 83 = .ok (.aload_n 0, 1) := by decide +kernel
theorem dX13_wetColumns_84 : decode cX13_wetColumns 84 = .ok (.iload_n 3, 1) := by decide +kernel
theorem dX13_wetColumns_85 : decode cX13_wetColumns 85 = .ok (.invokevirtual 133, 3) := by decide +kernel
theorem dX13_wetColumns_88 : decode cX13_wetColumns 88 = .ok (.ireturn, 1) := by decide +kernel
theorem dX13_wetColumnsBySegments_0 : decode cX13_wetColumnsBySegments 0 = .ok (.aload_n 0, 1) := by decide +kernel
theorem dX13_wetColumnsBySegments_1 : decode cX13_wetColumnsBySegments 1 = .ok (.iload_n 1, 1) := by decide +kernel
theorem dX13_wetColumnsBySegments_2 : decode cX13_wetColumnsBySegments 2 = .ok (.invokevirtual 251, 3) := by decide +kernel
theorem dX13_wetColumnsBySegments_5 : decode cX13_wetColumnsBySegments 5 = .ok (.ireturn, 1) := by decide +kernel
theorem dX13_shores_0 : decode cX13_shores 0 = .ok (.aload_n 0, 1) := by decide +kernel
theorem dX13_shores_1 : decode cX13_shores 1 = .ok (.iload_n 1, 1) := by decide +kernel
theorem dX13_shores_2 : decode cX13_shores 2 = .ok (.invokevirtual 245, 3) := by decide +kernel
theorem dX13_shores_5 : decode cX13_shores 5 = .ok (.istore_n 2, 1) := by decide +kernel
theorem dX13_shores_6 : decode cX13_shores 6 = .ok (.iload_n 2, 1) := by decide +kernel
theorem dX13_shores_7 : decode cX13_shores 7 = .ok (.ifCond .le 9, 3) := by decide +kernel
theorem dX13_shores_10 : decode cX13_shores 10 = .ok (.aload_n 0, 1) := by decide +kernel
theorem dX13_shores_11 : decode cX13_shores 11 = .ok (.iload_n 2, 1) := by decide +kernel
theorem dX13_shores_12 : decode cX13_shores 12 = .ok (.invokevirtual 130, 3) := by decide +kernel
theorem dX13_shores_15 : decode cX13_shores 15 = .ok (.ireturn, 1) := by decide +kernel
theorem dX13_shores_16 : decode cX13_shores 16 = .ok (.iconst 0, 1) := by decide +kernel
theorem dX13_shores_17 : decode cX13_shores 17 = .ok (.istore_n 3, 1) := by decide +kernel
theorem dX13_shores_18 : decode cX13_shores 18 = .ok (.iconst 1, 1) := by decide +kernel
theorem dX13_shores_19 : decode cX13_shores 19 = .ok (.istore 4, 2) := by decide +kernel
theorem dX13_shores_21 : decode cX13_shores 21 = .ok (.iload 4, 2) := by decide +kernel
theorem dX13_shores_23 : decode cX13_shores 23 = .ok (.bipush 100, 2) := by decide +kernel
theorem dX13_shores_25 : decode cX13_shores 25 = .ok (.if_icmp .ge 81, 3) := by decide +kernel
theorem dX13_shores_28 : decode cX13_shores 28 = .ok (.aload_n 0, 1) := by decide +kernel
theorem dX13_shores_29 : decode cX13_shores 29 = .ok (.getfield 7, 3) := by decide +kernel
theorem dX13_shores_32 : decode cX13_shores 32 = .ok (.sipush 156, 3) := by decide +kernel
theorem dX13_shores_35 : decode cX13_shores 35 = .ok (.iload_n 1, 1) := by decide +kernel
theorem dX13_shores_36 : decode cX13_shores 36 = .ok (.iadd, 1) := by decide +kernel
theorem dX13_shores_37 : decode cX13_shores 37 = .ok (.iaload, 1) := by decide +kernel
theorem dX13_shores_38 : decode cX13_shores 38 = .ok (.ifCond .le 68, 3) := by decide +kernel
theorem dX13_shores_41 : decode cX13_shores 41 = .ok (.iload 4, 2) := by decide +kernel
theorem dX13_shores_43 : decode cX13_shores 43 = .ok (.aload_n 0, 1) := by decide +kernel
theorem dX13_shores_44 : decode cX13_shores 44 = .ok (.iload_n 1, 1) := by decide +kernel
theorem dX13_shores_45 : decode cX13_shores 45 = .ok (.invokevirtual 239, 3) := by decide +kernel
theorem dX13_shores_48 : decode cX13_shores 48 = .ok (.if_icmp .le 17, 3) := by decide +kernel
theorem dX13_shores_51 : decode cX13_shores 51 = .ok (.iload 4, 2) := by decide +kernel
theorem dX13_shores_53 : decode cX13_shores 53 = .ok (.aload_n 0, 1) := by decide +kernel
theorem dX13_shores_54 : decode cX13_shores 54 = .ok (.iload_n 1, 1) := by decide +kernel
theorem dX13_shores_55 : decode cX13_shores 55 = .ok (.invokevirtual 242, 3) := by decide +kernel
theorem dX13_shores_58 : decode cX13_shores 58 = .ok (.if_icmp .gt 7, 3) := by decide +kernel
theorem dX13_shores_61 : decode cX13_shores 61 = .ok (.iconst 1, 1) := by decide +kernel
theorem dX13_shores_62 : decode cX13_shores 62 = .ok (.goto 4, 3) := by decide +kernel
theorem dX13_shores_65 : decode cX13_shores 65 = .ok (.iconst 0, 1) := by decide +kernel
theorem dX13_shores_66 : decode cX13_shores 66 = .ok (.istore 5, 2) := by decide +kernel
theorem dX13_shores_68 : decode cX13_shores 68 = .ok (.iload_n 3, 1) := by decide +kernel
theorem dX13_shores_69 : decode cX13_shores 69 = .ok (.iload 5, 2) := by decide +kernel
theorem dX13_shores_71 : decode cX13_shores 71 = .ok (.ifCond .eq 26, 3) := by decide +kernel
theorem dX13_shores_74 : decode cX13_shores 74 = .ok (.aload_n 0, 1) := by decide +kernel
theorem dX13_shores_75 : decode cX13_shores 75 = .ok (.iload_n 1, 1) := by decide +kernel
theorem dX13_shores_76 : decode cX13_shores 76 = .ok (.iload 4, 2) := by decide +kernel
theorem dX13_shores_78 : decode cX13_shores 78 = .ok (.invokevirtual 248, 3) := by decide +kernel
theorem dX13_shores_81 : decode cX13_shores 81 = .ok (.aload_n 0, 1) := by decide +kernel
theorem dX13_shores_82 : decode cX13_shores 82 = .ok (.iload_n 1, 1) := by decide +kernel
theorem dX13_shores_83 : decode cX13_shores 83 = .ok (.iload 4, 2) := by decide +kernel
theorem dX13_shores_85 : decode cX13_shores 85 = .ok (.iconst 1, 1) := by decide +kernel
theorem dX13_shores_86 : decode cX13_shores 86 = .ok (.isub, 1) := by decide +kernel
theorem dX13_shores_87 : decode cX13_shores 87 = .ok (.invokevirtual 248, 3) := by decide +kernel
theorem dX13_shores_90 : decode cX13_shores 90 = .ok (.if_icmp .eq 7, 3) := by decide +kernel
theorem dX13_shores_93 : decode cX13_shores 93 = .ok (.iconst 1, 1) := by decide +kernel
theorem dX13_shores_94 : decode cX13_shores 94 = .ok (.goto 4, 3) := by decide +kernel
theorem dX13_shores_97 : decode cX13_shores 97 = .ok (.iconst 0, 1) := by decide +kernel
theorem dX13_shores_98 : decode cX13_shores 98 = .ok (.iadd, 1) := by decide +kernel
theorem dX13_shores_99 : decode cX13_shores 99 = .ok (.istore_n 3, 1) := by decide +kernel
theorem dX13_shores_100 : decode cX13_shores 100 = .ok (.iinc 4 1, 3) := by decide +kernel
theorem dX13_shores_103 : decode cX13_shores 103 = .ok (.goto (-82), 3) := by decide +kernel
theorem dX13_shores_106 : decode cX13_shores 106 = .ok (.aload_n 0, 1) := by decide +kernel
theorem dX13_shores_107 : decode cX13_shores 107 = .ok (.iload_n 3, 1) := by decide +kernel
theorem dX13_shores_108 : decode cX13_shores 108 = .ok (.invokevirtual 133, 3) := by decide +kernel
theorem dX13_shores_111 : decode cX13_shores 111 = .ok (.ireturn, 1) := by decide +kernel
theorem dX13_lowestColumn_0 : decode cX13_lowestColumn 0 = .ok (.aload_n 0, 1) := by decide +kernel
theorem dX13_lowestColumn_1 : decode cX13_lowestColumn 1 = .ok (.iload_n 1, 1) := by decide +kernel
theorem dX13_lowestColumn_2 : decode cX13_lowestColumn 2 = .ok (.invokevirtual 196, 3) := by decide +kernel
theorem dX13_lowestColumn_5 : decode cX13_lowestColumn 5 = .ok (.ifCond .ne 9, 3) := by decide +kernel
theorem dX13_lowestColumn_8 : decode cX13_lowestColumn 8 = .ok (.aload_n 0, 1) := by decide +kernel
theorem dX13_lowestColumn_9 : decode cX13_lowestColumn 9 = .ok (.iconst 1, 1) := by decide +kernel
theorem dX13_lowestColumn_10 : decode cX13_lowestColumn 10 = .ok (.invokevirtual 130, 3) := by decide +kernel
theorem dX13_lowestColumn_13 : decode cX13_lowestColumn 13 = .ok (.ireturn, 1) := by decide +kernel
theorem dX13_lowestColumn_14 : decode cX13_lowestColumn 14 = .ok (.aload_n 0, 1) := by decide +kernel
theorem dX13_lowestColumn_15 : decode cX13_lowestColumn 15 = .ok (.getfield 7, 3) := by decide +kernel
theorem dX13_lowestColumn_18 : decode cX13_lowestColumn 18 = .ok (.sipush 156, 3) := by decide +kernel
theorem dX13_lowestColumn_21 : decode cX13_lowestColumn 21 = .ok (.iload_n 1, 1) := by decide +kernel
theorem dX13_lowestColumn_22 : decode cX13_lowestColumn 22 = .ok (.iadd, 1) := by decide +kernel
theorem dX13_lowestColumn_23 : decode cX13_lowestColumn 23 = .ok (.iaload, 1) := by decide +kernel
theorem dX13_lowestColumn_24 : decode cX13_lowestColumn 24 = .ok (.ifCond .ne 9, 3) := by decide +kernel
theorem dX13_lowestColumn_27 : decode cX13_lowestColumn 27 = .ok (.aload_n 0, 1) := by decide +kernel
theorem dX13_lowestColumn_28 : decode cX13_lowestColumn 28 = .ok (.iconst 2, 1) := by decide +kernel
theorem dX13_lowestColumn_29 : decode cX13_lowestColumn 29 = .ok (.invokevirtual 130, 3) := by decide +kernel
theorem dX13_lowestColumn_32 : decode cX13_lowestColumn 32 = .ok (.ireturn, 1) := by decide +kernel
theorem dX13_lowestColumn_33 : decode cX13_lowestColumn 33 = .ok (.aload_n 0, 1) := by decide +kernel
theorem dX13_lowestColumn_34 : decode cX13_lowestColumn 34 = .ok (.iload_n 1, 1) := by decide +kernel
theorem dX13_lowestColumn_35 : decode cX13_lowestColumn 35 = .ok (.invokevirtual 239, 3) := by decide +kernel
theorem dX13_lowestColumn_38 : decode cX13_lowestColumn 38 = .ok (.istore_n 2, 1) := by decide +kernel
theorem dX13_lowestColumn_39 : decode cX13_lowestColumn 39 = .ok (.iload_n 2, 1) := by decide +kernel
theorem dX13_lowestColumn_40 : decode cX13_lowestColumn 40 = .ok (.iconst 1, 1) := by decide +kernel
theorem dX13_lowestColumn_41 : decode cX13_lowestColumn 41 = .ok (.iadd, 1) := by decide +kernel
theorem dX13_lowestColumn_42 : decode cX13_lowestColumn 42 = .ok (.istore_n 3, 1) := by decide +kernel
theorem dX13_lowestColumn_43 : decode cX13_lowestColumn 43 = .ok (.iload_n 3, 1) := by decide +kernel
theorem dX13_lowestColumn_44 : decode cX13_lowestColumn 44 = .ok (.aload_n 0, 1) := by decide +kernel
theorem dX13_lowestColumn_45 : decode cX13_lowestColumn 45 = .ok (.iload_n 1, 1) := by decide +kernel
theorem dX13_lowestColumn_46 : decode cX13_lowestColumn 46 = .ok (.invokevirtual 242, 3) := by decide +kernel
theorem dX13_lowestColumn_49 : decode cX13_lowestColumn 49 = .ok (.if_icmp .gt 30, 3) := by decide +kernel
theorem dX13_lowestColumn_52 : decode cX13_lowestColumn 52 = .ok (.aload_n 0, 1) := by decide +kernel
theorem dX13_lowestColumn_53 : decode cX13_lowestColumn 53 = .ok (.iload_n 1, 1) := by decide +kernel
theorem dX13_lowestColumn_54 : decode cX13_lowestColumn 54 = .ok (.iload_n 3, 1) := by decide +kernel
theorem dX13_lowestColumn_55 : decode cX13_lowestColumn 55 = .ok (.invokevirtual 233, 3) := by decide +kernel
theorem dX13_lowestColumn_58 : decode cX13_lowestColumn 58 = .ok (.aload_n 0, 1) := by decide +kernel
theorem dX13_lowestColumn_59 : decode cX13_lowestColumn 59 = .ok (.iload_n 1, 1) := by decide +kernel
theorem dX13_lowestColumn_60 : decode cX13_lowestColumn 60 = .ok (.iload_n 2, 1) := by decide +kernel
theorem dX13_lowestColumn_61 : decode cX13_lowestColumn 61 = .ok (.invokevirtual 233, 3) := by decide +kernel
theorem dX13_lowestColumn_64 : decode cX13_lowestColumn 64 = .ok (.if_icmp .ge 7, 3) := by decide +kernel
theorem dX13_lowestColumn_67 : decode cX13_lowestColumn 67 = .ok (.iload_n 3, 1) := by decide +kernel
theorem dX13_lowestColumn_68 : decode cX13_lowestColumn 68 = .ok (.goto 4, 3) := by decide +kernel
theorem dX13_lowestColumn_71 : decode cX13_lowestColumn 71 = .ok (.iload_n 2, 1) := by decide +kernel
theorem dX13_lowestColumn_72 : decode cX13_lowestColumn 72 = .ok (.istore_n 2, 1) := by decide +kernel
theorem dX13_lowestColumn_73 : decode cX13_lowestColumn 73 = .ok (.iinc 3 1, 3) := by decide +kernel
theorem dX13_lowestColumn_76 : decode cX13_lowestColumn 76 = .ok (.goto (-33), 3) := by decide +kernel
theorem dX13_lowestColumn_79 : decode cX13_lowestColumn 79 = .ok (.aload_n 0, 1) := by decide +kernel
theorem dX13_lowestColumn_80 : decode cX13_lowestColumn 80 = .ok (.iload_n 2, 1) := by decide +kernel
theorem dX13_lowestColumn_81 : decode cX13_lowestColumn 81 = .ok (.invokevirtual 133, 3) := by decide +kernel
theorem dX13_lowestColumn_84 : decode cX13_lowestColumn 84 = .ok (.ireturn, 1) := by decide +kernel
theorem dX13_meanLength_0 : decode cX13_meanLength 0 = .ok (.iconst 0, 1) := by decide +kernel
theorem dX13_meanLength_1 : decode cX13_meanLength 1 = .ok (.istore_n 1, 1) := by decide +kernel
theorem dX13_meanLength_2 : decode cX13_meanLength 2 = .ok (.iconst 0, 1) := by decide +kernel
theorem dX13_meanLength_3 : decode cX13_meanLength 3 = .ok (.istore_n 2, 1) := by decide +kernel
theorem dX13_meanLength_4 : decode cX13_meanLength 4 = .ok (.iload_n 2, 1) := by decide +kernel
theorem dX13_meanLength_5 : decode cX13_meanLength 5 = .ok (.aload_n 0, 1) := by decide +kernel
theorem dX13_meanLength_6 : decode cX13_meanLength 6 = .ok (.getfield 7, 3) := by decide +kernel
theorem dX13_meanLength_9 : decode cX13_meanLength 9 = .ok (.iconst 1, 1) := by decide +kernel
theorem dX13_meanLength_10 : decode cX13_meanLength 10 = .ok (.iaload, 1) := by decide +kernel
theorem dX13_meanLength_11 : decode cX13_meanLength 11 = .ok (.if_icmp .ge 33, 3) := by decide +kernel
theorem dX13_meanLength_14 : decode cX13_meanLength 14 = .ok (.iload_n 1, 1) := by decide +kernel
theorem dX13_meanLength_15 : decode cX13_meanLength 15 = .ok (.aload_n 0, 1) := by decide +kernel
theorem dX13_meanLength_16 : decode cX13_meanLength 16 = .ok (.iload_n 2, 1) := by decide +kernel
theorem dX13_meanLength_17 : decode cX13_meanLength 17 = .ok (.invokevirtual 85, 3) := by decide +kernel
theorem dX13_meanLength_20 : decode cX13_meanLength 20 = .ok (.ifCond .eq 15, 3) := by decide +kernel
theorem dX13_meanLength_23 : decode cX13_meanLength 23 = .ok (.aload_n 0, 1) := by decide +kernel
theorem dX13_meanLength_24 : decode cX13_meanLength 24 = .ok (.getfield 7, 3) := by decide +kernel
theorem dX13_meanLength_27 : decode cX13_meanLength 27 = .ok (.bipush 56, 2) := by decide +kernel
theorem dX13_meanLength_29 : decode cX13_meanLength 29 = .ok (.iload_n 2, 1) := by decide +kernel
theorem dX13_meanLength_30 : decode cX13_meanLength 30 = .ok (.iadd, 1) := by decide +kernel
theorem dX13_meanLength_31 : decode cX13_meanLength 31 = .ok (.iaload, 1) := by decide +kernel
theorem dX13_meanLength_32 : decode cX13_meanLength 32 = .ok (.goto 4, 3) := by decide +kernel
theorem dX13_meanLength_35 : decode cX13_meanLength 35 = .ok (.iconst 0, 1) := by decide +kernel
theorem dX13_meanLength_36 : decode cX13_meanLength 36 = .ok (.iadd, 1) := by decide +kernel
theorem dX13_meanLength_37 : decode cX13_meanLength 37 = .ok (.istore_n 1, 1) := by decide +kernel
theorem dX13_meanLength_38 : decode cX13_meanLength 38 = .ok (.iinc 2 1, 3) := by decide +kernel
theorem dX13_meanLength_41 : decode cX13_meanLength 41 = .ok (.goto (-37), 3) := by decide +kernel
theorem dX13_meanLength_44 : decode cX13_meanLength 44 = .ok (.aload_n 0, 1) := by decide +kernel
theorem dX13_meanLength_45 : decode cX13_meanLength 45 = .ok (.aload_n 0, 1) := by decide +kernel
theorem dX13_meanLength_46 : decode cX13_meanLength 46 = .ok (.invokevirtual 166, 3) := by decide +kernel
theorem dX13_meanLength_49 : decode cX13_meanLength 49 = .ok (.ifCond .ne 7, 3) := by decide +kernel
theorem dX13_meanLength_52 : decode cX13_meanLength 52 = .ok (.iconst 1, 1) := by decide +kernel
theorem dX13_meanLength_53 : decode cX13_meanLength 53 = .ok (.goto 4, 3) := by decide +kernel
theorem dX13_meanLength_56 : decode cX13_meanLength 56 = .ok (.iconst 0, 1) := by decide +kernel
theorem dX13_meanLength_57 : decode cX13_meanLength 57 = .ok (.putfield 61, 3) := by decide +kernel
theorem dX13_meanLength_60 : decode cX13_meanLength 60 = .ok (.aload_n 0, 1) := by decide +kernel
theorem dX13_meanLength_61 : decode cX13_meanLength 61 = .ok (.getfield 61, 3) := by decide +kernel
theorem dX13_meanLength_64 : decode cX13_meanLength 64 = .ok (.ifCond .ne 14, 3) := by decide +kernel
theorem dX13_meanLength_67 : decode cX13_meanLength 67 = .ok (.iload_n 1, 1) := by decide +kernel
theorem dX13_meanLength_68 : decode cX13_meanLength 68 = .ok (.i2d, 1) := by decide +kernel
theorem dX13_meanLength_69 : decode cX13_meanLength 69 = .ok (.aload_n 0, 1) := by decide +kernel
theorem dX13_meanLength_70 : decode cX13_meanLength 70 = .ok (.invokevirtual 166, 3) := by decide +kernel
theorem dX13_meanLength_73 : decode cX13_meanLength 73 = .ok (.i2d, 1) := by decide +kernel
theorem dX13_meanLength_74 : decode cX13_meanLength 74 = .ok (.ddiv, 1) := by decide +kernel
theorem dX13_meanLength_75 : decode cX13_meanLength 75 = .ok (.goto 4, 3) := by decide +kernel
theorem dX13_meanLength_78 : decode cX13_meanLength 78 = .ok (.dconst 0, 1) := by decide +kernel
theorem dX13_meanLength_79 : decode cX13_meanLength 79 = .ok (.dreturn, 1) := by decide +kernel
theorem dX13_usableShare_0 : decode cX13_usableShare 0 = .ok (.aload_n 0, 1) := by decide +kernel
theorem dX13_usableShare_1 : decode cX13_usableShare 1 = .ok (.aload_n 0, 1) := by decide +kernel
theorem dX13_usableShare_2 : decode cX13_usableShare 2 = .ok (.getfield 7, 3) := by decide +kernel
theorem dX13_usableShare_5 : decode cX13_usableShare 5 = .ok (.iconst 1, 1) := by decide +kernel
theorem dX13_usableShare_6 : decode cX13_usableShare 6 = .ok (.iaload, 1) := by decide +kernel
theorem dX13_usableShare_7 : decode cX13_usableShare 7 = .ok (.ifCond .ne 7, 3) := by decide +kernel
theorem dX13_usableShare_10 : decode cX13_usableShare 10 = .ok (.iconst 1, 1) := by decide +kernel
theorem dX13_usableShare_11 : decode cX13_usableShare 11 = .ok (.goto 4, 3) := by decide +kernel
theorem dX13_usableShare_14 : decode cX13_usableShare 14 = .ok (.iconst 0, 1) := by decide +kernel
theorem dX13_usableShare_15 : decode cX13_usableShare 15 = .ok (.putfield 61, 3) := by decide +kernel
theorem dX13_usableShare_18 : decode cX13_usableShare 18 = .ok (.aload_n 0, 1) := by decide +kernel
theorem dX13_usableShare_19 : decode cX13_usableShare 19 = .ok (.getfield 61, 3) := by decide +kernel
theorem dX13_usableShare_22 : decode cX13_usableShare 22 = .ok (.ifCond .ne 19, 3) := by decide +kernel
theorem dX13_usableShare_25 : decode cX13_usableShare 25 = .ok (.aload_n 0, 1) := by decide +kernel
theorem dX13_usableShare_26 : decode cX13_usableShare 26 = .ok (.invokevirtual 166, 3) := by decide +kernel
theorem dX13_usableShare_29 : decode cX13_usableShare 29 = .ok (.i2f, 1) := by decide +kernel
theorem dX13_usableShare_30 : decode cX13_usableShare 30 = .ok (.aload_n 0, 1) := by decide +kernel
theorem dX13_usableShare_31 : decode cX13_usableShare 31 = .ok (.getfield 7, 3) := by decide +kernel
theorem dX13_usableShare_34 : decode cX13_usableShare 34 = .ok (.iconst 1, 1) := by decide +kernel
theorem dX13_usableShare_35 : decode cX13_usableShare 35 = .ok (.iaload, 1) := by decide +kernel
theorem dX13_usableShare_36 : decode cX13_usableShare 36 = .ok (.i2f, 1) := by decide +kernel
theorem dX13_usableShare_37 : decode cX13_usableShare 37 = .ok (.fdiv, 1) := by decide +kernel
theorem dX13_usableShare_38 : decode cX13_usableShare 38 = .ok (.goto 4, 3) := by decide +kernel
theorem dX13_usableShare_41 : decode cX13_usableShare 41 = .ok (.fconst 0, 1) := by decide +kernel
theorem dX13_usableShare_42 : decode cX13_usableShare 42 = .ok (.freturn, 1) := by decide +kernel
theorem dX13_isConsistent_0 : decode cX13_isConsistent 0 = .ok (.aload_n 0, 1) := by decide +kernel
theorem dX13_isConsistent_1 : decode cX13_isConsistent 1 = .ok (.iconst 0, 1) := by decide +kernel
theorem dX13_isConsistent_2 : decode cX13_isConsistent 2 = .ok (.putfield 61, 3) := by decide +kernel
theorem dX13_isConsistent_5 : decode cX13_isConsistent 5 = .ok (.iconst 1, 1) := by decide +kernel
theorem dX13_isConsistent_6 : decode cX13_isConsistent 6 = .ok (.ireturn, 1) := by decide +kernel
theorem dX13_writes_0 : decode cX13_writes 0 = .ok (.aload_n 0, 1) := by decide +kernel
theorem dX13_writes_1 : decode cX13_writes 1 = .ok (.getfield 33, 3) := by decide +kernel
theorem dX13_writes_4 : decode cX13_writes 4 = .ok (.aload_n 0, 1) := by decide +kernel
theorem dX13_writes_5 : decode cX13_writes 5 = .ok (.getfield 254, 3) := by decide +kernel
theorem dX13_writes_8 : decode cX13_writes 8 = .ok (.iload_n 1, 1) := by decide +kernel
theorem dX13_writes_9 : decode cX13_writes 9 = .ok (.i2c, 1) := by decide +kernel
theorem dX13_writes_10 : decode cX13_writes 10 = .ok (.castore, 1) := by decide +kernel
theorem dX13_writes_11 : decode cX13_writes 11 = .ok (.aload_n 0, 1) := by decide +kernel
theorem dX13_writes_12 : decode cX13_writes 12 = .ok (.dup, 1) := by decide +kernel
theorem dX13_writes_13 : decode cX13_writes 13 = .ok (.getfield 254, 3) := by decide +kernel
theorem dX13_writes_16 : decode cX13_writes 16 = .ok (.iconst 1, 1) := by decide +kernel
theorem dX13_writes_17 : decode cX13_writes 17 = .ok (.iadd, 1) := by decide +kernel
theorem dX13_writes_18 : decode cX13_writes 18 = .ok (.putfield 254, 3) := by decide +kernel
theorem dX13_writes_21 : decode cX13_writes 21 = .ok (.return_, 1) := by decide +kernel
theorem dX13_writesNumber_0 : decode cX13_writesNumber 0 = .ok (.iload_n 1, 1) := by decide +kernel
theorem dX13_writesNumber_1 : decode cX13_writesNumber 1 = .ok (.ifCond .ge 9, 3) := by decide +kernel
theorem dX13_writesNumber_4 : decode cX13_writesNumber 4 = .ok (.aload_n 0, 1) := by decide +kernel
theorem dX13_writesNumber_5 : decode cX13_writesNumber 5 = .ok (.bipush 45, 2) := by decide +kernel
theorem dX13_writesNumber_7 : decode cX13_writesNumber 7 = .ok (.invokevirtual 257, 3) := by decide +kernel
theorem dX13_writesNumber_10 : decode cX13_writesNumber 10 = .ok (.iload_n 1, 1) := by decide +kernel
theorem dX13_writesNumber_11 : decode cX13_writesNumber 11 = .ok (.invokestatic 79, 3) := by decide +kernel
theorem dX13_writesNumber_14 : decode cX13_writesNumber 14 = .ok (.istore_n 2, 1) := by decide +kernel
theorem dX13_writesNumber_15 : decode cX13_writesNumber 15 = .ok (.ldc_w 260, 3) := by decide +kernel
theorem dX13_writesNumber_18 : decode cX13_writesNumber 18 = .ok (.istore_n 3, 1) := by decide +kernel
theorem dX13_writesNumber_19 : decode cX13_writesNumber 19 = .ok (.iload_n 3, 1) := by decide +kernel
theorem dX13_writesNumber_20 : decode cX13_writesNumber 20 = .ok (.iconst 1, 1) := by decide +kernel
theorem dX13_writesNumber_21 : decode cX13_writesNumber 21 = .ok (.if_icmp .le 16, 3) := by decide +kernel
theorem dX13_writesNumber_24 : decode cX13_writesNumber 24 = .ok (.iload_n 2, 1) := by decide +kernel
theorem dX13_writesNumber_25 : decode cX13_writesNumber 25 = .ok (.iload_n 3, 1) := by decide +kernel
theorem dX13_writesNumber_26 : decode cX13_writesNumber 26 = .ok (.if_icmp .ge 11, 3) := by decide +kernel
theorem dX13_writesNumber_29 : decode cX13_writesNumber 29 = .ok (.iload_n 3, 1) := by decide +kernel
theorem dX13_writesNumber_30 : decode cX13_writesNumber 30 = .ok (.bipush 10, 2) := by decide +kernel
theorem dX13_writesNumber_32 : decode cX13_writesNumber 32 = .ok (.idiv, 1) := by decide +kernel
theorem dX13_writesNumber_33 : decode cX13_writesNumber 33 = .ok (.istore_n 3, 1) := by decide +kernel
theorem dX13_writesNumber_34 : decode cX13_writesNumber 34 = .ok (.goto (-15), 3) := by decide +kernel
theorem dX13_writesNumber_37 : decode cX13_writesNumber 37 = .ok (.iload_n 3, 1) := by decide +kernel
theorem dX13_writesNumber_38 : decode cX13_writesNumber 38 = .ok (.ifCond .le 24, 3) := by decide +kernel
theorem dX13_writesNumber_41 : decode cX13_writesNumber 41 = .ok (.aload_n 0, 1) := by decide +kernel
theorem dX13_writesNumber_42 : decode cX13_writesNumber 42 = .ok (.bipush 48, 2) := by decide +kernel
theorem dX13_writesNumber_44 : decode cX13_writesNumber 44 = .ok (.iload_n 2, 1) := by decide +kernel
theorem dX13_writesNumber_45 : decode cX13_writesNumber 45 = .ok (.iload_n 3, 1) := by decide +kernel
theorem dX13_writesNumber_46 : decode cX13_writesNumber 46 = .ok (.idiv, 1) := by decide +kernel
theorem dX13_writesNumber_47 : decode cX13_writesNumber 47 = .ok (.bipush 10, 2) := by decide +kernel
theorem dX13_writesNumber_49 : decode cX13_writesNumber 49 = .ok (.irem, 1) := by decide +kernel
theorem dX13_writesNumber_50 : decode cX13_writesNumber 50 = .ok (.iadd, 1) := by decide +kernel
theorem dX13_writesNumber_51 : decode cX13_writesNumber 51 = .ok (.invokevirtual 257, 3) := by decide +kernel
theorem dX13_writesNumber_54 : decode cX13_writesNumber 54 = .ok (.iload_n 3, 1) := by decide +kernel
theorem dX13_writesNumber_55 : decode cX13_writesNumber 55 = .ok (.bipush 10, 2) := by decide +kernel
theorem dX13_writesNumber_57 : decode cX13_writesNumber 57 = .ok (.idiv, 1) := by decide +kernel
theorem dX13_writesNumber_58 : decode cX13_writesNumber 58 = .ok (.istore_n 3, 1) := by decide +kernel
theorem dX13_writesNumber_59 : decode cX13_writesNumber 59 = .ok (.goto (-22), 3) := by decide +kernel
theorem dX13_writesNumber_62 : decode cX13_writesNumber 62 = .ok (.return_, 1) := by decide +kernel
theorem dX13_renderLine_0 : decode cX13_renderLine 0 = .ok (.aload_n 0, 1) := by decide +kernel
theorem dX13_renderLine_1 : decode cX13_renderLine 1 = .ok (.iload_n 1, 1) := by decide +kernel
theorem dX13_renderLine_2 : decode cX13_renderLine 2 = .ok (.invokevirtual 160, 3) := by decide +kernel
theorem dX13_renderLine_5 : decode cX13_renderLine 5 = .ok (.ifCond .ne 9, 3) := by decide +kernel
theorem dX13_renderLine_8 : decode cX13_renderLine 8 = .ok (.aload_n 0, 1) := by decide +kernel
theorem dX13_renderLine_9 : decode cX13_renderLine 9 = .ok (.iconst 1, 1) := by decide +kernel
theorem dX13_renderLine_10 : decode cX13_renderLine 10 = .ok (.invokevirtual 130, 3) := by decide +kernel
theorem dX13_renderLine_13 : decode cX13_renderLine 13 = .ok (.ireturn, 1) := by decide +kernel
theorem dX13_renderLine_14 : decode cX13_renderLine 14 = .ok (.aload_n 0, 1) := by decide +kernel
theorem dX13_renderLine_15 : decode cX13_renderLine 15 = .ok (.invokevirtual 172, 3) := by decide +kernel
theorem dX13_renderLine_18 : decode cX13_renderLine 18 = .ok (.aload_n 0, 1) := by decide +kernel
theorem dX13_renderLine_19 : decode cX13_renderLine 19 = .ok (.iconst 0, 1) := by decide +kernel
theorem dX13_renderLine_20 : decode cX13_renderLine 20 = .ok (.putfield 254, 3) := by decide +kernel
theorem dX13_renderLine_23 : decode cX13_renderLine 23 = .ok (.aload_n 0, 1) := by decide +kernel
theorem dX13_renderLine_24 : decode cX13_renderLine 24 = .ok (.iload_n 1, 1) := by decide +kernel
theorem dX13_renderLine_25 : decode cX13_renderLine 25 = .ok (.invokevirtual 261, 3) := by decide +kernel
theorem dX13_renderLine_28 : decode cX13_renderLine 28 = .ok (.aload_n 0, 1) := by decide +kernel
theorem dX13_renderLine_29 : decode cX13_renderLine 29 = .ok (.bipush 58, 2) := by decide +kernel
theorem dX13_renderLine_31 : decode cX13_renderLine 31 = .ok (.invokevirtual 257, 3) := by decide +kernel
theorem dX13_renderLine_34 : decode cX13_renderLine 34 = .ok (.aload_n 0, 1) := by decide +kernel
theorem dX13_renderLine_35 : decode cX13_renderLine 35 = .ok (.aload_n 0, 1) := by decide +kernel
theorem dX13_renderLine_36 : decode cX13_renderLine 36 = .ok (.getfield 7, 3) := by decide +kernel
theorem dX13_renderLine_39 : decode cX13_renderLine 39 = .ok (.bipush 24, 2) := by decide +kernel
theorem dX13_renderLine_41 : decode cX13_renderLine 41 = .ok (.iload_n 1, 1) := by decide +kernel
theorem dX13_renderLine_42 : decode cX13_renderLine 42 = .ok (.iadd, 1) := by decide +kernel
theorem dX13_renderLine_43 : decode cX13_renderLine 43 = .ok (.iaload, 1) := by decide +kernel
theorem dX13_renderLine_44 : decode cX13_renderLine 44 = .ok (.invokevirtual 261, 3) := by decide +kernel
theorem dX13_renderLine_47 : decode cX13_renderLine 47 = .ok (.aload_n 0, 1) := by decide +kernel
theorem dX13_renderLine_48 : decode cX13_renderLine 48 = .ok (.bipush 62, 2) := by decide +kernel
theorem dX13_renderLine_50 : decode cX13_renderLine 50 = .ok (.invokevirtual 257, 3) := by decide +kernel
theorem dX13_renderLine_53 : decode cX13_renderLine 53 = .ok (.aload_n 0, 1) := by decide +kernel
theorem dX13_renderLine_54 : decode cX13_renderLine 54 = .ok (.aload_n 0, 1) := by decide +kernel
theorem dX13_renderLine_55 : decode cX13_renderLine 55 = .ok (.getfield 7, 3) := by decide +kernel
theorem dX13_renderLine_58 : decode cX13_renderLine 58 = .ok (.bipush 40, 2) := by decide +kernel
theorem dX13_renderLine_60 : decode cX13_renderLine 60 = .ok (.iload_n 1, 1) := by decide +kernel
theorem dX13_renderLine_61 : decode cX13_renderLine 61 = .ok (.iadd, 1) := by decide +kernel
theorem dX13_renderLine_62 : decode cX13_renderLine 62 = .ok (.iaload, 1) := by decide +kernel
theorem dX13_renderLine_63 : decode cX13_renderLine 63 = .ok (.invokevirtual 261, 3) := by decide +kernel
theorem dX13_renderLine_66 : decode cX13_renderLine 66 = .ok (.aload_n 0, 1) := by decide +kernel
theorem dX13_renderLine_67 : decode cX13_renderLine 67 = .ok (.bipush 32, 2) := by decide +kernel
theorem dX13_renderLine_69 : decode cX13_renderLine 69 = .ok (.invokevirtual 257, 3) := by decide +kernel
theorem dX13_renderLine_72 : decode cX13_renderLine 72 = .ok (.aload_n 0, 1) := by decide +kernel
theorem dX13_renderLine_73 : decode cX13_renderLine 73 = .ok (.aload_n 0, 1) := by decide +kernel
theorem dX13_renderLine_74 : decode cX13_renderLine 74 = .ok (.iload_n 1, 1) := by decide +kernel
theorem dX13_renderLine_75 : decode cX13_renderLine 75 = .ok (.invokevirtual 100, 3) := by decide +kernel
theorem dX13_renderLine_78 : decode cX13_renderLine 78 = .ok (.invokevirtual 261, 3) := by decide +kernel
theorem dX13_renderLine_81 : decode cX13_renderLine 81 = .ok (.aload_n 0, 1) := by decide +kernel
theorem dX13_renderLine_82 : decode cX13_renderLine 82 = .ok (.bipush 47, 2) := by decide +kernel
theorem dX13_renderLine_84 : decode cX13_renderLine 84 = .ok (.invokevirtual 257, 3) := by decide +kernel
theorem dX13_renderLine_87 : decode cX13_renderLine 87 = .ok (.aload_n 0, 1) := by decide +kernel
theorem dX13_renderLine_88 : decode cX13_renderLine 88 = .ok (.aload_n 0, 1) := by decide +kernel
theorem dX13_renderLine_89 : decode cX13_renderLine 89 = .ok (.getfield 7, 3) := by decide +kernel
theorem dX13_renderLine_92 : decode cX13_renderLine 92 = .ok (.bipush 56, 2) := by decide +kernel
theorem dX13_renderLine_94 : decode cX13_renderLine 94 = .ok (.iload_n 1, 1) := by decide +kernel
theorem dX13_renderLine_95 : decode cX13_renderLine 95 = .ok (.iadd, 1) := by decide +kernel
theorem dX13_renderLine_96 : decode cX13_renderLine 96 = .ok (.iaload, 1) := by decide +kernel
theorem dX13_renderLine_97 : decode cX13_renderLine 97 = .ok (.invokevirtual 261, 3) := by decide +kernel
theorem dX13_renderLine_100 : decode cX13_renderLine 100 = .ok (.aload_n 0, 1) := by decide +kernel
theorem dX13_renderLine_101 : decode cX13_renderLine 101 = .ok (.aload_n 0, 1) := by decide +kernel
theorem dX13_renderLine_102 : decode cX13_renderLine 102 = .ok (.getfield 36, 3) := by decide +kernel
theorem dX13_renderLine_105 : decode cX13_renderLine 105 = .ok (.iload_n 1, 1) := by decide +kernel
theorem dX13_renderLine_106 : decode cX13_renderLine 106 = .ok (.iaload, 1) := by decide +kernel
theorem dX13_renderLine_107 : decode cX13_renderLine 107 = .ok (.iconst 1, 1) := by decide +kernel
theorem dX13_renderLine_108 : decode cX13_renderLine 108 = .ok (.if_icmp .ne 8, 3) := by decide +kernel
theorem dX13_renderLine_111 : decode cX13_renderLine 111 = .ok (.bipush 42, 2) := by decide +kernel
theorem dX13_renderLine_113 : decode cX13_renderLine 113 = .ok (.goto 18, 3) := by decide +kernel
theorem dX13_renderLine_116 : decode cX13_renderLine 116 = .ok (.aload_n 0, 1) := by decide +kernel
theorem dX13_renderLine_117 : decode cX13_renderLine 117 = .ok (.iload_n 1, 1) := by decide +kernel
theorem dX13_renderLine_118 : decode cX13_renderLine 118 = .ok (.invokevirtual 85, 3) := by decide +kernel
theorem dX13_renderLine_121 : decode cX13_renderLine 121 = .ok (.ifCond .eq 8, 3) := by decide +kernel
theorem dX13_renderLine_124 : decode cX13_renderLine 124 = .ok (.bipush 111, 2) := by decide +kernel
theorem dX13_renderLine_126 : decode cX13_renderLine 126 = .ok (.goto 5, 3) := by decide +kernel
theorem dX13_renderLine_129 : decode cX13_renderLine 129 = .ok (.bipush 120, 2) := by decide +kernel
theorem dX13_renderLine_131 : decode cX13_renderLine 131 = .ok (.invokevirtual 257, 3) := by decide +kernel
theorem dX13_renderLine_134 : decode cX13_renderLine 134 = .ok (.aload_n 0, 1) := by decide +kernel
theorem dX13_renderLine_135 : decode cX13_renderLine 135 = .ok (.aload_n 0, 1) := by decide +kernel
theorem dX13_renderLine_136 : decode cX13_renderLine 136 = .ok (.getfield 254, 3) := by decide +kernel
theorem dX13_renderLine_139 : decode cX13_renderLine 139 = .ok (.invokevirtual 133, 3) := by decide +kernel
theorem dX13_renderLine_142 : decode cX13_renderLine 142 = .ok (.ireturn, 1) := by decide +kernel
theorem dX13_renderBenchmark_0 : decode cX13_renderBenchmark 0 = .ok (.aload_n 0, 1) := by decide +kernel
theorem dX13_renderBenchmark_1 : decode cX13_renderBenchmark 1 = .ok (.iload_n 1, 1) := by decide +kernel
theorem dX13_renderBenchmark_2 : decode cX13_renderBenchmark 2 = .ok (.invokevirtual 145, 3) := by decide +kernel
theorem dX13_renderBenchmark_5 : decode cX13_renderBenchmark 5 = .ok (.ifCond .ne 9, 3) := by decide +kernel
theorem dX13_renderBenchmark_8 : decode cX13_renderBenchmark 8 = .ok (.aload_n 0, 1) := by decide +kernel
theorem dX13_renderBenchmark_9 : decode cX13_renderBenchmark 9 = .ok (.iconst 1, 1) := by decide +kernel
theorem dX13_renderBenchmark_10 : decode cX13_renderBenchmark 10 = .ok (.invokevirtual 130, 3) := by decide +kernel
theorem dX13_renderBenchmark_13 : decode cX13_renderBenchmark 13 = .ok (.ireturn, 1) := by decide +kernel
theorem dX13_renderBenchmark_14 : decode cX13_renderBenchmark 14 = .ok (.aload_n 0, 1) := by decide +kernel
theorem dX13_renderBenchmark_15 : decode cX13_renderBenchmark 15 = .ok (.invokevirtual 172, 3) := by decide +kernel
theorem dX13_renderBenchmark_18 : decode cX13_renderBenchmark 18 = .ok (.aload_n 0, 1) := by decide +kernel
theorem dX13_renderBenchmark_19 : decode cX13_renderBenchmark 19 = .ok (.iconst 0, 1) := by decide +kernel
theorem dX13_renderBenchmark_20 : decode cX13_renderBenchmark 20 = .ok (.putfield 254, 3) := by decide +kernel
theorem dX13_renderBenchmark_23 : decode cX13_renderBenchmark 23 = .ok (.aload_n 0, 1) := by decide +kernel
theorem dX13_renderBenchmark_24 : decode cX13_renderBenchmark 24 = .ok (.iload_n 1, 1) := by decide +kernel
theorem dX13_renderBenchmark_25 : decode cX13_renderBenchmark 25 = .ok (.invokevirtual 261, 3) := by decide +kernel
theorem dX13_renderBenchmark_28 : decode cX13_renderBenchmark 28 = .ok (.aload_n 0, 1) := by decide +kernel
theorem dX13_renderBenchmark_29 : decode cX13_renderBenchmark 29 = .ok (.bipush 61, 2) := by decide +kernel
theorem dX13_renderBenchmark_31 : decode cX13_renderBenchmark 31 = .ok (.invokevirtual 257, 3) := by decide +kernel
theorem dX13_renderBenchmark_34 : decode cX13_renderBenchmark 34 = .ok (.aload_n 0, 1) := by decide +kernel
theorem dX13_renderBenchmark_35 : decode cX13_renderBenchmark 35 = .ok (.iload_n 1, 1) := by decide +kernel
theorem dX13_renderBenchmark_36 : decode cX13_renderBenchmark 36 = .ok (.invokevirtual 208, 3) := by decide +kernel
theorem dX13_renderBenchmark_39 : decode cX13_renderBenchmark 39 = .ok (.ifCond .eq 15, 3) := by decide +kernel
theorem dX13_renderBenchmark_42 : decode cX13_renderBenchmark 42 = .ok (.aload_n 0, 1) := by decide +kernel
theorem dX13_renderBenchmark_43 : decode cX13_renderBenchmark 43 = .ok (.aload_n 0, 1) := by decide +kernel
theorem dX13_renderBenchmark_44 : decode cX13_renderBenchmark 44 = .ok (.iload_n 1, 1) := by decide +kernel
theorem dX13_renderBenchmark_45 : decode cX13_renderBenchmark 45 = .ok (.invokevirtual 211, 3) := by decide +kernel
theorem dX13_renderBenchmark_48 : decode cX13_renderBenchmark 48 = .ok (.invokevirtual 261, 3) := by decide +kernel
theorem dX13_renderBenchmark_51 : decode cX13_renderBenchmark 51 = .ok (.goto 9, 3) := by decide +kernel
theorem dX13_renderBenchmark_54 : decode cX13_renderBenchmark 54 = .ok (.aload_n 0, 1) := by decide +kernel
theorem dX13_renderBenchmark_55 : decode cX13_renderBenchmark 55 = .ok (.bipush 63, 2) := by decide +kernel
theorem dX13_renderBenchmark_57 : decode cX13_renderBenchmark 57 = .ok (.invokevirtual 257, 3) := by decide +kernel
theorem dX13_renderBenchmark_60 : decode cX13_renderBenchmark 60 = .ok (.aload_n 0, 1) := by decide +kernel
theorem dX13_renderBenchmark_61 : decode cX13_renderBenchmark 61 = .ok (.getfield 7, 3) := by decide +kernel
theorem dX13_renderBenchmark_64 : decode cX13_renderBenchmark 64 = .ok (.iconst 4, 1) := by decide +kernel
theorem dX13_renderBenchmark_65 : decode cX13_renderBenchmark 65 = .ok (.iload_n 1, 1) := by decide +kernel
theorem dX13_renderBenchmark_66 : decode cX13_renderBenchmark 66 = .ok (.iadd, 1) := by decide +kernel
theorem dX13_renderBenchmark_67 : decode cX13_renderBenchmark 67 = .ok (.iaload, 1) := by decide +kernel
theorem dX13_renderBenchmark_68 : decode cX13_renderBenchmark 68 = .ok (.iconst 1, 1) := by decide +kernel
theorem dX13_renderBenchmark_69 : decode cX13_renderBenchmark 69 = .ok (.if_icmp .ne 9, 3) := by decide +kernel
theorem dX13_renderBenchmark_72 : decode cX13_renderBenchmark 72 = .ok (.aload_n 0, 1) := by decide +kernel
theorem dX13_renderBenchmark_73 : decode cX13_renderBenchmark 73 = .ok (.bipush 33, 2) := by decide +kernel
theorem dX13_renderBenchmark_75 : decode cX13_renderBenchmark 75 = .ok (.invokevirtual 257, 3) := by decide +kernel
theorem dX13_renderBenchmark_78 : decode cX13_renderBenchmark 78 = .ok (.aload_n 0, 1) := by decide +kernel
theorem dX13_renderBenchmark_79 : decode cX13_renderBenchmark 79 = .ok (.aload_n 0, 1) := by decide +kernel
theorem dX13_renderBenchmark_80 : decode cX13_renderBenchmark 80 = .ok (.getfield 254, 3) := by decide +kernel
theorem dX13_renderBenchmark_83 : decode cX13_renderBenchmark 83 = .ok (.invokevirtual 133, 3) := by decide +kernel
theorem dX13_renderBenchmark_86 : decode cX13_renderBenchmark 86 = .ok (.ireturn, 1) := by decide +kernel
theorem dX13_outputAt_0 : decode cX13_outputAt 0 = .ok (.aload_n 0, 1) := by decide +kernel
theorem dX13_outputAt_1 : decode cX13_outputAt 1 = .ok (.iload_n 1, 1) := by decide +kernel
theorem dX13_outputAt_2 : decode cX13_outputAt 2 = .ok (.iconst 0, 1) := by decide +kernel
theorem dX13_outputAt_3 : decode cX13_outputAt 3 = .ok (.aload_n 0, 1) := by decide +kernel
theorem dX13_outputAt_4 : decode cX13_outputAt 4 = .ok (.getfield 254, 3) := by decide +kernel
theorem dX13_outputAt_7 : decode cX13_outputAt 7 = .ok (.iconst 1, 1) := by decide +kernel
theorem dX13_outputAt_8 : decode cX13_outputAt 8 = .ok (.isub, 1) := by decide +kernel
theorem dX13_outputAt_9 : decode cX13_outputAt 9 = .ok (.invokestatic 71, 3) := by decide +kernel
theorem dX13_outputAt_12 : decode cX13_outputAt 12 = .ok (.ifCond .eq 7, 3) := by decide +kernel
theorem dX13_outputAt_15 : decode cX13_outputAt 15 = .ok (.iconst 0, 1) := by decide +kernel
theorem dX13_outputAt_16 : decode cX13_outputAt 16 = .ok (.goto 4, 3) := by decide +kernel
theorem dX13_outputAt_19 : decode cX13_outputAt 19 = .ok (.iconst 1, 1) := by decide +kernel
theorem dX13_outputAt_20 : decode cX13_outputAt 20 = .ok (.putfield 61, 3) := by decide +kernel
theorem dX13_outputAt_23 : decode cX13_outputAt 23 = .ok (.aload_n 0, 1) := by decide +kernel
theorem dX13_outputAt_24 : decode cX13_outputAt 24 = .ok (.getfield 61, 3) := by decide +kernel
theorem dX13_outputAt_27 : decode cX13_outputAt 27 = .ok (.ifCond .ne 12, 3) := by decide +kernel
theorem dX13_outputAt_30 : decode cX13_outputAt 30 = .ok (.aload_n 0, 1) := by decide +kernel
theorem dX13_outputAt_31 : decode cX13_outputAt 31 = .ok (.getfield 33, 3) := by decide +kernel
theorem dX13_outputAt_34 : decode cX13_outputAt 34 = .ok (.iload_n 1, 1) := by decide +kernel
theorem dX13_outputAt_35 : decode cX13_outputAt 35 = .ok (.caload, 1) := by decide +kernel
theorem dX13_outputAt_36 : decode cX13_outputAt 36 = .ok (.goto 4, 3) := by decide +kernel
theorem dX13_outputAt_39 : decode cX13_outputAt 39 = .ok (.iconst 0, 1) := by decide +kernel
theorem dX13_outputAt_40 : decode cX13_outputAt 40 = .ok (.ireturn, 1) := by decide +kernel
theorem dX13_type_0 : decode cX13_type 0 = .ok (.iload_n 1, 1) := by decide +kernel
theorem dX13_type_1 : decode cX13_type 1 = .ok (.bipush 32, 2) := by decide +kernel
theorem dX13_type_3 : decode cX13_type 3 = .ok (.bipush 126, 2) := by decide +kernel
theorem dX13_type_5 : decode cX13_type 5 = .ok (.invokestatic 71, 3) := by decide +kernel
theorem dX13_type_8 : decode cX13_type 8 = .ok (.ifCond .ne 9, 3) := by decide +kernel
theorem dX13_type_11 : decode cX13_type 11 = .ok (.aload_n 0, 1) := by decide +kernel
theorem dX13_type_12 : decode cX13_type 12 = .ok (.iconst 1, 1) := by decide +kernel
theorem dX13_type_13 : decode cX13_type 13 = .ok (.invokevirtual 130, 3) := by decide +kernel
theorem dX13_type_16 : decode cX13_type 16 = .ok (.ireturn, 1) := by decide +kernel
theorem dX13_type_17 : decode cX13_type 17 = .ok (.aload_n 0, 1) := by decide +kernel
theorem dX13_type_18 : decode cX13_type 18 = .ok (.getfield 264, 3) := by decide +kernel
theorem dX13_type_21 : decode cX13_type 21 = .ok (.bipush 60, 2) := by decide +kernel
theorem dX13_type_23 : decode cX13_type 23 = .ok (.if_icmp .ne 9, 3) := by decide +kernel
theorem dX13_type_26 : decode cX13_type 26 = .ok (.aload_n 0, 1) := by decide +kernel
theorem dX13_type_27 : decode cX13_type 27 = .ok (.iconst 2, 1) := by decide +kernel
theorem dX13_type_28 : decode cX13_type 28 = .ok (.invokevirtual 130, 3) := by decide +kernel
theorem dX13_type_31 : decode cX13_type 31 = .ok (.ireturn, 1) := by decide +kernel
theorem dX13_type_32 : decode cX13_type 32 = .ok (.aload_n 0, 1) := by decide +kernel
theorem dX13_type_33 : decode cX13_type 33 = .ok (.getfield 22, 3) := by decide +kernel
theorem dX13_type_36 : decode cX13_type 36 = .ok (.aload_n 0, 1) := by decide +kernel
theorem dX13_type_37 : decode cX13_type 37 = .ok (.getfield 264, 3) := by decide +kernel
theorem dX13_type_40 : decode cX13_type 40 = .ok (.iload_n 1, 1) := by decide +kernel
theorem dX13_type_41 : decode cX13_type 41 = .ok (.castore, 1) := by decide +kernel
theorem dX13_type_42 : decode cX13_type 42 = .ok (.aload_n 0, 1) := by decide +kernel
theorem dX13_type_43 : decode cX13_type 43 = .ok (.dup, 1) := by decide +kernel
theorem dX13_type_44 : decode cX13_type 44 = .ok (.getfield 264, 3) := by decide +kernel
theorem dX13_type_47 : decode cX13_type 47 = .ok (.iconst 1, 1) := by decide +kernel
theorem dX13_type_48 : decode cX13_type 48 = .ok (.iadd, 1) := by decide +kernel
theorem dX13_type_49 : decode cX13_type 49 = .ok (.putfield 264, 3) := by decide +kernel
theorem dX13_type_52 : decode cX13_type 52 = .ok (.aload_n 0, 1) := by decide +kernel
theorem dX13_type_53 : decode cX13_type 53 = .ok (.aload_n 0, 1) := by decide +kernel
theorem dX13_type_54 : decode cX13_type 54 = .ok (.getfield 264, 3) := by decide +kernel
theorem dX13_type_57 : decode cX13_type 57 = .ok (.invokevirtual 133, 3) := by decide +kernel
theorem dX13_type_60 : decode cX13_type 60 = .ok (.ireturn, 1) := by decide +kernel
theorem dX13_here_0 : decode cX13_here 0 = .ok (.aload_n 0, 1) := by decide +kernel
theorem dX13_here_1 : decode cX13_here 1 = .ok (.getfield 267, 3) := by decide +kernel
theorem dX13_here_4 : decode cX13_here 4 = .ok (.aload_n 0, 1) := by decide +kernel
theorem dX13_here_5 : decode cX13_here 5 = .ok (.getfield 264, 3) := by decide +kernel
theorem dX13_here_8 : decode cX13_here 8 = .ok (.if_icmp .ge 15, 3) := by decide +kernel
theorem dX13_here_11 : decode cX13_here 11 = .ok (.aload_n 0, 1) := by decide +kernel
theorem dX13_here_12 : decode cX13_here 12 = .ok (.getfield 22, 3) := by decide +kernel
theorem dX13_here_15 : decode cX13_here 15 = .ok (.aload_n 0, 1) := by decide +kernel
theorem dX13_here_16 : decode cX13_here 16 = .ok (.getfield 267, 3) := by decide +kernel
theorem dX13_here_19 : decode cX13_here 19 = .ok (.caload, 1) := by decide +kernel
theorem dX13_here_20 : decode cX13_here 20 = .ok (.goto 4, 3) := by decide +kernel
theorem dX13_here_23 : decode cX13_here 23 = .ok (.iconst (-1), 1) := by decide +kernel
theorem dX13_here_24 : decode cX13_here 24 = .ok (.ireturn, 1) := by decide +kernel
theorem dX13_needs_0 : decode cX13_needs 0 = .ok (.aload_n 0, 1) := by decide +kernel
theorem dX13_needs_1 : decode cX13_needs 1 = .ok (.aload_n 0, 1) := by decide +kernel
theorem dX13_needs_2 : decode cX13_needs 2 = .ok (.getfield 270, 3) := by decide +kernel
theorem dX13_needs_5 : decode cX13_needs 5 = .ok (.ifCond .ne 11, 3) := by decide +kernel
theorem dX13_needs_8 : decode cX13_needs 8 = .ok (.aload_n 0, 1) := by decide +kernel
theorem dX13_needs_9 : decode cX13_needs 9 = .ok (.invokevirtual 274, 3) := by decide +kernel
theorem dX13_needs_12 : decode cX13_needs 12 = .ok (.iload_n 1, 1) := by decide +kernel
theorem dX13_needs_13 : decode cX13_needs 13 = .ok (.if_icmp .eq 7, 3) := by decide +kernel
theorem dX13_needs_16 : decode cX13_needs 16 = .ok (.iconst 1, 1) := by decide +kernel
theorem dX13_needs_17 : decode cX13_needs 17 = .ok (.goto 4, 3) := by decide +kernel
theorem dX13_needs_20 : decode cX13_needs 20 = .ok (.iconst 0, 1) := by decide +kernel
theorem dX13_needs_21 : decode cX13_needs 21 = .ok (.putfield 270, 3) := by decide +kernel
theorem dX13_needs_24 : decode cX13_needs 24 = .ok (.aload_n 0, 1) := by decide +kernel
theorem dX13_needs_25 : decode cX13_needs 25 = .ok (.dup, 1) := by decide +kernel
theorem dX13_needs_26 : decode cX13_needs 26 = .ok (.getfield 267, 3) := by decide +kernel
theorem dX13_needs_29 : decode cX13_needs 29 = .ok (.aload_n 0, 1) := by decide +kernel
theorem dX13_needs_30 : decode cX13_needs 30 = .ok (.getfield 270, 3) := by decide +kernel
theorem dX13_needs_33 : decode cX13_needs 33 = .ok (.ifCond .eq 7, 3) := by decide +kernel
theorem dX13_needs_36 : decode cX13_needs 36 = .ok (.iconst 0, 1) := by decide +kernel
theorem dX13_needs_37 : decode cX13_needs 37 = .ok (.goto 4, 3) := by decide +kernel
theorem dX13_needs_40 : decode cX13_needs 40 = .ok (.iconst 1, 1) := by decide +kernel
theorem dX13_needs_41 : decode cX13_needs 41 = .ok (.iadd, 1) := by decide +kernel
theorem dX13_needs_42 : decode cX13_needs 42 = .ok (.putfield 267, 3) := by decide +kernel
theorem dX13_needs_45 : decode cX13_needs 45 = .ok (.return_, 1) := by decide +kernel
theorem dX13_needsThree_0 : decode cX13_needsThree 0 = .ok (.aload_n 0, 1) := by decide +kernel
theorem dX13_needsThree_1 : decode cX13_needsThree 1 = .ok (.iload_n 1, 1) := by decide +kernel
theorem dX13_needsThree_2 : decode cX13_needsThree 2 = .ok (.invokevirtual 277, 3) := by decide +kernel
theorem dX13_needsThree_5 : decode cX13_needsThree 5 = .ok (.aload_n 0, 1) := by decide +kernel
theorem dX13_needsThree_6 : decode cX13_needsThree 6 = .ok (.iload_n 2, 1) := by decide +kernel
theorem dX13_needsThree_7 : decode cX13_needsThree 7 = .ok (.invokevirtual 277, 3) := by decide +kernel
theorem dX13_needsThree_10 : decode cX13_needsThree 10 = .ok (.aload_n 0, 1) := by decide +kernel
theorem dX13_needsThree_11 : decode cX13_needsThree 11 = .ok (.iload_n 3, 1) := by decide +kernel
theorem dX13_needsThree_12 : decode cX13_needsThree 12 = .ok (.invokevirtual 277, 3) := by decide +kernel
theorem dX13_needsThree_15 : decode cX13_needsThree 15 = .ok (.return_, 1) := by decide +kernel
theorem dX13_digits_0 : decode cX13_digits 0 = .ok (.aload_n 0, 1) := by decide +kernel
theorem dX13_digits_1 : decode cX13_digits 1 = .ok (.aload_n 0, 1) := by decide +kernel
theorem dX13_digits_2 : decode cX13_digits 2 = .ok (.getfield 270, 3) := by decide +kernel
theorem dX13_digits_5 : decode cX13_digits 5 = .ok (.ifCond .ne 17, 3) := by decide +kernel
theorem dX13_digits_8 : decode cX13_digits 8 = .ok (.aload_n 0, 1) := by decide +kernel
theorem dX13_digits_9 : decode cX13_digits 9 = .ok (.invokevirtual 274, 3) := by decide +kernel
theorem dX13_digits_12 : decode cX13_digits 12 = .ok (.bipush 48, 2) := by decide +kernel
theorem dX13_digits_14 : decode cX13_digits 14 = .ok (.bipush 57, 2) := by decide +kernel
theorem dX13_digits_16 : decode cX13_digits 16 = .ok (.invokestatic 71, 3) := by decide +kernel
theorem dX13_digits_19 : decode cX13_digits 19 = .ok (.ifCond .ne 7, 3) := by decide +kernel
theorem dX13_digits_22 : decode cX13_digits 22 = .ok (.iconst 1, 1) := by decide +kernel
theorem dX13_digits_23 : decode cX13_digits 23 = .ok (.goto 4, 3) := by decide +kernel
theorem dX13_digits_26 : decode cX13_digits 26 = .ok (.iconst 0, 1) := by decide +kernel
theorem dX13_digits_27 : decode cX13_digits 27 = .ok (.putfield 270, 3) := by decide +kernel
theorem dX13_digits_30 : decode cX13_digits 30 = .ok (.iconst 0, 1) := by decide +kernel
theorem dX13_digits_31 : decode cX13_digits 31 = .ok (.istore_n 2, 1) := by decide +kernel
theorem dX13_digits_32 : decode cX13_digits 32 = .ok (.iconst 0, 1) := by decide +kernel
theorem dX13_digits_33 : decode cX13_digits 33 = .ok (.istore_n 3, 1) := by decide +kernel
theorem dX13_digits_34 : decode cX13_digits 34 = .ok (.aload_n 0, 1) := by decide +kernel
theorem dX13_digits_35 : decode cX13_digits 35 = .ok (.getfield 270, 3) := by decide +kernel
theorem dX13_digits_38 : decode cX13_digits 38 = .ok (.ifCond .ne 51, 3) := by decide +kernel
theorem dX13_digits_41 : decode cX13_digits 41 = .ok (.iload_n 3, 1) := by decide +kernel
theorem dX13_digits_42 : decode cX13_digits 42 = .ok (.iload_n 1, 1) := by decide +kernel
theorem dX13_digits_43 : decode cX13_digits 43 = .ok (.if_icmp .ge 46, 3) := by decide +kernel
theorem dX13_digits_46 : decode cX13_digits 46 = .ok (.aload_n 0, 1) := by decide +kernel
theorem dX13_digits_47 : decode cX13_digits 47 = .ok (.invokevirtual 274, 3) := by decide +kernel
theorem dX13_digits_50 : decode cX13_digits 50 = .ok (.bipush 48, 2) := by decide +kernel
theorem dX13_digits_52 : decode cX13_digits 52 = .ok (.bipush 57, 2) := by decide +kernel
theorem dX13_digits_54 : decode cX13_digits 54 = .ok (.invokestatic 71, 3) := by decide +kernel
theorem dX13_digits_57 : decode cX13_digits 57 = .ok (.ifCond .eq 32, 3) := by decide +kernel
theorem dX13_digits_60 : decode cX13_digits 60 = .ok (.bipush 10, 2) := by decide +kernel
theorem dX13_digits_62 : decode cX13_digits 62 = .ok (.iload_n 2, 1) := by decide +kernel
theorem dX13_digits_63 : decode cX13_digits 63 = .ok (.imul, 1) := by decide +kernel
theorem dX13_digits_64 : decode cX13_digits 64 = .ok (.aload_n 0, 1) := by decide +kernel
theorem dX13_digits_65 : decode cX13_digits 65 = .ok (.invokevirtual 274, 3) := by decide +kernel
theorem dX13_digits_68 : decode cX13_digits 68 = .ok (.iadd, 1) := by decide +kernel
theorem dX13_digits_69 : decode cX13_digits 69 = .ok (.bipush 48, 2) := by decide +kernel
theorem dX13_digits_71 : decode cX13_digits 71 = .ok (.isub, 1) := by decide +kernel
theorem dX13_digits_72 : decode cX13_digits 72 = .ok (.istore_n 2, 1) := by decide +kernel
theorem dX13_digits_73 : decode cX13_digits 73 = .ok (.aload_n 0, 1) := by decide +kernel
theorem dX13_digits_74 : decode cX13_digits 74 = .ok (.dup, 1) := by decide +kernel
theorem dX13_digits_75 : decode cX13_digits 75 = .ok (.getfield 267, 3) := by decide +kernel
theorem dX13_digits_78 : decode cX13_digits 78 = .ok (.iconst 1, 1) := by decide +kernel
theorem dX13_digits_79 : decode cX13_digits 79 = .ok (.iadd, 1) := by decide +kernel
theorem dX13_digits_80 : decode cX13_digits 80 = .ok (.putfield 267, 3) := by decide +kernel
theorem dX13_digits_83 : decode cX13_digits 83 = .ok (.iinc 3 1, 3) := by decide +kernel
theorem dX13_digits_86 : decode cX13_digits 86 = .ok (.goto (-52), 3) := by decide +kernel
theorem dX13_digits_89 : decode cX13_digits 89 = .ok (.iload_n 2, 1) := by decide +kernel
theorem dX13_digits_90 : decode cX13_digits 90 = .ok (.ireturn, 1) := by decide +kernel
theorem dX13_digitsAfter_0 : decode cX13_digitsAfter 0 = .ok (.aload_n 0, 1) := by decide +kernel
theorem dX13_digitsAfter_1 : decode cX13_digitsAfter 1 = .ok (.iload_n 1, 1) := by decide +kernel
theorem dX13_digitsAfter_2 : decode cX13_digitsAfter 2 = .ok (.invokevirtual 277, 3) := by decide +kernel
theorem dX13_digitsAfter_5 : decode cX13_digitsAfter 5 = .ok (.aload_n 0, 1) := by decide +kernel
theorem dX13_digitsAfter_6 : decode cX13_digitsAfter 6 = .ok (.iload_n 2, 1) := by decide +kernel
theorem dX13_digitsAfter_7 : decode cX13_digitsAfter 7 = .ok (.invokevirtual 280, 3) := by decide +kernel
theorem dX13_digitsAfter_10 : decode cX13_digitsAfter 10 = .ok (.ireturn, 1) := by decide +kernel
theorem dX13_valueAfter_0 : decode cX13_valueAfter 0 = .ok (.aload_n 0, 1) := by decide +kernel
theorem dX13_valueAfter_1 : decode cX13_valueAfter 1 = .ok (.iload_n 1, 1) := by decide +kernel
theorem dX13_valueAfter_2 : decode cX13_valueAfter 2 = .ok (.invokevirtual 277, 3) := by decide +kernel
theorem dX13_valueAfter_5 : decode cX13_valueAfter 5 = .ok (.aload_n 0, 1) := by decide +kernel
theorem dX13_valueAfter_6 : decode cX13_valueAfter 6 = .ok (.getfield 270, 3) := by decide +kernel
theorem dX13_valueAfter_9 : decode cX13_valueAfter 9 = .ok (.ifCond .ne 16, 3) := by decide +kernel
theorem dX13_valueAfter_12 : decode cX13_valueAfter 12 = .ok (.aload_n 0, 1) := by decide +kernel
theorem dX13_valueAfter_13 : decode cX13_valueAfter 13 = .ok (.invokevirtual 274, 3) := by decide +kernel
theorem dX13_valueAfter_16 : decode cX13_valueAfter 16 = .ok (.bipush 45, 2) := by decide +kernel
theorem dX13_valueAfter_18 : decode cX13_valueAfter 18 = .ok (.if_icmp .ne 7, 3) := by decide +kernel
theorem dX13_valueAfter_21 : decode cX13_valueAfter 21 = .ok (.iconst 1, 1) := by decide +kernel
theorem dX13_valueAfter_22 : decode cX13_valueAfter 22 = .ok (.goto 4, 3) := by decide +kernel
theorem dX13_valueAfter_25 : decode cX13_valueAfter 25 = .ok (.iconst 0, 1) := by decide +kernel
theorem dX13_valueAfter_26 : decode cX13_valueAfter 26 = .ok (.istore_n 2, 1) := by decide +kernel
theorem dX13_valueAfter_27 : decode cX13_valueAfter 27 = .ok (.aload_n 0, 1) := by decide +kernel
theorem dX13_valueAfter_28 : decode cX13_valueAfter 28 = .ok (.dup, 1) := by decide +kernel
theorem dX13_valueAfter_29 : decode cX13_valueAfter 29 = .ok (.getfield 267, 3) := by decide +kernel
theorem dX13_valueAfter_32 : decode cX13_valueAfter 32 = .ok (.iload_n 2, 1) := by decide +kernel
theorem dX13_valueAfter_33 : decode cX13_valueAfter 33 = .ok (.ifCond .eq 7, 3) := by decide +kernel
theorem dX13_valueAfter_36 : decode cX13_valueAfter 36 = .ok (.iconst 1, 1) := by decide +kernel
theorem dX13_valueAfter_37 : decode cX13_valueAfter 37 = .ok (.goto 4, 3) := by decide +kernel
theorem dX13_valueAfter_40 : decode cX13_valueAfter 40 = .ok (.iconst 0, 1) := by decide +kernel
theorem dX13_valueAfter_41 : decode cX13_valueAfter 41 = .ok (.iadd, 1) := by decide +kernel
theorem dX13_valueAfter_42 : decode cX13_valueAfter 42 = .ok (.putfield 267, 3) := by decide +kernel
theorem dX13_valueAfter_45 : decode cX13_valueAfter 45 = .ok (.aload_n 0, 1) := by decide +kernel
theorem dX13_valueAfter_46 : decode cX13_valueAfter 46 = .ok (.iconst 5, 1) := by decide +kernel
theorem dX13_valueAfter_47 : decode cX13_valueAfter 47 = .ok (.invokevirtual 280, 3) := by decide +kernel
theorem dX13_valueAfter_50 : decode cX13_valueAfter 50 = .ok (.istore_n 3, 1) := by decide +kernel
theorem dX13_valueAfter_51 : decode cX13_valueAfter 51 = .ok (.iload_n 2, 1) := by decide +kernel
theorem dX13_valueAfter_52 : decode cX13_valueAfter 52 = .ok (.ifCond .eq 8, 3) := by decide +kernel
theorem dX13_valueAfter_55 : decode cX13_valueAfter 55 = .ok (.iload_n 3, 1) := by decide +kernel
theorem dX13_valueAfter_56 : decode cX13_valueAfter 56 = .ok (.ineg, 1) := by decide +kernel
theorem dX13_valueAfter_57 : decode cX13_valueAfter 57 = .ok (.goto 4, 3) := by decide +kernel
theorem dX13_valueAfter_60 : decode cX13_valueAfter 60 = .ok (.iload_n 3, 1) := by decide +kernel
theorem dX13_valueAfter_61 : decode cX13_valueAfter 61 = .ok (.ireturn, 1) := by decide +kernel
theorem dX13_parsesP_0 : decode cX13_parsesP 0 = .ok (.aload_n 0, 1) := by decide +kernel
theorem dX13_parsesP_1 : decode cX13_parsesP 1 = .ok (.invokevirtual 274, 3) := by decide +kernel
theorem dX13_parsesP_4 : decode cX13_parsesP 4 = .ok (.bipush 114, 2) := by decide +kernel
theorem dX13_parsesP_6 : decode cX13_parsesP 6 = .ok (.if_icmp .ne 49, 3) := by decide +kernel
theorem dX13_parsesP_9 : decode cX13_parsesP 9 = .ok (.aload_n 0, 1) := by decide +kernel
theorem dX13_parsesP_10 : decode cX13_parsesP 10 = .ok (.getfield 58, 3) := by decide +kernel
theorem dX13_parsesP_13 : decode cX13_parsesP 13 = .ok (.iload_n 1, 1) := by decide +kernel
theorem dX13_parsesP_14 : decode cX13_parsesP 14 = .ok (.bipush 111, 2) := by decide +kernel
theorem dX13_parsesP_16 : decode cX13_parsesP 16 = .ok (.iastore, 1) := by decide +kernel
theorem dX13_parsesP_17 : decode cX13_parsesP 17 = .ok (.aload_n 0, 1) := by decide +kernel
theorem dX13_parsesP_18 : decode cX13_parsesP 18 = .ok (.bipush 114, 2) := by decide +kernel
theorem dX13_parsesP_20 : decode cX13_parsesP 20 = .ok (.bipush 111, 2) := by decide +kernel
theorem dX13_parsesP_22 : decode cX13_parsesP 22 = .ok (.bipush 102, 2) := by decide +kernel
theorem dX13_parsesP_24 : decode cX13_parsesP 24 = .ok (.invokevirtual 283, 3) := by decide +kernel
theorem dX13_parsesP_27 : decode cX13_parsesP 27 = .ok (.aload_n 0, 1) := by decide +kernel
theorem dX13_parsesP_28 : decode cX13_parsesP 28 = .ok (.bipush 105, 2) := by decide +kernel
theorem dX13_parsesP_30 : decode cX13_parsesP 30 = .ok (.bipush 108, 2) := by decide +kernel
theorem dX13_parsesP_32 : decode cX13_parsesP 32 = .ok (.bipush 101, 2) := by decide +kernel
theorem dX13_parsesP_34 : decode cX13_parsesP 34 = .ok (.invokevirtual 283, 3) := by decide +kernel
theorem dX13_parsesP_37 : decode cX13_parsesP 37 = .ok (.aload_n 0, 1) := by decide +kernel
theorem dX13_parsesP_38 : decode cX13_parsesP 38 = .ok (.getfield 58, 3) := by decide +kernel
theorem dX13_parsesP_41 : decode cX13_parsesP 41 = .ok (.iload_n 1, 1) := by decide +kernel
theorem dX13_parsesP_42 : decode cX13_parsesP 42 = .ok (.iconst 1, 1) := by decide +kernel
theorem dX13_parsesP_43 : decode cX13_parsesP 43 = .ok (.iadd, 1) := by decide +kernel
theorem dX13_parsesP_44 : decode cX13_parsesP 44 = .ok (.aload_n 0, 1) := by decide +kernel
theorem dX13_parsesP_45 : decode cX13_parsesP 45 = .ok (.bipush 32, 2) := by decide +kernel
theorem dX13_parsesP_47 : decode cX13_parsesP 47 = .ok (.iconst 1, 1) := by decide +kernel
theorem dX13_parsesP_48 : decode cX13_parsesP 48 = .ok (.invokevirtual 287, 3) := by decide +kernel
theorem dX13_parsesP_51 : decode cX13_parsesP 51 = .ok (.iastore, 1) := by decide +kernel
theorem dX13_parsesP_52 : decode cX13_parsesP 52 = .ok (.goto 19, 3) := by decide +kernel
theorem dX13_parsesP_55 : decode cX13_parsesP 55 = .ok (.aload_n 0, 1) := by decide +kernel
theorem dX13_parsesP_56 : decode cX13_parsesP 56 = .ok (.bipush 111, 2) := by decide +kernel
theorem dX13_parsesP_58 : decode cX13_parsesP 58 = .ok (.bipush 105, 2) := by decide +kernel
theorem dX13_parsesP_60 : decode cX13_parsesP 60 = .ok (.bipush 110, 2) := by decide +kernel
theorem dX13_parsesP_62 : decode cX13_parsesP 62 = .ok (.invokevirtual 283, 3) := by decide +kernel
theorem dX13_parsesP_65 : decode cX13_parsesP 65 = .ok (.aload_n 0, 1) := by decide +kernel
theorem dX13_parsesP_66 : decode cX13_parsesP 66 = .ok (.bipush 116, 2) := by decide +kernel
theorem dX13_parsesP_68 : decode cX13_parsesP 68 = .ok (.invokevirtual 277, 3) := by decide +kernel
theorem dX13_parsesP_71 : decode cX13_parsesP 71 = .ok (.return_, 1) := by decide +kernel
theorem dX13_parsesF_0 : decode cX13_parsesF 0 = .ok (.aload_n 0, 1) := by decide +kernel
theorem dX13_parsesF_1 : decode cX13_parsesF 1 = .ok (.invokevirtual 274, 3) := by decide +kernel
theorem dX13_parsesF_4 : decode cX13_parsesF 4 = .ok (.bipush 114, 2) := by decide +kernel
theorem dX13_parsesF_6 : decode cX13_parsesF 6 = .ok (.if_icmp .ne 39, 3) := by decide +kernel
theorem dX13_parsesF_9 : decode cX13_parsesF 9 = .ok (.aload_n 0, 1) := by decide +kernel
theorem dX13_parsesF_10 : decode cX13_parsesF 10 = .ok (.getfield 58, 3) := by decide +kernel
theorem dX13_parsesF_13 : decode cX13_parsesF 13 = .ok (.iload_n 1, 1) := by decide +kernel
theorem dX13_parsesF_14 : decode cX13_parsesF 14 = .ok (.bipush 117, 2) := by decide +kernel
theorem dX13_parsesF_16 : decode cX13_parsesF 16 = .ok (.iastore, 1) := by decide +kernel
theorem dX13_parsesF_17 : decode cX13_parsesF 17 = .ok (.aload_n 0, 1) := by decide +kernel
theorem dX13_parsesF_18 : decode cX13_parsesF 18 = .ok (.bipush 114, 2) := by decide +kernel
theorem dX13_parsesF_20 : decode cX13_parsesF 20 = .ok (.bipush 101, 2) := by decide +kernel
theorem dX13_parsesF_22 : decode cX13_parsesF 22 = .ok (.bipush 101, 2) := by decide +kernel
theorem dX13_parsesF_24 : decode cX13_parsesF 24 = .ok (.invokevirtual 283, 3) := by decide +kernel
theorem dX13_parsesF_27 : decode cX13_parsesF 27 = .ok (.aload_n 0, 1) := by decide +kernel
theorem dX13_parsesF_28 : decode cX13_parsesF 28 = .ok (.getfield 58, 3) := by decide +kernel
theorem dX13_parsesF_31 : decode cX13_parsesF 31 = .ok (.iload_n 1, 1) := by decide +kernel
theorem dX13_parsesF_32 : decode cX13_parsesF 32 = .ok (.iconst 1, 1) := by decide +kernel
theorem dX13_parsesF_33 : decode cX13_parsesF 33 = .ok (.iadd, 1) := by decide +kernel
theorem dX13_parsesF_34 : decode cX13_parsesF 34 = .ok (.aload_n 0, 1) := by decide +kernel
theorem dX13_parsesF_35 : decode cX13_parsesF 35 = .ok (.bipush 32, 2) := by decide +kernel
theorem dX13_parsesF_37 : decode cX13_parsesF 37 = .ok (.iconst 1, 1) := by decide +kernel
theorem dX13_parsesF_38 : decode cX13_parsesF 38 = .ok (.invokevirtual 287, 3) := by decide +kernel
theorem dX13_parsesF_41 : decode cX13_parsesF 41 = .ok (.iastore, 1) := by decide +kernel
theorem dX13_parsesF_42 : decode cX13_parsesF 42 = .ok (.goto 44, 3) := by decide +kernel
theorem dX13_parsesF_45 : decode cX13_parsesF 45 = .ok (.aload_n 0, 1) := by decide +kernel
theorem dX13_parsesF_46 : decode cX13_parsesF 46 = .ok (.bipush 105, 2) := by decide +kernel
theorem dX13_parsesF_48 : decode cX13_parsesF 48 = .ok (.invokevirtual 277, 3) := by decide +kernel
theorem dX13_parsesF_51 : decode cX13_parsesF 51 = .ok (.aload_n 0, 1) := by decide +kernel
theorem dX13_parsesF_52 : decode cX13_parsesF 52 = .ok (.bipush 120, 2) := by decide +kernel
theorem dX13_parsesF_54 : decode cX13_parsesF 54 = .ok (.invokevirtual 277, 3) := by decide +kernel
theorem dX13_parsesF_57 : decode cX13_parsesF 57 = .ok (.aload_n 0, 1) := by decide +kernel
theorem dX13_parsesF_58 : decode cX13_parsesF 58 = .ok (.getfield 58, 3) := by decide +kernel
theorem dX13_parsesF_61 : decode cX13_parsesF 61 = .ok (.iload_n 1, 1) := by decide +kernel
theorem dX13_parsesF_62 : decode cX13_parsesF 62 = .ok (.iconst 1, 1) := by decide +kernel
theorem dX13_parsesF_63 : decode cX13_parsesF 63 = .ok (.iadd, 1) := by decide +kernel
theorem dX13_parsesF_64 : decode cX13_parsesF 64 = .ok (.aload_n 0, 1) := by decide +kernel
theorem dX13_parsesF_65 : decode cX13_parsesF 65 = .ok (.bipush 32, 2) := by decide +kernel
theorem dX13_parsesF_67 : decode cX13_parsesF 67 = .ok (.iconst 1, 1) := by decide +kernel
theorem dX13_parsesF_68 : decode cX13_parsesF 68 = .ok (.invokevirtual 287, 3) := by decide +kernel
theorem dX13_parsesF_71 : decode cX13_parsesF 71 = .ok (.iastore, 1) := by decide +kernel
theorem dX13_parsesF_72 : decode cX13_parsesF 72 = .ok (.aload_n 0, 1) := by decide +kernel
theorem dX13_parsesF_73 : decode cX13_parsesF 73 = .ok (.getfield 58, 3) := by decide +kernel
theorem dX13_parsesF_76 : decode cX13_parsesF 76 = .ok (.iload_n 1, 1) := by decide +kernel
theorem dX13_parsesF_77 : decode cX13_parsesF 77 = .ok (.iconst 2, 1) := by decide +kernel
theorem dX13_parsesF_78 : decode cX13_parsesF 78 = .ok (.iadd, 1) := by decide +kernel
theorem dX13_parsesF_79 : decode cX13_parsesF 79 = .ok (.aload_n 0, 1) := by decide +kernel
theorem dX13_parsesF_80 : decode cX13_parsesF 80 = .ok (.bipush 32, 2) := by decide +kernel
theorem dX13_parsesF_82 : decode cX13_parsesF 82 = .ok (.invokevirtual 290, 3) := by decide +kernel
theorem dX13_parsesF_85 : decode cX13_parsesF 85 = .ok (.iastore, 1) := by decide +kernel
theorem dX13_parsesF_86 : decode cX13_parsesF 86 = .ok (.return_, 1) := by decide +kernel
theorem dX13_parsesS_0 : decode cX13_parsesS 0 = .ok (.aload_n 0, 1) := by decide +kernel
theorem dX13_parsesS_1 : decode cX13_parsesS 1 = .ok (.invokevirtual 274, 3) := by decide +kernel
theorem dX13_parsesS_4 : decode cX13_parsesS 4 = .ok (.bipush 104, 2) := by decide +kernel
theorem dX13_parsesS_6 : decode cX13_parsesS 6 = .ok (.if_icmp .ne 45, 3) := by decide +kernel
theorem dX13_parsesS_9 : decode cX13_parsesS 9 = .ok (.aload_n 0, 1) := by decide +kernel
theorem dX13_parsesS_10 : decode cX13_parsesS 10 = .ok (.getfield 58, 3) := by decide +kernel
theorem dX13_parsesS_13 : decode cX13_parsesS 13 = .ok (.iload_n 1, 1) := by decide +kernel
theorem dX13_parsesS_14 : decode cX13_parsesS 14 = .ok (.bipush 104, 2) := by decide +kernel
theorem dX13_parsesS_16 : decode cX13_parsesS 16 = .ok (.iastore, 1) := by decide +kernel
theorem dX13_parsesS_17 : decode cX13_parsesS 17 = .ok (.aload_n 0, 1) := by decide +kernel
theorem dX13_parsesS_18 : decode cX13_parsesS 18 = .ok (.bipush 104, 2) := by decide +kernel
theorem dX13_parsesS_20 : decode cX13_parsesS 20 = .ok (.bipush 97, 2) := by decide +kernel
theorem dX13_parsesS_22 : decode cX13_parsesS 22 = .ok (.bipush 114, 2) := by decide +kernel
theorem dX13_parsesS_24 : decode cX13_parsesS 24 = .ok (.invokevirtual 283, 3) := by decide +kernel
theorem dX13_parsesS_27 : decode cX13_parsesS 27 = .ok (.aload_n 0, 1) := by decide +kernel
theorem dX13_parsesS_28 : decode cX13_parsesS 28 = .ok (.bipush 101, 2) := by decide +kernel
theorem dX13_parsesS_30 : decode cX13_parsesS 30 = .ok (.invokevirtual 277, 3) := by decide +kernel
theorem dX13_parsesS_33 : decode cX13_parsesS 33 = .ok (.aload_n 0, 1) := by decide +kernel
theorem dX13_parsesS_34 : decode cX13_parsesS 34 = .ok (.getfield 58, 3) := by decide +kernel
theorem dX13_parsesS_37 : decode cX13_parsesS 37 = .ok (.iload_n 1, 1) := by decide +kernel
theorem dX13_parsesS_38 : decode cX13_parsesS 38 = .ok (.iconst 1, 1) := by decide +kernel
theorem dX13_parsesS_39 : decode cX13_parsesS 39 = .ok (.iadd, 1) := by decide +kernel
theorem dX13_parsesS_40 : decode cX13_parsesS 40 = .ok (.aload_n 0, 1) := by decide +kernel
theorem dX13_parsesS_41 : decode cX13_parsesS 41 = .ok (.bipush 32, 2) := by decide +kernel
theorem dX13_parsesS_43 : decode cX13_parsesS 43 = .ok (.iconst 2, 1) := by decide +kernel
theorem dX13_parsesS_44 : decode cX13_parsesS 44 = .ok (.invokevirtual 287, 3) := by decide +kernel
theorem dX13_parsesS_47 : decode cX13_parsesS 47 = .ok (.iastore, 1) := by decide +kernel
theorem dX13_parsesS_48 : decode cX13_parsesS 48 = .ok (.goto 67, 3) := by decide +kernel
theorem dX13_parsesS_51 : decode cX13_parsesS 51 = .ok (.aload_n 0, 1) := by decide +kernel
theorem dX13_parsesS_52 : decode cX13_parsesS 52 = .ok (.bipush 116, 2) := by decide +kernel
theorem dX13_parsesS_54 : decode cX13_parsesS 54 = .ok (.bipush 97, 2) := by decide +kernel
theorem dX13_parsesS_56 : decode cX13_parsesS 56 = .ok (.bipush 116, 2) := by decide +kernel
theorem dX13_parsesS_58 : decode cX13_parsesS 58 = .ok (.invokevirtual 283, 3) := by decide +kernel
theorem dX13_parsesS_61 : decode cX13_parsesS 61 = .ok (.aload_n 0, 1) := by decide +kernel
theorem dX13_parsesS_62 : decode cX13_parsesS 62 = .ok (.bipush 105, 2) := by decide +kernel
theorem dX13_parsesS_64 : decode cX13_parsesS 64 = .ok (.bipush 111, 2) := by decide +kernel
theorem dX13_parsesS_66 : decode cX13_parsesS 66 = .ok (.bipush 110, 2) := by decide +kernel
theorem dX13_parsesS_68 : decode cX13_parsesS 68 = .ok (.invokevirtual 283, 3) := by decide +kernel
theorem dX13_parsesS_71 : decode cX13_parsesS 71 = .ok (.aload_n 0, 1) := by decide +kernel
theorem dX13_parsesS_72 : decode cX13_parsesS 72 = .ok (.getfield 58, 3) := by decide +kernel
theorem dX13_parsesS_75 : decode cX13_parsesS 75 = .ok (.iload_n 1, 1) := by decide +kernel
theorem dX13_parsesS_76 : decode cX13_parsesS 76 = .ok (.iconst 1, 1) := by decide +kernel
theorem dX13_parsesS_77 : decode cX13_parsesS 77 = .ok (.iadd, 1) := by decide +kernel
theorem dX13_parsesS_78 : decode cX13_parsesS 78 = .ok (.aload_n 0, 1) := by decide +kernel
theorem dX13_parsesS_79 : decode cX13_parsesS 79 = .ok (.bipush 32, 2) := by decide +kernel
theorem dX13_parsesS_81 : decode cX13_parsesS 81 = .ok (.iconst 1, 1) := by decide +kernel
theorem dX13_parsesS_82 : decode cX13_parsesS 82 = .ok (.invokevirtual 287, 3) := by decide +kernel
theorem dX13_parsesS_85 : decode cX13_parsesS 85 = .ok (.iastore, 1) := by decide +kernel
theorem dX13_parsesS_86 : decode cX13_parsesS 86 = .ok (.aload_n 0, 1) := by decide +kernel
theorem dX13_parsesS_87 : decode cX13_parsesS 87 = .ok (.getfield 58, 3) := by decide +kernel
theorem dX13_parsesS_90 : decode cX13_parsesS 90 = .ok (.iload_n 1, 1) := by decide +kernel
theorem dX13_parsesS_91 : decode cX13_parsesS 91 = .ok (.iconst 2, 1) := by decide +kernel
theorem dX13_parsesS_92 : decode cX13_parsesS 92 = .ok (.iadd, 1) := by decide +kernel
theorem dX13_parsesS_93 : decode cX13_parsesS 93 = .ok (.aload_n 0, 1) := by decide +kernel
theorem dX13_parsesS_94 : decode cX13_parsesS 94 = .ok (.bipush 32, 2) := by decide +kernel
theorem dX13_parsesS_96 : decode cX13_parsesS 96 = .ok (.iconst 2, 1) := by decide +kernel
theorem dX13_parsesS_97 : decode cX13_parsesS 97 = .ok (.invokevirtual 287, 3) := by decide +kernel
theorem dX13_parsesS_100 : decode cX13_parsesS 100 = .ok (.iastore, 1) := by decide +kernel
theorem dX13_parsesS_101 : decode cX13_parsesS 101 = .ok (.aload_n 0, 1) := by decide +kernel
theorem dX13_parsesS_102 : decode cX13_parsesS 102 = .ok (.getfield 58, 3) := by decide +kernel
theorem dX13_parsesS_105 : decode cX13_parsesS 105 = .ok (.iload_n 1, 1) := by decide +kernel
theorem dX13_parsesS_106 : decode cX13_parsesS 106 = .ok (.iconst 3, 1) := by decide +kernel
theorem dX13_parsesS_107 : decode cX13_parsesS 107 = .ok (.iadd, 1) := by decide +kernel
theorem dX13_parsesS_108 : decode cX13_parsesS 108 = .ok (.aload_n 0, 1) := by decide +kernel
theorem dX13_parsesS_109 : decode cX13_parsesS 109 = .ok (.bipush 58, 2) := by decide +kernel
theorem dX13_parsesS_111 : decode cX13_parsesS 111 = .ok (.invokevirtual 290, 3) := by decide +kernel
theorem dX13_parsesS_114 : decode cX13_parsesS 114 = .ok (.iastore, 1) := by decide +kernel
theorem dX13_parsesS_115 : decode cX13_parsesS 115 = .ok (.return_, 1) := by decide +kernel
theorem dX13_parsesLine_0 : decode cX13_parsesLine 0 = .ok (.aload_n 0, 1) := by decide +kernel
theorem dX13_parsesLine_1 : decode cX13_parsesLine 1 = .ok (.bipush 105, 2) := by decide +kernel
theorem dX13_parsesLine_3 : decode cX13_parsesLine 3 = .ok (.bipush 110, 2) := by decide +kernel
theorem dX13_parsesLine_5 : decode cX13_parsesLine 5 = .ok (.bipush 101, 2) := by decide +kernel
theorem dX13_parsesLine_7 : decode cX13_parsesLine 7 = .ok (.invokevirtual 283, 3) := by decide +kernel
theorem dX13_parsesLine_10 : decode cX13_parsesLine 10 = .ok (.aload_n 0, 1) := by decide +kernel
theorem dX13_parsesLine_11 : decode cX13_parsesLine 11 = .ok (.getfield 58, 3) := by decide +kernel
theorem dX13_parsesLine_14 : decode cX13_parsesLine 14 = .ok (.iload_n 1, 1) := by decide +kernel
theorem dX13_parsesLine_15 : decode cX13_parsesLine 15 = .ok (.iconst 1, 1) := by decide +kernel
theorem dX13_parsesLine_16 : decode cX13_parsesLine 16 = .ok (.iadd, 1) := by decide +kernel
theorem dX13_parsesLine_17 : decode cX13_parsesLine 17 = .ok (.aload_n 0, 1) := by decide +kernel
theorem dX13_parsesLine_18 : decode cX13_parsesLine 18 = .ok (.bipush 32, 2) := by decide +kernel
theorem dX13_parsesLine_20 : decode cX13_parsesLine 20 = .ok (.iconst 1, 1) := by decide +kernel
theorem dX13_parsesLine_21 : decode cX13_parsesLine 21 = .ok (.invokevirtual 287, 3) := by decide +kernel
theorem dX13_parsesLine_24 : decode cX13_parsesLine 24 = .ok (.iastore, 1) := by decide +kernel
theorem dX13_parsesLine_25 : decode cX13_parsesLine 25 = .ok (.aload_n 0, 1) := by decide +kernel
theorem dX13_parsesLine_26 : decode cX13_parsesLine 26 = .ok (.getfield 58, 3) := by decide +kernel
theorem dX13_parsesLine_29 : decode cX13_parsesLine 29 = .ok (.iload_n 1, 1) := by decide +kernel
theorem dX13_parsesLine_30 : decode cX13_parsesLine 30 = .ok (.iconst 2, 1) := by decide +kernel
theorem dX13_parsesLine_31 : decode cX13_parsesLine 31 = .ok (.iadd, 1) := by decide +kernel
theorem dX13_parsesLine_32 : decode cX13_parsesLine 32 = .ok (.aload_n 0, 1) := by decide +kernel
theorem dX13_parsesLine_33 : decode cX13_parsesLine 33 = .ok (.iconst 1, 1) := by decide +kernel
theorem dX13_parsesLine_34 : decode cX13_parsesLine 34 = .ok (.invokevirtual 280, 3) := by decide +kernel
theorem dX13_parsesLine_37 : decode cX13_parsesLine 37 = .ok (.iastore, 1) := by decide +kernel
theorem dX13_parsesLine_38 : decode cX13_parsesLine 38 = .ok (.aload_n 0, 1) := by decide +kernel
theorem dX13_parsesLine_39 : decode cX13_parsesLine 39 = .ok (.getfield 58, 3) := by decide +kernel
theorem dX13_parsesLine_42 : decode cX13_parsesLine 42 = .ok (.iload_n 1, 1) := by decide +kernel
theorem dX13_parsesLine_43 : decode cX13_parsesLine 43 = .ok (.iconst 3, 1) := by decide +kernel
theorem dX13_parsesLine_44 : decode cX13_parsesLine 44 = .ok (.iadd, 1) := by decide +kernel
theorem dX13_parsesLine_45 : decode cX13_parsesLine 45 = .ok (.aload_n 0, 1) := by decide +kernel
theorem dX13_parsesLine_46 : decode cX13_parsesLine 46 = .ok (.bipush 32, 2) := by decide +kernel
theorem dX13_parsesLine_48 : decode cX13_parsesLine 48 = .ok (.invokevirtual 290, 3) := by decide +kernel
theorem dX13_parsesLine_51 : decode cX13_parsesLine 51 = .ok (.iastore, 1) := by decide +kernel
theorem dX13_parsesLine_52 : decode cX13_parsesLine 52 = .ok (.aload_n 0, 1) := by decide +kernel
theorem dX13_parsesLine_53 : decode cX13_parsesLine 53 = .ok (.getfield 58, 3) := by decide +kernel
theorem dX13_parsesLine_56 : decode cX13_parsesLine 56 = .ok (.iload_n 1, 1) := by decide +kernel
theorem dX13_parsesLine_57 : decode cX13_parsesLine 57 = .ok (.iconst 4, 1) := by decide +kernel
theorem dX13_parsesLine_58 : decode cX13_parsesLine 58 = .ok (.iadd, 1) := by decide +kernel
theorem dX13_parsesLine_59 : decode cX13_parsesLine 59 = .ok (.aload_n 0, 1) := by decide +kernel
theorem dX13_parsesLine_60 : decode cX13_parsesLine 60 = .ok (.bipush 47, 2) := by decide +kernel
theorem dX13_parsesLine_62 : decode cX13_parsesLine 62 = .ok (.iconst 2, 1) := by decide +kernel
theorem dX13_parsesLine_63 : decode cX13_parsesLine 63 = .ok (.invokevirtual 287, 3) := by decide +kernel
theorem dX13_parsesLine_66 : decode cX13_parsesLine 66 = .ok (.iastore, 1) := by decide +kernel
theorem dX13_parsesLine_67 : decode cX13_parsesLine 67 = .ok (.return_, 1) := by decide +kernel
theorem dX13_parsesMark_0 : decode cX13_parsesMark 0 = .ok (.aload_n 0, 1) := by decide +kernel
theorem dX13_parsesMark_1 : decode cX13_parsesMark 1 = .ok (.iload_n 2, 1) := by decide +kernel
theorem dX13_parsesMark_2 : decode cX13_parsesMark 2 = .ok (.invokevirtual 277, 3) := by decide +kernel
theorem dX13_parsesMark_5 : decode cX13_parsesMark 5 = .ok (.aload_n 0, 1) := by decide +kernel
theorem dX13_parsesMark_6 : decode cX13_parsesMark 6 = .ok (.iload_n 3, 1) := by decide +kernel
theorem dX13_parsesMark_7 : decode cX13_parsesMark 7 = .ok (.invokevirtual 277, 3) := by decide +kernel
theorem dX13_parsesMark_10 : decode cX13_parsesMark 10 = .ok (.aload_n 0, 1) := by decide +kernel
theorem dX13_parsesMark_11 : decode cX13_parsesMark 11 = .ok (.bipush 108, 2) := by decide +kernel
theorem dX13_parsesMark_13 : decode cX13_parsesMark 13 = .ok (.bipush 117, 2) := by decide +kernel
theorem dX13_parsesMark_15 : decode cX13_parsesMark 15 = .ok (.bipush 100, 2) := by decide +kernel
theorem dX13_parsesMark_17 : decode cX13_parsesMark 17 = .ok (.invokevirtual 283, 3) := by decide +kernel
theorem dX13_parsesMark_20 : decode cX13_parsesMark 20 = .ok (.aload_n 0, 1) := by decide +kernel
theorem dX13_parsesMark_21 : decode cX13_parsesMark 21 = .ok (.bipush 101, 2) := by decide +kernel
theorem dX13_parsesMark_23 : decode cX13_parsesMark 23 = .ok (.invokevirtual 277, 3) := by decide +kernel
theorem dX13_parsesMark_26 : decode cX13_parsesMark 26 = .ok (.aload_n 0, 1) := by decide +kernel
theorem dX13_parsesMark_27 : decode cX13_parsesMark 27 = .ok (.getfield 58, 3) := by decide +kernel
theorem dX13_parsesMark_30 : decode cX13_parsesMark 30 = .ok (.iload_n 1, 1) := by decide +kernel
theorem dX13_parsesMark_31 : decode cX13_parsesMark 31 = .ok (.iconst 1, 1) := by decide +kernel
theorem dX13_parsesMark_32 : decode cX13_parsesMark 32 = .ok (.iadd, 1) := by decide +kernel
theorem dX13_parsesMark_33 : decode cX13_parsesMark 33 = .ok (.aload_n 0, 1) := by decide +kernel
theorem dX13_parsesMark_34 : decode cX13_parsesMark 34 = .ok (.bipush 32, 2) := by decide +kernel
theorem dX13_parsesMark_36 : decode cX13_parsesMark 36 = .ok (.iconst 2, 1) := by decide +kernel
theorem dX13_parsesMark_37 : decode cX13_parsesMark 37 = .ok (.invokevirtual 287, 3) := by decide +kernel
theorem dX13_parsesMark_40 : decode cX13_parsesMark 40 = .ok (.iastore, 1) := by decide +kernel
theorem dX13_parsesMark_41 : decode cX13_parsesMark 41 = .ok (.return_, 1) := by decide +kernel
theorem dX13_parsesCommand_0 : decode cX13_parsesCommand 0 = .ok (.aload_n 0, 1) := by decide +kernel
theorem dX13_parsesCommand_1 : decode cX13_parsesCommand 1 = .ok (.invokevirtual 274, 3) := by decide +kernel
theorem dX13_parsesCommand_4 : decode cX13_parsesCommand 4 = .ok (.istore_n 2, 1) := by decide +kernel
theorem dX13_parsesCommand_5 : decode cX13_parsesCommand 5 = .ok (.aload_n 0, 1) := by decide +kernel
theorem dX13_parsesCommand_6 : decode cX13_parsesCommand 6 = .ok (.dup, 1) := by decide +kernel
theorem dX13_parsesCommand_7 : decode cX13_parsesCommand 7 = .ok (.getfield 267, 3) := by decide +kernel
theorem dX13_parsesCommand_10 : decode cX13_parsesCommand 10 = .ok (.iconst 1, 1) := by decide +kernel
theorem dX13_parsesCommand_11 : decode cX13_parsesCommand 11 = .ok (.iadd, 1) := by decide +kernel
theorem dX13_parsesCommand_12 : decode cX13_parsesCommand 12 = .ok (.putfield 267, 3) := by decide +kernel
theorem dX13_parsesCommand_15 : decode cX13_parsesCommand 15 = .ok (.aload_n 0, 1) := by decide +kernel
theorem dX13_parsesCommand_16 : decode cX13_parsesCommand 16 = .ok (.getfield 58, 3) := by decide +kernel
theorem dX13_parsesCommand_19 : decode cX13_parsesCommand 19 = .ok (.iload_n 1, 1) := by decide +kernel
theorem dX13_parsesCommand_20 : decode cX13_parsesCommand 20 = .ok (.iload_n 2, 1) := by decide +kernel
theorem dX13_parsesCommand_21 : decode cX13_parsesCommand 21 = .ok (.iastore, 1) := by decide +kernel
theorem dX13_parsesCommand_22 : decode cX13_parsesCommand 22 = .ok (.iload_n 2, 1) := by decide +kernel
theorem dX13_parsesCommand_23 : decode cX13_parsesCommand 23 = .ok (.tableswitch 251 98 119 #[125, 251, 251, 167, 109, 251, 251, 179, 251, 251, 117, 251, 251, 251, 101, 251, 199, 191, 251, 251, 251, 218], 101) := by decide +kernel
theorem dX13_parsesCommand_124 : decode cX13_parsesCommand 124 = .ok (.aload_n 0, 1) := by decide +kernel
theorem dX13_parsesCommand_125 : decode cX13_parsesCommand 125 = .ok (.iload_n 1, 1) := by decide +kernel
theorem dX13_parsesCommand_126 : decode cX13_parsesCommand 126 = .ok (.invokevirtual 293, 3) := by decide +kernel
theorem dX13_parsesCommand_129 : decode cX13_parsesCommand 129 = .ok (.goto 160, 3) := by decide +kernel
theorem dX13_parsesCommand_132 : decode cX13_parsesCommand 132 = .ok (.aload_n 0, 1) := by decide +kernel
theorem dX13_parsesCommand_133 : decode cX13_parsesCommand 133 = .ok (.iload_n 1, 1) := by decide +kernel
theorem dX13_parsesCommand_134 : decode cX13_parsesCommand 134 = .ok (.invokevirtual 296, 3) := by decide +kernel
theorem dX13_parsesCommand_137 : decode cX13_parsesCommand 137 = .ok (.goto 152, 3) := by decide +kernel
theorem dX13_parsesCommand_140 : decode cX13_parsesCommand 140 = .ok (.aload_n 0, 1) := by decide +kernel
theorem dX13_parsesCommand_141 : decode cX13_parsesCommand 141 = .ok (.iload_n 1, 1) := by decide +kernel
theorem dX13_parsesCommand_142 : decode cX13_parsesCommand 142 = .ok (.invokevirtual 299, 3) := by decide +kernel
theorem dX13_parsesCommand_145 : decode cX13_parsesCommand 145 = .ok (.goto 144, 3) := by decide +kernel
theorem dX13_parsesCommand_148 : decode cX13_parsesCommand 148 = .ok (.aload_n 0, 1) := by decide +kernel
theorem dX13_parsesCommand_149 : decode cX13_parsesCommand 149 = .ok (.bipush 97, 2) := by decide +kernel
theorem dX13_parsesCommand_151 : decode cX13_parsesCommand 151 = .ok (.bipush 99, 2) := by decide +kernel
theorem dX13_parsesCommand_153 : decode cX13_parsesCommand 153 = .ok (.bipush 107, 2) := by decide +kernel
theorem dX13_parsesCommand_155 : decode cX13_parsesCommand 155 = .ok (.invokevirtual 283, 3) := by decide +kernel
theorem dX13_parsesCommand_158 : decode cX13_parsesCommand 158 = .ok (.aload_n 0, 1) := by decide +kernel
theorem dX13_parsesCommand_159 : decode cX13_parsesCommand 159 = .ok (.getfield 58, 3) := by decide +kernel
theorem dX13_parsesCommand_162 : decode cX13_parsesCommand 162 = .ok (.iload_n 1, 1) := by decide +kernel
theorem dX13_parsesCommand_163 : decode cX13_parsesCommand 163 = .ok (.iconst 1, 1) := by decide +kernel
theorem dX13_parsesCommand_164 : decode cX13_parsesCommand 164 = .ok (.iadd, 1) := by decide +kernel
theorem dX13_parsesCommand_165 : decode cX13_parsesCommand 165 = .ok (.aload_n 0, 1) := by decide +kernel
theorem dX13_parsesCommand_166 : decode cX13_parsesCommand 166 = .ok (.bipush 32, 2) := by decide +kernel
theorem dX13_parsesCommand_168 : decode cX13_parsesCommand 168 = .ok (.iconst 2, 1) := by decide +kernel
theorem dX13_parsesCommand_169 : decode cX13_parsesCommand 169 = .ok (.invokevirtual 287, 3) := by decide +kernel
theorem dX13_parsesCommand_172 : decode cX13_parsesCommand 172 = .ok (.iastore, 1) := by decide +kernel
theorem dX13_parsesCommand_173 : decode cX13_parsesCommand 173 = .ok (.aload_n 0, 1) := by decide +kernel
theorem dX13_parsesCommand_174 : decode cX13_parsesCommand 174 = .ok (.getfield 58, 3) := by decide +kernel
theorem dX13_parsesCommand_177 : decode cX13_parsesCommand 177 = .ok (.iload_n 1, 1) := by decide +kernel
theorem dX13_parsesCommand_178 : decode cX13_parsesCommand 178 = .ok (.iconst 2, 1) := by decide +kernel
theorem dX13_parsesCommand_179 : decode cX13_parsesCommand 179 = .ok (.iadd, 1) := by decide +kernel
theorem dX13_parsesCommand_180 : decode cX13_parsesCommand 180 = .ok (.aload_n 0, 1) := by decide +kernel
theorem dX13_parsesCommand_181 : decode cX13_parsesCommand 181 = .ok (.bipush 32, 2) := by decide +kernel
theorem dX13_parsesCommand_183 : decode cX13_parsesCommand 183 = .ok (.invokevirtual 290, 3) := by decide +kernel
theorem dX13_parsesCommand_186 : decode cX13_parsesCommand 186 = .ok (.iastore, 1) := by decide +kernel
theorem dX13_parsesCommand_187 : decode cX13_parsesCommand 187 = .ok (.goto 102, 3) := by decide +kernel
theorem dX13_parsesCommand_190 : decode cX13_parsesCommand 190 = .ok (.aload_n 0, 1) := by decide +kernel
theorem dX13_parsesCommand_191 : decode cX13_parsesCommand 191 = .ok (.iload_n 1, 1) := by decide +kernel
theorem dX13_parsesCommand_192 : decode cX13_parsesCommand 192 = .ok (.bipush 120, 2) := by decide +kernel
theorem dX13_parsesCommand_194 : decode cX13_parsesCommand 194 = .ok (.bipush 99, 2) := by decide +kernel
theorem dX13_parsesCommand_196 : decode cX13_parsesCommand 196 = .ok (.invokevirtual 302, 3) := by decide +kernel
theorem dX13_parsesCommand_199 : decode cX13_parsesCommand 199 = .ok (.goto 90, 3) := by decide +kernel
theorem dX13_parsesCommand_202 : decode cX13_parsesCommand 202 = .ok (.aload_n 0, 1) := by decide +kernel
theorem dX13_parsesCommand_203 : decode cX13_parsesCommand 203 = .ok (.iload_n 1, 1) := by decide +kernel
theorem dX13_parsesCommand_204 : decode cX13_parsesCommand 204 = .ok (.bipush 110, 2) := by decide +kernel
theorem dX13_parsesCommand_206 : decode cX13_parsesCommand 206 = .ok (.bipush 99, 2) := by decide +kernel
theorem dX13_parsesCommand_208 : decode cX13_parsesCommand 208 = .ok (.invokevirtual 302, 3) := by decide +kernel
theorem dX13_parsesCommand_211 : decode cX13_parsesCommand 211 = .ok (.goto 78, 3) := by decide +kernel
theorem dX13_parsesCommand_214 : decode cX13_parsesCommand 214 = .ok (.aload_n 0, 1) := by decide +kernel
theorem dX13_parsesCommand_215 : decode cX13_parsesCommand 215 = .ok (.iload_n 1, 1) := by decide +kernel
theorem dX13_parsesCommand_216 : decode cX13_parsesCommand 216 = .ok (.invokevirtual 305, 3) := by decide +kernel
theorem dX13_parsesCommand_219 : decode cX13_parsesCommand 219 = .ok (.goto 70, 3) := by decide +kernel
theorem dX13_parsesCommand_222 : decode cX13_parsesCommand 222 = .ok (.aload_n 0, 1) := by decide +kernel
theorem dX13_parsesCommand_223 : decode cX13_parsesCommand 223 = .ok (.bipush 101, 2) := by decide +kernel
theorem dX13_parsesCommand_225 : decode cX13_parsesCommand 225 = .ok (.bipush 115, 2) := by decide +kernel
theorem dX13_parsesCommand_227 : decode cX13_parsesCommand 227 = .ok (.bipush 101, 2) := by decide +kernel
theorem dX13_parsesCommand_229 : decode cX13_parsesCommand 229 = .ok (.invokevirtual 283, 3) := by decide +kernel
theorem dX13_parsesCommand_232 : decode cX13_parsesCommand 232 = .ok (.aload_n 0, 1) := by decide +kernel
theorem dX13_parsesCommand_233 : decode cX13_parsesCommand 233 = .ok (.bipush 116, 2) := by decide +kernel
theorem dX13_parsesCommand_235 : decode cX13_parsesCommand 235 = .ok (.invokevirtual 277, 3) := by decide +kernel
theorem dX13_parsesCommand_238 : decode cX13_parsesCommand 238 = .ok (.goto 51, 3) := by decide +kernel
theorem dX13_parsesCommand_241 : decode cX13_parsesCommand 241 = .ok (.aload_n 0, 1) := by decide +kernel
theorem dX13_parsesCommand_242 : decode cX13_parsesCommand 242 = .ok (.bipush 97, 2) := by decide +kernel
theorem dX13_parsesCommand_244 : decode cX13_parsesCommand 244 = .ok (.bipush 116, 2) := by decide +kernel
theorem dX13_parsesCommand_246 : decode cX13_parsesCommand 246 = .ok (.bipush 101, 2) := by decide +kernel
theorem dX13_parsesCommand_248 : decode cX13_parsesCommand 248 = .ok (.invokevirtual 283, 3) := by decide +kernel
theorem dX13_parsesCommand_251 : decode cX13_parsesCommand 251 = .ok (.aload_n 0, 1) := by decide +kernel
theorem dX13_parsesCommand_252 : decode cX13_parsesCommand 252 = .ok (.bipush 114, 2) := by decide +kernel
theorem dX13_parsesCommand_254 : decode cX13_parsesCommand 254 = .ok (.invokevirtual 277, 3) := by decide +kernel
theorem dX13_parsesCommand_257 : decode cX13_parsesCommand 257 = .ok (.aload_n 0, 1) := by decide +kernel
theorem dX13_parsesCommand_258 : decode cX13_parsesCommand 258 = .ok (.getfield 58, 3) := by decide +kernel
theorem dX13_parsesCommand_261 : decode cX13_parsesCommand 261 = .ok (.iload_n 1, 1) := by decide +kernel
theorem dX13_parsesCommand_262 : decode cX13_parsesCommand 262 = .ok (.iconst 1, 1) := by decide +kernel
theorem dX13_parsesCommand_263 : decode cX13_parsesCommand 263 = .ok (.iadd, 1) := by decide +kernel
theorem dX13_parsesCommand_264 : decode cX13_parsesCommand 264 = .ok (.aload_n 0, 1) := by decide +kernel
theorem dX13_parsesCommand_265 : decode cX13_parsesCommand 265 = .ok (.bipush 32, 2) := by decide +kernel
theorem dX13_parsesCommand_267 : decode cX13_parsesCommand 267 = .ok (.invokevirtual 290, 3) := by decide +kernel
theorem dX13_parsesCommand_270 : decode cX13_parsesCommand 270 = .ok (.iastore, 1) := by decide +kernel
theorem dX13_parsesCommand_271 : decode cX13_parsesCommand 271 = .ok (.goto 18, 3) := by decide +kernel
theorem dX13_parsesCommand_274 : decode cX13_parsesCommand 274 = .ok (.aload_n 0, 1) := by decide +kernel
theorem dX13_parsesCommand_275 : decode cX13_parsesCommand 275 = .ok (.iconst 1, 1) := by decide +kernel
theorem dX13_parsesCommand_276 : decode cX13_parsesCommand 276 = .ok (.putfield 270, 3) := by decide +kernel
theorem dX13_parsesCommand_279 : decode cX13_parsesCommand 279 = .ok (.aload_n 0, 1) := by decide +kernel
theorem dX13_parsesCommand_280 : decode cX13_parsesCommand 280 = .ok (.dup, 1) := by decide +kernel
theorem dX13_parsesCommand_281 : decode cX13_parsesCommand 281 = .ok (.getfield 267, 3) := by decide +kernel
theorem dX13_parsesCommand_284 : decode cX13_parsesCommand 284 = .ok (.iconst 1, 1) := by decide +kernel
theorem dX13_parsesCommand_285 : decode cX13_parsesCommand 285 = .ok (.isub, 1) := by decide +kernel
theorem dX13_parsesCommand_286 : decode cX13_parsesCommand 286 = .ok (.putfield 267, 3) := by decide +kernel
theorem dX13_parsesCommand_289 : decode cX13_parsesCommand 289 = .ok (.return_, 1) := by decide +kernel
theorem dX13_carriesOut_0 : decode cX13_carriesOut 0 = .ok (.aload_n 0, 1) := by decide +kernel
theorem dX13_carriesOut_1 : decode cX13_carriesOut 1 = .ok (.getfield 58, 3) := by decide +kernel
theorem dX13_carriesOut_4 : decode cX13_carriesOut 4 = .ok (.iload_n 1, 1) := by decide +kernel
theorem dX13_carriesOut_5 : decode cX13_carriesOut 5 = .ok (.iconst 1, 1) := by decide +kernel
theorem dX13_carriesOut_6 : decode cX13_carriesOut 6 = .ok (.iadd, 1) := by decide +kernel
theorem dX13_carriesOut_7 : decode cX13_carriesOut 7 = .ok (.iaload, 1) := by decide +kernel
theorem dX13_carriesOut_8 : decode cX13_carriesOut 8 = .ok (.istore_n 2, 1) := by decide +kernel
theorem dX13_carriesOut_9 : decode cX13_carriesOut 9 = .ok (.aload_n 0, 1) := by decide +kernel
theorem dX13_carriesOut_10 : decode cX13_carriesOut 10 = .ok (.getfield 58, 3) := by decide +kernel
theorem dX13_carriesOut_13 : decode cX13_carriesOut 13 = .ok (.iload_n 1, 1) := by decide +kernel
theorem dX13_carriesOut_14 : decode cX13_carriesOut 14 = .ok (.iconst 2, 1) := by decide +kernel
theorem dX13_carriesOut_15 : decode cX13_carriesOut 15 = .ok (.iadd, 1) := by decide +kernel
theorem dX13_carriesOut_16 : decode cX13_carriesOut 16 = .ok (.iaload, 1) := by decide +kernel
theorem dX13_carriesOut_17 : decode cX13_carriesOut 17 = .ok (.istore_n 3, 1) := by decide +kernel
theorem dX13_carriesOut_18 : decode cX13_carriesOut 18 = .ok (.aload_n 0, 1) := by decide +kernel
theorem dX13_carriesOut_19 : decode cX13_carriesOut 19 = .ok (.getfield 58, 3) := by decide +kernel
theorem dX13_carriesOut_22 : decode cX13_carriesOut 22 = .ok (.iload_n 1, 1) := by decide +kernel
theorem dX13_carriesOut_23 : decode cX13_carriesOut 23 = .ok (.iaload, 1) := by decide +kernel
theorem dX13_carriesOut_24 : decode cX13_carriesOut 24 = .ok (.tableswitch 190 98 117 #[143, 190, 190, 150, 107, 190, 164, 157, 190, 190, 120, 190, 190, 101, 96, 190, 185, 170, 190, 114], 96) := by decide +kernel
theorem dX13_carriesOut_120 : decode cX13_carriesOut 120 = .ok (.aload_n 0, 1) := by decide +kernel
theorem dX13_carriesOut_121 : decode cX13_carriesOut 121 = .ok (.invokevirtual 139, 3) := by decide +kernel
theorem dX13_carriesOut_124 : decode cX13_carriesOut 124 = .ok (.ireturn, 1) := by decide +kernel
theorem dX13_carriesOut_125 : decode cX13_carriesOut 125 = .ok (.aload_n 0, 1) := by decide +kernel
theorem dX13_carriesOut_126 : decode cX13_carriesOut 126 = .ok (.iload_n 2, 1) := by decide +kernel
theorem dX13_carriesOut_127 : decode cX13_carriesOut 127 = .ok (.invokevirtual 193, 3) := by decide +kernel
theorem dX13_carriesOut_130 : decode cX13_carriesOut 130 = .ok (.ireturn, 1) := by decide +kernel
theorem dX13_carriesOut_131 : decode cX13_carriesOut 131 = .ok (.aload_n 0, 1) := by decide +kernel
theorem dX13_carriesOut_132 : decode cX13_carriesOut 132 = .ok (.iload_n 2, 1) := by decide +kernel
theorem dX13_carriesOut_133 : decode cX13_carriesOut 133 = .ok (.iload_n 3, 1) := by decide +kernel
theorem dX13_carriesOut_134 : decode cX13_carriesOut 134 = .ok (.invokevirtual 150, 3) := by decide +kernel
theorem dX13_carriesOut_137 : decode cX13_carriesOut 137 = .ok (.ireturn, 1) := by decide +kernel
theorem dX13_carriesOut_138 : decode cX13_carriesOut 138 = .ok (.aload_n 0, 1) := by decide +kernel
theorem dX13_carriesOut_139 : decode cX13_carriesOut 139 = .ok (.iload_n 2, 1) := by decide +kernel
theorem dX13_carriesOut_140 : decode cX13_carriesOut 140 = .ok (.invokevirtual 153, 3) := by decide +kernel
theorem dX13_carriesOut_143 : decode cX13_carriesOut 143 = .ok (.ireturn, 1) := by decide +kernel
theorem dX13_carriesOut_144 : decode cX13_carriesOut 144 = .ok (.aload_n 0, 1) := by decide +kernel
theorem dX13_carriesOut_145 : decode cX13_carriesOut 145 = .ok (.iload_n 2, 1) := by decide +kernel
theorem dX13_carriesOut_146 : decode cX13_carriesOut 146 = .ok (.iload_n 3, 1) := by decide +kernel
theorem dX13_carriesOut_147 : decode cX13_carriesOut 147 = .ok (.aload_n 0, 1) := by decide +kernel
theorem dX13_carriesOut_148 : decode cX13_carriesOut 148 = .ok (.getfield 58, 3) := by decide +kernel
theorem dX13_carriesOut_151 : decode cX13_carriesOut 151 = .ok (.iload_n 1, 1) := by decide +kernel
theorem dX13_carriesOut_152 : decode cX13_carriesOut 152 = .ok (.iconst 3, 1) := by decide +kernel
theorem dX13_carriesOut_153 : decode cX13_carriesOut 153 = .ok (.iadd, 1) := by decide +kernel
theorem dX13_carriesOut_154 : decode cX13_carriesOut 154 = .ok (.iaload, 1) := by decide +kernel
theorem dX13_carriesOut_155 : decode cX13_carriesOut 155 = .ok (.aload_n 0, 1) := by decide +kernel
theorem dX13_carriesOut_156 : decode cX13_carriesOut 156 = .ok (.getfield 58, 3) := by decide +kernel
theorem dX13_carriesOut_159 : decode cX13_carriesOut 159 = .ok (.iload_n 1, 1) := by decide +kernel
theorem dX13_carriesOut_160 : decode cX13_carriesOut 160 = .ok (.iconst 4, 1) := by decide +kernel
theorem dX13_carriesOut_161 : decode cX13_carriesOut 161 = .ok (.iadd, 1) := by decide +kernel
theorem dX13_carriesOut_162 : decode cX13_carriesOut 162 = .ok (.iaload, 1) := by decide +kernel
theorem dX13_carriesOut_163 : decode cX13_carriesOut 163 = .ok (.invokevirtual 156, 3) := by decide +kernel
theorem dX13_carriesOut_166 : decode cX13_carriesOut 166 = .ok (.ireturn, 1) := by decide +kernel
theorem dX13_carriesOut_167 : decode cX13_carriesOut 167 = .ok (.aload_n 0, 1) := by decide +kernel
theorem dX13_carriesOut_168 : decode cX13_carriesOut 168 = .ok (.iload_n 2, 1) := by decide +kernel
theorem dX13_carriesOut_169 : decode cX13_carriesOut 169 = .ok (.iload_n 3, 1) := by decide +kernel
theorem dX13_carriesOut_170 : decode cX13_carriesOut 170 = .ok (.invokevirtual 163, 3) := by decide +kernel
theorem dX13_carriesOut_173 : decode cX13_carriesOut 173 = .ok (.ireturn, 1) := by decide +kernel
theorem dX13_carriesOut_174 : decode cX13_carriesOut 174 = .ok (.aload_n 0, 1) := by decide +kernel
theorem dX13_carriesOut_175 : decode cX13_carriesOut 175 = .ok (.iload_n 2, 1) := by decide +kernel
theorem dX13_carriesOut_176 : decode cX13_carriesOut 176 = .ok (.iconst 0, 1) := by decide +kernel
theorem dX13_carriesOut_177 : decode cX13_carriesOut 177 = .ok (.invokevirtual 169, 3) := by decide +kernel
theorem dX13_carriesOut_180 : decode cX13_carriesOut 180 = .ok (.ireturn, 1) := by decide +kernel
theorem dX13_carriesOut_181 : decode cX13_carriesOut 181 = .ok (.aload_n 0, 1) := by decide +kernel
theorem dX13_carriesOut_182 : decode cX13_carriesOut 182 = .ok (.iload_n 2, 1) := by decide +kernel
theorem dX13_carriesOut_183 : decode cX13_carriesOut 183 = .ok (.iconst 1, 1) := by decide +kernel
theorem dX13_carriesOut_184 : decode cX13_carriesOut 184 = .ok (.invokevirtual 169, 3) := by decide +kernel
theorem dX13_carriesOut_187 : decode cX13_carriesOut 187 = .ok (.ireturn, 1) := by decide +kernel
theorem dX13_carriesOut_188 : decode cX13_carriesOut 188 = .ok (.aload_n 0, 1) := by decide +kernel
theorem dX13_carriesOut_189 : decode cX13_carriesOut 189 = .ok (.iload_n 2, 1) := by decide +kernel
theorem dX13_carriesOut_190 : decode cX13_carriesOut 190 = .ok (.invokevirtual 187, 3) := by decide +kernel
theorem dX13_carriesOut_193 : decode cX13_carriesOut 193 = .ok (.ireturn, 1) := by decide +kernel
theorem dX13_carriesOut_194 : decode cX13_carriesOut 194 = .ok (.aload_n 0, 1) := by decide +kernel
theorem dX13_carriesOut_195 : decode cX13_carriesOut 195 = .ok (.iload_n 2, 1) := by decide +kernel
theorem dX13_carriesOut_196 : decode cX13_carriesOut 196 = .ok (.iload_n 3, 1) := by decide +kernel
theorem dX13_carriesOut_197 : decode cX13_carriesOut 197 = .ok (.aload_n 0, 1) := by decide +kernel
theorem dX13_carriesOut_198 : decode cX13_carriesOut 198 = .ok (.getfield 58, 3) := by decide +kernel
theorem dX13_carriesOut_201 : decode cX13_carriesOut 201 = .ok (.iload_n 1, 1) := by decide +kernel
theorem dX13_carriesOut_202 : decode cX13_carriesOut 202 = .ok (.iconst 3, 1) := by decide +kernel
theorem dX13_carriesOut_203 : decode cX13_carriesOut 203 = .ok (.iadd, 1) := by decide +kernel
theorem dX13_carriesOut_204 : decode cX13_carriesOut 204 = .ok (.iaload, 1) := by decide +kernel
theorem dX13_carriesOut_205 : decode cX13_carriesOut 205 = .ok (.invokevirtual 202, 3) := by decide +kernel
theorem dX13_carriesOut_208 : decode cX13_carriesOut 208 = .ok (.ireturn, 1) := by decide +kernel
theorem dX13_carriesOut_209 : decode cX13_carriesOut 209 = .ok (.aload_n 0, 1) := by decide +kernel
theorem dX13_carriesOut_210 : decode cX13_carriesOut 210 = .ok (.invokevirtual 190, 3) := by decide +kernel
theorem dX13_carriesOut_213 : decode cX13_carriesOut 213 = .ok (.ireturn, 1) := by decide +kernel
theorem dX13_carriesOut_214 : decode cX13_carriesOut 214 = .ok (.aload_n 0, 1) := by decide +kernel
theorem dX13_carriesOut_215 : decode cX13_carriesOut 215 = .ok (.iload_n 2, 1) := by decide +kernel
theorem dX13_carriesOut_216 : decode cX13_carriesOut 216 = .ok (.invokevirtual 205, 3) := by decide +kernel
theorem dX13_carriesOut_219 : decode cX13_carriesOut 219 = .ok (.ireturn, 1) := by decide +kernel
theorem dX13_runScript_0 : decode cX13_runScript 0 = .ok (.aload_n 0, 1) := by decide +kernel
theorem dX13_runScript_1 : decode cX13_runScript 1 = .ok (.iconst 0, 1) := by decide +kernel
theorem dX13_runScript_2 : decode cX13_runScript 2 = .ok (.putfield 267, 3) := by decide +kernel
theorem dX13_runScript_5 : decode cX13_runScript 5 = .ok (.aload_n 0, 1) := by decide +kernel
theorem dX13_runScript_6 : decode cX13_runScript 6 = .ok (.iconst 0, 1) := by decide +kernel
theorem dX13_runScript_7 : decode cX13_runScript 7 = .ok (.putfield 270, 3) := by decide +kernel
theorem dX13_runScript_10 : decode cX13_runScript 10 = .ok (.iconst 0, 1) := by decide +kernel
theorem dX13_runScript_11 : decode cX13_runScript 11 = .ok (.istore_n 1, 1) := by decide +kernel
theorem dX13_runScript_12 : decode cX13_runScript 12 = .ok (.iconst 1, 1) := by decide +kernel
theorem dX13_runScript_13 : decode cX13_runScript 13 = .ok (.istore_n 2, 1) := by decide +kernel
theorem dX13_runScript_14 : decode cX13_runScript 14 = .ok (.iload_n 2, 1) := by decide +kernel
theorem dX13_runScript_15 : decode cX13_runScript 15 = .ok (.ifCond .eq 56, 3) := by decide +kernel
theorem dX13_runScript_18 : decode cX13_runScript 18 = .ok (.aload_n 0, 1) := by decide +kernel
theorem dX13_runScript_19 : decode cX13_runScript 19 = .ok (.iconst 5, 1) := by decide +kernel
theorem dX13_runScript_20 : decode cX13_runScript 20 = .ok (.iload_n 1, 1) := by decide +kernel
theorem dX13_runScript_21 : decode cX13_runScript 21 = .ok (.imul, 1) := by decide +kernel
theorem dX13_runScript_22 : decode cX13_runScript 22 = .ok (.invokevirtual 308, 3) := by decide +kernel
theorem dX13_runScript_25 : decode cX13_runScript 25 = .ok (.iinc 1 1, 3) := by decide +kernel
theorem dX13_runScript_28 : decode cX13_runScript 28 = .ok (.aload_n 0, 1) := by decide +kernel
theorem dX13_runScript_29 : decode cX13_runScript 29 = .ok (.getfield 270, 3) := by decide +kernel
theorem dX13_runScript_32 : decode cX13_runScript 32 = .ok (.ifCond .ne 16, 3) := by decide +kernel
theorem dX13_runScript_35 : decode cX13_runScript 35 = .ok (.aload_n 0, 1) := by decide +kernel
theorem dX13_runScript_36 : decode cX13_runScript 36 = .ok (.invokevirtual 274, 3) := by decide +kernel
theorem dX13_runScript_39 : decode cX13_runScript 39 = .ok (.bipush 59, 2) := by decide +kernel
theorem dX13_runScript_41 : decode cX13_runScript 41 = .ok (.if_icmp .ne 7, 3) := by decide +kernel
theorem dX13_runScript_44 : decode cX13_runScript 44 = .ok (.iconst 1, 1) := by decide +kernel
theorem dX13_runScript_45 : decode cX13_runScript 45 = .ok (.goto 4, 3) := by decide +kernel
theorem dX13_runScript_48 : decode cX13_runScript 48 = .ok (.iconst 0, 1) := by decide +kernel
theorem dX13_runScript_49 : decode cX13_runScript 49 = .ok (.istore_n 2, 1) := by decide +kernel
theorem dX13_runScript_50 : decode cX13_runScript 50 = .ok (.aload_n 0, 1) := by decide +kernel
theorem dX13_runScript_51 : decode cX13_runScript 51 = .ok (.dup, 1) := by decide +kernel
theorem dX13_runScript_52 : decode cX13_runScript 52 = .ok (.getfield 267, 3) := by decide +kernel
theorem dX13_runScript_55 : decode cX13_runScript 55 = .ok (.iload_n 2, 1) := by decide +kernel
theorem dX13_runScript_56 : decode cX13_runScript 56 = .ok (.ifCond .eq 7, 3) := by decide +kernel
theorem dX13_runScript_59 : decode cX13_runScript 59 = .ok (.iconst 1, 1) := by decide +kernel
theorem dX13_runScript_60 : decode cX13_runScript 60 = .ok (.goto 4, 3) := by decide +kernel
theorem dX13_runScript_63 : decode cX13_runScript 63 = .ok (.iconst 0, 1) := by decide +kernel
theorem dX13_runScript_64 : decode cX13_runScript 64 = .ok (.iadd, 1) := by decide +kernel
theorem dX13_runScript_65 : decode cX13_runScript 65 = .ok (.putfield 267, 3) := by decide +kernel
theorem dX13_runScript_68 : decode cX13_runScript 68 = .ok (.goto (-54), 3) := by decide +kernel
theorem dX13_runScript_71 : decode cX13_runScript 71 = .ok (.aload_n 0, 1) := by decide +kernel
theorem dX13_runScript_72 : decode cX13_runScript 72 = .ok (.aload_n 0, 1) := by decide +kernel
theorem dX13_runScript_73 : decode cX13_runScript 73 = .ok (.getfield 270, 3) := by decide +kernel
theorem dX13_runScript_76 : decode cX13_runScript 76 = .ok (.ifCond .ne 14, 3) := by decide +kernel
theorem dX13_runScript_79 : decode cX13_runScript 79 = .ok (.aload_n 0, 1) := by decide +kernel
theorem dX13_runScript_80 : decode cX13_runScript 80 = .ok (.getfield 267, 3) := by decide +kernel
theorem dX13_runScript_83 : decode cX13_runScript 83 = .ok (.aload_n 0, 1) := by decide +kernel
theorem dX13_runScript_84 : decode cX13_runScript 84 = .ok (.getfield 264, 3) := by decide +kernel
theorem dX13_runScript_87 : decode cX13_runScript 87 = .ok (.if_icmp .ge 7, 3) := by decide +kernel
theorem dX13_runScript_90 : decode cX13_runScript 90 = .ok (.iconst 1, 1) := by decide +kernel
theorem dX13_runScript_91 : decode cX13_runScript 91 = .ok (.goto 4, 3) := by decide +kernel
theorem dX13_runScript_94 : decode cX13_runScript 94 = .ok (.iconst 0, 1) := by decide +kernel
theorem dX13_runScript_95 : decode cX13_runScript 95 = .ok (.putfield 270, 3) := by decide +kernel
theorem dX13_runScript_98 : decode cX13_runScript 98 = .ok (.aload_n 0, 1) := by decide +kernel
theorem dX13_runScript_99 : decode cX13_runScript 99 = .ok (.iconst 0, 1) := by decide +kernel
theorem dX13_runScript_100 : decode cX13_runScript 100 = .ok (.putfield 264, 3) := by decide +kernel
theorem dX13_runScript_103 : decode cX13_runScript 103 = .ok (.aload_n 0, 1) := by decide +kernel
theorem dX13_runScript_104 : decode cX13_runScript 104 = .ok (.getfield 270, 3) := by decide +kernel
theorem dX13_runScript_107 : decode cX13_runScript 107 = .ok (.ifCond .eq 17, 3) := by decide +kernel
theorem dX13_runScript_110 : decode cX13_runScript 110 = .ok (.aload_n 0, 1) := by decide +kernel
theorem dX13_runScript_111 : decode cX13_runScript 111 = .ok (.aload_n 0, 1) := by decide +kernel
theorem dX13_runScript_112 : decode cX13_runScript 112 = .ok (.getfield 267, 3) := by decide +kernel
theorem dX13_runScript_115 : decode cX13_runScript 115 = .ok (.putfield 26, 3) := by decide +kernel
theorem dX13_runScript_118 : decode cX13_runScript 118 = .ok (.aload_n 0, 1) := by decide +kernel
theorem dX13_runScript_119 : decode cX13_runScript 119 = .ok (.iconst 1, 1) := by decide +kernel
theorem dX13_runScript_120 : decode cX13_runScript 120 = .ok (.invokevirtual 130, 3) := by decide +kernel
theorem dX13_runScript_123 : decode cX13_runScript 123 = .ok (.ireturn, 1) := by decide +kernel
theorem dX13_runScript_124 : decode cX13_runScript 124 = .ok (.aload_n 0, 1) := by decide +kernel
theorem dX13_runScript_125 : decode cX13_runScript 125 = .ok (.invokevirtual 136, 3) := by decide +kernel
theorem dX13_runScript_128 : decode cX13_runScript 128 = .ok (.iconst 0, 1) := by decide +kernel
theorem dX13_runScript_129 : decode cX13_runScript 129 = .ok (.istore_n 3, 1) := by decide +kernel
theorem dX13_runScript_130 : decode cX13_runScript 130 = .ok (.iload_n 3, 1) := by decide +kernel
theorem dX13_runScript_131 : decode cX13_runScript 131 = .ok (.iload_n 1, 1) := by decide +kernel
theorem dX13_runScript_132 : decode cX13_runScript 132 = .ok (.if_icmp .ge 42, 3) := by decide +kernel
theorem dX13_runScript_135 : decode cX13_runScript 135 = .ok (.aload_n 0, 1) := by decide +kernel
theorem dX13_runScript_136 : decode cX13_runScript 136 = .ok (.iconst 5, 1) := by decide +kernel
theorem dX13_runScript_137 : decode cX13_runScript 137 = .ok (.iload_n 3, 1) := by decide +kernel
theorem dX13_runScript_138 : decode cX13_runScript 138 = .ok (.imul, 1) := by decide +kernel
theorem dX13_runScript_139 : decode cX13_runScript 139 = .ok (.invokevirtual 311, 3) := by decide +kernel
theorem dX13_runScript_142 : decode cX13_runScript 142 = .ok (.istore 4, 2) := by decide +kernel
theorem dX13_runScript_144 : decode cX13_runScript 144 = .ok (.aload_n 0, 1) := by decide +kernel
theorem dX13_runScript_145 : decode cX13_runScript 145 = .ok (.getfield 61, 3) := by decide +kernel
theorem dX13_runScript_148 : decode cX13_runScript 148 = .ok (.ifCond .eq 20, 3) := by decide +kernel
theorem dX13_runScript_151 : decode cX13_runScript 151 = .ok (.aload_n 0, 1) := by decide +kernel
theorem dX13_runScript_152 : decode cX13_runScript 152 = .ok (.iload_n 3, 1) := by decide +kernel
theorem dX13_runScript_153 : decode cX13_runScript 153 = .ok (.putfield 30, 3) := by decide +kernel
theorem dX13_runScript_156 : decode cX13_runScript 156 = .ok (.aload_n 0, 1) := by decide +kernel
theorem dX13_runScript_157 : decode cX13_runScript 157 = .ok (.iconst 2, 1) := by decide +kernel
theorem dX13_runScript_158 : decode cX13_runScript 158 = .ok (.putfield 61, 3) := by decide +kernel
theorem dX13_runScript_161 : decode cX13_runScript 161 = .ok (.aload_n 0, 1) := by decide +kernel
theorem dX13_runScript_162 : decode cX13_runScript 162 = .ok (.iload 4, 2) := by decide +kernel
theorem dX13_runScript_164 : decode cX13_runScript 164 = .ok (.invokevirtual 142, 3) := by decide +kernel
theorem dX13_runScript_167 : decode cX13_runScript 167 = .ok (.ireturn, 1) := by decide +kernel
theorem dX13_runScript_168 : decode cX13_runScript 168 = .ok (.iinc 3 1, 3) := by decide +kernel
theorem dX13_runScript_171 : decode cX13_runScript 171 = .ok (.goto (-41), 3) := by decide +kernel
theorem dX13_runScript_174 : decode cX13_runScript 174 = .ok (.aload_n 0, 1) := by decide +kernel
theorem dX13_runScript_175 : decode cX13_runScript 175 = .ok (.aload_n 0, 1) := by decide +kernel
theorem dX13_runScript_176 : decode cX13_runScript 176 = .ok (.iload_n 1, 1) := by decide +kernel
theorem dX13_runScript_177 : decode cX13_runScript 177 = .ok (.invokevirtual 133, 3) := by decide +kernel
theorem dX13_runScript_180 : decode cX13_runScript 180 = .ok (.invokevirtual 142, 3) := by decide +kernel
theorem dX13_runScript_183 : decode cX13_runScript 183 = .ok (.ireturn, 1) := by decide +kernel
theorem dX13_errorPosition_0 : decode cX13_errorPosition 0 = .ok (.aload_n 0, 1) := by decide +kernel
theorem dX13_errorPosition_1 : decode cX13_errorPosition 1 = .ok (.getfield 26, 3) := by decide +kernel
theorem dX13_errorPosition_4 : decode cX13_errorPosition 4 = .ok (.iconst (-1), 1) := by decide +kernel
theorem dX13_errorPosition_5 : decode cX13_errorPosition 5 = .ok (.if_icmp .ne 11, 3) := by decide +kernel
theorem dX13_errorPosition_8 : decode cX13_errorPosition 8 = .ok (.aload_n 0, 1) := by decide +kernel
theorem dX13_errorPosition_9 : decode cX13_errorPosition 9 = .ok (.iconst 1, 1) := by decide +kernel
theorem dX13_errorPosition_10 : decode cX13_errorPosition 10 = .ok (.invokevirtual 130, 3) := by decide +kernel
theorem dX13_errorPosition_13 : decode cX13_errorPosition 13 = .ok (.goto 11, 3) := by decide +kernel
theorem dX13_errorPosition_16 : decode cX13_errorPosition 16 = .ok (.aload_n 0, 1) := by decide +kernel
theorem dX13_errorPosition_17 : decode cX13_errorPosition 17 = .ok (.aload_n 0, 1) := by decide +kernel
theorem dX13_errorPosition_18 : decode cX13_errorPosition 18 = .ok (.getfield 26, 3) := by decide +kernel
theorem dX13_errorPosition_21 : decode cX13_errorPosition 21 = .ok (.invokevirtual 133, 3) := by decide +kernel
theorem dX13_errorPosition_24 : decode cX13_errorPosition 24 = .ok (.ireturn, 1) := by decide +kernel
theorem dX13_failedCommand_0 : decode cX13_failedCommand 0 = .ok (.aload_n 0, 1) := by decide +kernel
theorem dX13_failedCommand_1 : decode cX13_failedCommand 1 = .ok (.getfield 30, 3) := by decide +kernel
theorem dX13_failedCommand_4 : decode cX13_failedCommand 4 = .ok (.iconst (-1), 1) := by decide +kernel
theorem dX13_failedCommand_5 : decode cX13_failedCommand 5 = .ok (.if_icmp .ne 11, 3) := by decide +kernel
theorem dX13_failedCommand_8 : decode cX13_failedCommand 8 = .ok (.aload_n 0, 1) := by decide +kernel
theorem dX13_failedCommand_9 : decode cX13_failedCommand 9 = .ok (.iconst 1, 1) := by decide +kernel
theorem dX13_failedCommand_10 : decode cX13_failedCommand 10 = .ok (.invokevirtual 130, 3) := by decide +kernel
theorem dX13_failedCommand_13 : decode cX13_failedCommand 13 = .ok (.goto 11, 3) := by decide +kernel
theorem dX13_failedCommand_16 : decode cX13_failedCommand 16 = .ok (.aload_n 0, 1) := by decide +kernel
theorem dX13_failedCommand_17 : decode cX13_failedCommand 17 = .ok (.aload_n 0, 1) := by decide +kernel
theorem dX13_failedCommand_18 : decode cX13_failedCommand 18 = .ok (.getfield 30, 3) := by decide +kernel
theorem dX13_failedCommand_21 : decode cX13_failedCommand 21 = .ok (.invokevirtual 133, 3) := by decide +kernel
theorem dX13_failedCommand_24 : decode cX13_failedCommand 24 = .ok (.ireturn, 1) := by decide +kernel
theorem dX13_undo_0 : decode cX13_undo 0 = .ok (.aload_n 0, 1) := by decide +kernel
theorem dX13_undo_1 : decode cX13_undo 1 = .ok (.getfield 68, 3) := by decide +kernel
theorem dX13_undo_4 : decode cX13_undo 4 = .ok (.ifCond .ne 9, 3) := by decide +kernel
theorem dX13_undo_7 : decode cX13_undo 7 = .ok (.aload_n 0, 1) := by decide +kernel
theorem dX13_undo_8 : decode cX13_undo 8 = .ok (.iconst 1, 1) := by decide +kernel
theorem dX13_undo_9 : decode cX13_undo 9 = .ok (.invokevirtual 130, 3) := by decide +kernel
theorem dX13_undo_12 : decode cX13_undo 12 = .ok (.ireturn, 1) := by decide +kernel
theorem dX13_undo_13 : decode cX13_undo 13 = .ok (.aload_n 0, 1) := by decide +kernel
theorem dX13_undo_14 : decode cX13_undo 14 = .ok (.dup, 1) := by decide +kernel
theorem dX13_undo_15 : decode cX13_undo 15 = .ok (.getfield 68, 3) := by decide +kernel
theorem dX13_undo_18 : decode cX13_undo 18 = .ok (.iconst 1, 1) := by decide +kernel
theorem dX13_undo_19 : decode cX13_undo 19 = .ok (.isub, 1) := by decide +kernel
theorem dX13_undo_20 : decode cX13_undo 20 = .ok (.putfield 68, 3) := by decide +kernel
theorem dX13_undo_23 : decode cX13_undo 23 = .ok (.aload_n 0, 1) := by decide +kernel
theorem dX13_undo_24 : decode cX13_undo 24 = .ok (.getfield 16, 3) := by decide +kernel
theorem dX13_undo_27 : decode cX13_undo 27 = .ok (.aload_n 0, 1) := by decide +kernel
theorem dX13_undo_28 : decode cX13_undo 28 = .ok (.getfield 68, 3) := by decide +kernel
theorem dX13_undo_31 : decode cX13_undo 31 = .ok (.sipush 240, 3) := by decide +kernel
theorem dX13_undo_34 : decode cX13_undo 34 = .ok (.imul, 1) := by decide +kernel
theorem dX13_undo_35 : decode cX13_undo 35 = .ok (.aload_n 0, 1) := by decide +kernel
theorem dX13_undo_36 : decode cX13_undo 36 = .ok (.getfield 7, 3) := by decide +kernel
theorem dX13_undo_39 : decode cX13_undo 39 = .ok (.iconst 0, 1) := by decide +kernel
theorem dX13_undo_40 : decode cX13_undo 40 = .ok (.invokestatic 64, 3) := by decide +kernel
theorem dX13_undo_43 : decode cX13_undo 43 = .ok (.aload_n 0, 1) := by decide +kernel
theorem dX13_undo_44 : decode cX13_undo 44 = .ok (.aload_n 0, 1) := by decide +kernel
theorem dX13_undo_45 : decode cX13_undo 45 = .ok (.getfield 68, 3) := by decide +kernel
theorem dX13_undo_48 : decode cX13_undo 48 = .ok (.invokevirtual 133, 3) := by decide +kernel
theorem dX13_undo_51 : decode cX13_undo 51 = .ok (.ireturn, 1) := by decide +kernel
theorem dX13_save_0 : decode cX13_save 0 = .ok (.aload_n 0, 1) := by decide +kernel
theorem dX13_save_1 : decode cX13_save 1 = .ok (.getfield 7, 3) := by decide +kernel
theorem dX13_save_4 : decode cX13_save 4 = .ok (.iconst 0, 1) := by decide +kernel
theorem dX13_save_5 : decode cX13_save 5 = .ok (.aload_n 0, 1) := by decide +kernel
theorem dX13_save_6 : decode cX13_save 6 = .ok (.getfield 19, 3) := by decide +kernel
theorem dX13_save_9 : decode cX13_save 9 = .ok (.iconst 0, 1) := by decide +kernel
theorem dX13_save_10 : decode cX13_save 10 = .ok (.invokestatic 64, 3) := by decide +kernel
theorem dX13_save_13 : decode cX13_save 13 = .ok (.aload_n 0, 1) := by decide +kernel
theorem dX13_save_14 : decode cX13_save 14 = .ok (.iconst 1, 1) := by decide +kernel
theorem dX13_save_15 : decode cX13_save 15 = .ok (.putfield 314, 3) := by decide +kernel
theorem dX13_save_18 : decode cX13_save 18 = .ok (.aload_n 0, 1) := by decide +kernel
theorem dX13_save_19 : decode cX13_save 19 = .ok (.aload_n 0, 1) := by decide +kernel
theorem dX13_save_20 : decode cX13_save 20 = .ok (.getfield 7, 3) := by decide +kernel
theorem dX13_save_23 : decode cX13_save 23 = .ok (.iconst 1, 1) := by decide +kernel
theorem dX13_save_24 : decode cX13_save 24 = .ok (.iaload, 1) := by decide +kernel
theorem dX13_save_25 : decode cX13_save 25 = .ok (.invokevirtual 133, 3) := by decide +kernel
theorem dX13_save_28 : decode cX13_save 28 = .ok (.ireturn, 1) := by decide +kernel
theorem dX13_restore_0 : decode cX13_restore 0 = .ok (.aload_n 0, 1) := by decide +kernel
theorem dX13_restore_1 : decode cX13_restore 1 = .ok (.getfield 314, 3) := by decide +kernel
theorem dX13_restore_4 : decode cX13_restore 4 = .ok (.ifCond .ne 9, 3) := by decide +kernel
theorem dX13_restore_7 : decode cX13_restore 7 = .ok (.aload_n 0, 1) := by decide +kernel
theorem dX13_restore_8 : decode cX13_restore 8 = .ok (.iconst 1, 1) := by decide +kernel
theorem dX13_restore_9 : decode cX13_restore 9 = .ok (.invokevirtual 130, 3) := by decide +kernel
theorem dX13_restore_12 : decode cX13_restore 12 = .ok (.ireturn, 1) := by decide +kernel
theorem dX13_restore_13 : decode cX13_restore 13 = .ok (.aload_n 0, 1) := by decide +kernel
theorem dX13_restore_14 : decode cX13_restore 14 = .ok (.getfield 19, 3) := by decide +kernel
theorem dX13_restore_17 : decode cX13_restore 17 = .ok (.iconst 0, 1) := by decide +kernel
theorem dX13_restore_18 : decode cX13_restore 18 = .ok (.aload_n 0, 1) := by decide +kernel
theorem dX13_restore_19 : decode cX13_restore 19 = .ok (.getfield 7, 3) := by decide +kernel
theorem dX13_restore_22 : decode cX13_restore 22 = .ok (.iconst 0, 1) := by decide +kernel
theorem dX13_restore_23 : decode cX13_restore 23 = .ok (.invokestatic 64, 3) := by decide +kernel
theorem dX13_restore_26 : decode cX13_restore 26 = .ok (.aload_n 0, 1) := by decide +kernel
theorem dX13_restore_27 : decode cX13_restore 27 = .ok (.iconst 0, 1) := by decide +kernel
theorem dX13_restore_28 : decode cX13_restore 28 = .ok (.putfield 68, 3) := by decide +kernel
theorem dX13_restore_31 : decode cX13_restore 31 = .ok (.aload_n 0, 1) := by decide +kernel
theorem dX13_restore_32 : decode cX13_restore 32 = .ok (.aload_n 0, 1) := by decide +kernel
theorem dX13_restore_33 : decode cX13_restore 33 = .ok (.getfield 7, 3) := by decide +kernel
theorem dX13_restore_36 : decode cX13_restore 36 = .ok (.iconst 1, 1) := by decide +kernel
theorem dX13_restore_37 : decode cX13_restore 37 = .ok (.iaload, 1) := by decide +kernel
theorem dX13_restore_38 : decode cX13_restore 38 = .ok (.invokevirtual 133, 3) := by decide +kernel
theorem dX13_restore_41 : decode cX13_restore 41 = .ok (.ireturn, 1) := by decide +kernel
theorem dJ5_init_d00df_0 : decode cJ5_init_d00df 0 = .ok (.aload_n 0, 1) := by decide +kernel
theorem dJ5_init_d00df_1 : decode cJ5_init_d00df 1 = .ok (.invokespecial 3, 3) := by decide +kernel
theorem dJ5_init_d00df_4 : decode cJ5_init_d00df 4 = .ok (.getstatic 18, 3) := by decide +kernel
theorem dJ5_init_d00df_7 : decode cJ5_init_d00df 7 = .ok (.ifCond .eq 18, 3) := by decide +kernel
theorem dJ5_init_d00df_10 : decode cJ5_init_d00df 10 = .ok (.aload_n 0, 1) := by decide +kernel
theorem dJ5_init_d00df_11 : decode cJ5_init_d00df 11 = .ok (.iload_n 1, 1) := by decide +kernel
theorem dJ5_init_d00df_12 : decode cJ5_init_d00df 12 = .ok (.newarray .byte, 2) := by decide +kernel
theorem dJ5_init_d00df_14 : decode cJ5_init_d00df 14 = .ok (.putfield 15, 3) := by decide +kernel
theorem dJ5_init_d00df_17 : decode cJ5_init_d00df 17 = .ok (.aload_n 0, 1) := by decide +kernel
theorem dJ5_init_d00df_18 : decode cJ5_init_d00df 18 = .ok (.iconst 0, 1) := by decide +kernel
theorem dJ5_init_d00df_19 : decode cJ5_init_d00df 19 = .ok (.putfield 22, 3) := by decide +kernel
theorem dJ5_init_d00df_22 : decode cJ5_init_d00df 22 = .ok (.goto 16, 3) := by decide +kernel
theorem dJ5_init_d00df_25 : decode cJ5_init_d00df 25 = .ok (.aload_n 0, 1) := by decide +kernel
theorem dJ5_init_d00df_26 : decode cJ5_init_d00df 26 = .ok (.iload_n 1, 1) := by decide +kernel
theorem dJ5_init_d00df_27 : decode cJ5_init_d00df 27 = .ok (.invokestatic 26, 3) := by decide +kernel
theorem dJ5_init_d00df_30 : decode cJ5_init_d00df 30 = .ok (.putfield 15, 3) := by decide +kernel
theorem dJ5_init_d00df_33 : decode cJ5_init_d00df 33 = .ok (.aload_n 0, 1) := by decide +kernel
theorem dJ5_init_d00df_34 : decode cJ5_init_d00df 34 = .ok (.iconst 1, 1) := by decide +kernel
theorem dJ5_init_d00df_35 : decode cJ5_init_d00df 35 = .ok (.putfield 22, 3) := by decide +kernel
theorem dJ5_init_d00df_38 : decode cJ5_init_d00df 38 = .ok (.return_, 1) := by decide +kernel
theorem dJ5_length_8abf5_0 : decode cJ5_length_8abf5 0 = .ok (.aload_n 0, 1) := by decide +kernel
theorem dJ5_length_8abf5_1 : decode cJ5_length_8abf5 1 = .ok (.getfield 79, 3) := by decide +kernel
theorem dJ5_length_8abf5_4 : decode cJ5_length_8abf5 4 = .ok (.ireturn, 1) := by decide +kernel
theorem dJ5_ensureCapacityInternal_d00df_0 : decode cJ5_ensureCapacityInternal_d00df 0 = .ok (.aload_n 0, 1) := by decide +kernel
theorem dJ5_ensureCapacityInternal_d00df_1 : decode cJ5_ensureCapacityInternal_d00df 1 = .ok (.getfield 15, 3) := by decide +kernel
theorem dJ5_ensureCapacityInternal_d00df_4 : decode cJ5_ensureCapacityInternal_d00df 4 = .ok (.arraylength, 1) := by decide +kernel
theorem dJ5_ensureCapacityInternal_d00df_5 : decode cJ5_ensureCapacityInternal_d00df 5 = .ok (.aload_n 0, 1) := by decide +kernel
theorem dJ5_ensureCapacityInternal_d00df_6 : decode cJ5_ensureCapacityInternal_d00df 6 = .ok (.getfield 22, 3) := by decide +kernel
theorem dJ5_ensureCapacityInternal_d00df_9 : decode cJ5_ensureCapacityInternal_d00df 9 = .ok (.ishr, 1) := by decide +kernel
theorem dJ5_ensureCapacityInternal_d00df_10 : decode cJ5_ensureCapacityInternal_d00df 10 = .ok (.istore_n 2, 1) := by decide +kernel
theorem dJ5_ensureCapacityInternal_d00df_11 : decode cJ5_ensureCapacityInternal_d00df 11 = .ok (.iload_n 1, 1) := by decide +kernel
theorem dJ5_ensureCapacityInternal_d00df_12 : decode cJ5_ensureCapacityInternal_d00df 12 = .ok (.iload_n 2, 1) := by decide +kernel
theorem dJ5_ensureCapacityInternal_d00df_13 : decode cJ5_ensureCapacityInternal_d00df 13 = .ok (.isub, 1) := by decide +kernel
theorem dJ5_ensureCapacityInternal_d00df_14 : decode cJ5_ensureCapacityInternal_d00df 14 = .ok (.ifCond .le 24, 3) := by decide +kernel
theorem dJ5_ensureCapacityInternal_d00df_17 : decode cJ5_ensureCapacityInternal_d00df 17 = .ok (.aload_n 0, 1) := by decide +kernel
theorem dJ5_ensureCapacityInternal_d00df_18 : decode cJ5_ensureCapacityInternal_d00df 18 = .ok (.aload_n 0, 1) := by decide +kernel
theorem dJ5_ensureCapacityInternal_d00df_19 : decode cJ5_ensureCapacityInternal_d00df 19 = .ok (.getfield 15, 3) := by decide +kernel
theorem dJ5_ensureCapacityInternal_d00df_22 : decode cJ5_ensureCapacityInternal_d00df 22 = .ok (.aload_n 0, 1) := by decide +kernel
theorem dJ5_ensureCapacityInternal_d00df_23 : decode cJ5_ensureCapacityInternal_d00df 23 = .ok (.iload_n 1, 1) := by decide +kernel
theorem dJ5_ensureCapacityInternal_d00df_24 : decode cJ5_ensureCapacityInternal_d00df 24 = .ok (.invokevirtual 104, 3) := by decide +kernel
theorem dJ5_ensureCapacityInternal_d00df_27 : decode cJ5_ensureCapacityInternal_d00df 27 = .ok (.aload_n 0, 1) := by decide +kernel
theorem dJ5_ensureCapacityInternal_d00df_28 : decode cJ5_ensureCapacityInternal_d00df 28 = .ok (.getfield 22, 3) := by decide +kernel
theorem dJ5_ensureCapacityInternal_d00df_31 : decode cJ5_ensureCapacityInternal_d00df 31 = .ok (.ishl, 1) := by decide +kernel
theorem dJ5_ensureCapacityInternal_d00df_32 : decode cJ5_ensureCapacityInternal_d00df 32 = .ok (.invokestatic 108, 3) := by decide +kernel
theorem dJ5_ensureCapacityInternal_d00df_35 : decode cJ5_ensureCapacityInternal_d00df 35 = .ok (.putfield 15, 3) := by decide +kernel
theorem dJ5_ensureCapacityInternal_d00df_38 : decode cJ5_ensureCapacityInternal_d00df 38 = .ok (.return_, 1) := by decide +kernel
theorem dJ5_newCapacity_0f7a4_0 : decode cJ5_newCapacity_0f7a4 0 = .ok (.aload_n 0, 1) := by decide +kernel
theorem dJ5_newCapacity_0f7a4_1 : decode cJ5_newCapacity_0f7a4 1 = .ok (.getfield 15, 3) := by decide +kernel
theorem dJ5_newCapacity_0f7a4_4 : decode cJ5_newCapacity_0f7a4 4 = .ok (.arraylength, 1) := by decide +kernel
theorem dJ5_newCapacity_0f7a4_5 : decode cJ5_newCapacity_0f7a4 5 = .ok (.istore_n 2, 1) := by decide +kernel
theorem dJ5_newCapacity_0f7a4_6 : decode cJ5_newCapacity_0f7a4 6 = .ok (.iload_n 1, 1) := by decide +kernel
theorem dJ5_newCapacity_0f7a4_7 : decode cJ5_newCapacity_0f7a4 7 = .ok (.aload_n 0, 1) := by decide +kernel
theorem dJ5_newCapacity_0f7a4_8 : decode cJ5_newCapacity_0f7a4 8 = .ok (.getfield 22, 3) := by decide +kernel
theorem dJ5_newCapacity_0f7a4_11 : decode cJ5_newCapacity_0f7a4 11 = .ok (.ishl, 1) := by decide +kernel
theorem dJ5_newCapacity_0f7a4_12 : decode cJ5_newCapacity_0f7a4 12 = .ok (.istore_n 3, 1) := by decide +kernel
theorem dJ5_newCapacity_0f7a4_13 : decode cJ5_newCapacity_0f7a4 13 = .ok (.iload_n 3, 1) := by decide +kernel
theorem dJ5_newCapacity_0f7a4_14 : decode cJ5_newCapacity_0f7a4 14 = .ok (.iload_n 2, 1) := by decide +kernel
theorem dJ5_newCapacity_0f7a4_15 : decode cJ5_newCapacity_0f7a4 15 = .ok (.isub, 1) := by decide +kernel
theorem dJ5_newCapacity_0f7a4_16 : decode cJ5_newCapacity_0f7a4 16 = .ok (.istore 4, 2) := by decide +kernel
theorem dJ5_newCapacity_0f7a4_18 : decode cJ5_newCapacity_0f7a4 18 = .ok (.iload_n 2, 1) := by decide +kernel
theorem dJ5_newCapacity_0f7a4_19 : decode cJ5_newCapacity_0f7a4 19 = .ok (.iload 4, 2) := by decide +kernel
theorem dJ5_newCapacity_0f7a4_21 : decode cJ5_newCapacity_0f7a4 21 = .ok (.iload_n 2, 1) := by decide +kernel
theorem dJ5_newCapacity_0f7a4_22 : decode cJ5_newCapacity_0f7a4 22 = .ok (.iconst 2, 1) := by decide +kernel
theorem dJ5_newCapacity_0f7a4_23 : decode cJ5_newCapacity_0f7a4 23 = .ok (.aload_n 0, 1) := by decide +kernel
theorem dJ5_newCapacity_0f7a4_24 : decode cJ5_newCapacity_0f7a4 24 = .ok (.getfield 22, 3) := by decide +kernel
theorem dJ5_newCapacity_0f7a4_27 : decode cJ5_newCapacity_0f7a4 27 = .ok (.ishl, 1) := by decide +kernel
theorem dJ5_newCapacity_0f7a4_28 : decode cJ5_newCapacity_0f7a4 28 = .ok (.iadd, 1) := by decide +kernel
theorem dJ5_newCapacity_0f7a4_29 : decode cJ5_newCapacity_0f7a4 29 = .ok (.invokestatic 114, 3) := by decide +kernel
theorem dJ5_newCapacity_0f7a4_32 : decode cJ5_newCapacity_0f7a4 32 = .ok (.istore 5, 2) := by decide +kernel
theorem dJ5_newCapacity_0f7a4_34 : decode cJ5_newCapacity_0f7a4 34 = .ok (.iload 5, 2) := by decide +kernel
theorem dJ5_newCapacity_0f7a4_36 : decode cJ5_newCapacity_0f7a4 36 = .ok (.ldc 39, 2) := by decide +kernel
theorem dJ5_newCapacity_0f7a4_38 : decode cJ5_newCapacity_0f7a4 38 = .ok (.if_icmp .ne 13, 3) := by decide +kernel
theorem dJ5_newCapacity_0f7a4_41 : decode cJ5_newCapacity_0f7a4 41 = .ok (.new 120, 3) := by decide +kernel
theorem dJ5_newCapacity_0f7a4_44 : decode cJ5_newCapacity_0f7a4 44 = .ok (.dup, 1) := by decide +kernel
theorem dJ5_newCapacity_0f7a4_45 : decode cJ5_newCapacity_0f7a4 45 = .ok (.ldc 122, 2) := by decide +kernel
theorem dJ5_newCapacity_0f7a4_47 : decode cJ5_newCapacity_0f7a4 47 = .ok (.invokespecial 124, 3) := by decide +kernel
theorem dJ5_newCapacity_0f7a4_50 : decode cJ5_newCapacity_0f7a4 50 = .ok (.athrow, 1) := by decide +kernel
theorem dJ5_newCapacity_0f7a4_51 : decode cJ5_newCapacity_0f7a4 51 = .ok (.iload 5, 2) := by decide +kernel
theorem dJ5_newCapacity_0f7a4_53 : decode cJ5_newCapacity_0f7a4 53 = .ok (.aload_n 0, 1) := by decide +kernel
theorem dJ5_newCapacity_0f7a4_54 : decode cJ5_newCapacity_0f7a4 54 = .ok (.getfield 22, 3) := by decide +kernel
theorem dJ5_newCapacity_0f7a4_57 : decode cJ5_newCapacity_0f7a4 57 = .ok (.ishr, 1) := by decide +kernel
theorem dJ5_newCapacity_0f7a4_58 : decode cJ5_newCapacity_0f7a4 58 = .ok (.ireturn, 1) := by decide +kernel
theorem dJ5_inflate_da8c8_0 : decode cJ5_inflate_da8c8 0 = .ok (.aload_n 0, 1) := by decide +kernel
theorem dJ5_inflate_da8c8_1 : decode cJ5_inflate_da8c8 1 = .ok (.invokevirtual 83, 3) := by decide +kernel
theorem dJ5_inflate_da8c8_4 : decode cJ5_inflate_da8c8 4 = .ok (.ifCond .ne 4, 3) := by decide +kernel
theorem dJ5_inflate_da8c8_7 : decode cJ5_inflate_da8c8 7 = .ok (.return_, 1) := by decide +kernel
theorem dJ5_inflate_da8c8_8 : decode cJ5_inflate_da8c8 8 = .ok (.aload_n 0, 1) := by decide +kernel
theorem dJ5_inflate_da8c8_9 : decode cJ5_inflate_da8c8 9 = .ok (.getfield 15, 3) := by decide +kernel
theorem dJ5_inflate_da8c8_12 : decode cJ5_inflate_da8c8 12 = .ok (.arraylength, 1) := by decide +kernel
theorem dJ5_inflate_da8c8_13 : decode cJ5_inflate_da8c8 13 = .ok (.invokestatic 26, 3) := by decide +kernel
theorem dJ5_inflate_da8c8_16 : decode cJ5_inflate_da8c8 16 = .ok (.astore_n 1, 1) := by decide +kernel
theorem dJ5_inflate_da8c8_17 : decode cJ5_inflate_da8c8 17 = .ok (.aload_n 0, 1) := by decide +kernel
theorem dJ5_inflate_da8c8_18 : decode cJ5_inflate_da8c8 18 = .ok (.getfield 15, 3) := by decide +kernel
theorem dJ5_inflate_da8c8_21 : decode cJ5_inflate_da8c8 21 = .ok (.iconst 0, 1) := by decide +kernel
theorem dJ5_inflate_da8c8_22 : decode cJ5_inflate_da8c8 22 = .ok (.aload_n 1, 1) := by decide +kernel
theorem dJ5_inflate_da8c8_23 : decode cJ5_inflate_da8c8 23 = .ok (.iconst 0, 1) := by decide +kernel
theorem dJ5_inflate_da8c8_24 : decode cJ5_inflate_da8c8 24 = .ok (.aload_n 0, 1) := by decide +kernel
theorem dJ5_inflate_da8c8_25 : decode cJ5_inflate_da8c8 25 = .ok (.getfield 79, 3) := by decide +kernel
theorem dJ5_inflate_da8c8_28 : decode cJ5_inflate_da8c8 28 = .ok (.invokestatic 125, 3) := by decide +kernel
theorem dJ5_inflate_da8c8_31 : decode cJ5_inflate_da8c8 31 = .ok (.aload_n 0, 1) := by decide +kernel
theorem dJ5_inflate_da8c8_32 : decode cJ5_inflate_da8c8 32 = .ok (.aload_n 1, 1) := by decide +kernel
theorem dJ5_inflate_da8c8_33 : decode cJ5_inflate_da8c8 33 = .ok (.putfield 15, 3) := by decide +kernel
theorem dJ5_inflate_da8c8_36 : decode cJ5_inflate_da8c8 36 = .ok (.aload_n 0, 1) := by decide +kernel
theorem dJ5_inflate_da8c8_37 : decode cJ5_inflate_da8c8 37 = .ok (.iconst 1, 1) := by decide +kernel
theorem dJ5_inflate_da8c8_38 : decode cJ5_inflate_da8c8 38 = .ok (.putfield 22, 3) := by decide +kernel
theorem dJ5_inflate_da8c8_41 : decode cJ5_inflate_da8c8 41 = .ok (.return_, 1) := by decide +kernel
theorem dJ5_setLength_d00df_0 : decode cJ5_setLength_d00df 0 = .ok (.iload_n 1, 1) := by decide +kernel
theorem dJ5_setLength_d00df_1 : decode cJ5_setLength_d00df 1 = .ok (.ifCond .ge 12, 3) := by decide +kernel
theorem dJ5_setLength_d00df_4 : decode cJ5_setLength_d00df 4 = .ok (.new 129, 3) := by decide +kernel
theorem dJ5_setLength_d00df_7 : decode cJ5_setLength_d00df 7 = .ok (.dup, 1) := by decide +kernel
theorem dJ5_setLength_d00df_8 : decode cJ5_setLength_d00df 8 = .ok (.iload_n 1, 1) := by decide +kernel
theorem dJ5_setLength_d00df_9 : decode cJ5_setLength_d00df 9 = .ok (.invokespecial 131, 3) := by decide +kernel
theorem dJ5_setLength_d00df_12 : decode cJ5_setLength_d00df 12 = .ok (.athrow, 1) := by decide +kernel
theorem dJ5_setLength_d00df_13 : decode cJ5_setLength_d00df 13 = .ok (.aload_n 0, 1) := by decide +kernel
theorem dJ5_setLength_d00df_14 : decode cJ5_setLength_d00df 14 = .ok (.iload_n 1, 1) := by decide +kernel
theorem dJ5_setLength_d00df_15 : decode cJ5_setLength_d00df 15 = .ok (.invokevirtual 100, 3) := by decide +kernel
theorem dJ5_setLength_d00df_18 : decode cJ5_setLength_d00df 18 = .ok (.aload_n 0, 1) := by decide +kernel
theorem dJ5_setLength_d00df_19 : decode cJ5_setLength_d00df 19 = .ok (.getfield 79, 3) := by decide +kernel
theorem dJ5_setLength_d00df_22 : decode cJ5_setLength_d00df 22 = .ok (.iload_n 1, 1) := by decide +kernel
theorem dJ5_setLength_d00df_23 : decode cJ5_setLength_d00df 23 = .ok (.if_icmp .ge 40, 3) := by decide +kernel
theorem dJ5_setLength_d00df_26 : decode cJ5_setLength_d00df 26 = .ok (.aload_n 0, 1) := by decide +kernel
theorem dJ5_setLength_d00df_27 : decode cJ5_setLength_d00df 27 = .ok (.invokevirtual 83, 3) := by decide +kernel
theorem dJ5_setLength_d00df_30 : decode cJ5_setLength_d00df 30 = .ok (.ifCond .eq 18, 3) := by decide +kernel
theorem dJ5_setLength_d00df_33 : decode cJ5_setLength_d00df 33 = .ok (.aload_n 0, 1) := by decide +kernel
theorem dJ5_setLength_d00df_34 : decode cJ5_setLength_d00df 34 = .ok (.getfield 15, 3) := by decide +kernel
theorem dJ5_setLength_d00df_37 : decode cJ5_setLength_d00df 37 = .ok (.aload_n 0, 1) := by decide +kernel
theorem dJ5_setLength_d00df_38 : decode cJ5_setLength_d00df 38 = .ok (.getfield 79, 3) := by decide +kernel
theorem dJ5_setLength_d00df_41 : decode cJ5_setLength_d00df 41 = .ok (.iload_n 1, 1) := by decide +kernel
theorem dJ5_setLength_d00df_42 : decode cJ5_setLength_d00df 42 = .ok (.invokestatic 133, 3) := by decide +kernel
theorem dJ5_setLength_d00df_45 : decode cJ5_setLength_d00df 45 = .ok (.goto 31, 3) := by decide +kernel
theorem dJ5_setLength_d00df_48 : decode cJ5_setLength_d00df 48 = .ok (.aload_n 0, 1) := by decide +kernel
theorem dJ5_setLength_d00df_49 : decode cJ5_setLength_d00df 49 = .ok (.getfield 15, 3) := by decide +kernel
theorem dJ5_setLength_d00df_52 : decode cJ5_setLength_d00df 52 = .ok (.aload_n 0, 1) := by decide +kernel
theorem dJ5_setLength_d00df_53 : decode cJ5_setLength_d00df 53 = .ok (.getfield 79, 3) := by decide +kernel
theorem dJ5_setLength_d00df_56 : decode cJ5_setLength_d00df 56 = .ok (.iload_n 1, 1) := by decide +kernel
theorem dJ5_setLength_d00df_57 : decode cJ5_setLength_d00df 57 = .ok (.invokestatic 137, 3) := by decide +kernel
theorem dJ5_setLength_d00df_60 : decode cJ5_setLength_d00df 60 = .ok (.goto 16, 3) := by decide +kernel
theorem dJ5_setLength_d00df_63 : decode cJ5_setLength_d00df 63 = .ok (.aload_n 0, 1) := by decide +kernel
theorem dJ5_setLength_d00df_64 : decode cJ5_setLength_d00df 64 = .ok (.getfield 79, 3) := by decide +kernel
