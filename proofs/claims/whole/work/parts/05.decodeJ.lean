theorem dJ_addChange_0 : decode cJ_addChange 0 = .ok (.aload_n 0, 1) := by decide +kernel
theorem dJ_addChange_1 : decode cJ_addChange 1 = .ok (.dup, 1) := by decide +kernel
theorem dJ_addChange_2 : decode cJ_addChange 2 = .ok (.getfield 39, 3) := by decide +kernel
theorem dJ_addChange_5 : decode cJ_addChange 5 = .ok (.iconst 1, 1) := by decide +kernel
theorem dJ_addChange_6 : decode cJ_addChange 6 = .ok (.iadd, 1) := by decide +kernel
theorem dJ_addChange_7 : decode cJ_addChange 7 = .ok (.putfield 39, 3) := by decide +kernel
theorem dJ_addChange_10 : decode cJ_addChange 10 = .ok (.aload_n 0, 1) := by decide +kernel
theorem dJ_addChange_11 : decode cJ_addChange 11 = .ok (.getfield 9, 3) := by decide +kernel
theorem dJ_addChange_14 : decode cJ_addChange 14 = .ok (.aload_n 0, 1) := by decide +kernel
theorem dJ_addChange_15 : decode cJ_addChange 15 = .ok (.getfield 39, 3) := by decide +kernel
theorem dJ_addChange_18 : decode cJ_addChange 18 = .ok (.iconst 1, 1) := by decide +kernel
theorem dJ_addChange_19 : decode cJ_addChange 19 = .ok (.iastore, 1) := by decide +kernel
theorem dJ_addChange_20 : decode cJ_addChange 20 = .ok (.aload_n 0, 1) := by decide +kernel
theorem dJ_addChange_21 : decode cJ_addChange 21 = .ok (.getfield 15, 3) := by decide +kernel
theorem dJ_addChange_24 : decode cJ_addChange 24 = .ok (.aload_n 0, 1) := by decide +kernel
theorem dJ_addChange_25 : decode cJ_addChange 25 = .ok (.getfield 39, 3) := by decide +kernel
theorem dJ_addChange_28 : decode cJ_addChange 28 = .ok (.iload_n 1, 1) := by decide +kernel
theorem dJ_addChange_29 : decode cJ_addChange 29 = .ok (.iastore, 1) := by decide +kernel
theorem dJ_addChange_30 : decode cJ_addChange 30 = .ok (.aload_n 0, 1) := by decide +kernel
theorem dJ_addChange_31 : decode cJ_addChange 31 = .ok (.getfield 18, 3) := by decide +kernel
theorem dJ_addChange_34 : decode cJ_addChange 34 = .ok (.aload_n 0, 1) := by decide +kernel
theorem dJ_addChange_35 : decode cJ_addChange 35 = .ok (.getfield 39, 3) := by decide +kernel
theorem dJ_addChange_38 : decode cJ_addChange 38 = .ok (.iload_n 2, 1) := by decide +kernel
theorem dJ_addChange_39 : decode cJ_addChange 39 = .ok (.iastore, 1) := by decide +kernel
theorem dJ_addChange_40 : decode cJ_addChange 40 = .ok (.aload_n 0, 1) := by decide +kernel
theorem dJ_addChange_41 : decode cJ_addChange 41 = .ok (.getfield 21, 3) := by decide +kernel
theorem dJ_addChange_44 : decode cJ_addChange 44 = .ok (.aload_n 0, 1) := by decide +kernel
theorem dJ_addChange_45 : decode cJ_addChange 45 = .ok (.getfield 39, 3) := by decide +kernel
theorem dJ_addChange_48 : decode cJ_addChange 48 = .ok (.iload_n 3, 1) := by decide +kernel
theorem dJ_addChange_49 : decode cJ_addChange 49 = .ok (.iastore, 1) := by decide +kernel
theorem dJ_addChange_50 : decode cJ_addChange 50 = .ok (.aload_n 0, 1) := by decide +kernel
theorem dJ_addChange_51 : decode cJ_addChange 51 = .ok (.getfield 24, 3) := by decide +kernel
theorem dJ_addChange_54 : decode cJ_addChange 54 = .ok (.aload_n 0, 1) := by decide +kernel
theorem dJ_addChange_55 : decode cJ_addChange 55 = .ok (.getfield 39, 3) := by decide +kernel
theorem dJ_addChange_58 : decode cJ_addChange 58 = .ok (.iload 4, 2) := by decide +kernel
theorem dJ_addChange_60 : decode cJ_addChange 60 = .ok (.iastore, 1) := by decide +kernel
theorem dJ_addChange_61 : decode cJ_addChange 61 = .ok (.aload_n 0, 1) := by decide +kernel
theorem dJ_addChange_62 : decode cJ_addChange 62 = .ok (.getfield 30, 3) := by decide +kernel
theorem dJ_addChange_65 : decode cJ_addChange 65 = .ok (.iload_n 1, 1) := by decide +kernel
theorem dJ_addChange_66 : decode cJ_addChange 66 = .ok (.iaload, 1) := by decide +kernel
theorem dJ_addChange_67 : decode cJ_addChange 67 = .ok (.ifCond .ne 13, 3) := by decide +kernel
theorem dJ_addChange_70 : decode cJ_addChange 70 = .ok (.aload_n 0, 1) := by decide +kernel
theorem dJ_addChange_71 : decode cJ_addChange 71 = .ok (.getfield 30, 3) := by decide +kernel
theorem dJ_addChange_74 : decode cJ_addChange 74 = .ok (.iload_n 1, 1) := by decide +kernel
theorem dJ_addChange_75 : decode cJ_addChange 75 = .ok (.aload_n 0, 1) := by decide +kernel
theorem dJ_addChange_76 : decode cJ_addChange 76 = .ok (.getfield 39, 3) := by decide +kernel
theorem dJ_addChange_79 : decode cJ_addChange 79 = .ok (.iastore, 1) := by decide +kernel
theorem dJ_addChange_80 : decode cJ_addChange 80 = .ok (.aload_n 0, 1) := by decide +kernel
theorem dJ_addChange_81 : decode cJ_addChange 81 = .ok (.getfield 33, 3) := by decide +kernel
theorem dJ_addChange_84 : decode cJ_addChange 84 = .ok (.iload_n 1, 1) := by decide +kernel
theorem dJ_addChange_85 : decode cJ_addChange 85 = .ok (.dup2, 1) := by decide +kernel
theorem dJ_addChange_86 : decode cJ_addChange 86 = .ok (.iaload, 1) := by decide +kernel
theorem dJ_addChange_87 : decode cJ_addChange 87 = .ok (.iconst 1, 1) := by decide +kernel
theorem dJ_addChange_88 : decode cJ_addChange 88 = .ok (.iadd, 1) := by decide +kernel
theorem dJ_addChange_89 : decode cJ_addChange 89 = .ok (.iastore, 1) := by decide +kernel
theorem dJ_addChange_90 : decode cJ_addChange 90 = .ok (.aload_n 0, 1) := by decide +kernel
theorem dJ_addChange_91 : decode cJ_addChange 91 = .ok (.getfield 36, 3) := by decide +kernel
theorem dJ_addChange_94 : decode cJ_addChange 94 = .ok (.iload_n 1, 1) := by decide +kernel
theorem dJ_addChange_95 : decode cJ_addChange 95 = .ok (.dup2, 1) := by decide +kernel
theorem dJ_addChange_96 : decode cJ_addChange 96 = .ok (.iaload, 1) := by decide +kernel
theorem dJ_addChange_97 : decode cJ_addChange 97 = .ok (.iconst 1, 1) := by decide +kernel
theorem dJ_addChange_98 : decode cJ_addChange 98 = .ok (.iload_n 2, 1) := by decide +kernel
theorem dJ_addChange_99 : decode cJ_addChange 99 = .ok (.invokestatic 43, 3) := by decide +kernel
theorem dJ_addChange_102 : decode cJ_addChange 102 = .ok (.ishl, 1) := by decide +kernel
theorem dJ_addChange_103 : decode cJ_addChange 103 = .ok (.ior, 1) := by decide +kernel
theorem dJ_addChange_104 : decode cJ_addChange 104 = .ok (.iastore, 1) := by decide +kernel
theorem dJ_addChange_105 : decode cJ_addChange 105 = .ok (.aload_n 0, 1) := by decide +kernel
theorem dJ_addChange_106 : decode cJ_addChange 106 = .ok (.invokevirtual 47, 3) := by decide +kernel
theorem dJ_addChange_109 : decode cJ_addChange 109 = .ok (.return_, 1) := by decide +kernel
theorem dJ_addEnd_0 : decode cJ_addEnd 0 = .ok (.aload_n 0, 1) := by decide +kernel
theorem dJ_addEnd_1 : decode cJ_addEnd 1 = .ok (.dup, 1) := by decide +kernel
theorem dJ_addEnd_2 : decode cJ_addEnd 2 = .ok (.getfield 39, 3) := by decide +kernel
theorem dJ_addEnd_5 : decode cJ_addEnd 5 = .ok (.iconst 1, 1) := by decide +kernel
theorem dJ_addEnd_6 : decode cJ_addEnd 6 = .ok (.iadd, 1) := by decide +kernel
theorem dJ_addEnd_7 : decode cJ_addEnd 7 = .ok (.putfield 39, 3) := by decide +kernel
theorem dJ_addEnd_10 : decode cJ_addEnd 10 = .ok (.aload_n 0, 1) := by decide +kernel
theorem dJ_addEnd_11 : decode cJ_addEnd 11 = .ok (.getfield 9, 3) := by decide +kernel
theorem dJ_addEnd_14 : decode cJ_addEnd 14 = .ok (.aload_n 0, 1) := by decide +kernel
theorem dJ_addEnd_15 : decode cJ_addEnd 15 = .ok (.getfield 39, 3) := by decide +kernel
theorem dJ_addEnd_18 : decode cJ_addEnd 18 = .ok (.iload_n 1, 1) := by decide +kernel
theorem dJ_addEnd_19 : decode cJ_addEnd 19 = .ok (.iastore, 1) := by decide +kernel
theorem dJ_addEnd_20 : decode cJ_addEnd 20 = .ok (.aload_n 0, 1) := by decide +kernel
theorem dJ_addEnd_21 : decode cJ_addEnd 21 = .ok (.getfield 15, 3) := by decide +kernel
theorem dJ_addEnd_24 : decode cJ_addEnd 24 = .ok (.aload_n 0, 1) := by decide +kernel
theorem dJ_addEnd_25 : decode cJ_addEnd 25 = .ok (.getfield 39, 3) := by decide +kernel
theorem dJ_addEnd_28 : decode cJ_addEnd 28 = .ok (.iload_n 2, 1) := by decide +kernel
theorem dJ_addEnd_29 : decode cJ_addEnd 29 = .ok (.iastore, 1) := by decide +kernel
theorem dJ_addEnd_30 : decode cJ_addEnd 30 = .ok (.aload_n 0, 1) := by decide +kernel
theorem dJ_addEnd_31 : decode cJ_addEnd 31 = .ok (.getfield 30, 3) := by decide +kernel
theorem dJ_addEnd_34 : decode cJ_addEnd 34 = .ok (.iload_n 2, 1) := by decide +kernel
theorem dJ_addEnd_35 : decode cJ_addEnd 35 = .ok (.iconst 0, 1) := by decide +kernel
theorem dJ_addEnd_36 : decode cJ_addEnd 36 = .ok (.iastore, 1) := by decide +kernel
theorem dJ_addEnd_37 : decode cJ_addEnd 37 = .ok (.aload_n 0, 1) := by decide +kernel
theorem dJ_addEnd_38 : decode cJ_addEnd 38 = .ok (.getfield 33, 3) := by decide +kernel
theorem dJ_addEnd_41 : decode cJ_addEnd 41 = .ok (.iload_n 2, 1) := by decide +kernel
theorem dJ_addEnd_42 : decode cJ_addEnd 42 = .ok (.iconst 0, 1) := by decide +kernel
theorem dJ_addEnd_43 : decode cJ_addEnd 43 = .ok (.iastore, 1) := by decide +kernel
theorem dJ_addEnd_44 : decode cJ_addEnd 44 = .ok (.aload_n 0, 1) := by decide +kernel
theorem dJ_addEnd_45 : decode cJ_addEnd 45 = .ok (.getfield 36, 3) := by decide +kernel
theorem dJ_addEnd_48 : decode cJ_addEnd 48 = .ok (.iload_n 2, 1) := by decide +kernel
theorem dJ_addEnd_49 : decode cJ_addEnd 49 = .ok (.iconst 0, 1) := by decide +kernel
theorem dJ_addEnd_50 : decode cJ_addEnd 50 = .ok (.iastore, 1) := by decide +kernel
theorem dJ_addEnd_51 : decode cJ_addEnd 51 = .ok (.aload_n 0, 1) := by decide +kernel
theorem dJ_addEnd_52 : decode cJ_addEnd 52 = .ok (.invokevirtual 47, 3) := by decide +kernel
theorem dJ_addEnd_55 : decode cJ_addEnd 55 = .ok (.return_, 1) := by decide +kernel
theorem dJ_noteOpenFiles_0 : decode cJ_noteOpenFiles 0 = .ok (.iconst 0, 1) := by decide +kernel
theorem dJ_noteOpenFiles_1 : decode cJ_noteOpenFiles 1 = .ok (.istore_n 1, 1) := by decide +kernel
theorem dJ_noteOpenFiles_2 : decode cJ_noteOpenFiles 2 = .ok (.iconst 0, 1) := by decide +kernel
theorem dJ_noteOpenFiles_3 : decode cJ_noteOpenFiles 3 = .ok (.istore_n 2, 1) := by decide +kernel
theorem dJ_noteOpenFiles_4 : decode cJ_noteOpenFiles 4 = .ok (.iload_n 2, 1) := by decide +kernel
theorem dJ_noteOpenFiles_5 : decode cJ_noteOpenFiles 5 = .ok (.iconst 3, 1) := by decide +kernel
theorem dJ_noteOpenFiles_6 : decode cJ_noteOpenFiles 6 = .ok (.if_icmp .gt 18, 3) := by decide +kernel
theorem dJ_noteOpenFiles_9 : decode cJ_noteOpenFiles 9 = .ok (.iload_n 1, 1) := by decide +kernel
theorem dJ_noteOpenFiles_10 : decode cJ_noteOpenFiles 10 = .ok (.aload_n 0, 1) := by decide +kernel
theorem dJ_noteOpenFiles_11 : decode cJ_noteOpenFiles 11 = .ok (.getfield 36, 3) := by decide +kernel
theorem dJ_noteOpenFiles_14 : decode cJ_noteOpenFiles 14 = .ok (.iload_n 2, 1) := by decide +kernel
theorem dJ_noteOpenFiles_15 : decode cJ_noteOpenFiles 15 = .ok (.iaload, 1) := by decide +kernel
theorem dJ_noteOpenFiles_16 : decode cJ_noteOpenFiles 16 = .ok (.ior, 1) := by decide +kernel
theorem dJ_noteOpenFiles_17 : decode cJ_noteOpenFiles 17 = .ok (.istore_n 1, 1) := by decide +kernel
theorem dJ_noteOpenFiles_18 : decode cJ_noteOpenFiles 18 = .ok (.iinc 2 1, 3) := by decide +kernel
theorem dJ_noteOpenFiles_21 : decode cJ_noteOpenFiles 21 = .ok (.goto (-17), 3) := by decide +kernel
theorem dJ_noteOpenFiles_24 : decode cJ_noteOpenFiles 24 = .ok (.aload_n 0, 1) := by decide +kernel
theorem dJ_noteOpenFiles_25 : decode cJ_noteOpenFiles 25 = .ok (.getfield 27, 3) := by decide +kernel
theorem dJ_noteOpenFiles_28 : decode cJ_noteOpenFiles 28 = .ok (.aload_n 0, 1) := by decide +kernel
theorem dJ_noteOpenFiles_29 : decode cJ_noteOpenFiles 29 = .ok (.getfield 39, 3) := by decide +kernel
theorem dJ_noteOpenFiles_32 : decode cJ_noteOpenFiles 32 = .ok (.iload_n 1, 1) := by decide +kernel
theorem dJ_noteOpenFiles_33 : decode cJ_noteOpenFiles 33 = .ok (.iastore, 1) := by decide +kernel
theorem dJ_noteOpenFiles_34 : decode cJ_noteOpenFiles 34 = .ok (.return_, 1) := by decide +kernel
theorem dJ_isCycleOpen_0 : decode cJ_isCycleOpen 0 = .ok (.aload_n 0, 1) := by decide +kernel
theorem dJ_isCycleOpen_1 : decode cJ_isCycleOpen 1 = .ok (.getfield 30, 3) := by decide +kernel
theorem dJ_isCycleOpen_4 : decode cJ_isCycleOpen 4 = .ok (.iload_n 1, 1) := by decide +kernel
theorem dJ_isCycleOpen_5 : decode cJ_isCycleOpen 5 = .ok (.iaload, 1) := by decide +kernel
theorem dJ_isCycleOpen_6 : decode cJ_isCycleOpen 6 = .ok (.ifCond .le 7, 3) := by decide +kernel
theorem dJ_isCycleOpen_9 : decode cJ_isCycleOpen 9 = .ok (.iconst 1, 1) := by decide +kernel
theorem dJ_isCycleOpen_10 : decode cJ_isCycleOpen 10 = .ok (.goto 4, 3) := by decide +kernel
theorem dJ_isCycleOpen_13 : decode cJ_isCycleOpen 13 = .ok (.iconst 0, 1) := by decide +kernel
theorem dJ_isCycleOpen_14 : decode cJ_isCycleOpen 14 = .ok (.ireturn, 1) := by decide +kernel
theorem dJ_isCycleOn_0 : decode cJ_isCycleOn 0 = .ok (.aload_n 0, 1) := by decide +kernel
theorem dJ_isCycleOn_1 : decode cJ_isCycleOn 1 = .ok (.iload_n 1, 1) := by decide +kernel
theorem dJ_isCycleOn_2 : decode cJ_isCycleOn 2 = .ok (.aload_n 0, 1) := by decide +kernel
theorem dJ_isCycleOn_3 : decode cJ_isCycleOn 3 = .ok (.getfield 39, 3) := by decide +kernel
theorem dJ_isCycleOn_6 : decode cJ_isCycleOn 6 = .ok (.invokevirtual 50, 3) := by decide +kernel
theorem dJ_isCycleOn_9 : decode cJ_isCycleOn 9 = .ok (.ifCond .ne 7, 3) := by decide +kernel
theorem dJ_isCycleOn_12 : decode cJ_isCycleOn 12 = .ok (.iconst 1, 1) := by decide +kernel
theorem dJ_isCycleOn_13 : decode cJ_isCycleOn 13 = .ok (.goto 4, 3) := by decide +kernel
theorem dJ_isCycleOn_16 : decode cJ_isCycleOn 16 = .ok (.iconst 0, 1) := by decide +kernel
theorem dJ_isCycleOn_17 : decode cJ_isCycleOn 17 = .ok (.ireturn, 1) := by decide +kernel
theorem dJ_isBoundary_0 : decode cJ_isBoundary 0 = .ok (.iload_n 2, 1) := by decide +kernel
theorem dJ_isBoundary_1 : decode cJ_isBoundary 1 = .ok (.ifCond .lt 28, 3) := by decide +kernel
theorem dJ_isBoundary_4 : decode cJ_isBoundary 4 = .ok (.iload_n 2, 1) := by decide +kernel
theorem dJ_isBoundary_5 : decode cJ_isBoundary 5 = .ok (.aload_n 0, 1) := by decide +kernel
theorem dJ_isBoundary_6 : decode cJ_isBoundary 6 = .ok (.getfield 39, 3) := by decide +kernel
theorem dJ_isBoundary_9 : decode cJ_isBoundary 9 = .ok (.if_icmp .gt 20, 3) := by decide +kernel
theorem dJ_isBoundary_12 : decode cJ_isBoundary 12 = .ok (.aload_n 0, 1) := by decide +kernel
theorem dJ_isBoundary_13 : decode cJ_isBoundary 13 = .ok (.getfield 27, 3) := by decide +kernel
theorem dJ_isBoundary_16 : decode cJ_isBoundary 16 = .ok (.iload_n 2, 1) := by decide +kernel
theorem dJ_isBoundary_17 : decode cJ_isBoundary 17 = .ok (.iaload, 1) := by decide +kernel
theorem dJ_isBoundary_18 : decode cJ_isBoundary 18 = .ok (.iload_n 1, 1) := by decide +kernel
theorem dJ_isBoundary_19 : decode cJ_isBoundary 19 = .ok (.ishr, 1) := by decide +kernel
theorem dJ_isBoundary_20 : decode cJ_isBoundary 20 = .ok (.iconst 1, 1) := by decide +kernel
theorem dJ_isBoundary_21 : decode cJ_isBoundary 21 = .ok (.iand, 1) := by decide +kernel
theorem dJ_isBoundary_22 : decode cJ_isBoundary 22 = .ok (.ifCond .ne 7, 3) := by decide +kernel
theorem dJ_isBoundary_25 : decode cJ_isBoundary 25 = .ok (.iconst 1, 1) := by decide +kernel
theorem dJ_isBoundary_26 : decode cJ_isBoundary 26 = .ok (.goto 4, 3) := by decide +kernel
theorem dJ_isBoundary_29 : decode cJ_isBoundary 29 = .ok (.iconst 0, 1) := by decide +kernel
theorem dJ_isBoundary_30 : decode cJ_isBoundary 30 = .ok (.ireturn, 1) := by decide +kernel
theorem dJ_isLockedByAnother_0 : decode cJ_isLockedByAnother 0 = .ok (.aload_n 0, 1) := by decide +kernel
theorem dJ_isLockedByAnother_1 : decode cJ_isLockedByAnother 1 = .ok (.invokevirtual 54, 3) := by decide +kernel
theorem dJ_isLockedByAnother_4 : decode cJ_isLockedByAnother 4 = .ok (.istore_n 3, 1) := by decide +kernel
theorem dJ_isLockedByAnother_5 : decode cJ_isLockedByAnother 5 = .ok (.iload_n 3, 1) := by decide +kernel
theorem dJ_isLockedByAnother_6 : decode cJ_isLockedByAnother 6 = .ok (.aload_n 0, 1) := by decide +kernel
theorem dJ_isLockedByAnother_7 : decode cJ_isLockedByAnother 7 = .ok (.getfield 39, 3) := by decide +kernel
theorem dJ_isLockedByAnother_10 : decode cJ_isLockedByAnother 10 = .ok (.if_icmp .gt 49, 3) := by decide +kernel
theorem dJ_isLockedByAnother_13 : decode cJ_isLockedByAnother 13 = .ok (.aload_n 0, 1) := by decide +kernel
theorem dJ_isLockedByAnother_14 : decode cJ_isLockedByAnother 14 = .ok (.getfield 9, 3) := by decide +kernel
theorem dJ_isLockedByAnother_17 : decode cJ_isLockedByAnother 17 = .ok (.iload_n 3, 1) := by decide +kernel
theorem dJ_isLockedByAnother_18 : decode cJ_isLockedByAnother 18 = .ok (.iaload, 1) := by decide +kernel
theorem dJ_isLockedByAnother_19 : decode cJ_isLockedByAnother 19 = .ok (.iconst 1, 1) := by decide +kernel
theorem dJ_isLockedByAnother_20 : decode cJ_isLockedByAnother 20 = .ok (.if_icmp .ne 33, 3) := by decide +kernel
theorem dJ_isLockedByAnother_23 : decode cJ_isLockedByAnother 23 = .ok (.aload_n 0, 1) := by decide +kernel
theorem dJ_isLockedByAnother_24 : decode cJ_isLockedByAnother 24 = .ok (.getfield 18, 3) := by decide +kernel
theorem dJ_isLockedByAnother_27 : decode cJ_isLockedByAnother 27 = .ok (.iload_n 3, 1) := by decide +kernel
theorem dJ_isLockedByAnother_28 : decode cJ_isLockedByAnother 28 = .ok (.iaload, 1) := by decide +kernel
theorem dJ_isLockedByAnother_29 : decode cJ_isLockedByAnother 29 = .ok (.iload_n 2, 1) := by decide +kernel
theorem dJ_isLockedByAnother_30 : decode cJ_isLockedByAnother 30 = .ok (.if_icmp .ne 23, 3) := by decide +kernel
theorem dJ_isLockedByAnother_33 : decode cJ_isLockedByAnother 33 = .ok (.aload_n 0, 1) := by decide +kernel
theorem dJ_isLockedByAnother_34 : decode cJ_isLockedByAnother 34 = .ok (.getfield 15, 3) := by decide +kernel
theorem dJ_isLockedByAnother_37 : decode cJ_isLockedByAnother 37 = .ok (.iload_n 3, 1) := by decide +kernel
theorem dJ_isLockedByAnother_38 : decode cJ_isLockedByAnother 38 = .ok (.iaload, 1) := by decide +kernel
theorem dJ_isLockedByAnother_39 : decode cJ_isLockedByAnother 39 = .ok (.iload_n 1, 1) := by decide +kernel
theorem dJ_isLockedByAnother_40 : decode cJ_isLockedByAnother 40 = .ok (.if_icmp .eq 13, 3) := by decide +kernel
theorem dJ_isLockedByAnother_43 : decode cJ_isLockedByAnother 43 = .ok (.aload_n 0, 1) := by decide +kernel
theorem dJ_isLockedByAnother_44 : decode cJ_isLockedByAnother 44 = .ok (.iload_n 3, 1) := by decide +kernel
theorem dJ_isLockedByAnother_45 : decode cJ_isLockedByAnother 45 = .ok (.invokevirtual 58, 3) := by decide +kernel
theorem dJ_isLockedByAnother_48 : decode cJ_isLockedByAnother 48 = .ok (.ifCond .eq 5, 3) := by decide +kernel
theorem dJ_isLockedByAnother_51 : decode cJ_isLockedByAnother 51 = .ok (.iconst 1, 1) := by decide +kernel
theorem dJ_isLockedByAnother_52 : decode cJ_isLockedByAnother 52 = .ok (.ireturn, 1) := by decide +kernel
theorem dJ_isLockedByAnother_53 : decode cJ_isLockedByAnother 53 = .ok (.iinc 3 1, 3) := by decide +kernel
theorem dJ_isLockedByAnother_56 : decode cJ_isLockedByAnother 56 = .ok (.goto (-51), 3) := by decide +kernel
theorem dJ_isLockedByAnother_59 : decode cJ_isLockedByAnother 59 = .ok (.iconst 0, 1) := by decide +kernel
theorem dJ_isLockedByAnother_60 : decode cJ_isLockedByAnother 60 = .ok (.ireturn, 1) := by decide +kernel
theorem dJ_isInOpenCycle_0 : decode cJ_isInOpenCycle 0 = .ok (.aload_n 0, 1) := by decide +kernel
theorem dJ_isInOpenCycle_1 : decode cJ_isInOpenCycle 1 = .ok (.getfield 15, 3) := by decide +kernel
theorem dJ_isInOpenCycle_4 : decode cJ_isInOpenCycle 4 = .ok (.iload_n 1, 1) := by decide +kernel
theorem dJ_isInOpenCycle_5 : decode cJ_isInOpenCycle 5 = .ok (.iaload, 1) := by decide +kernel
theorem dJ_isInOpenCycle_6 : decode cJ_isInOpenCycle 6 = .ok (.istore_n 2, 1) := by decide +kernel
theorem dJ_isInOpenCycle_7 : decode cJ_isInOpenCycle 7 = .ok (.aload_n 0, 1) := by decide +kernel
theorem dJ_isInOpenCycle_8 : decode cJ_isInOpenCycle 8 = .ok (.iload_n 2, 1) := by decide +kernel
theorem dJ_isInOpenCycle_9 : decode cJ_isInOpenCycle 9 = .ok (.invokevirtual 62, 3) := by decide +kernel
theorem dJ_isInOpenCycle_12 : decode cJ_isInOpenCycle 12 = .ok (.ifCond .eq 17, 3) := by decide +kernel
theorem dJ_isInOpenCycle_15 : decode cJ_isInOpenCycle 15 = .ok (.iload_n 1, 1) := by decide +kernel
theorem dJ_isInOpenCycle_16 : decode cJ_isInOpenCycle 16 = .ok (.aload_n 0, 1) := by decide +kernel
theorem dJ_isInOpenCycle_17 : decode cJ_isInOpenCycle 17 = .ok (.getfield 30, 3) := by decide +kernel
theorem dJ_isInOpenCycle_20 : decode cJ_isInOpenCycle 20 = .ok (.iload_n 2, 1) := by decide +kernel
theorem dJ_isInOpenCycle_21 : decode cJ_isInOpenCycle 21 = .ok (.iaload, 1) := by decide +kernel
theorem dJ_isInOpenCycle_22 : decode cJ_isInOpenCycle 22 = .ok (.if_icmp .lt 7, 3) := by decide +kernel
theorem dJ_isInOpenCycle_25 : decode cJ_isInOpenCycle 25 = .ok (.iconst 1, 1) := by decide +kernel
theorem dJ_isInOpenCycle_26 : decode cJ_isInOpenCycle 26 = .ok (.goto 4, 3) := by decide +kernel
theorem dJ_isInOpenCycle_29 : decode cJ_isInOpenCycle 29 = .ok (.iconst 0, 1) := by decide +kernel
theorem dJ_isInOpenCycle_30 : decode cJ_isInOpenCycle 30 = .ok (.ireturn, 1) := by decide +kernel
theorem dJ_refusesChangeBy_0 : decode cJ_refusesChangeBy 0 = .ok (.aload_n 0, 1) := by decide +kernel
theorem dJ_refusesChangeBy_1 : decode cJ_refusesChangeBy 1 = .ok (.iload_n 1, 1) := by decide +kernel
theorem dJ_refusesChangeBy_2 : decode cJ_refusesChangeBy 2 = .ok (.invokevirtual 62, 3) := by decide +kernel
theorem dJ_refusesChangeBy_5 : decode cJ_refusesChangeBy 5 = .ok (.ifCond .eq 7, 3) := by decide +kernel
theorem dJ_refusesChangeBy_8 : decode cJ_refusesChangeBy 8 = .ok (.iconst 1, 1) := by decide +kernel
theorem dJ_refusesChangeBy_9 : decode cJ_refusesChangeBy 9 = .ok (.goto 4, 3) := by decide +kernel
theorem dJ_refusesChangeBy_12 : decode cJ_refusesChangeBy 12 = .ok (.iconst 2, 1) := by decide +kernel
theorem dJ_refusesChangeBy_13 : decode cJ_refusesChangeBy 13 = .ok (.istore_n 2, 1) := by decide +kernel
theorem dJ_refusesChangeBy_14 : decode cJ_refusesChangeBy 14 = .ok (.aload_n 0, 1) := by decide +kernel
theorem dJ_refusesChangeBy_15 : decode cJ_refusesChangeBy 15 = .ok (.invokevirtual 65, 3) := by decide +kernel
theorem dJ_refusesChangeBy_18 : decode cJ_refusesChangeBy 18 = .ok (.iconst 1, 1) := by decide +kernel
theorem dJ_refusesChangeBy_19 : decode cJ_refusesChangeBy 19 = .ok (.isub, 1) := by decide +kernel
theorem dJ_refusesChangeBy_20 : decode cJ_refusesChangeBy 20 = .ok (.aload_n 0, 1) := by decide +kernel
theorem dJ_refusesChangeBy_21 : decode cJ_refusesChangeBy 21 = .ok (.invokevirtual 68, 3) := by decide +kernel
theorem dJ_refusesChangeBy_24 : decode cJ_refusesChangeBy 24 = .ok (.iload_n 2, 1) := by decide +kernel
theorem dJ_refusesChangeBy_25 : decode cJ_refusesChangeBy 25 = .ok (.iadd, 1) := by decide +kernel
theorem dJ_refusesChangeBy_26 : decode cJ_refusesChangeBy 26 = .ok (.if_icmp .ge 7, 3) := by decide +kernel
theorem dJ_refusesChangeBy_29 : decode cJ_refusesChangeBy 29 = .ok (.iconst 1, 1) := by decide +kernel
theorem dJ_refusesChangeBy_30 : decode cJ_refusesChangeBy 30 = .ok (.goto 4, 3) := by decide +kernel
theorem dJ_refusesChangeBy_33 : decode cJ_refusesChangeBy 33 = .ok (.iconst 0, 1) := by decide +kernel
theorem dJ_refusesChangeBy_34 : decode cJ_refusesChangeBy 34 = .ok (.ireturn, 1) := by decide +kernel
theorem dJ_refusesOwnChanges_0 : decode cJ_refusesOwnChanges 0 = .ok (.iload_n 1, 1) := by decide +kernel
theorem dJ_refusesOwnChanges_1 : decode cJ_refusesOwnChanges 1 = .ok (.ifCond .le 22, 3) := by decide +kernel
theorem dJ_refusesOwnChanges_4 : decode cJ_refusesOwnChanges 4 = .ok (.aload_n 0, 1) := by decide +kernel
theorem dJ_refusesOwnChanges_5 : decode cJ_refusesOwnChanges 5 = .ok (.invokevirtual 65, 3) := by decide +kernel
theorem dJ_refusesOwnChanges_8 : decode cJ_refusesOwnChanges 8 = .ok (.iload_n 1, 1) := by decide +kernel
theorem dJ_refusesOwnChanges_9 : decode cJ_refusesOwnChanges 9 = .ok (.isub, 1) := by decide +kernel
theorem dJ_refusesOwnChanges_10 : decode cJ_refusesOwnChanges 10 = .ok (.iconst 1, 1) := by decide +kernel
theorem dJ_refusesOwnChanges_11 : decode cJ_refusesOwnChanges 11 = .ok (.isub, 1) := by decide +kernel
theorem dJ_refusesOwnChanges_12 : decode cJ_refusesOwnChanges 12 = .ok (.aload_n 0, 1) := by decide +kernel
theorem dJ_refusesOwnChanges_13 : decode cJ_refusesOwnChanges 13 = .ok (.invokevirtual 68, 3) := by decide +kernel
theorem dJ_refusesOwnChanges_16 : decode cJ_refusesOwnChanges 16 = .ok (.if_icmp .ge 7, 3) := by decide +kernel
theorem dJ_refusesOwnChanges_19 : decode cJ_refusesOwnChanges 19 = .ok (.iconst 1, 1) := by decide +kernel
theorem dJ_refusesOwnChanges_20 : decode cJ_refusesOwnChanges 20 = .ok (.goto 4, 3) := by decide +kernel
theorem dJ_refusesOwnChanges_23 : decode cJ_refusesOwnChanges 23 = .ok (.iconst 0, 1) := by decide +kernel
theorem dJ_refusesOwnChanges_24 : decode cJ_refusesOwnChanges 24 = .ok (.ireturn, 1) := by decide +kernel
theorem dJ_room_0 : decode cJ_room 0 = .ok (.bipush 120, 2) := by decide +kernel
theorem dJ_room_2 : decode cJ_room 2 = .ok (.bipush 8, 2) := by decide +kernel
theorem dJ_room_4 : decode cJ_room 4 = .ok (.aload_n 0, 1) := by decide +kernel
theorem dJ_room_5 : decode cJ_room 5 = .ok (.getfield 71, 3) := by decide +kernel
theorem dJ_room_8 : decode cJ_room 8 = .ok (.bipush 6, 2) := by decide +kernel
theorem dJ_room_10 : decode cJ_room 10 = .ok (.iadd, 1) := by decide +kernel
theorem dJ_room_11 : decode cJ_room 11 = .ok (.imul, 1) := by decide +kernel
theorem dJ_room_12 : decode cJ_room 12 = .ok (.invokestatic 74, 3) := by decide +kernel
theorem dJ_room_15 : decode cJ_room 15 = .ok (.aload_n 0, 1) := by decide +kernel
theorem dJ_room_16 : decode cJ_room 16 = .ok (.getfield 39, 3) := by decide +kernel
theorem dJ_room_19 : decode cJ_room 19 = .ok (.isub, 1) := by decide +kernel
theorem dJ_room_20 : decode cJ_room 20 = .ok (.ireturn, 1) := by decide +kernel
theorem dJ_reserve_0 : decode cJ_reserve 0 = .ok (.iconst 0, 1) := by decide +kernel
theorem dJ_reserve_1 : decode cJ_reserve 1 = .ok (.istore_n 1, 1) := by decide +kernel
theorem dJ_reserve_2 : decode cJ_reserve 2 = .ok (.iconst 0, 1) := by decide +kernel
theorem dJ_reserve_3 : decode cJ_reserve 3 = .ok (.istore_n 2, 1) := by decide +kernel
theorem dJ_reserve_4 : decode cJ_reserve 4 = .ok (.iload_n 2, 1) := by decide +kernel
theorem dJ_reserve_5 : decode cJ_reserve 5 = .ok (.iconst 3, 1) := by decide +kernel
theorem dJ_reserve_6 : decode cJ_reserve 6 = .ok (.if_icmp .ge 28, 3) := by decide +kernel
theorem dJ_reserve_9 : decode cJ_reserve 9 = .ok (.aload_n 0, 1) := by decide +kernel
theorem dJ_reserve_10 : decode cJ_reserve 10 = .ok (.iload_n 2, 1) := by decide +kernel
theorem dJ_reserve_11 : decode cJ_reserve 11 = .ok (.invokevirtual 62, 3) := by decide +kernel
theorem dJ_reserve_14 : decode cJ_reserve 14 = .ok (.ifCond .eq 14, 3) := by decide +kernel
theorem dJ_reserve_17 : decode cJ_reserve 17 = .ok (.iload_n 1, 1) := by decide +kernel
theorem dJ_reserve_18 : decode cJ_reserve 18 = .ok (.aload_n 0, 1) := by decide +kernel
theorem dJ_reserve_19 : decode cJ_reserve 19 = .ok (.getfield 33, 3) := by decide +kernel
theorem dJ_reserve_22 : decode cJ_reserve 22 = .ok (.iload_n 2, 1) := by decide +kernel
theorem dJ_reserve_23 : decode cJ_reserve 23 = .ok (.iaload, 1) := by decide +kernel
theorem dJ_reserve_24 : decode cJ_reserve 24 = .ok (.iconst 1, 1) := by decide +kernel
theorem dJ_reserve_25 : decode cJ_reserve 25 = .ok (.iadd, 1) := by decide +kernel
theorem dJ_reserve_26 : decode cJ_reserve 26 = .ok (.iadd, 1) := by decide +kernel
theorem dJ_reserve_27 : decode cJ_reserve 27 = .ok (.istore_n 1, 1) := by decide +kernel
theorem dJ_reserve_28 : decode cJ_reserve 28 = .ok (.iinc 2 1, 3) := by decide +kernel
theorem dJ_reserve_31 : decode cJ_reserve 31 = .ok (.goto (-27), 3) := by decide +kernel
theorem dJ_reserve_34 : decode cJ_reserve 34 = .ok (.iload_n 1, 1) := by decide +kernel
theorem dJ_reserve_35 : decode cJ_reserve 35 = .ok (.ireturn, 1) := by decide +kernel
theorem dJ_startOfOldest_0 : decode cJ_startOfOldest 0 = .ok (.aload_n 0, 1) := by decide +kernel
theorem dJ_startOfOldest_1 : decode cJ_startOfOldest 1 = .ok (.getfield 71, 3) := by decide +kernel
theorem dJ_startOfOldest_4 : decode cJ_startOfOldest 4 = .ok (.bipush 8, 2) := by decide +kernel
theorem dJ_startOfOldest_6 : decode cJ_startOfOldest 6 = .ok (.imul, 1) := by decide +kernel
theorem dJ_startOfOldest_7 : decode cJ_startOfOldest 7 = .ok (.iconst 1, 1) := by decide +kernel
theorem dJ_startOfOldest_8 : decode cJ_startOfOldest 8 = .ok (.iadd, 1) := by decide +kernel
theorem dJ_startOfOldest_9 : decode cJ_startOfOldest 9 = .ok (.ireturn, 1) := by decide +kernel
theorem dJ_endOfOldest_0 : decode cJ_endOfOldest 0 = .ok (.aload_n 0, 1) := by decide +kernel
theorem dJ_endOfOldest_1 : decode cJ_endOfOldest 1 = .ok (.getfield 71, 3) := by decide +kernel
theorem dJ_endOfOldest_4 : decode cJ_endOfOldest 4 = .ok (.iconst 1, 1) := by decide +kernel
theorem dJ_endOfOldest_5 : decode cJ_endOfOldest 5 = .ok (.iadd, 1) := by decide +kernel
theorem dJ_endOfOldest_6 : decode cJ_endOfOldest 6 = .ok (.bipush 8, 2) := by decide +kernel
theorem dJ_endOfOldest_8 : decode cJ_endOfOldest 8 = .ok (.imul, 1) := by decide +kernel
theorem dJ_endOfOldest_9 : decode cJ_endOfOldest 9 = .ok (.ireturn, 1) := by decide +kernel
theorem dJ_isKept_0 : decode cJ_isKept 0 = .ok (.iload_n 1, 1) := by decide +kernel
theorem dJ_isKept_1 : decode cJ_isKept 1 = .ok (.aload_n 0, 1) := by decide +kernel
theorem dJ_isKept_2 : decode cJ_isKept 2 = .ok (.invokevirtual 54, 3) := by decide +kernel
theorem dJ_isKept_5 : decode cJ_isKept 5 = .ok (.if_icmp .lt 15, 3) := by decide +kernel
theorem dJ_isKept_8 : decode cJ_isKept 8 = .ok (.iload_n 1, 1) := by decide +kernel
theorem dJ_isKept_9 : decode cJ_isKept 9 = .ok (.aload_n 0, 1) := by decide +kernel
theorem dJ_isKept_10 : decode cJ_isKept 10 = .ok (.getfield 39, 3) := by decide +kernel
theorem dJ_isKept_13 : decode cJ_isKept 13 = .ok (.if_icmp .gt 7, 3) := by decide +kernel
theorem dJ_isKept_16 : decode cJ_isKept 16 = .ok (.iconst 1, 1) := by decide +kernel
theorem dJ_isKept_17 : decode cJ_isKept 17 = .ok (.goto 4, 3) := by decide +kernel
theorem dJ_isKept_20 : decode cJ_isKept 20 = .ok (.iconst 0, 1) := by decide +kernel
theorem dJ_isKept_21 : decode cJ_isKept 21 = .ok (.ireturn, 1) := by decide +kernel
theorem dJ_canDropOldest_0 : decode cJ_canDropOldest 0 = .ok (.iconst 0, 1) := by decide +kernel
theorem dJ_canDropOldest_1 : decode cJ_canDropOldest 1 = .ok (.istore_n 1, 1) := by decide +kernel
theorem dJ_canDropOldest_2 : decode cJ_canDropOldest 2 = .ok (.iload_n 1, 1) := by decide +kernel
theorem dJ_canDropOldest_3 : decode cJ_canDropOldest 3 = .ok (.iconst 3, 1) := by decide +kernel
theorem dJ_canDropOldest_4 : decode cJ_canDropOldest 4 = .ok (.if_icmp .ge 32, 3) := by decide +kernel
theorem dJ_canDropOldest_7 : decode cJ_canDropOldest 7 = .ok (.aload_n 0, 1) := by decide +kernel
theorem dJ_canDropOldest_8 : decode cJ_canDropOldest 8 = .ok (.iload_n 1, 1) := by decide +kernel
theorem dJ_canDropOldest_9 : decode cJ_canDropOldest 9 = .ok (.invokevirtual 62, 3) := by decide +kernel
theorem dJ_canDropOldest_12 : decode cJ_canDropOldest 12 = .ok (.ifCond .eq 18, 3) := by decide +kernel
theorem dJ_canDropOldest_15 : decode cJ_canDropOldest 15 = .ok (.aload_n 0, 1) := by decide +kernel
theorem dJ_canDropOldest_16 : decode cJ_canDropOldest 16 = .ok (.getfield 30, 3) := by decide +kernel
theorem dJ_canDropOldest_19 : decode cJ_canDropOldest 19 = .ok (.iload_n 1, 1) := by decide +kernel
theorem dJ_canDropOldest_20 : decode cJ_canDropOldest 20 = .ok (.iaload, 1) := by decide +kernel
theorem dJ_canDropOldest_21 : decode cJ_canDropOldest 21 = .ok (.aload_n 0, 1) := by decide +kernel
theorem dJ_canDropOldest_22 : decode cJ_canDropOldest 22 = .ok (.invokevirtual 80, 3) := by decide +kernel
theorem dJ_canDropOldest_25 : decode cJ_canDropOldest 25 = .ok (.if_icmp .gt 5, 3) := by decide +kernel
theorem dJ_canDropOldest_28 : decode cJ_canDropOldest 28 = .ok (.iconst 0, 1) := by decide +kernel
theorem dJ_canDropOldest_29 : decode cJ_canDropOldest 29 = .ok (.ireturn, 1) := by decide +kernel
theorem dJ_canDropOldest_30 : decode cJ_canDropOldest 30 = .ok (.iinc 1 1, 3) := by decide +kernel
theorem dJ_canDropOldest_33 : decode cJ_canDropOldest 33 = .ok (.goto (-31), 3) := by decide +kernel
theorem dJ_canDropOldest_36 : decode cJ_canDropOldest 36 = .ok (.aload_n 0, 1) := by decide +kernel
theorem dJ_canDropOldest_37 : decode cJ_canDropOldest 37 = .ok (.invokevirtual 80, 3) := by decide +kernel
theorem dJ_canDropOldest_40 : decode cJ_canDropOldest 40 = .ok (.aload_n 0, 1) := by decide +kernel
theorem dJ_canDropOldest_41 : decode cJ_canDropOldest 41 = .ok (.getfield 39, 3) := by decide +kernel
theorem dJ_canDropOldest_44 : decode cJ_canDropOldest 44 = .ok (.if_icmp .gt 7, 3) := by decide +kernel
theorem dJ_canDropOldest_47 : decode cJ_canDropOldest 47 = .ok (.iconst 1, 1) := by decide +kernel
theorem dJ_canDropOldest_48 : decode cJ_canDropOldest 48 = .ok (.goto 4, 3) := by decide +kernel
theorem dJ_canDropOldest_51 : decode cJ_canDropOldest 51 = .ok (.iconst 0, 1) := by decide +kernel
theorem dJ_canDropOldest_52 : decode cJ_canDropOldest 52 = .ok (.ireturn, 1) := by decide +kernel
theorem dJ_isChangeOf_0 : decode cJ_isChangeOf 0 = .ok (.aload_n 0, 1) := by decide +kernel
theorem dJ_isChangeOf_1 : decode cJ_isChangeOf 1 = .ok (.getfield 9, 3) := by decide +kernel
theorem dJ_isChangeOf_4 : decode cJ_isChangeOf 4 = .ok (.iload_n 2, 1) := by decide +kernel
theorem dJ_isChangeOf_5 : decode cJ_isChangeOf 5 = .ok (.iaload, 1) := by decide +kernel
theorem dJ_isChangeOf_6 : decode cJ_isChangeOf 6 = .ok (.iconst 1, 1) := by decide +kernel
theorem dJ_isChangeOf_7 : decode cJ_isChangeOf 7 = .ok (.if_icmp .ne 20, 3) := by decide +kernel
theorem dJ_isChangeOf_10 : decode cJ_isChangeOf 10 = .ok (.aload_n 0, 1) := by decide +kernel
theorem dJ_isChangeOf_11 : decode cJ_isChangeOf 11 = .ok (.getfield 18, 3) := by decide +kernel
theorem dJ_isChangeOf_14 : decode cJ_isChangeOf 14 = .ok (.iload_n 2, 1) := by decide +kernel
theorem dJ_isChangeOf_15 : decode cJ_isChangeOf 15 = .ok (.iaload, 1) := by decide +kernel
theorem dJ_isChangeOf_16 : decode cJ_isChangeOf 16 = .ok (.invokestatic 43, 3) := by decide +kernel
theorem dJ_isChangeOf_19 : decode cJ_isChangeOf 19 = .ok (.iload_n 1, 1) := by decide +kernel
theorem dJ_isChangeOf_20 : decode cJ_isChangeOf 20 = .ok (.if_icmp .ne 7, 3) := by decide +kernel
theorem dJ_isChangeOf_23 : decode cJ_isChangeOf 23 = .ok (.iconst 1, 1) := by decide +kernel
theorem dJ_isChangeOf_24 : decode cJ_isChangeOf 24 = .ok (.goto 4, 3) := by decide +kernel
theorem dJ_isChangeOf_27 : decode cJ_isChangeOf 27 = .ok (.iconst 0, 1) := by decide +kernel
theorem dJ_isChangeOf_28 : decode cJ_isChangeOf 28 = .ok (.ireturn, 1) := by decide +kernel
theorem dJ_keepsChangesOf_0 : decode cJ_keepsChangesOf 0 = .ok (.iload_n 2, 1) := by decide +kernel
theorem dJ_keepsChangesOf_1 : decode cJ_keepsChangesOf 1 = .ok (.iconst 1, 1) := by decide +kernel
theorem dJ_keepsChangesOf_2 : decode cJ_keepsChangesOf 2 = .ok (.iadd, 1) := by decide +kernel
theorem dJ_keepsChangesOf_3 : decode cJ_keepsChangesOf 3 = .ok (.istore 4, 2) := by decide +kernel
theorem dJ_keepsChangesOf_5 : decode cJ_keepsChangesOf 5 = .ok (.iload 4, 2) := by decide +kernel
theorem dJ_keepsChangesOf_7 : decode cJ_keepsChangesOf 7 = .ok (.iload_n 3, 1) := by decide +kernel
theorem dJ_keepsChangesOf_8 : decode cJ_keepsChangesOf 8 = .ok (.if_icmp .gt 30, 3) := by decide +kernel
theorem dJ_keepsChangesOf_11 : decode cJ_keepsChangesOf 11 = .ok (.aload_n 0, 1) := by decide +kernel
theorem dJ_keepsChangesOf_12 : decode cJ_keepsChangesOf 12 = .ok (.iload_n 1, 1) := by decide +kernel
theorem dJ_keepsChangesOf_13 : decode cJ_keepsChangesOf 13 = .ok (.iload 4, 2) := by decide +kernel
theorem dJ_keepsChangesOf_15 : decode cJ_keepsChangesOf 15 = .ok (.invokevirtual 83, 3) := by decide +kernel
theorem dJ_keepsChangesOf_18 : decode cJ_keepsChangesOf 18 = .ok (.ifCond .eq 14, 3) := by decide +kernel
theorem dJ_keepsChangesOf_21 : decode cJ_keepsChangesOf 21 = .ok (.aload_n 0, 1) := by decide +kernel
theorem dJ_keepsChangesOf_22 : decode cJ_keepsChangesOf 22 = .ok (.iload 4, 2) := by decide +kernel
theorem dJ_keepsChangesOf_24 : decode cJ_keepsChangesOf 24 = .ok (.invokevirtual 86, 3) := by decide +kernel
theorem dJ_keepsChangesOf_27 : decode cJ_keepsChangesOf 27 = .ok (.ifCond .ne 5, 3) := by decide +kernel
theorem dJ_keepsChangesOf_30 : decode cJ_keepsChangesOf 30 = .ok (.iconst 0, 1) := by decide +kernel
theorem dJ_keepsChangesOf_31 : decode cJ_keepsChangesOf 31 = .ok (.ireturn, 1) := by decide +kernel
theorem dJ_keepsChangesOf_32 : decode cJ_keepsChangesOf 32 = .ok (.iinc 4 1, 3) := by decide +kernel
theorem dJ_keepsChangesOf_35 : decode cJ_keepsChangesOf 35 = .ok (.goto (-30), 3) := by decide +kernel
theorem dJ_keepsChangesOf_38 : decode cJ_keepsChangesOf 38 = .ok (.iconst 1, 1) := by decide +kernel
theorem dJ_keepsChangesOf_39 : decode cJ_keepsChangesOf 39 = .ok (.ireturn, 1) := by decide +kernel
