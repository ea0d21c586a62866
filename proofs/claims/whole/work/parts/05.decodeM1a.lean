theorem dM_thrown_0 : decode cM_thrown 0 = .ok (.aload_n 0, 1) := by decide +kernel
theorem dM_thrown_1 : decode cM_thrown 1 = .ok (.getfield 56, 3) := by decide +kernel
theorem dM_thrown_4 : decode cM_thrown 4 = .ok (.ireturn, 1) := by decide +kernel
theorem dM_refuse_0 : decode cM_refuse 0 = .ok (.aload_n 0, 1) := by decide +kernel
theorem dM_refuse_1 : decode cM_refuse 1 = .ok (.iload_n 1, 1) := by decide +kernel
theorem dM_refuse_2 : decode cM_refuse 2 = .ok (.putfield 56, 3) := by decide +kernel
theorem dM_refuse_5 : decode cM_refuse 5 = .ok (.iconst 0, 1) := by decide +kernel
theorem dM_refuse_6 : decode cM_refuse 6 = .ok (.ireturn, 1) := by decide +kernel
theorem dM_within_0 : decode cM_within 0 = .ok (.iload_n 0, 1) := by decide +kernel
theorem dM_within_1 : decode cM_within 1 = .ok (.iload_n 1, 1) := by decide +kernel
theorem dM_within_2 : decode cM_within 2 = .ok (.if_icmp .lt 12, 3) := by decide +kernel
theorem dM_within_5 : decode cM_within 5 = .ok (.iload_n 0, 1) := by decide +kernel
theorem dM_within_6 : decode cM_within 6 = .ok (.iload_n 2, 1) := by decide +kernel
theorem dM_within_7 : decode cM_within 7 = .ok (.if_icmp .gt 7, 3) := by decide +kernel
theorem dM_within_10 : decode cM_within 10 = .ok (.iconst 1, 1) := by decide +kernel
theorem dM_within_11 : decode cM_within 11 = .ok (.goto 4, 3) := by decide +kernel
theorem dM_within_14 : decode cM_within 14 = .ok (.iconst 0, 1) := by decide +kernel
theorem dM_within_15 : decode cM_within 15 = .ok (.ireturn, 1) := by decide +kernel
theorem dM_isFile_0 : decode cM_isFile 0 = .ok (.iload_n 1, 1) := by decide +kernel
theorem dM_isFile_1 : decode cM_isFile 1 = .ok (.iconst 0, 1) := by decide +kernel
theorem dM_isFile_2 : decode cM_isFile 2 = .ok (.aload_n 0, 1) := by decide +kernel
theorem dM_isFile_3 : decode cM_isFile 3 = .ok (.getfield 60, 3) := by decide +kernel
theorem dM_isFile_6 : decode cM_isFile 6 = .ok (.iconst 1, 1) := by decide +kernel
theorem dM_isFile_7 : decode cM_isFile 7 = .ok (.isub, 1) := by decide +kernel
theorem dM_isFile_8 : decode cM_isFile 8 = .ok (.invokestatic 63, 3) := by decide +kernel
theorem dM_isFile_11 : decode cM_isFile 11 = .ok (.ireturn, 1) := by decide +kernel
theorem dM_isRecord_0 : decode cM_isRecord 0 = .ok (.aload_n 0, 1) := by decide +kernel
theorem dM_isRecord_1 : decode cM_isRecord 1 = .ok (.iload_n 1, 1) := by decide +kernel
theorem dM_isRecord_2 : decode cM_isRecord 2 = .ok (.invokevirtual 67, 3) := by decide +kernel
theorem dM_isRecord_5 : decode cM_isRecord 5 = .ok (.ifCond .eq 23, 3) := by decide +kernel
theorem dM_isRecord_8 : decode cM_isRecord 8 = .ok (.iload_n 2, 1) := by decide +kernel
theorem dM_isRecord_9 : decode cM_isRecord 9 = .ok (.iconst 0, 1) := by decide +kernel
theorem dM_isRecord_10 : decode cM_isRecord 10 = .ok (.aload_n 0, 1) := by decide +kernel
theorem dM_isRecord_11 : decode cM_isRecord 11 = .ok (.getfield 7, 3) := by decide +kernel
theorem dM_isRecord_14 : decode cM_isRecord 14 = .ok (.iload_n 1, 1) := by decide +kernel
theorem dM_isRecord_15 : decode cM_isRecord 15 = .ok (.iaload, 1) := by decide +kernel
theorem dM_isRecord_16 : decode cM_isRecord 16 = .ok (.iconst 1, 1) := by decide +kernel
theorem dM_isRecord_17 : decode cM_isRecord 17 = .ok (.isub, 1) := by decide +kernel
theorem dM_isRecord_18 : decode cM_isRecord 18 = .ok (.invokestatic 63, 3) := by decide +kernel
theorem dM_isRecord_21 : decode cM_isRecord 21 = .ok (.ifCond .eq 7, 3) := by decide +kernel
theorem dM_isRecord_24 : decode cM_isRecord 24 = .ok (.iconst 1, 1) := by decide +kernel
theorem dM_isRecord_25 : decode cM_isRecord 25 = .ok (.goto 4, 3) := by decide +kernel
theorem dM_isRecord_28 : decode cM_isRecord 28 = .ok (.iconst 0, 1) := by decide +kernel
theorem dM_isRecord_29 : decode cM_isRecord 29 = .ok (.ireturn, 1) := by decide +kernel
theorem dM_isKept_0 : decode cM_isKept 0 = .ok (.iload_n 1, 1) := by decide +kernel
theorem dM_isKept_1 : decode cM_isKept 1 = .ok (.bipush 8, 2) := by decide +kernel
theorem dM_isKept_3 : decode cM_isKept 3 = .ok (.aload_n 0, 1) := by decide +kernel
theorem dM_isKept_4 : decode cM_isKept 4 = .ok (.getfield 71, 3) := by decide +kernel
theorem dM_isKept_7 : decode cM_isKept 7 = .ok (.imul, 1) := by decide +kernel
theorem dM_isKept_8 : decode cM_isKept 8 = .ok (.if_icmp .le 15, 3) := by decide +kernel
theorem dM_isKept_11 : decode cM_isKept 11 = .ok (.iload_n 1, 1) := by decide +kernel
theorem dM_isKept_12 : decode cM_isKept 12 = .ok (.aload_n 0, 1) := by decide +kernel
theorem dM_isKept_13 : decode cM_isKept 13 = .ok (.getfield 74, 3) := by decide +kernel
theorem dM_isKept_16 : decode cM_isKept 16 = .ok (.if_icmp .gt 7, 3) := by decide +kernel
theorem dM_isKept_19 : decode cM_isKept 19 = .ok (.iconst 1, 1) := by decide +kernel
theorem dM_isKept_20 : decode cM_isKept 20 = .ok (.goto 4, 3) := by decide +kernel
theorem dM_isKept_23 : decode cM_isKept 23 = .ok (.iconst 0, 1) := by decide +kernel
theorem dM_isKept_24 : decode cM_isKept 24 = .ok (.ireturn, 1) := by decide +kernel
theorem dM_valueAt_0 : decode cM_valueAt 0 = .ok (.iload_n 3, 1) := by decide +kernel
theorem dM_valueAt_1 : decode cM_valueAt 1 = .ok (.istore 4, 2) := by decide +kernel
theorem dM_valueAt_3 : decode cM_valueAt 3 = .ok (.iload 4, 2) := by decide +kernel
theorem dM_valueAt_5 : decode cM_valueAt 5 = .ok (.ifCond .le 42, 3) := by decide +kernel
theorem dM_valueAt_8 : decode cM_valueAt 8 = .ok (.aload_n 0, 1) := by decide +kernel
theorem dM_valueAt_9 : decode cM_valueAt 9 = .ok (.getfield 19, 3) := by decide +kernel
theorem dM_valueAt_12 : decode cM_valueAt 12 = .ok (.iload 4, 2) := by decide +kernel
theorem dM_valueAt_14 : decode cM_valueAt 14 = .ok (.iaload, 1) := by decide +kernel
theorem dM_valueAt_15 : decode cM_valueAt 15 = .ok (.iconst 1, 1) := by decide +kernel
theorem dM_valueAt_16 : decode cM_valueAt 16 = .ok (.if_icmp .ne 25, 3) := by decide +kernel
theorem dM_valueAt_19 : decode cM_valueAt 19 = .ok (.aload_n 0, 1) := by decide +kernel
theorem dM_valueAt_20 : decode cM_valueAt 20 = .ok (.getfield 25, 3) := by decide +kernel
theorem dM_valueAt_23 : decode cM_valueAt 23 = .ok (.iload 4, 2) := by decide +kernel
theorem dM_valueAt_25 : decode cM_valueAt 25 = .ok (.iaload, 1) := by decide +kernel
theorem dM_valueAt_26 : decode cM_valueAt 26 = .ok (.iload_n 1, 1) := by decide +kernel
theorem dM_valueAt_27 : decode cM_valueAt 27 = .ok (.if_icmp .ne 14, 3) := by decide +kernel
theorem dM_valueAt_30 : decode cM_valueAt 30 = .ok (.aload_n 0, 1) := by decide +kernel
theorem dM_valueAt_31 : decode cM_valueAt 31 = .ok (.getfield 28, 3) := by decide +kernel
theorem dM_valueAt_34 : decode cM_valueAt 34 = .ok (.iload 4, 2) := by decide +kernel
theorem dM_valueAt_36 : decode cM_valueAt 36 = .ok (.iaload, 1) := by decide +kernel
theorem dM_valueAt_37 : decode cM_valueAt 37 = .ok (.iload_n 2, 1) := by decide +kernel
theorem dM_valueAt_38 : decode cM_valueAt 38 = .ok (.if_icmp .eq 9, 3) := by decide +kernel
theorem dM_valueAt_41 : decode cM_valueAt 41 = .ok (.iinc 4 (-1), 3) := by decide +kernel
theorem dM_valueAt_44 : decode cM_valueAt 44 = .ok (.goto (-41), 3) := by decide +kernel
theorem dM_valueAt_47 : decode cM_valueAt 47 = .ok (.iload 4, 2) := by decide +kernel
theorem dM_valueAt_49 : decode cM_valueAt 49 = .ok (.ifCond .le 13, 3) := by decide +kernel
theorem dM_valueAt_52 : decode cM_valueAt 52 = .ok (.aload_n 0, 1) := by decide +kernel
theorem dM_valueAt_53 : decode cM_valueAt 53 = .ok (.getfield 34, 3) := by decide +kernel
theorem dM_valueAt_56 : decode cM_valueAt 56 = .ok (.iload 4, 2) := by decide +kernel
theorem dM_valueAt_58 : decode cM_valueAt 58 = .ok (.iaload, 1) := by decide +kernel
theorem dM_valueAt_59 : decode cM_valueAt 59 = .ok (.goto 4, 3) := by decide +kernel
theorem dM_valueAt_62 : decode cM_valueAt 62 = .ok (.iconst 0, 1) := by decide +kernel
theorem dM_valueAt_63 : decode cM_valueAt 63 = .ok (.ireturn, 1) := by decide +kernel
theorem dM_cycleAt_0 : decode cM_cycleAt 0 = .ok (.iconst 0, 1) := by decide +kernel
theorem dM_cycleAt_1 : decode cM_cycleAt 1 = .ok (.istore_n 3, 1) := by decide +kernel
theorem dM_cycleAt_2 : decode cM_cycleAt 2 = .ok (.iconst 1, 1) := by decide +kernel
theorem dM_cycleAt_3 : decode cM_cycleAt 3 = .ok (.istore 4, 2) := by decide +kernel
theorem dM_cycleAt_5 : decode cM_cycleAt 5 = .ok (.iload 4, 2) := by decide +kernel
theorem dM_cycleAt_7 : decode cM_cycleAt 7 = .ok (.iload_n 2, 1) := by decide +kernel
theorem dM_cycleAt_8 : decode cM_cycleAt 8 = .ok (.if_icmp .gt 46, 3) := by decide +kernel
theorem dM_cycleAt_11 : decode cM_cycleAt 11 = .ok (.aload_n 0, 1) := by decide +kernel
theorem dM_cycleAt_12 : decode cM_cycleAt 12 = .ok (.getfield 22, 3) := by decide +kernel
theorem dM_cycleAt_15 : decode cM_cycleAt 15 = .ok (.iload 4, 2) := by decide +kernel
theorem dM_cycleAt_17 : decode cM_cycleAt 17 = .ok (.iaload, 1) := by decide +kernel
theorem dM_cycleAt_18 : decode cM_cycleAt 18 = .ok (.iload_n 1, 1) := by decide +kernel
theorem dM_cycleAt_19 : decode cM_cycleAt 19 = .ok (.if_icmp .ne 29, 3) := by decide +kernel
theorem dM_cycleAt_22 : decode cM_cycleAt 22 = .ok (.aload_n 0, 1) := by decide +kernel
theorem dM_cycleAt_23 : decode cM_cycleAt 23 = .ok (.getfield 19, 3) := by decide +kernel
theorem dM_cycleAt_26 : decode cM_cycleAt 26 = .ok (.iload 4, 2) := by decide +kernel
theorem dM_cycleAt_28 : decode cM_cycleAt 28 = .ok (.iaload, 1) := by decide +kernel
theorem dM_cycleAt_29 : decode cM_cycleAt 29 = .ok (.iconst 1, 1) := by decide +kernel
theorem dM_cycleAt_30 : decode cM_cycleAt 30 = .ok (.if_icmp .eq 7, 3) := by decide +kernel
theorem dM_cycleAt_33 : decode cM_cycleAt 33 = .ok (.iconst 0, 1) := by decide +kernel
theorem dM_cycleAt_34 : decode cM_cycleAt 34 = .ok (.goto 13, 3) := by decide +kernel
theorem dM_cycleAt_37 : decode cM_cycleAt 37 = .ok (.iload_n 3, 1) := by decide +kernel
theorem dM_cycleAt_38 : decode cM_cycleAt 38 = .ok (.ifCond .ne 8, 3) := by decide +kernel
theorem dM_cycleAt_41 : decode cM_cycleAt 41 = .ok (.iload 4, 2) := by decide +kernel
theorem dM_cycleAt_43 : decode cM_cycleAt 43 = .ok (.goto 4, 3) := by decide +kernel
theorem dM_cycleAt_46 : decode cM_cycleAt 46 = .ok (.iload_n 3, 1) := by decide +kernel
theorem dM_cycleAt_47 : decode cM_cycleAt 47 = .ok (.istore_n 3, 1) := by decide +kernel
theorem dM_cycleAt_48 : decode cM_cycleAt 48 = .ok (.iinc 4 1, 3) := by decide +kernel
theorem dM_cycleAt_51 : decode cM_cycleAt 51 = .ok (.goto (-46), 3) := by decide +kernel
theorem dM_cycleAt_54 : decode cM_cycleAt 54 = .ok (.iload_n 3, 1) := by decide +kernel
theorem dM_cycleAt_55 : decode cM_cycleAt 55 = .ok (.ireturn, 1) := by decide +kernel
theorem dM_isOn_0 : decode cM_isOn 0 = .ok (.iconst 0, 1) := by decide +kernel
theorem dM_isOn_1 : decode cM_isOn 1 = .ok (.istore_n 3, 1) := by decide +kernel
theorem dM_isOn_2 : decode cM_isOn 2 = .ok (.iconst 0, 1) := by decide +kernel
theorem dM_isOn_3 : decode cM_isOn 3 = .ok (.istore 4, 2) := by decide +kernel
theorem dM_isOn_5 : decode cM_isOn 5 = .ok (.iload 4, 2) := by decide +kernel
theorem dM_isOn_7 : decode cM_isOn 7 = .ok (.iconst 4, 1) := by decide +kernel
theorem dM_isOn_8 : decode cM_isOn 8 = .ok (.if_icmp .ge 72, 3) := by decide +kernel
theorem dM_isOn_11 : decode cM_isOn 11 = .ok (.aload_n 0, 1) := by decide +kernel
theorem dM_isOn_12 : decode cM_isOn 12 = .ok (.iload 4, 2) := by decide +kernel
theorem dM_isOn_14 : decode cM_isOn 14 = .ok (.iload_n 2, 1) := by decide +kernel
theorem dM_isOn_15 : decode cM_isOn 15 = .ok (.invokevirtual 77, 3) := by decide +kernel
theorem dM_isOn_18 : decode cM_isOn 18 = .ok (.istore 5, 2) := by decide +kernel
theorem dM_isOn_20 : decode cM_isOn 20 = .ok (.iload 5, 2) := by decide +kernel
theorem dM_isOn_22 : decode cM_isOn 22 = .ok (.istore 6, 2) := by decide +kernel
theorem dM_isOn_24 : decode cM_isOn 24 = .ok (.iload 6, 2) := by decide +kernel
theorem dM_isOn_26 : decode cM_isOn 26 = .ok (.iload_n 2, 1) := by decide +kernel
theorem dM_isOn_27 : decode cM_isOn 27 = .ok (.if_icmp .gt 47, 3) := by decide +kernel
theorem dM_isOn_30 : decode cM_isOn 30 = .ok (.iload 5, 2) := by decide +kernel
theorem dM_isOn_32 : decode cM_isOn 32 = .ok (.ifCond .le 42, 3) := by decide +kernel
theorem dM_isOn_35 : decode cM_isOn 35 = .ok (.iload_n 3, 1) := by decide +kernel
theorem dM_isOn_36 : decode cM_isOn 36 = .ok (.ifCond .ne 26, 3) := by decide +kernel
theorem dM_isOn_39 : decode cM_isOn 39 = .ok (.aload_n 0, 1) := by decide +kernel
theorem dM_isOn_40 : decode cM_isOn 40 = .ok (.getfield 22, 3) := by decide +kernel
theorem dM_isOn_43 : decode cM_isOn 43 = .ok (.iload 6, 2) := by decide +kernel
theorem dM_isOn_45 : decode cM_isOn 45 = .ok (.iaload, 1) := by decide +kernel
theorem dM_isOn_46 : decode cM_isOn 46 = .ok (.iload 4, 2) := by decide +kernel
theorem dM_isOn_48 : decode cM_isOn 48 = .ok (.if_icmp .ne 18, 3) := by decide +kernel
theorem dM_isOn_51 : decode cM_isOn 51 = .ok (.aload_n 0, 1) := by decide +kernel
theorem dM_isOn_52 : decode cM_isOn 52 = .ok (.getfield 25, 3) := by decide +kernel
theorem dM_isOn_55 : decode cM_isOn 55 = .ok (.iload 6, 2) := by decide +kernel
theorem dM_isOn_57 : decode cM_isOn 57 = .ok (.iaload, 1) := by decide +kernel
theorem dM_isOn_58 : decode cM_isOn 58 = .ok (.iload_n 1, 1) := by decide +kernel
theorem dM_isOn_59 : decode cM_isOn 59 = .ok (.if_icmp .ne 7, 3) := by decide +kernel
theorem dM_isOn_62 : decode cM_isOn 62 = .ok (.iconst 1, 1) := by decide +kernel
theorem dM_isOn_63 : decode cM_isOn 63 = .ok (.goto 4, 3) := by decide +kernel
theorem dM_isOn_66 : decode cM_isOn 66 = .ok (.iconst 0, 1) := by decide +kernel
theorem dM_isOn_67 : decode cM_isOn 67 = .ok (.istore_n 3, 1) := by decide +kernel
theorem dM_isOn_68 : decode cM_isOn 68 = .ok (.iinc 6 1, 3) := by decide +kernel
theorem dM_isOn_71 : decode cM_isOn 71 = .ok (.goto (-47), 3) := by decide +kernel
theorem dM_isOn_74 : decode cM_isOn 74 = .ok (.iinc 4 1, 3) := by decide +kernel
theorem dM_isOn_77 : decode cM_isOn 77 = .ok (.goto (-72), 3) := by decide +kernel
theorem dM_isOn_80 : decode cM_isOn 80 = .ok (.iload_n 3, 1) := by decide +kernel
theorem dM_isOn_81 : decode cM_isOn 81 = .ok (.ireturn, 1) := by decide +kernel
theorem dM_changesOf_0 : decode cM_changesOf 0 = .ok (.aload_n 0, 1) := by decide +kernel
theorem dM_changesOf_1 : decode cM_changesOf 1 = .ok (.iload_n 1, 1) := by decide +kernel
theorem dM_changesOf_2 : decode cM_changesOf 2 = .ok (.aload_n 0, 1) := by decide +kernel
theorem dM_changesOf_3 : decode cM_changesOf 3 = .ok (.getfield 74, 3) := by decide +kernel
theorem dM_changesOf_6 : decode cM_changesOf 6 = .ok (.invokevirtual 77, 3) := by decide +kernel
theorem dM_changesOf_9 : decode cM_changesOf 9 = .ok (.istore_n 2, 1) := by decide +kernel
theorem dM_changesOf_10 : decode cM_changesOf 10 = .ok (.iconst 0, 1) := by decide +kernel
theorem dM_changesOf_11 : decode cM_changesOf 11 = .ok (.istore_n 3, 1) := by decide +kernel
theorem dM_changesOf_12 : decode cM_changesOf 12 = .ok (.iload_n 2, 1) := by decide +kernel
theorem dM_changesOf_13 : decode cM_changesOf 13 = .ok (.istore 4, 2) := by decide +kernel
theorem dM_changesOf_15 : decode cM_changesOf 15 = .ok (.iload 4, 2) := by decide +kernel
theorem dM_changesOf_17 : decode cM_changesOf 17 = .ok (.aload_n 0, 1) := by decide +kernel
theorem dM_changesOf_18 : decode cM_changesOf 18 = .ok (.getfield 74, 3) := by decide +kernel
theorem dM_changesOf_21 : decode cM_changesOf 21 = .ok (.if_icmp .gt 32, 3) := by decide +kernel
theorem dM_changesOf_24 : decode cM_changesOf 24 = .ok (.iload_n 2, 1) := by decide +kernel
theorem dM_changesOf_25 : decode cM_changesOf 25 = .ok (.ifCond .le 28, 3) := by decide +kernel
theorem dM_changesOf_28 : decode cM_changesOf 28 = .ok (.aload_n 0, 1) := by decide +kernel
theorem dM_changesOf_29 : decode cM_changesOf 29 = .ok (.getfield 22, 3) := by decide +kernel
theorem dM_changesOf_32 : decode cM_changesOf 32 = .ok (.iload 4, 2) := by decide +kernel
theorem dM_changesOf_34 : decode cM_changesOf 34 = .ok (.iaload, 1) := by decide +kernel
theorem dM_changesOf_35 : decode cM_changesOf 35 = .ok (.iload_n 1, 1) := by decide +kernel
theorem dM_changesOf_36 : decode cM_changesOf 36 = .ok (.if_icmp .ne 9, 3) := by decide +kernel
theorem dM_changesOf_39 : decode cM_changesOf 39 = .ok (.iload_n 3, 1) := by decide +kernel
theorem dM_changesOf_40 : decode cM_changesOf 40 = .ok (.iconst 1, 1) := by decide +kernel
theorem dM_changesOf_41 : decode cM_changesOf 41 = .ok (.iadd, 1) := by decide +kernel
theorem dM_changesOf_42 : decode cM_changesOf 42 = .ok (.goto 4, 3) := by decide +kernel
theorem dM_changesOf_45 : decode cM_changesOf 45 = .ok (.iload_n 3, 1) := by decide +kernel
theorem dM_changesOf_46 : decode cM_changesOf 46 = .ok (.istore_n 3, 1) := by decide +kernel
theorem dM_changesOf_47 : decode cM_changesOf 47 = .ok (.iinc 4 1, 3) := by decide +kernel
theorem dM_changesOf_50 : decode cM_changesOf 50 = .ok (.goto (-35), 3) := by decide +kernel
theorem dM_changesOf_53 : decode cM_changesOf 53 = .ok (.iload_n 3, 1) := by decide +kernel
theorem dM_changesOf_54 : decode cM_changesOf 54 = .ok (.ireturn, 1) := by decide +kernel
theorem dM_reserve_0 : decode cM_reserve 0 = .ok (.iconst 0, 1) := by decide +kernel
theorem dM_reserve_1 : decode cM_reserve 1 = .ok (.istore_n 1, 1) := by decide +kernel
theorem dM_reserve_2 : decode cM_reserve 2 = .ok (.iconst 0, 1) := by decide +kernel
theorem dM_reserve_3 : decode cM_reserve 3 = .ok (.istore_n 2, 1) := by decide +kernel
theorem dM_reserve_4 : decode cM_reserve 4 = .ok (.iload_n 2, 1) := by decide +kernel
theorem dM_reserve_5 : decode cM_reserve 5 = .ok (.iconst 4, 1) := by decide +kernel
theorem dM_reserve_6 : decode cM_reserve 6 = .ok (.if_icmp .ge 29, 3) := by decide +kernel
theorem dM_reserve_9 : decode cM_reserve 9 = .ok (.aload_n 0, 1) := by decide +kernel
theorem dM_reserve_10 : decode cM_reserve 10 = .ok (.iload_n 2, 1) := by decide +kernel
theorem dM_reserve_11 : decode cM_reserve 11 = .ok (.invokevirtual 81, 3) := by decide +kernel
theorem dM_reserve_14 : decode cM_reserve 14 = .ok (.istore_n 3, 1) := by decide +kernel
theorem dM_reserve_15 : decode cM_reserve 15 = .ok (.iload_n 3, 1) := by decide +kernel
theorem dM_reserve_16 : decode cM_reserve 16 = .ok (.ifCond .le 11, 3) := by decide +kernel
theorem dM_reserve_19 : decode cM_reserve 19 = .ok (.iload_n 1, 1) := by decide +kernel
theorem dM_reserve_20 : decode cM_reserve 20 = .ok (.iload_n 3, 1) := by decide +kernel
theorem dM_reserve_21 : decode cM_reserve 21 = .ok (.iadd, 1) := by decide +kernel
theorem dM_reserve_22 : decode cM_reserve 22 = .ok (.iconst 1, 1) := by decide +kernel
theorem dM_reserve_23 : decode cM_reserve 23 = .ok (.iadd, 1) := by decide +kernel
theorem dM_reserve_24 : decode cM_reserve 24 = .ok (.goto 4, 3) := by decide +kernel
theorem dM_reserve_27 : decode cM_reserve 27 = .ok (.iload_n 1, 1) := by decide +kernel
theorem dM_reserve_28 : decode cM_reserve 28 = .ok (.istore_n 1, 1) := by decide +kernel
theorem dM_reserve_29 : decode cM_reserve 29 = .ok (.iinc 2 1, 3) := by decide +kernel
theorem dM_reserve_32 : decode cM_reserve 32 = .ok (.goto (-28), 3) := by decide +kernel
theorem dM_reserve_35 : decode cM_reserve 35 = .ok (.iload_n 1, 1) := by decide +kernel
theorem dM_reserve_36 : decode cM_reserve 36 = .ok (.ireturn, 1) := by decide +kernel
theorem dM_room_0 : decode cM_room 0 = .ok (.bipush 8, 2) := by decide +kernel
theorem dM_room_2 : decode cM_room 2 = .ok (.aload_n 0, 1) := by decide +kernel
theorem dM_room_3 : decode cM_room 3 = .ok (.getfield 71, 3) := by decide +kernel
theorem dM_room_6 : decode cM_room 6 = .ok (.bipush 6, 2) := by decide +kernel
theorem dM_room_8 : decode cM_room 8 = .ok (.iadd, 1) := by decide +kernel
theorem dM_room_9 : decode cM_room 9 = .ok (.imul, 1) := by decide +kernel
theorem dM_room_10 : decode cM_room 10 = .ok (.istore_n 1, 1) := by decide +kernel
theorem dM_room_11 : decode cM_room 11 = .ok (.iload_n 1, 1) := by decide +kernel
theorem dM_room_12 : decode cM_room 12 = .ok (.bipush 120, 2) := by decide +kernel
theorem dM_room_14 : decode cM_room 14 = .ok (.if_icmp .ge 7, 3) := by decide +kernel
theorem dM_room_17 : decode cM_room 17 = .ok (.iload_n 1, 1) := by decide +kernel
theorem dM_room_18 : decode cM_room 18 = .ok (.goto 5, 3) := by decide +kernel
theorem dM_room_21 : decode cM_room 21 = .ok (.bipush 120, 2) := by decide +kernel
theorem dM_room_23 : decode cM_room 23 = .ok (.aload_n 0, 1) := by decide +kernel
theorem dM_room_24 : decode cM_room 24 = .ok (.getfield 74, 3) := by decide +kernel
theorem dM_room_27 : decode cM_room 27 = .ok (.isub, 1) := by decide +kernel
theorem dM_room_28 : decode cM_room 28 = .ok (.ireturn, 1) := by decide +kernel
theorem dM_note_0 : decode cM_note 0 = .ok (.iload_n 1, 1) := by decide +kernel
theorem dM_note_1 : decode cM_note 1 = .ok (.iconst 1, 1) := by decide +kernel
theorem dM_note_2 : decode cM_note 2 = .ok (.if_icmp .ne 17, 3) := by decide +kernel
theorem dM_note_5 : decode cM_note 5 = .ok (.aload_n 0, 1) := by decide +kernel
theorem dM_note_6 : decode cM_note 6 = .ok (.iload_n 3, 1) := by decide +kernel
theorem dM_note_7 : decode cM_note 7 = .ok (.iload 4, 2) := by decide +kernel
theorem dM_note_9 : decode cM_note 9 = .ok (.aload_n 0, 1) := by decide +kernel
theorem dM_note_10 : decode cM_note 10 = .ok (.getfield 74, 3) := by decide +kernel
theorem dM_note_13 : decode cM_note 13 = .ok (.invokevirtual 85, 3) := by decide +kernel
theorem dM_note_16 : decode cM_note 16 = .ok (.goto 4, 3) := by decide +kernel
theorem dM_note_19 : decode cM_note 19 = .ok (.iconst 0, 1) := by decide +kernel
theorem dM_note_20 : decode cM_note 20 = .ok (.istore 6, 2) := by decide +kernel
theorem dM_note_22 : decode cM_note 22 = .ok (.aload_n 0, 1) := by decide +kernel
theorem dM_note_23 : decode cM_note 23 = .ok (.dup, 1) := by decide +kernel
theorem dM_note_24 : decode cM_note 24 = .ok (.getfield 74, 3) := by decide +kernel
theorem dM_note_27 : decode cM_note 27 = .ok (.iconst 1, 1) := by decide +kernel
theorem dM_note_28 : decode cM_note 28 = .ok (.iadd, 1) := by decide +kernel
theorem dM_note_29 : decode cM_note 29 = .ok (.putfield 74, 3) := by decide +kernel
theorem dM_note_32 : decode cM_note 32 = .ok (.aload_n 0, 1) := by decide +kernel
theorem dM_note_33 : decode cM_note 33 = .ok (.getfield 19, 3) := by decide +kernel
theorem dM_note_36 : decode cM_note 36 = .ok (.aload_n 0, 1) := by decide +kernel
theorem dM_note_37 : decode cM_note 37 = .ok (.getfield 74, 3) := by decide +kernel
theorem dM_note_40 : decode cM_note 40 = .ok (.iload_n 1, 1) := by decide +kernel
theorem dM_note_41 : decode cM_note 41 = .ok (.iastore, 1) := by decide +kernel
theorem dM_note_42 : decode cM_note 42 = .ok (.aload_n 0, 1) := by decide +kernel
theorem dM_note_43 : decode cM_note 43 = .ok (.getfield 22, 3) := by decide +kernel
theorem dM_note_46 : decode cM_note 46 = .ok (.aload_n 0, 1) := by decide +kernel
theorem dM_note_47 : decode cM_note 47 = .ok (.getfield 74, 3) := by decide +kernel
theorem dM_note_50 : decode cM_note 50 = .ok (.iload_n 2, 1) := by decide +kernel
theorem dM_note_51 : decode cM_note 51 = .ok (.iastore, 1) := by decide +kernel
theorem dM_note_52 : decode cM_note 52 = .ok (.aload_n 0, 1) := by decide +kernel
theorem dM_note_53 : decode cM_note 53 = .ok (.getfield 25, 3) := by decide +kernel
theorem dM_note_56 : decode cM_note 56 = .ok (.aload_n 0, 1) := by decide +kernel
theorem dM_note_57 : decode cM_note 57 = .ok (.getfield 74, 3) := by decide +kernel
theorem dM_note_60 : decode cM_note 60 = .ok (.iload_n 3, 1) := by decide +kernel
theorem dM_note_61 : decode cM_note 61 = .ok (.iastore, 1) := by decide +kernel
theorem dM_note_62 : decode cM_note 62 = .ok (.aload_n 0, 1) := by decide +kernel
theorem dM_note_63 : decode cM_note 63 = .ok (.getfield 28, 3) := by decide +kernel
theorem dM_note_66 : decode cM_note 66 = .ok (.aload_n 0, 1) := by decide +kernel
theorem dM_note_67 : decode cM_note 67 = .ok (.getfield 74, 3) := by decide +kernel
theorem dM_note_70 : decode cM_note 70 = .ok (.iload 4, 2) := by decide +kernel
theorem dM_note_72 : decode cM_note 72 = .ok (.iastore, 1) := by decide +kernel
theorem dM_note_73 : decode cM_note 73 = .ok (.aload_n 0, 1) := by decide +kernel
theorem dM_note_74 : decode cM_note 74 = .ok (.getfield 31, 3) := by decide +kernel
theorem dM_note_77 : decode cM_note 77 = .ok (.aload_n 0, 1) := by decide +kernel
theorem dM_note_78 : decode cM_note 78 = .ok (.getfield 74, 3) := by decide +kernel
theorem dM_note_81 : decode cM_note 81 = .ok (.iload 6, 2) := by decide +kernel
theorem dM_note_83 : decode cM_note 83 = .ok (.iastore, 1) := by decide +kernel
theorem dM_note_84 : decode cM_note 84 = .ok (.aload_n 0, 1) := by decide +kernel
theorem dM_note_85 : decode cM_note 85 = .ok (.getfield 34, 3) := by decide +kernel
theorem dM_note_88 : decode cM_note 88 = .ok (.aload_n 0, 1) := by decide +kernel
theorem dM_note_89 : decode cM_note 89 = .ok (.getfield 74, 3) := by decide +kernel
theorem dM_note_92 : decode cM_note 92 = .ok (.iload 5, 2) := by decide +kernel
theorem dM_note_94 : decode cM_note 94 = .ok (.iastore, 1) := by decide +kernel
theorem dM_note_95 : decode cM_note 95 = .ok (.return_, 1) := by decide +kernel
theorem dM_landFirst_0 : decode cM_landFirst 0 = .ok (.aload_n 0, 1) := by decide +kernel
theorem dM_landFirst_1 : decode cM_landFirst 1 = .ok (.getfield 40, 3) := by decide +kernel
theorem dM_landFirst_4 : decode cM_landFirst 4 = .ok (.iconst 0, 1) := by decide +kernel
theorem dM_landFirst_5 : decode cM_landFirst 5 = .ok (.iaload, 1) := by decide +kernel
theorem dM_landFirst_6 : decode cM_landFirst 6 = .ok (.istore_n 1, 1) := by decide +kernel
theorem dM_landFirst_7 : decode cM_landFirst 7 = .ok (.aload_n 0, 1) := by decide +kernel
theorem dM_landFirst_8 : decode cM_landFirst 8 = .ok (.getfield 37, 3) := by decide +kernel
theorem dM_landFirst_11 : decode cM_landFirst 11 = .ok (.bipush 8, 2) := by decide +kernel
theorem dM_landFirst_13 : decode cM_landFirst 13 = .ok (.aload_n 0, 1) := by decide +kernel
theorem dM_landFirst_14 : decode cM_landFirst 14 = .ok (.getfield 25, 3) := by decide +kernel
theorem dM_landFirst_17 : decode cM_landFirst 17 = .ok (.iload_n 1, 1) := by decide +kernel
theorem dM_landFirst_18 : decode cM_landFirst 18 = .ok (.iaload, 1) := by decide +kernel
theorem dM_landFirst_19 : decode cM_landFirst 19 = .ok (.imul, 1) := by decide +kernel
theorem dM_landFirst_20 : decode cM_landFirst 20 = .ok (.aload_n 0, 1) := by decide +kernel
theorem dM_landFirst_21 : decode cM_landFirst 21 = .ok (.getfield 28, 3) := by decide +kernel
theorem dM_landFirst_24 : decode cM_landFirst 24 = .ok (.iload_n 1, 1) := by decide +kernel
theorem dM_landFirst_25 : decode cM_landFirst 25 = .ok (.iaload, 1) := by decide +kernel
theorem dM_landFirst_26 : decode cM_landFirst 26 = .ok (.iadd, 1) := by decide +kernel
theorem dM_landFirst_27 : decode cM_landFirst 27 = .ok (.aload_n 0, 1) := by decide +kernel
theorem dM_landFirst_28 : decode cM_landFirst 28 = .ok (.getfield 34, 3) := by decide +kernel
theorem dM_landFirst_31 : decode cM_landFirst 31 = .ok (.iload_n 1, 1) := by decide +kernel
theorem dM_landFirst_32 : decode cM_landFirst 32 = .ok (.iaload, 1) := by decide +kernel
theorem dM_landFirst_33 : decode cM_landFirst 33 = .ok (.iastore, 1) := by decide +kernel
theorem dM_landFirst_34 : decode cM_landFirst 34 = .ok (.aload_n 0, 1) := by decide +kernel
theorem dM_landFirst_35 : decode cM_landFirst 35 = .ok (.dup, 1) := by decide +kernel
theorem dM_landFirst_36 : decode cM_landFirst 36 = .ok (.getfield 89, 3) := by decide +kernel
theorem dM_landFirst_39 : decode cM_landFirst 39 = .ok (.iconst 1, 1) := by decide +kernel
theorem dM_landFirst_40 : decode cM_landFirst 40 = .ok (.isub, 1) := by decide +kernel
theorem dM_landFirst_41 : decode cM_landFirst 41 = .ok (.putfield 89, 3) := by decide +kernel
theorem dM_landFirst_44 : decode cM_landFirst 44 = .ok (.iconst 0, 1) := by decide +kernel
theorem dM_landFirst_45 : decode cM_landFirst 45 = .ok (.istore_n 2, 1) := by decide +kernel
theorem dM_landFirst_46 : decode cM_landFirst 46 = .ok (.iload_n 2, 1) := by decide +kernel
theorem dM_landFirst_47 : decode cM_landFirst 47 = .ok (.aload_n 0, 1) := by decide +kernel
theorem dM_landFirst_48 : decode cM_landFirst 48 = .ok (.getfield 89, 3) := by decide +kernel
theorem dM_landFirst_51 : decode cM_landFirst 51 = .ok (.if_icmp .ge 23, 3) := by decide +kernel
theorem dM_landFirst_54 : decode cM_landFirst 54 = .ok (.aload_n 0, 1) := by decide +kernel
theorem dM_landFirst_55 : decode cM_landFirst 55 = .ok (.getfield 40, 3) := by decide +kernel
theorem dM_landFirst_58 : decode cM_landFirst 58 = .ok (.iload_n 2, 1) := by decide +kernel
theorem dM_landFirst_59 : decode cM_landFirst 59 = .ok (.aload_n 0, 1) := by decide +kernel
theorem dM_landFirst_60 : decode cM_landFirst 60 = .ok (.getfield 40, 3) := by decide +kernel
theorem dM_landFirst_63 : decode cM_landFirst 63 = .ok (.iload_n 2, 1) := by decide +kernel
theorem dM_landFirst_64 : decode cM_landFirst 64 = .ok (.iconst 1, 1) := by decide +kernel
theorem dM_landFirst_65 : decode cM_landFirst 65 = .ok (.iadd, 1) := by decide +kernel
theorem dM_landFirst_66 : decode cM_landFirst 66 = .ok (.iaload, 1) := by decide +kernel
theorem dM_landFirst_67 : decode cM_landFirst 67 = .ok (.iastore, 1) := by decide +kernel
theorem dM_landFirst_68 : decode cM_landFirst 68 = .ok (.iinc 2 1, 3) := by decide +kernel
theorem dM_landFirst_71 : decode cM_landFirst 71 = .ok (.goto (-25), 3) := by decide +kernel
theorem dM_landFirst_74 : decode cM_landFirst 74 = .ok (.return_, 1) := by decide +kernel
theorem dM_put_0 : decode cM_put 0 = .ok (.aload_n 0, 1) := by decide +kernel
theorem dM_put_1 : decode cM_put 1 = .ok (.iconst 1, 1) := by decide +kernel
theorem dM_put_2 : decode cM_put 2 = .ok (.iload_n 1, 1) := by decide +kernel
theorem dM_put_3 : decode cM_put 3 = .ok (.iload_n 2, 1) := by decide +kernel
theorem dM_put_4 : decode cM_put 4 = .ok (.iload_n 3, 1) := by decide +kernel
theorem dM_put_5 : decode cM_put 5 = .ok (.iload 4, 2) := by decide +kernel
theorem dM_put_7 : decode cM_put 7 = .ok (.invokevirtual 92, 3) := by decide +kernel
theorem dM_put_10 : decode cM_put 10 = .ok (.aload_n 0, 1) := by decide +kernel
theorem dM_put_11 : decode cM_put 11 = .ok (.getfield 89, 3) := by decide +kernel
theorem dM_put_14 : decode cM_put 14 = .ok (.bipush 24, 2) := by decide +kernel
theorem dM_put_16 : decode cM_put 16 = .ok (.if_icmp .ne 7, 3) := by decide +kernel
theorem dM_put_19 : decode cM_put 19 = .ok (.aload_n 0, 1) := by decide +kernel
theorem dM_put_20 : decode cM_put 20 = .ok (.invokevirtual 96, 3) := by decide +kernel
theorem dM_put_23 : decode cM_put 23 = .ok (.aload_n 0, 1) := by decide +kernel
theorem dM_put_24 : decode cM_put 24 = .ok (.getfield 40, 3) := by decide +kernel
theorem dM_put_27 : decode cM_put 27 = .ok (.aload_n 0, 1) := by decide +kernel
theorem dM_put_28 : decode cM_put 28 = .ok (.getfield 89, 3) := by decide +kernel
theorem dM_put_31 : decode cM_put 31 = .ok (.aload_n 0, 1) := by decide +kernel
theorem dM_put_32 : decode cM_put 32 = .ok (.getfield 74, 3) := by decide +kernel
theorem dM_put_35 : decode cM_put 35 = .ok (.iastore, 1) := by decide +kernel
theorem dM_put_36 : decode cM_put 36 = .ok (.aload_n 0, 1) := by decide +kernel
theorem dM_put_37 : decode cM_put 37 = .ok (.dup, 1) := by decide +kernel
theorem dM_put_38 : decode cM_put 38 = .ok (.getfield 89, 3) := by decide +kernel
theorem dM_put_41 : decode cM_put 41 = .ok (.iconst 1, 1) := by decide +kernel
theorem dM_put_42 : decode cM_put 42 = .ok (.iadd, 1) := by decide +kernel
theorem dM_put_43 : decode cM_put 43 = .ok (.putfield 89, 3) := by decide +kernel
theorem dM_put_46 : decode cM_put 46 = .ok (.return_, 1) := by decide +kernel
theorem dM_undo_0 : decode cM_undo 0 = .ok (.aload_n 0, 1) := by decide +kernel
theorem dM_undo_1 : decode cM_undo 1 = .ok (.iload_n 1, 1) := by decide +kernel
theorem dM_undo_2 : decode cM_undo 2 = .ok (.aload_n 0, 1) := by decide +kernel
theorem dM_undo_3 : decode cM_undo 3 = .ok (.getfield 74, 3) := by decide +kernel
theorem dM_undo_6 : decode cM_undo 6 = .ok (.invokevirtual 77, 3) := by decide +kernel
theorem dM_undo_9 : decode cM_undo 9 = .ok (.istore_n 2, 1) := by decide +kernel
theorem dM_undo_10 : decode cM_undo 10 = .ok (.aload_n 0, 1) := by decide +kernel
theorem dM_undo_11 : decode cM_undo 11 = .ok (.getfield 74, 3) := by decide +kernel
theorem dM_undo_14 : decode cM_undo 14 = .ok (.istore_n 3, 1) := by decide +kernel
theorem dM_undo_15 : decode cM_undo 15 = .ok (.iload_n 3, 1) := by decide +kernel
theorem dM_undo_16 : decode cM_undo 16 = .ok (.iload_n 2, 1) := by decide +kernel
theorem dM_undo_17 : decode cM_undo 17 = .ok (.if_icmp .lt 42, 3) := by decide +kernel
theorem dM_undo_20 : decode cM_undo 20 = .ok (.aload_n 0, 1) := by decide +kernel
theorem dM_undo_21 : decode cM_undo 21 = .ok (.getfield 22, 3) := by decide +kernel
theorem dM_undo_24 : decode cM_undo 24 = .ok (.iload_n 3, 1) := by decide +kernel
theorem dM_undo_25 : decode cM_undo 25 = .ok (.iaload, 1) := by decide +kernel
theorem dM_undo_26 : decode cM_undo 26 = .ok (.iload_n 1, 1) := by decide +kernel
theorem dM_undo_27 : decode cM_undo 27 = .ok (.if_icmp .ne 26, 3) := by decide +kernel
theorem dM_undo_30 : decode cM_undo 30 = .ok (.aload_n 0, 1) := by decide +kernel
theorem dM_undo_31 : decode cM_undo 31 = .ok (.iload_n 1, 1) := by decide +kernel
theorem dM_undo_32 : decode cM_undo 32 = .ok (.aload_n 0, 1) := by decide +kernel
theorem dM_undo_33 : decode cM_undo 33 = .ok (.getfield 25, 3) := by decide +kernel
theorem dM_undo_36 : decode cM_undo 36 = .ok (.iload_n 3, 1) := by decide +kernel
theorem dM_undo_37 : decode cM_undo 37 = .ok (.iaload, 1) := by decide +kernel
theorem dM_undo_38 : decode cM_undo 38 = .ok (.aload_n 0, 1) := by decide +kernel
theorem dM_undo_39 : decode cM_undo 39 = .ok (.getfield 28, 3) := by decide +kernel
theorem dM_undo_42 : decode cM_undo 42 = .ok (.iload_n 3, 1) := by decide +kernel
theorem dM_undo_43 : decode cM_undo 43 = .ok (.iaload, 1) := by decide +kernel
theorem dM_undo_44 : decode cM_undo 44 = .ok (.aload_n 0, 1) := by decide +kernel
theorem dM_undo_45 : decode cM_undo 45 = .ok (.getfield 31, 3) := by decide +kernel
theorem dM_undo_48 : decode cM_undo 48 = .ok (.iload_n 3, 1) := by decide +kernel
theorem dM_undo_49 : decode cM_undo 49 = .ok (.iaload, 1) := by decide +kernel
theorem dM_undo_50 : decode cM_undo 50 = .ok (.invokevirtual 99, 3) := by decide +kernel
theorem dM_undo_53 : decode cM_undo 53 = .ok (.iinc 3 (-1), 3) := by decide +kernel
theorem dM_undo_56 : decode cM_undo 56 = .ok (.goto (-41), 3) := by decide +kernel
theorem dM_undo_59 : decode cM_undo 59 = .ok (.aload_n 0, 1) := by decide +kernel
theorem dM_undo_60 : decode cM_undo 60 = .ok (.iconst 3, 1) := by decide +kernel
theorem dM_undo_61 : decode cM_undo 61 = .ok (.iload_n 1, 1) := by decide +kernel
theorem dM_undo_62 : decode cM_undo 62 = .ok (.iconst 0, 1) := by decide +kernel
theorem dM_undo_63 : decode cM_undo 63 = .ok (.iconst 0, 1) := by decide +kernel
theorem dM_undo_64 : decode cM_undo 64 = .ok (.iconst 0, 1) := by decide +kernel
theorem dM_undo_65 : decode cM_undo 65 = .ok (.invokevirtual 92, 3) := by decide +kernel
theorem dM_undo_68 : decode cM_undo 68 = .ok (.return_, 1) := by decide +kernel
theorem dM_file_0 : decode cM_file 0 = .ok (.aload_n 0, 1) := by decide +kernel
theorem dM_file_1 : decode cM_file 1 = .ok (.iload_n 1, 1) := by decide +kernel
theorem dM_file_2 : decode cM_file 2 = .ok (.iconst 1, 1) := by decide +kernel
theorem dM_file_3 : decode cM_file 3 = .ok (.bipush 8, 2) := by decide +kernel
theorem dM_file_5 : decode cM_file 5 = .ok (.invokestatic 63, 3) := by decide +kernel
theorem dM_file_8 : decode cM_file 8 = .ok (.ifCond .ne 7, 3) := by decide +kernel
theorem dM_file_11 : decode cM_file 11 = .ok (.iconst 1, 1) := by decide +kernel
theorem dM_file_12 : decode cM_file 12 = .ok (.goto 23, 3) := by decide +kernel
theorem dM_file_15 : decode cM_file 15 = .ok (.aload_n 0, 1) := by decide +kernel
theorem dM_file_16 : decode cM_file 16 = .ok (.getfield 103, 3) := by decide +kernel
theorem dM_file_19 : decode cM_file 19 = .ok (.ifCond .ne 11, 3) := by decide +kernel
theorem dM_file_22 : decode cM_file 22 = .ok (.aload_n 0, 1) := by decide +kernel
theorem dM_file_23 : decode cM_file 23 = .ok (.getfield 60, 3) := by decide +kernel
theorem dM_file_26 : decode cM_file 26 = .ok (.iconst 3, 1) := by decide +kernel
theorem dM_file_27 : decode cM_file 27 = .ok (.if_icmp .ne 7, 3) := by decide +kernel
theorem dM_file_30 : decode cM_file 30 = .ok (.iconst 2, 1) := by decide +kernel
theorem dM_file_31 : decode cM_file 31 = .ok (.goto 4, 3) := by decide +kernel
theorem dM_file_34 : decode cM_file 34 = .ok (.iconst 0, 1) := by decide +kernel
theorem dM_file_35 : decode cM_file 35 = .ok (.putfield 56, 3) := by decide +kernel
theorem dM_file_38 : decode cM_file 38 = .ok (.aload_n 0, 1) := by decide +kernel
theorem dM_file_39 : decode cM_file 39 = .ok (.getfield 56, 3) := by decide +kernel
theorem dM_file_42 : decode cM_file 42 = .ok (.ifCond .le 5, 3) := by decide +kernel
theorem dM_file_45 : decode cM_file 45 = .ok (.iconst 0, 1) := by decide +kernel
theorem dM_file_46 : decode cM_file 46 = .ok (.ireturn, 1) := by decide +kernel
theorem dM_file_47 : decode cM_file 47 = .ok (.aload_n 0, 1) := by decide +kernel
theorem dM_file_48 : decode cM_file 48 = .ok (.getfield 7, 3) := by decide +kernel
theorem dM_file_51 : decode cM_file 51 = .ok (.aload_n 0, 1) := by decide +kernel
theorem dM_file_52 : decode cM_file 52 = .ok (.getfield 60, 3) := by decide +kernel
theorem dM_file_55 : decode cM_file 55 = .ok (.iload_n 1, 1) := by decide +kernel
theorem dM_file_56 : decode cM_file 56 = .ok (.iastore, 1) := by decide +kernel
theorem dM_file_57 : decode cM_file 57 = .ok (.aload_n 0, 1) := by decide +kernel
theorem dM_file_58 : decode cM_file 58 = .ok (.getfield 13, 3) := by decide +kernel
theorem dM_file_61 : decode cM_file 61 = .ok (.aload_n 0, 1) := by decide +kernel
theorem dM_file_62 : decode cM_file 62 = .ok (.getfield 60, 3) := by decide +kernel
theorem dM_file_65 : decode cM_file 65 = .ok (.iconst (-1), 1) := by decide +kernel
theorem dM_file_66 : decode cM_file 66 = .ok (.iastore, 1) := by decide +kernel
theorem dM_file_67 : decode cM_file 67 = .ok (.aload_n 0, 1) := by decide +kernel
theorem dM_file_68 : decode cM_file 68 = .ok (.dup, 1) := by decide +kernel
theorem dM_file_69 : decode cM_file 69 = .ok (.getfield 60, 3) := by decide +kernel
theorem dM_file_72 : decode cM_file 72 = .ok (.iconst 1, 1) := by decide +kernel
theorem dM_file_73 : decode cM_file 73 = .ok (.iadd, 1) := by decide +kernel
theorem dM_file_74 : decode cM_file 74 = .ok (.putfield 60, 3) := by decide +kernel
theorem dM_file_77 : decode cM_file 77 = .ok (.aload_n 0, 1) := by decide +kernel
theorem dM_file_78 : decode cM_file 78 = .ok (.getfield 60, 3) := by decide +kernel
theorem dM_file_81 : decode cM_file 81 = .ok (.iconst 1, 1) := by decide +kernel
theorem dM_file_82 : decode cM_file 82 = .ok (.isub, 1) := by decide +kernel
theorem dM_file_83 : decode cM_file 83 = .ok (.ireturn, 1) := by decide +kernel
theorem dM_isLocked_0 : decode cM_isLocked 0 = .ok (.iconst 0, 1) := by decide +kernel
theorem dM_isLocked_1 : decode cM_isLocked 1 = .ok (.istore 4, 2) := by decide +kernel
theorem dM_isLocked_3 : decode cM_isLocked 3 = .ok (.iconst 0, 1) := by decide +kernel
theorem dM_isLocked_4 : decode cM_isLocked 4 = .ok (.istore 5, 2) := by decide +kernel
theorem dM_isLocked_6 : decode cM_isLocked 6 = .ok (.iload 5, 2) := by decide +kernel
theorem dM_isLocked_8 : decode cM_isLocked 8 = .ok (.iconst 4, 1) := by decide +kernel
theorem dM_isLocked_9 : decode cM_isLocked 9 = .ok (.if_icmp .ge 97, 3) := by decide +kernel
theorem dM_isLocked_12 : decode cM_isLocked 12 = .ok (.aload_n 0, 1) := by decide +kernel
theorem dM_isLocked_13 : decode cM_isLocked 13 = .ok (.iload 5, 2) := by decide +kernel
theorem dM_isLocked_15 : decode cM_isLocked 15 = .ok (.aload_n 0, 1) := by decide +kernel
theorem dM_isLocked_16 : decode cM_isLocked 16 = .ok (.getfield 74, 3) := by decide +kernel
theorem dM_isLocked_19 : decode cM_isLocked 19 = .ok (.invokevirtual 77, 3) := by decide +kernel
theorem dM_isLocked_22 : decode cM_isLocked 22 = .ok (.istore 6, 2) := by decide +kernel
theorem dM_isLocked_24 : decode cM_isLocked 24 = .ok (.iload 6, 2) := by decide +kernel
theorem dM_isLocked_26 : decode cM_isLocked 26 = .ok (.istore 7, 2) := by decide +kernel
theorem dM_isLocked_28 : decode cM_isLocked 28 = .ok (.iload 7, 2) := by decide +kernel
theorem dM_isLocked_30 : decode cM_isLocked 30 = .ok (.aload_n 0, 1) := by decide +kernel
theorem dM_isLocked_31 : decode cM_isLocked 31 = .ok (.getfield 74, 3) := by decide +kernel
theorem dM_isLocked_34 : decode cM_isLocked 34 = .ok (.if_icmp .gt 66, 3) := by decide +kernel
theorem dM_isLocked_37 : decode cM_isLocked 37 = .ok (.iload 6, 2) := by decide +kernel
theorem dM_isLocked_39 : decode cM_isLocked 39 = .ok (.ifCond .le 61, 3) := by decide +kernel
theorem dM_isLocked_42 : decode cM_isLocked 42 = .ok (.iload 5, 2) := by decide +kernel
theorem dM_isLocked_44 : decode cM_isLocked 44 = .ok (.iload_n 1, 1) := by decide +kernel
theorem dM_isLocked_45 : decode cM_isLocked 45 = .ok (.if_icmp .eq 55, 3) := by decide +kernel
theorem dM_isLocked_48 : decode cM_isLocked 48 = .ok (.iload 4, 2) := by decide +kernel
theorem dM_isLocked_50 : decode cM_isLocked 50 = .ok (.ifCond .ne 37, 3) := by decide +kernel
theorem dM_isLocked_53 : decode cM_isLocked 53 = .ok (.aload_n 0, 1) := by decide +kernel
theorem dM_isLocked_54 : decode cM_isLocked 54 = .ok (.getfield 22, 3) := by decide +kernel
theorem dM_isLocked_57 : decode cM_isLocked 57 = .ok (.iload 7, 2) := by decide +kernel
theorem dM_isLocked_59 : decode cM_isLocked 59 = .ok (.iaload, 1) := by decide +kernel
theorem dM_isLocked_60 : decode cM_isLocked 60 = .ok (.iload 5, 2) := by decide +kernel
theorem dM_isLocked_62 : decode cM_isLocked 62 = .ok (.if_icmp .ne 29, 3) := by decide +kernel
theorem dM_isLocked_65 : decode cM_isLocked 65 = .ok (.aload_n 0, 1) := by decide +kernel
theorem dM_isLocked_66 : decode cM_isLocked 66 = .ok (.getfield 25, 3) := by decide +kernel
theorem dM_isLocked_69 : decode cM_isLocked 69 = .ok (.iload 7, 2) := by decide +kernel
theorem dM_isLocked_71 : decode cM_isLocked 71 = .ok (.iaload, 1) := by decide +kernel
theorem dM_isLocked_72 : decode cM_isLocked 72 = .ok (.iload_n 2, 1) := by decide +kernel
theorem dM_isLocked_73 : decode cM_isLocked 73 = .ok (.if_icmp .ne 18, 3) := by decide +kernel
theorem dM_isLocked_76 : decode cM_isLocked 76 = .ok (.aload_n 0, 1) := by decide +kernel
theorem dM_isLocked_77 : decode cM_isLocked 77 = .ok (.getfield 28, 3) := by decide +kernel
theorem dM_isLocked_80 : decode cM_isLocked 80 = .ok (.iload 7, 2) := by decide +kernel
theorem dM_isLocked_82 : decode cM_isLocked 82 = .ok (.iaload, 1) := by decide +kernel
theorem dM_isLocked_83 : decode cM_isLocked 83 = .ok (.iload_n 3, 1) := by decide +kernel
theorem dM_isLocked_84 : decode cM_isLocked 84 = .ok (.if_icmp .ne 7, 3) := by decide +kernel
theorem dM_isLocked_87 : decode cM_isLocked 87 = .ok (.iconst 1, 1) := by decide +kernel
theorem dM_isLocked_88 : decode cM_isLocked 88 = .ok (.goto 4, 3) := by decide +kernel
theorem dM_isLocked_91 : decode cM_isLocked 91 = .ok (.iconst 0, 1) := by decide +kernel
theorem dM_isLocked_92 : decode cM_isLocked 92 = .ok (.istore 4, 2) := by decide +kernel
theorem dM_isLocked_94 : decode cM_isLocked 94 = .ok (.iinc 7 1, 3) := by decide +kernel
theorem dM_isLocked_97 : decode cM_isLocked 97 = .ok (.goto (-69), 3) := by decide +kernel
theorem dM_isLocked_100 : decode cM_isLocked 100 = .ok (.iinc 5 1, 3) := by decide +kernel
theorem dM_isLocked_103 : decode cM_isLocked 103 = .ok (.goto (-97), 3) := by decide +kernel
theorem dM_isLocked_106 : decode cM_isLocked 106 = .ok (.iload 4, 2) := by decide +kernel
theorem dM_isLocked_108 : decode cM_isLocked 108 = .ok (.ireturn, 1) := by decide +kernel
theorem dM_change_0 : decode cM_change 0 = .ok (.aload_n 0, 1) := by decide +kernel
theorem dM_change_1 : decode cM_change 1 = .ok (.iload_n 1, 1) := by decide +kernel
theorem dM_change_2 : decode cM_change 2 = .ok (.iconst 0, 1) := by decide +kernel
theorem dM_change_3 : decode cM_change 3 = .ok (.iconst 2, 1) := by decide +kernel
theorem dM_change_4 : decode cM_change 4 = .ok (.invokestatic 63, 3) := by decide +kernel
theorem dM_change_7 : decode cM_change 7 = .ok (.ifCond .eq 16, 3) := by decide +kernel
theorem dM_change_10 : decode cM_change 10 = .ok (.aload_n 0, 1) := by decide +kernel
theorem dM_change_11 : decode cM_change 11 = .ok (.iload_n 2, 1) := by decide +kernel
theorem dM_change_12 : decode cM_change 12 = .ok (.iload_n 3, 1) := by decide +kernel
theorem dM_change_13 : decode cM_change 13 = .ok (.invokevirtual 107, 3) := by decide +kernel
theorem dM_change_16 : decode cM_change 16 = .ok (.ifCond .eq 7, 3) := by decide +kernel
theorem dM_change_19 : decode cM_change 19 = .ok (.iconst 0, 1) := by decide +kernel
theorem dM_change_20 : decode cM_change 20 = .ok (.goto 4, 3) := by decide +kernel
theorem dM_change_23 : decode cM_change 23 = .ok (.iconst 1, 1) := by decide +kernel
theorem dM_change_24 : decode cM_change 24 = .ok (.putfield 56, 3) := by decide +kernel
theorem dM_change_27 : decode cM_change 27 = .ok (.aload_n 0, 1) := by decide +kernel
theorem dM_change_28 : decode cM_change 28 = .ok (.getfield 56, 3) := by decide +kernel
theorem dM_change_31 : decode cM_change 31 = .ok (.ifCond .le 5, 3) := by decide +kernel
theorem dM_change_34 : decode cM_change 34 = .ok (.iconst 0, 1) := by decide +kernel
theorem dM_change_35 : decode cM_change 35 = .ok (.ireturn, 1) := by decide +kernel
theorem dM_change_36 : decode cM_change 36 = .ok (.aload_n 0, 1) := by decide +kernel
theorem dM_change_37 : decode cM_change 37 = .ok (.invokevirtual 111, 3) := by decide +kernel
theorem dM_change_40 : decode cM_change 40 = .ok (.aload_n 0, 1) := by decide +kernel
theorem dM_change_41 : decode cM_change 41 = .ok (.iload_n 1, 1) := by decide +kernel
theorem dM_change_42 : decode cM_change 42 = .ok (.invokevirtual 81, 3) := by decide +kernel
theorem dM_change_45 : decode cM_change 45 = .ok (.ifCond .le 7, 3) := by decide +kernel
theorem dM_change_48 : decode cM_change 48 = .ok (.iconst 1, 1) := by decide +kernel
theorem dM_change_49 : decode cM_change 49 = .ok (.goto 4, 3) := by decide +kernel
theorem dM_change_52 : decode cM_change 52 = .ok (.iconst 2, 1) := by decide +kernel
theorem dM_change_53 : decode cM_change 53 = .ok (.iadd, 1) := by decide +kernel
theorem dM_change_54 : decode cM_change 54 = .ok (.istore 5, 2) := by decide +kernel
theorem dM_change_56 : decode cM_change 56 = .ok (.aload_n 0, 1) := by decide +kernel
theorem dM_change_57 : decode cM_change 57 = .ok (.getfield 103, 3) := by decide +kernel
theorem dM_change_60 : decode cM_change 60 = .ok (.ifCond .ne 24, 3) := by decide +kernel
theorem dM_change_63 : decode cM_change 63 = .ok (.aload_n 0, 1) := by decide +kernel
theorem dM_change_64 : decode cM_change 64 = .ok (.iload_n 1, 1) := by decide +kernel
theorem dM_change_65 : decode cM_change 65 = .ok (.iload_n 2, 1) := by decide +kernel
theorem dM_change_66 : decode cM_change 66 = .ok (.iload_n 3, 1) := by decide +kernel
theorem dM_change_67 : decode cM_change 67 = .ok (.invokevirtual 115, 3) := by decide +kernel
theorem dM_change_70 : decode cM_change 70 = .ok (.ifCond .ne 14, 3) := by decide +kernel
theorem dM_change_73 : decode cM_change 73 = .ok (.aload_n 0, 1) := by decide +kernel
theorem dM_change_74 : decode cM_change 74 = .ok (.invokevirtual 118, 3) := by decide +kernel
theorem dM_change_77 : decode cM_change 77 = .ok (.iconst 1, 1) := by decide +kernel
theorem dM_change_78 : decode cM_change 78 = .ok (.isub, 1) := by decide +kernel
theorem dM_change_79 : decode cM_change 79 = .ok (.iload 5, 2) := by decide +kernel
theorem dM_change_81 : decode cM_change 81 = .ok (.if_icmp .ge 9, 3) := by decide +kernel
theorem dM_change_84 : decode cM_change 84 = .ok (.aload_n 0, 1) := by decide +kernel
theorem dM_change_85 : decode cM_change 85 = .ok (.iconst 2, 1) := by decide +kernel
theorem dM_change_86 : decode cM_change 86 = .ok (.invokevirtual 121, 3) := by decide +kernel
theorem dM_change_89 : decode cM_change 89 = .ok (.ireturn, 1) := by decide +kernel
theorem dM_change_90 : decode cM_change 90 = .ok (.aload_n 0, 1) := by decide +kernel
theorem dM_change_91 : decode cM_change 91 = .ok (.getfield 13, 3) := by decide +kernel
theorem dM_change_94 : decode cM_change 94 = .ok (.iload_n 2, 1) := by decide +kernel
theorem dM_change_95 : decode cM_change 95 = .ok (.iconst (-1), 1) := by decide +kernel
theorem dM_change_96 : decode cM_change 96 = .ok (.iastore, 1) := by decide +kernel
theorem dM_change_97 : decode cM_change 97 = .ok (.aload_n 0, 1) := by decide +kernel
theorem dM_change_98 : decode cM_change 98 = .ok (.iload_n 1, 1) := by decide +kernel
theorem dM_change_99 : decode cM_change 99 = .ok (.iload_n 2, 1) := by decide +kernel
theorem dM_change_100 : decode cM_change 100 = .ok (.iload_n 3, 1) := by decide +kernel
theorem dM_change_101 : decode cM_change 101 = .ok (.iload 4, 2) := by decide +kernel
theorem dM_change_103 : decode cM_change 103 = .ok (.invokevirtual 99, 3) := by decide +kernel
theorem dM_change_106 : decode cM_change 106 = .ok (.aload_n 0, 1) := by decide +kernel
theorem dM_change_107 : decode cM_change 107 = .ok (.getfield 74, 3) := by decide +kernel
theorem dM_change_110 : decode cM_change 110 = .ok (.ireturn, 1) := by decide +kernel
theorem dM_get_0 : decode cM_get 0 = .ok (.aload_n 0, 1) := by decide +kernel
theorem dM_get_1 : decode cM_get 1 = .ok (.iconst 0, 1) := by decide +kernel
theorem dM_get_2 : decode cM_get 2 = .ok (.putfield 56, 3) := by decide +kernel
theorem dM_get_5 : decode cM_get 5 = .ok (.aload_n 0, 1) := by decide +kernel
theorem dM_get_6 : decode cM_get 6 = .ok (.getfield 103, 3) := by decide +kernel
theorem dM_get_9 : decode cM_get 9 = .ok (.ifCond .ne 12, 3) := by decide +kernel
theorem dM_get_12 : decode cM_get 12 = .ok (.aload_n 0, 1) := by decide +kernel
theorem dM_get_13 : decode cM_get 13 = .ok (.iload_n 1, 1) := by decide +kernel
theorem dM_get_14 : decode cM_get 14 = .ok (.iload_n 2, 1) := by decide +kernel
theorem dM_get_15 : decode cM_get 15 = .ok (.invokevirtual 107, 3) := by decide +kernel
theorem dM_get_18 : decode cM_get 18 = .ok (.ifCond .ne 9, 3) := by decide +kernel
theorem dM_get_21 : decode cM_get 21 = .ok (.ldc2_w 124, 3) := by decide +kernel
theorem dM_get_24 : decode cM_get 24 = .ok (.goto 14, 3) := by decide +kernel
theorem dM_get_27 : decode cM_get 27 = .ok (.aload_n 0, 1) := by decide +kernel
theorem dM_get_28 : decode cM_get 28 = .ok (.iload_n 1, 1) := by decide +kernel
theorem dM_get_29 : decode cM_get 29 = .ok (.iload_n 2, 1) := by decide +kernel
theorem dM_get_30 : decode cM_get 30 = .ok (.aload_n 0, 1) := by decide +kernel
theorem dM_get_31 : decode cM_get 31 = .ok (.getfield 74, 3) := by decide +kernel
theorem dM_get_34 : decode cM_get 34 = .ok (.invokevirtual 85, 3) := by decide +kernel
theorem dM_get_37 : decode cM_get 37 = .ok (.i2l, 1) := by decide +kernel
theorem dM_get_38 : decode cM_get 38 = .ok (.lreturn, 1) := by decide +kernel
