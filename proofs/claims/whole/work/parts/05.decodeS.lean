theorem dC_keep_0 : decode cC_keep 0 = .ok (.aload_n 0, 1) := by decide +kernel
theorem dC_keep_1 : decode cC_keep 1 = .ok (.getfield 9, 3) := by decide +kernel
theorem dC_keep_4 : decode cC_keep 4 = .ok (.iload_n 1, 1) := by decide +kernel
theorem dC_keep_5 : decode cC_keep 5 = .ok (.iconst 1, 1) := by decide +kernel
theorem dC_keep_6 : decode cC_keep 6 = .ok (.bastore, 1) := by decide +kernel
theorem dC_keep_7 : decode cC_keep 7 = .ok (.aload_n 0, 1) := by decide +kernel
theorem dC_keep_8 : decode cC_keep 8 = .ok (.getfield 15, 3) := by decide +kernel
theorem dC_keep_11 : decode cC_keep 11 = .ok (.iload_n 1, 1) := by decide +kernel
theorem dC_keep_12 : decode cC_keep 12 = .ok (.iload_n 2, 1) := by decide +kernel
theorem dC_keep_13 : decode cC_keep 13 = .ok (.iastore, 1) := by decide +kernel
theorem dC_keep_14 : decode cC_keep 14 = .ok (.aload_n 0, 1) := by decide +kernel
theorem dC_keep_15 : decode cC_keep 15 = .ok (.getfield 19, 3) := by decide +kernel
theorem dC_keep_18 : decode cC_keep 18 = .ok (.iload_n 1, 1) := by decide +kernel
theorem dC_keep_19 : decode cC_keep 19 = .ok (.iload_n 3, 1) := by decide +kernel
theorem dC_keep_20 : decode cC_keep 20 = .ok (.iastore, 1) := by decide +kernel
theorem dC_keep_21 : decode cC_keep 21 = .ok (.aload 4, 2) := by decide +kernel
theorem dC_keep_23 : decode cC_keep 23 = .ok (.iload_n 2, 1) := by decide +kernel
theorem dC_keep_24 : decode cC_keep 24 = .ok (.iconst 0, 1) := by decide +kernel
theorem dC_keep_25 : decode cC_keep 25 = .ok (.invokestatic 25, 3) := by decide +kernel
theorem dC_keep_28 : decode cC_keep 28 = .ok (.aload_n 0, 1) := by decide +kernel
theorem dC_keep_29 : decode cC_keep 29 = .ok (.getfield 22, 3) := by decide +kernel
theorem dC_keep_32 : decode cC_keep 32 = .ok (.iload_n 1, 1) := by decide +kernel
theorem dC_keep_33 : decode cC_keep 33 = .ok (.bipush 8, 2) := by decide +kernel
theorem dC_keep_35 : decode cC_keep 35 = .ok (.imul, 1) := by decide +kernel
theorem dC_keep_36 : decode cC_keep 36 = .ok (.bipush 8, 2) := by decide +kernel
theorem dC_keep_38 : decode cC_keep 38 = .ok (.invokestatic 29, 3) := by decide +kernel
theorem dC_keep_41 : decode cC_keep 41 = .ok (.return_, 1) := by decide +kernel
theorem dL_isLetter_0 : decode cL_isLetter 0 = .ok (.iload_n 1, 1) := by decide +kernel
theorem dL_isLetter_1 : decode cL_isLetter 1 = .ok (.ifCond .lt 15, 3) := by decide +kernel
theorem dL_isLetter_4 : decode cL_isLetter 4 = .ok (.iload_n 1, 1) := by decide +kernel
theorem dL_isLetter_5 : decode cL_isLetter 5 = .ok (.aload_n 0, 1) := by decide +kernel
theorem dL_isLetter_6 : decode cL_isLetter 6 = .ok (.getfield 15, 3) := by decide +kernel
theorem dL_isLetter_9 : decode cL_isLetter 9 = .ok (.if_icmp .ge 7, 3) := by decide +kernel
theorem dL_isLetter_12 : decode cL_isLetter 12 = .ok (.iconst 1, 1) := by decide +kernel
theorem dL_isLetter_13 : decode cL_isLetter 13 = .ok (.goto 4, 3) := by decide +kernel
theorem dL_isLetter_16 : decode cL_isLetter 16 = .ok (.iconst 0, 1) := by decide +kernel
theorem dL_isLetter_17 : decode cL_isLetter 17 = .ok (.ireturn, 1) := by decide +kernel
theorem dL_put_0 : decode cL_put 0 = .ok (.aload_n 0, 1) := by decide +kernel
theorem dL_put_1 : decode cL_put 1 = .ok (.getfield 9, 3) := by decide +kernel
theorem dL_put_4 : decode cL_put 4 = .ok (.aload_n 0, 1) := by decide +kernel
theorem dL_put_5 : decode cL_put 5 = .ok (.getfield 15, 3) := by decide +kernel
theorem dL_put_8 : decode cL_put 8 = .ok (.iload_n 1, 1) := by decide +kernel
theorem dL_put_9 : decode cL_put 9 = .ok (.iastore, 1) := by decide +kernel
theorem dL_put_10 : decode cL_put 10 = .ok (.aload_n 0, 1) := by decide +kernel
theorem dL_put_11 : decode cL_put 11 = .ok (.dup, 1) := by decide +kernel
theorem dL_put_12 : decode cL_put 12 = .ok (.getfield 15, 3) := by decide +kernel
theorem dL_put_15 : decode cL_put 15 = .ok (.iconst 1, 1) := by decide +kernel
theorem dL_put_16 : decode cL_put 16 = .ok (.iadd, 1) := by decide +kernel
theorem dL_put_17 : decode cL_put 17 = .ok (.putfield 15, 3) := by decide +kernel
theorem dL_put_20 : decode cL_put 20 = .ok (.return_, 1) := by decide +kernel
theorem dL_take_0 : decode cL_take 0 = .ok (.aload_n 0, 1) := by decide +kernel
theorem dL_take_1 : decode cL_take 1 = .ok (.getfield 9, 3) := by decide +kernel
theorem dL_take_4 : decode cL_take 4 = .ok (.iload_n 1, 1) := by decide +kernel
theorem dL_take_5 : decode cL_take 5 = .ok (.iaload, 1) := by decide +kernel
theorem dL_take_6 : decode cL_take 6 = .ok (.istore_n 2, 1) := by decide +kernel
theorem dL_take_7 : decode cL_take 7 = .ok (.aload_n 0, 1) := by decide +kernel
theorem dL_take_8 : decode cL_take 8 = .ok (.dup, 1) := by decide +kernel
theorem dL_take_9 : decode cL_take 9 = .ok (.getfield 15, 3) := by decide +kernel
theorem dL_take_12 : decode cL_take 12 = .ok (.iconst 1, 1) := by decide +kernel
theorem dL_take_13 : decode cL_take 13 = .ok (.isub, 1) := by decide +kernel
theorem dL_take_14 : decode cL_take 14 = .ok (.putfield 15, 3) := by decide +kernel
theorem dL_take_17 : decode cL_take 17 = .ok (.aload_n 0, 1) := by decide +kernel
theorem dL_take_18 : decode cL_take 18 = .ok (.getfield 9, 3) := by decide +kernel
theorem dL_take_21 : decode cL_take 21 = .ok (.iload_n 1, 1) := by decide +kernel
theorem dL_take_22 : decode cL_take 22 = .ok (.iconst 1, 1) := by decide +kernel
theorem dL_take_23 : decode cL_take 23 = .ok (.iadd, 1) := by decide +kernel
theorem dL_take_24 : decode cL_take 24 = .ok (.aload_n 0, 1) := by decide +kernel
theorem dL_take_25 : decode cL_take 25 = .ok (.getfield 9, 3) := by decide +kernel
theorem dL_take_28 : decode cL_take 28 = .ok (.iload_n 1, 1) := by decide +kernel
theorem dL_take_29 : decode cL_take 29 = .ok (.aload_n 0, 1) := by decide +kernel
theorem dL_take_30 : decode cL_take 30 = .ok (.getfield 15, 3) := by decide +kernel
theorem dL_take_33 : decode cL_take 33 = .ok (.iload_n 1, 1) := by decide +kernel
theorem dL_take_34 : decode cL_take 34 = .ok (.isub, 1) := by decide +kernel
theorem dL_take_35 : decode cL_take 35 = .ok (.invokestatic 19, 3) := by decide +kernel
theorem dL_take_38 : decode cL_take 38 = .ok (.iload_n 2, 1) := by decide +kernel
theorem dL_take_39 : decode cL_take 39 = .ok (.ireturn, 1) := by decide +kernel
theorem dR_receive_0 : decode cR_receive 0 = .ok (.aload_n 0, 1) := by decide +kernel
theorem dR_receive_1 : decode cR_receive 1 = .ok (.getfield 19, 3) := by decide +kernel
theorem dR_receive_4 : decode cR_receive 4 = .ok (.ifCond .eq 4, 3) := by decide +kernel
theorem dR_receive_7 : decode cR_receive 7 = .ok (.return_, 1) := by decide +kernel
theorem dR_receive_8 : decode cR_receive 8 = .ok (.aload_n 0, 1) := by decide +kernel
theorem dR_receive_9 : decode cR_receive 9 = .ok (.getfield 15, 3) := by decide +kernel
theorem dR_receive_12 : decode cR_receive 12 = .ok (.iload_n 1, 1) := by decide +kernel
theorem dR_receive_13 : decode cR_receive 13 = .ok (.iconst 1, 1) := by decide +kernel
theorem dR_receive_14 : decode cR_receive 14 = .ok (.bastore, 1) := by decide +kernel
theorem dR_receive_15 : decode cR_receive 15 = .ok (.aload_n 0, 1) := by decide +kernel
theorem dR_receive_16 : decode cR_receive 16 = .ok (.getfield 23, 3) := by decide +kernel
theorem dR_receive_19 : decode cR_receive 19 = .ok (.bipush 120, 2) := by decide +kernel
theorem dR_receive_21 : decode cR_receive 21 = .ok (.if_icmp .ge 66, 3) := by decide +kernel
theorem dR_receive_24 : decode cR_receive 24 = .ok (.aload_n 0, 1) := by decide +kernel
theorem dR_receive_25 : decode cR_receive 25 = .ok (.getfield 15, 3) := by decide +kernel
theorem dR_receive_28 : decode cR_receive 28 = .ok (.aload_n 0, 1) := by decide +kernel
theorem dR_receive_29 : decode cR_receive 29 = .ok (.getfield 23, 3) := by decide +kernel
theorem dR_receive_32 : decode cR_receive 32 = .ok (.iconst 1, 1) := by decide +kernel
theorem dR_receive_33 : decode cR_receive 33 = .ok (.iadd, 1) := by decide +kernel
theorem dR_receive_34 : decode cR_receive 34 = .ok (.baload, 1) := by decide +kernel
theorem dR_receive_35 : decode cR_receive 35 = .ok (.ifCond .eq 52, 3) := by decide +kernel
theorem dR_receive_38 : decode cR_receive 38 = .ok (.aload_n 0, 1) := by decide +kernel
theorem dR_receive_39 : decode cR_receive 39 = .ok (.dup, 1) := by decide +kernel
theorem dR_receive_40 : decode cR_receive 40 = .ok (.getfield 23, 3) := by decide +kernel
theorem dR_receive_43 : decode cR_receive 43 = .ok (.iconst 1, 1) := by decide +kernel
theorem dR_receive_44 : decode cR_receive 44 = .ok (.iadd, 1) := by decide +kernel
theorem dR_receive_45 : decode cR_receive 45 = .ok (.putfield 23, 3) := by decide +kernel
theorem dR_receive_48 : decode cR_receive 48 = .ok (.aload_n 2, 1) := by decide +kernel
theorem dR_receive_49 : decode cR_receive 49 = .ok (.getfield 27, 3) := by decide +kernel
theorem dR_receive_52 : decode cR_receive 52 = .ok (.aload_n 0, 1) := by decide +kernel
theorem dR_receive_53 : decode cR_receive 53 = .ok (.getfield 23, 3) := by decide +kernel
theorem dR_receive_56 : decode cR_receive 56 = .ok (.iaload, 1) := by decide +kernel
theorem dR_receive_57 : decode cR_receive 57 = .ok (.iconst 1, 1) := by decide +kernel
theorem dR_receive_58 : decode cR_receive 58 = .ok (.if_icmp .ne (-43), 3) := by decide +kernel
theorem dR_receive_61 : decode cR_receive 61 = .ok (.aload_n 0, 1) := by decide +kernel
theorem dR_receive_62 : decode cR_receive 62 = .ok (.getfield 9, 3) := by decide +kernel
theorem dR_receive_65 : decode cR_receive 65 = .ok (.aload_n 2, 1) := by decide +kernel
theorem dR_receive_66 : decode cR_receive 66 = .ok (.getfield 32, 3) := by decide +kernel
theorem dR_receive_69 : decode cR_receive 69 = .ok (.aload_n 0, 1) := by decide +kernel
theorem dR_receive_70 : decode cR_receive 70 = .ok (.getfield 23, 3) := by decide +kernel
theorem dR_receive_73 : decode cR_receive 73 = .ok (.iaload, 1) := by decide +kernel
theorem dR_receive_74 : decode cR_receive 74 = .ok (.aload_n 2, 1) := by decide +kernel
theorem dR_receive_75 : decode cR_receive 75 = .ok (.getfield 35, 3) := by decide +kernel
theorem dR_receive_78 : decode cR_receive 78 = .ok (.aload_n 0, 1) := by decide +kernel
theorem dR_receive_79 : decode cR_receive 79 = .ok (.getfield 23, 3) := by decide +kernel
theorem dR_receive_82 : decode cR_receive 82 = .ok (.iaload, 1) := by decide +kernel
theorem dR_receive_83 : decode cR_receive 83 = .ok (.iastore, 1) := by decide +kernel
theorem dR_receive_84 : decode cR_receive 84 = .ok (.goto (-69), 3) := by decide +kernel
theorem dR_receive_87 : decode cR_receive 87 = .ok (.return_, 1) := by decide +kernel
theorem dS_write_0 : decode cS_write 0 = .ok (.aload_n 0, 1) := by decide +kernel
theorem dS_write_1 : decode cS_write 1 = .ok (.getfield 9, 3) := by decide +kernel
theorem dS_write_4 : decode cS_write 4 = .ok (.iload_n 1, 1) := by decide +kernel
theorem dS_write_5 : decode cS_write 5 = .ok (.iload_n 2, 1) := by decide +kernel
theorem dS_write_6 : decode cS_write 6 = .ok (.iastore, 1) := by decide +kernel
theorem dS_write_7 : decode cS_write 7 = .ok (.aload_n 0, 1) := by decide +kernel
theorem dS_write_8 : decode cS_write 8 = .ok (.getfield 24, 3) := by decide +kernel
theorem dS_write_11 : decode cS_write 11 = .ok (.bipush 24, 2) := by decide +kernel
theorem dS_write_13 : decode cS_write 13 = .ok (.if_icmp .ne 8, 3) := by decide +kernel
theorem dS_write_16 : decode cS_write 16 = .ok (.aload_n 0, 1) := by decide +kernel
theorem dS_write_17 : decode cS_write 17 = .ok (.iconst 1, 1) := by decide +kernel
theorem dS_write_18 : decode cS_write 18 = .ok (.invokevirtual 28, 3) := by decide +kernel
theorem dS_write_21 : decode cS_write 21 = .ok (.aload_n 0, 1) := by decide +kernel
theorem dS_write_22 : decode cS_write 22 = .ok (.getfield 18, 3) := by decide +kernel
theorem dS_write_25 : decode cS_write 25 = .ok (.aload_n 0, 1) := by decide +kernel
theorem dS_write_26 : decode cS_write 26 = .ok (.getfield 24, 3) := by decide +kernel
theorem dS_write_29 : decode cS_write 29 = .ok (.iload_n 1, 1) := by decide +kernel
theorem dS_write_30 : decode cS_write 30 = .ok (.iastore, 1) := by decide +kernel
theorem dS_write_31 : decode cS_write 31 = .ok (.aload_n 0, 1) := by decide +kernel
theorem dS_write_32 : decode cS_write 32 = .ok (.getfield 21, 3) := by decide +kernel
theorem dS_write_35 : decode cS_write 35 = .ok (.aload_n 0, 1) := by decide +kernel
theorem dS_write_36 : decode cS_write 36 = .ok (.getfield 24, 3) := by decide +kernel
theorem dS_write_39 : decode cS_write 39 = .ok (.iload_n 2, 1) := by decide +kernel
theorem dS_write_40 : decode cS_write 40 = .ok (.iastore, 1) := by decide +kernel
theorem dS_write_41 : decode cS_write 41 = .ok (.aload_n 0, 1) := by decide +kernel
theorem dS_write_42 : decode cS_write 42 = .ok (.dup, 1) := by decide +kernel
theorem dS_write_43 : decode cS_write 43 = .ok (.getfield 24, 3) := by decide +kernel
theorem dS_write_46 : decode cS_write 46 = .ok (.iconst 1, 1) := by decide +kernel
theorem dS_write_47 : decode cS_write 47 = .ok (.iadd, 1) := by decide +kernel
theorem dS_write_48 : decode cS_write 48 = .ok (.putfield 24, 3) := by decide +kernel
theorem dS_write_51 : decode cS_write 51 = .ok (.return_, 1) := by decide +kernel
theorem dS_landOldest_0 : decode cS_landOldest 0 = .ok (.iconst 0, 1) := by decide +kernel
theorem dS_landOldest_1 : decode cS_landOldest 1 = .ok (.istore_n 2, 1) := by decide +kernel
theorem dS_landOldest_2 : decode cS_landOldest 2 = .ok (.iload_n 2, 1) := by decide +kernel
theorem dS_landOldest_3 : decode cS_landOldest 3 = .ok (.iload_n 1, 1) := by decide +kernel
theorem dS_landOldest_4 : decode cS_landOldest 4 = .ok (.if_icmp .ge 26, 3) := by decide +kernel
theorem dS_landOldest_7 : decode cS_landOldest 7 = .ok (.aload_n 0, 1) := by decide +kernel
theorem dS_landOldest_8 : decode cS_landOldest 8 = .ok (.getfield 15, 3) := by decide +kernel
theorem dS_landOldest_11 : decode cS_landOldest 11 = .ok (.aload_n 0, 1) := by decide +kernel
theorem dS_landOldest_12 : decode cS_landOldest 12 = .ok (.getfield 18, 3) := by decide +kernel
theorem dS_landOldest_15 : decode cS_landOldest 15 = .ok (.iload_n 2, 1) := by decide +kernel
theorem dS_landOldest_16 : decode cS_landOldest 16 = .ok (.iaload, 1) := by decide +kernel
theorem dS_landOldest_17 : decode cS_landOldest 17 = .ok (.aload_n 0, 1) := by decide +kernel
theorem dS_landOldest_18 : decode cS_landOldest 18 = .ok (.getfield 21, 3) := by decide +kernel
theorem dS_landOldest_21 : decode cS_landOldest 21 = .ok (.iload_n 2, 1) := by decide +kernel
theorem dS_landOldest_22 : decode cS_landOldest 22 = .ok (.iaload, 1) := by decide +kernel
theorem dS_landOldest_23 : decode cS_landOldest 23 = .ok (.iastore, 1) := by decide +kernel
theorem dS_landOldest_24 : decode cS_landOldest 24 = .ok (.iinc 2 1, 3) := by decide +kernel
theorem dS_landOldest_27 : decode cS_landOldest 27 = .ok (.goto (-25), 3) := by decide +kernel
theorem dS_landOldest_30 : decode cS_landOldest 30 = .ok (.aload_n 0, 1) := by decide +kernel
theorem dS_landOldest_31 : decode cS_landOldest 31 = .ok (.dup, 1) := by decide +kernel
theorem dS_landOldest_32 : decode cS_landOldest 32 = .ok (.getfield 24, 3) := by decide +kernel
theorem dS_landOldest_35 : decode cS_landOldest 35 = .ok (.iload_n 1, 1) := by decide +kernel
theorem dS_landOldest_36 : decode cS_landOldest 36 = .ok (.isub, 1) := by decide +kernel
theorem dS_landOldest_37 : decode cS_landOldest 37 = .ok (.putfield 24, 3) := by decide +kernel
theorem dS_landOldest_40 : decode cS_landOldest 40 = .ok (.aload_n 0, 1) := by decide +kernel
theorem dS_landOldest_41 : decode cS_landOldest 41 = .ok (.getfield 18, 3) := by decide +kernel
theorem dS_landOldest_44 : decode cS_landOldest 44 = .ok (.iload_n 1, 1) := by decide +kernel
theorem dS_landOldest_45 : decode cS_landOldest 45 = .ok (.aload_n 0, 1) := by decide +kernel
theorem dS_landOldest_46 : decode cS_landOldest 46 = .ok (.getfield 18, 3) := by decide +kernel
theorem dS_landOldest_49 : decode cS_landOldest 49 = .ok (.iconst 0, 1) := by decide +kernel
theorem dS_landOldest_50 : decode cS_landOldest 50 = .ok (.aload_n 0, 1) := by decide +kernel
theorem dS_landOldest_51 : decode cS_landOldest 51 = .ok (.getfield 24, 3) := by decide +kernel
theorem dS_landOldest_54 : decode cS_landOldest 54 = .ok (.invokestatic 32, 3) := by decide +kernel
theorem dS_landOldest_57 : decode cS_landOldest 57 = .ok (.aload_n 0, 1) := by decide +kernel
theorem dS_landOldest_58 : decode cS_landOldest 58 = .ok (.getfield 21, 3) := by decide +kernel
theorem dS_landOldest_61 : decode cS_landOldest 61 = .ok (.iload_n 1, 1) := by decide +kernel
theorem dS_landOldest_62 : decode cS_landOldest 62 = .ok (.aload_n 0, 1) := by decide +kernel
theorem dS_landOldest_63 : decode cS_landOldest 63 = .ok (.getfield 21, 3) := by decide +kernel
theorem dS_landOldest_66 : decode cS_landOldest 66 = .ok (.iconst 0, 1) := by decide +kernel
theorem dS_landOldest_67 : decode cS_landOldest 67 = .ok (.aload_n 0, 1) := by decide +kernel
theorem dS_landOldest_68 : decode cS_landOldest 68 = .ok (.getfield 24, 3) := by decide +kernel
theorem dS_landOldest_71 : decode cS_landOldest 71 = .ok (.invokestatic 32, 3) := by decide +kernel
theorem dS_landOldest_74 : decode cS_landOldest 74 = .ok (.return_, 1) := by decide +kernel
theorem dS_loseWaiting_0 : decode cS_loseWaiting 0 = .ok (.aload_n 0, 1) := by decide +kernel
theorem dS_loseWaiting_1 : decode cS_loseWaiting 1 = .ok (.getfield 24, 3) := by decide +kernel
theorem dS_loseWaiting_4 : decode cS_loseWaiting 4 = .ok (.istore_n 1, 1) := by decide +kernel
theorem dS_loseWaiting_5 : decode cS_loseWaiting 5 = .ok (.aload_n 0, 1) := by decide +kernel
theorem dS_loseWaiting_6 : decode cS_loseWaiting 6 = .ok (.iconst 0, 1) := by decide +kernel
theorem dS_loseWaiting_7 : decode cS_loseWaiting 7 = .ok (.putfield 24, 3) := by decide +kernel
theorem dS_loseWaiting_10 : decode cS_loseWaiting 10 = .ok (.iload_n 1, 1) := by decide +kernel
theorem dS_loseWaiting_11 : decode cS_loseWaiting 11 = .ok (.ireturn, 1) := by decide +kernel
theorem dS_readDisk_0 : decode cS_readDisk 0 = .ok (.aload_n 0, 1) := by decide +kernel
theorem dS_readDisk_1 : decode cS_readDisk 1 = .ok (.getfield 15, 3) := by decide +kernel
theorem dS_readDisk_4 : decode cS_readDisk 4 = .ok (.iconst 0, 1) := by decide +kernel
theorem dS_readDisk_5 : decode cS_readDisk 5 = .ok (.aload_n 0, 1) := by decide +kernel
theorem dS_readDisk_6 : decode cS_readDisk 6 = .ok (.getfield 9, 3) := by decide +kernel
theorem dS_readDisk_9 : decode cS_readDisk 9 = .ok (.iconst 0, 1) := by decide +kernel
theorem dS_readDisk_10 : decode cS_readDisk 10 = .ok (.bipush 24, 2) := by decide +kernel
theorem dS_readDisk_12 : decode cS_readDisk 12 = .ok (.invokestatic 32, 3) := by decide +kernel
theorem dS_readDisk_15 : decode cS_readDisk 15 = .ok (.return_, 1) := by decide +kernel
theorem dS_writeDisk_0 : decode cS_writeDisk 0 = .ok (.aload_n 0, 1) := by decide +kernel
theorem dS_writeDisk_1 : decode cS_writeDisk 1 = .ok (.getfield 9, 3) := by decide +kernel
theorem dS_writeDisk_4 : decode cS_writeDisk 4 = .ok (.iconst 0, 1) := by decide +kernel
theorem dS_writeDisk_5 : decode cS_writeDisk 5 = .ok (.aload_n 0, 1) := by decide +kernel
theorem dS_writeDisk_6 : decode cS_writeDisk 6 = .ok (.getfield 15, 3) := by decide +kernel
theorem dS_writeDisk_9 : decode cS_writeDisk 9 = .ok (.iconst 0, 1) := by decide +kernel
theorem dS_writeDisk_10 : decode cS_writeDisk 10 = .ok (.bipush 24, 2) := by decide +kernel
theorem dS_writeDisk_12 : decode cS_writeDisk 12 = .ok (.invokestatic 32, 3) := by decide +kernel
theorem dS_writeDisk_15 : decode cS_writeDisk 15 = .ok (.return_, 1) := by decide +kernel
