theorem dH_get_0 : decode cH_get 0 = .ok (.aload_n 0, 1) := by decide +kernel
theorem dH_get_1 : decode cH_get 1 = .ok (.getfield 57, 3) := by decide +kernel
theorem dH_get_4 : decode cH_get 4 = .ok (.ifCond .eq 29, 3) := by decide +kernel
theorem dH_get_7 : decode cH_get 7 = .ok (.aload_n 0, 1) := by decide +kernel
theorem dH_get_8 : decode cH_get 8 = .ok (.iload_n 1, 1) := by decide +kernel
theorem dH_get_9 : decode cH_get 9 = .ok (.iload_n 2, 1) := by decide +kernel
theorem dH_get_10 : decode cH_get 10 = .ok (.invokevirtual 75, 3) := by decide +kernel
theorem dH_get_13 : decode cH_get 13 = .ok (.ifCond .eq 20, 3) := by decide +kernel
theorem dH_get_16 : decode cH_get 16 = .ok (.aload_n 0, 1) := by decide +kernel
theorem dH_get_17 : decode cH_get 17 = .ok (.getfield 19, 3) := by decide +kernel
theorem dH_get_20 : decode cH_get 20 = .ok (.getfield 96, 3) := by decide +kernel
theorem dH_get_23 : decode cH_get 23 = .ok (.iload_n 1, 1) := by decide +kernel
theorem dH_get_24 : decode cH_get 24 = .ok (.iload_n 2, 1) := by decide +kernel
theorem dH_get_25 : decode cH_get 25 = .ok (.invokestatic 79, 3) := by decide +kernel
theorem dH_get_28 : decode cH_get 28 = .ok (.iaload, 1) := by decide +kernel
theorem dH_get_29 : decode cH_get 29 = .ok (.i2l, 1) := by decide +kernel
theorem dH_get_30 : decode cH_get 30 = .ok (.goto 6, 3) := by decide +kernel
theorem dH_get_33 : decode cH_get 33 = .ok (.ldc2_w 99, 3) := by decide +kernel
theorem dH_get_36 : decode cH_get 36 = .ok (.lreturn, 1) := by decide +kernel
theorem dH_disk_0 : decode cH_disk 0 = .ok (.aload_n 0, 1) := by decide +kernel
theorem dH_disk_1 : decode cH_disk 1 = .ok (.iload_n 1, 1) := by decide +kernel
theorem dH_disk_2 : decode cH_disk 2 = .ok (.iload_n 2, 1) := by decide +kernel
theorem dH_disk_3 : decode cH_disk 3 = .ok (.invokevirtual 75, 3) := by decide +kernel
theorem dH_disk_6 : decode cH_disk 6 = .ok (.ifCond .eq 20, 3) := by decide +kernel
theorem dH_disk_9 : decode cH_disk 9 = .ok (.aload_n 0, 1) := by decide +kernel
theorem dH_disk_10 : decode cH_disk 10 = .ok (.getfield 19, 3) := by decide +kernel
theorem dH_disk_13 : decode cH_disk 13 = .ok (.getfield 101, 3) := by decide +kernel
theorem dH_disk_16 : decode cH_disk 16 = .ok (.iload_n 1, 1) := by decide +kernel
theorem dH_disk_17 : decode cH_disk 17 = .ok (.iload_n 2, 1) := by decide +kernel
theorem dH_disk_18 : decode cH_disk 18 = .ok (.invokestatic 79, 3) := by decide +kernel
theorem dH_disk_21 : decode cH_disk 21 = .ok (.iaload, 1) := by decide +kernel
theorem dH_disk_22 : decode cH_disk 22 = .ok (.i2l, 1) := by decide +kernel
theorem dH_disk_23 : decode cH_disk 23 = .ok (.goto 6, 3) := by decide +kernel
theorem dH_disk_26 : decode cH_disk 26 = .ok (.ldc2_w 99, 3) := by decide +kernel
theorem dH_disk_29 : decode cH_disk 29 = .ok (.lreturn, 1) := by decide +kernel
theorem dH_number_0 : decode cH_number 0 = .ok (.aload_n 0, 1) := by decide +kernel
theorem dH_number_1 : decode cH_number 1 = .ok (.iload_n 1, 1) := by decide +kernel
theorem dH_number_2 : decode cH_number 2 = .ok (.invokevirtual 115, 3) := by decide +kernel
theorem dH_number_5 : decode cH_number 5 = .ok (.ifCond .eq 12, 3) := by decide +kernel
theorem dH_number_8 : decode cH_number 8 = .ok (.aload_n 0, 1) := by decide +kernel
theorem dH_number_9 : decode cH_number 9 = .ok (.getfield 48, 3) := by decide +kernel
theorem dH_number_12 : decode cH_number 12 = .ok (.iload_n 1, 1) := by decide +kernel
theorem dH_number_13 : decode cH_number 13 = .ok (.iaload, 1) := by decide +kernel
theorem dH_number_14 : decode cH_number 14 = .ok (.goto 4, 3) := by decide +kernel
theorem dH_number_17 : decode cH_number 17 = .ok (.iconst (-1), 1) := by decide +kernel
theorem dH_number_18 : decode cH_number 18 = .ok (.ireturn, 1) := by decide +kernel
theorem dH_last_0 : decode cH_last 0 = .ok (.aload_n 0, 1) := by decide +kernel
theorem dH_last_1 : decode cH_last 1 = .ok (.getfield 12, 3) := by decide +kernel
theorem dH_last_4 : decode cH_last 4 = .ok (.getfield 93, 3) := by decide +kernel
theorem dH_last_7 : decode cH_last 7 = .ok (.ireturn, 1) := by decide +kernel
theorem dH_boundary_0 : decode cH_boundary 0 = .ok (.aload_n 0, 1) := by decide +kernel
theorem dH_boundary_1 : decode cH_boundary 1 = .ok (.iload_n 1, 1) := by decide +kernel
theorem dH_boundary_2 : decode cH_boundary 2 = .ok (.invokevirtual 115, 3) := by decide +kernel
theorem dH_boundary_5 : decode cH_boundary 5 = .ok (.ifCond .eq 19, 3) := by decide +kernel
theorem dH_boundary_8 : decode cH_boundary 8 = .ok (.aload_n 0, 1) := by decide +kernel
theorem dH_boundary_9 : decode cH_boundary 9 = .ok (.getfield 12, 3) := by decide +kernel
theorem dH_boundary_12 : decode cH_boundary 12 = .ok (.iload_n 1, 1) := by decide +kernel
theorem dH_boundary_13 : decode cH_boundary 13 = .ok (.iload_n 2, 1) := by decide +kernel
theorem dH_boundary_14 : decode cH_boundary 14 = .ok (.invokevirtual 174, 3) := by decide +kernel
theorem dH_boundary_17 : decode cH_boundary 17 = .ok (.ifCond .eq 7, 3) := by decide +kernel
theorem dH_boundary_20 : decode cH_boundary 20 = .ok (.iconst 1, 1) := by decide +kernel
theorem dH_boundary_21 : decode cH_boundary 21 = .ok (.goto 4, 3) := by decide +kernel
theorem dH_boundary_24 : decode cH_boundary 24 = .ok (.iconst 0, 1) := by decide +kernel
theorem dH_boundary_25 : decode cH_boundary 25 = .ok (.ireturn, 1) := by decide +kernel
theorem dH_entry_0 : decode cH_entry 0 = .ok (.aload_n 0, 1) := by decide +kernel
theorem dH_entry_1 : decode cH_entry 1 = .ok (.getfield 12, 3) := by decide +kernel
theorem dH_entry_4 : decode cH_entry 4 = .ok (.iload_n 1, 1) := by decide +kernel
theorem dH_entry_5 : decode cH_entry 5 = .ok (.invokevirtual 177, 3) := by decide +kernel
theorem dH_entry_8 : decode cH_entry 8 = .ok (.ifCond .ne 7, 3) := by decide +kernel
theorem dH_entry_11 : decode cH_entry 11 = .ok (.ldc2_w 99, 3) := by decide +kernel
theorem dH_entry_14 : decode cH_entry 14 = .ok (.lreturn, 1) := by decide +kernel
theorem dH_entry_15 : decode cH_entry 15 = .ok (.iload_n 2, 1) := by decide +kernel
theorem dH_entry_16 : decode cH_entry 16 = .ok (.lookupswitch 50 #[(0, 28), (1, 39)], 28) := by decide +kernel
theorem dH_entry_44 : decode cH_entry 44 = .ok (.aload_n 0, 1) := by decide +kernel
theorem dH_entry_45 : decode cH_entry 45 = .ok (.getfield 12, 3) := by decide +kernel
theorem dH_entry_48 : decode cH_entry 48 = .ok (.getfield 180, 3) := by decide +kernel
theorem dH_entry_51 : decode cH_entry 51 = .ok (.iload_n 1, 1) := by decide +kernel
theorem dH_entry_52 : decode cH_entry 52 = .ok (.iaload, 1) := by decide +kernel
theorem dH_entry_53 : decode cH_entry 53 = .ok (.i2l, 1) := by decide +kernel
theorem dH_entry_54 : decode cH_entry 54 = .ok (.lreturn, 1) := by decide +kernel
theorem dH_entry_55 : decode cH_entry 55 = .ok (.aload_n 0, 1) := by decide +kernel
theorem dH_entry_56 : decode cH_entry 56 = .ok (.getfield 12, 3) := by decide +kernel
theorem dH_entry_59 : decode cH_entry 59 = .ok (.getfield 183, 3) := by decide +kernel
theorem dH_entry_62 : decode cH_entry 62 = .ok (.iload_n 1, 1) := by decide +kernel
theorem dH_entry_63 : decode cH_entry 63 = .ok (.iaload, 1) := by decide +kernel
theorem dH_entry_64 : decode cH_entry 64 = .ok (.i2l, 1) := by decide +kernel
theorem dH_entry_65 : decode cH_entry 65 = .ok (.lreturn, 1) := by decide +kernel
theorem dH_entry_66 : decode cH_entry 66 = .ok (.aload_n 0, 1) := by decide +kernel
theorem dH_entry_67 : decode cH_entry 67 = .ok (.getfield 12, 3) := by decide +kernel
theorem dH_entry_70 : decode cH_entry 70 = .ok (.getfield 180, 3) := by decide +kernel
theorem dH_entry_73 : decode cH_entry 73 = .ok (.iload_n 1, 1) := by decide +kernel
theorem dH_entry_74 : decode cH_entry 74 = .ok (.iaload, 1) := by decide +kernel
theorem dH_entry_75 : decode cH_entry 75 = .ok (.iconst 1, 1) := by decide +kernel
theorem dH_entry_76 : decode cH_entry 76 = .ok (.if_icmp .ne 12, 3) := by decide +kernel
theorem dH_entry_79 : decode cH_entry 79 = .ok (.aload_n 0, 1) := by decide +kernel
theorem dH_entry_80 : decode cH_entry 80 = .ok (.iload_n 1, 1) := by decide +kernel
theorem dH_entry_81 : decode cH_entry 81 = .ok (.iload_n 2, 1) := by decide +kernel
theorem dH_entry_82 : decode cH_entry 82 = .ok (.invokevirtual 186, 3) := by decide +kernel
theorem dH_entry_85 : decode cH_entry 85 = .ok (.goto 6, 3) := by decide +kernel
theorem dH_entry_88 : decode cH_entry 88 = .ok (.ldc2_w 99, 3) := by decide +kernel
theorem dH_entry_91 : decode cH_entry 91 = .ok (.lreturn, 1) := by decide +kernel
theorem dH_remote_0 : decode cH_remote 0 = .ok (.aload_n 0, 1) := by decide +kernel
theorem dH_remote_1 : decode cH_remote 1 = .ok (.iload_n 1, 1) := by decide +kernel
theorem dH_remote_2 : decode cH_remote 2 = .ok (.iload_n 2, 1) := by decide +kernel
theorem dH_remote_3 : decode cH_remote 3 = .ok (.invokevirtual 75, 3) := by decide +kernel
theorem dH_remote_6 : decode cH_remote 6 = .ok (.ifCond .eq 20, 3) := by decide +kernel
theorem dH_remote_9 : decode cH_remote 9 = .ok (.aload_n 0, 1) := by decide +kernel
theorem dH_remote_10 : decode cH_remote 10 = .ok (.getfield 40, 3) := by decide +kernel
theorem dH_remote_13 : decode cH_remote 13 = .ok (.getfield 248, 3) := by decide +kernel
theorem dH_remote_16 : decode cH_remote 16 = .ok (.iload_n 1, 1) := by decide +kernel
theorem dH_remote_17 : decode cH_remote 17 = .ok (.iload_n 2, 1) := by decide +kernel
theorem dH_remote_18 : decode cH_remote 18 = .ok (.invokestatic 79, 3) := by decide +kernel
theorem dH_remote_21 : decode cH_remote 21 = .ok (.iaload, 1) := by decide +kernel
theorem dH_remote_22 : decode cH_remote 22 = .ok (.i2l, 1) := by decide +kernel
theorem dH_remote_23 : decode cH_remote 23 = .ok (.goto 6, 3) := by decide +kernel
theorem dH_remote_26 : decode cH_remote 26 = .ok (.ldc2_w 99, 3) := by decide +kernel
theorem dH_remote_29 : decode cH_remote 29 = .ok (.lreturn, 1) := by decide +kernel
theorem dH_isJob_0 : decode cH_isJob 0 = .ok (.iload_n 1, 1) := by decide +kernel
theorem dH_isJob_1 : decode cH_isJob 1 = .ok (.ifCond .lt 12, 3) := by decide +kernel
theorem dH_isJob_4 : decode cH_isJob 4 = .ok (.iload_n 1, 1) := by decide +kernel
theorem dH_isJob_5 : decode cH_isJob 5 = .ok (.iconst 3, 1) := by decide +kernel
theorem dH_isJob_6 : decode cH_isJob 6 = .ok (.if_icmp .ge 7, 3) := by decide +kernel
theorem dH_isJob_9 : decode cH_isJob 9 = .ok (.iconst 1, 1) := by decide +kernel
theorem dH_isJob_10 : decode cH_isJob 10 = .ok (.goto 4, 3) := by decide +kernel
theorem dH_isJob_13 : decode cH_isJob 13 = .ok (.iconst 0, 1) := by decide +kernel
theorem dH_isJob_14 : decode cH_isJob 14 = .ok (.ireturn, 1) := by decide +kernel
theorem dH_isFile_0 : decode cH_isFile 0 = .ok (.iload_n 1, 1) := by decide +kernel
theorem dH_isFile_1 : decode cH_isFile 1 = .ok (.ifCond .lt 15, 3) := by decide +kernel
theorem dH_isFile_4 : decode cH_isFile 4 = .ok (.iload_n 1, 1) := by decide +kernel
theorem dH_isFile_5 : decode cH_isFile 5 = .ok (.aload_n 0, 1) := by decide +kernel
theorem dH_isFile_6 : decode cH_isFile 6 = .ok (.getfield 64, 3) := by decide +kernel
theorem dH_isFile_9 : decode cH_isFile 9 = .ok (.if_icmp .ge 7, 3) := by decide +kernel
theorem dH_isFile_12 : decode cH_isFile 12 = .ok (.iconst 1, 1) := by decide +kernel
theorem dH_isFile_13 : decode cH_isFile 13 = .ok (.goto 4, 3) := by decide +kernel
theorem dH_isFile_16 : decode cH_isFile 16 = .ok (.iconst 0, 1) := by decide +kernel
theorem dH_isFile_17 : decode cH_isFile 17 = .ok (.ireturn, 1) := by decide +kernel
theorem dH_isRecord_0 : decode cH_isRecord 0 = .ok (.aload_n 0, 1) := by decide +kernel
theorem dH_isRecord_1 : decode cH_isRecord 1 = .ok (.iload_n 1, 1) := by decide +kernel
theorem dH_isRecord_2 : decode cH_isRecord 2 = .ok (.invokevirtual 115, 3) := by decide +kernel
theorem dH_isRecord_5 : decode cH_isRecord 5 = .ok (.ifCond .eq 21, 3) := by decide +kernel
theorem dH_isRecord_8 : decode cH_isRecord 8 = .ok (.iload_n 2, 1) := by decide +kernel
theorem dH_isRecord_9 : decode cH_isRecord 9 = .ok (.ifCond .lt 17, 3) := by decide +kernel
theorem dH_isRecord_12 : decode cH_isRecord 12 = .ok (.iload_n 2, 1) := by decide +kernel
theorem dH_isRecord_13 : decode cH_isRecord 13 = .ok (.aload_n 0, 1) := by decide +kernel
theorem dH_isRecord_14 : decode cH_isRecord 14 = .ok (.getfield 44, 3) := by decide +kernel
theorem dH_isRecord_17 : decode cH_isRecord 17 = .ok (.iload_n 1, 1) := by decide +kernel
theorem dH_isRecord_18 : decode cH_isRecord 18 = .ok (.iaload, 1) := by decide +kernel
theorem dH_isRecord_19 : decode cH_isRecord 19 = .ok (.if_icmp .ge 7, 3) := by decide +kernel
theorem dH_isRecord_22 : decode cH_isRecord 22 = .ok (.iconst 1, 1) := by decide +kernel
theorem dH_isRecord_23 : decode cH_isRecord 23 = .ok (.goto 4, 3) := by decide +kernel
theorem dH_isRecord_26 : decode cH_isRecord 26 = .ok (.iconst 0, 1) := by decide +kernel
theorem dH_isRecord_27 : decode cH_isRecord 27 = .ok (.ireturn, 1) := by decide +kernel
theorem dH_isSlot_0 : decode cH_isSlot 0 = .ok (.iload_n 1, 1) := by decide +kernel
theorem dH_isSlot_1 : decode cH_isSlot 1 = .ok (.ifCond .lt 12, 3) := by decide +kernel
theorem dH_isSlot_4 : decode cH_isSlot 4 = .ok (.iload_n 1, 1) := by decide +kernel
theorem dH_isSlot_5 : decode cH_isSlot 5 = .ok (.iconst 4, 1) := by decide +kernel
theorem dH_isSlot_6 : decode cH_isSlot 6 = .ok (.if_icmp .ge 7, 3) := by decide +kernel
theorem dH_isSlot_9 : decode cH_isSlot 9 = .ok (.iconst 1, 1) := by decide +kernel
theorem dH_isSlot_10 : decode cH_isSlot 10 = .ok (.goto 4, 3) := by decide +kernel
theorem dH_isSlot_13 : decode cH_isSlot 13 = .ok (.iconst 0, 1) := by decide +kernel
theorem dH_isSlot_14 : decode cH_isSlot 14 = .ok (.ireturn, 1) := by decide +kernel
theorem dH_cellOf_0 : decode cH_cellOf 0 = .ok (.iload_n 0, 1) := by decide +kernel
theorem dH_cellOf_1 : decode cH_cellOf 1 = .ok (.bipush 8, 2) := by decide +kernel
theorem dH_cellOf_3 : decode cH_cellOf 3 = .ok (.imul, 1) := by decide +kernel
theorem dH_cellOf_4 : decode cH_cellOf 4 = .ok (.iload_n 1, 1) := by decide +kernel
theorem dH_cellOf_5 : decode cH_cellOf 5 = .ok (.iadd, 1) := by decide +kernel
theorem dH_cellOf_6 : decode cH_cellOf 6 = .ok (.ireturn, 1) := by decide +kernel
theorem dH_fileOf_0 : decode cH_fileOf 0 = .ok (.iload_n 0, 1) := by decide +kernel
theorem dH_fileOf_1 : decode cH_fileOf 1 = .ok (.bipush 8, 2) := by decide +kernel
theorem dH_fileOf_3 : decode cH_fileOf 3 = .ok (.idiv, 1) := by decide +kernel
theorem dH_fileOf_4 : decode cH_fileOf 4 = .ok (.ireturn, 1) := by decide +kernel
theorem dH_recordOf_0 : decode cH_recordOf 0 = .ok (.iload_n 0, 1) := by decide +kernel
theorem dH_recordOf_1 : decode cH_recordOf 1 = .ok (.bipush 8, 2) := by decide +kernel
theorem dH_recordOf_3 : decode cH_recordOf 3 = .ok (.irem, 1) := by decide +kernel
theorem dH_recordOf_4 : decode cH_recordOf 4 = .ok (.ireturn, 1) := by decide +kernel
theorem dH_partOfChange_0 : decode cH_partOfChange 0 = .ok (.iload_n 2, 1) := by decide +kernel
theorem dH_partOfChange_1 : decode cH_partOfChange 1 = .ok (.tableswitch 81 2 5 #[31, 45, 59, 70], 31) := by decide +kernel
theorem dH_partOfChange_32 : decode cH_partOfChange 32 = .ok (.aload_n 0, 1) := by decide +kernel
theorem dH_partOfChange_33 : decode cH_partOfChange 33 = .ok (.getfield 12, 3) := by decide +kernel
theorem dH_partOfChange_36 : decode cH_partOfChange 36 = .ok (.getfield 155, 3) := by decide +kernel
theorem dH_partOfChange_39 : decode cH_partOfChange 39 = .ok (.iload_n 1, 1) := by decide +kernel
theorem dH_partOfChange_40 : decode cH_partOfChange 40 = .ok (.iaload, 1) := by decide +kernel
theorem dH_partOfChange_41 : decode cH_partOfChange 41 = .ok (.invokestatic 249, 3) := by decide +kernel
theorem dH_partOfChange_44 : decode cH_partOfChange 44 = .ok (.i2l, 1) := by decide +kernel
theorem dH_partOfChange_45 : decode cH_partOfChange 45 = .ok (.lreturn, 1) := by decide +kernel
theorem dH_partOfChange_46 : decode cH_partOfChange 46 = .ok (.aload_n 0, 1) := by decide +kernel
theorem dH_partOfChange_47 : decode cH_partOfChange 47 = .ok (.getfield 12, 3) := by decide +kernel
theorem dH_partOfChange_50 : decode cH_partOfChange 50 = .ok (.getfield 155, 3) := by decide +kernel
theorem dH_partOfChange_53 : decode cH_partOfChange 53 = .ok (.iload_n 1, 1) := by decide +kernel
theorem dH_partOfChange_54 : decode cH_partOfChange 54 = .ok (.iaload, 1) := by decide +kernel
theorem dH_partOfChange_55 : decode cH_partOfChange 55 = .ok (.invokestatic 158, 3) := by decide +kernel
theorem dH_partOfChange_58 : decode cH_partOfChange 58 = .ok (.i2l, 1) := by decide +kernel
theorem dH_partOfChange_59 : decode cH_partOfChange 59 = .ok (.lreturn, 1) := by decide +kernel
theorem dH_partOfChange_60 : decode cH_partOfChange 60 = .ok (.aload_n 0, 1) := by decide +kernel
theorem dH_partOfChange_61 : decode cH_partOfChange 61 = .ok (.getfield 12, 3) := by decide +kernel
theorem dH_partOfChange_64 : decode cH_partOfChange 64 = .ok (.getfield 171, 3) := by decide +kernel
theorem dH_partOfChange_67 : decode cH_partOfChange 67 = .ok (.iload_n 1, 1) := by decide +kernel
theorem dH_partOfChange_68 : decode cH_partOfChange 68 = .ok (.iaload, 1) := by decide +kernel
theorem dH_partOfChange_69 : decode cH_partOfChange 69 = .ok (.i2l, 1) := by decide +kernel
theorem dH_partOfChange_70 : decode cH_partOfChange 70 = .ok (.lreturn, 1) := by decide +kernel
theorem dH_partOfChange_71 : decode cH_partOfChange 71 = .ok (.aload_n 0, 1) := by decide +kernel
theorem dH_partOfChange_72 : decode cH_partOfChange 72 = .ok (.getfield 12, 3) := by decide +kernel
theorem dH_partOfChange_75 : decode cH_partOfChange 75 = .ok (.getfield 162, 3) := by decide +kernel
theorem dH_partOfChange_78 : decode cH_partOfChange 78 = .ok (.iload_n 1, 1) := by decide +kernel
theorem dH_partOfChange_79 : decode cH_partOfChange 79 = .ok (.iaload, 1) := by decide +kernel
theorem dH_partOfChange_80 : decode cH_partOfChange 80 = .ok (.i2l, 1) := by decide +kernel
theorem dH_partOfChange_81 : decode cH_partOfChange 81 = .ok (.lreturn, 1) := by decide +kernel
theorem dH_partOfChange_82 : decode cH_partOfChange 82 = .ok (.ldc2_w 99, 3) := by decide +kernel
theorem dH_partOfChange_85 : decode cH_partOfChange 85 = .ok (.lreturn, 1) := by decide +kernel
theorem dH_writeChange_0 : decode cH_writeChange 0 = .ok (.aload_n 0, 1) := by decide +kernel
theorem dH_writeChange_1 : decode cH_writeChange 1 = .ok (.getfield 12, 3) := by decide +kernel
theorem dH_writeChange_4 : decode cH_writeChange 4 = .ok (.iload_n 1, 1) := by decide +kernel
theorem dH_writeChange_5 : decode cH_writeChange 5 = .ok (.iload_n 2, 1) := by decide +kernel
theorem dH_writeChange_6 : decode cH_writeChange 6 = .ok (.aload_n 0, 1) := by decide +kernel
theorem dH_writeChange_7 : decode cH_writeChange 7 = .ok (.getfield 19, 3) := by decide +kernel
theorem dH_writeChange_10 : decode cH_writeChange 10 = .ok (.getfield 96, 3) := by decide +kernel
theorem dH_writeChange_13 : decode cH_writeChange 13 = .ok (.iload_n 2, 1) := by decide +kernel
theorem dH_writeChange_14 : decode cH_writeChange 14 = .ok (.iaload, 1) := by decide +kernel
theorem dH_writeChange_15 : decode cH_writeChange 15 = .ok (.iload_n 3, 1) := by decide +kernel
theorem dH_writeChange_16 : decode cH_writeChange 16 = .ok (.invokevirtual 252, 3) := by decide +kernel
theorem dH_writeChange_19 : decode cH_writeChange 19 = .ok (.aload_n 0, 1) := by decide +kernel
theorem dH_writeChange_20 : decode cH_writeChange 20 = .ok (.getfield 19, 3) := by decide +kernel
theorem dH_writeChange_23 : decode cH_writeChange 23 = .ok (.iload_n 2, 1) := by decide +kernel
theorem dH_writeChange_24 : decode cH_writeChange 24 = .ok (.iload_n 3, 1) := by decide +kernel
theorem dH_writeChange_25 : decode cH_writeChange 25 = .ok (.invokevirtual 256, 3) := by decide +kernel
theorem dH_writeChange_28 : decode cH_writeChange 28 = .ok (.iload_n 1, 1) := by decide +kernel
theorem dH_writeChange_29 : decode cH_writeChange 29 = .ok (.iconst 3, 1) := by decide +kernel
theorem dH_writeChange_30 : decode cH_writeChange 30 = .ok (.if_icmp .eq 13, 3) := by decide +kernel
theorem dH_writeChange_33 : decode cH_writeChange 33 = .ok (.aload_n 0, 1) := by decide +kernel
theorem dH_writeChange_34 : decode cH_writeChange 34 = .ok (.getfield 48, 3) := by decide +kernel
theorem dH_writeChange_37 : decode cH_writeChange 37 = .ok (.iload_n 2, 1) := by decide +kernel
theorem dH_writeChange_38 : decode cH_writeChange 38 = .ok (.invokestatic 249, 3) := by decide +kernel
theorem dH_writeChange_41 : decode cH_writeChange 41 = .ok (.iconst (-1), 1) := by decide +kernel
theorem dH_writeChange_42 : decode cH_writeChange 42 = .ok (.iastore, 1) := by decide +kernel
theorem dH_writeChange_43 : decode cH_writeChange 43 = .ok (.return_, 1) := by decide +kernel
theorem dH_rollBack_0 : decode cH_rollBack 0 = .ok (.aload_n 0, 1) := by decide +kernel
theorem dH_rollBack_1 : decode cH_rollBack 1 = .ok (.getfield 12, 3) := by decide +kernel
theorem dH_rollBack_4 : decode cH_rollBack 4 = .ok (.getfield 259, 3) := by decide +kernel
theorem dH_rollBack_7 : decode cH_rollBack 7 = .ok (.iload_n 1, 1) := by decide +kernel
theorem dH_rollBack_8 : decode cH_rollBack 8 = .ok (.iaload, 1) := by decide +kernel
theorem dH_rollBack_9 : decode cH_rollBack 9 = .ok (.istore_n 2, 1) := by decide +kernel
theorem dH_rollBack_10 : decode cH_rollBack 10 = .ok (.aload_n 0, 1) := by decide +kernel
theorem dH_rollBack_11 : decode cH_rollBack 11 = .ok (.getfield 12, 3) := by decide +kernel
theorem dH_rollBack_14 : decode cH_rollBack 14 = .ok (.getfield 93, 3) := by decide +kernel
theorem dH_rollBack_17 : decode cH_rollBack 17 = .ok (.istore_n 3, 1) := by decide +kernel
theorem dH_rollBack_18 : decode cH_rollBack 18 = .ok (.iload_n 3, 1) := by decide +kernel
theorem dH_rollBack_19 : decode cH_rollBack 19 = .ok (.iload_n 2, 1) := by decide +kernel
theorem dH_rollBack_20 : decode cH_rollBack 20 = .ok (.if_icmp .lt 58, 3) := by decide +kernel
theorem dH_rollBack_23 : decode cH_rollBack 23 = .ok (.aload_n 0, 1) := by decide +kernel
theorem dH_rollBack_24 : decode cH_rollBack 24 = .ok (.getfield 12, 3) := by decide +kernel
theorem dH_rollBack_27 : decode cH_rollBack 27 = .ok (.getfield 180, 3) := by decide +kernel
theorem dH_rollBack_30 : decode cH_rollBack 30 = .ok (.iload_n 3, 1) := by decide +kernel
theorem dH_rollBack_31 : decode cH_rollBack 31 = .ok (.iaload, 1) := by decide +kernel
theorem dH_rollBack_32 : decode cH_rollBack 32 = .ok (.iconst 1, 1) := by decide +kernel
theorem dH_rollBack_33 : decode cH_rollBack 33 = .ok (.if_icmp .ne 39, 3) := by decide +kernel
theorem dH_rollBack_36 : decode cH_rollBack 36 = .ok (.aload_n 0, 1) := by decide +kernel
theorem dH_rollBack_37 : decode cH_rollBack 37 = .ok (.getfield 12, 3) := by decide +kernel
theorem dH_rollBack_40 : decode cH_rollBack 40 = .ok (.getfield 183, 3) := by decide +kernel
theorem dH_rollBack_43 : decode cH_rollBack 43 = .ok (.iload_n 3, 1) := by decide +kernel
theorem dH_rollBack_44 : decode cH_rollBack 44 = .ok (.iaload, 1) := by decide +kernel
theorem dH_rollBack_45 : decode cH_rollBack 45 = .ok (.iload_n 1, 1) := by decide +kernel
theorem dH_rollBack_46 : decode cH_rollBack 46 = .ok (.if_icmp .ne 26, 3) := by decide +kernel
theorem dH_rollBack_49 : decode cH_rollBack 49 = .ok (.aload_n 0, 1) := by decide +kernel
theorem dH_rollBack_50 : decode cH_rollBack 50 = .ok (.iload_n 1, 1) := by decide +kernel
theorem dH_rollBack_51 : decode cH_rollBack 51 = .ok (.aload_n 0, 1) := by decide +kernel
theorem dH_rollBack_52 : decode cH_rollBack 52 = .ok (.getfield 12, 3) := by decide +kernel
theorem dH_rollBack_55 : decode cH_rollBack 55 = .ok (.getfield 155, 3) := by decide +kernel
theorem dH_rollBack_58 : decode cH_rollBack 58 = .ok (.iload_n 3, 1) := by decide +kernel
theorem dH_rollBack_59 : decode cH_rollBack 59 = .ok (.iaload, 1) := by decide +kernel
theorem dH_rollBack_60 : decode cH_rollBack 60 = .ok (.aload_n 0, 1) := by decide +kernel
theorem dH_rollBack_61 : decode cH_rollBack 61 = .ok (.getfield 12, 3) := by decide +kernel
theorem dH_rollBack_64 : decode cH_rollBack 64 = .ok (.getfield 171, 3) := by decide +kernel
theorem dH_rollBack_67 : decode cH_rollBack 67 = .ok (.iload_n 3, 1) := by decide +kernel
theorem dH_rollBack_68 : decode cH_rollBack 68 = .ok (.iaload, 1) := by decide +kernel
theorem dH_rollBack_69 : decode cH_rollBack 69 = .ok (.invokevirtual 89, 3) := by decide +kernel
theorem dH_rollBack_72 : decode cH_rollBack 72 = .ok (.iinc 3 (-1), 3) := by decide +kernel
theorem dH_rollBack_75 : decode cH_rollBack 75 = .ok (.goto (-57), 3) := by decide +kernel
theorem dH_rollBack_78 : decode cH_rollBack 78 = .ok (.aload_n 0, 1) := by decide +kernel
theorem dH_rollBack_79 : decode cH_rollBack 79 = .ok (.getfield 12, 3) := by decide +kernel
theorem dH_rollBack_82 : decode cH_rollBack 82 = .ok (.iconst 3, 1) := by decide +kernel
theorem dH_rollBack_83 : decode cH_rollBack 83 = .ok (.iload_n 1, 1) := by decide +kernel
theorem dH_rollBack_84 : decode cH_rollBack 84 = .ok (.invokevirtual 107, 3) := by decide +kernel
theorem dH_rollBack_87 : decode cH_rollBack 87 = .ok (.return_, 1) := by decide +kernel
theorem dH_canApply_0 : decode cH_canApply 0 = .ok (.aload_n 0, 1) := by decide +kernel
theorem dH_canApply_1 : decode cH_canApply 1 = .ok (.getfield 48, 3) := by decide +kernel
theorem dH_canApply_4 : decode cH_canApply 4 = .ok (.iload_n 1, 1) := by decide +kernel
theorem dH_canApply_5 : decode cH_canApply 5 = .ok (.iaload, 1) := by decide +kernel
theorem dH_canApply_6 : decode cH_canApply 6 = .ok (.istore_n 3, 1) := by decide +kernel
theorem dH_canApply_7 : decode cH_canApply 7 = .ok (.iload_n 3, 1) := by decide +kernel
theorem dH_canApply_8 : decode cH_canApply 8 = .ok (.iconst (-1), 1) := by decide +kernel
theorem dH_canApply_9 : decode cH_canApply 9 = .ok (.if_icmp .eq 58, 3) := by decide +kernel
theorem dH_canApply_12 : decode cH_canApply 12 = .ok (.iload_n 2, 1) := by decide +kernel
theorem dH_canApply_13 : decode cH_canApply 13 = .ok (.iload_n 3, 1) := by decide +kernel
theorem dH_canApply_14 : decode cH_canApply 14 = .ok (.if_icmp .le 53, 3) := by decide +kernel
theorem dH_canApply_17 : decode cH_canApply 17 = .ok (.iload_n 2, 1) := by decide +kernel
theorem dH_canApply_18 : decode cH_canApply 18 = .ok (.aload_n 0, 1) := by decide +kernel
theorem dH_canApply_19 : decode cH_canApply 19 = .ok (.getfield 51, 3) := by decide +kernel
theorem dH_canApply_22 : decode cH_canApply 22 = .ok (.iload_n 1, 1) := by decide +kernel
theorem dH_canApply_23 : decode cH_canApply 23 = .ok (.iaload, 1) := by decide +kernel
theorem dH_canApply_24 : decode cH_canApply 24 = .ok (.if_icmp .ge 43, 3) := by decide +kernel
theorem dH_canApply_27 : decode cH_canApply 27 = .ok (.aload_n 0, 1) := by decide +kernel
theorem dH_canApply_28 : decode cH_canApply 28 = .ok (.getfield 12, 3) := by decide +kernel
theorem dH_canApply_31 : decode cH_canApply 31 = .ok (.iload_n 1, 1) := by decide +kernel
theorem dH_canApply_32 : decode cH_canApply 32 = .ok (.invokevirtual 121, 3) := by decide +kernel
theorem dH_canApply_35 : decode cH_canApply 35 = .ok (.ifCond .ne 32, 3) := by decide +kernel
theorem dH_canApply_38 : decode cH_canApply 38 = .ok (.aload_n 0, 1) := by decide +kernel
theorem dH_canApply_39 : decode cH_canApply 39 = .ok (.getfield 12, 3) := by decide +kernel
theorem dH_canApply_42 : decode cH_canApply 42 = .ok (.iload_n 1, 1) := by decide +kernel
theorem dH_canApply_43 : decode cH_canApply 43 = .ok (.iload_n 2, 1) := by decide +kernel
theorem dH_canApply_44 : decode cH_canApply 44 = .ok (.invokevirtual 174, 3) := by decide +kernel
theorem dH_canApply_47 : decode cH_canApply 47 = .ok (.ifCond .eq 20, 3) := by decide +kernel
theorem dH_canApply_50 : decode cH_canApply 50 = .ok (.aload_n 0, 1) := by decide +kernel
theorem dH_canApply_51 : decode cH_canApply 51 = .ok (.getfield 12, 3) := by decide +kernel
theorem dH_canApply_54 : decode cH_canApply 54 = .ok (.iload_n 1, 1) := by decide +kernel
theorem dH_canApply_55 : decode cH_canApply 55 = .ok (.iload_n 3, 1) := by decide +kernel
theorem dH_canApply_56 : decode cH_canApply 56 = .ok (.iload_n 2, 1) := by decide +kernel
theorem dH_canApply_57 : decode cH_canApply 57 = .ok (.invokevirtual 262, 3) := by decide +kernel
theorem dH_canApply_60 : decode cH_canApply 60 = .ok (.ifCond .eq 7, 3) := by decide +kernel
theorem dH_canApply_63 : decode cH_canApply 63 = .ok (.iconst 1, 1) := by decide +kernel
theorem dH_canApply_64 : decode cH_canApply 64 = .ok (.goto 4, 3) := by decide +kernel
theorem dH_canApply_67 : decode cH_canApply 67 = .ok (.iconst 0, 1) := by decide +kernel
theorem dH_canApply_68 : decode cH_canApply 68 = .ok (.ireturn, 1) := by decide +kernel
theorem dH_canRemove_0 : decode cH_canRemove 0 = .ok (.aload_n 0, 1) := by decide +kernel
theorem dH_canRemove_1 : decode cH_canRemove 1 = .ok (.iload_n 1, 1) := by decide +kernel
theorem dH_canRemove_2 : decode cH_canRemove 2 = .ok (.invokevirtual 168, 3) := by decide +kernel
theorem dH_canRemove_5 : decode cH_canRemove 5 = .ok (.istore_n 3, 1) := by decide +kernel
theorem dH_canRemove_6 : decode cH_canRemove 6 = .ok (.iload_n 2, 1) := by decide +kernel
theorem dH_canRemove_7 : decode cH_canRemove 7 = .ok (.iload_n 3, 1) := by decide +kernel
theorem dH_canRemove_8 : decode cH_canRemove 8 = .ok (.if_icmp .ge 43, 3) := by decide +kernel
theorem dH_canRemove_11 : decode cH_canRemove 11 = .ok (.aload_n 0, 1) := by decide +kernel
theorem dH_canRemove_12 : decode cH_canRemove 12 = .ok (.getfield 12, 3) := by decide +kernel
theorem dH_canRemove_15 : decode cH_canRemove 15 = .ok (.iload_n 1, 1) := by decide +kernel
theorem dH_canRemove_16 : decode cH_canRemove 16 = .ok (.invokevirtual 121, 3) := by decide +kernel
theorem dH_canRemove_19 : decode cH_canRemove 19 = .ok (.ifCond .ne 32, 3) := by decide +kernel
theorem dH_canRemove_22 : decode cH_canRemove 22 = .ok (.aload_n 0, 1) := by decide +kernel
theorem dH_canRemove_23 : decode cH_canRemove 23 = .ok (.getfield 12, 3) := by decide +kernel
theorem dH_canRemove_26 : decode cH_canRemove 26 = .ok (.iload_n 1, 1) := by decide +kernel
theorem dH_canRemove_27 : decode cH_canRemove 27 = .ok (.iload_n 2, 1) := by decide +kernel
theorem dH_canRemove_28 : decode cH_canRemove 28 = .ok (.invokevirtual 174, 3) := by decide +kernel
theorem dH_canRemove_31 : decode cH_canRemove 31 = .ok (.ifCond .eq 20, 3) := by decide +kernel
theorem dH_canRemove_34 : decode cH_canRemove 34 = .ok (.aload_n 0, 1) := by decide +kernel
theorem dH_canRemove_35 : decode cH_canRemove 35 = .ok (.getfield 12, 3) := by decide +kernel
theorem dH_canRemove_38 : decode cH_canRemove 38 = .ok (.iload_n 1, 1) := by decide +kernel
theorem dH_canRemove_39 : decode cH_canRemove 39 = .ok (.iload_n 2, 1) := by decide +kernel
theorem dH_canRemove_40 : decode cH_canRemove 40 = .ok (.iload_n 3, 1) := by decide +kernel
theorem dH_canRemove_41 : decode cH_canRemove 41 = .ok (.invokevirtual 262, 3) := by decide +kernel
theorem dH_canRemove_44 : decode cH_canRemove 44 = .ok (.ifCond .eq 7, 3) := by decide +kernel
theorem dH_canRemove_47 : decode cH_canRemove 47 = .ok (.iconst 1, 1) := by decide +kernel
theorem dH_canRemove_48 : decode cH_canRemove 48 = .ok (.goto 4, 3) := by decide +kernel
theorem dH_canRemove_51 : decode cH_canRemove 51 = .ok (.iconst 0, 1) := by decide +kernel
theorem dH_canRemove_52 : decode cH_canRemove 52 = .ok (.ireturn, 1) := by decide +kernel
theorem dH_numberToRemoveFrom_0 : decode cH_numberToRemoveFrom 0 = .ok (.aload_n 0, 1) := by decide +kernel
theorem dH_numberToRemoveFrom_1 : decode cH_numberToRemoveFrom 1 = .ok (.getfield 48, 3) := by decide +kernel
theorem dH_numberToRemoveFrom_4 : decode cH_numberToRemoveFrom 4 = .ok (.iload_n 1, 1) := by decide +kernel
theorem dH_numberToRemoveFrom_5 : decode cH_numberToRemoveFrom 5 = .ok (.iaload, 1) := by decide +kernel
theorem dH_numberToRemoveFrom_6 : decode cH_numberToRemoveFrom 6 = .ok (.iconst (-1), 1) := by decide +kernel
theorem dH_numberToRemoveFrom_7 : decode cH_numberToRemoveFrom 7 = .ok (.if_icmp .ne 13, 3) := by decide +kernel
theorem dH_numberToRemoveFrom_10 : decode cH_numberToRemoveFrom 10 = .ok (.aload_n 0, 1) := by decide +kernel
theorem dH_numberToRemoveFrom_11 : decode cH_numberToRemoveFrom 11 = .ok (.getfield 12, 3) := by decide +kernel
theorem dH_numberToRemoveFrom_14 : decode cH_numberToRemoveFrom 14 = .ok (.getfield 93, 3) := by decide +kernel
theorem dH_numberToRemoveFrom_17 : decode cH_numberToRemoveFrom 17 = .ok (.goto 9, 3) := by decide +kernel
theorem dH_numberToRemoveFrom_20 : decode cH_numberToRemoveFrom 20 = .ok (.aload_n 0, 1) := by decide +kernel
theorem dH_numberToRemoveFrom_21 : decode cH_numberToRemoveFrom 21 = .ok (.getfield 48, 3) := by decide +kernel
theorem dH_numberToRemoveFrom_24 : decode cH_numberToRemoveFrom 24 = .ok (.iload_n 1, 1) := by decide +kernel
theorem dH_numberToRemoveFrom_25 : decode cH_numberToRemoveFrom 25 = .ok (.iaload, 1) := by decide +kernel
theorem dH_numberToRemoveFrom_26 : decode cH_numberToRemoveFrom 26 = .ok (.ireturn, 1) := by decide +kernel
theorem dH_wantWhatIs_0 : decode cH_wantWhatIs 0 = .ok (.aload_n 0, 1) := by decide +kernel
theorem dH_wantWhatIs_1 : decode cH_wantWhatIs 1 = .ok (.getfield 19, 3) := by decide +kernel
theorem dH_wantWhatIs_4 : decode cH_wantWhatIs 4 = .ok (.getfield 96, 3) := by decide +kernel
theorem dH_wantWhatIs_7 : decode cH_wantWhatIs 7 = .ok (.iload_n 1, 1) := by decide +kernel
theorem dH_wantWhatIs_8 : decode cH_wantWhatIs 8 = .ok (.iconst 0, 1) := by decide +kernel
theorem dH_wantWhatIs_9 : decode cH_wantWhatIs 9 = .ok (.invokestatic 79, 3) := by decide +kernel
theorem dH_wantWhatIs_12 : decode cH_wantWhatIs 12 = .ok (.aload_n 0, 1) := by decide +kernel
theorem dH_wantWhatIs_13 : decode cH_wantWhatIs 13 = .ok (.getfield 54, 3) := by decide +kernel
theorem dH_wantWhatIs_16 : decode cH_wantWhatIs 16 = .ok (.iconst 0, 1) := by decide +kernel
theorem dH_wantWhatIs_17 : decode cH_wantWhatIs 17 = .ok (.bipush 8, 2) := by decide +kernel
theorem dH_wantWhatIs_19 : decode cH_wantWhatIs 19 = .ok (.invokestatic 136, 3) := by decide +kernel
theorem dH_wantWhatIs_22 : decode cH_wantWhatIs 22 = .ok (.return_, 1) := by decide +kernel
theorem dH_countUnwanted_0 : decode cH_countUnwanted 0 = .ok (.iconst 0, 1) := by decide +kernel
theorem dH_countUnwanted_1 : decode cH_countUnwanted 1 = .ok (.istore_n 2, 1) := by decide +kernel
theorem dH_countUnwanted_2 : decode cH_countUnwanted 2 = .ok (.iconst 0, 1) := by decide +kernel
theorem dH_countUnwanted_3 : decode cH_countUnwanted 3 = .ok (.istore_n 3, 1) := by decide +kernel
theorem dH_countUnwanted_4 : decode cH_countUnwanted 4 = .ok (.iload_n 3, 1) := by decide +kernel
theorem dH_countUnwanted_5 : decode cH_countUnwanted 5 = .ok (.aload_n 0, 1) := by decide +kernel
theorem dH_countUnwanted_6 : decode cH_countUnwanted 6 = .ok (.getfield 44, 3) := by decide +kernel
theorem dH_countUnwanted_9 : decode cH_countUnwanted 9 = .ok (.iload_n 1, 1) := by decide +kernel
theorem dH_countUnwanted_10 : decode cH_countUnwanted 10 = .ok (.iaload, 1) := by decide +kernel
theorem dH_countUnwanted_11 : decode cH_countUnwanted 11 = .ok (.if_icmp .ge 34, 3) := by decide +kernel
theorem dH_countUnwanted_14 : decode cH_countUnwanted 14 = .ok (.aload_n 0, 1) := by decide +kernel
theorem dH_countUnwanted_15 : decode cH_countUnwanted 15 = .ok (.getfield 19, 3) := by decide +kernel
theorem dH_countUnwanted_18 : decode cH_countUnwanted 18 = .ok (.getfield 96, 3) := by decide +kernel
theorem dH_countUnwanted_21 : decode cH_countUnwanted 21 = .ok (.iload_n 1, 1) := by decide +kernel
theorem dH_countUnwanted_22 : decode cH_countUnwanted 22 = .ok (.iload_n 3, 1) := by decide +kernel
theorem dH_countUnwanted_23 : decode cH_countUnwanted 23 = .ok (.invokestatic 79, 3) := by decide +kernel
theorem dH_countUnwanted_26 : decode cH_countUnwanted 26 = .ok (.iaload, 1) := by decide +kernel
theorem dH_countUnwanted_27 : decode cH_countUnwanted 27 = .ok (.aload_n 0, 1) := by decide +kernel
theorem dH_countUnwanted_28 : decode cH_countUnwanted 28 = .ok (.getfield 54, 3) := by decide +kernel
theorem dH_countUnwanted_31 : decode cH_countUnwanted 31 = .ok (.iload_n 3, 1) := by decide +kernel
theorem dH_countUnwanted_32 : decode cH_countUnwanted 32 = .ok (.iaload, 1) := by decide +kernel
theorem dH_countUnwanted_33 : decode cH_countUnwanted 33 = .ok (.if_icmp .eq 6, 3) := by decide +kernel
theorem dH_countUnwanted_36 : decode cH_countUnwanted 36 = .ok (.iinc 2 1, 3) := by decide +kernel
theorem dH_countUnwanted_39 : decode cH_countUnwanted 39 = .ok (.iinc 3 1, 3) := by decide +kernel
theorem dH_countUnwanted_42 : decode cH_countUnwanted 42 = .ok (.goto (-38), 3) := by decide +kernel
theorem dH_countUnwanted_45 : decode cH_countUnwanted 45 = .ok (.iload_n 2, 1) := by decide +kernel
theorem dH_countUnwanted_46 : decode cH_countUnwanted 46 = .ok (.ireturn, 1) := by decide +kernel
