theorem dH_file_0 : decode cH_file 0 = .ok (.iload_n 1, 1) := by decide +kernel
theorem dH_file_1 : decode cH_file 1 = .ok (.iconst 1, 1) := by decide +kernel
theorem dH_file_2 : decode cH_file 2 = .ok (.if_icmp .lt 9, 3) := by decide +kernel
theorem dH_file_5 : decode cH_file 5 = .ok (.iload_n 1, 1) := by decide +kernel
theorem dH_file_6 : decode cH_file 6 = .ok (.bipush 8, 2) := by decide +kernel
theorem dH_file_8 : decode cH_file 8 = .ok (.if_icmp .le 11, 3) := by decide +kernel
theorem dH_file_11 : decode cH_file 11 = .ok (.new 61, 3) := by decide +kernel
theorem dH_file_14 : decode cH_file 14 = .ok (.dup, 1) := by decide +kernel
theorem dH_file_15 : decode cH_file 15 = .ok (.invokespecial 63, 3) := by decide +kernel
theorem dH_file_18 : decode cH_file 18 = .ok (.athrow, 1) := by decide +kernel
theorem dH_file_19 : decode cH_file 19 = .ok (.aload_n 0, 1) := by decide +kernel
theorem dH_file_20 : decode cH_file 20 = .ok (.getfield 57, 3) := by decide +kernel
theorem dH_file_23 : decode cH_file 23 = .ok (.ifCond .eq 11, 3) := by decide +kernel
theorem dH_file_26 : decode cH_file 26 = .ok (.aload_n 0, 1) := by decide +kernel
theorem dH_file_27 : decode cH_file 27 = .ok (.getfield 64, 3) := by decide +kernel
theorem dH_file_30 : decode cH_file 30 = .ok (.iconst 3, 1) := by decide +kernel
theorem dH_file_31 : decode cH_file 31 = .ok (.if_icmp .ne 11, 3) := by decide +kernel
theorem dH_file_34 : decode cH_file 34 = .ok (.new 68, 3) := by decide +kernel
theorem dH_file_37 : decode cH_file 37 = .ok (.dup, 1) := by decide +kernel
theorem dH_file_38 : decode cH_file 38 = .ok (.invokespecial 70, 3) := by decide +kernel
theorem dH_file_41 : decode cH_file 41 = .ok (.athrow, 1) := by decide +kernel
theorem dH_file_42 : decode cH_file 42 = .ok (.aload_n 0, 1) := by decide +kernel
theorem dH_file_43 : decode cH_file 43 = .ok (.getfield 64, 3) := by decide +kernel
theorem dH_file_46 : decode cH_file 46 = .ok (.istore_n 2, 1) := by decide +kernel
theorem dH_file_47 : decode cH_file 47 = .ok (.aload_n 0, 1) := by decide +kernel
theorem dH_file_48 : decode cH_file 48 = .ok (.getfield 44, 3) := by decide +kernel
theorem dH_file_51 : decode cH_file 51 = .ok (.iload_n 2, 1) := by decide +kernel
theorem dH_file_52 : decode cH_file 52 = .ok (.iload_n 1, 1) := by decide +kernel
theorem dH_file_53 : decode cH_file 53 = .ok (.iastore, 1) := by decide +kernel
theorem dH_file_54 : decode cH_file 54 = .ok (.aload_n 0, 1) := by decide +kernel
theorem dH_file_55 : decode cH_file 55 = .ok (.getfield 48, 3) := by decide +kernel
theorem dH_file_58 : decode cH_file 58 = .ok (.iload_n 2, 1) := by decide +kernel
theorem dH_file_59 : decode cH_file 59 = .ok (.iconst (-1), 1) := by decide +kernel
theorem dH_file_60 : decode cH_file 60 = .ok (.iastore, 1) := by decide +kernel
theorem dH_file_61 : decode cH_file 61 = .ok (.aload_n 0, 1) := by decide +kernel
theorem dH_file_62 : decode cH_file 62 = .ok (.dup, 1) := by decide +kernel
theorem dH_file_63 : decode cH_file 63 = .ok (.getfield 64, 3) := by decide +kernel
theorem dH_file_66 : decode cH_file 66 = .ok (.iconst 1, 1) := by decide +kernel
theorem dH_file_67 : decode cH_file 67 = .ok (.iadd, 1) := by decide +kernel
theorem dH_file_68 : decode cH_file 68 = .ok (.putfield 64, 3) := by decide +kernel
theorem dH_file_71 : decode cH_file 71 = .ok (.iload_n 2, 1) := by decide +kernel
theorem dH_file_72 : decode cH_file 72 = .ok (.ireturn, 1) := by decide +kernel
theorem dH_change_0 : decode cH_change 0 = .ok (.aload_n 0, 1) := by decide +kernel
theorem dH_change_1 : decode cH_change 1 = .ok (.iload_n 1, 1) := by decide +kernel
theorem dH_change_2 : decode cH_change 2 = .ok (.invokevirtual 71, 3) := by decide +kernel
theorem dH_change_5 : decode cH_change 5 = .ok (.ifCond .eq 12, 3) := by decide +kernel
theorem dH_change_8 : decode cH_change 8 = .ok (.aload_n 0, 1) := by decide +kernel
theorem dH_change_9 : decode cH_change 9 = .ok (.iload_n 2, 1) := by decide +kernel
theorem dH_change_10 : decode cH_change 10 = .ok (.iload_n 3, 1) := by decide +kernel
theorem dH_change_11 : decode cH_change 11 = .ok (.invokevirtual 75, 3) := by decide +kernel
theorem dH_change_14 : decode cH_change 14 = .ok (.ifCond .ne 11, 3) := by decide +kernel
theorem dH_change_17 : decode cH_change 17 = .ok (.new 61, 3) := by decide +kernel
theorem dH_change_20 : decode cH_change 20 = .ok (.dup, 1) := by decide +kernel
theorem dH_change_21 : decode cH_change 21 = .ok (.invokespecial 63, 3) := by decide +kernel
theorem dH_change_24 : decode cH_change 24 = .ok (.athrow, 1) := by decide +kernel
theorem dH_change_25 : decode cH_change 25 = .ok (.iload_n 2, 1) := by decide +kernel
theorem dH_change_26 : decode cH_change 26 = .ok (.iload_n 3, 1) := by decide +kernel
theorem dH_change_27 : decode cH_change 27 = .ok (.invokestatic 79, 3) := by decide +kernel
theorem dH_change_30 : decode cH_change 30 = .ok (.istore 5, 2) := by decide +kernel
theorem dH_change_32 : decode cH_change 32 = .ok (.aload_n 0, 1) := by decide +kernel
theorem dH_change_33 : decode cH_change 33 = .ok (.getfield 57, 3) := by decide +kernel
theorem dH_change_36 : decode cH_change 36 = .ok (.ifCond .eq 27, 3) := by decide +kernel
theorem dH_change_39 : decode cH_change 39 = .ok (.aload_n 0, 1) := by decide +kernel
theorem dH_change_40 : decode cH_change 40 = .ok (.getfield 12, 3) := by decide +kernel
theorem dH_change_43 : decode cH_change 43 = .ok (.iload_n 1, 1) := by decide +kernel
theorem dH_change_44 : decode cH_change 44 = .ok (.iload 5, 2) := by decide +kernel
theorem dH_change_46 : decode cH_change 46 = .ok (.invokevirtual 83, 3) := by decide +kernel
theorem dH_change_49 : decode cH_change 49 = .ok (.ifCond .ne 14, 3) := by decide +kernel
theorem dH_change_52 : decode cH_change 52 = .ok (.aload_n 0, 1) := by decide +kernel
theorem dH_change_53 : decode cH_change 53 = .ok (.getfield 12, 3) := by decide +kernel
theorem dH_change_56 : decode cH_change 56 = .ok (.iload_n 1, 1) := by decide +kernel
theorem dH_change_57 : decode cH_change 57 = .ok (.invokevirtual 86, 3) := by decide +kernel
theorem dH_change_60 : decode cH_change 60 = .ok (.ifCond .eq 11, 3) := by decide +kernel
theorem dH_change_63 : decode cH_change 63 = .ok (.new 68, 3) := by decide +kernel
theorem dH_change_66 : decode cH_change 66 = .ok (.dup, 1) := by decide +kernel
theorem dH_change_67 : decode cH_change 67 = .ok (.invokespecial 70, 3) := by decide +kernel
theorem dH_change_70 : decode cH_change 70 = .ok (.athrow, 1) := by decide +kernel
theorem dH_change_71 : decode cH_change 71 = .ok (.aload_n 0, 1) := by decide +kernel
theorem dH_change_72 : decode cH_change 72 = .ok (.iload_n 1, 1) := by decide +kernel
theorem dH_change_73 : decode cH_change 73 = .ok (.iload 5, 2) := by decide +kernel
theorem dH_change_75 : decode cH_change 75 = .ok (.iload 4, 2) := by decide +kernel
theorem dH_change_77 : decode cH_change 77 = .ok (.invokevirtual 89, 3) := by decide +kernel
theorem dH_change_80 : decode cH_change 80 = .ok (.aload_n 0, 1) := by decide +kernel
theorem dH_change_81 : decode cH_change 81 = .ok (.getfield 12, 3) := by decide +kernel
theorem dH_change_84 : decode cH_change 84 = .ok (.getfield 93, 3) := by decide +kernel
theorem dH_change_87 : decode cH_change 87 = .ok (.ireturn, 1) := by decide +kernel
theorem dH_get_0 : decode cH_get 0 = .ok (.aload_n 0, 1) := by decide +kernel
theorem dH_get_1 : decode cH_get 1 = .ok (.getfield 57, 3) := by decide +kernel
theorem dH_get_4 : decode cH_get 4 = .ok (.ifCond .eq 29, 3) := by decide +kernel
theorem dH_get_7 : decode cH_get 7 = .ok (.aload_n 0, 1) := by decide +kernel
theorem dH_get_8 : decode cH_get 8 = .ok (.iload_n 1, 1) := by decide +kernel
theorem dH_get_9 : decode cH_get 9 = .ok (.iload_n 2, 1) := by decide +kernel
theorem dH_get_10 : decode cH_get 10 = .ok (.invokevirtual 75, 3) := by decide +kernel
theorem dH_get_13 : decode cH_get 13 = .ok (.ifCond .eq 20, 3) := by decide +kernel
theorem dH_get_16 : decode cH_get 16 = .ok (.aload_n 0, 1) := by decide +kernel
theorem dH_get_17 : decode cH_get 17 = .ok (.getfield 19, 3) := by decide +kernel
theorem dH_get_20 : decode cH_get 20 = .ok (.getfield 96, 3) := by decide +kernel
theorem dH_get_23 : decode cH_get 23 = .ok (.iload_n 1, 1) := by decide +kernel
theorem dH_get_24 : decode cH_get 24 = .ok (.iload_n 2, 1) := by decide +kernel
theorem dH_get_25 : decode cH_get 25 = .ok (.invokestatic 79, 3) := by decide +kernel
theorem dH_get_28 : decode cH_get 28 = .ok (.iaload, 1) := by decide +kernel
theorem dH_get_29 : decode cH_get 29 = .ok (.i2l, 1) := by decide +kernel
theorem dH_get_30 : decode cH_get 30 = .ok (.goto 6, 3) := by decide +kernel
theorem dH_get_33 : decode cH_get 33 = .ok (.ldc2_w 99, 3) := by decide +kernel
theorem dH_get_36 : decode cH_get 36 = .ok (.lreturn, 1) := by decide +kernel
theorem dH_disk_0 : decode cH_disk 0 = .ok (.aload_n 0, 1) := by decide +kernel
theorem dH_disk_1 : decode cH_disk 1 = .ok (.iload_n 1, 1) := by decide +kernel
theorem dH_disk_2 : decode cH_disk 2 = .ok (.iload_n 2, 1) := by decide +kernel
theorem dH_disk_3 : decode cH_disk 3 = .ok (.invokevirtual 75, 3) := by decide +kernel
theorem dH_disk_6 : decode cH_disk 6 = .ok (.ifCond .eq 20, 3) := by decide +kernel
theorem dH_disk_9 : decode cH_disk 9 = .ok (.aload_n 0, 1) := by decide +kernel
theorem dH_disk_10 : decode cH_disk 10 = .ok (.getfield 19, 3) := by decide +kernel
theorem dH_disk_13 : decode cH_disk 13 = .ok (.getfield 101, 3) := by decide +kernel
theorem dH_disk_16 : decode cH_disk 16 = .ok (.iload_n 1, 1) := by decide +kernel
theorem dH_disk_17 : decode cH_disk 17 = .ok (.iload_n 2, 1) := by decide +kernel
theorem dH_disk_18 : decode cH_disk 18 = .ok (.invokestatic 79, 3) := by decide +kernel
theorem dH_disk_21 : decode cH_disk 21 = .ok (.iaload, 1) := by decide +kernel
theorem dH_disk_22 : decode cH_disk 22 = .ok (.i2l, 1) := by decide +kernel
theorem dH_disk_23 : decode cH_disk 23 = .ok (.goto 6, 3) := by decide +kernel
theorem dH_disk_26 : decode cH_disk 26 = .ok (.ldc2_w 99, 3) := by decide +kernel
theorem dH_disk_29 : decode cH_disk 29 = .ok (.lreturn, 1) := by decide +kernel
theorem dH_end_0 : decode cH_end 0 = .ok (.aload_n 0, 1) := by decide +kernel
theorem dH_end_1 : decode cH_end 1 = .ok (.iload_n 1, 1) := by decide +kernel
theorem dH_end_2 : decode cH_end 2 = .ok (.invokevirtual 71, 3) := by decide +kernel
theorem dH_end_5 : decode cH_end 5 = .ok (.ifCond .ne 11, 3) := by decide +kernel
theorem dH_end_8 : decode cH_end 8 = .ok (.new 61, 3) := by decide +kernel
theorem dH_end_11 : decode cH_end 11 = .ok (.dup, 1) := by decide +kernel
theorem dH_end_12 : decode cH_end 12 = .ok (.invokespecial 63, 3) := by decide +kernel
theorem dH_end_15 : decode cH_end 15 = .ok (.athrow, 1) := by decide +kernel
theorem dH_end_16 : decode cH_end 16 = .ok (.aload_n 0, 1) := by decide +kernel
theorem dH_end_17 : decode cH_end 17 = .ok (.getfield 57, 3) := by decide +kernel
theorem dH_end_20 : decode cH_end 20 = .ok (.ifCond .eq 14, 3) := by decide +kernel
theorem dH_end_23 : decode cH_end 23 = .ok (.aload_n 0, 1) := by decide +kernel
theorem dH_end_24 : decode cH_end 24 = .ok (.getfield 12, 3) := by decide +kernel
theorem dH_end_27 : decode cH_end 27 = .ok (.iload_n 1, 1) := by decide +kernel
theorem dH_end_28 : decode cH_end 28 = .ok (.invokevirtual 104, 3) := by decide +kernel
theorem dH_end_31 : decode cH_end 31 = .ok (.ifCond .ne 11, 3) := by decide +kernel
theorem dH_end_34 : decode cH_end 34 = .ok (.new 68, 3) := by decide +kernel
theorem dH_end_37 : decode cH_end 37 = .ok (.dup, 1) := by decide +kernel
theorem dH_end_38 : decode cH_end 38 = .ok (.invokespecial 70, 3) := by decide +kernel
theorem dH_end_41 : decode cH_end 41 = .ok (.athrow, 1) := by decide +kernel
theorem dH_end_42 : decode cH_end 42 = .ok (.iload_n 2, 1) := by decide +kernel
theorem dH_end_43 : decode cH_end 43 = .ok (.ifCond .eq 15, 3) := by decide +kernel
theorem dH_end_46 : decode cH_end 46 = .ok (.aload_n 0, 1) := by decide +kernel
theorem dH_end_47 : decode cH_end 47 = .ok (.getfield 12, 3) := by decide +kernel
theorem dH_end_50 : decode cH_end 50 = .ok (.iconst 2, 1) := by decide +kernel
theorem dH_end_51 : decode cH_end 51 = .ok (.iload_n 1, 1) := by decide +kernel
theorem dH_end_52 : decode cH_end 52 = .ok (.invokevirtual 107, 3) := by decide +kernel
theorem dH_end_55 : decode cH_end 55 = .ok (.goto 8, 3) := by decide +kernel
theorem dH_end_58 : decode cH_end 58 = .ok (.aload_n 0, 1) := by decide +kernel
theorem dH_end_59 : decode cH_end 59 = .ok (.iload_n 1, 1) := by decide +kernel
theorem dH_end_60 : decode cH_end 60 = .ok (.invokevirtual 111, 3) := by decide +kernel
theorem dH_end_63 : decode cH_end 63 = .ok (.aload_n 0, 1) := by decide +kernel
theorem dH_end_64 : decode cH_end 64 = .ok (.getfield 12, 3) := by decide +kernel
theorem dH_end_67 : decode cH_end 67 = .ok (.getfield 93, 3) := by decide +kernel
theorem dH_end_70 : decode cH_end 70 = .ok (.ireturn, 1) := by decide +kernel
theorem dH_save_0 : decode cH_save 0 = .ok (.aload_n 0, 1) := by decide +kernel
theorem dH_save_1 : decode cH_save 1 = .ok (.iload_n 1, 1) := by decide +kernel
theorem dH_save_2 : decode cH_save 2 = .ok (.invokevirtual 115, 3) := by decide +kernel
theorem dH_save_5 : decode cH_save 5 = .ok (.ifCond .eq 11, 3) := by decide +kernel
theorem dH_save_8 : decode cH_save 8 = .ok (.aload_n 0, 1) := by decide +kernel
theorem dH_save_9 : decode cH_save 9 = .ok (.iload_n 2, 1) := by decide +kernel
theorem dH_save_10 : decode cH_save 10 = .ok (.invokevirtual 118, 3) := by decide +kernel
theorem dH_save_13 : decode cH_save 13 = .ok (.ifCond .ne 11, 3) := by decide +kernel
theorem dH_save_16 : decode cH_save 16 = .ok (.new 61, 3) := by decide +kernel
theorem dH_save_19 : decode cH_save 19 = .ok (.dup, 1) := by decide +kernel
theorem dH_save_20 : decode cH_save 20 = .ok (.invokespecial 63, 3) := by decide +kernel
theorem dH_save_23 : decode cH_save 23 = .ok (.athrow, 1) := by decide +kernel
theorem dH_save_24 : decode cH_save 24 = .ok (.aload_n 0, 1) := by decide +kernel
theorem dH_save_25 : decode cH_save 25 = .ok (.getfield 57, 3) := by decide +kernel
theorem dH_save_28 : decode cH_save 28 = .ok (.ifCond .eq 14, 3) := by decide +kernel
theorem dH_save_31 : decode cH_save 31 = .ok (.aload_n 0, 1) := by decide +kernel
theorem dH_save_32 : decode cH_save 32 = .ok (.getfield 12, 3) := by decide +kernel
theorem dH_save_35 : decode cH_save 35 = .ok (.iload_n 1, 1) := by decide +kernel
theorem dH_save_36 : decode cH_save 36 = .ok (.invokevirtual 121, 3) := by decide +kernel
theorem dH_save_39 : decode cH_save 39 = .ok (.ifCond .eq 11, 3) := by decide +kernel
theorem dH_save_42 : decode cH_save 42 = .ok (.new 68, 3) := by decide +kernel
theorem dH_save_45 : decode cH_save 45 = .ok (.dup, 1) := by decide +kernel
theorem dH_save_46 : decode cH_save 46 = .ok (.invokespecial 70, 3) := by decide +kernel
theorem dH_save_49 : decode cH_save 49 = .ok (.athrow, 1) := by decide +kernel
theorem dH_save_50 : decode cH_save 50 = .ok (.aload_n 0, 1) := by decide +kernel
theorem dH_save_51 : decode cH_save 51 = .ok (.getfield 26, 3) := by decide +kernel
theorem dH_save_54 : decode cH_save 54 = .ok (.iload_n 2, 1) := by decide +kernel
theorem dH_save_55 : decode cH_save 55 = .ok (.iload_n 1, 1) := by decide +kernel
theorem dH_save_56 : decode cH_save 56 = .ok (.aload_n 0, 1) := by decide +kernel
theorem dH_save_57 : decode cH_save 57 = .ok (.getfield 12, 3) := by decide +kernel
theorem dH_save_60 : decode cH_save 60 = .ok (.getfield 93, 3) := by decide +kernel
theorem dH_save_63 : decode cH_save 63 = .ok (.aload_n 0, 1) := by decide +kernel
theorem dH_save_64 : decode cH_save 64 = .ok (.getfield 19, 3) := by decide +kernel
theorem dH_save_67 : decode cH_save 67 = .ok (.getfield 96, 3) := by decide +kernel
theorem dH_save_70 : decode cH_save 70 = .ok (.invokevirtual 124, 3) := by decide +kernel
theorem dH_save_73 : decode cH_save 73 = .ok (.aload_n 0, 1) := by decide +kernel
theorem dH_save_74 : decode cH_save 74 = .ok (.getfield 12, 3) := by decide +kernel
theorem dH_save_77 : decode cH_save 77 = .ok (.getfield 93, 3) := by decide +kernel
theorem dH_save_80 : decode cH_save 80 = .ok (.ireturn, 1) := by decide +kernel
theorem dH_restore_0 : decode cH_restore 0 = .ok (.aload_n 0, 1) := by decide +kernel
theorem dH_restore_1 : decode cH_restore 1 = .ok (.iload_n 1, 1) := by decide +kernel
theorem dH_restore_2 : decode cH_restore 2 = .ok (.invokevirtual 118, 3) := by decide +kernel
theorem dH_restore_5 : decode cH_restore 5 = .ok (.ifCond .ne 11, 3) := by decide +kernel
theorem dH_restore_8 : decode cH_restore 8 = .ok (.new 61, 3) := by decide +kernel
theorem dH_restore_11 : decode cH_restore 11 = .ok (.dup, 1) := by decide +kernel
theorem dH_restore_12 : decode cH_restore 12 = .ok (.invokespecial 63, 3) := by decide +kernel
theorem dH_restore_15 : decode cH_restore 15 = .ok (.athrow, 1) := by decide +kernel
theorem dH_restore_16 : decode cH_restore 16 = .ok (.aload_n 0, 1) := by decide +kernel
theorem dH_restore_17 : decode cH_restore 17 = .ok (.getfield 57, 3) := by decide +kernel
theorem dH_restore_20 : decode cH_restore 20 = .ok (.ifCond .eq 34, 3) := by decide +kernel
theorem dH_restore_23 : decode cH_restore 23 = .ok (.aload_n 0, 1) := by decide +kernel
theorem dH_restore_24 : decode cH_restore 24 = .ok (.getfield 26, 3) := by decide +kernel
theorem dH_restore_27 : decode cH_restore 27 = .ok (.getfield 128, 3) := by decide +kernel
theorem dH_restore_30 : decode cH_restore 30 = .ok (.iload_n 1, 1) := by decide +kernel
theorem dH_restore_31 : decode cH_restore 31 = .ok (.baload, 1) := by decide +kernel
theorem dH_restore_32 : decode cH_restore 32 = .ok (.ifCond .eq 22, 3) := by decide +kernel
theorem dH_restore_35 : decode cH_restore 35 = .ok (.aload_n 0, 1) := by decide +kernel
theorem dH_restore_36 : decode cH_restore 36 = .ok (.getfield 12, 3) := by decide +kernel
theorem dH_restore_39 : decode cH_restore 39 = .ok (.aload_n 0, 1) := by decide +kernel
theorem dH_restore_40 : decode cH_restore 40 = .ok (.getfield 26, 3) := by decide +kernel
theorem dH_restore_43 : decode cH_restore 43 = .ok (.getfield 132, 3) := by decide +kernel
theorem dH_restore_46 : decode cH_restore 46 = .ok (.iload_n 1, 1) := by decide +kernel
theorem dH_restore_47 : decode cH_restore 47 = .ok (.iaload, 1) := by decide +kernel
theorem dH_restore_48 : decode cH_restore 48 = .ok (.invokevirtual 121, 3) := by decide +kernel
theorem dH_restore_51 : decode cH_restore 51 = .ok (.ifCond .eq 11, 3) := by decide +kernel
theorem dH_restore_54 : decode cH_restore 54 = .ok (.new 68, 3) := by decide +kernel
theorem dH_restore_57 : decode cH_restore 57 = .ok (.dup, 1) := by decide +kernel
theorem dH_restore_58 : decode cH_restore 58 = .ok (.invokespecial 70, 3) := by decide +kernel
theorem dH_restore_61 : decode cH_restore 61 = .ok (.athrow, 1) := by decide +kernel
theorem dH_restore_62 : decode cH_restore 62 = .ok (.aload_n 0, 1) := by decide +kernel
theorem dH_restore_63 : decode cH_restore 63 = .ok (.getfield 26, 3) := by decide +kernel
theorem dH_restore_66 : decode cH_restore 66 = .ok (.getfield 132, 3) := by decide +kernel
theorem dH_restore_69 : decode cH_restore 69 = .ok (.iload_n 1, 1) := by decide +kernel
theorem dH_restore_70 : decode cH_restore 70 = .ok (.iaload, 1) := by decide +kernel
theorem dH_restore_71 : decode cH_restore 71 = .ok (.istore_n 2, 1) := by decide +kernel
theorem dH_restore_72 : decode cH_restore 72 = .ok (.aload_n 0, 1) := by decide +kernel
theorem dH_restore_73 : decode cH_restore 73 = .ok (.getfield 12, 3) := by decide +kernel
theorem dH_restore_76 : decode cH_restore 76 = .ok (.getfield 93, 3) := by decide +kernel
theorem dH_restore_79 : decode cH_restore 79 = .ok (.istore_n 3, 1) := by decide +kernel
theorem dH_restore_80 : decode cH_restore 80 = .ok (.aload_n 0, 1) := by decide +kernel
theorem dH_restore_81 : decode cH_restore 81 = .ok (.getfield 26, 3) := by decide +kernel
theorem dH_restore_84 : decode cH_restore 84 = .ok (.getfield 135, 3) := by decide +kernel
theorem dH_restore_87 : decode cH_restore 87 = .ok (.iload_n 1, 1) := by decide +kernel
theorem dH_restore_88 : decode cH_restore 88 = .ok (.bipush 8, 2) := by decide +kernel
theorem dH_restore_90 : decode cH_restore 90 = .ok (.imul, 1) := by decide +kernel
theorem dH_restore_91 : decode cH_restore 91 = .ok (.aload_n 0, 1) := by decide +kernel
theorem dH_restore_92 : decode cH_restore 92 = .ok (.getfield 54, 3) := by decide +kernel
theorem dH_restore_95 : decode cH_restore 95 = .ok (.iconst 0, 1) := by decide +kernel
theorem dH_restore_96 : decode cH_restore 96 = .ok (.bipush 8, 2) := by decide +kernel
theorem dH_restore_98 : decode cH_restore 98 = .ok (.invokestatic 136, 3) := by decide +kernel
theorem dH_restore_101 : decode cH_restore 101 = .ok (.aload_n 0, 1) := by decide +kernel
theorem dH_restore_102 : decode cH_restore 102 = .ok (.iload_n 2, 1) := by decide +kernel
theorem dH_restore_103 : decode cH_restore 103 = .ok (.aload_n 0, 1) := by decide +kernel
theorem dH_restore_104 : decode cH_restore 104 = .ok (.getfield 26, 3) := by decide +kernel
theorem dH_restore_107 : decode cH_restore 107 = .ok (.getfield 142, 3) := by decide +kernel
theorem dH_restore_110 : decode cH_restore 110 = .ok (.iload_n 1, 1) := by decide +kernel
theorem dH_restore_111 : decode cH_restore 111 = .ok (.iaload, 1) := by decide +kernel
theorem dH_restore_112 : decode cH_restore 112 = .ok (.invokevirtual 143, 3) := by decide +kernel
theorem dH_restore_115 : decode cH_restore 115 = .ok (.istore 4, 2) := by decide +kernel
theorem dH_restore_117 : decode cH_restore 117 = .ok (.aload_n 0, 1) := by decide +kernel
theorem dH_restore_118 : decode cH_restore 118 = .ok (.getfield 51, 3) := by decide +kernel
theorem dH_restore_121 : decode cH_restore 121 = .ok (.iload_n 2, 1) := by decide +kernel
theorem dH_restore_122 : decode cH_restore 122 = .ok (.iload_n 3, 1) := by decide +kernel
theorem dH_restore_123 : decode cH_restore 123 = .ok (.iconst 1, 1) := by decide +kernel
theorem dH_restore_124 : decode cH_restore 124 = .ok (.iadd, 1) := by decide +kernel
theorem dH_restore_125 : decode cH_restore 125 = .ok (.iastore, 1) := by decide +kernel
theorem dH_restore_126 : decode cH_restore 126 = .ok (.iload 4, 2) := by decide +kernel
theorem dH_restore_128 : decode cH_restore 128 = .ok (.ireturn, 1) := by decide +kernel
theorem dH_apply_0 : decode cH_apply 0 = .ok (.aload_n 0, 1) := by decide +kernel
theorem dH_apply_1 : decode cH_apply 1 = .ok (.iload_n 1, 1) := by decide +kernel
theorem dH_apply_2 : decode cH_apply 2 = .ok (.invokevirtual 115, 3) := by decide +kernel
theorem dH_apply_5 : decode cH_apply 5 = .ok (.ifCond .ne 11, 3) := by decide +kernel
theorem dH_apply_8 : decode cH_apply 8 = .ok (.new 61, 3) := by decide +kernel
theorem dH_apply_11 : decode cH_apply 11 = .ok (.dup, 1) := by decide +kernel
theorem dH_apply_12 : decode cH_apply 12 = .ok (.invokespecial 63, 3) := by decide +kernel
theorem dH_apply_15 : decode cH_apply 15 = .ok (.athrow, 1) := by decide +kernel
theorem dH_apply_16 : decode cH_apply 16 = .ok (.aload_n 0, 1) := by decide +kernel
theorem dH_apply_17 : decode cH_apply 17 = .ok (.getfield 57, 3) := by decide +kernel
theorem dH_apply_20 : decode cH_apply 20 = .ok (.ifCond .eq 12, 3) := by decide +kernel
theorem dH_apply_23 : decode cH_apply 23 = .ok (.aload_n 0, 1) := by decide +kernel
theorem dH_apply_24 : decode cH_apply 24 = .ok (.iload_n 1, 1) := by decide +kernel
theorem dH_apply_25 : decode cH_apply 25 = .ok (.iload_n 2, 1) := by decide +kernel
theorem dH_apply_26 : decode cH_apply 26 = .ok (.invokevirtual 146, 3) := by decide +kernel
theorem dH_apply_29 : decode cH_apply 29 = .ok (.ifCond .ne 11, 3) := by decide +kernel
theorem dH_apply_32 : decode cH_apply 32 = .ok (.new 68, 3) := by decide +kernel
theorem dH_apply_35 : decode cH_apply 35 = .ok (.dup, 1) := by decide +kernel
theorem dH_apply_36 : decode cH_apply 36 = .ok (.invokespecial 70, 3) := by decide +kernel
theorem dH_apply_39 : decode cH_apply 39 = .ok (.athrow, 1) := by decide +kernel
theorem dH_apply_40 : decode cH_apply 40 = .ok (.aload_n 0, 1) := by decide +kernel
theorem dH_apply_41 : decode cH_apply 41 = .ok (.iload_n 1, 1) := by decide +kernel
theorem dH_apply_42 : decode cH_apply 42 = .ok (.invokevirtual 149, 3) := by decide +kernel
theorem dH_apply_45 : decode cH_apply 45 = .ok (.aload_n 0, 1) := by decide +kernel
theorem dH_apply_46 : decode cH_apply 46 = .ok (.getfield 48, 3) := by decide +kernel
theorem dH_apply_49 : decode cH_apply 49 = .ok (.iload_n 1, 1) := by decide +kernel
theorem dH_apply_50 : decode cH_apply 50 = .ok (.iaload, 1) := by decide +kernel
theorem dH_apply_51 : decode cH_apply 51 = .ok (.iconst 1, 1) := by decide +kernel
theorem dH_apply_52 : decode cH_apply 52 = .ok (.iadd, 1) := by decide +kernel
theorem dH_apply_53 : decode cH_apply 53 = .ok (.istore_n 3, 1) := by decide +kernel
theorem dH_apply_54 : decode cH_apply 54 = .ok (.iload_n 3, 1) := by decide +kernel
theorem dH_apply_55 : decode cH_apply 55 = .ok (.iload_n 2, 1) := by decide +kernel
theorem dH_apply_56 : decode cH_apply 56 = .ok (.if_icmp .gt 47, 3) := by decide +kernel
theorem dH_apply_59 : decode cH_apply 59 = .ok (.aload_n 0, 1) := by decide +kernel
theorem dH_apply_60 : decode cH_apply 60 = .ok (.getfield 12, 3) := by decide +kernel
theorem dH_apply_63 : decode cH_apply 63 = .ok (.iload_n 1, 1) := by decide +kernel
theorem dH_apply_64 : decode cH_apply 64 = .ok (.iload_n 3, 1) := by decide +kernel
theorem dH_apply_65 : decode cH_apply 65 = .ok (.invokevirtual 152, 3) := by decide +kernel
theorem dH_apply_68 : decode cH_apply 68 = .ok (.ifCond .eq 29, 3) := by decide +kernel
theorem dH_apply_71 : decode cH_apply 71 = .ok (.aload_n 0, 1) := by decide +kernel
theorem dH_apply_72 : decode cH_apply 72 = .ok (.getfield 54, 3) := by decide +kernel
theorem dH_apply_75 : decode cH_apply 75 = .ok (.aload_n 0, 1) := by decide +kernel
theorem dH_apply_76 : decode cH_apply 76 = .ok (.getfield 12, 3) := by decide +kernel
theorem dH_apply_79 : decode cH_apply 79 = .ok (.getfield 155, 3) := by decide +kernel
theorem dH_apply_82 : decode cH_apply 82 = .ok (.iload_n 3, 1) := by decide +kernel
theorem dH_apply_83 : decode cH_apply 83 = .ok (.iaload, 1) := by decide +kernel
theorem dH_apply_84 : decode cH_apply 84 = .ok (.invokestatic 158, 3) := by decide +kernel
theorem dH_apply_87 : decode cH_apply 87 = .ok (.aload_n 0, 1) := by decide +kernel
theorem dH_apply_88 : decode cH_apply 88 = .ok (.getfield 12, 3) := by decide +kernel
theorem dH_apply_91 : decode cH_apply 91 = .ok (.getfield 162, 3) := by decide +kernel
theorem dH_apply_94 : decode cH_apply 94 = .ok (.iload_n 3, 1) := by decide +kernel
theorem dH_apply_95 : decode cH_apply 95 = .ok (.iaload, 1) := by decide +kernel
theorem dH_apply_96 : decode cH_apply 96 = .ok (.iastore, 1) := by decide +kernel
theorem dH_apply_97 : decode cH_apply 97 = .ok (.iinc 3 1, 3) := by decide +kernel
theorem dH_apply_100 : decode cH_apply 100 = .ok (.goto (-46), 3) := by decide +kernel
theorem dH_apply_103 : decode cH_apply 103 = .ok (.aload_n 0, 1) := by decide +kernel
theorem dH_apply_104 : decode cH_apply 104 = .ok (.iload_n 1, 1) := by decide +kernel
theorem dH_apply_105 : decode cH_apply 105 = .ok (.iload_n 2, 1) := by decide +kernel
theorem dH_apply_106 : decode cH_apply 106 = .ok (.invokevirtual 143, 3) := by decide +kernel
theorem dH_apply_109 : decode cH_apply 109 = .ok (.ireturn, 1) := by decide +kernel
theorem dH_remove_0 : decode cH_remove 0 = .ok (.aload_n 0, 1) := by decide +kernel
theorem dH_remove_1 : decode cH_remove 1 = .ok (.iload_n 1, 1) := by decide +kernel
theorem dH_remove_2 : decode cH_remove 2 = .ok (.invokevirtual 115, 3) := by decide +kernel
theorem dH_remove_5 : decode cH_remove 5 = .ok (.ifCond .eq 7, 3) := by decide +kernel
theorem dH_remove_8 : decode cH_remove 8 = .ok (.iload_n 2, 1) := by decide +kernel
theorem dH_remove_9 : decode cH_remove 9 = .ok (.ifCond .ge 11, 3) := by decide +kernel
theorem dH_remove_12 : decode cH_remove 12 = .ok (.new 61, 3) := by decide +kernel
theorem dH_remove_15 : decode cH_remove 15 = .ok (.dup, 1) := by decide +kernel
theorem dH_remove_16 : decode cH_remove 16 = .ok (.invokespecial 63, 3) := by decide +kernel
theorem dH_remove_19 : decode cH_remove 19 = .ok (.athrow, 1) := by decide +kernel
theorem dH_remove_20 : decode cH_remove 20 = .ok (.aload_n 0, 1) := by decide +kernel
theorem dH_remove_21 : decode cH_remove 21 = .ok (.getfield 57, 3) := by decide +kernel
theorem dH_remove_24 : decode cH_remove 24 = .ok (.ifCond .eq 12, 3) := by decide +kernel
theorem dH_remove_27 : decode cH_remove 27 = .ok (.aload_n 0, 1) := by decide +kernel
theorem dH_remove_28 : decode cH_remove 28 = .ok (.iload_n 1, 1) := by decide +kernel
theorem dH_remove_29 : decode cH_remove 29 = .ok (.iload_n 2, 1) := by decide +kernel
theorem dH_remove_30 : decode cH_remove 30 = .ok (.invokevirtual 165, 3) := by decide +kernel
theorem dH_remove_33 : decode cH_remove 33 = .ok (.ifCond .ne 11, 3) := by decide +kernel
theorem dH_remove_36 : decode cH_remove 36 = .ok (.new 68, 3) := by decide +kernel
theorem dH_remove_39 : decode cH_remove 39 = .ok (.dup, 1) := by decide +kernel
theorem dH_remove_40 : decode cH_remove 40 = .ok (.invokespecial 70, 3) := by decide +kernel
theorem dH_remove_43 : decode cH_remove 43 = .ok (.athrow, 1) := by decide +kernel
theorem dH_remove_44 : decode cH_remove 44 = .ok (.aload_n 0, 1) := by decide +kernel
theorem dH_remove_45 : decode cH_remove 45 = .ok (.getfield 48, 3) := by decide +kernel
theorem dH_remove_48 : decode cH_remove 48 = .ok (.iload_n 1, 1) := by decide +kernel
theorem dH_remove_49 : decode cH_remove 49 = .ok (.iaload, 1) := by decide +kernel
theorem dH_remove_50 : decode cH_remove 50 = .ok (.iconst (-1), 1) := by decide +kernel
theorem dH_remove_51 : decode cH_remove 51 = .ok (.if_icmp .ne 7, 3) := by decide +kernel
theorem dH_remove_54 : decode cH_remove 54 = .ok (.iconst 1, 1) := by decide +kernel
theorem dH_remove_55 : decode cH_remove 55 = .ok (.goto 4, 3) := by decide +kernel
theorem dH_remove_58 : decode cH_remove 58 = .ok (.iconst 0, 1) := by decide +kernel
theorem dH_remove_59 : decode cH_remove 59 = .ok (.istore_n 3, 1) := by decide +kernel
theorem dH_remove_60 : decode cH_remove 60 = .ok (.aload_n 0, 1) := by decide +kernel
theorem dH_remove_61 : decode cH_remove 61 = .ok (.getfield 12, 3) := by decide +kernel
theorem dH_remove_64 : decode cH_remove 64 = .ok (.getfield 93, 3) := by decide +kernel
theorem dH_remove_67 : decode cH_remove 67 = .ok (.istore 4, 2) := by decide +kernel
theorem dH_remove_69 : decode cH_remove 69 = .ok (.aload_n 0, 1) := by decide +kernel
theorem dH_remove_70 : decode cH_remove 70 = .ok (.iload_n 1, 1) := by decide +kernel
theorem dH_remove_71 : decode cH_remove 71 = .ok (.invokevirtual 149, 3) := by decide +kernel
theorem dH_remove_74 : decode cH_remove 74 = .ok (.aload_n 0, 1) := by decide +kernel
theorem dH_remove_75 : decode cH_remove 75 = .ok (.iload_n 1, 1) := by decide +kernel
theorem dH_remove_76 : decode cH_remove 76 = .ok (.invokevirtual 168, 3) := by decide +kernel
theorem dH_remove_79 : decode cH_remove 79 = .ok (.istore 5, 2) := by decide +kernel
theorem dH_remove_81 : decode cH_remove 81 = .ok (.iload 5, 2) := by decide +kernel
theorem dH_remove_83 : decode cH_remove 83 = .ok (.iload_n 2, 1) := by decide +kernel
theorem dH_remove_84 : decode cH_remove 84 = .ok (.if_icmp .le 50, 3) := by decide +kernel
theorem dH_remove_87 : decode cH_remove 87 = .ok (.aload_n 0, 1) := by decide +kernel
theorem dH_remove_88 : decode cH_remove 88 = .ok (.getfield 12, 3) := by decide +kernel
theorem dH_remove_91 : decode cH_remove 91 = .ok (.iload_n 1, 1) := by decide +kernel
theorem dH_remove_92 : decode cH_remove 92 = .ok (.iload 5, 2) := by decide +kernel
theorem dH_remove_94 : decode cH_remove 94 = .ok (.invokevirtual 152, 3) := by decide +kernel
theorem dH_remove_97 : decode cH_remove 97 = .ok (.ifCond .eq 31, 3) := by decide +kernel
theorem dH_remove_100 : decode cH_remove 100 = .ok (.aload_n 0, 1) := by decide +kernel
theorem dH_remove_101 : decode cH_remove 101 = .ok (.getfield 54, 3) := by decide +kernel
theorem dH_remove_104 : decode cH_remove 104 = .ok (.aload_n 0, 1) := by decide +kernel
theorem dH_remove_105 : decode cH_remove 105 = .ok (.getfield 12, 3) := by decide +kernel
theorem dH_remove_108 : decode cH_remove 108 = .ok (.getfield 155, 3) := by decide +kernel
theorem dH_remove_111 : decode cH_remove 111 = .ok (.iload 5, 2) := by decide +kernel
theorem dH_remove_113 : decode cH_remove 113 = .ok (.iaload, 1) := by decide +kernel
theorem dH_remove_114 : decode cH_remove 114 = .ok (.invokestatic 158, 3) := by decide +kernel
theorem dH_remove_117 : decode cH_remove 117 = .ok (.aload_n 0, 1) := by decide +kernel
theorem dH_remove_118 : decode cH_remove 118 = .ok (.getfield 12, 3) := by decide +kernel
theorem dH_remove_121 : decode cH_remove 121 = .ok (.getfield 171, 3) := by decide +kernel
theorem dH_remove_124 : decode cH_remove 124 = .ok (.iload 5, 2) := by decide +kernel
theorem dH_remove_126 : decode cH_remove 126 = .ok (.iaload, 1) := by decide +kernel
theorem dH_remove_127 : decode cH_remove 127 = .ok (.iastore, 1) := by decide +kernel
theorem dH_remove_128 : decode cH_remove 128 = .ok (.iinc 5 (-1), 3) := by decide +kernel
theorem dH_remove_131 : decode cH_remove 131 = .ok (.goto (-50), 3) := by decide +kernel
theorem dH_remove_134 : decode cH_remove 134 = .ok (.aload_n 0, 1) := by decide +kernel
theorem dH_remove_135 : decode cH_remove 135 = .ok (.iload_n 1, 1) := by decide +kernel
theorem dH_remove_136 : decode cH_remove 136 = .ok (.iload_n 2, 1) := by decide +kernel
theorem dH_remove_137 : decode cH_remove 137 = .ok (.invokevirtual 143, 3) := by decide +kernel
theorem dH_remove_140 : decode cH_remove 140 = .ok (.istore 5, 2) := by decide +kernel
theorem dH_remove_142 : decode cH_remove 142 = .ok (.iload_n 3, 1) := by decide +kernel
theorem dH_remove_143 : decode cH_remove 143 = .ok (.ifCond .eq 13, 3) := by decide +kernel
theorem dH_remove_146 : decode cH_remove 146 = .ok (.aload_n 0, 1) := by decide +kernel
theorem dH_remove_147 : decode cH_remove 147 = .ok (.getfield 51, 3) := by decide +kernel
theorem dH_remove_150 : decode cH_remove 150 = .ok (.iload_n 1, 1) := by decide +kernel
theorem dH_remove_151 : decode cH_remove 151 = .ok (.iload 4, 2) := by decide +kernel
theorem dH_remove_153 : decode cH_remove 153 = .ok (.iconst 1, 1) := by decide +kernel
theorem dH_remove_154 : decode cH_remove 154 = .ok (.iadd, 1) := by decide +kernel
theorem dH_remove_155 : decode cH_remove 155 = .ok (.iastore, 1) := by decide +kernel
theorem dH_remove_156 : decode cH_remove 156 = .ok (.iload 5, 2) := by decide +kernel
theorem dH_remove_158 : decode cH_remove 158 = .ok (.ireturn, 1) := by decide +kernel
theorem dH_number_0 : decode cH_number 0 = .ok (.aload_n 0, 1) := by decide +kernel
theorem dH_number_1 : decode cH_number 1 = .ok (.iload_n 1, 1) := by decide +kernel
theorem dH_number_2 : decode cH_number 2 = .ok (.invokevirtual 115, 3) := by decide +kernel
theorem dH_number_5 : decode cH_number 5 = .ok (.ifCond .eq 12, 3) := by decide +kernel
theorem dH_number_8 : decode cH_number 8 = .ok (.aload_n 0, 1) := by decide +kernel
theorem dH_number_9 : decode cH_number 9 = .ok (.getfield 48, 3) := by decide +kernel
theorem dH_number_12 : decode cH_number 12 = .ok (.iload_n 1, 1) := by decide +kernel
theorem dH_number_13 : decode cH_number 13 = .ok (.iaload, 1) := by decide +kernel
theorem dH_number_14 : decode cH_number 14 = .ok (.goto 4, 3) := by decide +kernel
theorem dH_number_17 : decode cH_number 17 = .ok (.iconst (-1), 1) := by decide +kernel
theorem dH_number_18 : decode cH_number 18 = .ok (.ireturn, 1) := by decide +kernel
theorem dH_last_0 : decode cH_last 0 = .ok (.aload_n 0, 1) := by decide +kernel
theorem dH_last_1 : decode cH_last 1 = .ok (.getfield 12, 3) := by decide +kernel
theorem dH_last_4 : decode cH_last 4 = .ok (.getfield 93, 3) := by decide +kernel
theorem dH_last_7 : decode cH_last 7 = .ok (.ireturn, 1) := by decide +kernel
theorem dH_boundary_0 : decode cH_boundary 0 = .ok (.aload_n 0, 1) := by decide +kernel
theorem dH_boundary_1 : decode cH_boundary 1 = .ok (.iload_n 1, 1) := by decide +kernel
theorem dH_boundary_2 : decode cH_boundary 2 = .ok (.invokevirtual 115, 3) := by decide +kernel
theorem dH_boundary_5 : decode cH_boundary 5 = .ok (.ifCond .eq 19, 3) := by decide +kernel
theorem dH_boundary_8 : decode cH_boundary 8 = .ok (.aload_n 0, 1) := by decide +kernel
theorem dH_boundary_9 : decode cH_boundary 9 = .ok (.getfield 12, 3) := by decide +kernel
theorem dH_boundary_12 : decode cH_boundary 12 = .ok (.iload_n 1, 1) := by decide +kernel
theorem dH_boundary_13 : decode cH_boundary 13 = .ok (.iload_n 2, 1) := by decide +kernel
theorem dH_boundary_14 : decode cH_boundary 14 = .ok (.invokevirtual 174, 3) := by decide +kernel
theorem dH_boundary_17 : decode cH_boundary 17 = .ok (.ifCond .eq 7, 3) := by decide +kernel
theorem dH_boundary_20 : decode cH_boundary 20 = .ok (.iconst 1, 1) := by decide +kernel
theorem dH_boundary_21 : decode cH_boundary 21 = .ok (.goto 4, 3) := by decide +kernel
theorem dH_boundary_24 : decode cH_boundary 24 = .ok (.iconst 0, 1) := by decide +kernel
theorem dH_boundary_25 : decode cH_boundary 25 = .ok (.ireturn, 1) := by decide +kernel
theorem dH_entry_0 : decode cH_entry 0 = .ok (.aload_n 0, 1) := by decide +kernel
theorem dH_entry_1 : decode cH_entry 1 = .ok (.getfield 12, 3) := by decide +kernel
theorem dH_entry_4 : decode cH_entry 4 = .ok (.iload_n 1, 1) := by decide +kernel
theorem dH_entry_5 : decode cH_entry 5 = .ok (.invokevirtual 177, 3) := by decide +kernel
theorem dH_entry_8 : decode cH_entry 8 = .ok (.ifCond .ne 7, 3) := by decide +kernel
theorem dH_entry_11 : decode cH_entry 11 = .ok (.ldc2_w 99, 3) := by decide +kernel
theorem dH_entry_14 : decode cH_entry 14 = .ok (.lreturn, 1) := by decide +kernel
theorem dH_entry_15 : decode cH_entry 15 = .ok (.iload_n 2, 1) := by decide +kernel
theorem dH_entry_16 : decode cH_entry 16 = .ok (.lookupswitch 50 #[(0, 28), (1, 39)], 28) := by decide +kernel
theorem dH_entry_44 : decode cH_entry 44 = .ok (.aload_n 0, 1) := by decide +kernel
theorem dH_entry_45 : decode cH_entry 45 = .ok (.getfield 12, 3) := by decide +kernel
theorem dH_entry_48 : decode cH_entry 48 = .ok (.getfield 180, 3) := by decide +kernel
theorem dH_entry_51 : decode cH_entry 51 = .ok (.iload_n 1, 1) := by decide +kernel
theorem dH_entry_52 : decode cH_entry 52 = .ok (.iaload, 1) := by decide +kernel
theorem dH_entry_53 : decode cH_entry 53 = .ok (.i2l, 1) := by decide +kernel
theorem dH_entry_54 : decode cH_entry 54 = .ok (.lreturn, 1) := by decide +kernel
theorem dH_entry_55 : decode cH_entry 55 = .ok (.aload_n 0, 1) := by decide +kernel
theorem dH_entry_56 : decode cH_entry 56 = .ok (.getfield 12, 3) := by decide +kernel
theorem dH_entry_59 : decode cH_entry 59 = .ok (.getfield 183, 3) := by decide +kernel
theorem dH_entry_62 : decode cH_entry 62 = .ok (.iload_n 1, 1) := by decide +kernel
theorem dH_entry_63 : decode cH_entry 63 = .ok (.iaload, 1) := by decide +kernel
theorem dH_entry_64 : decode cH_entry 64 = .ok (.i2l, 1) := by decide +kernel
theorem dH_entry_65 : decode cH_entry 65 = .ok (.lreturn, 1) := by decide +kernel
theorem dH_entry_66 : decode cH_entry 66 = .ok (.aload_n 0, 1) := by decide +kernel
theorem dH_entry_67 : decode cH_entry 67 = .ok (.getfield 12, 3) := by decide +kernel
theorem dH_entry_70 : decode cH_entry 70 = .ok (.getfield 180, 3) := by decide +kernel
theorem dH_entry_73 : decode cH_entry 73 = .ok (.iload_n 1, 1) := by decide +kernel
theorem dH_entry_74 : decode cH_entry 74 = .ok (.iaload, 1) := by decide +kernel
theorem dH_entry_75 : decode cH_entry 75 = .ok (.iconst 1, 1) := by decide +kernel
theorem dH_entry_76 : decode cH_entry 76 = .ok (.if_icmp .ne 12, 3) := by decide +kernel
theorem dH_entry_79 : decode cH_entry 79 = .ok (.aload_n 0, 1) := by decide +kernel
theorem dH_entry_80 : decode cH_entry 80 = .ok (.iload_n 1, 1) := by decide +kernel
theorem dH_entry_81 : decode cH_entry 81 = .ok (.iload_n 2, 1) := by decide +kernel
theorem dH_entry_82 : decode cH_entry 82 = .ok (.invokevirtual 186, 3) := by decide +kernel
theorem dH_entry_85 : decode cH_entry 85 = .ok (.goto 6, 3) := by decide +kernel
theorem dH_entry_88 : decode cH_entry 88 = .ok (.ldc2_w 99, 3) := by decide +kernel
theorem dH_entry_91 : decode cH_entry 91 = .ok (.lreturn, 1) := by decide +kernel
theorem dH_drop_0 : decode cH_drop 0 = .ok (.aload_n 0, 1) := by decide +kernel
theorem dH_drop_1 : decode cH_drop 1 = .ok (.getfield 57, 3) := by decide +kernel
theorem dH_drop_4 : decode cH_drop 4 = .ok (.ifCond .eq 27, 3) := by decide +kernel
theorem dH_drop_7 : decode cH_drop 7 = .ok (.aload_n 0, 1) := by decide +kernel
theorem dH_drop_8 : decode cH_drop 8 = .ok (.getfield 12, 3) := by decide +kernel
theorem dH_drop_11 : decode cH_drop 11 = .ok (.invokevirtual 190, 3) := by decide +kernel
theorem dH_drop_14 : decode cH_drop 14 = .ok (.ifCond .eq 17, 3) := by decide +kernel
theorem dH_drop_17 : decode cH_drop 17 = .ok (.aload_n 0, 1) := by decide +kernel
theorem dH_drop_18 : decode cH_drop 18 = .ok (.getfield 194, 3) := by decide +kernel
theorem dH_drop_21 : decode cH_drop 21 = .ok (.aload_n 0, 1) := by decide +kernel
theorem dH_drop_22 : decode cH_drop 22 = .ok (.getfield 12, 3) := by decide +kernel
theorem dH_drop_25 : decode cH_drop 25 = .ok (.invokevirtual 197, 3) := by decide +kernel
theorem dH_drop_28 : decode cH_drop 28 = .ok (.if_icmp .ge 11, 3) := by decide +kernel
theorem dH_drop_31 : decode cH_drop 31 = .ok (.new 68, 3) := by decide +kernel
theorem dH_drop_34 : decode cH_drop 34 = .ok (.dup, 1) := by decide +kernel
theorem dH_drop_35 : decode cH_drop 35 = .ok (.invokespecial 70, 3) := by decide +kernel
theorem dH_drop_38 : decode cH_drop 38 = .ok (.athrow, 1) := by decide +kernel
theorem dH_drop_39 : decode cH_drop 39 = .ok (.aload_n 0, 1) := by decide +kernel
theorem dH_drop_40 : decode cH_drop 40 = .ok (.getfield 19, 3) := by decide +kernel
theorem dH_drop_43 : decode cH_drop 43 = .ok (.aload_n 0, 1) := by decide +kernel
theorem dH_drop_44 : decode cH_drop 44 = .ok (.getfield 19, 3) := by decide +kernel
theorem dH_drop_47 : decode cH_drop 47 = .ok (.getfield 201, 3) := by decide +kernel
theorem dH_drop_50 : decode cH_drop 50 = .ok (.invokevirtual 204, 3) := by decide +kernel
theorem dH_drop_53 : decode cH_drop 53 = .ok (.aload_n 0, 1) := by decide +kernel
theorem dH_drop_54 : decode cH_drop 54 = .ok (.getfield 12, 3) := by decide +kernel
theorem dH_drop_57 : decode cH_drop 57 = .ok (.dup, 1) := by decide +kernel
theorem dH_drop_58 : decode cH_drop 58 = .ok (.getfield 207, 3) := by decide +kernel
theorem dH_drop_61 : decode cH_drop 61 = .ok (.iconst 1, 1) := by decide +kernel
theorem dH_drop_62 : decode cH_drop 62 = .ok (.iadd, 1) := by decide +kernel
theorem dH_drop_63 : decode cH_drop 63 = .ok (.putfield 207, 3) := by decide +kernel
theorem dH_drop_66 : decode cH_drop 66 = .ok (.aload_n 0, 1) := by decide +kernel
theorem dH_drop_67 : decode cH_drop 67 = .ok (.getfield 12, 3) := by decide +kernel
theorem dH_drop_70 : decode cH_drop 70 = .ok (.getfield 207, 3) := by decide +kernel
theorem dH_drop_73 : decode cH_drop 73 = .ok (.ireturn, 1) := by decide +kernel
theorem dH_cut_0 : decode cH_cut 0 = .ok (.iload_n 1, 1) := by decide +kernel
theorem dH_cut_1 : decode cH_cut 1 = .ok (.ifCond .lt 14, 3) := by decide +kernel
theorem dH_cut_4 : decode cH_cut 4 = .ok (.iload_n 1, 1) := by decide +kernel
theorem dH_cut_5 : decode cH_cut 5 = .ok (.aload_n 0, 1) := by decide +kernel
theorem dH_cut_6 : decode cH_cut 6 = .ok (.getfield 19, 3) := by decide +kernel
theorem dH_cut_9 : decode cH_cut 9 = .ok (.getfield 201, 3) := by decide +kernel
theorem dH_cut_12 : decode cH_cut 12 = .ok (.if_icmp .le 11, 3) := by decide +kernel
theorem dH_cut_15 : decode cH_cut 15 = .ok (.new 61, 3) := by decide +kernel
theorem dH_cut_18 : decode cH_cut 18 = .ok (.dup, 1) := by decide +kernel
theorem dH_cut_19 : decode cH_cut 19 = .ok (.invokespecial 63, 3) := by decide +kernel
theorem dH_cut_22 : decode cH_cut 22 = .ok (.athrow, 1) := by decide +kernel
theorem dH_cut_23 : decode cH_cut 23 = .ok (.aload_n 0, 1) := by decide +kernel
theorem dH_cut_24 : decode cH_cut 24 = .ok (.getfield 57, 3) := by decide +kernel
theorem dH_cut_27 : decode cH_cut 27 = .ok (.ifCond .ne 11, 3) := by decide +kernel
theorem dH_cut_30 : decode cH_cut 30 = .ok (.new 68, 3) := by decide +kernel
theorem dH_cut_33 : decode cH_cut 33 = .ok (.dup, 1) := by decide +kernel
theorem dH_cut_34 : decode cH_cut 34 = .ok (.invokespecial 70, 3) := by decide +kernel
theorem dH_cut_37 : decode cH_cut 37 = .ok (.athrow, 1) := by decide +kernel
theorem dH_cut_38 : decode cH_cut 38 = .ok (.aload_n 0, 1) := by decide +kernel
theorem dH_cut_39 : decode cH_cut 39 = .ok (.getfield 19, 3) := by decide +kernel
theorem dH_cut_42 : decode cH_cut 42 = .ok (.iload_n 1, 1) := by decide +kernel
theorem dH_cut_43 : decode cH_cut 43 = .ok (.invokevirtual 204, 3) := by decide +kernel
theorem dH_cut_46 : decode cH_cut 46 = .ok (.aload_n 0, 1) := by decide +kernel
theorem dH_cut_47 : decode cH_cut 47 = .ok (.iconst 0, 1) := by decide +kernel
theorem dH_cut_48 : decode cH_cut 48 = .ok (.putfield 57, 3) := by decide +kernel
theorem dH_cut_51 : decode cH_cut 51 = .ok (.aload_n 0, 1) := by decide +kernel
theorem dH_cut_52 : decode cH_cut 52 = .ok (.getfield 19, 3) := by decide +kernel
theorem dH_cut_55 : decode cH_cut 55 = .ok (.invokevirtual 210, 3) := by decide +kernel
theorem dH_cut_58 : decode cH_cut 58 = .ok (.ireturn, 1) := by decide +kernel
theorem dH_start_0 : decode cH_start 0 = .ok (.aload_n 0, 1) := by decide +kernel
theorem dH_start_1 : decode cH_start 1 = .ok (.getfield 57, 3) := by decide +kernel
theorem dH_start_4 : decode cH_start 4 = .ok (.ifCond .eq 11, 3) := by decide +kernel
theorem dH_start_7 : decode cH_start 7 = .ok (.new 68, 3) := by decide +kernel
theorem dH_start_10 : decode cH_start 10 = .ok (.dup, 1) := by decide +kernel
theorem dH_start_11 : decode cH_start 11 = .ok (.invokespecial 70, 3) := by decide +kernel
theorem dH_start_14 : decode cH_start 14 = .ok (.athrow, 1) := by decide +kernel
theorem dH_start_15 : decode cH_start 15 = .ok (.aload_n 0, 1) := by decide +kernel
theorem dH_start_16 : decode cH_start 16 = .ok (.getfield 19, 3) := by decide +kernel
theorem dH_start_19 : decode cH_start 19 = .ok (.invokevirtual 213, 3) := by decide +kernel
theorem dH_start_22 : decode cH_start 22 = .ok (.aload_n 0, 1) := by decide +kernel
theorem dH_start_23 : decode cH_start 23 = .ok (.getfield 12, 3) := by decide +kernel
theorem dH_start_26 : decode cH_start 26 = .ok (.invokevirtual 216, 3) := by decide +kernel
theorem dH_start_29 : decode cH_start 29 = .ok (.istore_n 1, 1) := by decide +kernel
theorem dH_start_30 : decode cH_start 30 = .ok (.iload_n 1, 1) := by decide +kernel
theorem dH_start_31 : decode cH_start 31 = .ok (.aload_n 0, 1) := by decide +kernel
theorem dH_start_32 : decode cH_start 32 = .ok (.getfield 12, 3) := by decide +kernel
theorem dH_start_35 : decode cH_start 35 = .ok (.getfield 93, 3) := by decide +kernel
theorem dH_start_38 : decode cH_start 38 = .ok (.if_icmp .gt 48, 3) := by decide +kernel
theorem dH_start_41 : decode cH_start 41 = .ok (.aload_n 0, 1) := by decide +kernel
theorem dH_start_42 : decode cH_start 42 = .ok (.getfield 12, 3) := by decide +kernel
theorem dH_start_45 : decode cH_start 45 = .ok (.getfield 180, 3) := by decide +kernel
theorem dH_start_48 : decode cH_start 48 = .ok (.iload_n 1, 1) := by decide +kernel
theorem dH_start_49 : decode cH_start 49 = .ok (.iaload, 1) := by decide +kernel
theorem dH_start_50 : decode cH_start 50 = .ok (.iconst 1, 1) := by decide +kernel
theorem dH_start_51 : decode cH_start 51 = .ok (.if_icmp .ne 29, 3) := by decide +kernel
theorem dH_start_54 : decode cH_start 54 = .ok (.aload_n 0, 1) := by decide +kernel
theorem dH_start_55 : decode cH_start 55 = .ok (.getfield 19, 3) := by decide +kernel
theorem dH_start_58 : decode cH_start 58 = .ok (.getfield 96, 3) := by decide +kernel
theorem dH_start_61 : decode cH_start 61 = .ok (.aload_n 0, 1) := by decide +kernel
theorem dH_start_62 : decode cH_start 62 = .ok (.getfield 12, 3) := by decide +kernel
theorem dH_start_65 : decode cH_start 65 = .ok (.getfield 155, 3) := by decide +kernel
theorem dH_start_68 : decode cH_start 68 = .ok (.iload_n 1, 1) := by decide +kernel
theorem dH_start_69 : decode cH_start 69 = .ok (.iaload, 1) := by decide +kernel
theorem dH_start_70 : decode cH_start 70 = .ok (.aload_n 0, 1) := by decide +kernel
theorem dH_start_71 : decode cH_start 71 = .ok (.getfield 12, 3) := by decide +kernel
theorem dH_start_74 : decode cH_start 74 = .ok (.getfield 162, 3) := by decide +kernel
theorem dH_start_77 : decode cH_start 77 = .ok (.iload_n 1, 1) := by decide +kernel
theorem dH_start_78 : decode cH_start 78 = .ok (.iaload, 1) := by decide +kernel
theorem dH_start_79 : decode cH_start 79 = .ok (.iastore, 1) := by decide +kernel
theorem dH_start_80 : decode cH_start 80 = .ok (.iinc 1 1, 3) := by decide +kernel
theorem dH_start_83 : decode cH_start 83 = .ok (.goto (-53), 3) := by decide +kernel
theorem dH_start_86 : decode cH_start 86 = .ok (.aload_n 0, 1) := by decide +kernel
theorem dH_start_87 : decode cH_start 87 = .ok (.getfield 19, 3) := by decide +kernel
theorem dH_start_90 : decode cH_start 90 = .ok (.invokevirtual 219, 3) := by decide +kernel
theorem dH_start_93 : decode cH_start 93 = .ok (.aload_n 0, 1) := by decide +kernel
theorem dH_start_94 : decode cH_start 94 = .ok (.iconst 1, 1) := by decide +kernel
theorem dH_start_95 : decode cH_start 95 = .ok (.putfield 57, 3) := by decide +kernel
theorem dH_start_98 : decode cH_start 98 = .ok (.iconst 0, 1) := by decide +kernel
theorem dH_start_99 : decode cH_start 99 = .ok (.istore_n 1, 1) := by decide +kernel
theorem dH_start_100 : decode cH_start 100 = .ok (.iload_n 1, 1) := by decide +kernel
theorem dH_start_101 : decode cH_start 101 = .ok (.iconst 3, 1) := by decide +kernel
theorem dH_start_102 : decode cH_start 102 = .ok (.if_icmp .ge 25, 3) := by decide +kernel
theorem dH_start_105 : decode cH_start 105 = .ok (.aload_n 0, 1) := by decide +kernel
theorem dH_start_106 : decode cH_start 106 = .ok (.getfield 12, 3) := by decide +kernel
theorem dH_start_109 : decode cH_start 109 = .ok (.iload_n 1, 1) := by decide +kernel
theorem dH_start_110 : decode cH_start 110 = .ok (.invokevirtual 104, 3) := by decide +kernel
theorem dH_start_113 : decode cH_start 113 = .ok (.ifCond .eq 8, 3) := by decide +kernel
theorem dH_start_116 : decode cH_start 116 = .ok (.aload_n 0, 1) := by decide +kernel
theorem dH_start_117 : decode cH_start 117 = .ok (.iload_n 1, 1) := by decide +kernel
theorem dH_start_118 : decode cH_start 118 = .ok (.invokevirtual 111, 3) := by decide +kernel
theorem dH_start_121 : decode cH_start 121 = .ok (.iinc 1 1, 3) := by decide +kernel
theorem dH_start_124 : decode cH_start 124 = .ok (.goto (-24), 3) := by decide +kernel
theorem dH_start_127 : decode cH_start 127 = .ok (.aload_n 0, 1) := by decide +kernel
theorem dH_start_128 : decode cH_start 128 = .ok (.getfield 12, 3) := by decide +kernel
theorem dH_start_131 : decode cH_start 131 = .ok (.getfield 93, 3) := by decide +kernel
theorem dH_start_134 : decode cH_start 134 = .ok (.ireturn, 1) := by decide +kernel
theorem dH_link_0 : decode cH_link 0 = .ok (.iload_n 2, 1) := by decide +kernel
theorem dH_link_1 : decode cH_link 1 = .ok (.ifCond .lt 8, 3) := by decide +kernel
theorem dH_link_4 : decode cH_link 4 = .ok (.iload_n 2, 1) := by decide +kernel
theorem dH_link_5 : decode cH_link 5 = .ok (.iconst 3, 1) := by decide +kernel
theorem dH_link_6 : decode cH_link 6 = .ok (.if_icmp .le 11, 3) := by decide +kernel
theorem dH_link_9 : decode cH_link 9 = .ok (.new 61, 3) := by decide +kernel
theorem dH_link_12 : decode cH_link 12 = .ok (.dup, 1) := by decide +kernel
theorem dH_link_13 : decode cH_link 13 = .ok (.invokespecial 63, 3) := by decide +kernel
theorem dH_link_16 : decode cH_link 16 = .ok (.athrow, 1) := by decide +kernel
theorem dH_link_17 : decode cH_link 17 = .ok (.iload_n 2, 1) := by decide +kernel
theorem dH_link_18 : decode cH_link 18 = .ok (.iconst 3, 1) := by decide +kernel
theorem dH_link_19 : decode cH_link 19 = .ok (.if_icmp .ne 17, 3) := by decide +kernel
theorem dH_link_22 : decode cH_link 22 = .ok (.aload_n 0, 1) := by decide +kernel
theorem dH_link_23 : decode cH_link 23 = .ok (.getfield 12, 3) := by decide +kernel
theorem dH_link_26 : decode cH_link 26 = .ok (.iload_n 1, 1) := by decide +kernel
theorem dH_link_27 : decode cH_link 27 = .ok (.invokevirtual 177, 3) := by decide +kernel
theorem dH_link_30 : decode cH_link 30 = .ok (.ifCond .ne 25, 3) := by decide +kernel
theorem dH_link_33 : decode cH_link 33 = .ok (.goto 14, 3) := by decide +kernel
theorem dH_link_36 : decode cH_link 36 = .ok (.aload_n 0, 1) := by decide +kernel
theorem dH_link_37 : decode cH_link 37 = .ok (.getfield 33, 3) := by decide +kernel
theorem dH_link_40 : decode cH_link 40 = .ok (.iload_n 1, 1) := by decide +kernel
theorem dH_link_41 : decode cH_link 41 = .ok (.invokevirtual 222, 3) := by decide +kernel
theorem dH_link_44 : decode cH_link 44 = .ok (.ifCond .ne 11, 3) := by decide +kernel
theorem dH_link_47 : decode cH_link 47 = .ok (.new 61, 3) := by decide +kernel
theorem dH_link_50 : decode cH_link 50 = .ok (.dup, 1) := by decide +kernel
theorem dH_link_51 : decode cH_link 51 = .ok (.invokespecial 63, 3) := by decide +kernel
theorem dH_link_54 : decode cH_link 54 = .ok (.athrow, 1) := by decide +kernel
theorem dH_link_55 : decode cH_link 55 = .ok (.iload_n 2, 1) := by decide +kernel
theorem dH_link_56 : decode cH_link 56 = .ok (.iconst 3, 1) := by decide +kernel
theorem dH_link_57 : decode cH_link 57 = .ok (.if_icmp .eq 8, 3) := by decide +kernel
theorem dH_link_60 : decode cH_link 60 = .ok (.iload_n 2, 1) := by decide +kernel
theorem dH_link_61 : decode cH_link 61 = .ok (.iconst 2, 1) := by decide +kernel
theorem dH_link_62 : decode cH_link 62 = .ok (.if_icmp .ne 7, 3) := by decide +kernel
theorem dH_link_65 : decode cH_link 65 = .ok (.iconst 1, 1) := by decide +kernel
theorem dH_link_66 : decode cH_link 66 = .ok (.goto 4, 3) := by decide +kernel
theorem dH_link_69 : decode cH_link 69 = .ok (.iconst 0, 1) := by decide +kernel
theorem dH_link_70 : decode cH_link 70 = .ok (.istore_n 3, 1) := by decide +kernel
theorem dH_link_71 : decode cH_link 71 = .ok (.iload_n 2, 1) := by decide +kernel
theorem dH_link_72 : decode cH_link 72 = .ok (.iconst 3, 1) := by decide +kernel
theorem dH_link_73 : decode cH_link 73 = .ok (.if_icmp .ne 10, 3) := by decide +kernel
theorem dH_link_76 : decode cH_link 76 = .ok (.aload_n 0, 1) := by decide +kernel
theorem dH_link_77 : decode cH_link 77 = .ok (.getfield 57, 3) := by decide +kernel
theorem dH_link_80 : decode cH_link 80 = .ok (.ifCond .eq 19, 3) := by decide +kernel
theorem dH_link_83 : decode cH_link 83 = .ok (.iload_n 3, 1) := by decide +kernel
theorem dH_link_84 : decode cH_link 84 = .ok (.ifCond .eq 23, 3) := by decide +kernel
theorem dH_link_87 : decode cH_link 87 = .ok (.aload_n 0, 1) := by decide +kernel
theorem dH_link_88 : decode cH_link 88 = .ok (.getfield 33, 3) := by decide +kernel
theorem dH_link_91 : decode cH_link 91 = .ok (.getfield 225, 3) := by decide +kernel
theorem dH_link_94 : decode cH_link 94 = .ok (.bipush 16, 2) := by decide +kernel
theorem dH_link_96 : decode cH_link 96 = .ok (.if_icmp .ne 11, 3) := by decide +kernel
theorem dH_link_99 : decode cH_link 99 = .ok (.new 68, 3) := by decide +kernel
theorem dH_link_102 : decode cH_link 102 = .ok (.dup, 1) := by decide +kernel
theorem dH_link_103 : decode cH_link 103 = .ok (.invokespecial 70, 3) := by decide +kernel
theorem dH_link_106 : decode cH_link 106 = .ok (.athrow, 1) := by decide +kernel
theorem dH_link_107 : decode cH_link 107 = .ok (.iload_n 2, 1) := by decide +kernel
theorem dH_link_108 : decode cH_link 108 = .ok (.tableswitch 81 0 2 #[28, 50, 62], 28) := by decide +kernel
theorem dH_link_136 : decode cH_link 136 = .ok (.aload_n 0, 1) := by decide +kernel
theorem dH_link_137 : decode cH_link 137 = .ok (.getfield 40, 3) := by decide +kernel
theorem dH_link_140 : decode cH_link 140 = .ok (.aload_n 0, 1) := by decide +kernel
theorem dH_link_141 : decode cH_link 141 = .ok (.getfield 33, 3) := by decide +kernel
theorem dH_link_144 : decode cH_link 144 = .ok (.iload_n 1, 1) := by decide +kernel
theorem dH_link_145 : decode cH_link 145 = .ok (.invokevirtual 228, 3) := by decide +kernel
theorem dH_link_148 : decode cH_link 148 = .ok (.aload_n 0, 1) := by decide +kernel
theorem dH_link_149 : decode cH_link 149 = .ok (.getfield 12, 3) := by decide +kernel
theorem dH_link_152 : decode cH_link 152 = .ok (.invokevirtual 231, 3) := by decide +kernel
theorem dH_link_155 : decode cH_link 155 = .ok (.goto 42, 3) := by decide +kernel
theorem dH_link_158 : decode cH_link 158 = .ok (.aload_n 0, 1) := by decide +kernel
theorem dH_link_159 : decode cH_link 159 = .ok (.getfield 33, 3) := by decide +kernel
theorem dH_link_162 : decode cH_link 162 = .ok (.iload_n 1, 1) := by decide +kernel
theorem dH_link_163 : decode cH_link 163 = .ok (.invokevirtual 228, 3) := by decide +kernel
theorem dH_link_166 : decode cH_link 166 = .ok (.pop, 1) := by decide +kernel
theorem dH_link_167 : decode cH_link 167 = .ok (.goto 30, 3) := by decide +kernel
theorem dH_link_170 : decode cH_link 170 = .ok (.aload_n 0, 1) := by decide +kernel
theorem dH_link_171 : decode cH_link 171 = .ok (.getfield 33, 3) := by decide +kernel
theorem dH_link_174 : decode cH_link 174 = .ok (.aload_n 0, 1) := by decide +kernel
theorem dH_link_175 : decode cH_link 175 = .ok (.getfield 33, 3) := by decide +kernel
theorem dH_link_178 : decode cH_link 178 = .ok (.getfield 235, 3) := by decide +kernel
theorem dH_link_181 : decode cH_link 181 = .ok (.iload_n 1, 1) := by decide +kernel
theorem dH_link_182 : decode cH_link 182 = .ok (.iaload, 1) := by decide +kernel
theorem dH_link_183 : decode cH_link 183 = .ok (.invokevirtual 238, 3) := by decide +kernel
theorem dH_link_186 : decode cH_link 186 = .ok (.goto 11, 3) := by decide +kernel
theorem dH_link_189 : decode cH_link 189 = .ok (.aload_n 0, 1) := by decide +kernel
theorem dH_link_190 : decode cH_link 190 = .ok (.getfield 33, 3) := by decide +kernel
theorem dH_link_193 : decode cH_link 193 = .ok (.iload_n 1, 1) := by decide +kernel
theorem dH_link_194 : decode cH_link 194 = .ok (.invokevirtual 238, 3) := by decide +kernel
theorem dH_link_197 : decode cH_link 197 = .ok (.aload_n 0, 1) := by decide +kernel
theorem dH_link_198 : decode cH_link 198 = .ok (.getfield 33, 3) := by decide +kernel
theorem dH_link_201 : decode cH_link 201 = .ok (.getfield 225, 3) := by decide +kernel
theorem dH_link_204 : decode cH_link 204 = .ok (.ireturn, 1) := by decide +kernel
theorem dH_ack_0 : decode cH_ack 0 = .ok (.aload_n 0, 1) := by decide +kernel
theorem dH_ack_1 : decode cH_ack 1 = .ok (.getfield 57, 3) := by decide +kernel
theorem dH_ack_4 : decode cH_ack 4 = .ok (.ifCond .ne 11, 3) := by decide +kernel
theorem dH_ack_7 : decode cH_ack 7 = .ok (.new 68, 3) := by decide +kernel
theorem dH_ack_10 : decode cH_ack 10 = .ok (.dup, 1) := by decide +kernel
theorem dH_ack_11 : decode cH_ack 11 = .ok (.invokespecial 70, 3) := by decide +kernel
theorem dH_ack_14 : decode cH_ack 14 = .ok (.athrow, 1) := by decide +kernel
theorem dH_ack_15 : decode cH_ack 15 = .ok (.aload_n 0, 1) := by decide +kernel
theorem dH_ack_16 : decode cH_ack 16 = .ok (.aload_n 0, 1) := by decide +kernel
theorem dH_ack_17 : decode cH_ack 17 = .ok (.getfield 40, 3) := by decide +kernel
theorem dH_ack_20 : decode cH_ack 20 = .ok (.getfield 241, 3) := by decide +kernel
theorem dH_ack_23 : decode cH_ack 23 = .ok (.putfield 194, 3) := by decide +kernel
theorem dH_ack_26 : decode cH_ack 26 = .ok (.aload_n 0, 1) := by decide +kernel
theorem dH_ack_27 : decode cH_ack 27 = .ok (.getfield 194, 3) := by decide +kernel
theorem dH_ack_30 : decode cH_ack 30 = .ok (.ireturn, 1) := by decide +kernel
theorem dH_remote_0 : decode cH_remote 0 = .ok (.aload_n 0, 1) := by decide +kernel
theorem dH_remote_1 : decode cH_remote 1 = .ok (.iload_n 1, 1) := by decide +kernel
theorem dH_remote_2 : decode cH_remote 2 = .ok (.iload_n 2, 1) := by decide +kernel
theorem dH_remote_3 : decode cH_remote 3 = .ok (.invokevirtual 75, 3) := by decide +kernel
theorem dH_remote_6 : decode cH_remote 6 = .ok (.ifCond .eq 20, 3) := by decide +kernel
theorem dH_remote_9 : decode cH_remote 9 = .ok (.aload_n 0, 1) := by decide +kernel
theorem dH_remote_10 : decode cH_remote 10 = .ok (.getfield 40, 3) := by decide +kernel
theorem dH_remote_13 : decode cH_remote 13 = .ok (.getfield 248, 3) := by decide +kernel
theorem dH_remote_16 : decode cH_remote 16 = .ok (.iload_n 1, 1) := by decide +kernel
theorem dH_remote_17 : decode cH_remote 17 = .ok (.iload_n 2, 1) := by decide +kernel
theorem dH_remote_18 : decode cH_remote 18 = .ok (.invokestatic 79, 3) := by decide +kernel
theorem dH_remote_21 : decode cH_remote 21 = .ok (.iaload, 1) := by decide +kernel
theorem dH_remote_22 : decode cH_remote 22 = .ok (.i2l, 1) := by decide +kernel
theorem dH_remote_23 : decode cH_remote 23 = .ok (.goto 6, 3) := by decide +kernel
theorem dH_remote_26 : decode cH_remote 26 = .ok (.ldc2_w 99, 3) := by decide +kernel
theorem dH_remote_29 : decode cH_remote 29 = .ok (.lreturn, 1) := by decide +kernel
theorem dH_isJob_0 : decode cH_isJob 0 = .ok (.iload_n 1, 1) := by decide +kernel
theorem dH_isJob_1 : decode cH_isJob 1 = .ok (.ifCond .lt 12, 3) := by decide +kernel
theorem dH_isJob_4 : decode cH_isJob 4 = .ok (.iload_n 1, 1) := by decide +kernel
theorem dH_isJob_5 : decode cH_isJob 5 = .ok (.iconst 3, 1) := by decide +kernel
theorem dH_isJob_6 : decode cH_isJob 6 = .ok (.if_icmp .ge 7, 3) := by decide +kernel
theorem dH_isJob_9 : decode cH_isJob 9 = .ok (.iconst 1, 1) := by decide +kernel
theorem dH_isJob_10 : decode cH_isJob 10 = .ok (.goto 4, 3) := by decide +kernel
theorem dH_isJob_13 : decode cH_isJob 13 = .ok (.iconst 0, 1) := by decide +kernel
theorem dH_isJob_14 : decode cH_isJob 14 = .ok (.ireturn, 1) := by decide +kernel
theorem dH_isFile_0 : decode cH_isFile 0 = .ok (.iload_n 1, 1) := by decide +kernel
theorem dH_isFile_1 : decode cH_isFile 1 = .ok (.ifCond .lt 15, 3) := by decide +kernel
theorem dH_isFile_4 : decode cH_isFile 4 = .ok (.iload_n 1, 1) := by decide +kernel
theorem dH_isFile_5 : decode cH_isFile 5 = .ok (.aload_n 0, 1) := by decide +kernel
theorem dH_isFile_6 : decode cH_isFile 6 = .ok (.getfield 64, 3) := by decide +kernel
theorem dH_isFile_9 : decode cH_isFile 9 = .ok (.if_icmp .ge 7, 3) := by decide +kernel
theorem dH_isFile_12 : decode cH_isFile 12 = .ok (.iconst 1, 1) := by decide +kernel
theorem dH_isFile_13 : decode cH_isFile 13 = .ok (.goto 4, 3) := by decide +kernel
theorem dH_isFile_16 : decode cH_isFile 16 = .ok (.iconst 0, 1) := by decide +kernel
theorem dH_isFile_17 : decode cH_isFile 17 = .ok (.ireturn, 1) := by decide +kernel
theorem dH_isRecord_0 : decode cH_isRecord 0 = .ok (.aload_n 0, 1) := by decide +kernel
theorem dH_isRecord_1 : decode cH_isRecord 1 = .ok (.iload_n 1, 1) := by decide +kernel
theorem dH_isRecord_2 : decode cH_isRecord 2 = .ok (.invokevirtual 115, 3) := by decide +kernel
theorem dH_isRecord_5 : decode cH_isRecord 5 = .ok (.ifCond .eq 21, 3) := by decide +kernel
theorem dH_isRecord_8 : decode cH_isRecord 8 = .ok (.iload_n 2, 1) := by decide +kernel
theorem dH_isRecord_9 : decode cH_isRecord 9 = .ok (.ifCond .lt 17, 3) := by decide +kernel
theorem dH_isRecord_12 : decode cH_isRecord 12 = .ok (.iload_n 2, 1) := by decide +kernel
theorem dH_isRecord_13 : decode cH_isRecord 13 = .ok (.aload_n 0, 1) := by decide +kernel
theorem dH_isRecord_14 : decode cH_isRecord 14 = .ok (.getfield 44, 3) := by decide +kernel
theorem dH_isRecord_17 : decode cH_isRecord 17 = .ok (.iload_n 1, 1) := by decide +kernel
theorem dH_isRecord_18 : decode cH_isRecord 18 = .ok (.iaload, 1) := by decide +kernel
theorem dH_isRecord_19 : decode cH_isRecord 19 = .ok (.if_icmp .ge 7, 3) := by decide +kernel
theorem dH_isRecord_22 : decode cH_isRecord 22 = .ok (.iconst 1, 1) := by decide +kernel
theorem dH_isRecord_23 : decode cH_isRecord 23 = .ok (.goto 4, 3) := by decide +kernel
theorem dH_isRecord_26 : decode cH_isRecord 26 = .ok (.iconst 0, 1) := by decide +kernel
theorem dH_isRecord_27 : decode cH_isRecord 27 = .ok (.ireturn, 1) := by decide +kernel
theorem dH_isSlot_0 : decode cH_isSlot 0 = .ok (.iload_n 1, 1) := by decide +kernel
theorem dH_isSlot_1 : decode cH_isSlot 1 = .ok (.ifCond .lt 12, 3) := by decide +kernel
theorem dH_isSlot_4 : decode cH_isSlot 4 = .ok (.iload_n 1, 1) := by decide +kernel
theorem dH_isSlot_5 : decode cH_isSlot 5 = .ok (.iconst 4, 1) := by decide +kernel
theorem dH_isSlot_6 : decode cH_isSlot 6 = .ok (.if_icmp .ge 7, 3) := by decide +kernel
theorem dH_isSlot_9 : decode cH_isSlot 9 = .ok (.iconst 1, 1) := by decide +kernel
theorem dH_isSlot_10 : decode cH_isSlot 10 = .ok (.goto 4, 3) := by decide +kernel
theorem dH_isSlot_13 : decode cH_isSlot 13 = .ok (.iconst 0, 1) := by decide +kernel
theorem dH_isSlot_14 : decode cH_isSlot 14 = .ok (.ireturn, 1) := by decide +kernel
theorem dH_cellOf_0 : decode cH_cellOf 0 = .ok (.iload_n 0, 1) := by decide +kernel
theorem dH_cellOf_1 : decode cH_cellOf 1 = .ok (.bipush 8, 2) := by decide +kernel
theorem dH_cellOf_3 : decode cH_cellOf 3 = .ok (.imul, 1) := by decide +kernel
theorem dH_cellOf_4 : decode cH_cellOf 4 = .ok (.iload_n 1, 1) := by decide +kernel
theorem dH_cellOf_5 : decode cH_cellOf 5 = .ok (.iadd, 1) := by decide +kernel
theorem dH_cellOf_6 : decode cH_cellOf 6 = .ok (.ireturn, 1) := by decide +kernel
theorem dH_fileOf_0 : decode cH_fileOf 0 = .ok (.iload_n 0, 1) := by decide +kernel
theorem dH_fileOf_1 : decode cH_fileOf 1 = .ok (.bipush 8, 2) := by decide +kernel
theorem dH_fileOf_3 : decode cH_fileOf 3 = .ok (.idiv, 1) := by decide +kernel
theorem dH_fileOf_4 : decode cH_fileOf 4 = .ok (.ireturn, 1) := by decide +kernel
theorem dH_recordOf_0 : decode cH_recordOf 0 = .ok (.iload_n 0, 1) := by decide +kernel
theorem dH_recordOf_1 : decode cH_recordOf 1 = .ok (.bipush 8, 2) := by decide +kernel
theorem dH_recordOf_3 : decode cH_recordOf 3 = .ok (.irem, 1) := by decide +kernel
theorem dH_recordOf_4 : decode cH_recordOf 4 = .ok (.ireturn, 1) := by decide +kernel
theorem dH_partOfChange_0 : decode cH_partOfChange 0 = .ok (.iload_n 2, 1) := by decide +kernel
theorem dH_partOfChange_1 : decode cH_partOfChange 1 = .ok (.tableswitch 81 2 5 #[31, 45, 59, 70], 31) := by decide +kernel
theorem dH_partOfChange_32 : decode cH_partOfChange 32 = .ok (.aload_n 0, 1) := by decide +kernel
theorem dH_partOfChange_33 : decode cH_partOfChange 33 = .ok (.getfield 12, 3) := by decide +kernel
theorem dH_partOfChange_36 : decode cH_partOfChange 36 = .ok (.getfield 155, 3) := by decide +kernel
theorem dH_partOfChange_39 : decode cH_partOfChange 39 = .ok (.iload_n 1, 1) := by decide +kernel
theorem dH_partOfChange_40 : decode cH_partOfChange 40 = .ok (.iaload, 1) := by decide +kernel
theorem dH_partOfChange_41 : decode cH_partOfChange 41 = .ok (.invokestatic 249, 3) := by decide +kernel
theorem dH_partOfChange_44 : decode cH_partOfChange 44 = .ok (.i2l, 1) := by decide +kernel
theorem dH_partOfChange_45 : decode cH_partOfChange 45 = .ok (.lreturn, 1) := by decide +kernel
theorem dH_partOfChange_46 : decode cH_partOfChange 46 = .ok (.aload_n 0, 1) := by decide +kernel
theorem dH_partOfChange_47 : decode cH_partOfChange 47 = .ok (.getfield 12, 3) := by decide +kernel
theorem dH_partOfChange_50 : decode cH_partOfChange 50 = .ok (.getfield 155, 3) := by decide +kernel
theorem dH_partOfChange_53 : decode cH_partOfChange 53 = .ok (.iload_n 1, 1) := by decide +kernel
theorem dH_partOfChange_54 : decode cH_partOfChange 54 = .ok (.iaload, 1) := by decide +kernel
theorem dH_partOfChange_55 : decode cH_partOfChange 55 = .ok (.invokestatic 158, 3) := by decide +kernel
theorem dH_partOfChange_58 : decode cH_partOfChange 58 = .ok (.i2l, 1) := by decide +kernel
theorem dH_partOfChange_59 : decode cH_partOfChange 59 = .ok (.lreturn, 1) := by decide +kernel
theorem dH_partOfChange_60 : decode cH_partOfChange 60 = .ok (.aload_n 0, 1) := by decide +kernel
theorem dH_partOfChange_61 : decode cH_partOfChange 61 = .ok (.getfield 12, 3) := by decide +kernel
theorem dH_partOfChange_64 : decode cH_partOfChange 64 = .ok (.getfield 171, 3) := by decide +kernel
theorem dH_partOfChange_67 : decode cH_partOfChange 67 = .ok (.iload_n 1, 1) := by decide +kernel
theorem dH_partOfChange_68 : decode cH_partOfChange 68 = .ok (.iaload, 1) := by decide +kernel
theorem dH_partOfChange_69 : decode cH_partOfChange 69 = .ok (.i2l, 1) := by decide +kernel
theorem dH_partOfChange_70 : decode cH_partOfChange 70 = .ok (.lreturn, 1) := by decide +kernel
theorem dH_partOfChange_71 : decode cH_partOfChange 71 = .ok (.aload_n 0, 1) := by decide +kernel
theorem dH_partOfChange_72 : decode cH_partOfChange 72 = .ok (.getfield 12, 3) := by decide +kernel
theorem dH_partOfChange_75 : decode cH_partOfChange 75 = .ok (.getfield 162, 3) := by decide +kernel
theorem dH_partOfChange_78 : decode cH_partOfChange 78 = .ok (.iload_n 1, 1) := by decide +kernel
theorem dH_partOfChange_79 : decode cH_partOfChange 79 = .ok (.iaload, 1) := by decide +kernel
theorem dH_partOfChange_80 : decode cH_partOfChange 80 = .ok (.i2l, 1) := by decide +kernel
theorem dH_partOfChange_81 : decode cH_partOfChange 81 = .ok (.lreturn, 1) := by decide +kernel
theorem dH_partOfChange_82 : decode cH_partOfChange 82 = .ok (.ldc2_w 99, 3) := by decide +kernel
theorem dH_partOfChange_85 : decode cH_partOfChange 85 = .ok (.lreturn, 1) := by decide +kernel
theorem dH_writeChange_0 : decode cH_writeChange 0 = .ok (.aload_n 0, 1) := by decide +kernel
theorem dH_writeChange_1 : decode cH_writeChange 1 = .ok (.getfield 12, 3) := by decide +kernel
theorem dH_writeChange_4 : decode cH_writeChange 4 = .ok (.iload_n 1, 1) := by decide +kernel
theorem dH_writeChange_5 : decode cH_writeChange 5 = .ok (.iload_n 2, 1) := by decide +kernel
theorem dH_writeChange_6 : decode cH_writeChange 6 = .ok (.aload_n 0, 1) := by decide +kernel
theorem dH_writeChange_7 : decode cH_writeChange 7 = .ok (.getfield 19, 3) := by decide +kernel
theorem dH_writeChange_10 : decode cH_writeChange 10 = .ok (.getfield 96, 3) := by decide +kernel
theorem dH_writeChange_13 : decode cH_writeChange 13 = .ok (.iload_n 2, 1) := by decide +kernel
theorem dH_writeChange_14 : decode cH_writeChange 14 = .ok (.iaload, 1) := by decide +kernel
theorem dH_writeChange_15 : decode cH_writeChange 15 = .ok (.iload_n 3, 1) := by decide +kernel
theorem dH_writeChange_16 : decode cH_writeChange 16 = .ok (.invokevirtual 252, 3) := by decide +kernel
theorem dH_writeChange_19 : decode cH_writeChange 19 = .ok (.aload_n 0, 1) := by decide +kernel
theorem dH_writeChange_20 : decode cH_writeChange 20 = .ok (.getfield 19, 3) := by decide +kernel
theorem dH_writeChange_23 : decode cH_writeChange 23 = .ok (.iload_n 2, 1) := by decide +kernel
theorem dH_writeChange_24 : decode cH_writeChange 24 = .ok (.iload_n 3, 1) := by decide +kernel
theorem dH_writeChange_25 : decode cH_writeChange 25 = .ok (.invokevirtual 256, 3) := by decide +kernel
theorem dH_writeChange_28 : decode cH_writeChange 28 = .ok (.iload_n 1, 1) := by decide +kernel
theorem dH_writeChange_29 : decode cH_writeChange 29 = .ok (.iconst 3, 1) := by decide +kernel
theorem dH_writeChange_30 : decode cH_writeChange 30 = .ok (.if_icmp .eq 13, 3) := by decide +kernel
theorem dH_writeChange_33 : decode cH_writeChange 33 = .ok (.aload_n 0, 1) := by decide +kernel
theorem dH_writeChange_34 : decode cH_writeChange 34 = .ok (.getfield 48, 3) := by decide +kernel
theorem dH_writeChange_37 : decode cH_writeChange 37 = .ok (.iload_n 2, 1) := by decide +kernel
theorem dH_writeChange_38 : decode cH_writeChange 38 = .ok (.invokestatic 249, 3) := by decide +kernel
theorem dH_writeChange_41 : decode cH_writeChange 41 = .ok (.iconst (-1), 1) := by decide +kernel
theorem dH_writeChange_42 : decode cH_writeChange 42 = .ok (.iastore, 1) := by decide +kernel
theorem dH_writeChange_43 : decode cH_writeChange 43 = .ok (.return_, 1) := by decide +kernel
theorem dH_rollBack_0 : decode cH_rollBack 0 = .ok (.aload_n 0, 1) := by decide +kernel
theorem dH_rollBack_1 : decode cH_rollBack 1 = .ok (.getfield 12, 3) := by decide +kernel
theorem dH_rollBack_4 : decode cH_rollBack 4 = .ok (.getfield 259, 3) := by decide +kernel
theorem dH_rollBack_7 : decode cH_rollBack 7 = .ok (.iload_n 1, 1) := by decide +kernel
theorem dH_rollBack_8 : decode cH_rollBack 8 = .ok (.iaload, 1) := by decide +kernel
theorem dH_rollBack_9 : decode cH_rollBack 9 = .ok (.istore_n 2, 1) := by decide +kernel
theorem dH_rollBack_10 : decode cH_rollBack 10 = .ok (.aload_n 0, 1) := by decide +kernel
theorem dH_rollBack_11 : decode cH_rollBack 11 = .ok (.getfield 12, 3) := by decide +kernel
theorem dH_rollBack_14 : decode cH_rollBack 14 = .ok (.getfield 93, 3) := by decide +kernel
theorem dH_rollBack_17 : decode cH_rollBack 17 = .ok (.istore_n 3, 1) := by decide +kernel
theorem dH_rollBack_18 : decode cH_rollBack 18 = .ok (.iload_n 3, 1) := by decide +kernel
theorem dH_rollBack_19 : decode cH_rollBack 19 = .ok (.iload_n 2, 1) := by decide +kernel
theorem dH_rollBack_20 : decode cH_rollBack 20 = .ok (.if_icmp .lt 58, 3) := by decide +kernel
theorem dH_rollBack_23 : decode cH_rollBack 23 = .ok (.aload_n 0, 1) := by decide +kernel
theorem dH_rollBack_24 : decode cH_rollBack 24 = .ok (.getfield 12, 3) := by decide +kernel
theorem dH_rollBack_27 : decode cH_rollBack 27 = .ok (.getfield 180, 3) := by decide +kernel
theorem dH_rollBack_30 : decode cH_rollBack 30 = .ok (.iload_n 3, 1) := by decide +kernel
theorem dH_rollBack_31 : decode cH_rollBack 31 = .ok (.iaload, 1) := by decide +kernel
theorem dH_rollBack_32 : decode cH_rollBack 32 = .ok (.iconst 1, 1) := by decide +kernel
theorem dH_rollBack_33 : decode cH_rollBack 33 = .ok (.if_icmp .ne 39, 3) := by decide +kernel
theorem dH_rollBack_36 : decode cH_rollBack 36 = .ok (.aload_n 0, 1) := by decide +kernel
theorem dH_rollBack_37 : decode cH_rollBack 37 = .ok (.getfield 12, 3) := by decide +kernel
theorem dH_rollBack_40 : decode cH_rollBack 40 = .ok (.getfield 183, 3) := by decide +kernel
theorem dH_rollBack_43 : decode cH_rollBack 43 = .ok (.iload_n 3, 1) := by decide +kernel
theorem dH_rollBack_44 : decode cH_rollBack 44 = .ok (.iaload, 1) := by decide +kernel
theorem dH_rollBack_45 : decode cH_rollBack 45 = .ok (.iload_n 1, 1) := by decide +kernel
theorem dH_rollBack_46 : decode cH_rollBack 46 = .ok (.if_icmp .ne 26, 3) := by decide +kernel
theorem dH_rollBack_49 : decode cH_rollBack 49 = .ok (.aload_n 0, 1) := by decide +kernel
theorem dH_rollBack_50 : decode cH_rollBack 50 = .ok (.iload_n 1, 1) := by decide +kernel
theorem dH_rollBack_51 : decode cH_rollBack 51 = .ok (.aload_n 0, 1) := by decide +kernel
theorem dH_rollBack_52 : decode cH_rollBack 52 = .ok (.getfield 12, 3) := by decide +kernel
theorem dH_rollBack_55 : decode cH_rollBack 55 = .ok (.getfield 155, 3) := by decide +kernel
theorem dH_rollBack_58 : decode cH_rollBack 58 = .ok (.iload_n 3, 1) := by decide +kernel
theorem dH_rollBack_59 : decode cH_rollBack 59 = .ok (.iaload, 1) := by decide +kernel
theorem dH_rollBack_60 : decode cH_rollBack 60 = .ok (.aload_n 0, 1) := by decide +kernel
theorem dH_rollBack_61 : decode cH_rollBack 61 = .ok (.getfield 12, 3) := by decide +kernel
theorem dH_rollBack_64 : decode cH_rollBack 64 = .ok (.getfield 171, 3) := by decide +kernel
theorem dH_rollBack_67 : decode cH_rollBack 67 = .ok (.iload_n 3, 1) := by decide +kernel
theorem dH_rollBack_68 : decode cH_rollBack 68 = .ok (.iaload, 1) := by decide +kernel
theorem dH_rollBack_69 : decode cH_rollBack 69 = .ok (.invokevirtual 89, 3) := by decide +kernel
theorem dH_rollBack_72 : decode cH_rollBack 72 = .ok (.iinc 3 (-1), 3) := by decide +kernel
theorem dH_rollBack_75 : decode cH_rollBack 75 = .ok (.goto (-57), 3) := by decide +kernel
theorem dH_rollBack_78 : decode cH_rollBack 78 = .ok (.aload_n 0, 1) := by decide +kernel
theorem dH_rollBack_79 : decode cH_rollBack 79 = .ok (.getfield 12, 3) := by decide +kernel
theorem dH_rollBack_82 : decode cH_rollBack 82 = .ok (.iconst 3, 1) := by decide +kernel
theorem dH_rollBack_83 : decode cH_rollBack 83 = .ok (.iload_n 1, 1) := by decide +kernel
theorem dH_rollBack_84 : decode cH_rollBack 84 = .ok (.invokevirtual 107, 3) := by decide +kernel
theorem dH_rollBack_87 : decode cH_rollBack 87 = .ok (.return_, 1) := by decide +kernel
theorem dH_canApply_0 : decode cH_canApply 0 = .ok (.aload_n 0, 1) := by decide +kernel
theorem dH_canApply_1 : decode cH_canApply 1 = .ok (.getfield 48, 3) := by decide +kernel
theorem dH_canApply_4 : decode cH_canApply 4 = .ok (.iload_n 1, 1) := by decide +kernel
theorem dH_canApply_5 : decode cH_canApply 5 = .ok (.iaload, 1) := by decide +kernel
theorem dH_canApply_6 : decode cH_canApply 6 = .ok (.istore_n 3, 1) := by decide +kernel
theorem dH_canApply_7 : decode cH_canApply 7 = .ok (.iload_n 3, 1) := by decide +kernel
theorem dH_canApply_8 : decode cH_canApply 8 = .ok (.iconst (-1), 1) := by decide +kernel
theorem dH_canApply_9 : decode cH_canApply 9 = .ok (.if_icmp .eq 58, 3) := by decide +kernel
theorem dH_canApply_12 : decode cH_canApply 12 = .ok (.iload_n 2, 1) := by decide +kernel
theorem dH_canApply_13 : decode cH_canApply 13 = .ok (.iload_n 3, 1) := by decide +kernel
theorem dH_canApply_14 : decode cH_canApply 14 = .ok (.if_icmp .le 53, 3) := by decide +kernel
theorem dH_canApply_17 : decode cH_canApply 17 = .ok (.iload_n 2, 1) := by decide +kernel
theorem dH_canApply_18 : decode cH_canApply 18 = .ok (.aload_n 0, 1) := by decide +kernel
theorem dH_canApply_19 : decode cH_canApply 19 = .ok (.getfield 51, 3) := by decide +kernel
theorem dH_canApply_22 : decode cH_canApply 22 = .ok (.iload_n 1, 1) := by decide +kernel
theorem dH_canApply_23 : decode cH_canApply 23 = .ok (.iaload, 1) := by decide +kernel
theorem dH_canApply_24 : decode cH_canApply 24 = .ok (.if_icmp .ge 43, 3) := by decide +kernel
theorem dH_canApply_27 : decode cH_canApply 27 = .ok (.aload_n 0, 1) := by decide +kernel
theorem dH_canApply_28 : decode cH_canApply 28 = .ok (.getfield 12, 3) := by decide +kernel
theorem dH_canApply_31 : decode cH_canApply 31 = .ok (.iload_n 1, 1) := by decide +kernel
theorem dH_canApply_32 : decode cH_canApply 32 = .ok (.invokevirtual 121, 3) := by decide +kernel
theorem dH_canApply_35 : decode cH_canApply 35 = .ok (.ifCond .ne 32, 3) := by decide +kernel
theorem dH_canApply_38 : decode cH_canApply 38 = .ok (.aload_n 0, 1) := by decide +kernel
theorem dH_canApply_39 : decode cH_canApply 39 = .ok (.getfield 12, 3) := by decide +kernel
theorem dH_canApply_42 : decode cH_canApply 42 = .ok (.iload_n 1, 1) := by decide +kernel
theorem dH_canApply_43 : decode cH_canApply 43 = .ok (.iload_n 2, 1) := by decide +kernel
theorem dH_canApply_44 : decode cH_canApply 44 = .ok (.invokevirtual 174, 3) := by decide +kernel
theorem dH_canApply_47 : decode cH_canApply 47 = .ok (.ifCond .eq 20, 3) := by decide +kernel
theorem dH_canApply_50 : decode cH_canApply 50 = .ok (.aload_n 0, 1) := by decide +kernel
theorem dH_canApply_51 : decode cH_canApply 51 = .ok (.getfield 12, 3) := by decide +kernel
theorem dH_canApply_54 : decode cH_canApply 54 = .ok (.iload_n 1, 1) := by decide +kernel
theorem dH_canApply_55 : decode cH_canApply 55 = .ok (.iload_n 3, 1) := by decide +kernel
theorem dH_canApply_56 : decode cH_canApply 56 = .ok (.iload_n 2, 1) := by decide +kernel
theorem dH_canApply_57 : decode cH_canApply 57 = .ok (.invokevirtual 262, 3) := by decide +kernel
theorem dH_canApply_60 : decode cH_canApply 60 = .ok (.ifCond .eq 7, 3) := by decide +kernel
theorem dH_canApply_63 : decode cH_canApply 63 = .ok (.iconst 1, 1) := by decide +kernel
theorem dH_canApply_64 : decode cH_canApply 64 = .ok (.goto 4, 3) := by decide +kernel
theorem dH_canApply_67 : decode cH_canApply 67 = .ok (.iconst 0, 1) := by decide +kernel
theorem dH_canApply_68 : decode cH_canApply 68 = .ok (.ireturn, 1) := by decide +kernel
theorem dH_canRemove_0 : decode cH_canRemove 0 = .ok (.aload_n 0, 1) := by decide +kernel
theorem dH_canRemove_1 : decode cH_canRemove 1 = .ok (.iload_n 1, 1) := by decide +kernel
theorem dH_canRemove_2 : decode cH_canRemove 2 = .ok (.invokevirtual 168, 3) := by decide +kernel
theorem dH_canRemove_5 : decode cH_canRemove 5 = .ok (.istore_n 3, 1) := by decide +kernel
theorem dH_canRemove_6 : decode cH_canRemove 6 = .ok (.iload_n 2, 1) := by decide +kernel
theorem dH_canRemove_7 : decode cH_canRemove 7 = .ok (.iload_n 3, 1) := by decide +kernel
theorem dH_canRemove_8 : decode cH_canRemove 8 = .ok (.if_icmp .ge 43, 3) := by decide +kernel
theorem dH_canRemove_11 : decode cH_canRemove 11 = .ok (.aload_n 0, 1) := by decide +kernel
theorem dH_canRemove_12 : decode cH_canRemove 12 = .ok (.getfield 12, 3) := by decide +kernel
theorem dH_canRemove_15 : decode cH_canRemove 15 = .ok (.iload_n 1, 1) := by decide +kernel
theorem dH_canRemove_16 : decode cH_canRemove 16 = .ok (.invokevirtual 121, 3) := by decide +kernel
theorem dH_canRemove_19 : decode cH_canRemove 19 = .ok (.ifCond .ne 32, 3) := by decide +kernel
theorem dH_canRemove_22 : decode cH_canRemove 22 = .ok (.aload_n 0, 1) := by decide +kernel
theorem dH_canRemove_23 : decode cH_canRemove 23 = .ok (.getfield 12, 3) := by decide +kernel
theorem dH_canRemove_26 : decode cH_canRemove 26 = .ok (.iload_n 1, 1) := by decide +kernel
theorem dH_canRemove_27 : decode cH_canRemove 27 = .ok (.iload_n 2, 1) := by decide +kernel
theorem dH_canRemove_28 : decode cH_canRemove 28 = .ok (.invokevirtual 174, 3) := by decide +kernel
theorem dH_canRemove_31 : decode cH_canRemove 31 = .ok (.ifCond .eq 20, 3) := by decide +kernel
theorem dH_canRemove_34 : decode cH_canRemove 34 = .ok (.aload_n 0, 1) := by decide +kernel
theorem dH_canRemove_35 : decode cH_canRemove 35 = .ok (.getfield 12, 3) := by decide +kernel
theorem dH_canRemove_38 : decode cH_canRemove 38 = .ok (.iload_n 1, 1) := by decide +kernel
theorem dH_canRemove_39 : decode cH_canRemove 39 = .ok (.iload_n 2, 1) := by decide +kernel
theorem dH_canRemove_40 : decode cH_canRemove 40 = .ok (.iload_n 3, 1) := by decide +kernel
theorem dH_canRemove_41 : decode cH_canRemove 41 = .ok (.invokevirtual 262, 3) := by decide +kernel
theorem dH_canRemove_44 : decode cH_canRemove 44 = .ok (.ifCond .eq 7, 3) := by decide +kernel
theorem dH_canRemove_47 : decode cH_canRemove 47 = .ok (.iconst 1, 1) := by decide +kernel
theorem dH_canRemove_48 : decode cH_canRemove 48 = .ok (.goto 4, 3) := by decide +kernel
theorem dH_canRemove_51 : decode cH_canRemove 51 = .ok (.iconst 0, 1) := by decide +kernel
theorem dH_canRemove_52 : decode cH_canRemove 52 = .ok (.ireturn, 1) := by decide +kernel
theorem dH_numberToRemoveFrom_0 : decode cH_numberToRemoveFrom 0 = .ok (.aload_n 0, 1) := by decide +kernel
theorem dH_numberToRemoveFrom_1 : decode cH_numberToRemoveFrom 1 = .ok (.getfield 48, 3) := by decide +kernel
theorem dH_numberToRemoveFrom_4 : decode cH_numberToRemoveFrom 4 = .ok (.iload_n 1, 1) := by decide +kernel
theorem dH_numberToRemoveFrom_5 : decode cH_numberToRemoveFrom 5 = .ok (.iaload, 1) := by decide +kernel
theorem dH_numberToRemoveFrom_6 : decode cH_numberToRemoveFrom 6 = .ok (.iconst (-1), 1) := by decide +kernel
theorem dH_numberToRemoveFrom_7 : decode cH_numberToRemoveFrom 7 = .ok (.if_icmp .ne 13, 3) := by decide +kernel
theorem dH_numberToRemoveFrom_10 : decode cH_numberToRemoveFrom 10 = .ok (.aload_n 0, 1) := by decide +kernel
theorem dH_numberToRemoveFrom_11 : decode cH_numberToRemoveFrom 11 = .ok (.getfield 12, 3) := by decide +kernel
theorem dH_numberToRemoveFrom_14 : decode cH_numberToRemoveFrom 14 = .ok (.getfield 93, 3) := by decide +kernel
theorem dH_numberToRemoveFrom_17 : decode cH_numberToRemoveFrom 17 = .ok (.goto 9, 3) := by decide +kernel
theorem dH_numberToRemoveFrom_20 : decode cH_numberToRemoveFrom 20 = .ok (.aload_n 0, 1) := by decide +kernel
theorem dH_numberToRemoveFrom_21 : decode cH_numberToRemoveFrom 21 = .ok (.getfield 48, 3) := by decide +kernel
theorem dH_numberToRemoveFrom_24 : decode cH_numberToRemoveFrom 24 = .ok (.iload_n 1, 1) := by decide +kernel
theorem dH_numberToRemoveFrom_25 : decode cH_numberToRemoveFrom 25 = .ok (.iaload, 1) := by decide +kernel
theorem dH_numberToRemoveFrom_26 : decode cH_numberToRemoveFrom 26 = .ok (.ireturn, 1) := by decide +kernel
theorem dH_wantWhatIs_0 : decode cH_wantWhatIs 0 = .ok (.aload_n 0, 1) := by decide +kernel
theorem dH_wantWhatIs_1 : decode cH_wantWhatIs 1 = .ok (.getfield 19, 3) := by decide +kernel
theorem dH_wantWhatIs_4 : decode cH_wantWhatIs 4 = .ok (.getfield 96, 3) := by decide +kernel
theorem dH_wantWhatIs_7 : decode cH_wantWhatIs 7 = .ok (.iload_n 1, 1) := by decide +kernel
theorem dH_wantWhatIs_8 : decode cH_wantWhatIs 8 = .ok (.iconst 0, 1) := by decide +kernel
theorem dH_wantWhatIs_9 : decode cH_wantWhatIs 9 = .ok (.invokestatic 79, 3) := by decide +kernel
theorem dH_wantWhatIs_12 : decode cH_wantWhatIs 12 = .ok (.aload_n 0, 1) := by decide +kernel
theorem dH_wantWhatIs_13 : decode cH_wantWhatIs 13 = .ok (.getfield 54, 3) := by decide +kernel
theorem dH_wantWhatIs_16 : decode cH_wantWhatIs 16 = .ok (.iconst 0, 1) := by decide +kernel
theorem dH_wantWhatIs_17 : decode cH_wantWhatIs 17 = .ok (.bipush 8, 2) := by decide +kernel
theorem dH_wantWhatIs_19 : decode cH_wantWhatIs 19 = .ok (.invokestatic 136, 3) := by decide +kernel
theorem dH_wantWhatIs_22 : decode cH_wantWhatIs 22 = .ok (.return_, 1) := by decide +kernel
theorem dH_bringToWanted_0 : decode cH_bringToWanted 0 = .ok (.aload_n 0, 1) := by decide +kernel
theorem dH_bringToWanted_1 : decode cH_bringToWanted 1 = .ok (.iload_n 1, 1) := by decide +kernel
theorem dH_bringToWanted_2 : decode cH_bringToWanted 2 = .ok (.invokevirtual 266, 3) := by decide +kernel
theorem dH_bringToWanted_5 : decode cH_bringToWanted 5 = .ok (.istore_n 3, 1) := by decide +kernel
theorem dH_bringToWanted_6 : decode cH_bringToWanted 6 = .ok (.aload_n 0, 1) := by decide +kernel
theorem dH_bringToWanted_7 : decode cH_bringToWanted 7 = .ok (.getfield 12, 3) := by decide +kernel
theorem dH_bringToWanted_10 : decode cH_bringToWanted 10 = .ok (.iload_n 3, 1) := by decide +kernel
theorem dH_bringToWanted_11 : decode cH_bringToWanted 11 = .ok (.invokevirtual 269, 3) := by decide +kernel
theorem dH_bringToWanted_14 : decode cH_bringToWanted 14 = .ok (.ifCond .eq 11, 3) := by decide +kernel
theorem dH_bringToWanted_17 : decode cH_bringToWanted 17 = .ok (.new 68, 3) := by decide +kernel
theorem dH_bringToWanted_20 : decode cH_bringToWanted 20 = .ok (.dup, 1) := by decide +kernel
theorem dH_bringToWanted_21 : decode cH_bringToWanted 21 = .ok (.invokespecial 70, 3) := by decide +kernel
theorem dH_bringToWanted_24 : decode cH_bringToWanted 24 = .ok (.athrow, 1) := by decide +kernel
theorem dH_bringToWanted_25 : decode cH_bringToWanted 25 = .ok (.iconst 0, 1) := by decide +kernel
theorem dH_bringToWanted_26 : decode cH_bringToWanted 26 = .ok (.istore 4, 2) := by decide +kernel
theorem dH_bringToWanted_28 : decode cH_bringToWanted 28 = .ok (.iload 4, 2) := by decide +kernel
theorem dH_bringToWanted_30 : decode cH_bringToWanted 30 = .ok (.aload_n 0, 1) := by decide +kernel
theorem dH_bringToWanted_31 : decode cH_bringToWanted 31 = .ok (.getfield 44, 3) := by decide +kernel
theorem dH_bringToWanted_34 : decode cH_bringToWanted 34 = .ok (.iload_n 1, 1) := by decide +kernel
theorem dH_bringToWanted_35 : decode cH_bringToWanted 35 = .ok (.iaload, 1) := by decide +kernel
theorem dH_bringToWanted_36 : decode cH_bringToWanted 36 = .ok (.if_icmp .ge 51, 3) := by decide +kernel
theorem dH_bringToWanted_39 : decode cH_bringToWanted 39 = .ok (.iload_n 1, 1) := by decide +kernel
theorem dH_bringToWanted_40 : decode cH_bringToWanted 40 = .ok (.iload 4, 2) := by decide +kernel
theorem dH_bringToWanted_42 : decode cH_bringToWanted 42 = .ok (.invokestatic 79, 3) := by decide +kernel
theorem dH_bringToWanted_45 : decode cH_bringToWanted 45 = .ok (.istore 5, 2) := by decide +kernel
theorem dH_bringToWanted_47 : decode cH_bringToWanted 47 = .ok (.aload_n 0, 1) := by decide +kernel
theorem dH_bringToWanted_48 : decode cH_bringToWanted 48 = .ok (.getfield 19, 3) := by decide +kernel
theorem dH_bringToWanted_51 : decode cH_bringToWanted 51 = .ok (.getfield 96, 3) := by decide +kernel
theorem dH_bringToWanted_54 : decode cH_bringToWanted 54 = .ok (.iload 5, 2) := by decide +kernel
theorem dH_bringToWanted_56 : decode cH_bringToWanted 56 = .ok (.iaload, 1) := by decide +kernel
theorem dH_bringToWanted_57 : decode cH_bringToWanted 57 = .ok (.aload_n 0, 1) := by decide +kernel
theorem dH_bringToWanted_58 : decode cH_bringToWanted 58 = .ok (.getfield 54, 3) := by decide +kernel
theorem dH_bringToWanted_61 : decode cH_bringToWanted 61 = .ok (.iload 4, 2) := by decide +kernel
theorem dH_bringToWanted_63 : decode cH_bringToWanted 63 = .ok (.iaload, 1) := by decide +kernel
theorem dH_bringToWanted_64 : decode cH_bringToWanted 64 = .ok (.if_icmp .eq 17, 3) := by decide +kernel
theorem dH_bringToWanted_67 : decode cH_bringToWanted 67 = .ok (.aload_n 0, 1) := by decide +kernel
theorem dH_bringToWanted_68 : decode cH_bringToWanted 68 = .ok (.iconst 3, 1) := by decide +kernel
theorem dH_bringToWanted_69 : decode cH_bringToWanted 69 = .ok (.iload 5, 2) := by decide +kernel
theorem dH_bringToWanted_71 : decode cH_bringToWanted 71 = .ok (.aload_n 0, 1) := by decide +kernel
theorem dH_bringToWanted_72 : decode cH_bringToWanted 72 = .ok (.getfield 54, 3) := by decide +kernel
theorem dH_bringToWanted_75 : decode cH_bringToWanted 75 = .ok (.iload 4, 2) := by decide +kernel
theorem dH_bringToWanted_77 : decode cH_bringToWanted 77 = .ok (.iaload, 1) := by decide +kernel
theorem dH_bringToWanted_78 : decode cH_bringToWanted 78 = .ok (.invokevirtual 89, 3) := by decide +kernel
theorem dH_bringToWanted_81 : decode cH_bringToWanted 81 = .ok (.iinc 4 1, 3) := by decide +kernel
theorem dH_bringToWanted_84 : decode cH_bringToWanted 84 = .ok (.goto (-56), 3) := by decide +kernel
theorem dH_bringToWanted_87 : decode cH_bringToWanted 87 = .ok (.iload_n 3, 1) := by decide +kernel
theorem dH_bringToWanted_88 : decode cH_bringToWanted 88 = .ok (.ifCond .le 12, 3) := by decide +kernel
theorem dH_bringToWanted_91 : decode cH_bringToWanted 91 = .ok (.aload_n 0, 1) := by decide +kernel
theorem dH_bringToWanted_92 : decode cH_bringToWanted 92 = .ok (.getfield 12, 3) := by decide +kernel
theorem dH_bringToWanted_95 : decode cH_bringToWanted 95 = .ok (.iconst 2, 1) := by decide +kernel
theorem dH_bringToWanted_96 : decode cH_bringToWanted 96 = .ok (.iconst 3, 1) := by decide +kernel
theorem dH_bringToWanted_97 : decode cH_bringToWanted 97 = .ok (.invokevirtual 107, 3) := by decide +kernel
theorem dH_bringToWanted_100 : decode cH_bringToWanted 100 = .ok (.aload_n 0, 1) := by decide +kernel
theorem dH_bringToWanted_101 : decode cH_bringToWanted 101 = .ok (.getfield 48, 3) := by decide +kernel
theorem dH_bringToWanted_104 : decode cH_bringToWanted 104 = .ok (.iload_n 1, 1) := by decide +kernel
theorem dH_bringToWanted_105 : decode cH_bringToWanted 105 = .ok (.iload_n 2, 1) := by decide +kernel
theorem dH_bringToWanted_106 : decode cH_bringToWanted 106 = .ok (.iastore, 1) := by decide +kernel
theorem dH_bringToWanted_107 : decode cH_bringToWanted 107 = .ok (.iload_n 3, 1) := by decide +kernel
theorem dH_bringToWanted_108 : decode cH_bringToWanted 108 = .ok (.ireturn, 1) := by decide +kernel
theorem dH_countUnwanted_0 : decode cH_countUnwanted 0 = .ok (.iconst 0, 1) := by decide +kernel
theorem dH_countUnwanted_1 : decode cH_countUnwanted 1 = .ok (.istore_n 2, 1) := by decide +kernel
theorem dH_countUnwanted_2 : decode cH_countUnwanted 2 = .ok (.iconst 0, 1) := by decide +kernel
theorem dH_countUnwanted_3 : decode cH_countUnwanted 3 = .ok (.istore_n 3, 1) := by decide +kernel
theorem dH_countUnwanted_4 : decode cH_countUnwanted 4 = .ok (.iload_n 3, 1) := by decide +kernel
theorem dH_countUnwanted_5 : decode cH_countUnwanted 5 = .ok (.aload_n 0, 1) := by decide +kernel
theorem dH_countUnwanted_6 : decode cH_countUnwanted 6 = .ok (.getfield 44, 3) := by decide +kernel
theorem dH_countUnwanted_9 : decode cH_countUnwanted 9 = .ok (.iload_n 1, 1) := by decide +kernel
theorem dH_countUnwanted_10 : decode cH_countUnwanted 10 = .ok (.iaload, 1) := by decide +kernel
theorem dH_countUnwanted_11 : decode cH_countUnwanted 11 = .ok (.if_icmp .ge 34, 3) := by decide +kernel
theorem dH_countUnwanted_14 : decode cH_countUnwanted 14 = .ok (.aload_n 0, 1) := by decide +kernel
theorem dH_countUnwanted_15 : decode cH_countUnwanted 15 = .ok (.getfield 19, 3) := by decide +kernel
theorem dH_countUnwanted_18 : decode cH_countUnwanted 18 = .ok (.getfield 96, 3) := by decide +kernel
theorem dH_countUnwanted_21 : decode cH_countUnwanted 21 = .ok (.iload_n 1, 1) := by decide +kernel
theorem dH_countUnwanted_22 : decode cH_countUnwanted 22 = .ok (.iload_n 3, 1) := by decide +kernel
theorem dH_countUnwanted_23 : decode cH_countUnwanted 23 = .ok (.invokestatic 79, 3) := by decide +kernel
theorem dH_countUnwanted_26 : decode cH_countUnwanted 26 = .ok (.iaload, 1) := by decide +kernel
theorem dH_countUnwanted_27 : decode cH_countUnwanted 27 = .ok (.aload_n 0, 1) := by decide +kernel
theorem dH_countUnwanted_28 : decode cH_countUnwanted 28 = .ok (.getfield 54, 3) := by decide +kernel
theorem dH_countUnwanted_31 : decode cH_countUnwanted 31 = .ok (.iload_n 3, 1) := by decide +kernel
theorem dH_countUnwanted_32 : decode cH_countUnwanted 32 = .ok (.iaload, 1) := by decide +kernel
theorem dH_countUnwanted_33 : decode cH_countUnwanted 33 = .ok (.if_icmp .eq 6, 3) := by decide +kernel
theorem dH_countUnwanted_36 : decode cH_countUnwanted 36 = .ok (.iinc 2 1, 3) := by decide +kernel
theorem dH_countUnwanted_39 : decode cH_countUnwanted 39 = .ok (.iinc 3 1, 3) := by decide +kernel
theorem dH_countUnwanted_42 : decode cH_countUnwanted 42 = .ok (.goto (-38), 3) := by decide +kernel
theorem dH_countUnwanted_45 : decode cH_countUnwanted 45 = .ok (.iload_n 2, 1) := by decide +kernel
theorem dH_countUnwanted_46 : decode cH_countUnwanted 46 = .ok (.ireturn, 1) := by decide +kernel
