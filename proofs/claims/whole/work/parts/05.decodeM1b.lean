theorem dM_disk_0 : decode cM_disk 0 = .ok (.aload_n 0, 1) := by decide +kernel
theorem dM_disk_1 : decode cM_disk 1 = .ok (.iconst 0, 1) := by decide +kernel
theorem dM_disk_2 : decode cM_disk 2 = .ok (.putfield 56, 3) := by decide +kernel
theorem dM_disk_5 : decode cM_disk 5 = .ok (.aload_n 0, 1) := by decide +kernel
theorem dM_disk_6 : decode cM_disk 6 = .ok (.iload_n 1, 1) := by decide +kernel
theorem dM_disk_7 : decode cM_disk 7 = .ok (.iload_n 2, 1) := by decide +kernel
theorem dM_disk_8 : decode cM_disk 8 = .ok (.invokevirtual 107, 3) := by decide +kernel
theorem dM_disk_11 : decode cM_disk 11 = .ok (.ifCond .eq 18, 3) := by decide +kernel
theorem dM_disk_14 : decode cM_disk 14 = .ok (.aload_n 0, 1) := by decide +kernel
theorem dM_disk_15 : decode cM_disk 15 = .ok (.getfield 37, 3) := by decide +kernel
theorem dM_disk_18 : decode cM_disk 18 = .ok (.bipush 8, 2) := by decide +kernel
theorem dM_disk_20 : decode cM_disk 20 = .ok (.iload_n 1, 1) := by decide +kernel
theorem dM_disk_21 : decode cM_disk 21 = .ok (.imul, 1) := by decide +kernel
theorem dM_disk_22 : decode cM_disk 22 = .ok (.iload_n 2, 1) := by decide +kernel
theorem dM_disk_23 : decode cM_disk 23 = .ok (.iadd, 1) := by decide +kernel
theorem dM_disk_24 : decode cM_disk 24 = .ok (.iaload, 1) := by decide +kernel
theorem dM_disk_25 : decode cM_disk 25 = .ok (.i2l, 1) := by decide +kernel
theorem dM_disk_26 : decode cM_disk 26 = .ok (.goto 6, 3) := by decide +kernel
theorem dM_disk_29 : decode cM_disk 29 = .ok (.ldc2_w 124, 3) := by decide +kernel
theorem dM_disk_32 : decode cM_disk 32 = .ok (.lreturn, 1) := by decide +kernel
theorem dM_end_0 : decode cM_end 0 = .ok (.aload_n 0, 1) := by decide +kernel
theorem dM_end_1 : decode cM_end 1 = .ok (.iload_n 1, 1) := by decide +kernel
theorem dM_end_2 : decode cM_end 2 = .ok (.iconst 0, 1) := by decide +kernel
theorem dM_end_3 : decode cM_end 3 = .ok (.iconst 2, 1) := by decide +kernel
theorem dM_end_4 : decode cM_end 4 = .ok (.invokestatic 63, 3) := by decide +kernel
theorem dM_end_7 : decode cM_end 7 = .ok (.ifCond .ne 7, 3) := by decide +kernel
theorem dM_end_10 : decode cM_end 10 = .ok (.iconst 1, 1) := by decide +kernel
theorem dM_end_11 : decode cM_end 11 = .ok (.goto 23, 3) := by decide +kernel
theorem dM_end_14 : decode cM_end 14 = .ok (.aload_n 0, 1) := by decide +kernel
theorem dM_end_15 : decode cM_end 15 = .ok (.getfield 103, 3) := by decide +kernel
theorem dM_end_18 : decode cM_end 18 = .ok (.ifCond .ne 11, 3) := by decide +kernel
theorem dM_end_21 : decode cM_end 21 = .ok (.aload_n 0, 1) := by decide +kernel
theorem dM_end_22 : decode cM_end 22 = .ok (.iload_n 1, 1) := by decide +kernel
theorem dM_end_23 : decode cM_end 23 = .ok (.invokevirtual 81, 3) := by decide +kernel
theorem dM_end_26 : decode cM_end 26 = .ok (.ifCond .ne 7, 3) := by decide +kernel
theorem dM_end_29 : decode cM_end 29 = .ok (.iconst 2, 1) := by decide +kernel
theorem dM_end_30 : decode cM_end 30 = .ok (.goto 4, 3) := by decide +kernel
theorem dM_end_33 : decode cM_end 33 = .ok (.iconst 0, 1) := by decide +kernel
theorem dM_end_34 : decode cM_end 34 = .ok (.putfield 56, 3) := by decide +kernel
theorem dM_end_37 : decode cM_end 37 = .ok (.aload_n 0, 1) := by decide +kernel
theorem dM_end_38 : decode cM_end 38 = .ok (.getfield 56, 3) := by decide +kernel
theorem dM_end_41 : decode cM_end 41 = .ok (.ifCond .le 5, 3) := by decide +kernel
theorem dM_end_44 : decode cM_end 44 = .ok (.iconst 0, 1) := by decide +kernel
theorem dM_end_45 : decode cM_end 45 = .ok (.ireturn, 1) := by decide +kernel
theorem dM_end_46 : decode cM_end 46 = .ok (.iload_n 2, 1) := by decide +kernel
theorem dM_end_47 : decode cM_end 47 = .ok (.ifCond .eq 15, 3) := by decide +kernel
theorem dM_end_50 : decode cM_end 50 = .ok (.aload_n 0, 1) := by decide +kernel
theorem dM_end_51 : decode cM_end 51 = .ok (.iconst 2, 1) := by decide +kernel
theorem dM_end_52 : decode cM_end 52 = .ok (.iload_n 1, 1) := by decide +kernel
theorem dM_end_53 : decode cM_end 53 = .ok (.iconst 0, 1) := by decide +kernel
theorem dM_end_54 : decode cM_end 54 = .ok (.iconst 0, 1) := by decide +kernel
theorem dM_end_55 : decode cM_end 55 = .ok (.iconst 0, 1) := by decide +kernel
theorem dM_end_56 : decode cM_end 56 = .ok (.invokevirtual 92, 3) := by decide +kernel
theorem dM_end_59 : decode cM_end 59 = .ok (.goto 8, 3) := by decide +kernel
theorem dM_end_62 : decode cM_end 62 = .ok (.aload_n 0, 1) := by decide +kernel
theorem dM_end_63 : decode cM_end 63 = .ok (.iload_n 1, 1) := by decide +kernel
theorem dM_end_64 : decode cM_end 64 = .ok (.invokevirtual 126, 3) := by decide +kernel
theorem dM_end_67 : decode cM_end 67 = .ok (.aload_n 0, 1) := by decide +kernel
theorem dM_end_68 : decode cM_end 68 = .ok (.getfield 74, 3) := by decide +kernel
theorem dM_end_71 : decode cM_end 71 = .ok (.ireturn, 1) := by decide +kernel
theorem dM_save_0 : decode cM_save 0 = .ok (.aload_n 0, 1) := by decide +kernel
theorem dM_save_1 : decode cM_save 1 = .ok (.aload_n 0, 1) := by decide +kernel
theorem dM_save_2 : decode cM_save 2 = .ok (.iload_n 1, 1) := by decide +kernel
theorem dM_save_3 : decode cM_save 3 = .ok (.invokevirtual 67, 3) := by decide +kernel
theorem dM_save_6 : decode cM_save 6 = .ok (.ifCond .eq 12, 3) := by decide +kernel
theorem dM_save_9 : decode cM_save 9 = .ok (.iload_n 2, 1) := by decide +kernel
theorem dM_save_10 : decode cM_save 10 = .ok (.iconst 0, 1) := by decide +kernel
theorem dM_save_11 : decode cM_save 11 = .ok (.iconst 3, 1) := by decide +kernel
theorem dM_save_12 : decode cM_save 12 = .ok (.invokestatic 63, 3) := by decide +kernel
theorem dM_save_15 : decode cM_save 15 = .ok (.ifCond .ne 7, 3) := by decide +kernel
theorem dM_save_18 : decode cM_save 18 = .ok (.iconst 1, 1) := by decide +kernel
theorem dM_save_19 : decode cM_save 19 = .ok (.goto 27, 3) := by decide +kernel
theorem dM_save_22 : decode cM_save 22 = .ok (.aload_n 0, 1) := by decide +kernel
theorem dM_save_23 : decode cM_save 23 = .ok (.getfield 103, 3) := by decide +kernel
theorem dM_save_26 : decode cM_save 26 = .ok (.ifCond .ne 15, 3) := by decide +kernel
theorem dM_save_29 : decode cM_save 29 = .ok (.aload_n 0, 1) := by decide +kernel
theorem dM_save_30 : decode cM_save 30 = .ok (.iload_n 1, 1) := by decide +kernel
theorem dM_save_31 : decode cM_save 31 = .ok (.aload_n 0, 1) := by decide +kernel
theorem dM_save_32 : decode cM_save 32 = .ok (.getfield 74, 3) := by decide +kernel
theorem dM_save_35 : decode cM_save 35 = .ok (.invokevirtual 130, 3) := by decide +kernel
theorem dM_save_38 : decode cM_save 38 = .ok (.ifCond .eq 7, 3) := by decide +kernel
theorem dM_save_41 : decode cM_save 41 = .ok (.iconst 2, 1) := by decide +kernel
theorem dM_save_42 : decode cM_save 42 = .ok (.goto 4, 3) := by decide +kernel
theorem dM_save_45 : decode cM_save 45 = .ok (.iconst 0, 1) := by decide +kernel
theorem dM_save_46 : decode cM_save 46 = .ok (.putfield 56, 3) := by decide +kernel
theorem dM_save_49 : decode cM_save 49 = .ok (.aload_n 0, 1) := by decide +kernel
theorem dM_save_50 : decode cM_save 50 = .ok (.getfield 56, 3) := by decide +kernel
theorem dM_save_53 : decode cM_save 53 = .ok (.ifCond .le 5, 3) := by decide +kernel
theorem dM_save_56 : decode cM_save 56 = .ok (.iconst 0, 1) := by decide +kernel
theorem dM_save_57 : decode cM_save 57 = .ok (.ireturn, 1) := by decide +kernel
theorem dM_save_58 : decode cM_save 58 = .ok (.aload_n 0, 1) := by decide +kernel
theorem dM_save_59 : decode cM_save 59 = .ok (.getfield 43, 3) := by decide +kernel
theorem dM_save_62 : decode cM_save 62 = .ok (.iload_n 2, 1) := by decide +kernel
theorem dM_save_63 : decode cM_save 63 = .ok (.iload_n 1, 1) := by decide +kernel
theorem dM_save_64 : decode cM_save 64 = .ok (.iastore, 1) := by decide +kernel
theorem dM_save_65 : decode cM_save 65 = .ok (.aload_n 0, 1) := by decide +kernel
theorem dM_save_66 : decode cM_save 66 = .ok (.getfield 46, 3) := by decide +kernel
theorem dM_save_69 : decode cM_save 69 = .ok (.iload_n 2, 1) := by decide +kernel
theorem dM_save_70 : decode cM_save 70 = .ok (.aload_n 0, 1) := by decide +kernel
theorem dM_save_71 : decode cM_save 71 = .ok (.getfield 74, 3) := by decide +kernel
theorem dM_save_74 : decode cM_save 74 = .ok (.iastore, 1) := by decide +kernel
theorem dM_save_75 : decode cM_save 75 = .ok (.aload_n 0, 1) := by decide +kernel
theorem dM_save_76 : decode cM_save 76 = .ok (.getfield 74, 3) := by decide +kernel
theorem dM_save_79 : decode cM_save 79 = .ok (.ireturn, 1) := by decide +kernel
theorem dM_become_0 : decode cM_become 0 = .ok (.aload_n 0, 1) := by decide +kernel
theorem dM_become_1 : decode cM_become 1 = .ok (.getfield 74, 3) := by decide +kernel
theorem dM_become_4 : decode cM_become 4 = .ok (.istore 4, 2) := by decide +kernel
theorem dM_become_6 : decode cM_become 6 = .ok (.iconst 0, 1) := by decide +kernel
theorem dM_become_7 : decode cM_become 7 = .ok (.istore 5, 2) := by decide +kernel
theorem dM_become_9 : decode cM_become 9 = .ok (.iconst 0, 1) := by decide +kernel
theorem dM_become_10 : decode cM_become 10 = .ok (.istore 6, 2) := by decide +kernel
theorem dM_become_12 : decode cM_become 12 = .ok (.iload 6, 2) := by decide +kernel
theorem dM_become_14 : decode cM_become 14 = .ok (.aload_n 0, 1) := by decide +kernel
theorem dM_become_15 : decode cM_become 15 = .ok (.getfield 7, 3) := by decide +kernel
theorem dM_become_18 : decode cM_become 18 = .ok (.iload_n 1, 1) := by decide +kernel
theorem dM_become_19 : decode cM_become 19 = .ok (.iaload, 1) := by decide +kernel
theorem dM_become_20 : decode cM_become 20 = .ok (.if_icmp .ge 40, 3) := by decide +kernel
theorem dM_become_23 : decode cM_become 23 = .ok (.aload_n 0, 1) := by decide +kernel
theorem dM_become_24 : decode cM_become 24 = .ok (.iload_n 1, 1) := by decide +kernel
theorem dM_become_25 : decode cM_become 25 = .ok (.iload 6, 2) := by decide +kernel
theorem dM_become_27 : decode cM_become 27 = .ok (.iload_n 2, 1) := by decide +kernel
theorem dM_become_28 : decode cM_become 28 = .ok (.invokevirtual 85, 3) := by decide +kernel
theorem dM_become_31 : decode cM_become 31 = .ok (.aload_n 0, 1) := by decide +kernel
theorem dM_become_32 : decode cM_become 32 = .ok (.iload_n 1, 1) := by decide +kernel
theorem dM_become_33 : decode cM_become 33 = .ok (.iload 6, 2) := by decide +kernel
theorem dM_become_35 : decode cM_become 35 = .ok (.iload 4, 2) := by decide +kernel
theorem dM_become_37 : decode cM_become 37 = .ok (.invokevirtual 85, 3) := by decide +kernel
theorem dM_become_40 : decode cM_become 40 = .ok (.if_icmp .eq 10, 3) := by decide +kernel
theorem dM_become_43 : decode cM_become 43 = .ok (.iload 5, 2) := by decide +kernel
theorem dM_become_45 : decode cM_become 45 = .ok (.iconst 1, 1) := by decide +kernel
theorem dM_become_46 : decode cM_become 46 = .ok (.iadd, 1) := by decide +kernel
theorem dM_become_47 : decode cM_become 47 = .ok (.goto 5, 3) := by decide +kernel
theorem dM_become_50 : decode cM_become 50 = .ok (.iload 5, 2) := by decide +kernel
theorem dM_become_52 : decode cM_become 52 = .ok (.istore 5, 2) := by decide +kernel
theorem dM_become_54 : decode cM_become 54 = .ok (.iinc 6 1, 3) := by decide +kernel
theorem dM_become_57 : decode cM_become 57 = .ok (.goto (-45), 3) := by decide +kernel
theorem dM_become_60 : decode cM_become 60 = .ok (.iload 5, 2) := by decide +kernel
theorem dM_become_62 : decode cM_become 62 = .ok (.ifCond .le 25, 3) := by decide +kernel
theorem dM_become_65 : decode cM_become 65 = .ok (.aload_n 0, 1) := by decide +kernel
theorem dM_become_66 : decode cM_become 66 = .ok (.invokevirtual 118, 3) := by decide +kernel
theorem dM_become_69 : decode cM_become 69 = .ok (.iload 5, 2) := by decide +kernel
theorem dM_become_71 : decode cM_become 71 = .ok (.isub, 1) := by decide +kernel
theorem dM_become_72 : decode cM_become 72 = .ok (.iconst 1, 1) := by decide +kernel
theorem dM_become_73 : decode cM_become 73 = .ok (.isub, 1) := by decide +kernel
theorem dM_become_74 : decode cM_become 74 = .ok (.aload_n 0, 1) := by decide +kernel
theorem dM_become_75 : decode cM_become 75 = .ok (.invokevirtual 111, 3) := by decide +kernel
theorem dM_become_78 : decode cM_become 78 = .ok (.if_icmp .ge 9, 3) := by decide +kernel
theorem dM_become_81 : decode cM_become 81 = .ok (.aload_n 0, 1) := by decide +kernel
theorem dM_become_82 : decode cM_become 82 = .ok (.iconst 2, 1) := by decide +kernel
theorem dM_become_83 : decode cM_become 83 = .ok (.invokevirtual 121, 3) := by decide +kernel
theorem dM_become_86 : decode cM_become 86 = .ok (.ireturn, 1) := by decide +kernel
theorem dM_become_87 : decode cM_become 87 = .ok (.iconst 0, 1) := by decide +kernel
theorem dM_become_88 : decode cM_become 88 = .ok (.istore 6, 2) := by decide +kernel
theorem dM_become_90 : decode cM_become 90 = .ok (.iload 6, 2) := by decide +kernel
theorem dM_become_92 : decode cM_become 92 = .ok (.aload_n 0, 1) := by decide +kernel
theorem dM_become_93 : decode cM_become 93 = .ok (.getfield 7, 3) := by decide +kernel
theorem dM_become_96 : decode cM_become 96 = .ok (.iload_n 1, 1) := by decide +kernel
theorem dM_become_97 : decode cM_become 97 = .ok (.iaload, 1) := by decide +kernel
theorem dM_become_98 : decode cM_become 98 = .ok (.if_icmp .ge 43, 3) := by decide +kernel
theorem dM_become_101 : decode cM_become 101 = .ok (.aload_n 0, 1) := by decide +kernel
theorem dM_become_102 : decode cM_become 102 = .ok (.iload_n 1, 1) := by decide +kernel
theorem dM_become_103 : decode cM_become 103 = .ok (.iload 6, 2) := by decide +kernel
theorem dM_become_105 : decode cM_become 105 = .ok (.iload_n 2, 1) := by decide +kernel
theorem dM_become_106 : decode cM_become 106 = .ok (.invokevirtual 85, 3) := by decide +kernel
theorem dM_become_109 : decode cM_become 109 = .ok (.istore 7, 2) := by decide +kernel
theorem dM_become_111 : decode cM_become 111 = .ok (.iload 7, 2) := by decide +kernel
theorem dM_become_113 : decode cM_become 113 = .ok (.aload_n 0, 1) := by decide +kernel
theorem dM_become_114 : decode cM_become 114 = .ok (.iload_n 1, 1) := by decide +kernel
theorem dM_become_115 : decode cM_become 115 = .ok (.iload 6, 2) := by decide +kernel
theorem dM_become_117 : decode cM_become 117 = .ok (.iload 4, 2) := by decide +kernel
theorem dM_become_119 : decode cM_become 119 = .ok (.invokevirtual 85, 3) := by decide +kernel
theorem dM_become_122 : decode cM_become 122 = .ok (.if_icmp .eq 13, 3) := by decide +kernel
theorem dM_become_125 : decode cM_become 125 = .ok (.aload_n 0, 1) := by decide +kernel
theorem dM_become_126 : decode cM_become 126 = .ok (.iconst 3, 1) := by decide +kernel
theorem dM_become_127 : decode cM_become 127 = .ok (.iload_n 1, 1) := by decide +kernel
theorem dM_become_128 : decode cM_become 128 = .ok (.iload 6, 2) := by decide +kernel
theorem dM_become_130 : decode cM_become 130 = .ok (.iload 7, 2) := by decide +kernel
theorem dM_become_132 : decode cM_become 132 = .ok (.invokevirtual 99, 3) := by decide +kernel
theorem dM_become_135 : decode cM_become 135 = .ok (.iinc 6 1, 3) := by decide +kernel
theorem dM_become_138 : decode cM_become 138 = .ok (.goto (-48), 3) := by decide +kernel
theorem dM_become_141 : decode cM_become 141 = .ok (.iload 5, 2) := by decide +kernel
theorem dM_become_143 : decode cM_become 143 = .ok (.ifCond .le 12, 3) := by decide +kernel
theorem dM_become_146 : decode cM_become 146 = .ok (.aload_n 0, 1) := by decide +kernel
theorem dM_become_147 : decode cM_become 147 = .ok (.iconst 2, 1) := by decide +kernel
theorem dM_become_148 : decode cM_become 148 = .ok (.iconst 3, 1) := by decide +kernel
theorem dM_become_149 : decode cM_become 149 = .ok (.iconst 0, 1) := by decide +kernel
theorem dM_become_150 : decode cM_become 150 = .ok (.iconst 0, 1) := by decide +kernel
theorem dM_become_151 : decode cM_become 151 = .ok (.iconst 0, 1) := by decide +kernel
theorem dM_become_152 : decode cM_become 152 = .ok (.invokevirtual 92, 3) := by decide +kernel
theorem dM_become_155 : decode cM_become 155 = .ok (.aload_n 0, 1) := by decide +kernel
theorem dM_become_156 : decode cM_become 156 = .ok (.getfield 13, 3) := by decide +kernel
theorem dM_become_159 : decode cM_become 159 = .ok (.iload_n 1, 1) := by decide +kernel
theorem dM_become_160 : decode cM_become 160 = .ok (.iload_n 2, 1) := by decide +kernel
theorem dM_become_161 : decode cM_become 161 = .ok (.iastore, 1) := by decide +kernel
theorem dM_become_162 : decode cM_become 162 = .ok (.aload_n 0, 1) := by decide +kernel
theorem dM_become_163 : decode cM_become 163 = .ok (.getfield 16, 3) := by decide +kernel
theorem dM_become_166 : decode cM_become 166 = .ok (.iload_n 1, 1) := by decide +kernel
theorem dM_become_167 : decode cM_become 167 = .ok (.iload_n 3, 1) := by decide +kernel
theorem dM_become_168 : decode cM_become 168 = .ok (.iastore, 1) := by decide +kernel
theorem dM_become_169 : decode cM_become 169 = .ok (.iload 5, 2) := by decide +kernel
theorem dM_become_171 : decode cM_become 171 = .ok (.ireturn, 1) := by decide +kernel
theorem dM_restore_0 : decode cM_restore 0 = .ok (.aload_n 0, 1) := by decide +kernel
theorem dM_restore_1 : decode cM_restore 1 = .ok (.iload_n 1, 1) := by decide +kernel
theorem dM_restore_2 : decode cM_restore 2 = .ok (.iconst 0, 1) := by decide +kernel
theorem dM_restore_3 : decode cM_restore 3 = .ok (.iconst 3, 1) := by decide +kernel
theorem dM_restore_4 : decode cM_restore 4 = .ok (.invokestatic 63, 3) := by decide +kernel
theorem dM_restore_7 : decode cM_restore 7 = .ok (.ifCond .eq 7, 3) := by decide +kernel
theorem dM_restore_10 : decode cM_restore 10 = .ok (.iconst 0, 1) := by decide +kernel
theorem dM_restore_11 : decode cM_restore 11 = .ok (.goto 4, 3) := by decide +kernel
theorem dM_restore_14 : decode cM_restore 14 = .ok (.iconst 1, 1) := by decide +kernel
theorem dM_restore_15 : decode cM_restore 15 = .ok (.putfield 56, 3) := by decide +kernel
theorem dM_restore_18 : decode cM_restore 18 = .ok (.aload_n 0, 1) := by decide +kernel
theorem dM_restore_19 : decode cM_restore 19 = .ok (.getfield 56, 3) := by decide +kernel
theorem dM_restore_22 : decode cM_restore 22 = .ok (.ifCond .le 5, 3) := by decide +kernel
theorem dM_restore_25 : decode cM_restore 25 = .ok (.iconst 0, 1) := by decide +kernel
theorem dM_restore_26 : decode cM_restore 26 = .ok (.ireturn, 1) := by decide +kernel
theorem dM_restore_27 : decode cM_restore 27 = .ok (.aload_n 0, 1) := by decide +kernel
theorem dM_restore_28 : decode cM_restore 28 = .ok (.getfield 43, 3) := by decide +kernel
theorem dM_restore_31 : decode cM_restore 31 = .ok (.iload_n 1, 1) := by decide +kernel
theorem dM_restore_32 : decode cM_restore 32 = .ok (.iaload, 1) := by decide +kernel
theorem dM_restore_33 : decode cM_restore 33 = .ok (.istore_n 2, 1) := by decide +kernel
theorem dM_restore_34 : decode cM_restore 34 = .ok (.aload_n 0, 1) := by decide +kernel
theorem dM_restore_35 : decode cM_restore 35 = .ok (.getfield 103, 3) := by decide +kernel
theorem dM_restore_38 : decode cM_restore 38 = .ok (.ifCond .ne 19, 3) := by decide +kernel
theorem dM_restore_41 : decode cM_restore 41 = .ok (.iload_n 2, 1) := by decide +kernel
theorem dM_restore_42 : decode cM_restore 42 = .ok (.ifCond .lt 15, 3) := by decide +kernel
theorem dM_restore_45 : decode cM_restore 45 = .ok (.aload_n 0, 1) := by decide +kernel
theorem dM_restore_46 : decode cM_restore 46 = .ok (.iload_n 2, 1) := by decide +kernel
theorem dM_restore_47 : decode cM_restore 47 = .ok (.aload_n 0, 1) := by decide +kernel
theorem dM_restore_48 : decode cM_restore 48 = .ok (.getfield 74, 3) := by decide +kernel
theorem dM_restore_51 : decode cM_restore 51 = .ok (.invokevirtual 130, 3) := by decide +kernel
theorem dM_restore_54 : decode cM_restore 54 = .ok (.ifCond .eq 9, 3) := by decide +kernel
theorem dM_restore_57 : decode cM_restore 57 = .ok (.aload_n 0, 1) := by decide +kernel
theorem dM_restore_58 : decode cM_restore 58 = .ok (.iconst 2, 1) := by decide +kernel
theorem dM_restore_59 : decode cM_restore 59 = .ok (.invokevirtual 121, 3) := by decide +kernel
theorem dM_restore_62 : decode cM_restore 62 = .ok (.ireturn, 1) := by decide +kernel
theorem dM_restore_63 : decode cM_restore 63 = .ok (.aload_n 0, 1) := by decide +kernel
theorem dM_restore_64 : decode cM_restore 64 = .ok (.iload_n 2, 1) := by decide +kernel
theorem dM_restore_65 : decode cM_restore 65 = .ok (.aload_n 0, 1) := by decide +kernel
theorem dM_restore_66 : decode cM_restore 66 = .ok (.getfield 46, 3) := by decide +kernel
theorem dM_restore_69 : decode cM_restore 69 = .ok (.iload_n 1, 1) := by decide +kernel
theorem dM_restore_70 : decode cM_restore 70 = .ok (.iaload, 1) := by decide +kernel
theorem dM_restore_71 : decode cM_restore 71 = .ok (.aload_n 0, 1) := by decide +kernel
theorem dM_restore_72 : decode cM_restore 72 = .ok (.getfield 74, 3) := by decide +kernel
theorem dM_restore_75 : decode cM_restore 75 = .ok (.iconst 1, 1) := by decide +kernel
theorem dM_restore_76 : decode cM_restore 76 = .ok (.iadd, 1) := by decide +kernel
theorem dM_restore_77 : decode cM_restore 77 = .ok (.invokevirtual 133, 3) := by decide +kernel
theorem dM_restore_80 : decode cM_restore 80 = .ok (.ireturn, 1) := by decide +kernel
theorem dM_lacks_0 : decode cM_lacks 0 = .ok (.iconst 0, 1) := by decide +kernel
theorem dM_lacks_1 : decode cM_lacks 1 = .ok (.istore 4, 2) := by decide +kernel
theorem dM_lacks_3 : decode cM_lacks 3 = .ok (.iload_n 2, 1) := by decide +kernel
theorem dM_lacks_4 : decode cM_lacks 4 = .ok (.iconst 1, 1) := by decide +kernel
theorem dM_lacks_5 : decode cM_lacks 5 = .ok (.iadd, 1) := by decide +kernel
theorem dM_lacks_6 : decode cM_lacks 6 = .ok (.istore 5, 2) := by decide +kernel
theorem dM_lacks_8 : decode cM_lacks 8 = .ok (.iload 5, 2) := by decide +kernel
theorem dM_lacks_10 : decode cM_lacks 10 = .ok (.iload_n 3, 1) := by decide +kernel
theorem dM_lacks_11 : decode cM_lacks 11 = .ok (.if_icmp .gt 55, 3) := by decide +kernel
theorem dM_lacks_14 : decode cM_lacks 14 = .ok (.iload 4, 2) := by decide +kernel
theorem dM_lacks_16 : decode cM_lacks 16 = .ok (.ifCond .ne 37, 3) := by decide +kernel
theorem dM_lacks_19 : decode cM_lacks 19 = .ok (.aload_n 0, 1) := by decide +kernel
theorem dM_lacks_20 : decode cM_lacks 20 = .ok (.getfield 19, 3) := by decide +kernel
theorem dM_lacks_23 : decode cM_lacks 23 = .ok (.iload 5, 2) := by decide +kernel
theorem dM_lacks_25 : decode cM_lacks 25 = .ok (.iaload, 1) := by decide +kernel
theorem dM_lacks_26 : decode cM_lacks 26 = .ok (.iconst 1, 1) := by decide +kernel
theorem dM_lacks_27 : decode cM_lacks 27 = .ok (.if_icmp .ne 30, 3) := by decide +kernel
theorem dM_lacks_30 : decode cM_lacks 30 = .ok (.aload_n 0, 1) := by decide +kernel
theorem dM_lacks_31 : decode cM_lacks 31 = .ok (.getfield 25, 3) := by decide +kernel
theorem dM_lacks_34 : decode cM_lacks 34 = .ok (.iload 5, 2) := by decide +kernel
theorem dM_lacks_36 : decode cM_lacks 36 = .ok (.iaload, 1) := by decide +kernel
theorem dM_lacks_37 : decode cM_lacks 37 = .ok (.iload_n 1, 1) := by decide +kernel
theorem dM_lacks_38 : decode cM_lacks 38 = .ok (.if_icmp .ne 19, 3) := by decide +kernel
theorem dM_lacks_41 : decode cM_lacks 41 = .ok (.iload 5, 2) := by decide +kernel
theorem dM_lacks_43 : decode cM_lacks 43 = .ok (.bipush 8, 2) := by decide +kernel
theorem dM_lacks_45 : decode cM_lacks 45 = .ok (.aload_n 0, 1) := by decide +kernel
theorem dM_lacks_46 : decode cM_lacks 46 = .ok (.getfield 71, 3) := by decide +kernel
theorem dM_lacks_49 : decode cM_lacks 49 = .ok (.imul, 1) := by decide +kernel
theorem dM_lacks_50 : decode cM_lacks 50 = .ok (.if_icmp .gt 7, 3) := by decide +kernel
theorem dM_lacks_53 : decode cM_lacks 53 = .ok (.iconst 1, 1) := by decide +kernel
theorem dM_lacks_54 : decode cM_lacks 54 = .ok (.goto 4, 3) := by decide +kernel
theorem dM_lacks_57 : decode cM_lacks 57 = .ok (.iconst 0, 1) := by decide +kernel
theorem dM_lacks_58 : decode cM_lacks 58 = .ok (.istore 4, 2) := by decide +kernel
theorem dM_lacks_60 : decode cM_lacks 60 = .ok (.iinc 5 1, 3) := by decide +kernel
theorem dM_lacks_63 : decode cM_lacks 63 = .ok (.goto (-55), 3) := by decide +kernel
theorem dM_lacks_66 : decode cM_lacks 66 = .ok (.iload 4, 2) := by decide +kernel
theorem dM_lacks_68 : decode cM_lacks 68 = .ok (.ireturn, 1) := by decide +kernel
theorem dM_apply_0 : decode cM_apply 0 = .ok (.aload_n 0, 1) := by decide +kernel
theorem dM_apply_1 : decode cM_apply 1 = .ok (.aload_n 0, 1) := by decide +kernel
theorem dM_apply_2 : decode cM_apply 2 = .ok (.iload_n 1, 1) := by decide +kernel
theorem dM_apply_3 : decode cM_apply 3 = .ok (.invokevirtual 67, 3) := by decide +kernel
theorem dM_apply_6 : decode cM_apply 6 = .ok (.ifCond .eq 7, 3) := by decide +kernel
theorem dM_apply_9 : decode cM_apply 9 = .ok (.iconst 0, 1) := by decide +kernel
theorem dM_apply_10 : decode cM_apply 10 = .ok (.goto 4, 3) := by decide +kernel
theorem dM_apply_13 : decode cM_apply 13 = .ok (.iconst 1, 1) := by decide +kernel
theorem dM_apply_14 : decode cM_apply 14 = .ok (.putfield 56, 3) := by decide +kernel
theorem dM_apply_17 : decode cM_apply 17 = .ok (.aload_n 0, 1) := by decide +kernel
theorem dM_apply_18 : decode cM_apply 18 = .ok (.getfield 56, 3) := by decide +kernel
theorem dM_apply_21 : decode cM_apply 21 = .ok (.ifCond .le 5, 3) := by decide +kernel
theorem dM_apply_24 : decode cM_apply 24 = .ok (.iconst 0, 1) := by decide +kernel
theorem dM_apply_25 : decode cM_apply 25 = .ok (.ireturn, 1) := by decide +kernel
theorem dM_apply_26 : decode cM_apply 26 = .ok (.aload_n 0, 1) := by decide +kernel
theorem dM_apply_27 : decode cM_apply 27 = .ok (.getfield 103, 3) := by decide +kernel
theorem dM_apply_30 : decode cM_apply 30 = .ok (.ifCond .ne 44, 3) := by decide +kernel
theorem dM_apply_33 : decode cM_apply 33 = .ok (.aload_n 0, 1) := by decide +kernel
theorem dM_apply_34 : decode cM_apply 34 = .ok (.getfield 13, 3) := by decide +kernel
theorem dM_apply_37 : decode cM_apply 37 = .ok (.iload_n 1, 1) := by decide +kernel
theorem dM_apply_38 : decode cM_apply 38 = .ok (.iaload, 1) := by decide +kernel
theorem dM_apply_39 : decode cM_apply 39 = .ok (.ifCond .lt 35, 3) := by decide +kernel
theorem dM_apply_42 : decode cM_apply 42 = .ok (.iload_n 2, 1) := by decide +kernel
theorem dM_apply_43 : decode cM_apply 43 = .ok (.aload_n 0, 1) := by decide +kernel
theorem dM_apply_44 : decode cM_apply 44 = .ok (.getfield 13, 3) := by decide +kernel
theorem dM_apply_47 : decode cM_apply 47 = .ok (.iload_n 1, 1) := by decide +kernel
theorem dM_apply_48 : decode cM_apply 48 = .ok (.iaload, 1) := by decide +kernel
theorem dM_apply_49 : decode cM_apply 49 = .ok (.if_icmp .le 25, 3) := by decide +kernel
theorem dM_apply_52 : decode cM_apply 52 = .ok (.iload_n 2, 1) := by decide +kernel
theorem dM_apply_53 : decode cM_apply 53 = .ok (.aload_n 0, 1) := by decide +kernel
theorem dM_apply_54 : decode cM_apply 54 = .ok (.getfield 16, 3) := by decide +kernel
theorem dM_apply_57 : decode cM_apply 57 = .ok (.iload_n 1, 1) := by decide +kernel
theorem dM_apply_58 : decode cM_apply 58 = .ok (.iaload, 1) := by decide +kernel
theorem dM_apply_59 : decode cM_apply 59 = .ok (.if_icmp .ge 15, 3) := by decide +kernel
theorem dM_apply_62 : decode cM_apply 62 = .ok (.iload_n 2, 1) := by decide +kernel
theorem dM_apply_63 : decode cM_apply 63 = .ok (.aload_n 0, 1) := by decide +kernel
theorem dM_apply_64 : decode cM_apply 64 = .ok (.getfield 74, 3) := by decide +kernel
theorem dM_apply_67 : decode cM_apply 67 = .ok (.if_icmp .gt 7, 3) := by decide +kernel
theorem dM_apply_70 : decode cM_apply 70 = .ok (.iconst 1, 1) := by decide +kernel
theorem dM_apply_71 : decode cM_apply 71 = .ok (.goto 4, 3) := by decide +kernel
theorem dM_apply_74 : decode cM_apply 74 = .ok (.iconst 0, 1) := by decide +kernel
theorem dM_apply_75 : decode cM_apply 75 = .ok (.istore_n 3, 1) := by decide +kernel
theorem dM_apply_76 : decode cM_apply 76 = .ok (.iload_n 3, 1) := by decide +kernel
theorem dM_apply_77 : decode cM_apply 77 = .ok (.ifCond .eq 39, 3) := by decide +kernel
theorem dM_apply_80 : decode cM_apply 80 = .ok (.aload_n 0, 1) := by decide +kernel
theorem dM_apply_81 : decode cM_apply 81 = .ok (.iload_n 1, 1) := by decide +kernel
theorem dM_apply_82 : decode cM_apply 82 = .ok (.aload_n 0, 1) := by decide +kernel
theorem dM_apply_83 : decode cM_apply 83 = .ok (.getfield 74, 3) := by decide +kernel
theorem dM_apply_86 : decode cM_apply 86 = .ok (.invokevirtual 130, 3) := by decide +kernel
theorem dM_apply_89 : decode cM_apply 89 = .ok (.ifCond .ne 27, 3) := by decide +kernel
theorem dM_apply_92 : decode cM_apply 92 = .ok (.aload_n 0, 1) := by decide +kernel
theorem dM_apply_93 : decode cM_apply 93 = .ok (.iload_n 1, 1) := by decide +kernel
theorem dM_apply_94 : decode cM_apply 94 = .ok (.iload_n 2, 1) := by decide +kernel
theorem dM_apply_95 : decode cM_apply 95 = .ok (.invokevirtual 130, 3) := by decide +kernel
theorem dM_apply_98 : decode cM_apply 98 = .ok (.ifCond .ne 18, 3) := by decide +kernel
theorem dM_apply_101 : decode cM_apply 101 = .ok (.aload_n 0, 1) := by decide +kernel
theorem dM_apply_102 : decode cM_apply 102 = .ok (.iload_n 1, 1) := by decide +kernel
theorem dM_apply_103 : decode cM_apply 103 = .ok (.aload_n 0, 1) := by decide +kernel
theorem dM_apply_104 : decode cM_apply 104 = .ok (.getfield 13, 3) := by decide +kernel
theorem dM_apply_107 : decode cM_apply 107 = .ok (.iload_n 1, 1) := by decide +kernel
theorem dM_apply_108 : decode cM_apply 108 = .ok (.iaload, 1) := by decide +kernel
theorem dM_apply_109 : decode cM_apply 109 = .ok (.iload_n 2, 1) := by decide +kernel
theorem dM_apply_110 : decode cM_apply 110 = .ok (.invokevirtual 136, 3) := by decide +kernel
theorem dM_apply_113 : decode cM_apply 113 = .ok (.ifCond .eq 9, 3) := by decide +kernel
theorem dM_apply_116 : decode cM_apply 116 = .ok (.aload_n 0, 1) := by decide +kernel
theorem dM_apply_117 : decode cM_apply 117 = .ok (.iconst 2, 1) := by decide +kernel
theorem dM_apply_118 : decode cM_apply 118 = .ok (.invokevirtual 121, 3) := by decide +kernel
theorem dM_apply_121 : decode cM_apply 121 = .ok (.ireturn, 1) := by decide +kernel
theorem dM_apply_122 : decode cM_apply 122 = .ok (.aload_n 0, 1) := by decide +kernel
theorem dM_apply_123 : decode cM_apply 123 = .ok (.iload_n 1, 1) := by decide +kernel
theorem dM_apply_124 : decode cM_apply 124 = .ok (.iload_n 2, 1) := by decide +kernel
theorem dM_apply_125 : decode cM_apply 125 = .ok (.aload_n 0, 1) := by decide +kernel
theorem dM_apply_126 : decode cM_apply 126 = .ok (.getfield 16, 3) := by decide +kernel
theorem dM_apply_129 : decode cM_apply 129 = .ok (.iload_n 1, 1) := by decide +kernel
theorem dM_apply_130 : decode cM_apply 130 = .ok (.iaload, 1) := by decide +kernel
theorem dM_apply_131 : decode cM_apply 131 = .ok (.invokevirtual 133, 3) := by decide +kernel
theorem dM_apply_134 : decode cM_apply 134 = .ok (.ireturn, 1) := by decide +kernel
theorem dM_remove_0 : decode cM_remove 0 = .ok (.aload_n 0, 1) := by decide +kernel
theorem dM_remove_1 : decode cM_remove 1 = .ok (.aload_n 0, 1) := by decide +kernel
theorem dM_remove_2 : decode cM_remove 2 = .ok (.iload_n 1, 1) := by decide +kernel
theorem dM_remove_3 : decode cM_remove 3 = .ok (.invokevirtual 67, 3) := by decide +kernel
theorem dM_remove_6 : decode cM_remove 6 = .ok (.ifCond .eq 11, 3) := by decide +kernel
theorem dM_remove_9 : decode cM_remove 9 = .ok (.iload_n 2, 1) := by decide +kernel
theorem dM_remove_10 : decode cM_remove 10 = .ok (.ifCond .lt 7, 3) := by decide +kernel
theorem dM_remove_13 : decode cM_remove 13 = .ok (.iconst 0, 1) := by decide +kernel
theorem dM_remove_14 : decode cM_remove 14 = .ok (.goto 4, 3) := by decide +kernel
theorem dM_remove_17 : decode cM_remove 17 = .ok (.iconst 1, 1) := by decide +kernel
theorem dM_remove_18 : decode cM_remove 18 = .ok (.putfield 56, 3) := by decide +kernel
theorem dM_remove_21 : decode cM_remove 21 = .ok (.aload_n 0, 1) := by decide +kernel
theorem dM_remove_22 : decode cM_remove 22 = .ok (.getfield 56, 3) := by decide +kernel
theorem dM_remove_25 : decode cM_remove 25 = .ok (.ifCond .le 5, 3) := by decide +kernel
theorem dM_remove_28 : decode cM_remove 28 = .ok (.iconst 0, 1) := by decide +kernel
theorem dM_remove_29 : decode cM_remove 29 = .ok (.ireturn, 1) := by decide +kernel
theorem dM_remove_30 : decode cM_remove 30 = .ok (.aload_n 0, 1) := by decide +kernel
theorem dM_remove_31 : decode cM_remove 31 = .ok (.getfield 13, 3) := by decide +kernel
theorem dM_remove_34 : decode cM_remove 34 = .ok (.iload_n 1, 1) := by decide +kernel
theorem dM_remove_35 : decode cM_remove 35 = .ok (.iaload, 1) := by decide +kernel
theorem dM_remove_36 : decode cM_remove 36 = .ok (.ifCond .ge 7, 3) := by decide +kernel
theorem dM_remove_39 : decode cM_remove 39 = .ok (.iconst 1, 1) := by decide +kernel
theorem dM_remove_40 : decode cM_remove 40 = .ok (.goto 4, 3) := by decide +kernel
theorem dM_remove_43 : decode cM_remove 43 = .ok (.iconst 0, 1) := by decide +kernel
theorem dM_remove_44 : decode cM_remove 44 = .ok (.istore_n 3, 1) := by decide +kernel
theorem dM_remove_45 : decode cM_remove 45 = .ok (.iload_n 3, 1) := by decide +kernel
theorem dM_remove_46 : decode cM_remove 46 = .ok (.ifCond .eq 10, 3) := by decide +kernel
theorem dM_remove_49 : decode cM_remove 49 = .ok (.aload_n 0, 1) := by decide +kernel
theorem dM_remove_50 : decode cM_remove 50 = .ok (.getfield 74, 3) := by decide +kernel
theorem dM_remove_53 : decode cM_remove 53 = .ok (.goto 9, 3) := by decide +kernel
theorem dM_remove_56 : decode cM_remove 56 = .ok (.aload_n 0, 1) := by decide +kernel
theorem dM_remove_57 : decode cM_remove 57 = .ok (.getfield 13, 3) := by decide +kernel
theorem dM_remove_60 : decode cM_remove 60 = .ok (.iload_n 1, 1) := by decide +kernel
theorem dM_remove_61 : decode cM_remove 61 = .ok (.iaload, 1) := by decide +kernel
theorem dM_remove_62 : decode cM_remove 62 = .ok (.istore 4, 2) := by decide +kernel
theorem dM_remove_64 : decode cM_remove 64 = .ok (.aload_n 0, 1) := by decide +kernel
theorem dM_remove_65 : decode cM_remove 65 = .ok (.getfield 103, 3) := by decide +kernel
theorem dM_remove_68 : decode cM_remove 68 = .ok (.ifCond .ne 41, 3) := by decide +kernel
theorem dM_remove_71 : decode cM_remove 71 = .ok (.iload_n 2, 1) := by decide +kernel
theorem dM_remove_72 : decode cM_remove 72 = .ok (.iload 4, 2) := by decide +kernel
theorem dM_remove_74 : decode cM_remove 74 = .ok (.if_icmp .ge 35, 3) := by decide +kernel
theorem dM_remove_77 : decode cM_remove 77 = .ok (.aload_n 0, 1) := by decide +kernel
theorem dM_remove_78 : decode cM_remove 78 = .ok (.iload_n 1, 1) := by decide +kernel
theorem dM_remove_79 : decode cM_remove 79 = .ok (.aload_n 0, 1) := by decide +kernel
theorem dM_remove_80 : decode cM_remove 80 = .ok (.getfield 74, 3) := by decide +kernel
theorem dM_remove_83 : decode cM_remove 83 = .ok (.invokevirtual 130, 3) := by decide +kernel
theorem dM_remove_86 : decode cM_remove 86 = .ok (.ifCond .ne 23, 3) := by decide +kernel
theorem dM_remove_89 : decode cM_remove 89 = .ok (.aload_n 0, 1) := by decide +kernel
theorem dM_remove_90 : decode cM_remove 90 = .ok (.iload_n 1, 1) := by decide +kernel
theorem dM_remove_91 : decode cM_remove 91 = .ok (.iload_n 2, 1) := by decide +kernel
theorem dM_remove_92 : decode cM_remove 92 = .ok (.invokevirtual 130, 3) := by decide +kernel
theorem dM_remove_95 : decode cM_remove 95 = .ok (.ifCond .ne 14, 3) := by decide +kernel
theorem dM_remove_98 : decode cM_remove 98 = .ok (.aload_n 0, 1) := by decide +kernel
theorem dM_remove_99 : decode cM_remove 99 = .ok (.iload_n 1, 1) := by decide +kernel
theorem dM_remove_100 : decode cM_remove 100 = .ok (.iload_n 2, 1) := by decide +kernel
theorem dM_remove_101 : decode cM_remove 101 = .ok (.iload 4, 2) := by decide +kernel
theorem dM_remove_103 : decode cM_remove 103 = .ok (.invokevirtual 136, 3) := by decide +kernel
theorem dM_remove_106 : decode cM_remove 106 = .ok (.ifCond .eq 9, 3) := by decide +kernel
theorem dM_remove_109 : decode cM_remove 109 = .ok (.aload_n 0, 1) := by decide +kernel
theorem dM_remove_110 : decode cM_remove 110 = .ok (.iconst 2, 1) := by decide +kernel
theorem dM_remove_111 : decode cM_remove 111 = .ok (.invokevirtual 121, 3) := by decide +kernel
theorem dM_remove_114 : decode cM_remove 114 = .ok (.ireturn, 1) := by decide +kernel
theorem dM_remove_115 : decode cM_remove 115 = .ok (.aload_n 0, 1) := by decide +kernel
theorem dM_remove_116 : decode cM_remove 116 = .ok (.iload_n 1, 1) := by decide +kernel
theorem dM_remove_117 : decode cM_remove 117 = .ok (.iload_n 2, 1) := by decide +kernel
theorem dM_remove_118 : decode cM_remove 118 = .ok (.iload_n 3, 1) := by decide +kernel
theorem dM_remove_119 : decode cM_remove 119 = .ok (.ifCond .eq 12, 3) := by decide +kernel
theorem dM_remove_122 : decode cM_remove 122 = .ok (.aload_n 0, 1) := by decide +kernel
theorem dM_remove_123 : decode cM_remove 123 = .ok (.getfield 74, 3) := by decide +kernel
theorem dM_remove_126 : decode cM_remove 126 = .ok (.iconst 1, 1) := by decide +kernel
theorem dM_remove_127 : decode cM_remove 127 = .ok (.iadd, 1) := by decide +kernel
theorem dM_remove_128 : decode cM_remove 128 = .ok (.goto 9, 3) := by decide +kernel
theorem dM_remove_131 : decode cM_remove 131 = .ok (.aload_n 0, 1) := by decide +kernel
theorem dM_remove_132 : decode cM_remove 132 = .ok (.getfield 16, 3) := by decide +kernel
theorem dM_remove_135 : decode cM_remove 135 = .ok (.iload_n 1, 1) := by decide +kernel
theorem dM_remove_136 : decode cM_remove 136 = .ok (.iaload, 1) := by decide +kernel
theorem dM_remove_137 : decode cM_remove 137 = .ok (.invokevirtual 133, 3) := by decide +kernel
theorem dM_remove_140 : decode cM_remove 140 = .ok (.ireturn, 1) := by decide +kernel
theorem dM_number_0 : decode cM_number 0 = .ok (.aload_n 0, 1) := by decide +kernel
theorem dM_number_1 : decode cM_number 1 = .ok (.iconst 0, 1) := by decide +kernel
theorem dM_number_2 : decode cM_number 2 = .ok (.putfield 56, 3) := by decide +kernel
theorem dM_number_5 : decode cM_number 5 = .ok (.aload_n 0, 1) := by decide +kernel
theorem dM_number_6 : decode cM_number 6 = .ok (.iload_n 1, 1) := by decide +kernel
theorem dM_number_7 : decode cM_number 7 = .ok (.invokevirtual 67, 3) := by decide +kernel
theorem dM_number_10 : decode cM_number 10 = .ok (.ifCond .eq 12, 3) := by decide +kernel
theorem dM_number_13 : decode cM_number 13 = .ok (.aload_n 0, 1) := by decide +kernel
theorem dM_number_14 : decode cM_number 14 = .ok (.getfield 13, 3) := by decide +kernel
theorem dM_number_17 : decode cM_number 17 = .ok (.iload_n 1, 1) := by decide +kernel
theorem dM_number_18 : decode cM_number 18 = .ok (.iaload, 1) := by decide +kernel
theorem dM_number_19 : decode cM_number 19 = .ok (.goto 4, 3) := by decide +kernel
theorem dM_number_22 : decode cM_number 22 = .ok (.iconst (-1), 1) := by decide +kernel
theorem dM_number_23 : decode cM_number 23 = .ok (.ireturn, 1) := by decide +kernel
theorem dM_last_0 : decode cM_last 0 = .ok (.aload_n 0, 1) := by decide +kernel
theorem dM_last_1 : decode cM_last 1 = .ok (.iconst 0, 1) := by decide +kernel
theorem dM_last_2 : decode cM_last 2 = .ok (.putfield 56, 3) := by decide +kernel
theorem dM_last_5 : decode cM_last 5 = .ok (.aload_n 0, 1) := by decide +kernel
theorem dM_last_6 : decode cM_last 6 = .ok (.getfield 74, 3) := by decide +kernel
theorem dM_last_9 : decode cM_last 9 = .ok (.ireturn, 1) := by decide +kernel
theorem dM_boundary_0 : decode cM_boundary 0 = .ok (.aload_n 0, 1) := by decide +kernel
theorem dM_boundary_1 : decode cM_boundary 1 = .ok (.iconst 0, 1) := by decide +kernel
theorem dM_boundary_2 : decode cM_boundary 2 = .ok (.putfield 56, 3) := by decide +kernel
theorem dM_boundary_5 : decode cM_boundary 5 = .ok (.aload_n 0, 1) := by decide +kernel
theorem dM_boundary_6 : decode cM_boundary 6 = .ok (.iload_n 1, 1) := by decide +kernel
theorem dM_boundary_7 : decode cM_boundary 7 = .ok (.invokevirtual 67, 3) := by decide +kernel
theorem dM_boundary_10 : decode cM_boundary 10 = .ok (.ifCond .eq 28, 3) := by decide +kernel
theorem dM_boundary_13 : decode cM_boundary 13 = .ok (.iload_n 2, 1) := by decide +kernel
theorem dM_boundary_14 : decode cM_boundary 14 = .ok (.iconst 0, 1) := by decide +kernel
theorem dM_boundary_15 : decode cM_boundary 15 = .ok (.aload_n 0, 1) := by decide +kernel
theorem dM_boundary_16 : decode cM_boundary 16 = .ok (.getfield 74, 3) := by decide +kernel
theorem dM_boundary_19 : decode cM_boundary 19 = .ok (.invokestatic 63, 3) := by decide +kernel
theorem dM_boundary_22 : decode cM_boundary 22 = .ok (.ifCond .eq 16, 3) := by decide +kernel
theorem dM_boundary_25 : decode cM_boundary 25 = .ok (.aload_n 0, 1) := by decide +kernel
theorem dM_boundary_26 : decode cM_boundary 26 = .ok (.iload_n 1, 1) := by decide +kernel
theorem dM_boundary_27 : decode cM_boundary 27 = .ok (.iload_n 2, 1) := by decide +kernel
theorem dM_boundary_28 : decode cM_boundary 28 = .ok (.invokevirtual 130, 3) := by decide +kernel
theorem dM_boundary_31 : decode cM_boundary 31 = .ok (.ifCond .ne 7, 3) := by decide +kernel
theorem dM_boundary_34 : decode cM_boundary 34 = .ok (.iconst 1, 1) := by decide +kernel
theorem dM_boundary_35 : decode cM_boundary 35 = .ok (.goto 4, 3) := by decide +kernel
theorem dM_boundary_38 : decode cM_boundary 38 = .ok (.iconst 0, 1) := by decide +kernel
theorem dM_boundary_39 : decode cM_boundary 39 = .ok (.ireturn, 1) := by decide +kernel
theorem dM_entry_0 : decode cM_entry 0 = .ok (.aload_n 0, 1) := by decide +kernel
theorem dM_entry_1 : decode cM_entry 1 = .ok (.iconst 0, 1) := by decide +kernel
theorem dM_entry_2 : decode cM_entry 2 = .ok (.putfield 56, 3) := by decide +kernel
theorem dM_entry_5 : decode cM_entry 5 = .ok (.aload_n 0, 1) := by decide +kernel
theorem dM_entry_6 : decode cM_entry 6 = .ok (.iload_n 1, 1) := by decide +kernel
theorem dM_entry_7 : decode cM_entry 7 = .ok (.invokevirtual 139, 3) := by decide +kernel
theorem dM_entry_10 : decode cM_entry 10 = .ok (.ifCond .eq 27, 3) := by decide +kernel
theorem dM_entry_13 : decode cM_entry 13 = .ok (.iload_n 2, 1) := by decide +kernel
theorem dM_entry_14 : decode cM_entry 14 = .ok (.iconst 0, 1) := by decide +kernel
theorem dM_entry_15 : decode cM_entry 15 = .ok (.iconst 5, 1) := by decide +kernel
theorem dM_entry_16 : decode cM_entry 16 = .ok (.invokestatic 63, 3) := by decide +kernel
theorem dM_entry_19 : decode cM_entry 19 = .ok (.ifCond .eq 18, 3) := by decide +kernel
theorem dM_entry_22 : decode cM_entry 22 = .ok (.iload_n 2, 1) := by decide +kernel
theorem dM_entry_23 : decode cM_entry 23 = .ok (.iconst 1, 1) := by decide +kernel
theorem dM_entry_24 : decode cM_entry 24 = .ok (.if_icmp .le 17, 3) := by decide +kernel
theorem dM_entry_27 : decode cM_entry 27 = .ok (.aload_n 0, 1) := by decide +kernel
theorem dM_entry_28 : decode cM_entry 28 = .ok (.getfield 19, 3) := by decide +kernel
theorem dM_entry_31 : decode cM_entry 31 = .ok (.iload_n 1, 1) := by decide +kernel
theorem dM_entry_32 : decode cM_entry 32 = .ok (.iaload, 1) := by decide +kernel
theorem dM_entry_33 : decode cM_entry 33 = .ok (.iconst 1, 1) := by decide +kernel
theorem dM_entry_34 : decode cM_entry 34 = .ok (.if_icmp .eq 7, 3) := by decide +kernel
theorem dM_entry_37 : decode cM_entry 37 = .ok (.ldc2_w 124, 3) := by decide +kernel
theorem dM_entry_40 : decode cM_entry 40 = .ok (.lreturn, 1) := by decide +kernel
theorem dM_entry_41 : decode cM_entry 41 = .ok (.iload_n 2, 1) := by decide +kernel
theorem dM_entry_42 : decode cM_entry 42 = .ok (.ifCond .ne 13, 3) := by decide +kernel
theorem dM_entry_45 : decode cM_entry 45 = .ok (.aload_n 0, 1) := by decide +kernel
theorem dM_entry_46 : decode cM_entry 46 = .ok (.getfield 19, 3) := by decide +kernel
theorem dM_entry_49 : decode cM_entry 49 = .ok (.iload_n 1, 1) := by decide +kernel
theorem dM_entry_50 : decode cM_entry 50 = .ok (.iaload, 1) := by decide +kernel
theorem dM_entry_51 : decode cM_entry 51 = .ok (.i2l, 1) := by decide +kernel
theorem dM_entry_52 : decode cM_entry 52 = .ok (.goto 70, 3) := by decide +kernel
theorem dM_entry_55 : decode cM_entry 55 = .ok (.iload_n 2, 1) := by decide +kernel
theorem dM_entry_56 : decode cM_entry 56 = .ok (.iconst 1, 1) := by decide +kernel
theorem dM_entry_57 : decode cM_entry 57 = .ok (.if_icmp .ne 13, 3) := by decide +kernel
theorem dM_entry_60 : decode cM_entry 60 = .ok (.aload_n 0, 1) := by decide +kernel
theorem dM_entry_61 : decode cM_entry 61 = .ok (.getfield 22, 3) := by decide +kernel
theorem dM_entry_64 : decode cM_entry 64 = .ok (.iload_n 1, 1) := by decide +kernel
theorem dM_entry_65 : decode cM_entry 65 = .ok (.iaload, 1) := by decide +kernel
theorem dM_entry_66 : decode cM_entry 66 = .ok (.i2l, 1) := by decide +kernel
theorem dM_entry_67 : decode cM_entry 67 = .ok (.goto 55, 3) := by decide +kernel
theorem dM_entry_70 : decode cM_entry 70 = .ok (.iload_n 2, 1) := by decide +kernel
theorem dM_entry_71 : decode cM_entry 71 = .ok (.iconst 2, 1) := by decide +kernel
theorem dM_entry_72 : decode cM_entry 72 = .ok (.if_icmp .ne 13, 3) := by decide +kernel
theorem dM_entry_75 : decode cM_entry 75 = .ok (.aload_n 0, 1) := by decide +kernel
theorem dM_entry_76 : decode cM_entry 76 = .ok (.getfield 25, 3) := by decide +kernel
theorem dM_entry_79 : decode cM_entry 79 = .ok (.iload_n 1, 1) := by decide +kernel
theorem dM_entry_80 : decode cM_entry 80 = .ok (.iaload, 1) := by decide +kernel
theorem dM_entry_81 : decode cM_entry 81 = .ok (.i2l, 1) := by decide +kernel
theorem dM_entry_82 : decode cM_entry 82 = .ok (.goto 40, 3) := by decide +kernel
theorem dM_entry_85 : decode cM_entry 85 = .ok (.iload_n 2, 1) := by decide +kernel
theorem dM_entry_86 : decode cM_entry 86 = .ok (.iconst 3, 1) := by decide +kernel
theorem dM_entry_87 : decode cM_entry 87 = .ok (.if_icmp .ne 13, 3) := by decide +kernel
theorem dM_entry_90 : decode cM_entry 90 = .ok (.aload_n 0, 1) := by decide +kernel
theorem dM_entry_91 : decode cM_entry 91 = .ok (.getfield 28, 3) := by decide +kernel
theorem dM_entry_94 : decode cM_entry 94 = .ok (.iload_n 1, 1) := by decide +kernel
theorem dM_entry_95 : decode cM_entry 95 = .ok (.iaload, 1) := by decide +kernel
theorem dM_entry_96 : decode cM_entry 96 = .ok (.i2l, 1) := by decide +kernel
theorem dM_entry_97 : decode cM_entry 97 = .ok (.goto 25, 3) := by decide +kernel
theorem dM_entry_100 : decode cM_entry 100 = .ok (.iload_n 2, 1) := by decide +kernel
theorem dM_entry_101 : decode cM_entry 101 = .ok (.iconst 4, 1) := by decide +kernel
theorem dM_entry_102 : decode cM_entry 102 = .ok (.if_icmp .ne 13, 3) := by decide +kernel
theorem dM_entry_105 : decode cM_entry 105 = .ok (.aload_n 0, 1) := by decide +kernel
theorem dM_entry_106 : decode cM_entry 106 = .ok (.getfield 31, 3) := by decide +kernel
theorem dM_entry_109 : decode cM_entry 109 = .ok (.iload_n 1, 1) := by decide +kernel
theorem dM_entry_110 : decode cM_entry 110 = .ok (.iaload, 1) := by decide +kernel
theorem dM_entry_111 : decode cM_entry 111 = .ok (.i2l, 1) := by decide +kernel
theorem dM_entry_112 : decode cM_entry 112 = .ok (.goto 10, 3) := by decide +kernel
theorem dM_entry_115 : decode cM_entry 115 = .ok (.aload_n 0, 1) := by decide +kernel
theorem dM_entry_116 : decode cM_entry 116 = .ok (.getfield 34, 3) := by decide +kernel
theorem dM_entry_119 : decode cM_entry 119 = .ok (.iload_n 1, 1) := by decide +kernel
theorem dM_entry_120 : decode cM_entry 120 = .ok (.iaload, 1) := by decide +kernel
theorem dM_entry_121 : decode cM_entry 121 = .ok (.i2l, 1) := by decide +kernel
theorem dM_entry_122 : decode cM_entry 122 = .ok (.lreturn, 1) := by decide +kernel
theorem dM_drop_0 : decode cM_drop 0 = .ok (.bipush 8, 2) := by decide +kernel
theorem dM_drop_2 : decode cM_drop 2 = .ok (.aload_n 0, 1) := by decide +kernel
theorem dM_drop_3 : decode cM_drop 3 = .ok (.getfield 71, 3) := by decide +kernel
theorem dM_drop_6 : decode cM_drop 6 = .ok (.imul, 1) := by decide +kernel
theorem dM_drop_7 : decode cM_drop 7 = .ok (.bipush 8, 2) := by decide +kernel
theorem dM_drop_9 : decode cM_drop 9 = .ok (.iadd, 1) := by decide +kernel
theorem dM_drop_10 : decode cM_drop 10 = .ok (.istore_n 1, 1) := by decide +kernel
theorem dM_drop_11 : decode cM_drop 11 = .ok (.aload_n 0, 1) := by decide +kernel
theorem dM_drop_12 : decode cM_drop 12 = .ok (.getfield 103, 3) := by decide +kernel
theorem dM_drop_15 : decode cM_drop 15 = .ok (.ifCond .ne 23, 3) := by decide +kernel
theorem dM_drop_18 : decode cM_drop 18 = .ok (.aload_n 0, 1) := by decide +kernel
theorem dM_drop_19 : decode cM_drop 19 = .ok (.getfield 74, 3) := by decide +kernel
theorem dM_drop_22 : decode cM_drop 22 = .ok (.iload_n 1, 1) := by decide +kernel
theorem dM_drop_23 : decode cM_drop 23 = .ok (.if_icmp .lt 15, 3) := by decide +kernel
theorem dM_drop_26 : decode cM_drop 26 = .ok (.aload_n 0, 1) := by decide +kernel
theorem dM_drop_27 : decode cM_drop 27 = .ok (.getfield 142, 3) := by decide +kernel
theorem dM_drop_30 : decode cM_drop 30 = .ok (.iload_n 1, 1) := by decide +kernel
theorem dM_drop_31 : decode cM_drop 31 = .ok (.if_icmp .lt 7, 3) := by decide +kernel
theorem dM_drop_34 : decode cM_drop 34 = .ok (.iconst 1, 1) := by decide +kernel
theorem dM_drop_35 : decode cM_drop 35 = .ok (.goto 4, 3) := by decide +kernel
theorem dM_drop_38 : decode cM_drop 38 = .ok (.iconst 0, 1) := by decide +kernel
theorem dM_drop_39 : decode cM_drop 39 = .ok (.istore_n 2, 1) := by decide +kernel
theorem dM_drop_40 : decode cM_drop 40 = .ok (.iconst 0, 1) := by decide +kernel
theorem dM_drop_41 : decode cM_drop 41 = .ok (.istore_n 3, 1) := by decide +kernel
theorem dM_drop_42 : decode cM_drop 42 = .ok (.iload_n 3, 1) := by decide +kernel
theorem dM_drop_43 : decode cM_drop 43 = .ok (.iconst 4, 1) := by decide +kernel
theorem dM_drop_44 : decode cM_drop 44 = .ok (.if_icmp .ge 41, 3) := by decide +kernel
theorem dM_drop_47 : decode cM_drop 47 = .ok (.aload_n 0, 1) := by decide +kernel
theorem dM_drop_48 : decode cM_drop 48 = .ok (.iload_n 3, 1) := by decide +kernel
theorem dM_drop_49 : decode cM_drop 49 = .ok (.aload_n 0, 1) := by decide +kernel
theorem dM_drop_50 : decode cM_drop 50 = .ok (.getfield 74, 3) := by decide +kernel
theorem dM_drop_53 : decode cM_drop 53 = .ok (.invokevirtual 77, 3) := by decide +kernel
theorem dM_drop_56 : decode cM_drop 56 = .ok (.istore 4, 2) := by decide +kernel
theorem dM_drop_58 : decode cM_drop 58 = .ok (.iload_n 2, 1) := by decide +kernel
theorem dM_drop_59 : decode cM_drop 59 = .ok (.ifCond .eq 18, 3) := by decide +kernel
theorem dM_drop_62 : decode cM_drop 62 = .ok (.iload 4, 2) := by decide +kernel
theorem dM_drop_64 : decode cM_drop 64 = .ok (.ifCond .eq 9, 3) := by decide +kernel
theorem dM_drop_67 : decode cM_drop 67 = .ok (.iload 4, 2) := by decide +kernel
theorem dM_drop_69 : decode cM_drop 69 = .ok (.iload_n 1, 1) := by decide +kernel
theorem dM_drop_70 : decode cM_drop 70 = .ok (.if_icmp .le 7, 3) := by decide +kernel
theorem dM_drop_73 : decode cM_drop 73 = .ok (.iconst 1, 1) := by decide +kernel
theorem dM_drop_74 : decode cM_drop 74 = .ok (.goto 4, 3) := by decide +kernel
theorem dM_drop_77 : decode cM_drop 77 = .ok (.iconst 0, 1) := by decide +kernel
theorem dM_drop_78 : decode cM_drop 78 = .ok (.istore_n 2, 1) := by decide +kernel
theorem dM_drop_79 : decode cM_drop 79 = .ok (.iinc 3 1, 3) := by decide +kernel
theorem dM_drop_82 : decode cM_drop 82 = .ok (.goto (-40), 3) := by decide +kernel
theorem dM_drop_85 : decode cM_drop 85 = .ok (.aload_n 0, 1) := by decide +kernel
theorem dM_drop_86 : decode cM_drop 86 = .ok (.iload_n 2, 1) := by decide +kernel
theorem dM_drop_87 : decode cM_drop 87 = .ok (.ifCond .eq 7, 3) := by decide +kernel
theorem dM_drop_90 : decode cM_drop 90 = .ok (.iconst 0, 1) := by decide +kernel
theorem dM_drop_91 : decode cM_drop 91 = .ok (.goto 4, 3) := by decide +kernel
theorem dM_drop_94 : decode cM_drop 94 = .ok (.iconst 1, 1) := by decide +kernel
theorem dM_drop_95 : decode cM_drop 95 = .ok (.putfield 56, 3) := by decide +kernel
theorem dM_drop_98 : decode cM_drop 98 = .ok (.iload_n 2, 1) := by decide +kernel
theorem dM_drop_99 : decode cM_drop 99 = .ok (.ifCond .ne 5, 3) := by decide +kernel
theorem dM_drop_102 : decode cM_drop 102 = .ok (.iconst 0, 1) := by decide +kernel
theorem dM_drop_103 : decode cM_drop 103 = .ok (.ireturn, 1) := by decide +kernel
theorem dM_drop_104 : decode cM_drop 104 = .ok (.aload_n 0, 1) := by decide +kernel
theorem dM_drop_105 : decode cM_drop 105 = .ok (.getfield 89, 3) := by decide +kernel
theorem dM_drop_108 : decode cM_drop 108 = .ok (.ifCond .le 10, 3) := by decide +kernel
theorem dM_drop_111 : decode cM_drop 111 = .ok (.aload_n 0, 1) := by decide +kernel
theorem dM_drop_112 : decode cM_drop 112 = .ok (.invokevirtual 96, 3) := by decide +kernel
theorem dM_drop_115 : decode cM_drop 115 = .ok (.goto (-11), 3) := by decide +kernel
theorem dM_drop_118 : decode cM_drop 118 = .ok (.aload_n 0, 1) := by decide +kernel
theorem dM_drop_119 : decode cM_drop 119 = .ok (.dup, 1) := by decide +kernel
theorem dM_drop_120 : decode cM_drop 120 = .ok (.getfield 71, 3) := by decide +kernel
theorem dM_drop_123 : decode cM_drop 123 = .ok (.iconst 1, 1) := by decide +kernel
theorem dM_drop_124 : decode cM_drop 124 = .ok (.iadd, 1) := by decide +kernel
theorem dM_drop_125 : decode cM_drop 125 = .ok (.putfield 71, 3) := by decide +kernel
theorem dM_drop_128 : decode cM_drop 128 = .ok (.aload_n 0, 1) := by decide +kernel
theorem dM_drop_129 : decode cM_drop 129 = .ok (.getfield 71, 3) := by decide +kernel
theorem dM_drop_132 : decode cM_drop 132 = .ok (.ireturn, 1) := by decide +kernel
theorem dM_cut_0 : decode cM_cut 0 = .ok (.aload_n 0, 1) := by decide +kernel
theorem dM_cut_1 : decode cM_cut 1 = .ok (.iload_n 1, 1) := by decide +kernel
theorem dM_cut_2 : decode cM_cut 2 = .ok (.iconst 0, 1) := by decide +kernel
theorem dM_cut_3 : decode cM_cut 3 = .ok (.aload_n 0, 1) := by decide +kernel
theorem dM_cut_4 : decode cM_cut 4 = .ok (.getfield 89, 3) := by decide +kernel
theorem dM_cut_7 : decode cM_cut 7 = .ok (.invokestatic 63, 3) := by decide +kernel
theorem dM_cut_10 : decode cM_cut 10 = .ok (.ifCond .ne 7, 3) := by decide +kernel
theorem dM_cut_13 : decode cM_cut 13 = .ok (.iconst 1, 1) := by decide +kernel
theorem dM_cut_14 : decode cM_cut 14 = .ok (.goto 15, 3) := by decide +kernel
theorem dM_cut_17 : decode cM_cut 17 = .ok (.aload_n 0, 1) := by decide +kernel
theorem dM_cut_18 : decode cM_cut 18 = .ok (.getfield 103, 3) := by decide +kernel
theorem dM_cut_21 : decode cM_cut 21 = .ok (.ifCond .eq 7, 3) := by decide +kernel
theorem dM_cut_24 : decode cM_cut 24 = .ok (.iconst 2, 1) := by decide +kernel
theorem dM_cut_25 : decode cM_cut 25 = .ok (.goto 4, 3) := by decide +kernel
theorem dM_cut_28 : decode cM_cut 28 = .ok (.iconst 0, 1) := by decide +kernel
theorem dM_cut_29 : decode cM_cut 29 = .ok (.putfield 56, 3) := by decide +kernel
theorem dM_cut_32 : decode cM_cut 32 = .ok (.aload_n 0, 1) := by decide +kernel
theorem dM_cut_33 : decode cM_cut 33 = .ok (.getfield 56, 3) := by decide +kernel
theorem dM_cut_36 : decode cM_cut 36 = .ok (.ifCond .le 5, 3) := by decide +kernel
theorem dM_cut_39 : decode cM_cut 39 = .ok (.iconst 0, 1) := by decide +kernel
theorem dM_cut_40 : decode cM_cut 40 = .ok (.ireturn, 1) := by decide +kernel
theorem dM_cut_41 : decode cM_cut 41 = .ok (.iconst 0, 1) := by decide +kernel
theorem dM_cut_42 : decode cM_cut 42 = .ok (.istore_n 2, 1) := by decide +kernel
theorem dM_cut_43 : decode cM_cut 43 = .ok (.iload_n 2, 1) := by decide +kernel
theorem dM_cut_44 : decode cM_cut 44 = .ok (.iload_n 1, 1) := by decide +kernel
theorem dM_cut_45 : decode cM_cut 45 = .ok (.if_icmp .ge 13, 3) := by decide +kernel
theorem dM_cut_48 : decode cM_cut 48 = .ok (.aload_n 0, 1) := by decide +kernel
theorem dM_cut_49 : decode cM_cut 49 = .ok (.invokevirtual 96, 3) := by decide +kernel
theorem dM_cut_52 : decode cM_cut 52 = .ok (.iinc 2 1, 3) := by decide +kernel
theorem dM_cut_55 : decode cM_cut 55 = .ok (.goto (-12), 3) := by decide +kernel
theorem dM_cut_58 : decode cM_cut 58 = .ok (.aload_n 0, 1) := by decide +kernel
theorem dM_cut_59 : decode cM_cut 59 = .ok (.getfield 89, 3) := by decide +kernel
theorem dM_cut_62 : decode cM_cut 62 = .ok (.istore_n 2, 1) := by decide +kernel
theorem dM_cut_63 : decode cM_cut 63 = .ok (.aload_n 0, 1) := by decide +kernel
theorem dM_cut_64 : decode cM_cut 64 = .ok (.iconst 0, 1) := by decide +kernel
theorem dM_cut_65 : decode cM_cut 65 = .ok (.putfield 89, 3) := by decide +kernel
theorem dM_cut_68 : decode cM_cut 68 = .ok (.aload_n 0, 1) := by decide +kernel
theorem dM_cut_69 : decode cM_cut 69 = .ok (.iconst 1, 1) := by decide +kernel
theorem dM_cut_70 : decode cM_cut 70 = .ok (.putfield 103, 3) := by decide +kernel
theorem dM_cut_73 : decode cM_cut 73 = .ok (.iload_n 2, 1) := by decide +kernel
theorem dM_cut_74 : decode cM_cut 74 = .ok (.ireturn, 1) := by decide +kernel
theorem dM_start_0 : decode cM_start 0 = .ok (.aload_n 0, 1) := by decide +kernel
theorem dM_start_1 : decode cM_start 1 = .ok (.aload_n 0, 1) := by decide +kernel
theorem dM_start_2 : decode cM_start 2 = .ok (.getfield 103, 3) := by decide +kernel
theorem dM_start_5 : decode cM_start 5 = .ok (.ifCond .eq 7, 3) := by decide +kernel
theorem dM_start_8 : decode cM_start 8 = .ok (.iconst 0, 1) := by decide +kernel
theorem dM_start_9 : decode cM_start 9 = .ok (.goto 4, 3) := by decide +kernel
theorem dM_start_12 : decode cM_start 12 = .ok (.iconst 1, 1) := by decide +kernel
theorem dM_start_13 : decode cM_start 13 = .ok (.putfield 56, 3) := by decide +kernel
theorem dM_start_16 : decode cM_start 16 = .ok (.aload_n 0, 1) := by decide +kernel
theorem dM_start_17 : decode cM_start 17 = .ok (.getfield 56, 3) := by decide +kernel
theorem dM_start_20 : decode cM_start 20 = .ok (.ifCond .le 5, 3) := by decide +kernel
theorem dM_start_23 : decode cM_start 23 = .ok (.iconst 0, 1) := by decide +kernel
theorem dM_start_24 : decode cM_start 24 = .ok (.ireturn, 1) := by decide +kernel
theorem dM_start_25 : decode cM_start 25 = .ok (.aload_n 0, 1) := by decide +kernel
theorem dM_start_26 : decode cM_start 26 = .ok (.iconst 0, 1) := by decide +kernel
theorem dM_start_27 : decode cM_start 27 = .ok (.putfield 103, 3) := by decide +kernel
theorem dM_start_30 : decode cM_start 30 = .ok (.iconst 0, 1) := by decide +kernel
theorem dM_start_31 : decode cM_start 31 = .ok (.istore_n 1, 1) := by decide +kernel
theorem dM_start_32 : decode cM_start 32 = .ok (.iload_n 1, 1) := by decide +kernel
theorem dM_start_33 : decode cM_start 33 = .ok (.aload_n 0, 1) := by decide +kernel
theorem dM_start_34 : decode cM_start 34 = .ok (.getfield 60, 3) := by decide +kernel
theorem dM_start_37 : decode cM_start 37 = .ok (.if_icmp .ge 44, 3) := by decide +kernel
theorem dM_start_40 : decode cM_start 40 = .ok (.iconst 0, 1) := by decide +kernel
theorem dM_start_41 : decode cM_start 41 = .ok (.istore_n 2, 1) := by decide +kernel
theorem dM_start_42 : decode cM_start 42 = .ok (.iload_n 2, 1) := by decide +kernel
theorem dM_start_43 : decode cM_start 43 = .ok (.bipush 8, 2) := by decide +kernel
theorem dM_start_45 : decode cM_start 45 = .ok (.if_icmp .ge 30, 3) := by decide +kernel
theorem dM_start_48 : decode cM_start 48 = .ok (.aload_n 0, 1) := by decide +kernel
theorem dM_start_49 : decode cM_start 49 = .ok (.getfield 37, 3) := by decide +kernel
theorem dM_start_52 : decode cM_start 52 = .ok (.bipush 8, 2) := by decide +kernel
theorem dM_start_54 : decode cM_start 54 = .ok (.iload_n 1, 1) := by decide +kernel
theorem dM_start_55 : decode cM_start 55 = .ok (.imul, 1) := by decide +kernel
theorem dM_start_56 : decode cM_start 56 = .ok (.iload_n 2, 1) := by decide +kernel
theorem dM_start_57 : decode cM_start 57 = .ok (.iadd, 1) := by decide +kernel
theorem dM_start_58 : decode cM_start 58 = .ok (.aload_n 0, 1) := by decide +kernel
theorem dM_start_59 : decode cM_start 59 = .ok (.iload_n 1, 1) := by decide +kernel
theorem dM_start_60 : decode cM_start 60 = .ok (.iload_n 2, 1) := by decide +kernel
theorem dM_start_61 : decode cM_start 61 = .ok (.aload_n 0, 1) := by decide +kernel
theorem dM_start_62 : decode cM_start 62 = .ok (.getfield 74, 3) := by decide +kernel
theorem dM_start_65 : decode cM_start 65 = .ok (.invokevirtual 85, 3) := by decide +kernel
theorem dM_start_68 : decode cM_start 68 = .ok (.iastore, 1) := by decide +kernel
theorem dM_start_69 : decode cM_start 69 = .ok (.iinc 2 1, 3) := by decide +kernel
theorem dM_start_72 : decode cM_start 72 = .ok (.goto (-30), 3) := by decide +kernel
theorem dM_start_75 : decode cM_start 75 = .ok (.iinc 1 1, 3) := by decide +kernel
theorem dM_start_78 : decode cM_start 78 = .ok (.goto (-46), 3) := by decide +kernel
theorem dM_start_81 : decode cM_start 81 = .ok (.iconst 0, 1) := by decide +kernel
theorem dM_start_82 : decode cM_start 82 = .ok (.istore_n 1, 1) := by decide +kernel
theorem dM_start_83 : decode cM_start 83 = .ok (.iload_n 1, 1) := by decide +kernel
theorem dM_start_84 : decode cM_start 84 = .ok (.iconst 3, 1) := by decide +kernel
theorem dM_start_85 : decode cM_start 85 = .ok (.if_icmp .ge 26, 3) := by decide +kernel
theorem dM_start_88 : decode cM_start 88 = .ok (.aload_n 0, 1) := by decide +kernel
theorem dM_start_89 : decode cM_start 89 = .ok (.iload_n 1, 1) := by decide +kernel
theorem dM_start_90 : decode cM_start 90 = .ok (.aload_n 0, 1) := by decide +kernel
theorem dM_start_91 : decode cM_start 91 = .ok (.getfield 74, 3) := by decide +kernel
theorem dM_start_94 : decode cM_start 94 = .ok (.invokevirtual 77, 3) := by decide +kernel
theorem dM_start_97 : decode cM_start 97 = .ok (.ifCond .le 8, 3) := by decide +kernel
theorem dM_start_100 : decode cM_start 100 = .ok (.aload_n 0, 1) := by decide +kernel
theorem dM_start_101 : decode cM_start 101 = .ok (.iload_n 1, 1) := by decide +kernel
theorem dM_start_102 : decode cM_start 102 = .ok (.invokevirtual 126, 3) := by decide +kernel
theorem dM_start_105 : decode cM_start 105 = .ok (.iinc 1 1, 3) := by decide +kernel
theorem dM_start_108 : decode cM_start 108 = .ok (.goto (-25), 3) := by decide +kernel
theorem dM_start_111 : decode cM_start 111 = .ok (.aload_n 0, 1) := by decide +kernel
theorem dM_start_112 : decode cM_start 112 = .ok (.getfield 74, 3) := by decide +kernel
theorem dM_start_115 : decode cM_start 115 = .ok (.ireturn, 1) := by decide +kernel
theorem dM_link_0 : decode cM_link 0 = .ok (.iload_n 2, 1) := by decide +kernel
theorem dM_link_1 : decode cM_link 1 = .ok (.iconst 3, 1) := by decide +kernel
theorem dM_link_2 : decode cM_link 2 = .ok (.if_icmp .ne 11, 3) := by decide +kernel
theorem dM_link_5 : decode cM_link 5 = .ok (.aload_n 0, 1) := by decide +kernel
theorem dM_link_6 : decode cM_link 6 = .ok (.iload_n 1, 1) := by decide +kernel
theorem dM_link_7 : decode cM_link 7 = .ok (.invokevirtual 139, 3) := by decide +kernel
theorem dM_link_10 : decode cM_link 10 = .ok (.goto 14, 3) := by decide +kernel
theorem dM_link_13 : decode cM_link 13 = .ok (.iload_n 1, 1) := by decide +kernel
theorem dM_link_14 : decode cM_link 14 = .ok (.iconst 0, 1) := by decide +kernel
theorem dM_link_15 : decode cM_link 15 = .ok (.aload_n 0, 1) := by decide +kernel
theorem dM_link_16 : decode cM_link 16 = .ok (.getfield 145, 3) := by decide +kernel
theorem dM_link_19 : decode cM_link 19 = .ok (.iconst 1, 1) := by decide +kernel
theorem dM_link_20 : decode cM_link 20 = .ok (.isub, 1) := by decide +kernel
theorem dM_link_21 : decode cM_link 21 = .ok (.invokestatic 63, 3) := by decide +kernel
theorem dM_link_24 : decode cM_link 24 = .ok (.istore_n 3, 1) := by decide +kernel
theorem dM_link_25 : decode cM_link 25 = .ok (.aload_n 0, 1) := by decide +kernel
theorem dM_link_26 : decode cM_link 26 = .ok (.iload_n 2, 1) := by decide +kernel
theorem dM_link_27 : decode cM_link 27 = .ok (.iconst 0, 1) := by decide +kernel
theorem dM_link_28 : decode cM_link 28 = .ok (.iconst 3, 1) := by decide +kernel
theorem dM_link_29 : decode cM_link 29 = .ok (.invokestatic 63, 3) := by decide +kernel
theorem dM_link_32 : decode cM_link 32 = .ok (.ifCond .eq 7, 3) := by decide +kernel
theorem dM_link_35 : decode cM_link 35 = .ok (.iload_n 3, 1) := by decide +kernel
theorem dM_link_36 : decode cM_link 36 = .ok (.ifCond .ne 7, 3) := by decide +kernel
theorem dM_link_39 : decode cM_link 39 = .ok (.iconst 1, 1) := by decide +kernel
theorem dM_link_40 : decode cM_link 40 = .ok (.goto 34, 3) := by decide +kernel
theorem dM_link_43 : decode cM_link 43 = .ok (.iload_n 2, 1) := by decide +kernel
theorem dM_link_44 : decode cM_link 44 = .ok (.iconst 1, 1) := by decide +kernel
theorem dM_link_45 : decode cM_link 45 = .ok (.if_icmp .le 12, 3) := by decide +kernel
theorem dM_link_48 : decode cM_link 48 = .ok (.aload_n 0, 1) := by decide +kernel
theorem dM_link_49 : decode cM_link 49 = .ok (.getfield 145, 3) := by decide +kernel
theorem dM_link_52 : decode cM_link 52 = .ok (.bipush 16, 2) := by decide +kernel
theorem dM_link_54 : decode cM_link 54 = .ok (.if_icmp .eq 15, 3) := by decide +kernel
theorem dM_link_57 : decode cM_link 57 = .ok (.iload_n 2, 1) := by decide +kernel
theorem dM_link_58 : decode cM_link 58 = .ok (.iconst 3, 1) := by decide +kernel
theorem dM_link_59 : decode cM_link 59 = .ok (.if_icmp .ne 14, 3) := by decide +kernel
theorem dM_link_62 : decode cM_link 62 = .ok (.aload_n 0, 1) := by decide +kernel
theorem dM_link_63 : decode cM_link 63 = .ok (.getfield 103, 3) := by decide +kernel
theorem dM_link_66 : decode cM_link 66 = .ok (.ifCond .eq 7, 3) := by decide +kernel
theorem dM_link_69 : decode cM_link 69 = .ok (.iconst 2, 1) := by decide +kernel
theorem dM_link_70 : decode cM_link 70 = .ok (.goto 4, 3) := by decide +kernel
theorem dM_link_73 : decode cM_link 73 = .ok (.iconst 0, 1) := by decide +kernel
theorem dM_link_74 : decode cM_link 74 = .ok (.putfield 56, 3) := by decide +kernel
theorem dM_link_77 : decode cM_link 77 = .ok (.aload_n 0, 1) := by decide +kernel
theorem dM_link_78 : decode cM_link 78 = .ok (.getfield 56, 3) := by decide +kernel
theorem dM_link_81 : decode cM_link 81 = .ok (.ifCond .le 5, 3) := by decide +kernel
theorem dM_link_84 : decode cM_link 84 = .ok (.iconst 0, 1) := by decide +kernel
theorem dM_link_85 : decode cM_link 85 = .ok (.ireturn, 1) := by decide +kernel
theorem dM_link_86 : decode cM_link 86 = .ok (.iload_n 2, 1) := by decide +kernel
theorem dM_link_87 : decode cM_link 87 = .ok (.iconst 1, 1) := by decide +kernel
theorem dM_link_88 : decode cM_link 88 = .ok (.if_icmp .le 42, 3) := by decide +kernel
theorem dM_link_91 : decode cM_link 91 = .ok (.aload_n 0, 1) := by decide +kernel
theorem dM_link_92 : decode cM_link 92 = .ok (.getfield 49, 3) := by decide +kernel
theorem dM_link_95 : decode cM_link 95 = .ok (.aload_n 0, 1) := by decide +kernel
theorem dM_link_96 : decode cM_link 96 = .ok (.getfield 145, 3) := by decide +kernel
theorem dM_link_99 : decode cM_link 99 = .ok (.iload_n 2, 1) := by decide +kernel
theorem dM_link_100 : decode cM_link 100 = .ok (.iconst 3, 1) := by decide +kernel
theorem dM_link_101 : decode cM_link 101 = .ok (.if_icmp .ne 7, 3) := by decide +kernel
theorem dM_link_104 : decode cM_link 104 = .ok (.iload_n 1, 1) := by decide +kernel
theorem dM_link_105 : decode cM_link 105 = .ok (.goto 9, 3) := by decide +kernel
theorem dM_link_108 : decode cM_link 108 = .ok (.aload_n 0, 1) := by decide +kernel
theorem dM_link_109 : decode cM_link 109 = .ok (.getfield 49, 3) := by decide +kernel
theorem dM_link_112 : decode cM_link 112 = .ok (.iload_n 1, 1) := by decide +kernel
theorem dM_link_113 : decode cM_link 113 = .ok (.iaload, 1) := by decide +kernel
theorem dM_link_114 : decode cM_link 114 = .ok (.iastore, 1) := by decide +kernel
theorem dM_link_115 : decode cM_link 115 = .ok (.aload_n 0, 1) := by decide +kernel
theorem dM_link_116 : decode cM_link 116 = .ok (.dup, 1) := by decide +kernel
theorem dM_link_117 : decode cM_link 117 = .ok (.getfield 145, 3) := by decide +kernel
theorem dM_link_120 : decode cM_link 120 = .ok (.iconst 1, 1) := by decide +kernel
theorem dM_link_121 : decode cM_link 121 = .ok (.iadd, 1) := by decide +kernel
theorem dM_link_122 : decode cM_link 122 = .ok (.putfield 145, 3) := by decide +kernel
theorem dM_link_125 : decode cM_link 125 = .ok (.aload_n 0, 1) := by decide +kernel
theorem dM_link_126 : decode cM_link 126 = .ok (.getfield 145, 3) := by decide +kernel
theorem dM_link_129 : decode cM_link 129 = .ok (.ireturn, 1) := by decide +kernel
theorem dM_link_130 : decode cM_link 130 = .ok (.aload_n 0, 1) := by decide +kernel
theorem dM_link_131 : decode cM_link 131 = .ok (.getfield 49, 3) := by decide +kernel
theorem dM_link_134 : decode cM_link 134 = .ok (.iload_n 1, 1) := by decide +kernel
theorem dM_link_135 : decode cM_link 135 = .ok (.iaload, 1) := by decide +kernel
theorem dM_link_136 : decode cM_link 136 = .ok (.istore 4, 2) := by decide +kernel
theorem dM_link_138 : decode cM_link 138 = .ok (.aload_n 0, 1) := by decide +kernel
theorem dM_link_139 : decode cM_link 139 = .ok (.dup, 1) := by decide +kernel
theorem dM_link_140 : decode cM_link 140 = .ok (.getfield 145, 3) := by decide +kernel
theorem dM_link_143 : decode cM_link 143 = .ok (.iconst 1, 1) := by decide +kernel
theorem dM_link_144 : decode cM_link 144 = .ok (.isub, 1) := by decide +kernel
theorem dM_link_145 : decode cM_link 145 = .ok (.putfield 145, 3) := by decide +kernel
theorem dM_link_148 : decode cM_link 148 = .ok (.iload_n 1, 1) := by decide +kernel
theorem dM_link_149 : decode cM_link 149 = .ok (.istore 5, 2) := by decide +kernel
theorem dM_link_151 : decode cM_link 151 = .ok (.iload 5, 2) := by decide +kernel
theorem dM_link_153 : decode cM_link 153 = .ok (.aload_n 0, 1) := by decide +kernel
theorem dM_link_154 : decode cM_link 154 = .ok (.getfield 145, 3) := by decide +kernel
theorem dM_link_157 : decode cM_link 157 = .ok (.if_icmp .ge 25, 3) := by decide +kernel
theorem dM_link_160 : decode cM_link 160 = .ok (.aload_n 0, 1) := by decide +kernel
theorem dM_link_161 : decode cM_link 161 = .ok (.getfield 49, 3) := by decide +kernel
theorem dM_link_164 : decode cM_link 164 = .ok (.iload 5, 2) := by decide +kernel
theorem dM_link_166 : decode cM_link 166 = .ok (.aload_n 0, 1) := by decide +kernel
theorem dM_link_167 : decode cM_link 167 = .ok (.getfield 49, 3) := by decide +kernel
theorem dM_link_170 : decode cM_link 170 = .ok (.iload 5, 2) := by decide +kernel
theorem dM_link_172 : decode cM_link 172 = .ok (.iconst 1, 1) := by decide +kernel
theorem dM_link_173 : decode cM_link 173 = .ok (.iadd, 1) := by decide +kernel
theorem dM_link_174 : decode cM_link 174 = .ok (.iaload, 1) := by decide +kernel
theorem dM_link_175 : decode cM_link 175 = .ok (.iastore, 1) := by decide +kernel
theorem dM_link_176 : decode cM_link 176 = .ok (.iinc 5 1, 3) := by decide +kernel
theorem dM_link_179 : decode cM_link 179 = .ok (.goto (-28), 3) := by decide +kernel
theorem dM_link_182 : decode cM_link 182 = .ok (.iload_n 2, 1) := by decide +kernel
theorem dM_link_183 : decode cM_link 183 = .ok (.ifCond .ne 45, 3) := by decide +kernel
theorem dM_link_186 : decode cM_link 186 = .ok (.aload_n 0, 1) := by decide +kernel
theorem dM_link_187 : decode cM_link 187 = .ok (.getfield 148, 3) := by decide +kernel
theorem dM_link_190 : decode cM_link 190 = .ok (.ifCond .ne 38, 3) := by decide +kernel
theorem dM_link_193 : decode cM_link 193 = .ok (.aload_n 0, 1) := by decide +kernel
theorem dM_link_194 : decode cM_link 194 = .ok (.getfield 52, 3) := by decide +kernel
theorem dM_link_197 : decode cM_link 197 = .ok (.iload 4, 2) := by decide +kernel
theorem dM_link_199 : decode cM_link 199 = .ok (.iconst 1, 1) := by decide +kernel
theorem dM_link_200 : decode cM_link 200 = .ok (.bastore, 1) := by decide +kernel
theorem dM_link_201 : decode cM_link 201 = .ok (.aload_n 0, 1) := by decide +kernel
theorem dM_link_202 : decode cM_link 202 = .ok (.getfield 52, 3) := by decide +kernel
theorem dM_link_205 : decode cM_link 205 = .ok (.aload_n 0, 1) := by decide +kernel
theorem dM_link_206 : decode cM_link 206 = .ok (.getfield 151, 3) := by decide +kernel
theorem dM_link_209 : decode cM_link 209 = .ok (.iconst 1, 1) := by decide +kernel
theorem dM_link_210 : decode cM_link 210 = .ok (.iadd, 1) := by decide +kernel
theorem dM_link_211 : decode cM_link 211 = .ok (.baload, 1) := by decide +kernel
theorem dM_link_212 : decode cM_link 212 = .ok (.ifCond .eq 16, 3) := by decide +kernel
theorem dM_link_215 : decode cM_link 215 = .ok (.aload_n 0, 1) := by decide +kernel
theorem dM_link_216 : decode cM_link 216 = .ok (.dup, 1) := by decide +kernel
theorem dM_link_217 : decode cM_link 217 = .ok (.getfield 151, 3) := by decide +kernel
theorem dM_link_220 : decode cM_link 220 = .ok (.iconst 1, 1) := by decide +kernel
theorem dM_link_221 : decode cM_link 221 = .ok (.iadd, 1) := by decide +kernel
theorem dM_link_222 : decode cM_link 222 = .ok (.putfield 151, 3) := by decide +kernel
theorem dM_link_225 : decode cM_link 225 = .ok (.goto (-24), 3) := by decide +kernel
theorem dM_link_228 : decode cM_link 228 = .ok (.aload_n 0, 1) := by decide +kernel
theorem dM_link_229 : decode cM_link 229 = .ok (.getfield 145, 3) := by decide +kernel
theorem dM_link_232 : decode cM_link 232 = .ok (.ireturn, 1) := by decide +kernel
theorem dM_ack_0 : decode cM_ack 0 = .ok (.aload_n 0, 1) := by decide +kernel
theorem dM_ack_1 : decode cM_ack 1 = .ok (.aload_n 0, 1) := by decide +kernel
theorem dM_ack_2 : decode cM_ack 2 = .ok (.getfield 103, 3) := by decide +kernel
theorem dM_ack_5 : decode cM_ack 5 = .ok (.ifCond .eq 7, 3) := by decide +kernel
theorem dM_ack_8 : decode cM_ack 8 = .ok (.iconst 1, 1) := by decide +kernel
theorem dM_ack_9 : decode cM_ack 9 = .ok (.goto 4, 3) := by decide +kernel
theorem dM_ack_12 : decode cM_ack 12 = .ok (.iconst 0, 1) := by decide +kernel
theorem dM_ack_13 : decode cM_ack 13 = .ok (.putfield 56, 3) := by decide +kernel
theorem dM_ack_16 : decode cM_ack 16 = .ok (.aload_n 0, 1) := by decide +kernel
theorem dM_ack_17 : decode cM_ack 17 = .ok (.getfield 56, 3) := by decide +kernel
theorem dM_ack_20 : decode cM_ack 20 = .ok (.ifCond .le 5, 3) := by decide +kernel
theorem dM_ack_23 : decode cM_ack 23 = .ok (.iconst 0, 1) := by decide +kernel
theorem dM_ack_24 : decode cM_ack 24 = .ok (.ireturn, 1) := by decide +kernel
theorem dM_ack_25 : decode cM_ack 25 = .ok (.aload_n 0, 1) := by decide +kernel
theorem dM_ack_26 : decode cM_ack 26 = .ok (.aload_n 0, 1) := by decide +kernel
theorem dM_ack_27 : decode cM_ack 27 = .ok (.getfield 151, 3) := by decide +kernel
theorem dM_ack_30 : decode cM_ack 30 = .ok (.putfield 142, 3) := by decide +kernel
theorem dM_ack_33 : decode cM_ack 33 = .ok (.aload_n 0, 1) := by decide +kernel
theorem dM_ack_34 : decode cM_ack 34 = .ok (.getfield 142, 3) := by decide +kernel
theorem dM_ack_37 : decode cM_ack 37 = .ok (.ireturn, 1) := by decide +kernel
theorem dM_takeOver_0 : decode cM_takeOver 0 = .ok (.aload_n 0, 1) := by decide +kernel
theorem dM_takeOver_1 : decode cM_takeOver 1 = .ok (.iconst 0, 1) := by decide +kernel
theorem dM_takeOver_2 : decode cM_takeOver 2 = .ok (.putfield 56, 3) := by decide +kernel
theorem dM_takeOver_5 : decode cM_takeOver 5 = .ok (.aload_n 0, 1) := by decide +kernel
theorem dM_takeOver_6 : decode cM_takeOver 6 = .ok (.iconst 1, 1) := by decide +kernel
theorem dM_takeOver_7 : decode cM_takeOver 7 = .ok (.putfield 148, 3) := by decide +kernel
theorem dM_takeOver_10 : decode cM_takeOver 10 = .ok (.aload_n 0, 1) := by decide +kernel
theorem dM_takeOver_11 : decode cM_takeOver 11 = .ok (.getfield 151, 3) := by decide +kernel
theorem dM_takeOver_14 : decode cM_takeOver 14 = .ok (.ireturn, 1) := by decide +kernel
theorem dM_takenBack_0 : decode cM_takenBack 0 = .ok (.iconst 0, 1) := by decide +kernel
theorem dM_takenBack_1 : decode cM_takenBack 1 = .ok (.istore_n 3, 1) := by decide +kernel
theorem dM_takenBack_2 : decode cM_takenBack 2 = .ok (.iconst 0, 1) := by decide +kernel
theorem dM_takenBack_3 : decode cM_takenBack 3 = .ok (.istore 4, 2) := by decide +kernel
theorem dM_takenBack_5 : decode cM_takenBack 5 = .ok (.iload 4, 2) := by decide +kernel
theorem dM_takenBack_7 : decode cM_takenBack 7 = .ok (.iconst 4, 1) := by decide +kernel
theorem dM_takenBack_8 : decode cM_takenBack 8 = .ok (.if_icmp .ge 108, 3) := by decide +kernel
theorem dM_takenBack_11 : decode cM_takenBack 11 = .ok (.aload_n 0, 1) := by decide +kernel
theorem dM_takenBack_12 : decode cM_takenBack 12 = .ok (.iload 4, 2) := by decide +kernel
theorem dM_takenBack_14 : decode cM_takenBack 14 = .ok (.aload_n 0, 1) := by decide +kernel
theorem dM_takenBack_15 : decode cM_takenBack 15 = .ok (.getfield 151, 3) := by decide +kernel
theorem dM_takenBack_18 : decode cM_takenBack 18 = .ok (.invokevirtual 77, 3) := by decide +kernel
theorem dM_takenBack_21 : decode cM_takenBack 21 = .ok (.istore 5, 2) := by decide +kernel
theorem dM_takenBack_23 : decode cM_takenBack 23 = .ok (.aload_n 0, 1) := by decide +kernel
theorem dM_takenBack_24 : decode cM_takenBack 24 = .ok (.getfield 151, 3) := by decide +kernel
theorem dM_takenBack_27 : decode cM_takenBack 27 = .ok (.istore 6, 2) := by decide +kernel
theorem dM_takenBack_29 : decode cM_takenBack 29 = .ok (.iload 6, 2) := by decide +kernel
theorem dM_takenBack_31 : decode cM_takenBack 31 = .ok (.iload 5, 2) := by decide +kernel
theorem dM_takenBack_33 : decode cM_takenBack 33 = .ok (.if_icmp .lt 77, 3) := by decide +kernel
theorem dM_takenBack_36 : decode cM_takenBack 36 = .ok (.iload 5, 2) := by decide +kernel
theorem dM_takenBack_38 : decode cM_takenBack 38 = .ok (.ifCond .le 72, 3) := by decide +kernel
theorem dM_takenBack_41 : decode cM_takenBack 41 = .ok (.aload_n 0, 1) := by decide +kernel
theorem dM_takenBack_42 : decode cM_takenBack 42 = .ok (.getfield 22, 3) := by decide +kernel
theorem dM_takenBack_45 : decode cM_takenBack 45 = .ok (.iload 6, 2) := by decide +kernel
theorem dM_takenBack_47 : decode cM_takenBack 47 = .ok (.iaload, 1) := by decide +kernel
theorem dM_takenBack_48 : decode cM_takenBack 48 = .ok (.iload 4, 2) := by decide +kernel
theorem dM_takenBack_50 : decode cM_takenBack 50 = .ok (.if_icmp .ne 29, 3) := by decide +kernel
theorem dM_takenBack_53 : decode cM_takenBack 53 = .ok (.aload_n 0, 1) := by decide +kernel
theorem dM_takenBack_54 : decode cM_takenBack 54 = .ok (.getfield 25, 3) := by decide +kernel
theorem dM_takenBack_57 : decode cM_takenBack 57 = .ok (.iload 6, 2) := by decide +kernel
theorem dM_takenBack_59 : decode cM_takenBack 59 = .ok (.iaload, 1) := by decide +kernel
theorem dM_takenBack_60 : decode cM_takenBack 60 = .ok (.iload_n 1, 1) := by decide +kernel
theorem dM_takenBack_61 : decode cM_takenBack 61 = .ok (.if_icmp .ne 18, 3) := by decide +kernel
theorem dM_takenBack_64 : decode cM_takenBack 64 = .ok (.aload_n 0, 1) := by decide +kernel
theorem dM_takenBack_65 : decode cM_takenBack 65 = .ok (.getfield 28, 3) := by decide +kernel
theorem dM_takenBack_68 : decode cM_takenBack 68 = .ok (.iload 6, 2) := by decide +kernel
theorem dM_takenBack_70 : decode cM_takenBack 70 = .ok (.iaload, 1) := by decide +kernel
theorem dM_takenBack_71 : decode cM_takenBack 71 = .ok (.iload_n 2, 1) := by decide +kernel
theorem dM_takenBack_72 : decode cM_takenBack 72 = .ok (.if_icmp .ne 7, 3) := by decide +kernel
theorem dM_takenBack_75 : decode cM_takenBack 75 = .ok (.iconst 1, 1) := by decide +kernel
theorem dM_takenBack_76 : decode cM_takenBack 76 = .ok (.goto 4, 3) := by decide +kernel
theorem dM_takenBack_79 : decode cM_takenBack 79 = .ok (.iconst 0, 1) := by decide +kernel
theorem dM_takenBack_80 : decode cM_takenBack 80 = .ok (.istore 7, 2) := by decide +kernel
theorem dM_takenBack_82 : decode cM_takenBack 82 = .ok (.iload 7, 2) := by decide +kernel
theorem dM_takenBack_84 : decode cM_takenBack 84 = .ok (.ifCond .eq 18, 3) := by decide +kernel
theorem dM_takenBack_87 : decode cM_takenBack 87 = .ok (.iload_n 3, 1) := by decide +kernel
theorem dM_takenBack_88 : decode cM_takenBack 88 = .ok (.ifCond .eq 9, 3) := by decide +kernel
theorem dM_takenBack_91 : decode cM_takenBack 91 = .ok (.iload 6, 2) := by decide +kernel
theorem dM_takenBack_93 : decode cM_takenBack 93 = .ok (.iload_n 3, 1) := by decide +kernel
theorem dM_takenBack_94 : decode cM_takenBack 94 = .ok (.if_icmp .ge 8, 3) := by decide +kernel
theorem dM_takenBack_97 : decode cM_takenBack 97 = .ok (.iload 6, 2) := by decide +kernel
theorem dM_takenBack_99 : decode cM_takenBack 99 = .ok (.goto 4, 3) := by decide +kernel
theorem dM_takenBack_102 : decode cM_takenBack 102 = .ok (.iload_n 3, 1) := by decide +kernel
theorem dM_takenBack_103 : decode cM_takenBack 103 = .ok (.istore_n 3, 1) := by decide +kernel
theorem dM_takenBack_104 : decode cM_takenBack 104 = .ok (.iinc 6 (-1), 3) := by decide +kernel
theorem dM_takenBack_107 : decode cM_takenBack 107 = .ok (.goto (-78), 3) := by decide +kernel
theorem dM_takenBack_110 : decode cM_takenBack 110 = .ok (.iinc 4 1, 3) := by decide +kernel
theorem dM_takenBack_113 : decode cM_takenBack 113 = .ok (.goto (-108), 3) := by decide +kernel
theorem dM_takenBack_116 : decode cM_takenBack 116 = .ok (.iload_n 3, 1) := by decide +kernel
theorem dM_takenBack_117 : decode cM_takenBack 117 = .ok (.ireturn, 1) := by decide +kernel
theorem dM_remote_0 : decode cM_remote 0 = .ok (.aload_n 0, 1) := by decide +kernel
theorem dM_remote_1 : decode cM_remote 1 = .ok (.iconst 0, 1) := by decide +kernel
theorem dM_remote_2 : decode cM_remote 2 = .ok (.putfield 56, 3) := by decide +kernel
theorem dM_remote_5 : decode cM_remote 5 = .ok (.aload_n 0, 1) := by decide +kernel
theorem dM_remote_6 : decode cM_remote 6 = .ok (.iload_n 1, 1) := by decide +kernel
theorem dM_remote_7 : decode cM_remote 7 = .ok (.iload_n 2, 1) := by decide +kernel
theorem dM_remote_8 : decode cM_remote 8 = .ok (.invokevirtual 107, 3) := by decide +kernel
theorem dM_remote_11 : decode cM_remote 11 = .ok (.ifCond .ne 7, 3) := by decide +kernel
theorem dM_remote_14 : decode cM_remote 14 = .ok (.ldc2_w 124, 3) := by decide +kernel
theorem dM_remote_17 : decode cM_remote 17 = .ok (.lreturn, 1) := by decide +kernel
theorem dM_remote_18 : decode cM_remote 18 = .ok (.aload_n 0, 1) := by decide +kernel
theorem dM_remote_19 : decode cM_remote 19 = .ok (.getfield 148, 3) := by decide +kernel
theorem dM_remote_22 : decode cM_remote 22 = .ok (.ifCond .eq 12, 3) := by decide +kernel
theorem dM_remote_25 : decode cM_remote 25 = .ok (.aload_n 0, 1) := by decide +kernel
theorem dM_remote_26 : decode cM_remote 26 = .ok (.iload_n 1, 1) := by decide +kernel
theorem dM_remote_27 : decode cM_remote 27 = .ok (.iload_n 2, 1) := by decide +kernel
theorem dM_remote_28 : decode cM_remote 28 = .ok (.invokevirtual 154, 3) := by decide +kernel
theorem dM_remote_31 : decode cM_remote 31 = .ok (.goto 4, 3) := by decide +kernel
theorem dM_remote_34 : decode cM_remote 34 = .ok (.iconst 0, 1) := by decide +kernel
theorem dM_remote_35 : decode cM_remote 35 = .ok (.istore_n 3, 1) := by decide +kernel
theorem dM_remote_36 : decode cM_remote 36 = .ok (.iload_n 3, 1) := by decide +kernel
theorem dM_remote_37 : decode cM_remote 37 = .ok (.ifCond .le 13, 3) := by decide +kernel
theorem dM_remote_40 : decode cM_remote 40 = .ok (.aload_n 0, 1) := by decide +kernel
theorem dM_remote_41 : decode cM_remote 41 = .ok (.getfield 31, 3) := by decide +kernel
theorem dM_remote_44 : decode cM_remote 44 = .ok (.iload_n 3, 1) := by decide +kernel
theorem dM_remote_45 : decode cM_remote 45 = .ok (.iaload, 1) := by decide +kernel
theorem dM_remote_46 : decode cM_remote 46 = .ok (.i2l, 1) := by decide +kernel
theorem dM_remote_47 : decode cM_remote 47 = .ok (.goto 14, 3) := by decide +kernel
theorem dM_remote_50 : decode cM_remote 50 = .ok (.aload_n 0, 1) := by decide +kernel
theorem dM_remote_51 : decode cM_remote 51 = .ok (.iload_n 1, 1) := by decide +kernel
theorem dM_remote_52 : decode cM_remote 52 = .ok (.iload_n 2, 1) := by decide +kernel
theorem dM_remote_53 : decode cM_remote 53 = .ok (.aload_n 0, 1) := by decide +kernel
theorem dM_remote_54 : decode cM_remote 54 = .ok (.getfield 151, 3) := by decide +kernel
theorem dM_remote_57 : decode cM_remote 57 = .ok (.invokevirtual 85, 3) := by decide +kernel
theorem dM_remote_60 : decode cM_remote 60 = .ok (.i2l, 1) := by decide +kernel
theorem dM_remote_61 : decode cM_remote 61 = .ok (.lreturn, 1) := by decide +kernel
