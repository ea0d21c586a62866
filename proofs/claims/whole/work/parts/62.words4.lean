theorem k_272 : (Jvm.Cond.classLink "JournalHouseLaw" (13 : Nat) "java/lang/IllegalArgumentException") ∈ jall := jall_t 272 (by decide +kernel) (by decide +kernel)
theorem k_273 : (Jvm.Cond.classLink "JournalHouseLaw" (15 : Nat) "java/lang/IllegalStateException") ∈ jall := jall_t 273 (by decide +kernel) (by decide +kernel)
theorem k_274 : (Jvm.Cond.methodLink "JournalHouseLaw" (7 : Nat) ({ cls := "JournalHouse", name := "file", desc := "(I)I" } : Jvm.MethodName)) ∈ jall := jall_t 274 (by decide +kernel) (by decide +kernel)
theorem k_275 : (Jvm.Cond.instanceMethod ({ cls := "JournalHouse", name := "file", desc := "(I)I" } : Jvm.MethodName)) ∈ jall := jall_t 275 (by decide +kernel) (by decide +kernel)
theorem k_276 : (Jvm.Cond.selects "JournalHouse" ({ cls := "JournalHouse", name := "file", desc := "(I)I" } : Jvm.MethodName) ({ cls := "JournalHouse", name := "file", desc := "(I)I" } : Jvm.MethodName)) ∈ jall := jall_t 276 (by decide +kernel) (by decide +kernel)
set_option maxRecDepth 100000 in
theorem k_277 : (Jvm.Cond.code ({ cls := "JournalHouse", name := "file", desc := "(I)I" } : Jvm.MethodName) prog_1_method_2_code (3 : Nat) (Option.some Jvm.ClassFile.FieldType.int)) ∈ jall := jall_t 277 rfl rfl
theorem k_358 : (Jvm.Cond.methodLink "JournalHouseLaw" (17 : Nat) ({ cls := "JournalHouse", name := "change", desc := "(IIII)I" } : Jvm.MethodName)) ∈ jall := jall_t 358 (by decide +kernel) (by decide +kernel)
theorem k_359 : (Jvm.Cond.instanceMethod ({ cls := "JournalHouse", name := "change", desc := "(IIII)I" } : Jvm.MethodName)) ∈ jall := jall_t 359 (by decide +kernel) (by decide +kernel)
theorem k_360 : (Jvm.Cond.selects "JournalHouse" ({ cls := "JournalHouse", name := "change", desc := "(IIII)I" } : Jvm.MethodName) ({ cls := "JournalHouse", name := "change", desc := "(IIII)I" } : Jvm.MethodName)) ∈ jall := jall_t 360 (by decide +kernel) (by decide +kernel)
set_option maxRecDepth 100000 in
theorem k_361 : (Jvm.Cond.code ({ cls := "JournalHouse", name := "change", desc := "(IIII)I" } : Jvm.MethodName) prog_1_method_3_code (6 : Nat) (Option.some Jvm.ClassFile.FieldType.int)) ∈ jall := jall_t 361 rfl rfl
theorem k_420 : (Jvm.Cond.methodLink "JournalHouseLaw" (21 : Nat) ({ cls := "JournalHouse", name := "end", desc := "(IZ)I" } : Jvm.MethodName)) ∈ jall := jall_t 420 (by decide +kernel) (by decide +kernel)
theorem k_421 : (Jvm.Cond.instanceMethod ({ cls := "JournalHouse", name := "end", desc := "(IZ)I" } : Jvm.MethodName)) ∈ jall := jall_t 421 (by decide +kernel) (by decide +kernel)
theorem k_422 : (Jvm.Cond.selects "JournalHouse" ({ cls := "JournalHouse", name := "end", desc := "(IZ)I" } : Jvm.MethodName) ({ cls := "JournalHouse", name := "end", desc := "(IZ)I" } : Jvm.MethodName)) ∈ jall := jall_t 422 (by decide +kernel) (by decide +kernel)
set_option maxRecDepth 100000 in
theorem k_423 : (Jvm.Cond.code ({ cls := "JournalHouse", name := "end", desc := "(IZ)I" } : Jvm.MethodName) prog_1_method_6_code (3 : Nat) (Option.some Jvm.ClassFile.FieldType.int)) ∈ jall := jall_t 423 rfl rfl
theorem k_436 : (Jvm.Cond.methodLink "JournalHouseLaw" (25 : Nat) ({ cls := "JournalHouse", name := "save", desc := "(II)I" } : Jvm.MethodName)) ∈ jall := jall_t 436 (by decide +kernel) (by decide +kernel)
theorem k_437 : (Jvm.Cond.instanceMethod ({ cls := "JournalHouse", name := "save", desc := "(II)I" } : Jvm.MethodName)) ∈ jall := jall_t 437 (by decide +kernel) (by decide +kernel)
theorem k_438 : (Jvm.Cond.selects "JournalHouse" ({ cls := "JournalHouse", name := "save", desc := "(II)I" } : Jvm.MethodName) ({ cls := "JournalHouse", name := "save", desc := "(II)I" } : Jvm.MethodName)) ∈ jall := jall_t 438 (by decide +kernel) (by decide +kernel)
set_option maxRecDepth 100000 in
theorem k_439 : (Jvm.Cond.code ({ cls := "JournalHouse", name := "save", desc := "(II)I" } : Jvm.MethodName) prog_1_method_7_code (3 : Nat) (Option.some Jvm.ClassFile.FieldType.int)) ∈ jall := jall_t 439 rfl rfl
theorem k_458 : (Jvm.Cond.methodLink "JournalHouseLaw" (29 : Nat) ({ cls := "JournalHouse", name := "restore", desc := "(I)I" } : Jvm.MethodName)) ∈ jall := jall_t 458 (by decide +kernel) (by decide +kernel)
theorem k_459 : (Jvm.Cond.instanceMethod ({ cls := "JournalHouse", name := "restore", desc := "(I)I" } : Jvm.MethodName)) ∈ jall := jall_t 459 (by decide +kernel) (by decide +kernel)
theorem k_460 : (Jvm.Cond.selects "JournalHouse" ({ cls := "JournalHouse", name := "restore", desc := "(I)I" } : Jvm.MethodName) ({ cls := "JournalHouse", name := "restore", desc := "(I)I" } : Jvm.MethodName)) ∈ jall := jall_t 460 (by decide +kernel) (by decide +kernel)
set_option maxRecDepth 100000 in
theorem k_461 : (Jvm.Cond.code ({ cls := "JournalHouse", name := "restore", desc := "(I)I" } : Jvm.MethodName) prog_1_method_8_code (5 : Nat) (Option.some Jvm.ClassFile.FieldType.int)) ∈ jall := jall_t 461 rfl rfl
theorem k_478 : (Jvm.Cond.methodLink "JournalHouseLaw" (32 : Nat) ({ cls := "JournalHouse", name := "apply", desc := "(II)I" } : Jvm.MethodName)) ∈ jall := jall_t 478 (by decide +kernel) (by decide +kernel)
theorem k_479 : (Jvm.Cond.instanceMethod ({ cls := "JournalHouse", name := "apply", desc := "(II)I" } : Jvm.MethodName)) ∈ jall := jall_t 479 (by decide +kernel) (by decide +kernel)
theorem k_480 : (Jvm.Cond.selects "JournalHouse" ({ cls := "JournalHouse", name := "apply", desc := "(II)I" } : Jvm.MethodName) ({ cls := "JournalHouse", name := "apply", desc := "(II)I" } : Jvm.MethodName)) ∈ jall := jall_t 480 (by decide +kernel) (by decide +kernel)
set_option maxRecDepth 100000 in
theorem k_481 : (Jvm.Cond.code ({ cls := "JournalHouse", name := "apply", desc := "(II)I" } : Jvm.MethodName) prog_1_method_9_code (4 : Nat) (Option.some Jvm.ClassFile.FieldType.int)) ∈ jall := jall_t 481 rfl rfl
theorem k_503 : (Jvm.Cond.methodLink "JournalHouseLaw" (35 : Nat) ({ cls := "JournalHouse", name := "remove", desc := "(II)I" } : Jvm.MethodName)) ∈ jall := jall_t 503 (by decide +kernel) (by decide +kernel)
theorem k_504 : (Jvm.Cond.instanceMethod ({ cls := "JournalHouse", name := "remove", desc := "(II)I" } : Jvm.MethodName)) ∈ jall := jall_t 504 (by decide +kernel) (by decide +kernel)
theorem k_505 : (Jvm.Cond.selects "JournalHouse" ({ cls := "JournalHouse", name := "remove", desc := "(II)I" } : Jvm.MethodName) ({ cls := "JournalHouse", name := "remove", desc := "(II)I" } : Jvm.MethodName)) ∈ jall := jall_t 505 (by decide +kernel) (by decide +kernel)
set_option maxRecDepth 100000 in
theorem k_506 : (Jvm.Cond.code ({ cls := "JournalHouse", name := "remove", desc := "(II)I" } : Jvm.MethodName) prog_1_method_10_code (6 : Nat) (Option.some Jvm.ClassFile.FieldType.int)) ∈ jall := jall_t 506 rfl rfl
theorem k_518 : (Jvm.Cond.methodLink "JournalHouseLaw" (38 : Nat) ({ cls := "JournalHouse", name := "drop", desc := "()I" } : Jvm.MethodName)) ∈ jall := jall_t 518 (by decide +kernel) (by decide +kernel)
theorem k_519 : (Jvm.Cond.instanceMethod ({ cls := "JournalHouse", name := "drop", desc := "()I" } : Jvm.MethodName)) ∈ jall := jall_t 519 (by decide +kernel) (by decide +kernel)
theorem k_520 : (Jvm.Cond.selects "JournalHouse" ({ cls := "JournalHouse", name := "drop", desc := "()I" } : Jvm.MethodName) ({ cls := "JournalHouse", name := "drop", desc := "()I" } : Jvm.MethodName)) ∈ jall := jall_t 520 (by decide +kernel) (by decide +kernel)
set_option maxRecDepth 100000 in
theorem k_521 : (Jvm.Cond.code ({ cls := "JournalHouse", name := "drop", desc := "()I" } : Jvm.MethodName) prog_1_method_15_code (1 : Nat) (Option.some Jvm.ClassFile.FieldType.int)) ∈ jall := jall_t 521 rfl rfl
theorem k_535 : (Jvm.Cond.methodLink "JournalHouseLaw" (42 : Nat) ({ cls := "JournalHouse", name := "cut", desc := "(I)I" } : Jvm.MethodName)) ∈ jall := jall_t 535 (by decide +kernel) (by decide +kernel)
theorem k_536 : (Jvm.Cond.instanceMethod ({ cls := "JournalHouse", name := "cut", desc := "(I)I" } : Jvm.MethodName)) ∈ jall := jall_t 536 (by decide +kernel) (by decide +kernel)
theorem k_537 : (Jvm.Cond.selects "JournalHouse" ({ cls := "JournalHouse", name := "cut", desc := "(I)I" } : Jvm.MethodName) ({ cls := "JournalHouse", name := "cut", desc := "(I)I" } : Jvm.MethodName)) ∈ jall := jall_t 537 (by decide +kernel) (by decide +kernel)
set_option maxRecDepth 100000 in
theorem k_538 : (Jvm.Cond.code ({ cls := "JournalHouse", name := "cut", desc := "(I)I" } : Jvm.MethodName) prog_1_method_16_code (2 : Nat) (Option.some Jvm.ClassFile.FieldType.int)) ∈ jall := jall_t 538 rfl rfl
theorem k_546 : (Jvm.Cond.methodLink "JournalHouseLaw" (45 : Nat) ({ cls := "JournalHouse", name := "start", desc := "()I" } : Jvm.MethodName)) ∈ jall := jall_t 546 (by decide +kernel) (by decide +kernel)
theorem k_547 : (Jvm.Cond.instanceMethod ({ cls := "JournalHouse", name := "start", desc := "()I" } : Jvm.MethodName)) ∈ jall := jall_t 547 (by decide +kernel) (by decide +kernel)
theorem k_548 : (Jvm.Cond.selects "JournalHouse" ({ cls := "JournalHouse", name := "start", desc := "()I" } : Jvm.MethodName) ({ cls := "JournalHouse", name := "start", desc := "()I" } : Jvm.MethodName)) ∈ jall := jall_t 548 (by decide +kernel) (by decide +kernel)
set_option maxRecDepth 100000 in
theorem k_549 : (Jvm.Cond.code ({ cls := "JournalHouse", name := "start", desc := "()I" } : Jvm.MethodName) prog_1_method_17_code (2 : Nat) (Option.some Jvm.ClassFile.FieldType.int)) ∈ jall := jall_t 549 rfl rfl
theorem k_562 : (Jvm.Cond.methodLink "JournalHouseLaw" (48 : Nat) ({ cls := "JournalHouse", name := "link", desc := "(II)I" } : Jvm.MethodName)) ∈ jall := jall_t 562 (by decide +kernel) (by decide +kernel)
theorem k_563 : (Jvm.Cond.instanceMethod ({ cls := "JournalHouse", name := "link", desc := "(II)I" } : Jvm.MethodName)) ∈ jall := jall_t 563 (by decide +kernel) (by decide +kernel)
theorem k_564 : (Jvm.Cond.selects "JournalHouse" ({ cls := "JournalHouse", name := "link", desc := "(II)I" } : Jvm.MethodName) ({ cls := "JournalHouse", name := "link", desc := "(II)I" } : Jvm.MethodName)) ∈ jall := jall_t 564 (by decide +kernel) (by decide +kernel)
set_option maxRecDepth 100000 in
theorem k_565 : (Jvm.Cond.code ({ cls := "JournalHouse", name := "link", desc := "(II)I" } : Jvm.MethodName) prog_1_method_18_code (4 : Nat) (Option.some Jvm.ClassFile.FieldType.int)) ∈ jall := jall_t 565 rfl rfl
theorem k_586 : (Jvm.Cond.methodLink "JournalHouseLaw" (51 : Nat) ({ cls := "JournalHouse", name := "ack", desc := "()I" } : Jvm.MethodName)) ∈ jall := jall_t 586 (by decide +kernel) (by decide +kernel)
theorem k_587 : (Jvm.Cond.instanceMethod ({ cls := "JournalHouse", name := "ack", desc := "()I" } : Jvm.MethodName)) ∈ jall := jall_t 587 (by decide +kernel) (by decide +kernel)
theorem k_588 : (Jvm.Cond.selects "JournalHouse" ({ cls := "JournalHouse", name := "ack", desc := "()I" } : Jvm.MethodName) ({ cls := "JournalHouse", name := "ack", desc := "()I" } : Jvm.MethodName)) ∈ jall := jall_t 588 (by decide +kernel) (by decide +kernel)
set_option maxRecDepth 100000 in
theorem k_589 : (Jvm.Cond.code ({ cls := "JournalHouse", name := "ack", desc := "()I" } : Jvm.MethodName) prog_1_method_19_code (1 : Nat) (Option.some Jvm.ClassFile.FieldType.int)) ∈ jall := jall_t 589 rfl rfl
theorem b_280 : (Jvm.Cond.castable "java/lang/IllegalArgumentException" "java/lang/IllegalArgumentException") ∈ jNl := jNl_t 280 (by decide +kernel) (by decide +kernel)
theorem b_342 : (Jvm.Cond.castable "java/lang/IllegalStateException" "java/lang/IllegalStateException") ∈ jNl := jNl_t 342 (by decide +kernel) (by decide +kernel)
theorem dZ_file_0 : decode cZ_file 0 = .ok (.aload_n 2, 1) := by decide +kernel
theorem dZ_file_1 : decode cZ_file 1 = .ok (.iconst 0, 1) := by decide +kernel
theorem dZ_file_2 : decode cZ_file 2 = .ok (.aload_n 0, 1) := by decide +kernel
theorem dZ_file_3 : decode cZ_file 3 = .ok (.iload_n 1, 1) := by decide +kernel
theorem dZ_file_4 : decode cZ_file 4 = .ok (.invokevirtual 7, 3) := by decide +kernel
theorem dZ_file_7 : decode cZ_file 7 = .ok (.i2l, 1) := by decide +kernel
theorem dZ_file_8 : decode cZ_file 8 = .ok (.lastore, 1) := by decide +kernel
theorem dZ_file_9 : decode cZ_file 9 = .ok (.goto 9, 3) := by decide +kernel
theorem dZ_file_12 : decode cZ_file 12 = .ok (.astore_n 3, 1) := by decide +kernel
theorem dZ_file_13 : decode cZ_file 13 = .ok (.iconst 1, 1) := by decide +kernel
theorem dZ_file_14 : decode cZ_file 14 = .ok (.ireturn, 1) := by decide +kernel
theorem dZ_file_15 : decode cZ_file 15 = .ok (.astore_n 3, 1) := by decide +kernel
theorem dZ_file_16 : decode cZ_file 16 = .ok (.iconst 2, 1) := by decide +kernel
theorem dZ_file_17 : decode cZ_file 17 = .ok (.ireturn, 1) := by decide +kernel
theorem dZ_file_18 : decode cZ_file 18 = .ok (.iconst 0, 1) := by decide +kernel
theorem dZ_file_19 : decode cZ_file 19 = .ok (.ireturn, 1) := by decide +kernel
theorem dZ_change_0 : decode cZ_change 0 = .ok (.aload 5, 2) := by decide +kernel
theorem dZ_change_2 : decode cZ_change 2 = .ok (.iconst 0, 1) := by decide +kernel
theorem dZ_change_3 : decode cZ_change 3 = .ok (.aload_n 0, 1) := by decide +kernel
theorem dZ_change_4 : decode cZ_change 4 = .ok (.iload_n 1, 1) := by decide +kernel
theorem dZ_change_5 : decode cZ_change 5 = .ok (.iload_n 2, 1) := by decide +kernel
theorem dZ_change_6 : decode cZ_change 6 = .ok (.iload_n 3, 1) := by decide +kernel
theorem dZ_change_7 : decode cZ_change 7 = .ok (.iload 4, 2) := by decide +kernel
theorem dZ_change_9 : decode cZ_change 9 = .ok (.invokevirtual 17, 3) := by decide +kernel
theorem dZ_change_12 : decode cZ_change 12 = .ok (.i2l, 1) := by decide +kernel
theorem dZ_change_13 : decode cZ_change 13 = .ok (.lastore, 1) := by decide +kernel
theorem dZ_change_14 : decode cZ_change 14 = .ok (.goto 11, 3) := by decide +kernel
theorem dZ_change_17 : decode cZ_change 17 = .ok (.astore 6, 2) := by decide +kernel
theorem dZ_change_19 : decode cZ_change 19 = .ok (.iconst 1, 1) := by decide +kernel
theorem dZ_change_20 : decode cZ_change 20 = .ok (.ireturn, 1) := by decide +kernel
theorem dZ_change_21 : decode cZ_change 21 = .ok (.astore 6, 2) := by decide +kernel
theorem dZ_change_23 : decode cZ_change 23 = .ok (.iconst 2, 1) := by decide +kernel
theorem dZ_change_24 : decode cZ_change 24 = .ok (.ireturn, 1) := by decide +kernel
theorem dZ_change_25 : decode cZ_change 25 = .ok (.iconst 0, 1) := by decide +kernel
theorem dZ_change_26 : decode cZ_change 26 = .ok (.ireturn, 1) := by decide +kernel
theorem dZ_end_0 : decode cZ_end 0 = .ok (.aload_n 3, 1) := by decide +kernel
theorem dZ_end_1 : decode cZ_end 1 = .ok (.iconst 0, 1) := by decide +kernel
theorem dZ_end_2 : decode cZ_end 2 = .ok (.aload_n 0, 1) := by decide +kernel
theorem dZ_end_3 : decode cZ_end 3 = .ok (.iload_n 1, 1) := by decide +kernel
theorem dZ_end_4 : decode cZ_end 4 = .ok (.iload_n 2, 1) := by decide +kernel
theorem dZ_end_5 : decode cZ_end 5 = .ok (.invokevirtual 21, 3) := by decide +kernel
theorem dZ_end_8 : decode cZ_end 8 = .ok (.i2l, 1) := by decide +kernel
theorem dZ_end_9 : decode cZ_end 9 = .ok (.lastore, 1) := by decide +kernel
theorem dZ_end_10 : decode cZ_end 10 = .ok (.goto 11, 3) := by decide +kernel
theorem dZ_end_13 : decode cZ_end 13 = .ok (.astore 4, 2) := by decide +kernel
theorem dZ_end_15 : decode cZ_end 15 = .ok (.iconst 1, 1) := by decide +kernel
theorem dZ_end_16 : decode cZ_end 16 = .ok (.ireturn, 1) := by decide +kernel
theorem dZ_end_17 : decode cZ_end 17 = .ok (.astore 4, 2) := by decide +kernel
theorem dZ_end_19 : decode cZ_end 19 = .ok (.iconst 2, 1) := by decide +kernel
theorem dZ_end_20 : decode cZ_end 20 = .ok (.ireturn, 1) := by decide +kernel
theorem dZ_end_21 : decode cZ_end 21 = .ok (.iconst 0, 1) := by decide +kernel
theorem dZ_end_22 : decode cZ_end 22 = .ok (.ireturn, 1) := by decide +kernel
theorem dZ_save_0 : decode cZ_save 0 = .ok (.aload_n 3, 1) := by decide +kernel
theorem dZ_save_1 : decode cZ_save 1 = .ok (.iconst 0, 1) := by decide +kernel
theorem dZ_save_2 : decode cZ_save 2 = .ok (.aload_n 0, 1) := by decide +kernel
theorem dZ_save_3 : decode cZ_save 3 = .ok (.iload_n 1, 1) := by decide +kernel
theorem dZ_save_4 : decode cZ_save 4 = .ok (.iload_n 2, 1) := by decide +kernel
theorem dZ_save_5 : decode cZ_save 5 = .ok (.invokevirtual 25, 3) := by decide +kernel
theorem dZ_save_8 : decode cZ_save 8 = .ok (.i2l, 1) := by decide +kernel
theorem dZ_save_9 : decode cZ_save 9 = .ok (.lastore, 1) := by decide +kernel
theorem dZ_save_10 : decode cZ_save 10 = .ok (.goto 11, 3) := by decide +kernel
theorem dZ_save_13 : decode cZ_save 13 = .ok (.astore 4, 2) := by decide +kernel
theorem dZ_save_15 : decode cZ_save 15 = .ok (.iconst 1, 1) := by decide +kernel
theorem dZ_save_16 : decode cZ_save 16 = .ok (.ireturn, 1) := by decide +kernel
theorem dZ_save_17 : decode cZ_save 17 = .ok (.astore 4, 2) := by decide +kernel
theorem dZ_save_19 : decode cZ_save 19 = .ok (.iconst 2, 1) := by decide +kernel
theorem dZ_save_20 : decode cZ_save 20 = .ok (.ireturn, 1) := by decide +kernel
theorem dZ_save_21 : decode cZ_save 21 = .ok (.iconst 0, 1) := by decide +kernel
theorem dZ_save_22 : decode cZ_save 22 = .ok (.ireturn, 1) := by decide +kernel
theorem dZ_restore_0 : decode cZ_restore 0 = .ok (.aload_n 2, 1) := by decide +kernel
theorem dZ_restore_1 : decode cZ_restore 1 = .ok (.iconst 0, 1) := by decide +kernel
theorem dZ_restore_2 : decode cZ_restore 2 = .ok (.aload_n 0, 1) := by decide +kernel
theorem dZ_restore_3 : decode cZ_restore 3 = .ok (.iload_n 1, 1) := by decide +kernel
theorem dZ_restore_4 : decode cZ_restore 4 = .ok (.invokevirtual 29, 3) := by decide +kernel
theorem dZ_restore_7 : decode cZ_restore 7 = .ok (.i2l, 1) := by decide +kernel
theorem dZ_restore_8 : decode cZ_restore 8 = .ok (.lastore, 1) := by decide +kernel
theorem dZ_restore_9 : decode cZ_restore 9 = .ok (.goto 9, 3) := by decide +kernel
theorem dZ_restore_12 : decode cZ_restore 12 = .ok (.astore_n 3, 1) := by decide +kernel
theorem dZ_restore_13 : decode cZ_restore 13 = .ok (.iconst 1, 1) := by decide +kernel
theorem dZ_restore_14 : decode cZ_restore 14 = .ok (.ireturn, 1) := by decide +kernel
theorem dZ_restore_15 : decode cZ_restore 15 = .ok (.astore_n 3, 1) := by decide +kernel
theorem dZ_restore_16 : decode cZ_restore 16 = .ok (.iconst 2, 1) := by decide +kernel
theorem dZ_restore_17 : decode cZ_restore 17 = .ok (.ireturn, 1) := by decide +kernel
theorem dZ_restore_18 : decode cZ_restore 18 = .ok (.iconst 0, 1) := by decide +kernel
theorem dZ_restore_19 : decode cZ_restore 19 = .ok (.ireturn, 1) := by decide +kernel
theorem dZ_apply_0 : decode cZ_apply 0 = .ok (.aload_n 3, 1) := by decide +kernel
theorem dZ_apply_1 : decode cZ_apply 1 = .ok (.iconst 0, 1) := by decide +kernel
theorem dZ_apply_2 : decode cZ_apply 2 = .ok (.aload_n 0, 1) := by decide +kernel
theorem dZ_apply_3 : decode cZ_apply 3 = .ok (.iload_n 1, 1) := by decide +kernel
theorem dZ_apply_4 : decode cZ_apply 4 = .ok (.iload_n 2, 1) := by decide +kernel
theorem dZ_apply_5 : decode cZ_apply 5 = .ok (.invokevirtual 32, 3) := by decide +kernel
theorem dZ_apply_8 : decode cZ_apply 8 = .ok (.i2l, 1) := by decide +kernel
theorem dZ_apply_9 : decode cZ_apply 9 = .ok (.lastore, 1) := by decide +kernel
theorem dZ_apply_10 : decode cZ_apply 10 = .ok (.goto 11, 3) := by decide +kernel
theorem dZ_apply_13 : decode cZ_apply 13 = .ok (.astore 4, 2) := by decide +kernel
theorem dZ_apply_15 : decode cZ_apply 15 = .ok (.iconst 1, 1) := by decide +kernel
theorem dZ_apply_16 : decode cZ_apply 16 = .ok (.ireturn, 1) := by decide +kernel
theorem dZ_apply_17 : decode cZ_apply 17 = .ok (.astore 4, 2) := by decide +kernel
theorem dZ_apply_19 : decode cZ_apply 19 = .ok (.iconst 2, 1) := by decide +kernel
theorem dZ_apply_20 : decode cZ_apply 20 = .ok (.ireturn, 1) := by decide +kernel
theorem dZ_apply_21 : decode cZ_apply 21 = .ok (.iconst 0, 1) := by decide +kernel
theorem dZ_apply_22 : decode cZ_apply 22 = .ok (.ireturn, 1) := by decide +kernel
theorem dZ_remove_0 : decode cZ_remove 0 = .ok (.aload_n 3, 1) := by decide +kernel
theorem dZ_remove_1 : decode cZ_remove 1 = .ok (.iconst 0, 1) := by decide +kernel
theorem dZ_remove_2 : decode cZ_remove 2 = .ok (.aload_n 0, 1) := by decide +kernel
theorem dZ_remove_3 : decode cZ_remove 3 = .ok (.iload_n 1, 1) := by decide +kernel
theorem dZ_remove_4 : decode cZ_remove 4 = .ok (.iload_n 2, 1) := by decide +kernel
theorem dZ_remove_5 : decode cZ_remove 5 = .ok (.invokevirtual 35, 3) := by decide +kernel
theorem dZ_remove_8 : decode cZ_remove 8 = .ok (.i2l, 1) := by decide +kernel
theorem dZ_remove_9 : decode cZ_remove 9 = .ok (.lastore, 1) := by decide +kernel
theorem dZ_remove_10 : decode cZ_remove 10 = .ok (.goto 11, 3) := by decide +kernel
theorem dZ_remove_13 : decode cZ_remove 13 = .ok (.astore 4, 2) := by decide +kernel
theorem dZ_remove_15 : decode cZ_remove 15 = .ok (.iconst 1, 1) := by decide +kernel
theorem dZ_remove_16 : decode cZ_remove 16 = .ok (.ireturn, 1) := by decide +kernel
theorem dZ_remove_17 : decode cZ_remove 17 = .ok (.astore 4, 2) := by decide +kernel
theorem dZ_remove_19 : decode cZ_remove 19 = .ok (.iconst 2, 1) := by decide +kernel
theorem dZ_remove_20 : decode cZ_remove 20 = .ok (.ireturn, 1) := by decide +kernel
theorem dZ_remove_21 : decode cZ_remove 21 = .ok (.iconst 0, 1) := by decide +kernel
theorem dZ_remove_22 : decode cZ_remove 22 = .ok (.ireturn, 1) := by decide +kernel
theorem dZ_drop_0 : decode cZ_drop 0 = .ok (.aload_n 1, 1) := by decide +kernel
theorem dZ_drop_1 : decode cZ_drop 1 = .ok (.iconst 0, 1) := by decide +kernel
theorem dZ_drop_2 : decode cZ_drop 2 = .ok (.aload_n 0, 1) := by decide +kernel
theorem dZ_drop_3 : decode cZ_drop 3 = .ok (.invokevirtual 38, 3) := by decide +kernel
theorem dZ_drop_6 : decode cZ_drop 6 = .ok (.i2l, 1) := by decide +kernel
theorem dZ_drop_7 : decode cZ_drop 7 = .ok (.lastore, 1) := by decide +kernel
theorem dZ_drop_8 : decode cZ_drop 8 = .ok (.goto 6, 3) := by decide +kernel
theorem dZ_drop_11 : decode cZ_drop 11 = .ok (.astore_n 2, 1) := by decide +kernel
theorem dZ_drop_12 : decode cZ_drop 12 = .ok (.iconst 1, 1) := by decide +kernel
theorem dZ_drop_13 : decode cZ_drop 13 = .ok (.ireturn, 1) := by decide +kernel
theorem dZ_drop_14 : decode cZ_drop 14 = .ok (.iconst 0, 1) := by decide +kernel
theorem dZ_drop_15 : decode cZ_drop 15 = .ok (.ireturn, 1) := by decide +kernel
theorem dZ_cut_0 : decode cZ_cut 0 = .ok (.aload_n 2, 1) := by decide +kernel
theorem dZ_cut_1 : decode cZ_cut 1 = .ok (.iconst 0, 1) := by decide +kernel
theorem dZ_cut_2 : decode cZ_cut 2 = .ok (.aload_n 0, 1) := by decide +kernel
theorem dZ_cut_3 : decode cZ_cut 3 = .ok (.iload_n 1, 1) := by decide +kernel
theorem dZ_cut_4 : decode cZ_cut 4 = .ok (.invokevirtual 42, 3) := by decide +kernel
theorem dZ_cut_7 : decode cZ_cut 7 = .ok (.i2l, 1) := by decide +kernel
theorem dZ_cut_8 : decode cZ_cut 8 = .ok (.lastore, 1) := by decide +kernel
theorem dZ_cut_9 : decode cZ_cut 9 = .ok (.goto 9, 3) := by decide +kernel
theorem dZ_cut_12 : decode cZ_cut 12 = .ok (.astore_n 3, 1) := by decide +kernel
theorem dZ_cut_13 : decode cZ_cut 13 = .ok (.iconst 1, 1) := by decide +kernel
theorem dZ_cut_14 : decode cZ_cut 14 = .ok (.ireturn, 1) := by decide +kernel
theorem dZ_cut_15 : decode cZ_cut 15 = .ok (.astore_n 3, 1) := by decide +kernel
theorem dZ_cut_16 : decode cZ_cut 16 = .ok (.iconst 2, 1) := by decide +kernel
theorem dZ_cut_17 : decode cZ_cut 17 = .ok (.ireturn, 1) := by decide +kernel
theorem dZ_cut_18 : decode cZ_cut 18 = .ok (.iconst 0, 1) := by decide +kernel
theorem dZ_cut_19 : decode cZ_cut 19 = .ok (.ireturn, 1) := by decide +kernel
theorem dZ_start_0 : decode cZ_start 0 = .ok (.aload_n 1, 1) := by decide +kernel
theorem dZ_start_1 : decode cZ_start 1 = .ok (.iconst 0, 1) := by decide +kernel
theorem dZ_start_2 : decode cZ_start 2 = .ok (.aload_n 0, 1) := by decide +kernel
theorem dZ_start_3 : decode cZ_start 3 = .ok (.invokevirtual 45, 3) := by decide +kernel
theorem dZ_start_6 : decode cZ_start 6 = .ok (.i2l, 1) := by decide +kernel
theorem dZ_start_7 : decode cZ_start 7 = .ok (.lastore, 1) := by decide +kernel
theorem dZ_start_8 : decode cZ_start 8 = .ok (.goto 6, 3) := by decide +kernel
theorem dZ_start_11 : decode cZ_start 11 = .ok (.astore_n 2, 1) := by decide +kernel
theorem dZ_start_12 : decode cZ_start 12 = .ok (.iconst 1, 1) := by decide +kernel
theorem dZ_start_13 : decode cZ_start 13 = .ok (.ireturn, 1) := by decide +kernel
theorem dZ_start_14 : decode cZ_start 14 = .ok (.iconst 0, 1) := by decide +kernel
theorem dZ_start_15 : decode cZ_start 15 = .ok (.ireturn, 1) := by decide +kernel
theorem dZ_link_0 : decode cZ_link 0 = .ok (.aload_n 3, 1) := by decide +kernel
theorem dZ_link_1 : decode cZ_link 1 = .ok (.iconst 0, 1) := by decide +kernel
theorem dZ_link_2 : decode cZ_link 2 = .ok (.aload_n 0, 1) := by decide +kernel
theorem dZ_link_3 : decode cZ_link 3 = .ok (.iload_n 1, 1) := by decide +kernel
theorem dZ_link_4 : decode cZ_link 4 = .ok (.iload_n 2, 1) := by decide +kernel
theorem dZ_link_5 : decode cZ_link 5 = .ok (.invokevirtual 48, 3) := by decide +kernel
theorem dZ_link_8 : decode cZ_link 8 = .ok (.i2l, 1) := by decide +kernel
theorem dZ_link_9 : decode cZ_link 9 = .ok (.lastore, 1) := by decide +kernel
theorem dZ_link_10 : decode cZ_link 10 = .ok (.goto 11, 3) := by decide +kernel
theorem dZ_link_13 : decode cZ_link 13 = .ok (.astore 4, 2) := by decide +kernel
theorem dZ_link_15 : decode cZ_link 15 = .ok (.iconst 1, 1) := by decide +kernel
theorem dZ_link_16 : decode cZ_link 16 = .ok (.ireturn, 1) := by decide +kernel
theorem dZ_link_17 : decode cZ_link 17 = .ok (.astore 4, 2) := by decide +kernel
theorem dZ_link_19 : decode cZ_link 19 = .ok (.iconst 2, 1) := by decide +kernel
theorem dZ_link_20 : decode cZ_link 20 = .ok (.ireturn, 1) := by decide +kernel
theorem dZ_link_21 : decode cZ_link 21 = .ok (.iconst 0, 1) := by decide +kernel
theorem dZ_link_22 : decode cZ_link 22 = .ok (.ireturn, 1) := by decide +kernel
theorem dZ_ack_0 : decode cZ_ack 0 = .ok (.aload_n 1, 1) := by decide +kernel
theorem dZ_ack_1 : decode cZ_ack 1 = .ok (.iconst 0, 1) := by decide +kernel
theorem dZ_ack_2 : decode cZ_ack 2 = .ok (.aload_n 0, 1) := by decide +kernel
theorem dZ_ack_3 : decode cZ_ack 3 = .ok (.invokevirtual 51, 3) := by decide +kernel
theorem dZ_ack_6 : decode cZ_ack 6 = .ok (.i2l, 1) := by decide +kernel
theorem dZ_ack_7 : decode cZ_ack 7 = .ok (.lastore, 1) := by decide +kernel
theorem dZ_ack_8 : decode cZ_ack 8 = .ok (.goto 6, 3) := by decide +kernel
theorem dZ_ack_11 : decode cZ_ack 11 = .ok (.astore_n 2, 1) := by decide +kernel
theorem dZ_ack_12 : decode cZ_ack 12 = .ok (.iconst 1, 1) := by decide +kernel
theorem dZ_ack_13 : decode cZ_ack 13 = .ok (.ireturn, 1) := by decide +kernel
theorem dZ_ack_14 : decode cZ_ack 14 = .ok (.iconst 0, 1) := by decide +kernel
theorem dZ_ack_15 : decode cZ_ack 15 = .ok (.ireturn, 1) := by decide +kernel
