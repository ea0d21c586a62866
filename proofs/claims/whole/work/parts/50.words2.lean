theorem k_125 : (Jvm.Cond.arrayClass Jvm.ClassFile.FieldType.boolean) ∈ jall := jall_t 125 (by decide +kernel) (by decide +kernel)
theorem k_261 : (Jvm.Cond.methodLink "JournalHouse" (244 : Nat) ({ cls := "JournalHouse$RemoteHouse", name := "undoOpenCycles", desc := "(LJournalHouse$Journal;)V" } : Jvm.MethodName)) ∈ jall := jall_t 261 (by decide +kernel) (by decide +kernel)
theorem k_262 : (Jvm.Cond.instanceMethod ({ cls := "JournalHouse$RemoteHouse", name := "undoOpenCycles", desc := "(LJournalHouse$Journal;)V" } : Jvm.MethodName)) ∈ jall := jall_t 262 (by decide +kernel) (by decide +kernel)
theorem k_263 : (Jvm.Cond.selects "JournalHouse$RemoteHouse" ({ cls := "JournalHouse$RemoteHouse", name := "undoOpenCycles", desc := "(LJournalHouse$Journal;)V" } : Jvm.MethodName) ({ cls := "JournalHouse$RemoteHouse", name := "undoOpenCycles", desc := "(LJournalHouse$Journal;)V" } : Jvm.MethodName)) ∈ jall := jall_t 263 (by decide +kernel) (by decide +kernel)
set_option maxRecDepth 100000 in
theorem k_264 : (Jvm.Cond.code ({ cls := "JournalHouse$RemoteHouse", name := "undoOpenCycles", desc := "(LJournalHouse$Journal;)V" } : Jvm.MethodName) prog_5_method_3_code (5 : Nat) (Option.none : Option Jvm.ClassFile.FieldType)) ∈ jall := jall_t 264 rfl rfl
theorem k_33 : (Jvm.Cond.fieldLink "JournalHouse$RemoteHouse" (38 : Nat) "JournalHouse$Journal" "jobs" "[I") ∈ jall := jall_t 33 (by decide +kernel) (by decide +kernel)
theorem k_39 : (Jvm.Cond.fieldLink "JournalHouse$RemoteHouse" (41 : Nat) "JournalHouse$Journal" "befores" "[I") ∈ jall := jall_t 39 (by decide +kernel) (by decide +kernel)
theorem dR_undoOpenCycles_0 : decode cR_undoOpenCycles 0 = .ok (.aload_n 0, 1) := by decide +kernel
theorem dR_undoOpenCycles_1 : decode cR_undoOpenCycles 1 = .ok (.getfield 19, 3) := by decide +kernel
theorem dR_undoOpenCycles_4 : decode cR_undoOpenCycles 4 = .ok (.ifCond .eq 4, 3) := by decide +kernel
theorem dR_undoOpenCycles_7 : decode cR_undoOpenCycles 7 = .ok (.return_, 1) := by decide +kernel
theorem dR_undoOpenCycles_8 : decode cR_undoOpenCycles 8 = .ok (.aload_n 0, 1) := by decide +kernel
theorem dR_undoOpenCycles_9 : decode cR_undoOpenCycles 9 = .ok (.iconst 1, 1) := by decide +kernel
theorem dR_undoOpenCycles_10 : decode cR_undoOpenCycles 10 = .ok (.putfield 19, 3) := by decide +kernel
theorem dR_undoOpenCycles_13 : decode cR_undoOpenCycles 13 = .ok (.iconst 4, 1) := by decide +kernel
theorem dR_undoOpenCycles_14 : decode cR_undoOpenCycles 14 = .ok (.newarray .boolean, 2) := by decide +kernel
theorem dR_undoOpenCycles_16 : decode cR_undoOpenCycles 16 = .ok (.astore_n 2, 1) := by decide +kernel
theorem dR_undoOpenCycles_17 : decode cR_undoOpenCycles 17 = .ok (.aload_n 0, 1) := by decide +kernel
theorem dR_undoOpenCycles_18 : decode cR_undoOpenCycles 18 = .ok (.getfield 23, 3) := by decide +kernel
theorem dR_undoOpenCycles_21 : decode cR_undoOpenCycles 21 = .ok (.istore_n 3, 1) := by decide +kernel
theorem dR_undoOpenCycles_22 : decode cR_undoOpenCycles 22 = .ok (.iload_n 3, 1) := by decide +kernel
theorem dR_undoOpenCycles_23 : decode cR_undoOpenCycles 23 = .ok (.ifCond .le 59, 3) := by decide +kernel
theorem dR_undoOpenCycles_26 : decode cR_undoOpenCycles 26 = .ok (.aload_n 1, 1) := by decide +kernel
theorem dR_undoOpenCycles_27 : decode cR_undoOpenCycles 27 = .ok (.getfield 38, 3) := by decide +kernel
theorem dR_undoOpenCycles_30 : decode cR_undoOpenCycles 30 = .ok (.iload_n 3, 1) := by decide +kernel
theorem dR_undoOpenCycles_31 : decode cR_undoOpenCycles 31 = .ok (.iaload, 1) := by decide +kernel
theorem dR_undoOpenCycles_32 : decode cR_undoOpenCycles 32 = .ok (.istore 4, 2) := by decide +kernel
theorem dR_undoOpenCycles_34 : decode cR_undoOpenCycles 34 = .ok (.aload_n 1, 1) := by decide +kernel
theorem dR_undoOpenCycles_35 : decode cR_undoOpenCycles 35 = .ok (.getfield 27, 3) := by decide +kernel
theorem dR_undoOpenCycles_38 : decode cR_undoOpenCycles 38 = .ok (.iload_n 3, 1) := by decide +kernel
theorem dR_undoOpenCycles_39 : decode cR_undoOpenCycles 39 = .ok (.iaload, 1) := by decide +kernel
theorem dR_undoOpenCycles_40 : decode cR_undoOpenCycles 40 = .ok (.iconst 1, 1) := by decide +kernel
theorem dR_undoOpenCycles_41 : decode cR_undoOpenCycles 41 = .ok (.if_icmp .eq 11, 3) := by decide +kernel
theorem dR_undoOpenCycles_44 : decode cR_undoOpenCycles 44 = .ok (.aload_n 2, 1) := by decide +kernel
theorem dR_undoOpenCycles_45 : decode cR_undoOpenCycles 45 = .ok (.iload 4, 2) := by decide +kernel
theorem dR_undoOpenCycles_47 : decode cR_undoOpenCycles 47 = .ok (.iconst 1, 1) := by decide +kernel
theorem dR_undoOpenCycles_48 : decode cR_undoOpenCycles 48 = .ok (.bastore, 1) := by decide +kernel
theorem dR_undoOpenCycles_49 : decode cR_undoOpenCycles 49 = .ok (.goto 27, 3) := by decide +kernel
theorem dR_undoOpenCycles_52 : decode cR_undoOpenCycles 52 = .ok (.aload_n 2, 1) := by decide +kernel
theorem dR_undoOpenCycles_53 : decode cR_undoOpenCycles 53 = .ok (.iload 4, 2) := by decide +kernel
theorem dR_undoOpenCycles_55 : decode cR_undoOpenCycles 55 = .ok (.baload, 1) := by decide +kernel
theorem dR_undoOpenCycles_56 : decode cR_undoOpenCycles 56 = .ok (.ifCond .ne 20, 3) := by decide +kernel
theorem dR_undoOpenCycles_59 : decode cR_undoOpenCycles 59 = .ok (.aload_n 0, 1) := by decide +kernel
theorem dR_undoOpenCycles_60 : decode cR_undoOpenCycles 60 = .ok (.getfield 9, 3) := by decide +kernel
theorem dR_undoOpenCycles_63 : decode cR_undoOpenCycles 63 = .ok (.aload_n 1, 1) := by decide +kernel
theorem dR_undoOpenCycles_64 : decode cR_undoOpenCycles 64 = .ok (.getfield 32, 3) := by decide +kernel
theorem dR_undoOpenCycles_67 : decode cR_undoOpenCycles 67 = .ok (.iload_n 3, 1) := by decide +kernel
theorem dR_undoOpenCycles_68 : decode cR_undoOpenCycles 68 = .ok (.iaload, 1) := by decide +kernel
theorem dR_undoOpenCycles_69 : decode cR_undoOpenCycles 69 = .ok (.aload_n 1, 1) := by decide +kernel
theorem dR_undoOpenCycles_70 : decode cR_undoOpenCycles 70 = .ok (.getfield 41, 3) := by decide +kernel
theorem dR_undoOpenCycles_73 : decode cR_undoOpenCycles 73 = .ok (.iload_n 3, 1) := by decide +kernel
theorem dR_undoOpenCycles_74 : decode cR_undoOpenCycles 74 = .ok (.iaload, 1) := by decide +kernel
theorem dR_undoOpenCycles_75 : decode cR_undoOpenCycles 75 = .ok (.iastore, 1) := by decide +kernel
theorem dR_undoOpenCycles_76 : decode cR_undoOpenCycles 76 = .ok (.iinc 3 (-1), 3) := by decide +kernel
theorem dR_undoOpenCycles_79 : decode cR_undoOpenCycles 79 = .ok (.goto (-57), 3) := by decide +kernel
theorem dR_undoOpenCycles_82 : decode cR_undoOpenCycles 82 = .ok (.return_, 1) := by decide +kernel
theorem dH_takeOver_0 : decode cH_takeOver 0 = .ok (.aload_n 0, 1) := by decide +kernel
theorem dH_takeOver_1 : decode cH_takeOver 1 = .ok (.getfield 40, 3) := by decide +kernel
theorem dH_takeOver_4 : decode cH_takeOver 4 = .ok (.aload_n 0, 1) := by decide +kernel
theorem dH_takeOver_5 : decode cH_takeOver 5 = .ok (.getfield 12, 3) := by decide +kernel
theorem dH_takeOver_8 : decode cH_takeOver 8 = .ok (.invokevirtual 244, 3) := by decide +kernel
theorem dH_takeOver_11 : decode cH_takeOver 11 = .ok (.aload_n 0, 1) := by decide +kernel
theorem dH_takeOver_12 : decode cH_takeOver 12 = .ok (.getfield 40, 3) := by decide +kernel
theorem dH_takeOver_15 : decode cH_takeOver 15 = .ok (.getfield 241, 3) := by decide +kernel
theorem dH_takeOver_18 : decode cH_takeOver 18 = .ok (.ireturn, 1) := by decide +kernel
