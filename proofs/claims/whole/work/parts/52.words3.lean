theorem k_102 : (Jvm.Cond.classLink "JournalHouse" (23 : Nat) "JournalHouse$Copies") ∈ jall := jall_t 102 (by decide +kernel) (by decide +kernel)
theorem k_103 : (Jvm.Cond.instantiable "JournalHouse$Copies" (4 : Nat)) ∈ jall := jall_t 103 (by decide +kernel) (by decide +kernel)
theorem k_105 : (Jvm.Cond.instanceMethod ({ cls := "JournalHouse$Copies", name := "<init>", desc := "()V" } : Jvm.MethodName)) ∈ jall := jall_t 105 (by decide +kernel) (by decide +kernel)
set_option maxRecDepth 100000 in
theorem k_106 : (Jvm.Cond.code ({ cls := "JournalHouse$Copies", name := "<init>", desc := "()V" } : Jvm.MethodName) prog_2_method_1_code (1 : Nat) (Option.none : Option Jvm.ClassFile.FieldType)) ∈ jall := jall_t 106 rfl rfl
theorem k_107 : (Jvm.Cond.methodLink "JournalHouse$Copies" (3 : Nat) ({ cls := "java/lang/Object", name := "<init>", desc := "()V" } : Jvm.MethodName)) ∈ jall := jall_t 107 (by decide +kernel) (by decide +kernel)
theorem k_126 : (Jvm.Cond.classLink "JournalHouse" (30 : Nat) "JournalHouse$Letters") ∈ jall := jall_t 126 (by decide +kernel) (by decide +kernel)
theorem k_127 : (Jvm.Cond.instantiable "JournalHouse$Letters" (2 : Nat)) ∈ jall := jall_t 127 (by decide +kernel) (by decide +kernel)
theorem k_129 : (Jvm.Cond.instanceMethod ({ cls := "JournalHouse$Letters", name := "<init>", desc := "()V" } : Jvm.MethodName)) ∈ jall := jall_t 129 (by decide +kernel) (by decide +kernel)
set_option maxRecDepth 100000 in
theorem k_130 : (Jvm.Cond.code ({ cls := "JournalHouse$Letters", name := "<init>", desc := "()V" } : Jvm.MethodName) prog_4_method_1_code (1 : Nat) (Option.none : Option Jvm.ClassFile.FieldType)) ∈ jall := jall_t 130 rfl rfl
theorem k_131 : (Jvm.Cond.methodLink "JournalHouse$Letters" (3 : Nat) ({ cls := "java/lang/Object", name := "<init>", desc := "()V" } : Jvm.MethodName)) ∈ jall := jall_t 131 (by decide +kernel) (by decide +kernel)
theorem k_141 : (Jvm.Cond.classLink "JournalHouse" (37 : Nat) "JournalHouse$RemoteHouse") ∈ jall := jall_t 141 (by decide +kernel) (by decide +kernel)
theorem k_142 : (Jvm.Cond.instantiable "JournalHouse$RemoteHouse" (4 : Nat)) ∈ jall := jall_t 142 (by decide +kernel) (by decide +kernel)
theorem k_144 : (Jvm.Cond.instanceMethod ({ cls := "JournalHouse$RemoteHouse", name := "<init>", desc := "()V" } : Jvm.MethodName)) ∈ jall := jall_t 144 (by decide +kernel) (by decide +kernel)
set_option maxRecDepth 100000 in
theorem k_145 : (Jvm.Cond.code ({ cls := "JournalHouse$RemoteHouse", name := "<init>", desc := "()V" } : Jvm.MethodName) prog_5_method_1_code (1 : Nat) (Option.none : Option Jvm.ClassFile.FieldType)) ∈ jall := jall_t 145 rfl rfl
theorem k_146 : (Jvm.Cond.methodLink "JournalHouse$RemoteHouse" (3 : Nat) ({ cls := "java/lang/Object", name := "<init>", desc := "()V" } : Jvm.MethodName)) ∈ jall := jall_t 146 (by decide +kernel) (by decide +kernel)
theorem k_20 : (Jvm.Cond.methodLink "JournalHouse" (3 : Nat) ({ cls := "java/lang/Object", name := "<init>", desc := "()V" } : Jvm.MethodName)) ∈ jall := jall_t 20 (by decide +kernel) (by decide +kernel)
theorem k_21 : (Jvm.Cond.instanceMethod ({ cls := "java/lang/Object", name := "<init>", desc := "()V" } : Jvm.MethodName)) ∈ jall := jall_t 21 (by decide +kernel) (by decide +kernel)
set_option maxRecDepth 100000 in
theorem k_22 : (Jvm.Cond.code ({ cls := "java/lang/Object", name := "<init>", desc := "()V" } : Jvm.MethodName) object_method_1_code (1 : Nat) (Option.none : Option Jvm.ClassFile.FieldType)) ∈ jall := jall_t 22 rfl rfl
theorem k_23 : (Jvm.Cond.classLink "JournalHouse" (9 : Nat) "JournalHouse$Journal") ∈ jall := jall_t 23 (by decide +kernel) (by decide +kernel)
theorem k_24 : (Jvm.Cond.instantiable "JournalHouse$Journal" (11 : Nat)) ∈ jall := jall_t 24 (by decide +kernel) (by decide +kernel)
theorem k_26 : (Jvm.Cond.instanceMethod ({ cls := "JournalHouse$Journal", name := "<init>", desc := "()V" } : Jvm.MethodName)) ∈ jall := jall_t 26 (by decide +kernel) (by decide +kernel)
set_option maxRecDepth 100000 in
theorem k_27 : (Jvm.Cond.code ({ cls := "JournalHouse$Journal", name := "<init>", desc := "()V" } : Jvm.MethodName) prog_3_method_1_code (1 : Nat) (Option.none : Option Jvm.ClassFile.FieldType)) ∈ jall := jall_t 27 rfl rfl
theorem k_28 : (Jvm.Cond.methodLink "JournalHouse$Journal" (3 : Nat) ({ cls := "java/lang/Object", name := "<init>", desc := "()V" } : Jvm.MethodName)) ∈ jall := jall_t 28 (by decide +kernel) (by decide +kernel)
theorem k_595 : (Jvm.Cond.methodLink "JournalHouseModel" (1 : Nat) ({ cls := "java/lang/Object", name := "<init>", desc := "()V" } : Jvm.MethodName)) ∈ jall := jall_t 595 (by decide +kernel) (by decide +kernel)
theorem k_76 : (Jvm.Cond.arrayClass Jvm.ClassFile.FieldType.int) ∈ jall := jall_t 76 (by decide +kernel) (by decide +kernel)
theorem k_77 : (Jvm.Cond.classLink "JournalHouse" (16 : Nat) "JournalHouse$Store") ∈ jall := jall_t 77 (by decide +kernel) (by decide +kernel)
theorem k_78 : (Jvm.Cond.instantiable "JournalHouse$Store" (5 : Nat)) ∈ jall := jall_t 78 (by decide +kernel) (by decide +kernel)
theorem k_80 : (Jvm.Cond.instanceMethod ({ cls := "JournalHouse$Store", name := "<init>", desc := "()V" } : Jvm.MethodName)) ∈ jall := jall_t 80 (by decide +kernel) (by decide +kernel)
set_option maxRecDepth 100000 in
theorem k_81 : (Jvm.Cond.code ({ cls := "JournalHouse$Store", name := "<init>", desc := "()V" } : Jvm.MethodName) prog_6_method_1_code (1 : Nat) (Option.none : Option Jvm.ClassFile.FieldType)) ∈ jall := jall_t 81 rfl rfl
theorem k_82 : (Jvm.Cond.methodLink "JournalHouse$Store" (3 : Nat) ({ cls := "java/lang/Object", name := "<init>", desc := "()V" } : Jvm.MethodName)) ∈ jall := jall_t 82 (by decide +kernel) (by decide +kernel)
theorem b_25 : (Jvm.Cond.methodLinkNest "JournalHouse" (11 : Nat) ({ cls := "JournalHouse$Journal", name := "<init>", desc := "()V" } : Jvm.MethodName) "JournalHouse") ∈ jNl := jNl_t 25 (by decide +kernel) (by decide +kernel)
theorem b_79 : (Jvm.Cond.methodLinkNest "JournalHouse" (18 : Nat) ({ cls := "JournalHouse$Store", name := "<init>", desc := "()V" } : Jvm.MethodName) "JournalHouse") ∈ jNl := jNl_t 79 (by decide +kernel) (by decide +kernel)
theorem b_104 : (Jvm.Cond.methodLinkNest "JournalHouse" (25 : Nat) ({ cls := "JournalHouse$Copies", name := "<init>", desc := "()V" } : Jvm.MethodName) "JournalHouse") ∈ jNl := jNl_t 104 (by decide +kernel) (by decide +kernel)
theorem b_128 : (Jvm.Cond.methodLinkNest "JournalHouse" (32 : Nat) ({ cls := "JournalHouse$Letters", name := "<init>", desc := "()V" } : Jvm.MethodName) "JournalHouse") ∈ jNl := jNl_t 128 (by decide +kernel) (by decide +kernel)
theorem b_143 : (Jvm.Cond.methodLinkNest "JournalHouse" (39 : Nat) ({ cls := "JournalHouse$RemoteHouse", name := "<init>", desc := "()V" } : Jvm.MethodName) "JournalHouse") ∈ jNl := jNl_t 143 (by decide +kernel) (by decide +kernel)
theorem dJ_init_0 : decode cJ_init 0 = .ok (.aload_n 0, 1) := by decide +kernel
theorem dJ_init_1 : decode cJ_init 1 = .ok (.invokespecial 3, 3) := by decide +kernel
theorem dJ_init_4 : decode cJ_init 4 = .ok (.aload_n 0, 1) := by decide +kernel
theorem dJ_init_5 : decode cJ_init 5 = .ok (.bipush 121, 2) := by decide +kernel
theorem dJ_init_7 : decode cJ_init 7 = .ok (.newarray .int, 2) := by decide +kernel
theorem dJ_init_9 : decode cJ_init 9 = .ok (.putfield 9, 3) := by decide +kernel
theorem dJ_init_12 : decode cJ_init 12 = .ok (.aload_n 0, 1) := by decide +kernel
theorem dJ_init_13 : decode cJ_init 13 = .ok (.bipush 121, 2) := by decide +kernel
theorem dJ_init_15 : decode cJ_init 15 = .ok (.newarray .int, 2) := by decide +kernel
theorem dJ_init_17 : decode cJ_init 17 = .ok (.putfield 15, 3) := by decide +kernel
theorem dJ_init_20 : decode cJ_init 20 = .ok (.aload_n 0, 1) := by decide +kernel
theorem dJ_init_21 : decode cJ_init 21 = .ok (.bipush 121, 2) := by decide +kernel
theorem dJ_init_23 : decode cJ_init 23 = .ok (.newarray .int, 2) := by decide +kernel
theorem dJ_init_25 : decode cJ_init 25 = .ok (.putfield 18, 3) := by decide +kernel
theorem dJ_init_28 : decode cJ_init 28 = .ok (.aload_n 0, 1) := by decide +kernel
theorem dJ_init_29 : decode cJ_init 29 = .ok (.bipush 121, 2) := by decide +kernel
theorem dJ_init_31 : decode cJ_init 31 = .ok (.newarray .int, 2) := by decide +kernel
theorem dJ_init_33 : decode cJ_init 33 = .ok (.putfield 21, 3) := by decide +kernel
theorem dJ_init_36 : decode cJ_init 36 = .ok (.aload_n 0, 1) := by decide +kernel
theorem dJ_init_37 : decode cJ_init 37 = .ok (.bipush 121, 2) := by decide +kernel
theorem dJ_init_39 : decode cJ_init 39 = .ok (.newarray .int, 2) := by decide +kernel
theorem dJ_init_41 : decode cJ_init 41 = .ok (.putfield 24, 3) := by decide +kernel
theorem dJ_init_44 : decode cJ_init 44 = .ok (.aload_n 0, 1) := by decide +kernel
theorem dJ_init_45 : decode cJ_init 45 = .ok (.bipush 121, 2) := by decide +kernel
theorem dJ_init_47 : decode cJ_init 47 = .ok (.newarray .int, 2) := by decide +kernel
theorem dJ_init_49 : decode cJ_init 49 = .ok (.putfield 27, 3) := by decide +kernel
theorem dJ_init_52 : decode cJ_init 52 = .ok (.aload_n 0, 1) := by decide +kernel
theorem dJ_init_53 : decode cJ_init 53 = .ok (.iconst 4, 1) := by decide +kernel
theorem dJ_init_54 : decode cJ_init 54 = .ok (.newarray .int, 2) := by decide +kernel
theorem dJ_init_56 : decode cJ_init 56 = .ok (.putfield 30, 3) := by decide +kernel
theorem dJ_init_59 : decode cJ_init 59 = .ok (.aload_n 0, 1) := by decide +kernel
theorem dJ_init_60 : decode cJ_init 60 = .ok (.iconst 4, 1) := by decide +kernel
theorem dJ_init_61 : decode cJ_init 61 = .ok (.newarray .int, 2) := by decide +kernel
theorem dJ_init_63 : decode cJ_init 63 = .ok (.putfield 33, 3) := by decide +kernel
theorem dJ_init_66 : decode cJ_init 66 = .ok (.aload_n 0, 1) := by decide +kernel
theorem dJ_init_67 : decode cJ_init 67 = .ok (.iconst 4, 1) := by decide +kernel
theorem dJ_init_68 : decode cJ_init 68 = .ok (.newarray .int, 2) := by decide +kernel
theorem dJ_init_70 : decode cJ_init 70 = .ok (.putfield 36, 3) := by decide +kernel
theorem dJ_init_73 : decode cJ_init 73 = .ok (.return_, 1) := by decide +kernel
theorem dS_init_0 : decode cS_init 0 = .ok (.aload_n 0, 1) := by decide +kernel
theorem dS_init_1 : decode cS_init 1 = .ok (.invokespecial 3, 3) := by decide +kernel
theorem dS_init_4 : decode cS_init 4 = .ok (.aload_n 0, 1) := by decide +kernel
theorem dS_init_5 : decode cS_init 5 = .ok (.bipush 24, 2) := by decide +kernel
theorem dS_init_7 : decode cS_init 7 = .ok (.newarray .int, 2) := by decide +kernel
theorem dS_init_9 : decode cS_init 9 = .ok (.putfield 9, 3) := by decide +kernel
theorem dS_init_12 : decode cS_init 12 = .ok (.aload_n 0, 1) := by decide +kernel
theorem dS_init_13 : decode cS_init 13 = .ok (.bipush 24, 2) := by decide +kernel
theorem dS_init_15 : decode cS_init 15 = .ok (.newarray .int, 2) := by decide +kernel
theorem dS_init_17 : decode cS_init 17 = .ok (.putfield 15, 3) := by decide +kernel
theorem dS_init_20 : decode cS_init 20 = .ok (.aload_n 0, 1) := by decide +kernel
theorem dS_init_21 : decode cS_init 21 = .ok (.bipush 24, 2) := by decide +kernel
theorem dS_init_23 : decode cS_init 23 = .ok (.newarray .int, 2) := by decide +kernel
theorem dS_init_25 : decode cS_init 25 = .ok (.putfield 18, 3) := by decide +kernel
theorem dS_init_28 : decode cS_init 28 = .ok (.aload_n 0, 1) := by decide +kernel
theorem dS_init_29 : decode cS_init 29 = .ok (.bipush 24, 2) := by decide +kernel
theorem dS_init_31 : decode cS_init 31 = .ok (.newarray .int, 2) := by decide +kernel
theorem dS_init_33 : decode cS_init 33 = .ok (.putfield 21, 3) := by decide +kernel
theorem dS_init_36 : decode cS_init 36 = .ok (.return_, 1) := by decide +kernel
theorem dC_init_0 : decode cC_init 0 = .ok (.aload_n 0, 1) := by decide +kernel
theorem dC_init_1 : decode cC_init 1 = .ok (.invokespecial 3, 3) := by decide +kernel
theorem dC_init_4 : decode cC_init 4 = .ok (.aload_n 0, 1) := by decide +kernel
theorem dC_init_5 : decode cC_init 5 = .ok (.iconst 4, 1) := by decide +kernel
theorem dC_init_6 : decode cC_init 6 = .ok (.newarray .boolean, 2) := by decide +kernel
theorem dC_init_8 : decode cC_init 8 = .ok (.putfield 9, 3) := by decide +kernel
theorem dC_init_11 : decode cC_init 11 = .ok (.aload_n 0, 1) := by decide +kernel
theorem dC_init_12 : decode cC_init 12 = .ok (.iconst 4, 1) := by decide +kernel
theorem dC_init_13 : decode cC_init 13 = .ok (.newarray .int, 2) := by decide +kernel
theorem dC_init_15 : decode cC_init 15 = .ok (.putfield 15, 3) := by decide +kernel
theorem dC_init_18 : decode cC_init 18 = .ok (.aload_n 0, 1) := by decide +kernel
theorem dC_init_19 : decode cC_init 19 = .ok (.iconst 4, 1) := by decide +kernel
theorem dC_init_20 : decode cC_init 20 = .ok (.newarray .int, 2) := by decide +kernel
theorem dC_init_22 : decode cC_init 22 = .ok (.putfield 19, 3) := by decide +kernel
theorem dC_init_25 : decode cC_init 25 = .ok (.aload_n 0, 1) := by decide +kernel
theorem dC_init_26 : decode cC_init 26 = .ok (.bipush 32, 2) := by decide +kernel
theorem dC_init_28 : decode cC_init 28 = .ok (.newarray .int, 2) := by decide +kernel
theorem dC_init_30 : decode cC_init 30 = .ok (.putfield 22, 3) := by decide +kernel
theorem dC_init_33 : decode cC_init 33 = .ok (.return_, 1) := by decide +kernel
theorem dL_init_0 : decode cL_init 0 = .ok (.aload_n 0, 1) := by decide +kernel
theorem dL_init_1 : decode cL_init 1 = .ok (.invokespecial 3, 3) := by decide +kernel
theorem dL_init_4 : decode cL_init 4 = .ok (.aload_n 0, 1) := by decide +kernel
theorem dL_init_5 : decode cL_init 5 = .ok (.bipush 16, 2) := by decide +kernel
theorem dL_init_7 : decode cL_init 7 = .ok (.newarray .int, 2) := by decide +kernel
theorem dL_init_9 : decode cL_init 9 = .ok (.putfield 9, 3) := by decide +kernel
theorem dL_init_12 : decode cL_init 12 = .ok (.return_, 1) := by decide +kernel
theorem dR_init_0 : decode cR_init 0 = .ok (.aload_n 0, 1) := by decide +kernel
theorem dR_init_1 : decode cR_init 1 = .ok (.invokespecial 3, 3) := by decide +kernel
theorem dR_init_4 : decode cR_init 4 = .ok (.aload_n 0, 1) := by decide +kernel
theorem dR_init_5 : decode cR_init 5 = .ok (.bipush 24, 2) := by decide +kernel
theorem dR_init_7 : decode cR_init 7 = .ok (.newarray .int, 2) := by decide +kernel
theorem dR_init_9 : decode cR_init 9 = .ok (.putfield 9, 3) := by decide +kernel
theorem dR_init_12 : decode cR_init 12 = .ok (.aload_n 0, 1) := by decide +kernel
theorem dR_init_13 : decode cR_init 13 = .ok (.bipush 121, 2) := by decide +kernel
theorem dR_init_15 : decode cR_init 15 = .ok (.newarray .boolean, 2) := by decide +kernel
theorem dR_init_17 : decode cR_init 17 = .ok (.putfield 15, 3) := by decide +kernel
theorem dR_init_20 : decode cR_init 20 = .ok (.return_, 1) := by decide +kernel
theorem dH_init_0 : decode cH_init 0 = .ok (.aload_n 0, 1) := by decide +kernel
theorem dH_init_1 : decode cH_init 1 = .ok (.invokespecial 3, 3) := by decide +kernel
theorem dH_init_4 : decode cH_init 4 = .ok (.aload_n 0, 1) := by decide +kernel
theorem dH_init_5 : decode cH_init 5 = .ok (.new 9, 3) := by decide +kernel
theorem dH_init_8 : decode cH_init 8 = .ok (.dup, 1) := by decide +kernel
theorem dH_init_9 : decode cH_init 9 = .ok (.invokespecial 11, 3) := by decide +kernel
theorem dH_init_12 : decode cH_init 12 = .ok (.putfield 12, 3) := by decide +kernel
theorem dH_init_15 : decode cH_init 15 = .ok (.aload_n 0, 1) := by decide +kernel
theorem dH_init_16 : decode cH_init 16 = .ok (.new 16, 3) := by decide +kernel
theorem dH_init_19 : decode cH_init 19 = .ok (.dup, 1) := by decide +kernel
theorem dH_init_20 : decode cH_init 20 = .ok (.invokespecial 18, 3) := by decide +kernel
theorem dH_init_23 : decode cH_init 23 = .ok (.putfield 19, 3) := by decide +kernel
theorem dH_init_26 : decode cH_init 26 = .ok (.aload_n 0, 1) := by decide +kernel
theorem dH_init_27 : decode cH_init 27 = .ok (.new 23, 3) := by decide +kernel
theorem dH_init_30 : decode cH_init 30 = .ok (.dup, 1) := by decide +kernel
theorem dH_init_31 : decode cH_init 31 = .ok (.invokespecial 25, 3) := by decide +kernel
theorem dH_init_34 : decode cH_init 34 = .ok (.putfield 26, 3) := by decide +kernel
theorem dH_init_37 : decode cH_init 37 = .ok (.aload_n 0, 1) := by decide +kernel
theorem dH_init_38 : decode cH_init 38 = .ok (.new 30, 3) := by decide +kernel
theorem dH_init_41 : decode cH_init 41 = .ok (.dup, 1) := by decide +kernel
theorem dH_init_42 : decode cH_init 42 = .ok (.invokespecial 32, 3) := by decide +kernel
theorem dH_init_45 : decode cH_init 45 = .ok (.putfield 33, 3) := by decide +kernel
theorem dH_init_48 : decode cH_init 48 = .ok (.aload_n 0, 1) := by decide +kernel
theorem dH_init_49 : decode cH_init 49 = .ok (.new 37, 3) := by decide +kernel
theorem dH_init_52 : decode cH_init 52 = .ok (.dup, 1) := by decide +kernel
theorem dH_init_53 : decode cH_init 53 = .ok (.invokespecial 39, 3) := by decide +kernel
theorem dH_init_56 : decode cH_init 56 = .ok (.putfield 40, 3) := by decide +kernel
theorem dH_init_59 : decode cH_init 59 = .ok (.aload_n 0, 1) := by decide +kernel
theorem dH_init_60 : decode cH_init 60 = .ok (.iconst 3, 1) := by decide +kernel
theorem dH_init_61 : decode cH_init 61 = .ok (.newarray .int, 2) := by decide +kernel
theorem dH_init_63 : decode cH_init 63 = .ok (.putfield 44, 3) := by decide +kernel
theorem dH_init_66 : decode cH_init 66 = .ok (.aload_n 0, 1) := by decide +kernel
theorem dH_init_67 : decode cH_init 67 = .ok (.iconst 3, 1) := by decide +kernel
theorem dH_init_68 : decode cH_init 68 = .ok (.newarray .int, 2) := by decide +kernel
theorem dH_init_70 : decode cH_init 70 = .ok (.putfield 48, 3) := by decide +kernel
theorem dH_init_73 : decode cH_init 73 = .ok (.aload_n 0, 1) := by decide +kernel
theorem dH_init_74 : decode cH_init 74 = .ok (.iconst 3, 1) := by decide +kernel
theorem dH_init_75 : decode cH_init 75 = .ok (.newarray .int, 2) := by decide +kernel
theorem dH_init_77 : decode cH_init 77 = .ok (.putfield 51, 3) := by decide +kernel
theorem dH_init_80 : decode cH_init 80 = .ok (.aload_n 0, 1) := by decide +kernel
theorem dH_init_81 : decode cH_init 81 = .ok (.bipush 8, 2) := by decide +kernel
theorem dH_init_83 : decode cH_init 83 = .ok (.newarray .int, 2) := by decide +kernel
theorem dH_init_85 : decode cH_init 85 = .ok (.putfield 54, 3) := by decide +kernel
theorem dH_init_88 : decode cH_init 88 = .ok (.aload_n 0, 1) := by decide +kernel
theorem dH_init_89 : decode cH_init 89 = .ok (.iconst 1, 1) := by decide +kernel
theorem dH_init_90 : decode cH_init 90 = .ok (.putfield 57, 3) := by decide +kernel
theorem dH_init_93 : decode cH_init 93 = .ok (.return_, 1) := by decide +kernel
theorem dM_init_0 : decode cM_init 0 = .ok (.aload_n 0, 1) := by decide +kernel
theorem dM_init_1 : decode cM_init 1 = .ok (.invokespecial 1, 3) := by decide +kernel
theorem dM_init_4 : decode cM_init 4 = .ok (.aload_n 0, 1) := by decide +kernel
theorem dM_init_5 : decode cM_init 5 = .ok (.iconst 3, 1) := by decide +kernel
theorem dM_init_6 : decode cM_init 6 = .ok (.newarray .int, 2) := by decide +kernel
theorem dM_init_8 : decode cM_init 8 = .ok (.putfield 7, 3) := by decide +kernel
theorem dM_init_11 : decode cM_init 11 = .ok (.aload_n 0, 1) := by decide +kernel
theorem dM_init_12 : decode cM_init 12 = .ok (.iconst 3, 1) := by decide +kernel
theorem dM_init_13 : decode cM_init 13 = .ok (.newarray .int, 2) := by decide +kernel
theorem dM_init_15 : decode cM_init 15 = .ok (.putfield 13, 3) := by decide +kernel
theorem dM_init_18 : decode cM_init 18 = .ok (.aload_n 0, 1) := by decide +kernel
theorem dM_init_19 : decode cM_init 19 = .ok (.iconst 3, 1) := by decide +kernel
theorem dM_init_20 : decode cM_init 20 = .ok (.newarray .int, 2) := by decide +kernel
theorem dM_init_22 : decode cM_init 22 = .ok (.putfield 16, 3) := by decide +kernel
theorem dM_init_25 : decode cM_init 25 = .ok (.aload_n 0, 1) := by decide +kernel
theorem dM_init_26 : decode cM_init 26 = .ok (.bipush 121, 2) := by decide +kernel
theorem dM_init_28 : decode cM_init 28 = .ok (.newarray .int, 2) := by decide +kernel
theorem dM_init_30 : decode cM_init 30 = .ok (.putfield 19, 3) := by decide +kernel
theorem dM_init_33 : decode cM_init 33 = .ok (.aload_n 0, 1) := by decide +kernel
theorem dM_init_34 : decode cM_init 34 = .ok (.bipush 121, 2) := by decide +kernel
theorem dM_init_36 : decode cM_init 36 = .ok (.newarray .int, 2) := by decide +kernel
theorem dM_init_38 : decode cM_init 38 = .ok (.putfield 22, 3) := by decide +kernel
theorem dM_init_41 : decode cM_init 41 = .ok (.aload_n 0, 1) := by decide +kernel
theorem dM_init_42 : decode cM_init 42 = .ok (.bipush 121, 2) := by decide +kernel
theorem dM_init_44 : decode cM_init 44 = .ok (.newarray .int, 2) := by decide +kernel
theorem dM_init_46 : decode cM_init 46 = .ok (.putfield 25, 3) := by decide +kernel
theorem dM_init_49 : decode cM_init 49 = .ok (.aload_n 0, 1) := by decide +kernel
theorem dM_init_50 : decode cM_init 50 = .ok (.bipush 121, 2) := by decide +kernel
theorem dM_init_52 : decode cM_init 52 = .ok (.newarray .int, 2) := by decide +kernel
theorem dM_init_54 : decode cM_init 54 = .ok (.putfield 28, 3) := by decide +kernel
theorem dM_init_57 : decode cM_init 57 = .ok (.aload_n 0, 1) := by decide +kernel
theorem dM_init_58 : decode cM_init 58 = .ok (.bipush 121, 2) := by decide +kernel
theorem dM_init_60 : decode cM_init 60 = .ok (.newarray .int, 2) := by decide +kernel
theorem dM_init_62 : decode cM_init 62 = .ok (.putfield 31, 3) := by decide +kernel
theorem dM_init_65 : decode cM_init 65 = .ok (.aload_n 0, 1) := by decide +kernel
theorem dM_init_66 : decode cM_init 66 = .ok (.bipush 121, 2) := by decide +kernel
theorem dM_init_68 : decode cM_init 68 = .ok (.newarray .int, 2) := by decide +kernel
theorem dM_init_70 : decode cM_init 70 = .ok (.putfield 34, 3) := by decide +kernel
theorem dM_init_73 : decode cM_init 73 = .ok (.aload_n 0, 1) := by decide +kernel
theorem dM_init_74 : decode cM_init 74 = .ok (.bipush 24, 2) := by decide +kernel
theorem dM_init_76 : decode cM_init 76 = .ok (.newarray .int, 2) := by decide +kernel
theorem dM_init_78 : decode cM_init 78 = .ok (.putfield 37, 3) := by decide +kernel
theorem dM_init_81 : decode cM_init 81 = .ok (.aload_n 0, 1) := by decide +kernel
theorem dM_init_82 : decode cM_init 82 = .ok (.bipush 24, 2) := by decide +kernel
theorem dM_init_84 : decode cM_init 84 = .ok (.newarray .int, 2) := by decide +kernel
theorem dM_init_86 : decode cM_init 86 = .ok (.putfield 40, 3) := by decide +kernel
theorem dM_init_89 : decode cM_init 89 = .ok (.aload_n 0, 1) := by decide +kernel
theorem dM_init_90 : decode cM_init 90 = .ok (.iconst 4, 1) := by decide +kernel
theorem dM_init_91 : decode cM_init 91 = .ok (.newarray .int, 2) := by decide +kernel
theorem dM_init_93 : decode cM_init 93 = .ok (.putfield 43, 3) := by decide +kernel
theorem dM_init_96 : decode cM_init 96 = .ok (.aload_n 0, 1) := by decide +kernel
theorem dM_init_97 : decode cM_init 97 = .ok (.iconst 4, 1) := by decide +kernel
theorem dM_init_98 : decode cM_init 98 = .ok (.newarray .int, 2) := by decide +kernel
theorem dM_init_100 : decode cM_init 100 = .ok (.putfield 46, 3) := by decide +kernel
theorem dM_init_103 : decode cM_init 103 = .ok (.aload_n 0, 1) := by decide +kernel
theorem dM_init_104 : decode cM_init 104 = .ok (.bipush 17, 2) := by decide +kernel
theorem dM_init_106 : decode cM_init 106 = .ok (.newarray .int, 2) := by decide +kernel
theorem dM_init_108 : decode cM_init 108 = .ok (.putfield 49, 3) := by decide +kernel
theorem dM_init_111 : decode cM_init 111 = .ok (.aload_n 0, 1) := by decide +kernel
theorem dM_init_112 : decode cM_init 112 = .ok (.bipush 122, 2) := by decide +kernel
theorem dM_init_114 : decode cM_init 114 = .ok (.newarray .boolean, 2) := by decide +kernel
theorem dM_init_116 : decode cM_init 116 = .ok (.putfield 52, 3) := by decide +kernel
theorem dM_init_119 : decode cM_init 119 = .ok (.iconst 0, 1) := by decide +kernel
theorem dM_init_120 : decode cM_init 120 = .ok (.istore_n 1, 1) := by decide +kernel
theorem dM_init_121 : decode cM_init 121 = .ok (.iload_n 1, 1) := by decide +kernel
theorem dM_init_122 : decode cM_init 122 = .ok (.iconst 4, 1) := by decide +kernel
theorem dM_init_123 : decode cM_init 123 = .ok (.if_icmp .ge 16, 3) := by decide +kernel
theorem dM_init_126 : decode cM_init 126 = .ok (.aload_n 0, 1) := by decide +kernel
theorem dM_init_127 : decode cM_init 127 = .ok (.getfield 43, 3) := by decide +kernel
theorem dM_init_130 : decode cM_init 130 = .ok (.iload_n 1, 1) := by decide +kernel
theorem dM_init_131 : decode cM_init 131 = .ok (.iconst (-1), 1) := by decide +kernel
theorem dM_init_132 : decode cM_init 132 = .ok (.iastore, 1) := by decide +kernel
theorem dM_init_133 : decode cM_init 133 = .ok (.iinc 1 1, 3) := by decide +kernel
theorem dM_init_136 : decode cM_init 136 = .ok (.goto (-15), 3) := by decide +kernel
theorem dM_init_139 : decode cM_init 139 = .ok (.return_, 1) := by decide +kernel
