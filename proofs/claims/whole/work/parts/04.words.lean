theorem k_1 : (Jvm.Cond.initialized "JournalHouse") ∈ jall := jall_t 1 (by decide +kernel) (by decide +kernel)
theorem k_108 : (Jvm.Cond.fieldLink "JournalHouse$Copies" (9 : Nat) "JournalHouse$Copies" "filled" "[Z") ∈ jall := jall_t 108 (by decide +kernel) (by decide +kernel)
theorem k_109 : (Jvm.Cond.fieldLink "JournalHouse" (128 : Nat) "JournalHouse$Copies" "filled" "[Z") ∈ jall := jall_t 109 (by decide +kernel) (by decide +kernel)
theorem k_11 : (Jvm.Cond.initialized "java/lang/IllegalArgumentException") ∈ jall := jall_t 11 (by decide +kernel) (by decide +kernel)
theorem k_110 : (Jvm.Cond.fieldLink "JournalHouse$Copies" (15 : Nat) "JournalHouse$Copies" "files" "[I") ∈ jall := jall_t 110 (by decide +kernel) (by decide +kernel)
theorem k_111 : (Jvm.Cond.fieldLink "JournalHouse" (132 : Nat) "JournalHouse$Copies" "files" "[I") ∈ jall := jall_t 111 (by decide +kernel) (by decide +kernel)
theorem k_112 : (Jvm.Cond.fieldLink "JournalHouse$Copies" (19 : Nat) "JournalHouse$Copies" "numbers" "[I") ∈ jall := jall_t 112 (by decide +kernel) (by decide +kernel)
theorem k_113 : (Jvm.Cond.fieldLink "JournalHouse" (142 : Nat) "JournalHouse$Copies" "numbers" "[I") ∈ jall := jall_t 113 (by decide +kernel) (by decide +kernel)
theorem k_114 : (Jvm.Cond.fieldLink "JournalHouse$Copies" (22 : Nat) "JournalHouse$Copies" "records" "[I") ∈ jall := jall_t 114 (by decide +kernel) (by decide +kernel)
theorem k_115 : (Jvm.Cond.fieldLink "JournalHouse" (135 : Nat) "JournalHouse$Copies" "records" "[I") ∈ jall := jall_t 115 (by decide +kernel) (by decide +kernel)
theorem k_12 : (Jvm.Cond.initialized "java/lang/IllegalStateException") ∈ jall := jall_t 12 (by decide +kernel) (by decide +kernel)
theorem k_13 : (Jvm.Cond.initialized "java/lang/Math") ∈ jall := jall_t 13 (by decide +kernel) (by decide +kernel)
theorem k_132 : (Jvm.Cond.fieldLink "JournalHouse$Letters" (9 : Nat) "JournalHouse$Letters" "entries" "[I") ∈ jall := jall_t 132 (by decide +kernel) (by decide +kernel)
theorem k_133 : (Jvm.Cond.fieldLink "JournalHouse" (235 : Nat) "JournalHouse$Letters" "entries" "[I") ∈ jall := jall_t 133 (by decide +kernel) (by decide +kernel)
theorem k_134 : (Jvm.Cond.fieldLink "JournalHouse$Letters" (15 : Nat) "JournalHouse$Letters" "count" "I") ∈ jall := jall_t 134 (by decide +kernel) (by decide +kernel)
theorem k_135 : (Jvm.Cond.fieldLink "JournalHouse" (225 : Nat) "JournalHouse$Letters" "count" "I") ∈ jall := jall_t 135 (by decide +kernel) (by decide +kernel)
theorem k_14 : (Jvm.Cond.initialized "java/lang/System") ∈ jall := jall_t 14 (by decide +kernel) (by decide +kernel)
theorem k_147 : (Jvm.Cond.fieldLink "JournalHouse$RemoteHouse" (9 : Nat) "JournalHouse$RemoteHouse" "records" "[I") ∈ jall := jall_t 147 (by decide +kernel) (by decide +kernel)
theorem k_148 : (Jvm.Cond.fieldLink "JournalHouse" (248 : Nat) "JournalHouse$RemoteHouse" "records" "[I") ∈ jall := jall_t 148 (by decide +kernel) (by decide +kernel)
theorem k_149 : (Jvm.Cond.fieldLink "JournalHouse$RemoteHouse" (15 : Nat) "JournalHouse$RemoteHouse" "received" "[Z") ∈ jall := jall_t 149 (by decide +kernel) (by decide +kernel)
theorem k_150 : (Jvm.Cond.fieldLink "JournalHouse$RemoteHouse" (23 : Nat) "JournalHouse$RemoteHouse" "applied" "I") ∈ jall := jall_t 150 (by decide +kernel) (by decide +kernel)
theorem k_151 : (Jvm.Cond.fieldLink "JournalHouse" (241 : Nat) "JournalHouse$RemoteHouse" "applied" "I") ∈ jall := jall_t 151 (by decide +kernel) (by decide +kernel)
theorem k_152 : (Jvm.Cond.fieldLink "JournalHouse$RemoteHouse" (19 : Nat) "JournalHouse$RemoteHouse" "takenOver" "Z") ∈ jall := jall_t 152 (by decide +kernel) (by decide +kernel)
theorem k_162 : (Jvm.Cond.fieldLink "JournalHouse" (12 : Nat) "JournalHouse" "journal" "LJournalHouse$Journal;") ∈ jall := jall_t 162 (by decide +kernel) (by decide +kernel)
theorem k_163 : (Jvm.Cond.fieldLink "JournalHouse" (19 : Nat) "JournalHouse" "store" "LJournalHouse$Store;") ∈ jall := jall_t 163 (by decide +kernel) (by decide +kernel)
theorem k_164 : (Jvm.Cond.fieldLink "JournalHouse" (26 : Nat) "JournalHouse" "copies" "LJournalHouse$Copies;") ∈ jall := jall_t 164 (by decide +kernel) (by decide +kernel)
theorem k_165 : (Jvm.Cond.fieldLink "JournalHouse" (33 : Nat) "JournalHouse" "letters" "LJournalHouse$Letters;") ∈ jall := jall_t 165 (by decide +kernel) (by decide +kernel)
theorem k_166 : (Jvm.Cond.fieldLink "JournalHouse" (40 : Nat) "JournalHouse" "remoteHouse" "LJournalHouse$RemoteHouse;") ∈ jall := jall_t 166 (by decide +kernel) (by decide +kernel)
theorem k_167 : (Jvm.Cond.fieldLink "JournalHouse" (44 : Nat) "JournalHouse" "sizes" "[I") ∈ jall := jall_t 167 (by decide +kernel) (by decide +kernel)
theorem k_168 : (Jvm.Cond.fieldLink "JournalHouse" (48 : Nat) "JournalHouse" "numbers" "[I") ∈ jall := jall_t 168 (by decide +kernel) (by decide +kernel)
theorem k_169 : (Jvm.Cond.fieldLink "JournalHouse" (51 : Nat) "JournalHouse" "limits" "[I") ∈ jall := jall_t 169 (by decide +kernel) (by decide +kernel)
theorem k_170 : (Jvm.Cond.fieldLink "JournalHouse" (54 : Nat) "JournalHouse" "wanted" "[I") ∈ jall := jall_t 170 (by decide +kernel) (by decide +kernel)
theorem k_171 : (Jvm.Cond.fieldLink "JournalHouse" (64 : Nat) "JournalHouse" "fileCount" "I") ∈ jall := jall_t 171 (by decide +kernel) (by decide +kernel)
theorem k_172 : (Jvm.Cond.fieldLink "JournalHouse" (194 : Nat) "JournalHouse" "acknowledged" "I") ∈ jall := jall_t 172 (by decide +kernel) (by decide +kernel)
theorem k_173 : (Jvm.Cond.fieldLink "JournalHouse" (57 : Nat) "JournalHouse" "up" "Z") ∈ jall := jall_t 173 (by decide +kernel) (by decide +kernel)
theorem k_2 : (Jvm.Cond.initialized "JournalHouse$Journal") ∈ jall := jall_t 2 (by decide +kernel) (by decide +kernel)
theorem k_203 : (Jvm.Cond.methodLink "JournalHouse" (75 : Nat) ({ cls := "JournalHouse", name := "isRecord", desc := "(II)Z" } : Jvm.MethodName)) ∈ jall := jall_t 203 (by decide +kernel) (by decide +kernel)
theorem k_205 : (Jvm.Cond.instanceMethod ({ cls := "JournalHouse", name := "isRecord", desc := "(II)Z" } : Jvm.MethodName)) ∈ jall := jall_t 205 (by decide +kernel) (by decide +kernel)
set_option maxRecDepth 100000 in
theorem k_206 : (Jvm.Cond.code ({ cls := "JournalHouse", name := "isRecord", desc := "(II)Z" } : Jvm.MethodName) prog_1_method_24_code (3 : Nat) (Option.some Jvm.ClassFile.FieldType.boolean)) ∈ jall := jall_t 206 rfl rfl
theorem k_207 : (Jvm.Cond.methodLink "JournalHouse" (115 : Nat) ({ cls := "JournalHouse", name := "isFile", desc := "(I)Z" } : Jvm.MethodName)) ∈ jall := jall_t 207 (by decide +kernel) (by decide +kernel)
theorem k_209 : (Jvm.Cond.instanceMethod ({ cls := "JournalHouse", name := "isFile", desc := "(I)Z" } : Jvm.MethodName)) ∈ jall := jall_t 209 (by decide +kernel) (by decide +kernel)
set_option maxRecDepth 100000 in
theorem k_210 : (Jvm.Cond.code ({ cls := "JournalHouse", name := "isFile", desc := "(I)Z" } : Jvm.MethodName) prog_1_method_23_code (2 : Nat) (Option.some Jvm.ClassFile.FieldType.boolean)) ∈ jall := jall_t 210 rfl rfl
theorem k_211 : (Jvm.Cond.methodLink "JournalHouse" (79 : Nat) ({ cls := "JournalHouse", name := "cellOf", desc := "(II)I" } : Jvm.MethodName)) ∈ jall := jall_t 211 (by decide +kernel) (by decide +kernel)
theorem k_212 : (Jvm.Cond.static ({ cls := "JournalHouse", name := "cellOf", desc := "(II)I" } : Jvm.MethodName)) ∈ jall := jall_t 212 (by decide +kernel) (by decide +kernel)
set_option maxRecDepth 100000 in
theorem k_213 : (Jvm.Cond.code ({ cls := "JournalHouse", name := "cellOf", desc := "(II)I" } : Jvm.MethodName) prog_1_method_26_code (2 : Nat) (Option.some Jvm.ClassFile.FieldType.int)) ∈ jall := jall_t 213 rfl rfl
theorem k_214 : (Jvm.Cond.constantLong "JournalHouse" (99 : Nat) (1099511627776 : Int64)) ∈ jall := jall_t 214 (by decide +kernel) (by decide +kernel)
theorem k_231 : (Jvm.Cond.methodLink "JournalHouse" (174 : Nat) ({ cls := "JournalHouse$Journal", name := "isBoundary", desc := "(II)Z" } : Jvm.MethodName)) ∈ jall := jall_t 231 (by decide +kernel) (by decide +kernel)
theorem k_232 : (Jvm.Cond.instanceMethod ({ cls := "JournalHouse$Journal", name := "isBoundary", desc := "(II)Z" } : Jvm.MethodName)) ∈ jall := jall_t 232 (by decide +kernel) (by decide +kernel)
theorem k_233 : (Jvm.Cond.selects "JournalHouse$Journal" ({ cls := "JournalHouse$Journal", name := "isBoundary", desc := "(II)Z" } : Jvm.MethodName) ({ cls := "JournalHouse$Journal", name := "isBoundary", desc := "(II)Z" } : Jvm.MethodName)) ∈ jall := jall_t 233 (by decide +kernel) (by decide +kernel)
set_option maxRecDepth 100000 in
theorem k_234 : (Jvm.Cond.code ({ cls := "JournalHouse$Journal", name := "isBoundary", desc := "(II)Z" } : Jvm.MethodName) prog_3_method_7_code (3 : Nat) (Option.some Jvm.ClassFile.FieldType.boolean)) ∈ jall := jall_t 234 rfl rfl
theorem k_239 : (Jvm.Cond.methodLink "JournalHouse" (177 : Nat) ({ cls := "JournalHouse$Journal", name := "isKept", desc := "(I)Z" } : Jvm.MethodName)) ∈ jall := jall_t 239 (by decide +kernel) (by decide +kernel)
theorem k_240 : (Jvm.Cond.instanceMethod ({ cls := "JournalHouse$Journal", name := "isKept", desc := "(I)Z" } : Jvm.MethodName)) ∈ jall := jall_t 240 (by decide +kernel) (by decide +kernel)
theorem k_241 : (Jvm.Cond.selects "JournalHouse$Journal" ({ cls := "JournalHouse$Journal", name := "isKept", desc := "(I)Z" } : Jvm.MethodName) ({ cls := "JournalHouse$Journal", name := "isKept", desc := "(I)Z" } : Jvm.MethodName)) ∈ jall := jall_t 241 (by decide +kernel) (by decide +kernel)
set_option maxRecDepth 100000 in
theorem k_242 : (Jvm.Cond.code ({ cls := "JournalHouse$Journal", name := "isKept", desc := "(I)Z" } : Jvm.MethodName) prog_3_method_16_code (2 : Nat) (Option.some Jvm.ClassFile.FieldType.boolean)) ∈ jall := jall_t 242 rfl rfl
theorem k_243 : (Jvm.Cond.methodLink "JournalHouse$Journal" (54 : Nat) ({ cls := "JournalHouse$Journal", name := "startOfOldest", desc := "()I" } : Jvm.MethodName)) ∈ jall := jall_t 243 (by decide +kernel) (by decide +kernel)
theorem k_244 : (Jvm.Cond.instanceMethod ({ cls := "JournalHouse$Journal", name := "startOfOldest", desc := "()I" } : Jvm.MethodName)) ∈ jall := jall_t 244 (by decide +kernel) (by decide +kernel)
theorem k_245 : (Jvm.Cond.selects "JournalHouse$Journal" ({ cls := "JournalHouse$Journal", name := "startOfOldest", desc := "()I" } : Jvm.MethodName) ({ cls := "JournalHouse$Journal", name := "startOfOldest", desc := "()I" } : Jvm.MethodName)) ∈ jall := jall_t 245 (by decide +kernel) (by decide +kernel)
set_option maxRecDepth 100000 in
theorem k_246 : (Jvm.Cond.code ({ cls := "JournalHouse$Journal", name := "startOfOldest", desc := "()I" } : Jvm.MethodName) prog_3_method_14_code (1 : Nat) (Option.some Jvm.ClassFile.FieldType.int)) ∈ jall := jall_t 246 rfl rfl
theorem k_247 : (Jvm.Cond.methodLink "JournalHouse" (186 : Nat) ({ cls := "JournalHouse", name := "partOfChange", desc := "(II)J" } : Jvm.MethodName)) ∈ jall := jall_t 247 (by decide +kernel) (by decide +kernel)
theorem k_249 : (Jvm.Cond.instanceMethod ({ cls := "JournalHouse", name := "partOfChange", desc := "(II)J" } : Jvm.MethodName)) ∈ jall := jall_t 249 (by decide +kernel) (by decide +kernel)
set_option maxRecDepth 100000 in
theorem k_250 : (Jvm.Cond.code ({ cls := "JournalHouse", name := "partOfChange", desc := "(II)J" } : Jvm.MethodName) prog_1_method_29_code (3 : Nat) (Option.some Jvm.ClassFile.FieldType.long)) ∈ jall := jall_t 250 rfl rfl
theorem k_251 : (Jvm.Cond.methodLink "JournalHouse" (249 : Nat) ({ cls := "JournalHouse", name := "fileOf", desc := "(I)I" } : Jvm.MethodName)) ∈ jall := jall_t 251 (by decide +kernel) (by decide +kernel)
theorem k_252 : (Jvm.Cond.static ({ cls := "JournalHouse", name := "fileOf", desc := "(I)I" } : Jvm.MethodName)) ∈ jall := jall_t 252 (by decide +kernel) (by decide +kernel)
set_option maxRecDepth 100000 in
theorem k_253 : (Jvm.Cond.code ({ cls := "JournalHouse", name := "fileOf", desc := "(I)I" } : Jvm.MethodName) prog_1_method_27_code (1 : Nat) (Option.some Jvm.ClassFile.FieldType.int)) ∈ jall := jall_t 253 rfl rfl
theorem k_254 : (Jvm.Cond.methodLink "JournalHouse" (158 : Nat) ({ cls := "JournalHouse", name := "recordOf", desc := "(I)I" } : Jvm.MethodName)) ∈ jall := jall_t 254 (by decide +kernel) (by decide +kernel)
theorem k_255 : (Jvm.Cond.static ({ cls := "JournalHouse", name := "recordOf", desc := "(I)I" } : Jvm.MethodName)) ∈ jall := jall_t 255 (by decide +kernel) (by decide +kernel)
set_option maxRecDepth 100000 in
theorem k_256 : (Jvm.Cond.code ({ cls := "JournalHouse", name := "recordOf", desc := "(I)I" } : Jvm.MethodName) prog_1_method_28_code (1 : Nat) (Option.some Jvm.ClassFile.FieldType.int)) ∈ jall := jall_t 256 rfl rfl
theorem k_278 : (Jvm.Cond.classLink "JournalHouse" (61 : Nat) "java/lang/IllegalArgumentException") ∈ jall := jall_t 278 (by decide +kernel) (by decide +kernel)
theorem k_29 : (Jvm.Cond.fieldLink "JournalHouse$Journal" (9 : Nat) "JournalHouse$Journal" "kinds" "[I") ∈ jall := jall_t 29 (by decide +kernel) (by decide +kernel)
theorem k_3 : (Jvm.Cond.initialized "JournalHouse$Store") ∈ jall := jall_t 3 (by decide +kernel) (by decide +kernel)
theorem k_30 : (Jvm.Cond.fieldLink "JournalHouse$RemoteHouse" (27 : Nat) "JournalHouse$Journal" "kinds" "[I") ∈ jall := jall_t 30 (by decide +kernel) (by decide +kernel)
theorem k_31 : (Jvm.Cond.fieldLink "JournalHouse" (180 : Nat) "JournalHouse$Journal" "kinds" "[I") ∈ jall := jall_t 31 (by decide +kernel) (by decide +kernel)
theorem k_32 : (Jvm.Cond.fieldLink "JournalHouse$Journal" (15 : Nat) "JournalHouse$Journal" "jobs" "[I") ∈ jall := jall_t 32 (by decide +kernel) (by decide +kernel)
theorem k_34 : (Jvm.Cond.fieldLink "JournalHouse" (183 : Nat) "JournalHouse$Journal" "jobs" "[I") ∈ jall := jall_t 34 (by decide +kernel) (by decide +kernel)
theorem k_340 : (Jvm.Cond.classLink "JournalHouse" (68 : Nat) "java/lang/IllegalStateException") ∈ jall := jall_t 340 (by decide +kernel) (by decide +kernel)
theorem k_35 : (Jvm.Cond.fieldLink "JournalHouse$Journal" (18 : Nat) "JournalHouse$Journal" "cells" "[I") ∈ jall := jall_t 35 (by decide +kernel) (by decide +kernel)
theorem k_36 : (Jvm.Cond.fieldLink "JournalHouse$RemoteHouse" (32 : Nat) "JournalHouse$Journal" "cells" "[I") ∈ jall := jall_t 36 (by decide +kernel) (by decide +kernel)
theorem k_362 : (Jvm.Cond.methodLink "JournalHouse" (71 : Nat) ({ cls := "JournalHouse", name := "isJob", desc := "(I)Z" } : Jvm.MethodName)) ∈ jall := jall_t 362 (by decide +kernel) (by decide +kernel)
theorem k_364 : (Jvm.Cond.instanceMethod ({ cls := "JournalHouse", name := "isJob", desc := "(I)Z" } : Jvm.MethodName)) ∈ jall := jall_t 364 (by decide +kernel) (by decide +kernel)
set_option maxRecDepth 100000 in
theorem k_365 : (Jvm.Cond.code ({ cls := "JournalHouse", name := "isJob", desc := "(I)Z" } : Jvm.MethodName) prog_1_method_22_code (2 : Nat) (Option.some Jvm.ClassFile.FieldType.boolean)) ∈ jall := jall_t 365 rfl rfl
theorem k_366 : (Jvm.Cond.methodLink "JournalHouse" (83 : Nat) ({ cls := "JournalHouse$Journal", name := "isLockedByAnother", desc := "(II)Z" } : Jvm.MethodName)) ∈ jall := jall_t 366 (by decide +kernel) (by decide +kernel)
theorem k_367 : (Jvm.Cond.instanceMethod ({ cls := "JournalHouse$Journal", name := "isLockedByAnother", desc := "(II)Z" } : Jvm.MethodName)) ∈ jall := jall_t 367 (by decide +kernel) (by decide +kernel)
theorem k_368 : (Jvm.Cond.selects "JournalHouse$Journal" ({ cls := "JournalHouse$Journal", name := "isLockedByAnother", desc := "(II)Z" } : Jvm.MethodName) ({ cls := "JournalHouse$Journal", name := "isLockedByAnother", desc := "(II)Z" } : Jvm.MethodName)) ∈ jall := jall_t 368 (by decide +kernel) (by decide +kernel)
set_option maxRecDepth 100000 in
theorem k_369 : (Jvm.Cond.code ({ cls := "JournalHouse$Journal", name := "isLockedByAnother", desc := "(II)Z" } : Jvm.MethodName) prog_3_method_8_code (4 : Nat) (Option.some Jvm.ClassFile.FieldType.boolean)) ∈ jall := jall_t 369 rfl rfl
theorem k_37 : (Jvm.Cond.fieldLink "JournalHouse" (155 : Nat) "JournalHouse$Journal" "cells" "[I") ∈ jall := jall_t 37 (by decide +kernel) (by decide +kernel)
theorem k_370 : (Jvm.Cond.methodLink "JournalHouse$Journal" (58 : Nat) ({ cls := "JournalHouse$Journal", name := "isInOpenCycle", desc := "(I)Z" } : Jvm.MethodName)) ∈ jall := jall_t 370 (by decide +kernel) (by decide +kernel)
theorem k_372 : (Jvm.Cond.instanceMethod ({ cls := "JournalHouse$Journal", name := "isInOpenCycle", desc := "(I)Z" } : Jvm.MethodName)) ∈ jall := jall_t 372 (by decide +kernel) (by decide +kernel)
set_option maxRecDepth 100000 in
theorem k_373 : (Jvm.Cond.code ({ cls := "JournalHouse$Journal", name := "isInOpenCycle", desc := "(I)Z" } : Jvm.MethodName) prog_3_method_9_code (3 : Nat) (Option.some Jvm.ClassFile.FieldType.boolean)) ∈ jall := jall_t 373 rfl rfl
theorem k_374 : (Jvm.Cond.methodLink "JournalHouse$Journal" (62 : Nat) ({ cls := "JournalHouse$Journal", name := "isCycleOpen", desc := "(I)Z" } : Jvm.MethodName)) ∈ jall := jall_t 374 (by decide +kernel) (by decide +kernel)
theorem k_375 : (Jvm.Cond.instanceMethod ({ cls := "JournalHouse$Journal", name := "isCycleOpen", desc := "(I)Z" } : Jvm.MethodName)) ∈ jall := jall_t 375 (by decide +kernel) (by decide +kernel)
theorem k_376 : (Jvm.Cond.selects "JournalHouse$Journal" ({ cls := "JournalHouse$Journal", name := "isCycleOpen", desc := "(I)Z" } : Jvm.MethodName) ({ cls := "JournalHouse$Journal", name := "isCycleOpen", desc := "(I)Z" } : Jvm.MethodName)) ∈ jall := jall_t 376 (by decide +kernel) (by decide +kernel)
set_option maxRecDepth 100000 in
theorem k_377 : (Jvm.Cond.code ({ cls := "JournalHouse$Journal", name := "isCycleOpen", desc := "(I)Z" } : Jvm.MethodName) prog_3_method_5_code (2 : Nat) (Option.some Jvm.ClassFile.FieldType.boolean)) ∈ jall := jall_t 377 rfl rfl
theorem k_378 : (Jvm.Cond.methodLink "JournalHouse" (86 : Nat) ({ cls := "JournalHouse$Journal", name := "refusesChangeBy", desc := "(I)Z" } : Jvm.MethodName)) ∈ jall := jall_t 378 (by decide +kernel) (by decide +kernel)
theorem k_379 : (Jvm.Cond.instanceMethod ({ cls := "JournalHouse$Journal", name := "refusesChangeBy", desc := "(I)Z" } : Jvm.MethodName)) ∈ jall := jall_t 379 (by decide +kernel) (by decide +kernel)
theorem k_38 : (Jvm.Cond.fieldLink "JournalHouse$Journal" (21 : Nat) "JournalHouse$Journal" "befores" "[I") ∈ jall := jall_t 38 (by decide +kernel) (by decide +kernel)
theorem k_380 : (Jvm.Cond.selects "JournalHouse$Journal" ({ cls := "JournalHouse$Journal", name := "refusesChangeBy", desc := "(I)Z" } : Jvm.MethodName) ({ cls := "JournalHouse$Journal", name := "refusesChangeBy", desc := "(I)Z" } : Jvm.MethodName)) ∈ jall := jall_t 380 (by decide +kernel) (by decide +kernel)
set_option maxRecDepth 100000 in
theorem k_381 : (Jvm.Cond.code ({ cls := "JournalHouse$Journal", name := "refusesChangeBy", desc := "(I)Z" } : Jvm.MethodName) prog_3_method_10_code (3 : Nat) (Option.some Jvm.ClassFile.FieldType.boolean)) ∈ jall := jall_t 381 rfl rfl
theorem k_382 : (Jvm.Cond.methodLink "JournalHouse$Journal" (65 : Nat) ({ cls := "JournalHouse$Journal", name := "room", desc := "()I" } : Jvm.MethodName)) ∈ jall := jall_t 382 (by decide +kernel) (by decide +kernel)
theorem k_384 : (Jvm.Cond.instanceMethod ({ cls := "JournalHouse$Journal", name := "room", desc := "()I" } : Jvm.MethodName)) ∈ jall := jall_t 384 (by decide +kernel) (by decide +kernel)
set_option maxRecDepth 100000 in
theorem k_385 : (Jvm.Cond.code ({ cls := "JournalHouse$Journal", name := "room", desc := "()I" } : Jvm.MethodName) prog_3_method_12_code (1 : Nat) (Option.some Jvm.ClassFile.FieldType.int)) ∈ jall := jall_t 385 rfl rfl
theorem k_386 : (Jvm.Cond.methodLink "JournalHouse$Journal" (74 : Nat) ({ cls := "java/lang/Math", name := "min", desc := "(II)I" } : Jvm.MethodName)) ∈ jall := jall_t 386 (by decide +kernel) (by decide +kernel)
theorem k_387 : (Jvm.Cond.static ({ cls := "java/lang/Math", name := "min", desc := "(II)I" } : Jvm.MethodName)) ∈ jall := jall_t 387 (by decide +kernel) (by decide +kernel)
set_option maxRecDepth 100000 in
theorem k_388 : (Jvm.Cond.code ({ cls := "java/lang/Math", name := "min", desc := "(II)I" } : Jvm.MethodName) prog_12_method_69_code (2 : Nat) (Option.some Jvm.ClassFile.FieldType.int)) ∈ jall := jall_t 388 rfl rfl
theorem k_389 : (Jvm.Cond.methodLink "JournalHouse$Journal" (68 : Nat) ({ cls := "JournalHouse$Journal", name := "reserve", desc := "()I" } : Jvm.MethodName)) ∈ jall := jall_t 389 (by decide +kernel) (by decide +kernel)
theorem k_391 : (Jvm.Cond.instanceMethod ({ cls := "JournalHouse$Journal", name := "reserve", desc := "()I" } : Jvm.MethodName)) ∈ jall := jall_t 391 (by decide +kernel) (by decide +kernel)
set_option maxRecDepth 100000 in
theorem k_392 : (Jvm.Cond.code ({ cls := "JournalHouse$Journal", name := "reserve", desc := "()I" } : Jvm.MethodName) prog_3_method_13_code (3 : Nat) (Option.some Jvm.ClassFile.FieldType.int)) ∈ jall := jall_t 392 rfl rfl
theorem k_393 : (Jvm.Cond.methodLink "JournalHouse" (89 : Nat) ({ cls := "JournalHouse", name := "writeChange", desc := "(III)V" } : Jvm.MethodName)) ∈ jall := jall_t 393 (by decide +kernel) (by decide +kernel)
theorem k_395 : (Jvm.Cond.instanceMethod ({ cls := "JournalHouse", name := "writeChange", desc := "(III)V" } : Jvm.MethodName)) ∈ jall := jall_t 395 (by decide +kernel) (by decide +kernel)
set_option maxRecDepth 100000 in
theorem k_396 : (Jvm.Cond.code ({ cls := "JournalHouse", name := "writeChange", desc := "(III)V" } : Jvm.MethodName) prog_1_method_30_code (4 : Nat) (Option.none : Option Jvm.ClassFile.FieldType)) ∈ jall := jall_t 396 rfl rfl
theorem k_397 : (Jvm.Cond.methodLink "JournalHouse" (252 : Nat) ({ cls := "JournalHouse$Journal", name := "addChange", desc := "(IIII)V" } : Jvm.MethodName)) ∈ jall := jall_t 397 (by decide +kernel) (by decide +kernel)
theorem k_398 : (Jvm.Cond.instanceMethod ({ cls := "JournalHouse$Journal", name := "addChange", desc := "(IIII)V" } : Jvm.MethodName)) ∈ jall := jall_t 398 (by decide +kernel) (by decide +kernel)
theorem k_399 : (Jvm.Cond.selects "JournalHouse$Journal" ({ cls := "JournalHouse$Journal", name := "addChange", desc := "(IIII)V" } : Jvm.MethodName) ({ cls := "JournalHouse$Journal", name := "addChange", desc := "(IIII)V" } : Jvm.MethodName)) ∈ jall := jall_t 399 (by decide +kernel) (by decide +kernel)
theorem k_4 : (Jvm.Cond.initialized "JournalHouse$Copies") ∈ jall := jall_t 4 (by decide +kernel) (by decide +kernel)
theorem k_40 : (Jvm.Cond.fieldLink "JournalHouse" (171 : Nat) "JournalHouse$Journal" "befores" "[I") ∈ jall := jall_t 40 (by decide +kernel) (by decide +kernel)
set_option maxRecDepth 100000 in
theorem k_400 : (Jvm.Cond.code ({ cls := "JournalHouse$Journal", name := "addChange", desc := "(IIII)V" } : Jvm.MethodName) prog_3_method_2_code (5 : Nat) (Option.none : Option Jvm.ClassFile.FieldType)) ∈ jall := jall_t 400 rfl rfl
theorem k_402 : (Jvm.Cond.methodLink "JournalHouse$Journal" (47 : Nat) ({ cls := "JournalHouse$Journal", name := "noteOpenFiles", desc := "()V" } : Jvm.MethodName)) ∈ jall := jall_t 402 (by decide +kernel) (by decide +kernel)
theorem k_404 : (Jvm.Cond.instanceMethod ({ cls := "JournalHouse$Journal", name := "noteOpenFiles", desc := "()V" } : Jvm.MethodName)) ∈ jall := jall_t 404 (by decide +kernel) (by decide +kernel)
set_option maxRecDepth 100000 in
theorem k_405 : (Jvm.Cond.code ({ cls := "JournalHouse$Journal", name := "noteOpenFiles", desc := "()V" } : Jvm.MethodName) prog_3_method_4_code (3 : Nat) (Option.none : Option Jvm.ClassFile.FieldType)) ∈ jall := jall_t 405 rfl rfl
theorem k_406 : (Jvm.Cond.methodLink "JournalHouse" (256 : Nat) ({ cls := "JournalHouse$Store", name := "write", desc := "(II)V" } : Jvm.MethodName)) ∈ jall := jall_t 406 (by decide +kernel) (by decide +kernel)
theorem k_407 : (Jvm.Cond.instanceMethod ({ cls := "JournalHouse$Store", name := "write", desc := "(II)V" } : Jvm.MethodName)) ∈ jall := jall_t 407 (by decide +kernel) (by decide +kernel)
theorem k_408 : (Jvm.Cond.selects "JournalHouse$Store" ({ cls := "JournalHouse$Store", name := "write", desc := "(II)V" } : Jvm.MethodName) ({ cls := "JournalHouse$Store", name := "write", desc := "(II)V" } : Jvm.MethodName)) ∈ jall := jall_t 408 (by decide +kernel) (by decide +kernel)
set_option maxRecDepth 100000 in
theorem k_409 : (Jvm.Cond.code ({ cls := "JournalHouse$Store", name := "write", desc := "(II)V" } : Jvm.MethodName) prog_6_method_2_code (3 : Nat) (Option.none : Option Jvm.ClassFile.FieldType)) ∈ jall := jall_t 409 rfl rfl
theorem k_41 : (Jvm.Cond.fieldLink "JournalHouse$Journal" (24 : Nat) "JournalHouse$Journal" "afters" "[I") ∈ jall := jall_t 41 (by decide +kernel) (by decide +kernel)
theorem k_410 : (Jvm.Cond.methodLink "JournalHouse$Store" (28 : Nat) ({ cls := "JournalHouse$Store", name := "landOldest", desc := "(I)V" } : Jvm.MethodName)) ∈ jall := jall_t 410 (by decide +kernel) (by decide +kernel)
theorem k_411 : (Jvm.Cond.instanceMethod ({ cls := "JournalHouse$Store", name := "landOldest", desc := "(I)V" } : Jvm.MethodName)) ∈ jall := jall_t 411 (by decide +kernel) (by decide +kernel)
theorem k_412 : (Jvm.Cond.selects "JournalHouse$Store" ({ cls := "JournalHouse$Store", name := "landOldest", desc := "(I)V" } : Jvm.MethodName) ({ cls := "JournalHouse$Store", name := "landOldest", desc := "(I)V" } : Jvm.MethodName)) ∈ jall := jall_t 412 (by decide +kernel) (by decide +kernel)
set_option maxRecDepth 100000 in
theorem k_413 : (Jvm.Cond.code ({ cls := "JournalHouse$Store", name := "landOldest", desc := "(I)V" } : Jvm.MethodName) prog_6_method_3_code (3 : Nat) (Option.none : Option Jvm.ClassFile.FieldType)) ∈ jall := jall_t 413 rfl rfl
theorem k_414 : (Jvm.Cond.methodLink "JournalHouse$Store" (32 : Nat) ({ cls := "java/lang/System", name := "arraycopy", desc := "(Ljava/lang/Object;ILjava/lang/Object;II)V" } : Jvm.MethodName)) ∈ jall := jall_t 414 (by decide +kernel) (by decide +kernel)
theorem k_415 : (Jvm.Cond.static ({ cls := "java/lang/System", name := "arraycopy", desc := "(Ljava/lang/Object;ILjava/lang/Object;II)V" } : Jvm.MethodName)) ∈ jall := jall_t 415 (by decide +kernel) (by decide +kernel)
theorem k_416 : (Jvm.Cond.native ({ cls := "java/lang/System", name := "arraycopy", desc := "(Ljava/lang/Object;ILjava/lang/Object;II)V" } : Jvm.MethodName)) ∈ jall := jall_t 416 (by decide +kernel) (by decide +kernel)
theorem k_42 : (Jvm.Cond.fieldLink "JournalHouse$RemoteHouse" (35 : Nat) "JournalHouse$Journal" "afters" "[I") ∈ jall := jall_t 42 (by decide +kernel) (by decide +kernel)
theorem k_424 : (Jvm.Cond.methodLink "JournalHouse" (104 : Nat) ({ cls := "JournalHouse$Journal", name := "isCycleOpen", desc := "(I)Z" } : Jvm.MethodName)) ∈ jall := jall_t 424 (by decide +kernel) (by decide +kernel)
theorem k_425 : (Jvm.Cond.methodLink "JournalHouse" (107 : Nat) ({ cls := "JournalHouse$Journal", name := "addEnd", desc := "(II)V" } : Jvm.MethodName)) ∈ jall := jall_t 425 (by decide +kernel) (by decide +kernel)
theorem k_426 : (Jvm.Cond.instanceMethod ({ cls := "JournalHouse$Journal", name := "addEnd", desc := "(II)V" } : Jvm.MethodName)) ∈ jall := jall_t 426 (by decide +kernel) (by decide +kernel)
theorem k_427 : (Jvm.Cond.selects "JournalHouse$Journal" ({ cls := "JournalHouse$Journal", name := "addEnd", desc := "(II)V" } : Jvm.MethodName) ({ cls := "JournalHouse$Journal", name := "addEnd", desc := "(II)V" } : Jvm.MethodName)) ∈ jall := jall_t 427 (by decide +kernel) (by decide +kernel)
set_option maxRecDepth 100000 in
theorem k_428 : (Jvm.Cond.code ({ cls := "JournalHouse$Journal", name := "addEnd", desc := "(II)V" } : Jvm.MethodName) prog_3_method_3_code (3 : Nat) (Option.none : Option Jvm.ClassFile.FieldType)) ∈ jall := jall_t 428 rfl rfl
theorem k_429 : (Jvm.Cond.methodLink "JournalHouse" (111 : Nat) ({ cls := "JournalHouse", name := "rollBack", desc := "(I)V" } : Jvm.MethodName)) ∈ jall := jall_t 429 (by decide +kernel) (by decide +kernel)
theorem k_43 : (Jvm.Cond.fieldLink "JournalHouse" (162 : Nat) "JournalHouse$Journal" "afters" "[I") ∈ jall := jall_t 43 (by decide +kernel) (by decide +kernel)
theorem k_431 : (Jvm.Cond.instanceMethod ({ cls := "JournalHouse", name := "rollBack", desc := "(I)V" } : Jvm.MethodName)) ∈ jall := jall_t 431 (by decide +kernel) (by decide +kernel)
set_option maxRecDepth 100000 in
theorem k_432 : (Jvm.Cond.code ({ cls := "JournalHouse", name := "rollBack", desc := "(I)V" } : Jvm.MethodName) prog_1_method_31_code (4 : Nat) (Option.none : Option Jvm.ClassFile.FieldType)) ∈ jall := jall_t 432 rfl rfl
theorem k_44 : (Jvm.Cond.fieldLink "JournalHouse$Journal" (27 : Nat) "JournalHouse$Journal" "openFiles" "[I") ∈ jall := jall_t 44 (by decide +kernel) (by decide +kernel)
theorem k_440 : (Jvm.Cond.methodLink "JournalHouse" (118 : Nat) ({ cls := "JournalHouse", name := "isSlot", desc := "(I)Z" } : Jvm.MethodName)) ∈ jall := jall_t 440 (by decide +kernel) (by decide +kernel)
theorem k_442 : (Jvm.Cond.instanceMethod ({ cls := "JournalHouse", name := "isSlot", desc := "(I)Z" } : Jvm.MethodName)) ∈ jall := jall_t 442 (by decide +kernel) (by decide +kernel)
set_option maxRecDepth 100000 in
theorem k_443 : (Jvm.Cond.code ({ cls := "JournalHouse", name := "isSlot", desc := "(I)Z" } : Jvm.MethodName) prog_1_method_25_code (2 : Nat) (Option.some Jvm.ClassFile.FieldType.boolean)) ∈ jall := jall_t 443 rfl rfl
theorem k_444 : (Jvm.Cond.methodLink "JournalHouse" (121 : Nat) ({ cls := "JournalHouse$Journal", name := "isCycleOn", desc := "(I)Z" } : Jvm.MethodName)) ∈ jall := jall_t 444 (by decide +kernel) (by decide +kernel)
theorem k_445 : (Jvm.Cond.instanceMethod ({ cls := "JournalHouse$Journal", name := "isCycleOn", desc := "(I)Z" } : Jvm.MethodName)) ∈ jall := jall_t 445 (by decide +kernel) (by decide +kernel)
theorem k_446 : (Jvm.Cond.selects "JournalHouse$Journal" ({ cls := "JournalHouse$Journal", name := "isCycleOn", desc := "(I)Z" } : Jvm.MethodName) ({ cls := "JournalHouse$Journal", name := "isCycleOn", desc := "(I)Z" } : Jvm.MethodName)) ∈ jall := jall_t 446 (by decide +kernel) (by decide +kernel)
set_option maxRecDepth 100000 in
theorem k_447 : (Jvm.Cond.code ({ cls := "JournalHouse$Journal", name := "isCycleOn", desc := "(I)Z" } : Jvm.MethodName) prog_3_method_6_code (2 : Nat) (Option.some Jvm.ClassFile.FieldType.boolean)) ∈ jall := jall_t 447 rfl rfl
theorem k_448 : (Jvm.Cond.methodLink "JournalHouse$Journal" (50 : Nat) ({ cls := "JournalHouse$Journal", name := "isBoundary", desc := "(II)Z" } : Jvm.MethodName)) ∈ jall := jall_t 448 (by decide +kernel) (by decide +kernel)
theorem k_449 : (Jvm.Cond.methodLink "JournalHouse" (124 : Nat) ({ cls := "JournalHouse$Copies", name := "keep", desc := "(III[I)V" } : Jvm.MethodName)) ∈ jall := jall_t 449 (by decide +kernel) (by decide +kernel)
theorem k_45 : (Jvm.Cond.fieldLink "JournalHouse$Journal" (30 : Nat) "JournalHouse$Journal" "began" "[I") ∈ jall := jall_t 45 (by decide +kernel) (by decide +kernel)
theorem k_450 : (Jvm.Cond.instanceMethod ({ cls := "JournalHouse$Copies", name := "keep", desc := "(III[I)V" } : Jvm.MethodName)) ∈ jall := jall_t 450 (by decide +kernel) (by decide +kernel)
theorem k_451 : (Jvm.Cond.selects "JournalHouse$Copies" ({ cls := "JournalHouse$Copies", name := "keep", desc := "(III[I)V" } : Jvm.MethodName) ({ cls := "JournalHouse$Copies", name := "keep", desc := "(III[I)V" } : Jvm.MethodName)) ∈ jall := jall_t 451 (by decide +kernel) (by decide +kernel)
set_option maxRecDepth 100000 in
theorem k_452 : (Jvm.Cond.code ({ cls := "JournalHouse$Copies", name := "keep", desc := "(III[I)V" } : Jvm.MethodName) prog_2_method_2_code (5 : Nat) (Option.none : Option Jvm.ClassFile.FieldType)) ∈ jall := jall_t 452 rfl rfl
theorem k_454 : (Jvm.Cond.methodLink "JournalHouse$Copies" (29 : Nat) ({ cls := "java/lang/System", name := "arraycopy", desc := "(Ljava/lang/Object;ILjava/lang/Object;II)V" } : Jvm.MethodName)) ∈ jall := jall_t 454 (by decide +kernel) (by decide +kernel)
theorem k_46 : (Jvm.Cond.fieldLink "JournalHouse" (259 : Nat) "JournalHouse$Journal" "began" "[I") ∈ jall := jall_t 46 (by decide +kernel) (by decide +kernel)
theorem k_462 : (Jvm.Cond.methodLink "JournalHouse" (136 : Nat) ({ cls := "java/lang/System", name := "arraycopy", desc := "(Ljava/lang/Object;ILjava/lang/Object;II)V" } : Jvm.MethodName)) ∈ jall := jall_t 462 (by decide +kernel) (by decide +kernel)
theorem k_463 : (Jvm.Cond.methodLink "JournalHouse" (143 : Nat) ({ cls := "JournalHouse", name := "bringToWanted", desc := "(II)I" } : Jvm.MethodName)) ∈ jall := jall_t 463 (by decide +kernel) (by decide +kernel)
theorem k_465 : (Jvm.Cond.instanceMethod ({ cls := "JournalHouse", name := "bringToWanted", desc := "(II)I" } : Jvm.MethodName)) ∈ jall := jall_t 465 (by decide +kernel) (by decide +kernel)
set_option maxRecDepth 100000 in
theorem k_466 : (Jvm.Cond.code ({ cls := "JournalHouse", name := "bringToWanted", desc := "(II)I" } : Jvm.MethodName) prog_1_method_36_code (6 : Nat) (Option.some Jvm.ClassFile.FieldType.int)) ∈ jall := jall_t 466 rfl rfl
theorem k_467 : (Jvm.Cond.methodLink "JournalHouse" (266 : Nat) ({ cls := "JournalHouse", name := "countUnwanted", desc := "(I)I" } : Jvm.MethodName)) ∈ jall := jall_t 467 (by decide +kernel) (by decide +kernel)
theorem k_469 : (Jvm.Cond.instanceMethod ({ cls := "JournalHouse", name := "countUnwanted", desc := "(I)I" } : Jvm.MethodName)) ∈ jall := jall_t 469 (by decide +kernel) (by decide +kernel)
theorem k_47 : (Jvm.Cond.fieldLink "JournalHouse$Journal" (33 : Nat) "JournalHouse$Journal" "changeCounts" "[I") ∈ jall := jall_t 47 (by decide +kernel) (by decide +kernel)
set_option maxRecDepth 100000 in
theorem k_470 : (Jvm.Cond.code ({ cls := "JournalHouse", name := "countUnwanted", desc := "(I)I" } : Jvm.MethodName) prog_1_method_37_code (4 : Nat) (Option.some Jvm.ClassFile.FieldType.int)) ∈ jall := jall_t 470 rfl rfl
theorem k_471 : (Jvm.Cond.methodLink "JournalHouse" (269 : Nat) ({ cls := "JournalHouse$Journal", name := "refusesOwnChanges", desc := "(I)Z" } : Jvm.MethodName)) ∈ jall := jall_t 471 (by decide +kernel) (by decide +kernel)
theorem k_472 : (Jvm.Cond.instanceMethod ({ cls := "JournalHouse$Journal", name := "refusesOwnChanges", desc := "(I)Z" } : Jvm.MethodName)) ∈ jall := jall_t 472 (by decide +kernel) (by decide +kernel)
theorem k_473 : (Jvm.Cond.selects "JournalHouse$Journal" ({ cls := "JournalHouse$Journal", name := "refusesOwnChanges", desc := "(I)Z" } : Jvm.MethodName) ({ cls := "JournalHouse$Journal", name := "refusesOwnChanges", desc := "(I)Z" } : Jvm.MethodName)) ∈ jall := jall_t 473 (by decide +kernel) (by decide +kernel)
set_option maxRecDepth 100000 in
theorem k_474 : (Jvm.Cond.code ({ cls := "JournalHouse$Journal", name := "refusesOwnChanges", desc := "(I)Z" } : Jvm.MethodName) prog_3_method_11_code (2 : Nat) (Option.some Jvm.ClassFile.FieldType.boolean)) ∈ jall := jall_t 474 rfl rfl
theorem k_48 : (Jvm.Cond.fieldLink "JournalHouse$Journal" (36 : Nat) "JournalHouse$Journal" "cycleFiles" "[I") ∈ jall := jall_t 48 (by decide +kernel) (by decide +kernel)
theorem k_482 : (Jvm.Cond.methodLink "JournalHouse" (146 : Nat) ({ cls := "JournalHouse", name := "canApply", desc := "(II)Z" } : Jvm.MethodName)) ∈ jall := jall_t 482 (by decide +kernel) (by decide +kernel)
theorem k_484 : (Jvm.Cond.instanceMethod ({ cls := "JournalHouse", name := "canApply", desc := "(II)Z" } : Jvm.MethodName)) ∈ jall := jall_t 484 (by decide +kernel) (by decide +kernel)
set_option maxRecDepth 100000 in
theorem k_485 : (Jvm.Cond.code ({ cls := "JournalHouse", name := "canApply", desc := "(II)Z" } : Jvm.MethodName) prog_1_method_32_code (4 : Nat) (Option.some Jvm.ClassFile.FieldType.boolean)) ∈ jall := jall_t 485 rfl rfl
theorem k_486 : (Jvm.Cond.methodLink "JournalHouse" (262 : Nat) ({ cls := "JournalHouse$Journal", name := "keepsChangesOf", desc := "(III)Z" } : Jvm.MethodName)) ∈ jall := jall_t 486 (by decide +kernel) (by decide +kernel)
theorem k_487 : (Jvm.Cond.instanceMethod ({ cls := "JournalHouse$Journal", name := "keepsChangesOf", desc := "(III)Z" } : Jvm.MethodName)) ∈ jall := jall_t 487 (by decide +kernel) (by decide +kernel)
theorem k_488 : (Jvm.Cond.selects "JournalHouse$Journal" ({ cls := "JournalHouse$Journal", name := "keepsChangesOf", desc := "(III)Z" } : Jvm.MethodName) ({ cls := "JournalHouse$Journal", name := "keepsChangesOf", desc := "(III)Z" } : Jvm.MethodName)) ∈ jall := jall_t 488 (by decide +kernel) (by decide +kernel)
set_option maxRecDepth 100000 in
theorem k_489 : (Jvm.Cond.code ({ cls := "JournalHouse$Journal", name := "keepsChangesOf", desc := "(III)Z" } : Jvm.MethodName) prog_3_method_19_code (5 : Nat) (Option.some Jvm.ClassFile.FieldType.boolean)) ∈ jall := jall_t 489 rfl rfl
theorem k_49 : (Jvm.Cond.fieldLink "JournalHouse$Journal" (39 : Nat) "JournalHouse$Journal" "newest" "I") ∈ jall := jall_t 49 (by decide +kernel) (by decide +kernel)
theorem k_490 : (Jvm.Cond.methodLink "JournalHouse$Journal" (83 : Nat) ({ cls := "JournalHouse$Journal", name := "isChangeOf", desc := "(II)Z" } : Jvm.MethodName)) ∈ jall := jall_t 490 (by decide +kernel) (by decide +kernel)
theorem k_491 : (Jvm.Cond.instanceMethod ({ cls := "JournalHouse$Journal", name := "isChangeOf", desc := "(II)Z" } : Jvm.MethodName)) ∈ jall := jall_t 491 (by decide +kernel) (by decide +kernel)
theorem k_492 : (Jvm.Cond.selects "JournalHouse$Journal" ({ cls := "JournalHouse$Journal", name := "isChangeOf", desc := "(II)Z" } : Jvm.MethodName) ({ cls := "JournalHouse$Journal", name := "isChangeOf", desc := "(II)Z" } : Jvm.MethodName)) ∈ jall := jall_t 492 (by decide +kernel) (by decide +kernel)
set_option maxRecDepth 100000 in
theorem k_493 : (Jvm.Cond.code ({ cls := "JournalHouse$Journal", name := "isChangeOf", desc := "(II)Z" } : Jvm.MethodName) prog_3_method_18_code (3 : Nat) (Option.some Jvm.ClassFile.FieldType.boolean)) ∈ jall := jall_t 493 rfl rfl
theorem k_494 : (Jvm.Cond.methodLink "JournalHouse$Journal" (86 : Nat) ({ cls := "JournalHouse$Journal", name := "isKept", desc := "(I)Z" } : Jvm.MethodName)) ∈ jall := jall_t 494 (by decide +kernel) (by decide +kernel)
theorem k_495 : (Jvm.Cond.methodLink "JournalHouse" (149 : Nat) ({ cls := "JournalHouse", name := "wantWhatIs", desc := "(I)V" } : Jvm.MethodName)) ∈ jall := jall_t 495 (by decide +kernel) (by decide +kernel)
theorem k_497 : (Jvm.Cond.instanceMethod ({ cls := "JournalHouse", name := "wantWhatIs", desc := "(I)V" } : Jvm.MethodName)) ∈ jall := jall_t 497 (by decide +kernel) (by decide +kernel)
set_option maxRecDepth 100000 in
theorem k_498 : (Jvm.Cond.code ({ cls := "JournalHouse", name := "wantWhatIs", desc := "(I)V" } : Jvm.MethodName) prog_1_method_35_code (2 : Nat) (Option.none : Option Jvm.ClassFile.FieldType)) ∈ jall := jall_t 498 rfl rfl
theorem k_499 : (Jvm.Cond.methodLink "JournalHouse" (152 : Nat) ({ cls := "JournalHouse$Journal", name := "isChangeOf", desc := "(II)Z" } : Jvm.MethodName)) ∈ jall := jall_t 499 (by decide +kernel) (by decide +kernel)
theorem k_5 : (Jvm.Cond.initialized "JournalHouse$Letters") ∈ jall := jall_t 5 (by decide +kernel) (by decide +kernel)
theorem k_50 : (Jvm.Cond.fieldLink "JournalHouse" (93 : Nat) "JournalHouse$Journal" "newest" "I") ∈ jall := jall_t 50 (by decide +kernel) (by decide +kernel)
theorem k_507 : (Jvm.Cond.methodLink "JournalHouse" (165 : Nat) ({ cls := "JournalHouse", name := "canRemove", desc := "(II)Z" } : Jvm.MethodName)) ∈ jall := jall_t 507 (by decide +kernel) (by decide +kernel)
theorem k_509 : (Jvm.Cond.instanceMethod ({ cls := "JournalHouse", name := "canRemove", desc := "(II)Z" } : Jvm.MethodName)) ∈ jall := jall_t 509 (by decide +kernel) (by decide +kernel)
theorem k_51 : (Jvm.Cond.fieldLink "JournalHouse$Journal" (71 : Nat) "JournalHouse$Journal" "dropped" "I") ∈ jall := jall_t 51 (by decide +kernel) (by decide +kernel)
set_option maxRecDepth 100000 in
theorem k_510 : (Jvm.Cond.code ({ cls := "JournalHouse", name := "canRemove", desc := "(II)Z" } : Jvm.MethodName) prog_1_method_33_code (4 : Nat) (Option.some Jvm.ClassFile.FieldType.boolean)) ∈ jall := jall_t 510 rfl rfl
theorem k_511 : (Jvm.Cond.methodLink "JournalHouse" (168 : Nat) ({ cls := "JournalHouse", name := "numberToRemoveFrom", desc := "(I)I" } : Jvm.MethodName)) ∈ jall := jall_t 511 (by decide +kernel) (by decide +kernel)
theorem k_513 : (Jvm.Cond.instanceMethod ({ cls := "JournalHouse", name := "numberToRemoveFrom", desc := "(I)I" } : Jvm.MethodName)) ∈ jall := jall_t 513 (by decide +kernel) (by decide +kernel)
set_option maxRecDepth 100000 in
theorem k_514 : (Jvm.Cond.code ({ cls := "JournalHouse", name := "numberToRemoveFrom", desc := "(I)I" } : Jvm.MethodName) prog_1_method_34_code (2 : Nat) (Option.some Jvm.ClassFile.FieldType.int)) ∈ jall := jall_t 514 rfl rfl
theorem k_52 : (Jvm.Cond.fieldLink "JournalHouse" (207 : Nat) "JournalHouse$Journal" "dropped" "I") ∈ jall := jall_t 52 (by decide +kernel) (by decide +kernel)
theorem k_522 : (Jvm.Cond.methodLink "JournalHouse" (190 : Nat) ({ cls := "JournalHouse$Journal", name := "canDropOldest", desc := "()Z" } : Jvm.MethodName)) ∈ jall := jall_t 522 (by decide +kernel) (by decide +kernel)
theorem k_523 : (Jvm.Cond.instanceMethod ({ cls := "JournalHouse$Journal", name := "canDropOldest", desc := "()Z" } : Jvm.MethodName)) ∈ jall := jall_t 523 (by decide +kernel) (by decide +kernel)
theorem k_524 : (Jvm.Cond.selects "JournalHouse$Journal" ({ cls := "JournalHouse$Journal", name := "canDropOldest", desc := "()Z" } : Jvm.MethodName) ({ cls := "JournalHouse$Journal", name := "canDropOldest", desc := "()Z" } : Jvm.MethodName)) ∈ jall := jall_t 524 (by decide +kernel) (by decide +kernel)
set_option maxRecDepth 100000 in
theorem k_525 : (Jvm.Cond.code ({ cls := "JournalHouse$Journal", name := "canDropOldest", desc := "()Z" } : Jvm.MethodName) prog_3_method_17_code (2 : Nat) (Option.some Jvm.ClassFile.FieldType.boolean)) ∈ jall := jall_t 525 rfl rfl
theorem k_526 : (Jvm.Cond.methodLink "JournalHouse$Journal" (80 : Nat) ({ cls := "JournalHouse$Journal", name := "endOfOldest", desc := "()I" } : Jvm.MethodName)) ∈ jall := jall_t 526 (by decide +kernel) (by decide +kernel)
theorem k_527 : (Jvm.Cond.instanceMethod ({ cls := "JournalHouse$Journal", name := "endOfOldest", desc := "()I" } : Jvm.MethodName)) ∈ jall := jall_t 527 (by decide +kernel) (by decide +kernel)
theorem k_528 : (Jvm.Cond.selects "JournalHouse$Journal" ({ cls := "JournalHouse$Journal", name := "endOfOldest", desc := "()I" } : Jvm.MethodName) ({ cls := "JournalHouse$Journal", name := "endOfOldest", desc := "()I" } : Jvm.MethodName)) ∈ jall := jall_t 528 (by decide +kernel) (by decide +kernel)
set_option maxRecDepth 100000 in
theorem k_529 : (Jvm.Cond.code ({ cls := "JournalHouse$Journal", name := "endOfOldest", desc := "()I" } : Jvm.MethodName) prog_3_method_15_code (1 : Nat) (Option.some Jvm.ClassFile.FieldType.int)) ∈ jall := jall_t 529 rfl rfl
theorem k_530 : (Jvm.Cond.methodLink "JournalHouse" (197 : Nat) ({ cls := "JournalHouse$Journal", name := "endOfOldest", desc := "()I" } : Jvm.MethodName)) ∈ jall := jall_t 530 (by decide +kernel) (by decide +kernel)
theorem k_531 : (Jvm.Cond.methodLink "JournalHouse" (204 : Nat) ({ cls := "JournalHouse$Store", name := "landOldest", desc := "(I)V" } : Jvm.MethodName)) ∈ jall := jall_t 531 (by decide +kernel) (by decide +kernel)
theorem k_539 : (Jvm.Cond.methodLink "JournalHouse" (210 : Nat) ({ cls := "JournalHouse$Store", name := "loseWaiting", desc := "()I" } : Jvm.MethodName)) ∈ jall := jall_t 539 (by decide +kernel) (by decide +kernel)
theorem k_540 : (Jvm.Cond.instanceMethod ({ cls := "JournalHouse$Store", name := "loseWaiting", desc := "()I" } : Jvm.MethodName)) ∈ jall := jall_t 540 (by decide +kernel) (by decide +kernel)
theorem k_541 : (Jvm.Cond.selects "JournalHouse$Store" ({ cls := "JournalHouse$Store", name := "loseWaiting", desc := "()I" } : Jvm.MethodName) ({ cls := "JournalHouse$Store", name := "loseWaiting", desc := "()I" } : Jvm.MethodName)) ∈ jall := jall_t 541 (by decide +kernel) (by decide +kernel)
set_option maxRecDepth 100000 in
theorem k_542 : (Jvm.Cond.code ({ cls := "JournalHouse$Store", name := "loseWaiting", desc := "()I" } : Jvm.MethodName) prog_6_method_4_code (2 : Nat) (Option.some Jvm.ClassFile.FieldType.int)) ∈ jall := jall_t 542 rfl rfl
theorem k_550 : (Jvm.Cond.methodLink "JournalHouse" (213 : Nat) ({ cls := "JournalHouse$Store", name := "readDisk", desc := "()V" } : Jvm.MethodName)) ∈ jall := jall_t 550 (by decide +kernel) (by decide +kernel)
theorem k_551 : (Jvm.Cond.instanceMethod ({ cls := "JournalHouse$Store", name := "readDisk", desc := "()V" } : Jvm.MethodName)) ∈ jall := jall_t 551 (by decide +kernel) (by decide +kernel)
theorem k_552 : (Jvm.Cond.selects "JournalHouse$Store" ({ cls := "JournalHouse$Store", name := "readDisk", desc := "()V" } : Jvm.MethodName) ({ cls := "JournalHouse$Store", name := "readDisk", desc := "()V" } : Jvm.MethodName)) ∈ jall := jall_t 552 (by decide +kernel) (by decide +kernel)
set_option maxRecDepth 100000 in
theorem k_553 : (Jvm.Cond.code ({ cls := "JournalHouse$Store", name := "readDisk", desc := "()V" } : Jvm.MethodName) prog_6_method_5_code (1 : Nat) (Option.none : Option Jvm.ClassFile.FieldType)) ∈ jall := jall_t 553 rfl rfl
theorem k_554 : (Jvm.Cond.methodLink "JournalHouse" (216 : Nat) ({ cls := "JournalHouse$Journal", name := "startOfOldest", desc := "()I" } : Jvm.MethodName)) ∈ jall := jall_t 554 (by decide +kernel) (by decide +kernel)
theorem k_555 : (Jvm.Cond.methodLink "JournalHouse" (219 : Nat) ({ cls := "JournalHouse$Store", name := "writeDisk", desc := "()V" } : Jvm.MethodName)) ∈ jall := jall_t 555 (by decide +kernel) (by decide +kernel)
theorem k_556 : (Jvm.Cond.instanceMethod ({ cls := "JournalHouse$Store", name := "writeDisk", desc := "()V" } : Jvm.MethodName)) ∈ jall := jall_t 556 (by decide +kernel) (by decide +kernel)
theorem k_557 : (Jvm.Cond.selects "JournalHouse$Store" ({ cls := "JournalHouse$Store", name := "writeDisk", desc := "()V" } : Jvm.MethodName) ({ cls := "JournalHouse$Store", name := "writeDisk", desc := "()V" } : Jvm.MethodName)) ∈ jall := jall_t 557 (by decide +kernel) (by decide +kernel)
set_option maxRecDepth 100000 in
theorem k_558 : (Jvm.Cond.code ({ cls := "JournalHouse$Store", name := "writeDisk", desc := "()V" } : Jvm.MethodName) prog_6_method_6_code (1 : Nat) (Option.none : Option Jvm.ClassFile.FieldType)) ∈ jall := jall_t 558 rfl rfl
theorem k_566 : (Jvm.Cond.methodLink "JournalHouse" (222 : Nat) ({ cls := "JournalHouse$Letters", name := "isLetter", desc := "(I)Z" } : Jvm.MethodName)) ∈ jall := jall_t 566 (by decide +kernel) (by decide +kernel)
theorem k_567 : (Jvm.Cond.instanceMethod ({ cls := "JournalHouse$Letters", name := "isLetter", desc := "(I)Z" } : Jvm.MethodName)) ∈ jall := jall_t 567 (by decide +kernel) (by decide +kernel)
theorem k_568 : (Jvm.Cond.selects "JournalHouse$Letters" ({ cls := "JournalHouse$Letters", name := "isLetter", desc := "(I)Z" } : Jvm.MethodName) ({ cls := "JournalHouse$Letters", name := "isLetter", desc := "(I)Z" } : Jvm.MethodName)) ∈ jall := jall_t 568 (by decide +kernel) (by decide +kernel)
set_option maxRecDepth 100000 in
theorem k_569 : (Jvm.Cond.code ({ cls := "JournalHouse$Letters", name := "isLetter", desc := "(I)Z" } : Jvm.MethodName) prog_4_method_2_code (2 : Nat) (Option.some Jvm.ClassFile.FieldType.boolean)) ∈ jall := jall_t 569 rfl rfl
theorem k_570 : (Jvm.Cond.methodLink "JournalHouse" (228 : Nat) ({ cls := "JournalHouse$Letters", name := "take", desc := "(I)I" } : Jvm.MethodName)) ∈ jall := jall_t 570 (by decide +kernel) (by decide +kernel)
theorem k_571 : (Jvm.Cond.instanceMethod ({ cls := "JournalHouse$Letters", name := "take", desc := "(I)I" } : Jvm.MethodName)) ∈ jall := jall_t 571 (by decide +kernel) (by decide +kernel)
theorem k_572 : (Jvm.Cond.selects "JournalHouse$Letters" ({ cls := "JournalHouse$Letters", name := "take", desc := "(I)I" } : Jvm.MethodName) ({ cls := "JournalHouse$Letters", name := "take", desc := "(I)I" } : Jvm.MethodName)) ∈ jall := jall_t 572 (by decide +kernel) (by decide +kernel)
set_option maxRecDepth 100000 in
theorem k_573 : (Jvm.Cond.code ({ cls := "JournalHouse$Letters", name := "take", desc := "(I)I" } : Jvm.MethodName) prog_4_method_4_code (3 : Nat) (Option.some Jvm.ClassFile.FieldType.int)) ∈ jall := jall_t 573 rfl rfl
theorem k_574 : (Jvm.Cond.methodLink "JournalHouse$Letters" (19 : Nat) ({ cls := "java/lang/System", name := "arraycopy", desc := "(Ljava/lang/Object;ILjava/lang/Object;II)V" } : Jvm.MethodName)) ∈ jall := jall_t 574 (by decide +kernel) (by decide +kernel)
theorem k_575 : (Jvm.Cond.methodLink "JournalHouse" (231 : Nat) ({ cls := "JournalHouse$RemoteHouse", name := "receive", desc := "(ILJournalHouse$Journal;)V" } : Jvm.MethodName)) ∈ jall := jall_t 575 (by decide +kernel) (by decide +kernel)
theorem k_576 : (Jvm.Cond.instanceMethod ({ cls := "JournalHouse$RemoteHouse", name := "receive", desc := "(ILJournalHouse$Journal;)V" } : Jvm.MethodName)) ∈ jall := jall_t 576 (by decide +kernel) (by decide +kernel)
theorem k_577 : (Jvm.Cond.selects "JournalHouse$RemoteHouse" ({ cls := "JournalHouse$RemoteHouse", name := "receive", desc := "(ILJournalHouse$Journal;)V" } : Jvm.MethodName) ({ cls := "JournalHouse$RemoteHouse", name := "receive", desc := "(ILJournalHouse$Journal;)V" } : Jvm.MethodName)) ∈ jall := jall_t 577 (by decide +kernel) (by decide +kernel)
set_option maxRecDepth 100000 in
theorem k_578 : (Jvm.Cond.code ({ cls := "JournalHouse$RemoteHouse", name := "receive", desc := "(ILJournalHouse$Journal;)V" } : Jvm.MethodName) prog_5_method_2_code (3 : Nat) (Option.none : Option Jvm.ClassFile.FieldType)) ∈ jall := jall_t 578 rfl rfl
theorem k_579 : (Jvm.Cond.methodLink "JournalHouse" (238 : Nat) ({ cls := "JournalHouse$Letters", name := "put", desc := "(I)V" } : Jvm.MethodName)) ∈ jall := jall_t 579 (by decide +kernel) (by decide +kernel)
theorem k_580 : (Jvm.Cond.instanceMethod ({ cls := "JournalHouse$Letters", name := "put", desc := "(I)V" } : Jvm.MethodName)) ∈ jall := jall_t 580 (by decide +kernel) (by decide +kernel)
theorem k_581 : (Jvm.Cond.selects "JournalHouse$Letters" ({ cls := "JournalHouse$Letters", name := "put", desc := "(I)V" } : Jvm.MethodName) ({ cls := "JournalHouse$Letters", name := "put", desc := "(I)V" } : Jvm.MethodName)) ∈ jall := jall_t 581 (by decide +kernel) (by decide +kernel)
set_option maxRecDepth 100000 in
theorem k_582 : (Jvm.Cond.code ({ cls := "JournalHouse$Letters", name := "put", desc := "(I)V" } : Jvm.MethodName) prog_4_method_3_code (2 : Nat) (Option.none : Option Jvm.ClassFile.FieldType)) ∈ jall := jall_t 582 rfl rfl
theorem k_596 : (Jvm.Cond.fieldLink "JournalHouseModel" (56 : Nat) "JournalHouseModel" "thrown" "I") ∈ jall := jall_t 596 (by decide +kernel) (by decide +kernel)
theorem k_597 : (Jvm.Cond.fieldLink "JournalHouseModel" (60 : Nat) "JournalHouseModel" "files" "I") ∈ jall := jall_t 597 (by decide +kernel) (by decide +kernel)
theorem k_598 : (Jvm.Cond.fieldLink "JournalHouseModel" (7 : Nat) "JournalHouseModel" "size" "[I") ∈ jall := jall_t 598 (by decide +kernel) (by decide +kernel)
theorem k_599 : (Jvm.Cond.fieldLink "JournalHouseModel" (13 : Nat) "JournalHouseModel" "shows" "[I") ∈ jall := jall_t 599 (by decide +kernel) (by decide +kernel)
theorem k_6 : (Jvm.Cond.initialized "JournalHouse$RemoteHouse") ∈ jall := jall_t 6 (by decide +kernel) (by decide +kernel)
theorem k_600 : (Jvm.Cond.fieldLink "JournalHouseModel" (16 : Nat) "JournalHouseModel" "limit" "[I") ∈ jall := jall_t 600 (by decide +kernel) (by decide +kernel)
theorem k_601 : (Jvm.Cond.fieldLink "JournalHouseModel" (74 : Nat) "JournalHouseModel" "last" "I") ∈ jall := jall_t 601 (by decide +kernel) (by decide +kernel)
theorem k_602 : (Jvm.Cond.fieldLink "JournalHouseModel" (71 : Nat) "JournalHouseModel" "dropped" "I") ∈ jall := jall_t 602 (by decide +kernel) (by decide +kernel)
theorem k_603 : (Jvm.Cond.fieldLink "JournalHouseModel" (142 : Nat) "JournalHouseModel" "known" "I") ∈ jall := jall_t 603 (by decide +kernel) (by decide +kernel)
theorem k_604 : (Jvm.Cond.fieldLink "JournalHouseModel" (103 : Nat) "JournalHouseModel" "down" "Z") ∈ jall := jall_t 604 (by decide +kernel) (by decide +kernel)
theorem k_605 : (Jvm.Cond.fieldLink "JournalHouseModel" (19 : Nat) "JournalHouseModel" "kind" "[I") ∈ jall := jall_t 605 (by decide +kernel) (by decide +kernel)
theorem k_606 : (Jvm.Cond.fieldLink "JournalHouseModel" (22 : Nat) "JournalHouseModel" "job" "[I") ∈ jall := jall_t 606 (by decide +kernel) (by decide +kernel)
theorem k_607 : (Jvm.Cond.fieldLink "JournalHouseModel" (25 : Nat) "JournalHouseModel" "file" "[I") ∈ jall := jall_t 607 (by decide +kernel) (by decide +kernel)
theorem k_608 : (Jvm.Cond.fieldLink "JournalHouseModel" (28 : Nat) "JournalHouseModel" "spot" "[I") ∈ jall := jall_t 608 (by decide +kernel) (by decide +kernel)
theorem k_609 : (Jvm.Cond.fieldLink "JournalHouseModel" (31 : Nat) "JournalHouseModel" "before" "[I") ∈ jall := jall_t 609 (by decide +kernel) (by decide +kernel)
theorem k_610 : (Jvm.Cond.fieldLink "JournalHouseModel" (34 : Nat) "JournalHouseModel" "after" "[I") ∈ jall := jall_t 610 (by decide +kernel) (by decide +kernel)
theorem k_611 : (Jvm.Cond.fieldLink "JournalHouseModel" (37 : Nat) "JournalHouseModel" "landed" "[I") ∈ jall := jall_t 611 (by decide +kernel) (by decide +kernel)
theorem k_612 : (Jvm.Cond.fieldLink "JournalHouseModel" (89 : Nat) "JournalHouseModel" "waits" "I") ∈ jall := jall_t 612 (by decide +kernel) (by decide +kernel)
theorem k_613 : (Jvm.Cond.fieldLink "JournalHouseModel" (40 : Nat) "JournalHouseModel" "waiting" "[I") ∈ jall := jall_t 613 (by decide +kernel) (by decide +kernel)
theorem k_614 : (Jvm.Cond.fieldLink "JournalHouseModel" (43 : Nat) "JournalHouseModel" "copyFile" "[I") ∈ jall := jall_t 614 (by decide +kernel) (by decide +kernel)
theorem k_615 : (Jvm.Cond.fieldLink "JournalHouseModel" (46 : Nat) "JournalHouseModel" "copyNumber" "[I") ∈ jall := jall_t 615 (by decide +kernel) (by decide +kernel)
theorem k_616 : (Jvm.Cond.fieldLink "JournalHouseModel" (145 : Nat) "JournalHouseModel" "letters" "I") ∈ jall := jall_t 616 (by decide +kernel) (by decide +kernel)
theorem k_617 : (Jvm.Cond.fieldLink "JournalHouseModel" (49 : Nat) "JournalHouseModel" "link" "[I") ∈ jall := jall_t 617 (by decide +kernel) (by decide +kernel)
theorem k_618 : (Jvm.Cond.fieldLink "JournalHouseModel" (52 : Nat) "JournalHouseModel" "came" "[Z") ∈ jall := jall_t 618 (by decide +kernel) (by decide +kernel)
theorem k_619 : (Jvm.Cond.fieldLink "JournalHouseModel" (151 : Nat) "JournalHouseModel" "applied" "I") ∈ jall := jall_t 619 (by decide +kernel) (by decide +kernel)
theorem k_620 : (Jvm.Cond.fieldLink "JournalHouseModel" (148 : Nat) "JournalHouseModel" "taken" "Z") ∈ jall := jall_t 620 (by decide +kernel) (by decide +kernel)
theorem k_680 : (Jvm.Cond.methodLink "JournalHouseModel" (63 : Nat) ({ cls := "JournalHouseModel", name := "within", desc := "(III)Z" } : Jvm.MethodName)) ∈ jall := jall_t 680 (by decide +kernel) (by decide +kernel)
theorem k_681 : (Jvm.Cond.static ({ cls := "JournalHouseModel", name := "within", desc := "(III)Z" } : Jvm.MethodName)) ∈ jall := jall_t 681 (by decide +kernel) (by decide +kernel)
set_option maxRecDepth 100000 in
theorem k_682 : (Jvm.Cond.code ({ cls := "JournalHouseModel", name := "within", desc := "(III)Z" } : Jvm.MethodName) prog_8_method_4_code (3 : Nat) (Option.some Jvm.ClassFile.FieldType.boolean)) ∈ jall := jall_t 682 rfl rfl
theorem k_687 : (Jvm.Cond.methodLink "JournalHouseModel" (107 : Nat) ({ cls := "JournalHouseModel", name := "isRecord", desc := "(II)Z" } : Jvm.MethodName)) ∈ jall := jall_t 687 (by decide +kernel) (by decide +kernel)
theorem k_689 : (Jvm.Cond.instanceMethod ({ cls := "JournalHouseModel", name := "isRecord", desc := "(II)Z" } : Jvm.MethodName)) ∈ jall := jall_t 689 (by decide +kernel) (by decide +kernel)
set_option maxRecDepth 100000 in
theorem k_690 : (Jvm.Cond.code ({ cls := "JournalHouseModel", name := "isRecord", desc := "(II)Z" } : Jvm.MethodName) prog_8_method_6_code (3 : Nat) (Option.some Jvm.ClassFile.FieldType.boolean)) ∈ jall := jall_t 690 rfl rfl
theorem k_691 : (Jvm.Cond.methodLink "JournalHouseModel" (67 : Nat) ({ cls := "JournalHouseModel", name := "isFile", desc := "(I)Z" } : Jvm.MethodName)) ∈ jall := jall_t 691 (by decide +kernel) (by decide +kernel)
theorem k_693 : (Jvm.Cond.instanceMethod ({ cls := "JournalHouseModel", name := "isFile", desc := "(I)Z" } : Jvm.MethodName)) ∈ jall := jall_t 693 (by decide +kernel) (by decide +kernel)
set_option maxRecDepth 100000 in
theorem k_694 : (Jvm.Cond.code ({ cls := "JournalHouseModel", name := "isFile", desc := "(I)Z" } : Jvm.MethodName) prog_8_method_5_code (2 : Nat) (Option.some Jvm.ClassFile.FieldType.boolean)) ∈ jall := jall_t 694 rfl rfl
theorem k_695 : (Jvm.Cond.methodLink "JournalHouseModel" (111 : Nat) ({ cls := "JournalHouseModel", name := "reserve", desc := "()I" } : Jvm.MethodName)) ∈ jall := jall_t 695 (by decide +kernel) (by decide +kernel)
theorem k_697 : (Jvm.Cond.instanceMethod ({ cls := "JournalHouseModel", name := "reserve", desc := "()I" } : Jvm.MethodName)) ∈ jall := jall_t 697 (by decide +kernel) (by decide +kernel)
set_option maxRecDepth 100000 in
theorem k_698 : (Jvm.Cond.code ({ cls := "JournalHouseModel", name := "reserve", desc := "()I" } : Jvm.MethodName) prog_8_method_12_code (4 : Nat) (Option.some Jvm.ClassFile.FieldType.int)) ∈ jall := jall_t 698 rfl rfl
theorem k_699 : (Jvm.Cond.methodLink "JournalHouseModel" (81 : Nat) ({ cls := "JournalHouseModel", name := "changesOf", desc := "(I)I" } : Jvm.MethodName)) ∈ jall := jall_t 699 (by decide +kernel) (by decide +kernel)
theorem k_7 : (Jvm.Cond.initialized "JournalHouseModel") ∈ jall := jall_t 7 (by decide +kernel) (by decide +kernel)
theorem k_701 : (Jvm.Cond.instanceMethod ({ cls := "JournalHouseModel", name := "changesOf", desc := "(I)I" } : Jvm.MethodName)) ∈ jall := jall_t 701 (by decide +kernel) (by decide +kernel)
set_option maxRecDepth 100000 in
theorem k_702 : (Jvm.Cond.code ({ cls := "JournalHouseModel", name := "changesOf", desc := "(I)I" } : Jvm.MethodName) prog_8_method_11_code (5 : Nat) (Option.some Jvm.ClassFile.FieldType.int)) ∈ jall := jall_t 702 rfl rfl
theorem k_703 : (Jvm.Cond.methodLink "JournalHouseModel" (77 : Nat) ({ cls := "JournalHouseModel", name := "cycleAt", desc := "(II)I" } : Jvm.MethodName)) ∈ jall := jall_t 703 (by decide +kernel) (by decide +kernel)
theorem k_705 : (Jvm.Cond.instanceMethod ({ cls := "JournalHouseModel", name := "cycleAt", desc := "(II)I" } : Jvm.MethodName)) ∈ jall := jall_t 705 (by decide +kernel) (by decide +kernel)
set_option maxRecDepth 100000 in
theorem k_706 : (Jvm.Cond.code ({ cls := "JournalHouseModel", name := "cycleAt", desc := "(II)I" } : Jvm.MethodName) prog_8_method_9_code (5 : Nat) (Option.some Jvm.ClassFile.FieldType.int)) ∈ jall := jall_t 706 rfl rfl
theorem k_707 : (Jvm.Cond.methodLink "JournalHouseModel" (115 : Nat) ({ cls := "JournalHouseModel", name := "isLocked", desc := "(III)Z" } : Jvm.MethodName)) ∈ jall := jall_t 707 (by decide +kernel) (by decide +kernel)
theorem k_709 : (Jvm.Cond.instanceMethod ({ cls := "JournalHouseModel", name := "isLocked", desc := "(III)Z" } : Jvm.MethodName)) ∈ jall := jall_t 709 (by decide +kernel) (by decide +kernel)
set_option maxRecDepth 100000 in
theorem k_710 : (Jvm.Cond.code ({ cls := "JournalHouseModel", name := "isLocked", desc := "(III)Z" } : Jvm.MethodName) prog_8_method_19_code (8 : Nat) (Option.some Jvm.ClassFile.FieldType.boolean)) ∈ jall := jall_t 710 rfl rfl
theorem k_711 : (Jvm.Cond.methodLink "JournalHouseModel" (118 : Nat) ({ cls := "JournalHouseModel", name := "room", desc := "()I" } : Jvm.MethodName)) ∈ jall := jall_t 711 (by decide +kernel) (by decide +kernel)
theorem k_713 : (Jvm.Cond.instanceMethod ({ cls := "JournalHouseModel", name := "room", desc := "()I" } : Jvm.MethodName)) ∈ jall := jall_t 713 (by decide +kernel) (by decide +kernel)
set_option maxRecDepth 100000 in
theorem k_714 : (Jvm.Cond.code ({ cls := "JournalHouseModel", name := "room", desc := "()I" } : Jvm.MethodName) prog_8_method_13_code (2 : Nat) (Option.some Jvm.ClassFile.FieldType.int)) ∈ jall := jall_t 714 rfl rfl
theorem k_715 : (Jvm.Cond.methodLink "JournalHouseModel" (121 : Nat) ({ cls := "JournalHouseModel", name := "refuse", desc := "(I)I" } : Jvm.MethodName)) ∈ jall := jall_t 715 (by decide +kernel) (by decide +kernel)
theorem k_717 : (Jvm.Cond.instanceMethod ({ cls := "JournalHouseModel", name := "refuse", desc := "(I)I" } : Jvm.MethodName)) ∈ jall := jall_t 717 (by decide +kernel) (by decide +kernel)
set_option maxRecDepth 100000 in
theorem k_718 : (Jvm.Cond.code ({ cls := "JournalHouseModel", name := "refuse", desc := "(I)I" } : Jvm.MethodName) prog_8_method_3_code (2 : Nat) (Option.some Jvm.ClassFile.FieldType.int)) ∈ jall := jall_t 718 rfl rfl
theorem k_719 : (Jvm.Cond.methodLink "JournalHouseModel" (99 : Nat) ({ cls := "JournalHouseModel", name := "put", desc := "(IIII)V" } : Jvm.MethodName)) ∈ jall := jall_t 719 (by decide +kernel) (by decide +kernel)
theorem k_721 : (Jvm.Cond.instanceMethod ({ cls := "JournalHouseModel", name := "put", desc := "(IIII)V" } : Jvm.MethodName)) ∈ jall := jall_t 721 (by decide +kernel) (by decide +kernel)
set_option maxRecDepth 100000 in
theorem k_722 : (Jvm.Cond.code ({ cls := "JournalHouseModel", name := "put", desc := "(IIII)V" } : Jvm.MethodName) prog_8_method_16_code (5 : Nat) (Option.none : Option Jvm.ClassFile.FieldType)) ∈ jall := jall_t 722 rfl rfl
theorem k_723 : (Jvm.Cond.methodLink "JournalHouseModel" (92 : Nat) ({ cls := "JournalHouseModel", name := "note", desc := "(IIIII)V" } : Jvm.MethodName)) ∈ jall := jall_t 723 (by decide +kernel) (by decide +kernel)
theorem k_725 : (Jvm.Cond.instanceMethod ({ cls := "JournalHouseModel", name := "note", desc := "(IIIII)V" } : Jvm.MethodName)) ∈ jall := jall_t 725 (by decide +kernel) (by decide +kernel)
set_option maxRecDepth 100000 in
theorem k_726 : (Jvm.Cond.code ({ cls := "JournalHouseModel", name := "note", desc := "(IIIII)V" } : Jvm.MethodName) prog_8_method_14_code (7 : Nat) (Option.none : Option Jvm.ClassFile.FieldType)) ∈ jall := jall_t 726 rfl rfl
theorem k_727 : (Jvm.Cond.methodLink "JournalHouseModel" (85 : Nat) ({ cls := "JournalHouseModel", name := "valueAt", desc := "(III)I" } : Jvm.MethodName)) ∈ jall := jall_t 727 (by decide +kernel) (by decide +kernel)
theorem k_729 : (Jvm.Cond.instanceMethod ({ cls := "JournalHouseModel", name := "valueAt", desc := "(III)I" } : Jvm.MethodName)) ∈ jall := jall_t 729 (by decide +kernel) (by decide +kernel)
set_option maxRecDepth 100000 in
theorem k_730 : (Jvm.Cond.code ({ cls := "JournalHouseModel", name := "valueAt", desc := "(III)I" } : Jvm.MethodName) prog_8_method_8_code (5 : Nat) (Option.some Jvm.ClassFile.FieldType.int)) ∈ jall := jall_t 730 rfl rfl
theorem k_731 : (Jvm.Cond.methodLink "JournalHouseModel" (96 : Nat) ({ cls := "JournalHouseModel", name := "landFirst", desc := "()V" } : Jvm.MethodName)) ∈ jall := jall_t 731 (by decide +kernel) (by decide +kernel)
theorem k_733 : (Jvm.Cond.instanceMethod ({ cls := "JournalHouseModel", name := "landFirst", desc := "()V" } : Jvm.MethodName)) ∈ jall := jall_t 733 (by decide +kernel) (by decide +kernel)
set_option maxRecDepth 100000 in
theorem k_734 : (Jvm.Cond.code ({ cls := "JournalHouseModel", name := "landFirst", desc := "()V" } : Jvm.MethodName) prog_8_method_15_code (3 : Nat) (Option.none : Option Jvm.ClassFile.FieldType)) ∈ jall := jall_t 734 rfl rfl
theorem k_739 : (Jvm.Cond.constantLong "JournalHouseModel" (124 : Nat) (1099511627776 : Int64)) ∈ jall := jall_t 739 (by decide +kernel) (by decide +kernel)
theorem k_748 : (Jvm.Cond.methodLink "JournalHouseModel" (126 : Nat) ({ cls := "JournalHouseModel", name := "undo", desc := "(I)V" } : Jvm.MethodName)) ∈ jall := jall_t 748 (by decide +kernel) (by decide +kernel)
theorem k_750 : (Jvm.Cond.instanceMethod ({ cls := "JournalHouseModel", name := "undo", desc := "(I)V" } : Jvm.MethodName)) ∈ jall := jall_t 750 (by decide +kernel) (by decide +kernel)
set_option maxRecDepth 100000 in
theorem k_751 : (Jvm.Cond.code ({ cls := "JournalHouseModel", name := "undo", desc := "(I)V" } : Jvm.MethodName) prog_8_method_17_code (4 : Nat) (Option.none : Option Jvm.ClassFile.FieldType)) ∈ jall := jall_t 751 rfl rfl
theorem k_756 : (Jvm.Cond.methodLink "JournalHouseModel" (130 : Nat) ({ cls := "JournalHouseModel", name := "isOn", desc := "(II)Z" } : Jvm.MethodName)) ∈ jall := jall_t 756 (by decide +kernel) (by decide +kernel)
theorem k_758 : (Jvm.Cond.instanceMethod ({ cls := "JournalHouseModel", name := "isOn", desc := "(II)Z" } : Jvm.MethodName)) ∈ jall := jall_t 758 (by decide +kernel) (by decide +kernel)
set_option maxRecDepth 100000 in
theorem k_759 : (Jvm.Cond.code ({ cls := "JournalHouseModel", name := "isOn", desc := "(II)Z" } : Jvm.MethodName) prog_8_method_10_code (7 : Nat) (Option.some Jvm.ClassFile.FieldType.boolean)) ∈ jall := jall_t 759 rfl rfl
theorem k_764 : (Jvm.Cond.methodLink "JournalHouseModel" (133 : Nat) ({ cls := "JournalHouseModel", name := "become", desc := "(III)I" } : Jvm.MethodName)) ∈ jall := jall_t 764 (by decide +kernel) (by decide +kernel)
theorem k_766 : (Jvm.Cond.instanceMethod ({ cls := "JournalHouseModel", name := "become", desc := "(III)I" } : Jvm.MethodName)) ∈ jall := jall_t 766 (by decide +kernel) (by decide +kernel)
set_option maxRecDepth 100000 in
theorem k_767 : (Jvm.Cond.code ({ cls := "JournalHouseModel", name := "become", desc := "(III)I" } : Jvm.MethodName) prog_8_method_25_code (8 : Nat) (Option.some Jvm.ClassFile.FieldType.int)) ∈ jall := jall_t 767 rfl rfl
theorem k_772 : (Jvm.Cond.methodLink "JournalHouseModel" (136 : Nat) ({ cls := "JournalHouseModel", name := "lacks", desc := "(III)Z" } : Jvm.MethodName)) ∈ jall := jall_t 772 (by decide +kernel) (by decide +kernel)
theorem k_774 : (Jvm.Cond.instanceMethod ({ cls := "JournalHouseModel", name := "lacks", desc := "(III)Z" } : Jvm.MethodName)) ∈ jall := jall_t 774 (by decide +kernel) (by decide +kernel)
set_option maxRecDepth 100000 in
theorem k_775 : (Jvm.Cond.code ({ cls := "JournalHouseModel", name := "lacks", desc := "(III)Z" } : Jvm.MethodName) prog_8_method_27_code (6 : Nat) (Option.some Jvm.ClassFile.FieldType.boolean)) ∈ jall := jall_t 775 rfl rfl
theorem k_796 : (Jvm.Cond.methodLink "JournalHouseModel" (139 : Nat) ({ cls := "JournalHouseModel", name := "isKept", desc := "(I)Z" } : Jvm.MethodName)) ∈ jall := jall_t 796 (by decide +kernel) (by decide +kernel)
theorem k_798 : (Jvm.Cond.instanceMethod ({ cls := "JournalHouseModel", name := "isKept", desc := "(I)Z" } : Jvm.MethodName)) ∈ jall := jall_t 798 (by decide +kernel) (by decide +kernel)
set_option maxRecDepth 100000 in
theorem k_799 : (Jvm.Cond.code ({ cls := "JournalHouseModel", name := "isKept", desc := "(I)Z" } : Jvm.MethodName) prog_8_method_7_code (2 : Nat) (Option.some Jvm.ClassFile.FieldType.boolean)) ∈ jall := jall_t 799 rfl rfl
theorem k_828 : (Jvm.Cond.methodLink "JournalHouseModel" (154 : Nat) ({ cls := "JournalHouseModel", name := "takenBack", desc := "(II)I" } : Jvm.MethodName)) ∈ jall := jall_t 828 (by decide +kernel) (by decide +kernel)
theorem k_83 : (Jvm.Cond.fieldLink "JournalHouse$Store" (9 : Nat) "JournalHouse$Store" "records" "[I") ∈ jall := jall_t 83 (by decide +kernel) (by decide +kernel)
theorem k_830 : (Jvm.Cond.instanceMethod ({ cls := "JournalHouseModel", name := "takenBack", desc := "(II)I" } : Jvm.MethodName)) ∈ jall := jall_t 830 (by decide +kernel) (by decide +kernel)
set_option maxRecDepth 100000 in
theorem k_831 : (Jvm.Cond.code ({ cls := "JournalHouseModel", name := "takenBack", desc := "(II)I" } : Jvm.MethodName) prog_8_method_40_code (8 : Nat) (Option.some Jvm.ClassFile.FieldType.int)) ∈ jall := jall_t 831 rfl rfl
theorem k_84 : (Jvm.Cond.fieldLink "JournalHouse" (96 : Nat) "JournalHouse$Store" "records" "[I") ∈ jall := jall_t 84 (by decide +kernel) (by decide +kernel)
theorem k_85 : (Jvm.Cond.fieldLink "JournalHouse$Store" (15 : Nat) "JournalHouse$Store" "onDisk" "[I") ∈ jall := jall_t 85 (by decide +kernel) (by decide +kernel)
theorem k_86 : (Jvm.Cond.fieldLink "JournalHouse" (101 : Nat) "JournalHouse$Store" "onDisk" "[I") ∈ jall := jall_t 86 (by decide +kernel) (by decide +kernel)
theorem k_87 : (Jvm.Cond.fieldLink "JournalHouse$Store" (18 : Nat) "JournalHouse$Store" "waitingCells" "[I") ∈ jall := jall_t 87 (by decide +kernel) (by decide +kernel)
theorem k_88 : (Jvm.Cond.fieldLink "JournalHouse$Store" (21 : Nat) "JournalHouse$Store" "waitingValues" "[I") ∈ jall := jall_t 88 (by decide +kernel) (by decide +kernel)
theorem k_89 : (Jvm.Cond.fieldLink "JournalHouse$Store" (24 : Nat) "JournalHouse$Store" "waitingCount" "I") ∈ jall := jall_t 89 (by decide +kernel) (by decide +kernel)
theorem k_90 : (Jvm.Cond.fieldLink "JournalHouse" (201 : Nat) "JournalHouse$Store" "waitingCount" "I") ∈ jall := jall_t 90 (by decide +kernel) (by decide +kernel)
theorem ks_0 : (Jvm.Cond.selects "JournalHouse" ({ cls := "JournalHouse", name := "isFile", desc := "(I)Z" } : Jvm.MethodName) ({ cls := "JournalHouse", name := "isFile", desc := "(I)Z" } : Jvm.MethodName)) ∈ jall := jall_s (by decide +kernel) (by decide +kernel)
theorem ks_1 : (Jvm.Cond.selects "JournalHouse$Journal" ({ cls := "JournalHouse$Journal", name := "isInOpenCycle", desc := "(I)Z" } : Jvm.MethodName) ({ cls := "JournalHouse$Journal", name := "isInOpenCycle", desc := "(I)Z" } : Jvm.MethodName)) ∈ jall := jall_s (by decide +kernel) (by decide +kernel)
theorem ks_10 : (Jvm.Cond.selects "JournalHouse" ({ cls := "JournalHouse", name := "countUnwanted", desc := "(I)I" } : Jvm.MethodName) ({ cls := "JournalHouse", name := "countUnwanted", desc := "(I)I" } : Jvm.MethodName)) ∈ jall := jall_s (by decide +kernel) (by decide +kernel)
theorem ks_11 : (Jvm.Cond.selects "JournalHouse" ({ cls := "JournalHouse", name := "bringToWanted", desc := "(II)I" } : Jvm.MethodName) ({ cls := "JournalHouse", name := "bringToWanted", desc := "(II)I" } : Jvm.MethodName)) ∈ jall := jall_s (by decide +kernel) (by decide +kernel)
theorem ks_12 : (Jvm.Cond.selects "JournalHouse" ({ cls := "JournalHouse", name := "canApply", desc := "(II)Z" } : Jvm.MethodName) ({ cls := "JournalHouse", name := "canApply", desc := "(II)Z" } : Jvm.MethodName)) ∈ jall := jall_s (by decide +kernel) (by decide +kernel)
theorem ks_13 : (Jvm.Cond.selects "JournalHouse" ({ cls := "JournalHouse", name := "wantWhatIs", desc := "(I)V" } : Jvm.MethodName) ({ cls := "JournalHouse", name := "wantWhatIs", desc := "(I)V" } : Jvm.MethodName)) ∈ jall := jall_s (by decide +kernel) (by decide +kernel)
theorem ks_14 : (Jvm.Cond.selects "JournalHouse" ({ cls := "JournalHouse", name := "numberToRemoveFrom", desc := "(I)I" } : Jvm.MethodName) ({ cls := "JournalHouse", name := "numberToRemoveFrom", desc := "(I)I" } : Jvm.MethodName)) ∈ jall := jall_s (by decide +kernel) (by decide +kernel)
theorem ks_15 : (Jvm.Cond.selects "JournalHouse" ({ cls := "JournalHouse", name := "canRemove", desc := "(II)Z" } : Jvm.MethodName) ({ cls := "JournalHouse", name := "canRemove", desc := "(II)Z" } : Jvm.MethodName)) ∈ jall := jall_s (by decide +kernel) (by decide +kernel)
theorem ks_16 : (Jvm.Cond.selects "JournalHouse" ({ cls := "JournalHouse", name := "partOfChange", desc := "(II)J" } : Jvm.MethodName) ({ cls := "JournalHouse", name := "partOfChange", desc := "(II)J" } : Jvm.MethodName)) ∈ jall := jall_s (by decide +kernel) (by decide +kernel)
theorem ks_17 : (Jvm.Cond.selects "JournalHouseModel" ({ cls := "JournalHouseModel", name := "isFile", desc := "(I)Z" } : Jvm.MethodName) ({ cls := "JournalHouseModel", name := "isFile", desc := "(I)Z" } : Jvm.MethodName)) ∈ jall := jall_s (by decide +kernel) (by decide +kernel)
theorem ks_18 : (Jvm.Cond.selects "JournalHouseModel" ({ cls := "JournalHouseModel", name := "cycleAt", desc := "(II)I" } : Jvm.MethodName) ({ cls := "JournalHouseModel", name := "cycleAt", desc := "(II)I" } : Jvm.MethodName)) ∈ jall := jall_s (by decide +kernel) (by decide +kernel)
theorem ks_19 : (Jvm.Cond.selects "JournalHouseModel" ({ cls := "JournalHouseModel", name := "changesOf", desc := "(I)I" } : Jvm.MethodName) ({ cls := "JournalHouseModel", name := "changesOf", desc := "(I)I" } : Jvm.MethodName)) ∈ jall := jall_s (by decide +kernel) (by decide +kernel)
theorem ks_2 : (Jvm.Cond.selects "JournalHouse$Journal" ({ cls := "JournalHouse$Journal", name := "room", desc := "()I" } : Jvm.MethodName) ({ cls := "JournalHouse$Journal", name := "room", desc := "()I" } : Jvm.MethodName)) ∈ jall := jall_s (by decide +kernel) (by decide +kernel)
theorem ks_20 : (Jvm.Cond.selects "JournalHouseModel" ({ cls := "JournalHouseModel", name := "valueAt", desc := "(III)I" } : Jvm.MethodName) ({ cls := "JournalHouseModel", name := "valueAt", desc := "(III)I" } : Jvm.MethodName)) ∈ jall := jall_s (by decide +kernel) (by decide +kernel)
theorem ks_21 : (Jvm.Cond.selects "JournalHouseModel" ({ cls := "JournalHouseModel", name := "note", desc := "(IIIII)V" } : Jvm.MethodName) ({ cls := "JournalHouseModel", name := "note", desc := "(IIIII)V" } : Jvm.MethodName)) ∈ jall := jall_s (by decide +kernel) (by decide +kernel)
theorem ks_22 : (Jvm.Cond.selects "JournalHouseModel" ({ cls := "JournalHouseModel", name := "landFirst", desc := "()V" } : Jvm.MethodName) ({ cls := "JournalHouseModel", name := "landFirst", desc := "()V" } : Jvm.MethodName)) ∈ jall := jall_s (by decide +kernel) (by decide +kernel)
theorem ks_23 : (Jvm.Cond.selects "JournalHouseModel" ({ cls := "JournalHouseModel", name := "put", desc := "(IIII)V" } : Jvm.MethodName) ({ cls := "JournalHouseModel", name := "put", desc := "(IIII)V" } : Jvm.MethodName)) ∈ jall := jall_s (by decide +kernel) (by decide +kernel)
theorem ks_24 : (Jvm.Cond.selects "JournalHouseModel" ({ cls := "JournalHouseModel", name := "reserve", desc := "()I" } : Jvm.MethodName) ({ cls := "JournalHouseModel", name := "reserve", desc := "()I" } : Jvm.MethodName)) ∈ jall := jall_s (by decide +kernel) (by decide +kernel)
theorem ks_25 : (Jvm.Cond.selects "JournalHouseModel" ({ cls := "JournalHouseModel", name := "refuse", desc := "(I)I" } : Jvm.MethodName) ({ cls := "JournalHouseModel", name := "refuse", desc := "(I)I" } : Jvm.MethodName)) ∈ jall := jall_s (by decide +kernel) (by decide +kernel)
theorem ks_26 : (Jvm.Cond.selects "JournalHouseModel" ({ cls := "JournalHouseModel", name := "isLocked", desc := "(III)Z" } : Jvm.MethodName) ({ cls := "JournalHouseModel", name := "isLocked", desc := "(III)Z" } : Jvm.MethodName)) ∈ jall := jall_s (by decide +kernel) (by decide +kernel)
theorem ks_27 : (Jvm.Cond.selects "JournalHouseModel" ({ cls := "JournalHouseModel", name := "room", desc := "()I" } : Jvm.MethodName) ({ cls := "JournalHouseModel", name := "room", desc := "()I" } : Jvm.MethodName)) ∈ jall := jall_s (by decide +kernel) (by decide +kernel)
theorem ks_28 : (Jvm.Cond.selects "JournalHouseModel" ({ cls := "JournalHouseModel", name := "isRecord", desc := "(II)Z" } : Jvm.MethodName) ({ cls := "JournalHouseModel", name := "isRecord", desc := "(II)Z" } : Jvm.MethodName)) ∈ jall := jall_s (by decide +kernel) (by decide +kernel)
theorem ks_29 : (Jvm.Cond.selects "JournalHouseModel" ({ cls := "JournalHouseModel", name := "undo", desc := "(I)V" } : Jvm.MethodName) ({ cls := "JournalHouseModel", name := "undo", desc := "(I)V" } : Jvm.MethodName)) ∈ jall := jall_s (by decide +kernel) (by decide +kernel)
theorem ks_3 : (Jvm.Cond.selects "JournalHouse$Journal" ({ cls := "JournalHouse$Journal", name := "reserve", desc := "()I" } : Jvm.MethodName) ({ cls := "JournalHouse$Journal", name := "reserve", desc := "()I" } : Jvm.MethodName)) ∈ jall := jall_s (by decide +kernel) (by decide +kernel)
theorem ks_30 : (Jvm.Cond.selects "JournalHouseModel" ({ cls := "JournalHouseModel", name := "isOn", desc := "(II)Z" } : Jvm.MethodName) ({ cls := "JournalHouseModel", name := "isOn", desc := "(II)Z" } : Jvm.MethodName)) ∈ jall := jall_s (by decide +kernel) (by decide +kernel)
theorem ks_31 : (Jvm.Cond.selects "JournalHouseModel" ({ cls := "JournalHouseModel", name := "become", desc := "(III)I" } : Jvm.MethodName) ({ cls := "JournalHouseModel", name := "become", desc := "(III)I" } : Jvm.MethodName)) ∈ jall := jall_s (by decide +kernel) (by decide +kernel)
theorem ks_32 : (Jvm.Cond.selects "JournalHouseModel" ({ cls := "JournalHouseModel", name := "lacks", desc := "(III)Z" } : Jvm.MethodName) ({ cls := "JournalHouseModel", name := "lacks", desc := "(III)Z" } : Jvm.MethodName)) ∈ jall := jall_s (by decide +kernel) (by decide +kernel)
theorem ks_33 : (Jvm.Cond.selects "JournalHouseModel" ({ cls := "JournalHouseModel", name := "isKept", desc := "(I)Z" } : Jvm.MethodName) ({ cls := "JournalHouseModel", name := "isKept", desc := "(I)Z" } : Jvm.MethodName)) ∈ jall := jall_s (by decide +kernel) (by decide +kernel)
theorem ks_34 : (Jvm.Cond.selects "JournalHouseModel" ({ cls := "JournalHouseModel", name := "takenBack", desc := "(II)I" } : Jvm.MethodName) ({ cls := "JournalHouseModel", name := "takenBack", desc := "(II)I" } : Jvm.MethodName)) ∈ jall := jall_s (by decide +kernel) (by decide +kernel)
theorem ks_4 : (Jvm.Cond.selects "JournalHouse$Journal" ({ cls := "JournalHouse$Journal", name := "noteOpenFiles", desc := "()V" } : Jvm.MethodName) ({ cls := "JournalHouse$Journal", name := "noteOpenFiles", desc := "()V" } : Jvm.MethodName)) ∈ jall := jall_s (by decide +kernel) (by decide +kernel)
theorem ks_5 : (Jvm.Cond.selects "JournalHouse" ({ cls := "JournalHouse", name := "isJob", desc := "(I)Z" } : Jvm.MethodName) ({ cls := "JournalHouse", name := "isJob", desc := "(I)Z" } : Jvm.MethodName)) ∈ jall := jall_s (by decide +kernel) (by decide +kernel)
theorem ks_6 : (Jvm.Cond.selects "JournalHouse" ({ cls := "JournalHouse", name := "isRecord", desc := "(II)Z" } : Jvm.MethodName) ({ cls := "JournalHouse", name := "isRecord", desc := "(II)Z" } : Jvm.MethodName)) ∈ jall := jall_s (by decide +kernel) (by decide +kernel)
theorem ks_7 : (Jvm.Cond.selects "JournalHouse" ({ cls := "JournalHouse", name := "writeChange", desc := "(III)V" } : Jvm.MethodName) ({ cls := "JournalHouse", name := "writeChange", desc := "(III)V" } : Jvm.MethodName)) ∈ jall := jall_s (by decide +kernel) (by decide +kernel)
theorem ks_8 : (Jvm.Cond.selects "JournalHouse" ({ cls := "JournalHouse", name := "rollBack", desc := "(I)V" } : Jvm.MethodName) ({ cls := "JournalHouse", name := "rollBack", desc := "(I)V" } : Jvm.MethodName)) ∈ jall := jall_s (by decide +kernel) (by decide +kernel)
theorem ks_9 : (Jvm.Cond.selects "JournalHouse" ({ cls := "JournalHouse", name := "isSlot", desc := "(I)Z" } : Jvm.MethodName) ({ cls := "JournalHouse", name := "isSlot", desc := "(I)Z" } : Jvm.MethodName)) ∈ jall := jall_s (by decide +kernel) (by decide +kernel)
theorem b_401 : (Jvm.Cond.methodLinkNest "JournalHouse$Journal" (43 : Nat) ({ cls := "JournalHouse", name := "fileOf", desc := "(I)I" } : Jvm.MethodName) "JournalHouse") ∈ jNl := jNl_t 401 (by decide +kernel) (by decide +kernel)
theorem b_453 : (Jvm.Cond.methodLinkNest "JournalHouse$Copies" (25 : Nat) ({ cls := "JournalHouse", name := "cellOf", desc := "(II)I" } : Jvm.MethodName) "JournalHouse") ∈ jNl := jNl_t 453 (by decide +kernel) (by decide +kernel)
