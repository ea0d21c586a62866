abbrev cZ_law : ByteArray := code
theorem k_0 : (Jvm.Cond.initialized "JournalHouseLaw") ∈ jall := jall_t 0 (by decide +kernel) (by decide +kernel)
theorem k_199 : (Jvm.Cond.methodLink "JournalHouseLaw" (71 : Nat) ({ cls := "JournalHouse", name := "get", desc := "(II)J" } : Jvm.MethodName)) ∈ jall := jall_t 199 (by decide +kernel) (by decide +kernel)
theorem k_200 : (Jvm.Cond.instanceMethod ({ cls := "JournalHouse", name := "get", desc := "(II)J" } : Jvm.MethodName)) ∈ jall := jall_t 200 (by decide +kernel) (by decide +kernel)
theorem k_201 : (Jvm.Cond.selects "JournalHouse" ({ cls := "JournalHouse", name := "get", desc := "(II)J" } : Jvm.MethodName) ({ cls := "JournalHouse", name := "get", desc := "(II)J" } : Jvm.MethodName)) ∈ jall := jall_t 201 (by decide +kernel) (by decide +kernel)
set_option maxRecDepth 100000 in
theorem k_202 : (Jvm.Cond.code ({ cls := "JournalHouse", name := "get", desc := "(II)J" } : Jvm.MethodName) prog_1_method_4_code (3 : Nat) (Option.some Jvm.ClassFile.FieldType.long)) ∈ jall := jall_t 202 rfl rfl
theorem k_215 : (Jvm.Cond.methodLink "JournalHouseLaw" (76 : Nat) ({ cls := "JournalHouse", name := "disk", desc := "(II)J" } : Jvm.MethodName)) ∈ jall := jall_t 215 (by decide +kernel) (by decide +kernel)
theorem k_216 : (Jvm.Cond.instanceMethod ({ cls := "JournalHouse", name := "disk", desc := "(II)J" } : Jvm.MethodName)) ∈ jall := jall_t 216 (by decide +kernel) (by decide +kernel)
theorem k_217 : (Jvm.Cond.selects "JournalHouse" ({ cls := "JournalHouse", name := "disk", desc := "(II)J" } : Jvm.MethodName) ({ cls := "JournalHouse", name := "disk", desc := "(II)J" } : Jvm.MethodName)) ∈ jall := jall_t 217 (by decide +kernel) (by decide +kernel)
set_option maxRecDepth 100000 in
theorem k_218 : (Jvm.Cond.code ({ cls := "JournalHouse", name := "disk", desc := "(II)J" } : Jvm.MethodName) prog_1_method_5_code (3 : Nat) (Option.some Jvm.ClassFile.FieldType.long)) ∈ jall := jall_t 218 rfl rfl
theorem k_219 : (Jvm.Cond.methodLink "JournalHouseLaw" (97 : Nat) ({ cls := "JournalHouse", name := "number", desc := "(I)I" } : Jvm.MethodName)) ∈ jall := jall_t 219 (by decide +kernel) (by decide +kernel)
theorem k_220 : (Jvm.Cond.instanceMethod ({ cls := "JournalHouse", name := "number", desc := "(I)I" } : Jvm.MethodName)) ∈ jall := jall_t 220 (by decide +kernel) (by decide +kernel)
theorem k_221 : (Jvm.Cond.selects "JournalHouse" ({ cls := "JournalHouse", name := "number", desc := "(I)I" } : Jvm.MethodName) ({ cls := "JournalHouse", name := "number", desc := "(I)I" } : Jvm.MethodName)) ∈ jall := jall_t 221 (by decide +kernel) (by decide +kernel)
set_option maxRecDepth 100000 in
theorem k_222 : (Jvm.Cond.code ({ cls := "JournalHouse", name := "number", desc := "(I)I" } : Jvm.MethodName) prog_1_method_11_code (2 : Nat) (Option.some Jvm.ClassFile.FieldType.int)) ∈ jall := jall_t 222 rfl rfl
theorem k_223 : (Jvm.Cond.methodLink "JournalHouseLaw" (101 : Nat) ({ cls := "JournalHouse", name := "last", desc := "()I" } : Jvm.MethodName)) ∈ jall := jall_t 223 (by decide +kernel) (by decide +kernel)
theorem k_224 : (Jvm.Cond.instanceMethod ({ cls := "JournalHouse", name := "last", desc := "()I" } : Jvm.MethodName)) ∈ jall := jall_t 224 (by decide +kernel) (by decide +kernel)
theorem k_225 : (Jvm.Cond.selects "JournalHouse" ({ cls := "JournalHouse", name := "last", desc := "()I" } : Jvm.MethodName) ({ cls := "JournalHouse", name := "last", desc := "()I" } : Jvm.MethodName)) ∈ jall := jall_t 225 (by decide +kernel) (by decide +kernel)
set_option maxRecDepth 100000 in
theorem k_226 : (Jvm.Cond.code ({ cls := "JournalHouse", name := "last", desc := "()I" } : Jvm.MethodName) prog_1_method_12_code (1 : Nat) (Option.some Jvm.ClassFile.FieldType.int)) ∈ jall := jall_t 226 rfl rfl
theorem k_227 : (Jvm.Cond.methodLink "JournalHouseLaw" (105 : Nat) ({ cls := "JournalHouse", name := "boundary", desc := "(II)Z" } : Jvm.MethodName)) ∈ jall := jall_t 227 (by decide +kernel) (by decide +kernel)
theorem k_228 : (Jvm.Cond.instanceMethod ({ cls := "JournalHouse", name := "boundary", desc := "(II)Z" } : Jvm.MethodName)) ∈ jall := jall_t 228 (by decide +kernel) (by decide +kernel)
theorem k_229 : (Jvm.Cond.selects "JournalHouse" ({ cls := "JournalHouse", name := "boundary", desc := "(II)Z" } : Jvm.MethodName) ({ cls := "JournalHouse", name := "boundary", desc := "(II)Z" } : Jvm.MethodName)) ∈ jall := jall_t 229 (by decide +kernel) (by decide +kernel)
set_option maxRecDepth 100000 in
theorem k_230 : (Jvm.Cond.code ({ cls := "JournalHouse", name := "boundary", desc := "(II)Z" } : Jvm.MethodName) prog_1_method_13_code (3 : Nat) (Option.some Jvm.ClassFile.FieldType.boolean)) ∈ jall := jall_t 230 rfl rfl
theorem k_235 : (Jvm.Cond.methodLink "JournalHouseLaw" (110 : Nat) ({ cls := "JournalHouse", name := "entry", desc := "(II)J" } : Jvm.MethodName)) ∈ jall := jall_t 235 (by decide +kernel) (by decide +kernel)
theorem k_236 : (Jvm.Cond.instanceMethod ({ cls := "JournalHouse", name := "entry", desc := "(II)J" } : Jvm.MethodName)) ∈ jall := jall_t 236 (by decide +kernel) (by decide +kernel)
theorem k_237 : (Jvm.Cond.selects "JournalHouse" ({ cls := "JournalHouse", name := "entry", desc := "(II)J" } : Jvm.MethodName) ({ cls := "JournalHouse", name := "entry", desc := "(II)J" } : Jvm.MethodName)) ∈ jall := jall_t 237 (by decide +kernel) (by decide +kernel)
set_option maxRecDepth 100000 in
theorem k_238 : (Jvm.Cond.code ({ cls := "JournalHouse", name := "entry", desc := "(II)J" } : Jvm.MethodName) prog_1_method_14_code (3 : Nat) (Option.some Jvm.ClassFile.FieldType.long)) ∈ jall := jall_t 238 rfl rfl
theorem k_257 : (Jvm.Cond.methodLink "JournalHouseLaw" (130 : Nat) ({ cls := "JournalHouse", name := "takeOver", desc := "()I" } : Jvm.MethodName)) ∈ jall := jall_t 257 (by decide +kernel) (by decide +kernel)
theorem k_258 : (Jvm.Cond.instanceMethod ({ cls := "JournalHouse", name := "takeOver", desc := "()I" } : Jvm.MethodName)) ∈ jall := jall_t 258 (by decide +kernel) (by decide +kernel)
theorem k_259 : (Jvm.Cond.selects "JournalHouse" ({ cls := "JournalHouse", name := "takeOver", desc := "()I" } : Jvm.MethodName) ({ cls := "JournalHouse", name := "takeOver", desc := "()I" } : Jvm.MethodName)) ∈ jall := jall_t 259 (by decide +kernel) (by decide +kernel)
set_option maxRecDepth 100000 in
theorem k_260 : (Jvm.Cond.code ({ cls := "JournalHouse", name := "takeOver", desc := "()I" } : Jvm.MethodName) prog_1_method_20_code (1 : Nat) (Option.some Jvm.ClassFile.FieldType.int)) ∈ jall := jall_t 260 rfl rfl
theorem k_265 : (Jvm.Cond.methodLink "JournalHouseLaw" (134 : Nat) ({ cls := "JournalHouse", name := "remote", desc := "(II)J" } : Jvm.MethodName)) ∈ jall := jall_t 265 (by decide +kernel) (by decide +kernel)
theorem k_266 : (Jvm.Cond.instanceMethod ({ cls := "JournalHouse", name := "remote", desc := "(II)J" } : Jvm.MethodName)) ∈ jall := jall_t 266 (by decide +kernel) (by decide +kernel)
theorem k_267 : (Jvm.Cond.selects "JournalHouse" ({ cls := "JournalHouse", name := "remote", desc := "(II)J" } : Jvm.MethodName) ({ cls := "JournalHouse", name := "remote", desc := "(II)J" } : Jvm.MethodName)) ∈ jall := jall_t 267 (by decide +kernel) (by decide +kernel)
set_option maxRecDepth 100000 in
theorem k_268 : (Jvm.Cond.code ({ cls := "JournalHouse", name := "remote", desc := "(II)J" } : Jvm.MethodName) prog_1_method_21_code (3 : Nat) (Option.some Jvm.ClassFile.FieldType.long)) ∈ jall := jall_t 268 rfl rfl
theorem k_269 : (Jvm.Cond.methodLink "JournalHouseLaw" (58 : Nat) ({ cls := "JournalHouseLaw", name := "file", desc := "(LJournalHouse;I[J)I" } : Jvm.MethodName)) ∈ jall := jall_t 269 (by decide +kernel) (by decide +kernel)
theorem k_270 : (Jvm.Cond.static ({ cls := "JournalHouseLaw", name := "file", desc := "(LJournalHouse;I[J)I" } : Jvm.MethodName)) ∈ jall := jall_t 270 (by decide +kernel) (by decide +kernel)
set_option maxRecDepth 100000 in
theorem k_271 : (Jvm.Cond.codeWith ({ cls := "JournalHouseLaw", name := "file", desc := "(LJournalHouse;I[J)I" } : Jvm.MethodName) method_3_code (4 : Nat) (Option.some Jvm.ClassFile.FieldType.int) [((0 : Nat), (9 : Nat), (12 : Nat), (13 : Nat)), ((0 : Nat), (9 : Nat), (15 : Nat), (15 : Nat))]) ∈ jall := jall_t 271 rfl rfl
theorem k_355 : (Jvm.Cond.methodLink "JournalHouseLaw" (67 : Nat) ({ cls := "JournalHouseLaw", name := "change", desc := "(LJournalHouse;IIII[J)I" } : Jvm.MethodName)) ∈ jall := jall_t 355 (by decide +kernel) (by decide +kernel)
theorem k_356 : (Jvm.Cond.static ({ cls := "JournalHouseLaw", name := "change", desc := "(LJournalHouse;IIII[J)I" } : Jvm.MethodName)) ∈ jall := jall_t 356 (by decide +kernel) (by decide +kernel)
set_option maxRecDepth 100000 in
theorem k_357 : (Jvm.Cond.codeWith ({ cls := "JournalHouseLaw", name := "change", desc := "(LJournalHouse;IIII[J)I" } : Jvm.MethodName) method_4_code (7 : Nat) (Option.some Jvm.ClassFile.FieldType.int) [((0 : Nat), (14 : Nat), (17 : Nat), (13 : Nat)), ((0 : Nat), (14 : Nat), (21 : Nat), (15 : Nat))]) ∈ jall := jall_t 357 rfl rfl
theorem k_417 : (Jvm.Cond.methodLink "JournalHouseLaw" (80 : Nat) ({ cls := "JournalHouseLaw", name := "end", desc := "(LJournalHouse;IZ[J)I" } : Jvm.MethodName)) ∈ jall := jall_t 417 (by decide +kernel) (by decide +kernel)
theorem k_418 : (Jvm.Cond.static ({ cls := "JournalHouseLaw", name := "end", desc := "(LJournalHouse;IZ[J)I" } : Jvm.MethodName)) ∈ jall := jall_t 418 (by decide +kernel) (by decide +kernel)
set_option maxRecDepth 100000 in
theorem k_419 : (Jvm.Cond.codeWith ({ cls := "JournalHouseLaw", name := "end", desc := "(LJournalHouse;IZ[J)I" } : Jvm.MethodName) method_5_code (5 : Nat) (Option.some Jvm.ClassFile.FieldType.int) [((0 : Nat), (10 : Nat), (13 : Nat), (13 : Nat)), ((0 : Nat), (10 : Nat), (17 : Nat), (15 : Nat))]) ∈ jall := jall_t 419 rfl rfl
theorem k_433 : (Jvm.Cond.methodLink "JournalHouseLaw" (84 : Nat) ({ cls := "JournalHouseLaw", name := "save", desc := "(LJournalHouse;II[J)I" } : Jvm.MethodName)) ∈ jall := jall_t 433 (by decide +kernel) (by decide +kernel)
theorem k_434 : (Jvm.Cond.static ({ cls := "JournalHouseLaw", name := "save", desc := "(LJournalHouse;II[J)I" } : Jvm.MethodName)) ∈ jall := jall_t 434 (by decide +kernel) (by decide +kernel)
set_option maxRecDepth 100000 in
theorem k_435 : (Jvm.Cond.codeWith ({ cls := "JournalHouseLaw", name := "save", desc := "(LJournalHouse;II[J)I" } : Jvm.MethodName) method_6_code (5 : Nat) (Option.some Jvm.ClassFile.FieldType.int) [((0 : Nat), (10 : Nat), (13 : Nat), (13 : Nat)), ((0 : Nat), (10 : Nat), (17 : Nat), (15 : Nat))]) ∈ jall := jall_t 435 rfl rfl
theorem k_455 : (Jvm.Cond.methodLink "JournalHouseLaw" (88 : Nat) ({ cls := "JournalHouseLaw", name := "restore", desc := "(LJournalHouse;I[J)I" } : Jvm.MethodName)) ∈ jall := jall_t 455 (by decide +kernel) (by decide +kernel)
theorem k_456 : (Jvm.Cond.static ({ cls := "JournalHouseLaw", name := "restore", desc := "(LJournalHouse;I[J)I" } : Jvm.MethodName)) ∈ jall := jall_t 456 (by decide +kernel) (by decide +kernel)
set_option maxRecDepth 100000 in
theorem k_457 : (Jvm.Cond.codeWith ({ cls := "JournalHouseLaw", name := "restore", desc := "(LJournalHouse;I[J)I" } : Jvm.MethodName) method_7_code (4 : Nat) (Option.some Jvm.ClassFile.FieldType.int) [((0 : Nat), (9 : Nat), (12 : Nat), (13 : Nat)), ((0 : Nat), (9 : Nat), (15 : Nat), (15 : Nat))]) ∈ jall := jall_t 457 rfl rfl
theorem k_475 : (Jvm.Cond.methodLink "JournalHouseLaw" (91 : Nat) ({ cls := "JournalHouseLaw", name := "apply", desc := "(LJournalHouse;II[J)I" } : Jvm.MethodName)) ∈ jall := jall_t 475 (by decide +kernel) (by decide +kernel)
theorem k_476 : (Jvm.Cond.static ({ cls := "JournalHouseLaw", name := "apply", desc := "(LJournalHouse;II[J)I" } : Jvm.MethodName)) ∈ jall := jall_t 476 (by decide +kernel) (by decide +kernel)
set_option maxRecDepth 100000 in
theorem k_477 : (Jvm.Cond.codeWith ({ cls := "JournalHouseLaw", name := "apply", desc := "(LJournalHouse;II[J)I" } : Jvm.MethodName) method_8_code (5 : Nat) (Option.some Jvm.ClassFile.FieldType.int) [((0 : Nat), (10 : Nat), (13 : Nat), (13 : Nat)), ((0 : Nat), (10 : Nat), (17 : Nat), (15 : Nat))]) ∈ jall := jall_t 477 rfl rfl
theorem k_500 : (Jvm.Cond.methodLink "JournalHouseLaw" (94 : Nat) ({ cls := "JournalHouseLaw", name := "remove", desc := "(LJournalHouse;II[J)I" } : Jvm.MethodName)) ∈ jall := jall_t 500 (by decide +kernel) (by decide +kernel)
theorem k_501 : (Jvm.Cond.static ({ cls := "JournalHouseLaw", name := "remove", desc := "(LJournalHouse;II[J)I" } : Jvm.MethodName)) ∈ jall := jall_t 501 (by decide +kernel) (by decide +kernel)
set_option maxRecDepth 100000 in
theorem k_502 : (Jvm.Cond.codeWith ({ cls := "JournalHouseLaw", name := "remove", desc := "(LJournalHouse;II[J)I" } : Jvm.MethodName) method_9_code (5 : Nat) (Option.some Jvm.ClassFile.FieldType.int) [((0 : Nat), (10 : Nat), (13 : Nat), (13 : Nat)), ((0 : Nat), (10 : Nat), (17 : Nat), (15 : Nat))]) ∈ jall := jall_t 502 rfl rfl
theorem k_515 : (Jvm.Cond.methodLink "JournalHouseLaw" (114 : Nat) ({ cls := "JournalHouseLaw", name := "drop", desc := "(LJournalHouse;[J)I" } : Jvm.MethodName)) ∈ jall := jall_t 515 (by decide +kernel) (by decide +kernel)
theorem k_516 : (Jvm.Cond.static ({ cls := "JournalHouseLaw", name := "drop", desc := "(LJournalHouse;[J)I" } : Jvm.MethodName)) ∈ jall := jall_t 516 (by decide +kernel) (by decide +kernel)
set_option maxRecDepth 100000 in
theorem k_517 : (Jvm.Cond.codeWith ({ cls := "JournalHouseLaw", name := "drop", desc := "(LJournalHouse;[J)I" } : Jvm.MethodName) method_10_code (3 : Nat) (Option.some Jvm.ClassFile.FieldType.int) [((0 : Nat), (8 : Nat), (11 : Nat), (15 : Nat))]) ∈ jall := jall_t 517 rfl rfl
theorem k_532 : (Jvm.Cond.methodLink "JournalHouseLaw" (118 : Nat) ({ cls := "JournalHouseLaw", name := "cut", desc := "(LJournalHouse;I[J)I" } : Jvm.MethodName)) ∈ jall := jall_t 532 (by decide +kernel) (by decide +kernel)
theorem k_533 : (Jvm.Cond.static ({ cls := "JournalHouseLaw", name := "cut", desc := "(LJournalHouse;I[J)I" } : Jvm.MethodName)) ∈ jall := jall_t 533 (by decide +kernel) (by decide +kernel)
set_option maxRecDepth 100000 in
theorem k_534 : (Jvm.Cond.codeWith ({ cls := "JournalHouseLaw", name := "cut", desc := "(LJournalHouse;I[J)I" } : Jvm.MethodName) method_11_code (4 : Nat) (Option.some Jvm.ClassFile.FieldType.int) [((0 : Nat), (9 : Nat), (12 : Nat), (13 : Nat)), ((0 : Nat), (9 : Nat), (15 : Nat), (15 : Nat))]) ∈ jall := jall_t 534 rfl rfl
theorem k_543 : (Jvm.Cond.methodLink "JournalHouseLaw" (121 : Nat) ({ cls := "JournalHouseLaw", name := "start", desc := "(LJournalHouse;[J)I" } : Jvm.MethodName)) ∈ jall := jall_t 543 (by decide +kernel) (by decide +kernel)
theorem k_544 : (Jvm.Cond.static ({ cls := "JournalHouseLaw", name := "start", desc := "(LJournalHouse;[J)I" } : Jvm.MethodName)) ∈ jall := jall_t 544 (by decide +kernel) (by decide +kernel)
set_option maxRecDepth 100000 in
theorem k_545 : (Jvm.Cond.codeWith ({ cls := "JournalHouseLaw", name := "start", desc := "(LJournalHouse;[J)I" } : Jvm.MethodName) method_12_code (3 : Nat) (Option.some Jvm.ClassFile.FieldType.int) [((0 : Nat), (8 : Nat), (11 : Nat), (15 : Nat))]) ∈ jall := jall_t 545 rfl rfl
theorem k_559 : (Jvm.Cond.methodLink "JournalHouseLaw" (124 : Nat) ({ cls := "JournalHouseLaw", name := "link", desc := "(LJournalHouse;II[J)I" } : Jvm.MethodName)) ∈ jall := jall_t 559 (by decide +kernel) (by decide +kernel)
theorem k_560 : (Jvm.Cond.static ({ cls := "JournalHouseLaw", name := "link", desc := "(LJournalHouse;II[J)I" } : Jvm.MethodName)) ∈ jall := jall_t 560 (by decide +kernel) (by decide +kernel)
set_option maxRecDepth 100000 in
theorem k_561 : (Jvm.Cond.codeWith ({ cls := "JournalHouseLaw", name := "link", desc := "(LJournalHouse;II[J)I" } : Jvm.MethodName) method_13_code (5 : Nat) (Option.some Jvm.ClassFile.FieldType.int) [((0 : Nat), (10 : Nat), (13 : Nat), (13 : Nat)), ((0 : Nat), (10 : Nat), (17 : Nat), (15 : Nat))]) ∈ jall := jall_t 561 rfl rfl
theorem k_583 : (Jvm.Cond.methodLink "JournalHouseLaw" (127 : Nat) ({ cls := "JournalHouseLaw", name := "ack", desc := "(LJournalHouse;[J)I" } : Jvm.MethodName)) ∈ jall := jall_t 583 (by decide +kernel) (by decide +kernel)
theorem k_584 : (Jvm.Cond.static ({ cls := "JournalHouseLaw", name := "ack", desc := "(LJournalHouse;[J)I" } : Jvm.MethodName)) ∈ jall := jall_t 584 (by decide +kernel) (by decide +kernel)
set_option maxRecDepth 100000 in
theorem k_585 : (Jvm.Cond.codeWith ({ cls := "JournalHouseLaw", name := "ack", desc := "(LJournalHouse;[J)I" } : Jvm.MethodName) method_14_code (3 : Nat) (Option.some Jvm.ClassFile.FieldType.int) [((0 : Nat), (8 : Nat), (11 : Nat), (15 : Nat))]) ∈ jall := jall_t 585 rfl rfl
theorem k_672 : (Jvm.Cond.methodLink "JournalHouseLaw" (64 : Nat) ({ cls := "JournalHouseModel", name := "thrown", desc := "()I" } : Jvm.MethodName)) ∈ jall := jall_t 672 (by decide +kernel) (by decide +kernel)
theorem k_673 : (Jvm.Cond.instanceMethod ({ cls := "JournalHouseModel", name := "thrown", desc := "()I" } : Jvm.MethodName)) ∈ jall := jall_t 673 (by decide +kernel) (by decide +kernel)
theorem k_674 : (Jvm.Cond.selects "JournalHouseModel" ({ cls := "JournalHouseModel", name := "thrown", desc := "()I" } : Jvm.MethodName) ({ cls := "JournalHouseModel", name := "thrown", desc := "()I" } : Jvm.MethodName)) ∈ jall := jall_t 674 (by decide +kernel) (by decide +kernel)
set_option maxRecDepth 100000 in
theorem k_675 : (Jvm.Cond.code ({ cls := "JournalHouseModel", name := "thrown", desc := "()I" } : Jvm.MethodName) prog_8_method_2_code (1 : Nat) (Option.some Jvm.ClassFile.FieldType.int)) ∈ jall := jall_t 675 rfl rfl
theorem k_676 : (Jvm.Cond.methodLink "JournalHouseLaw" (63 : Nat) ({ cls := "JournalHouseModel", name := "file", desc := "(I)I" } : Jvm.MethodName)) ∈ jall := jall_t 676 (by decide +kernel) (by decide +kernel)
theorem k_677 : (Jvm.Cond.instanceMethod ({ cls := "JournalHouseModel", name := "file", desc := "(I)I" } : Jvm.MethodName)) ∈ jall := jall_t 677 (by decide +kernel) (by decide +kernel)
theorem k_678 : (Jvm.Cond.selects "JournalHouseModel" ({ cls := "JournalHouseModel", name := "file", desc := "(I)I" } : Jvm.MethodName) ({ cls := "JournalHouseModel", name := "file", desc := "(I)I" } : Jvm.MethodName)) ∈ jall := jall_t 678 (by decide +kernel) (by decide +kernel)
set_option maxRecDepth 100000 in
theorem k_679 : (Jvm.Cond.code ({ cls := "JournalHouseModel", name := "file", desc := "(I)I" } : Jvm.MethodName) prog_8_method_18_code (2 : Nat) (Option.some Jvm.ClassFile.FieldType.int)) ∈ jall := jall_t 679 rfl rfl
theorem k_683 : (Jvm.Cond.methodLink "JournalHouseLaw" (70 : Nat) ({ cls := "JournalHouseModel", name := "change", desc := "(IIII)I" } : Jvm.MethodName)) ∈ jall := jall_t 683 (by decide +kernel) (by decide +kernel)
theorem k_684 : (Jvm.Cond.instanceMethod ({ cls := "JournalHouseModel", name := "change", desc := "(IIII)I" } : Jvm.MethodName)) ∈ jall := jall_t 684 (by decide +kernel) (by decide +kernel)
theorem k_685 : (Jvm.Cond.selects "JournalHouseModel" ({ cls := "JournalHouseModel", name := "change", desc := "(IIII)I" } : Jvm.MethodName) ({ cls := "JournalHouseModel", name := "change", desc := "(IIII)I" } : Jvm.MethodName)) ∈ jall := jall_t 685 (by decide +kernel) (by decide +kernel)
set_option maxRecDepth 100000 in
theorem k_686 : (Jvm.Cond.code ({ cls := "JournalHouseModel", name := "change", desc := "(IIII)I" } : Jvm.MethodName) prog_8_method_20_code (6 : Nat) (Option.some Jvm.ClassFile.FieldType.int)) ∈ jall := jall_t 686 rfl rfl
theorem k_735 : (Jvm.Cond.methodLink "JournalHouseLaw" (75 : Nat) ({ cls := "JournalHouseModel", name := "get", desc := "(II)J" } : Jvm.MethodName)) ∈ jall := jall_t 735 (by decide +kernel) (by decide +kernel)
theorem k_736 : (Jvm.Cond.instanceMethod ({ cls := "JournalHouseModel", name := "get", desc := "(II)J" } : Jvm.MethodName)) ∈ jall := jall_t 736 (by decide +kernel) (by decide +kernel)
theorem k_737 : (Jvm.Cond.selects "JournalHouseModel" ({ cls := "JournalHouseModel", name := "get", desc := "(II)J" } : Jvm.MethodName) ({ cls := "JournalHouseModel", name := "get", desc := "(II)J" } : Jvm.MethodName)) ∈ jall := jall_t 737 (by decide +kernel) (by decide +kernel)
set_option maxRecDepth 100000 in
theorem k_738 : (Jvm.Cond.code ({ cls := "JournalHouseModel", name := "get", desc := "(II)J" } : Jvm.MethodName) prog_8_method_21_code (3 : Nat) (Option.some Jvm.ClassFile.FieldType.long)) ∈ jall := jall_t 738 rfl rfl
theorem k_740 : (Jvm.Cond.methodLink "JournalHouseLaw" (79 : Nat) ({ cls := "JournalHouseModel", name := "disk", desc := "(II)J" } : Jvm.MethodName)) ∈ jall := jall_t 740 (by decide +kernel) (by decide +kernel)
theorem k_741 : (Jvm.Cond.instanceMethod ({ cls := "JournalHouseModel", name := "disk", desc := "(II)J" } : Jvm.MethodName)) ∈ jall := jall_t 741 (by decide +kernel) (by decide +kernel)
theorem k_742 : (Jvm.Cond.selects "JournalHouseModel" ({ cls := "JournalHouseModel", name := "disk", desc := "(II)J" } : Jvm.MethodName) ({ cls := "JournalHouseModel", name := "disk", desc := "(II)J" } : Jvm.MethodName)) ∈ jall := jall_t 742 (by decide +kernel) (by decide +kernel)
set_option maxRecDepth 100000 in
theorem k_743 : (Jvm.Cond.code ({ cls := "JournalHouseModel", name := "disk", desc := "(II)J" } : Jvm.MethodName) prog_8_method_22_code (3 : Nat) (Option.some Jvm.ClassFile.FieldType.long)) ∈ jall := jall_t 743 rfl rfl
theorem k_744 : (Jvm.Cond.methodLink "JournalHouseLaw" (83 : Nat) ({ cls := "JournalHouseModel", name := "end", desc := "(IZ)I" } : Jvm.MethodName)) ∈ jall := jall_t 744 (by decide +kernel) (by decide +kernel)
theorem k_745 : (Jvm.Cond.instanceMethod ({ cls := "JournalHouseModel", name := "end", desc := "(IZ)I" } : Jvm.MethodName)) ∈ jall := jall_t 745 (by decide +kernel) (by decide +kernel)
theorem k_746 : (Jvm.Cond.selects "JournalHouseModel" ({ cls := "JournalHouseModel", name := "end", desc := "(IZ)I" } : Jvm.MethodName) ({ cls := "JournalHouseModel", name := "end", desc := "(IZ)I" } : Jvm.MethodName)) ∈ jall := jall_t 746 (by decide +kernel) (by decide +kernel)
set_option maxRecDepth 100000 in
theorem k_747 : (Jvm.Cond.code ({ cls := "JournalHouseModel", name := "end", desc := "(IZ)I" } : Jvm.MethodName) prog_8_method_23_code (3 : Nat) (Option.some Jvm.ClassFile.FieldType.int)) ∈ jall := jall_t 747 rfl rfl
theorem k_752 : (Jvm.Cond.methodLink "JournalHouseLaw" (87 : Nat) ({ cls := "JournalHouseModel", name := "save", desc := "(II)I" } : Jvm.MethodName)) ∈ jall := jall_t 752 (by decide +kernel) (by decide +kernel)
theorem k_753 : (Jvm.Cond.instanceMethod ({ cls := "JournalHouseModel", name := "save", desc := "(II)I" } : Jvm.MethodName)) ∈ jall := jall_t 753 (by decide +kernel) (by decide +kernel)
theorem k_754 : (Jvm.Cond.selects "JournalHouseModel" ({ cls := "JournalHouseModel", name := "save", desc := "(II)I" } : Jvm.MethodName) ({ cls := "JournalHouseModel", name := "save", desc := "(II)I" } : Jvm.MethodName)) ∈ jall := jall_t 754 (by decide +kernel) (by decide +kernel)
set_option maxRecDepth 100000 in
theorem k_755 : (Jvm.Cond.code ({ cls := "JournalHouseModel", name := "save", desc := "(II)I" } : Jvm.MethodName) prog_8_method_24_code (3 : Nat) (Option.some Jvm.ClassFile.FieldType.int)) ∈ jall := jall_t 755 rfl rfl
theorem k_760 : (Jvm.Cond.methodLink "JournalHouseLaw" (90 : Nat) ({ cls := "JournalHouseModel", name := "restore", desc := "(I)I" } : Jvm.MethodName)) ∈ jall := jall_t 760 (by decide +kernel) (by decide +kernel)
theorem k_761 : (Jvm.Cond.instanceMethod ({ cls := "JournalHouseModel", name := "restore", desc := "(I)I" } : Jvm.MethodName)) ∈ jall := jall_t 761 (by decide +kernel) (by decide +kernel)
theorem k_762 : (Jvm.Cond.selects "JournalHouseModel" ({ cls := "JournalHouseModel", name := "restore", desc := "(I)I" } : Jvm.MethodName) ({ cls := "JournalHouseModel", name := "restore", desc := "(I)I" } : Jvm.MethodName)) ∈ jall := jall_t 762 (by decide +kernel) (by decide +kernel)
set_option maxRecDepth 100000 in
theorem k_763 : (Jvm.Cond.code ({ cls := "JournalHouseModel", name := "restore", desc := "(I)I" } : Jvm.MethodName) prog_8_method_26_code (3 : Nat) (Option.some Jvm.ClassFile.FieldType.int)) ∈ jall := jall_t 763 rfl rfl
theorem k_768 : (Jvm.Cond.methodLink "JournalHouseLaw" (93 : Nat) ({ cls := "JournalHouseModel", name := "apply", desc := "(II)I" } : Jvm.MethodName)) ∈ jall := jall_t 768 (by decide +kernel) (by decide +kernel)
theorem k_769 : (Jvm.Cond.instanceMethod ({ cls := "JournalHouseModel", name := "apply", desc := "(II)I" } : Jvm.MethodName)) ∈ jall := jall_t 769 (by decide +kernel) (by decide +kernel)
theorem k_770 : (Jvm.Cond.selects "JournalHouseModel" ({ cls := "JournalHouseModel", name := "apply", desc := "(II)I" } : Jvm.MethodName) ({ cls := "JournalHouseModel", name := "apply", desc := "(II)I" } : Jvm.MethodName)) ∈ jall := jall_t 770 (by decide +kernel) (by decide +kernel)
set_option maxRecDepth 100000 in
theorem k_771 : (Jvm.Cond.code ({ cls := "JournalHouseModel", name := "apply", desc := "(II)I" } : Jvm.MethodName) prog_8_method_28_code (4 : Nat) (Option.some Jvm.ClassFile.FieldType.int)) ∈ jall := jall_t 771 rfl rfl
theorem k_776 : (Jvm.Cond.methodLink "JournalHouseLaw" (96 : Nat) ({ cls := "JournalHouseModel", name := "remove", desc := "(II)I" } : Jvm.MethodName)) ∈ jall := jall_t 776 (by decide +kernel) (by decide +kernel)
theorem k_777 : (Jvm.Cond.instanceMethod ({ cls := "JournalHouseModel", name := "remove", desc := "(II)I" } : Jvm.MethodName)) ∈ jall := jall_t 777 (by decide +kernel) (by decide +kernel)
theorem k_778 : (Jvm.Cond.selects "JournalHouseModel" ({ cls := "JournalHouseModel", name := "remove", desc := "(II)I" } : Jvm.MethodName) ({ cls := "JournalHouseModel", name := "remove", desc := "(II)I" } : Jvm.MethodName)) ∈ jall := jall_t 778 (by decide +kernel) (by decide +kernel)
set_option maxRecDepth 100000 in
theorem k_779 : (Jvm.Cond.code ({ cls := "JournalHouseModel", name := "remove", desc := "(II)I" } : Jvm.MethodName) prog_8_method_29_code (5 : Nat) (Option.some Jvm.ClassFile.FieldType.int)) ∈ jall := jall_t 779 rfl rfl
theorem k_780 : (Jvm.Cond.methodLink "JournalHouseLaw" (100 : Nat) ({ cls := "JournalHouseModel", name := "number", desc := "(I)I" } : Jvm.MethodName)) ∈ jall := jall_t 780 (by decide +kernel) (by decide +kernel)
theorem k_781 : (Jvm.Cond.instanceMethod ({ cls := "JournalHouseModel", name := "number", desc := "(I)I" } : Jvm.MethodName)) ∈ jall := jall_t 781 (by decide +kernel) (by decide +kernel)
theorem k_782 : (Jvm.Cond.selects "JournalHouseModel" ({ cls := "JournalHouseModel", name := "number", desc := "(I)I" } : Jvm.MethodName) ({ cls := "JournalHouseModel", name := "number", desc := "(I)I" } : Jvm.MethodName)) ∈ jall := jall_t 782 (by decide +kernel) (by decide +kernel)
set_option maxRecDepth 100000 in
theorem k_783 : (Jvm.Cond.code ({ cls := "JournalHouseModel", name := "number", desc := "(I)I" } : Jvm.MethodName) prog_8_method_30_code (2 : Nat) (Option.some Jvm.ClassFile.FieldType.int)) ∈ jall := jall_t 783 rfl rfl
theorem k_784 : (Jvm.Cond.methodLink "JournalHouseLaw" (104 : Nat) ({ cls := "JournalHouseModel", name := "last", desc := "()I" } : Jvm.MethodName)) ∈ jall := jall_t 784 (by decide +kernel) (by decide +kernel)
theorem k_785 : (Jvm.Cond.instanceMethod ({ cls := "JournalHouseModel", name := "last", desc := "()I" } : Jvm.MethodName)) ∈ jall := jall_t 785 (by decide +kernel) (by decide +kernel)
theorem k_786 : (Jvm.Cond.selects "JournalHouseModel" ({ cls := "JournalHouseModel", name := "last", desc := "()I" } : Jvm.MethodName) ({ cls := "JournalHouseModel", name := "last", desc := "()I" } : Jvm.MethodName)) ∈ jall := jall_t 786 (by decide +kernel) (by decide +kernel)
set_option maxRecDepth 100000 in
theorem k_787 : (Jvm.Cond.code ({ cls := "JournalHouseModel", name := "last", desc := "()I" } : Jvm.MethodName) prog_8_method_31_code (1 : Nat) (Option.some Jvm.ClassFile.FieldType.int)) ∈ jall := jall_t 787 rfl rfl
theorem k_788 : (Jvm.Cond.methodLink "JournalHouseLaw" (109 : Nat) ({ cls := "JournalHouseModel", name := "boundary", desc := "(II)Z" } : Jvm.MethodName)) ∈ jall := jall_t 788 (by decide +kernel) (by decide +kernel)
theorem k_789 : (Jvm.Cond.instanceMethod ({ cls := "JournalHouseModel", name := "boundary", desc := "(II)Z" } : Jvm.MethodName)) ∈ jall := jall_t 789 (by decide +kernel) (by decide +kernel)
theorem k_790 : (Jvm.Cond.selects "JournalHouseModel" ({ cls := "JournalHouseModel", name := "boundary", desc := "(II)Z" } : Jvm.MethodName) ({ cls := "JournalHouseModel", name := "boundary", desc := "(II)Z" } : Jvm.MethodName)) ∈ jall := jall_t 790 (by decide +kernel) (by decide +kernel)
set_option maxRecDepth 100000 in
theorem k_791 : (Jvm.Cond.code ({ cls := "JournalHouseModel", name := "boundary", desc := "(II)Z" } : Jvm.MethodName) prog_8_method_32_code (3 : Nat) (Option.some Jvm.ClassFile.FieldType.boolean)) ∈ jall := jall_t 791 rfl rfl
theorem k_792 : (Jvm.Cond.methodLink "JournalHouseLaw" (113 : Nat) ({ cls := "JournalHouseModel", name := "entry", desc := "(II)J" } : Jvm.MethodName)) ∈ jall := jall_t 792 (by decide +kernel) (by decide +kernel)
theorem k_793 : (Jvm.Cond.instanceMethod ({ cls := "JournalHouseModel", name := "entry", desc := "(II)J" } : Jvm.MethodName)) ∈ jall := jall_t 793 (by decide +kernel) (by decide +kernel)
theorem k_794 : (Jvm.Cond.selects "JournalHouseModel" ({ cls := "JournalHouseModel", name := "entry", desc := "(II)J" } : Jvm.MethodName) ({ cls := "JournalHouseModel", name := "entry", desc := "(II)J" } : Jvm.MethodName)) ∈ jall := jall_t 794 (by decide +kernel) (by decide +kernel)
set_option maxRecDepth 100000 in
theorem k_795 : (Jvm.Cond.code ({ cls := "JournalHouseModel", name := "entry", desc := "(II)J" } : Jvm.MethodName) prog_8_method_33_code (3 : Nat) (Option.some Jvm.ClassFile.FieldType.long)) ∈ jall := jall_t 795 rfl rfl
theorem k_800 : (Jvm.Cond.methodLink "JournalHouseLaw" (117 : Nat) ({ cls := "JournalHouseModel", name := "drop", desc := "()I" } : Jvm.MethodName)) ∈ jall := jall_t 800 (by decide +kernel) (by decide +kernel)
theorem k_801 : (Jvm.Cond.instanceMethod ({ cls := "JournalHouseModel", name := "drop", desc := "()I" } : Jvm.MethodName)) ∈ jall := jall_t 801 (by decide +kernel) (by decide +kernel)
theorem k_802 : (Jvm.Cond.selects "JournalHouseModel" ({ cls := "JournalHouseModel", name := "drop", desc := "()I" } : Jvm.MethodName) ({ cls := "JournalHouseModel", name := "drop", desc := "()I" } : Jvm.MethodName)) ∈ jall := jall_t 802 (by decide +kernel) (by decide +kernel)
set_option maxRecDepth 100000 in
theorem k_803 : (Jvm.Cond.code ({ cls := "JournalHouseModel", name := "drop", desc := "()I" } : Jvm.MethodName) prog_8_method_34_code (5 : Nat) (Option.some Jvm.ClassFile.FieldType.int)) ∈ jall := jall_t 803 rfl rfl
theorem k_804 : (Jvm.Cond.methodLink "JournalHouseLaw" (120 : Nat) ({ cls := "JournalHouseModel", name := "cut", desc := "(I)I" } : Jvm.MethodName)) ∈ jall := jall_t 804 (by decide +kernel) (by decide +kernel)
theorem k_805 : (Jvm.Cond.instanceMethod ({ cls := "JournalHouseModel", name := "cut", desc := "(I)I" } : Jvm.MethodName)) ∈ jall := jall_t 805 (by decide +kernel) (by decide +kernel)
theorem k_806 : (Jvm.Cond.selects "JournalHouseModel" ({ cls := "JournalHouseModel", name := "cut", desc := "(I)I" } : Jvm.MethodName) ({ cls := "JournalHouseModel", name := "cut", desc := "(I)I" } : Jvm.MethodName)) ∈ jall := jall_t 806 (by decide +kernel) (by decide +kernel)
set_option maxRecDepth 100000 in
theorem k_807 : (Jvm.Cond.code ({ cls := "JournalHouseModel", name := "cut", desc := "(I)I" } : Jvm.MethodName) prog_8_method_35_code (3 : Nat) (Option.some Jvm.ClassFile.FieldType.int)) ∈ jall := jall_t 807 rfl rfl
theorem k_808 : (Jvm.Cond.methodLink "JournalHouseLaw" (123 : Nat) ({ cls := "JournalHouseModel", name := "start", desc := "()I" } : Jvm.MethodName)) ∈ jall := jall_t 808 (by decide +kernel) (by decide +kernel)
theorem k_809 : (Jvm.Cond.instanceMethod ({ cls := "JournalHouseModel", name := "start", desc := "()I" } : Jvm.MethodName)) ∈ jall := jall_t 809 (by decide +kernel) (by decide +kernel)
theorem k_810 : (Jvm.Cond.selects "JournalHouseModel" ({ cls := "JournalHouseModel", name := "start", desc := "()I" } : Jvm.MethodName) ({ cls := "JournalHouseModel", name := "start", desc := "()I" } : Jvm.MethodName)) ∈ jall := jall_t 810 (by decide +kernel) (by decide +kernel)
set_option maxRecDepth 100000 in
theorem k_811 : (Jvm.Cond.code ({ cls := "JournalHouseModel", name := "start", desc := "()I" } : Jvm.MethodName) prog_8_method_36_code (3 : Nat) (Option.some Jvm.ClassFile.FieldType.int)) ∈ jall := jall_t 811 rfl rfl
theorem k_812 : (Jvm.Cond.methodLink "JournalHouseLaw" (126 : Nat) ({ cls := "JournalHouseModel", name := "link", desc := "(II)I" } : Jvm.MethodName)) ∈ jall := jall_t 812 (by decide +kernel) (by decide +kernel)
theorem k_813 : (Jvm.Cond.instanceMethod ({ cls := "JournalHouseModel", name := "link", desc := "(II)I" } : Jvm.MethodName)) ∈ jall := jall_t 813 (by decide +kernel) (by decide +kernel)
theorem k_814 : (Jvm.Cond.selects "JournalHouseModel" ({ cls := "JournalHouseModel", name := "link", desc := "(II)I" } : Jvm.MethodName) ({ cls := "JournalHouseModel", name := "link", desc := "(II)I" } : Jvm.MethodName)) ∈ jall := jall_t 814 (by decide +kernel) (by decide +kernel)
set_option maxRecDepth 100000 in
theorem k_815 : (Jvm.Cond.code ({ cls := "JournalHouseModel", name := "link", desc := "(II)I" } : Jvm.MethodName) prog_8_method_37_code (6 : Nat) (Option.some Jvm.ClassFile.FieldType.int)) ∈ jall := jall_t 815 rfl rfl
theorem k_816 : (Jvm.Cond.methodLink "JournalHouseLaw" (129 : Nat) ({ cls := "JournalHouseModel", name := "ack", desc := "()I" } : Jvm.MethodName)) ∈ jall := jall_t 816 (by decide +kernel) (by decide +kernel)
theorem k_817 : (Jvm.Cond.instanceMethod ({ cls := "JournalHouseModel", name := "ack", desc := "()I" } : Jvm.MethodName)) ∈ jall := jall_t 817 (by decide +kernel) (by decide +kernel)
theorem k_818 : (Jvm.Cond.selects "JournalHouseModel" ({ cls := "JournalHouseModel", name := "ack", desc := "()I" } : Jvm.MethodName) ({ cls := "JournalHouseModel", name := "ack", desc := "()I" } : Jvm.MethodName)) ∈ jall := jall_t 818 (by decide +kernel) (by decide +kernel)
set_option maxRecDepth 100000 in
theorem k_819 : (Jvm.Cond.code ({ cls := "JournalHouseModel", name := "ack", desc := "()I" } : Jvm.MethodName) prog_8_method_38_code (1 : Nat) (Option.some Jvm.ClassFile.FieldType.int)) ∈ jall := jall_t 819 rfl rfl
theorem k_820 : (Jvm.Cond.methodLink "JournalHouseLaw" (133 : Nat) ({ cls := "JournalHouseModel", name := "takeOver", desc := "()I" } : Jvm.MethodName)) ∈ jall := jall_t 820 (by decide +kernel) (by decide +kernel)
theorem k_821 : (Jvm.Cond.instanceMethod ({ cls := "JournalHouseModel", name := "takeOver", desc := "()I" } : Jvm.MethodName)) ∈ jall := jall_t 821 (by decide +kernel) (by decide +kernel)
theorem k_822 : (Jvm.Cond.selects "JournalHouseModel" ({ cls := "JournalHouseModel", name := "takeOver", desc := "()I" } : Jvm.MethodName) ({ cls := "JournalHouseModel", name := "takeOver", desc := "()I" } : Jvm.MethodName)) ∈ jall := jall_t 822 (by decide +kernel) (by decide +kernel)
set_option maxRecDepth 100000 in
theorem k_823 : (Jvm.Cond.code ({ cls := "JournalHouseModel", name := "takeOver", desc := "()I" } : Jvm.MethodName) prog_8_method_39_code (1 : Nat) (Option.some Jvm.ClassFile.FieldType.int)) ∈ jall := jall_t 823 rfl rfl
theorem k_824 : (Jvm.Cond.methodLink "JournalHouseLaw" (137 : Nat) ({ cls := "JournalHouseModel", name := "remote", desc := "(II)J" } : Jvm.MethodName)) ∈ jall := jall_t 824 (by decide +kernel) (by decide +kernel)
theorem k_825 : (Jvm.Cond.instanceMethod ({ cls := "JournalHouseModel", name := "remote", desc := "(II)J" } : Jvm.MethodName)) ∈ jall := jall_t 825 (by decide +kernel) (by decide +kernel)
theorem k_826 : (Jvm.Cond.selects "JournalHouseModel" ({ cls := "JournalHouseModel", name := "remote", desc := "(II)J" } : Jvm.MethodName) ({ cls := "JournalHouseModel", name := "remote", desc := "(II)J" } : Jvm.MethodName)) ∈ jall := jall_t 826 (by decide +kernel) (by decide +kernel)
set_option maxRecDepth 100000 in
theorem k_827 : (Jvm.Cond.code ({ cls := "JournalHouseModel", name := "remote", desc := "(II)J" } : Jvm.MethodName) prog_8_method_41_code (4 : Nat) (Option.some Jvm.ClassFile.FieldType.long)) ∈ jall := jall_t 827 rfl rfl
theorem dZ_law_0 : decode code 0 = .ok (.new 8, 3) := by decide +kernel
theorem dZ_law_3 : decode code 3 = .ok (.dup, 1) := by decide +kernel
theorem dZ_law_4 : decode code 4 = .ok (.invokespecial 54, 3) := by decide +kernel
theorem dZ_law_7 : decode code 7 = .ok (.astore_n 1, 1) := by decide +kernel
theorem dZ_law_8 : decode code 8 = .ok (.new 55, 3) := by decide +kernel
theorem dZ_law_11 : decode code 11 = .ok (.dup, 1) := by decide +kernel
theorem dZ_law_12 : decode code 12 = .ok (.invokespecial 57, 3) := by decide +kernel
theorem dZ_law_15 : decode code 15 = .ok (.astore_n 2, 1) := by decide +kernel
theorem dZ_law_16 : decode code 16 = .ok (.iconst 1, 1) := by decide +kernel
theorem dZ_law_17 : decode code 17 = .ok (.newarray .long, 2) := by decide +kernel
theorem dZ_law_19 : decode code 19 = .ok (.astore_n 3, 1) := by decide +kernel
theorem dZ_law_20 : decode code 20 = .ok (.iconst 0, 1) := by decide +kernel
theorem dZ_law_21 : decode code 21 = .ok (.istore 4, 2) := by decide +kernel
theorem dZ_law_23 : decode code 23 = .ok (.iload 4, 2) := by decide +kernel
theorem dZ_law_25 : decode code 25 = .ok (.aload_n 0, 1) := by decide +kernel
theorem dZ_law_26 : decode code 26 = .ok (.arraylength, 1) := by decide +kernel
theorem dZ_law_27 : decode code 27 = .ok (.iconst 5, 1) := by decide +kernel
theorem dZ_law_28 : decode code 28 = .ok (.isub, 1) := by decide +kernel
theorem dZ_law_29 : decode code 29 = .ok (.if_icmp .gt 1097, 3) := by decide +kernel
theorem dZ_law_32 : decode code 32 = .ok (.aload_n 0, 1) := by decide +kernel
theorem dZ_law_33 : decode code 33 = .ok (.iload 4, 2) := by decide +kernel
theorem dZ_law_35 : decode code 35 = .ok (.iaload, 1) := by decide +kernel
theorem dZ_law_36 : decode code 36 = .ok (.bipush 31, 2) := by decide +kernel
theorem dZ_law_38 : decode code 38 = .ok (.iand, 1) := by decide +kernel
theorem dZ_law_39 : decode code 39 = .ok (.tableswitch 1081 0 19 #[93, 149, 241, 279, 317, 401, 469, 525, 593, 661, 686, 699, 736, 774, 818, 874, 918, 986, 1030, 1043], 93) := by decide +kernel
theorem dZ_law_132 : decode code 132 = .ok (.aload_n 1, 1) := by decide +kernel
theorem dZ_law_133 : decode code 133 = .ok (.aload_n 0, 1) := by decide +kernel
theorem dZ_law_134 : decode code 134 = .ok (.iload 4, 2) := by decide +kernel
theorem dZ_law_136 : decode code 136 = .ok (.iconst 1, 1) := by decide +kernel
theorem dZ_law_137 : decode code 137 = .ok (.iadd, 1) := by decide +kernel
theorem dZ_law_138 : decode code 138 = .ok (.iaload, 1) := by decide +kernel
theorem dZ_law_139 : decode code 139 = .ok (.aload_n 3, 1) := by decide +kernel
theorem dZ_law_140 : decode code 140 = .ok (.invokestatic 58, 3) := by decide +kernel
theorem dZ_law_143 : decode code 143 = .ok (.istore 5, 2) := by decide +kernel
theorem dZ_law_145 : decode code 145 = .ok (.aload_n 2, 1) := by decide +kernel
theorem dZ_law_146 : decode code 146 = .ok (.aload_n 0, 1) := by decide +kernel
theorem dZ_law_147 : decode code 147 = .ok (.iload 4, 2) := by decide +kernel
theorem dZ_law_149 : decode code 149 = .ok (.iconst 1, 1) := by decide +kernel
theorem dZ_law_150 : decode code 150 = .ok (.iadd, 1) := by decide +kernel
theorem dZ_law_151 : decode code 151 = .ok (.iaload, 1) := by decide +kernel
theorem dZ_law_152 : decode code 152 = .ok (.invokevirtual 63, 3) := by decide +kernel
theorem dZ_law_155 : decode code 155 = .ok (.istore 6, 2) := by decide +kernel
theorem dZ_law_157 : decode code 157 = .ok (.aload_n 2, 1) := by decide +kernel
theorem dZ_law_158 : decode code 158 = .ok (.invokevirtual 64, 3) := by decide +kernel
theorem dZ_law_161 : decode code 161 = .ok (.iload 5, 2) := by decide +kernel
theorem dZ_law_163 : decode code 163 = .ok (.if_icmp .eq 5, 3) := by decide +kernel
theorem dZ_law_166 : decode code 166 = .ok (.iconst 0, 1) := by decide +kernel
theorem dZ_law_167 : decode code 167 = .ok (.ireturn, 1) := by decide +kernel
theorem dZ_law_168 : decode code 168 = .ok (.iload 5, 2) := by decide +kernel
theorem dZ_law_170 : decode code 170 = .ok (.ifCond .ne 15, 3) := by decide +kernel
theorem dZ_law_173 : decode code 173 = .ok (.aload_n 3, 1) := by decide +kernel
theorem dZ_law_174 : decode code 174 = .ok (.iconst 0, 1) := by decide +kernel
theorem dZ_law_175 : decode code 175 = .ok (.laload, 1) := by decide +kernel
theorem dZ_law_176 : decode code 176 = .ok (.iload 6, 2) := by decide +kernel
theorem dZ_law_178 : decode code 178 = .ok (.i2l, 1) := by decide +kernel
theorem dZ_law_179 : decode code 179 = .ok (.lcmp, 1) := by decide +kernel
theorem dZ_law_180 : decode code 180 = .ok (.ifCond .eq 5, 3) := by decide +kernel
theorem dZ_law_183 : decode code 183 = .ok (.iconst 0, 1) := by decide +kernel
theorem dZ_law_184 : decode code 184 = .ok (.ireturn, 1) := by decide +kernel
theorem dZ_law_185 : decode code 185 = .ok (.goto 935, 3) := by decide +kernel
theorem dZ_law_188 : decode code 188 = .ok (.aload_n 1, 1) := by decide +kernel
theorem dZ_law_189 : decode code 189 = .ok (.aload_n 0, 1) := by decide +kernel
theorem dZ_law_190 : decode code 190 = .ok (.iload 4, 2) := by decide +kernel
theorem dZ_law_192 : decode code 192 = .ok (.iconst 1, 1) := by decide +kernel
theorem dZ_law_193 : decode code 193 = .ok (.iadd, 1) := by decide +kernel
theorem dZ_law_194 : decode code 194 = .ok (.iaload, 1) := by decide +kernel
theorem dZ_law_195 : decode code 195 = .ok (.aload_n 0, 1) := by decide +kernel
theorem dZ_law_196 : decode code 196 = .ok (.iload 4, 2) := by decide +kernel
theorem dZ_law_198 : decode code 198 = .ok (.iconst 2, 1) := by decide +kernel
theorem dZ_law_199 : decode code 199 = .ok (.iadd, 1) := by decide +kernel
theorem dZ_law_200 : decode code 200 = .ok (.iaload, 1) := by decide +kernel
theorem dZ_law_201 : decode code 201 = .ok (.aload_n 0, 1) := by decide +kernel
theorem dZ_law_202 : decode code 202 = .ok (.iload 4, 2) := by decide +kernel
theorem dZ_law_204 : decode code 204 = .ok (.iconst 3, 1) := by decide +kernel
theorem dZ_law_205 : decode code 205 = .ok (.iadd, 1) := by decide +kernel
theorem dZ_law_206 : decode code 206 = .ok (.iaload, 1) := by decide +kernel
theorem dZ_law_207 : decode code 207 = .ok (.aload_n 0, 1) := by decide +kernel
theorem dZ_law_208 : decode code 208 = .ok (.iload 4, 2) := by decide +kernel
theorem dZ_law_210 : decode code 210 = .ok (.iconst 4, 1) := by decide +kernel
theorem dZ_law_211 : decode code 211 = .ok (.iadd, 1) := by decide +kernel
theorem dZ_law_212 : decode code 212 = .ok (.iaload, 1) := by decide +kernel
theorem dZ_law_213 : decode code 213 = .ok (.aload_n 3, 1) := by decide +kernel
theorem dZ_law_214 : decode code 214 = .ok (.invokestatic 67, 3) := by decide +kernel
theorem dZ_law_217 : decode code 217 = .ok (.istore 5, 2) := by decide +kernel
theorem dZ_law_219 : decode code 219 = .ok (.aload_n 2, 1) := by decide +kernel
theorem dZ_law_220 : decode code 220 = .ok (.aload_n 0, 1) := by decide +kernel
theorem dZ_law_221 : decode code 221 = .ok (.iload 4, 2) := by decide +kernel
theorem dZ_law_223 : decode code 223 = .ok (.iconst 1, 1) := by decide +kernel
theorem dZ_law_224 : decode code 224 = .ok (.iadd, 1) := by decide +kernel
theorem dZ_law_225 : decode code 225 = .ok (.iaload, 1) := by decide +kernel
theorem dZ_law_226 : decode code 226 = .ok (.aload_n 0, 1) := by decide +kernel
theorem dZ_law_227 : decode code 227 = .ok (.iload 4, 2) := by decide +kernel
theorem dZ_law_229 : decode code 229 = .ok (.iconst 2, 1) := by decide +kernel
theorem dZ_law_230 : decode code 230 = .ok (.iadd, 1) := by decide +kernel
theorem dZ_law_231 : decode code 231 = .ok (.iaload, 1) := by decide +kernel
theorem dZ_law_232 : decode code 232 = .ok (.aload_n 0, 1) := by decide +kernel
theorem dZ_law_233 : decode code 233 = .ok (.iload 4, 2) := by decide +kernel
theorem dZ_law_235 : decode code 235 = .ok (.iconst 3, 1) := by decide +kernel
theorem dZ_law_236 : decode code 236 = .ok (.iadd, 1) := by decide +kernel
theorem dZ_law_237 : decode code 237 = .ok (.iaload, 1) := by decide +kernel
theorem dZ_law_238 : decode code 238 = .ok (.aload_n 0, 1) := by decide +kernel
theorem dZ_law_239 : decode code 239 = .ok (.iload 4, 2) := by decide +kernel
theorem dZ_law_241 : decode code 241 = .ok (.iconst 4, 1) := by decide +kernel
theorem dZ_law_242 : decode code 242 = .ok (.iadd, 1) := by decide +kernel
theorem dZ_law_243 : decode code 243 = .ok (.iaload, 1) := by decide +kernel
theorem dZ_law_244 : decode code 244 = .ok (.invokevirtual 70, 3) := by decide +kernel
theorem dZ_law_247 : decode code 247 = .ok (.istore 6, 2) := by decide +kernel
theorem dZ_law_249 : decode code 249 = .ok (.aload_n 2, 1) := by decide +kernel
theorem dZ_law_250 : decode code 250 = .ok (.invokevirtual 64, 3) := by decide +kernel
theorem dZ_law_253 : decode code 253 = .ok (.iload 5, 2) := by decide +kernel
theorem dZ_law_255 : decode code 255 = .ok (.if_icmp .eq 5, 3) := by decide +kernel
theorem dZ_law_258 : decode code 258 = .ok (.iconst 0, 1) := by decide +kernel
theorem dZ_law_259 : decode code 259 = .ok (.ireturn, 1) := by decide +kernel
theorem dZ_law_260 : decode code 260 = .ok (.iload 5, 2) := by decide +kernel
theorem dZ_law_262 : decode code 262 = .ok (.ifCond .ne 15, 3) := by decide +kernel
theorem dZ_law_265 : decode code 265 = .ok (.aload_n 3, 1) := by decide +kernel
theorem dZ_law_266 : decode code 266 = .ok (.iconst 0, 1) := by decide +kernel
theorem dZ_law_267 : decode code 267 = .ok (.laload, 1) := by decide +kernel
theorem dZ_law_268 : decode code 268 = .ok (.iload 6, 2) := by decide +kernel
theorem dZ_law_270 : decode code 270 = .ok (.i2l, 1) := by decide +kernel
theorem dZ_law_271 : decode code 271 = .ok (.lcmp, 1) := by decide +kernel
theorem dZ_law_272 : decode code 272 = .ok (.ifCond .eq 5, 3) := by decide +kernel
theorem dZ_law_275 : decode code 275 = .ok (.iconst 0, 1) := by decide +kernel
theorem dZ_law_276 : decode code 276 = .ok (.ireturn, 1) := by decide +kernel
theorem dZ_law_277 : decode code 277 = .ok (.goto 843, 3) := by decide +kernel
theorem dZ_law_280 : decode code 280 = .ok (.aload_n 1, 1) := by decide +kernel
theorem dZ_law_281 : decode code 281 = .ok (.aload_n 0, 1) := by decide +kernel
theorem dZ_law_282 : decode code 282 = .ok (.iload 4, 2) := by decide +kernel
theorem dZ_law_284 : decode code 284 = .ok (.iconst 1, 1) := by decide +kernel
theorem dZ_law_285 : decode code 285 = .ok (.iadd, 1) := by decide +kernel
theorem dZ_law_286 : decode code 286 = .ok (.iaload, 1) := by decide +kernel
theorem dZ_law_287 : decode code 287 = .ok (.aload_n 0, 1) := by decide +kernel
theorem dZ_law_288 : decode code 288 = .ok (.iload 4, 2) := by decide +kernel
theorem dZ_law_290 : decode code 290 = .ok (.iconst 2, 1) := by decide +kernel
theorem dZ_law_291 : decode code 291 = .ok (.iadd, 1) := by decide +kernel
theorem dZ_law_292 : decode code 292 = .ok (.iaload, 1) := by decide +kernel
theorem dZ_law_293 : decode code 293 = .ok (.invokevirtual 71, 3) := by decide +kernel
theorem dZ_law_296 : decode code 296 = .ok (.aload_n 2, 1) := by decide +kernel
theorem dZ_law_297 : decode code 297 = .ok (.aload_n 0, 1) := by decide +kernel
theorem dZ_law_298 : decode code 298 = .ok (.iload 4, 2) := by decide +kernel
theorem dZ_law_300 : decode code 300 = .ok (.iconst 1, 1) := by decide +kernel
theorem dZ_law_301 : decode code 301 = .ok (.iadd, 1) := by decide +kernel
theorem dZ_law_302 : decode code 302 = .ok (.iaload, 1) := by decide +kernel
theorem dZ_law_303 : decode code 303 = .ok (.aload_n 0, 1) := by decide +kernel
theorem dZ_law_304 : decode code 304 = .ok (.iload 4, 2) := by decide +kernel
theorem dZ_law_306 : decode code 306 = .ok (.iconst 2, 1) := by decide +kernel
theorem dZ_law_307 : decode code 307 = .ok (.iadd, 1) := by decide +kernel
theorem dZ_law_308 : decode code 308 = .ok (.iaload, 1) := by decide +kernel
theorem dZ_law_309 : decode code 309 = .ok (.invokevirtual 75, 3) := by decide +kernel
theorem dZ_law_312 : decode code 312 = .ok (.lcmp, 1) := by decide +kernel
theorem dZ_law_313 : decode code 313 = .ok (.ifCond .eq 807, 3) := by decide +kernel
theorem dZ_law_316 : decode code 316 = .ok (.iconst 0, 1) := by decide +kernel
theorem dZ_law_317 : decode code 317 = .ok (.ireturn, 1) := by decide +kernel
theorem dZ_law_318 : decode code 318 = .ok (.aload_n 1, 1) := by decide +kernel
theorem dZ_law_319 : decode code 319 = .ok (.aload_n 0, 1) := by decide +kernel
theorem dZ_law_320 : decode code 320 = .ok (.iload 4, 2) := by decide +kernel
theorem dZ_law_322 : decode code 322 = .ok (.iconst 1, 1) := by decide +kernel
theorem dZ_law_323 : decode code 323 = .ok (.iadd, 1) := by decide +kernel
theorem dZ_law_324 : decode code 324 = .ok (.iaload, 1) := by decide +kernel
theorem dZ_law_325 : decode code 325 = .ok (.aload_n 0, 1) := by decide +kernel
theorem dZ_law_326 : decode code 326 = .ok (.iload 4, 2) := by decide +kernel
theorem dZ_law_328 : decode code 328 = .ok (.iconst 2, 1) := by decide +kernel
theorem dZ_law_329 : decode code 329 = .ok (.iadd, 1) := by decide +kernel
theorem dZ_law_330 : decode code 330 = .ok (.iaload, 1) := by decide +kernel
theorem dZ_law_331 : decode code 331 = .ok (.invokevirtual 76, 3) := by decide +kernel
theorem dZ_law_334 : decode code 334 = .ok (.aload_n 2, 1) := by decide +kernel
theorem dZ_law_335 : decode code 335 = .ok (.aload_n 0, 1) := by decide +kernel
theorem dZ_law_336 : decode code 336 = .ok (.iload 4, 2) := by decide +kernel
theorem dZ_law_338 : decode code 338 = .ok (.iconst 1, 1) := by decide +kernel
theorem dZ_law_339 : decode code 339 = .ok (.iadd, 1) := by decide +kernel
theorem dZ_law_340 : decode code 340 = .ok (.iaload, 1) := by decide +kernel
theorem dZ_law_341 : decode code 341 = .ok (.aload_n 0, 1) := by decide +kernel
theorem dZ_law_342 : decode code 342 = .ok (.iload 4, 2) := by decide +kernel
theorem dZ_law_344 : decode code 344 = .ok (.iconst 2, 1) := by decide +kernel
theorem dZ_law_345 : decode code 345 = .ok (.iadd, 1) := by decide +kernel
theorem dZ_law_346 : decode code 346 = .ok (.iaload, 1) := by decide +kernel
theorem dZ_law_347 : decode code 347 = .ok (.invokevirtual 79, 3) := by decide +kernel
theorem dZ_law_350 : decode code 350 = .ok (.lcmp, 1) := by decide +kernel
theorem dZ_law_351 : decode code 351 = .ok (.ifCond .eq 769, 3) := by decide +kernel
theorem dZ_law_354 : decode code 354 = .ok (.iconst 0, 1) := by decide +kernel
theorem dZ_law_355 : decode code 355 = .ok (.ireturn, 1) := by decide +kernel
theorem dZ_law_356 : decode code 356 = .ok (.aload_n 1, 1) := by decide +kernel
theorem dZ_law_357 : decode code 357 = .ok (.aload_n 0, 1) := by decide +kernel
theorem dZ_law_358 : decode code 358 = .ok (.iload 4, 2) := by decide +kernel
theorem dZ_law_360 : decode code 360 = .ok (.iconst 1, 1) := by decide +kernel
theorem dZ_law_361 : decode code 361 = .ok (.iadd, 1) := by decide +kernel
theorem dZ_law_362 : decode code 362 = .ok (.iaload, 1) := by decide +kernel
theorem dZ_law_363 : decode code 363 = .ok (.aload_n 0, 1) := by decide +kernel
theorem dZ_law_364 : decode code 364 = .ok (.iload 4, 2) := by decide +kernel
theorem dZ_law_366 : decode code 366 = .ok (.iconst 2, 1) := by decide +kernel
theorem dZ_law_367 : decode code 367 = .ok (.iadd, 1) := by decide +kernel
theorem dZ_law_368 : decode code 368 = .ok (.iaload, 1) := by decide +kernel
theorem dZ_law_369 : decode code 369 = .ok (.ifCond .eq 7, 3) := by decide +kernel
theorem dZ_law_372 : decode code 372 = .ok (.iconst 1, 1) := by decide +kernel
theorem dZ_law_373 : decode code 373 = .ok (.goto 4, 3) := by decide +kernel
theorem dZ_law_376 : decode code 376 = .ok (.iconst 0, 1) := by decide +kernel
theorem dZ_law_377 : decode code 377 = .ok (.aload_n 3, 1) := by decide +kernel
theorem dZ_law_378 : decode code 378 = .ok (.invokestatic 80, 3) := by decide +kernel
theorem dZ_law_381 : decode code 381 = .ok (.istore 5, 2) := by decide +kernel
theorem dZ_law_383 : decode code 383 = .ok (.aload_n 2, 1) := by decide +kernel
theorem dZ_law_384 : decode code 384 = .ok (.aload_n 0, 1) := by decide +kernel
theorem dZ_law_385 : decode code 385 = .ok (.iload 4, 2) := by decide +kernel
theorem dZ_law_387 : decode code 387 = .ok (.iconst 1, 1) := by decide +kernel
theorem dZ_law_388 : decode code 388 = .ok (.iadd, 1) := by decide +kernel
theorem dZ_law_389 : decode code 389 = .ok (.iaload, 1) := by decide +kernel
theorem dZ_law_390 : decode code 390 = .ok (.aload_n 0, 1) := by decide +kernel
theorem dZ_law_391 : decode code 391 = .ok (.iload 4, 2) := by decide +kernel
theorem dZ_law_393 : decode code 393 = .ok (.iconst 2, 1) := by decide +kernel
theorem dZ_law_394 : decode code 394 = .ok (.iadd, 1) := by decide +kernel
theorem dZ_law_395 : decode code 395 = .ok (.iaload, 1) := by decide +kernel
theorem dZ_law_396 : decode code 396 = .ok (.ifCond .eq 7, 3) := by decide +kernel
theorem dZ_law_399 : decode code 399 = .ok (.iconst 1, 1) := by decide +kernel
theorem dZ_law_400 : decode code 400 = .ok (.goto 4, 3) := by decide +kernel
theorem dZ_law_403 : decode code 403 = .ok (.iconst 0, 1) := by decide +kernel
theorem dZ_law_404 : decode code 404 = .ok (.invokevirtual 83, 3) := by decide +kernel
theorem dZ_law_407 : decode code 407 = .ok (.istore 6, 2) := by decide +kernel
theorem dZ_law_409 : decode code 409 = .ok (.aload_n 2, 1) := by decide +kernel
theorem dZ_law_410 : decode code 410 = .ok (.invokevirtual 64, 3) := by decide +kernel
theorem dZ_law_413 : decode code 413 = .ok (.iload 5, 2) := by decide +kernel
theorem dZ_law_415 : decode code 415 = .ok (.if_icmp .eq 5, 3) := by decide +kernel
theorem dZ_law_418 : decode code 418 = .ok (.iconst 0, 1) := by decide +kernel
theorem dZ_law_419 : decode code 419 = .ok (.ireturn, 1) := by decide +kernel
theorem dZ_law_420 : decode code 420 = .ok (.iload 5, 2) := by decide +kernel
theorem dZ_law_422 : decode code 422 = .ok (.ifCond .ne 15, 3) := by decide +kernel
theorem dZ_law_425 : decode code 425 = .ok (.aload_n 3, 1) := by decide +kernel
theorem dZ_law_426 : decode code 426 = .ok (.iconst 0, 1) := by decide +kernel
theorem dZ_law_427 : decode code 427 = .ok (.laload, 1) := by decide +kernel
theorem dZ_law_428 : decode code 428 = .ok (.iload 6, 2) := by decide +kernel
theorem dZ_law_430 : decode code 430 = .ok (.i2l, 1) := by decide +kernel
theorem dZ_law_431 : decode code 431 = .ok (.lcmp, 1) := by decide +kernel
theorem dZ_law_432 : decode code 432 = .ok (.ifCond .eq 5, 3) := by decide +kernel
theorem dZ_law_435 : decode code 435 = .ok (.iconst 0, 1) := by decide +kernel
theorem dZ_law_436 : decode code 436 = .ok (.ireturn, 1) := by decide +kernel
theorem dZ_law_437 : decode code 437 = .ok (.goto 683, 3) := by decide +kernel
theorem dZ_law_440 : decode code 440 = .ok (.aload_n 1, 1) := by decide +kernel
theorem dZ_law_441 : decode code 441 = .ok (.aload_n 0, 1) := by decide +kernel
theorem dZ_law_442 : decode code 442 = .ok (.iload 4, 2) := by decide +kernel
theorem dZ_law_444 : decode code 444 = .ok (.iconst 1, 1) := by decide +kernel
theorem dZ_law_445 : decode code 445 = .ok (.iadd, 1) := by decide +kernel
theorem dZ_law_446 : decode code 446 = .ok (.iaload, 1) := by decide +kernel
theorem dZ_law_447 : decode code 447 = .ok (.aload_n 0, 1) := by decide +kernel
theorem dZ_law_448 : decode code 448 = .ok (.iload 4, 2) := by decide +kernel
theorem dZ_law_450 : decode code 450 = .ok (.iconst 2, 1) := by decide +kernel
theorem dZ_law_451 : decode code 451 = .ok (.iadd, 1) := by decide +kernel
theorem dZ_law_452 : decode code 452 = .ok (.iaload, 1) := by decide +kernel
theorem dZ_law_453 : decode code 453 = .ok (.aload_n 3, 1) := by decide +kernel
theorem dZ_law_454 : decode code 454 = .ok (.invokestatic 84, 3) := by decide +kernel
theorem dZ_law_457 : decode code 457 = .ok (.istore 5, 2) := by decide +kernel
theorem dZ_law_459 : decode code 459 = .ok (.aload_n 2, 1) := by decide +kernel
theorem dZ_law_460 : decode code 460 = .ok (.aload_n 0, 1) := by decide +kernel
theorem dZ_law_461 : decode code 461 = .ok (.iload 4, 2) := by decide +kernel
theorem dZ_law_463 : decode code 463 = .ok (.iconst 1, 1) := by decide +kernel
theorem dZ_law_464 : decode code 464 = .ok (.iadd, 1) := by decide +kernel
theorem dZ_law_465 : decode code 465 = .ok (.iaload, 1) := by decide +kernel
theorem dZ_law_466 : decode code 466 = .ok (.aload_n 0, 1) := by decide +kernel
theorem dZ_law_467 : decode code 467 = .ok (.iload 4, 2) := by decide +kernel
theorem dZ_law_469 : decode code 469 = .ok (.iconst 2, 1) := by decide +kernel
theorem dZ_law_470 : decode code 470 = .ok (.iadd, 1) := by decide +kernel
theorem dZ_law_471 : decode code 471 = .ok (.iaload, 1) := by decide +kernel
theorem dZ_law_472 : decode code 472 = .ok (.invokevirtual 87, 3) := by decide +kernel
theorem dZ_law_475 : decode code 475 = .ok (.istore 6, 2) := by decide +kernel
theorem dZ_law_477 : decode code 477 = .ok (.aload_n 2, 1) := by decide +kernel
theorem dZ_law_478 : decode code 478 = .ok (.invokevirtual 64, 3) := by decide +kernel
theorem dZ_law_481 : decode code 481 = .ok (.iload 5, 2) := by decide +kernel
theorem dZ_law_483 : decode code 483 = .ok (.if_icmp .eq 5, 3) := by decide +kernel
theorem dZ_law_486 : decode code 486 = .ok (.iconst 0, 1) := by decide +kernel
theorem dZ_law_487 : decode code 487 = .ok (.ireturn, 1) := by decide +kernel
theorem dZ_law_488 : decode code 488 = .ok (.iload 5, 2) := by decide +kernel
theorem dZ_law_490 : decode code 490 = .ok (.ifCond .ne 15, 3) := by decide +kernel
theorem dZ_law_493 : decode code 493 = .ok (.aload_n 3, 1) := by decide +kernel
theorem dZ_law_494 : decode code 494 = .ok (.iconst 0, 1) := by decide +kernel
theorem dZ_law_495 : decode code 495 = .ok (.laload, 1) := by decide +kernel
theorem dZ_law_496 : decode code 496 = .ok (.iload 6, 2) := by decide +kernel
theorem dZ_law_498 : decode code 498 = .ok (.i2l, 1) := by decide +kernel
theorem dZ_law_499 : decode code 499 = .ok (.lcmp, 1) := by decide +kernel
theorem dZ_law_500 : decode code 500 = .ok (.ifCond .eq 5, 3) := by decide +kernel
theorem dZ_law_503 : decode code 503 = .ok (.iconst 0, 1) := by decide +kernel
theorem dZ_law_504 : decode code 504 = .ok (.ireturn, 1) := by decide +kernel
theorem dZ_law_505 : decode code 505 = .ok (.goto 615, 3) := by decide +kernel
theorem dZ_law_508 : decode code 508 = .ok (.aload_n 1, 1) := by decide +kernel
theorem dZ_law_509 : decode code 509 = .ok (.aload_n 0, 1) := by decide +kernel
theorem dZ_law_510 : decode code 510 = .ok (.iload 4, 2) := by decide +kernel
theorem dZ_law_512 : decode code 512 = .ok (.iconst 1, 1) := by decide +kernel
theorem dZ_law_513 : decode code 513 = .ok (.iadd, 1) := by decide +kernel
theorem dZ_law_514 : decode code 514 = .ok (.iaload, 1) := by decide +kernel
theorem dZ_law_515 : decode code 515 = .ok (.aload_n 3, 1) := by decide +kernel
theorem dZ_law_516 : decode code 516 = .ok (.invokestatic 88, 3) := by decide +kernel
theorem dZ_law_519 : decode code 519 = .ok (.istore 5, 2) := by decide +kernel
theorem dZ_law_521 : decode code 521 = .ok (.aload_n 2, 1) := by decide +kernel
theorem dZ_law_522 : decode code 522 = .ok (.aload_n 0, 1) := by decide +kernel
theorem dZ_law_523 : decode code 523 = .ok (.iload 4, 2) := by decide +kernel
theorem dZ_law_525 : decode code 525 = .ok (.iconst 1, 1) := by decide +kernel
theorem dZ_law_526 : decode code 526 = .ok (.iadd, 1) := by decide +kernel
theorem dZ_law_527 : decode code 527 = .ok (.iaload, 1) := by decide +kernel
theorem dZ_law_528 : decode code 528 = .ok (.invokevirtual 90, 3) := by decide +kernel
theorem dZ_law_531 : decode code 531 = .ok (.istore 6, 2) := by decide +kernel
theorem dZ_law_533 : decode code 533 = .ok (.aload_n 2, 1) := by decide +kernel
theorem dZ_law_534 : decode code 534 = .ok (.invokevirtual 64, 3) := by decide +kernel
theorem dZ_law_537 : decode code 537 = .ok (.iload 5, 2) := by decide +kernel
theorem dZ_law_539 : decode code 539 = .ok (.if_icmp .eq 5, 3) := by decide +kernel
theorem dZ_law_542 : decode code 542 = .ok (.iconst 0, 1) := by decide +kernel
theorem dZ_law_543 : decode code 543 = .ok (.ireturn, 1) := by decide +kernel
theorem dZ_law_544 : decode code 544 = .ok (.iload 5, 2) := by decide +kernel
theorem dZ_law_546 : decode code 546 = .ok (.ifCond .ne 15, 3) := by decide +kernel
theorem dZ_law_549 : decode code 549 = .ok (.aload_n 3, 1) := by decide +kernel
theorem dZ_law_550 : decode code 550 = .ok (.iconst 0, 1) := by decide +kernel
theorem dZ_law_551 : decode code 551 = .ok (.laload, 1) := by decide +kernel
theorem dZ_law_552 : decode code 552 = .ok (.iload 6, 2) := by decide +kernel
theorem dZ_law_554 : decode code 554 = .ok (.i2l, 1) := by decide +kernel
theorem dZ_law_555 : decode code 555 = .ok (.lcmp, 1) := by decide +kernel
theorem dZ_law_556 : decode code 556 = .ok (.ifCond .eq 5, 3) := by decide +kernel
theorem dZ_law_559 : decode code 559 = .ok (.iconst 0, 1) := by decide +kernel
theorem dZ_law_560 : decode code 560 = .ok (.ireturn, 1) := by decide +kernel
theorem dZ_law_561 : decode code 561 = .ok (.goto 559, 3) := by decide +kernel
theorem dZ_law_564 : decode code 564 = .ok (.aload_n 1, 1) := by decide +kernel
theorem dZ_law_565 : decode code 565 = .ok (.aload_n 0, 1) := by decide +kernel
theorem dZ_law_566 : decode code 566 = .ok (.iload 4, 2) := by decide +kernel
theorem dZ_law_568 : decode code 568 = .ok (.iconst 1, 1) := by decide +kernel
theorem dZ_law_569 : decode code 569 = .ok (.iadd, 1) := by decide +kernel
theorem dZ_law_570 : decode code 570 = .ok (.iaload, 1) := by decide +kernel
theorem dZ_law_571 : decode code 571 = .ok (.aload_n 0, 1) := by decide +kernel
theorem dZ_law_572 : decode code 572 = .ok (.iload 4, 2) := by decide +kernel
theorem dZ_law_574 : decode code 574 = .ok (.iconst 2, 1) := by decide +kernel
theorem dZ_law_575 : decode code 575 = .ok (.iadd, 1) := by decide +kernel
theorem dZ_law_576 : decode code 576 = .ok (.iaload, 1) := by decide +kernel
theorem dZ_law_577 : decode code 577 = .ok (.aload_n 3, 1) := by decide +kernel
theorem dZ_law_578 : decode code 578 = .ok (.invokestatic 91, 3) := by decide +kernel
theorem dZ_law_581 : decode code 581 = .ok (.istore 5, 2) := by decide +kernel
theorem dZ_law_583 : decode code 583 = .ok (.aload_n 2, 1) := by decide +kernel
theorem dZ_law_584 : decode code 584 = .ok (.aload_n 0, 1) := by decide +kernel
theorem dZ_law_585 : decode code 585 = .ok (.iload 4, 2) := by decide +kernel
theorem dZ_law_587 : decode code 587 = .ok (.iconst 1, 1) := by decide +kernel
theorem dZ_law_588 : decode code 588 = .ok (.iadd, 1) := by decide +kernel
theorem dZ_law_589 : decode code 589 = .ok (.iaload, 1) := by decide +kernel
theorem dZ_law_590 : decode code 590 = .ok (.aload_n 0, 1) := by decide +kernel
theorem dZ_law_591 : decode code 591 = .ok (.iload 4, 2) := by decide +kernel
theorem dZ_law_593 : decode code 593 = .ok (.iconst 2, 1) := by decide +kernel
theorem dZ_law_594 : decode code 594 = .ok (.iadd, 1) := by decide +kernel
theorem dZ_law_595 : decode code 595 = .ok (.iaload, 1) := by decide +kernel
theorem dZ_law_596 : decode code 596 = .ok (.invokevirtual 93, 3) := by decide +kernel
theorem dZ_law_599 : decode code 599 = .ok (.istore 6, 2) := by decide +kernel
theorem dZ_law_601 : decode code 601 = .ok (.aload_n 2, 1) := by decide +kernel
theorem dZ_law_602 : decode code 602 = .ok (.invokevirtual 64, 3) := by decide +kernel
theorem dZ_law_605 : decode code 605 = .ok (.iload 5, 2) := by decide +kernel
theorem dZ_law_607 : decode code 607 = .ok (.if_icmp .eq 5, 3) := by decide +kernel
theorem dZ_law_610 : decode code 610 = .ok (.iconst 0, 1) := by decide +kernel
theorem dZ_law_611 : decode code 611 = .ok (.ireturn, 1) := by decide +kernel
theorem dZ_law_612 : decode code 612 = .ok (.iload 5, 2) := by decide +kernel
theorem dZ_law_614 : decode code 614 = .ok (.ifCond .ne 15, 3) := by decide +kernel
theorem dZ_law_617 : decode code 617 = .ok (.aload_n 3, 1) := by decide +kernel
theorem dZ_law_618 : decode code 618 = .ok (.iconst 0, 1) := by decide +kernel
theorem dZ_law_619 : decode code 619 = .ok (.laload, 1) := by decide +kernel
theorem dZ_law_620 : decode code 620 = .ok (.iload 6, 2) := by decide +kernel
theorem dZ_law_622 : decode code 622 = .ok (.i2l, 1) := by decide +kernel
theorem dZ_law_623 : decode code 623 = .ok (.lcmp, 1) := by decide +kernel
theorem dZ_law_624 : decode code 624 = .ok (.ifCond .eq 5, 3) := by decide +kernel
theorem dZ_law_627 : decode code 627 = .ok (.iconst 0, 1) := by decide +kernel
theorem dZ_law_628 : decode code 628 = .ok (.ireturn, 1) := by decide +kernel
theorem dZ_law_629 : decode code 629 = .ok (.goto 491, 3) := by decide +kernel
theorem dZ_law_632 : decode code 632 = .ok (.aload_n 1, 1) := by decide +kernel
theorem dZ_law_633 : decode code 633 = .ok (.aload_n 0, 1) := by decide +kernel
theorem dZ_law_634 : decode code 634 = .ok (.iload 4, 2) := by decide +kernel
theorem dZ_law_636 : decode code 636 = .ok (.iconst 1, 1) := by decide +kernel
theorem dZ_law_637 : decode code 637 = .ok (.iadd, 1) := by decide +kernel
theorem dZ_law_638 : decode code 638 = .ok (.iaload, 1) := by decide +kernel
theorem dZ_law_639 : decode code 639 = .ok (.aload_n 0, 1) := by decide +kernel
theorem dZ_law_640 : decode code 640 = .ok (.iload 4, 2) := by decide +kernel
theorem dZ_law_642 : decode code 642 = .ok (.iconst 2, 1) := by decide +kernel
theorem dZ_law_643 : decode code 643 = .ok (.iadd, 1) := by decide +kernel
theorem dZ_law_644 : decode code 644 = .ok (.iaload, 1) := by decide +kernel
theorem dZ_law_645 : decode code 645 = .ok (.aload_n 3, 1) := by decide +kernel
theorem dZ_law_646 : decode code 646 = .ok (.invokestatic 94, 3) := by decide +kernel
theorem dZ_law_649 : decode code 649 = .ok (.istore 5, 2) := by decide +kernel
theorem dZ_law_651 : decode code 651 = .ok (.aload_n 2, 1) := by decide +kernel
theorem dZ_law_652 : decode code 652 = .ok (.aload_n 0, 1) := by decide +kernel
theorem dZ_law_653 : decode code 653 = .ok (.iload 4, 2) := by decide +kernel
theorem dZ_law_655 : decode code 655 = .ok (.iconst 1, 1) := by decide +kernel
theorem dZ_law_656 : decode code 656 = .ok (.iadd, 1) := by decide +kernel
theorem dZ_law_657 : decode code 657 = .ok (.iaload, 1) := by decide +kernel
theorem dZ_law_658 : decode code 658 = .ok (.aload_n 0, 1) := by decide +kernel
theorem dZ_law_659 : decode code 659 = .ok (.iload 4, 2) := by decide +kernel
theorem dZ_law_661 : decode code 661 = .ok (.iconst 2, 1) := by decide +kernel
theorem dZ_law_662 : decode code 662 = .ok (.iadd, 1) := by decide +kernel
theorem dZ_law_663 : decode code 663 = .ok (.iaload, 1) := by decide +kernel
theorem dZ_law_664 : decode code 664 = .ok (.invokevirtual 96, 3) := by decide +kernel
theorem dZ_law_667 : decode code 667 = .ok (.istore 6, 2) := by decide +kernel
theorem dZ_law_669 : decode code 669 = .ok (.aload_n 2, 1) := by decide +kernel
theorem dZ_law_670 : decode code 670 = .ok (.invokevirtual 64, 3) := by decide +kernel
theorem dZ_law_673 : decode code 673 = .ok (.iload 5, 2) := by decide +kernel
theorem dZ_law_675 : decode code 675 = .ok (.if_icmp .eq 5, 3) := by decide +kernel
theorem dZ_law_678 : decode code 678 = .ok (.iconst 0, 1) := by decide +kernel
theorem dZ_law_679 : decode code 679 = .ok (.ireturn, 1) := by decide +kernel
theorem dZ_law_680 : decode code 680 = .ok (.iload 5, 2) := by decide +kernel
theorem dZ_law_682 : decode code 682 = .ok (.ifCond .ne 15, 3) := by decide +kernel
theorem dZ_law_685 : decode code 685 = .ok (.aload_n 3, 1) := by decide +kernel
theorem dZ_law_686 : decode code 686 = .ok (.iconst 0, 1) := by decide +kernel
theorem dZ_law_687 : decode code 687 = .ok (.laload, 1) := by decide +kernel
theorem dZ_law_688 : decode code 688 = .ok (.iload 6, 2) := by decide +kernel
theorem dZ_law_690 : decode code 690 = .ok (.i2l, 1) := by decide +kernel
theorem dZ_law_691 : decode code 691 = .ok (.lcmp, 1) := by decide +kernel
theorem dZ_law_692 : decode code 692 = .ok (.ifCond .eq 5, 3) := by decide +kernel
theorem dZ_law_695 : decode code 695 = .ok (.iconst 0, 1) := by decide +kernel
theorem dZ_law_696 : decode code 696 = .ok (.ireturn, 1) := by decide +kernel
theorem dZ_law_697 : decode code 697 = .ok (.goto 423, 3) := by decide +kernel
theorem dZ_law_700 : decode code 700 = .ok (.aload_n 1, 1) := by decide +kernel
theorem dZ_law_701 : decode code 701 = .ok (.aload_n 0, 1) := by decide +kernel
theorem dZ_law_702 : decode code 702 = .ok (.iload 4, 2) := by decide +kernel
theorem dZ_law_704 : decode code 704 = .ok (.iconst 1, 1) := by decide +kernel
theorem dZ_law_705 : decode code 705 = .ok (.iadd, 1) := by decide +kernel
theorem dZ_law_706 : decode code 706 = .ok (.iaload, 1) := by decide +kernel
theorem dZ_law_707 : decode code 707 = .ok (.invokevirtual 97, 3) := by decide +kernel
theorem dZ_law_710 : decode code 710 = .ok (.aload_n 2, 1) := by decide +kernel
theorem dZ_law_711 : decode code 711 = .ok (.aload_n 0, 1) := by decide +kernel
theorem dZ_law_712 : decode code 712 = .ok (.iload 4, 2) := by decide +kernel
theorem dZ_law_714 : decode code 714 = .ok (.iconst 1, 1) := by decide +kernel
theorem dZ_law_715 : decode code 715 = .ok (.iadd, 1) := by decide +kernel
theorem dZ_law_716 : decode code 716 = .ok (.iaload, 1) := by decide +kernel
theorem dZ_law_717 : decode code 717 = .ok (.invokevirtual 100, 3) := by decide +kernel
theorem dZ_law_720 : decode code 720 = .ok (.if_icmp .eq 400, 3) := by decide +kernel
theorem dZ_law_723 : decode code 723 = .ok (.iconst 0, 1) := by decide +kernel
theorem dZ_law_724 : decode code 724 = .ok (.ireturn, 1) := by decide +kernel
theorem dZ_law_725 : decode code 725 = .ok (.aload_n 1, 1) := by decide +kernel
theorem dZ_law_726 : decode code 726 = .ok (.invokevirtual 101, 3) := by decide +kernel
theorem dZ_law_729 : decode code 729 = .ok (.aload_n 2, 1) := by decide +kernel
theorem dZ_law_730 : decode code 730 = .ok (.invokevirtual 104, 3) := by decide +kernel
theorem dZ_law_733 : decode code 733 = .ok (.if_icmp .eq 387, 3) := by decide +kernel
theorem dZ_law_736 : decode code 736 = .ok (.iconst 0, 1) := by decide +kernel
theorem dZ_law_737 : decode code 737 = .ok (.ireturn, 1) := by decide +kernel
theorem dZ_law_738 : decode code 738 = .ok (.aload_n 1, 1) := by decide +kernel
theorem dZ_law_739 : decode code 739 = .ok (.aload_n 0, 1) := by decide +kernel
theorem dZ_law_740 : decode code 740 = .ok (.iload 4, 2) := by decide +kernel
theorem dZ_law_742 : decode code 742 = .ok (.iconst 1, 1) := by decide +kernel
theorem dZ_law_743 : decode code 743 = .ok (.iadd, 1) := by decide +kernel
theorem dZ_law_744 : decode code 744 = .ok (.iaload, 1) := by decide +kernel
theorem dZ_law_745 : decode code 745 = .ok (.aload_n 0, 1) := by decide +kernel
theorem dZ_law_746 : decode code 746 = .ok (.iload 4, 2) := by decide +kernel
theorem dZ_law_748 : decode code 748 = .ok (.iconst 2, 1) := by decide +kernel
theorem dZ_law_749 : decode code 749 = .ok (.iadd, 1) := by decide +kernel
theorem dZ_law_750 : decode code 750 = .ok (.iaload, 1) := by decide +kernel
theorem dZ_law_751 : decode code 751 = .ok (.invokevirtual 105, 3) := by decide +kernel
theorem dZ_law_754 : decode code 754 = .ok (.aload_n 2, 1) := by decide +kernel
theorem dZ_law_755 : decode code 755 = .ok (.aload_n 0, 1) := by decide +kernel
theorem dZ_law_756 : decode code 756 = .ok (.iload 4, 2) := by decide +kernel
theorem dZ_law_758 : decode code 758 = .ok (.iconst 1, 1) := by decide +kernel
theorem dZ_law_759 : decode code 759 = .ok (.iadd, 1) := by decide +kernel
theorem dZ_law_760 : decode code 760 = .ok (.iaload, 1) := by decide +kernel
theorem dZ_law_761 : decode code 761 = .ok (.aload_n 0, 1) := by decide +kernel
theorem dZ_law_762 : decode code 762 = .ok (.iload 4, 2) := by decide +kernel
theorem dZ_law_764 : decode code 764 = .ok (.iconst 2, 1) := by decide +kernel
theorem dZ_law_765 : decode code 765 = .ok (.iadd, 1) := by decide +kernel
theorem dZ_law_766 : decode code 766 = .ok (.iaload, 1) := by decide +kernel
theorem dZ_law_767 : decode code 767 = .ok (.invokevirtual 109, 3) := by decide +kernel
theorem dZ_law_770 : decode code 770 = .ok (.if_icmp .eq 350, 3) := by decide +kernel
theorem dZ_law_773 : decode code 773 = .ok (.iconst 0, 1) := by decide +kernel
theorem dZ_law_774 : decode code 774 = .ok (.ireturn, 1) := by decide +kernel
theorem dZ_law_775 : decode code 775 = .ok (.aload_n 1, 1) := by decide +kernel
theorem dZ_law_776 : decode code 776 = .ok (.aload_n 0, 1) := by decide +kernel
theorem dZ_law_777 : decode code 777 = .ok (.iload 4, 2) := by decide +kernel
theorem dZ_law_779 : decode code 779 = .ok (.iconst 1, 1) := by decide +kernel
theorem dZ_law_780 : decode code 780 = .ok (.iadd, 1) := by decide +kernel
theorem dZ_law_781 : decode code 781 = .ok (.iaload, 1) := by decide +kernel
theorem dZ_law_782 : decode code 782 = .ok (.aload_n 0, 1) := by decide +kernel
theorem dZ_law_783 : decode code 783 = .ok (.iload 4, 2) := by decide +kernel
theorem dZ_law_785 : decode code 785 = .ok (.iconst 2, 1) := by decide +kernel
theorem dZ_law_786 : decode code 786 = .ok (.iadd, 1) := by decide +kernel
theorem dZ_law_787 : decode code 787 = .ok (.iaload, 1) := by decide +kernel
theorem dZ_law_788 : decode code 788 = .ok (.invokevirtual 110, 3) := by decide +kernel
theorem dZ_law_791 : decode code 791 = .ok (.aload_n 2, 1) := by decide +kernel
theorem dZ_law_792 : decode code 792 = .ok (.aload_n 0, 1) := by decide +kernel
theorem dZ_law_793 : decode code 793 = .ok (.iload 4, 2) := by decide +kernel
theorem dZ_law_795 : decode code 795 = .ok (.iconst 1, 1) := by decide +kernel
theorem dZ_law_796 : decode code 796 = .ok (.iadd, 1) := by decide +kernel
theorem dZ_law_797 : decode code 797 = .ok (.iaload, 1) := by decide +kernel
theorem dZ_law_798 : decode code 798 = .ok (.aload_n 0, 1) := by decide +kernel
theorem dZ_law_799 : decode code 799 = .ok (.iload 4, 2) := by decide +kernel
theorem dZ_law_801 : decode code 801 = .ok (.iconst 2, 1) := by decide +kernel
theorem dZ_law_802 : decode code 802 = .ok (.iadd, 1) := by decide +kernel
theorem dZ_law_803 : decode code 803 = .ok (.iaload, 1) := by decide +kernel
theorem dZ_law_804 : decode code 804 = .ok (.invokevirtual 113, 3) := by decide +kernel
theorem dZ_law_807 : decode code 807 = .ok (.lcmp, 1) := by decide +kernel
theorem dZ_law_808 : decode code 808 = .ok (.ifCond .eq 312, 3) := by decide +kernel
theorem dZ_law_811 : decode code 811 = .ok (.iconst 0, 1) := by decide +kernel
theorem dZ_law_812 : decode code 812 = .ok (.ireturn, 1) := by decide +kernel
theorem dZ_law_813 : decode code 813 = .ok (.aload_n 1, 1) := by decide +kernel
theorem dZ_law_814 : decode code 814 = .ok (.aload_n 3, 1) := by decide +kernel
theorem dZ_law_815 : decode code 815 = .ok (.invokestatic 114, 3) := by decide +kernel
theorem dZ_law_818 : decode code 818 = .ok (.istore 5, 2) := by decide +kernel
theorem dZ_law_820 : decode code 820 = .ok (.aload_n 2, 1) := by decide +kernel
theorem dZ_law_821 : decode code 821 = .ok (.invokevirtual 117, 3) := by decide +kernel
theorem dZ_law_824 : decode code 824 = .ok (.istore 6, 2) := by decide +kernel
theorem dZ_law_826 : decode code 826 = .ok (.aload_n 2, 1) := by decide +kernel
theorem dZ_law_827 : decode code 827 = .ok (.invokevirtual 64, 3) := by decide +kernel
theorem dZ_law_830 : decode code 830 = .ok (.iload 5, 2) := by decide +kernel
theorem dZ_law_832 : decode code 832 = .ok (.if_icmp .eq 5, 3) := by decide +kernel
theorem dZ_law_835 : decode code 835 = .ok (.iconst 0, 1) := by decide +kernel
theorem dZ_law_836 : decode code 836 = .ok (.ireturn, 1) := by decide +kernel
theorem dZ_law_837 : decode code 837 = .ok (.iload 5, 2) := by decide +kernel
theorem dZ_law_839 : decode code 839 = .ok (.ifCond .ne 15, 3) := by decide +kernel
theorem dZ_law_842 : decode code 842 = .ok (.aload_n 3, 1) := by decide +kernel
theorem dZ_law_843 : decode code 843 = .ok (.iconst 0, 1) := by decide +kernel
theorem dZ_law_844 : decode code 844 = .ok (.laload, 1) := by decide +kernel
theorem dZ_law_845 : decode code 845 = .ok (.iload 6, 2) := by decide +kernel
theorem dZ_law_847 : decode code 847 = .ok (.i2l, 1) := by decide +kernel
theorem dZ_law_848 : decode code 848 = .ok (.lcmp, 1) := by decide +kernel
theorem dZ_law_849 : decode code 849 = .ok (.ifCond .eq 5, 3) := by decide +kernel
theorem dZ_law_852 : decode code 852 = .ok (.iconst 0, 1) := by decide +kernel
theorem dZ_law_853 : decode code 853 = .ok (.ireturn, 1) := by decide +kernel
theorem dZ_law_854 : decode code 854 = .ok (.goto 266, 3) := by decide +kernel
theorem dZ_law_857 : decode code 857 = .ok (.aload_n 1, 1) := by decide +kernel
theorem dZ_law_858 : decode code 858 = .ok (.aload_n 0, 1) := by decide +kernel
theorem dZ_law_859 : decode code 859 = .ok (.iload 4, 2) := by decide +kernel
theorem dZ_law_861 : decode code 861 = .ok (.iconst 1, 1) := by decide +kernel
theorem dZ_law_862 : decode code 862 = .ok (.iadd, 1) := by decide +kernel
theorem dZ_law_863 : decode code 863 = .ok (.iaload, 1) := by decide +kernel
theorem dZ_law_864 : decode code 864 = .ok (.aload_n 3, 1) := by decide +kernel
theorem dZ_law_865 : decode code 865 = .ok (.invokestatic 118, 3) := by decide +kernel
theorem dZ_law_868 : decode code 868 = .ok (.istore 5, 2) := by decide +kernel
theorem dZ_law_870 : decode code 870 = .ok (.aload_n 2, 1) := by decide +kernel
theorem dZ_law_871 : decode code 871 = .ok (.aload_n 0, 1) := by decide +kernel
theorem dZ_law_872 : decode code 872 = .ok (.iload 4, 2) := by decide +kernel
theorem dZ_law_874 : decode code 874 = .ok (.iconst 1, 1) := by decide +kernel
theorem dZ_law_875 : decode code 875 = .ok (.iadd, 1) := by decide +kernel
theorem dZ_law_876 : decode code 876 = .ok (.iaload, 1) := by decide +kernel
theorem dZ_law_877 : decode code 877 = .ok (.invokevirtual 120, 3) := by decide +kernel
theorem dZ_law_880 : decode code 880 = .ok (.istore 6, 2) := by decide +kernel
theorem dZ_law_882 : decode code 882 = .ok (.aload_n 2, 1) := by decide +kernel
theorem dZ_law_883 : decode code 883 = .ok (.invokevirtual 64, 3) := by decide +kernel
theorem dZ_law_886 : decode code 886 = .ok (.iload 5, 2) := by decide +kernel
theorem dZ_law_888 : decode code 888 = .ok (.if_icmp .eq 5, 3) := by decide +kernel
theorem dZ_law_891 : decode code 891 = .ok (.iconst 0, 1) := by decide +kernel
theorem dZ_law_892 : decode code 892 = .ok (.ireturn, 1) := by decide +kernel
theorem dZ_law_893 : decode code 893 = .ok (.iload 5, 2) := by decide +kernel
theorem dZ_law_895 : decode code 895 = .ok (.ifCond .ne 15, 3) := by decide +kernel
theorem dZ_law_898 : decode code 898 = .ok (.aload_n 3, 1) := by decide +kernel
theorem dZ_law_899 : decode code 899 = .ok (.iconst 0, 1) := by decide +kernel
theorem dZ_law_900 : decode code 900 = .ok (.laload, 1) := by decide +kernel
theorem dZ_law_901 : decode code 901 = .ok (.iload 6, 2) := by decide +kernel
theorem dZ_law_903 : decode code 903 = .ok (.i2l, 1) := by decide +kernel
theorem dZ_law_904 : decode code 904 = .ok (.lcmp, 1) := by decide +kernel
theorem dZ_law_905 : decode code 905 = .ok (.ifCond .eq 5, 3) := by decide +kernel
theorem dZ_law_908 : decode code 908 = .ok (.iconst 0, 1) := by decide +kernel
theorem dZ_law_909 : decode code 909 = .ok (.ireturn, 1) := by decide +kernel
theorem dZ_law_910 : decode code 910 = .ok (.goto 210, 3) := by decide +kernel
theorem dZ_law_913 : decode code 913 = .ok (.aload_n 1, 1) := by decide +kernel
theorem dZ_law_914 : decode code 914 = .ok (.aload_n 3, 1) := by decide +kernel
theorem dZ_law_915 : decode code 915 = .ok (.invokestatic 121, 3) := by decide +kernel
theorem dZ_law_918 : decode code 918 = .ok (.istore 5, 2) := by decide +kernel
theorem dZ_law_920 : decode code 920 = .ok (.aload_n 2, 1) := by decide +kernel
theorem dZ_law_921 : decode code 921 = .ok (.invokevirtual 123, 3) := by decide +kernel
theorem dZ_law_924 : decode code 924 = .ok (.istore 6, 2) := by decide +kernel
theorem dZ_law_926 : decode code 926 = .ok (.aload_n 2, 1) := by decide +kernel
theorem dZ_law_927 : decode code 927 = .ok (.invokevirtual 64, 3) := by decide +kernel
theorem dZ_law_930 : decode code 930 = .ok (.iload 5, 2) := by decide +kernel
theorem dZ_law_932 : decode code 932 = .ok (.if_icmp .eq 5, 3) := by decide +kernel
theorem dZ_law_935 : decode code 935 = .ok (.iconst 0, 1) := by decide +kernel
theorem dZ_law_936 : decode code 936 = .ok (.ireturn, 1) := by decide +kernel
theorem dZ_law_937 : decode code 937 = .ok (.iload 5, 2) := by decide +kernel
theorem dZ_law_939 : decode code 939 = .ok (.ifCond .ne 15, 3) := by decide +kernel
theorem dZ_law_942 : decode code 942 = .ok (.aload_n 3, 1) := by decide +kernel
theorem dZ_law_943 : decode code 943 = .ok (.iconst 0, 1) := by decide +kernel
theorem dZ_law_944 : decode code 944 = .ok (.laload, 1) := by decide +kernel
theorem dZ_law_945 : decode code 945 = .ok (.iload 6, 2) := by decide +kernel
theorem dZ_law_947 : decode code 947 = .ok (.i2l, 1) := by decide +kernel
theorem dZ_law_948 : decode code 948 = .ok (.lcmp, 1) := by decide +kernel
theorem dZ_law_949 : decode code 949 = .ok (.ifCond .eq 5, 3) := by decide +kernel
theorem dZ_law_952 : decode code 952 = .ok (.iconst 0, 1) := by decide +kernel
theorem dZ_law_953 : decode code 953 = .ok (.ireturn, 1) := by decide +kernel
theorem dZ_law_954 : decode code 954 = .ok (.goto 166, 3) := by decide +kernel
theorem dZ_law_957 : decode code 957 = .ok (.aload_n 1, 1) := by decide +kernel
theorem dZ_law_958 : decode code 958 = .ok (.aload_n 0, 1) := by decide +kernel
theorem dZ_law_959 : decode code 959 = .ok (.iload 4, 2) := by decide +kernel
theorem dZ_law_961 : decode code 961 = .ok (.iconst 1, 1) := by decide +kernel
theorem dZ_law_962 : decode code 962 = .ok (.iadd, 1) := by decide +kernel
theorem dZ_law_963 : decode code 963 = .ok (.iaload, 1) := by decide +kernel
theorem dZ_law_964 : decode code 964 = .ok (.aload_n 0, 1) := by decide +kernel
theorem dZ_law_965 : decode code 965 = .ok (.iload 4, 2) := by decide +kernel
theorem dZ_law_967 : decode code 967 = .ok (.iconst 2, 1) := by decide +kernel
theorem dZ_law_968 : decode code 968 = .ok (.iadd, 1) := by decide +kernel
theorem dZ_law_969 : decode code 969 = .ok (.iaload, 1) := by decide +kernel
theorem dZ_law_970 : decode code 970 = .ok (.aload_n 3, 1) := by decide +kernel
theorem dZ_law_971 : decode code 971 = .ok (.invokestatic 124, 3) := by decide +kernel
theorem dZ_law_974 : decode code 974 = .ok (.istore 5, 2) := by decide +kernel
theorem dZ_law_976 : decode code 976 = .ok (.aload_n 2, 1) := by decide +kernel
theorem dZ_law_977 : decode code 977 = .ok (.aload_n 0, 1) := by decide +kernel
theorem dZ_law_978 : decode code 978 = .ok (.iload 4, 2) := by decide +kernel
theorem dZ_law_980 : decode code 980 = .ok (.iconst 1, 1) := by decide +kernel
theorem dZ_law_981 : decode code 981 = .ok (.iadd, 1) := by decide +kernel
theorem dZ_law_982 : decode code 982 = .ok (.iaload, 1) := by decide +kernel
theorem dZ_law_983 : decode code 983 = .ok (.aload_n 0, 1) := by decide +kernel
theorem dZ_law_984 : decode code 984 = .ok (.iload 4, 2) := by decide +kernel
theorem dZ_law_986 : decode code 986 = .ok (.iconst 2, 1) := by decide +kernel
theorem dZ_law_987 : decode code 987 = .ok (.iadd, 1) := by decide +kernel
theorem dZ_law_988 : decode code 988 = .ok (.iaload, 1) := by decide +kernel
theorem dZ_law_989 : decode code 989 = .ok (.invokevirtual 126, 3) := by decide +kernel
theorem dZ_law_992 : decode code 992 = .ok (.istore 6, 2) := by decide +kernel
theorem dZ_law_994 : decode code 994 = .ok (.aload_n 2, 1) := by decide +kernel
theorem dZ_law_995 : decode code 995 = .ok (.invokevirtual 64, 3) := by decide +kernel
theorem dZ_law_998 : decode code 998 = .ok (.iload 5, 2) := by decide +kernel
theorem dZ_law_1000 : decode code 1000 = .ok (.if_icmp .eq 5, 3) := by decide +kernel
theorem dZ_law_1003 : decode code 1003 = .ok (.iconst 0, 1) := by decide +kernel
theorem dZ_law_1004 : decode code 1004 = .ok (.ireturn, 1) := by decide +kernel
theorem dZ_law_1005 : decode code 1005 = .ok (.iload 5, 2) := by decide +kernel
theorem dZ_law_1007 : decode code 1007 = .ok (.ifCond .ne 15, 3) := by decide +kernel
theorem dZ_law_1010 : decode code 1010 = .ok (.aload_n 3, 1) := by decide +kernel
theorem dZ_law_1011 : decode code 1011 = .ok (.iconst 0, 1) := by decide +kernel
theorem dZ_law_1012 : decode code 1012 = .ok (.laload, 1) := by decide +kernel
theorem dZ_law_1013 : decode code 1013 = .ok (.iload 6, 2) := by decide +kernel
theorem dZ_law_1015 : decode code 1015 = .ok (.i2l, 1) := by decide +kernel
theorem dZ_law_1016 : decode code 1016 = .ok (.lcmp, 1) := by decide +kernel
theorem dZ_law_1017 : decode code 1017 = .ok (.ifCond .eq 5, 3) := by decide +kernel
theorem dZ_law_1020 : decode code 1020 = .ok (.iconst 0, 1) := by decide +kernel
theorem dZ_law_1021 : decode code 1021 = .ok (.ireturn, 1) := by decide +kernel
theorem dZ_law_1022 : decode code 1022 = .ok (.goto 98, 3) := by decide +kernel
theorem dZ_law_1025 : decode code 1025 = .ok (.aload_n 1, 1) := by decide +kernel
theorem dZ_law_1026 : decode code 1026 = .ok (.aload_n 3, 1) := by decide +kernel
theorem dZ_law_1027 : decode code 1027 = .ok (.invokestatic 127, 3) := by decide +kernel
theorem dZ_law_1030 : decode code 1030 = .ok (.istore 5, 2) := by decide +kernel
theorem dZ_law_1032 : decode code 1032 = .ok (.aload_n 2, 1) := by decide +kernel
theorem dZ_law_1033 : decode code 1033 = .ok (.invokevirtual 129, 3) := by decide +kernel
theorem dZ_law_1036 : decode code 1036 = .ok (.istore 6, 2) := by decide +kernel
theorem dZ_law_1038 : decode code 1038 = .ok (.aload_n 2, 1) := by decide +kernel
theorem dZ_law_1039 : decode code 1039 = .ok (.invokevirtual 64, 3) := by decide +kernel
theorem dZ_law_1042 : decode code 1042 = .ok (.iload 5, 2) := by decide +kernel
theorem dZ_law_1044 : decode code 1044 = .ok (.if_icmp .eq 5, 3) := by decide +kernel
theorem dZ_law_1047 : decode code 1047 = .ok (.iconst 0, 1) := by decide +kernel
theorem dZ_law_1048 : decode code 1048 = .ok (.ireturn, 1) := by decide +kernel
theorem dZ_law_1049 : decode code 1049 = .ok (.iload 5, 2) := by decide +kernel
theorem dZ_law_1051 : decode code 1051 = .ok (.ifCond .ne 15, 3) := by decide +kernel
theorem dZ_law_1054 : decode code 1054 = .ok (.aload_n 3, 1) := by decide +kernel
theorem dZ_law_1055 : decode code 1055 = .ok (.iconst 0, 1) := by decide +kernel
theorem dZ_law_1056 : decode code 1056 = .ok (.laload, 1) := by decide +kernel
theorem dZ_law_1057 : decode code 1057 = .ok (.iload 6, 2) := by decide +kernel
theorem dZ_law_1059 : decode code 1059 = .ok (.i2l, 1) := by decide +kernel
theorem dZ_law_1060 : decode code 1060 = .ok (.lcmp, 1) := by decide +kernel
theorem dZ_law_1061 : decode code 1061 = .ok (.ifCond .eq 5, 3) := by decide +kernel
theorem dZ_law_1064 : decode code 1064 = .ok (.iconst 0, 1) := by decide +kernel
theorem dZ_law_1065 : decode code 1065 = .ok (.ireturn, 1) := by decide +kernel
theorem dZ_law_1066 : decode code 1066 = .ok (.goto 54, 3) := by decide +kernel
theorem dZ_law_1069 : decode code 1069 = .ok (.aload_n 1, 1) := by decide +kernel
theorem dZ_law_1070 : decode code 1070 = .ok (.invokevirtual 130, 3) := by decide +kernel
theorem dZ_law_1073 : decode code 1073 = .ok (.aload_n 2, 1) := by decide +kernel
theorem dZ_law_1074 : decode code 1074 = .ok (.invokevirtual 133, 3) := by decide +kernel
theorem dZ_law_1077 : decode code 1077 = .ok (.if_icmp .eq 43, 3) := by decide +kernel
theorem dZ_law_1080 : decode code 1080 = .ok (.iconst 0, 1) := by decide +kernel
theorem dZ_law_1081 : decode code 1081 = .ok (.ireturn, 1) := by decide +kernel
theorem dZ_law_1082 : decode code 1082 = .ok (.aload_n 1, 1) := by decide +kernel
theorem dZ_law_1083 : decode code 1083 = .ok (.aload_n 0, 1) := by decide +kernel
theorem dZ_law_1084 : decode code 1084 = .ok (.iload 4, 2) := by decide +kernel
theorem dZ_law_1086 : decode code 1086 = .ok (.iconst 1, 1) := by decide +kernel
theorem dZ_law_1087 : decode code 1087 = .ok (.iadd, 1) := by decide +kernel
theorem dZ_law_1088 : decode code 1088 = .ok (.iaload, 1) := by decide +kernel
theorem dZ_law_1089 : decode code 1089 = .ok (.aload_n 0, 1) := by decide +kernel
theorem dZ_law_1090 : decode code 1090 = .ok (.iload 4, 2) := by decide +kernel
theorem dZ_law_1092 : decode code 1092 = .ok (.iconst 2, 1) := by decide +kernel
theorem dZ_law_1093 : decode code 1093 = .ok (.iadd, 1) := by decide +kernel
theorem dZ_law_1094 : decode code 1094 = .ok (.iaload, 1) := by decide +kernel
theorem dZ_law_1095 : decode code 1095 = .ok (.invokevirtual 134, 3) := by decide +kernel
theorem dZ_law_1098 : decode code 1098 = .ok (.aload_n 2, 1) := by decide +kernel
theorem dZ_law_1099 : decode code 1099 = .ok (.aload_n 0, 1) := by decide +kernel
theorem dZ_law_1100 : decode code 1100 = .ok (.iload 4, 2) := by decide +kernel
theorem dZ_law_1102 : decode code 1102 = .ok (.iconst 1, 1) := by decide +kernel
theorem dZ_law_1103 : decode code 1103 = .ok (.iadd, 1) := by decide +kernel
theorem dZ_law_1104 : decode code 1104 = .ok (.iaload, 1) := by decide +kernel
theorem dZ_law_1105 : decode code 1105 = .ok (.aload_n 0, 1) := by decide +kernel
theorem dZ_law_1106 : decode code 1106 = .ok (.iload 4, 2) := by decide +kernel
theorem dZ_law_1108 : decode code 1108 = .ok (.iconst 2, 1) := by decide +kernel
theorem dZ_law_1109 : decode code 1109 = .ok (.iadd, 1) := by decide +kernel
theorem dZ_law_1110 : decode code 1110 = .ok (.iaload, 1) := by decide +kernel
theorem dZ_law_1111 : decode code 1111 = .ok (.invokevirtual 137, 3) := by decide +kernel
theorem dZ_law_1114 : decode code 1114 = .ok (.lcmp, 1) := by decide +kernel
theorem dZ_law_1115 : decode code 1115 = .ok (.ifCond .eq 5, 3) := by decide +kernel
theorem dZ_law_1118 : decode code 1118 = .ok (.iconst 0, 1) := by decide +kernel
theorem dZ_law_1119 : decode code 1119 = .ok (.ireturn, 1) := by decide +kernel
theorem dZ_law_1120 : decode code 1120 = .ok (.iinc 4 5, 3) := by decide +kernel
theorem dZ_law_1123 : decode code 1123 = .ok (.goto (-1100), 3) := by decide +kernel
theorem dZ_law_1126 : decode code 1126 = .ok (.iconst 1, 1) := by decide +kernel
theorem dZ_law_1127 : decode code 1127 = .ok (.ireturn, 1) := by decide +kernel
