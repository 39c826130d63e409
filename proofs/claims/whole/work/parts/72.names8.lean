/-! words of the tables by their places -/
set_option maxRecDepth 20000 in
theorem mw_0 : (Jvm.Cond.initialized "SixtyFiveLaw") ∈ BIG := big_of (List.mem_append_right _ (List.mem_of_getElem? (i := 0) rfl)) rfl
set_option maxRecDepth 20000 in
theorem mw_14 : (Jvm.Cond.classLink "SixtyFiveLaw" (8 : Nat) "SixtyFive") ∈ BIG := big_of (List.mem_append_right _ (List.mem_of_getElem? (i := 14) rfl)) rfl
set_option maxRecDepth 20000 in
theorem mw_15 : (Jvm.Cond.instantiable "SixtyFive" (4 : Nat)) ∈ BIG := big_of (List.mem_append_right _ (List.mem_of_getElem? (i := 15) rfl)) rfl
set_option maxRecDepth 20000 in
theorem mw_16 : (Jvm.Cond.methodLink "SixtyFiveLaw" (47 : Nat) ({ cls := "SixtyFive", name := "<init>", desc := "()V" } : Jvm.MethodName)) ∈ BIG := big_of (List.mem_append_right _ (List.mem_of_getElem? (i := 16) rfl)) rfl
set_option maxRecDepth 20000 in
theorem mw_17 : (Jvm.Cond.instanceMethod ({ cls := "SixtyFive", name := "<init>", desc := "()V" } : Jvm.MethodName)) ∈ BIG := big_of (List.mem_append_right _ (List.mem_of_getElem? (i := 17) rfl)) rfl
set_option maxRecDepth 20000 in
theorem mw_18 : (Jvm.Cond.code ({ cls := "SixtyFive", name := "<init>", desc := "()V" } : Jvm.MethodName) prog_1_method_1_code (1 : Nat) (Option.none : Option Jvm.ClassFile.FieldType)) ∈ BIG := big_of (List.mem_append_right _ (List.mem_of_getElem? (i := 18) rfl)) rfl
set_option maxRecDepth 20000 in
theorem mw_112 : (Jvm.Cond.methodLink "SixtyFiveLaw" (75 : Nat) ({ cls := "SixtyFive", name := "protect", desc := "(Z)Z" } : Jvm.MethodName)) ∈ BIG := big_of (List.mem_append_right _ (List.mem_of_getElem? (i := 112) rfl)) rfl
set_option maxRecDepth 20000 in
theorem mw_113 : (Jvm.Cond.instanceMethod ({ cls := "SixtyFive", name := "protect", desc := "(Z)Z" } : Jvm.MethodName)) ∈ BIG := big_of (List.mem_append_right _ (List.mem_of_getElem? (i := 113) rfl)) rfl
set_option maxRecDepth 20000 in
theorem mw_114 : (Jvm.Cond.selects "SixtyFive" ({ cls := "SixtyFive", name := "protect", desc := "(Z)Z" } : Jvm.MethodName) ({ cls := "SixtyFive", name := "protect", desc := "(Z)Z" } : Jvm.MethodName)) ∈ BIG := big_of (List.mem_append_right _ (List.mem_of_getElem? (i := 114) rfl)) rfl
set_option maxRecDepth 20000 in
theorem mw_115 : (Jvm.Cond.code ({ cls := "SixtyFive", name := "protect", desc := "(Z)Z" } : Jvm.MethodName) prog_1_method_6_code (3 : Nat) (Option.some Jvm.ClassFile.FieldType.boolean)) ∈ BIG := big_of (List.mem_append_right _ (List.mem_of_getElem? (i := 115) rfl)) rfl
set_option maxRecDepth 20000 in
theorem mw_116 : (Jvm.Cond.methodLink "SixtyFiveLaw" (53 : Nat) ({ cls := "SixtyFiveLaw", name := "load", desc := "(LSixtyFive;IJI[J)I" } : Jvm.MethodName)) ∈ BIG := big_of (List.mem_append_right _ (List.mem_of_getElem? (i := 116) rfl)) rfl
set_option maxRecDepth 20000 in
theorem mw_117 : (Jvm.Cond.static ({ cls := "SixtyFiveLaw", name := "load", desc := "(LSixtyFive;IJI[J)I" } : Jvm.MethodName)) ∈ BIG := big_of (List.mem_append_right _ (List.mem_of_getElem? (i := 117) rfl)) rfl
set_option maxRecDepth 20000 in
theorem mw_118 : (Jvm.Cond.codeWith ({ cls := "SixtyFiveLaw", name := "load", desc := "(LSixtyFive;IJI[J)I" } : Jvm.MethodName) method_3_code (7 : Nat) (Option.some Jvm.ClassFile.FieldType.int) [((0 : Nat), (13 : Nat), (16 : Nat), (13 : Nat))]) ∈ BIG := big_of (List.mem_append_right _ (List.mem_of_getElem? (i := 118) rfl)) rfl
set_option maxRecDepth 20000 in
theorem mw_206 : (Jvm.Cond.methodLink "SixtyFiveLaw" (63 : Nat) ({ cls := "SixtyFiveLaw", name := "insert", desc := "(LSixtyFive;IIJI[J)I" } : Jvm.MethodName)) ∈ BIG := big_of (List.mem_append_right _ (List.mem_of_getElem? (i := 206) rfl)) rfl
set_option maxRecDepth 20000 in
theorem mw_207 : (Jvm.Cond.static ({ cls := "SixtyFiveLaw", name := "insert", desc := "(LSixtyFive;IIJI[J)I" } : Jvm.MethodName)) ∈ BIG := big_of (List.mem_append_right _ (List.mem_of_getElem? (i := 207) rfl)) rfl
set_option maxRecDepth 20000 in
theorem mw_208 : (Jvm.Cond.codeWith ({ cls := "SixtyFiveLaw", name := "insert", desc := "(LSixtyFive;IIJI[J)I" } : Jvm.MethodName) method_4_code (8 : Nat) (Option.some Jvm.ClassFile.FieldType.int) [((0 : Nat), (14 : Nat), (17 : Nat), (13 : Nat))]) ∈ BIG := big_of (List.mem_append_right _ (List.mem_of_getElem? (i := 208) rfl)) rfl
set_option maxRecDepth 20000 in
theorem mw_213 : (Jvm.Cond.methodLink "SixtyFiveLaw" (67 : Nat) ({ cls := "SixtyFiveLaw", name := "put", desc := "(LSixtyFive;II[J)I" } : Jvm.MethodName)) ∈ BIG := big_of (List.mem_append_right _ (List.mem_of_getElem? (i := 213) rfl)) rfl
set_option maxRecDepth 20000 in
theorem mw_214 : (Jvm.Cond.static ({ cls := "SixtyFiveLaw", name := "put", desc := "(LSixtyFive;II[J)I" } : Jvm.MethodName)) ∈ BIG := big_of (List.mem_append_right _ (List.mem_of_getElem? (i := 214) rfl)) rfl
set_option maxRecDepth 20000 in
theorem mw_215 : (Jvm.Cond.codeWith ({ cls := "SixtyFiveLaw", name := "put", desc := "(LSixtyFive;II[J)I" } : Jvm.MethodName) method_5_code (5 : Nat) (Option.some Jvm.ClassFile.FieldType.int) [((0 : Nat), (10 : Nat), (13 : Nat), (13 : Nat))]) ∈ BIG := big_of (List.mem_append_right _ (List.mem_of_getElem? (i := 215) rfl)) rfl
set_option maxRecDepth 20000 in
theorem mw_236 : (Jvm.Cond.methodLink "SixtyFiveLaw" (71 : Nat) ({ cls := "SixtyFiveLaw", name := "press", desc := "(LSixtyFive;I[J)I" } : Jvm.MethodName)) ∈ BIG := big_of (List.mem_append_right _ (List.mem_of_getElem? (i := 236) rfl)) rfl
set_option maxRecDepth 20000 in
theorem mw_237 : (Jvm.Cond.static ({ cls := "SixtyFiveLaw", name := "press", desc := "(LSixtyFive;I[J)I" } : Jvm.MethodName)) ∈ BIG := big_of (List.mem_append_right _ (List.mem_of_getElem? (i := 237) rfl)) rfl
set_option maxRecDepth 20000 in
theorem mw_238 : (Jvm.Cond.codeWith ({ cls := "SixtyFiveLaw", name := "press", desc := "(LSixtyFive;I[J)I" } : Jvm.MethodName) method_6_code (4 : Nat) (Option.some Jvm.ClassFile.FieldType.int) [((0 : Nat), (9 : Nat), (12 : Nat), (13 : Nat)), ((0 : Nat), (9 : Nat), (15 : Nat), (27 : Nat))]) ∈ BIG := big_of (List.mem_append_right _ (List.mem_of_getElem? (i := 238) rfl)) rfl
set_option maxRecDepth 20000 in
theorem mw_260 : (Jvm.Cond.methodLink "SixtyFiveLaw" (80 : Nat) ({ cls := "SixtyFiveLaw", name := "run", desc := "(LSixtyFive;I[J)I" } : Jvm.MethodName)) ∈ BIG := big_of (List.mem_append_right _ (List.mem_of_getElem? (i := 260) rfl)) rfl
set_option maxRecDepth 20000 in
theorem mw_261 : (Jvm.Cond.static ({ cls := "SixtyFiveLaw", name := "run", desc := "(LSixtyFive;I[J)I" } : Jvm.MethodName)) ∈ BIG := big_of (List.mem_append_right _ (List.mem_of_getElem? (i := 261) rfl)) rfl
set_option maxRecDepth 20000 in
theorem mw_262 : (Jvm.Cond.codeWith ({ cls := "SixtyFiveLaw", name := "run", desc := "(LSixtyFive;I[J)I" } : Jvm.MethodName) method_7_code (4 : Nat) (Option.some Jvm.ClassFile.FieldType.int) [((0 : Nat), (9 : Nat), (12 : Nat), (13 : Nat)), ((0 : Nat), (9 : Nat), (15 : Nat), (27 : Nat)), ((0 : Nat), (9 : Nat), (18 : Nat), (32 : Nat)), ((0 : Nat), (9 : Nat), (21 : Nat), (34 : Nat)), ((0 : Nat), (9 : Nat), (24 : Nat), (36 : Nat))]) ∈ BIG := big_of (List.mem_append_right _ (List.mem_of_getElem? (i := 262) rfl)) rfl
set_option maxRecDepth 20000 in
theorem mw_434 : (Jvm.Cond.methodLink "SixtyFiveLaw" (83 : Nat) ({ cls := "SixtyFiveLaw", name := "peek", desc := "(LSixtyFive;I[J)I" } : Jvm.MethodName)) ∈ BIG := big_of (List.mem_append_right _ (List.mem_of_getElem? (i := 434) rfl)) rfl
set_option maxRecDepth 20000 in
theorem mw_435 : (Jvm.Cond.static ({ cls := "SixtyFiveLaw", name := "peek", desc := "(LSixtyFive;I[J)I" } : Jvm.MethodName)) ∈ BIG := big_of (List.mem_append_right _ (List.mem_of_getElem? (i := 435) rfl)) rfl
set_option maxRecDepth 20000 in
theorem mw_436 : (Jvm.Cond.codeWith ({ cls := "SixtyFiveLaw", name := "peek", desc := "(LSixtyFive;I[J)I" } : Jvm.MethodName) method_8_code (4 : Nat) (Option.some Jvm.ClassFile.FieldType.int) [((0 : Nat), (9 : Nat), (12 : Nat), (13 : Nat))]) ∈ BIG := big_of (List.mem_append_right _ (List.mem_of_getElem? (i := 436) rfl)) rfl
set_option maxRecDepth 20000 in
theorem mw_441 : (Jvm.Cond.methodLink "SixtyFiveLaw" (86 : Nat) ({ cls := "SixtyFiveLaw", name := "get", desc := "(LSixtyFive;I[J)I" } : Jvm.MethodName)) ∈ BIG := big_of (List.mem_append_right _ (List.mem_of_getElem? (i := 441) rfl)) rfl
set_option maxRecDepth 20000 in
theorem mw_442 : (Jvm.Cond.static ({ cls := "SixtyFiveLaw", name := "get", desc := "(LSixtyFive;I[J)I" } : Jvm.MethodName)) ∈ BIG := big_of (List.mem_append_right _ (List.mem_of_getElem? (i := 442) rfl)) rfl
set_option maxRecDepth 20000 in
theorem mw_443 : (Jvm.Cond.codeWith ({ cls := "SixtyFiveLaw", name := "get", desc := "(LSixtyFive;I[J)I" } : Jvm.MethodName) method_9_code (4 : Nat) (Option.some Jvm.ClassFile.FieldType.int) [((0 : Nat), (9 : Nat), (12 : Nat), (13 : Nat))]) ∈ BIG := big_of (List.mem_append_right _ (List.mem_of_getElem? (i := 443) rfl)) rfl
set_option maxRecDepth 20000 in
theorem mw_448 : (Jvm.Cond.methodLink "SixtyFiveLaw" (89 : Nat) ({ cls := "SixtyFiveLaw", name := "sector", desc := "(LSixtyFive;II[J)I" } : Jvm.MethodName)) ∈ BIG := big_of (List.mem_append_right _ (List.mem_of_getElem? (i := 448) rfl)) rfl
set_option maxRecDepth 20000 in
theorem mw_449 : (Jvm.Cond.static ({ cls := "SixtyFiveLaw", name := "sector", desc := "(LSixtyFive;II[J)I" } : Jvm.MethodName)) ∈ BIG := big_of (List.mem_append_right _ (List.mem_of_getElem? (i := 449) rfl)) rfl
set_option maxRecDepth 20000 in
theorem mw_450 : (Jvm.Cond.codeWith ({ cls := "SixtyFiveLaw", name := "sector", desc := "(LSixtyFive;II[J)I" } : Jvm.MethodName) method_10_code (5 : Nat) (Option.some Jvm.ClassFile.FieldType.int) [((0 : Nat), (10 : Nat), (13 : Nat), (13 : Nat))]) ∈ BIG := big_of (List.mem_append_right _ (List.mem_of_getElem? (i := 450) rfl)) rfl
set_option maxRecDepth 20000 in
theorem mw_455 : (Jvm.Cond.classLink "SixtyFiveLaw" (48 : Nat) "SixtyFiveModel") ∈ BIG := big_of (List.mem_append_right _ (List.mem_of_getElem? (i := 455) rfl)) rfl
set_option maxRecDepth 20000 in
theorem mw_456 : (Jvm.Cond.instantiable "SixtyFiveModel" (13 : Nat)) ∈ BIG := big_of (List.mem_append_right _ (List.mem_of_getElem? (i := 456) rfl)) rfl
set_option maxRecDepth 20000 in
theorem mw_457 : (Jvm.Cond.methodLink "SixtyFiveLaw" (50 : Nat) ({ cls := "SixtyFiveModel", name := "<init>", desc := "()V" } : Jvm.MethodName)) ∈ BIG := big_of (List.mem_append_right _ (List.mem_of_getElem? (i := 457) rfl)) rfl
set_option maxRecDepth 20000 in
theorem mw_458 : (Jvm.Cond.instanceMethod ({ cls := "SixtyFiveModel", name := "<init>", desc := "()V" } : Jvm.MethodName)) ∈ BIG := big_of (List.mem_append_right _ (List.mem_of_getElem? (i := 458) rfl)) rfl
set_option maxRecDepth 20000 in
theorem mw_459 : (Jvm.Cond.code ({ cls := "SixtyFiveModel", name := "<init>", desc := "()V" } : Jvm.MethodName) prog_5_method_1_code (1 : Nat) (Option.none : Option Jvm.ClassFile.FieldType)) ∈ BIG := big_of (List.mem_append_right _ (List.mem_of_getElem? (i := 459) rfl)) rfl
set_option maxRecDepth 20000 in
theorem mw_501 : (Jvm.Cond.methodLink "SixtyFiveLaw" (59 : Nat) ({ cls := "SixtyFiveModel", name := "thrown", desc := "()I" } : Jvm.MethodName)) ∈ BIG := big_of (List.mem_append_right _ (List.mem_of_getElem? (i := 501) rfl)) rfl
set_option maxRecDepth 20000 in
theorem mw_502 : (Jvm.Cond.instanceMethod ({ cls := "SixtyFiveModel", name := "thrown", desc := "()I" } : Jvm.MethodName)) ∈ BIG := big_of (List.mem_append_right _ (List.mem_of_getElem? (i := 502) rfl)) rfl
set_option maxRecDepth 20000 in
theorem mw_503 : (Jvm.Cond.selects "SixtyFiveModel" ({ cls := "SixtyFiveModel", name := "thrown", desc := "()I" } : Jvm.MethodName) ({ cls := "SixtyFiveModel", name := "thrown", desc := "()I" } : Jvm.MethodName)) ∈ BIG := big_of (List.mem_append_right _ (List.mem_of_getElem? (i := 503) rfl)) rfl
set_option maxRecDepth 20000 in
theorem mw_504 : (Jvm.Cond.code ({ cls := "SixtyFiveModel", name := "thrown", desc := "()I" } : Jvm.MethodName) prog_5_method_2_code (1 : Nat) (Option.some Jvm.ClassFile.FieldType.int)) ∈ BIG := big_of (List.mem_append_right _ (List.mem_of_getElem? (i := 504) rfl)) rfl
set_option maxRecDepth 20000 in
theorem mw_505 : (Jvm.Cond.methodLink "SixtyFiveLaw" (58 : Nat) ({ cls := "SixtyFiveModel", name := "load", desc := "(IJI)I" } : Jvm.MethodName)) ∈ BIG := big_of (List.mem_append_right _ (List.mem_of_getElem? (i := 505) rfl)) rfl
set_option maxRecDepth 20000 in
theorem mw_506 : (Jvm.Cond.instanceMethod ({ cls := "SixtyFiveModel", name := "load", desc := "(IJI)I" } : Jvm.MethodName)) ∈ BIG := big_of (List.mem_append_right _ (List.mem_of_getElem? (i := 506) rfl)) rfl
set_option maxRecDepth 20000 in
theorem mw_507 : (Jvm.Cond.selects "SixtyFiveModel" ({ cls := "SixtyFiveModel", name := "load", desc := "(IJI)I" } : Jvm.MethodName) ({ cls := "SixtyFiveModel", name := "load", desc := "(IJI)I" } : Jvm.MethodName)) ∈ BIG := big_of (List.mem_append_right _ (List.mem_of_getElem? (i := 507) rfl)) rfl
set_option maxRecDepth 20000 in
theorem mw_508 : (Jvm.Cond.code ({ cls := "SixtyFiveModel", name := "load", desc := "(IJI)I" } : Jvm.MethodName) prog_5_method_30_code (6 : Nat) (Option.some Jvm.ClassFile.FieldType.int)) ∈ BIG := big_of (List.mem_append_right _ (List.mem_of_getElem? (i := 508) rfl)) rfl
set_option maxRecDepth 20000 in
theorem mw_516 : (Jvm.Cond.methodLink "SixtyFiveLaw" (66 : Nat) ({ cls := "SixtyFiveModel", name := "insert", desc := "(IIJI)I" } : Jvm.MethodName)) ∈ BIG := big_of (List.mem_append_right _ (List.mem_of_getElem? (i := 516) rfl)) rfl
set_option maxRecDepth 20000 in
theorem mw_517 : (Jvm.Cond.instanceMethod ({ cls := "SixtyFiveModel", name := "insert", desc := "(IIJI)I" } : Jvm.MethodName)) ∈ BIG := big_of (List.mem_append_right _ (List.mem_of_getElem? (i := 517) rfl)) rfl
set_option maxRecDepth 20000 in
theorem mw_518 : (Jvm.Cond.selects "SixtyFiveModel" ({ cls := "SixtyFiveModel", name := "insert", desc := "(IIJI)I" } : Jvm.MethodName) ({ cls := "SixtyFiveModel", name := "insert", desc := "(IIJI)I" } : Jvm.MethodName)) ∈ BIG := big_of (List.mem_append_right _ (List.mem_of_getElem? (i := 518) rfl)) rfl
set_option maxRecDepth 20000 in
theorem mw_519 : (Jvm.Cond.code ({ cls := "SixtyFiveModel", name := "insert", desc := "(IIJI)I" } : Jvm.MethodName) prog_5_method_31_code (7 : Nat) (Option.some Jvm.ClassFile.FieldType.int)) ∈ BIG := big_of (List.mem_append_right _ (List.mem_of_getElem? (i := 519) rfl)) rfl
set_option maxRecDepth 20000 in
theorem mw_520 : (Jvm.Cond.methodLink "SixtyFiveLaw" (70 : Nat) ({ cls := "SixtyFiveModel", name := "put", desc := "(II)I" } : Jvm.MethodName)) ∈ BIG := big_of (List.mem_append_right _ (List.mem_of_getElem? (i := 520) rfl)) rfl
set_option maxRecDepth 20000 in
theorem mw_521 : (Jvm.Cond.instanceMethod ({ cls := "SixtyFiveModel", name := "put", desc := "(II)I" } : Jvm.MethodName)) ∈ BIG := big_of (List.mem_append_right _ (List.mem_of_getElem? (i := 521) rfl)) rfl
set_option maxRecDepth 20000 in
theorem mw_522 : (Jvm.Cond.selects "SixtyFiveModel" ({ cls := "SixtyFiveModel", name := "put", desc := "(II)I" } : Jvm.MethodName) ({ cls := "SixtyFiveModel", name := "put", desc := "(II)I" } : Jvm.MethodName)) ∈ BIG := big_of (List.mem_append_right _ (List.mem_of_getElem? (i := 522) rfl)) rfl
set_option maxRecDepth 20000 in
theorem mw_523 : (Jvm.Cond.code ({ cls := "SixtyFiveModel", name := "put", desc := "(II)I" } : Jvm.MethodName) prog_5_method_32_code (4 : Nat) (Option.some Jvm.ClassFile.FieldType.int)) ∈ BIG := big_of (List.mem_append_right _ (List.mem_of_getElem? (i := 523) rfl)) rfl
set_option maxRecDepth 20000 in
theorem mw_532 : (Jvm.Cond.methodLink "SixtyFiveLaw" (74 : Nat) ({ cls := "SixtyFiveModel", name := "press", desc := "(I)I" } : Jvm.MethodName)) ∈ BIG := big_of (List.mem_append_right _ (List.mem_of_getElem? (i := 532) rfl)) rfl
set_option maxRecDepth 20000 in
theorem mw_533 : (Jvm.Cond.instanceMethod ({ cls := "SixtyFiveModel", name := "press", desc := "(I)I" } : Jvm.MethodName)) ∈ BIG := big_of (List.mem_append_right _ (List.mem_of_getElem? (i := 533) rfl)) rfl
set_option maxRecDepth 20000 in
theorem mw_534 : (Jvm.Cond.selects "SixtyFiveModel" ({ cls := "SixtyFiveModel", name := "press", desc := "(I)I" } : Jvm.MethodName) ({ cls := "SixtyFiveModel", name := "press", desc := "(I)I" } : Jvm.MethodName)) ∈ BIG := big_of (List.mem_append_right _ (List.mem_of_getElem? (i := 534) rfl)) rfl
set_option maxRecDepth 20000 in
theorem mw_535 : (Jvm.Cond.code ({ cls := "SixtyFiveModel", name := "press", desc := "(I)I" } : Jvm.MethodName) prog_5_method_33_code (2 : Nat) (Option.some Jvm.ClassFile.FieldType.int)) ∈ BIG := big_of (List.mem_append_right _ (List.mem_of_getElem? (i := 535) rfl)) rfl
set_option maxRecDepth 20000 in
theorem mw_536 : (Jvm.Cond.methodLink "SixtyFiveLaw" (79 : Nat) ({ cls := "SixtyFiveModel", name := "protect", desc := "(Z)Z" } : Jvm.MethodName)) ∈ BIG := big_of (List.mem_append_right _ (List.mem_of_getElem? (i := 536) rfl)) rfl
set_option maxRecDepth 20000 in
theorem mw_537 : (Jvm.Cond.instanceMethod ({ cls := "SixtyFiveModel", name := "protect", desc := "(Z)Z" } : Jvm.MethodName)) ∈ BIG := big_of (List.mem_append_right _ (List.mem_of_getElem? (i := 537) rfl)) rfl
set_option maxRecDepth 20000 in
theorem mw_538 : (Jvm.Cond.selects "SixtyFiveModel" ({ cls := "SixtyFiveModel", name := "protect", desc := "(Z)Z" } : Jvm.MethodName) ({ cls := "SixtyFiveModel", name := "protect", desc := "(Z)Z" } : Jvm.MethodName)) ∈ BIG := big_of (List.mem_append_right _ (List.mem_of_getElem? (i := 538) rfl)) rfl
set_option maxRecDepth 20000 in
theorem mw_539 : (Jvm.Cond.code ({ cls := "SixtyFiveModel", name := "protect", desc := "(Z)Z" } : Jvm.MethodName) prog_5_method_34_code (3 : Nat) (Option.some Jvm.ClassFile.FieldType.boolean)) ∈ BIG := big_of (List.mem_append_right _ (List.mem_of_getElem? (i := 539) rfl)) rfl
set_option maxRecDepth 20000 in
theorem mw_540 : (Jvm.Cond.methodLink "SixtyFiveLaw" (82 : Nat) ({ cls := "SixtyFiveModel", name := "run", desc := "(I)I" } : Jvm.MethodName)) ∈ BIG := big_of (List.mem_append_right _ (List.mem_of_getElem? (i := 540) rfl)) rfl
set_option maxRecDepth 20000 in
theorem mw_541 : (Jvm.Cond.instanceMethod ({ cls := "SixtyFiveModel", name := "run", desc := "(I)I" } : Jvm.MethodName)) ∈ BIG := big_of (List.mem_append_right _ (List.mem_of_getElem? (i := 541) rfl)) rfl
set_option maxRecDepth 20000 in
theorem mw_542 : (Jvm.Cond.selects "SixtyFiveModel" ({ cls := "SixtyFiveModel", name := "run", desc := "(I)I" } : Jvm.MethodName) ({ cls := "SixtyFiveModel", name := "run", desc := "(I)I" } : Jvm.MethodName)) ∈ BIG := big_of (List.mem_append_right _ (List.mem_of_getElem? (i := 542) rfl)) rfl
set_option maxRecDepth 20000 in
theorem mw_543 : (Jvm.Cond.code ({ cls := "SixtyFiveModel", name := "run", desc := "(I)I" } : Jvm.MethodName) prog_5_method_35_code (3 : Nat) (Option.some Jvm.ClassFile.FieldType.int)) ∈ BIG := big_of (List.mem_append_right _ (List.mem_of_getElem? (i := 543) rfl)) rfl
set_option maxRecDepth 20000 in
theorem mw_635 : (Jvm.Cond.methodLink "SixtyFiveLaw" (85 : Nat) ({ cls := "SixtyFiveModel", name := "peek", desc := "(I)I" } : Jvm.MethodName)) ∈ BIG := big_of (List.mem_append_right _ (List.mem_of_getElem? (i := 635) rfl)) rfl
set_option maxRecDepth 20000 in
theorem mw_636 : (Jvm.Cond.instanceMethod ({ cls := "SixtyFiveModel", name := "peek", desc := "(I)I" } : Jvm.MethodName)) ∈ BIG := big_of (List.mem_append_right _ (List.mem_of_getElem? (i := 636) rfl)) rfl
set_option maxRecDepth 20000 in
theorem mw_637 : (Jvm.Cond.selects "SixtyFiveModel" ({ cls := "SixtyFiveModel", name := "peek", desc := "(I)I" } : Jvm.MethodName) ({ cls := "SixtyFiveModel", name := "peek", desc := "(I)I" } : Jvm.MethodName)) ∈ BIG := big_of (List.mem_append_right _ (List.mem_of_getElem? (i := 637) rfl)) rfl
set_option maxRecDepth 20000 in
theorem mw_638 : (Jvm.Cond.code ({ cls := "SixtyFiveModel", name := "peek", desc := "(I)I" } : Jvm.MethodName) prog_5_method_36_code (2 : Nat) (Option.some Jvm.ClassFile.FieldType.int)) ∈ BIG := big_of (List.mem_append_right _ (List.mem_of_getElem? (i := 638) rfl)) rfl
set_option maxRecDepth 20000 in
theorem mw_639 : (Jvm.Cond.methodLink "SixtyFiveLaw" (88 : Nat) ({ cls := "SixtyFiveModel", name := "get", desc := "(I)I" } : Jvm.MethodName)) ∈ BIG := big_of (List.mem_append_right _ (List.mem_of_getElem? (i := 639) rfl)) rfl
set_option maxRecDepth 20000 in
theorem mw_640 : (Jvm.Cond.instanceMethod ({ cls := "SixtyFiveModel", name := "get", desc := "(I)I" } : Jvm.MethodName)) ∈ BIG := big_of (List.mem_append_right _ (List.mem_of_getElem? (i := 640) rfl)) rfl
set_option maxRecDepth 20000 in
theorem mw_641 : (Jvm.Cond.selects "SixtyFiveModel" ({ cls := "SixtyFiveModel", name := "get", desc := "(I)I" } : Jvm.MethodName) ({ cls := "SixtyFiveModel", name := "get", desc := "(I)I" } : Jvm.MethodName)) ∈ BIG := big_of (List.mem_append_right _ (List.mem_of_getElem? (i := 641) rfl)) rfl
set_option maxRecDepth 20000 in
theorem mw_642 : (Jvm.Cond.code ({ cls := "SixtyFiveModel", name := "get", desc := "(I)I" } : Jvm.MethodName) prog_5_method_37_code (2 : Nat) (Option.some Jvm.ClassFile.FieldType.int)) ∈ BIG := big_of (List.mem_append_right _ (List.mem_of_getElem? (i := 642) rfl)) rfl
set_option maxRecDepth 20000 in
theorem mw_643 : (Jvm.Cond.methodLink "SixtyFiveLaw" (91 : Nat) ({ cls := "SixtyFiveModel", name := "sector", desc := "(II)I" } : Jvm.MethodName)) ∈ BIG := big_of (List.mem_append_right _ (List.mem_of_getElem? (i := 643) rfl)) rfl
set_option maxRecDepth 20000 in
theorem mw_644 : (Jvm.Cond.instanceMethod ({ cls := "SixtyFiveModel", name := "sector", desc := "(II)I" } : Jvm.MethodName)) ∈ BIG := big_of (List.mem_append_right _ (List.mem_of_getElem? (i := 644) rfl)) rfl
set_option maxRecDepth 20000 in
theorem mw_645 : (Jvm.Cond.selects "SixtyFiveModel" ({ cls := "SixtyFiveModel", name := "sector", desc := "(II)I" } : Jvm.MethodName) ({ cls := "SixtyFiveModel", name := "sector", desc := "(II)I" } : Jvm.MethodName)) ∈ BIG := big_of (List.mem_append_right _ (List.mem_of_getElem? (i := 645) rfl)) rfl
set_option maxRecDepth 20000 in
theorem mw_646 : (Jvm.Cond.code ({ cls := "SixtyFiveModel", name := "sector", desc := "(II)I" } : Jvm.MethodName) prog_5_method_38_code (3 : Nat) (Option.some Jvm.ClassFile.FieldType.int)) ∈ BIG := big_of (List.mem_append_right _ (List.mem_of_getElem? (i := 646) rfl)) rfl
set_option maxRecDepth 20000 in
theorem mw_647 : (Jvm.Cond.constantLong "SixtyFiveLaw" (51 : Nat) (4294967295 : Int64)) ∈ BIG := big_of (List.mem_append_right _ (List.mem_of_getElem? (i := 647) rfl)) rfl
set_option maxRecDepth 20000 in
theorem mw_648 : (Jvm.Cond.arrayClass Jvm.ClassFile.FieldType.long) ∈ BIG := big_of (List.mem_append_right _ (List.mem_of_getElem? (i := 648) rfl)) rfl
theorem d_L_law_0 : decode code 0 = .ok (.new 8, 3) := by decide +kernel
theorem d_L_law_3 : decode code 3 = .ok (.dup, 1) := by decide +kernel
theorem d_L_law_4 : decode code 4 = .ok (.invokespecial 47, 3) := by decide +kernel
theorem d_L_law_7 : decode code 7 = .ok (.astore_n 1, 1) := by decide +kernel
theorem d_L_law_8 : decode code 8 = .ok (.new 48, 3) := by decide +kernel
theorem d_L_law_11 : decode code 11 = .ok (.dup, 1) := by decide +kernel
theorem d_L_law_12 : decode code 12 = .ok (.invokespecial 50, 3) := by decide +kernel
theorem d_L_law_15 : decode code 15 = .ok (.astore_n 2, 1) := by decide +kernel
theorem d_L_law_16 : decode code 16 = .ok (.iconst 1, 1) := by decide +kernel
theorem d_L_law_17 : decode code 17 = .ok (.newarray .long, 2) := by decide +kernel
theorem d_L_law_19 : decode code 19 = .ok (.astore_n 3, 1) := by decide +kernel
theorem d_L_law_20 : decode code 20 = .ok (.iconst 0, 1) := by decide +kernel
theorem d_L_law_21 : decode code 21 = .ok (.istore 4, 2) := by decide +kernel
theorem d_L_law_23 : decode code 23 = .ok (.iload 4, 2) := by decide +kernel
theorem d_L_law_25 : decode code 25 = .ok (.aload_n 0, 1) := by decide +kernel
theorem d_L_law_26 : decode code 26 = .ok (.arraylength, 1) := by decide +kernel
theorem d_L_law_27 : decode code 27 = .ok (.bipush 6, 2) := by decide +kernel
theorem d_L_law_29 : decode code 29 = .ok (.isub, 1) := by decide +kernel
theorem d_L_law_30 : decode code 30 = .ok (.if_icmp .gt 705, 3) := by decide +kernel
theorem d_L_law_33 : decode code 33 = .ok (.aload_n 0, 1) := by decide +kernel
theorem d_L_law_34 : decode code 34 = .ok (.iload 4, 2) := by decide +kernel
theorem d_L_law_36 : decode code 36 = .ok (.iaload, 1) := by decide +kernel
theorem d_L_law_37 : decode code 37 = .ok (.bipush 15, 2) := by decide +kernel
theorem d_L_law_39 : decode code 39 = .ok (.iand, 1) := by decide +kernel
theorem d_L_law_40 : decode code 40 = .ok (.tableswitch 689 0 8 #[52, 164, 288, 356, 412, 453, 509, 565, 621], 52) := by decide +kernel
theorem d_L_law_92 : decode code 92 = .ok (.aload_n 1, 1) := by decide +kernel
theorem d_L_law_93 : decode code 93 = .ok (.aload_n 0, 1) := by decide +kernel
theorem d_L_law_94 : decode code 94 = .ok (.iload 4, 2) := by decide +kernel
theorem d_L_law_96 : decode code 96 = .ok (.iconst 1, 1) := by decide +kernel
theorem d_L_law_97 : decode code 97 = .ok (.iadd, 1) := by decide +kernel
theorem d_L_law_98 : decode code 98 = .ok (.iaload, 1) := by decide +kernel
theorem d_L_law_99 : decode code 99 = .ok (.aload_n 0, 1) := by decide +kernel
theorem d_L_law_100 : decode code 100 = .ok (.iload 4, 2) := by decide +kernel
theorem d_L_law_102 : decode code 102 = .ok (.iconst 2, 1) := by decide +kernel
theorem d_L_law_103 : decode code 103 = .ok (.iadd, 1) := by decide +kernel
theorem d_L_law_104 : decode code 104 = .ok (.iaload, 1) := by decide +kernel
theorem d_L_law_105 : decode code 105 = .ok (.i2l, 1) := by decide +kernel
theorem d_L_law_106 : decode code 106 = .ok (.bipush 32, 2) := by decide +kernel
theorem d_L_law_108 : decode code 108 = .ok (.lshl, 1) := by decide +kernel
theorem d_L_law_109 : decode code 109 = .ok (.aload_n 0, 1) := by decide +kernel
theorem d_L_law_110 : decode code 110 = .ok (.iload 4, 2) := by decide +kernel
theorem d_L_law_112 : decode code 112 = .ok (.iconst 3, 1) := by decide +kernel
theorem d_L_law_113 : decode code 113 = .ok (.iadd, 1) := by decide +kernel
theorem d_L_law_114 : decode code 114 = .ok (.iaload, 1) := by decide +kernel
theorem d_L_law_115 : decode code 115 = .ok (.i2l, 1) := by decide +kernel
theorem d_L_law_116 : decode code 116 = .ok (.ldc2_w 51, 3) := by decide +kernel
theorem d_L_law_119 : decode code 119 = .ok (.land, 1) := by decide +kernel
theorem d_L_law_120 : decode code 120 = .ok (.lor, 1) := by decide +kernel
theorem d_L_law_121 : decode code 121 = .ok (.aload_n 0, 1) := by decide +kernel
theorem d_L_law_122 : decode code 122 = .ok (.iload 4, 2) := by decide +kernel
theorem d_L_law_124 : decode code 124 = .ok (.iconst 4, 1) := by decide +kernel
theorem d_L_law_125 : decode code 125 = .ok (.iadd, 1) := by decide +kernel
theorem d_L_law_126 : decode code 126 = .ok (.iaload, 1) := by decide +kernel
theorem d_L_law_127 : decode code 127 = .ok (.aload_n 3, 1) := by decide +kernel
theorem d_L_law_128 : decode code 128 = .ok (.invokestatic 53, 3) := by decide +kernel
theorem d_L_law_131 : decode code 131 = .ok (.istore 5, 2) := by decide +kernel
theorem d_L_law_133 : decode code 133 = .ok (.aload_n 2, 1) := by decide +kernel
theorem d_L_law_134 : decode code 134 = .ok (.aload_n 0, 1) := by decide +kernel
theorem d_L_law_135 : decode code 135 = .ok (.iload 4, 2) := by decide +kernel
theorem d_L_law_137 : decode code 137 = .ok (.iconst 1, 1) := by decide +kernel
theorem d_L_law_138 : decode code 138 = .ok (.iadd, 1) := by decide +kernel
theorem d_L_law_139 : decode code 139 = .ok (.iaload, 1) := by decide +kernel
theorem d_L_law_140 : decode code 140 = .ok (.aload_n 0, 1) := by decide +kernel
theorem d_L_law_141 : decode code 141 = .ok (.iload 4, 2) := by decide +kernel
theorem d_L_law_143 : decode code 143 = .ok (.iconst 2, 1) := by decide +kernel
theorem d_L_law_144 : decode code 144 = .ok (.iadd, 1) := by decide +kernel
theorem d_L_law_145 : decode code 145 = .ok (.iaload, 1) := by decide +kernel
theorem d_L_law_146 : decode code 146 = .ok (.i2l, 1) := by decide +kernel
theorem d_L_law_147 : decode code 147 = .ok (.bipush 32, 2) := by decide +kernel
theorem d_L_law_149 : decode code 149 = .ok (.lshl, 1) := by decide +kernel
theorem d_L_law_150 : decode code 150 = .ok (.aload_n 0, 1) := by decide +kernel
theorem d_L_law_151 : decode code 151 = .ok (.iload 4, 2) := by decide +kernel
theorem d_L_law_153 : decode code 153 = .ok (.iconst 3, 1) := by decide +kernel
theorem d_L_law_154 : decode code 154 = .ok (.iadd, 1) := by decide +kernel
theorem d_L_law_155 : decode code 155 = .ok (.iaload, 1) := by decide +kernel
theorem d_L_law_156 : decode code 156 = .ok (.i2l, 1) := by decide +kernel
theorem d_L_law_157 : decode code 157 = .ok (.ldc2_w 51, 3) := by decide +kernel
theorem d_L_law_160 : decode code 160 = .ok (.land, 1) := by decide +kernel
theorem d_L_law_161 : decode code 161 = .ok (.lor, 1) := by decide +kernel
theorem d_L_law_162 : decode code 162 = .ok (.aload_n 0, 1) := by decide +kernel
theorem d_L_law_163 : decode code 163 = .ok (.iload 4, 2) := by decide +kernel
theorem d_L_law_165 : decode code 165 = .ok (.iconst 4, 1) := by decide +kernel
theorem d_L_law_166 : decode code 166 = .ok (.iadd, 1) := by decide +kernel
theorem d_L_law_167 : decode code 167 = .ok (.iaload, 1) := by decide +kernel
theorem d_L_law_168 : decode code 168 = .ok (.invokevirtual 58, 3) := by decide +kernel
theorem d_L_law_171 : decode code 171 = .ok (.istore 6, 2) := by decide +kernel
theorem d_L_law_173 : decode code 173 = .ok (.aload_n 2, 1) := by decide +kernel
theorem d_L_law_174 : decode code 174 = .ok (.invokevirtual 59, 3) := by decide +kernel
theorem d_L_law_177 : decode code 177 = .ok (.iload 5, 2) := by decide +kernel
theorem d_L_law_179 : decode code 179 = .ok (.if_icmp .eq 5, 3) := by decide +kernel
theorem d_L_law_182 : decode code 182 = .ok (.iconst 0, 1) := by decide +kernel
theorem d_L_law_183 : decode code 183 = .ok (.ireturn, 1) := by decide +kernel
theorem d_L_law_184 : decode code 184 = .ok (.iload 5, 2) := by decide +kernel
theorem d_L_law_186 : decode code 186 = .ok (.ifCond .ne 15, 3) := by decide +kernel
theorem d_L_law_189 : decode code 189 = .ok (.aload_n 3, 1) := by decide +kernel
theorem d_L_law_190 : decode code 190 = .ok (.iconst 0, 1) := by decide +kernel
theorem d_L_law_191 : decode code 191 = .ok (.laload, 1) := by decide +kernel
theorem d_L_law_192 : decode code 192 = .ok (.iload 6, 2) := by decide +kernel
theorem d_L_law_194 : decode code 194 = .ok (.i2l, 1) := by decide +kernel
theorem d_L_law_195 : decode code 195 = .ok (.lcmp, 1) := by decide +kernel
theorem d_L_law_196 : decode code 196 = .ok (.ifCond .eq 5, 3) := by decide +kernel
theorem d_L_law_199 : decode code 199 = .ok (.iconst 0, 1) := by decide +kernel
theorem d_L_law_200 : decode code 200 = .ok (.ireturn, 1) := by decide +kernel
theorem d_L_law_201 : decode code 201 = .ok (.goto 528, 3) := by decide +kernel
theorem d_L_law_204 : decode code 204 = .ok (.aload_n 1, 1) := by decide +kernel
theorem d_L_law_205 : decode code 205 = .ok (.aload_n 0, 1) := by decide +kernel
theorem d_L_law_206 : decode code 206 = .ok (.iload 4, 2) := by decide +kernel
theorem d_L_law_208 : decode code 208 = .ok (.iconst 1, 1) := by decide +kernel
theorem d_L_law_209 : decode code 209 = .ok (.iadd, 1) := by decide +kernel
theorem d_L_law_210 : decode code 210 = .ok (.iaload, 1) := by decide +kernel
theorem d_L_law_211 : decode code 211 = .ok (.aload_n 0, 1) := by decide +kernel
theorem d_L_law_212 : decode code 212 = .ok (.iload 4, 2) := by decide +kernel
theorem d_L_law_214 : decode code 214 = .ok (.iconst 2, 1) := by decide +kernel
theorem d_L_law_215 : decode code 215 = .ok (.iadd, 1) := by decide +kernel
theorem d_L_law_216 : decode code 216 = .ok (.iaload, 1) := by decide +kernel
theorem d_L_law_217 : decode code 217 = .ok (.aload_n 0, 1) := by decide +kernel
theorem d_L_law_218 : decode code 218 = .ok (.iload 4, 2) := by decide +kernel
theorem d_L_law_220 : decode code 220 = .ok (.iconst 3, 1) := by decide +kernel
theorem d_L_law_221 : decode code 221 = .ok (.iadd, 1) := by decide +kernel
theorem d_L_law_222 : decode code 222 = .ok (.iaload, 1) := by decide +kernel
theorem d_L_law_223 : decode code 223 = .ok (.i2l, 1) := by decide +kernel
theorem d_L_law_224 : decode code 224 = .ok (.bipush 32, 2) := by decide +kernel
theorem d_L_law_226 : decode code 226 = .ok (.lshl, 1) := by decide +kernel
theorem d_L_law_227 : decode code 227 = .ok (.aload_n 0, 1) := by decide +kernel
theorem d_L_law_228 : decode code 228 = .ok (.iload 4, 2) := by decide +kernel
theorem d_L_law_230 : decode code 230 = .ok (.iconst 4, 1) := by decide +kernel
theorem d_L_law_231 : decode code 231 = .ok (.iadd, 1) := by decide +kernel
theorem d_L_law_232 : decode code 232 = .ok (.iaload, 1) := by decide +kernel
theorem d_L_law_233 : decode code 233 = .ok (.i2l, 1) := by decide +kernel
theorem d_L_law_234 : decode code 234 = .ok (.ldc2_w 51, 3) := by decide +kernel
theorem d_L_law_237 : decode code 237 = .ok (.land, 1) := by decide +kernel
theorem d_L_law_238 : decode code 238 = .ok (.lor, 1) := by decide +kernel
theorem d_L_law_239 : decode code 239 = .ok (.aload_n 0, 1) := by decide +kernel
theorem d_L_law_240 : decode code 240 = .ok (.iload 4, 2) := by decide +kernel
theorem d_L_law_242 : decode code 242 = .ok (.iconst 5, 1) := by decide +kernel
theorem d_L_law_243 : decode code 243 = .ok (.iadd, 1) := by decide +kernel
theorem d_L_law_244 : decode code 244 = .ok (.iaload, 1) := by decide +kernel
theorem d_L_law_245 : decode code 245 = .ok (.aload_n 3, 1) := by decide +kernel
theorem d_L_law_246 : decode code 246 = .ok (.invokestatic 63, 3) := by decide +kernel
theorem d_L_law_249 : decode code 249 = .ok (.istore 5, 2) := by decide +kernel
theorem d_L_law_251 : decode code 251 = .ok (.aload_n 2, 1) := by decide +kernel
theorem d_L_law_252 : decode code 252 = .ok (.aload_n 0, 1) := by decide +kernel
theorem d_L_law_253 : decode code 253 = .ok (.iload 4, 2) := by decide +kernel
theorem d_L_law_255 : decode code 255 = .ok (.iconst 1, 1) := by decide +kernel
theorem d_L_law_256 : decode code 256 = .ok (.iadd, 1) := by decide +kernel
theorem d_L_law_257 : decode code 257 = .ok (.iaload, 1) := by decide +kernel
theorem d_L_law_258 : decode code 258 = .ok (.aload_n 0, 1) := by decide +kernel
theorem d_L_law_259 : decode code 259 = .ok (.iload 4, 2) := by decide +kernel
theorem d_L_law_261 : decode code 261 = .ok (.iconst 2, 1) := by decide +kernel
theorem d_L_law_262 : decode code 262 = .ok (.iadd, 1) := by decide +kernel
theorem d_L_law_263 : decode code 263 = .ok (.iaload, 1) := by decide +kernel
theorem d_L_law_264 : decode code 264 = .ok (.aload_n 0, 1) := by decide +kernel
theorem d_L_law_265 : decode code 265 = .ok (.iload 4, 2) := by decide +kernel
theorem d_L_law_267 : decode code 267 = .ok (.iconst 3, 1) := by decide +kernel
theorem d_L_law_268 : decode code 268 = .ok (.iadd, 1) := by decide +kernel
theorem d_L_law_269 : decode code 269 = .ok (.iaload, 1) := by decide +kernel
theorem d_L_law_270 : decode code 270 = .ok (.i2l, 1) := by decide +kernel
theorem d_L_law_271 : decode code 271 = .ok (.bipush 32, 2) := by decide +kernel
theorem d_L_law_273 : decode code 273 = .ok (.lshl, 1) := by decide +kernel
theorem d_L_law_274 : decode code 274 = .ok (.aload_n 0, 1) := by decide +kernel
theorem d_L_law_275 : decode code 275 = .ok (.iload 4, 2) := by decide +kernel
theorem d_L_law_277 : decode code 277 = .ok (.iconst 4, 1) := by decide +kernel
theorem d_L_law_278 : decode code 278 = .ok (.iadd, 1) := by decide +kernel
theorem d_L_law_279 : decode code 279 = .ok (.iaload, 1) := by decide +kernel
theorem d_L_law_280 : decode code 280 = .ok (.i2l, 1) := by decide +kernel
theorem d_L_law_281 : decode code 281 = .ok (.ldc2_w 51, 3) := by decide +kernel
theorem d_L_law_284 : decode code 284 = .ok (.land, 1) := by decide +kernel
theorem d_L_law_285 : decode code 285 = .ok (.lor, 1) := by decide +kernel
theorem d_L_law_286 : decode code 286 = .ok (.aload_n 0, 1) := by decide +kernel
theorem d_L_law_287 : decode code 287 = .ok (.iload 4, 2) := by decide +kernel
theorem d_L_law_289 : decode code 289 = .ok (.iconst 5, 1) := by decide +kernel
theorem d_L_law_290 : decode code 290 = .ok (.iadd, 1) := by decide +kernel
theorem d_L_law_291 : decode code 291 = .ok (.iaload, 1) := by decide +kernel
theorem d_L_law_292 : decode code 292 = .ok (.invokevirtual 66, 3) := by decide +kernel
theorem d_L_law_295 : decode code 295 = .ok (.istore 6, 2) := by decide +kernel
theorem d_L_law_297 : decode code 297 = .ok (.aload_n 2, 1) := by decide +kernel
theorem d_L_law_298 : decode code 298 = .ok (.invokevirtual 59, 3) := by decide +kernel
theorem d_L_law_301 : decode code 301 = .ok (.iload 5, 2) := by decide +kernel
theorem d_L_law_303 : decode code 303 = .ok (.if_icmp .eq 5, 3) := by decide +kernel
theorem d_L_law_306 : decode code 306 = .ok (.iconst 0, 1) := by decide +kernel
theorem d_L_law_307 : decode code 307 = .ok (.ireturn, 1) := by decide +kernel
theorem d_L_law_308 : decode code 308 = .ok (.iload 5, 2) := by decide +kernel
theorem d_L_law_310 : decode code 310 = .ok (.ifCond .ne 15, 3) := by decide +kernel
theorem d_L_law_313 : decode code 313 = .ok (.aload_n 3, 1) := by decide +kernel
theorem d_L_law_314 : decode code 314 = .ok (.iconst 0, 1) := by decide +kernel
theorem d_L_law_315 : decode code 315 = .ok (.laload, 1) := by decide +kernel
theorem d_L_law_316 : decode code 316 = .ok (.iload 6, 2) := by decide +kernel
theorem d_L_law_318 : decode code 318 = .ok (.i2l, 1) := by decide +kernel
theorem d_L_law_319 : decode code 319 = .ok (.lcmp, 1) := by decide +kernel
theorem d_L_law_320 : decode code 320 = .ok (.ifCond .eq 5, 3) := by decide +kernel
theorem d_L_law_323 : decode code 323 = .ok (.iconst 0, 1) := by decide +kernel
theorem d_L_law_324 : decode code 324 = .ok (.ireturn, 1) := by decide +kernel
theorem d_L_law_325 : decode code 325 = .ok (.goto 404, 3) := by decide +kernel
theorem d_L_law_328 : decode code 328 = .ok (.aload_n 1, 1) := by decide +kernel
theorem d_L_law_329 : decode code 329 = .ok (.aload_n 0, 1) := by decide +kernel
theorem d_L_law_330 : decode code 330 = .ok (.iload 4, 2) := by decide +kernel
theorem d_L_law_332 : decode code 332 = .ok (.iconst 1, 1) := by decide +kernel
theorem d_L_law_333 : decode code 333 = .ok (.iadd, 1) := by decide +kernel
theorem d_L_law_334 : decode code 334 = .ok (.iaload, 1) := by decide +kernel
theorem d_L_law_335 : decode code 335 = .ok (.aload_n 0, 1) := by decide +kernel
theorem d_L_law_336 : decode code 336 = .ok (.iload 4, 2) := by decide +kernel
theorem d_L_law_338 : decode code 338 = .ok (.iconst 2, 1) := by decide +kernel
theorem d_L_law_339 : decode code 339 = .ok (.iadd, 1) := by decide +kernel
theorem d_L_law_340 : decode code 340 = .ok (.iaload, 1) := by decide +kernel
theorem d_L_law_341 : decode code 341 = .ok (.aload_n 3, 1) := by decide +kernel
theorem d_L_law_342 : decode code 342 = .ok (.invokestatic 67, 3) := by decide +kernel
theorem d_L_law_345 : decode code 345 = .ok (.istore 5, 2) := by decide +kernel
theorem d_L_law_347 : decode code 347 = .ok (.aload_n 2, 1) := by decide +kernel
theorem d_L_law_348 : decode code 348 = .ok (.aload_n 0, 1) := by decide +kernel
theorem d_L_law_349 : decode code 349 = .ok (.iload 4, 2) := by decide +kernel
theorem d_L_law_351 : decode code 351 = .ok (.iconst 1, 1) := by decide +kernel
theorem d_L_law_352 : decode code 352 = .ok (.iadd, 1) := by decide +kernel
theorem d_L_law_353 : decode code 353 = .ok (.iaload, 1) := by decide +kernel
theorem d_L_law_354 : decode code 354 = .ok (.aload_n 0, 1) := by decide +kernel
theorem d_L_law_355 : decode code 355 = .ok (.iload 4, 2) := by decide +kernel
theorem d_L_law_357 : decode code 357 = .ok (.iconst 2, 1) := by decide +kernel
theorem d_L_law_358 : decode code 358 = .ok (.iadd, 1) := by decide +kernel
theorem d_L_law_359 : decode code 359 = .ok (.iaload, 1) := by decide +kernel
theorem d_L_law_360 : decode code 360 = .ok (.invokevirtual 70, 3) := by decide +kernel
theorem d_L_law_363 : decode code 363 = .ok (.istore 6, 2) := by decide +kernel
theorem d_L_law_365 : decode code 365 = .ok (.aload_n 2, 1) := by decide +kernel
theorem d_L_law_366 : decode code 366 = .ok (.invokevirtual 59, 3) := by decide +kernel
theorem d_L_law_369 : decode code 369 = .ok (.iload 5, 2) := by decide +kernel
theorem d_L_law_371 : decode code 371 = .ok (.if_icmp .eq 5, 3) := by decide +kernel
theorem d_L_law_374 : decode code 374 = .ok (.iconst 0, 1) := by decide +kernel
theorem d_L_law_375 : decode code 375 = .ok (.ireturn, 1) := by decide +kernel
theorem lg_eq {x y : Int64} (h : x = y) : lg_cmp x y = 0 := by
  subst h
  simp [lg_cmp, Int64.lt_irrefl]
theorem cd_0 {n : Nat} (h : n ≤ 5) (e : nI n = 0) : n = 0 := (nI_eq (b := 0) (by omega) (by decide)).mp e
theorem gd_SW {own : String} {idx : Nat} {y : MethodName} {c : Cond} (h1 : Cond.methodLink own idx y ∈ BIG) (h2 : Cond.static y ∈ BIG) (h3 : Cond.initialized y.cls ∈ BIG) (h5 : c ∈ BIG) : GoodIn BIG (va_wsS own idx y (c :: BIG)) := by
  intro w hw
  unfold va_wsS at hw
  rcases List.mem_append.mp hw with h | h
  · simp only [List.mem_cons, List.not_mem_nil, or_false] at h
    rcases h with rfl | rfl | rfl
    · exact big_good h1
    · exact big_good h2
    · exact big_good h3
  · exact gd_c h5 w h
theorem sx_in {j L k : Nat} (h : 6 * j + 6 ≤ L) (hk : k < 6) (hL : L ≤ 3072) : vp_in (nI (6 * j) + nI k) L := by
  rw [nI_add]
  exact vp_in_nI (by omega) (by omega)
theorem le_load {p1 : Int32} {p2 : Int64} {p3 : Int32} {g r k M D : Nat → Int32} : (f_S_load p1 p2 p3 g r k M D).1 ≤ 5 := by
  rcases (co_load (p1 := p1) (p2 := p2) (p3 := p3) (g := g) (r := r) (k := k) (M := M) (D := D)) with e9 | e9 <;> omega
theorem le_insert {p1 p2 : Int32} {p3 : Int64} {p4 : Int32} {g r k M D : Nat → Int32} : (f_S_insert p1 p2 p3 p4 g r k M D).1 ≤ 5 := by
  rcases (co_insert (p1 := p1) (p2 := p2) (p3 := p3) (p4 := p4) (g := g) (r := r) (k := k) (M := M) (D := D)) with e9 | e9 <;> omega
theorem le_put {p1 p2 : Int32} {g r k M D : Nat → Int32} : (f_S_put p1 p2 g r k M D).1 ≤ 5 := by
  rcases (co_put (p1 := p1) (p2 := p2) (g := g) (r := r) (k := k) (M := M) (D := D)) with e9 | e9 <;> omega
theorem le_press {p1 : Int32} {g r k M D : Nat → Int32} : (f_S_press p1 g r k M D).1 ≤ 5 := by
  rcases (co_press (p1 := p1) (g := g) (r := r) (k := k) (M := M) (D := D)) with e9 | e9 | e9 <;> omega
theorem le_run {p1 : Int32} {g r k M D : Nat → Int32} : (f_S_run p1 g r k M D).1 ≤ 5 := by
  rcases (co_run (p1 := p1) (g := g) (r := r) (k := k) (M := M) (D := D)) with e9 | e9 | e9 | e9 | e9 | e9 <;> omega
theorem le_peek {p1 : Int32} {g r k M D : Nat → Int32} : (f_S_peek p1 g r k M D).1 ≤ 5 := by
  rcases (co_peek (p1 := p1) (g := g) (r := r) (k := k) (M := M) (D := D)) with e9 | e9 <;> omega
theorem le_get {p1 : Int32} {g r k M D : Nat → Int32} : (f_S_get p1 g r k M D).1 ≤ 5 := by
  rcases (co_get (p1 := p1) (g := g) (r := r) (k := k) (M := M) (D := D)) with e9 | e9 <;> omega
theorem le_sector {p1 p2 : Int32} {g r k M D : Nat → Int32} : (f_S_sector p1 p2 g r k M D).1 ≤ 5 := by
  rcases (co_sector (p1 := p1) (p2 := p2) (g := g) (r := r) (k := k) (M := M) (D := D)) with e9 | e9 <;> omega
theorem lp_ge {L j : Nat} (hj : 6 * j ≤ L) (hL : L ≤ 3072) (h : ¬ Int32.ofNat L - (6 : Int32) < nI (6 * j)) : 6 * j + 6 ≤ L := by
  rcases Nat.lt_or_ge L (6 * j + 6) with q | q
  · refine absurd ?_ h
    show nI L - nI 6 < nI (6 * j)
    rw [Int32.lt_iff_toInt_lt, pk_sub_toInt (by omega) (by decide), nI_toInt (by omega)]
    omega
  · exact q
theorem inc6 (j : Nat) : nI (6 * j) + Int32.ofInt 6 = nI (6 * (j + 1)) := by
  show nI (6 * j) + nI 6 = _
  rw [nI_add]
  rfl
