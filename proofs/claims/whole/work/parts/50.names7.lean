abbrev b_L_load : ByteArray := method_3_code
def y_L_load : MethodName := ⟨R_law, "load", "(LSixtyFive;IJI[J)I"⟩
abbrev b_L_insert : ByteArray := method_4_code
def y_L_insert : MethodName := ⟨R_law, "insert", "(LSixtyFive;IIJI[J)I"⟩
abbrev b_L_put : ByteArray := method_5_code
def y_L_put : MethodName := ⟨R_law, "put", "(LSixtyFive;II[J)I"⟩
abbrev b_L_press : ByteArray := method_6_code
def y_L_press : MethodName := ⟨R_law, "press", "(LSixtyFive;I[J)I"⟩
abbrev b_L_run : ByteArray := method_7_code
def y_L_run : MethodName := ⟨R_law, "run", "(LSixtyFive;I[J)I"⟩
abbrev b_L_peek : ByteArray := method_8_code
def y_L_peek : MethodName := ⟨R_law, "peek", "(LSixtyFive;I[J)I"⟩
abbrev b_L_get : ByteArray := method_9_code
def y_L_get : MethodName := ⟨R_law, "get", "(LSixtyFive;I[J)I"⟩
abbrev b_L_sector : ByteArray := method_10_code
def y_L_sector : MethodName := ⟨R_law, "sector", "(LSixtyFive;II[J)I"⟩
/-! words of the tables by their places -/
set_option maxRecDepth 20000 in
theorem mw_119 : (Jvm.Cond.classLink "SixtyFiveLaw" (13 : Nat) "java/lang/IllegalArgumentException") ∈ BIG := big_of (List.mem_append_right _ (List.mem_of_getElem? (i := 119) rfl)) rfl
set_option maxRecDepth 20000 in
theorem mw_120 : (Jvm.Cond.methodLink "SixtyFiveLaw" (7 : Nat) ({ cls := "SixtyFive", name := "load", desc := "(IJI)I" } : Jvm.MethodName)) ∈ BIG := big_of (List.mem_append_right _ (List.mem_of_getElem? (i := 120) rfl)) rfl
set_option maxRecDepth 20000 in
theorem mw_121 : (Jvm.Cond.instanceMethod ({ cls := "SixtyFive", name := "load", desc := "(IJI)I" } : Jvm.MethodName)) ∈ BIG := big_of (List.mem_append_right _ (List.mem_of_getElem? (i := 121) rfl)) rfl
set_option maxRecDepth 20000 in
theorem mw_122 : (Jvm.Cond.selects "SixtyFive" ({ cls := "SixtyFive", name := "load", desc := "(IJI)I" } : Jvm.MethodName) ({ cls := "SixtyFive", name := "load", desc := "(IJI)I" } : Jvm.MethodName)) ∈ BIG := big_of (List.mem_append_right _ (List.mem_of_getElem? (i := 122) rfl)) rfl
set_option maxRecDepth 20000 in
theorem mw_123 : (Jvm.Cond.code ({ cls := "SixtyFive", name := "load", desc := "(IJI)I" } : Jvm.MethodName) prog_1_method_2_code (5 : Nat) (Option.some Jvm.ClassFile.FieldType.int)) ∈ BIG := big_of (List.mem_append_right _ (List.mem_of_getElem? (i := 123) rfl)) rfl
set_option maxRecDepth 20000 in
theorem mw_209 : (Jvm.Cond.methodLink "SixtyFiveLaw" (15 : Nat) ({ cls := "SixtyFive", name := "insert", desc := "(IIJI)I" } : Jvm.MethodName)) ∈ BIG := big_of (List.mem_append_right _ (List.mem_of_getElem? (i := 209) rfl)) rfl
set_option maxRecDepth 20000 in
theorem mw_210 : (Jvm.Cond.instanceMethod ({ cls := "SixtyFive", name := "insert", desc := "(IIJI)I" } : Jvm.MethodName)) ∈ BIG := big_of (List.mem_append_right _ (List.mem_of_getElem? (i := 210) rfl)) rfl
set_option maxRecDepth 20000 in
theorem mw_211 : (Jvm.Cond.selects "SixtyFive" ({ cls := "SixtyFive", name := "insert", desc := "(IIJI)I" } : Jvm.MethodName) ({ cls := "SixtyFive", name := "insert", desc := "(IIJI)I" } : Jvm.MethodName)) ∈ BIG := big_of (List.mem_append_right _ (List.mem_of_getElem? (i := 211) rfl)) rfl
set_option maxRecDepth 20000 in
theorem mw_212 : (Jvm.Cond.code ({ cls := "SixtyFive", name := "insert", desc := "(IIJI)I" } : Jvm.MethodName) prog_1_method_3_code (6 : Nat) (Option.some Jvm.ClassFile.FieldType.int)) ∈ BIG := big_of (List.mem_append_right _ (List.mem_of_getElem? (i := 212) rfl)) rfl
set_option maxRecDepth 20000 in
theorem mw_216 : (Jvm.Cond.methodLink "SixtyFiveLaw" (19 : Nat) ({ cls := "SixtyFive", name := "put", desc := "(II)I" } : Jvm.MethodName)) ∈ BIG := big_of (List.mem_append_right _ (List.mem_of_getElem? (i := 216) rfl)) rfl
set_option maxRecDepth 20000 in
theorem mw_217 : (Jvm.Cond.instanceMethod ({ cls := "SixtyFive", name := "put", desc := "(II)I" } : Jvm.MethodName)) ∈ BIG := big_of (List.mem_append_right _ (List.mem_of_getElem? (i := 217) rfl)) rfl
set_option maxRecDepth 20000 in
theorem mw_218 : (Jvm.Cond.selects "SixtyFive" ({ cls := "SixtyFive", name := "put", desc := "(II)I" } : Jvm.MethodName) ({ cls := "SixtyFive", name := "put", desc := "(II)I" } : Jvm.MethodName)) ∈ BIG := big_of (List.mem_append_right _ (List.mem_of_getElem? (i := 218) rfl)) rfl
set_option maxRecDepth 20000 in
theorem mw_219 : (Jvm.Cond.code ({ cls := "SixtyFive", name := "put", desc := "(II)I" } : Jvm.MethodName) prog_1_method_4_code (4 : Nat) (Option.some Jvm.ClassFile.FieldType.int)) ∈ BIG := big_of (List.mem_append_right _ (List.mem_of_getElem? (i := 219) rfl)) rfl
set_option maxRecDepth 20000 in
theorem mw_239 : (Jvm.Cond.classLink "SixtyFiveLaw" (27 : Nat) "java/lang/IllegalStateException") ∈ BIG := big_of (List.mem_append_right _ (List.mem_of_getElem? (i := 239) rfl)) rfl
set_option maxRecDepth 20000 in
theorem mw_240 : (Jvm.Cond.methodLink "SixtyFiveLaw" (23 : Nat) ({ cls := "SixtyFive", name := "press", desc := "(I)I" } : Jvm.MethodName)) ∈ BIG := big_of (List.mem_append_right _ (List.mem_of_getElem? (i := 240) rfl)) rfl
set_option maxRecDepth 20000 in
theorem mw_241 : (Jvm.Cond.instanceMethod ({ cls := "SixtyFive", name := "press", desc := "(I)I" } : Jvm.MethodName)) ∈ BIG := big_of (List.mem_append_right _ (List.mem_of_getElem? (i := 241) rfl)) rfl
set_option maxRecDepth 20000 in
theorem mw_242 : (Jvm.Cond.selects "SixtyFive" ({ cls := "SixtyFive", name := "press", desc := "(I)I" } : Jvm.MethodName) ({ cls := "SixtyFive", name := "press", desc := "(I)I" } : Jvm.MethodName)) ∈ BIG := big_of (List.mem_append_right _ (List.mem_of_getElem? (i := 242) rfl)) rfl
set_option maxRecDepth 20000 in
theorem mw_243 : (Jvm.Cond.code ({ cls := "SixtyFive", name := "press", desc := "(I)I" } : Jvm.MethodName) prog_1_method_5_code (2 : Nat) (Option.some Jvm.ClassFile.FieldType.int)) ∈ BIG := big_of (List.mem_append_right _ (List.mem_of_getElem? (i := 243) rfl)) rfl
set_option maxRecDepth 20000 in
theorem mw_263 : (Jvm.Cond.classLink "SixtyFiveLaw" (32 : Nat) "java/lang/UnsupportedOperationException") ∈ BIG := big_of (List.mem_append_right _ (List.mem_of_getElem? (i := 263) rfl)) rfl
set_option maxRecDepth 20000 in
theorem mw_264 : (Jvm.Cond.classLink "SixtyFiveLaw" (34 : Nat) "java/lang/IndexOutOfBoundsException") ∈ BIG := big_of (List.mem_append_right _ (List.mem_of_getElem? (i := 264) rfl)) rfl
set_option maxRecDepth 20000 in
theorem mw_265 : (Jvm.Cond.classLink "SixtyFiveLaw" (36 : Nat) "java/util/NoSuchElementException") ∈ BIG := big_of (List.mem_append_right _ (List.mem_of_getElem? (i := 265) rfl)) rfl
set_option maxRecDepth 20000 in
theorem mw_266 : (Jvm.Cond.methodLink "SixtyFiveLaw" (29 : Nat) ({ cls := "SixtyFive", name := "run", desc := "(I)I" } : Jvm.MethodName)) ∈ BIG := big_of (List.mem_append_right _ (List.mem_of_getElem? (i := 266) rfl)) rfl
set_option maxRecDepth 20000 in
theorem mw_267 : (Jvm.Cond.instanceMethod ({ cls := "SixtyFive", name := "run", desc := "(I)I" } : Jvm.MethodName)) ∈ BIG := big_of (List.mem_append_right _ (List.mem_of_getElem? (i := 267) rfl)) rfl
set_option maxRecDepth 20000 in
theorem mw_268 : (Jvm.Cond.selects "SixtyFive" ({ cls := "SixtyFive", name := "run", desc := "(I)I" } : Jvm.MethodName) ({ cls := "SixtyFive", name := "run", desc := "(I)I" } : Jvm.MethodName)) ∈ BIG := big_of (List.mem_append_right _ (List.mem_of_getElem? (i := 268) rfl)) rfl
set_option maxRecDepth 20000 in
theorem mw_269 : (Jvm.Cond.code ({ cls := "SixtyFive", name := "run", desc := "(I)I" } : Jvm.MethodName) prog_1_method_7_code (4 : Nat) (Option.some Jvm.ClassFile.FieldType.int)) ∈ BIG := big_of (List.mem_append_right _ (List.mem_of_getElem? (i := 269) rfl)) rfl
set_option maxRecDepth 20000 in
theorem mw_437 : (Jvm.Cond.methodLink "SixtyFiveLaw" (38 : Nat) ({ cls := "SixtyFive", name := "peek", desc := "(I)I" } : Jvm.MethodName)) ∈ BIG := big_of (List.mem_append_right _ (List.mem_of_getElem? (i := 437) rfl)) rfl
set_option maxRecDepth 20000 in
theorem mw_438 : (Jvm.Cond.instanceMethod ({ cls := "SixtyFive", name := "peek", desc := "(I)I" } : Jvm.MethodName)) ∈ BIG := big_of (List.mem_append_right _ (List.mem_of_getElem? (i := 438) rfl)) rfl
set_option maxRecDepth 20000 in
theorem mw_439 : (Jvm.Cond.selects "SixtyFive" ({ cls := "SixtyFive", name := "peek", desc := "(I)I" } : Jvm.MethodName) ({ cls := "SixtyFive", name := "peek", desc := "(I)I" } : Jvm.MethodName)) ∈ BIG := big_of (List.mem_append_right _ (List.mem_of_getElem? (i := 439) rfl)) rfl
set_option maxRecDepth 20000 in
theorem mw_440 : (Jvm.Cond.code ({ cls := "SixtyFive", name := "peek", desc := "(I)I" } : Jvm.MethodName) prog_1_method_8_code (2 : Nat) (Option.some Jvm.ClassFile.FieldType.int)) ∈ BIG := big_of (List.mem_append_right _ (List.mem_of_getElem? (i := 440) rfl)) rfl
set_option maxRecDepth 20000 in
theorem mw_444 : (Jvm.Cond.methodLink "SixtyFiveLaw" (41 : Nat) ({ cls := "SixtyFive", name := "get", desc := "(I)I" } : Jvm.MethodName)) ∈ BIG := big_of (List.mem_append_right _ (List.mem_of_getElem? (i := 444) rfl)) rfl
set_option maxRecDepth 20000 in
theorem mw_445 : (Jvm.Cond.instanceMethod ({ cls := "SixtyFive", name := "get", desc := "(I)I" } : Jvm.MethodName)) ∈ BIG := big_of (List.mem_append_right _ (List.mem_of_getElem? (i := 445) rfl)) rfl
set_option maxRecDepth 20000 in
theorem mw_446 : (Jvm.Cond.selects "SixtyFive" ({ cls := "SixtyFive", name := "get", desc := "(I)I" } : Jvm.MethodName) ({ cls := "SixtyFive", name := "get", desc := "(I)I" } : Jvm.MethodName)) ∈ BIG := big_of (List.mem_append_right _ (List.mem_of_getElem? (i := 446) rfl)) rfl
set_option maxRecDepth 20000 in
theorem mw_447 : (Jvm.Cond.code ({ cls := "SixtyFive", name := "get", desc := "(I)I" } : Jvm.MethodName) prog_1_method_9_code (2 : Nat) (Option.some Jvm.ClassFile.FieldType.int)) ∈ BIG := big_of (List.mem_append_right _ (List.mem_of_getElem? (i := 447) rfl)) rfl
set_option maxRecDepth 20000 in
theorem mw_451 : (Jvm.Cond.methodLink "SixtyFiveLaw" (44 : Nat) ({ cls := "SixtyFive", name := "sector", desc := "(II)I" } : Jvm.MethodName)) ∈ BIG := big_of (List.mem_append_right _ (List.mem_of_getElem? (i := 451) rfl)) rfl
set_option maxRecDepth 20000 in
theorem mw_452 : (Jvm.Cond.instanceMethod ({ cls := "SixtyFive", name := "sector", desc := "(II)I" } : Jvm.MethodName)) ∈ BIG := big_of (List.mem_append_right _ (List.mem_of_getElem? (i := 452) rfl)) rfl
set_option maxRecDepth 20000 in
theorem mw_453 : (Jvm.Cond.selects "SixtyFive" ({ cls := "SixtyFive", name := "sector", desc := "(II)I" } : Jvm.MethodName) ({ cls := "SixtyFive", name := "sector", desc := "(II)I" } : Jvm.MethodName)) ∈ BIG := big_of (List.mem_append_right _ (List.mem_of_getElem? (i := 453) rfl)) rfl
set_option maxRecDepth 20000 in
theorem mw_454 : (Jvm.Cond.code ({ cls := "SixtyFive", name := "sector", desc := "(II)I" } : Jvm.MethodName) prog_1_method_10_code (3 : Nat) (Option.some Jvm.ClassFile.FieldType.int)) ∈ BIG := big_of (List.mem_append_right _ (List.mem_of_getElem? (i := 454) rfl)) rfl
set_option maxRecDepth 20000 in
theorem ew_135 : (Jvm.Cond.castable "java/lang/IllegalArgumentException" "java/lang/IllegalArgumentException") ∈ enW := List.mem_filter.mpr ⟨List.mem_append_right _ (List.mem_of_getElem? (i := 135) rfl), rfl⟩
set_option maxRecDepth 20000 in
theorem ew_246 : (Jvm.Cond.castable "java/lang/IllegalStateException" "java/lang/IllegalStateException") ∈ enW := List.mem_filter.mpr ⟨List.mem_append_right _ (List.mem_of_getElem? (i := 246) rfl), rfl⟩
set_option maxRecDepth 20000 in
theorem ew_388 : (Jvm.Cond.castable "java/lang/UnsupportedOperationException" "java/lang/UnsupportedOperationException") ∈ enW := List.mem_filter.mpr ⟨List.mem_append_right _ (List.mem_of_getElem? (i := 388) rfl), rfl⟩
set_option maxRecDepth 20000 in
theorem ew_404 : (Jvm.Cond.castable "java/lang/IndexOutOfBoundsException" "java/lang/IndexOutOfBoundsException") ∈ enW := List.mem_filter.mpr ⟨List.mem_append_right _ (List.mem_of_getElem? (i := 404) rfl), rfl⟩
set_option maxRecDepth 20000 in
theorem ew_420 : (Jvm.Cond.castable "java/util/NoSuchElementException" "java/util/NoSuchElementException") ∈ enW := List.mem_filter.mpr ⟨List.mem_append_right _ (List.mem_of_getElem? (i := 420) rfl), rfl⟩
abbrev w_L_load : List Cond := Cond.codeWith y_L_load b_L_load 7 (some .int) [(0, 13, 16, 13)] :: BIG
abbrev w_L_insert : List Cond := Cond.codeWith y_L_insert b_L_insert 8 (some .int) [(0, 14, 17, 13)] :: BIG
abbrev w_L_put : List Cond := Cond.codeWith y_L_put b_L_put 5 (some .int) [(0, 10, 13, 13)] :: BIG
abbrev w_L_press : List Cond := Cond.codeWith y_L_press b_L_press 4 (some .int) [(0, 9, 12, 13), (0, 9, 15, 27)] :: BIG
abbrev w_L_run : List Cond := Cond.codeWith y_L_run b_L_run 4 (some .int) [(0, 9, 12, 13), (0, 9, 15, 27), (0, 9, 18, 32), (0, 9, 21, 34), (0, 9, 24, 36)] :: BIG
abbrev w_L_peek : List Cond := Cond.codeWith y_L_peek b_L_peek 4 (some .int) [(0, 9, 12, 13)] :: BIG
abbrev w_L_get : List Cond := Cond.codeWith y_L_get b_L_get 4 (some .int) [(0, 9, 12, 13)] :: BIG
abbrev w_L_sector : List Cond := Cond.codeWith y_L_sector b_L_sector 5 (some .int) [(0, 10, 13, 13)] :: BIG
theorem d_L_load_0 : decode b_L_load 0 = .ok (.aload 5, 2) := by decide +kernel
theorem d_L_load_2 : decode b_L_load 2 = .ok (.iconst 0, 1) := by decide +kernel
theorem d_L_load_3 : decode b_L_load 3 = .ok (.aload_n 0, 1) := by decide +kernel
theorem d_L_load_4 : decode b_L_load 4 = .ok (.iload_n 1, 1) := by decide +kernel
theorem d_L_load_5 : decode b_L_load 5 = .ok (.lload_n 2, 1) := by decide +kernel
theorem d_L_load_6 : decode b_L_load 6 = .ok (.iload 4, 2) := by decide +kernel
theorem d_L_load_8 : decode b_L_load 8 = .ok (.invokevirtual 7, 3) := by decide +kernel
theorem d_L_load_11 : decode b_L_load 11 = .ok (.i2l, 1) := by decide +kernel
theorem d_L_load_12 : decode b_L_load 12 = .ok (.lastore, 1) := by decide +kernel
theorem d_L_load_13 : decode b_L_load 13 = .ok (.goto 7, 3) := by decide +kernel
theorem d_L_load_16 : decode b_L_load 16 = .ok (.astore 6, 2) := by decide +kernel
theorem d_L_load_18 : decode b_L_load 18 = .ok (.iconst 1, 1) := by decide +kernel
theorem d_L_load_19 : decode b_L_load 19 = .ok (.ireturn, 1) := by decide +kernel
theorem d_L_load_20 : decode b_L_load 20 = .ok (.iconst 0, 1) := by decide +kernel
theorem d_L_load_21 : decode b_L_load 21 = .ok (.ireturn, 1) := by decide +kernel
theorem d_L_insert_0 : decode b_L_insert 0 = .ok (.aload 6, 2) := by decide +kernel
theorem d_L_insert_2 : decode b_L_insert 2 = .ok (.iconst 0, 1) := by decide +kernel
theorem d_L_insert_3 : decode b_L_insert 3 = .ok (.aload_n 0, 1) := by decide +kernel
theorem d_L_insert_4 : decode b_L_insert 4 = .ok (.iload_n 1, 1) := by decide +kernel
theorem d_L_insert_5 : decode b_L_insert 5 = .ok (.iload_n 2, 1) := by decide +kernel
theorem d_L_insert_6 : decode b_L_insert 6 = .ok (.lload_n 3, 1) := by decide +kernel
theorem d_L_insert_7 : decode b_L_insert 7 = .ok (.iload 5, 2) := by decide +kernel
theorem d_L_insert_9 : decode b_L_insert 9 = .ok (.invokevirtual 15, 3) := by decide +kernel
theorem d_L_insert_12 : decode b_L_insert 12 = .ok (.i2l, 1) := by decide +kernel
theorem d_L_insert_13 : decode b_L_insert 13 = .ok (.lastore, 1) := by decide +kernel
theorem d_L_insert_14 : decode b_L_insert 14 = .ok (.goto 7, 3) := by decide +kernel
theorem d_L_insert_17 : decode b_L_insert 17 = .ok (.astore 7, 2) := by decide +kernel
theorem d_L_insert_19 : decode b_L_insert 19 = .ok (.iconst 1, 1) := by decide +kernel
theorem d_L_insert_20 : decode b_L_insert 20 = .ok (.ireturn, 1) := by decide +kernel
theorem d_L_insert_21 : decode b_L_insert 21 = .ok (.iconst 0, 1) := by decide +kernel
theorem d_L_insert_22 : decode b_L_insert 22 = .ok (.ireturn, 1) := by decide +kernel
theorem d_L_put_0 : decode b_L_put 0 = .ok (.aload_n 3, 1) := by decide +kernel
theorem d_L_put_1 : decode b_L_put 1 = .ok (.iconst 0, 1) := by decide +kernel
theorem d_L_put_2 : decode b_L_put 2 = .ok (.aload_n 0, 1) := by decide +kernel
theorem d_L_put_3 : decode b_L_put 3 = .ok (.iload_n 1, 1) := by decide +kernel
theorem d_L_put_4 : decode b_L_put 4 = .ok (.iload_n 2, 1) := by decide +kernel
theorem d_L_put_5 : decode b_L_put 5 = .ok (.invokevirtual 19, 3) := by decide +kernel
theorem d_L_put_8 : decode b_L_put 8 = .ok (.i2l, 1) := by decide +kernel
theorem d_L_put_9 : decode b_L_put 9 = .ok (.lastore, 1) := by decide +kernel
theorem d_L_put_10 : decode b_L_put 10 = .ok (.goto 7, 3) := by decide +kernel
theorem d_L_put_13 : decode b_L_put 13 = .ok (.astore 4, 2) := by decide +kernel
theorem d_L_put_15 : decode b_L_put 15 = .ok (.iconst 1, 1) := by decide +kernel
theorem d_L_put_16 : decode b_L_put 16 = .ok (.ireturn, 1) := by decide +kernel
theorem d_L_put_17 : decode b_L_put 17 = .ok (.iconst 0, 1) := by decide +kernel
theorem d_L_put_18 : decode b_L_put 18 = .ok (.ireturn, 1) := by decide +kernel
theorem d_L_press_0 : decode b_L_press 0 = .ok (.aload_n 2, 1) := by decide +kernel
theorem d_L_press_1 : decode b_L_press 1 = .ok (.iconst 0, 1) := by decide +kernel
theorem d_L_press_2 : decode b_L_press 2 = .ok (.aload_n 0, 1) := by decide +kernel
theorem d_L_press_3 : decode b_L_press 3 = .ok (.iload_n 1, 1) := by decide +kernel
theorem d_L_press_4 : decode b_L_press 4 = .ok (.invokevirtual 23, 3) := by decide +kernel
theorem d_L_press_7 : decode b_L_press 7 = .ok (.i2l, 1) := by decide +kernel
theorem d_L_press_8 : decode b_L_press 8 = .ok (.lastore, 1) := by decide +kernel
theorem d_L_press_9 : decode b_L_press 9 = .ok (.goto 9, 3) := by decide +kernel
theorem d_L_press_12 : decode b_L_press 12 = .ok (.astore_n 3, 1) := by decide +kernel
theorem d_L_press_13 : decode b_L_press 13 = .ok (.iconst 1, 1) := by decide +kernel
theorem d_L_press_14 : decode b_L_press 14 = .ok (.ireturn, 1) := by decide +kernel
theorem d_L_press_15 : decode b_L_press 15 = .ok (.astore_n 3, 1) := by decide +kernel
theorem d_L_press_16 : decode b_L_press 16 = .ok (.iconst 2, 1) := by decide +kernel
theorem d_L_press_17 : decode b_L_press 17 = .ok (.ireturn, 1) := by decide +kernel
theorem d_L_press_18 : decode b_L_press 18 = .ok (.iconst 0, 1) := by decide +kernel
theorem d_L_press_19 : decode b_L_press 19 = .ok (.ireturn, 1) := by decide +kernel
theorem d_L_run_0 : decode b_L_run 0 = .ok (.aload_n 2, 1) := by decide +kernel
theorem d_L_run_1 : decode b_L_run 1 = .ok (.iconst 0, 1) := by decide +kernel
theorem d_L_run_2 : decode b_L_run 2 = .ok (.aload_n 0, 1) := by decide +kernel
theorem d_L_run_3 : decode b_L_run 3 = .ok (.iload_n 1, 1) := by decide +kernel
theorem d_L_run_4 : decode b_L_run 4 = .ok (.invokevirtual 29, 3) := by decide +kernel
theorem d_L_run_7 : decode b_L_run 7 = .ok (.i2l, 1) := by decide +kernel
theorem d_L_run_8 : decode b_L_run 8 = .ok (.lastore, 1) := by decide +kernel
theorem d_L_run_9 : decode b_L_run 9 = .ok (.goto 18, 3) := by decide +kernel
theorem d_L_run_12 : decode b_L_run 12 = .ok (.astore_n 3, 1) := by decide +kernel
theorem d_L_run_13 : decode b_L_run 13 = .ok (.iconst 1, 1) := by decide +kernel
theorem d_L_run_14 : decode b_L_run 14 = .ok (.ireturn, 1) := by decide +kernel
theorem d_L_run_15 : decode b_L_run 15 = .ok (.astore_n 3, 1) := by decide +kernel
theorem d_L_run_16 : decode b_L_run 16 = .ok (.iconst 2, 1) := by decide +kernel
theorem d_L_run_17 : decode b_L_run 17 = .ok (.ireturn, 1) := by decide +kernel
theorem d_L_run_18 : decode b_L_run 18 = .ok (.astore_n 3, 1) := by decide +kernel
theorem d_L_run_19 : decode b_L_run 19 = .ok (.iconst 3, 1) := by decide +kernel
theorem d_L_run_20 : decode b_L_run 20 = .ok (.ireturn, 1) := by decide +kernel
theorem d_L_run_21 : decode b_L_run 21 = .ok (.astore_n 3, 1) := by decide +kernel
theorem d_L_run_22 : decode b_L_run 22 = .ok (.iconst 4, 1) := by decide +kernel
theorem d_L_run_23 : decode b_L_run 23 = .ok (.ireturn, 1) := by decide +kernel
theorem d_L_run_24 : decode b_L_run 24 = .ok (.astore_n 3, 1) := by decide +kernel
theorem d_L_run_25 : decode b_L_run 25 = .ok (.iconst 5, 1) := by decide +kernel
theorem d_L_run_26 : decode b_L_run 26 = .ok (.ireturn, 1) := by decide +kernel
theorem d_L_run_27 : decode b_L_run 27 = .ok (.iconst 0, 1) := by decide +kernel
theorem d_L_run_28 : decode b_L_run 28 = .ok (.ireturn, 1) := by decide +kernel
theorem d_L_peek_0 : decode b_L_peek 0 = .ok (.aload_n 2, 1) := by decide +kernel
theorem d_L_peek_1 : decode b_L_peek 1 = .ok (.iconst 0, 1) := by decide +kernel
theorem d_L_peek_2 : decode b_L_peek 2 = .ok (.aload_n 0, 1) := by decide +kernel
theorem d_L_peek_3 : decode b_L_peek 3 = .ok (.iload_n 1, 1) := by decide +kernel
theorem d_L_peek_4 : decode b_L_peek 4 = .ok (.invokevirtual 38, 3) := by decide +kernel
theorem d_L_peek_7 : decode b_L_peek 7 = .ok (.i2l, 1) := by decide +kernel
theorem d_L_peek_8 : decode b_L_peek 8 = .ok (.lastore, 1) := by decide +kernel
theorem d_L_peek_9 : decode b_L_peek 9 = .ok (.goto 6, 3) := by decide +kernel
theorem d_L_peek_12 : decode b_L_peek 12 = .ok (.astore_n 3, 1) := by decide +kernel
theorem d_L_peek_13 : decode b_L_peek 13 = .ok (.iconst 1, 1) := by decide +kernel
theorem d_L_peek_14 : decode b_L_peek 14 = .ok (.ireturn, 1) := by decide +kernel
theorem d_L_peek_15 : decode b_L_peek 15 = .ok (.iconst 0, 1) := by decide +kernel
theorem d_L_peek_16 : decode b_L_peek 16 = .ok (.ireturn, 1) := by decide +kernel
theorem d_L_get_0 : decode b_L_get 0 = .ok (.aload_n 2, 1) := by decide +kernel
theorem d_L_get_1 : decode b_L_get 1 = .ok (.iconst 0, 1) := by decide +kernel
theorem d_L_get_2 : decode b_L_get 2 = .ok (.aload_n 0, 1) := by decide +kernel
theorem d_L_get_3 : decode b_L_get 3 = .ok (.iload_n 1, 1) := by decide +kernel
theorem d_L_get_4 : decode b_L_get 4 = .ok (.invokevirtual 41, 3) := by decide +kernel
theorem d_L_get_7 : decode b_L_get 7 = .ok (.i2l, 1) := by decide +kernel
theorem d_L_get_8 : decode b_L_get 8 = .ok (.lastore, 1) := by decide +kernel
theorem d_L_get_9 : decode b_L_get 9 = .ok (.goto 6, 3) := by decide +kernel
theorem d_L_get_12 : decode b_L_get 12 = .ok (.astore_n 3, 1) := by decide +kernel
theorem d_L_get_13 : decode b_L_get 13 = .ok (.iconst 1, 1) := by decide +kernel
theorem d_L_get_14 : decode b_L_get 14 = .ok (.ireturn, 1) := by decide +kernel
theorem d_L_get_15 : decode b_L_get 15 = .ok (.iconst 0, 1) := by decide +kernel
theorem d_L_get_16 : decode b_L_get 16 = .ok (.ireturn, 1) := by decide +kernel
theorem d_L_sector_0 : decode b_L_sector 0 = .ok (.aload_n 3, 1) := by decide +kernel
theorem d_L_sector_1 : decode b_L_sector 1 = .ok (.iconst 0, 1) := by decide +kernel
theorem d_L_sector_2 : decode b_L_sector 2 = .ok (.aload_n 0, 1) := by decide +kernel
theorem d_L_sector_3 : decode b_L_sector 3 = .ok (.iload_n 1, 1) := by decide +kernel
theorem d_L_sector_4 : decode b_L_sector 4 = .ok (.iload_n 2, 1) := by decide +kernel
theorem d_L_sector_5 : decode b_L_sector 5 = .ok (.invokevirtual 44, 3) := by decide +kernel
theorem d_L_sector_8 : decode b_L_sector 8 = .ok (.i2l, 1) := by decide +kernel
theorem d_L_sector_9 : decode b_L_sector 9 = .ok (.lastore, 1) := by decide +kernel
theorem d_L_sector_10 : decode b_L_sector 10 = .ok (.goto 7, 3) := by decide +kernel
theorem d_L_sector_13 : decode b_L_sector 13 = .ok (.astore 4, 2) := by decide +kernel
theorem d_L_sector_15 : decode b_L_sector 15 = .ok (.iconst 1, 1) := by decide +kernel
theorem d_L_sector_16 : decode b_L_sector 16 = .ok (.ireturn, 1) := by decide +kernel
theorem d_L_sector_17 : decode b_L_sector 17 = .ok (.iconst 0, 1) := by decide +kernel
theorem d_L_sector_18 : decode b_L_sector 18 = .ok (.ireturn, 1) := by decide +kernel
/-- the row of one long -/
abbrev c_L (q : Nat) (cA : ClassId) (f : Nat → Int64) : Nat × va_E := (q, .inl (cA, 1, .inr (.inl f)))
theorem updL0 {o : Nat → Int64} {x : Int64} : vp_updL o ((0 : Int32).toNatClampNeg) x 0 = x := by
  rw [show (0 : Int32).toNatClampNeg = 0 from by decide]; exact pk_uLs
/-- THE HEAD OF A METHOD with a table of handlers -/
theorem hdXw {l : Launch} {y : MethodName} {cc : ByteArray} {maxL : Nat} {ret : Option FieldType} {hh : List (Nat × Nat × Nat × Nat)} {rm : Room} {D : va_G} {cl : List vw_C} {z0 : Nat} {ws : va_W} {tys : List (ClassId × FieldType)} {sz : Nat} {av : List Value} {Qc : (Nat → Prop) → Array Value → State → Outcome → State → Prop} {mc ms : Nat} {C : String}
    (hy : plainName y.cls = true) (hC : y.cls = C)
    (body : ∀ (p : Program) (e : Env) (s : State) (m : MethodId) (below : List Frame) (meth : Method) (c : Code) (A : Nat → Prop) (H : Heap), p.tables.exec = Jvm.exec → c.code = cc → meth.sig.returnType = ret → meth.locks = false → c.exceptionTable.toList = tableOf hh → c.maxLocals = maxL → s.vm.findClass C = some m.cls → meth.name = y.name → (∀ w ∈ BIG, w.before av.toArray s = true) → va_P D cl ws H → va_K D cl tys s → va_D A ws → (∀ q : Nat, s.heap.size ≤ q → A q) → (∀ q, A q → z0 ≤ q) → EN z0 s → va_S A s.heap H [] →
      W p l e (headSpec (Cond.codeWith y cc maxL ret hh :: BIG) rm).room s m av.toArray below meth c H [] 0 0 (MQ below (Qc A) av.toArray s mc ms A) (entryFrame m av.toArray maxL)) :
    Met l y (Cond.codeWith y cc maxL ret hh :: BIG) rm (PcX D cl z0 ws tys sz av) (Qc (va_A ws sz)) mc ms (va_A ws sz) := by
  refine va_MetW (cc := cc) (maxL := maxL) (ret := ret) (hh := hh) hy rfl ?_
  intro p e s m args below meth c s₁ B hml hv
  obtain ⟨rfl, hsz, hP, hK, hD0, hE⟩ := hv
  have hts := atoms_spec (ws := Cond.codeWith y cc maxL ret hh :: BIG) B.pre
  subst hsz
  refine body p e s m below meth c (va_A ws s.heap.size) s.heap B.exec B.bytes B.returns B.notSynchronized (vx_table (x := y) B (hts _ List.mem_cons_self)) hml (hC ▸ findClass_of_methodNamed B.named) (name_of_methodNamed B.named B.method).1 (fun w h => hts w (List.mem_cons_of_mem _ h)) hP hK hD0.self (fun q h => Or.inr h) ?_ hE va_S.rf
  intro q hq
  rcases hq with ⟨k, e', hk⟩ | h
  · exact hD0.2 k _ hk
  · exact Nat.le_trans hE.1 h
theorem dem_01 (x : Int32) : f_S_demand x = 0 ∨ f_S_demand x = 1 := by
  unfold f_S_demand; split
  · exact Or.inr rfl
  · exact Or.inl rfl
theorem co_load {p1 : Int32} {p2 : Int64} {p3 : Int32} {g r k M D : Nat → Int32} : (f_S_load p1 p2 p3 g r k M D).1 = 0 ∨ (f_S_load p1 p2 p3 g r k M D).1 = 1 := by
  unfold f_S_load; repeat' split
  all_goals first | exact Or.inl rfl | exact dem_01 _ | exact Or.inr rfl
theorem co_insert {p1 p2 : Int32} {p3 : Int64} {p4 : Int32} {g r k M D : Nat → Int32} : (f_S_insert p1 p2 p3 p4 g r k M D).1 = 0 ∨ (f_S_insert p1 p2 p3 p4 g r k M D).1 = 1 := by
  unfold f_S_insert; repeat' split
  all_goals first | exact Or.inl rfl | exact dem_01 _ | exact Or.inr rfl
theorem co_put {p1 p2 : Int32} {g r k M D : Nat → Int32} : (f_S_put p1 p2 g r k M D).1 = 0 ∨ (f_S_put p1 p2 g r k M D).1 = 1 := by
  unfold f_S_put; repeat' split
  all_goals first | exact Or.inl rfl | exact dem_01 _ | exact Or.inr rfl
theorem co_peek {p1 : Int32} {g r k M D : Nat → Int32} : (f_S_peek p1 g r k M D).1 = 0 ∨ (f_S_peek p1 g r k M D).1 = 1 := by
  unfold f_S_peek; repeat' split
  all_goals first | exact Or.inl rfl | exact dem_01 _ | exact Or.inr rfl
theorem co_get {p1 : Int32} {g r k M D : Nat → Int32} : (f_S_get p1 g r k M D).1 = 0 ∨ (f_S_get p1 g r k M D).1 = 1 := by
  unfold f_S_get; repeat' split
  all_goals first | exact Or.inl rfl | exact dem_01 _ | exact Or.inr rfl
theorem co_sector {p1 p2 : Int32} {g r k M D : Nat → Int32} : (f_S_sector p1 p2 g r k M D).1 = 0 ∨ (f_S_sector p1 p2 g r k M D).1 = 1 := by
  unfold f_S_sector; repeat' split
  all_goals first | exact Or.inl rfl | exact dem_01 _ | exact Or.inr rfl
theorem co_press {p1 : Int32} {g r k M D : Nat → Int32} : (f_S_press p1 g r k M D).1 = 0 ∨ (f_S_press p1 g r k M D).1 = 1 ∨ (f_S_press p1 g r k M D).1 = 2 := by
  unfold f_S_press; repeat' split
  all_goals first | exact Or.inl rfl | exact Or.inr (Or.inr rfl) | exact (dem_01 _).imp id Or.inl | exact Or.inr (Or.inl rfl)
theorem raise_1_5 (x : Int32) : f_S_raise x = 2 ∨ f_S_raise x = 3 ∨ f_S_raise x = 4 ∨ f_S_raise x = 5 := by
  unfold f_S_raise; repeat' split
  all_goals simp
theorem co_crun : ∀ (n : Nat) (g r k M D : Nat → Int32), (crun n g r k M D).1 = 0 ∨ (crun n g r k M D).1 = 1 ∨ (crun n g r k M D).1 = 2 ∨ (crun n g r k M D).1 = 3 ∨ (crun n g r k M D).1 = 4 ∨ (crun n g r k M D).1 = 5
  | 0, _, _, _, _, _ => Or.inl rfl
  | n + 1, g, r, k, M, D => by
    unfold crun; split
    · exact co_crun n _ _ _ _ _
    · exact Or.inr (Or.inr (raise_1_5 _))
theorem co_run {p1 : Int32} {g r k M D : Nat → Int32} : (f_S_run p1 g r k M D).1 = 0 ∨ (f_S_run p1 g r k M D).1 = 1 ∨ (f_S_run p1 g r k M D).1 = 2 ∨ (f_S_run p1 g r k M D).1 = 3 ∨ (f_S_run p1 g r k M D).1 = 4 ∨ (f_S_run p1 g r k M D).1 = 5 := by
  unfold f_S_run; repeat' split
  all_goals first | exact co_crun _ _ _ _ _ _ | exact (dem_01 _).imp id Or.inl | exact Or.inr (Or.inl rfl)
