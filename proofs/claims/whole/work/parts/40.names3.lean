abbrev b_X_put : ByteArray := prog_5_method_32_code
def y_X_put : MethodName := ⟨R_X, "put", "(II)I"⟩
abbrev b_X_press : ByteArray := prog_5_method_33_code
def y_X_press : MethodName := ⟨R_X, "press", "(I)I"⟩
abbrev b_X_protect : ByteArray := prog_5_method_34_code
def y_X_protect : MethodName := ⟨R_X, "protect", "(Z)Z"⟩
abbrev b_X_peek : ByteArray := prog_5_method_36_code
def y_X_peek : MethodName := ⟨R_X, "peek", "(I)I"⟩
abbrev b_X_get : ByteArray := prog_5_method_37_code
def y_X_get : MethodName := ⟨R_X, "get", "(I)I"⟩
abbrev b_X_sector : ByteArray := prog_5_method_38_code
def y_X_sector : MethodName := ⟨R_X, "sector", "(II)I"⟩
abbrev b_X_instruction : ByteArray := prog_5_method_29_code
def y_X_instruction : MethodName := ⟨R_X, "instruction", "()V"⟩
/-! words of the tables by their places -/
set_option maxRecDepth 20000 in
theorem mw_464 : (Jvm.Cond.fieldLink "SixtyFiveModel" (19 : Nat) "SixtyFiveModel" "before" "[I") ∈ BIG := big_of (List.mem_append_right _ (List.mem_of_getElem? (i := 464) rfl)) rfl
set_option maxRecDepth 20000 in
theorem mw_468 : (Jvm.Cond.fieldLink "SixtyFiveModel" (124 : Nat) "SixtyFiveModel" "done" "I") ∈ BIG := big_of (List.mem_append_right _ (List.mem_of_getElem? (i := 468) rfl)) rfl
set_option maxRecDepth 20000 in
theorem mw_470 : (Jvm.Cond.fieldLink "SixtyFiveModel" (127 : Nat) "SixtyFiveModel" "latest" "I") ∈ BIG := big_of (List.mem_append_right _ (List.mem_of_getElem? (i := 470) rfl)) rfl
set_option maxRecDepth 20000 in
theorem mw_509 : (Jvm.Cond.methodLink "SixtyFiveModel" (130 : Nat) ({ cls := "SixtyFiveModel", name := "in", desc := "(III)Z" } : Jvm.MethodName)) ∈ BIG := big_of (List.mem_append_right _ (List.mem_of_getElem? (i := 509) rfl)) rfl
set_option maxRecDepth 20000 in
theorem mw_510 : (Jvm.Cond.static ({ cls := "SixtyFiveModel", name := "in", desc := "(III)Z" } : Jvm.MethodName)) ∈ BIG := big_of (List.mem_append_right _ (List.mem_of_getElem? (i := 510) rfl)) rfl
set_option maxRecDepth 20000 in
theorem mw_511 : (Jvm.Cond.code ({ cls := "SixtyFiveModel", name := "in", desc := "(III)Z" } : Jvm.MethodName) prog_5_method_3_code (3 : Nat) (Option.some Jvm.ClassFile.FieldType.boolean)) ∈ BIG := big_of (List.mem_append_right _ (List.mem_of_getElem? (i := 511) rfl)) rfl
set_option maxRecDepth 20000 in
theorem mw_512 : (Jvm.Cond.methodLink "SixtyFiveModel" (134 : Nat) ({ cls := "SixtyFiveModel", name := "good", desc := "(ZI)Z" } : Jvm.MethodName)) ∈ BIG := big_of (List.mem_append_right _ (List.mem_of_getElem? (i := 512) rfl)) rfl
set_option maxRecDepth 20000 in
theorem mw_514 : (Jvm.Cond.instanceMethod ({ cls := "SixtyFiveModel", name := "good", desc := "(ZI)Z" } : Jvm.MethodName)) ∈ BIG := big_of (List.mem_append_right _ (List.mem_of_getElem? (i := 514) rfl)) rfl
set_option maxRecDepth 20000 in
theorem mw_515 : (Jvm.Cond.code ({ cls := "SixtyFiveModel", name := "good", desc := "(ZI)Z" } : Jvm.MethodName) prog_5_method_4_code (3 : Nat) (Option.some Jvm.ClassFile.FieldType.boolean)) ∈ BIG := big_of (List.mem_append_right _ (List.mem_of_getElem? (i := 515) rfl)) rfl
set_option maxRecDepth 20000 in
theorem mw_556 : (Jvm.Cond.methodLink "SixtyFiveModel" (111 : Nat) ({ cls := "SixtyFiveModel", name := "sums", desc := "(II)V" } : Jvm.MethodName)) ∈ BIG := big_of (List.mem_append_right _ (List.mem_of_getElem? (i := 556) rfl)) rfl
set_option maxRecDepth 20000 in
theorem mw_558 : (Jvm.Cond.instanceMethod ({ cls := "SixtyFiveModel", name := "sums", desc := "(II)V" } : Jvm.MethodName)) ∈ BIG := big_of (List.mem_append_right _ (List.mem_of_getElem? (i := 558) rfl)) rfl
set_option maxRecDepth 20000 in
theorem mw_559 : (Jvm.Cond.code ({ cls := "SixtyFiveModel", name := "sums", desc := "(II)V" } : Jvm.MethodName) prog_5_method_20_code (6 : Nat) (Option.none : Option Jvm.ClassFile.FieldType)) ∈ BIG := big_of (List.mem_append_right _ (List.mem_of_getElem? (i := 559) rfl)) rfl
set_option maxRecDepth 20000 in
theorem mw_603 : (Jvm.Cond.methodLink "SixtyFiveModel" (114 : Nat) ({ cls := "SixtyFiveModel", name := "moves", desc := "(II)V" } : Jvm.MethodName)) ∈ BIG := big_of (List.mem_append_right _ (List.mem_of_getElem? (i := 603) rfl)) rfl
set_option maxRecDepth 20000 in
theorem mw_605 : (Jvm.Cond.instanceMethod ({ cls := "SixtyFiveModel", name := "moves", desc := "(II)V" } : Jvm.MethodName)) ∈ BIG := big_of (List.mem_append_right _ (List.mem_of_getElem? (i := 605) rfl)) rfl
set_option maxRecDepth 20000 in
theorem mw_606 : (Jvm.Cond.code ({ cls := "SixtyFiveModel", name := "moves", desc := "(II)V" } : Jvm.MethodName) prog_5_method_23_code (5 : Nat) (Option.none : Option Jvm.ClassFile.FieldType)) ∈ BIG := big_of (List.mem_append_right _ (List.mem_of_getElem? (i := 606) rfl)) rfl
set_option maxRecDepth 20000 in
theorem mw_607 : (Jvm.Cond.methodLink "SixtyFiveModel" (117 : Nat) ({ cls := "SixtyFiveModel", name := "changes", desc := "(II)V" } : Jvm.MethodName)) ∈ BIG := big_of (List.mem_append_right _ (List.mem_of_getElem? (i := 607) rfl)) rfl
set_option maxRecDepth 20000 in
theorem mw_609 : (Jvm.Cond.instanceMethod ({ cls := "SixtyFiveModel", name := "changes", desc := "(II)V" } : Jvm.MethodName)) ∈ BIG := big_of (List.mem_append_right _ (List.mem_of_getElem? (i := 609) rfl)) rfl
set_option maxRecDepth 20000 in
theorem mw_610 : (Jvm.Cond.code ({ cls := "SixtyFiveModel", name := "changes", desc := "(II)V" } : Jvm.MethodName) prog_5_method_22_code (6 : Nat) (Option.none : Option Jvm.ClassFile.FieldType)) ∈ BIG := big_of (List.mem_append_right _ (List.mem_of_getElem? (i := 610) rfl)) rfl
set_option maxRecDepth 20000 in
theorem mw_615 : (Jvm.Cond.methodLink "SixtyFiveModel" (120 : Nat) ({ cls := "SixtyFiveModel", name := "tests", desc := "(III)V" } : Jvm.MethodName)) ∈ BIG := big_of (List.mem_append_right _ (List.mem_of_getElem? (i := 615) rfl)) rfl
set_option maxRecDepth 20000 in
theorem mw_617 : (Jvm.Cond.instanceMethod ({ cls := "SixtyFiveModel", name := "tests", desc := "(III)V" } : Jvm.MethodName)) ∈ BIG := big_of (List.mem_append_right _ (List.mem_of_getElem? (i := 617) rfl)) rfl
set_option maxRecDepth 20000 in
theorem mw_618 : (Jvm.Cond.code ({ cls := "SixtyFiveModel", name := "tests", desc := "(III)V" } : Jvm.MethodName) prog_5_method_28_code (7 : Nat) (Option.none : Option Jvm.ClassFile.FieldType)) ∈ BIG := big_of (List.mem_append_right _ (List.mem_of_getElem? (i := 618) rfl)) rfl
set_option maxRecDepth 20000 in
theorem sw_X_changes : Cond.selects "SixtyFiveModel" ({ cls := "SixtyFiveModel", name := "changes", desc := "(II)V" } : Jvm.MethodName) ({ cls := "SixtyFiveModel", name := "changes", desc := "(II)V" } : Jvm.MethodName) ∈ BIG := big_of (List.mem_append_left _ (List.mem_map.mpr ⟨(({ cls := "SixtyFiveModel", name := "changes", desc := "(II)V" } : Jvm.MethodName), 13), List.mem_of_getElem? (i := 47) rfl, rfl⟩)) rfl
set_option maxRecDepth 20000 in
theorem sw_X_good : Cond.selects "SixtyFiveModel" ({ cls := "SixtyFiveModel", name := "good", desc := "(ZI)Z" } : Jvm.MethodName) ({ cls := "SixtyFiveModel", name := "good", desc := "(ZI)Z" } : Jvm.MethodName) ∈ BIG := big_of (List.mem_append_left _ (List.mem_map.mpr ⟨(({ cls := "SixtyFiveModel", name := "good", desc := "(ZI)Z" } : Jvm.MethodName), 13), List.mem_of_getElem? (i := 29) rfl, rfl⟩)) rfl
set_option maxRecDepth 20000 in
theorem sw_X_moves : Cond.selects "SixtyFiveModel" ({ cls := "SixtyFiveModel", name := "moves", desc := "(II)V" } : Jvm.MethodName) ({ cls := "SixtyFiveModel", name := "moves", desc := "(II)V" } : Jvm.MethodName) ∈ BIG := big_of (List.mem_append_left _ (List.mem_map.mpr ⟨(({ cls := "SixtyFiveModel", name := "moves", desc := "(II)V" } : Jvm.MethodName), 13), List.mem_of_getElem? (i := 46) rfl, rfl⟩)) rfl
set_option maxRecDepth 20000 in
theorem sw_X_sums : Cond.selects "SixtyFiveModel" ({ cls := "SixtyFiveModel", name := "sums", desc := "(II)V" } : Jvm.MethodName) ({ cls := "SixtyFiveModel", name := "sums", desc := "(II)V" } : Jvm.MethodName) ∈ BIG := big_of (List.mem_append_left _ (List.mem_map.mpr ⟨(({ cls := "SixtyFiveModel", name := "sums", desc := "(II)V" } : Jvm.MethodName), 13), List.mem_of_getElem? (i := 35) rfl, rfl⟩)) rfl
set_option maxRecDepth 20000 in
theorem sw_X_tests : Cond.selects "SixtyFiveModel" ({ cls := "SixtyFiveModel", name := "tests", desc := "(III)V" } : Jvm.MethodName) ({ cls := "SixtyFiveModel", name := "tests", desc := "(III)V" } : Jvm.MethodName) ∈ BIG := big_of (List.mem_append_left _ (List.mem_map.mpr ⟨(({ cls := "SixtyFiveModel", name := "tests", desc := "(III)V" } : Jvm.MethodName), 13), List.mem_of_getElem? (i := 49) rfl, rfl⟩)) rfl
abbrev w_X_put : List Cond := Cond.code y_X_put b_X_put 4 (some .int) :: BIG
abbrev w_X_press : List Cond := Cond.code y_X_press b_X_press 2 (some .int) :: BIG
abbrev w_X_protect : List Cond := Cond.code y_X_protect b_X_protect 3 (some .boolean) :: BIG
abbrev w_X_peek : List Cond := Cond.code y_X_peek b_X_peek 2 (some .int) :: BIG
abbrev w_X_get : List Cond := Cond.code y_X_get b_X_get 2 (some .int) :: BIG
abbrev w_X_sector : List Cond := Cond.code y_X_sector b_X_sector 3 (some .int) :: BIG
abbrev w_X_instruction : List Cond := Cond.code y_X_instruction b_X_instruction 5 none :: BIG
theorem d_X_put_0 : decode b_X_put 0 = .ok (.aload_n 0, 1) := by decide +kernel
theorem d_X_put_1 : decode b_X_put 1 = .ok (.iload_n 1, 1) := by decide +kernel
theorem d_X_put_2 : decode b_X_put 2 = .ok (.iconst 0, 1) := by decide +kernel
theorem d_X_put_3 : decode b_X_put 3 = .ok (.iconst 5, 1) := by decide +kernel
theorem d_X_put_4 : decode b_X_put 4 = .ok (.invokestatic 130, 3) := by decide +kernel
theorem d_X_put_7 : decode b_X_put 7 = .ok (.ifCond .eq 29, 3) := by decide +kernel
theorem d_X_put_10 : decode b_X_put 10 = .ok (.iload_n 2, 1) := by decide +kernel
theorem d_X_put_11 : decode b_X_put 11 = .ok (.iconst 0, 1) := by decide +kernel
theorem d_X_put_12 : decode b_X_put 12 = .ok (.iload_n 1, 1) := by decide +kernel
theorem d_X_put_13 : decode b_X_put 13 = .ok (.iconst 4, 1) := by decide +kernel
theorem d_X_put_14 : decode b_X_put 14 = .ok (.if_icmp .ne 9, 3) := by decide +kernel
theorem d_X_put_17 : decode b_X_put 17 = .ok (.sipush 1023, 3) := by decide +kernel
theorem d_X_put_20 : decode b_X_put 20 = .ok (.goto 6, 3) := by decide +kernel
theorem d_X_put_23 : decode b_X_put 23 = .ok (.sipush 255, 3) := by decide +kernel
theorem d_X_put_26 : decode b_X_put 26 = .ok (.invokestatic 130, 3) := by decide +kernel
theorem d_X_put_29 : decode b_X_put 29 = .ok (.ifCond .eq 7, 3) := by decide +kernel
theorem d_X_put_32 : decode b_X_put 32 = .ok (.iconst 1, 1) := by decide +kernel
theorem d_X_put_33 : decode b_X_put 33 = .ok (.goto 4, 3) := by decide +kernel
theorem d_X_put_36 : decode b_X_put 36 = .ok (.iconst 0, 1) := by decide +kernel
theorem d_X_put_37 : decode b_X_put 37 = .ok (.iconst 1, 1) := by decide +kernel
theorem d_X_put_38 : decode b_X_put 38 = .ok (.invokevirtual 134, 3) := by decide +kernel
theorem d_X_put_41 : decode b_X_put 41 = .ok (.ifCond .ne 5, 3) := by decide +kernel
theorem d_X_put_44 : decode b_X_put 44 = .ok (.iconst 0, 1) := by decide +kernel
theorem d_X_put_45 : decode b_X_put 45 = .ok (.ireturn, 1) := by decide +kernel
theorem d_X_put_46 : decode b_X_put 46 = .ok (.iload_n 1, 1) := by decide +kernel
theorem d_X_put_47 : decode b_X_put 47 = .ok (.iconst 5, 1) := by decide +kernel
theorem d_X_put_48 : decode b_X_put 48 = .ok (.if_icmp .ne 10, 3) := by decide +kernel
theorem d_X_put_51 : decode b_X_put 51 = .ok (.aload_n 0, 1) := by decide +kernel
theorem d_X_put_52 : decode b_X_put 52 = .ok (.invokevirtual 99, 3) := by decide +kernel
theorem d_X_put_55 : decode b_X_put 55 = .ok (.goto 9, 3) := by decide +kernel
theorem d_X_put_58 : decode b_X_put 58 = .ok (.aload_n 0, 1) := by decide +kernel
theorem d_X_put_59 : decode b_X_put 59 = .ok (.getfield 16, 3) := by decide +kernel
theorem d_X_put_62 : decode b_X_put 62 = .ok (.iload_n 1, 1) := by decide +kernel
theorem d_X_put_63 : decode b_X_put 63 = .ok (.iaload, 1) := by decide +kernel
theorem d_X_put_64 : decode b_X_put 64 = .ok (.istore_n 3, 1) := by decide +kernel
theorem d_X_put_65 : decode b_X_put 65 = .ok (.iload_n 1, 1) := by decide +kernel
theorem d_X_put_66 : decode b_X_put 66 = .ok (.iconst 5, 1) := by decide +kernel
theorem d_X_put_67 : decode b_X_put 67 = .ok (.if_icmp .ne 11, 3) := by decide +kernel
theorem d_X_put_70 : decode b_X_put 70 = .ok (.aload_n 0, 1) := by decide +kernel
theorem d_X_put_71 : decode b_X_put 71 = .ok (.iload_n 2, 1) := by decide +kernel
theorem d_X_put_72 : decode b_X_put 72 = .ok (.invokevirtual 102, 3) := by decide +kernel
theorem d_X_put_75 : decode b_X_put 75 = .ok (.goto 10, 3) := by decide +kernel
theorem d_X_put_78 : decode b_X_put 78 = .ok (.aload_n 0, 1) := by decide +kernel
theorem d_X_put_79 : decode b_X_put 79 = .ok (.getfield 16, 3) := by decide +kernel
theorem d_X_put_82 : decode b_X_put 82 = .ok (.iload_n 1, 1) := by decide +kernel
theorem d_X_put_83 : decode b_X_put 83 = .ok (.iload_n 2, 1) := by decide +kernel
theorem d_X_put_84 : decode b_X_put 84 = .ok (.iastore, 1) := by decide +kernel
theorem d_X_put_85 : decode b_X_put 85 = .ok (.iload_n 3, 1) := by decide +kernel
theorem d_X_put_86 : decode b_X_put 86 = .ok (.ireturn, 1) := by decide +kernel
theorem d_X_press_0 : decode b_X_press 0 = .ok (.aload_n 0, 1) := by decide +kernel
theorem d_X_press_1 : decode b_X_press 1 = .ok (.iload_n 1, 1) := by decide +kernel
theorem d_X_press_2 : decode b_X_press 2 = .ok (.iconst 0, 1) := by decide +kernel
theorem d_X_press_3 : decode b_X_press 3 = .ok (.bipush 127, 2) := by decide +kernel
theorem d_X_press_5 : decode b_X_press 5 = .ok (.invokestatic 130, 3) := by decide +kernel
theorem d_X_press_8 : decode b_X_press 8 = .ok (.iconst 1, 1) := by decide +kernel
theorem d_X_press_9 : decode b_X_press 9 = .ok (.invokevirtual 134, 3) := by decide +kernel
theorem d_X_press_12 : decode b_X_press 12 = .ok (.ifCond .ne 5, 3) := by decide +kernel
theorem d_X_press_15 : decode b_X_press 15 = .ok (.iconst 0, 1) := by decide +kernel
theorem d_X_press_16 : decode b_X_press 16 = .ok (.ireturn, 1) := by decide +kernel
theorem d_X_press_17 : decode b_X_press 17 = .ok (.aload_n 0, 1) := by decide +kernel
theorem d_X_press_18 : decode b_X_press 18 = .ok (.aload_n 0, 1) := by decide +kernel
theorem d_X_press_19 : decode b_X_press 19 = .ok (.getfield 29, 3) := by decide +kernel
theorem d_X_press_22 : decode b_X_press 22 = .ok (.ifCond .ne 7, 3) := by decide +kernel
theorem d_X_press_25 : decode b_X_press 25 = .ok (.iconst 1, 1) := by decide +kernel
theorem d_X_press_26 : decode b_X_press 26 = .ok (.goto 4, 3) := by decide +kernel
theorem d_X_press_29 : decode b_X_press 29 = .ok (.iconst 0, 1) := by decide +kernel
theorem d_X_press_30 : decode b_X_press 30 = .ok (.iconst 2, 1) := by decide +kernel
theorem d_X_press_31 : decode b_X_press 31 = .ok (.invokevirtual 134, 3) := by decide +kernel
theorem d_X_press_34 : decode b_X_press 34 = .ok (.ifCond .ne 5, 3) := by decide +kernel
theorem d_X_press_37 : decode b_X_press 37 = .ok (.iconst 0, 1) := by decide +kernel
theorem d_X_press_38 : decode b_X_press 38 = .ok (.ireturn, 1) := by decide +kernel
theorem d_X_press_39 : decode b_X_press 39 = .ok (.aload_n 0, 1) := by decide +kernel
theorem d_X_press_40 : decode b_X_press 40 = .ok (.sipush 128, 3) := by decide +kernel
theorem d_X_press_43 : decode b_X_press 43 = .ok (.iload_n 1, 1) := by decide +kernel
theorem d_X_press_44 : decode b_X_press 44 = .ok (.iadd, 1) := by decide +kernel
theorem d_X_press_45 : decode b_X_press 45 = .ok (.putfield 29, 3) := by decide +kernel
theorem d_X_press_48 : decode b_X_press 48 = .ok (.aload_n 0, 1) := by decide +kernel
theorem d_X_press_49 : decode b_X_press 49 = .ok (.getfield 29, 3) := by decide +kernel
theorem d_X_press_52 : decode b_X_press 52 = .ok (.ireturn, 1) := by decide +kernel
theorem d_X_protect_0 : decode b_X_protect 0 = .ok (.aload_n 0, 1) := by decide +kernel
theorem d_X_protect_1 : decode b_X_protect 1 = .ok (.iconst 0, 1) := by decide +kernel
theorem d_X_protect_2 : decode b_X_protect 2 = .ok (.putfield 22, 3) := by decide +kernel
theorem d_X_protect_5 : decode b_X_protect 5 = .ok (.aload_n 0, 1) := by decide +kernel
theorem d_X_protect_6 : decode b_X_protect 6 = .ok (.getfield 35, 3) := by decide +kernel
theorem d_X_protect_9 : decode b_X_protect 9 = .ok (.istore_n 2, 1) := by decide +kernel
theorem d_X_protect_10 : decode b_X_protect 10 = .ok (.aload_n 0, 1) := by decide +kernel
theorem d_X_protect_11 : decode b_X_protect 11 = .ok (.iload_n 1, 1) := by decide +kernel
theorem d_X_protect_12 : decode b_X_protect 12 = .ok (.putfield 35, 3) := by decide +kernel
theorem d_X_protect_15 : decode b_X_protect 15 = .ok (.iload_n 2, 1) := by decide +kernel
theorem d_X_protect_16 : decode b_X_protect 16 = .ok (.ireturn, 1) := by decide +kernel
theorem d_X_peek_0 : decode b_X_peek 0 = .ok (.aload_n 0, 1) := by decide +kernel
theorem d_X_peek_1 : decode b_X_peek 1 = .ok (.iload_n 1, 1) := by decide +kernel
theorem d_X_peek_2 : decode b_X_peek 2 = .ok (.iconst 0, 1) := by decide +kernel
theorem d_X_peek_3 : decode b_X_peek 3 = .ok (.sipush 1007, 3) := by decide +kernel
theorem d_X_peek_6 : decode b_X_peek 6 = .ok (.invokestatic 130, 3) := by decide +kernel
theorem d_X_peek_9 : decode b_X_peek 9 = .ok (.iconst 1, 1) := by decide +kernel
theorem d_X_peek_10 : decode b_X_peek 10 = .ok (.invokevirtual 134, 3) := by decide +kernel
theorem d_X_peek_13 : decode b_X_peek 13 = .ok (.ifCond .eq 12, 3) := by decide +kernel
theorem d_X_peek_16 : decode b_X_peek 16 = .ok (.aload_n 0, 1) := by decide +kernel
theorem d_X_peek_17 : decode b_X_peek 17 = .ok (.getfield 7, 3) := by decide +kernel
theorem d_X_peek_20 : decode b_X_peek 20 = .ok (.iload_n 1, 1) := by decide +kernel
theorem d_X_peek_21 : decode b_X_peek 21 = .ok (.iaload, 1) := by decide +kernel
theorem d_X_peek_22 : decode b_X_peek 22 = .ok (.goto 4, 3) := by decide +kernel
theorem d_X_peek_25 : decode b_X_peek 25 = .ok (.iconst 0, 1) := by decide +kernel
theorem d_X_peek_26 : decode b_X_peek 26 = .ok (.ireturn, 1) := by decide +kernel
theorem d_X_get_0 : decode b_X_get 0 = .ok (.aload_n 0, 1) := by decide +kernel
theorem d_X_get_1 : decode b_X_get 1 = .ok (.iload_n 1, 1) := by decide +kernel
theorem d_X_get_2 : decode b_X_get 2 = .ok (.iconst 0, 1) := by decide +kernel
theorem d_X_get_3 : decode b_X_get 3 = .ok (.bipush 9, 2) := by decide +kernel
theorem d_X_get_5 : decode b_X_get 5 = .ok (.invokestatic 130, 3) := by decide +kernel
theorem d_X_get_8 : decode b_X_get 8 = .ok (.iconst 1, 1) := by decide +kernel
theorem d_X_get_9 : decode b_X_get 9 = .ok (.invokevirtual 134, 3) := by decide +kernel
theorem d_X_get_12 : decode b_X_get 12 = .ok (.ifCond .ne 5, 3) := by decide +kernel
theorem d_X_get_15 : decode b_X_get 15 = .ok (.iconst 0, 1) := by decide +kernel
theorem d_X_get_16 : decode b_X_get 16 = .ok (.ireturn, 1) := by decide +kernel
theorem d_X_get_17 : decode b_X_get 17 = .ok (.iload_n 1, 1) := by decide +kernel
theorem d_X_get_18 : decode b_X_get 18 = .ok (.iconst 5, 1) := by decide +kernel
theorem d_X_get_19 : decode b_X_get 19 = .ok (.if_icmp .ge 10, 3) := by decide +kernel
theorem d_X_get_22 : decode b_X_get 22 = .ok (.aload_n 0, 1) := by decide +kernel
theorem d_X_get_23 : decode b_X_get 23 = .ok (.getfield 16, 3) := by decide +kernel
theorem d_X_get_26 : decode b_X_get 26 = .ok (.iload_n 1, 1) := by decide +kernel
theorem d_X_get_27 : decode b_X_get 27 = .ok (.iaload, 1) := by decide +kernel
theorem d_X_get_28 : decode b_X_get 28 = .ok (.ireturn, 1) := by decide +kernel
theorem d_X_get_29 : decode b_X_get 29 = .ok (.iload_n 1, 1) := by decide +kernel
theorem d_X_get_30 : decode b_X_get 30 = .ok (.iconst 5, 1) := by decide +kernel
theorem d_X_get_31 : decode b_X_get 31 = .ok (.if_icmp .ne 10, 3) := by decide +kernel
theorem d_X_get_34 : decode b_X_get 34 = .ok (.aload_n 0, 1) := by decide +kernel
theorem d_X_get_35 : decode b_X_get 35 = .ok (.invokevirtual 99, 3) := by decide +kernel
theorem d_X_get_38 : decode b_X_get 38 = .ok (.goto 46, 3) := by decide +kernel
theorem d_X_get_41 : decode b_X_get 41 = .ok (.iload_n 1, 1) := by decide +kernel
theorem d_X_get_42 : decode b_X_get 42 = .ok (.bipush 6, 2) := by decide +kernel
theorem d_X_get_44 : decode b_X_get 44 = .ok (.if_icmp .ne 10, 3) := by decide +kernel
theorem d_X_get_47 : decode b_X_get 47 = .ok (.aload_n 0, 1) := by decide +kernel
theorem d_X_get_48 : decode b_X_get 48 = .ok (.getfield 124, 3) := by decide +kernel
theorem d_X_get_51 : decode b_X_get 51 = .ok (.goto 33, 3) := by decide +kernel
theorem d_X_get_54 : decode b_X_get 54 = .ok (.iload_n 1, 1) := by decide +kernel
theorem d_X_get_55 : decode b_X_get 55 = .ok (.bipush 7, 2) := by decide +kernel
theorem d_X_get_57 : decode b_X_get 57 = .ok (.if_icmp .ne 10, 3) := by decide +kernel
theorem d_X_get_60 : decode b_X_get 60 = .ok (.aload_n 0, 1) := by decide +kernel
theorem d_X_get_61 : decode b_X_get 61 = .ok (.getfield 29, 3) := by decide +kernel
theorem d_X_get_64 : decode b_X_get 64 = .ok (.goto 20, 3) := by decide +kernel
theorem d_X_get_67 : decode b_X_get 67 = .ok (.iload_n 1, 1) := by decide +kernel
theorem d_X_get_68 : decode b_X_get 68 = .ok (.bipush 8, 2) := by decide +kernel
theorem d_X_get_70 : decode b_X_get 70 = .ok (.if_icmp .ne 10, 3) := by decide +kernel
theorem d_X_get_73 : decode b_X_get 73 = .ok (.aload_n 0, 1) := by decide +kernel
theorem d_X_get_74 : decode b_X_get 74 = .ok (.getfield 26, 3) := by decide +kernel
theorem d_X_get_77 : decode b_X_get 77 = .ok (.goto 7, 3) := by decide +kernel
theorem d_X_get_80 : decode b_X_get 80 = .ok (.aload_n 0, 1) := by decide +kernel
theorem d_X_get_81 : decode b_X_get 81 = .ok (.getfield 127, 3) := by decide +kernel
theorem d_X_get_84 : decode b_X_get 84 = .ok (.ireturn, 1) := by decide +kernel
theorem d_X_sector_0 : decode b_X_sector 0 = .ok (.aload_n 0, 1) := by decide +kernel
theorem d_X_sector_1 : decode b_X_sector 1 = .ok (.iload_n 1, 1) := by decide +kernel
theorem d_X_sector_2 : decode b_X_sector 2 = .ok (.iconst 0, 1) := by decide +kernel
theorem d_X_sector_3 : decode b_X_sector 3 = .ok (.bipush 7, 2) := by decide +kernel
theorem d_X_sector_5 : decode b_X_sector 5 = .ok (.invokestatic 130, 3) := by decide +kernel
theorem d_X_sector_8 : decode b_X_sector 8 = .ok (.ifCond .eq 17, 3) := by decide +kernel
theorem d_X_sector_11 : decode b_X_sector 11 = .ok (.iload_n 2, 1) := by decide +kernel
theorem d_X_sector_12 : decode b_X_sector 12 = .ok (.iconst 0, 1) := by decide +kernel
theorem d_X_sector_13 : decode b_X_sector 13 = .ok (.bipush 31, 2) := by decide +kernel
theorem d_X_sector_15 : decode b_X_sector 15 = .ok (.invokestatic 130, 3) := by decide +kernel
theorem d_X_sector_18 : decode b_X_sector 18 = .ok (.ifCond .eq 7, 3) := by decide +kernel
theorem d_X_sector_21 : decode b_X_sector 21 = .ok (.iconst 1, 1) := by decide +kernel
theorem d_X_sector_22 : decode b_X_sector 22 = .ok (.goto 4, 3) := by decide +kernel
theorem d_X_sector_25 : decode b_X_sector 25 = .ok (.iconst 0, 1) := by decide +kernel
theorem d_X_sector_26 : decode b_X_sector 26 = .ok (.iconst 1, 1) := by decide +kernel
theorem d_X_sector_27 : decode b_X_sector 27 = .ok (.invokevirtual 134, 3) := by decide +kernel
theorem d_X_sector_30 : decode b_X_sector 30 = .ok (.ifCond .eq 17, 3) := by decide +kernel
theorem d_X_sector_33 : decode b_X_sector 33 = .ok (.aload_n 0, 1) := by decide +kernel
theorem d_X_sector_34 : decode b_X_sector 34 = .ok (.getfield 13, 3) := by decide +kernel
theorem d_X_sector_37 : decode b_X_sector 37 = .ok (.bipush 32, 2) := by decide +kernel
theorem d_X_sector_39 : decode b_X_sector 39 = .ok (.iload_n 1, 1) := by decide +kernel
theorem d_X_sector_40 : decode b_X_sector 40 = .ok (.imul, 1) := by decide +kernel
theorem d_X_sector_41 : decode b_X_sector 41 = .ok (.iload_n 2, 1) := by decide +kernel
theorem d_X_sector_42 : decode b_X_sector 42 = .ok (.iadd, 1) := by decide +kernel
theorem d_X_sector_43 : decode b_X_sector 43 = .ok (.iaload, 1) := by decide +kernel
theorem d_X_sector_44 : decode b_X_sector 44 = .ok (.goto 4, 3) := by decide +kernel
theorem d_X_sector_47 : decode b_X_sector 47 = .ok (.iconst 0, 1) := by decide +kernel
theorem d_X_sector_48 : decode b_X_sector 48 = .ok (.ireturn, 1) := by decide +kernel
theorem d_X_instruction_0 : decode b_X_instruction 0 = .ok (.iconst 0, 1) := by decide +kernel
theorem d_X_instruction_1 : decode b_X_instruction 1 = .ok (.istore_n 1, 1) := by decide +kernel
theorem d_X_instruction_2 : decode b_X_instruction 2 = .ok (.iload_n 1, 1) := by decide +kernel
theorem d_X_instruction_3 : decode b_X_instruction 3 = .ok (.bipush 9, 2) := by decide +kernel
theorem d_X_instruction_5 : decode b_X_instruction 5 = .ok (.if_icmp .ge 21, 3) := by decide +kernel
theorem d_X_instruction_8 : decode b_X_instruction 8 = .ok (.aload_n 0, 1) := by decide +kernel
theorem d_X_instruction_9 : decode b_X_instruction 9 = .ok (.getfield 19, 3) := by decide +kernel
theorem d_X_instruction_12 : decode b_X_instruction 12 = .ok (.iload_n 1, 1) := by decide +kernel
theorem d_X_instruction_13 : decode b_X_instruction 13 = .ok (.aload_n 0, 1) := by decide +kernel
theorem d_X_instruction_14 : decode b_X_instruction 14 = .ok (.getfield 16, 3) := by decide +kernel
theorem d_X_instruction_17 : decode b_X_instruction 17 = .ok (.iload_n 1, 1) := by decide +kernel
theorem d_X_instruction_18 : decode b_X_instruction 18 = .ok (.iaload, 1) := by decide +kernel
theorem d_X_instruction_19 : decode b_X_instruction 19 = .ok (.iastore, 1) := by decide +kernel
theorem d_X_instruction_20 : decode b_X_instruction 20 = .ok (.iinc 1 1, 3) := by decide +kernel
theorem d_X_instruction_23 : decode b_X_instruction 23 = .ok (.goto (-21), 3) := by decide +kernel
theorem d_X_instruction_26 : decode b_X_instruction 26 = .ok (.aload_n 0, 1) := by decide +kernel
theorem d_X_instruction_27 : decode b_X_instruction 27 = .ok (.iconst 0, 1) := by decide +kernel
theorem d_X_instruction_28 : decode b_X_instruction 28 = .ok (.putfield 32, 3) := by decide +kernel
theorem d_X_instruction_31 : decode b_X_instruction 31 = .ok (.aload_n 0, 1) := by decide +kernel
theorem d_X_instruction_32 : decode b_X_instruction 32 = .ok (.invokevirtual 47, 3) := by decide +kernel
theorem d_X_instruction_35 : decode b_X_instruction 35 = .ok (.istore_n 1, 1) := by decide +kernel
theorem d_X_instruction_36 : decode b_X_instruction 36 = .ok (.iload_n 1, 1) := by decide +kernel
theorem d_X_instruction_37 : decode b_X_instruction 37 = .ok (.bipush 32, 2) := by decide +kernel
theorem d_X_instruction_39 : decode b_X_instruction 39 = .ok (.idiv, 1) := by decide +kernel
theorem d_X_instruction_40 : decode b_X_instruction 40 = .ok (.istore_n 2, 1) := by decide +kernel
theorem d_X_instruction_41 : decode b_X_instruction 41 = .ok (.iload_n 1, 1) := by decide +kernel
theorem d_X_instruction_42 : decode b_X_instruction 42 = .ok (.iconst 4, 1) := by decide +kernel
theorem d_X_instruction_43 : decode b_X_instruction 43 = .ok (.idiv, 1) := by decide +kernel
theorem d_X_instruction_44 : decode b_X_instruction 44 = .ok (.bipush 8, 2) := by decide +kernel
theorem d_X_instruction_46 : decode b_X_instruction 46 = .ok (.irem, 1) := by decide +kernel
theorem d_X_instruction_47 : decode b_X_instruction 47 = .ok (.istore_n 3, 1) := by decide +kernel
theorem d_X_instruction_48 : decode b_X_instruction 48 = .ok (.iload_n 1, 1) := by decide +kernel
theorem d_X_instruction_49 : decode b_X_instruction 49 = .ok (.iconst 4, 1) := by decide +kernel
theorem d_X_instruction_50 : decode b_X_instruction 50 = .ok (.irem, 1) := by decide +kernel
theorem d_X_instruction_51 : decode b_X_instruction 51 = .ok (.iconst 1, 1) := by decide +kernel
theorem d_X_instruction_52 : decode b_X_instruction 52 = .ok (.if_icmp .ne 12, 3) := by decide +kernel
theorem d_X_instruction_55 : decode b_X_instruction 55 = .ok (.aload_n 0, 1) := by decide +kernel
theorem d_X_instruction_56 : decode b_X_instruction 56 = .ok (.iload_n 2, 1) := by decide +kernel
theorem d_X_instruction_57 : decode b_X_instruction 57 = .ok (.iload_n 3, 1) := by decide +kernel
theorem d_X_instruction_58 : decode b_X_instruction 58 = .ok (.invokevirtual 111, 3) := by decide +kernel
theorem d_X_instruction_61 : decode b_X_instruction 61 = .ok (.goto 66, 3) := by decide +kernel
theorem d_X_instruction_64 : decode b_X_instruction 64 = .ok (.iload_n 1, 1) := by decide +kernel
theorem d_X_instruction_65 : decode b_X_instruction 65 = .ok (.iconst 4, 1) := by decide +kernel
theorem d_X_instruction_66 : decode b_X_instruction 66 = .ok (.irem, 1) := by decide +kernel
theorem d_X_instruction_67 : decode b_X_instruction 67 = .ok (.iconst 2, 1) := by decide +kernel
theorem d_X_instruction_68 : decode b_X_instruction 68 = .ok (.if_icmp .ne 22, 3) := by decide +kernel
theorem d_X_instruction_71 : decode b_X_instruction 71 = .ok (.iload_n 2, 1) := by decide +kernel
theorem d_X_instruction_72 : decode b_X_instruction 72 = .ok (.iconst 4, 1) := by decide +kernel
theorem d_X_instruction_73 : decode b_X_instruction 73 = .ok (.if_icmp .eq 8, 3) := by decide +kernel
theorem d_X_instruction_76 : decode b_X_instruction 76 = .ok (.iload_n 2, 1) := by decide +kernel
theorem d_X_instruction_77 : decode b_X_instruction 77 = .ok (.iconst 5, 1) := by decide +kernel
theorem d_X_instruction_78 : decode b_X_instruction 78 = .ok (.if_icmp .ne 12, 3) := by decide +kernel
theorem d_X_instruction_81 : decode b_X_instruction 81 = .ok (.aload_n 0, 1) := by decide +kernel
theorem d_X_instruction_82 : decode b_X_instruction 82 = .ok (.iload_n 2, 1) := by decide +kernel
theorem d_X_instruction_83 : decode b_X_instruction 83 = .ok (.iload_n 3, 1) := by decide +kernel
theorem d_X_instruction_84 : decode b_X_instruction 84 = .ok (.invokevirtual 114, 3) := by decide +kernel
theorem d_X_instruction_87 : decode b_X_instruction 87 = .ok (.goto 40, 3) := by decide +kernel
theorem d_X_instruction_90 : decode b_X_instruction 90 = .ok (.iload_n 1, 1) := by decide +kernel
theorem d_X_instruction_91 : decode b_X_instruction 91 = .ok (.iconst 4, 1) := by decide +kernel
theorem d_X_instruction_92 : decode b_X_instruction 92 = .ok (.irem, 1) := by decide +kernel
theorem d_X_instruction_93 : decode b_X_instruction 93 = .ok (.iconst 2, 1) := by decide +kernel
theorem d_X_instruction_94 : decode b_X_instruction 94 = .ok (.if_icmp .ne 12, 3) := by decide +kernel
theorem d_X_instruction_97 : decode b_X_instruction 97 = .ok (.aload_n 0, 1) := by decide +kernel
theorem d_X_instruction_98 : decode b_X_instruction 98 = .ok (.iload_n 2, 1) := by decide +kernel
theorem d_X_instruction_99 : decode b_X_instruction 99 = .ok (.iload_n 3, 1) := by decide +kernel
theorem d_X_instruction_100 : decode b_X_instruction 100 = .ok (.invokevirtual 117, 3) := by decide +kernel
theorem d_X_instruction_103 : decode b_X_instruction 103 = .ok (.goto 24, 3) := by decide +kernel
theorem d_X_instruction_106 : decode b_X_instruction 106 = .ok (.iload_n 1, 1) := by decide +kernel
theorem d_X_instruction_107 : decode b_X_instruction 107 = .ok (.iconst 4, 1) := by decide +kernel
theorem d_X_instruction_108 : decode b_X_instruction 108 = .ok (.irem, 1) := by decide +kernel
theorem d_X_instruction_109 : decode b_X_instruction 109 = .ok (.ifCond .ne 13, 3) := by decide +kernel
theorem d_X_instruction_112 : decode b_X_instruction 112 = .ok (.aload_n 0, 1) := by decide +kernel
theorem d_X_instruction_113 : decode b_X_instruction 113 = .ok (.iload_n 2, 1) := by decide +kernel
theorem d_X_instruction_114 : decode b_X_instruction 114 = .ok (.iload_n 3, 1) := by decide +kernel
theorem d_X_instruction_115 : decode b_X_instruction 115 = .ok (.iload_n 1, 1) := by decide +kernel
theorem d_X_instruction_116 : decode b_X_instruction 116 = .ok (.invokevirtual 120, 3) := by decide +kernel
theorem d_X_instruction_119 : decode b_X_instruction 119 = .ok (.goto 8, 3) := by decide +kernel
theorem d_X_instruction_122 : decode b_X_instruction 122 = .ok (.aload_n 0, 1) := by decide +kernel
theorem d_X_instruction_123 : decode b_X_instruction 123 = .ok (.iconst 4, 1) := by decide +kernel
theorem d_X_instruction_124 : decode b_X_instruction 124 = .ok (.putfield 32, 3) := by decide +kernel
theorem d_X_instruction_127 : decode b_X_instruction 127 = .ok (.aload_n 0, 1) := by decide +kernel
theorem d_X_instruction_128 : decode b_X_instruction 128 = .ok (.getfield 32, 3) := by decide +kernel
theorem d_X_instruction_131 : decode b_X_instruction 131 = .ok (.ifCond .ne 14, 3) := by decide +kernel
theorem d_X_instruction_134 : decode b_X_instruction 134 = .ok (.aload_n 0, 1) := by decide +kernel
theorem d_X_instruction_135 : decode b_X_instruction 135 = .ok (.dup, 1) := by decide +kernel
theorem d_X_instruction_136 : decode b_X_instruction 136 = .ok (.getfield 124, 3) := by decide +kernel
theorem d_X_instruction_139 : decode b_X_instruction 139 = .ok (.iconst 1, 1) := by decide +kernel
theorem d_X_instruction_140 : decode b_X_instruction 140 = .ok (.iadd, 1) := by decide +kernel
theorem d_X_instruction_141 : decode b_X_instruction 141 = .ok (.putfield 124, 3) := by decide +kernel
theorem d_X_instruction_144 : decode b_X_instruction 144 = .ok (.return_, 1) := by decide +kernel
theorem d_X_instruction_145 : decode b_X_instruction 145 = .ok (.aload_n 0, 1) := by decide +kernel
theorem d_X_instruction_146 : decode b_X_instruction 146 = .ok (.aload_n 0, 1) := by decide +kernel
theorem d_X_instruction_147 : decode b_X_instruction 147 = .ok (.getfield 32, 3) := by decide +kernel
theorem d_X_instruction_150 : decode b_X_instruction 150 = .ok (.putfield 127, 3) := by decide +kernel
theorem d_X_instruction_153 : decode b_X_instruction 153 = .ok (.iconst 0, 1) := by decide +kernel
theorem d_X_instruction_154 : decode b_X_instruction 154 = .ok (.istore 4, 2) := by decide +kernel
theorem d_X_instruction_156 : decode b_X_instruction 156 = .ok (.iload 4, 2) := by decide +kernel
theorem d_X_instruction_158 : decode b_X_instruction 158 = .ok (.bipush 9, 2) := by decide +kernel
theorem d_X_instruction_160 : decode b_X_instruction 160 = .ok (.if_icmp .ge 23, 3) := by decide +kernel
theorem d_X_instruction_163 : decode b_X_instruction 163 = .ok (.aload_n 0, 1) := by decide +kernel
theorem d_X_instruction_164 : decode b_X_instruction 164 = .ok (.getfield 16, 3) := by decide +kernel
theorem d_X_instruction_167 : decode b_X_instruction 167 = .ok (.iload 4, 2) := by decide +kernel
theorem d_X_instruction_169 : decode b_X_instruction 169 = .ok (.aload_n 0, 1) := by decide +kernel
theorem d_X_instruction_170 : decode b_X_instruction 170 = .ok (.getfield 19, 3) := by decide +kernel
theorem d_X_instruction_173 : decode b_X_instruction 173 = .ok (.iload 4, 2) := by decide +kernel
theorem d_X_instruction_175 : decode b_X_instruction 175 = .ok (.iaload, 1) := by decide +kernel
theorem d_X_instruction_176 : decode b_X_instruction 176 = .ok (.iastore, 1) := by decide +kernel
theorem d_X_instruction_177 : decode b_X_instruction 177 = .ok (.iinc 4 1, 3) := by decide +kernel
theorem d_X_instruction_180 : decode b_X_instruction 180 = .ok (.goto (-24), 3) := by decide +kernel
theorem d_X_instruction_183 : decode b_X_instruction 183 = .ok (.return_, 1) := by decide +kernel
theorem lt_ofN {j N : Nat} {c : Int32} (hc : c = nI N) (h : ¬ c ≤ nI j) (hj : j ≤ N) (hN : N < 2 ^ 30) : j < N := by
  rcases Nat.lt_or_ge j N with q | q
  · exact q
  · exact absurd (by rw [hc]; exact nI_le q (by omega)) h
theorem good_ret {a c : Int32} {ku : Nat → Int32} : (f_X_good a c ku).1 = a := by
  unfold f_X_good
  split <;> rfl
theorem xin_nz {a b c : Int32} (h : ¬ f_X_in a b c = 0) : ¬ a < b ∧ ¬ c < a := by
  unfold f_X_in at h
  split at h
  · exact absurd rfl h
  · split at h
    · exact absurd rfl h
    · exact ⟨by assumption, by assumption⟩
theorem xin_nat {x : Int32} {n : Nat} (hn : n < 2 ^ 31) (h : ¬ f_X_in x 0 (nI n) = 0) : ∃ j : Nat, j ≤ n ∧ x = nI j := by
  obtain ⟨h1, h2⟩ := xin_nz h
  obtain ⟨j, hj, e⟩ := nI_of h1
  refine ⟨j, ?_, e⟩
  rcases Nat.lt_or_ge n j with q | q
  · exact absurd (by rw [e]; exact nI_lt q hj) h2
  · exact q
theorem xi_peek {x : Int32} (h : ¬ f_X_in x (0 : Int32) (1007 : Int32) = 0) : vp_in x 1024 := by
  obtain ⟨j, hj, e⟩ := xin_nat (n := 1007) (by decide) h
  rw [e]
  exact vp_in_nI (by omega) (by decide)
theorem xi_sec {x y : Int32} (h1 : ¬ f_X_in x (0 : Int32) (7 : Int32) = 0) (h2 : ¬ f_X_in y (0 : Int32) (31 : Int32) = 0) : vp_in ((32 : Int32) * x + y) 256 := by
  obtain ⟨j, hj, e⟩ := xin_nat (n := 7) (by decide) h1
  obtain ⟨i, hi, e2⟩ := xin_nat (n := 31) (by decide) h2
  rw [e, e2, show (32 : Int32) = nI 32 from rfl, pk_mul, nI_add]
  exact vp_in_nI (by omega) (by decide)
theorem xi_reg {x : Int32} (h1 : ¬ f_X_in x (0 : Int32) (5 : Int32) = 0) : vp_in x 9 := by
  obtain ⟨j, hj, e⟩ := xin_nat (n := 5) (by decide) h1
  rw [e]
  exact vp_in_nI (by omega) (by decide)
theorem xi_get {x : Int32} (h1 : ¬ f_X_in x (0 : Int32) (9 : Int32) = 0) (h2 : ¬ (5 : Int32) ≤ x) : vp_in x 9 := by
  obtain ⟨j, hj, e⟩ := xin_nat (n := 9) (by decide) h1
  have : j < 5 := by
    rcases Nat.lt_or_ge j 5 with q | q
    · exact q
    · exact absurd (by rw [e]; exact nI_le (a := 5) q (by omega)) h2
  rw [e]
  exact vp_in_nI (by omega) (by decide)
