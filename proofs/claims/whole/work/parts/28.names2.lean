abbrev b_X_in : ByteArray := prog_5_method_3_code
def y_X_in : MethodName := ⟨R_X, "in", "(III)Z"⟩
abbrev b_X_thrown : ByteArray := prog_5_method_2_code
def y_X_thrown : MethodName := ⟨R_X, "thrown", "()I"⟩
abbrev b_X_good : ByteArray := prog_5_method_4_code
def y_X_good : MethodName := ⟨R_X, "good", "(ZI)Z"⟩
abbrev b_X_read : ByteArray := prog_5_method_5_code
def y_X_read : MethodName := ⟨R_X, "read", "(I)I"⟩
abbrev b_X_mode1 : ByteArray := prog_5_method_19_code
def y_X_mode1 : MethodName := ⟨R_X, "mode1", "(I)I"⟩
abbrev b_X_status : ByteArray := prog_5_method_24_code
def y_X_status : MethodName := ⟨R_X, "status", "()I"⟩
abbrev b_X_setStatus : ByteArray := prog_5_method_25_code
def y_X_setStatus : MethodName := ⟨R_X, "setStatus", "(I)V"⟩
abbrev b_X_set : ByteArray := prog_5_method_15_code
def y_X_set : MethodName := ⟨R_X, "set", "(I)V"⟩
abbrev b_X_put3 : ByteArray := prog_5_method_16_code
def y_X_put3 : MethodName := ⟨R_X, "put", "(IIZ)V"⟩
abbrev b_X_compare : ByteArray := prog_5_method_17_code
def y_X_compare : MethodName := ⟨R_X, "compare", "(II)V"⟩
abbrev b_X_add : ByteArray := prog_5_method_18_code
def y_X_add : MethodName := ⟨R_X, "add", "(I)V"⟩
abbrev b_X_shifted : ByteArray := prog_5_method_21_code
def y_X_shifted : MethodName := ⟨R_X, "shifted", "(II)I"⟩
abbrev b_X_pull : ByteArray := prog_5_method_8_code
def y_X_pull : MethodName := ⟨R_X, "pull", "()I"⟩
abbrev b_X_fetch : ByteArray := prog_5_method_9_code
def y_X_fetch : MethodName := ⟨R_X, "fetch", "()I"⟩
abbrev b_X_one : ByteArray := prog_5_method_10_code
def y_X_one : MethodName := ⟨R_X, "one", "()V"⟩
abbrev b_X_two : ByteArray := prog_5_method_11_code
def y_X_two : MethodName := ⟨R_X, "two", "()V"⟩
abbrev b_X_pair : ByteArray := prog_5_method_12_code
def y_X_pair : MethodName := ⟨R_X, "pair", "(I)I"⟩
abbrev b_X_address : ByteArray := prog_5_method_13_code
def y_X_address : MethodName := ⟨R_X, "address", "(I)I"⟩
abbrev b_X_operand : ByteArray := prog_5_method_14_code
def y_X_operand : MethodName := ⟨R_X, "operand", "(II)I"⟩
abbrev b_X_branch : ByteArray := prog_5_method_26_code
def y_X_branch : MethodName := ⟨R_X, "branch", "(I)V"⟩
abbrev b_X_write : ByteArray := prog_5_method_6_code
def y_X_write : MethodName := ⟨R_X, "write", "(II)V"⟩
abbrev b_X_push : ByteArray := prog_5_method_7_code
def y_X_push : MethodName := ⟨R_X, "push", "(I)V"⟩
abbrev b_X_sums : ByteArray := prog_5_method_20_code
def y_X_sums : MethodName := ⟨R_X, "sums", "(II)V"⟩
abbrev b_X_changes : ByteArray := prog_5_method_22_code
def y_X_changes : MethodName := ⟨R_X, "changes", "(II)V"⟩
abbrev b_X_moves : ByteArray := prog_5_method_23_code
def y_X_moves : MethodName := ⟨R_X, "moves", "(II)V"⟩
abbrev b_X_single : ByteArray := prog_5_method_27_code
def y_X_single : MethodName := ⟨R_X, "single", "(I)V"⟩
abbrev b_X_tests : ByteArray := prog_5_method_28_code
def y_X_tests : MethodName := ⟨R_X, "tests", "(III)V"⟩
/-! words of the tables by their places -/
set_option maxRecDepth 20000 in
theorem mw_4 : (Jvm.Cond.initialized "SixtyFiveModel") ∈ BIG := big_of (List.mem_append_right _ (List.mem_of_getElem? (i := 4) rfl)) rfl
set_option maxRecDepth 20000 in
theorem mw_461 : (Jvm.Cond.fieldLink "SixtyFiveModel" (7 : Nat) "SixtyFiveModel" "memory" "[I") ∈ BIG := big_of (List.mem_append_right _ (List.mem_of_getElem? (i := 461) rfl)) rfl
set_option maxRecDepth 20000 in
theorem mw_462 : (Jvm.Cond.fieldLink "SixtyFiveModel" (13 : Nat) "SixtyFiveModel" "sectors" "[I") ∈ BIG := big_of (List.mem_append_right _ (List.mem_of_getElem? (i := 462) rfl)) rfl
set_option maxRecDepth 20000 in
theorem mw_463 : (Jvm.Cond.fieldLink "SixtyFiveModel" (16 : Nat) "SixtyFiveModel" "\x72" "[I") ∈ BIG := big_of (List.mem_append_right _ (List.mem_of_getElem? (i := 463) rfl)) rfl
set_option maxRecDepth 20000 in
theorem mw_465 : (Jvm.Cond.fieldLink "SixtyFiveModel" (29 : Nat) "SixtyFiveModel" "key" "I") ∈ BIG := big_of (List.mem_append_right _ (List.mem_of_getElem? (i := 465) rfl)) rfl
set_option maxRecDepth 20000 in
theorem mw_466 : (Jvm.Cond.fieldLink "SixtyFiveModel" (26 : Nat) "SixtyFiveModel" "sector" "I") ∈ BIG := big_of (List.mem_append_right _ (List.mem_of_getElem? (i := 466) rfl)) rfl
set_option maxRecDepth 20000 in
theorem mw_467 : (Jvm.Cond.fieldLink "SixtyFiveModel" (35 : Nat) "SixtyFiveModel" "guarded" "Z") ∈ BIG := big_of (List.mem_append_right _ (List.mem_of_getElem? (i := 467) rfl)) rfl
set_option maxRecDepth 20000 in
theorem mw_469 : (Jvm.Cond.fieldLink "SixtyFiveModel" (32 : Nat) "SixtyFiveModel" "fault" "I") ∈ BIG := big_of (List.mem_append_right _ (List.mem_of_getElem? (i := 469) rfl)) rfl
set_option maxRecDepth 20000 in
theorem mw_471 : (Jvm.Cond.fieldLink "SixtyFiveModel" (51 : Nat) "SixtyFiveModel" "b" "I") ∈ BIG := big_of (List.mem_append_right _ (List.mem_of_getElem? (i := 471) rfl)) rfl
set_option maxRecDepth 20000 in
theorem mw_472 : (Jvm.Cond.fieldLink "SixtyFiveModel" (54 : Nat) "SixtyFiveModel" "w" "I") ∈ BIG := big_of (List.mem_append_right _ (List.mem_of_getElem? (i := 472) rfl)) rfl
set_option maxRecDepth 20000 in
theorem mw_473 : (Jvm.Cond.fieldLink "SixtyFiveModel" (22 : Nat) "SixtyFiveModel" "code" "I") ∈ BIG := big_of (List.mem_append_right _ (List.mem_of_getElem? (i := 473) rfl)) rfl
set_option maxRecDepth 20000 in
theorem mw_524 : (Jvm.Cond.methodLink "SixtyFiveModel" (99 : Nat) ({ cls := "SixtyFiveModel", name := "status", desc := "()I" } : Jvm.MethodName)) ∈ BIG := big_of (List.mem_append_right _ (List.mem_of_getElem? (i := 524) rfl)) rfl
set_option maxRecDepth 20000 in
theorem mw_526 : (Jvm.Cond.instanceMethod ({ cls := "SixtyFiveModel", name := "status", desc := "()I" } : Jvm.MethodName)) ∈ BIG := big_of (List.mem_append_right _ (List.mem_of_getElem? (i := 526) rfl)) rfl
set_option maxRecDepth 20000 in
theorem mw_527 : (Jvm.Cond.code ({ cls := "SixtyFiveModel", name := "status", desc := "()I" } : Jvm.MethodName) prog_5_method_24_code (1 : Nat) (Option.some Jvm.ClassFile.FieldType.int)) ∈ BIG := big_of (List.mem_append_right _ (List.mem_of_getElem? (i := 527) rfl)) rfl
set_option maxRecDepth 20000 in
theorem mw_528 : (Jvm.Cond.methodLink "SixtyFiveModel" (102 : Nat) ({ cls := "SixtyFiveModel", name := "setStatus", desc := "(I)V" } : Jvm.MethodName)) ∈ BIG := big_of (List.mem_append_right _ (List.mem_of_getElem? (i := 528) rfl)) rfl
set_option maxRecDepth 20000 in
theorem mw_530 : (Jvm.Cond.instanceMethod ({ cls := "SixtyFiveModel", name := "setStatus", desc := "(I)V" } : Jvm.MethodName)) ∈ BIG := big_of (List.mem_append_right _ (List.mem_of_getElem? (i := 530) rfl)) rfl
set_option maxRecDepth 20000 in
theorem mw_531 : (Jvm.Cond.code ({ cls := "SixtyFiveModel", name := "setStatus", desc := "(I)V" } : Jvm.MethodName) prog_5_method_25_code (2 : Nat) (Option.none : Option Jvm.ClassFile.FieldType)) ∈ BIG := big_of (List.mem_append_right _ (List.mem_of_getElem? (i := 531) rfl)) rfl
set_option maxRecDepth 20000 in
theorem mw_548 : (Jvm.Cond.methodLink "SixtyFiveModel" (47 : Nat) ({ cls := "SixtyFiveModel", name := "fetch", desc := "()I" } : Jvm.MethodName)) ∈ BIG := big_of (List.mem_append_right _ (List.mem_of_getElem? (i := 548) rfl)) rfl
set_option maxRecDepth 20000 in
theorem mw_550 : (Jvm.Cond.instanceMethod ({ cls := "SixtyFiveModel", name := "fetch", desc := "()I" } : Jvm.MethodName)) ∈ BIG := big_of (List.mem_append_right _ (List.mem_of_getElem? (i := 550) rfl)) rfl
set_option maxRecDepth 20000 in
theorem mw_551 : (Jvm.Cond.code ({ cls := "SixtyFiveModel", name := "fetch", desc := "()I" } : Jvm.MethodName) prog_5_method_9_code (2 : Nat) (Option.some Jvm.ClassFile.FieldType.int)) ∈ BIG := big_of (List.mem_append_right _ (List.mem_of_getElem? (i := 551) rfl)) rfl
set_option maxRecDepth 20000 in
theorem mw_552 : (Jvm.Cond.methodLink "SixtyFiveModel" (43 : Nat) ({ cls := "SixtyFiveModel", name := "read", desc := "(I)I" } : Jvm.MethodName)) ∈ BIG := big_of (List.mem_append_right _ (List.mem_of_getElem? (i := 552) rfl)) rfl
set_option maxRecDepth 20000 in
theorem mw_554 : (Jvm.Cond.instanceMethod ({ cls := "SixtyFiveModel", name := "read", desc := "(I)I" } : Jvm.MethodName)) ∈ BIG := big_of (List.mem_append_right _ (List.mem_of_getElem? (i := 554) rfl)) rfl
set_option maxRecDepth 20000 in
theorem mw_555 : (Jvm.Cond.code ({ cls := "SixtyFiveModel", name := "read", desc := "(I)I" } : Jvm.MethodName) prog_5_method_5_code (4 : Nat) (Option.some Jvm.ClassFile.FieldType.int)) ∈ BIG := big_of (List.mem_append_right _ (List.mem_of_getElem? (i := 555) rfl)) rfl
set_option maxRecDepth 20000 in
theorem mw_560 : (Jvm.Cond.methodLink "SixtyFiveModel" (74 : Nat) ({ cls := "SixtyFiveModel", name := "mode1", desc := "(I)I" } : Jvm.MethodName)) ∈ BIG := big_of (List.mem_append_right _ (List.mem_of_getElem? (i := 560) rfl)) rfl
set_option maxRecDepth 20000 in
theorem mw_561 : (Jvm.Cond.static ({ cls := "SixtyFiveModel", name := "mode1", desc := "(I)I" } : Jvm.MethodName)) ∈ BIG := big_of (List.mem_append_right _ (List.mem_of_getElem? (i := 561) rfl)) rfl
set_option maxRecDepth 20000 in
theorem mw_562 : (Jvm.Cond.code ({ cls := "SixtyFiveModel", name := "mode1", desc := "(I)I" } : Jvm.MethodName) prog_5_method_19_code (1 : Nat) (Option.some Jvm.ClassFile.FieldType.int)) ∈ BIG := big_of (List.mem_append_right _ (List.mem_of_getElem? (i := 562) rfl)) rfl
set_option maxRecDepth 20000 in
theorem mw_563 : (Jvm.Cond.methodLink "SixtyFiveModel" (77 : Nat) ({ cls := "SixtyFiveModel", name := "address", desc := "(I)I" } : Jvm.MethodName)) ∈ BIG := big_of (List.mem_append_right _ (List.mem_of_getElem? (i := 563) rfl)) rfl
set_option maxRecDepth 20000 in
theorem mw_565 : (Jvm.Cond.instanceMethod ({ cls := "SixtyFiveModel", name := "address", desc := "(I)I" } : Jvm.MethodName)) ∈ BIG := big_of (List.mem_append_right _ (List.mem_of_getElem? (i := 565) rfl)) rfl
set_option maxRecDepth 20000 in
theorem mw_566 : (Jvm.Cond.code ({ cls := "SixtyFiveModel", name := "address", desc := "(I)I" } : Jvm.MethodName) prog_5_method_13_code (2 : Nat) (Option.some Jvm.ClassFile.FieldType.int)) ∈ BIG := big_of (List.mem_append_right _ (List.mem_of_getElem? (i := 566) rfl)) rfl
set_option maxRecDepth 20000 in
theorem mw_567 : (Jvm.Cond.methodLink "SixtyFiveModel" (57 : Nat) ({ cls := "SixtyFiveModel", name := "two", desc := "()V" } : Jvm.MethodName)) ∈ BIG := big_of (List.mem_append_right _ (List.mem_of_getElem? (i := 567) rfl)) rfl
set_option maxRecDepth 20000 in
theorem mw_569 : (Jvm.Cond.instanceMethod ({ cls := "SixtyFiveModel", name := "two", desc := "()V" } : Jvm.MethodName)) ∈ BIG := big_of (List.mem_append_right _ (List.mem_of_getElem? (i := 569) rfl)) rfl
set_option maxRecDepth 20000 in
theorem mw_570 : (Jvm.Cond.code ({ cls := "SixtyFiveModel", name := "two", desc := "()V" } : Jvm.MethodName) prog_5_method_11_code (1 : Nat) (Option.none : Option Jvm.ClassFile.FieldType)) ∈ BIG := big_of (List.mem_append_right _ (List.mem_of_getElem? (i := 570) rfl)) rfl
set_option maxRecDepth 20000 in
theorem mw_571 : (Jvm.Cond.methodLink "SixtyFiveModel" (60 : Nat) ({ cls := "SixtyFiveModel", name := "one", desc := "()V" } : Jvm.MethodName)) ∈ BIG := big_of (List.mem_append_right _ (List.mem_of_getElem? (i := 571) rfl)) rfl
set_option maxRecDepth 20000 in
theorem mw_573 : (Jvm.Cond.instanceMethod ({ cls := "SixtyFiveModel", name := "one", desc := "()V" } : Jvm.MethodName)) ∈ BIG := big_of (List.mem_append_right _ (List.mem_of_getElem? (i := 573) rfl)) rfl
set_option maxRecDepth 20000 in
theorem mw_574 : (Jvm.Cond.code ({ cls := "SixtyFiveModel", name := "one", desc := "()V" } : Jvm.MethodName) prog_5_method_10_code (1 : Nat) (Option.none : Option Jvm.ClassFile.FieldType)) ∈ BIG := big_of (List.mem_append_right _ (List.mem_of_getElem? (i := 574) rfl)) rfl
set_option maxRecDepth 20000 in
theorem mw_575 : (Jvm.Cond.methodLink "SixtyFiveModel" (63 : Nat) ({ cls := "SixtyFiveModel", name := "pair", desc := "(I)I" } : Jvm.MethodName)) ∈ BIG := big_of (List.mem_append_right _ (List.mem_of_getElem? (i := 575) rfl)) rfl
set_option maxRecDepth 20000 in
theorem mw_577 : (Jvm.Cond.instanceMethod ({ cls := "SixtyFiveModel", name := "pair", desc := "(I)I" } : Jvm.MethodName)) ∈ BIG := big_of (List.mem_append_right _ (List.mem_of_getElem? (i := 577) rfl)) rfl
set_option maxRecDepth 20000 in
theorem mw_578 : (Jvm.Cond.code ({ cls := "SixtyFiveModel", name := "pair", desc := "(I)I" } : Jvm.MethodName) prog_5_method_12_code (2 : Nat) (Option.some Jvm.ClassFile.FieldType.int)) ∈ BIG := big_of (List.mem_append_right _ (List.mem_of_getElem? (i := 578) rfl)) rfl
set_option maxRecDepth 20000 in
theorem mw_579 : (Jvm.Cond.methodLink "SixtyFiveModel" (39 : Nat) ({ cls := "SixtyFiveModel", name := "write", desc := "(II)V" } : Jvm.MethodName)) ∈ BIG := big_of (List.mem_append_right _ (List.mem_of_getElem? (i := 579) rfl)) rfl
set_option maxRecDepth 20000 in
theorem mw_581 : (Jvm.Cond.instanceMethod ({ cls := "SixtyFiveModel", name := "write", desc := "(II)V" } : Jvm.MethodName)) ∈ BIG := big_of (List.mem_append_right _ (List.mem_of_getElem? (i := 581) rfl)) rfl
set_option maxRecDepth 20000 in
theorem mw_582 : (Jvm.Cond.code ({ cls := "SixtyFiveModel", name := "write", desc := "(II)V" } : Jvm.MethodName) prog_5_method_6_code (5 : Nat) (Option.none : Option Jvm.ClassFile.FieldType)) ∈ BIG := big_of (List.mem_append_right _ (List.mem_of_getElem? (i := 582) rfl)) rfl
set_option maxRecDepth 20000 in
theorem mw_583 : (Jvm.Cond.methodLink "SixtyFiveModel" (80 : Nat) ({ cls := "SixtyFiveModel", name := "operand", desc := "(II)I" } : Jvm.MethodName)) ∈ BIG := big_of (List.mem_append_right _ (List.mem_of_getElem? (i := 583) rfl)) rfl
set_option maxRecDepth 20000 in
theorem mw_585 : (Jvm.Cond.instanceMethod ({ cls := "SixtyFiveModel", name := "operand", desc := "(II)I" } : Jvm.MethodName)) ∈ BIG := big_of (List.mem_append_right _ (List.mem_of_getElem? (i := 585) rfl)) rfl
set_option maxRecDepth 20000 in
theorem mw_586 : (Jvm.Cond.code ({ cls := "SixtyFiveModel", name := "operand", desc := "(II)I" } : Jvm.MethodName) prog_5_method_14_code (3 : Nat) (Option.some Jvm.ClassFile.FieldType.int)) ∈ BIG := big_of (List.mem_append_right _ (List.mem_of_getElem? (i := 586) rfl)) rfl
set_option maxRecDepth 20000 in
theorem mw_587 : (Jvm.Cond.methodLink "SixtyFiveModel" (70 : Nat) ({ cls := "SixtyFiveModel", name := "put", desc := "(IIZ)V" } : Jvm.MethodName)) ∈ BIG := big_of (List.mem_append_right _ (List.mem_of_getElem? (i := 587) rfl)) rfl
set_option maxRecDepth 20000 in
theorem mw_589 : (Jvm.Cond.instanceMethod ({ cls := "SixtyFiveModel", name := "put", desc := "(IIZ)V" } : Jvm.MethodName)) ∈ BIG := big_of (List.mem_append_right _ (List.mem_of_getElem? (i := 589) rfl)) rfl
set_option maxRecDepth 20000 in
theorem mw_590 : (Jvm.Cond.code ({ cls := "SixtyFiveModel", name := "put", desc := "(IIZ)V" } : Jvm.MethodName) prog_5_method_16_code (4 : Nat) (Option.none : Option Jvm.ClassFile.FieldType)) ∈ BIG := big_of (List.mem_append_right _ (List.mem_of_getElem? (i := 590) rfl)) rfl
set_option maxRecDepth 20000 in
theorem mw_591 : (Jvm.Cond.methodLink "SixtyFiveModel" (66 : Nat) ({ cls := "SixtyFiveModel", name := "set", desc := "(I)V" } : Jvm.MethodName)) ∈ BIG := big_of (List.mem_append_right _ (List.mem_of_getElem? (i := 591) rfl)) rfl
set_option maxRecDepth 20000 in
theorem mw_593 : (Jvm.Cond.instanceMethod ({ cls := "SixtyFiveModel", name := "set", desc := "(I)V" } : Jvm.MethodName)) ∈ BIG := big_of (List.mem_append_right _ (List.mem_of_getElem? (i := 593) rfl)) rfl
set_option maxRecDepth 20000 in
theorem mw_594 : (Jvm.Cond.code ({ cls := "SixtyFiveModel", name := "set", desc := "(I)V" } : Jvm.MethodName) prog_5_method_15_code (2 : Nat) (Option.none : Option Jvm.ClassFile.FieldType)) ∈ BIG := big_of (List.mem_append_right _ (List.mem_of_getElem? (i := 594) rfl)) rfl
set_option maxRecDepth 20000 in
theorem mw_595 : (Jvm.Cond.methodLink "SixtyFiveModel" (84 : Nat) ({ cls := "SixtyFiveModel", name := "add", desc := "(I)V" } : Jvm.MethodName)) ∈ BIG := big_of (List.mem_append_right _ (List.mem_of_getElem? (i := 595) rfl)) rfl
set_option maxRecDepth 20000 in
theorem mw_597 : (Jvm.Cond.instanceMethod ({ cls := "SixtyFiveModel", name := "add", desc := "(I)V" } : Jvm.MethodName)) ∈ BIG := big_of (List.mem_append_right _ (List.mem_of_getElem? (i := 597) rfl)) rfl
set_option maxRecDepth 20000 in
theorem mw_598 : (Jvm.Cond.code ({ cls := "SixtyFiveModel", name := "add", desc := "(I)V" } : Jvm.MethodName) prog_5_method_18_code (3 : Nat) (Option.none : Option Jvm.ClassFile.FieldType)) ∈ BIG := big_of (List.mem_append_right _ (List.mem_of_getElem? (i := 598) rfl)) rfl
set_option maxRecDepth 20000 in
theorem mw_599 : (Jvm.Cond.methodLink "SixtyFiveModel" (87 : Nat) ({ cls := "SixtyFiveModel", name := "compare", desc := "(II)V" } : Jvm.MethodName)) ∈ BIG := big_of (List.mem_append_right _ (List.mem_of_getElem? (i := 599) rfl)) rfl
set_option maxRecDepth 20000 in
theorem mw_601 : (Jvm.Cond.instanceMethod ({ cls := "SixtyFiveModel", name := "compare", desc := "(II)V" } : Jvm.MethodName)) ∈ BIG := big_of (List.mem_append_right _ (List.mem_of_getElem? (i := 601) rfl)) rfl
set_option maxRecDepth 20000 in
theorem mw_602 : (Jvm.Cond.code ({ cls := "SixtyFiveModel", name := "compare", desc := "(II)V" } : Jvm.MethodName) prog_5_method_17_code (3 : Nat) (Option.none : Option Jvm.ClassFile.FieldType)) ∈ BIG := big_of (List.mem_append_right _ (List.mem_of_getElem? (i := 602) rfl)) rfl
set_option maxRecDepth 20000 in
theorem mw_611 : (Jvm.Cond.methodLink "SixtyFiveModel" (90 : Nat) ({ cls := "SixtyFiveModel", name := "shifted", desc := "(II)I" } : Jvm.MethodName)) ∈ BIG := big_of (List.mem_append_right _ (List.mem_of_getElem? (i := 611) rfl)) rfl
set_option maxRecDepth 20000 in
theorem mw_613 : (Jvm.Cond.instanceMethod ({ cls := "SixtyFiveModel", name := "shifted", desc := "(II)I" } : Jvm.MethodName)) ∈ BIG := big_of (List.mem_append_right _ (List.mem_of_getElem? (i := 613) rfl)) rfl
set_option maxRecDepth 20000 in
theorem mw_614 : (Jvm.Cond.code ({ cls := "SixtyFiveModel", name := "shifted", desc := "(II)I" } : Jvm.MethodName) prog_5_method_21_code (4 : Nat) (Option.some Jvm.ClassFile.FieldType.int)) ∈ BIG := big_of (List.mem_append_right _ (List.mem_of_getElem? (i := 614) rfl)) rfl
set_option maxRecDepth 20000 in
theorem mw_619 : (Jvm.Cond.methodLink "SixtyFiveModel" (105 : Nat) ({ cls := "SixtyFiveModel", name := "branch", desc := "(I)V" } : Jvm.MethodName)) ∈ BIG := big_of (List.mem_append_right _ (List.mem_of_getElem? (i := 619) rfl)) rfl
set_option maxRecDepth 20000 in
theorem mw_621 : (Jvm.Cond.instanceMethod ({ cls := "SixtyFiveModel", name := "branch", desc := "(I)V" } : Jvm.MethodName)) ∈ BIG := big_of (List.mem_append_right _ (List.mem_of_getElem? (i := 621) rfl)) rfl
set_option maxRecDepth 20000 in
theorem mw_622 : (Jvm.Cond.code ({ cls := "SixtyFiveModel", name := "branch", desc := "(I)V" } : Jvm.MethodName) prog_5_method_26_code (3 : Nat) (Option.none : Option Jvm.ClassFile.FieldType)) ∈ BIG := big_of (List.mem_append_right _ (List.mem_of_getElem? (i := 622) rfl)) rfl
set_option maxRecDepth 20000 in
theorem mw_623 : (Jvm.Cond.methodLink "SixtyFiveModel" (108 : Nat) ({ cls := "SixtyFiveModel", name := "single", desc := "(I)V" } : Jvm.MethodName)) ∈ BIG := big_of (List.mem_append_right _ (List.mem_of_getElem? (i := 623) rfl)) rfl
set_option maxRecDepth 20000 in
theorem mw_625 : (Jvm.Cond.instanceMethod ({ cls := "SixtyFiveModel", name := "single", desc := "(I)V" } : Jvm.MethodName)) ∈ BIG := big_of (List.mem_append_right _ (List.mem_of_getElem? (i := 625) rfl)) rfl
set_option maxRecDepth 20000 in
theorem mw_626 : (Jvm.Cond.code ({ cls := "SixtyFiveModel", name := "single", desc := "(I)V" } : Jvm.MethodName) prog_5_method_27_code (3 : Nat) (Option.none : Option Jvm.ClassFile.FieldType)) ∈ BIG := big_of (List.mem_append_right _ (List.mem_of_getElem? (i := 626) rfl)) rfl
set_option maxRecDepth 20000 in
theorem mw_627 : (Jvm.Cond.methodLink "SixtyFiveModel" (93 : Nat) ({ cls := "SixtyFiveModel", name := "push", desc := "(I)V" } : Jvm.MethodName)) ∈ BIG := big_of (List.mem_append_right _ (List.mem_of_getElem? (i := 627) rfl)) rfl
set_option maxRecDepth 20000 in
theorem mw_629 : (Jvm.Cond.instanceMethod ({ cls := "SixtyFiveModel", name := "push", desc := "(I)V" } : Jvm.MethodName)) ∈ BIG := big_of (List.mem_append_right _ (List.mem_of_getElem? (i := 629) rfl)) rfl
set_option maxRecDepth 20000 in
theorem mw_630 : (Jvm.Cond.code ({ cls := "SixtyFiveModel", name := "push", desc := "(I)V" } : Jvm.MethodName) prog_5_method_7_code (2 : Nat) (Option.none : Option Jvm.ClassFile.FieldType)) ∈ BIG := big_of (List.mem_append_right _ (List.mem_of_getElem? (i := 630) rfl)) rfl
set_option maxRecDepth 20000 in
theorem mw_631 : (Jvm.Cond.methodLink "SixtyFiveModel" (96 : Nat) ({ cls := "SixtyFiveModel", name := "pull", desc := "()I" } : Jvm.MethodName)) ∈ BIG := big_of (List.mem_append_right _ (List.mem_of_getElem? (i := 631) rfl)) rfl
set_option maxRecDepth 20000 in
theorem mw_633 : (Jvm.Cond.instanceMethod ({ cls := "SixtyFiveModel", name := "pull", desc := "()I" } : Jvm.MethodName)) ∈ BIG := big_of (List.mem_append_right _ (List.mem_of_getElem? (i := 633) rfl)) rfl
set_option maxRecDepth 20000 in
theorem mw_634 : (Jvm.Cond.code ({ cls := "SixtyFiveModel", name := "pull", desc := "()I" } : Jvm.MethodName) prog_5_method_8_code (1 : Nat) (Option.some Jvm.ClassFile.FieldType.int)) ∈ BIG := big_of (List.mem_append_right _ (List.mem_of_getElem? (i := 634) rfl)) rfl
set_option maxRecDepth 20000 in
theorem sw_X_add : Cond.selects "SixtyFiveModel" ({ cls := "SixtyFiveModel", name := "add", desc := "(I)V" } : Jvm.MethodName) ({ cls := "SixtyFiveModel", name := "add", desc := "(I)V" } : Jvm.MethodName) ∈ BIG := big_of (List.mem_append_left _ (List.mem_map.mpr ⟨(({ cls := "SixtyFiveModel", name := "add", desc := "(I)V" } : Jvm.MethodName), 13), List.mem_of_getElem? (i := 44) rfl, rfl⟩)) rfl
set_option maxRecDepth 20000 in
theorem sw_X_address : Cond.selects "SixtyFiveModel" ({ cls := "SixtyFiveModel", name := "address", desc := "(I)I" } : Jvm.MethodName) ({ cls := "SixtyFiveModel", name := "address", desc := "(I)I" } : Jvm.MethodName) ∈ BIG := big_of (List.mem_append_left _ (List.mem_map.mpr ⟨(({ cls := "SixtyFiveModel", name := "address", desc := "(I)I" } : Jvm.MethodName), 13), List.mem_of_getElem? (i := 36) rfl, rfl⟩)) rfl
set_option maxRecDepth 20000 in
theorem sw_X_branch : Cond.selects "SixtyFiveModel" ({ cls := "SixtyFiveModel", name := "branch", desc := "(I)V" } : Jvm.MethodName) ({ cls := "SixtyFiveModel", name := "branch", desc := "(I)V" } : Jvm.MethodName) ∈ BIG := big_of (List.mem_append_left _ (List.mem_map.mpr ⟨(({ cls := "SixtyFiveModel", name := "branch", desc := "(I)V" } : Jvm.MethodName), 13), List.mem_of_getElem? (i := 50) rfl, rfl⟩)) rfl
set_option maxRecDepth 20000 in
theorem sw_X_compare : Cond.selects "SixtyFiveModel" ({ cls := "SixtyFiveModel", name := "compare", desc := "(II)V" } : Jvm.MethodName) ({ cls := "SixtyFiveModel", name := "compare", desc := "(II)V" } : Jvm.MethodName) ∈ BIG := big_of (List.mem_append_left _ (List.mem_map.mpr ⟨(({ cls := "SixtyFiveModel", name := "compare", desc := "(II)V" } : Jvm.MethodName), 13), List.mem_of_getElem? (i := 45) rfl, rfl⟩)) rfl
set_option maxRecDepth 20000 in
theorem sw_X_fetch : Cond.selects "SixtyFiveModel" ({ cls := "SixtyFiveModel", name := "fetch", desc := "()I" } : Jvm.MethodName) ({ cls := "SixtyFiveModel", name := "fetch", desc := "()I" } : Jvm.MethodName) ∈ BIG := big_of (List.mem_append_left _ (List.mem_map.mpr ⟨(({ cls := "SixtyFiveModel", name := "fetch", desc := "()I" } : Jvm.MethodName), 13), List.mem_of_getElem? (i := 33) rfl, rfl⟩)) rfl
set_option maxRecDepth 20000 in
theorem sw_X_one : Cond.selects "SixtyFiveModel" ({ cls := "SixtyFiveModel", name := "one", desc := "()V" } : Jvm.MethodName) ({ cls := "SixtyFiveModel", name := "one", desc := "()V" } : Jvm.MethodName) ∈ BIG := big_of (List.mem_append_left _ (List.mem_map.mpr ⟨(({ cls := "SixtyFiveModel", name := "one", desc := "()V" } : Jvm.MethodName), 13), List.mem_of_getElem? (i := 38) rfl, rfl⟩)) rfl
set_option maxRecDepth 20000 in
theorem sw_X_operand : Cond.selects "SixtyFiveModel" ({ cls := "SixtyFiveModel", name := "operand", desc := "(II)I" } : Jvm.MethodName) ({ cls := "SixtyFiveModel", name := "operand", desc := "(II)I" } : Jvm.MethodName) ∈ BIG := big_of (List.mem_append_left _ (List.mem_map.mpr ⟨(({ cls := "SixtyFiveModel", name := "operand", desc := "(II)I" } : Jvm.MethodName), 13), List.mem_of_getElem? (i := 41) rfl, rfl⟩)) rfl
set_option maxRecDepth 20000 in
theorem sw_X_pair : Cond.selects "SixtyFiveModel" ({ cls := "SixtyFiveModel", name := "pair", desc := "(I)I" } : Jvm.MethodName) ({ cls := "SixtyFiveModel", name := "pair", desc := "(I)I" } : Jvm.MethodName) ∈ BIG := big_of (List.mem_append_left _ (List.mem_map.mpr ⟨(({ cls := "SixtyFiveModel", name := "pair", desc := "(I)I" } : Jvm.MethodName), 13), List.mem_of_getElem? (i := 39) rfl, rfl⟩)) rfl
set_option maxRecDepth 20000 in
theorem sw_X_pull : Cond.selects "SixtyFiveModel" ({ cls := "SixtyFiveModel", name := "pull", desc := "()I" } : Jvm.MethodName) ({ cls := "SixtyFiveModel", name := "pull", desc := "()I" } : Jvm.MethodName) ∈ BIG := big_of (List.mem_append_left _ (List.mem_map.mpr ⟨(({ cls := "SixtyFiveModel", name := "pull", desc := "()I" } : Jvm.MethodName), 13), List.mem_of_getElem? (i := 53) rfl, rfl⟩)) rfl
set_option maxRecDepth 20000 in
theorem sw_X_push : Cond.selects "SixtyFiveModel" ({ cls := "SixtyFiveModel", name := "push", desc := "(I)V" } : Jvm.MethodName) ({ cls := "SixtyFiveModel", name := "push", desc := "(I)V" } : Jvm.MethodName) ∈ BIG := big_of (List.mem_append_left _ (List.mem_map.mpr ⟨(({ cls := "SixtyFiveModel", name := "push", desc := "(I)V" } : Jvm.MethodName), 13), List.mem_of_getElem? (i := 52) rfl, rfl⟩)) rfl
set_option maxRecDepth 20000 in
theorem sw_X_put3 : Cond.selects "SixtyFiveModel" ({ cls := "SixtyFiveModel", name := "put", desc := "(IIZ)V" } : Jvm.MethodName) ({ cls := "SixtyFiveModel", name := "put", desc := "(IIZ)V" } : Jvm.MethodName) ∈ BIG := big_of (List.mem_append_left _ (List.mem_map.mpr ⟨(({ cls := "SixtyFiveModel", name := "put", desc := "(IIZ)V" } : Jvm.MethodName), 13), List.mem_of_getElem? (i := 42) rfl, rfl⟩)) rfl
set_option maxRecDepth 20000 in
theorem sw_X_read : Cond.selects "SixtyFiveModel" ({ cls := "SixtyFiveModel", name := "read", desc := "(I)I" } : Jvm.MethodName) ({ cls := "SixtyFiveModel", name := "read", desc := "(I)I" } : Jvm.MethodName) ∈ BIG := big_of (List.mem_append_left _ (List.mem_map.mpr ⟨(({ cls := "SixtyFiveModel", name := "read", desc := "(I)I" } : Jvm.MethodName), 13), List.mem_of_getElem? (i := 34) rfl, rfl⟩)) rfl
set_option maxRecDepth 20000 in
theorem sw_X_set : Cond.selects "SixtyFiveModel" ({ cls := "SixtyFiveModel", name := "set", desc := "(I)V" } : Jvm.MethodName) ({ cls := "SixtyFiveModel", name := "set", desc := "(I)V" } : Jvm.MethodName) ∈ BIG := big_of (List.mem_append_left _ (List.mem_map.mpr ⟨(({ cls := "SixtyFiveModel", name := "set", desc := "(I)V" } : Jvm.MethodName), 13), List.mem_of_getElem? (i := 43) rfl, rfl⟩)) rfl
set_option maxRecDepth 20000 in
theorem sw_X_setStatus : Cond.selects "SixtyFiveModel" ({ cls := "SixtyFiveModel", name := "setStatus", desc := "(I)V" } : Jvm.MethodName) ({ cls := "SixtyFiveModel", name := "setStatus", desc := "(I)V" } : Jvm.MethodName) ∈ BIG := big_of (List.mem_append_left _ (List.mem_map.mpr ⟨(({ cls := "SixtyFiveModel", name := "setStatus", desc := "(I)V" } : Jvm.MethodName), 13), List.mem_of_getElem? (i := 31) rfl, rfl⟩)) rfl
set_option maxRecDepth 20000 in
theorem sw_X_shifted : Cond.selects "SixtyFiveModel" ({ cls := "SixtyFiveModel", name := "shifted", desc := "(II)I" } : Jvm.MethodName) ({ cls := "SixtyFiveModel", name := "shifted", desc := "(II)I" } : Jvm.MethodName) ∈ BIG := big_of (List.mem_append_left _ (List.mem_map.mpr ⟨(({ cls := "SixtyFiveModel", name := "shifted", desc := "(II)I" } : Jvm.MethodName), 13), List.mem_of_getElem? (i := 48) rfl, rfl⟩)) rfl
set_option maxRecDepth 20000 in
theorem sw_X_single : Cond.selects "SixtyFiveModel" ({ cls := "SixtyFiveModel", name := "single", desc := "(I)V" } : Jvm.MethodName) ({ cls := "SixtyFiveModel", name := "single", desc := "(I)V" } : Jvm.MethodName) ∈ BIG := big_of (List.mem_append_left _ (List.mem_map.mpr ⟨(({ cls := "SixtyFiveModel", name := "single", desc := "(I)V" } : Jvm.MethodName), 13), List.mem_of_getElem? (i := 51) rfl, rfl⟩)) rfl
set_option maxRecDepth 20000 in
theorem sw_X_status : Cond.selects "SixtyFiveModel" ({ cls := "SixtyFiveModel", name := "status", desc := "()I" } : Jvm.MethodName) ({ cls := "SixtyFiveModel", name := "status", desc := "()I" } : Jvm.MethodName) ∈ BIG := big_of (List.mem_append_left _ (List.mem_map.mpr ⟨(({ cls := "SixtyFiveModel", name := "status", desc := "()I" } : Jvm.MethodName), 13), List.mem_of_getElem? (i := 30) rfl, rfl⟩)) rfl
set_option maxRecDepth 20000 in
theorem sw_X_two : Cond.selects "SixtyFiveModel" ({ cls := "SixtyFiveModel", name := "two", desc := "()V" } : Jvm.MethodName) ({ cls := "SixtyFiveModel", name := "two", desc := "()V" } : Jvm.MethodName) ∈ BIG := big_of (List.mem_append_left _ (List.mem_map.mpr ⟨(({ cls := "SixtyFiveModel", name := "two", desc := "()V" } : Jvm.MethodName), 13), List.mem_of_getElem? (i := 37) rfl, rfl⟩)) rfl
set_option maxRecDepth 20000 in
theorem sw_X_write : Cond.selects "SixtyFiveModel" ({ cls := "SixtyFiveModel", name := "write", desc := "(II)V" } : Jvm.MethodName) ({ cls := "SixtyFiveModel", name := "write", desc := "(II)V" } : Jvm.MethodName) ∈ BIG := big_of (List.mem_append_left _ (List.mem_map.mpr ⟨(({ cls := "SixtyFiveModel", name := "write", desc := "(II)V" } : Jvm.MethodName), 13), List.mem_of_getElem? (i := 40) rfl, rfl⟩)) rfl
abbrev w_X_in : List Cond := Cond.code y_X_in b_X_in 3 (some .boolean) :: BIG
abbrev w_X_thrown : List Cond := Cond.code y_X_thrown b_X_thrown 1 (some .int) :: BIG
abbrev w_X_good : List Cond := Cond.code y_X_good b_X_good 3 (some .boolean) :: BIG
abbrev w_X_read : List Cond := Cond.code y_X_read b_X_read 4 (some .int) :: BIG
abbrev w_X_mode1 : List Cond := Cond.code y_X_mode1 b_X_mode1 1 (some .int) :: BIG
abbrev w_X_status : List Cond := Cond.code y_X_status b_X_status 1 (some .int) :: BIG
abbrev w_X_setStatus : List Cond := Cond.code y_X_setStatus b_X_setStatus 2 none :: BIG
abbrev w_X_set : List Cond := Cond.code y_X_set b_X_set 2 none :: BIG
abbrev w_X_put3 : List Cond := Cond.code y_X_put3 b_X_put3 4 none :: BIG
abbrev w_X_compare : List Cond := Cond.code y_X_compare b_X_compare 3 none :: BIG
abbrev w_X_add : List Cond := Cond.code y_X_add b_X_add 3 none :: BIG
abbrev w_X_shifted : List Cond := Cond.code y_X_shifted b_X_shifted 4 (some .int) :: BIG
abbrev w_X_pull : List Cond := Cond.code y_X_pull b_X_pull 1 (some .int) :: BIG
abbrev w_X_fetch : List Cond := Cond.code y_X_fetch b_X_fetch 2 (some .int) :: BIG
abbrev w_X_one : List Cond := Cond.code y_X_one b_X_one 1 none :: BIG
abbrev w_X_two : List Cond := Cond.code y_X_two b_X_two 1 none :: BIG
abbrev w_X_pair : List Cond := Cond.code y_X_pair b_X_pair 2 (some .int) :: BIG
abbrev w_X_address : List Cond := Cond.code y_X_address b_X_address 2 (some .int) :: BIG
abbrev w_X_operand : List Cond := Cond.code y_X_operand b_X_operand 3 (some .int) :: BIG
abbrev w_X_branch : List Cond := Cond.code y_X_branch b_X_branch 3 none :: BIG
abbrev w_X_write : List Cond := Cond.code y_X_write b_X_write 5 none :: BIG
abbrev w_X_push : List Cond := Cond.code y_X_push b_X_push 2 none :: BIG
abbrev w_X_sums : List Cond := Cond.code y_X_sums b_X_sums 6 none :: BIG
abbrev w_X_changes : List Cond := Cond.code y_X_changes b_X_changes 6 none :: BIG
abbrev w_X_moves : List Cond := Cond.code y_X_moves b_X_moves 5 none :: BIG
abbrev w_X_single : List Cond := Cond.code y_X_single b_X_single 3 none :: BIG
abbrev w_X_tests : List Cond := Cond.code y_X_tests b_X_tests 7 none :: BIG
section
variable {p : Program} {l : Launch} {e : Env} {R : Room} {s : State} {m : MethodId} {args : Array Value} {below : List Frame} {meth : Method} {c : Code} {H : Heap} {locs : List Loc} {cells slots : Nat} {Q : State → Prop}
variable {cc : ByteArray} {pc : Nat} {ls : Array Slot} {rest : List Value} {D : va_G} {cl : List vw_C} {A : Nat → Prop} {a : Nat} {tys : List (ClassId × FieldType)} {ws : va_W} {H0 : Heap}
/-- a place of an array, its number told -/
theorem iald_at (hexec : p.tables.exec = Jvm.exec) (hb : c.code = cc) (hK : va_K D cl tys s) (hP : va_P D cl ws H) (q0 t0 : Nat) {cA : ClassId} {n : Nat} {f : Nat → Int32} (ha : ws[q0]? = some (a, .inl (cA, n, .inl f))) (ht : tys[t0]? = some (cA, .int)) {i : Int32} {j : Nat} (hin : vp_in i n) (hj : i.toNatClampNeg = j) (hdg : decode cc pc = .ok (.iaload, 1))
    (kk : W p l e R s m args below meth c H locs cells slots Q (F0 m (pc + 1) ls (.int (f j) :: rest))) : W p l e R s m args below meth c H locs cells slots Q (F0 m pc ls (.int i :: .ref a :: rest)) :=
  va_iald hexec hb hK hP q0 t0 ha ht hin hdg (by rw [hj]; exact kk)
theorem iast_at (hexec : p.tables.exec = Jvm.exec) (hb : c.code = cc) (hK : va_K D cl tys s) (hP : va_P D cl ws H) (hD : va_D A ws) (hS : va_S A H0 H locs) (q0 t0 : Nat) {cA : ClassId} {n : Nat} {f : Nat → Int32} (ha : ws[q0]? = some (a, .inl (cA, n, .inl f))) (ht : tys[t0]? = some (cA, .int)) {i : Int32} {x : Int32} {j : Nat} (hin : vp_in i n) (hj : i.toNatClampNeg = j) (hdg : decode cc pc = .ok (.iastore, 1))
    (kk : ∀ (H1 : Heap) (locs1 : List Loc), va_P D cl (ws.set q0 (a, .inl (cA, n, .inl (upd f j x)))) H1 → va_D A (ws.set q0 (a, .inl (cA, n, .inl (upd f j x)))) → va_S A H0 H1 locs1 → W p l e R s m args below meth c H1 locs1 cells slots Q (F0 m (pc + 1) ls rest)) : W p l e R s m args below meth c H locs cells slots Q (F0 m pc ls (.int x :: .int i :: .ref a :: rest)) :=
  va_iast hexec hb hK hP hD hS q0 t0 ha ht hin hdg (fun H1 locs1 h1 h2 h3 => kk H1 locs1 (by rw [hj] at h1; exact h1) (by rw [hj] at h2; exact h2) h3)
end
def xs_ok (u : Nat → Int32) : Prop := ∃ j : Nat, j < 8 ∧ u 1 = nI j
theorem lt_of32 {j : Nat} (h : ¬ (32 : Int32) ≤ nI j) (hj : j ≤ 32) : j < 32 := by
  rcases Nat.lt_or_ge j 32 with q | q
  · exact q
  · exact absurd (nI_le (a := 32) q (by omega)) h
theorem wr_in1 {u : Nat → Int32} (hxs : xs_ok u) {j : Nat} (hj : j < 32) : vp_in ((32 : Int32) * u 1 + nI j) 256 := by
  obtain ⟨i, hi, e⟩ := hxs
  rw [e, show (32 : Int32) = nI 32 from rfl, pk_mul, nI_add]
  exact vp_in_nI (by omega) (by decide)
theorem wr_in2 {j : Nat} (hj : j < 32) : vp_in ((768 : Int32) + nI j) 1024 := by
  rw [show (768 : Int32) = nI 768 from rfl, nI_add]
  exact vp_in_nI (by omega) (by decide)
def xsp (u : Nat → Int32) : Nat := ((32 : Int32) * u 1).toNatClampNeg
def wi1 (a : Int32) (u m1 m2 : Nat → Int32) (j : Nat) : Nat → Int32 := if a = (1011 : Int32) then va_cpy m2 m1 (xsp u) 768 j else m1
def wi2 (a : Int32) (u m1 m2 : Nat → Int32) (j : Nat) : Nat → Int32 := if a = (1012 : Int32) then va_cpy m1 m2 768 (xsp u) j else m2
theorem cpy_0 {f g : Nat → Int32} {sp dp : Nat} : va_cpy f g sp dp 0 = g := by
  funext k
  rw [va_cpy, if_neg (by omega)]
theorem cpy_s {f g : Nat → Int32} {sp dp j : Nat} : va_cpy f g sp dp (j + 1) = upd (va_cpy f g sp dp j) (dp + j) (f (sp + j)) := by
  funext k
  unfold va_cpy upd
  by_cases h : k = dp + j
  · rw [if_pos ⟨by omega, by omega⟩, if_pos h, h, show sp + (dp + j - dp) = sp + j by omega]
  · rw [if_neg h]
    show _ = (if dp ≤ k ∧ k < dp + j then f (sp + (k - dp)) else g k)
    by_cases h2 : dp ≤ k ∧ k < dp + j
    · rw [if_pos h2, if_pos ⟨h2.1, by omega⟩]
    · rw [if_neg h2, if_neg (by omega)]
theorem wi1_0 (a : Int32) (u m1 m2 : Nat → Int32) : wi1 a u m1 m2 0 = m1 := by
  unfold wi1
  split
  · exact cpy_0
  · rfl
theorem wi2_0 (a : Int32) (u m1 m2 : Nat → Int32) : wi2 a u m1 m2 0 = m2 := by
  unfold wi2
  split
  · exact cpy_0
  · rfl
theorem wi1_n {a : Int32} (h : ¬ a = (1011 : Int32)) (u m1 m2 : Nat → Int32) (i j : Nat) : wi1 a u m1 m2 i = wi1 a u m1 m2 j := by
  unfold wi1
  rw [if_neg h, if_neg h]
theorem wi2_n {a : Int32} (h : ¬ a = (1012 : Int32)) (u m1 m2 : Nat → Int32) (i j : Nat) : wi2 a u m1 m2 i = wi2 a u m1 m2 j := by
  unfold wi2
  rw [if_neg h, if_neg h]
theorem xsp_eq {u : Nat → Int32} (hxs : xs_ok u) : ∃ i : Nat, i < 8 ∧ u 1 = nI i ∧ xsp u = 32 * i ∧ ∀ j : Nat, j < 32 → ((32 : Int32) * u 1 + nI j).toNatClampNeg = 32 * i + j := by
  obtain ⟨i, hi, e⟩ := hxs
  refine ⟨i, hi, e, ?_, fun j hj => ?_⟩
  · unfold xsp
    rw [e, show (32 : Int32) = nI 32 from rfl, pk_mul, nI_clamp (by omega)]
  · rw [e, show (32 : Int32) = nI 32 from rfl, pk_mul, nI_add, nI_clamp (by omega)]
theorem at768 {j : Nat} (hj : j < 32) : ((768 : Int32) + nI j).toNatClampNeg = 768 + j := by
  rw [show (768 : Int32) = nI 768 from rfl, nI_add, nI_clamp (by omega)]
theorem wi1_s {a : Int32} {u m1 m2 y1 y2 : Nat → Int32} {j : Nat} (h : a = (1011 : Int32)) (hxs : xs_ok u) (hj : j < 32) (e1 : y1 = wi1 a u m1 m2 j) (e2 : y2 = wi2 a u m1 m2 j) : upd y1 ((768 : Int32) + nI j).toNatClampNeg (y2 ((32 : Int32) * u 1 + nI j).toNatClampNeg) = wi1 a u m1 m2 (j + 1) := by
  obtain ⟨i, hi, e, hp, hq⟩ := xsp_eq hxs
  have n2 : ¬ a = (1012 : Int32) := by rw [h]; decide
  rw [e1, e2, hq j hj, at768 hj]
  unfold wi1 wi2
  rw [if_pos h, if_neg n2, if_pos h, hp, cpy_s]
theorem wi2_s {a : Int32} {u m1 m2 y1 y2 : Nat → Int32} {j : Nat} (h : a = (1012 : Int32)) (hxs : xs_ok u) (hj : j < 32) (e1 : y1 = wi1 a u m1 m2 j) (e2 : y2 = wi2 a u m1 m2 j) : upd y2 ((32 : Int32) * u 1 + nI j).toNatClampNeg (y1 ((768 : Int32) + nI j).toNatClampNeg) = wi2 a u m1 m2 (j + 1) := by
  obtain ⟨i, hi, e, hp, hq⟩ := xsp_eq hxs
  have n1 : ¬ a = (1011 : Int32) := by rw [h]; decide
  rw [e1, e2, hq j hj, at768 hj]
  unfold wi1 wi2
  rw [if_neg n1, if_pos h, if_pos h, hp, cpy_s]
