abbrev b_B_init : ByteArray := prog_2_method_1_code
def y_B_init : MethodName := ⟨R_B, "<init>", "()V"⟩
abbrev b_P_init : ByteArray := prog_3_method_1_code
def y_P_init : MethodName := ⟨R_P, "<init>", "()V"⟩
abbrev b_S_init : ByteArray := prog_1_method_1_code
def y_S_init : MethodName := ⟨R_S, "<init>", "()V"⟩
abbrev b_X_init : ByteArray := prog_5_method_1_code
def y_X_init : MethodName := ⟨R_X, "<init>", "()V"⟩
/-! words of the tables by their places -/
set_option maxRecDepth 20000 in
theorem mw_19 : (Jvm.Cond.methodLink "SixtyFive" (1 : Nat) ({ cls := "java/lang/Object", name := "<init>", desc := "()V" } : Jvm.MethodName)) ∈ BIG := big_of (List.mem_append_right _ (List.mem_of_getElem? (i := 19) rfl)) rfl
set_option maxRecDepth 20000 in
theorem mw_20 : (Jvm.Cond.instanceMethod ({ cls := "java/lang/Object", name := "<init>", desc := "()V" } : Jvm.MethodName)) ∈ BIG := big_of (List.mem_append_right _ (List.mem_of_getElem? (i := 20) rfl)) rfl
set_option maxRecDepth 20000 in
theorem mw_21 : (Jvm.Cond.code ({ cls := "java/lang/Object", name := "<init>", desc := "()V" } : Jvm.MethodName) object_method_1_code (1 : Nat) (Option.none : Option Jvm.ClassFile.FieldType)) ∈ BIG := big_of (List.mem_append_right _ (List.mem_of_getElem? (i := 21) rfl)) rfl
set_option maxRecDepth 20000 in
theorem mw_22 : (Jvm.Cond.classLink "SixtyFive" (7 : Nat) "SixtyFive$Processor") ∈ BIG := big_of (List.mem_append_right _ (List.mem_of_getElem? (i := 22) rfl)) rfl
set_option maxRecDepth 20000 in
theorem mw_23 : (Jvm.Cond.instantiable "SixtyFive$Processor" (13 : Nat)) ∈ BIG := big_of (List.mem_append_right _ (List.mem_of_getElem? (i := 23) rfl)) rfl
set_option maxRecDepth 20000 in
theorem mw_25 : (Jvm.Cond.instanceMethod ({ cls := "SixtyFive$Processor", name := "<init>", desc := "()V" } : Jvm.MethodName)) ∈ BIG := big_of (List.mem_append_right _ (List.mem_of_getElem? (i := 25) rfl)) rfl
set_option maxRecDepth 20000 in
theorem mw_26 : (Jvm.Cond.code ({ cls := "SixtyFive$Processor", name := "<init>", desc := "()V" } : Jvm.MethodName) prog_3_method_1_code (1 : Nat) (Option.none : Option Jvm.ClassFile.FieldType)) ∈ BIG := big_of (List.mem_append_right _ (List.mem_of_getElem? (i := 26) rfl)) rfl
set_option maxRecDepth 20000 in
theorem mw_27 : (Jvm.Cond.methodLink "SixtyFive$Processor" (3 : Nat) ({ cls := "java/lang/Object", name := "<init>", desc := "()V" } : Jvm.MethodName)) ∈ BIG := big_of (List.mem_append_right _ (List.mem_of_getElem? (i := 27) rfl)) rfl
set_option maxRecDepth 20000 in
theorem mw_28 : (Jvm.Cond.classLink "SixtyFive$Processor" (9 : Nat) "SixtyFive$Board") ∈ BIG := big_of (List.mem_append_right _ (List.mem_of_getElem? (i := 28) rfl)) rfl
set_option maxRecDepth 20000 in
theorem mw_29 : (Jvm.Cond.instantiable "SixtyFive$Board" (5 : Nat)) ∈ BIG := big_of (List.mem_append_right _ (List.mem_of_getElem? (i := 29) rfl)) rfl
set_option maxRecDepth 20000 in
theorem mw_31 : (Jvm.Cond.instanceMethod ({ cls := "SixtyFive$Board", name := "<init>", desc := "()V" } : Jvm.MethodName)) ∈ BIG := big_of (List.mem_append_right _ (List.mem_of_getElem? (i := 31) rfl)) rfl
set_option maxRecDepth 20000 in
theorem mw_32 : (Jvm.Cond.code ({ cls := "SixtyFive$Board", name := "<init>", desc := "()V" } : Jvm.MethodName) prog_2_method_1_code (1 : Nat) (Option.none : Option Jvm.ClassFile.FieldType)) ∈ BIG := big_of (List.mem_append_right _ (List.mem_of_getElem? (i := 32) rfl)) rfl
set_option maxRecDepth 20000 in
theorem mw_33 : (Jvm.Cond.methodLink "SixtyFive$Board" (3 : Nat) ({ cls := "java/lang/Object", name := "<init>", desc := "()V" } : Jvm.MethodName)) ∈ BIG := big_of (List.mem_append_right _ (List.mem_of_getElem? (i := 33) rfl)) rfl
set_option maxRecDepth 20000 in
theorem mw_56 : (Jvm.Cond.arrayClass Jvm.ClassFile.FieldType.int) ∈ BIG := big_of (List.mem_append_right _ (List.mem_of_getElem? (i := 56) rfl)) rfl
set_option maxRecDepth 20000 in
theorem mw_460 : (Jvm.Cond.methodLink "SixtyFiveModel" (1 : Nat) ({ cls := "java/lang/Object", name := "<init>", desc := "()V" } : Jvm.MethodName)) ∈ BIG := big_of (List.mem_append_right _ (List.mem_of_getElem? (i := 460) rfl)) rfl
set_option maxRecDepth 20000 in
theorem ew_24 : (Jvm.Cond.methodLinkNest "SixtyFive" (9 : Nat) ({ cls := "SixtyFive$Processor", name := "<init>", desc := "()V" } : Jvm.MethodName) "SixtyFive") ∈ enW := List.mem_filter.mpr ⟨List.mem_append_right _ (List.mem_of_getElem? (i := 24) rfl), rfl⟩
set_option maxRecDepth 20000 in
theorem ew_30 : (Jvm.Cond.methodLinkNest "SixtyFive$Processor" (11 : Nat) ({ cls := "SixtyFive$Board", name := "<init>", desc := "()V" } : Jvm.MethodName) "SixtyFive") ∈ enW := List.mem_filter.mpr ⟨List.mem_append_right _ (List.mem_of_getElem? (i := 30) rfl), rfl⟩
set_option maxRecDepth 20000 in
theorem ew_58 : (Jvm.Cond.fieldLinkNest "SixtyFive" (16 : Nat) "SixtyFive$Processor" "board" "LSixtyFive$Board;" "SixtyFive") ∈ enW := List.mem_filter.mpr ⟨List.mem_append_right _ (List.mem_of_getElem? (i := 58) rfl), rfl⟩
abbrev w_B_init : List Cond := Cond.code y_B_init b_B_init 1 none :: BIG
abbrev w_P_init : List Cond := Cond.code y_P_init b_P_init 1 none :: BIG
abbrev w_S_init : List Cond := Cond.code y_S_init b_S_init 1 none :: BIG
abbrev w_X_init : List Cond := Cond.code y_X_init b_X_init 1 none :: BIG
theorem d_B_init_0 : decode b_B_init 0 = .ok (.aload_n 0, 1) := by decide +kernel
theorem d_B_init_1 : decode b_B_init 1 = .ok (.invokespecial 3, 3) := by decide +kernel
theorem d_B_init_4 : decode b_B_init 4 = .ok (.aload_n 0, 1) := by decide +kernel
theorem d_B_init_5 : decode b_B_init 5 = .ok (.sipush 1024, 3) := by decide +kernel
theorem d_B_init_8 : decode b_B_init 8 = .ok (.newarray .int, 2) := by decide +kernel
theorem d_B_init_10 : decode b_B_init 10 = .ok (.putfield 9, 3) := by decide +kernel
theorem d_B_init_13 : decode b_B_init 13 = .ok (.aload_n 0, 1) := by decide +kernel
theorem d_B_init_14 : decode b_B_init 14 = .ok (.sipush 256, 3) := by decide +kernel
theorem d_B_init_17 : decode b_B_init 17 = .ok (.newarray .int, 2) := by decide +kernel
theorem d_B_init_19 : decode b_B_init 19 = .ok (.putfield 15, 3) := by decide +kernel
theorem d_B_init_22 : decode b_B_init 22 = .ok (.aload_n 0, 1) := by decide +kernel
theorem d_B_init_23 : decode b_B_init 23 = .ok (.iconst 0, 1) := by decide +kernel
theorem d_B_init_24 : decode b_B_init 24 = .ok (.putfield 18, 3) := by decide +kernel
theorem d_B_init_27 : decode b_B_init 27 = .ok (.aload_n 0, 1) := by decide +kernel
theorem d_B_init_28 : decode b_B_init 28 = .ok (.iconst 0, 1) := by decide +kernel
theorem d_B_init_29 : decode b_B_init 29 = .ok (.putfield 22, 3) := by decide +kernel
theorem d_B_init_32 : decode b_B_init 32 = .ok (.aload_n 0, 1) := by decide +kernel
theorem d_B_init_33 : decode b_B_init 33 = .ok (.iconst 0, 1) := by decide +kernel
theorem d_B_init_34 : decode b_B_init 34 = .ok (.putfield 25, 3) := by decide +kernel
theorem d_B_init_37 : decode b_B_init 37 = .ok (.return_, 1) := by decide +kernel
theorem d_P_init_0 : decode b_P_init 0 = .ok (.aload_n 0, 1) := by decide +kernel
theorem d_P_init_1 : decode b_P_init 1 = .ok (.invokespecial 3, 3) := by decide +kernel
theorem d_P_init_4 : decode b_P_init 4 = .ok (.aload_n 0, 1) := by decide +kernel
theorem d_P_init_5 : decode b_P_init 5 = .ok (.new 9, 3) := by decide +kernel
theorem d_P_init_8 : decode b_P_init 8 = .ok (.dup, 1) := by decide +kernel
theorem d_P_init_9 : decode b_P_init 9 = .ok (.invokespecial 11, 3) := by decide +kernel
theorem d_P_init_12 : decode b_P_init 12 = .ok (.putfield 12, 3) := by decide +kernel
theorem d_P_init_15 : decode b_P_init 15 = .ok (.aload_n 0, 1) := by decide +kernel
theorem d_P_init_16 : decode b_P_init 16 = .ok (.sipush 255, 3) := by decide +kernel
theorem d_P_init_19 : decode b_P_init 19 = .ok (.putfield 18, 3) := by decide +kernel
theorem d_P_init_22 : decode b_P_init 22 = .ok (.aload_n 0, 1) := by decide +kernel
theorem d_P_init_23 : decode b_P_init 23 = .ok (.sipush 512, 3) := by decide +kernel
theorem d_P_init_26 : decode b_P_init 26 = .ok (.putfield 22, 3) := by decide +kernel
theorem d_P_init_29 : decode b_P_init 29 = .ok (.return_, 1) := by decide +kernel
theorem d_S_init_0 : decode b_S_init 0 = .ok (.aload_n 0, 1) := by decide +kernel
theorem d_S_init_1 : decode b_S_init 1 = .ok (.invokespecial 1, 3) := by decide +kernel
theorem d_S_init_4 : decode b_S_init 4 = .ok (.aload_n 0, 1) := by decide +kernel
theorem d_S_init_5 : decode b_S_init 5 = .ok (.new 7, 3) := by decide +kernel
theorem d_S_init_8 : decode b_S_init 8 = .ok (.dup, 1) := by decide +kernel
theorem d_S_init_9 : decode b_S_init 9 = .ok (.invokespecial 9, 3) := by decide +kernel
theorem d_S_init_12 : decode b_S_init 12 = .ok (.putfield 10, 3) := by decide +kernel
theorem d_S_init_15 : decode b_S_init 15 = .ok (.aload_n 0, 1) := by decide +kernel
theorem d_S_init_16 : decode b_S_init 16 = .ok (.aload_n 0, 1) := by decide +kernel
theorem d_S_init_17 : decode b_S_init 17 = .ok (.getfield 10, 3) := by decide +kernel
theorem d_S_init_20 : decode b_S_init 20 = .ok (.getfield 16, 3) := by decide +kernel
theorem d_S_init_23 : decode b_S_init 23 = .ok (.putfield 20, 3) := by decide +kernel
theorem d_S_init_26 : decode b_S_init 26 = .ok (.aload_n 0, 1) := by decide +kernel
theorem d_S_init_27 : decode b_S_init 27 = .ok (.iconst 0, 1) := by decide +kernel
theorem d_S_init_28 : decode b_S_init 28 = .ok (.putfield 21, 3) := by decide +kernel
theorem d_S_init_31 : decode b_S_init 31 = .ok (.aload_n 0, 1) := by decide +kernel
theorem d_S_init_32 : decode b_S_init 32 = .ok (.iconst 0, 1) := by decide +kernel
theorem d_S_init_33 : decode b_S_init 33 = .ok (.putfield 25, 3) := by decide +kernel
theorem d_S_init_36 : decode b_S_init 36 = .ok (.return_, 1) := by decide +kernel
theorem d_X_init_0 : decode b_X_init 0 = .ok (.aload_n 0, 1) := by decide +kernel
theorem d_X_init_1 : decode b_X_init 1 = .ok (.invokespecial 1, 3) := by decide +kernel
theorem d_X_init_4 : decode b_X_init 4 = .ok (.aload_n 0, 1) := by decide +kernel
theorem d_X_init_5 : decode b_X_init 5 = .ok (.sipush 1024, 3) := by decide +kernel
theorem d_X_init_8 : decode b_X_init 8 = .ok (.newarray .int, 2) := by decide +kernel
theorem d_X_init_10 : decode b_X_init 10 = .ok (.putfield 7, 3) := by decide +kernel
theorem d_X_init_13 : decode b_X_init 13 = .ok (.aload_n 0, 1) := by decide +kernel
theorem d_X_init_14 : decode b_X_init 14 = .ok (.sipush 256, 3) := by decide +kernel
theorem d_X_init_17 : decode b_X_init 17 = .ok (.newarray .int, 2) := by decide +kernel
theorem d_X_init_19 : decode b_X_init 19 = .ok (.putfield 13, 3) := by decide +kernel
theorem d_X_init_22 : decode b_X_init 22 = .ok (.aload_n 0, 1) := by decide +kernel
theorem d_X_init_23 : decode b_X_init 23 = .ok (.bipush 9, 2) := by decide +kernel
theorem d_X_init_25 : decode b_X_init 25 = .ok (.newarray .int, 2) := by decide +kernel
theorem d_X_init_27 : decode b_X_init 27 = .ok (.putfield 16, 3) := by decide +kernel
theorem d_X_init_30 : decode b_X_init 30 = .ok (.aload_n 0, 1) := by decide +kernel
theorem d_X_init_31 : decode b_X_init 31 = .ok (.bipush 9, 2) := by decide +kernel
theorem d_X_init_33 : decode b_X_init 33 = .ok (.newarray .int, 2) := by decide +kernel
theorem d_X_init_35 : decode b_X_init 35 = .ok (.putfield 19, 3) := by decide +kernel
theorem d_X_init_38 : decode b_X_init 38 = .ok (.aload_n 0, 1) := by decide +kernel
theorem d_X_init_39 : decode b_X_init 39 = .ok (.getfield 16, 3) := by decide +kernel
theorem d_X_init_42 : decode b_X_init 42 = .ok (.iconst 3, 1) := by decide +kernel
theorem d_X_init_43 : decode b_X_init 43 = .ok (.sipush 255, 3) := by decide +kernel
theorem d_X_init_46 : decode b_X_init 46 = .ok (.iastore, 1) := by decide +kernel
theorem d_X_init_47 : decode b_X_init 47 = .ok (.aload_n 0, 1) := by decide +kernel
theorem d_X_init_48 : decode b_X_init 48 = .ok (.getfield 16, 3) := by decide +kernel
theorem d_X_init_51 : decode b_X_init 51 = .ok (.iconst 4, 1) := by decide +kernel
theorem d_X_init_52 : decode b_X_init 52 = .ok (.sipush 512, 3) := by decide +kernel
theorem d_X_init_55 : decode b_X_init 55 = .ok (.iastore, 1) := by decide +kernel
theorem d_X_init_56 : decode b_X_init 56 = .ok (.return_, 1) := by decide +kernel
