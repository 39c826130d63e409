abbrev b_S_spread : ByteArray := prog_1_method_14_code
def y_S_spread : MethodName := ⟨R_S, "spread", "([IIJI)V"⟩
abbrev b_X_load : ByteArray := prog_5_method_30_code
def y_X_load : MethodName := ⟨R_X, "load", "(IJI)I"⟩
abbrev b_X_insert : ByteArray := prog_5_method_31_code
def y_X_insert : MethodName := ⟨R_X, "insert", "(IIJI)I"⟩
abbrev b_S_load : ByteArray := prog_1_method_2_code
def y_S_load : MethodName := ⟨R_S, "load", "(IJI)I"⟩
abbrev b_S_insert : ByteArray := prog_1_method_3_code
def y_S_insert : MethodName := ⟨R_S, "insert", "(IIJI)I"⟩
/-! words of the tables by their places -/
set_option maxRecDepth 20000 in
theorem mw_124 : (Jvm.Cond.methodLink "SixtyFive" (28 : Nat) ({ cls := "SixtyFive", name := "isSpan", desc := "(III)Z" } : Jvm.MethodName)) ∈ BIG := big_of (List.mem_append_right _ (List.mem_of_getElem? (i := 124) rfl)) rfl
set_option maxRecDepth 20000 in
theorem mw_125 : (Jvm.Cond.static ({ cls := "SixtyFive", name := "isSpan", desc := "(III)Z" } : Jvm.MethodName)) ∈ BIG := big_of (List.mem_append_right _ (List.mem_of_getElem? (i := 125) rfl)) rfl
set_option maxRecDepth 20000 in
theorem mw_126 : (Jvm.Cond.code ({ cls := "SixtyFive", name := "isSpan", desc := "(III)Z" } : Jvm.MethodName) prog_1_method_13_code (3 : Nat) (Option.some Jvm.ClassFile.FieldType.boolean)) ∈ BIG := big_of (List.mem_append_right _ (List.mem_of_getElem? (i := 126) rfl)) rfl
set_option maxRecDepth 20000 in
theorem mw_203 : (Jvm.Cond.methodLink "SixtyFive" (42 : Nat) ({ cls := "SixtyFive", name := "spread", desc := "([IIJI)V" } : Jvm.MethodName)) ∈ BIG := big_of (List.mem_append_right _ (List.mem_of_getElem? (i := 203) rfl)) rfl
set_option maxRecDepth 20000 in
theorem mw_204 : (Jvm.Cond.static ({ cls := "SixtyFive", name := "spread", desc := "([IIJI)V" } : Jvm.MethodName)) ∈ BIG := big_of (List.mem_append_right _ (List.mem_of_getElem? (i := 204) rfl)) rfl
set_option maxRecDepth 20000 in
theorem mw_205 : (Jvm.Cond.code ({ cls := "SixtyFive", name := "spread", desc := "([IIJI)V" } : Jvm.MethodName) prog_1_method_14_code (6 : Nat) (Option.none : Option Jvm.ClassFile.FieldType)) ∈ BIG := big_of (List.mem_append_right _ (List.mem_of_getElem? (i := 205) rfl)) rfl
abbrev w_S_spread : List Cond := Cond.code y_S_spread b_S_spread 6 none :: BIG
abbrev w_X_load : List Cond := Cond.code y_X_load b_X_load 6 (some .int) :: BIG
abbrev w_X_insert : List Cond := Cond.code y_X_insert b_X_insert 7 (some .int) :: BIG
abbrev w_S_load : List Cond := Cond.code y_S_load b_S_load 5 (some .int) :: BIG
abbrev w_S_insert : List Cond := Cond.code y_S_insert b_S_insert 6 (some .int) :: BIG
theorem d_S_spread_0 : decode b_S_spread 0 = .ok (.iconst 0, 1) := by decide +kernel
theorem d_S_spread_1 : decode b_S_spread 1 = .ok (.istore 5, 2) := by decide +kernel
theorem d_S_spread_3 : decode b_S_spread 3 = .ok (.iload 5, 2) := by decide +kernel
theorem d_S_spread_5 : decode b_S_spread 5 = .ok (.iload 4, 2) := by decide +kernel
theorem d_S_spread_7 : decode b_S_spread 7 = .ok (.if_icmp .ge 32, 3) := by decide +kernel
theorem d_S_spread_10 : decode b_S_spread 10 = .ok (.aload_n 0, 1) := by decide +kernel
theorem d_S_spread_11 : decode b_S_spread 11 = .ok (.iload_n 1, 1) := by decide +kernel
theorem d_S_spread_12 : decode b_S_spread 12 = .ok (.iload 5, 2) := by decide +kernel
theorem d_S_spread_14 : decode b_S_spread 14 = .ok (.iadd, 1) := by decide +kernel
theorem d_S_spread_15 : decode b_S_spread 15 = .ok (.lload_n 2, 1) := by decide +kernel
theorem d_S_spread_16 : decode b_S_spread 16 = .ok (.bipush 8, 2) := by decide +kernel
theorem d_S_spread_18 : decode b_S_spread 18 = .ok (.iload 4, 2) := by decide +kernel
theorem d_S_spread_20 : decode b_S_spread 20 = .ok (.iconst 1, 1) := by decide +kernel
theorem d_S_spread_21 : decode b_S_spread 21 = .ok (.isub, 1) := by decide +kernel
theorem d_S_spread_22 : decode b_S_spread 22 = .ok (.iload 5, 2) := by decide +kernel
theorem d_S_spread_24 : decode b_S_spread 24 = .ok (.isub, 1) := by decide +kernel
theorem d_S_spread_25 : decode b_S_spread 25 = .ok (.imul, 1) := by decide +kernel
theorem d_S_spread_26 : decode b_S_spread 26 = .ok (.lushr, 1) := by decide +kernel
theorem d_S_spread_27 : decode b_S_spread 27 = .ok (.l2i, 1) := by decide +kernel
theorem d_S_spread_28 : decode b_S_spread 28 = .ok (.sipush 255, 3) := by decide +kernel
theorem d_S_spread_31 : decode b_S_spread 31 = .ok (.iand, 1) := by decide +kernel
theorem d_S_spread_32 : decode b_S_spread 32 = .ok (.iastore, 1) := by decide +kernel
theorem d_S_spread_33 : decode b_S_spread 33 = .ok (.iinc 5 1, 3) := by decide +kernel
theorem d_S_spread_36 : decode b_S_spread 36 = .ok (.goto (-33), 3) := by decide +kernel
theorem d_S_spread_39 : decode b_S_spread 39 = .ok (.return_, 1) := by decide +kernel
theorem d_X_load_0 : decode b_X_load 0 = .ok (.aload_n 0, 1) := by decide +kernel
theorem d_X_load_1 : decode b_X_load 1 = .ok (.iload_n 1, 1) := by decide +kernel
theorem d_X_load_2 : decode b_X_load 2 = .ok (.iconst 0, 1) := by decide +kernel
theorem d_X_load_3 : decode b_X_load 3 = .ok (.sipush 1007, 3) := by decide +kernel
theorem d_X_load_6 : decode b_X_load 6 = .ok (.invokestatic 130, 3) := by decide +kernel
theorem d_X_load_9 : decode b_X_load 9 = .ok (.ifCond .eq 28, 3) := by decide +kernel
theorem d_X_load_12 : decode b_X_load 12 = .ok (.iload 4, 2) := by decide +kernel
theorem d_X_load_14 : decode b_X_load 14 = .ok (.iconst 1, 1) := by decide +kernel
theorem d_X_load_15 : decode b_X_load 15 = .ok (.bipush 8, 2) := by decide +kernel
theorem d_X_load_17 : decode b_X_load 17 = .ok (.invokestatic 130, 3) := by decide +kernel
theorem d_X_load_20 : decode b_X_load 20 = .ok (.ifCond .eq 17, 3) := by decide +kernel
theorem d_X_load_23 : decode b_X_load 23 = .ok (.iload_n 1, 1) := by decide +kernel
theorem d_X_load_24 : decode b_X_load 24 = .ok (.iload 4, 2) := by decide +kernel
theorem d_X_load_26 : decode b_X_load 26 = .ok (.iadd, 1) := by decide +kernel
theorem d_X_load_27 : decode b_X_load 27 = .ok (.sipush 1008, 3) := by decide +kernel
theorem d_X_load_30 : decode b_X_load 30 = .ok (.if_icmp .gt 7, 3) := by decide +kernel
theorem d_X_load_33 : decode b_X_load 33 = .ok (.iconst 1, 1) := by decide +kernel
theorem d_X_load_34 : decode b_X_load 34 = .ok (.goto 4, 3) := by decide +kernel
theorem d_X_load_37 : decode b_X_load 37 = .ok (.iconst 0, 1) := by decide +kernel
theorem d_X_load_38 : decode b_X_load 38 = .ok (.iconst 1, 1) := by decide +kernel
theorem d_X_load_39 : decode b_X_load 39 = .ok (.invokevirtual 134, 3) := by decide +kernel
theorem d_X_load_42 : decode b_X_load 42 = .ok (.ifCond .ne 5, 3) := by decide +kernel
theorem d_X_load_45 : decode b_X_load 45 = .ok (.iconst 0, 1) := by decide +kernel
theorem d_X_load_46 : decode b_X_load 46 = .ok (.ireturn, 1) := by decide +kernel
theorem d_X_load_47 : decode b_X_load 47 = .ok (.iconst 0, 1) := by decide +kernel
theorem d_X_load_48 : decode b_X_load 48 = .ok (.istore 5, 2) := by decide +kernel
theorem d_X_load_50 : decode b_X_load 50 = .ok (.iload 5, 2) := by decide +kernel
theorem d_X_load_52 : decode b_X_load 52 = .ok (.iload 4, 2) := by decide +kernel
theorem d_X_load_54 : decode b_X_load 54 = .ok (.if_icmp .ge 35, 3) := by decide +kernel
theorem d_X_load_57 : decode b_X_load 57 = .ok (.aload_n 0, 1) := by decide +kernel
theorem d_X_load_58 : decode b_X_load 58 = .ok (.getfield 7, 3) := by decide +kernel
theorem d_X_load_61 : decode b_X_load 61 = .ok (.iload_n 1, 1) := by decide +kernel
theorem d_X_load_62 : decode b_X_load 62 = .ok (.iload 5, 2) := by decide +kernel
theorem d_X_load_64 : decode b_X_load 64 = .ok (.iadd, 1) := by decide +kernel
theorem d_X_load_65 : decode b_X_load 65 = .ok (.lload_n 2, 1) := by decide +kernel
theorem d_X_load_66 : decode b_X_load 66 = .ok (.bipush 8, 2) := by decide +kernel
theorem d_X_load_68 : decode b_X_load 68 = .ok (.iload 4, 2) := by decide +kernel
theorem d_X_load_70 : decode b_X_load 70 = .ok (.iconst 1, 1) := by decide +kernel
theorem d_X_load_71 : decode b_X_load 71 = .ok (.isub, 1) := by decide +kernel
theorem d_X_load_72 : decode b_X_load 72 = .ok (.iload 5, 2) := by decide +kernel
theorem d_X_load_74 : decode b_X_load 74 = .ok (.isub, 1) := by decide +kernel
theorem d_X_load_75 : decode b_X_load 75 = .ok (.imul, 1) := by decide +kernel
theorem d_X_load_76 : decode b_X_load 76 = .ok (.lshr, 1) := by decide +kernel
theorem d_X_load_77 : decode b_X_load 77 = .ok (.l2i, 1) := by decide +kernel
theorem d_X_load_78 : decode b_X_load 78 = .ok (.sipush 255, 3) := by decide +kernel
theorem d_X_load_81 : decode b_X_load 81 = .ok (.iand, 1) := by decide +kernel
theorem d_X_load_82 : decode b_X_load 82 = .ok (.iastore, 1) := by decide +kernel
theorem d_X_load_83 : decode b_X_load 83 = .ok (.iinc 5 1, 3) := by decide +kernel
theorem d_X_load_86 : decode b_X_load 86 = .ok (.goto (-36), 3) := by decide +kernel
theorem d_X_load_89 : decode b_X_load 89 = .ok (.iload_n 1, 1) := by decide +kernel
theorem d_X_load_90 : decode b_X_load 90 = .ok (.iload 4, 2) := by decide +kernel
theorem d_X_load_92 : decode b_X_load 92 = .ok (.iadd, 1) := by decide +kernel
theorem d_X_load_93 : decode b_X_load 93 = .ok (.ireturn, 1) := by decide +kernel
theorem d_X_insert_0 : decode b_X_insert 0 = .ok (.aload_n 0, 1) := by decide +kernel
theorem d_X_insert_1 : decode b_X_insert 1 = .ok (.iload_n 1, 1) := by decide +kernel
theorem d_X_insert_2 : decode b_X_insert 2 = .ok (.iconst 0, 1) := by decide +kernel
theorem d_X_insert_3 : decode b_X_insert 3 = .ok (.bipush 7, 2) := by decide +kernel
theorem d_X_insert_5 : decode b_X_insert 5 = .ok (.invokestatic 130, 3) := by decide +kernel
theorem d_X_insert_8 : decode b_X_insert 8 = .ok (.ifCond .eq 37, 3) := by decide +kernel
theorem d_X_insert_11 : decode b_X_insert 11 = .ok (.iload_n 2, 1) := by decide +kernel
theorem d_X_insert_12 : decode b_X_insert 12 = .ok (.iconst 0, 1) := by decide +kernel
theorem d_X_insert_13 : decode b_X_insert 13 = .ok (.bipush 31, 2) := by decide +kernel
theorem d_X_insert_15 : decode b_X_insert 15 = .ok (.invokestatic 130, 3) := by decide +kernel
theorem d_X_insert_18 : decode b_X_insert 18 = .ok (.ifCond .eq 27, 3) := by decide +kernel
theorem d_X_insert_21 : decode b_X_insert 21 = .ok (.iload 5, 2) := by decide +kernel
theorem d_X_insert_23 : decode b_X_insert 23 = .ok (.iconst 1, 1) := by decide +kernel
theorem d_X_insert_24 : decode b_X_insert 24 = .ok (.bipush 8, 2) := by decide +kernel
theorem d_X_insert_26 : decode b_X_insert 26 = .ok (.invokestatic 130, 3) := by decide +kernel
theorem d_X_insert_29 : decode b_X_insert 29 = .ok (.ifCond .eq 16, 3) := by decide +kernel
theorem d_X_insert_32 : decode b_X_insert 32 = .ok (.iload_n 2, 1) := by decide +kernel
theorem d_X_insert_33 : decode b_X_insert 33 = .ok (.iload 5, 2) := by decide +kernel
theorem d_X_insert_35 : decode b_X_insert 35 = .ok (.iadd, 1) := by decide +kernel
theorem d_X_insert_36 : decode b_X_insert 36 = .ok (.bipush 32, 2) := by decide +kernel
theorem d_X_insert_38 : decode b_X_insert 38 = .ok (.if_icmp .gt 7, 3) := by decide +kernel
theorem d_X_insert_41 : decode b_X_insert 41 = .ok (.iconst 1, 1) := by decide +kernel
theorem d_X_insert_42 : decode b_X_insert 42 = .ok (.goto 4, 3) := by decide +kernel
theorem d_X_insert_45 : decode b_X_insert 45 = .ok (.iconst 0, 1) := by decide +kernel
theorem d_X_insert_46 : decode b_X_insert 46 = .ok (.iconst 1, 1) := by decide +kernel
theorem d_X_insert_47 : decode b_X_insert 47 = .ok (.invokevirtual 134, 3) := by decide +kernel
theorem d_X_insert_50 : decode b_X_insert 50 = .ok (.ifCond .ne 5, 3) := by decide +kernel
theorem d_X_insert_53 : decode b_X_insert 53 = .ok (.iconst 0, 1) := by decide +kernel
theorem d_X_insert_54 : decode b_X_insert 54 = .ok (.ireturn, 1) := by decide +kernel
theorem d_X_insert_55 : decode b_X_insert 55 = .ok (.iconst 0, 1) := by decide +kernel
theorem d_X_insert_56 : decode b_X_insert 56 = .ok (.istore 6, 2) := by decide +kernel
theorem d_X_insert_58 : decode b_X_insert 58 = .ok (.iload 6, 2) := by decide +kernel
theorem d_X_insert_60 : decode b_X_insert 60 = .ok (.iload 5, 2) := by decide +kernel
theorem d_X_insert_62 : decode b_X_insert 62 = .ok (.if_icmp .ge 40, 3) := by decide +kernel
theorem d_X_insert_65 : decode b_X_insert 65 = .ok (.aload_n 0, 1) := by decide +kernel
theorem d_X_insert_66 : decode b_X_insert 66 = .ok (.getfield 13, 3) := by decide +kernel
theorem d_X_insert_69 : decode b_X_insert 69 = .ok (.bipush 32, 2) := by decide +kernel
theorem d_X_insert_71 : decode b_X_insert 71 = .ok (.iload_n 1, 1) := by decide +kernel
theorem d_X_insert_72 : decode b_X_insert 72 = .ok (.imul, 1) := by decide +kernel
theorem d_X_insert_73 : decode b_X_insert 73 = .ok (.iload_n 2, 1) := by decide +kernel
theorem d_X_insert_74 : decode b_X_insert 74 = .ok (.iadd, 1) := by decide +kernel
theorem d_X_insert_75 : decode b_X_insert 75 = .ok (.iload 6, 2) := by decide +kernel
theorem d_X_insert_77 : decode b_X_insert 77 = .ok (.iadd, 1) := by decide +kernel
theorem d_X_insert_78 : decode b_X_insert 78 = .ok (.lload_n 3, 1) := by decide +kernel
theorem d_X_insert_79 : decode b_X_insert 79 = .ok (.bipush 8, 2) := by decide +kernel
theorem d_X_insert_81 : decode b_X_insert 81 = .ok (.iload 5, 2) := by decide +kernel
theorem d_X_insert_83 : decode b_X_insert 83 = .ok (.iconst 1, 1) := by decide +kernel
theorem d_X_insert_84 : decode b_X_insert 84 = .ok (.isub, 1) := by decide +kernel
theorem d_X_insert_85 : decode b_X_insert 85 = .ok (.iload 6, 2) := by decide +kernel
theorem d_X_insert_87 : decode b_X_insert 87 = .ok (.isub, 1) := by decide +kernel
theorem d_X_insert_88 : decode b_X_insert 88 = .ok (.imul, 1) := by decide +kernel
theorem d_X_insert_89 : decode b_X_insert 89 = .ok (.lshr, 1) := by decide +kernel
theorem d_X_insert_90 : decode b_X_insert 90 = .ok (.l2i, 1) := by decide +kernel
theorem d_X_insert_91 : decode b_X_insert 91 = .ok (.sipush 255, 3) := by decide +kernel
theorem d_X_insert_94 : decode b_X_insert 94 = .ok (.iand, 1) := by decide +kernel
theorem d_X_insert_95 : decode b_X_insert 95 = .ok (.iastore, 1) := by decide +kernel
theorem d_X_insert_96 : decode b_X_insert 96 = .ok (.iinc 6 1, 3) := by decide +kernel
theorem d_X_insert_99 : decode b_X_insert 99 = .ok (.goto (-41), 3) := by decide +kernel
theorem d_X_insert_102 : decode b_X_insert 102 = .ok (.iload_n 2, 1) := by decide +kernel
theorem d_X_insert_103 : decode b_X_insert 103 = .ok (.iload 5, 2) := by decide +kernel
theorem d_X_insert_105 : decode b_X_insert 105 = .ok (.iadd, 1) := by decide +kernel
theorem d_X_insert_106 : decode b_X_insert 106 = .ok (.ireturn, 1) := by decide +kernel
theorem d_S_load_0 : decode b_S_load 0 = .ok (.iload_n 1, 1) := by decide +kernel
theorem d_S_load_1 : decode b_S_load 1 = .ok (.iload 4, 2) := by decide +kernel
theorem d_S_load_3 : decode b_S_load 3 = .ok (.sipush 1008, 3) := by decide +kernel
theorem d_S_load_6 : decode b_S_load 6 = .ok (.invokestatic 28, 3) := by decide +kernel
theorem d_S_load_9 : decode b_S_load 9 = .ok (.invokestatic 32, 3) := by decide +kernel
theorem d_S_load_12 : decode b_S_load 12 = .ok (.aload_n 0, 1) := by decide +kernel
theorem d_S_load_13 : decode b_S_load 13 = .ok (.getfield 20, 3) := by decide +kernel
theorem d_S_load_16 : decode b_S_load 16 = .ok (.getfield 36, 3) := by decide +kernel
theorem d_S_load_19 : decode b_S_load 19 = .ok (.iload_n 1, 1) := by decide +kernel
theorem d_S_load_20 : decode b_S_load 20 = .ok (.lload_n 2, 1) := by decide +kernel
theorem d_S_load_21 : decode b_S_load 21 = .ok (.iload 4, 2) := by decide +kernel
theorem d_S_load_23 : decode b_S_load 23 = .ok (.invokestatic 42, 3) := by decide +kernel
theorem d_S_load_26 : decode b_S_load 26 = .ok (.iload_n 1, 1) := by decide +kernel
theorem d_S_load_27 : decode b_S_load 27 = .ok (.iload 4, 2) := by decide +kernel
theorem d_S_load_29 : decode b_S_load 29 = .ok (.iadd, 1) := by decide +kernel
theorem d_S_load_30 : decode b_S_load 30 = .ok (.ireturn, 1) := by decide +kernel
theorem d_S_insert_0 : decode b_S_insert 0 = .ok (.iload_n 1, 1) := by decide +kernel
theorem d_S_insert_1 : decode b_S_insert 1 = .ok (.bipush 7, 2) := by decide +kernel
theorem d_S_insert_3 : decode b_S_insert 3 = .ok (.invokestatic 46, 3) := by decide +kernel
theorem d_S_insert_6 : decode b_S_insert 6 = .ok (.ifCond .eq 18, 3) := by decide +kernel
theorem d_S_insert_9 : decode b_S_insert 9 = .ok (.iload_n 2, 1) := by decide +kernel
theorem d_S_insert_10 : decode b_S_insert 10 = .ok (.iload 5, 2) := by decide +kernel
theorem d_S_insert_12 : decode b_S_insert 12 = .ok (.bipush 32, 2) := by decide +kernel
theorem d_S_insert_14 : decode b_S_insert 14 = .ok (.invokestatic 28, 3) := by decide +kernel
theorem d_S_insert_17 : decode b_S_insert 17 = .ok (.ifCond .eq 7, 3) := by decide +kernel
theorem d_S_insert_20 : decode b_S_insert 20 = .ok (.iconst 1, 1) := by decide +kernel
theorem d_S_insert_21 : decode b_S_insert 21 = .ok (.goto 4, 3) := by decide +kernel
theorem d_S_insert_24 : decode b_S_insert 24 = .ok (.iconst 0, 1) := by decide +kernel
theorem d_S_insert_25 : decode b_S_insert 25 = .ok (.invokestatic 32, 3) := by decide +kernel
theorem d_S_insert_28 : decode b_S_insert 28 = .ok (.aload_n 0, 1) := by decide +kernel
theorem d_S_insert_29 : decode b_S_insert 29 = .ok (.getfield 20, 3) := by decide +kernel
theorem d_S_insert_32 : decode b_S_insert 32 = .ok (.getfield 50, 3) := by decide +kernel
theorem d_S_insert_35 : decode b_S_insert 35 = .ok (.iload_n 1, 1) := by decide +kernel
theorem d_S_insert_36 : decode b_S_insert 36 = .ok (.bipush 32, 2) := by decide +kernel
theorem d_S_insert_38 : decode b_S_insert 38 = .ok (.imul, 1) := by decide +kernel
theorem d_S_insert_39 : decode b_S_insert 39 = .ok (.iload_n 2, 1) := by decide +kernel
theorem d_S_insert_40 : decode b_S_insert 40 = .ok (.iadd, 1) := by decide +kernel
theorem d_S_insert_41 : decode b_S_insert 41 = .ok (.lload_n 3, 1) := by decide +kernel
theorem d_S_insert_42 : decode b_S_insert 42 = .ok (.iload 5, 2) := by decide +kernel
theorem d_S_insert_44 : decode b_S_insert 44 = .ok (.invokestatic 42, 3) := by decide +kernel
theorem d_S_insert_47 : decode b_S_insert 47 = .ok (.iload_n 2, 1) := by decide +kernel
theorem d_S_insert_48 : decode b_S_insert 48 = .ok (.iload 5, 2) := by decide +kernel
theorem d_S_insert_50 : decode b_S_insert 50 = .ok (.iadd, 1) := by decide +kernel
theorem d_S_insert_51 : decode b_S_insert 51 = .ok (.ireturn, 1) := by decide +kernel
theorem nat_1_8 {x : Int32} (h1 : ¬ x < (1 : Int32)) (h2 : ¬ (8 : Int32) < x) : ∃ n : Nat, 1 ≤ n ∧ n ≤ 8 ∧ x = nI n := by
  have h0 : ¬ x < 0 := fun q => h1 (Int32.lt_of_lt_of_le q (by decide))
  obtain ⟨j, hj, e⟩ := nI_of h0
  refine ⟨j, ?_, ?_, e⟩
  · rcases Nat.lt_or_ge j 1 with q | q
    · exact absurd (by rw [e]; exact nI_lt (b := 1) q (by decide)) h1
    · exact q
  · rcases Nat.lt_or_ge 8 j with q | q
    · exact absurd (by rw [e]; exact nI_lt (a := 8) q hj) h2
    · exact q
/-- a span of n places from a on, below size -/
theorem span_in {a n size : Nat} (h : a + n ≤ size) (hs : size ≤ 1024) : ∀ j : Nat, j < (nI n).toNatClampNeg → vp_in (nI a + nI j) size := by
  intro j hj
  rw [nI_clamp (by omega)] at hj
  rw [nI_add]
  exact vp_in_nI (by omega) (by omega)
theorem nle_nat {a n : Nat} {c : Nat} (ha : a < 2 ^ 20) (hn : n < 2 ^ 20) (hc : c < 2 ^ 20) (h : ¬ nI c < nI a + nI n) : a + n ≤ c := by
  rw [nI_add] at h
  rcases Nat.lt_or_ge c (a + n) with q | q
  · exact absurd (nI_lt q (by omega)) h
  · exact q
theorem xl_ok {a n : Int32} (h1 : ¬ f_X_in a (0 : Int32) (1007 : Int32) = 0) (h2 : ¬ f_X_in n (1 : Int32) (8 : Int32) = 0) (h3 : ¬ (1008 : Int32) < a + n) : n = nI n.toNatClampNeg ∧ n.toNatClampNeg < 2 ^ 30 ∧ ∀ j : Nat, j < n.toNatClampNeg → vp_in (a + nI j) 1024 := by
  obtain ⟨i, hi, e1⟩ := xin_nat (n := 1007) (by decide) h1
  obtain ⟨m, hm1, hm8, e2⟩ := nat_1_8 (xin_nz h2).1 (xin_nz h2).2
  rw [e1, e2] at h3
  have h4 := nle_nat (c := 1008) (by omega) (by omega) (by decide) h3
  subst e1; subst e2
  refine ⟨by rw [nI_clamp (by omega)], by rw [nI_clamp (by omega)]; omega, span_in (by omega) (by decide)⟩
theorem xi_ok {s a n : Int32} (h0 : ¬ f_X_in s (0 : Int32) (7 : Int32) = 0) (h1 : ¬ f_X_in a (0 : Int32) (31 : Int32) = 0) (h2 : ¬ f_X_in n (1 : Int32) (8 : Int32) = 0) (h3 : ¬ (32 : Int32) < a + n) : n = nI n.toNatClampNeg ∧ n.toNatClampNeg < 2 ^ 30 ∧ ∀ j : Nat, j < n.toNatClampNeg → vp_in ((32 : Int32) * s + a + nI j) 256 := by
  obtain ⟨q, hq, e0⟩ := xin_nat (n := 7) (by decide) h0
  obtain ⟨i, hi, e1⟩ := xin_nat (n := 31) (by decide) h1
  obtain ⟨m, hm1, hm8, e2⟩ := nat_1_8 (xin_nz h2).1 (xin_nz h2).2
  rw [e1, e2] at h3
  have h4 := nle_nat (c := 32) (by omega) (by omega) (by decide) h3
  subst e0; subst e1; subst e2
  refine ⟨by rw [nI_clamp (by omega)], by rw [nI_clamp (by omega)]; omega, ?_⟩
  rw [show (32 : Int32) = nI 32 from rfl, pk_mul, nI_add]
  exact span_in (by omega) (by decide)
theorem span_nz {a n e : Int32} (h : ¬ f_S_isSpan a n e = 0) : ¬ f_S_isWithin a (e - 1) = 0 ∧ ¬ n < (1 : Int32) ∧ ¬ (8 : Int32) < n ∧ ¬ e < a + n := by
  unfold f_S_isSpan at h
  split at h
  · exact absurd rfl h
  · split at h
    · exact absurd rfl h
    · split at h
      · exact absurd rfl h
      · split at h
        · exact absurd rfl h
        · exact ⟨by assumption, by assumption, by assumption, by assumption⟩
theorem sl_ok {a n : Int32} (h : f_S_demand (f_S_isSpan a n (1008 : Int32)) = 0) : n = nI n.toNatClampNeg ∧ n.toNatClampNeg < 2 ^ 30 ∧ ∀ j : Nat, j < n.toNatClampNeg → vp_in (a + nI j) 1024 := by
  obtain ⟨h1, h2, h3, h5⟩ := span_nz (dem_nz h)
  obtain ⟨i, hi, e1⟩ := wi_nat (n := 1007) (by decide) h1
  obtain ⟨m, hm1, hm8, e2⟩ := nat_1_8 h2 h3
  rw [e1, e2] at h5
  have h4 := nle_nat (c := 1008) (by omega) (by omega) (by decide) h5
  subst e1; subst e2
  refine ⟨by rw [nI_clamp (by omega)], by rw [nI_clamp (by omega)]; omega, span_in (by omega) (by decide)⟩
theorem si_ok {s a n : Int32} (h0 : ¬ f_S_isWithin s (7 : Int32) = 0) (h : ¬ f_S_isSpan a n (32 : Int32) = 0) : n = nI n.toNatClampNeg ∧ n.toNatClampNeg < 2 ^ 30 ∧ ∀ j : Nat, j < n.toNatClampNeg → vp_in (s * (32 : Int32) + a + nI j) 256 := by
  obtain ⟨h1, h2, h3, h5⟩ := span_nz h
  obtain ⟨q, hq, e0⟩ := wi_nat (n := 7) (by decide) h0
  obtain ⟨i, hi, e1⟩ := wi_nat (n := 31) (by decide) h1
  obtain ⟨m, hm1, hm8, e2⟩ := nat_1_8 h2 h3
  rw [e1, e2] at h5
  have h4 := nle_nat (c := 32) (by omega) (by omega) (by decide) h5
  subst e0; subst e1; subst e2
  refine ⟨by rw [nI_clamp (by omega)], by rw [nI_clamp (by omega)]; omega, ?_⟩
  rw [show (32 : Int32) = nI 32 from rfl, pk_mul, nI_add]
  exact span_in (by omega) (by decide)
