abbrev b_X_run : ByteArray := prog_5_method_35_code
def y_X_run : MethodName := ⟨R_X, "run", "(I)I"⟩
abbrev b_S_run : ByteArray := prog_1_method_7_code
def y_S_run : MethodName := ⟨R_S, "run", "(I)I"⟩
/-! words of the tables by their places -/
set_option maxRecDepth 20000 in
theorem mw_272 : (Jvm.Cond.instanceMethod ({ cls := "SixtyFive$Processor", name := "step", desc := "()I" } : Jvm.MethodName)) ∈ BIG := big_of (List.mem_append_right _ (List.mem_of_getElem? (i := 272) rfl)) rfl
set_option maxRecDepth 20000 in
theorem mw_273 : (Jvm.Cond.code ({ cls := "SixtyFive$Processor", name := "step", desc := "()I" } : Jvm.MethodName) prog_3_method_6_code (4 : Nat) (Option.some Jvm.ClassFile.FieldType.int)) ∈ BIG := big_of (List.mem_append_right _ (List.mem_of_getElem? (i := 273) rfl)) rfl
set_option maxRecDepth 20000 in
theorem mw_382 : (Jvm.Cond.methodLink "SixtyFive" (79 : Nat) ({ cls := "SixtyFive", name := "raise", desc := "(I)V" } : Jvm.MethodName)) ∈ BIG := big_of (List.mem_append_right _ (List.mem_of_getElem? (i := 382) rfl)) rfl
set_option maxRecDepth 20000 in
theorem mw_383 : (Jvm.Cond.static ({ cls := "SixtyFive", name := "raise", desc := "(I)V" } : Jvm.MethodName)) ∈ BIG := big_of (List.mem_append_right _ (List.mem_of_getElem? (i := 383) rfl)) rfl
set_option maxRecDepth 20000 in
theorem mw_384 : (Jvm.Cond.code ({ cls := "SixtyFive", name := "raise", desc := "(I)V" } : Jvm.MethodName) prog_1_method_15_code (1 : Nat) (Option.none : Option Jvm.ClassFile.FieldType)) ∈ BIG := big_of (List.mem_append_right _ (List.mem_of_getElem? (i := 384) rfl)) rfl
set_option maxRecDepth 20000 in
theorem mw_544 : (Jvm.Cond.methodLink "SixtyFiveModel" (138 : Nat) ({ cls := "SixtyFiveModel", name := "instruction", desc := "()V" } : Jvm.MethodName)) ∈ BIG := big_of (List.mem_append_right _ (List.mem_of_getElem? (i := 544) rfl)) rfl
set_option maxRecDepth 20000 in
theorem mw_546 : (Jvm.Cond.instanceMethod ({ cls := "SixtyFiveModel", name := "instruction", desc := "()V" } : Jvm.MethodName)) ∈ BIG := big_of (List.mem_append_right _ (List.mem_of_getElem? (i := 546) rfl)) rfl
set_option maxRecDepth 20000 in
theorem mw_547 : (Jvm.Cond.code ({ cls := "SixtyFiveModel", name := "instruction", desc := "()V" } : Jvm.MethodName) prog_5_method_29_code (5 : Nat) (Option.none : Option Jvm.ClassFile.FieldType)) ∈ BIG := big_of (List.mem_append_right _ (List.mem_of_getElem? (i := 547) rfl)) rfl
set_option maxRecDepth 20000 in
theorem ew_64 : (Jvm.Cond.fieldLinkNest "SixtyFive" (83 : Nat) "SixtyFive$Processor" "pc" "I" "SixtyFive") ∈ enW := List.mem_filter.mpr ⟨List.mem_append_right _ (List.mem_of_getElem? (i := 64) rfl), rfl⟩
set_option maxRecDepth 20000 in
theorem ew_270 : (Jvm.Cond.methodLinkNest "SixtyFive" (75 : Nat) ({ cls := "SixtyFive$Processor", name := "step", desc := "()I" } : Jvm.MethodName) "SixtyFive") ∈ enW := List.mem_filter.mpr ⟨List.mem_append_right _ (List.mem_of_getElem? (i := 270) rfl), rfl⟩
set_option maxRecDepth 20000 in
theorem sw_P_step : Cond.selects "SixtyFive$Processor" ({ cls := "SixtyFive$Processor", name := "step", desc := "()I" } : Jvm.MethodName) ({ cls := "SixtyFive$Processor", name := "step", desc := "()I" } : Jvm.MethodName) ∈ BIG := big_of (List.mem_append_left _ (List.mem_map.mpr ⟨(({ cls := "SixtyFive$Processor", name := "step", desc := "()I" } : Jvm.MethodName), 13), List.mem_of_getElem? (i := 5) rfl, rfl⟩)) rfl
set_option maxRecDepth 20000 in
theorem sw_X_instruction : Cond.selects "SixtyFiveModel" ({ cls := "SixtyFiveModel", name := "instruction", desc := "()V" } : Jvm.MethodName) ({ cls := "SixtyFiveModel", name := "instruction", desc := "()V" } : Jvm.MethodName) ∈ BIG := big_of (List.mem_append_left _ (List.mem_map.mpr ⟨(({ cls := "SixtyFiveModel", name := "instruction", desc := "()V" } : Jvm.MethodName), 13), List.mem_of_getElem? (i := 32) rfl, rfl⟩)) rfl
abbrev w_X_run : List Cond := Cond.code y_X_run b_X_run 3 (some .int) :: BIG
abbrev w_S_run : List Cond := Cond.code y_S_run b_S_run 4 (some .int) :: BIG
theorem d_X_run_0 : decode b_X_run 0 = .ok (.aload_n 0, 1) := by decide +kernel
theorem d_X_run_1 : decode b_X_run 1 = .ok (.iload_n 1, 1) := by decide +kernel
theorem d_X_run_2 : decode b_X_run 2 = .ok (.iconst 1, 1) := by decide +kernel
theorem d_X_run_3 : decode b_X_run 3 = .ok (.bipush 20, 2) := by decide +kernel
theorem d_X_run_5 : decode b_X_run 5 = .ok (.invokestatic 130, 3) := by decide +kernel
theorem d_X_run_8 : decode b_X_run 8 = .ok (.iconst 1, 1) := by decide +kernel
theorem d_X_run_9 : decode b_X_run 9 = .ok (.invokevirtual 134, 3) := by decide +kernel
theorem d_X_run_12 : decode b_X_run 12 = .ok (.ifCond .ne 5, 3) := by decide +kernel
theorem d_X_run_15 : decode b_X_run 15 = .ok (.iconst 0, 1) := by decide +kernel
theorem d_X_run_16 : decode b_X_run 16 = .ok (.ireturn, 1) := by decide +kernel
theorem d_X_run_17 : decode b_X_run 17 = .ok (.iconst 0, 1) := by decide +kernel
theorem d_X_run_18 : decode b_X_run 18 = .ok (.istore_n 2, 1) := by decide +kernel
theorem d_X_run_19 : decode b_X_run 19 = .ok (.iload_n 2, 1) := by decide +kernel
theorem d_X_run_20 : decode b_X_run 20 = .ok (.iload_n 1, 1) := by decide +kernel
theorem d_X_run_21 : decode b_X_run 21 = .ok (.if_icmp .ge 32, 3) := by decide +kernel
theorem d_X_run_24 : decode b_X_run 24 = .ok (.aload_n 0, 1) := by decide +kernel
theorem d_X_run_25 : decode b_X_run 25 = .ok (.invokevirtual 138, 3) := by decide +kernel
theorem d_X_run_28 : decode b_X_run 28 = .ok (.aload_n 0, 1) := by decide +kernel
theorem d_X_run_29 : decode b_X_run 29 = .ok (.getfield 32, 3) := by decide +kernel
theorem d_X_run_32 : decode b_X_run 32 = .ok (.ifCond .eq 15, 3) := by decide +kernel
theorem d_X_run_35 : decode b_X_run 35 = .ok (.aload_n 0, 1) := by decide +kernel
theorem d_X_run_36 : decode b_X_run 36 = .ok (.aload_n 0, 1) := by decide +kernel
theorem d_X_run_37 : decode b_X_run 37 = .ok (.getfield 32, 3) := by decide +kernel
theorem d_X_run_40 : decode b_X_run 40 = .ok (.iconst 1, 1) := by decide +kernel
theorem d_X_run_41 : decode b_X_run 41 = .ok (.iadd, 1) := by decide +kernel
theorem d_X_run_42 : decode b_X_run 42 = .ok (.putfield 22, 3) := by decide +kernel
theorem d_X_run_45 : decode b_X_run 45 = .ok (.iconst 0, 1) := by decide +kernel
theorem d_X_run_46 : decode b_X_run 46 = .ok (.ireturn, 1) := by decide +kernel
theorem d_X_run_47 : decode b_X_run 47 = .ok (.iinc 2 1, 3) := by decide +kernel
theorem d_X_run_50 : decode b_X_run 50 = .ok (.goto (-31), 3) := by decide +kernel
theorem d_X_run_53 : decode b_X_run 53 = .ok (.aload_n 0, 1) := by decide +kernel
theorem d_X_run_54 : decode b_X_run 54 = .ok (.getfield 16, 3) := by decide +kernel
theorem d_X_run_57 : decode b_X_run 57 = .ok (.iconst 4, 1) := by decide +kernel
theorem d_X_run_58 : decode b_X_run 58 = .ok (.iaload, 1) := by decide +kernel
theorem d_X_run_59 : decode b_X_run 59 = .ok (.ireturn, 1) := by decide +kernel
theorem d_S_run_0 : decode b_S_run 0 = .ok (.iload_n 1, 1) := by decide +kernel
theorem d_S_run_1 : decode b_S_run 1 = .ok (.iconst 1, 1) := by decide +kernel
theorem d_S_run_2 : decode b_S_run 2 = .ok (.if_icmp .lt 13, 3) := by decide +kernel
theorem d_S_run_5 : decode b_S_run 5 = .ok (.iload_n 1, 1) := by decide +kernel
theorem d_S_run_6 : decode b_S_run 6 = .ok (.bipush 20, 2) := by decide +kernel
theorem d_S_run_8 : decode b_S_run 8 = .ok (.if_icmp .gt 7, 3) := by decide +kernel
theorem d_S_run_11 : decode b_S_run 11 = .ok (.iconst 1, 1) := by decide +kernel
theorem d_S_run_12 : decode b_S_run 12 = .ok (.goto 4, 3) := by decide +kernel
theorem d_S_run_15 : decode b_S_run 15 = .ok (.iconst 0, 1) := by decide +kernel
theorem d_S_run_16 : decode b_S_run 16 = .ok (.invokestatic 32, 3) := by decide +kernel
theorem d_S_run_19 : decode b_S_run 19 = .ok (.iconst 0, 1) := by decide +kernel
theorem d_S_run_20 : decode b_S_run 20 = .ok (.istore_n 2, 1) := by decide +kernel
theorem d_S_run_21 : decode b_S_run 21 = .ok (.iload_n 2, 1) := by decide +kernel
theorem d_S_run_22 : decode b_S_run 22 = .ok (.iload_n 1, 1) := by decide +kernel
theorem d_S_run_23 : decode b_S_run 23 = .ok (.if_icmp .ge 40, 3) := by decide +kernel
theorem d_S_run_26 : decode b_S_run 26 = .ok (.aload_n 0, 1) := by decide +kernel
theorem d_S_run_27 : decode b_S_run 27 = .ok (.getfield 10, 3) := by decide +kernel
theorem d_S_run_30 : decode b_S_run 30 = .ok (.invokevirtual 75, 3) := by decide +kernel
theorem d_S_run_33 : decode b_S_run 33 = .ok (.istore_n 3, 1) := by decide +kernel
theorem d_S_run_34 : decode b_S_run 34 = .ok (.iload_n 3, 1) := by decide +kernel
theorem d_S_run_35 : decode b_S_run 35 = .ok (.ifCond .eq 12, 3) := by decide +kernel
theorem d_S_run_38 : decode b_S_run 38 = .ok (.aload_n 0, 1) := by decide +kernel
theorem d_S_run_39 : decode b_S_run 39 = .ok (.iload_n 3, 1) := by decide +kernel
theorem d_S_run_40 : decode b_S_run 40 = .ok (.putfield 25, 3) := by decide +kernel
theorem d_S_run_43 : decode b_S_run 43 = .ok (.iload_n 3, 1) := by decide +kernel
theorem d_S_run_44 : decode b_S_run 44 = .ok (.invokestatic 79, 3) := by decide +kernel
theorem d_S_run_47 : decode b_S_run 47 = .ok (.aload_n 0, 1) := by decide +kernel
theorem d_S_run_48 : decode b_S_run 48 = .ok (.dup, 1) := by decide +kernel
theorem d_S_run_49 : decode b_S_run 49 = .ok (.getfield 21, 3) := by decide +kernel
theorem d_S_run_52 : decode b_S_run 52 = .ok (.iconst 1, 1) := by decide +kernel
theorem d_S_run_53 : decode b_S_run 53 = .ok (.iadd, 1) := by decide +kernel
theorem d_S_run_54 : decode b_S_run 54 = .ok (.putfield 21, 3) := by decide +kernel
theorem d_S_run_57 : decode b_S_run 57 = .ok (.iinc 2 1, 3) := by decide +kernel
theorem d_S_run_60 : decode b_S_run 60 = .ok (.goto (-39), 3) := by decide +kernel
theorem d_S_run_63 : decode b_S_run 63 = .ok (.aload_n 0, 1) := by decide +kernel
theorem d_S_run_64 : decode b_S_run 64 = .ok (.getfield 10, 3) := by decide +kernel
theorem d_S_run_67 : decode b_S_run 67 = .ok (.getfield 83, 3) := by decide +kernel
theorem d_S_run_70 : decode b_S_run 70 = .ok (.ireturn, 1) := by decide +kernel
theorem at_S_110_0 : ∀ w ∈ ((nsAtoms R_S 110 "java/util/NoSuchElementException" "java/lang/RuntimeException" 13 prog_15_method_4_code ["java/lang/Exception"]).filter vx_no).filter goodWord, w ∈ lw_tbl := by decide +kernel
theorem at_S_110_1 : ∀ w ∈ ((nsAtoms R_S 110 "java/util/NoSuchElementException" "java/lang/RuntimeException" 13 prog_15_method_4_code ["java/lang/Exception"]).filter vx_no).filter goodWord, w ∈ BIG := fun w h => big_of (at_S_110_0 w h) (List.mem_filter.mp h).2
theorem at_S_110_4 : ∀ w ∈ ((nsAtoms R_S 110 "java/util/NoSuchElementException" "java/lang/RuntimeException" 13 prog_15_method_4_code ["java/lang/Exception"]).filter vx_no).filter (fun w => !goodWord w), w ∈ lw_tbl ∧ enOK w = true := by decide +kernel
theorem at_S_110_2 : ∀ w ∈ ((nsAtoms R_S 110 "java/util/NoSuchElementException" "java/lang/RuntimeException" 13 prog_15_method_4_code ["java/lang/Exception"]).filter vx_no).filter (fun w => !goodWord w), w ∈ enW := fun w h => List.mem_filter.mpr (at_S_110_4 w h)
theorem at_S_110_3 : ∀ w ∈ Cond.classLink R_S 106 "java/util/NoSuchElementException" :: Cond.initialized "java/util/NoSuchElementException" :: (nsAtoms R_S 110 "java/util/NoSuchElementException" "java/lang/RuntimeException" 13 prog_15_method_4_code ["java/lang/Exception"]).filter vx_no, vx_ot w = true := by decide +kernel
theorem nat_1_20 {x : Int32} (h1 : ¬ x < (1 : Int32)) (h2 : ¬ (20 : Int32) < x) : x = nI x.toNatClampNeg ∧ x.toNatClampNeg < 2 ^ 30 := by
  have h0 : ¬ x < 0 := fun q => h1 (Int32.lt_of_lt_of_le q (by decide))
  obtain ⟨j, hj, e⟩ := nI_of h0
  have : j ≤ 20 := by
    rcases Nat.lt_or_ge 20 j with q | q
    · exact absurd (by rw [e]; exact nI_lt (a := 20) q hj) h2
    · exact q
  subst e
  rw [nI_clamp hj]
  exact ⟨rfl, by omega⟩
theorem run_nat {x : Int32} (h1 : ¬ x < (1 : Int32)) (h2 : ¬ (20 : Int32) < x) : x = nI x.toNatClampNeg ∧ x.toNatClampNeg < 2 ^ 30 := nat_1_20 h1 h2
theorem xrun_nat {x : Int32} (h : ¬ f_X_in x (1 : Int32) (20 : Int32) = 0) : x = nI x.toNatClampNeg ∧ x.toNatClampNeg < 2 ^ 30 := nat_1_20 (xin_nz h).1 (xin_nz h).2
