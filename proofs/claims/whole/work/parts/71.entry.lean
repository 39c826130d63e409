/-! WHAT THE STATEMENT GIVES AT THE START -/
theorem fl_0 : ∀ j : Nat, j < 64 → Cond.eq (.elem (.static "SixtyFive" "MODES_OF_G0" "[I") (.int (Int32.ofNat j))) (.int (T_G0 j)) ∈ flatC (Jvm.Cond.and given_1 narrow_1) := by decide +kernel
theorem fl_2 : ∀ j : Nat, j < 64 → Cond.eq (.elem (.static "SixtyFive" "MODES_OF_G2" "[I") (.int (Int32.ofNat j))) (.int (T_G2 j)) ∈ flatC (Jvm.Cond.and given_1 narrow_1) := by decide +kernel
theorem fl_nc : ∀ q ∈ enNc, Cond.not (.castable q.1 q.2) ∈ flatC (Jvm.Cond.and given_1 narrow_1) := by decide +kernel
theorem fl_ex : ∀ q ∈ enR, Cond.exactly (.string q.1 q.2.1) "java/lang/String" ∈ flatC (Jvm.Cond.and given_1 narrow_1) := by decide +kernel
theorem fl_sr : ∀ q ∈ enR, Cond.stringRef q.1 q.2.1 q.2.2 ∈ lw_tbl := by decide +kernel
theorem en_start {s : State} {b : Nat} (hts : ∀ w ∈ lw_tbl, w.before #[Value.ref b] s = true) (hgv : (Jvm.Cond.and given_1 narrow_1).before #[Value.ref b] s = true) : EN s.heap.size s := by
  have hs := flat_of_before _ hgv
  have hA : ∀ a : Nat, a < s.heap.size → ¬ (fun q : Nat => s.heap.size ≤ q) a := fun a h => Nat.not_le.mpr h
  refine ⟨Nat.le_refl _, fun w hw => va_Nw.of (enOK_tab (enW_ok w hw)) (hts w (List.mem_filter.mp hw).1), fun q hq => va_Nc.of (hs _ (fl_nc q hq)), fun q hq => ?_, ?_, ?_, ?_, ?_⟩
  · obtain ⟨a, c, cA, kA, q1, -⟩ := Cond.exactly_spec (args := #[Value.ref b]) (first := s) (o := none) (s := s) (idx := []) (hs _ (fl_ex q hq))
    exact ⟨a, vk_R.of (A := #[Value.ref b]) (hts _ (fl_sr q hq)) q1⟩
  · obtain ⟨t, ht, hT⟩ := va_Tof (f := fun j => .int (T_G0 j)) (N := 64) (A := fun q : Nat => s.heap.size ≤ q) (by decide) (hs (Cond.arrayOf (.static "SixtyFive" "MODES_OF_G0" "[I") .int) (by decide +kernel)) (va_eqt (hs (Cond.eq (.length (.static "SixtyFive" "MODES_OF_G0" "[I")) (.int (Int32.ofNat 64))) (by decide +kernel))) (fun j hj => va_eqt (hs _ (fl_0 j hj))) hA
    exact ⟨t, va_Zof (hts (.laysStatic "SixtyFive" "MODES_OF_G0" "[I") (by decide +kernel)) (hts (.initialized "SixtyFive") (by decide +kernel)) ht hA, hT⟩
  · obtain ⟨t, ht, hT⟩ := va_Tof (f := fun j => .int (T_G2 j)) (N := 64) (A := fun q : Nat => s.heap.size ≤ q) (by decide) (hs (Cond.arrayOf (.static "SixtyFive" "MODES_OF_G2" "[I") .int) (by decide +kernel)) (va_eqt (hs (Cond.eq (.length (.static "SixtyFive" "MODES_OF_G2" "[I")) (.int (Int32.ofNat 64))) (by decide +kernel))) (fun j hj => va_eqt (hs _ (fl_2 j hj))) hA
    exact ⟨t, va_Zof (hts (.laysStatic "SixtyFive" "MODES_OF_G2" "[I") (by decide +kernel)) (hts (.initialized "SixtyFive") (by decide +kernel)) ht hA, hT⟩
  · exact vx_Zqof (hts (.laysStatic Bundle.tN "UNASSIGNED_STACK" Bundle.steD) (by decide +kernel)) (hts (.initialized Bundle.tN) (by decide +kernel)) (hs (.isRef (.static Bundle.tN "UNASSIGNED_STACK" Bundle.steD)) (by decide +kernel)) hA
  · exact vx_Zqof (hts (.laysStatic Bundle.tN "SUPPRESSED_SENTINEL" Bundle.listD) (by decide +kernel)) (hts (.initialized Bundle.tN) (by decide +kernel)) (hs (.isRef (.static Bundle.tN "SUPPRESSED_SENTINEL" Bundle.listD)) (by decide +kernel)) hA
