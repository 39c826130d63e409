def f_X_pull  (ku m1 m3 : Nat → Int32) : Int32 × (Nat → Int32) × (Nat → Int32) :=
  ((f_X_read ((256 : Int32) + (((m3 3) + (1 : Int32)) &&& (255 : Int32))) ku m1).1, (f_X_read ((256 : Int32) + (((m3 3) + (1 : Int32)) &&& (255 : Int32))) ku m1).2, (upd m3 3 (((m3 3) + (1 : Int32)) &&& (255 : Int32))))
abbrev Q_X_pull (dC : Nat → ClassId) (dI : Nat → Nat → Nat) (x0 : Nat) (x1 : Nat) (x2 : Nat) (x3 : Nat) (x4 : Nat) (c1 : ClassId) (c3 : ClassId)  (ku m1 m3 : Nat → Int32) (A : Nat → Prop) : Array Value → State → Outcome → State → Prop := va_Qi (fun (r9 : Int32) (_ : Unit) => r9 = (f_X_pull ku m1 m3).1) (fun _ t => atW (dC, dI) classes A [c_X x0 x1 x2 x3 x4 ((f_X_pull ku m1 m3).2.1), c_A x1 c1 1024 m1, c_A x3 c3 9 ((f_X_pull ku m1 m3).2.2)] [(c1, .int), (c3, .int)] t) A
set_option maxHeartbeats 4000000 in
set_option maxRecDepth 100000 in
theorem c_X_pull (l : Launch) (dC : Nat → ClassId) (dI : Nat → Nat → Nat) (z0 : Nat) (x0 : Nat) (x1 : Nat) (x2 : Nat) (x3 : Nat) (x4 : Nat) (c1 : ClassId) (c3 : ClassId) (sz : Nat)  (ku m1 m3 : Nat → Int32)  : Met l y_X_pull w_X_pull ({ frames := 1, cells := 0, slots := 0, locals := 23 }) (PcX (dC, dI) classes z0 [c_X x0 x1 x2 x3 x4 ku, c_A x1 c1 1024 m1, c_A x3 c3 9 m3] [(c1, .int), (c3, .int)] sz [.ref x0]) (Q_X_pull dC dI x0 x1 x2 x3 x4 c1 c3 ku m1 m3 (va_A [c_X x0 x1 x2 x3 x4 ku, c_A x1 c1 1024 m1, c_A x3 c3 9 m3] sz)) 0 0 (va_A [c_X x0 x1 x2 x3 x4 ku, c_A x1 c1 1024 m1, c_A x3 c3 9 m3] sz) := by
  refine hdX (cc := b_X_pull) (maxL := 1) (ret := (some .int)) (C := R_X) (Qc := (Q_X_pull dC dI x0 x1 x2 x3 x4 c1 c3 ku m1 m3)) (by decide) rfl ?_
  intro p e s m below meth c A H hx hb hr hlocks hml hown hin htB hP hK hD hA hA0 hE hS
  have hl := lv_entry ([.ref x0]) (n := 1) (Nat.le_of_ble_eq_true rfl)
  rw [lg_entry_eq]
  generalize (lg_sl ([.ref x0]) ++ List.replicate (1 - (lg_sl ([.ref x0])).length) Slot.unset).toArray = ls at hl ⊢
  have hl : lv_has ls 1 [(0, .ref x0)] := hl
  refine lv_aload_n hx hb d_X_pull_0 rfl (lv_at hl 0 rfl) ?_
  refine va_get (D := (dC, dI)) (ci := 3) (v := .ref x3) (C := R_X) (T := F_X) (N := 13) hx hb htB i_X hown hK hP 0 rfl rfl 2 (by decide) (htB _ mw_463) (fun _ h9 => h9) rfl d_X_pull_1 ?_
  refine lv_iconst (v := 3) hx hb d_X_pull_4 (by decide) ?_
  refine lv_aload_n hx hb d_X_pull_5 rfl (lv_at hl 0 rfl) ?_
  refine va_get (D := (dC, dI)) (ci := 3) (v := .ref x3) (C := R_X) (T := F_X) (N := 13) hx hb htB i_X hown hK hP 0 rfl rfl 2 (by decide) (htB _ mw_463) (fun _ h9 => h9) rfl d_X_pull_6 ?_
  refine lv_iconst (v := 3) hx hb d_X_pull_9 (by decide) ?_
  refine iald_at hx hb hK hP 2 1 rfl rfl (show ¬ ((3 : Int32) < 0 ∨ 9 ≤ (3 : Int32).toNatClampNeg) from by decide) (show (3 : Int32).toNatClampNeg = 3 from by decide) d_X_pull_10 ?_
  refine lv_iconst (v := 1) hx hb d_X_pull_11 (by decide) ?_
  refine lv_iadd hx hb d_X_pull_12 ?_
  refine lv_sipush (v := 255) hx hb d_X_pull_13 (by decide) ?_
  refine lv_iand hx hb d_X_pull_16 ?_
  refine iast_at hx hb hK hP hD hS 2 1 rfl rfl (show ¬ ((3 : Int32) < 0 ∨ 9 ≤ (3 : Int32).toNatClampNeg) from by decide) (show (3 : Int32).toNatClampNeg = 3 from by decide) d_X_pull_17 (fun H locs hP hD hS => ?_)
  have hP : va_P (dC, dI) classes [c_X x0 x1 x2 x3 x4 ku, c_A x1 c1 1024 m1, c_A x3 c3 9 (upd m3 3 (((m3 3) + (1 : Int32)) &&& (255 : Int32)))] H := hP
  have hD : va_D A [c_X x0 x1 x2 x3 x4 ku, c_A x1 c1 1024 m1, c_A x3 c3 9 (upd m3 3 (((m3 3) + (1 : Int32)) &&& (255 : Int32)))] := hD
  refine lv_aload_n hx hb d_X_pull_18 rfl (lv_at hl 0 rfl) ?_
  refine lv_sipush (v := 256) hx hb d_X_pull_19 (by decide) ?_
  refine lv_aload_n hx hb d_X_pull_22 rfl (lv_at hl 0 rfl) ?_
  refine va_get (D := (dC, dI)) (ci := 3) (v := .ref x3) (C := R_X) (T := F_X) (N := 13) hx hb htB i_X hown hK hP 0 rfl rfl 2 (by decide) (htB _ mw_463) (fun _ h9 => h9) rfl d_X_pull_23 ?_
  refine lv_iconst (v := 3) hx hb d_X_pull_26 (by decide) ?_
  refine iald_at hx hb hK hP 2 1 rfl rfl (show ¬ ((3 : Int32) < 0 ∨ 9 ≤ (3 : Int32).toNatClampNeg) from by decide) (show (3 : Int32).toNatClampNeg = 3 from by decide) d_X_pull_27 ?_
  refine lv_iadd hx hb d_X_pull_28 ?_
  have hPc := hP.sub (ws' := [c_X x0 x1 x2 x3 x4 ku, c_A x1 c1 1024 m1]) [0, 1] rfl
  have hDc := hD.sub (ws' := [c_X x0 x1 x2 x3 x4 ku, c_A x1 c1 1024 m1]) [0, 1] (by decide) rfl
  have hKc := hK.sub (tys' := [(c1, .int)]) [0] rfl
  have hFc := va_free (wc := [c_X x0 x1 x2 x3 x4 ku, c_A x1 c1 1024 m1]) hD hS hA [0, 1] rfl
  refine va_calli (va_runV (As := [.int ((256 : Int32) + (((m3 3) + (1 : Int32)) &&& (255 : Int32)))]) (rest := []) ⟨hx, hb, hml, hown, htB⟩ (c_X_read l dC dI z0 x0 x1 x2 x3 x4 c1 H.size ((256 : Int32) + (((m3 3) + (1 : Int32)) &&& (255 : Int32))) ku m1) (cwV 1 htB (gd_V mw_552 mw_554 sw_X_read mw_4 mw_555) rfl rfl rfl (by decide +kernel) ⟨Nat.le_of_ble_eq_true rfl, Nat.le_of_ble_eq_true rfl⟩) (pcx_V (va_recv hKc hPc (ci := 3) (q0 := 0) rfl rfl) hPc hKc hDc hA0 hE hS) rfl rfl hl.1 rfl (lv_room (Nat.le_of_ble_eq_true rfl)) d_X_pull_29 ⟨Nat.zero_le _, Nat.zero_le _⟩) hS (fun q _ h => hFc q h) hFc (fun r9 u t H1 locs ht hvm hw hB hz1 hk1 hS => ?_)
  subst hw
  obtain ⟨hP1, hK1, hD1⟩ := hB
  rw [ht] at hP1
  obtain ⟨hP, hD⟩ := va_join (wr := [c_A x3 c3 9 (upd m3 3 (((m3 3) + (1 : Int32)) &&& (255 : Int32)))]) (w1 := [c_X x0 x1 x2 x3 x4 ((f_X_read ((256 : Int32) + (((m3 3) + (1 : Int32)) &&& (255 : Int32))) ku m1).2), c_A x1 c1 1024 m1]) hP hD [0, 1] [2] rfl rfl (by decide) (by decide) hk1 hFc hP1 hD1
  generalize H1 = H at hP hS ⊢
  have hP : va_P (dC, dI) classes [c_X x0 x1 x2 x3 x4 ((f_X_read ((256 : Int32) + (((m3 3) + (1 : Int32)) &&& (255 : Int32))) ku m1).2), c_A x1 c1 1024 m1, c_A x3 c3 9 (upd m3 3 (((m3 3) + (1 : Int32)) &&& (255 : Int32)))] H := hP.sub [1, 2, 0] rfl
  have hD : va_D A [c_X x0 x1 x2 x3 x4 ((f_X_read ((256 : Int32) + (((m3 3) + (1 : Int32)) &&& (255 : Int32))) ku m1).2), c_A x1 c1 1024 m1, c_A x3 c3 9 (upd m3 3 (((m3 3) + (1 : Int32)) &&& (255 : Int32)))] := hD.sub [1, 2, 0] (by decide) rfl
  have hf : f_X_pull ku m1 m3 = ((f_X_read ((256 : Int32) + (((m3 3) + (1 : Int32)) &&& (255 : Int32))) ku m1).1, (f_X_read ((256 : Int32) + (((m3 3) + (1 : Int32)) &&& (255 : Int32))) ku m1).2, (upd m3 3 (((m3 3) + (1 : Int32)) &&& (255 : Int32)))) := by rw [f_X_pull]
  exact W.iret (v := (f_X_read ((256 : Int32) + (((m3 3) + (1 : Int32)) &&& (255 : Int32))) ku m1).1) hx hb hr (fun t ht hW => ⟨⟨(f_X_read ((256 : Int32) + (((m3 3) + (1 : Int32)) &&& (255 : Int32))) ku m1).1, (), rfl, (congrArg (fun z => z.1) hf).symm, by rw [hf]; exact ⟨by rw [ht]; exact hP, va_K.moved hW.alike hK, hD⟩⟩, hS.F ht⟩) hS.2.2 d_X_pull_32

theorem xs_pull {u m1 m3 : Nat → Int32} (h : xs_ok u) : xs_ok (f_X_pull u m1 m3).2.1 := xs_read h

def f_X_fetch  (ku m1 m3 : Nat → Int32) : Int32 × (Nat → Int32) × (Nat → Int32) :=
  ((f_X_read (m3 4) ku m1).1, (f_X_read (m3 4) ku m1).2, (upd m3 4 (((m3 4) + (1 : Int32)) &&& (1023 : Int32))))
abbrev Q_X_fetch (dC : Nat → ClassId) (dI : Nat → Nat → Nat) (x0 : Nat) (x1 : Nat) (x2 : Nat) (x3 : Nat) (x4 : Nat) (c1 : ClassId) (c3 : ClassId)  (ku m1 m3 : Nat → Int32) (A : Nat → Prop) : Array Value → State → Outcome → State → Prop := va_Qi (fun (r9 : Int32) (_ : Unit) => r9 = (f_X_fetch ku m1 m3).1) (fun _ t => atW (dC, dI) classes A [c_X x0 x1 x2 x3 x4 ((f_X_fetch ku m1 m3).2.1), c_A x1 c1 1024 m1, c_A x3 c3 9 ((f_X_fetch ku m1 m3).2.2)] [(c1, .int), (c3, .int)] t) A
set_option maxHeartbeats 4000000 in
set_option maxRecDepth 100000 in
theorem c_X_fetch (l : Launch) (dC : Nat → ClassId) (dI : Nat → Nat → Nat) (z0 : Nat) (x0 : Nat) (x1 : Nat) (x2 : Nat) (x3 : Nat) (x4 : Nat) (c1 : ClassId) (c3 : ClassId) (sz : Nat)  (ku m1 m3 : Nat → Int32)  : Met l y_X_fetch w_X_fetch ({ frames := 1, cells := 0, slots := 0, locals := 23 }) (PcX (dC, dI) classes z0 [c_X x0 x1 x2 x3 x4 ku, c_A x1 c1 1024 m1, c_A x3 c3 9 m3] [(c1, .int), (c3, .int)] sz [.ref x0]) (Q_X_fetch dC dI x0 x1 x2 x3 x4 c1 c3 ku m1 m3 (va_A [c_X x0 x1 x2 x3 x4 ku, c_A x1 c1 1024 m1, c_A x3 c3 9 m3] sz)) 0 0 (va_A [c_X x0 x1 x2 x3 x4 ku, c_A x1 c1 1024 m1, c_A x3 c3 9 m3] sz) := by
  refine hdX (cc := b_X_fetch) (maxL := 2) (ret := (some .int)) (C := R_X) (Qc := (Q_X_fetch dC dI x0 x1 x2 x3 x4 c1 c3 ku m1 m3)) (by decide) rfl ?_
  intro p e s m below meth c A H hx hb hr hlocks hml hown hin htB hP hK hD hA hA0 hE hS
  have hl := lv_entry ([.ref x0]) (n := 2) (Nat.le_of_ble_eq_true rfl)
  rw [lg_entry_eq]
  generalize (lg_sl ([.ref x0]) ++ List.replicate (2 - (lg_sl ([.ref x0])).length) Slot.unset).toArray = ls at hl ⊢
  have hl : lv_has ls 2 [(0, .ref x0)] := hl
  refine lv_aload_n hx hb d_X_fetch_0 rfl (lv_at hl 0 rfl) ?_
  refine lv_aload_n hx hb d_X_fetch_1 rfl (lv_at hl 0 rfl) ?_
  refine va_get (D := (dC, dI)) (ci := 3) (v := .ref x3) (C := R_X) (T := F_X) (N := 13) hx hb htB i_X hown hK hP 0 rfl rfl 2 (by decide) (htB _ mw_463) (fun _ h9 => h9) rfl d_X_fetch_2 ?_
  refine lv_iconst (v := 4) hx hb d_X_fetch_5 (by decide) ?_
  refine iald_at hx hb hK hP 2 1 rfl rfl (show ¬ ((4 : Int32) < 0 ∨ 9 ≤ (4 : Int32).toNatClampNeg) from by decide) (show (4 : Int32).toNatClampNeg = 4 from by decide) d_X_fetch_6 ?_
  have hPc := hP.sub (ws' := [c_X x0 x1 x2 x3 x4 ku, c_A x1 c1 1024 m1]) [0, 1] rfl
  have hDc := hD.sub (ws' := [c_X x0 x1 x2 x3 x4 ku, c_A x1 c1 1024 m1]) [0, 1] (by decide) rfl
  have hKc := hK.sub (tys' := [(c1, .int)]) [0] rfl
  have hFc := va_free (wc := [c_X x0 x1 x2 x3 x4 ku, c_A x1 c1 1024 m1]) hD hS hA [0, 1] rfl
  refine va_calli (va_runV (As := [.int (m3 4)]) (rest := []) ⟨hx, hb, hml, hown, htB⟩ (c_X_read l dC dI z0 x0 x1 x2 x3 x4 c1 H.size (m3 4) ku m1) (cwV 1 htB (gd_V mw_552 mw_554 sw_X_read mw_4 mw_555) rfl rfl rfl (by decide +kernel) ⟨Nat.le_of_ble_eq_true rfl, Nat.le_of_ble_eq_true rfl⟩) (pcx_V (va_recv hKc hPc (ci := 3) (q0 := 0) rfl rfl) hPc hKc hDc hA0 hE hS) rfl rfl hl.1 rfl (lv_room (Nat.le_of_ble_eq_true rfl)) d_X_fetch_7 ⟨Nat.zero_le _, Nat.zero_le _⟩) hS (fun q _ h => hFc q h) hFc (fun r9 u t H1 locs ht hvm hw hB hz1 hk1 hS => ?_)
  subst hw
  obtain ⟨hP1, hK1, hD1⟩ := hB
  rw [ht] at hP1
  obtain ⟨hP, hD⟩ := va_join (wr := [c_A x3 c3 9 m3]) (w1 := [c_X x0 x1 x2 x3 x4 ((f_X_read (m3 4) ku m1).2), c_A x1 c1 1024 m1]) hP hD [0, 1] [2] rfl rfl (by decide) (by decide) hk1 hFc hP1 hD1
  generalize H1 = H at hP hS ⊢
  have hP : va_P (dC, dI) classes [c_X x0 x1 x2 x3 x4 ((f_X_read (m3 4) ku m1).2), c_A x1 c1 1024 m1, c_A x3 c3 9 m3] H := hP.sub [1, 2, 0] rfl
  have hD : va_D A [c_X x0 x1 x2 x3 x4 ((f_X_read (m3 4) ku m1).2), c_A x1 c1 1024 m1, c_A x3 c3 9 m3] := hD.sub [1, 2, 0] (by decide) rfl
  refine lv_istore_n (lv' := [(1, .int ((f_X_read (m3 4) ku m1).1)), (0, .ref x0)]) hx hb d_X_fetch_10 rfl hl (by decide) rfl (fun ls hl => ?_)
  refine lv_aload_n hx hb d_X_fetch_11 rfl (lv_at hl 1 rfl) ?_
  refine va_get (D := (dC, dI)) (ci := 3) (v := .ref x3) (C := R_X) (T := F_X) (N := 13) hx hb htB i_X hown hK hP 0 rfl rfl 2 (by decide) (htB _ mw_463) (fun _ h9 => h9) rfl d_X_fetch_12 ?_
  refine lv_iconst (v := 4) hx hb d_X_fetch_15 (by decide) ?_
  refine lv_aload_n hx hb d_X_fetch_16 rfl (lv_at hl 1 rfl) ?_
  refine va_get (D := (dC, dI)) (ci := 3) (v := .ref x3) (C := R_X) (T := F_X) (N := 13) hx hb htB i_X hown hK hP 0 rfl rfl 2 (by decide) (htB _ mw_463) (fun _ h9 => h9) rfl d_X_fetch_17 ?_
  refine lv_iconst (v := 4) hx hb d_X_fetch_20 (by decide) ?_
  refine iald_at hx hb hK hP 2 1 rfl rfl (show ¬ ((4 : Int32) < 0 ∨ 9 ≤ (4 : Int32).toNatClampNeg) from by decide) (show (4 : Int32).toNatClampNeg = 4 from by decide) d_X_fetch_21 ?_
  refine lv_iconst (v := 1) hx hb d_X_fetch_22 (by decide) ?_
  refine lv_iadd hx hb d_X_fetch_23 ?_
  refine lv_sipush (v := 1023) hx hb d_X_fetch_24 (by decide) ?_
  refine lv_iand hx hb d_X_fetch_27 ?_
  refine iast_at hx hb hK hP hD hS 2 1 rfl rfl (show ¬ ((4 : Int32) < 0 ∨ 9 ≤ (4 : Int32).toNatClampNeg) from by decide) (show (4 : Int32).toNatClampNeg = 4 from by decide) d_X_fetch_28 (fun H locs hP hD hS => ?_)
  have hP : va_P (dC, dI) classes [c_X x0 x1 x2 x3 x4 ((f_X_read (m3 4) ku m1).2), c_A x1 c1 1024 m1, c_A x3 c3 9 (upd m3 4 (((m3 4) + (1 : Int32)) &&& (1023 : Int32)))] H := hP
  have hD : va_D A [c_X x0 x1 x2 x3 x4 ((f_X_read (m3 4) ku m1).2), c_A x1 c1 1024 m1, c_A x3 c3 9 (upd m3 4 (((m3 4) + (1 : Int32)) &&& (1023 : Int32)))] := hD
  refine lv_iload_n hx hb d_X_fetch_29 rfl (lv_at hl 0 rfl) ?_
  have hf : f_X_fetch ku m1 m3 = ((f_X_read (m3 4) ku m1).1, (f_X_read (m3 4) ku m1).2, (upd m3 4 (((m3 4) + (1 : Int32)) &&& (1023 : Int32)))) := by rw [f_X_fetch]
  exact W.iret (v := (f_X_read (m3 4) ku m1).1) hx hb hr (fun t ht hW => ⟨⟨(f_X_read (m3 4) ku m1).1, (), rfl, (congrArg (fun z => z.1) hf).symm, by rw [hf]; exact ⟨by rw [ht]; exact hP, va_K.moved hW.alike hK, hD⟩⟩, hS.F ht⟩) hS.2.2 d_X_fetch_30

theorem xs_fetch {u m1 m3 : Nat → Int32} (h : xs_ok u) : xs_ok (f_X_fetch u m1 m3).2.1 := xs_read h

def f_X_one  (ku m1 m3 : Nat → Int32) : (Nat → Int32) × (Nat → Int32) :=
  ((upd ((f_X_fetch ku m1 m3).2.1) 6 ((f_X_fetch ku m1 m3).1)), (f_X_fetch ku m1 m3).2.2)
abbrev Q_X_one (dC : Nat → ClassId) (dI : Nat → Nat → Nat) (x0 : Nat) (x1 : Nat) (x2 : Nat) (x3 : Nat) (x4 : Nat) (c1 : ClassId) (c3 : ClassId)  (ku m1 m3 : Nat → Int32) (A : Nat → Prop) : Array Value → State → Outcome → State → Prop := va_Qv (fun (_ : Unit) => True) (fun _ t => atW (dC, dI) classes A [c_X x0 x1 x2 x3 x4 ((f_X_one ku m1 m3).1), c_A x1 c1 1024 m1, c_A x3 c3 9 ((f_X_one ku m1 m3).2)] [(c1, .int), (c3, .int)] t) A
set_option maxHeartbeats 4000000 in
set_option maxRecDepth 100000 in
theorem c_X_one (l : Launch) (dC : Nat → ClassId) (dI : Nat → Nat → Nat) (z0 : Nat) (x0 : Nat) (x1 : Nat) (x2 : Nat) (x3 : Nat) (x4 : Nat) (c1 : ClassId) (c3 : ClassId) (sz : Nat)  (ku m1 m3 : Nat → Int32)  : Met l y_X_one w_X_one ({ frames := 2, cells := 0, slots := 0, locals := 44 }) (PcX (dC, dI) classes z0 [c_X x0 x1 x2 x3 x4 ku, c_A x1 c1 1024 m1, c_A x3 c3 9 m3] [(c1, .int), (c3, .int)] sz [.ref x0]) (Q_X_one dC dI x0 x1 x2 x3 x4 c1 c3 ku m1 m3 (va_A [c_X x0 x1 x2 x3 x4 ku, c_A x1 c1 1024 m1, c_A x3 c3 9 m3] sz)) 0 0 (va_A [c_X x0 x1 x2 x3 x4 ku, c_A x1 c1 1024 m1, c_A x3 c3 9 m3] sz) := by
  refine hdX (cc := b_X_one) (maxL := 1) (ret := none) (C := R_X) (Qc := (Q_X_one dC dI x0 x1 x2 x3 x4 c1 c3 ku m1 m3)) (by decide) rfl ?_
  intro p e s m below meth c A H hx hb hr hlocks hml hown hin htB hP hK hD hA hA0 hE hS
  have hl := lv_entry ([.ref x0]) (n := 1) (Nat.le_of_ble_eq_true rfl)
  rw [lg_entry_eq]
  generalize (lg_sl ([.ref x0]) ++ List.replicate (1 - (lg_sl ([.ref x0])).length) Slot.unset).toArray = ls at hl ⊢
  have hl : lv_has ls 1 [(0, .ref x0)] := hl
  refine lv_aload_n hx hb d_X_one_0 rfl (lv_at hl 0 rfl) ?_
  refine lv_aload_n hx hb d_X_one_1 rfl (lv_at hl 0 rfl) ?_
  have hPc := hP.sub (ws' := [c_X x0 x1 x2 x3 x4 ku, c_A x1 c1 1024 m1, c_A x3 c3 9 m3]) [0, 1, 2] rfl
  have hDc := hD.sub (ws' := [c_X x0 x1 x2 x3 x4 ku, c_A x1 c1 1024 m1, c_A x3 c3 9 m3]) [0, 1, 2] (by decide) rfl
  have hKc := hK.sub (tys' := [(c1, .int), (c3, .int)]) [0, 1] rfl
  have hFc := va_free (wc := [c_X x0 x1 x2 x3 x4 ku, c_A x1 c1 1024 m1, c_A x3 c3 9 m3]) hD hS hA [0, 1, 2] rfl
  refine va_calli (va_runV (As := []) (rest := [.ref x0]) ⟨hx, hb, hml, hown, htB⟩ (c_X_fetch l dC dI z0 x0 x1 x2 x3 x4 c1 c3 H.size ku m1 m3) (cwV 0 htB (gd_V mw_548 mw_550 sw_X_fetch mw_4 mw_551) rfl rfl rfl (by decide +kernel) ⟨Nat.le_of_ble_eq_true rfl, Nat.le_of_ble_eq_true rfl⟩) (pcx_V (va_recv hKc hPc (ci := 3) (q0 := 0) rfl rfl) hPc hKc hDc hA0 hE hS) rfl rfl hl.1 rfl (lv_room (Nat.le_of_ble_eq_true rfl)) d_X_one_2 ⟨Nat.zero_le _, Nat.zero_le _⟩) hS (fun q _ h => hFc q h) hFc (fun r9 u t H1 locs ht hvm hw hB hz1 hk1 hS => ?_)
  subst hw
  obtain ⟨hP1, hK1, hD1⟩ := hB
  rw [ht] at hP1
  obtain ⟨hP, hD⟩ := va_join (wr := []) (w1 := [c_X x0 x1 x2 x3 x4 ((f_X_fetch ku m1 m3).2.1), c_A x1 c1 1024 m1, c_A x3 c3 9 ((f_X_fetch ku m1 m3).2.2)]) hP hD [0, 1, 2] [] rfl rfl (by decide) (by decide) hk1 hFc hP1 hD1
  generalize H1 = H at hP hS ⊢
  have hP : va_P (dC, dI) classes [c_X x0 x1 x2 x3 x4 ((f_X_fetch ku m1 m3).2.1), c_A x1 c1 1024 m1, c_A x3 c3 9 ((f_X_fetch ku m1 m3).2.2)] H := hP.sub [0, 1, 2] rfl
  have hD : va_D A [c_X x0 x1 x2 x3 x4 ((f_X_fetch ku m1 m3).2.1), c_A x1 c1 1024 m1, c_A x3 c3 9 ((f_X_fetch ku m1 m3).2.2)] := hD.sub [0, 1, 2] (by decide) rfl
  refine va_put (D := (dC, dI)) (ci := 3) (v := .int ((f_X_fetch ku m1 m3).1)) (ty := .int) (C := R_X) (T := F_X) (N := 13) hx hb htB i_X t_X t_X_ok n_X hown hK hP hD hS 0 rfl rfl 10 (by decide) (htB _ mw_471) (fun _ h9 => h9) rfl (by decide +kernel) rfl rfl (Nat.le_of_ble_eq_true rfl) d_X_one_5 (fun H locs hP hD hS => ?_)
  have hP : va_P (dC, dI) classes [c_X x0 x1 x2 x3 x4 (upd ((f_X_fetch ku m1 m3).2.1) 6 ((f_X_fetch ku m1 m3).1)), c_A x1 c1 1024 m1, c_A x3 c3 9 ((f_X_fetch ku m1 m3).2.2)] H := hP
  have hD : va_D A [c_X x0 x1 x2 x3 x4 (upd ((f_X_fetch ku m1 m3).2.1) 6 ((f_X_fetch ku m1 m3).1)), c_A x1 c1 1024 m1, c_A x3 c3 9 ((f_X_fetch ku m1 m3).2.2)] := hD
  have hf : f_X_one ku m1 m3 = ((upd ((f_X_fetch ku m1 m3).2.1) 6 ((f_X_fetch ku m1 m3).1)), (f_X_fetch ku m1 m3).2.2) := by rw [f_X_one]
  exact W.vret hx hb hr (fun t ht hW => ⟨⟨(), rfl, trivial, by rw [hf]; exact ⟨by rw [ht]; exact hP, va_K.moved hW.alike hK, hD⟩⟩, hS.F ht⟩) hS.2.2 d_X_one_8

theorem xs_one {u m1 m3 : Nat → Int32} (h : xs_ok u) : xs_ok (f_X_one u m1 m3).1 := xs_fetch h

def f_X_two  (ku m1 m3 : Nat → Int32) : (Nat → Int32) × (Nat → Int32) :=
  ((upd ((f_X_fetch (upd ((f_X_fetch ku m1 m3).2.1) 6 ((f_X_fetch ku m1 m3).1)) m1 ((f_X_fetch ku m1 m3).2.2)).2.1) 7 (((f_X_fetch ku m1 m3).1) + ((256 : Int32) * ((f_X_fetch (upd ((f_X_fetch ku m1 m3).2.1) 6 ((f_X_fetch ku m1 m3).1)) m1 ((f_X_fetch ku m1 m3).2.2)).1)))), (f_X_fetch (upd ((f_X_fetch ku m1 m3).2.1) 6 ((f_X_fetch ku m1 m3).1)) m1 ((f_X_fetch ku m1 m3).2.2)).2.2)
abbrev Q_X_two (dC : Nat → ClassId) (dI : Nat → Nat → Nat) (x0 : Nat) (x1 : Nat) (x2 : Nat) (x3 : Nat) (x4 : Nat) (c1 : ClassId) (c3 : ClassId)  (ku m1 m3 : Nat → Int32) (A : Nat → Prop) : Array Value → State → Outcome → State → Prop := va_Qv (fun (_ : Unit) => True) (fun _ t => atW (dC, dI) classes A [c_X x0 x1 x2 x3 x4 ((f_X_two ku m1 m3).1), c_A x1 c1 1024 m1, c_A x3 c3 9 ((f_X_two ku m1 m3).2)] [(c1, .int), (c3, .int)] t) A
set_option maxHeartbeats 4000000 in
set_option maxRecDepth 100000 in
theorem c_X_two (l : Launch) (dC : Nat → ClassId) (dI : Nat → Nat → Nat) (z0 : Nat) (x0 : Nat) (x1 : Nat) (x2 : Nat) (x3 : Nat) (x4 : Nat) (c1 : ClassId) (c3 : ClassId) (sz : Nat)  (ku m1 m3 : Nat → Int32)  : Met l y_X_two w_X_two ({ frames := 2, cells := 0, slots := 0, locals := 44 }) (PcX (dC, dI) classes z0 [c_X x0 x1 x2 x3 x4 ku, c_A x1 c1 1024 m1, c_A x3 c3 9 m3] [(c1, .int), (c3, .int)] sz [.ref x0]) (Q_X_two dC dI x0 x1 x2 x3 x4 c1 c3 ku m1 m3 (va_A [c_X x0 x1 x2 x3 x4 ku, c_A x1 c1 1024 m1, c_A x3 c3 9 m3] sz)) 0 0 (va_A [c_X x0 x1 x2 x3 x4 ku, c_A x1 c1 1024 m1, c_A x3 c3 9 m3] sz) := by
  refine hdX (cc := b_X_two) (maxL := 1) (ret := none) (C := R_X) (Qc := (Q_X_two dC dI x0 x1 x2 x3 x4 c1 c3 ku m1 m3)) (by decide) rfl ?_
  intro p e s m below meth c A H hx hb hr hlocks hml hown hin htB hP hK hD hA hA0 hE hS
  have hl := lv_entry ([.ref x0]) (n := 1) (Nat.le_of_ble_eq_true rfl)
  rw [lg_entry_eq]
  generalize (lg_sl ([.ref x0]) ++ List.replicate (1 - (lg_sl ([.ref x0])).length) Slot.unset).toArray = ls at hl ⊢
  have hl : lv_has ls 1 [(0, .ref x0)] := hl
  refine lv_aload_n hx hb d_X_two_0 rfl (lv_at hl 0 rfl) ?_
  refine lv_aload_n hx hb d_X_two_1 rfl (lv_at hl 0 rfl) ?_
  have hPc := hP.sub (ws' := [c_X x0 x1 x2 x3 x4 ku, c_A x1 c1 1024 m1, c_A x3 c3 9 m3]) [0, 1, 2] rfl
  have hDc := hD.sub (ws' := [c_X x0 x1 x2 x3 x4 ku, c_A x1 c1 1024 m1, c_A x3 c3 9 m3]) [0, 1, 2] (by decide) rfl
  have hKc := hK.sub (tys' := [(c1, .int), (c3, .int)]) [0, 1] rfl
  have hFc := va_free (wc := [c_X x0 x1 x2 x3 x4 ku, c_A x1 c1 1024 m1, c_A x3 c3 9 m3]) hD hS hA [0, 1, 2] rfl
  refine va_calli (va_runV (As := []) (rest := [.ref x0]) ⟨hx, hb, hml, hown, htB⟩ (c_X_fetch l dC dI z0 x0 x1 x2 x3 x4 c1 c3 H.size ku m1 m3) (cwV 0 htB (gd_V mw_548 mw_550 sw_X_fetch mw_4 mw_551) rfl rfl rfl (by decide +kernel) ⟨Nat.le_of_ble_eq_true rfl, Nat.le_of_ble_eq_true rfl⟩) (pcx_V (va_recv hKc hPc (ci := 3) (q0 := 0) rfl rfl) hPc hKc hDc hA0 hE hS) rfl rfl hl.1 rfl (lv_room (Nat.le_of_ble_eq_true rfl)) d_X_two_2 ⟨Nat.zero_le _, Nat.zero_le _⟩) hS (fun q _ h => hFc q h) hFc (fun r9 u t H1 locs ht hvm hw hB hz1 hk1 hS => ?_)
  subst hw
  obtain ⟨hP1, hK1, hD1⟩ := hB
  rw [ht] at hP1
  obtain ⟨hP, hD⟩ := va_join (wr := []) (w1 := [c_X x0 x1 x2 x3 x4 ((f_X_fetch ku m1 m3).2.1), c_A x1 c1 1024 m1, c_A x3 c3 9 ((f_X_fetch ku m1 m3).2.2)]) hP hD [0, 1, 2] [] rfl rfl (by decide) (by decide) hk1 hFc hP1 hD1
  generalize H1 = H at hP hS ⊢
  have hP : va_P (dC, dI) classes [c_X x0 x1 x2 x3 x4 ((f_X_fetch ku m1 m3).2.1), c_A x1 c1 1024 m1, c_A x3 c3 9 ((f_X_fetch ku m1 m3).2.2)] H := hP.sub [0, 1, 2] rfl
  have hD : va_D A [c_X x0 x1 x2 x3 x4 ((f_X_fetch ku m1 m3).2.1), c_A x1 c1 1024 m1, c_A x3 c3 9 ((f_X_fetch ku m1 m3).2.2)] := hD.sub [0, 1, 2] (by decide) rfl
  refine va_put (D := (dC, dI)) (ci := 3) (v := .int ((f_X_fetch ku m1 m3).1)) (ty := .int) (C := R_X) (T := F_X) (N := 13) hx hb htB i_X t_X t_X_ok n_X hown hK hP hD hS 0 rfl rfl 10 (by decide) (htB _ mw_471) (fun _ h9 => h9) rfl (by decide +kernel) rfl rfl (Nat.le_of_ble_eq_true rfl) d_X_two_5 (fun H locs hP hD hS => ?_)
  have hP : va_P (dC, dI) classes [c_X x0 x1 x2 x3 x4 (upd ((f_X_fetch ku m1 m3).2.1) 6 ((f_X_fetch ku m1 m3).1)), c_A x1 c1 1024 m1, c_A x3 c3 9 ((f_X_fetch ku m1 m3).2.2)] H := hP
  have hD : va_D A [c_X x0 x1 x2 x3 x4 (upd ((f_X_fetch ku m1 m3).2.1) 6 ((f_X_fetch ku m1 m3).1)), c_A x1 c1 1024 m1, c_A x3 c3 9 ((f_X_fetch ku m1 m3).2.2)] := hD
  refine lv_aload_n hx hb d_X_two_8 rfl (lv_at hl 0 rfl) ?_
  refine lv_aload_n hx hb d_X_two_9 rfl (lv_at hl 0 rfl) ?_
  refine va_get (D := (dC, dI)) (ci := 3) (v := .int ((f_X_fetch ku m1 m3).1)) (C := R_X) (T := F_X) (N := 13) hx hb htB i_X hown hK hP 0 rfl rfl 10 (by decide) (htB _ mw_471) (fun _ h9 => h9) rfl d_X_two_10 ?_
  refine lv_sipush (v := 256) hx hb d_X_two_13 (by decide) ?_
  refine lv_aload_n hx hb d_X_two_16 rfl (lv_at hl 0 rfl) ?_
  have hPc := hP.sub (ws' := [c_X x0 x1 x2 x3 x4 (upd ((f_X_fetch ku m1 m3).2.1) 6 ((f_X_fetch ku m1 m3).1)), c_A x1 c1 1024 m1, c_A x3 c3 9 ((f_X_fetch ku m1 m3).2.2)]) [0, 1, 2] rfl
  have hDc := hD.sub (ws' := [c_X x0 x1 x2 x3 x4 (upd ((f_X_fetch ku m1 m3).2.1) 6 ((f_X_fetch ku m1 m3).1)), c_A x1 c1 1024 m1, c_A x3 c3 9 ((f_X_fetch ku m1 m3).2.2)]) [0, 1, 2] (by decide) rfl
  have hKc := hK.sub (tys' := [(c1, .int), (c3, .int)]) [0, 1] rfl
  have hFc := va_free (wc := [c_X x0 x1 x2 x3 x4 (upd ((f_X_fetch ku m1 m3).2.1) 6 ((f_X_fetch ku m1 m3).1)), c_A x1 c1 1024 m1, c_A x3 c3 9 ((f_X_fetch ku m1 m3).2.2)]) hD hS hA [0, 1, 2] rfl
  refine va_calli (va_runV (As := []) (rest := [.int (256 : Int32), .int ((f_X_fetch ku m1 m3).1), .ref x0]) ⟨hx, hb, hml, hown, htB⟩ (c_X_fetch l dC dI z0 x0 x1 x2 x3 x4 c1 c3 H.size (upd ((f_X_fetch ku m1 m3).2.1) 6 ((f_X_fetch ku m1 m3).1)) m1 ((f_X_fetch ku m1 m3).2.2)) (cwV 0 htB (gd_V mw_548 mw_550 sw_X_fetch mw_4 mw_551) rfl rfl rfl (by decide +kernel) ⟨Nat.le_of_ble_eq_true rfl, Nat.le_of_ble_eq_true rfl⟩) (pcx_V (va_recv hKc hPc (ci := 3) (q0 := 0) rfl rfl) hPc hKc hDc hA0 hE hS) rfl rfl hl.1 rfl (lv_room (Nat.le_of_ble_eq_true rfl)) d_X_two_17 ⟨Nat.zero_le _, Nat.zero_le _⟩) hS (fun q _ h => hFc q h) hFc (fun r9 u t H1 locs ht hvm hw hB hz1 hk1 hS => ?_)
  subst hw
  obtain ⟨hP1, hK1, hD1⟩ := hB
  rw [ht] at hP1
  obtain ⟨hP, hD⟩ := va_join (wr := []) (w1 := [c_X x0 x1 x2 x3 x4 ((f_X_fetch (upd ((f_X_fetch ku m1 m3).2.1) 6 ((f_X_fetch ku m1 m3).1)) m1 ((f_X_fetch ku m1 m3).2.2)).2.1), c_A x1 c1 1024 m1, c_A x3 c3 9 ((f_X_fetch (upd ((f_X_fetch ku m1 m3).2.1) 6 ((f_X_fetch ku m1 m3).1)) m1 ((f_X_fetch ku m1 m3).2.2)).2.2)]) hP hD [0, 1, 2] [] rfl rfl (by decide) (by decide) hk1 hFc hP1 hD1
  generalize H1 = H at hP hS ⊢
  have hP : va_P (dC, dI) classes [c_X x0 x1 x2 x3 x4 ((f_X_fetch (upd ((f_X_fetch ku m1 m3).2.1) 6 ((f_X_fetch ku m1 m3).1)) m1 ((f_X_fetch ku m1 m3).2.2)).2.1), c_A x1 c1 1024 m1, c_A x3 c3 9 ((f_X_fetch (upd ((f_X_fetch ku m1 m3).2.1) 6 ((f_X_fetch ku m1 m3).1)) m1 ((f_X_fetch ku m1 m3).2.2)).2.2)] H := hP.sub [0, 1, 2] rfl
  have hD : va_D A [c_X x0 x1 x2 x3 x4 ((f_X_fetch (upd ((f_X_fetch ku m1 m3).2.1) 6 ((f_X_fetch ku m1 m3).1)) m1 ((f_X_fetch ku m1 m3).2.2)).2.1), c_A x1 c1 1024 m1, c_A x3 c3 9 ((f_X_fetch (upd ((f_X_fetch ku m1 m3).2.1) 6 ((f_X_fetch ku m1 m3).1)) m1 ((f_X_fetch ku m1 m3).2.2)).2.2)] := hD.sub [0, 1, 2] (by decide) rfl
  refine lv_imul hx hb d_X_two_20 ?_
  refine lv_iadd hx hb d_X_two_21 ?_
  refine va_put (D := (dC, dI)) (ci := 3) (v := .int (((f_X_fetch ku m1 m3).1) + ((256 : Int32) * ((f_X_fetch (upd ((f_X_fetch ku m1 m3).2.1) 6 ((f_X_fetch ku m1 m3).1)) m1 ((f_X_fetch ku m1 m3).2.2)).1)))) (ty := .int) (C := R_X) (T := F_X) (N := 13) hx hb htB i_X t_X t_X_ok n_X hown hK hP hD hS 0 rfl rfl 11 (by decide) (htB _ mw_472) (fun _ h9 => h9) rfl (by decide +kernel) rfl rfl (Nat.le_of_ble_eq_true rfl) d_X_two_22 (fun H locs hP hD hS => ?_)
  have hP : va_P (dC, dI) classes [c_X x0 x1 x2 x3 x4 (upd ((f_X_fetch (upd ((f_X_fetch ku m1 m3).2.1) 6 ((f_X_fetch ku m1 m3).1)) m1 ((f_X_fetch ku m1 m3).2.2)).2.1) 7 (((f_X_fetch ku m1 m3).1) + ((256 : Int32) * ((f_X_fetch (upd ((f_X_fetch ku m1 m3).2.1) 6 ((f_X_fetch ku m1 m3).1)) m1 ((f_X_fetch ku m1 m3).2.2)).1)))), c_A x1 c1 1024 m1, c_A x3 c3 9 ((f_X_fetch (upd ((f_X_fetch ku m1 m3).2.1) 6 ((f_X_fetch ku m1 m3).1)) m1 ((f_X_fetch ku m1 m3).2.2)).2.2)] H := hP
  have hD : va_D A [c_X x0 x1 x2 x3 x4 (upd ((f_X_fetch (upd ((f_X_fetch ku m1 m3).2.1) 6 ((f_X_fetch ku m1 m3).1)) m1 ((f_X_fetch ku m1 m3).2.2)).2.1) 7 (((f_X_fetch ku m1 m3).1) + ((256 : Int32) * ((f_X_fetch (upd ((f_X_fetch ku m1 m3).2.1) 6 ((f_X_fetch ku m1 m3).1)) m1 ((f_X_fetch ku m1 m3).2.2)).1)))), c_A x1 c1 1024 m1, c_A x3 c3 9 ((f_X_fetch (upd ((f_X_fetch ku m1 m3).2.1) 6 ((f_X_fetch ku m1 m3).1)) m1 ((f_X_fetch ku m1 m3).2.2)).2.2)] := hD
  have hf : f_X_two ku m1 m3 = ((upd ((f_X_fetch (upd ((f_X_fetch ku m1 m3).2.1) 6 ((f_X_fetch ku m1 m3).1)) m1 ((f_X_fetch ku m1 m3).2.2)).2.1) 7 (((f_X_fetch ku m1 m3).1) + ((256 : Int32) * ((f_X_fetch (upd ((f_X_fetch ku m1 m3).2.1) 6 ((f_X_fetch ku m1 m3).1)) m1 ((f_X_fetch ku m1 m3).2.2)).1)))), (f_X_fetch (upd ((f_X_fetch ku m1 m3).2.1) 6 ((f_X_fetch ku m1 m3).1)) m1 ((f_X_fetch ku m1 m3).2.2)).2.2) := by rw [f_X_two]
  exact W.vret hx hb hr (fun t ht hW => ⟨⟨(), rfl, trivial, by rw [hf]; exact ⟨by rw [ht]; exact hP, va_K.moved hW.alike hK, hD⟩⟩, hS.F ht⟩) hS.2.2 d_X_two_25

theorem xs_two {u m1 m3 : Nat → Int32} (h : xs_ok u) : xs_ok (f_X_two u m1 m3).1 := xs_fetch (xs_fetch h)

def f_X_pair (p1 : Int32) (ku m1 : Nat → Int32) : Int32 × (Nat → Int32) :=
  ((((f_X_read (p1 &&& (255 : Int32)) ku m1).1) + ((256 : Int32) * ((f_X_read ((p1 + (1 : Int32)) &&& (255 : Int32)) ((f_X_read (p1 &&& (255 : Int32)) ku m1).2) m1).1))), (f_X_read ((p1 + (1 : Int32)) &&& (255 : Int32)) ((f_X_read (p1 &&& (255 : Int32)) ku m1).2) m1).2)
abbrev Q_X_pair (dC : Nat → ClassId) (dI : Nat → Nat → Nat) (x0 : Nat) (x1 : Nat) (x2 : Nat) (x3 : Nat) (x4 : Nat) (c1 : ClassId) (p1 : Int32) (ku m1 : Nat → Int32) (A : Nat → Prop) : Array Value → State → Outcome → State → Prop := va_Qi (fun (r9 : Int32) (_ : Unit) => r9 = (f_X_pair p1 ku m1).1) (fun _ t => atW (dC, dI) classes A [c_X x0 x1 x2 x3 x4 ((f_X_pair p1 ku m1).2), c_A x1 c1 1024 m1] [(c1, .int)] t) A
set_option maxHeartbeats 4000000 in
set_option maxRecDepth 100000 in
theorem c_X_pair (l : Launch) (dC : Nat → ClassId) (dI : Nat → Nat → Nat) (z0 : Nat) (x0 : Nat) (x1 : Nat) (x2 : Nat) (x3 : Nat) (x4 : Nat) (c1 : ClassId) (sz : Nat) (p1 : Int32) (ku m1 : Nat → Int32)  : Met l y_X_pair w_X_pair ({ frames := 1, cells := 0, slots := 0, locals := 23 }) (PcX (dC, dI) classes z0 [c_X x0 x1 x2 x3 x4 ku, c_A x1 c1 1024 m1] [(c1, .int)] sz [.ref x0, .int p1]) (Q_X_pair dC dI x0 x1 x2 x3 x4 c1 p1 ku m1 (va_A [c_X x0 x1 x2 x3 x4 ku, c_A x1 c1 1024 m1] sz)) 0 0 (va_A [c_X x0 x1 x2 x3 x4 ku, c_A x1 c1 1024 m1] sz) := by
  refine hdX (cc := b_X_pair) (maxL := 2) (ret := (some .int)) (C := R_X) (Qc := (Q_X_pair dC dI x0 x1 x2 x3 x4 c1 p1 ku m1)) (by decide) rfl ?_
  intro p e s m below meth c A H hx hb hr hlocks hml hown hin htB hP hK hD hA hA0 hE hS
  have hl := lv_entry ([.ref x0, .int p1]) (n := 2) (Nat.le_of_ble_eq_true rfl)
  rw [lg_entry_eq]
  generalize (lg_sl ([.ref x0, .int p1]) ++ List.replicate (2 - (lg_sl ([.ref x0, .int p1])).length) Slot.unset).toArray = ls at hl ⊢
  have hl : lv_has ls 2 [(0, .ref x0), (1, .int p1)] := hl
  refine lv_aload_n hx hb d_X_pair_0 rfl (lv_at hl 0 rfl) ?_
  refine lv_iload_n hx hb d_X_pair_1 rfl (lv_at hl 1 rfl) ?_
  refine lv_sipush (v := 255) hx hb d_X_pair_2 (by decide) ?_
  refine lv_iand hx hb d_X_pair_5 ?_
  have hPc := hP.sub (ws' := [c_X x0 x1 x2 x3 x4 ku, c_A x1 c1 1024 m1]) [0, 1] rfl
  have hDc := hD.sub (ws' := [c_X x0 x1 x2 x3 x4 ku, c_A x1 c1 1024 m1]) [0, 1] (by decide) rfl
  have hKc := hK.sub (tys' := [(c1, .int)]) [0] rfl
  have hFc := va_free (wc := [c_X x0 x1 x2 x3 x4 ku, c_A x1 c1 1024 m1]) hD hS hA [0, 1] rfl
  refine va_calli (va_runV (As := [.int (p1 &&& (255 : Int32))]) (rest := []) ⟨hx, hb, hml, hown, htB⟩ (c_X_read l dC dI z0 x0 x1 x2 x3 x4 c1 H.size (p1 &&& (255 : Int32)) ku m1) (cwV 1 htB (gd_V mw_552 mw_554 sw_X_read mw_4 mw_555) rfl rfl rfl (by decide +kernel) ⟨Nat.le_of_ble_eq_true rfl, Nat.le_of_ble_eq_true rfl⟩) (pcx_V (va_recv hKc hPc (ci := 3) (q0 := 0) rfl rfl) hPc hKc hDc hA0 hE hS) rfl rfl hl.1 rfl (lv_room (Nat.le_of_ble_eq_true rfl)) d_X_pair_6 ⟨Nat.zero_le _, Nat.zero_le _⟩) hS (fun q _ h => hFc q h) hFc (fun r9 u t H1 locs ht hvm hw hB hz1 hk1 hS => ?_)
  subst hw
  obtain ⟨hP1, hK1, hD1⟩ := hB
  rw [ht] at hP1
  obtain ⟨hP, hD⟩ := va_join (wr := []) (w1 := [c_X x0 x1 x2 x3 x4 ((f_X_read (p1 &&& (255 : Int32)) ku m1).2), c_A x1 c1 1024 m1]) hP hD [0, 1] [] rfl rfl (by decide) (by decide) hk1 hFc hP1 hD1
  generalize H1 = H at hP hS ⊢
  have hP : va_P (dC, dI) classes [c_X x0 x1 x2 x3 x4 ((f_X_read (p1 &&& (255 : Int32)) ku m1).2), c_A x1 c1 1024 m1] H := hP.sub [0, 1] rfl
  have hD : va_D A [c_X x0 x1 x2 x3 x4 ((f_X_read (p1 &&& (255 : Int32)) ku m1).2), c_A x1 c1 1024 m1] := hD.sub [0, 1] (by decide) rfl
  refine lv_sipush (v := 256) hx hb d_X_pair_9 (by decide) ?_
  refine lv_aload_n hx hb d_X_pair_12 rfl (lv_at hl 0 rfl) ?_
  refine lv_iload_n hx hb d_X_pair_13 rfl (lv_at hl 1 rfl) ?_
  refine lv_iconst (v := 1) hx hb d_X_pair_14 (by decide) ?_
  refine lv_iadd hx hb d_X_pair_15 ?_
  refine lv_sipush (v := 255) hx hb d_X_pair_16 (by decide) ?_
  refine lv_iand hx hb d_X_pair_19 ?_
  have hPc := hP.sub (ws' := [c_X x0 x1 x2 x3 x4 ((f_X_read (p1 &&& (255 : Int32)) ku m1).2), c_A x1 c1 1024 m1]) [0, 1] rfl
  have hDc := hD.sub (ws' := [c_X x0 x1 x2 x3 x4 ((f_X_read (p1 &&& (255 : Int32)) ku m1).2), c_A x1 c1 1024 m1]) [0, 1] (by decide) rfl
  have hKc := hK.sub (tys' := [(c1, .int)]) [0] rfl
  have hFc := va_free (wc := [c_X x0 x1 x2 x3 x4 ((f_X_read (p1 &&& (255 : Int32)) ku m1).2), c_A x1 c1 1024 m1]) hD hS hA [0, 1] rfl
  refine va_calli (va_runV (As := [.int ((p1 + (1 : Int32)) &&& (255 : Int32))]) (rest := [.int (256 : Int32), .int ((f_X_read (p1 &&& (255 : Int32)) ku m1).1)]) ⟨hx, hb, hml, hown, htB⟩ (c_X_read l dC dI z0 x0 x1 x2 x3 x4 c1 H.size ((p1 + (1 : Int32)) &&& (255 : Int32)) ((f_X_read (p1 &&& (255 : Int32)) ku m1).2) m1) (cwV 1 htB (gd_V mw_552 mw_554 sw_X_read mw_4 mw_555) rfl rfl rfl (by decide +kernel) ⟨Nat.le_of_ble_eq_true rfl, Nat.le_of_ble_eq_true rfl⟩) (pcx_V (va_recv hKc hPc (ci := 3) (q0 := 0) rfl rfl) hPc hKc hDc hA0 hE hS) rfl rfl hl.1 rfl (lv_room (Nat.le_of_ble_eq_true rfl)) d_X_pair_20 ⟨Nat.zero_le _, Nat.zero_le _⟩) hS (fun q _ h => hFc q h) hFc (fun r9 u t H1 locs ht hvm hw hB hz1 hk1 hS => ?_)
  subst hw
  obtain ⟨hP1, hK1, hD1⟩ := hB
  rw [ht] at hP1
  obtain ⟨hP, hD⟩ := va_join (wr := []) (w1 := [c_X x0 x1 x2 x3 x4 ((f_X_read ((p1 + (1 : Int32)) &&& (255 : Int32)) ((f_X_read (p1 &&& (255 : Int32)) ku m1).2) m1).2), c_A x1 c1 1024 m1]) hP hD [0, 1] [] rfl rfl (by decide) (by decide) hk1 hFc hP1 hD1
  generalize H1 = H at hP hS ⊢
  have hP : va_P (dC, dI) classes [c_X x0 x1 x2 x3 x4 ((f_X_read ((p1 + (1 : Int32)) &&& (255 : Int32)) ((f_X_read (p1 &&& (255 : Int32)) ku m1).2) m1).2), c_A x1 c1 1024 m1] H := hP.sub [0, 1] rfl
  have hD : va_D A [c_X x0 x1 x2 x3 x4 ((f_X_read ((p1 + (1 : Int32)) &&& (255 : Int32)) ((f_X_read (p1 &&& (255 : Int32)) ku m1).2) m1).2), c_A x1 c1 1024 m1] := hD.sub [0, 1] (by decide) rfl
  refine lv_imul hx hb d_X_pair_23 ?_
  refine lv_iadd hx hb d_X_pair_24 ?_
  have hf : f_X_pair p1 ku m1 = ((((f_X_read (p1 &&& (255 : Int32)) ku m1).1) + ((256 : Int32) * ((f_X_read ((p1 + (1 : Int32)) &&& (255 : Int32)) ((f_X_read (p1 &&& (255 : Int32)) ku m1).2) m1).1))), (f_X_read ((p1 + (1 : Int32)) &&& (255 : Int32)) ((f_X_read (p1 &&& (255 : Int32)) ku m1).2) m1).2) := by rw [f_X_pair]
  exact W.iret (v := (((f_X_read (p1 &&& (255 : Int32)) ku m1).1) + ((256 : Int32) * ((f_X_read ((p1 + (1 : Int32)) &&& (255 : Int32)) ((f_X_read (p1 &&& (255 : Int32)) ku m1).2) m1).1)))) hx hb hr (fun t ht hW => ⟨⟨(((f_X_read (p1 &&& (255 : Int32)) ku m1).1) + ((256 : Int32) * ((f_X_read ((p1 + (1 : Int32)) &&& (255 : Int32)) ((f_X_read (p1 &&& (255 : Int32)) ku m1).2) m1).1))), (), rfl, (congrArg (fun z => z.1) hf).symm, by rw [hf]; exact ⟨by rw [ht]; exact hP, va_K.moved hW.alike hK, hD⟩⟩, hS.F ht⟩) hS.2.2 d_X_pair_25

theorem xs_pair {p1 : Int32} {u m1 : Nat → Int32} (h : xs_ok u) : xs_ok (f_X_pair p1 u m1).2 := xs_read (xs_read h)

def f_X_address (p1 : Int32) (ku m1 m3 : Nat → Int32) : Int32 × (Nat → Int32) × (Nat → Int32) :=
  if p1 = (9 : Int32) then
    ((0 : Int32), ku, m3)
  else
    if p1 < (4 : Int32) then
      if p1 = (1 : Int32) then
        ((((f_X_one ku m1 m3).1) 6), (f_X_one ku m1 m3).1, (f_X_one ku m1 m3).2)
      else
        if p1 = (2 : Int32) then
          ((((((f_X_one ku m1 m3).1) 6) + (((f_X_one ku m1 m3).2) 1)) &&& (255 : Int32)), (f_X_one ku m1 m3).1, (f_X_one ku m1 m3).2)
        else
          if p1 = (3 : Int32) then
            ((((((f_X_one ku m1 m3).1) 6) + (((f_X_one ku m1 m3).2) 2)) &&& (255 : Int32)), (f_X_one ku m1 m3).1, (f_X_one ku m1 m3).2)
          else
            if p1 = (4 : Int32) then
              ((((f_X_one ku m1 m3).1) 7), (f_X_one ku m1 m3).1, (f_X_one ku m1 m3).2)
            else
              if p1 = (5 : Int32) then
                (((((f_X_one ku m1 m3).1) 7) + (((f_X_one ku m1 m3).2) 1)), (f_X_one ku m1 m3).1, (f_X_one ku m1 m3).2)
              else
                if p1 = (6 : Int32) then
                  (((((f_X_one ku m1 m3).1) 7) + (((f_X_one ku m1 m3).2) 2)), (f_X_one ku m1 m3).1, (f_X_one ku m1 m3).2)
                else
                  if p1 = (7 : Int32) then
                    ((f_X_pair ((((f_X_one ku m1 m3).1) 6) + (((f_X_one ku m1 m3).2) 1)) ((f_X_one ku m1 m3).1) m1).1, (f_X_pair ((((f_X_one ku m1 m3).1) 6) + (((f_X_one ku m1 m3).2) 1)) ((f_X_one ku m1 m3).1) m1).2, (f_X_one ku m1 m3).2)
                  else
                    if p1 = (8 : Int32) then
                      ((((f_X_pair (((f_X_one ku m1 m3).1) 6) ((f_X_one ku m1 m3).1) m1).1) + (((f_X_one ku m1 m3).2) 2)), (f_X_pair (((f_X_one ku m1 m3).1) 6) ((f_X_one ku m1 m3).1) m1).2, (f_X_one ku m1 m3).2)
                    else
                      ((0 : Int32), (f_X_one ku m1 m3).1, (f_X_one ku m1 m3).2)
    else
      if (6 : Int32) < p1 then
        if p1 = (1 : Int32) then
          ((((f_X_one ku m1 m3).1) 6), (f_X_one ku m1 m3).1, (f_X_one ku m1 m3).2)
        else
          if p1 = (2 : Int32) then
            ((((((f_X_one ku m1 m3).1) 6) + (((f_X_one ku m1 m3).2) 1)) &&& (255 : Int32)), (f_X_one ku m1 m3).1, (f_X_one ku m1 m3).2)
          else
            if p1 = (3 : Int32) then
              ((((((f_X_one ku m1 m3).1) 6) + (((f_X_one ku m1 m3).2) 2)) &&& (255 : Int32)), (f_X_one ku m1 m3).1, (f_X_one ku m1 m3).2)
            else
              if p1 = (4 : Int32) then
                ((((f_X_one ku m1 m3).1) 7), (f_X_one ku m1 m3).1, (f_X_one ku m1 m3).2)
              else
                if p1 = (5 : Int32) then
                  (((((f_X_one ku m1 m3).1) 7) + (((f_X_one ku m1 m3).2) 1)), (f_X_one ku m1 m3).1, (f_X_one ku m1 m3).2)
                else
                  if p1 = (6 : Int32) then
                    (((((f_X_one ku m1 m3).1) 7) + (((f_X_one ku m1 m3).2) 2)), (f_X_one ku m1 m3).1, (f_X_one ku m1 m3).2)
                  else
                    if p1 = (7 : Int32) then
                      ((f_X_pair ((((f_X_one ku m1 m3).1) 6) + (((f_X_one ku m1 m3).2) 1)) ((f_X_one ku m1 m3).1) m1).1, (f_X_pair ((((f_X_one ku m1 m3).1) 6) + (((f_X_one ku m1 m3).2) 1)) ((f_X_one ku m1 m3).1) m1).2, (f_X_one ku m1 m3).2)
                    else
                      if p1 = (8 : Int32) then
                        ((((f_X_pair (((f_X_one ku m1 m3).1) 6) ((f_X_one ku m1 m3).1) m1).1) + (((f_X_one ku m1 m3).2) 2)), (f_X_pair (((f_X_one ku m1 m3).1) 6) ((f_X_one ku m1 m3).1) m1).2, (f_X_one ku m1 m3).2)
                      else
                        ((0 : Int32), (f_X_one ku m1 m3).1, (f_X_one ku m1 m3).2)
      else
        if p1 = (1 : Int32) then
          ((((f_X_two ku m1 m3).1) 6), (f_X_two ku m1 m3).1, (f_X_two ku m1 m3).2)
        else
          if p1 = (2 : Int32) then
            ((((((f_X_two ku m1 m3).1) 6) + (((f_X_two ku m1 m3).2) 1)) &&& (255 : Int32)), (f_X_two ku m1 m3).1, (f_X_two ku m1 m3).2)
          else
            if p1 = (3 : Int32) then
              ((((((f_X_two ku m1 m3).1) 6) + (((f_X_two ku m1 m3).2) 2)) &&& (255 : Int32)), (f_X_two ku m1 m3).1, (f_X_two ku m1 m3).2)
            else
              if p1 = (4 : Int32) then
                ((((f_X_two ku m1 m3).1) 7), (f_X_two ku m1 m3).1, (f_X_two ku m1 m3).2)
              else
                if p1 = (5 : Int32) then
                  (((((f_X_two ku m1 m3).1) 7) + (((f_X_two ku m1 m3).2) 1)), (f_X_two ku m1 m3).1, (f_X_two ku m1 m3).2)
                else
                  if p1 = (6 : Int32) then
                    (((((f_X_two ku m1 m3).1) 7) + (((f_X_two ku m1 m3).2) 2)), (f_X_two ku m1 m3).1, (f_X_two ku m1 m3).2)
                  else
                    if p1 = (7 : Int32) then
                      ((f_X_pair ((((f_X_two ku m1 m3).1) 6) + (((f_X_two ku m1 m3).2) 1)) ((f_X_two ku m1 m3).1) m1).1, (f_X_pair ((((f_X_two ku m1 m3).1) 6) + (((f_X_two ku m1 m3).2) 1)) ((f_X_two ku m1 m3).1) m1).2, (f_X_two ku m1 m3).2)
                    else
                      if p1 = (8 : Int32) then
                        ((((f_X_pair (((f_X_two ku m1 m3).1) 6) ((f_X_two ku m1 m3).1) m1).1) + (((f_X_two ku m1 m3).2) 2)), (f_X_pair (((f_X_two ku m1 m3).1) 6) ((f_X_two ku m1 m3).1) m1).2, (f_X_two ku m1 m3).2)
                      else
                        ((0 : Int32), (f_X_two ku m1 m3).1, (f_X_two ku m1 m3).2)
abbrev Q_X_address (dC : Nat → ClassId) (dI : Nat → Nat → Nat) (x0 : Nat) (x1 : Nat) (x2 : Nat) (x3 : Nat) (x4 : Nat) (c1 : ClassId) (c3 : ClassId) (p1 : Int32) (ku m1 m3 : Nat → Int32) (A : Nat → Prop) : Array Value → State → Outcome → State → Prop := va_Qi (fun (r9 : Int32) (_ : Unit) => r9 = (f_X_address p1 ku m1 m3).1) (fun _ t => atW (dC, dI) classes A [c_X x0 x1 x2 x3 x4 ((f_X_address p1 ku m1 m3).2.1), c_A x1 c1 1024 m1, c_A x3 c3 9 ((f_X_address p1 ku m1 m3).2.2)] [(c1, .int), (c3, .int)] t) A
set_option maxHeartbeats 4000000 in
set_option maxRecDepth 100000 in
theorem c_X_address (l : Launch) (dC : Nat → ClassId) (dI : Nat → Nat → Nat) (z0 : Nat) (x0 : Nat) (x1 : Nat) (x2 : Nat) (x3 : Nat) (x4 : Nat) (c1 : ClassId) (c3 : ClassId) (sz : Nat) (p1 : Int32) (ku m1 m3 : Nat → Int32)  : Met l y_X_address w_X_address ({ frames := 3, cells := 0, slots := 0, locals := 64 }) (PcX (dC, dI) classes z0 [c_X x0 x1 x2 x3 x4 ku, c_A x1 c1 1024 m1, c_A x3 c3 9 m3] [(c1, .int), (c3, .int)] sz [.ref x0, .int p1]) (Q_X_address dC dI x0 x1 x2 x3 x4 c1 c3 p1 ku m1 m3 (va_A [c_X x0 x1 x2 x3 x4 ku, c_A x1 c1 1024 m1, c_A x3 c3 9 m3] sz)) 0 0 (va_A [c_X x0 x1 x2 x3 x4 ku, c_A x1 c1 1024 m1, c_A x3 c3 9 m3] sz) := by
  refine hdX (cc := b_X_address) (maxL := 2) (ret := (some .int)) (C := R_X) (Qc := (Q_X_address dC dI x0 x1 x2 x3 x4 c1 c3 p1 ku m1 m3)) (by decide) rfl ?_
  intro p e s m below meth c A H hx hb hr hlocks hml hown hin htB hP hK hD hA hA0 hE hS
  have hl := lv_entry ([.ref x0, .int p1]) (n := 2) (Nat.le_of_ble_eq_true rfl)
  rw [lg_entry_eq]
  generalize (lg_sl ([.ref x0, .int p1]) ++ List.replicate (2 - (lg_sl ([.ref x0, .int p1])).length) Slot.unset).toArray = ls at hl ⊢
  have hl : lv_has ls 2 [(0, .ref x0), (1, .int p1)] := hl
  refine lv_iload_n hx hb d_X_address_0 rfl (lv_at hl 1 rfl) ?_
  refine lv_bipush (v := 9) hx hb d_X_address_1 (by decide) ?_
  refine lv_icmp_ne (tgt := 8) hx hb d_X_address_3 (by decide) (fun c_1 => ?_) (fun c_1 => ?_)
  · refine lv_iload_n hx hb d_X_address_8 rfl (lv_at hl 1 rfl) ?_
    refine lv_iconst (v := 4) hx hb d_X_address_9 (by decide) ?_
    refine lv_icmp_lt (tgt := 26) hx hb d_X_address_10 (by decide) (fun c_2 => ?_) (fun c_2 => ?_)
    · refine lv_aload_n hx hb d_X_address_26 rfl (lv_at hl 0 rfl) ?_
      have hPc := hP.sub (ws' := [c_X x0 x1 x2 x3 x4 ku, c_A x1 c1 1024 m1, c_A x3 c3 9 m3]) [0, 1, 2] rfl
      have hDc := hD.sub (ws' := [c_X x0 x1 x2 x3 x4 ku, c_A x1 c1 1024 m1, c_A x3 c3 9 m3]) [0, 1, 2] (by decide) rfl
      have hKc := hK.sub (tys' := [(c1, .int), (c3, .int)]) [0, 1] rfl
      have hFc := va_free (wc := [c_X x0 x1 x2 x3 x4 ku, c_A x1 c1 1024 m1, c_A x3 c3 9 m3]) hD hS hA [0, 1, 2] rfl
      refine va_callv (va_runV (As := []) (rest := []) ⟨hx, hb, hml, hown, htB⟩ (c_X_one l dC dI z0 x0 x1 x2 x3 x4 c1 c3 H.size ku m1 m3) (cwV 0 htB (gd_V mw_571 mw_573 sw_X_one mw_4 mw_574) rfl rfl rfl (by decide +kernel) ⟨Nat.le_of_ble_eq_true rfl, Nat.le_of_ble_eq_true rfl⟩) (pcx_V (va_recv hKc hPc (ci := 3) (q0 := 0) rfl rfl) hPc hKc hDc hA0 hE hS) rfl rfl hl.1 rfl (lv_room (Nat.le_of_ble_eq_true rfl)) d_X_address_27 ⟨Nat.zero_le _, Nat.zero_le _⟩) hS (fun q _ h => hFc q h) hFc (fun u t H1 locs ht hvm hw hB hz1 hk1 hS => ?_)
      obtain ⟨hP1, hK1, hD1⟩ := hB
      rw [ht] at hP1
      obtain ⟨hP, hD⟩ := va_join (wr := []) (w1 := [c_X x0 x1 x2 x3 x4 ((f_X_one ku m1 m3).1), c_A x1 c1 1024 m1, c_A x3 c3 9 ((f_X_one ku m1 m3).2)]) hP hD [0, 1, 2] [] rfl rfl (by decide) (by decide) hk1 hFc hP1 hD1
      generalize H1 = H at hP hS ⊢
      have hP : va_P (dC, dI) classes [c_X x0 x1 x2 x3 x4 ((f_X_one ku m1 m3).1), c_A x1 c1 1024 m1, c_A x3 c3 9 ((f_X_one ku m1 m3).2)] H := hP.sub [0, 1, 2] rfl
      have hD : va_D A [c_X x0 x1 x2 x3 x4 ((f_X_one ku m1 m3).1), c_A x1 c1 1024 m1, c_A x3 c3 9 ((f_X_one ku m1 m3).2)] := hD.sub [0, 1, 2] (by decide) rfl
      refine lv_iload_n hx hb d_X_address_30 rfl (lv_at hl 1 rfl) ?_
      refine lv_iconst (v := 1) hx hb d_X_address_31 (by decide) ?_
      refine lv_icmp_ne (tgt := 40) hx hb d_X_address_32 (by decide) (fun c_3 => ?_) (fun c_3 => ?_)
      · refine lv_iload_n hx hb d_X_address_40 rfl (lv_at hl 1 rfl) ?_
        refine lv_iconst (v := 2) hx hb d_X_address_41 (by decide) ?_
        refine lv_icmp_ne (tgt := 61) hx hb d_X_address_42 (by decide) (fun c_4 => ?_) (fun c_4 => ?_)
        · refine lv_iload_n hx hb d_X_address_61 rfl (lv_at hl 1 rfl) ?_
          refine lv_iconst (v := 3) hx hb d_X_address_62 (by decide) ?_
          refine lv_icmp_ne (tgt := 82) hx hb d_X_address_63 (by decide) (fun c_5 => ?_) (fun c_5 => ?_)
          · refine lv_iload_n hx hb d_X_address_82 rfl (lv_at hl 1 rfl) ?_
            refine lv_iconst (v := 4) hx hb d_X_address_83 (by decide) ?_
            refine lv_icmp_ne (tgt := 92) hx hb d_X_address_84 (by decide) (fun c_6 => ?_) (fun c_6 => ?_)
            · refine lv_iload_n hx hb d_X_address_92 rfl (lv_at hl 1 rfl) ?_
              refine lv_iconst (v := 5) hx hb d_X_address_93 (by decide) ?_
              refine lv_icmp_ne (tgt := 109) hx hb d_X_address_94 (by decide) (fun c_7 => ?_) (fun c_7 => ?_)
              · refine lv_iload_n hx hb d_X_address_109 rfl (lv_at hl 1 rfl) ?_
                refine lv_bipush (v := 6) hx hb d_X_address_110 (by decide) ?_
                refine lv_icmp_ne (tgt := 127) hx hb d_X_address_112 (by decide) (fun c_8 => ?_) (fun c_8 => ?_)
                · refine lv_iload_n hx hb d_X_address_127 rfl (lv_at hl 1 rfl) ?_
                  refine lv_bipush (v := 7) hx hb d_X_address_128 (by decide) ?_
                  refine lv_icmp_ne (tgt := 149) hx hb d_X_address_130 (by decide) (fun c_9 => ?_) (fun c_9 => ?_)
                  · refine lv_iload_n hx hb d_X_address_149 rfl (lv_at hl 1 rfl) ?_
                    refine lv_bipush (v := 8) hx hb d_X_address_150 (by decide) ?_
                    refine lv_icmp_ne (tgt := 173) hx hb d_X_address_152 (by decide) (fun c_10 => ?_) (fun c_10 => ?_)
                    · refine lv_iconst (v := 0) hx hb d_X_address_173 (by decide) ?_
                      have hf : f_X_address p1 ku m1 m3 = ((0 : Int32), (f_X_one ku m1 m3).1, (f_X_one ku m1 m3).2) := by rw [f_X_address, if_neg c_1, if_pos c_2, if_neg c_3, if_neg c_4, if_neg c_5, if_neg c_6, if_neg c_7, if_neg c_8, if_neg c_9, if_neg c_10]
                      exact W.iret (v := (0 : Int32)) hx hb hr (fun t ht hW => ⟨⟨(0 : Int32), (), rfl, (congrArg (fun z => z.1) hf).symm, by rw [hf]; exact ⟨by rw [ht]; exact hP, va_K.moved hW.alike hK, hD⟩⟩, hS.F ht⟩) hS.2.2 d_X_address_174
                    · refine lv_aload_n hx hb d_X_address_155 rfl (lv_at hl 0 rfl) ?_
                      refine lv_aload_n hx hb d_X_address_156 rfl (lv_at hl 0 rfl) ?_
                      refine va_get (D := (dC, dI)) (ci := 3) (v := .int (((f_X_one ku m1 m3).1) 6)) (C := R_X) (T := F_X) (N := 13) hx hb htB i_X hown hK hP 0 rfl rfl 10 (by decide) (htB _ mw_471) (fun _ h9 => h9) rfl d_X_address_157 ?_
                      have hPc := hP.sub (ws' := [c_X x0 x1 x2 x3 x4 ((f_X_one ku m1 m3).1), c_A x1 c1 1024 m1]) [0, 1] rfl
                      have hDc := hD.sub (ws' := [c_X x0 x1 x2 x3 x4 ((f_X_one ku m1 m3).1), c_A x1 c1 1024 m1]) [0, 1] (by decide) rfl
                      have hKc := hK.sub (tys' := [(c1, .int)]) [0] rfl
                      have hFc := va_free (wc := [c_X x0 x1 x2 x3 x4 ((f_X_one ku m1 m3).1), c_A x1 c1 1024 m1]) hD hS hA [0, 1] rfl
                      refine va_calli (va_runV (As := [.int (((f_X_one ku m1 m3).1) 6)]) (rest := []) ⟨hx, hb, hml, hown, htB⟩ (c_X_pair l dC dI z0 x0 x1 x2 x3 x4 c1 H.size (((f_X_one ku m1 m3).1) 6) ((f_X_one ku m1 m3).1) m1) (cwV 1 htB (gd_V mw_575 mw_577 sw_X_pair mw_4 mw_578) rfl rfl rfl (by decide +kernel) ⟨Nat.le_of_ble_eq_true rfl, Nat.le_of_ble_eq_true rfl⟩) (pcx_V (va_recv hKc hPc (ci := 3) (q0 := 0) rfl rfl) hPc hKc hDc hA0 hE hS) rfl rfl hl.1 rfl (lv_room (Nat.le_of_ble_eq_true rfl)) d_X_address_160 ⟨Nat.zero_le _, Nat.zero_le _⟩) hS (fun q _ h => hFc q h) hFc (fun r9 u t H1 locs ht hvm hw hB hz1 hk1 hS => ?_)
                      subst hw
                      obtain ⟨hP1, hK1, hD1⟩ := hB
                      rw [ht] at hP1
                      obtain ⟨hP, hD⟩ := va_join (wr := [c_A x3 c3 9 ((f_X_one ku m1 m3).2)]) (w1 := [c_X x0 x1 x2 x3 x4 ((f_X_pair (((f_X_one ku m1 m3).1) 6) ((f_X_one ku m1 m3).1) m1).2), c_A x1 c1 1024 m1]) hP hD [0, 1] [2] rfl rfl (by decide) (by decide) hk1 hFc hP1 hD1
                      generalize H1 = H at hP hS ⊢
                      have hP : va_P (dC, dI) classes [c_X x0 x1 x2 x3 x4 ((f_X_pair (((f_X_one ku m1 m3).1) 6) ((f_X_one ku m1 m3).1) m1).2), c_A x1 c1 1024 m1, c_A x3 c3 9 ((f_X_one ku m1 m3).2)] H := hP.sub [1, 2, 0] rfl
                      have hD : va_D A [c_X x0 x1 x2 x3 x4 ((f_X_pair (((f_X_one ku m1 m3).1) 6) ((f_X_one ku m1 m3).1) m1).2), c_A x1 c1 1024 m1, c_A x3 c3 9 ((f_X_one ku m1 m3).2)] := hD.sub [1, 2, 0] (by decide) rfl
                      refine lv_aload_n hx hb d_X_address_163 rfl (lv_at hl 0 rfl) ?_
                      refine va_get (D := (dC, dI)) (ci := 3) (v := .ref x3) (C := R_X) (T := F_X) (N := 13) hx hb htB i_X hown hK hP 0 rfl rfl 2 (by decide) (htB _ mw_463) (fun _ h9 => h9) rfl d_X_address_164 ?_
                      refine lv_iconst (v := 2) hx hb d_X_address_167 (by decide) ?_
                      refine iald_at hx hb hK hP 2 1 rfl rfl (show ¬ ((2 : Int32) < 0 ∨ 9 ≤ (2 : Int32).toNatClampNeg) from by decide) (show (2 : Int32).toNatClampNeg = 2 from by decide) d_X_address_168 ?_
                      refine lv_iadd hx hb d_X_address_169 ?_
                      refine lv_goto (tgt := 174) hx hb d_X_address_170 (by decide) ?_
                      have hf : f_X_address p1 ku m1 m3 = ((((f_X_pair (((f_X_one ku m1 m3).1) 6) ((f_X_one ku m1 m3).1) m1).1) + (((f_X_one ku m1 m3).2) 2)), (f_X_pair (((f_X_one ku m1 m3).1) 6) ((f_X_one ku m1 m3).1) m1).2, (f_X_one ku m1 m3).2) := by rw [f_X_address, if_neg c_1, if_pos c_2, if_neg c_3, if_neg c_4, if_neg c_5, if_neg c_6, if_neg c_7, if_neg c_8, if_neg c_9, if_pos c_10]
                      exact W.iret (v := (((f_X_pair (((f_X_one ku m1 m3).1) 6) ((f_X_one ku m1 m3).1) m1).1) + (((f_X_one ku m1 m3).2) 2))) hx hb hr (fun t ht hW => ⟨⟨(((f_X_pair (((f_X_one ku m1 m3).1) 6) ((f_X_one ku m1 m3).1) m1).1) + (((f_X_one ku m1 m3).2) 2)), (), rfl, (congrArg (fun z => z.1) hf).symm, by rw [hf]; exact ⟨by rw [ht]; exact hP, va_K.moved hW.alike hK, hD⟩⟩, hS.F ht⟩) hS.2.2 d_X_address_174
                  · refine lv_aload_n hx hb d_X_address_133 rfl (lv_at hl 0 rfl) ?_
                    refine lv_aload_n hx hb d_X_address_134 rfl (lv_at hl 0 rfl) ?_
                    refine va_get (D := (dC, dI)) (ci := 3) (v := .int (((f_X_one ku m1 m3).1) 6)) (C := R_X) (T := F_X) (N := 13) hx hb htB i_X hown hK hP 0 rfl rfl 10 (by decide) (htB _ mw_471) (fun _ h9 => h9) rfl d_X_address_135 ?_
                    refine lv_aload_n hx hb d_X_address_138 rfl (lv_at hl 0 rfl) ?_
                    refine va_get (D := (dC, dI)) (ci := 3) (v := .ref x3) (C := R_X) (T := F_X) (N := 13) hx hb htB i_X hown hK hP 0 rfl rfl 2 (by decide) (htB _ mw_463) (fun _ h9 => h9) rfl d_X_address_139 ?_
                    refine lv_iconst (v := 1) hx hb d_X_address_142 (by decide) ?_
                    refine iald_at hx hb hK hP 2 1 rfl rfl (show ¬ ((1 : Int32) < 0 ∨ 9 ≤ (1 : Int32).toNatClampNeg) from by decide) (show (1 : Int32).toNatClampNeg = 1 from by decide) d_X_address_143 ?_
                    refine lv_iadd hx hb d_X_address_144 ?_
                    have hPc := hP.sub (ws' := [c_X x0 x1 x2 x3 x4 ((f_X_one ku m1 m3).1), c_A x1 c1 1024 m1]) [0, 1] rfl
                    have hDc := hD.sub (ws' := [c_X x0 x1 x2 x3 x4 ((f_X_one ku m1 m3).1), c_A x1 c1 1024 m1]) [0, 1] (by decide) rfl
                    have hKc := hK.sub (tys' := [(c1, .int)]) [0] rfl
                    have hFc := va_free (wc := [c_X x0 x1 x2 x3 x4 ((f_X_one ku m1 m3).1), c_A x1 c1 1024 m1]) hD hS hA [0, 1] rfl
                    refine va_calli (va_runV (As := [.int ((((f_X_one ku m1 m3).1) 6) + (((f_X_one ku m1 m3).2) 1))]) (rest := []) ⟨hx, hb, hml, hown, htB⟩ (c_X_pair l dC dI z0 x0 x1 x2 x3 x4 c1 H.size ((((f_X_one ku m1 m3).1) 6) + (((f_X_one ku m1 m3).2) 1)) ((f_X_one ku m1 m3).1) m1) (cwV 1 htB (gd_V mw_575 mw_577 sw_X_pair mw_4 mw_578) rfl rfl rfl (by decide +kernel) ⟨Nat.le_of_ble_eq_true rfl, Nat.le_of_ble_eq_true rfl⟩) (pcx_V (va_recv hKc hPc (ci := 3) (q0 := 0) rfl rfl) hPc hKc hDc hA0 hE hS) rfl rfl hl.1 rfl (lv_room (Nat.le_of_ble_eq_true rfl)) d_X_address_145 ⟨Nat.zero_le _, Nat.zero_le _⟩) hS (fun q _ h => hFc q h) hFc (fun r9 u t H1 locs ht hvm hw hB hz1 hk1 hS => ?_)
                    subst hw
                    obtain ⟨hP1, hK1, hD1⟩ := hB
                    rw [ht] at hP1
                    obtain ⟨hP, hD⟩ := va_join (wr := [c_A x3 c3 9 ((f_X_one ku m1 m3).2)]) (w1 := [c_X x0 x1 x2 x3 x4 ((f_X_pair ((((f_X_one ku m1 m3).1) 6) + (((f_X_one ku m1 m3).2) 1)) ((f_X_one ku m1 m3).1) m1).2), c_A x1 c1 1024 m1]) hP hD [0, 1] [2] rfl rfl (by decide) (by decide) hk1 hFc hP1 hD1
                    generalize H1 = H at hP hS ⊢
                    have hP : va_P (dC, dI) classes [c_X x0 x1 x2 x3 x4 ((f_X_pair ((((f_X_one ku m1 m3).1) 6) + (((f_X_one ku m1 m3).2) 1)) ((f_X_one ku m1 m3).1) m1).2), c_A x1 c1 1024 m1, c_A x3 c3 9 ((f_X_one ku m1 m3).2)] H := hP.sub [1, 2, 0] rfl
                    have hD : va_D A [c_X x0 x1 x2 x3 x4 ((f_X_pair ((((f_X_one ku m1 m3).1) 6) + (((f_X_one ku m1 m3).2) 1)) ((f_X_one ku m1 m3).1) m1).2), c_A x1 c1 1024 m1, c_A x3 c3 9 ((f_X_one ku m1 m3).2)] := hD.sub [1, 2, 0] (by decide) rfl
                    have hf : f_X_address p1 ku m1 m3 = ((f_X_pair ((((f_X_one ku m1 m3).1) 6) + (((f_X_one ku m1 m3).2) 1)) ((f_X_one ku m1 m3).1) m1).1, (f_X_pair ((((f_X_one ku m1 m3).1) 6) + (((f_X_one ku m1 m3).2) 1)) ((f_X_one ku m1 m3).1) m1).2, (f_X_one ku m1 m3).2) := by rw [f_X_address, if_neg c_1, if_pos c_2, if_neg c_3, if_neg c_4, if_neg c_5, if_neg c_6, if_neg c_7, if_neg c_8, if_pos c_9]
                    exact W.iret (v := (f_X_pair ((((f_X_one ku m1 m3).1) 6) + (((f_X_one ku m1 m3).2) 1)) ((f_X_one ku m1 m3).1) m1).1) hx hb hr (fun t ht hW => ⟨⟨(f_X_pair ((((f_X_one ku m1 m3).1) 6) + (((f_X_one ku m1 m3).2) 1)) ((f_X_one ku m1 m3).1) m1).1, (), rfl, (congrArg (fun z => z.1) hf).symm, by rw [hf]; exact ⟨by rw [ht]; exact hP, va_K.moved hW.alike hK, hD⟩⟩, hS.F ht⟩) hS.2.2 d_X_address_148
                · refine lv_aload_n hx hb d_X_address_115 rfl (lv_at hl 0 rfl) ?_
                  refine va_get (D := (dC, dI)) (ci := 3) (v := .int (((f_X_one ku m1 m3).1) 7)) (C := R_X) (T := F_X) (N := 13) hx hb htB i_X hown hK hP 0 rfl rfl 11 (by decide) (htB _ mw_472) (fun _ h9 => h9) rfl d_X_address_116 ?_
                  refine lv_aload_n hx hb d_X_address_119 rfl (lv_at hl 0 rfl) ?_
                  refine va_get (D := (dC, dI)) (ci := 3) (v := .ref x3) (C := R_X) (T := F_X) (N := 13) hx hb htB i_X hown hK hP 0 rfl rfl 2 (by decide) (htB _ mw_463) (fun _ h9 => h9) rfl d_X_address_120 ?_
                  refine lv_iconst (v := 2) hx hb d_X_address_123 (by decide) ?_
                  refine iald_at hx hb hK hP 2 1 rfl rfl (show ¬ ((2 : Int32) < 0 ∨ 9 ≤ (2 : Int32).toNatClampNeg) from by decide) (show (2 : Int32).toNatClampNeg = 2 from by decide) d_X_address_124 ?_
                  refine lv_iadd hx hb d_X_address_125 ?_
                  have hf : f_X_address p1 ku m1 m3 = (((((f_X_one ku m1 m3).1) 7) + (((f_X_one ku m1 m3).2) 2)), (f_X_one ku m1 m3).1, (f_X_one ku m1 m3).2) := by rw [f_X_address, if_neg c_1, if_pos c_2, if_neg c_3, if_neg c_4, if_neg c_5, if_neg c_6, if_neg c_7, if_pos c_8]
                  exact W.iret (v := ((((f_X_one ku m1 m3).1) 7) + (((f_X_one ku m1 m3).2) 2))) hx hb hr (fun t ht hW => ⟨⟨((((f_X_one ku m1 m3).1) 7) + (((f_X_one ku m1 m3).2) 2)), (), rfl, (congrArg (fun z => z.1) hf).symm, by rw [hf]; exact ⟨by rw [ht]; exact hP, va_K.moved hW.alike hK, hD⟩⟩, hS.F ht⟩) hS.2.2 d_X_address_126
              · refine lv_aload_n hx hb d_X_address_97 rfl (lv_at hl 0 rfl) ?_
                refine va_get (D := (dC, dI)) (ci := 3) (v := .int (((f_X_one ku m1 m3).1) 7)) (C := R_X) (T := F_X) (N := 13) hx hb htB i_X hown hK hP 0 rfl rfl 11 (by decide) (htB _ mw_472) (fun _ h9 => h9) rfl d_X_address_98 ?_
                refine lv_aload_n hx hb d_X_address_101 rfl (lv_at hl 0 rfl) ?_
                refine va_get (D := (dC, dI)) (ci := 3) (v := .ref x3) (C := R_X) (T := F_X) (N := 13) hx hb htB i_X hown hK hP 0 rfl rfl 2 (by decide) (htB _ mw_463) (fun _ h9 => h9) rfl d_X_address_102 ?_
                refine lv_iconst (v := 1) hx hb d_X_address_105 (by decide) ?_
                refine iald_at hx hb hK hP 2 1 rfl rfl (show ¬ ((1 : Int32) < 0 ∨ 9 ≤ (1 : Int32).toNatClampNeg) from by decide) (show (1 : Int32).toNatClampNeg = 1 from by decide) d_X_address_106 ?_
                refine lv_iadd hx hb d_X_address_107 ?_
                have hf : f_X_address p1 ku m1 m3 = (((((f_X_one ku m1 m3).1) 7) + (((f_X_one ku m1 m3).2) 1)), (f_X_one ku m1 m3).1, (f_X_one ku m1 m3).2) := by rw [f_X_address, if_neg c_1, if_pos c_2, if_neg c_3, if_neg c_4, if_neg c_5, if_neg c_6, if_pos c_7]
                exact W.iret (v := ((((f_X_one ku m1 m3).1) 7) + (((f_X_one ku m1 m3).2) 1))) hx hb hr (fun t ht hW => ⟨⟨((((f_X_one ku m1 m3).1) 7) + (((f_X_one ku m1 m3).2) 1)), (), rfl, (congrArg (fun z => z.1) hf).symm, by rw [hf]; exact ⟨by rw [ht]; exact hP, va_K.moved hW.alike hK, hD⟩⟩, hS.F ht⟩) hS.2.2 d_X_address_108
            · refine lv_aload_n hx hb d_X_address_87 rfl (lv_at hl 0 rfl) ?_
              refine va_get (D := (dC, dI)) (ci := 3) (v := .int (((f_X_one ku m1 m3).1) 7)) (C := R_X) (T := F_X) (N := 13) hx hb htB i_X hown hK hP 0 rfl rfl 11 (by decide) (htB _ mw_472) (fun _ h9 => h9) rfl d_X_address_88 ?_
              have hf : f_X_address p1 ku m1 m3 = ((((f_X_one ku m1 m3).1) 7), (f_X_one ku m1 m3).1, (f_X_one ku m1 m3).2) := by rw [f_X_address, if_neg c_1, if_pos c_2, if_neg c_3, if_neg c_4, if_neg c_5, if_pos c_6]
              exact W.iret (v := (((f_X_one ku m1 m3).1) 7)) hx hb hr (fun t ht hW => ⟨⟨(((f_X_one ku m1 m3).1) 7), (), rfl, (congrArg (fun z => z.1) hf).symm, by rw [hf]; exact ⟨by rw [ht]; exact hP, va_K.moved hW.alike hK, hD⟩⟩, hS.F ht⟩) hS.2.2 d_X_address_91
          · refine lv_aload_n hx hb d_X_address_66 rfl (lv_at hl 0 rfl) ?_
            refine va_get (D := (dC, dI)) (ci := 3) (v := .int (((f_X_one ku m1 m3).1) 6)) (C := R_X) (T := F_X) (N := 13) hx hb htB i_X hown hK hP 0 rfl rfl 10 (by decide) (htB _ mw_471) (fun _ h9 => h9) rfl d_X_address_67 ?_
            refine lv_aload_n hx hb d_X_address_70 rfl (lv_at hl 0 rfl) ?_
            refine va_get (D := (dC, dI)) (ci := 3) (v := .ref x3) (C := R_X) (T := F_X) (N := 13) hx hb htB i_X hown hK hP 0 rfl rfl 2 (by decide) (htB _ mw_463) (fun _ h9 => h9) rfl d_X_address_71 ?_
            refine lv_iconst (v := 2) hx hb d_X_address_74 (by decide) ?_
            refine iald_at hx hb hK hP 2 1 rfl rfl (show ¬ ((2 : Int32) < 0 ∨ 9 ≤ (2 : Int32).toNatClampNeg) from by decide) (show (2 : Int32).toNatClampNeg = 2 from by decide) d_X_address_75 ?_
            refine lv_iadd hx hb d_X_address_76 ?_
            refine lv_sipush (v := 255) hx hb d_X_address_77 (by decide) ?_
            refine lv_iand hx hb d_X_address_80 ?_
            have hf : f_X_address p1 ku m1 m3 = ((((((f_X_one ku m1 m3).1) 6) + (((f_X_one ku m1 m3).2) 2)) &&& (255 : Int32)), (f_X_one ku m1 m3).1, (f_X_one ku m1 m3).2) := by rw [f_X_address, if_neg c_1, if_pos c_2, if_neg c_3, if_neg c_4, if_pos c_5]
            exact W.iret (v := (((((f_X_one ku m1 m3).1) 6) + (((f_X_one ku m1 m3).2) 2)) &&& (255 : Int32))) hx hb hr (fun t ht hW => ⟨⟨(((((f_X_one ku m1 m3).1) 6) + (((f_X_one ku m1 m3).2) 2)) &&& (255 : Int32)), (), rfl, (congrArg (fun z => z.1) hf).symm, by rw [hf]; exact ⟨by rw [ht]; exact hP, va_K.moved hW.alike hK, hD⟩⟩, hS.F ht⟩) hS.2.2 d_X_address_81
        · refine lv_aload_n hx hb d_X_address_45 rfl (lv_at hl 0 rfl) ?_
          refine va_get (D := (dC, dI)) (ci := 3) (v := .int (((f_X_one ku m1 m3).1) 6)) (C := R_X) (T := F_X) (N := 13) hx hb htB i_X hown hK hP 0 rfl rfl 10 (by decide) (htB _ mw_471) (fun _ h9 => h9) rfl d_X_address_46 ?_
          refine lv_aload_n hx hb d_X_address_49 rfl (lv_at hl 0 rfl) ?_
          refine va_get (D := (dC, dI)) (ci := 3) (v := .ref x3) (C := R_X) (T := F_X) (N := 13) hx hb htB i_X hown hK hP 0 rfl rfl 2 (by decide) (htB _ mw_463) (fun _ h9 => h9) rfl d_X_address_50 ?_
          refine lv_iconst (v := 1) hx hb d_X_address_53 (by decide) ?_
          refine iald_at hx hb hK hP 2 1 rfl rfl (show ¬ ((1 : Int32) < 0 ∨ 9 ≤ (1 : Int32).toNatClampNeg) from by decide) (show (1 : Int32).toNatClampNeg = 1 from by decide) d_X_address_54 ?_
          refine lv_iadd hx hb d_X_address_55 ?_
          refine lv_sipush (v := 255) hx hb d_X_address_56 (by decide) ?_
          refine lv_iand hx hb d_X_address_59 ?_
          have hf : f_X_address p1 ku m1 m3 = ((((((f_X_one ku m1 m3).1) 6) + (((f_X_one ku m1 m3).2) 1)) &&& (255 : Int32)), (f_X_one ku m1 m3).1, (f_X_one ku m1 m3).2) := by rw [f_X_address, if_neg c_1, if_pos c_2, if_neg c_3, if_pos c_4]
          exact W.iret (v := (((((f_X_one ku m1 m3).1) 6) + (((f_X_one ku m1 m3).2) 1)) &&& (255 : Int32))) hx hb hr (fun t ht hW => ⟨⟨(((((f_X_one ku m1 m3).1) 6) + (((f_X_one ku m1 m3).2) 1)) &&& (255 : Int32)), (), rfl, (congrArg (fun z => z.1) hf).symm, by rw [hf]; exact ⟨by rw [ht]; exact hP, va_K.moved hW.alike hK, hD⟩⟩, hS.F ht⟩) hS.2.2 d_X_address_60
      · refine lv_aload_n hx hb d_X_address_35 rfl (lv_at hl 0 rfl) ?_
        refine va_get (D := (dC, dI)) (ci := 3) (v := .int (((f_X_one ku m1 m3).1) 6)) (C := R_X) (T := F_X) (N := 13) hx hb htB i_X hown hK hP 0 rfl rfl 10 (by decide) (htB _ mw_471) (fun _ h9 => h9) rfl d_X_address_36 ?_
        have hf : f_X_address p1 ku m1 m3 = ((((f_X_one ku m1 m3).1) 6), (f_X_one ku m1 m3).1, (f_X_one ku m1 m3).2) := by rw [f_X_address, if_neg c_1, if_pos c_2, if_pos c_3]
        exact W.iret (v := (((f_X_one ku m1 m3).1) 6)) hx hb hr (fun t ht hW => ⟨⟨(((f_X_one ku m1 m3).1) 6), (), rfl, (congrArg (fun z => z.1) hf).symm, by rw [hf]; exact ⟨by rw [ht]; exact hP, va_K.moved hW.alike hK, hD⟩⟩, hS.F ht⟩) hS.2.2 d_X_address_39
    · refine lv_iload_n hx hb d_X_address_13 rfl (lv_at hl 1 rfl) ?_
      refine lv_bipush (v := 6) hx hb d_X_address_14 (by decide) ?_
      refine lv_icmp_gt (tgt := 26) hx hb d_X_address_16 (by decide) (fun c_3 => ?_) (fun c_3 => ?_)
      · refine lv_aload_n hx hb d_X_address_26 rfl (lv_at hl 0 rfl) ?_
        have hPc := hP.sub (ws' := [c_X x0 x1 x2 x3 x4 ku, c_A x1 c1 1024 m1, c_A x3 c3 9 m3]) [0, 1, 2] rfl
        have hDc := hD.sub (ws' := [c_X x0 x1 x2 x3 x4 ku, c_A x1 c1 1024 m1, c_A x3 c3 9 m3]) [0, 1, 2] (by decide) rfl
        have hKc := hK.sub (tys' := [(c1, .int), (c3, .int)]) [0, 1] rfl
        have hFc := va_free (wc := [c_X x0 x1 x2 x3 x4 ku, c_A x1 c1 1024 m1, c_A x3 c3 9 m3]) hD hS hA [0, 1, 2] rfl
        refine va_callv (va_runV (As := []) (rest := []) ⟨hx, hb, hml, hown, htB⟩ (c_X_one l dC dI z0 x0 x1 x2 x3 x4 c1 c3 H.size ku m1 m3) (cwV 0 htB (gd_V mw_571 mw_573 sw_X_one mw_4 mw_574) rfl rfl rfl (by decide +kernel) ⟨Nat.le_of_ble_eq_true rfl, Nat.le_of_ble_eq_true rfl⟩) (pcx_V (va_recv hKc hPc (ci := 3) (q0 := 0) rfl rfl) hPc hKc hDc hA0 hE hS) rfl rfl hl.1 rfl (lv_room (Nat.le_of_ble_eq_true rfl)) d_X_address_27 ⟨Nat.zero_le _, Nat.zero_le _⟩) hS (fun q _ h => hFc q h) hFc (fun u t H1 locs ht hvm hw hB hz1 hk1 hS => ?_)
        obtain ⟨hP1, hK1, hD1⟩ := hB
        rw [ht] at hP1
        obtain ⟨hP, hD⟩ := va_join (wr := []) (w1 := [c_X x0 x1 x2 x3 x4 ((f_X_one ku m1 m3).1), c_A x1 c1 1024 m1, c_A x3 c3 9 ((f_X_one ku m1 m3).2)]) hP hD [0, 1, 2] [] rfl rfl (by decide) (by decide) hk1 hFc hP1 hD1
        generalize H1 = H at hP hS ⊢
        have hP : va_P (dC, dI) classes [c_X x0 x1 x2 x3 x4 ((f_X_one ku m1 m3).1), c_A x1 c1 1024 m1, c_A x3 c3 9 ((f_X_one ku m1 m3).2)] H := hP.sub [0, 1, 2] rfl
        have hD : va_D A [c_X x0 x1 x2 x3 x4 ((f_X_one ku m1 m3).1), c_A x1 c1 1024 m1, c_A x3 c3 9 ((f_X_one ku m1 m3).2)] := hD.sub [0, 1, 2] (by decide) rfl
        refine lv_iload_n hx hb d_X_address_30 rfl (lv_at hl 1 rfl) ?_
        refine lv_iconst (v := 1) hx hb d_X_address_31 (by decide) ?_
        refine lv_icmp_ne (tgt := 40) hx hb d_X_address_32 (by decide) (fun c_4 => ?_) (fun c_4 => ?_)
        · refine lv_iload_n hx hb d_X_address_40 rfl (lv_at hl 1 rfl) ?_
          refine lv_iconst (v := 2) hx hb d_X_address_41 (by decide) ?_
          refine lv_icmp_ne (tgt := 61) hx hb d_X_address_42 (by decide) (fun c_5 => ?_) (fun c_5 => ?_)
          · refine lv_iload_n hx hb d_X_address_61 rfl (lv_at hl 1 rfl) ?_
            refine lv_iconst (v := 3) hx hb d_X_address_62 (by decide) ?_
            refine lv_icmp_ne (tgt := 82) hx hb d_X_address_63 (by decide) (fun c_6 => ?_) (fun c_6 => ?_)
            · refine lv_iload_n hx hb d_X_address_82 rfl (lv_at hl 1 rfl) ?_
              refine lv_iconst (v := 4) hx hb d_X_address_83 (by decide) ?_
              refine lv_icmp_ne (tgt := 92) hx hb d_X_address_84 (by decide) (fun c_7 => ?_) (fun c_7 => ?_)
              · refine lv_iload_n hx hb d_X_address_92 rfl (lv_at hl 1 rfl) ?_
                refine lv_iconst (v := 5) hx hb d_X_address_93 (by decide) ?_
                refine lv_icmp_ne (tgt := 109) hx hb d_X_address_94 (by decide) (fun c_8 => ?_) (fun c_8 => ?_)
                · refine lv_iload_n hx hb d_X_address_109 rfl (lv_at hl 1 rfl) ?_
                  refine lv_bipush (v := 6) hx hb d_X_address_110 (by decide) ?_
                  refine lv_icmp_ne (tgt := 127) hx hb d_X_address_112 (by decide) (fun c_9 => ?_) (fun c_9 => ?_)
                  · refine lv_iload_n hx hb d_X_address_127 rfl (lv_at hl 1 rfl) ?_
                    refine lv_bipush (v := 7) hx hb d_X_address_128 (by decide) ?_
                    refine lv_icmp_ne (tgt := 149) hx hb d_X_address_130 (by decide) (fun c_10 => ?_) (fun c_10 => ?_)
                    · refine lv_iload_n hx hb d_X_address_149 rfl (lv_at hl 1 rfl) ?_
                      refine lv_bipush (v := 8) hx hb d_X_address_150 (by decide) ?_
                      refine lv_icmp_ne (tgt := 173) hx hb d_X_address_152 (by decide) (fun c_11 => ?_) (fun c_11 => ?_)
                      · refine lv_iconst (v := 0) hx hb d_X_address_173 (by decide) ?_
                        have hf : f_X_address p1 ku m1 m3 = ((0 : Int32), (f_X_one ku m1 m3).1, (f_X_one ku m1 m3).2) := by rw [f_X_address, if_neg c_1, if_neg c_2, if_pos c_3, if_neg c_4, if_neg c_5, if_neg c_6, if_neg c_7, if_neg c_8, if_neg c_9, if_neg c_10, if_neg c_11]
                        exact W.iret (v := (0 : Int32)) hx hb hr (fun t ht hW => ⟨⟨(0 : Int32), (), rfl, (congrArg (fun z => z.1) hf).symm, by rw [hf]; exact ⟨by rw [ht]; exact hP, va_K.moved hW.alike hK, hD⟩⟩, hS.F ht⟩) hS.2.2 d_X_address_174
                      · refine lv_aload_n hx hb d_X_address_155 rfl (lv_at hl 0 rfl) ?_
                        refine lv_aload_n hx hb d_X_address_156 rfl (lv_at hl 0 rfl) ?_
                        refine va_get (D := (dC, dI)) (ci := 3) (v := .int (((f_X_one ku m1 m3).1) 6)) (C := R_X) (T := F_X) (N := 13) hx hb htB i_X hown hK hP 0 rfl rfl 10 (by decide) (htB _ mw_471) (fun _ h9 => h9) rfl d_X_address_157 ?_
                        have hPc := hP.sub (ws' := [c_X x0 x1 x2 x3 x4 ((f_X_one ku m1 m3).1), c_A x1 c1 1024 m1]) [0, 1] rfl
                        have hDc := hD.sub (ws' := [c_X x0 x1 x2 x3 x4 ((f_X_one ku m1 m3).1), c_A x1 c1 1024 m1]) [0, 1] (by decide) rfl
                        have hKc := hK.sub (tys' := [(c1, .int)]) [0] rfl
                        have hFc := va_free (wc := [c_X x0 x1 x2 x3 x4 ((f_X_one ku m1 m3).1), c_A x1 c1 1024 m1]) hD hS hA [0, 1] rfl
                        refine va_calli (va_runV (As := [.int (((f_X_one ku m1 m3).1) 6)]) (rest := []) ⟨hx, hb, hml, hown, htB⟩ (c_X_pair l dC dI z0 x0 x1 x2 x3 x4 c1 H.size (((f_X_one ku m1 m3).1) 6) ((f_X_one ku m1 m3).1) m1) (cwV 1 htB (gd_V mw_575 mw_577 sw_X_pair mw_4 mw_578) rfl rfl rfl (by decide +kernel) ⟨Nat.le_of_ble_eq_true rfl, Nat.le_of_ble_eq_true rfl⟩) (pcx_V (va_recv hKc hPc (ci := 3) (q0 := 0) rfl rfl) hPc hKc hDc hA0 hE hS) rfl rfl hl.1 rfl (lv_room (Nat.le_of_ble_eq_true rfl)) d_X_address_160 ⟨Nat.zero_le _, Nat.zero_le _⟩) hS (fun q _ h => hFc q h) hFc (fun r9 u t H1 locs ht hvm hw hB hz1 hk1 hS => ?_)
                        subst hw
                        obtain ⟨hP1, hK1, hD1⟩ := hB
                        rw [ht] at hP1
                        obtain ⟨hP, hD⟩ := va_join (wr := [c_A x3 c3 9 ((f_X_one ku m1 m3).2)]) (w1 := [c_X x0 x1 x2 x3 x4 ((f_X_pair (((f_X_one ku m1 m3).1) 6) ((f_X_one ku m1 m3).1) m1).2), c_A x1 c1 1024 m1]) hP hD [0, 1] [2] rfl rfl (by decide) (by decide) hk1 hFc hP1 hD1
                        generalize H1 = H at hP hS ⊢
                        have hP : va_P (dC, dI) classes [c_X x0 x1 x2 x3 x4 ((f_X_pair (((f_X_one ku m1 m3).1) 6) ((f_X_one ku m1 m3).1) m1).2), c_A x1 c1 1024 m1, c_A x3 c3 9 ((f_X_one ku m1 m3).2)] H := hP.sub [1, 2, 0] rfl
                        have hD : va_D A [c_X x0 x1 x2 x3 x4 ((f_X_pair (((f_X_one ku m1 m3).1) 6) ((f_X_one ku m1 m3).1) m1).2), c_A x1 c1 1024 m1, c_A x3 c3 9 ((f_X_one ku m1 m3).2)] := hD.sub [1, 2, 0] (by decide) rfl
                        refine lv_aload_n hx hb d_X_address_163 rfl (lv_at hl 0 rfl) ?_
                        refine va_get (D := (dC, dI)) (ci := 3) (v := .ref x3) (C := R_X) (T := F_X) (N := 13) hx hb htB i_X hown hK hP 0 rfl rfl 2 (by decide) (htB _ mw_463) (fun _ h9 => h9) rfl d_X_address_164 ?_
                        refine lv_iconst (v := 2) hx hb d_X_address_167 (by decide) ?_
                        refine iald_at hx hb hK hP 2 1 rfl rfl (show ¬ ((2 : Int32) < 0 ∨ 9 ≤ (2 : Int32).toNatClampNeg) from by decide) (show (2 : Int32).toNatClampNeg = 2 from by decide) d_X_address_168 ?_
                        refine lv_iadd hx hb d_X_address_169 ?_
                        refine lv_goto (tgt := 174) hx hb d_X_address_170 (by decide) ?_
                        have hf : f_X_address p1 ku m1 m3 = ((((f_X_pair (((f_X_one ku m1 m3).1) 6) ((f_X_one ku m1 m3).1) m1).1) + (((f_X_one ku m1 m3).2) 2)), (f_X_pair (((f_X_one ku m1 m3).1) 6) ((f_X_one ku m1 m3).1) m1).2, (f_X_one ku m1 m3).2) := by rw [f_X_address, if_neg c_1, if_neg c_2, if_pos c_3, if_neg c_4, if_neg c_5, if_neg c_6, if_neg c_7, if_neg c_8, if_neg c_9, if_neg c_10, if_pos c_11]
                        exact W.iret (v := (((f_X_pair (((f_X_one ku m1 m3).1) 6) ((f_X_one ku m1 m3).1) m1).1) + (((f_X_one ku m1 m3).2) 2))) hx hb hr (fun t ht hW => ⟨⟨(((f_X_pair (((f_X_one ku m1 m3).1) 6) ((f_X_one ku m1 m3).1) m1).1) + (((f_X_one ku m1 m3).2) 2)), (), rfl, (congrArg (fun z => z.1) hf).symm, by rw [hf]; exact ⟨by rw [ht]; exact hP, va_K.moved hW.alike hK, hD⟩⟩, hS.F ht⟩) hS.2.2 d_X_address_174
                    · refine lv_aload_n hx hb d_X_address_133 rfl (lv_at hl 0 rfl) ?_
                      refine lv_aload_n hx hb d_X_address_134 rfl (lv_at hl 0 rfl) ?_
                      refine va_get (D := (dC, dI)) (ci := 3) (v := .int (((f_X_one ku m1 m3).1) 6)) (C := R_X) (T := F_X) (N := 13) hx hb htB i_X hown hK hP 0 rfl rfl 10 (by decide) (htB _ mw_471) (fun _ h9 => h9) rfl d_X_address_135 ?_
                      refine lv_aload_n hx hb d_X_address_138 rfl (lv_at hl 0 rfl) ?_
                      refine va_get (D := (dC, dI)) (ci := 3) (v := .ref x3) (C := R_X) (T := F_X) (N := 13) hx hb htB i_X hown hK hP 0 rfl rfl 2 (by decide) (htB _ mw_463) (fun _ h9 => h9) rfl d_X_address_139 ?_
                      refine lv_iconst (v := 1) hx hb d_X_address_142 (by decide) ?_
                      refine iald_at hx hb hK hP 2 1 rfl rfl (show ¬ ((1 : Int32) < 0 ∨ 9 ≤ (1 : Int32).toNatClampNeg) from by decide) (show (1 : Int32).toNatClampNeg = 1 from by decide) d_X_address_143 ?_
                      refine lv_iadd hx hb d_X_address_144 ?_
                      have hPc := hP.sub (ws' := [c_X x0 x1 x2 x3 x4 ((f_X_one ku m1 m3).1), c_A x1 c1 1024 m1]) [0, 1] rfl
                      have hDc := hD.sub (ws' := [c_X x0 x1 x2 x3 x4 ((f_X_one ku m1 m3).1), c_A x1 c1 1024 m1]) [0, 1] (by decide) rfl
                      have hKc := hK.sub (tys' := [(c1, .int)]) [0] rfl
                      have hFc := va_free (wc := [c_X x0 x1 x2 x3 x4 ((f_X_one ku m1 m3).1), c_A x1 c1 1024 m1]) hD hS hA [0, 1] rfl
                      refine va_calli (va_runV (As := [.int ((((f_X_one ku m1 m3).1) 6) + (((f_X_one ku m1 m3).2) 1))]) (rest := []) ⟨hx, hb, hml, hown, htB⟩ (c_X_pair l dC dI z0 x0 x1 x2 x3 x4 c1 H.size ((((f_X_one ku m1 m3).1) 6) + (((f_X_one ku m1 m3).2) 1)) ((f_X_one ku m1 m3).1) m1) (cwV 1 htB (gd_V mw_575 mw_577 sw_X_pair mw_4 mw_578) rfl rfl rfl (by decide +kernel) ⟨Nat.le_of_ble_eq_true rfl, Nat.le_of_ble_eq_true rfl⟩) (pcx_V (va_recv hKc hPc (ci := 3) (q0 := 0) rfl rfl) hPc hKc hDc hA0 hE hS) rfl rfl hl.1 rfl (lv_room (Nat.le_of_ble_eq_true rfl)) d_X_address_145 ⟨Nat.zero_le _, Nat.zero_le _⟩) hS (fun q _ h => hFc q h) hFc (fun r9 u t H1 locs ht hvm hw hB hz1 hk1 hS => ?_)
                      subst hw
                      obtain ⟨hP1, hK1, hD1⟩ := hB
                      rw [ht] at hP1
                      obtain ⟨hP, hD⟩ := va_join (wr := [c_A x3 c3 9 ((f_X_one ku m1 m3).2)]) (w1 := [c_X x0 x1 x2 x3 x4 ((f_X_pair ((((f_X_one ku m1 m3).1) 6) + (((f_X_one ku m1 m3).2) 1)) ((f_X_one ku m1 m3).1) m1).2), c_A x1 c1 1024 m1]) hP hD [0, 1] [2] rfl rfl (by decide) (by decide) hk1 hFc hP1 hD1
                      generalize H1 = H at hP hS ⊢
                      have hP : va_P (dC, dI) classes [c_X x0 x1 x2 x3 x4 ((f_X_pair ((((f_X_one ku m1 m3).1) 6) + (((f_X_one ku m1 m3).2) 1)) ((f_X_one ku m1 m3).1) m1).2), c_A x1 c1 1024 m1, c_A x3 c3 9 ((f_X_one ku m1 m3).2)] H := hP.sub [1, 2, 0] rfl
                      have hD : va_D A [c_X x0 x1 x2 x3 x4 ((f_X_pair ((((f_X_one ku m1 m3).1) 6) + (((f_X_one ku m1 m3).2) 1)) ((f_X_one ku m1 m3).1) m1).2), c_A x1 c1 1024 m1, c_A x3 c3 9 ((f_X_one ku m1 m3).2)] := hD.sub [1, 2, 0] (by decide) rfl
                      have hf : f_X_address p1 ku m1 m3 = ((f_X_pair ((((f_X_one ku m1 m3).1) 6) + (((f_X_one ku m1 m3).2) 1)) ((f_X_one ku m1 m3).1) m1).1, (f_X_pair ((((f_X_one ku m1 m3).1) 6) + (((f_X_one ku m1 m3).2) 1)) ((f_X_one ku m1 m3).1) m1).2, (f_X_one ku m1 m3).2) := by rw [f_X_address, if_neg c_1, if_neg c_2, if_pos c_3, if_neg c_4, if_neg c_5, if_neg c_6, if_neg c_7, if_neg c_8, if_neg c_9, if_pos c_10]
                      exact W.iret (v := (f_X_pair ((((f_X_one ku m1 m3).1) 6) + (((f_X_one ku m1 m3).2) 1)) ((f_X_one ku m1 m3).1) m1).1) hx hb hr (fun t ht hW => ⟨⟨(f_X_pair ((((f_X_one ku m1 m3).1) 6) + (((f_X_one ku m1 m3).2) 1)) ((f_X_one ku m1 m3).1) m1).1, (), rfl, (congrArg (fun z => z.1) hf).symm, by rw [hf]; exact ⟨by rw [ht]; exact hP, va_K.moved hW.alike hK, hD⟩⟩, hS.F ht⟩) hS.2.2 d_X_address_148
                  · refine lv_aload_n hx hb d_X_address_115 rfl (lv_at hl 0 rfl) ?_
                    refine va_get (D := (dC, dI)) (ci := 3) (v := .int (((f_X_one ku m1 m3).1) 7)) (C := R_X) (T := F_X) (N := 13) hx hb htB i_X hown hK hP 0 rfl rfl 11 (by decide) (htB _ mw_472) (fun _ h9 => h9) rfl d_X_address_116 ?_
                    refine lv_aload_n hx hb d_X_address_119 rfl (lv_at hl 0 rfl) ?_
                    refine va_get (D := (dC, dI)) (ci := 3) (v := .ref x3) (C := R_X) (T := F_X) (N := 13) hx hb htB i_X hown hK hP 0 rfl rfl 2 (by decide) (htB _ mw_463) (fun _ h9 => h9) rfl d_X_address_120 ?_
                    refine lv_iconst (v := 2) hx hb d_X_address_123 (by decide) ?_
                    refine iald_at hx hb hK hP 2 1 rfl rfl (show ¬ ((2 : Int32) < 0 ∨ 9 ≤ (2 : Int32).toNatClampNeg) from by decide) (show (2 : Int32).toNatClampNeg = 2 from by decide) d_X_address_124 ?_
                    refine lv_iadd hx hb d_X_address_125 ?_
                    have hf : f_X_address p1 ku m1 m3 = (((((f_X_one ku m1 m3).1) 7) + (((f_X_one ku m1 m3).2) 2)), (f_X_one ku m1 m3).1, (f_X_one ku m1 m3).2) := by rw [f_X_address, if_neg c_1, if_neg c_2, if_pos c_3, if_neg c_4, if_neg c_5, if_neg c_6, if_neg c_7, if_neg c_8, if_pos c_9]
                    exact W.iret (v := ((((f_X_one ku m1 m3).1) 7) + (((f_X_one ku m1 m3).2) 2))) hx hb hr (fun t ht hW => ⟨⟨((((f_X_one ku m1 m3).1) 7) + (((f_X_one ku m1 m3).2) 2)), (), rfl, (congrArg (fun z => z.1) hf).symm, by rw [hf]; exact ⟨by rw [ht]; exact hP, va_K.moved hW.alike hK, hD⟩⟩, hS.F ht⟩) hS.2.2 d_X_address_126
                · refine lv_aload_n hx hb d_X_address_97 rfl (lv_at hl 0 rfl) ?_
                  refine va_get (D := (dC, dI)) (ci := 3) (v := .int (((f_X_one ku m1 m3).1) 7)) (C := R_X) (T := F_X) (N := 13) hx hb htB i_X hown hK hP 0 rfl rfl 11 (by decide) (htB _ mw_472) (fun _ h9 => h9) rfl d_X_address_98 ?_
                  refine lv_aload_n hx hb d_X_address_101 rfl (lv_at hl 0 rfl) ?_
                  refine va_get (D := (dC, dI)) (ci := 3) (v := .ref x3) (C := R_X) (T := F_X) (N := 13) hx hb htB i_X hown hK hP 0 rfl rfl 2 (by decide) (htB _ mw_463) (fun _ h9 => h9) rfl d_X_address_102 ?_
                  refine lv_iconst (v := 1) hx hb d_X_address_105 (by decide) ?_
                  refine iald_at hx hb hK hP 2 1 rfl rfl (show ¬ ((1 : Int32) < 0 ∨ 9 ≤ (1 : Int32).toNatClampNeg) from by decide) (show (1 : Int32).toNatClampNeg = 1 from by decide) d_X_address_106 ?_
                  refine lv_iadd hx hb d_X_address_107 ?_
                  have hf : f_X_address p1 ku m1 m3 = (((((f_X_one ku m1 m3).1) 7) + (((f_X_one ku m1 m3).2) 1)), (f_X_one ku m1 m3).1, (f_X_one ku m1 m3).2) := by rw [f_X_address, if_neg c_1, if_neg c_2, if_pos c_3, if_neg c_4, if_neg c_5, if_neg c_6, if_neg c_7, if_pos c_8]
                  exact W.iret (v := ((((f_X_one ku m1 m3).1) 7) + (((f_X_one ku m1 m3).2) 1))) hx hb hr (fun t ht hW => ⟨⟨((((f_X_one ku m1 m3).1) 7) + (((f_X_one ku m1 m3).2) 1)), (), rfl, (congrArg (fun z => z.1) hf).symm, by rw [hf]; exact ⟨by rw [ht]; exact hP, va_K.moved hW.alike hK, hD⟩⟩, hS.F ht⟩) hS.2.2 d_X_address_108
              · refine lv_aload_n hx hb d_X_address_87 rfl (lv_at hl 0 rfl) ?_
                refine va_get (D := (dC, dI)) (ci := 3) (v := .int (((f_X_one ku m1 m3).1) 7)) (C := R_X) (T := F_X) (N := 13) hx hb htB i_X hown hK hP 0 rfl rfl 11 (by decide) (htB _ mw_472) (fun _ h9 => h9) rfl d_X_address_88 ?_
                have hf : f_X_address p1 ku m1 m3 = ((((f_X_one ku m1 m3).1) 7), (f_X_one ku m1 m3).1, (f_X_one ku m1 m3).2) := by rw [f_X_address, if_neg c_1, if_neg c_2, if_pos c_3, if_neg c_4, if_neg c_5, if_neg c_6, if_pos c_7]
                exact W.iret (v := (((f_X_one ku m1 m3).1) 7)) hx hb hr (fun t ht hW => ⟨⟨(((f_X_one ku m1 m3).1) 7), (), rfl, (congrArg (fun z => z.1) hf).symm, by rw [hf]; exact ⟨by rw [ht]; exact hP, va_K.moved hW.alike hK, hD⟩⟩, hS.F ht⟩) hS.2.2 d_X_address_91
            · refine lv_aload_n hx hb d_X_address_66 rfl (lv_at hl 0 rfl) ?_
              refine va_get (D := (dC, dI)) (ci := 3) (v := .int (((f_X_one ku m1 m3).1) 6)) (C := R_X) (T := F_X) (N := 13) hx hb htB i_X hown hK hP 0 rfl rfl 10 (by decide) (htB _ mw_471) (fun _ h9 => h9) rfl d_X_address_67 ?_
              refine lv_aload_n hx hb d_X_address_70 rfl (lv_at hl 0 rfl) ?_
              refine va_get (D := (dC, dI)) (ci := 3) (v := .ref x3) (C := R_X) (T := F_X) (N := 13) hx hb htB i_X hown hK hP 0 rfl rfl 2 (by decide) (htB _ mw_463) (fun _ h9 => h9) rfl d_X_address_71 ?_
              refine lv_iconst (v := 2) hx hb d_X_address_74 (by decide) ?_
              refine iald_at hx hb hK hP 2 1 rfl rfl (show ¬ ((2 : Int32) < 0 ∨ 9 ≤ (2 : Int32).toNatClampNeg) from by decide) (show (2 : Int32).toNatClampNeg = 2 from by decide) d_X_address_75 ?_
              refine lv_iadd hx hb d_X_address_76 ?_
              refine lv_sipush (v := 255) hx hb d_X_address_77 (by decide) ?_
              refine lv_iand hx hb d_X_address_80 ?_
              have hf : f_X_address p1 ku m1 m3 = ((((((f_X_one ku m1 m3).1) 6) + (((f_X_one ku m1 m3).2) 2)) &&& (255 : Int32)), (f_X_one ku m1 m3).1, (f_X_one ku m1 m3).2) := by rw [f_X_address, if_neg c_1, if_neg c_2, if_pos c_3, if_neg c_4, if_neg c_5, if_pos c_6]
              exact W.iret (v := (((((f_X_one ku m1 m3).1) 6) + (((f_X_one ku m1 m3).2) 2)) &&& (255 : Int32))) hx hb hr (fun t ht hW => ⟨⟨(((((f_X_one ku m1 m3).1) 6) + (((f_X_one ku m1 m3).2) 2)) &&& (255 : Int32)), (), rfl, (congrArg (fun z => z.1) hf).symm, by rw [hf]; exact ⟨by rw [ht]; exact hP, va_K.moved hW.alike hK, hD⟩⟩, hS.F ht⟩) hS.2.2 d_X_address_81
          · refine lv_aload_n hx hb d_X_address_45 rfl (lv_at hl 0 rfl) ?_
            refine va_get (D := (dC, dI)) (ci := 3) (v := .int (((f_X_one ku m1 m3).1) 6)) (C := R_X) (T := F_X) (N := 13) hx hb htB i_X hown hK hP 0 rfl rfl 10 (by decide) (htB _ mw_471) (fun _ h9 => h9) rfl d_X_address_46 ?_
            refine lv_aload_n hx hb d_X_address_49 rfl (lv_at hl 0 rfl) ?_
            refine va_get (D := (dC, dI)) (ci := 3) (v := .ref x3) (C := R_X) (T := F_X) (N := 13) hx hb htB i_X hown hK hP 0 rfl rfl 2 (by decide) (htB _ mw_463) (fun _ h9 => h9) rfl d_X_address_50 ?_
            refine lv_iconst (v := 1) hx hb d_X_address_53 (by decide) ?_
            refine iald_at hx hb hK hP 2 1 rfl rfl (show ¬ ((1 : Int32) < 0 ∨ 9 ≤ (1 : Int32).toNatClampNeg) from by decide) (show (1 : Int32).toNatClampNeg = 1 from by decide) d_X_address_54 ?_
            refine lv_iadd hx hb d_X_address_55 ?_
            refine lv_sipush (v := 255) hx hb d_X_address_56 (by decide) ?_
            refine lv_iand hx hb d_X_address_59 ?_
            have hf : f_X_address p1 ku m1 m3 = ((((((f_X_one ku m1 m3).1) 6) + (((f_X_one ku m1 m3).2) 1)) &&& (255 : Int32)), (f_X_one ku m1 m3).1, (f_X_one ku m1 m3).2) := by rw [f_X_address, if_neg c_1, if_neg c_2, if_pos c_3, if_neg c_4, if_pos c_5]
            exact W.iret (v := (((((f_X_one ku m1 m3).1) 6) + (((f_X_one ku m1 m3).2) 1)) &&& (255 : Int32))) hx hb hr (fun t ht hW => ⟨⟨(((((f_X_one ku m1 m3).1) 6) + (((f_X_one ku m1 m3).2) 1)) &&& (255 : Int32)), (), rfl, (congrArg (fun z => z.1) hf).symm, by rw [hf]; exact ⟨by rw [ht]; exact hP, va_K.moved hW.alike hK, hD⟩⟩, hS.F ht⟩) hS.2.2 d_X_address_60
        · refine lv_aload_n hx hb d_X_address_35 rfl (lv_at hl 0 rfl) ?_
          refine va_get (D := (dC, dI)) (ci := 3) (v := .int (((f_X_one ku m1 m3).1) 6)) (C := R_X) (T := F_X) (N := 13) hx hb htB i_X hown hK hP 0 rfl rfl 10 (by decide) (htB _ mw_471) (fun _ h9 => h9) rfl d_X_address_36 ?_
          have hf : f_X_address p1 ku m1 m3 = ((((f_X_one ku m1 m3).1) 6), (f_X_one ku m1 m3).1, (f_X_one ku m1 m3).2) := by rw [f_X_address, if_neg c_1, if_neg c_2, if_pos c_3, if_pos c_4]
          exact W.iret (v := (((f_X_one ku m1 m3).1) 6)) hx hb hr (fun t ht hW => ⟨⟨(((f_X_one ku m1 m3).1) 6), (), rfl, (congrArg (fun z => z.1) hf).symm, by rw [hf]; exact ⟨by rw [ht]; exact hP, va_K.moved hW.alike hK, hD⟩⟩, hS.F ht⟩) hS.2.2 d_X_address_39
      · refine lv_aload_n hx hb d_X_address_19 rfl (lv_at hl 0 rfl) ?_
        have hPc := hP.sub (ws' := [c_X x0 x1 x2 x3 x4 ku, c_A x1 c1 1024 m1, c_A x3 c3 9 m3]) [0, 1, 2] rfl
        have hDc := hD.sub (ws' := [c_X x0 x1 x2 x3 x4 ku, c_A x1 c1 1024 m1, c_A x3 c3 9 m3]) [0, 1, 2] (by decide) rfl
        have hKc := hK.sub (tys' := [(c1, .int), (c3, .int)]) [0, 1] rfl
        have hFc := va_free (wc := [c_X x0 x1 x2 x3 x4 ku, c_A x1 c1 1024 m1, c_A x3 c3 9 m3]) hD hS hA [0, 1, 2] rfl
        refine va_callv (va_runV (As := []) (rest := []) ⟨hx, hb, hml, hown, htB⟩ (c_X_two l dC dI z0 x0 x1 x2 x3 x4 c1 c3 H.size ku m1 m3) (cwV 0 htB (gd_V mw_567 mw_569 sw_X_two mw_4 mw_570) rfl rfl rfl (by decide +kernel) ⟨Nat.le_of_ble_eq_true rfl, Nat.le_of_ble_eq_true rfl⟩) (pcx_V (va_recv hKc hPc (ci := 3) (q0 := 0) rfl rfl) hPc hKc hDc hA0 hE hS) rfl rfl hl.1 rfl (lv_room (Nat.le_of_ble_eq_true rfl)) d_X_address_20 ⟨Nat.zero_le _, Nat.zero_le _⟩) hS (fun q _ h => hFc q h) hFc (fun u t H1 locs ht hvm hw hB hz1 hk1 hS => ?_)
        obtain ⟨hP1, hK1, hD1⟩ := hB
        rw [ht] at hP1
        obtain ⟨hP, hD⟩ := va_join (wr := []) (w1 := [c_X x0 x1 x2 x3 x4 ((f_X_two ku m1 m3).1), c_A x1 c1 1024 m1, c_A x3 c3 9 ((f_X_two ku m1 m3).2)]) hP hD [0, 1, 2] [] rfl rfl (by decide) (by decide) hk1 hFc hP1 hD1
        generalize H1 = H at hP hS ⊢
        have hP : va_P (dC, dI) classes [c_X x0 x1 x2 x3 x4 ((f_X_two ku m1 m3).1), c_A x1 c1 1024 m1, c_A x3 c3 9 ((f_X_two ku m1 m3).2)] H := hP.sub [0, 1, 2] rfl
        have hD : va_D A [c_X x0 x1 x2 x3 x4 ((f_X_two ku m1 m3).1), c_A x1 c1 1024 m1, c_A x3 c3 9 ((f_X_two ku m1 m3).2)] := hD.sub [0, 1, 2] (by decide) rfl
        refine lv_goto (tgt := 30) hx hb d_X_address_23 (by decide) ?_
        refine lv_iload_n hx hb d_X_address_30 rfl (lv_at hl 1 rfl) ?_
        refine lv_iconst (v := 1) hx hb d_X_address_31 (by decide) ?_
        refine lv_icmp_ne (tgt := 40) hx hb d_X_address_32 (by decide) (fun c_4 => ?_) (fun c_4 => ?_)
        · refine lv_iload_n hx hb d_X_address_40 rfl (lv_at hl 1 rfl) ?_
          refine lv_iconst (v := 2) hx hb d_X_address_41 (by decide) ?_
          refine lv_icmp_ne (tgt := 61) hx hb d_X_address_42 (by decide) (fun c_5 => ?_) (fun c_5 => ?_)
          · refine lv_iload_n hx hb d_X_address_61 rfl (lv_at hl 1 rfl) ?_
            refine lv_iconst (v := 3) hx hb d_X_address_62 (by decide) ?_
            refine lv_icmp_ne (tgt := 82) hx hb d_X_address_63 (by decide) (fun c_6 => ?_) (fun c_6 => ?_)
            · refine lv_iload_n hx hb d_X_address_82 rfl (lv_at hl 1 rfl) ?_
              refine lv_iconst (v := 4) hx hb d_X_address_83 (by decide) ?_
              refine lv_icmp_ne (tgt := 92) hx hb d_X_address_84 (by decide) (fun c_7 => ?_) (fun c_7 => ?_)
              · refine lv_iload_n hx hb d_X_address_92 rfl (lv_at hl 1 rfl) ?_
                refine lv_iconst (v := 5) hx hb d_X_address_93 (by decide) ?_
                refine lv_icmp_ne (tgt := 109) hx hb d_X_address_94 (by decide) (fun c_8 => ?_) (fun c_8 => ?_)
                · refine lv_iload_n hx hb d_X_address_109 rfl (lv_at hl 1 rfl) ?_
                  refine lv_bipush (v := 6) hx hb d_X_address_110 (by decide) ?_
                  refine lv_icmp_ne (tgt := 127) hx hb d_X_address_112 (by decide) (fun c_9 => ?_) (fun c_9 => ?_)
                  · refine lv_iload_n hx hb d_X_address_127 rfl (lv_at hl 1 rfl) ?_
                    refine lv_bipush (v := 7) hx hb d_X_address_128 (by decide) ?_
                    refine lv_icmp_ne (tgt := 149) hx hb d_X_address_130 (by decide) (fun c_10 => ?_) (fun c_10 => ?_)
                    · refine lv_iload_n hx hb d_X_address_149 rfl (lv_at hl 1 rfl) ?_
                      refine lv_bipush (v := 8) hx hb d_X_address_150 (by decide) ?_
                      refine lv_icmp_ne (tgt := 173) hx hb d_X_address_152 (by decide) (fun c_11 => ?_) (fun c_11 => ?_)
                      · refine lv_iconst (v := 0) hx hb d_X_address_173 (by decide) ?_
                        have hf : f_X_address p1 ku m1 m3 = ((0 : Int32), (f_X_two ku m1 m3).1, (f_X_two ku m1 m3).2) := by rw [f_X_address, if_neg c_1, if_neg c_2, if_neg c_3, if_neg c_4, if_neg c_5, if_neg c_6, if_neg c_7, if_neg c_8, if_neg c_9, if_neg c_10, if_neg c_11]
                        exact W.iret (v := (0 : Int32)) hx hb hr (fun t ht hW => ⟨⟨(0 : Int32), (), rfl, (congrArg (fun z => z.1) hf).symm, by rw [hf]; exact ⟨by rw [ht]; exact hP, va_K.moved hW.alike hK, hD⟩⟩, hS.F ht⟩) hS.2.2 d_X_address_174
                      · refine lv_aload_n hx hb d_X_address_155 rfl (lv_at hl 0 rfl) ?_
                        refine lv_aload_n hx hb d_X_address_156 rfl (lv_at hl 0 rfl) ?_
                        refine va_get (D := (dC, dI)) (ci := 3) (v := .int (((f_X_two ku m1 m3).1) 6)) (C := R_X) (T := F_X) (N := 13) hx hb htB i_X hown hK hP 0 rfl rfl 10 (by decide) (htB _ mw_471) (fun _ h9 => h9) rfl d_X_address_157 ?_
                        have hPc := hP.sub (ws' := [c_X x0 x1 x2 x3 x4 ((f_X_two ku m1 m3).1), c_A x1 c1 1024 m1]) [0, 1] rfl
                        have hDc := hD.sub (ws' := [c_X x0 x1 x2 x3 x4 ((f_X_two ku m1 m3).1), c_A x1 c1 1024 m1]) [0, 1] (by decide) rfl
                        have hKc := hK.sub (tys' := [(c1, .int)]) [0] rfl
                        have hFc := va_free (wc := [c_X x0 x1 x2 x3 x4 ((f_X_two ku m1 m3).1), c_A x1 c1 1024 m1]) hD hS hA [0, 1] rfl
                        refine va_calli (va_runV (As := [.int (((f_X_two ku m1 m3).1) 6)]) (rest := []) ⟨hx, hb, hml, hown, htB⟩ (c_X_pair l dC dI z0 x0 x1 x2 x3 x4 c1 H.size (((f_X_two ku m1 m3).1) 6) ((f_X_two ku m1 m3).1) m1) (cwV 1 htB (gd_V mw_575 mw_577 sw_X_pair mw_4 mw_578) rfl rfl rfl (by decide +kernel) ⟨Nat.le_of_ble_eq_true rfl, Nat.le_of_ble_eq_true rfl⟩) (pcx_V (va_recv hKc hPc (ci := 3) (q0 := 0) rfl rfl) hPc hKc hDc hA0 hE hS) rfl rfl hl.1 rfl (lv_room (Nat.le_of_ble_eq_true rfl)) d_X_address_160 ⟨Nat.zero_le _, Nat.zero_le _⟩) hS (fun q _ h => hFc q h) hFc (fun r9 u t H1 locs ht hvm hw hB hz1 hk1 hS => ?_)
                        subst hw
                        obtain ⟨hP1, hK1, hD1⟩ := hB
                        rw [ht] at hP1
                        obtain ⟨hP, hD⟩ := va_join (wr := [c_A x3 c3 9 ((f_X_two ku m1 m3).2)]) (w1 := [c_X x0 x1 x2 x3 x4 ((f_X_pair (((f_X_two ku m1 m3).1) 6) ((f_X_two ku m1 m3).1) m1).2), c_A x1 c1 1024 m1]) hP hD [0, 1] [2] rfl rfl (by decide) (by decide) hk1 hFc hP1 hD1
                        generalize H1 = H at hP hS ⊢
                        have hP : va_P (dC, dI) classes [c_X x0 x1 x2 x3 x4 ((f_X_pair (((f_X_two ku m1 m3).1) 6) ((f_X_two ku m1 m3).1) m1).2), c_A x1 c1 1024 m1, c_A x3 c3 9 ((f_X_two ku m1 m3).2)] H := hP.sub [1, 2, 0] rfl
                        have hD : va_D A [c_X x0 x1 x2 x3 x4 ((f_X_pair (((f_X_two ku m1 m3).1) 6) ((f_X_two ku m1 m3).1) m1).2), c_A x1 c1 1024 m1, c_A x3 c3 9 ((f_X_two ku m1 m3).2)] := hD.sub [1, 2, 0] (by decide) rfl
                        refine lv_aload_n hx hb d_X_address_163 rfl (lv_at hl 0 rfl) ?_
                        refine va_get (D := (dC, dI)) (ci := 3) (v := .ref x3) (C := R_X) (T := F_X) (N := 13) hx hb htB i_X hown hK hP 0 rfl rfl 2 (by decide) (htB _ mw_463) (fun _ h9 => h9) rfl d_X_address_164 ?_
                        refine lv_iconst (v := 2) hx hb d_X_address_167 (by decide) ?_
                        refine iald_at hx hb hK hP 2 1 rfl rfl (show ¬ ((2 : Int32) < 0 ∨ 9 ≤ (2 : Int32).toNatClampNeg) from by decide) (show (2 : Int32).toNatClampNeg = 2 from by decide) d_X_address_168 ?_
                        refine lv_iadd hx hb d_X_address_169 ?_
                        refine lv_goto (tgt := 174) hx hb d_X_address_170 (by decide) ?_
                        have hf : f_X_address p1 ku m1 m3 = ((((f_X_pair (((f_X_two ku m1 m3).1) 6) ((f_X_two ku m1 m3).1) m1).1) + (((f_X_two ku m1 m3).2) 2)), (f_X_pair (((f_X_two ku m1 m3).1) 6) ((f_X_two ku m1 m3).1) m1).2, (f_X_two ku m1 m3).2) := by rw [f_X_address, if_neg c_1, if_neg c_2, if_neg c_3, if_neg c_4, if_neg c_5, if_neg c_6, if_neg c_7, if_neg c_8, if_neg c_9, if_neg c_10, if_pos c_11]
                        exact W.iret (v := (((f_X_pair (((f_X_two ku m1 m3).1) 6) ((f_X_two ku m1 m3).1) m1).1) + (((f_X_two ku m1 m3).2) 2))) hx hb hr (fun t ht hW => ⟨⟨(((f_X_pair (((f_X_two ku m1 m3).1) 6) ((f_X_two ku m1 m3).1) m1).1) + (((f_X_two ku m1 m3).2) 2)), (), rfl, (congrArg (fun z => z.1) hf).symm, by rw [hf]; exact ⟨by rw [ht]; exact hP, va_K.moved hW.alike hK, hD⟩⟩, hS.F ht⟩) hS.2.2 d_X_address_174
                    · refine lv_aload_n hx hb d_X_address_133 rfl (lv_at hl 0 rfl) ?_
                      refine lv_aload_n hx hb d_X_address_134 rfl (lv_at hl 0 rfl) ?_
                      refine va_get (D := (dC, dI)) (ci := 3) (v := .int (((f_X_two ku m1 m3).1) 6)) (C := R_X) (T := F_X) (N := 13) hx hb htB i_X hown hK hP 0 rfl rfl 10 (by decide) (htB _ mw_471) (fun _ h9 => h9) rfl d_X_address_135 ?_
                      refine lv_aload_n hx hb d_X_address_138 rfl (lv_at hl 0 rfl) ?_
                      refine va_get (D := (dC, dI)) (ci := 3) (v := .ref x3) (C := R_X) (T := F_X) (N := 13) hx hb htB i_X hown hK hP 0 rfl rfl 2 (by decide) (htB _ mw_463) (fun _ h9 => h9) rfl d_X_address_139 ?_
                      refine lv_iconst (v := 1) hx hb d_X_address_142 (by decide) ?_
                      refine iald_at hx hb hK hP 2 1 rfl rfl (show ¬ ((1 : Int32) < 0 ∨ 9 ≤ (1 : Int32).toNatClampNeg) from by decide) (show (1 : Int32).toNatClampNeg = 1 from by decide) d_X_address_143 ?_
                      refine lv_iadd hx hb d_X_address_144 ?_
                      have hPc := hP.sub (ws' := [c_X x0 x1 x2 x3 x4 ((f_X_two ku m1 m3).1), c_A x1 c1 1024 m1]) [0, 1] rfl
                      have hDc := hD.sub (ws' := [c_X x0 x1 x2 x3 x4 ((f_X_two ku m1 m3).1), c_A x1 c1 1024 m1]) [0, 1] (by decide) rfl
                      have hKc := hK.sub (tys' := [(c1, .int)]) [0] rfl
                      have hFc := va_free (wc := [c_X x0 x1 x2 x3 x4 ((f_X_two ku m1 m3).1), c_A x1 c1 1024 m1]) hD hS hA [0, 1] rfl
                      refine va_calli (va_runV (As := [.int ((((f_X_two ku m1 m3).1) 6) + (((f_X_two ku m1 m3).2) 1))]) (rest := []) ⟨hx, hb, hml, hown, htB⟩ (c_X_pair l dC dI z0 x0 x1 x2 x3 x4 c1 H.size ((((f_X_two ku m1 m3).1) 6) + (((f_X_two ku m1 m3).2) 1)) ((f_X_two ku m1 m3).1) m1) (cwV 1 htB (gd_V mw_575 mw_577 sw_X_pair mw_4 mw_578) rfl rfl rfl (by decide +kernel) ⟨Nat.le_of_ble_eq_true rfl, Nat.le_of_ble_eq_true rfl⟩) (pcx_V (va_recv hKc hPc (ci := 3) (q0 := 0) rfl rfl) hPc hKc hDc hA0 hE hS) rfl rfl hl.1 rfl (lv_room (Nat.le_of_ble_eq_true rfl)) d_X_address_145 ⟨Nat.zero_le _, Nat.zero_le _⟩) hS (fun q _ h => hFc q h) hFc (fun r9 u t H1 locs ht hvm hw hB hz1 hk1 hS => ?_)
                      subst hw
                      obtain ⟨hP1, hK1, hD1⟩ := hB
                      rw [ht] at hP1
                      obtain ⟨hP, hD⟩ := va_join (wr := [c_A x3 c3 9 ((f_X_two ku m1 m3).2)]) (w1 := [c_X x0 x1 x2 x3 x4 ((f_X_pair ((((f_X_two ku m1 m3).1) 6) + (((f_X_two ku m1 m3).2) 1)) ((f_X_two ku m1 m3).1) m1).2), c_A x1 c1 1024 m1]) hP hD [0, 1] [2] rfl rfl (by decide) (by decide) hk1 hFc hP1 hD1
                      generalize H1 = H at hP hS ⊢
                      have hP : va_P (dC, dI) classes [c_X x0 x1 x2 x3 x4 ((f_X_pair ((((f_X_two ku m1 m3).1) 6) + (((f_X_two ku m1 m3).2) 1)) ((f_X_two ku m1 m3).1) m1).2), c_A x1 c1 1024 m1, c_A x3 c3 9 ((f_X_two ku m1 m3).2)] H := hP.sub [1, 2, 0] rfl
                      have hD : va_D A [c_X x0 x1 x2 x3 x4 ((f_X_pair ((((f_X_two ku m1 m3).1) 6) + (((f_X_two ku m1 m3).2) 1)) ((f_X_two ku m1 m3).1) m1).2), c_A x1 c1 1024 m1, c_A x3 c3 9 ((f_X_two ku m1 m3).2)] := hD.sub [1, 2, 0] (by decide) rfl
                      have hf : f_X_address p1 ku m1 m3 = ((f_X_pair ((((f_X_two ku m1 m3).1) 6) + (((f_X_two ku m1 m3).2) 1)) ((f_X_two ku m1 m3).1) m1).1, (f_X_pair ((((f_X_two ku m1 m3).1) 6) + (((f_X_two ku m1 m3).2) 1)) ((f_X_two ku m1 m3).1) m1).2, (f_X_two ku m1 m3).2) := by rw [f_X_address, if_neg c_1, if_neg c_2, if_neg c_3, if_neg c_4, if_neg c_5, if_neg c_6, if_neg c_7, if_neg c_8, if_neg c_9, if_pos c_10]
                      exact W.iret (v := (f_X_pair ((((f_X_two ku m1 m3).1) 6) + (((f_X_two ku m1 m3).2) 1)) ((f_X_two ku m1 m3).1) m1).1) hx hb hr (fun t ht hW => ⟨⟨(f_X_pair ((((f_X_two ku m1 m3).1) 6) + (((f_X_two ku m1 m3).2) 1)) ((f_X_two ku m1 m3).1) m1).1, (), rfl, (congrArg (fun z => z.1) hf).symm, by rw [hf]; exact ⟨by rw [ht]; exact hP, va_K.moved hW.alike hK, hD⟩⟩, hS.F ht⟩) hS.2.2 d_X_address_148
                  · refine lv_aload_n hx hb d_X_address_115 rfl (lv_at hl 0 rfl) ?_
                    refine va_get (D := (dC, dI)) (ci := 3) (v := .int (((f_X_two ku m1 m3).1) 7)) (C := R_X) (T := F_X) (N := 13) hx hb htB i_X hown hK hP 0 rfl rfl 11 (by decide) (htB _ mw_472) (fun _ h9 => h9) rfl d_X_address_116 ?_
                    refine lv_aload_n hx hb d_X_address_119 rfl (lv_at hl 0 rfl) ?_
                    refine va_get (D := (dC, dI)) (ci := 3) (v := .ref x3) (C := R_X) (T := F_X) (N := 13) hx hb htB i_X hown hK hP 0 rfl rfl 2 (by decide) (htB _ mw_463) (fun _ h9 => h9) rfl d_X_address_120 ?_
                    refine lv_iconst (v := 2) hx hb d_X_address_123 (by decide) ?_
                    refine iald_at hx hb hK hP 2 1 rfl rfl (show ¬ ((2 : Int32) < 0 ∨ 9 ≤ (2 : Int32).toNatClampNeg) from by decide) (show (2 : Int32).toNatClampNeg = 2 from by decide) d_X_address_124 ?_
                    refine lv_iadd hx hb d_X_address_125 ?_
                    have hf : f_X_address p1 ku m1 m3 = (((((f_X_two ku m1 m3).1) 7) + (((f_X_two ku m1 m3).2) 2)), (f_X_two ku m1 m3).1, (f_X_two ku m1 m3).2) := by rw [f_X_address, if_neg c_1, if_neg c_2, if_neg c_3, if_neg c_4, if_neg c_5, if_neg c_6, if_neg c_7, if_neg c_8, if_pos c_9]
                    exact W.iret (v := ((((f_X_two ku m1 m3).1) 7) + (((f_X_two ku m1 m3).2) 2))) hx hb hr (fun t ht hW => ⟨⟨((((f_X_two ku m1 m3).1) 7) + (((f_X_two ku m1 m3).2) 2)), (), rfl, (congrArg (fun z => z.1) hf).symm, by rw [hf]; exact ⟨by rw [ht]; exact hP, va_K.moved hW.alike hK, hD⟩⟩, hS.F ht⟩) hS.2.2 d_X_address_126
                · refine lv_aload_n hx hb d_X_address_97 rfl (lv_at hl 0 rfl) ?_
                  refine va_get (D := (dC, dI)) (ci := 3) (v := .int (((f_X_two ku m1 m3).1) 7)) (C := R_X) (T := F_X) (N := 13) hx hb htB i_X hown hK hP 0 rfl rfl 11 (by decide) (htB _ mw_472) (fun _ h9 => h9) rfl d_X_address_98 ?_
                  refine lv_aload_n hx hb d_X_address_101 rfl (lv_at hl 0 rfl) ?_
                  refine va_get (D := (dC, dI)) (ci := 3) (v := .ref x3) (C := R_X) (T := F_X) (N := 13) hx hb htB i_X hown hK hP 0 rfl rfl 2 (by decide) (htB _ mw_463) (fun _ h9 => h9) rfl d_X_address_102 ?_
                  refine lv_iconst (v := 1) hx hb d_X_address_105 (by decide) ?_
                  refine iald_at hx hb hK hP 2 1 rfl rfl (show ¬ ((1 : Int32) < 0 ∨ 9 ≤ (1 : Int32).toNatClampNeg) from by decide) (show (1 : Int32).toNatClampNeg = 1 from by decide) d_X_address_106 ?_
                  refine lv_iadd hx hb d_X_address_107 ?_
                  have hf : f_X_address p1 ku m1 m3 = (((((f_X_two ku m1 m3).1) 7) + (((f_X_two ku m1 m3).2) 1)), (f_X_two ku m1 m3).1, (f_X_two ku m1 m3).2) := by rw [f_X_address, if_neg c_1, if_neg c_2, if_neg c_3, if_neg c_4, if_neg c_5, if_neg c_6, if_neg c_7, if_pos c_8]
                  exact W.iret (v := ((((f_X_two ku m1 m3).1) 7) + (((f_X_two ku m1 m3).2) 1))) hx hb hr (fun t ht hW => ⟨⟨((((f_X_two ku m1 m3).1) 7) + (((f_X_two ku m1 m3).2) 1)), (), rfl, (congrArg (fun z => z.1) hf).symm, by rw [hf]; exact ⟨by rw [ht]; exact hP, va_K.moved hW.alike hK, hD⟩⟩, hS.F ht⟩) hS.2.2 d_X_address_108
              · refine lv_aload_n hx hb d_X_address_87 rfl (lv_at hl 0 rfl) ?_
                refine va_get (D := (dC, dI)) (ci := 3) (v := .int (((f_X_two ku m1 m3).1) 7)) (C := R_X) (T := F_X) (N := 13) hx hb htB i_X hown hK hP 0 rfl rfl 11 (by decide) (htB _ mw_472) (fun _ h9 => h9) rfl d_X_address_88 ?_
                have hf : f_X_address p1 ku m1 m3 = ((((f_X_two ku m1 m3).1) 7), (f_X_two ku m1 m3).1, (f_X_two ku m1 m3).2) := by rw [f_X_address, if_neg c_1, if_neg c_2, if_neg c_3, if_neg c_4, if_neg c_5, if_neg c_6, if_pos c_7]
                exact W.iret (v := (((f_X_two ku m1 m3).1) 7)) hx hb hr (fun t ht hW => ⟨⟨(((f_X_two ku m1 m3).1) 7), (), rfl, (congrArg (fun z => z.1) hf).symm, by rw [hf]; exact ⟨by rw [ht]; exact hP, va_K.moved hW.alike hK, hD⟩⟩, hS.F ht⟩) hS.2.2 d_X_address_91
            · refine lv_aload_n hx hb d_X_address_66 rfl (lv_at hl 0 rfl) ?_
              refine va_get (D := (dC, dI)) (ci := 3) (v := .int (((f_X_two ku m1 m3).1) 6)) (C := R_X) (T := F_X) (N := 13) hx hb htB i_X hown hK hP 0 rfl rfl 10 (by decide) (htB _ mw_471) (fun _ h9 => h9) rfl d_X_address_67 ?_
              refine lv_aload_n hx hb d_X_address_70 rfl (lv_at hl 0 rfl) ?_
              refine va_get (D := (dC, dI)) (ci := 3) (v := .ref x3) (C := R_X) (T := F_X) (N := 13) hx hb htB i_X hown hK hP 0 rfl rfl 2 (by decide) (htB _ mw_463) (fun _ h9 => h9) rfl d_X_address_71 ?_
              refine lv_iconst (v := 2) hx hb d_X_address_74 (by decide) ?_
              refine iald_at hx hb hK hP 2 1 rfl rfl (show ¬ ((2 : Int32) < 0 ∨ 9 ≤ (2 : Int32).toNatClampNeg) from by decide) (show (2 : Int32).toNatClampNeg = 2 from by decide) d_X_address_75 ?_
              refine lv_iadd hx hb d_X_address_76 ?_
              refine lv_sipush (v := 255) hx hb d_X_address_77 (by decide) ?_
              refine lv_iand hx hb d_X_address_80 ?_
              have hf : f_X_address p1 ku m1 m3 = ((((((f_X_two ku m1 m3).1) 6) + (((f_X_two ku m1 m3).2) 2)) &&& (255 : Int32)), (f_X_two ku m1 m3).1, (f_X_two ku m1 m3).2) := by rw [f_X_address, if_neg c_1, if_neg c_2, if_neg c_3, if_neg c_4, if_neg c_5, if_pos c_6]
              exact W.iret (v := (((((f_X_two ku m1 m3).1) 6) + (((f_X_two ku m1 m3).2) 2)) &&& (255 : Int32))) hx hb hr (fun t ht hW => ⟨⟨(((((f_X_two ku m1 m3).1) 6) + (((f_X_two ku m1 m3).2) 2)) &&& (255 : Int32)), (), rfl, (congrArg (fun z => z.1) hf).symm, by rw [hf]; exact ⟨by rw [ht]; exact hP, va_K.moved hW.alike hK, hD⟩⟩, hS.F ht⟩) hS.2.2 d_X_address_81
          · refine lv_aload_n hx hb d_X_address_45 rfl (lv_at hl 0 rfl) ?_
            refine va_get (D := (dC, dI)) (ci := 3) (v := .int (((f_X_two ku m1 m3).1) 6)) (C := R_X) (T := F_X) (N := 13) hx hb htB i_X hown hK hP 0 rfl rfl 10 (by decide) (htB _ mw_471) (fun _ h9 => h9) rfl d_X_address_46 ?_
            refine lv_aload_n hx hb d_X_address_49 rfl (lv_at hl 0 rfl) ?_
            refine va_get (D := (dC, dI)) (ci := 3) (v := .ref x3) (C := R_X) (T := F_X) (N := 13) hx hb htB i_X hown hK hP 0 rfl rfl 2 (by decide) (htB _ mw_463) (fun _ h9 => h9) rfl d_X_address_50 ?_
            refine lv_iconst (v := 1) hx hb d_X_address_53 (by decide) ?_
            refine iald_at hx hb hK hP 2 1 rfl rfl (show ¬ ((1 : Int32) < 0 ∨ 9 ≤ (1 : Int32).toNatClampNeg) from by decide) (show (1 : Int32).toNatClampNeg = 1 from by decide) d_X_address_54 ?_
            refine lv_iadd hx hb d_X_address_55 ?_
            refine lv_sipush (v := 255) hx hb d_X_address_56 (by decide) ?_
            refine lv_iand hx hb d_X_address_59 ?_
            have hf : f_X_address p1 ku m1 m3 = ((((((f_X_two ku m1 m3).1) 6) + (((f_X_two ku m1 m3).2) 1)) &&& (255 : Int32)), (f_X_two ku m1 m3).1, (f_X_two ku m1 m3).2) := by rw [f_X_address, if_neg c_1, if_neg c_2, if_neg c_3, if_neg c_4, if_pos c_5]
            exact W.iret (v := (((((f_X_two ku m1 m3).1) 6) + (((f_X_two ku m1 m3).2) 1)) &&& (255 : Int32))) hx hb hr (fun t ht hW => ⟨⟨(((((f_X_two ku m1 m3).1) 6) + (((f_X_two ku m1 m3).2) 1)) &&& (255 : Int32)), (), rfl, (congrArg (fun z => z.1) hf).symm, by rw [hf]; exact ⟨by rw [ht]; exact hP, va_K.moved hW.alike hK, hD⟩⟩, hS.F ht⟩) hS.2.2 d_X_address_60
        · refine lv_aload_n hx hb d_X_address_35 rfl (lv_at hl 0 rfl) ?_
          refine va_get (D := (dC, dI)) (ci := 3) (v := .int (((f_X_two ku m1 m3).1) 6)) (C := R_X) (T := F_X) (N := 13) hx hb htB i_X hown hK hP 0 rfl rfl 10 (by decide) (htB _ mw_471) (fun _ h9 => h9) rfl d_X_address_36 ?_
          have hf : f_X_address p1 ku m1 m3 = ((((f_X_two ku m1 m3).1) 6), (f_X_two ku m1 m3).1, (f_X_two ku m1 m3).2) := by rw [f_X_address, if_neg c_1, if_neg c_2, if_neg c_3, if_pos c_4]
          exact W.iret (v := (((f_X_two ku m1 m3).1) 6)) hx hb hr (fun t ht hW => ⟨⟨(((f_X_two ku m1 m3).1) 6), (), rfl, (congrArg (fun z => z.1) hf).symm, by rw [hf]; exact ⟨by rw [ht]; exact hP, va_K.moved hW.alike hK, hD⟩⟩, hS.F ht⟩) hS.2.2 d_X_address_39
  · refine lv_iconst (v := 0) hx hb d_X_address_6 (by decide) ?_
    have hf : f_X_address p1 ku m1 m3 = ((0 : Int32), ku, m3) := by rw [f_X_address, if_pos c_1]
    exact W.iret (v := (0 : Int32)) hx hb hr (fun t ht hW => ⟨⟨(0 : Int32), (), rfl, (congrArg (fun z => z.1) hf).symm, by rw [hf]; exact ⟨by rw [ht]; exact hP, va_K.moved hW.alike hK, hD⟩⟩, hS.F ht⟩) hS.2.2 d_X_address_7

theorem xs_ite {c : Prop} [Decidable c] {a b : Int32 × (Nat → Int32) × (Nat → Int32)} (ha : xs_ok a.2.1) (hb : xs_ok b.2.1) : xs_ok (if c then a else b).2.1 := by
  split <;> assumption
theorem xs_address {p1 : Int32} {u m1 m3 : Nat → Int32} (h : xs_ok u) : xs_ok (f_X_address p1 u m1 m3).2.1 := by
  unfold f_X_address
  repeat' first | refine xs_ite ?_ ?_ | with_reducible exact h | with_reducible exact xs_one h | with_reducible exact xs_two h | with_reducible exact xs_pair (xs_one h) | with_reducible exact xs_pair (xs_two h)

def f_X_operand (p1 : Int32) (p2 : Int32) (ku m1 m3 : Nat → Int32) : Int32 × (Nat → Int32) :=
  if p1 = (0 : Int32) then
    ((ku 6), ku)
  else
    if p1 = (9 : Int32) then
      ((m3 0), ku)
    else
      ((f_X_read p2 ku m1).1, (f_X_read p2 ku m1).2)
abbrev Q_X_operand (dC : Nat → ClassId) (dI : Nat → Nat → Nat) (x0 : Nat) (x1 : Nat) (x2 : Nat) (x3 : Nat) (x4 : Nat) (c1 : ClassId) (c3 : ClassId) (p1 : Int32) (p2 : Int32) (ku m1 m3 : Nat → Int32) (A : Nat → Prop) : Array Value → State → Outcome → State → Prop := va_Qi (fun (r9 : Int32) (_ : Unit) => r9 = (f_X_operand p1 p2 ku m1 m3).1) (fun _ t => atW (dC, dI) classes A [c_X x0 x1 x2 x3 x4 ((f_X_operand p1 p2 ku m1 m3).2), c_A x1 c1 1024 m1, c_A x3 c3 9 m3] [(c1, .int), (c3, .int)] t) A
set_option maxHeartbeats 4000000 in
set_option maxRecDepth 100000 in
theorem c_X_operand (l : Launch) (dC : Nat → ClassId) (dI : Nat → Nat → Nat) (z0 : Nat) (x0 : Nat) (x1 : Nat) (x2 : Nat) (x3 : Nat) (x4 : Nat) (c1 : ClassId) (c3 : ClassId) (sz : Nat) (p1 : Int32) (p2 : Int32) (ku m1 m3 : Nat → Int32)  : Met l y_X_operand w_X_operand ({ frames := 1, cells := 0, slots := 0, locals := 23 }) (PcX (dC, dI) classes z0 [c_X x0 x1 x2 x3 x4 ku, c_A x1 c1 1024 m1, c_A x3 c3 9 m3] [(c1, .int), (c3, .int)] sz [.ref x0, .int p1, .int p2]) (Q_X_operand dC dI x0 x1 x2 x3 x4 c1 c3 p1 p2 ku m1 m3 (va_A [c_X x0 x1 x2 x3 x4 ku, c_A x1 c1 1024 m1, c_A x3 c3 9 m3] sz)) 0 0 (va_A [c_X x0 x1 x2 x3 x4 ku, c_A x1 c1 1024 m1, c_A x3 c3 9 m3] sz) := by
  refine hdX (cc := b_X_operand) (maxL := 3) (ret := (some .int)) (C := R_X) (Qc := (Q_X_operand dC dI x0 x1 x2 x3 x4 c1 c3 p1 p2 ku m1 m3)) (by decide) rfl ?_
  intro p e s m below meth c A H hx hb hr hlocks hml hown hin htB hP hK hD hA hA0 hE hS
  have hl := lv_entry ([.ref x0, .int p1, .int p2]) (n := 3) (Nat.le_of_ble_eq_true rfl)
  rw [lg_entry_eq]
  generalize (lg_sl ([.ref x0, .int p1, .int p2]) ++ List.replicate (3 - (lg_sl ([.ref x0, .int p1, .int p2])).length) Slot.unset).toArray = ls at hl ⊢
  have hl : lv_has ls 3 [(0, .ref x0), (1, .int p1), (2, .int p2)] := hl
  refine lv_iload_n hx hb d_X_operand_0 rfl (lv_at hl 1 rfl) ?_
  refine lv_if_ne (tgt := 11) hx hb d_X_operand_1 (by decide) (fun c_1 => ?_) (fun c_1 => ?_)
  · refine lv_iload_n hx hb d_X_operand_11 rfl (lv_at hl 1 rfl) ?_
    refine lv_bipush (v := 9) hx hb d_X_operand_12 (by decide) ?_
    refine lv_icmp_ne (tgt := 26) hx hb d_X_operand_14 (by decide) (fun c_2 => ?_) (fun c_2 => ?_)
    · refine lv_aload_n hx hb d_X_operand_26 rfl (lv_at hl 0 rfl) ?_
      refine lv_iload_n hx hb d_X_operand_27 rfl (lv_at hl 2 rfl) ?_
      have hPc := hP.sub (ws' := [c_X x0 x1 x2 x3 x4 ku, c_A x1 c1 1024 m1]) [0, 1] rfl
      have hDc := hD.sub (ws' := [c_X x0 x1 x2 x3 x4 ku, c_A x1 c1 1024 m1]) [0, 1] (by decide) rfl
      have hKc := hK.sub (tys' := [(c1, .int)]) [0] rfl
      have hFc := va_free (wc := [c_X x0 x1 x2 x3 x4 ku, c_A x1 c1 1024 m1]) hD hS hA [0, 1] rfl
      refine va_calli (va_runV (As := [.int p2]) (rest := []) ⟨hx, hb, hml, hown, htB⟩ (c_X_read l dC dI z0 x0 x1 x2 x3 x4 c1 H.size p2 ku m1) (cwV 1 htB (gd_V mw_552 mw_554 sw_X_read mw_4 mw_555) rfl rfl rfl (by decide +kernel) ⟨Nat.le_of_ble_eq_true rfl, Nat.le_of_ble_eq_true rfl⟩) (pcx_V (va_recv hKc hPc (ci := 3) (q0 := 0) rfl rfl) hPc hKc hDc hA0 hE hS) rfl rfl hl.1 rfl (lv_room (Nat.le_of_ble_eq_true rfl)) d_X_operand_28 ⟨Nat.zero_le _, Nat.zero_le _⟩) hS (fun q _ h => hFc q h) hFc (fun r9 u t H1 locs ht hvm hw hB hz1 hk1 hS => ?_)
      subst hw
      obtain ⟨hP1, hK1, hD1⟩ := hB
      rw [ht] at hP1
      obtain ⟨hP, hD⟩ := va_join (wr := [c_A x3 c3 9 m3]) (w1 := [c_X x0 x1 x2 x3 x4 ((f_X_read p2 ku m1).2), c_A x1 c1 1024 m1]) hP hD [0, 1] [2] rfl rfl (by decide) (by decide) hk1 hFc hP1 hD1
      generalize H1 = H at hP hS ⊢
      have hP : va_P (dC, dI) classes [c_X x0 x1 x2 x3 x4 ((f_X_read p2 ku m1).2), c_A x1 c1 1024 m1, c_A x3 c3 9 m3] H := hP.sub [1, 2, 0] rfl
      have hD : va_D A [c_X x0 x1 x2 x3 x4 ((f_X_read p2 ku m1).2), c_A x1 c1 1024 m1, c_A x3 c3 9 m3] := hD.sub [1, 2, 0] (by decide) rfl
      have hf : f_X_operand p1 p2 ku m1 m3 = ((f_X_read p2 ku m1).1, (f_X_read p2 ku m1).2) := by rw [f_X_operand, if_neg c_1, if_neg c_2]
      exact W.iret (v := (f_X_read p2 ku m1).1) hx hb hr (fun t ht hW => ⟨⟨(f_X_read p2 ku m1).1, (), rfl, (congrArg (fun z => z.1) hf).symm, by rw [hf]; exact ⟨by rw [ht]; exact hP, va_K.moved hW.alike hK, hD⟩⟩, hS.F ht⟩) hS.2.2 d_X_operand_31
    · refine lv_aload_n hx hb d_X_operand_17 rfl (lv_at hl 0 rfl) ?_
      refine va_get (D := (dC, dI)) (ci := 3) (v := .ref x3) (C := R_X) (T := F_X) (N := 13) hx hb htB i_X hown hK hP 0 rfl rfl 2 (by decide) (htB _ mw_463) (fun _ h9 => h9) rfl d_X_operand_18 ?_
      refine lv_iconst (v := 0) hx hb d_X_operand_21 (by decide) ?_
      refine iald_at hx hb hK hP 2 1 rfl rfl (show ¬ ((0 : Int32) < 0 ∨ 9 ≤ (0 : Int32).toNatClampNeg) from by decide) (show (0 : Int32).toNatClampNeg = 0 from by decide) d_X_operand_22 ?_
      refine lv_goto (tgt := 31) hx hb d_X_operand_23 (by decide) ?_
      have hf : f_X_operand p1 p2 ku m1 m3 = ((m3 0), ku) := by rw [f_X_operand, if_neg c_1, if_pos c_2]
      exact W.iret (v := (m3 0)) hx hb hr (fun t ht hW => ⟨⟨(m3 0), (), rfl, (congrArg (fun z => z.1) hf).symm, by rw [hf]; exact ⟨by rw [ht]; exact hP, va_K.moved hW.alike hK, hD⟩⟩, hS.F ht⟩) hS.2.2 d_X_operand_31
  · refine lv_aload_n hx hb d_X_operand_4 rfl (lv_at hl 0 rfl) ?_
    refine va_get (D := (dC, dI)) (ci := 3) (v := .int (ku 6)) (C := R_X) (T := F_X) (N := 13) hx hb htB i_X hown hK hP 0 rfl rfl 10 (by decide) (htB _ mw_471) (fun _ h9 => h9) rfl d_X_operand_5 ?_
    refine lv_goto (tgt := 31) hx hb d_X_operand_8 (by decide) ?_
    have hf : f_X_operand p1 p2 ku m1 m3 = ((ku 6), ku) := by rw [f_X_operand, if_pos c_1]
    exact W.iret (v := (ku 6)) hx hb hr (fun t ht hW => ⟨⟨(ku 6), (), rfl, (congrArg (fun z => z.1) hf).symm, by rw [hf]; exact ⟨by rw [ht]; exact hP, va_K.moved hW.alike hK, hD⟩⟩, hS.F ht⟩) hS.2.2 d_X_operand_31

theorem xs_operand {p1 p2 : Int32} {u m1 m3 : Nat → Int32} (h : xs_ok u) : xs_ok (f_X_operand p1 p2 u m1 m3).2 := by
  unfold f_X_operand
  repeat' split
  all_goals first | exact h | exact xs_read h

def f_X_branch (p1 : Int32) (ku m1 m3 : Nat → Int32) : (Nat → Int32) × (Nat → Int32) :=
  if (2 : Int32) ≤ p1 then
    if (4 : Int32) ≤ p1 then
      if (6 : Int32) ≤ p1 then
        if (((f_X_one ku m1 m3).2) 7) = (p1 - p1 / (2 : Int32) * (2 : Int32)) then
          if (128 : Int32) ≤ (((f_X_one ku m1 m3).1) 6) then
            ((f_X_one ku m1 m3).1, (upd ((f_X_one ku m1 m3).2) 4 (((((f_X_one ku m1 m3).2) 4) + ((((f_X_one ku m1 m3).1) 6) - (256 : Int32))) &&& (1023 : Int32))))
          else
            ((f_X_one ku m1 m3).1, (upd ((f_X_one ku m1 m3).2) 4 (((((f_X_one ku m1 m3).2) 4) + (((f_X_one ku m1 m3).1) 6)) &&& (1023 : Int32))))
        else
          ((f_X_one ku m1 m3).1, (f_X_one ku m1 m3).2)
      else
        if (((f_X_one ku m1 m3).2) 8) = (p1 - p1 / (2 : Int32) * (2 : Int32)) then
          if (128 : Int32) ≤ (((f_X_one ku m1 m3).1) 6) then
            ((f_X_one ku m1 m3).1, (upd ((f_X_one ku m1 m3).2) 4 (((((f_X_one ku m1 m3).2) 4) + ((((f_X_one ku m1 m3).1) 6) - (256 : Int32))) &&& (1023 : Int32))))
          else
            ((f_X_one ku m1 m3).1, (upd ((f_X_one ku m1 m3).2) 4 (((((f_X_one ku m1 m3).2) 4) + (((f_X_one ku m1 m3).1) 6)) &&& (1023 : Int32))))
        else
          ((f_X_one ku m1 m3).1, (f_X_one ku m1 m3).2)
    else
      if (((f_X_one ku m1 m3).2) 6) = (p1 - p1 / (2 : Int32) * (2 : Int32)) then
        if (128 : Int32) ≤ (((f_X_one ku m1 m3).1) 6) then
          ((f_X_one ku m1 m3).1, (upd ((f_X_one ku m1 m3).2) 4 (((((f_X_one ku m1 m3).2) 4) + ((((f_X_one ku m1 m3).1) 6) - (256 : Int32))) &&& (1023 : Int32))))
        else
          ((f_X_one ku m1 m3).1, (upd ((f_X_one ku m1 m3).2) 4 (((((f_X_one ku m1 m3).2) 4) + (((f_X_one ku m1 m3).1) 6)) &&& (1023 : Int32))))
      else
        ((f_X_one ku m1 m3).1, (f_X_one ku m1 m3).2)
  else
    if (((f_X_one ku m1 m3).2) 5) = (p1 - p1 / (2 : Int32) * (2 : Int32)) then
      if (128 : Int32) ≤ (((f_X_one ku m1 m3).1) 6) then
        ((f_X_one ku m1 m3).1, (upd ((f_X_one ku m1 m3).2) 4 (((((f_X_one ku m1 m3).2) 4) + ((((f_X_one ku m1 m3).1) 6) - (256 : Int32))) &&& (1023 : Int32))))
      else
        ((f_X_one ku m1 m3).1, (upd ((f_X_one ku m1 m3).2) 4 (((((f_X_one ku m1 m3).2) 4) + (((f_X_one ku m1 m3).1) 6)) &&& (1023 : Int32))))
    else
      ((f_X_one ku m1 m3).1, (f_X_one ku m1 m3).2)
abbrev Q_X_branch (dC : Nat → ClassId) (dI : Nat → Nat → Nat) (x0 : Nat) (x1 : Nat) (x2 : Nat) (x3 : Nat) (x4 : Nat) (c1 : ClassId) (c3 : ClassId) (p1 : Int32) (ku m1 m3 : Nat → Int32) (A : Nat → Prop) : Array Value → State → Outcome → State → Prop := va_Qv (fun (_ : Unit) => True) (fun _ t => atW (dC, dI) classes A [c_X x0 x1 x2 x3 x4 ((f_X_branch p1 ku m1 m3).1), c_A x1 c1 1024 m1, c_A x3 c3 9 ((f_X_branch p1 ku m1 m3).2)] [(c1, .int), (c3, .int)] t) A
set_option maxHeartbeats 4000000 in
set_option maxRecDepth 100000 in
theorem c_X_branch (l : Launch) (dC : Nat → ClassId) (dI : Nat → Nat → Nat) (z0 : Nat) (x0 : Nat) (x1 : Nat) (x2 : Nat) (x3 : Nat) (x4 : Nat) (c1 : ClassId) (c3 : ClassId) (sz : Nat) (p1 : Int32) (ku m1 m3 : Nat → Int32)  : Met l y_X_branch w_X_branch ({ frames := 3, cells := 0, slots := 0, locals := 64 }) (PcX (dC, dI) classes z0 [c_X x0 x1 x2 x3 x4 ku, c_A x1 c1 1024 m1, c_A x3 c3 9 m3] [(c1, .int), (c3, .int)] sz [.ref x0, .int p1]) (Q_X_branch dC dI x0 x1 x2 x3 x4 c1 c3 p1 ku m1 m3 (va_A [c_X x0 x1 x2 x3 x4 ku, c_A x1 c1 1024 m1, c_A x3 c3 9 m3] sz)) 0 0 (va_A [c_X x0 x1 x2 x3 x4 ku, c_A x1 c1 1024 m1, c_A x3 c3 9 m3] sz) := by
  refine hdX (cc := b_X_branch) (maxL := 3) (ret := none) (C := R_X) (Qc := (Q_X_branch dC dI x0 x1 x2 x3 x4 c1 c3 p1 ku m1 m3)) (by decide) rfl ?_
  intro p e s m below meth c A H hx hb hr hlocks hml hown hin htB hP hK hD hA hA0 hE hS
  have hl := lv_entry ([.ref x0, .int p1]) (n := 3) (Nat.le_of_ble_eq_true rfl)
  rw [lg_entry_eq]
  generalize (lg_sl ([.ref x0, .int p1]) ++ List.replicate (3 - (lg_sl ([.ref x0, .int p1])).length) Slot.unset).toArray = ls at hl ⊢
  have hl : lv_has ls 3 [(0, .ref x0), (1, .int p1)] := hl
  refine lv_aload_n hx hb d_X_branch_0 rfl (lv_at hl 0 rfl) ?_
  have hPc := hP.sub (ws' := [c_X x0 x1 x2 x3 x4 ku, c_A x1 c1 1024 m1, c_A x3 c3 9 m3]) [0, 1, 2] rfl
  have hDc := hD.sub (ws' := [c_X x0 x1 x2 x3 x4 ku, c_A x1 c1 1024 m1, c_A x3 c3 9 m3]) [0, 1, 2] (by decide) rfl
  have hKc := hK.sub (tys' := [(c1, .int), (c3, .int)]) [0, 1] rfl
  have hFc := va_free (wc := [c_X x0 x1 x2 x3 x4 ku, c_A x1 c1 1024 m1, c_A x3 c3 9 m3]) hD hS hA [0, 1, 2] rfl
  refine va_callv (va_runV (As := []) (rest := []) ⟨hx, hb, hml, hown, htB⟩ (c_X_one l dC dI z0 x0 x1 x2 x3 x4 c1 c3 H.size ku m1 m3) (cwV 0 htB (gd_V mw_571 mw_573 sw_X_one mw_4 mw_574) rfl rfl rfl (by decide +kernel) ⟨Nat.le_of_ble_eq_true rfl, Nat.le_of_ble_eq_true rfl⟩) (pcx_V (va_recv hKc hPc (ci := 3) (q0 := 0) rfl rfl) hPc hKc hDc hA0 hE hS) rfl rfl hl.1 rfl (lv_room (Nat.le_of_ble_eq_true rfl)) d_X_branch_1 ⟨Nat.zero_le _, Nat.zero_le _⟩) hS (fun q _ h => hFc q h) hFc (fun u t H1 locs ht hvm hw hB hz1 hk1 hS => ?_)
  obtain ⟨hP1, hK1, hD1⟩ := hB
  rw [ht] at hP1
  obtain ⟨hP, hD⟩ := va_join (wr := []) (w1 := [c_X x0 x1 x2 x3 x4 ((f_X_one ku m1 m3).1), c_A x1 c1 1024 m1, c_A x3 c3 9 ((f_X_one ku m1 m3).2)]) hP hD [0, 1, 2] [] rfl rfl (by decide) (by decide) hk1 hFc hP1 hD1
  generalize H1 = H at hP hS ⊢
  have hP : va_P (dC, dI) classes [c_X x0 x1 x2 x3 x4 ((f_X_one ku m1 m3).1), c_A x1 c1 1024 m1, c_A x3 c3 9 ((f_X_one ku m1 m3).2)] H := hP.sub [0, 1, 2] rfl
  have hD : va_D A [c_X x0 x1 x2 x3 x4 ((f_X_one ku m1 m3).1), c_A x1 c1 1024 m1, c_A x3 c3 9 ((f_X_one ku m1 m3).2)] := hD.sub [0, 1, 2] (by decide) rfl
  refine lv_iload_n hx hb d_X_branch_4 rfl (lv_at hl 1 rfl) ?_
  refine lv_iconst (v := 2) hx hb d_X_branch_5 (by decide) ?_
  refine lv_icmp_ge (tgt := 18) hx hb d_X_branch_6 (by decide) (fun c_1 => ?_) (fun c_1 => ?_)
  · refine lv_iload_n hx hb d_X_branch_18 rfl (lv_at hl 1 rfl) ?_
    refine lv_iconst (v := 4) hx hb d_X_branch_19 (by decide) ?_
    refine lv_icmp_ge (tgt := 33) hx hb d_X_branch_20 (by decide) (fun c_2 => ?_) (fun c_2 => ?_)
    · refine lv_iload_n hx hb d_X_branch_33 rfl (lv_at hl 1 rfl) ?_
      refine lv_bipush (v := 6) hx hb d_X_branch_34 (by decide) ?_
      refine lv_icmp_ge (tgt := 49) hx hb d_X_branch_36 (by decide) (fun c_3 => ?_) (fun c_3 => ?_)
      · refine lv_aload_n hx hb d_X_branch_49 rfl (lv_at hl 0 rfl) ?_
        refine va_get (D := (dC, dI)) (ci := 3) (v := .ref x3) (C := R_X) (T := F_X) (N := 13) hx hb htB i_X hown hK hP 0 rfl rfl 2 (by decide) (htB _ mw_463) (fun _ h9 => h9) rfl d_X_branch_50 ?_
        refine lv_bipush (v := 7) hx hb d_X_branch_53 (by decide) ?_
        refine iald_at hx hb hK hP 2 1 rfl rfl (show ¬ ((7 : Int32) < 0 ∨ 9 ≤ (7 : Int32).toNatClampNeg) from by decide) (show (7 : Int32).toNatClampNeg = 7 from by decide) d_X_branch_55 ?_
        refine lv_istore_n (lv' := [(2, .int (((f_X_one ku m1 m3).2) 7)), (0, .ref x0), (1, .int p1)]) hx hb d_X_branch_56 rfl hl (by decide) rfl (fun ls hl => ?_)
        refine lv_iload_n hx hb d_X_branch_57 rfl (lv_at hl 0 rfl) ?_
        refine lv_iload_n hx hb d_X_branch_58 rfl (lv_at hl 2 rfl) ?_
        refine lv_iconst (v := 2) hx hb d_X_branch_59 (by decide) ?_
        refine lv_irem hx hb d_X_branch_60 (by decide) ?_
        refine lv_icmp_ne (tgt := 106) hx hb d_X_branch_61 (by decide) (fun c_4 => ?_) (fun c_4 => ?_)
        · have hf : f_X_branch p1 ku m1 m3 = ((f_X_one ku m1 m3).1, (f_X_one ku m1 m3).2) := by rw [f_X_branch, if_pos c_1, if_pos c_2, if_pos c_3, if_neg c_4]
          exact W.vret hx hb hr (fun t ht hW => ⟨⟨(), rfl, trivial, by rw [hf]; exact ⟨by rw [ht]; exact hP, va_K.moved hW.alike hK, hD⟩⟩, hS.F ht⟩) hS.2.2 d_X_branch_106
        · refine lv_aload_n hx hb d_X_branch_64 rfl (lv_at hl 1 rfl) ?_
          refine va_get (D := (dC, dI)) (ci := 3) (v := .ref x3) (C := R_X) (T := F_X) (N := 13) hx hb htB i_X hown hK hP 0 rfl rfl 2 (by decide) (htB _ mw_463) (fun _ h9 => h9) rfl d_X_branch_65 ?_
          refine lv_iconst (v := 4) hx hb d_X_branch_68 (by decide) ?_
          refine lv_aload_n hx hb d_X_branch_69 rfl (lv_at hl 1 rfl) ?_
          refine va_get (D := (dC, dI)) (ci := 3) (v := .ref x3) (C := R_X) (T := F_X) (N := 13) hx hb htB i_X hown hK hP 0 rfl rfl 2 (by decide) (htB _ mw_463) (fun _ h9 => h9) rfl d_X_branch_70 ?_
          refine lv_iconst (v := 4) hx hb d_X_branch_73 (by decide) ?_
          refine iald_at hx hb hK hP 2 1 rfl rfl (show ¬ ((4 : Int32) < 0 ∨ 9 ≤ (4 : Int32).toNatClampNeg) from by decide) (show (4 : Int32).toNatClampNeg = 4 from by decide) d_X_branch_74 ?_
          refine lv_aload_n hx hb d_X_branch_75 rfl (lv_at hl 1 rfl) ?_
          refine va_get (D := (dC, dI)) (ci := 3) (v := .int (((f_X_one ku m1 m3).1) 6)) (C := R_X) (T := F_X) (N := 13) hx hb htB i_X hown hK hP 0 rfl rfl 10 (by decide) (htB _ mw_471) (fun _ h9 => h9) rfl d_X_branch_76 ?_
          refine lv_sipush (v := 128) hx hb d_X_branch_79 (by decide) ?_
          refine lv_icmp_ge (tgt := 92) hx hb d_X_branch_82 (by decide) (fun c_5 => ?_) (fun c_5 => ?_)
          · refine lv_aload_n hx hb d_X_branch_92 rfl (lv_at hl 1 rfl) ?_
            refine va_get (D := (dC, dI)) (ci := 3) (v := .int (((f_X_one ku m1 m3).1) 6)) (C := R_X) (T := F_X) (N := 13) hx hb htB i_X hown hK hP 0 rfl rfl 10 (by decide) (htB _ mw_471) (fun _ h9 => h9) rfl d_X_branch_93 ?_
            refine lv_sipush (v := 256) hx hb d_X_branch_96 (by decide) ?_
            refine lv_isub hx hb d_X_branch_99 ?_
            refine lv_iadd hx hb d_X_branch_100 ?_
            refine lv_sipush (v := 1023) hx hb d_X_branch_101 (by decide) ?_
            refine lv_iand hx hb d_X_branch_104 ?_
            refine iast_at hx hb hK hP hD hS 2 1 rfl rfl (show ¬ ((4 : Int32) < 0 ∨ 9 ≤ (4 : Int32).toNatClampNeg) from by decide) (show (4 : Int32).toNatClampNeg = 4 from by decide) d_X_branch_105 (fun H locs hP hD hS => ?_)
            have hP : va_P (dC, dI) classes [c_X x0 x1 x2 x3 x4 ((f_X_one ku m1 m3).1), c_A x1 c1 1024 m1, c_A x3 c3 9 (upd ((f_X_one ku m1 m3).2) 4 (((((f_X_one ku m1 m3).2) 4) + ((((f_X_one ku m1 m3).1) 6) - (256 : Int32))) &&& (1023 : Int32)))] H := hP
            have hD : va_D A [c_X x0 x1 x2 x3 x4 ((f_X_one ku m1 m3).1), c_A x1 c1 1024 m1, c_A x3 c3 9 (upd ((f_X_one ku m1 m3).2) 4 (((((f_X_one ku m1 m3).2) 4) + ((((f_X_one ku m1 m3).1) 6) - (256 : Int32))) &&& (1023 : Int32)))] := hD
            have hf : f_X_branch p1 ku m1 m3 = ((f_X_one ku m1 m3).1, (upd ((f_X_one ku m1 m3).2) 4 (((((f_X_one ku m1 m3).2) 4) + ((((f_X_one ku m1 m3).1) 6) - (256 : Int32))) &&& (1023 : Int32)))) := by rw [f_X_branch, if_pos c_1, if_pos c_2, if_pos c_3, if_pos c_4, if_pos c_5]
            exact W.vret hx hb hr (fun t ht hW => ⟨⟨(), rfl, trivial, by rw [hf]; exact ⟨by rw [ht]; exact hP, va_K.moved hW.alike hK, hD⟩⟩, hS.F ht⟩) hS.2.2 d_X_branch_106
          · refine lv_aload_n hx hb d_X_branch_85 rfl (lv_at hl 1 rfl) ?_
            refine va_get (D := (dC, dI)) (ci := 3) (v := .int (((f_X_one ku m1 m3).1) 6)) (C := R_X) (T := F_X) (N := 13) hx hb htB i_X hown hK hP 0 rfl rfl 10 (by decide) (htB _ mw_471) (fun _ h9 => h9) rfl d_X_branch_86 ?_
            refine lv_goto (tgt := 100) hx hb d_X_branch_89 (by decide) ?_
            refine lv_iadd hx hb d_X_branch_100 ?_
            refine lv_sipush (v := 1023) hx hb d_X_branch_101 (by decide) ?_
            refine lv_iand hx hb d_X_branch_104 ?_
            refine iast_at hx hb hK hP hD hS 2 1 rfl rfl (show ¬ ((4 : Int32) < 0 ∨ 9 ≤ (4 : Int32).toNatClampNeg) from by decide) (show (4 : Int32).toNatClampNeg = 4 from by decide) d_X_branch_105 (fun H locs hP hD hS => ?_)
            have hP : va_P (dC, dI) classes [c_X x0 x1 x2 x3 x4 ((f_X_one ku m1 m3).1), c_A x1 c1 1024 m1, c_A x3 c3 9 (upd ((f_X_one ku m1 m3).2) 4 (((((f_X_one ku m1 m3).2) 4) + (((f_X_one ku m1 m3).1) 6)) &&& (1023 : Int32)))] H := hP
            have hD : va_D A [c_X x0 x1 x2 x3 x4 ((f_X_one ku m1 m3).1), c_A x1 c1 1024 m1, c_A x3 c3 9 (upd ((f_X_one ku m1 m3).2) 4 (((((f_X_one ku m1 m3).2) 4) + (((f_X_one ku m1 m3).1) 6)) &&& (1023 : Int32)))] := hD
            have hf : f_X_branch p1 ku m1 m3 = ((f_X_one ku m1 m3).1, (upd ((f_X_one ku m1 m3).2) 4 (((((f_X_one ku m1 m3).2) 4) + (((f_X_one ku m1 m3).1) 6)) &&& (1023 : Int32)))) := by rw [f_X_branch, if_pos c_1, if_pos c_2, if_pos c_3, if_pos c_4, if_neg c_5]
            exact W.vret hx hb hr (fun t ht hW => ⟨⟨(), rfl, trivial, by rw [hf]; exact ⟨by rw [ht]; exact hP, va_K.moved hW.alike hK, hD⟩⟩, hS.F ht⟩) hS.2.2 d_X_branch_106
      · refine lv_aload_n hx hb d_X_branch_39 rfl (lv_at hl 0 rfl) ?_
        refine va_get (D := (dC, dI)) (ci := 3) (v := .ref x3) (C := R_X) (T := F_X) (N := 13) hx hb htB i_X hown hK hP 0 rfl rfl 2 (by decide) (htB _ mw_463) (fun _ h9 => h9) rfl d_X_branch_40 ?_
        refine lv_bipush (v := 8) hx hb d_X_branch_43 (by decide) ?_
        refine iald_at hx hb hK hP 2 1 rfl rfl (show ¬ ((8 : Int32) < 0 ∨ 9 ≤ (8 : Int32).toNatClampNeg) from by decide) (show (8 : Int32).toNatClampNeg = 8 from by decide) d_X_branch_45 ?_
        refine lv_goto (tgt := 56) hx hb d_X_branch_46 (by decide) ?_
        refine lv_istore_n (lv' := [(2, .int (((f_X_one ku m1 m3).2) 8)), (0, .ref x0), (1, .int p1)]) hx hb d_X_branch_56 rfl hl (by decide) rfl (fun ls hl => ?_)
        refine lv_iload_n hx hb d_X_branch_57 rfl (lv_at hl 0 rfl) ?_
        refine lv_iload_n hx hb d_X_branch_58 rfl (lv_at hl 2 rfl) ?_
        refine lv_iconst (v := 2) hx hb d_X_branch_59 (by decide) ?_
        refine lv_irem hx hb d_X_branch_60 (by decide) ?_
        refine lv_icmp_ne (tgt := 106) hx hb d_X_branch_61 (by decide) (fun c_4 => ?_) (fun c_4 => ?_)
        · have hf : f_X_branch p1 ku m1 m3 = ((f_X_one ku m1 m3).1, (f_X_one ku m1 m3).2) := by rw [f_X_branch, if_pos c_1, if_pos c_2, if_neg c_3, if_neg c_4]
          exact W.vret hx hb hr (fun t ht hW => ⟨⟨(), rfl, trivial, by rw [hf]; exact ⟨by rw [ht]; exact hP, va_K.moved hW.alike hK, hD⟩⟩, hS.F ht⟩) hS.2.2 d_X_branch_106
        · refine lv_aload_n hx hb d_X_branch_64 rfl (lv_at hl 1 rfl) ?_
          refine va_get (D := (dC, dI)) (ci := 3) (v := .ref x3) (C := R_X) (T := F_X) (N := 13) hx hb htB i_X hown hK hP 0 rfl rfl 2 (by decide) (htB _ mw_463) (fun _ h9 => h9) rfl d_X_branch_65 ?_
          refine lv_iconst (v := 4) hx hb d_X_branch_68 (by decide) ?_
          refine lv_aload_n hx hb d_X_branch_69 rfl (lv_at hl 1 rfl) ?_
          refine va_get (D := (dC, dI)) (ci := 3) (v := .ref x3) (C := R_X) (T := F_X) (N := 13) hx hb htB i_X hown hK hP 0 rfl rfl 2 (by decide) (htB _ mw_463) (fun _ h9 => h9) rfl d_X_branch_70 ?_
          refine lv_iconst (v := 4) hx hb d_X_branch_73 (by decide) ?_
          refine iald_at hx hb hK hP 2 1 rfl rfl (show ¬ ((4 : Int32) < 0 ∨ 9 ≤ (4 : Int32).toNatClampNeg) from by decide) (show (4 : Int32).toNatClampNeg = 4 from by decide) d_X_branch_74 ?_
          refine lv_aload_n hx hb d_X_branch_75 rfl (lv_at hl 1 rfl) ?_
          refine va_get (D := (dC, dI)) (ci := 3) (v := .int (((f_X_one ku m1 m3).1) 6)) (C := R_X) (T := F_X) (N := 13) hx hb htB i_X hown hK hP 0 rfl rfl 10 (by decide) (htB _ mw_471) (fun _ h9 => h9) rfl d_X_branch_76 ?_
          refine lv_sipush (v := 128) hx hb d_X_branch_79 (by decide) ?_
          refine lv_icmp_ge (tgt := 92) hx hb d_X_branch_82 (by decide) (fun c_5 => ?_) (fun c_5 => ?_)
          · refine lv_aload_n hx hb d_X_branch_92 rfl (lv_at hl 1 rfl) ?_
            refine va_get (D := (dC, dI)) (ci := 3) (v := .int (((f_X_one ku m1 m3).1) 6)) (C := R_X) (T := F_X) (N := 13) hx hb htB i_X hown hK hP 0 rfl rfl 10 (by decide) (htB _ mw_471) (fun _ h9 => h9) rfl d_X_branch_93 ?_
            refine lv_sipush (v := 256) hx hb d_X_branch_96 (by decide) ?_
            refine lv_isub hx hb d_X_branch_99 ?_
            refine lv_iadd hx hb d_X_branch_100 ?_
            refine lv_sipush (v := 1023) hx hb d_X_branch_101 (by decide) ?_
            refine lv_iand hx hb d_X_branch_104 ?_
            refine iast_at hx hb hK hP hD hS 2 1 rfl rfl (show ¬ ((4 : Int32) < 0 ∨ 9 ≤ (4 : Int32).toNatClampNeg) from by decide) (show (4 : Int32).toNatClampNeg = 4 from by decide) d_X_branch_105 (fun H locs hP hD hS => ?_)
            have hP : va_P (dC, dI) classes [c_X x0 x1 x2 x3 x4 ((f_X_one ku m1 m3).1), c_A x1 c1 1024 m1, c_A x3 c3 9 (upd ((f_X_one ku m1 m3).2) 4 (((((f_X_one ku m1 m3).2) 4) + ((((f_X_one ku m1 m3).1) 6) - (256 : Int32))) &&& (1023 : Int32)))] H := hP
            have hD : va_D A [c_X x0 x1 x2 x3 x4 ((f_X_one ku m1 m3).1), c_A x1 c1 1024 m1, c_A x3 c3 9 (upd ((f_X_one ku m1 m3).2) 4 (((((f_X_one ku m1 m3).2) 4) + ((((f_X_one ku m1 m3).1) 6) - (256 : Int32))) &&& (1023 : Int32)))] := hD
            have hf : f_X_branch p1 ku m1 m3 = ((f_X_one ku m1 m3).1, (upd ((f_X_one ku m1 m3).2) 4 (((((f_X_one ku m1 m3).2) 4) + ((((f_X_one ku m1 m3).1) 6) - (256 : Int32))) &&& (1023 : Int32)))) := by rw [f_X_branch, if_pos c_1, if_pos c_2, if_neg c_3, if_pos c_4, if_pos c_5]
            exact W.vret hx hb hr (fun t ht hW => ⟨⟨(), rfl, trivial, by rw [hf]; exact ⟨by rw [ht]; exact hP, va_K.moved hW.alike hK, hD⟩⟩, hS.F ht⟩) hS.2.2 d_X_branch_106
          · refine lv_aload_n hx hb d_X_branch_85 rfl (lv_at hl 1 rfl) ?_
            refine va_get (D := (dC, dI)) (ci := 3) (v := .int (((f_X_one ku m1 m3).1) 6)) (C := R_X) (T := F_X) (N := 13) hx hb htB i_X hown hK hP 0 rfl rfl 10 (by decide) (htB _ mw_471) (fun _ h9 => h9) rfl d_X_branch_86 ?_
            refine lv_goto (tgt := 100) hx hb d_X_branch_89 (by decide) ?_
            refine lv_iadd hx hb d_X_branch_100 ?_
            refine lv_sipush (v := 1023) hx hb d_X_branch_101 (by decide) ?_
            refine lv_iand hx hb d_X_branch_104 ?_
            refine iast_at hx hb hK hP hD hS 2 1 rfl rfl (show ¬ ((4 : Int32) < 0 ∨ 9 ≤ (4 : Int32).toNatClampNeg) from by decide) (show (4 : Int32).toNatClampNeg = 4 from by decide) d_X_branch_105 (fun H locs hP hD hS => ?_)
            have hP : va_P (dC, dI) classes [c_X x0 x1 x2 x3 x4 ((f_X_one ku m1 m3).1), c_A x1 c1 1024 m1, c_A x3 c3 9 (upd ((f_X_one ku m1 m3).2) 4 (((((f_X_one ku m1 m3).2) 4) + (((f_X_one ku m1 m3).1) 6)) &&& (1023 : Int32)))] H := hP
            have hD : va_D A [c_X x0 x1 x2 x3 x4 ((f_X_one ku m1 m3).1), c_A x1 c1 1024 m1, c_A x3 c3 9 (upd ((f_X_one ku m1 m3).2) 4 (((((f_X_one ku m1 m3).2) 4) + (((f_X_one ku m1 m3).1) 6)) &&& (1023 : Int32)))] := hD
            have hf : f_X_branch p1 ku m1 m3 = ((f_X_one ku m1 m3).1, (upd ((f_X_one ku m1 m3).2) 4 (((((f_X_one ku m1 m3).2) 4) + (((f_X_one ku m1 m3).1) 6)) &&& (1023 : Int32)))) := by rw [f_X_branch, if_pos c_1, if_pos c_2, if_neg c_3, if_pos c_4, if_neg c_5]
            exact W.vret hx hb hr (fun t ht hW => ⟨⟨(), rfl, trivial, by rw [hf]; exact ⟨by rw [ht]; exact hP, va_K.moved hW.alike hK, hD⟩⟩, hS.F ht⟩) hS.2.2 d_X_branch_106
    · refine lv_aload_n hx hb d_X_branch_23 rfl (lv_at hl 0 rfl) ?_
      refine va_get (D := (dC, dI)) (ci := 3) (v := .ref x3) (C := R_X) (T := F_X) (N := 13) hx hb htB i_X hown hK hP 0 rfl rfl 2 (by decide) (htB _ mw_463) (fun _ h9 => h9) rfl d_X_branch_24 ?_
      refine lv_bipush (v := 6) hx hb d_X_branch_27 (by decide) ?_
      refine iald_at hx hb hK hP 2 1 rfl rfl (show ¬ ((6 : Int32) < 0 ∨ 9 ≤ (6 : Int32).toNatClampNeg) from by decide) (show (6 : Int32).toNatClampNeg = 6 from by decide) d_X_branch_29 ?_
      refine lv_goto (tgt := 56) hx hb d_X_branch_30 (by decide) ?_
      refine lv_istore_n (lv' := [(2, .int (((f_X_one ku m1 m3).2) 6)), (0, .ref x0), (1, .int p1)]) hx hb d_X_branch_56 rfl hl (by decide) rfl (fun ls hl => ?_)
      refine lv_iload_n hx hb d_X_branch_57 rfl (lv_at hl 0 rfl) ?_
      refine lv_iload_n hx hb d_X_branch_58 rfl (lv_at hl 2 rfl) ?_
      refine lv_iconst (v := 2) hx hb d_X_branch_59 (by decide) ?_
      refine lv_irem hx hb d_X_branch_60 (by decide) ?_
      refine lv_icmp_ne (tgt := 106) hx hb d_X_branch_61 (by decide) (fun c_3 => ?_) (fun c_3 => ?_)
      · have hf : f_X_branch p1 ku m1 m3 = ((f_X_one ku m1 m3).1, (f_X_one ku m1 m3).2) := by rw [f_X_branch, if_pos c_1, if_neg c_2, if_neg c_3]
        exact W.vret hx hb hr (fun t ht hW => ⟨⟨(), rfl, trivial, by rw [hf]; exact ⟨by rw [ht]; exact hP, va_K.moved hW.alike hK, hD⟩⟩, hS.F ht⟩) hS.2.2 d_X_branch_106
      · refine lv_aload_n hx hb d_X_branch_64 rfl (lv_at hl 1 rfl) ?_
        refine va_get (D := (dC, dI)) (ci := 3) (v := .ref x3) (C := R_X) (T := F_X) (N := 13) hx hb htB i_X hown hK hP 0 rfl rfl 2 (by decide) (htB _ mw_463) (fun _ h9 => h9) rfl d_X_branch_65 ?_
        refine lv_iconst (v := 4) hx hb d_X_branch_68 (by decide) ?_
        refine lv_aload_n hx hb d_X_branch_69 rfl (lv_at hl 1 rfl) ?_
        refine va_get (D := (dC, dI)) (ci := 3) (v := .ref x3) (C := R_X) (T := F_X) (N := 13) hx hb htB i_X hown hK hP 0 rfl rfl 2 (by decide) (htB _ mw_463) (fun _ h9 => h9) rfl d_X_branch_70 ?_
        refine lv_iconst (v := 4) hx hb d_X_branch_73 (by decide) ?_
        refine iald_at hx hb hK hP 2 1 rfl rfl (show ¬ ((4 : Int32) < 0 ∨ 9 ≤ (4 : Int32).toNatClampNeg) from by decide) (show (4 : Int32).toNatClampNeg = 4 from by decide) d_X_branch_74 ?_
        refine lv_aload_n hx hb d_X_branch_75 rfl (lv_at hl 1 rfl) ?_
        refine va_get (D := (dC, dI)) (ci := 3) (v := .int (((f_X_one ku m1 m3).1) 6)) (C := R_X) (T := F_X) (N := 13) hx hb htB i_X hown hK hP 0 rfl rfl 10 (by decide) (htB _ mw_471) (fun _ h9 => h9) rfl d_X_branch_76 ?_
        refine lv_sipush (v := 128) hx hb d_X_branch_79 (by decide) ?_
        refine lv_icmp_ge (tgt := 92) hx hb d_X_branch_82 (by decide) (fun c_4 => ?_) (fun c_4 => ?_)
        · refine lv_aload_n hx hb d_X_branch_92 rfl (lv_at hl 1 rfl) ?_
          refine va_get (D := (dC, dI)) (ci := 3) (v := .int (((f_X_one ku m1 m3).1) 6)) (C := R_X) (T := F_X) (N := 13) hx hb htB i_X hown hK hP 0 rfl rfl 10 (by decide) (htB _ mw_471) (fun _ h9 => h9) rfl d_X_branch_93 ?_
          refine lv_sipush (v := 256) hx hb d_X_branch_96 (by decide) ?_
          refine lv_isub hx hb d_X_branch_99 ?_
          refine lv_iadd hx hb d_X_branch_100 ?_
          refine lv_sipush (v := 1023) hx hb d_X_branch_101 (by decide) ?_
          refine lv_iand hx hb d_X_branch_104 ?_
          refine iast_at hx hb hK hP hD hS 2 1 rfl rfl (show ¬ ((4 : Int32) < 0 ∨ 9 ≤ (4 : Int32).toNatClampNeg) from by decide) (show (4 : Int32).toNatClampNeg = 4 from by decide) d_X_branch_105 (fun H locs hP hD hS => ?_)
          have hP : va_P (dC, dI) classes [c_X x0 x1 x2 x3 x4 ((f_X_one ku m1 m3).1), c_A x1 c1 1024 m1, c_A x3 c3 9 (upd ((f_X_one ku m1 m3).2) 4 (((((f_X_one ku m1 m3).2) 4) + ((((f_X_one ku m1 m3).1) 6) - (256 : Int32))) &&& (1023 : Int32)))] H := hP
          have hD : va_D A [c_X x0 x1 x2 x3 x4 ((f_X_one ku m1 m3).1), c_A x1 c1 1024 m1, c_A x3 c3 9 (upd ((f_X_one ku m1 m3).2) 4 (((((f_X_one ku m1 m3).2) 4) + ((((f_X_one ku m1 m3).1) 6) - (256 : Int32))) &&& (1023 : Int32)))] := hD
          have hf : f_X_branch p1 ku m1 m3 = ((f_X_one ku m1 m3).1, (upd ((f_X_one ku m1 m3).2) 4 (((((f_X_one ku m1 m3).2) 4) + ((((f_X_one ku m1 m3).1) 6) - (256 : Int32))) &&& (1023 : Int32)))) := by rw [f_X_branch, if_pos c_1, if_neg c_2, if_pos c_3, if_pos c_4]
          exact W.vret hx hb hr (fun t ht hW => ⟨⟨(), rfl, trivial, by rw [hf]; exact ⟨by rw [ht]; exact hP, va_K.moved hW.alike hK, hD⟩⟩, hS.F ht⟩) hS.2.2 d_X_branch_106
        · refine lv_aload_n hx hb d_X_branch_85 rfl (lv_at hl 1 rfl) ?_
          refine va_get (D := (dC, dI)) (ci := 3) (v := .int (((f_X_one ku m1 m3).1) 6)) (C := R_X) (T := F_X) (N := 13) hx hb htB i_X hown hK hP 0 rfl rfl 10 (by decide) (htB _ mw_471) (fun _ h9 => h9) rfl d_X_branch_86 ?_
          refine lv_goto (tgt := 100) hx hb d_X_branch_89 (by decide) ?_
          refine lv_iadd hx hb d_X_branch_100 ?_
          refine lv_sipush (v := 1023) hx hb d_X_branch_101 (by decide) ?_
          refine lv_iand hx hb d_X_branch_104 ?_
          refine iast_at hx hb hK hP hD hS 2 1 rfl rfl (show ¬ ((4 : Int32) < 0 ∨ 9 ≤ (4 : Int32).toNatClampNeg) from by decide) (show (4 : Int32).toNatClampNeg = 4 from by decide) d_X_branch_105 (fun H locs hP hD hS => ?_)
          have hP : va_P (dC, dI) classes [c_X x0 x1 x2 x3 x4 ((f_X_one ku m1 m3).1), c_A x1 c1 1024 m1, c_A x3 c3 9 (upd ((f_X_one ku m1 m3).2) 4 (((((f_X_one ku m1 m3).2) 4) + (((f_X_one ku m1 m3).1) 6)) &&& (1023 : Int32)))] H := hP
          have hD : va_D A [c_X x0 x1 x2 x3 x4 ((f_X_one ku m1 m3).1), c_A x1 c1 1024 m1, c_A x3 c3 9 (upd ((f_X_one ku m1 m3).2) 4 (((((f_X_one ku m1 m3).2) 4) + (((f_X_one ku m1 m3).1) 6)) &&& (1023 : Int32)))] := hD
          have hf : f_X_branch p1 ku m1 m3 = ((f_X_one ku m1 m3).1, (upd ((f_X_one ku m1 m3).2) 4 (((((f_X_one ku m1 m3).2) 4) + (((f_X_one ku m1 m3).1) 6)) &&& (1023 : Int32)))) := by rw [f_X_branch, if_pos c_1, if_neg c_2, if_pos c_3, if_neg c_4]
          exact W.vret hx hb hr (fun t ht hW => ⟨⟨(), rfl, trivial, by rw [hf]; exact ⟨by rw [ht]; exact hP, va_K.moved hW.alike hK, hD⟩⟩, hS.F ht⟩) hS.2.2 d_X_branch_106
  · refine lv_aload_n hx hb d_X_branch_9 rfl (lv_at hl 0 rfl) ?_
    refine va_get (D := (dC, dI)) (ci := 3) (v := .ref x3) (C := R_X) (T := F_X) (N := 13) hx hb htB i_X hown hK hP 0 rfl rfl 2 (by decide) (htB _ mw_463) (fun _ h9 => h9) rfl d_X_branch_10 ?_
    refine lv_iconst (v := 5) hx hb d_X_branch_13 (by decide) ?_
    refine iald_at hx hb hK hP 2 1 rfl rfl (show ¬ ((5 : Int32) < 0 ∨ 9 ≤ (5 : Int32).toNatClampNeg) from by decide) (show (5 : Int32).toNatClampNeg = 5 from by decide) d_X_branch_14 ?_
    refine lv_goto (tgt := 56) hx hb d_X_branch_15 (by decide) ?_
    refine lv_istore_n (lv' := [(2, .int (((f_X_one ku m1 m3).2) 5)), (0, .ref x0), (1, .int p1)]) hx hb d_X_branch_56 rfl hl (by decide) rfl (fun ls hl => ?_)
    refine lv_iload_n hx hb d_X_branch_57 rfl (lv_at hl 0 rfl) ?_
    refine lv_iload_n hx hb d_X_branch_58 rfl (lv_at hl 2 rfl) ?_
    refine lv_iconst (v := 2) hx hb d_X_branch_59 (by decide) ?_
    refine lv_irem hx hb d_X_branch_60 (by decide) ?_
    refine lv_icmp_ne (tgt := 106) hx hb d_X_branch_61 (by decide) (fun c_2 => ?_) (fun c_2 => ?_)
    · have hf : f_X_branch p1 ku m1 m3 = ((f_X_one ku m1 m3).1, (f_X_one ku m1 m3).2) := by rw [f_X_branch, if_neg c_1, if_neg c_2]
      exact W.vret hx hb hr (fun t ht hW => ⟨⟨(), rfl, trivial, by rw [hf]; exact ⟨by rw [ht]; exact hP, va_K.moved hW.alike hK, hD⟩⟩, hS.F ht⟩) hS.2.2 d_X_branch_106
    · refine lv_aload_n hx hb d_X_branch_64 rfl (lv_at hl 1 rfl) ?_
      refine va_get (D := (dC, dI)) (ci := 3) (v := .ref x3) (C := R_X) (T := F_X) (N := 13) hx hb htB i_X hown hK hP 0 rfl rfl 2 (by decide) (htB _ mw_463) (fun _ h9 => h9) rfl d_X_branch_65 ?_
      refine lv_iconst (v := 4) hx hb d_X_branch_68 (by decide) ?_
      refine lv_aload_n hx hb d_X_branch_69 rfl (lv_at hl 1 rfl) ?_
      refine va_get (D := (dC, dI)) (ci := 3) (v := .ref x3) (C := R_X) (T := F_X) (N := 13) hx hb htB i_X hown hK hP 0 rfl rfl 2 (by decide) (htB _ mw_463) (fun _ h9 => h9) rfl d_X_branch_70 ?_
      refine lv_iconst (v := 4) hx hb d_X_branch_73 (by decide) ?_
      refine iald_at hx hb hK hP 2 1 rfl rfl (show ¬ ((4 : Int32) < 0 ∨ 9 ≤ (4 : Int32).toNatClampNeg) from by decide) (show (4 : Int32).toNatClampNeg = 4 from by decide) d_X_branch_74 ?_
      refine lv_aload_n hx hb d_X_branch_75 rfl (lv_at hl 1 rfl) ?_
      refine va_get (D := (dC, dI)) (ci := 3) (v := .int (((f_X_one ku m1 m3).1) 6)) (C := R_X) (T := F_X) (N := 13) hx hb htB i_X hown hK hP 0 rfl rfl 10 (by decide) (htB _ mw_471) (fun _ h9 => h9) rfl d_X_branch_76 ?_
      refine lv_sipush (v := 128) hx hb d_X_branch_79 (by decide) ?_
      refine lv_icmp_ge (tgt := 92) hx hb d_X_branch_82 (by decide) (fun c_3 => ?_) (fun c_3 => ?_)
      · refine lv_aload_n hx hb d_X_branch_92 rfl (lv_at hl 1 rfl) ?_
        refine va_get (D := (dC, dI)) (ci := 3) (v := .int (((f_X_one ku m1 m3).1) 6)) (C := R_X) (T := F_X) (N := 13) hx hb htB i_X hown hK hP 0 rfl rfl 10 (by decide) (htB _ mw_471) (fun _ h9 => h9) rfl d_X_branch_93 ?_
        refine lv_sipush (v := 256) hx hb d_X_branch_96 (by decide) ?_
        refine lv_isub hx hb d_X_branch_99 ?_
        refine lv_iadd hx hb d_X_branch_100 ?_
        refine lv_sipush (v := 1023) hx hb d_X_branch_101 (by decide) ?_
        refine lv_iand hx hb d_X_branch_104 ?_
        refine iast_at hx hb hK hP hD hS 2 1 rfl rfl (show ¬ ((4 : Int32) < 0 ∨ 9 ≤ (4 : Int32).toNatClampNeg) from by decide) (show (4 : Int32).toNatClampNeg = 4 from by decide) d_X_branch_105 (fun H locs hP hD hS => ?_)
        have hP : va_P (dC, dI) classes [c_X x0 x1 x2 x3 x4 ((f_X_one ku m1 m3).1), c_A x1 c1 1024 m1, c_A x3 c3 9 (upd ((f_X_one ku m1 m3).2) 4 (((((f_X_one ku m1 m3).2) 4) + ((((f_X_one ku m1 m3).1) 6) - (256 : Int32))) &&& (1023 : Int32)))] H := hP
        have hD : va_D A [c_X x0 x1 x2 x3 x4 ((f_X_one ku m1 m3).1), c_A x1 c1 1024 m1, c_A x3 c3 9 (upd ((f_X_one ku m1 m3).2) 4 (((((f_X_one ku m1 m3).2) 4) + ((((f_X_one ku m1 m3).1) 6) - (256 : Int32))) &&& (1023 : Int32)))] := hD
        have hf : f_X_branch p1 ku m1 m3 = ((f_X_one ku m1 m3).1, (upd ((f_X_one ku m1 m3).2) 4 (((((f_X_one ku m1 m3).2) 4) + ((((f_X_one ku m1 m3).1) 6) - (256 : Int32))) &&& (1023 : Int32)))) := by rw [f_X_branch, if_neg c_1, if_pos c_2, if_pos c_3]
        exact W.vret hx hb hr (fun t ht hW => ⟨⟨(), rfl, trivial, by rw [hf]; exact ⟨by rw [ht]; exact hP, va_K.moved hW.alike hK, hD⟩⟩, hS.F ht⟩) hS.2.2 d_X_branch_106
      · refine lv_aload_n hx hb d_X_branch_85 rfl (lv_at hl 1 rfl) ?_
        refine va_get (D := (dC, dI)) (ci := 3) (v := .int (((f_X_one ku m1 m3).1) 6)) (C := R_X) (T := F_X) (N := 13) hx hb htB i_X hown hK hP 0 rfl rfl 10 (by decide) (htB _ mw_471) (fun _ h9 => h9) rfl d_X_branch_86 ?_
        refine lv_goto (tgt := 100) hx hb d_X_branch_89 (by decide) ?_
        refine lv_iadd hx hb d_X_branch_100 ?_
        refine lv_sipush (v := 1023) hx hb d_X_branch_101 (by decide) ?_
        refine lv_iand hx hb d_X_branch_104 ?_
        refine iast_at hx hb hK hP hD hS 2 1 rfl rfl (show ¬ ((4 : Int32) < 0 ∨ 9 ≤ (4 : Int32).toNatClampNeg) from by decide) (show (4 : Int32).toNatClampNeg = 4 from by decide) d_X_branch_105 (fun H locs hP hD hS => ?_)
        have hP : va_P (dC, dI) classes [c_X x0 x1 x2 x3 x4 ((f_X_one ku m1 m3).1), c_A x1 c1 1024 m1, c_A x3 c3 9 (upd ((f_X_one ku m1 m3).2) 4 (((((f_X_one ku m1 m3).2) 4) + (((f_X_one ku m1 m3).1) 6)) &&& (1023 : Int32)))] H := hP
        have hD : va_D A [c_X x0 x1 x2 x3 x4 ((f_X_one ku m1 m3).1), c_A x1 c1 1024 m1, c_A x3 c3 9 (upd ((f_X_one ku m1 m3).2) 4 (((((f_X_one ku m1 m3).2) 4) + (((f_X_one ku m1 m3).1) 6)) &&& (1023 : Int32)))] := hD
        have hf : f_X_branch p1 ku m1 m3 = ((f_X_one ku m1 m3).1, (upd ((f_X_one ku m1 m3).2) 4 (((((f_X_one ku m1 m3).2) 4) + (((f_X_one ku m1 m3).1) 6)) &&& (1023 : Int32)))) := by rw [f_X_branch, if_neg c_1, if_pos c_2, if_neg c_3]
        exact W.vret hx hb hr (fun t ht hW => ⟨⟨(), rfl, trivial, by rw [hf]; exact ⟨by rw [ht]; exact hP, va_K.moved hW.alike hK, hD⟩⟩, hS.F ht⟩) hS.2.2 d_X_branch_106
