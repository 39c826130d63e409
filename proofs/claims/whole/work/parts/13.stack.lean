def f_P_push (p1 : Int32) (r k M D : Nat → Int32) : (Nat → Int32) × (Nat → Int32) × (Nat → Int32) × (Nat → Int32) :=
  ((upd r 3 (((r 3) - (1 : Int32)) &&& (255 : Int32))), (f_B_writeByte ((256 : Int32) + (r 3)) p1 k M D).2.1, (f_B_writeByte ((256 : Int32) + (r 3)) p1 k M D).2.2.1, (f_B_writeByte ((256 : Int32) + (r 3)) p1 k M D).2.2.2)
abbrev Q_P_push (dC : Nat → ClassId) (dI : Nat → Nat → Nat) (q0 : Nat) (q1 : Nat) (q2 : Nat) (q3 : Nat) (cM : ClassId) (cD : ClassId) (p1 : Int32) (r k M D : Nat → Int32) (A : Nat → Prop) : Array Value → State → Outcome → State → Prop := va_Qv (fun (_ : Unit) => True) (fun _ t => atW (dC, dI) classes A [c_P q0 q1 ((f_P_push p1 r k M D).1), c_B q1 q2 q3 ((f_P_push p1 r k M D).2.1), c_A q2 cM 1024 ((f_P_push p1 r k M D).2.2.1), c_A q3 cD 256 ((f_P_push p1 r k M D).2.2.2)] [(cM, .int), (cD, .int)] t) A
set_option maxHeartbeats 4000000 in
set_option maxRecDepth 100000 in
theorem c_P_push (l : Launch) (dC : Nat → ClassId) (dI : Nat → Nat → Nat) (z0 : Nat) (q0 : Nat) (q1 : Nat) (q2 : Nat) (q3 : Nat) (cM : ClassId) (cD : ClassId) (sz : Nat) (p1 : Int32) (r k M D : Nat → Int32) (hsn : sn_ok k) : Met l y_P_push w_P_push ({ frames := 3, cells := 0, slots := 0, locals := 85 }) (PcX (dC, dI) classes z0 [c_P q0 q1 r, c_B q1 q2 q3 k, c_A q2 cM 1024 M, c_A q3 cD 256 D] [(cM, .int), (cD, .int)] sz [.ref q0, .int p1]) (Q_P_push dC dI q0 q1 q2 q3 cM cD p1 r k M D (va_A [c_P q0 q1 r, c_B q1 q2 q3 k, c_A q2 cM 1024 M, c_A q3 cD 256 D] sz)) 0 0 (va_A [c_P q0 q1 r, c_B q1 q2 q3 k, c_A q2 cM 1024 M, c_A q3 cD 256 D] sz) := by
  refine hdX (cc := b_P_push) (maxL := 2) (ret := none) (C := R_P) (Qc := (Q_P_push dC dI q0 q1 q2 q3 cM cD p1 r k M D)) (by decide) rfl ?_
  intro p e s m below meth c A H hx hb hr hlocks hml hown hin htB hP hK hD hA hA0 hE hS
  have hl := lv_entry ([.ref q0, .int p1]) (n := 2) (Nat.le_of_ble_eq_true rfl)
  rw [lg_entry_eq]
  generalize (lg_sl ([.ref q0, .int p1]) ++ List.replicate (2 - (lg_sl ([.ref q0, .int p1])).length) Slot.unset).toArray = ls at hl ⊢
  have hl : lv_has ls 2 [(0, .ref q0), (1, .int p1)] := hl
  refine lv_aload_n hx hb d_P_push_0 rfl (lv_at hl 0 rfl) ?_
  refine va_get (D := (dC, dI)) (ci := 1) (v := .ref q1) (C := R_P) (T := F_P) (N := 13) hx hb htB i_P hown hK hP 0 rfl rfl 0 (by decide) (htB _ mw_57) (fun _ h9 => h9) rfl d_P_push_1 ?_
  refine lv_sipush (v := 256) hx hb d_P_push_4 (by decide) ?_
  refine lv_aload_n hx hb d_P_push_7 rfl (lv_at hl 0 rfl) ?_
  refine va_get (D := (dC, dI)) (ci := 1) (v := .int (r 3)) (C := R_P) (T := F_P) (N := 13) hx hb htB i_P hown hK hP 0 rfl rfl 4 (by decide) (htB _ mw_62) (fun _ h9 => h9) rfl d_P_push_8 ?_
  refine lv_iadd hx hb d_P_push_11 ?_
  refine lv_iload_n hx hb d_P_push_12 rfl (lv_at hl 1 rfl) ?_
  have hPc := hP.sub (ws' := [c_B q1 q2 q3 k, c_A q2 cM 1024 M, c_A q3 cD 256 D]) [1, 2, 3] rfl
  have hDc := hD.sub (ws' := [c_B q1 q2 q3 k, c_A q2 cM 1024 M, c_A q3 cD 256 D]) [1, 2, 3] (by decide) rfl
  have hKc := hK.sub (tys' := [(cM, .int), (cD, .int)]) [0, 1] rfl
  have hFc := va_free (wc := [c_B q1 q2 q3 k, c_A q2 cM 1024 M, c_A q3 cD 256 D]) hD hS hA [1, 2, 3] rfl
  refine va_calli (va_runVN (As := [.int ((256 : Int32) + (r 3)), .int p1]) (rest := []) ⟨hx, hb, hml, hown, htB⟩ (c_B_writeByte l dC dI z0 q1 q2 q3 cM cD H.size ((256 : Int32) + (r 3)) p1 k M D hsn) ⟨va_cnB 2 htB (gd_c mw_310) rfl rfl rfl (hE.2.1 _ ew_307) (htB _ mw_3) (by decide +kernel) ⟨Nat.le_of_ble_eq_true rfl, Nat.le_of_ble_eq_true rfl⟩, htB _ mw_309, htB _ sw_B_writeByte⟩ (pcx_V (va_recv hKc hPc (ci := 2) (q0 := 0) rfl rfl) hPc hKc hDc hA0 hE hS) rfl rfl hl.1 rfl (lv_room (Nat.le_of_ble_eq_true rfl)) d_P_push_13 ⟨Nat.zero_le _, Nat.zero_le _⟩) hS (fun q _ h => hFc q h) hFc (fun r9 u t H1 locs ht hvm hw hB hz1 hk1 hS => ?_)
  subst hw
  obtain ⟨hP1, hK1, hD1⟩ := hB
  rw [ht] at hP1
  obtain ⟨hP, hD⟩ := va_join (wr := [c_P q0 q1 r]) (w1 := [c_B q1 q2 q3 ((f_B_writeByte ((256 : Int32) + (r 3)) p1 k M D).2.1), c_A q2 cM 1024 ((f_B_writeByte ((256 : Int32) + (r 3)) p1 k M D).2.2.1), c_A q3 cD 256 ((f_B_writeByte ((256 : Int32) + (r 3)) p1 k M D).2.2.2)]) hP hD [1, 2, 3] [0] rfl rfl (by decide) (by decide) hk1 hFc hP1 hD1
  generalize H1 = H at hP hS ⊢
  have hP : va_P (dC, dI) classes [c_P q0 q1 r, c_B q1 q2 q3 ((f_B_writeByte ((256 : Int32) + (r 3)) p1 k M D).2.1), c_A q2 cM 1024 ((f_B_writeByte ((256 : Int32) + (r 3)) p1 k M D).2.2.1), c_A q3 cD 256 ((f_B_writeByte ((256 : Int32) + (r 3)) p1 k M D).2.2.2)] H := hP.sub [0, 1, 2, 3] rfl
  have hD : va_D A [c_P q0 q1 r, c_B q1 q2 q3 ((f_B_writeByte ((256 : Int32) + (r 3)) p1 k M D).2.1), c_A q2 cM 1024 ((f_B_writeByte ((256 : Int32) + (r 3)) p1 k M D).2.2.1), c_A q3 cD 256 ((f_B_writeByte ((256 : Int32) + (r 3)) p1 k M D).2.2.2)] := hD.sub [0, 1, 2, 3] (by decide) rfl
  refine lv_pop hx hb d_P_push_16 rfl ?_
  refine lv_aload_n hx hb d_P_push_17 rfl (lv_at hl 0 rfl) ?_
  refine lv_aload_n hx hb d_P_push_18 rfl (lv_at hl 0 rfl) ?_
  refine va_get (D := (dC, dI)) (ci := 1) (v := .int (r 3)) (C := R_P) (T := F_P) (N := 13) hx hb htB i_P hown hK hP 0 rfl rfl 4 (by decide) (htB _ mw_62) (fun _ h9 => h9) rfl d_P_push_19 ?_
  refine lv_iconst (v := 1) hx hb d_P_push_22 (by decide) ?_
  refine lv_isub hx hb d_P_push_23 ?_
  refine lv_sipush (v := 255) hx hb d_P_push_24 (by decide) ?_
  refine lv_iand hx hb d_P_push_27 ?_
  refine va_put (D := (dC, dI)) (ci := 1) (v := .int (((r 3) - (1 : Int32)) &&& (255 : Int32))) (ty := .int) (C := R_P) (T := F_P) (N := 13) hx hb htB i_P t_P t_P_ok n_P hown hK hP hD hS 0 rfl rfl 4 (by decide) (htB _ mw_62) (fun _ h9 => h9) rfl (by decide +kernel) rfl rfl (Nat.le_of_ble_eq_true rfl) d_P_push_28 (fun H locs hP hD hS => ?_)
  have hP : va_P (dC, dI) classes [c_P q0 q1 (upd r 3 (((r 3) - (1 : Int32)) &&& (255 : Int32))), c_B q1 q2 q3 ((f_B_writeByte ((256 : Int32) + (r 3)) p1 k M D).2.1), c_A q2 cM 1024 ((f_B_writeByte ((256 : Int32) + (r 3)) p1 k M D).2.2.1), c_A q3 cD 256 ((f_B_writeByte ((256 : Int32) + (r 3)) p1 k M D).2.2.2)] H := hP
  have hD : va_D A [c_P q0 q1 (upd r 3 (((r 3) - (1 : Int32)) &&& (255 : Int32))), c_B q1 q2 q3 ((f_B_writeByte ((256 : Int32) + (r 3)) p1 k M D).2.1), c_A q2 cM 1024 ((f_B_writeByte ((256 : Int32) + (r 3)) p1 k M D).2.2.1), c_A q3 cD 256 ((f_B_writeByte ((256 : Int32) + (r 3)) p1 k M D).2.2.2)] := hD
  have hf : f_P_push p1 r k M D = ((upd r 3 (((r 3) - (1 : Int32)) &&& (255 : Int32))), (f_B_writeByte ((256 : Int32) + (r 3)) p1 k M D).2.1, (f_B_writeByte ((256 : Int32) + (r 3)) p1 k M D).2.2.1, (f_B_writeByte ((256 : Int32) + (r 3)) p1 k M D).2.2.2) := by rw [f_P_push]
  exact W.vret hx hb hr (fun t ht hW => ⟨⟨(), rfl, trivial, by rw [hf]; exact ⟨by rw [ht]; exact hP, va_K.moved hW.alike hK, hD⟩⟩, hS.F ht⟩) hS.2.2 d_P_push_31

theorem push_sn {p1 : Int32} {r k M D : Nat → Int32} (hv : ¬ p1 < 0) (h : sn_ok k) : sn_ok (f_P_push p1 r k M D).2.1 := wb_sn hv h

def f_P_pull  (r k M D : Nat → Int32) : Int32 × (Nat → Int32) × (Nat → Int32) :=
  ((f_B_readByte ((256 : Int32) + (((r 3) + (1 : Int32)) &&& (255 : Int32))) k M D).1, (upd r 3 (((r 3) + (1 : Int32)) &&& (255 : Int32))), (f_B_readByte ((256 : Int32) + (((r 3) + (1 : Int32)) &&& (255 : Int32))) k M D).2)
abbrev Q_P_pull (dC : Nat → ClassId) (dI : Nat → Nat → Nat) (q0 : Nat) (q1 : Nat) (q2 : Nat) (q3 : Nat) (cM : ClassId) (cD : ClassId)  (r k M D : Nat → Int32) (A : Nat → Prop) : Array Value → State → Outcome → State → Prop := va_Qi (fun (r9 : Int32) (_ : Unit) => r9 = (f_P_pull r k M D).1) (fun _ t => atW (dC, dI) classes A [c_P q0 q1 ((f_P_pull r k M D).2.1), c_B q1 q2 q3 ((f_P_pull r k M D).2.2), c_A q2 cM 1024 M, c_A q3 cD 256 D] [(cM, .int), (cD, .int)] t) A
set_option maxHeartbeats 4000000 in
set_option maxRecDepth 100000 in
theorem c_P_pull (l : Launch) (dC : Nat → ClassId) (dI : Nat → Nat → Nat) (z0 : Nat) (q0 : Nat) (q1 : Nat) (q2 : Nat) (q3 : Nat) (cM : ClassId) (cD : ClassId) (sz : Nat)  (r k M D : Nat → Int32)  : Met l y_P_pull w_P_pull ({ frames := 1, cells := 0, slots := 0, locals := 23 }) (PcX (dC, dI) classes z0 [c_P q0 q1 r, c_B q1 q2 q3 k, c_A q2 cM 1024 M, c_A q3 cD 256 D] [(cM, .int), (cD, .int)] sz [.ref q0]) (Q_P_pull dC dI q0 q1 q2 q3 cM cD r k M D (va_A [c_P q0 q1 r, c_B q1 q2 q3 k, c_A q2 cM 1024 M, c_A q3 cD 256 D] sz)) 0 0 (va_A [c_P q0 q1 r, c_B q1 q2 q3 k, c_A q2 cM 1024 M, c_A q3 cD 256 D] sz) := by
  refine hdX (cc := b_P_pull) (maxL := 1) (ret := (some .int)) (C := R_P) (Qc := (Q_P_pull dC dI q0 q1 q2 q3 cM cD r k M D)) (by decide) rfl ?_
  intro p e s m below meth c A H hx hb hr hlocks hml hown hin htB hP hK hD hA hA0 hE hS
  have hl := lv_entry ([.ref q0]) (n := 1) (Nat.le_of_ble_eq_true rfl)
  rw [lg_entry_eq]
  generalize (lg_sl ([.ref q0]) ++ List.replicate (1 - (lg_sl ([.ref q0])).length) Slot.unset).toArray = ls at hl ⊢
  have hl : lv_has ls 1 [(0, .ref q0)] := hl
  refine lv_aload_n hx hb d_P_pull_0 rfl (lv_at hl 0 rfl) ?_
  refine lv_aload_n hx hb d_P_pull_1 rfl (lv_at hl 0 rfl) ?_
  refine va_get (D := (dC, dI)) (ci := 1) (v := .int (r 3)) (C := R_P) (T := F_P) (N := 13) hx hb htB i_P hown hK hP 0 rfl rfl 4 (by decide) (htB _ mw_62) (fun _ h9 => h9) rfl d_P_pull_2 ?_
  refine lv_iconst (v := 1) hx hb d_P_pull_5 (by decide) ?_
  refine lv_iadd hx hb d_P_pull_6 ?_
  refine lv_sipush (v := 255) hx hb d_P_pull_7 (by decide) ?_
  refine lv_iand hx hb d_P_pull_10 ?_
  refine va_put (D := (dC, dI)) (ci := 1) (v := .int (((r 3) + (1 : Int32)) &&& (255 : Int32))) (ty := .int) (C := R_P) (T := F_P) (N := 13) hx hb htB i_P t_P t_P_ok n_P hown hK hP hD hS 0 rfl rfl 4 (by decide) (htB _ mw_62) (fun _ h9 => h9) rfl (by decide +kernel) rfl rfl (Nat.le_of_ble_eq_true rfl) d_P_pull_11 (fun H locs hP hD hS => ?_)
  have hP : va_P (dC, dI) classes [c_P q0 q1 (upd r 3 (((r 3) + (1 : Int32)) &&& (255 : Int32))), c_B q1 q2 q3 k, c_A q2 cM 1024 M, c_A q3 cD 256 D] H := hP
  have hD : va_D A [c_P q0 q1 (upd r 3 (((r 3) + (1 : Int32)) &&& (255 : Int32))), c_B q1 q2 q3 k, c_A q2 cM 1024 M, c_A q3 cD 256 D] := hD
  refine lv_aload_n hx hb d_P_pull_14 rfl (lv_at hl 0 rfl) ?_
  refine va_get (D := (dC, dI)) (ci := 1) (v := .ref q1) (C := R_P) (T := F_P) (N := 13) hx hb htB i_P hown hK hP 0 rfl rfl 0 (by decide) (htB _ mw_57) (fun _ h9 => h9) rfl d_P_pull_15 ?_
  refine lv_sipush (v := 256) hx hb d_P_pull_18 (by decide) ?_
  refine lv_aload_n hx hb d_P_pull_21 rfl (lv_at hl 0 rfl) ?_
  refine va_get (D := (dC, dI)) (ci := 1) (v := .int (((r 3) + (1 : Int32)) &&& (255 : Int32))) (C := R_P) (T := F_P) (N := 13) hx hb htB i_P hown hK hP 0 rfl rfl 4 (by decide) (htB _ mw_62) (fun _ h9 => h9) rfl d_P_pull_22 ?_
  refine lv_iadd hx hb d_P_pull_25 ?_
  have hPc := hP.sub (ws' := [c_B q1 q2 q3 k, c_A q2 cM 1024 M, c_A q3 cD 256 D]) [1, 2, 3] rfl
  have hDc := hD.sub (ws' := [c_B q1 q2 q3 k, c_A q2 cM 1024 M, c_A q3 cD 256 D]) [1, 2, 3] (by decide) rfl
  have hKc := hK.sub (tys' := [(cM, .int), (cD, .int)]) [0, 1] rfl
  have hFc := va_free (wc := [c_B q1 q2 q3 k, c_A q2 cM 1024 M, c_A q3 cD 256 D]) hD hS hA [1, 2, 3] rfl
  refine va_calli (va_runVN (As := [.int ((256 : Int32) + (((r 3) + (1 : Int32)) &&& (255 : Int32)))]) (rest := []) ⟨hx, hb, hml, hown, htB⟩ (c_B_readByte l dC dI z0 q1 q2 q3 cM cD H.size ((256 : Int32) + (((r 3) + (1 : Int32)) &&& (255 : Int32))) k M D) ⟨va_cnB 1 htB (gd_c mw_277) rfl rfl rfl (hE.2.1 _ ew_274) (htB _ mw_3) (by decide +kernel) ⟨Nat.le_of_ble_eq_true rfl, Nat.le_of_ble_eq_true rfl⟩, htB _ mw_276, htB _ sw_B_readByte⟩ (pcx_V (va_recv hKc hPc (ci := 2) (q0 := 0) rfl rfl) hPc hKc hDc hA0 hE hS) rfl rfl hl.1 rfl (lv_room (Nat.le_of_ble_eq_true rfl)) d_P_pull_26 ⟨Nat.zero_le _, Nat.zero_le _⟩) hS (fun q _ h => hFc q h) hFc (fun r9 u t H1 locs ht hvm hw hB hz1 hk1 hS => ?_)
  subst hw
  obtain ⟨hP1, hK1, hD1⟩ := hB
  rw [ht] at hP1
  obtain ⟨hP, hD⟩ := va_join (wr := [c_P q0 q1 (upd r 3 (((r 3) + (1 : Int32)) &&& (255 : Int32)))]) (w1 := [c_B q1 q2 q3 ((f_B_readByte ((256 : Int32) + (((r 3) + (1 : Int32)) &&& (255 : Int32))) k M D).2), c_A q2 cM 1024 M, c_A q3 cD 256 D]) hP hD [1, 2, 3] [0] rfl rfl (by decide) (by decide) hk1 hFc hP1 hD1
  generalize H1 = H at hP hS ⊢
  have hP : va_P (dC, dI) classes [c_P q0 q1 (upd r 3 (((r 3) + (1 : Int32)) &&& (255 : Int32))), c_B q1 q2 q3 ((f_B_readByte ((256 : Int32) + (((r 3) + (1 : Int32)) &&& (255 : Int32))) k M D).2), c_A q2 cM 1024 M, c_A q3 cD 256 D] H := hP.sub [0, 1, 2, 3] rfl
  have hD : va_D A [c_P q0 q1 (upd r 3 (((r 3) + (1 : Int32)) &&& (255 : Int32))), c_B q1 q2 q3 ((f_B_readByte ((256 : Int32) + (((r 3) + (1 : Int32)) &&& (255 : Int32))) k M D).2), c_A q2 cM 1024 M, c_A q3 cD 256 D] := hD.sub [0, 1, 2, 3] (by decide) rfl
  have hf : f_P_pull r k M D = ((f_B_readByte ((256 : Int32) + (((r 3) + (1 : Int32)) &&& (255 : Int32))) k M D).1, (upd r 3 (((r 3) + (1 : Int32)) &&& (255 : Int32))), (f_B_readByte ((256 : Int32) + (((r 3) + (1 : Int32)) &&& (255 : Int32))) k M D).2) := by rw [f_P_pull]
  exact W.iret (v := (f_B_readByte ((256 : Int32) + (((r 3) + (1 : Int32)) &&& (255 : Int32))) k M D).1) hx hb hr (fun t ht hW => ⟨⟨(f_B_readByte ((256 : Int32) + (((r 3) + (1 : Int32)) &&& (255 : Int32))) k M D).1, (), rfl, (congrArg (fun z => z.1) hf).symm, by rw [hf]; exact ⟨by rw [ht]; exact hP, va_K.moved hW.alike hK, hD⟩⟩, hS.F ht⟩) hS.2.2 d_P_pull_29

def f_P_comeBack  (r k M D : Nat → Int32) : (Nat → Int32) × (Nat → Int32) :=
  ((upd ((f_P_pull ((f_P_pull r k M D).2.1) ((f_P_pull r k M D).2.2) M D).2.1) 11 (f_P_address ((((f_P_pull r k M D).1) + ((256 : Int32) * ((f_P_pull ((f_P_pull r k M D).2.1) ((f_P_pull r k M D).2.2) M D).1))) + (1 : Int32)))), (f_P_pull ((f_P_pull r k M D).2.1) ((f_P_pull r k M D).2.2) M D).2.2)
abbrev Q_P_comeBack (dC : Nat → ClassId) (dI : Nat → Nat → Nat) (q0 : Nat) (q1 : Nat) (q2 : Nat) (q3 : Nat) (cM : ClassId) (cD : ClassId)  (r k M D : Nat → Int32) (A : Nat → Prop) : Array Value → State → Outcome → State → Prop := va_Qv (fun (_ : Unit) => True) (fun _ t => atW (dC, dI) classes A [c_P q0 q1 ((f_P_comeBack r k M D).1), c_B q1 q2 q3 ((f_P_comeBack r k M D).2), c_A q2 cM 1024 M, c_A q3 cD 256 D] [(cM, .int), (cD, .int)] t) A
set_option maxHeartbeats 4000000 in
set_option maxRecDepth 100000 in
theorem c_P_comeBack (l : Launch) (dC : Nat → ClassId) (dI : Nat → Nat → Nat) (z0 : Nat) (q0 : Nat) (q1 : Nat) (q2 : Nat) (q3 : Nat) (cM : ClassId) (cD : ClassId) (sz : Nat)  (r k M D : Nat → Int32)  : Met l y_P_comeBack w_P_comeBack ({ frames := 2, cells := 0, slots := 0, locals := 43 }) (PcX (dC, dI) classes z0 [c_P q0 q1 r, c_B q1 q2 q3 k, c_A q2 cM 1024 M, c_A q3 cD 256 D] [(cM, .int), (cD, .int)] sz [.ref q0]) (Q_P_comeBack dC dI q0 q1 q2 q3 cM cD r k M D (va_A [c_P q0 q1 r, c_B q1 q2 q3 k, c_A q2 cM 1024 M, c_A q3 cD 256 D] sz)) 0 0 (va_A [c_P q0 q1 r, c_B q1 q2 q3 k, c_A q2 cM 1024 M, c_A q3 cD 256 D] sz) := by
  refine hdX (cc := b_P_comeBack) (maxL := 2) (ret := none) (C := R_P) (Qc := (Q_P_comeBack dC dI q0 q1 q2 q3 cM cD r k M D)) (by decide) rfl ?_
  intro p e s m below meth c A H hx hb hr hlocks hml hown hin htB hP hK hD hA hA0 hE hS
  have hl := lv_entry ([.ref q0]) (n := 2) (Nat.le_of_ble_eq_true rfl)
  rw [lg_entry_eq]
  generalize (lg_sl ([.ref q0]) ++ List.replicate (2 - (lg_sl ([.ref q0])).length) Slot.unset).toArray = ls at hl ⊢
  have hl : lv_has ls 2 [(0, .ref q0)] := hl
  refine lv_aload_n hx hb d_P_comeBack_0 rfl (lv_at hl 0 rfl) ?_
  have hPc := hP.sub (ws' := [c_P q0 q1 r, c_B q1 q2 q3 k, c_A q2 cM 1024 M, c_A q3 cD 256 D]) [0, 1, 2, 3] rfl
  have hDc := hD.sub (ws' := [c_P q0 q1 r, c_B q1 q2 q3 k, c_A q2 cM 1024 M, c_A q3 cD 256 D]) [0, 1, 2, 3] (by decide) rfl
  have hKc := hK.sub (tys' := [(cM, .int), (cD, .int)]) [0, 1] rfl
  have hFc := va_free (wc := [c_P q0 q1 r, c_B q1 q2 q3 k, c_A q2 cM 1024 M, c_A q3 cD 256 D]) hD hS hA [0, 1, 2, 3] rfl
  refine va_calli (va_runV (As := []) (rest := []) ⟨hx, hb, hml, hown, htB⟩ (c_P_pull l dC dI z0 q0 q1 q2 q3 cM cD H.size r k M D) (cwV 0 htB (gd_V mw_362 mw_364 sw_P_pull mw_2 mw_365) rfl rfl rfl (by decide +kernel) ⟨Nat.le_of_ble_eq_true rfl, Nat.le_of_ble_eq_true rfl⟩) (pcx_V (va_recv hKc hPc (ci := 1) (q0 := 0) rfl rfl) hPc hKc hDc hA0 hE hS) rfl rfl hl.1 rfl (lv_room (Nat.le_of_ble_eq_true rfl)) d_P_comeBack_1 ⟨Nat.zero_le _, Nat.zero_le _⟩) hS (fun q _ h => hFc q h) hFc (fun r9 u t H1 locs ht hvm hw hB hz1 hk1 hS => ?_)
  subst hw
  obtain ⟨hP1, hK1, hD1⟩ := hB
  rw [ht] at hP1
  obtain ⟨hP, hD⟩ := va_join (wr := []) (w1 := [c_P q0 q1 ((f_P_pull r k M D).2.1), c_B q1 q2 q3 ((f_P_pull r k M D).2.2), c_A q2 cM 1024 M, c_A q3 cD 256 D]) hP hD [0, 1, 2, 3] [] rfl rfl (by decide) (by decide) hk1 hFc hP1 hD1
  generalize H1 = H at hP hS ⊢
  have hP : va_P (dC, dI) classes [c_P q0 q1 ((f_P_pull r k M D).2.1), c_B q1 q2 q3 ((f_P_pull r k M D).2.2), c_A q2 cM 1024 M, c_A q3 cD 256 D] H := hP.sub [0, 1, 2, 3] rfl
  have hD : va_D A [c_P q0 q1 ((f_P_pull r k M D).2.1), c_B q1 q2 q3 ((f_P_pull r k M D).2.2), c_A q2 cM 1024 M, c_A q3 cD 256 D] := hD.sub [0, 1, 2, 3] (by decide) rfl
  refine lv_istore_n (lv' := [(1, .int ((f_P_pull r k M D).1)), (0, .ref q0)]) hx hb d_P_comeBack_4 rfl hl (by decide) rfl (fun ls hl => ?_)
  refine lv_aload_n hx hb d_P_comeBack_5 rfl (lv_at hl 1 rfl) ?_
  refine lv_iload_n hx hb d_P_comeBack_6 rfl (lv_at hl 0 rfl) ?_
  refine lv_sipush (v := 256) hx hb d_P_comeBack_7 (by decide) ?_
  refine lv_aload_n hx hb d_P_comeBack_10 rfl (lv_at hl 1 rfl) ?_
  have hPc := hP.sub (ws' := [c_P q0 q1 ((f_P_pull r k M D).2.1), c_B q1 q2 q3 ((f_P_pull r k M D).2.2), c_A q2 cM 1024 M, c_A q3 cD 256 D]) [0, 1, 2, 3] rfl
  have hDc := hD.sub (ws' := [c_P q0 q1 ((f_P_pull r k M D).2.1), c_B q1 q2 q3 ((f_P_pull r k M D).2.2), c_A q2 cM 1024 M, c_A q3 cD 256 D]) [0, 1, 2, 3] (by decide) rfl
  have hKc := hK.sub (tys' := [(cM, .int), (cD, .int)]) [0, 1] rfl
  have hFc := va_free (wc := [c_P q0 q1 ((f_P_pull r k M D).2.1), c_B q1 q2 q3 ((f_P_pull r k M D).2.2), c_A q2 cM 1024 M, c_A q3 cD 256 D]) hD hS hA [0, 1, 2, 3] rfl
  refine va_calli (va_runV (As := []) (rest := [.int (256 : Int32), .int ((f_P_pull r k M D).1), .ref q0]) ⟨hx, hb, hml, hown, htB⟩ (c_P_pull l dC dI z0 q0 q1 q2 q3 cM cD H.size ((f_P_pull r k M D).2.1) ((f_P_pull r k M D).2.2) M D) (cwV 0 htB (gd_V mw_362 mw_364 sw_P_pull mw_2 mw_365) rfl rfl rfl (by decide +kernel) ⟨Nat.le_of_ble_eq_true rfl, Nat.le_of_ble_eq_true rfl⟩) (pcx_V (va_recv hKc hPc (ci := 1) (q0 := 0) rfl rfl) hPc hKc hDc hA0 hE hS) rfl rfl hl.1 rfl (lv_room (Nat.le_of_ble_eq_true rfl)) d_P_comeBack_11 ⟨Nat.zero_le _, Nat.zero_le _⟩) hS (fun q _ h => hFc q h) hFc (fun r9 u t H1 locs ht hvm hw hB hz1 hk1 hS => ?_)
  subst hw
  obtain ⟨hP1, hK1, hD1⟩ := hB
  rw [ht] at hP1
  obtain ⟨hP, hD⟩ := va_join (wr := []) (w1 := [c_P q0 q1 ((f_P_pull ((f_P_pull r k M D).2.1) ((f_P_pull r k M D).2.2) M D).2.1), c_B q1 q2 q3 ((f_P_pull ((f_P_pull r k M D).2.1) ((f_P_pull r k M D).2.2) M D).2.2), c_A q2 cM 1024 M, c_A q3 cD 256 D]) hP hD [0, 1, 2, 3] [] rfl rfl (by decide) (by decide) hk1 hFc hP1 hD1
  generalize H1 = H at hP hS ⊢
  have hP : va_P (dC, dI) classes [c_P q0 q1 ((f_P_pull ((f_P_pull r k M D).2.1) ((f_P_pull r k M D).2.2) M D).2.1), c_B q1 q2 q3 ((f_P_pull ((f_P_pull r k M D).2.1) ((f_P_pull r k M D).2.2) M D).2.2), c_A q2 cM 1024 M, c_A q3 cD 256 D] H := hP.sub [0, 1, 2, 3] rfl
  have hD : va_D A [c_P q0 q1 ((f_P_pull ((f_P_pull r k M D).2.1) ((f_P_pull r k M D).2.2) M D).2.1), c_B q1 q2 q3 ((f_P_pull ((f_P_pull r k M D).2.1) ((f_P_pull r k M D).2.2) M D).2.2), c_A q2 cM 1024 M, c_A q3 cD 256 D] := hD.sub [0, 1, 2, 3] (by decide) rfl
  refine lv_imul hx hb d_P_comeBack_14 ?_
  refine lv_iadd hx hb d_P_comeBack_15 ?_
  refine lv_iconst (v := 1) hx hb d_P_comeBack_16 (by decide) ?_
  refine lv_iadd hx hb d_P_comeBack_17 ?_
  have hPc := hP.sub (ws' := []) [] rfl
  have hDc := hD.sub (ws' := []) [] (by decide) rfl
  have hKc := hK.sub (tys' := []) [] rfl
  have hFc := va_free (wc := []) hD hS hA [] rfl
  refine va_calli (va_runS (As := [.int ((((f_P_pull r k M D).1) + ((256 : Int32) * ((f_P_pull ((f_P_pull r k M D).2.1) ((f_P_pull r k M D).2.2) M D).1))) + (1 : Int32))]) (rest := [.ref q0]) ⟨hx, hb, hml, hown, htB⟩ (c_P_address l dC dI z0  H.size ((((f_P_pull r k M D).1) + ((256 : Int32) * ((f_P_pull ((f_P_pull r k M D).2.1) ((f_P_pull r k M D).2.2) M D).1))) + (1 : Int32))) (cwS 1 htB (gd_S mw_300 mw_301 mw_2 mw_302) rfl rfl rfl (by decide +kernel) ⟨Nat.le_of_ble_eq_true rfl, Nat.le_of_ble_eq_true rfl⟩) (pcx_S hPc hKc hDc hA0 hE hS) rfl rfl hl.1 rfl (lv_room (Nat.le_of_ble_eq_true rfl)) d_P_comeBack_18 ⟨Nat.zero_le _, Nat.zero_le _⟩) hS (fun q _ h => hFc q h) hFc (fun r9 u t H1 locs ht hvm hw hB hz1 hk1 hS => ?_)
  subst hw
  obtain ⟨hP1, hK1, hD1⟩ := hB
  rw [ht] at hP1
  obtain ⟨hP, hD⟩ := va_join (wr := [c_P q0 q1 ((f_P_pull ((f_P_pull r k M D).2.1) ((f_P_pull r k M D).2.2) M D).2.1), c_B q1 q2 q3 ((f_P_pull ((f_P_pull r k M D).2.1) ((f_P_pull r k M D).2.2) M D).2.2), c_A q2 cM 1024 M, c_A q3 cD 256 D]) (w1 := []) hP hD [] [0, 1, 2, 3] rfl rfl (by decide) (by decide) hk1 hFc hP1 hD1
  generalize H1 = H at hP hS ⊢
  have hP : va_P (dC, dI) classes [c_P q0 q1 ((f_P_pull ((f_P_pull r k M D).2.1) ((f_P_pull r k M D).2.2) M D).2.1), c_B q1 q2 q3 ((f_P_pull ((f_P_pull r k M D).2.1) ((f_P_pull r k M D).2.2) M D).2.2), c_A q2 cM 1024 M, c_A q3 cD 256 D] H := hP.sub [0, 1, 2, 3] rfl
  have hD : va_D A [c_P q0 q1 ((f_P_pull ((f_P_pull r k M D).2.1) ((f_P_pull r k M D).2.2) M D).2.1), c_B q1 q2 q3 ((f_P_pull ((f_P_pull r k M D).2.1) ((f_P_pull r k M D).2.2) M D).2.2), c_A q2 cM 1024 M, c_A q3 cD 256 D] := hD.sub [0, 1, 2, 3] (by decide) rfl
  refine va_put (D := (dC, dI)) (ci := 1) (v := .int (f_P_address ((((f_P_pull r k M D).1) + ((256 : Int32) * ((f_P_pull ((f_P_pull r k M D).2.1) ((f_P_pull r k M D).2.2) M D).1))) + (1 : Int32)))) (ty := .int) (C := R_P) (T := F_P) (N := 13) hx hb htB i_P t_P t_P_ok n_P hown hK hP hD hS 0 rfl rfl 12 (by decide) (htB _ mw_71) (fun _ h9 => h9) rfl (by decide +kernel) rfl rfl (Nat.le_of_ble_eq_true rfl) d_P_comeBack_21 (fun H locs hP hD hS => ?_)
  have hP : va_P (dC, dI) classes [c_P q0 q1 (upd ((f_P_pull ((f_P_pull r k M D).2.1) ((f_P_pull r k M D).2.2) M D).2.1) 11 (f_P_address ((((f_P_pull r k M D).1) + ((256 : Int32) * ((f_P_pull ((f_P_pull r k M D).2.1) ((f_P_pull r k M D).2.2) M D).1))) + (1 : Int32)))), c_B q1 q2 q3 ((f_P_pull ((f_P_pull r k M D).2.1) ((f_P_pull r k M D).2.2) M D).2.2), c_A q2 cM 1024 M, c_A q3 cD 256 D] H := hP
  have hD : va_D A [c_P q0 q1 (upd ((f_P_pull ((f_P_pull r k M D).2.1) ((f_P_pull r k M D).2.2) M D).2.1) 11 (f_P_address ((((f_P_pull r k M D).1) + ((256 : Int32) * ((f_P_pull ((f_P_pull r k M D).2.1) ((f_P_pull r k M D).2.2) M D).1))) + (1 : Int32)))), c_B q1 q2 q3 ((f_P_pull ((f_P_pull r k M D).2.1) ((f_P_pull r k M D).2.2) M D).2.2), c_A q2 cM 1024 M, c_A q3 cD 256 D] := hD
  have hf : f_P_comeBack r k M D = ((upd ((f_P_pull ((f_P_pull r k M D).2.1) ((f_P_pull r k M D).2.2) M D).2.1) 11 (f_P_address ((((f_P_pull r k M D).1) + ((256 : Int32) * ((f_P_pull ((f_P_pull r k M D).2.1) ((f_P_pull r k M D).2.2) M D).1))) + (1 : Int32)))), (f_P_pull ((f_P_pull r k M D).2.1) ((f_P_pull r k M D).2.2) M D).2.2) := by rw [f_P_comeBack]
  exact W.vret hx hb hr (fun t ht hW => ⟨⟨(), rfl, trivial, by rw [hf]; exact ⟨by rw [ht]; exact hP, va_K.moved hW.alike hK, hD⟩⟩, hS.F ht⟩) hS.2.2 d_P_comeBack_24

def f_P_branch (p1 : Int32) (r : Nat → Int32) : (Nat → Int32) :=
  if (p1 / (2 : Int32)) = (0 : Int32) then
    if (r 5) = (p1 - p1 / (2 : Int32) * (2 : Int32)) then
      if (128 : Int32) ≤ (r 9) then
        (upd r 11 (f_P_address ((r 11) + ((r 9) - (256 : Int32)))))
      else
        (upd r 11 (f_P_address ((r 11) + (r 9))))
    else
      r
  else
    if (p1 / (2 : Int32)) = (1 : Int32) then
      if (r 6) = (p1 - p1 / (2 : Int32) * (2 : Int32)) then
        if (128 : Int32) ≤ (r 9) then
          (upd r 11 (f_P_address ((r 11) + ((r 9) - (256 : Int32)))))
        else
          (upd r 11 (f_P_address ((r 11) + (r 9))))
      else
        r
    else
      if (p1 / (2 : Int32)) = (2 : Int32) then
        if (r 8) = (p1 - p1 / (2 : Int32) * (2 : Int32)) then
          if (128 : Int32) ≤ (r 9) then
            (upd r 11 (f_P_address ((r 11) + ((r 9) - (256 : Int32)))))
          else
            (upd r 11 (f_P_address ((r 11) + (r 9))))
        else
          r
      else
        if (r 7) = (p1 - p1 / (2 : Int32) * (2 : Int32)) then
          if (128 : Int32) ≤ (r 9) then
            (upd r 11 (f_P_address ((r 11) + ((r 9) - (256 : Int32)))))
          else
            (upd r 11 (f_P_address ((r 11) + (r 9))))
        else
          r
abbrev Q_P_branch (dC : Nat → ClassId) (dI : Nat → Nat → Nat) (q0 : Nat) (q1 : Nat) (p1 : Int32) (r : Nat → Int32) (A : Nat → Prop) : Array Value → State → Outcome → State → Prop := va_Qv (fun (_ : Unit) => True) (fun _ t => atW (dC, dI) classes A [c_P q0 q1 (f_P_branch p1 r)] [] t) A
set_option maxHeartbeats 4000000 in
set_option maxRecDepth 100000 in
theorem c_P_branch (l : Launch) (dC : Nat → ClassId) (dI : Nat → Nat → Nat) (z0 : Nat) (q0 : Nat) (q1 : Nat) (sz : Nat) (p1 : Int32) (r : Nat → Int32)  : Met l y_P_branch w_P_branch ({ frames := 1, cells := 0, slots := 0, locals := 20 }) (PcX (dC, dI) classes z0 [c_P q0 q1 r] [] sz [.ref q0, .int p1]) (Q_P_branch dC dI q0 q1 p1 r (va_A [c_P q0 q1 r] sz)) 0 0 (va_A [c_P q0 q1 r] sz) := by
  refine hdX (cc := b_P_branch) (maxL := 3) (ret := none) (C := R_P) (Qc := (Q_P_branch dC dI q0 q1 p1 r)) (by decide) rfl ?_
  intro p e s m below meth c A H hx hb hr hlocks hml hown hin htB hP hK hD hA hA0 hE hS
  have hl := lv_entry ([.ref q0, .int p1]) (n := 3) (Nat.le_of_ble_eq_true rfl)
  rw [lg_entry_eq]
  generalize (lg_sl ([.ref q0, .int p1]) ++ List.replicate (3 - (lg_sl ([.ref q0, .int p1])).length) Slot.unset).toArray = ls at hl ⊢
  have hl : lv_has ls 3 [(0, .ref q0), (1, .int p1)] := hl
  refine lv_iload_n hx hb d_P_branch_0 rfl (lv_at hl 1 rfl) ?_
  refine lv_iconst (v := 2) hx hb d_P_branch_1 (by decide) ?_
  refine lv_idiv hx hb d_P_branch_2 (by decide) ?_
  by_cases c_1 : (p1 / (2 : Int32)) = (0 : Int32)
  · refine lv_tableIn (tgt := 28) hx hb d_P_branch_3 (by rw [c_1]; decide) (by rw [c_1]; decide) (by rw [c_1]; rfl) (by decide) ?_
    refine lv_aload_n hx hb d_P_branch_28 rfl (lv_at hl 0 rfl) ?_
    refine va_get (D := (dC, dI)) (ci := 1) (v := .int (r 5)) (C := R_P) (T := F_P) (N := 13) hx hb htB i_P hown hK hP 0 rfl rfl 6 (by decide) (htB _ mw_65) (fun _ h9 => h9) rfl d_P_branch_29 ?_
    refine lv_istore_n (lv' := [(2, .int (r 5)), (0, .ref q0), (1, .int p1)]) hx hb d_P_branch_32 rfl hl (by decide) rfl (fun ls hl => ?_)
    refine lv_goto (tgt := 57) hx hb d_P_branch_33 (by decide) ?_
    refine lv_iload_n hx hb d_P_branch_57 rfl (lv_at hl 0 rfl) ?_
    refine lv_iload_n hx hb d_P_branch_58 rfl (lv_at hl 2 rfl) ?_
    refine lv_iconst (v := 2) hx hb d_P_branch_59 (by decide) ?_
    refine lv_irem hx hb d_P_branch_60 (by decide) ?_
    refine lv_icmp_ne (tgt := 101) hx hb d_P_branch_61 (by decide) (fun c_2 => ?_) (fun c_2 => ?_)
    · have hf : f_P_branch p1 r = r := by rw [f_P_branch, if_pos c_1, if_neg c_2]
      exact W.vret hx hb hr (fun t ht hW => ⟨⟨(), rfl, trivial, by rw [hf]; exact ⟨by rw [ht]; exact hP, va_K.moved hW.alike hK, hD⟩⟩, hS.F ht⟩) hS.2.2 d_P_branch_101
    · refine lv_aload_n hx hb d_P_branch_64 rfl (lv_at hl 1 rfl) ?_
      refine lv_aload_n hx hb d_P_branch_65 rfl (lv_at hl 1 rfl) ?_
      refine va_get (D := (dC, dI)) (ci := 1) (v := .int (r 11)) (C := R_P) (T := F_P) (N := 13) hx hb htB i_P hown hK hP 0 rfl rfl 12 (by decide) (htB _ mw_71) (fun _ h9 => h9) rfl d_P_branch_66 ?_
      refine lv_aload_n hx hb d_P_branch_69 rfl (lv_at hl 1 rfl) ?_
      refine va_get (D := (dC, dI)) (ci := 1) (v := .int (r 9)) (C := R_P) (T := F_P) (N := 13) hx hb htB i_P hown hK hP 0 rfl rfl 10 (by decide) (htB _ mw_69) (fun _ h9 => h9) rfl d_P_branch_70 ?_
      refine lv_sipush (v := 128) hx hb d_P_branch_73 (by decide) ?_
      refine lv_icmp_ge (tgt := 86) hx hb d_P_branch_76 (by decide) (fun c_3 => ?_) (fun c_3 => ?_)
      · refine lv_aload_n hx hb d_P_branch_86 rfl (lv_at hl 1 rfl) ?_
        refine va_get (D := (dC, dI)) (ci := 1) (v := .int (r 9)) (C := R_P) (T := F_P) (N := 13) hx hb htB i_P hown hK hP 0 rfl rfl 10 (by decide) (htB _ mw_69) (fun _ h9 => h9) rfl d_P_branch_87 ?_
        refine lv_sipush (v := 256) hx hb d_P_branch_90 (by decide) ?_
        refine lv_isub hx hb d_P_branch_93 ?_
        refine lv_iadd hx hb d_P_branch_94 ?_
        have hPc := hP.sub (ws' := []) [] rfl
        have hDc := hD.sub (ws' := []) [] (by decide) rfl
        have hKc := hK.sub (tys' := []) [] rfl
        have hFc := va_free (wc := []) hD hS hA [] rfl
        refine va_calli (va_runS (As := [.int ((r 11) + ((r 9) - (256 : Int32)))]) (rest := [.ref q0]) ⟨hx, hb, hml, hown, htB⟩ (c_P_address l dC dI z0  H.size ((r 11) + ((r 9) - (256 : Int32)))) (cwS 1 htB (gd_S mw_300 mw_301 mw_2 mw_302) rfl rfl rfl (by decide +kernel) ⟨Nat.le_of_ble_eq_true rfl, Nat.le_of_ble_eq_true rfl⟩) (pcx_S hPc hKc hDc hA0 hE hS) rfl rfl hl.1 rfl (lv_room (Nat.le_of_ble_eq_true rfl)) d_P_branch_95 ⟨Nat.zero_le _, Nat.zero_le _⟩) hS (fun q _ h => hFc q h) hFc (fun r9 u t H1 locs ht hvm hw hB hz1 hk1 hS => ?_)
        subst hw
        obtain ⟨hP1, hK1, hD1⟩ := hB
        rw [ht] at hP1
        obtain ⟨hP, hD⟩ := va_join (wr := [c_P q0 q1 r]) (w1 := []) hP hD [] [0] rfl rfl (by decide) (by decide) hk1 hFc hP1 hD1
        generalize H1 = H at hP hS ⊢
        have hP : va_P (dC, dI) classes [c_P q0 q1 r] H := hP.sub [0] rfl
        have hD : va_D A [c_P q0 q1 r] := hD.sub [0] (by decide) rfl
        refine va_put (D := (dC, dI)) (ci := 1) (v := .int (f_P_address ((r 11) + ((r 9) - (256 : Int32))))) (ty := .int) (C := R_P) (T := F_P) (N := 13) hx hb htB i_P t_P t_P_ok n_P hown hK hP hD hS 0 rfl rfl 12 (by decide) (htB _ mw_71) (fun _ h9 => h9) rfl (by decide +kernel) rfl rfl (Nat.le_of_ble_eq_true rfl) d_P_branch_98 (fun H locs hP hD hS => ?_)
        have hP : va_P (dC, dI) classes [c_P q0 q1 (upd r 11 (f_P_address ((r 11) + ((r 9) - (256 : Int32)))))] H := hP
        have hD : va_D A [c_P q0 q1 (upd r 11 (f_P_address ((r 11) + ((r 9) - (256 : Int32)))))] := hD
        have hf : f_P_branch p1 r = (upd r 11 (f_P_address ((r 11) + ((r 9) - (256 : Int32))))) := by rw [f_P_branch, if_pos c_1, if_pos c_2, if_pos c_3]
        exact W.vret hx hb hr (fun t ht hW => ⟨⟨(), rfl, trivial, by rw [hf]; exact ⟨by rw [ht]; exact hP, va_K.moved hW.alike hK, hD⟩⟩, hS.F ht⟩) hS.2.2 d_P_branch_101
      · refine lv_aload_n hx hb d_P_branch_79 rfl (lv_at hl 1 rfl) ?_
        refine va_get (D := (dC, dI)) (ci := 1) (v := .int (r 9)) (C := R_P) (T := F_P) (N := 13) hx hb htB i_P hown hK hP 0 rfl rfl 10 (by decide) (htB _ mw_69) (fun _ h9 => h9) rfl d_P_branch_80 ?_
        refine lv_goto (tgt := 94) hx hb d_P_branch_83 (by decide) ?_
        refine lv_iadd hx hb d_P_branch_94 ?_
        have hPc := hP.sub (ws' := []) [] rfl
        have hDc := hD.sub (ws' := []) [] (by decide) rfl
        have hKc := hK.sub (tys' := []) [] rfl
        have hFc := va_free (wc := []) hD hS hA [] rfl
        refine va_calli (va_runS (As := [.int ((r 11) + (r 9))]) (rest := [.ref q0]) ⟨hx, hb, hml, hown, htB⟩ (c_P_address l dC dI z0  H.size ((r 11) + (r 9))) (cwS 1 htB (gd_S mw_300 mw_301 mw_2 mw_302) rfl rfl rfl (by decide +kernel) ⟨Nat.le_of_ble_eq_true rfl, Nat.le_of_ble_eq_true rfl⟩) (pcx_S hPc hKc hDc hA0 hE hS) rfl rfl hl.1 rfl (lv_room (Nat.le_of_ble_eq_true rfl)) d_P_branch_95 ⟨Nat.zero_le _, Nat.zero_le _⟩) hS (fun q _ h => hFc q h) hFc (fun r9 u t H1 locs ht hvm hw hB hz1 hk1 hS => ?_)
        subst hw
        obtain ⟨hP1, hK1, hD1⟩ := hB
        rw [ht] at hP1
        obtain ⟨hP, hD⟩ := va_join (wr := [c_P q0 q1 r]) (w1 := []) hP hD [] [0] rfl rfl (by decide) (by decide) hk1 hFc hP1 hD1
        generalize H1 = H at hP hS ⊢
        have hP : va_P (dC, dI) classes [c_P q0 q1 r] H := hP.sub [0] rfl
        have hD : va_D A [c_P q0 q1 r] := hD.sub [0] (by decide) rfl
        refine va_put (D := (dC, dI)) (ci := 1) (v := .int (f_P_address ((r 11) + (r 9)))) (ty := .int) (C := R_P) (T := F_P) (N := 13) hx hb htB i_P t_P t_P_ok n_P hown hK hP hD hS 0 rfl rfl 12 (by decide) (htB _ mw_71) (fun _ h9 => h9) rfl (by decide +kernel) rfl rfl (Nat.le_of_ble_eq_true rfl) d_P_branch_98 (fun H locs hP hD hS => ?_)
        have hP : va_P (dC, dI) classes [c_P q0 q1 (upd r 11 (f_P_address ((r 11) + (r 9))))] H := hP
        have hD : va_D A [c_P q0 q1 (upd r 11 (f_P_address ((r 11) + (r 9))))] := hD
        have hf : f_P_branch p1 r = (upd r 11 (f_P_address ((r 11) + (r 9)))) := by rw [f_P_branch, if_pos c_1, if_pos c_2, if_neg c_3]
        exact W.vret hx hb hr (fun t ht hW => ⟨⟨(), rfl, trivial, by rw [hf]; exact ⟨by rw [ht]; exact hP, va_K.moved hW.alike hK, hD⟩⟩, hS.F ht⟩) hS.2.2 d_P_branch_101
  · by_cases c_2 : (p1 / (2 : Int32)) = (1 : Int32)
    · refine lv_tableIn (tgt := 36) hx hb d_P_branch_3 (by rw [c_2]; decide) (by rw [c_2]; decide) (by rw [c_2]; rfl) (by decide) ?_
      refine lv_aload_n hx hb d_P_branch_36 rfl (lv_at hl 0 rfl) ?_
      refine va_get (D := (dC, dI)) (ci := 1) (v := .int (r 6)) (C := R_P) (T := F_P) (N := 13) hx hb htB i_P hown hK hP 0 rfl rfl 7 (by decide) (htB _ mw_66) (fun _ h9 => h9) rfl d_P_branch_37 ?_
      refine lv_istore_n (lv' := [(2, .int (r 6)), (0, .ref q0), (1, .int p1)]) hx hb d_P_branch_40 rfl hl (by decide) rfl (fun ls hl => ?_)
      refine lv_goto (tgt := 57) hx hb d_P_branch_41 (by decide) ?_
      refine lv_iload_n hx hb d_P_branch_57 rfl (lv_at hl 0 rfl) ?_
      refine lv_iload_n hx hb d_P_branch_58 rfl (lv_at hl 2 rfl) ?_
      refine lv_iconst (v := 2) hx hb d_P_branch_59 (by decide) ?_
      refine lv_irem hx hb d_P_branch_60 (by decide) ?_
      refine lv_icmp_ne (tgt := 101) hx hb d_P_branch_61 (by decide) (fun c_3 => ?_) (fun c_3 => ?_)
      · have hf : f_P_branch p1 r = r := by rw [f_P_branch, if_neg c_1, if_pos c_2, if_neg c_3]
        exact W.vret hx hb hr (fun t ht hW => ⟨⟨(), rfl, trivial, by rw [hf]; exact ⟨by rw [ht]; exact hP, va_K.moved hW.alike hK, hD⟩⟩, hS.F ht⟩) hS.2.2 d_P_branch_101
      · refine lv_aload_n hx hb d_P_branch_64 rfl (lv_at hl 1 rfl) ?_
        refine lv_aload_n hx hb d_P_branch_65 rfl (lv_at hl 1 rfl) ?_
        refine va_get (D := (dC, dI)) (ci := 1) (v := .int (r 11)) (C := R_P) (T := F_P) (N := 13) hx hb htB i_P hown hK hP 0 rfl rfl 12 (by decide) (htB _ mw_71) (fun _ h9 => h9) rfl d_P_branch_66 ?_
        refine lv_aload_n hx hb d_P_branch_69 rfl (lv_at hl 1 rfl) ?_
        refine va_get (D := (dC, dI)) (ci := 1) (v := .int (r 9)) (C := R_P) (T := F_P) (N := 13) hx hb htB i_P hown hK hP 0 rfl rfl 10 (by decide) (htB _ mw_69) (fun _ h9 => h9) rfl d_P_branch_70 ?_
        refine lv_sipush (v := 128) hx hb d_P_branch_73 (by decide) ?_
        refine lv_icmp_ge (tgt := 86) hx hb d_P_branch_76 (by decide) (fun c_4 => ?_) (fun c_4 => ?_)
        · refine lv_aload_n hx hb d_P_branch_86 rfl (lv_at hl 1 rfl) ?_
          refine va_get (D := (dC, dI)) (ci := 1) (v := .int (r 9)) (C := R_P) (T := F_P) (N := 13) hx hb htB i_P hown hK hP 0 rfl rfl 10 (by decide) (htB _ mw_69) (fun _ h9 => h9) rfl d_P_branch_87 ?_
          refine lv_sipush (v := 256) hx hb d_P_branch_90 (by decide) ?_
          refine lv_isub hx hb d_P_branch_93 ?_
          refine lv_iadd hx hb d_P_branch_94 ?_
          have hPc := hP.sub (ws' := []) [] rfl
          have hDc := hD.sub (ws' := []) [] (by decide) rfl
          have hKc := hK.sub (tys' := []) [] rfl
          have hFc := va_free (wc := []) hD hS hA [] rfl
          refine va_calli (va_runS (As := [.int ((r 11) + ((r 9) - (256 : Int32)))]) (rest := [.ref q0]) ⟨hx, hb, hml, hown, htB⟩ (c_P_address l dC dI z0  H.size ((r 11) + ((r 9) - (256 : Int32)))) (cwS 1 htB (gd_S mw_300 mw_301 mw_2 mw_302) rfl rfl rfl (by decide +kernel) ⟨Nat.le_of_ble_eq_true rfl, Nat.le_of_ble_eq_true rfl⟩) (pcx_S hPc hKc hDc hA0 hE hS) rfl rfl hl.1 rfl (lv_room (Nat.le_of_ble_eq_true rfl)) d_P_branch_95 ⟨Nat.zero_le _, Nat.zero_le _⟩) hS (fun q _ h => hFc q h) hFc (fun r9 u t H1 locs ht hvm hw hB hz1 hk1 hS => ?_)
          subst hw
          obtain ⟨hP1, hK1, hD1⟩ := hB
          rw [ht] at hP1
          obtain ⟨hP, hD⟩ := va_join (wr := [c_P q0 q1 r]) (w1 := []) hP hD [] [0] rfl rfl (by decide) (by decide) hk1 hFc hP1 hD1
          generalize H1 = H at hP hS ⊢
          have hP : va_P (dC, dI) classes [c_P q0 q1 r] H := hP.sub [0] rfl
          have hD : va_D A [c_P q0 q1 r] := hD.sub [0] (by decide) rfl
          refine va_put (D := (dC, dI)) (ci := 1) (v := .int (f_P_address ((r 11) + ((r 9) - (256 : Int32))))) (ty := .int) (C := R_P) (T := F_P) (N := 13) hx hb htB i_P t_P t_P_ok n_P hown hK hP hD hS 0 rfl rfl 12 (by decide) (htB _ mw_71) (fun _ h9 => h9) rfl (by decide +kernel) rfl rfl (Nat.le_of_ble_eq_true rfl) d_P_branch_98 (fun H locs hP hD hS => ?_)
          have hP : va_P (dC, dI) classes [c_P q0 q1 (upd r 11 (f_P_address ((r 11) + ((r 9) - (256 : Int32)))))] H := hP
          have hD : va_D A [c_P q0 q1 (upd r 11 (f_P_address ((r 11) + ((r 9) - (256 : Int32)))))] := hD
          have hf : f_P_branch p1 r = (upd r 11 (f_P_address ((r 11) + ((r 9) - (256 : Int32))))) := by rw [f_P_branch, if_neg c_1, if_pos c_2, if_pos c_3, if_pos c_4]
          exact W.vret hx hb hr (fun t ht hW => ⟨⟨(), rfl, trivial, by rw [hf]; exact ⟨by rw [ht]; exact hP, va_K.moved hW.alike hK, hD⟩⟩, hS.F ht⟩) hS.2.2 d_P_branch_101
        · refine lv_aload_n hx hb d_P_branch_79 rfl (lv_at hl 1 rfl) ?_
          refine va_get (D := (dC, dI)) (ci := 1) (v := .int (r 9)) (C := R_P) (T := F_P) (N := 13) hx hb htB i_P hown hK hP 0 rfl rfl 10 (by decide) (htB _ mw_69) (fun _ h9 => h9) rfl d_P_branch_80 ?_
          refine lv_goto (tgt := 94) hx hb d_P_branch_83 (by decide) ?_
          refine lv_iadd hx hb d_P_branch_94 ?_
          have hPc := hP.sub (ws' := []) [] rfl
          have hDc := hD.sub (ws' := []) [] (by decide) rfl
          have hKc := hK.sub (tys' := []) [] rfl
          have hFc := va_free (wc := []) hD hS hA [] rfl
          refine va_calli (va_runS (As := [.int ((r 11) + (r 9))]) (rest := [.ref q0]) ⟨hx, hb, hml, hown, htB⟩ (c_P_address l dC dI z0  H.size ((r 11) + (r 9))) (cwS 1 htB (gd_S mw_300 mw_301 mw_2 mw_302) rfl rfl rfl (by decide +kernel) ⟨Nat.le_of_ble_eq_true rfl, Nat.le_of_ble_eq_true rfl⟩) (pcx_S hPc hKc hDc hA0 hE hS) rfl rfl hl.1 rfl (lv_room (Nat.le_of_ble_eq_true rfl)) d_P_branch_95 ⟨Nat.zero_le _, Nat.zero_le _⟩) hS (fun q _ h => hFc q h) hFc (fun r9 u t H1 locs ht hvm hw hB hz1 hk1 hS => ?_)
          subst hw
          obtain ⟨hP1, hK1, hD1⟩ := hB
          rw [ht] at hP1
          obtain ⟨hP, hD⟩ := va_join (wr := [c_P q0 q1 r]) (w1 := []) hP hD [] [0] rfl rfl (by decide) (by decide) hk1 hFc hP1 hD1
          generalize H1 = H at hP hS ⊢
          have hP : va_P (dC, dI) classes [c_P q0 q1 r] H := hP.sub [0] rfl
          have hD : va_D A [c_P q0 q1 r] := hD.sub [0] (by decide) rfl
          refine va_put (D := (dC, dI)) (ci := 1) (v := .int (f_P_address ((r 11) + (r 9)))) (ty := .int) (C := R_P) (T := F_P) (N := 13) hx hb htB i_P t_P t_P_ok n_P hown hK hP hD hS 0 rfl rfl 12 (by decide) (htB _ mw_71) (fun _ h9 => h9) rfl (by decide +kernel) rfl rfl (Nat.le_of_ble_eq_true rfl) d_P_branch_98 (fun H locs hP hD hS => ?_)
          have hP : va_P (dC, dI) classes [c_P q0 q1 (upd r 11 (f_P_address ((r 11) + (r 9))))] H := hP
          have hD : va_D A [c_P q0 q1 (upd r 11 (f_P_address ((r 11) + (r 9))))] := hD
          have hf : f_P_branch p1 r = (upd r 11 (f_P_address ((r 11) + (r 9)))) := by rw [f_P_branch, if_neg c_1, if_pos c_2, if_pos c_3, if_neg c_4]
          exact W.vret hx hb hr (fun t ht hW => ⟨⟨(), rfl, trivial, by rw [hf]; exact ⟨by rw [ht]; exact hP, va_K.moved hW.alike hK, hD⟩⟩, hS.F ht⟩) hS.2.2 d_P_branch_101
    · by_cases c_3 : (p1 / (2 : Int32)) = (2 : Int32)
      · refine lv_tableIn (tgt := 44) hx hb d_P_branch_3 (by rw [c_3]; decide) (by rw [c_3]; decide) (by rw [c_3]; rfl) (by decide) ?_
        refine lv_aload_n hx hb d_P_branch_44 rfl (lv_at hl 0 rfl) ?_
        refine va_get (D := (dC, dI)) (ci := 1) (v := .int (r 8)) (C := R_P) (T := F_P) (N := 13) hx hb htB i_P hown hK hP 0 rfl rfl 9 (by decide) (htB _ mw_68) (fun _ h9 => h9) rfl d_P_branch_45 ?_
        refine lv_istore_n (lv' := [(2, .int (r 8)), (0, .ref q0), (1, .int p1)]) hx hb d_P_branch_48 rfl hl (by decide) rfl (fun ls hl => ?_)
        refine lv_goto (tgt := 57) hx hb d_P_branch_49 (by decide) ?_
        refine lv_iload_n hx hb d_P_branch_57 rfl (lv_at hl 0 rfl) ?_
        refine lv_iload_n hx hb d_P_branch_58 rfl (lv_at hl 2 rfl) ?_
        refine lv_iconst (v := 2) hx hb d_P_branch_59 (by decide) ?_
        refine lv_irem hx hb d_P_branch_60 (by decide) ?_
        refine lv_icmp_ne (tgt := 101) hx hb d_P_branch_61 (by decide) (fun c_4 => ?_) (fun c_4 => ?_)
        · have hf : f_P_branch p1 r = r := by rw [f_P_branch, if_neg c_1, if_neg c_2, if_pos c_3, if_neg c_4]
          exact W.vret hx hb hr (fun t ht hW => ⟨⟨(), rfl, trivial, by rw [hf]; exact ⟨by rw [ht]; exact hP, va_K.moved hW.alike hK, hD⟩⟩, hS.F ht⟩) hS.2.2 d_P_branch_101
        · refine lv_aload_n hx hb d_P_branch_64 rfl (lv_at hl 1 rfl) ?_
          refine lv_aload_n hx hb d_P_branch_65 rfl (lv_at hl 1 rfl) ?_
          refine va_get (D := (dC, dI)) (ci := 1) (v := .int (r 11)) (C := R_P) (T := F_P) (N := 13) hx hb htB i_P hown hK hP 0 rfl rfl 12 (by decide) (htB _ mw_71) (fun _ h9 => h9) rfl d_P_branch_66 ?_
          refine lv_aload_n hx hb d_P_branch_69 rfl (lv_at hl 1 rfl) ?_
          refine va_get (D := (dC, dI)) (ci := 1) (v := .int (r 9)) (C := R_P) (T := F_P) (N := 13) hx hb htB i_P hown hK hP 0 rfl rfl 10 (by decide) (htB _ mw_69) (fun _ h9 => h9) rfl d_P_branch_70 ?_
          refine lv_sipush (v := 128) hx hb d_P_branch_73 (by decide) ?_
          refine lv_icmp_ge (tgt := 86) hx hb d_P_branch_76 (by decide) (fun c_5 => ?_) (fun c_5 => ?_)
          · refine lv_aload_n hx hb d_P_branch_86 rfl (lv_at hl 1 rfl) ?_
            refine va_get (D := (dC, dI)) (ci := 1) (v := .int (r 9)) (C := R_P) (T := F_P) (N := 13) hx hb htB i_P hown hK hP 0 rfl rfl 10 (by decide) (htB _ mw_69) (fun _ h9 => h9) rfl d_P_branch_87 ?_
            refine lv_sipush (v := 256) hx hb d_P_branch_90 (by decide) ?_
            refine lv_isub hx hb d_P_branch_93 ?_
            refine lv_iadd hx hb d_P_branch_94 ?_
            have hPc := hP.sub (ws' := []) [] rfl
            have hDc := hD.sub (ws' := []) [] (by decide) rfl
            have hKc := hK.sub (tys' := []) [] rfl
            have hFc := va_free (wc := []) hD hS hA [] rfl
            refine va_calli (va_runS (As := [.int ((r 11) + ((r 9) - (256 : Int32)))]) (rest := [.ref q0]) ⟨hx, hb, hml, hown, htB⟩ (c_P_address l dC dI z0  H.size ((r 11) + ((r 9) - (256 : Int32)))) (cwS 1 htB (gd_S mw_300 mw_301 mw_2 mw_302) rfl rfl rfl (by decide +kernel) ⟨Nat.le_of_ble_eq_true rfl, Nat.le_of_ble_eq_true rfl⟩) (pcx_S hPc hKc hDc hA0 hE hS) rfl rfl hl.1 rfl (lv_room (Nat.le_of_ble_eq_true rfl)) d_P_branch_95 ⟨Nat.zero_le _, Nat.zero_le _⟩) hS (fun q _ h => hFc q h) hFc (fun r9 u t H1 locs ht hvm hw hB hz1 hk1 hS => ?_)
            subst hw
            obtain ⟨hP1, hK1, hD1⟩ := hB
            rw [ht] at hP1
            obtain ⟨hP, hD⟩ := va_join (wr := [c_P q0 q1 r]) (w1 := []) hP hD [] [0] rfl rfl (by decide) (by decide) hk1 hFc hP1 hD1
            generalize H1 = H at hP hS ⊢
            have hP : va_P (dC, dI) classes [c_P q0 q1 r] H := hP.sub [0] rfl
            have hD : va_D A [c_P q0 q1 r] := hD.sub [0] (by decide) rfl
            refine va_put (D := (dC, dI)) (ci := 1) (v := .int (f_P_address ((r 11) + ((r 9) - (256 : Int32))))) (ty := .int) (C := R_P) (T := F_P) (N := 13) hx hb htB i_P t_P t_P_ok n_P hown hK hP hD hS 0 rfl rfl 12 (by decide) (htB _ mw_71) (fun _ h9 => h9) rfl (by decide +kernel) rfl rfl (Nat.le_of_ble_eq_true rfl) d_P_branch_98 (fun H locs hP hD hS => ?_)
            have hP : va_P (dC, dI) classes [c_P q0 q1 (upd r 11 (f_P_address ((r 11) + ((r 9) - (256 : Int32)))))] H := hP
            have hD : va_D A [c_P q0 q1 (upd r 11 (f_P_address ((r 11) + ((r 9) - (256 : Int32)))))] := hD
            have hf : f_P_branch p1 r = (upd r 11 (f_P_address ((r 11) + ((r 9) - (256 : Int32))))) := by rw [f_P_branch, if_neg c_1, if_neg c_2, if_pos c_3, if_pos c_4, if_pos c_5]
            exact W.vret hx hb hr (fun t ht hW => ⟨⟨(), rfl, trivial, by rw [hf]; exact ⟨by rw [ht]; exact hP, va_K.moved hW.alike hK, hD⟩⟩, hS.F ht⟩) hS.2.2 d_P_branch_101
          · refine lv_aload_n hx hb d_P_branch_79 rfl (lv_at hl 1 rfl) ?_
            refine va_get (D := (dC, dI)) (ci := 1) (v := .int (r 9)) (C := R_P) (T := F_P) (N := 13) hx hb htB i_P hown hK hP 0 rfl rfl 10 (by decide) (htB _ mw_69) (fun _ h9 => h9) rfl d_P_branch_80 ?_
            refine lv_goto (tgt := 94) hx hb d_P_branch_83 (by decide) ?_
            refine lv_iadd hx hb d_P_branch_94 ?_
            have hPc := hP.sub (ws' := []) [] rfl
            have hDc := hD.sub (ws' := []) [] (by decide) rfl
            have hKc := hK.sub (tys' := []) [] rfl
            have hFc := va_free (wc := []) hD hS hA [] rfl
            refine va_calli (va_runS (As := [.int ((r 11) + (r 9))]) (rest := [.ref q0]) ⟨hx, hb, hml, hown, htB⟩ (c_P_address l dC dI z0  H.size ((r 11) + (r 9))) (cwS 1 htB (gd_S mw_300 mw_301 mw_2 mw_302) rfl rfl rfl (by decide +kernel) ⟨Nat.le_of_ble_eq_true rfl, Nat.le_of_ble_eq_true rfl⟩) (pcx_S hPc hKc hDc hA0 hE hS) rfl rfl hl.1 rfl (lv_room (Nat.le_of_ble_eq_true rfl)) d_P_branch_95 ⟨Nat.zero_le _, Nat.zero_le _⟩) hS (fun q _ h => hFc q h) hFc (fun r9 u t H1 locs ht hvm hw hB hz1 hk1 hS => ?_)
            subst hw
            obtain ⟨hP1, hK1, hD1⟩ := hB
            rw [ht] at hP1
            obtain ⟨hP, hD⟩ := va_join (wr := [c_P q0 q1 r]) (w1 := []) hP hD [] [0] rfl rfl (by decide) (by decide) hk1 hFc hP1 hD1
            generalize H1 = H at hP hS ⊢
            have hP : va_P (dC, dI) classes [c_P q0 q1 r] H := hP.sub [0] rfl
            have hD : va_D A [c_P q0 q1 r] := hD.sub [0] (by decide) rfl
            refine va_put (D := (dC, dI)) (ci := 1) (v := .int (f_P_address ((r 11) + (r 9)))) (ty := .int) (C := R_P) (T := F_P) (N := 13) hx hb htB i_P t_P t_P_ok n_P hown hK hP hD hS 0 rfl rfl 12 (by decide) (htB _ mw_71) (fun _ h9 => h9) rfl (by decide +kernel) rfl rfl (Nat.le_of_ble_eq_true rfl) d_P_branch_98 (fun H locs hP hD hS => ?_)
            have hP : va_P (dC, dI) classes [c_P q0 q1 (upd r 11 (f_P_address ((r 11) + (r 9))))] H := hP
            have hD : va_D A [c_P q0 q1 (upd r 11 (f_P_address ((r 11) + (r 9))))] := hD
            have hf : f_P_branch p1 r = (upd r 11 (f_P_address ((r 11) + (r 9)))) := by rw [f_P_branch, if_neg c_1, if_neg c_2, if_pos c_3, if_pos c_4, if_neg c_5]
            exact W.vret hx hb hr (fun t ht hW => ⟨⟨(), rfl, trivial, by rw [hf]; exact ⟨by rw [ht]; exact hP, va_K.moved hW.alike hK, hD⟩⟩, hS.F ht⟩) hS.2.2 d_P_branch_101
      · refine lv_tableOut (tgt := 52) hx hb d_P_branch_3 (by have g_0 := lv_neT c_1 (show (0 : Int32).toInt = 0 from by decide); have g_1 := lv_neT c_2 (show (1 : Int32).toInt = 1 from by decide); have g_2 := lv_neT c_3 (show (2 : Int32).toInt = 2 from by decide); omega) (by decide) ?_
        refine lv_aload_n hx hb d_P_branch_52 rfl (lv_at hl 0 rfl) ?_
        refine va_get (D := (dC, dI)) (ci := 1) (v := .int (r 7)) (C := R_P) (T := F_P) (N := 13) hx hb htB i_P hown hK hP 0 rfl rfl 8 (by decide) (htB _ mw_67) (fun _ h9 => h9) rfl d_P_branch_53 ?_
        refine lv_istore_n (lv' := [(2, .int (r 7)), (0, .ref q0), (1, .int p1)]) hx hb d_P_branch_56 rfl hl (by decide) rfl (fun ls hl => ?_)
        refine lv_iload_n hx hb d_P_branch_57 rfl (lv_at hl 0 rfl) ?_
        refine lv_iload_n hx hb d_P_branch_58 rfl (lv_at hl 2 rfl) ?_
        refine lv_iconst (v := 2) hx hb d_P_branch_59 (by decide) ?_
        refine lv_irem hx hb d_P_branch_60 (by decide) ?_
        refine lv_icmp_ne (tgt := 101) hx hb d_P_branch_61 (by decide) (fun c_4 => ?_) (fun c_4 => ?_)
        · have hf : f_P_branch p1 r = r := by rw [f_P_branch, if_neg c_1, if_neg c_2, if_neg c_3, if_neg c_4]
          exact W.vret hx hb hr (fun t ht hW => ⟨⟨(), rfl, trivial, by rw [hf]; exact ⟨by rw [ht]; exact hP, va_K.moved hW.alike hK, hD⟩⟩, hS.F ht⟩) hS.2.2 d_P_branch_101
        · refine lv_aload_n hx hb d_P_branch_64 rfl (lv_at hl 1 rfl) ?_
          refine lv_aload_n hx hb d_P_branch_65 rfl (lv_at hl 1 rfl) ?_
          refine va_get (D := (dC, dI)) (ci := 1) (v := .int (r 11)) (C := R_P) (T := F_P) (N := 13) hx hb htB i_P hown hK hP 0 rfl rfl 12 (by decide) (htB _ mw_71) (fun _ h9 => h9) rfl d_P_branch_66 ?_
          refine lv_aload_n hx hb d_P_branch_69 rfl (lv_at hl 1 rfl) ?_
          refine va_get (D := (dC, dI)) (ci := 1) (v := .int (r 9)) (C := R_P) (T := F_P) (N := 13) hx hb htB i_P hown hK hP 0 rfl rfl 10 (by decide) (htB _ mw_69) (fun _ h9 => h9) rfl d_P_branch_70 ?_
          refine lv_sipush (v := 128) hx hb d_P_branch_73 (by decide) ?_
          refine lv_icmp_ge (tgt := 86) hx hb d_P_branch_76 (by decide) (fun c_5 => ?_) (fun c_5 => ?_)
          · refine lv_aload_n hx hb d_P_branch_86 rfl (lv_at hl 1 rfl) ?_
            refine va_get (D := (dC, dI)) (ci := 1) (v := .int (r 9)) (C := R_P) (T := F_P) (N := 13) hx hb htB i_P hown hK hP 0 rfl rfl 10 (by decide) (htB _ mw_69) (fun _ h9 => h9) rfl d_P_branch_87 ?_
            refine lv_sipush (v := 256) hx hb d_P_branch_90 (by decide) ?_
            refine lv_isub hx hb d_P_branch_93 ?_
            refine lv_iadd hx hb d_P_branch_94 ?_
            have hPc := hP.sub (ws' := []) [] rfl
            have hDc := hD.sub (ws' := []) [] (by decide) rfl
            have hKc := hK.sub (tys' := []) [] rfl
            have hFc := va_free (wc := []) hD hS hA [] rfl
            refine va_calli (va_runS (As := [.int ((r 11) + ((r 9) - (256 : Int32)))]) (rest := [.ref q0]) ⟨hx, hb, hml, hown, htB⟩ (c_P_address l dC dI z0  H.size ((r 11) + ((r 9) - (256 : Int32)))) (cwS 1 htB (gd_S mw_300 mw_301 mw_2 mw_302) rfl rfl rfl (by decide +kernel) ⟨Nat.le_of_ble_eq_true rfl, Nat.le_of_ble_eq_true rfl⟩) (pcx_S hPc hKc hDc hA0 hE hS) rfl rfl hl.1 rfl (lv_room (Nat.le_of_ble_eq_true rfl)) d_P_branch_95 ⟨Nat.zero_le _, Nat.zero_le _⟩) hS (fun q _ h => hFc q h) hFc (fun r9 u t H1 locs ht hvm hw hB hz1 hk1 hS => ?_)
            subst hw
            obtain ⟨hP1, hK1, hD1⟩ := hB
            rw [ht] at hP1
            obtain ⟨hP, hD⟩ := va_join (wr := [c_P q0 q1 r]) (w1 := []) hP hD [] [0] rfl rfl (by decide) (by decide) hk1 hFc hP1 hD1
            generalize H1 = H at hP hS ⊢
            have hP : va_P (dC, dI) classes [c_P q0 q1 r] H := hP.sub [0] rfl
            have hD : va_D A [c_P q0 q1 r] := hD.sub [0] (by decide) rfl
            refine va_put (D := (dC, dI)) (ci := 1) (v := .int (f_P_address ((r 11) + ((r 9) - (256 : Int32))))) (ty := .int) (C := R_P) (T := F_P) (N := 13) hx hb htB i_P t_P t_P_ok n_P hown hK hP hD hS 0 rfl rfl 12 (by decide) (htB _ mw_71) (fun _ h9 => h9) rfl (by decide +kernel) rfl rfl (Nat.le_of_ble_eq_true rfl) d_P_branch_98 (fun H locs hP hD hS => ?_)
            have hP : va_P (dC, dI) classes [c_P q0 q1 (upd r 11 (f_P_address ((r 11) + ((r 9) - (256 : Int32)))))] H := hP
            have hD : va_D A [c_P q0 q1 (upd r 11 (f_P_address ((r 11) + ((r 9) - (256 : Int32)))))] := hD
            have hf : f_P_branch p1 r = (upd r 11 (f_P_address ((r 11) + ((r 9) - (256 : Int32))))) := by rw [f_P_branch, if_neg c_1, if_neg c_2, if_neg c_3, if_pos c_4, if_pos c_5]
            exact W.vret hx hb hr (fun t ht hW => ⟨⟨(), rfl, trivial, by rw [hf]; exact ⟨by rw [ht]; exact hP, va_K.moved hW.alike hK, hD⟩⟩, hS.F ht⟩) hS.2.2 d_P_branch_101
          · refine lv_aload_n hx hb d_P_branch_79 rfl (lv_at hl 1 rfl) ?_
            refine va_get (D := (dC, dI)) (ci := 1) (v := .int (r 9)) (C := R_P) (T := F_P) (N := 13) hx hb htB i_P hown hK hP 0 rfl rfl 10 (by decide) (htB _ mw_69) (fun _ h9 => h9) rfl d_P_branch_80 ?_
            refine lv_goto (tgt := 94) hx hb d_P_branch_83 (by decide) ?_
            refine lv_iadd hx hb d_P_branch_94 ?_
            have hPc := hP.sub (ws' := []) [] rfl
            have hDc := hD.sub (ws' := []) [] (by decide) rfl
            have hKc := hK.sub (tys' := []) [] rfl
            have hFc := va_free (wc := []) hD hS hA [] rfl
            refine va_calli (va_runS (As := [.int ((r 11) + (r 9))]) (rest := [.ref q0]) ⟨hx, hb, hml, hown, htB⟩ (c_P_address l dC dI z0  H.size ((r 11) + (r 9))) (cwS 1 htB (gd_S mw_300 mw_301 mw_2 mw_302) rfl rfl rfl (by decide +kernel) ⟨Nat.le_of_ble_eq_true rfl, Nat.le_of_ble_eq_true rfl⟩) (pcx_S hPc hKc hDc hA0 hE hS) rfl rfl hl.1 rfl (lv_room (Nat.le_of_ble_eq_true rfl)) d_P_branch_95 ⟨Nat.zero_le _, Nat.zero_le _⟩) hS (fun q _ h => hFc q h) hFc (fun r9 u t H1 locs ht hvm hw hB hz1 hk1 hS => ?_)
            subst hw
            obtain ⟨hP1, hK1, hD1⟩ := hB
            rw [ht] at hP1
            obtain ⟨hP, hD⟩ := va_join (wr := [c_P q0 q1 r]) (w1 := []) hP hD [] [0] rfl rfl (by decide) (by decide) hk1 hFc hP1 hD1
            generalize H1 = H at hP hS ⊢
            have hP : va_P (dC, dI) classes [c_P q0 q1 r] H := hP.sub [0] rfl
            have hD : va_D A [c_P q0 q1 r] := hD.sub [0] (by decide) rfl
            refine va_put (D := (dC, dI)) (ci := 1) (v := .int (f_P_address ((r 11) + (r 9)))) (ty := .int) (C := R_P) (T := F_P) (N := 13) hx hb htB i_P t_P t_P_ok n_P hown hK hP hD hS 0 rfl rfl 12 (by decide) (htB _ mw_71) (fun _ h9 => h9) rfl (by decide +kernel) rfl rfl (Nat.le_of_ble_eq_true rfl) d_P_branch_98 (fun H locs hP hD hS => ?_)
            have hP : va_P (dC, dI) classes [c_P q0 q1 (upd r 11 (f_P_address ((r 11) + (r 9))))] H := hP
            have hD : va_D A [c_P q0 q1 (upd r 11 (f_P_address ((r 11) + (r 9))))] := hD
            have hf : f_P_branch p1 r = (upd r 11 (f_P_address ((r 11) + (r 9)))) := by rw [f_P_branch, if_neg c_1, if_neg c_2, if_neg c_3, if_pos c_4, if_neg c_5]
            exact W.vret hx hb hr (fun t ht hW => ⟨⟨(), rfl, trivial, by rw [hf]; exact ⟨by rw [ht]; exact hP, va_K.moved hW.alike hK, hD⟩⟩, hS.F ht⟩) hS.2.2 d_P_branch_101

def f_P_executeAlone (p1 : Int32) (r k M D : Nat → Int32) : (Nat → Int32) × (Nat → Int32) × (Nat → Int32) × (Nat → Int32) :=
  if p1 = (8 : Int32) then
    ((f_P_push (f_P_flags r) r k M D).1, (f_P_push (f_P_flags r) r k M D).2.1, (f_P_push (f_P_flags r) r k M D).2.2.1, (f_P_push (f_P_flags r) r k M D).2.2.2)
  else
    if p1 = (24 : Int32) then
      ((upd r 8 (0 : Int32)), k, M, D)
    else
      if p1 = (40 : Int32) then
        ((f_P_setFlags ((f_P_pull r k M D).1) ((f_P_pull r k M D).2.1)), (f_P_pull r k M D).2.2, M, D)
      else
        if p1 = (56 : Int32) then
          ((upd r 8 (1 : Int32)), k, M, D)
        else
          if p1 = (72 : Int32) then
            ((f_P_push (r 0) r k M D).1, (f_P_push (r 0) r k M D).2.1, (f_P_push (r 0) r k M D).2.2.1, (f_P_push (r 0) r k M D).2.2.2)
          else
            if p1 = (96 : Int32) then
              ((f_P_comeBack r k M D).1, (f_P_comeBack r k M D).2, M, D)
            else
              if p1 = (104 : Int32) then
                ((upd ((f_P_set ((f_P_pull r k M D).1) ((f_P_pull r k M D).2.1)).2) 0 ((f_P_set ((f_P_pull r k M D).1) ((f_P_pull r k M D).2.1)).1)), (f_P_pull r k M D).2.2, M, D)
              else
                if p1 = (136 : Int32) then
                  ((upd ((f_P_set (((r 2) - (1 : Int32)) &&& (255 : Int32)) r).2) 2 ((f_P_set (((r 2) - (1 : Int32)) &&& (255 : Int32)) r).1)), k, M, D)
                else
                  if p1 = (152 : Int32) then
                    ((upd ((f_P_set (r 2) r).2) 0 ((f_P_set (r 2) r).1)), k, M, D)
                  else
                    if p1 = (168 : Int32) then
                      ((upd ((f_P_set (r 0) r).2) 2 ((f_P_set (r 0) r).1)), k, M, D)
                    else
                      if p1 = (184 : Int32) then
                        ((upd r 6 (0 : Int32)), k, M, D)
                      else
                        if p1 = (200 : Int32) then
                          ((upd ((f_P_set (((r 2) + (1 : Int32)) &&& (255 : Int32)) r).2) 2 ((f_P_set (((r 2) + (1 : Int32)) &&& (255 : Int32)) r).1)), k, M, D)
                        else
                          ((upd ((f_P_set (((r 1) + (1 : Int32)) &&& (255 : Int32)) r).2) 1 ((f_P_set (((r 1) + (1 : Int32)) &&& (255 : Int32)) r).1)), k, M, D)
abbrev Q_P_executeAlone (dC : Nat → ClassId) (dI : Nat → Nat → Nat) (q0 : Nat) (q1 : Nat) (q2 : Nat) (q3 : Nat) (cM : ClassId) (cD : ClassId) (p1 : Int32) (r k M D : Nat → Int32) (A : Nat → Prop) : Array Value → State → Outcome → State → Prop := va_Qv (fun (_ : Unit) => True) (fun _ t => atW (dC, dI) classes A [c_P q0 q1 ((f_P_executeAlone p1 r k M D).1), c_B q1 q2 q3 ((f_P_executeAlone p1 r k M D).2.1), c_A q2 cM 1024 ((f_P_executeAlone p1 r k M D).2.2.1), c_A q3 cD 256 ((f_P_executeAlone p1 r k M D).2.2.2)] [(cM, .int), (cD, .int)] t) A
set_option maxHeartbeats 4000000 in
set_option maxRecDepth 100000 in
theorem c_P_executeAlone (l : Launch) (dC : Nat → ClassId) (dI : Nat → Nat → Nat) (z0 : Nat) (q0 : Nat) (q1 : Nat) (q2 : Nat) (q3 : Nat) (cM : ClassId) (cD : ClassId) (sz : Nat) (p1 : Int32) (r k M D : Nat → Int32) (hsn : sn_ok k) : Met l y_P_executeAlone w_P_executeAlone ({ frames := 4, cells := 0, slots := 0, locals := 106 }) (PcX (dC, dI) classes z0 [c_P q0 q1 r, c_B q1 q2 q3 k, c_A q2 cM 1024 M, c_A q3 cD 256 D] [(cM, .int), (cD, .int)] sz [.ref q0, .int p1]) (Q_P_executeAlone dC dI q0 q1 q2 q3 cM cD p1 r k M D (va_A [c_P q0 q1 r, c_B q1 q2 q3 k, c_A q2 cM 1024 M, c_A q3 cD 256 D] sz)) 0 0 (va_A [c_P q0 q1 r, c_B q1 q2 q3 k, c_A q2 cM 1024 M, c_A q3 cD 256 D] sz) := by
  refine hdX (cc := b_P_executeAlone) (maxL := 2) (ret := none) (C := R_P) (Qc := (Q_P_executeAlone dC dI q0 q1 q2 q3 cM cD p1 r k M D)) (by decide) rfl ?_
  intro p e s m below meth c A H hx hb hr hlocks hml hown hin htB hP hK hD hA hA0 hE hS
  have hl := lv_entry ([.ref q0, .int p1]) (n := 2) (Nat.le_of_ble_eq_true rfl)
  rw [lg_entry_eq]
  generalize (lg_sl ([.ref q0, .int p1]) ++ List.replicate (2 - (lg_sl ([.ref q0, .int p1])).length) Slot.unset).toArray = ls at hl ⊢
  have hl : lv_has ls 2 [(0, .ref q0), (1, .int p1)] := hl
  refine lv_iload_n hx hb d_P_executeAlone_0 rfl (lv_at hl 1 rfl) ?_
  by_cases c_1 : p1 = (8 : Int32)
  · refine lv_lookup (off := 107) (tgt := 108) hx hb d_P_executeAlone_1 (by decide) (by rw [c_1]; first | done | rfl) (by decide) ?_
    refine lv_aload_n hx hb d_P_executeAlone_108 rfl (lv_at hl 0 rfl) ?_
    refine lv_aload_n hx hb d_P_executeAlone_109 rfl (lv_at hl 0 rfl) ?_
    have hPc := hP.sub (ws' := [c_P q0 q1 r]) [0] rfl
    have hDc := hD.sub (ws' := [c_P q0 q1 r]) [0] (by decide) rfl
    have hKc := hK.sub (tys' := []) [] rfl
    have hFc := va_free (wc := [c_P q0 q1 r]) hD hS hA [0] rfl
    refine va_calli (va_runV (As := []) (rest := [.ref q0]) ⟨hx, hb, hml, hown, htB⟩ (c_P_flags l dC dI z0 q0 q1 H.size r) (cwV 0 htB (gd_V mw_224 mw_226 sw_P_flags mw_2 mw_227) rfl rfl rfl (by decide +kernel) ⟨Nat.le_of_ble_eq_true rfl, Nat.le_of_ble_eq_true rfl⟩) (pcx_V (va_recv hKc hPc (ci := 1) (q0 := 0) rfl rfl) hPc hKc hDc hA0 hE hS) rfl rfl hl.1 rfl (lv_room (Nat.le_of_ble_eq_true rfl)) d_P_executeAlone_110 ⟨Nat.zero_le _, Nat.zero_le _⟩) hS (fun q _ h => hFc q h) hFc (fun r9 u t H1 locs ht hvm hw hB hz1 hk1 hS => ?_)
    subst hw
    obtain ⟨hP1, hK1, hD1⟩ := hB
    rw [ht] at hP1
    obtain ⟨hP, hD⟩ := va_join (wr := [c_B q1 q2 q3 k, c_A q2 cM 1024 M, c_A q3 cD 256 D]) (w1 := [c_P q0 q1 r]) hP hD [0] [1, 2, 3] rfl rfl (by decide) (by decide) hk1 hFc hP1 hD1
    generalize H1 = H at hP hS ⊢
    have hP : va_P (dC, dI) classes [c_P q0 q1 r, c_B q1 q2 q3 k, c_A q2 cM 1024 M, c_A q3 cD 256 D] H := hP.sub [3, 0, 1, 2] rfl
    have hD : va_D A [c_P q0 q1 r, c_B q1 q2 q3 k, c_A q2 cM 1024 M, c_A q3 cD 256 D] := hD.sub [3, 0, 1, 2] (by decide) rfl
    have hPc := hP.sub (ws' := [c_P q0 q1 r, c_B q1 q2 q3 k, c_A q2 cM 1024 M, c_A q3 cD 256 D]) [0, 1, 2, 3] rfl
    have hDc := hD.sub (ws' := [c_P q0 q1 r, c_B q1 q2 q3 k, c_A q2 cM 1024 M, c_A q3 cD 256 D]) [0, 1, 2, 3] (by decide) rfl
    have hKc := hK.sub (tys' := [(cM, .int), (cD, .int)]) [0, 1] rfl
    have hFc := va_free (wc := [c_P q0 q1 r, c_B q1 q2 q3 k, c_A q2 cM 1024 M, c_A q3 cD 256 D]) hD hS hA [0, 1, 2, 3] rfl
    refine va_callv (va_runV (As := [.int (f_P_flags r)]) (rest := []) ⟨hx, hb, hml, hown, htB⟩ (c_P_push l dC dI z0 q0 q1 q2 q3 cM cD H.size (f_P_flags r) r k M D hsn) (cwV 1 htB (gd_V mw_358 mw_360 sw_P_push mw_2 mw_361) rfl rfl rfl (by decide +kernel) ⟨Nat.le_of_ble_eq_true rfl, Nat.le_of_ble_eq_true rfl⟩) (pcx_V (va_recv hKc hPc (ci := 1) (q0 := 0) rfl rfl) hPc hKc hDc hA0 hE hS) rfl rfl hl.1 rfl (lv_room (Nat.le_of_ble_eq_true rfl)) d_P_executeAlone_113 ⟨Nat.zero_le _, Nat.zero_le _⟩) hS (fun q _ h => hFc q h) hFc (fun u t H1 locs ht hvm hw hB hz1 hk1 hS => ?_)
    obtain ⟨hP1, hK1, hD1⟩ := hB
    rw [ht] at hP1
    obtain ⟨hP, hD⟩ := va_join (wr := []) (w1 := [c_P q0 q1 ((f_P_push (f_P_flags r) r k M D).1), c_B q1 q2 q3 ((f_P_push (f_P_flags r) r k M D).2.1), c_A q2 cM 1024 ((f_P_push (f_P_flags r) r k M D).2.2.1), c_A q3 cD 256 ((f_P_push (f_P_flags r) r k M D).2.2.2)]) hP hD [0, 1, 2, 3] [] rfl rfl (by decide) (by decide) hk1 hFc hP1 hD1
    generalize H1 = H at hP hS ⊢
    have hP : va_P (dC, dI) classes [c_P q0 q1 ((f_P_push (f_P_flags r) r k M D).1), c_B q1 q2 q3 ((f_P_push (f_P_flags r) r k M D).2.1), c_A q2 cM 1024 ((f_P_push (f_P_flags r) r k M D).2.2.1), c_A q3 cD 256 ((f_P_push (f_P_flags r) r k M D).2.2.2)] H := hP.sub [0, 1, 2, 3] rfl
    have hD : va_D A [c_P q0 q1 ((f_P_push (f_P_flags r) r k M D).1), c_B q1 q2 q3 ((f_P_push (f_P_flags r) r k M D).2.1), c_A q2 cM 1024 ((f_P_push (f_P_flags r) r k M D).2.2.1), c_A q3 cD 256 ((f_P_push (f_P_flags r) r k M D).2.2.2)] := hD.sub [0, 1, 2, 3] (by decide) rfl
    refine lv_goto (tgt := 277) hx hb d_P_executeAlone_116 (by decide) ?_
    have hf : f_P_executeAlone p1 r k M D = ((f_P_push (f_P_flags r) r k M D).1, (f_P_push (f_P_flags r) r k M D).2.1, (f_P_push (f_P_flags r) r k M D).2.2.1, (f_P_push (f_P_flags r) r k M D).2.2.2) := by rw [f_P_executeAlone, if_pos c_1]
    exact W.vret hx hb hr (fun t ht hW => ⟨⟨(), rfl, trivial, by rw [hf]; exact ⟨by rw [ht]; exact hP, va_K.moved hW.alike hK, hD⟩⟩, hS.F ht⟩) hS.2.2 d_P_executeAlone_277
  · by_cases c_2 : p1 = (24 : Int32)
    · refine lv_lookup (off := 118) (tgt := 119) hx hb d_P_executeAlone_1 (by decide) (by rw [c_2]; first | done | rfl) (by decide) ?_
      refine lv_aload_n hx hb d_P_executeAlone_119 rfl (lv_at hl 0 rfl) ?_
      refine lv_iconst (v := 0) hx hb d_P_executeAlone_120 (by decide) ?_
      refine va_put (D := (dC, dI)) (ci := 1) (v := .int (0 : Int32)) (ty := .int) (C := R_P) (T := F_P) (N := 13) hx hb htB i_P t_P t_P_ok n_P hown hK hP hD hS 0 rfl rfl 9 (by decide) (htB _ mw_68) (fun _ h9 => h9) rfl (by decide +kernel) rfl rfl (Nat.le_of_ble_eq_true rfl) d_P_executeAlone_121 (fun H locs hP hD hS => ?_)
      have hP : va_P (dC, dI) classes [c_P q0 q1 (upd r 8 (0 : Int32)), c_B q1 q2 q3 k, c_A q2 cM 1024 M, c_A q3 cD 256 D] H := hP
      have hD : va_D A [c_P q0 q1 (upd r 8 (0 : Int32)), c_B q1 q2 q3 k, c_A q2 cM 1024 M, c_A q3 cD 256 D] := hD
      refine lv_goto (tgt := 277) hx hb d_P_executeAlone_124 (by decide) ?_
      have hf : f_P_executeAlone p1 r k M D = ((upd r 8 (0 : Int32)), k, M, D) := by rw [f_P_executeAlone, if_neg c_1, if_pos c_2]
      exact W.vret hx hb hr (fun t ht hW => ⟨⟨(), rfl, trivial, by rw [hf]; exact ⟨by rw [ht]; exact hP, va_K.moved hW.alike hK, hD⟩⟩, hS.F ht⟩) hS.2.2 d_P_executeAlone_277
    · by_cases c_3 : p1 = (40 : Int32)
      · refine lv_lookup (off := 126) (tgt := 127) hx hb d_P_executeAlone_1 (by decide) (by rw [c_3]; first | done | rfl) (by decide) ?_
        refine lv_aload_n hx hb d_P_executeAlone_127 rfl (lv_at hl 0 rfl) ?_
        refine lv_aload_n hx hb d_P_executeAlone_128 rfl (lv_at hl 0 rfl) ?_
        have hPc := hP.sub (ws' := [c_P q0 q1 r, c_B q1 q2 q3 k, c_A q2 cM 1024 M, c_A q3 cD 256 D]) [0, 1, 2, 3] rfl
        have hDc := hD.sub (ws' := [c_P q0 q1 r, c_B q1 q2 q3 k, c_A q2 cM 1024 M, c_A q3 cD 256 D]) [0, 1, 2, 3] (by decide) rfl
        have hKc := hK.sub (tys' := [(cM, .int), (cD, .int)]) [0, 1] rfl
        have hFc := va_free (wc := [c_P q0 q1 r, c_B q1 q2 q3 k, c_A q2 cM 1024 M, c_A q3 cD 256 D]) hD hS hA [0, 1, 2, 3] rfl
        refine va_calli (va_runV (As := []) (rest := [.ref q0]) ⟨hx, hb, hml, hown, htB⟩ (c_P_pull l dC dI z0 q0 q1 q2 q3 cM cD H.size r k M D) (cwV 0 htB (gd_V mw_362 mw_364 sw_P_pull mw_2 mw_365) rfl rfl rfl (by decide +kernel) ⟨Nat.le_of_ble_eq_true rfl, Nat.le_of_ble_eq_true rfl⟩) (pcx_V (va_recv hKc hPc (ci := 1) (q0 := 0) rfl rfl) hPc hKc hDc hA0 hE hS) rfl rfl hl.1 rfl (lv_room (Nat.le_of_ble_eq_true rfl)) d_P_executeAlone_129 ⟨Nat.zero_le _, Nat.zero_le _⟩) hS (fun q _ h => hFc q h) hFc (fun r9 u t H1 locs ht hvm hw hB hz1 hk1 hS => ?_)
        subst hw
        obtain ⟨hP1, hK1, hD1⟩ := hB
        rw [ht] at hP1
        obtain ⟨hP, hD⟩ := va_join (wr := []) (w1 := [c_P q0 q1 ((f_P_pull r k M D).2.1), c_B q1 q2 q3 ((f_P_pull r k M D).2.2), c_A q2 cM 1024 M, c_A q3 cD 256 D]) hP hD [0, 1, 2, 3] [] rfl rfl (by decide) (by decide) hk1 hFc hP1 hD1
        generalize H1 = H at hP hS ⊢
        have hP : va_P (dC, dI) classes [c_P q0 q1 ((f_P_pull r k M D).2.1), c_B q1 q2 q3 ((f_P_pull r k M D).2.2), c_A q2 cM 1024 M, c_A q3 cD 256 D] H := hP.sub [0, 1, 2, 3] rfl
        have hD : va_D A [c_P q0 q1 ((f_P_pull r k M D).2.1), c_B q1 q2 q3 ((f_P_pull r k M D).2.2), c_A q2 cM 1024 M, c_A q3 cD 256 D] := hD.sub [0, 1, 2, 3] (by decide) rfl
        have hPc := hP.sub (ws' := [c_P q0 q1 ((f_P_pull r k M D).2.1)]) [0] rfl
        have hDc := hD.sub (ws' := [c_P q0 q1 ((f_P_pull r k M D).2.1)]) [0] (by decide) rfl
        have hKc := hK.sub (tys' := []) [] rfl
        have hFc := va_free (wc := [c_P q0 q1 ((f_P_pull r k M D).2.1)]) hD hS hA [0] rfl
        refine va_callv (va_runV (As := [.int ((f_P_pull r k M D).1)]) (rest := []) ⟨hx, hb, hml, hown, htB⟩ (c_P_setFlags l dC dI z0 q0 q1 H.size ((f_P_pull r k M D).1) ((f_P_pull r k M D).2.1)) (cwV 1 htB (gd_V mw_232 mw_234 sw_P_setFlags mw_2 mw_235) rfl rfl rfl (by decide +kernel) ⟨Nat.le_of_ble_eq_true rfl, Nat.le_of_ble_eq_true rfl⟩) (pcx_V (va_recv hKc hPc (ci := 1) (q0 := 0) rfl rfl) hPc hKc hDc hA0 hE hS) rfl rfl hl.1 rfl (lv_room (Nat.le_of_ble_eq_true rfl)) d_P_executeAlone_132 ⟨Nat.zero_le _, Nat.zero_le _⟩) hS (fun q _ h => hFc q h) hFc (fun u t H1 locs ht hvm hw hB hz1 hk1 hS => ?_)
        obtain ⟨hP1, hK1, hD1⟩ := hB
        rw [ht] at hP1
        obtain ⟨hP, hD⟩ := va_join (wr := [c_B q1 q2 q3 ((f_P_pull r k M D).2.2), c_A q2 cM 1024 M, c_A q3 cD 256 D]) (w1 := [c_P q0 q1 (f_P_setFlags ((f_P_pull r k M D).1) ((f_P_pull r k M D).2.1))]) hP hD [0] [1, 2, 3] rfl rfl (by decide) (by decide) hk1 hFc hP1 hD1
        generalize H1 = H at hP hS ⊢
        have hP : va_P (dC, dI) classes [c_P q0 q1 (f_P_setFlags ((f_P_pull r k M D).1) ((f_P_pull r k M D).2.1)), c_B q1 q2 q3 ((f_P_pull r k M D).2.2), c_A q2 cM 1024 M, c_A q3 cD 256 D] H := hP.sub [3, 0, 1, 2] rfl
        have hD : va_D A [c_P q0 q1 (f_P_setFlags ((f_P_pull r k M D).1) ((f_P_pull r k M D).2.1)), c_B q1 q2 q3 ((f_P_pull r k M D).2.2), c_A q2 cM 1024 M, c_A q3 cD 256 D] := hD.sub [3, 0, 1, 2] (by decide) rfl
        refine lv_goto (tgt := 277) hx hb d_P_executeAlone_135 (by decide) ?_
        have hf : f_P_executeAlone p1 r k M D = ((f_P_setFlags ((f_P_pull r k M D).1) ((f_P_pull r k M D).2.1)), (f_P_pull r k M D).2.2, M, D) := by rw [f_P_executeAlone, if_neg c_1, if_neg c_2, if_pos c_3]
        exact W.vret hx hb hr (fun t ht hW => ⟨⟨(), rfl, trivial, by rw [hf]; exact ⟨by rw [ht]; exact hP, va_K.moved hW.alike hK, hD⟩⟩, hS.F ht⟩) hS.2.2 d_P_executeAlone_277
      · by_cases c_4 : p1 = (56 : Int32)
        · refine lv_lookup (off := 137) (tgt := 138) hx hb d_P_executeAlone_1 (by decide) (by rw [c_4]; first | done | rfl) (by decide) ?_
          refine lv_aload_n hx hb d_P_executeAlone_138 rfl (lv_at hl 0 rfl) ?_
          refine lv_iconst (v := 1) hx hb d_P_executeAlone_139 (by decide) ?_
          refine va_put (D := (dC, dI)) (ci := 1) (v := .int (1 : Int32)) (ty := .int) (C := R_P) (T := F_P) (N := 13) hx hb htB i_P t_P t_P_ok n_P hown hK hP hD hS 0 rfl rfl 9 (by decide) (htB _ mw_68) (fun _ h9 => h9) rfl (by decide +kernel) rfl rfl (Nat.le_of_ble_eq_true rfl) d_P_executeAlone_140 (fun H locs hP hD hS => ?_)
          have hP : va_P (dC, dI) classes [c_P q0 q1 (upd r 8 (1 : Int32)), c_B q1 q2 q3 k, c_A q2 cM 1024 M, c_A q3 cD 256 D] H := hP
          have hD : va_D A [c_P q0 q1 (upd r 8 (1 : Int32)), c_B q1 q2 q3 k, c_A q2 cM 1024 M, c_A q3 cD 256 D] := hD
          refine lv_goto (tgt := 277) hx hb d_P_executeAlone_143 (by decide) ?_
          have hf : f_P_executeAlone p1 r k M D = ((upd r 8 (1 : Int32)), k, M, D) := by rw [f_P_executeAlone, if_neg c_1, if_neg c_2, if_neg c_3, if_pos c_4]
          exact W.vret hx hb hr (fun t ht hW => ⟨⟨(), rfl, trivial, by rw [hf]; exact ⟨by rw [ht]; exact hP, va_K.moved hW.alike hK, hD⟩⟩, hS.F ht⟩) hS.2.2 d_P_executeAlone_277
        · by_cases c_5 : p1 = (72 : Int32)
          · refine lv_lookup (off := 145) (tgt := 146) hx hb d_P_executeAlone_1 (by decide) (by rw [c_5]; first | done | rfl) (by decide) ?_
            refine lv_aload_n hx hb d_P_executeAlone_146 rfl (lv_at hl 0 rfl) ?_
            refine lv_aload_n hx hb d_P_executeAlone_147 rfl (lv_at hl 0 rfl) ?_
            refine va_get (D := (dC, dI)) (ci := 1) (v := .int (r 0)) (C := R_P) (T := F_P) (N := 13) hx hb htB i_P hown hK hP 0 rfl rfl 1 (by decide) (htB _ mw_59) (fun _ h9 => h9) rfl d_P_executeAlone_148 ?_
            have hPc := hP.sub (ws' := [c_P q0 q1 r, c_B q1 q2 q3 k, c_A q2 cM 1024 M, c_A q3 cD 256 D]) [0, 1, 2, 3] rfl
            have hDc := hD.sub (ws' := [c_P q0 q1 r, c_B q1 q2 q3 k, c_A q2 cM 1024 M, c_A q3 cD 256 D]) [0, 1, 2, 3] (by decide) rfl
            have hKc := hK.sub (tys' := [(cM, .int), (cD, .int)]) [0, 1] rfl
            have hFc := va_free (wc := [c_P q0 q1 r, c_B q1 q2 q3 k, c_A q2 cM 1024 M, c_A q3 cD 256 D]) hD hS hA [0, 1, 2, 3] rfl
            refine va_callv (va_runV (As := [.int (r 0)]) (rest := []) ⟨hx, hb, hml, hown, htB⟩ (c_P_push l dC dI z0 q0 q1 q2 q3 cM cD H.size (r 0) r k M D hsn) (cwV 1 htB (gd_V mw_358 mw_360 sw_P_push mw_2 mw_361) rfl rfl rfl (by decide +kernel) ⟨Nat.le_of_ble_eq_true rfl, Nat.le_of_ble_eq_true rfl⟩) (pcx_V (va_recv hKc hPc (ci := 1) (q0 := 0) rfl rfl) hPc hKc hDc hA0 hE hS) rfl rfl hl.1 rfl (lv_room (Nat.le_of_ble_eq_true rfl)) d_P_executeAlone_151 ⟨Nat.zero_le _, Nat.zero_le _⟩) hS (fun q _ h => hFc q h) hFc (fun u t H1 locs ht hvm hw hB hz1 hk1 hS => ?_)
            obtain ⟨hP1, hK1, hD1⟩ := hB
            rw [ht] at hP1
            obtain ⟨hP, hD⟩ := va_join (wr := []) (w1 := [c_P q0 q1 ((f_P_push (r 0) r k M D).1), c_B q1 q2 q3 ((f_P_push (r 0) r k M D).2.1), c_A q2 cM 1024 ((f_P_push (r 0) r k M D).2.2.1), c_A q3 cD 256 ((f_P_push (r 0) r k M D).2.2.2)]) hP hD [0, 1, 2, 3] [] rfl rfl (by decide) (by decide) hk1 hFc hP1 hD1
            generalize H1 = H at hP hS ⊢
            have hP : va_P (dC, dI) classes [c_P q0 q1 ((f_P_push (r 0) r k M D).1), c_B q1 q2 q3 ((f_P_push (r 0) r k M D).2.1), c_A q2 cM 1024 ((f_P_push (r 0) r k M D).2.2.1), c_A q3 cD 256 ((f_P_push (r 0) r k M D).2.2.2)] H := hP.sub [0, 1, 2, 3] rfl
            have hD : va_D A [c_P q0 q1 ((f_P_push (r 0) r k M D).1), c_B q1 q2 q3 ((f_P_push (r 0) r k M D).2.1), c_A q2 cM 1024 ((f_P_push (r 0) r k M D).2.2.1), c_A q3 cD 256 ((f_P_push (r 0) r k M D).2.2.2)] := hD.sub [0, 1, 2, 3] (by decide) rfl
            refine lv_goto (tgt := 277) hx hb d_P_executeAlone_154 (by decide) ?_
            have hf : f_P_executeAlone p1 r k M D = ((f_P_push (r 0) r k M D).1, (f_P_push (r 0) r k M D).2.1, (f_P_push (r 0) r k M D).2.2.1, (f_P_push (r 0) r k M D).2.2.2) := by rw [f_P_executeAlone, if_neg c_1, if_neg c_2, if_neg c_3, if_neg c_4, if_pos c_5]
            exact W.vret hx hb hr (fun t ht hW => ⟨⟨(), rfl, trivial, by rw [hf]; exact ⟨by rw [ht]; exact hP, va_K.moved hW.alike hK, hD⟩⟩, hS.F ht⟩) hS.2.2 d_P_executeAlone_277
          · by_cases c_6 : p1 = (96 : Int32)
            · refine lv_lookup (off := 156) (tgt := 157) hx hb d_P_executeAlone_1 (by decide) (by rw [c_6]; first | done | rfl) (by decide) ?_
              refine lv_aload_n hx hb d_P_executeAlone_157 rfl (lv_at hl 0 rfl) ?_
              have hPc := hP.sub (ws' := [c_P q0 q1 r, c_B q1 q2 q3 k, c_A q2 cM 1024 M, c_A q3 cD 256 D]) [0, 1, 2, 3] rfl
              have hDc := hD.sub (ws' := [c_P q0 q1 r, c_B q1 q2 q3 k, c_A q2 cM 1024 M, c_A q3 cD 256 D]) [0, 1, 2, 3] (by decide) rfl
              have hKc := hK.sub (tys' := [(cM, .int), (cD, .int)]) [0, 1] rfl
              have hFc := va_free (wc := [c_P q0 q1 r, c_B q1 q2 q3 k, c_A q2 cM 1024 M, c_A q3 cD 256 D]) hD hS hA [0, 1, 2, 3] rfl
              refine va_callv (va_runV (As := []) (rest := []) ⟨hx, hb, hml, hown, htB⟩ (c_P_comeBack l dC dI z0 q0 q1 q2 q3 cM cD H.size r k M D) (cwV 0 htB (gd_V mw_366 mw_368 sw_P_comeBack mw_2 mw_369) rfl rfl rfl (by decide +kernel) ⟨Nat.le_of_ble_eq_true rfl, Nat.le_of_ble_eq_true rfl⟩) (pcx_V (va_recv hKc hPc (ci := 1) (q0 := 0) rfl rfl) hPc hKc hDc hA0 hE hS) rfl rfl hl.1 rfl (lv_room (Nat.le_of_ble_eq_true rfl)) d_P_executeAlone_158 ⟨Nat.zero_le _, Nat.zero_le _⟩) hS (fun q _ h => hFc q h) hFc (fun u t H1 locs ht hvm hw hB hz1 hk1 hS => ?_)
              obtain ⟨hP1, hK1, hD1⟩ := hB
              rw [ht] at hP1
              obtain ⟨hP, hD⟩ := va_join (wr := []) (w1 := [c_P q0 q1 ((f_P_comeBack r k M D).1), c_B q1 q2 q3 ((f_P_comeBack r k M D).2), c_A q2 cM 1024 M, c_A q3 cD 256 D]) hP hD [0, 1, 2, 3] [] rfl rfl (by decide) (by decide) hk1 hFc hP1 hD1
              generalize H1 = H at hP hS ⊢
              have hP : va_P (dC, dI) classes [c_P q0 q1 ((f_P_comeBack r k M D).1), c_B q1 q2 q3 ((f_P_comeBack r k M D).2), c_A q2 cM 1024 M, c_A q3 cD 256 D] H := hP.sub [0, 1, 2, 3] rfl
              have hD : va_D A [c_P q0 q1 ((f_P_comeBack r k M D).1), c_B q1 q2 q3 ((f_P_comeBack r k M D).2), c_A q2 cM 1024 M, c_A q3 cD 256 D] := hD.sub [0, 1, 2, 3] (by decide) rfl
              refine lv_goto (tgt := 277) hx hb d_P_executeAlone_161 (by decide) ?_
              have hf : f_P_executeAlone p1 r k M D = ((f_P_comeBack r k M D).1, (f_P_comeBack r k M D).2, M, D) := by rw [f_P_executeAlone, if_neg c_1, if_neg c_2, if_neg c_3, if_neg c_4, if_neg c_5, if_pos c_6]
              exact W.vret hx hb hr (fun t ht hW => ⟨⟨(), rfl, trivial, by rw [hf]; exact ⟨by rw [ht]; exact hP, va_K.moved hW.alike hK, hD⟩⟩, hS.F ht⟩) hS.2.2 d_P_executeAlone_277
            · by_cases c_7 : p1 = (104 : Int32)
              · refine lv_lookup (off := 163) (tgt := 164) hx hb d_P_executeAlone_1 (by decide) (by rw [c_7]; first | done | rfl) (by decide) ?_
                refine lv_aload_n hx hb d_P_executeAlone_164 rfl (lv_at hl 0 rfl) ?_
                refine lv_aload_n hx hb d_P_executeAlone_165 rfl (lv_at hl 0 rfl) ?_
                refine lv_aload_n hx hb d_P_executeAlone_166 rfl (lv_at hl 0 rfl) ?_
                have hPc := hP.sub (ws' := [c_P q0 q1 r, c_B q1 q2 q3 k, c_A q2 cM 1024 M, c_A q3 cD 256 D]) [0, 1, 2, 3] rfl
                have hDc := hD.sub (ws' := [c_P q0 q1 r, c_B q1 q2 q3 k, c_A q2 cM 1024 M, c_A q3 cD 256 D]) [0, 1, 2, 3] (by decide) rfl
                have hKc := hK.sub (tys' := [(cM, .int), (cD, .int)]) [0, 1] rfl
                have hFc := va_free (wc := [c_P q0 q1 r, c_B q1 q2 q3 k, c_A q2 cM 1024 M, c_A q3 cD 256 D]) hD hS hA [0, 1, 2, 3] rfl
                refine va_calli (va_runV (As := []) (rest := [.ref q0, .ref q0]) ⟨hx, hb, hml, hown, htB⟩ (c_P_pull l dC dI z0 q0 q1 q2 q3 cM cD H.size r k M D) (cwV 0 htB (gd_V mw_362 mw_364 sw_P_pull mw_2 mw_365) rfl rfl rfl (by decide +kernel) ⟨Nat.le_of_ble_eq_true rfl, Nat.le_of_ble_eq_true rfl⟩) (pcx_V (va_recv hKc hPc (ci := 1) (q0 := 0) rfl rfl) hPc hKc hDc hA0 hE hS) rfl rfl hl.1 rfl (lv_room (Nat.le_of_ble_eq_true rfl)) d_P_executeAlone_167 ⟨Nat.zero_le _, Nat.zero_le _⟩) hS (fun q _ h => hFc q h) hFc (fun r9 u t H1 locs ht hvm hw hB hz1 hk1 hS => ?_)
                subst hw
                obtain ⟨hP1, hK1, hD1⟩ := hB
                rw [ht] at hP1
                obtain ⟨hP, hD⟩ := va_join (wr := []) (w1 := [c_P q0 q1 ((f_P_pull r k M D).2.1), c_B q1 q2 q3 ((f_P_pull r k M D).2.2), c_A q2 cM 1024 M, c_A q3 cD 256 D]) hP hD [0, 1, 2, 3] [] rfl rfl (by decide) (by decide) hk1 hFc hP1 hD1
                generalize H1 = H at hP hS ⊢
                have hP : va_P (dC, dI) classes [c_P q0 q1 ((f_P_pull r k M D).2.1), c_B q1 q2 q3 ((f_P_pull r k M D).2.2), c_A q2 cM 1024 M, c_A q3 cD 256 D] H := hP.sub [0, 1, 2, 3] rfl
                have hD : va_D A [c_P q0 q1 ((f_P_pull r k M D).2.1), c_B q1 q2 q3 ((f_P_pull r k M D).2.2), c_A q2 cM 1024 M, c_A q3 cD 256 D] := hD.sub [0, 1, 2, 3] (by decide) rfl
                have hPc := hP.sub (ws' := [c_P q0 q1 ((f_P_pull r k M D).2.1)]) [0] rfl
                have hDc := hD.sub (ws' := [c_P q0 q1 ((f_P_pull r k M D).2.1)]) [0] (by decide) rfl
                have hKc := hK.sub (tys' := []) [] rfl
                have hFc := va_free (wc := [c_P q0 q1 ((f_P_pull r k M D).2.1)]) hD hS hA [0] rfl
                refine va_calli (va_runV (As := [.int ((f_P_pull r k M D).1)]) (rest := [.ref q0]) ⟨hx, hb, hml, hown, htB⟩ (c_P_set l dC dI z0 q0 q1 H.size ((f_P_pull r k M D).1) ((f_P_pull r k M D).2.1)) (cwV 1 htB (gd_V mw_322 mw_324 sw_P_set mw_2 mw_325) rfl rfl rfl (by decide +kernel) ⟨Nat.le_of_ble_eq_true rfl, Nat.le_of_ble_eq_true rfl⟩) (pcx_V (va_recv hKc hPc (ci := 1) (q0 := 0) rfl rfl) hPc hKc hDc hA0 hE hS) rfl rfl hl.1 rfl (lv_room (Nat.le_of_ble_eq_true rfl)) d_P_executeAlone_170 ⟨Nat.zero_le _, Nat.zero_le _⟩) hS (fun q _ h => hFc q h) hFc (fun r9 u t H1 locs ht hvm hw hB hz1 hk1 hS => ?_)
                subst hw
                obtain ⟨hP1, hK1, hD1⟩ := hB
                rw [ht] at hP1
                obtain ⟨hP, hD⟩ := va_join (wr := [c_B q1 q2 q3 ((f_P_pull r k M D).2.2), c_A q2 cM 1024 M, c_A q3 cD 256 D]) (w1 := [c_P q0 q1 ((f_P_set ((f_P_pull r k M D).1) ((f_P_pull r k M D).2.1)).2)]) hP hD [0] [1, 2, 3] rfl rfl (by decide) (by decide) hk1 hFc hP1 hD1
                generalize H1 = H at hP hS ⊢
                have hP : va_P (dC, dI) classes [c_P q0 q1 ((f_P_set ((f_P_pull r k M D).1) ((f_P_pull r k M D).2.1)).2), c_B q1 q2 q3 ((f_P_pull r k M D).2.2), c_A q2 cM 1024 M, c_A q3 cD 256 D] H := hP.sub [3, 0, 1, 2] rfl
                have hD : va_D A [c_P q0 q1 ((f_P_set ((f_P_pull r k M D).1) ((f_P_pull r k M D).2.1)).2), c_B q1 q2 q3 ((f_P_pull r k M D).2.2), c_A q2 cM 1024 M, c_A q3 cD 256 D] := hD.sub [3, 0, 1, 2] (by decide) rfl
                refine va_put (D := (dC, dI)) (ci := 1) (v := .int ((f_P_set ((f_P_pull r k M D).1) ((f_P_pull r k M D).2.1)).1)) (ty := .int) (C := R_P) (T := F_P) (N := 13) hx hb htB i_P t_P t_P_ok n_P hown hK hP hD hS 0 rfl rfl 1 (by decide) (htB _ mw_59) (fun _ h9 => h9) rfl (by decide +kernel) rfl rfl (Nat.le_of_ble_eq_true rfl) d_P_executeAlone_173 (fun H locs hP hD hS => ?_)
                have hP : va_P (dC, dI) classes [c_P q0 q1 (upd ((f_P_set ((f_P_pull r k M D).1) ((f_P_pull r k M D).2.1)).2) 0 ((f_P_set ((f_P_pull r k M D).1) ((f_P_pull r k M D).2.1)).1)), c_B q1 q2 q3 ((f_P_pull r k M D).2.2), c_A q2 cM 1024 M, c_A q3 cD 256 D] H := hP
                have hD : va_D A [c_P q0 q1 (upd ((f_P_set ((f_P_pull r k M D).1) ((f_P_pull r k M D).2.1)).2) 0 ((f_P_set ((f_P_pull r k M D).1) ((f_P_pull r k M D).2.1)).1)), c_B q1 q2 q3 ((f_P_pull r k M D).2.2), c_A q2 cM 1024 M, c_A q3 cD 256 D] := hD
                refine lv_goto (tgt := 277) hx hb d_P_executeAlone_176 (by decide) ?_
                have hf : f_P_executeAlone p1 r k M D = ((upd ((f_P_set ((f_P_pull r k M D).1) ((f_P_pull r k M D).2.1)).2) 0 ((f_P_set ((f_P_pull r k M D).1) ((f_P_pull r k M D).2.1)).1)), (f_P_pull r k M D).2.2, M, D) := by rw [f_P_executeAlone, if_neg c_1, if_neg c_2, if_neg c_3, if_neg c_4, if_neg c_5, if_neg c_6, if_pos c_7]
                exact W.vret hx hb hr (fun t ht hW => ⟨⟨(), rfl, trivial, by rw [hf]; exact ⟨by rw [ht]; exact hP, va_K.moved hW.alike hK, hD⟩⟩, hS.F ht⟩) hS.2.2 d_P_executeAlone_277
              · by_cases c_8 : p1 = (136 : Int32)
                · refine lv_lookup (off := 178) (tgt := 179) hx hb d_P_executeAlone_1 (by decide) (by rw [c_8]; first | done | rfl) (by decide) ?_
                  refine lv_aload_n hx hb d_P_executeAlone_179 rfl (lv_at hl 0 rfl) ?_
                  refine lv_aload_n hx hb d_P_executeAlone_180 rfl (lv_at hl 0 rfl) ?_
                  refine lv_aload_n hx hb d_P_executeAlone_181 rfl (lv_at hl 0 rfl) ?_
                  refine va_get (D := (dC, dI)) (ci := 1) (v := .int (r 2)) (C := R_P) (T := F_P) (N := 13) hx hb htB i_P hown hK hP 0 rfl rfl 3 (by decide) (htB _ mw_61) (fun _ h9 => h9) rfl d_P_executeAlone_182 ?_
                  refine lv_iconst (v := 1) hx hb d_P_executeAlone_185 (by decide) ?_
                  refine lv_isub hx hb d_P_executeAlone_186 ?_
                  refine lv_sipush (v := 255) hx hb d_P_executeAlone_187 (by decide) ?_
                  refine lv_iand hx hb d_P_executeAlone_190 ?_
                  have hPc := hP.sub (ws' := [c_P q0 q1 r]) [0] rfl
                  have hDc := hD.sub (ws' := [c_P q0 q1 r]) [0] (by decide) rfl
                  have hKc := hK.sub (tys' := []) [] rfl
                  have hFc := va_free (wc := [c_P q0 q1 r]) hD hS hA [0] rfl
                  refine va_calli (va_runV (As := [.int (((r 2) - (1 : Int32)) &&& (255 : Int32))]) (rest := [.ref q0]) ⟨hx, hb, hml, hown, htB⟩ (c_P_set l dC dI z0 q0 q1 H.size (((r 2) - (1 : Int32)) &&& (255 : Int32)) r) (cwV 1 htB (gd_V mw_322 mw_324 sw_P_set mw_2 mw_325) rfl rfl rfl (by decide +kernel) ⟨Nat.le_of_ble_eq_true rfl, Nat.le_of_ble_eq_true rfl⟩) (pcx_V (va_recv hKc hPc (ci := 1) (q0 := 0) rfl rfl) hPc hKc hDc hA0 hE hS) rfl rfl hl.1 rfl (lv_room (Nat.le_of_ble_eq_true rfl)) d_P_executeAlone_191 ⟨Nat.zero_le _, Nat.zero_le _⟩) hS (fun q _ h => hFc q h) hFc (fun r9 u t H1 locs ht hvm hw hB hz1 hk1 hS => ?_)
                  subst hw
                  obtain ⟨hP1, hK1, hD1⟩ := hB
                  rw [ht] at hP1
                  obtain ⟨hP, hD⟩ := va_join (wr := [c_B q1 q2 q3 k, c_A q2 cM 1024 M, c_A q3 cD 256 D]) (w1 := [c_P q0 q1 ((f_P_set (((r 2) - (1 : Int32)) &&& (255 : Int32)) r).2)]) hP hD [0] [1, 2, 3] rfl rfl (by decide) (by decide) hk1 hFc hP1 hD1
                  generalize H1 = H at hP hS ⊢
                  have hP : va_P (dC, dI) classes [c_P q0 q1 ((f_P_set (((r 2) - (1 : Int32)) &&& (255 : Int32)) r).2), c_B q1 q2 q3 k, c_A q2 cM 1024 M, c_A q3 cD 256 D] H := hP.sub [3, 0, 1, 2] rfl
                  have hD : va_D A [c_P q0 q1 ((f_P_set (((r 2) - (1 : Int32)) &&& (255 : Int32)) r).2), c_B q1 q2 q3 k, c_A q2 cM 1024 M, c_A q3 cD 256 D] := hD.sub [3, 0, 1, 2] (by decide) rfl
                  refine va_put (D := (dC, dI)) (ci := 1) (v := .int ((f_P_set (((r 2) - (1 : Int32)) &&& (255 : Int32)) r).1)) (ty := .int) (C := R_P) (T := F_P) (N := 13) hx hb htB i_P t_P t_P_ok n_P hown hK hP hD hS 0 rfl rfl 3 (by decide) (htB _ mw_61) (fun _ h9 => h9) rfl (by decide +kernel) rfl rfl (Nat.le_of_ble_eq_true rfl) d_P_executeAlone_194 (fun H locs hP hD hS => ?_)
                  have hP : va_P (dC, dI) classes [c_P q0 q1 (upd ((f_P_set (((r 2) - (1 : Int32)) &&& (255 : Int32)) r).2) 2 ((f_P_set (((r 2) - (1 : Int32)) &&& (255 : Int32)) r).1)), c_B q1 q2 q3 k, c_A q2 cM 1024 M, c_A q3 cD 256 D] H := hP
                  have hD : va_D A [c_P q0 q1 (upd ((f_P_set (((r 2) - (1 : Int32)) &&& (255 : Int32)) r).2) 2 ((f_P_set (((r 2) - (1 : Int32)) &&& (255 : Int32)) r).1)), c_B q1 q2 q3 k, c_A q2 cM 1024 M, c_A q3 cD 256 D] := hD
                  refine lv_goto (tgt := 277) hx hb d_P_executeAlone_197 (by decide) ?_
                  have hf : f_P_executeAlone p1 r k M D = ((upd ((f_P_set (((r 2) - (1 : Int32)) &&& (255 : Int32)) r).2) 2 ((f_P_set (((r 2) - (1 : Int32)) &&& (255 : Int32)) r).1)), k, M, D) := by rw [f_P_executeAlone, if_neg c_1, if_neg c_2, if_neg c_3, if_neg c_4, if_neg c_5, if_neg c_6, if_neg c_7, if_pos c_8]
                  exact W.vret hx hb hr (fun t ht hW => ⟨⟨(), rfl, trivial, by rw [hf]; exact ⟨by rw [ht]; exact hP, va_K.moved hW.alike hK, hD⟩⟩, hS.F ht⟩) hS.2.2 d_P_executeAlone_277
                · by_cases c_9 : p1 = (152 : Int32)
                  · refine lv_lookup (off := 199) (tgt := 200) hx hb d_P_executeAlone_1 (by decide) (by rw [c_9]; first | done | rfl) (by decide) ?_
                    refine lv_aload_n hx hb d_P_executeAlone_200 rfl (lv_at hl 0 rfl) ?_
                    refine lv_aload_n hx hb d_P_executeAlone_201 rfl (lv_at hl 0 rfl) ?_
                    refine lv_aload_n hx hb d_P_executeAlone_202 rfl (lv_at hl 0 rfl) ?_
                    refine va_get (D := (dC, dI)) (ci := 1) (v := .int (r 2)) (C := R_P) (T := F_P) (N := 13) hx hb htB i_P hown hK hP 0 rfl rfl 3 (by decide) (htB _ mw_61) (fun _ h9 => h9) rfl d_P_executeAlone_203 ?_
                    have hPc := hP.sub (ws' := [c_P q0 q1 r]) [0] rfl
                    have hDc := hD.sub (ws' := [c_P q0 q1 r]) [0] (by decide) rfl
                    have hKc := hK.sub (tys' := []) [] rfl
                    have hFc := va_free (wc := [c_P q0 q1 r]) hD hS hA [0] rfl
                    refine va_calli (va_runV (As := [.int (r 2)]) (rest := [.ref q0]) ⟨hx, hb, hml, hown, htB⟩ (c_P_set l dC dI z0 q0 q1 H.size (r 2) r) (cwV 1 htB (gd_V mw_322 mw_324 sw_P_set mw_2 mw_325) rfl rfl rfl (by decide +kernel) ⟨Nat.le_of_ble_eq_true rfl, Nat.le_of_ble_eq_true rfl⟩) (pcx_V (va_recv hKc hPc (ci := 1) (q0 := 0) rfl rfl) hPc hKc hDc hA0 hE hS) rfl rfl hl.1 rfl (lv_room (Nat.le_of_ble_eq_true rfl)) d_P_executeAlone_206 ⟨Nat.zero_le _, Nat.zero_le _⟩) hS (fun q _ h => hFc q h) hFc (fun r9 u t H1 locs ht hvm hw hB hz1 hk1 hS => ?_)
                    subst hw
                    obtain ⟨hP1, hK1, hD1⟩ := hB
                    rw [ht] at hP1
                    obtain ⟨hP, hD⟩ := va_join (wr := [c_B q1 q2 q3 k, c_A q2 cM 1024 M, c_A q3 cD 256 D]) (w1 := [c_P q0 q1 ((f_P_set (r 2) r).2)]) hP hD [0] [1, 2, 3] rfl rfl (by decide) (by decide) hk1 hFc hP1 hD1
                    generalize H1 = H at hP hS ⊢
                    have hP : va_P (dC, dI) classes [c_P q0 q1 ((f_P_set (r 2) r).2), c_B q1 q2 q3 k, c_A q2 cM 1024 M, c_A q3 cD 256 D] H := hP.sub [3, 0, 1, 2] rfl
                    have hD : va_D A [c_P q0 q1 ((f_P_set (r 2) r).2), c_B q1 q2 q3 k, c_A q2 cM 1024 M, c_A q3 cD 256 D] := hD.sub [3, 0, 1, 2] (by decide) rfl
                    refine va_put (D := (dC, dI)) (ci := 1) (v := .int ((f_P_set (r 2) r).1)) (ty := .int) (C := R_P) (T := F_P) (N := 13) hx hb htB i_P t_P t_P_ok n_P hown hK hP hD hS 0 rfl rfl 1 (by decide) (htB _ mw_59) (fun _ h9 => h9) rfl (by decide +kernel) rfl rfl (Nat.le_of_ble_eq_true rfl) d_P_executeAlone_209 (fun H locs hP hD hS => ?_)
                    have hP : va_P (dC, dI) classes [c_P q0 q1 (upd ((f_P_set (r 2) r).2) 0 ((f_P_set (r 2) r).1)), c_B q1 q2 q3 k, c_A q2 cM 1024 M, c_A q3 cD 256 D] H := hP
                    have hD : va_D A [c_P q0 q1 (upd ((f_P_set (r 2) r).2) 0 ((f_P_set (r 2) r).1)), c_B q1 q2 q3 k, c_A q2 cM 1024 M, c_A q3 cD 256 D] := hD
                    refine lv_goto (tgt := 277) hx hb d_P_executeAlone_212 (by decide) ?_
                    have hf : f_P_executeAlone p1 r k M D = ((upd ((f_P_set (r 2) r).2) 0 ((f_P_set (r 2) r).1)), k, M, D) := by rw [f_P_executeAlone, if_neg c_1, if_neg c_2, if_neg c_3, if_neg c_4, if_neg c_5, if_neg c_6, if_neg c_7, if_neg c_8, if_pos c_9]
                    exact W.vret hx hb hr (fun t ht hW => ⟨⟨(), rfl, trivial, by rw [hf]; exact ⟨by rw [ht]; exact hP, va_K.moved hW.alike hK, hD⟩⟩, hS.F ht⟩) hS.2.2 d_P_executeAlone_277
                  · by_cases c_10 : p1 = (168 : Int32)
                    · refine lv_lookup (off := 214) (tgt := 215) hx hb d_P_executeAlone_1 (by decide) (by rw [c_10]; first | done | rfl) (by decide) ?_
                      refine lv_aload_n hx hb d_P_executeAlone_215 rfl (lv_at hl 0 rfl) ?_
                      refine lv_aload_n hx hb d_P_executeAlone_216 rfl (lv_at hl 0 rfl) ?_
                      refine lv_aload_n hx hb d_P_executeAlone_217 rfl (lv_at hl 0 rfl) ?_
                      refine va_get (D := (dC, dI)) (ci := 1) (v := .int (r 0)) (C := R_P) (T := F_P) (N := 13) hx hb htB i_P hown hK hP 0 rfl rfl 1 (by decide) (htB _ mw_59) (fun _ h9 => h9) rfl d_P_executeAlone_218 ?_
                      have hPc := hP.sub (ws' := [c_P q0 q1 r]) [0] rfl
                      have hDc := hD.sub (ws' := [c_P q0 q1 r]) [0] (by decide) rfl
                      have hKc := hK.sub (tys' := []) [] rfl
                      have hFc := va_free (wc := [c_P q0 q1 r]) hD hS hA [0] rfl
                      refine va_calli (va_runV (As := [.int (r 0)]) (rest := [.ref q0]) ⟨hx, hb, hml, hown, htB⟩ (c_P_set l dC dI z0 q0 q1 H.size (r 0) r) (cwV 1 htB (gd_V mw_322 mw_324 sw_P_set mw_2 mw_325) rfl rfl rfl (by decide +kernel) ⟨Nat.le_of_ble_eq_true rfl, Nat.le_of_ble_eq_true rfl⟩) (pcx_V (va_recv hKc hPc (ci := 1) (q0 := 0) rfl rfl) hPc hKc hDc hA0 hE hS) rfl rfl hl.1 rfl (lv_room (Nat.le_of_ble_eq_true rfl)) d_P_executeAlone_221 ⟨Nat.zero_le _, Nat.zero_le _⟩) hS (fun q _ h => hFc q h) hFc (fun r9 u t H1 locs ht hvm hw hB hz1 hk1 hS => ?_)
                      subst hw
                      obtain ⟨hP1, hK1, hD1⟩ := hB
                      rw [ht] at hP1
                      obtain ⟨hP, hD⟩ := va_join (wr := [c_B q1 q2 q3 k, c_A q2 cM 1024 M, c_A q3 cD 256 D]) (w1 := [c_P q0 q1 ((f_P_set (r 0) r).2)]) hP hD [0] [1, 2, 3] rfl rfl (by decide) (by decide) hk1 hFc hP1 hD1
                      generalize H1 = H at hP hS ⊢
                      have hP : va_P (dC, dI) classes [c_P q0 q1 ((f_P_set (r 0) r).2), c_B q1 q2 q3 k, c_A q2 cM 1024 M, c_A q3 cD 256 D] H := hP.sub [3, 0, 1, 2] rfl
                      have hD : va_D A [c_P q0 q1 ((f_P_set (r 0) r).2), c_B q1 q2 q3 k, c_A q2 cM 1024 M, c_A q3 cD 256 D] := hD.sub [3, 0, 1, 2] (by decide) rfl
                      refine va_put (D := (dC, dI)) (ci := 1) (v := .int ((f_P_set (r 0) r).1)) (ty := .int) (C := R_P) (T := F_P) (N := 13) hx hb htB i_P t_P t_P_ok n_P hown hK hP hD hS 0 rfl rfl 3 (by decide) (htB _ mw_61) (fun _ h9 => h9) rfl (by decide +kernel) rfl rfl (Nat.le_of_ble_eq_true rfl) d_P_executeAlone_224 (fun H locs hP hD hS => ?_)
                      have hP : va_P (dC, dI) classes [c_P q0 q1 (upd ((f_P_set (r 0) r).2) 2 ((f_P_set (r 0) r).1)), c_B q1 q2 q3 k, c_A q2 cM 1024 M, c_A q3 cD 256 D] H := hP
                      have hD : va_D A [c_P q0 q1 (upd ((f_P_set (r 0) r).2) 2 ((f_P_set (r 0) r).1)), c_B q1 q2 q3 k, c_A q2 cM 1024 M, c_A q3 cD 256 D] := hD
                      refine lv_goto (tgt := 277) hx hb d_P_executeAlone_227 (by decide) ?_
                      have hf : f_P_executeAlone p1 r k M D = ((upd ((f_P_set (r 0) r).2) 2 ((f_P_set (r 0) r).1)), k, M, D) := by rw [f_P_executeAlone, if_neg c_1, if_neg c_2, if_neg c_3, if_neg c_4, if_neg c_5, if_neg c_6, if_neg c_7, if_neg c_8, if_neg c_9, if_pos c_10]
                      exact W.vret hx hb hr (fun t ht hW => ⟨⟨(), rfl, trivial, by rw [hf]; exact ⟨by rw [ht]; exact hP, va_K.moved hW.alike hK, hD⟩⟩, hS.F ht⟩) hS.2.2 d_P_executeAlone_277
                    · by_cases c_11 : p1 = (184 : Int32)
                      · refine lv_lookup (off := 229) (tgt := 230) hx hb d_P_executeAlone_1 (by decide) (by rw [c_11]; first | done | rfl) (by decide) ?_
                        refine lv_aload_n hx hb d_P_executeAlone_230 rfl (lv_at hl 0 rfl) ?_
                        refine lv_iconst (v := 0) hx hb d_P_executeAlone_231 (by decide) ?_
                        refine va_put (D := (dC, dI)) (ci := 1) (v := .int (0 : Int32)) (ty := .int) (C := R_P) (T := F_P) (N := 13) hx hb htB i_P t_P t_P_ok n_P hown hK hP hD hS 0 rfl rfl 7 (by decide) (htB _ mw_66) (fun _ h9 => h9) rfl (by decide +kernel) rfl rfl (Nat.le_of_ble_eq_true rfl) d_P_executeAlone_232 (fun H locs hP hD hS => ?_)
                        have hP : va_P (dC, dI) classes [c_P q0 q1 (upd r 6 (0 : Int32)), c_B q1 q2 q3 k, c_A q2 cM 1024 M, c_A q3 cD 256 D] H := hP
                        have hD : va_D A [c_P q0 q1 (upd r 6 (0 : Int32)), c_B q1 q2 q3 k, c_A q2 cM 1024 M, c_A q3 cD 256 D] := hD
                        refine lv_goto (tgt := 277) hx hb d_P_executeAlone_235 (by decide) ?_
                        have hf : f_P_executeAlone p1 r k M D = ((upd r 6 (0 : Int32)), k, M, D) := by rw [f_P_executeAlone, if_neg c_1, if_neg c_2, if_neg c_3, if_neg c_4, if_neg c_5, if_neg c_6, if_neg c_7, if_neg c_8, if_neg c_9, if_neg c_10, if_pos c_11]
                        exact W.vret hx hb hr (fun t ht hW => ⟨⟨(), rfl, trivial, by rw [hf]; exact ⟨by rw [ht]; exact hP, va_K.moved hW.alike hK, hD⟩⟩, hS.F ht⟩) hS.2.2 d_P_executeAlone_277
                      · by_cases c_12 : p1 = (200 : Int32)
                        · refine lv_lookup (off := 237) (tgt := 238) hx hb d_P_executeAlone_1 (by decide) (by rw [c_12]; first | done | rfl) (by decide) ?_
                          refine lv_aload_n hx hb d_P_executeAlone_238 rfl (lv_at hl 0 rfl) ?_
                          refine lv_aload_n hx hb d_P_executeAlone_239 rfl (lv_at hl 0 rfl) ?_
                          refine lv_aload_n hx hb d_P_executeAlone_240 rfl (lv_at hl 0 rfl) ?_
                          refine va_get (D := (dC, dI)) (ci := 1) (v := .int (r 2)) (C := R_P) (T := F_P) (N := 13) hx hb htB i_P hown hK hP 0 rfl rfl 3 (by decide) (htB _ mw_61) (fun _ h9 => h9) rfl d_P_executeAlone_241 ?_
                          refine lv_iconst (v := 1) hx hb d_P_executeAlone_244 (by decide) ?_
                          refine lv_iadd hx hb d_P_executeAlone_245 ?_
                          refine lv_sipush (v := 255) hx hb d_P_executeAlone_246 (by decide) ?_
                          refine lv_iand hx hb d_P_executeAlone_249 ?_
                          have hPc := hP.sub (ws' := [c_P q0 q1 r]) [0] rfl
                          have hDc := hD.sub (ws' := [c_P q0 q1 r]) [0] (by decide) rfl
                          have hKc := hK.sub (tys' := []) [] rfl
                          have hFc := va_free (wc := [c_P q0 q1 r]) hD hS hA [0] rfl
                          refine va_calli (va_runV (As := [.int (((r 2) + (1 : Int32)) &&& (255 : Int32))]) (rest := [.ref q0]) ⟨hx, hb, hml, hown, htB⟩ (c_P_set l dC dI z0 q0 q1 H.size (((r 2) + (1 : Int32)) &&& (255 : Int32)) r) (cwV 1 htB (gd_V mw_322 mw_324 sw_P_set mw_2 mw_325) rfl rfl rfl (by decide +kernel) ⟨Nat.le_of_ble_eq_true rfl, Nat.le_of_ble_eq_true rfl⟩) (pcx_V (va_recv hKc hPc (ci := 1) (q0 := 0) rfl rfl) hPc hKc hDc hA0 hE hS) rfl rfl hl.1 rfl (lv_room (Nat.le_of_ble_eq_true rfl)) d_P_executeAlone_250 ⟨Nat.zero_le _, Nat.zero_le _⟩) hS (fun q _ h => hFc q h) hFc (fun r9 u t H1 locs ht hvm hw hB hz1 hk1 hS => ?_)
                          subst hw
                          obtain ⟨hP1, hK1, hD1⟩ := hB
                          rw [ht] at hP1
                          obtain ⟨hP, hD⟩ := va_join (wr := [c_B q1 q2 q3 k, c_A q2 cM 1024 M, c_A q3 cD 256 D]) (w1 := [c_P q0 q1 ((f_P_set (((r 2) + (1 : Int32)) &&& (255 : Int32)) r).2)]) hP hD [0] [1, 2, 3] rfl rfl (by decide) (by decide) hk1 hFc hP1 hD1
                          generalize H1 = H at hP hS ⊢
                          have hP : va_P (dC, dI) classes [c_P q0 q1 ((f_P_set (((r 2) + (1 : Int32)) &&& (255 : Int32)) r).2), c_B q1 q2 q3 k, c_A q2 cM 1024 M, c_A q3 cD 256 D] H := hP.sub [3, 0, 1, 2] rfl
                          have hD : va_D A [c_P q0 q1 ((f_P_set (((r 2) + (1 : Int32)) &&& (255 : Int32)) r).2), c_B q1 q2 q3 k, c_A q2 cM 1024 M, c_A q3 cD 256 D] := hD.sub [3, 0, 1, 2] (by decide) rfl
                          refine va_put (D := (dC, dI)) (ci := 1) (v := .int ((f_P_set (((r 2) + (1 : Int32)) &&& (255 : Int32)) r).1)) (ty := .int) (C := R_P) (T := F_P) (N := 13) hx hb htB i_P t_P t_P_ok n_P hown hK hP hD hS 0 rfl rfl 3 (by decide) (htB _ mw_61) (fun _ h9 => h9) rfl (by decide +kernel) rfl rfl (Nat.le_of_ble_eq_true rfl) d_P_executeAlone_253 (fun H locs hP hD hS => ?_)
                          have hP : va_P (dC, dI) classes [c_P q0 q1 (upd ((f_P_set (((r 2) + (1 : Int32)) &&& (255 : Int32)) r).2) 2 ((f_P_set (((r 2) + (1 : Int32)) &&& (255 : Int32)) r).1)), c_B q1 q2 q3 k, c_A q2 cM 1024 M, c_A q3 cD 256 D] H := hP
                          have hD : va_D A [c_P q0 q1 (upd ((f_P_set (((r 2) + (1 : Int32)) &&& (255 : Int32)) r).2) 2 ((f_P_set (((r 2) + (1 : Int32)) &&& (255 : Int32)) r).1)), c_B q1 q2 q3 k, c_A q2 cM 1024 M, c_A q3 cD 256 D] := hD
                          refine lv_goto (tgt := 277) hx hb d_P_executeAlone_256 (by decide) ?_
                          have hf : f_P_executeAlone p1 r k M D = ((upd ((f_P_set (((r 2) + (1 : Int32)) &&& (255 : Int32)) r).2) 2 ((f_P_set (((r 2) + (1 : Int32)) &&& (255 : Int32)) r).1)), k, M, D) := by rw [f_P_executeAlone, if_neg c_1, if_neg c_2, if_neg c_3, if_neg c_4, if_neg c_5, if_neg c_6, if_neg c_7, if_neg c_8, if_neg c_9, if_neg c_10, if_neg c_11, if_pos c_12]
                          exact W.vret hx hb hr (fun t ht hW => ⟨⟨(), rfl, trivial, by rw [hf]; exact ⟨by rw [ht]; exact hP, va_K.moved hW.alike hK, hD⟩⟩, hS.F ht⟩) hS.2.2 d_P_executeAlone_277
                        · refine lv_lookup (off := 258) (tgt := 259) hx hb d_P_executeAlone_1 (by decide) (by simp only [lv_osw c_1 (show (8 : Int32).toInt = 8 from by decide), lv_osw c_2 (show (24 : Int32).toInt = 24 from by decide), lv_osw c_3 (show (40 : Int32).toInt = 40 from by decide), lv_osw c_4 (show (56 : Int32).toInt = 56 from by decide), lv_osw c_5 (show (72 : Int32).toInt = 72 from by decide), lv_osw c_6 (show (96 : Int32).toInt = 96 from by decide), lv_osw c_7 (show (104 : Int32).toInt = 104 from by decide), lv_osw c_8 (show (136 : Int32).toInt = 136 from by decide), lv_osw c_9 (show (152 : Int32).toInt = 152 from by decide), lv_osw c_10 (show (168 : Int32).toInt = 168 from by decide), lv_osw c_11 (show (184 : Int32).toInt = 184 from by decide), lv_osw c_12 (show (200 : Int32).toInt = 200 from by decide)]; first | done | rfl) (by decide) ?_
                          refine lv_aload_n hx hb d_P_executeAlone_259 rfl (lv_at hl 0 rfl) ?_
                          refine lv_aload_n hx hb d_P_executeAlone_260 rfl (lv_at hl 0 rfl) ?_
                          refine lv_aload_n hx hb d_P_executeAlone_261 rfl (lv_at hl 0 rfl) ?_
                          refine va_get (D := (dC, dI)) (ci := 1) (v := .int (r 1)) (C := R_P) (T := F_P) (N := 13) hx hb htB i_P hown hK hP 0 rfl rfl 2 (by decide) (htB _ mw_60) (fun _ h9 => h9) rfl d_P_executeAlone_262 ?_
                          refine lv_iconst (v := 1) hx hb d_P_executeAlone_265 (by decide) ?_
                          refine lv_iadd hx hb d_P_executeAlone_266 ?_
                          refine lv_sipush (v := 255) hx hb d_P_executeAlone_267 (by decide) ?_
                          refine lv_iand hx hb d_P_executeAlone_270 ?_
                          have hPc := hP.sub (ws' := [c_P q0 q1 r]) [0] rfl
                          have hDc := hD.sub (ws' := [c_P q0 q1 r]) [0] (by decide) rfl
                          have hKc := hK.sub (tys' := []) [] rfl
                          have hFc := va_free (wc := [c_P q0 q1 r]) hD hS hA [0] rfl
                          refine va_calli (va_runV (As := [.int (((r 1) + (1 : Int32)) &&& (255 : Int32))]) (rest := [.ref q0]) ⟨hx, hb, hml, hown, htB⟩ (c_P_set l dC dI z0 q0 q1 H.size (((r 1) + (1 : Int32)) &&& (255 : Int32)) r) (cwV 1 htB (gd_V mw_322 mw_324 sw_P_set mw_2 mw_325) rfl rfl rfl (by decide +kernel) ⟨Nat.le_of_ble_eq_true rfl, Nat.le_of_ble_eq_true rfl⟩) (pcx_V (va_recv hKc hPc (ci := 1) (q0 := 0) rfl rfl) hPc hKc hDc hA0 hE hS) rfl rfl hl.1 rfl (lv_room (Nat.le_of_ble_eq_true rfl)) d_P_executeAlone_271 ⟨Nat.zero_le _, Nat.zero_le _⟩) hS (fun q _ h => hFc q h) hFc (fun r9 u t H1 locs ht hvm hw hB hz1 hk1 hS => ?_)
                          subst hw
                          obtain ⟨hP1, hK1, hD1⟩ := hB
                          rw [ht] at hP1
                          obtain ⟨hP, hD⟩ := va_join (wr := [c_B q1 q2 q3 k, c_A q2 cM 1024 M, c_A q3 cD 256 D]) (w1 := [c_P q0 q1 ((f_P_set (((r 1) + (1 : Int32)) &&& (255 : Int32)) r).2)]) hP hD [0] [1, 2, 3] rfl rfl (by decide) (by decide) hk1 hFc hP1 hD1
                          generalize H1 = H at hP hS ⊢
                          have hP : va_P (dC, dI) classes [c_P q0 q1 ((f_P_set (((r 1) + (1 : Int32)) &&& (255 : Int32)) r).2), c_B q1 q2 q3 k, c_A q2 cM 1024 M, c_A q3 cD 256 D] H := hP.sub [3, 0, 1, 2] rfl
                          have hD : va_D A [c_P q0 q1 ((f_P_set (((r 1) + (1 : Int32)) &&& (255 : Int32)) r).2), c_B q1 q2 q3 k, c_A q2 cM 1024 M, c_A q3 cD 256 D] := hD.sub [3, 0, 1, 2] (by decide) rfl
                          refine va_put (D := (dC, dI)) (ci := 1) (v := .int ((f_P_set (((r 1) + (1 : Int32)) &&& (255 : Int32)) r).1)) (ty := .int) (C := R_P) (T := F_P) (N := 13) hx hb htB i_P t_P t_P_ok n_P hown hK hP hD hS 0 rfl rfl 2 (by decide) (htB _ mw_60) (fun _ h9 => h9) rfl (by decide +kernel) rfl rfl (Nat.le_of_ble_eq_true rfl) d_P_executeAlone_274 (fun H locs hP hD hS => ?_)
                          have hP : va_P (dC, dI) classes [c_P q0 q1 (upd ((f_P_set (((r 1) + (1 : Int32)) &&& (255 : Int32)) r).2) 1 ((f_P_set (((r 1) + (1 : Int32)) &&& (255 : Int32)) r).1)), c_B q1 q2 q3 k, c_A q2 cM 1024 M, c_A q3 cD 256 D] H := hP
                          have hD : va_D A [c_P q0 q1 (upd ((f_P_set (((r 1) + (1 : Int32)) &&& (255 : Int32)) r).2) 1 ((f_P_set (((r 1) + (1 : Int32)) &&& (255 : Int32)) r).1)), c_B q1 q2 q3 k, c_A q2 cM 1024 M, c_A q3 cD 256 D] := hD
                          have hf : f_P_executeAlone p1 r k M D = ((upd ((f_P_set (((r 1) + (1 : Int32)) &&& (255 : Int32)) r).2) 1 ((f_P_set (((r 1) + (1 : Int32)) &&& (255 : Int32)) r).1)), k, M, D) := by rw [f_P_executeAlone, if_neg c_1, if_neg c_2, if_neg c_3, if_neg c_4, if_neg c_5, if_neg c_6, if_neg c_7, if_neg c_8, if_neg c_9, if_neg c_10, if_neg c_11, if_neg c_12]
                          exact W.vret hx hb hr (fun t ht hW => ⟨⟨(), rfl, trivial, by rw [hf]; exact ⟨by rw [ht]; exact hP, va_K.moved hW.alike hK, hD⟩⟩, hS.F ht⟩) hS.2.2 d_P_executeAlone_277

def f_P_jump (p1 : Int32) (r k M D : Nat → Int32) : (Nat → Int32) × (Nat → Int32) × (Nat → Int32) × (Nat → Int32) :=
  if p1 = (108 : Int32) then
    ((upd r 11 (f_P_address (((f_B_readByte (r 10) k M D).1) + ((256 : Int32) * ((f_B_readByte ((r 10) + (1 : Int32)) ((f_B_readByte (r 10) k M D).2) M D).1))))), (f_B_readByte ((r 10) + (1 : Int32)) ((f_B_readByte (r 10) k M D).2) M D).2, M, D)
  else
    if p1 = (32 : Int32) then
      ((upd ((f_P_push ((f_P_address ((r 4) + (2 : Int32))) - (f_P_address ((r 4) + (2 : Int32))) / (256 : Int32) * (256 : Int32)) ((f_P_push ((f_P_address ((r 4) + (2 : Int32))) / (256 : Int32)) r k M D).1) ((f_P_push ((f_P_address ((r 4) + (2 : Int32))) / (256 : Int32)) r k M D).2.1) ((f_P_push ((f_P_address ((r 4) + (2 : Int32))) / (256 : Int32)) r k M D).2.2.1) ((f_P_push ((f_P_address ((r 4) + (2 : Int32))) / (256 : Int32)) r k M D).2.2.2)).1) 11 (((f_P_push ((f_P_address ((r 4) + (2 : Int32))) - (f_P_address ((r 4) + (2 : Int32))) / (256 : Int32) * (256 : Int32)) ((f_P_push ((f_P_address ((r 4) + (2 : Int32))) / (256 : Int32)) r k M D).1) ((f_P_push ((f_P_address ((r 4) + (2 : Int32))) / (256 : Int32)) r k M D).2.1) ((f_P_push ((f_P_address ((r 4) + (2 : Int32))) / (256 : Int32)) r k M D).2.2.1) ((f_P_push ((f_P_address ((r 4) + (2 : Int32))) / (256 : Int32)) r k M D).2.2.2)).1) 10)), (f_P_push ((f_P_address ((r 4) + (2 : Int32))) - (f_P_address ((r 4) + (2 : Int32))) / (256 : Int32) * (256 : Int32)) ((f_P_push ((f_P_address ((r 4) + (2 : Int32))) / (256 : Int32)) r k M D).1) ((f_P_push ((f_P_address ((r 4) + (2 : Int32))) / (256 : Int32)) r k M D).2.1) ((f_P_push ((f_P_address ((r 4) + (2 : Int32))) / (256 : Int32)) r k M D).2.2.1) ((f_P_push ((f_P_address ((r 4) + (2 : Int32))) / (256 : Int32)) r k M D).2.2.2)).2.1, (f_P_push ((f_P_address ((r 4) + (2 : Int32))) - (f_P_address ((r 4) + (2 : Int32))) / (256 : Int32) * (256 : Int32)) ((f_P_push ((f_P_address ((r 4) + (2 : Int32))) / (256 : Int32)) r k M D).1) ((f_P_push ((f_P_address ((r 4) + (2 : Int32))) / (256 : Int32)) r k M D).2.1) ((f_P_push ((f_P_address ((r 4) + (2 : Int32))) / (256 : Int32)) r k M D).2.2.1) ((f_P_push ((f_P_address ((r 4) + (2 : Int32))) / (256 : Int32)) r k M D).2.2.2)).2.2.1, (f_P_push ((f_P_address ((r 4) + (2 : Int32))) - (f_P_address ((r 4) + (2 : Int32))) / (256 : Int32) * (256 : Int32)) ((f_P_push ((f_P_address ((r 4) + (2 : Int32))) / (256 : Int32)) r k M D).1) ((f_P_push ((f_P_address ((r 4) + (2 : Int32))) / (256 : Int32)) r k M D).2.1) ((f_P_push ((f_P_address ((r 4) + (2 : Int32))) / (256 : Int32)) r k M D).2.2.1) ((f_P_push ((f_P_address ((r 4) + (2 : Int32))) / (256 : Int32)) r k M D).2.2.2)).2.2.2)
    else
      ((upd r 11 (r 10)), k, M, D)
abbrev Q_P_jump (dC : Nat → ClassId) (dI : Nat → Nat → Nat) (q0 : Nat) (q1 : Nat) (q2 : Nat) (q3 : Nat) (cM : ClassId) (cD : ClassId) (p1 : Int32) (r k M D : Nat → Int32) (A : Nat → Prop) : Array Value → State → Outcome → State → Prop := va_Qv (fun (_ : Unit) => True) (fun _ t => atW (dC, dI) classes A [c_P q0 q1 ((f_P_jump p1 r k M D).1), c_B q1 q2 q3 ((f_P_jump p1 r k M D).2.1), c_A q2 cM 1024 ((f_P_jump p1 r k M D).2.2.1), c_A q3 cD 256 ((f_P_jump p1 r k M D).2.2.2)] [(cM, .int), (cD, .int)] t) A
set_option maxHeartbeats 4000000 in
set_option maxRecDepth 100000 in
theorem c_P_jump (l : Launch) (dC : Nat → ClassId) (dI : Nat → Nat → Nat) (z0 : Nat) (q0 : Nat) (q1 : Nat) (q2 : Nat) (q3 : Nat) (cM : ClassId) (cD : ClassId) (sz : Nat) (p1 : Int32) (r k M D : Nat → Int32) (hsn : sn_ok k) : Met l y_P_jump w_P_jump ({ frames := 4, cells := 0, slots := 0, locals := 106 }) (PcX (dC, dI) classes z0 [c_P q0 q1 r, c_B q1 q2 q3 k, c_A q2 cM 1024 M, c_A q3 cD 256 D] [(cM, .int), (cD, .int)] sz [.ref q0, .int p1]) (Q_P_jump dC dI q0 q1 q2 q3 cM cD p1 r k M D (va_A [c_P q0 q1 r, c_B q1 q2 q3 k, c_A q2 cM 1024 M, c_A q3 cD 256 D] sz)) 0 0 (va_A [c_P q0 q1 r, c_B q1 q2 q3 k, c_A q2 cM 1024 M, c_A q3 cD 256 D] sz) := by
  refine hdX (cc := b_P_jump) (maxL := 3) (ret := none) (C := R_P) (Qc := (Q_P_jump dC dI q0 q1 q2 q3 cM cD p1 r k M D)) (by decide) rfl ?_
  intro p e s m below meth c A H hx hb hr hlocks hml hown hin htB hP hK hD hA hA0 hE hS
  have hl := lv_entry ([.ref q0, .int p1]) (n := 3) (Nat.le_of_ble_eq_true rfl)
  rw [lg_entry_eq]
  generalize (lg_sl ([.ref q0, .int p1]) ++ List.replicate (3 - (lg_sl ([.ref q0, .int p1])).length) Slot.unset).toArray = ls at hl ⊢
  have hl : lv_has ls 3 [(0, .ref q0), (1, .int p1)] := hl
  refine lv_iload_n hx hb d_P_jump_0 rfl (lv_at hl 1 rfl) ?_
  refine lv_bipush (v := 108) hx hb d_P_jump_1 (by decide) ?_
  refine lv_icmp_ne (tgt := 45) hx hb d_P_jump_3 (by decide) (fun c_1 => ?_) (fun c_1 => ?_)
  · refine lv_iload_n hx hb d_P_jump_45 rfl (lv_at hl 1 rfl) ?_
    refine lv_bipush (v := 32) hx hb d_P_jump_46 (by decide) ?_
    refine lv_icmp_ne (tgt := 79) hx hb d_P_jump_48 (by decide) (fun c_2 => ?_) (fun c_2 => ?_)
    · refine lv_aload_n hx hb d_P_jump_79 rfl (lv_at hl 0 rfl) ?_
      refine lv_aload_n hx hb d_P_jump_80 rfl (lv_at hl 0 rfl) ?_
      refine va_get (D := (dC, dI)) (ci := 1) (v := .int (r 10)) (C := R_P) (T := F_P) (N := 13) hx hb htB i_P hown hK hP 0 rfl rfl 11 (by decide) (htB _ mw_70) (fun _ h9 => h9) rfl d_P_jump_81 ?_
      refine va_put (D := (dC, dI)) (ci := 1) (v := .int (r 10)) (ty := .int) (C := R_P) (T := F_P) (N := 13) hx hb htB i_P t_P t_P_ok n_P hown hK hP hD hS 0 rfl rfl 12 (by decide) (htB _ mw_71) (fun _ h9 => h9) rfl (by decide +kernel) rfl rfl (Nat.le_of_ble_eq_true rfl) d_P_jump_84 (fun H locs hP hD hS => ?_)
      have hP : va_P (dC, dI) classes [c_P q0 q1 (upd r 11 (r 10)), c_B q1 q2 q3 k, c_A q2 cM 1024 M, c_A q3 cD 256 D] H := hP
      have hD : va_D A [c_P q0 q1 (upd r 11 (r 10)), c_B q1 q2 q3 k, c_A q2 cM 1024 M, c_A q3 cD 256 D] := hD
      have hf : f_P_jump p1 r k M D = ((upd r 11 (r 10)), k, M, D) := by rw [f_P_jump, if_neg c_1, if_neg c_2]
      exact W.vret hx hb hr (fun t ht hW => ⟨⟨(), rfl, trivial, by rw [hf]; exact ⟨by rw [ht]; exact hP, va_K.moved hW.alike hK, hD⟩⟩, hS.F ht⟩) hS.2.2 d_P_jump_87
    · refine lv_aload_n hx hb d_P_jump_51 rfl (lv_at hl 0 rfl) ?_
      refine va_get (D := (dC, dI)) (ci := 1) (v := .int (r 4)) (C := R_P) (T := F_P) (N := 13) hx hb htB i_P hown hK hP 0 rfl rfl 5 (by decide) (htB _ mw_63) (fun _ h9 => h9) rfl d_P_jump_52 ?_
      refine lv_iconst (v := 2) hx hb d_P_jump_55 (by decide) ?_
      refine lv_iadd hx hb d_P_jump_56 ?_
      have hPc := hP.sub (ws' := []) [] rfl
      have hDc := hD.sub (ws' := []) [] (by decide) rfl
      have hKc := hK.sub (tys' := []) [] rfl
      have hFc := va_free (wc := []) hD hS hA [] rfl
      refine va_calli (va_runS (As := [.int ((r 4) + (2 : Int32))]) (rest := []) ⟨hx, hb, hml, hown, htB⟩ (c_P_address l dC dI z0  H.size ((r 4) + (2 : Int32))) (cwS 1 htB (gd_S mw_300 mw_301 mw_2 mw_302) rfl rfl rfl (by decide +kernel) ⟨Nat.le_of_ble_eq_true rfl, Nat.le_of_ble_eq_true rfl⟩) (pcx_S hPc hKc hDc hA0 hE hS) rfl rfl hl.1 rfl (lv_room (Nat.le_of_ble_eq_true rfl)) d_P_jump_57 ⟨Nat.zero_le _, Nat.zero_le _⟩) hS (fun q _ h => hFc q h) hFc (fun r9 u t H1 locs ht hvm hw hB hz1 hk1 hS => ?_)
      subst hw
      obtain ⟨hP1, hK1, hD1⟩ := hB
      rw [ht] at hP1
      obtain ⟨hP, hD⟩ := va_join (wr := [c_P q0 q1 r, c_B q1 q2 q3 k, c_A q2 cM 1024 M, c_A q3 cD 256 D]) (w1 := []) hP hD [] [0, 1, 2, 3] rfl rfl (by decide) (by decide) hk1 hFc hP1 hD1
      generalize H1 = H at hP hS ⊢
      have hP : va_P (dC, dI) classes [c_P q0 q1 r, c_B q1 q2 q3 k, c_A q2 cM 1024 M, c_A q3 cD 256 D] H := hP.sub [0, 1, 2, 3] rfl
      have hD : va_D A [c_P q0 q1 r, c_B q1 q2 q3 k, c_A q2 cM 1024 M, c_A q3 cD 256 D] := hD.sub [0, 1, 2, 3] (by decide) rfl
      refine lv_istore_n (lv' := [(2, .int (f_P_address ((r 4) + (2 : Int32)))), (0, .ref q0), (1, .int p1)]) hx hb d_P_jump_60 rfl hl (by decide) rfl (fun ls hl => ?_)
      refine lv_aload_n hx hb d_P_jump_61 rfl (lv_at hl 1 rfl) ?_
      refine lv_iload_n hx hb d_P_jump_62 rfl (lv_at hl 0 rfl) ?_
      refine lv_sipush (v := 256) hx hb d_P_jump_63 (by decide) ?_
      refine lv_idiv hx hb d_P_jump_66 (by decide) ?_
      have hPc := hP.sub (ws' := [c_P q0 q1 r, c_B q1 q2 q3 k, c_A q2 cM 1024 M, c_A q3 cD 256 D]) [0, 1, 2, 3] rfl
      have hDc := hD.sub (ws' := [c_P q0 q1 r, c_B q1 q2 q3 k, c_A q2 cM 1024 M, c_A q3 cD 256 D]) [0, 1, 2, 3] (by decide) rfl
      have hKc := hK.sub (tys' := [(cM, .int), (cD, .int)]) [0, 1] rfl
      have hFc := va_free (wc := [c_P q0 q1 r, c_B q1 q2 q3 k, c_A q2 cM 1024 M, c_A q3 cD 256 D]) hD hS hA [0, 1, 2, 3] rfl
      refine va_callv (va_runV (As := [.int ((f_P_address ((r 4) + (2 : Int32))) / (256 : Int32))]) (rest := []) ⟨hx, hb, hml, hown, htB⟩ (c_P_push l dC dI z0 q0 q1 q2 q3 cM cD H.size ((f_P_address ((r 4) + (2 : Int32))) / (256 : Int32)) r k M D hsn) (cwV 1 htB (gd_V mw_358 mw_360 sw_P_push mw_2 mw_361) rfl rfl rfl (by decide +kernel) ⟨Nat.le_of_ble_eq_true rfl, Nat.le_of_ble_eq_true rfl⟩) (pcx_V (va_recv hKc hPc (ci := 1) (q0 := 0) rfl rfl) hPc hKc hDc hA0 hE hS) rfl rfl hl.1 rfl (lv_room (Nat.le_of_ble_eq_true rfl)) d_P_jump_67 ⟨Nat.zero_le _, Nat.zero_le _⟩) hS (fun q _ h => hFc q h) hFc (fun u t H1 locs ht hvm hw hB hz1 hk1 hS => ?_)
      obtain ⟨hP1, hK1, hD1⟩ := hB
      rw [ht] at hP1
      obtain ⟨hP, hD⟩ := va_join (wr := []) (w1 := [c_P q0 q1 ((f_P_push ((f_P_address ((r 4) + (2 : Int32))) / (256 : Int32)) r k M D).1), c_B q1 q2 q3 ((f_P_push ((f_P_address ((r 4) + (2 : Int32))) / (256 : Int32)) r k M D).2.1), c_A q2 cM 1024 ((f_P_push ((f_P_address ((r 4) + (2 : Int32))) / (256 : Int32)) r k M D).2.2.1), c_A q3 cD 256 ((f_P_push ((f_P_address ((r 4) + (2 : Int32))) / (256 : Int32)) r k M D).2.2.2)]) hP hD [0, 1, 2, 3] [] rfl rfl (by decide) (by decide) hk1 hFc hP1 hD1
      generalize H1 = H at hP hS ⊢
      have hP : va_P (dC, dI) classes [c_P q0 q1 ((f_P_push ((f_P_address ((r 4) + (2 : Int32))) / (256 : Int32)) r k M D).1), c_B q1 q2 q3 ((f_P_push ((f_P_address ((r 4) + (2 : Int32))) / (256 : Int32)) r k M D).2.1), c_A q2 cM 1024 ((f_P_push ((f_P_address ((r 4) + (2 : Int32))) / (256 : Int32)) r k M D).2.2.1), c_A q3 cD 256 ((f_P_push ((f_P_address ((r 4) + (2 : Int32))) / (256 : Int32)) r k M D).2.2.2)] H := hP.sub [0, 1, 2, 3] rfl
      have hD : va_D A [c_P q0 q1 ((f_P_push ((f_P_address ((r 4) + (2 : Int32))) / (256 : Int32)) r k M D).1), c_B q1 q2 q3 ((f_P_push ((f_P_address ((r 4) + (2 : Int32))) / (256 : Int32)) r k M D).2.1), c_A q2 cM 1024 ((f_P_push ((f_P_address ((r 4) + (2 : Int32))) / (256 : Int32)) r k M D).2.2.1), c_A q3 cD 256 ((f_P_push ((f_P_address ((r 4) + (2 : Int32))) / (256 : Int32)) r k M D).2.2.2)] := hD.sub [0, 1, 2, 3] (by decide) rfl
      refine lv_aload_n hx hb d_P_jump_70 rfl (lv_at hl 1 rfl) ?_
      refine lv_iload_n hx hb d_P_jump_71 rfl (lv_at hl 0 rfl) ?_
      refine lv_sipush (v := 256) hx hb d_P_jump_72 (by decide) ?_
      refine lv_irem hx hb d_P_jump_75 (by decide) ?_
      have hPc := hP.sub (ws' := [c_P q0 q1 ((f_P_push ((f_P_address ((r 4) + (2 : Int32))) / (256 : Int32)) r k M D).1), c_B q1 q2 q3 ((f_P_push ((f_P_address ((r 4) + (2 : Int32))) / (256 : Int32)) r k M D).2.1), c_A q2 cM 1024 ((f_P_push ((f_P_address ((r 4) + (2 : Int32))) / (256 : Int32)) r k M D).2.2.1), c_A q3 cD 256 ((f_P_push ((f_P_address ((r 4) + (2 : Int32))) / (256 : Int32)) r k M D).2.2.2)]) [0, 1, 2, 3] rfl
      have hDc := hD.sub (ws' := [c_P q0 q1 ((f_P_push ((f_P_address ((r 4) + (2 : Int32))) / (256 : Int32)) r k M D).1), c_B q1 q2 q3 ((f_P_push ((f_P_address ((r 4) + (2 : Int32))) / (256 : Int32)) r k M D).2.1), c_A q2 cM 1024 ((f_P_push ((f_P_address ((r 4) + (2 : Int32))) / (256 : Int32)) r k M D).2.2.1), c_A q3 cD 256 ((f_P_push ((f_P_address ((r 4) + (2 : Int32))) / (256 : Int32)) r k M D).2.2.2)]) [0, 1, 2, 3] (by decide) rfl
      have hKc := hK.sub (tys' := [(cM, .int), (cD, .int)]) [0, 1] rfl
      have hFc := va_free (wc := [c_P q0 q1 ((f_P_push ((f_P_address ((r 4) + (2 : Int32))) / (256 : Int32)) r k M D).1), c_B q1 q2 q3 ((f_P_push ((f_P_address ((r 4) + (2 : Int32))) / (256 : Int32)) r k M D).2.1), c_A q2 cM 1024 ((f_P_push ((f_P_address ((r 4) + (2 : Int32))) / (256 : Int32)) r k M D).2.2.1), c_A q3 cD 256 ((f_P_push ((f_P_address ((r 4) + (2 : Int32))) / (256 : Int32)) r k M D).2.2.2)]) hD hS hA [0, 1, 2, 3] rfl
      refine va_callv (va_runV (As := [.int ((f_P_address ((r 4) + (2 : Int32))) - (f_P_address ((r 4) + (2 : Int32))) / (256 : Int32) * (256 : Int32))]) (rest := []) ⟨hx, hb, hml, hown, htB⟩ (c_P_push l dC dI z0 q0 q1 q2 q3 cM cD H.size ((f_P_address ((r 4) + (2 : Int32))) - (f_P_address ((r 4) + (2 : Int32))) / (256 : Int32) * (256 : Int32)) ((f_P_push ((f_P_address ((r 4) + (2 : Int32))) / (256 : Int32)) r k M D).1) ((f_P_push ((f_P_address ((r 4) + (2 : Int32))) / (256 : Int32)) r k M D).2.1) ((f_P_push ((f_P_address ((r 4) + (2 : Int32))) / (256 : Int32)) r k M D).2.2.1) ((f_P_push ((f_P_address ((r 4) + (2 : Int32))) / (256 : Int32)) r k M D).2.2.2) (push_sn (addr_div_nn _) hsn)) (cwV 1 htB (gd_V mw_358 mw_360 sw_P_push mw_2 mw_361) rfl rfl rfl (by decide +kernel) ⟨Nat.le_of_ble_eq_true rfl, Nat.le_of_ble_eq_true rfl⟩) (pcx_V (va_recv hKc hPc (ci := 1) (q0 := 0) rfl rfl) hPc hKc hDc hA0 hE hS) rfl rfl hl.1 rfl (lv_room (Nat.le_of_ble_eq_true rfl)) d_P_jump_76 ⟨Nat.zero_le _, Nat.zero_le _⟩) hS (fun q _ h => hFc q h) hFc (fun u t H1 locs ht hvm hw hB hz1 hk1 hS => ?_)
      obtain ⟨hP1, hK1, hD1⟩ := hB
      rw [ht] at hP1
      obtain ⟨hP, hD⟩ := va_join (wr := []) (w1 := [c_P q0 q1 ((f_P_push ((f_P_address ((r 4) + (2 : Int32))) - (f_P_address ((r 4) + (2 : Int32))) / (256 : Int32) * (256 : Int32)) ((f_P_push ((f_P_address ((r 4) + (2 : Int32))) / (256 : Int32)) r k M D).1) ((f_P_push ((f_P_address ((r 4) + (2 : Int32))) / (256 : Int32)) r k M D).2.1) ((f_P_push ((f_P_address ((r 4) + (2 : Int32))) / (256 : Int32)) r k M D).2.2.1) ((f_P_push ((f_P_address ((r 4) + (2 : Int32))) / (256 : Int32)) r k M D).2.2.2)).1), c_B q1 q2 q3 ((f_P_push ((f_P_address ((r 4) + (2 : Int32))) - (f_P_address ((r 4) + (2 : Int32))) / (256 : Int32) * (256 : Int32)) ((f_P_push ((f_P_address ((r 4) + (2 : Int32))) / (256 : Int32)) r k M D).1) ((f_P_push ((f_P_address ((r 4) + (2 : Int32))) / (256 : Int32)) r k M D).2.1) ((f_P_push ((f_P_address ((r 4) + (2 : Int32))) / (256 : Int32)) r k M D).2.2.1) ((f_P_push ((f_P_address ((r 4) + (2 : Int32))) / (256 : Int32)) r k M D).2.2.2)).2.1), c_A q2 cM 1024 ((f_P_push ((f_P_address ((r 4) + (2 : Int32))) - (f_P_address ((r 4) + (2 : Int32))) / (256 : Int32) * (256 : Int32)) ((f_P_push ((f_P_address ((r 4) + (2 : Int32))) / (256 : Int32)) r k M D).1) ((f_P_push ((f_P_address ((r 4) + (2 : Int32))) / (256 : Int32)) r k M D).2.1) ((f_P_push ((f_P_address ((r 4) + (2 : Int32))) / (256 : Int32)) r k M D).2.2.1) ((f_P_push ((f_P_address ((r 4) + (2 : Int32))) / (256 : Int32)) r k M D).2.2.2)).2.2.1), c_A q3 cD 256 ((f_P_push ((f_P_address ((r 4) + (2 : Int32))) - (f_P_address ((r 4) + (2 : Int32))) / (256 : Int32) * (256 : Int32)) ((f_P_push ((f_P_address ((r 4) + (2 : Int32))) / (256 : Int32)) r k M D).1) ((f_P_push ((f_P_address ((r 4) + (2 : Int32))) / (256 : Int32)) r k M D).2.1) ((f_P_push ((f_P_address ((r 4) + (2 : Int32))) / (256 : Int32)) r k M D).2.2.1) ((f_P_push ((f_P_address ((r 4) + (2 : Int32))) / (256 : Int32)) r k M D).2.2.2)).2.2.2)]) hP hD [0, 1, 2, 3] [] rfl rfl (by decide) (by decide) hk1 hFc hP1 hD1
      generalize H1 = H at hP hS ⊢
      have hP : va_P (dC, dI) classes [c_P q0 q1 ((f_P_push ((f_P_address ((r 4) + (2 : Int32))) - (f_P_address ((r 4) + (2 : Int32))) / (256 : Int32) * (256 : Int32)) ((f_P_push ((f_P_address ((r 4) + (2 : Int32))) / (256 : Int32)) r k M D).1) ((f_P_push ((f_P_address ((r 4) + (2 : Int32))) / (256 : Int32)) r k M D).2.1) ((f_P_push ((f_P_address ((r 4) + (2 : Int32))) / (256 : Int32)) r k M D).2.2.1) ((f_P_push ((f_P_address ((r 4) + (2 : Int32))) / (256 : Int32)) r k M D).2.2.2)).1), c_B q1 q2 q3 ((f_P_push ((f_P_address ((r 4) + (2 : Int32))) - (f_P_address ((r 4) + (2 : Int32))) / (256 : Int32) * (256 : Int32)) ((f_P_push ((f_P_address ((r 4) + (2 : Int32))) / (256 : Int32)) r k M D).1) ((f_P_push ((f_P_address ((r 4) + (2 : Int32))) / (256 : Int32)) r k M D).2.1) ((f_P_push ((f_P_address ((r 4) + (2 : Int32))) / (256 : Int32)) r k M D).2.2.1) ((f_P_push ((f_P_address ((r 4) + (2 : Int32))) / (256 : Int32)) r k M D).2.2.2)).2.1), c_A q2 cM 1024 ((f_P_push ((f_P_address ((r 4) + (2 : Int32))) - (f_P_address ((r 4) + (2 : Int32))) / (256 : Int32) * (256 : Int32)) ((f_P_push ((f_P_address ((r 4) + (2 : Int32))) / (256 : Int32)) r k M D).1) ((f_P_push ((f_P_address ((r 4) + (2 : Int32))) / (256 : Int32)) r k M D).2.1) ((f_P_push ((f_P_address ((r 4) + (2 : Int32))) / (256 : Int32)) r k M D).2.2.1) ((f_P_push ((f_P_address ((r 4) + (2 : Int32))) / (256 : Int32)) r k M D).2.2.2)).2.2.1), c_A q3 cD 256 ((f_P_push ((f_P_address ((r 4) + (2 : Int32))) - (f_P_address ((r 4) + (2 : Int32))) / (256 : Int32) * (256 : Int32)) ((f_P_push ((f_P_address ((r 4) + (2 : Int32))) / (256 : Int32)) r k M D).1) ((f_P_push ((f_P_address ((r 4) + (2 : Int32))) / (256 : Int32)) r k M D).2.1) ((f_P_push ((f_P_address ((r 4) + (2 : Int32))) / (256 : Int32)) r k M D).2.2.1) ((f_P_push ((f_P_address ((r 4) + (2 : Int32))) / (256 : Int32)) r k M D).2.2.2)).2.2.2)] H := hP.sub [0, 1, 2, 3] rfl
      have hD : va_D A [c_P q0 q1 ((f_P_push ((f_P_address ((r 4) + (2 : Int32))) - (f_P_address ((r 4) + (2 : Int32))) / (256 : Int32) * (256 : Int32)) ((f_P_push ((f_P_address ((r 4) + (2 : Int32))) / (256 : Int32)) r k M D).1) ((f_P_push ((f_P_address ((r 4) + (2 : Int32))) / (256 : Int32)) r k M D).2.1) ((f_P_push ((f_P_address ((r 4) + (2 : Int32))) / (256 : Int32)) r k M D).2.2.1) ((f_P_push ((f_P_address ((r 4) + (2 : Int32))) / (256 : Int32)) r k M D).2.2.2)).1), c_B q1 q2 q3 ((f_P_push ((f_P_address ((r 4) + (2 : Int32))) - (f_P_address ((r 4) + (2 : Int32))) / (256 : Int32) * (256 : Int32)) ((f_P_push ((f_P_address ((r 4) + (2 : Int32))) / (256 : Int32)) r k M D).1) ((f_P_push ((f_P_address ((r 4) + (2 : Int32))) / (256 : Int32)) r k M D).2.1) ((f_P_push ((f_P_address ((r 4) + (2 : Int32))) / (256 : Int32)) r k M D).2.2.1) ((f_P_push ((f_P_address ((r 4) + (2 : Int32))) / (256 : Int32)) r k M D).2.2.2)).2.1), c_A q2 cM 1024 ((f_P_push ((f_P_address ((r 4) + (2 : Int32))) - (f_P_address ((r 4) + (2 : Int32))) / (256 : Int32) * (256 : Int32)) ((f_P_push ((f_P_address ((r 4) + (2 : Int32))) / (256 : Int32)) r k M D).1) ((f_P_push ((f_P_address ((r 4) + (2 : Int32))) / (256 : Int32)) r k M D).2.1) ((f_P_push ((f_P_address ((r 4) + (2 : Int32))) / (256 : Int32)) r k M D).2.2.1) ((f_P_push ((f_P_address ((r 4) + (2 : Int32))) / (256 : Int32)) r k M D).2.2.2)).2.2.1), c_A q3 cD 256 ((f_P_push ((f_P_address ((r 4) + (2 : Int32))) - (f_P_address ((r 4) + (2 : Int32))) / (256 : Int32) * (256 : Int32)) ((f_P_push ((f_P_address ((r 4) + (2 : Int32))) / (256 : Int32)) r k M D).1) ((f_P_push ((f_P_address ((r 4) + (2 : Int32))) / (256 : Int32)) r k M D).2.1) ((f_P_push ((f_P_address ((r 4) + (2 : Int32))) / (256 : Int32)) r k M D).2.2.1) ((f_P_push ((f_P_address ((r 4) + (2 : Int32))) / (256 : Int32)) r k M D).2.2.2)).2.2.2)] := hD.sub [0, 1, 2, 3] (by decide) rfl
      refine lv_aload_n hx hb d_P_jump_79 rfl (lv_at hl 1 rfl) ?_
      refine lv_aload_n hx hb d_P_jump_80 rfl (lv_at hl 1 rfl) ?_
      refine va_get (D := (dC, dI)) (ci := 1) (v := .int (((f_P_push ((f_P_address ((r 4) + (2 : Int32))) - (f_P_address ((r 4) + (2 : Int32))) / (256 : Int32) * (256 : Int32)) ((f_P_push ((f_P_address ((r 4) + (2 : Int32))) / (256 : Int32)) r k M D).1) ((f_P_push ((f_P_address ((r 4) + (2 : Int32))) / (256 : Int32)) r k M D).2.1) ((f_P_push ((f_P_address ((r 4) + (2 : Int32))) / (256 : Int32)) r k M D).2.2.1) ((f_P_push ((f_P_address ((r 4) + (2 : Int32))) / (256 : Int32)) r k M D).2.2.2)).1) 10)) (C := R_P) (T := F_P) (N := 13) hx hb htB i_P hown hK hP 0 rfl rfl 11 (by decide) (htB _ mw_70) (fun _ h9 => h9) rfl d_P_jump_81 ?_
      refine va_put (D := (dC, dI)) (ci := 1) (v := .int (((f_P_push ((f_P_address ((r 4) + (2 : Int32))) - (f_P_address ((r 4) + (2 : Int32))) / (256 : Int32) * (256 : Int32)) ((f_P_push ((f_P_address ((r 4) + (2 : Int32))) / (256 : Int32)) r k M D).1) ((f_P_push ((f_P_address ((r 4) + (2 : Int32))) / (256 : Int32)) r k M D).2.1) ((f_P_push ((f_P_address ((r 4) + (2 : Int32))) / (256 : Int32)) r k M D).2.2.1) ((f_P_push ((f_P_address ((r 4) + (2 : Int32))) / (256 : Int32)) r k M D).2.2.2)).1) 10)) (ty := .int) (C := R_P) (T := F_P) (N := 13) hx hb htB i_P t_P t_P_ok n_P hown hK hP hD hS 0 rfl rfl 12 (by decide) (htB _ mw_71) (fun _ h9 => h9) rfl (by decide +kernel) rfl rfl (Nat.le_of_ble_eq_true rfl) d_P_jump_84 (fun H locs hP hD hS => ?_)
      have hP : va_P (dC, dI) classes [c_P q0 q1 (upd ((f_P_push ((f_P_address ((r 4) + (2 : Int32))) - (f_P_address ((r 4) + (2 : Int32))) / (256 : Int32) * (256 : Int32)) ((f_P_push ((f_P_address ((r 4) + (2 : Int32))) / (256 : Int32)) r k M D).1) ((f_P_push ((f_P_address ((r 4) + (2 : Int32))) / (256 : Int32)) r k M D).2.1) ((f_P_push ((f_P_address ((r 4) + (2 : Int32))) / (256 : Int32)) r k M D).2.2.1) ((f_P_push ((f_P_address ((r 4) + (2 : Int32))) / (256 : Int32)) r k M D).2.2.2)).1) 11 (((f_P_push ((f_P_address ((r 4) + (2 : Int32))) - (f_P_address ((r 4) + (2 : Int32))) / (256 : Int32) * (256 : Int32)) ((f_P_push ((f_P_address ((r 4) + (2 : Int32))) / (256 : Int32)) r k M D).1) ((f_P_push ((f_P_address ((r 4) + (2 : Int32))) / (256 : Int32)) r k M D).2.1) ((f_P_push ((f_P_address ((r 4) + (2 : Int32))) / (256 : Int32)) r k M D).2.2.1) ((f_P_push ((f_P_address ((r 4) + (2 : Int32))) / (256 : Int32)) r k M D).2.2.2)).1) 10)), c_B q1 q2 q3 ((f_P_push ((f_P_address ((r 4) + (2 : Int32))) - (f_P_address ((r 4) + (2 : Int32))) / (256 : Int32) * (256 : Int32)) ((f_P_push ((f_P_address ((r 4) + (2 : Int32))) / (256 : Int32)) r k M D).1) ((f_P_push ((f_P_address ((r 4) + (2 : Int32))) / (256 : Int32)) r k M D).2.1) ((f_P_push ((f_P_address ((r 4) + (2 : Int32))) / (256 : Int32)) r k M D).2.2.1) ((f_P_push ((f_P_address ((r 4) + (2 : Int32))) / (256 : Int32)) r k M D).2.2.2)).2.1), c_A q2 cM 1024 ((f_P_push ((f_P_address ((r 4) + (2 : Int32))) - (f_P_address ((r 4) + (2 : Int32))) / (256 : Int32) * (256 : Int32)) ((f_P_push ((f_P_address ((r 4) + (2 : Int32))) / (256 : Int32)) r k M D).1) ((f_P_push ((f_P_address ((r 4) + (2 : Int32))) / (256 : Int32)) r k M D).2.1) ((f_P_push ((f_P_address ((r 4) + (2 : Int32))) / (256 : Int32)) r k M D).2.2.1) ((f_P_push ((f_P_address ((r 4) + (2 : Int32))) / (256 : Int32)) r k M D).2.2.2)).2.2.1), c_A q3 cD 256 ((f_P_push ((f_P_address ((r 4) + (2 : Int32))) - (f_P_address ((r 4) + (2 : Int32))) / (256 : Int32) * (256 : Int32)) ((f_P_push ((f_P_address ((r 4) + (2 : Int32))) / (256 : Int32)) r k M D).1) ((f_P_push ((f_P_address ((r 4) + (2 : Int32))) / (256 : Int32)) r k M D).2.1) ((f_P_push ((f_P_address ((r 4) + (2 : Int32))) / (256 : Int32)) r k M D).2.2.1) ((f_P_push ((f_P_address ((r 4) + (2 : Int32))) / (256 : Int32)) r k M D).2.2.2)).2.2.2)] H := hP
      have hD : va_D A [c_P q0 q1 (upd ((f_P_push ((f_P_address ((r 4) + (2 : Int32))) - (f_P_address ((r 4) + (2 : Int32))) / (256 : Int32) * (256 : Int32)) ((f_P_push ((f_P_address ((r 4) + (2 : Int32))) / (256 : Int32)) r k M D).1) ((f_P_push ((f_P_address ((r 4) + (2 : Int32))) / (256 : Int32)) r k M D).2.1) ((f_P_push ((f_P_address ((r 4) + (2 : Int32))) / (256 : Int32)) r k M D).2.2.1) ((f_P_push ((f_P_address ((r 4) + (2 : Int32))) / (256 : Int32)) r k M D).2.2.2)).1) 11 (((f_P_push ((f_P_address ((r 4) + (2 : Int32))) - (f_P_address ((r 4) + (2 : Int32))) / (256 : Int32) * (256 : Int32)) ((f_P_push ((f_P_address ((r 4) + (2 : Int32))) / (256 : Int32)) r k M D).1) ((f_P_push ((f_P_address ((r 4) + (2 : Int32))) / (256 : Int32)) r k M D).2.1) ((f_P_push ((f_P_address ((r 4) + (2 : Int32))) / (256 : Int32)) r k M D).2.2.1) ((f_P_push ((f_P_address ((r 4) + (2 : Int32))) / (256 : Int32)) r k M D).2.2.2)).1) 10)), c_B q1 q2 q3 ((f_P_push ((f_P_address ((r 4) + (2 : Int32))) - (f_P_address ((r 4) + (2 : Int32))) / (256 : Int32) * (256 : Int32)) ((f_P_push ((f_P_address ((r 4) + (2 : Int32))) / (256 : Int32)) r k M D).1) ((f_P_push ((f_P_address ((r 4) + (2 : Int32))) / (256 : Int32)) r k M D).2.1) ((f_P_push ((f_P_address ((r 4) + (2 : Int32))) / (256 : Int32)) r k M D).2.2.1) ((f_P_push ((f_P_address ((r 4) + (2 : Int32))) / (256 : Int32)) r k M D).2.2.2)).2.1), c_A q2 cM 1024 ((f_P_push ((f_P_address ((r 4) + (2 : Int32))) - (f_P_address ((r 4) + (2 : Int32))) / (256 : Int32) * (256 : Int32)) ((f_P_push ((f_P_address ((r 4) + (2 : Int32))) / (256 : Int32)) r k M D).1) ((f_P_push ((f_P_address ((r 4) + (2 : Int32))) / (256 : Int32)) r k M D).2.1) ((f_P_push ((f_P_address ((r 4) + (2 : Int32))) / (256 : Int32)) r k M D).2.2.1) ((f_P_push ((f_P_address ((r 4) + (2 : Int32))) / (256 : Int32)) r k M D).2.2.2)).2.2.1), c_A q3 cD 256 ((f_P_push ((f_P_address ((r 4) + (2 : Int32))) - (f_P_address ((r 4) + (2 : Int32))) / (256 : Int32) * (256 : Int32)) ((f_P_push ((f_P_address ((r 4) + (2 : Int32))) / (256 : Int32)) r k M D).1) ((f_P_push ((f_P_address ((r 4) + (2 : Int32))) / (256 : Int32)) r k M D).2.1) ((f_P_push ((f_P_address ((r 4) + (2 : Int32))) / (256 : Int32)) r k M D).2.2.1) ((f_P_push ((f_P_address ((r 4) + (2 : Int32))) / (256 : Int32)) r k M D).2.2.2)).2.2.2)] := hD
      have hf : f_P_jump p1 r k M D = ((upd ((f_P_push ((f_P_address ((r 4) + (2 : Int32))) - (f_P_address ((r 4) + (2 : Int32))) / (256 : Int32) * (256 : Int32)) ((f_P_push ((f_P_address ((r 4) + (2 : Int32))) / (256 : Int32)) r k M D).1) ((f_P_push ((f_P_address ((r 4) + (2 : Int32))) / (256 : Int32)) r k M D).2.1) ((f_P_push ((f_P_address ((r 4) + (2 : Int32))) / (256 : Int32)) r k M D).2.2.1) ((f_P_push ((f_P_address ((r 4) + (2 : Int32))) / (256 : Int32)) r k M D).2.2.2)).1) 11 (((f_P_push ((f_P_address ((r 4) + (2 : Int32))) - (f_P_address ((r 4) + (2 : Int32))) / (256 : Int32) * (256 : Int32)) ((f_P_push ((f_P_address ((r 4) + (2 : Int32))) / (256 : Int32)) r k M D).1) ((f_P_push ((f_P_address ((r 4) + (2 : Int32))) / (256 : Int32)) r k M D).2.1) ((f_P_push ((f_P_address ((r 4) + (2 : Int32))) / (256 : Int32)) r k M D).2.2.1) ((f_P_push ((f_P_address ((r 4) + (2 : Int32))) / (256 : Int32)) r k M D).2.2.2)).1) 10)), (f_P_push ((f_P_address ((r 4) + (2 : Int32))) - (f_P_address ((r 4) + (2 : Int32))) / (256 : Int32) * (256 : Int32)) ((f_P_push ((f_P_address ((r 4) + (2 : Int32))) / (256 : Int32)) r k M D).1) ((f_P_push ((f_P_address ((r 4) + (2 : Int32))) / (256 : Int32)) r k M D).2.1) ((f_P_push ((f_P_address ((r 4) + (2 : Int32))) / (256 : Int32)) r k M D).2.2.1) ((f_P_push ((f_P_address ((r 4) + (2 : Int32))) / (256 : Int32)) r k M D).2.2.2)).2.1, (f_P_push ((f_P_address ((r 4) + (2 : Int32))) - (f_P_address ((r 4) + (2 : Int32))) / (256 : Int32) * (256 : Int32)) ((f_P_push ((f_P_address ((r 4) + (2 : Int32))) / (256 : Int32)) r k M D).1) ((f_P_push ((f_P_address ((r 4) + (2 : Int32))) / (256 : Int32)) r k M D).2.1) ((f_P_push ((f_P_address ((r 4) + (2 : Int32))) / (256 : Int32)) r k M D).2.2.1) ((f_P_push ((f_P_address ((r 4) + (2 : Int32))) / (256 : Int32)) r k M D).2.2.2)).2.2.1, (f_P_push ((f_P_address ((r 4) + (2 : Int32))) - (f_P_address ((r 4) + (2 : Int32))) / (256 : Int32) * (256 : Int32)) ((f_P_push ((f_P_address ((r 4) + (2 : Int32))) / (256 : Int32)) r k M D).1) ((f_P_push ((f_P_address ((r 4) + (2 : Int32))) / (256 : Int32)) r k M D).2.1) ((f_P_push ((f_P_address ((r 4) + (2 : Int32))) / (256 : Int32)) r k M D).2.2.1) ((f_P_push ((f_P_address ((r 4) + (2 : Int32))) / (256 : Int32)) r k M D).2.2.2)).2.2.2) := by rw [f_P_jump, if_neg c_1, if_pos c_2]
      exact W.vret hx hb hr (fun t ht hW => ⟨⟨(), rfl, trivial, by rw [hf]; exact ⟨by rw [ht]; exact hP, va_K.moved hW.alike hK, hD⟩⟩, hS.F ht⟩) hS.2.2 d_P_jump_87
  · refine lv_aload_n hx hb d_P_jump_6 rfl (lv_at hl 0 rfl) ?_
    refine va_get (D := (dC, dI)) (ci := 1) (v := .ref q1) (C := R_P) (T := F_P) (N := 13) hx hb htB i_P hown hK hP 0 rfl rfl 0 (by decide) (htB _ mw_57) (fun _ h9 => h9) rfl d_P_jump_7 ?_
    refine lv_aload_n hx hb d_P_jump_10 rfl (lv_at hl 0 rfl) ?_
    refine va_get (D := (dC, dI)) (ci := 1) (v := .int (r 10)) (C := R_P) (T := F_P) (N := 13) hx hb htB i_P hown hK hP 0 rfl rfl 11 (by decide) (htB _ mw_70) (fun _ h9 => h9) rfl d_P_jump_11 ?_
    have hPc := hP.sub (ws' := [c_B q1 q2 q3 k, c_A q2 cM 1024 M, c_A q3 cD 256 D]) [1, 2, 3] rfl
    have hDc := hD.sub (ws' := [c_B q1 q2 q3 k, c_A q2 cM 1024 M, c_A q3 cD 256 D]) [1, 2, 3] (by decide) rfl
    have hKc := hK.sub (tys' := [(cM, .int), (cD, .int)]) [0, 1] rfl
    have hFc := va_free (wc := [c_B q1 q2 q3 k, c_A q2 cM 1024 M, c_A q3 cD 256 D]) hD hS hA [1, 2, 3] rfl
    refine va_calli (va_runVN (As := [.int (r 10)]) (rest := []) ⟨hx, hb, hml, hown, htB⟩ (c_B_readByte l dC dI z0 q1 q2 q3 cM cD H.size (r 10) k M D) ⟨va_cnB 1 htB (gd_c mw_277) rfl rfl rfl (hE.2.1 _ ew_274) (htB _ mw_3) (by decide +kernel) ⟨Nat.le_of_ble_eq_true rfl, Nat.le_of_ble_eq_true rfl⟩, htB _ mw_276, htB _ sw_B_readByte⟩ (pcx_V (va_recv hKc hPc (ci := 2) (q0 := 0) rfl rfl) hPc hKc hDc hA0 hE hS) rfl rfl hl.1 rfl (lv_room (Nat.le_of_ble_eq_true rfl)) d_P_jump_14 ⟨Nat.zero_le _, Nat.zero_le _⟩) hS (fun q _ h => hFc q h) hFc (fun r9 u t H1 locs ht hvm hw hB hz1 hk1 hS => ?_)
    subst hw
    obtain ⟨hP1, hK1, hD1⟩ := hB
    rw [ht] at hP1
    obtain ⟨hP, hD⟩ := va_join (wr := [c_P q0 q1 r]) (w1 := [c_B q1 q2 q3 ((f_B_readByte (r 10) k M D).2), c_A q2 cM 1024 M, c_A q3 cD 256 D]) hP hD [1, 2, 3] [0] rfl rfl (by decide) (by decide) hk1 hFc hP1 hD1
    generalize H1 = H at hP hS ⊢
    have hP : va_P (dC, dI) classes [c_P q0 q1 r, c_B q1 q2 q3 ((f_B_readByte (r 10) k M D).2), c_A q2 cM 1024 M, c_A q3 cD 256 D] H := hP.sub [0, 1, 2, 3] rfl
    have hD : va_D A [c_P q0 q1 r, c_B q1 q2 q3 ((f_B_readByte (r 10) k M D).2), c_A q2 cM 1024 M, c_A q3 cD 256 D] := hD.sub [0, 1, 2, 3] (by decide) rfl
    refine lv_istore_n (lv' := [(2, .int ((f_B_readByte (r 10) k M D).1)), (0, .ref q0), (1, .int p1)]) hx hb d_P_jump_17 rfl hl (by decide) rfl (fun ls hl => ?_)
    refine lv_aload_n hx hb d_P_jump_18 rfl (lv_at hl 1 rfl) ?_
    refine lv_iload_n hx hb d_P_jump_19 rfl (lv_at hl 0 rfl) ?_
    refine lv_sipush (v := 256) hx hb d_P_jump_20 (by decide) ?_
    refine lv_aload_n hx hb d_P_jump_23 rfl (lv_at hl 1 rfl) ?_
    refine va_get (D := (dC, dI)) (ci := 1) (v := .ref q1) (C := R_P) (T := F_P) (N := 13) hx hb htB i_P hown hK hP 0 rfl rfl 0 (by decide) (htB _ mw_57) (fun _ h9 => h9) rfl d_P_jump_24 ?_
    refine lv_aload_n hx hb d_P_jump_27 rfl (lv_at hl 1 rfl) ?_
    refine va_get (D := (dC, dI)) (ci := 1) (v := .int (r 10)) (C := R_P) (T := F_P) (N := 13) hx hb htB i_P hown hK hP 0 rfl rfl 11 (by decide) (htB _ mw_70) (fun _ h9 => h9) rfl d_P_jump_28 ?_
    refine lv_iconst (v := 1) hx hb d_P_jump_31 (by decide) ?_
    refine lv_iadd hx hb d_P_jump_32 ?_
    have hPc := hP.sub (ws' := [c_B q1 q2 q3 ((f_B_readByte (r 10) k M D).2), c_A q2 cM 1024 M, c_A q3 cD 256 D]) [1, 2, 3] rfl
    have hDc := hD.sub (ws' := [c_B q1 q2 q3 ((f_B_readByte (r 10) k M D).2), c_A q2 cM 1024 M, c_A q3 cD 256 D]) [1, 2, 3] (by decide) rfl
    have hKc := hK.sub (tys' := [(cM, .int), (cD, .int)]) [0, 1] rfl
    have hFc := va_free (wc := [c_B q1 q2 q3 ((f_B_readByte (r 10) k M D).2), c_A q2 cM 1024 M, c_A q3 cD 256 D]) hD hS hA [1, 2, 3] rfl
    refine va_calli (va_runVN (As := [.int ((r 10) + (1 : Int32))]) (rest := [.int (256 : Int32), .int ((f_B_readByte (r 10) k M D).1), .ref q0]) ⟨hx, hb, hml, hown, htB⟩ (c_B_readByte l dC dI z0 q1 q2 q3 cM cD H.size ((r 10) + (1 : Int32)) ((f_B_readByte (r 10) k M D).2) M D) ⟨va_cnB 1 htB (gd_c mw_277) rfl rfl rfl (hE.2.1 _ ew_274) (htB _ mw_3) (by decide +kernel) ⟨Nat.le_of_ble_eq_true rfl, Nat.le_of_ble_eq_true rfl⟩, htB _ mw_276, htB _ sw_B_readByte⟩ (pcx_V (va_recv hKc hPc (ci := 2) (q0 := 0) rfl rfl) hPc hKc hDc hA0 hE hS) rfl rfl hl.1 rfl (lv_room (Nat.le_of_ble_eq_true rfl)) d_P_jump_33 ⟨Nat.zero_le _, Nat.zero_le _⟩) hS (fun q _ h => hFc q h) hFc (fun r9 u t H1 locs ht hvm hw hB hz1 hk1 hS => ?_)
    subst hw
    obtain ⟨hP1, hK1, hD1⟩ := hB
    rw [ht] at hP1
    obtain ⟨hP, hD⟩ := va_join (wr := [c_P q0 q1 r]) (w1 := [c_B q1 q2 q3 ((f_B_readByte ((r 10) + (1 : Int32)) ((f_B_readByte (r 10) k M D).2) M D).2), c_A q2 cM 1024 M, c_A q3 cD 256 D]) hP hD [1, 2, 3] [0] rfl rfl (by decide) (by decide) hk1 hFc hP1 hD1
    generalize H1 = H at hP hS ⊢
    have hP : va_P (dC, dI) classes [c_P q0 q1 r, c_B q1 q2 q3 ((f_B_readByte ((r 10) + (1 : Int32)) ((f_B_readByte (r 10) k M D).2) M D).2), c_A q2 cM 1024 M, c_A q3 cD 256 D] H := hP.sub [0, 1, 2, 3] rfl
    have hD : va_D A [c_P q0 q1 r, c_B q1 q2 q3 ((f_B_readByte ((r 10) + (1 : Int32)) ((f_B_readByte (r 10) k M D).2) M D).2), c_A q2 cM 1024 M, c_A q3 cD 256 D] := hD.sub [0, 1, 2, 3] (by decide) rfl
    refine lv_imul hx hb d_P_jump_36 ?_
    refine lv_iadd hx hb d_P_jump_37 ?_
    have hPc := hP.sub (ws' := []) [] rfl
    have hDc := hD.sub (ws' := []) [] (by decide) rfl
    have hKc := hK.sub (tys' := []) [] rfl
    have hFc := va_free (wc := []) hD hS hA [] rfl
    refine va_calli (va_runS (As := [.int (((f_B_readByte (r 10) k M D).1) + ((256 : Int32) * ((f_B_readByte ((r 10) + (1 : Int32)) ((f_B_readByte (r 10) k M D).2) M D).1)))]) (rest := [.ref q0]) ⟨hx, hb, hml, hown, htB⟩ (c_P_address l dC dI z0  H.size (((f_B_readByte (r 10) k M D).1) + ((256 : Int32) * ((f_B_readByte ((r 10) + (1 : Int32)) ((f_B_readByte (r 10) k M D).2) M D).1)))) (cwS 1 htB (gd_S mw_300 mw_301 mw_2 mw_302) rfl rfl rfl (by decide +kernel) ⟨Nat.le_of_ble_eq_true rfl, Nat.le_of_ble_eq_true rfl⟩) (pcx_S hPc hKc hDc hA0 hE hS) rfl rfl hl.1 rfl (lv_room (Nat.le_of_ble_eq_true rfl)) d_P_jump_38 ⟨Nat.zero_le _, Nat.zero_le _⟩) hS (fun q _ h => hFc q h) hFc (fun r9 u t H1 locs ht hvm hw hB hz1 hk1 hS => ?_)
    subst hw
    obtain ⟨hP1, hK1, hD1⟩ := hB
    rw [ht] at hP1
    obtain ⟨hP, hD⟩ := va_join (wr := [c_P q0 q1 r, c_B q1 q2 q3 ((f_B_readByte ((r 10) + (1 : Int32)) ((f_B_readByte (r 10) k M D).2) M D).2), c_A q2 cM 1024 M, c_A q3 cD 256 D]) (w1 := []) hP hD [] [0, 1, 2, 3] rfl rfl (by decide) (by decide) hk1 hFc hP1 hD1
    generalize H1 = H at hP hS ⊢
    have hP : va_P (dC, dI) classes [c_P q0 q1 r, c_B q1 q2 q3 ((f_B_readByte ((r 10) + (1 : Int32)) ((f_B_readByte (r 10) k M D).2) M D).2), c_A q2 cM 1024 M, c_A q3 cD 256 D] H := hP.sub [0, 1, 2, 3] rfl
    have hD : va_D A [c_P q0 q1 r, c_B q1 q2 q3 ((f_B_readByte ((r 10) + (1 : Int32)) ((f_B_readByte (r 10) k M D).2) M D).2), c_A q2 cM 1024 M, c_A q3 cD 256 D] := hD.sub [0, 1, 2, 3] (by decide) rfl
    refine va_put (D := (dC, dI)) (ci := 1) (v := .int (f_P_address (((f_B_readByte (r 10) k M D).1) + ((256 : Int32) * ((f_B_readByte ((r 10) + (1 : Int32)) ((f_B_readByte (r 10) k M D).2) M D).1))))) (ty := .int) (C := R_P) (T := F_P) (N := 13) hx hb htB i_P t_P t_P_ok n_P hown hK hP hD hS 0 rfl rfl 12 (by decide) (htB _ mw_71) (fun _ h9 => h9) rfl (by decide +kernel) rfl rfl (Nat.le_of_ble_eq_true rfl) d_P_jump_41 (fun H locs hP hD hS => ?_)
    have hP : va_P (dC, dI) classes [c_P q0 q1 (upd r 11 (f_P_address (((f_B_readByte (r 10) k M D).1) + ((256 : Int32) * ((f_B_readByte ((r 10) + (1 : Int32)) ((f_B_readByte (r 10) k M D).2) M D).1))))), c_B q1 q2 q3 ((f_B_readByte ((r 10) + (1 : Int32)) ((f_B_readByte (r 10) k M D).2) M D).2), c_A q2 cM 1024 M, c_A q3 cD 256 D] H := hP
    have hD : va_D A [c_P q0 q1 (upd r 11 (f_P_address (((f_B_readByte (r 10) k M D).1) + ((256 : Int32) * ((f_B_readByte ((r 10) + (1 : Int32)) ((f_B_readByte (r 10) k M D).2) M D).1))))), c_B q1 q2 q3 ((f_B_readByte ((r 10) + (1 : Int32)) ((f_B_readByte (r 10) k M D).2) M D).2), c_A q2 cM 1024 M, c_A q3 cD 256 D] := hD
    have hf : f_P_jump p1 r k M D = ((upd r 11 (f_P_address (((f_B_readByte (r 10) k M D).1) + ((256 : Int32) * ((f_B_readByte ((r 10) + (1 : Int32)) ((f_B_readByte (r 10) k M D).2) M D).1))))), (f_B_readByte ((r 10) + (1 : Int32)) ((f_B_readByte (r 10) k M D).2) M D).2, M, D) := by rw [f_P_jump, if_pos c_1]
    exact W.vret hx hb hr (fun t ht hW => ⟨⟨(), rfl, trivial, by rw [hf]; exact ⟨by rw [ht]; exact hP, va_K.moved hW.alike hK, hD⟩⟩, hS.F ht⟩) hS.2.2 d_P_jump_44

def f_P_executeOperandG0 (p1 : Int32) (p2 : Int32) (r : Nat → Int32) : (Nat → Int32) :=
  if p1 = (1 : Int32) then
    if ((r 0) &&& p2) = (0 : Int32) then
      (upd (upd (upd r 7 (1 : Int32)) 5 ((p2 >>> ((7 : Int32) &&& 31)) &&& (1 : Int32))) 6 ((p2 >>> ((6 : Int32) &&& 31)) &&& (1 : Int32)))
    else
      (upd (upd (upd r 7 (0 : Int32)) 5 ((p2 >>> ((7 : Int32) &&& 31)) &&& (1 : Int32))) 6 ((p2 >>> ((6 : Int32) &&& 31)) &&& (1 : Int32)))
  else
    if p1 = (5 : Int32) then
      (upd ((f_P_set p2 r).2) 2 ((f_P_set p2 r).1))
    else
      if p1 = (6 : Int32) then
        (f_P_compare (r 2) p2 r)
      else
        (f_P_compare (r 1) p2 r)
abbrev Q_P_executeOperandG0 (dC : Nat → ClassId) (dI : Nat → Nat → Nat) (q0 : Nat) (q1 : Nat) (p1 : Int32) (p2 : Int32) (r : Nat → Int32) (A : Nat → Prop) : Array Value → State → Outcome → State → Prop := va_Qv (fun (_ : Unit) => True) (fun _ t => atW (dC, dI) classes A [c_P q0 q1 (f_P_executeOperandG0 p1 p2 r)] [] t) A
set_option maxHeartbeats 4000000 in
set_option maxRecDepth 100000 in
theorem c_P_executeOperandG0 (l : Launch) (dC : Nat → ClassId) (dI : Nat → Nat → Nat) (z0 : Nat) (q0 : Nat) (q1 : Nat) (sz : Nat) (p1 : Int32) (p2 : Int32) (r : Nat → Int32)  : Met l y_P_executeOperandG0 w_P_executeOperandG0 ({ frames := 2, cells := 0, slots := 0, locals := 43 }) (PcX (dC, dI) classes z0 [c_P q0 q1 r] [] sz [.ref q0, .int p1, .int p2]) (Q_P_executeOperandG0 dC dI q0 q1 p1 p2 r (va_A [c_P q0 q1 r] sz)) 0 0 (va_A [c_P q0 q1 r] sz) := by
  refine hdX (cc := b_P_executeOperandG0) (maxL := 3) (ret := none) (C := R_P) (Qc := (Q_P_executeOperandG0 dC dI q0 q1 p1 p2 r)) (by decide) rfl ?_
  intro p e s m below meth c A H hx hb hr hlocks hml hown hin htB hP hK hD hA hA0 hE hS
  have hl := lv_entry ([.ref q0, .int p1, .int p2]) (n := 3) (Nat.le_of_ble_eq_true rfl)
  rw [lg_entry_eq]
  generalize (lg_sl ([.ref q0, .int p1, .int p2]) ++ List.replicate (3 - (lg_sl ([.ref q0, .int p1, .int p2])).length) Slot.unset).toArray = ls at hl ⊢
  have hl : lv_has ls 3 [(0, .ref q0), (1, .int p1), (2, .int p2)] := hl
  refine lv_iload_n hx hb d_P_executeOperandG0_0 rfl (lv_at hl 1 rfl) ?_
  by_cases c_1 : p1 = (1 : Int32)
  · refine lv_lookup (off := 35) (tgt := 36) hx hb d_P_executeOperandG0_1 (by decide) (by rw [c_1]; first | done | rfl) (by decide) ?_
    refine lv_aload_n hx hb d_P_executeOperandG0_36 rfl (lv_at hl 0 rfl) ?_
    refine lv_aload_n hx hb d_P_executeOperandG0_37 rfl (lv_at hl 0 rfl) ?_
    refine va_get (D := (dC, dI)) (ci := 1) (v := .int (r 0)) (C := R_P) (T := F_P) (N := 13) hx hb htB i_P hown hK hP 0 rfl rfl 1 (by decide) (htB _ mw_59) (fun _ h9 => h9) rfl d_P_executeOperandG0_38 ?_
    refine lv_iload_n hx hb d_P_executeOperandG0_41 rfl (lv_at hl 2 rfl) ?_
    refine lv_iand hx hb d_P_executeOperandG0_42 ?_
    refine lv_if_ne (tgt := 50) hx hb d_P_executeOperandG0_43 (by decide) (fun c_2 => ?_) (fun c_2 => ?_)
    · refine lv_iconst (v := 0) hx hb d_P_executeOperandG0_50 (by decide) ?_
      refine va_put (D := (dC, dI)) (ci := 1) (v := .int (0 : Int32)) (ty := .int) (C := R_P) (T := F_P) (N := 13) hx hb htB i_P t_P t_P_ok n_P hown hK hP hD hS 0 rfl rfl 8 (by decide) (htB _ mw_67) (fun _ h9 => h9) rfl (by decide +kernel) rfl rfl (Nat.le_of_ble_eq_true rfl) d_P_executeOperandG0_51 (fun H locs hP hD hS => ?_)
      have hP : va_P (dC, dI) classes [c_P q0 q1 (upd r 7 (0 : Int32))] H := hP
      have hD : va_D A [c_P q0 q1 (upd r 7 (0 : Int32))] := hD
      refine lv_aload_n hx hb d_P_executeOperandG0_54 rfl (lv_at hl 0 rfl) ?_
      refine lv_iload_n hx hb d_P_executeOperandG0_55 rfl (lv_at hl 2 rfl) ?_
      refine lv_bipush (v := 7) hx hb d_P_executeOperandG0_56 (by decide) ?_
      refine lv_ishr hx hb d_P_executeOperandG0_58 ?_
      refine lv_iconst (v := 1) hx hb d_P_executeOperandG0_59 (by decide) ?_
      refine lv_iand hx hb d_P_executeOperandG0_60 ?_
      refine va_put (D := (dC, dI)) (ci := 1) (v := .int ((p2 >>> ((7 : Int32) &&& 31)) &&& (1 : Int32))) (ty := .int) (C := R_P) (T := F_P) (N := 13) hx hb htB i_P t_P t_P_ok n_P hown hK hP hD hS 0 rfl rfl 6 (by decide) (htB _ mw_65) (fun _ h9 => h9) rfl (by decide +kernel) rfl rfl (Nat.le_of_ble_eq_true rfl) d_P_executeOperandG0_61 (fun H locs hP hD hS => ?_)
      have hP : va_P (dC, dI) classes [c_P q0 q1 (upd (upd r 7 (0 : Int32)) 5 ((p2 >>> ((7 : Int32) &&& 31)) &&& (1 : Int32)))] H := hP
      have hD : va_D A [c_P q0 q1 (upd (upd r 7 (0 : Int32)) 5 ((p2 >>> ((7 : Int32) &&& 31)) &&& (1 : Int32)))] := hD
      refine lv_aload_n hx hb d_P_executeOperandG0_64 rfl (lv_at hl 0 rfl) ?_
      refine lv_iload_n hx hb d_P_executeOperandG0_65 rfl (lv_at hl 2 rfl) ?_
      refine lv_bipush (v := 6) hx hb d_P_executeOperandG0_66 (by decide) ?_
      refine lv_ishr hx hb d_P_executeOperandG0_68 ?_
      refine lv_iconst (v := 1) hx hb d_P_executeOperandG0_69 (by decide) ?_
      refine lv_iand hx hb d_P_executeOperandG0_70 ?_
      refine va_put (D := (dC, dI)) (ci := 1) (v := .int ((p2 >>> ((6 : Int32) &&& 31)) &&& (1 : Int32))) (ty := .int) (C := R_P) (T := F_P) (N := 13) hx hb htB i_P t_P t_P_ok n_P hown hK hP hD hS 0 rfl rfl 7 (by decide) (htB _ mw_66) (fun _ h9 => h9) rfl (by decide +kernel) rfl rfl (Nat.le_of_ble_eq_true rfl) d_P_executeOperandG0_71 (fun H locs hP hD hS => ?_)
      have hP : va_P (dC, dI) classes [c_P q0 q1 (upd (upd (upd r 7 (0 : Int32)) 5 ((p2 >>> ((7 : Int32) &&& 31)) &&& (1 : Int32))) 6 ((p2 >>> ((6 : Int32) &&& 31)) &&& (1 : Int32)))] H := hP
      have hD : va_D A [c_P q0 q1 (upd (upd (upd r 7 (0 : Int32)) 5 ((p2 >>> ((7 : Int32) &&& 31)) &&& (1 : Int32))) 6 ((p2 >>> ((6 : Int32) &&& 31)) &&& (1 : Int32)))] := hD
      refine lv_goto (tgt := 110) hx hb d_P_executeOperandG0_74 (by decide) ?_
      have hf : f_P_executeOperandG0 p1 p2 r = (upd (upd (upd r 7 (0 : Int32)) 5 ((p2 >>> ((7 : Int32) &&& 31)) &&& (1 : Int32))) 6 ((p2 >>> ((6 : Int32) &&& 31)) &&& (1 : Int32))) := by rw [f_P_executeOperandG0, if_pos c_1, if_neg c_2]
      exact W.vret hx hb hr (fun t ht hW => ⟨⟨(), rfl, trivial, by rw [hf]; exact ⟨by rw [ht]; exact hP, va_K.moved hW.alike hK, hD⟩⟩, hS.F ht⟩) hS.2.2 d_P_executeOperandG0_110
    · refine lv_iconst (v := 1) hx hb d_P_executeOperandG0_46 (by decide) ?_
      refine lv_goto (tgt := 51) hx hb d_P_executeOperandG0_47 (by decide) ?_
      refine va_put (D := (dC, dI)) (ci := 1) (v := .int (1 : Int32)) (ty := .int) (C := R_P) (T := F_P) (N := 13) hx hb htB i_P t_P t_P_ok n_P hown hK hP hD hS 0 rfl rfl 8 (by decide) (htB _ mw_67) (fun _ h9 => h9) rfl (by decide +kernel) rfl rfl (Nat.le_of_ble_eq_true rfl) d_P_executeOperandG0_51 (fun H locs hP hD hS => ?_)
      have hP : va_P (dC, dI) classes [c_P q0 q1 (upd r 7 (1 : Int32))] H := hP
      have hD : va_D A [c_P q0 q1 (upd r 7 (1 : Int32))] := hD
      refine lv_aload_n hx hb d_P_executeOperandG0_54 rfl (lv_at hl 0 rfl) ?_
      refine lv_iload_n hx hb d_P_executeOperandG0_55 rfl (lv_at hl 2 rfl) ?_
      refine lv_bipush (v := 7) hx hb d_P_executeOperandG0_56 (by decide) ?_
      refine lv_ishr hx hb d_P_executeOperandG0_58 ?_
      refine lv_iconst (v := 1) hx hb d_P_executeOperandG0_59 (by decide) ?_
      refine lv_iand hx hb d_P_executeOperandG0_60 ?_
      refine va_put (D := (dC, dI)) (ci := 1) (v := .int ((p2 >>> ((7 : Int32) &&& 31)) &&& (1 : Int32))) (ty := .int) (C := R_P) (T := F_P) (N := 13) hx hb htB i_P t_P t_P_ok n_P hown hK hP hD hS 0 rfl rfl 6 (by decide) (htB _ mw_65) (fun _ h9 => h9) rfl (by decide +kernel) rfl rfl (Nat.le_of_ble_eq_true rfl) d_P_executeOperandG0_61 (fun H locs hP hD hS => ?_)
      have hP : va_P (dC, dI) classes [c_P q0 q1 (upd (upd r 7 (1 : Int32)) 5 ((p2 >>> ((7 : Int32) &&& 31)) &&& (1 : Int32)))] H := hP
      have hD : va_D A [c_P q0 q1 (upd (upd r 7 (1 : Int32)) 5 ((p2 >>> ((7 : Int32) &&& 31)) &&& (1 : Int32)))] := hD
      refine lv_aload_n hx hb d_P_executeOperandG0_64 rfl (lv_at hl 0 rfl) ?_
      refine lv_iload_n hx hb d_P_executeOperandG0_65 rfl (lv_at hl 2 rfl) ?_
      refine lv_bipush (v := 6) hx hb d_P_executeOperandG0_66 (by decide) ?_
      refine lv_ishr hx hb d_P_executeOperandG0_68 ?_
      refine lv_iconst (v := 1) hx hb d_P_executeOperandG0_69 (by decide) ?_
      refine lv_iand hx hb d_P_executeOperandG0_70 ?_
      refine va_put (D := (dC, dI)) (ci := 1) (v := .int ((p2 >>> ((6 : Int32) &&& 31)) &&& (1 : Int32))) (ty := .int) (C := R_P) (T := F_P) (N := 13) hx hb htB i_P t_P t_P_ok n_P hown hK hP hD hS 0 rfl rfl 7 (by decide) (htB _ mw_66) (fun _ h9 => h9) rfl (by decide +kernel) rfl rfl (Nat.le_of_ble_eq_true rfl) d_P_executeOperandG0_71 (fun H locs hP hD hS => ?_)
      have hP : va_P (dC, dI) classes [c_P q0 q1 (upd (upd (upd r 7 (1 : Int32)) 5 ((p2 >>> ((7 : Int32) &&& 31)) &&& (1 : Int32))) 6 ((p2 >>> ((6 : Int32) &&& 31)) &&& (1 : Int32)))] H := hP
      have hD : va_D A [c_P q0 q1 (upd (upd (upd r 7 (1 : Int32)) 5 ((p2 >>> ((7 : Int32) &&& 31)) &&& (1 : Int32))) 6 ((p2 >>> ((6 : Int32) &&& 31)) &&& (1 : Int32)))] := hD
      refine lv_goto (tgt := 110) hx hb d_P_executeOperandG0_74 (by decide) ?_
      have hf : f_P_executeOperandG0 p1 p2 r = (upd (upd (upd r 7 (1 : Int32)) 5 ((p2 >>> ((7 : Int32) &&& 31)) &&& (1 : Int32))) 6 ((p2 >>> ((6 : Int32) &&& 31)) &&& (1 : Int32))) := by rw [f_P_executeOperandG0, if_pos c_1, if_pos c_2]
      exact W.vret hx hb hr (fun t ht hW => ⟨⟨(), rfl, trivial, by rw [hf]; exact ⟨by rw [ht]; exact hP, va_K.moved hW.alike hK, hD⟩⟩, hS.F ht⟩) hS.2.2 d_P_executeOperandG0_110
  · by_cases c_2 : p1 = (5 : Int32)
    · refine lv_lookup (off := 76) (tgt := 77) hx hb d_P_executeOperandG0_1 (by decide) (by rw [c_2]; first | done | rfl) (by decide) ?_
      refine lv_aload_n hx hb d_P_executeOperandG0_77 rfl (lv_at hl 0 rfl) ?_
      refine lv_aload_n hx hb d_P_executeOperandG0_78 rfl (lv_at hl 0 rfl) ?_
      refine lv_iload_n hx hb d_P_executeOperandG0_79 rfl (lv_at hl 2 rfl) ?_
      have hPc := hP.sub (ws' := [c_P q0 q1 r]) [0] rfl
      have hDc := hD.sub (ws' := [c_P q0 q1 r]) [0] (by decide) rfl
      have hKc := hK.sub (tys' := []) [] rfl
      have hFc := va_free (wc := [c_P q0 q1 r]) hD hS hA [0] rfl
      refine va_calli (va_runV (As := [.int p2]) (rest := [.ref q0]) ⟨hx, hb, hml, hown, htB⟩ (c_P_set l dC dI z0 q0 q1 H.size p2 r) (cwV 1 htB (gd_V mw_322 mw_324 sw_P_set mw_2 mw_325) rfl rfl rfl (by decide +kernel) ⟨Nat.le_of_ble_eq_true rfl, Nat.le_of_ble_eq_true rfl⟩) (pcx_V (va_recv hKc hPc (ci := 1) (q0 := 0) rfl rfl) hPc hKc hDc hA0 hE hS) rfl rfl hl.1 rfl (lv_room (Nat.le_of_ble_eq_true rfl)) d_P_executeOperandG0_80 ⟨Nat.zero_le _, Nat.zero_le _⟩) hS (fun q _ h => hFc q h) hFc (fun r9 u t H1 locs ht hvm hw hB hz1 hk1 hS => ?_)
      subst hw
      obtain ⟨hP1, hK1, hD1⟩ := hB
      rw [ht] at hP1
      obtain ⟨hP, hD⟩ := va_join (wr := []) (w1 := [c_P q0 q1 ((f_P_set p2 r).2)]) hP hD [0] [] rfl rfl (by decide) (by decide) hk1 hFc hP1 hD1
      generalize H1 = H at hP hS ⊢
      have hP : va_P (dC, dI) classes [c_P q0 q1 ((f_P_set p2 r).2)] H := hP.sub [0] rfl
      have hD : va_D A [c_P q0 q1 ((f_P_set p2 r).2)] := hD.sub [0] (by decide) rfl
      refine va_put (D := (dC, dI)) (ci := 1) (v := .int ((f_P_set p2 r).1)) (ty := .int) (C := R_P) (T := F_P) (N := 13) hx hb htB i_P t_P t_P_ok n_P hown hK hP hD hS 0 rfl rfl 3 (by decide) (htB _ mw_61) (fun _ h9 => h9) rfl (by decide +kernel) rfl rfl (Nat.le_of_ble_eq_true rfl) d_P_executeOperandG0_83 (fun H locs hP hD hS => ?_)
      have hP : va_P (dC, dI) classes [c_P q0 q1 (upd ((f_P_set p2 r).2) 2 ((f_P_set p2 r).1))] H := hP
      have hD : va_D A [c_P q0 q1 (upd ((f_P_set p2 r).2) 2 ((f_P_set p2 r).1))] := hD
      refine lv_goto (tgt := 110) hx hb d_P_executeOperandG0_86 (by decide) ?_
      have hf : f_P_executeOperandG0 p1 p2 r = (upd ((f_P_set p2 r).2) 2 ((f_P_set p2 r).1)) := by rw [f_P_executeOperandG0, if_neg c_1, if_pos c_2]
      exact W.vret hx hb hr (fun t ht hW => ⟨⟨(), rfl, trivial, by rw [hf]; exact ⟨by rw [ht]; exact hP, va_K.moved hW.alike hK, hD⟩⟩, hS.F ht⟩) hS.2.2 d_P_executeOperandG0_110
    · by_cases c_3 : p1 = (6 : Int32)
      · refine lv_lookup (off := 88) (tgt := 89) hx hb d_P_executeOperandG0_1 (by decide) (by rw [c_3]; first | done | rfl) (by decide) ?_
        refine lv_aload_n hx hb d_P_executeOperandG0_89 rfl (lv_at hl 0 rfl) ?_
        refine lv_aload_n hx hb d_P_executeOperandG0_90 rfl (lv_at hl 0 rfl) ?_
        refine va_get (D := (dC, dI)) (ci := 1) (v := .int (r 2)) (C := R_P) (T := F_P) (N := 13) hx hb htB i_P hown hK hP 0 rfl rfl 3 (by decide) (htB _ mw_61) (fun _ h9 => h9) rfl d_P_executeOperandG0_91 ?_
        refine lv_iload_n hx hb d_P_executeOperandG0_94 rfl (lv_at hl 2 rfl) ?_
        have hPc := hP.sub (ws' := [c_P q0 q1 r]) [0] rfl
        have hDc := hD.sub (ws' := [c_P q0 q1 r]) [0] (by decide) rfl
        have hKc := hK.sub (tys' := []) [] rfl
        have hFc := va_free (wc := [c_P q0 q1 r]) hD hS hA [0] rfl
        refine va_callv (va_runV (As := [.int (r 2), .int p2]) (rest := []) ⟨hx, hb, hml, hown, htB⟩ (c_P_compare l dC dI z0 q0 q1 H.size (r 2) p2 r) (cwV 2 htB (gd_V mw_330 mw_332 sw_P_compare mw_2 mw_333) rfl rfl rfl (by decide +kernel) ⟨Nat.le_of_ble_eq_true rfl, Nat.le_of_ble_eq_true rfl⟩) (pcx_V (va_recv hKc hPc (ci := 1) (q0 := 0) rfl rfl) hPc hKc hDc hA0 hE hS) rfl rfl hl.1 rfl (lv_room (Nat.le_of_ble_eq_true rfl)) d_P_executeOperandG0_95 ⟨Nat.zero_le _, Nat.zero_le _⟩) hS (fun q _ h => hFc q h) hFc (fun u t H1 locs ht hvm hw hB hz1 hk1 hS => ?_)
        obtain ⟨hP1, hK1, hD1⟩ := hB
        rw [ht] at hP1
        obtain ⟨hP, hD⟩ := va_join (wr := []) (w1 := [c_P q0 q1 (f_P_compare (r 2) p2 r)]) hP hD [0] [] rfl rfl (by decide) (by decide) hk1 hFc hP1 hD1
        generalize H1 = H at hP hS ⊢
        have hP : va_P (dC, dI) classes [c_P q0 q1 (f_P_compare (r 2) p2 r)] H := hP.sub [0] rfl
        have hD : va_D A [c_P q0 q1 (f_P_compare (r 2) p2 r)] := hD.sub [0] (by decide) rfl
        refine lv_goto (tgt := 110) hx hb d_P_executeOperandG0_98 (by decide) ?_
        have hf : f_P_executeOperandG0 p1 p2 r = (f_P_compare (r 2) p2 r) := by rw [f_P_executeOperandG0, if_neg c_1, if_neg c_2, if_pos c_3]
        exact W.vret hx hb hr (fun t ht hW => ⟨⟨(), rfl, trivial, by rw [hf]; exact ⟨by rw [ht]; exact hP, va_K.moved hW.alike hK, hD⟩⟩, hS.F ht⟩) hS.2.2 d_P_executeOperandG0_110
      · refine lv_lookup (off := 100) (tgt := 101) hx hb d_P_executeOperandG0_1 (by decide) (by simp only [lv_osw c_1 (show (1 : Int32).toInt = 1 from by decide), lv_osw c_2 (show (5 : Int32).toInt = 5 from by decide), lv_osw c_3 (show (6 : Int32).toInt = 6 from by decide)]; first | done | rfl) (by decide) ?_
        refine lv_aload_n hx hb d_P_executeOperandG0_101 rfl (lv_at hl 0 rfl) ?_
        refine lv_aload_n hx hb d_P_executeOperandG0_102 rfl (lv_at hl 0 rfl) ?_
        refine va_get (D := (dC, dI)) (ci := 1) (v := .int (r 1)) (C := R_P) (T := F_P) (N := 13) hx hb htB i_P hown hK hP 0 rfl rfl 2 (by decide) (htB _ mw_60) (fun _ h9 => h9) rfl d_P_executeOperandG0_103 ?_
        refine lv_iload_n hx hb d_P_executeOperandG0_106 rfl (lv_at hl 2 rfl) ?_
        have hPc := hP.sub (ws' := [c_P q0 q1 r]) [0] rfl
        have hDc := hD.sub (ws' := [c_P q0 q1 r]) [0] (by decide) rfl
        have hKc := hK.sub (tys' := []) [] rfl
        have hFc := va_free (wc := [c_P q0 q1 r]) hD hS hA [0] rfl
        refine va_callv (va_runV (As := [.int (r 1), .int p2]) (rest := []) ⟨hx, hb, hml, hown, htB⟩ (c_P_compare l dC dI z0 q0 q1 H.size (r 1) p2 r) (cwV 2 htB (gd_V mw_330 mw_332 sw_P_compare mw_2 mw_333) rfl rfl rfl (by decide +kernel) ⟨Nat.le_of_ble_eq_true rfl, Nat.le_of_ble_eq_true rfl⟩) (pcx_V (va_recv hKc hPc (ci := 1) (q0 := 0) rfl rfl) hPc hKc hDc hA0 hE hS) rfl rfl hl.1 rfl (lv_room (Nat.le_of_ble_eq_true rfl)) d_P_executeOperandG0_107 ⟨Nat.zero_le _, Nat.zero_le _⟩) hS (fun q _ h => hFc q h) hFc (fun u t H1 locs ht hvm hw hB hz1 hk1 hS => ?_)
        obtain ⟨hP1, hK1, hD1⟩ := hB
        rw [ht] at hP1
        obtain ⟨hP, hD⟩ := va_join (wr := []) (w1 := [c_P q0 q1 (f_P_compare (r 1) p2 r)]) hP hD [0] [] rfl rfl (by decide) (by decide) hk1 hFc hP1 hD1
        generalize H1 = H at hP hS ⊢
        have hP : va_P (dC, dI) classes [c_P q0 q1 (f_P_compare (r 1) p2 r)] H := hP.sub [0] rfl
        have hD : va_D A [c_P q0 q1 (f_P_compare (r 1) p2 r)] := hD.sub [0] (by decide) rfl
        have hf : f_P_executeOperandG0 p1 p2 r = (f_P_compare (r 1) p2 r) := by rw [f_P_executeOperandG0, if_neg c_1, if_neg c_2, if_neg c_3]
        exact W.vret hx hb hr (fun t ht hW => ⟨⟨(), rfl, trivial, by rw [hf]; exact ⟨by rw [ht]; exact hP, va_K.moved hW.alike hK, hD⟩⟩, hS.F ht⟩) hS.2.2 d_P_executeOperandG0_110
