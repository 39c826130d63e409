def f_P_change (p1 : Int32) (p2 : Int32) (r k M D : Nat → Int32) : Int32 × (Nat → Int32) × (Nat → Int32) × (Nat → Int32) × (Nat → Int32) :=
  if p2 = (9 : Int32) then
    if (1 : Int32) < p1 then
      if (3 : Int32) < p1 then
        ((0 : Int32), (f_P_set (f_P_changed p1 ((f_P_operand p2 r k M D).1) r) (upd r 0 (f_P_changed p1 ((f_P_operand p2 r k M D).1) r))).2, (f_P_operand p2 r k M D).2, M, D)
      else
        ((0 : Int32), (f_P_set (f_P_changed p1 ((f_P_operand p2 r k M D).1) r) (upd (upd r 0 (f_P_changed p1 ((f_P_operand p2 r k M D).1) r)) 8 (((f_P_operand p2 r k M D).1) &&& (1 : Int32)))).2, (f_P_operand p2 r k M D).2, M, D)
    else
      ((0 : Int32), (f_P_set (f_P_changed p1 ((f_P_operand p2 r k M D).1) r) (upd (upd r 0 (f_P_changed p1 ((f_P_operand p2 r k M D).1) r)) 8 (((f_P_operand p2 r k M D).1) >>> ((7 : Int32) &&& 31)))).2, (f_P_operand p2 r k M D).2, M, D)
  else
    if ((f_B_writeByte (r 10) (f_P_changed p1 ((f_P_operand p2 r k M D).1) r) ((f_P_operand p2 r k M D).2) M D).1) = (0 : Int32) then
      if (1 : Int32) < p1 then
        if (3 : Int32) < p1 then
          ((0 : Int32), (f_P_set (f_P_changed p1 ((f_P_operand p2 r k M D).1) r) r).2, (f_B_writeByte (r 10) (f_P_changed p1 ((f_P_operand p2 r k M D).1) r) ((f_P_operand p2 r k M D).2) M D).2.1, (f_B_writeByte (r 10) (f_P_changed p1 ((f_P_operand p2 r k M D).1) r) ((f_P_operand p2 r k M D).2) M D).2.2.1, (f_B_writeByte (r 10) (f_P_changed p1 ((f_P_operand p2 r k M D).1) r) ((f_P_operand p2 r k M D).2) M D).2.2.2)
        else
          ((0 : Int32), (f_P_set (f_P_changed p1 ((f_P_operand p2 r k M D).1) r) (upd r 8 (((f_P_operand p2 r k M D).1) &&& (1 : Int32)))).2, (f_B_writeByte (r 10) (f_P_changed p1 ((f_P_operand p2 r k M D).1) r) ((f_P_operand p2 r k M D).2) M D).2.1, (f_B_writeByte (r 10) (f_P_changed p1 ((f_P_operand p2 r k M D).1) r) ((f_P_operand p2 r k M D).2) M D).2.2.1, (f_B_writeByte (r 10) (f_P_changed p1 ((f_P_operand p2 r k M D).1) r) ((f_P_operand p2 r k M D).2) M D).2.2.2)
      else
        ((0 : Int32), (f_P_set (f_P_changed p1 ((f_P_operand p2 r k M D).1) r) (upd r 8 (((f_P_operand p2 r k M D).1) >>> ((7 : Int32) &&& 31)))).2, (f_B_writeByte (r 10) (f_P_changed p1 ((f_P_operand p2 r k M D).1) r) ((f_P_operand p2 r k M D).2) M D).2.1, (f_B_writeByte (r 10) (f_P_changed p1 ((f_P_operand p2 r k M D).1) r) ((f_P_operand p2 r k M D).2) M D).2.2.1, (f_B_writeByte (r 10) (f_P_changed p1 ((f_P_operand p2 r k M D).1) r) ((f_P_operand p2 r k M D).2) M D).2.2.2)
    else
      ((f_B_writeByte (r 10) (f_P_changed p1 ((f_P_operand p2 r k M D).1) r) ((f_P_operand p2 r k M D).2) M D).1, r, (f_B_writeByte (r 10) (f_P_changed p1 ((f_P_operand p2 r k M D).1) r) ((f_P_operand p2 r k M D).2) M D).2.1, (f_B_writeByte (r 10) (f_P_changed p1 ((f_P_operand p2 r k M D).1) r) ((f_P_operand p2 r k M D).2) M D).2.2.1, (f_B_writeByte (r 10) (f_P_changed p1 ((f_P_operand p2 r k M D).1) r) ((f_P_operand p2 r k M D).2) M D).2.2.2)
abbrev Q_P_change (dC : Nat → ClassId) (dI : Nat → Nat → Nat) (q0 : Nat) (q1 : Nat) (q2 : Nat) (q3 : Nat) (cM : ClassId) (cD : ClassId) (p1 : Int32) (p2 : Int32) (r k M D : Nat → Int32) (A : Nat → Prop) : Array Value → State → Outcome → State → Prop := va_Qi (fun (r9 : Int32) (_ : Unit) => r9 = (f_P_change p1 p2 r k M D).1) (fun _ t => atW (dC, dI) classes A [c_P q0 q1 ((f_P_change p1 p2 r k M D).2.1), c_B q1 q2 q3 ((f_P_change p1 p2 r k M D).2.2.1), c_A q2 cM 1024 ((f_P_change p1 p2 r k M D).2.2.2.1), c_A q3 cD 256 ((f_P_change p1 p2 r k M D).2.2.2.2)] [(cM, .int), (cD, .int)] t) A
set_option maxHeartbeats 4000000 in
set_option maxRecDepth 100000 in
theorem c_P_change (l : Launch) (dC : Nat → ClassId) (dI : Nat → Nat → Nat) (z0 : Nat) (q0 : Nat) (q1 : Nat) (q2 : Nat) (q3 : Nat) (cM : ClassId) (cD : ClassId) (sz : Nat) (p1 : Int32) (p2 : Int32) (r k M D : Nat → Int32) (hsn : sn_ok k) : Met l y_P_change w_P_change ({ frames := 3, cells := 0, slots := 0, locals := 85 }) (PcX (dC, dI) classes z0 [c_P q0 q1 r, c_B q1 q2 q3 k, c_A q2 cM 1024 M, c_A q3 cD 256 D] [(cM, .int), (cD, .int)] sz [.ref q0, .int p1, .int p2]) (Q_P_change dC dI q0 q1 q2 q3 cM cD p1 p2 r k M D (va_A [c_P q0 q1 r, c_B q1 q2 q3 k, c_A q2 cM 1024 M, c_A q3 cD 256 D] sz)) 0 0 (va_A [c_P q0 q1 r, c_B q1 q2 q3 k, c_A q2 cM 1024 M, c_A q3 cD 256 D] sz) := by
  refine hdX (cc := b_P_change) (maxL := 6) (ret := (some .int)) (C := R_P) (Qc := (Q_P_change dC dI q0 q1 q2 q3 cM cD p1 p2 r k M D)) (by decide) rfl ?_
  intro p e s m below meth c A H hx hb hr hlocks hml hown hin htB hP hK hD hA hA0 hE hS
  have hl := lv_entry ([.ref q0, .int p1, .int p2]) (n := 6) (Nat.le_of_ble_eq_true rfl)
  rw [lg_entry_eq]
  generalize (lg_sl ([.ref q0, .int p1, .int p2]) ++ List.replicate (6 - (lg_sl ([.ref q0, .int p1, .int p2])).length) Slot.unset).toArray = ls at hl ⊢
  have hl : lv_has ls 6 [(0, .ref q0), (1, .int p1), (2, .int p2)] := hl
  refine lv_aload_n hx hb d_P_change_0 rfl (lv_at hl 0 rfl) ?_
  refine lv_iload_n hx hb d_P_change_1 rfl (lv_at hl 2 rfl) ?_
  have hPc := hP.sub (ws' := [c_P q0 q1 r, c_B q1 q2 q3 k, c_A q2 cM 1024 M, c_A q3 cD 256 D]) [0, 1, 2, 3] rfl
  have hDc := hD.sub (ws' := [c_P q0 q1 r, c_B q1 q2 q3 k, c_A q2 cM 1024 M, c_A q3 cD 256 D]) [0, 1, 2, 3] (by decide) rfl
  have hKc := hK.sub (tys' := [(cM, .int), (cD, .int)]) [0, 1] rfl
  have hFc := va_free (wc := [c_P q0 q1 r, c_B q1 q2 q3 k, c_A q2 cM 1024 M, c_A q3 cD 256 D]) hD hS hA [0, 1, 2, 3] rfl
  refine va_calli (va_runV (As := [.int p2]) (rest := []) ⟨hx, hb, hml, hown, htB⟩ (c_P_operand l dC dI z0 q0 q1 q2 q3 cM cD H.size p2 r k M D) (cwV 1 htB (gd_V mw_318 mw_320 sw_P_operand mw_2 mw_321) rfl rfl rfl (by decide +kernel) ⟨Nat.le_of_ble_eq_true rfl, Nat.le_of_ble_eq_true rfl⟩) (pcx_V (va_recv hKc hPc (ci := 1) (q0 := 0) rfl rfl) hPc hKc hDc hA0 hE hS) rfl rfl hl.1 rfl (lv_room (Nat.le_of_ble_eq_true rfl)) d_P_change_2 ⟨Nat.zero_le _, Nat.zero_le _⟩) hS (fun q _ h => hFc q h) hFc (fun r9 u t H1 locs ht hvm hw hB hz1 hk1 hS => ?_)
  subst hw
  obtain ⟨hP1, hK1, hD1⟩ := hB
  rw [ht] at hP1
  obtain ⟨hP, hD⟩ := va_join (wr := []) (w1 := [c_P q0 q1 r, c_B q1 q2 q3 ((f_P_operand p2 r k M D).2), c_A q2 cM 1024 M, c_A q3 cD 256 D]) hP hD [0, 1, 2, 3] [] rfl rfl (by decide) (by decide) hk1 hFc hP1 hD1
  generalize H1 = H at hP hS ⊢
  have hP : va_P (dC, dI) classes [c_P q0 q1 r, c_B q1 q2 q3 ((f_P_operand p2 r k M D).2), c_A q2 cM 1024 M, c_A q3 cD 256 D] H := hP.sub [0, 1, 2, 3] rfl
  have hD : va_D A [c_P q0 q1 r, c_B q1 q2 q3 ((f_P_operand p2 r k M D).2), c_A q2 cM 1024 M, c_A q3 cD 256 D] := hD.sub [0, 1, 2, 3] (by decide) rfl
  refine lv_istore_n (lv' := [(3, .int ((f_P_operand p2 r k M D).1)), (0, .ref q0), (1, .int p1), (2, .int p2)]) hx hb d_P_change_5 rfl hl (by decide) rfl (fun ls hl => ?_)
  refine lv_aload_n hx hb d_P_change_6 rfl (lv_at hl 1 rfl) ?_
  refine lv_iload_n hx hb d_P_change_7 rfl (lv_at hl 2 rfl) ?_
  refine lv_iload_n hx hb d_P_change_8 rfl (lv_at hl 0 rfl) ?_
  have hPc := hP.sub (ws' := [c_P q0 q1 r]) [0] rfl
  have hDc := hD.sub (ws' := [c_P q0 q1 r]) [0] (by decide) rfl
  have hKc := hK.sub (tys' := []) [] rfl
  have hFc := va_free (wc := [c_P q0 q1 r]) hD hS hA [0] rfl
  refine va_calli (va_runV (As := [.int p1, .int ((f_P_operand p2 r k M D).1)]) (rest := []) ⟨hx, hb, hml, hown, htB⟩ (c_P_changed l dC dI z0 q0 q1 H.size p1 ((f_P_operand p2 r k M D).1) r) (cwV 2 htB (gd_V mw_346 mw_348 sw_P_changed mw_2 mw_349) rfl rfl rfl (by decide +kernel) ⟨Nat.le_of_ble_eq_true rfl, Nat.le_of_ble_eq_true rfl⟩) (pcx_V (va_recv hKc hPc (ci := 1) (q0 := 0) rfl rfl) hPc hKc hDc hA0 hE hS) rfl rfl hl.1 rfl (lv_room (Nat.le_of_ble_eq_true rfl)) d_P_change_9 ⟨Nat.zero_le _, Nat.zero_le _⟩) hS (fun q _ h => hFc q h) hFc (fun r9 u t H1 locs ht hvm hw hB hz1 hk1 hS => ?_)
  subst hw
  obtain ⟨hP1, hK1, hD1⟩ := hB
  rw [ht] at hP1
  obtain ⟨hP, hD⟩ := va_join (wr := [c_B q1 q2 q3 ((f_P_operand p2 r k M D).2), c_A q2 cM 1024 M, c_A q3 cD 256 D]) (w1 := [c_P q0 q1 r]) hP hD [0] [1, 2, 3] rfl rfl (by decide) (by decide) hk1 hFc hP1 hD1
  generalize H1 = H at hP hS ⊢
  have hP : va_P (dC, dI) classes [c_P q0 q1 r, c_B q1 q2 q3 ((f_P_operand p2 r k M D).2), c_A q2 cM 1024 M, c_A q3 cD 256 D] H := hP.sub [3, 0, 1, 2] rfl
  have hD : va_D A [c_P q0 q1 r, c_B q1 q2 q3 ((f_P_operand p2 r k M D).2), c_A q2 cM 1024 M, c_A q3 cD 256 D] := hD.sub [3, 0, 1, 2] (by decide) rfl
  refine lv_istore (lv' := [(4, .int (f_P_changed p1 ((f_P_operand p2 r k M D).1) r)), (3, .int ((f_P_operand p2 r k M D).1)), (0, .ref q0), (1, .int p1), (2, .int p2)]) hx hb d_P_change_12 hl (by decide) rfl (fun ls hl => ?_)
  refine lv_iload_n hx hb d_P_change_14 rfl (lv_at hl 4 rfl) ?_
  refine lv_bipush (v := 9) hx hb d_P_change_15 (by decide) ?_
  refine lv_icmp_ne (tgt := 29) hx hb d_P_change_17 (by decide) (fun c_1 => ?_) (fun c_1 => ?_)
  · refine lv_aload_n hx hb d_P_change_29 rfl (lv_at hl 2 rfl) ?_
    refine va_get (D := (dC, dI)) (ci := 1) (v := .ref q1) (C := R_P) (T := F_P) (N := 13) hx hb htB i_P hown hK hP 0 rfl rfl 0 (by decide) (htB _ mw_57) (fun _ h9 => h9) rfl d_P_change_30 ?_
    refine lv_aload_n hx hb d_P_change_33 rfl (lv_at hl 2 rfl) ?_
    refine va_get (D := (dC, dI)) (ci := 1) (v := .int (r 10)) (C := R_P) (T := F_P) (N := 13) hx hb htB i_P hown hK hP 0 rfl rfl 11 (by decide) (htB _ mw_70) (fun _ h9 => h9) rfl d_P_change_34 ?_
    refine lv_iload hx hb d_P_change_37 (lv_at hl 0 rfl) ?_
    have hPc := hP.sub (ws' := [c_B q1 q2 q3 ((f_P_operand p2 r k M D).2), c_A q2 cM 1024 M, c_A q3 cD 256 D]) [1, 2, 3] rfl
    have hDc := hD.sub (ws' := [c_B q1 q2 q3 ((f_P_operand p2 r k M D).2), c_A q2 cM 1024 M, c_A q3 cD 256 D]) [1, 2, 3] (by decide) rfl
    have hKc := hK.sub (tys' := [(cM, .int), (cD, .int)]) [0, 1] rfl
    have hFc := va_free (wc := [c_B q1 q2 q3 ((f_P_operand p2 r k M D).2), c_A q2 cM 1024 M, c_A q3 cD 256 D]) hD hS hA [1, 2, 3] rfl
    refine va_calli (va_runVN (As := [.int (r 10), .int (f_P_changed p1 ((f_P_operand p2 r k M D).1) r)]) (rest := []) ⟨hx, hb, hml, hown, htB⟩ (c_B_writeByte l dC dI z0 q1 q2 q3 cM cD H.size (r 10) (f_P_changed p1 ((f_P_operand p2 r k M D).1) r) ((f_P_operand p2 r k M D).2) M D (operand_sn hsn)) ⟨va_cnB 2 htB (gd_c mw_310) rfl rfl rfl (hE.2.1 _ ew_307) (htB _ mw_3) (by decide +kernel) ⟨Nat.le_of_ble_eq_true rfl, Nat.le_of_ble_eq_true rfl⟩, htB _ mw_309, htB _ sw_B_writeByte⟩ (pcx_V (va_recv hKc hPc (ci := 2) (q0 := 0) rfl rfl) hPc hKc hDc hA0 hE hS) rfl rfl hl.1 rfl (lv_room (Nat.le_of_ble_eq_true rfl)) d_P_change_39 ⟨Nat.zero_le _, Nat.zero_le _⟩) hS (fun q _ h => hFc q h) hFc (fun r9 u t H1 locs ht hvm hw hB hz1 hk1 hS => ?_)
    subst hw
    obtain ⟨hP1, hK1, hD1⟩ := hB
    rw [ht] at hP1
    obtain ⟨hP, hD⟩ := va_join (wr := [c_P q0 q1 r]) (w1 := [c_B q1 q2 q3 ((f_B_writeByte (r 10) (f_P_changed p1 ((f_P_operand p2 r k M D).1) r) ((f_P_operand p2 r k M D).2) M D).2.1), c_A q2 cM 1024 ((f_B_writeByte (r 10) (f_P_changed p1 ((f_P_operand p2 r k M D).1) r) ((f_P_operand p2 r k M D).2) M D).2.2.1), c_A q3 cD 256 ((f_B_writeByte (r 10) (f_P_changed p1 ((f_P_operand p2 r k M D).1) r) ((f_P_operand p2 r k M D).2) M D).2.2.2)]) hP hD [1, 2, 3] [0] rfl rfl (by decide) (by decide) hk1 hFc hP1 hD1
    generalize H1 = H at hP hS ⊢
    have hP : va_P (dC, dI) classes [c_P q0 q1 r, c_B q1 q2 q3 ((f_B_writeByte (r 10) (f_P_changed p1 ((f_P_operand p2 r k M D).1) r) ((f_P_operand p2 r k M D).2) M D).2.1), c_A q2 cM 1024 ((f_B_writeByte (r 10) (f_P_changed p1 ((f_P_operand p2 r k M D).1) r) ((f_P_operand p2 r k M D).2) M D).2.2.1), c_A q3 cD 256 ((f_B_writeByte (r 10) (f_P_changed p1 ((f_P_operand p2 r k M D).1) r) ((f_P_operand p2 r k M D).2) M D).2.2.2)] H := hP.sub [0, 1, 2, 3] rfl
    have hD : va_D A [c_P q0 q1 r, c_B q1 q2 q3 ((f_B_writeByte (r 10) (f_P_changed p1 ((f_P_operand p2 r k M D).1) r) ((f_P_operand p2 r k M D).2) M D).2.1), c_A q2 cM 1024 ((f_B_writeByte (r 10) (f_P_changed p1 ((f_P_operand p2 r k M D).1) r) ((f_P_operand p2 r k M D).2) M D).2.2.1), c_A q3 cD 256 ((f_B_writeByte (r 10) (f_P_changed p1 ((f_P_operand p2 r k M D).1) r) ((f_P_operand p2 r k M D).2) M D).2.2.2)] := hD.sub [0, 1, 2, 3] (by decide) rfl
    refine lv_istore (lv' := [(5, .int ((f_B_writeByte (r 10) (f_P_changed p1 ((f_P_operand p2 r k M D).1) r) ((f_P_operand p2 r k M D).2) M D).1)), (4, .int (f_P_changed p1 ((f_P_operand p2 r k M D).1) r)), (3, .int ((f_P_operand p2 r k M D).1)), (0, .ref q0), (1, .int p1), (2, .int p2)]) hx hb d_P_change_42 hl (by decide) rfl (fun ls hl => ?_)
    refine lv_iload hx hb d_P_change_44 (lv_at hl 0 rfl) ?_
    refine lv_if_eq (tgt := 52) hx hb d_P_change_46 (by decide) (fun c_2 => ?_) (fun c_2 => ?_)
    · refine lv_iload_n hx hb d_P_change_52 rfl (lv_at hl 4 rfl) ?_
      refine lv_iconst (v := 1) hx hb d_P_change_53 (by decide) ?_
      refine lv_icmp_gt (tgt := 68) hx hb d_P_change_54 (by decide) (fun c_3 => ?_) (fun c_3 => ?_)
      · refine lv_iload_n hx hb d_P_change_68 rfl (lv_at hl 4 rfl) ?_
        refine lv_iconst (v := 3) hx hb d_P_change_69 (by decide) ?_
        refine lv_icmp_gt (tgt := 80) hx hb d_P_change_70 (by decide) (fun c_4 => ?_) (fun c_4 => ?_)
        · refine lv_aload_n hx hb d_P_change_80 rfl (lv_at hl 3 rfl) ?_
          refine lv_iload hx hb d_P_change_81 (lv_at hl 1 rfl) ?_
          have hPc := hP.sub (ws' := [c_P q0 q1 r]) [0] rfl
          have hDc := hD.sub (ws' := [c_P q0 q1 r]) [0] (by decide) rfl
          have hKc := hK.sub (tys' := []) [] rfl
          have hFc := va_free (wc := [c_P q0 q1 r]) hD hS hA [0] rfl
          refine va_calli (va_runV (As := [.int (f_P_changed p1 ((f_P_operand p2 r k M D).1) r)]) (rest := []) ⟨hx, hb, hml, hown, htB⟩ (c_P_set l dC dI z0 q0 q1 H.size (f_P_changed p1 ((f_P_operand p2 r k M D).1) r) r) (cwV 1 htB (gd_V mw_322 mw_324 sw_P_set mw_2 mw_325) rfl rfl rfl (by decide +kernel) ⟨Nat.le_of_ble_eq_true rfl, Nat.le_of_ble_eq_true rfl⟩) (pcx_V (va_recv hKc hPc (ci := 1) (q0 := 0) rfl rfl) hPc hKc hDc hA0 hE hS) rfl rfl hl.1 rfl (lv_room (Nat.le_of_ble_eq_true rfl)) d_P_change_83 ⟨Nat.zero_le _, Nat.zero_le _⟩) hS (fun q _ h => hFc q h) hFc (fun r9 u t H1 locs ht hvm hw hB hz1 hk1 hS => ?_)
          subst hw
          obtain ⟨hP1, hK1, hD1⟩ := hB
          rw [ht] at hP1
          obtain ⟨hP, hD⟩ := va_join (wr := [c_B q1 q2 q3 ((f_B_writeByte (r 10) (f_P_changed p1 ((f_P_operand p2 r k M D).1) r) ((f_P_operand p2 r k M D).2) M D).2.1), c_A q2 cM 1024 ((f_B_writeByte (r 10) (f_P_changed p1 ((f_P_operand p2 r k M D).1) r) ((f_P_operand p2 r k M D).2) M D).2.2.1), c_A q3 cD 256 ((f_B_writeByte (r 10) (f_P_changed p1 ((f_P_operand p2 r k M D).1) r) ((f_P_operand p2 r k M D).2) M D).2.2.2)]) (w1 := [c_P q0 q1 ((f_P_set (f_P_changed p1 ((f_P_operand p2 r k M D).1) r) r).2)]) hP hD [0] [1, 2, 3] rfl rfl (by decide) (by decide) hk1 hFc hP1 hD1
          generalize H1 = H at hP hS ⊢
          have hP : va_P (dC, dI) classes [c_P q0 q1 ((f_P_set (f_P_changed p1 ((f_P_operand p2 r k M D).1) r) r).2), c_B q1 q2 q3 ((f_B_writeByte (r 10) (f_P_changed p1 ((f_P_operand p2 r k M D).1) r) ((f_P_operand p2 r k M D).2) M D).2.1), c_A q2 cM 1024 ((f_B_writeByte (r 10) (f_P_changed p1 ((f_P_operand p2 r k M D).1) r) ((f_P_operand p2 r k M D).2) M D).2.2.1), c_A q3 cD 256 ((f_B_writeByte (r 10) (f_P_changed p1 ((f_P_operand p2 r k M D).1) r) ((f_P_operand p2 r k M D).2) M D).2.2.2)] H := hP.sub [3, 0, 1, 2] rfl
          have hD : va_D A [c_P q0 q1 ((f_P_set (f_P_changed p1 ((f_P_operand p2 r k M D).1) r) r).2), c_B q1 q2 q3 ((f_B_writeByte (r 10) (f_P_changed p1 ((f_P_operand p2 r k M D).1) r) ((f_P_operand p2 r k M D).2) M D).2.1), c_A q2 cM 1024 ((f_B_writeByte (r 10) (f_P_changed p1 ((f_P_operand p2 r k M D).1) r) ((f_P_operand p2 r k M D).2) M D).2.2.1), c_A q3 cD 256 ((f_B_writeByte (r 10) (f_P_changed p1 ((f_P_operand p2 r k M D).1) r) ((f_P_operand p2 r k M D).2) M D).2.2.2)] := hD.sub [3, 0, 1, 2] (by decide) rfl
          refine lv_pop hx hb d_P_change_86 rfl ?_
          refine lv_iconst (v := 0) hx hb d_P_change_87 (by decide) ?_
          have hf : f_P_change p1 p2 r k M D = ((0 : Int32), (f_P_set (f_P_changed p1 ((f_P_operand p2 r k M D).1) r) r).2, (f_B_writeByte (r 10) (f_P_changed p1 ((f_P_operand p2 r k M D).1) r) ((f_P_operand p2 r k M D).2) M D).2.1, (f_B_writeByte (r 10) (f_P_changed p1 ((f_P_operand p2 r k M D).1) r) ((f_P_operand p2 r k M D).2) M D).2.2.1, (f_B_writeByte (r 10) (f_P_changed p1 ((f_P_operand p2 r k M D).1) r) ((f_P_operand p2 r k M D).2) M D).2.2.2) := by rw [f_P_change, if_neg c_1, if_pos c_2, if_pos c_3, if_pos c_4]
          exact W.iret (v := (0 : Int32)) hx hb hr (fun t ht hW => ⟨⟨(0 : Int32), (), rfl, (congrArg (fun z => z.1) hf).symm, by rw [hf]; exact ⟨by rw [ht]; exact hP, va_K.moved hW.alike hK, hD⟩⟩, hS.F ht⟩) hS.2.2 d_P_change_88
        · refine lv_aload_n hx hb d_P_change_73 rfl (lv_at hl 3 rfl) ?_
          refine lv_iload_n hx hb d_P_change_74 rfl (lv_at hl 2 rfl) ?_
          refine lv_iconst (v := 1) hx hb d_P_change_75 (by decide) ?_
          refine lv_iand hx hb d_P_change_76 ?_
          refine va_put (D := (dC, dI)) (ci := 1) (v := .int (((f_P_operand p2 r k M D).1) &&& (1 : Int32))) (ty := .int) (C := R_P) (T := F_P) (N := 13) hx hb htB i_P t_P t_P_ok n_P hown hK hP hD hS 0 rfl rfl 9 (by decide) (htB _ mw_68) (fun _ h9 => h9) rfl (by decide +kernel) rfl rfl (Nat.le_of_ble_eq_true rfl) d_P_change_77 (fun H locs hP hD hS => ?_)
          have hP : va_P (dC, dI) classes [c_P q0 q1 (upd r 8 (((f_P_operand p2 r k M D).1) &&& (1 : Int32))), c_B q1 q2 q3 ((f_B_writeByte (r 10) (f_P_changed p1 ((f_P_operand p2 r k M D).1) r) ((f_P_operand p2 r k M D).2) M D).2.1), c_A q2 cM 1024 ((f_B_writeByte (r 10) (f_P_changed p1 ((f_P_operand p2 r k M D).1) r) ((f_P_operand p2 r k M D).2) M D).2.2.1), c_A q3 cD 256 ((f_B_writeByte (r 10) (f_P_changed p1 ((f_P_operand p2 r k M D).1) r) ((f_P_operand p2 r k M D).2) M D).2.2.2)] H := hP
          have hD : va_D A [c_P q0 q1 (upd r 8 (((f_P_operand p2 r k M D).1) &&& (1 : Int32))), c_B q1 q2 q3 ((f_B_writeByte (r 10) (f_P_changed p1 ((f_P_operand p2 r k M D).1) r) ((f_P_operand p2 r k M D).2) M D).2.1), c_A q2 cM 1024 ((f_B_writeByte (r 10) (f_P_changed p1 ((f_P_operand p2 r k M D).1) r) ((f_P_operand p2 r k M D).2) M D).2.2.1), c_A q3 cD 256 ((f_B_writeByte (r 10) (f_P_changed p1 ((f_P_operand p2 r k M D).1) r) ((f_P_operand p2 r k M D).2) M D).2.2.2)] := hD
          refine lv_aload_n hx hb d_P_change_80 rfl (lv_at hl 3 rfl) ?_
          refine lv_iload hx hb d_P_change_81 (lv_at hl 1 rfl) ?_
          have hPc := hP.sub (ws' := [c_P q0 q1 (upd r 8 (((f_P_operand p2 r k M D).1) &&& (1 : Int32)))]) [0] rfl
          have hDc := hD.sub (ws' := [c_P q0 q1 (upd r 8 (((f_P_operand p2 r k M D).1) &&& (1 : Int32)))]) [0] (by decide) rfl
          have hKc := hK.sub (tys' := []) [] rfl
          have hFc := va_free (wc := [c_P q0 q1 (upd r 8 (((f_P_operand p2 r k M D).1) &&& (1 : Int32)))]) hD hS hA [0] rfl
          refine va_calli (va_runV (As := [.int (f_P_changed p1 ((f_P_operand p2 r k M D).1) r)]) (rest := []) ⟨hx, hb, hml, hown, htB⟩ (c_P_set l dC dI z0 q0 q1 H.size (f_P_changed p1 ((f_P_operand p2 r k M D).1) r) (upd r 8 (((f_P_operand p2 r k M D).1) &&& (1 : Int32)))) (cwV 1 htB (gd_V mw_322 mw_324 sw_P_set mw_2 mw_325) rfl rfl rfl (by decide +kernel) ⟨Nat.le_of_ble_eq_true rfl, Nat.le_of_ble_eq_true rfl⟩) (pcx_V (va_recv hKc hPc (ci := 1) (q0 := 0) rfl rfl) hPc hKc hDc hA0 hE hS) rfl rfl hl.1 rfl (lv_room (Nat.le_of_ble_eq_true rfl)) d_P_change_83 ⟨Nat.zero_le _, Nat.zero_le _⟩) hS (fun q _ h => hFc q h) hFc (fun r9 u t H1 locs ht hvm hw hB hz1 hk1 hS => ?_)
          subst hw
          obtain ⟨hP1, hK1, hD1⟩ := hB
          rw [ht] at hP1
          obtain ⟨hP, hD⟩ := va_join (wr := [c_B q1 q2 q3 ((f_B_writeByte (r 10) (f_P_changed p1 ((f_P_operand p2 r k M D).1) r) ((f_P_operand p2 r k M D).2) M D).2.1), c_A q2 cM 1024 ((f_B_writeByte (r 10) (f_P_changed p1 ((f_P_operand p2 r k M D).1) r) ((f_P_operand p2 r k M D).2) M D).2.2.1), c_A q3 cD 256 ((f_B_writeByte (r 10) (f_P_changed p1 ((f_P_operand p2 r k M D).1) r) ((f_P_operand p2 r k M D).2) M D).2.2.2)]) (w1 := [c_P q0 q1 ((f_P_set (f_P_changed p1 ((f_P_operand p2 r k M D).1) r) (upd r 8 (((f_P_operand p2 r k M D).1) &&& (1 : Int32)))).2)]) hP hD [0] [1, 2, 3] rfl rfl (by decide) (by decide) hk1 hFc hP1 hD1
          generalize H1 = H at hP hS ⊢
          have hP : va_P (dC, dI) classes [c_P q0 q1 ((f_P_set (f_P_changed p1 ((f_P_operand p2 r k M D).1) r) (upd r 8 (((f_P_operand p2 r k M D).1) &&& (1 : Int32)))).2), c_B q1 q2 q3 ((f_B_writeByte (r 10) (f_P_changed p1 ((f_P_operand p2 r k M D).1) r) ((f_P_operand p2 r k M D).2) M D).2.1), c_A q2 cM 1024 ((f_B_writeByte (r 10) (f_P_changed p1 ((f_P_operand p2 r k M D).1) r) ((f_P_operand p2 r k M D).2) M D).2.2.1), c_A q3 cD 256 ((f_B_writeByte (r 10) (f_P_changed p1 ((f_P_operand p2 r k M D).1) r) ((f_P_operand p2 r k M D).2) M D).2.2.2)] H := hP.sub [3, 0, 1, 2] rfl
          have hD : va_D A [c_P q0 q1 ((f_P_set (f_P_changed p1 ((f_P_operand p2 r k M D).1) r) (upd r 8 (((f_P_operand p2 r k M D).1) &&& (1 : Int32)))).2), c_B q1 q2 q3 ((f_B_writeByte (r 10) (f_P_changed p1 ((f_P_operand p2 r k M D).1) r) ((f_P_operand p2 r k M D).2) M D).2.1), c_A q2 cM 1024 ((f_B_writeByte (r 10) (f_P_changed p1 ((f_P_operand p2 r k M D).1) r) ((f_P_operand p2 r k M D).2) M D).2.2.1), c_A q3 cD 256 ((f_B_writeByte (r 10) (f_P_changed p1 ((f_P_operand p2 r k M D).1) r) ((f_P_operand p2 r k M D).2) M D).2.2.2)] := hD.sub [3, 0, 1, 2] (by decide) rfl
          refine lv_pop hx hb d_P_change_86 rfl ?_
          refine lv_iconst (v := 0) hx hb d_P_change_87 (by decide) ?_
          have hf : f_P_change p1 p2 r k M D = ((0 : Int32), (f_P_set (f_P_changed p1 ((f_P_operand p2 r k M D).1) r) (upd r 8 (((f_P_operand p2 r k M D).1) &&& (1 : Int32)))).2, (f_B_writeByte (r 10) (f_P_changed p1 ((f_P_operand p2 r k M D).1) r) ((f_P_operand p2 r k M D).2) M D).2.1, (f_B_writeByte (r 10) (f_P_changed p1 ((f_P_operand p2 r k M D).1) r) ((f_P_operand p2 r k M D).2) M D).2.2.1, (f_B_writeByte (r 10) (f_P_changed p1 ((f_P_operand p2 r k M D).1) r) ((f_P_operand p2 r k M D).2) M D).2.2.2) := by rw [f_P_change, if_neg c_1, if_pos c_2, if_pos c_3, if_neg c_4]
          exact W.iret (v := (0 : Int32)) hx hb hr (fun t ht hW => ⟨⟨(0 : Int32), (), rfl, (congrArg (fun z => z.1) hf).symm, by rw [hf]; exact ⟨by rw [ht]; exact hP, va_K.moved hW.alike hK, hD⟩⟩, hS.F ht⟩) hS.2.2 d_P_change_88
      · refine lv_aload_n hx hb d_P_change_57 rfl (lv_at hl 3 rfl) ?_
        refine lv_iload_n hx hb d_P_change_58 rfl (lv_at hl 2 rfl) ?_
        refine lv_bipush (v := 7) hx hb d_P_change_59 (by decide) ?_
        refine lv_ishr hx hb d_P_change_61 ?_
        refine va_put (D := (dC, dI)) (ci := 1) (v := .int (((f_P_operand p2 r k M D).1) >>> ((7 : Int32) &&& 31))) (ty := .int) (C := R_P) (T := F_P) (N := 13) hx hb htB i_P t_P t_P_ok n_P hown hK hP hD hS 0 rfl rfl 9 (by decide) (htB _ mw_68) (fun _ h9 => h9) rfl (by decide +kernel) rfl rfl (Nat.le_of_ble_eq_true rfl) d_P_change_62 (fun H locs hP hD hS => ?_)
        have hP : va_P (dC, dI) classes [c_P q0 q1 (upd r 8 (((f_P_operand p2 r k M D).1) >>> ((7 : Int32) &&& 31))), c_B q1 q2 q3 ((f_B_writeByte (r 10) (f_P_changed p1 ((f_P_operand p2 r k M D).1) r) ((f_P_operand p2 r k M D).2) M D).2.1), c_A q2 cM 1024 ((f_B_writeByte (r 10) (f_P_changed p1 ((f_P_operand p2 r k M D).1) r) ((f_P_operand p2 r k M D).2) M D).2.2.1), c_A q3 cD 256 ((f_B_writeByte (r 10) (f_P_changed p1 ((f_P_operand p2 r k M D).1) r) ((f_P_operand p2 r k M D).2) M D).2.2.2)] H := hP
        have hD : va_D A [c_P q0 q1 (upd r 8 (((f_P_operand p2 r k M D).1) >>> ((7 : Int32) &&& 31))), c_B q1 q2 q3 ((f_B_writeByte (r 10) (f_P_changed p1 ((f_P_operand p2 r k M D).1) r) ((f_P_operand p2 r k M D).2) M D).2.1), c_A q2 cM 1024 ((f_B_writeByte (r 10) (f_P_changed p1 ((f_P_operand p2 r k M D).1) r) ((f_P_operand p2 r k M D).2) M D).2.2.1), c_A q3 cD 256 ((f_B_writeByte (r 10) (f_P_changed p1 ((f_P_operand p2 r k M D).1) r) ((f_P_operand p2 r k M D).2) M D).2.2.2)] := hD
        refine lv_goto (tgt := 80) hx hb d_P_change_65 (by decide) ?_
        refine lv_aload_n hx hb d_P_change_80 rfl (lv_at hl 3 rfl) ?_
        refine lv_iload hx hb d_P_change_81 (lv_at hl 1 rfl) ?_
        have hPc := hP.sub (ws' := [c_P q0 q1 (upd r 8 (((f_P_operand p2 r k M D).1) >>> ((7 : Int32) &&& 31)))]) [0] rfl
        have hDc := hD.sub (ws' := [c_P q0 q1 (upd r 8 (((f_P_operand p2 r k M D).1) >>> ((7 : Int32) &&& 31)))]) [0] (by decide) rfl
        have hKc := hK.sub (tys' := []) [] rfl
        have hFc := va_free (wc := [c_P q0 q1 (upd r 8 (((f_P_operand p2 r k M D).1) >>> ((7 : Int32) &&& 31)))]) hD hS hA [0] rfl
        refine va_calli (va_runV (As := [.int (f_P_changed p1 ((f_P_operand p2 r k M D).1) r)]) (rest := []) ⟨hx, hb, hml, hown, htB⟩ (c_P_set l dC dI z0 q0 q1 H.size (f_P_changed p1 ((f_P_operand p2 r k M D).1) r) (upd r 8 (((f_P_operand p2 r k M D).1) >>> ((7 : Int32) &&& 31)))) (cwV 1 htB (gd_V mw_322 mw_324 sw_P_set mw_2 mw_325) rfl rfl rfl (by decide +kernel) ⟨Nat.le_of_ble_eq_true rfl, Nat.le_of_ble_eq_true rfl⟩) (pcx_V (va_recv hKc hPc (ci := 1) (q0 := 0) rfl rfl) hPc hKc hDc hA0 hE hS) rfl rfl hl.1 rfl (lv_room (Nat.le_of_ble_eq_true rfl)) d_P_change_83 ⟨Nat.zero_le _, Nat.zero_le _⟩) hS (fun q _ h => hFc q h) hFc (fun r9 u t H1 locs ht hvm hw hB hz1 hk1 hS => ?_)
        subst hw
        obtain ⟨hP1, hK1, hD1⟩ := hB
        rw [ht] at hP1
        obtain ⟨hP, hD⟩ := va_join (wr := [c_B q1 q2 q3 ((f_B_writeByte (r 10) (f_P_changed p1 ((f_P_operand p2 r k M D).1) r) ((f_P_operand p2 r k M D).2) M D).2.1), c_A q2 cM 1024 ((f_B_writeByte (r 10) (f_P_changed p1 ((f_P_operand p2 r k M D).1) r) ((f_P_operand p2 r k M D).2) M D).2.2.1), c_A q3 cD 256 ((f_B_writeByte (r 10) (f_P_changed p1 ((f_P_operand p2 r k M D).1) r) ((f_P_operand p2 r k M D).2) M D).2.2.2)]) (w1 := [c_P q0 q1 ((f_P_set (f_P_changed p1 ((f_P_operand p2 r k M D).1) r) (upd r 8 (((f_P_operand p2 r k M D).1) >>> ((7 : Int32) &&& 31)))).2)]) hP hD [0] [1, 2, 3] rfl rfl (by decide) (by decide) hk1 hFc hP1 hD1
        generalize H1 = H at hP hS ⊢
        have hP : va_P (dC, dI) classes [c_P q0 q1 ((f_P_set (f_P_changed p1 ((f_P_operand p2 r k M D).1) r) (upd r 8 (((f_P_operand p2 r k M D).1) >>> ((7 : Int32) &&& 31)))).2), c_B q1 q2 q3 ((f_B_writeByte (r 10) (f_P_changed p1 ((f_P_operand p2 r k M D).1) r) ((f_P_operand p2 r k M D).2) M D).2.1), c_A q2 cM 1024 ((f_B_writeByte (r 10) (f_P_changed p1 ((f_P_operand p2 r k M D).1) r) ((f_P_operand p2 r k M D).2) M D).2.2.1), c_A q3 cD 256 ((f_B_writeByte (r 10) (f_P_changed p1 ((f_P_operand p2 r k M D).1) r) ((f_P_operand p2 r k M D).2) M D).2.2.2)] H := hP.sub [3, 0, 1, 2] rfl
        have hD : va_D A [c_P q0 q1 ((f_P_set (f_P_changed p1 ((f_P_operand p2 r k M D).1) r) (upd r 8 (((f_P_operand p2 r k M D).1) >>> ((7 : Int32) &&& 31)))).2), c_B q1 q2 q3 ((f_B_writeByte (r 10) (f_P_changed p1 ((f_P_operand p2 r k M D).1) r) ((f_P_operand p2 r k M D).2) M D).2.1), c_A q2 cM 1024 ((f_B_writeByte (r 10) (f_P_changed p1 ((f_P_operand p2 r k M D).1) r) ((f_P_operand p2 r k M D).2) M D).2.2.1), c_A q3 cD 256 ((f_B_writeByte (r 10) (f_P_changed p1 ((f_P_operand p2 r k M D).1) r) ((f_P_operand p2 r k M D).2) M D).2.2.2)] := hD.sub [3, 0, 1, 2] (by decide) rfl
        refine lv_pop hx hb d_P_change_86 rfl ?_
        refine lv_iconst (v := 0) hx hb d_P_change_87 (by decide) ?_
        have hf : f_P_change p1 p2 r k M D = ((0 : Int32), (f_P_set (f_P_changed p1 ((f_P_operand p2 r k M D).1) r) (upd r 8 (((f_P_operand p2 r k M D).1) >>> ((7 : Int32) &&& 31)))).2, (f_B_writeByte (r 10) (f_P_changed p1 ((f_P_operand p2 r k M D).1) r) ((f_P_operand p2 r k M D).2) M D).2.1, (f_B_writeByte (r 10) (f_P_changed p1 ((f_P_operand p2 r k M D).1) r) ((f_P_operand p2 r k M D).2) M D).2.2.1, (f_B_writeByte (r 10) (f_P_changed p1 ((f_P_operand p2 r k M D).1) r) ((f_P_operand p2 r k M D).2) M D).2.2.2) := by rw [f_P_change, if_neg c_1, if_pos c_2, if_neg c_3]
        exact W.iret (v := (0 : Int32)) hx hb hr (fun t ht hW => ⟨⟨(0 : Int32), (), rfl, (congrArg (fun z => z.1) hf).symm, by rw [hf]; exact ⟨by rw [ht]; exact hP, va_K.moved hW.alike hK, hD⟩⟩, hS.F ht⟩) hS.2.2 d_P_change_88
    · refine lv_iload hx hb d_P_change_49 (lv_at hl 0 rfl) ?_
      have hf : f_P_change p1 p2 r k M D = ((f_B_writeByte (r 10) (f_P_changed p1 ((f_P_operand p2 r k M D).1) r) ((f_P_operand p2 r k M D).2) M D).1, r, (f_B_writeByte (r 10) (f_P_changed p1 ((f_P_operand p2 r k M D).1) r) ((f_P_operand p2 r k M D).2) M D).2.1, (f_B_writeByte (r 10) (f_P_changed p1 ((f_P_operand p2 r k M D).1) r) ((f_P_operand p2 r k M D).2) M D).2.2.1, (f_B_writeByte (r 10) (f_P_changed p1 ((f_P_operand p2 r k M D).1) r) ((f_P_operand p2 r k M D).2) M D).2.2.2) := by rw [f_P_change, if_neg c_1, if_neg c_2]
      exact W.iret (v := (f_B_writeByte (r 10) (f_P_changed p1 ((f_P_operand p2 r k M D).1) r) ((f_P_operand p2 r k M D).2) M D).1) hx hb hr (fun t ht hW => ⟨⟨(f_B_writeByte (r 10) (f_P_changed p1 ((f_P_operand p2 r k M D).1) r) ((f_P_operand p2 r k M D).2) M D).1, (), rfl, (congrArg (fun z => z.1) hf).symm, by rw [hf]; exact ⟨by rw [ht]; exact hP, va_K.moved hW.alike hK, hD⟩⟩, hS.F ht⟩) hS.2.2 d_P_change_51
  · refine lv_aload_n hx hb d_P_change_20 rfl (lv_at hl 2 rfl) ?_
    refine lv_iload hx hb d_P_change_21 (lv_at hl 0 rfl) ?_
    refine va_put (D := (dC, dI)) (ci := 1) (v := .int (f_P_changed p1 ((f_P_operand p2 r k M D).1) r)) (ty := .int) (C := R_P) (T := F_P) (N := 13) hx hb htB i_P t_P t_P_ok n_P hown hK hP hD hS 0 rfl rfl 1 (by decide) (htB _ mw_59) (fun _ h9 => h9) rfl (by decide +kernel) rfl rfl (Nat.le_of_ble_eq_true rfl) d_P_change_23 (fun H locs hP hD hS => ?_)
    have hP : va_P (dC, dI) classes [c_P q0 q1 (upd r 0 (f_P_changed p1 ((f_P_operand p2 r k M D).1) r)), c_B q1 q2 q3 ((f_P_operand p2 r k M D).2), c_A q2 cM 1024 M, c_A q3 cD 256 D] H := hP
    have hD : va_D A [c_P q0 q1 (upd r 0 (f_P_changed p1 ((f_P_operand p2 r k M D).1) r)), c_B q1 q2 q3 ((f_P_operand p2 r k M D).2), c_A q2 cM 1024 M, c_A q3 cD 256 D] := hD
    refine lv_goto (tgt := 52) hx hb d_P_change_26 (by decide) ?_
    refine lv_iload_n hx hb d_P_change_52 rfl (lv_at hl 3 rfl) ?_
    refine lv_iconst (v := 1) hx hb d_P_change_53 (by decide) ?_
    refine lv_icmp_gt (tgt := 68) hx hb d_P_change_54 (by decide) (fun c_2 => ?_) (fun c_2 => ?_)
    · refine lv_iload_n hx hb d_P_change_68 rfl (lv_at hl 3 rfl) ?_
      refine lv_iconst (v := 3) hx hb d_P_change_69 (by decide) ?_
      refine lv_icmp_gt (tgt := 80) hx hb d_P_change_70 (by decide) (fun c_3 => ?_) (fun c_3 => ?_)
      · refine lv_aload_n hx hb d_P_change_80 rfl (lv_at hl 2 rfl) ?_
        refine lv_iload hx hb d_P_change_81 (lv_at hl 0 rfl) ?_
        have hPc := hP.sub (ws' := [c_P q0 q1 (upd r 0 (f_P_changed p1 ((f_P_operand p2 r k M D).1) r))]) [0] rfl
        have hDc := hD.sub (ws' := [c_P q0 q1 (upd r 0 (f_P_changed p1 ((f_P_operand p2 r k M D).1) r))]) [0] (by decide) rfl
        have hKc := hK.sub (tys' := []) [] rfl
        have hFc := va_free (wc := [c_P q0 q1 (upd r 0 (f_P_changed p1 ((f_P_operand p2 r k M D).1) r))]) hD hS hA [0] rfl
        refine va_calli (va_runV (As := [.int (f_P_changed p1 ((f_P_operand p2 r k M D).1) r)]) (rest := []) ⟨hx, hb, hml, hown, htB⟩ (c_P_set l dC dI z0 q0 q1 H.size (f_P_changed p1 ((f_P_operand p2 r k M D).1) r) (upd r 0 (f_P_changed p1 ((f_P_operand p2 r k M D).1) r))) (cwV 1 htB (gd_V mw_322 mw_324 sw_P_set mw_2 mw_325) rfl rfl rfl (by decide +kernel) ⟨Nat.le_of_ble_eq_true rfl, Nat.le_of_ble_eq_true rfl⟩) (pcx_V (va_recv hKc hPc (ci := 1) (q0 := 0) rfl rfl) hPc hKc hDc hA0 hE hS) rfl rfl hl.1 rfl (lv_room (Nat.le_of_ble_eq_true rfl)) d_P_change_83 ⟨Nat.zero_le _, Nat.zero_le _⟩) hS (fun q _ h => hFc q h) hFc (fun r9 u t H1 locs ht hvm hw hB hz1 hk1 hS => ?_)
        subst hw
        obtain ⟨hP1, hK1, hD1⟩ := hB
        rw [ht] at hP1
        obtain ⟨hP, hD⟩ := va_join (wr := [c_B q1 q2 q3 ((f_P_operand p2 r k M D).2), c_A q2 cM 1024 M, c_A q3 cD 256 D]) (w1 := [c_P q0 q1 ((f_P_set (f_P_changed p1 ((f_P_operand p2 r k M D).1) r) (upd r 0 (f_P_changed p1 ((f_P_operand p2 r k M D).1) r))).2)]) hP hD [0] [1, 2, 3] rfl rfl (by decide) (by decide) hk1 hFc hP1 hD1
        generalize H1 = H at hP hS ⊢
        have hP : va_P (dC, dI) classes [c_P q0 q1 ((f_P_set (f_P_changed p1 ((f_P_operand p2 r k M D).1) r) (upd r 0 (f_P_changed p1 ((f_P_operand p2 r k M D).1) r))).2), c_B q1 q2 q3 ((f_P_operand p2 r k M D).2), c_A q2 cM 1024 M, c_A q3 cD 256 D] H := hP.sub [3, 0, 1, 2] rfl
        have hD : va_D A [c_P q0 q1 ((f_P_set (f_P_changed p1 ((f_P_operand p2 r k M D).1) r) (upd r 0 (f_P_changed p1 ((f_P_operand p2 r k M D).1) r))).2), c_B q1 q2 q3 ((f_P_operand p2 r k M D).2), c_A q2 cM 1024 M, c_A q3 cD 256 D] := hD.sub [3, 0, 1, 2] (by decide) rfl
        refine lv_pop hx hb d_P_change_86 rfl ?_
        refine lv_iconst (v := 0) hx hb d_P_change_87 (by decide) ?_
        have hf : f_P_change p1 p2 r k M D = ((0 : Int32), (f_P_set (f_P_changed p1 ((f_P_operand p2 r k M D).1) r) (upd r 0 (f_P_changed p1 ((f_P_operand p2 r k M D).1) r))).2, (f_P_operand p2 r k M D).2, M, D) := by rw [f_P_change, if_pos c_1, if_pos c_2, if_pos c_3]
        exact W.iret (v := (0 : Int32)) hx hb hr (fun t ht hW => ⟨⟨(0 : Int32), (), rfl, (congrArg (fun z => z.1) hf).symm, by rw [hf]; exact ⟨by rw [ht]; exact hP, va_K.moved hW.alike hK, hD⟩⟩, hS.F ht⟩) hS.2.2 d_P_change_88
      · refine lv_aload_n hx hb d_P_change_73 rfl (lv_at hl 2 rfl) ?_
        refine lv_iload_n hx hb d_P_change_74 rfl (lv_at hl 1 rfl) ?_
        refine lv_iconst (v := 1) hx hb d_P_change_75 (by decide) ?_
        refine lv_iand hx hb d_P_change_76 ?_
        refine va_put (D := (dC, dI)) (ci := 1) (v := .int (((f_P_operand p2 r k M D).1) &&& (1 : Int32))) (ty := .int) (C := R_P) (T := F_P) (N := 13) hx hb htB i_P t_P t_P_ok n_P hown hK hP hD hS 0 rfl rfl 9 (by decide) (htB _ mw_68) (fun _ h9 => h9) rfl (by decide +kernel) rfl rfl (Nat.le_of_ble_eq_true rfl) d_P_change_77 (fun H locs hP hD hS => ?_)
        have hP : va_P (dC, dI) classes [c_P q0 q1 (upd (upd r 0 (f_P_changed p1 ((f_P_operand p2 r k M D).1) r)) 8 (((f_P_operand p2 r k M D).1) &&& (1 : Int32))), c_B q1 q2 q3 ((f_P_operand p2 r k M D).2), c_A q2 cM 1024 M, c_A q3 cD 256 D] H := hP
        have hD : va_D A [c_P q0 q1 (upd (upd r 0 (f_P_changed p1 ((f_P_operand p2 r k M D).1) r)) 8 (((f_P_operand p2 r k M D).1) &&& (1 : Int32))), c_B q1 q2 q3 ((f_P_operand p2 r k M D).2), c_A q2 cM 1024 M, c_A q3 cD 256 D] := hD
        refine lv_aload_n hx hb d_P_change_80 rfl (lv_at hl 2 rfl) ?_
        refine lv_iload hx hb d_P_change_81 (lv_at hl 0 rfl) ?_
        have hPc := hP.sub (ws' := [c_P q0 q1 (upd (upd r 0 (f_P_changed p1 ((f_P_operand p2 r k M D).1) r)) 8 (((f_P_operand p2 r k M D).1) &&& (1 : Int32)))]) [0] rfl
        have hDc := hD.sub (ws' := [c_P q0 q1 (upd (upd r 0 (f_P_changed p1 ((f_P_operand p2 r k M D).1) r)) 8 (((f_P_operand p2 r k M D).1) &&& (1 : Int32)))]) [0] (by decide) rfl
        have hKc := hK.sub (tys' := []) [] rfl
        have hFc := va_free (wc := [c_P q0 q1 (upd (upd r 0 (f_P_changed p1 ((f_P_operand p2 r k M D).1) r)) 8 (((f_P_operand p2 r k M D).1) &&& (1 : Int32)))]) hD hS hA [0] rfl
        refine va_calli (va_runV (As := [.int (f_P_changed p1 ((f_P_operand p2 r k M D).1) r)]) (rest := []) ⟨hx, hb, hml, hown, htB⟩ (c_P_set l dC dI z0 q0 q1 H.size (f_P_changed p1 ((f_P_operand p2 r k M D).1) r) (upd (upd r 0 (f_P_changed p1 ((f_P_operand p2 r k M D).1) r)) 8 (((f_P_operand p2 r k M D).1) &&& (1 : Int32)))) (cwV 1 htB (gd_V mw_322 mw_324 sw_P_set mw_2 mw_325) rfl rfl rfl (by decide +kernel) ⟨Nat.le_of_ble_eq_true rfl, Nat.le_of_ble_eq_true rfl⟩) (pcx_V (va_recv hKc hPc (ci := 1) (q0 := 0) rfl rfl) hPc hKc hDc hA0 hE hS) rfl rfl hl.1 rfl (lv_room (Nat.le_of_ble_eq_true rfl)) d_P_change_83 ⟨Nat.zero_le _, Nat.zero_le _⟩) hS (fun q _ h => hFc q h) hFc (fun r9 u t H1 locs ht hvm hw hB hz1 hk1 hS => ?_)
        subst hw
        obtain ⟨hP1, hK1, hD1⟩ := hB
        rw [ht] at hP1
        obtain ⟨hP, hD⟩ := va_join (wr := [c_B q1 q2 q3 ((f_P_operand p2 r k M D).2), c_A q2 cM 1024 M, c_A q3 cD 256 D]) (w1 := [c_P q0 q1 ((f_P_set (f_P_changed p1 ((f_P_operand p2 r k M D).1) r) (upd (upd r 0 (f_P_changed p1 ((f_P_operand p2 r k M D).1) r)) 8 (((f_P_operand p2 r k M D).1) &&& (1 : Int32)))).2)]) hP hD [0] [1, 2, 3] rfl rfl (by decide) (by decide) hk1 hFc hP1 hD1
        generalize H1 = H at hP hS ⊢
        have hP : va_P (dC, dI) classes [c_P q0 q1 ((f_P_set (f_P_changed p1 ((f_P_operand p2 r k M D).1) r) (upd (upd r 0 (f_P_changed p1 ((f_P_operand p2 r k M D).1) r)) 8 (((f_P_operand p2 r k M D).1) &&& (1 : Int32)))).2), c_B q1 q2 q3 ((f_P_operand p2 r k M D).2), c_A q2 cM 1024 M, c_A q3 cD 256 D] H := hP.sub [3, 0, 1, 2] rfl
        have hD : va_D A [c_P q0 q1 ((f_P_set (f_P_changed p1 ((f_P_operand p2 r k M D).1) r) (upd (upd r 0 (f_P_changed p1 ((f_P_operand p2 r k M D).1) r)) 8 (((f_P_operand p2 r k M D).1) &&& (1 : Int32)))).2), c_B q1 q2 q3 ((f_P_operand p2 r k M D).2), c_A q2 cM 1024 M, c_A q3 cD 256 D] := hD.sub [3, 0, 1, 2] (by decide) rfl
        refine lv_pop hx hb d_P_change_86 rfl ?_
        refine lv_iconst (v := 0) hx hb d_P_change_87 (by decide) ?_
        have hf : f_P_change p1 p2 r k M D = ((0 : Int32), (f_P_set (f_P_changed p1 ((f_P_operand p2 r k M D).1) r) (upd (upd r 0 (f_P_changed p1 ((f_P_operand p2 r k M D).1) r)) 8 (((f_P_operand p2 r k M D).1) &&& (1 : Int32)))).2, (f_P_operand p2 r k M D).2, M, D) := by rw [f_P_change, if_pos c_1, if_pos c_2, if_neg c_3]
        exact W.iret (v := (0 : Int32)) hx hb hr (fun t ht hW => ⟨⟨(0 : Int32), (), rfl, (congrArg (fun z => z.1) hf).symm, by rw [hf]; exact ⟨by rw [ht]; exact hP, va_K.moved hW.alike hK, hD⟩⟩, hS.F ht⟩) hS.2.2 d_P_change_88
    · refine lv_aload_n hx hb d_P_change_57 rfl (lv_at hl 2 rfl) ?_
      refine lv_iload_n hx hb d_P_change_58 rfl (lv_at hl 1 rfl) ?_
      refine lv_bipush (v := 7) hx hb d_P_change_59 (by decide) ?_
      refine lv_ishr hx hb d_P_change_61 ?_
      refine va_put (D := (dC, dI)) (ci := 1) (v := .int (((f_P_operand p2 r k M D).1) >>> ((7 : Int32) &&& 31))) (ty := .int) (C := R_P) (T := F_P) (N := 13) hx hb htB i_P t_P t_P_ok n_P hown hK hP hD hS 0 rfl rfl 9 (by decide) (htB _ mw_68) (fun _ h9 => h9) rfl (by decide +kernel) rfl rfl (Nat.le_of_ble_eq_true rfl) d_P_change_62 (fun H locs hP hD hS => ?_)
      have hP : va_P (dC, dI) classes [c_P q0 q1 (upd (upd r 0 (f_P_changed p1 ((f_P_operand p2 r k M D).1) r)) 8 (((f_P_operand p2 r k M D).1) >>> ((7 : Int32) &&& 31))), c_B q1 q2 q3 ((f_P_operand p2 r k M D).2), c_A q2 cM 1024 M, c_A q3 cD 256 D] H := hP
      have hD : va_D A [c_P q0 q1 (upd (upd r 0 (f_P_changed p1 ((f_P_operand p2 r k M D).1) r)) 8 (((f_P_operand p2 r k M D).1) >>> ((7 : Int32) &&& 31))), c_B q1 q2 q3 ((f_P_operand p2 r k M D).2), c_A q2 cM 1024 M, c_A q3 cD 256 D] := hD
      refine lv_goto (tgt := 80) hx hb d_P_change_65 (by decide) ?_
      refine lv_aload_n hx hb d_P_change_80 rfl (lv_at hl 2 rfl) ?_
      refine lv_iload hx hb d_P_change_81 (lv_at hl 0 rfl) ?_
      have hPc := hP.sub (ws' := [c_P q0 q1 (upd (upd r 0 (f_P_changed p1 ((f_P_operand p2 r k M D).1) r)) 8 (((f_P_operand p2 r k M D).1) >>> ((7 : Int32) &&& 31)))]) [0] rfl
      have hDc := hD.sub (ws' := [c_P q0 q1 (upd (upd r 0 (f_P_changed p1 ((f_P_operand p2 r k M D).1) r)) 8 (((f_P_operand p2 r k M D).1) >>> ((7 : Int32) &&& 31)))]) [0] (by decide) rfl
      have hKc := hK.sub (tys' := []) [] rfl
      have hFc := va_free (wc := [c_P q0 q1 (upd (upd r 0 (f_P_changed p1 ((f_P_operand p2 r k M D).1) r)) 8 (((f_P_operand p2 r k M D).1) >>> ((7 : Int32) &&& 31)))]) hD hS hA [0] rfl
      refine va_calli (va_runV (As := [.int (f_P_changed p1 ((f_P_operand p2 r k M D).1) r)]) (rest := []) ⟨hx, hb, hml, hown, htB⟩ (c_P_set l dC dI z0 q0 q1 H.size (f_P_changed p1 ((f_P_operand p2 r k M D).1) r) (upd (upd r 0 (f_P_changed p1 ((f_P_operand p2 r k M D).1) r)) 8 (((f_P_operand p2 r k M D).1) >>> ((7 : Int32) &&& 31)))) (cwV 1 htB (gd_V mw_322 mw_324 sw_P_set mw_2 mw_325) rfl rfl rfl (by decide +kernel) ⟨Nat.le_of_ble_eq_true rfl, Nat.le_of_ble_eq_true rfl⟩) (pcx_V (va_recv hKc hPc (ci := 1) (q0 := 0) rfl rfl) hPc hKc hDc hA0 hE hS) rfl rfl hl.1 rfl (lv_room (Nat.le_of_ble_eq_true rfl)) d_P_change_83 ⟨Nat.zero_le _, Nat.zero_le _⟩) hS (fun q _ h => hFc q h) hFc (fun r9 u t H1 locs ht hvm hw hB hz1 hk1 hS => ?_)
      subst hw
      obtain ⟨hP1, hK1, hD1⟩ := hB
      rw [ht] at hP1
      obtain ⟨hP, hD⟩ := va_join (wr := [c_B q1 q2 q3 ((f_P_operand p2 r k M D).2), c_A q2 cM 1024 M, c_A q3 cD 256 D]) (w1 := [c_P q0 q1 ((f_P_set (f_P_changed p1 ((f_P_operand p2 r k M D).1) r) (upd (upd r 0 (f_P_changed p1 ((f_P_operand p2 r k M D).1) r)) 8 (((f_P_operand p2 r k M D).1) >>> ((7 : Int32) &&& 31)))).2)]) hP hD [0] [1, 2, 3] rfl rfl (by decide) (by decide) hk1 hFc hP1 hD1
      generalize H1 = H at hP hS ⊢
      have hP : va_P (dC, dI) classes [c_P q0 q1 ((f_P_set (f_P_changed p1 ((f_P_operand p2 r k M D).1) r) (upd (upd r 0 (f_P_changed p1 ((f_P_operand p2 r k M D).1) r)) 8 (((f_P_operand p2 r k M D).1) >>> ((7 : Int32) &&& 31)))).2), c_B q1 q2 q3 ((f_P_operand p2 r k M D).2), c_A q2 cM 1024 M, c_A q3 cD 256 D] H := hP.sub [3, 0, 1, 2] rfl
      have hD : va_D A [c_P q0 q1 ((f_P_set (f_P_changed p1 ((f_P_operand p2 r k M D).1) r) (upd (upd r 0 (f_P_changed p1 ((f_P_operand p2 r k M D).1) r)) 8 (((f_P_operand p2 r k M D).1) >>> ((7 : Int32) &&& 31)))).2), c_B q1 q2 q3 ((f_P_operand p2 r k M D).2), c_A q2 cM 1024 M, c_A q3 cD 256 D] := hD.sub [3, 0, 1, 2] (by decide) rfl
      refine lv_pop hx hb d_P_change_86 rfl ?_
      refine lv_iconst (v := 0) hx hb d_P_change_87 (by decide) ?_
      have hf : f_P_change p1 p2 r k M D = ((0 : Int32), (f_P_set (f_P_changed p1 ((f_P_operand p2 r k M D).1) r) (upd (upd r 0 (f_P_changed p1 ((f_P_operand p2 r k M D).1) r)) 8 (((f_P_operand p2 r k M D).1) >>> ((7 : Int32) &&& 31)))).2, (f_P_operand p2 r k M D).2, M, D) := by rw [f_P_change, if_pos c_1, if_neg c_2]
      exact W.iret (v := (0 : Int32)) hx hb hr (fun t ht hW => ⟨⟨(0 : Int32), (), rfl, (congrArg (fun z => z.1) hf).symm, by rw [hf]; exact ⟨by rw [ht]; exact hP, va_K.moved hW.alike hK, hD⟩⟩, hS.F ht⟩) hS.2.2 d_P_change_88

def f_P_executeFromX (p1 : Int32) (r k M D : Nat → Int32) : Int32 × (Nat → Int32) × (Nat → Int32) × (Nat → Int32) × (Nat → Int32) :=
  if p1 = (9 : Int32) then
    ((0 : Int32), (upd ((f_P_set (r 1) r).2) 0 ((f_P_set (r 1) r).1)), k, M, D)
  else
    if p1 = (10 : Int32) then
      ((0 : Int32), (upd r 3 (r 1)), k, M, D)
    else
      ((f_B_writeByte (r 10) (r 1) k M D).1, r, (f_B_writeByte (r 10) (r 1) k M D).2.1, (f_B_writeByte (r 10) (r 1) k M D).2.2.1, (f_B_writeByte (r 10) (r 1) k M D).2.2.2)
abbrev Q_P_executeFromX (dC : Nat → ClassId) (dI : Nat → Nat → Nat) (q0 : Nat) (q1 : Nat) (q2 : Nat) (q3 : Nat) (cM : ClassId) (cD : ClassId) (p1 : Int32) (r k M D : Nat → Int32) (A : Nat → Prop) : Array Value → State → Outcome → State → Prop := va_Qi (fun (r9 : Int32) (_ : Unit) => r9 = (f_P_executeFromX p1 r k M D).1) (fun _ t => atW (dC, dI) classes A [c_P q0 q1 ((f_P_executeFromX p1 r k M D).2.1), c_B q1 q2 q3 ((f_P_executeFromX p1 r k M D).2.2.1), c_A q2 cM 1024 ((f_P_executeFromX p1 r k M D).2.2.2.1), c_A q3 cD 256 ((f_P_executeFromX p1 r k M D).2.2.2.2)] [(cM, .int), (cD, .int)] t) A
set_option maxHeartbeats 4000000 in
set_option maxRecDepth 100000 in
theorem c_P_executeFromX (l : Launch) (dC : Nat → ClassId) (dI : Nat → Nat → Nat) (z0 : Nat) (q0 : Nat) (q1 : Nat) (q2 : Nat) (q3 : Nat) (cM : ClassId) (cD : ClassId) (sz : Nat) (p1 : Int32) (r k M D : Nat → Int32) (hsn : sn_ok k) : Met l y_P_executeFromX w_P_executeFromX ({ frames := 3, cells := 0, slots := 0, locals := 85 }) (PcX (dC, dI) classes z0 [c_P q0 q1 r, c_B q1 q2 q3 k, c_A q2 cM 1024 M, c_A q3 cD 256 D] [(cM, .int), (cD, .int)] sz [.ref q0, .int p1]) (Q_P_executeFromX dC dI q0 q1 q2 q3 cM cD p1 r k M D (va_A [c_P q0 q1 r, c_B q1 q2 q3 k, c_A q2 cM 1024 M, c_A q3 cD 256 D] sz)) 0 0 (va_A [c_P q0 q1 r, c_B q1 q2 q3 k, c_A q2 cM 1024 M, c_A q3 cD 256 D] sz) := by
  refine hdX (cc := b_P_executeFromX) (maxL := 2) (ret := (some .int)) (C := R_P) (Qc := (Q_P_executeFromX dC dI q0 q1 q2 q3 cM cD p1 r k M D)) (by decide) rfl ?_
  intro p e s m below meth c A H hx hb hr hlocks hml hown hin htB hP hK hD hA hA0 hE hS
  have hl := lv_entry ([.ref q0, .int p1]) (n := 2) (Nat.le_of_ble_eq_true rfl)
  rw [lg_entry_eq]
  generalize (lg_sl ([.ref q0, .int p1]) ++ List.replicate (2 - (lg_sl ([.ref q0, .int p1])).length) Slot.unset).toArray = ls at hl ⊢
  have hl : lv_has ls 2 [(0, .ref q0), (1, .int p1)] := hl
  refine lv_iload_n hx hb d_P_executeFromX_0 rfl (lv_at hl 1 rfl) ?_
  refine lv_bipush (v := 9) hx hb d_P_executeFromX_1 (by decide) ?_
  refine lv_icmp_ne (tgt := 20) hx hb d_P_executeFromX_3 (by decide) (fun c_1 => ?_) (fun c_1 => ?_)
  · refine lv_iload_n hx hb d_P_executeFromX_20 rfl (lv_at hl 1 rfl) ?_
    refine lv_bipush (v := 10) hx hb d_P_executeFromX_21 (by decide) ?_
    refine lv_icmp_ne (tgt := 36) hx hb d_P_executeFromX_23 (by decide) (fun c_2 => ?_) (fun c_2 => ?_)
    · refine lv_aload_n hx hb d_P_executeFromX_36 rfl (lv_at hl 0 rfl) ?_
      refine va_get (D := (dC, dI)) (ci := 1) (v := .ref q1) (C := R_P) (T := F_P) (N := 13) hx hb htB i_P hown hK hP 0 rfl rfl 0 (by decide) (htB _ mw_57) (fun _ h9 => h9) rfl d_P_executeFromX_37 ?_
      refine lv_aload_n hx hb d_P_executeFromX_40 rfl (lv_at hl 0 rfl) ?_
      refine va_get (D := (dC, dI)) (ci := 1) (v := .int (r 10)) (C := R_P) (T := F_P) (N := 13) hx hb htB i_P hown hK hP 0 rfl rfl 11 (by decide) (htB _ mw_70) (fun _ h9 => h9) rfl d_P_executeFromX_41 ?_
      refine lv_aload_n hx hb d_P_executeFromX_44 rfl (lv_at hl 0 rfl) ?_
      refine va_get (D := (dC, dI)) (ci := 1) (v := .int (r 1)) (C := R_P) (T := F_P) (N := 13) hx hb htB i_P hown hK hP 0 rfl rfl 2 (by decide) (htB _ mw_60) (fun _ h9 => h9) rfl d_P_executeFromX_45 ?_
      have hPc := hP.sub (ws' := [c_B q1 q2 q3 k, c_A q2 cM 1024 M, c_A q3 cD 256 D]) [1, 2, 3] rfl
      have hDc := hD.sub (ws' := [c_B q1 q2 q3 k, c_A q2 cM 1024 M, c_A q3 cD 256 D]) [1, 2, 3] (by decide) rfl
      have hKc := hK.sub (tys' := [(cM, .int), (cD, .int)]) [0, 1] rfl
      have hFc := va_free (wc := [c_B q1 q2 q3 k, c_A q2 cM 1024 M, c_A q3 cD 256 D]) hD hS hA [1, 2, 3] rfl
      refine va_calli (va_runVN (As := [.int (r 10), .int (r 1)]) (rest := []) ⟨hx, hb, hml, hown, htB⟩ (c_B_writeByte l dC dI z0 q1 q2 q3 cM cD H.size (r 10) (r 1) k M D hsn) ⟨va_cnB 2 htB (gd_c mw_310) rfl rfl rfl (hE.2.1 _ ew_307) (htB _ mw_3) (by decide +kernel) ⟨Nat.le_of_ble_eq_true rfl, Nat.le_of_ble_eq_true rfl⟩, htB _ mw_309, htB _ sw_B_writeByte⟩ (pcx_V (va_recv hKc hPc (ci := 2) (q0 := 0) rfl rfl) hPc hKc hDc hA0 hE hS) rfl rfl hl.1 rfl (lv_room (Nat.le_of_ble_eq_true rfl)) d_P_executeFromX_48 ⟨Nat.zero_le _, Nat.zero_le _⟩) hS (fun q _ h => hFc q h) hFc (fun r9 u t H1 locs ht hvm hw hB hz1 hk1 hS => ?_)
      subst hw
      obtain ⟨hP1, hK1, hD1⟩ := hB
      rw [ht] at hP1
      obtain ⟨hP, hD⟩ := va_join (wr := [c_P q0 q1 r]) (w1 := [c_B q1 q2 q3 ((f_B_writeByte (r 10) (r 1) k M D).2.1), c_A q2 cM 1024 ((f_B_writeByte (r 10) (r 1) k M D).2.2.1), c_A q3 cD 256 ((f_B_writeByte (r 10) (r 1) k M D).2.2.2)]) hP hD [1, 2, 3] [0] rfl rfl (by decide) (by decide) hk1 hFc hP1 hD1
      generalize H1 = H at hP hS ⊢
      have hP : va_P (dC, dI) classes [c_P q0 q1 r, c_B q1 q2 q3 ((f_B_writeByte (r 10) (r 1) k M D).2.1), c_A q2 cM 1024 ((f_B_writeByte (r 10) (r 1) k M D).2.2.1), c_A q3 cD 256 ((f_B_writeByte (r 10) (r 1) k M D).2.2.2)] H := hP.sub [0, 1, 2, 3] rfl
      have hD : va_D A [c_P q0 q1 r, c_B q1 q2 q3 ((f_B_writeByte (r 10) (r 1) k M D).2.1), c_A q2 cM 1024 ((f_B_writeByte (r 10) (r 1) k M D).2.2.1), c_A q3 cD 256 ((f_B_writeByte (r 10) (r 1) k M D).2.2.2)] := hD.sub [0, 1, 2, 3] (by decide) rfl
      have hf : f_P_executeFromX p1 r k M D = ((f_B_writeByte (r 10) (r 1) k M D).1, r, (f_B_writeByte (r 10) (r 1) k M D).2.1, (f_B_writeByte (r 10) (r 1) k M D).2.2.1, (f_B_writeByte (r 10) (r 1) k M D).2.2.2) := by rw [f_P_executeFromX, if_neg c_1, if_neg c_2]
      exact W.iret (v := (f_B_writeByte (r 10) (r 1) k M D).1) hx hb hr (fun t ht hW => ⟨⟨(f_B_writeByte (r 10) (r 1) k M D).1, (), rfl, (congrArg (fun z => z.1) hf).symm, by rw [hf]; exact ⟨by rw [ht]; exact hP, va_K.moved hW.alike hK, hD⟩⟩, hS.F ht⟩) hS.2.2 d_P_executeFromX_51
    · refine lv_aload_n hx hb d_P_executeFromX_26 rfl (lv_at hl 0 rfl) ?_
      refine lv_aload_n hx hb d_P_executeFromX_27 rfl (lv_at hl 0 rfl) ?_
      refine va_get (D := (dC, dI)) (ci := 1) (v := .int (r 1)) (C := R_P) (T := F_P) (N := 13) hx hb htB i_P hown hK hP 0 rfl rfl 2 (by decide) (htB _ mw_60) (fun _ h9 => h9) rfl d_P_executeFromX_28 ?_
      refine va_put (D := (dC, dI)) (ci := 1) (v := .int (r 1)) (ty := .int) (C := R_P) (T := F_P) (N := 13) hx hb htB i_P t_P t_P_ok n_P hown hK hP hD hS 0 rfl rfl 4 (by decide) (htB _ mw_62) (fun _ h9 => h9) rfl (by decide +kernel) rfl rfl (Nat.le_of_ble_eq_true rfl) d_P_executeFromX_31 (fun H locs hP hD hS => ?_)
      have hP : va_P (dC, dI) classes [c_P q0 q1 (upd r 3 (r 1)), c_B q1 q2 q3 k, c_A q2 cM 1024 M, c_A q3 cD 256 D] H := hP
      have hD : va_D A [c_P q0 q1 (upd r 3 (r 1)), c_B q1 q2 q3 k, c_A q2 cM 1024 M, c_A q3 cD 256 D] := hD
      refine lv_iconst (v := 0) hx hb d_P_executeFromX_34 (by decide) ?_
      have hf : f_P_executeFromX p1 r k M D = ((0 : Int32), (upd r 3 (r 1)), k, M, D) := by rw [f_P_executeFromX, if_neg c_1, if_pos c_2]
      exact W.iret (v := (0 : Int32)) hx hb hr (fun t ht hW => ⟨⟨(0 : Int32), (), rfl, (congrArg (fun z => z.1) hf).symm, by rw [hf]; exact ⟨by rw [ht]; exact hP, va_K.moved hW.alike hK, hD⟩⟩, hS.F ht⟩) hS.2.2 d_P_executeFromX_35
  · refine lv_aload_n hx hb d_P_executeFromX_6 rfl (lv_at hl 0 rfl) ?_
    refine lv_aload_n hx hb d_P_executeFromX_7 rfl (lv_at hl 0 rfl) ?_
    refine lv_aload_n hx hb d_P_executeFromX_8 rfl (lv_at hl 0 rfl) ?_
    refine va_get (D := (dC, dI)) (ci := 1) (v := .int (r 1)) (C := R_P) (T := F_P) (N := 13) hx hb htB i_P hown hK hP 0 rfl rfl 2 (by decide) (htB _ mw_60) (fun _ h9 => h9) rfl d_P_executeFromX_9 ?_
    have hPc := hP.sub (ws' := [c_P q0 q1 r]) [0] rfl
    have hDc := hD.sub (ws' := [c_P q0 q1 r]) [0] (by decide) rfl
    have hKc := hK.sub (tys' := []) [] rfl
    have hFc := va_free (wc := [c_P q0 q1 r]) hD hS hA [0] rfl
    refine va_calli (va_runV (As := [.int (r 1)]) (rest := [.ref q0]) ⟨hx, hb, hml, hown, htB⟩ (c_P_set l dC dI z0 q0 q1 H.size (r 1) r) (cwV 1 htB (gd_V mw_322 mw_324 sw_P_set mw_2 mw_325) rfl rfl rfl (by decide +kernel) ⟨Nat.le_of_ble_eq_true rfl, Nat.le_of_ble_eq_true rfl⟩) (pcx_V (va_recv hKc hPc (ci := 1) (q0 := 0) rfl rfl) hPc hKc hDc hA0 hE hS) rfl rfl hl.1 rfl (lv_room (Nat.le_of_ble_eq_true rfl)) d_P_executeFromX_12 ⟨Nat.zero_le _, Nat.zero_le _⟩) hS (fun q _ h => hFc q h) hFc (fun r9 u t H1 locs ht hvm hw hB hz1 hk1 hS => ?_)
    subst hw
    obtain ⟨hP1, hK1, hD1⟩ := hB
    rw [ht] at hP1
    obtain ⟨hP, hD⟩ := va_join (wr := [c_B q1 q2 q3 k, c_A q2 cM 1024 M, c_A q3 cD 256 D]) (w1 := [c_P q0 q1 ((f_P_set (r 1) r).2)]) hP hD [0] [1, 2, 3] rfl rfl (by decide) (by decide) hk1 hFc hP1 hD1
    generalize H1 = H at hP hS ⊢
    have hP : va_P (dC, dI) classes [c_P q0 q1 ((f_P_set (r 1) r).2), c_B q1 q2 q3 k, c_A q2 cM 1024 M, c_A q3 cD 256 D] H := hP.sub [3, 0, 1, 2] rfl
    have hD : va_D A [c_P q0 q1 ((f_P_set (r 1) r).2), c_B q1 q2 q3 k, c_A q2 cM 1024 M, c_A q3 cD 256 D] := hD.sub [3, 0, 1, 2] (by decide) rfl
    refine va_put (D := (dC, dI)) (ci := 1) (v := .int ((f_P_set (r 1) r).1)) (ty := .int) (C := R_P) (T := F_P) (N := 13) hx hb htB i_P t_P t_P_ok n_P hown hK hP hD hS 0 rfl rfl 1 (by decide) (htB _ mw_59) (fun _ h9 => h9) rfl (by decide +kernel) rfl rfl (Nat.le_of_ble_eq_true rfl) d_P_executeFromX_15 (fun H locs hP hD hS => ?_)
    have hP : va_P (dC, dI) classes [c_P q0 q1 (upd ((f_P_set (r 1) r).2) 0 ((f_P_set (r 1) r).1)), c_B q1 q2 q3 k, c_A q2 cM 1024 M, c_A q3 cD 256 D] H := hP
    have hD : va_D A [c_P q0 q1 (upd ((f_P_set (r 1) r).2) 0 ((f_P_set (r 1) r).1)), c_B q1 q2 q3 k, c_A q2 cM 1024 M, c_A q3 cD 256 D] := hD
    refine lv_iconst (v := 0) hx hb d_P_executeFromX_18 (by decide) ?_
    have hf : f_P_executeFromX p1 r k M D = ((0 : Int32), (upd ((f_P_set (r 1) r).2) 0 ((f_P_set (r 1) r).1)), k, M, D) := by rw [f_P_executeFromX, if_pos c_1]
    exact W.iret (v := (0 : Int32)) hx hb hr (fun t ht hW => ⟨⟨(0 : Int32), (), rfl, (congrArg (fun z => z.1) hf).symm, by rw [hf]; exact ⟨by rw [ht]; exact hP, va_K.moved hW.alike hK, hD⟩⟩, hS.F ht⟩) hS.2.2 d_P_executeFromX_19

def f_P_executeG1 (p1 : Int32) (p2 : Int32) (r k M D : Nat → Int32) : Int32 × (Nat → Int32) × (Nat → Int32) × (Nat → Int32) × (Nat → Int32) :=
  if p1 = (4 : Int32) then
    ((f_B_writeByte (r 10) (r 0) k M D).1, r, (f_B_writeByte (r 10) (r 0) k M D).2.1, (f_B_writeByte (r 10) (r 0) k M D).2.2.1, (f_B_writeByte (r 10) (r 0) k M D).2.2.2)
  else
    if p1 = (0 : Int32) then
      ((0 : Int32), (upd ((f_P_set ((r 0) ||| ((f_P_operand p2 r k M D).1)) r).2) 0 ((f_P_set ((r 0) ||| ((f_P_operand p2 r k M D).1)) r).1)), (f_P_operand p2 r k M D).2, M, D)
    else
      if p1 = (1 : Int32) then
        ((0 : Int32), (upd ((f_P_set ((r 0) &&& ((f_P_operand p2 r k M D).1)) r).2) 0 ((f_P_set ((r 0) &&& ((f_P_operand p2 r k M D).1)) r).1)), (f_P_operand p2 r k M D).2, M, D)
      else
        if p1 = (2 : Int32) then
          ((0 : Int32), (upd ((f_P_set ((r 0) ^^^ ((f_P_operand p2 r k M D).1)) r).2) 0 ((f_P_set ((r 0) ^^^ ((f_P_operand p2 r k M D).1)) r).1)), (f_P_operand p2 r k M D).2, M, D)
        else
          if p1 = (3 : Int32) then
            ((0 : Int32), (f_P_add ((f_P_operand p2 r k M D).1) r), (f_P_operand p2 r k M D).2, M, D)
          else
            if p1 = (5 : Int32) then
              ((0 : Int32), (upd ((f_P_set ((f_P_operand p2 r k M D).1) r).2) 0 ((f_P_set ((f_P_operand p2 r k M D).1) r).1)), (f_P_operand p2 r k M D).2, M, D)
            else
              if p1 = (6 : Int32) then
                ((0 : Int32), (f_P_compare (r 0) ((f_P_operand p2 r k M D).1) r), (f_P_operand p2 r k M D).2, M, D)
              else
                ((0 : Int32), (f_P_add ((255 : Int32) - ((f_P_operand p2 r k M D).1)) r), (f_P_operand p2 r k M D).2, M, D)
abbrev Q_P_executeG1 (dC : Nat → ClassId) (dI : Nat → Nat → Nat) (q0 : Nat) (q1 : Nat) (q2 : Nat) (q3 : Nat) (cM : ClassId) (cD : ClassId) (p1 : Int32) (p2 : Int32) (r k M D : Nat → Int32) (A : Nat → Prop) : Array Value → State → Outcome → State → Prop := va_Qi (fun (r9 : Int32) (_ : Unit) => r9 = (f_P_executeG1 p1 p2 r k M D).1) (fun _ t => atW (dC, dI) classes A [c_P q0 q1 ((f_P_executeG1 p1 p2 r k M D).2.1), c_B q1 q2 q3 ((f_P_executeG1 p1 p2 r k M D).2.2.1), c_A q2 cM 1024 ((f_P_executeG1 p1 p2 r k M D).2.2.2.1), c_A q3 cD 256 ((f_P_executeG1 p1 p2 r k M D).2.2.2.2)] [(cM, .int), (cD, .int)] t) A
set_option maxHeartbeats 4000000 in
set_option maxRecDepth 100000 in
theorem c_P_executeG1 (l : Launch) (dC : Nat → ClassId) (dI : Nat → Nat → Nat) (z0 : Nat) (q0 : Nat) (q1 : Nat) (q2 : Nat) (q3 : Nat) (cM : ClassId) (cD : ClassId) (sz : Nat) (p1 : Int32) (p2 : Int32) (r k M D : Nat → Int32) (hsn : sn_ok k) : Met l y_P_executeG1 w_P_executeG1 ({ frames := 3, cells := 0, slots := 0, locals := 85 }) (PcX (dC, dI) classes z0 [c_P q0 q1 r, c_B q1 q2 q3 k, c_A q2 cM 1024 M, c_A q3 cD 256 D] [(cM, .int), (cD, .int)] sz [.ref q0, .int p1, .int p2]) (Q_P_executeG1 dC dI q0 q1 q2 q3 cM cD p1 p2 r k M D (va_A [c_P q0 q1 r, c_B q1 q2 q3 k, c_A q2 cM 1024 M, c_A q3 cD 256 D] sz)) 0 0 (va_A [c_P q0 q1 r, c_B q1 q2 q3 k, c_A q2 cM 1024 M, c_A q3 cD 256 D] sz) := by
  refine hdX (cc := b_P_executeG1) (maxL := 4) (ret := (some .int)) (C := R_P) (Qc := (Q_P_executeG1 dC dI q0 q1 q2 q3 cM cD p1 p2 r k M D)) (by decide) rfl ?_
  intro p e s m below meth c A H hx hb hr hlocks hml hown hin htB hP hK hD hA hA0 hE hS
  have hl := lv_entry ([.ref q0, .int p1, .int p2]) (n := 4) (Nat.le_of_ble_eq_true rfl)
  rw [lg_entry_eq]
  generalize (lg_sl ([.ref q0, .int p1, .int p2]) ++ List.replicate (4 - (lg_sl ([.ref q0, .int p1, .int p2])).length) Slot.unset).toArray = ls at hl ⊢
  have hl : lv_has ls 4 [(0, .ref q0), (1, .int p1), (2, .int p2)] := hl
  refine lv_iload_n hx hb d_P_executeG1_0 rfl (lv_at hl 1 rfl) ?_
  refine lv_iconst (v := 4) hx hb d_P_executeG1_1 (by decide) ?_
  refine lv_icmp_ne (tgt := 21) hx hb d_P_executeG1_2 (by decide) (fun c_1 => ?_) (fun c_1 => ?_)
  · refine lv_aload_n hx hb d_P_executeG1_21 rfl (lv_at hl 0 rfl) ?_
    refine lv_iload_n hx hb d_P_executeG1_22 rfl (lv_at hl 2 rfl) ?_
    have hPc := hP.sub (ws' := [c_P q0 q1 r, c_B q1 q2 q3 k, c_A q2 cM 1024 M, c_A q3 cD 256 D]) [0, 1, 2, 3] rfl
    have hDc := hD.sub (ws' := [c_P q0 q1 r, c_B q1 q2 q3 k, c_A q2 cM 1024 M, c_A q3 cD 256 D]) [0, 1, 2, 3] (by decide) rfl
    have hKc := hK.sub (tys' := [(cM, .int), (cD, .int)]) [0, 1] rfl
    have hFc := va_free (wc := [c_P q0 q1 r, c_B q1 q2 q3 k, c_A q2 cM 1024 M, c_A q3 cD 256 D]) hD hS hA [0, 1, 2, 3] rfl
    refine va_calli (va_runV (As := [.int p2]) (rest := []) ⟨hx, hb, hml, hown, htB⟩ (c_P_operand l dC dI z0 q0 q1 q2 q3 cM cD H.size p2 r k M D) (cwV 1 htB (gd_V mw_318 mw_320 sw_P_operand mw_2 mw_321) rfl rfl rfl (by decide +kernel) ⟨Nat.le_of_ble_eq_true rfl, Nat.le_of_ble_eq_true rfl⟩) (pcx_V (va_recv hKc hPc (ci := 1) (q0 := 0) rfl rfl) hPc hKc hDc hA0 hE hS) rfl rfl hl.1 rfl (lv_room (Nat.le_of_ble_eq_true rfl)) d_P_executeG1_23 ⟨Nat.zero_le _, Nat.zero_le _⟩) hS (fun q _ h => hFc q h) hFc (fun r9 u t H1 locs ht hvm hw hB hz1 hk1 hS => ?_)
    subst hw
    obtain ⟨hP1, hK1, hD1⟩ := hB
    rw [ht] at hP1
    obtain ⟨hP, hD⟩ := va_join (wr := []) (w1 := [c_P q0 q1 r, c_B q1 q2 q3 ((f_P_operand p2 r k M D).2), c_A q2 cM 1024 M, c_A q3 cD 256 D]) hP hD [0, 1, 2, 3] [] rfl rfl (by decide) (by decide) hk1 hFc hP1 hD1
    generalize H1 = H at hP hS ⊢
    have hP : va_P (dC, dI) classes [c_P q0 q1 r, c_B q1 q2 q3 ((f_P_operand p2 r k M D).2), c_A q2 cM 1024 M, c_A q3 cD 256 D] H := hP.sub [0, 1, 2, 3] rfl
    have hD : va_D A [c_P q0 q1 r, c_B q1 q2 q3 ((f_P_operand p2 r k M D).2), c_A q2 cM 1024 M, c_A q3 cD 256 D] := hD.sub [0, 1, 2, 3] (by decide) rfl
    refine lv_istore_n (lv' := [(3, .int ((f_P_operand p2 r k M D).1)), (0, .ref q0), (1, .int p1), (2, .int p2)]) hx hb d_P_executeG1_26 rfl hl (by decide) rfl (fun ls hl => ?_)
    refine lv_iload_n hx hb d_P_executeG1_27 rfl (lv_at hl 2 rfl) ?_
    by_cases c_2 : p1 = (0 : Int32)
    · refine lv_tableIn (tgt := 72) hx hb d_P_executeG1_28 (by rw [c_2]; decide) (by rw [c_2]; decide) (by rw [c_2]; rfl) (by decide) ?_
      refine lv_aload_n hx hb d_P_executeG1_72 rfl (lv_at hl 1 rfl) ?_
      refine lv_aload_n hx hb d_P_executeG1_73 rfl (lv_at hl 1 rfl) ?_
      refine lv_aload_n hx hb d_P_executeG1_74 rfl (lv_at hl 1 rfl) ?_
      refine va_get (D := (dC, dI)) (ci := 1) (v := .int (r 0)) (C := R_P) (T := F_P) (N := 13) hx hb htB i_P hown hK hP 0 rfl rfl 1 (by decide) (htB _ mw_59) (fun _ h9 => h9) rfl d_P_executeG1_75 ?_
      refine lv_iload_n hx hb d_P_executeG1_78 rfl (lv_at hl 0 rfl) ?_
      refine lv_ior hx hb d_P_executeG1_79 ?_
      have hPc := hP.sub (ws' := [c_P q0 q1 r]) [0] rfl
      have hDc := hD.sub (ws' := [c_P q0 q1 r]) [0] (by decide) rfl
      have hKc := hK.sub (tys' := []) [] rfl
      have hFc := va_free (wc := [c_P q0 q1 r]) hD hS hA [0] rfl
      refine va_calli (va_runV (As := [.int ((r 0) ||| ((f_P_operand p2 r k M D).1))]) (rest := [.ref q0]) ⟨hx, hb, hml, hown, htB⟩ (c_P_set l dC dI z0 q0 q1 H.size ((r 0) ||| ((f_P_operand p2 r k M D).1)) r) (cwV 1 htB (gd_V mw_322 mw_324 sw_P_set mw_2 mw_325) rfl rfl rfl (by decide +kernel) ⟨Nat.le_of_ble_eq_true rfl, Nat.le_of_ble_eq_true rfl⟩) (pcx_V (va_recv hKc hPc (ci := 1) (q0 := 0) rfl rfl) hPc hKc hDc hA0 hE hS) rfl rfl hl.1 rfl (lv_room (Nat.le_of_ble_eq_true rfl)) d_P_executeG1_80 ⟨Nat.zero_le _, Nat.zero_le _⟩) hS (fun q _ h => hFc q h) hFc (fun r9 u t H1 locs ht hvm hw hB hz1 hk1 hS => ?_)
      subst hw
      obtain ⟨hP1, hK1, hD1⟩ := hB
      rw [ht] at hP1
      obtain ⟨hP, hD⟩ := va_join (wr := [c_B q1 q2 q3 ((f_P_operand p2 r k M D).2), c_A q2 cM 1024 M, c_A q3 cD 256 D]) (w1 := [c_P q0 q1 ((f_P_set ((r 0) ||| ((f_P_operand p2 r k M D).1)) r).2)]) hP hD [0] [1, 2, 3] rfl rfl (by decide) (by decide) hk1 hFc hP1 hD1
      generalize H1 = H at hP hS ⊢
      have hP : va_P (dC, dI) classes [c_P q0 q1 ((f_P_set ((r 0) ||| ((f_P_operand p2 r k M D).1)) r).2), c_B q1 q2 q3 ((f_P_operand p2 r k M D).2), c_A q2 cM 1024 M, c_A q3 cD 256 D] H := hP.sub [3, 0, 1, 2] rfl
      have hD : va_D A [c_P q0 q1 ((f_P_set ((r 0) ||| ((f_P_operand p2 r k M D).1)) r).2), c_B q1 q2 q3 ((f_P_operand p2 r k M D).2), c_A q2 cM 1024 M, c_A q3 cD 256 D] := hD.sub [3, 0, 1, 2] (by decide) rfl
      refine va_put (D := (dC, dI)) (ci := 1) (v := .int ((f_P_set ((r 0) ||| ((f_P_operand p2 r k M D).1)) r).1)) (ty := .int) (C := R_P) (T := F_P) (N := 13) hx hb htB i_P t_P t_P_ok n_P hown hK hP hD hS 0 rfl rfl 1 (by decide) (htB _ mw_59) (fun _ h9 => h9) rfl (by decide +kernel) rfl rfl (Nat.le_of_ble_eq_true rfl) d_P_executeG1_83 (fun H locs hP hD hS => ?_)
      have hP : va_P (dC, dI) classes [c_P q0 q1 (upd ((f_P_set ((r 0) ||| ((f_P_operand p2 r k M D).1)) r).2) 0 ((f_P_set ((r 0) ||| ((f_P_operand p2 r k M D).1)) r).1)), c_B q1 q2 q3 ((f_P_operand p2 r k M D).2), c_A q2 cM 1024 M, c_A q3 cD 256 D] H := hP
      have hD : va_D A [c_P q0 q1 (upd ((f_P_set ((r 0) ||| ((f_P_operand p2 r k M D).1)) r).2) 0 ((f_P_set ((r 0) ||| ((f_P_operand p2 r k M D).1)) r).1)), c_B q1 q2 q3 ((f_P_operand p2 r k M D).2), c_A q2 cM 1024 M, c_A q3 cD 256 D] := hD
      refine lv_goto (tgt := 164) hx hb d_P_executeG1_86 (by decide) ?_
      refine lv_iconst (v := 0) hx hb d_P_executeG1_164 (by decide) ?_
      have hf : f_P_executeG1 p1 p2 r k M D = ((0 : Int32), (upd ((f_P_set ((r 0) ||| ((f_P_operand p2 r k M D).1)) r).2) 0 ((f_P_set ((r 0) ||| ((f_P_operand p2 r k M D).1)) r).1)), (f_P_operand p2 r k M D).2, M, D) := by rw [f_P_executeG1, if_neg c_1, if_pos c_2]
      exact W.iret (v := (0 : Int32)) hx hb hr (fun t ht hW => ⟨⟨(0 : Int32), (), rfl, (congrArg (fun z => z.1) hf).symm, by rw [hf]; exact ⟨by rw [ht]; exact hP, va_K.moved hW.alike hK, hD⟩⟩, hS.F ht⟩) hS.2.2 d_P_executeG1_165
    · by_cases c_3 : p1 = (1 : Int32)
      · refine lv_tableIn (tgt := 89) hx hb d_P_executeG1_28 (by rw [c_3]; decide) (by rw [c_3]; decide) (by rw [c_3]; rfl) (by decide) ?_
        refine lv_aload_n hx hb d_P_executeG1_89 rfl (lv_at hl 1 rfl) ?_
        refine lv_aload_n hx hb d_P_executeG1_90 rfl (lv_at hl 1 rfl) ?_
        refine lv_aload_n hx hb d_P_executeG1_91 rfl (lv_at hl 1 rfl) ?_
        refine va_get (D := (dC, dI)) (ci := 1) (v := .int (r 0)) (C := R_P) (T := F_P) (N := 13) hx hb htB i_P hown hK hP 0 rfl rfl 1 (by decide) (htB _ mw_59) (fun _ h9 => h9) rfl d_P_executeG1_92 ?_
        refine lv_iload_n hx hb d_P_executeG1_95 rfl (lv_at hl 0 rfl) ?_
        refine lv_iand hx hb d_P_executeG1_96 ?_
        have hPc := hP.sub (ws' := [c_P q0 q1 r]) [0] rfl
        have hDc := hD.sub (ws' := [c_P q0 q1 r]) [0] (by decide) rfl
        have hKc := hK.sub (tys' := []) [] rfl
        have hFc := va_free (wc := [c_P q0 q1 r]) hD hS hA [0] rfl
        refine va_calli (va_runV (As := [.int ((r 0) &&& ((f_P_operand p2 r k M D).1))]) (rest := [.ref q0]) ⟨hx, hb, hml, hown, htB⟩ (c_P_set l dC dI z0 q0 q1 H.size ((r 0) &&& ((f_P_operand p2 r k M D).1)) r) (cwV 1 htB (gd_V mw_322 mw_324 sw_P_set mw_2 mw_325) rfl rfl rfl (by decide +kernel) ⟨Nat.le_of_ble_eq_true rfl, Nat.le_of_ble_eq_true rfl⟩) (pcx_V (va_recv hKc hPc (ci := 1) (q0 := 0) rfl rfl) hPc hKc hDc hA0 hE hS) rfl rfl hl.1 rfl (lv_room (Nat.le_of_ble_eq_true rfl)) d_P_executeG1_97 ⟨Nat.zero_le _, Nat.zero_le _⟩) hS (fun q _ h => hFc q h) hFc (fun r9 u t H1 locs ht hvm hw hB hz1 hk1 hS => ?_)
        subst hw
        obtain ⟨hP1, hK1, hD1⟩ := hB
        rw [ht] at hP1
        obtain ⟨hP, hD⟩ := va_join (wr := [c_B q1 q2 q3 ((f_P_operand p2 r k M D).2), c_A q2 cM 1024 M, c_A q3 cD 256 D]) (w1 := [c_P q0 q1 ((f_P_set ((r 0) &&& ((f_P_operand p2 r k M D).1)) r).2)]) hP hD [0] [1, 2, 3] rfl rfl (by decide) (by decide) hk1 hFc hP1 hD1
        generalize H1 = H at hP hS ⊢
        have hP : va_P (dC, dI) classes [c_P q0 q1 ((f_P_set ((r 0) &&& ((f_P_operand p2 r k M D).1)) r).2), c_B q1 q2 q3 ((f_P_operand p2 r k M D).2), c_A q2 cM 1024 M, c_A q3 cD 256 D] H := hP.sub [3, 0, 1, 2] rfl
        have hD : va_D A [c_P q0 q1 ((f_P_set ((r 0) &&& ((f_P_operand p2 r k M D).1)) r).2), c_B q1 q2 q3 ((f_P_operand p2 r k M D).2), c_A q2 cM 1024 M, c_A q3 cD 256 D] := hD.sub [3, 0, 1, 2] (by decide) rfl
        refine va_put (D := (dC, dI)) (ci := 1) (v := .int ((f_P_set ((r 0) &&& ((f_P_operand p2 r k M D).1)) r).1)) (ty := .int) (C := R_P) (T := F_P) (N := 13) hx hb htB i_P t_P t_P_ok n_P hown hK hP hD hS 0 rfl rfl 1 (by decide) (htB _ mw_59) (fun _ h9 => h9) rfl (by decide +kernel) rfl rfl (Nat.le_of_ble_eq_true rfl) d_P_executeG1_100 (fun H locs hP hD hS => ?_)
        have hP : va_P (dC, dI) classes [c_P q0 q1 (upd ((f_P_set ((r 0) &&& ((f_P_operand p2 r k M D).1)) r).2) 0 ((f_P_set ((r 0) &&& ((f_P_operand p2 r k M D).1)) r).1)), c_B q1 q2 q3 ((f_P_operand p2 r k M D).2), c_A q2 cM 1024 M, c_A q3 cD 256 D] H := hP
        have hD : va_D A [c_P q0 q1 (upd ((f_P_set ((r 0) &&& ((f_P_operand p2 r k M D).1)) r).2) 0 ((f_P_set ((r 0) &&& ((f_P_operand p2 r k M D).1)) r).1)), c_B q1 q2 q3 ((f_P_operand p2 r k M D).2), c_A q2 cM 1024 M, c_A q3 cD 256 D] := hD
        refine lv_goto (tgt := 164) hx hb d_P_executeG1_103 (by decide) ?_
        refine lv_iconst (v := 0) hx hb d_P_executeG1_164 (by decide) ?_
        have hf : f_P_executeG1 p1 p2 r k M D = ((0 : Int32), (upd ((f_P_set ((r 0) &&& ((f_P_operand p2 r k M D).1)) r).2) 0 ((f_P_set ((r 0) &&& ((f_P_operand p2 r k M D).1)) r).1)), (f_P_operand p2 r k M D).2, M, D) := by rw [f_P_executeG1, if_neg c_1, if_neg c_2, if_pos c_3]
        exact W.iret (v := (0 : Int32)) hx hb hr (fun t ht hW => ⟨⟨(0 : Int32), (), rfl, (congrArg (fun z => z.1) hf).symm, by rw [hf]; exact ⟨by rw [ht]; exact hP, va_K.moved hW.alike hK, hD⟩⟩, hS.F ht⟩) hS.2.2 d_P_executeG1_165
      · by_cases c_4 : p1 = (2 : Int32)
        · refine lv_tableIn (tgt := 106) hx hb d_P_executeG1_28 (by rw [c_4]; decide) (by rw [c_4]; decide) (by rw [c_4]; rfl) (by decide) ?_
          refine lv_aload_n hx hb d_P_executeG1_106 rfl (lv_at hl 1 rfl) ?_
          refine lv_aload_n hx hb d_P_executeG1_107 rfl (lv_at hl 1 rfl) ?_
          refine lv_aload_n hx hb d_P_executeG1_108 rfl (lv_at hl 1 rfl) ?_
          refine va_get (D := (dC, dI)) (ci := 1) (v := .int (r 0)) (C := R_P) (T := F_P) (N := 13) hx hb htB i_P hown hK hP 0 rfl rfl 1 (by decide) (htB _ mw_59) (fun _ h9 => h9) rfl d_P_executeG1_109 ?_
          refine lv_iload_n hx hb d_P_executeG1_112 rfl (lv_at hl 0 rfl) ?_
          refine lv_ixor hx hb d_P_executeG1_113 ?_
          have hPc := hP.sub (ws' := [c_P q0 q1 r]) [0] rfl
          have hDc := hD.sub (ws' := [c_P q0 q1 r]) [0] (by decide) rfl
          have hKc := hK.sub (tys' := []) [] rfl
          have hFc := va_free (wc := [c_P q0 q1 r]) hD hS hA [0] rfl
          refine va_calli (va_runV (As := [.int ((r 0) ^^^ ((f_P_operand p2 r k M D).1))]) (rest := [.ref q0]) ⟨hx, hb, hml, hown, htB⟩ (c_P_set l dC dI z0 q0 q1 H.size ((r 0) ^^^ ((f_P_operand p2 r k M D).1)) r) (cwV 1 htB (gd_V mw_322 mw_324 sw_P_set mw_2 mw_325) rfl rfl rfl (by decide +kernel) ⟨Nat.le_of_ble_eq_true rfl, Nat.le_of_ble_eq_true rfl⟩) (pcx_V (va_recv hKc hPc (ci := 1) (q0 := 0) rfl rfl) hPc hKc hDc hA0 hE hS) rfl rfl hl.1 rfl (lv_room (Nat.le_of_ble_eq_true rfl)) d_P_executeG1_114 ⟨Nat.zero_le _, Nat.zero_le _⟩) hS (fun q _ h => hFc q h) hFc (fun r9 u t H1 locs ht hvm hw hB hz1 hk1 hS => ?_)
          subst hw
          obtain ⟨hP1, hK1, hD1⟩ := hB
          rw [ht] at hP1
          obtain ⟨hP, hD⟩ := va_join (wr := [c_B q1 q2 q3 ((f_P_operand p2 r k M D).2), c_A q2 cM 1024 M, c_A q3 cD 256 D]) (w1 := [c_P q0 q1 ((f_P_set ((r 0) ^^^ ((f_P_operand p2 r k M D).1)) r).2)]) hP hD [0] [1, 2, 3] rfl rfl (by decide) (by decide) hk1 hFc hP1 hD1
          generalize H1 = H at hP hS ⊢
          have hP : va_P (dC, dI) classes [c_P q0 q1 ((f_P_set ((r 0) ^^^ ((f_P_operand p2 r k M D).1)) r).2), c_B q1 q2 q3 ((f_P_operand p2 r k M D).2), c_A q2 cM 1024 M, c_A q3 cD 256 D] H := hP.sub [3, 0, 1, 2] rfl
          have hD : va_D A [c_P q0 q1 ((f_P_set ((r 0) ^^^ ((f_P_operand p2 r k M D).1)) r).2), c_B q1 q2 q3 ((f_P_operand p2 r k M D).2), c_A q2 cM 1024 M, c_A q3 cD 256 D] := hD.sub [3, 0, 1, 2] (by decide) rfl
          refine va_put (D := (dC, dI)) (ci := 1) (v := .int ((f_P_set ((r 0) ^^^ ((f_P_operand p2 r k M D).1)) r).1)) (ty := .int) (C := R_P) (T := F_P) (N := 13) hx hb htB i_P t_P t_P_ok n_P hown hK hP hD hS 0 rfl rfl 1 (by decide) (htB _ mw_59) (fun _ h9 => h9) rfl (by decide +kernel) rfl rfl (Nat.le_of_ble_eq_true rfl) d_P_executeG1_117 (fun H locs hP hD hS => ?_)
          have hP : va_P (dC, dI) classes [c_P q0 q1 (upd ((f_P_set ((r 0) ^^^ ((f_P_operand p2 r k M D).1)) r).2) 0 ((f_P_set ((r 0) ^^^ ((f_P_operand p2 r k M D).1)) r).1)), c_B q1 q2 q3 ((f_P_operand p2 r k M D).2), c_A q2 cM 1024 M, c_A q3 cD 256 D] H := hP
          have hD : va_D A [c_P q0 q1 (upd ((f_P_set ((r 0) ^^^ ((f_P_operand p2 r k M D).1)) r).2) 0 ((f_P_set ((r 0) ^^^ ((f_P_operand p2 r k M D).1)) r).1)), c_B q1 q2 q3 ((f_P_operand p2 r k M D).2), c_A q2 cM 1024 M, c_A q3 cD 256 D] := hD
          refine lv_goto (tgt := 164) hx hb d_P_executeG1_120 (by decide) ?_
          refine lv_iconst (v := 0) hx hb d_P_executeG1_164 (by decide) ?_
          have hf : f_P_executeG1 p1 p2 r k M D = ((0 : Int32), (upd ((f_P_set ((r 0) ^^^ ((f_P_operand p2 r k M D).1)) r).2) 0 ((f_P_set ((r 0) ^^^ ((f_P_operand p2 r k M D).1)) r).1)), (f_P_operand p2 r k M D).2, M, D) := by rw [f_P_executeG1, if_neg c_1, if_neg c_2, if_neg c_3, if_pos c_4]
          exact W.iret (v := (0 : Int32)) hx hb hr (fun t ht hW => ⟨⟨(0 : Int32), (), rfl, (congrArg (fun z => z.1) hf).symm, by rw [hf]; exact ⟨by rw [ht]; exact hP, va_K.moved hW.alike hK, hD⟩⟩, hS.F ht⟩) hS.2.2 d_P_executeG1_165
        · by_cases c_5 : p1 = (3 : Int32)
          · refine lv_tableIn (tgt := 123) hx hb d_P_executeG1_28 (by rw [c_5]; decide) (by rw [c_5]; decide) (by rw [c_5]; rfl) (by decide) ?_
            refine lv_aload_n hx hb d_P_executeG1_123 rfl (lv_at hl 1 rfl) ?_
            refine lv_iload_n hx hb d_P_executeG1_124 rfl (lv_at hl 0 rfl) ?_
            have hPc := hP.sub (ws' := [c_P q0 q1 r]) [0] rfl
            have hDc := hD.sub (ws' := [c_P q0 q1 r]) [0] (by decide) rfl
            have hKc := hK.sub (tys' := []) [] rfl
            have hFc := va_free (wc := [c_P q0 q1 r]) hD hS hA [0] rfl
            refine va_callv (va_runV (As := [.int ((f_P_operand p2 r k M D).1)]) (rest := []) ⟨hx, hb, hml, hown, htB⟩ (c_P_add l dC dI z0 q0 q1 H.size ((f_P_operand p2 r k M D).1) r) (cwV 1 htB (gd_V mw_326 mw_328 sw_P_add mw_2 mw_329) rfl rfl rfl (by decide +kernel) ⟨Nat.le_of_ble_eq_true rfl, Nat.le_of_ble_eq_true rfl⟩) (pcx_V (va_recv hKc hPc (ci := 1) (q0 := 0) rfl rfl) hPc hKc hDc hA0 hE hS) rfl rfl hl.1 rfl (lv_room (Nat.le_of_ble_eq_true rfl)) d_P_executeG1_125 ⟨Nat.zero_le _, Nat.zero_le _⟩) hS (fun q _ h => hFc q h) hFc (fun u t H1 locs ht hvm hw hB hz1 hk1 hS => ?_)
            obtain ⟨hP1, hK1, hD1⟩ := hB
            rw [ht] at hP1
            obtain ⟨hP, hD⟩ := va_join (wr := [c_B q1 q2 q3 ((f_P_operand p2 r k M D).2), c_A q2 cM 1024 M, c_A q3 cD 256 D]) (w1 := [c_P q0 q1 (f_P_add ((f_P_operand p2 r k M D).1) r)]) hP hD [0] [1, 2, 3] rfl rfl (by decide) (by decide) hk1 hFc hP1 hD1
            generalize H1 = H at hP hS ⊢
            have hP : va_P (dC, dI) classes [c_P q0 q1 (f_P_add ((f_P_operand p2 r k M D).1) r), c_B q1 q2 q3 ((f_P_operand p2 r k M D).2), c_A q2 cM 1024 M, c_A q3 cD 256 D] H := hP.sub [3, 0, 1, 2] rfl
            have hD : va_D A [c_P q0 q1 (f_P_add ((f_P_operand p2 r k M D).1) r), c_B q1 q2 q3 ((f_P_operand p2 r k M D).2), c_A q2 cM 1024 M, c_A q3 cD 256 D] := hD.sub [3, 0, 1, 2] (by decide) rfl
            refine lv_goto (tgt := 164) hx hb d_P_executeG1_128 (by decide) ?_
            refine lv_iconst (v := 0) hx hb d_P_executeG1_164 (by decide) ?_
            have hf : f_P_executeG1 p1 p2 r k M D = ((0 : Int32), (f_P_add ((f_P_operand p2 r k M D).1) r), (f_P_operand p2 r k M D).2, M, D) := by rw [f_P_executeG1, if_neg c_1, if_neg c_2, if_neg c_3, if_neg c_4, if_pos c_5]
            exact W.iret (v := (0 : Int32)) hx hb hr (fun t ht hW => ⟨⟨(0 : Int32), (), rfl, (congrArg (fun z => z.1) hf).symm, by rw [hf]; exact ⟨by rw [ht]; exact hP, va_K.moved hW.alike hK, hD⟩⟩, hS.F ht⟩) hS.2.2 d_P_executeG1_165
          · by_cases c_6 : p1 = (5 : Int32)
            · refine lv_tableIn (tgt := 131) hx hb d_P_executeG1_28 (by rw [c_6]; decide) (by rw [c_6]; decide) (by rw [c_6]; rfl) (by decide) ?_
              refine lv_aload_n hx hb d_P_executeG1_131 rfl (lv_at hl 1 rfl) ?_
              refine lv_aload_n hx hb d_P_executeG1_132 rfl (lv_at hl 1 rfl) ?_
              refine lv_iload_n hx hb d_P_executeG1_133 rfl (lv_at hl 0 rfl) ?_
              have hPc := hP.sub (ws' := [c_P q0 q1 r]) [0] rfl
              have hDc := hD.sub (ws' := [c_P q0 q1 r]) [0] (by decide) rfl
              have hKc := hK.sub (tys' := []) [] rfl
              have hFc := va_free (wc := [c_P q0 q1 r]) hD hS hA [0] rfl
              refine va_calli (va_runV (As := [.int ((f_P_operand p2 r k M D).1)]) (rest := [.ref q0]) ⟨hx, hb, hml, hown, htB⟩ (c_P_set l dC dI z0 q0 q1 H.size ((f_P_operand p2 r k M D).1) r) (cwV 1 htB (gd_V mw_322 mw_324 sw_P_set mw_2 mw_325) rfl rfl rfl (by decide +kernel) ⟨Nat.le_of_ble_eq_true rfl, Nat.le_of_ble_eq_true rfl⟩) (pcx_V (va_recv hKc hPc (ci := 1) (q0 := 0) rfl rfl) hPc hKc hDc hA0 hE hS) rfl rfl hl.1 rfl (lv_room (Nat.le_of_ble_eq_true rfl)) d_P_executeG1_134 ⟨Nat.zero_le _, Nat.zero_le _⟩) hS (fun q _ h => hFc q h) hFc (fun r9 u t H1 locs ht hvm hw hB hz1 hk1 hS => ?_)
              subst hw
              obtain ⟨hP1, hK1, hD1⟩ := hB
              rw [ht] at hP1
              obtain ⟨hP, hD⟩ := va_join (wr := [c_B q1 q2 q3 ((f_P_operand p2 r k M D).2), c_A q2 cM 1024 M, c_A q3 cD 256 D]) (w1 := [c_P q0 q1 ((f_P_set ((f_P_operand p2 r k M D).1) r).2)]) hP hD [0] [1, 2, 3] rfl rfl (by decide) (by decide) hk1 hFc hP1 hD1
              generalize H1 = H at hP hS ⊢
              have hP : va_P (dC, dI) classes [c_P q0 q1 ((f_P_set ((f_P_operand p2 r k M D).1) r).2), c_B q1 q2 q3 ((f_P_operand p2 r k M D).2), c_A q2 cM 1024 M, c_A q3 cD 256 D] H := hP.sub [3, 0, 1, 2] rfl
              have hD : va_D A [c_P q0 q1 ((f_P_set ((f_P_operand p2 r k M D).1) r).2), c_B q1 q2 q3 ((f_P_operand p2 r k M D).2), c_A q2 cM 1024 M, c_A q3 cD 256 D] := hD.sub [3, 0, 1, 2] (by decide) rfl
              refine va_put (D := (dC, dI)) (ci := 1) (v := .int ((f_P_set ((f_P_operand p2 r k M D).1) r).1)) (ty := .int) (C := R_P) (T := F_P) (N := 13) hx hb htB i_P t_P t_P_ok n_P hown hK hP hD hS 0 rfl rfl 1 (by decide) (htB _ mw_59) (fun _ h9 => h9) rfl (by decide +kernel) rfl rfl (Nat.le_of_ble_eq_true rfl) d_P_executeG1_137 (fun H locs hP hD hS => ?_)
              have hP : va_P (dC, dI) classes [c_P q0 q1 (upd ((f_P_set ((f_P_operand p2 r k M D).1) r).2) 0 ((f_P_set ((f_P_operand p2 r k M D).1) r).1)), c_B q1 q2 q3 ((f_P_operand p2 r k M D).2), c_A q2 cM 1024 M, c_A q3 cD 256 D] H := hP
              have hD : va_D A [c_P q0 q1 (upd ((f_P_set ((f_P_operand p2 r k M D).1) r).2) 0 ((f_P_set ((f_P_operand p2 r k M D).1) r).1)), c_B q1 q2 q3 ((f_P_operand p2 r k M D).2), c_A q2 cM 1024 M, c_A q3 cD 256 D] := hD
              refine lv_goto (tgt := 164) hx hb d_P_executeG1_140 (by decide) ?_
              refine lv_iconst (v := 0) hx hb d_P_executeG1_164 (by decide) ?_
              have hf : f_P_executeG1 p1 p2 r k M D = ((0 : Int32), (upd ((f_P_set ((f_P_operand p2 r k M D).1) r).2) 0 ((f_P_set ((f_P_operand p2 r k M D).1) r).1)), (f_P_operand p2 r k M D).2, M, D) := by rw [f_P_executeG1, if_neg c_1, if_neg c_2, if_neg c_3, if_neg c_4, if_neg c_5, if_pos c_6]
              exact W.iret (v := (0 : Int32)) hx hb hr (fun t ht hW => ⟨⟨(0 : Int32), (), rfl, (congrArg (fun z => z.1) hf).symm, by rw [hf]; exact ⟨by rw [ht]; exact hP, va_K.moved hW.alike hK, hD⟩⟩, hS.F ht⟩) hS.2.2 d_P_executeG1_165
            · by_cases c_7 : p1 = (6 : Int32)
              · refine lv_tableIn (tgt := 143) hx hb d_P_executeG1_28 (by rw [c_7]; decide) (by rw [c_7]; decide) (by rw [c_7]; rfl) (by decide) ?_
                refine lv_aload_n hx hb d_P_executeG1_143 rfl (lv_at hl 1 rfl) ?_
                refine lv_aload_n hx hb d_P_executeG1_144 rfl (lv_at hl 1 rfl) ?_
                refine va_get (D := (dC, dI)) (ci := 1) (v := .int (r 0)) (C := R_P) (T := F_P) (N := 13) hx hb htB i_P hown hK hP 0 rfl rfl 1 (by decide) (htB _ mw_59) (fun _ h9 => h9) rfl d_P_executeG1_145 ?_
                refine lv_iload_n hx hb d_P_executeG1_148 rfl (lv_at hl 0 rfl) ?_
                have hPc := hP.sub (ws' := [c_P q0 q1 r]) [0] rfl
                have hDc := hD.sub (ws' := [c_P q0 q1 r]) [0] (by decide) rfl
                have hKc := hK.sub (tys' := []) [] rfl
                have hFc := va_free (wc := [c_P q0 q1 r]) hD hS hA [0] rfl
                refine va_callv (va_runV (As := [.int (r 0), .int ((f_P_operand p2 r k M D).1)]) (rest := []) ⟨hx, hb, hml, hown, htB⟩ (c_P_compare l dC dI z0 q0 q1 H.size (r 0) ((f_P_operand p2 r k M D).1) r) (cwV 2 htB (gd_V mw_330 mw_332 sw_P_compare mw_2 mw_333) rfl rfl rfl (by decide +kernel) ⟨Nat.le_of_ble_eq_true rfl, Nat.le_of_ble_eq_true rfl⟩) (pcx_V (va_recv hKc hPc (ci := 1) (q0 := 0) rfl rfl) hPc hKc hDc hA0 hE hS) rfl rfl hl.1 rfl (lv_room (Nat.le_of_ble_eq_true rfl)) d_P_executeG1_149 ⟨Nat.zero_le _, Nat.zero_le _⟩) hS (fun q _ h => hFc q h) hFc (fun u t H1 locs ht hvm hw hB hz1 hk1 hS => ?_)
                obtain ⟨hP1, hK1, hD1⟩ := hB
                rw [ht] at hP1
                obtain ⟨hP, hD⟩ := va_join (wr := [c_B q1 q2 q3 ((f_P_operand p2 r k M D).2), c_A q2 cM 1024 M, c_A q3 cD 256 D]) (w1 := [c_P q0 q1 (f_P_compare (r 0) ((f_P_operand p2 r k M D).1) r)]) hP hD [0] [1, 2, 3] rfl rfl (by decide) (by decide) hk1 hFc hP1 hD1
                generalize H1 = H at hP hS ⊢
                have hP : va_P (dC, dI) classes [c_P q0 q1 (f_P_compare (r 0) ((f_P_operand p2 r k M D).1) r), c_B q1 q2 q3 ((f_P_operand p2 r k M D).2), c_A q2 cM 1024 M, c_A q3 cD 256 D] H := hP.sub [3, 0, 1, 2] rfl
                have hD : va_D A [c_P q0 q1 (f_P_compare (r 0) ((f_P_operand p2 r k M D).1) r), c_B q1 q2 q3 ((f_P_operand p2 r k M D).2), c_A q2 cM 1024 M, c_A q3 cD 256 D] := hD.sub [3, 0, 1, 2] (by decide) rfl
                refine lv_goto (tgt := 164) hx hb d_P_executeG1_152 (by decide) ?_
                refine lv_iconst (v := 0) hx hb d_P_executeG1_164 (by decide) ?_
                have hf : f_P_executeG1 p1 p2 r k M D = ((0 : Int32), (f_P_compare (r 0) ((f_P_operand p2 r k M D).1) r), (f_P_operand p2 r k M D).2, M, D) := by rw [f_P_executeG1, if_neg c_1, if_neg c_2, if_neg c_3, if_neg c_4, if_neg c_5, if_neg c_6, if_pos c_7]
                exact W.iret (v := (0 : Int32)) hx hb hr (fun t ht hW => ⟨⟨(0 : Int32), (), rfl, (congrArg (fun z => z.1) hf).symm, by rw [hf]; exact ⟨by rw [ht]; exact hP, va_K.moved hW.alike hK, hD⟩⟩, hS.F ht⟩) hS.2.2 d_P_executeG1_165
              · refine lv_tableOut (tgt := 155) hx hb d_P_executeG1_28 (by have g_0 := lv_neT c_2 (show (0 : Int32).toInt = 0 from by decide); have g_1 := lv_neT c_3 (show (1 : Int32).toInt = 1 from by decide); have g_2 := lv_neT c_4 (show (2 : Int32).toInt = 2 from by decide); have g_3 := lv_neT c_5 (show (3 : Int32).toInt = 3 from by decide); have g_4 := lv_neT c_1 (show (4 : Int32).toInt = 4 from by decide); have g_5 := lv_neT c_6 (show (5 : Int32).toInt = 5 from by decide); have g_6 := lv_neT c_7 (show (6 : Int32).toInt = 6 from by decide); omega) (by decide) ?_
                refine lv_aload_n hx hb d_P_executeG1_155 rfl (lv_at hl 1 rfl) ?_
                refine lv_sipush (v := 255) hx hb d_P_executeG1_156 (by decide) ?_
                refine lv_iload_n hx hb d_P_executeG1_159 rfl (lv_at hl 0 rfl) ?_
                refine lv_isub hx hb d_P_executeG1_160 ?_
                have hPc := hP.sub (ws' := [c_P q0 q1 r]) [0] rfl
                have hDc := hD.sub (ws' := [c_P q0 q1 r]) [0] (by decide) rfl
                have hKc := hK.sub (tys' := []) [] rfl
                have hFc := va_free (wc := [c_P q0 q1 r]) hD hS hA [0] rfl
                refine va_callv (va_runV (As := [.int ((255 : Int32) - ((f_P_operand p2 r k M D).1))]) (rest := []) ⟨hx, hb, hml, hown, htB⟩ (c_P_add l dC dI z0 q0 q1 H.size ((255 : Int32) - ((f_P_operand p2 r k M D).1)) r) (cwV 1 htB (gd_V mw_326 mw_328 sw_P_add mw_2 mw_329) rfl rfl rfl (by decide +kernel) ⟨Nat.le_of_ble_eq_true rfl, Nat.le_of_ble_eq_true rfl⟩) (pcx_V (va_recv hKc hPc (ci := 1) (q0 := 0) rfl rfl) hPc hKc hDc hA0 hE hS) rfl rfl hl.1 rfl (lv_room (Nat.le_of_ble_eq_true rfl)) d_P_executeG1_161 ⟨Nat.zero_le _, Nat.zero_le _⟩) hS (fun q _ h => hFc q h) hFc (fun u t H1 locs ht hvm hw hB hz1 hk1 hS => ?_)
                obtain ⟨hP1, hK1, hD1⟩ := hB
                rw [ht] at hP1
                obtain ⟨hP, hD⟩ := va_join (wr := [c_B q1 q2 q3 ((f_P_operand p2 r k M D).2), c_A q2 cM 1024 M, c_A q3 cD 256 D]) (w1 := [c_P q0 q1 (f_P_add ((255 : Int32) - ((f_P_operand p2 r k M D).1)) r)]) hP hD [0] [1, 2, 3] rfl rfl (by decide) (by decide) hk1 hFc hP1 hD1
                generalize H1 = H at hP hS ⊢
                have hP : va_P (dC, dI) classes [c_P q0 q1 (f_P_add ((255 : Int32) - ((f_P_operand p2 r k M D).1)) r), c_B q1 q2 q3 ((f_P_operand p2 r k M D).2), c_A q2 cM 1024 M, c_A q3 cD 256 D] H := hP.sub [3, 0, 1, 2] rfl
                have hD : va_D A [c_P q0 q1 (f_P_add ((255 : Int32) - ((f_P_operand p2 r k M D).1)) r), c_B q1 q2 q3 ((f_P_operand p2 r k M D).2), c_A q2 cM 1024 M, c_A q3 cD 256 D] := hD.sub [3, 0, 1, 2] (by decide) rfl
                refine lv_iconst (v := 0) hx hb d_P_executeG1_164 (by decide) ?_
                have hf : f_P_executeG1 p1 p2 r k M D = ((0 : Int32), (f_P_add ((255 : Int32) - ((f_P_operand p2 r k M D).1)) r), (f_P_operand p2 r k M D).2, M, D) := by rw [f_P_executeG1, if_neg c_1, if_neg c_2, if_neg c_3, if_neg c_4, if_neg c_5, if_neg c_6, if_neg c_7]
                exact W.iret (v := (0 : Int32)) hx hb hr (fun t ht hW => ⟨⟨(0 : Int32), (), rfl, (congrArg (fun z => z.1) hf).symm, by rw [hf]; exact ⟨by rw [ht]; exact hP, va_K.moved hW.alike hK, hD⟩⟩, hS.F ht⟩) hS.2.2 d_P_executeG1_165
  · refine lv_aload_n hx hb d_P_executeG1_5 rfl (lv_at hl 0 rfl) ?_
    refine va_get (D := (dC, dI)) (ci := 1) (v := .ref q1) (C := R_P) (T := F_P) (N := 13) hx hb htB i_P hown hK hP 0 rfl rfl 0 (by decide) (htB _ mw_57) (fun _ h9 => h9) rfl d_P_executeG1_6 ?_
    refine lv_aload_n hx hb d_P_executeG1_9 rfl (lv_at hl 0 rfl) ?_
    refine va_get (D := (dC, dI)) (ci := 1) (v := .int (r 10)) (C := R_P) (T := F_P) (N := 13) hx hb htB i_P hown hK hP 0 rfl rfl 11 (by decide) (htB _ mw_70) (fun _ h9 => h9) rfl d_P_executeG1_10 ?_
    refine lv_aload_n hx hb d_P_executeG1_13 rfl (lv_at hl 0 rfl) ?_
    refine va_get (D := (dC, dI)) (ci := 1) (v := .int (r 0)) (C := R_P) (T := F_P) (N := 13) hx hb htB i_P hown hK hP 0 rfl rfl 1 (by decide) (htB _ mw_59) (fun _ h9 => h9) rfl d_P_executeG1_14 ?_
    have hPc := hP.sub (ws' := [c_B q1 q2 q3 k, c_A q2 cM 1024 M, c_A q3 cD 256 D]) [1, 2, 3] rfl
    have hDc := hD.sub (ws' := [c_B q1 q2 q3 k, c_A q2 cM 1024 M, c_A q3 cD 256 D]) [1, 2, 3] (by decide) rfl
    have hKc := hK.sub (tys' := [(cM, .int), (cD, .int)]) [0, 1] rfl
    have hFc := va_free (wc := [c_B q1 q2 q3 k, c_A q2 cM 1024 M, c_A q3 cD 256 D]) hD hS hA [1, 2, 3] rfl
    refine va_calli (va_runVN (As := [.int (r 10), .int (r 0)]) (rest := []) ⟨hx, hb, hml, hown, htB⟩ (c_B_writeByte l dC dI z0 q1 q2 q3 cM cD H.size (r 10) (r 0) k M D hsn) ⟨va_cnB 2 htB (gd_c mw_310) rfl rfl rfl (hE.2.1 _ ew_307) (htB _ mw_3) (by decide +kernel) ⟨Nat.le_of_ble_eq_true rfl, Nat.le_of_ble_eq_true rfl⟩, htB _ mw_309, htB _ sw_B_writeByte⟩ (pcx_V (va_recv hKc hPc (ci := 2) (q0 := 0) rfl rfl) hPc hKc hDc hA0 hE hS) rfl rfl hl.1 rfl (lv_room (Nat.le_of_ble_eq_true rfl)) d_P_executeG1_17 ⟨Nat.zero_le _, Nat.zero_le _⟩) hS (fun q _ h => hFc q h) hFc (fun r9 u t H1 locs ht hvm hw hB hz1 hk1 hS => ?_)
    subst hw
    obtain ⟨hP1, hK1, hD1⟩ := hB
    rw [ht] at hP1
    obtain ⟨hP, hD⟩ := va_join (wr := [c_P q0 q1 r]) (w1 := [c_B q1 q2 q3 ((f_B_writeByte (r 10) (r 0) k M D).2.1), c_A q2 cM 1024 ((f_B_writeByte (r 10) (r 0) k M D).2.2.1), c_A q3 cD 256 ((f_B_writeByte (r 10) (r 0) k M D).2.2.2)]) hP hD [1, 2, 3] [0] rfl rfl (by decide) (by decide) hk1 hFc hP1 hD1
    generalize H1 = H at hP hS ⊢
    have hP : va_P (dC, dI) classes [c_P q0 q1 r, c_B q1 q2 q3 ((f_B_writeByte (r 10) (r 0) k M D).2.1), c_A q2 cM 1024 ((f_B_writeByte (r 10) (r 0) k M D).2.2.1), c_A q3 cD 256 ((f_B_writeByte (r 10) (r 0) k M D).2.2.2)] H := hP.sub [0, 1, 2, 3] rfl
    have hD : va_D A [c_P q0 q1 r, c_B q1 q2 q3 ((f_B_writeByte (r 10) (r 0) k M D).2.1), c_A q2 cM 1024 ((f_B_writeByte (r 10) (r 0) k M D).2.2.1), c_A q3 cD 256 ((f_B_writeByte (r 10) (r 0) k M D).2.2.2)] := hD.sub [0, 1, 2, 3] (by decide) rfl
    have hf : f_P_executeG1 p1 p2 r k M D = ((f_B_writeByte (r 10) (r 0) k M D).1, r, (f_B_writeByte (r 10) (r 0) k M D).2.1, (f_B_writeByte (r 10) (r 0) k M D).2.2.1, (f_B_writeByte (r 10) (r 0) k M D).2.2.2) := by rw [f_P_executeG1, if_pos c_1]
    exact W.iret (v := (f_B_writeByte (r 10) (r 0) k M D).1) hx hb hr (fun t ht hW => ⟨⟨(f_B_writeByte (r 10) (r 0) k M D).1, (), rfl, (congrArg (fun z => z.1) hf).symm, by rw [hf]; exact ⟨by rw [ht]; exact hP, va_K.moved hW.alike hK, hD⟩⟩, hS.F ht⟩) hS.2.2 d_P_executeG1_20

def f_P_executeG2 (p1 : Int32) (p2 : Int32) (r k M D : Nat → Int32) : Int32 × (Nat → Int32) × (Nat → Int32) × (Nat → Int32) × (Nat → Int32) :=
  if p1 = (4 : Int32) then
    ((f_P_executeFromX p2 r k M D).1, (f_P_executeFromX p2 r k M D).2.1, (f_P_executeFromX p2 r k M D).2.2.1, (f_P_executeFromX p2 r k M D).2.2.2.1, (f_P_executeFromX p2 r k M D).2.2.2.2)
  else
    if p1 = (5 : Int32) then
      if p2 = (10 : Int32) then
        ((0 : Int32), (upd ((f_P_set (r 3) r).2) 1 ((f_P_set (r 3) r).1)), k, M, D)
      else
        ((0 : Int32), (upd ((f_P_set ((f_P_operand p2 r k M D).1) r).2) 1 ((f_P_set ((f_P_operand p2 r k M D).1) r).1)), (f_P_operand p2 r k M D).2, M, D)
    else
      if p1 = (6 : Int32) then
        if p2 = (9 : Int32) then
          ((0 : Int32), (upd ((f_P_set (((r 1) - (1 : Int32)) &&& (255 : Int32)) r).2) 1 ((f_P_set (((r 1) - (1 : Int32)) &&& (255 : Int32)) r).1)), k, M, D)
        else
          if p1 = (7 : Int32) then
            ((f_P_change p1 p2 r k M D).1, (f_P_change p1 p2 r k M D).2.1, (f_P_change p1 p2 r k M D).2.2.1, (f_P_change p1 p2 r k M D).2.2.2.1, (f_P_change p1 p2 r k M D).2.2.2.2)
          else
            ((f_P_change p1 p2 r k M D).1, (f_P_change p1 p2 r k M D).2.1, (f_P_change p1 p2 r k M D).2.2.1, (f_P_change p1 p2 r k M D).2.2.2.1, (f_P_change p1 p2 r k M D).2.2.2.2)
      else
        if p1 = (7 : Int32) then
          if p2 = (9 : Int32) then
            ((0 : Int32), r, k, M, D)
          else
            ((f_P_change p1 p2 r k M D).1, (f_P_change p1 p2 r k M D).2.1, (f_P_change p1 p2 r k M D).2.2.1, (f_P_change p1 p2 r k M D).2.2.2.1, (f_P_change p1 p2 r k M D).2.2.2.2)
        else
          ((f_P_change p1 p2 r k M D).1, (f_P_change p1 p2 r k M D).2.1, (f_P_change p1 p2 r k M D).2.2.1, (f_P_change p1 p2 r k M D).2.2.2.1, (f_P_change p1 p2 r k M D).2.2.2.2)
abbrev Q_P_executeG2 (dC : Nat → ClassId) (dI : Nat → Nat → Nat) (q0 : Nat) (q1 : Nat) (q2 : Nat) (q3 : Nat) (cM : ClassId) (cD : ClassId) (p1 : Int32) (p2 : Int32) (r k M D : Nat → Int32) (A : Nat → Prop) : Array Value → State → Outcome → State → Prop := va_Qi (fun (r9 : Int32) (_ : Unit) => r9 = (f_P_executeG2 p1 p2 r k M D).1) (fun _ t => atW (dC, dI) classes A [c_P q0 q1 ((f_P_executeG2 p1 p2 r k M D).2.1), c_B q1 q2 q3 ((f_P_executeG2 p1 p2 r k M D).2.2.1), c_A q2 cM 1024 ((f_P_executeG2 p1 p2 r k M D).2.2.2.1), c_A q3 cD 256 ((f_P_executeG2 p1 p2 r k M D).2.2.2.2)] [(cM, .int), (cD, .int)] t) A
set_option maxHeartbeats 4000000 in
set_option maxRecDepth 100000 in
theorem c_P_executeG2 (l : Launch) (dC : Nat → ClassId) (dI : Nat → Nat → Nat) (z0 : Nat) (q0 : Nat) (q1 : Nat) (q2 : Nat) (q3 : Nat) (cM : ClassId) (cD : ClassId) (sz : Nat) (p1 : Int32) (p2 : Int32) (r k M D : Nat → Int32) (hsn : sn_ok k) : Met l y_P_executeG2 w_P_executeG2 ({ frames := 4, cells := 0, slots := 0, locals := 110 }) (PcX (dC, dI) classes z0 [c_P q0 q1 r, c_B q1 q2 q3 k, c_A q2 cM 1024 M, c_A q3 cD 256 D] [(cM, .int), (cD, .int)] sz [.ref q0, .int p1, .int p2]) (Q_P_executeG2 dC dI q0 q1 q2 q3 cM cD p1 p2 r k M D (va_A [c_P q0 q1 r, c_B q1 q2 q3 k, c_A q2 cM 1024 M, c_A q3 cD 256 D] sz)) 0 0 (va_A [c_P q0 q1 r, c_B q1 q2 q3 k, c_A q2 cM 1024 M, c_A q3 cD 256 D] sz) := by
  refine hdX (cc := b_P_executeG2) (maxL := 3) (ret := (some .int)) (C := R_P) (Qc := (Q_P_executeG2 dC dI q0 q1 q2 q3 cM cD p1 p2 r k M D)) (by decide) rfl ?_
  intro p e s m below meth c A H hx hb hr hlocks hml hown hin htB hP hK hD hA hA0 hE hS
  have hl := lv_entry ([.ref q0, .int p1, .int p2]) (n := 3) (Nat.le_of_ble_eq_true rfl)
  rw [lg_entry_eq]
  generalize (lg_sl ([.ref q0, .int p1, .int p2]) ++ List.replicate (3 - (lg_sl ([.ref q0, .int p1, .int p2])).length) Slot.unset).toArray = ls at hl ⊢
  have hl : lv_has ls 3 [(0, .ref q0), (1, .int p1), (2, .int p2)] := hl
  refine lv_iload_n hx hb d_P_executeG2_0 rfl (lv_at hl 1 rfl) ?_
  refine lv_iconst (v := 4) hx hb d_P_executeG2_1 (by decide) ?_
  refine lv_icmp_ne (tgt := 11) hx hb d_P_executeG2_2 (by decide) (fun c_1 => ?_) (fun c_1 => ?_)
  · refine lv_iload_n hx hb d_P_executeG2_11 rfl (lv_at hl 1 rfl) ?_
    refine lv_iconst (v := 5) hx hb d_P_executeG2_12 (by decide) ?_
    refine lv_icmp_ne (tgt := 44) hx hb d_P_executeG2_13 (by decide) (fun c_2 => ?_) (fun c_2 => ?_)
    · refine lv_iload_n hx hb d_P_executeG2_44 rfl (lv_at hl 1 rfl) ?_
      refine lv_bipush (v := 6) hx hb d_P_executeG2_45 (by decide) ?_
      refine lv_icmp_ne (tgt := 76) hx hb d_P_executeG2_47 (by decide) (fun c_3 => ?_) (fun c_3 => ?_)
      · refine lv_iload_n hx hb d_P_executeG2_76 rfl (lv_at hl 1 rfl) ?_
        refine lv_bipush (v := 7) hx hb d_P_executeG2_77 (by decide) ?_
        refine lv_icmp_ne (tgt := 90) hx hb d_P_executeG2_79 (by decide) (fun c_4 => ?_) (fun c_4 => ?_)
        · refine lv_aload_n hx hb d_P_executeG2_90 rfl (lv_at hl 0 rfl) ?_
          refine lv_iload_n hx hb d_P_executeG2_91 rfl (lv_at hl 1 rfl) ?_
          refine lv_iload_n hx hb d_P_executeG2_92 rfl (lv_at hl 2 rfl) ?_
          have hPc := hP.sub (ws' := [c_P q0 q1 r, c_B q1 q2 q3 k, c_A q2 cM 1024 M, c_A q3 cD 256 D]) [0, 1, 2, 3] rfl
          have hDc := hD.sub (ws' := [c_P q0 q1 r, c_B q1 q2 q3 k, c_A q2 cM 1024 M, c_A q3 cD 256 D]) [0, 1, 2, 3] (by decide) rfl
          have hKc := hK.sub (tys' := [(cM, .int), (cD, .int)]) [0, 1] rfl
          have hFc := va_free (wc := [c_P q0 q1 r, c_B q1 q2 q3 k, c_A q2 cM 1024 M, c_A q3 cD 256 D]) hD hS hA [0, 1, 2, 3] rfl
          refine va_calli (va_runV (As := [.int p1, .int p2]) (rest := []) ⟨hx, hb, hml, hown, htB⟩ (c_P_change l dC dI z0 q0 q1 q2 q3 cM cD H.size p1 p2 r k M D hsn) (cwV 2 htB (gd_V mw_342 mw_344 sw_P_change mw_2 mw_345) rfl rfl rfl (by decide +kernel) ⟨Nat.le_of_ble_eq_true rfl, Nat.le_of_ble_eq_true rfl⟩) (pcx_V (va_recv hKc hPc (ci := 1) (q0 := 0) rfl rfl) hPc hKc hDc hA0 hE hS) rfl rfl hl.1 rfl (lv_room (Nat.le_of_ble_eq_true rfl)) d_P_executeG2_93 ⟨Nat.zero_le _, Nat.zero_le _⟩) hS (fun q _ h => hFc q h) hFc (fun r9 u t H1 locs ht hvm hw hB hz1 hk1 hS => ?_)
          subst hw
          obtain ⟨hP1, hK1, hD1⟩ := hB
          rw [ht] at hP1
          obtain ⟨hP, hD⟩ := va_join (wr := []) (w1 := [c_P q0 q1 ((f_P_change p1 p2 r k M D).2.1), c_B q1 q2 q3 ((f_P_change p1 p2 r k M D).2.2.1), c_A q2 cM 1024 ((f_P_change p1 p2 r k M D).2.2.2.1), c_A q3 cD 256 ((f_P_change p1 p2 r k M D).2.2.2.2)]) hP hD [0, 1, 2, 3] [] rfl rfl (by decide) (by decide) hk1 hFc hP1 hD1
          generalize H1 = H at hP hS ⊢
          have hP : va_P (dC, dI) classes [c_P q0 q1 ((f_P_change p1 p2 r k M D).2.1), c_B q1 q2 q3 ((f_P_change p1 p2 r k M D).2.2.1), c_A q2 cM 1024 ((f_P_change p1 p2 r k M D).2.2.2.1), c_A q3 cD 256 ((f_P_change p1 p2 r k M D).2.2.2.2)] H := hP.sub [0, 1, 2, 3] rfl
          have hD : va_D A [c_P q0 q1 ((f_P_change p1 p2 r k M D).2.1), c_B q1 q2 q3 ((f_P_change p1 p2 r k M D).2.2.1), c_A q2 cM 1024 ((f_P_change p1 p2 r k M D).2.2.2.1), c_A q3 cD 256 ((f_P_change p1 p2 r k M D).2.2.2.2)] := hD.sub [0, 1, 2, 3] (by decide) rfl
          have hf : f_P_executeG2 p1 p2 r k M D = ((f_P_change p1 p2 r k M D).1, (f_P_change p1 p2 r k M D).2.1, (f_P_change p1 p2 r k M D).2.2.1, (f_P_change p1 p2 r k M D).2.2.2.1, (f_P_change p1 p2 r k M D).2.2.2.2) := by rw [f_P_executeG2, if_neg c_1, if_neg c_2, if_neg c_3, if_neg c_4]
          exact W.iret (v := (f_P_change p1 p2 r k M D).1) hx hb hr (fun t ht hW => ⟨⟨(f_P_change p1 p2 r k M D).1, (), rfl, (congrArg (fun z => z.1) hf).symm, by rw [hf]; exact ⟨by rw [ht]; exact hP, va_K.moved hW.alike hK, hD⟩⟩, hS.F ht⟩) hS.2.2 d_P_executeG2_96
        · refine lv_iload_n hx hb d_P_executeG2_82 rfl (lv_at hl 2 rfl) ?_
          refine lv_bipush (v := 9) hx hb d_P_executeG2_83 (by decide) ?_
          refine lv_icmp_ne (tgt := 90) hx hb d_P_executeG2_85 (by decide) (fun c_5 => ?_) (fun c_5 => ?_)
          · refine lv_aload_n hx hb d_P_executeG2_90 rfl (lv_at hl 0 rfl) ?_
            refine lv_iload_n hx hb d_P_executeG2_91 rfl (lv_at hl 1 rfl) ?_
            refine lv_iload_n hx hb d_P_executeG2_92 rfl (lv_at hl 2 rfl) ?_
            have hPc := hP.sub (ws' := [c_P q0 q1 r, c_B q1 q2 q3 k, c_A q2 cM 1024 M, c_A q3 cD 256 D]) [0, 1, 2, 3] rfl
            have hDc := hD.sub (ws' := [c_P q0 q1 r, c_B q1 q2 q3 k, c_A q2 cM 1024 M, c_A q3 cD 256 D]) [0, 1, 2, 3] (by decide) rfl
            have hKc := hK.sub (tys' := [(cM, .int), (cD, .int)]) [0, 1] rfl
            have hFc := va_free (wc := [c_P q0 q1 r, c_B q1 q2 q3 k, c_A q2 cM 1024 M, c_A q3 cD 256 D]) hD hS hA [0, 1, 2, 3] rfl
            refine va_calli (va_runV (As := [.int p1, .int p2]) (rest := []) ⟨hx, hb, hml, hown, htB⟩ (c_P_change l dC dI z0 q0 q1 q2 q3 cM cD H.size p1 p2 r k M D hsn) (cwV 2 htB (gd_V mw_342 mw_344 sw_P_change mw_2 mw_345) rfl rfl rfl (by decide +kernel) ⟨Nat.le_of_ble_eq_true rfl, Nat.le_of_ble_eq_true rfl⟩) (pcx_V (va_recv hKc hPc (ci := 1) (q0 := 0) rfl rfl) hPc hKc hDc hA0 hE hS) rfl rfl hl.1 rfl (lv_room (Nat.le_of_ble_eq_true rfl)) d_P_executeG2_93 ⟨Nat.zero_le _, Nat.zero_le _⟩) hS (fun q _ h => hFc q h) hFc (fun r9 u t H1 locs ht hvm hw hB hz1 hk1 hS => ?_)
            subst hw
            obtain ⟨hP1, hK1, hD1⟩ := hB
            rw [ht] at hP1
            obtain ⟨hP, hD⟩ := va_join (wr := []) (w1 := [c_P q0 q1 ((f_P_change p1 p2 r k M D).2.1), c_B q1 q2 q3 ((f_P_change p1 p2 r k M D).2.2.1), c_A q2 cM 1024 ((f_P_change p1 p2 r k M D).2.2.2.1), c_A q3 cD 256 ((f_P_change p1 p2 r k M D).2.2.2.2)]) hP hD [0, 1, 2, 3] [] rfl rfl (by decide) (by decide) hk1 hFc hP1 hD1
            generalize H1 = H at hP hS ⊢
            have hP : va_P (dC, dI) classes [c_P q0 q1 ((f_P_change p1 p2 r k M D).2.1), c_B q1 q2 q3 ((f_P_change p1 p2 r k M D).2.2.1), c_A q2 cM 1024 ((f_P_change p1 p2 r k M D).2.2.2.1), c_A q3 cD 256 ((f_P_change p1 p2 r k M D).2.2.2.2)] H := hP.sub [0, 1, 2, 3] rfl
            have hD : va_D A [c_P q0 q1 ((f_P_change p1 p2 r k M D).2.1), c_B q1 q2 q3 ((f_P_change p1 p2 r k M D).2.2.1), c_A q2 cM 1024 ((f_P_change p1 p2 r k M D).2.2.2.1), c_A q3 cD 256 ((f_P_change p1 p2 r k M D).2.2.2.2)] := hD.sub [0, 1, 2, 3] (by decide) rfl
            have hf : f_P_executeG2 p1 p2 r k M D = ((f_P_change p1 p2 r k M D).1, (f_P_change p1 p2 r k M D).2.1, (f_P_change p1 p2 r k M D).2.2.1, (f_P_change p1 p2 r k M D).2.2.2.1, (f_P_change p1 p2 r k M D).2.2.2.2) := by rw [f_P_executeG2, if_neg c_1, if_neg c_2, if_neg c_3, if_pos c_4, if_neg c_5]
            exact W.iret (v := (f_P_change p1 p2 r k M D).1) hx hb hr (fun t ht hW => ⟨⟨(f_P_change p1 p2 r k M D).1, (), rfl, (congrArg (fun z => z.1) hf).symm, by rw [hf]; exact ⟨by rw [ht]; exact hP, va_K.moved hW.alike hK, hD⟩⟩, hS.F ht⟩) hS.2.2 d_P_executeG2_96
          · refine lv_iconst (v := 0) hx hb d_P_executeG2_88 (by decide) ?_
            have hf : f_P_executeG2 p1 p2 r k M D = ((0 : Int32), r, k, M, D) := by rw [f_P_executeG2, if_neg c_1, if_neg c_2, if_neg c_3, if_pos c_4, if_pos c_5]
            exact W.iret (v := (0 : Int32)) hx hb hr (fun t ht hW => ⟨⟨(0 : Int32), (), rfl, (congrArg (fun z => z.1) hf).symm, by rw [hf]; exact ⟨by rw [ht]; exact hP, va_K.moved hW.alike hK, hD⟩⟩, hS.F ht⟩) hS.2.2 d_P_executeG2_89
      · refine lv_iload_n hx hb d_P_executeG2_50 rfl (lv_at hl 2 rfl) ?_
        refine lv_bipush (v := 9) hx hb d_P_executeG2_51 (by decide) ?_
        refine lv_icmp_ne (tgt := 76) hx hb d_P_executeG2_53 (by decide) (fun c_4 => ?_) (fun c_4 => ?_)
        · refine lv_iload_n hx hb d_P_executeG2_76 rfl (lv_at hl 1 rfl) ?_
          refine lv_bipush (v := 7) hx hb d_P_executeG2_77 (by decide) ?_
          refine lv_icmp_ne (tgt := 90) hx hb d_P_executeG2_79 (by decide) (fun c_5 => ?_) (fun c_5 => ?_)
          · refine lv_aload_n hx hb d_P_executeG2_90 rfl (lv_at hl 0 rfl) ?_
            refine lv_iload_n hx hb d_P_executeG2_91 rfl (lv_at hl 1 rfl) ?_
            refine lv_iload_n hx hb d_P_executeG2_92 rfl (lv_at hl 2 rfl) ?_
            have hPc := hP.sub (ws' := [c_P q0 q1 r, c_B q1 q2 q3 k, c_A q2 cM 1024 M, c_A q3 cD 256 D]) [0, 1, 2, 3] rfl
            have hDc := hD.sub (ws' := [c_P q0 q1 r, c_B q1 q2 q3 k, c_A q2 cM 1024 M, c_A q3 cD 256 D]) [0, 1, 2, 3] (by decide) rfl
            have hKc := hK.sub (tys' := [(cM, .int), (cD, .int)]) [0, 1] rfl
            have hFc := va_free (wc := [c_P q0 q1 r, c_B q1 q2 q3 k, c_A q2 cM 1024 M, c_A q3 cD 256 D]) hD hS hA [0, 1, 2, 3] rfl
            refine va_calli (va_runV (As := [.int p1, .int p2]) (rest := []) ⟨hx, hb, hml, hown, htB⟩ (c_P_change l dC dI z0 q0 q1 q2 q3 cM cD H.size p1 p2 r k M D hsn) (cwV 2 htB (gd_V mw_342 mw_344 sw_P_change mw_2 mw_345) rfl rfl rfl (by decide +kernel) ⟨Nat.le_of_ble_eq_true rfl, Nat.le_of_ble_eq_true rfl⟩) (pcx_V (va_recv hKc hPc (ci := 1) (q0 := 0) rfl rfl) hPc hKc hDc hA0 hE hS) rfl rfl hl.1 rfl (lv_room (Nat.le_of_ble_eq_true rfl)) d_P_executeG2_93 ⟨Nat.zero_le _, Nat.zero_le _⟩) hS (fun q _ h => hFc q h) hFc (fun r9 u t H1 locs ht hvm hw hB hz1 hk1 hS => ?_)
            subst hw
            obtain ⟨hP1, hK1, hD1⟩ := hB
            rw [ht] at hP1
            obtain ⟨hP, hD⟩ := va_join (wr := []) (w1 := [c_P q0 q1 ((f_P_change p1 p2 r k M D).2.1), c_B q1 q2 q3 ((f_P_change p1 p2 r k M D).2.2.1), c_A q2 cM 1024 ((f_P_change p1 p2 r k M D).2.2.2.1), c_A q3 cD 256 ((f_P_change p1 p2 r k M D).2.2.2.2)]) hP hD [0, 1, 2, 3] [] rfl rfl (by decide) (by decide) hk1 hFc hP1 hD1
            generalize H1 = H at hP hS ⊢
            have hP : va_P (dC, dI) classes [c_P q0 q1 ((f_P_change p1 p2 r k M D).2.1), c_B q1 q2 q3 ((f_P_change p1 p2 r k M D).2.2.1), c_A q2 cM 1024 ((f_P_change p1 p2 r k M D).2.2.2.1), c_A q3 cD 256 ((f_P_change p1 p2 r k M D).2.2.2.2)] H := hP.sub [0, 1, 2, 3] rfl
            have hD : va_D A [c_P q0 q1 ((f_P_change p1 p2 r k M D).2.1), c_B q1 q2 q3 ((f_P_change p1 p2 r k M D).2.2.1), c_A q2 cM 1024 ((f_P_change p1 p2 r k M D).2.2.2.1), c_A q3 cD 256 ((f_P_change p1 p2 r k M D).2.2.2.2)] := hD.sub [0, 1, 2, 3] (by decide) rfl
            have hf : f_P_executeG2 p1 p2 r k M D = ((f_P_change p1 p2 r k M D).1, (f_P_change p1 p2 r k M D).2.1, (f_P_change p1 p2 r k M D).2.2.1, (f_P_change p1 p2 r k M D).2.2.2.1, (f_P_change p1 p2 r k M D).2.2.2.2) := by rw [f_P_executeG2, if_neg c_1, if_neg c_2, if_pos c_3, if_neg c_4, if_neg c_5]
            exact W.iret (v := (f_P_change p1 p2 r k M D).1) hx hb hr (fun t ht hW => ⟨⟨(f_P_change p1 p2 r k M D).1, (), rfl, (congrArg (fun z => z.1) hf).symm, by rw [hf]; exact ⟨by rw [ht]; exact hP, va_K.moved hW.alike hK, hD⟩⟩, hS.F ht⟩) hS.2.2 d_P_executeG2_96
          · refine lv_iload_n hx hb d_P_executeG2_82 rfl (lv_at hl 2 rfl) ?_
            refine lv_bipush (v := 9) hx hb d_P_executeG2_83 (by decide) ?_
            refine lv_icmp_ne (tgt := 90) hx hb d_P_executeG2_85 (by decide) (fun _ => ?_) (fun c9 => absurd c9 c_4)
            refine lv_aload_n hx hb d_P_executeG2_90 rfl (lv_at hl 0 rfl) ?_
            refine lv_iload_n hx hb d_P_executeG2_91 rfl (lv_at hl 1 rfl) ?_
            refine lv_iload_n hx hb d_P_executeG2_92 rfl (lv_at hl 2 rfl) ?_
            have hPc := hP.sub (ws' := [c_P q0 q1 r, c_B q1 q2 q3 k, c_A q2 cM 1024 M, c_A q3 cD 256 D]) [0, 1, 2, 3] rfl
            have hDc := hD.sub (ws' := [c_P q0 q1 r, c_B q1 q2 q3 k, c_A q2 cM 1024 M, c_A q3 cD 256 D]) [0, 1, 2, 3] (by decide) rfl
            have hKc := hK.sub (tys' := [(cM, .int), (cD, .int)]) [0, 1] rfl
            have hFc := va_free (wc := [c_P q0 q1 r, c_B q1 q2 q3 k, c_A q2 cM 1024 M, c_A q3 cD 256 D]) hD hS hA [0, 1, 2, 3] rfl
            refine va_calli (va_runV (As := [.int p1, .int p2]) (rest := []) ⟨hx, hb, hml, hown, htB⟩ (c_P_change l dC dI z0 q0 q1 q2 q3 cM cD H.size p1 p2 r k M D hsn) (cwV 2 htB (gd_V mw_342 mw_344 sw_P_change mw_2 mw_345) rfl rfl rfl (by decide +kernel) ⟨Nat.le_of_ble_eq_true rfl, Nat.le_of_ble_eq_true rfl⟩) (pcx_V (va_recv hKc hPc (ci := 1) (q0 := 0) rfl rfl) hPc hKc hDc hA0 hE hS) rfl rfl hl.1 rfl (lv_room (Nat.le_of_ble_eq_true rfl)) d_P_executeG2_93 ⟨Nat.zero_le _, Nat.zero_le _⟩) hS (fun q _ h => hFc q h) hFc (fun r9 u t H1 locs ht hvm hw hB hz1 hk1 hS => ?_)
            subst hw
            obtain ⟨hP1, hK1, hD1⟩ := hB
            rw [ht] at hP1
            obtain ⟨hP, hD⟩ := va_join (wr := []) (w1 := [c_P q0 q1 ((f_P_change p1 p2 r k M D).2.1), c_B q1 q2 q3 ((f_P_change p1 p2 r k M D).2.2.1), c_A q2 cM 1024 ((f_P_change p1 p2 r k M D).2.2.2.1), c_A q3 cD 256 ((f_P_change p1 p2 r k M D).2.2.2.2)]) hP hD [0, 1, 2, 3] [] rfl rfl (by decide) (by decide) hk1 hFc hP1 hD1
            generalize H1 = H at hP hS ⊢
            have hP : va_P (dC, dI) classes [c_P q0 q1 ((f_P_change p1 p2 r k M D).2.1), c_B q1 q2 q3 ((f_P_change p1 p2 r k M D).2.2.1), c_A q2 cM 1024 ((f_P_change p1 p2 r k M D).2.2.2.1), c_A q3 cD 256 ((f_P_change p1 p2 r k M D).2.2.2.2)] H := hP.sub [0, 1, 2, 3] rfl
            have hD : va_D A [c_P q0 q1 ((f_P_change p1 p2 r k M D).2.1), c_B q1 q2 q3 ((f_P_change p1 p2 r k M D).2.2.1), c_A q2 cM 1024 ((f_P_change p1 p2 r k M D).2.2.2.1), c_A q3 cD 256 ((f_P_change p1 p2 r k M D).2.2.2.2)] := hD.sub [0, 1, 2, 3] (by decide) rfl
            have hf : f_P_executeG2 p1 p2 r k M D = ((f_P_change p1 p2 r k M D).1, (f_P_change p1 p2 r k M D).2.1, (f_P_change p1 p2 r k M D).2.2.1, (f_P_change p1 p2 r k M D).2.2.2.1, (f_P_change p1 p2 r k M D).2.2.2.2) := by rw [f_P_executeG2, if_neg c_1, if_neg c_2, if_pos c_3, if_neg c_4, if_pos c_5]
            exact W.iret (v := (f_P_change p1 p2 r k M D).1) hx hb hr (fun t ht hW => ⟨⟨(f_P_change p1 p2 r k M D).1, (), rfl, (congrArg (fun z => z.1) hf).symm, by rw [hf]; exact ⟨by rw [ht]; exact hP, va_K.moved hW.alike hK, hD⟩⟩, hS.F ht⟩) hS.2.2 d_P_executeG2_96
        · refine lv_aload_n hx hb d_P_executeG2_56 rfl (lv_at hl 0 rfl) ?_
          refine lv_aload_n hx hb d_P_executeG2_57 rfl (lv_at hl 0 rfl) ?_
          refine lv_aload_n hx hb d_P_executeG2_58 rfl (lv_at hl 0 rfl) ?_
          refine va_get (D := (dC, dI)) (ci := 1) (v := .int (r 1)) (C := R_P) (T := F_P) (N := 13) hx hb htB i_P hown hK hP 0 rfl rfl 2 (by decide) (htB _ mw_60) (fun _ h9 => h9) rfl d_P_executeG2_59 ?_
          refine lv_iconst (v := 1) hx hb d_P_executeG2_62 (by decide) ?_
          refine lv_isub hx hb d_P_executeG2_63 ?_
          refine lv_sipush (v := 255) hx hb d_P_executeG2_64 (by decide) ?_
          refine lv_iand hx hb d_P_executeG2_67 ?_
          have hPc := hP.sub (ws' := [c_P q0 q1 r]) [0] rfl
          have hDc := hD.sub (ws' := [c_P q0 q1 r]) [0] (by decide) rfl
          have hKc := hK.sub (tys' := []) [] rfl
          have hFc := va_free (wc := [c_P q0 q1 r]) hD hS hA [0] rfl
          refine va_calli (va_runV (As := [.int (((r 1) - (1 : Int32)) &&& (255 : Int32))]) (rest := [.ref q0]) ⟨hx, hb, hml, hown, htB⟩ (c_P_set l dC dI z0 q0 q1 H.size (((r 1) - (1 : Int32)) &&& (255 : Int32)) r) (cwV 1 htB (gd_V mw_322 mw_324 sw_P_set mw_2 mw_325) rfl rfl rfl (by decide +kernel) ⟨Nat.le_of_ble_eq_true rfl, Nat.le_of_ble_eq_true rfl⟩) (pcx_V (va_recv hKc hPc (ci := 1) (q0 := 0) rfl rfl) hPc hKc hDc hA0 hE hS) rfl rfl hl.1 rfl (lv_room (Nat.le_of_ble_eq_true rfl)) d_P_executeG2_68 ⟨Nat.zero_le _, Nat.zero_le _⟩) hS (fun q _ h => hFc q h) hFc (fun r9 u t H1 locs ht hvm hw hB hz1 hk1 hS => ?_)
          subst hw
          obtain ⟨hP1, hK1, hD1⟩ := hB
          rw [ht] at hP1
          obtain ⟨hP, hD⟩ := va_join (wr := [c_B q1 q2 q3 k, c_A q2 cM 1024 M, c_A q3 cD 256 D]) (w1 := [c_P q0 q1 ((f_P_set (((r 1) - (1 : Int32)) &&& (255 : Int32)) r).2)]) hP hD [0] [1, 2, 3] rfl rfl (by decide) (by decide) hk1 hFc hP1 hD1
          generalize H1 = H at hP hS ⊢
          have hP : va_P (dC, dI) classes [c_P q0 q1 ((f_P_set (((r 1) - (1 : Int32)) &&& (255 : Int32)) r).2), c_B q1 q2 q3 k, c_A q2 cM 1024 M, c_A q3 cD 256 D] H := hP.sub [3, 0, 1, 2] rfl
          have hD : va_D A [c_P q0 q1 ((f_P_set (((r 1) - (1 : Int32)) &&& (255 : Int32)) r).2), c_B q1 q2 q3 k, c_A q2 cM 1024 M, c_A q3 cD 256 D] := hD.sub [3, 0, 1, 2] (by decide) rfl
          refine va_put (D := (dC, dI)) (ci := 1) (v := .int ((f_P_set (((r 1) - (1 : Int32)) &&& (255 : Int32)) r).1)) (ty := .int) (C := R_P) (T := F_P) (N := 13) hx hb htB i_P t_P t_P_ok n_P hown hK hP hD hS 0 rfl rfl 2 (by decide) (htB _ mw_60) (fun _ h9 => h9) rfl (by decide +kernel) rfl rfl (Nat.le_of_ble_eq_true rfl) d_P_executeG2_71 (fun H locs hP hD hS => ?_)
          have hP : va_P (dC, dI) classes [c_P q0 q1 (upd ((f_P_set (((r 1) - (1 : Int32)) &&& (255 : Int32)) r).2) 1 ((f_P_set (((r 1) - (1 : Int32)) &&& (255 : Int32)) r).1)), c_B q1 q2 q3 k, c_A q2 cM 1024 M, c_A q3 cD 256 D] H := hP
          have hD : va_D A [c_P q0 q1 (upd ((f_P_set (((r 1) - (1 : Int32)) &&& (255 : Int32)) r).2) 1 ((f_P_set (((r 1) - (1 : Int32)) &&& (255 : Int32)) r).1)), c_B q1 q2 q3 k, c_A q2 cM 1024 M, c_A q3 cD 256 D] := hD
          refine lv_iconst (v := 0) hx hb d_P_executeG2_74 (by decide) ?_
          have hf : f_P_executeG2 p1 p2 r k M D = ((0 : Int32), (upd ((f_P_set (((r 1) - (1 : Int32)) &&& (255 : Int32)) r).2) 1 ((f_P_set (((r 1) - (1 : Int32)) &&& (255 : Int32)) r).1)), k, M, D) := by rw [f_P_executeG2, if_neg c_1, if_neg c_2, if_pos c_3, if_pos c_4]
          exact W.iret (v := (0 : Int32)) hx hb hr (fun t ht hW => ⟨⟨(0 : Int32), (), rfl, (congrArg (fun z => z.1) hf).symm, by rw [hf]; exact ⟨by rw [ht]; exact hP, va_K.moved hW.alike hK, hD⟩⟩, hS.F ht⟩) hS.2.2 d_P_executeG2_75
    · refine lv_aload_n hx hb d_P_executeG2_16 rfl (lv_at hl 0 rfl) ?_
      refine lv_aload_n hx hb d_P_executeG2_17 rfl (lv_at hl 0 rfl) ?_
      refine lv_iload_n hx hb d_P_executeG2_18 rfl (lv_at hl 2 rfl) ?_
      refine lv_bipush (v := 10) hx hb d_P_executeG2_19 (by decide) ?_
      refine lv_icmp_ne (tgt := 31) hx hb d_P_executeG2_21 (by decide) (fun c_3 => ?_) (fun c_3 => ?_)
      · refine lv_aload_n hx hb d_P_executeG2_31 rfl (lv_at hl 0 rfl) ?_
        refine lv_iload_n hx hb d_P_executeG2_32 rfl (lv_at hl 2 rfl) ?_
        have hPc := hP.sub (ws' := [c_P q0 q1 r, c_B q1 q2 q3 k, c_A q2 cM 1024 M, c_A q3 cD 256 D]) [0, 1, 2, 3] rfl
        have hDc := hD.sub (ws' := [c_P q0 q1 r, c_B q1 q2 q3 k, c_A q2 cM 1024 M, c_A q3 cD 256 D]) [0, 1, 2, 3] (by decide) rfl
        have hKc := hK.sub (tys' := [(cM, .int), (cD, .int)]) [0, 1] rfl
        have hFc := va_free (wc := [c_P q0 q1 r, c_B q1 q2 q3 k, c_A q2 cM 1024 M, c_A q3 cD 256 D]) hD hS hA [0, 1, 2, 3] rfl
        refine va_calli (va_runV (As := [.int p2]) (rest := [.ref q0, .ref q0]) ⟨hx, hb, hml, hown, htB⟩ (c_P_operand l dC dI z0 q0 q1 q2 q3 cM cD H.size p2 r k M D) (cwV 1 htB (gd_V mw_318 mw_320 sw_P_operand mw_2 mw_321) rfl rfl rfl (by decide +kernel) ⟨Nat.le_of_ble_eq_true rfl, Nat.le_of_ble_eq_true rfl⟩) (pcx_V (va_recv hKc hPc (ci := 1) (q0 := 0) rfl rfl) hPc hKc hDc hA0 hE hS) rfl rfl hl.1 rfl (lv_room (Nat.le_of_ble_eq_true rfl)) d_P_executeG2_33 ⟨Nat.zero_le _, Nat.zero_le _⟩) hS (fun q _ h => hFc q h) hFc (fun r9 u t H1 locs ht hvm hw hB hz1 hk1 hS => ?_)
        subst hw
        obtain ⟨hP1, hK1, hD1⟩ := hB
        rw [ht] at hP1
        obtain ⟨hP, hD⟩ := va_join (wr := []) (w1 := [c_P q0 q1 r, c_B q1 q2 q3 ((f_P_operand p2 r k M D).2), c_A q2 cM 1024 M, c_A q3 cD 256 D]) hP hD [0, 1, 2, 3] [] rfl rfl (by decide) (by decide) hk1 hFc hP1 hD1
        generalize H1 = H at hP hS ⊢
        have hP : va_P (dC, dI) classes [c_P q0 q1 r, c_B q1 q2 q3 ((f_P_operand p2 r k M D).2), c_A q2 cM 1024 M, c_A q3 cD 256 D] H := hP.sub [0, 1, 2, 3] rfl
        have hD : va_D A [c_P q0 q1 r, c_B q1 q2 q3 ((f_P_operand p2 r k M D).2), c_A q2 cM 1024 M, c_A q3 cD 256 D] := hD.sub [0, 1, 2, 3] (by decide) rfl
        have hPc := hP.sub (ws' := [c_P q0 q1 r]) [0] rfl
        have hDc := hD.sub (ws' := [c_P q0 q1 r]) [0] (by decide) rfl
        have hKc := hK.sub (tys' := []) [] rfl
        have hFc := va_free (wc := [c_P q0 q1 r]) hD hS hA [0] rfl
        refine va_calli (va_runV (As := [.int ((f_P_operand p2 r k M D).1)]) (rest := [.ref q0]) ⟨hx, hb, hml, hown, htB⟩ (c_P_set l dC dI z0 q0 q1 H.size ((f_P_operand p2 r k M D).1) r) (cwV 1 htB (gd_V mw_322 mw_324 sw_P_set mw_2 mw_325) rfl rfl rfl (by decide +kernel) ⟨Nat.le_of_ble_eq_true rfl, Nat.le_of_ble_eq_true rfl⟩) (pcx_V (va_recv hKc hPc (ci := 1) (q0 := 0) rfl rfl) hPc hKc hDc hA0 hE hS) rfl rfl hl.1 rfl (lv_room (Nat.le_of_ble_eq_true rfl)) d_P_executeG2_36 ⟨Nat.zero_le _, Nat.zero_le _⟩) hS (fun q _ h => hFc q h) hFc (fun r9 u t H1 locs ht hvm hw hB hz1 hk1 hS => ?_)
        subst hw
        obtain ⟨hP1, hK1, hD1⟩ := hB
        rw [ht] at hP1
        obtain ⟨hP, hD⟩ := va_join (wr := [c_B q1 q2 q3 ((f_P_operand p2 r k M D).2), c_A q2 cM 1024 M, c_A q3 cD 256 D]) (w1 := [c_P q0 q1 ((f_P_set ((f_P_operand p2 r k M D).1) r).2)]) hP hD [0] [1, 2, 3] rfl rfl (by decide) (by decide) hk1 hFc hP1 hD1
        generalize H1 = H at hP hS ⊢
        have hP : va_P (dC, dI) classes [c_P q0 q1 ((f_P_set ((f_P_operand p2 r k M D).1) r).2), c_B q1 q2 q3 ((f_P_operand p2 r k M D).2), c_A q2 cM 1024 M, c_A q3 cD 256 D] H := hP.sub [3, 0, 1, 2] rfl
        have hD : va_D A [c_P q0 q1 ((f_P_set ((f_P_operand p2 r k M D).1) r).2), c_B q1 q2 q3 ((f_P_operand p2 r k M D).2), c_A q2 cM 1024 M, c_A q3 cD 256 D] := hD.sub [3, 0, 1, 2] (by decide) rfl
        refine va_put (D := (dC, dI)) (ci := 1) (v := .int ((f_P_set ((f_P_operand p2 r k M D).1) r).1)) (ty := .int) (C := R_P) (T := F_P) (N := 13) hx hb htB i_P t_P t_P_ok n_P hown hK hP hD hS 0 rfl rfl 2 (by decide) (htB _ mw_60) (fun _ h9 => h9) rfl (by decide +kernel) rfl rfl (Nat.le_of_ble_eq_true rfl) d_P_executeG2_39 (fun H locs hP hD hS => ?_)
        have hP : va_P (dC, dI) classes [c_P q0 q1 (upd ((f_P_set ((f_P_operand p2 r k M D).1) r).2) 1 ((f_P_set ((f_P_operand p2 r k M D).1) r).1)), c_B q1 q2 q3 ((f_P_operand p2 r k M D).2), c_A q2 cM 1024 M, c_A q3 cD 256 D] H := hP
        have hD : va_D A [c_P q0 q1 (upd ((f_P_set ((f_P_operand p2 r k M D).1) r).2) 1 ((f_P_set ((f_P_operand p2 r k M D).1) r).1)), c_B q1 q2 q3 ((f_P_operand p2 r k M D).2), c_A q2 cM 1024 M, c_A q3 cD 256 D] := hD
        refine lv_iconst (v := 0) hx hb d_P_executeG2_42 (by decide) ?_
        have hf : f_P_executeG2 p1 p2 r k M D = ((0 : Int32), (upd ((f_P_set ((f_P_operand p2 r k M D).1) r).2) 1 ((f_P_set ((f_P_operand p2 r k M D).1) r).1)), (f_P_operand p2 r k M D).2, M, D) := by rw [f_P_executeG2, if_neg c_1, if_pos c_2, if_neg c_3]
        exact W.iret (v := (0 : Int32)) hx hb hr (fun t ht hW => ⟨⟨(0 : Int32), (), rfl, (congrArg (fun z => z.1) hf).symm, by rw [hf]; exact ⟨by rw [ht]; exact hP, va_K.moved hW.alike hK, hD⟩⟩, hS.F ht⟩) hS.2.2 d_P_executeG2_43
      · refine lv_aload_n hx hb d_P_executeG2_24 rfl (lv_at hl 0 rfl) ?_
        refine va_get (D := (dC, dI)) (ci := 1) (v := .int (r 3)) (C := R_P) (T := F_P) (N := 13) hx hb htB i_P hown hK hP 0 rfl rfl 4 (by decide) (htB _ mw_62) (fun _ h9 => h9) rfl d_P_executeG2_25 ?_
        refine lv_goto (tgt := 36) hx hb d_P_executeG2_28 (by decide) ?_
        have hPc := hP.sub (ws' := [c_P q0 q1 r]) [0] rfl
        have hDc := hD.sub (ws' := [c_P q0 q1 r]) [0] (by decide) rfl
        have hKc := hK.sub (tys' := []) [] rfl
        have hFc := va_free (wc := [c_P q0 q1 r]) hD hS hA [0] rfl
        refine va_calli (va_runV (As := [.int (r 3)]) (rest := [.ref q0]) ⟨hx, hb, hml, hown, htB⟩ (c_P_set l dC dI z0 q0 q1 H.size (r 3) r) (cwV 1 htB (gd_V mw_322 mw_324 sw_P_set mw_2 mw_325) rfl rfl rfl (by decide +kernel) ⟨Nat.le_of_ble_eq_true rfl, Nat.le_of_ble_eq_true rfl⟩) (pcx_V (va_recv hKc hPc (ci := 1) (q0 := 0) rfl rfl) hPc hKc hDc hA0 hE hS) rfl rfl hl.1 rfl (lv_room (Nat.le_of_ble_eq_true rfl)) d_P_executeG2_36 ⟨Nat.zero_le _, Nat.zero_le _⟩) hS (fun q _ h => hFc q h) hFc (fun r9 u t H1 locs ht hvm hw hB hz1 hk1 hS => ?_)
        subst hw
        obtain ⟨hP1, hK1, hD1⟩ := hB
        rw [ht] at hP1
        obtain ⟨hP, hD⟩ := va_join (wr := [c_B q1 q2 q3 k, c_A q2 cM 1024 M, c_A q3 cD 256 D]) (w1 := [c_P q0 q1 ((f_P_set (r 3) r).2)]) hP hD [0] [1, 2, 3] rfl rfl (by decide) (by decide) hk1 hFc hP1 hD1
        generalize H1 = H at hP hS ⊢
        have hP : va_P (dC, dI) classes [c_P q0 q1 ((f_P_set (r 3) r).2), c_B q1 q2 q3 k, c_A q2 cM 1024 M, c_A q3 cD 256 D] H := hP.sub [3, 0, 1, 2] rfl
        have hD : va_D A [c_P q0 q1 ((f_P_set (r 3) r).2), c_B q1 q2 q3 k, c_A q2 cM 1024 M, c_A q3 cD 256 D] := hD.sub [3, 0, 1, 2] (by decide) rfl
        refine va_put (D := (dC, dI)) (ci := 1) (v := .int ((f_P_set (r 3) r).1)) (ty := .int) (C := R_P) (T := F_P) (N := 13) hx hb htB i_P t_P t_P_ok n_P hown hK hP hD hS 0 rfl rfl 2 (by decide) (htB _ mw_60) (fun _ h9 => h9) rfl (by decide +kernel) rfl rfl (Nat.le_of_ble_eq_true rfl) d_P_executeG2_39 (fun H locs hP hD hS => ?_)
        have hP : va_P (dC, dI) classes [c_P q0 q1 (upd ((f_P_set (r 3) r).2) 1 ((f_P_set (r 3) r).1)), c_B q1 q2 q3 k, c_A q2 cM 1024 M, c_A q3 cD 256 D] H := hP
        have hD : va_D A [c_P q0 q1 (upd ((f_P_set (r 3) r).2) 1 ((f_P_set (r 3) r).1)), c_B q1 q2 q3 k, c_A q2 cM 1024 M, c_A q3 cD 256 D] := hD
        refine lv_iconst (v := 0) hx hb d_P_executeG2_42 (by decide) ?_
        have hf : f_P_executeG2 p1 p2 r k M D = ((0 : Int32), (upd ((f_P_set (r 3) r).2) 1 ((f_P_set (r 3) r).1)), k, M, D) := by rw [f_P_executeG2, if_neg c_1, if_pos c_2, if_pos c_3]
        exact W.iret (v := (0 : Int32)) hx hb hr (fun t ht hW => ⟨⟨(0 : Int32), (), rfl, (congrArg (fun z => z.1) hf).symm, by rw [hf]; exact ⟨by rw [ht]; exact hP, va_K.moved hW.alike hK, hD⟩⟩, hS.F ht⟩) hS.2.2 d_P_executeG2_43
  · refine lv_aload_n hx hb d_P_executeG2_5 rfl (lv_at hl 0 rfl) ?_
    refine lv_iload_n hx hb d_P_executeG2_6 rfl (lv_at hl 2 rfl) ?_
    have hPc := hP.sub (ws' := [c_P q0 q1 r, c_B q1 q2 q3 k, c_A q2 cM 1024 M, c_A q3 cD 256 D]) [0, 1, 2, 3] rfl
    have hDc := hD.sub (ws' := [c_P q0 q1 r, c_B q1 q2 q3 k, c_A q2 cM 1024 M, c_A q3 cD 256 D]) [0, 1, 2, 3] (by decide) rfl
    have hKc := hK.sub (tys' := [(cM, .int), (cD, .int)]) [0, 1] rfl
    have hFc := va_free (wc := [c_P q0 q1 r, c_B q1 q2 q3 k, c_A q2 cM 1024 M, c_A q3 cD 256 D]) hD hS hA [0, 1, 2, 3] rfl
    refine va_calli (va_runV (As := [.int p2]) (rest := []) ⟨hx, hb, hml, hown, htB⟩ (c_P_executeFromX l dC dI z0 q0 q1 q2 q3 cM cD H.size p2 r k M D hsn) (cwV 1 htB (gd_V mw_338 mw_340 sw_P_executeFromX mw_2 mw_341) rfl rfl rfl (by decide +kernel) ⟨Nat.le_of_ble_eq_true rfl, Nat.le_of_ble_eq_true rfl⟩) (pcx_V (va_recv hKc hPc (ci := 1) (q0 := 0) rfl rfl) hPc hKc hDc hA0 hE hS) rfl rfl hl.1 rfl (lv_room (Nat.le_of_ble_eq_true rfl)) d_P_executeG2_7 ⟨Nat.zero_le _, Nat.zero_le _⟩) hS (fun q _ h => hFc q h) hFc (fun r9 u t H1 locs ht hvm hw hB hz1 hk1 hS => ?_)
    subst hw
    obtain ⟨hP1, hK1, hD1⟩ := hB
    rw [ht] at hP1
    obtain ⟨hP, hD⟩ := va_join (wr := []) (w1 := [c_P q0 q1 ((f_P_executeFromX p2 r k M D).2.1), c_B q1 q2 q3 ((f_P_executeFromX p2 r k M D).2.2.1), c_A q2 cM 1024 ((f_P_executeFromX p2 r k M D).2.2.2.1), c_A q3 cD 256 ((f_P_executeFromX p2 r k M D).2.2.2.2)]) hP hD [0, 1, 2, 3] [] rfl rfl (by decide) (by decide) hk1 hFc hP1 hD1
    generalize H1 = H at hP hS ⊢
    have hP : va_P (dC, dI) classes [c_P q0 q1 ((f_P_executeFromX p2 r k M D).2.1), c_B q1 q2 q3 ((f_P_executeFromX p2 r k M D).2.2.1), c_A q2 cM 1024 ((f_P_executeFromX p2 r k M D).2.2.2.1), c_A q3 cD 256 ((f_P_executeFromX p2 r k M D).2.2.2.2)] H := hP.sub [0, 1, 2, 3] rfl
    have hD : va_D A [c_P q0 q1 ((f_P_executeFromX p2 r k M D).2.1), c_B q1 q2 q3 ((f_P_executeFromX p2 r k M D).2.2.1), c_A q2 cM 1024 ((f_P_executeFromX p2 r k M D).2.2.2.1), c_A q3 cD 256 ((f_P_executeFromX p2 r k M D).2.2.2.2)] := hD.sub [0, 1, 2, 3] (by decide) rfl
    have hf : f_P_executeG2 p1 p2 r k M D = ((f_P_executeFromX p2 r k M D).1, (f_P_executeFromX p2 r k M D).2.1, (f_P_executeFromX p2 r k M D).2.2.1, (f_P_executeFromX p2 r k M D).2.2.2.1, (f_P_executeFromX p2 r k M D).2.2.2.2) := by rw [f_P_executeG2, if_pos c_1]
    exact W.iret (v := (f_P_executeFromX p2 r k M D).1) hx hb hr (fun t ht hW => ⟨⟨(f_P_executeFromX p2 r k M D).1, (), rfl, (congrArg (fun z => z.1) hf).symm, by rw [hf]; exact ⟨by rw [ht]; exact hP, va_K.moved hW.alike hK, hD⟩⟩, hS.F ht⟩) hS.2.2 d_P_executeG2_10

def f_P_executeG0 (p1 : Int32) (p2 : Int32) (r k M D : Nat → Int32) : Int32 × (Nat → Int32) × (Nat → Int32) × (Nat → Int32) × (Nat → Int32) :=
  if p2 = (10 : Int32) then
    ((0 : Int32), (f_P_executeAlone p1 r k M D).1, (f_P_executeAlone p1 r k M D).2.1, (f_P_executeAlone p1 r k M D).2.2.1, (f_P_executeAlone p1 r k M D).2.2.2)
  else
    if ((p1 / (4 : Int32)) - (p1 / (4 : Int32)) / (8 : Int32) * (8 : Int32)) = (4 : Int32) then
      ((0 : Int32), (f_P_branch (p1 / (32 : Int32)) r), k, M, D)
    else
      if p1 = (32 : Int32) then
        ((0 : Int32), (f_P_jump p1 r k M D).1, (f_P_jump p1 r k M D).2.1, (f_P_jump p1 r k M D).2.2.1, (f_P_jump p1 r k M D).2.2.2)
      else
        if p1 = (76 : Int32) then
          ((0 : Int32), (f_P_jump p1 r k M D).1, (f_P_jump p1 r k M D).2.1, (f_P_jump p1 r k M D).2.2.1, (f_P_jump p1 r k M D).2.2.2)
        else
          if p1 = (108 : Int32) then
            ((0 : Int32), (f_P_jump p1 r k M D).1, (f_P_jump p1 r k M D).2.1, (f_P_jump p1 r k M D).2.2.1, (f_P_jump p1 r k M D).2.2.2)
          else
            if (p1 / (32 : Int32)) = (4 : Int32) then
              ((f_B_writeByte (r 10) (r 2) k M D).1, r, (f_B_writeByte (r 10) (r 2) k M D).2.1, (f_B_writeByte (r 10) (r 2) k M D).2.2.1, (f_B_writeByte (r 10) (r 2) k M D).2.2.2)
            else
              ((0 : Int32), (f_P_executeOperandG0 (p1 / (32 : Int32)) ((f_P_operand p2 r k M D).1) r), (f_P_operand p2 r k M D).2, M, D)
abbrev Q_P_executeG0 (dC : Nat → ClassId) (dI : Nat → Nat → Nat) (q0 : Nat) (q1 : Nat) (q2 : Nat) (q3 : Nat) (cM : ClassId) (cD : ClassId) (p1 : Int32) (p2 : Int32) (r k M D : Nat → Int32) (A : Nat → Prop) : Array Value → State → Outcome → State → Prop := va_Qi (fun (r9 : Int32) (_ : Unit) => r9 = (f_P_executeG0 p1 p2 r k M D).1) (fun _ t => atW (dC, dI) classes A [c_P q0 q1 ((f_P_executeG0 p1 p2 r k M D).2.1), c_B q1 q2 q3 ((f_P_executeG0 p1 p2 r k M D).2.2.1), c_A q2 cM 1024 ((f_P_executeG0 p1 p2 r k M D).2.2.2.1), c_A q3 cD 256 ((f_P_executeG0 p1 p2 r k M D).2.2.2.2)] [(cM, .int), (cD, .int)] t) A
set_option maxHeartbeats 4000000 in
set_option maxRecDepth 100000 in
theorem c_P_executeG0 (l : Launch) (dC : Nat → ClassId) (dI : Nat → Nat → Nat) (z0 : Nat) (q0 : Nat) (q1 : Nat) (q2 : Nat) (q3 : Nat) (cM : ClassId) (cD : ClassId) (sz : Nat) (p1 : Int32) (p2 : Int32) (r k M D : Nat → Int32) (hsn : sn_ok k) : Met l y_P_executeG0 w_P_executeG0 ({ frames := 5, cells := 0, slots := 0, locals := 128 }) (PcX (dC, dI) classes z0 [c_P q0 q1 r, c_B q1 q2 q3 k, c_A q2 cM 1024 M, c_A q3 cD 256 D] [(cM, .int), (cD, .int)] sz [.ref q0, .int p1, .int p2]) (Q_P_executeG0 dC dI q0 q1 q2 q3 cM cD p1 p2 r k M D (va_A [c_P q0 q1 r, c_B q1 q2 q3 k, c_A q2 cM 1024 M, c_A q3 cD 256 D] sz)) 0 0 (va_A [c_P q0 q1 r, c_B q1 q2 q3 k, c_A q2 cM 1024 M, c_A q3 cD 256 D] sz) := by
  refine hdX (cc := b_P_executeG0) (maxL := 4) (ret := (some .int)) (C := R_P) (Qc := (Q_P_executeG0 dC dI q0 q1 q2 q3 cM cD p1 p2 r k M D)) (by decide) rfl ?_
  intro p e s m below meth c A H hx hb hr hlocks hml hown hin htB hP hK hD hA hA0 hE hS
  have hl := lv_entry ([.ref q0, .int p1, .int p2]) (n := 4) (Nat.le_of_ble_eq_true rfl)
  rw [lg_entry_eq]
  generalize (lg_sl ([.ref q0, .int p1, .int p2]) ++ List.replicate (4 - (lg_sl ([.ref q0, .int p1, .int p2])).length) Slot.unset).toArray = ls at hl ⊢
  have hl : lv_has ls 4 [(0, .ref q0), (1, .int p1), (2, .int p2)] := hl
  refine lv_iload_n hx hb d_P_executeG0_0 rfl (lv_at hl 1 rfl) ?_
  refine lv_bipush (v := 32) hx hb d_P_executeG0_1 (by decide) ?_
  refine lv_idiv hx hb d_P_executeG0_3 (by decide) ?_
  refine lv_istore_n (lv' := [(3, .int (p1 / (32 : Int32))), (0, .ref q0), (1, .int p1), (2, .int p2)]) hx hb d_P_executeG0_4 rfl hl (by decide) rfl (fun ls hl => ?_)
  refine lv_iload_n hx hb d_P_executeG0_5 rfl (lv_at hl 3 rfl) ?_
  refine lv_bipush (v := 10) hx hb d_P_executeG0_6 (by decide) ?_
  refine lv_icmp_ne (tgt := 18) hx hb d_P_executeG0_8 (by decide) (fun c_1 => ?_) (fun c_1 => ?_)
  · refine lv_iload_n hx hb d_P_executeG0_18 rfl (lv_at hl 2 rfl) ?_
    refine lv_iconst (v := 4) hx hb d_P_executeG0_19 (by decide) ?_
    refine lv_idiv hx hb d_P_executeG0_20 (by decide) ?_
    refine lv_bipush (v := 8) hx hb d_P_executeG0_21 (by decide) ?_
    refine lv_irem hx hb d_P_executeG0_23 (by decide) ?_
    refine lv_iconst (v := 4) hx hb d_P_executeG0_24 (by decide) ?_
    refine lv_icmp_ne (tgt := 35) hx hb d_P_executeG0_25 (by decide) (fun c_2 => ?_) (fun c_2 => ?_)
    · refine lv_iload_n hx hb d_P_executeG0_35 rfl (lv_at hl 2 rfl) ?_
      refine lv_bipush (v := 32) hx hb d_P_executeG0_36 (by decide) ?_
      refine lv_icmp_eq (tgt := 53) hx hb d_P_executeG0_38 (by decide) (fun c_3 => ?_) (fun c_3 => ?_)
      · refine lv_aload_n hx hb d_P_executeG0_53 rfl (lv_at hl 1 rfl) ?_
        refine lv_iload_n hx hb d_P_executeG0_54 rfl (lv_at hl 2 rfl) ?_
        have hPc := hP.sub (ws' := [c_P q0 q1 r, c_B q1 q2 q3 k, c_A q2 cM 1024 M, c_A q3 cD 256 D]) [0, 1, 2, 3] rfl
        have hDc := hD.sub (ws' := [c_P q0 q1 r, c_B q1 q2 q3 k, c_A q2 cM 1024 M, c_A q3 cD 256 D]) [0, 1, 2, 3] (by decide) rfl
        have hKc := hK.sub (tys' := [(cM, .int), (cD, .int)]) [0, 1] rfl
        have hFc := va_free (wc := [c_P q0 q1 r, c_B q1 q2 q3 k, c_A q2 cM 1024 M, c_A q3 cD 256 D]) hD hS hA [0, 1, 2, 3] rfl
        refine va_callv (va_runV (As := [.int p1]) (rest := []) ⟨hx, hb, hml, hown, htB⟩ (c_P_jump l dC dI z0 q0 q1 q2 q3 cM cD H.size p1 r k M D hsn) (cwV 1 htB (gd_V mw_374 mw_376 sw_P_jump mw_2 mw_377) rfl rfl rfl (by decide +kernel) ⟨Nat.le_of_ble_eq_true rfl, Nat.le_of_ble_eq_true rfl⟩) (pcx_V (va_recv hKc hPc (ci := 1) (q0 := 0) rfl rfl) hPc hKc hDc hA0 hE hS) rfl rfl hl.1 rfl (lv_room (Nat.le_of_ble_eq_true rfl)) d_P_executeG0_55 ⟨Nat.zero_le _, Nat.zero_le _⟩) hS (fun q _ h => hFc q h) hFc (fun u t H1 locs ht hvm hw hB hz1 hk1 hS => ?_)
        obtain ⟨hP1, hK1, hD1⟩ := hB
        rw [ht] at hP1
        obtain ⟨hP, hD⟩ := va_join (wr := []) (w1 := [c_P q0 q1 ((f_P_jump p1 r k M D).1), c_B q1 q2 q3 ((f_P_jump p1 r k M D).2.1), c_A q2 cM 1024 ((f_P_jump p1 r k M D).2.2.1), c_A q3 cD 256 ((f_P_jump p1 r k M D).2.2.2)]) hP hD [0, 1, 2, 3] [] rfl rfl (by decide) (by decide) hk1 hFc hP1 hD1
        generalize H1 = H at hP hS ⊢
        have hP : va_P (dC, dI) classes [c_P q0 q1 ((f_P_jump p1 r k M D).1), c_B q1 q2 q3 ((f_P_jump p1 r k M D).2.1), c_A q2 cM 1024 ((f_P_jump p1 r k M D).2.2.1), c_A q3 cD 256 ((f_P_jump p1 r k M D).2.2.2)] H := hP.sub [0, 1, 2, 3] rfl
        have hD : va_D A [c_P q0 q1 ((f_P_jump p1 r k M D).1), c_B q1 q2 q3 ((f_P_jump p1 r k M D).2.1), c_A q2 cM 1024 ((f_P_jump p1 r k M D).2.2.1), c_A q3 cD 256 ((f_P_jump p1 r k M D).2.2.2)] := hD.sub [0, 1, 2, 3] (by decide) rfl
        refine lv_iconst (v := 0) hx hb d_P_executeG0_58 (by decide) ?_
        have hf : f_P_executeG0 p1 p2 r k M D = ((0 : Int32), (f_P_jump p1 r k M D).1, (f_P_jump p1 r k M D).2.1, (f_P_jump p1 r k M D).2.2.1, (f_P_jump p1 r k M D).2.2.2) := by rw [f_P_executeG0, if_neg c_1, if_neg c_2, if_pos c_3]
        exact W.iret (v := (0 : Int32)) hx hb hr (fun t ht hW => ⟨⟨(0 : Int32), (), rfl, (congrArg (fun z => z.1) hf).symm, by rw [hf]; exact ⟨by rw [ht]; exact hP, va_K.moved hW.alike hK, hD⟩⟩, hS.F ht⟩) hS.2.2 d_P_executeG0_59
      · refine lv_iload_n hx hb d_P_executeG0_41 rfl (lv_at hl 2 rfl) ?_
        refine lv_bipush (v := 76) hx hb d_P_executeG0_42 (by decide) ?_
        refine lv_icmp_eq (tgt := 53) hx hb d_P_executeG0_44 (by decide) (fun c_4 => ?_) (fun c_4 => ?_)
        · refine lv_aload_n hx hb d_P_executeG0_53 rfl (lv_at hl 1 rfl) ?_
          refine lv_iload_n hx hb d_P_executeG0_54 rfl (lv_at hl 2 rfl) ?_
          have hPc := hP.sub (ws' := [c_P q0 q1 r, c_B q1 q2 q3 k, c_A q2 cM 1024 M, c_A q3 cD 256 D]) [0, 1, 2, 3] rfl
          have hDc := hD.sub (ws' := [c_P q0 q1 r, c_B q1 q2 q3 k, c_A q2 cM 1024 M, c_A q3 cD 256 D]) [0, 1, 2, 3] (by decide) rfl
          have hKc := hK.sub (tys' := [(cM, .int), (cD, .int)]) [0, 1] rfl
          have hFc := va_free (wc := [c_P q0 q1 r, c_B q1 q2 q3 k, c_A q2 cM 1024 M, c_A q3 cD 256 D]) hD hS hA [0, 1, 2, 3] rfl
          refine va_callv (va_runV (As := [.int p1]) (rest := []) ⟨hx, hb, hml, hown, htB⟩ (c_P_jump l dC dI z0 q0 q1 q2 q3 cM cD H.size p1 r k M D hsn) (cwV 1 htB (gd_V mw_374 mw_376 sw_P_jump mw_2 mw_377) rfl rfl rfl (by decide +kernel) ⟨Nat.le_of_ble_eq_true rfl, Nat.le_of_ble_eq_true rfl⟩) (pcx_V (va_recv hKc hPc (ci := 1) (q0 := 0) rfl rfl) hPc hKc hDc hA0 hE hS) rfl rfl hl.1 rfl (lv_room (Nat.le_of_ble_eq_true rfl)) d_P_executeG0_55 ⟨Nat.zero_le _, Nat.zero_le _⟩) hS (fun q _ h => hFc q h) hFc (fun u t H1 locs ht hvm hw hB hz1 hk1 hS => ?_)
          obtain ⟨hP1, hK1, hD1⟩ := hB
          rw [ht] at hP1
          obtain ⟨hP, hD⟩ := va_join (wr := []) (w1 := [c_P q0 q1 ((f_P_jump p1 r k M D).1), c_B q1 q2 q3 ((f_P_jump p1 r k M D).2.1), c_A q2 cM 1024 ((f_P_jump p1 r k M D).2.2.1), c_A q3 cD 256 ((f_P_jump p1 r k M D).2.2.2)]) hP hD [0, 1, 2, 3] [] rfl rfl (by decide) (by decide) hk1 hFc hP1 hD1
          generalize H1 = H at hP hS ⊢
          have hP : va_P (dC, dI) classes [c_P q0 q1 ((f_P_jump p1 r k M D).1), c_B q1 q2 q3 ((f_P_jump p1 r k M D).2.1), c_A q2 cM 1024 ((f_P_jump p1 r k M D).2.2.1), c_A q3 cD 256 ((f_P_jump p1 r k M D).2.2.2)] H := hP.sub [0, 1, 2, 3] rfl
          have hD : va_D A [c_P q0 q1 ((f_P_jump p1 r k M D).1), c_B q1 q2 q3 ((f_P_jump p1 r k M D).2.1), c_A q2 cM 1024 ((f_P_jump p1 r k M D).2.2.1), c_A q3 cD 256 ((f_P_jump p1 r k M D).2.2.2)] := hD.sub [0, 1, 2, 3] (by decide) rfl
          refine lv_iconst (v := 0) hx hb d_P_executeG0_58 (by decide) ?_
          have hf : f_P_executeG0 p1 p2 r k M D = ((0 : Int32), (f_P_jump p1 r k M D).1, (f_P_jump p1 r k M D).2.1, (f_P_jump p1 r k M D).2.2.1, (f_P_jump p1 r k M D).2.2.2) := by rw [f_P_executeG0, if_neg c_1, if_neg c_2, if_neg c_3, if_pos c_4]
          exact W.iret (v := (0 : Int32)) hx hb hr (fun t ht hW => ⟨⟨(0 : Int32), (), rfl, (congrArg (fun z => z.1) hf).symm, by rw [hf]; exact ⟨by rw [ht]; exact hP, va_K.moved hW.alike hK, hD⟩⟩, hS.F ht⟩) hS.2.2 d_P_executeG0_59
        · refine lv_iload_n hx hb d_P_executeG0_47 rfl (lv_at hl 2 rfl) ?_
          refine lv_bipush (v := 108) hx hb d_P_executeG0_48 (by decide) ?_
          refine lv_icmp_ne (tgt := 60) hx hb d_P_executeG0_50 (by decide) (fun c_5 => ?_) (fun c_5 => ?_)
          · refine lv_iload_n hx hb d_P_executeG0_60 rfl (lv_at hl 0 rfl) ?_
            refine lv_iconst (v := 4) hx hb d_P_executeG0_61 (by decide) ?_
            refine lv_icmp_ne (tgt := 81) hx hb d_P_executeG0_62 (by decide) (fun c_6 => ?_) (fun c_6 => ?_)
            · refine lv_aload_n hx hb d_P_executeG0_81 rfl (lv_at hl 1 rfl) ?_
              refine lv_iload_n hx hb d_P_executeG0_82 rfl (lv_at hl 0 rfl) ?_
              refine lv_aload_n hx hb d_P_executeG0_83 rfl (lv_at hl 1 rfl) ?_
              refine lv_iload_n hx hb d_P_executeG0_84 rfl (lv_at hl 3 rfl) ?_
              have hPc := hP.sub (ws' := [c_P q0 q1 r, c_B q1 q2 q3 k, c_A q2 cM 1024 M, c_A q3 cD 256 D]) [0, 1, 2, 3] rfl
              have hDc := hD.sub (ws' := [c_P q0 q1 r, c_B q1 q2 q3 k, c_A q2 cM 1024 M, c_A q3 cD 256 D]) [0, 1, 2, 3] (by decide) rfl
              have hKc := hK.sub (tys' := [(cM, .int), (cD, .int)]) [0, 1] rfl
              have hFc := va_free (wc := [c_P q0 q1 r, c_B q1 q2 q3 k, c_A q2 cM 1024 M, c_A q3 cD 256 D]) hD hS hA [0, 1, 2, 3] rfl
              refine va_calli (va_runV (As := [.int p2]) (rest := [.int (p1 / (32 : Int32)), .ref q0]) ⟨hx, hb, hml, hown, htB⟩ (c_P_operand l dC dI z0 q0 q1 q2 q3 cM cD H.size p2 r k M D) (cwV 1 htB (gd_V mw_318 mw_320 sw_P_operand mw_2 mw_321) rfl rfl rfl (by decide +kernel) ⟨Nat.le_of_ble_eq_true rfl, Nat.le_of_ble_eq_true rfl⟩) (pcx_V (va_recv hKc hPc (ci := 1) (q0 := 0) rfl rfl) hPc hKc hDc hA0 hE hS) rfl rfl hl.1 rfl (lv_room (Nat.le_of_ble_eq_true rfl)) d_P_executeG0_85 ⟨Nat.zero_le _, Nat.zero_le _⟩) hS (fun q _ h => hFc q h) hFc (fun r9 u t H1 locs ht hvm hw hB hz1 hk1 hS => ?_)
              subst hw
              obtain ⟨hP1, hK1, hD1⟩ := hB
              rw [ht] at hP1
              obtain ⟨hP, hD⟩ := va_join (wr := []) (w1 := [c_P q0 q1 r, c_B q1 q2 q3 ((f_P_operand p2 r k M D).2), c_A q2 cM 1024 M, c_A q3 cD 256 D]) hP hD [0, 1, 2, 3] [] rfl rfl (by decide) (by decide) hk1 hFc hP1 hD1
              generalize H1 = H at hP hS ⊢
              have hP : va_P (dC, dI) classes [c_P q0 q1 r, c_B q1 q2 q3 ((f_P_operand p2 r k M D).2), c_A q2 cM 1024 M, c_A q3 cD 256 D] H := hP.sub [0, 1, 2, 3] rfl
              have hD : va_D A [c_P q0 q1 r, c_B q1 q2 q3 ((f_P_operand p2 r k M D).2), c_A q2 cM 1024 M, c_A q3 cD 256 D] := hD.sub [0, 1, 2, 3] (by decide) rfl
              have hPc := hP.sub (ws' := [c_P q0 q1 r]) [0] rfl
              have hDc := hD.sub (ws' := [c_P q0 q1 r]) [0] (by decide) rfl
              have hKc := hK.sub (tys' := []) [] rfl
              have hFc := va_free (wc := [c_P q0 q1 r]) hD hS hA [0] rfl
              refine va_callv (va_runV (As := [.int (p1 / (32 : Int32)), .int ((f_P_operand p2 r k M D).1)]) (rest := []) ⟨hx, hb, hml, hown, htB⟩ (c_P_executeOperandG0 l dC dI z0 q0 q1 H.size (p1 / (32 : Int32)) ((f_P_operand p2 r k M D).1) r) (cwV 2 htB (gd_V mw_378 mw_380 sw_P_executeOperandG0 mw_2 mw_381) rfl rfl rfl (by decide +kernel) ⟨Nat.le_of_ble_eq_true rfl, Nat.le_of_ble_eq_true rfl⟩) (pcx_V (va_recv hKc hPc (ci := 1) (q0 := 0) rfl rfl) hPc hKc hDc hA0 hE hS) rfl rfl hl.1 rfl (lv_room (Nat.le_of_ble_eq_true rfl)) d_P_executeG0_88 ⟨Nat.zero_le _, Nat.zero_le _⟩) hS (fun q _ h => hFc q h) hFc (fun u t H1 locs ht hvm hw hB hz1 hk1 hS => ?_)
              obtain ⟨hP1, hK1, hD1⟩ := hB
              rw [ht] at hP1
              obtain ⟨hP, hD⟩ := va_join (wr := [c_B q1 q2 q3 ((f_P_operand p2 r k M D).2), c_A q2 cM 1024 M, c_A q3 cD 256 D]) (w1 := [c_P q0 q1 (f_P_executeOperandG0 (p1 / (32 : Int32)) ((f_P_operand p2 r k M D).1) r)]) hP hD [0] [1, 2, 3] rfl rfl (by decide) (by decide) hk1 hFc hP1 hD1
              generalize H1 = H at hP hS ⊢
              have hP : va_P (dC, dI) classes [c_P q0 q1 (f_P_executeOperandG0 (p1 / (32 : Int32)) ((f_P_operand p2 r k M D).1) r), c_B q1 q2 q3 ((f_P_operand p2 r k M D).2), c_A q2 cM 1024 M, c_A q3 cD 256 D] H := hP.sub [3, 0, 1, 2] rfl
              have hD : va_D A [c_P q0 q1 (f_P_executeOperandG0 (p1 / (32 : Int32)) ((f_P_operand p2 r k M D).1) r), c_B q1 q2 q3 ((f_P_operand p2 r k M D).2), c_A q2 cM 1024 M, c_A q3 cD 256 D] := hD.sub [3, 0, 1, 2] (by decide) rfl
              refine lv_iconst (v := 0) hx hb d_P_executeG0_91 (by decide) ?_
              have hf : f_P_executeG0 p1 p2 r k M D = ((0 : Int32), (f_P_executeOperandG0 (p1 / (32 : Int32)) ((f_P_operand p2 r k M D).1) r), (f_P_operand p2 r k M D).2, M, D) := by rw [f_P_executeG0, if_neg c_1, if_neg c_2, if_neg c_3, if_neg c_4, if_neg c_5, if_neg c_6]
              exact W.iret (v := (0 : Int32)) hx hb hr (fun t ht hW => ⟨⟨(0 : Int32), (), rfl, (congrArg (fun z => z.1) hf).symm, by rw [hf]; exact ⟨by rw [ht]; exact hP, va_K.moved hW.alike hK, hD⟩⟩, hS.F ht⟩) hS.2.2 d_P_executeG0_92
            · refine lv_aload_n hx hb d_P_executeG0_65 rfl (lv_at hl 1 rfl) ?_
              refine va_get (D := (dC, dI)) (ci := 1) (v := .ref q1) (C := R_P) (T := F_P) (N := 13) hx hb htB i_P hown hK hP 0 rfl rfl 0 (by decide) (htB _ mw_57) (fun _ h9 => h9) rfl d_P_executeG0_66 ?_
              refine lv_aload_n hx hb d_P_executeG0_69 rfl (lv_at hl 1 rfl) ?_
              refine va_get (D := (dC, dI)) (ci := 1) (v := .int (r 10)) (C := R_P) (T := F_P) (N := 13) hx hb htB i_P hown hK hP 0 rfl rfl 11 (by decide) (htB _ mw_70) (fun _ h9 => h9) rfl d_P_executeG0_70 ?_
              refine lv_aload_n hx hb d_P_executeG0_73 rfl (lv_at hl 1 rfl) ?_
              refine va_get (D := (dC, dI)) (ci := 1) (v := .int (r 2)) (C := R_P) (T := F_P) (N := 13) hx hb htB i_P hown hK hP 0 rfl rfl 3 (by decide) (htB _ mw_61) (fun _ h9 => h9) rfl d_P_executeG0_74 ?_
              have hPc := hP.sub (ws' := [c_B q1 q2 q3 k, c_A q2 cM 1024 M, c_A q3 cD 256 D]) [1, 2, 3] rfl
              have hDc := hD.sub (ws' := [c_B q1 q2 q3 k, c_A q2 cM 1024 M, c_A q3 cD 256 D]) [1, 2, 3] (by decide) rfl
              have hKc := hK.sub (tys' := [(cM, .int), (cD, .int)]) [0, 1] rfl
              have hFc := va_free (wc := [c_B q1 q2 q3 k, c_A q2 cM 1024 M, c_A q3 cD 256 D]) hD hS hA [1, 2, 3] rfl
              refine va_calli (va_runVN (As := [.int (r 10), .int (r 2)]) (rest := []) ⟨hx, hb, hml, hown, htB⟩ (c_B_writeByte l dC dI z0 q1 q2 q3 cM cD H.size (r 10) (r 2) k M D hsn) ⟨va_cnB 2 htB (gd_c mw_310) rfl rfl rfl (hE.2.1 _ ew_307) (htB _ mw_3) (by decide +kernel) ⟨Nat.le_of_ble_eq_true rfl, Nat.le_of_ble_eq_true rfl⟩, htB _ mw_309, htB _ sw_B_writeByte⟩ (pcx_V (va_recv hKc hPc (ci := 2) (q0 := 0) rfl rfl) hPc hKc hDc hA0 hE hS) rfl rfl hl.1 rfl (lv_room (Nat.le_of_ble_eq_true rfl)) d_P_executeG0_77 ⟨Nat.zero_le _, Nat.zero_le _⟩) hS (fun q _ h => hFc q h) hFc (fun r9 u t H1 locs ht hvm hw hB hz1 hk1 hS => ?_)
              subst hw
              obtain ⟨hP1, hK1, hD1⟩ := hB
              rw [ht] at hP1
              obtain ⟨hP, hD⟩ := va_join (wr := [c_P q0 q1 r]) (w1 := [c_B q1 q2 q3 ((f_B_writeByte (r 10) (r 2) k M D).2.1), c_A q2 cM 1024 ((f_B_writeByte (r 10) (r 2) k M D).2.2.1), c_A q3 cD 256 ((f_B_writeByte (r 10) (r 2) k M D).2.2.2)]) hP hD [1, 2, 3] [0] rfl rfl (by decide) (by decide) hk1 hFc hP1 hD1
              generalize H1 = H at hP hS ⊢
              have hP : va_P (dC, dI) classes [c_P q0 q1 r, c_B q1 q2 q3 ((f_B_writeByte (r 10) (r 2) k M D).2.1), c_A q2 cM 1024 ((f_B_writeByte (r 10) (r 2) k M D).2.2.1), c_A q3 cD 256 ((f_B_writeByte (r 10) (r 2) k M D).2.2.2)] H := hP.sub [0, 1, 2, 3] rfl
              have hD : va_D A [c_P q0 q1 r, c_B q1 q2 q3 ((f_B_writeByte (r 10) (r 2) k M D).2.1), c_A q2 cM 1024 ((f_B_writeByte (r 10) (r 2) k M D).2.2.1), c_A q3 cD 256 ((f_B_writeByte (r 10) (r 2) k M D).2.2.2)] := hD.sub [0, 1, 2, 3] (by decide) rfl
              have hf : f_P_executeG0 p1 p2 r k M D = ((f_B_writeByte (r 10) (r 2) k M D).1, r, (f_B_writeByte (r 10) (r 2) k M D).2.1, (f_B_writeByte (r 10) (r 2) k M D).2.2.1, (f_B_writeByte (r 10) (r 2) k M D).2.2.2) := by rw [f_P_executeG0, if_neg c_1, if_neg c_2, if_neg c_3, if_neg c_4, if_neg c_5, if_pos c_6]
              exact W.iret (v := (f_B_writeByte (r 10) (r 2) k M D).1) hx hb hr (fun t ht hW => ⟨⟨(f_B_writeByte (r 10) (r 2) k M D).1, (), rfl, (congrArg (fun z => z.1) hf).symm, by rw [hf]; exact ⟨by rw [ht]; exact hP, va_K.moved hW.alike hK, hD⟩⟩, hS.F ht⟩) hS.2.2 d_P_executeG0_80
          · refine lv_aload_n hx hb d_P_executeG0_53 rfl (lv_at hl 1 rfl) ?_
            refine lv_iload_n hx hb d_P_executeG0_54 rfl (lv_at hl 2 rfl) ?_
            have hPc := hP.sub (ws' := [c_P q0 q1 r, c_B q1 q2 q3 k, c_A q2 cM 1024 M, c_A q3 cD 256 D]) [0, 1, 2, 3] rfl
            have hDc := hD.sub (ws' := [c_P q0 q1 r, c_B q1 q2 q3 k, c_A q2 cM 1024 M, c_A q3 cD 256 D]) [0, 1, 2, 3] (by decide) rfl
            have hKc := hK.sub (tys' := [(cM, .int), (cD, .int)]) [0, 1] rfl
            have hFc := va_free (wc := [c_P q0 q1 r, c_B q1 q2 q3 k, c_A q2 cM 1024 M, c_A q3 cD 256 D]) hD hS hA [0, 1, 2, 3] rfl
            refine va_callv (va_runV (As := [.int p1]) (rest := []) ⟨hx, hb, hml, hown, htB⟩ (c_P_jump l dC dI z0 q0 q1 q2 q3 cM cD H.size p1 r k M D hsn) (cwV 1 htB (gd_V mw_374 mw_376 sw_P_jump mw_2 mw_377) rfl rfl rfl (by decide +kernel) ⟨Nat.le_of_ble_eq_true rfl, Nat.le_of_ble_eq_true rfl⟩) (pcx_V (va_recv hKc hPc (ci := 1) (q0 := 0) rfl rfl) hPc hKc hDc hA0 hE hS) rfl rfl hl.1 rfl (lv_room (Nat.le_of_ble_eq_true rfl)) d_P_executeG0_55 ⟨Nat.zero_le _, Nat.zero_le _⟩) hS (fun q _ h => hFc q h) hFc (fun u t H1 locs ht hvm hw hB hz1 hk1 hS => ?_)
            obtain ⟨hP1, hK1, hD1⟩ := hB
            rw [ht] at hP1
            obtain ⟨hP, hD⟩ := va_join (wr := []) (w1 := [c_P q0 q1 ((f_P_jump p1 r k M D).1), c_B q1 q2 q3 ((f_P_jump p1 r k M D).2.1), c_A q2 cM 1024 ((f_P_jump p1 r k M D).2.2.1), c_A q3 cD 256 ((f_P_jump p1 r k M D).2.2.2)]) hP hD [0, 1, 2, 3] [] rfl rfl (by decide) (by decide) hk1 hFc hP1 hD1
            generalize H1 = H at hP hS ⊢
            have hP : va_P (dC, dI) classes [c_P q0 q1 ((f_P_jump p1 r k M D).1), c_B q1 q2 q3 ((f_P_jump p1 r k M D).2.1), c_A q2 cM 1024 ((f_P_jump p1 r k M D).2.2.1), c_A q3 cD 256 ((f_P_jump p1 r k M D).2.2.2)] H := hP.sub [0, 1, 2, 3] rfl
            have hD : va_D A [c_P q0 q1 ((f_P_jump p1 r k M D).1), c_B q1 q2 q3 ((f_P_jump p1 r k M D).2.1), c_A q2 cM 1024 ((f_P_jump p1 r k M D).2.2.1), c_A q3 cD 256 ((f_P_jump p1 r k M D).2.2.2)] := hD.sub [0, 1, 2, 3] (by decide) rfl
            refine lv_iconst (v := 0) hx hb d_P_executeG0_58 (by decide) ?_
            have hf : f_P_executeG0 p1 p2 r k M D = ((0 : Int32), (f_P_jump p1 r k M D).1, (f_P_jump p1 r k M D).2.1, (f_P_jump p1 r k M D).2.2.1, (f_P_jump p1 r k M D).2.2.2) := by rw [f_P_executeG0, if_neg c_1, if_neg c_2, if_neg c_3, if_neg c_4, if_pos c_5]
            exact W.iret (v := (0 : Int32)) hx hb hr (fun t ht hW => ⟨⟨(0 : Int32), (), rfl, (congrArg (fun z => z.1) hf).symm, by rw [hf]; exact ⟨by rw [ht]; exact hP, va_K.moved hW.alike hK, hD⟩⟩, hS.F ht⟩) hS.2.2 d_P_executeG0_59
    · refine lv_aload_n hx hb d_P_executeG0_28 rfl (lv_at hl 1 rfl) ?_
      refine lv_iload_n hx hb d_P_executeG0_29 rfl (lv_at hl 0 rfl) ?_
      have hPc := hP.sub (ws' := [c_P q0 q1 r]) [0] rfl
      have hDc := hD.sub (ws' := [c_P q0 q1 r]) [0] (by decide) rfl
      have hKc := hK.sub (tys' := []) [] rfl
      have hFc := va_free (wc := [c_P q0 q1 r]) hD hS hA [0] rfl
      refine va_callv (va_runV (As := [.int (p1 / (32 : Int32))]) (rest := []) ⟨hx, hb, hml, hown, htB⟩ (c_P_branch l dC dI z0 q0 q1 H.size (p1 / (32 : Int32)) r) (cwV 1 htB (gd_V mw_370 mw_372 sw_P_branch mw_2 mw_373) rfl rfl rfl (by decide +kernel) ⟨Nat.le_of_ble_eq_true rfl, Nat.le_of_ble_eq_true rfl⟩) (pcx_V (va_recv hKc hPc (ci := 1) (q0 := 0) rfl rfl) hPc hKc hDc hA0 hE hS) rfl rfl hl.1 rfl (lv_room (Nat.le_of_ble_eq_true rfl)) d_P_executeG0_30 ⟨Nat.zero_le _, Nat.zero_le _⟩) hS (fun q _ h => hFc q h) hFc (fun u t H1 locs ht hvm hw hB hz1 hk1 hS => ?_)
      obtain ⟨hP1, hK1, hD1⟩ := hB
      rw [ht] at hP1
      obtain ⟨hP, hD⟩ := va_join (wr := [c_B q1 q2 q3 k, c_A q2 cM 1024 M, c_A q3 cD 256 D]) (w1 := [c_P q0 q1 (f_P_branch (p1 / (32 : Int32)) r)]) hP hD [0] [1, 2, 3] rfl rfl (by decide) (by decide) hk1 hFc hP1 hD1
      generalize H1 = H at hP hS ⊢
      have hP : va_P (dC, dI) classes [c_P q0 q1 (f_P_branch (p1 / (32 : Int32)) r), c_B q1 q2 q3 k, c_A q2 cM 1024 M, c_A q3 cD 256 D] H := hP.sub [3, 0, 1, 2] rfl
      have hD : va_D A [c_P q0 q1 (f_P_branch (p1 / (32 : Int32)) r), c_B q1 q2 q3 k, c_A q2 cM 1024 M, c_A q3 cD 256 D] := hD.sub [3, 0, 1, 2] (by decide) rfl
      refine lv_iconst (v := 0) hx hb d_P_executeG0_33 (by decide) ?_
      have hf : f_P_executeG0 p1 p2 r k M D = ((0 : Int32), (f_P_branch (p1 / (32 : Int32)) r), k, M, D) := by rw [f_P_executeG0, if_neg c_1, if_pos c_2]
      exact W.iret (v := (0 : Int32)) hx hb hr (fun t ht hW => ⟨⟨(0 : Int32), (), rfl, (congrArg (fun z => z.1) hf).symm, by rw [hf]; exact ⟨by rw [ht]; exact hP, va_K.moved hW.alike hK, hD⟩⟩, hS.F ht⟩) hS.2.2 d_P_executeG0_34
  · refine lv_aload_n hx hb d_P_executeG0_11 rfl (lv_at hl 1 rfl) ?_
    refine lv_iload_n hx hb d_P_executeG0_12 rfl (lv_at hl 2 rfl) ?_
    have hPc := hP.sub (ws' := [c_P q0 q1 r, c_B q1 q2 q3 k, c_A q2 cM 1024 M, c_A q3 cD 256 D]) [0, 1, 2, 3] rfl
    have hDc := hD.sub (ws' := [c_P q0 q1 r, c_B q1 q2 q3 k, c_A q2 cM 1024 M, c_A q3 cD 256 D]) [0, 1, 2, 3] (by decide) rfl
    have hKc := hK.sub (tys' := [(cM, .int), (cD, .int)]) [0, 1] rfl
    have hFc := va_free (wc := [c_P q0 q1 r, c_B q1 q2 q3 k, c_A q2 cM 1024 M, c_A q3 cD 256 D]) hD hS hA [0, 1, 2, 3] rfl
    refine va_callv (va_runV (As := [.int p1]) (rest := []) ⟨hx, hb, hml, hown, htB⟩ (c_P_executeAlone l dC dI z0 q0 q1 q2 q3 cM cD H.size p1 r k M D hsn) (cwV 1 htB (gd_V mw_354 mw_356 sw_P_executeAlone mw_2 mw_357) rfl rfl rfl (by decide +kernel) ⟨Nat.le_of_ble_eq_true rfl, Nat.le_of_ble_eq_true rfl⟩) (pcx_V (va_recv hKc hPc (ci := 1) (q0 := 0) rfl rfl) hPc hKc hDc hA0 hE hS) rfl rfl hl.1 rfl (lv_room (Nat.le_of_ble_eq_true rfl)) d_P_executeG0_13 ⟨Nat.zero_le _, Nat.zero_le _⟩) hS (fun q _ h => hFc q h) hFc (fun u t H1 locs ht hvm hw hB hz1 hk1 hS => ?_)
    obtain ⟨hP1, hK1, hD1⟩ := hB
    rw [ht] at hP1
    obtain ⟨hP, hD⟩ := va_join (wr := []) (w1 := [c_P q0 q1 ((f_P_executeAlone p1 r k M D).1), c_B q1 q2 q3 ((f_P_executeAlone p1 r k M D).2.1), c_A q2 cM 1024 ((f_P_executeAlone p1 r k M D).2.2.1), c_A q3 cD 256 ((f_P_executeAlone p1 r k M D).2.2.2)]) hP hD [0, 1, 2, 3] [] rfl rfl (by decide) (by decide) hk1 hFc hP1 hD1
    generalize H1 = H at hP hS ⊢
    have hP : va_P (dC, dI) classes [c_P q0 q1 ((f_P_executeAlone p1 r k M D).1), c_B q1 q2 q3 ((f_P_executeAlone p1 r k M D).2.1), c_A q2 cM 1024 ((f_P_executeAlone p1 r k M D).2.2.1), c_A q3 cD 256 ((f_P_executeAlone p1 r k M D).2.2.2)] H := hP.sub [0, 1, 2, 3] rfl
    have hD : va_D A [c_P q0 q1 ((f_P_executeAlone p1 r k M D).1), c_B q1 q2 q3 ((f_P_executeAlone p1 r k M D).2.1), c_A q2 cM 1024 ((f_P_executeAlone p1 r k M D).2.2.1), c_A q3 cD 256 ((f_P_executeAlone p1 r k M D).2.2.2)] := hD.sub [0, 1, 2, 3] (by decide) rfl
    refine lv_iconst (v := 0) hx hb d_P_executeG0_16 (by decide) ?_
    have hf : f_P_executeG0 p1 p2 r k M D = ((0 : Int32), (f_P_executeAlone p1 r k M D).1, (f_P_executeAlone p1 r k M D).2.1, (f_P_executeAlone p1 r k M D).2.2.1, (f_P_executeAlone p1 r k M D).2.2.2) := by rw [f_P_executeG0, if_pos c_1]
    exact W.iret (v := (0 : Int32)) hx hb hr (fun t ht hW => ⟨⟨(0 : Int32), (), rfl, (congrArg (fun z => z.1) hf).symm, by rw [hf]; exact ⟨by rw [ht]; exact hP, va_K.moved hW.alike hK, hD⟩⟩, hS.F ht⟩) hS.2.2 d_P_executeG0_17
