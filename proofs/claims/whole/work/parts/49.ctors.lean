/-- all is 0 -/
abbrev zf : Nat → Int32 := fun _ => 0
/-- the registers at the start: the processor's own, the reference's -/
abbrev rf : Nat → Int32 := upd (upd zf 3 255) 4 512

theorem f_B_0 : ∀ j, j < 5 → defaultValue (t_B j) = vp_V [.null, .null, .int 0, .int 0, .int 0] j := by
  intro j hj
  match j, hj with
  | 0, _ => rfl
  | 1, _ => rfl
  | 2, _ => rfl
  | 3, _ => rfl
  | 4, _ => rfl
theorem f_P_0 : ∀ j, j < 13 → defaultValue (t_P j) = vp_V [.null, .int 0, .int 0, .int 0, .int 0, .int 0, .int 0, .int 0, .int 0, .int 0, .int 0, .int 0, .int 0] j := by
  intro j hj
  match j, hj with
  | 0, _ => rfl
  | 1, _ => rfl
  | 2, _ => rfl
  | 3, _ => rfl
  | 4, _ => rfl
  | 5, _ => rfl
  | 6, _ => rfl
  | 7, _ => rfl
  | 8, _ => rfl
  | 9, _ => rfl
  | 10, _ => rfl
  | 11, _ => rfl
  | 12, _ => rfl
theorem f_S_0 : ∀ j, j < 4 → defaultValue (t_S j) = vp_V [.null, .null, .int 0, .int 0] j := by
  intro j hj
  match j, hj with
  | 0, _ => rfl
  | 1, _ => rfl
  | 2, _ => rfl
  | 3, _ => rfl
theorem f_X_0 : ∀ j, j < 13 → defaultValue (t_X j) = vp_V [.null, .null, .null, .null, .int 0, .int 0, .int 0, .int 0, .int 0, .int 0, .int 0, .int 0, .int 0] j := by
  intro j hj
  match j, hj with
  | 0, _ => rfl
  | 1, _ => rfl
  | 2, _ => rfl
  | 3, _ => rfl
  | 4, _ => rfl
  | 5, _ => rfl
  | 6, _ => rfl
  | 7, _ => rfl
  | 8, _ => rfl
  | 9, _ => rfl
  | 10, _ => rfl
  | 11, _ => rfl
  | 12, _ => rfl
abbrev B_B_init (dC : Nat → ClassId) (dI : Nat → Nat → Nat) (q1 : Nat) (A : Nat → Prop) (u : Nat × Nat × ClassId × ClassId) (t : State) : Prop := match u with
  | (q2, q3, cM, cD) => atW (dC, dI) classes A [c_B q1 q2 q3 zf, c_A q2 cM 1024 zf, c_A q3 cD 256 zf] [(cM, .int), (cD, .int)] t
abbrev Q_B_init (dC : Nat → ClassId) (dI : Nat → Nat → Nat) (q1 : Nat) (A : Nat → Prop) : Array Value → State → Outcome → State → Prop := va_Qv (fun (_ : Nat × Nat × ClassId × ClassId) => True) (B_B_init dC dI q1 A) A
set_option maxHeartbeats 4000000 in
set_option maxRecDepth 100000 in
theorem c_B_init (l : Launch) (dC : Nat → ClassId) (dI : Nat → Nat → Nat) (z0 : Nat) (q1 : Nat) (sz : Nat) : Met l y_B_init w_B_init ({ frames := 1, cells := 2, slots := 1280, locals := 12 }) (PcX (dC, dI) classes z0 [(q1, .inr (2, [.null, .null, .int 0, .int 0, .int 0]))] [] sz [.ref q1]) (Q_B_init dC dI q1 (va_A [(q1, .inr (2, [.null, .null, .int 0, .int 0, .int 0]))] sz)) 2 1280 (va_A [(q1, .inr (2, [.null, .null, .int 0, .int 0, .int 0]))] sz) := by
  refine hdX (cc := b_B_init) (maxL := 1) (ret := none) (C := R_B) (Qc := Q_B_init dC dI q1) (by decide) rfl ?_
  intro p e s m below meth c A H hx hb hr hlocks hml hown hin htB hP hK hD hA hA0 hE hS
  have hl := lv_entry ([.ref q1]) (n := 1) (Nat.le_of_ble_eq_true rfl)
  rw [lg_entry_eq]
  generalize (lg_sl ([.ref q1]) ++ List.replicate (1 - (lg_sl ([.ref q1])).length) Slot.unset).toArray = ls at hl ⊢
  have hl : lv_has ls 1 [(0, .ref q1)] := hl
  refine lv_aload_n hx hb d_B_init_0 rfl (lv_at hl 0 rfl) ?_
  refine W.objInit hx hb hown (htB _ mw_33) (htB _ mw_20) (htB _ mw_21) rfl (by rw [hml]; exact hl.1) rfl d_B_init_1 (Nat.le_of_ble_eq_true rfl) (Nat.le_of_ble_eq_true rfl) ?_
  refine W.eq (g2 := F0 m 4 ls []) rfl ?_
  refine lv_aload_n hx hb d_B_init_4 rfl (lv_at hl 0 rfl) ?_
  refine lv_sipush (v := 1024) hx hb d_B_init_5 (by decide) ?_
  refine va_newa (atype := .int) hx hb (htB _ mw_56) (ty := .int) rfl hK hP hD hS hA (N' := 1024) (a0 := (1024, .inl zf)) (fun _ => rfl) (show ¬ (1024 : Int32) < 0 from by decide) (by decide) (by decide) (Nat.le_of_ble_eq_true rfl) (Nat.le_of_ble_eq_true rfl) d_B_init_8 (fun q2 cM H hK hP hD hS => ?_)
  have hP : va_P (dC, dI) classes [(q1, .inr (2, [.null, .null, .int 0, .int 0, .int 0])), c_A q2 cM 1024 zf] H := hP
  have hD : va_D A [(q1, .inr (2, [.null, .null, .int 0, .int 0, .int 0])), c_A q2 cM 1024 zf] := hD
  have hK : va_K (dC, dI) classes [(cM, .int)] s := hK
  refine W.widen (k := 1) (n := 1024) (Nat.le_of_ble_eq_true rfl) (Nat.le_of_ble_eq_true rfl) ?_
  refine va_putF (D := (dC, dI)) (ci := 2) (v := .ref q2) (ty := .array .int) (C := R_B) (T := F_B) (N := 5) hx hb htB i_B t_B t_B_ok n_B hown hK hP hD hS 0 rfl rfl 0 (by decide) (htB _ mw_34) (fun _ h9 => h9) rfl hin rfl (by decide +kernel) rfl rfl (Nat.le_of_ble_eq_true rfl) d_B_init_10 (fun H locs hP hD hS => ?_)
  have hP : va_P (dC, dI) classes [(q1, .inr (2, [.ref q2, .null, .int 0, .int 0, .int 0])), c_A q2 cM 1024 zf] H := hP
  have hD : va_D A [(q1, .inr (2, [.ref q2, .null, .int 0, .int 0, .int 0])), c_A q2 cM 1024 zf] := hD
  refine lv_aload_n hx hb d_B_init_13 rfl (lv_at hl 0 rfl) ?_
  refine lv_sipush (v := 256) hx hb d_B_init_14 (by decide) ?_
  refine va_newa (atype := .int) hx hb (htB _ mw_56) (ty := .int) rfl hK hP hD hS hA (N' := 256) (a0 := (256, .inl zf)) (fun _ => rfl) (show ¬ (256 : Int32) < 0 from by decide) (by decide) (by decide) (Nat.le_of_ble_eq_true rfl) (Nat.le_of_ble_eq_true rfl) d_B_init_17 (fun q3 cD H hK hP hD hS => ?_)
  have hP : va_P (dC, dI) classes [(q1, .inr (2, [.ref q2, .null, .int 0, .int 0, .int 0])), c_A q2 cM 1024 zf, c_A q3 cD 256 zf] H := hP
  have hD : va_D A [(q1, .inr (2, [.ref q2, .null, .int 0, .int 0, .int 0])), c_A q2 cM 1024 zf, c_A q3 cD 256 zf] := hD
  have hK : va_K (dC, dI) classes [(cM, .int), (cD, .int)] s := hK
  refine W.widen (k := 2) (n := 1280) (Nat.le_of_ble_eq_true rfl) (Nat.le_of_ble_eq_true rfl) ?_
  refine va_putF (D := (dC, dI)) (ci := 2) (v := .ref q3) (ty := .array .int) (C := R_B) (T := F_B) (N := 5) hx hb htB i_B t_B t_B_ok n_B hown hK hP hD hS 0 rfl rfl 1 (by decide) (htB _ mw_37) (fun _ h9 => h9) rfl hin rfl (by decide +kernel) rfl rfl (Nat.le_of_ble_eq_true rfl) d_B_init_19 (fun H locs hP hD hS => ?_)
  have hP : va_P (dC, dI) classes [(q1, .inr (2, [.ref q2, .ref q3, .int 0, .int 0, .int 0])), c_A q2 cM 1024 zf, c_A q3 cD 256 zf] H := hP
  have hD : va_D A [(q1, .inr (2, [.ref q2, .ref q3, .int 0, .int 0, .int 0])), c_A q2 cM 1024 zf, c_A q3 cD 256 zf] := hD
  refine lv_aload_n hx hb d_B_init_22 rfl (lv_at hl 0 rfl) ?_
  refine lv_iconst (v := 0) hx hb d_B_init_23 (by decide) ?_
  refine va_put (D := (dC, dI)) (ci := 2) (v := .int 0) (ty := .int) (C := R_B) (T := F_B) (N := 5) hx hb htB i_B t_B t_B_ok n_B hown hK hP hD hS 0 rfl rfl 2 (by decide) (htB _ mw_39) (fun _ h9 => h9) rfl (by decide +kernel) rfl rfl (Nat.le_of_ble_eq_true rfl) d_B_init_24 (fun H locs hP hD hS => ?_)
  have hP : va_P (dC, dI) classes [(q1, .inr (2, [.ref q2, .ref q3, .int 0, .int 0, .int 0])), c_A q2 cM 1024 zf, c_A q3 cD 256 zf] H := hP
  have hD : va_D A [(q1, .inr (2, [.ref q2, .ref q3, .int 0, .int 0, .int 0])), c_A q2 cM 1024 zf, c_A q3 cD 256 zf] := hD
  refine lv_aload_n hx hb d_B_init_27 rfl (lv_at hl 0 rfl) ?_
  refine lv_iconst (v := 0) hx hb d_B_init_28 (by decide) ?_
  refine va_put (D := (dC, dI)) (ci := 2) (v := .int 0) (ty := .int) (C := R_B) (T := F_B) (N := 5) hx hb htB i_B t_B t_B_ok n_B hown hK hP hD hS 0 rfl rfl 3 (by decide) (htB _ mw_41) (fun _ h9 => h9) rfl (by decide +kernel) rfl rfl (Nat.le_of_ble_eq_true rfl) d_B_init_29 (fun H locs hP hD hS => ?_)
  have hP : va_P (dC, dI) classes [(q1, .inr (2, [.ref q2, .ref q3, .int 0, .int 0, .int 0])), c_A q2 cM 1024 zf, c_A q3 cD 256 zf] H := hP
  have hD : va_D A [(q1, .inr (2, [.ref q2, .ref q3, .int 0, .int 0, .int 0])), c_A q2 cM 1024 zf, c_A q3 cD 256 zf] := hD
  refine lv_aload_n hx hb d_B_init_32 rfl (lv_at hl 0 rfl) ?_
  refine lv_iconst (v := 0) hx hb d_B_init_33 (by decide) ?_
  refine va_put (D := (dC, dI)) (ci := 2) (v := .int 0) (ty := .boolean) (C := R_B) (T := F_B) (N := 5) hx hb htB i_B t_B t_B_ok n_B hown hK hP hD hS 0 rfl rfl 4 (by decide) (htB _ mw_43) (fun _ h9 => h9) rfl (by decide +kernel) rfl rfl (Nat.le_of_ble_eq_true rfl) d_B_init_34 (fun H locs hP hD hS => ?_)
  have hP : va_P (dC, dI) classes [(q1, .inr (2, [.ref q2, .ref q3, .int 0, .int 0, .int 0])), c_A q2 cM 1024 zf, c_A q3 cD 256 zf] H := hP
  have hD : va_D A [(q1, .inr (2, [.ref q2, .ref q3, .int 0, .int 0, .int 0])), c_A q2 cM 1024 zf, c_A q3 cD 256 zf] := hD
  have hP : va_P (dC, dI) classes [c_B q1 q2 q3 zf, c_A q2 cM 1024 zf, c_A q3 cD 256 zf] H := hP
  have hD : va_D A [c_B q1 q2 q3 zf, c_A q2 cM 1024 zf, c_A q3 cD 256 zf] := hD
  exact W.vret hx hb hr (fun t ht hW => ⟨⟨(q2, q3, cM, cD), rfl, trivial, by rw [ht]; exact hP, va_K.moved hW.alike hK, hD⟩, hS.F ht⟩) hS.2.2 d_B_init_37
abbrev B_P_init (dC : Nat → ClassId) (dI : Nat → Nat → Nat) (q0 : Nat) (A : Nat → Prop) (u : Nat × Nat × Nat × ClassId × ClassId) (t : State) : Prop := match u with
  | (q1, q2, q3, cM, cD) => atW (dC, dI) classes A [c_P q0 q1 rf, c_B q1 q2 q3 zf, c_A q2 cM 1024 zf, c_A q3 cD 256 zf] [(cM, .int), (cD, .int)] t
abbrev Q_P_init (dC : Nat → ClassId) (dI : Nat → Nat → Nat) (q0 : Nat) (A : Nat → Prop) : Array Value → State → Outcome → State → Prop := va_Qv (fun (_ : Nat × Nat × Nat × ClassId × ClassId) => True) (B_P_init dC dI q0 A) A
set_option maxHeartbeats 4000000 in
set_option maxRecDepth 100000 in
theorem c_P_init (l : Launch) (dC : Nat → ClassId) (dI : Nat → Nat → Nat) (z0 : Nat) (q0 : Nat) (sz : Nat) : Met l y_P_init w_P_init ({ frames := 2, cells := 3, slots := 1285, locals := 32 }) (PcX (dC, dI) classes z0 [(q0, .inr (1, [.null, .int 0, .int 0, .int 0, .int 0, .int 0, .int 0, .int 0, .int 0, .int 0, .int 0, .int 0, .int 0]))] [] sz [.ref q0]) (Q_P_init dC dI q0 (va_A [(q0, .inr (1, [.null, .int 0, .int 0, .int 0, .int 0, .int 0, .int 0, .int 0, .int 0, .int 0, .int 0, .int 0, .int 0]))] sz)) 3 1285 (va_A [(q0, .inr (1, [.null, .int 0, .int 0, .int 0, .int 0, .int 0, .int 0, .int 0, .int 0, .int 0, .int 0, .int 0, .int 0]))] sz) := by
  refine hdX (cc := b_P_init) (maxL := 1) (ret := none) (C := R_P) (Qc := Q_P_init dC dI q0) (by decide) rfl ?_
  intro p e s m below meth c A H hx hb hr hlocks hml hown hin htB hP hK hD hA hA0 hE hS
  have hl := lv_entry ([.ref q0]) (n := 1) (Nat.le_of_ble_eq_true rfl)
  rw [lg_entry_eq]
  generalize (lg_sl ([.ref q0]) ++ List.replicate (1 - (lg_sl ([.ref q0])).length) Slot.unset).toArray = ls at hl ⊢
  have hl : lv_has ls 1 [(0, .ref q0)] := hl
  refine lv_aload_n hx hb d_P_init_0 rfl (lv_at hl 0 rfl) ?_
  refine W.objInit hx hb hown (htB _ mw_27) (htB _ mw_20) (htB _ mw_21) rfl (by rw [hml]; exact hl.1) rfl d_P_init_1 (Nat.le_of_ble_eq_true rfl) (Nat.le_of_ble_eq_true rfl) ?_
  refine W.eq (g2 := F0 m 4 ls []) rfl ?_
  refine lv_aload_n hx hb d_P_init_4 rfl (lv_at hl 0 rfl) ?_
  refine va_new (ci := 2) (fs := [.null, .null, .int 0, .int 0, .int 0]) (C := R_B) (T := F_B) (N := 5) hx hb htB i_B t_B t_B_ok hown (htB _ mw_28) (htB _ mw_29) (htB _ mw_3) hK hP hD hS hA rfl f_B_0 (Nat.le_of_ble_eq_true rfl) (Nat.le_of_ble_eq_true rfl) d_P_init_5 (fun q1 H hP hD hS => ?_)
  have hP : va_P (dC, dI) classes [(q0, .inr (1, [.null, .int 0, .int 0, .int 0, .int 0, .int 0, .int 0, .int 0, .int 0, .int 0, .int 0, .int 0, .int 0])), (q1, .inr (2, [.null, .null, .int 0, .int 0, .int 0]))] H := hP
  have hD : va_D A [(q0, .inr (1, [.null, .int 0, .int 0, .int 0, .int 0, .int 0, .int 0, .int 0, .int 0, .int 0, .int 0, .int 0, .int 0])), (q1, .inr (2, [.null, .null, .int 0, .int 0, .int 0]))] := hD
  refine W.widen (k := 1) (n := 5) (Nat.le_of_ble_eq_true rfl) (Nat.le_of_ble_eq_true rfl) ?_
  refine lv_dup hx hb d_P_init_8 rfl ?_
  have hPc := hP.sub (ws' := [(q1, .inr (2, [.null, .null, .int 0, .int 0, .int 0]))]) [1] rfl
  have hDc := hD.sub (ws' := [(q1, .inr (2, [.null, .null, .int 0, .int 0, .int 0]))]) [1] (by decide) rfl
  have hKc := hK.sub (tys' := []) [] rfl
  have hFc := va_free (wc := [(q1, .inr (2, [.null, .null, .int 0, .int 0, .int 0]))]) hD hS hA [1] rfl
  refine va_callv (va_runIN (As := []) (rest := [.ref q1, .ref q0]) ⟨hx, hb, hml, hown, htB⟩ (c_B_init l dC dI z0 q1 H.size) ⟨va_cnB 0 htB (gd_c mw_32) rfl rfl rfl (hE.2.1 _ ew_30) (htB _ mw_3) (by decide +kernel) ⟨Nat.le_of_ble_eq_true rfl, Nat.le_of_ble_eq_true rfl⟩, rfl, htB _ mw_31⟩ (pcx_S hPc hKc hDc hA0 hE hS) rfl rfl hl.1 rfl (lv_room (Nat.le_of_ble_eq_true rfl)) d_P_init_9 ⟨Nat.le_of_ble_eq_true rfl, Nat.le_of_ble_eq_true rfl⟩) hS (fun q _ h => hFc q h) hFc (fun u t H1 locs ht hvm hw hB hz1 hk1 hS => ?_)
  obtain ⟨q2, q3, cM, cD⟩ := u
  obtain ⟨hP1, hK1, hD1⟩ := hB
  rw [ht] at hP1
  have hK1 := va_K.moved hvm.symm hK1
  obtain ⟨hP, hD⟩ := va_join (wr := [(q0, .inr (1, [.null, .int 0, .int 0, .int 0, .int 0, .int 0, .int 0, .int 0, .int 0, .int 0, .int 0, .int 0, .int 0]))]) (w1 := [c_B q1 q2 q3 zf, c_A q2 cM 1024 zf, c_A q3 cD 256 zf]) hP hD [1] [0] rfl rfl (by decide) (by decide) hk1 hFc hP1 hD1
  have hK := hK.app hK1
  generalize H1 = H at hP hS ⊢
  have hP : va_P (dC, dI) classes [(q0, .inr (1, [.null, .int 0, .int 0, .int 0, .int 0, .int 0, .int 0, .int 0, .int 0, .int 0, .int 0, .int 0, .int 0])), c_B q1 q2 q3 zf, c_A q2 cM 1024 zf, c_A q3 cD 256 zf] H := hP
  have hD : va_D A [(q0, .inr (1, [.null, .int 0, .int 0, .int 0, .int 0, .int 0, .int 0, .int 0, .int 0, .int 0, .int 0, .int 0, .int 0])), c_B q1 q2 q3 zf, c_A q2 cM 1024 zf, c_A q3 cD 256 zf] := hD
  have hK : va_K (dC, dI) classes [(cM, .int), (cD, .int)] s := hK
  refine W.widen (k := 3) (n := 1285) (Nat.le_of_ble_eq_true rfl) (Nat.le_of_ble_eq_true rfl) ?_
  refine va_putF (D := (dC, dI)) (ci := 1) (v := .ref q1) (ty := .object "SixtyFive$Board") (C := R_P) (T := F_P) (N := 13) hx hb htB i_P t_P t_P_ok n_P hown hK hP hD hS 0 rfl rfl 0 (by decide) (htB _ mw_57) (fun _ h9 => h9) rfl hin rfl (by decide +kernel) rfl rfl (Nat.le_of_ble_eq_true rfl) d_P_init_12 (fun H locs hP hD hS => ?_)
  have hP : va_P (dC, dI) classes [(q0, .inr (1, [.ref q1, .int 0, .int 0, .int 0, .int 0, .int 0, .int 0, .int 0, .int 0, .int 0, .int 0, .int 0, .int 0])), c_B q1 q2 q3 zf, c_A q2 cM 1024 zf, c_A q3 cD 256 zf] H := hP
  have hD : va_D A [(q0, .inr (1, [.ref q1, .int 0, .int 0, .int 0, .int 0, .int 0, .int 0, .int 0, .int 0, .int 0, .int 0, .int 0, .int 0])), c_B q1 q2 q3 zf, c_A q2 cM 1024 zf, c_A q3 cD 256 zf] := hD
  refine lv_aload_n hx hb d_P_init_15 rfl (lv_at hl 0 rfl) ?_
  refine lv_sipush (v := 255) hx hb d_P_init_16 (by decide) ?_
  refine va_put (D := (dC, dI)) (ci := 1) (v := .int 255) (ty := .int) (C := R_P) (T := F_P) (N := 13) hx hb htB i_P t_P t_P_ok n_P hown hK hP hD hS 0 rfl rfl 4 (by decide) (htB _ mw_62) (fun _ h9 => h9) rfl (by decide +kernel) rfl rfl (Nat.le_of_ble_eq_true rfl) d_P_init_19 (fun H locs hP hD hS => ?_)
  have hP : va_P (dC, dI) classes [(q0, .inr (1, [.ref q1, .int 0, .int 0, .int 0, .int 255, .int 0, .int 0, .int 0, .int 0, .int 0, .int 0, .int 0, .int 0])), c_B q1 q2 q3 zf, c_A q2 cM 1024 zf, c_A q3 cD 256 zf] H := hP
  have hD : va_D A [(q0, .inr (1, [.ref q1, .int 0, .int 0, .int 0, .int 255, .int 0, .int 0, .int 0, .int 0, .int 0, .int 0, .int 0, .int 0])), c_B q1 q2 q3 zf, c_A q2 cM 1024 zf, c_A q3 cD 256 zf] := hD
  refine lv_aload_n hx hb d_P_init_22 rfl (lv_at hl 0 rfl) ?_
  refine lv_sipush (v := 512) hx hb d_P_init_23 (by decide) ?_
  refine va_put (D := (dC, dI)) (ci := 1) (v := .int 512) (ty := .int) (C := R_P) (T := F_P) (N := 13) hx hb htB i_P t_P t_P_ok n_P hown hK hP hD hS 0 rfl rfl 5 (by decide) (htB _ mw_63) (fun _ h9 => h9) rfl (by decide +kernel) rfl rfl (Nat.le_of_ble_eq_true rfl) d_P_init_26 (fun H locs hP hD hS => ?_)
  have hP : va_P (dC, dI) classes [(q0, .inr (1, [.ref q1, .int 0, .int 0, .int 0, .int 255, .int 512, .int 0, .int 0, .int 0, .int 0, .int 0, .int 0, .int 0])), c_B q1 q2 q3 zf, c_A q2 cM 1024 zf, c_A q3 cD 256 zf] H := hP
  have hD : va_D A [(q0, .inr (1, [.ref q1, .int 0, .int 0, .int 0, .int 255, .int 512, .int 0, .int 0, .int 0, .int 0, .int 0, .int 0, .int 0])), c_B q1 q2 q3 zf, c_A q2 cM 1024 zf, c_A q3 cD 256 zf] := hD
  have hP : va_P (dC, dI) classes [c_P q0 q1 rf, c_B q1 q2 q3 zf, c_A q2 cM 1024 zf, c_A q3 cD 256 zf] H := hP
  have hD : va_D A [c_P q0 q1 rf, c_B q1 q2 q3 zf, c_A q2 cM 1024 zf, c_A q3 cD 256 zf] := hD
  exact W.vret hx hb hr (fun t ht hW => ⟨⟨(q1, q2, q3, cM, cD), rfl, trivial, by rw [ht]; exact hP, va_K.moved hW.alike hK, hD⟩, hS.F ht⟩) hS.2.2 d_P_init_29
abbrev B_S_init (dC : Nat → ClassId) (dI : Nat → Nat → Nat) (qs : Nat) (A : Nat → Prop) (u : Nat × Nat × Nat × Nat × ClassId × ClassId) (t : State) : Prop := match u with
  | (q0, q1, q2, q3, cM, cD) => atW (dC, dI) classes A [c_S qs q0 q1 zf, c_P q0 q1 rf, c_B q1 q2 q3 zf, c_A q2 cM 1024 zf, c_A q3 cD 256 zf] [(cM, .int), (cD, .int)] t
abbrev Q_S_init (dC : Nat → ClassId) (dI : Nat → Nat → Nat) (qs : Nat) (A : Nat → Prop) : Array Value → State → Outcome → State → Prop := va_Qv (fun (_ : Nat × Nat × Nat × Nat × ClassId × ClassId) => True) (B_S_init dC dI qs A) A
set_option maxHeartbeats 4000000 in
set_option maxRecDepth 100000 in
theorem c_S_init (l : Launch) (dC : Nat → ClassId) (dI : Nat → Nat → Nat) (z0 : Nat) (qs : Nat) (sz : Nat) : Met l y_S_init w_S_init ({ frames := 3, cells := 4, slots := 1298, locals := 52 }) (PcX (dC, dI) classes z0 [(qs, .inr (0, [.null, .null, .int 0, .int 0]))] [] sz [.ref qs]) (Q_S_init dC dI qs (va_A [(qs, .inr (0, [.null, .null, .int 0, .int 0]))] sz)) 4 1298 (va_A [(qs, .inr (0, [.null, .null, .int 0, .int 0]))] sz) := by
  refine hdX (cc := b_S_init) (maxL := 1) (ret := none) (C := R_S) (Qc := Q_S_init dC dI qs) (by decide) rfl ?_
  intro p e s m below meth c A H hx hb hr hlocks hml hown hin htB hP hK hD hA hA0 hE hS
  have hl := lv_entry ([.ref qs]) (n := 1) (Nat.le_of_ble_eq_true rfl)
  rw [lg_entry_eq]
  generalize (lg_sl ([.ref qs]) ++ List.replicate (1 - (lg_sl ([.ref qs])).length) Slot.unset).toArray = ls at hl ⊢
  have hl : lv_has ls 1 [(0, .ref qs)] := hl
  refine lv_aload_n hx hb d_S_init_0 rfl (lv_at hl 0 rfl) ?_
  refine W.objInit hx hb hown (htB _ mw_19) (htB _ mw_20) (htB _ mw_21) rfl (by rw [hml]; exact hl.1) rfl d_S_init_1 (Nat.le_of_ble_eq_true rfl) (Nat.le_of_ble_eq_true rfl) ?_
  refine W.eq (g2 := F0 m 4 ls []) rfl ?_
  refine lv_aload_n hx hb d_S_init_4 rfl (lv_at hl 0 rfl) ?_
  refine va_new (ci := 1) (fs := [.null, .int 0, .int 0, .int 0, .int 0, .int 0, .int 0, .int 0, .int 0, .int 0, .int 0, .int 0, .int 0]) (C := R_P) (T := F_P) (N := 13) hx hb htB i_P t_P t_P_ok hown (htB _ mw_22) (htB _ mw_23) (htB _ mw_2) hK hP hD hS hA rfl f_P_0 (Nat.le_of_ble_eq_true rfl) (Nat.le_of_ble_eq_true rfl) d_S_init_5 (fun q0 H hP hD hS => ?_)
  have hP : va_P (dC, dI) classes [(qs, .inr (0, [.null, .null, .int 0, .int 0])), (q0, .inr (1, [.null, .int 0, .int 0, .int 0, .int 0, .int 0, .int 0, .int 0, .int 0, .int 0, .int 0, .int 0, .int 0]))] H := hP
  have hD : va_D A [(qs, .inr (0, [.null, .null, .int 0, .int 0])), (q0, .inr (1, [.null, .int 0, .int 0, .int 0, .int 0, .int 0, .int 0, .int 0, .int 0, .int 0, .int 0, .int 0, .int 0]))] := hD
  refine W.widen (k := 1) (n := 13) (Nat.le_of_ble_eq_true rfl) (Nat.le_of_ble_eq_true rfl) ?_
  refine lv_dup hx hb d_S_init_8 rfl ?_
  have hPc := hP.sub (ws' := [(q0, .inr (1, [.null, .int 0, .int 0, .int 0, .int 0, .int 0, .int 0, .int 0, .int 0, .int 0, .int 0, .int 0, .int 0]))]) [1] rfl
  have hDc := hD.sub (ws' := [(q0, .inr (1, [.null, .int 0, .int 0, .int 0, .int 0, .int 0, .int 0, .int 0, .int 0, .int 0, .int 0, .int 0, .int 0]))]) [1] (by decide) rfl
  have hKc := hK.sub (tys' := []) [] rfl
  have hFc := va_free (wc := [(q0, .inr (1, [.null, .int 0, .int 0, .int 0, .int 0, .int 0, .int 0, .int 0, .int 0, .int 0, .int 0, .int 0, .int 0]))]) hD hS hA [1] rfl
  refine va_callv (va_runIN (As := []) (rest := [.ref q0, .ref qs]) ⟨hx, hb, hml, hown, htB⟩ (c_P_init l dC dI z0 q0 H.size) ⟨va_cnB 0 htB (gd_c mw_26) rfl rfl rfl (hE.2.1 _ ew_24) (htB _ mw_2) (by decide +kernel) ⟨Nat.le_of_ble_eq_true rfl, Nat.le_of_ble_eq_true rfl⟩, rfl, htB _ mw_25⟩ (pcx_S hPc hKc hDc hA0 hE hS) rfl rfl hl.1 rfl (lv_room (Nat.le_of_ble_eq_true rfl)) d_S_init_9 ⟨Nat.le_of_ble_eq_true rfl, Nat.le_of_ble_eq_true rfl⟩) hS (fun q _ h => hFc q h) hFc (fun u t H1 locs ht hvm hw hB hz1 hk1 hS => ?_)
  obtain ⟨q1, q2, q3, cM, cD⟩ := u
  obtain ⟨hP1, hK1, hD1⟩ := hB
  rw [ht] at hP1
  have hK1 := va_K.moved hvm.symm hK1
  obtain ⟨hP, hD⟩ := va_join (wr := [(qs, .inr (0, [.null, .null, .int 0, .int 0]))]) (w1 := [c_P q0 q1 rf, c_B q1 q2 q3 zf, c_A q2 cM 1024 zf, c_A q3 cD 256 zf]) hP hD [1] [0] rfl rfl (by decide) (by decide) hk1 hFc hP1 hD1
  have hK := hK.app hK1
  generalize H1 = H at hP hS ⊢
  have hP : va_P (dC, dI) classes [(qs, .inr (0, [.null, .null, .int 0, .int 0])), c_P q0 q1 rf, c_B q1 q2 q3 zf, c_A q2 cM 1024 zf, c_A q3 cD 256 zf] H := hP
  have hD : va_D A [(qs, .inr (0, [.null, .null, .int 0, .int 0])), c_P q0 q1 rf, c_B q1 q2 q3 zf, c_A q2 cM 1024 zf, c_A q3 cD 256 zf] := hD
  have hK : va_K (dC, dI) classes [(cM, .int), (cD, .int)] s := hK
  refine W.widen (k := 4) (n := 1298) (Nat.le_of_ble_eq_true rfl) (Nat.le_of_ble_eq_true rfl) ?_
  refine va_putF (D := (dC, dI)) (ci := 0) (v := .ref q0) (ty := .object "SixtyFive$Processor") (C := R_S) (T := F_S) (N := 4) hx hb htB i_S t_S t_S_ok n_S hown hK hP hD hS 0 rfl rfl 0 (by decide) (htB _ mw_99) (fun _ h9 => h9) rfl hin rfl (by decide +kernel) rfl rfl (Nat.le_of_ble_eq_true rfl) d_S_init_12 (fun H locs hP hD hS => ?_)
  have hP : va_P (dC, dI) classes [(qs, .inr (0, [.ref q0, .null, .int 0, .int 0])), c_P q0 q1 rf, c_B q1 q2 q3 zf, c_A q2 cM 1024 zf, c_A q3 cD 256 zf] H := hP
  have hD : va_D A [(qs, .inr (0, [.ref q0, .null, .int 0, .int 0])), c_P q0 q1 rf, c_B q1 q2 q3 zf, c_A q2 cM 1024 zf, c_A q3 cD 256 zf] := hD
  refine lv_aload_n hx hb d_S_init_15 rfl (lv_at hl 0 rfl) ?_
  refine lv_aload_n hx hb d_S_init_16 rfl (lv_at hl 0 rfl) ?_
  refine va_get (D := (dC, dI)) (ci := 0) (v := .ref q0) (C := R_S) (T := F_S) (N := 4) hx hb htB i_S hown hK hP 0 rfl rfl 0 (by decide) (htB _ mw_99) (fun _ h9 => h9) rfl d_S_init_17 ?_
  refine va_getN (D := (dC, dI)) (ci := 1) (v := .ref q1) (C := R_P) (T := F_P) (N := 13) hx hb htB i_P hown hK hP 1 rfl rfl 0 (by decide) (va_Nw.use rfl (hE.2.1 _ ew_58)) (fun _ h9 => h9) rfl d_S_init_20 ?_
  refine va_putF (D := (dC, dI)) (ci := 0) (v := .ref q1) (ty := .object "SixtyFive$Board") (C := R_S) (T := F_S) (N := 4) hx hb htB i_S t_S t_S_ok n_S hown hK hP hD hS 0 rfl rfl 1 (by decide) (htB _ mw_100) (fun _ h9 => h9) rfl hin rfl (by decide +kernel) rfl rfl (Nat.le_of_ble_eq_true rfl) d_S_init_23 (fun H locs hP hD hS => ?_)
  have hP : va_P (dC, dI) classes [(qs, .inr (0, [.ref q0, .ref q1, .int 0, .int 0])), c_P q0 q1 rf, c_B q1 q2 q3 zf, c_A q2 cM 1024 zf, c_A q3 cD 256 zf] H := hP
  have hD : va_D A [(qs, .inr (0, [.ref q0, .ref q1, .int 0, .int 0])), c_P q0 q1 rf, c_B q1 q2 q3 zf, c_A q2 cM 1024 zf, c_A q3 cD 256 zf] := hD
  refine lv_aload_n hx hb d_S_init_26 rfl (lv_at hl 0 rfl) ?_
  refine lv_iconst (v := 0) hx hb d_S_init_27 (by decide) ?_
  refine va_put (D := (dC, dI)) (ci := 0) (v := .int 0) (ty := .int) (C := R_S) (T := F_S) (N := 4) hx hb htB i_S t_S t_S_ok n_S hown hK hP hD hS 0 rfl rfl 2 (by decide) (htB _ mw_101) (fun _ h9 => h9) rfl (by decide +kernel) rfl rfl (Nat.le_of_ble_eq_true rfl) d_S_init_28 (fun H locs hP hD hS => ?_)
  have hP : va_P (dC, dI) classes [(qs, .inr (0, [.ref q0, .ref q1, .int 0, .int 0])), c_P q0 q1 rf, c_B q1 q2 q3 zf, c_A q2 cM 1024 zf, c_A q3 cD 256 zf] H := hP
  have hD : va_D A [(qs, .inr (0, [.ref q0, .ref q1, .int 0, .int 0])), c_P q0 q1 rf, c_B q1 q2 q3 zf, c_A q2 cM 1024 zf, c_A q3 cD 256 zf] := hD
  refine lv_aload_n hx hb d_S_init_31 rfl (lv_at hl 0 rfl) ?_
  refine lv_iconst (v := 0) hx hb d_S_init_32 (by decide) ?_
  refine va_put (D := (dC, dI)) (ci := 0) (v := .int 0) (ty := .int) (C := R_S) (T := F_S) (N := 4) hx hb htB i_S t_S t_S_ok n_S hown hK hP hD hS 0 rfl rfl 3 (by decide) (htB _ mw_102) (fun _ h9 => h9) rfl (by decide +kernel) rfl rfl (Nat.le_of_ble_eq_true rfl) d_S_init_33 (fun H locs hP hD hS => ?_)
  have hP : va_P (dC, dI) classes [(qs, .inr (0, [.ref q0, .ref q1, .int 0, .int 0])), c_P q0 q1 rf, c_B q1 q2 q3 zf, c_A q2 cM 1024 zf, c_A q3 cD 256 zf] H := hP
  have hD : va_D A [(qs, .inr (0, [.ref q0, .ref q1, .int 0, .int 0])), c_P q0 q1 rf, c_B q1 q2 q3 zf, c_A q2 cM 1024 zf, c_A q3 cD 256 zf] := hD
  have hP : va_P (dC, dI) classes [c_S qs q0 q1 zf, c_P q0 q1 rf, c_B q1 q2 q3 zf, c_A q2 cM 1024 zf, c_A q3 cD 256 zf] H := hP
  have hD : va_D A [c_S qs q0 q1 zf, c_P q0 q1 rf, c_B q1 q2 q3 zf, c_A q2 cM 1024 zf, c_A q3 cD 256 zf] := hD
  exact W.vret hx hb hr (fun t ht hW => ⟨⟨(q0, q1, q2, q3, cM, cD), rfl, trivial, by rw [ht]; exact hP, va_K.moved hW.alike hK, hD⟩, hS.F ht⟩) hS.2.2 d_S_init_36
abbrev B_X_init (dC : Nat → ClassId) (dI : Nat → Nat → Nat) (x0 : Nat) (A : Nat → Prop) (u : Nat × Nat × Nat × Nat × ClassId × ClassId × ClassId × ClassId) (t : State) : Prop := match u with
  | (x1, x2, x3, x4, c1, c2, c3, c4) => atW (dC, dI) classes A [c_X x0 x1 x2 x3 x4 zf, c_A x1 c1 1024 zf, c_A x2 c2 256 zf, c_A x3 c3 9 rf, c_A x4 c4 9 zf] [(c1, .int), (c2, .int), (c3, .int), (c4, .int)] t
abbrev Q_X_init (dC : Nat → ClassId) (dI : Nat → Nat → Nat) (x0 : Nat) (A : Nat → Prop) : Array Value → State → Outcome → State → Prop := va_Qv (fun (_ : Nat × Nat × Nat × Nat × ClassId × ClassId × ClassId × ClassId) => True) (B_X_init dC dI x0 A) A
set_option maxHeartbeats 4000000 in
set_option maxRecDepth 100000 in
theorem c_X_init (l : Launch) (dC : Nat → ClassId) (dI : Nat → Nat → Nat) (z0 : Nat) (x0 : Nat) (sz : Nat) : Met l y_X_init w_X_init ({ frames := 1, cells := 4, slots := 1298, locals := 12 }) (PcX (dC, dI) classes z0 [(x0, .inr (3, [.null, .null, .null, .null, .int 0, .int 0, .int 0, .int 0, .int 0, .int 0, .int 0, .int 0, .int 0]))] [] sz [.ref x0]) (Q_X_init dC dI x0 (va_A [(x0, .inr (3, [.null, .null, .null, .null, .int 0, .int 0, .int 0, .int 0, .int 0, .int 0, .int 0, .int 0, .int 0]))] sz)) 4 1298 (va_A [(x0, .inr (3, [.null, .null, .null, .null, .int 0, .int 0, .int 0, .int 0, .int 0, .int 0, .int 0, .int 0, .int 0]))] sz) := by
  refine hdX (cc := b_X_init) (maxL := 1) (ret := none) (C := R_X) (Qc := Q_X_init dC dI x0) (by decide) rfl ?_
  intro p e s m below meth c A H hx hb hr hlocks hml hown hin htB hP hK hD hA hA0 hE hS
  have hl := lv_entry ([.ref x0]) (n := 1) (Nat.le_of_ble_eq_true rfl)
  rw [lg_entry_eq]
  generalize (lg_sl ([.ref x0]) ++ List.replicate (1 - (lg_sl ([.ref x0])).length) Slot.unset).toArray = ls at hl ⊢
  have hl : lv_has ls 1 [(0, .ref x0)] := hl
  refine lv_aload_n hx hb d_X_init_0 rfl (lv_at hl 0 rfl) ?_
  refine W.objInit hx hb hown (htB _ mw_460) (htB _ mw_20) (htB _ mw_21) rfl (by rw [hml]; exact hl.1) rfl d_X_init_1 (Nat.le_of_ble_eq_true rfl) (Nat.le_of_ble_eq_true rfl) ?_
  refine W.eq (g2 := F0 m 4 ls []) rfl ?_
  refine lv_aload_n hx hb d_X_init_4 rfl (lv_at hl 0 rfl) ?_
  refine lv_sipush (v := 1024) hx hb d_X_init_5 (by decide) ?_
  refine va_newa (atype := .int) hx hb (htB _ mw_56) (ty := .int) rfl hK hP hD hS hA (N' := 1024) (a0 := (1024, .inl zf)) (fun _ => rfl) (show ¬ (1024 : Int32) < 0 from by decide) (by decide) (by decide) (Nat.le_of_ble_eq_true rfl) (Nat.le_of_ble_eq_true rfl) d_X_init_8 (fun x1 c1 H hK hP hD hS => ?_)
  have hP : va_P (dC, dI) classes [(x0, .inr (3, [.null, .null, .null, .null, .int 0, .int 0, .int 0, .int 0, .int 0, .int 0, .int 0, .int 0, .int 0])), c_A x1 c1 1024 zf] H := hP
  have hD : va_D A [(x0, .inr (3, [.null, .null, .null, .null, .int 0, .int 0, .int 0, .int 0, .int 0, .int 0, .int 0, .int 0, .int 0])), c_A x1 c1 1024 zf] := hD
  have hK : va_K (dC, dI) classes [(c1, .int)] s := hK
  refine W.widen (k := 1) (n := 1024) (Nat.le_of_ble_eq_true rfl) (Nat.le_of_ble_eq_true rfl) ?_
  refine va_putF (D := (dC, dI)) (ci := 3) (v := .ref x1) (ty := .array .int) (C := R_X) (T := F_X) (N := 13) hx hb htB i_X t_X t_X_ok n_X hown hK hP hD hS 0 rfl rfl 0 (by decide) (htB _ mw_461) (fun _ h9 => h9) rfl hin rfl (by decide +kernel) rfl rfl (Nat.le_of_ble_eq_true rfl) d_X_init_10 (fun H locs hP hD hS => ?_)
  have hP : va_P (dC, dI) classes [(x0, .inr (3, [.ref x1, .null, .null, .null, .int 0, .int 0, .int 0, .int 0, .int 0, .int 0, .int 0, .int 0, .int 0])), c_A x1 c1 1024 zf] H := hP
  have hD : va_D A [(x0, .inr (3, [.ref x1, .null, .null, .null, .int 0, .int 0, .int 0, .int 0, .int 0, .int 0, .int 0, .int 0, .int 0])), c_A x1 c1 1024 zf] := hD
  refine lv_aload_n hx hb d_X_init_13 rfl (lv_at hl 0 rfl) ?_
  refine lv_sipush (v := 256) hx hb d_X_init_14 (by decide) ?_
  refine va_newa (atype := .int) hx hb (htB _ mw_56) (ty := .int) rfl hK hP hD hS hA (N' := 256) (a0 := (256, .inl zf)) (fun _ => rfl) (show ¬ (256 : Int32) < 0 from by decide) (by decide) (by decide) (Nat.le_of_ble_eq_true rfl) (Nat.le_of_ble_eq_true rfl) d_X_init_17 (fun x2 c2 H hK hP hD hS => ?_)
  have hP : va_P (dC, dI) classes [(x0, .inr (3, [.ref x1, .null, .null, .null, .int 0, .int 0, .int 0, .int 0, .int 0, .int 0, .int 0, .int 0, .int 0])), c_A x1 c1 1024 zf, c_A x2 c2 256 zf] H := hP
  have hD : va_D A [(x0, .inr (3, [.ref x1, .null, .null, .null, .int 0, .int 0, .int 0, .int 0, .int 0, .int 0, .int 0, .int 0, .int 0])), c_A x1 c1 1024 zf, c_A x2 c2 256 zf] := hD
  have hK : va_K (dC, dI) classes [(c1, .int), (c2, .int)] s := hK
  refine W.widen (k := 2) (n := 1280) (Nat.le_of_ble_eq_true rfl) (Nat.le_of_ble_eq_true rfl) ?_
  refine va_putF (D := (dC, dI)) (ci := 3) (v := .ref x2) (ty := .array .int) (C := R_X) (T := F_X) (N := 13) hx hb htB i_X t_X t_X_ok n_X hown hK hP hD hS 0 rfl rfl 1 (by decide) (htB _ mw_462) (fun _ h9 => h9) rfl hin rfl (by decide +kernel) rfl rfl (Nat.le_of_ble_eq_true rfl) d_X_init_19 (fun H locs hP hD hS => ?_)
  have hP : va_P (dC, dI) classes [(x0, .inr (3, [.ref x1, .ref x2, .null, .null, .int 0, .int 0, .int 0, .int 0, .int 0, .int 0, .int 0, .int 0, .int 0])), c_A x1 c1 1024 zf, c_A x2 c2 256 zf] H := hP
  have hD : va_D A [(x0, .inr (3, [.ref x1, .ref x2, .null, .null, .int 0, .int 0, .int 0, .int 0, .int 0, .int 0, .int 0, .int 0, .int 0])), c_A x1 c1 1024 zf, c_A x2 c2 256 zf] := hD
  refine lv_aload_n hx hb d_X_init_22 rfl (lv_at hl 0 rfl) ?_
  refine lv_bipush (v := 9) hx hb d_X_init_23 (by decide) ?_
  refine va_newa (atype := .int) hx hb (htB _ mw_56) (ty := .int) rfl hK hP hD hS hA (N' := 9) (a0 := (9, .inl zf)) (fun _ => rfl) (show ¬ (9 : Int32) < 0 from by decide) (by decide) (by decide) (Nat.le_of_ble_eq_true rfl) (Nat.le_of_ble_eq_true rfl) d_X_init_25 (fun x3 c3 H hK hP hD hS => ?_)
  have hP : va_P (dC, dI) classes [(x0, .inr (3, [.ref x1, .ref x2, .null, .null, .int 0, .int 0, .int 0, .int 0, .int 0, .int 0, .int 0, .int 0, .int 0])), c_A x1 c1 1024 zf, c_A x2 c2 256 zf, c_A x3 c3 9 zf] H := hP
  have hD : va_D A [(x0, .inr (3, [.ref x1, .ref x2, .null, .null, .int 0, .int 0, .int 0, .int 0, .int 0, .int 0, .int 0, .int 0, .int 0])), c_A x1 c1 1024 zf, c_A x2 c2 256 zf, c_A x3 c3 9 zf] := hD
  have hK : va_K (dC, dI) classes [(c1, .int), (c2, .int), (c3, .int)] s := hK
  refine W.widen (k := 3) (n := 1289) (Nat.le_of_ble_eq_true rfl) (Nat.le_of_ble_eq_true rfl) ?_
  refine va_putF (D := (dC, dI)) (ci := 3) (v := .ref x3) (ty := .array .int) (C := R_X) (T := F_X) (N := 13) hx hb htB i_X t_X t_X_ok n_X hown hK hP hD hS 0 rfl rfl 2 (by decide) (htB _ mw_463) (fun _ h9 => h9) rfl hin rfl (by decide +kernel) rfl rfl (Nat.le_of_ble_eq_true rfl) d_X_init_27 (fun H locs hP hD hS => ?_)
  have hP : va_P (dC, dI) classes [(x0, .inr (3, [.ref x1, .ref x2, .ref x3, .null, .int 0, .int 0, .int 0, .int 0, .int 0, .int 0, .int 0, .int 0, .int 0])), c_A x1 c1 1024 zf, c_A x2 c2 256 zf, c_A x3 c3 9 zf] H := hP
  have hD : va_D A [(x0, .inr (3, [.ref x1, .ref x2, .ref x3, .null, .int 0, .int 0, .int 0, .int 0, .int 0, .int 0, .int 0, .int 0, .int 0])), c_A x1 c1 1024 zf, c_A x2 c2 256 zf, c_A x3 c3 9 zf] := hD
  refine lv_aload_n hx hb d_X_init_30 rfl (lv_at hl 0 rfl) ?_
  refine lv_bipush (v := 9) hx hb d_X_init_31 (by decide) ?_
  refine va_newa (atype := .int) hx hb (htB _ mw_56) (ty := .int) rfl hK hP hD hS hA (N' := 9) (a0 := (9, .inl zf)) (fun _ => rfl) (show ¬ (9 : Int32) < 0 from by decide) (by decide) (by decide) (Nat.le_of_ble_eq_true rfl) (Nat.le_of_ble_eq_true rfl) d_X_init_33 (fun x4 c4 H hK hP hD hS => ?_)
  have hP : va_P (dC, dI) classes [(x0, .inr (3, [.ref x1, .ref x2, .ref x3, .null, .int 0, .int 0, .int 0, .int 0, .int 0, .int 0, .int 0, .int 0, .int 0])), c_A x1 c1 1024 zf, c_A x2 c2 256 zf, c_A x3 c3 9 zf, c_A x4 c4 9 zf] H := hP
  have hD : va_D A [(x0, .inr (3, [.ref x1, .ref x2, .ref x3, .null, .int 0, .int 0, .int 0, .int 0, .int 0, .int 0, .int 0, .int 0, .int 0])), c_A x1 c1 1024 zf, c_A x2 c2 256 zf, c_A x3 c3 9 zf, c_A x4 c4 9 zf] := hD
  have hK : va_K (dC, dI) classes [(c1, .int), (c2, .int), (c3, .int), (c4, .int)] s := hK
  refine W.widen (k := 4) (n := 1298) (Nat.le_of_ble_eq_true rfl) (Nat.le_of_ble_eq_true rfl) ?_
  refine va_putF (D := (dC, dI)) (ci := 3) (v := .ref x4) (ty := .array .int) (C := R_X) (T := F_X) (N := 13) hx hb htB i_X t_X t_X_ok n_X hown hK hP hD hS 0 rfl rfl 3 (by decide) (htB _ mw_464) (fun _ h9 => h9) rfl hin rfl (by decide +kernel) rfl rfl (Nat.le_of_ble_eq_true rfl) d_X_init_35 (fun H locs hP hD hS => ?_)
  have hP : va_P (dC, dI) classes [(x0, .inr (3, [.ref x1, .ref x2, .ref x3, .ref x4, .int 0, .int 0, .int 0, .int 0, .int 0, .int 0, .int 0, .int 0, .int 0])), c_A x1 c1 1024 zf, c_A x2 c2 256 zf, c_A x3 c3 9 zf, c_A x4 c4 9 zf] H := hP
  have hD : va_D A [(x0, .inr (3, [.ref x1, .ref x2, .ref x3, .ref x4, .int 0, .int 0, .int 0, .int 0, .int 0, .int 0, .int 0, .int 0, .int 0])), c_A x1 c1 1024 zf, c_A x2 c2 256 zf, c_A x3 c3 9 zf, c_A x4 c4 9 zf] := hD
  refine lv_aload_n hx hb d_X_init_38 rfl (lv_at hl 0 rfl) ?_
  refine va_get (D := (dC, dI)) (ci := 3) (v := .ref x3) (C := R_X) (T := F_X) (N := 13) hx hb htB i_X hown hK hP 0 rfl rfl 2 (by decide) (htB _ mw_463) (fun _ h9 => h9) rfl d_X_init_39 ?_
  refine lv_iconst (v := 3) hx hb d_X_init_42 (by decide) ?_
  refine lv_sipush (v := 255) hx hb d_X_init_43 (by decide) ?_
  refine iast_at hx hb hK hP hD hS 3 2 rfl rfl (show ¬ ((3 : Int32) < 0 ∨ 9 ≤ (3 : Int32).toNatClampNeg) from by decide) (show (3 : Int32).toNatClampNeg = 3 from by decide) d_X_init_46 (fun H locs hP hD hS => ?_)
  have hP : va_P (dC, dI) classes [(x0, .inr (3, [.ref x1, .ref x2, .ref x3, .ref x4, .int 0, .int 0, .int 0, .int 0, .int 0, .int 0, .int 0, .int 0, .int 0])), c_A x1 c1 1024 zf, c_A x2 c2 256 zf, c_A x3 c3 9 (upd zf 3 255), c_A x4 c4 9 zf] H := hP
  have hD : va_D A [(x0, .inr (3, [.ref x1, .ref x2, .ref x3, .ref x4, .int 0, .int 0, .int 0, .int 0, .int 0, .int 0, .int 0, .int 0, .int 0])), c_A x1 c1 1024 zf, c_A x2 c2 256 zf, c_A x3 c3 9 (upd zf 3 255), c_A x4 c4 9 zf] := hD
  refine lv_aload_n hx hb d_X_init_47 rfl (lv_at hl 0 rfl) ?_
  refine va_get (D := (dC, dI)) (ci := 3) (v := .ref x3) (C := R_X) (T := F_X) (N := 13) hx hb htB i_X hown hK hP 0 rfl rfl 2 (by decide) (htB _ mw_463) (fun _ h9 => h9) rfl d_X_init_48 ?_
  refine lv_iconst (v := 4) hx hb d_X_init_51 (by decide) ?_
  refine lv_sipush (v := 512) hx hb d_X_init_52 (by decide) ?_
  refine iast_at hx hb hK hP hD hS 3 2 rfl rfl (show ¬ ((4 : Int32) < 0 ∨ 9 ≤ (4 : Int32).toNatClampNeg) from by decide) (show (4 : Int32).toNatClampNeg = 4 from by decide) d_X_init_55 (fun H locs hP hD hS => ?_)
  have hP : va_P (dC, dI) classes [(x0, .inr (3, [.ref x1, .ref x2, .ref x3, .ref x4, .int 0, .int 0, .int 0, .int 0, .int 0, .int 0, .int 0, .int 0, .int 0])), c_A x1 c1 1024 zf, c_A x2 c2 256 zf, c_A x3 c3 9 rf, c_A x4 c4 9 zf] H := hP
  have hD : va_D A [(x0, .inr (3, [.ref x1, .ref x2, .ref x3, .ref x4, .int 0, .int 0, .int 0, .int 0, .int 0, .int 0, .int 0, .int 0, .int 0])), c_A x1 c1 1024 zf, c_A x2 c2 256 zf, c_A x3 c3 9 rf, c_A x4 c4 9 zf] := hD
  have hP : va_P (dC, dI) classes [c_X x0 x1 x2 x3 x4 zf, c_A x1 c1 1024 zf, c_A x2 c2 256 zf, c_A x3 c3 9 rf, c_A x4 c4 9 zf] H := hP
  have hD : va_D A [c_X x0 x1 x2 x3 x4 zf, c_A x1 c1 1024 zf, c_A x2 c2 256 zf, c_A x3 c3 9 rf, c_A x4 c4 9 zf] := hD
  exact W.vret hx hb hr (fun t ht hW => ⟨⟨(x1, x2, x3, x4, c1, c2, c3, c4), rfl, trivial, by rw [ht]; exact hP, va_K.moved hW.alike hK, hD⟩, hS.F ht⟩) hS.2.2 d_X_init_56
