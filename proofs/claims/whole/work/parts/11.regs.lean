def f_P_flags  (r : Nat → Int32) : Int32 :=
  ((((((128 : Int32) * (r 5)) + ((64 : Int32) * (r 6))) + (48 : Int32)) + ((2 : Int32) * (r 7))) + (r 8))
abbrev Q_P_flags (dC : Nat → ClassId) (dI : Nat → Nat → Nat) (q0 : Nat) (q1 : Nat)  (r : Nat → Int32) (A : Nat → Prop) : Array Value → State → Outcome → State → Prop := va_Qi (fun (r9 : Int32) (_ : Unit) => r9 = (f_P_flags r)) (fun _ t => atW (dC, dI) classes A [c_P q0 q1 r] [] t) A
set_option maxHeartbeats 4000000 in
set_option maxRecDepth 100000 in
theorem c_P_flags (l : Launch) (dC : Nat → ClassId) (dI : Nat → Nat → Nat) (z0 : Nat) (q0 : Nat) (q1 : Nat) (sz : Nat)  (r : Nat → Int32)  : Met l y_P_flags w_P_flags ({ frames := 0, cells := 0, slots := 0, locals := 0 }) (PcX (dC, dI) classes z0 [c_P q0 q1 r] [] sz [.ref q0]) (Q_P_flags dC dI q0 q1 r (va_A [c_P q0 q1 r] sz)) 0 0 (va_A [c_P q0 q1 r] sz) := by
  refine hdX (cc := b_P_flags) (maxL := 1) (ret := (some .int)) (C := R_P) (Qc := (Q_P_flags dC dI q0 q1 r)) (by decide) rfl ?_
  intro p e s m below meth c A H hx hb hr hlocks hml hown hin htB hP hK hD hA hA0 hE hS
  have hl := lv_entry ([.ref q0]) (n := 1) (Nat.le_of_ble_eq_true rfl)
  rw [lg_entry_eq]
  generalize (lg_sl ([.ref q0]) ++ List.replicate (1 - (lg_sl ([.ref q0])).length) Slot.unset).toArray = ls at hl ⊢
  have hl : lv_has ls 1 [(0, .ref q0)] := hl
  refine lv_sipush (v := 128) hx hb d_P_flags_0 (by decide) ?_
  refine lv_aload_n hx hb d_P_flags_3 rfl (lv_at hl 0 rfl) ?_
  refine va_get (D := (dC, dI)) (ci := 1) (v := .int (r 5)) (C := R_P) (T := F_P) (N := 13) hx hb htB i_P hown hK hP 0 rfl rfl 6 (by decide) (htB _ mw_65) (fun _ h9 => h9) rfl d_P_flags_4 ?_
  refine lv_imul hx hb d_P_flags_7 ?_
  refine lv_bipush (v := 64) hx hb d_P_flags_8 (by decide) ?_
  refine lv_aload_n hx hb d_P_flags_10 rfl (lv_at hl 0 rfl) ?_
  refine va_get (D := (dC, dI)) (ci := 1) (v := .int (r 6)) (C := R_P) (T := F_P) (N := 13) hx hb htB i_P hown hK hP 0 rfl rfl 7 (by decide) (htB _ mw_66) (fun _ h9 => h9) rfl d_P_flags_11 ?_
  refine lv_imul hx hb d_P_flags_14 ?_
  refine lv_iadd hx hb d_P_flags_15 ?_
  refine lv_bipush (v := 48) hx hb d_P_flags_16 (by decide) ?_
  refine lv_iadd hx hb d_P_flags_18 ?_
  refine lv_iconst (v := 2) hx hb d_P_flags_19 (by decide) ?_
  refine lv_aload_n hx hb d_P_flags_20 rfl (lv_at hl 0 rfl) ?_
  refine va_get (D := (dC, dI)) (ci := 1) (v := .int (r 7)) (C := R_P) (T := F_P) (N := 13) hx hb htB i_P hown hK hP 0 rfl rfl 8 (by decide) (htB _ mw_67) (fun _ h9 => h9) rfl d_P_flags_21 ?_
  refine lv_imul hx hb d_P_flags_24 ?_
  refine lv_iadd hx hb d_P_flags_25 ?_
  refine lv_aload_n hx hb d_P_flags_26 rfl (lv_at hl 0 rfl) ?_
  refine va_get (D := (dC, dI)) (ci := 1) (v := .int (r 8)) (C := R_P) (T := F_P) (N := 13) hx hb htB i_P hown hK hP 0 rfl rfl 9 (by decide) (htB _ mw_68) (fun _ h9 => h9) rfl d_P_flags_27 ?_
  refine lv_iadd hx hb d_P_flags_30 ?_
  have hf : f_P_flags r = ((((((128 : Int32) * (r 5)) + ((64 : Int32) * (r 6))) + (48 : Int32)) + ((2 : Int32) * (r 7))) + (r 8)) := by rw [f_P_flags]
  exact W.iret (v := ((((((128 : Int32) * (r 5)) + ((64 : Int32) * (r 6))) + (48 : Int32)) + ((2 : Int32) * (r 7))) + (r 8))) hx hb hr (fun t ht hW => ⟨⟨((((((128 : Int32) * (r 5)) + ((64 : Int32) * (r 6))) + (48 : Int32)) + ((2 : Int32) * (r 7))) + (r 8)), (), rfl, hf.symm, by exact ⟨by rw [ht]; exact hP, va_K.moved hW.alike hK, hD⟩⟩, hS.F ht⟩) hS.2.2 d_P_flags_31

def f_P_setFlags (p1 : Int32) (r : Nat → Int32) : (Nat → Int32) :=
  (upd (upd (upd (upd r 5 ((p1 >>> ((7 : Int32) &&& 31)) &&& (1 : Int32))) 6 ((p1 >>> ((6 : Int32) &&& 31)) &&& (1 : Int32))) 7 ((p1 >>> ((1 : Int32) &&& 31)) &&& (1 : Int32))) 8 (p1 &&& (1 : Int32)))
abbrev Q_P_setFlags (dC : Nat → ClassId) (dI : Nat → Nat → Nat) (q0 : Nat) (q1 : Nat) (p1 : Int32) (r : Nat → Int32) (A : Nat → Prop) : Array Value → State → Outcome → State → Prop := va_Qv (fun (_ : Unit) => True) (fun _ t => atW (dC, dI) classes A [c_P q0 q1 (f_P_setFlags p1 r)] [] t) A
set_option maxHeartbeats 4000000 in
set_option maxRecDepth 100000 in
theorem c_P_setFlags (l : Launch) (dC : Nat → ClassId) (dI : Nat → Nat → Nat) (z0 : Nat) (q0 : Nat) (q1 : Nat) (sz : Nat) (p1 : Int32) (r : Nat → Int32)  : Met l y_P_setFlags w_P_setFlags ({ frames := 0, cells := 0, slots := 0, locals := 0 }) (PcX (dC, dI) classes z0 [c_P q0 q1 r] [] sz [.ref q0, .int p1]) (Q_P_setFlags dC dI q0 q1 p1 r (va_A [c_P q0 q1 r] sz)) 0 0 (va_A [c_P q0 q1 r] sz) := by
  refine hdX (cc := b_P_setFlags) (maxL := 2) (ret := none) (C := R_P) (Qc := (Q_P_setFlags dC dI q0 q1 p1 r)) (by decide) rfl ?_
  intro p e s m below meth c A H hx hb hr hlocks hml hown hin htB hP hK hD hA hA0 hE hS
  have hl := lv_entry ([.ref q0, .int p1]) (n := 2) (Nat.le_of_ble_eq_true rfl)
  rw [lg_entry_eq]
  generalize (lg_sl ([.ref q0, .int p1]) ++ List.replicate (2 - (lg_sl ([.ref q0, .int p1])).length) Slot.unset).toArray = ls at hl ⊢
  have hl : lv_has ls 2 [(0, .ref q0), (1, .int p1)] := hl
  refine lv_aload_n hx hb d_P_setFlags_0 rfl (lv_at hl 0 rfl) ?_
  refine lv_iload_n hx hb d_P_setFlags_1 rfl (lv_at hl 1 rfl) ?_
  refine lv_bipush (v := 7) hx hb d_P_setFlags_2 (by decide) ?_
  refine lv_ishr hx hb d_P_setFlags_4 ?_
  refine lv_iconst (v := 1) hx hb d_P_setFlags_5 (by decide) ?_
  refine lv_iand hx hb d_P_setFlags_6 ?_
  refine va_put (D := (dC, dI)) (ci := 1) (v := .int ((p1 >>> ((7 : Int32) &&& 31)) &&& (1 : Int32))) (ty := .int) (C := R_P) (T := F_P) (N := 13) hx hb htB i_P t_P t_P_ok n_P hown hK hP hD hS 0 rfl rfl 6 (by decide) (htB _ mw_65) (fun _ h9 => h9) rfl (by decide +kernel) rfl rfl (Nat.le_of_ble_eq_true rfl) d_P_setFlags_7 (fun H locs hP hD hS => ?_)
  have hP : va_P (dC, dI) classes [c_P q0 q1 (upd r 5 ((p1 >>> ((7 : Int32) &&& 31)) &&& (1 : Int32)))] H := hP
  have hD : va_D A [c_P q0 q1 (upd r 5 ((p1 >>> ((7 : Int32) &&& 31)) &&& (1 : Int32)))] := hD
  refine lv_aload_n hx hb d_P_setFlags_10 rfl (lv_at hl 0 rfl) ?_
  refine lv_iload_n hx hb d_P_setFlags_11 rfl (lv_at hl 1 rfl) ?_
  refine lv_bipush (v := 6) hx hb d_P_setFlags_12 (by decide) ?_
  refine lv_ishr hx hb d_P_setFlags_14 ?_
  refine lv_iconst (v := 1) hx hb d_P_setFlags_15 (by decide) ?_
  refine lv_iand hx hb d_P_setFlags_16 ?_
  refine va_put (D := (dC, dI)) (ci := 1) (v := .int ((p1 >>> ((6 : Int32) &&& 31)) &&& (1 : Int32))) (ty := .int) (C := R_P) (T := F_P) (N := 13) hx hb htB i_P t_P t_P_ok n_P hown hK hP hD hS 0 rfl rfl 7 (by decide) (htB _ mw_66) (fun _ h9 => h9) rfl (by decide +kernel) rfl rfl (Nat.le_of_ble_eq_true rfl) d_P_setFlags_17 (fun H locs hP hD hS => ?_)
  have hP : va_P (dC, dI) classes [c_P q0 q1 (upd (upd r 5 ((p1 >>> ((7 : Int32) &&& 31)) &&& (1 : Int32))) 6 ((p1 >>> ((6 : Int32) &&& 31)) &&& (1 : Int32)))] H := hP
  have hD : va_D A [c_P q0 q1 (upd (upd r 5 ((p1 >>> ((7 : Int32) &&& 31)) &&& (1 : Int32))) 6 ((p1 >>> ((6 : Int32) &&& 31)) &&& (1 : Int32)))] := hD
  refine lv_aload_n hx hb d_P_setFlags_20 rfl (lv_at hl 0 rfl) ?_
  refine lv_iload_n hx hb d_P_setFlags_21 rfl (lv_at hl 1 rfl) ?_
  refine lv_iconst (v := 1) hx hb d_P_setFlags_22 (by decide) ?_
  refine lv_ishr hx hb d_P_setFlags_23 ?_
  refine lv_iconst (v := 1) hx hb d_P_setFlags_24 (by decide) ?_
  refine lv_iand hx hb d_P_setFlags_25 ?_
  refine va_put (D := (dC, dI)) (ci := 1) (v := .int ((p1 >>> ((1 : Int32) &&& 31)) &&& (1 : Int32))) (ty := .int) (C := R_P) (T := F_P) (N := 13) hx hb htB i_P t_P t_P_ok n_P hown hK hP hD hS 0 rfl rfl 8 (by decide) (htB _ mw_67) (fun _ h9 => h9) rfl (by decide +kernel) rfl rfl (Nat.le_of_ble_eq_true rfl) d_P_setFlags_26 (fun H locs hP hD hS => ?_)
  have hP : va_P (dC, dI) classes [c_P q0 q1 (upd (upd (upd r 5 ((p1 >>> ((7 : Int32) &&& 31)) &&& (1 : Int32))) 6 ((p1 >>> ((6 : Int32) &&& 31)) &&& (1 : Int32))) 7 ((p1 >>> ((1 : Int32) &&& 31)) &&& (1 : Int32)))] H := hP
  have hD : va_D A [c_P q0 q1 (upd (upd (upd r 5 ((p1 >>> ((7 : Int32) &&& 31)) &&& (1 : Int32))) 6 ((p1 >>> ((6 : Int32) &&& 31)) &&& (1 : Int32))) 7 ((p1 >>> ((1 : Int32) &&& 31)) &&& (1 : Int32)))] := hD
  refine lv_aload_n hx hb d_P_setFlags_29 rfl (lv_at hl 0 rfl) ?_
  refine lv_iload_n hx hb d_P_setFlags_30 rfl (lv_at hl 1 rfl) ?_
  refine lv_iconst (v := 1) hx hb d_P_setFlags_31 (by decide) ?_
  refine lv_iand hx hb d_P_setFlags_32 ?_
  refine va_put (D := (dC, dI)) (ci := 1) (v := .int (p1 &&& (1 : Int32))) (ty := .int) (C := R_P) (T := F_P) (N := 13) hx hb htB i_P t_P t_P_ok n_P hown hK hP hD hS 0 rfl rfl 9 (by decide) (htB _ mw_68) (fun _ h9 => h9) rfl (by decide +kernel) rfl rfl (Nat.le_of_ble_eq_true rfl) d_P_setFlags_33 (fun H locs hP hD hS => ?_)
  have hP : va_P (dC, dI) classes [c_P q0 q1 (upd (upd (upd (upd r 5 ((p1 >>> ((7 : Int32) &&& 31)) &&& (1 : Int32))) 6 ((p1 >>> ((6 : Int32) &&& 31)) &&& (1 : Int32))) 7 ((p1 >>> ((1 : Int32) &&& 31)) &&& (1 : Int32))) 8 (p1 &&& (1 : Int32)))] H := hP
  have hD : va_D A [c_P q0 q1 (upd (upd (upd (upd r 5 ((p1 >>> ((7 : Int32) &&& 31)) &&& (1 : Int32))) 6 ((p1 >>> ((6 : Int32) &&& 31)) &&& (1 : Int32))) 7 ((p1 >>> ((1 : Int32) &&& 31)) &&& (1 : Int32))) 8 (p1 &&& (1 : Int32)))] := hD
  have hf : f_P_setFlags p1 r = (upd (upd (upd (upd r 5 ((p1 >>> ((7 : Int32) &&& 31)) &&& (1 : Int32))) 6 ((p1 >>> ((6 : Int32) &&& 31)) &&& (1 : Int32))) 7 ((p1 >>> ((1 : Int32) &&& 31)) &&& (1 : Int32))) 8 (p1 &&& (1 : Int32))) := by rw [f_P_setFlags]
  exact W.vret hx hb hr (fun t ht hW => ⟨⟨(), rfl, trivial, by rw [hf]; exact ⟨by rw [ht]; exact hP, va_K.moved hW.alike hK, hD⟩⟩, hS.F ht⟩) hS.2.2 d_P_setFlags_36

def f_P_register (p1 : Int32) (r : Nat → Int32) : Int32 :=
  if p1 = (0 : Int32) then
    (r 0)
  else
    if p1 = (1 : Int32) then
      (r 1)
    else
      if p1 = (2 : Int32) then
        (r 2)
      else
        if p1 = (3 : Int32) then
          (r 3)
        else
          if p1 = (4 : Int32) then
            (r 4)
          else
            (f_P_flags r)
abbrev Q_P_register (dC : Nat → ClassId) (dI : Nat → Nat → Nat) (q0 : Nat) (q1 : Nat) (p1 : Int32) (r : Nat → Int32) (A : Nat → Prop) : Array Value → State → Outcome → State → Prop := va_Qi (fun (r9 : Int32) (_ : Unit) => r9 = (f_P_register p1 r)) (fun _ t => atW (dC, dI) classes A [c_P q0 q1 r] [] t) A
set_option maxHeartbeats 4000000 in
set_option maxRecDepth 100000 in
theorem c_P_register (l : Launch) (dC : Nat → ClassId) (dI : Nat → Nat → Nat) (z0 : Nat) (q0 : Nat) (q1 : Nat) (sz : Nat) (p1 : Int32) (r : Nat → Int32)  : Met l y_P_register w_P_register ({ frames := 1, cells := 0, slots := 0, locals := 20 }) (PcX (dC, dI) classes z0 [c_P q0 q1 r] [] sz [.ref q0, .int p1]) (Q_P_register dC dI q0 q1 p1 r (va_A [c_P q0 q1 r] sz)) 0 0 (va_A [c_P q0 q1 r] sz) := by
  refine hdX (cc := b_P_register) (maxL := 2) (ret := (some .int)) (C := R_P) (Qc := (Q_P_register dC dI q0 q1 p1 r)) (by decide) rfl ?_
  intro p e s m below meth c A H hx hb hr hlocks hml hown hin htB hP hK hD hA hA0 hE hS
  have hl := lv_entry ([.ref q0, .int p1]) (n := 2) (Nat.le_of_ble_eq_true rfl)
  rw [lg_entry_eq]
  generalize (lg_sl ([.ref q0, .int p1]) ++ List.replicate (2 - (lg_sl ([.ref q0, .int p1])).length) Slot.unset).toArray = ls at hl ⊢
  have hl : lv_has ls 2 [(0, .ref q0), (1, .int p1)] := hl
  refine lv_iload_n hx hb d_P_register_0 rfl (lv_at hl 1 rfl) ?_
  by_cases c_1 : p1 = (0 : Int32)
  · refine lv_tableIn (tgt := 36) hx hb d_P_register_1 (by rw [c_1]; decide) (by rw [c_1]; decide) (by rw [c_1]; rfl) (by decide) ?_
    refine lv_aload_n hx hb d_P_register_36 rfl (lv_at hl 0 rfl) ?_
    refine va_get (D := (dC, dI)) (ci := 1) (v := .int (r 0)) (C := R_P) (T := F_P) (N := 13) hx hb htB i_P hown hK hP 0 rfl rfl 1 (by decide) (htB _ mw_59) (fun _ h9 => h9) rfl d_P_register_37 ?_
    have hf : f_P_register p1 r = (r 0) := by rw [f_P_register, if_pos c_1]
    exact W.iret (v := (r 0)) hx hb hr (fun t ht hW => ⟨⟨(r 0), (), rfl, hf.symm, by exact ⟨by rw [ht]; exact hP, va_K.moved hW.alike hK, hD⟩⟩, hS.F ht⟩) hS.2.2 d_P_register_40
  · by_cases c_2 : p1 = (1 : Int32)
    · refine lv_tableIn (tgt := 41) hx hb d_P_register_1 (by rw [c_2]; decide) (by rw [c_2]; decide) (by rw [c_2]; rfl) (by decide) ?_
      refine lv_aload_n hx hb d_P_register_41 rfl (lv_at hl 0 rfl) ?_
      refine va_get (D := (dC, dI)) (ci := 1) (v := .int (r 1)) (C := R_P) (T := F_P) (N := 13) hx hb htB i_P hown hK hP 0 rfl rfl 2 (by decide) (htB _ mw_60) (fun _ h9 => h9) rfl d_P_register_42 ?_
      have hf : f_P_register p1 r = (r 1) := by rw [f_P_register, if_neg c_1, if_pos c_2]
      exact W.iret (v := (r 1)) hx hb hr (fun t ht hW => ⟨⟨(r 1), (), rfl, hf.symm, by exact ⟨by rw [ht]; exact hP, va_K.moved hW.alike hK, hD⟩⟩, hS.F ht⟩) hS.2.2 d_P_register_45
    · by_cases c_3 : p1 = (2 : Int32)
      · refine lv_tableIn (tgt := 46) hx hb d_P_register_1 (by rw [c_3]; decide) (by rw [c_3]; decide) (by rw [c_3]; rfl) (by decide) ?_
        refine lv_aload_n hx hb d_P_register_46 rfl (lv_at hl 0 rfl) ?_
        refine va_get (D := (dC, dI)) (ci := 1) (v := .int (r 2)) (C := R_P) (T := F_P) (N := 13) hx hb htB i_P hown hK hP 0 rfl rfl 3 (by decide) (htB _ mw_61) (fun _ h9 => h9) rfl d_P_register_47 ?_
        have hf : f_P_register p1 r = (r 2) := by rw [f_P_register, if_neg c_1, if_neg c_2, if_pos c_3]
        exact W.iret (v := (r 2)) hx hb hr (fun t ht hW => ⟨⟨(r 2), (), rfl, hf.symm, by exact ⟨by rw [ht]; exact hP, va_K.moved hW.alike hK, hD⟩⟩, hS.F ht⟩) hS.2.2 d_P_register_50
      · by_cases c_4 : p1 = (3 : Int32)
        · refine lv_tableIn (tgt := 51) hx hb d_P_register_1 (by rw [c_4]; decide) (by rw [c_4]; decide) (by rw [c_4]; rfl) (by decide) ?_
          refine lv_aload_n hx hb d_P_register_51 rfl (lv_at hl 0 rfl) ?_
          refine va_get (D := (dC, dI)) (ci := 1) (v := .int (r 3)) (C := R_P) (T := F_P) (N := 13) hx hb htB i_P hown hK hP 0 rfl rfl 4 (by decide) (htB _ mw_62) (fun _ h9 => h9) rfl d_P_register_52 ?_
          have hf : f_P_register p1 r = (r 3) := by rw [f_P_register, if_neg c_1, if_neg c_2, if_neg c_3, if_pos c_4]
          exact W.iret (v := (r 3)) hx hb hr (fun t ht hW => ⟨⟨(r 3), (), rfl, hf.symm, by exact ⟨by rw [ht]; exact hP, va_K.moved hW.alike hK, hD⟩⟩, hS.F ht⟩) hS.2.2 d_P_register_55
        · by_cases c_5 : p1 = (4 : Int32)
          · refine lv_tableIn (tgt := 56) hx hb d_P_register_1 (by rw [c_5]; decide) (by rw [c_5]; decide) (by rw [c_5]; rfl) (by decide) ?_
            refine lv_aload_n hx hb d_P_register_56 rfl (lv_at hl 0 rfl) ?_
            refine va_get (D := (dC, dI)) (ci := 1) (v := .int (r 4)) (C := R_P) (T := F_P) (N := 13) hx hb htB i_P hown hK hP 0 rfl rfl 5 (by decide) (htB _ mw_63) (fun _ h9 => h9) rfl d_P_register_57 ?_
            have hf : f_P_register p1 r = (r 4) := by rw [f_P_register, if_neg c_1, if_neg c_2, if_neg c_3, if_neg c_4, if_pos c_5]
            exact W.iret (v := (r 4)) hx hb hr (fun t ht hW => ⟨⟨(r 4), (), rfl, hf.symm, by exact ⟨by rw [ht]; exact hP, va_K.moved hW.alike hK, hD⟩⟩, hS.F ht⟩) hS.2.2 d_P_register_60
          · refine lv_tableOut (tgt := 61) hx hb d_P_register_1 (by have g_0 := lv_neT c_1 (show (0 : Int32).toInt = 0 from by decide); have g_1 := lv_neT c_2 (show (1 : Int32).toInt = 1 from by decide); have g_2 := lv_neT c_3 (show (2 : Int32).toInt = 2 from by decide); have g_3 := lv_neT c_4 (show (3 : Int32).toInt = 3 from by decide); have g_4 := lv_neT c_5 (show (4 : Int32).toInt = 4 from by decide); omega) (by decide) ?_
            refine lv_aload_n hx hb d_P_register_61 rfl (lv_at hl 0 rfl) ?_
            have hPc := hP.sub (ws' := [c_P q0 q1 r]) [0] rfl
            have hDc := hD.sub (ws' := [c_P q0 q1 r]) [0] (by decide) rfl
            have hKc := hK.sub (tys' := []) [] rfl
            have hFc := va_free (wc := [c_P q0 q1 r]) hD hS hA [0] rfl
            refine va_calli (va_runV (As := []) (rest := []) ⟨hx, hb, hml, hown, htB⟩ (c_P_flags l dC dI z0 q0 q1 H.size r) (cwV 0 htB (gd_V mw_224 mw_226 sw_P_flags mw_2 mw_227) rfl rfl rfl (by decide +kernel) ⟨Nat.le_of_ble_eq_true rfl, Nat.le_of_ble_eq_true rfl⟩) (pcx_V (va_recv hKc hPc (ci := 1) (q0 := 0) rfl rfl) hPc hKc hDc hA0 hE hS) rfl rfl hl.1 rfl (lv_room (Nat.le_of_ble_eq_true rfl)) d_P_register_62 ⟨Nat.zero_le _, Nat.zero_le _⟩) hS (fun q _ h => hFc q h) hFc (fun r9 u t H1 locs ht hvm hw hB hz1 hk1 hS => ?_)
            subst hw
            obtain ⟨hP1, hK1, hD1⟩ := hB
            rw [ht] at hP1
            obtain ⟨hP, hD⟩ := va_join (wr := []) (w1 := [c_P q0 q1 r]) hP hD [0] [] rfl rfl (by decide) (by decide) hk1 hFc hP1 hD1
            generalize H1 = H at hP hS ⊢
            have hP : va_P (dC, dI) classes [c_P q0 q1 r] H := hP.sub [0] rfl
            have hD : va_D A [c_P q0 q1 r] := hD.sub [0] (by decide) rfl
            have hf : f_P_register p1 r = (f_P_flags r) := by rw [f_P_register, if_neg c_1, if_neg c_2, if_neg c_3, if_neg c_4, if_neg c_5]
            exact W.iret (v := (f_P_flags r)) hx hb hr (fun t ht hW => ⟨⟨(f_P_flags r), (), rfl, hf.symm, by exact ⟨by rw [ht]; exact hP, va_K.moved hW.alike hK, hD⟩⟩, hS.F ht⟩) hS.2.2 d_P_register_65

def f_P_setRegister (p1 : Int32) (p2 : Int32) (r : Nat → Int32) : (Nat → Int32) :=
  if p1 = (0 : Int32) then
    (upd r 0 p2)
  else
    if p1 = (1 : Int32) then
      (upd r 1 p2)
    else
      if p1 = (2 : Int32) then
        (upd r 2 p2)
      else
        if p1 = (3 : Int32) then
          (upd r 3 p2)
        else
          if p1 = (4 : Int32) then
            (upd r 4 p2)
          else
            (f_P_setFlags p2 r)
abbrev Q_P_setRegister (dC : Nat → ClassId) (dI : Nat → Nat → Nat) (q0 : Nat) (q1 : Nat) (p1 : Int32) (p2 : Int32) (r : Nat → Int32) (A : Nat → Prop) : Array Value → State → Outcome → State → Prop := va_Qv (fun (_ : Unit) => True) (fun _ t => atW (dC, dI) classes A [c_P q0 q1 (f_P_setRegister p1 p2 r)] [] t) A
set_option maxHeartbeats 4000000 in
set_option maxRecDepth 100000 in
theorem c_P_setRegister (l : Launch) (dC : Nat → ClassId) (dI : Nat → Nat → Nat) (z0 : Nat) (q0 : Nat) (q1 : Nat) (sz : Nat) (p1 : Int32) (p2 : Int32) (r : Nat → Int32)  : Met l y_P_setRegister w_P_setRegister ({ frames := 1, cells := 0, slots := 0, locals := 21 }) (PcX (dC, dI) classes z0 [c_P q0 q1 r] [] sz [.ref q0, .int p1, .int p2]) (Q_P_setRegister dC dI q0 q1 p1 p2 r (va_A [c_P q0 q1 r] sz)) 0 0 (va_A [c_P q0 q1 r] sz) := by
  refine hdX (cc := b_P_setRegister) (maxL := 3) (ret := none) (C := R_P) (Qc := (Q_P_setRegister dC dI q0 q1 p1 p2 r)) (by decide) rfl ?_
  intro p e s m below meth c A H hx hb hr hlocks hml hown hin htB hP hK hD hA hA0 hE hS
  have hl := lv_entry ([.ref q0, .int p1, .int p2]) (n := 3) (Nat.le_of_ble_eq_true rfl)
  rw [lg_entry_eq]
  generalize (lg_sl ([.ref q0, .int p1, .int p2]) ++ List.replicate (3 - (lg_sl ([.ref q0, .int p1, .int p2])).length) Slot.unset).toArray = ls at hl ⊢
  have hl : lv_has ls 3 [(0, .ref q0), (1, .int p1), (2, .int p2)] := hl
  refine lv_iload_n hx hb d_P_setRegister_0 rfl (lv_at hl 1 rfl) ?_
  by_cases c_1 : p1 = (0 : Int32)
  · refine lv_tableIn (tgt := 36) hx hb d_P_setRegister_1 (by rw [c_1]; decide) (by rw [c_1]; decide) (by rw [c_1]; rfl) (by decide) ?_
    refine lv_aload_n hx hb d_P_setRegister_36 rfl (lv_at hl 0 rfl) ?_
    refine lv_iload_n hx hb d_P_setRegister_37 rfl (lv_at hl 2 rfl) ?_
    refine va_put (D := (dC, dI)) (ci := 1) (v := .int p2) (ty := .int) (C := R_P) (T := F_P) (N := 13) hx hb htB i_P t_P t_P_ok n_P hown hK hP hD hS 0 rfl rfl 1 (by decide) (htB _ mw_59) (fun _ h9 => h9) rfl (by decide +kernel) rfl rfl (Nat.le_of_ble_eq_true rfl) d_P_setRegister_38 (fun H locs hP hD hS => ?_)
    have hP : va_P (dC, dI) classes [c_P q0 q1 (upd r 0 p2)] H := hP
    have hD : va_D A [c_P q0 q1 (upd r 0 p2)] := hD
    refine lv_goto (tgt := 81) hx hb d_P_setRegister_41 (by decide) ?_
    have hf : f_P_setRegister p1 p2 r = (upd r 0 p2) := by rw [f_P_setRegister, if_pos c_1]
    exact W.vret hx hb hr (fun t ht hW => ⟨⟨(), rfl, trivial, by rw [hf]; exact ⟨by rw [ht]; exact hP, va_K.moved hW.alike hK, hD⟩⟩, hS.F ht⟩) hS.2.2 d_P_setRegister_81
  · by_cases c_2 : p1 = (1 : Int32)
    · refine lv_tableIn (tgt := 44) hx hb d_P_setRegister_1 (by rw [c_2]; decide) (by rw [c_2]; decide) (by rw [c_2]; rfl) (by decide) ?_
      refine lv_aload_n hx hb d_P_setRegister_44 rfl (lv_at hl 0 rfl) ?_
      refine lv_iload_n hx hb d_P_setRegister_45 rfl (lv_at hl 2 rfl) ?_
      refine va_put (D := (dC, dI)) (ci := 1) (v := .int p2) (ty := .int) (C := R_P) (T := F_P) (N := 13) hx hb htB i_P t_P t_P_ok n_P hown hK hP hD hS 0 rfl rfl 2 (by decide) (htB _ mw_60) (fun _ h9 => h9) rfl (by decide +kernel) rfl rfl (Nat.le_of_ble_eq_true rfl) d_P_setRegister_46 (fun H locs hP hD hS => ?_)
      have hP : va_P (dC, dI) classes [c_P q0 q1 (upd r 1 p2)] H := hP
      have hD : va_D A [c_P q0 q1 (upd r 1 p2)] := hD
      refine lv_goto (tgt := 81) hx hb d_P_setRegister_49 (by decide) ?_
      have hf : f_P_setRegister p1 p2 r = (upd r 1 p2) := by rw [f_P_setRegister, if_neg c_1, if_pos c_2]
      exact W.vret hx hb hr (fun t ht hW => ⟨⟨(), rfl, trivial, by rw [hf]; exact ⟨by rw [ht]; exact hP, va_K.moved hW.alike hK, hD⟩⟩, hS.F ht⟩) hS.2.2 d_P_setRegister_81
    · by_cases c_3 : p1 = (2 : Int32)
      · refine lv_tableIn (tgt := 52) hx hb d_P_setRegister_1 (by rw [c_3]; decide) (by rw [c_3]; decide) (by rw [c_3]; rfl) (by decide) ?_
        refine lv_aload_n hx hb d_P_setRegister_52 rfl (lv_at hl 0 rfl) ?_
        refine lv_iload_n hx hb d_P_setRegister_53 rfl (lv_at hl 2 rfl) ?_
        refine va_put (D := (dC, dI)) (ci := 1) (v := .int p2) (ty := .int) (C := R_P) (T := F_P) (N := 13) hx hb htB i_P t_P t_P_ok n_P hown hK hP hD hS 0 rfl rfl 3 (by decide) (htB _ mw_61) (fun _ h9 => h9) rfl (by decide +kernel) rfl rfl (Nat.le_of_ble_eq_true rfl) d_P_setRegister_54 (fun H locs hP hD hS => ?_)
        have hP : va_P (dC, dI) classes [c_P q0 q1 (upd r 2 p2)] H := hP
        have hD : va_D A [c_P q0 q1 (upd r 2 p2)] := hD
        refine lv_goto (tgt := 81) hx hb d_P_setRegister_57 (by decide) ?_
        have hf : f_P_setRegister p1 p2 r = (upd r 2 p2) := by rw [f_P_setRegister, if_neg c_1, if_neg c_2, if_pos c_3]
        exact W.vret hx hb hr (fun t ht hW => ⟨⟨(), rfl, trivial, by rw [hf]; exact ⟨by rw [ht]; exact hP, va_K.moved hW.alike hK, hD⟩⟩, hS.F ht⟩) hS.2.2 d_P_setRegister_81
      · by_cases c_4 : p1 = (3 : Int32)
        · refine lv_tableIn (tgt := 60) hx hb d_P_setRegister_1 (by rw [c_4]; decide) (by rw [c_4]; decide) (by rw [c_4]; rfl) (by decide) ?_
          refine lv_aload_n hx hb d_P_setRegister_60 rfl (lv_at hl 0 rfl) ?_
          refine lv_iload_n hx hb d_P_setRegister_61 rfl (lv_at hl 2 rfl) ?_
          refine va_put (D := (dC, dI)) (ci := 1) (v := .int p2) (ty := .int) (C := R_P) (T := F_P) (N := 13) hx hb htB i_P t_P t_P_ok n_P hown hK hP hD hS 0 rfl rfl 4 (by decide) (htB _ mw_62) (fun _ h9 => h9) rfl (by decide +kernel) rfl rfl (Nat.le_of_ble_eq_true rfl) d_P_setRegister_62 (fun H locs hP hD hS => ?_)
          have hP : va_P (dC, dI) classes [c_P q0 q1 (upd r 3 p2)] H := hP
          have hD : va_D A [c_P q0 q1 (upd r 3 p2)] := hD
          refine lv_goto (tgt := 81) hx hb d_P_setRegister_65 (by decide) ?_
          have hf : f_P_setRegister p1 p2 r = (upd r 3 p2) := by rw [f_P_setRegister, if_neg c_1, if_neg c_2, if_neg c_3, if_pos c_4]
          exact W.vret hx hb hr (fun t ht hW => ⟨⟨(), rfl, trivial, by rw [hf]; exact ⟨by rw [ht]; exact hP, va_K.moved hW.alike hK, hD⟩⟩, hS.F ht⟩) hS.2.2 d_P_setRegister_81
        · by_cases c_5 : p1 = (4 : Int32)
          · refine lv_tableIn (tgt := 68) hx hb d_P_setRegister_1 (by rw [c_5]; decide) (by rw [c_5]; decide) (by rw [c_5]; rfl) (by decide) ?_
            refine lv_aload_n hx hb d_P_setRegister_68 rfl (lv_at hl 0 rfl) ?_
            refine lv_iload_n hx hb d_P_setRegister_69 rfl (lv_at hl 2 rfl) ?_
            refine va_put (D := (dC, dI)) (ci := 1) (v := .int p2) (ty := .int) (C := R_P) (T := F_P) (N := 13) hx hb htB i_P t_P t_P_ok n_P hown hK hP hD hS 0 rfl rfl 5 (by decide) (htB _ mw_63) (fun _ h9 => h9) rfl (by decide +kernel) rfl rfl (Nat.le_of_ble_eq_true rfl) d_P_setRegister_70 (fun H locs hP hD hS => ?_)
            have hP : va_P (dC, dI) classes [c_P q0 q1 (upd r 4 p2)] H := hP
            have hD : va_D A [c_P q0 q1 (upd r 4 p2)] := hD
            refine lv_goto (tgt := 81) hx hb d_P_setRegister_73 (by decide) ?_
            have hf : f_P_setRegister p1 p2 r = (upd r 4 p2) := by rw [f_P_setRegister, if_neg c_1, if_neg c_2, if_neg c_3, if_neg c_4, if_pos c_5]
            exact W.vret hx hb hr (fun t ht hW => ⟨⟨(), rfl, trivial, by rw [hf]; exact ⟨by rw [ht]; exact hP, va_K.moved hW.alike hK, hD⟩⟩, hS.F ht⟩) hS.2.2 d_P_setRegister_81
          · refine lv_tableOut (tgt := 76) hx hb d_P_setRegister_1 (by have g_0 := lv_neT c_1 (show (0 : Int32).toInt = 0 from by decide); have g_1 := lv_neT c_2 (show (1 : Int32).toInt = 1 from by decide); have g_2 := lv_neT c_3 (show (2 : Int32).toInt = 2 from by decide); have g_3 := lv_neT c_4 (show (3 : Int32).toInt = 3 from by decide); have g_4 := lv_neT c_5 (show (4 : Int32).toInt = 4 from by decide); omega) (by decide) ?_
            refine lv_aload_n hx hb d_P_setRegister_76 rfl (lv_at hl 0 rfl) ?_
            refine lv_iload_n hx hb d_P_setRegister_77 rfl (lv_at hl 2 rfl) ?_
            have hPc := hP.sub (ws' := [c_P q0 q1 r]) [0] rfl
            have hDc := hD.sub (ws' := [c_P q0 q1 r]) [0] (by decide) rfl
            have hKc := hK.sub (tys' := []) [] rfl
            have hFc := va_free (wc := [c_P q0 q1 r]) hD hS hA [0] rfl
            refine va_callv (va_runV (As := [.int p2]) (rest := []) ⟨hx, hb, hml, hown, htB⟩ (c_P_setFlags l dC dI z0 q0 q1 H.size p2 r) (cwV 1 htB (gd_V mw_232 mw_234 sw_P_setFlags mw_2 mw_235) rfl rfl rfl (by decide +kernel) ⟨Nat.le_of_ble_eq_true rfl, Nat.le_of_ble_eq_true rfl⟩) (pcx_V (va_recv hKc hPc (ci := 1) (q0 := 0) rfl rfl) hPc hKc hDc hA0 hE hS) rfl rfl hl.1 rfl (lv_room (Nat.le_of_ble_eq_true rfl)) d_P_setRegister_78 ⟨Nat.zero_le _, Nat.zero_le _⟩) hS (fun q _ h => hFc q h) hFc (fun u t H1 locs ht hvm hw hB hz1 hk1 hS => ?_)
            obtain ⟨hP1, hK1, hD1⟩ := hB
            rw [ht] at hP1
            obtain ⟨hP, hD⟩ := va_join (wr := []) (w1 := [c_P q0 q1 (f_P_setFlags p2 r)]) hP hD [0] [] rfl rfl (by decide) (by decide) hk1 hFc hP1 hD1
            generalize H1 = H at hP hS ⊢
            have hP : va_P (dC, dI) classes [c_P q0 q1 (f_P_setFlags p2 r)] H := hP.sub [0] rfl
            have hD : va_D A [c_P q0 q1 (f_P_setFlags p2 r)] := hD.sub [0] (by decide) rfl
            have hf : f_P_setRegister p1 p2 r = (f_P_setFlags p2 r) := by rw [f_P_setRegister, if_neg c_1, if_neg c_2, if_neg c_3, if_neg c_4, if_neg c_5]
            exact W.vret hx hb hr (fun t ht hW => ⟨⟨(), rfl, trivial, by rw [hf]; exact ⟨by rw [ht]; exact hP, va_K.moved hW.alike hK, hD⟩⟩, hS.F ht⟩) hS.2.2 d_P_setRegister_81

def f_P_set (p1 : Int32) (r : Nat → Int32) : Int32 × (Nat → Int32) :=
  if p1 = (0 : Int32) then
    (p1, (upd (upd r 7 (1 : Int32)) 5 (p1 >>> ((7 : Int32) &&& 31))))
  else
    (p1, (upd (upd r 7 (0 : Int32)) 5 (p1 >>> ((7 : Int32) &&& 31))))
abbrev Q_P_set (dC : Nat → ClassId) (dI : Nat → Nat → Nat) (q0 : Nat) (q1 : Nat) (p1 : Int32) (r : Nat → Int32) (A : Nat → Prop) : Array Value → State → Outcome → State → Prop := va_Qi (fun (r9 : Int32) (_ : Unit) => r9 = (f_P_set p1 r).1) (fun _ t => atW (dC, dI) classes A [c_P q0 q1 ((f_P_set p1 r).2)] [] t) A
set_option maxHeartbeats 4000000 in
set_option maxRecDepth 100000 in
theorem c_P_set (l : Launch) (dC : Nat → ClassId) (dI : Nat → Nat → Nat) (z0 : Nat) (q0 : Nat) (q1 : Nat) (sz : Nat) (p1 : Int32) (r : Nat → Int32)  : Met l y_P_set w_P_set ({ frames := 0, cells := 0, slots := 0, locals := 0 }) (PcX (dC, dI) classes z0 [c_P q0 q1 r] [] sz [.ref q0, .int p1]) (Q_P_set dC dI q0 q1 p1 r (va_A [c_P q0 q1 r] sz)) 0 0 (va_A [c_P q0 q1 r] sz) := by
  refine hdX (cc := b_P_set) (maxL := 2) (ret := (some .int)) (C := R_P) (Qc := (Q_P_set dC dI q0 q1 p1 r)) (by decide) rfl ?_
  intro p e s m below meth c A H hx hb hr hlocks hml hown hin htB hP hK hD hA hA0 hE hS
  have hl := lv_entry ([.ref q0, .int p1]) (n := 2) (Nat.le_of_ble_eq_true rfl)
  rw [lg_entry_eq]
  generalize (lg_sl ([.ref q0, .int p1]) ++ List.replicate (2 - (lg_sl ([.ref q0, .int p1])).length) Slot.unset).toArray = ls at hl ⊢
  have hl : lv_has ls 2 [(0, .ref q0), (1, .int p1)] := hl
  refine lv_aload_n hx hb d_P_set_0 rfl (lv_at hl 0 rfl) ?_
  refine lv_iload_n hx hb d_P_set_1 rfl (lv_at hl 1 rfl) ?_
  refine lv_if_ne (tgt := 9) hx hb d_P_set_2 (by decide) (fun c_1 => ?_) (fun c_1 => ?_)
  · refine lv_iconst (v := 0) hx hb d_P_set_9 (by decide) ?_
    refine va_put (D := (dC, dI)) (ci := 1) (v := .int (0 : Int32)) (ty := .int) (C := R_P) (T := F_P) (N := 13) hx hb htB i_P t_P t_P_ok n_P hown hK hP hD hS 0 rfl rfl 8 (by decide) (htB _ mw_67) (fun _ h9 => h9) rfl (by decide +kernel) rfl rfl (Nat.le_of_ble_eq_true rfl) d_P_set_10 (fun H locs hP hD hS => ?_)
    have hP : va_P (dC, dI) classes [c_P q0 q1 (upd r 7 (0 : Int32))] H := hP
    have hD : va_D A [c_P q0 q1 (upd r 7 (0 : Int32))] := hD
    refine lv_aload_n hx hb d_P_set_13 rfl (lv_at hl 0 rfl) ?_
    refine lv_iload_n hx hb d_P_set_14 rfl (lv_at hl 1 rfl) ?_
    refine lv_bipush (v := 7) hx hb d_P_set_15 (by decide) ?_
    refine lv_ishr hx hb d_P_set_17 ?_
    refine va_put (D := (dC, dI)) (ci := 1) (v := .int (p1 >>> ((7 : Int32) &&& 31))) (ty := .int) (C := R_P) (T := F_P) (N := 13) hx hb htB i_P t_P t_P_ok n_P hown hK hP hD hS 0 rfl rfl 6 (by decide) (htB _ mw_65) (fun _ h9 => h9) rfl (by decide +kernel) rfl rfl (Nat.le_of_ble_eq_true rfl) d_P_set_18 (fun H locs hP hD hS => ?_)
    have hP : va_P (dC, dI) classes [c_P q0 q1 (upd (upd r 7 (0 : Int32)) 5 (p1 >>> ((7 : Int32) &&& 31)))] H := hP
    have hD : va_D A [c_P q0 q1 (upd (upd r 7 (0 : Int32)) 5 (p1 >>> ((7 : Int32) &&& 31)))] := hD
    refine lv_iload_n hx hb d_P_set_21 rfl (lv_at hl 1 rfl) ?_
    have hf : f_P_set p1 r = (p1, (upd (upd r 7 (0 : Int32)) 5 (p1 >>> ((7 : Int32) &&& 31)))) := by rw [f_P_set, if_neg c_1]
    exact W.iret (v := p1) hx hb hr (fun t ht hW => ⟨⟨p1, (), rfl, (congrArg (fun z => z.1) hf).symm, by rw [hf]; exact ⟨by rw [ht]; exact hP, va_K.moved hW.alike hK, hD⟩⟩, hS.F ht⟩) hS.2.2 d_P_set_22
  · refine lv_iconst (v := 1) hx hb d_P_set_5 (by decide) ?_
    refine lv_goto (tgt := 10) hx hb d_P_set_6 (by decide) ?_
    refine va_put (D := (dC, dI)) (ci := 1) (v := .int (1 : Int32)) (ty := .int) (C := R_P) (T := F_P) (N := 13) hx hb htB i_P t_P t_P_ok n_P hown hK hP hD hS 0 rfl rfl 8 (by decide) (htB _ mw_67) (fun _ h9 => h9) rfl (by decide +kernel) rfl rfl (Nat.le_of_ble_eq_true rfl) d_P_set_10 (fun H locs hP hD hS => ?_)
    have hP : va_P (dC, dI) classes [c_P q0 q1 (upd r 7 (1 : Int32))] H := hP
    have hD : va_D A [c_P q0 q1 (upd r 7 (1 : Int32))] := hD
    refine lv_aload_n hx hb d_P_set_13 rfl (lv_at hl 0 rfl) ?_
    refine lv_iload_n hx hb d_P_set_14 rfl (lv_at hl 1 rfl) ?_
    refine lv_bipush (v := 7) hx hb d_P_set_15 (by decide) ?_
    refine lv_ishr hx hb d_P_set_17 ?_
    refine va_put (D := (dC, dI)) (ci := 1) (v := .int (p1 >>> ((7 : Int32) &&& 31))) (ty := .int) (C := R_P) (T := F_P) (N := 13) hx hb htB i_P t_P t_P_ok n_P hown hK hP hD hS 0 rfl rfl 6 (by decide) (htB _ mw_65) (fun _ h9 => h9) rfl (by decide +kernel) rfl rfl (Nat.le_of_ble_eq_true rfl) d_P_set_18 (fun H locs hP hD hS => ?_)
    have hP : va_P (dC, dI) classes [c_P q0 q1 (upd (upd r 7 (1 : Int32)) 5 (p1 >>> ((7 : Int32) &&& 31)))] H := hP
    have hD : va_D A [c_P q0 q1 (upd (upd r 7 (1 : Int32)) 5 (p1 >>> ((7 : Int32) &&& 31)))] := hD
    refine lv_iload_n hx hb d_P_set_21 rfl (lv_at hl 1 rfl) ?_
    have hf : f_P_set p1 r = (p1, (upd (upd r 7 (1 : Int32)) 5 (p1 >>> ((7 : Int32) &&& 31)))) := by rw [f_P_set, if_pos c_1]
    exact W.iret (v := p1) hx hb hr (fun t ht hW => ⟨⟨p1, (), rfl, (congrArg (fun z => z.1) hf).symm, by rw [hf]; exact ⟨by rw [ht]; exact hP, va_K.moved hW.alike hK, hD⟩⟩, hS.F ht⟩) hS.2.2 d_P_set_22

def f_P_compare (p1 : Int32) (p2 : Int32) (r : Nat → Int32) : (Nat → Int32) :=
  if p1 < p2 then
    (f_P_set ((p1 - p2) &&& (255 : Int32)) (upd r 8 (0 : Int32))).2
  else
    (f_P_set ((p1 - p2) &&& (255 : Int32)) (upd r 8 (1 : Int32))).2
abbrev Q_P_compare (dC : Nat → ClassId) (dI : Nat → Nat → Nat) (q0 : Nat) (q1 : Nat) (p1 : Int32) (p2 : Int32) (r : Nat → Int32) (A : Nat → Prop) : Array Value → State → Outcome → State → Prop := va_Qv (fun (_ : Unit) => True) (fun _ t => atW (dC, dI) classes A [c_P q0 q1 (f_P_compare p1 p2 r)] [] t) A
set_option maxHeartbeats 4000000 in
set_option maxRecDepth 100000 in
theorem c_P_compare (l : Launch) (dC : Nat → ClassId) (dI : Nat → Nat → Nat) (z0 : Nat) (q0 : Nat) (q1 : Nat) (sz : Nat) (p1 : Int32) (p2 : Int32) (r : Nat → Int32)  : Met l y_P_compare w_P_compare ({ frames := 1, cells := 0, slots := 0, locals := 21 }) (PcX (dC, dI) classes z0 [c_P q0 q1 r] [] sz [.ref q0, .int p1, .int p2]) (Q_P_compare dC dI q0 q1 p1 p2 r (va_A [c_P q0 q1 r] sz)) 0 0 (va_A [c_P q0 q1 r] sz) := by
  refine hdX (cc := b_P_compare) (maxL := 3) (ret := none) (C := R_P) (Qc := (Q_P_compare dC dI q0 q1 p1 p2 r)) (by decide) rfl ?_
  intro p e s m below meth c A H hx hb hr hlocks hml hown hin htB hP hK hD hA hA0 hE hS
  have hl := lv_entry ([.ref q0, .int p1, .int p2]) (n := 3) (Nat.le_of_ble_eq_true rfl)
  rw [lg_entry_eq]
  generalize (lg_sl ([.ref q0, .int p1, .int p2]) ++ List.replicate (3 - (lg_sl ([.ref q0, .int p1, .int p2])).length) Slot.unset).toArray = ls at hl ⊢
  have hl : lv_has ls 3 [(0, .ref q0), (1, .int p1), (2, .int p2)] := hl
  refine lv_aload_n hx hb d_P_compare_0 rfl (lv_at hl 0 rfl) ?_
  refine lv_iload_n hx hb d_P_compare_1 rfl (lv_at hl 1 rfl) ?_
  refine lv_iload_n hx hb d_P_compare_2 rfl (lv_at hl 2 rfl) ?_
  refine lv_icmp_lt (tgt := 10) hx hb d_P_compare_3 (by decide) (fun c_1 => ?_) (fun c_1 => ?_)
  · refine lv_iconst (v := 0) hx hb d_P_compare_10 (by decide) ?_
    refine va_put (D := (dC, dI)) (ci := 1) (v := .int (0 : Int32)) (ty := .int) (C := R_P) (T := F_P) (N := 13) hx hb htB i_P t_P t_P_ok n_P hown hK hP hD hS 0 rfl rfl 9 (by decide) (htB _ mw_68) (fun _ h9 => h9) rfl (by decide +kernel) rfl rfl (Nat.le_of_ble_eq_true rfl) d_P_compare_11 (fun H locs hP hD hS => ?_)
    have hP : va_P (dC, dI) classes [c_P q0 q1 (upd r 8 (0 : Int32))] H := hP
    have hD : va_D A [c_P q0 q1 (upd r 8 (0 : Int32))] := hD
    refine lv_aload_n hx hb d_P_compare_14 rfl (lv_at hl 0 rfl) ?_
    refine lv_iload_n hx hb d_P_compare_15 rfl (lv_at hl 1 rfl) ?_
    refine lv_iload_n hx hb d_P_compare_16 rfl (lv_at hl 2 rfl) ?_
    refine lv_isub hx hb d_P_compare_17 ?_
    refine lv_sipush (v := 255) hx hb d_P_compare_18 (by decide) ?_
    refine lv_iand hx hb d_P_compare_21 ?_
    have hPc := hP.sub (ws' := [c_P q0 q1 (upd r 8 (0 : Int32))]) [0] rfl
    have hDc := hD.sub (ws' := [c_P q0 q1 (upd r 8 (0 : Int32))]) [0] (by decide) rfl
    have hKc := hK.sub (tys' := []) [] rfl
    have hFc := va_free (wc := [c_P q0 q1 (upd r 8 (0 : Int32))]) hD hS hA [0] rfl
    refine va_calli (va_runV (As := [.int ((p1 - p2) &&& (255 : Int32))]) (rest := []) ⟨hx, hb, hml, hown, htB⟩ (c_P_set l dC dI z0 q0 q1 H.size ((p1 - p2) &&& (255 : Int32)) (upd r 8 (0 : Int32))) (cwV 1 htB (gd_V mw_322 mw_324 sw_P_set mw_2 mw_325) rfl rfl rfl (by decide +kernel) ⟨Nat.le_of_ble_eq_true rfl, Nat.le_of_ble_eq_true rfl⟩) (pcx_V (va_recv hKc hPc (ci := 1) (q0 := 0) rfl rfl) hPc hKc hDc hA0 hE hS) rfl rfl hl.1 rfl (lv_room (Nat.le_of_ble_eq_true rfl)) d_P_compare_22 ⟨Nat.zero_le _, Nat.zero_le _⟩) hS (fun q _ h => hFc q h) hFc (fun r9 u t H1 locs ht hvm hw hB hz1 hk1 hS => ?_)
    subst hw
    obtain ⟨hP1, hK1, hD1⟩ := hB
    rw [ht] at hP1
    obtain ⟨hP, hD⟩ := va_join (wr := []) (w1 := [c_P q0 q1 ((f_P_set ((p1 - p2) &&& (255 : Int32)) (upd r 8 (0 : Int32))).2)]) hP hD [0] [] rfl rfl (by decide) (by decide) hk1 hFc hP1 hD1
    generalize H1 = H at hP hS ⊢
    have hP : va_P (dC, dI) classes [c_P q0 q1 ((f_P_set ((p1 - p2) &&& (255 : Int32)) (upd r 8 (0 : Int32))).2)] H := hP.sub [0] rfl
    have hD : va_D A [c_P q0 q1 ((f_P_set ((p1 - p2) &&& (255 : Int32)) (upd r 8 (0 : Int32))).2)] := hD.sub [0] (by decide) rfl
    refine lv_pop hx hb d_P_compare_25 rfl ?_
    have hf : f_P_compare p1 p2 r = (f_P_set ((p1 - p2) &&& (255 : Int32)) (upd r 8 (0 : Int32))).2 := by rw [f_P_compare, if_pos c_1]
    exact W.vret hx hb hr (fun t ht hW => ⟨⟨(), rfl, trivial, by rw [hf]; exact ⟨by rw [ht]; exact hP, va_K.moved hW.alike hK, hD⟩⟩, hS.F ht⟩) hS.2.2 d_P_compare_26
  · refine lv_iconst (v := 1) hx hb d_P_compare_6 (by decide) ?_
    refine lv_goto (tgt := 11) hx hb d_P_compare_7 (by decide) ?_
    refine va_put (D := (dC, dI)) (ci := 1) (v := .int (1 : Int32)) (ty := .int) (C := R_P) (T := F_P) (N := 13) hx hb htB i_P t_P t_P_ok n_P hown hK hP hD hS 0 rfl rfl 9 (by decide) (htB _ mw_68) (fun _ h9 => h9) rfl (by decide +kernel) rfl rfl (Nat.le_of_ble_eq_true rfl) d_P_compare_11 (fun H locs hP hD hS => ?_)
    have hP : va_P (dC, dI) classes [c_P q0 q1 (upd r 8 (1 : Int32))] H := hP
    have hD : va_D A [c_P q0 q1 (upd r 8 (1 : Int32))] := hD
    refine lv_aload_n hx hb d_P_compare_14 rfl (lv_at hl 0 rfl) ?_
    refine lv_iload_n hx hb d_P_compare_15 rfl (lv_at hl 1 rfl) ?_
    refine lv_iload_n hx hb d_P_compare_16 rfl (lv_at hl 2 rfl) ?_
    refine lv_isub hx hb d_P_compare_17 ?_
    refine lv_sipush (v := 255) hx hb d_P_compare_18 (by decide) ?_
    refine lv_iand hx hb d_P_compare_21 ?_
    have hPc := hP.sub (ws' := [c_P q0 q1 (upd r 8 (1 : Int32))]) [0] rfl
    have hDc := hD.sub (ws' := [c_P q0 q1 (upd r 8 (1 : Int32))]) [0] (by decide) rfl
    have hKc := hK.sub (tys' := []) [] rfl
    have hFc := va_free (wc := [c_P q0 q1 (upd r 8 (1 : Int32))]) hD hS hA [0] rfl
    refine va_calli (va_runV (As := [.int ((p1 - p2) &&& (255 : Int32))]) (rest := []) ⟨hx, hb, hml, hown, htB⟩ (c_P_set l dC dI z0 q0 q1 H.size ((p1 - p2) &&& (255 : Int32)) (upd r 8 (1 : Int32))) (cwV 1 htB (gd_V mw_322 mw_324 sw_P_set mw_2 mw_325) rfl rfl rfl (by decide +kernel) ⟨Nat.le_of_ble_eq_true rfl, Nat.le_of_ble_eq_true rfl⟩) (pcx_V (va_recv hKc hPc (ci := 1) (q0 := 0) rfl rfl) hPc hKc hDc hA0 hE hS) rfl rfl hl.1 rfl (lv_room (Nat.le_of_ble_eq_true rfl)) d_P_compare_22 ⟨Nat.zero_le _, Nat.zero_le _⟩) hS (fun q _ h => hFc q h) hFc (fun r9 u t H1 locs ht hvm hw hB hz1 hk1 hS => ?_)
    subst hw
    obtain ⟨hP1, hK1, hD1⟩ := hB
    rw [ht] at hP1
    obtain ⟨hP, hD⟩ := va_join (wr := []) (w1 := [c_P q0 q1 ((f_P_set ((p1 - p2) &&& (255 : Int32)) (upd r 8 (1 : Int32))).2)]) hP hD [0] [] rfl rfl (by decide) (by decide) hk1 hFc hP1 hD1
    generalize H1 = H at hP hS ⊢
    have hP : va_P (dC, dI) classes [c_P q0 q1 ((f_P_set ((p1 - p2) &&& (255 : Int32)) (upd r 8 (1 : Int32))).2)] H := hP.sub [0] rfl
    have hD : va_D A [c_P q0 q1 ((f_P_set ((p1 - p2) &&& (255 : Int32)) (upd r 8 (1 : Int32))).2)] := hD.sub [0] (by decide) rfl
    refine lv_pop hx hb d_P_compare_25 rfl ?_
    have hf : f_P_compare p1 p2 r = (f_P_set ((p1 - p2) &&& (255 : Int32)) (upd r 8 (1 : Int32))).2 := by rw [f_P_compare, if_neg c_1]
    exact W.vret hx hb hr (fun t ht hW => ⟨⟨(), rfl, trivial, by rw [hf]; exact ⟨by rw [ht]; exact hP, va_K.moved hW.alike hK, hD⟩⟩, hS.F ht⟩) hS.2.2 d_P_compare_26

def f_P_add (p1 : Int32) (r : Nat → Int32) : (Nat → Int32) :=
  if (((r 0) + p1) + (r 8)) ≤ (255 : Int32) then
    (upd ((f_P_set ((((r 0) + p1) + (r 8)) &&& (255 : Int32)) (upd (upd r 6 (((((r 0) ^^^ (((r 0) + p1) + (r 8))) &&& (p1 ^^^ (((r 0) + p1) + (r 8)))) >>> ((7 : Int32) &&& 31)) &&& (1 : Int32))) 8 (0 : Int32))).2) 0 ((f_P_set ((((r 0) + p1) + (r 8)) &&& (255 : Int32)) (upd (upd r 6 (((((r 0) ^^^ (((r 0) + p1) + (r 8))) &&& (p1 ^^^ (((r 0) + p1) + (r 8)))) >>> ((7 : Int32) &&& 31)) &&& (1 : Int32))) 8 (0 : Int32))).1))
  else
    (upd ((f_P_set ((((r 0) + p1) + (r 8)) &&& (255 : Int32)) (upd (upd r 6 (((((r 0) ^^^ (((r 0) + p1) + (r 8))) &&& (p1 ^^^ (((r 0) + p1) + (r 8)))) >>> ((7 : Int32) &&& 31)) &&& (1 : Int32))) 8 (1 : Int32))).2) 0 ((f_P_set ((((r 0) + p1) + (r 8)) &&& (255 : Int32)) (upd (upd r 6 (((((r 0) ^^^ (((r 0) + p1) + (r 8))) &&& (p1 ^^^ (((r 0) + p1) + (r 8)))) >>> ((7 : Int32) &&& 31)) &&& (1 : Int32))) 8 (1 : Int32))).1))
abbrev Q_P_add (dC : Nat → ClassId) (dI : Nat → Nat → Nat) (q0 : Nat) (q1 : Nat) (p1 : Int32) (r : Nat → Int32) (A : Nat → Prop) : Array Value → State → Outcome → State → Prop := va_Qv (fun (_ : Unit) => True) (fun _ t => atW (dC, dI) classes A [c_P q0 q1 (f_P_add p1 r)] [] t) A
set_option maxHeartbeats 4000000 in
set_option maxRecDepth 100000 in
theorem c_P_add (l : Launch) (dC : Nat → ClassId) (dI : Nat → Nat → Nat) (z0 : Nat) (q0 : Nat) (q1 : Nat) (sz : Nat) (p1 : Int32) (r : Nat → Int32)  : Met l y_P_add w_P_add ({ frames := 1, cells := 0, slots := 0, locals := 21 }) (PcX (dC, dI) classes z0 [c_P q0 q1 r] [] sz [.ref q0, .int p1]) (Q_P_add dC dI q0 q1 p1 r (va_A [c_P q0 q1 r] sz)) 0 0 (va_A [c_P q0 q1 r] sz) := by
  refine hdX (cc := b_P_add) (maxL := 3) (ret := none) (C := R_P) (Qc := (Q_P_add dC dI q0 q1 p1 r)) (by decide) rfl ?_
  intro p e s m below meth c A H hx hb hr hlocks hml hown hin htB hP hK hD hA hA0 hE hS
  have hl := lv_entry ([.ref q0, .int p1]) (n := 3) (Nat.le_of_ble_eq_true rfl)
  rw [lg_entry_eq]
  generalize (lg_sl ([.ref q0, .int p1]) ++ List.replicate (3 - (lg_sl ([.ref q0, .int p1])).length) Slot.unset).toArray = ls at hl ⊢
  have hl : lv_has ls 3 [(0, .ref q0), (1, .int p1)] := hl
  refine lv_aload_n hx hb d_P_add_0 rfl (lv_at hl 0 rfl) ?_
  refine va_get (D := (dC, dI)) (ci := 1) (v := .int (r 0)) (C := R_P) (T := F_P) (N := 13) hx hb htB i_P hown hK hP 0 rfl rfl 1 (by decide) (htB _ mw_59) (fun _ h9 => h9) rfl d_P_add_1 ?_
  refine lv_iload_n hx hb d_P_add_4 rfl (lv_at hl 1 rfl) ?_
  refine lv_iadd hx hb d_P_add_5 ?_
  refine lv_aload_n hx hb d_P_add_6 rfl (lv_at hl 0 rfl) ?_
  refine va_get (D := (dC, dI)) (ci := 1) (v := .int (r 8)) (C := R_P) (T := F_P) (N := 13) hx hb htB i_P hown hK hP 0 rfl rfl 9 (by decide) (htB _ mw_68) (fun _ h9 => h9) rfl d_P_add_7 ?_
  refine lv_iadd hx hb d_P_add_10 ?_
  refine lv_istore_n (lv' := [(2, .int (((r 0) + p1) + (r 8))), (0, .ref q0), (1, .int p1)]) hx hb d_P_add_11 rfl hl (by decide) rfl (fun ls hl => ?_)
  refine lv_aload_n hx hb d_P_add_12 rfl (lv_at hl 1 rfl) ?_
  refine lv_aload_n hx hb d_P_add_13 rfl (lv_at hl 1 rfl) ?_
  refine va_get (D := (dC, dI)) (ci := 1) (v := .int (r 0)) (C := R_P) (T := F_P) (N := 13) hx hb htB i_P hown hK hP 0 rfl rfl 1 (by decide) (htB _ mw_59) (fun _ h9 => h9) rfl d_P_add_14 ?_
  refine lv_iload_n hx hb d_P_add_17 rfl (lv_at hl 0 rfl) ?_
  refine lv_ixor hx hb d_P_add_18 ?_
  refine lv_iload_n hx hb d_P_add_19 rfl (lv_at hl 2 rfl) ?_
  refine lv_iload_n hx hb d_P_add_20 rfl (lv_at hl 0 rfl) ?_
  refine lv_ixor hx hb d_P_add_21 ?_
  refine lv_iand hx hb d_P_add_22 ?_
  refine lv_bipush (v := 7) hx hb d_P_add_23 (by decide) ?_
  refine lv_ishr hx hb d_P_add_25 ?_
  refine lv_iconst (v := 1) hx hb d_P_add_26 (by decide) ?_
  refine lv_iand hx hb d_P_add_27 ?_
  refine va_put (D := (dC, dI)) (ci := 1) (v := .int (((((r 0) ^^^ (((r 0) + p1) + (r 8))) &&& (p1 ^^^ (((r 0) + p1) + (r 8)))) >>> ((7 : Int32) &&& 31)) &&& (1 : Int32))) (ty := .int) (C := R_P) (T := F_P) (N := 13) hx hb htB i_P t_P t_P_ok n_P hown hK hP hD hS 0 rfl rfl 7 (by decide) (htB _ mw_66) (fun _ h9 => h9) rfl (by decide +kernel) rfl rfl (Nat.le_of_ble_eq_true rfl) d_P_add_28 (fun H locs hP hD hS => ?_)
  have hP : va_P (dC, dI) classes [c_P q0 q1 (upd r 6 (((((r 0) ^^^ (((r 0) + p1) + (r 8))) &&& (p1 ^^^ (((r 0) + p1) + (r 8)))) >>> ((7 : Int32) &&& 31)) &&& (1 : Int32)))] H := hP
  have hD : va_D A [c_P q0 q1 (upd r 6 (((((r 0) ^^^ (((r 0) + p1) + (r 8))) &&& (p1 ^^^ (((r 0) + p1) + (r 8)))) >>> ((7 : Int32) &&& 31)) &&& (1 : Int32)))] := hD
  refine lv_aload_n hx hb d_P_add_31 rfl (lv_at hl 1 rfl) ?_
  refine lv_iload_n hx hb d_P_add_32 rfl (lv_at hl 0 rfl) ?_
  refine lv_sipush (v := 255) hx hb d_P_add_33 (by decide) ?_
  refine lv_icmp_le (tgt := 43) hx hb d_P_add_36 (by decide) (fun c_1 => ?_) (fun c_1 => ?_)
  · refine lv_iconst (v := 0) hx hb d_P_add_43 (by decide) ?_
    refine va_put (D := (dC, dI)) (ci := 1) (v := .int (0 : Int32)) (ty := .int) (C := R_P) (T := F_P) (N := 13) hx hb htB i_P t_P t_P_ok n_P hown hK hP hD hS 0 rfl rfl 9 (by decide) (htB _ mw_68) (fun _ h9 => h9) rfl (by decide +kernel) rfl rfl (Nat.le_of_ble_eq_true rfl) d_P_add_44 (fun H locs hP hD hS => ?_)
    have hP : va_P (dC, dI) classes [c_P q0 q1 (upd (upd r 6 (((((r 0) ^^^ (((r 0) + p1) + (r 8))) &&& (p1 ^^^ (((r 0) + p1) + (r 8)))) >>> ((7 : Int32) &&& 31)) &&& (1 : Int32))) 8 (0 : Int32))] H := hP
    have hD : va_D A [c_P q0 q1 (upd (upd r 6 (((((r 0) ^^^ (((r 0) + p1) + (r 8))) &&& (p1 ^^^ (((r 0) + p1) + (r 8)))) >>> ((7 : Int32) &&& 31)) &&& (1 : Int32))) 8 (0 : Int32))] := hD
    refine lv_aload_n hx hb d_P_add_47 rfl (lv_at hl 1 rfl) ?_
    refine lv_aload_n hx hb d_P_add_48 rfl (lv_at hl 1 rfl) ?_
    refine lv_iload_n hx hb d_P_add_49 rfl (lv_at hl 0 rfl) ?_
    refine lv_sipush (v := 255) hx hb d_P_add_50 (by decide) ?_
    refine lv_iand hx hb d_P_add_53 ?_
    have hPc := hP.sub (ws' := [c_P q0 q1 (upd (upd r 6 (((((r 0) ^^^ (((r 0) + p1) + (r 8))) &&& (p1 ^^^ (((r 0) + p1) + (r 8)))) >>> ((7 : Int32) &&& 31)) &&& (1 : Int32))) 8 (0 : Int32))]) [0] rfl
    have hDc := hD.sub (ws' := [c_P q0 q1 (upd (upd r 6 (((((r 0) ^^^ (((r 0) + p1) + (r 8))) &&& (p1 ^^^ (((r 0) + p1) + (r 8)))) >>> ((7 : Int32) &&& 31)) &&& (1 : Int32))) 8 (0 : Int32))]) [0] (by decide) rfl
    have hKc := hK.sub (tys' := []) [] rfl
    have hFc := va_free (wc := [c_P q0 q1 (upd (upd r 6 (((((r 0) ^^^ (((r 0) + p1) + (r 8))) &&& (p1 ^^^ (((r 0) + p1) + (r 8)))) >>> ((7 : Int32) &&& 31)) &&& (1 : Int32))) 8 (0 : Int32))]) hD hS hA [0] rfl
    refine va_calli (va_runV (As := [.int ((((r 0) + p1) + (r 8)) &&& (255 : Int32))]) (rest := [.ref q0]) ⟨hx, hb, hml, hown, htB⟩ (c_P_set l dC dI z0 q0 q1 H.size ((((r 0) + p1) + (r 8)) &&& (255 : Int32)) (upd (upd r 6 (((((r 0) ^^^ (((r 0) + p1) + (r 8))) &&& (p1 ^^^ (((r 0) + p1) + (r 8)))) >>> ((7 : Int32) &&& 31)) &&& (1 : Int32))) 8 (0 : Int32))) (cwV 1 htB (gd_V mw_322 mw_324 sw_P_set mw_2 mw_325) rfl rfl rfl (by decide +kernel) ⟨Nat.le_of_ble_eq_true rfl, Nat.le_of_ble_eq_true rfl⟩) (pcx_V (va_recv hKc hPc (ci := 1) (q0 := 0) rfl rfl) hPc hKc hDc hA0 hE hS) rfl rfl hl.1 rfl (lv_room (Nat.le_of_ble_eq_true rfl)) d_P_add_54 ⟨Nat.zero_le _, Nat.zero_le _⟩) hS (fun q _ h => hFc q h) hFc (fun r9 u t H1 locs ht hvm hw hB hz1 hk1 hS => ?_)
    subst hw
    obtain ⟨hP1, hK1, hD1⟩ := hB
    rw [ht] at hP1
    obtain ⟨hP, hD⟩ := va_join (wr := []) (w1 := [c_P q0 q1 ((f_P_set ((((r 0) + p1) + (r 8)) &&& (255 : Int32)) (upd (upd r 6 (((((r 0) ^^^ (((r 0) + p1) + (r 8))) &&& (p1 ^^^ (((r 0) + p1) + (r 8)))) >>> ((7 : Int32) &&& 31)) &&& (1 : Int32))) 8 (0 : Int32))).2)]) hP hD [0] [] rfl rfl (by decide) (by decide) hk1 hFc hP1 hD1
    generalize H1 = H at hP hS ⊢
    have hP : va_P (dC, dI) classes [c_P q0 q1 ((f_P_set ((((r 0) + p1) + (r 8)) &&& (255 : Int32)) (upd (upd r 6 (((((r 0) ^^^ (((r 0) + p1) + (r 8))) &&& (p1 ^^^ (((r 0) + p1) + (r 8)))) >>> ((7 : Int32) &&& 31)) &&& (1 : Int32))) 8 (0 : Int32))).2)] H := hP.sub [0] rfl
    have hD : va_D A [c_P q0 q1 ((f_P_set ((((r 0) + p1) + (r 8)) &&& (255 : Int32)) (upd (upd r 6 (((((r 0) ^^^ (((r 0) + p1) + (r 8))) &&& (p1 ^^^ (((r 0) + p1) + (r 8)))) >>> ((7 : Int32) &&& 31)) &&& (1 : Int32))) 8 (0 : Int32))).2)] := hD.sub [0] (by decide) rfl
    refine va_put (D := (dC, dI)) (ci := 1) (v := .int ((f_P_set ((((r 0) + p1) + (r 8)) &&& (255 : Int32)) (upd (upd r 6 (((((r 0) ^^^ (((r 0) + p1) + (r 8))) &&& (p1 ^^^ (((r 0) + p1) + (r 8)))) >>> ((7 : Int32) &&& 31)) &&& (1 : Int32))) 8 (0 : Int32))).1)) (ty := .int) (C := R_P) (T := F_P) (N := 13) hx hb htB i_P t_P t_P_ok n_P hown hK hP hD hS 0 rfl rfl 1 (by decide) (htB _ mw_59) (fun _ h9 => h9) rfl (by decide +kernel) rfl rfl (Nat.le_of_ble_eq_true rfl) d_P_add_57 (fun H locs hP hD hS => ?_)
    have hP : va_P (dC, dI) classes [c_P q0 q1 (upd ((f_P_set ((((r 0) + p1) + (r 8)) &&& (255 : Int32)) (upd (upd r 6 (((((r 0) ^^^ (((r 0) + p1) + (r 8))) &&& (p1 ^^^ (((r 0) + p1) + (r 8)))) >>> ((7 : Int32) &&& 31)) &&& (1 : Int32))) 8 (0 : Int32))).2) 0 ((f_P_set ((((r 0) + p1) + (r 8)) &&& (255 : Int32)) (upd (upd r 6 (((((r 0) ^^^ (((r 0) + p1) + (r 8))) &&& (p1 ^^^ (((r 0) + p1) + (r 8)))) >>> ((7 : Int32) &&& 31)) &&& (1 : Int32))) 8 (0 : Int32))).1))] H := hP
    have hD : va_D A [c_P q0 q1 (upd ((f_P_set ((((r 0) + p1) + (r 8)) &&& (255 : Int32)) (upd (upd r 6 (((((r 0) ^^^ (((r 0) + p1) + (r 8))) &&& (p1 ^^^ (((r 0) + p1) + (r 8)))) >>> ((7 : Int32) &&& 31)) &&& (1 : Int32))) 8 (0 : Int32))).2) 0 ((f_P_set ((((r 0) + p1) + (r 8)) &&& (255 : Int32)) (upd (upd r 6 (((((r 0) ^^^ (((r 0) + p1) + (r 8))) &&& (p1 ^^^ (((r 0) + p1) + (r 8)))) >>> ((7 : Int32) &&& 31)) &&& (1 : Int32))) 8 (0 : Int32))).1))] := hD
    have hf : f_P_add p1 r = (upd ((f_P_set ((((r 0) + p1) + (r 8)) &&& (255 : Int32)) (upd (upd r 6 (((((r 0) ^^^ (((r 0) + p1) + (r 8))) &&& (p1 ^^^ (((r 0) + p1) + (r 8)))) >>> ((7 : Int32) &&& 31)) &&& (1 : Int32))) 8 (0 : Int32))).2) 0 ((f_P_set ((((r 0) + p1) + (r 8)) &&& (255 : Int32)) (upd (upd r 6 (((((r 0) ^^^ (((r 0) + p1) + (r 8))) &&& (p1 ^^^ (((r 0) + p1) + (r 8)))) >>> ((7 : Int32) &&& 31)) &&& (1 : Int32))) 8 (0 : Int32))).1)) := by rw [f_P_add, if_pos c_1]
    exact W.vret hx hb hr (fun t ht hW => ⟨⟨(), rfl, trivial, by rw [hf]; exact ⟨by rw [ht]; exact hP, va_K.moved hW.alike hK, hD⟩⟩, hS.F ht⟩) hS.2.2 d_P_add_60
  · refine lv_iconst (v := 1) hx hb d_P_add_39 (by decide) ?_
    refine lv_goto (tgt := 44) hx hb d_P_add_40 (by decide) ?_
    refine va_put (D := (dC, dI)) (ci := 1) (v := .int (1 : Int32)) (ty := .int) (C := R_P) (T := F_P) (N := 13) hx hb htB i_P t_P t_P_ok n_P hown hK hP hD hS 0 rfl rfl 9 (by decide) (htB _ mw_68) (fun _ h9 => h9) rfl (by decide +kernel) rfl rfl (Nat.le_of_ble_eq_true rfl) d_P_add_44 (fun H locs hP hD hS => ?_)
    have hP : va_P (dC, dI) classes [c_P q0 q1 (upd (upd r 6 (((((r 0) ^^^ (((r 0) + p1) + (r 8))) &&& (p1 ^^^ (((r 0) + p1) + (r 8)))) >>> ((7 : Int32) &&& 31)) &&& (1 : Int32))) 8 (1 : Int32))] H := hP
    have hD : va_D A [c_P q0 q1 (upd (upd r 6 (((((r 0) ^^^ (((r 0) + p1) + (r 8))) &&& (p1 ^^^ (((r 0) + p1) + (r 8)))) >>> ((7 : Int32) &&& 31)) &&& (1 : Int32))) 8 (1 : Int32))] := hD
    refine lv_aload_n hx hb d_P_add_47 rfl (lv_at hl 1 rfl) ?_
    refine lv_aload_n hx hb d_P_add_48 rfl (lv_at hl 1 rfl) ?_
    refine lv_iload_n hx hb d_P_add_49 rfl (lv_at hl 0 rfl) ?_
    refine lv_sipush (v := 255) hx hb d_P_add_50 (by decide) ?_
    refine lv_iand hx hb d_P_add_53 ?_
    have hPc := hP.sub (ws' := [c_P q0 q1 (upd (upd r 6 (((((r 0) ^^^ (((r 0) + p1) + (r 8))) &&& (p1 ^^^ (((r 0) + p1) + (r 8)))) >>> ((7 : Int32) &&& 31)) &&& (1 : Int32))) 8 (1 : Int32))]) [0] rfl
    have hDc := hD.sub (ws' := [c_P q0 q1 (upd (upd r 6 (((((r 0) ^^^ (((r 0) + p1) + (r 8))) &&& (p1 ^^^ (((r 0) + p1) + (r 8)))) >>> ((7 : Int32) &&& 31)) &&& (1 : Int32))) 8 (1 : Int32))]) [0] (by decide) rfl
    have hKc := hK.sub (tys' := []) [] rfl
    have hFc := va_free (wc := [c_P q0 q1 (upd (upd r 6 (((((r 0) ^^^ (((r 0) + p1) + (r 8))) &&& (p1 ^^^ (((r 0) + p1) + (r 8)))) >>> ((7 : Int32) &&& 31)) &&& (1 : Int32))) 8 (1 : Int32))]) hD hS hA [0] rfl
    refine va_calli (va_runV (As := [.int ((((r 0) + p1) + (r 8)) &&& (255 : Int32))]) (rest := [.ref q0]) ⟨hx, hb, hml, hown, htB⟩ (c_P_set l dC dI z0 q0 q1 H.size ((((r 0) + p1) + (r 8)) &&& (255 : Int32)) (upd (upd r 6 (((((r 0) ^^^ (((r 0) + p1) + (r 8))) &&& (p1 ^^^ (((r 0) + p1) + (r 8)))) >>> ((7 : Int32) &&& 31)) &&& (1 : Int32))) 8 (1 : Int32))) (cwV 1 htB (gd_V mw_322 mw_324 sw_P_set mw_2 mw_325) rfl rfl rfl (by decide +kernel) ⟨Nat.le_of_ble_eq_true rfl, Nat.le_of_ble_eq_true rfl⟩) (pcx_V (va_recv hKc hPc (ci := 1) (q0 := 0) rfl rfl) hPc hKc hDc hA0 hE hS) rfl rfl hl.1 rfl (lv_room (Nat.le_of_ble_eq_true rfl)) d_P_add_54 ⟨Nat.zero_le _, Nat.zero_le _⟩) hS (fun q _ h => hFc q h) hFc (fun r9 u t H1 locs ht hvm hw hB hz1 hk1 hS => ?_)
    subst hw
    obtain ⟨hP1, hK1, hD1⟩ := hB
    rw [ht] at hP1
    obtain ⟨hP, hD⟩ := va_join (wr := []) (w1 := [c_P q0 q1 ((f_P_set ((((r 0) + p1) + (r 8)) &&& (255 : Int32)) (upd (upd r 6 (((((r 0) ^^^ (((r 0) + p1) + (r 8))) &&& (p1 ^^^ (((r 0) + p1) + (r 8)))) >>> ((7 : Int32) &&& 31)) &&& (1 : Int32))) 8 (1 : Int32))).2)]) hP hD [0] [] rfl rfl (by decide) (by decide) hk1 hFc hP1 hD1
    generalize H1 = H at hP hS ⊢
    have hP : va_P (dC, dI) classes [c_P q0 q1 ((f_P_set ((((r 0) + p1) + (r 8)) &&& (255 : Int32)) (upd (upd r 6 (((((r 0) ^^^ (((r 0) + p1) + (r 8))) &&& (p1 ^^^ (((r 0) + p1) + (r 8)))) >>> ((7 : Int32) &&& 31)) &&& (1 : Int32))) 8 (1 : Int32))).2)] H := hP.sub [0] rfl
    have hD : va_D A [c_P q0 q1 ((f_P_set ((((r 0) + p1) + (r 8)) &&& (255 : Int32)) (upd (upd r 6 (((((r 0) ^^^ (((r 0) + p1) + (r 8))) &&& (p1 ^^^ (((r 0) + p1) + (r 8)))) >>> ((7 : Int32) &&& 31)) &&& (1 : Int32))) 8 (1 : Int32))).2)] := hD.sub [0] (by decide) rfl
    refine va_put (D := (dC, dI)) (ci := 1) (v := .int ((f_P_set ((((r 0) + p1) + (r 8)) &&& (255 : Int32)) (upd (upd r 6 (((((r 0) ^^^ (((r 0) + p1) + (r 8))) &&& (p1 ^^^ (((r 0) + p1) + (r 8)))) >>> ((7 : Int32) &&& 31)) &&& (1 : Int32))) 8 (1 : Int32))).1)) (ty := .int) (C := R_P) (T := F_P) (N := 13) hx hb htB i_P t_P t_P_ok n_P hown hK hP hD hS 0 rfl rfl 1 (by decide) (htB _ mw_59) (fun _ h9 => h9) rfl (by decide +kernel) rfl rfl (Nat.le_of_ble_eq_true rfl) d_P_add_57 (fun H locs hP hD hS => ?_)
    have hP : va_P (dC, dI) classes [c_P q0 q1 (upd ((f_P_set ((((r 0) + p1) + (r 8)) &&& (255 : Int32)) (upd (upd r 6 (((((r 0) ^^^ (((r 0) + p1) + (r 8))) &&& (p1 ^^^ (((r 0) + p1) + (r 8)))) >>> ((7 : Int32) &&& 31)) &&& (1 : Int32))) 8 (1 : Int32))).2) 0 ((f_P_set ((((r 0) + p1) + (r 8)) &&& (255 : Int32)) (upd (upd r 6 (((((r 0) ^^^ (((r 0) + p1) + (r 8))) &&& (p1 ^^^ (((r 0) + p1) + (r 8)))) >>> ((7 : Int32) &&& 31)) &&& (1 : Int32))) 8 (1 : Int32))).1))] H := hP
    have hD : va_D A [c_P q0 q1 (upd ((f_P_set ((((r 0) + p1) + (r 8)) &&& (255 : Int32)) (upd (upd r 6 (((((r 0) ^^^ (((r 0) + p1) + (r 8))) &&& (p1 ^^^ (((r 0) + p1) + (r 8)))) >>> ((7 : Int32) &&& 31)) &&& (1 : Int32))) 8 (1 : Int32))).2) 0 ((f_P_set ((((r 0) + p1) + (r 8)) &&& (255 : Int32)) (upd (upd r 6 (((((r 0) ^^^ (((r 0) + p1) + (r 8))) &&& (p1 ^^^ (((r 0) + p1) + (r 8)))) >>> ((7 : Int32) &&& 31)) &&& (1 : Int32))) 8 (1 : Int32))).1))] := hD
    have hf : f_P_add p1 r = (upd ((f_P_set ((((r 0) + p1) + (r 8)) &&& (255 : Int32)) (upd (upd r 6 (((((r 0) ^^^ (((r 0) + p1) + (r 8))) &&& (p1 ^^^ (((r 0) + p1) + (r 8)))) >>> ((7 : Int32) &&& 31)) &&& (1 : Int32))) 8 (1 : Int32))).2) 0 ((f_P_set ((((r 0) + p1) + (r 8)) &&& (255 : Int32)) (upd (upd r 6 (((((r 0) ^^^ (((r 0) + p1) + (r 8))) &&& (p1 ^^^ (((r 0) + p1) + (r 8)))) >>> ((7 : Int32) &&& 31)) &&& (1 : Int32))) 8 (1 : Int32))).1)) := by rw [f_P_add, if_neg c_1]
    exact W.vret hx hb hr (fun t ht hW => ⟨⟨(), rfl, trivial, by rw [hf]; exact ⟨by rw [ht]; exact hP, va_K.moved hW.alike hK, hD⟩⟩, hS.F ht⟩) hS.2.2 d_P_add_60

def f_P_changed (p1 : Int32) (p2 : Int32) (r : Nat → Int32) : Int32 :=
  if p1 = (0 : Int32) then
    (((2 : Int32) * p2) &&& (255 : Int32))
  else
    if p1 = (1 : Int32) then
      ((((2 : Int32) * p2) + (r 8)) &&& (255 : Int32))
    else
      if p1 = (2 : Int32) then
        (p2 / (2 : Int32))
      else
        if p1 = (3 : Int32) then
          ((p2 / (2 : Int32)) + ((128 : Int32) * (r 8)))
        else
          if p1 = (4 : Int32) then
            ((p2 + (1 : Int32)) &&& (255 : Int32))
          else
            if p1 = (5 : Int32) then
              ((p2 + (1 : Int32)) &&& (255 : Int32))
            else
              if p1 = (6 : Int32) then
                ((p2 - (1 : Int32)) &&& (255 : Int32))
              else
                ((p2 + (1 : Int32)) &&& (255 : Int32))
abbrev Q_P_changed (dC : Nat → ClassId) (dI : Nat → Nat → Nat) (q0 : Nat) (q1 : Nat) (p1 : Int32) (p2 : Int32) (r : Nat → Int32) (A : Nat → Prop) : Array Value → State → Outcome → State → Prop := va_Qi (fun (r9 : Int32) (_ : Unit) => r9 = (f_P_changed p1 p2 r)) (fun _ t => atW (dC, dI) classes A [c_P q0 q1 r] [] t) A
set_option maxHeartbeats 4000000 in
set_option maxRecDepth 100000 in
theorem c_P_changed (l : Launch) (dC : Nat → ClassId) (dI : Nat → Nat → Nat) (z0 : Nat) (q0 : Nat) (q1 : Nat) (sz : Nat) (p1 : Int32) (p2 : Int32) (r : Nat → Int32)  : Met l y_P_changed w_P_changed ({ frames := 0, cells := 0, slots := 0, locals := 0 }) (PcX (dC, dI) classes z0 [c_P q0 q1 r] [] sz [.ref q0, .int p1, .int p2]) (Q_P_changed dC dI q0 q1 p1 p2 r (va_A [c_P q0 q1 r] sz)) 0 0 (va_A [c_P q0 q1 r] sz) := by
  refine hdX (cc := b_P_changed) (maxL := 3) (ret := (some .int)) (C := R_P) (Qc := (Q_P_changed dC dI q0 q1 p1 p2 r)) (by decide) rfl ?_
  intro p e s m below meth c A H hx hb hr hlocks hml hown hin htB hP hK hD hA hA0 hE hS
  have hl := lv_entry ([.ref q0, .int p1, .int p2]) (n := 3) (Nat.le_of_ble_eq_true rfl)
  rw [lg_entry_eq]
  generalize (lg_sl ([.ref q0, .int p1, .int p2]) ++ List.replicate (3 - (lg_sl ([.ref q0, .int p1, .int p2])).length) Slot.unset).toArray = ls at hl ⊢
  have hl : lv_has ls 3 [(0, .ref q0), (1, .int p1), (2, .int p2)] := hl
  refine lv_iload_n hx hb d_P_changed_0 rfl (lv_at hl 1 rfl) ?_
  by_cases c_1 : p1 = (0 : Int32)
  · refine lv_tableIn (tgt := 44) hx hb d_P_changed_1 (by rw [c_1]; decide) (by rw [c_1]; decide) (by rw [c_1]; rfl) (by decide) ?_
    refine lv_iconst (v := 2) hx hb d_P_changed_44 (by decide) ?_
    refine lv_iload_n hx hb d_P_changed_45 rfl (lv_at hl 2 rfl) ?_
    refine lv_imul hx hb d_P_changed_46 ?_
    refine lv_sipush (v := 255) hx hb d_P_changed_47 (by decide) ?_
    refine lv_iand hx hb d_P_changed_50 ?_
    have hf : f_P_changed p1 p2 r = (((2 : Int32) * p2) &&& (255 : Int32)) := by rw [f_P_changed, if_pos c_1]
    exact W.iret (v := (((2 : Int32) * p2) &&& (255 : Int32))) hx hb hr (fun t ht hW => ⟨⟨(((2 : Int32) * p2) &&& (255 : Int32)), (), rfl, hf.symm, by exact ⟨by rw [ht]; exact hP, va_K.moved hW.alike hK, hD⟩⟩, hS.F ht⟩) hS.2.2 d_P_changed_51
  · by_cases c_2 : p1 = (1 : Int32)
    · refine lv_tableIn (tgt := 52) hx hb d_P_changed_1 (by rw [c_2]; decide) (by rw [c_2]; decide) (by rw [c_2]; rfl) (by decide) ?_
      refine lv_iconst (v := 2) hx hb d_P_changed_52 (by decide) ?_
      refine lv_iload_n hx hb d_P_changed_53 rfl (lv_at hl 2 rfl) ?_
      refine lv_imul hx hb d_P_changed_54 ?_
      refine lv_aload_n hx hb d_P_changed_55 rfl (lv_at hl 0 rfl) ?_
      refine va_get (D := (dC, dI)) (ci := 1) (v := .int (r 8)) (C := R_P) (T := F_P) (N := 13) hx hb htB i_P hown hK hP 0 rfl rfl 9 (by decide) (htB _ mw_68) (fun _ h9 => h9) rfl d_P_changed_56 ?_
      refine lv_iadd hx hb d_P_changed_59 ?_
      refine lv_sipush (v := 255) hx hb d_P_changed_60 (by decide) ?_
      refine lv_iand hx hb d_P_changed_63 ?_
      have hf : f_P_changed p1 p2 r = ((((2 : Int32) * p2) + (r 8)) &&& (255 : Int32)) := by rw [f_P_changed, if_neg c_1, if_pos c_2]
      exact W.iret (v := ((((2 : Int32) * p2) + (r 8)) &&& (255 : Int32))) hx hb hr (fun t ht hW => ⟨⟨((((2 : Int32) * p2) + (r 8)) &&& (255 : Int32)), (), rfl, hf.symm, by exact ⟨by rw [ht]; exact hP, va_K.moved hW.alike hK, hD⟩⟩, hS.F ht⟩) hS.2.2 d_P_changed_64
    · by_cases c_3 : p1 = (2 : Int32)
      · refine lv_tableIn (tgt := 65) hx hb d_P_changed_1 (by rw [c_3]; decide) (by rw [c_3]; decide) (by rw [c_3]; rfl) (by decide) ?_
        refine lv_iload_n hx hb d_P_changed_65 rfl (lv_at hl 2 rfl) ?_
        refine lv_iconst (v := 2) hx hb d_P_changed_66 (by decide) ?_
        refine lv_idiv hx hb d_P_changed_67 (by decide) ?_
        have hf : f_P_changed p1 p2 r = (p2 / (2 : Int32)) := by rw [f_P_changed, if_neg c_1, if_neg c_2, if_pos c_3]
        exact W.iret (v := (p2 / (2 : Int32))) hx hb hr (fun t ht hW => ⟨⟨(p2 / (2 : Int32)), (), rfl, hf.symm, by exact ⟨by rw [ht]; exact hP, va_K.moved hW.alike hK, hD⟩⟩, hS.F ht⟩) hS.2.2 d_P_changed_68
      · by_cases c_4 : p1 = (3 : Int32)
        · refine lv_tableIn (tgt := 69) hx hb d_P_changed_1 (by rw [c_4]; decide) (by rw [c_4]; decide) (by rw [c_4]; rfl) (by decide) ?_
          refine lv_iload_n hx hb d_P_changed_69 rfl (lv_at hl 2 rfl) ?_
          refine lv_iconst (v := 2) hx hb d_P_changed_70 (by decide) ?_
          refine lv_idiv hx hb d_P_changed_71 (by decide) ?_
          refine lv_sipush (v := 128) hx hb d_P_changed_72 (by decide) ?_
          refine lv_aload_n hx hb d_P_changed_75 rfl (lv_at hl 0 rfl) ?_
          refine va_get (D := (dC, dI)) (ci := 1) (v := .int (r 8)) (C := R_P) (T := F_P) (N := 13) hx hb htB i_P hown hK hP 0 rfl rfl 9 (by decide) (htB _ mw_68) (fun _ h9 => h9) rfl d_P_changed_76 ?_
          refine lv_imul hx hb d_P_changed_79 ?_
          refine lv_iadd hx hb d_P_changed_80 ?_
          have hf : f_P_changed p1 p2 r = ((p2 / (2 : Int32)) + ((128 : Int32) * (r 8))) := by rw [f_P_changed, if_neg c_1, if_neg c_2, if_neg c_3, if_pos c_4]
          exact W.iret (v := ((p2 / (2 : Int32)) + ((128 : Int32) * (r 8)))) hx hb hr (fun t ht hW => ⟨⟨((p2 / (2 : Int32)) + ((128 : Int32) * (r 8))), (), rfl, hf.symm, by exact ⟨by rw [ht]; exact hP, va_K.moved hW.alike hK, hD⟩⟩, hS.F ht⟩) hS.2.2 d_P_changed_81
        · by_cases c_5 : p1 = (4 : Int32)
          · refine lv_tableIn (tgt := 90) hx hb d_P_changed_1 (by rw [c_5]; decide) (by rw [c_5]; decide) (by rw [c_5]; rfl) (by decide) ?_
            refine lv_iload_n hx hb d_P_changed_90 rfl (lv_at hl 2 rfl) ?_
            refine lv_iconst (v := 1) hx hb d_P_changed_91 (by decide) ?_
            refine lv_iadd hx hb d_P_changed_92 ?_
            refine lv_sipush (v := 255) hx hb d_P_changed_93 (by decide) ?_
            refine lv_iand hx hb d_P_changed_96 ?_
            have hf : f_P_changed p1 p2 r = ((p2 + (1 : Int32)) &&& (255 : Int32)) := by rw [f_P_changed, if_neg c_1, if_neg c_2, if_neg c_3, if_neg c_4, if_pos c_5]
            exact W.iret (v := ((p2 + (1 : Int32)) &&& (255 : Int32))) hx hb hr (fun t ht hW => ⟨⟨((p2 + (1 : Int32)) &&& (255 : Int32)), (), rfl, hf.symm, by exact ⟨by rw [ht]; exact hP, va_K.moved hW.alike hK, hD⟩⟩, hS.F ht⟩) hS.2.2 d_P_changed_97
          · by_cases c_6 : p1 = (5 : Int32)
            · refine lv_tableIn (tgt := 90) hx hb d_P_changed_1 (by rw [c_6]; decide) (by rw [c_6]; decide) (by rw [c_6]; rfl) (by decide) ?_
              refine lv_iload_n hx hb d_P_changed_90 rfl (lv_at hl 2 rfl) ?_
              refine lv_iconst (v := 1) hx hb d_P_changed_91 (by decide) ?_
              refine lv_iadd hx hb d_P_changed_92 ?_
              refine lv_sipush (v := 255) hx hb d_P_changed_93 (by decide) ?_
              refine lv_iand hx hb d_P_changed_96 ?_
              have hf : f_P_changed p1 p2 r = ((p2 + (1 : Int32)) &&& (255 : Int32)) := by rw [f_P_changed, if_neg c_1, if_neg c_2, if_neg c_3, if_neg c_4, if_neg c_5, if_pos c_6]
              exact W.iret (v := ((p2 + (1 : Int32)) &&& (255 : Int32))) hx hb hr (fun t ht hW => ⟨⟨((p2 + (1 : Int32)) &&& (255 : Int32)), (), rfl, hf.symm, by exact ⟨by rw [ht]; exact hP, va_K.moved hW.alike hK, hD⟩⟩, hS.F ht⟩) hS.2.2 d_P_changed_97
            · by_cases c_7 : p1 = (6 : Int32)
              · refine lv_tableIn (tgt := 82) hx hb d_P_changed_1 (by rw [c_7]; decide) (by rw [c_7]; decide) (by rw [c_7]; rfl) (by decide) ?_
                refine lv_iload_n hx hb d_P_changed_82 rfl (lv_at hl 2 rfl) ?_
                refine lv_iconst (v := 1) hx hb d_P_changed_83 (by decide) ?_
                refine lv_isub hx hb d_P_changed_84 ?_
                refine lv_sipush (v := 255) hx hb d_P_changed_85 (by decide) ?_
                refine lv_iand hx hb d_P_changed_88 ?_
                have hf : f_P_changed p1 p2 r = ((p2 - (1 : Int32)) &&& (255 : Int32)) := by rw [f_P_changed, if_neg c_1, if_neg c_2, if_neg c_3, if_neg c_4, if_neg c_5, if_neg c_6, if_pos c_7]
                exact W.iret (v := ((p2 - (1 : Int32)) &&& (255 : Int32))) hx hb hr (fun t ht hW => ⟨⟨((p2 - (1 : Int32)) &&& (255 : Int32)), (), rfl, hf.symm, by exact ⟨by rw [ht]; exact hP, va_K.moved hW.alike hK, hD⟩⟩, hS.F ht⟩) hS.2.2 d_P_changed_89
              · refine lv_tableOut (tgt := 90) hx hb d_P_changed_1 (by have g_0 := lv_neT c_1 (show (0 : Int32).toInt = 0 from by decide); have g_1 := lv_neT c_2 (show (1 : Int32).toInt = 1 from by decide); have g_2 := lv_neT c_3 (show (2 : Int32).toInt = 2 from by decide); have g_3 := lv_neT c_4 (show (3 : Int32).toInt = 3 from by decide); have g_4 := lv_neT c_5 (show (4 : Int32).toInt = 4 from by decide); have g_5 := lv_neT c_6 (show (5 : Int32).toInt = 5 from by decide); have g_6 := lv_neT c_7 (show (6 : Int32).toInt = 6 from by decide); omega) (by decide) ?_
                refine lv_iload_n hx hb d_P_changed_90 rfl (lv_at hl 2 rfl) ?_
                refine lv_iconst (v := 1) hx hb d_P_changed_91 (by decide) ?_
                refine lv_iadd hx hb d_P_changed_92 ?_
                refine lv_sipush (v := 255) hx hb d_P_changed_93 (by decide) ?_
                refine lv_iand hx hb d_P_changed_96 ?_
                have hf : f_P_changed p1 p2 r = ((p2 + (1 : Int32)) &&& (255 : Int32)) := by rw [f_P_changed, if_neg c_1, if_neg c_2, if_neg c_3, if_neg c_4, if_neg c_5, if_neg c_6, if_neg c_7]
                exact W.iret (v := ((p2 + (1 : Int32)) &&& (255 : Int32))) hx hb hr (fun t ht hW => ⟨⟨((p2 + (1 : Int32)) &&& (255 : Int32)), (), rfl, hf.symm, by exact ⟨by rw [ht]; exact hP, va_K.moved hW.alike hK, hD⟩⟩, hS.F ht⟩) hS.2.2 d_P_changed_97

def f_P_bytesBehind (p1 : Int32)  : Int32 :=
  if p1 = (3 : Int32) then
    (2 : Int32)
  else
    if p1 = (4 : Int32) then
      (1 : Int32)
    else
      if p1 = (5 : Int32) then
        (1 : Int32)
      else
        if p1 = (6 : Int32) then
          (2 : Int32)
        else
          if p1 = (7 : Int32) then
            (2 : Int32)
          else
            if p1 = (8 : Int32) then
              (1 : Int32)
            else
              if p1 = (9 : Int32) then
                (0 : Int32)
              else
                if p1 = (10 : Int32) then
                  (0 : Int32)
                else
                  (1 : Int32)
abbrev Q_P_bytesBehind (dC : Nat → ClassId) (dI : Nat → Nat → Nat)  (p1 : Int32)  (A : Nat → Prop) : Array Value → State → Outcome → State → Prop := va_Qi (fun (r9 : Int32) (_ : Unit) => r9 = (f_P_bytesBehind p1)) (fun _ t => atW (dC, dI) classes A [] [] t) A
set_option maxHeartbeats 4000000 in
set_option maxRecDepth 100000 in
theorem c_P_bytesBehind (l : Launch) (dC : Nat → ClassId) (dI : Nat → Nat → Nat) (z0 : Nat)  (sz : Nat) (p1 : Int32)   : Met l y_P_bytesBehind w_P_bytesBehind ({ frames := 0, cells := 0, slots := 0, locals := 0 }) (PcX (dC, dI) classes z0 [] [] sz [.int p1]) (Q_P_bytesBehind dC dI p1 (va_A [] sz)) 0 0 (va_A [] sz) := by
  refine hdX (cc := b_P_bytesBehind) (maxL := 1) (ret := (some .int)) (C := R_P) (Qc := (Q_P_bytesBehind dC dI p1)) (by decide) rfl ?_
  intro p e s m below meth c A H hx hb hr hlocks hml hown hin htB hP hK hD hA hA0 hE hS
  have hl := lv_entry ([.int p1]) (n := 1) (Nat.le_of_ble_eq_true rfl)
  rw [lg_entry_eq]
  generalize (lg_sl ([.int p1]) ++ List.replicate (1 - (lg_sl ([.int p1])).length) Slot.unset).toArray = ls at hl ⊢
  have hl : lv_has ls 1 [(0, .int p1)] := hl
  refine lv_iload_n hx hb d_P_bytesBehind_0 rfl (lv_at hl 0 rfl) ?_
  by_cases c_1 : p1 = (3 : Int32)
  · refine lv_tableIn (tgt := 50) hx hb d_P_bytesBehind_1 (by rw [c_1]; decide) (by rw [c_1]; decide) (by rw [c_1]; rfl) (by decide) ?_
    refine lv_iconst (v := 2) hx hb d_P_bytesBehind_50 (by decide) ?_
    have hf : f_P_bytesBehind p1 = (2 : Int32) := by rw [f_P_bytesBehind, if_pos c_1]
    exact W.iret (v := (2 : Int32)) hx hb hr (fun t ht hW => ⟨⟨(2 : Int32), (), rfl, hf.symm, by exact ⟨by rw [ht]; exact hP, va_K.moved hW.alike hK, hD⟩⟩, hS.F ht⟩) hS.2.2 d_P_bytesBehind_51
  · by_cases c_2 : p1 = (4 : Int32)
    · refine lv_tableIn (tgt := 52) hx hb d_P_bytesBehind_1 (by rw [c_2]; decide) (by rw [c_2]; decide) (by rw [c_2]; rfl) (by decide) ?_
      refine lv_iconst (v := 1) hx hb d_P_bytesBehind_52 (by decide) ?_
      have hf : f_P_bytesBehind p1 = (1 : Int32) := by rw [f_P_bytesBehind, if_neg c_1, if_pos c_2]
      exact W.iret (v := (1 : Int32)) hx hb hr (fun t ht hW => ⟨⟨(1 : Int32), (), rfl, hf.symm, by exact ⟨by rw [ht]; exact hP, va_K.moved hW.alike hK, hD⟩⟩, hS.F ht⟩) hS.2.2 d_P_bytesBehind_53
    · by_cases c_3 : p1 = (5 : Int32)
      · refine lv_tableIn (tgt := 52) hx hb d_P_bytesBehind_1 (by rw [c_3]; decide) (by rw [c_3]; decide) (by rw [c_3]; rfl) (by decide) ?_
        refine lv_iconst (v := 1) hx hb d_P_bytesBehind_52 (by decide) ?_
        have hf : f_P_bytesBehind p1 = (1 : Int32) := by rw [f_P_bytesBehind, if_neg c_1, if_neg c_2, if_pos c_3]
        exact W.iret (v := (1 : Int32)) hx hb hr (fun t ht hW => ⟨⟨(1 : Int32), (), rfl, hf.symm, by exact ⟨by rw [ht]; exact hP, va_K.moved hW.alike hK, hD⟩⟩, hS.F ht⟩) hS.2.2 d_P_bytesBehind_53
      · by_cases c_4 : p1 = (6 : Int32)
        · refine lv_tableIn (tgt := 50) hx hb d_P_bytesBehind_1 (by rw [c_4]; decide) (by rw [c_4]; decide) (by rw [c_4]; rfl) (by decide) ?_
          refine lv_iconst (v := 2) hx hb d_P_bytesBehind_50 (by decide) ?_
          have hf : f_P_bytesBehind p1 = (2 : Int32) := by rw [f_P_bytesBehind, if_neg c_1, if_neg c_2, if_neg c_3, if_pos c_4]
          exact W.iret (v := (2 : Int32)) hx hb hr (fun t ht hW => ⟨⟨(2 : Int32), (), rfl, hf.symm, by exact ⟨by rw [ht]; exact hP, va_K.moved hW.alike hK, hD⟩⟩, hS.F ht⟩) hS.2.2 d_P_bytesBehind_51
        · by_cases c_5 : p1 = (7 : Int32)
          · refine lv_tableIn (tgt := 50) hx hb d_P_bytesBehind_1 (by rw [c_5]; decide) (by rw [c_5]; decide) (by rw [c_5]; rfl) (by decide) ?_
            refine lv_iconst (v := 2) hx hb d_P_bytesBehind_50 (by decide) ?_
            have hf : f_P_bytesBehind p1 = (2 : Int32) := by rw [f_P_bytesBehind, if_neg c_1, if_neg c_2, if_neg c_3, if_neg c_4, if_pos c_5]
            exact W.iret (v := (2 : Int32)) hx hb hr (fun t ht hW => ⟨⟨(2 : Int32), (), rfl, hf.symm, by exact ⟨by rw [ht]; exact hP, va_K.moved hW.alike hK, hD⟩⟩, hS.F ht⟩) hS.2.2 d_P_bytesBehind_51
          · by_cases c_6 : p1 = (8 : Int32)
            · refine lv_tableIn (tgt := 52) hx hb d_P_bytesBehind_1 (by rw [c_6]; decide) (by rw [c_6]; decide) (by rw [c_6]; rfl) (by decide) ?_
              refine lv_iconst (v := 1) hx hb d_P_bytesBehind_52 (by decide) ?_
              have hf : f_P_bytesBehind p1 = (1 : Int32) := by rw [f_P_bytesBehind, if_neg c_1, if_neg c_2, if_neg c_3, if_neg c_4, if_neg c_5, if_pos c_6]
              exact W.iret (v := (1 : Int32)) hx hb hr (fun t ht hW => ⟨⟨(1 : Int32), (), rfl, hf.symm, by exact ⟨by rw [ht]; exact hP, va_K.moved hW.alike hK, hD⟩⟩, hS.F ht⟩) hS.2.2 d_P_bytesBehind_53
            · by_cases c_7 : p1 = (9 : Int32)
              · refine lv_tableIn (tgt := 48) hx hb d_P_bytesBehind_1 (by rw [c_7]; decide) (by rw [c_7]; decide) (by rw [c_7]; rfl) (by decide) ?_
                refine lv_iconst (v := 0) hx hb d_P_bytesBehind_48 (by decide) ?_
                have hf : f_P_bytesBehind p1 = (0 : Int32) := by rw [f_P_bytesBehind, if_neg c_1, if_neg c_2, if_neg c_3, if_neg c_4, if_neg c_5, if_neg c_6, if_pos c_7]
                exact W.iret (v := (0 : Int32)) hx hb hr (fun t ht hW => ⟨⟨(0 : Int32), (), rfl, hf.symm, by exact ⟨by rw [ht]; exact hP, va_K.moved hW.alike hK, hD⟩⟩, hS.F ht⟩) hS.2.2 d_P_bytesBehind_49
              · by_cases c_8 : p1 = (10 : Int32)
                · refine lv_tableIn (tgt := 48) hx hb d_P_bytesBehind_1 (by rw [c_8]; decide) (by rw [c_8]; decide) (by rw [c_8]; rfl) (by decide) ?_
                  refine lv_iconst (v := 0) hx hb d_P_bytesBehind_48 (by decide) ?_
                  have hf : f_P_bytesBehind p1 = (0 : Int32) := by rw [f_P_bytesBehind, if_neg c_1, if_neg c_2, if_neg c_3, if_neg c_4, if_neg c_5, if_neg c_6, if_neg c_7, if_pos c_8]
                  exact W.iret (v := (0 : Int32)) hx hb hr (fun t ht hW => ⟨⟨(0 : Int32), (), rfl, hf.symm, by exact ⟨by rw [ht]; exact hP, va_K.moved hW.alike hK, hD⟩⟩, hS.F ht⟩) hS.2.2 d_P_bytesBehind_49
                · refine lv_tableOut (tgt := 52) hx hb d_P_bytesBehind_1 (by have g_3 := lv_neT c_1 (show (3 : Int32).toInt = 3 from by decide); have g_4 := lv_neT c_2 (show (4 : Int32).toInt = 4 from by decide); have g_5 := lv_neT c_3 (show (5 : Int32).toInt = 5 from by decide); have g_6 := lv_neT c_4 (show (6 : Int32).toInt = 6 from by decide); have g_7 := lv_neT c_5 (show (7 : Int32).toInt = 7 from by decide); have g_8 := lv_neT c_6 (show (8 : Int32).toInt = 8 from by decide); have g_9 := lv_neT c_7 (show (9 : Int32).toInt = 9 from by decide); have g_10 := lv_neT c_8 (show (10 : Int32).toInt = 10 from by decide); omega) (by decide) ?_
                  refine lv_iconst (v := 1) hx hb d_P_bytesBehind_52 (by decide) ?_
                  have hf : f_P_bytesBehind p1 = (1 : Int32) := by rw [f_P_bytesBehind, if_neg c_1, if_neg c_2, if_neg c_3, if_neg c_4, if_neg c_5, if_neg c_6, if_neg c_7, if_neg c_8]
                  exact W.iret (v := (1 : Int32)) hx hb hr (fun t ht hW => ⟨⟨(1 : Int32), (), rfl, hf.symm, by exact ⟨by rw [ht]; exact hP, va_K.moved hW.alike hK, hD⟩⟩, hS.F ht⟩) hS.2.2 d_P_bytesBehind_53

def f_P_address (p1 : Int32)  : Int32 :=
  (p1 &&& (1023 : Int32))
abbrev Q_P_address (dC : Nat → ClassId) (dI : Nat → Nat → Nat)  (p1 : Int32)  (A : Nat → Prop) : Array Value → State → Outcome → State → Prop := va_Qi (fun (r9 : Int32) (_ : Unit) => r9 = (f_P_address p1)) (fun _ t => atW (dC, dI) classes A [] [] t) A
set_option maxHeartbeats 4000000 in
set_option maxRecDepth 100000 in
theorem c_P_address (l : Launch) (dC : Nat → ClassId) (dI : Nat → Nat → Nat) (z0 : Nat)  (sz : Nat) (p1 : Int32)   : Met l y_P_address w_P_address ({ frames := 0, cells := 0, slots := 0, locals := 0 }) (PcX (dC, dI) classes z0 [] [] sz [.int p1]) (Q_P_address dC dI p1 (va_A [] sz)) 0 0 (va_A [] sz) := by
  refine hdX (cc := b_P_address) (maxL := 1) (ret := (some .int)) (C := R_P) (Qc := (Q_P_address dC dI p1)) (by decide) rfl ?_
  intro p e s m below meth c A H hx hb hr hlocks hml hown hin htB hP hK hD hA hA0 hE hS
  have hl := lv_entry ([.int p1]) (n := 1) (Nat.le_of_ble_eq_true rfl)
  rw [lg_entry_eq]
  generalize (lg_sl ([.int p1]) ++ List.replicate (1 - (lg_sl ([.int p1])).length) Slot.unset).toArray = ls at hl ⊢
  have hl : lv_has ls 1 [(0, .int p1)] := hl
  refine lv_iload_n hx hb d_P_address_0 rfl (lv_at hl 0 rfl) ?_
  refine lv_sipush (v := 1023) hx hb d_P_address_1 (by decide) ?_
  refine lv_iand hx hb d_P_address_4 ?_
  have hf : f_P_address p1 = (p1 &&& (1023 : Int32)) := by rw [f_P_address]
  exact W.iret (v := (p1 &&& (1023 : Int32))) hx hb hr (fun t ht hW => ⟨⟨(p1 &&& (1023 : Int32)), (), rfl, hf.symm, by exact ⟨by rw [ht]; exact hP, va_K.moved hW.alike hK, hD⟩⟩, hS.F ht⟩) hS.2.2 d_P_address_5

theorem address_eq (x : Int32) : f_P_address x = nI (x.toBitVec.toNat % 1024) := pk_and x (m := 1023) 10 (by decide)
theorem addr_div_nn (x : Int32) : ¬ (f_P_address x / (256 : Int32)) < 0 := by
  rw [address_eq, show (256 : Int32) = nI 256 from rfl, pk_div (by omega) (by decide) (by decide)]
  exact nI_pos (by omega)

def f_P_modeOf (p1 : Int32)  : Int32 :=
  if (p1 - p1 / (4 : Int32) * (4 : Int32)) = (0 : Int32) then
    (T_G0 (((p1 / (32 : Int32)) * (8 : Int32)) + ((p1 / (4 : Int32)) - (p1 / (4 : Int32)) / (8 : Int32) * (8 : Int32))).toNatClampNeg)
  else
    if (p1 - p1 / (4 : Int32) * (4 : Int32)) = (1 : Int32) then
      if p1 = (137 : Int32) then
        (11 : Int32)
      else
        ((p1 / (4 : Int32)) - (p1 / (4 : Int32)) / (8 : Int32) * (8 : Int32))
    else
      if (p1 - p1 / (4 : Int32) * (4 : Int32)) = (2 : Int32) then
        (T_G2 (((p1 / (32 : Int32)) * (8 : Int32)) + ((p1 / (4 : Int32)) - (p1 / (4 : Int32)) / (8 : Int32) * (8 : Int32))).toNatClampNeg)
      else
        (11 : Int32)
abbrev Q_P_modeOf (dC : Nat → ClassId) (dI : Nat → Nat → Nat)  (p1 : Int32)  (A : Nat → Prop) : Array Value → State → Outcome → State → Prop := va_Qi (fun (r9 : Int32) (_ : Unit) => r9 = (f_P_modeOf p1)) (fun _ t => atW (dC, dI) classes A [] [] t) A
set_option maxHeartbeats 4000000 in
set_option maxRecDepth 100000 in
theorem c_P_modeOf (l : Launch) (dC : Nat → ClassId) (dI : Nat → Nat → Nat) (z0 : Nat)  (sz : Nat) (p1 : Int32)  (hcode : isB p1) : Met l y_P_modeOf w_P_modeOf ({ frames := 0, cells := 0, slots := 0, locals := 0 }) (PcX (dC, dI) classes z0 [] [] sz [.int p1]) (Q_P_modeOf dC dI p1 (va_A [] sz)) 0 0 (va_A [] sz) := by
  refine hdX (cc := b_P_modeOf) (maxL := 2) (ret := (some .int)) (C := R_P) (Qc := (Q_P_modeOf dC dI p1)) (by decide) rfl ?_
  intro p e s m below meth c A H hx hb hr hlocks hml hown hin htB hP hK hD hA hA0 hE hS
  have hl := lv_entry ([.int p1]) (n := 2) (Nat.le_of_ble_eq_true rfl)
  rw [lg_entry_eq]
  generalize (lg_sl ([.int p1]) ++ List.replicate (2 - (lg_sl ([.int p1])).length) Slot.unset).toArray = ls at hl ⊢
  have hl : lv_has ls 2 [(0, .int p1)] := hl
  refine lv_iload_n hx hb d_P_modeOf_0 rfl (lv_at hl 0 rfl) ?_
  refine lv_bipush (v := 32) hx hb d_P_modeOf_1 (by decide) ?_
  refine lv_idiv hx hb d_P_modeOf_3 (by decide) ?_
  refine lv_bipush (v := 8) hx hb d_P_modeOf_4 (by decide) ?_
  refine lv_imul hx hb d_P_modeOf_6 ?_
  refine lv_iload_n hx hb d_P_modeOf_7 rfl (lv_at hl 0 rfl) ?_
  refine lv_iconst (v := 4) hx hb d_P_modeOf_8 (by decide) ?_
  refine lv_idiv hx hb d_P_modeOf_9 (by decide) ?_
  refine lv_bipush (v := 8) hx hb d_P_modeOf_10 (by decide) ?_
  refine lv_irem hx hb d_P_modeOf_12 (by decide) ?_
  refine lv_iadd hx hb d_P_modeOf_13 ?_
  refine lv_istore_n (lv' := [(1, .int (((p1 / (32 : Int32)) * (8 : Int32)) + ((p1 / (4 : Int32)) - (p1 / (4 : Int32)) / (8 : Int32) * (8 : Int32)))), (0, .int p1)]) hx hb d_P_modeOf_14 rfl hl (by decide) rfl (fun ls hl => ?_)
  refine lv_iload_n hx hb d_P_modeOf_15 rfl (lv_at hl 1 rfl) ?_
  refine lv_iconst (v := 4) hx hb d_P_modeOf_16 (by decide) ?_
  refine lv_irem hx hb d_P_modeOf_17 (by decide) ?_
  by_cases c_1 : (p1 - p1 / (4 : Int32) * (4 : Int32)) = (0 : Int32)
  · refine lv_tableIn (tgt := 44) hx hb d_P_modeOf_18 (by rw [c_1]; decide) (by rw [c_1]; decide) (by rw [c_1]; rfl) (by decide) ?_
    obtain ⟨t0, hZ0, hT0⟩ := hE.2.2.2.2.1
    refine va_getsN hx hb (hZ0.narrow hA0) hS hown (va_Nw.use rfl (hE.2.1 _ ew_281)) (fun _ h9 => h9) d_P_modeOf_44 ?_
    refine lv_iload_n hx hb d_P_modeOf_47 rfl (lv_at hl 0 rfl) ?_
    refine va_ti hx hb (hT0.narrow hA0) hS (code_place hcode) rfl d_P_modeOf_48 ?_
    have hf : f_P_modeOf p1 = (T_G0 (((p1 / (32 : Int32)) * (8 : Int32)) + ((p1 / (4 : Int32)) - (p1 / (4 : Int32)) / (8 : Int32) * (8 : Int32))).toNatClampNeg) := by rw [f_P_modeOf, if_pos c_1]
    exact W.iret (v := (T_G0 (((p1 / (32 : Int32)) * (8 : Int32)) + ((p1 / (4 : Int32)) - (p1 / (4 : Int32)) / (8 : Int32) * (8 : Int32))).toNatClampNeg)) hx hb hr (fun t ht hW => ⟨⟨(T_G0 (((p1 / (32 : Int32)) * (8 : Int32)) + ((p1 / (4 : Int32)) - (p1 / (4 : Int32)) / (8 : Int32) * (8 : Int32))).toNatClampNeg), (), rfl, hf.symm, by exact ⟨by rw [ht]; exact hP, va_K.moved hW.alike hK, hD⟩⟩, hS.F ht⟩) hS.2.2 d_P_modeOf_49
  · by_cases c_2 : (p1 - p1 / (4 : Int32) * (4 : Int32)) = (1 : Int32)
    · refine lv_tableIn (tgt := 50) hx hb d_P_modeOf_18 (by rw [c_2]; decide) (by rw [c_2]; decide) (by rw [c_2]; rfl) (by decide) ?_
      refine lv_iload_n hx hb d_P_modeOf_50 rfl (lv_at hl 1 rfl) ?_
      refine lv_sipush (v := 137) hx hb d_P_modeOf_51 (by decide) ?_
      refine lv_icmp_ne (tgt := 62) hx hb d_P_modeOf_54 (by decide) (fun c_3 => ?_) (fun c_3 => ?_)
      · refine lv_iload_n hx hb d_P_modeOf_62 rfl (lv_at hl 1 rfl) ?_
        refine lv_iconst (v := 4) hx hb d_P_modeOf_63 (by decide) ?_
        refine lv_idiv hx hb d_P_modeOf_64 (by decide) ?_
        refine lv_bipush (v := 8) hx hb d_P_modeOf_65 (by decide) ?_
        refine lv_irem hx hb d_P_modeOf_67 (by decide) ?_
        have hf : f_P_modeOf p1 = ((p1 / (4 : Int32)) - (p1 / (4 : Int32)) / (8 : Int32) * (8 : Int32)) := by rw [f_P_modeOf, if_neg c_1, if_pos c_2, if_neg c_3]
        exact W.iret (v := ((p1 / (4 : Int32)) - (p1 / (4 : Int32)) / (8 : Int32) * (8 : Int32))) hx hb hr (fun t ht hW => ⟨⟨((p1 / (4 : Int32)) - (p1 / (4 : Int32)) / (8 : Int32) * (8 : Int32)), (), rfl, hf.symm, by exact ⟨by rw [ht]; exact hP, va_K.moved hW.alike hK, hD⟩⟩, hS.F ht⟩) hS.2.2 d_P_modeOf_68
      · refine lv_bipush (v := 11) hx hb d_P_modeOf_57 (by decide) ?_
        refine lv_goto (tgt := 68) hx hb d_P_modeOf_59 (by decide) ?_
        have hf : f_P_modeOf p1 = (11 : Int32) := by rw [f_P_modeOf, if_neg c_1, if_pos c_2, if_pos c_3]
        exact W.iret (v := (11 : Int32)) hx hb hr (fun t ht hW => ⟨⟨(11 : Int32), (), rfl, hf.symm, by exact ⟨by rw [ht]; exact hP, va_K.moved hW.alike hK, hD⟩⟩, hS.F ht⟩) hS.2.2 d_P_modeOf_68
    · by_cases c_3 : (p1 - p1 / (4 : Int32) * (4 : Int32)) = (2 : Int32)
      · refine lv_tableIn (tgt := 69) hx hb d_P_modeOf_18 (by rw [c_3]; decide) (by rw [c_3]; decide) (by rw [c_3]; rfl) (by decide) ?_
        obtain ⟨t2, hZ2, hT2⟩ := hE.2.2.2.2.2.1
        refine va_getsN hx hb (hZ2.narrow hA0) hS hown (va_Nw.use rfl (hE.2.1 _ ew_283)) (fun _ h9 => h9) d_P_modeOf_69 ?_
        refine lv_iload_n hx hb d_P_modeOf_72 rfl (lv_at hl 0 rfl) ?_
        refine va_ti hx hb (hT2.narrow hA0) hS (code_place hcode) rfl d_P_modeOf_73 ?_
        have hf : f_P_modeOf p1 = (T_G2 (((p1 / (32 : Int32)) * (8 : Int32)) + ((p1 / (4 : Int32)) - (p1 / (4 : Int32)) / (8 : Int32) * (8 : Int32))).toNatClampNeg) := by rw [f_P_modeOf, if_neg c_1, if_neg c_2, if_pos c_3]
        exact W.iret (v := (T_G2 (((p1 / (32 : Int32)) * (8 : Int32)) + ((p1 / (4 : Int32)) - (p1 / (4 : Int32)) / (8 : Int32) * (8 : Int32))).toNatClampNeg)) hx hb hr (fun t ht hW => ⟨⟨(T_G2 (((p1 / (32 : Int32)) * (8 : Int32)) + ((p1 / (4 : Int32)) - (p1 / (4 : Int32)) / (8 : Int32) * (8 : Int32))).toNatClampNeg), (), rfl, hf.symm, by exact ⟨by rw [ht]; exact hP, va_K.moved hW.alike hK, hD⟩⟩, hS.F ht⟩) hS.2.2 d_P_modeOf_74
      · refine lv_tableOut (tgt := 75) hx hb d_P_modeOf_18 (by have g_0 := lv_neT c_1 (show (0 : Int32).toInt = 0 from by decide); have g_1 := lv_neT c_2 (show (1 : Int32).toInt = 1 from by decide); have g_2 := lv_neT c_3 (show (2 : Int32).toInt = 2 from by decide); omega) (by decide) ?_
        refine lv_bipush (v := 11) hx hb d_P_modeOf_75 (by decide) ?_
        have hf : f_P_modeOf p1 = (11 : Int32) := by rw [f_P_modeOf, if_neg c_1, if_neg c_2, if_neg c_3]
        exact W.iret (v := (11 : Int32)) hx hb hr (fun t ht hW => ⟨⟨(11 : Int32), (), rfl, hf.symm, by exact ⟨by rw [ht]; exact hP, va_K.moved hW.alike hK, hD⟩⟩, hS.F ht⟩) hS.2.2 d_P_modeOf_77
