def f_X_in (p1 : Int32) (p2 : Int32) (p3 : Int32)  : Int32 :=
  if p1 < p2 then
    (0 : Int32)
  else
    if p3 < p1 then
      (0 : Int32)
    else
      (1 : Int32)
abbrev Q_X_in (dC : Nat → ClassId) (dI : Nat → Nat → Nat)  (p1 : Int32) (p2 : Int32) (p3 : Int32)  (A : Nat → Prop) : Array Value → State → Outcome → State → Prop := va_Qi (fun (r9 : Int32) (_ : Unit) => r9 = (f_X_in p1 p2 p3)) (fun _ t => atW (dC, dI) classes A [] [] t) A
set_option maxHeartbeats 4000000 in
set_option maxRecDepth 100000 in
theorem c_X_in (l : Launch) (dC : Nat → ClassId) (dI : Nat → Nat → Nat) (z0 : Nat)  (sz : Nat) (p1 : Int32) (p2 : Int32) (p3 : Int32)   : Met l y_X_in w_X_in ({ frames := 0, cells := 0, slots := 0, locals := 0 }) (PcX (dC, dI) classes z0 [] [] sz [.int p1, .int p2, .int p3]) (Q_X_in dC dI p1 p2 p3 (va_A [] sz)) 0 0 (va_A [] sz) := by
  refine hdX (cc := b_X_in) (maxL := 3) (ret := (some .boolean)) (C := R_X) (Qc := (Q_X_in dC dI p1 p2 p3)) (by decide) rfl ?_
  intro p e s m below meth c A H hx hb hr hlocks hml hown hin htB hP hK hD hA hA0 hE hS
  have hl := lv_entry ([.int p1, .int p2, .int p3]) (n := 3) (Nat.le_of_ble_eq_true rfl)
  rw [lg_entry_eq]
  generalize (lg_sl ([.int p1, .int p2, .int p3]) ++ List.replicate (3 - (lg_sl ([.int p1, .int p2, .int p3])).length) Slot.unset).toArray = ls at hl ⊢
  have hl : lv_has ls 3 [(0, .int p1), (1, .int p2), (2, .int p3)] := hl
  refine lv_iload_n hx hb d_X_in_0 rfl (lv_at hl 0 rfl) ?_
  refine lv_iload_n hx hb d_X_in_1 rfl (lv_at hl 1 rfl) ?_
  refine lv_icmp_lt (tgt := 14) hx hb d_X_in_2 (by decide) (fun c_1 => ?_) (fun c_1 => ?_)
  · refine lv_iconst (v := 0) hx hb d_X_in_14 (by decide) ?_
    have hf : f_X_in p1 p2 p3 = (0 : Int32) := by rw [f_X_in, if_pos c_1]
    exact W.zret (v := (0 : Int32)) hx hb hr rfl (fun t ht hW => ⟨⟨(0 : Int32), (), rfl, hf.symm, by exact ⟨by rw [ht]; exact hP, va_K.moved hW.alike hK, hD⟩⟩, hS.F ht⟩) hS.2.2 d_X_in_15
  · refine lv_iload_n hx hb d_X_in_5 rfl (lv_at hl 0 rfl) ?_
    refine lv_iload_n hx hb d_X_in_6 rfl (lv_at hl 2 rfl) ?_
    refine lv_icmp_gt (tgt := 14) hx hb d_X_in_7 (by decide) (fun c_2 => ?_) (fun c_2 => ?_)
    · refine lv_iconst (v := 0) hx hb d_X_in_14 (by decide) ?_
      have hf : f_X_in p1 p2 p3 = (0 : Int32) := by rw [f_X_in, if_neg c_1, if_pos c_2]
      exact W.zret (v := (0 : Int32)) hx hb hr rfl (fun t ht hW => ⟨⟨(0 : Int32), (), rfl, hf.symm, by exact ⟨by rw [ht]; exact hP, va_K.moved hW.alike hK, hD⟩⟩, hS.F ht⟩) hS.2.2 d_X_in_15
    · refine lv_iconst (v := 1) hx hb d_X_in_10 (by decide) ?_
      refine lv_goto (tgt := 15) hx hb d_X_in_11 (by decide) ?_
      have hf : f_X_in p1 p2 p3 = (1 : Int32) := by rw [f_X_in, if_neg c_1, if_neg c_2]
      exact W.zret (v := (1 : Int32)) hx hb hr rfl (fun t ht hW => ⟨⟨(1 : Int32), (), rfl, hf.symm, by exact ⟨by rw [ht]; exact hP, va_K.moved hW.alike hK, hD⟩⟩, hS.F ht⟩) hS.2.2 d_X_in_15

theorem xin_01 {a b c : Int32} : f_X_in a b c = 0 ∨ f_X_in a b c = 1 := by
  unfold f_X_in
  repeat' split
  all_goals first | exact Or.inl rfl | exact Or.inr rfl

def f_X_thrown  (ku : Nat → Int32) : Int32 :=
  (ku 8)
abbrev Q_X_thrown (dC : Nat → ClassId) (dI : Nat → Nat → Nat) (x0 : Nat) (x1 : Nat) (x2 : Nat) (x3 : Nat) (x4 : Nat)  (ku : Nat → Int32) (A : Nat → Prop) : Array Value → State → Outcome → State → Prop := va_Qi (fun (r9 : Int32) (_ : Unit) => r9 = (f_X_thrown ku)) (fun _ t => atW (dC, dI) classes A [c_X x0 x1 x2 x3 x4 ku] [] t) A
set_option maxHeartbeats 4000000 in
set_option maxRecDepth 100000 in
theorem c_X_thrown (l : Launch) (dC : Nat → ClassId) (dI : Nat → Nat → Nat) (z0 : Nat) (x0 : Nat) (x1 : Nat) (x2 : Nat) (x3 : Nat) (x4 : Nat) (sz : Nat)  (ku : Nat → Int32)  : Met l y_X_thrown w_X_thrown ({ frames := 0, cells := 0, slots := 0, locals := 0 }) (PcX (dC, dI) classes z0 [c_X x0 x1 x2 x3 x4 ku] [] sz [.ref x0]) (Q_X_thrown dC dI x0 x1 x2 x3 x4 ku (va_A [c_X x0 x1 x2 x3 x4 ku] sz)) 0 0 (va_A [c_X x0 x1 x2 x3 x4 ku] sz) := by
  refine hdX (cc := b_X_thrown) (maxL := 1) (ret := (some .int)) (C := R_X) (Qc := (Q_X_thrown dC dI x0 x1 x2 x3 x4 ku)) (by decide) rfl ?_
  intro p e s m below meth c A H hx hb hr hlocks hml hown hin htB hP hK hD hA hA0 hE hS
  have hl := lv_entry ([.ref x0]) (n := 1) (Nat.le_of_ble_eq_true rfl)
  rw [lg_entry_eq]
  generalize (lg_sl ([.ref x0]) ++ List.replicate (1 - (lg_sl ([.ref x0])).length) Slot.unset).toArray = ls at hl ⊢
  have hl : lv_has ls 1 [(0, .ref x0)] := hl
  refine lv_aload_n hx hb d_X_thrown_0 rfl (lv_at hl 0 rfl) ?_
  refine va_get (D := (dC, dI)) (ci := 3) (v := .int (ku 8)) (C := R_X) (T := F_X) (N := 13) hx hb htB i_X hown hK hP 0 rfl rfl 12 (by decide) (htB _ mw_473) (fun _ h9 => h9) rfl d_X_thrown_1 ?_
  have hf : f_X_thrown ku = (ku 8) := by rw [f_X_thrown]
  exact W.iret (v := (ku 8)) hx hb hr (fun t ht hW => ⟨⟨(ku 8), (), rfl, hf.symm, by exact ⟨by rw [ht]; exact hP, va_K.moved hW.alike hK, hD⟩⟩, hS.F ht⟩) hS.2.2 d_X_thrown_4

def f_X_good (p1 : Int32) (p2 : Int32) (ku : Nat → Int32) : Int32 × (Nat → Int32) :=
  if p1 = (0 : Int32) then
    (p1, (upd ku 8 p2))
  else
    (p1, (upd ku 8 (0 : Int32)))
abbrev Q_X_good (dC : Nat → ClassId) (dI : Nat → Nat → Nat) (x0 : Nat) (x1 : Nat) (x2 : Nat) (x3 : Nat) (x4 : Nat) (p1 : Int32) (p2 : Int32) (ku : Nat → Int32) (A : Nat → Prop) : Array Value → State → Outcome → State → Prop := va_Qi (fun (r9 : Int32) (_ : Unit) => r9 = (f_X_good p1 p2 ku).1) (fun _ t => atW (dC, dI) classes A [c_X x0 x1 x2 x3 x4 ((f_X_good p1 p2 ku).2)] [] t) A
set_option maxHeartbeats 4000000 in
set_option maxRecDepth 100000 in
theorem c_X_good (l : Launch) (dC : Nat → ClassId) (dI : Nat → Nat → Nat) (z0 : Nat) (x0 : Nat) (x1 : Nat) (x2 : Nat) (x3 : Nat) (x4 : Nat) (sz : Nat) (p1 : Int32) (p2 : Int32) (ku : Nat → Int32) (hp1 : (p1 = 0 ∨ p1 = 1)) : Met l y_X_good w_X_good ({ frames := 0, cells := 0, slots := 0, locals := 0 }) (PcX (dC, dI) classes z0 [c_X x0 x1 x2 x3 x4 ku] [] sz [.ref x0, .int p1, .int p2]) (Q_X_good dC dI x0 x1 x2 x3 x4 p1 p2 ku (va_A [c_X x0 x1 x2 x3 x4 ku] sz)) 0 0 (va_A [c_X x0 x1 x2 x3 x4 ku] sz) := by
  refine hdX (cc := b_X_good) (maxL := 3) (ret := (some .boolean)) (C := R_X) (Qc := (Q_X_good dC dI x0 x1 x2 x3 x4 p1 p2 ku)) (by decide) rfl ?_
  intro p e s m below meth c A H hx hb hr hlocks hml hown hin htB hP hK hD hA hA0 hE hS
  have hl := lv_entry ([.ref x0, .int p1, .int p2]) (n := 3) (Nat.le_of_ble_eq_true rfl)
  rw [lg_entry_eq]
  generalize (lg_sl ([.ref x0, .int p1, .int p2]) ++ List.replicate (3 - (lg_sl ([.ref x0, .int p1, .int p2])).length) Slot.unset).toArray = ls at hl ⊢
  have hl : lv_has ls 3 [(0, .ref x0), (1, .int p1), (2, .int p2)] := hl
  refine lv_aload_n hx hb d_X_good_0 rfl (lv_at hl 0 rfl) ?_
  refine lv_iload_n hx hb d_X_good_1 rfl (lv_at hl 1 rfl) ?_
  refine lv_if_eq (tgt := 9) hx hb d_X_good_2 (by decide) (fun c_1 => ?_) (fun c_1 => ?_)
  · refine lv_iload_n hx hb d_X_good_9 rfl (lv_at hl 2 rfl) ?_
    refine va_put (D := (dC, dI)) (ci := 3) (v := .int p2) (ty := .int) (C := R_X) (T := F_X) (N := 13) hx hb htB i_X t_X t_X_ok n_X hown hK hP hD hS 0 rfl rfl 12 (by decide) (htB _ mw_473) (fun _ h9 => h9) rfl (by decide +kernel) rfl rfl (Nat.le_of_ble_eq_true rfl) d_X_good_10 (fun H locs hP hD hS => ?_)
    have hP : va_P (dC, dI) classes [c_X x0 x1 x2 x3 x4 (upd ku 8 p2)] H := hP
    have hD : va_D A [c_X x0 x1 x2 x3 x4 (upd ku 8 p2)] := hD
    refine lv_iload_n hx hb d_X_good_13 rfl (lv_at hl 1 rfl) ?_
    have hf : f_X_good p1 p2 ku = (p1, (upd ku 8 p2)) := by rw [f_X_good, if_pos c_1]
    exact W.zret (v := p1) hx hb hr (nar01 hp1) (fun t ht hW => ⟨⟨p1, (), rfl, (congrArg (fun z => z.1) hf).symm, by rw [hf]; exact ⟨by rw [ht]; exact hP, va_K.moved hW.alike hK, hD⟩⟩, hS.F ht⟩) hS.2.2 d_X_good_14
  · refine lv_iconst (v := 0) hx hb d_X_good_5 (by decide) ?_
    refine lv_goto (tgt := 10) hx hb d_X_good_6 (by decide) ?_
    refine va_put (D := (dC, dI)) (ci := 3) (v := .int (0 : Int32)) (ty := .int) (C := R_X) (T := F_X) (N := 13) hx hb htB i_X t_X t_X_ok n_X hown hK hP hD hS 0 rfl rfl 12 (by decide) (htB _ mw_473) (fun _ h9 => h9) rfl (by decide +kernel) rfl rfl (Nat.le_of_ble_eq_true rfl) d_X_good_10 (fun H locs hP hD hS => ?_)
    have hP : va_P (dC, dI) classes [c_X x0 x1 x2 x3 x4 (upd ku 8 (0 : Int32))] H := hP
    have hD : va_D A [c_X x0 x1 x2 x3 x4 (upd ku 8 (0 : Int32))] := hD
    refine lv_iload_n hx hb d_X_good_13 rfl (lv_at hl 1 rfl) ?_
    have hf : f_X_good p1 p2 ku = (p1, (upd ku 8 (0 : Int32))) := by rw [f_X_good, if_neg c_1]
    exact W.zret (v := p1) hx hb hr (nar01 hp1) (fun t ht hW => ⟨⟨p1, (), rfl, (congrArg (fun z => z.1) hf).symm, by rw [hf]; exact ⟨by rw [ht]; exact hP, va_K.moved hW.alike hK, hD⟩⟩, hS.F ht⟩) hS.2.2 d_X_good_14

def f_X_read (p1 : Int32) (ku m1 : Nat → Int32) : Int32 × (Nat → Int32) :=
  if (1008 : Int32) ≤ (p1 &&& (1023 : Int32)) then
    if (p1 &&& (1023 : Int32)) = (1010 : Int32) then
      ((ku 1), ku)
    else
      if (p1 &&& (1023 : Int32)) ≤ (1010 : Int32) then
        if (p1 &&& (1023 : Int32)) = (1009 : Int32) then
          ((ku 0), (upd ku 0 (0 : Int32)))
        else
          ((ku 0), ku)
      else
        ((0 : Int32), ku)
  else
    ((m1 ((p1 &&& (1023 : Int32)).toNatClampNeg)), ku)
abbrev Q_X_read (dC : Nat → ClassId) (dI : Nat → Nat → Nat) (x0 : Nat) (x1 : Nat) (x2 : Nat) (x3 : Nat) (x4 : Nat) (c1 : ClassId) (p1 : Int32) (ku m1 : Nat → Int32) (A : Nat → Prop) : Array Value → State → Outcome → State → Prop := va_Qi (fun (r9 : Int32) (_ : Unit) => r9 = (f_X_read p1 ku m1).1) (fun _ t => atW (dC, dI) classes A [c_X x0 x1 x2 x3 x4 ((f_X_read p1 ku m1).2), c_A x1 c1 1024 m1] [(c1, .int)] t) A
set_option maxHeartbeats 4000000 in
set_option maxRecDepth 100000 in
theorem c_X_read (l : Launch) (dC : Nat → ClassId) (dI : Nat → Nat → Nat) (z0 : Nat) (x0 : Nat) (x1 : Nat) (x2 : Nat) (x3 : Nat) (x4 : Nat) (c1 : ClassId) (sz : Nat) (p1 : Int32) (ku m1 : Nat → Int32)  : Met l y_X_read w_X_read ({ frames := 0, cells := 0, slots := 0, locals := 0 }) (PcX (dC, dI) classes z0 [c_X x0 x1 x2 x3 x4 ku, c_A x1 c1 1024 m1] [(c1, .int)] sz [.ref x0, .int p1]) (Q_X_read dC dI x0 x1 x2 x3 x4 c1 p1 ku m1 (va_A [c_X x0 x1 x2 x3 x4 ku, c_A x1 c1 1024 m1] sz)) 0 0 (va_A [c_X x0 x1 x2 x3 x4 ku, c_A x1 c1 1024 m1] sz) := by
  refine hdX (cc := b_X_read) (maxL := 4) (ret := (some .int)) (C := R_X) (Qc := (Q_X_read dC dI x0 x1 x2 x3 x4 c1 p1 ku m1)) (by decide) rfl ?_
  intro p e s m below meth c A H hx hb hr hlocks hml hown hin htB hP hK hD hA hA0 hE hS
  have hl := lv_entry ([.ref x0, .int p1]) (n := 4) (Nat.le_of_ble_eq_true rfl)
  rw [lg_entry_eq]
  generalize (lg_sl ([.ref x0, .int p1]) ++ List.replicate (4 - (lg_sl ([.ref x0, .int p1])).length) Slot.unset).toArray = ls at hl ⊢
  have hl : lv_has ls 4 [(0, .ref x0), (1, .int p1)] := hl
  refine lv_iload_n hx hb d_X_read_0 rfl (lv_at hl 1 rfl) ?_
  refine lv_sipush (v := 1023) hx hb d_X_read_1 (by decide) ?_
  refine lv_iand hx hb d_X_read_4 ?_
  refine lv_istore_n (lv' := [(2, .int (p1 &&& (1023 : Int32))), (0, .ref x0), (1, .int p1)]) hx hb d_X_read_5 rfl hl (by decide) rfl (fun ls hl => ?_)
  refine lv_iload_n hx hb d_X_read_6 rfl (lv_at hl 0 rfl) ?_
  refine lv_sipush (v := 1008) hx hb d_X_read_7 (by decide) ?_
  refine lv_icmp_ge (tgt := 20) hx hb d_X_read_10 (by decide) (fun c_1 => ?_) (fun c_1 => ?_)
  · refine lv_iload_n hx hb d_X_read_20 rfl (lv_at hl 0 rfl) ?_
    refine lv_sipush (v := 1010) hx hb d_X_read_21 (by decide) ?_
    refine lv_icmp_ne (tgt := 32) hx hb d_X_read_24 (by decide) (fun c_2 => ?_) (fun c_2 => ?_)
    · refine lv_iload_n hx hb d_X_read_32 rfl (lv_at hl 0 rfl) ?_
      refine lv_sipush (v := 1010) hx hb d_X_read_33 (by decide) ?_
      refine lv_icmp_le (tgt := 41) hx hb d_X_read_36 (by decide) (fun c_3 => ?_) (fun c_3 => ?_)
      · refine lv_aload_n hx hb d_X_read_41 rfl (lv_at hl 1 rfl) ?_
        refine va_get (D := (dC, dI)) (ci := 3) (v := .int (ku 0)) (C := R_X) (T := F_X) (N := 13) hx hb htB i_X hown hK hP 0 rfl rfl 4 (by decide) (htB _ mw_465) (fun _ h9 => h9) rfl d_X_read_42 ?_
        refine lv_istore_n (lv' := [(3, .int (ku 0)), (2, .int (p1 &&& (1023 : Int32))), (0, .ref x0), (1, .int p1)]) hx hb d_X_read_45 rfl hl (by decide) rfl (fun ls hl => ?_)
        refine lv_iload_n hx hb d_X_read_46 rfl (lv_at hl 1 rfl) ?_
        refine lv_sipush (v := 1009) hx hb d_X_read_47 (by decide) ?_
        refine lv_icmp_ne (tgt := 58) hx hb d_X_read_50 (by decide) (fun c_4 => ?_) (fun c_4 => ?_)
        · refine lv_iload_n hx hb d_X_read_58 rfl (lv_at hl 0 rfl) ?_
          have hf : f_X_read p1 ku m1 = ((ku 0), ku) := by rw [f_X_read, if_pos c_1, if_neg c_2, if_pos c_3, if_neg c_4]
          exact W.iret (v := (ku 0)) hx hb hr (fun t ht hW => ⟨⟨(ku 0), (), rfl, (congrArg (fun z => z.1) hf).symm, by rw [hf]; exact ⟨by rw [ht]; exact hP, va_K.moved hW.alike hK, hD⟩⟩, hS.F ht⟩) hS.2.2 d_X_read_59
        · refine lv_aload_n hx hb d_X_read_53 rfl (lv_at hl 2 rfl) ?_
          refine lv_iconst (v := 0) hx hb d_X_read_54 (by decide) ?_
          refine va_put (D := (dC, dI)) (ci := 3) (v := .int (0 : Int32)) (ty := .int) (C := R_X) (T := F_X) (N := 13) hx hb htB i_X t_X t_X_ok n_X hown hK hP hD hS 0 rfl rfl 4 (by decide) (htB _ mw_465) (fun _ h9 => h9) rfl (by decide +kernel) rfl rfl (Nat.le_of_ble_eq_true rfl) d_X_read_55 (fun H locs hP hD hS => ?_)
          have hP : va_P (dC, dI) classes [c_X x0 x1 x2 x3 x4 (upd ku 0 (0 : Int32)), c_A x1 c1 1024 m1] H := hP
          have hD : va_D A [c_X x0 x1 x2 x3 x4 (upd ku 0 (0 : Int32)), c_A x1 c1 1024 m1] := hD
          refine lv_iload_n hx hb d_X_read_58 rfl (lv_at hl 0 rfl) ?_
          have hf : f_X_read p1 ku m1 = ((ku 0), (upd ku 0 (0 : Int32))) := by rw [f_X_read, if_pos c_1, if_neg c_2, if_pos c_3, if_pos c_4]
          exact W.iret (v := (ku 0)) hx hb hr (fun t ht hW => ⟨⟨(ku 0), (), rfl, (congrArg (fun z => z.1) hf).symm, by rw [hf]; exact ⟨by rw [ht]; exact hP, va_K.moved hW.alike hK, hD⟩⟩, hS.F ht⟩) hS.2.2 d_X_read_59
      · refine lv_iconst (v := 0) hx hb d_X_read_39 (by decide) ?_
        have hf : f_X_read p1 ku m1 = ((0 : Int32), ku) := by rw [f_X_read, if_pos c_1, if_neg c_2, if_neg c_3]
        exact W.iret (v := (0 : Int32)) hx hb hr (fun t ht hW => ⟨⟨(0 : Int32), (), rfl, (congrArg (fun z => z.1) hf).symm, by rw [hf]; exact ⟨by rw [ht]; exact hP, va_K.moved hW.alike hK, hD⟩⟩, hS.F ht⟩) hS.2.2 d_X_read_40
    · refine lv_aload_n hx hb d_X_read_27 rfl (lv_at hl 1 rfl) ?_
      refine va_get (D := (dC, dI)) (ci := 3) (v := .int (ku 1)) (C := R_X) (T := F_X) (N := 13) hx hb htB i_X hown hK hP 0 rfl rfl 5 (by decide) (htB _ mw_466) (fun _ h9 => h9) rfl d_X_read_28 ?_
      have hf : f_X_read p1 ku m1 = ((ku 1), ku) := by rw [f_X_read, if_pos c_1, if_pos c_2]
      exact W.iret (v := (ku 1)) hx hb hr (fun t ht hW => ⟨⟨(ku 1), (), rfl, (congrArg (fun z => z.1) hf).symm, by rw [hf]; exact ⟨by rw [ht]; exact hP, va_K.moved hW.alike hK, hD⟩⟩, hS.F ht⟩) hS.2.2 d_X_read_31
  · refine lv_aload_n hx hb d_X_read_13 rfl (lv_at hl 1 rfl) ?_
    refine va_get (D := (dC, dI)) (ci := 3) (v := .ref x1) (C := R_X) (T := F_X) (N := 13) hx hb htB i_X hown hK hP 0 rfl rfl 0 (by decide) (htB _ mw_461) (fun _ h9 => h9) rfl d_X_read_14 ?_
    refine lv_iload_n hx hb d_X_read_17 rfl (lv_at hl 0 rfl) ?_
    refine va_iald hx hb hK hP 1 0 rfl rfl (in_and1023 _) d_X_read_18 ?_
    have hf : f_X_read p1 ku m1 = ((m1 ((p1 &&& (1023 : Int32)).toNatClampNeg)), ku) := by rw [f_X_read, if_neg c_1]
    exact W.iret (v := (m1 ((p1 &&& (1023 : Int32)).toNatClampNeg))) hx hb hr (fun t ht hW => ⟨⟨(m1 ((p1 &&& (1023 : Int32)).toNatClampNeg)), (), rfl, (congrArg (fun z => z.1) hf).symm, by rw [hf]; exact ⟨by rw [ht]; exact hP, va_K.moved hW.alike hK, hD⟩⟩, hS.F ht⟩) hS.2.2 d_X_read_19

theorem xs_read {p1 : Int32} {u m1 : Nat → Int32} (h : xs_ok u) : xs_ok (f_X_read p1 u m1).2 := by
  unfold f_X_read
  repeat' split
  all_goals exact h

def f_X_mode1 (p1 : Int32)  : Int32 :=
  if p1 = (0 : Int32) then
    (7 : Int32)
  else
    if p1 = (1 : Int32) then
      (1 : Int32)
    else
      if p1 = (2 : Int32) then
        (0 : Int32)
      else
        if p1 = (3 : Int32) then
          (4 : Int32)
        else
          if p1 = (4 : Int32) then
            (8 : Int32)
          else
            if p1 = (5 : Int32) then
              (2 : Int32)
            else
              if p1 = (6 : Int32) then
                (6 : Int32)
              else
                (5 : Int32)
abbrev Q_X_mode1 (dC : Nat → ClassId) (dI : Nat → Nat → Nat)  (p1 : Int32)  (A : Nat → Prop) : Array Value → State → Outcome → State → Prop := va_Qi (fun (r9 : Int32) (_ : Unit) => r9 = (f_X_mode1 p1)) (fun _ t => atW (dC, dI) classes A [] [] t) A
set_option maxHeartbeats 4000000 in
set_option maxRecDepth 100000 in
theorem c_X_mode1 (l : Launch) (dC : Nat → ClassId) (dI : Nat → Nat → Nat) (z0 : Nat)  (sz : Nat) (p1 : Int32)   : Met l y_X_mode1 w_X_mode1 ({ frames := 0, cells := 0, slots := 0, locals := 0 }) (PcX (dC, dI) classes z0 [] [] sz [.int p1]) (Q_X_mode1 dC dI p1 (va_A [] sz)) 0 0 (va_A [] sz) := by
  refine hdX (cc := b_X_mode1) (maxL := 1) (ret := (some .int)) (C := R_X) (Qc := (Q_X_mode1 dC dI p1)) (by decide) rfl ?_
  intro p e s m below meth c A H hx hb hr hlocks hml hown hin htB hP hK hD hA hA0 hE hS
  have hl := lv_entry ([.int p1]) (n := 1) (Nat.le_of_ble_eq_true rfl)
  rw [lg_entry_eq]
  generalize (lg_sl ([.int p1]) ++ List.replicate (1 - (lg_sl ([.int p1])).length) Slot.unset).toArray = ls at hl ⊢
  have hl : lv_has ls 1 [(0, .int p1)] := hl
  refine lv_iload_n hx hb d_X_mode1_0 rfl (lv_at hl 0 rfl) ?_
  refine lv_if_ne (tgt := 9) hx hb d_X_mode1_1 (by decide) (fun c_1 => ?_) (fun c_1 => ?_)
  · refine lv_iload_n hx hb d_X_mode1_9 rfl (lv_at hl 0 rfl) ?_
    refine lv_iconst (v := 1) hx hb d_X_mode1_10 (by decide) ?_
    refine lv_icmp_ne (tgt := 18) hx hb d_X_mode1_11 (by decide) (fun c_2 => ?_) (fun c_2 => ?_)
    · refine lv_iload_n hx hb d_X_mode1_18 rfl (lv_at hl 0 rfl) ?_
      refine lv_iconst (v := 2) hx hb d_X_mode1_19 (by decide) ?_
      refine lv_icmp_ne (tgt := 27) hx hb d_X_mode1_20 (by decide) (fun c_3 => ?_) (fun c_3 => ?_)
      · refine lv_iload_n hx hb d_X_mode1_27 rfl (lv_at hl 0 rfl) ?_
        refine lv_iconst (v := 3) hx hb d_X_mode1_28 (by decide) ?_
        refine lv_icmp_ne (tgt := 36) hx hb d_X_mode1_29 (by decide) (fun c_4 => ?_) (fun c_4 => ?_)
        · refine lv_iload_n hx hb d_X_mode1_36 rfl (lv_at hl 0 rfl) ?_
          refine lv_iconst (v := 4) hx hb d_X_mode1_37 (by decide) ?_
          refine lv_icmp_ne (tgt := 46) hx hb d_X_mode1_38 (by decide) (fun c_5 => ?_) (fun c_5 => ?_)
          · refine lv_iload_n hx hb d_X_mode1_46 rfl (lv_at hl 0 rfl) ?_
            refine lv_iconst (v := 5) hx hb d_X_mode1_47 (by decide) ?_
            refine lv_icmp_ne (tgt := 55) hx hb d_X_mode1_48 (by decide) (fun c_6 => ?_) (fun c_6 => ?_)
            · refine lv_iload_n hx hb d_X_mode1_55 rfl (lv_at hl 0 rfl) ?_
              refine lv_bipush (v := 6) hx hb d_X_mode1_56 (by decide) ?_
              refine lv_icmp_ne (tgt := 66) hx hb d_X_mode1_58 (by decide) (fun c_7 => ?_) (fun c_7 => ?_)
              · refine lv_iconst (v := 5) hx hb d_X_mode1_66 (by decide) ?_
                have hf : f_X_mode1 p1 = (5 : Int32) := by rw [f_X_mode1, if_neg c_1, if_neg c_2, if_neg c_3, if_neg c_4, if_neg c_5, if_neg c_6, if_neg c_7]
                exact W.iret (v := (5 : Int32)) hx hb hr (fun t ht hW => ⟨⟨(5 : Int32), (), rfl, hf.symm, by exact ⟨by rw [ht]; exact hP, va_K.moved hW.alike hK, hD⟩⟩, hS.F ht⟩) hS.2.2 d_X_mode1_67
              · refine lv_bipush (v := 6) hx hb d_X_mode1_61 (by decide) ?_
                refine lv_goto (tgt := 67) hx hb d_X_mode1_63 (by decide) ?_
                have hf : f_X_mode1 p1 = (6 : Int32) := by rw [f_X_mode1, if_neg c_1, if_neg c_2, if_neg c_3, if_neg c_4, if_neg c_5, if_neg c_6, if_pos c_7]
                exact W.iret (v := (6 : Int32)) hx hb hr (fun t ht hW => ⟨⟨(6 : Int32), (), rfl, hf.symm, by exact ⟨by rw [ht]; exact hP, va_K.moved hW.alike hK, hD⟩⟩, hS.F ht⟩) hS.2.2 d_X_mode1_67
            · refine lv_iconst (v := 2) hx hb d_X_mode1_51 (by decide) ?_
              refine lv_goto (tgt := 67) hx hb d_X_mode1_52 (by decide) ?_
              have hf : f_X_mode1 p1 = (2 : Int32) := by rw [f_X_mode1, if_neg c_1, if_neg c_2, if_neg c_3, if_neg c_4, if_neg c_5, if_pos c_6]
              exact W.iret (v := (2 : Int32)) hx hb hr (fun t ht hW => ⟨⟨(2 : Int32), (), rfl, hf.symm, by exact ⟨by rw [ht]; exact hP, va_K.moved hW.alike hK, hD⟩⟩, hS.F ht⟩) hS.2.2 d_X_mode1_67
          · refine lv_bipush (v := 8) hx hb d_X_mode1_41 (by decide) ?_
            refine lv_goto (tgt := 67) hx hb d_X_mode1_43 (by decide) ?_
            have hf : f_X_mode1 p1 = (8 : Int32) := by rw [f_X_mode1, if_neg c_1, if_neg c_2, if_neg c_3, if_neg c_4, if_pos c_5]
            exact W.iret (v := (8 : Int32)) hx hb hr (fun t ht hW => ⟨⟨(8 : Int32), (), rfl, hf.symm, by exact ⟨by rw [ht]; exact hP, va_K.moved hW.alike hK, hD⟩⟩, hS.F ht⟩) hS.2.2 d_X_mode1_67
        · refine lv_iconst (v := 4) hx hb d_X_mode1_32 (by decide) ?_
          refine lv_goto (tgt := 67) hx hb d_X_mode1_33 (by decide) ?_
          have hf : f_X_mode1 p1 = (4 : Int32) := by rw [f_X_mode1, if_neg c_1, if_neg c_2, if_neg c_3, if_pos c_4]
          exact W.iret (v := (4 : Int32)) hx hb hr (fun t ht hW => ⟨⟨(4 : Int32), (), rfl, hf.symm, by exact ⟨by rw [ht]; exact hP, va_K.moved hW.alike hK, hD⟩⟩, hS.F ht⟩) hS.2.2 d_X_mode1_67
      · refine lv_iconst (v := 0) hx hb d_X_mode1_23 (by decide) ?_
        refine lv_goto (tgt := 67) hx hb d_X_mode1_24 (by decide) ?_
        have hf : f_X_mode1 p1 = (0 : Int32) := by rw [f_X_mode1, if_neg c_1, if_neg c_2, if_pos c_3]
        exact W.iret (v := (0 : Int32)) hx hb hr (fun t ht hW => ⟨⟨(0 : Int32), (), rfl, hf.symm, by exact ⟨by rw [ht]; exact hP, va_K.moved hW.alike hK, hD⟩⟩, hS.F ht⟩) hS.2.2 d_X_mode1_67
    · refine lv_iconst (v := 1) hx hb d_X_mode1_14 (by decide) ?_
      refine lv_goto (tgt := 67) hx hb d_X_mode1_15 (by decide) ?_
      have hf : f_X_mode1 p1 = (1 : Int32) := by rw [f_X_mode1, if_neg c_1, if_pos c_2]
      exact W.iret (v := (1 : Int32)) hx hb hr (fun t ht hW => ⟨⟨(1 : Int32), (), rfl, hf.symm, by exact ⟨by rw [ht]; exact hP, va_K.moved hW.alike hK, hD⟩⟩, hS.F ht⟩) hS.2.2 d_X_mode1_67
  · refine lv_bipush (v := 7) hx hb d_X_mode1_4 (by decide) ?_
    refine lv_goto (tgt := 67) hx hb d_X_mode1_6 (by decide) ?_
    have hf : f_X_mode1 p1 = (7 : Int32) := by rw [f_X_mode1, if_pos c_1]
    exact W.iret (v := (7 : Int32)) hx hb hr (fun t ht hW => ⟨⟨(7 : Int32), (), rfl, hf.symm, by exact ⟨by rw [ht]; exact hP, va_K.moved hW.alike hK, hD⟩⟩, hS.F ht⟩) hS.2.2 d_X_mode1_67

def f_X_status  (ku m3 : Nat → Int32) : Int32 :=
  ((((((128 : Int32) * (m3 5)) + ((64 : Int32) * (m3 6))) + (48 : Int32)) + ((2 : Int32) * (m3 7))) + (m3 8))
abbrev Q_X_status (dC : Nat → ClassId) (dI : Nat → Nat → Nat) (x0 : Nat) (x1 : Nat) (x2 : Nat) (x3 : Nat) (x4 : Nat) (c3 : ClassId)  (ku m3 : Nat → Int32) (A : Nat → Prop) : Array Value → State → Outcome → State → Prop := va_Qi (fun (r9 : Int32) (_ : Unit) => r9 = (f_X_status ku m3)) (fun _ t => atW (dC, dI) classes A [c_X x0 x1 x2 x3 x4 ku, c_A x3 c3 9 m3] [(c3, .int)] t) A
set_option maxHeartbeats 4000000 in
set_option maxRecDepth 100000 in
theorem c_X_status (l : Launch) (dC : Nat → ClassId) (dI : Nat → Nat → Nat) (z0 : Nat) (x0 : Nat) (x1 : Nat) (x2 : Nat) (x3 : Nat) (x4 : Nat) (c3 : ClassId) (sz : Nat)  (ku m3 : Nat → Int32)  : Met l y_X_status w_X_status ({ frames := 0, cells := 0, slots := 0, locals := 0 }) (PcX (dC, dI) classes z0 [c_X x0 x1 x2 x3 x4 ku, c_A x3 c3 9 m3] [(c3, .int)] sz [.ref x0]) (Q_X_status dC dI x0 x1 x2 x3 x4 c3 ku m3 (va_A [c_X x0 x1 x2 x3 x4 ku, c_A x3 c3 9 m3] sz)) 0 0 (va_A [c_X x0 x1 x2 x3 x4 ku, c_A x3 c3 9 m3] sz) := by
  refine hdX (cc := b_X_status) (maxL := 1) (ret := (some .int)) (C := R_X) (Qc := (Q_X_status dC dI x0 x1 x2 x3 x4 c3 ku m3)) (by decide) rfl ?_
  intro p e s m below meth c A H hx hb hr hlocks hml hown hin htB hP hK hD hA hA0 hE hS
  have hl := lv_entry ([.ref x0]) (n := 1) (Nat.le_of_ble_eq_true rfl)
  rw [lg_entry_eq]
  generalize (lg_sl ([.ref x0]) ++ List.replicate (1 - (lg_sl ([.ref x0])).length) Slot.unset).toArray = ls at hl ⊢
  have hl : lv_has ls 1 [(0, .ref x0)] := hl
  refine lv_sipush (v := 128) hx hb d_X_status_0 (by decide) ?_
  refine lv_aload_n hx hb d_X_status_3 rfl (lv_at hl 0 rfl) ?_
  refine va_get (D := (dC, dI)) (ci := 3) (v := .ref x3) (C := R_X) (T := F_X) (N := 13) hx hb htB i_X hown hK hP 0 rfl rfl 2 (by decide) (htB _ mw_463) (fun _ h9 => h9) rfl d_X_status_4 ?_
  refine lv_iconst (v := 5) hx hb d_X_status_7 (by decide) ?_
  refine iald_at hx hb hK hP 1 0 rfl rfl (show ¬ ((5 : Int32) < 0 ∨ 9 ≤ (5 : Int32).toNatClampNeg) from by decide) (show (5 : Int32).toNatClampNeg = 5 from by decide) d_X_status_8 ?_
  refine lv_imul hx hb d_X_status_9 ?_
  refine lv_bipush (v := 64) hx hb d_X_status_10 (by decide) ?_
  refine lv_aload_n hx hb d_X_status_12 rfl (lv_at hl 0 rfl) ?_
  refine va_get (D := (dC, dI)) (ci := 3) (v := .ref x3) (C := R_X) (T := F_X) (N := 13) hx hb htB i_X hown hK hP 0 rfl rfl 2 (by decide) (htB _ mw_463) (fun _ h9 => h9) rfl d_X_status_13 ?_
  refine lv_bipush (v := 6) hx hb d_X_status_16 (by decide) ?_
  refine iald_at hx hb hK hP 1 0 rfl rfl (show ¬ ((6 : Int32) < 0 ∨ 9 ≤ (6 : Int32).toNatClampNeg) from by decide) (show (6 : Int32).toNatClampNeg = 6 from by decide) d_X_status_18 ?_
  refine lv_imul hx hb d_X_status_19 ?_
  refine lv_iadd hx hb d_X_status_20 ?_
  refine lv_bipush (v := 48) hx hb d_X_status_21 (by decide) ?_
  refine lv_iadd hx hb d_X_status_23 ?_
  refine lv_iconst (v := 2) hx hb d_X_status_24 (by decide) ?_
  refine lv_aload_n hx hb d_X_status_25 rfl (lv_at hl 0 rfl) ?_
  refine va_get (D := (dC, dI)) (ci := 3) (v := .ref x3) (C := R_X) (T := F_X) (N := 13) hx hb htB i_X hown hK hP 0 rfl rfl 2 (by decide) (htB _ mw_463) (fun _ h9 => h9) rfl d_X_status_26 ?_
  refine lv_bipush (v := 7) hx hb d_X_status_29 (by decide) ?_
  refine iald_at hx hb hK hP 1 0 rfl rfl (show ¬ ((7 : Int32) < 0 ∨ 9 ≤ (7 : Int32).toNatClampNeg) from by decide) (show (7 : Int32).toNatClampNeg = 7 from by decide) d_X_status_31 ?_
  refine lv_imul hx hb d_X_status_32 ?_
  refine lv_iadd hx hb d_X_status_33 ?_
  refine lv_aload_n hx hb d_X_status_34 rfl (lv_at hl 0 rfl) ?_
  refine va_get (D := (dC, dI)) (ci := 3) (v := .ref x3) (C := R_X) (T := F_X) (N := 13) hx hb htB i_X hown hK hP 0 rfl rfl 2 (by decide) (htB _ mw_463) (fun _ h9 => h9) rfl d_X_status_35 ?_
  refine lv_bipush (v := 8) hx hb d_X_status_38 (by decide) ?_
  refine iald_at hx hb hK hP 1 0 rfl rfl (show ¬ ((8 : Int32) < 0 ∨ 9 ≤ (8 : Int32).toNatClampNeg) from by decide) (show (8 : Int32).toNatClampNeg = 8 from by decide) d_X_status_40 ?_
  refine lv_iadd hx hb d_X_status_41 ?_
  have hf : f_X_status ku m3 = ((((((128 : Int32) * (m3 5)) + ((64 : Int32) * (m3 6))) + (48 : Int32)) + ((2 : Int32) * (m3 7))) + (m3 8)) := by rw [f_X_status]
  exact W.iret (v := ((((((128 : Int32) * (m3 5)) + ((64 : Int32) * (m3 6))) + (48 : Int32)) + ((2 : Int32) * (m3 7))) + (m3 8))) hx hb hr (fun t ht hW => ⟨⟨((((((128 : Int32) * (m3 5)) + ((64 : Int32) * (m3 6))) + (48 : Int32)) + ((2 : Int32) * (m3 7))) + (m3 8)), (), rfl, hf.symm, by exact ⟨by rw [ht]; exact hP, va_K.moved hW.alike hK, hD⟩⟩, hS.F ht⟩) hS.2.2 d_X_status_42

def f_X_setStatus (p1 : Int32) (ku m3 : Nat → Int32) : (Nat → Int32) :=
  (upd (upd (upd (upd m3 5 ((p1 >>> ((7 : Int32) &&& 31)) &&& (1 : Int32))) 6 ((p1 >>> ((6 : Int32) &&& 31)) &&& (1 : Int32))) 7 ((p1 >>> ((1 : Int32) &&& 31)) &&& (1 : Int32))) 8 (p1 &&& (1 : Int32)))
abbrev Q_X_setStatus (dC : Nat → ClassId) (dI : Nat → Nat → Nat) (x0 : Nat) (x1 : Nat) (x2 : Nat) (x3 : Nat) (x4 : Nat) (c3 : ClassId) (p1 : Int32) (ku m3 : Nat → Int32) (A : Nat → Prop) : Array Value → State → Outcome → State → Prop := va_Qv (fun (_ : Unit) => True) (fun _ t => atW (dC, dI) classes A [c_X x0 x1 x2 x3 x4 ku, c_A x3 c3 9 (f_X_setStatus p1 ku m3)] [(c3, .int)] t) A
set_option maxHeartbeats 4000000 in
set_option maxRecDepth 100000 in
theorem c_X_setStatus (l : Launch) (dC : Nat → ClassId) (dI : Nat → Nat → Nat) (z0 : Nat) (x0 : Nat) (x1 : Nat) (x2 : Nat) (x3 : Nat) (x4 : Nat) (c3 : ClassId) (sz : Nat) (p1 : Int32) (ku m3 : Nat → Int32)  : Met l y_X_setStatus w_X_setStatus ({ frames := 0, cells := 0, slots := 0, locals := 0 }) (PcX (dC, dI) classes z0 [c_X x0 x1 x2 x3 x4 ku, c_A x3 c3 9 m3] [(c3, .int)] sz [.ref x0, .int p1]) (Q_X_setStatus dC dI x0 x1 x2 x3 x4 c3 p1 ku m3 (va_A [c_X x0 x1 x2 x3 x4 ku, c_A x3 c3 9 m3] sz)) 0 0 (va_A [c_X x0 x1 x2 x3 x4 ku, c_A x3 c3 9 m3] sz) := by
  refine hdX (cc := b_X_setStatus) (maxL := 2) (ret := none) (C := R_X) (Qc := (Q_X_setStatus dC dI x0 x1 x2 x3 x4 c3 p1 ku m3)) (by decide) rfl ?_
  intro p e s m below meth c A H hx hb hr hlocks hml hown hin htB hP hK hD hA hA0 hE hS
  have hl := lv_entry ([.ref x0, .int p1]) (n := 2) (Nat.le_of_ble_eq_true rfl)
  rw [lg_entry_eq]
  generalize (lg_sl ([.ref x0, .int p1]) ++ List.replicate (2 - (lg_sl ([.ref x0, .int p1])).length) Slot.unset).toArray = ls at hl ⊢
  have hl : lv_has ls 2 [(0, .ref x0), (1, .int p1)] := hl
  refine lv_aload_n hx hb d_X_setStatus_0 rfl (lv_at hl 0 rfl) ?_
  refine va_get (D := (dC, dI)) (ci := 3) (v := .ref x3) (C := R_X) (T := F_X) (N := 13) hx hb htB i_X hown hK hP 0 rfl rfl 2 (by decide) (htB _ mw_463) (fun _ h9 => h9) rfl d_X_setStatus_1 ?_
  refine lv_iconst (v := 5) hx hb d_X_setStatus_4 (by decide) ?_
  refine lv_iload_n hx hb d_X_setStatus_5 rfl (lv_at hl 1 rfl) ?_
  refine lv_bipush (v := 7) hx hb d_X_setStatus_6 (by decide) ?_
  refine lv_ishr hx hb d_X_setStatus_8 ?_
  refine lv_iconst (v := 1) hx hb d_X_setStatus_9 (by decide) ?_
  refine lv_iand hx hb d_X_setStatus_10 ?_
  refine iast_at hx hb hK hP hD hS 1 0 rfl rfl (show ¬ ((5 : Int32) < 0 ∨ 9 ≤ (5 : Int32).toNatClampNeg) from by decide) (show (5 : Int32).toNatClampNeg = 5 from by decide) d_X_setStatus_11 (fun H locs hP hD hS => ?_)
  have hP : va_P (dC, dI) classes [c_X x0 x1 x2 x3 x4 ku, c_A x3 c3 9 (upd m3 5 ((p1 >>> ((7 : Int32) &&& 31)) &&& (1 : Int32)))] H := hP
  have hD : va_D A [c_X x0 x1 x2 x3 x4 ku, c_A x3 c3 9 (upd m3 5 ((p1 >>> ((7 : Int32) &&& 31)) &&& (1 : Int32)))] := hD
  refine lv_aload_n hx hb d_X_setStatus_12 rfl (lv_at hl 0 rfl) ?_
  refine va_get (D := (dC, dI)) (ci := 3) (v := .ref x3) (C := R_X) (T := F_X) (N := 13) hx hb htB i_X hown hK hP 0 rfl rfl 2 (by decide) (htB _ mw_463) (fun _ h9 => h9) rfl d_X_setStatus_13 ?_
  refine lv_bipush (v := 6) hx hb d_X_setStatus_16 (by decide) ?_
  refine lv_iload_n hx hb d_X_setStatus_18 rfl (lv_at hl 1 rfl) ?_
  refine lv_bipush (v := 6) hx hb d_X_setStatus_19 (by decide) ?_
  refine lv_ishr hx hb d_X_setStatus_21 ?_
  refine lv_iconst (v := 1) hx hb d_X_setStatus_22 (by decide) ?_
  refine lv_iand hx hb d_X_setStatus_23 ?_
  refine iast_at hx hb hK hP hD hS 1 0 rfl rfl (show ¬ ((6 : Int32) < 0 ∨ 9 ≤ (6 : Int32).toNatClampNeg) from by decide) (show (6 : Int32).toNatClampNeg = 6 from by decide) d_X_setStatus_24 (fun H locs hP hD hS => ?_)
  have hP : va_P (dC, dI) classes [c_X x0 x1 x2 x3 x4 ku, c_A x3 c3 9 (upd (upd m3 5 ((p1 >>> ((7 : Int32) &&& 31)) &&& (1 : Int32))) 6 ((p1 >>> ((6 : Int32) &&& 31)) &&& (1 : Int32)))] H := hP
  have hD : va_D A [c_X x0 x1 x2 x3 x4 ku, c_A x3 c3 9 (upd (upd m3 5 ((p1 >>> ((7 : Int32) &&& 31)) &&& (1 : Int32))) 6 ((p1 >>> ((6 : Int32) &&& 31)) &&& (1 : Int32)))] := hD
  refine lv_aload_n hx hb d_X_setStatus_25 rfl (lv_at hl 0 rfl) ?_
  refine va_get (D := (dC, dI)) (ci := 3) (v := .ref x3) (C := R_X) (T := F_X) (N := 13) hx hb htB i_X hown hK hP 0 rfl rfl 2 (by decide) (htB _ mw_463) (fun _ h9 => h9) rfl d_X_setStatus_26 ?_
  refine lv_bipush (v := 7) hx hb d_X_setStatus_29 (by decide) ?_
  refine lv_iload_n hx hb d_X_setStatus_31 rfl (lv_at hl 1 rfl) ?_
  refine lv_iconst (v := 1) hx hb d_X_setStatus_32 (by decide) ?_
  refine lv_ishr hx hb d_X_setStatus_33 ?_
  refine lv_iconst (v := 1) hx hb d_X_setStatus_34 (by decide) ?_
  refine lv_iand hx hb d_X_setStatus_35 ?_
  refine iast_at hx hb hK hP hD hS 1 0 rfl rfl (show ¬ ((7 : Int32) < 0 ∨ 9 ≤ (7 : Int32).toNatClampNeg) from by decide) (show (7 : Int32).toNatClampNeg = 7 from by decide) d_X_setStatus_36 (fun H locs hP hD hS => ?_)
  have hP : va_P (dC, dI) classes [c_X x0 x1 x2 x3 x4 ku, c_A x3 c3 9 (upd (upd (upd m3 5 ((p1 >>> ((7 : Int32) &&& 31)) &&& (1 : Int32))) 6 ((p1 >>> ((6 : Int32) &&& 31)) &&& (1 : Int32))) 7 ((p1 >>> ((1 : Int32) &&& 31)) &&& (1 : Int32)))] H := hP
  have hD : va_D A [c_X x0 x1 x2 x3 x4 ku, c_A x3 c3 9 (upd (upd (upd m3 5 ((p1 >>> ((7 : Int32) &&& 31)) &&& (1 : Int32))) 6 ((p1 >>> ((6 : Int32) &&& 31)) &&& (1 : Int32))) 7 ((p1 >>> ((1 : Int32) &&& 31)) &&& (1 : Int32)))] := hD
  refine lv_aload_n hx hb d_X_setStatus_37 rfl (lv_at hl 0 rfl) ?_
  refine va_get (D := (dC, dI)) (ci := 3) (v := .ref x3) (C := R_X) (T := F_X) (N := 13) hx hb htB i_X hown hK hP 0 rfl rfl 2 (by decide) (htB _ mw_463) (fun _ h9 => h9) rfl d_X_setStatus_38 ?_
  refine lv_bipush (v := 8) hx hb d_X_setStatus_41 (by decide) ?_
  refine lv_iload_n hx hb d_X_setStatus_43 rfl (lv_at hl 1 rfl) ?_
  refine lv_iconst (v := 1) hx hb d_X_setStatus_44 (by decide) ?_
  refine lv_iand hx hb d_X_setStatus_45 ?_
  refine iast_at hx hb hK hP hD hS 1 0 rfl rfl (show ¬ ((8 : Int32) < 0 ∨ 9 ≤ (8 : Int32).toNatClampNeg) from by decide) (show (8 : Int32).toNatClampNeg = 8 from by decide) d_X_setStatus_46 (fun H locs hP hD hS => ?_)
  have hP : va_P (dC, dI) classes [c_X x0 x1 x2 x3 x4 ku, c_A x3 c3 9 (upd (upd (upd (upd m3 5 ((p1 >>> ((7 : Int32) &&& 31)) &&& (1 : Int32))) 6 ((p1 >>> ((6 : Int32) &&& 31)) &&& (1 : Int32))) 7 ((p1 >>> ((1 : Int32) &&& 31)) &&& (1 : Int32))) 8 (p1 &&& (1 : Int32)))] H := hP
  have hD : va_D A [c_X x0 x1 x2 x3 x4 ku, c_A x3 c3 9 (upd (upd (upd (upd m3 5 ((p1 >>> ((7 : Int32) &&& 31)) &&& (1 : Int32))) 6 ((p1 >>> ((6 : Int32) &&& 31)) &&& (1 : Int32))) 7 ((p1 >>> ((1 : Int32) &&& 31)) &&& (1 : Int32))) 8 (p1 &&& (1 : Int32)))] := hD
  have hf : f_X_setStatus p1 ku m3 = (upd (upd (upd (upd m3 5 ((p1 >>> ((7 : Int32) &&& 31)) &&& (1 : Int32))) 6 ((p1 >>> ((6 : Int32) &&& 31)) &&& (1 : Int32))) 7 ((p1 >>> ((1 : Int32) &&& 31)) &&& (1 : Int32))) 8 (p1 &&& (1 : Int32))) := by rw [f_X_setStatus]
  exact W.vret hx hb hr (fun t ht hW => ⟨⟨(), rfl, trivial, by rw [hf]; exact ⟨by rw [ht]; exact hP, va_K.moved hW.alike hK, hD⟩⟩, hS.F ht⟩) hS.2.2 d_X_setStatus_47

def f_X_set (p1 : Int32) (ku m3 : Nat → Int32) : (Nat → Int32) :=
  if p1 = (0 : Int32) then
    (upd (upd m3 7 (1 : Int32)) 5 (p1 >>> ((7 : Int32) &&& 31)))
  else
    (upd (upd m3 7 (0 : Int32)) 5 (p1 >>> ((7 : Int32) &&& 31)))
abbrev Q_X_set (dC : Nat → ClassId) (dI : Nat → Nat → Nat) (x0 : Nat) (x1 : Nat) (x2 : Nat) (x3 : Nat) (x4 : Nat) (c3 : ClassId) (p1 : Int32) (ku m3 : Nat → Int32) (A : Nat → Prop) : Array Value → State → Outcome → State → Prop := va_Qv (fun (_ : Unit) => True) (fun _ t => atW (dC, dI) classes A [c_X x0 x1 x2 x3 x4 ku, c_A x3 c3 9 (f_X_set p1 ku m3)] [(c3, .int)] t) A
set_option maxHeartbeats 4000000 in
set_option maxRecDepth 100000 in
theorem c_X_set (l : Launch) (dC : Nat → ClassId) (dI : Nat → Nat → Nat) (z0 : Nat) (x0 : Nat) (x1 : Nat) (x2 : Nat) (x3 : Nat) (x4 : Nat) (c3 : ClassId) (sz : Nat) (p1 : Int32) (ku m3 : Nat → Int32)  : Met l y_X_set w_X_set ({ frames := 0, cells := 0, slots := 0, locals := 0 }) (PcX (dC, dI) classes z0 [c_X x0 x1 x2 x3 x4 ku, c_A x3 c3 9 m3] [(c3, .int)] sz [.ref x0, .int p1]) (Q_X_set dC dI x0 x1 x2 x3 x4 c3 p1 ku m3 (va_A [c_X x0 x1 x2 x3 x4 ku, c_A x3 c3 9 m3] sz)) 0 0 (va_A [c_X x0 x1 x2 x3 x4 ku, c_A x3 c3 9 m3] sz) := by
  refine hdX (cc := b_X_set) (maxL := 2) (ret := none) (C := R_X) (Qc := (Q_X_set dC dI x0 x1 x2 x3 x4 c3 p1 ku m3)) (by decide) rfl ?_
  intro p e s m below meth c A H hx hb hr hlocks hml hown hin htB hP hK hD hA hA0 hE hS
  have hl := lv_entry ([.ref x0, .int p1]) (n := 2) (Nat.le_of_ble_eq_true rfl)
  rw [lg_entry_eq]
  generalize (lg_sl ([.ref x0, .int p1]) ++ List.replicate (2 - (lg_sl ([.ref x0, .int p1])).length) Slot.unset).toArray = ls at hl ⊢
  have hl : lv_has ls 2 [(0, .ref x0), (1, .int p1)] := hl
  refine lv_aload_n hx hb d_X_set_0 rfl (lv_at hl 0 rfl) ?_
  refine va_get (D := (dC, dI)) (ci := 3) (v := .ref x3) (C := R_X) (T := F_X) (N := 13) hx hb htB i_X hown hK hP 0 rfl rfl 2 (by decide) (htB _ mw_463) (fun _ h9 => h9) rfl d_X_set_1 ?_
  refine lv_bipush (v := 7) hx hb d_X_set_4 (by decide) ?_
  refine lv_iload_n hx hb d_X_set_6 rfl (lv_at hl 1 rfl) ?_
  refine lv_if_ne (tgt := 14) hx hb d_X_set_7 (by decide) (fun c_1 => ?_) (fun c_1 => ?_)
  · refine lv_iconst (v := 0) hx hb d_X_set_14 (by decide) ?_
    refine iast_at hx hb hK hP hD hS 1 0 rfl rfl (show ¬ ((7 : Int32) < 0 ∨ 9 ≤ (7 : Int32).toNatClampNeg) from by decide) (show (7 : Int32).toNatClampNeg = 7 from by decide) d_X_set_15 (fun H locs hP hD hS => ?_)
    have hP : va_P (dC, dI) classes [c_X x0 x1 x2 x3 x4 ku, c_A x3 c3 9 (upd m3 7 (0 : Int32))] H := hP
    have hD : va_D A [c_X x0 x1 x2 x3 x4 ku, c_A x3 c3 9 (upd m3 7 (0 : Int32))] := hD
    refine lv_aload_n hx hb d_X_set_16 rfl (lv_at hl 0 rfl) ?_
    refine va_get (D := (dC, dI)) (ci := 3) (v := .ref x3) (C := R_X) (T := F_X) (N := 13) hx hb htB i_X hown hK hP 0 rfl rfl 2 (by decide) (htB _ mw_463) (fun _ h9 => h9) rfl d_X_set_17 ?_
    refine lv_iconst (v := 5) hx hb d_X_set_20 (by decide) ?_
    refine lv_iload_n hx hb d_X_set_21 rfl (lv_at hl 1 rfl) ?_
    refine lv_bipush (v := 7) hx hb d_X_set_22 (by decide) ?_
    refine lv_ishr hx hb d_X_set_24 ?_
    refine iast_at hx hb hK hP hD hS 1 0 rfl rfl (show ¬ ((5 : Int32) < 0 ∨ 9 ≤ (5 : Int32).toNatClampNeg) from by decide) (show (5 : Int32).toNatClampNeg = 5 from by decide) d_X_set_25 (fun H locs hP hD hS => ?_)
    have hP : va_P (dC, dI) classes [c_X x0 x1 x2 x3 x4 ku, c_A x3 c3 9 (upd (upd m3 7 (0 : Int32)) 5 (p1 >>> ((7 : Int32) &&& 31)))] H := hP
    have hD : va_D A [c_X x0 x1 x2 x3 x4 ku, c_A x3 c3 9 (upd (upd m3 7 (0 : Int32)) 5 (p1 >>> ((7 : Int32) &&& 31)))] := hD
    have hf : f_X_set p1 ku m3 = (upd (upd m3 7 (0 : Int32)) 5 (p1 >>> ((7 : Int32) &&& 31))) := by rw [f_X_set, if_neg c_1]
    exact W.vret hx hb hr (fun t ht hW => ⟨⟨(), rfl, trivial, by rw [hf]; exact ⟨by rw [ht]; exact hP, va_K.moved hW.alike hK, hD⟩⟩, hS.F ht⟩) hS.2.2 d_X_set_26
  · refine lv_iconst (v := 1) hx hb d_X_set_10 (by decide) ?_
    refine lv_goto (tgt := 15) hx hb d_X_set_11 (by decide) ?_
    refine iast_at hx hb hK hP hD hS 1 0 rfl rfl (show ¬ ((7 : Int32) < 0 ∨ 9 ≤ (7 : Int32).toNatClampNeg) from by decide) (show (7 : Int32).toNatClampNeg = 7 from by decide) d_X_set_15 (fun H locs hP hD hS => ?_)
    have hP : va_P (dC, dI) classes [c_X x0 x1 x2 x3 x4 ku, c_A x3 c3 9 (upd m3 7 (1 : Int32))] H := hP
    have hD : va_D A [c_X x0 x1 x2 x3 x4 ku, c_A x3 c3 9 (upd m3 7 (1 : Int32))] := hD
    refine lv_aload_n hx hb d_X_set_16 rfl (lv_at hl 0 rfl) ?_
    refine va_get (D := (dC, dI)) (ci := 3) (v := .ref x3) (C := R_X) (T := F_X) (N := 13) hx hb htB i_X hown hK hP 0 rfl rfl 2 (by decide) (htB _ mw_463) (fun _ h9 => h9) rfl d_X_set_17 ?_
    refine lv_iconst (v := 5) hx hb d_X_set_20 (by decide) ?_
    refine lv_iload_n hx hb d_X_set_21 rfl (lv_at hl 1 rfl) ?_
    refine lv_bipush (v := 7) hx hb d_X_set_22 (by decide) ?_
    refine lv_ishr hx hb d_X_set_24 ?_
    refine iast_at hx hb hK hP hD hS 1 0 rfl rfl (show ¬ ((5 : Int32) < 0 ∨ 9 ≤ (5 : Int32).toNatClampNeg) from by decide) (show (5 : Int32).toNatClampNeg = 5 from by decide) d_X_set_25 (fun H locs hP hD hS => ?_)
    have hP : va_P (dC, dI) classes [c_X x0 x1 x2 x3 x4 ku, c_A x3 c3 9 (upd (upd m3 7 (1 : Int32)) 5 (p1 >>> ((7 : Int32) &&& 31)))] H := hP
    have hD : va_D A [c_X x0 x1 x2 x3 x4 ku, c_A x3 c3 9 (upd (upd m3 7 (1 : Int32)) 5 (p1 >>> ((7 : Int32) &&& 31)))] := hD
    have hf : f_X_set p1 ku m3 = (upd (upd m3 7 (1 : Int32)) 5 (p1 >>> ((7 : Int32) &&& 31))) := by rw [f_X_set, if_pos c_1]
    exact W.vret hx hb hr (fun t ht hW => ⟨⟨(), rfl, trivial, by rw [hf]; exact ⟨by rw [ht]; exact hP, va_K.moved hW.alike hK, hD⟩⟩, hS.F ht⟩) hS.2.2 d_X_set_26

def f_X_put3 (p1 : Int32) (p2 : Int32) (p3 : Int32) (ku m3 : Nat → Int32) : (Nat → Int32) :=
  if p3 = (0 : Int32) then
    (upd m3 p1.toNatClampNeg (p2 &&& (255 : Int32)))
  else
    (f_X_set ((upd m3 p1.toNatClampNeg (p2 &&& (255 : Int32))) p1.toNatClampNeg) ku (upd m3 p1.toNatClampNeg (p2 &&& (255 : Int32))))
abbrev Q_X_put3 (dC : Nat → ClassId) (dI : Nat → Nat → Nat) (x0 : Nat) (x1 : Nat) (x2 : Nat) (x3 : Nat) (x4 : Nat) (c3 : ClassId) (p1 : Int32) (p2 : Int32) (p3 : Int32) (ku m3 : Nat → Int32) (A : Nat → Prop) : Array Value → State → Outcome → State → Prop := va_Qv (fun (_ : Unit) => True) (fun _ t => atW (dC, dI) classes A [c_X x0 x1 x2 x3 x4 ku, c_A x3 c3 9 (f_X_put3 p1 p2 p3 ku m3)] [(c3, .int)] t) A
set_option maxHeartbeats 4000000 in
set_option maxRecDepth 100000 in
theorem c_X_put3 (l : Launch) (dC : Nat → ClassId) (dI : Nat → Nat → Nat) (z0 : Nat) (x0 : Nat) (x1 : Nat) (x2 : Nat) (x3 : Nat) (x4 : Nat) (c3 : ClassId) (sz : Nat) (p1 : Int32) (p2 : Int32) (p3 : Int32) (ku m3 : Nat → Int32) (hreg : vp_in p1 9) : Met l y_X_put3 w_X_put3 ({ frames := 1, cells := 0, slots := 0, locals := 21 }) (PcX (dC, dI) classes z0 [c_X x0 x1 x2 x3 x4 ku, c_A x3 c3 9 m3] [(c3, .int)] sz [.ref x0, .int p1, .int p2, .int p3]) (Q_X_put3 dC dI x0 x1 x2 x3 x4 c3 p1 p2 p3 ku m3 (va_A [c_X x0 x1 x2 x3 x4 ku, c_A x3 c3 9 m3] sz)) 0 0 (va_A [c_X x0 x1 x2 x3 x4 ku, c_A x3 c3 9 m3] sz) := by
  refine hdX (cc := b_X_put3) (maxL := 4) (ret := none) (C := R_X) (Qc := (Q_X_put3 dC dI x0 x1 x2 x3 x4 c3 p1 p2 p3 ku m3)) (by decide) rfl ?_
  intro p e s m below meth c A H hx hb hr hlocks hml hown hin htB hP hK hD hA hA0 hE hS
  have hl := lv_entry ([.ref x0, .int p1, .int p2, .int p3]) (n := 4) (Nat.le_of_ble_eq_true rfl)
  rw [lg_entry_eq]
  generalize (lg_sl ([.ref x0, .int p1, .int p2, .int p3]) ++ List.replicate (4 - (lg_sl ([.ref x0, .int p1, .int p2, .int p3])).length) Slot.unset).toArray = ls at hl ⊢
  have hl : lv_has ls 4 [(0, .ref x0), (1, .int p1), (2, .int p2), (3, .int p3)] := hl
  refine lv_aload_n hx hb d_X_put3_0 rfl (lv_at hl 0 rfl) ?_
  refine va_get (D := (dC, dI)) (ci := 3) (v := .ref x3) (C := R_X) (T := F_X) (N := 13) hx hb htB i_X hown hK hP 0 rfl rfl 2 (by decide) (htB _ mw_463) (fun _ h9 => h9) rfl d_X_put3_1 ?_
  refine lv_iload_n hx hb d_X_put3_4 rfl (lv_at hl 1 rfl) ?_
  refine lv_iload_n hx hb d_X_put3_5 rfl (lv_at hl 2 rfl) ?_
  refine lv_sipush (v := 255) hx hb d_X_put3_6 (by decide) ?_
  refine lv_iand hx hb d_X_put3_9 ?_
  refine va_iast hx hb hK hP hD hS 1 0 rfl rfl hreg d_X_put3_10 (fun H locs hP hD hS => ?_)
  have hP : va_P (dC, dI) classes [c_X x0 x1 x2 x3 x4 ku, c_A x3 c3 9 (upd m3 p1.toNatClampNeg (p2 &&& (255 : Int32)))] H := hP
  have hD : va_D A [c_X x0 x1 x2 x3 x4 ku, c_A x3 c3 9 (upd m3 p1.toNatClampNeg (p2 &&& (255 : Int32)))] := hD
  refine lv_iload_n hx hb d_X_put3_11 rfl (lv_at hl 3 rfl) ?_
  refine lv_if_eq (tgt := 25) hx hb d_X_put3_12 (by decide) (fun c_1 => ?_) (fun c_1 => ?_)
  · have hf : f_X_put3 p1 p2 p3 ku m3 = (upd m3 p1.toNatClampNeg (p2 &&& (255 : Int32))) := by rw [f_X_put3, if_pos c_1]
    exact W.vret hx hb hr (fun t ht hW => ⟨⟨(), rfl, trivial, by rw [hf]; exact ⟨by rw [ht]; exact hP, va_K.moved hW.alike hK, hD⟩⟩, hS.F ht⟩) hS.2.2 d_X_put3_25
  · refine lv_aload_n hx hb d_X_put3_15 rfl (lv_at hl 0 rfl) ?_
    refine lv_aload_n hx hb d_X_put3_16 rfl (lv_at hl 0 rfl) ?_
    refine va_get (D := (dC, dI)) (ci := 3) (v := .ref x3) (C := R_X) (T := F_X) (N := 13) hx hb htB i_X hown hK hP 0 rfl rfl 2 (by decide) (htB _ mw_463) (fun _ h9 => h9) rfl d_X_put3_17 ?_
    refine lv_iload_n hx hb d_X_put3_20 rfl (lv_at hl 1 rfl) ?_
    refine va_iald hx hb hK hP 1 0 rfl rfl hreg d_X_put3_21 ?_
    have hPc := hP.sub (ws' := [c_X x0 x1 x2 x3 x4 ku, c_A x3 c3 9 (upd m3 p1.toNatClampNeg (p2 &&& (255 : Int32)))]) [0, 1] rfl
    have hDc := hD.sub (ws' := [c_X x0 x1 x2 x3 x4 ku, c_A x3 c3 9 (upd m3 p1.toNatClampNeg (p2 &&& (255 : Int32)))]) [0, 1] (by decide) rfl
    have hKc := hK.sub (tys' := [(c3, .int)]) [0] rfl
    have hFc := va_free (wc := [c_X x0 x1 x2 x3 x4 ku, c_A x3 c3 9 (upd m3 p1.toNatClampNeg (p2 &&& (255 : Int32)))]) hD hS hA [0, 1] rfl
    refine va_callv (va_runV (As := [.int ((upd m3 p1.toNatClampNeg (p2 &&& (255 : Int32))) p1.toNatClampNeg)]) (rest := []) ⟨hx, hb, hml, hown, htB⟩ (c_X_set l dC dI z0 x0 x1 x2 x3 x4 c3 H.size ((upd m3 p1.toNatClampNeg (p2 &&& (255 : Int32))) p1.toNatClampNeg) ku (upd m3 p1.toNatClampNeg (p2 &&& (255 : Int32)))) (cwV 1 htB (gd_V mw_591 mw_593 sw_X_set mw_4 mw_594) rfl rfl rfl (by decide +kernel) ⟨Nat.le_of_ble_eq_true rfl, Nat.le_of_ble_eq_true rfl⟩) (pcx_V (va_recv hKc hPc (ci := 3) (q0 := 0) rfl rfl) hPc hKc hDc hA0 hE hS) rfl rfl hl.1 rfl (lv_room (Nat.le_of_ble_eq_true rfl)) d_X_put3_22 ⟨Nat.zero_le _, Nat.zero_le _⟩) hS (fun q _ h => hFc q h) hFc (fun u t H1 locs ht hvm hw hB hz1 hk1 hS => ?_)
    obtain ⟨hP1, hK1, hD1⟩ := hB
    rw [ht] at hP1
    obtain ⟨hP, hD⟩ := va_join (wr := []) (w1 := [c_X x0 x1 x2 x3 x4 ku, c_A x3 c3 9 (f_X_set ((upd m3 p1.toNatClampNeg (p2 &&& (255 : Int32))) p1.toNatClampNeg) ku (upd m3 p1.toNatClampNeg (p2 &&& (255 : Int32))))]) hP hD [0, 1] [] rfl rfl (by decide) (by decide) hk1 hFc hP1 hD1
    generalize H1 = H at hP hS ⊢
    have hP : va_P (dC, dI) classes [c_X x0 x1 x2 x3 x4 ku, c_A x3 c3 9 (f_X_set ((upd m3 p1.toNatClampNeg (p2 &&& (255 : Int32))) p1.toNatClampNeg) ku (upd m3 p1.toNatClampNeg (p2 &&& (255 : Int32))))] H := hP.sub [0, 1] rfl
    have hD : va_D A [c_X x0 x1 x2 x3 x4 ku, c_A x3 c3 9 (f_X_set ((upd m3 p1.toNatClampNeg (p2 &&& (255 : Int32))) p1.toNatClampNeg) ku (upd m3 p1.toNatClampNeg (p2 &&& (255 : Int32))))] := hD.sub [0, 1] (by decide) rfl
    have hf : f_X_put3 p1 p2 p3 ku m3 = (f_X_set ((upd m3 p1.toNatClampNeg (p2 &&& (255 : Int32))) p1.toNatClampNeg) ku (upd m3 p1.toNatClampNeg (p2 &&& (255 : Int32)))) := by rw [f_X_put3, if_neg c_1]
    exact W.vret hx hb hr (fun t ht hW => ⟨⟨(), rfl, trivial, by rw [hf]; exact ⟨by rw [ht]; exact hP, va_K.moved hW.alike hK, hD⟩⟩, hS.F ht⟩) hS.2.2 d_X_put3_25

def f_X_compare (p1 : Int32) (p2 : Int32) (ku m3 : Nat → Int32) : (Nat → Int32) :=
  if p1 < p2 then
    (f_X_set ((p1 - p2) &&& (255 : Int32)) ku (upd m3 8 (0 : Int32)))
  else
    (f_X_set ((p1 - p2) &&& (255 : Int32)) ku (upd m3 8 (1 : Int32)))
abbrev Q_X_compare (dC : Nat → ClassId) (dI : Nat → Nat → Nat) (x0 : Nat) (x1 : Nat) (x2 : Nat) (x3 : Nat) (x4 : Nat) (c3 : ClassId) (p1 : Int32) (p2 : Int32) (ku m3 : Nat → Int32) (A : Nat → Prop) : Array Value → State → Outcome → State → Prop := va_Qv (fun (_ : Unit) => True) (fun _ t => atW (dC, dI) classes A [c_X x0 x1 x2 x3 x4 ku, c_A x3 c3 9 (f_X_compare p1 p2 ku m3)] [(c3, .int)] t) A
set_option maxHeartbeats 4000000 in
set_option maxRecDepth 100000 in
theorem c_X_compare (l : Launch) (dC : Nat → ClassId) (dI : Nat → Nat → Nat) (z0 : Nat) (x0 : Nat) (x1 : Nat) (x2 : Nat) (x3 : Nat) (x4 : Nat) (c3 : ClassId) (sz : Nat) (p1 : Int32) (p2 : Int32) (ku m3 : Nat → Int32)  : Met l y_X_compare w_X_compare ({ frames := 1, cells := 0, slots := 0, locals := 21 }) (PcX (dC, dI) classes z0 [c_X x0 x1 x2 x3 x4 ku, c_A x3 c3 9 m3] [(c3, .int)] sz [.ref x0, .int p1, .int p2]) (Q_X_compare dC dI x0 x1 x2 x3 x4 c3 p1 p2 ku m3 (va_A [c_X x0 x1 x2 x3 x4 ku, c_A x3 c3 9 m3] sz)) 0 0 (va_A [c_X x0 x1 x2 x3 x4 ku, c_A x3 c3 9 m3] sz) := by
  refine hdX (cc := b_X_compare) (maxL := 3) (ret := none) (C := R_X) (Qc := (Q_X_compare dC dI x0 x1 x2 x3 x4 c3 p1 p2 ku m3)) (by decide) rfl ?_
  intro p e s m below meth c A H hx hb hr hlocks hml hown hin htB hP hK hD hA hA0 hE hS
  have hl := lv_entry ([.ref x0, .int p1, .int p2]) (n := 3) (Nat.le_of_ble_eq_true rfl)
  rw [lg_entry_eq]
  generalize (lg_sl ([.ref x0, .int p1, .int p2]) ++ List.replicate (3 - (lg_sl ([.ref x0, .int p1, .int p2])).length) Slot.unset).toArray = ls at hl ⊢
  have hl : lv_has ls 3 [(0, .ref x0), (1, .int p1), (2, .int p2)] := hl
  refine lv_aload_n hx hb d_X_compare_0 rfl (lv_at hl 0 rfl) ?_
  refine va_get (D := (dC, dI)) (ci := 3) (v := .ref x3) (C := R_X) (T := F_X) (N := 13) hx hb htB i_X hown hK hP 0 rfl rfl 2 (by decide) (htB _ mw_463) (fun _ h9 => h9) rfl d_X_compare_1 ?_
  refine lv_bipush (v := 8) hx hb d_X_compare_4 (by decide) ?_
  refine lv_iload_n hx hb d_X_compare_6 rfl (lv_at hl 1 rfl) ?_
  refine lv_iload_n hx hb d_X_compare_7 rfl (lv_at hl 2 rfl) ?_
  refine lv_icmp_lt (tgt := 15) hx hb d_X_compare_8 (by decide) (fun c_1 => ?_) (fun c_1 => ?_)
  · refine lv_iconst (v := 0) hx hb d_X_compare_15 (by decide) ?_
    refine iast_at hx hb hK hP hD hS 1 0 rfl rfl (show ¬ ((8 : Int32) < 0 ∨ 9 ≤ (8 : Int32).toNatClampNeg) from by decide) (show (8 : Int32).toNatClampNeg = 8 from by decide) d_X_compare_16 (fun H locs hP hD hS => ?_)
    have hP : va_P (dC, dI) classes [c_X x0 x1 x2 x3 x4 ku, c_A x3 c3 9 (upd m3 8 (0 : Int32))] H := hP
    have hD : va_D A [c_X x0 x1 x2 x3 x4 ku, c_A x3 c3 9 (upd m3 8 (0 : Int32))] := hD
    refine lv_aload_n hx hb d_X_compare_17 rfl (lv_at hl 0 rfl) ?_
    refine lv_iload_n hx hb d_X_compare_18 rfl (lv_at hl 1 rfl) ?_
    refine lv_iload_n hx hb d_X_compare_19 rfl (lv_at hl 2 rfl) ?_
    refine lv_isub hx hb d_X_compare_20 ?_
    refine lv_sipush (v := 255) hx hb d_X_compare_21 (by decide) ?_
    refine lv_iand hx hb d_X_compare_24 ?_
    have hPc := hP.sub (ws' := [c_X x0 x1 x2 x3 x4 ku, c_A x3 c3 9 (upd m3 8 (0 : Int32))]) [0, 1] rfl
    have hDc := hD.sub (ws' := [c_X x0 x1 x2 x3 x4 ku, c_A x3 c3 9 (upd m3 8 (0 : Int32))]) [0, 1] (by decide) rfl
    have hKc := hK.sub (tys' := [(c3, .int)]) [0] rfl
    have hFc := va_free (wc := [c_X x0 x1 x2 x3 x4 ku, c_A x3 c3 9 (upd m3 8 (0 : Int32))]) hD hS hA [0, 1] rfl
    refine va_callv (va_runV (As := [.int ((p1 - p2) &&& (255 : Int32))]) (rest := []) ⟨hx, hb, hml, hown, htB⟩ (c_X_set l dC dI z0 x0 x1 x2 x3 x4 c3 H.size ((p1 - p2) &&& (255 : Int32)) ku (upd m3 8 (0 : Int32))) (cwV 1 htB (gd_V mw_591 mw_593 sw_X_set mw_4 mw_594) rfl rfl rfl (by decide +kernel) ⟨Nat.le_of_ble_eq_true rfl, Nat.le_of_ble_eq_true rfl⟩) (pcx_V (va_recv hKc hPc (ci := 3) (q0 := 0) rfl rfl) hPc hKc hDc hA0 hE hS) rfl rfl hl.1 rfl (lv_room (Nat.le_of_ble_eq_true rfl)) d_X_compare_25 ⟨Nat.zero_le _, Nat.zero_le _⟩) hS (fun q _ h => hFc q h) hFc (fun u t H1 locs ht hvm hw hB hz1 hk1 hS => ?_)
    obtain ⟨hP1, hK1, hD1⟩ := hB
    rw [ht] at hP1
    obtain ⟨hP, hD⟩ := va_join (wr := []) (w1 := [c_X x0 x1 x2 x3 x4 ku, c_A x3 c3 9 (f_X_set ((p1 - p2) &&& (255 : Int32)) ku (upd m3 8 (0 : Int32)))]) hP hD [0, 1] [] rfl rfl (by decide) (by decide) hk1 hFc hP1 hD1
    generalize H1 = H at hP hS ⊢
    have hP : va_P (dC, dI) classes [c_X x0 x1 x2 x3 x4 ku, c_A x3 c3 9 (f_X_set ((p1 - p2) &&& (255 : Int32)) ku (upd m3 8 (0 : Int32)))] H := hP.sub [0, 1] rfl
    have hD : va_D A [c_X x0 x1 x2 x3 x4 ku, c_A x3 c3 9 (f_X_set ((p1 - p2) &&& (255 : Int32)) ku (upd m3 8 (0 : Int32)))] := hD.sub [0, 1] (by decide) rfl
    have hf : f_X_compare p1 p2 ku m3 = (f_X_set ((p1 - p2) &&& (255 : Int32)) ku (upd m3 8 (0 : Int32))) := by rw [f_X_compare, if_pos c_1]
    exact W.vret hx hb hr (fun t ht hW => ⟨⟨(), rfl, trivial, by rw [hf]; exact ⟨by rw [ht]; exact hP, va_K.moved hW.alike hK, hD⟩⟩, hS.F ht⟩) hS.2.2 d_X_compare_28
  · refine lv_iconst (v := 1) hx hb d_X_compare_11 (by decide) ?_
    refine lv_goto (tgt := 16) hx hb d_X_compare_12 (by decide) ?_
    refine iast_at hx hb hK hP hD hS 1 0 rfl rfl (show ¬ ((8 : Int32) < 0 ∨ 9 ≤ (8 : Int32).toNatClampNeg) from by decide) (show (8 : Int32).toNatClampNeg = 8 from by decide) d_X_compare_16 (fun H locs hP hD hS => ?_)
    have hP : va_P (dC, dI) classes [c_X x0 x1 x2 x3 x4 ku, c_A x3 c3 9 (upd m3 8 (1 : Int32))] H := hP
    have hD : va_D A [c_X x0 x1 x2 x3 x4 ku, c_A x3 c3 9 (upd m3 8 (1 : Int32))] := hD
    refine lv_aload_n hx hb d_X_compare_17 rfl (lv_at hl 0 rfl) ?_
    refine lv_iload_n hx hb d_X_compare_18 rfl (lv_at hl 1 rfl) ?_
    refine lv_iload_n hx hb d_X_compare_19 rfl (lv_at hl 2 rfl) ?_
    refine lv_isub hx hb d_X_compare_20 ?_
    refine lv_sipush (v := 255) hx hb d_X_compare_21 (by decide) ?_
    refine lv_iand hx hb d_X_compare_24 ?_
    have hPc := hP.sub (ws' := [c_X x0 x1 x2 x3 x4 ku, c_A x3 c3 9 (upd m3 8 (1 : Int32))]) [0, 1] rfl
    have hDc := hD.sub (ws' := [c_X x0 x1 x2 x3 x4 ku, c_A x3 c3 9 (upd m3 8 (1 : Int32))]) [0, 1] (by decide) rfl
    have hKc := hK.sub (tys' := [(c3, .int)]) [0] rfl
    have hFc := va_free (wc := [c_X x0 x1 x2 x3 x4 ku, c_A x3 c3 9 (upd m3 8 (1 : Int32))]) hD hS hA [0, 1] rfl
    refine va_callv (va_runV (As := [.int ((p1 - p2) &&& (255 : Int32))]) (rest := []) ⟨hx, hb, hml, hown, htB⟩ (c_X_set l dC dI z0 x0 x1 x2 x3 x4 c3 H.size ((p1 - p2) &&& (255 : Int32)) ku (upd m3 8 (1 : Int32))) (cwV 1 htB (gd_V mw_591 mw_593 sw_X_set mw_4 mw_594) rfl rfl rfl (by decide +kernel) ⟨Nat.le_of_ble_eq_true rfl, Nat.le_of_ble_eq_true rfl⟩) (pcx_V (va_recv hKc hPc (ci := 3) (q0 := 0) rfl rfl) hPc hKc hDc hA0 hE hS) rfl rfl hl.1 rfl (lv_room (Nat.le_of_ble_eq_true rfl)) d_X_compare_25 ⟨Nat.zero_le _, Nat.zero_le _⟩) hS (fun q _ h => hFc q h) hFc (fun u t H1 locs ht hvm hw hB hz1 hk1 hS => ?_)
    obtain ⟨hP1, hK1, hD1⟩ := hB
    rw [ht] at hP1
    obtain ⟨hP, hD⟩ := va_join (wr := []) (w1 := [c_X x0 x1 x2 x3 x4 ku, c_A x3 c3 9 (f_X_set ((p1 - p2) &&& (255 : Int32)) ku (upd m3 8 (1 : Int32)))]) hP hD [0, 1] [] rfl rfl (by decide) (by decide) hk1 hFc hP1 hD1
    generalize H1 = H at hP hS ⊢
    have hP : va_P (dC, dI) classes [c_X x0 x1 x2 x3 x4 ku, c_A x3 c3 9 (f_X_set ((p1 - p2) &&& (255 : Int32)) ku (upd m3 8 (1 : Int32)))] H := hP.sub [0, 1] rfl
    have hD : va_D A [c_X x0 x1 x2 x3 x4 ku, c_A x3 c3 9 (f_X_set ((p1 - p2) &&& (255 : Int32)) ku (upd m3 8 (1 : Int32)))] := hD.sub [0, 1] (by decide) rfl
    have hf : f_X_compare p1 p2 ku m3 = (f_X_set ((p1 - p2) &&& (255 : Int32)) ku (upd m3 8 (1 : Int32))) := by rw [f_X_compare, if_neg c_1]
    exact W.vret hx hb hr (fun t ht hW => ⟨⟨(), rfl, trivial, by rw [hf]; exact ⟨by rw [ht]; exact hP, va_K.moved hW.alike hK, hD⟩⟩, hS.F ht⟩) hS.2.2 d_X_compare_28

def f_X_add (p1 : Int32) (ku m3 : Nat → Int32) : (Nat → Int32) :=
  if ((((m3 0) ^^^ (((m3 0) + p1) + (m3 8))) &&& (p1 ^^^ (((m3 0) + p1) + (m3 8)))) &&& (128 : Int32)) = (0 : Int32) then
    (f_X_put3 (0 : Int32) (((m3 0) + p1) + (m3 8)) (1 : Int32) ku (upd (upd m3 6 (0 : Int32)) 8 ((((m3 0) + p1) + (m3 8)) >>> ((8 : Int32) &&& 31))))
  else
    (f_X_put3 (0 : Int32) (((m3 0) + p1) + (m3 8)) (1 : Int32) ku (upd (upd m3 6 (1 : Int32)) 8 ((((m3 0) + p1) + (m3 8)) >>> ((8 : Int32) &&& 31))))
abbrev Q_X_add (dC : Nat → ClassId) (dI : Nat → Nat → Nat) (x0 : Nat) (x1 : Nat) (x2 : Nat) (x3 : Nat) (x4 : Nat) (c3 : ClassId) (p1 : Int32) (ku m3 : Nat → Int32) (A : Nat → Prop) : Array Value → State → Outcome → State → Prop := va_Qv (fun (_ : Unit) => True) (fun _ t => atW (dC, dI) classes A [c_X x0 x1 x2 x3 x4 ku, c_A x3 c3 9 (f_X_add p1 ku m3)] [(c3, .int)] t) A
set_option maxHeartbeats 4000000 in
set_option maxRecDepth 100000 in
theorem c_X_add (l : Launch) (dC : Nat → ClassId) (dI : Nat → Nat → Nat) (z0 : Nat) (x0 : Nat) (x1 : Nat) (x2 : Nat) (x3 : Nat) (x4 : Nat) (c3 : ClassId) (sz : Nat) (p1 : Int32) (ku m3 : Nat → Int32)  : Met l y_X_add w_X_add ({ frames := 2, cells := 0, slots := 0, locals := 44 }) (PcX (dC, dI) classes z0 [c_X x0 x1 x2 x3 x4 ku, c_A x3 c3 9 m3] [(c3, .int)] sz [.ref x0, .int p1]) (Q_X_add dC dI x0 x1 x2 x3 x4 c3 p1 ku m3 (va_A [c_X x0 x1 x2 x3 x4 ku, c_A x3 c3 9 m3] sz)) 0 0 (va_A [c_X x0 x1 x2 x3 x4 ku, c_A x3 c3 9 m3] sz) := by
  refine hdX (cc := b_X_add) (maxL := 3) (ret := none) (C := R_X) (Qc := (Q_X_add dC dI x0 x1 x2 x3 x4 c3 p1 ku m3)) (by decide) rfl ?_
  intro p e s m below meth c A H hx hb hr hlocks hml hown hin htB hP hK hD hA hA0 hE hS
  have hl := lv_entry ([.ref x0, .int p1]) (n := 3) (Nat.le_of_ble_eq_true rfl)
  rw [lg_entry_eq]
  generalize (lg_sl ([.ref x0, .int p1]) ++ List.replicate (3 - (lg_sl ([.ref x0, .int p1])).length) Slot.unset).toArray = ls at hl ⊢
  have hl : lv_has ls 3 [(0, .ref x0), (1, .int p1)] := hl
  refine lv_aload_n hx hb d_X_add_0 rfl (lv_at hl 0 rfl) ?_
  refine va_get (D := (dC, dI)) (ci := 3) (v := .ref x3) (C := R_X) (T := F_X) (N := 13) hx hb htB i_X hown hK hP 0 rfl rfl 2 (by decide) (htB _ mw_463) (fun _ h9 => h9) rfl d_X_add_1 ?_
  refine lv_iconst (v := 0) hx hb d_X_add_4 (by decide) ?_
  refine iald_at hx hb hK hP 1 0 rfl rfl (show ¬ ((0 : Int32) < 0 ∨ 9 ≤ (0 : Int32).toNatClampNeg) from by decide) (show (0 : Int32).toNatClampNeg = 0 from by decide) d_X_add_5 ?_
  refine lv_iload_n hx hb d_X_add_6 rfl (lv_at hl 1 rfl) ?_
  refine lv_iadd hx hb d_X_add_7 ?_
  refine lv_aload_n hx hb d_X_add_8 rfl (lv_at hl 0 rfl) ?_
  refine va_get (D := (dC, dI)) (ci := 3) (v := .ref x3) (C := R_X) (T := F_X) (N := 13) hx hb htB i_X hown hK hP 0 rfl rfl 2 (by decide) (htB _ mw_463) (fun _ h9 => h9) rfl d_X_add_9 ?_
  refine lv_bipush (v := 8) hx hb d_X_add_12 (by decide) ?_
  refine iald_at hx hb hK hP 1 0 rfl rfl (show ¬ ((8 : Int32) < 0 ∨ 9 ≤ (8 : Int32).toNatClampNeg) from by decide) (show (8 : Int32).toNatClampNeg = 8 from by decide) d_X_add_14 ?_
  refine lv_iadd hx hb d_X_add_15 ?_
  refine lv_istore_n (lv' := [(2, .int (((m3 0) + p1) + (m3 8))), (0, .ref x0), (1, .int p1)]) hx hb d_X_add_16 rfl hl (by decide) rfl (fun ls hl => ?_)
  refine lv_aload_n hx hb d_X_add_17 rfl (lv_at hl 1 rfl) ?_
  refine va_get (D := (dC, dI)) (ci := 3) (v := .ref x3) (C := R_X) (T := F_X) (N := 13) hx hb htB i_X hown hK hP 0 rfl rfl 2 (by decide) (htB _ mw_463) (fun _ h9 => h9) rfl d_X_add_18 ?_
  refine lv_bipush (v := 6) hx hb d_X_add_21 (by decide) ?_
  refine lv_aload_n hx hb d_X_add_23 rfl (lv_at hl 1 rfl) ?_
  refine va_get (D := (dC, dI)) (ci := 3) (v := .ref x3) (C := R_X) (T := F_X) (N := 13) hx hb htB i_X hown hK hP 0 rfl rfl 2 (by decide) (htB _ mw_463) (fun _ h9 => h9) rfl d_X_add_24 ?_
  refine lv_iconst (v := 0) hx hb d_X_add_27 (by decide) ?_
  refine iald_at hx hb hK hP 1 0 rfl rfl (show ¬ ((0 : Int32) < 0 ∨ 9 ≤ (0 : Int32).toNatClampNeg) from by decide) (show (0 : Int32).toNatClampNeg = 0 from by decide) d_X_add_28 ?_
  refine lv_iload_n hx hb d_X_add_29 rfl (lv_at hl 0 rfl) ?_
  refine lv_ixor hx hb d_X_add_30 ?_
  refine lv_iload_n hx hb d_X_add_31 rfl (lv_at hl 2 rfl) ?_
  refine lv_iload_n hx hb d_X_add_32 rfl (lv_at hl 0 rfl) ?_
  refine lv_ixor hx hb d_X_add_33 ?_
  refine lv_iand hx hb d_X_add_34 ?_
  refine lv_sipush (v := 128) hx hb d_X_add_35 (by decide) ?_
  refine lv_iand hx hb d_X_add_38 ?_
  refine lv_if_eq (tgt := 46) hx hb d_X_add_39 (by decide) (fun c_1 => ?_) (fun c_1 => ?_)
  · refine lv_iconst (v := 0) hx hb d_X_add_46 (by decide) ?_
    refine iast_at hx hb hK hP hD hS 1 0 rfl rfl (show ¬ ((6 : Int32) < 0 ∨ 9 ≤ (6 : Int32).toNatClampNeg) from by decide) (show (6 : Int32).toNatClampNeg = 6 from by decide) d_X_add_47 (fun H locs hP hD hS => ?_)
    have hP : va_P (dC, dI) classes [c_X x0 x1 x2 x3 x4 ku, c_A x3 c3 9 (upd m3 6 (0 : Int32))] H := hP
    have hD : va_D A [c_X x0 x1 x2 x3 x4 ku, c_A x3 c3 9 (upd m3 6 (0 : Int32))] := hD
    refine lv_aload_n hx hb d_X_add_48 rfl (lv_at hl 1 rfl) ?_
    refine va_get (D := (dC, dI)) (ci := 3) (v := .ref x3) (C := R_X) (T := F_X) (N := 13) hx hb htB i_X hown hK hP 0 rfl rfl 2 (by decide) (htB _ mw_463) (fun _ h9 => h9) rfl d_X_add_49 ?_
    refine lv_bipush (v := 8) hx hb d_X_add_52 (by decide) ?_
    refine lv_iload_n hx hb d_X_add_54 rfl (lv_at hl 0 rfl) ?_
    refine lv_bipush (v := 8) hx hb d_X_add_55 (by decide) ?_
    refine lv_ishr hx hb d_X_add_57 ?_
    refine iast_at hx hb hK hP hD hS 1 0 rfl rfl (show ¬ ((8 : Int32) < 0 ∨ 9 ≤ (8 : Int32).toNatClampNeg) from by decide) (show (8 : Int32).toNatClampNeg = 8 from by decide) d_X_add_58 (fun H locs hP hD hS => ?_)
    have hP : va_P (dC, dI) classes [c_X x0 x1 x2 x3 x4 ku, c_A x3 c3 9 (upd (upd m3 6 (0 : Int32)) 8 ((((m3 0) + p1) + (m3 8)) >>> ((8 : Int32) &&& 31)))] H := hP
    have hD : va_D A [c_X x0 x1 x2 x3 x4 ku, c_A x3 c3 9 (upd (upd m3 6 (0 : Int32)) 8 ((((m3 0) + p1) + (m3 8)) >>> ((8 : Int32) &&& 31)))] := hD
    refine lv_aload_n hx hb d_X_add_59 rfl (lv_at hl 1 rfl) ?_
    refine lv_iconst (v := 0) hx hb d_X_add_60 (by decide) ?_
    refine lv_iload_n hx hb d_X_add_61 rfl (lv_at hl 0 rfl) ?_
    refine lv_iconst (v := 1) hx hb d_X_add_62 (by decide) ?_
    have hPc := hP.sub (ws' := [c_X x0 x1 x2 x3 x4 ku, c_A x3 c3 9 (upd (upd m3 6 (0 : Int32)) 8 ((((m3 0) + p1) + (m3 8)) >>> ((8 : Int32) &&& 31)))]) [0, 1] rfl
    have hDc := hD.sub (ws' := [c_X x0 x1 x2 x3 x4 ku, c_A x3 c3 9 (upd (upd m3 6 (0 : Int32)) 8 ((((m3 0) + p1) + (m3 8)) >>> ((8 : Int32) &&& 31)))]) [0, 1] (by decide) rfl
    have hKc := hK.sub (tys' := [(c3, .int)]) [0] rfl
    have hFc := va_free (wc := [c_X x0 x1 x2 x3 x4 ku, c_A x3 c3 9 (upd (upd m3 6 (0 : Int32)) 8 ((((m3 0) + p1) + (m3 8)) >>> ((8 : Int32) &&& 31)))]) hD hS hA [0, 1] rfl
    refine va_callv (va_runV (As := [.int (0 : Int32), .int (((m3 0) + p1) + (m3 8)), .int (1 : Int32)]) (rest := []) ⟨hx, hb, hml, hown, htB⟩ (c_X_put3 l dC dI z0 x0 x1 x2 x3 x4 c3 H.size (0 : Int32) (((m3 0) + p1) + (m3 8)) (1 : Int32) ku (upd (upd m3 6 (0 : Int32)) 8 ((((m3 0) + p1) + (m3 8)) >>> ((8 : Int32) &&& 31))) (show ¬ ((0 : Int32) < 0 ∨ 9 ≤ (0 : Int32).toNatClampNeg) from by decide)) (cwV 3 htB (gd_V mw_587 mw_589 sw_X_put3 mw_4 mw_590) rfl rfl rfl (by decide +kernel) ⟨Nat.le_of_ble_eq_true rfl, Nat.le_of_ble_eq_true rfl⟩) (pcx_V (va_recv hKc hPc (ci := 3) (q0 := 0) rfl rfl) hPc hKc hDc hA0 hE hS) rfl rfl hl.1 rfl (lv_room (Nat.le_of_ble_eq_true rfl)) d_X_add_63 ⟨Nat.zero_le _, Nat.zero_le _⟩) hS (fun q _ h => hFc q h) hFc (fun u t H1 locs ht hvm hw hB hz1 hk1 hS => ?_)
    obtain ⟨hP1, hK1, hD1⟩ := hB
    rw [ht] at hP1
    obtain ⟨hP, hD⟩ := va_join (wr := []) (w1 := [c_X x0 x1 x2 x3 x4 ku, c_A x3 c3 9 (f_X_put3 (0 : Int32) (((m3 0) + p1) + (m3 8)) (1 : Int32) ku (upd (upd m3 6 (0 : Int32)) 8 ((((m3 0) + p1) + (m3 8)) >>> ((8 : Int32) &&& 31))))]) hP hD [0, 1] [] rfl rfl (by decide) (by decide) hk1 hFc hP1 hD1
    generalize H1 = H at hP hS ⊢
    have hP : va_P (dC, dI) classes [c_X x0 x1 x2 x3 x4 ku, c_A x3 c3 9 (f_X_put3 (0 : Int32) (((m3 0) + p1) + (m3 8)) (1 : Int32) ku (upd (upd m3 6 (0 : Int32)) 8 ((((m3 0) + p1) + (m3 8)) >>> ((8 : Int32) &&& 31))))] H := hP.sub [0, 1] rfl
    have hD : va_D A [c_X x0 x1 x2 x3 x4 ku, c_A x3 c3 9 (f_X_put3 (0 : Int32) (((m3 0) + p1) + (m3 8)) (1 : Int32) ku (upd (upd m3 6 (0 : Int32)) 8 ((((m3 0) + p1) + (m3 8)) >>> ((8 : Int32) &&& 31))))] := hD.sub [0, 1] (by decide) rfl
    have hf : f_X_add p1 ku m3 = (f_X_put3 (0 : Int32) (((m3 0) + p1) + (m3 8)) (1 : Int32) ku (upd (upd m3 6 (0 : Int32)) 8 ((((m3 0) + p1) + (m3 8)) >>> ((8 : Int32) &&& 31)))) := by rw [f_X_add, if_pos c_1]
    exact W.vret hx hb hr (fun t ht hW => ⟨⟨(), rfl, trivial, by rw [hf]; exact ⟨by rw [ht]; exact hP, va_K.moved hW.alike hK, hD⟩⟩, hS.F ht⟩) hS.2.2 d_X_add_66
  · refine lv_iconst (v := 1) hx hb d_X_add_42 (by decide) ?_
    refine lv_goto (tgt := 47) hx hb d_X_add_43 (by decide) ?_
    refine iast_at hx hb hK hP hD hS 1 0 rfl rfl (show ¬ ((6 : Int32) < 0 ∨ 9 ≤ (6 : Int32).toNatClampNeg) from by decide) (show (6 : Int32).toNatClampNeg = 6 from by decide) d_X_add_47 (fun H locs hP hD hS => ?_)
    have hP : va_P (dC, dI) classes [c_X x0 x1 x2 x3 x4 ku, c_A x3 c3 9 (upd m3 6 (1 : Int32))] H := hP
    have hD : va_D A [c_X x0 x1 x2 x3 x4 ku, c_A x3 c3 9 (upd m3 6 (1 : Int32))] := hD
    refine lv_aload_n hx hb d_X_add_48 rfl (lv_at hl 1 rfl) ?_
    refine va_get (D := (dC, dI)) (ci := 3) (v := .ref x3) (C := R_X) (T := F_X) (N := 13) hx hb htB i_X hown hK hP 0 rfl rfl 2 (by decide) (htB _ mw_463) (fun _ h9 => h9) rfl d_X_add_49 ?_
    refine lv_bipush (v := 8) hx hb d_X_add_52 (by decide) ?_
    refine lv_iload_n hx hb d_X_add_54 rfl (lv_at hl 0 rfl) ?_
    refine lv_bipush (v := 8) hx hb d_X_add_55 (by decide) ?_
    refine lv_ishr hx hb d_X_add_57 ?_
    refine iast_at hx hb hK hP hD hS 1 0 rfl rfl (show ¬ ((8 : Int32) < 0 ∨ 9 ≤ (8 : Int32).toNatClampNeg) from by decide) (show (8 : Int32).toNatClampNeg = 8 from by decide) d_X_add_58 (fun H locs hP hD hS => ?_)
    have hP : va_P (dC, dI) classes [c_X x0 x1 x2 x3 x4 ku, c_A x3 c3 9 (upd (upd m3 6 (1 : Int32)) 8 ((((m3 0) + p1) + (m3 8)) >>> ((8 : Int32) &&& 31)))] H := hP
    have hD : va_D A [c_X x0 x1 x2 x3 x4 ku, c_A x3 c3 9 (upd (upd m3 6 (1 : Int32)) 8 ((((m3 0) + p1) + (m3 8)) >>> ((8 : Int32) &&& 31)))] := hD
    refine lv_aload_n hx hb d_X_add_59 rfl (lv_at hl 1 rfl) ?_
    refine lv_iconst (v := 0) hx hb d_X_add_60 (by decide) ?_
    refine lv_iload_n hx hb d_X_add_61 rfl (lv_at hl 0 rfl) ?_
    refine lv_iconst (v := 1) hx hb d_X_add_62 (by decide) ?_
    have hPc := hP.sub (ws' := [c_X x0 x1 x2 x3 x4 ku, c_A x3 c3 9 (upd (upd m3 6 (1 : Int32)) 8 ((((m3 0) + p1) + (m3 8)) >>> ((8 : Int32) &&& 31)))]) [0, 1] rfl
    have hDc := hD.sub (ws' := [c_X x0 x1 x2 x3 x4 ku, c_A x3 c3 9 (upd (upd m3 6 (1 : Int32)) 8 ((((m3 0) + p1) + (m3 8)) >>> ((8 : Int32) &&& 31)))]) [0, 1] (by decide) rfl
    have hKc := hK.sub (tys' := [(c3, .int)]) [0] rfl
    have hFc := va_free (wc := [c_X x0 x1 x2 x3 x4 ku, c_A x3 c3 9 (upd (upd m3 6 (1 : Int32)) 8 ((((m3 0) + p1) + (m3 8)) >>> ((8 : Int32) &&& 31)))]) hD hS hA [0, 1] rfl
    refine va_callv (va_runV (As := [.int (0 : Int32), .int (((m3 0) + p1) + (m3 8)), .int (1 : Int32)]) (rest := []) ⟨hx, hb, hml, hown, htB⟩ (c_X_put3 l dC dI z0 x0 x1 x2 x3 x4 c3 H.size (0 : Int32) (((m3 0) + p1) + (m3 8)) (1 : Int32) ku (upd (upd m3 6 (1 : Int32)) 8 ((((m3 0) + p1) + (m3 8)) >>> ((8 : Int32) &&& 31))) (show ¬ ((0 : Int32) < 0 ∨ 9 ≤ (0 : Int32).toNatClampNeg) from by decide)) (cwV 3 htB (gd_V mw_587 mw_589 sw_X_put3 mw_4 mw_590) rfl rfl rfl (by decide +kernel) ⟨Nat.le_of_ble_eq_true rfl, Nat.le_of_ble_eq_true rfl⟩) (pcx_V (va_recv hKc hPc (ci := 3) (q0 := 0) rfl rfl) hPc hKc hDc hA0 hE hS) rfl rfl hl.1 rfl (lv_room (Nat.le_of_ble_eq_true rfl)) d_X_add_63 ⟨Nat.zero_le _, Nat.zero_le _⟩) hS (fun q _ h => hFc q h) hFc (fun u t H1 locs ht hvm hw hB hz1 hk1 hS => ?_)
    obtain ⟨hP1, hK1, hD1⟩ := hB
    rw [ht] at hP1
    obtain ⟨hP, hD⟩ := va_join (wr := []) (w1 := [c_X x0 x1 x2 x3 x4 ku, c_A x3 c3 9 (f_X_put3 (0 : Int32) (((m3 0) + p1) + (m3 8)) (1 : Int32) ku (upd (upd m3 6 (1 : Int32)) 8 ((((m3 0) + p1) + (m3 8)) >>> ((8 : Int32) &&& 31))))]) hP hD [0, 1] [] rfl rfl (by decide) (by decide) hk1 hFc hP1 hD1
    generalize H1 = H at hP hS ⊢
    have hP : va_P (dC, dI) classes [c_X x0 x1 x2 x3 x4 ku, c_A x3 c3 9 (f_X_put3 (0 : Int32) (((m3 0) + p1) + (m3 8)) (1 : Int32) ku (upd (upd m3 6 (1 : Int32)) 8 ((((m3 0) + p1) + (m3 8)) >>> ((8 : Int32) &&& 31))))] H := hP.sub [0, 1] rfl
    have hD : va_D A [c_X x0 x1 x2 x3 x4 ku, c_A x3 c3 9 (f_X_put3 (0 : Int32) (((m3 0) + p1) + (m3 8)) (1 : Int32) ku (upd (upd m3 6 (1 : Int32)) 8 ((((m3 0) + p1) + (m3 8)) >>> ((8 : Int32) &&& 31))))] := hD.sub [0, 1] (by decide) rfl
    have hf : f_X_add p1 ku m3 = (f_X_put3 (0 : Int32) (((m3 0) + p1) + (m3 8)) (1 : Int32) ku (upd (upd m3 6 (1 : Int32)) 8 ((((m3 0) + p1) + (m3 8)) >>> ((8 : Int32) &&& 31)))) := by rw [f_X_add, if_neg c_1]
    exact W.vret hx hb hr (fun t ht hW => ⟨⟨(), rfl, trivial, by rw [hf]; exact ⟨by rw [ht]; exact hP, va_K.moved hW.alike hK, hD⟩⟩, hS.F ht⟩) hS.2.2 d_X_add_66

def f_X_shifted (p1 : Int32) (p2 : Int32) (ku m3 : Nat → Int32) : Int32 × (Nat → Int32) :=
  if (2 : Int32) ≤ p1 then
    if (4 : Int32) ≤ p1 then
      if p1 = (6 : Int32) then
        (((p2 + (255 : Int32)) &&& (255 : Int32)), m3)
      else
        (((p2 + (1 : Int32)) &&& (255 : Int32)), m3)
    else
      if p1 = (3 : Int32) then
        (((p2 / (2 : Int32)) + ((128 : Int32) * (m3 8))), (upd m3 8 (p2 &&& (1 : Int32))))
      else
        (((p2 / (2 : Int32)) + (0 : Int32)), (upd m3 8 (p2 &&& (1 : Int32))))
  else
    if p1 = (1 : Int32) then
      (((((2 : Int32) * p2) + (m3 8)) &&& (255 : Int32)), (upd m3 8 (p2 >>> ((7 : Int32) &&& 31))))
    else
      (((((2 : Int32) * p2) + (0 : Int32)) &&& (255 : Int32)), (upd m3 8 (p2 >>> ((7 : Int32) &&& 31))))
abbrev Q_X_shifted (dC : Nat → ClassId) (dI : Nat → Nat → Nat) (x0 : Nat) (x1 : Nat) (x2 : Nat) (x3 : Nat) (x4 : Nat) (c3 : ClassId) (p1 : Int32) (p2 : Int32) (ku m3 : Nat → Int32) (A : Nat → Prop) : Array Value → State → Outcome → State → Prop := va_Qi (fun (r9 : Int32) (_ : Unit) => r9 = (f_X_shifted p1 p2 ku m3).1) (fun _ t => atW (dC, dI) classes A [c_X x0 x1 x2 x3 x4 ku, c_A x3 c3 9 ((f_X_shifted p1 p2 ku m3).2)] [(c3, .int)] t) A
set_option maxHeartbeats 4000000 in
set_option maxRecDepth 100000 in
theorem c_X_shifted (l : Launch) (dC : Nat → ClassId) (dI : Nat → Nat → Nat) (z0 : Nat) (x0 : Nat) (x1 : Nat) (x2 : Nat) (x3 : Nat) (x4 : Nat) (c3 : ClassId) (sz : Nat) (p1 : Int32) (p2 : Int32) (ku m3 : Nat → Int32)  : Met l y_X_shifted w_X_shifted ({ frames := 0, cells := 0, slots := 0, locals := 0 }) (PcX (dC, dI) classes z0 [c_X x0 x1 x2 x3 x4 ku, c_A x3 c3 9 m3] [(c3, .int)] sz [.ref x0, .int p1, .int p2]) (Q_X_shifted dC dI x0 x1 x2 x3 x4 c3 p1 p2 ku m3 (va_A [c_X x0 x1 x2 x3 x4 ku, c_A x3 c3 9 m3] sz)) 0 0 (va_A [c_X x0 x1 x2 x3 x4 ku, c_A x3 c3 9 m3] sz) := by
  refine hdX (cc := b_X_shifted) (maxL := 4) (ret := (some .int)) (C := R_X) (Qc := (Q_X_shifted dC dI x0 x1 x2 x3 x4 c3 p1 p2 ku m3)) (by decide) rfl ?_
  intro p e s m below meth c A H hx hb hr hlocks hml hown hin htB hP hK hD hA hA0 hE hS
  have hl := lv_entry ([.ref x0, .int p1, .int p2]) (n := 4) (Nat.le_of_ble_eq_true rfl)
  rw [lg_entry_eq]
  generalize (lg_sl ([.ref x0, .int p1, .int p2]) ++ List.replicate (4 - (lg_sl ([.ref x0, .int p1, .int p2])).length) Slot.unset).toArray = ls at hl ⊢
  have hl : lv_has ls 4 [(0, .ref x0), (1, .int p1), (2, .int p2)] := hl
  refine lv_aload_n hx hb d_X_shifted_0 rfl (lv_at hl 0 rfl) ?_
  refine va_get (D := (dC, dI)) (ci := 3) (v := .ref x3) (C := R_X) (T := F_X) (N := 13) hx hb htB i_X hown hK hP 0 rfl rfl 2 (by decide) (htB _ mw_463) (fun _ h9 => h9) rfl d_X_shifted_1 ?_
  refine lv_bipush (v := 8) hx hb d_X_shifted_4 (by decide) ?_
  refine iald_at hx hb hK hP 1 0 rfl rfl (show ¬ ((8 : Int32) < 0 ∨ 9 ≤ (8 : Int32).toNatClampNeg) from by decide) (show (8 : Int32).toNatClampNeg = 8 from by decide) d_X_shifted_6 ?_
  refine lv_istore_n (lv' := [(3, .int (m3 8)), (0, .ref x0), (1, .int p1), (2, .int p2)]) hx hb d_X_shifted_7 rfl hl (by decide) rfl (fun ls hl => ?_)
  refine lv_iload_n hx hb d_X_shifted_8 rfl (lv_at hl 2 rfl) ?_
  refine lv_iconst (v := 2) hx hb d_X_shifted_9 (by decide) ?_
  refine lv_icmp_ge (tgt := 27) hx hb d_X_shifted_10 (by decide) (fun c_1 => ?_) (fun c_1 => ?_)
  · refine lv_iload_n hx hb d_X_shifted_27 rfl (lv_at hl 2 rfl) ?_
    refine lv_iconst (v := 4) hx hb d_X_shifted_28 (by decide) ?_
    refine lv_icmp_ge (tgt := 42) hx hb d_X_shifted_29 (by decide) (fun c_2 => ?_) (fun c_2 => ?_)
    · refine lv_iload_n hx hb d_X_shifted_42 rfl (lv_at hl 2 rfl) ?_
      refine lv_iconst (v := 2) hx hb d_X_shifted_43 (by decide) ?_
      refine lv_icmp_ge (tgt := 66) hx hb d_X_shifted_44 (by decide) (fun _ => ?_) (fun c9 => absurd c_1 c9)
      refine lv_iload_n hx hb d_X_shifted_66 rfl (lv_at hl 2 rfl) ?_
      refine lv_iconst (v := 4) hx hb d_X_shifted_67 (by decide) ?_
      refine lv_icmp_ge (tgt := 90) hx hb d_X_shifted_68 (by decide) (fun _ => ?_) (fun c9 => absurd c_2 c9)
      refine lv_iload_n hx hb d_X_shifted_90 rfl (lv_at hl 3 rfl) ?_
      refine lv_iload_n hx hb d_X_shifted_91 rfl (lv_at hl 2 rfl) ?_
      refine lv_bipush (v := 6) hx hb d_X_shifted_92 (by decide) ?_
      refine lv_icmp_ne (tgt := 103) hx hb d_X_shifted_94 (by decide) (fun c_3 => ?_) (fun c_3 => ?_)
      · refine lv_iconst (v := 1) hx hb d_X_shifted_103 (by decide) ?_
        refine lv_iadd hx hb d_X_shifted_104 ?_
        refine lv_sipush (v := 255) hx hb d_X_shifted_105 (by decide) ?_
        refine lv_iand hx hb d_X_shifted_108 ?_
        have hf : f_X_shifted p1 p2 ku m3 = (((p2 + (1 : Int32)) &&& (255 : Int32)), m3) := by rw [f_X_shifted, if_pos c_1, if_pos c_2, if_neg c_3]
        exact W.iret (v := ((p2 + (1 : Int32)) &&& (255 : Int32))) hx hb hr (fun t ht hW => ⟨⟨((p2 + (1 : Int32)) &&& (255 : Int32)), (), rfl, (congrArg (fun z => z.1) hf).symm, by rw [hf]; exact ⟨by rw [ht]; exact hP, va_K.moved hW.alike hK, hD⟩⟩, hS.F ht⟩) hS.2.2 d_X_shifted_109
      · refine lv_sipush (v := 255) hx hb d_X_shifted_97 (by decide) ?_
        refine lv_goto (tgt := 104) hx hb d_X_shifted_100 (by decide) ?_
        refine lv_iadd hx hb d_X_shifted_104 ?_
        refine lv_sipush (v := 255) hx hb d_X_shifted_105 (by decide) ?_
        refine lv_iand hx hb d_X_shifted_108 ?_
        have hf : f_X_shifted p1 p2 ku m3 = (((p2 + (255 : Int32)) &&& (255 : Int32)), m3) := by rw [f_X_shifted, if_pos c_1, if_pos c_2, if_pos c_3]
        exact W.iret (v := ((p2 + (255 : Int32)) &&& (255 : Int32))) hx hb hr (fun t ht hW => ⟨⟨((p2 + (255 : Int32)) &&& (255 : Int32)), (), rfl, (congrArg (fun z => z.1) hf).symm, by rw [hf]; exact ⟨by rw [ht]; exact hP, va_K.moved hW.alike hK, hD⟩⟩, hS.F ht⟩) hS.2.2 d_X_shifted_109
    · refine lv_aload_n hx hb d_X_shifted_32 rfl (lv_at hl 1 rfl) ?_
      refine va_get (D := (dC, dI)) (ci := 3) (v := .ref x3) (C := R_X) (T := F_X) (N := 13) hx hb htB i_X hown hK hP 0 rfl rfl 2 (by decide) (htB _ mw_463) (fun _ h9 => h9) rfl d_X_shifted_33 ?_
      refine lv_bipush (v := 8) hx hb d_X_shifted_36 (by decide) ?_
      refine lv_iload_n hx hb d_X_shifted_38 rfl (lv_at hl 3 rfl) ?_
      refine lv_iconst (v := 1) hx hb d_X_shifted_39 (by decide) ?_
      refine lv_iand hx hb d_X_shifted_40 ?_
      refine iast_at hx hb hK hP hD hS 1 0 rfl rfl (show ¬ ((8 : Int32) < 0 ∨ 9 ≤ (8 : Int32).toNatClampNeg) from by decide) (show (8 : Int32).toNatClampNeg = 8 from by decide) d_X_shifted_41 (fun H locs hP hD hS => ?_)
      have hP : va_P (dC, dI) classes [c_X x0 x1 x2 x3 x4 ku, c_A x3 c3 9 (upd m3 8 (p2 &&& (1 : Int32)))] H := hP
      have hD : va_D A [c_X x0 x1 x2 x3 x4 ku, c_A x3 c3 9 (upd m3 8 (p2 &&& (1 : Int32)))] := hD
      refine lv_iload_n hx hb d_X_shifted_42 rfl (lv_at hl 2 rfl) ?_
      refine lv_iconst (v := 2) hx hb d_X_shifted_43 (by decide) ?_
      refine lv_icmp_ge (tgt := 66) hx hb d_X_shifted_44 (by decide) (fun _ => ?_) (fun c9 => absurd c_1 c9)
      refine lv_iload_n hx hb d_X_shifted_66 rfl (lv_at hl 2 rfl) ?_
      refine lv_iconst (v := 4) hx hb d_X_shifted_67 (by decide) ?_
      refine lv_icmp_ge (tgt := 90) hx hb d_X_shifted_68 (by decide) (fun c9 => absurd c9 c_2) (fun _ => ?_)
      refine lv_iload_n hx hb d_X_shifted_71 rfl (lv_at hl 3 rfl) ?_
      refine lv_iconst (v := 2) hx hb d_X_shifted_72 (by decide) ?_
      refine lv_idiv hx hb d_X_shifted_73 (by decide) ?_
      refine lv_iload_n hx hb d_X_shifted_74 rfl (lv_at hl 2 rfl) ?_
      refine lv_iconst (v := 3) hx hb d_X_shifted_75 (by decide) ?_
      refine lv_icmp_ne (tgt := 87) hx hb d_X_shifted_76 (by decide) (fun c_3 => ?_) (fun c_3 => ?_)
      · refine lv_iconst (v := 0) hx hb d_X_shifted_87 (by decide) ?_
        refine lv_iadd hx hb d_X_shifted_88 ?_
        have hf : f_X_shifted p1 p2 ku m3 = (((p2 / (2 : Int32)) + (0 : Int32)), (upd m3 8 (p2 &&& (1 : Int32)))) := by rw [f_X_shifted, if_pos c_1, if_neg c_2, if_neg c_3]
        exact W.iret (v := ((p2 / (2 : Int32)) + (0 : Int32))) hx hb hr (fun t ht hW => ⟨⟨((p2 / (2 : Int32)) + (0 : Int32)), (), rfl, (congrArg (fun z => z.1) hf).symm, by rw [hf]; exact ⟨by rw [ht]; exact hP, va_K.moved hW.alike hK, hD⟩⟩, hS.F ht⟩) hS.2.2 d_X_shifted_89
      · refine lv_sipush (v := 128) hx hb d_X_shifted_79 (by decide) ?_
        refine lv_iload_n hx hb d_X_shifted_82 rfl (lv_at hl 0 rfl) ?_
        refine lv_imul hx hb d_X_shifted_83 ?_
        refine lv_goto (tgt := 88) hx hb d_X_shifted_84 (by decide) ?_
        refine lv_iadd hx hb d_X_shifted_88 ?_
        have hf : f_X_shifted p1 p2 ku m3 = (((p2 / (2 : Int32)) + ((128 : Int32) * (m3 8))), (upd m3 8 (p2 &&& (1 : Int32)))) := by rw [f_X_shifted, if_pos c_1, if_neg c_2, if_pos c_3]
        exact W.iret (v := ((p2 / (2 : Int32)) + ((128 : Int32) * (m3 8)))) hx hb hr (fun t ht hW => ⟨⟨((p2 / (2 : Int32)) + ((128 : Int32) * (m3 8))), (), rfl, (congrArg (fun z => z.1) hf).symm, by rw [hf]; exact ⟨by rw [ht]; exact hP, va_K.moved hW.alike hK, hD⟩⟩, hS.F ht⟩) hS.2.2 d_X_shifted_89
  · refine lv_aload_n hx hb d_X_shifted_13 rfl (lv_at hl 1 rfl) ?_
    refine va_get (D := (dC, dI)) (ci := 3) (v := .ref x3) (C := R_X) (T := F_X) (N := 13) hx hb htB i_X hown hK hP 0 rfl rfl 2 (by decide) (htB _ mw_463) (fun _ h9 => h9) rfl d_X_shifted_14 ?_
    refine lv_bipush (v := 8) hx hb d_X_shifted_17 (by decide) ?_
    refine lv_iload_n hx hb d_X_shifted_19 rfl (lv_at hl 3 rfl) ?_
    refine lv_bipush (v := 7) hx hb d_X_shifted_20 (by decide) ?_
    refine lv_ishr hx hb d_X_shifted_22 ?_
    refine iast_at hx hb hK hP hD hS 1 0 rfl rfl (show ¬ ((8 : Int32) < 0 ∨ 9 ≤ (8 : Int32).toNatClampNeg) from by decide) (show (8 : Int32).toNatClampNeg = 8 from by decide) d_X_shifted_23 (fun H locs hP hD hS => ?_)
    have hP : va_P (dC, dI) classes [c_X x0 x1 x2 x3 x4 ku, c_A x3 c3 9 (upd m3 8 (p2 >>> ((7 : Int32) &&& 31)))] H := hP
    have hD : va_D A [c_X x0 x1 x2 x3 x4 ku, c_A x3 c3 9 (upd m3 8 (p2 >>> ((7 : Int32) &&& 31)))] := hD
    refine lv_goto (tgt := 42) hx hb d_X_shifted_24 (by decide) ?_
    refine lv_iload_n hx hb d_X_shifted_42 rfl (lv_at hl 2 rfl) ?_
    refine lv_iconst (v := 2) hx hb d_X_shifted_43 (by decide) ?_
    refine lv_icmp_ge (tgt := 66) hx hb d_X_shifted_44 (by decide) (fun c9 => absurd c9 c_1) (fun _ => ?_)
    refine lv_iconst (v := 2) hx hb d_X_shifted_47 (by decide) ?_
    refine lv_iload_n hx hb d_X_shifted_48 rfl (lv_at hl 3 rfl) ?_
    refine lv_imul hx hb d_X_shifted_49 ?_
    refine lv_iload_n hx hb d_X_shifted_50 rfl (lv_at hl 2 rfl) ?_
    refine lv_iconst (v := 1) hx hb d_X_shifted_51 (by decide) ?_
    refine lv_icmp_ne (tgt := 59) hx hb d_X_shifted_52 (by decide) (fun c_2 => ?_) (fun c_2 => ?_)
    · refine lv_iconst (v := 0) hx hb d_X_shifted_59 (by decide) ?_
      refine lv_iadd hx hb d_X_shifted_60 ?_
      refine lv_sipush (v := 255) hx hb d_X_shifted_61 (by decide) ?_
      refine lv_iand hx hb d_X_shifted_64 ?_
      have hf : f_X_shifted p1 p2 ku m3 = (((((2 : Int32) * p2) + (0 : Int32)) &&& (255 : Int32)), (upd m3 8 (p2 >>> ((7 : Int32) &&& 31)))) := by rw [f_X_shifted, if_neg c_1, if_neg c_2]
      exact W.iret (v := ((((2 : Int32) * p2) + (0 : Int32)) &&& (255 : Int32))) hx hb hr (fun t ht hW => ⟨⟨((((2 : Int32) * p2) + (0 : Int32)) &&& (255 : Int32)), (), rfl, (congrArg (fun z => z.1) hf).symm, by rw [hf]; exact ⟨by rw [ht]; exact hP, va_K.moved hW.alike hK, hD⟩⟩, hS.F ht⟩) hS.2.2 d_X_shifted_65
    · refine lv_iload_n hx hb d_X_shifted_55 rfl (lv_at hl 0 rfl) ?_
      refine lv_goto (tgt := 60) hx hb d_X_shifted_56 (by decide) ?_
      refine lv_iadd hx hb d_X_shifted_60 ?_
      refine lv_sipush (v := 255) hx hb d_X_shifted_61 (by decide) ?_
      refine lv_iand hx hb d_X_shifted_64 ?_
      have hf : f_X_shifted p1 p2 ku m3 = (((((2 : Int32) * p2) + (m3 8)) &&& (255 : Int32)), (upd m3 8 (p2 >>> ((7 : Int32) &&& 31)))) := by rw [f_X_shifted, if_neg c_1, if_pos c_2]
      exact W.iret (v := ((((2 : Int32) * p2) + (m3 8)) &&& (255 : Int32))) hx hb hr (fun t ht hW => ⟨⟨((((2 : Int32) * p2) + (m3 8)) &&& (255 : Int32)), (), rfl, (congrArg (fun z => z.1) hf).symm, by rw [hf]; exact ⟨by rw [ht]; exact hP, va_K.moved hW.alike hK, hD⟩⟩, hS.F ht⟩) hS.2.2 d_X_shifted_65
