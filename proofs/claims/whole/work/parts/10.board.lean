def f_S_isWithin (p1 : Int32) (p2 : Int32)  : Int32 :=
  if p1 < (0 : Int32) then
    (0 : Int32)
  else
    if p2 < p1 then
      (0 : Int32)
    else
      (1 : Int32)
abbrev Q_S_isWithin (dC : Nat → ClassId) (dI : Nat → Nat → Nat)  (p1 : Int32) (p2 : Int32)  (A : Nat → Prop) : Array Value → State → Outcome → State → Prop := va_Qi (fun (r9 : Int32) (_ : Unit) => r9 = (f_S_isWithin p1 p2)) (fun _ t => atW (dC, dI) classes A [] [] t) A
set_option maxHeartbeats 4000000 in
set_option maxRecDepth 100000 in
theorem c_S_isWithin (l : Launch) (dC : Nat → ClassId) (dI : Nat → Nat → Nat) (z0 : Nat)  (sz : Nat) (p1 : Int32) (p2 : Int32)   : Met l y_S_isWithin w_S_isWithin ({ frames := 0, cells := 0, slots := 0, locals := 0 }) (PcX (dC, dI) classes z0 [] [] sz [.int p1, .int p2]) (Q_S_isWithin dC dI p1 p2 (va_A [] sz)) 0 0 (va_A [] sz) := by
  refine hdX (cc := b_S_isWithin) (maxL := 2) (ret := (some .boolean)) (C := R_S) (Qc := (Q_S_isWithin dC dI p1 p2)) (by decide) rfl ?_
  intro p e s m below meth c A H hx hb hr hlocks hml hown hin htB hP hK hD hA hA0 hE hS
  have hl := lv_entry ([.int p1, .int p2]) (n := 2) (Nat.le_of_ble_eq_true rfl)
  rw [lg_entry_eq]
  generalize (lg_sl ([.int p1, .int p2]) ++ List.replicate (2 - (lg_sl ([.int p1, .int p2])).length) Slot.unset).toArray = ls at hl ⊢
  have hl : lv_has ls 2 [(0, .int p1), (1, .int p2)] := hl
  refine lv_iload_n hx hb d_S_isWithin_0 rfl (lv_at hl 0 rfl) ?_
  refine lv_if_lt (tgt := 13) hx hb d_S_isWithin_1 (by decide) (fun c_1 => ?_) (fun c_1 => ?_)
  · refine lv_iconst (v := 0) hx hb d_S_isWithin_13 (by decide) ?_
    have hf : f_S_isWithin p1 p2 = (0 : Int32) := by rw [f_S_isWithin, if_pos c_1]
    exact W.zret (v := (0 : Int32)) hx hb hr rfl (fun t ht hW => ⟨⟨(0 : Int32), (), rfl, hf.symm, by exact ⟨by rw [ht]; exact hP, va_K.moved hW.alike hK, hD⟩⟩, hS.F ht⟩) hS.2.2 d_S_isWithin_14
  · refine lv_iload_n hx hb d_S_isWithin_4 rfl (lv_at hl 0 rfl) ?_
    refine lv_iload_n hx hb d_S_isWithin_5 rfl (lv_at hl 1 rfl) ?_
    refine lv_icmp_gt (tgt := 13) hx hb d_S_isWithin_6 (by decide) (fun c_2 => ?_) (fun c_2 => ?_)
    · refine lv_iconst (v := 0) hx hb d_S_isWithin_13 (by decide) ?_
      have hf : f_S_isWithin p1 p2 = (0 : Int32) := by rw [f_S_isWithin, if_neg c_1, if_pos c_2]
      exact W.zret (v := (0 : Int32)) hx hb hr rfl (fun t ht hW => ⟨⟨(0 : Int32), (), rfl, hf.symm, by exact ⟨by rw [ht]; exact hP, va_K.moved hW.alike hK, hD⟩⟩, hS.F ht⟩) hS.2.2 d_S_isWithin_14
    · refine lv_iconst (v := 1) hx hb d_S_isWithin_9 (by decide) ?_
      refine lv_goto (tgt := 14) hx hb d_S_isWithin_10 (by decide) ?_
      have hf : f_S_isWithin p1 p2 = (1 : Int32) := by rw [f_S_isWithin, if_neg c_1, if_neg c_2]
      exact W.zret (v := (1 : Int32)) hx hb hr rfl (fun t ht hW => ⟨⟨(1 : Int32), (), rfl, hf.symm, by exact ⟨by rw [ht]; exact hP, va_K.moved hW.alike hK, hD⟩⟩, hS.F ht⟩) hS.2.2 d_S_isWithin_14

theorem wi_nz {x n : Int32} (h : ¬ f_S_isWithin x n = 0) : ¬ x < 0 ∧ ¬ n < x := by
  unfold f_S_isWithin at h
  split at h
  · exact absurd rfl h
  · split at h
    · exact absurd rfl h
    · exact ⟨by assumption, by assumption⟩
theorem wi_of {x n : Int32} (h1 : ¬ x < 0) (h2 : ¬ n < x) : f_S_isWithin x n = 1 := by
  rw [f_S_isWithin, if_neg h1, if_neg h2]
theorem wi_nat {x : Int32} {n : Nat} (hn : n < 2 ^ 31) (h : ¬ f_S_isWithin x (nI n) = 0) : ∃ j : Nat, j ≤ n ∧ x = nI j := by
  obtain ⟨h1, h2⟩ := wi_nz h
  obtain ⟨j, hj, e⟩ := nI_of h1
  refine ⟨j, ?_, e⟩
  rcases Nat.lt_or_ge n j with q | q
  · exact absurd (by rw [e]; exact nI_lt q hj) h2
  · exact q
theorem wi_0 {x n : Int32} : f_S_isWithin x n = 0 ∨ f_S_isWithin x n = 1 := by
  unfold f_S_isWithin
  repeat' split
  all_goals first | exact Or.inl rfl | exact Or.inr rfl

def f_S_isSpan (p1 : Int32) (p2 : Int32) (p3 : Int32)  : Int32 :=
  if (f_S_isWithin p1 (p3 - (1 : Int32))) = (0 : Int32) then
    (0 : Int32)
  else
    if p2 < (1 : Int32) then
      (0 : Int32)
    else
      if (8 : Int32) < p2 then
        (0 : Int32)
      else
        if p3 < (p1 + p2) then
          (0 : Int32)
        else
          (1 : Int32)
abbrev Q_S_isSpan (dC : Nat → ClassId) (dI : Nat → Nat → Nat)  (p1 : Int32) (p2 : Int32) (p3 : Int32)  (A : Nat → Prop) : Array Value → State → Outcome → State → Prop := va_Qi (fun (r9 : Int32) (_ : Unit) => r9 = (f_S_isSpan p1 p2 p3)) (fun _ t => atW (dC, dI) classes A [] [] t) A
set_option maxHeartbeats 4000000 in
set_option maxRecDepth 100000 in
theorem c_S_isSpan (l : Launch) (dC : Nat → ClassId) (dI : Nat → Nat → Nat) (z0 : Nat)  (sz : Nat) (p1 : Int32) (p2 : Int32) (p3 : Int32)   : Met l y_S_isSpan w_S_isSpan ({ frames := 1, cells := 0, slots := 0, locals := 21 }) (PcX (dC, dI) classes z0 [] [] sz [.int p1, .int p2, .int p3]) (Q_S_isSpan dC dI p1 p2 p3 (va_A [] sz)) 0 0 (va_A [] sz) := by
  refine hdX (cc := b_S_isSpan) (maxL := 3) (ret := (some .boolean)) (C := R_S) (Qc := (Q_S_isSpan dC dI p1 p2 p3)) (by decide) rfl ?_
  intro p e s m below meth c A H hx hb hr hlocks hml hown hin htB hP hK hD hA hA0 hE hS
  have hl := lv_entry ([.int p1, .int p2, .int p3]) (n := 3) (Nat.le_of_ble_eq_true rfl)
  rw [lg_entry_eq]
  generalize (lg_sl ([.int p1, .int p2, .int p3]) ++ List.replicate (3 - (lg_sl ([.int p1, .int p2, .int p3])).length) Slot.unset).toArray = ls at hl ⊢
  have hl : lv_has ls 3 [(0, .int p1), (1, .int p2), (2, .int p3)] := hl
  refine lv_iload_n hx hb d_S_isSpan_0 rfl (lv_at hl 0 rfl) ?_
  refine lv_iload_n hx hb d_S_isSpan_1 rfl (lv_at hl 2 rfl) ?_
  refine lv_iconst (v := 1) hx hb d_S_isSpan_2 (by decide) ?_
  refine lv_isub hx hb d_S_isSpan_3 ?_
  have hPc := hP.sub (ws' := []) [] rfl
  have hDc := hD.sub (ws' := []) [] (by decide) rfl
  have hKc := hK.sub (tys' := []) [] rfl
  have hFc := va_free (wc := []) hD hS hA [] rfl
  refine va_calli (va_runS (As := [.int p1, .int (p3 - (1 : Int32))]) (rest := []) ⟨hx, hb, hml, hown, htB⟩ (c_S_isWithin l dC dI z0  H.size p1 (p3 - (1 : Int32))) (cwS 2 htB (gd_S mw_127 mw_128 mw_1 mw_129) rfl rfl rfl (by decide +kernel) ⟨Nat.le_of_ble_eq_true rfl, Nat.le_of_ble_eq_true rfl⟩) (pcx_S hPc hKc hDc hA0 hE hS) rfl rfl hl.1 rfl (lv_room (Nat.le_of_ble_eq_true rfl)) d_S_isSpan_4 ⟨Nat.zero_le _, Nat.zero_le _⟩) hS (fun q _ h => hFc q h) hFc (fun r9 u t H1 locs ht hvm hw hB hz1 hk1 hS => ?_)
  subst hw
  obtain ⟨hP1, hK1, hD1⟩ := hB
  rw [ht] at hP1
  obtain ⟨hP, hD⟩ := va_join (wr := []) (w1 := []) hP hD [] [] rfl rfl (by decide) (by decide) hk1 hFc hP1 hD1
  generalize H1 = H at hP hS ⊢
  have hP : va_P (dC, dI) classes [] H := hP.sub [] rfl
  have hD : va_D A [] := hD.sub [] (by decide) rfl
  refine lv_if_eq (tgt := 32) hx hb d_S_isSpan_7 (by decide) (fun c_1 => ?_) (fun c_1 => ?_)
  · refine lv_iconst (v := 0) hx hb d_S_isSpan_32 (by decide) ?_
    have hf : f_S_isSpan p1 p2 p3 = (0 : Int32) := by rw [f_S_isSpan, if_pos c_1]
    exact W.zret (v := (0 : Int32)) hx hb hr rfl (fun t ht hW => ⟨⟨(0 : Int32), (), rfl, hf.symm, by exact ⟨by rw [ht]; exact hP, va_K.moved hW.alike hK, hD⟩⟩, hS.F ht⟩) hS.2.2 d_S_isSpan_33
  · refine lv_iload_n hx hb d_S_isSpan_10 rfl (lv_at hl 1 rfl) ?_
    refine lv_iconst (v := 1) hx hb d_S_isSpan_11 (by decide) ?_
    refine lv_icmp_lt (tgt := 32) hx hb d_S_isSpan_12 (by decide) (fun c_2 => ?_) (fun c_2 => ?_)
    · refine lv_iconst (v := 0) hx hb d_S_isSpan_32 (by decide) ?_
      have hf : f_S_isSpan p1 p2 p3 = (0 : Int32) := by rw [f_S_isSpan, if_neg c_1, if_pos c_2]
      exact W.zret (v := (0 : Int32)) hx hb hr rfl (fun t ht hW => ⟨⟨(0 : Int32), (), rfl, hf.symm, by exact ⟨by rw [ht]; exact hP, va_K.moved hW.alike hK, hD⟩⟩, hS.F ht⟩) hS.2.2 d_S_isSpan_33
    · refine lv_iload_n hx hb d_S_isSpan_15 rfl (lv_at hl 1 rfl) ?_
      refine lv_bipush (v := 8) hx hb d_S_isSpan_16 (by decide) ?_
      refine lv_icmp_gt (tgt := 32) hx hb d_S_isSpan_18 (by decide) (fun c_3 => ?_) (fun c_3 => ?_)
      · refine lv_iconst (v := 0) hx hb d_S_isSpan_32 (by decide) ?_
        have hf : f_S_isSpan p1 p2 p3 = (0 : Int32) := by rw [f_S_isSpan, if_neg c_1, if_neg c_2, if_pos c_3]
        exact W.zret (v := (0 : Int32)) hx hb hr rfl (fun t ht hW => ⟨⟨(0 : Int32), (), rfl, hf.symm, by exact ⟨by rw [ht]; exact hP, va_K.moved hW.alike hK, hD⟩⟩, hS.F ht⟩) hS.2.2 d_S_isSpan_33
      · refine lv_iload_n hx hb d_S_isSpan_21 rfl (lv_at hl 0 rfl) ?_
        refine lv_iload_n hx hb d_S_isSpan_22 rfl (lv_at hl 1 rfl) ?_
        refine lv_iadd hx hb d_S_isSpan_23 ?_
        refine lv_iload_n hx hb d_S_isSpan_24 rfl (lv_at hl 2 rfl) ?_
        refine lv_icmp_gt (tgt := 32) hx hb d_S_isSpan_25 (by decide) (fun c_4 => ?_) (fun c_4 => ?_)
        · refine lv_iconst (v := 0) hx hb d_S_isSpan_32 (by decide) ?_
          have hf : f_S_isSpan p1 p2 p3 = (0 : Int32) := by rw [f_S_isSpan, if_neg c_1, if_neg c_2, if_neg c_3, if_pos c_4]
          exact W.zret (v := (0 : Int32)) hx hb hr rfl (fun t ht hW => ⟨⟨(0 : Int32), (), rfl, hf.symm, by exact ⟨by rw [ht]; exact hP, va_K.moved hW.alike hK, hD⟩⟩, hS.F ht⟩) hS.2.2 d_S_isSpan_33
        · refine lv_iconst (v := 1) hx hb d_S_isSpan_28 (by decide) ?_
          refine lv_goto (tgt := 33) hx hb d_S_isSpan_29 (by decide) ?_
          have hf : f_S_isSpan p1 p2 p3 = (1 : Int32) := by rw [f_S_isSpan, if_neg c_1, if_neg c_2, if_neg c_3, if_neg c_4]
          exact W.zret (v := (1 : Int32)) hx hb hr rfl (fun t ht hW => ⟨⟨(1 : Int32), (), rfl, hf.symm, by exact ⟨by rw [ht]; exact hP, va_K.moved hW.alike hK, hD⟩⟩, hS.F ht⟩) hS.2.2 d_S_isSpan_33

def f_B_readByte (p1 : Int32) (k M D : Nat → Int32) : Int32 × (Nat → Int32) :=
  if (1008 : Int32) ≤ (p1 &&& (1023 : Int32)) then
    if (p1 &&& (1023 : Int32)) = (1008 : Int32) then
      ((k 0), k)
    else
      if (p1 &&& (1023 : Int32)) = (1009 : Int32) then
        ((k 0), (upd k 0 (0 : Int32)))
      else
        if (p1 &&& (1023 : Int32)) = (1010 : Int32) then
          ((k 1), k)
        else
          ((0 : Int32), k)
  else
    ((M ((p1 &&& (1023 : Int32)).toNatClampNeg)), k)
abbrev Q_B_readByte (dC : Nat → ClassId) (dI : Nat → Nat → Nat) (q1 : Nat) (q2 : Nat) (q3 : Nat) (cM : ClassId) (cD : ClassId) (p1 : Int32) (k M D : Nat → Int32) (A : Nat → Prop) : Array Value → State → Outcome → State → Prop := va_Qi (fun (r9 : Int32) (_ : Unit) => r9 = (f_B_readByte p1 k M D).1) (fun _ t => atW (dC, dI) classes A [c_B q1 q2 q3 ((f_B_readByte p1 k M D).2), c_A q2 cM 1024 M, c_A q3 cD 256 D] [(cM, .int), (cD, .int)] t) A
set_option maxHeartbeats 4000000 in
set_option maxRecDepth 100000 in
theorem c_B_readByte (l : Launch) (dC : Nat → ClassId) (dI : Nat → Nat → Nat) (z0 : Nat) (q1 : Nat) (q2 : Nat) (q3 : Nat) (cM : ClassId) (cD : ClassId) (sz : Nat) (p1 : Int32) (k M D : Nat → Int32)  : Met l y_B_readByte w_B_readByte ({ frames := 0, cells := 0, slots := 0, locals := 0 }) (PcX (dC, dI) classes z0 [c_B q1 q2 q3 k, c_A q2 cM 1024 M, c_A q3 cD 256 D] [(cM, .int), (cD, .int)] sz [.ref q1, .int p1]) (Q_B_readByte dC dI q1 q2 q3 cM cD p1 k M D (va_A [c_B q1 q2 q3 k, c_A q2 cM 1024 M, c_A q3 cD 256 D] sz)) 0 0 (va_A [c_B q1 q2 q3 k, c_A q2 cM 1024 M, c_A q3 cD 256 D] sz) := by
  refine hdX (cc := b_B_readByte) (maxL := 4) (ret := (some .int)) (C := R_B) (Qc := (Q_B_readByte dC dI q1 q2 q3 cM cD p1 k M D)) (by decide) rfl ?_
  intro p e s m below meth c A H hx hb hr hlocks hml hown hin htB hP hK hD hA hA0 hE hS
  have hl := lv_entry ([.ref q1, .int p1]) (n := 4) (Nat.le_of_ble_eq_true rfl)
  rw [lg_entry_eq]
  generalize (lg_sl ([.ref q1, .int p1]) ++ List.replicate (4 - (lg_sl ([.ref q1, .int p1])).length) Slot.unset).toArray = ls at hl ⊢
  have hl : lv_has ls 4 [(0, .ref q1), (1, .int p1)] := hl
  refine lv_iload_n hx hb d_B_readByte_0 rfl (lv_at hl 1 rfl) ?_
  refine lv_sipush (v := 1023) hx hb d_B_readByte_1 (by decide) ?_
  refine lv_iand hx hb d_B_readByte_4 ?_
  refine lv_istore_n (lv' := [(2, .int (p1 &&& (1023 : Int32))), (0, .ref q1), (1, .int p1)]) hx hb d_B_readByte_5 rfl hl (by decide) rfl (fun ls hl => ?_)
  refine lv_iload_n hx hb d_B_readByte_6 rfl (lv_at hl 0 rfl) ?_
  refine lv_sipush (v := 1008) hx hb d_B_readByte_7 (by decide) ?_
  refine lv_icmp_ge (tgt := 20) hx hb d_B_readByte_10 (by decide) (fun c_1 => ?_) (fun c_1 => ?_)
  · refine lv_iload_n hx hb d_B_readByte_20 rfl (lv_at hl 0 rfl) ?_
    by_cases c_2 : (p1 &&& (1023 : Int32)) = (1008 : Int32)
    · refine lv_tableIn (tgt := 48) hx hb d_B_readByte_21 (by rw [c_2]; decide) (by rw [c_2]; decide) (by rw [c_2]; rfl) (by decide) ?_
      refine lv_aload_n hx hb d_B_readByte_48 rfl (lv_at hl 1 rfl) ?_
      refine va_get (D := (dC, dI)) (ci := 2) (v := .int (k 0)) (C := R_B) (T := F_B) (N := 5) hx hb htB i_B hown hK hP 0 rfl rfl 2 (by decide) (htB _ mw_39) (fun _ h9 => h9) rfl d_B_readByte_49 ?_
      have hf : f_B_readByte p1 k M D = ((k 0), k) := by rw [f_B_readByte, if_pos c_1, if_pos c_2]
      exact W.iret (v := (k 0)) hx hb hr (fun t ht hW => ⟨⟨(k 0), (), rfl, (congrArg (fun z => z.1) hf).symm, by rw [hf]; exact ⟨by rw [ht]; exact hP, va_K.moved hW.alike hK, hD⟩⟩, hS.F ht⟩) hS.2.2 d_B_readByte_52
    · by_cases c_3 : (p1 &&& (1023 : Int32)) = (1009 : Int32)
      · refine lv_tableIn (tgt := 53) hx hb d_B_readByte_21 (by rw [c_3]; decide) (by rw [c_3]; decide) (by rw [c_3]; rfl) (by decide) ?_
        refine lv_aload_n hx hb d_B_readByte_53 rfl (lv_at hl 1 rfl) ?_
        refine va_get (D := (dC, dI)) (ci := 2) (v := .int (k 0)) (C := R_B) (T := F_B) (N := 5) hx hb htB i_B hown hK hP 0 rfl rfl 2 (by decide) (htB _ mw_39) (fun _ h9 => h9) rfl d_B_readByte_54 ?_
        refine lv_istore_n (lv' := [(3, .int (k 0)), (2, .int (p1 &&& (1023 : Int32))), (0, .ref q1), (1, .int p1)]) hx hb d_B_readByte_57 rfl hl (by decide) rfl (fun ls hl => ?_)
        refine lv_aload_n hx hb d_B_readByte_58 rfl (lv_at hl 2 rfl) ?_
        refine lv_iconst (v := 0) hx hb d_B_readByte_59 (by decide) ?_
        refine va_put (D := (dC, dI)) (ci := 2) (v := .int (0 : Int32)) (ty := .int) (C := R_B) (T := F_B) (N := 5) hx hb htB i_B t_B t_B_ok n_B hown hK hP hD hS 0 rfl rfl 2 (by decide) (htB _ mw_39) (fun _ h9 => h9) rfl (by decide +kernel) rfl rfl (Nat.le_of_ble_eq_true rfl) d_B_readByte_60 (fun H locs hP hD hS => ?_)
        have hP : va_P (dC, dI) classes [c_B q1 q2 q3 (upd k 0 (0 : Int32)), c_A q2 cM 1024 M, c_A q3 cD 256 D] H := hP
        have hD : va_D A [c_B q1 q2 q3 (upd k 0 (0 : Int32)), c_A q2 cM 1024 M, c_A q3 cD 256 D] := hD
        refine lv_iload_n hx hb d_B_readByte_63 rfl (lv_at hl 0 rfl) ?_
        have hf : f_B_readByte p1 k M D = ((k 0), (upd k 0 (0 : Int32))) := by rw [f_B_readByte, if_pos c_1, if_neg c_2, if_pos c_3]
        exact W.iret (v := (k 0)) hx hb hr (fun t ht hW => ⟨⟨(k 0), (), rfl, (congrArg (fun z => z.1) hf).symm, by rw [hf]; exact ⟨by rw [ht]; exact hP, va_K.moved hW.alike hK, hD⟩⟩, hS.F ht⟩) hS.2.2 d_B_readByte_64
      · by_cases c_4 : (p1 &&& (1023 : Int32)) = (1010 : Int32)
        · refine lv_tableIn (tgt := 65) hx hb d_B_readByte_21 (by rw [c_4]; decide) (by rw [c_4]; decide) (by rw [c_4]; rfl) (by decide) ?_
          refine lv_aload_n hx hb d_B_readByte_65 rfl (lv_at hl 1 rfl) ?_
          refine va_get (D := (dC, dI)) (ci := 2) (v := .int (k 1)) (C := R_B) (T := F_B) (N := 5) hx hb htB i_B hown hK hP 0 rfl rfl 3 (by decide) (htB _ mw_41) (fun _ h9 => h9) rfl d_B_readByte_66 ?_
          have hf : f_B_readByte p1 k M D = ((k 1), k) := by rw [f_B_readByte, if_pos c_1, if_neg c_2, if_neg c_3, if_pos c_4]
          exact W.iret (v := (k 1)) hx hb hr (fun t ht hW => ⟨⟨(k 1), (), rfl, (congrArg (fun z => z.1) hf).symm, by rw [hf]; exact ⟨by rw [ht]; exact hP, va_K.moved hW.alike hK, hD⟩⟩, hS.F ht⟩) hS.2.2 d_B_readByte_69
        · refine lv_tableOut (tgt := 70) hx hb d_B_readByte_21 (by have g_1008 := lv_neT c_2 (show (1008 : Int32).toInt = 1008 from by decide); have g_1009 := lv_neT c_3 (show (1009 : Int32).toInt = 1009 from by decide); have g_1010 := lv_neT c_4 (show (1010 : Int32).toInt = 1010 from by decide); omega) (by decide) ?_
          refine lv_iconst (v := 0) hx hb d_B_readByte_70 (by decide) ?_
          have hf : f_B_readByte p1 k M D = ((0 : Int32), k) := by rw [f_B_readByte, if_pos c_1, if_neg c_2, if_neg c_3, if_neg c_4]
          exact W.iret (v := (0 : Int32)) hx hb hr (fun t ht hW => ⟨⟨(0 : Int32), (), rfl, (congrArg (fun z => z.1) hf).symm, by rw [hf]; exact ⟨by rw [ht]; exact hP, va_K.moved hW.alike hK, hD⟩⟩, hS.F ht⟩) hS.2.2 d_B_readByte_71
  · refine lv_aload_n hx hb d_B_readByte_13 rfl (lv_at hl 1 rfl) ?_
    refine va_get (D := (dC, dI)) (ci := 2) (v := .ref q2) (C := R_B) (T := F_B) (N := 5) hx hb htB i_B hown hK hP 0 rfl rfl 0 (by decide) (htB _ mw_34) (fun _ h9 => h9) rfl d_B_readByte_14 ?_
    refine lv_iload_n hx hb d_B_readByte_17 rfl (lv_at hl 0 rfl) ?_
    refine va_iald hx hb hK hP 1 0 rfl rfl (in_and1023 _) d_B_readByte_18 ?_
    have hf : f_B_readByte p1 k M D = ((M ((p1 &&& (1023 : Int32)).toNatClampNeg)), k) := by rw [f_B_readByte, if_neg c_1]
    exact W.iret (v := (M ((p1 &&& (1023 : Int32)).toNatClampNeg))) hx hb hr (fun t ht hW => ⟨⟨(M ((p1 &&& (1023 : Int32)).toNatClampNeg)), (), rfl, (congrArg (fun z => z.1) hf).symm, by rw [hf]; exact ⟨by rw [ht]; exact hP, va_K.moved hW.alike hK, hD⟩⟩, hS.F ht⟩) hS.2.2 d_B_readByte_19

theorem rb_sn {p1 : Int32} {k M D : Nat → Int32} (h : sn_ok k) : sn_ok (f_B_readByte p1 k M D).2 := by
  unfold f_B_readByte
  repeat' split
  all_goals exact h
theorem rb_byte {p1 : Int32} {k M D : Nat → Int32} (hs : sn_ok k) (h : mem_ok k M) : isB (f_B_readByte p1 k M D).1 := by
  unfold f_B_readByte
  repeat' split
  · exact h.2
  · exact h.2
  · obtain ⟨j, hj, e⟩ := hs
    exact ⟨j, by omega, e⟩
  · exact ⟨0, by decide, rfl⟩
  · exact h.1 _ (in_lt (in_and1023 _))
theorem rb_mem {p1 : Int32} {k M D : Nat → Int32} (h : mem_ok k M) : mem_ok (f_B_readByte p1 k M D).2 M := by
  unfold f_B_readByte
  repeat' split
  · exact h
  · exact ⟨h.1, 0, by decide, rfl⟩
  · exact h
  · exact h
  · exact h

def f_B_writeCell (p1 : Int32) (p2 : Int32) (k M D : Nat → Int32) : Int32 × (Nat → Int32) × (Nat → Int32) × (Nat → Int32) :=
  if p1 = (1010 : Int32) then
    if p2 < (8 : Int32) then
      ((0 : Int32), (upd k 1 p2), M, D)
    else
      ((3 : Int32), k, M, D)
  else
    if p1 = (1011 : Int32) then
      ((0 : Int32), k, (va_cpy D M ((k 1) * (32 : Int32)).toNatClampNeg (768 : Int32).toNatClampNeg (32 : Int32).toNatClampNeg), D)
    else
      if p1 = (1012 : Int32) then
        ((0 : Int32), k, M, (va_cpy M D (768 : Int32).toNatClampNeg ((k 1) * (32 : Int32)).toNatClampNeg (32 : Int32).toNatClampNeg))
      else
        ((0 : Int32), k, M, D)
abbrev Q_B_writeCell (dC : Nat → ClassId) (dI : Nat → Nat → Nat) (q1 : Nat) (q2 : Nat) (q3 : Nat) (cM : ClassId) (cD : ClassId) (p1 : Int32) (p2 : Int32) (k M D : Nat → Int32) (A : Nat → Prop) : Array Value → State → Outcome → State → Prop := va_Qi (fun (r9 : Int32) (_ : Unit) => r9 = (f_B_writeCell p1 p2 k M D).1) (fun _ t => atW (dC, dI) classes A [c_B q1 q2 q3 ((f_B_writeCell p1 p2 k M D).2.1), c_A q2 cM 1024 ((f_B_writeCell p1 p2 k M D).2.2.1), c_A q3 cD 256 ((f_B_writeCell p1 p2 k M D).2.2.2)] [(cM, .int), (cD, .int)] t) A
set_option maxHeartbeats 4000000 in
set_option maxRecDepth 100000 in
theorem c_B_writeCell (l : Launch) (dC : Nat → ClassId) (dI : Nat → Nat → Nat) (z0 : Nat) (q1 : Nat) (q2 : Nat) (q3 : Nat) (cM : ClassId) (cD : ClassId) (sz : Nat) (p1 : Int32) (p2 : Int32) (k M D : Nat → Int32) (hsn : sn_ok k) : Met l y_B_writeCell w_B_writeCell ({ frames := 1, cells := 0, slots := 0, locals := 40 }) (PcX (dC, dI) classes z0 [c_B q1 q2 q3 k, c_A q2 cM 1024 M, c_A q3 cD 256 D] [(cM, .int), (cD, .int)] sz [.ref q1, .int p1, .int p2]) (Q_B_writeCell dC dI q1 q2 q3 cM cD p1 p2 k M D (va_A [c_B q1 q2 q3 k, c_A q2 cM 1024 M, c_A q3 cD 256 D] sz)) 0 0 (va_A [c_B q1 q2 q3 k, c_A q2 cM 1024 M, c_A q3 cD 256 D] sz) := by
  refine hdX (cc := b_B_writeCell) (maxL := 3) (ret := (some .int)) (C := R_B) (Qc := (Q_B_writeCell dC dI q1 q2 q3 cM cD p1 p2 k M D)) (by decide) rfl ?_
  intro p e s m below meth c A H hx hb hr hlocks hml hown hin htB hP hK hD hA hA0 hE hS
  have hl := lv_entry ([.ref q1, .int p1, .int p2]) (n := 3) (Nat.le_of_ble_eq_true rfl)
  rw [lg_entry_eq]
  generalize (lg_sl ([.ref q1, .int p1, .int p2]) ++ List.replicate (3 - (lg_sl ([.ref q1, .int p1, .int p2])).length) Slot.unset).toArray = ls at hl ⊢
  have hl : lv_has ls 3 [(0, .ref q1), (1, .int p1), (2, .int p2)] := hl
  refine lv_iload_n hx hb d_B_writeCell_0 rfl (lv_at hl 1 rfl) ?_
  by_cases c_1 : p1 = (1010 : Int32)
  · refine lv_tableIn (tgt := 28) hx hb d_B_writeCell_1 (by rw [c_1]; decide) (by rw [c_1]; decide) (by rw [c_1]; rfl) (by decide) ?_
    refine lv_iload_n hx hb d_B_writeCell_28 rfl (lv_at hl 2 rfl) ?_
    refine lv_bipush (v := 8) hx hb d_B_writeCell_29 (by decide) ?_
    refine lv_icmp_lt (tgt := 36) hx hb d_B_writeCell_31 (by decide) (fun c_2 => ?_) (fun c_2 => ?_)
    · refine lv_aload_n hx hb d_B_writeCell_36 rfl (lv_at hl 0 rfl) ?_
      refine lv_iload_n hx hb d_B_writeCell_37 rfl (lv_at hl 2 rfl) ?_
      refine va_put (D := (dC, dI)) (ci := 2) (v := .int p2) (ty := .int) (C := R_B) (T := F_B) (N := 5) hx hb htB i_B t_B t_B_ok n_B hown hK hP hD hS 0 rfl rfl 3 (by decide) (htB _ mw_41) (fun _ h9 => h9) rfl (by decide +kernel) rfl rfl (Nat.le_of_ble_eq_true rfl) d_B_writeCell_38 (fun H locs hP hD hS => ?_)
      have hP : va_P (dC, dI) classes [c_B q1 q2 q3 (upd k 1 p2), c_A q2 cM 1024 M, c_A q3 cD 256 D] H := hP
      have hD : va_D A [c_B q1 q2 q3 (upd k 1 p2), c_A q2 cM 1024 M, c_A q3 cD 256 D] := hD
      refine lv_goto (tgt := 96) hx hb d_B_writeCell_41 (by decide) ?_
      refine lv_iconst (v := 0) hx hb d_B_writeCell_96 (by decide) ?_
      have hf : f_B_writeCell p1 p2 k M D = ((0 : Int32), (upd k 1 p2), M, D) := by rw [f_B_writeCell, if_pos c_1, if_pos c_2]
      exact W.iret (v := (0 : Int32)) hx hb hr (fun t ht hW => ⟨⟨(0 : Int32), (), rfl, (congrArg (fun z => z.1) hf).symm, by rw [hf]; exact ⟨by rw [ht]; exact hP, va_K.moved hW.alike hK, hD⟩⟩, hS.F ht⟩) hS.2.2 d_B_writeCell_97
    · refine lv_iconst (v := 3) hx hb d_B_writeCell_34 (by decide) ?_
      have hf : f_B_writeCell p1 p2 k M D = ((3 : Int32), k, M, D) := by rw [f_B_writeCell, if_pos c_1, if_neg c_2]
      exact W.iret (v := (3 : Int32)) hx hb hr (fun t ht hW => ⟨⟨(3 : Int32), (), rfl, (congrArg (fun z => z.1) hf).symm, by rw [hf]; exact ⟨by rw [ht]; exact hP, va_K.moved hW.alike hK, hD⟩⟩, hS.F ht⟩) hS.2.2 d_B_writeCell_35
  · by_cases c_2 : p1 = (1011 : Int32)
    · refine lv_tableIn (tgt := 44) hx hb d_B_writeCell_1 (by rw [c_2]; decide) (by rw [c_2]; decide) (by rw [c_2]; rfl) (by decide) ?_
      refine lv_aload_n hx hb d_B_writeCell_44 rfl (lv_at hl 0 rfl) ?_
      refine va_get (D := (dC, dI)) (ci := 2) (v := .ref q3) (C := R_B) (T := F_B) (N := 5) hx hb htB i_B hown hK hP 0 rfl rfl 1 (by decide) (htB _ mw_37) (fun _ h9 => h9) rfl d_B_writeCell_45 ?_
      refine lv_aload_n hx hb d_B_writeCell_48 rfl (lv_at hl 0 rfl) ?_
      refine va_get (D := (dC, dI)) (ci := 2) (v := .int (k 1)) (C := R_B) (T := F_B) (N := 5) hx hb htB i_B hown hK hP 0 rfl rfl 3 (by decide) (htB _ mw_41) (fun _ h9 => h9) rfl d_B_writeCell_49 ?_
      refine lv_bipush (v := 32) hx hb d_B_writeCell_52 (by decide) ?_
      refine lv_imul hx hb d_B_writeCell_54 ?_
      refine lv_aload_n hx hb d_B_writeCell_55 rfl (lv_at hl 0 rfl) ?_
      refine va_get (D := (dC, dI)) (ci := 2) (v := .ref q2) (C := R_B) (T := F_B) (N := 5) hx hb htB i_B hown hK hP 0 rfl rfl 0 (by decide) (htB _ mw_34) (fun _ h9 => h9) rfl d_B_writeCell_56 ?_
      refine lv_sipush (v := 768) hx hb d_B_writeCell_59 (by decide) ?_
      refine lv_bipush (v := 32) hx hb d_B_writeCell_62 (by decide) ?_
      refine va_copyi hx hb (hml.trans hl.1.symm) hown (htB _ mw_315) (htB _ mw_317) (htB _ mw_316) (htB _ mw_10) hK hP hD hS 2 1 1 0 rfl rfl rfl rfl rfl (sn_sp0 hsn) (by decide) (by decide) (sn_sp1 hsn) (by decide) (fun _ _ => rfl) (Nat.le_of_ble_eq_true rfl) (by decide) d_B_writeCell_64 (fun H locs hP hD hS => ?_)
      have hP : va_P (dC, dI) classes [c_B q1 q2 q3 k, c_A q2 cM 1024 (va_cpy D M ((k 1) * (32 : Int32)).toNatClampNeg (768 : Int32).toNatClampNeg (32 : Int32).toNatClampNeg), c_A q3 cD 256 D] H := hP
      have hD : va_D A [c_B q1 q2 q3 k, c_A q2 cM 1024 (va_cpy D M ((k 1) * (32 : Int32)).toNatClampNeg (768 : Int32).toNatClampNeg (32 : Int32).toNatClampNeg), c_A q3 cD 256 D] := hD
      refine lv_goto (tgt := 96) hx hb d_B_writeCell_67 (by decide) ?_
      refine lv_iconst (v := 0) hx hb d_B_writeCell_96 (by decide) ?_
      have hf : f_B_writeCell p1 p2 k M D = ((0 : Int32), k, (va_cpy D M ((k 1) * (32 : Int32)).toNatClampNeg (768 : Int32).toNatClampNeg (32 : Int32).toNatClampNeg), D) := by rw [f_B_writeCell, if_neg c_1, if_pos c_2]
      exact W.iret (v := (0 : Int32)) hx hb hr (fun t ht hW => ⟨⟨(0 : Int32), (), rfl, (congrArg (fun z => z.1) hf).symm, by rw [hf]; exact ⟨by rw [ht]; exact hP, va_K.moved hW.alike hK, hD⟩⟩, hS.F ht⟩) hS.2.2 d_B_writeCell_97
    · by_cases c_3 : p1 = (1012 : Int32)
      · refine lv_tableIn (tgt := 70) hx hb d_B_writeCell_1 (by rw [c_3]; decide) (by rw [c_3]; decide) (by rw [c_3]; rfl) (by decide) ?_
        refine lv_aload_n hx hb d_B_writeCell_70 rfl (lv_at hl 0 rfl) ?_
        refine va_get (D := (dC, dI)) (ci := 2) (v := .ref q2) (C := R_B) (T := F_B) (N := 5) hx hb htB i_B hown hK hP 0 rfl rfl 0 (by decide) (htB _ mw_34) (fun _ h9 => h9) rfl d_B_writeCell_71 ?_
        refine lv_sipush (v := 768) hx hb d_B_writeCell_74 (by decide) ?_
        refine lv_aload_n hx hb d_B_writeCell_77 rfl (lv_at hl 0 rfl) ?_
        refine va_get (D := (dC, dI)) (ci := 2) (v := .ref q3) (C := R_B) (T := F_B) (N := 5) hx hb htB i_B hown hK hP 0 rfl rfl 1 (by decide) (htB _ mw_37) (fun _ h9 => h9) rfl d_B_writeCell_78 ?_
        refine lv_aload_n hx hb d_B_writeCell_81 rfl (lv_at hl 0 rfl) ?_
        refine va_get (D := (dC, dI)) (ci := 2) (v := .int (k 1)) (C := R_B) (T := F_B) (N := 5) hx hb htB i_B hown hK hP 0 rfl rfl 3 (by decide) (htB _ mw_41) (fun _ h9 => h9) rfl d_B_writeCell_82 ?_
        refine lv_bipush (v := 32) hx hb d_B_writeCell_85 (by decide) ?_
        refine lv_imul hx hb d_B_writeCell_87 ?_
        refine lv_bipush (v := 32) hx hb d_B_writeCell_88 (by decide) ?_
        refine va_copyi hx hb (hml.trans hl.1.symm) hown (htB _ mw_315) (htB _ mw_317) (htB _ mw_316) (htB _ mw_10) hK hP hD hS 1 2 0 1 rfl rfl rfl rfl rfl (by decide) (sn_sp0 hsn) (by decide) (by decide) (sn_sp1 hsn) (fun _ _ => rfl) (Nat.le_of_ble_eq_true rfl) (by decide) d_B_writeCell_90 (fun H locs hP hD hS => ?_)
        have hP : va_P (dC, dI) classes [c_B q1 q2 q3 k, c_A q2 cM 1024 M, c_A q3 cD 256 (va_cpy M D (768 : Int32).toNatClampNeg ((k 1) * (32 : Int32)).toNatClampNeg (32 : Int32).toNatClampNeg)] H := hP
        have hD : va_D A [c_B q1 q2 q3 k, c_A q2 cM 1024 M, c_A q3 cD 256 (va_cpy M D (768 : Int32).toNatClampNeg ((k 1) * (32 : Int32)).toNatClampNeg (32 : Int32).toNatClampNeg)] := hD
        refine lv_goto (tgt := 96) hx hb d_B_writeCell_93 (by decide) ?_
        refine lv_iconst (v := 0) hx hb d_B_writeCell_96 (by decide) ?_
        have hf : f_B_writeCell p1 p2 k M D = ((0 : Int32), k, M, (va_cpy M D (768 : Int32).toNatClampNeg ((k 1) * (32 : Int32)).toNatClampNeg (32 : Int32).toNatClampNeg)) := by rw [f_B_writeCell, if_neg c_1, if_neg c_2, if_pos c_3]
        exact W.iret (v := (0 : Int32)) hx hb hr (fun t ht hW => ⟨⟨(0 : Int32), (), rfl, (congrArg (fun z => z.1) hf).symm, by rw [hf]; exact ⟨by rw [ht]; exact hP, va_K.moved hW.alike hK, hD⟩⟩, hS.F ht⟩) hS.2.2 d_B_writeCell_97
      · refine lv_tableOut (tgt := 96) hx hb d_B_writeCell_1 (by have g_1010 := lv_neT c_1 (show (1010 : Int32).toInt = 1010 from by decide); have g_1011 := lv_neT c_2 (show (1011 : Int32).toInt = 1011 from by decide); have g_1012 := lv_neT c_3 (show (1012 : Int32).toInt = 1012 from by decide); omega) (by decide) ?_
        refine lv_iconst (v := 0) hx hb d_B_writeCell_96 (by decide) ?_
        have hf : f_B_writeCell p1 p2 k M D = ((0 : Int32), k, M, D) := by rw [f_B_writeCell, if_neg c_1, if_neg c_2, if_neg c_3]
        exact W.iret (v := (0 : Int32)) hx hb hr (fun t ht hW => ⟨⟨(0 : Int32), (), rfl, (congrArg (fun z => z.1) hf).symm, by rw [hf]; exact ⟨by rw [ht]; exact hP, va_K.moved hW.alike hK, hD⟩⟩, hS.F ht⟩) hS.2.2 d_B_writeCell_97

def f_B_writeByte (p1 : Int32) (p2 : Int32) (k M D : Nat → Int32) : Int32 × (Nat → Int32) × (Nat → Int32) × (Nat → Int32) :=
  if (p1 &&& (1023 : Int32)) < (1008 : Int32) then
    if (k 2) = (0 : Int32) then
      ((0 : Int32), k, (upd M ((p1 &&& (1023 : Int32)).toNatClampNeg) p2), D)
    else
      if (p1 &&& (1023 : Int32)) < (960 : Int32) then
        ((0 : Int32), k, (upd M ((p1 &&& (1023 : Int32)).toNatClampNeg) p2), D)
      else
        ((2 : Int32), k, M, D)
  else
    ((f_B_writeCell (p1 &&& (1023 : Int32)) p2 k M D).1, (f_B_writeCell (p1 &&& (1023 : Int32)) p2 k M D).2.1, (f_B_writeCell (p1 &&& (1023 : Int32)) p2 k M D).2.2.1, (f_B_writeCell (p1 &&& (1023 : Int32)) p2 k M D).2.2.2)
abbrev Q_B_writeByte (dC : Nat → ClassId) (dI : Nat → Nat → Nat) (q1 : Nat) (q2 : Nat) (q3 : Nat) (cM : ClassId) (cD : ClassId) (p1 : Int32) (p2 : Int32) (k M D : Nat → Int32) (A : Nat → Prop) : Array Value → State → Outcome → State → Prop := va_Qi (fun (r9 : Int32) (_ : Unit) => r9 = (f_B_writeByte p1 p2 k M D).1) (fun _ t => atW (dC, dI) classes A [c_B q1 q2 q3 ((f_B_writeByte p1 p2 k M D).2.1), c_A q2 cM 1024 ((f_B_writeByte p1 p2 k M D).2.2.1), c_A q3 cD 256 ((f_B_writeByte p1 p2 k M D).2.2.2)] [(cM, .int), (cD, .int)] t) A
set_option maxHeartbeats 4000000 in
set_option maxRecDepth 100000 in
theorem c_B_writeByte (l : Launch) (dC : Nat → ClassId) (dI : Nat → Nat → Nat) (z0 : Nat) (q1 : Nat) (q2 : Nat) (q3 : Nat) (cM : ClassId) (cD : ClassId) (sz : Nat) (p1 : Int32) (p2 : Int32) (k M D : Nat → Int32) (hsn : sn_ok k) : Met l y_B_writeByte w_B_writeByte ({ frames := 2, cells := 0, slots := 0, locals := 62 }) (PcX (dC, dI) classes z0 [c_B q1 q2 q3 k, c_A q2 cM 1024 M, c_A q3 cD 256 D] [(cM, .int), (cD, .int)] sz [.ref q1, .int p1, .int p2]) (Q_B_writeByte dC dI q1 q2 q3 cM cD p1 p2 k M D (va_A [c_B q1 q2 q3 k, c_A q2 cM 1024 M, c_A q3 cD 256 D] sz)) 0 0 (va_A [c_B q1 q2 q3 k, c_A q2 cM 1024 M, c_A q3 cD 256 D] sz) := by
  refine hdX (cc := b_B_writeByte) (maxL := 4) (ret := (some .int)) (C := R_B) (Qc := (Q_B_writeByte dC dI q1 q2 q3 cM cD p1 p2 k M D)) (by decide) rfl ?_
  intro p e s m below meth c A H hx hb hr hlocks hml hown hin htB hP hK hD hA hA0 hE hS
  have hl := lv_entry ([.ref q1, .int p1, .int p2]) (n := 4) (Nat.le_of_ble_eq_true rfl)
  rw [lg_entry_eq]
  generalize (lg_sl ([.ref q1, .int p1, .int p2]) ++ List.replicate (4 - (lg_sl ([.ref q1, .int p1, .int p2])).length) Slot.unset).toArray = ls at hl ⊢
  have hl : lv_has ls 4 [(0, .ref q1), (1, .int p1), (2, .int p2)] := hl
  refine lv_iload_n hx hb d_B_writeByte_0 rfl (lv_at hl 1 rfl) ?_
  refine lv_sipush (v := 1023) hx hb d_B_writeByte_1 (by decide) ?_
  refine lv_iand hx hb d_B_writeByte_4 ?_
  refine lv_istore_n (lv' := [(3, .int (p1 &&& (1023 : Int32))), (0, .ref q1), (1, .int p1), (2, .int p2)]) hx hb d_B_writeByte_5 rfl hl (by decide) rfl (fun ls hl => ?_)
  refine lv_iload_n hx hb d_B_writeByte_6 rfl (lv_at hl 0 rfl) ?_
  refine lv_sipush (v := 1008) hx hb d_B_writeByte_7 (by decide) ?_
  refine lv_icmp_lt (tgt := 20) hx hb d_B_writeByte_10 (by decide) (fun c_1 => ?_) (fun c_1 => ?_)
  · refine lv_aload_n hx hb d_B_writeByte_20 rfl (lv_at hl 1 rfl) ?_
    refine va_get (D := (dC, dI)) (ci := 2) (v := .int (k 2)) (C := R_B) (T := F_B) (N := 5) hx hb htB i_B hown hK hP 0 rfl rfl 4 (by decide) (htB _ mw_43) (fun _ h9 => h9) rfl d_B_writeByte_21 ?_
    refine lv_if_eq (tgt := 36) hx hb d_B_writeByte_24 (by decide) (fun c_2 => ?_) (fun c_2 => ?_)
    · refine lv_aload_n hx hb d_B_writeByte_36 rfl (lv_at hl 1 rfl) ?_
      refine va_get (D := (dC, dI)) (ci := 2) (v := .ref q2) (C := R_B) (T := F_B) (N := 5) hx hb htB i_B hown hK hP 0 rfl rfl 0 (by decide) (htB _ mw_34) (fun _ h9 => h9) rfl d_B_writeByte_37 ?_
      refine lv_iload_n hx hb d_B_writeByte_40 rfl (lv_at hl 0 rfl) ?_
      refine lv_iload_n hx hb d_B_writeByte_41 rfl (lv_at hl 3 rfl) ?_
      refine va_iast hx hb hK hP hD hS 1 0 rfl rfl (in_and1023 _) d_B_writeByte_42 (fun H locs hP hD hS => ?_)
      have hP : va_P (dC, dI) classes [c_B q1 q2 q3 k, c_A q2 cM 1024 (upd M ((p1 &&& (1023 : Int32)).toNatClampNeg) p2), c_A q3 cD 256 D] H := hP
      have hD : va_D A [c_B q1 q2 q3 k, c_A q2 cM 1024 (upd M ((p1 &&& (1023 : Int32)).toNatClampNeg) p2), c_A q3 cD 256 D] := hD
      refine lv_iconst (v := 0) hx hb d_B_writeByte_43 (by decide) ?_
      have hf : f_B_writeByte p1 p2 k M D = ((0 : Int32), k, (upd M ((p1 &&& (1023 : Int32)).toNatClampNeg) p2), D) := by rw [f_B_writeByte, if_pos c_1, if_pos c_2]
      exact W.iret (v := (0 : Int32)) hx hb hr (fun t ht hW => ⟨⟨(0 : Int32), (), rfl, (congrArg (fun z => z.1) hf).symm, by rw [hf]; exact ⟨by rw [ht]; exact hP, va_K.moved hW.alike hK, hD⟩⟩, hS.F ht⟩) hS.2.2 d_B_writeByte_44
    · refine lv_iload_n hx hb d_B_writeByte_27 rfl (lv_at hl 0 rfl) ?_
      refine lv_sipush (v := 960) hx hb d_B_writeByte_28 (by decide) ?_
      refine lv_icmp_lt (tgt := 36) hx hb d_B_writeByte_31 (by decide) (fun c_3 => ?_) (fun c_3 => ?_)
      · refine lv_aload_n hx hb d_B_writeByte_36 rfl (lv_at hl 1 rfl) ?_
        refine va_get (D := (dC, dI)) (ci := 2) (v := .ref q2) (C := R_B) (T := F_B) (N := 5) hx hb htB i_B hown hK hP 0 rfl rfl 0 (by decide) (htB _ mw_34) (fun _ h9 => h9) rfl d_B_writeByte_37 ?_
        refine lv_iload_n hx hb d_B_writeByte_40 rfl (lv_at hl 0 rfl) ?_
        refine lv_iload_n hx hb d_B_writeByte_41 rfl (lv_at hl 3 rfl) ?_
        refine va_iast hx hb hK hP hD hS 1 0 rfl rfl (in_and1023 _) d_B_writeByte_42 (fun H locs hP hD hS => ?_)
        have hP : va_P (dC, dI) classes [c_B q1 q2 q3 k, c_A q2 cM 1024 (upd M ((p1 &&& (1023 : Int32)).toNatClampNeg) p2), c_A q3 cD 256 D] H := hP
        have hD : va_D A [c_B q1 q2 q3 k, c_A q2 cM 1024 (upd M ((p1 &&& (1023 : Int32)).toNatClampNeg) p2), c_A q3 cD 256 D] := hD
        refine lv_iconst (v := 0) hx hb d_B_writeByte_43 (by decide) ?_
        have hf : f_B_writeByte p1 p2 k M D = ((0 : Int32), k, (upd M ((p1 &&& (1023 : Int32)).toNatClampNeg) p2), D) := by rw [f_B_writeByte, if_pos c_1, if_neg c_2, if_pos c_3]
        exact W.iret (v := (0 : Int32)) hx hb hr (fun t ht hW => ⟨⟨(0 : Int32), (), rfl, (congrArg (fun z => z.1) hf).symm, by rw [hf]; exact ⟨by rw [ht]; exact hP, va_K.moved hW.alike hK, hD⟩⟩, hS.F ht⟩) hS.2.2 d_B_writeByte_44
      · refine lv_iconst (v := 2) hx hb d_B_writeByte_34 (by decide) ?_
        have hf : f_B_writeByte p1 p2 k M D = ((2 : Int32), k, M, D) := by rw [f_B_writeByte, if_pos c_1, if_neg c_2, if_neg c_3]
        exact W.iret (v := (2 : Int32)) hx hb hr (fun t ht hW => ⟨⟨(2 : Int32), (), rfl, (congrArg (fun z => z.1) hf).symm, by rw [hf]; exact ⟨by rw [ht]; exact hP, va_K.moved hW.alike hK, hD⟩⟩, hS.F ht⟩) hS.2.2 d_B_writeByte_35
  · refine lv_aload_n hx hb d_B_writeByte_13 rfl (lv_at hl 1 rfl) ?_
    refine lv_iload_n hx hb d_B_writeByte_14 rfl (lv_at hl 0 rfl) ?_
    refine lv_iload_n hx hb d_B_writeByte_15 rfl (lv_at hl 3 rfl) ?_
    have hPc := hP.sub (ws' := [c_B q1 q2 q3 k, c_A q2 cM 1024 M, c_A q3 cD 256 D]) [0, 1, 2] rfl
    have hDc := hD.sub (ws' := [c_B q1 q2 q3 k, c_A q2 cM 1024 M, c_A q3 cD 256 D]) [0, 1, 2] (by decide) rfl
    have hKc := hK.sub (tys' := [(cM, .int), (cD, .int)]) [0, 1] rfl
    have hFc := va_free (wc := [c_B q1 q2 q3 k, c_A q2 cM 1024 M, c_A q3 cD 256 D]) hD hS hA [0, 1, 2] rfl
    refine va_calli (va_runV (As := [.int (p1 &&& (1023 : Int32)), .int p2]) (rest := []) ⟨hx, hb, hml, hown, htB⟩ (c_B_writeCell l dC dI z0 q1 q2 q3 cM cD H.size (p1 &&& (1023 : Int32)) p2 k M D hsn) (cwV 2 htB (gd_V mw_311 mw_313 sw_B_writeCell mw_3 mw_314) rfl rfl rfl (by decide +kernel) ⟨Nat.le_of_ble_eq_true rfl, Nat.le_of_ble_eq_true rfl⟩) (pcx_V (va_recv hKc hPc (ci := 2) (q0 := 0) rfl rfl) hPc hKc hDc hA0 hE hS) rfl rfl hl.1 rfl (lv_room (Nat.le_of_ble_eq_true rfl)) d_B_writeByte_16 ⟨Nat.zero_le _, Nat.zero_le _⟩) hS (fun q _ h => hFc q h) hFc (fun r9 u t H1 locs ht hvm hw hB hz1 hk1 hS => ?_)
    subst hw
    obtain ⟨hP1, hK1, hD1⟩ := hB
    rw [ht] at hP1
    obtain ⟨hP, hD⟩ := va_join (wr := []) (w1 := [c_B q1 q2 q3 ((f_B_writeCell (p1 &&& (1023 : Int32)) p2 k M D).2.1), c_A q2 cM 1024 ((f_B_writeCell (p1 &&& (1023 : Int32)) p2 k M D).2.2.1), c_A q3 cD 256 ((f_B_writeCell (p1 &&& (1023 : Int32)) p2 k M D).2.2.2)]) hP hD [0, 1, 2] [] rfl rfl (by decide) (by decide) hk1 hFc hP1 hD1
    generalize H1 = H at hP hS ⊢
    have hP : va_P (dC, dI) classes [c_B q1 q2 q3 ((f_B_writeCell (p1 &&& (1023 : Int32)) p2 k M D).2.1), c_A q2 cM 1024 ((f_B_writeCell (p1 &&& (1023 : Int32)) p2 k M D).2.2.1), c_A q3 cD 256 ((f_B_writeCell (p1 &&& (1023 : Int32)) p2 k M D).2.2.2)] H := hP.sub [0, 1, 2] rfl
    have hD : va_D A [c_B q1 q2 q3 ((f_B_writeCell (p1 &&& (1023 : Int32)) p2 k M D).2.1), c_A q2 cM 1024 ((f_B_writeCell (p1 &&& (1023 : Int32)) p2 k M D).2.2.1), c_A q3 cD 256 ((f_B_writeCell (p1 &&& (1023 : Int32)) p2 k M D).2.2.2)] := hD.sub [0, 1, 2] (by decide) rfl
    have hf : f_B_writeByte p1 p2 k M D = ((f_B_writeCell (p1 &&& (1023 : Int32)) p2 k M D).1, (f_B_writeCell (p1 &&& (1023 : Int32)) p2 k M D).2.1, (f_B_writeCell (p1 &&& (1023 : Int32)) p2 k M D).2.2.1, (f_B_writeCell (p1 &&& (1023 : Int32)) p2 k M D).2.2.2) := by rw [f_B_writeByte, if_neg c_1]
    exact W.iret (v := (f_B_writeCell (p1 &&& (1023 : Int32)) p2 k M D).1) hx hb hr (fun t ht hW => ⟨⟨(f_B_writeCell (p1 &&& (1023 : Int32)) p2 k M D).1, (), rfl, (congrArg (fun z => z.1) hf).symm, by rw [hf]; exact ⟨by rw [ht]; exact hP, va_K.moved hW.alike hK, hD⟩⟩, hS.F ht⟩) hS.2.2 d_B_writeByte_19

theorem wc_sn {p1 p2 : Int32} {k M D : Nat → Int32} (hv : ¬ p2 < 0) (h : sn_ok k) : sn_ok (f_B_writeCell p1 p2 k M D).2.1 := by
  unfold f_B_writeCell
  repeat' split
  all_goals first | exact h | exact sn_lt hv (Int32.not_le.mpr (by assumption))
theorem wb_sn {p1 p2 : Int32} {k M D : Nat → Int32} (hv : ¬ p2 < 0) (h : sn_ok k) : sn_ok (f_B_writeByte p1 p2 k M D).2.1 := by
  unfold f_B_writeByte
  repeat' split
  all_goals first | exact h | exact wc_sn hv h
