def f_P_wordAtZero (p1 : Int32) (r k M D : Nat → Int32) : Int32 :=
  ((M ((p1 &&& (255 : Int32)).toNatClampNeg)) + ((256 : Int32) * (M (((p1 + (1 : Int32)) &&& (255 : Int32)).toNatClampNeg))))
abbrev Q_P_wordAtZero (dC : Nat → ClassId) (dI : Nat → Nat → Nat) (q0 : Nat) (q1 : Nat) (q2 : Nat) (q3 : Nat) (cM : ClassId) (cD : ClassId) (p1 : Int32) (r k M D : Nat → Int32) (A : Nat → Prop) : Array Value → State → Outcome → State → Prop := va_Qi (fun (r9 : Int32) (_ : Unit) => r9 = (f_P_wordAtZero p1 r k M D)) (fun _ t => atW (dC, dI) classes A [c_P q0 q1 r, c_B q1 q2 q3 k, c_A q2 cM 1024 M, c_A q3 cD 256 D] [(cM, .int), (cD, .int)] t) A
set_option maxHeartbeats 4000000 in
set_option maxRecDepth 100000 in
theorem c_P_wordAtZero (l : Launch) (dC : Nat → ClassId) (dI : Nat → Nat → Nat) (z0 : Nat) (q0 : Nat) (q1 : Nat) (q2 : Nat) (q3 : Nat) (cM : ClassId) (cD : ClassId) (sz : Nat) (p1 : Int32) (r k M D : Nat → Int32)  : Met l y_P_wordAtZero w_P_wordAtZero ({ frames := 0, cells := 0, slots := 0, locals := 0 }) (PcX (dC, dI) classes z0 [c_P q0 q1 r, c_B q1 q2 q3 k, c_A q2 cM 1024 M, c_A q3 cD 256 D] [(cM, .int), (cD, .int)] sz [.ref q0, .int p1]) (Q_P_wordAtZero dC dI q0 q1 q2 q3 cM cD p1 r k M D (va_A [c_P q0 q1 r, c_B q1 q2 q3 k, c_A q2 cM 1024 M, c_A q3 cD 256 D] sz)) 0 0 (va_A [c_P q0 q1 r, c_B q1 q2 q3 k, c_A q2 cM 1024 M, c_A q3 cD 256 D] sz) := by
  refine hdX (cc := b_P_wordAtZero) (maxL := 2) (ret := (some .int)) (C := R_P) (Qc := (Q_P_wordAtZero dC dI q0 q1 q2 q3 cM cD p1 r k M D)) (by decide) rfl ?_
  intro p e s m below meth c A H hx hb hr hlocks hml hown hin htB hP hK hD hA hA0 hE hS
  have hl := lv_entry ([.ref q0, .int p1]) (n := 2) (Nat.le_of_ble_eq_true rfl)
  rw [lg_entry_eq]
  generalize (lg_sl ([.ref q0, .int p1]) ++ List.replicate (2 - (lg_sl ([.ref q0, .int p1])).length) Slot.unset).toArray = ls at hl ⊢
  have hl : lv_has ls 2 [(0, .ref q0), (1, .int p1)] := hl
  refine lv_aload_n hx hb d_P_wordAtZero_0 rfl (lv_at hl 0 rfl) ?_
  refine va_get (D := (dC, dI)) (ci := 1) (v := .ref q1) (C := R_P) (T := F_P) (N := 13) hx hb htB i_P hown hK hP 0 rfl rfl 0 (by decide) (htB _ mw_57) (fun _ h9 => h9) rfl d_P_wordAtZero_1 ?_
  refine va_getN (D := (dC, dI)) (ci := 2) (v := .ref q2) (C := R_B) (T := F_B) (N := 5) hx hb htB i_B hown hK hP 1 rfl rfl 0 (by decide) (va_Nw.use rfl (hE.2.1 _ ew_36)) (fun _ h9 => h9) rfl d_P_wordAtZero_4 ?_
  refine lv_iload_n hx hb d_P_wordAtZero_7 rfl (lv_at hl 1 rfl) ?_
  refine lv_sipush (v := 255) hx hb d_P_wordAtZero_8 (by decide) ?_
  refine lv_iand hx hb d_P_wordAtZero_11 ?_
  refine va_iald hx hb hK hP 2 0 rfl rfl (in_and255 _) d_P_wordAtZero_12 ?_
  refine lv_sipush (v := 256) hx hb d_P_wordAtZero_13 (by decide) ?_
  refine lv_aload_n hx hb d_P_wordAtZero_16 rfl (lv_at hl 0 rfl) ?_
  refine va_get (D := (dC, dI)) (ci := 1) (v := .ref q1) (C := R_P) (T := F_P) (N := 13) hx hb htB i_P hown hK hP 0 rfl rfl 0 (by decide) (htB _ mw_57) (fun _ h9 => h9) rfl d_P_wordAtZero_17 ?_
  refine va_getN (D := (dC, dI)) (ci := 2) (v := .ref q2) (C := R_B) (T := F_B) (N := 5) hx hb htB i_B hown hK hP 1 rfl rfl 0 (by decide) (va_Nw.use rfl (hE.2.1 _ ew_36)) (fun _ h9 => h9) rfl d_P_wordAtZero_20 ?_
  refine lv_iload_n hx hb d_P_wordAtZero_23 rfl (lv_at hl 1 rfl) ?_
  refine lv_iconst (v := 1) hx hb d_P_wordAtZero_24 (by decide) ?_
  refine lv_iadd hx hb d_P_wordAtZero_25 ?_
  refine lv_sipush (v := 255) hx hb d_P_wordAtZero_26 (by decide) ?_
  refine lv_iand hx hb d_P_wordAtZero_29 ?_
  refine va_iald hx hb hK hP 2 0 rfl rfl (in_and255 _) d_P_wordAtZero_30 ?_
  refine lv_imul hx hb d_P_wordAtZero_31 ?_
  refine lv_iadd hx hb d_P_wordAtZero_32 ?_
  have hf : f_P_wordAtZero p1 r k M D = ((M ((p1 &&& (255 : Int32)).toNatClampNeg)) + ((256 : Int32) * (M (((p1 + (1 : Int32)) &&& (255 : Int32)).toNatClampNeg)))) := by rw [f_P_wordAtZero]
  exact W.iret (v := ((M ((p1 &&& (255 : Int32)).toNatClampNeg)) + ((256 : Int32) * (M (((p1 + (1 : Int32)) &&& (255 : Int32)).toNatClampNeg))))) hx hb hr (fun t ht hW => ⟨⟨((M ((p1 &&& (255 : Int32)).toNatClampNeg)) + ((256 : Int32) * (M (((p1 + (1 : Int32)) &&& (255 : Int32)).toNatClampNeg)))), (), rfl, hf.symm, by exact ⟨by rw [ht]; exact hP, va_K.moved hW.alike hK, hD⟩⟩, hS.F ht⟩) hS.2.2 d_P_wordAtZero_33

def f_P_place (p1 : Int32) (p2 : Int32) (r k M D : Nat → Int32) : Int32 :=
  if p1 = (0 : Int32) then
    (f_P_wordAtZero (((r 9) + (r 1)) &&& (255 : Int32)) r k M D)
  else
    if p1 = (1 : Int32) then
      p2
    else
      if p1 = (2 : Int32) then
        p2
      else
        if p1 = (3 : Int32) then
          p2
        else
          if p1 = (4 : Int32) then
            ((f_P_wordAtZero (r 9) r k M D) + (r 2))
          else
            if p1 = (5 : Int32) then
              (((r 9) + (r 1)) &&& (255 : Int32))
            else
              if p1 = (6 : Int32) then
                (p2 + (r 2))
              else
                if p1 = (7 : Int32) then
                  (p2 + (r 1))
                else
                  if p1 = (8 : Int32) then
                    (((r 9) + (r 2)) &&& (255 : Int32))
                  else
                    p2
abbrev Q_P_place (dC : Nat → ClassId) (dI : Nat → Nat → Nat) (q0 : Nat) (q1 : Nat) (q2 : Nat) (q3 : Nat) (cM : ClassId) (cD : ClassId) (p1 : Int32) (p2 : Int32) (r k M D : Nat → Int32) (A : Nat → Prop) : Array Value → State → Outcome → State → Prop := va_Qi (fun (r9 : Int32) (_ : Unit) => r9 = (f_P_place p1 p2 r k M D)) (fun _ t => atW (dC, dI) classes A [c_P q0 q1 r, c_B q1 q2 q3 k, c_A q2 cM 1024 M, c_A q3 cD 256 D] [(cM, .int), (cD, .int)] t) A
set_option maxHeartbeats 4000000 in
set_option maxRecDepth 100000 in
theorem c_P_place (l : Launch) (dC : Nat → ClassId) (dI : Nat → Nat → Nat) (z0 : Nat) (q0 : Nat) (q1 : Nat) (q2 : Nat) (q3 : Nat) (cM : ClassId) (cD : ClassId) (sz : Nat) (p1 : Int32) (p2 : Int32) (r k M D : Nat → Int32)  : Met l y_P_place w_P_place ({ frames := 1, cells := 0, slots := 0, locals := 21 }) (PcX (dC, dI) classes z0 [c_P q0 q1 r, c_B q1 q2 q3 k, c_A q2 cM 1024 M, c_A q3 cD 256 D] [(cM, .int), (cD, .int)] sz [.ref q0, .int p1, .int p2]) (Q_P_place dC dI q0 q1 q2 q3 cM cD p1 p2 r k M D (va_A [c_P q0 q1 r, c_B q1 q2 q3 k, c_A q2 cM 1024 M, c_A q3 cD 256 D] sz)) 0 0 (va_A [c_P q0 q1 r, c_B q1 q2 q3 k, c_A q2 cM 1024 M, c_A q3 cD 256 D] sz) := by
  refine hdX (cc := b_P_place) (maxL := 3) (ret := (some .int)) (C := R_P) (Qc := (Q_P_place dC dI q0 q1 q2 q3 cM cD p1 p2 r k M D)) (by decide) rfl ?_
  intro p e s m below meth c A H hx hb hr hlocks hml hown hin htB hP hK hD hA hA0 hE hS
  have hl := lv_entry ([.ref q0, .int p1, .int p2]) (n := 3) (Nat.le_of_ble_eq_true rfl)
  rw [lg_entry_eq]
  generalize (lg_sl ([.ref q0, .int p1, .int p2]) ++ List.replicate (3 - (lg_sl ([.ref q0, .int p1, .int p2])).length) Slot.unset).toArray = ls at hl ⊢
  have hl : lv_has ls 3 [(0, .ref q0), (1, .int p1), (2, .int p2)] := hl
  refine lv_iload_n hx hb d_P_place_0 rfl (lv_at hl 1 rfl) ?_
  by_cases c_1 : p1 = (0 : Int32)
  · refine lv_tableIn (tgt := 52) hx hb d_P_place_1 (by rw [c_1]; decide) (by rw [c_1]; decide) (by rw [c_1]; rfl) (by decide) ?_
    refine lv_aload_n hx hb d_P_place_52 rfl (lv_at hl 0 rfl) ?_
    refine lv_aload_n hx hb d_P_place_53 rfl (lv_at hl 0 rfl) ?_
    refine va_get (D := (dC, dI)) (ci := 1) (v := .int (r 9)) (C := R_P) (T := F_P) (N := 13) hx hb htB i_P hown hK hP 0 rfl rfl 10 (by decide) (htB _ mw_69) (fun _ h9 => h9) rfl d_P_place_54 ?_
    refine lv_aload_n hx hb d_P_place_57 rfl (lv_at hl 0 rfl) ?_
    refine va_get (D := (dC, dI)) (ci := 1) (v := .int (r 1)) (C := R_P) (T := F_P) (N := 13) hx hb htB i_P hown hK hP 0 rfl rfl 2 (by decide) (htB _ mw_60) (fun _ h9 => h9) rfl d_P_place_58 ?_
    refine lv_iadd hx hb d_P_place_61 ?_
    refine lv_sipush (v := 255) hx hb d_P_place_62 (by decide) ?_
    refine lv_iand hx hb d_P_place_65 ?_
    have hPc := hP.sub (ws' := [c_P q0 q1 r, c_B q1 q2 q3 k, c_A q2 cM 1024 M, c_A q3 cD 256 D]) [0, 1, 2, 3] rfl
    have hDc := hD.sub (ws' := [c_P q0 q1 r, c_B q1 q2 q3 k, c_A q2 cM 1024 M, c_A q3 cD 256 D]) [0, 1, 2, 3] (by decide) rfl
    have hKc := hK.sub (tys' := [(cM, .int), (cD, .int)]) [0, 1] rfl
    have hFc := va_free (wc := [c_P q0 q1 r, c_B q1 q2 q3 k, c_A q2 cM 1024 M, c_A q3 cD 256 D]) hD hS hA [0, 1, 2, 3] rfl
    refine va_calli (va_runV (As := [.int (((r 9) + (r 1)) &&& (255 : Int32))]) (rest := []) ⟨hx, hb, hml, hown, htB⟩ (c_P_wordAtZero l dC dI z0 q0 q1 q2 q3 cM cD H.size (((r 9) + (r 1)) &&& (255 : Int32)) r k M D) (cwV 1 htB (gd_V mw_296 mw_298 sw_P_wordAtZero mw_2 mw_299) rfl rfl rfl (by decide +kernel) ⟨Nat.le_of_ble_eq_true rfl, Nat.le_of_ble_eq_true rfl⟩) (pcx_V (va_recv hKc hPc (ci := 1) (q0 := 0) rfl rfl) hPc hKc hDc hA0 hE hS) rfl rfl hl.1 rfl (lv_room (Nat.le_of_ble_eq_true rfl)) d_P_place_66 ⟨Nat.zero_le _, Nat.zero_le _⟩) hS (fun q _ h => hFc q h) hFc (fun r9 u t H1 locs ht hvm hw hB hz1 hk1 hS => ?_)
    subst hw
    obtain ⟨hP1, hK1, hD1⟩ := hB
    rw [ht] at hP1
    obtain ⟨hP, hD⟩ := va_join (wr := []) (w1 := [c_P q0 q1 r, c_B q1 q2 q3 k, c_A q2 cM 1024 M, c_A q3 cD 256 D]) hP hD [0, 1, 2, 3] [] rfl rfl (by decide) (by decide) hk1 hFc hP1 hD1
    generalize H1 = H at hP hS ⊢
    have hP : va_P (dC, dI) classes [c_P q0 q1 r, c_B q1 q2 q3 k, c_A q2 cM 1024 M, c_A q3 cD 256 D] H := hP.sub [0, 1, 2, 3] rfl
    have hD : va_D A [c_P q0 q1 r, c_B q1 q2 q3 k, c_A q2 cM 1024 M, c_A q3 cD 256 D] := hD.sub [0, 1, 2, 3] (by decide) rfl
    have hf : f_P_place p1 p2 r k M D = (f_P_wordAtZero (((r 9) + (r 1)) &&& (255 : Int32)) r k M D) := by rw [f_P_place, if_pos c_1]
    exact W.iret (v := (f_P_wordAtZero (((r 9) + (r 1)) &&& (255 : Int32)) r k M D)) hx hb hr (fun t ht hW => ⟨⟨(f_P_wordAtZero (((r 9) + (r 1)) &&& (255 : Int32)) r k M D), (), rfl, hf.symm, by exact ⟨by rw [ht]; exact hP, va_K.moved hW.alike hK, hD⟩⟩, hS.F ht⟩) hS.2.2 d_P_place_69
  · by_cases c_2 : p1 = (1 : Int32)
    · refine lv_tableIn (tgt := 126) hx hb d_P_place_1 (by rw [c_2]; decide) (by rw [c_2]; decide) (by rw [c_2]; rfl) (by decide) ?_
      refine lv_iload_n hx hb d_P_place_126 rfl (lv_at hl 2 rfl) ?_
      have hf : f_P_place p1 p2 r k M D = p2 := by rw [f_P_place, if_neg c_1, if_pos c_2]
      exact W.iret (v := p2) hx hb hr (fun t ht hW => ⟨⟨p2, (), rfl, hf.symm, by exact ⟨by rw [ht]; exact hP, va_K.moved hW.alike hK, hD⟩⟩, hS.F ht⟩) hS.2.2 d_P_place_127
    · by_cases c_3 : p1 = (2 : Int32)
      · refine lv_tableIn (tgt := 126) hx hb d_P_place_1 (by rw [c_3]; decide) (by rw [c_3]; decide) (by rw [c_3]; rfl) (by decide) ?_
        refine lv_iload_n hx hb d_P_place_126 rfl (lv_at hl 2 rfl) ?_
        have hf : f_P_place p1 p2 r k M D = p2 := by rw [f_P_place, if_neg c_1, if_neg c_2, if_pos c_3]
        exact W.iret (v := p2) hx hb hr (fun t ht hW => ⟨⟨p2, (), rfl, hf.symm, by exact ⟨by rw [ht]; exact hP, va_K.moved hW.alike hK, hD⟩⟩, hS.F ht⟩) hS.2.2 d_P_place_127
      · by_cases c_4 : p1 = (3 : Int32)
        · refine lv_tableIn (tgt := 126) hx hb d_P_place_1 (by rw [c_4]; decide) (by rw [c_4]; decide) (by rw [c_4]; rfl) (by decide) ?_
          refine lv_iload_n hx hb d_P_place_126 rfl (lv_at hl 2 rfl) ?_
          have hf : f_P_place p1 p2 r k M D = p2 := by rw [f_P_place, if_neg c_1, if_neg c_2, if_neg c_3, if_pos c_4]
          exact W.iret (v := p2) hx hb hr (fun t ht hW => ⟨⟨p2, (), rfl, hf.symm, by exact ⟨by rw [ht]; exact hP, va_K.moved hW.alike hK, hD⟩⟩, hS.F ht⟩) hS.2.2 d_P_place_127
        · by_cases c_5 : p1 = (4 : Int32)
          · refine lv_tableIn (tgt := 70) hx hb d_P_place_1 (by rw [c_5]; decide) (by rw [c_5]; decide) (by rw [c_5]; rfl) (by decide) ?_
            refine lv_aload_n hx hb d_P_place_70 rfl (lv_at hl 0 rfl) ?_
            refine lv_aload_n hx hb d_P_place_71 rfl (lv_at hl 0 rfl) ?_
            refine va_get (D := (dC, dI)) (ci := 1) (v := .int (r 9)) (C := R_P) (T := F_P) (N := 13) hx hb htB i_P hown hK hP 0 rfl rfl 10 (by decide) (htB _ mw_69) (fun _ h9 => h9) rfl d_P_place_72 ?_
            have hPc := hP.sub (ws' := [c_P q0 q1 r, c_B q1 q2 q3 k, c_A q2 cM 1024 M, c_A q3 cD 256 D]) [0, 1, 2, 3] rfl
            have hDc := hD.sub (ws' := [c_P q0 q1 r, c_B q1 q2 q3 k, c_A q2 cM 1024 M, c_A q3 cD 256 D]) [0, 1, 2, 3] (by decide) rfl
            have hKc := hK.sub (tys' := [(cM, .int), (cD, .int)]) [0, 1] rfl
            have hFc := va_free (wc := [c_P q0 q1 r, c_B q1 q2 q3 k, c_A q2 cM 1024 M, c_A q3 cD 256 D]) hD hS hA [0, 1, 2, 3] rfl
            refine va_calli (va_runV (As := [.int (r 9)]) (rest := []) ⟨hx, hb, hml, hown, htB⟩ (c_P_wordAtZero l dC dI z0 q0 q1 q2 q3 cM cD H.size (r 9) r k M D) (cwV 1 htB (gd_V mw_296 mw_298 sw_P_wordAtZero mw_2 mw_299) rfl rfl rfl (by decide +kernel) ⟨Nat.le_of_ble_eq_true rfl, Nat.le_of_ble_eq_true rfl⟩) (pcx_V (va_recv hKc hPc (ci := 1) (q0 := 0) rfl rfl) hPc hKc hDc hA0 hE hS) rfl rfl hl.1 rfl (lv_room (Nat.le_of_ble_eq_true rfl)) d_P_place_75 ⟨Nat.zero_le _, Nat.zero_le _⟩) hS (fun q _ h => hFc q h) hFc (fun r9 u t H1 locs ht hvm hw hB hz1 hk1 hS => ?_)
            subst hw
            obtain ⟨hP1, hK1, hD1⟩ := hB
            rw [ht] at hP1
            obtain ⟨hP, hD⟩ := va_join (wr := []) (w1 := [c_P q0 q1 r, c_B q1 q2 q3 k, c_A q2 cM 1024 M, c_A q3 cD 256 D]) hP hD [0, 1, 2, 3] [] rfl rfl (by decide) (by decide) hk1 hFc hP1 hD1
            generalize H1 = H at hP hS ⊢
            have hP : va_P (dC, dI) classes [c_P q0 q1 r, c_B q1 q2 q3 k, c_A q2 cM 1024 M, c_A q3 cD 256 D] H := hP.sub [0, 1, 2, 3] rfl
            have hD : va_D A [c_P q0 q1 r, c_B q1 q2 q3 k, c_A q2 cM 1024 M, c_A q3 cD 256 D] := hD.sub [0, 1, 2, 3] (by decide) rfl
            refine lv_aload_n hx hb d_P_place_78 rfl (lv_at hl 0 rfl) ?_
            refine va_get (D := (dC, dI)) (ci := 1) (v := .int (r 2)) (C := R_P) (T := F_P) (N := 13) hx hb htB i_P hown hK hP 0 rfl rfl 3 (by decide) (htB _ mw_61) (fun _ h9 => h9) rfl d_P_place_79 ?_
            refine lv_iadd hx hb d_P_place_82 ?_
            have hf : f_P_place p1 p2 r k M D = ((f_P_wordAtZero (r 9) r k M D) + (r 2)) := by rw [f_P_place, if_neg c_1, if_neg c_2, if_neg c_3, if_neg c_4, if_pos c_5]
            exact W.iret (v := ((f_P_wordAtZero (r 9) r k M D) + (r 2))) hx hb hr (fun t ht hW => ⟨⟨((f_P_wordAtZero (r 9) r k M D) + (r 2)), (), rfl, hf.symm, by exact ⟨by rw [ht]; exact hP, va_K.moved hW.alike hK, hD⟩⟩, hS.F ht⟩) hS.2.2 d_P_place_83
          · by_cases c_6 : p1 = (5 : Int32)
            · refine lv_tableIn (tgt := 84) hx hb d_P_place_1 (by rw [c_6]; decide) (by rw [c_6]; decide) (by rw [c_6]; rfl) (by decide) ?_
              refine lv_aload_n hx hb d_P_place_84 rfl (lv_at hl 0 rfl) ?_
              refine va_get (D := (dC, dI)) (ci := 1) (v := .int (r 9)) (C := R_P) (T := F_P) (N := 13) hx hb htB i_P hown hK hP 0 rfl rfl 10 (by decide) (htB _ mw_69) (fun _ h9 => h9) rfl d_P_place_85 ?_
              refine lv_aload_n hx hb d_P_place_88 rfl (lv_at hl 0 rfl) ?_
              refine va_get (D := (dC, dI)) (ci := 1) (v := .int (r 1)) (C := R_P) (T := F_P) (N := 13) hx hb htB i_P hown hK hP 0 rfl rfl 2 (by decide) (htB _ mw_60) (fun _ h9 => h9) rfl d_P_place_89 ?_
              refine lv_iadd hx hb d_P_place_92 ?_
              refine lv_sipush (v := 255) hx hb d_P_place_93 (by decide) ?_
              refine lv_iand hx hb d_P_place_96 ?_
              have hf : f_P_place p1 p2 r k M D = (((r 9) + (r 1)) &&& (255 : Int32)) := by rw [f_P_place, if_neg c_1, if_neg c_2, if_neg c_3, if_neg c_4, if_neg c_5, if_pos c_6]
              exact W.iret (v := (((r 9) + (r 1)) &&& (255 : Int32))) hx hb hr (fun t ht hW => ⟨⟨(((r 9) + (r 1)) &&& (255 : Int32)), (), rfl, hf.symm, by exact ⟨by rw [ht]; exact hP, va_K.moved hW.alike hK, hD⟩⟩, hS.F ht⟩) hS.2.2 d_P_place_97
            · by_cases c_7 : p1 = (6 : Int32)
              · refine lv_tableIn (tgt := 119) hx hb d_P_place_1 (by rw [c_7]; decide) (by rw [c_7]; decide) (by rw [c_7]; rfl) (by decide) ?_
                refine lv_iload_n hx hb d_P_place_119 rfl (lv_at hl 2 rfl) ?_
                refine lv_aload_n hx hb d_P_place_120 rfl (lv_at hl 0 rfl) ?_
                refine va_get (D := (dC, dI)) (ci := 1) (v := .int (r 2)) (C := R_P) (T := F_P) (N := 13) hx hb htB i_P hown hK hP 0 rfl rfl 3 (by decide) (htB _ mw_61) (fun _ h9 => h9) rfl d_P_place_121 ?_
                refine lv_iadd hx hb d_P_place_124 ?_
                have hf : f_P_place p1 p2 r k M D = (p2 + (r 2)) := by rw [f_P_place, if_neg c_1, if_neg c_2, if_neg c_3, if_neg c_4, if_neg c_5, if_neg c_6, if_pos c_7]
                exact W.iret (v := (p2 + (r 2))) hx hb hr (fun t ht hW => ⟨⟨(p2 + (r 2)), (), rfl, hf.symm, by exact ⟨by rw [ht]; exact hP, va_K.moved hW.alike hK, hD⟩⟩, hS.F ht⟩) hS.2.2 d_P_place_125
              · by_cases c_8 : p1 = (7 : Int32)
                · refine lv_tableIn (tgt := 112) hx hb d_P_place_1 (by rw [c_8]; decide) (by rw [c_8]; decide) (by rw [c_8]; rfl) (by decide) ?_
                  refine lv_iload_n hx hb d_P_place_112 rfl (lv_at hl 2 rfl) ?_
                  refine lv_aload_n hx hb d_P_place_113 rfl (lv_at hl 0 rfl) ?_
                  refine va_get (D := (dC, dI)) (ci := 1) (v := .int (r 1)) (C := R_P) (T := F_P) (N := 13) hx hb htB i_P hown hK hP 0 rfl rfl 2 (by decide) (htB _ mw_60) (fun _ h9 => h9) rfl d_P_place_114 ?_
                  refine lv_iadd hx hb d_P_place_117 ?_
                  have hf : f_P_place p1 p2 r k M D = (p2 + (r 1)) := by rw [f_P_place, if_neg c_1, if_neg c_2, if_neg c_3, if_neg c_4, if_neg c_5, if_neg c_6, if_neg c_7, if_pos c_8]
                  exact W.iret (v := (p2 + (r 1))) hx hb hr (fun t ht hW => ⟨⟨(p2 + (r 1)), (), rfl, hf.symm, by exact ⟨by rw [ht]; exact hP, va_K.moved hW.alike hK, hD⟩⟩, hS.F ht⟩) hS.2.2 d_P_place_118
                · by_cases c_9 : p1 = (8 : Int32)
                  · refine lv_tableIn (tgt := 98) hx hb d_P_place_1 (by rw [c_9]; decide) (by rw [c_9]; decide) (by rw [c_9]; rfl) (by decide) ?_
                    refine lv_aload_n hx hb d_P_place_98 rfl (lv_at hl 0 rfl) ?_
                    refine va_get (D := (dC, dI)) (ci := 1) (v := .int (r 9)) (C := R_P) (T := F_P) (N := 13) hx hb htB i_P hown hK hP 0 rfl rfl 10 (by decide) (htB _ mw_69) (fun _ h9 => h9) rfl d_P_place_99 ?_
                    refine lv_aload_n hx hb d_P_place_102 rfl (lv_at hl 0 rfl) ?_
                    refine va_get (D := (dC, dI)) (ci := 1) (v := .int (r 2)) (C := R_P) (T := F_P) (N := 13) hx hb htB i_P hown hK hP 0 rfl rfl 3 (by decide) (htB _ mw_61) (fun _ h9 => h9) rfl d_P_place_103 ?_
                    refine lv_iadd hx hb d_P_place_106 ?_
                    refine lv_sipush (v := 255) hx hb d_P_place_107 (by decide) ?_
                    refine lv_iand hx hb d_P_place_110 ?_
                    have hf : f_P_place p1 p2 r k M D = (((r 9) + (r 2)) &&& (255 : Int32)) := by rw [f_P_place, if_neg c_1, if_neg c_2, if_neg c_3, if_neg c_4, if_neg c_5, if_neg c_6, if_neg c_7, if_neg c_8, if_pos c_9]
                    exact W.iret (v := (((r 9) + (r 2)) &&& (255 : Int32))) hx hb hr (fun t ht hW => ⟨⟨(((r 9) + (r 2)) &&& (255 : Int32)), (), rfl, hf.symm, by exact ⟨by rw [ht]; exact hP, va_K.moved hW.alike hK, hD⟩⟩, hS.F ht⟩) hS.2.2 d_P_place_111
                  · refine lv_tableOut (tgt := 126) hx hb d_P_place_1 (by have g_0 := lv_neT c_1 (show (0 : Int32).toInt = 0 from by decide); have g_1 := lv_neT c_2 (show (1 : Int32).toInt = 1 from by decide); have g_2 := lv_neT c_3 (show (2 : Int32).toInt = 2 from by decide); have g_3 := lv_neT c_4 (show (3 : Int32).toInt = 3 from by decide); have g_4 := lv_neT c_5 (show (4 : Int32).toInt = 4 from by decide); have g_5 := lv_neT c_6 (show (5 : Int32).toInt = 5 from by decide); have g_6 := lv_neT c_7 (show (6 : Int32).toInt = 6 from by decide); have g_7 := lv_neT c_8 (show (7 : Int32).toInt = 7 from by decide); have g_8 := lv_neT c_9 (show (8 : Int32).toInt = 8 from by decide); omega) (by decide) ?_
                    refine lv_iload_n hx hb d_P_place_126 rfl (lv_at hl 2 rfl) ?_
                    have hf : f_P_place p1 p2 r k M D = p2 := by rw [f_P_place, if_neg c_1, if_neg c_2, if_neg c_3, if_neg c_4, if_neg c_5, if_neg c_6, if_neg c_7, if_neg c_8, if_neg c_9]
                    exact W.iret (v := p2) hx hb hr (fun t ht hW => ⟨⟨p2, (), rfl, hf.symm, by exact ⟨by rw [ht]; exact hP, va_K.moved hW.alike hK, hD⟩⟩, hS.F ht⟩) hS.2.2 d_P_place_127

def f_P_fetch (p1 : Int32) (r k M D : Nat → Int32) : (Nat → Int32) × (Nat → Int32) :=
  if (f_P_bytesBehind p1) < (1 : Int32) then
    if (f_P_bytesBehind p1) < (2 : Int32) then
      ((upd (upd (upd r 9 (0 : Int32)) 10 (f_P_address (f_P_place p1 (0 : Int32) (upd r 9 (0 : Int32)) k M D))) 11 (f_P_address (((r 4) + (1 : Int32)) + (f_P_bytesBehind p1)))), k)
    else
      ((upd (upd (upd r 9 (0 : Int32)) 10 (f_P_address (f_P_place p1 ((0 : Int32) + ((256 : Int32) * ((f_B_readByte ((r 4) + (2 : Int32)) k M D).1))) (upd r 9 (0 : Int32)) ((f_B_readByte ((r 4) + (2 : Int32)) k M D).2) M D))) 11 (f_P_address (((r 4) + (1 : Int32)) + (f_P_bytesBehind p1)))), (f_B_readByte ((r 4) + (2 : Int32)) k M D).2)
  else
    if (f_P_bytesBehind p1) < (2 : Int32) then
      ((upd (upd (upd r 9 ((f_B_readByte ((r 4) + (1 : Int32)) k M D).1)) 10 (f_P_address (f_P_place p1 ((f_B_readByte ((r 4) + (1 : Int32)) k M D).1) (upd r 9 ((f_B_readByte ((r 4) + (1 : Int32)) k M D).1)) ((f_B_readByte ((r 4) + (1 : Int32)) k M D).2) M D))) 11 (f_P_address (((r 4) + (1 : Int32)) + (f_P_bytesBehind p1)))), (f_B_readByte ((r 4) + (1 : Int32)) k M D).2)
    else
      ((upd (upd (upd r 9 ((f_B_readByte ((r 4) + (1 : Int32)) k M D).1)) 10 (f_P_address (f_P_place p1 (((f_B_readByte ((r 4) + (1 : Int32)) k M D).1) + ((256 : Int32) * ((f_B_readByte ((r 4) + (2 : Int32)) ((f_B_readByte ((r 4) + (1 : Int32)) k M D).2) M D).1))) (upd r 9 ((f_B_readByte ((r 4) + (1 : Int32)) k M D).1)) ((f_B_readByte ((r 4) + (2 : Int32)) ((f_B_readByte ((r 4) + (1 : Int32)) k M D).2) M D).2) M D))) 11 (f_P_address (((r 4) + (1 : Int32)) + (f_P_bytesBehind p1)))), (f_B_readByte ((r 4) + (2 : Int32)) ((f_B_readByte ((r 4) + (1 : Int32)) k M D).2) M D).2)
abbrev Q_P_fetch (dC : Nat → ClassId) (dI : Nat → Nat → Nat) (q0 : Nat) (q1 : Nat) (q2 : Nat) (q3 : Nat) (cM : ClassId) (cD : ClassId) (p1 : Int32) (r k M D : Nat → Int32) (A : Nat → Prop) : Array Value → State → Outcome → State → Prop := va_Qv (fun (_ : Unit) => True) (fun _ t => atW (dC, dI) classes A [c_P q0 q1 ((f_P_fetch p1 r k M D).1), c_B q1 q2 q3 ((f_P_fetch p1 r k M D).2), c_A q2 cM 1024 M, c_A q3 cD 256 D] [(cM, .int), (cD, .int)] t) A
set_option maxHeartbeats 4000000 in
set_option maxRecDepth 100000 in
theorem c_P_fetch (l : Launch) (dC : Nat → ClassId) (dI : Nat → Nat → Nat) (z0 : Nat) (q0 : Nat) (q1 : Nat) (q2 : Nat) (q3 : Nat) (cM : ClassId) (cD : ClassId) (sz : Nat) (p1 : Int32) (r k M D : Nat → Int32)  : Met l y_P_fetch w_P_fetch ({ frames := 2, cells := 0, slots := 0, locals := 43 }) (PcX (dC, dI) classes z0 [c_P q0 q1 r, c_B q1 q2 q3 k, c_A q2 cM 1024 M, c_A q3 cD 256 D] [(cM, .int), (cD, .int)] sz [.ref q0, .int p1]) (Q_P_fetch dC dI q0 q1 q2 q3 cM cD p1 r k M D (va_A [c_P q0 q1 r, c_B q1 q2 q3 k, c_A q2 cM 1024 M, c_A q3 cD 256 D] sz)) 0 0 (va_A [c_P q0 q1 r, c_B q1 q2 q3 k, c_A q2 cM 1024 M, c_A q3 cD 256 D] sz) := by
  refine hdX (cc := b_P_fetch) (maxL := 4) (ret := none) (C := R_P) (Qc := (Q_P_fetch dC dI q0 q1 q2 q3 cM cD p1 r k M D)) (by decide) rfl ?_
  intro p e s m below meth c A H hx hb hr hlocks hml hown hin htB hP hK hD hA hA0 hE hS
  have hl := lv_entry ([.ref q0, .int p1]) (n := 4) (Nat.le_of_ble_eq_true rfl)
  rw [lg_entry_eq]
  generalize (lg_sl ([.ref q0, .int p1]) ++ List.replicate (4 - (lg_sl ([.ref q0, .int p1])).length) Slot.unset).toArray = ls at hl ⊢
  have hl : lv_has ls 4 [(0, .ref q0), (1, .int p1)] := hl
  refine lv_iload_n hx hb d_P_fetch_0 rfl (lv_at hl 1 rfl) ?_
  have hPc := hP.sub (ws' := []) [] rfl
  have hDc := hD.sub (ws' := []) [] (by decide) rfl
  have hKc := hK.sub (tys' := []) [] rfl
  have hFc := va_free (wc := []) hD hS hA [] rfl
  refine va_calli (va_runS (As := [.int p1]) (rest := []) ⟨hx, hb, hml, hown, htB⟩ (c_P_bytesBehind l dC dI z0  H.size p1) (cwS 1 htB (gd_S mw_289 mw_290 mw_2 mw_291) rfl rfl rfl (by decide +kernel) ⟨Nat.le_of_ble_eq_true rfl, Nat.le_of_ble_eq_true rfl⟩) (pcx_S hPc hKc hDc hA0 hE hS) rfl rfl hl.1 rfl (lv_room (Nat.le_of_ble_eq_true rfl)) d_P_fetch_1 ⟨Nat.zero_le _, Nat.zero_le _⟩) hS (fun q _ h => hFc q h) hFc (fun r9 u t H1 locs ht hvm hw hB hz1 hk1 hS => ?_)
  subst hw
  obtain ⟨hP1, hK1, hD1⟩ := hB
  rw [ht] at hP1
  obtain ⟨hP, hD⟩ := va_join (wr := [c_P q0 q1 r, c_B q1 q2 q3 k, c_A q2 cM 1024 M, c_A q3 cD 256 D]) (w1 := []) hP hD [] [0, 1, 2, 3] rfl rfl (by decide) (by decide) hk1 hFc hP1 hD1
  generalize H1 = H at hP hS ⊢
  have hP : va_P (dC, dI) classes [c_P q0 q1 r, c_B q1 q2 q3 k, c_A q2 cM 1024 M, c_A q3 cD 256 D] H := hP.sub [0, 1, 2, 3] rfl
  have hD : va_D A [c_P q0 q1 r, c_B q1 q2 q3 k, c_A q2 cM 1024 M, c_A q3 cD 256 D] := hD.sub [0, 1, 2, 3] (by decide) rfl
  refine lv_istore_n (lv' := [(2, .int (f_P_bytesBehind p1)), (0, .ref q0), (1, .int p1)]) hx hb d_P_fetch_4 rfl hl (by decide) rfl (fun ls hl => ?_)
  refine lv_aload_n hx hb d_P_fetch_5 rfl (lv_at hl 1 rfl) ?_
  refine lv_iload_n hx hb d_P_fetch_6 rfl (lv_at hl 0 rfl) ?_
  refine lv_iconst (v := 1) hx hb d_P_fetch_7 (by decide) ?_
  refine lv_icmp_lt (tgt := 27) hx hb d_P_fetch_8 (by decide) (fun c_1 => ?_) (fun c_1 => ?_)
  · refine lv_iconst (v := 0) hx hb d_P_fetch_27 (by decide) ?_
    refine va_put (D := (dC, dI)) (ci := 1) (v := .int (0 : Int32)) (ty := .int) (C := R_P) (T := F_P) (N := 13) hx hb htB i_P t_P t_P_ok n_P hown hK hP hD hS 0 rfl rfl 10 (by decide) (htB _ mw_69) (fun _ h9 => h9) rfl (by decide +kernel) rfl rfl (Nat.le_of_ble_eq_true rfl) d_P_fetch_28 (fun H locs hP hD hS => ?_)
    have hP : va_P (dC, dI) classes [c_P q0 q1 (upd r 9 (0 : Int32)), c_B q1 q2 q3 k, c_A q2 cM 1024 M, c_A q3 cD 256 D] H := hP
    have hD : va_D A [c_P q0 q1 (upd r 9 (0 : Int32)), c_B q1 q2 q3 k, c_A q2 cM 1024 M, c_A q3 cD 256 D] := hD
    refine lv_iload_n hx hb d_P_fetch_31 rfl (lv_at hl 0 rfl) ?_
    refine lv_iconst (v := 2) hx hb d_P_fetch_32 (by decide) ?_
    refine lv_icmp_lt (tgt := 61) hx hb d_P_fetch_33 (by decide) (fun c_2 => ?_) (fun c_2 => ?_)
    · refine lv_aload_n hx hb d_P_fetch_61 rfl (lv_at hl 1 rfl) ?_
      refine va_get (D := (dC, dI)) (ci := 1) (v := .int (0 : Int32)) (C := R_P) (T := F_P) (N := 13) hx hb htB i_P hown hK hP 0 rfl rfl 10 (by decide) (htB _ mw_69) (fun _ h9 => h9) rfl d_P_fetch_62 ?_
      refine lv_istore_n (lv' := [(3, .int (0 : Int32)), (2, .int (f_P_bytesBehind p1)), (0, .ref q0), (1, .int p1)]) hx hb d_P_fetch_65 rfl hl (by decide) rfl (fun ls hl => ?_)
      refine lv_aload_n hx hb d_P_fetch_66 rfl (lv_at hl 2 rfl) ?_
      refine lv_aload_n hx hb d_P_fetch_67 rfl (lv_at hl 2 rfl) ?_
      refine lv_iload_n hx hb d_P_fetch_68 rfl (lv_at hl 3 rfl) ?_
      refine lv_iload_n hx hb d_P_fetch_69 rfl (lv_at hl 0 rfl) ?_
      have hPc := hP.sub (ws' := [c_P q0 q1 (upd r 9 (0 : Int32)), c_B q1 q2 q3 k, c_A q2 cM 1024 M, c_A q3 cD 256 D]) [0, 1, 2, 3] rfl
      have hDc := hD.sub (ws' := [c_P q0 q1 (upd r 9 (0 : Int32)), c_B q1 q2 q3 k, c_A q2 cM 1024 M, c_A q3 cD 256 D]) [0, 1, 2, 3] (by decide) rfl
      have hKc := hK.sub (tys' := [(cM, .int), (cD, .int)]) [0, 1] rfl
      have hFc := va_free (wc := [c_P q0 q1 (upd r 9 (0 : Int32)), c_B q1 q2 q3 k, c_A q2 cM 1024 M, c_A q3 cD 256 D]) hD hS hA [0, 1, 2, 3] rfl
      refine va_calli (va_runV (As := [.int p1, .int (0 : Int32)]) (rest := [.ref q0]) ⟨hx, hb, hml, hown, htB⟩ (c_P_place l dC dI z0 q0 q1 q2 q3 cM cD H.size p1 (0 : Int32) (upd r 9 (0 : Int32)) k M D) (cwV 2 htB (gd_V mw_292 mw_294 sw_P_place mw_2 mw_295) rfl rfl rfl (by decide +kernel) ⟨Nat.le_of_ble_eq_true rfl, Nat.le_of_ble_eq_true rfl⟩) (pcx_V (va_recv hKc hPc (ci := 1) (q0 := 0) rfl rfl) hPc hKc hDc hA0 hE hS) rfl rfl hl.1 rfl (lv_room (Nat.le_of_ble_eq_true rfl)) d_P_fetch_70 ⟨Nat.zero_le _, Nat.zero_le _⟩) hS (fun q _ h => hFc q h) hFc (fun r9 u t H1 locs ht hvm hw hB hz1 hk1 hS => ?_)
      subst hw
      obtain ⟨hP1, hK1, hD1⟩ := hB
      rw [ht] at hP1
      obtain ⟨hP, hD⟩ := va_join (wr := []) (w1 := [c_P q0 q1 (upd r 9 (0 : Int32)), c_B q1 q2 q3 k, c_A q2 cM 1024 M, c_A q3 cD 256 D]) hP hD [0, 1, 2, 3] [] rfl rfl (by decide) (by decide) hk1 hFc hP1 hD1
      generalize H1 = H at hP hS ⊢
      have hP : va_P (dC, dI) classes [c_P q0 q1 (upd r 9 (0 : Int32)), c_B q1 q2 q3 k, c_A q2 cM 1024 M, c_A q3 cD 256 D] H := hP.sub [0, 1, 2, 3] rfl
      have hD : va_D A [c_P q0 q1 (upd r 9 (0 : Int32)), c_B q1 q2 q3 k, c_A q2 cM 1024 M, c_A q3 cD 256 D] := hD.sub [0, 1, 2, 3] (by decide) rfl
      have hPc := hP.sub (ws' := []) [] rfl
      have hDc := hD.sub (ws' := []) [] (by decide) rfl
      have hKc := hK.sub (tys' := []) [] rfl
      have hFc := va_free (wc := []) hD hS hA [] rfl
      refine va_calli (va_runS (As := [.int (f_P_place p1 (0 : Int32) (upd r 9 (0 : Int32)) k M D)]) (rest := [.ref q0]) ⟨hx, hb, hml, hown, htB⟩ (c_P_address l dC dI z0  H.size (f_P_place p1 (0 : Int32) (upd r 9 (0 : Int32)) k M D)) (cwS 1 htB (gd_S mw_300 mw_301 mw_2 mw_302) rfl rfl rfl (by decide +kernel) ⟨Nat.le_of_ble_eq_true rfl, Nat.le_of_ble_eq_true rfl⟩) (pcx_S hPc hKc hDc hA0 hE hS) rfl rfl hl.1 rfl (lv_room (Nat.le_of_ble_eq_true rfl)) d_P_fetch_73 ⟨Nat.zero_le _, Nat.zero_le _⟩) hS (fun q _ h => hFc q h) hFc (fun r9 u t H1 locs ht hvm hw hB hz1 hk1 hS => ?_)
      subst hw
      obtain ⟨hP1, hK1, hD1⟩ := hB
      rw [ht] at hP1
      obtain ⟨hP, hD⟩ := va_join (wr := [c_P q0 q1 (upd r 9 (0 : Int32)), c_B q1 q2 q3 k, c_A q2 cM 1024 M, c_A q3 cD 256 D]) (w1 := []) hP hD [] [0, 1, 2, 3] rfl rfl (by decide) (by decide) hk1 hFc hP1 hD1
      generalize H1 = H at hP hS ⊢
      have hP : va_P (dC, dI) classes [c_P q0 q1 (upd r 9 (0 : Int32)), c_B q1 q2 q3 k, c_A q2 cM 1024 M, c_A q3 cD 256 D] H := hP.sub [0, 1, 2, 3] rfl
      have hD : va_D A [c_P q0 q1 (upd r 9 (0 : Int32)), c_B q1 q2 q3 k, c_A q2 cM 1024 M, c_A q3 cD 256 D] := hD.sub [0, 1, 2, 3] (by decide) rfl
      refine va_put (D := (dC, dI)) (ci := 1) (v := .int (f_P_address (f_P_place p1 (0 : Int32) (upd r 9 (0 : Int32)) k M D))) (ty := .int) (C := R_P) (T := F_P) (N := 13) hx hb htB i_P t_P t_P_ok n_P hown hK hP hD hS 0 rfl rfl 11 (by decide) (htB _ mw_70) (fun _ h9 => h9) rfl (by decide +kernel) rfl rfl (Nat.le_of_ble_eq_true rfl) d_P_fetch_76 (fun H locs hP hD hS => ?_)
      have hP : va_P (dC, dI) classes [c_P q0 q1 (upd (upd r 9 (0 : Int32)) 10 (f_P_address (f_P_place p1 (0 : Int32) (upd r 9 (0 : Int32)) k M D))), c_B q1 q2 q3 k, c_A q2 cM 1024 M, c_A q3 cD 256 D] H := hP
      have hD : va_D A [c_P q0 q1 (upd (upd r 9 (0 : Int32)) 10 (f_P_address (f_P_place p1 (0 : Int32) (upd r 9 (0 : Int32)) k M D))), c_B q1 q2 q3 k, c_A q2 cM 1024 M, c_A q3 cD 256 D] := hD
      refine lv_aload_n hx hb d_P_fetch_79 rfl (lv_at hl 2 rfl) ?_
      refine lv_aload_n hx hb d_P_fetch_80 rfl (lv_at hl 2 rfl) ?_
      refine va_get (D := (dC, dI)) (ci := 1) (v := .int (r 4)) (C := R_P) (T := F_P) (N := 13) hx hb htB i_P hown hK hP 0 rfl rfl 5 (by decide) (htB _ mw_63) (fun _ h9 => h9) rfl d_P_fetch_81 ?_
      refine lv_iconst (v := 1) hx hb d_P_fetch_84 (by decide) ?_
      refine lv_iadd hx hb d_P_fetch_85 ?_
      refine lv_iload_n hx hb d_P_fetch_86 rfl (lv_at hl 1 rfl) ?_
      refine lv_iadd hx hb d_P_fetch_87 ?_
      have hPc := hP.sub (ws' := []) [] rfl
      have hDc := hD.sub (ws' := []) [] (by decide) rfl
      have hKc := hK.sub (tys' := []) [] rfl
      have hFc := va_free (wc := []) hD hS hA [] rfl
      refine va_calli (va_runS (As := [.int (((r 4) + (1 : Int32)) + (f_P_bytesBehind p1))]) (rest := [.ref q0]) ⟨hx, hb, hml, hown, htB⟩ (c_P_address l dC dI z0  H.size (((r 4) + (1 : Int32)) + (f_P_bytesBehind p1))) (cwS 1 htB (gd_S mw_300 mw_301 mw_2 mw_302) rfl rfl rfl (by decide +kernel) ⟨Nat.le_of_ble_eq_true rfl, Nat.le_of_ble_eq_true rfl⟩) (pcx_S hPc hKc hDc hA0 hE hS) rfl rfl hl.1 rfl (lv_room (Nat.le_of_ble_eq_true rfl)) d_P_fetch_88 ⟨Nat.zero_le _, Nat.zero_le _⟩) hS (fun q _ h => hFc q h) hFc (fun r9 u t H1 locs ht hvm hw hB hz1 hk1 hS => ?_)
      subst hw
      obtain ⟨hP1, hK1, hD1⟩ := hB
      rw [ht] at hP1
      obtain ⟨hP, hD⟩ := va_join (wr := [c_P q0 q1 (upd (upd r 9 (0 : Int32)) 10 (f_P_address (f_P_place p1 (0 : Int32) (upd r 9 (0 : Int32)) k M D))), c_B q1 q2 q3 k, c_A q2 cM 1024 M, c_A q3 cD 256 D]) (w1 := []) hP hD [] [0, 1, 2, 3] rfl rfl (by decide) (by decide) hk1 hFc hP1 hD1
      generalize H1 = H at hP hS ⊢
      have hP : va_P (dC, dI) classes [c_P q0 q1 (upd (upd r 9 (0 : Int32)) 10 (f_P_address (f_P_place p1 (0 : Int32) (upd r 9 (0 : Int32)) k M D))), c_B q1 q2 q3 k, c_A q2 cM 1024 M, c_A q3 cD 256 D] H := hP.sub [0, 1, 2, 3] rfl
      have hD : va_D A [c_P q0 q1 (upd (upd r 9 (0 : Int32)) 10 (f_P_address (f_P_place p1 (0 : Int32) (upd r 9 (0 : Int32)) k M D))), c_B q1 q2 q3 k, c_A q2 cM 1024 M, c_A q3 cD 256 D] := hD.sub [0, 1, 2, 3] (by decide) rfl
      refine va_put (D := (dC, dI)) (ci := 1) (v := .int (f_P_address (((r 4) + (1 : Int32)) + (f_P_bytesBehind p1)))) (ty := .int) (C := R_P) (T := F_P) (N := 13) hx hb htB i_P t_P t_P_ok n_P hown hK hP hD hS 0 rfl rfl 12 (by decide) (htB _ mw_71) (fun _ h9 => h9) rfl (by decide +kernel) rfl rfl (Nat.le_of_ble_eq_true rfl) d_P_fetch_91 (fun H locs hP hD hS => ?_)
      have hP : va_P (dC, dI) classes [c_P q0 q1 (upd (upd (upd r 9 (0 : Int32)) 10 (f_P_address (f_P_place p1 (0 : Int32) (upd r 9 (0 : Int32)) k M D))) 11 (f_P_address (((r 4) + (1 : Int32)) + (f_P_bytesBehind p1)))), c_B q1 q2 q3 k, c_A q2 cM 1024 M, c_A q3 cD 256 D] H := hP
      have hD : va_D A [c_P q0 q1 (upd (upd (upd r 9 (0 : Int32)) 10 (f_P_address (f_P_place p1 (0 : Int32) (upd r 9 (0 : Int32)) k M D))) 11 (f_P_address (((r 4) + (1 : Int32)) + (f_P_bytesBehind p1)))), c_B q1 q2 q3 k, c_A q2 cM 1024 M, c_A q3 cD 256 D] := hD
      have hf : f_P_fetch p1 r k M D = ((upd (upd (upd r 9 (0 : Int32)) 10 (f_P_address (f_P_place p1 (0 : Int32) (upd r 9 (0 : Int32)) k M D))) 11 (f_P_address (((r 4) + (1 : Int32)) + (f_P_bytesBehind p1)))), k) := by rw [f_P_fetch, if_pos c_1, if_pos c_2]
      exact W.vret hx hb hr (fun t ht hW => ⟨⟨(), rfl, trivial, by rw [hf]; exact ⟨by rw [ht]; exact hP, va_K.moved hW.alike hK, hD⟩⟩, hS.F ht⟩) hS.2.2 d_P_fetch_94
    · refine lv_aload_n hx hb d_P_fetch_36 rfl (lv_at hl 1 rfl) ?_
      refine va_get (D := (dC, dI)) (ci := 1) (v := .int (0 : Int32)) (C := R_P) (T := F_P) (N := 13) hx hb htB i_P hown hK hP 0 rfl rfl 10 (by decide) (htB _ mw_69) (fun _ h9 => h9) rfl d_P_fetch_37 ?_
      refine lv_sipush (v := 256) hx hb d_P_fetch_40 (by decide) ?_
      refine lv_aload_n hx hb d_P_fetch_43 rfl (lv_at hl 1 rfl) ?_
      refine va_get (D := (dC, dI)) (ci := 1) (v := .ref q1) (C := R_P) (T := F_P) (N := 13) hx hb htB i_P hown hK hP 0 rfl rfl 0 (by decide) (htB _ mw_57) (fun _ h9 => h9) rfl d_P_fetch_44 ?_
      refine lv_aload_n hx hb d_P_fetch_47 rfl (lv_at hl 1 rfl) ?_
      refine va_get (D := (dC, dI)) (ci := 1) (v := .int (r 4)) (C := R_P) (T := F_P) (N := 13) hx hb htB i_P hown hK hP 0 rfl rfl 5 (by decide) (htB _ mw_63) (fun _ h9 => h9) rfl d_P_fetch_48 ?_
      refine lv_iconst (v := 2) hx hb d_P_fetch_51 (by decide) ?_
      refine lv_iadd hx hb d_P_fetch_52 ?_
      have hPc := hP.sub (ws' := [c_B q1 q2 q3 k, c_A q2 cM 1024 M, c_A q3 cD 256 D]) [1, 2, 3] rfl
      have hDc := hD.sub (ws' := [c_B q1 q2 q3 k, c_A q2 cM 1024 M, c_A q3 cD 256 D]) [1, 2, 3] (by decide) rfl
      have hKc := hK.sub (tys' := [(cM, .int), (cD, .int)]) [0, 1] rfl
      have hFc := va_free (wc := [c_B q1 q2 q3 k, c_A q2 cM 1024 M, c_A q3 cD 256 D]) hD hS hA [1, 2, 3] rfl
      refine va_calli (va_runVN (As := [.int ((r 4) + (2 : Int32))]) (rest := [.int (256 : Int32), .int (0 : Int32)]) ⟨hx, hb, hml, hown, htB⟩ (c_B_readByte l dC dI z0 q1 q2 q3 cM cD H.size ((r 4) + (2 : Int32)) k M D) ⟨va_cnB 1 htB (gd_c mw_277) rfl rfl rfl (hE.2.1 _ ew_274) (htB _ mw_3) (by decide +kernel) ⟨Nat.le_of_ble_eq_true rfl, Nat.le_of_ble_eq_true rfl⟩, htB _ mw_276, htB _ sw_B_readByte⟩ (pcx_V (va_recv hKc hPc (ci := 2) (q0 := 0) rfl rfl) hPc hKc hDc hA0 hE hS) rfl rfl hl.1 rfl (lv_room (Nat.le_of_ble_eq_true rfl)) d_P_fetch_53 ⟨Nat.zero_le _, Nat.zero_le _⟩) hS (fun q _ h => hFc q h) hFc (fun r9 u t H1 locs ht hvm hw hB hz1 hk1 hS => ?_)
      subst hw
      obtain ⟨hP1, hK1, hD1⟩ := hB
      rw [ht] at hP1
      obtain ⟨hP, hD⟩ := va_join (wr := [c_P q0 q1 (upd r 9 (0 : Int32))]) (w1 := [c_B q1 q2 q3 ((f_B_readByte ((r 4) + (2 : Int32)) k M D).2), c_A q2 cM 1024 M, c_A q3 cD 256 D]) hP hD [1, 2, 3] [0] rfl rfl (by decide) (by decide) hk1 hFc hP1 hD1
      generalize H1 = H at hP hS ⊢
      have hP : va_P (dC, dI) classes [c_P q0 q1 (upd r 9 (0 : Int32)), c_B q1 q2 q3 ((f_B_readByte ((r 4) + (2 : Int32)) k M D).2), c_A q2 cM 1024 M, c_A q3 cD 256 D] H := hP.sub [0, 1, 2, 3] rfl
      have hD : va_D A [c_P q0 q1 (upd r 9 (0 : Int32)), c_B q1 q2 q3 ((f_B_readByte ((r 4) + (2 : Int32)) k M D).2), c_A q2 cM 1024 M, c_A q3 cD 256 D] := hD.sub [0, 1, 2, 3] (by decide) rfl
      refine lv_imul hx hb d_P_fetch_56 ?_
      refine lv_iadd hx hb d_P_fetch_57 ?_
      refine lv_goto (tgt := 65) hx hb d_P_fetch_58 (by decide) ?_
      refine lv_istore_n (lv' := [(3, .int ((0 : Int32) + ((256 : Int32) * ((f_B_readByte ((r 4) + (2 : Int32)) k M D).1)))), (2, .int (f_P_bytesBehind p1)), (0, .ref q0), (1, .int p1)]) hx hb d_P_fetch_65 rfl hl (by decide) rfl (fun ls hl => ?_)
      refine lv_aload_n hx hb d_P_fetch_66 rfl (lv_at hl 2 rfl) ?_
      refine lv_aload_n hx hb d_P_fetch_67 rfl (lv_at hl 2 rfl) ?_
      refine lv_iload_n hx hb d_P_fetch_68 rfl (lv_at hl 3 rfl) ?_
      refine lv_iload_n hx hb d_P_fetch_69 rfl (lv_at hl 0 rfl) ?_
      have hPc := hP.sub (ws' := [c_P q0 q1 (upd r 9 (0 : Int32)), c_B q1 q2 q3 ((f_B_readByte ((r 4) + (2 : Int32)) k M D).2), c_A q2 cM 1024 M, c_A q3 cD 256 D]) [0, 1, 2, 3] rfl
      have hDc := hD.sub (ws' := [c_P q0 q1 (upd r 9 (0 : Int32)), c_B q1 q2 q3 ((f_B_readByte ((r 4) + (2 : Int32)) k M D).2), c_A q2 cM 1024 M, c_A q3 cD 256 D]) [0, 1, 2, 3] (by decide) rfl
      have hKc := hK.sub (tys' := [(cM, .int), (cD, .int)]) [0, 1] rfl
      have hFc := va_free (wc := [c_P q0 q1 (upd r 9 (0 : Int32)), c_B q1 q2 q3 ((f_B_readByte ((r 4) + (2 : Int32)) k M D).2), c_A q2 cM 1024 M, c_A q3 cD 256 D]) hD hS hA [0, 1, 2, 3] rfl
      refine va_calli (va_runV (As := [.int p1, .int ((0 : Int32) + ((256 : Int32) * ((f_B_readByte ((r 4) + (2 : Int32)) k M D).1)))]) (rest := [.ref q0]) ⟨hx, hb, hml, hown, htB⟩ (c_P_place l dC dI z0 q0 q1 q2 q3 cM cD H.size p1 ((0 : Int32) + ((256 : Int32) * ((f_B_readByte ((r 4) + (2 : Int32)) k M D).1))) (upd r 9 (0 : Int32)) ((f_B_readByte ((r 4) + (2 : Int32)) k M D).2) M D) (cwV 2 htB (gd_V mw_292 mw_294 sw_P_place mw_2 mw_295) rfl rfl rfl (by decide +kernel) ⟨Nat.le_of_ble_eq_true rfl, Nat.le_of_ble_eq_true rfl⟩) (pcx_V (va_recv hKc hPc (ci := 1) (q0 := 0) rfl rfl) hPc hKc hDc hA0 hE hS) rfl rfl hl.1 rfl (lv_room (Nat.le_of_ble_eq_true rfl)) d_P_fetch_70 ⟨Nat.zero_le _, Nat.zero_le _⟩) hS (fun q _ h => hFc q h) hFc (fun r9 u t H1 locs ht hvm hw hB hz1 hk1 hS => ?_)
      subst hw
      obtain ⟨hP1, hK1, hD1⟩ := hB
      rw [ht] at hP1
      obtain ⟨hP, hD⟩ := va_join (wr := []) (w1 := [c_P q0 q1 (upd r 9 (0 : Int32)), c_B q1 q2 q3 ((f_B_readByte ((r 4) + (2 : Int32)) k M D).2), c_A q2 cM 1024 M, c_A q3 cD 256 D]) hP hD [0, 1, 2, 3] [] rfl rfl (by decide) (by decide) hk1 hFc hP1 hD1
      generalize H1 = H at hP hS ⊢
      have hP : va_P (dC, dI) classes [c_P q0 q1 (upd r 9 (0 : Int32)), c_B q1 q2 q3 ((f_B_readByte ((r 4) + (2 : Int32)) k M D).2), c_A q2 cM 1024 M, c_A q3 cD 256 D] H := hP.sub [0, 1, 2, 3] rfl
      have hD : va_D A [c_P q0 q1 (upd r 9 (0 : Int32)), c_B q1 q2 q3 ((f_B_readByte ((r 4) + (2 : Int32)) k M D).2), c_A q2 cM 1024 M, c_A q3 cD 256 D] := hD.sub [0, 1, 2, 3] (by decide) rfl
      have hPc := hP.sub (ws' := []) [] rfl
      have hDc := hD.sub (ws' := []) [] (by decide) rfl
      have hKc := hK.sub (tys' := []) [] rfl
      have hFc := va_free (wc := []) hD hS hA [] rfl
      refine va_calli (va_runS (As := [.int (f_P_place p1 ((0 : Int32) + ((256 : Int32) * ((f_B_readByte ((r 4) + (2 : Int32)) k M D).1))) (upd r 9 (0 : Int32)) ((f_B_readByte ((r 4) + (2 : Int32)) k M D).2) M D)]) (rest := [.ref q0]) ⟨hx, hb, hml, hown, htB⟩ (c_P_address l dC dI z0  H.size (f_P_place p1 ((0 : Int32) + ((256 : Int32) * ((f_B_readByte ((r 4) + (2 : Int32)) k M D).1))) (upd r 9 (0 : Int32)) ((f_B_readByte ((r 4) + (2 : Int32)) k M D).2) M D)) (cwS 1 htB (gd_S mw_300 mw_301 mw_2 mw_302) rfl rfl rfl (by decide +kernel) ⟨Nat.le_of_ble_eq_true rfl, Nat.le_of_ble_eq_true rfl⟩) (pcx_S hPc hKc hDc hA0 hE hS) rfl rfl hl.1 rfl (lv_room (Nat.le_of_ble_eq_true rfl)) d_P_fetch_73 ⟨Nat.zero_le _, Nat.zero_le _⟩) hS (fun q _ h => hFc q h) hFc (fun r9 u t H1 locs ht hvm hw hB hz1 hk1 hS => ?_)
      subst hw
      obtain ⟨hP1, hK1, hD1⟩ := hB
      rw [ht] at hP1
      obtain ⟨hP, hD⟩ := va_join (wr := [c_P q0 q1 (upd r 9 (0 : Int32)), c_B q1 q2 q3 ((f_B_readByte ((r 4) + (2 : Int32)) k M D).2), c_A q2 cM 1024 M, c_A q3 cD 256 D]) (w1 := []) hP hD [] [0, 1, 2, 3] rfl rfl (by decide) (by decide) hk1 hFc hP1 hD1
      generalize H1 = H at hP hS ⊢
      have hP : va_P (dC, dI) classes [c_P q0 q1 (upd r 9 (0 : Int32)), c_B q1 q2 q3 ((f_B_readByte ((r 4) + (2 : Int32)) k M D).2), c_A q2 cM 1024 M, c_A q3 cD 256 D] H := hP.sub [0, 1, 2, 3] rfl
      have hD : va_D A [c_P q0 q1 (upd r 9 (0 : Int32)), c_B q1 q2 q3 ((f_B_readByte ((r 4) + (2 : Int32)) k M D).2), c_A q2 cM 1024 M, c_A q3 cD 256 D] := hD.sub [0, 1, 2, 3] (by decide) rfl
      refine va_put (D := (dC, dI)) (ci := 1) (v := .int (f_P_address (f_P_place p1 ((0 : Int32) + ((256 : Int32) * ((f_B_readByte ((r 4) + (2 : Int32)) k M D).1))) (upd r 9 (0 : Int32)) ((f_B_readByte ((r 4) + (2 : Int32)) k M D).2) M D))) (ty := .int) (C := R_P) (T := F_P) (N := 13) hx hb htB i_P t_P t_P_ok n_P hown hK hP hD hS 0 rfl rfl 11 (by decide) (htB _ mw_70) (fun _ h9 => h9) rfl (by decide +kernel) rfl rfl (Nat.le_of_ble_eq_true rfl) d_P_fetch_76 (fun H locs hP hD hS => ?_)
      have hP : va_P (dC, dI) classes [c_P q0 q1 (upd (upd r 9 (0 : Int32)) 10 (f_P_address (f_P_place p1 ((0 : Int32) + ((256 : Int32) * ((f_B_readByte ((r 4) + (2 : Int32)) k M D).1))) (upd r 9 (0 : Int32)) ((f_B_readByte ((r 4) + (2 : Int32)) k M D).2) M D))), c_B q1 q2 q3 ((f_B_readByte ((r 4) + (2 : Int32)) k M D).2), c_A q2 cM 1024 M, c_A q3 cD 256 D] H := hP
      have hD : va_D A [c_P q0 q1 (upd (upd r 9 (0 : Int32)) 10 (f_P_address (f_P_place p1 ((0 : Int32) + ((256 : Int32) * ((f_B_readByte ((r 4) + (2 : Int32)) k M D).1))) (upd r 9 (0 : Int32)) ((f_B_readByte ((r 4) + (2 : Int32)) k M D).2) M D))), c_B q1 q2 q3 ((f_B_readByte ((r 4) + (2 : Int32)) k M D).2), c_A q2 cM 1024 M, c_A q3 cD 256 D] := hD
      refine lv_aload_n hx hb d_P_fetch_79 rfl (lv_at hl 2 rfl) ?_
      refine lv_aload_n hx hb d_P_fetch_80 rfl (lv_at hl 2 rfl) ?_
      refine va_get (D := (dC, dI)) (ci := 1) (v := .int (r 4)) (C := R_P) (T := F_P) (N := 13) hx hb htB i_P hown hK hP 0 rfl rfl 5 (by decide) (htB _ mw_63) (fun _ h9 => h9) rfl d_P_fetch_81 ?_
      refine lv_iconst (v := 1) hx hb d_P_fetch_84 (by decide) ?_
      refine lv_iadd hx hb d_P_fetch_85 ?_
      refine lv_iload_n hx hb d_P_fetch_86 rfl (lv_at hl 1 rfl) ?_
      refine lv_iadd hx hb d_P_fetch_87 ?_
      have hPc := hP.sub (ws' := []) [] rfl
      have hDc := hD.sub (ws' := []) [] (by decide) rfl
      have hKc := hK.sub (tys' := []) [] rfl
      have hFc := va_free (wc := []) hD hS hA [] rfl
      refine va_calli (va_runS (As := [.int (((r 4) + (1 : Int32)) + (f_P_bytesBehind p1))]) (rest := [.ref q0]) ⟨hx, hb, hml, hown, htB⟩ (c_P_address l dC dI z0  H.size (((r 4) + (1 : Int32)) + (f_P_bytesBehind p1))) (cwS 1 htB (gd_S mw_300 mw_301 mw_2 mw_302) rfl rfl rfl (by decide +kernel) ⟨Nat.le_of_ble_eq_true rfl, Nat.le_of_ble_eq_true rfl⟩) (pcx_S hPc hKc hDc hA0 hE hS) rfl rfl hl.1 rfl (lv_room (Nat.le_of_ble_eq_true rfl)) d_P_fetch_88 ⟨Nat.zero_le _, Nat.zero_le _⟩) hS (fun q _ h => hFc q h) hFc (fun r9 u t H1 locs ht hvm hw hB hz1 hk1 hS => ?_)
      subst hw
      obtain ⟨hP1, hK1, hD1⟩ := hB
      rw [ht] at hP1
      obtain ⟨hP, hD⟩ := va_join (wr := [c_P q0 q1 (upd (upd r 9 (0 : Int32)) 10 (f_P_address (f_P_place p1 ((0 : Int32) + ((256 : Int32) * ((f_B_readByte ((r 4) + (2 : Int32)) k M D).1))) (upd r 9 (0 : Int32)) ((f_B_readByte ((r 4) + (2 : Int32)) k M D).2) M D))), c_B q1 q2 q3 ((f_B_readByte ((r 4) + (2 : Int32)) k M D).2), c_A q2 cM 1024 M, c_A q3 cD 256 D]) (w1 := []) hP hD [] [0, 1, 2, 3] rfl rfl (by decide) (by decide) hk1 hFc hP1 hD1
      generalize H1 = H at hP hS ⊢
      have hP : va_P (dC, dI) classes [c_P q0 q1 (upd (upd r 9 (0 : Int32)) 10 (f_P_address (f_P_place p1 ((0 : Int32) + ((256 : Int32) * ((f_B_readByte ((r 4) + (2 : Int32)) k M D).1))) (upd r 9 (0 : Int32)) ((f_B_readByte ((r 4) + (2 : Int32)) k M D).2) M D))), c_B q1 q2 q3 ((f_B_readByte ((r 4) + (2 : Int32)) k M D).2), c_A q2 cM 1024 M, c_A q3 cD 256 D] H := hP.sub [0, 1, 2, 3] rfl
      have hD : va_D A [c_P q0 q1 (upd (upd r 9 (0 : Int32)) 10 (f_P_address (f_P_place p1 ((0 : Int32) + ((256 : Int32) * ((f_B_readByte ((r 4) + (2 : Int32)) k M D).1))) (upd r 9 (0 : Int32)) ((f_B_readByte ((r 4) + (2 : Int32)) k M D).2) M D))), c_B q1 q2 q3 ((f_B_readByte ((r 4) + (2 : Int32)) k M D).2), c_A q2 cM 1024 M, c_A q3 cD 256 D] := hD.sub [0, 1, 2, 3] (by decide) rfl
      refine va_put (D := (dC, dI)) (ci := 1) (v := .int (f_P_address (((r 4) + (1 : Int32)) + (f_P_bytesBehind p1)))) (ty := .int) (C := R_P) (T := F_P) (N := 13) hx hb htB i_P t_P t_P_ok n_P hown hK hP hD hS 0 rfl rfl 12 (by decide) (htB _ mw_71) (fun _ h9 => h9) rfl (by decide +kernel) rfl rfl (Nat.le_of_ble_eq_true rfl) d_P_fetch_91 (fun H locs hP hD hS => ?_)
      have hP : va_P (dC, dI) classes [c_P q0 q1 (upd (upd (upd r 9 (0 : Int32)) 10 (f_P_address (f_P_place p1 ((0 : Int32) + ((256 : Int32) * ((f_B_readByte ((r 4) + (2 : Int32)) k M D).1))) (upd r 9 (0 : Int32)) ((f_B_readByte ((r 4) + (2 : Int32)) k M D).2) M D))) 11 (f_P_address (((r 4) + (1 : Int32)) + (f_P_bytesBehind p1)))), c_B q1 q2 q3 ((f_B_readByte ((r 4) + (2 : Int32)) k M D).2), c_A q2 cM 1024 M, c_A q3 cD 256 D] H := hP
      have hD : va_D A [c_P q0 q1 (upd (upd (upd r 9 (0 : Int32)) 10 (f_P_address (f_P_place p1 ((0 : Int32) + ((256 : Int32) * ((f_B_readByte ((r 4) + (2 : Int32)) k M D).1))) (upd r 9 (0 : Int32)) ((f_B_readByte ((r 4) + (2 : Int32)) k M D).2) M D))) 11 (f_P_address (((r 4) + (1 : Int32)) + (f_P_bytesBehind p1)))), c_B q1 q2 q3 ((f_B_readByte ((r 4) + (2 : Int32)) k M D).2), c_A q2 cM 1024 M, c_A q3 cD 256 D] := hD
      have hf : f_P_fetch p1 r k M D = ((upd (upd (upd r 9 (0 : Int32)) 10 (f_P_address (f_P_place p1 ((0 : Int32) + ((256 : Int32) * ((f_B_readByte ((r 4) + (2 : Int32)) k M D).1))) (upd r 9 (0 : Int32)) ((f_B_readByte ((r 4) + (2 : Int32)) k M D).2) M D))) 11 (f_P_address (((r 4) + (1 : Int32)) + (f_P_bytesBehind p1)))), (f_B_readByte ((r 4) + (2 : Int32)) k M D).2) := by rw [f_P_fetch, if_pos c_1, if_neg c_2]
      exact W.vret hx hb hr (fun t ht hW => ⟨⟨(), rfl, trivial, by rw [hf]; exact ⟨by rw [ht]; exact hP, va_K.moved hW.alike hK, hD⟩⟩, hS.F ht⟩) hS.2.2 d_P_fetch_94
  · refine lv_aload_n hx hb d_P_fetch_11 rfl (lv_at hl 1 rfl) ?_
    refine va_get (D := (dC, dI)) (ci := 1) (v := .ref q1) (C := R_P) (T := F_P) (N := 13) hx hb htB i_P hown hK hP 0 rfl rfl 0 (by decide) (htB _ mw_57) (fun _ h9 => h9) rfl d_P_fetch_12 ?_
    refine lv_aload_n hx hb d_P_fetch_15 rfl (lv_at hl 1 rfl) ?_
    refine va_get (D := (dC, dI)) (ci := 1) (v := .int (r 4)) (C := R_P) (T := F_P) (N := 13) hx hb htB i_P hown hK hP 0 rfl rfl 5 (by decide) (htB _ mw_63) (fun _ h9 => h9) rfl d_P_fetch_16 ?_
    refine lv_iconst (v := 1) hx hb d_P_fetch_19 (by decide) ?_
    refine lv_iadd hx hb d_P_fetch_20 ?_
    have hPc := hP.sub (ws' := [c_B q1 q2 q3 k, c_A q2 cM 1024 M, c_A q3 cD 256 D]) [1, 2, 3] rfl
    have hDc := hD.sub (ws' := [c_B q1 q2 q3 k, c_A q2 cM 1024 M, c_A q3 cD 256 D]) [1, 2, 3] (by decide) rfl
    have hKc := hK.sub (tys' := [(cM, .int), (cD, .int)]) [0, 1] rfl
    have hFc := va_free (wc := [c_B q1 q2 q3 k, c_A q2 cM 1024 M, c_A q3 cD 256 D]) hD hS hA [1, 2, 3] rfl
    refine va_calli (va_runVN (As := [.int ((r 4) + (1 : Int32))]) (rest := [.ref q0]) ⟨hx, hb, hml, hown, htB⟩ (c_B_readByte l dC dI z0 q1 q2 q3 cM cD H.size ((r 4) + (1 : Int32)) k M D) ⟨va_cnB 1 htB (gd_c mw_277) rfl rfl rfl (hE.2.1 _ ew_274) (htB _ mw_3) (by decide +kernel) ⟨Nat.le_of_ble_eq_true rfl, Nat.le_of_ble_eq_true rfl⟩, htB _ mw_276, htB _ sw_B_readByte⟩ (pcx_V (va_recv hKc hPc (ci := 2) (q0 := 0) rfl rfl) hPc hKc hDc hA0 hE hS) rfl rfl hl.1 rfl (lv_room (Nat.le_of_ble_eq_true rfl)) d_P_fetch_21 ⟨Nat.zero_le _, Nat.zero_le _⟩) hS (fun q _ h => hFc q h) hFc (fun r9 u t H1 locs ht hvm hw hB hz1 hk1 hS => ?_)
    subst hw
    obtain ⟨hP1, hK1, hD1⟩ := hB
    rw [ht] at hP1
    obtain ⟨hP, hD⟩ := va_join (wr := [c_P q0 q1 r]) (w1 := [c_B q1 q2 q3 ((f_B_readByte ((r 4) + (1 : Int32)) k M D).2), c_A q2 cM 1024 M, c_A q3 cD 256 D]) hP hD [1, 2, 3] [0] rfl rfl (by decide) (by decide) hk1 hFc hP1 hD1
    generalize H1 = H at hP hS ⊢
    have hP : va_P (dC, dI) classes [c_P q0 q1 r, c_B q1 q2 q3 ((f_B_readByte ((r 4) + (1 : Int32)) k M D).2), c_A q2 cM 1024 M, c_A q3 cD 256 D] H := hP.sub [0, 1, 2, 3] rfl
    have hD : va_D A [c_P q0 q1 r, c_B q1 q2 q3 ((f_B_readByte ((r 4) + (1 : Int32)) k M D).2), c_A q2 cM 1024 M, c_A q3 cD 256 D] := hD.sub [0, 1, 2, 3] (by decide) rfl
    refine lv_goto (tgt := 28) hx hb d_P_fetch_24 (by decide) ?_
    refine va_put (D := (dC, dI)) (ci := 1) (v := .int ((f_B_readByte ((r 4) + (1 : Int32)) k M D).1)) (ty := .int) (C := R_P) (T := F_P) (N := 13) hx hb htB i_P t_P t_P_ok n_P hown hK hP hD hS 0 rfl rfl 10 (by decide) (htB _ mw_69) (fun _ h9 => h9) rfl (by decide +kernel) rfl rfl (Nat.le_of_ble_eq_true rfl) d_P_fetch_28 (fun H locs hP hD hS => ?_)
    have hP : va_P (dC, dI) classes [c_P q0 q1 (upd r 9 ((f_B_readByte ((r 4) + (1 : Int32)) k M D).1)), c_B q1 q2 q3 ((f_B_readByte ((r 4) + (1 : Int32)) k M D).2), c_A q2 cM 1024 M, c_A q3 cD 256 D] H := hP
    have hD : va_D A [c_P q0 q1 (upd r 9 ((f_B_readByte ((r 4) + (1 : Int32)) k M D).1)), c_B q1 q2 q3 ((f_B_readByte ((r 4) + (1 : Int32)) k M D).2), c_A q2 cM 1024 M, c_A q3 cD 256 D] := hD
    refine lv_iload_n hx hb d_P_fetch_31 rfl (lv_at hl 0 rfl) ?_
    refine lv_iconst (v := 2) hx hb d_P_fetch_32 (by decide) ?_
    refine lv_icmp_lt (tgt := 61) hx hb d_P_fetch_33 (by decide) (fun c_2 => ?_) (fun c_2 => ?_)
    · refine lv_aload_n hx hb d_P_fetch_61 rfl (lv_at hl 1 rfl) ?_
      refine va_get (D := (dC, dI)) (ci := 1) (v := .int ((f_B_readByte ((r 4) + (1 : Int32)) k M D).1)) (C := R_P) (T := F_P) (N := 13) hx hb htB i_P hown hK hP 0 rfl rfl 10 (by decide) (htB _ mw_69) (fun _ h9 => h9) rfl d_P_fetch_62 ?_
      refine lv_istore_n (lv' := [(3, .int ((f_B_readByte ((r 4) + (1 : Int32)) k M D).1)), (2, .int (f_P_bytesBehind p1)), (0, .ref q0), (1, .int p1)]) hx hb d_P_fetch_65 rfl hl (by decide) rfl (fun ls hl => ?_)
      refine lv_aload_n hx hb d_P_fetch_66 rfl (lv_at hl 2 rfl) ?_
      refine lv_aload_n hx hb d_P_fetch_67 rfl (lv_at hl 2 rfl) ?_
      refine lv_iload_n hx hb d_P_fetch_68 rfl (lv_at hl 3 rfl) ?_
      refine lv_iload_n hx hb d_P_fetch_69 rfl (lv_at hl 0 rfl) ?_
      have hPc := hP.sub (ws' := [c_P q0 q1 (upd r 9 ((f_B_readByte ((r 4) + (1 : Int32)) k M D).1)), c_B q1 q2 q3 ((f_B_readByte ((r 4) + (1 : Int32)) k M D).2), c_A q2 cM 1024 M, c_A q3 cD 256 D]) [0, 1, 2, 3] rfl
      have hDc := hD.sub (ws' := [c_P q0 q1 (upd r 9 ((f_B_readByte ((r 4) + (1 : Int32)) k M D).1)), c_B q1 q2 q3 ((f_B_readByte ((r 4) + (1 : Int32)) k M D).2), c_A q2 cM 1024 M, c_A q3 cD 256 D]) [0, 1, 2, 3] (by decide) rfl
      have hKc := hK.sub (tys' := [(cM, .int), (cD, .int)]) [0, 1] rfl
      have hFc := va_free (wc := [c_P q0 q1 (upd r 9 ((f_B_readByte ((r 4) + (1 : Int32)) k M D).1)), c_B q1 q2 q3 ((f_B_readByte ((r 4) + (1 : Int32)) k M D).2), c_A q2 cM 1024 M, c_A q3 cD 256 D]) hD hS hA [0, 1, 2, 3] rfl
      refine va_calli (va_runV (As := [.int p1, .int ((f_B_readByte ((r 4) + (1 : Int32)) k M D).1)]) (rest := [.ref q0]) ⟨hx, hb, hml, hown, htB⟩ (c_P_place l dC dI z0 q0 q1 q2 q3 cM cD H.size p1 ((f_B_readByte ((r 4) + (1 : Int32)) k M D).1) (upd r 9 ((f_B_readByte ((r 4) + (1 : Int32)) k M D).1)) ((f_B_readByte ((r 4) + (1 : Int32)) k M D).2) M D) (cwV 2 htB (gd_V mw_292 mw_294 sw_P_place mw_2 mw_295) rfl rfl rfl (by decide +kernel) ⟨Nat.le_of_ble_eq_true rfl, Nat.le_of_ble_eq_true rfl⟩) (pcx_V (va_recv hKc hPc (ci := 1) (q0 := 0) rfl rfl) hPc hKc hDc hA0 hE hS) rfl rfl hl.1 rfl (lv_room (Nat.le_of_ble_eq_true rfl)) d_P_fetch_70 ⟨Nat.zero_le _, Nat.zero_le _⟩) hS (fun q _ h => hFc q h) hFc (fun r9 u t H1 locs ht hvm hw hB hz1 hk1 hS => ?_)
      subst hw
      obtain ⟨hP1, hK1, hD1⟩ := hB
      rw [ht] at hP1
      obtain ⟨hP, hD⟩ := va_join (wr := []) (w1 := [c_P q0 q1 (upd r 9 ((f_B_readByte ((r 4) + (1 : Int32)) k M D).1)), c_B q1 q2 q3 ((f_B_readByte ((r 4) + (1 : Int32)) k M D).2), c_A q2 cM 1024 M, c_A q3 cD 256 D]) hP hD [0, 1, 2, 3] [] rfl rfl (by decide) (by decide) hk1 hFc hP1 hD1
      generalize H1 = H at hP hS ⊢
      have hP : va_P (dC, dI) classes [c_P q0 q1 (upd r 9 ((f_B_readByte ((r 4) + (1 : Int32)) k M D).1)), c_B q1 q2 q3 ((f_B_readByte ((r 4) + (1 : Int32)) k M D).2), c_A q2 cM 1024 M, c_A q3 cD 256 D] H := hP.sub [0, 1, 2, 3] rfl
      have hD : va_D A [c_P q0 q1 (upd r 9 ((f_B_readByte ((r 4) + (1 : Int32)) k M D).1)), c_B q1 q2 q3 ((f_B_readByte ((r 4) + (1 : Int32)) k M D).2), c_A q2 cM 1024 M, c_A q3 cD 256 D] := hD.sub [0, 1, 2, 3] (by decide) rfl
      have hPc := hP.sub (ws' := []) [] rfl
      have hDc := hD.sub (ws' := []) [] (by decide) rfl
      have hKc := hK.sub (tys' := []) [] rfl
      have hFc := va_free (wc := []) hD hS hA [] rfl
      refine va_calli (va_runS (As := [.int (f_P_place p1 ((f_B_readByte ((r 4) + (1 : Int32)) k M D).1) (upd r 9 ((f_B_readByte ((r 4) + (1 : Int32)) k M D).1)) ((f_B_readByte ((r 4) + (1 : Int32)) k M D).2) M D)]) (rest := [.ref q0]) ⟨hx, hb, hml, hown, htB⟩ (c_P_address l dC dI z0  H.size (f_P_place p1 ((f_B_readByte ((r 4) + (1 : Int32)) k M D).1) (upd r 9 ((f_B_readByte ((r 4) + (1 : Int32)) k M D).1)) ((f_B_readByte ((r 4) + (1 : Int32)) k M D).2) M D)) (cwS 1 htB (gd_S mw_300 mw_301 mw_2 mw_302) rfl rfl rfl (by decide +kernel) ⟨Nat.le_of_ble_eq_true rfl, Nat.le_of_ble_eq_true rfl⟩) (pcx_S hPc hKc hDc hA0 hE hS) rfl rfl hl.1 rfl (lv_room (Nat.le_of_ble_eq_true rfl)) d_P_fetch_73 ⟨Nat.zero_le _, Nat.zero_le _⟩) hS (fun q _ h => hFc q h) hFc (fun r9 u t H1 locs ht hvm hw hB hz1 hk1 hS => ?_)
      subst hw
      obtain ⟨hP1, hK1, hD1⟩ := hB
      rw [ht] at hP1
      obtain ⟨hP, hD⟩ := va_join (wr := [c_P q0 q1 (upd r 9 ((f_B_readByte ((r 4) + (1 : Int32)) k M D).1)), c_B q1 q2 q3 ((f_B_readByte ((r 4) + (1 : Int32)) k M D).2), c_A q2 cM 1024 M, c_A q3 cD 256 D]) (w1 := []) hP hD [] [0, 1, 2, 3] rfl rfl (by decide) (by decide) hk1 hFc hP1 hD1
      generalize H1 = H at hP hS ⊢
      have hP : va_P (dC, dI) classes [c_P q0 q1 (upd r 9 ((f_B_readByte ((r 4) + (1 : Int32)) k M D).1)), c_B q1 q2 q3 ((f_B_readByte ((r 4) + (1 : Int32)) k M D).2), c_A q2 cM 1024 M, c_A q3 cD 256 D] H := hP.sub [0, 1, 2, 3] rfl
      have hD : va_D A [c_P q0 q1 (upd r 9 ((f_B_readByte ((r 4) + (1 : Int32)) k M D).1)), c_B q1 q2 q3 ((f_B_readByte ((r 4) + (1 : Int32)) k M D).2), c_A q2 cM 1024 M, c_A q3 cD 256 D] := hD.sub [0, 1, 2, 3] (by decide) rfl
      refine va_put (D := (dC, dI)) (ci := 1) (v := .int (f_P_address (f_P_place p1 ((f_B_readByte ((r 4) + (1 : Int32)) k M D).1) (upd r 9 ((f_B_readByte ((r 4) + (1 : Int32)) k M D).1)) ((f_B_readByte ((r 4) + (1 : Int32)) k M D).2) M D))) (ty := .int) (C := R_P) (T := F_P) (N := 13) hx hb htB i_P t_P t_P_ok n_P hown hK hP hD hS 0 rfl rfl 11 (by decide) (htB _ mw_70) (fun _ h9 => h9) rfl (by decide +kernel) rfl rfl (Nat.le_of_ble_eq_true rfl) d_P_fetch_76 (fun H locs hP hD hS => ?_)
      have hP : va_P (dC, dI) classes [c_P q0 q1 (upd (upd r 9 ((f_B_readByte ((r 4) + (1 : Int32)) k M D).1)) 10 (f_P_address (f_P_place p1 ((f_B_readByte ((r 4) + (1 : Int32)) k M D).1) (upd r 9 ((f_B_readByte ((r 4) + (1 : Int32)) k M D).1)) ((f_B_readByte ((r 4) + (1 : Int32)) k M D).2) M D))), c_B q1 q2 q3 ((f_B_readByte ((r 4) + (1 : Int32)) k M D).2), c_A q2 cM 1024 M, c_A q3 cD 256 D] H := hP
      have hD : va_D A [c_P q0 q1 (upd (upd r 9 ((f_B_readByte ((r 4) + (1 : Int32)) k M D).1)) 10 (f_P_address (f_P_place p1 ((f_B_readByte ((r 4) + (1 : Int32)) k M D).1) (upd r 9 ((f_B_readByte ((r 4) + (1 : Int32)) k M D).1)) ((f_B_readByte ((r 4) + (1 : Int32)) k M D).2) M D))), c_B q1 q2 q3 ((f_B_readByte ((r 4) + (1 : Int32)) k M D).2), c_A q2 cM 1024 M, c_A q3 cD 256 D] := hD
      refine lv_aload_n hx hb d_P_fetch_79 rfl (lv_at hl 2 rfl) ?_
      refine lv_aload_n hx hb d_P_fetch_80 rfl (lv_at hl 2 rfl) ?_
      refine va_get (D := (dC, dI)) (ci := 1) (v := .int (r 4)) (C := R_P) (T := F_P) (N := 13) hx hb htB i_P hown hK hP 0 rfl rfl 5 (by decide) (htB _ mw_63) (fun _ h9 => h9) rfl d_P_fetch_81 ?_
      refine lv_iconst (v := 1) hx hb d_P_fetch_84 (by decide) ?_
      refine lv_iadd hx hb d_P_fetch_85 ?_
      refine lv_iload_n hx hb d_P_fetch_86 rfl (lv_at hl 1 rfl) ?_
      refine lv_iadd hx hb d_P_fetch_87 ?_
      have hPc := hP.sub (ws' := []) [] rfl
      have hDc := hD.sub (ws' := []) [] (by decide) rfl
      have hKc := hK.sub (tys' := []) [] rfl
      have hFc := va_free (wc := []) hD hS hA [] rfl
      refine va_calli (va_runS (As := [.int (((r 4) + (1 : Int32)) + (f_P_bytesBehind p1))]) (rest := [.ref q0]) ⟨hx, hb, hml, hown, htB⟩ (c_P_address l dC dI z0  H.size (((r 4) + (1 : Int32)) + (f_P_bytesBehind p1))) (cwS 1 htB (gd_S mw_300 mw_301 mw_2 mw_302) rfl rfl rfl (by decide +kernel) ⟨Nat.le_of_ble_eq_true rfl, Nat.le_of_ble_eq_true rfl⟩) (pcx_S hPc hKc hDc hA0 hE hS) rfl rfl hl.1 rfl (lv_room (Nat.le_of_ble_eq_true rfl)) d_P_fetch_88 ⟨Nat.zero_le _, Nat.zero_le _⟩) hS (fun q _ h => hFc q h) hFc (fun r9 u t H1 locs ht hvm hw hB hz1 hk1 hS => ?_)
      subst hw
      obtain ⟨hP1, hK1, hD1⟩ := hB
      rw [ht] at hP1
      obtain ⟨hP, hD⟩ := va_join (wr := [c_P q0 q1 (upd (upd r 9 ((f_B_readByte ((r 4) + (1 : Int32)) k M D).1)) 10 (f_P_address (f_P_place p1 ((f_B_readByte ((r 4) + (1 : Int32)) k M D).1) (upd r 9 ((f_B_readByte ((r 4) + (1 : Int32)) k M D).1)) ((f_B_readByte ((r 4) + (1 : Int32)) k M D).2) M D))), c_B q1 q2 q3 ((f_B_readByte ((r 4) + (1 : Int32)) k M D).2), c_A q2 cM 1024 M, c_A q3 cD 256 D]) (w1 := []) hP hD [] [0, 1, 2, 3] rfl rfl (by decide) (by decide) hk1 hFc hP1 hD1
      generalize H1 = H at hP hS ⊢
      have hP : va_P (dC, dI) classes [c_P q0 q1 (upd (upd r 9 ((f_B_readByte ((r 4) + (1 : Int32)) k M D).1)) 10 (f_P_address (f_P_place p1 ((f_B_readByte ((r 4) + (1 : Int32)) k M D).1) (upd r 9 ((f_B_readByte ((r 4) + (1 : Int32)) k M D).1)) ((f_B_readByte ((r 4) + (1 : Int32)) k M D).2) M D))), c_B q1 q2 q3 ((f_B_readByte ((r 4) + (1 : Int32)) k M D).2), c_A q2 cM 1024 M, c_A q3 cD 256 D] H := hP.sub [0, 1, 2, 3] rfl
      have hD : va_D A [c_P q0 q1 (upd (upd r 9 ((f_B_readByte ((r 4) + (1 : Int32)) k M D).1)) 10 (f_P_address (f_P_place p1 ((f_B_readByte ((r 4) + (1 : Int32)) k M D).1) (upd r 9 ((f_B_readByte ((r 4) + (1 : Int32)) k M D).1)) ((f_B_readByte ((r 4) + (1 : Int32)) k M D).2) M D))), c_B q1 q2 q3 ((f_B_readByte ((r 4) + (1 : Int32)) k M D).2), c_A q2 cM 1024 M, c_A q3 cD 256 D] := hD.sub [0, 1, 2, 3] (by decide) rfl
      refine va_put (D := (dC, dI)) (ci := 1) (v := .int (f_P_address (((r 4) + (1 : Int32)) + (f_P_bytesBehind p1)))) (ty := .int) (C := R_P) (T := F_P) (N := 13) hx hb htB i_P t_P t_P_ok n_P hown hK hP hD hS 0 rfl rfl 12 (by decide) (htB _ mw_71) (fun _ h9 => h9) rfl (by decide +kernel) rfl rfl (Nat.le_of_ble_eq_true rfl) d_P_fetch_91 (fun H locs hP hD hS => ?_)
      have hP : va_P (dC, dI) classes [c_P q0 q1 (upd (upd (upd r 9 ((f_B_readByte ((r 4) + (1 : Int32)) k M D).1)) 10 (f_P_address (f_P_place p1 ((f_B_readByte ((r 4) + (1 : Int32)) k M D).1) (upd r 9 ((f_B_readByte ((r 4) + (1 : Int32)) k M D).1)) ((f_B_readByte ((r 4) + (1 : Int32)) k M D).2) M D))) 11 (f_P_address (((r 4) + (1 : Int32)) + (f_P_bytesBehind p1)))), c_B q1 q2 q3 ((f_B_readByte ((r 4) + (1 : Int32)) k M D).2), c_A q2 cM 1024 M, c_A q3 cD 256 D] H := hP
      have hD : va_D A [c_P q0 q1 (upd (upd (upd r 9 ((f_B_readByte ((r 4) + (1 : Int32)) k M D).1)) 10 (f_P_address (f_P_place p1 ((f_B_readByte ((r 4) + (1 : Int32)) k M D).1) (upd r 9 ((f_B_readByte ((r 4) + (1 : Int32)) k M D).1)) ((f_B_readByte ((r 4) + (1 : Int32)) k M D).2) M D))) 11 (f_P_address (((r 4) + (1 : Int32)) + (f_P_bytesBehind p1)))), c_B q1 q2 q3 ((f_B_readByte ((r 4) + (1 : Int32)) k M D).2), c_A q2 cM 1024 M, c_A q3 cD 256 D] := hD
      have hf : f_P_fetch p1 r k M D = ((upd (upd (upd r 9 ((f_B_readByte ((r 4) + (1 : Int32)) k M D).1)) 10 (f_P_address (f_P_place p1 ((f_B_readByte ((r 4) + (1 : Int32)) k M D).1) (upd r 9 ((f_B_readByte ((r 4) + (1 : Int32)) k M D).1)) ((f_B_readByte ((r 4) + (1 : Int32)) k M D).2) M D))) 11 (f_P_address (((r 4) + (1 : Int32)) + (f_P_bytesBehind p1)))), (f_B_readByte ((r 4) + (1 : Int32)) k M D).2) := by rw [f_P_fetch, if_neg c_1, if_pos c_2]
      exact W.vret hx hb hr (fun t ht hW => ⟨⟨(), rfl, trivial, by rw [hf]; exact ⟨by rw [ht]; exact hP, va_K.moved hW.alike hK, hD⟩⟩, hS.F ht⟩) hS.2.2 d_P_fetch_94
    · refine lv_aload_n hx hb d_P_fetch_36 rfl (lv_at hl 1 rfl) ?_
      refine va_get (D := (dC, dI)) (ci := 1) (v := .int ((f_B_readByte ((r 4) + (1 : Int32)) k M D).1)) (C := R_P) (T := F_P) (N := 13) hx hb htB i_P hown hK hP 0 rfl rfl 10 (by decide) (htB _ mw_69) (fun _ h9 => h9) rfl d_P_fetch_37 ?_
      refine lv_sipush (v := 256) hx hb d_P_fetch_40 (by decide) ?_
      refine lv_aload_n hx hb d_P_fetch_43 rfl (lv_at hl 1 rfl) ?_
      refine va_get (D := (dC, dI)) (ci := 1) (v := .ref q1) (C := R_P) (T := F_P) (N := 13) hx hb htB i_P hown hK hP 0 rfl rfl 0 (by decide) (htB _ mw_57) (fun _ h9 => h9) rfl d_P_fetch_44 ?_
      refine lv_aload_n hx hb d_P_fetch_47 rfl (lv_at hl 1 rfl) ?_
      refine va_get (D := (dC, dI)) (ci := 1) (v := .int (r 4)) (C := R_P) (T := F_P) (N := 13) hx hb htB i_P hown hK hP 0 rfl rfl 5 (by decide) (htB _ mw_63) (fun _ h9 => h9) rfl d_P_fetch_48 ?_
      refine lv_iconst (v := 2) hx hb d_P_fetch_51 (by decide) ?_
      refine lv_iadd hx hb d_P_fetch_52 ?_
      have hPc := hP.sub (ws' := [c_B q1 q2 q3 ((f_B_readByte ((r 4) + (1 : Int32)) k M D).2), c_A q2 cM 1024 M, c_A q3 cD 256 D]) [1, 2, 3] rfl
      have hDc := hD.sub (ws' := [c_B q1 q2 q3 ((f_B_readByte ((r 4) + (1 : Int32)) k M D).2), c_A q2 cM 1024 M, c_A q3 cD 256 D]) [1, 2, 3] (by decide) rfl
      have hKc := hK.sub (tys' := [(cM, .int), (cD, .int)]) [0, 1] rfl
      have hFc := va_free (wc := [c_B q1 q2 q3 ((f_B_readByte ((r 4) + (1 : Int32)) k M D).2), c_A q2 cM 1024 M, c_A q3 cD 256 D]) hD hS hA [1, 2, 3] rfl
      refine va_calli (va_runVN (As := [.int ((r 4) + (2 : Int32))]) (rest := [.int (256 : Int32), .int ((f_B_readByte ((r 4) + (1 : Int32)) k M D).1)]) ⟨hx, hb, hml, hown, htB⟩ (c_B_readByte l dC dI z0 q1 q2 q3 cM cD H.size ((r 4) + (2 : Int32)) ((f_B_readByte ((r 4) + (1 : Int32)) k M D).2) M D) ⟨va_cnB 1 htB (gd_c mw_277) rfl rfl rfl (hE.2.1 _ ew_274) (htB _ mw_3) (by decide +kernel) ⟨Nat.le_of_ble_eq_true rfl, Nat.le_of_ble_eq_true rfl⟩, htB _ mw_276, htB _ sw_B_readByte⟩ (pcx_V (va_recv hKc hPc (ci := 2) (q0 := 0) rfl rfl) hPc hKc hDc hA0 hE hS) rfl rfl hl.1 rfl (lv_room (Nat.le_of_ble_eq_true rfl)) d_P_fetch_53 ⟨Nat.zero_le _, Nat.zero_le _⟩) hS (fun q _ h => hFc q h) hFc (fun r9 u t H1 locs ht hvm hw hB hz1 hk1 hS => ?_)
      subst hw
      obtain ⟨hP1, hK1, hD1⟩ := hB
      rw [ht] at hP1
      obtain ⟨hP, hD⟩ := va_join (wr := [c_P q0 q1 (upd r 9 ((f_B_readByte ((r 4) + (1 : Int32)) k M D).1))]) (w1 := [c_B q1 q2 q3 ((f_B_readByte ((r 4) + (2 : Int32)) ((f_B_readByte ((r 4) + (1 : Int32)) k M D).2) M D).2), c_A q2 cM 1024 M, c_A q3 cD 256 D]) hP hD [1, 2, 3] [0] rfl rfl (by decide) (by decide) hk1 hFc hP1 hD1
      generalize H1 = H at hP hS ⊢
      have hP : va_P (dC, dI) classes [c_P q0 q1 (upd r 9 ((f_B_readByte ((r 4) + (1 : Int32)) k M D).1)), c_B q1 q2 q3 ((f_B_readByte ((r 4) + (2 : Int32)) ((f_B_readByte ((r 4) + (1 : Int32)) k M D).2) M D).2), c_A q2 cM 1024 M, c_A q3 cD 256 D] H := hP.sub [0, 1, 2, 3] rfl
      have hD : va_D A [c_P q0 q1 (upd r 9 ((f_B_readByte ((r 4) + (1 : Int32)) k M D).1)), c_B q1 q2 q3 ((f_B_readByte ((r 4) + (2 : Int32)) ((f_B_readByte ((r 4) + (1 : Int32)) k M D).2) M D).2), c_A q2 cM 1024 M, c_A q3 cD 256 D] := hD.sub [0, 1, 2, 3] (by decide) rfl
      refine lv_imul hx hb d_P_fetch_56 ?_
      refine lv_iadd hx hb d_P_fetch_57 ?_
      refine lv_goto (tgt := 65) hx hb d_P_fetch_58 (by decide) ?_
      refine lv_istore_n (lv' := [(3, .int (((f_B_readByte ((r 4) + (1 : Int32)) k M D).1) + ((256 : Int32) * ((f_B_readByte ((r 4) + (2 : Int32)) ((f_B_readByte ((r 4) + (1 : Int32)) k M D).2) M D).1)))), (2, .int (f_P_bytesBehind p1)), (0, .ref q0), (1, .int p1)]) hx hb d_P_fetch_65 rfl hl (by decide) rfl (fun ls hl => ?_)
      refine lv_aload_n hx hb d_P_fetch_66 rfl (lv_at hl 2 rfl) ?_
      refine lv_aload_n hx hb d_P_fetch_67 rfl (lv_at hl 2 rfl) ?_
      refine lv_iload_n hx hb d_P_fetch_68 rfl (lv_at hl 3 rfl) ?_
      refine lv_iload_n hx hb d_P_fetch_69 rfl (lv_at hl 0 rfl) ?_
      have hPc := hP.sub (ws' := [c_P q0 q1 (upd r 9 ((f_B_readByte ((r 4) + (1 : Int32)) k M D).1)), c_B q1 q2 q3 ((f_B_readByte ((r 4) + (2 : Int32)) ((f_B_readByte ((r 4) + (1 : Int32)) k M D).2) M D).2), c_A q2 cM 1024 M, c_A q3 cD 256 D]) [0, 1, 2, 3] rfl
      have hDc := hD.sub (ws' := [c_P q0 q1 (upd r 9 ((f_B_readByte ((r 4) + (1 : Int32)) k M D).1)), c_B q1 q2 q3 ((f_B_readByte ((r 4) + (2 : Int32)) ((f_B_readByte ((r 4) + (1 : Int32)) k M D).2) M D).2), c_A q2 cM 1024 M, c_A q3 cD 256 D]) [0, 1, 2, 3] (by decide) rfl
      have hKc := hK.sub (tys' := [(cM, .int), (cD, .int)]) [0, 1] rfl
      have hFc := va_free (wc := [c_P q0 q1 (upd r 9 ((f_B_readByte ((r 4) + (1 : Int32)) k M D).1)), c_B q1 q2 q3 ((f_B_readByte ((r 4) + (2 : Int32)) ((f_B_readByte ((r 4) + (1 : Int32)) k M D).2) M D).2), c_A q2 cM 1024 M, c_A q3 cD 256 D]) hD hS hA [0, 1, 2, 3] rfl
      refine va_calli (va_runV (As := [.int p1, .int (((f_B_readByte ((r 4) + (1 : Int32)) k M D).1) + ((256 : Int32) * ((f_B_readByte ((r 4) + (2 : Int32)) ((f_B_readByte ((r 4) + (1 : Int32)) k M D).2) M D).1)))]) (rest := [.ref q0]) ⟨hx, hb, hml, hown, htB⟩ (c_P_place l dC dI z0 q0 q1 q2 q3 cM cD H.size p1 (((f_B_readByte ((r 4) + (1 : Int32)) k M D).1) + ((256 : Int32) * ((f_B_readByte ((r 4) + (2 : Int32)) ((f_B_readByte ((r 4) + (1 : Int32)) k M D).2) M D).1))) (upd r 9 ((f_B_readByte ((r 4) + (1 : Int32)) k M D).1)) ((f_B_readByte ((r 4) + (2 : Int32)) ((f_B_readByte ((r 4) + (1 : Int32)) k M D).2) M D).2) M D) (cwV 2 htB (gd_V mw_292 mw_294 sw_P_place mw_2 mw_295) rfl rfl rfl (by decide +kernel) ⟨Nat.le_of_ble_eq_true rfl, Nat.le_of_ble_eq_true rfl⟩) (pcx_V (va_recv hKc hPc (ci := 1) (q0 := 0) rfl rfl) hPc hKc hDc hA0 hE hS) rfl rfl hl.1 rfl (lv_room (Nat.le_of_ble_eq_true rfl)) d_P_fetch_70 ⟨Nat.zero_le _, Nat.zero_le _⟩) hS (fun q _ h => hFc q h) hFc (fun r9 u t H1 locs ht hvm hw hB hz1 hk1 hS => ?_)
      subst hw
      obtain ⟨hP1, hK1, hD1⟩ := hB
      rw [ht] at hP1
      obtain ⟨hP, hD⟩ := va_join (wr := []) (w1 := [c_P q0 q1 (upd r 9 ((f_B_readByte ((r 4) + (1 : Int32)) k M D).1)), c_B q1 q2 q3 ((f_B_readByte ((r 4) + (2 : Int32)) ((f_B_readByte ((r 4) + (1 : Int32)) k M D).2) M D).2), c_A q2 cM 1024 M, c_A q3 cD 256 D]) hP hD [0, 1, 2, 3] [] rfl rfl (by decide) (by decide) hk1 hFc hP1 hD1
      generalize H1 = H at hP hS ⊢
      have hP : va_P (dC, dI) classes [c_P q0 q1 (upd r 9 ((f_B_readByte ((r 4) + (1 : Int32)) k M D).1)), c_B q1 q2 q3 ((f_B_readByte ((r 4) + (2 : Int32)) ((f_B_readByte ((r 4) + (1 : Int32)) k M D).2) M D).2), c_A q2 cM 1024 M, c_A q3 cD 256 D] H := hP.sub [0, 1, 2, 3] rfl
      have hD : va_D A [c_P q0 q1 (upd r 9 ((f_B_readByte ((r 4) + (1 : Int32)) k M D).1)), c_B q1 q2 q3 ((f_B_readByte ((r 4) + (2 : Int32)) ((f_B_readByte ((r 4) + (1 : Int32)) k M D).2) M D).2), c_A q2 cM 1024 M, c_A q3 cD 256 D] := hD.sub [0, 1, 2, 3] (by decide) rfl
      have hPc := hP.sub (ws' := []) [] rfl
      have hDc := hD.sub (ws' := []) [] (by decide) rfl
      have hKc := hK.sub (tys' := []) [] rfl
      have hFc := va_free (wc := []) hD hS hA [] rfl
      refine va_calli (va_runS (As := [.int (f_P_place p1 (((f_B_readByte ((r 4) + (1 : Int32)) k M D).1) + ((256 : Int32) * ((f_B_readByte ((r 4) + (2 : Int32)) ((f_B_readByte ((r 4) + (1 : Int32)) k M D).2) M D).1))) (upd r 9 ((f_B_readByte ((r 4) + (1 : Int32)) k M D).1)) ((f_B_readByte ((r 4) + (2 : Int32)) ((f_B_readByte ((r 4) + (1 : Int32)) k M D).2) M D).2) M D)]) (rest := [.ref q0]) ⟨hx, hb, hml, hown, htB⟩ (c_P_address l dC dI z0  H.size (f_P_place p1 (((f_B_readByte ((r 4) + (1 : Int32)) k M D).1) + ((256 : Int32) * ((f_B_readByte ((r 4) + (2 : Int32)) ((f_B_readByte ((r 4) + (1 : Int32)) k M D).2) M D).1))) (upd r 9 ((f_B_readByte ((r 4) + (1 : Int32)) k M D).1)) ((f_B_readByte ((r 4) + (2 : Int32)) ((f_B_readByte ((r 4) + (1 : Int32)) k M D).2) M D).2) M D)) (cwS 1 htB (gd_S mw_300 mw_301 mw_2 mw_302) rfl rfl rfl (by decide +kernel) ⟨Nat.le_of_ble_eq_true rfl, Nat.le_of_ble_eq_true rfl⟩) (pcx_S hPc hKc hDc hA0 hE hS) rfl rfl hl.1 rfl (lv_room (Nat.le_of_ble_eq_true rfl)) d_P_fetch_73 ⟨Nat.zero_le _, Nat.zero_le _⟩) hS (fun q _ h => hFc q h) hFc (fun r9 u t H1 locs ht hvm hw hB hz1 hk1 hS => ?_)
      subst hw
      obtain ⟨hP1, hK1, hD1⟩ := hB
      rw [ht] at hP1
      obtain ⟨hP, hD⟩ := va_join (wr := [c_P q0 q1 (upd r 9 ((f_B_readByte ((r 4) + (1 : Int32)) k M D).1)), c_B q1 q2 q3 ((f_B_readByte ((r 4) + (2 : Int32)) ((f_B_readByte ((r 4) + (1 : Int32)) k M D).2) M D).2), c_A q2 cM 1024 M, c_A q3 cD 256 D]) (w1 := []) hP hD [] [0, 1, 2, 3] rfl rfl (by decide) (by decide) hk1 hFc hP1 hD1
      generalize H1 = H at hP hS ⊢
      have hP : va_P (dC, dI) classes [c_P q0 q1 (upd r 9 ((f_B_readByte ((r 4) + (1 : Int32)) k M D).1)), c_B q1 q2 q3 ((f_B_readByte ((r 4) + (2 : Int32)) ((f_B_readByte ((r 4) + (1 : Int32)) k M D).2) M D).2), c_A q2 cM 1024 M, c_A q3 cD 256 D] H := hP.sub [0, 1, 2, 3] rfl
      have hD : va_D A [c_P q0 q1 (upd r 9 ((f_B_readByte ((r 4) + (1 : Int32)) k M D).1)), c_B q1 q2 q3 ((f_B_readByte ((r 4) + (2 : Int32)) ((f_B_readByte ((r 4) + (1 : Int32)) k M D).2) M D).2), c_A q2 cM 1024 M, c_A q3 cD 256 D] := hD.sub [0, 1, 2, 3] (by decide) rfl
      refine va_put (D := (dC, dI)) (ci := 1) (v := .int (f_P_address (f_P_place p1 (((f_B_readByte ((r 4) + (1 : Int32)) k M D).1) + ((256 : Int32) * ((f_B_readByte ((r 4) + (2 : Int32)) ((f_B_readByte ((r 4) + (1 : Int32)) k M D).2) M D).1))) (upd r 9 ((f_B_readByte ((r 4) + (1 : Int32)) k M D).1)) ((f_B_readByte ((r 4) + (2 : Int32)) ((f_B_readByte ((r 4) + (1 : Int32)) k M D).2) M D).2) M D))) (ty := .int) (C := R_P) (T := F_P) (N := 13) hx hb htB i_P t_P t_P_ok n_P hown hK hP hD hS 0 rfl rfl 11 (by decide) (htB _ mw_70) (fun _ h9 => h9) rfl (by decide +kernel) rfl rfl (Nat.le_of_ble_eq_true rfl) d_P_fetch_76 (fun H locs hP hD hS => ?_)
      have hP : va_P (dC, dI) classes [c_P q0 q1 (upd (upd r 9 ((f_B_readByte ((r 4) + (1 : Int32)) k M D).1)) 10 (f_P_address (f_P_place p1 (((f_B_readByte ((r 4) + (1 : Int32)) k M D).1) + ((256 : Int32) * ((f_B_readByte ((r 4) + (2 : Int32)) ((f_B_readByte ((r 4) + (1 : Int32)) k M D).2) M D).1))) (upd r 9 ((f_B_readByte ((r 4) + (1 : Int32)) k M D).1)) ((f_B_readByte ((r 4) + (2 : Int32)) ((f_B_readByte ((r 4) + (1 : Int32)) k M D).2) M D).2) M D))), c_B q1 q2 q3 ((f_B_readByte ((r 4) + (2 : Int32)) ((f_B_readByte ((r 4) + (1 : Int32)) k M D).2) M D).2), c_A q2 cM 1024 M, c_A q3 cD 256 D] H := hP
      have hD : va_D A [c_P q0 q1 (upd (upd r 9 ((f_B_readByte ((r 4) + (1 : Int32)) k M D).1)) 10 (f_P_address (f_P_place p1 (((f_B_readByte ((r 4) + (1 : Int32)) k M D).1) + ((256 : Int32) * ((f_B_readByte ((r 4) + (2 : Int32)) ((f_B_readByte ((r 4) + (1 : Int32)) k M D).2) M D).1))) (upd r 9 ((f_B_readByte ((r 4) + (1 : Int32)) k M D).1)) ((f_B_readByte ((r 4) + (2 : Int32)) ((f_B_readByte ((r 4) + (1 : Int32)) k M D).2) M D).2) M D))), c_B q1 q2 q3 ((f_B_readByte ((r 4) + (2 : Int32)) ((f_B_readByte ((r 4) + (1 : Int32)) k M D).2) M D).2), c_A q2 cM 1024 M, c_A q3 cD 256 D] := hD
      refine lv_aload_n hx hb d_P_fetch_79 rfl (lv_at hl 2 rfl) ?_
      refine lv_aload_n hx hb d_P_fetch_80 rfl (lv_at hl 2 rfl) ?_
      refine va_get (D := (dC, dI)) (ci := 1) (v := .int (r 4)) (C := R_P) (T := F_P) (N := 13) hx hb htB i_P hown hK hP 0 rfl rfl 5 (by decide) (htB _ mw_63) (fun _ h9 => h9) rfl d_P_fetch_81 ?_
      refine lv_iconst (v := 1) hx hb d_P_fetch_84 (by decide) ?_
      refine lv_iadd hx hb d_P_fetch_85 ?_
      refine lv_iload_n hx hb d_P_fetch_86 rfl (lv_at hl 1 rfl) ?_
      refine lv_iadd hx hb d_P_fetch_87 ?_
      have hPc := hP.sub (ws' := []) [] rfl
      have hDc := hD.sub (ws' := []) [] (by decide) rfl
      have hKc := hK.sub (tys' := []) [] rfl
      have hFc := va_free (wc := []) hD hS hA [] rfl
      refine va_calli (va_runS (As := [.int (((r 4) + (1 : Int32)) + (f_P_bytesBehind p1))]) (rest := [.ref q0]) ⟨hx, hb, hml, hown, htB⟩ (c_P_address l dC dI z0  H.size (((r 4) + (1 : Int32)) + (f_P_bytesBehind p1))) (cwS 1 htB (gd_S mw_300 mw_301 mw_2 mw_302) rfl rfl rfl (by decide +kernel) ⟨Nat.le_of_ble_eq_true rfl, Nat.le_of_ble_eq_true rfl⟩) (pcx_S hPc hKc hDc hA0 hE hS) rfl rfl hl.1 rfl (lv_room (Nat.le_of_ble_eq_true rfl)) d_P_fetch_88 ⟨Nat.zero_le _, Nat.zero_le _⟩) hS (fun q _ h => hFc q h) hFc (fun r9 u t H1 locs ht hvm hw hB hz1 hk1 hS => ?_)
      subst hw
      obtain ⟨hP1, hK1, hD1⟩ := hB
      rw [ht] at hP1
      obtain ⟨hP, hD⟩ := va_join (wr := [c_P q0 q1 (upd (upd r 9 ((f_B_readByte ((r 4) + (1 : Int32)) k M D).1)) 10 (f_P_address (f_P_place p1 (((f_B_readByte ((r 4) + (1 : Int32)) k M D).1) + ((256 : Int32) * ((f_B_readByte ((r 4) + (2 : Int32)) ((f_B_readByte ((r 4) + (1 : Int32)) k M D).2) M D).1))) (upd r 9 ((f_B_readByte ((r 4) + (1 : Int32)) k M D).1)) ((f_B_readByte ((r 4) + (2 : Int32)) ((f_B_readByte ((r 4) + (1 : Int32)) k M D).2) M D).2) M D))), c_B q1 q2 q3 ((f_B_readByte ((r 4) + (2 : Int32)) ((f_B_readByte ((r 4) + (1 : Int32)) k M D).2) M D).2), c_A q2 cM 1024 M, c_A q3 cD 256 D]) (w1 := []) hP hD [] [0, 1, 2, 3] rfl rfl (by decide) (by decide) hk1 hFc hP1 hD1
      generalize H1 = H at hP hS ⊢
      have hP : va_P (dC, dI) classes [c_P q0 q1 (upd (upd r 9 ((f_B_readByte ((r 4) + (1 : Int32)) k M D).1)) 10 (f_P_address (f_P_place p1 (((f_B_readByte ((r 4) + (1 : Int32)) k M D).1) + ((256 : Int32) * ((f_B_readByte ((r 4) + (2 : Int32)) ((f_B_readByte ((r 4) + (1 : Int32)) k M D).2) M D).1))) (upd r 9 ((f_B_readByte ((r 4) + (1 : Int32)) k M D).1)) ((f_B_readByte ((r 4) + (2 : Int32)) ((f_B_readByte ((r 4) + (1 : Int32)) k M D).2) M D).2) M D))), c_B q1 q2 q3 ((f_B_readByte ((r 4) + (2 : Int32)) ((f_B_readByte ((r 4) + (1 : Int32)) k M D).2) M D).2), c_A q2 cM 1024 M, c_A q3 cD 256 D] H := hP.sub [0, 1, 2, 3] rfl
      have hD : va_D A [c_P q0 q1 (upd (upd r 9 ((f_B_readByte ((r 4) + (1 : Int32)) k M D).1)) 10 (f_P_address (f_P_place p1 (((f_B_readByte ((r 4) + (1 : Int32)) k M D).1) + ((256 : Int32) * ((f_B_readByte ((r 4) + (2 : Int32)) ((f_B_readByte ((r 4) + (1 : Int32)) k M D).2) M D).1))) (upd r 9 ((f_B_readByte ((r 4) + (1 : Int32)) k M D).1)) ((f_B_readByte ((r 4) + (2 : Int32)) ((f_B_readByte ((r 4) + (1 : Int32)) k M D).2) M D).2) M D))), c_B q1 q2 q3 ((f_B_readByte ((r 4) + (2 : Int32)) ((f_B_readByte ((r 4) + (1 : Int32)) k M D).2) M D).2), c_A q2 cM 1024 M, c_A q3 cD 256 D] := hD.sub [0, 1, 2, 3] (by decide) rfl
      refine va_put (D := (dC, dI)) (ci := 1) (v := .int (f_P_address (((r 4) + (1 : Int32)) + (f_P_bytesBehind p1)))) (ty := .int) (C := R_P) (T := F_P) (N := 13) hx hb htB i_P t_P t_P_ok n_P hown hK hP hD hS 0 rfl rfl 12 (by decide) (htB _ mw_71) (fun _ h9 => h9) rfl (by decide +kernel) rfl rfl (Nat.le_of_ble_eq_true rfl) d_P_fetch_91 (fun H locs hP hD hS => ?_)
      have hP : va_P (dC, dI) classes [c_P q0 q1 (upd (upd (upd r 9 ((f_B_readByte ((r 4) + (1 : Int32)) k M D).1)) 10 (f_P_address (f_P_place p1 (((f_B_readByte ((r 4) + (1 : Int32)) k M D).1) + ((256 : Int32) * ((f_B_readByte ((r 4) + (2 : Int32)) ((f_B_readByte ((r 4) + (1 : Int32)) k M D).2) M D).1))) (upd r 9 ((f_B_readByte ((r 4) + (1 : Int32)) k M D).1)) ((f_B_readByte ((r 4) + (2 : Int32)) ((f_B_readByte ((r 4) + (1 : Int32)) k M D).2) M D).2) M D))) 11 (f_P_address (((r 4) + (1 : Int32)) + (f_P_bytesBehind p1)))), c_B q1 q2 q3 ((f_B_readByte ((r 4) + (2 : Int32)) ((f_B_readByte ((r 4) + (1 : Int32)) k M D).2) M D).2), c_A q2 cM 1024 M, c_A q3 cD 256 D] H := hP
      have hD : va_D A [c_P q0 q1 (upd (upd (upd r 9 ((f_B_readByte ((r 4) + (1 : Int32)) k M D).1)) 10 (f_P_address (f_P_place p1 (((f_B_readByte ((r 4) + (1 : Int32)) k M D).1) + ((256 : Int32) * ((f_B_readByte ((r 4) + (2 : Int32)) ((f_B_readByte ((r 4) + (1 : Int32)) k M D).2) M D).1))) (upd r 9 ((f_B_readByte ((r 4) + (1 : Int32)) k M D).1)) ((f_B_readByte ((r 4) + (2 : Int32)) ((f_B_readByte ((r 4) + (1 : Int32)) k M D).2) M D).2) M D))) 11 (f_P_address (((r 4) + (1 : Int32)) + (f_P_bytesBehind p1)))), c_B q1 q2 q3 ((f_B_readByte ((r 4) + (2 : Int32)) ((f_B_readByte ((r 4) + (1 : Int32)) k M D).2) M D).2), c_A q2 cM 1024 M, c_A q3 cD 256 D] := hD
      have hf : f_P_fetch p1 r k M D = ((upd (upd (upd r 9 ((f_B_readByte ((r 4) + (1 : Int32)) k M D).1)) 10 (f_P_address (f_P_place p1 (((f_B_readByte ((r 4) + (1 : Int32)) k M D).1) + ((256 : Int32) * ((f_B_readByte ((r 4) + (2 : Int32)) ((f_B_readByte ((r 4) + (1 : Int32)) k M D).2) M D).1))) (upd r 9 ((f_B_readByte ((r 4) + (1 : Int32)) k M D).1)) ((f_B_readByte ((r 4) + (2 : Int32)) ((f_B_readByte ((r 4) + (1 : Int32)) k M D).2) M D).2) M D))) 11 (f_P_address (((r 4) + (1 : Int32)) + (f_P_bytesBehind p1)))), (f_B_readByte ((r 4) + (2 : Int32)) ((f_B_readByte ((r 4) + (1 : Int32)) k M D).2) M D).2) := by rw [f_P_fetch, if_neg c_1, if_neg c_2]
      exact W.vret hx hb hr (fun t ht hW => ⟨⟨(), rfl, trivial, by rw [hf]; exact ⟨by rw [ht]; exact hP, va_K.moved hW.alike hK, hD⟩⟩, hS.F ht⟩) hS.2.2 d_P_fetch_94

theorem fetch_sn {p1 : Int32} {r k M D : Nat → Int32} (h : sn_ok k) : sn_ok (f_P_fetch p1 r k M D).2 := by
  unfold f_P_fetch
  repeat' split
  all_goals first | exact h | exact rb_sn (D := D) h | exact rb_sn (D := D) (rb_sn (D := D) h)

def f_P_operand (p1 : Int32) (r k M D : Nat → Int32) : Int32 × (Nat → Int32) :=
  if p1 = (2 : Int32) then
    ((r 9), k)
  else
    if p1 = (9 : Int32) then
      ((r 0), k)
    else
      ((f_B_readByte (r 10) k M D).1, (f_B_readByte (r 10) k M D).2)
abbrev Q_P_operand (dC : Nat → ClassId) (dI : Nat → Nat → Nat) (q0 : Nat) (q1 : Nat) (q2 : Nat) (q3 : Nat) (cM : ClassId) (cD : ClassId) (p1 : Int32) (r k M D : Nat → Int32) (A : Nat → Prop) : Array Value → State → Outcome → State → Prop := va_Qi (fun (r9 : Int32) (_ : Unit) => r9 = (f_P_operand p1 r k M D).1) (fun _ t => atW (dC, dI) classes A [c_P q0 q1 r, c_B q1 q2 q3 ((f_P_operand p1 r k M D).2), c_A q2 cM 1024 M, c_A q3 cD 256 D] [(cM, .int), (cD, .int)] t) A
set_option maxHeartbeats 4000000 in
set_option maxRecDepth 100000 in
theorem c_P_operand (l : Launch) (dC : Nat → ClassId) (dI : Nat → Nat → Nat) (z0 : Nat) (q0 : Nat) (q1 : Nat) (q2 : Nat) (q3 : Nat) (cM : ClassId) (cD : ClassId) (sz : Nat) (p1 : Int32) (r k M D : Nat → Int32)  : Met l y_P_operand w_P_operand ({ frames := 1, cells := 0, slots := 0, locals := 23 }) (PcX (dC, dI) classes z0 [c_P q0 q1 r, c_B q1 q2 q3 k, c_A q2 cM 1024 M, c_A q3 cD 256 D] [(cM, .int), (cD, .int)] sz [.ref q0, .int p1]) (Q_P_operand dC dI q0 q1 q2 q3 cM cD p1 r k M D (va_A [c_P q0 q1 r, c_B q1 q2 q3 k, c_A q2 cM 1024 M, c_A q3 cD 256 D] sz)) 0 0 (va_A [c_P q0 q1 r, c_B q1 q2 q3 k, c_A q2 cM 1024 M, c_A q3 cD 256 D] sz) := by
  refine hdX (cc := b_P_operand) (maxL := 2) (ret := (some .int)) (C := R_P) (Qc := (Q_P_operand dC dI q0 q1 q2 q3 cM cD p1 r k M D)) (by decide) rfl ?_
  intro p e s m below meth c A H hx hb hr hlocks hml hown hin htB hP hK hD hA hA0 hE hS
  have hl := lv_entry ([.ref q0, .int p1]) (n := 2) (Nat.le_of_ble_eq_true rfl)
  rw [lg_entry_eq]
  generalize (lg_sl ([.ref q0, .int p1]) ++ List.replicate (2 - (lg_sl ([.ref q0, .int p1])).length) Slot.unset).toArray = ls at hl ⊢
  have hl : lv_has ls 2 [(0, .ref q0), (1, .int p1)] := hl
  refine lv_iload_n hx hb d_P_operand_0 rfl (lv_at hl 1 rfl) ?_
  refine lv_iconst (v := 2) hx hb d_P_operand_1 (by decide) ?_
  refine lv_icmp_ne (tgt := 10) hx hb d_P_operand_2 (by decide) (fun c_1 => ?_) (fun c_1 => ?_)
  · refine lv_iload_n hx hb d_P_operand_10 rfl (lv_at hl 1 rfl) ?_
    refine lv_bipush (v := 9) hx hb d_P_operand_11 (by decide) ?_
    refine lv_icmp_ne (tgt := 21) hx hb d_P_operand_13 (by decide) (fun c_2 => ?_) (fun c_2 => ?_)
    · refine lv_aload_n hx hb d_P_operand_21 rfl (lv_at hl 0 rfl) ?_
      refine va_get (D := (dC, dI)) (ci := 1) (v := .ref q1) (C := R_P) (T := F_P) (N := 13) hx hb htB i_P hown hK hP 0 rfl rfl 0 (by decide) (htB _ mw_57) (fun _ h9 => h9) rfl d_P_operand_22 ?_
      refine lv_aload_n hx hb d_P_operand_25 rfl (lv_at hl 0 rfl) ?_
      refine va_get (D := (dC, dI)) (ci := 1) (v := .int (r 10)) (C := R_P) (T := F_P) (N := 13) hx hb htB i_P hown hK hP 0 rfl rfl 11 (by decide) (htB _ mw_70) (fun _ h9 => h9) rfl d_P_operand_26 ?_
      have hPc := hP.sub (ws' := [c_B q1 q2 q3 k, c_A q2 cM 1024 M, c_A q3 cD 256 D]) [1, 2, 3] rfl
      have hDc := hD.sub (ws' := [c_B q1 q2 q3 k, c_A q2 cM 1024 M, c_A q3 cD 256 D]) [1, 2, 3] (by decide) rfl
      have hKc := hK.sub (tys' := [(cM, .int), (cD, .int)]) [0, 1] rfl
      have hFc := va_free (wc := [c_B q1 q2 q3 k, c_A q2 cM 1024 M, c_A q3 cD 256 D]) hD hS hA [1, 2, 3] rfl
      refine va_calli (va_runVN (As := [.int (r 10)]) (rest := []) ⟨hx, hb, hml, hown, htB⟩ (c_B_readByte l dC dI z0 q1 q2 q3 cM cD H.size (r 10) k M D) ⟨va_cnB 1 htB (gd_c mw_277) rfl rfl rfl (hE.2.1 _ ew_274) (htB _ mw_3) (by decide +kernel) ⟨Nat.le_of_ble_eq_true rfl, Nat.le_of_ble_eq_true rfl⟩, htB _ mw_276, htB _ sw_B_readByte⟩ (pcx_V (va_recv hKc hPc (ci := 2) (q0 := 0) rfl rfl) hPc hKc hDc hA0 hE hS) rfl rfl hl.1 rfl (lv_room (Nat.le_of_ble_eq_true rfl)) d_P_operand_29 ⟨Nat.zero_le _, Nat.zero_le _⟩) hS (fun q _ h => hFc q h) hFc (fun r9 u t H1 locs ht hvm hw hB hz1 hk1 hS => ?_)
      subst hw
      obtain ⟨hP1, hK1, hD1⟩ := hB
      rw [ht] at hP1
      obtain ⟨hP, hD⟩ := va_join (wr := [c_P q0 q1 r]) (w1 := [c_B q1 q2 q3 ((f_B_readByte (r 10) k M D).2), c_A q2 cM 1024 M, c_A q3 cD 256 D]) hP hD [1, 2, 3] [0] rfl rfl (by decide) (by decide) hk1 hFc hP1 hD1
      generalize H1 = H at hP hS ⊢
      have hP : va_P (dC, dI) classes [c_P q0 q1 r, c_B q1 q2 q3 ((f_B_readByte (r 10) k M D).2), c_A q2 cM 1024 M, c_A q3 cD 256 D] H := hP.sub [0, 1, 2, 3] rfl
      have hD : va_D A [c_P q0 q1 r, c_B q1 q2 q3 ((f_B_readByte (r 10) k M D).2), c_A q2 cM 1024 M, c_A q3 cD 256 D] := hD.sub [0, 1, 2, 3] (by decide) rfl
      have hf : f_P_operand p1 r k M D = ((f_B_readByte (r 10) k M D).1, (f_B_readByte (r 10) k M D).2) := by rw [f_P_operand, if_neg c_1, if_neg c_2]
      exact W.iret (v := (f_B_readByte (r 10) k M D).1) hx hb hr (fun t ht hW => ⟨⟨(f_B_readByte (r 10) k M D).1, (), rfl, (congrArg (fun z => z.1) hf).symm, by rw [hf]; exact ⟨by rw [ht]; exact hP, va_K.moved hW.alike hK, hD⟩⟩, hS.F ht⟩) hS.2.2 d_P_operand_32
    · refine lv_aload_n hx hb d_P_operand_16 rfl (lv_at hl 0 rfl) ?_
      refine va_get (D := (dC, dI)) (ci := 1) (v := .int (r 0)) (C := R_P) (T := F_P) (N := 13) hx hb htB i_P hown hK hP 0 rfl rfl 1 (by decide) (htB _ mw_59) (fun _ h9 => h9) rfl d_P_operand_17 ?_
      have hf : f_P_operand p1 r k M D = ((r 0), k) := by rw [f_P_operand, if_neg c_1, if_pos c_2]
      exact W.iret (v := (r 0)) hx hb hr (fun t ht hW => ⟨⟨(r 0), (), rfl, (congrArg (fun z => z.1) hf).symm, by rw [hf]; exact ⟨by rw [ht]; exact hP, va_K.moved hW.alike hK, hD⟩⟩, hS.F ht⟩) hS.2.2 d_P_operand_20
  · refine lv_aload_n hx hb d_P_operand_5 rfl (lv_at hl 0 rfl) ?_
    refine va_get (D := (dC, dI)) (ci := 1) (v := .int (r 9)) (C := R_P) (T := F_P) (N := 13) hx hb htB i_P hown hK hP 0 rfl rfl 10 (by decide) (htB _ mw_69) (fun _ h9 => h9) rfl d_P_operand_6 ?_
    have hf : f_P_operand p1 r k M D = ((r 9), k) := by rw [f_P_operand, if_pos c_1]
    exact W.iret (v := (r 9)) hx hb hr (fun t ht hW => ⟨⟨(r 9), (), rfl, (congrArg (fun z => z.1) hf).symm, by rw [hf]; exact ⟨by rw [ht]; exact hP, va_K.moved hW.alike hK, hD⟩⟩, hS.F ht⟩) hS.2.2 d_P_operand_9

theorem operand_sn {p1 : Int32} {r k M D : Nat → Int32} (h : sn_ok k) : sn_ok (f_P_operand p1 r k M D).2 := by
  unfold f_P_operand
  repeat' split
  all_goals first | exact h | exact rb_sn (D := D) h
