def f_X_put (p1 : Int32) (p2 : Int32) (ku m3 : Nat → Int32) : Int32 × (Nat → Int32) × (Nat → Int32) :=
  if (f_X_in p1 (0 : Int32) (5 : Int32)) = (0 : Int32) then
    ((0 : Int32), (f_X_good (0 : Int32) (1 : Int32) ku).2, m3)
  else
    if p1 = (4 : Int32) then
      if (f_X_in p2 (0 : Int32) (1023 : Int32)) = (0 : Int32) then
        ((0 : Int32), (f_X_good (0 : Int32) (1 : Int32) ku).2, m3)
      else
        if p1 = (5 : Int32) then
          ((f_X_status ((f_X_good (1 : Int32) (1 : Int32) ku).2) m3), (f_X_good (1 : Int32) (1 : Int32) ku).2, (f_X_setStatus p2 ((f_X_good (1 : Int32) (1 : Int32) ku).2) m3))
        else
          ((m3 p1.toNatClampNeg), (f_X_good (1 : Int32) (1 : Int32) ku).2, (upd m3 p1.toNatClampNeg p2))
    else
      if (f_X_in p2 (0 : Int32) (255 : Int32)) = (0 : Int32) then
        ((0 : Int32), (f_X_good (0 : Int32) (1 : Int32) ku).2, m3)
      else
        if p1 = (5 : Int32) then
          ((f_X_status ((f_X_good (1 : Int32) (1 : Int32) ku).2) m3), (f_X_good (1 : Int32) (1 : Int32) ku).2, (f_X_setStatus p2 ((f_X_good (1 : Int32) (1 : Int32) ku).2) m3))
        else
          ((m3 p1.toNatClampNeg), (f_X_good (1 : Int32) (1 : Int32) ku).2, (upd m3 p1.toNatClampNeg p2))
abbrev Q_X_put (dC : Nat → ClassId) (dI : Nat → Nat → Nat) (x0 : Nat) (x1 : Nat) (x2 : Nat) (x3 : Nat) (x4 : Nat) (c3 : ClassId) (p1 : Int32) (p2 : Int32) (ku m3 : Nat → Int32) (A : Nat → Prop) : Array Value → State → Outcome → State → Prop := va_Qi (fun (r9 : Int32) (_ : Unit) => r9 = (f_X_put p1 p2 ku m3).1) (fun _ t => atW (dC, dI) classes A [c_X x0 x1 x2 x3 x4 ((f_X_put p1 p2 ku m3).2.1), c_A x3 c3 9 ((f_X_put p1 p2 ku m3).2.2)] [(c3, .int)] t) A
set_option maxHeartbeats 4000000 in
set_option maxRecDepth 100000 in
theorem c_X_put (l : Launch) (dC : Nat → ClassId) (dI : Nat → Nat → Nat) (z0 : Nat) (x0 : Nat) (x1 : Nat) (x2 : Nat) (x3 : Nat) (x4 : Nat) (c3 : ClassId) (sz : Nat) (p1 : Int32) (p2 : Int32) (ku m3 : Nat → Int32)  : Met l y_X_put w_X_put ({ frames := 1, cells := 0, slots := 0, locals := 22 }) (PcX (dC, dI) classes z0 [c_X x0 x1 x2 x3 x4 ku, c_A x3 c3 9 m3] [(c3, .int)] sz [.ref x0, .int p1, .int p2]) (Q_X_put dC dI x0 x1 x2 x3 x4 c3 p1 p2 ku m3 (va_A [c_X x0 x1 x2 x3 x4 ku, c_A x3 c3 9 m3] sz)) 0 0 (va_A [c_X x0 x1 x2 x3 x4 ku, c_A x3 c3 9 m3] sz) := by
  refine hdX (cc := b_X_put) (maxL := 4) (ret := (some .int)) (C := R_X) (Qc := (Q_X_put dC dI x0 x1 x2 x3 x4 c3 p1 p2 ku m3)) (by decide) rfl ?_
  intro p e s m below meth c A H hx hb hr hlocks hml hown hin htB hP hK hD hA hA0 hE hS
  have hl := lv_entry ([.ref x0, .int p1, .int p2]) (n := 4) (Nat.le_of_ble_eq_true rfl)
  rw [lg_entry_eq]
  generalize (lg_sl ([.ref x0, .int p1, .int p2]) ++ List.replicate (4 - (lg_sl ([.ref x0, .int p1, .int p2])).length) Slot.unset).toArray = ls at hl ⊢
  have hl : lv_has ls 4 [(0, .ref x0), (1, .int p1), (2, .int p2)] := hl
  refine lv_aload_n hx hb d_X_put_0 rfl (lv_at hl 0 rfl) ?_
  refine lv_iload_n hx hb d_X_put_1 rfl (lv_at hl 1 rfl) ?_
  refine lv_iconst (v := 0) hx hb d_X_put_2 (by decide) ?_
  refine lv_iconst (v := 5) hx hb d_X_put_3 (by decide) ?_
  have hPc := hP.sub (ws' := []) [] rfl
  have hDc := hD.sub (ws' := []) [] (by decide) rfl
  have hKc := hK.sub (tys' := []) [] rfl
  have hFc := va_free (wc := []) hD hS hA [] rfl
  refine va_calli (va_runS (As := [.int p1, .int (0 : Int32), .int (5 : Int32)]) (rest := [.ref x0]) ⟨hx, hb, hml, hown, htB⟩ (c_X_in l dC dI z0  H.size p1 (0 : Int32) (5 : Int32)) (cwS 3 htB (gd_S mw_509 mw_510 mw_4 mw_511) rfl rfl rfl (by decide +kernel) ⟨Nat.le_of_ble_eq_true rfl, Nat.le_of_ble_eq_true rfl⟩) (pcx_S hPc hKc hDc hA0 hE hS) rfl rfl hl.1 rfl (lv_room (Nat.le_of_ble_eq_true rfl)) d_X_put_4 ⟨Nat.zero_le _, Nat.zero_le _⟩) hS (fun q _ h => hFc q h) hFc (fun r9 u t H1 locs ht hvm hw hB hz1 hk1 hS => ?_)
  subst hw
  obtain ⟨hP1, hK1, hD1⟩ := hB
  rw [ht] at hP1
  obtain ⟨hP, hD⟩ := va_join (wr := [c_X x0 x1 x2 x3 x4 ku, c_A x3 c3 9 m3]) (w1 := []) hP hD [] [0, 1] rfl rfl (by decide) (by decide) hk1 hFc hP1 hD1
  generalize H1 = H at hP hS ⊢
  have hP : va_P (dC, dI) classes [c_X x0 x1 x2 x3 x4 ku, c_A x3 c3 9 m3] H := hP.sub [0, 1] rfl
  have hD : va_D A [c_X x0 x1 x2 x3 x4 ku, c_A x3 c3 9 m3] := hD.sub [0, 1] (by decide) rfl
  refine lv_if_eq (tgt := 36) hx hb d_X_put_7 (by decide) (fun c_1 => ?_) (fun c_1 => ?_)
  · refine lv_iconst (v := 0) hx hb d_X_put_36 (by decide) ?_
    refine lv_iconst (v := 1) hx hb d_X_put_37 (by decide) ?_
    have hPc := hP.sub (ws' := [c_X x0 x1 x2 x3 x4 ku]) [0] rfl
    have hDc := hD.sub (ws' := [c_X x0 x1 x2 x3 x4 ku]) [0] (by decide) rfl
    have hKc := hK.sub (tys' := []) [] rfl
    have hFc := va_free (wc := [c_X x0 x1 x2 x3 x4 ku]) hD hS hA [0] rfl
    refine va_calli (va_runV (As := [.int (0 : Int32), .int (1 : Int32)]) (rest := []) ⟨hx, hb, hml, hown, htB⟩ (c_X_good l dC dI z0 x0 x1 x2 x3 x4 H.size (0 : Int32) (1 : Int32) ku (Or.inl rfl)) (cwV 2 htB (gd_V mw_512 mw_514 sw_X_good mw_4 mw_515) rfl rfl rfl (by decide +kernel) ⟨Nat.le_of_ble_eq_true rfl, Nat.le_of_ble_eq_true rfl⟩) (pcx_V (va_recv hKc hPc (ci := 3) (q0 := 0) rfl rfl) hPc hKc hDc hA0 hE hS) rfl rfl hl.1 rfl (lv_room (Nat.le_of_ble_eq_true rfl)) d_X_put_38 ⟨Nat.zero_le _, Nat.zero_le _⟩) hS (fun q _ h => hFc q h) hFc (fun r9 u t H1 locs ht hvm hw hB hz1 hk1 hS => ?_)
    subst hw
    obtain ⟨hP1, hK1, hD1⟩ := hB
    rw [ht] at hP1
    obtain ⟨hP, hD⟩ := va_join (wr := [c_A x3 c3 9 m3]) (w1 := [c_X x0 x1 x2 x3 x4 ((f_X_good (0 : Int32) (1 : Int32) ku).2)]) hP hD [0] [1] rfl rfl (by decide) (by decide) hk1 hFc hP1 hD1
    generalize H1 = H at hP hS ⊢
    have hP : va_P (dC, dI) classes [c_X x0 x1 x2 x3 x4 ((f_X_good (0 : Int32) (1 : Int32) ku).2), c_A x3 c3 9 m3] H := hP.sub [1, 0] rfl
    have hD : va_D A [c_X x0 x1 x2 x3 x4 ((f_X_good (0 : Int32) (1 : Int32) ku).2), c_A x3 c3 9 m3] := hD.sub [1, 0] (by decide) rfl
    rw [good_ret]
    refine lv_if_ne (tgt := 46) hx hb d_X_put_41 (by decide) (fun c9 => absurd (show (0 : Int32) = (0 : Int32) from by decide) c9) (fun _ => ?_)
    refine lv_iconst (v := 0) hx hb d_X_put_44 (by decide) ?_
    have hf : f_X_put p1 p2 ku m3 = ((0 : Int32), (f_X_good (0 : Int32) (1 : Int32) ku).2, m3) := by rw [f_X_put, if_pos c_1]
    exact W.iret (v := (0 : Int32)) hx hb hr (fun t ht hW => ⟨⟨(0 : Int32), (), rfl, (congrArg (fun z => z.1) hf).symm, by rw [hf]; exact ⟨by rw [ht]; exact hP, va_K.moved hW.alike hK, hD⟩⟩, hS.F ht⟩) hS.2.2 d_X_put_45
  · refine lv_iload_n hx hb d_X_put_10 rfl (lv_at hl 2 rfl) ?_
    refine lv_iconst (v := 0) hx hb d_X_put_11 (by decide) ?_
    refine lv_iload_n hx hb d_X_put_12 rfl (lv_at hl 1 rfl) ?_
    refine lv_iconst (v := 4) hx hb d_X_put_13 (by decide) ?_
    refine lv_icmp_ne (tgt := 23) hx hb d_X_put_14 (by decide) (fun c_2 => ?_) (fun c_2 => ?_)
    · refine lv_sipush (v := 255) hx hb d_X_put_23 (by decide) ?_
      have hPc := hP.sub (ws' := []) [] rfl
      have hDc := hD.sub (ws' := []) [] (by decide) rfl
      have hKc := hK.sub (tys' := []) [] rfl
      have hFc := va_free (wc := []) hD hS hA [] rfl
      refine va_calli (va_runS (As := [.int p2, .int (0 : Int32), .int (255 : Int32)]) (rest := [.ref x0]) ⟨hx, hb, hml, hown, htB⟩ (c_X_in l dC dI z0  H.size p2 (0 : Int32) (255 : Int32)) (cwS 3 htB (gd_S mw_509 mw_510 mw_4 mw_511) rfl rfl rfl (by decide +kernel) ⟨Nat.le_of_ble_eq_true rfl, Nat.le_of_ble_eq_true rfl⟩) (pcx_S hPc hKc hDc hA0 hE hS) rfl rfl hl.1 rfl (lv_room (Nat.le_of_ble_eq_true rfl)) d_X_put_26 ⟨Nat.zero_le _, Nat.zero_le _⟩) hS (fun q _ h => hFc q h) hFc (fun r9 u t H1 locs ht hvm hw hB hz1 hk1 hS => ?_)
      subst hw
      obtain ⟨hP1, hK1, hD1⟩ := hB
      rw [ht] at hP1
      obtain ⟨hP, hD⟩ := va_join (wr := [c_X x0 x1 x2 x3 x4 ku, c_A x3 c3 9 m3]) (w1 := []) hP hD [] [0, 1] rfl rfl (by decide) (by decide) hk1 hFc hP1 hD1
      generalize H1 = H at hP hS ⊢
      have hP : va_P (dC, dI) classes [c_X x0 x1 x2 x3 x4 ku, c_A x3 c3 9 m3] H := hP.sub [0, 1] rfl
      have hD : va_D A [c_X x0 x1 x2 x3 x4 ku, c_A x3 c3 9 m3] := hD.sub [0, 1] (by decide) rfl
      refine lv_if_eq (tgt := 36) hx hb d_X_put_29 (by decide) (fun c_3 => ?_) (fun c_3 => ?_)
      · refine lv_iconst (v := 0) hx hb d_X_put_36 (by decide) ?_
        refine lv_iconst (v := 1) hx hb d_X_put_37 (by decide) ?_
        have hPc := hP.sub (ws' := [c_X x0 x1 x2 x3 x4 ku]) [0] rfl
        have hDc := hD.sub (ws' := [c_X x0 x1 x2 x3 x4 ku]) [0] (by decide) rfl
        have hKc := hK.sub (tys' := []) [] rfl
        have hFc := va_free (wc := [c_X x0 x1 x2 x3 x4 ku]) hD hS hA [0] rfl
        refine va_calli (va_runV (As := [.int (0 : Int32), .int (1 : Int32)]) (rest := []) ⟨hx, hb, hml, hown, htB⟩ (c_X_good l dC dI z0 x0 x1 x2 x3 x4 H.size (0 : Int32) (1 : Int32) ku (Or.inl rfl)) (cwV 2 htB (gd_V mw_512 mw_514 sw_X_good mw_4 mw_515) rfl rfl rfl (by decide +kernel) ⟨Nat.le_of_ble_eq_true rfl, Nat.le_of_ble_eq_true rfl⟩) (pcx_V (va_recv hKc hPc (ci := 3) (q0 := 0) rfl rfl) hPc hKc hDc hA0 hE hS) rfl rfl hl.1 rfl (lv_room (Nat.le_of_ble_eq_true rfl)) d_X_put_38 ⟨Nat.zero_le _, Nat.zero_le _⟩) hS (fun q _ h => hFc q h) hFc (fun r9 u t H1 locs ht hvm hw hB hz1 hk1 hS => ?_)
        subst hw
        obtain ⟨hP1, hK1, hD1⟩ := hB
        rw [ht] at hP1
        obtain ⟨hP, hD⟩ := va_join (wr := [c_A x3 c3 9 m3]) (w1 := [c_X x0 x1 x2 x3 x4 ((f_X_good (0 : Int32) (1 : Int32) ku).2)]) hP hD [0] [1] rfl rfl (by decide) (by decide) hk1 hFc hP1 hD1
        generalize H1 = H at hP hS ⊢
        have hP : va_P (dC, dI) classes [c_X x0 x1 x2 x3 x4 ((f_X_good (0 : Int32) (1 : Int32) ku).2), c_A x3 c3 9 m3] H := hP.sub [1, 0] rfl
        have hD : va_D A [c_X x0 x1 x2 x3 x4 ((f_X_good (0 : Int32) (1 : Int32) ku).2), c_A x3 c3 9 m3] := hD.sub [1, 0] (by decide) rfl
        rw [good_ret]
        refine lv_if_ne (tgt := 46) hx hb d_X_put_41 (by decide) (fun c9 => absurd (show (0 : Int32) = (0 : Int32) from by decide) c9) (fun _ => ?_)
        refine lv_iconst (v := 0) hx hb d_X_put_44 (by decide) ?_
        have hf : f_X_put p1 p2 ku m3 = ((0 : Int32), (f_X_good (0 : Int32) (1 : Int32) ku).2, m3) := by rw [f_X_put, if_neg c_1, if_neg c_2, if_pos c_3]
        exact W.iret (v := (0 : Int32)) hx hb hr (fun t ht hW => ⟨⟨(0 : Int32), (), rfl, (congrArg (fun z => z.1) hf).symm, by rw [hf]; exact ⟨by rw [ht]; exact hP, va_K.moved hW.alike hK, hD⟩⟩, hS.F ht⟩) hS.2.2 d_X_put_45
      · refine lv_iconst (v := 1) hx hb d_X_put_32 (by decide) ?_
        refine lv_goto (tgt := 37) hx hb d_X_put_33 (by decide) ?_
        refine lv_iconst (v := 1) hx hb d_X_put_37 (by decide) ?_
        have hPc := hP.sub (ws' := [c_X x0 x1 x2 x3 x4 ku]) [0] rfl
        have hDc := hD.sub (ws' := [c_X x0 x1 x2 x3 x4 ku]) [0] (by decide) rfl
        have hKc := hK.sub (tys' := []) [] rfl
        have hFc := va_free (wc := [c_X x0 x1 x2 x3 x4 ku]) hD hS hA [0] rfl
        refine va_calli (va_runV (As := [.int (1 : Int32), .int (1 : Int32)]) (rest := []) ⟨hx, hb, hml, hown, htB⟩ (c_X_good l dC dI z0 x0 x1 x2 x3 x4 H.size (1 : Int32) (1 : Int32) ku (Or.inr rfl)) (cwV 2 htB (gd_V mw_512 mw_514 sw_X_good mw_4 mw_515) rfl rfl rfl (by decide +kernel) ⟨Nat.le_of_ble_eq_true rfl, Nat.le_of_ble_eq_true rfl⟩) (pcx_V (va_recv hKc hPc (ci := 3) (q0 := 0) rfl rfl) hPc hKc hDc hA0 hE hS) rfl rfl hl.1 rfl (lv_room (Nat.le_of_ble_eq_true rfl)) d_X_put_38 ⟨Nat.zero_le _, Nat.zero_le _⟩) hS (fun q _ h => hFc q h) hFc (fun r9 u t H1 locs ht hvm hw hB hz1 hk1 hS => ?_)
        subst hw
        obtain ⟨hP1, hK1, hD1⟩ := hB
        rw [ht] at hP1
        obtain ⟨hP, hD⟩ := va_join (wr := [c_A x3 c3 9 m3]) (w1 := [c_X x0 x1 x2 x3 x4 ((f_X_good (1 : Int32) (1 : Int32) ku).2)]) hP hD [0] [1] rfl rfl (by decide) (by decide) hk1 hFc hP1 hD1
        generalize H1 = H at hP hS ⊢
        have hP : va_P (dC, dI) classes [c_X x0 x1 x2 x3 x4 ((f_X_good (1 : Int32) (1 : Int32) ku).2), c_A x3 c3 9 m3] H := hP.sub [1, 0] rfl
        have hD : va_D A [c_X x0 x1 x2 x3 x4 ((f_X_good (1 : Int32) (1 : Int32) ku).2), c_A x3 c3 9 m3] := hD.sub [1, 0] (by decide) rfl
        rw [good_ret]
        refine lv_if_ne (tgt := 46) hx hb d_X_put_41 (by decide) (fun _ => ?_) (fun c9 => absurd c9 (by decide))
        refine lv_iload_n hx hb d_X_put_46 rfl (lv_at hl 1 rfl) ?_
        refine lv_iconst (v := 5) hx hb d_X_put_47 (by decide) ?_
        refine lv_icmp_ne (tgt := 58) hx hb d_X_put_48 (by decide) (fun c_4 => ?_) (fun c_4 => ?_)
        · refine lv_aload_n hx hb d_X_put_58 rfl (lv_at hl 0 rfl) ?_
          refine va_get (D := (dC, dI)) (ci := 3) (v := .ref x3) (C := R_X) (T := F_X) (N := 13) hx hb htB i_X hown hK hP 0 rfl rfl 2 (by decide) (htB _ mw_463) (fun _ h9 => h9) rfl d_X_put_59 ?_
          refine lv_iload_n hx hb d_X_put_62 rfl (lv_at hl 1 rfl) ?_
          refine va_iald hx hb hK hP 1 0 rfl rfl (xi_reg c_1) d_X_put_63 ?_
          refine lv_istore_n (lv' := [(3, .int (m3 p1.toNatClampNeg)), (0, .ref x0), (1, .int p1), (2, .int p2)]) hx hb d_X_put_64 rfl hl (by decide) rfl (fun ls hl => ?_)
          refine lv_iload_n hx hb d_X_put_65 rfl (lv_at hl 2 rfl) ?_
          refine lv_iconst (v := 5) hx hb d_X_put_66 (by decide) ?_
          refine lv_icmp_ne (tgt := 78) hx hb d_X_put_67 (by decide) (fun _ => ?_) (fun c9 => absurd c9 c_4)
          refine lv_aload_n hx hb d_X_put_78 rfl (lv_at hl 1 rfl) ?_
          refine va_get (D := (dC, dI)) (ci := 3) (v := .ref x3) (C := R_X) (T := F_X) (N := 13) hx hb htB i_X hown hK hP 0 rfl rfl 2 (by decide) (htB _ mw_463) (fun _ h9 => h9) rfl d_X_put_79 ?_
          refine lv_iload_n hx hb d_X_put_82 rfl (lv_at hl 2 rfl) ?_
          refine lv_iload_n hx hb d_X_put_83 rfl (lv_at hl 3 rfl) ?_
          refine va_iast hx hb hK hP hD hS 1 0 rfl rfl (xi_reg c_1) d_X_put_84 (fun H locs hP hD hS => ?_)
          have hP : va_P (dC, dI) classes [c_X x0 x1 x2 x3 x4 ((f_X_good (1 : Int32) (1 : Int32) ku).2), c_A x3 c3 9 (upd m3 p1.toNatClampNeg p2)] H := hP
          have hD : va_D A [c_X x0 x1 x2 x3 x4 ((f_X_good (1 : Int32) (1 : Int32) ku).2), c_A x3 c3 9 (upd m3 p1.toNatClampNeg p2)] := hD
          refine lv_iload_n hx hb d_X_put_85 rfl (lv_at hl 0 rfl) ?_
          have hf : f_X_put p1 p2 ku m3 = ((m3 p1.toNatClampNeg), (f_X_good (1 : Int32) (1 : Int32) ku).2, (upd m3 p1.toNatClampNeg p2)) := by rw [f_X_put, if_neg c_1, if_neg c_2, if_neg c_3, if_neg c_4]
          exact W.iret (v := (m3 p1.toNatClampNeg)) hx hb hr (fun t ht hW => ⟨⟨(m3 p1.toNatClampNeg), (), rfl, (congrArg (fun z => z.1) hf).symm, by rw [hf]; exact ⟨by rw [ht]; exact hP, va_K.moved hW.alike hK, hD⟩⟩, hS.F ht⟩) hS.2.2 d_X_put_86
        · refine lv_aload_n hx hb d_X_put_51 rfl (lv_at hl 0 rfl) ?_
          have hPc := hP.sub (ws' := [c_X x0 x1 x2 x3 x4 ((f_X_good (1 : Int32) (1 : Int32) ku).2), c_A x3 c3 9 m3]) [0, 1] rfl
          have hDc := hD.sub (ws' := [c_X x0 x1 x2 x3 x4 ((f_X_good (1 : Int32) (1 : Int32) ku).2), c_A x3 c3 9 m3]) [0, 1] (by decide) rfl
          have hKc := hK.sub (tys' := [(c3, .int)]) [0] rfl
          have hFc := va_free (wc := [c_X x0 x1 x2 x3 x4 ((f_X_good (1 : Int32) (1 : Int32) ku).2), c_A x3 c3 9 m3]) hD hS hA [0, 1] rfl
          refine va_calli (va_runV (As := []) (rest := []) ⟨hx, hb, hml, hown, htB⟩ (c_X_status l dC dI z0 x0 x1 x2 x3 x4 c3 H.size ((f_X_good (1 : Int32) (1 : Int32) ku).2) m3) (cwV 0 htB (gd_V mw_524 mw_526 sw_X_status mw_4 mw_527) rfl rfl rfl (by decide +kernel) ⟨Nat.le_of_ble_eq_true rfl, Nat.le_of_ble_eq_true rfl⟩) (pcx_V (va_recv hKc hPc (ci := 3) (q0 := 0) rfl rfl) hPc hKc hDc hA0 hE hS) rfl rfl hl.1 rfl (lv_room (Nat.le_of_ble_eq_true rfl)) d_X_put_52 ⟨Nat.zero_le _, Nat.zero_le _⟩) hS (fun q _ h => hFc q h) hFc (fun r9 u t H1 locs ht hvm hw hB hz1 hk1 hS => ?_)
          subst hw
          obtain ⟨hP1, hK1, hD1⟩ := hB
          rw [ht] at hP1
          obtain ⟨hP, hD⟩ := va_join (wr := []) (w1 := [c_X x0 x1 x2 x3 x4 ((f_X_good (1 : Int32) (1 : Int32) ku).2), c_A x3 c3 9 m3]) hP hD [0, 1] [] rfl rfl (by decide) (by decide) hk1 hFc hP1 hD1
          generalize H1 = H at hP hS ⊢
          have hP : va_P (dC, dI) classes [c_X x0 x1 x2 x3 x4 ((f_X_good (1 : Int32) (1 : Int32) ku).2), c_A x3 c3 9 m3] H := hP.sub [0, 1] rfl
          have hD : va_D A [c_X x0 x1 x2 x3 x4 ((f_X_good (1 : Int32) (1 : Int32) ku).2), c_A x3 c3 9 m3] := hD.sub [0, 1] (by decide) rfl
          refine lv_goto (tgt := 64) hx hb d_X_put_55 (by decide) ?_
          refine lv_istore_n (lv' := [(3, .int (f_X_status ((f_X_good (1 : Int32) (1 : Int32) ku).2) m3)), (0, .ref x0), (1, .int p1), (2, .int p2)]) hx hb d_X_put_64 rfl hl (by decide) rfl (fun ls hl => ?_)
          refine lv_iload_n hx hb d_X_put_65 rfl (lv_at hl 2 rfl) ?_
          refine lv_iconst (v := 5) hx hb d_X_put_66 (by decide) ?_
          refine lv_icmp_ne (tgt := 78) hx hb d_X_put_67 (by decide) (fun c9 => absurd c_4 c9) (fun _ => ?_)
          refine lv_aload_n hx hb d_X_put_70 rfl (lv_at hl 1 rfl) ?_
          refine lv_iload_n hx hb d_X_put_71 rfl (lv_at hl 3 rfl) ?_
          have hPc := hP.sub (ws' := [c_X x0 x1 x2 x3 x4 ((f_X_good (1 : Int32) (1 : Int32) ku).2), c_A x3 c3 9 m3]) [0, 1] rfl
          have hDc := hD.sub (ws' := [c_X x0 x1 x2 x3 x4 ((f_X_good (1 : Int32) (1 : Int32) ku).2), c_A x3 c3 9 m3]) [0, 1] (by decide) rfl
          have hKc := hK.sub (tys' := [(c3, .int)]) [0] rfl
          have hFc := va_free (wc := [c_X x0 x1 x2 x3 x4 ((f_X_good (1 : Int32) (1 : Int32) ku).2), c_A x3 c3 9 m3]) hD hS hA [0, 1] rfl
          refine va_callv (va_runV (As := [.int p2]) (rest := []) ⟨hx, hb, hml, hown, htB⟩ (c_X_setStatus l dC dI z0 x0 x1 x2 x3 x4 c3 H.size p2 ((f_X_good (1 : Int32) (1 : Int32) ku).2) m3) (cwV 1 htB (gd_V mw_528 mw_530 sw_X_setStatus mw_4 mw_531) rfl rfl rfl (by decide +kernel) ⟨Nat.le_of_ble_eq_true rfl, Nat.le_of_ble_eq_true rfl⟩) (pcx_V (va_recv hKc hPc (ci := 3) (q0 := 0) rfl rfl) hPc hKc hDc hA0 hE hS) rfl rfl hl.1 rfl (lv_room (Nat.le_of_ble_eq_true rfl)) d_X_put_72 ⟨Nat.zero_le _, Nat.zero_le _⟩) hS (fun q _ h => hFc q h) hFc (fun u t H1 locs ht hvm hw hB hz1 hk1 hS => ?_)
          obtain ⟨hP1, hK1, hD1⟩ := hB
          rw [ht] at hP1
          obtain ⟨hP, hD⟩ := va_join (wr := []) (w1 := [c_X x0 x1 x2 x3 x4 ((f_X_good (1 : Int32) (1 : Int32) ku).2), c_A x3 c3 9 (f_X_setStatus p2 ((f_X_good (1 : Int32) (1 : Int32) ku).2) m3)]) hP hD [0, 1] [] rfl rfl (by decide) (by decide) hk1 hFc hP1 hD1
          generalize H1 = H at hP hS ⊢
          have hP : va_P (dC, dI) classes [c_X x0 x1 x2 x3 x4 ((f_X_good (1 : Int32) (1 : Int32) ku).2), c_A x3 c3 9 (f_X_setStatus p2 ((f_X_good (1 : Int32) (1 : Int32) ku).2) m3)] H := hP.sub [0, 1] rfl
          have hD : va_D A [c_X x0 x1 x2 x3 x4 ((f_X_good (1 : Int32) (1 : Int32) ku).2), c_A x3 c3 9 (f_X_setStatus p2 ((f_X_good (1 : Int32) (1 : Int32) ku).2) m3)] := hD.sub [0, 1] (by decide) rfl
          refine lv_goto (tgt := 85) hx hb d_X_put_75 (by decide) ?_
          refine lv_iload_n hx hb d_X_put_85 rfl (lv_at hl 0 rfl) ?_
          have hf : f_X_put p1 p2 ku m3 = ((f_X_status ((f_X_good (1 : Int32) (1 : Int32) ku).2) m3), (f_X_good (1 : Int32) (1 : Int32) ku).2, (f_X_setStatus p2 ((f_X_good (1 : Int32) (1 : Int32) ku).2) m3)) := by rw [f_X_put, if_neg c_1, if_neg c_2, if_neg c_3, if_pos c_4]
          exact W.iret (v := (f_X_status ((f_X_good (1 : Int32) (1 : Int32) ku).2) m3)) hx hb hr (fun t ht hW => ⟨⟨(f_X_status ((f_X_good (1 : Int32) (1 : Int32) ku).2) m3), (), rfl, (congrArg (fun z => z.1) hf).symm, by rw [hf]; exact ⟨by rw [ht]; exact hP, va_K.moved hW.alike hK, hD⟩⟩, hS.F ht⟩) hS.2.2 d_X_put_86
    · refine lv_sipush (v := 1023) hx hb d_X_put_17 (by decide) ?_
      refine lv_goto (tgt := 26) hx hb d_X_put_20 (by decide) ?_
      have hPc := hP.sub (ws' := []) [] rfl
      have hDc := hD.sub (ws' := []) [] (by decide) rfl
      have hKc := hK.sub (tys' := []) [] rfl
      have hFc := va_free (wc := []) hD hS hA [] rfl
      refine va_calli (va_runS (As := [.int p2, .int (0 : Int32), .int (1023 : Int32)]) (rest := [.ref x0]) ⟨hx, hb, hml, hown, htB⟩ (c_X_in l dC dI z0  H.size p2 (0 : Int32) (1023 : Int32)) (cwS 3 htB (gd_S mw_509 mw_510 mw_4 mw_511) rfl rfl rfl (by decide +kernel) ⟨Nat.le_of_ble_eq_true rfl, Nat.le_of_ble_eq_true rfl⟩) (pcx_S hPc hKc hDc hA0 hE hS) rfl rfl hl.1 rfl (lv_room (Nat.le_of_ble_eq_true rfl)) d_X_put_26 ⟨Nat.zero_le _, Nat.zero_le _⟩) hS (fun q _ h => hFc q h) hFc (fun r9 u t H1 locs ht hvm hw hB hz1 hk1 hS => ?_)
      subst hw
      obtain ⟨hP1, hK1, hD1⟩ := hB
      rw [ht] at hP1
      obtain ⟨hP, hD⟩ := va_join (wr := [c_X x0 x1 x2 x3 x4 ku, c_A x3 c3 9 m3]) (w1 := []) hP hD [] [0, 1] rfl rfl (by decide) (by decide) hk1 hFc hP1 hD1
      generalize H1 = H at hP hS ⊢
      have hP : va_P (dC, dI) classes [c_X x0 x1 x2 x3 x4 ku, c_A x3 c3 9 m3] H := hP.sub [0, 1] rfl
      have hD : va_D A [c_X x0 x1 x2 x3 x4 ku, c_A x3 c3 9 m3] := hD.sub [0, 1] (by decide) rfl
      refine lv_if_eq (tgt := 36) hx hb d_X_put_29 (by decide) (fun c_3 => ?_) (fun c_3 => ?_)
      · refine lv_iconst (v := 0) hx hb d_X_put_36 (by decide) ?_
        refine lv_iconst (v := 1) hx hb d_X_put_37 (by decide) ?_
        have hPc := hP.sub (ws' := [c_X x0 x1 x2 x3 x4 ku]) [0] rfl
        have hDc := hD.sub (ws' := [c_X x0 x1 x2 x3 x4 ku]) [0] (by decide) rfl
        have hKc := hK.sub (tys' := []) [] rfl
        have hFc := va_free (wc := [c_X x0 x1 x2 x3 x4 ku]) hD hS hA [0] rfl
        refine va_calli (va_runV (As := [.int (0 : Int32), .int (1 : Int32)]) (rest := []) ⟨hx, hb, hml, hown, htB⟩ (c_X_good l dC dI z0 x0 x1 x2 x3 x4 H.size (0 : Int32) (1 : Int32) ku (Or.inl rfl)) (cwV 2 htB (gd_V mw_512 mw_514 sw_X_good mw_4 mw_515) rfl rfl rfl (by decide +kernel) ⟨Nat.le_of_ble_eq_true rfl, Nat.le_of_ble_eq_true rfl⟩) (pcx_V (va_recv hKc hPc (ci := 3) (q0 := 0) rfl rfl) hPc hKc hDc hA0 hE hS) rfl rfl hl.1 rfl (lv_room (Nat.le_of_ble_eq_true rfl)) d_X_put_38 ⟨Nat.zero_le _, Nat.zero_le _⟩) hS (fun q _ h => hFc q h) hFc (fun r9 u t H1 locs ht hvm hw hB hz1 hk1 hS => ?_)
        subst hw
        obtain ⟨hP1, hK1, hD1⟩ := hB
        rw [ht] at hP1
        obtain ⟨hP, hD⟩ := va_join (wr := [c_A x3 c3 9 m3]) (w1 := [c_X x0 x1 x2 x3 x4 ((f_X_good (0 : Int32) (1 : Int32) ku).2)]) hP hD [0] [1] rfl rfl (by decide) (by decide) hk1 hFc hP1 hD1
        generalize H1 = H at hP hS ⊢
        have hP : va_P (dC, dI) classes [c_X x0 x1 x2 x3 x4 ((f_X_good (0 : Int32) (1 : Int32) ku).2), c_A x3 c3 9 m3] H := hP.sub [1, 0] rfl
        have hD : va_D A [c_X x0 x1 x2 x3 x4 ((f_X_good (0 : Int32) (1 : Int32) ku).2), c_A x3 c3 9 m3] := hD.sub [1, 0] (by decide) rfl
        rw [good_ret]
        refine lv_if_ne (tgt := 46) hx hb d_X_put_41 (by decide) (fun c9 => absurd (show (0 : Int32) = (0 : Int32) from by decide) c9) (fun _ => ?_)
        refine lv_iconst (v := 0) hx hb d_X_put_44 (by decide) ?_
        have hf : f_X_put p1 p2 ku m3 = ((0 : Int32), (f_X_good (0 : Int32) (1 : Int32) ku).2, m3) := by rw [f_X_put, if_neg c_1, if_pos c_2, if_pos c_3]
        exact W.iret (v := (0 : Int32)) hx hb hr (fun t ht hW => ⟨⟨(0 : Int32), (), rfl, (congrArg (fun z => z.1) hf).symm, by rw [hf]; exact ⟨by rw [ht]; exact hP, va_K.moved hW.alike hK, hD⟩⟩, hS.F ht⟩) hS.2.2 d_X_put_45
      · refine lv_iconst (v := 1) hx hb d_X_put_32 (by decide) ?_
        refine lv_goto (tgt := 37) hx hb d_X_put_33 (by decide) ?_
        refine lv_iconst (v := 1) hx hb d_X_put_37 (by decide) ?_
        have hPc := hP.sub (ws' := [c_X x0 x1 x2 x3 x4 ku]) [0] rfl
        have hDc := hD.sub (ws' := [c_X x0 x1 x2 x3 x4 ku]) [0] (by decide) rfl
        have hKc := hK.sub (tys' := []) [] rfl
        have hFc := va_free (wc := [c_X x0 x1 x2 x3 x4 ku]) hD hS hA [0] rfl
        refine va_calli (va_runV (As := [.int (1 : Int32), .int (1 : Int32)]) (rest := []) ⟨hx, hb, hml, hown, htB⟩ (c_X_good l dC dI z0 x0 x1 x2 x3 x4 H.size (1 : Int32) (1 : Int32) ku (Or.inr rfl)) (cwV 2 htB (gd_V mw_512 mw_514 sw_X_good mw_4 mw_515) rfl rfl rfl (by decide +kernel) ⟨Nat.le_of_ble_eq_true rfl, Nat.le_of_ble_eq_true rfl⟩) (pcx_V (va_recv hKc hPc (ci := 3) (q0 := 0) rfl rfl) hPc hKc hDc hA0 hE hS) rfl rfl hl.1 rfl (lv_room (Nat.le_of_ble_eq_true rfl)) d_X_put_38 ⟨Nat.zero_le _, Nat.zero_le _⟩) hS (fun q _ h => hFc q h) hFc (fun r9 u t H1 locs ht hvm hw hB hz1 hk1 hS => ?_)
        subst hw
        obtain ⟨hP1, hK1, hD1⟩ := hB
        rw [ht] at hP1
        obtain ⟨hP, hD⟩ := va_join (wr := [c_A x3 c3 9 m3]) (w1 := [c_X x0 x1 x2 x3 x4 ((f_X_good (1 : Int32) (1 : Int32) ku).2)]) hP hD [0] [1] rfl rfl (by decide) (by decide) hk1 hFc hP1 hD1
        generalize H1 = H at hP hS ⊢
        have hP : va_P (dC, dI) classes [c_X x0 x1 x2 x3 x4 ((f_X_good (1 : Int32) (1 : Int32) ku).2), c_A x3 c3 9 m3] H := hP.sub [1, 0] rfl
        have hD : va_D A [c_X x0 x1 x2 x3 x4 ((f_X_good (1 : Int32) (1 : Int32) ku).2), c_A x3 c3 9 m3] := hD.sub [1, 0] (by decide) rfl
        rw [good_ret]
        refine lv_if_ne (tgt := 46) hx hb d_X_put_41 (by decide) (fun _ => ?_) (fun c9 => absurd c9 (by decide))
        refine lv_iload_n hx hb d_X_put_46 rfl (lv_at hl 1 rfl) ?_
        refine lv_iconst (v := 5) hx hb d_X_put_47 (by decide) ?_
        refine lv_icmp_ne (tgt := 58) hx hb d_X_put_48 (by decide) (fun c_4 => ?_) (fun c_4 => ?_)
        · refine lv_aload_n hx hb d_X_put_58 rfl (lv_at hl 0 rfl) ?_
          refine va_get (D := (dC, dI)) (ci := 3) (v := .ref x3) (C := R_X) (T := F_X) (N := 13) hx hb htB i_X hown hK hP 0 rfl rfl 2 (by decide) (htB _ mw_463) (fun _ h9 => h9) rfl d_X_put_59 ?_
          refine lv_iload_n hx hb d_X_put_62 rfl (lv_at hl 1 rfl) ?_
          refine va_iald hx hb hK hP 1 0 rfl rfl (xi_reg c_1) d_X_put_63 ?_
          refine lv_istore_n (lv' := [(3, .int (m3 p1.toNatClampNeg)), (0, .ref x0), (1, .int p1), (2, .int p2)]) hx hb d_X_put_64 rfl hl (by decide) rfl (fun ls hl => ?_)
          refine lv_iload_n hx hb d_X_put_65 rfl (lv_at hl 2 rfl) ?_
          refine lv_iconst (v := 5) hx hb d_X_put_66 (by decide) ?_
          refine lv_icmp_ne (tgt := 78) hx hb d_X_put_67 (by decide) (fun _ => ?_) (fun c9 => absurd c9 c_4)
          refine lv_aload_n hx hb d_X_put_78 rfl (lv_at hl 1 rfl) ?_
          refine va_get (D := (dC, dI)) (ci := 3) (v := .ref x3) (C := R_X) (T := F_X) (N := 13) hx hb htB i_X hown hK hP 0 rfl rfl 2 (by decide) (htB _ mw_463) (fun _ h9 => h9) rfl d_X_put_79 ?_
          refine lv_iload_n hx hb d_X_put_82 rfl (lv_at hl 2 rfl) ?_
          refine lv_iload_n hx hb d_X_put_83 rfl (lv_at hl 3 rfl) ?_
          refine va_iast hx hb hK hP hD hS 1 0 rfl rfl (xi_reg c_1) d_X_put_84 (fun H locs hP hD hS => ?_)
          have hP : va_P (dC, dI) classes [c_X x0 x1 x2 x3 x4 ((f_X_good (1 : Int32) (1 : Int32) ku).2), c_A x3 c3 9 (upd m3 p1.toNatClampNeg p2)] H := hP
          have hD : va_D A [c_X x0 x1 x2 x3 x4 ((f_X_good (1 : Int32) (1 : Int32) ku).2), c_A x3 c3 9 (upd m3 p1.toNatClampNeg p2)] := hD
          refine lv_iload_n hx hb d_X_put_85 rfl (lv_at hl 0 rfl) ?_
          have hf : f_X_put p1 p2 ku m3 = ((m3 p1.toNatClampNeg), (f_X_good (1 : Int32) (1 : Int32) ku).2, (upd m3 p1.toNatClampNeg p2)) := by rw [f_X_put, if_neg c_1, if_pos c_2, if_neg c_3, if_neg c_4]
          exact W.iret (v := (m3 p1.toNatClampNeg)) hx hb hr (fun t ht hW => ⟨⟨(m3 p1.toNatClampNeg), (), rfl, (congrArg (fun z => z.1) hf).symm, by rw [hf]; exact ⟨by rw [ht]; exact hP, va_K.moved hW.alike hK, hD⟩⟩, hS.F ht⟩) hS.2.2 d_X_put_86
        · refine lv_aload_n hx hb d_X_put_51 rfl (lv_at hl 0 rfl) ?_
          have hPc := hP.sub (ws' := [c_X x0 x1 x2 x3 x4 ((f_X_good (1 : Int32) (1 : Int32) ku).2), c_A x3 c3 9 m3]) [0, 1] rfl
          have hDc := hD.sub (ws' := [c_X x0 x1 x2 x3 x4 ((f_X_good (1 : Int32) (1 : Int32) ku).2), c_A x3 c3 9 m3]) [0, 1] (by decide) rfl
          have hKc := hK.sub (tys' := [(c3, .int)]) [0] rfl
          have hFc := va_free (wc := [c_X x0 x1 x2 x3 x4 ((f_X_good (1 : Int32) (1 : Int32) ku).2), c_A x3 c3 9 m3]) hD hS hA [0, 1] rfl
          refine va_calli (va_runV (As := []) (rest := []) ⟨hx, hb, hml, hown, htB⟩ (c_X_status l dC dI z0 x0 x1 x2 x3 x4 c3 H.size ((f_X_good (1 : Int32) (1 : Int32) ku).2) m3) (cwV 0 htB (gd_V mw_524 mw_526 sw_X_status mw_4 mw_527) rfl rfl rfl (by decide +kernel) ⟨Nat.le_of_ble_eq_true rfl, Nat.le_of_ble_eq_true rfl⟩) (pcx_V (va_recv hKc hPc (ci := 3) (q0 := 0) rfl rfl) hPc hKc hDc hA0 hE hS) rfl rfl hl.1 rfl (lv_room (Nat.le_of_ble_eq_true rfl)) d_X_put_52 ⟨Nat.zero_le _, Nat.zero_le _⟩) hS (fun q _ h => hFc q h) hFc (fun r9 u t H1 locs ht hvm hw hB hz1 hk1 hS => ?_)
          subst hw
          obtain ⟨hP1, hK1, hD1⟩ := hB
          rw [ht] at hP1
          obtain ⟨hP, hD⟩ := va_join (wr := []) (w1 := [c_X x0 x1 x2 x3 x4 ((f_X_good (1 : Int32) (1 : Int32) ku).2), c_A x3 c3 9 m3]) hP hD [0, 1] [] rfl rfl (by decide) (by decide) hk1 hFc hP1 hD1
          generalize H1 = H at hP hS ⊢
          have hP : va_P (dC, dI) classes [c_X x0 x1 x2 x3 x4 ((f_X_good (1 : Int32) (1 : Int32) ku).2), c_A x3 c3 9 m3] H := hP.sub [0, 1] rfl
          have hD : va_D A [c_X x0 x1 x2 x3 x4 ((f_X_good (1 : Int32) (1 : Int32) ku).2), c_A x3 c3 9 m3] := hD.sub [0, 1] (by decide) rfl
          refine lv_goto (tgt := 64) hx hb d_X_put_55 (by decide) ?_
          refine lv_istore_n (lv' := [(3, .int (f_X_status ((f_X_good (1 : Int32) (1 : Int32) ku).2) m3)), (0, .ref x0), (1, .int p1), (2, .int p2)]) hx hb d_X_put_64 rfl hl (by decide) rfl (fun ls hl => ?_)
          refine lv_iload_n hx hb d_X_put_65 rfl (lv_at hl 2 rfl) ?_
          refine lv_iconst (v := 5) hx hb d_X_put_66 (by decide) ?_
          refine lv_icmp_ne (tgt := 78) hx hb d_X_put_67 (by decide) (fun c9 => absurd c_4 c9) (fun _ => ?_)
          refine lv_aload_n hx hb d_X_put_70 rfl (lv_at hl 1 rfl) ?_
          refine lv_iload_n hx hb d_X_put_71 rfl (lv_at hl 3 rfl) ?_
          have hPc := hP.sub (ws' := [c_X x0 x1 x2 x3 x4 ((f_X_good (1 : Int32) (1 : Int32) ku).2), c_A x3 c3 9 m3]) [0, 1] rfl
          have hDc := hD.sub (ws' := [c_X x0 x1 x2 x3 x4 ((f_X_good (1 : Int32) (1 : Int32) ku).2), c_A x3 c3 9 m3]) [0, 1] (by decide) rfl
          have hKc := hK.sub (tys' := [(c3, .int)]) [0] rfl
          have hFc := va_free (wc := [c_X x0 x1 x2 x3 x4 ((f_X_good (1 : Int32) (1 : Int32) ku).2), c_A x3 c3 9 m3]) hD hS hA [0, 1] rfl
          refine va_callv (va_runV (As := [.int p2]) (rest := []) ⟨hx, hb, hml, hown, htB⟩ (c_X_setStatus l dC dI z0 x0 x1 x2 x3 x4 c3 H.size p2 ((f_X_good (1 : Int32) (1 : Int32) ku).2) m3) (cwV 1 htB (gd_V mw_528 mw_530 sw_X_setStatus mw_4 mw_531) rfl rfl rfl (by decide +kernel) ⟨Nat.le_of_ble_eq_true rfl, Nat.le_of_ble_eq_true rfl⟩) (pcx_V (va_recv hKc hPc (ci := 3) (q0 := 0) rfl rfl) hPc hKc hDc hA0 hE hS) rfl rfl hl.1 rfl (lv_room (Nat.le_of_ble_eq_true rfl)) d_X_put_72 ⟨Nat.zero_le _, Nat.zero_le _⟩) hS (fun q _ h => hFc q h) hFc (fun u t H1 locs ht hvm hw hB hz1 hk1 hS => ?_)
          obtain ⟨hP1, hK1, hD1⟩ := hB
          rw [ht] at hP1
          obtain ⟨hP, hD⟩ := va_join (wr := []) (w1 := [c_X x0 x1 x2 x3 x4 ((f_X_good (1 : Int32) (1 : Int32) ku).2), c_A x3 c3 9 (f_X_setStatus p2 ((f_X_good (1 : Int32) (1 : Int32) ku).2) m3)]) hP hD [0, 1] [] rfl rfl (by decide) (by decide) hk1 hFc hP1 hD1
          generalize H1 = H at hP hS ⊢
          have hP : va_P (dC, dI) classes [c_X x0 x1 x2 x3 x4 ((f_X_good (1 : Int32) (1 : Int32) ku).2), c_A x3 c3 9 (f_X_setStatus p2 ((f_X_good (1 : Int32) (1 : Int32) ku).2) m3)] H := hP.sub [0, 1] rfl
          have hD : va_D A [c_X x0 x1 x2 x3 x4 ((f_X_good (1 : Int32) (1 : Int32) ku).2), c_A x3 c3 9 (f_X_setStatus p2 ((f_X_good (1 : Int32) (1 : Int32) ku).2) m3)] := hD.sub [0, 1] (by decide) rfl
          refine lv_goto (tgt := 85) hx hb d_X_put_75 (by decide) ?_
          refine lv_iload_n hx hb d_X_put_85 rfl (lv_at hl 0 rfl) ?_
          have hf : f_X_put p1 p2 ku m3 = ((f_X_status ((f_X_good (1 : Int32) (1 : Int32) ku).2) m3), (f_X_good (1 : Int32) (1 : Int32) ku).2, (f_X_setStatus p2 ((f_X_good (1 : Int32) (1 : Int32) ku).2) m3)) := by rw [f_X_put, if_neg c_1, if_pos c_2, if_neg c_3, if_pos c_4]
          exact W.iret (v := (f_X_status ((f_X_good (1 : Int32) (1 : Int32) ku).2) m3)) hx hb hr (fun t ht hW => ⟨⟨(f_X_status ((f_X_good (1 : Int32) (1 : Int32) ku).2) m3), (), rfl, (congrArg (fun z => z.1) hf).symm, by rw [hf]; exact ⟨by rw [ht]; exact hP, va_K.moved hW.alike hK, hD⟩⟩, hS.F ht⟩) hS.2.2 d_X_put_86

def f_X_press (p1 : Int32) (ku : Nat → Int32) : Int32 × (Nat → Int32) :=
  if (f_X_in p1 (0 : Int32) (127 : Int32)) = (0 : Int32) then
    ((0 : Int32), (f_X_good (f_X_in p1 (0 : Int32) (127 : Int32)) (1 : Int32) ku).2)
  else
    if (((f_X_good (f_X_in p1 (0 : Int32) (127 : Int32)) (1 : Int32) ku).2) 0) = (0 : Int32) then
      (((128 : Int32) + p1), (upd ((f_X_good (1 : Int32) (2 : Int32) ((f_X_good (f_X_in p1 (0 : Int32) (127 : Int32)) (1 : Int32) ku).2)).2) 0 ((128 : Int32) + p1)))
    else
      ((0 : Int32), (f_X_good (0 : Int32) (2 : Int32) ((f_X_good (f_X_in p1 (0 : Int32) (127 : Int32)) (1 : Int32) ku).2)).2)
abbrev Q_X_press (dC : Nat → ClassId) (dI : Nat → Nat → Nat) (x0 : Nat) (x1 : Nat) (x2 : Nat) (x3 : Nat) (x4 : Nat) (p1 : Int32) (ku : Nat → Int32) (A : Nat → Prop) : Array Value → State → Outcome → State → Prop := va_Qi (fun (r9 : Int32) (_ : Unit) => r9 = (f_X_press p1 ku).1) (fun _ t => atW (dC, dI) classes A [c_X x0 x1 x2 x3 x4 ((f_X_press p1 ku).2)] [] t) A
set_option maxHeartbeats 4000000 in
set_option maxRecDepth 100000 in
theorem c_X_press (l : Launch) (dC : Nat → ClassId) (dI : Nat → Nat → Nat) (z0 : Nat) (x0 : Nat) (x1 : Nat) (x2 : Nat) (x3 : Nat) (x4 : Nat) (sz : Nat) (p1 : Int32) (ku : Nat → Int32)  : Met l y_X_press w_X_press ({ frames := 1, cells := 0, slots := 0, locals := 22 }) (PcX (dC, dI) classes z0 [c_X x0 x1 x2 x3 x4 ku] [] sz [.ref x0, .int p1]) (Q_X_press dC dI x0 x1 x2 x3 x4 p1 ku (va_A [c_X x0 x1 x2 x3 x4 ku] sz)) 0 0 (va_A [c_X x0 x1 x2 x3 x4 ku] sz) := by
  refine hdX (cc := b_X_press) (maxL := 2) (ret := (some .int)) (C := R_X) (Qc := (Q_X_press dC dI x0 x1 x2 x3 x4 p1 ku)) (by decide) rfl ?_
  intro p e s m below meth c A H hx hb hr hlocks hml hown hin htB hP hK hD hA hA0 hE hS
  have hl := lv_entry ([.ref x0, .int p1]) (n := 2) (Nat.le_of_ble_eq_true rfl)
  rw [lg_entry_eq]
  generalize (lg_sl ([.ref x0, .int p1]) ++ List.replicate (2 - (lg_sl ([.ref x0, .int p1])).length) Slot.unset).toArray = ls at hl ⊢
  have hl : lv_has ls 2 [(0, .ref x0), (1, .int p1)] := hl
  refine lv_aload_n hx hb d_X_press_0 rfl (lv_at hl 0 rfl) ?_
  refine lv_iload_n hx hb d_X_press_1 rfl (lv_at hl 1 rfl) ?_
  refine lv_iconst (v := 0) hx hb d_X_press_2 (by decide) ?_
  refine lv_bipush (v := 127) hx hb d_X_press_3 (by decide) ?_
  have hPc := hP.sub (ws' := []) [] rfl
  have hDc := hD.sub (ws' := []) [] (by decide) rfl
  have hKc := hK.sub (tys' := []) [] rfl
  have hFc := va_free (wc := []) hD hS hA [] rfl
  refine va_calli (va_runS (As := [.int p1, .int (0 : Int32), .int (127 : Int32)]) (rest := [.ref x0]) ⟨hx, hb, hml, hown, htB⟩ (c_X_in l dC dI z0  H.size p1 (0 : Int32) (127 : Int32)) (cwS 3 htB (gd_S mw_509 mw_510 mw_4 mw_511) rfl rfl rfl (by decide +kernel) ⟨Nat.le_of_ble_eq_true rfl, Nat.le_of_ble_eq_true rfl⟩) (pcx_S hPc hKc hDc hA0 hE hS) rfl rfl hl.1 rfl (lv_room (Nat.le_of_ble_eq_true rfl)) d_X_press_5 ⟨Nat.zero_le _, Nat.zero_le _⟩) hS (fun q _ h => hFc q h) hFc (fun r9 u t H1 locs ht hvm hw hB hz1 hk1 hS => ?_)
  subst hw
  obtain ⟨hP1, hK1, hD1⟩ := hB
  rw [ht] at hP1
  obtain ⟨hP, hD⟩ := va_join (wr := [c_X x0 x1 x2 x3 x4 ku]) (w1 := []) hP hD [] [0] rfl rfl (by decide) (by decide) hk1 hFc hP1 hD1
  generalize H1 = H at hP hS ⊢
  have hP : va_P (dC, dI) classes [c_X x0 x1 x2 x3 x4 ku] H := hP.sub [0] rfl
  have hD : va_D A [c_X x0 x1 x2 x3 x4 ku] := hD.sub [0] (by decide) rfl
  refine lv_iconst (v := 1) hx hb d_X_press_8 (by decide) ?_
  have hPc := hP.sub (ws' := [c_X x0 x1 x2 x3 x4 ku]) [0] rfl
  have hDc := hD.sub (ws' := [c_X x0 x1 x2 x3 x4 ku]) [0] (by decide) rfl
  have hKc := hK.sub (tys' := []) [] rfl
  have hFc := va_free (wc := [c_X x0 x1 x2 x3 x4 ku]) hD hS hA [0] rfl
  refine va_calli (va_runV (As := [.int (f_X_in p1 (0 : Int32) (127 : Int32)), .int (1 : Int32)]) (rest := []) ⟨hx, hb, hml, hown, htB⟩ (c_X_good l dC dI z0 x0 x1 x2 x3 x4 H.size (f_X_in p1 (0 : Int32) (127 : Int32)) (1 : Int32) ku xin_01) (cwV 2 htB (gd_V mw_512 mw_514 sw_X_good mw_4 mw_515) rfl rfl rfl (by decide +kernel) ⟨Nat.le_of_ble_eq_true rfl, Nat.le_of_ble_eq_true rfl⟩) (pcx_V (va_recv hKc hPc (ci := 3) (q0 := 0) rfl rfl) hPc hKc hDc hA0 hE hS) rfl rfl hl.1 rfl (lv_room (Nat.le_of_ble_eq_true rfl)) d_X_press_9 ⟨Nat.zero_le _, Nat.zero_le _⟩) hS (fun q _ h => hFc q h) hFc (fun r9 u t H1 locs ht hvm hw hB hz1 hk1 hS => ?_)
  subst hw
  obtain ⟨hP1, hK1, hD1⟩ := hB
  rw [ht] at hP1
  obtain ⟨hP, hD⟩ := va_join (wr := []) (w1 := [c_X x0 x1 x2 x3 x4 ((f_X_good (f_X_in p1 (0 : Int32) (127 : Int32)) (1 : Int32) ku).2)]) hP hD [0] [] rfl rfl (by decide) (by decide) hk1 hFc hP1 hD1
  generalize H1 = H at hP hS ⊢
  have hP : va_P (dC, dI) classes [c_X x0 x1 x2 x3 x4 ((f_X_good (f_X_in p1 (0 : Int32) (127 : Int32)) (1 : Int32) ku).2)] H := hP.sub [0] rfl
  have hD : va_D A [c_X x0 x1 x2 x3 x4 ((f_X_good (f_X_in p1 (0 : Int32) (127 : Int32)) (1 : Int32) ku).2)] := hD.sub [0] (by decide) rfl
  rw [good_ret]
  refine lv_if_ne (tgt := 17) hx hb d_X_press_12 (by decide) (fun c_1 => ?_) (fun c_1 => ?_)
  · refine lv_aload_n hx hb d_X_press_17 rfl (lv_at hl 0 rfl) ?_
    refine lv_aload_n hx hb d_X_press_18 rfl (lv_at hl 0 rfl) ?_
    refine va_get (D := (dC, dI)) (ci := 3) (v := .int (((f_X_good (f_X_in p1 (0 : Int32) (127 : Int32)) (1 : Int32) ku).2) 0)) (C := R_X) (T := F_X) (N := 13) hx hb htB i_X hown hK hP 0 rfl rfl 4 (by decide) (htB _ mw_465) (fun _ h9 => h9) rfl d_X_press_19 ?_
    refine lv_if_ne (tgt := 29) hx hb d_X_press_22 (by decide) (fun c_2 => ?_) (fun c_2 => ?_)
    · refine lv_iconst (v := 0) hx hb d_X_press_29 (by decide) ?_
      refine lv_iconst (v := 2) hx hb d_X_press_30 (by decide) ?_
      have hPc := hP.sub (ws' := [c_X x0 x1 x2 x3 x4 ((f_X_good (f_X_in p1 (0 : Int32) (127 : Int32)) (1 : Int32) ku).2)]) [0] rfl
      have hDc := hD.sub (ws' := [c_X x0 x1 x2 x3 x4 ((f_X_good (f_X_in p1 (0 : Int32) (127 : Int32)) (1 : Int32) ku).2)]) [0] (by decide) rfl
      have hKc := hK.sub (tys' := []) [] rfl
      have hFc := va_free (wc := [c_X x0 x1 x2 x3 x4 ((f_X_good (f_X_in p1 (0 : Int32) (127 : Int32)) (1 : Int32) ku).2)]) hD hS hA [0] rfl
      refine va_calli (va_runV (As := [.int (0 : Int32), .int (2 : Int32)]) (rest := []) ⟨hx, hb, hml, hown, htB⟩ (c_X_good l dC dI z0 x0 x1 x2 x3 x4 H.size (0 : Int32) (2 : Int32) ((f_X_good (f_X_in p1 (0 : Int32) (127 : Int32)) (1 : Int32) ku).2) (Or.inl rfl)) (cwV 2 htB (gd_V mw_512 mw_514 sw_X_good mw_4 mw_515) rfl rfl rfl (by decide +kernel) ⟨Nat.le_of_ble_eq_true rfl, Nat.le_of_ble_eq_true rfl⟩) (pcx_V (va_recv hKc hPc (ci := 3) (q0 := 0) rfl rfl) hPc hKc hDc hA0 hE hS) rfl rfl hl.1 rfl (lv_room (Nat.le_of_ble_eq_true rfl)) d_X_press_31 ⟨Nat.zero_le _, Nat.zero_le _⟩) hS (fun q _ h => hFc q h) hFc (fun r9 u t H1 locs ht hvm hw hB hz1 hk1 hS => ?_)
      subst hw
      obtain ⟨hP1, hK1, hD1⟩ := hB
      rw [ht] at hP1
      obtain ⟨hP, hD⟩ := va_join (wr := []) (w1 := [c_X x0 x1 x2 x3 x4 ((f_X_good (0 : Int32) (2 : Int32) ((f_X_good (f_X_in p1 (0 : Int32) (127 : Int32)) (1 : Int32) ku).2)).2)]) hP hD [0] [] rfl rfl (by decide) (by decide) hk1 hFc hP1 hD1
      generalize H1 = H at hP hS ⊢
      have hP : va_P (dC, dI) classes [c_X x0 x1 x2 x3 x4 ((f_X_good (0 : Int32) (2 : Int32) ((f_X_good (f_X_in p1 (0 : Int32) (127 : Int32)) (1 : Int32) ku).2)).2)] H := hP.sub [0] rfl
      have hD : va_D A [c_X x0 x1 x2 x3 x4 ((f_X_good (0 : Int32) (2 : Int32) ((f_X_good (f_X_in p1 (0 : Int32) (127 : Int32)) (1 : Int32) ku).2)).2)] := hD.sub [0] (by decide) rfl
      rw [good_ret]
      refine lv_if_ne (tgt := 39) hx hb d_X_press_34 (by decide) (fun c9 => absurd (show (0 : Int32) = (0 : Int32) from by decide) c9) (fun _ => ?_)
      refine lv_iconst (v := 0) hx hb d_X_press_37 (by decide) ?_
      have hf : f_X_press p1 ku = ((0 : Int32), (f_X_good (0 : Int32) (2 : Int32) ((f_X_good (f_X_in p1 (0 : Int32) (127 : Int32)) (1 : Int32) ku).2)).2) := by rw [f_X_press, if_neg c_1, if_neg c_2]
      exact W.iret (v := (0 : Int32)) hx hb hr (fun t ht hW => ⟨⟨(0 : Int32), (), rfl, (congrArg (fun z => z.1) hf).symm, by rw [hf]; exact ⟨by rw [ht]; exact hP, va_K.moved hW.alike hK, hD⟩⟩, hS.F ht⟩) hS.2.2 d_X_press_38
    · refine lv_iconst (v := 1) hx hb d_X_press_25 (by decide) ?_
      refine lv_goto (tgt := 30) hx hb d_X_press_26 (by decide) ?_
      refine lv_iconst (v := 2) hx hb d_X_press_30 (by decide) ?_
      have hPc := hP.sub (ws' := [c_X x0 x1 x2 x3 x4 ((f_X_good (f_X_in p1 (0 : Int32) (127 : Int32)) (1 : Int32) ku).2)]) [0] rfl
      have hDc := hD.sub (ws' := [c_X x0 x1 x2 x3 x4 ((f_X_good (f_X_in p1 (0 : Int32) (127 : Int32)) (1 : Int32) ku).2)]) [0] (by decide) rfl
      have hKc := hK.sub (tys' := []) [] rfl
      have hFc := va_free (wc := [c_X x0 x1 x2 x3 x4 ((f_X_good (f_X_in p1 (0 : Int32) (127 : Int32)) (1 : Int32) ku).2)]) hD hS hA [0] rfl
      refine va_calli (va_runV (As := [.int (1 : Int32), .int (2 : Int32)]) (rest := []) ⟨hx, hb, hml, hown, htB⟩ (c_X_good l dC dI z0 x0 x1 x2 x3 x4 H.size (1 : Int32) (2 : Int32) ((f_X_good (f_X_in p1 (0 : Int32) (127 : Int32)) (1 : Int32) ku).2) (Or.inr rfl)) (cwV 2 htB (gd_V mw_512 mw_514 sw_X_good mw_4 mw_515) rfl rfl rfl (by decide +kernel) ⟨Nat.le_of_ble_eq_true rfl, Nat.le_of_ble_eq_true rfl⟩) (pcx_V (va_recv hKc hPc (ci := 3) (q0 := 0) rfl rfl) hPc hKc hDc hA0 hE hS) rfl rfl hl.1 rfl (lv_room (Nat.le_of_ble_eq_true rfl)) d_X_press_31 ⟨Nat.zero_le _, Nat.zero_le _⟩) hS (fun q _ h => hFc q h) hFc (fun r9 u t H1 locs ht hvm hw hB hz1 hk1 hS => ?_)
      subst hw
      obtain ⟨hP1, hK1, hD1⟩ := hB
      rw [ht] at hP1
      obtain ⟨hP, hD⟩ := va_join (wr := []) (w1 := [c_X x0 x1 x2 x3 x4 ((f_X_good (1 : Int32) (2 : Int32) ((f_X_good (f_X_in p1 (0 : Int32) (127 : Int32)) (1 : Int32) ku).2)).2)]) hP hD [0] [] rfl rfl (by decide) (by decide) hk1 hFc hP1 hD1
      generalize H1 = H at hP hS ⊢
      have hP : va_P (dC, dI) classes [c_X x0 x1 x2 x3 x4 ((f_X_good (1 : Int32) (2 : Int32) ((f_X_good (f_X_in p1 (0 : Int32) (127 : Int32)) (1 : Int32) ku).2)).2)] H := hP.sub [0] rfl
      have hD : va_D A [c_X x0 x1 x2 x3 x4 ((f_X_good (1 : Int32) (2 : Int32) ((f_X_good (f_X_in p1 (0 : Int32) (127 : Int32)) (1 : Int32) ku).2)).2)] := hD.sub [0] (by decide) rfl
      rw [good_ret]
      refine lv_if_ne (tgt := 39) hx hb d_X_press_34 (by decide) (fun _ => ?_) (fun c9 => absurd c9 (by decide))
      refine lv_aload_n hx hb d_X_press_39 rfl (lv_at hl 0 rfl) ?_
      refine lv_sipush (v := 128) hx hb d_X_press_40 (by decide) ?_
      refine lv_iload_n hx hb d_X_press_43 rfl (lv_at hl 1 rfl) ?_
      refine lv_iadd hx hb d_X_press_44 ?_
      refine va_put (D := (dC, dI)) (ci := 3) (v := .int ((128 : Int32) + p1)) (ty := .int) (C := R_X) (T := F_X) (N := 13) hx hb htB i_X t_X t_X_ok n_X hown hK hP hD hS 0 rfl rfl 4 (by decide) (htB _ mw_465) (fun _ h9 => h9) rfl (by decide +kernel) rfl rfl (Nat.le_of_ble_eq_true rfl) d_X_press_45 (fun H locs hP hD hS => ?_)
      have hP : va_P (dC, dI) classes [c_X x0 x1 x2 x3 x4 (upd ((f_X_good (1 : Int32) (2 : Int32) ((f_X_good (f_X_in p1 (0 : Int32) (127 : Int32)) (1 : Int32) ku).2)).2) 0 ((128 : Int32) + p1))] H := hP
      have hD : va_D A [c_X x0 x1 x2 x3 x4 (upd ((f_X_good (1 : Int32) (2 : Int32) ((f_X_good (f_X_in p1 (0 : Int32) (127 : Int32)) (1 : Int32) ku).2)).2) 0 ((128 : Int32) + p1))] := hD
      refine lv_aload_n hx hb d_X_press_48 rfl (lv_at hl 0 rfl) ?_
      refine va_get (D := (dC, dI)) (ci := 3) (v := .int ((128 : Int32) + p1)) (C := R_X) (T := F_X) (N := 13) hx hb htB i_X hown hK hP 0 rfl rfl 4 (by decide) (htB _ mw_465) (fun _ h9 => h9) rfl d_X_press_49 ?_
      have hf : f_X_press p1 ku = (((128 : Int32) + p1), (upd ((f_X_good (1 : Int32) (2 : Int32) ((f_X_good (f_X_in p1 (0 : Int32) (127 : Int32)) (1 : Int32) ku).2)).2) 0 ((128 : Int32) + p1))) := by rw [f_X_press, if_neg c_1, if_pos c_2]
      exact W.iret (v := ((128 : Int32) + p1)) hx hb hr (fun t ht hW => ⟨⟨((128 : Int32) + p1), (), rfl, (congrArg (fun z => z.1) hf).symm, by rw [hf]; exact ⟨by rw [ht]; exact hP, va_K.moved hW.alike hK, hD⟩⟩, hS.F ht⟩) hS.2.2 d_X_press_52
  · refine lv_iconst (v := 0) hx hb d_X_press_15 (by decide) ?_
    have hf : f_X_press p1 ku = ((0 : Int32), (f_X_good (f_X_in p1 (0 : Int32) (127 : Int32)) (1 : Int32) ku).2) := by rw [f_X_press, if_pos c_1]
    exact W.iret (v := (0 : Int32)) hx hb hr (fun t ht hW => ⟨⟨(0 : Int32), (), rfl, (congrArg (fun z => z.1) hf).symm, by rw [hf]; exact ⟨by rw [ht]; exact hP, va_K.moved hW.alike hK, hD⟩⟩, hS.F ht⟩) hS.2.2 d_X_press_16

def f_X_protect (p1 : Int32) (ku : Nat → Int32) : Int32 × (Nat → Int32) :=
  ((ku 2), (upd (upd ku 8 (0 : Int32)) 2 p1))
abbrev Q_X_protect (dC : Nat → ClassId) (dI : Nat → Nat → Nat) (x0 : Nat) (x1 : Nat) (x2 : Nat) (x3 : Nat) (x4 : Nat) (p1 : Int32) (ku : Nat → Int32) (A : Nat → Prop) : Array Value → State → Outcome → State → Prop := va_Qi (fun (r9 : Int32) (_ : Unit) => r9 = (f_X_protect p1 ku).1) (fun _ t => atW (dC, dI) classes A [c_X x0 x1 x2 x3 x4 ((f_X_protect p1 ku).2)] [] t) A
set_option maxHeartbeats 4000000 in
set_option maxRecDepth 100000 in
theorem c_X_protect (l : Launch) (dC : Nat → ClassId) (dI : Nat → Nat → Nat) (z0 : Nat) (x0 : Nat) (x1 : Nat) (x2 : Nat) (x3 : Nat) (x4 : Nat) (sz : Nat) (p1 : Int32) (ku : Nat → Int32) (hpr : (ku 2 = 0 ∨ ku 2 = 1)) (hp1 : (p1 = 0 ∨ p1 = 1)) : Met l y_X_protect w_X_protect ({ frames := 0, cells := 0, slots := 0, locals := 0 }) (PcX (dC, dI) classes z0 [c_X x0 x1 x2 x3 x4 ku] [] sz [.ref x0, .int p1]) (Q_X_protect dC dI x0 x1 x2 x3 x4 p1 ku (va_A [c_X x0 x1 x2 x3 x4 ku] sz)) 0 0 (va_A [c_X x0 x1 x2 x3 x4 ku] sz) := by
  refine hdX (cc := b_X_protect) (maxL := 3) (ret := (some .boolean)) (C := R_X) (Qc := (Q_X_protect dC dI x0 x1 x2 x3 x4 p1 ku)) (by decide) rfl ?_
  intro p e s m below meth c A H hx hb hr hlocks hml hown hin htB hP hK hD hA hA0 hE hS
  have hl := lv_entry ([.ref x0, .int p1]) (n := 3) (Nat.le_of_ble_eq_true rfl)
  rw [lg_entry_eq]
  generalize (lg_sl ([.ref x0, .int p1]) ++ List.replicate (3 - (lg_sl ([.ref x0, .int p1])).length) Slot.unset).toArray = ls at hl ⊢
  have hl : lv_has ls 3 [(0, .ref x0), (1, .int p1)] := hl
  refine lv_aload_n hx hb d_X_protect_0 rfl (lv_at hl 0 rfl) ?_
  refine lv_iconst (v := 0) hx hb d_X_protect_1 (by decide) ?_
  refine va_put (D := (dC, dI)) (ci := 3) (v := .int (0 : Int32)) (ty := .int) (C := R_X) (T := F_X) (N := 13) hx hb htB i_X t_X t_X_ok n_X hown hK hP hD hS 0 rfl rfl 12 (by decide) (htB _ mw_473) (fun _ h9 => h9) rfl (by decide +kernel) rfl rfl (Nat.le_of_ble_eq_true rfl) d_X_protect_2 (fun H locs hP hD hS => ?_)
  have hP : va_P (dC, dI) classes [c_X x0 x1 x2 x3 x4 (upd ku 8 (0 : Int32))] H := hP
  have hD : va_D A [c_X x0 x1 x2 x3 x4 (upd ku 8 (0 : Int32))] := hD
  refine lv_aload_n hx hb d_X_protect_5 rfl (lv_at hl 0 rfl) ?_
  refine va_get (D := (dC, dI)) (ci := 3) (v := .int (ku 2)) (C := R_X) (T := F_X) (N := 13) hx hb htB i_X hown hK hP 0 rfl rfl 6 (by decide) (htB _ mw_467) (fun _ h9 => h9) rfl d_X_protect_6 ?_
  refine lv_istore_n (lv' := [(2, .int (ku 2)), (0, .ref x0), (1, .int p1)]) hx hb d_X_protect_9 rfl hl (by decide) rfl (fun ls hl => ?_)
  refine lv_aload_n hx hb d_X_protect_10 rfl (lv_at hl 1 rfl) ?_
  refine lv_iload_n hx hb d_X_protect_11 rfl (lv_at hl 2 rfl) ?_
  refine va_put (D := (dC, dI)) (ci := 3) (v := .int p1) (ty := .boolean) (C := R_X) (T := F_X) (N := 13) hx hb htB i_X t_X t_X_ok n_X hown hK hP hD hS 0 rfl rfl 6 (by decide) (htB _ mw_467) (fun _ h9 => h9) rfl (by decide +kernel) (nar01 hp1) (fit01 hp1) (Nat.le_of_ble_eq_true rfl) d_X_protect_12 (fun H locs hP hD hS => ?_)
  have hP : va_P (dC, dI) classes [c_X x0 x1 x2 x3 x4 (upd (upd ku 8 (0 : Int32)) 2 p1)] H := hP
  have hD : va_D A [c_X x0 x1 x2 x3 x4 (upd (upd ku 8 (0 : Int32)) 2 p1)] := hD
  refine lv_iload_n hx hb d_X_protect_15 rfl (lv_at hl 0 rfl) ?_
  have hf : f_X_protect p1 ku = ((ku 2), (upd (upd ku 8 (0 : Int32)) 2 p1)) := by rw [f_X_protect]
  exact W.zret (v := (ku 2)) hx hb hr (nar01 hpr) (fun t ht hW => ⟨⟨(ku 2), (), rfl, (congrArg (fun z => z.1) hf).symm, by rw [hf]; exact ⟨by rw [ht]; exact hP, va_K.moved hW.alike hK, hD⟩⟩, hS.F ht⟩) hS.2.2 d_X_protect_16

def f_X_peek (p1 : Int32) (ku m1 : Nat → Int32) : Int32 × (Nat → Int32) :=
  if (f_X_in p1 (0 : Int32) (1007 : Int32)) = (0 : Int32) then
    ((0 : Int32), (f_X_good (f_X_in p1 (0 : Int32) (1007 : Int32)) (1 : Int32) ku).2)
  else
    ((m1 p1.toNatClampNeg), (f_X_good (f_X_in p1 (0 : Int32) (1007 : Int32)) (1 : Int32) ku).2)
abbrev Q_X_peek (dC : Nat → ClassId) (dI : Nat → Nat → Nat) (x0 : Nat) (x1 : Nat) (x2 : Nat) (x3 : Nat) (x4 : Nat) (c1 : ClassId) (p1 : Int32) (ku m1 : Nat → Int32) (A : Nat → Prop) : Array Value → State → Outcome → State → Prop := va_Qi (fun (r9 : Int32) (_ : Unit) => r9 = (f_X_peek p1 ku m1).1) (fun _ t => atW (dC, dI) classes A [c_X x0 x1 x2 x3 x4 ((f_X_peek p1 ku m1).2), c_A x1 c1 1024 m1] [(c1, .int)] t) A
set_option maxHeartbeats 4000000 in
set_option maxRecDepth 100000 in
theorem c_X_peek (l : Launch) (dC : Nat → ClassId) (dI : Nat → Nat → Nat) (z0 : Nat) (x0 : Nat) (x1 : Nat) (x2 : Nat) (x3 : Nat) (x4 : Nat) (c1 : ClassId) (sz : Nat) (p1 : Int32) (ku m1 : Nat → Int32)  : Met l y_X_peek w_X_peek ({ frames := 1, cells := 0, slots := 0, locals := 22 }) (PcX (dC, dI) classes z0 [c_X x0 x1 x2 x3 x4 ku, c_A x1 c1 1024 m1] [(c1, .int)] sz [.ref x0, .int p1]) (Q_X_peek dC dI x0 x1 x2 x3 x4 c1 p1 ku m1 (va_A [c_X x0 x1 x2 x3 x4 ku, c_A x1 c1 1024 m1] sz)) 0 0 (va_A [c_X x0 x1 x2 x3 x4 ku, c_A x1 c1 1024 m1] sz) := by
  refine hdX (cc := b_X_peek) (maxL := 2) (ret := (some .int)) (C := R_X) (Qc := (Q_X_peek dC dI x0 x1 x2 x3 x4 c1 p1 ku m1)) (by decide) rfl ?_
  intro p e s m below meth c A H hx hb hr hlocks hml hown hin htB hP hK hD hA hA0 hE hS
  have hl := lv_entry ([.ref x0, .int p1]) (n := 2) (Nat.le_of_ble_eq_true rfl)
  rw [lg_entry_eq]
  generalize (lg_sl ([.ref x0, .int p1]) ++ List.replicate (2 - (lg_sl ([.ref x0, .int p1])).length) Slot.unset).toArray = ls at hl ⊢
  have hl : lv_has ls 2 [(0, .ref x0), (1, .int p1)] := hl
  refine lv_aload_n hx hb d_X_peek_0 rfl (lv_at hl 0 rfl) ?_
  refine lv_iload_n hx hb d_X_peek_1 rfl (lv_at hl 1 rfl) ?_
  refine lv_iconst (v := 0) hx hb d_X_peek_2 (by decide) ?_
  refine lv_sipush (v := 1007) hx hb d_X_peek_3 (by decide) ?_
  have hPc := hP.sub (ws' := []) [] rfl
  have hDc := hD.sub (ws' := []) [] (by decide) rfl
  have hKc := hK.sub (tys' := []) [] rfl
  have hFc := va_free (wc := []) hD hS hA [] rfl
  refine va_calli (va_runS (As := [.int p1, .int (0 : Int32), .int (1007 : Int32)]) (rest := [.ref x0]) ⟨hx, hb, hml, hown, htB⟩ (c_X_in l dC dI z0  H.size p1 (0 : Int32) (1007 : Int32)) (cwS 3 htB (gd_S mw_509 mw_510 mw_4 mw_511) rfl rfl rfl (by decide +kernel) ⟨Nat.le_of_ble_eq_true rfl, Nat.le_of_ble_eq_true rfl⟩) (pcx_S hPc hKc hDc hA0 hE hS) rfl rfl hl.1 rfl (lv_room (Nat.le_of_ble_eq_true rfl)) d_X_peek_6 ⟨Nat.zero_le _, Nat.zero_le _⟩) hS (fun q _ h => hFc q h) hFc (fun r9 u t H1 locs ht hvm hw hB hz1 hk1 hS => ?_)
  subst hw
  obtain ⟨hP1, hK1, hD1⟩ := hB
  rw [ht] at hP1
  obtain ⟨hP, hD⟩ := va_join (wr := [c_X x0 x1 x2 x3 x4 ku, c_A x1 c1 1024 m1]) (w1 := []) hP hD [] [0, 1] rfl rfl (by decide) (by decide) hk1 hFc hP1 hD1
  generalize H1 = H at hP hS ⊢
  have hP : va_P (dC, dI) classes [c_X x0 x1 x2 x3 x4 ku, c_A x1 c1 1024 m1] H := hP.sub [0, 1] rfl
  have hD : va_D A [c_X x0 x1 x2 x3 x4 ku, c_A x1 c1 1024 m1] := hD.sub [0, 1] (by decide) rfl
  refine lv_iconst (v := 1) hx hb d_X_peek_9 (by decide) ?_
  have hPc := hP.sub (ws' := [c_X x0 x1 x2 x3 x4 ku]) [0] rfl
  have hDc := hD.sub (ws' := [c_X x0 x1 x2 x3 x4 ku]) [0] (by decide) rfl
  have hKc := hK.sub (tys' := []) [] rfl
  have hFc := va_free (wc := [c_X x0 x1 x2 x3 x4 ku]) hD hS hA [0] rfl
  refine va_calli (va_runV (As := [.int (f_X_in p1 (0 : Int32) (1007 : Int32)), .int (1 : Int32)]) (rest := []) ⟨hx, hb, hml, hown, htB⟩ (c_X_good l dC dI z0 x0 x1 x2 x3 x4 H.size (f_X_in p1 (0 : Int32) (1007 : Int32)) (1 : Int32) ku xin_01) (cwV 2 htB (gd_V mw_512 mw_514 sw_X_good mw_4 mw_515) rfl rfl rfl (by decide +kernel) ⟨Nat.le_of_ble_eq_true rfl, Nat.le_of_ble_eq_true rfl⟩) (pcx_V (va_recv hKc hPc (ci := 3) (q0 := 0) rfl rfl) hPc hKc hDc hA0 hE hS) rfl rfl hl.1 rfl (lv_room (Nat.le_of_ble_eq_true rfl)) d_X_peek_10 ⟨Nat.zero_le _, Nat.zero_le _⟩) hS (fun q _ h => hFc q h) hFc (fun r9 u t H1 locs ht hvm hw hB hz1 hk1 hS => ?_)
  subst hw
  obtain ⟨hP1, hK1, hD1⟩ := hB
  rw [ht] at hP1
  obtain ⟨hP, hD⟩ := va_join (wr := [c_A x1 c1 1024 m1]) (w1 := [c_X x0 x1 x2 x3 x4 ((f_X_good (f_X_in p1 (0 : Int32) (1007 : Int32)) (1 : Int32) ku).2)]) hP hD [0] [1] rfl rfl (by decide) (by decide) hk1 hFc hP1 hD1
  generalize H1 = H at hP hS ⊢
  have hP : va_P (dC, dI) classes [c_X x0 x1 x2 x3 x4 ((f_X_good (f_X_in p1 (0 : Int32) (1007 : Int32)) (1 : Int32) ku).2), c_A x1 c1 1024 m1] H := hP.sub [1, 0] rfl
  have hD : va_D A [c_X x0 x1 x2 x3 x4 ((f_X_good (f_X_in p1 (0 : Int32) (1007 : Int32)) (1 : Int32) ku).2), c_A x1 c1 1024 m1] := hD.sub [1, 0] (by decide) rfl
  rw [good_ret]
  refine lv_if_eq (tgt := 25) hx hb d_X_peek_13 (by decide) (fun c_1 => ?_) (fun c_1 => ?_)
  · refine lv_iconst (v := 0) hx hb d_X_peek_25 (by decide) ?_
    have hf : f_X_peek p1 ku m1 = ((0 : Int32), (f_X_good (f_X_in p1 (0 : Int32) (1007 : Int32)) (1 : Int32) ku).2) := by rw [f_X_peek, if_pos c_1]
    exact W.iret (v := (0 : Int32)) hx hb hr (fun t ht hW => ⟨⟨(0 : Int32), (), rfl, (congrArg (fun z => z.1) hf).symm, by rw [hf]; exact ⟨by rw [ht]; exact hP, va_K.moved hW.alike hK, hD⟩⟩, hS.F ht⟩) hS.2.2 d_X_peek_26
  · refine lv_aload_n hx hb d_X_peek_16 rfl (lv_at hl 0 rfl) ?_
    refine va_get (D := (dC, dI)) (ci := 3) (v := .ref x1) (C := R_X) (T := F_X) (N := 13) hx hb htB i_X hown hK hP 0 rfl rfl 0 (by decide) (htB _ mw_461) (fun _ h9 => h9) rfl d_X_peek_17 ?_
    refine lv_iload_n hx hb d_X_peek_20 rfl (lv_at hl 1 rfl) ?_
    refine va_iald hx hb hK hP 1 0 rfl rfl (xi_peek c_1) d_X_peek_21 ?_
    refine lv_goto (tgt := 26) hx hb d_X_peek_22 (by decide) ?_
    have hf : f_X_peek p1 ku m1 = ((m1 p1.toNatClampNeg), (f_X_good (f_X_in p1 (0 : Int32) (1007 : Int32)) (1 : Int32) ku).2) := by rw [f_X_peek, if_neg c_1]
    exact W.iret (v := (m1 p1.toNatClampNeg)) hx hb hr (fun t ht hW => ⟨⟨(m1 p1.toNatClampNeg), (), rfl, (congrArg (fun z => z.1) hf).symm, by rw [hf]; exact ⟨by rw [ht]; exact hP, va_K.moved hW.alike hK, hD⟩⟩, hS.F ht⟩) hS.2.2 d_X_peek_26

def f_X_get (p1 : Int32) (ku m3 : Nat → Int32) : Int32 × (Nat → Int32) :=
  if (f_X_in p1 (0 : Int32) (9 : Int32)) = (0 : Int32) then
    ((0 : Int32), (f_X_good (f_X_in p1 (0 : Int32) (9 : Int32)) (1 : Int32) ku).2)
  else
    if (5 : Int32) ≤ p1 then
      if p1 = (5 : Int32) then
        ((f_X_status ((f_X_good (f_X_in p1 (0 : Int32) (9 : Int32)) (1 : Int32) ku).2) m3), (f_X_good (f_X_in p1 (0 : Int32) (9 : Int32)) (1 : Int32) ku).2)
      else
        if p1 = (6 : Int32) then
          ((((f_X_good (f_X_in p1 (0 : Int32) (9 : Int32)) (1 : Int32) ku).2) 3), (f_X_good (f_X_in p1 (0 : Int32) (9 : Int32)) (1 : Int32) ku).2)
        else
          if p1 = (7 : Int32) then
            ((((f_X_good (f_X_in p1 (0 : Int32) (9 : Int32)) (1 : Int32) ku).2) 0), (f_X_good (f_X_in p1 (0 : Int32) (9 : Int32)) (1 : Int32) ku).2)
          else
            if p1 = (8 : Int32) then
              ((((f_X_good (f_X_in p1 (0 : Int32) (9 : Int32)) (1 : Int32) ku).2) 1), (f_X_good (f_X_in p1 (0 : Int32) (9 : Int32)) (1 : Int32) ku).2)
            else
              ((((f_X_good (f_X_in p1 (0 : Int32) (9 : Int32)) (1 : Int32) ku).2) 5), (f_X_good (f_X_in p1 (0 : Int32) (9 : Int32)) (1 : Int32) ku).2)
    else
      ((m3 p1.toNatClampNeg), (f_X_good (f_X_in p1 (0 : Int32) (9 : Int32)) (1 : Int32) ku).2)
abbrev Q_X_get (dC : Nat → ClassId) (dI : Nat → Nat → Nat) (x0 : Nat) (x1 : Nat) (x2 : Nat) (x3 : Nat) (x4 : Nat) (c3 : ClassId) (p1 : Int32) (ku m3 : Nat → Int32) (A : Nat → Prop) : Array Value → State → Outcome → State → Prop := va_Qi (fun (r9 : Int32) (_ : Unit) => r9 = (f_X_get p1 ku m3).1) (fun _ t => atW (dC, dI) classes A [c_X x0 x1 x2 x3 x4 ((f_X_get p1 ku m3).2), c_A x3 c3 9 m3] [(c3, .int)] t) A
set_option maxHeartbeats 4000000 in
set_option maxRecDepth 100000 in
theorem c_X_get (l : Launch) (dC : Nat → ClassId) (dI : Nat → Nat → Nat) (z0 : Nat) (x0 : Nat) (x1 : Nat) (x2 : Nat) (x3 : Nat) (x4 : Nat) (c3 : ClassId) (sz : Nat) (p1 : Int32) (ku m3 : Nat → Int32)  : Met l y_X_get w_X_get ({ frames := 1, cells := 0, slots := 0, locals := 22 }) (PcX (dC, dI) classes z0 [c_X x0 x1 x2 x3 x4 ku, c_A x3 c3 9 m3] [(c3, .int)] sz [.ref x0, .int p1]) (Q_X_get dC dI x0 x1 x2 x3 x4 c3 p1 ku m3 (va_A [c_X x0 x1 x2 x3 x4 ku, c_A x3 c3 9 m3] sz)) 0 0 (va_A [c_X x0 x1 x2 x3 x4 ku, c_A x3 c3 9 m3] sz) := by
  refine hdX (cc := b_X_get) (maxL := 2) (ret := (some .int)) (C := R_X) (Qc := (Q_X_get dC dI x0 x1 x2 x3 x4 c3 p1 ku m3)) (by decide) rfl ?_
  intro p e s m below meth c A H hx hb hr hlocks hml hown hin htB hP hK hD hA hA0 hE hS
  have hl := lv_entry ([.ref x0, .int p1]) (n := 2) (Nat.le_of_ble_eq_true rfl)
  rw [lg_entry_eq]
  generalize (lg_sl ([.ref x0, .int p1]) ++ List.replicate (2 - (lg_sl ([.ref x0, .int p1])).length) Slot.unset).toArray = ls at hl ⊢
  have hl : lv_has ls 2 [(0, .ref x0), (1, .int p1)] := hl
  refine lv_aload_n hx hb d_X_get_0 rfl (lv_at hl 0 rfl) ?_
  refine lv_iload_n hx hb d_X_get_1 rfl (lv_at hl 1 rfl) ?_
  refine lv_iconst (v := 0) hx hb d_X_get_2 (by decide) ?_
  refine lv_bipush (v := 9) hx hb d_X_get_3 (by decide) ?_
  have hPc := hP.sub (ws' := []) [] rfl
  have hDc := hD.sub (ws' := []) [] (by decide) rfl
  have hKc := hK.sub (tys' := []) [] rfl
  have hFc := va_free (wc := []) hD hS hA [] rfl
  refine va_calli (va_runS (As := [.int p1, .int (0 : Int32), .int (9 : Int32)]) (rest := [.ref x0]) ⟨hx, hb, hml, hown, htB⟩ (c_X_in l dC dI z0  H.size p1 (0 : Int32) (9 : Int32)) (cwS 3 htB (gd_S mw_509 mw_510 mw_4 mw_511) rfl rfl rfl (by decide +kernel) ⟨Nat.le_of_ble_eq_true rfl, Nat.le_of_ble_eq_true rfl⟩) (pcx_S hPc hKc hDc hA0 hE hS) rfl rfl hl.1 rfl (lv_room (Nat.le_of_ble_eq_true rfl)) d_X_get_5 ⟨Nat.zero_le _, Nat.zero_le _⟩) hS (fun q _ h => hFc q h) hFc (fun r9 u t H1 locs ht hvm hw hB hz1 hk1 hS => ?_)
  subst hw
  obtain ⟨hP1, hK1, hD1⟩ := hB
  rw [ht] at hP1
  obtain ⟨hP, hD⟩ := va_join (wr := [c_X x0 x1 x2 x3 x4 ku, c_A x3 c3 9 m3]) (w1 := []) hP hD [] [0, 1] rfl rfl (by decide) (by decide) hk1 hFc hP1 hD1
  generalize H1 = H at hP hS ⊢
  have hP : va_P (dC, dI) classes [c_X x0 x1 x2 x3 x4 ku, c_A x3 c3 9 m3] H := hP.sub [0, 1] rfl
  have hD : va_D A [c_X x0 x1 x2 x3 x4 ku, c_A x3 c3 9 m3] := hD.sub [0, 1] (by decide) rfl
  refine lv_iconst (v := 1) hx hb d_X_get_8 (by decide) ?_
  have hPc := hP.sub (ws' := [c_X x0 x1 x2 x3 x4 ku]) [0] rfl
  have hDc := hD.sub (ws' := [c_X x0 x1 x2 x3 x4 ku]) [0] (by decide) rfl
  have hKc := hK.sub (tys' := []) [] rfl
  have hFc := va_free (wc := [c_X x0 x1 x2 x3 x4 ku]) hD hS hA [0] rfl
  refine va_calli (va_runV (As := [.int (f_X_in p1 (0 : Int32) (9 : Int32)), .int (1 : Int32)]) (rest := []) ⟨hx, hb, hml, hown, htB⟩ (c_X_good l dC dI z0 x0 x1 x2 x3 x4 H.size (f_X_in p1 (0 : Int32) (9 : Int32)) (1 : Int32) ku xin_01) (cwV 2 htB (gd_V mw_512 mw_514 sw_X_good mw_4 mw_515) rfl rfl rfl (by decide +kernel) ⟨Nat.le_of_ble_eq_true rfl, Nat.le_of_ble_eq_true rfl⟩) (pcx_V (va_recv hKc hPc (ci := 3) (q0 := 0) rfl rfl) hPc hKc hDc hA0 hE hS) rfl rfl hl.1 rfl (lv_room (Nat.le_of_ble_eq_true rfl)) d_X_get_9 ⟨Nat.zero_le _, Nat.zero_le _⟩) hS (fun q _ h => hFc q h) hFc (fun r9 u t H1 locs ht hvm hw hB hz1 hk1 hS => ?_)
  subst hw
  obtain ⟨hP1, hK1, hD1⟩ := hB
  rw [ht] at hP1
  obtain ⟨hP, hD⟩ := va_join (wr := [c_A x3 c3 9 m3]) (w1 := [c_X x0 x1 x2 x3 x4 ((f_X_good (f_X_in p1 (0 : Int32) (9 : Int32)) (1 : Int32) ku).2)]) hP hD [0] [1] rfl rfl (by decide) (by decide) hk1 hFc hP1 hD1
  generalize H1 = H at hP hS ⊢
  have hP : va_P (dC, dI) classes [c_X x0 x1 x2 x3 x4 ((f_X_good (f_X_in p1 (0 : Int32) (9 : Int32)) (1 : Int32) ku).2), c_A x3 c3 9 m3] H := hP.sub [1, 0] rfl
  have hD : va_D A [c_X x0 x1 x2 x3 x4 ((f_X_good (f_X_in p1 (0 : Int32) (9 : Int32)) (1 : Int32) ku).2), c_A x3 c3 9 m3] := hD.sub [1, 0] (by decide) rfl
  rw [good_ret]
  refine lv_if_ne (tgt := 17) hx hb d_X_get_12 (by decide) (fun c_1 => ?_) (fun c_1 => ?_)
  · refine lv_iload_n hx hb d_X_get_17 rfl (lv_at hl 1 rfl) ?_
    refine lv_iconst (v := 5) hx hb d_X_get_18 (by decide) ?_
    refine lv_icmp_ge (tgt := 29) hx hb d_X_get_19 (by decide) (fun c_2 => ?_) (fun c_2 => ?_)
    · refine lv_iload_n hx hb d_X_get_29 rfl (lv_at hl 1 rfl) ?_
      refine lv_iconst (v := 5) hx hb d_X_get_30 (by decide) ?_
      refine lv_icmp_ne (tgt := 41) hx hb d_X_get_31 (by decide) (fun c_3 => ?_) (fun c_3 => ?_)
      · refine lv_iload_n hx hb d_X_get_41 rfl (lv_at hl 1 rfl) ?_
        refine lv_bipush (v := 6) hx hb d_X_get_42 (by decide) ?_
        refine lv_icmp_ne (tgt := 54) hx hb d_X_get_44 (by decide) (fun c_4 => ?_) (fun c_4 => ?_)
        · refine lv_iload_n hx hb d_X_get_54 rfl (lv_at hl 1 rfl) ?_
          refine lv_bipush (v := 7) hx hb d_X_get_55 (by decide) ?_
          refine lv_icmp_ne (tgt := 67) hx hb d_X_get_57 (by decide) (fun c_5 => ?_) (fun c_5 => ?_)
          · refine lv_iload_n hx hb d_X_get_67 rfl (lv_at hl 1 rfl) ?_
            refine lv_bipush (v := 8) hx hb d_X_get_68 (by decide) ?_
            refine lv_icmp_ne (tgt := 80) hx hb d_X_get_70 (by decide) (fun c_6 => ?_) (fun c_6 => ?_)
            · refine lv_aload_n hx hb d_X_get_80 rfl (lv_at hl 0 rfl) ?_
              refine va_get (D := (dC, dI)) (ci := 3) (v := .int (((f_X_good (f_X_in p1 (0 : Int32) (9 : Int32)) (1 : Int32) ku).2) 5)) (C := R_X) (T := F_X) (N := 13) hx hb htB i_X hown hK hP 0 rfl rfl 9 (by decide) (htB _ mw_470) (fun _ h9 => h9) rfl d_X_get_81 ?_
              have hf : f_X_get p1 ku m3 = ((((f_X_good (f_X_in p1 (0 : Int32) (9 : Int32)) (1 : Int32) ku).2) 5), (f_X_good (f_X_in p1 (0 : Int32) (9 : Int32)) (1 : Int32) ku).2) := by rw [f_X_get, if_neg c_1, if_pos c_2, if_neg c_3, if_neg c_4, if_neg c_5, if_neg c_6]
              exact W.iret (v := (((f_X_good (f_X_in p1 (0 : Int32) (9 : Int32)) (1 : Int32) ku).2) 5)) hx hb hr (fun t ht hW => ⟨⟨(((f_X_good (f_X_in p1 (0 : Int32) (9 : Int32)) (1 : Int32) ku).2) 5), (), rfl, (congrArg (fun z => z.1) hf).symm, by rw [hf]; exact ⟨by rw [ht]; exact hP, va_K.moved hW.alike hK, hD⟩⟩, hS.F ht⟩) hS.2.2 d_X_get_84
            · refine lv_aload_n hx hb d_X_get_73 rfl (lv_at hl 0 rfl) ?_
              refine va_get (D := (dC, dI)) (ci := 3) (v := .int (((f_X_good (f_X_in p1 (0 : Int32) (9 : Int32)) (1 : Int32) ku).2) 1)) (C := R_X) (T := F_X) (N := 13) hx hb htB i_X hown hK hP 0 rfl rfl 5 (by decide) (htB _ mw_466) (fun _ h9 => h9) rfl d_X_get_74 ?_
              refine lv_goto (tgt := 84) hx hb d_X_get_77 (by decide) ?_
              have hf : f_X_get p1 ku m3 = ((((f_X_good (f_X_in p1 (0 : Int32) (9 : Int32)) (1 : Int32) ku).2) 1), (f_X_good (f_X_in p1 (0 : Int32) (9 : Int32)) (1 : Int32) ku).2) := by rw [f_X_get, if_neg c_1, if_pos c_2, if_neg c_3, if_neg c_4, if_neg c_5, if_pos c_6]
              exact W.iret (v := (((f_X_good (f_X_in p1 (0 : Int32) (9 : Int32)) (1 : Int32) ku).2) 1)) hx hb hr (fun t ht hW => ⟨⟨(((f_X_good (f_X_in p1 (0 : Int32) (9 : Int32)) (1 : Int32) ku).2) 1), (), rfl, (congrArg (fun z => z.1) hf).symm, by rw [hf]; exact ⟨by rw [ht]; exact hP, va_K.moved hW.alike hK, hD⟩⟩, hS.F ht⟩) hS.2.2 d_X_get_84
          · refine lv_aload_n hx hb d_X_get_60 rfl (lv_at hl 0 rfl) ?_
            refine va_get (D := (dC, dI)) (ci := 3) (v := .int (((f_X_good (f_X_in p1 (0 : Int32) (9 : Int32)) (1 : Int32) ku).2) 0)) (C := R_X) (T := F_X) (N := 13) hx hb htB i_X hown hK hP 0 rfl rfl 4 (by decide) (htB _ mw_465) (fun _ h9 => h9) rfl d_X_get_61 ?_
            refine lv_goto (tgt := 84) hx hb d_X_get_64 (by decide) ?_
            have hf : f_X_get p1 ku m3 = ((((f_X_good (f_X_in p1 (0 : Int32) (9 : Int32)) (1 : Int32) ku).2) 0), (f_X_good (f_X_in p1 (0 : Int32) (9 : Int32)) (1 : Int32) ku).2) := by rw [f_X_get, if_neg c_1, if_pos c_2, if_neg c_3, if_neg c_4, if_pos c_5]
            exact W.iret (v := (((f_X_good (f_X_in p1 (0 : Int32) (9 : Int32)) (1 : Int32) ku).2) 0)) hx hb hr (fun t ht hW => ⟨⟨(((f_X_good (f_X_in p1 (0 : Int32) (9 : Int32)) (1 : Int32) ku).2) 0), (), rfl, (congrArg (fun z => z.1) hf).symm, by rw [hf]; exact ⟨by rw [ht]; exact hP, va_K.moved hW.alike hK, hD⟩⟩, hS.F ht⟩) hS.2.2 d_X_get_84
        · refine lv_aload_n hx hb d_X_get_47 rfl (lv_at hl 0 rfl) ?_
          refine va_get (D := (dC, dI)) (ci := 3) (v := .int (((f_X_good (f_X_in p1 (0 : Int32) (9 : Int32)) (1 : Int32) ku).2) 3)) (C := R_X) (T := F_X) (N := 13) hx hb htB i_X hown hK hP 0 rfl rfl 7 (by decide) (htB _ mw_468) (fun _ h9 => h9) rfl d_X_get_48 ?_
          refine lv_goto (tgt := 84) hx hb d_X_get_51 (by decide) ?_
          have hf : f_X_get p1 ku m3 = ((((f_X_good (f_X_in p1 (0 : Int32) (9 : Int32)) (1 : Int32) ku).2) 3), (f_X_good (f_X_in p1 (0 : Int32) (9 : Int32)) (1 : Int32) ku).2) := by rw [f_X_get, if_neg c_1, if_pos c_2, if_neg c_3, if_pos c_4]
          exact W.iret (v := (((f_X_good (f_X_in p1 (0 : Int32) (9 : Int32)) (1 : Int32) ku).2) 3)) hx hb hr (fun t ht hW => ⟨⟨(((f_X_good (f_X_in p1 (0 : Int32) (9 : Int32)) (1 : Int32) ku).2) 3), (), rfl, (congrArg (fun z => z.1) hf).symm, by rw [hf]; exact ⟨by rw [ht]; exact hP, va_K.moved hW.alike hK, hD⟩⟩, hS.F ht⟩) hS.2.2 d_X_get_84
      · refine lv_aload_n hx hb d_X_get_34 rfl (lv_at hl 0 rfl) ?_
        have hPc := hP.sub (ws' := [c_X x0 x1 x2 x3 x4 ((f_X_good (f_X_in p1 (0 : Int32) (9 : Int32)) (1 : Int32) ku).2), c_A x3 c3 9 m3]) [0, 1] rfl
        have hDc := hD.sub (ws' := [c_X x0 x1 x2 x3 x4 ((f_X_good (f_X_in p1 (0 : Int32) (9 : Int32)) (1 : Int32) ku).2), c_A x3 c3 9 m3]) [0, 1] (by decide) rfl
        have hKc := hK.sub (tys' := [(c3, .int)]) [0] rfl
        have hFc := va_free (wc := [c_X x0 x1 x2 x3 x4 ((f_X_good (f_X_in p1 (0 : Int32) (9 : Int32)) (1 : Int32) ku).2), c_A x3 c3 9 m3]) hD hS hA [0, 1] rfl
        refine va_calli (va_runV (As := []) (rest := []) ⟨hx, hb, hml, hown, htB⟩ (c_X_status l dC dI z0 x0 x1 x2 x3 x4 c3 H.size ((f_X_good (f_X_in p1 (0 : Int32) (9 : Int32)) (1 : Int32) ku).2) m3) (cwV 0 htB (gd_V mw_524 mw_526 sw_X_status mw_4 mw_527) rfl rfl rfl (by decide +kernel) ⟨Nat.le_of_ble_eq_true rfl, Nat.le_of_ble_eq_true rfl⟩) (pcx_V (va_recv hKc hPc (ci := 3) (q0 := 0) rfl rfl) hPc hKc hDc hA0 hE hS) rfl rfl hl.1 rfl (lv_room (Nat.le_of_ble_eq_true rfl)) d_X_get_35 ⟨Nat.zero_le _, Nat.zero_le _⟩) hS (fun q _ h => hFc q h) hFc (fun r9 u t H1 locs ht hvm hw hB hz1 hk1 hS => ?_)
        subst hw
        obtain ⟨hP1, hK1, hD1⟩ := hB
        rw [ht] at hP1
        obtain ⟨hP, hD⟩ := va_join (wr := []) (w1 := [c_X x0 x1 x2 x3 x4 ((f_X_good (f_X_in p1 (0 : Int32) (9 : Int32)) (1 : Int32) ku).2), c_A x3 c3 9 m3]) hP hD [0, 1] [] rfl rfl (by decide) (by decide) hk1 hFc hP1 hD1
        generalize H1 = H at hP hS ⊢
        have hP : va_P (dC, dI) classes [c_X x0 x1 x2 x3 x4 ((f_X_good (f_X_in p1 (0 : Int32) (9 : Int32)) (1 : Int32) ku).2), c_A x3 c3 9 m3] H := hP.sub [0, 1] rfl
        have hD : va_D A [c_X x0 x1 x2 x3 x4 ((f_X_good (f_X_in p1 (0 : Int32) (9 : Int32)) (1 : Int32) ku).2), c_A x3 c3 9 m3] := hD.sub [0, 1] (by decide) rfl
        refine lv_goto (tgt := 84) hx hb d_X_get_38 (by decide) ?_
        have hf : f_X_get p1 ku m3 = ((f_X_status ((f_X_good (f_X_in p1 (0 : Int32) (9 : Int32)) (1 : Int32) ku).2) m3), (f_X_good (f_X_in p1 (0 : Int32) (9 : Int32)) (1 : Int32) ku).2) := by rw [f_X_get, if_neg c_1, if_pos c_2, if_pos c_3]
        exact W.iret (v := (f_X_status ((f_X_good (f_X_in p1 (0 : Int32) (9 : Int32)) (1 : Int32) ku).2) m3)) hx hb hr (fun t ht hW => ⟨⟨(f_X_status ((f_X_good (f_X_in p1 (0 : Int32) (9 : Int32)) (1 : Int32) ku).2) m3), (), rfl, (congrArg (fun z => z.1) hf).symm, by rw [hf]; exact ⟨by rw [ht]; exact hP, va_K.moved hW.alike hK, hD⟩⟩, hS.F ht⟩) hS.2.2 d_X_get_84
    · refine lv_aload_n hx hb d_X_get_22 rfl (lv_at hl 0 rfl) ?_
      refine va_get (D := (dC, dI)) (ci := 3) (v := .ref x3) (C := R_X) (T := F_X) (N := 13) hx hb htB i_X hown hK hP 0 rfl rfl 2 (by decide) (htB _ mw_463) (fun _ h9 => h9) rfl d_X_get_23 ?_
      refine lv_iload_n hx hb d_X_get_26 rfl (lv_at hl 1 rfl) ?_
      refine va_iald hx hb hK hP 1 0 rfl rfl (xi_get c_1 c_2) d_X_get_27 ?_
      have hf : f_X_get p1 ku m3 = ((m3 p1.toNatClampNeg), (f_X_good (f_X_in p1 (0 : Int32) (9 : Int32)) (1 : Int32) ku).2) := by rw [f_X_get, if_neg c_1, if_neg c_2]
      exact W.iret (v := (m3 p1.toNatClampNeg)) hx hb hr (fun t ht hW => ⟨⟨(m3 p1.toNatClampNeg), (), rfl, (congrArg (fun z => z.1) hf).symm, by rw [hf]; exact ⟨by rw [ht]; exact hP, va_K.moved hW.alike hK, hD⟩⟩, hS.F ht⟩) hS.2.2 d_X_get_28
  · refine lv_iconst (v := 0) hx hb d_X_get_15 (by decide) ?_
    have hf : f_X_get p1 ku m3 = ((0 : Int32), (f_X_good (f_X_in p1 (0 : Int32) (9 : Int32)) (1 : Int32) ku).2) := by rw [f_X_get, if_pos c_1]
    exact W.iret (v := (0 : Int32)) hx hb hr (fun t ht hW => ⟨⟨(0 : Int32), (), rfl, (congrArg (fun z => z.1) hf).symm, by rw [hf]; exact ⟨by rw [ht]; exact hP, va_K.moved hW.alike hK, hD⟩⟩, hS.F ht⟩) hS.2.2 d_X_get_16

def f_X_sector (p1 : Int32) (p2 : Int32) (ku m2 : Nat → Int32) : Int32 × (Nat → Int32) :=
  if (f_X_in p1 (0 : Int32) (7 : Int32)) = (0 : Int32) then
    ((0 : Int32), (f_X_good (0 : Int32) (1 : Int32) ku).2)
  else
    if (f_X_in p2 (0 : Int32) (31 : Int32)) = (0 : Int32) then
      ((0 : Int32), (f_X_good (0 : Int32) (1 : Int32) ku).2)
    else
      ((m2 ((((32 : Int32) * p1) + p2).toNatClampNeg)), (f_X_good (1 : Int32) (1 : Int32) ku).2)
abbrev Q_X_sector (dC : Nat → ClassId) (dI : Nat → Nat → Nat) (x0 : Nat) (x1 : Nat) (x2 : Nat) (x3 : Nat) (x4 : Nat) (c2 : ClassId) (p1 : Int32) (p2 : Int32) (ku m2 : Nat → Int32) (A : Nat → Prop) : Array Value → State → Outcome → State → Prop := va_Qi (fun (r9 : Int32) (_ : Unit) => r9 = (f_X_sector p1 p2 ku m2).1) (fun _ t => atW (dC, dI) classes A [c_X x0 x1 x2 x3 x4 ((f_X_sector p1 p2 ku m2).2), c_A x2 c2 256 m2] [(c2, .int)] t) A
set_option maxHeartbeats 4000000 in
set_option maxRecDepth 100000 in
theorem c_X_sector (l : Launch) (dC : Nat → ClassId) (dI : Nat → Nat → Nat) (z0 : Nat) (x0 : Nat) (x1 : Nat) (x2 : Nat) (x3 : Nat) (x4 : Nat) (c2 : ClassId) (sz : Nat) (p1 : Int32) (p2 : Int32) (ku m2 : Nat → Int32)  : Met l y_X_sector w_X_sector ({ frames := 1, cells := 0, slots := 0, locals := 22 }) (PcX (dC, dI) classes z0 [c_X x0 x1 x2 x3 x4 ku, c_A x2 c2 256 m2] [(c2, .int)] sz [.ref x0, .int p1, .int p2]) (Q_X_sector dC dI x0 x1 x2 x3 x4 c2 p1 p2 ku m2 (va_A [c_X x0 x1 x2 x3 x4 ku, c_A x2 c2 256 m2] sz)) 0 0 (va_A [c_X x0 x1 x2 x3 x4 ku, c_A x2 c2 256 m2] sz) := by
  refine hdX (cc := b_X_sector) (maxL := 3) (ret := (some .int)) (C := R_X) (Qc := (Q_X_sector dC dI x0 x1 x2 x3 x4 c2 p1 p2 ku m2)) (by decide) rfl ?_
  intro p e s m below meth c A H hx hb hr hlocks hml hown hin htB hP hK hD hA hA0 hE hS
  have hl := lv_entry ([.ref x0, .int p1, .int p2]) (n := 3) (Nat.le_of_ble_eq_true rfl)
  rw [lg_entry_eq]
  generalize (lg_sl ([.ref x0, .int p1, .int p2]) ++ List.replicate (3 - (lg_sl ([.ref x0, .int p1, .int p2])).length) Slot.unset).toArray = ls at hl ⊢
  have hl : lv_has ls 3 [(0, .ref x0), (1, .int p1), (2, .int p2)] := hl
  refine lv_aload_n hx hb d_X_sector_0 rfl (lv_at hl 0 rfl) ?_
  refine lv_iload_n hx hb d_X_sector_1 rfl (lv_at hl 1 rfl) ?_
  refine lv_iconst (v := 0) hx hb d_X_sector_2 (by decide) ?_
  refine lv_bipush (v := 7) hx hb d_X_sector_3 (by decide) ?_
  have hPc := hP.sub (ws' := []) [] rfl
  have hDc := hD.sub (ws' := []) [] (by decide) rfl
  have hKc := hK.sub (tys' := []) [] rfl
  have hFc := va_free (wc := []) hD hS hA [] rfl
  refine va_calli (va_runS (As := [.int p1, .int (0 : Int32), .int (7 : Int32)]) (rest := [.ref x0]) ⟨hx, hb, hml, hown, htB⟩ (c_X_in l dC dI z0  H.size p1 (0 : Int32) (7 : Int32)) (cwS 3 htB (gd_S mw_509 mw_510 mw_4 mw_511) rfl rfl rfl (by decide +kernel) ⟨Nat.le_of_ble_eq_true rfl, Nat.le_of_ble_eq_true rfl⟩) (pcx_S hPc hKc hDc hA0 hE hS) rfl rfl hl.1 rfl (lv_room (Nat.le_of_ble_eq_true rfl)) d_X_sector_5 ⟨Nat.zero_le _, Nat.zero_le _⟩) hS (fun q _ h => hFc q h) hFc (fun r9 u t H1 locs ht hvm hw hB hz1 hk1 hS => ?_)
  subst hw
  obtain ⟨hP1, hK1, hD1⟩ := hB
  rw [ht] at hP1
  obtain ⟨hP, hD⟩ := va_join (wr := [c_X x0 x1 x2 x3 x4 ku, c_A x2 c2 256 m2]) (w1 := []) hP hD [] [0, 1] rfl rfl (by decide) (by decide) hk1 hFc hP1 hD1
  generalize H1 = H at hP hS ⊢
  have hP : va_P (dC, dI) classes [c_X x0 x1 x2 x3 x4 ku, c_A x2 c2 256 m2] H := hP.sub [0, 1] rfl
  have hD : va_D A [c_X x0 x1 x2 x3 x4 ku, c_A x2 c2 256 m2] := hD.sub [0, 1] (by decide) rfl
  refine lv_if_eq (tgt := 25) hx hb d_X_sector_8 (by decide) (fun c_1 => ?_) (fun c_1 => ?_)
  · refine lv_iconst (v := 0) hx hb d_X_sector_25 (by decide) ?_
    refine lv_iconst (v := 1) hx hb d_X_sector_26 (by decide) ?_
    have hPc := hP.sub (ws' := [c_X x0 x1 x2 x3 x4 ku]) [0] rfl
    have hDc := hD.sub (ws' := [c_X x0 x1 x2 x3 x4 ku]) [0] (by decide) rfl
    have hKc := hK.sub (tys' := []) [] rfl
    have hFc := va_free (wc := [c_X x0 x1 x2 x3 x4 ku]) hD hS hA [0] rfl
    refine va_calli (va_runV (As := [.int (0 : Int32), .int (1 : Int32)]) (rest := []) ⟨hx, hb, hml, hown, htB⟩ (c_X_good l dC dI z0 x0 x1 x2 x3 x4 H.size (0 : Int32) (1 : Int32) ku (Or.inl rfl)) (cwV 2 htB (gd_V mw_512 mw_514 sw_X_good mw_4 mw_515) rfl rfl rfl (by decide +kernel) ⟨Nat.le_of_ble_eq_true rfl, Nat.le_of_ble_eq_true rfl⟩) (pcx_V (va_recv hKc hPc (ci := 3) (q0 := 0) rfl rfl) hPc hKc hDc hA0 hE hS) rfl rfl hl.1 rfl (lv_room (Nat.le_of_ble_eq_true rfl)) d_X_sector_27 ⟨Nat.zero_le _, Nat.zero_le _⟩) hS (fun q _ h => hFc q h) hFc (fun r9 u t H1 locs ht hvm hw hB hz1 hk1 hS => ?_)
    subst hw
    obtain ⟨hP1, hK1, hD1⟩ := hB
    rw [ht] at hP1
    obtain ⟨hP, hD⟩ := va_join (wr := [c_A x2 c2 256 m2]) (w1 := [c_X x0 x1 x2 x3 x4 ((f_X_good (0 : Int32) (1 : Int32) ku).2)]) hP hD [0] [1] rfl rfl (by decide) (by decide) hk1 hFc hP1 hD1
    generalize H1 = H at hP hS ⊢
    have hP : va_P (dC, dI) classes [c_X x0 x1 x2 x3 x4 ((f_X_good (0 : Int32) (1 : Int32) ku).2), c_A x2 c2 256 m2] H := hP.sub [1, 0] rfl
    have hD : va_D A [c_X x0 x1 x2 x3 x4 ((f_X_good (0 : Int32) (1 : Int32) ku).2), c_A x2 c2 256 m2] := hD.sub [1, 0] (by decide) rfl
    rw [good_ret]
    refine lv_if_eq (tgt := 47) hx hb d_X_sector_30 (by decide) (fun _ => ?_) (fun c9 => absurd (show (0 : Int32) = (0 : Int32) from by decide) c9)
    refine lv_iconst (v := 0) hx hb d_X_sector_47 (by decide) ?_
    have hf : f_X_sector p1 p2 ku m2 = ((0 : Int32), (f_X_good (0 : Int32) (1 : Int32) ku).2) := by rw [f_X_sector, if_pos c_1]
    exact W.iret (v := (0 : Int32)) hx hb hr (fun t ht hW => ⟨⟨(0 : Int32), (), rfl, (congrArg (fun z => z.1) hf).symm, by rw [hf]; exact ⟨by rw [ht]; exact hP, va_K.moved hW.alike hK, hD⟩⟩, hS.F ht⟩) hS.2.2 d_X_sector_48
  · refine lv_iload_n hx hb d_X_sector_11 rfl (lv_at hl 2 rfl) ?_
    refine lv_iconst (v := 0) hx hb d_X_sector_12 (by decide) ?_
    refine lv_bipush (v := 31) hx hb d_X_sector_13 (by decide) ?_
    have hPc := hP.sub (ws' := []) [] rfl
    have hDc := hD.sub (ws' := []) [] (by decide) rfl
    have hKc := hK.sub (tys' := []) [] rfl
    have hFc := va_free (wc := []) hD hS hA [] rfl
    refine va_calli (va_runS (As := [.int p2, .int (0 : Int32), .int (31 : Int32)]) (rest := [.ref x0]) ⟨hx, hb, hml, hown, htB⟩ (c_X_in l dC dI z0  H.size p2 (0 : Int32) (31 : Int32)) (cwS 3 htB (gd_S mw_509 mw_510 mw_4 mw_511) rfl rfl rfl (by decide +kernel) ⟨Nat.le_of_ble_eq_true rfl, Nat.le_of_ble_eq_true rfl⟩) (pcx_S hPc hKc hDc hA0 hE hS) rfl rfl hl.1 rfl (lv_room (Nat.le_of_ble_eq_true rfl)) d_X_sector_15 ⟨Nat.zero_le _, Nat.zero_le _⟩) hS (fun q _ h => hFc q h) hFc (fun r9 u t H1 locs ht hvm hw hB hz1 hk1 hS => ?_)
    subst hw
    obtain ⟨hP1, hK1, hD1⟩ := hB
    rw [ht] at hP1
    obtain ⟨hP, hD⟩ := va_join (wr := [c_X x0 x1 x2 x3 x4 ku, c_A x2 c2 256 m2]) (w1 := []) hP hD [] [0, 1] rfl rfl (by decide) (by decide) hk1 hFc hP1 hD1
    generalize H1 = H at hP hS ⊢
    have hP : va_P (dC, dI) classes [c_X x0 x1 x2 x3 x4 ku, c_A x2 c2 256 m2] H := hP.sub [0, 1] rfl
    have hD : va_D A [c_X x0 x1 x2 x3 x4 ku, c_A x2 c2 256 m2] := hD.sub [0, 1] (by decide) rfl
    refine lv_if_eq (tgt := 25) hx hb d_X_sector_18 (by decide) (fun c_2 => ?_) (fun c_2 => ?_)
    · refine lv_iconst (v := 0) hx hb d_X_sector_25 (by decide) ?_
      refine lv_iconst (v := 1) hx hb d_X_sector_26 (by decide) ?_
      have hPc := hP.sub (ws' := [c_X x0 x1 x2 x3 x4 ku]) [0] rfl
      have hDc := hD.sub (ws' := [c_X x0 x1 x2 x3 x4 ku]) [0] (by decide) rfl
      have hKc := hK.sub (tys' := []) [] rfl
      have hFc := va_free (wc := [c_X x0 x1 x2 x3 x4 ku]) hD hS hA [0] rfl
      refine va_calli (va_runV (As := [.int (0 : Int32), .int (1 : Int32)]) (rest := []) ⟨hx, hb, hml, hown, htB⟩ (c_X_good l dC dI z0 x0 x1 x2 x3 x4 H.size (0 : Int32) (1 : Int32) ku (Or.inl rfl)) (cwV 2 htB (gd_V mw_512 mw_514 sw_X_good mw_4 mw_515) rfl rfl rfl (by decide +kernel) ⟨Nat.le_of_ble_eq_true rfl, Nat.le_of_ble_eq_true rfl⟩) (pcx_V (va_recv hKc hPc (ci := 3) (q0 := 0) rfl rfl) hPc hKc hDc hA0 hE hS) rfl rfl hl.1 rfl (lv_room (Nat.le_of_ble_eq_true rfl)) d_X_sector_27 ⟨Nat.zero_le _, Nat.zero_le _⟩) hS (fun q _ h => hFc q h) hFc (fun r9 u t H1 locs ht hvm hw hB hz1 hk1 hS => ?_)
      subst hw
      obtain ⟨hP1, hK1, hD1⟩ := hB
      rw [ht] at hP1
      obtain ⟨hP, hD⟩ := va_join (wr := [c_A x2 c2 256 m2]) (w1 := [c_X x0 x1 x2 x3 x4 ((f_X_good (0 : Int32) (1 : Int32) ku).2)]) hP hD [0] [1] rfl rfl (by decide) (by decide) hk1 hFc hP1 hD1
      generalize H1 = H at hP hS ⊢
      have hP : va_P (dC, dI) classes [c_X x0 x1 x2 x3 x4 ((f_X_good (0 : Int32) (1 : Int32) ku).2), c_A x2 c2 256 m2] H := hP.sub [1, 0] rfl
      have hD : va_D A [c_X x0 x1 x2 x3 x4 ((f_X_good (0 : Int32) (1 : Int32) ku).2), c_A x2 c2 256 m2] := hD.sub [1, 0] (by decide) rfl
      rw [good_ret]
      refine lv_if_eq (tgt := 47) hx hb d_X_sector_30 (by decide) (fun _ => ?_) (fun c9 => absurd (show (0 : Int32) = (0 : Int32) from by decide) c9)
      refine lv_iconst (v := 0) hx hb d_X_sector_47 (by decide) ?_
      have hf : f_X_sector p1 p2 ku m2 = ((0 : Int32), (f_X_good (0 : Int32) (1 : Int32) ku).2) := by rw [f_X_sector, if_neg c_1, if_pos c_2]
      exact W.iret (v := (0 : Int32)) hx hb hr (fun t ht hW => ⟨⟨(0 : Int32), (), rfl, (congrArg (fun z => z.1) hf).symm, by rw [hf]; exact ⟨by rw [ht]; exact hP, va_K.moved hW.alike hK, hD⟩⟩, hS.F ht⟩) hS.2.2 d_X_sector_48
    · refine lv_iconst (v := 1) hx hb d_X_sector_21 (by decide) ?_
      refine lv_goto (tgt := 26) hx hb d_X_sector_22 (by decide) ?_
      refine lv_iconst (v := 1) hx hb d_X_sector_26 (by decide) ?_
      have hPc := hP.sub (ws' := [c_X x0 x1 x2 x3 x4 ku]) [0] rfl
      have hDc := hD.sub (ws' := [c_X x0 x1 x2 x3 x4 ku]) [0] (by decide) rfl
      have hKc := hK.sub (tys' := []) [] rfl
      have hFc := va_free (wc := [c_X x0 x1 x2 x3 x4 ku]) hD hS hA [0] rfl
      refine va_calli (va_runV (As := [.int (1 : Int32), .int (1 : Int32)]) (rest := []) ⟨hx, hb, hml, hown, htB⟩ (c_X_good l dC dI z0 x0 x1 x2 x3 x4 H.size (1 : Int32) (1 : Int32) ku (Or.inr rfl)) (cwV 2 htB (gd_V mw_512 mw_514 sw_X_good mw_4 mw_515) rfl rfl rfl (by decide +kernel) ⟨Nat.le_of_ble_eq_true rfl, Nat.le_of_ble_eq_true rfl⟩) (pcx_V (va_recv hKc hPc (ci := 3) (q0 := 0) rfl rfl) hPc hKc hDc hA0 hE hS) rfl rfl hl.1 rfl (lv_room (Nat.le_of_ble_eq_true rfl)) d_X_sector_27 ⟨Nat.zero_le _, Nat.zero_le _⟩) hS (fun q _ h => hFc q h) hFc (fun r9 u t H1 locs ht hvm hw hB hz1 hk1 hS => ?_)
      subst hw
      obtain ⟨hP1, hK1, hD1⟩ := hB
      rw [ht] at hP1
      obtain ⟨hP, hD⟩ := va_join (wr := [c_A x2 c2 256 m2]) (w1 := [c_X x0 x1 x2 x3 x4 ((f_X_good (1 : Int32) (1 : Int32) ku).2)]) hP hD [0] [1] rfl rfl (by decide) (by decide) hk1 hFc hP1 hD1
      generalize H1 = H at hP hS ⊢
      have hP : va_P (dC, dI) classes [c_X x0 x1 x2 x3 x4 ((f_X_good (1 : Int32) (1 : Int32) ku).2), c_A x2 c2 256 m2] H := hP.sub [1, 0] rfl
      have hD : va_D A [c_X x0 x1 x2 x3 x4 ((f_X_good (1 : Int32) (1 : Int32) ku).2), c_A x2 c2 256 m2] := hD.sub [1, 0] (by decide) rfl
      rw [good_ret]
      refine lv_if_eq (tgt := 47) hx hb d_X_sector_30 (by decide) (fun c9 => absurd c9 (by decide)) (fun _ => ?_)
      refine lv_aload_n hx hb d_X_sector_33 rfl (lv_at hl 0 rfl) ?_
      refine va_get (D := (dC, dI)) (ci := 3) (v := .ref x2) (C := R_X) (T := F_X) (N := 13) hx hb htB i_X hown hK hP 0 rfl rfl 1 (by decide) (htB _ mw_462) (fun _ h9 => h9) rfl d_X_sector_34 ?_
      refine lv_bipush (v := 32) hx hb d_X_sector_37 (by decide) ?_
      refine lv_iload_n hx hb d_X_sector_39 rfl (lv_at hl 1 rfl) ?_
      refine lv_imul hx hb d_X_sector_40 ?_
      refine lv_iload_n hx hb d_X_sector_41 rfl (lv_at hl 2 rfl) ?_
      refine lv_iadd hx hb d_X_sector_42 ?_
      refine va_iald hx hb hK hP 1 0 rfl rfl (xi_sec c_1 c_2) d_X_sector_43 ?_
      refine lv_goto (tgt := 48) hx hb d_X_sector_44 (by decide) ?_
      have hf : f_X_sector p1 p2 ku m2 = ((m2 ((((32 : Int32) * p1) + p2).toNatClampNeg)), (f_X_good (1 : Int32) (1 : Int32) ku).2) := by rw [f_X_sector, if_neg c_1, if_neg c_2]
      exact W.iret (v := (m2 ((((32 : Int32) * p1) + p2).toNatClampNeg))) hx hb hr (fun t ht hW => ⟨⟨(m2 ((((32 : Int32) * p1) + p2).toNatClampNeg)), (), rfl, (congrArg (fun z => z.1) hf).symm, by rw [hf]; exact ⟨by rw [ht]; exact hP, va_K.moved hW.alike hK, hD⟩⟩, hS.F ht⟩) hS.2.2 d_X_sector_48
