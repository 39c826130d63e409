def f_S_demand (p1 : Int32)  : Nat :=
  if p1 = (0 : Int32) then
    1
  else
    0
abbrev Q_S_demand (dC : Nat → ClassId) (dI : Nat → Nat → Nat)  (p1 : Int32)  (A : Nat → Prop) : Array Value → State → Outcome → State → Prop := va_Qv (fun (_ : Unit) => (f_S_demand p1) = 0) (fun _ t => atW (dC, dI) classes A [] [] t) A
abbrev X_S_demand (dC : Nat → ClassId) (dI : Nat → Nat → Nat)  (p1 : Int32)  (A : Nat → Prop) : String → State → State → Prop := vx_X (fun (_ : Unit) => True) (fun E _ t => ¬ (f_S_demand p1) = 0 ∧ E = exN (f_S_demand p1) ∧ atW (dC, dI) classes A [] [] t) A
set_option maxHeartbeats 4000000 in
set_option maxRecDepth 100000 in
theorem c_S_demand (l : Launch) (hl9 : l.stackTraces = false) (dC : Nat → ClassId) (dI : Nat → Nat → Nat) (z0 : Nat)  (sz : Nat) (p1 : Int32)   : vx_Met l y_S_demand w_S_demand ({ frames := 6, cells := 1, slots := 6, locals := 90 }) (PcX (dC, dI) classes z0 [] [] sz [.int p1]) (Q_S_demand dC dI p1 (va_A [] sz)) (X_S_demand dC dI p1 (va_A [] sz)) 1 6 (va_A [] sz) := by
  refine hdXx (cc := b_S_demand) (maxL := 1) (ret := none) (C := R_S) (Qc := (Q_S_demand dC dI p1)) (XC := (X_S_demand dC dI p1)) (by decide) rfl ?_
  intro p e s m below meth c A H hx hb hr hlocks hEx hml hown hin htB hP hK hD hA hA0 hE hS
  have hl := lv_entry ([.int p1]) (n := 1) (Nat.le_of_ble_eq_true rfl)
  rw [lg_entry_eq]
  generalize (lg_sl ([.int p1]) ++ List.replicate (1 - (lg_sl ([.int p1])).length) Slot.unset).toArray = ls at hl ⊢
  have hl : lv_has ls 1 [(0, .int p1)] := hl
  refine lv_iload_n hx hb d_S_demand_0 rfl (lv_at hl 0 rfl) ?_
  refine lv_if_ne (tgt := 14) hx hb d_S_demand_1 (by decide) (fun c_1 => ?_) (fun c_1 => ?_)
  · have hf : f_S_demand p1 = 0 := by rw [f_S_demand, if_neg c_1]
    refine W.widen (k := 1) (n := 6) (by decide) (by decide) ?_
    exact vx_ret (W.vret hx hb hr (fun t ht hW => ⟨⟨(), rfl, by rw [hf], by exact ⟨by rw [ht]; exact hP, va_K.moved hW.alike hK, hD⟩⟩, hS.F ht⟩) hS.2.2 d_S_demand_14)
  · have hf : f_S_demand p1 = 1 := by rw [f_S_demand, if_pos c_1]
    obtain ⟨sa, hsa⟩ := hE.2.2.2.1 ("SixtyFive", 91, "a number is out of range") (by decide +kernel)
    exact vx_throwS (names := exS) hx hb hl9 hown (by decide +kernel) (by decide +kernel) (htB _ mw_133) (htB _ mw_8) hsa (vx_hat (fun w h => htB w (at_S_93_1 w h)) (fun w h => at_S_93_2 w h) (fun w h => va_Nw.use (enOK_tab (enW_ok w h)) (hE.2.1 w h))) at_S_93_3 (hE.2.2.2.2.2.2.1.narrow hA0) (hE.2.2.2.2.2.2.2.narrow hA0) hS (hl.1.trans hml.symm) d_S_demand_4 d_S_demand_7 d_S_demand_8 d_S_demand_10 d_S_demand_13 (fun x hx => (hEx x hx).elim) (Nat.le_of_ble_eq_true rfl) (Nat.le_of_ble_eq_true rfl) (Nat.le_of_ble_eq_true rfl) (Nat.le_of_ble_eq_true rfl) hlocks (fun t ha h1 h2 => by
      obtain ⟨g1, g2⟩ := thr_at hP hK hD hS ha h1 h2
      exact ⟨(), trivial, by rw [hf]; exact ⟨show ¬ (1 : Nat) = 0 from by decide, rfl, g1⟩, g2⟩) hS.2.2 (Nat.le_of_ble_eq_true rfl) (Nat.le_of_ble_eq_true rfl)

theorem dem_nz {b : Int32} (h : f_S_demand b = 0) : ¬ b = 0 := by
  intro e
  rw [f_S_demand, if_pos e] at h
  exact absurd h (by decide)
theorem dem_0 {b : Int32} (h : ¬ b = 0) : f_S_demand b = 0 := by rw [f_S_demand, if_neg h]
theorem dem_1 {b : Int32} (h : b = 0) : f_S_demand b = 1 := by rw [f_S_demand, if_pos h]
theorem in_peek {x : Int32} (h : f_S_demand (f_S_isWithin x (1007 : Int32)) = 0) : vp_in x 1024 := by
  obtain ⟨j, hj, e⟩ := wi_nat (n := 1007) (by decide) (dem_nz h)
  rw [e]
  exact vp_in_nI (by omega) (by decide)
theorem in_sector {x y : Int32} (h1 : ¬ f_S_isWithin x (7 : Int32) = 0) (h2 : ¬ f_S_isWithin y (31 : Int32) = 0) : vp_in (x * (32 : Int32) + y) 256 := by
  obtain ⟨j, hj, e⟩ := wi_nat (n := 7) (by decide) h1
  obtain ⟨i, hi, e2⟩ := wi_nat (n := 31) (by decide) h2
  rw [e, e2, show (32 : Int32) = nI 32 from rfl, pk_mul, nI_add]
  exact vp_in_nI (by omega) (by decide)

def f_S_put (p1 : Int32) (p2 : Int32) (g r k M D : Nat → Int32) : Nat × Int32 × (Nat → Int32) :=
  if (f_S_demand (f_S_isWithin p1 (5 : Int32))) = 0 then
    if p1 = (4 : Int32) then
      if (f_S_demand (f_S_isWithin p2 (1023 : Int32))) = 0 then
        (0, (f_P_register p1 r), (f_P_setRegister p1 p2 r))
      else
        ((f_S_demand (f_S_isWithin p2 (1023 : Int32))), (0 : Int32), r)
    else
      if (f_S_demand (f_S_isWithin p2 (255 : Int32))) = 0 then
        (0, (f_P_register p1 r), (f_P_setRegister p1 p2 r))
      else
        ((f_S_demand (f_S_isWithin p2 (255 : Int32))), (0 : Int32), r)
  else
    ((f_S_demand (f_S_isWithin p1 (5 : Int32))), (0 : Int32), r)
abbrev Q_S_put (dC : Nat → ClassId) (dI : Nat → Nat → Nat) (qs : Nat) (q0 : Nat) (q1 : Nat) (q2 : Nat) (q3 : Nat) (cM : ClassId) (cD : ClassId) (p1 : Int32) (p2 : Int32) (g r k M D : Nat → Int32) (A : Nat → Prop) : Array Value → State → Outcome → State → Prop := va_Qi (fun (r9 : Int32) (_ : Unit) => (f_S_put p1 p2 g r k M D).1 = 0 ∧ r9 = (f_S_put p1 p2 g r k M D).2.1) (fun _ t => atW (dC, dI) classes A [c_S qs q0 q1 g, c_P q0 q1 ((f_S_put p1 p2 g r k M D).2.2), c_B q1 q2 q3 k, c_A q2 cM 1024 M, c_A q3 cD 256 D] [(cM, .int), (cD, .int)] t) A
abbrev X_S_put (dC : Nat → ClassId) (dI : Nat → Nat → Nat) (qs : Nat) (q0 : Nat) (q1 : Nat) (q2 : Nat) (q3 : Nat) (cM : ClassId) (cD : ClassId) (p1 : Int32) (p2 : Int32) (g r k M D : Nat → Int32) (A : Nat → Prop) : String → State → State → Prop := vx_X (fun (_ : Unit) => True) (fun E _ t => ¬ (f_S_put p1 p2 g r k M D).1 = 0 ∧ E = exN (f_S_put p1 p2 g r k M D).1 ∧ atW (dC, dI) classes A [c_S qs q0 q1 g, c_P q0 q1 ((f_S_put p1 p2 g r k M D).2.2), c_B q1 q2 q3 k, c_A q2 cM 1024 M, c_A q3 cD 256 D] [(cM, .int), (cD, .int)] t) A
set_option maxHeartbeats 4000000 in
set_option maxRecDepth 100000 in
theorem c_S_put (l : Launch) (hl9 : l.stackTraces = false) (dC : Nat → ClassId) (dI : Nat → Nat → Nat) (z0 : Nat) (qs : Nat) (q0 : Nat) (q1 : Nat) (q2 : Nat) (q3 : Nat) (cM : ClassId) (cD : ClassId) (sz : Nat) (p1 : Int32) (p2 : Int32) (g r k M D : Nat → Int32)  : vx_Met l y_S_put w_S_put ({ frames := 7, cells := 2, slots := 12, locals := 110 }) (PcX (dC, dI) classes z0 [c_S qs q0 q1 g, c_P q0 q1 r, c_B q1 q2 q3 k, c_A q2 cM 1024 M, c_A q3 cD 256 D] [(cM, .int), (cD, .int)] sz [.ref qs, .int p1, .int p2]) (Q_S_put dC dI qs q0 q1 q2 q3 cM cD p1 p2 g r k M D (va_A [c_S qs q0 q1 g, c_P q0 q1 r, c_B q1 q2 q3 k, c_A q2 cM 1024 M, c_A q3 cD 256 D] sz)) (X_S_put dC dI qs q0 q1 q2 q3 cM cD p1 p2 g r k M D (va_A [c_S qs q0 q1 g, c_P q0 q1 r, c_B q1 q2 q3 k, c_A q2 cM 1024 M, c_A q3 cD 256 D] sz)) 2 12 (va_A [c_S qs q0 q1 g, c_P q0 q1 r, c_B q1 q2 q3 k, c_A q2 cM 1024 M, c_A q3 cD 256 D] sz) := by
  refine hdXx (cc := b_S_put) (maxL := 4) (ret := (some .int)) (C := R_S) (Qc := (Q_S_put dC dI qs q0 q1 q2 q3 cM cD p1 p2 g r k M D)) (XC := (X_S_put dC dI qs q0 q1 q2 q3 cM cD p1 p2 g r k M D)) (by decide) rfl ?_
  intro p e s m below meth c A H hx hb hr hlocks hEx hml hown hin htB hP hK hD hA hA0 hE hS
  have hl := lv_entry ([.ref qs, .int p1, .int p2]) (n := 4) (Nat.le_of_ble_eq_true rfl)
  rw [lg_entry_eq]
  generalize (lg_sl ([.ref qs, .int p1, .int p2]) ++ List.replicate (4 - (lg_sl ([.ref qs, .int p1, .int p2])).length) Slot.unset).toArray = ls at hl ⊢
  have hl : lv_has ls 4 [(0, .ref qs), (1, .int p1), (2, .int p2)] := hl
  refine lv_iload_n hx hb d_S_put_0 rfl (lv_at hl 1 rfl) ?_
  refine lv_iconst (v := 5) hx hb d_S_put_1 (by decide) ?_
  have hPc := hP.sub (ws' := []) [] rfl
  have hDc := hD.sub (ws' := []) [] (by decide) rfl
  have hKc := hK.sub (tys' := []) [] rfl
  have hFc := va_free (wc := []) hD hS hA [] rfl
  refine va_calli (va_runS (As := [.int p1, .int (5 : Int32)]) (rest := []) ⟨hx, hb, hml, hown, htB⟩ (c_S_isWithin l dC dI z0  H.size p1 (5 : Int32)) (cwS 2 htB (gd_S mw_127 mw_128 mw_1 mw_129) rfl rfl rfl (by decide +kernel) ⟨Nat.le_of_ble_eq_true rfl, Nat.le_of_ble_eq_true rfl⟩) (pcx_S hPc hKc hDc hA0 hE hS) rfl rfl hl.1 rfl (lv_room (Nat.le_of_ble_eq_true rfl)) d_S_put_2 ⟨Nat.le_of_ble_eq_true rfl, Nat.le_of_ble_eq_true rfl⟩) hS (fun q _ h => hFc q h) hFc (fun r9 u t H1 locs ht hvm hw hB hz1 hk1 hS => ?_)
  subst hw
  obtain ⟨hP1, hK1, hD1⟩ := hB
  rw [ht] at hP1
  obtain ⟨hP, hD⟩ := va_join (wr := [c_S qs q0 q1 g, c_P q0 q1 r, c_B q1 q2 q3 k, c_A q2 cM 1024 M, c_A q3 cD 256 D]) (w1 := []) hP hD [] [0, 1, 2, 3, 4] rfl rfl (by decide) (by decide) hk1 hFc hP1 hD1
  generalize H1 = H at hP hS ⊢
  have hP : va_P (dC, dI) classes [c_S qs q0 q1 g, c_P q0 q1 r, c_B q1 q2 q3 k, c_A q2 cM 1024 M, c_A q3 cD 256 D] H := hP.sub [0, 1, 2, 3, 4] rfl
  have hD : va_D A [c_S qs q0 q1 g, c_P q0 q1 r, c_B q1 q2 q3 k, c_A q2 cM 1024 M, c_A q3 cD 256 D] := hD.sub [0, 1, 2, 3, 4] (by decide) rfl
  have hPc := hP.sub (ws' := []) [] rfl
  have hDc := hD.sub (ws' := []) [] (by decide) rfl
  have hKc := hK.sub (tys' := []) [] rfl
  have hFc := va_free (wc := []) hD hS hA [] rfl
  refine vx_callv (vx_runS (As := [.int (f_S_isWithin p1 (5 : Int32))]) (rest := []) ⟨hx, hb, hml, hown, htB⟩ (c_S_demand l hl9 dC dI z0  H.size (f_S_isWithin p1 (5 : Int32))) (cwS 1 htB (gd_S mw_130 mw_131 mw_1 mw_132) rfl rfl rfl (by decide +kernel) ⟨Nat.le_of_ble_eq_true rfl, Nat.le_of_ble_eq_true rfl⟩) (pcx_S hPc hKc hDc hA0 hE hS) rfl rfl hl.1 rfl (lv_room (Nat.le_of_ble_eq_true rfl)) d_S_put_5 ⟨Nat.le_of_ble_eq_true rfl, Nat.le_of_ble_eq_true rfl⟩) hS (fun q _ h => hFc q h) hFc (fun q _ h => hFc q h) (fun E9 ce q9 u t H1 locs ht hvm hw hB hz1 hk1 hS hce hcv hcl => ?_) (fun u t H1 locs ht hvm hw hB hz1 hk1 hS => ?_)
  · obtain ⟨c_1, rfl, hB⟩ := hB
    obtain ⟨hP1, hK1, hD1⟩ := hB
    rw [ht] at hP1
    obtain ⟨hP, hD⟩ := va_join (wr := [c_S qs q0 q1 g, c_P q0 q1 r, c_B q1 q2 q3 k, c_A q2 cM 1024 M, c_A q3 cD 256 D]) (w1 := []) hP hD [] [0, 1, 2, 3, 4] rfl rfl (by decide) (by decide) hk1 hFc hP1 hD1
    generalize H1 = H at hP hS hce ⊢
    have hP : va_P (dC, dI) classes [c_S qs q0 q1 g, c_P q0 q1 r, c_B q1 q2 q3 k, c_A q2 cM 1024 M, c_A q3 cD 256 D] H := hP.sub [0, 1, 2, 3, 4] rfl
    have hD : va_D A [c_S qs q0 q1 g, c_P q0 q1 r, c_B q1 q2 q3 k, c_A q2 cM 1024 M, c_A q3 cD 256 D] := hD.sub [0, 1, 2, 3, 4] (by decide) rfl
    have hf : f_S_put p1 p2 g r k M D = ((f_S_demand (f_S_isWithin p1 (5 : Int32))), (0 : Int32), r) := by rw [f_S_put, if_neg c_1]
    exact vx_widen (k := 2) (n := 12) (by decide) (by decide) (vx_out (E := _) (fun x hx => (hEx x hx).elim) hlocks hce hcv hcl (fun t ht ha => ⟨(), trivial, by rw [hf]; exact ⟨c_1, rfl, ⟨by rw [ht]; exact hP, va_K.moved ha hK, hD⟩⟩, hS.F ht⟩) hS.2.2 (Nat.le_refl _) (Nat.le_refl _))
  · have c_1 := hw
    obtain ⟨hP1, hK1, hD1⟩ := hB
    rw [ht] at hP1
    obtain ⟨hP, hD⟩ := va_join (wr := [c_S qs q0 q1 g, c_P q0 q1 r, c_B q1 q2 q3 k, c_A q2 cM 1024 M, c_A q3 cD 256 D]) (w1 := []) hP hD [] [0, 1, 2, 3, 4] rfl rfl (by decide) (by decide) hk1 hFc hP1 hD1
    generalize H1 = H at hP hS ⊢
    have hP : va_P (dC, dI) classes [c_S qs q0 q1 g, c_P q0 q1 r, c_B q1 q2 q3 k, c_A q2 cM 1024 M, c_A q3 cD 256 D] H := hP.sub [0, 1, 2, 3, 4] rfl
    have hD : va_D A [c_S qs q0 q1 g, c_P q0 q1 r, c_B q1 q2 q3 k, c_A q2 cM 1024 M, c_A q3 cD 256 D] := hD.sub [0, 1, 2, 3, 4] (by decide) rfl
    refine lv_iload_n hx hb d_S_put_8 rfl (lv_at hl 2 rfl) ?_
    refine lv_iload_n hx hb d_S_put_9 rfl (lv_at hl 1 rfl) ?_
    refine lv_iconst (v := 4) hx hb d_S_put_10 (by decide) ?_
    refine lv_icmp_ne (tgt := 20) hx hb d_S_put_11 (by decide) (fun c_2 => ?_) (fun c_2 => ?_)
    · refine lv_sipush (v := 255) hx hb d_S_put_20 (by decide) ?_
      have hPc := hP.sub (ws' := []) [] rfl
      have hDc := hD.sub (ws' := []) [] (by decide) rfl
      have hKc := hK.sub (tys' := []) [] rfl
      have hFc := va_free (wc := []) hD hS hA [] rfl
      refine va_calli (va_runS (As := [.int p2, .int (255 : Int32)]) (rest := []) ⟨hx, hb, hml, hown, htB⟩ (c_S_isWithin l dC dI z0  H.size p2 (255 : Int32)) (cwS 2 htB (gd_S mw_127 mw_128 mw_1 mw_129) rfl rfl rfl (by decide +kernel) ⟨Nat.le_of_ble_eq_true rfl, Nat.le_of_ble_eq_true rfl⟩) (pcx_S hPc hKc hDc hA0 hE hS) rfl rfl hl.1 rfl (lv_room (Nat.le_of_ble_eq_true rfl)) d_S_put_23 ⟨Nat.le_of_ble_eq_true rfl, Nat.le_of_ble_eq_true rfl⟩) hS (fun q _ h => hFc q h) hFc (fun r9 u t H1 locs ht hvm hw hB hz1 hk1 hS => ?_)
      subst hw
      obtain ⟨hP1, hK1, hD1⟩ := hB
      rw [ht] at hP1
      obtain ⟨hP, hD⟩ := va_join (wr := [c_S qs q0 q1 g, c_P q0 q1 r, c_B q1 q2 q3 k, c_A q2 cM 1024 M, c_A q3 cD 256 D]) (w1 := []) hP hD [] [0, 1, 2, 3, 4] rfl rfl (by decide) (by decide) hk1 hFc hP1 hD1
      generalize H1 = H at hP hS ⊢
      have hP : va_P (dC, dI) classes [c_S qs q0 q1 g, c_P q0 q1 r, c_B q1 q2 q3 k, c_A q2 cM 1024 M, c_A q3 cD 256 D] H := hP.sub [0, 1, 2, 3, 4] rfl
      have hD : va_D A [c_S qs q0 q1 g, c_P q0 q1 r, c_B q1 q2 q3 k, c_A q2 cM 1024 M, c_A q3 cD 256 D] := hD.sub [0, 1, 2, 3, 4] (by decide) rfl
      have hPc := hP.sub (ws' := []) [] rfl
      have hDc := hD.sub (ws' := []) [] (by decide) rfl
      have hKc := hK.sub (tys' := []) [] rfl
      have hFc := va_free (wc := []) hD hS hA [] rfl
      refine vx_callv (vx_runS (As := [.int (f_S_isWithin p2 (255 : Int32))]) (rest := []) ⟨hx, hb, hml, hown, htB⟩ (c_S_demand l hl9 dC dI z0  H.size (f_S_isWithin p2 (255 : Int32))) (cwS 1 htB (gd_S mw_130 mw_131 mw_1 mw_132) rfl rfl rfl (by decide +kernel) ⟨Nat.le_of_ble_eq_true rfl, Nat.le_of_ble_eq_true rfl⟩) (pcx_S hPc hKc hDc hA0 hE hS) rfl rfl hl.1 rfl (lv_room (Nat.le_of_ble_eq_true rfl)) d_S_put_26 ⟨Nat.le_of_ble_eq_true rfl, Nat.le_of_ble_eq_true rfl⟩) hS (fun q _ h => hFc q h) hFc (fun q _ h => hFc q h) (fun E9 ce q9 u t H1 locs ht hvm hw hB hz1 hk1 hS hce hcv hcl => ?_) (fun u t H1 locs ht hvm hw hB hz1 hk1 hS => ?_)
      · obtain ⟨c_3, rfl, hB⟩ := hB
        obtain ⟨hP1, hK1, hD1⟩ := hB
        rw [ht] at hP1
        obtain ⟨hP, hD⟩ := va_join (wr := [c_S qs q0 q1 g, c_P q0 q1 r, c_B q1 q2 q3 k, c_A q2 cM 1024 M, c_A q3 cD 256 D]) (w1 := []) hP hD [] [0, 1, 2, 3, 4] rfl rfl (by decide) (by decide) hk1 hFc hP1 hD1
        generalize H1 = H at hP hS hce ⊢
        have hP : va_P (dC, dI) classes [c_S qs q0 q1 g, c_P q0 q1 r, c_B q1 q2 q3 k, c_A q2 cM 1024 M, c_A q3 cD 256 D] H := hP.sub [0, 1, 2, 3, 4] rfl
        have hD : va_D A [c_S qs q0 q1 g, c_P q0 q1 r, c_B q1 q2 q3 k, c_A q2 cM 1024 M, c_A q3 cD 256 D] := hD.sub [0, 1, 2, 3, 4] (by decide) rfl
        have hf : f_S_put p1 p2 g r k M D = ((f_S_demand (f_S_isWithin p2 (255 : Int32))), (0 : Int32), r) := by rw [f_S_put, if_pos c_1, if_neg c_2, if_neg c_3]
        exact vx_widen (k := 2) (n := 12) (by decide) (by decide) (vx_out (E := _) (fun x hx => (hEx x hx).elim) hlocks hce hcv hcl (fun t ht ha => ⟨(), trivial, by rw [hf]; exact ⟨c_3, rfl, ⟨by rw [ht]; exact hP, va_K.moved ha hK, hD⟩⟩, hS.F ht⟩) hS.2.2 (Nat.le_refl _) (Nat.le_refl _))
      · have c_3 := hw
        obtain ⟨hP1, hK1, hD1⟩ := hB
        rw [ht] at hP1
        obtain ⟨hP, hD⟩ := va_join (wr := [c_S qs q0 q1 g, c_P q0 q1 r, c_B q1 q2 q3 k, c_A q2 cM 1024 M, c_A q3 cD 256 D]) (w1 := []) hP hD [] [0, 1, 2, 3, 4] rfl rfl (by decide) (by decide) hk1 hFc hP1 hD1
        generalize H1 = H at hP hS ⊢
        have hP : va_P (dC, dI) classes [c_S qs q0 q1 g, c_P q0 q1 r, c_B q1 q2 q3 k, c_A q2 cM 1024 M, c_A q3 cD 256 D] H := hP.sub [0, 1, 2, 3, 4] rfl
        have hD : va_D A [c_S qs q0 q1 g, c_P q0 q1 r, c_B q1 q2 q3 k, c_A q2 cM 1024 M, c_A q3 cD 256 D] := hD.sub [0, 1, 2, 3, 4] (by decide) rfl
        refine lv_aload_n hx hb d_S_put_29 rfl (lv_at hl 0 rfl) ?_
        refine va_get (D := (dC, dI)) (ci := 0) (v := .ref q0) (C := R_S) (T := F_S) (N := 4) hx hb htB i_S hown hK hP 0 rfl rfl 0 (by decide) (htB _ mw_99) (fun _ h9 => h9) rfl d_S_put_30 ?_
        refine lv_iload_n hx hb d_S_put_33 rfl (lv_at hl 1 rfl) ?_
        have hPc := hP.sub (ws' := [c_P q0 q1 r]) [1] rfl
        have hDc := hD.sub (ws' := [c_P q0 q1 r]) [1] (by decide) rfl
        have hKc := hK.sub (tys' := []) [] rfl
        have hFc := va_free (wc := [c_P q0 q1 r]) hD hS hA [1] rfl
        refine va_calli (va_runVN (As := [.int p1]) (rest := []) ⟨hx, hb, hml, hown, htB⟩ (c_P_register l dC dI z0 q0 q1 H.size p1 r) ⟨va_cnB 1 htB (gd_c mw_223) rfl rfl rfl (hE.2.1 _ ew_220) (htB _ mw_2) (by decide +kernel) ⟨Nat.le_of_ble_eq_true rfl, Nat.le_of_ble_eq_true rfl⟩, htB _ mw_222, htB _ sw_P_register⟩ (pcx_V (va_recv hKc hPc (ci := 1) (q0 := 0) rfl rfl) hPc hKc hDc hA0 hE hS) rfl rfl hl.1 rfl (lv_room (Nat.le_of_ble_eq_true rfl)) d_S_put_34 ⟨Nat.le_of_ble_eq_true rfl, Nat.le_of_ble_eq_true rfl⟩) hS (fun q _ h => hFc q h) hFc (fun r9 u t H1 locs ht hvm hw hB hz1 hk1 hS => ?_)
        subst hw
        obtain ⟨hP1, hK1, hD1⟩ := hB
        rw [ht] at hP1
        obtain ⟨hP, hD⟩ := va_join (wr := [c_S qs q0 q1 g, c_B q1 q2 q3 k, c_A q2 cM 1024 M, c_A q3 cD 256 D]) (w1 := [c_P q0 q1 r]) hP hD [1] [0, 2, 3, 4] rfl rfl (by decide) (by decide) hk1 hFc hP1 hD1
        generalize H1 = H at hP hS ⊢
        have hP : va_P (dC, dI) classes [c_S qs q0 q1 g, c_P q0 q1 r, c_B q1 q2 q3 k, c_A q2 cM 1024 M, c_A q3 cD 256 D] H := hP.sub [0, 4, 1, 2, 3] rfl
        have hD : va_D A [c_S qs q0 q1 g, c_P q0 q1 r, c_B q1 q2 q3 k, c_A q2 cM 1024 M, c_A q3 cD 256 D] := hD.sub [0, 4, 1, 2, 3] (by decide) rfl
        refine lv_istore_n (lv' := [(3, .int (f_P_register p1 r)), (0, .ref qs), (1, .int p1), (2, .int p2)]) hx hb d_S_put_37 rfl hl (by decide) rfl (fun ls hl => ?_)
        refine lv_aload_n hx hb d_S_put_38 rfl (lv_at hl 1 rfl) ?_
        refine va_get (D := (dC, dI)) (ci := 0) (v := .ref q0) (C := R_S) (T := F_S) (N := 4) hx hb htB i_S hown hK hP 0 rfl rfl 0 (by decide) (htB _ mw_99) (fun _ h9 => h9) rfl d_S_put_39 ?_
        refine lv_iload_n hx hb d_S_put_42 rfl (lv_at hl 2 rfl) ?_
        refine lv_iload_n hx hb d_S_put_43 rfl (lv_at hl 3 rfl) ?_
        have hPc := hP.sub (ws' := [c_P q0 q1 r]) [1] rfl
        have hDc := hD.sub (ws' := [c_P q0 q1 r]) [1] (by decide) rfl
        have hKc := hK.sub (tys' := []) [] rfl
        have hFc := va_free (wc := [c_P q0 q1 r]) hD hS hA [1] rfl
        refine va_callv (va_runVN (As := [.int p1, .int p2]) (rest := []) ⟨hx, hb, hml, hown, htB⟩ (c_P_setRegister l dC dI z0 q0 q1 H.size p1 p2 r) ⟨va_cnB 2 htB (gd_c mw_231) rfl rfl rfl (hE.2.1 _ ew_228) (htB _ mw_2) (by decide +kernel) ⟨Nat.le_of_ble_eq_true rfl, Nat.le_of_ble_eq_true rfl⟩, htB _ mw_230, htB _ sw_P_setRegister⟩ (pcx_V (va_recv hKc hPc (ci := 1) (q0 := 0) rfl rfl) hPc hKc hDc hA0 hE hS) rfl rfl hl.1 rfl (lv_room (Nat.le_of_ble_eq_true rfl)) d_S_put_44 ⟨Nat.le_of_ble_eq_true rfl, Nat.le_of_ble_eq_true rfl⟩) hS (fun q _ h => hFc q h) hFc (fun u t H1 locs ht hvm hw hB hz1 hk1 hS => ?_)
        obtain ⟨hP1, hK1, hD1⟩ := hB
        rw [ht] at hP1
        obtain ⟨hP, hD⟩ := va_join (wr := [c_S qs q0 q1 g, c_B q1 q2 q3 k, c_A q2 cM 1024 M, c_A q3 cD 256 D]) (w1 := [c_P q0 q1 (f_P_setRegister p1 p2 r)]) hP hD [1] [0, 2, 3, 4] rfl rfl (by decide) (by decide) hk1 hFc hP1 hD1
        generalize H1 = H at hP hS ⊢
        have hP : va_P (dC, dI) classes [c_S qs q0 q1 g, c_P q0 q1 (f_P_setRegister p1 p2 r), c_B q1 q2 q3 k, c_A q2 cM 1024 M, c_A q3 cD 256 D] H := hP.sub [0, 4, 1, 2, 3] rfl
        have hD : va_D A [c_S qs q0 q1 g, c_P q0 q1 (f_P_setRegister p1 p2 r), c_B q1 q2 q3 k, c_A q2 cM 1024 M, c_A q3 cD 256 D] := hD.sub [0, 4, 1, 2, 3] (by decide) rfl
        refine lv_iload_n hx hb d_S_put_47 rfl (lv_at hl 0 rfl) ?_
        have hf : f_S_put p1 p2 g r k M D = (0, (f_P_register p1 r), (f_P_setRegister p1 p2 r)) := by rw [f_S_put, if_pos c_1, if_neg c_2, if_pos c_3]
        refine W.widen (k := 2) (n := 12) (by decide) (by decide) ?_
        exact vx_ret (W.iret (v := (f_P_register p1 r)) hx hb hr (fun t ht hW => ⟨⟨(f_P_register p1 r), (), rfl, by rw [hf]; exact ⟨rfl, rfl⟩, by rw [hf]; exact ⟨by rw [ht]; exact hP, va_K.moved hW.alike hK, hD⟩⟩, hS.F ht⟩) hS.2.2 d_S_put_48)
    · refine lv_sipush (v := 1023) hx hb d_S_put_14 (by decide) ?_
      refine lv_goto (tgt := 23) hx hb d_S_put_17 (by decide) ?_
      have hPc := hP.sub (ws' := []) [] rfl
      have hDc := hD.sub (ws' := []) [] (by decide) rfl
      have hKc := hK.sub (tys' := []) [] rfl
      have hFc := va_free (wc := []) hD hS hA [] rfl
      refine va_calli (va_runS (As := [.int p2, .int (1023 : Int32)]) (rest := []) ⟨hx, hb, hml, hown, htB⟩ (c_S_isWithin l dC dI z0  H.size p2 (1023 : Int32)) (cwS 2 htB (gd_S mw_127 mw_128 mw_1 mw_129) rfl rfl rfl (by decide +kernel) ⟨Nat.le_of_ble_eq_true rfl, Nat.le_of_ble_eq_true rfl⟩) (pcx_S hPc hKc hDc hA0 hE hS) rfl rfl hl.1 rfl (lv_room (Nat.le_of_ble_eq_true rfl)) d_S_put_23 ⟨Nat.le_of_ble_eq_true rfl, Nat.le_of_ble_eq_true rfl⟩) hS (fun q _ h => hFc q h) hFc (fun r9 u t H1 locs ht hvm hw hB hz1 hk1 hS => ?_)
      subst hw
      obtain ⟨hP1, hK1, hD1⟩ := hB
      rw [ht] at hP1
      obtain ⟨hP, hD⟩ := va_join (wr := [c_S qs q0 q1 g, c_P q0 q1 r, c_B q1 q2 q3 k, c_A q2 cM 1024 M, c_A q3 cD 256 D]) (w1 := []) hP hD [] [0, 1, 2, 3, 4] rfl rfl (by decide) (by decide) hk1 hFc hP1 hD1
      generalize H1 = H at hP hS ⊢
      have hP : va_P (dC, dI) classes [c_S qs q0 q1 g, c_P q0 q1 r, c_B q1 q2 q3 k, c_A q2 cM 1024 M, c_A q3 cD 256 D] H := hP.sub [0, 1, 2, 3, 4] rfl
      have hD : va_D A [c_S qs q0 q1 g, c_P q0 q1 r, c_B q1 q2 q3 k, c_A q2 cM 1024 M, c_A q3 cD 256 D] := hD.sub [0, 1, 2, 3, 4] (by decide) rfl
      have hPc := hP.sub (ws' := []) [] rfl
      have hDc := hD.sub (ws' := []) [] (by decide) rfl
      have hKc := hK.sub (tys' := []) [] rfl
      have hFc := va_free (wc := []) hD hS hA [] rfl
      refine vx_callv (vx_runS (As := [.int (f_S_isWithin p2 (1023 : Int32))]) (rest := []) ⟨hx, hb, hml, hown, htB⟩ (c_S_demand l hl9 dC dI z0  H.size (f_S_isWithin p2 (1023 : Int32))) (cwS 1 htB (gd_S mw_130 mw_131 mw_1 mw_132) rfl rfl rfl (by decide +kernel) ⟨Nat.le_of_ble_eq_true rfl, Nat.le_of_ble_eq_true rfl⟩) (pcx_S hPc hKc hDc hA0 hE hS) rfl rfl hl.1 rfl (lv_room (Nat.le_of_ble_eq_true rfl)) d_S_put_26 ⟨Nat.le_of_ble_eq_true rfl, Nat.le_of_ble_eq_true rfl⟩) hS (fun q _ h => hFc q h) hFc (fun q _ h => hFc q h) (fun E9 ce q9 u t H1 locs ht hvm hw hB hz1 hk1 hS hce hcv hcl => ?_) (fun u t H1 locs ht hvm hw hB hz1 hk1 hS => ?_)
      · obtain ⟨c_3, rfl, hB⟩ := hB
        obtain ⟨hP1, hK1, hD1⟩ := hB
        rw [ht] at hP1
        obtain ⟨hP, hD⟩ := va_join (wr := [c_S qs q0 q1 g, c_P q0 q1 r, c_B q1 q2 q3 k, c_A q2 cM 1024 M, c_A q3 cD 256 D]) (w1 := []) hP hD [] [0, 1, 2, 3, 4] rfl rfl (by decide) (by decide) hk1 hFc hP1 hD1
        generalize H1 = H at hP hS hce ⊢
        have hP : va_P (dC, dI) classes [c_S qs q0 q1 g, c_P q0 q1 r, c_B q1 q2 q3 k, c_A q2 cM 1024 M, c_A q3 cD 256 D] H := hP.sub [0, 1, 2, 3, 4] rfl
        have hD : va_D A [c_S qs q0 q1 g, c_P q0 q1 r, c_B q1 q2 q3 k, c_A q2 cM 1024 M, c_A q3 cD 256 D] := hD.sub [0, 1, 2, 3, 4] (by decide) rfl
        have hf : f_S_put p1 p2 g r k M D = ((f_S_demand (f_S_isWithin p2 (1023 : Int32))), (0 : Int32), r) := by rw [f_S_put, if_pos c_1, if_pos c_2, if_neg c_3]
        exact vx_widen (k := 2) (n := 12) (by decide) (by decide) (vx_out (E := _) (fun x hx => (hEx x hx).elim) hlocks hce hcv hcl (fun t ht ha => ⟨(), trivial, by rw [hf]; exact ⟨c_3, rfl, ⟨by rw [ht]; exact hP, va_K.moved ha hK, hD⟩⟩, hS.F ht⟩) hS.2.2 (Nat.le_refl _) (Nat.le_refl _))
      · have c_3 := hw
        obtain ⟨hP1, hK1, hD1⟩ := hB
        rw [ht] at hP1
        obtain ⟨hP, hD⟩ := va_join (wr := [c_S qs q0 q1 g, c_P q0 q1 r, c_B q1 q2 q3 k, c_A q2 cM 1024 M, c_A q3 cD 256 D]) (w1 := []) hP hD [] [0, 1, 2, 3, 4] rfl rfl (by decide) (by decide) hk1 hFc hP1 hD1
        generalize H1 = H at hP hS ⊢
        have hP : va_P (dC, dI) classes [c_S qs q0 q1 g, c_P q0 q1 r, c_B q1 q2 q3 k, c_A q2 cM 1024 M, c_A q3 cD 256 D] H := hP.sub [0, 1, 2, 3, 4] rfl
        have hD : va_D A [c_S qs q0 q1 g, c_P q0 q1 r, c_B q1 q2 q3 k, c_A q2 cM 1024 M, c_A q3 cD 256 D] := hD.sub [0, 1, 2, 3, 4] (by decide) rfl
        refine lv_aload_n hx hb d_S_put_29 rfl (lv_at hl 0 rfl) ?_
        refine va_get (D := (dC, dI)) (ci := 0) (v := .ref q0) (C := R_S) (T := F_S) (N := 4) hx hb htB i_S hown hK hP 0 rfl rfl 0 (by decide) (htB _ mw_99) (fun _ h9 => h9) rfl d_S_put_30 ?_
        refine lv_iload_n hx hb d_S_put_33 rfl (lv_at hl 1 rfl) ?_
        have hPc := hP.sub (ws' := [c_P q0 q1 r]) [1] rfl
        have hDc := hD.sub (ws' := [c_P q0 q1 r]) [1] (by decide) rfl
        have hKc := hK.sub (tys' := []) [] rfl
        have hFc := va_free (wc := [c_P q0 q1 r]) hD hS hA [1] rfl
        refine va_calli (va_runVN (As := [.int p1]) (rest := []) ⟨hx, hb, hml, hown, htB⟩ (c_P_register l dC dI z0 q0 q1 H.size p1 r) ⟨va_cnB 1 htB (gd_c mw_223) rfl rfl rfl (hE.2.1 _ ew_220) (htB _ mw_2) (by decide +kernel) ⟨Nat.le_of_ble_eq_true rfl, Nat.le_of_ble_eq_true rfl⟩, htB _ mw_222, htB _ sw_P_register⟩ (pcx_V (va_recv hKc hPc (ci := 1) (q0 := 0) rfl rfl) hPc hKc hDc hA0 hE hS) rfl rfl hl.1 rfl (lv_room (Nat.le_of_ble_eq_true rfl)) d_S_put_34 ⟨Nat.le_of_ble_eq_true rfl, Nat.le_of_ble_eq_true rfl⟩) hS (fun q _ h => hFc q h) hFc (fun r9 u t H1 locs ht hvm hw hB hz1 hk1 hS => ?_)
        subst hw
        obtain ⟨hP1, hK1, hD1⟩ := hB
        rw [ht] at hP1
        obtain ⟨hP, hD⟩ := va_join (wr := [c_S qs q0 q1 g, c_B q1 q2 q3 k, c_A q2 cM 1024 M, c_A q3 cD 256 D]) (w1 := [c_P q0 q1 r]) hP hD [1] [0, 2, 3, 4] rfl rfl (by decide) (by decide) hk1 hFc hP1 hD1
        generalize H1 = H at hP hS ⊢
        have hP : va_P (dC, dI) classes [c_S qs q0 q1 g, c_P q0 q1 r, c_B q1 q2 q3 k, c_A q2 cM 1024 M, c_A q3 cD 256 D] H := hP.sub [0, 4, 1, 2, 3] rfl
        have hD : va_D A [c_S qs q0 q1 g, c_P q0 q1 r, c_B q1 q2 q3 k, c_A q2 cM 1024 M, c_A q3 cD 256 D] := hD.sub [0, 4, 1, 2, 3] (by decide) rfl
        refine lv_istore_n (lv' := [(3, .int (f_P_register p1 r)), (0, .ref qs), (1, .int p1), (2, .int p2)]) hx hb d_S_put_37 rfl hl (by decide) rfl (fun ls hl => ?_)
        refine lv_aload_n hx hb d_S_put_38 rfl (lv_at hl 1 rfl) ?_
        refine va_get (D := (dC, dI)) (ci := 0) (v := .ref q0) (C := R_S) (T := F_S) (N := 4) hx hb htB i_S hown hK hP 0 rfl rfl 0 (by decide) (htB _ mw_99) (fun _ h9 => h9) rfl d_S_put_39 ?_
        refine lv_iload_n hx hb d_S_put_42 rfl (lv_at hl 2 rfl) ?_
        refine lv_iload_n hx hb d_S_put_43 rfl (lv_at hl 3 rfl) ?_
        have hPc := hP.sub (ws' := [c_P q0 q1 r]) [1] rfl
        have hDc := hD.sub (ws' := [c_P q0 q1 r]) [1] (by decide) rfl
        have hKc := hK.sub (tys' := []) [] rfl
        have hFc := va_free (wc := [c_P q0 q1 r]) hD hS hA [1] rfl
        refine va_callv (va_runVN (As := [.int p1, .int p2]) (rest := []) ⟨hx, hb, hml, hown, htB⟩ (c_P_setRegister l dC dI z0 q0 q1 H.size p1 p2 r) ⟨va_cnB 2 htB (gd_c mw_231) rfl rfl rfl (hE.2.1 _ ew_228) (htB _ mw_2) (by decide +kernel) ⟨Nat.le_of_ble_eq_true rfl, Nat.le_of_ble_eq_true rfl⟩, htB _ mw_230, htB _ sw_P_setRegister⟩ (pcx_V (va_recv hKc hPc (ci := 1) (q0 := 0) rfl rfl) hPc hKc hDc hA0 hE hS) rfl rfl hl.1 rfl (lv_room (Nat.le_of_ble_eq_true rfl)) d_S_put_44 ⟨Nat.le_of_ble_eq_true rfl, Nat.le_of_ble_eq_true rfl⟩) hS (fun q _ h => hFc q h) hFc (fun u t H1 locs ht hvm hw hB hz1 hk1 hS => ?_)
        obtain ⟨hP1, hK1, hD1⟩ := hB
        rw [ht] at hP1
        obtain ⟨hP, hD⟩ := va_join (wr := [c_S qs q0 q1 g, c_B q1 q2 q3 k, c_A q2 cM 1024 M, c_A q3 cD 256 D]) (w1 := [c_P q0 q1 (f_P_setRegister p1 p2 r)]) hP hD [1] [0, 2, 3, 4] rfl rfl (by decide) (by decide) hk1 hFc hP1 hD1
        generalize H1 = H at hP hS ⊢
        have hP : va_P (dC, dI) classes [c_S qs q0 q1 g, c_P q0 q1 (f_P_setRegister p1 p2 r), c_B q1 q2 q3 k, c_A q2 cM 1024 M, c_A q3 cD 256 D] H := hP.sub [0, 4, 1, 2, 3] rfl
        have hD : va_D A [c_S qs q0 q1 g, c_P q0 q1 (f_P_setRegister p1 p2 r), c_B q1 q2 q3 k, c_A q2 cM 1024 M, c_A q3 cD 256 D] := hD.sub [0, 4, 1, 2, 3] (by decide) rfl
        refine lv_iload_n hx hb d_S_put_47 rfl (lv_at hl 0 rfl) ?_
        have hf : f_S_put p1 p2 g r k M D = (0, (f_P_register p1 r), (f_P_setRegister p1 p2 r)) := by rw [f_S_put, if_pos c_1, if_pos c_2, if_pos c_3]
        refine W.widen (k := 2) (n := 12) (by decide) (by decide) ?_
        exact vx_ret (W.iret (v := (f_P_register p1 r)) hx hb hr (fun t ht hW => ⟨⟨(f_P_register p1 r), (), rfl, by rw [hf]; exact ⟨rfl, rfl⟩, by rw [hf]; exact ⟨by rw [ht]; exact hP, va_K.moved hW.alike hK, hD⟩⟩, hS.F ht⟩) hS.2.2 d_S_put_48)

def f_S_press (p1 : Int32) (g r k M D : Nat → Int32) : Nat × Int32 × (Nat → Int32) :=
  if (f_S_demand (f_S_isWithin p1 (127 : Int32))) = 0 then
    if (k 0) = (0 : Int32) then
      (0, ((128 : Int32) + p1), (upd k 0 ((128 : Int32) + p1)))
    else
      (2, (0 : Int32), k)
  else
    ((f_S_demand (f_S_isWithin p1 (127 : Int32))), (0 : Int32), k)
abbrev Q_S_press (dC : Nat → ClassId) (dI : Nat → Nat → Nat) (qs : Nat) (q0 : Nat) (q1 : Nat) (q2 : Nat) (q3 : Nat) (cM : ClassId) (cD : ClassId) (p1 : Int32) (g r k M D : Nat → Int32) (A : Nat → Prop) : Array Value → State → Outcome → State → Prop := va_Qi (fun (r9 : Int32) (_ : Unit) => (f_S_press p1 g r k M D).1 = 0 ∧ r9 = (f_S_press p1 g r k M D).2.1) (fun _ t => atW (dC, dI) classes A [c_S qs q0 q1 g, c_P q0 q1 r, c_B q1 q2 q3 ((f_S_press p1 g r k M D).2.2), c_A q2 cM 1024 M, c_A q3 cD 256 D] [(cM, .int), (cD, .int)] t) A
abbrev X_S_press (dC : Nat → ClassId) (dI : Nat → Nat → Nat) (qs : Nat) (q0 : Nat) (q1 : Nat) (q2 : Nat) (q3 : Nat) (cM : ClassId) (cD : ClassId) (p1 : Int32) (g r k M D : Nat → Int32) (A : Nat → Prop) : String → State → State → Prop := vx_X (fun (_ : Unit) => True) (fun E _ t => ¬ (f_S_press p1 g r k M D).1 = 0 ∧ E = exN (f_S_press p1 g r k M D).1 ∧ atW (dC, dI) classes A [c_S qs q0 q1 g, c_P q0 q1 r, c_B q1 q2 q3 ((f_S_press p1 g r k M D).2.2), c_A q2 cM 1024 M, c_A q3 cD 256 D] [(cM, .int), (cD, .int)] t) A
set_option maxHeartbeats 4000000 in
set_option maxRecDepth 100000 in
theorem c_S_press (l : Launch) (hl9 : l.stackTraces = false) (dC : Nat → ClassId) (dI : Nat → Nat → Nat) (z0 : Nat) (qs : Nat) (q0 : Nat) (q1 : Nat) (q2 : Nat) (q3 : Nat) (cM : ClassId) (cD : ClassId) (sz : Nat) (p1 : Int32) (g r k M D : Nat → Int32)  : vx_Met l y_S_press w_S_press ({ frames := 7, cells := 2, slots := 12, locals := 110 }) (PcX (dC, dI) classes z0 [c_S qs q0 q1 g, c_P q0 q1 r, c_B q1 q2 q3 k, c_A q2 cM 1024 M, c_A q3 cD 256 D] [(cM, .int), (cD, .int)] sz [.ref qs, .int p1]) (Q_S_press dC dI qs q0 q1 q2 q3 cM cD p1 g r k M D (va_A [c_S qs q0 q1 g, c_P q0 q1 r, c_B q1 q2 q3 k, c_A q2 cM 1024 M, c_A q3 cD 256 D] sz)) (X_S_press dC dI qs q0 q1 q2 q3 cM cD p1 g r k M D (va_A [c_S qs q0 q1 g, c_P q0 q1 r, c_B q1 q2 q3 k, c_A q2 cM 1024 M, c_A q3 cD 256 D] sz)) 2 12 (va_A [c_S qs q0 q1 g, c_P q0 q1 r, c_B q1 q2 q3 k, c_A q2 cM 1024 M, c_A q3 cD 256 D] sz) := by
  refine hdXx (cc := b_S_press) (maxL := 2) (ret := (some .int)) (C := R_S) (Qc := (Q_S_press dC dI qs q0 q1 q2 q3 cM cD p1 g r k M D)) (XC := (X_S_press dC dI qs q0 q1 q2 q3 cM cD p1 g r k M D)) (by decide) rfl ?_
  intro p e s m below meth c A H hx hb hr hlocks hEx hml hown hin htB hP hK hD hA hA0 hE hS
  have hl := lv_entry ([.ref qs, .int p1]) (n := 2) (Nat.le_of_ble_eq_true rfl)
  rw [lg_entry_eq]
  generalize (lg_sl ([.ref qs, .int p1]) ++ List.replicate (2 - (lg_sl ([.ref qs, .int p1])).length) Slot.unset).toArray = ls at hl ⊢
  have hl : lv_has ls 2 [(0, .ref qs), (1, .int p1)] := hl
  refine lv_iload_n hx hb d_S_press_0 rfl (lv_at hl 1 rfl) ?_
  refine lv_bipush (v := 127) hx hb d_S_press_1 (by decide) ?_
  have hPc := hP.sub (ws' := []) [] rfl
  have hDc := hD.sub (ws' := []) [] (by decide) rfl
  have hKc := hK.sub (tys' := []) [] rfl
  have hFc := va_free (wc := []) hD hS hA [] rfl
  refine va_calli (va_runS (As := [.int p1, .int (127 : Int32)]) (rest := []) ⟨hx, hb, hml, hown, htB⟩ (c_S_isWithin l dC dI z0  H.size p1 (127 : Int32)) (cwS 2 htB (gd_S mw_127 mw_128 mw_1 mw_129) rfl rfl rfl (by decide +kernel) ⟨Nat.le_of_ble_eq_true rfl, Nat.le_of_ble_eq_true rfl⟩) (pcx_S hPc hKc hDc hA0 hE hS) rfl rfl hl.1 rfl (lv_room (Nat.le_of_ble_eq_true rfl)) d_S_press_3 ⟨Nat.le_of_ble_eq_true rfl, Nat.le_of_ble_eq_true rfl⟩) hS (fun q _ h => hFc q h) hFc (fun r9 u t H1 locs ht hvm hw hB hz1 hk1 hS => ?_)
  subst hw
  obtain ⟨hP1, hK1, hD1⟩ := hB
  rw [ht] at hP1
  obtain ⟨hP, hD⟩ := va_join (wr := [c_S qs q0 q1 g, c_P q0 q1 r, c_B q1 q2 q3 k, c_A q2 cM 1024 M, c_A q3 cD 256 D]) (w1 := []) hP hD [] [0, 1, 2, 3, 4] rfl rfl (by decide) (by decide) hk1 hFc hP1 hD1
  generalize H1 = H at hP hS ⊢
  have hP : va_P (dC, dI) classes [c_S qs q0 q1 g, c_P q0 q1 r, c_B q1 q2 q3 k, c_A q2 cM 1024 M, c_A q3 cD 256 D] H := hP.sub [0, 1, 2, 3, 4] rfl
  have hD : va_D A [c_S qs q0 q1 g, c_P q0 q1 r, c_B q1 q2 q3 k, c_A q2 cM 1024 M, c_A q3 cD 256 D] := hD.sub [0, 1, 2, 3, 4] (by decide) rfl
  have hPc := hP.sub (ws' := []) [] rfl
  have hDc := hD.sub (ws' := []) [] (by decide) rfl
  have hKc := hK.sub (tys' := []) [] rfl
  have hFc := va_free (wc := []) hD hS hA [] rfl
  refine vx_callv (vx_runS (As := [.int (f_S_isWithin p1 (127 : Int32))]) (rest := []) ⟨hx, hb, hml, hown, htB⟩ (c_S_demand l hl9 dC dI z0  H.size (f_S_isWithin p1 (127 : Int32))) (cwS 1 htB (gd_S mw_130 mw_131 mw_1 mw_132) rfl rfl rfl (by decide +kernel) ⟨Nat.le_of_ble_eq_true rfl, Nat.le_of_ble_eq_true rfl⟩) (pcx_S hPc hKc hDc hA0 hE hS) rfl rfl hl.1 rfl (lv_room (Nat.le_of_ble_eq_true rfl)) d_S_press_6 ⟨Nat.le_of_ble_eq_true rfl, Nat.le_of_ble_eq_true rfl⟩) hS (fun q _ h => hFc q h) hFc (fun q _ h => hFc q h) (fun E9 ce q9 u t H1 locs ht hvm hw hB hz1 hk1 hS hce hcv hcl => ?_) (fun u t H1 locs ht hvm hw hB hz1 hk1 hS => ?_)
  · obtain ⟨c_1, rfl, hB⟩ := hB
    obtain ⟨hP1, hK1, hD1⟩ := hB
    rw [ht] at hP1
    obtain ⟨hP, hD⟩ := va_join (wr := [c_S qs q0 q1 g, c_P q0 q1 r, c_B q1 q2 q3 k, c_A q2 cM 1024 M, c_A q3 cD 256 D]) (w1 := []) hP hD [] [0, 1, 2, 3, 4] rfl rfl (by decide) (by decide) hk1 hFc hP1 hD1
    generalize H1 = H at hP hS hce ⊢
    have hP : va_P (dC, dI) classes [c_S qs q0 q1 g, c_P q0 q1 r, c_B q1 q2 q3 k, c_A q2 cM 1024 M, c_A q3 cD 256 D] H := hP.sub [0, 1, 2, 3, 4] rfl
    have hD : va_D A [c_S qs q0 q1 g, c_P q0 q1 r, c_B q1 q2 q3 k, c_A q2 cM 1024 M, c_A q3 cD 256 D] := hD.sub [0, 1, 2, 3, 4] (by decide) rfl
    have hf : f_S_press p1 g r k M D = ((f_S_demand (f_S_isWithin p1 (127 : Int32))), (0 : Int32), k) := by rw [f_S_press, if_neg c_1]
    exact vx_widen (k := 2) (n := 12) (by decide) (by decide) (vx_out (E := _) (fun x hx => (hEx x hx).elim) hlocks hce hcv hcl (fun t ht ha => ⟨(), trivial, by rw [hf]; exact ⟨c_1, rfl, ⟨by rw [ht]; exact hP, va_K.moved ha hK, hD⟩⟩, hS.F ht⟩) hS.2.2 (Nat.le_refl _) (Nat.le_refl _))
  · have c_1 := hw
    obtain ⟨hP1, hK1, hD1⟩ := hB
    rw [ht] at hP1
    obtain ⟨hP, hD⟩ := va_join (wr := [c_S qs q0 q1 g, c_P q0 q1 r, c_B q1 q2 q3 k, c_A q2 cM 1024 M, c_A q3 cD 256 D]) (w1 := []) hP hD [] [0, 1, 2, 3, 4] rfl rfl (by decide) (by decide) hk1 hFc hP1 hD1
    generalize H1 = H at hP hS ⊢
    have hP : va_P (dC, dI) classes [c_S qs q0 q1 g, c_P q0 q1 r, c_B q1 q2 q3 k, c_A q2 cM 1024 M, c_A q3 cD 256 D] H := hP.sub [0, 1, 2, 3, 4] rfl
    have hD : va_D A [c_S qs q0 q1 g, c_P q0 q1 r, c_B q1 q2 q3 k, c_A q2 cM 1024 M, c_A q3 cD 256 D] := hD.sub [0, 1, 2, 3, 4] (by decide) rfl
    refine lv_aload_n hx hb d_S_press_9 rfl (lv_at hl 0 rfl) ?_
    refine va_get (D := (dC, dI)) (ci := 0) (v := .ref q1) (C := R_S) (T := F_S) (N := 4) hx hb htB i_S hown hK hP 0 rfl rfl 1 (by decide) (htB _ mw_100) (fun _ h9 => h9) rfl d_S_press_10 ?_
    refine va_getN (D := (dC, dI)) (ci := 2) (v := .int (k 0)) (C := R_B) (T := F_B) (N := 5) hx hb htB i_B hown hK hP 2 rfl rfl 2 (by decide) (va_Nw.use rfl (hE.2.1 _ ew_40)) (fun _ h9 => h9) rfl d_S_press_13 ?_
    refine lv_if_eq (tgt := 29) hx hb d_S_press_16 (by decide) (fun c_2 => ?_) (fun c_2 => ?_)
    · refine lv_aload_n hx hb d_S_press_29 rfl (lv_at hl 0 rfl) ?_
      refine va_get (D := (dC, dI)) (ci := 0) (v := .ref q1) (C := R_S) (T := F_S) (N := 4) hx hb htB i_S hown hK hP 0 rfl rfl 1 (by decide) (htB _ mw_100) (fun _ h9 => h9) rfl d_S_press_30 ?_
      refine lv_sipush (v := 128) hx hb d_S_press_33 (by decide) ?_
      refine lv_iload_n hx hb d_S_press_36 rfl (lv_at hl 1 rfl) ?_
      refine lv_iadd hx hb d_S_press_37 ?_
      refine va_putN (D := (dC, dI)) (ci := 2) (v := .int ((128 : Int32) + p1)) (ty := .int) (C := R_B) (T := F_B) (N := 5) hx hb htB i_B t_B t_B_ok n_B hown hK hP hD hS 2 rfl rfl 2 (by decide) (va_Nw.use rfl (hE.2.1 _ ew_40)) (fun _ h9 => h9) rfl (by decide +kernel) rfl rfl (Nat.le_of_ble_eq_true rfl) d_S_press_38 (fun H locs hP hD hS => ?_)
      have hP : va_P (dC, dI) classes [c_S qs q0 q1 g, c_P q0 q1 r, c_B q1 q2 q3 (upd k 0 ((128 : Int32) + p1)), c_A q2 cM 1024 M, c_A q3 cD 256 D] H := hP
      have hD : va_D A [c_S qs q0 q1 g, c_P q0 q1 r, c_B q1 q2 q3 (upd k 0 ((128 : Int32) + p1)), c_A q2 cM 1024 M, c_A q3 cD 256 D] := hD
      refine lv_aload_n hx hb d_S_press_41 rfl (lv_at hl 0 rfl) ?_
      refine va_get (D := (dC, dI)) (ci := 0) (v := .ref q1) (C := R_S) (T := F_S) (N := 4) hx hb htB i_S hown hK hP 0 rfl rfl 1 (by decide) (htB _ mw_100) (fun _ h9 => h9) rfl d_S_press_42 ?_
      refine va_getN (D := (dC, dI)) (ci := 2) (v := .int ((128 : Int32) + p1)) (C := R_B) (T := F_B) (N := 5) hx hb htB i_B hown hK hP 2 rfl rfl 2 (by decide) (va_Nw.use rfl (hE.2.1 _ ew_40)) (fun _ h9 => h9) rfl d_S_press_45 ?_
      have hf : f_S_press p1 g r k M D = (0, ((128 : Int32) + p1), (upd k 0 ((128 : Int32) + p1))) := by rw [f_S_press, if_pos c_1, if_pos c_2]
      refine W.widen (k := 2) (n := 12) (by decide) (by decide) ?_
      exact vx_ret (W.iret (v := ((128 : Int32) + p1)) hx hb hr (fun t ht hW => ⟨⟨((128 : Int32) + p1), (), rfl, by rw [hf]; exact ⟨rfl, rfl⟩, by rw [hf]; exact ⟨by rw [ht]; exact hP, va_K.moved hW.alike hK, hD⟩⟩, hS.F ht⟩) hS.2.2 d_S_press_48)
    · have hf : f_S_press p1 g r k M D = (2, (0 : Int32), k) := by rw [f_S_press, if_pos c_1, if_neg c_2]
      obtain ⟨sa, hsa⟩ := hE.2.2.2.1 ("SixtyFive", 66, "there is a key") (by decide +kernel)
      exact vx_throwS (names := exS) hx hb hl9 hown (by decide +kernel) (by decide +kernel) (htB _ mw_244) (htB _ mw_9) hsa (vx_hat (fun w h => htB w (at_S_68_1 w h)) (fun w h => at_S_68_2 w h) (fun w h => va_Nw.use (enOK_tab (enW_ok w h)) (hE.2.1 w h))) at_S_68_3 (hE.2.2.2.2.2.2.1.narrow hA0) (hE.2.2.2.2.2.2.2.narrow hA0) hS (hl.1.trans hml.symm) d_S_press_19 d_S_press_22 d_S_press_23 d_S_press_25 d_S_press_28 (fun x hx => (hEx x hx).elim) (Nat.le_of_ble_eq_true rfl) (Nat.le_of_ble_eq_true rfl) (Nat.le_of_ble_eq_true rfl) (Nat.le_of_ble_eq_true rfl) hlocks (fun t ha h1 h2 => by
        obtain ⟨g1, g2⟩ := thr_at hP hK hD hS ha h1 h2
        exact ⟨(), trivial, by rw [hf]; exact ⟨show ¬ (2 : Nat) = 0 from by decide, rfl, g1⟩, g2⟩) hS.2.2 (Nat.le_of_ble_eq_true rfl) (Nat.le_of_ble_eq_true rfl)

def f_S_protect (p1 : Int32) (g r k M D : Nat → Int32) : Int32 × (Nat → Int32) :=
  ((k 2), (upd k 2 p1))
abbrev Q_S_protect (dC : Nat → ClassId) (dI : Nat → Nat → Nat) (qs : Nat) (q0 : Nat) (q1 : Nat) (q2 : Nat) (q3 : Nat) (cM : ClassId) (cD : ClassId) (p1 : Int32) (g r k M D : Nat → Int32) (A : Nat → Prop) : Array Value → State → Outcome → State → Prop := va_Qi (fun (r9 : Int32) (_ : Unit) => r9 = (f_S_protect p1 g r k M D).1) (fun _ t => atW (dC, dI) classes A [c_S qs q0 q1 g, c_P q0 q1 r, c_B q1 q2 q3 ((f_S_protect p1 g r k M D).2), c_A q2 cM 1024 M, c_A q3 cD 256 D] [(cM, .int), (cD, .int)] t) A
set_option maxHeartbeats 4000000 in
set_option maxRecDepth 100000 in
theorem c_S_protect (l : Launch) (dC : Nat → ClassId) (dI : Nat → Nat → Nat) (z0 : Nat) (qs : Nat) (q0 : Nat) (q1 : Nat) (q2 : Nat) (q3 : Nat) (cM : ClassId) (cD : ClassId) (sz : Nat) (p1 : Int32) (g r k M D : Nat → Int32) (hpr : (k 2 = 0 ∨ k 2 = 1)) (hp1 : (p1 = 0 ∨ p1 = 1)) : Met l y_S_protect w_S_protect ({ frames := 0, cells := 0, slots := 0, locals := 0 }) (PcX (dC, dI) classes z0 [c_S qs q0 q1 g, c_P q0 q1 r, c_B q1 q2 q3 k, c_A q2 cM 1024 M, c_A q3 cD 256 D] [(cM, .int), (cD, .int)] sz [.ref qs, .int p1]) (Q_S_protect dC dI qs q0 q1 q2 q3 cM cD p1 g r k M D (va_A [c_S qs q0 q1 g, c_P q0 q1 r, c_B q1 q2 q3 k, c_A q2 cM 1024 M, c_A q3 cD 256 D] sz)) 0 0 (va_A [c_S qs q0 q1 g, c_P q0 q1 r, c_B q1 q2 q3 k, c_A q2 cM 1024 M, c_A q3 cD 256 D] sz) := by
  refine hdX (cc := b_S_protect) (maxL := 3) (ret := (some .boolean)) (C := R_S) (Qc := (Q_S_protect dC dI qs q0 q1 q2 q3 cM cD p1 g r k M D)) (by decide) rfl ?_
  intro p e s m below meth c A H hx hb hr hlocks hml hown hin htB hP hK hD hA hA0 hE hS
  have hl := lv_entry ([.ref qs, .int p1]) (n := 3) (Nat.le_of_ble_eq_true rfl)
  rw [lg_entry_eq]
  generalize (lg_sl ([.ref qs, .int p1]) ++ List.replicate (3 - (lg_sl ([.ref qs, .int p1])).length) Slot.unset).toArray = ls at hl ⊢
  have hl : lv_has ls 3 [(0, .ref qs), (1, .int p1)] := hl
  refine lv_aload_n hx hb d_S_protect_0 rfl (lv_at hl 0 rfl) ?_
  refine va_get (D := (dC, dI)) (ci := 0) (v := .ref q1) (C := R_S) (T := F_S) (N := 4) hx hb htB i_S hown hK hP 0 rfl rfl 1 (by decide) (htB _ mw_100) (fun _ h9 => h9) rfl d_S_protect_1 ?_
  refine va_getN (D := (dC, dI)) (ci := 2) (v := .int (k 2)) (C := R_B) (T := F_B) (N := 5) hx hb htB i_B hown hK hP 2 rfl rfl 4 (by decide) (va_Nw.use rfl (hE.2.1 _ ew_44)) (fun _ h9 => h9) rfl d_S_protect_4 ?_
  refine lv_istore_n (lv' := [(2, .int (k 2)), (0, .ref qs), (1, .int p1)]) hx hb d_S_protect_7 rfl hl (by decide) rfl (fun ls hl => ?_)
  refine lv_aload_n hx hb d_S_protect_8 rfl (lv_at hl 1 rfl) ?_
  refine va_get (D := (dC, dI)) (ci := 0) (v := .ref q1) (C := R_S) (T := F_S) (N := 4) hx hb htB i_S hown hK hP 0 rfl rfl 1 (by decide) (htB _ mw_100) (fun _ h9 => h9) rfl d_S_protect_9 ?_
  refine lv_iload_n hx hb d_S_protect_12 rfl (lv_at hl 2 rfl) ?_
  refine va_putN (D := (dC, dI)) (ci := 2) (v := .int p1) (ty := .boolean) (C := R_B) (T := F_B) (N := 5) hx hb htB i_B t_B t_B_ok n_B hown hK hP hD hS 2 rfl rfl 4 (by decide) (va_Nw.use rfl (hE.2.1 _ ew_44)) (fun _ h9 => h9) rfl (by decide +kernel) (nar01 hp1) (fit01 hp1) (Nat.le_of_ble_eq_true rfl) d_S_protect_13 (fun H locs hP hD hS => ?_)
  have hP : va_P (dC, dI) classes [c_S qs q0 q1 g, c_P q0 q1 r, c_B q1 q2 q3 (upd k 2 p1), c_A q2 cM 1024 M, c_A q3 cD 256 D] H := hP
  have hD : va_D A [c_S qs q0 q1 g, c_P q0 q1 r, c_B q1 q2 q3 (upd k 2 p1), c_A q2 cM 1024 M, c_A q3 cD 256 D] := hD
  refine lv_iload_n hx hb d_S_protect_16 rfl (lv_at hl 0 rfl) ?_
  have hf : f_S_protect p1 g r k M D = ((k 2), (upd k 2 p1)) := by rw [f_S_protect]
  exact W.zret (v := (k 2)) hx hb hr (nar01 hpr) (fun t ht hW => ⟨⟨(k 2), (), rfl, (congrArg (fun z => z.1) hf).symm, by rw [hf]; exact ⟨by rw [ht]; exact hP, va_K.moved hW.alike hK, hD⟩⟩, hS.F ht⟩) hS.2.2 d_S_protect_17

def f_S_peek (p1 : Int32) (g r k M D : Nat → Int32) : Nat × Int32 :=
  if (f_S_demand (f_S_isWithin p1 (1007 : Int32))) = 0 then
    (0, (M p1.toNatClampNeg))
  else
    ((f_S_demand (f_S_isWithin p1 (1007 : Int32))), (0 : Int32))
abbrev Q_S_peek (dC : Nat → ClassId) (dI : Nat → Nat → Nat) (qs : Nat) (q0 : Nat) (q1 : Nat) (q2 : Nat) (q3 : Nat) (cM : ClassId) (cD : ClassId) (p1 : Int32) (g r k M D : Nat → Int32) (A : Nat → Prop) : Array Value → State → Outcome → State → Prop := va_Qi (fun (r9 : Int32) (_ : Unit) => (f_S_peek p1 g r k M D).1 = 0 ∧ r9 = (f_S_peek p1 g r k M D).2) (fun _ t => atW (dC, dI) classes A [c_S qs q0 q1 g, c_P q0 q1 r, c_B q1 q2 q3 k, c_A q2 cM 1024 M, c_A q3 cD 256 D] [(cM, .int), (cD, .int)] t) A
abbrev X_S_peek (dC : Nat → ClassId) (dI : Nat → Nat → Nat) (qs : Nat) (q0 : Nat) (q1 : Nat) (q2 : Nat) (q3 : Nat) (cM : ClassId) (cD : ClassId) (p1 : Int32) (g r k M D : Nat → Int32) (A : Nat → Prop) : String → State → State → Prop := vx_X (fun (_ : Unit) => True) (fun E _ t => ¬ (f_S_peek p1 g r k M D).1 = 0 ∧ E = exN (f_S_peek p1 g r k M D).1 ∧ atW (dC, dI) classes A [c_S qs q0 q1 g, c_P q0 q1 r, c_B q1 q2 q3 k, c_A q2 cM 1024 M, c_A q3 cD 256 D] [(cM, .int), (cD, .int)] t) A
set_option maxHeartbeats 4000000 in
set_option maxRecDepth 100000 in
theorem c_S_peek (l : Launch) (hl9 : l.stackTraces = false) (dC : Nat → ClassId) (dI : Nat → Nat → Nat) (z0 : Nat) (qs : Nat) (q0 : Nat) (q1 : Nat) (q2 : Nat) (q3 : Nat) (cM : ClassId) (cD : ClassId) (sz : Nat) (p1 : Int32) (g r k M D : Nat → Int32)  : vx_Met l y_S_peek w_S_peek ({ frames := 7, cells := 1, slots := 6, locals := 110 }) (PcX (dC, dI) classes z0 [c_S qs q0 q1 g, c_P q0 q1 r, c_B q1 q2 q3 k, c_A q2 cM 1024 M, c_A q3 cD 256 D] [(cM, .int), (cD, .int)] sz [.ref qs, .int p1]) (Q_S_peek dC dI qs q0 q1 q2 q3 cM cD p1 g r k M D (va_A [c_S qs q0 q1 g, c_P q0 q1 r, c_B q1 q2 q3 k, c_A q2 cM 1024 M, c_A q3 cD 256 D] sz)) (X_S_peek dC dI qs q0 q1 q2 q3 cM cD p1 g r k M D (va_A [c_S qs q0 q1 g, c_P q0 q1 r, c_B q1 q2 q3 k, c_A q2 cM 1024 M, c_A q3 cD 256 D] sz)) 1 6 (va_A [c_S qs q0 q1 g, c_P q0 q1 r, c_B q1 q2 q3 k, c_A q2 cM 1024 M, c_A q3 cD 256 D] sz) := by
  refine hdXx (cc := b_S_peek) (maxL := 2) (ret := (some .int)) (C := R_S) (Qc := (Q_S_peek dC dI qs q0 q1 q2 q3 cM cD p1 g r k M D)) (XC := (X_S_peek dC dI qs q0 q1 q2 q3 cM cD p1 g r k M D)) (by decide) rfl ?_
  intro p e s m below meth c A H hx hb hr hlocks hEx hml hown hin htB hP hK hD hA hA0 hE hS
  have hl := lv_entry ([.ref qs, .int p1]) (n := 2) (Nat.le_of_ble_eq_true rfl)
  rw [lg_entry_eq]
  generalize (lg_sl ([.ref qs, .int p1]) ++ List.replicate (2 - (lg_sl ([.ref qs, .int p1])).length) Slot.unset).toArray = ls at hl ⊢
  have hl : lv_has ls 2 [(0, .ref qs), (1, .int p1)] := hl
  refine lv_iload_n hx hb d_S_peek_0 rfl (lv_at hl 1 rfl) ?_
  refine lv_sipush (v := 1007) hx hb d_S_peek_1 (by decide) ?_
  have hPc := hP.sub (ws' := []) [] rfl
  have hDc := hD.sub (ws' := []) [] (by decide) rfl
  have hKc := hK.sub (tys' := []) [] rfl
  have hFc := va_free (wc := []) hD hS hA [] rfl
  refine va_calli (va_runS (As := [.int p1, .int (1007 : Int32)]) (rest := []) ⟨hx, hb, hml, hown, htB⟩ (c_S_isWithin l dC dI z0  H.size p1 (1007 : Int32)) (cwS 2 htB (gd_S mw_127 mw_128 mw_1 mw_129) rfl rfl rfl (by decide +kernel) ⟨Nat.le_of_ble_eq_true rfl, Nat.le_of_ble_eq_true rfl⟩) (pcx_S hPc hKc hDc hA0 hE hS) rfl rfl hl.1 rfl (lv_room (Nat.le_of_ble_eq_true rfl)) d_S_peek_4 ⟨Nat.le_of_ble_eq_true rfl, Nat.le_of_ble_eq_true rfl⟩) hS (fun q _ h => hFc q h) hFc (fun r9 u t H1 locs ht hvm hw hB hz1 hk1 hS => ?_)
  subst hw
  obtain ⟨hP1, hK1, hD1⟩ := hB
  rw [ht] at hP1
  obtain ⟨hP, hD⟩ := va_join (wr := [c_S qs q0 q1 g, c_P q0 q1 r, c_B q1 q2 q3 k, c_A q2 cM 1024 M, c_A q3 cD 256 D]) (w1 := []) hP hD [] [0, 1, 2, 3, 4] rfl rfl (by decide) (by decide) hk1 hFc hP1 hD1
  generalize H1 = H at hP hS ⊢
  have hP : va_P (dC, dI) classes [c_S qs q0 q1 g, c_P q0 q1 r, c_B q1 q2 q3 k, c_A q2 cM 1024 M, c_A q3 cD 256 D] H := hP.sub [0, 1, 2, 3, 4] rfl
  have hD : va_D A [c_S qs q0 q1 g, c_P q0 q1 r, c_B q1 q2 q3 k, c_A q2 cM 1024 M, c_A q3 cD 256 D] := hD.sub [0, 1, 2, 3, 4] (by decide) rfl
  have hPc := hP.sub (ws' := []) [] rfl
  have hDc := hD.sub (ws' := []) [] (by decide) rfl
  have hKc := hK.sub (tys' := []) [] rfl
  have hFc := va_free (wc := []) hD hS hA [] rfl
  refine vx_callv (vx_runS (As := [.int (f_S_isWithin p1 (1007 : Int32))]) (rest := []) ⟨hx, hb, hml, hown, htB⟩ (c_S_demand l hl9 dC dI z0  H.size (f_S_isWithin p1 (1007 : Int32))) (cwS 1 htB (gd_S mw_130 mw_131 mw_1 mw_132) rfl rfl rfl (by decide +kernel) ⟨Nat.le_of_ble_eq_true rfl, Nat.le_of_ble_eq_true rfl⟩) (pcx_S hPc hKc hDc hA0 hE hS) rfl rfl hl.1 rfl (lv_room (Nat.le_of_ble_eq_true rfl)) d_S_peek_7 ⟨Nat.le_of_ble_eq_true rfl, Nat.le_of_ble_eq_true rfl⟩) hS (fun q _ h => hFc q h) hFc (fun q _ h => hFc q h) (fun E9 ce q9 u t H1 locs ht hvm hw hB hz1 hk1 hS hce hcv hcl => ?_) (fun u t H1 locs ht hvm hw hB hz1 hk1 hS => ?_)
  · obtain ⟨c_1, rfl, hB⟩ := hB
    obtain ⟨hP1, hK1, hD1⟩ := hB
    rw [ht] at hP1
    obtain ⟨hP, hD⟩ := va_join (wr := [c_S qs q0 q1 g, c_P q0 q1 r, c_B q1 q2 q3 k, c_A q2 cM 1024 M, c_A q3 cD 256 D]) (w1 := []) hP hD [] [0, 1, 2, 3, 4] rfl rfl (by decide) (by decide) hk1 hFc hP1 hD1
    generalize H1 = H at hP hS hce ⊢
    have hP : va_P (dC, dI) classes [c_S qs q0 q1 g, c_P q0 q1 r, c_B q1 q2 q3 k, c_A q2 cM 1024 M, c_A q3 cD 256 D] H := hP.sub [0, 1, 2, 3, 4] rfl
    have hD : va_D A [c_S qs q0 q1 g, c_P q0 q1 r, c_B q1 q2 q3 k, c_A q2 cM 1024 M, c_A q3 cD 256 D] := hD.sub [0, 1, 2, 3, 4] (by decide) rfl
    have hf : f_S_peek p1 g r k M D = ((f_S_demand (f_S_isWithin p1 (1007 : Int32))), (0 : Int32)) := by rw [f_S_peek, if_neg c_1]
    exact vx_widen (k := 1) (n := 6) (by decide) (by decide) (vx_out (E := _) (fun x hx => (hEx x hx).elim) hlocks hce hcv hcl (fun t ht ha => ⟨(), trivial, by rw [hf]; exact ⟨c_1, rfl, ⟨by rw [ht]; exact hP, va_K.moved ha hK, hD⟩⟩, hS.F ht⟩) hS.2.2 (Nat.le_refl _) (Nat.le_refl _))
  · have c_1 := hw
    obtain ⟨hP1, hK1, hD1⟩ := hB
    rw [ht] at hP1
    obtain ⟨hP, hD⟩ := va_join (wr := [c_S qs q0 q1 g, c_P q0 q1 r, c_B q1 q2 q3 k, c_A q2 cM 1024 M, c_A q3 cD 256 D]) (w1 := []) hP hD [] [0, 1, 2, 3, 4] rfl rfl (by decide) (by decide) hk1 hFc hP1 hD1
    generalize H1 = H at hP hS ⊢
    have hP : va_P (dC, dI) classes [c_S qs q0 q1 g, c_P q0 q1 r, c_B q1 q2 q3 k, c_A q2 cM 1024 M, c_A q3 cD 256 D] H := hP.sub [0, 1, 2, 3, 4] rfl
    have hD : va_D A [c_S qs q0 q1 g, c_P q0 q1 r, c_B q1 q2 q3 k, c_A q2 cM 1024 M, c_A q3 cD 256 D] := hD.sub [0, 1, 2, 3, 4] (by decide) rfl
    refine lv_aload_n hx hb d_S_peek_10 rfl (lv_at hl 0 rfl) ?_
    refine va_get (D := (dC, dI)) (ci := 0) (v := .ref q1) (C := R_S) (T := F_S) (N := 4) hx hb htB i_S hown hK hP 0 rfl rfl 1 (by decide) (htB _ mw_100) (fun _ h9 => h9) rfl d_S_peek_11 ?_
    refine va_getN (D := (dC, dI)) (ci := 2) (v := .ref q2) (C := R_B) (T := F_B) (N := 5) hx hb htB i_B hown hK hP 2 rfl rfl 0 (by decide) (va_Nw.use rfl (hE.2.1 _ ew_35)) (fun _ h9 => h9) rfl d_S_peek_14 ?_
    refine lv_iload_n hx hb d_S_peek_17 rfl (lv_at hl 1 rfl) ?_
    refine va_iald hx hb hK hP 3 0 rfl rfl (in_peek c_1) d_S_peek_18 ?_
    have hf : f_S_peek p1 g r k M D = (0, (M p1.toNatClampNeg)) := by rw [f_S_peek, if_pos c_1]
    refine W.widen (k := 1) (n := 6) (by decide) (by decide) ?_
    exact vx_ret (W.iret (v := (M p1.toNatClampNeg)) hx hb hr (fun t ht hW => ⟨⟨(M p1.toNatClampNeg), (), rfl, by rw [hf]; exact ⟨rfl, rfl⟩, by exact ⟨by rw [ht]; exact hP, va_K.moved hW.alike hK, hD⟩⟩, hS.F ht⟩) hS.2.2 d_S_peek_19)

def f_S_get (p1 : Int32) (g r k M D : Nat → Int32) : Nat × Int32 :=
  if (f_S_demand (f_S_isWithin p1 (9 : Int32))) = 0 then
    if p1 = (6 : Int32) then
      (0, (g 0))
    else
      if p1 = (7 : Int32) then
        (0, (k 0))
      else
        if p1 = (8 : Int32) then
          (0, (k 1))
        else
          if p1 = (9 : Int32) then
            (0, (g 1))
          else
            (0, (f_P_register p1 r))
  else
    ((f_S_demand (f_S_isWithin p1 (9 : Int32))), (0 : Int32))
abbrev Q_S_get (dC : Nat → ClassId) (dI : Nat → Nat → Nat) (qs : Nat) (q0 : Nat) (q1 : Nat) (q2 : Nat) (q3 : Nat) (cM : ClassId) (cD : ClassId) (p1 : Int32) (g r k M D : Nat → Int32) (A : Nat → Prop) : Array Value → State → Outcome → State → Prop := va_Qi (fun (r9 : Int32) (_ : Unit) => (f_S_get p1 g r k M D).1 = 0 ∧ r9 = (f_S_get p1 g r k M D).2) (fun _ t => atW (dC, dI) classes A [c_S qs q0 q1 g, c_P q0 q1 r, c_B q1 q2 q3 k, c_A q2 cM 1024 M, c_A q3 cD 256 D] [(cM, .int), (cD, .int)] t) A
abbrev X_S_get (dC : Nat → ClassId) (dI : Nat → Nat → Nat) (qs : Nat) (q0 : Nat) (q1 : Nat) (q2 : Nat) (q3 : Nat) (cM : ClassId) (cD : ClassId) (p1 : Int32) (g r k M D : Nat → Int32) (A : Nat → Prop) : String → State → State → Prop := vx_X (fun (_ : Unit) => True) (fun E _ t => ¬ (f_S_get p1 g r k M D).1 = 0 ∧ E = exN (f_S_get p1 g r k M D).1 ∧ atW (dC, dI) classes A [c_S qs q0 q1 g, c_P q0 q1 r, c_B q1 q2 q3 k, c_A q2 cM 1024 M, c_A q3 cD 256 D] [(cM, .int), (cD, .int)] t) A
set_option maxHeartbeats 4000000 in
set_option maxRecDepth 100000 in
theorem c_S_get (l : Launch) (hl9 : l.stackTraces = false) (dC : Nat → ClassId) (dI : Nat → Nat → Nat) (z0 : Nat) (qs : Nat) (q0 : Nat) (q1 : Nat) (q2 : Nat) (q3 : Nat) (cM : ClassId) (cD : ClassId) (sz : Nat) (p1 : Int32) (g r k M D : Nat → Int32)  : vx_Met l y_S_get w_S_get ({ frames := 7, cells := 1, slots := 6, locals := 110 }) (PcX (dC, dI) classes z0 [c_S qs q0 q1 g, c_P q0 q1 r, c_B q1 q2 q3 k, c_A q2 cM 1024 M, c_A q3 cD 256 D] [(cM, .int), (cD, .int)] sz [.ref qs, .int p1]) (Q_S_get dC dI qs q0 q1 q2 q3 cM cD p1 g r k M D (va_A [c_S qs q0 q1 g, c_P q0 q1 r, c_B q1 q2 q3 k, c_A q2 cM 1024 M, c_A q3 cD 256 D] sz)) (X_S_get dC dI qs q0 q1 q2 q3 cM cD p1 g r k M D (va_A [c_S qs q0 q1 g, c_P q0 q1 r, c_B q1 q2 q3 k, c_A q2 cM 1024 M, c_A q3 cD 256 D] sz)) 1 6 (va_A [c_S qs q0 q1 g, c_P q0 q1 r, c_B q1 q2 q3 k, c_A q2 cM 1024 M, c_A q3 cD 256 D] sz) := by
  refine hdXx (cc := b_S_get) (maxL := 2) (ret := (some .int)) (C := R_S) (Qc := (Q_S_get dC dI qs q0 q1 q2 q3 cM cD p1 g r k M D)) (XC := (X_S_get dC dI qs q0 q1 q2 q3 cM cD p1 g r k M D)) (by decide) rfl ?_
  intro p e s m below meth c A H hx hb hr hlocks hEx hml hown hin htB hP hK hD hA hA0 hE hS
  have hl := lv_entry ([.ref qs, .int p1]) (n := 2) (Nat.le_of_ble_eq_true rfl)
  rw [lg_entry_eq]
  generalize (lg_sl ([.ref qs, .int p1]) ++ List.replicate (2 - (lg_sl ([.ref qs, .int p1])).length) Slot.unset).toArray = ls at hl ⊢
  have hl : lv_has ls 2 [(0, .ref qs), (1, .int p1)] := hl
  refine lv_iload_n hx hb d_S_get_0 rfl (lv_at hl 1 rfl) ?_
  refine lv_bipush (v := 9) hx hb d_S_get_1 (by decide) ?_
  have hPc := hP.sub (ws' := []) [] rfl
  have hDc := hD.sub (ws' := []) [] (by decide) rfl
  have hKc := hK.sub (tys' := []) [] rfl
  have hFc := va_free (wc := []) hD hS hA [] rfl
  refine va_calli (va_runS (As := [.int p1, .int (9 : Int32)]) (rest := []) ⟨hx, hb, hml, hown, htB⟩ (c_S_isWithin l dC dI z0  H.size p1 (9 : Int32)) (cwS 2 htB (gd_S mw_127 mw_128 mw_1 mw_129) rfl rfl rfl (by decide +kernel) ⟨Nat.le_of_ble_eq_true rfl, Nat.le_of_ble_eq_true rfl⟩) (pcx_S hPc hKc hDc hA0 hE hS) rfl rfl hl.1 rfl (lv_room (Nat.le_of_ble_eq_true rfl)) d_S_get_3 ⟨Nat.le_of_ble_eq_true rfl, Nat.le_of_ble_eq_true rfl⟩) hS (fun q _ h => hFc q h) hFc (fun r9 u t H1 locs ht hvm hw hB hz1 hk1 hS => ?_)
  subst hw
  obtain ⟨hP1, hK1, hD1⟩ := hB
  rw [ht] at hP1
  obtain ⟨hP, hD⟩ := va_join (wr := [c_S qs q0 q1 g, c_P q0 q1 r, c_B q1 q2 q3 k, c_A q2 cM 1024 M, c_A q3 cD 256 D]) (w1 := []) hP hD [] [0, 1, 2, 3, 4] rfl rfl (by decide) (by decide) hk1 hFc hP1 hD1
  generalize H1 = H at hP hS ⊢
  have hP : va_P (dC, dI) classes [c_S qs q0 q1 g, c_P q0 q1 r, c_B q1 q2 q3 k, c_A q2 cM 1024 M, c_A q3 cD 256 D] H := hP.sub [0, 1, 2, 3, 4] rfl
  have hD : va_D A [c_S qs q0 q1 g, c_P q0 q1 r, c_B q1 q2 q3 k, c_A q2 cM 1024 M, c_A q3 cD 256 D] := hD.sub [0, 1, 2, 3, 4] (by decide) rfl
  have hPc := hP.sub (ws' := []) [] rfl
  have hDc := hD.sub (ws' := []) [] (by decide) rfl
  have hKc := hK.sub (tys' := []) [] rfl
  have hFc := va_free (wc := []) hD hS hA [] rfl
  refine vx_callv (vx_runS (As := [.int (f_S_isWithin p1 (9 : Int32))]) (rest := []) ⟨hx, hb, hml, hown, htB⟩ (c_S_demand l hl9 dC dI z0  H.size (f_S_isWithin p1 (9 : Int32))) (cwS 1 htB (gd_S mw_130 mw_131 mw_1 mw_132) rfl rfl rfl (by decide +kernel) ⟨Nat.le_of_ble_eq_true rfl, Nat.le_of_ble_eq_true rfl⟩) (pcx_S hPc hKc hDc hA0 hE hS) rfl rfl hl.1 rfl (lv_room (Nat.le_of_ble_eq_true rfl)) d_S_get_6 ⟨Nat.le_of_ble_eq_true rfl, Nat.le_of_ble_eq_true rfl⟩) hS (fun q _ h => hFc q h) hFc (fun q _ h => hFc q h) (fun E9 ce q9 u t H1 locs ht hvm hw hB hz1 hk1 hS hce hcv hcl => ?_) (fun u t H1 locs ht hvm hw hB hz1 hk1 hS => ?_)
  · obtain ⟨c_1, rfl, hB⟩ := hB
    obtain ⟨hP1, hK1, hD1⟩ := hB
    rw [ht] at hP1
    obtain ⟨hP, hD⟩ := va_join (wr := [c_S qs q0 q1 g, c_P q0 q1 r, c_B q1 q2 q3 k, c_A q2 cM 1024 M, c_A q3 cD 256 D]) (w1 := []) hP hD [] [0, 1, 2, 3, 4] rfl rfl (by decide) (by decide) hk1 hFc hP1 hD1
    generalize H1 = H at hP hS hce ⊢
    have hP : va_P (dC, dI) classes [c_S qs q0 q1 g, c_P q0 q1 r, c_B q1 q2 q3 k, c_A q2 cM 1024 M, c_A q3 cD 256 D] H := hP.sub [0, 1, 2, 3, 4] rfl
    have hD : va_D A [c_S qs q0 q1 g, c_P q0 q1 r, c_B q1 q2 q3 k, c_A q2 cM 1024 M, c_A q3 cD 256 D] := hD.sub [0, 1, 2, 3, 4] (by decide) rfl
    have hf : f_S_get p1 g r k M D = ((f_S_demand (f_S_isWithin p1 (9 : Int32))), (0 : Int32)) := by rw [f_S_get, if_neg c_1]
    exact vx_widen (k := 1) (n := 6) (by decide) (by decide) (vx_out (E := _) (fun x hx => (hEx x hx).elim) hlocks hce hcv hcl (fun t ht ha => ⟨(), trivial, by rw [hf]; exact ⟨c_1, rfl, ⟨by rw [ht]; exact hP, va_K.moved ha hK, hD⟩⟩, hS.F ht⟩) hS.2.2 (Nat.le_refl _) (Nat.le_refl _))
  · have c_1 := hw
    obtain ⟨hP1, hK1, hD1⟩ := hB
    rw [ht] at hP1
    obtain ⟨hP, hD⟩ := va_join (wr := [c_S qs q0 q1 g, c_P q0 q1 r, c_B q1 q2 q3 k, c_A q2 cM 1024 M, c_A q3 cD 256 D]) (w1 := []) hP hD [] [0, 1, 2, 3, 4] rfl rfl (by decide) (by decide) hk1 hFc hP1 hD1
    generalize H1 = H at hP hS ⊢
    have hP : va_P (dC, dI) classes [c_S qs q0 q1 g, c_P q0 q1 r, c_B q1 q2 q3 k, c_A q2 cM 1024 M, c_A q3 cD 256 D] H := hP.sub [0, 1, 2, 3, 4] rfl
    have hD : va_D A [c_S qs q0 q1 g, c_P q0 q1 r, c_B q1 q2 q3 k, c_A q2 cM 1024 M, c_A q3 cD 256 D] := hD.sub [0, 1, 2, 3, 4] (by decide) rfl
    refine lv_iload_n hx hb d_S_get_9 rfl (lv_at hl 1 rfl) ?_
    by_cases c_2 : p1 = (6 : Int32)
    · refine lv_tableIn (tgt := 40) hx hb d_S_get_10 (by rw [c_2]; decide) (by rw [c_2]; decide) (by rw [c_2]; rfl) (by decide) ?_
      refine lv_aload_n hx hb d_S_get_40 rfl (lv_at hl 0 rfl) ?_
      refine va_get (D := (dC, dI)) (ci := 0) (v := .int (g 0)) (C := R_S) (T := F_S) (N := 4) hx hb htB i_S hown hK hP 0 rfl rfl 2 (by decide) (htB _ mw_101) (fun _ h9 => h9) rfl d_S_get_41 ?_
      have hf : f_S_get p1 g r k M D = (0, (g 0)) := by rw [f_S_get, if_pos c_1, if_pos c_2]
      refine W.widen (k := 1) (n := 6) (by decide) (by decide) ?_
      exact vx_ret (W.iret (v := (g 0)) hx hb hr (fun t ht hW => ⟨⟨(g 0), (), rfl, by rw [hf]; exact ⟨rfl, rfl⟩, by exact ⟨by rw [ht]; exact hP, va_K.moved hW.alike hK, hD⟩⟩, hS.F ht⟩) hS.2.2 d_S_get_44)
    · by_cases c_3 : p1 = (7 : Int32)
      · refine lv_tableIn (tgt := 45) hx hb d_S_get_10 (by rw [c_3]; decide) (by rw [c_3]; decide) (by rw [c_3]; rfl) (by decide) ?_
        refine lv_aload_n hx hb d_S_get_45 rfl (lv_at hl 0 rfl) ?_
        refine va_get (D := (dC, dI)) (ci := 0) (v := .ref q1) (C := R_S) (T := F_S) (N := 4) hx hb htB i_S hown hK hP 0 rfl rfl 1 (by decide) (htB _ mw_100) (fun _ h9 => h9) rfl d_S_get_46 ?_
        refine va_getN (D := (dC, dI)) (ci := 2) (v := .int (k 0)) (C := R_B) (T := F_B) (N := 5) hx hb htB i_B hown hK hP 2 rfl rfl 2 (by decide) (va_Nw.use rfl (hE.2.1 _ ew_40)) (fun _ h9 => h9) rfl d_S_get_49 ?_
        have hf : f_S_get p1 g r k M D = (0, (k 0)) := by rw [f_S_get, if_pos c_1, if_neg c_2, if_pos c_3]
        refine W.widen (k := 1) (n := 6) (by decide) (by decide) ?_
        exact vx_ret (W.iret (v := (k 0)) hx hb hr (fun t ht hW => ⟨⟨(k 0), (), rfl, by rw [hf]; exact ⟨rfl, rfl⟩, by exact ⟨by rw [ht]; exact hP, va_K.moved hW.alike hK, hD⟩⟩, hS.F ht⟩) hS.2.2 d_S_get_52)
      · by_cases c_4 : p1 = (8 : Int32)
        · refine lv_tableIn (tgt := 53) hx hb d_S_get_10 (by rw [c_4]; decide) (by rw [c_4]; decide) (by rw [c_4]; rfl) (by decide) ?_
          refine lv_aload_n hx hb d_S_get_53 rfl (lv_at hl 0 rfl) ?_
          refine va_get (D := (dC, dI)) (ci := 0) (v := .ref q1) (C := R_S) (T := F_S) (N := 4) hx hb htB i_S hown hK hP 0 rfl rfl 1 (by decide) (htB _ mw_100) (fun _ h9 => h9) rfl d_S_get_54 ?_
          refine va_getN (D := (dC, dI)) (ci := 2) (v := .int (k 1)) (C := R_B) (T := F_B) (N := 5) hx hb htB i_B hown hK hP 2 rfl rfl 3 (by decide) (va_Nw.use rfl (hE.2.1 _ ew_42)) (fun _ h9 => h9) rfl d_S_get_57 ?_
          have hf : f_S_get p1 g r k M D = (0, (k 1)) := by rw [f_S_get, if_pos c_1, if_neg c_2, if_neg c_3, if_pos c_4]
          refine W.widen (k := 1) (n := 6) (by decide) (by decide) ?_
          exact vx_ret (W.iret (v := (k 1)) hx hb hr (fun t ht hW => ⟨⟨(k 1), (), rfl, by rw [hf]; exact ⟨rfl, rfl⟩, by exact ⟨by rw [ht]; exact hP, va_K.moved hW.alike hK, hD⟩⟩, hS.F ht⟩) hS.2.2 d_S_get_60)
        · by_cases c_5 : p1 = (9 : Int32)
          · refine lv_tableIn (tgt := 61) hx hb d_S_get_10 (by rw [c_5]; decide) (by rw [c_5]; decide) (by rw [c_5]; rfl) (by decide) ?_
            refine lv_aload_n hx hb d_S_get_61 rfl (lv_at hl 0 rfl) ?_
            refine va_get (D := (dC, dI)) (ci := 0) (v := .int (g 1)) (C := R_S) (T := F_S) (N := 4) hx hb htB i_S hown hK hP 0 rfl rfl 3 (by decide) (htB _ mw_102) (fun _ h9 => h9) rfl d_S_get_62 ?_
            have hf : f_S_get p1 g r k M D = (0, (g 1)) := by rw [f_S_get, if_pos c_1, if_neg c_2, if_neg c_3, if_neg c_4, if_pos c_5]
            refine W.widen (k := 1) (n := 6) (by decide) (by decide) ?_
            exact vx_ret (W.iret (v := (g 1)) hx hb hr (fun t ht hW => ⟨⟨(g 1), (), rfl, by rw [hf]; exact ⟨rfl, rfl⟩, by exact ⟨by rw [ht]; exact hP, va_K.moved hW.alike hK, hD⟩⟩, hS.F ht⟩) hS.2.2 d_S_get_65)
          · refine lv_tableOut (tgt := 66) hx hb d_S_get_10 (by have g_6 := lv_neT c_2 (show (6 : Int32).toInt = 6 from by decide); have g_7 := lv_neT c_3 (show (7 : Int32).toInt = 7 from by decide); have g_8 := lv_neT c_4 (show (8 : Int32).toInt = 8 from by decide); have g_9 := lv_neT c_5 (show (9 : Int32).toInt = 9 from by decide); omega) (by decide) ?_
            refine lv_aload_n hx hb d_S_get_66 rfl (lv_at hl 0 rfl) ?_
            refine va_get (D := (dC, dI)) (ci := 0) (v := .ref q0) (C := R_S) (T := F_S) (N := 4) hx hb htB i_S hown hK hP 0 rfl rfl 0 (by decide) (htB _ mw_99) (fun _ h9 => h9) rfl d_S_get_67 ?_
            refine lv_iload_n hx hb d_S_get_70 rfl (lv_at hl 1 rfl) ?_
            have hPc := hP.sub (ws' := [c_P q0 q1 r]) [1] rfl
            have hDc := hD.sub (ws' := [c_P q0 q1 r]) [1] (by decide) rfl
            have hKc := hK.sub (tys' := []) [] rfl
            have hFc := va_free (wc := [c_P q0 q1 r]) hD hS hA [1] rfl
            refine va_calli (va_runVN (As := [.int p1]) (rest := []) ⟨hx, hb, hml, hown, htB⟩ (c_P_register l dC dI z0 q0 q1 H.size p1 r) ⟨va_cnB 1 htB (gd_c mw_223) rfl rfl rfl (hE.2.1 _ ew_220) (htB _ mw_2) (by decide +kernel) ⟨Nat.le_of_ble_eq_true rfl, Nat.le_of_ble_eq_true rfl⟩, htB _ mw_222, htB _ sw_P_register⟩ (pcx_V (va_recv hKc hPc (ci := 1) (q0 := 0) rfl rfl) hPc hKc hDc hA0 hE hS) rfl rfl hl.1 rfl (lv_room (Nat.le_of_ble_eq_true rfl)) d_S_get_71 ⟨Nat.le_of_ble_eq_true rfl, Nat.le_of_ble_eq_true rfl⟩) hS (fun q _ h => hFc q h) hFc (fun r9 u t H1 locs ht hvm hw hB hz1 hk1 hS => ?_)
            subst hw
            obtain ⟨hP1, hK1, hD1⟩ := hB
            rw [ht] at hP1
            obtain ⟨hP, hD⟩ := va_join (wr := [c_S qs q0 q1 g, c_B q1 q2 q3 k, c_A q2 cM 1024 M, c_A q3 cD 256 D]) (w1 := [c_P q0 q1 r]) hP hD [1] [0, 2, 3, 4] rfl rfl (by decide) (by decide) hk1 hFc hP1 hD1
            generalize H1 = H at hP hS ⊢
            have hP : va_P (dC, dI) classes [c_S qs q0 q1 g, c_P q0 q1 r, c_B q1 q2 q3 k, c_A q2 cM 1024 M, c_A q3 cD 256 D] H := hP.sub [0, 4, 1, 2, 3] rfl
            have hD : va_D A [c_S qs q0 q1 g, c_P q0 q1 r, c_B q1 q2 q3 k, c_A q2 cM 1024 M, c_A q3 cD 256 D] := hD.sub [0, 4, 1, 2, 3] (by decide) rfl
            have hf : f_S_get p1 g r k M D = (0, (f_P_register p1 r)) := by rw [f_S_get, if_pos c_1, if_neg c_2, if_neg c_3, if_neg c_4, if_neg c_5]
            refine W.widen (k := 1) (n := 6) (by decide) (by decide) ?_
            exact vx_ret (W.iret (v := (f_P_register p1 r)) hx hb hr (fun t ht hW => ⟨⟨(f_P_register p1 r), (), rfl, by rw [hf]; exact ⟨rfl, rfl⟩, by exact ⟨by rw [ht]; exact hP, va_K.moved hW.alike hK, hD⟩⟩, hS.F ht⟩) hS.2.2 d_S_get_74)

def f_S_sector (p1 : Int32) (p2 : Int32) (g r k M D : Nat → Int32) : Nat × Int32 :=
  if (f_S_isWithin p1 (7 : Int32)) = (0 : Int32) then
    ((f_S_demand (0 : Int32)), (0 : Int32))
  else
    if (f_S_isWithin p2 (31 : Int32)) = (0 : Int32) then
      ((f_S_demand (0 : Int32)), (0 : Int32))
    else
      (0, (D (((p1 * (32 : Int32)) + p2).toNatClampNeg)))
abbrev Q_S_sector (dC : Nat → ClassId) (dI : Nat → Nat → Nat) (qs : Nat) (q0 : Nat) (q1 : Nat) (q2 : Nat) (q3 : Nat) (cM : ClassId) (cD : ClassId) (p1 : Int32) (p2 : Int32) (g r k M D : Nat → Int32) (A : Nat → Prop) : Array Value → State → Outcome → State → Prop := va_Qi (fun (r9 : Int32) (_ : Unit) => (f_S_sector p1 p2 g r k M D).1 = 0 ∧ r9 = (f_S_sector p1 p2 g r k M D).2) (fun _ t => atW (dC, dI) classes A [c_S qs q0 q1 g, c_P q0 q1 r, c_B q1 q2 q3 k, c_A q2 cM 1024 M, c_A q3 cD 256 D] [(cM, .int), (cD, .int)] t) A
abbrev X_S_sector (dC : Nat → ClassId) (dI : Nat → Nat → Nat) (qs : Nat) (q0 : Nat) (q1 : Nat) (q2 : Nat) (q3 : Nat) (cM : ClassId) (cD : ClassId) (p1 : Int32) (p2 : Int32) (g r k M D : Nat → Int32) (A : Nat → Prop) : String → State → State → Prop := vx_X (fun (_ : Unit) => True) (fun E _ t => ¬ (f_S_sector p1 p2 g r k M D).1 = 0 ∧ E = exN (f_S_sector p1 p2 g r k M D).1 ∧ atW (dC, dI) classes A [c_S qs q0 q1 g, c_P q0 q1 r, c_B q1 q2 q3 k, c_A q2 cM 1024 M, c_A q3 cD 256 D] [(cM, .int), (cD, .int)] t) A
set_option maxHeartbeats 4000000 in
set_option maxRecDepth 100000 in
theorem c_S_sector (l : Launch) (hl9 : l.stackTraces = false) (dC : Nat → ClassId) (dI : Nat → Nat → Nat) (z0 : Nat) (qs : Nat) (q0 : Nat) (q1 : Nat) (q2 : Nat) (q3 : Nat) (cM : ClassId) (cD : ClassId) (sz : Nat) (p1 : Int32) (p2 : Int32) (g r k M D : Nat → Int32)  : vx_Met l y_S_sector w_S_sector ({ frames := 7, cells := 1, slots := 6, locals := 110 }) (PcX (dC, dI) classes z0 [c_S qs q0 q1 g, c_P q0 q1 r, c_B q1 q2 q3 k, c_A q2 cM 1024 M, c_A q3 cD 256 D] [(cM, .int), (cD, .int)] sz [.ref qs, .int p1, .int p2]) (Q_S_sector dC dI qs q0 q1 q2 q3 cM cD p1 p2 g r k M D (va_A [c_S qs q0 q1 g, c_P q0 q1 r, c_B q1 q2 q3 k, c_A q2 cM 1024 M, c_A q3 cD 256 D] sz)) (X_S_sector dC dI qs q0 q1 q2 q3 cM cD p1 p2 g r k M D (va_A [c_S qs q0 q1 g, c_P q0 q1 r, c_B q1 q2 q3 k, c_A q2 cM 1024 M, c_A q3 cD 256 D] sz)) 1 6 (va_A [c_S qs q0 q1 g, c_P q0 q1 r, c_B q1 q2 q3 k, c_A q2 cM 1024 M, c_A q3 cD 256 D] sz) := by
  refine hdXx (cc := b_S_sector) (maxL := 3) (ret := (some .int)) (C := R_S) (Qc := (Q_S_sector dC dI qs q0 q1 q2 q3 cM cD p1 p2 g r k M D)) (XC := (X_S_sector dC dI qs q0 q1 q2 q3 cM cD p1 p2 g r k M D)) (by decide) rfl ?_
  intro p e s m below meth c A H hx hb hr hlocks hEx hml hown hin htB hP hK hD hA hA0 hE hS
  have hl := lv_entry ([.ref qs, .int p1, .int p2]) (n := 3) (Nat.le_of_ble_eq_true rfl)
  rw [lg_entry_eq]
  generalize (lg_sl ([.ref qs, .int p1, .int p2]) ++ List.replicate (3 - (lg_sl ([.ref qs, .int p1, .int p2])).length) Slot.unset).toArray = ls at hl ⊢
  have hl : lv_has ls 3 [(0, .ref qs), (1, .int p1), (2, .int p2)] := hl
  refine lv_iload_n hx hb d_S_sector_0 rfl (lv_at hl 1 rfl) ?_
  refine lv_bipush (v := 7) hx hb d_S_sector_1 (by decide) ?_
  have hPc := hP.sub (ws' := []) [] rfl
  have hDc := hD.sub (ws' := []) [] (by decide) rfl
  have hKc := hK.sub (tys' := []) [] rfl
  have hFc := va_free (wc := []) hD hS hA [] rfl
  refine va_calli (va_runS (As := [.int p1, .int (7 : Int32)]) (rest := []) ⟨hx, hb, hml, hown, htB⟩ (c_S_isWithin l dC dI z0  H.size p1 (7 : Int32)) (cwS 2 htB (gd_S mw_127 mw_128 mw_1 mw_129) rfl rfl rfl (by decide +kernel) ⟨Nat.le_of_ble_eq_true rfl, Nat.le_of_ble_eq_true rfl⟩) (pcx_S hPc hKc hDc hA0 hE hS) rfl rfl hl.1 rfl (lv_room (Nat.le_of_ble_eq_true rfl)) d_S_sector_3 ⟨Nat.le_of_ble_eq_true rfl, Nat.le_of_ble_eq_true rfl⟩) hS (fun q _ h => hFc q h) hFc (fun r9 u t H1 locs ht hvm hw hB hz1 hk1 hS => ?_)
  subst hw
  obtain ⟨hP1, hK1, hD1⟩ := hB
  rw [ht] at hP1
  obtain ⟨hP, hD⟩ := va_join (wr := [c_S qs q0 q1 g, c_P q0 q1 r, c_B q1 q2 q3 k, c_A q2 cM 1024 M, c_A q3 cD 256 D]) (w1 := []) hP hD [] [0, 1, 2, 3, 4] rfl rfl (by decide) (by decide) hk1 hFc hP1 hD1
  generalize H1 = H at hP hS ⊢
  have hP : va_P (dC, dI) classes [c_S qs q0 q1 g, c_P q0 q1 r, c_B q1 q2 q3 k, c_A q2 cM 1024 M, c_A q3 cD 256 D] H := hP.sub [0, 1, 2, 3, 4] rfl
  have hD : va_D A [c_S qs q0 q1 g, c_P q0 q1 r, c_B q1 q2 q3 k, c_A q2 cM 1024 M, c_A q3 cD 256 D] := hD.sub [0, 1, 2, 3, 4] (by decide) rfl
  refine lv_if_eq (tgt := 22) hx hb d_S_sector_6 (by decide) (fun c_1 => ?_) (fun c_1 => ?_)
  · refine lv_iconst (v := 0) hx hb d_S_sector_22 (by decide) ?_
    have hPc := hP.sub (ws' := []) [] rfl
    have hDc := hD.sub (ws' := []) [] (by decide) rfl
    have hKc := hK.sub (tys' := []) [] rfl
    have hFc := va_free (wc := []) hD hS hA [] rfl
    refine vx_callv (vx_runS (As := [.int (0 : Int32)]) (rest := []) ⟨hx, hb, hml, hown, htB⟩ (c_S_demand l hl9 dC dI z0  H.size (0 : Int32)) (cwS 1 htB (gd_S mw_130 mw_131 mw_1 mw_132) rfl rfl rfl (by decide +kernel) ⟨Nat.le_of_ble_eq_true rfl, Nat.le_of_ble_eq_true rfl⟩) (pcx_S hPc hKc hDc hA0 hE hS) rfl rfl hl.1 rfl (lv_room (Nat.le_of_ble_eq_true rfl)) d_S_sector_23 ⟨Nat.le_of_ble_eq_true rfl, Nat.le_of_ble_eq_true rfl⟩) hS (fun q _ h => hFc q h) hFc (fun q _ h => hFc q h) (fun E9 ce q9 u t H1 locs ht hvm hw hB hz1 hk1 hS hce hcv hcl => ?_) (fun u t H1 locs ht hvm hw hB hz1 hk1 hS => ?_)
    · obtain ⟨c_2, rfl, hB⟩ := hB
      obtain ⟨hP1, hK1, hD1⟩ := hB
      rw [ht] at hP1
      obtain ⟨hP, hD⟩ := va_join (wr := [c_S qs q0 q1 g, c_P q0 q1 r, c_B q1 q2 q3 k, c_A q2 cM 1024 M, c_A q3 cD 256 D]) (w1 := []) hP hD [] [0, 1, 2, 3, 4] rfl rfl (by decide) (by decide) hk1 hFc hP1 hD1
      generalize H1 = H at hP hS hce ⊢
      have hP : va_P (dC, dI) classes [c_S qs q0 q1 g, c_P q0 q1 r, c_B q1 q2 q3 k, c_A q2 cM 1024 M, c_A q3 cD 256 D] H := hP.sub [0, 1, 2, 3, 4] rfl
      have hD : va_D A [c_S qs q0 q1 g, c_P q0 q1 r, c_B q1 q2 q3 k, c_A q2 cM 1024 M, c_A q3 cD 256 D] := hD.sub [0, 1, 2, 3, 4] (by decide) rfl
      have hf : f_S_sector p1 p2 g r k M D = ((f_S_demand (0 : Int32)), (0 : Int32)) := by rw [f_S_sector, if_pos c_1]
      exact vx_widen (k := 1) (n := 6) (by decide) (by decide) (vx_out (E := _) (fun x hx => (hEx x hx).elim) hlocks hce hcv hcl (fun t ht ha => ⟨(), trivial, by rw [hf]; exact ⟨c_2, rfl, ⟨by rw [ht]; exact hP, va_K.moved ha hK, hD⟩⟩, hS.F ht⟩) hS.2.2 (Nat.le_refl _) (Nat.le_refl _))
    · exact absurd hw (show ¬ (f_S_demand (0 : Int32)) = 0 from by decide)
  · refine lv_iload_n hx hb d_S_sector_9 rfl (lv_at hl 2 rfl) ?_
    refine lv_bipush (v := 31) hx hb d_S_sector_10 (by decide) ?_
    have hPc := hP.sub (ws' := []) [] rfl
    have hDc := hD.sub (ws' := []) [] (by decide) rfl
    have hKc := hK.sub (tys' := []) [] rfl
    have hFc := va_free (wc := []) hD hS hA [] rfl
    refine va_calli (va_runS (As := [.int p2, .int (31 : Int32)]) (rest := []) ⟨hx, hb, hml, hown, htB⟩ (c_S_isWithin l dC dI z0  H.size p2 (31 : Int32)) (cwS 2 htB (gd_S mw_127 mw_128 mw_1 mw_129) rfl rfl rfl (by decide +kernel) ⟨Nat.le_of_ble_eq_true rfl, Nat.le_of_ble_eq_true rfl⟩) (pcx_S hPc hKc hDc hA0 hE hS) rfl rfl hl.1 rfl (lv_room (Nat.le_of_ble_eq_true rfl)) d_S_sector_12 ⟨Nat.le_of_ble_eq_true rfl, Nat.le_of_ble_eq_true rfl⟩) hS (fun q _ h => hFc q h) hFc (fun r9 u t H1 locs ht hvm hw hB hz1 hk1 hS => ?_)
    subst hw
    obtain ⟨hP1, hK1, hD1⟩ := hB
    rw [ht] at hP1
    obtain ⟨hP, hD⟩ := va_join (wr := [c_S qs q0 q1 g, c_P q0 q1 r, c_B q1 q2 q3 k, c_A q2 cM 1024 M, c_A q3 cD 256 D]) (w1 := []) hP hD [] [0, 1, 2, 3, 4] rfl rfl (by decide) (by decide) hk1 hFc hP1 hD1
    generalize H1 = H at hP hS ⊢
    have hP : va_P (dC, dI) classes [c_S qs q0 q1 g, c_P q0 q1 r, c_B q1 q2 q3 k, c_A q2 cM 1024 M, c_A q3 cD 256 D] H := hP.sub [0, 1, 2, 3, 4] rfl
    have hD : va_D A [c_S qs q0 q1 g, c_P q0 q1 r, c_B q1 q2 q3 k, c_A q2 cM 1024 M, c_A q3 cD 256 D] := hD.sub [0, 1, 2, 3, 4] (by decide) rfl
    refine lv_if_eq (tgt := 22) hx hb d_S_sector_15 (by decide) (fun c_2 => ?_) (fun c_2 => ?_)
    · refine lv_iconst (v := 0) hx hb d_S_sector_22 (by decide) ?_
      have hPc := hP.sub (ws' := []) [] rfl
      have hDc := hD.sub (ws' := []) [] (by decide) rfl
      have hKc := hK.sub (tys' := []) [] rfl
      have hFc := va_free (wc := []) hD hS hA [] rfl
      refine vx_callv (vx_runS (As := [.int (0 : Int32)]) (rest := []) ⟨hx, hb, hml, hown, htB⟩ (c_S_demand l hl9 dC dI z0  H.size (0 : Int32)) (cwS 1 htB (gd_S mw_130 mw_131 mw_1 mw_132) rfl rfl rfl (by decide +kernel) ⟨Nat.le_of_ble_eq_true rfl, Nat.le_of_ble_eq_true rfl⟩) (pcx_S hPc hKc hDc hA0 hE hS) rfl rfl hl.1 rfl (lv_room (Nat.le_of_ble_eq_true rfl)) d_S_sector_23 ⟨Nat.le_of_ble_eq_true rfl, Nat.le_of_ble_eq_true rfl⟩) hS (fun q _ h => hFc q h) hFc (fun q _ h => hFc q h) (fun E9 ce q9 u t H1 locs ht hvm hw hB hz1 hk1 hS hce hcv hcl => ?_) (fun u t H1 locs ht hvm hw hB hz1 hk1 hS => ?_)
      · obtain ⟨c_3, rfl, hB⟩ := hB
        obtain ⟨hP1, hK1, hD1⟩ := hB
        rw [ht] at hP1
        obtain ⟨hP, hD⟩ := va_join (wr := [c_S qs q0 q1 g, c_P q0 q1 r, c_B q1 q2 q3 k, c_A q2 cM 1024 M, c_A q3 cD 256 D]) (w1 := []) hP hD [] [0, 1, 2, 3, 4] rfl rfl (by decide) (by decide) hk1 hFc hP1 hD1
        generalize H1 = H at hP hS hce ⊢
        have hP : va_P (dC, dI) classes [c_S qs q0 q1 g, c_P q0 q1 r, c_B q1 q2 q3 k, c_A q2 cM 1024 M, c_A q3 cD 256 D] H := hP.sub [0, 1, 2, 3, 4] rfl
        have hD : va_D A [c_S qs q0 q1 g, c_P q0 q1 r, c_B q1 q2 q3 k, c_A q2 cM 1024 M, c_A q3 cD 256 D] := hD.sub [0, 1, 2, 3, 4] (by decide) rfl
        have hf : f_S_sector p1 p2 g r k M D = ((f_S_demand (0 : Int32)), (0 : Int32)) := by rw [f_S_sector, if_neg c_1, if_pos c_2]
        exact vx_widen (k := 1) (n := 6) (by decide) (by decide) (vx_out (E := _) (fun x hx => (hEx x hx).elim) hlocks hce hcv hcl (fun t ht ha => ⟨(), trivial, by rw [hf]; exact ⟨c_3, rfl, ⟨by rw [ht]; exact hP, va_K.moved ha hK, hD⟩⟩, hS.F ht⟩) hS.2.2 (Nat.le_refl _) (Nat.le_refl _))
      · exact absurd hw (show ¬ (f_S_demand (0 : Int32)) = 0 from by decide)
    · refine lv_iconst (v := 1) hx hb d_S_sector_18 (by decide) ?_
      refine lv_goto (tgt := 23) hx hb d_S_sector_19 (by decide) ?_
      have hPc := hP.sub (ws' := []) [] rfl
      have hDc := hD.sub (ws' := []) [] (by decide) rfl
      have hKc := hK.sub (tys' := []) [] rfl
      have hFc := va_free (wc := []) hD hS hA [] rfl
      refine vx_callv (vx_runS (As := [.int (1 : Int32)]) (rest := []) ⟨hx, hb, hml, hown, htB⟩ (c_S_demand l hl9 dC dI z0  H.size (1 : Int32)) (cwS 1 htB (gd_S mw_130 mw_131 mw_1 mw_132) rfl rfl rfl (by decide +kernel) ⟨Nat.le_of_ble_eq_true rfl, Nat.le_of_ble_eq_true rfl⟩) (pcx_S hPc hKc hDc hA0 hE hS) rfl rfl hl.1 rfl (lv_room (Nat.le_of_ble_eq_true rfl)) d_S_sector_23 ⟨Nat.le_of_ble_eq_true rfl, Nat.le_of_ble_eq_true rfl⟩) hS (fun q _ h => hFc q h) hFc (fun q _ h => hFc q h) (fun E9 ce q9 u t H1 locs ht hvm hw hB hz1 hk1 hS hce hcv hcl => ?_) (fun u t H1 locs ht hvm hw hB hz1 hk1 hS => ?_)
      · exact absurd (show (f_S_demand (1 : Int32)) = 0 from by decide) hB.1
      · have c_3 := hw
        obtain ⟨hP1, hK1, hD1⟩ := hB
        rw [ht] at hP1
        obtain ⟨hP, hD⟩ := va_join (wr := [c_S qs q0 q1 g, c_P q0 q1 r, c_B q1 q2 q3 k, c_A q2 cM 1024 M, c_A q3 cD 256 D]) (w1 := []) hP hD [] [0, 1, 2, 3, 4] rfl rfl (by decide) (by decide) hk1 hFc hP1 hD1
        generalize H1 = H at hP hS ⊢
        have hP : va_P (dC, dI) classes [c_S qs q0 q1 g, c_P q0 q1 r, c_B q1 q2 q3 k, c_A q2 cM 1024 M, c_A q3 cD 256 D] H := hP.sub [0, 1, 2, 3, 4] rfl
        have hD : va_D A [c_S qs q0 q1 g, c_P q0 q1 r, c_B q1 q2 q3 k, c_A q2 cM 1024 M, c_A q3 cD 256 D] := hD.sub [0, 1, 2, 3, 4] (by decide) rfl
        refine lv_aload_n hx hb d_S_sector_26 rfl (lv_at hl 0 rfl) ?_
        refine va_get (D := (dC, dI)) (ci := 0) (v := .ref q1) (C := R_S) (T := F_S) (N := 4) hx hb htB i_S hown hK hP 0 rfl rfl 1 (by decide) (htB _ mw_100) (fun _ h9 => h9) rfl d_S_sector_27 ?_
        refine va_getN (D := (dC, dI)) (ci := 2) (v := .ref q3) (C := R_B) (T := F_B) (N := 5) hx hb htB i_B hown hK hP 2 rfl rfl 1 (by decide) (va_Nw.use rfl (hE.2.1 _ ew_38)) (fun _ h9 => h9) rfl d_S_sector_30 ?_
        refine lv_iload_n hx hb d_S_sector_33 rfl (lv_at hl 1 rfl) ?_
        refine lv_bipush (v := 32) hx hb d_S_sector_34 (by decide) ?_
        refine lv_imul hx hb d_S_sector_36 ?_
        refine lv_iload_n hx hb d_S_sector_37 rfl (lv_at hl 2 rfl) ?_
        refine lv_iadd hx hb d_S_sector_38 ?_
        refine va_iald hx hb hK hP 4 1 rfl rfl (in_sector c_1 c_2) d_S_sector_39 ?_
        have hf : f_S_sector p1 p2 g r k M D = (0, (D (((p1 * (32 : Int32)) + p2).toNatClampNeg))) := by rw [f_S_sector, if_neg c_1, if_neg c_2]
        refine W.widen (k := 1) (n := 6) (by decide) (by decide) ?_
        exact vx_ret (W.iret (v := (D (((p1 * (32 : Int32)) + p2).toNatClampNeg))) hx hb hr (fun t ht hW => ⟨⟨(D (((p1 * (32 : Int32)) + p2).toNatClampNeg)), (), rfl, by rw [hf]; exact ⟨rfl, rfl⟩, by exact ⟨by rw [ht]; exact hP, va_K.moved hW.alike hK, hD⟩⟩, hS.F ht⟩) hS.2.2 d_S_sector_40)
