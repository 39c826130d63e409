abbrev Q_L_load (dC : Nat → ClassId) (dI : Nat → Nat → Nat) (qs : Nat) (q0 : Nat) (q1 : Nat) (q2 : Nat) (q3 : Nat) (cM : ClassId) (cD : ClassId) (qo : Nat) (cO : ClassId) (p1 : Int32) (p2 : Int64) (p3 : Int32) (g r k M D : Nat → Int32) (A : Nat → Prop) : Array Value → State → Outcome → State → Prop := va_Qi (fun (r9 : Int32) (u : Nat → Int64) => r9 = nI (f_S_load p1 p2 p3 g r k M D).1 ∧ ((f_S_load p1 p2 p3 g r k M D).1 = 0 → u 0 = ((f_S_load p1 p2 p3 g r k M D).2.1).toInt64)) (fun u t => atW (dC, dI) classes A [c_S qs q0 q1 g, c_P q0 q1 r, c_B q1 q2 q3 k, c_A q2 cM 1024 ((f_S_load p1 p2 p3 g r k M D).2.2), c_A q3 cD 256 D, c_L qo cO u] [(cM, .int), (cD, .int), (cO, .long)] t) A
set_option maxHeartbeats 4000000 in
set_option maxRecDepth 100000 in
theorem c_L_load (l : Launch) (hl9 : l.stackTraces = false) (dC : Nat → ClassId) (dI : Nat → Nat → Nat) (z0 : Nat) (qs : Nat) (q0 : Nat) (q1 : Nat) (q2 : Nat) (q3 : Nat) (cM : ClassId) (cD : ClassId) (qo : Nat) (cO : ClassId) (sz : Nat) (p1 : Int32) (p2 : Int64) (p3 : Int32) (g r k M D : Nat → Int32) (o : Nat → Int64)  : Met l y_L_load w_L_load ({ frames := 8, cells := 1, slots := 6, locals := 134 }) (PcX (dC, dI) classes z0 [c_S qs q0 q1 g, c_P q0 q1 r, c_B q1 q2 q3 k, c_A q2 cM 1024 M, c_A q3 cD 256 D, c_L qo cO o] [(cM, .int), (cD, .int), (cO, .long)] sz [.ref qs, .int p1, .long p2, .int p3, .ref qo]) (Q_L_load dC dI qs q0 q1 q2 q3 cM cD qo cO p1 p2 p3 g r k M D (va_A [c_S qs q0 q1 g, c_P q0 q1 r, c_B q1 q2 q3 k, c_A q2 cM 1024 M, c_A q3 cD 256 D, c_L qo cO o] sz)) 1 6 (va_A [c_S qs q0 q1 g, c_P q0 q1 r, c_B q1 q2 q3 k, c_A q2 cM 1024 M, c_A q3 cD 256 D, c_L qo cO o] sz) := by
  refine hdXw (cc := b_L_load) (maxL := 7) (ret := (some .int)) (hh := [(0, 13, 16, 13)]) (C := R_law) (Qc := Q_L_load dC dI qs q0 q1 q2 q3 cM cD qo cO p1 p2 p3 g r k M D) (by decide) rfl ?_
  intro p e s m below meth c A H hx hb hr hlocks hEx hml hown hin htB hP hK hD hA hA0 hE hS
  have hl := lv_entry ([.ref qs, .int p1, .long p2, .int p3, .ref qo]) (n := 7) (Nat.le_of_ble_eq_true rfl)
  rw [lg_entry_eq]
  generalize (lg_sl ([.ref qs, .int p1, .long p2, .int p3, .ref qo]) ++ List.replicate (7 - (lg_sl ([.ref qs, .int p1, .long p2, .int p3, .ref qo])).length) Slot.unset).toArray = ls at hl ⊢
  have hl : lv_has ls 7 [(0, .ref qs), (1, .int p1), (2, .long p2), (4, .int p3), (5, .ref qo)] := hl
  refine lv_aload hx hb d_L_load_0 (lv_at hl 4 rfl) ?_
  refine lv_iconst (v := 0) hx hb d_L_load_2 (by decide) ?_
  refine lv_aload_n hx hb d_L_load_3 rfl (lv_at hl 0 rfl) ?_
  refine lv_iload_n hx hb d_L_load_4 rfl (lv_at hl 1 rfl) ?_
  refine lv_lload_n hx hb d_L_load_5 rfl (lv_at hl 2 rfl) ?_
  refine lv_iload hx hb d_L_load_6 (lv_at hl 3 rfl) ?_
  have hPc := hP.sub (ws' := [c_S qs q0 q1 g, c_P q0 q1 r, c_B q1 q2 q3 k, c_A q2 cM 1024 M, c_A q3 cD 256 D]) [0, 1, 2, 3, 4] rfl
  have hDc := hD.sub (ws' := [c_S qs q0 q1 g, c_P q0 q1 r, c_B q1 q2 q3 k, c_A q2 cM 1024 M, c_A q3 cD 256 D]) [0, 1, 2, 3, 4] (by decide) rfl
  have hKc := hK.sub (tys' := [(cM, .int), (cD, .int)]) [0, 1] rfl
  have hFc := va_free (wc := [c_S qs q0 q1 g, c_P q0 q1 r, c_B q1 q2 q3 k, c_A q2 cM 1024 M, c_A q3 cD 256 D]) hD hS hA [0, 1, 2, 3, 4] rfl
  refine vx_calli (vx_runV (As := [.int p1, .long p2, .int p3]) (rest := [.int (0 : Int32), .ref qo]) ⟨hx, hb, hml, hown, htB⟩ (c_S_load l hl9 dC dI z0 qs q0 q1 q2 q3 cM cD H.size p1 p2 p3 g r k M D) (cwV 3 htB (gd_V mw_120 mw_121 mw_122 mw_1 mw_123) rfl rfl rfl (by decide +kernel) ⟨Nat.le_of_ble_eq_true rfl, Nat.le_of_ble_eq_true rfl⟩) (pcx_V (va_recv hKc hPc (ci := 0) (q0 := 0) rfl rfl) hPc hKc hDc hA0 hE hS) rfl rfl hl.1 rfl (lv_room (Nat.le_of_ble_eq_true rfl)) d_L_load_8 ⟨Nat.le_of_ble_eq_true rfl, Nat.le_of_ble_eq_true rfl⟩) hS (fun q _ h => hFc q h) hFc (fun q _ h => hFc q h) (fun E9 ce q9 u t H1 locs ht hvm hw hB hz1 hk1 hS hce hcv hcl => ?_) (fun r9 u t H1 locs ht hvm hw hB hz1 hk1 hS => ?_)
  · obtain ⟨c_1, rfl, hB⟩ := hB
    obtain ⟨hP1, hK1, hD1⟩ := hB
    rw [ht] at hP1
    obtain ⟨hP, hD⟩ := va_join (wr := [c_L qo cO o]) (w1 := [c_S qs q0 q1 g, c_P q0 q1 r, c_B q1 q2 q3 k, c_A q2 cM 1024 ((f_S_load p1 p2 p3 g r k M D).2.2), c_A q3 cD 256 D]) hP hD [0, 1, 2, 3, 4] [5] rfl rfl (by decide) (by decide) hk1 hFc hP1 hD1
    generalize H1 = H at hP hS hce ⊢
    have hP : va_P (dC, dI) classes [c_S qs q0 q1 g, c_P q0 q1 r, c_B q1 q2 q3 k, c_A q2 cM 1024 ((f_S_load p1 p2 p3 g r k M D).2.2), c_A q3 cD 256 D, c_L qo cO o] H := hP.sub [1, 2, 3, 4, 5, 0] rfl
    have hD : va_D A [c_S qs q0 q1 g, c_P q0 q1 r, c_B q1 q2 q3 k, c_A q2 cM 1024 ((f_S_load p1 p2 p3 g r k M D).2.2), c_A q3 cD 256 D, c_L qo cO o] := hD.sub [1, 2, 3, 4, 5, 0] (by decide) rfl
    rcases (co_load (g := g) (r := r) (k := k) (M := M) (D := D) (p1 := p1) (p2 := p2) (p3 := p3) : _) with e9 | e9
    · exact absurd e9 c_1
    · have hcl : s.vm.findClass "java/lang/IllegalArgumentException" = some ce.cls := by rw [e9] at hcl; exact hcl
      refine vx_catch hown [] ⟨0, 13, 16, 13⟩ [] hEx (fun z hz => absurd hz List.not_mem_nil) (by decide) (by decide) (htB _ mw_119) (va_Nw.use rfl (hE.2.1 _ ew_135)) hce hcv hcl ?_
      refine lv_astore (lv' := [(6, .ref q9), (0, .ref qs), (1, .int p1), (2, .long p2), (4, .int p3), (5, .ref qo)]) hx hb d_L_load_16 hl (by decide) rfl (fun ls hl => ?_)
      refine lv_iconst (v := 1) hx hb d_L_load_18 (by decide) ?_
      refine W.widen (k := 1) (n := 6) (by decide) (by decide) ?_
      exact W.iret (v := (1 : Int32)) hx hb hr (fun t ht hW => ⟨⟨(1 : Int32), o, rfl, ⟨(congrArg nI e9).symm, fun q9 => absurd q9 c_1⟩, by rw [ht]; exact hP, va_K.moved hW.alike hK, hD⟩, hS.F ht⟩) hS.2.2 d_L_load_19
  · obtain ⟨c_1, rfl⟩ := hw
    obtain ⟨hP1, hK1, hD1⟩ := hB
    rw [ht] at hP1
    obtain ⟨hP, hD⟩ := va_join (wr := [c_L qo cO o]) (w1 := [c_S qs q0 q1 g, c_P q0 q1 r, c_B q1 q2 q3 k, c_A q2 cM 1024 ((f_S_load p1 p2 p3 g r k M D).2.2), c_A q3 cD 256 D]) hP hD [0, 1, 2, 3, 4] [5] rfl rfl (by decide) (by decide) hk1 hFc hP1 hD1
    generalize H1 = H at hP hS ⊢
    have hP : va_P (dC, dI) classes [c_S qs q0 q1 g, c_P q0 q1 r, c_B q1 q2 q3 k, c_A q2 cM 1024 ((f_S_load p1 p2 p3 g r k M D).2.2), c_A q3 cD 256 D, c_L qo cO o] H := hP.sub [1, 2, 3, 4, 5, 0] rfl
    have hD : va_D A [c_S qs q0 q1 g, c_P q0 q1 r, c_B q1 q2 q3 k, c_A q2 cM 1024 ((f_S_load p1 p2 p3 g r k M D).2.2), c_A q3 cD 256 D, c_L qo cO o] := hD.sub [1, 2, 3, 4, 5, 0] (by decide) rfl
    refine lv_i2l hx hb d_L_load_11 rfl ?_
    refine va_last hx hb hK hP hD hS 5 2 rfl rfl (show ¬ ((0 : Int32) < 0 ∨ 1 ≤ (0 : Int32).toNatClampNeg) from by decide) d_L_load_12 (fun H locs hP hD hS => ?_)
    have hP : va_P (dC, dI) classes [c_S qs q0 q1 g, c_P q0 q1 r, c_B q1 q2 q3 k, c_A q2 cM 1024 ((f_S_load p1 p2 p3 g r k M D).2.2), c_A q3 cD 256 D, c_L qo cO (vp_updL o ((0 : Int32).toNatClampNeg) (((f_S_load p1 p2 p3 g r k M D).2.1).toInt64))] H := hP
    have hD : va_D A [c_S qs q0 q1 g, c_P q0 q1 r, c_B q1 q2 q3 k, c_A q2 cM 1024 ((f_S_load p1 p2 p3 g r k M D).2.2), c_A q3 cD 256 D, c_L qo cO (vp_updL o ((0 : Int32).toNatClampNeg) (((f_S_load p1 p2 p3 g r k M D).2.1).toInt64))] := hD
    refine lv_goto (tgt := 20) hx hb d_L_load_13 (by decide) ?_
    refine lv_iconst (v := 0) hx hb d_L_load_20 (by decide) ?_
    refine W.widen (k := 1) (n := 6) (by decide) (by decide) ?_
    exact W.iret (v := (0 : Int32)) hx hb hr (fun t ht hW => ⟨⟨(0 : Int32), (vp_updL o ((0 : Int32).toNatClampNeg) (((f_S_load p1 p2 p3 g r k M D).2.1).toInt64)), rfl, ⟨(congrArg nI c_1).symm, fun _ => updL0⟩, by rw [ht]; exact hP, va_K.moved hW.alike hK, hD⟩, hS.F ht⟩) hS.2.2 d_L_load_21

abbrev Q_L_insert (dC : Nat → ClassId) (dI : Nat → Nat → Nat) (qs : Nat) (q0 : Nat) (q1 : Nat) (q2 : Nat) (q3 : Nat) (cM : ClassId) (cD : ClassId) (qo : Nat) (cO : ClassId) (p1 : Int32) (p2 : Int32) (p3 : Int64) (p4 : Int32) (g r k M D : Nat → Int32) (A : Nat → Prop) : Array Value → State → Outcome → State → Prop := va_Qi (fun (r9 : Int32) (u : Nat → Int64) => r9 = nI (f_S_insert p1 p2 p3 p4 g r k M D).1 ∧ ((f_S_insert p1 p2 p3 p4 g r k M D).1 = 0 → u 0 = ((f_S_insert p1 p2 p3 p4 g r k M D).2.1).toInt64)) (fun u t => atW (dC, dI) classes A [c_S qs q0 q1 g, c_P q0 q1 r, c_B q1 q2 q3 k, c_A q2 cM 1024 M, c_A q3 cD 256 ((f_S_insert p1 p2 p3 p4 g r k M D).2.2), c_L qo cO u] [(cM, .int), (cD, .int), (cO, .long)] t) A
set_option maxHeartbeats 4000000 in
set_option maxRecDepth 100000 in
theorem c_L_insert (l : Launch) (hl9 : l.stackTraces = false) (dC : Nat → ClassId) (dI : Nat → Nat → Nat) (z0 : Nat) (qs : Nat) (q0 : Nat) (q1 : Nat) (q2 : Nat) (q3 : Nat) (cM : ClassId) (cD : ClassId) (qo : Nat) (cO : ClassId) (sz : Nat) (p1 : Int32) (p2 : Int32) (p3 : Int64) (p4 : Int32) (g r k M D : Nat → Int32) (o : Nat → Int64)  : Met l y_L_insert w_L_insert ({ frames := 8, cells := 1, slots := 6, locals := 135 }) (PcX (dC, dI) classes z0 [c_S qs q0 q1 g, c_P q0 q1 r, c_B q1 q2 q3 k, c_A q2 cM 1024 M, c_A q3 cD 256 D, c_L qo cO o] [(cM, .int), (cD, .int), (cO, .long)] sz [.ref qs, .int p1, .int p2, .long p3, .int p4, .ref qo]) (Q_L_insert dC dI qs q0 q1 q2 q3 cM cD qo cO p1 p2 p3 p4 g r k M D (va_A [c_S qs q0 q1 g, c_P q0 q1 r, c_B q1 q2 q3 k, c_A q2 cM 1024 M, c_A q3 cD 256 D, c_L qo cO o] sz)) 1 6 (va_A [c_S qs q0 q1 g, c_P q0 q1 r, c_B q1 q2 q3 k, c_A q2 cM 1024 M, c_A q3 cD 256 D, c_L qo cO o] sz) := by
  refine hdXw (cc := b_L_insert) (maxL := 8) (ret := (some .int)) (hh := [(0, 14, 17, 13)]) (C := R_law) (Qc := Q_L_insert dC dI qs q0 q1 q2 q3 cM cD qo cO p1 p2 p3 p4 g r k M D) (by decide) rfl ?_
  intro p e s m below meth c A H hx hb hr hlocks hEx hml hown hin htB hP hK hD hA hA0 hE hS
  have hl := lv_entry ([.ref qs, .int p1, .int p2, .long p3, .int p4, .ref qo]) (n := 8) (Nat.le_of_ble_eq_true rfl)
  rw [lg_entry_eq]
  generalize (lg_sl ([.ref qs, .int p1, .int p2, .long p3, .int p4, .ref qo]) ++ List.replicate (8 - (lg_sl ([.ref qs, .int p1, .int p2, .long p3, .int p4, .ref qo])).length) Slot.unset).toArray = ls at hl ⊢
  have hl : lv_has ls 8 [(0, .ref qs), (1, .int p1), (2, .int p2), (3, .long p3), (5, .int p4), (6, .ref qo)] := hl
  refine lv_aload hx hb d_L_insert_0 (lv_at hl 5 rfl) ?_
  refine lv_iconst (v := 0) hx hb d_L_insert_2 (by decide) ?_
  refine lv_aload_n hx hb d_L_insert_3 rfl (lv_at hl 0 rfl) ?_
  refine lv_iload_n hx hb d_L_insert_4 rfl (lv_at hl 1 rfl) ?_
  refine lv_iload_n hx hb d_L_insert_5 rfl (lv_at hl 2 rfl) ?_
  refine lv_lload_n hx hb d_L_insert_6 rfl (lv_at hl 3 rfl) ?_
  refine lv_iload hx hb d_L_insert_7 (lv_at hl 4 rfl) ?_
  have hPc := hP.sub (ws' := [c_S qs q0 q1 g, c_P q0 q1 r, c_B q1 q2 q3 k, c_A q2 cM 1024 M, c_A q3 cD 256 D]) [0, 1, 2, 3, 4] rfl
  have hDc := hD.sub (ws' := [c_S qs q0 q1 g, c_P q0 q1 r, c_B q1 q2 q3 k, c_A q2 cM 1024 M, c_A q3 cD 256 D]) [0, 1, 2, 3, 4] (by decide) rfl
  have hKc := hK.sub (tys' := [(cM, .int), (cD, .int)]) [0, 1] rfl
  have hFc := va_free (wc := [c_S qs q0 q1 g, c_P q0 q1 r, c_B q1 q2 q3 k, c_A q2 cM 1024 M, c_A q3 cD 256 D]) hD hS hA [0, 1, 2, 3, 4] rfl
  refine vx_calli (vx_runV (As := [.int p1, .int p2, .long p3, .int p4]) (rest := [.int (0 : Int32), .ref qo]) ⟨hx, hb, hml, hown, htB⟩ (c_S_insert l hl9 dC dI z0 qs q0 q1 q2 q3 cM cD H.size p1 p2 p3 p4 g r k M D) (cwV 4 htB (gd_V mw_209 mw_210 mw_211 mw_1 mw_212) rfl rfl rfl (by decide +kernel) ⟨Nat.le_of_ble_eq_true rfl, Nat.le_of_ble_eq_true rfl⟩) (pcx_V (va_recv hKc hPc (ci := 0) (q0 := 0) rfl rfl) hPc hKc hDc hA0 hE hS) rfl rfl hl.1 rfl (lv_room (Nat.le_of_ble_eq_true rfl)) d_L_insert_9 ⟨Nat.le_of_ble_eq_true rfl, Nat.le_of_ble_eq_true rfl⟩) hS (fun q _ h => hFc q h) hFc (fun q _ h => hFc q h) (fun E9 ce q9 u t H1 locs ht hvm hw hB hz1 hk1 hS hce hcv hcl => ?_) (fun r9 u t H1 locs ht hvm hw hB hz1 hk1 hS => ?_)
  · obtain ⟨c_1, rfl, hB⟩ := hB
    obtain ⟨hP1, hK1, hD1⟩ := hB
    rw [ht] at hP1
    obtain ⟨hP, hD⟩ := va_join (wr := [c_L qo cO o]) (w1 := [c_S qs q0 q1 g, c_P q0 q1 r, c_B q1 q2 q3 k, c_A q2 cM 1024 M, c_A q3 cD 256 ((f_S_insert p1 p2 p3 p4 g r k M D).2.2)]) hP hD [0, 1, 2, 3, 4] [5] rfl rfl (by decide) (by decide) hk1 hFc hP1 hD1
    generalize H1 = H at hP hS hce ⊢
    have hP : va_P (dC, dI) classes [c_S qs q0 q1 g, c_P q0 q1 r, c_B q1 q2 q3 k, c_A q2 cM 1024 M, c_A q3 cD 256 ((f_S_insert p1 p2 p3 p4 g r k M D).2.2), c_L qo cO o] H := hP.sub [1, 2, 3, 4, 5, 0] rfl
    have hD : va_D A [c_S qs q0 q1 g, c_P q0 q1 r, c_B q1 q2 q3 k, c_A q2 cM 1024 M, c_A q3 cD 256 ((f_S_insert p1 p2 p3 p4 g r k M D).2.2), c_L qo cO o] := hD.sub [1, 2, 3, 4, 5, 0] (by decide) rfl
    rcases (co_insert (g := g) (r := r) (k := k) (M := M) (D := D) (p1 := p1) (p2 := p2) (p3 := p3) (p4 := p4) : _) with e9 | e9
    · exact absurd e9 c_1
    · have hcl : s.vm.findClass "java/lang/IllegalArgumentException" = some ce.cls := by rw [e9] at hcl; exact hcl
      refine vx_catch hown [] ⟨0, 14, 17, 13⟩ [] hEx (fun z hz => absurd hz List.not_mem_nil) (by decide) (by decide) (htB _ mw_119) (va_Nw.use rfl (hE.2.1 _ ew_135)) hce hcv hcl ?_
      refine lv_astore (lv' := [(7, .ref q9), (0, .ref qs), (1, .int p1), (2, .int p2), (3, .long p3), (5, .int p4), (6, .ref qo)]) hx hb d_L_insert_17 hl (by decide) rfl (fun ls hl => ?_)
      refine lv_iconst (v := 1) hx hb d_L_insert_19 (by decide) ?_
      refine W.widen (k := 1) (n := 6) (by decide) (by decide) ?_
      exact W.iret (v := (1 : Int32)) hx hb hr (fun t ht hW => ⟨⟨(1 : Int32), o, rfl, ⟨(congrArg nI e9).symm, fun q9 => absurd q9 c_1⟩, by rw [ht]; exact hP, va_K.moved hW.alike hK, hD⟩, hS.F ht⟩) hS.2.2 d_L_insert_20
  · obtain ⟨c_1, rfl⟩ := hw
    obtain ⟨hP1, hK1, hD1⟩ := hB
    rw [ht] at hP1
    obtain ⟨hP, hD⟩ := va_join (wr := [c_L qo cO o]) (w1 := [c_S qs q0 q1 g, c_P q0 q1 r, c_B q1 q2 q3 k, c_A q2 cM 1024 M, c_A q3 cD 256 ((f_S_insert p1 p2 p3 p4 g r k M D).2.2)]) hP hD [0, 1, 2, 3, 4] [5] rfl rfl (by decide) (by decide) hk1 hFc hP1 hD1
    generalize H1 = H at hP hS ⊢
    have hP : va_P (dC, dI) classes [c_S qs q0 q1 g, c_P q0 q1 r, c_B q1 q2 q3 k, c_A q2 cM 1024 M, c_A q3 cD 256 ((f_S_insert p1 p2 p3 p4 g r k M D).2.2), c_L qo cO o] H := hP.sub [1, 2, 3, 4, 5, 0] rfl
    have hD : va_D A [c_S qs q0 q1 g, c_P q0 q1 r, c_B q1 q2 q3 k, c_A q2 cM 1024 M, c_A q3 cD 256 ((f_S_insert p1 p2 p3 p4 g r k M D).2.2), c_L qo cO o] := hD.sub [1, 2, 3, 4, 5, 0] (by decide) rfl
    refine lv_i2l hx hb d_L_insert_12 rfl ?_
    refine va_last hx hb hK hP hD hS 5 2 rfl rfl (show ¬ ((0 : Int32) < 0 ∨ 1 ≤ (0 : Int32).toNatClampNeg) from by decide) d_L_insert_13 (fun H locs hP hD hS => ?_)
    have hP : va_P (dC, dI) classes [c_S qs q0 q1 g, c_P q0 q1 r, c_B q1 q2 q3 k, c_A q2 cM 1024 M, c_A q3 cD 256 ((f_S_insert p1 p2 p3 p4 g r k M D).2.2), c_L qo cO (vp_updL o ((0 : Int32).toNatClampNeg) (((f_S_insert p1 p2 p3 p4 g r k M D).2.1).toInt64))] H := hP
    have hD : va_D A [c_S qs q0 q1 g, c_P q0 q1 r, c_B q1 q2 q3 k, c_A q2 cM 1024 M, c_A q3 cD 256 ((f_S_insert p1 p2 p3 p4 g r k M D).2.2), c_L qo cO (vp_updL o ((0 : Int32).toNatClampNeg) (((f_S_insert p1 p2 p3 p4 g r k M D).2.1).toInt64))] := hD
    refine lv_goto (tgt := 21) hx hb d_L_insert_14 (by decide) ?_
    refine lv_iconst (v := 0) hx hb d_L_insert_21 (by decide) ?_
    refine W.widen (k := 1) (n := 6) (by decide) (by decide) ?_
    exact W.iret (v := (0 : Int32)) hx hb hr (fun t ht hW => ⟨⟨(0 : Int32), (vp_updL o ((0 : Int32).toNatClampNeg) (((f_S_insert p1 p2 p3 p4 g r k M D).2.1).toInt64)), rfl, ⟨(congrArg nI c_1).symm, fun _ => updL0⟩, by rw [ht]; exact hP, va_K.moved hW.alike hK, hD⟩, hS.F ht⟩) hS.2.2 d_L_insert_22

abbrev Q_L_put (dC : Nat → ClassId) (dI : Nat → Nat → Nat) (qs : Nat) (q0 : Nat) (q1 : Nat) (q2 : Nat) (q3 : Nat) (cM : ClassId) (cD : ClassId) (qo : Nat) (cO : ClassId) (p1 : Int32) (p2 : Int32) (g r k M D : Nat → Int32) (A : Nat → Prop) : Array Value → State → Outcome → State → Prop := va_Qi (fun (r9 : Int32) (u : Nat → Int64) => r9 = nI (f_S_put p1 p2 g r k M D).1 ∧ ((f_S_put p1 p2 g r k M D).1 = 0 → u 0 = ((f_S_put p1 p2 g r k M D).2.1).toInt64)) (fun u t => atW (dC, dI) classes A [c_S qs q0 q1 g, c_P q0 q1 ((f_S_put p1 p2 g r k M D).2.2), c_B q1 q2 q3 k, c_A q2 cM 1024 M, c_A q3 cD 256 D, c_L qo cO u] [(cM, .int), (cD, .int), (cO, .long)] t) A
set_option maxHeartbeats 4000000 in
set_option maxRecDepth 100000 in
theorem c_L_put (l : Launch) (hl9 : l.stackTraces = false) (dC : Nat → ClassId) (dI : Nat → Nat → Nat) (z0 : Nat) (qs : Nat) (q0 : Nat) (q1 : Nat) (q2 : Nat) (q3 : Nat) (cM : ClassId) (cD : ClassId) (qo : Nat) (cO : ClassId) (sz : Nat) (p1 : Int32) (p2 : Int32) (g r k M D : Nat → Int32) (o : Nat → Int64)  : Met l y_L_put w_L_put ({ frames := 8, cells := 2, slots := 12, locals := 133 }) (PcX (dC, dI) classes z0 [c_S qs q0 q1 g, c_P q0 q1 r, c_B q1 q2 q3 k, c_A q2 cM 1024 M, c_A q3 cD 256 D, c_L qo cO o] [(cM, .int), (cD, .int), (cO, .long)] sz [.ref qs, .int p1, .int p2, .ref qo]) (Q_L_put dC dI qs q0 q1 q2 q3 cM cD qo cO p1 p2 g r k M D (va_A [c_S qs q0 q1 g, c_P q0 q1 r, c_B q1 q2 q3 k, c_A q2 cM 1024 M, c_A q3 cD 256 D, c_L qo cO o] sz)) 2 12 (va_A [c_S qs q0 q1 g, c_P q0 q1 r, c_B q1 q2 q3 k, c_A q2 cM 1024 M, c_A q3 cD 256 D, c_L qo cO o] sz) := by
  refine hdXw (cc := b_L_put) (maxL := 5) (ret := (some .int)) (hh := [(0, 10, 13, 13)]) (C := R_law) (Qc := Q_L_put dC dI qs q0 q1 q2 q3 cM cD qo cO p1 p2 g r k M D) (by decide) rfl ?_
  intro p e s m below meth c A H hx hb hr hlocks hEx hml hown hin htB hP hK hD hA hA0 hE hS
  have hl := lv_entry ([.ref qs, .int p1, .int p2, .ref qo]) (n := 5) (Nat.le_of_ble_eq_true rfl)
  rw [lg_entry_eq]
  generalize (lg_sl ([.ref qs, .int p1, .int p2, .ref qo]) ++ List.replicate (5 - (lg_sl ([.ref qs, .int p1, .int p2, .ref qo])).length) Slot.unset).toArray = ls at hl ⊢
  have hl : lv_has ls 5 [(0, .ref qs), (1, .int p1), (2, .int p2), (3, .ref qo)] := hl
  refine lv_aload_n hx hb d_L_put_0 rfl (lv_at hl 3 rfl) ?_
  refine lv_iconst (v := 0) hx hb d_L_put_1 (by decide) ?_
  refine lv_aload_n hx hb d_L_put_2 rfl (lv_at hl 0 rfl) ?_
  refine lv_iload_n hx hb d_L_put_3 rfl (lv_at hl 1 rfl) ?_
  refine lv_iload_n hx hb d_L_put_4 rfl (lv_at hl 2 rfl) ?_
  have hPc := hP.sub (ws' := [c_S qs q0 q1 g, c_P q0 q1 r, c_B q1 q2 q3 k, c_A q2 cM 1024 M, c_A q3 cD 256 D]) [0, 1, 2, 3, 4] rfl
  have hDc := hD.sub (ws' := [c_S qs q0 q1 g, c_P q0 q1 r, c_B q1 q2 q3 k, c_A q2 cM 1024 M, c_A q3 cD 256 D]) [0, 1, 2, 3, 4] (by decide) rfl
  have hKc := hK.sub (tys' := [(cM, .int), (cD, .int)]) [0, 1] rfl
  have hFc := va_free (wc := [c_S qs q0 q1 g, c_P q0 q1 r, c_B q1 q2 q3 k, c_A q2 cM 1024 M, c_A q3 cD 256 D]) hD hS hA [0, 1, 2, 3, 4] rfl
  refine vx_calli (vx_runV (As := [.int p1, .int p2]) (rest := [.int (0 : Int32), .ref qo]) ⟨hx, hb, hml, hown, htB⟩ (c_S_put l hl9 dC dI z0 qs q0 q1 q2 q3 cM cD H.size p1 p2 g r k M D) (cwV 2 htB (gd_V mw_216 mw_217 mw_218 mw_1 mw_219) rfl rfl rfl (by decide +kernel) ⟨Nat.le_of_ble_eq_true rfl, Nat.le_of_ble_eq_true rfl⟩) (pcx_V (va_recv hKc hPc (ci := 0) (q0 := 0) rfl rfl) hPc hKc hDc hA0 hE hS) rfl rfl hl.1 rfl (lv_room (Nat.le_of_ble_eq_true rfl)) d_L_put_5 ⟨Nat.le_of_ble_eq_true rfl, Nat.le_of_ble_eq_true rfl⟩) hS (fun q _ h => hFc q h) hFc (fun q _ h => hFc q h) (fun E9 ce q9 u t H1 locs ht hvm hw hB hz1 hk1 hS hce hcv hcl => ?_) (fun r9 u t H1 locs ht hvm hw hB hz1 hk1 hS => ?_)
  · obtain ⟨c_1, rfl, hB⟩ := hB
    obtain ⟨hP1, hK1, hD1⟩ := hB
    rw [ht] at hP1
    obtain ⟨hP, hD⟩ := va_join (wr := [c_L qo cO o]) (w1 := [c_S qs q0 q1 g, c_P q0 q1 ((f_S_put p1 p2 g r k M D).2.2), c_B q1 q2 q3 k, c_A q2 cM 1024 M, c_A q3 cD 256 D]) hP hD [0, 1, 2, 3, 4] [5] rfl rfl (by decide) (by decide) hk1 hFc hP1 hD1
    generalize H1 = H at hP hS hce ⊢
    have hP : va_P (dC, dI) classes [c_S qs q0 q1 g, c_P q0 q1 ((f_S_put p1 p2 g r k M D).2.2), c_B q1 q2 q3 k, c_A q2 cM 1024 M, c_A q3 cD 256 D, c_L qo cO o] H := hP.sub [1, 2, 3, 4, 5, 0] rfl
    have hD : va_D A [c_S qs q0 q1 g, c_P q0 q1 ((f_S_put p1 p2 g r k M D).2.2), c_B q1 q2 q3 k, c_A q2 cM 1024 M, c_A q3 cD 256 D, c_L qo cO o] := hD.sub [1, 2, 3, 4, 5, 0] (by decide) rfl
    rcases (co_put (g := g) (r := r) (k := k) (M := M) (D := D) (p1 := p1) (p2 := p2) : _) with e9 | e9
    · exact absurd e9 c_1
    · have hcl : s.vm.findClass "java/lang/IllegalArgumentException" = some ce.cls := by rw [e9] at hcl; exact hcl
      refine vx_catch hown [] ⟨0, 10, 13, 13⟩ [] hEx (fun z hz => absurd hz List.not_mem_nil) (by decide) (by decide) (htB _ mw_119) (va_Nw.use rfl (hE.2.1 _ ew_135)) hce hcv hcl ?_
      refine lv_astore (lv' := [(4, .ref q9), (0, .ref qs), (1, .int p1), (2, .int p2), (3, .ref qo)]) hx hb d_L_put_13 hl (by decide) rfl (fun ls hl => ?_)
      refine lv_iconst (v := 1) hx hb d_L_put_15 (by decide) ?_
      refine W.widen (k := 2) (n := 12) (by decide) (by decide) ?_
      exact W.iret (v := (1 : Int32)) hx hb hr (fun t ht hW => ⟨⟨(1 : Int32), o, rfl, ⟨(congrArg nI e9).symm, fun q9 => absurd q9 c_1⟩, by rw [ht]; exact hP, va_K.moved hW.alike hK, hD⟩, hS.F ht⟩) hS.2.2 d_L_put_16
  · obtain ⟨c_1, rfl⟩ := hw
    obtain ⟨hP1, hK1, hD1⟩ := hB
    rw [ht] at hP1
    obtain ⟨hP, hD⟩ := va_join (wr := [c_L qo cO o]) (w1 := [c_S qs q0 q1 g, c_P q0 q1 ((f_S_put p1 p2 g r k M D).2.2), c_B q1 q2 q3 k, c_A q2 cM 1024 M, c_A q3 cD 256 D]) hP hD [0, 1, 2, 3, 4] [5] rfl rfl (by decide) (by decide) hk1 hFc hP1 hD1
    generalize H1 = H at hP hS ⊢
    have hP : va_P (dC, dI) classes [c_S qs q0 q1 g, c_P q0 q1 ((f_S_put p1 p2 g r k M D).2.2), c_B q1 q2 q3 k, c_A q2 cM 1024 M, c_A q3 cD 256 D, c_L qo cO o] H := hP.sub [1, 2, 3, 4, 5, 0] rfl
    have hD : va_D A [c_S qs q0 q1 g, c_P q0 q1 ((f_S_put p1 p2 g r k M D).2.2), c_B q1 q2 q3 k, c_A q2 cM 1024 M, c_A q3 cD 256 D, c_L qo cO o] := hD.sub [1, 2, 3, 4, 5, 0] (by decide) rfl
    refine lv_i2l hx hb d_L_put_8 rfl ?_
    refine va_last hx hb hK hP hD hS 5 2 rfl rfl (show ¬ ((0 : Int32) < 0 ∨ 1 ≤ (0 : Int32).toNatClampNeg) from by decide) d_L_put_9 (fun H locs hP hD hS => ?_)
    have hP : va_P (dC, dI) classes [c_S qs q0 q1 g, c_P q0 q1 ((f_S_put p1 p2 g r k M D).2.2), c_B q1 q2 q3 k, c_A q2 cM 1024 M, c_A q3 cD 256 D, c_L qo cO (vp_updL o ((0 : Int32).toNatClampNeg) (((f_S_put p1 p2 g r k M D).2.1).toInt64))] H := hP
    have hD : va_D A [c_S qs q0 q1 g, c_P q0 q1 ((f_S_put p1 p2 g r k M D).2.2), c_B q1 q2 q3 k, c_A q2 cM 1024 M, c_A q3 cD 256 D, c_L qo cO (vp_updL o ((0 : Int32).toNatClampNeg) (((f_S_put p1 p2 g r k M D).2.1).toInt64))] := hD
    refine lv_goto (tgt := 17) hx hb d_L_put_10 (by decide) ?_
    refine lv_iconst (v := 0) hx hb d_L_put_17 (by decide) ?_
    refine W.widen (k := 2) (n := 12) (by decide) (by decide) ?_
    exact W.iret (v := (0 : Int32)) hx hb hr (fun t ht hW => ⟨⟨(0 : Int32), (vp_updL o ((0 : Int32).toNatClampNeg) (((f_S_put p1 p2 g r k M D).2.1).toInt64)), rfl, ⟨(congrArg nI c_1).symm, fun _ => updL0⟩, by rw [ht]; exact hP, va_K.moved hW.alike hK, hD⟩, hS.F ht⟩) hS.2.2 d_L_put_18

abbrev Q_L_press (dC : Nat → ClassId) (dI : Nat → Nat → Nat) (qs : Nat) (q0 : Nat) (q1 : Nat) (q2 : Nat) (q3 : Nat) (cM : ClassId) (cD : ClassId) (qo : Nat) (cO : ClassId) (p1 : Int32) (g r k M D : Nat → Int32) (A : Nat → Prop) : Array Value → State → Outcome → State → Prop := va_Qi (fun (r9 : Int32) (u : Nat → Int64) => r9 = nI (f_S_press p1 g r k M D).1 ∧ ((f_S_press p1 g r k M D).1 = 0 → u 0 = ((f_S_press p1 g r k M D).2.1).toInt64)) (fun u t => atW (dC, dI) classes A [c_S qs q0 q1 g, c_P q0 q1 r, c_B q1 q2 q3 ((f_S_press p1 g r k M D).2.2), c_A q2 cM 1024 M, c_A q3 cD 256 D, c_L qo cO u] [(cM, .int), (cD, .int), (cO, .long)] t) A
set_option maxHeartbeats 4000000 in
set_option maxRecDepth 100000 in
theorem c_L_press (l : Launch) (hl9 : l.stackTraces = false) (dC : Nat → ClassId) (dI : Nat → Nat → Nat) (z0 : Nat) (qs : Nat) (q0 : Nat) (q1 : Nat) (q2 : Nat) (q3 : Nat) (cM : ClassId) (cD : ClassId) (qo : Nat) (cO : ClassId) (sz : Nat) (p1 : Int32) (g r k M D : Nat → Int32) (o : Nat → Int64)  : Met l y_L_press w_L_press ({ frames := 8, cells := 2, slots := 12, locals := 131 }) (PcX (dC, dI) classes z0 [c_S qs q0 q1 g, c_P q0 q1 r, c_B q1 q2 q3 k, c_A q2 cM 1024 M, c_A q3 cD 256 D, c_L qo cO o] [(cM, .int), (cD, .int), (cO, .long)] sz [.ref qs, .int p1, .ref qo]) (Q_L_press dC dI qs q0 q1 q2 q3 cM cD qo cO p1 g r k M D (va_A [c_S qs q0 q1 g, c_P q0 q1 r, c_B q1 q2 q3 k, c_A q2 cM 1024 M, c_A q3 cD 256 D, c_L qo cO o] sz)) 2 12 (va_A [c_S qs q0 q1 g, c_P q0 q1 r, c_B q1 q2 q3 k, c_A q2 cM 1024 M, c_A q3 cD 256 D, c_L qo cO o] sz) := by
  refine hdXw (cc := b_L_press) (maxL := 4) (ret := (some .int)) (hh := [(0, 9, 12, 13), (0, 9, 15, 27)]) (C := R_law) (Qc := Q_L_press dC dI qs q0 q1 q2 q3 cM cD qo cO p1 g r k M D) (by decide) rfl ?_
  intro p e s m below meth c A H hx hb hr hlocks hEx hml hown hin htB hP hK hD hA hA0 hE hS
  have hl := lv_entry ([.ref qs, .int p1, .ref qo]) (n := 4) (Nat.le_of_ble_eq_true rfl)
  rw [lg_entry_eq]
  generalize (lg_sl ([.ref qs, .int p1, .ref qo]) ++ List.replicate (4 - (lg_sl ([.ref qs, .int p1, .ref qo])).length) Slot.unset).toArray = ls at hl ⊢
  have hl : lv_has ls 4 [(0, .ref qs), (1, .int p1), (2, .ref qo)] := hl
  refine lv_aload_n hx hb d_L_press_0 rfl (lv_at hl 2 rfl) ?_
  refine lv_iconst (v := 0) hx hb d_L_press_1 (by decide) ?_
  refine lv_aload_n hx hb d_L_press_2 rfl (lv_at hl 0 rfl) ?_
  refine lv_iload_n hx hb d_L_press_3 rfl (lv_at hl 1 rfl) ?_
  have hPc := hP.sub (ws' := [c_S qs q0 q1 g, c_P q0 q1 r, c_B q1 q2 q3 k, c_A q2 cM 1024 M, c_A q3 cD 256 D]) [0, 1, 2, 3, 4] rfl
  have hDc := hD.sub (ws' := [c_S qs q0 q1 g, c_P q0 q1 r, c_B q1 q2 q3 k, c_A q2 cM 1024 M, c_A q3 cD 256 D]) [0, 1, 2, 3, 4] (by decide) rfl
  have hKc := hK.sub (tys' := [(cM, .int), (cD, .int)]) [0, 1] rfl
  have hFc := va_free (wc := [c_S qs q0 q1 g, c_P q0 q1 r, c_B q1 q2 q3 k, c_A q2 cM 1024 M, c_A q3 cD 256 D]) hD hS hA [0, 1, 2, 3, 4] rfl
  refine vx_calli (vx_runV (As := [.int p1]) (rest := [.int (0 : Int32), .ref qo]) ⟨hx, hb, hml, hown, htB⟩ (c_S_press l hl9 dC dI z0 qs q0 q1 q2 q3 cM cD H.size p1 g r k M D) (cwV 1 htB (gd_V mw_240 mw_241 mw_242 mw_1 mw_243) rfl rfl rfl (by decide +kernel) ⟨Nat.le_of_ble_eq_true rfl, Nat.le_of_ble_eq_true rfl⟩) (pcx_V (va_recv hKc hPc (ci := 0) (q0 := 0) rfl rfl) hPc hKc hDc hA0 hE hS) rfl rfl hl.1 rfl (lv_room (Nat.le_of_ble_eq_true rfl)) d_L_press_4 ⟨Nat.le_of_ble_eq_true rfl, Nat.le_of_ble_eq_true rfl⟩) hS (fun q _ h => hFc q h) hFc (fun q _ h => hFc q h) (fun E9 ce q9 u t H1 locs ht hvm hw hB hz1 hk1 hS hce hcv hcl => ?_) (fun r9 u t H1 locs ht hvm hw hB hz1 hk1 hS => ?_)
  · obtain ⟨c_1, rfl, hB⟩ := hB
    obtain ⟨hP1, hK1, hD1⟩ := hB
    rw [ht] at hP1
    obtain ⟨hP, hD⟩ := va_join (wr := [c_L qo cO o]) (w1 := [c_S qs q0 q1 g, c_P q0 q1 r, c_B q1 q2 q3 ((f_S_press p1 g r k M D).2.2), c_A q2 cM 1024 M, c_A q3 cD 256 D]) hP hD [0, 1, 2, 3, 4] [5] rfl rfl (by decide) (by decide) hk1 hFc hP1 hD1
    generalize H1 = H at hP hS hce ⊢
    have hP : va_P (dC, dI) classes [c_S qs q0 q1 g, c_P q0 q1 r, c_B q1 q2 q3 ((f_S_press p1 g r k M D).2.2), c_A q2 cM 1024 M, c_A q3 cD 256 D, c_L qo cO o] H := hP.sub [1, 2, 3, 4, 5, 0] rfl
    have hD : va_D A [c_S qs q0 q1 g, c_P q0 q1 r, c_B q1 q2 q3 ((f_S_press p1 g r k M D).2.2), c_A q2 cM 1024 M, c_A q3 cD 256 D, c_L qo cO o] := hD.sub [1, 2, 3, 4, 5, 0] (by decide) rfl
    rcases (co_press (g := g) (r := r) (k := k) (M := M) (D := D) (p1 := p1) : _) with e9 | e9 | e9
    · exact absurd e9 c_1
    · have hcl : s.vm.findClass "java/lang/IllegalArgumentException" = some ce.cls := by rw [e9] at hcl; exact hcl
      refine vx_catch hown [] ⟨0, 9, 12, 13⟩ [⟨0, 9, 15, 27⟩] hEx (fun z hz => absurd hz List.not_mem_nil) (by decide) (by decide) (htB _ mw_119) (va_Nw.use rfl (hE.2.1 _ ew_135)) hce hcv hcl ?_
      refine lv_astore_n (lv' := [(3, .ref q9), (0, .ref qs), (1, .int p1), (2, .ref qo)]) hx hb d_L_press_12 rfl hl (by decide) rfl (fun ls hl => ?_)
      refine lv_iconst (v := 1) hx hb d_L_press_13 (by decide) ?_
      refine W.widen (k := 2) (n := 12) (by decide) (by decide) ?_
      exact W.iret (v := (1 : Int32)) hx hb hr (fun t ht hW => ⟨⟨(1 : Int32), o, rfl, ⟨(congrArg nI e9).symm, fun q9 => absurd q9 c_1⟩, by rw [ht]; exact hP, va_K.moved hW.alike hK, hD⟩, hS.F ht⟩) hS.2.2 d_L_press_14
    · have hcl : s.vm.findClass "java/lang/IllegalStateException" = some ce.cls := by rw [e9] at hcl; exact hcl
      have hp9 : ∀ z ∈ ([⟨0, 9, 12, 13⟩] : List ExceptionTableEntry), covers z 4 = false ∨ (z.catchType ≠ 0 ∧ ∃ nm : String, (Cond.classLink R_law z.catchType nm).before ([.ref qs, .int p1, .ref qo] : List Value).toArray s = true ∧ va_Nc "java/lang/IllegalStateException" nm s) := by
        intro z hz
        simp only [List.mem_cons, List.not_mem_nil, or_false] at hz
        rcases hz with rfl
        · exact Or.inr ⟨by decide, "java/lang/IllegalArgumentException", htB _ mw_119, hE.2.2.1 ("java/lang/IllegalStateException", "java/lang/IllegalArgumentException") (by decide +kernel)⟩
      refine vx_catch hown [⟨0, 9, 12, 13⟩] ⟨0, 9, 15, 27⟩ [] hEx hp9 (by decide) (by decide) (htB _ mw_239) (va_Nw.use rfl (hE.2.1 _ ew_246)) hce hcv hcl ?_
      refine lv_astore_n (lv' := [(3, .ref q9), (0, .ref qs), (1, .int p1), (2, .ref qo)]) hx hb d_L_press_15 rfl hl (by decide) rfl (fun ls hl => ?_)
      refine lv_iconst (v := 2) hx hb d_L_press_16 (by decide) ?_
      refine W.widen (k := 2) (n := 12) (by decide) (by decide) ?_
      exact W.iret (v := (2 : Int32)) hx hb hr (fun t ht hW => ⟨⟨(2 : Int32), o, rfl, ⟨(congrArg nI e9).symm, fun q9 => absurd q9 c_1⟩, by rw [ht]; exact hP, va_K.moved hW.alike hK, hD⟩, hS.F ht⟩) hS.2.2 d_L_press_17
  · obtain ⟨c_1, rfl⟩ := hw
    obtain ⟨hP1, hK1, hD1⟩ := hB
    rw [ht] at hP1
    obtain ⟨hP, hD⟩ := va_join (wr := [c_L qo cO o]) (w1 := [c_S qs q0 q1 g, c_P q0 q1 r, c_B q1 q2 q3 ((f_S_press p1 g r k M D).2.2), c_A q2 cM 1024 M, c_A q3 cD 256 D]) hP hD [0, 1, 2, 3, 4] [5] rfl rfl (by decide) (by decide) hk1 hFc hP1 hD1
    generalize H1 = H at hP hS ⊢
    have hP : va_P (dC, dI) classes [c_S qs q0 q1 g, c_P q0 q1 r, c_B q1 q2 q3 ((f_S_press p1 g r k M D).2.2), c_A q2 cM 1024 M, c_A q3 cD 256 D, c_L qo cO o] H := hP.sub [1, 2, 3, 4, 5, 0] rfl
    have hD : va_D A [c_S qs q0 q1 g, c_P q0 q1 r, c_B q1 q2 q3 ((f_S_press p1 g r k M D).2.2), c_A q2 cM 1024 M, c_A q3 cD 256 D, c_L qo cO o] := hD.sub [1, 2, 3, 4, 5, 0] (by decide) rfl
    refine lv_i2l hx hb d_L_press_7 rfl ?_
    refine va_last hx hb hK hP hD hS 5 2 rfl rfl (show ¬ ((0 : Int32) < 0 ∨ 1 ≤ (0 : Int32).toNatClampNeg) from by decide) d_L_press_8 (fun H locs hP hD hS => ?_)
    have hP : va_P (dC, dI) classes [c_S qs q0 q1 g, c_P q0 q1 r, c_B q1 q2 q3 ((f_S_press p1 g r k M D).2.2), c_A q2 cM 1024 M, c_A q3 cD 256 D, c_L qo cO (vp_updL o ((0 : Int32).toNatClampNeg) (((f_S_press p1 g r k M D).2.1).toInt64))] H := hP
    have hD : va_D A [c_S qs q0 q1 g, c_P q0 q1 r, c_B q1 q2 q3 ((f_S_press p1 g r k M D).2.2), c_A q2 cM 1024 M, c_A q3 cD 256 D, c_L qo cO (vp_updL o ((0 : Int32).toNatClampNeg) (((f_S_press p1 g r k M D).2.1).toInt64))] := hD
    refine lv_goto (tgt := 18) hx hb d_L_press_9 (by decide) ?_
    refine lv_iconst (v := 0) hx hb d_L_press_18 (by decide) ?_
    refine W.widen (k := 2) (n := 12) (by decide) (by decide) ?_
    exact W.iret (v := (0 : Int32)) hx hb hr (fun t ht hW => ⟨⟨(0 : Int32), (vp_updL o ((0 : Int32).toNatClampNeg) (((f_S_press p1 g r k M D).2.1).toInt64)), rfl, ⟨(congrArg nI c_1).symm, fun _ => updL0⟩, by rw [ht]; exact hP, va_K.moved hW.alike hK, hD⟩, hS.F ht⟩) hS.2.2 d_L_press_19

abbrev Q_L_run (dC : Nat → ClassId) (dI : Nat → Nat → Nat) (qs : Nat) (q0 : Nat) (q1 : Nat) (q2 : Nat) (q3 : Nat) (cM : ClassId) (cD : ClassId) (qo : Nat) (cO : ClassId) (p1 : Int32) (g r k M D : Nat → Int32) (A : Nat → Prop) : Array Value → State → Outcome → State → Prop := va_Qi (fun (r9 : Int32) (u : Nat → Int64) => r9 = nI (f_S_run p1 g r k M D).1 ∧ ((f_S_run p1 g r k M D).1 = 0 → u 0 = ((f_S_run p1 g r k M D).2.1).toInt64)) (fun u t => atW (dC, dI) classes A [c_S qs q0 q1 ((f_S_run p1 g r k M D).2.2.1), c_P q0 q1 ((f_S_run p1 g r k M D).2.2.2.1), c_B q1 q2 q3 ((f_S_run p1 g r k M D).2.2.2.2.1), c_A q2 cM 1024 ((f_S_run p1 g r k M D).2.2.2.2.2.1), c_A q3 cD 256 ((f_S_run p1 g r k M D).2.2.2.2.2.2), c_L qo cO u] [(cM, .int), (cD, .int), (cO, .long)] t) A
set_option maxHeartbeats 4000000 in
set_option maxRecDepth 100000 in
theorem c_L_run (l : Launch) (hl9 : l.stackTraces = false) (dC : Nat → ClassId) (dI : Nat → Nat → Nat) (z0 : Nat) (qs : Nat) (q0 : Nat) (q1 : Nat) (q2 : Nat) (q3 : Nat) (cM : ClassId) (cD : ClassId) (qo : Nat) (cO : ClassId) (sz : Nat) (p1 : Int32) (g r k M D : Nat → Int32) (o : Nat → Int64) (hok : crun_ok p1.toNatClampNeg r k M D) : Met l y_L_run w_L_run ({ frames := 8, cells := 2, slots := 12, locals := 197 }) (PcX (dC, dI) classes z0 [c_S qs q0 q1 g, c_P q0 q1 r, c_B q1 q2 q3 k, c_A q2 cM 1024 M, c_A q3 cD 256 D, c_L qo cO o] [(cM, .int), (cD, .int), (cO, .long)] sz [.ref qs, .int p1, .ref qo]) (Q_L_run dC dI qs q0 q1 q2 q3 cM cD qo cO p1 g r k M D (va_A [c_S qs q0 q1 g, c_P q0 q1 r, c_B q1 q2 q3 k, c_A q2 cM 1024 M, c_A q3 cD 256 D, c_L qo cO o] sz)) 2 12 (va_A [c_S qs q0 q1 g, c_P q0 q1 r, c_B q1 q2 q3 k, c_A q2 cM 1024 M, c_A q3 cD 256 D, c_L qo cO o] sz) := by
  refine hdXw (cc := b_L_run) (maxL := 4) (ret := (some .int)) (hh := [(0, 9, 12, 13), (0, 9, 15, 27), (0, 9, 18, 32), (0, 9, 21, 34), (0, 9, 24, 36)]) (C := R_law) (Qc := Q_L_run dC dI qs q0 q1 q2 q3 cM cD qo cO p1 g r k M D) (by decide) rfl ?_
  intro p e s m below meth c A H hx hb hr hlocks hEx hml hown hin htB hP hK hD hA hA0 hE hS
  have hl := lv_entry ([.ref qs, .int p1, .ref qo]) (n := 4) (Nat.le_of_ble_eq_true rfl)
  rw [lg_entry_eq]
  generalize (lg_sl ([.ref qs, .int p1, .ref qo]) ++ List.replicate (4 - (lg_sl ([.ref qs, .int p1, .ref qo])).length) Slot.unset).toArray = ls at hl ⊢
  have hl : lv_has ls 4 [(0, .ref qs), (1, .int p1), (2, .ref qo)] := hl
  refine lv_aload_n hx hb d_L_run_0 rfl (lv_at hl 2 rfl) ?_
  refine lv_iconst (v := 0) hx hb d_L_run_1 (by decide) ?_
  refine lv_aload_n hx hb d_L_run_2 rfl (lv_at hl 0 rfl) ?_
  refine lv_iload_n hx hb d_L_run_3 rfl (lv_at hl 1 rfl) ?_
  have hPc := hP.sub (ws' := [c_S qs q0 q1 g, c_P q0 q1 r, c_B q1 q2 q3 k, c_A q2 cM 1024 M, c_A q3 cD 256 D]) [0, 1, 2, 3, 4] rfl
  have hDc := hD.sub (ws' := [c_S qs q0 q1 g, c_P q0 q1 r, c_B q1 q2 q3 k, c_A q2 cM 1024 M, c_A q3 cD 256 D]) [0, 1, 2, 3, 4] (by decide) rfl
  have hKc := hK.sub (tys' := [(cM, .int), (cD, .int)]) [0, 1] rfl
  have hFc := va_free (wc := [c_S qs q0 q1 g, c_P q0 q1 r, c_B q1 q2 q3 k, c_A q2 cM 1024 M, c_A q3 cD 256 D]) hD hS hA [0, 1, 2, 3, 4] rfl
  refine vx_calli (vx_runV (As := [.int p1]) (rest := [.int (0 : Int32), .ref qo]) ⟨hx, hb, hml, hown, htB⟩ (c_S_run l hl9 dC dI z0 qs q0 q1 q2 q3 cM cD H.size p1 g r k M D hok) (cwV 1 htB (gd_V mw_266 mw_267 mw_268 mw_1 mw_269) rfl rfl rfl (by decide +kernel) ⟨Nat.le_of_ble_eq_true rfl, Nat.le_of_ble_eq_true rfl⟩) (pcx_V (va_recv hKc hPc (ci := 0) (q0 := 0) rfl rfl) hPc hKc hDc hA0 hE hS) rfl rfl hl.1 rfl (lv_room (Nat.le_of_ble_eq_true rfl)) d_L_run_4 ⟨Nat.le_of_ble_eq_true rfl, Nat.le_of_ble_eq_true rfl⟩) hS (fun q _ h => hFc q h) hFc (fun q _ h => hFc q h) (fun E9 ce q9 u t H1 locs ht hvm hw hB hz1 hk1 hS hce hcv hcl => ?_) (fun r9 u t H1 locs ht hvm hw hB hz1 hk1 hS => ?_)
  · obtain ⟨c_1, rfl, hB⟩ := hB
    obtain ⟨hP1, hK1, hD1⟩ := hB
    rw [ht] at hP1
    obtain ⟨hP, hD⟩ := va_join (wr := [c_L qo cO o]) (w1 := [c_S qs q0 q1 ((f_S_run p1 g r k M D).2.2.1), c_P q0 q1 ((f_S_run p1 g r k M D).2.2.2.1), c_B q1 q2 q3 ((f_S_run p1 g r k M D).2.2.2.2.1), c_A q2 cM 1024 ((f_S_run p1 g r k M D).2.2.2.2.2.1), c_A q3 cD 256 ((f_S_run p1 g r k M D).2.2.2.2.2.2)]) hP hD [0, 1, 2, 3, 4] [5] rfl rfl (by decide) (by decide) hk1 hFc hP1 hD1
    generalize H1 = H at hP hS hce ⊢
    have hP : va_P (dC, dI) classes [c_S qs q0 q1 ((f_S_run p1 g r k M D).2.2.1), c_P q0 q1 ((f_S_run p1 g r k M D).2.2.2.1), c_B q1 q2 q3 ((f_S_run p1 g r k M D).2.2.2.2.1), c_A q2 cM 1024 ((f_S_run p1 g r k M D).2.2.2.2.2.1), c_A q3 cD 256 ((f_S_run p1 g r k M D).2.2.2.2.2.2), c_L qo cO o] H := hP.sub [1, 2, 3, 4, 5, 0] rfl
    have hD : va_D A [c_S qs q0 q1 ((f_S_run p1 g r k M D).2.2.1), c_P q0 q1 ((f_S_run p1 g r k M D).2.2.2.1), c_B q1 q2 q3 ((f_S_run p1 g r k M D).2.2.2.2.1), c_A q2 cM 1024 ((f_S_run p1 g r k M D).2.2.2.2.2.1), c_A q3 cD 256 ((f_S_run p1 g r k M D).2.2.2.2.2.2), c_L qo cO o] := hD.sub [1, 2, 3, 4, 5, 0] (by decide) rfl
    rcases (co_run (g := g) (r := r) (k := k) (M := M) (D := D) (p1 := p1) : _) with e9 | e9 | e9 | e9 | e9 | e9
    · exact absurd e9 c_1
    · have hcl : s.vm.findClass "java/lang/IllegalArgumentException" = some ce.cls := by rw [e9] at hcl; exact hcl
      refine vx_catch hown [] ⟨0, 9, 12, 13⟩ [⟨0, 9, 15, 27⟩, ⟨0, 9, 18, 32⟩, ⟨0, 9, 21, 34⟩, ⟨0, 9, 24, 36⟩] hEx (fun z hz => absurd hz List.not_mem_nil) (by decide) (by decide) (htB _ mw_119) (va_Nw.use rfl (hE.2.1 _ ew_135)) hce hcv hcl ?_
      refine lv_astore_n (lv' := [(3, .ref q9), (0, .ref qs), (1, .int p1), (2, .ref qo)]) hx hb d_L_run_12 rfl hl (by decide) rfl (fun ls hl => ?_)
      refine lv_iconst (v := 1) hx hb d_L_run_13 (by decide) ?_
      refine W.widen (k := 2) (n := 12) (by decide) (by decide) ?_
      exact W.iret (v := (1 : Int32)) hx hb hr (fun t ht hW => ⟨⟨(1 : Int32), o, rfl, ⟨(congrArg nI e9).symm, fun q9 => absurd q9 c_1⟩, by rw [ht]; exact hP, va_K.moved hW.alike hK, hD⟩, hS.F ht⟩) hS.2.2 d_L_run_14
    · have hcl : s.vm.findClass "java/lang/IllegalStateException" = some ce.cls := by rw [e9] at hcl; exact hcl
      have hp9 : ∀ z ∈ ([⟨0, 9, 12, 13⟩] : List ExceptionTableEntry), covers z 4 = false ∨ (z.catchType ≠ 0 ∧ ∃ nm : String, (Cond.classLink R_law z.catchType nm).before ([.ref qs, .int p1, .ref qo] : List Value).toArray s = true ∧ va_Nc "java/lang/IllegalStateException" nm s) := by
        intro z hz
        simp only [List.mem_cons, List.not_mem_nil, or_false] at hz
        rcases hz with rfl
        · exact Or.inr ⟨by decide, "java/lang/IllegalArgumentException", htB _ mw_119, hE.2.2.1 ("java/lang/IllegalStateException", "java/lang/IllegalArgumentException") (by decide +kernel)⟩
      refine vx_catch hown [⟨0, 9, 12, 13⟩] ⟨0, 9, 15, 27⟩ [⟨0, 9, 18, 32⟩, ⟨0, 9, 21, 34⟩, ⟨0, 9, 24, 36⟩] hEx hp9 (by decide) (by decide) (htB _ mw_239) (va_Nw.use rfl (hE.2.1 _ ew_246)) hce hcv hcl ?_
      refine lv_astore_n (lv' := [(3, .ref q9), (0, .ref qs), (1, .int p1), (2, .ref qo)]) hx hb d_L_run_15 rfl hl (by decide) rfl (fun ls hl => ?_)
      refine lv_iconst (v := 2) hx hb d_L_run_16 (by decide) ?_
      refine W.widen (k := 2) (n := 12) (by decide) (by decide) ?_
      exact W.iret (v := (2 : Int32)) hx hb hr (fun t ht hW => ⟨⟨(2 : Int32), o, rfl, ⟨(congrArg nI e9).symm, fun q9 => absurd q9 c_1⟩, by rw [ht]; exact hP, va_K.moved hW.alike hK, hD⟩, hS.F ht⟩) hS.2.2 d_L_run_17
    · have hcl : s.vm.findClass "java/lang/UnsupportedOperationException" = some ce.cls := by rw [e9] at hcl; exact hcl
      have hp9 : ∀ z ∈ ([⟨0, 9, 12, 13⟩, ⟨0, 9, 15, 27⟩] : List ExceptionTableEntry), covers z 4 = false ∨ (z.catchType ≠ 0 ∧ ∃ nm : String, (Cond.classLink R_law z.catchType nm).before ([.ref qs, .int p1, .ref qo] : List Value).toArray s = true ∧ va_Nc "java/lang/UnsupportedOperationException" nm s) := by
        intro z hz
        simp only [List.mem_cons, List.not_mem_nil, or_false] at hz
        rcases hz with rfl | rfl
        · exact Or.inr ⟨by decide, "java/lang/IllegalArgumentException", htB _ mw_119, hE.2.2.1 ("java/lang/UnsupportedOperationException", "java/lang/IllegalArgumentException") (by decide +kernel)⟩
        · exact Or.inr ⟨by decide, "java/lang/IllegalStateException", htB _ mw_239, hE.2.2.1 ("java/lang/UnsupportedOperationException", "java/lang/IllegalStateException") (by decide +kernel)⟩
      refine vx_catch hown [⟨0, 9, 12, 13⟩, ⟨0, 9, 15, 27⟩] ⟨0, 9, 18, 32⟩ [⟨0, 9, 21, 34⟩, ⟨0, 9, 24, 36⟩] hEx hp9 (by decide) (by decide) (htB _ mw_263) (va_Nw.use rfl (hE.2.1 _ ew_388)) hce hcv hcl ?_
      refine lv_astore_n (lv' := [(3, .ref q9), (0, .ref qs), (1, .int p1), (2, .ref qo)]) hx hb d_L_run_18 rfl hl (by decide) rfl (fun ls hl => ?_)
      refine lv_iconst (v := 3) hx hb d_L_run_19 (by decide) ?_
      refine W.widen (k := 2) (n := 12) (by decide) (by decide) ?_
      exact W.iret (v := (3 : Int32)) hx hb hr (fun t ht hW => ⟨⟨(3 : Int32), o, rfl, ⟨(congrArg nI e9).symm, fun q9 => absurd q9 c_1⟩, by rw [ht]; exact hP, va_K.moved hW.alike hK, hD⟩, hS.F ht⟩) hS.2.2 d_L_run_20
    · have hcl : s.vm.findClass "java/lang/IndexOutOfBoundsException" = some ce.cls := by rw [e9] at hcl; exact hcl
      have hp9 : ∀ z ∈ ([⟨0, 9, 12, 13⟩, ⟨0, 9, 15, 27⟩, ⟨0, 9, 18, 32⟩] : List ExceptionTableEntry), covers z 4 = false ∨ (z.catchType ≠ 0 ∧ ∃ nm : String, (Cond.classLink R_law z.catchType nm).before ([.ref qs, .int p1, .ref qo] : List Value).toArray s = true ∧ va_Nc "java/lang/IndexOutOfBoundsException" nm s) := by
        intro z hz
        simp only [List.mem_cons, List.not_mem_nil, or_false] at hz
        rcases hz with rfl | rfl | rfl
        · exact Or.inr ⟨by decide, "java/lang/IllegalArgumentException", htB _ mw_119, hE.2.2.1 ("java/lang/IndexOutOfBoundsException", "java/lang/IllegalArgumentException") (by decide +kernel)⟩
        · exact Or.inr ⟨by decide, "java/lang/IllegalStateException", htB _ mw_239, hE.2.2.1 ("java/lang/IndexOutOfBoundsException", "java/lang/IllegalStateException") (by decide +kernel)⟩
        · exact Or.inr ⟨by decide, "java/lang/UnsupportedOperationException", htB _ mw_263, hE.2.2.1 ("java/lang/IndexOutOfBoundsException", "java/lang/UnsupportedOperationException") (by decide +kernel)⟩
      refine vx_catch hown [⟨0, 9, 12, 13⟩, ⟨0, 9, 15, 27⟩, ⟨0, 9, 18, 32⟩] ⟨0, 9, 21, 34⟩ [⟨0, 9, 24, 36⟩] hEx hp9 (by decide) (by decide) (htB _ mw_264) (va_Nw.use rfl (hE.2.1 _ ew_404)) hce hcv hcl ?_
      refine lv_astore_n (lv' := [(3, .ref q9), (0, .ref qs), (1, .int p1), (2, .ref qo)]) hx hb d_L_run_21 rfl hl (by decide) rfl (fun ls hl => ?_)
      refine lv_iconst (v := 4) hx hb d_L_run_22 (by decide) ?_
      refine W.widen (k := 2) (n := 12) (by decide) (by decide) ?_
      exact W.iret (v := (4 : Int32)) hx hb hr (fun t ht hW => ⟨⟨(4 : Int32), o, rfl, ⟨(congrArg nI e9).symm, fun q9 => absurd q9 c_1⟩, by rw [ht]; exact hP, va_K.moved hW.alike hK, hD⟩, hS.F ht⟩) hS.2.2 d_L_run_23
    · have hcl : s.vm.findClass "java/util/NoSuchElementException" = some ce.cls := by rw [e9] at hcl; exact hcl
      have hp9 : ∀ z ∈ ([⟨0, 9, 12, 13⟩, ⟨0, 9, 15, 27⟩, ⟨0, 9, 18, 32⟩, ⟨0, 9, 21, 34⟩] : List ExceptionTableEntry), covers z 4 = false ∨ (z.catchType ≠ 0 ∧ ∃ nm : String, (Cond.classLink R_law z.catchType nm).before ([.ref qs, .int p1, .ref qo] : List Value).toArray s = true ∧ va_Nc "java/util/NoSuchElementException" nm s) := by
        intro z hz
        simp only [List.mem_cons, List.not_mem_nil, or_false] at hz
        rcases hz with rfl | rfl | rfl | rfl
        · exact Or.inr ⟨by decide, "java/lang/IllegalArgumentException", htB _ mw_119, hE.2.2.1 ("java/util/NoSuchElementException", "java/lang/IllegalArgumentException") (by decide +kernel)⟩
        · exact Or.inr ⟨by decide, "java/lang/IllegalStateException", htB _ mw_239, hE.2.2.1 ("java/util/NoSuchElementException", "java/lang/IllegalStateException") (by decide +kernel)⟩
        · exact Or.inr ⟨by decide, "java/lang/UnsupportedOperationException", htB _ mw_263, hE.2.2.1 ("java/util/NoSuchElementException", "java/lang/UnsupportedOperationException") (by decide +kernel)⟩
        · exact Or.inr ⟨by decide, "java/lang/IndexOutOfBoundsException", htB _ mw_264, hE.2.2.1 ("java/util/NoSuchElementException", "java/lang/IndexOutOfBoundsException") (by decide +kernel)⟩
      refine vx_catch hown [⟨0, 9, 12, 13⟩, ⟨0, 9, 15, 27⟩, ⟨0, 9, 18, 32⟩, ⟨0, 9, 21, 34⟩] ⟨0, 9, 24, 36⟩ [] hEx hp9 (by decide) (by decide) (htB _ mw_265) (va_Nw.use rfl (hE.2.1 _ ew_420)) hce hcv hcl ?_
      refine lv_astore_n (lv' := [(3, .ref q9), (0, .ref qs), (1, .int p1), (2, .ref qo)]) hx hb d_L_run_24 rfl hl (by decide) rfl (fun ls hl => ?_)
      refine lv_iconst (v := 5) hx hb d_L_run_25 (by decide) ?_
      refine W.widen (k := 2) (n := 12) (by decide) (by decide) ?_
      exact W.iret (v := (5 : Int32)) hx hb hr (fun t ht hW => ⟨⟨(5 : Int32), o, rfl, ⟨(congrArg nI e9).symm, fun q9 => absurd q9 c_1⟩, by rw [ht]; exact hP, va_K.moved hW.alike hK, hD⟩, hS.F ht⟩) hS.2.2 d_L_run_26
  · obtain ⟨c_1, rfl⟩ := hw
    obtain ⟨hP1, hK1, hD1⟩ := hB
    rw [ht] at hP1
    obtain ⟨hP, hD⟩ := va_join (wr := [c_L qo cO o]) (w1 := [c_S qs q0 q1 ((f_S_run p1 g r k M D).2.2.1), c_P q0 q1 ((f_S_run p1 g r k M D).2.2.2.1), c_B q1 q2 q3 ((f_S_run p1 g r k M D).2.2.2.2.1), c_A q2 cM 1024 ((f_S_run p1 g r k M D).2.2.2.2.2.1), c_A q3 cD 256 ((f_S_run p1 g r k M D).2.2.2.2.2.2)]) hP hD [0, 1, 2, 3, 4] [5] rfl rfl (by decide) (by decide) hk1 hFc hP1 hD1
    generalize H1 = H at hP hS ⊢
    have hP : va_P (dC, dI) classes [c_S qs q0 q1 ((f_S_run p1 g r k M D).2.2.1), c_P q0 q1 ((f_S_run p1 g r k M D).2.2.2.1), c_B q1 q2 q3 ((f_S_run p1 g r k M D).2.2.2.2.1), c_A q2 cM 1024 ((f_S_run p1 g r k M D).2.2.2.2.2.1), c_A q3 cD 256 ((f_S_run p1 g r k M D).2.2.2.2.2.2), c_L qo cO o] H := hP.sub [1, 2, 3, 4, 5, 0] rfl
    have hD : va_D A [c_S qs q0 q1 ((f_S_run p1 g r k M D).2.2.1), c_P q0 q1 ((f_S_run p1 g r k M D).2.2.2.1), c_B q1 q2 q3 ((f_S_run p1 g r k M D).2.2.2.2.1), c_A q2 cM 1024 ((f_S_run p1 g r k M D).2.2.2.2.2.1), c_A q3 cD 256 ((f_S_run p1 g r k M D).2.2.2.2.2.2), c_L qo cO o] := hD.sub [1, 2, 3, 4, 5, 0] (by decide) rfl
    refine lv_i2l hx hb d_L_run_7 rfl ?_
    refine va_last hx hb hK hP hD hS 5 2 rfl rfl (show ¬ ((0 : Int32) < 0 ∨ 1 ≤ (0 : Int32).toNatClampNeg) from by decide) d_L_run_8 (fun H locs hP hD hS => ?_)
    have hP : va_P (dC, dI) classes [c_S qs q0 q1 ((f_S_run p1 g r k M D).2.2.1), c_P q0 q1 ((f_S_run p1 g r k M D).2.2.2.1), c_B q1 q2 q3 ((f_S_run p1 g r k M D).2.2.2.2.1), c_A q2 cM 1024 ((f_S_run p1 g r k M D).2.2.2.2.2.1), c_A q3 cD 256 ((f_S_run p1 g r k M D).2.2.2.2.2.2), c_L qo cO (vp_updL o ((0 : Int32).toNatClampNeg) (((f_S_run p1 g r k M D).2.1).toInt64))] H := hP
    have hD : va_D A [c_S qs q0 q1 ((f_S_run p1 g r k M D).2.2.1), c_P q0 q1 ((f_S_run p1 g r k M D).2.2.2.1), c_B q1 q2 q3 ((f_S_run p1 g r k M D).2.2.2.2.1), c_A q2 cM 1024 ((f_S_run p1 g r k M D).2.2.2.2.2.1), c_A q3 cD 256 ((f_S_run p1 g r k M D).2.2.2.2.2.2), c_L qo cO (vp_updL o ((0 : Int32).toNatClampNeg) (((f_S_run p1 g r k M D).2.1).toInt64))] := hD
    refine lv_goto (tgt := 27) hx hb d_L_run_9 (by decide) ?_
    refine lv_iconst (v := 0) hx hb d_L_run_27 (by decide) ?_
    refine W.widen (k := 2) (n := 12) (by decide) (by decide) ?_
    exact W.iret (v := (0 : Int32)) hx hb hr (fun t ht hW => ⟨⟨(0 : Int32), (vp_updL o ((0 : Int32).toNatClampNeg) (((f_S_run p1 g r k M D).2.1).toInt64)), rfl, ⟨(congrArg nI c_1).symm, fun _ => updL0⟩, by rw [ht]; exact hP, va_K.moved hW.alike hK, hD⟩, hS.F ht⟩) hS.2.2 d_L_run_28

abbrev Q_L_peek (dC : Nat → ClassId) (dI : Nat → Nat → Nat) (qs : Nat) (q0 : Nat) (q1 : Nat) (q2 : Nat) (q3 : Nat) (cM : ClassId) (cD : ClassId) (qo : Nat) (cO : ClassId) (p1 : Int32) (g r k M D : Nat → Int32) (A : Nat → Prop) : Array Value → State → Outcome → State → Prop := va_Qi (fun (r9 : Int32) (u : Nat → Int64) => r9 = nI (f_S_peek p1 g r k M D).1 ∧ ((f_S_peek p1 g r k M D).1 = 0 → u 0 = ((f_S_peek p1 g r k M D).2).toInt64)) (fun u t => atW (dC, dI) classes A [c_S qs q0 q1 g, c_P q0 q1 r, c_B q1 q2 q3 k, c_A q2 cM 1024 M, c_A q3 cD 256 D, c_L qo cO u] [(cM, .int), (cD, .int), (cO, .long)] t) A
set_option maxHeartbeats 4000000 in
set_option maxRecDepth 100000 in
theorem c_L_peek (l : Launch) (hl9 : l.stackTraces = false) (dC : Nat → ClassId) (dI : Nat → Nat → Nat) (z0 : Nat) (qs : Nat) (q0 : Nat) (q1 : Nat) (q2 : Nat) (q3 : Nat) (cM : ClassId) (cD : ClassId) (qo : Nat) (cO : ClassId) (sz : Nat) (p1 : Int32) (g r k M D : Nat → Int32) (o : Nat → Int64)  : Met l y_L_peek w_L_peek ({ frames := 8, cells := 1, slots := 6, locals := 131 }) (PcX (dC, dI) classes z0 [c_S qs q0 q1 g, c_P q0 q1 r, c_B q1 q2 q3 k, c_A q2 cM 1024 M, c_A q3 cD 256 D, c_L qo cO o] [(cM, .int), (cD, .int), (cO, .long)] sz [.ref qs, .int p1, .ref qo]) (Q_L_peek dC dI qs q0 q1 q2 q3 cM cD qo cO p1 g r k M D (va_A [c_S qs q0 q1 g, c_P q0 q1 r, c_B q1 q2 q3 k, c_A q2 cM 1024 M, c_A q3 cD 256 D, c_L qo cO o] sz)) 1 6 (va_A [c_S qs q0 q1 g, c_P q0 q1 r, c_B q1 q2 q3 k, c_A q2 cM 1024 M, c_A q3 cD 256 D, c_L qo cO o] sz) := by
  refine hdXw (cc := b_L_peek) (maxL := 4) (ret := (some .int)) (hh := [(0, 9, 12, 13)]) (C := R_law) (Qc := Q_L_peek dC dI qs q0 q1 q2 q3 cM cD qo cO p1 g r k M D) (by decide) rfl ?_
  intro p e s m below meth c A H hx hb hr hlocks hEx hml hown hin htB hP hK hD hA hA0 hE hS
  have hl := lv_entry ([.ref qs, .int p1, .ref qo]) (n := 4) (Nat.le_of_ble_eq_true rfl)
  rw [lg_entry_eq]
  generalize (lg_sl ([.ref qs, .int p1, .ref qo]) ++ List.replicate (4 - (lg_sl ([.ref qs, .int p1, .ref qo])).length) Slot.unset).toArray = ls at hl ⊢
  have hl : lv_has ls 4 [(0, .ref qs), (1, .int p1), (2, .ref qo)] := hl
  refine lv_aload_n hx hb d_L_peek_0 rfl (lv_at hl 2 rfl) ?_
  refine lv_iconst (v := 0) hx hb d_L_peek_1 (by decide) ?_
  refine lv_aload_n hx hb d_L_peek_2 rfl (lv_at hl 0 rfl) ?_
  refine lv_iload_n hx hb d_L_peek_3 rfl (lv_at hl 1 rfl) ?_
  have hPc := hP.sub (ws' := [c_S qs q0 q1 g, c_P q0 q1 r, c_B q1 q2 q3 k, c_A q2 cM 1024 M, c_A q3 cD 256 D]) [0, 1, 2, 3, 4] rfl
  have hDc := hD.sub (ws' := [c_S qs q0 q1 g, c_P q0 q1 r, c_B q1 q2 q3 k, c_A q2 cM 1024 M, c_A q3 cD 256 D]) [0, 1, 2, 3, 4] (by decide) rfl
  have hKc := hK.sub (tys' := [(cM, .int), (cD, .int)]) [0, 1] rfl
  have hFc := va_free (wc := [c_S qs q0 q1 g, c_P q0 q1 r, c_B q1 q2 q3 k, c_A q2 cM 1024 M, c_A q3 cD 256 D]) hD hS hA [0, 1, 2, 3, 4] rfl
  refine vx_calli (vx_runV (As := [.int p1]) (rest := [.int (0 : Int32), .ref qo]) ⟨hx, hb, hml, hown, htB⟩ (c_S_peek l hl9 dC dI z0 qs q0 q1 q2 q3 cM cD H.size p1 g r k M D) (cwV 1 htB (gd_V mw_437 mw_438 mw_439 mw_1 mw_440) rfl rfl rfl (by decide +kernel) ⟨Nat.le_of_ble_eq_true rfl, Nat.le_of_ble_eq_true rfl⟩) (pcx_V (va_recv hKc hPc (ci := 0) (q0 := 0) rfl rfl) hPc hKc hDc hA0 hE hS) rfl rfl hl.1 rfl (lv_room (Nat.le_of_ble_eq_true rfl)) d_L_peek_4 ⟨Nat.le_of_ble_eq_true rfl, Nat.le_of_ble_eq_true rfl⟩) hS (fun q _ h => hFc q h) hFc (fun q _ h => hFc q h) (fun E9 ce q9 u t H1 locs ht hvm hw hB hz1 hk1 hS hce hcv hcl => ?_) (fun r9 u t H1 locs ht hvm hw hB hz1 hk1 hS => ?_)
  · obtain ⟨c_1, rfl, hB⟩ := hB
    obtain ⟨hP1, hK1, hD1⟩ := hB
    rw [ht] at hP1
    obtain ⟨hP, hD⟩ := va_join (wr := [c_L qo cO o]) (w1 := [c_S qs q0 q1 g, c_P q0 q1 r, c_B q1 q2 q3 k, c_A q2 cM 1024 M, c_A q3 cD 256 D]) hP hD [0, 1, 2, 3, 4] [5] rfl rfl (by decide) (by decide) hk1 hFc hP1 hD1
    generalize H1 = H at hP hS hce ⊢
    have hP : va_P (dC, dI) classes [c_S qs q0 q1 g, c_P q0 q1 r, c_B q1 q2 q3 k, c_A q2 cM 1024 M, c_A q3 cD 256 D, c_L qo cO o] H := hP.sub [1, 2, 3, 4, 5, 0] rfl
    have hD : va_D A [c_S qs q0 q1 g, c_P q0 q1 r, c_B q1 q2 q3 k, c_A q2 cM 1024 M, c_A q3 cD 256 D, c_L qo cO o] := hD.sub [1, 2, 3, 4, 5, 0] (by decide) rfl
    rcases (co_peek (g := g) (r := r) (k := k) (M := M) (D := D) (p1 := p1) : _) with e9 | e9
    · exact absurd e9 c_1
    · have hcl : s.vm.findClass "java/lang/IllegalArgumentException" = some ce.cls := by rw [e9] at hcl; exact hcl
      refine vx_catch hown [] ⟨0, 9, 12, 13⟩ [] hEx (fun z hz => absurd hz List.not_mem_nil) (by decide) (by decide) (htB _ mw_119) (va_Nw.use rfl (hE.2.1 _ ew_135)) hce hcv hcl ?_
      refine lv_astore_n (lv' := [(3, .ref q9), (0, .ref qs), (1, .int p1), (2, .ref qo)]) hx hb d_L_peek_12 rfl hl (by decide) rfl (fun ls hl => ?_)
      refine lv_iconst (v := 1) hx hb d_L_peek_13 (by decide) ?_
      refine W.widen (k := 1) (n := 6) (by decide) (by decide) ?_
      exact W.iret (v := (1 : Int32)) hx hb hr (fun t ht hW => ⟨⟨(1 : Int32), o, rfl, ⟨(congrArg nI e9).symm, fun q9 => absurd q9 c_1⟩, by rw [ht]; exact hP, va_K.moved hW.alike hK, hD⟩, hS.F ht⟩) hS.2.2 d_L_peek_14
  · obtain ⟨c_1, rfl⟩ := hw
    obtain ⟨hP1, hK1, hD1⟩ := hB
    rw [ht] at hP1
    obtain ⟨hP, hD⟩ := va_join (wr := [c_L qo cO o]) (w1 := [c_S qs q0 q1 g, c_P q0 q1 r, c_B q1 q2 q3 k, c_A q2 cM 1024 M, c_A q3 cD 256 D]) hP hD [0, 1, 2, 3, 4] [5] rfl rfl (by decide) (by decide) hk1 hFc hP1 hD1
    generalize H1 = H at hP hS ⊢
    have hP : va_P (dC, dI) classes [c_S qs q0 q1 g, c_P q0 q1 r, c_B q1 q2 q3 k, c_A q2 cM 1024 M, c_A q3 cD 256 D, c_L qo cO o] H := hP.sub [1, 2, 3, 4, 5, 0] rfl
    have hD : va_D A [c_S qs q0 q1 g, c_P q0 q1 r, c_B q1 q2 q3 k, c_A q2 cM 1024 M, c_A q3 cD 256 D, c_L qo cO o] := hD.sub [1, 2, 3, 4, 5, 0] (by decide) rfl
    refine lv_i2l hx hb d_L_peek_7 rfl ?_
    refine va_last hx hb hK hP hD hS 5 2 rfl rfl (show ¬ ((0 : Int32) < 0 ∨ 1 ≤ (0 : Int32).toNatClampNeg) from by decide) d_L_peek_8 (fun H locs hP hD hS => ?_)
    have hP : va_P (dC, dI) classes [c_S qs q0 q1 g, c_P q0 q1 r, c_B q1 q2 q3 k, c_A q2 cM 1024 M, c_A q3 cD 256 D, c_L qo cO (vp_updL o ((0 : Int32).toNatClampNeg) (((f_S_peek p1 g r k M D).2).toInt64))] H := hP
    have hD : va_D A [c_S qs q0 q1 g, c_P q0 q1 r, c_B q1 q2 q3 k, c_A q2 cM 1024 M, c_A q3 cD 256 D, c_L qo cO (vp_updL o ((0 : Int32).toNatClampNeg) (((f_S_peek p1 g r k M D).2).toInt64))] := hD
    refine lv_goto (tgt := 15) hx hb d_L_peek_9 (by decide) ?_
    refine lv_iconst (v := 0) hx hb d_L_peek_15 (by decide) ?_
    refine W.widen (k := 1) (n := 6) (by decide) (by decide) ?_
    exact W.iret (v := (0 : Int32)) hx hb hr (fun t ht hW => ⟨⟨(0 : Int32), (vp_updL o ((0 : Int32).toNatClampNeg) (((f_S_peek p1 g r k M D).2).toInt64)), rfl, ⟨(congrArg nI c_1).symm, fun _ => updL0⟩, by rw [ht]; exact hP, va_K.moved hW.alike hK, hD⟩, hS.F ht⟩) hS.2.2 d_L_peek_16

abbrev Q_L_get (dC : Nat → ClassId) (dI : Nat → Nat → Nat) (qs : Nat) (q0 : Nat) (q1 : Nat) (q2 : Nat) (q3 : Nat) (cM : ClassId) (cD : ClassId) (qo : Nat) (cO : ClassId) (p1 : Int32) (g r k M D : Nat → Int32) (A : Nat → Prop) : Array Value → State → Outcome → State → Prop := va_Qi (fun (r9 : Int32) (u : Nat → Int64) => r9 = nI (f_S_get p1 g r k M D).1 ∧ ((f_S_get p1 g r k M D).1 = 0 → u 0 = ((f_S_get p1 g r k M D).2).toInt64)) (fun u t => atW (dC, dI) classes A [c_S qs q0 q1 g, c_P q0 q1 r, c_B q1 q2 q3 k, c_A q2 cM 1024 M, c_A q3 cD 256 D, c_L qo cO u] [(cM, .int), (cD, .int), (cO, .long)] t) A
set_option maxHeartbeats 4000000 in
set_option maxRecDepth 100000 in
theorem c_L_get (l : Launch) (hl9 : l.stackTraces = false) (dC : Nat → ClassId) (dI : Nat → Nat → Nat) (z0 : Nat) (qs : Nat) (q0 : Nat) (q1 : Nat) (q2 : Nat) (q3 : Nat) (cM : ClassId) (cD : ClassId) (qo : Nat) (cO : ClassId) (sz : Nat) (p1 : Int32) (g r k M D : Nat → Int32) (o : Nat → Int64)  : Met l y_L_get w_L_get ({ frames := 8, cells := 1, slots := 6, locals := 131 }) (PcX (dC, dI) classes z0 [c_S qs q0 q1 g, c_P q0 q1 r, c_B q1 q2 q3 k, c_A q2 cM 1024 M, c_A q3 cD 256 D, c_L qo cO o] [(cM, .int), (cD, .int), (cO, .long)] sz [.ref qs, .int p1, .ref qo]) (Q_L_get dC dI qs q0 q1 q2 q3 cM cD qo cO p1 g r k M D (va_A [c_S qs q0 q1 g, c_P q0 q1 r, c_B q1 q2 q3 k, c_A q2 cM 1024 M, c_A q3 cD 256 D, c_L qo cO o] sz)) 1 6 (va_A [c_S qs q0 q1 g, c_P q0 q1 r, c_B q1 q2 q3 k, c_A q2 cM 1024 M, c_A q3 cD 256 D, c_L qo cO o] sz) := by
  refine hdXw (cc := b_L_get) (maxL := 4) (ret := (some .int)) (hh := [(0, 9, 12, 13)]) (C := R_law) (Qc := Q_L_get dC dI qs q0 q1 q2 q3 cM cD qo cO p1 g r k M D) (by decide) rfl ?_
  intro p e s m below meth c A H hx hb hr hlocks hEx hml hown hin htB hP hK hD hA hA0 hE hS
  have hl := lv_entry ([.ref qs, .int p1, .ref qo]) (n := 4) (Nat.le_of_ble_eq_true rfl)
  rw [lg_entry_eq]
  generalize (lg_sl ([.ref qs, .int p1, .ref qo]) ++ List.replicate (4 - (lg_sl ([.ref qs, .int p1, .ref qo])).length) Slot.unset).toArray = ls at hl ⊢
  have hl : lv_has ls 4 [(0, .ref qs), (1, .int p1), (2, .ref qo)] := hl
  refine lv_aload_n hx hb d_L_get_0 rfl (lv_at hl 2 rfl) ?_
  refine lv_iconst (v := 0) hx hb d_L_get_1 (by decide) ?_
  refine lv_aload_n hx hb d_L_get_2 rfl (lv_at hl 0 rfl) ?_
  refine lv_iload_n hx hb d_L_get_3 rfl (lv_at hl 1 rfl) ?_
  have hPc := hP.sub (ws' := [c_S qs q0 q1 g, c_P q0 q1 r, c_B q1 q2 q3 k, c_A q2 cM 1024 M, c_A q3 cD 256 D]) [0, 1, 2, 3, 4] rfl
  have hDc := hD.sub (ws' := [c_S qs q0 q1 g, c_P q0 q1 r, c_B q1 q2 q3 k, c_A q2 cM 1024 M, c_A q3 cD 256 D]) [0, 1, 2, 3, 4] (by decide) rfl
  have hKc := hK.sub (tys' := [(cM, .int), (cD, .int)]) [0, 1] rfl
  have hFc := va_free (wc := [c_S qs q0 q1 g, c_P q0 q1 r, c_B q1 q2 q3 k, c_A q2 cM 1024 M, c_A q3 cD 256 D]) hD hS hA [0, 1, 2, 3, 4] rfl
  refine vx_calli (vx_runV (As := [.int p1]) (rest := [.int (0 : Int32), .ref qo]) ⟨hx, hb, hml, hown, htB⟩ (c_S_get l hl9 dC dI z0 qs q0 q1 q2 q3 cM cD H.size p1 g r k M D) (cwV 1 htB (gd_V mw_444 mw_445 mw_446 mw_1 mw_447) rfl rfl rfl (by decide +kernel) ⟨Nat.le_of_ble_eq_true rfl, Nat.le_of_ble_eq_true rfl⟩) (pcx_V (va_recv hKc hPc (ci := 0) (q0 := 0) rfl rfl) hPc hKc hDc hA0 hE hS) rfl rfl hl.1 rfl (lv_room (Nat.le_of_ble_eq_true rfl)) d_L_get_4 ⟨Nat.le_of_ble_eq_true rfl, Nat.le_of_ble_eq_true rfl⟩) hS (fun q _ h => hFc q h) hFc (fun q _ h => hFc q h) (fun E9 ce q9 u t H1 locs ht hvm hw hB hz1 hk1 hS hce hcv hcl => ?_) (fun r9 u t H1 locs ht hvm hw hB hz1 hk1 hS => ?_)
  · obtain ⟨c_1, rfl, hB⟩ := hB
    obtain ⟨hP1, hK1, hD1⟩ := hB
    rw [ht] at hP1
    obtain ⟨hP, hD⟩ := va_join (wr := [c_L qo cO o]) (w1 := [c_S qs q0 q1 g, c_P q0 q1 r, c_B q1 q2 q3 k, c_A q2 cM 1024 M, c_A q3 cD 256 D]) hP hD [0, 1, 2, 3, 4] [5] rfl rfl (by decide) (by decide) hk1 hFc hP1 hD1
    generalize H1 = H at hP hS hce ⊢
    have hP : va_P (dC, dI) classes [c_S qs q0 q1 g, c_P q0 q1 r, c_B q1 q2 q3 k, c_A q2 cM 1024 M, c_A q3 cD 256 D, c_L qo cO o] H := hP.sub [1, 2, 3, 4, 5, 0] rfl
    have hD : va_D A [c_S qs q0 q1 g, c_P q0 q1 r, c_B q1 q2 q3 k, c_A q2 cM 1024 M, c_A q3 cD 256 D, c_L qo cO o] := hD.sub [1, 2, 3, 4, 5, 0] (by decide) rfl
    rcases (co_get (g := g) (r := r) (k := k) (M := M) (D := D) (p1 := p1) : _) with e9 | e9
    · exact absurd e9 c_1
    · have hcl : s.vm.findClass "java/lang/IllegalArgumentException" = some ce.cls := by rw [e9] at hcl; exact hcl
      refine vx_catch hown [] ⟨0, 9, 12, 13⟩ [] hEx (fun z hz => absurd hz List.not_mem_nil) (by decide) (by decide) (htB _ mw_119) (va_Nw.use rfl (hE.2.1 _ ew_135)) hce hcv hcl ?_
      refine lv_astore_n (lv' := [(3, .ref q9), (0, .ref qs), (1, .int p1), (2, .ref qo)]) hx hb d_L_get_12 rfl hl (by decide) rfl (fun ls hl => ?_)
      refine lv_iconst (v := 1) hx hb d_L_get_13 (by decide) ?_
      refine W.widen (k := 1) (n := 6) (by decide) (by decide) ?_
      exact W.iret (v := (1 : Int32)) hx hb hr (fun t ht hW => ⟨⟨(1 : Int32), o, rfl, ⟨(congrArg nI e9).symm, fun q9 => absurd q9 c_1⟩, by rw [ht]; exact hP, va_K.moved hW.alike hK, hD⟩, hS.F ht⟩) hS.2.2 d_L_get_14
  · obtain ⟨c_1, rfl⟩ := hw
    obtain ⟨hP1, hK1, hD1⟩ := hB
    rw [ht] at hP1
    obtain ⟨hP, hD⟩ := va_join (wr := [c_L qo cO o]) (w1 := [c_S qs q0 q1 g, c_P q0 q1 r, c_B q1 q2 q3 k, c_A q2 cM 1024 M, c_A q3 cD 256 D]) hP hD [0, 1, 2, 3, 4] [5] rfl rfl (by decide) (by decide) hk1 hFc hP1 hD1
    generalize H1 = H at hP hS ⊢
    have hP : va_P (dC, dI) classes [c_S qs q0 q1 g, c_P q0 q1 r, c_B q1 q2 q3 k, c_A q2 cM 1024 M, c_A q3 cD 256 D, c_L qo cO o] H := hP.sub [1, 2, 3, 4, 5, 0] rfl
    have hD : va_D A [c_S qs q0 q1 g, c_P q0 q1 r, c_B q1 q2 q3 k, c_A q2 cM 1024 M, c_A q3 cD 256 D, c_L qo cO o] := hD.sub [1, 2, 3, 4, 5, 0] (by decide) rfl
    refine lv_i2l hx hb d_L_get_7 rfl ?_
    refine va_last hx hb hK hP hD hS 5 2 rfl rfl (show ¬ ((0 : Int32) < 0 ∨ 1 ≤ (0 : Int32).toNatClampNeg) from by decide) d_L_get_8 (fun H locs hP hD hS => ?_)
    have hP : va_P (dC, dI) classes [c_S qs q0 q1 g, c_P q0 q1 r, c_B q1 q2 q3 k, c_A q2 cM 1024 M, c_A q3 cD 256 D, c_L qo cO (vp_updL o ((0 : Int32).toNatClampNeg) (((f_S_get p1 g r k M D).2).toInt64))] H := hP
    have hD : va_D A [c_S qs q0 q1 g, c_P q0 q1 r, c_B q1 q2 q3 k, c_A q2 cM 1024 M, c_A q3 cD 256 D, c_L qo cO (vp_updL o ((0 : Int32).toNatClampNeg) (((f_S_get p1 g r k M D).2).toInt64))] := hD
    refine lv_goto (tgt := 15) hx hb d_L_get_9 (by decide) ?_
    refine lv_iconst (v := 0) hx hb d_L_get_15 (by decide) ?_
    refine W.widen (k := 1) (n := 6) (by decide) (by decide) ?_
    exact W.iret (v := (0 : Int32)) hx hb hr (fun t ht hW => ⟨⟨(0 : Int32), (vp_updL o ((0 : Int32).toNatClampNeg) (((f_S_get p1 g r k M D).2).toInt64)), rfl, ⟨(congrArg nI c_1).symm, fun _ => updL0⟩, by rw [ht]; exact hP, va_K.moved hW.alike hK, hD⟩, hS.F ht⟩) hS.2.2 d_L_get_16

abbrev Q_L_sector (dC : Nat → ClassId) (dI : Nat → Nat → Nat) (qs : Nat) (q0 : Nat) (q1 : Nat) (q2 : Nat) (q3 : Nat) (cM : ClassId) (cD : ClassId) (qo : Nat) (cO : ClassId) (p1 : Int32) (p2 : Int32) (g r k M D : Nat → Int32) (A : Nat → Prop) : Array Value → State → Outcome → State → Prop := va_Qi (fun (r9 : Int32) (u : Nat → Int64) => r9 = nI (f_S_sector p1 p2 g r k M D).1 ∧ ((f_S_sector p1 p2 g r k M D).1 = 0 → u 0 = ((f_S_sector p1 p2 g r k M D).2).toInt64)) (fun u t => atW (dC, dI) classes A [c_S qs q0 q1 g, c_P q0 q1 r, c_B q1 q2 q3 k, c_A q2 cM 1024 M, c_A q3 cD 256 D, c_L qo cO u] [(cM, .int), (cD, .int), (cO, .long)] t) A
set_option maxHeartbeats 4000000 in
set_option maxRecDepth 100000 in
theorem c_L_sector (l : Launch) (hl9 : l.stackTraces = false) (dC : Nat → ClassId) (dI : Nat → Nat → Nat) (z0 : Nat) (qs : Nat) (q0 : Nat) (q1 : Nat) (q2 : Nat) (q3 : Nat) (cM : ClassId) (cD : ClassId) (qo : Nat) (cO : ClassId) (sz : Nat) (p1 : Int32) (p2 : Int32) (g r k M D : Nat → Int32) (o : Nat → Int64)  : Met l y_L_sector w_L_sector ({ frames := 8, cells := 1, slots := 6, locals := 132 }) (PcX (dC, dI) classes z0 [c_S qs q0 q1 g, c_P q0 q1 r, c_B q1 q2 q3 k, c_A q2 cM 1024 M, c_A q3 cD 256 D, c_L qo cO o] [(cM, .int), (cD, .int), (cO, .long)] sz [.ref qs, .int p1, .int p2, .ref qo]) (Q_L_sector dC dI qs q0 q1 q2 q3 cM cD qo cO p1 p2 g r k M D (va_A [c_S qs q0 q1 g, c_P q0 q1 r, c_B q1 q2 q3 k, c_A q2 cM 1024 M, c_A q3 cD 256 D, c_L qo cO o] sz)) 1 6 (va_A [c_S qs q0 q1 g, c_P q0 q1 r, c_B q1 q2 q3 k, c_A q2 cM 1024 M, c_A q3 cD 256 D, c_L qo cO o] sz) := by
  refine hdXw (cc := b_L_sector) (maxL := 5) (ret := (some .int)) (hh := [(0, 10, 13, 13)]) (C := R_law) (Qc := Q_L_sector dC dI qs q0 q1 q2 q3 cM cD qo cO p1 p2 g r k M D) (by decide) rfl ?_
  intro p e s m below meth c A H hx hb hr hlocks hEx hml hown hin htB hP hK hD hA hA0 hE hS
  have hl := lv_entry ([.ref qs, .int p1, .int p2, .ref qo]) (n := 5) (Nat.le_of_ble_eq_true rfl)
  rw [lg_entry_eq]
  generalize (lg_sl ([.ref qs, .int p1, .int p2, .ref qo]) ++ List.replicate (5 - (lg_sl ([.ref qs, .int p1, .int p2, .ref qo])).length) Slot.unset).toArray = ls at hl ⊢
  have hl : lv_has ls 5 [(0, .ref qs), (1, .int p1), (2, .int p2), (3, .ref qo)] := hl
  refine lv_aload_n hx hb d_L_sector_0 rfl (lv_at hl 3 rfl) ?_
  refine lv_iconst (v := 0) hx hb d_L_sector_1 (by decide) ?_
  refine lv_aload_n hx hb d_L_sector_2 rfl (lv_at hl 0 rfl) ?_
  refine lv_iload_n hx hb d_L_sector_3 rfl (lv_at hl 1 rfl) ?_
  refine lv_iload_n hx hb d_L_sector_4 rfl (lv_at hl 2 rfl) ?_
  have hPc := hP.sub (ws' := [c_S qs q0 q1 g, c_P q0 q1 r, c_B q1 q2 q3 k, c_A q2 cM 1024 M, c_A q3 cD 256 D]) [0, 1, 2, 3, 4] rfl
  have hDc := hD.sub (ws' := [c_S qs q0 q1 g, c_P q0 q1 r, c_B q1 q2 q3 k, c_A q2 cM 1024 M, c_A q3 cD 256 D]) [0, 1, 2, 3, 4] (by decide) rfl
  have hKc := hK.sub (tys' := [(cM, .int), (cD, .int)]) [0, 1] rfl
  have hFc := va_free (wc := [c_S qs q0 q1 g, c_P q0 q1 r, c_B q1 q2 q3 k, c_A q2 cM 1024 M, c_A q3 cD 256 D]) hD hS hA [0, 1, 2, 3, 4] rfl
  refine vx_calli (vx_runV (As := [.int p1, .int p2]) (rest := [.int (0 : Int32), .ref qo]) ⟨hx, hb, hml, hown, htB⟩ (c_S_sector l hl9 dC dI z0 qs q0 q1 q2 q3 cM cD H.size p1 p2 g r k M D) (cwV 2 htB (gd_V mw_451 mw_452 mw_453 mw_1 mw_454) rfl rfl rfl (by decide +kernel) ⟨Nat.le_of_ble_eq_true rfl, Nat.le_of_ble_eq_true rfl⟩) (pcx_V (va_recv hKc hPc (ci := 0) (q0 := 0) rfl rfl) hPc hKc hDc hA0 hE hS) rfl rfl hl.1 rfl (lv_room (Nat.le_of_ble_eq_true rfl)) d_L_sector_5 ⟨Nat.le_of_ble_eq_true rfl, Nat.le_of_ble_eq_true rfl⟩) hS (fun q _ h => hFc q h) hFc (fun q _ h => hFc q h) (fun E9 ce q9 u t H1 locs ht hvm hw hB hz1 hk1 hS hce hcv hcl => ?_) (fun r9 u t H1 locs ht hvm hw hB hz1 hk1 hS => ?_)
  · obtain ⟨c_1, rfl, hB⟩ := hB
    obtain ⟨hP1, hK1, hD1⟩ := hB
    rw [ht] at hP1
    obtain ⟨hP, hD⟩ := va_join (wr := [c_L qo cO o]) (w1 := [c_S qs q0 q1 g, c_P q0 q1 r, c_B q1 q2 q3 k, c_A q2 cM 1024 M, c_A q3 cD 256 D]) hP hD [0, 1, 2, 3, 4] [5] rfl rfl (by decide) (by decide) hk1 hFc hP1 hD1
    generalize H1 = H at hP hS hce ⊢
    have hP : va_P (dC, dI) classes [c_S qs q0 q1 g, c_P q0 q1 r, c_B q1 q2 q3 k, c_A q2 cM 1024 M, c_A q3 cD 256 D, c_L qo cO o] H := hP.sub [1, 2, 3, 4, 5, 0] rfl
    have hD : va_D A [c_S qs q0 q1 g, c_P q0 q1 r, c_B q1 q2 q3 k, c_A q2 cM 1024 M, c_A q3 cD 256 D, c_L qo cO o] := hD.sub [1, 2, 3, 4, 5, 0] (by decide) rfl
    rcases (co_sector (g := g) (r := r) (k := k) (M := M) (D := D) (p1 := p1) (p2 := p2) : _) with e9 | e9
    · exact absurd e9 c_1
    · have hcl : s.vm.findClass "java/lang/IllegalArgumentException" = some ce.cls := by rw [e9] at hcl; exact hcl
      refine vx_catch hown [] ⟨0, 10, 13, 13⟩ [] hEx (fun z hz => absurd hz List.not_mem_nil) (by decide) (by decide) (htB _ mw_119) (va_Nw.use rfl (hE.2.1 _ ew_135)) hce hcv hcl ?_
      refine lv_astore (lv' := [(4, .ref q9), (0, .ref qs), (1, .int p1), (2, .int p2), (3, .ref qo)]) hx hb d_L_sector_13 hl (by decide) rfl (fun ls hl => ?_)
      refine lv_iconst (v := 1) hx hb d_L_sector_15 (by decide) ?_
      refine W.widen (k := 1) (n := 6) (by decide) (by decide) ?_
      exact W.iret (v := (1 : Int32)) hx hb hr (fun t ht hW => ⟨⟨(1 : Int32), o, rfl, ⟨(congrArg nI e9).symm, fun q9 => absurd q9 c_1⟩, by rw [ht]; exact hP, va_K.moved hW.alike hK, hD⟩, hS.F ht⟩) hS.2.2 d_L_sector_16
  · obtain ⟨c_1, rfl⟩ := hw
    obtain ⟨hP1, hK1, hD1⟩ := hB
    rw [ht] at hP1
    obtain ⟨hP, hD⟩ := va_join (wr := [c_L qo cO o]) (w1 := [c_S qs q0 q1 g, c_P q0 q1 r, c_B q1 q2 q3 k, c_A q2 cM 1024 M, c_A q3 cD 256 D]) hP hD [0, 1, 2, 3, 4] [5] rfl rfl (by decide) (by decide) hk1 hFc hP1 hD1
    generalize H1 = H at hP hS ⊢
    have hP : va_P (dC, dI) classes [c_S qs q0 q1 g, c_P q0 q1 r, c_B q1 q2 q3 k, c_A q2 cM 1024 M, c_A q3 cD 256 D, c_L qo cO o] H := hP.sub [1, 2, 3, 4, 5, 0] rfl
    have hD : va_D A [c_S qs q0 q1 g, c_P q0 q1 r, c_B q1 q2 q3 k, c_A q2 cM 1024 M, c_A q3 cD 256 D, c_L qo cO o] := hD.sub [1, 2, 3, 4, 5, 0] (by decide) rfl
    refine lv_i2l hx hb d_L_sector_8 rfl ?_
    refine va_last hx hb hK hP hD hS 5 2 rfl rfl (show ¬ ((0 : Int32) < 0 ∨ 1 ≤ (0 : Int32).toNatClampNeg) from by decide) d_L_sector_9 (fun H locs hP hD hS => ?_)
    have hP : va_P (dC, dI) classes [c_S qs q0 q1 g, c_P q0 q1 r, c_B q1 q2 q3 k, c_A q2 cM 1024 M, c_A q3 cD 256 D, c_L qo cO (vp_updL o ((0 : Int32).toNatClampNeg) (((f_S_sector p1 p2 g r k M D).2).toInt64))] H := hP
    have hD : va_D A [c_S qs q0 q1 g, c_P q0 q1 r, c_B q1 q2 q3 k, c_A q2 cM 1024 M, c_A q3 cD 256 D, c_L qo cO (vp_updL o ((0 : Int32).toNatClampNeg) (((f_S_sector p1 p2 g r k M D).2).toInt64))] := hD
    refine lv_goto (tgt := 17) hx hb d_L_sector_10 (by decide) ?_
    refine lv_iconst (v := 0) hx hb d_L_sector_17 (by decide) ?_
    refine W.widen (k := 1) (n := 6) (by decide) (by decide) ?_
    exact W.iret (v := (0 : Int32)) hx hb hr (fun t ht hW => ⟨⟨(0 : Int32), (vp_updL o ((0 : Int32).toNatClampNeg) (((f_S_sector p1 p2 g r k M D).2).toInt64)), rfl, ⟨(congrArg nI c_1).symm, fun _ => updL0⟩, by rw [ht]; exact hP, va_K.moved hW.alike hK, hD⟩, hS.F ht⟩) hS.2.2 d_L_sector_18
