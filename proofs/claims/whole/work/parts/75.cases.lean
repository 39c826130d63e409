set_option maxHeartbeats 4000000 in
set_option maxRecDepth 100000 in
theorem LW_4 {p : Program} {l : Launch} (hl9 : l.stackTraces = false) {e : Env} {s : State} {m : MethodId} {below : List Frame} {meth : Method} {c : Code} {A : Nat → Prop} {z0 : Nat} {dC : Nat → ClassId} {dI : Nat → Nat → Nat} {qs : Nat} {q0 : Nat} {q1 : Nat} {q2 : Nat} {q3 : Nat} {cM : ClassId} {cD : ClassId} {x0 : Nat} {x1 : Nat} {x2 : Nat} {x3 : Nat} {x4 : Nat} {c1 : ClassId} {c2 : ClassId} {c3 : ClassId} {c4 : ClassId} {qo : Nat} {cO : ClassId} {b L : Nat} {xs : Nat → Int32} (hx : p.tables.exec = Jvm.exec) (hb : c.code = code) (hml : c.maxLocals = 7) (hown : s.vm.findClass R_law = some m.cls) (htB : ∀ w ∈ BIG, w.before #[Value.ref b] s = true) (hX : va_X b L xs s s.heap) (hbl : b < s.heap.size) (hbA : ¬ A b) (hA : ∀ q : Nat, s.heap.size ≤ q → A q) (hA0 : ∀ q, A q → z0 ≤ q) (hE : EN z0 s) (hK : va_K (dC, dI) classes [(cM, .int), (cD, .int), (c1, .int), (c2, .int), (c3, .int), (c4, .int), (cO, .long)] s) (hL : L ≤ 3072) {Q : State → Prop} {j : Nat} (hj : 6 * j + 6 ≤ L) (kk : ∀ (g r k M D ku m1 m2 m3 m4 : Nat → Int32) (o : Nat → Int64) (H : Heap) (locs : List Loc) (ls : Array Slot), Rel g r k M D ku m1 m2 m3 → va_P (dC, dI) classes [c_S qs q0 q1 g, c_P q0 q1 r, c_B q1 q2 q3 k, c_A q2 cM 1024 M, c_A q3 cD 256 D, c_X x0 x1 x2 x3 x4 ku, c_A x1 c1 1024 m1, c_A x2 c2 256 m2, c_A x3 c3 9 m3, c_A x4 c4 9 m4, c_L qo cO o] H → va_D A [c_S qs q0 q1 g, c_P q0 q1 r, c_B q1 q2 q3 k, c_A q2 cM 1024 M, c_A q3 cD 256 D, c_X x0 x1 x2 x3 x4 ku, c_A x1 c1 1024 m1, c_A x2 c2 256 m2, c_A x3 c3 9 m3, c_A x4 c4 9 m4, c_L qo cO o] → va_S A s.heap H locs → lv_has ls 7 [(4, .int (nI (6 * j))), (0, .ref b), (1, .ref qs), (2, .ref x0), (3, .ref qo)] → W p l e room_1 s m #[Value.ref b] below meth c H locs (11 + 2 * (j + 1)) (2614 + 12 * (j + 1)) Q (F0 m 729 ls [])) {g r k M D ku m1 m2 m3 m4 : Nat → Int32} {o : Nat → Int64} {H : Heap} {locs : List Loc} {ls : Array Slot} (hrel : Rel g r k M D ku m1 m2 m3) (hP : va_P (dC, dI) classes [c_S qs q0 q1 g, c_P q0 q1 r, c_B q1 q2 q3 k, c_A q2 cM 1024 M, c_A q3 cD 256 D, c_X x0 x1 x2 x3 x4 ku, c_A x1 c1 1024 m1, c_A x2 c2 256 m2, c_A x3 c3 9 m3, c_A x4 c4 9 m4, c_L qo cO o] H) (hD : va_D A [c_S qs q0 q1 g, c_P q0 q1 r, c_B q1 q2 q3 k, c_A q2 cM 1024 M, c_A q3 cD 256 D, c_X x0 x1 x2 x3 x4 ku, c_A x1 c1 1024 m1, c_A x2 c2 256 m2, c_A x3 c3 9 m3, c_A x4 c4 9 m4, c_L qo cO o]) (hS : va_S A s.heap H locs) (hl : lv_has ls 7 [(4, .int (nI (6 * j))), (0, .ref b), (1, .ref qs), (2, .ref x0), (3, .ref qo)]) : W p l e room_1 s m #[Value.ref b] below meth c H locs (11 + 2 * j) (2614 + 12 * j) Q (F0 m 452 ls []) := by
  have h_1 : vp_in (nI (6 * j) + (1 : Int32)) L := sx_in (k := 1) hj (by decide) hL
  have h_2 : vp_in (nI (6 * j) + (2 : Int32)) L := sx_in (k := 2) hj (by decide) hL
  have h_3 : vp_in (nI (6 * j) + (3 : Int32)) L := sx_in (k := 3) hj (by decide) hL
  have h_4 : vp_in (nI (6 * j) + (4 : Int32)) L := sx_in (k := 4) hj (by decide) hL
  have h_5 : vp_in (nI (6 * j) + (5 : Int32)) L := sx_in (k := 5) hj (by decide) hL
  have hk2 : k 2 = 0 ∨ k 2 = 1 := hrel.2.2.2.2.2.2.1.2.2
  have hu2 : ku 2 = 0 ∨ ku 2 = 1 := by rw [hrel.2.2.2.2.2.2.2.2.2.2.2.1]; exact hk2
  refine lv_aload_n hx hb d_L_law_452 rfl (lv_at hl 2 rfl) ?_
  refine lv_aload_n hx hb d_L_law_453 rfl (lv_at hl 1 rfl) ?_
  refine lv_iload hx hb d_L_law_454 (lv_at hl 0 rfl) ?_
  refine lv_iconst (v := 1) hx hb d_L_law_456 (by decide) ?_
  refine lv_iadd hx hb d_L_law_457 ?_
  refine va_sld hx hb hX hbl hbA hS h_1 d_L_law_458 ?_
  refine lv_if_eq (tgt := 466) hx hb d_L_law_459 (by decide) (fun c_1 => ?_) (fun c_1 => ?_)
  · refine lv_iconst (v := 0) hx hb d_L_law_466 (by decide) ?_
    have hPc := hP.sub (ws' := [c_S qs q0 q1 g, c_P q0 q1 r, c_B q1 q2 q3 k, c_A q2 cM 1024 M, c_A q3 cD 256 D]) [0, 1, 2, 3, 4] rfl
    have hDc := hD.sub (ws' := [c_S qs q0 q1 g, c_P q0 q1 r, c_B q1 q2 q3 k, c_A q2 cM 1024 M, c_A q3 cD 256 D]) [0, 1, 2, 3, 4] (by decide) rfl
    have hKc := hK.sub (tys' := [(cM, .int), (cD, .int)]) [0, 1] rfl
    have hFc := va_free (wc := [c_S qs q0 q1 g, c_P q0 q1 r, c_B q1 q2 q3 k, c_A q2 cM 1024 M, c_A q3 cD 256 D]) hD hS hA [0, 1, 2, 3, 4] rfl
    have hR := protect_rel (p1 := (0 : Int32)) hrel (Or.inl rfl)
    refine va_calli (va_runV (As := [.int (0 : Int32)]) (rest := []) ⟨hx, hb, hml, hown, htB⟩ (c_S_protect l dC dI z0 qs q0 q1 q2 q3 cM cD H.size (0 : Int32) g r k M D hk2 (Or.inl rfl)) (cwV 1 htB (gd_V mw_112 mw_113 mw_114 mw_1 mw_115) rfl rfl rfl (by decide +kernel) ⟨Nat.le_of_ble_eq_true rfl, Nat.le_of_ble_eq_true rfl⟩) (pcx_V (va_recv hKc hPc (ci := 0) (q0 := 0) rfl rfl) hPc hKc hDc hA0 hE hS) rfl rfl hl.1 rfl (lv_room (Nat.le_of_ble_eq_true rfl)) d_L_law_467 ⟨by show _ ≤ 1041; omega, by show _ ≤ 10842; omega⟩) hS (fun q _ h => hFc q h) hFc (fun r9 u t H1 locs ht hvm hw hB hz1 hk1 hS => ?_)
    subst hw
    obtain ⟨hP1, hK1, hD1⟩ := hB
    rw [ht] at hP1
    obtain ⟨hP, hD⟩ := va_join (wr := [c_X x0 x1 x2 x3 x4 ku, c_A x1 c1 1024 m1, c_A x2 c2 256 m2, c_A x3 c3 9 m3, c_A x4 c4 9 m4, c_L qo cO o]) (w1 := [c_S qs q0 q1 g, c_P q0 q1 r, c_B q1 q2 q3 ((f_S_protect (0 : Int32) g r k M D).2), c_A q2 cM 1024 M, c_A q3 cD 256 D]) hP hD [0, 1, 2, 3, 4] [5, 6, 7, 8, 9, 10] rfl rfl (by decide) (by decide) hk1 hFc hP1 hD1
    generalize H1 = H at hP hS ⊢
    have hP : va_P (dC, dI) classes [c_S qs q0 q1 g, c_P q0 q1 r, c_B q1 q2 q3 ((f_S_protect (0 : Int32) g r k M D).2), c_A q2 cM 1024 M, c_A q3 cD 256 D, c_X x0 x1 x2 x3 x4 ku, c_A x1 c1 1024 m1, c_A x2 c2 256 m2, c_A x3 c3 9 m3, c_A x4 c4 9 m4, c_L qo cO o] H := hP.sub [6, 7, 8, 9, 10, 0, 1, 2, 3, 4, 5] rfl
    have hD : va_D A [c_S qs q0 q1 g, c_P q0 q1 r, c_B q1 q2 q3 ((f_S_protect (0 : Int32) g r k M D).2), c_A q2 cM 1024 M, c_A q3 cD 256 D, c_X x0 x1 x2 x3 x4 ku, c_A x1 c1 1024 m1, c_A x2 c2 256 m2, c_A x3 c3 9 m3, c_A x4 c4 9 m4, c_L qo cO o] := hD.sub [6, 7, 8, 9, 10, 0, 1, 2, 3, 4, 5] (by decide) rfl
    refine lv_aload_n hx hb d_L_law_470 rfl (lv_at hl 3 rfl) ?_
    refine lv_aload_n hx hb d_L_law_471 rfl (lv_at hl 1 rfl) ?_
    refine lv_iload hx hb d_L_law_472 (lv_at hl 0 rfl) ?_
    refine lv_iconst (v := 1) hx hb d_L_law_474 (by decide) ?_
    refine lv_iadd hx hb d_L_law_475 ?_
    refine va_sld hx hb hX hbl hbA hS h_1 d_L_law_476 ?_
    refine lv_if_eq (tgt := 484) hx hb d_L_law_477 (by decide) (fun _ => ?_) (fun c9 => absurd c_1 c9)
    refine lv_iconst (v := 0) hx hb d_L_law_484 (by decide) ?_
    have hPc := hP.sub (ws' := [c_X x0 x1 x2 x3 x4 ku]) [5] rfl
    have hDc := hD.sub (ws' := [c_X x0 x1 x2 x3 x4 ku]) [5] (by decide) rfl
    have hKc := hK.sub (tys' := []) [] rfl
    have hFc := va_free (wc := [c_X x0 x1 x2 x3 x4 ku]) hD hS hA [5] rfl
    refine va_calli (va_runV (As := [.int (0 : Int32)]) (rest := [.int ((f_S_protect (0 : Int32) g r k M D).1)]) ⟨hx, hb, hml, hown, htB⟩ (c_X_protect l dC dI z0 x0 x1 x2 x3 x4 H.size (0 : Int32) ku hu2 (Or.inl rfl)) (cwV 1 htB (gd_V mw_536 mw_537 mw_538 mw_4 mw_539) rfl rfl rfl (by decide +kernel) ⟨Nat.le_of_ble_eq_true rfl, Nat.le_of_ble_eq_true rfl⟩) (pcx_V (va_recv hKc hPc (ci := 3) (q0 := 0) rfl rfl) hPc hKc hDc hA0 hE hS) rfl rfl hl.1 rfl (lv_room (Nat.le_of_ble_eq_true rfl)) d_L_law_485 ⟨by show _ ≤ 1041; omega, by show _ ≤ 10842; omega⟩) hS (fun q _ h => hFc q h) hFc (fun r9 u t H1 locs ht hvm hw hB hz1 hk1 hS => ?_)
    subst hw
    obtain ⟨hP1, hK1, hD1⟩ := hB
    rw [ht] at hP1
    obtain ⟨hP, hD⟩ := va_join (wr := [c_S qs q0 q1 g, c_P q0 q1 r, c_B q1 q2 q3 ((f_S_protect (0 : Int32) g r k M D).2), c_A q2 cM 1024 M, c_A q3 cD 256 D, c_A x1 c1 1024 m1, c_A x2 c2 256 m2, c_A x3 c3 9 m3, c_A x4 c4 9 m4, c_L qo cO o]) (w1 := [c_X x0 x1 x2 x3 x4 ((f_X_protect (0 : Int32) ku).2)]) hP hD [5] [0, 1, 2, 3, 4, 6, 7, 8, 9, 10] rfl rfl (by decide) (by decide) hk1 hFc hP1 hD1
    generalize H1 = H at hP hS ⊢
    have hP : va_P (dC, dI) classes [c_S qs q0 q1 g, c_P q0 q1 r, c_B q1 q2 q3 ((f_S_protect (0 : Int32) g r k M D).2), c_A q2 cM 1024 M, c_A q3 cD 256 D, c_X x0 x1 x2 x3 x4 ((f_X_protect (0 : Int32) ku).2), c_A x1 c1 1024 m1, c_A x2 c2 256 m2, c_A x3 c3 9 m3, c_A x4 c4 9 m4, c_L qo cO o] H := hP.sub [0, 1, 2, 3, 4, 10, 5, 6, 7, 8, 9] rfl
    have hD : va_D A [c_S qs q0 q1 g, c_P q0 q1 r, c_B q1 q2 q3 ((f_S_protect (0 : Int32) g r k M D).2), c_A q2 cM 1024 M, c_A q3 cD 256 D, c_X x0 x1 x2 x3 x4 ((f_X_protect (0 : Int32) ku).2), c_A x1 c1 1024 m1, c_A x2 c2 256 m2, c_A x3 c3 9 m3, c_A x4 c4 9 m4, c_L qo cO o] := hD.sub [0, 1, 2, 3, 4, 10, 5, 6, 7, 8, 9] (by decide) rfl
    refine lv_icmp_eq (tgt := 729) hx hb d_L_law_488 (by decide) (fun _ => ?_) (fun c9 => absurd hR.1.symm c9)
    refine W.widen (k := 11 + 2 * (j + 1)) (n := 2614 + 12 * (j + 1)) (by omega) (by omega) ?_
    exact kk _ _ _ _ _ _ _ _ _ _ _ H _ ls hR.2 hP hD hS (lv_sub hl [0, 1, 2, 3, 4] rfl)
  · refine lv_iconst (v := 1) hx hb d_L_law_462 (by decide) ?_
    refine lv_goto (tgt := 467) hx hb d_L_law_463 (by decide) ?_
    have hPc := hP.sub (ws' := [c_S qs q0 q1 g, c_P q0 q1 r, c_B q1 q2 q3 k, c_A q2 cM 1024 M, c_A q3 cD 256 D]) [0, 1, 2, 3, 4] rfl
    have hDc := hD.sub (ws' := [c_S qs q0 q1 g, c_P q0 q1 r, c_B q1 q2 q3 k, c_A q2 cM 1024 M, c_A q3 cD 256 D]) [0, 1, 2, 3, 4] (by decide) rfl
    have hKc := hK.sub (tys' := [(cM, .int), (cD, .int)]) [0, 1] rfl
    have hFc := va_free (wc := [c_S qs q0 q1 g, c_P q0 q1 r, c_B q1 q2 q3 k, c_A q2 cM 1024 M, c_A q3 cD 256 D]) hD hS hA [0, 1, 2, 3, 4] rfl
    have hR := protect_rel (p1 := (1 : Int32)) hrel (Or.inr rfl)
    refine va_calli (va_runV (As := [.int (1 : Int32)]) (rest := []) ⟨hx, hb, hml, hown, htB⟩ (c_S_protect l dC dI z0 qs q0 q1 q2 q3 cM cD H.size (1 : Int32) g r k M D hk2 (Or.inr rfl)) (cwV 1 htB (gd_V mw_112 mw_113 mw_114 mw_1 mw_115) rfl rfl rfl (by decide +kernel) ⟨Nat.le_of_ble_eq_true rfl, Nat.le_of_ble_eq_true rfl⟩) (pcx_V (va_recv hKc hPc (ci := 0) (q0 := 0) rfl rfl) hPc hKc hDc hA0 hE hS) rfl rfl hl.1 rfl (lv_room (Nat.le_of_ble_eq_true rfl)) d_L_law_467 ⟨by show _ ≤ 1041; omega, by show _ ≤ 10842; omega⟩) hS (fun q _ h => hFc q h) hFc (fun r9 u t H1 locs ht hvm hw hB hz1 hk1 hS => ?_)
    subst hw
    obtain ⟨hP1, hK1, hD1⟩ := hB
    rw [ht] at hP1
    obtain ⟨hP, hD⟩ := va_join (wr := [c_X x0 x1 x2 x3 x4 ku, c_A x1 c1 1024 m1, c_A x2 c2 256 m2, c_A x3 c3 9 m3, c_A x4 c4 9 m4, c_L qo cO o]) (w1 := [c_S qs q0 q1 g, c_P q0 q1 r, c_B q1 q2 q3 ((f_S_protect (1 : Int32) g r k M D).2), c_A q2 cM 1024 M, c_A q3 cD 256 D]) hP hD [0, 1, 2, 3, 4] [5, 6, 7, 8, 9, 10] rfl rfl (by decide) (by decide) hk1 hFc hP1 hD1
    generalize H1 = H at hP hS ⊢
    have hP : va_P (dC, dI) classes [c_S qs q0 q1 g, c_P q0 q1 r, c_B q1 q2 q3 ((f_S_protect (1 : Int32) g r k M D).2), c_A q2 cM 1024 M, c_A q3 cD 256 D, c_X x0 x1 x2 x3 x4 ku, c_A x1 c1 1024 m1, c_A x2 c2 256 m2, c_A x3 c3 9 m3, c_A x4 c4 9 m4, c_L qo cO o] H := hP.sub [6, 7, 8, 9, 10, 0, 1, 2, 3, 4, 5] rfl
    have hD : va_D A [c_S qs q0 q1 g, c_P q0 q1 r, c_B q1 q2 q3 ((f_S_protect (1 : Int32) g r k M D).2), c_A q2 cM 1024 M, c_A q3 cD 256 D, c_X x0 x1 x2 x3 x4 ku, c_A x1 c1 1024 m1, c_A x2 c2 256 m2, c_A x3 c3 9 m3, c_A x4 c4 9 m4, c_L qo cO o] := hD.sub [6, 7, 8, 9, 10, 0, 1, 2, 3, 4, 5] (by decide) rfl
    refine lv_aload_n hx hb d_L_law_470 rfl (lv_at hl 3 rfl) ?_
    refine lv_aload_n hx hb d_L_law_471 rfl (lv_at hl 1 rfl) ?_
    refine lv_iload hx hb d_L_law_472 (lv_at hl 0 rfl) ?_
    refine lv_iconst (v := 1) hx hb d_L_law_474 (by decide) ?_
    refine lv_iadd hx hb d_L_law_475 ?_
    refine va_sld hx hb hX hbl hbA hS h_1 d_L_law_476 ?_
    refine lv_if_eq (tgt := 484) hx hb d_L_law_477 (by decide) (fun c9 => absurd c9 c_1) (fun _ => ?_)
    refine lv_iconst (v := 1) hx hb d_L_law_480 (by decide) ?_
    refine lv_goto (tgt := 485) hx hb d_L_law_481 (by decide) ?_
    have hPc := hP.sub (ws' := [c_X x0 x1 x2 x3 x4 ku]) [5] rfl
    have hDc := hD.sub (ws' := [c_X x0 x1 x2 x3 x4 ku]) [5] (by decide) rfl
    have hKc := hK.sub (tys' := []) [] rfl
    have hFc := va_free (wc := [c_X x0 x1 x2 x3 x4 ku]) hD hS hA [5] rfl
    refine va_calli (va_runV (As := [.int (1 : Int32)]) (rest := [.int ((f_S_protect (1 : Int32) g r k M D).1)]) ⟨hx, hb, hml, hown, htB⟩ (c_X_protect l dC dI z0 x0 x1 x2 x3 x4 H.size (1 : Int32) ku hu2 (Or.inr rfl)) (cwV 1 htB (gd_V mw_536 mw_537 mw_538 mw_4 mw_539) rfl rfl rfl (by decide +kernel) ⟨Nat.le_of_ble_eq_true rfl, Nat.le_of_ble_eq_true rfl⟩) (pcx_V (va_recv hKc hPc (ci := 3) (q0 := 0) rfl rfl) hPc hKc hDc hA0 hE hS) rfl rfl hl.1 rfl (lv_room (Nat.le_of_ble_eq_true rfl)) d_L_law_485 ⟨by show _ ≤ 1041; omega, by show _ ≤ 10842; omega⟩) hS (fun q _ h => hFc q h) hFc (fun r9 u t H1 locs ht hvm hw hB hz1 hk1 hS => ?_)
    subst hw
    obtain ⟨hP1, hK1, hD1⟩ := hB
    rw [ht] at hP1
    obtain ⟨hP, hD⟩ := va_join (wr := [c_S qs q0 q1 g, c_P q0 q1 r, c_B q1 q2 q3 ((f_S_protect (1 : Int32) g r k M D).2), c_A q2 cM 1024 M, c_A q3 cD 256 D, c_A x1 c1 1024 m1, c_A x2 c2 256 m2, c_A x3 c3 9 m3, c_A x4 c4 9 m4, c_L qo cO o]) (w1 := [c_X x0 x1 x2 x3 x4 ((f_X_protect (1 : Int32) ku).2)]) hP hD [5] [0, 1, 2, 3, 4, 6, 7, 8, 9, 10] rfl rfl (by decide) (by decide) hk1 hFc hP1 hD1
    generalize H1 = H at hP hS ⊢
    have hP : va_P (dC, dI) classes [c_S qs q0 q1 g, c_P q0 q1 r, c_B q1 q2 q3 ((f_S_protect (1 : Int32) g r k M D).2), c_A q2 cM 1024 M, c_A q3 cD 256 D, c_X x0 x1 x2 x3 x4 ((f_X_protect (1 : Int32) ku).2), c_A x1 c1 1024 m1, c_A x2 c2 256 m2, c_A x3 c3 9 m3, c_A x4 c4 9 m4, c_L qo cO o] H := hP.sub [0, 1, 2, 3, 4, 10, 5, 6, 7, 8, 9] rfl
    have hD : va_D A [c_S qs q0 q1 g, c_P q0 q1 r, c_B q1 q2 q3 ((f_S_protect (1 : Int32) g r k M D).2), c_A q2 cM 1024 M, c_A q3 cD 256 D, c_X x0 x1 x2 x3 x4 ((f_X_protect (1 : Int32) ku).2), c_A x1 c1 1024 m1, c_A x2 c2 256 m2, c_A x3 c3 9 m3, c_A x4 c4 9 m4, c_L qo cO o] := hD.sub [0, 1, 2, 3, 4, 10, 5, 6, 7, 8, 9] (by decide) rfl
    refine lv_icmp_eq (tgt := 729) hx hb d_L_law_488 (by decide) (fun _ => ?_) (fun c9 => absurd hR.1.symm c9)
    refine W.widen (k := 11 + 2 * (j + 1)) (n := 2614 + 12 * (j + 1)) (by omega) (by omega) ?_
    exact kk _ _ _ _ _ _ _ _ _ _ _ H _ ls hR.2 hP hD hS (lv_sub hl [0, 1, 2, 3, 4] rfl)

set_option maxHeartbeats 4000000 in
set_option maxRecDepth 100000 in
theorem LW_5 {p : Program} {l : Launch} (hl9 : l.stackTraces = false) {e : Env} {s : State} {m : MethodId} {below : List Frame} {meth : Method} {c : Code} {A : Nat → Prop} {z0 : Nat} {dC : Nat → ClassId} {dI : Nat → Nat → Nat} {qs : Nat} {q0 : Nat} {q1 : Nat} {q2 : Nat} {q3 : Nat} {cM : ClassId} {cD : ClassId} {x0 : Nat} {x1 : Nat} {x2 : Nat} {x3 : Nat} {x4 : Nat} {c1 : ClassId} {c2 : ClassId} {c3 : ClassId} {c4 : ClassId} {qo : Nat} {cO : ClassId} {b L : Nat} {xs : Nat → Int32} (hx : p.tables.exec = Jvm.exec) (hb : c.code = code) (hml : c.maxLocals = 7) (hown : s.vm.findClass R_law = some m.cls) (htB : ∀ w ∈ BIG, w.before #[Value.ref b] s = true) (hX : va_X b L xs s s.heap) (hbl : b < s.heap.size) (hbA : ¬ A b) (hA : ∀ q : Nat, s.heap.size ≤ q → A q) (hA0 : ∀ q, A q → z0 ≤ q) (hE : EN z0 s) (hK : va_K (dC, dI) classes [(cM, .int), (cD, .int), (c1, .int), (c2, .int), (c3, .int), (c4, .int), (cO, .long)] s) (hL : L ≤ 3072) {Q : State → Prop} {j : Nat} (hj : 6 * j + 6 ≤ L) (kk : ∀ (g r k M D ku m1 m2 m3 m4 : Nat → Int32) (o : Nat → Int64) (H : Heap) (locs : List Loc) (ls : Array Slot), Rel g r k M D ku m1 m2 m3 → va_P (dC, dI) classes [c_S qs q0 q1 g, c_P q0 q1 r, c_B q1 q2 q3 k, c_A q2 cM 1024 M, c_A q3 cD 256 D, c_X x0 x1 x2 x3 x4 ku, c_A x1 c1 1024 m1, c_A x2 c2 256 m2, c_A x3 c3 9 m3, c_A x4 c4 9 m4, c_L qo cO o] H → va_D A [c_S qs q0 q1 g, c_P q0 q1 r, c_B q1 q2 q3 k, c_A q2 cM 1024 M, c_A q3 cD 256 D, c_X x0 x1 x2 x3 x4 ku, c_A x1 c1 1024 m1, c_A x2 c2 256 m2, c_A x3 c3 9 m3, c_A x4 c4 9 m4, c_L qo cO o] → va_S A s.heap H locs → lv_has ls 7 [(4, .int (nI (6 * j))), (0, .ref b), (1, .ref qs), (2, .ref x0), (3, .ref qo)] → W p l e room_1 s m #[Value.ref b] below meth c H locs (11 + 2 * (j + 1)) (2614 + 12 * (j + 1)) Q (F0 m 729 ls [])) {g r k M D ku m1 m2 m3 m4 : Nat → Int32} {o : Nat → Int64} {H : Heap} {locs : List Loc} {ls : Array Slot} (hrel : Rel g r k M D ku m1 m2 m3) (hP : va_P (dC, dI) classes [c_S qs q0 q1 g, c_P q0 q1 r, c_B q1 q2 q3 k, c_A q2 cM 1024 M, c_A q3 cD 256 D, c_X x0 x1 x2 x3 x4 ku, c_A x1 c1 1024 m1, c_A x2 c2 256 m2, c_A x3 c3 9 m3, c_A x4 c4 9 m4, c_L qo cO o] H) (hD : va_D A [c_S qs q0 q1 g, c_P q0 q1 r, c_B q1 q2 q3 k, c_A q2 cM 1024 M, c_A q3 cD 256 D, c_X x0 x1 x2 x3 x4 ku, c_A x1 c1 1024 m1, c_A x2 c2 256 m2, c_A x3 c3 9 m3, c_A x4 c4 9 m4, c_L qo cO o]) (hS : va_S A s.heap H locs) (hl : lv_has ls 7 [(4, .int (nI (6 * j))), (0, .ref b), (1, .ref qs), (2, .ref x0), (3, .ref qo)]) : W p l e room_1 s m #[Value.ref b] below meth c H locs (11 + 2 * j) (2614 + 12 * j) Q (F0 m 493 ls []) := by
  have h_1 : vp_in (nI (6 * j) + (1 : Int32)) L := sx_in (k := 1) hj (by decide) hL
  have h_2 : vp_in (nI (6 * j) + (2 : Int32)) L := sx_in (k := 2) hj (by decide) hL
  have h_3 : vp_in (nI (6 * j) + (3 : Int32)) L := sx_in (k := 3) hj (by decide) hL
  have h_4 : vp_in (nI (6 * j) + (4 : Int32)) L := sx_in (k := 4) hj (by decide) hL
  have h_5 : vp_in (nI (6 * j) + (5 : Int32)) L := sx_in (k := 5) hj (by decide) hL
  refine lv_aload_n hx hb d_L_law_493 rfl (lv_at hl 2 rfl) ?_
  refine lv_aload_n hx hb d_L_law_494 rfl (lv_at hl 1 rfl) ?_
  refine lv_iload hx hb d_L_law_495 (lv_at hl 0 rfl) ?_
  refine lv_iconst (v := 1) hx hb d_L_law_497 (by decide) ?_
  refine lv_iadd hx hb d_L_law_498 ?_
  refine va_sld hx hb hX hbl hbA hS h_1 d_L_law_499 ?_
  refine lv_aload_n hx hb d_L_law_500 rfl (lv_at hl 4 rfl) ?_
  have hR := run_rel (m4 := m4) (p1 := (xs ((nI (6 * j)) + (1 : Int32)).toNatClampNeg)) hrel
  have hPc := hP.sub (ws' := [c_S qs q0 q1 g, c_P q0 q1 r, c_B q1 q2 q3 k, c_A q2 cM 1024 M, c_A q3 cD 256 D, c_L qo cO o]) [0, 1, 2, 3, 4, 10] rfl
  have hDc := hD.sub (ws' := [c_S qs q0 q1 g, c_P q0 q1 r, c_B q1 q2 q3 k, c_A q2 cM 1024 M, c_A q3 cD 256 D, c_L qo cO o]) [0, 1, 2, 3, 4, 10] (by decide) rfl
  have hKc := hK.sub (tys' := [(cM, .int), (cD, .int), (cO, .long)]) [0, 1, 6] rfl
  have hFc := va_free (wc := [c_S qs q0 q1 g, c_P q0 q1 r, c_B q1 q2 q3 k, c_A q2 cM 1024 M, c_A q3 cD 256 D, c_L qo cO o]) hD hS hA [0, 1, 2, 3, 4, 10] rfl
  refine va_calli (vx_runSW (As := [.ref qs, .int (xs ((nI (6 * j)) + (1 : Int32)).toNatClampNeg), .ref qo]) (rest := []) ⟨hx, hb, hml, hown, htB⟩ (c_L_run l hl9 dC dI z0 qs q0 q1 q2 q3 cM cD qo cO H.size (xs ((nI (6 * j)) + (1 : Int32)).toNatClampNeg) g r k M D o hR.1) (vx_cwSW 3 htB (gd_SW mw_260 mw_261 mw_0 mw_262) rfl rfl rfl (by decide +kernel) ⟨Nat.le_of_ble_eq_true rfl, Nat.le_of_ble_eq_true rfl⟩) (pcx_S hPc hKc hDc hA0 hE hS) rfl rfl hl.1 rfl (lv_room (Nat.le_of_ble_eq_true rfl)) d_L_law_501 ⟨by show _ ≤ 1041; omega, by show _ ≤ 10842; omega⟩) hS (fun q _ h => hFc q h) hFc (fun r9 u9 t H1 locs ht hvm hw hB hz1 hk1 hS => ?_)
  obtain ⟨hw1, hw2⟩ := hw
  subst hw1
  obtain ⟨hP1, hK1, hD1⟩ := hB
  rw [ht] at hP1
  obtain ⟨hP, hD⟩ := va_join (wr := [c_X x0 x1 x2 x3 x4 ku, c_A x1 c1 1024 m1, c_A x2 c2 256 m2, c_A x3 c3 9 m3, c_A x4 c4 9 m4]) (w1 := [c_S qs q0 q1 ((f_S_run (xs ((nI (6 * j)) + (1 : Int32)).toNatClampNeg) g r k M D).2.2.1), c_P q0 q1 ((f_S_run (xs ((nI (6 * j)) + (1 : Int32)).toNatClampNeg) g r k M D).2.2.2.1), c_B q1 q2 q3 ((f_S_run (xs ((nI (6 * j)) + (1 : Int32)).toNatClampNeg) g r k M D).2.2.2.2.1), c_A q2 cM 1024 ((f_S_run (xs ((nI (6 * j)) + (1 : Int32)).toNatClampNeg) g r k M D).2.2.2.2.2.1), c_A q3 cD 256 ((f_S_run (xs ((nI (6 * j)) + (1 : Int32)).toNatClampNeg) g r k M D).2.2.2.2.2.2), c_L qo cO u9]) hP hD [0, 1, 2, 3, 4, 10] [5, 6, 7, 8, 9] rfl rfl (by decide) (by decide) hk1 hFc hP1 hD1
  generalize H1 = H at hP hS ⊢
  have hP : va_P (dC, dI) classes [c_S qs q0 q1 ((f_S_run (xs ((nI (6 * j)) + (1 : Int32)).toNatClampNeg) g r k M D).2.2.1), c_P q0 q1 ((f_S_run (xs ((nI (6 * j)) + (1 : Int32)).toNatClampNeg) g r k M D).2.2.2.1), c_B q1 q2 q3 ((f_S_run (xs ((nI (6 * j)) + (1 : Int32)).toNatClampNeg) g r k M D).2.2.2.2.1), c_A q2 cM 1024 ((f_S_run (xs ((nI (6 * j)) + (1 : Int32)).toNatClampNeg) g r k M D).2.2.2.2.2.1), c_A q3 cD 256 ((f_S_run (xs ((nI (6 * j)) + (1 : Int32)).toNatClampNeg) g r k M D).2.2.2.2.2.2), c_X x0 x1 x2 x3 x4 ku, c_A x1 c1 1024 m1, c_A x2 c2 256 m2, c_A x3 c3 9 m3, c_A x4 c4 9 m4, c_L qo cO u9] H := hP.sub [5, 6, 7, 8, 9, 0, 1, 2, 3, 4, 10] rfl
  have hD : va_D A [c_S qs q0 q1 ((f_S_run (xs ((nI (6 * j)) + (1 : Int32)).toNatClampNeg) g r k M D).2.2.1), c_P q0 q1 ((f_S_run (xs ((nI (6 * j)) + (1 : Int32)).toNatClampNeg) g r k M D).2.2.2.1), c_B q1 q2 q3 ((f_S_run (xs ((nI (6 * j)) + (1 : Int32)).toNatClampNeg) g r k M D).2.2.2.2.1), c_A q2 cM 1024 ((f_S_run (xs ((nI (6 * j)) + (1 : Int32)).toNatClampNeg) g r k M D).2.2.2.2.2.1), c_A q3 cD 256 ((f_S_run (xs ((nI (6 * j)) + (1 : Int32)).toNatClampNeg) g r k M D).2.2.2.2.2.2), c_X x0 x1 x2 x3 x4 ku, c_A x1 c1 1024 m1, c_A x2 c2 256 m2, c_A x3 c3 9 m3, c_A x4 c4 9 m4, c_L qo cO u9] := hD.sub [5, 6, 7, 8, 9, 0, 1, 2, 3, 4, 10] (by decide) rfl
  refine lv_istore (lv' := [(5, .int (nI ((f_S_run (xs ((nI (6 * j)) + (1 : Int32)).toNatClampNeg) g r k M D).1))), (4, .int (nI (6 * j))), (0, .ref b), (1, .ref qs), (2, .ref x0), (3, .ref qo)]) hx hb d_L_law_504 hl (by decide) rfl (fun ls hl => ?_)
  refine lv_aload_n hx hb d_L_law_506 rfl (lv_at hl 4 rfl) ?_
  refine lv_aload_n hx hb d_L_law_507 rfl (lv_at hl 2 rfl) ?_
  refine lv_iload hx hb d_L_law_508 (lv_at hl 1 rfl) ?_
  refine lv_iconst (v := 1) hx hb d_L_law_510 (by decide) ?_
  refine lv_iadd hx hb d_L_law_511 ?_
  refine va_sld hx hb hX hbl hbA hS h_1 d_L_law_512 ?_
  have hPc := hP.sub (ws' := [c_X x0 x1 x2 x3 x4 ku, c_A x1 c1 1024 m1, c_A x2 c2 256 m2, c_A x3 c3 9 m3, c_A x4 c4 9 m4]) [5, 6, 7, 8, 9] rfl
  have hDc := hD.sub (ws' := [c_X x0 x1 x2 x3 x4 ku, c_A x1 c1 1024 m1, c_A x2 c2 256 m2, c_A x3 c3 9 m3, c_A x4 c4 9 m4]) [5, 6, 7, 8, 9] (by decide) rfl
  have hKc := hK.sub (tys' := [(c1, .int), (c2, .int), (c3, .int), (c4, .int)]) [2, 3, 4, 5] rfl
  have hFc := va_free (wc := [c_X x0 x1 x2 x3 x4 ku, c_A x1 c1 1024 m1, c_A x2 c2 256 m2, c_A x3 c3 9 m3, c_A x4 c4 9 m4]) hD hS hA [5, 6, 7, 8, 9] rfl
  refine va_calli (va_runV (As := [.int (xs ((nI (6 * j)) + (1 : Int32)).toNatClampNeg)]) (rest := []) ⟨hx, hb, hml, hown, htB⟩ (c_X_run l dC dI z0 x0 x1 x2 x3 x4 c1 c2 c3 c4 H.size (xs ((nI (6 * j)) + (1 : Int32)).toNatClampNeg) ku m1 m2 m3 m4 hR.2.1) (cwV 1 htB (gd_V mw_540 mw_541 mw_542 mw_4 mw_543) rfl rfl rfl (by decide +kernel) ⟨Nat.le_of_ble_eq_true rfl, Nat.le_of_ble_eq_true rfl⟩) (pcx_V (va_recv hKc hPc (ci := 3) (q0 := 0) rfl rfl) hPc hKc hDc hA0 hE hS) rfl rfl hl.1 rfl (lv_room (Nat.le_of_ble_eq_true rfl)) d_L_law_513 ⟨by show _ ≤ 1041; omega, by show _ ≤ 10842; omega⟩) hS (fun q _ h => hFc q h) hFc (fun r9 u t H1 locs ht hvm hw hB hz1 hk1 hS => ?_)
  subst hw
  obtain ⟨hP1, hK1, hD1⟩ := hB
  rw [ht] at hP1
  obtain ⟨hP, hD⟩ := va_join (wr := [c_S qs q0 q1 ((f_S_run (xs ((nI (6 * j)) + (1 : Int32)).toNatClampNeg) g r k M D).2.2.1), c_P q0 q1 ((f_S_run (xs ((nI (6 * j)) + (1 : Int32)).toNatClampNeg) g r k M D).2.2.2.1), c_B q1 q2 q3 ((f_S_run (xs ((nI (6 * j)) + (1 : Int32)).toNatClampNeg) g r k M D).2.2.2.2.1), c_A q2 cM 1024 ((f_S_run (xs ((nI (6 * j)) + (1 : Int32)).toNatClampNeg) g r k M D).2.2.2.2.2.1), c_A q3 cD 256 ((f_S_run (xs ((nI (6 * j)) + (1 : Int32)).toNatClampNeg) g r k M D).2.2.2.2.2.2), c_L qo cO u9]) (w1 := [c_X x0 x1 x2 x3 x4 ((f_X_run (xs ((nI (6 * j)) + (1 : Int32)).toNatClampNeg) ku m1 m2 m3 m4).2.1), c_A x1 c1 1024 ((f_X_run (xs ((nI (6 * j)) + (1 : Int32)).toNatClampNeg) ku m1 m2 m3 m4).2.2.1), c_A x2 c2 256 ((f_X_run (xs ((nI (6 * j)) + (1 : Int32)).toNatClampNeg) ku m1 m2 m3 m4).2.2.2.1), c_A x3 c3 9 ((f_X_run (xs ((nI (6 * j)) + (1 : Int32)).toNatClampNeg) ku m1 m2 m3 m4).2.2.2.2.1), c_A x4 c4 9 ((f_X_run (xs ((nI (6 * j)) + (1 : Int32)).toNatClampNeg) ku m1 m2 m3 m4).2.2.2.2.2)]) hP hD [5, 6, 7, 8, 9] [0, 1, 2, 3, 4, 10] rfl rfl (by decide) (by decide) hk1 hFc hP1 hD1
  generalize H1 = H at hP hS ⊢
  have hP : va_P (dC, dI) classes [c_S qs q0 q1 ((f_S_run (xs ((nI (6 * j)) + (1 : Int32)).toNatClampNeg) g r k M D).2.2.1), c_P q0 q1 ((f_S_run (xs ((nI (6 * j)) + (1 : Int32)).toNatClampNeg) g r k M D).2.2.2.1), c_B q1 q2 q3 ((f_S_run (xs ((nI (6 * j)) + (1 : Int32)).toNatClampNeg) g r k M D).2.2.2.2.1), c_A q2 cM 1024 ((f_S_run (xs ((nI (6 * j)) + (1 : Int32)).toNatClampNeg) g r k M D).2.2.2.2.2.1), c_A q3 cD 256 ((f_S_run (xs ((nI (6 * j)) + (1 : Int32)).toNatClampNeg) g r k M D).2.2.2.2.2.2), c_X x0 x1 x2 x3 x4 ((f_X_run (xs ((nI (6 * j)) + (1 : Int32)).toNatClampNeg) ku m1 m2 m3 m4).2.1), c_A x1 c1 1024 ((f_X_run (xs ((nI (6 * j)) + (1 : Int32)).toNatClampNeg) ku m1 m2 m3 m4).2.2.1), c_A x2 c2 256 ((f_X_run (xs ((nI (6 * j)) + (1 : Int32)).toNatClampNeg) ku m1 m2 m3 m4).2.2.2.1), c_A x3 c3 9 ((f_X_run (xs ((nI (6 * j)) + (1 : Int32)).toNatClampNeg) ku m1 m2 m3 m4).2.2.2.2.1), c_A x4 c4 9 ((f_X_run (xs ((nI (6 * j)) + (1 : Int32)).toNatClampNeg) ku m1 m2 m3 m4).2.2.2.2.2), c_L qo cO u9] H := hP.sub [0, 1, 2, 3, 4, 6, 7, 8, 9, 10, 5] rfl
  have hD : va_D A [c_S qs q0 q1 ((f_S_run (xs ((nI (6 * j)) + (1 : Int32)).toNatClampNeg) g r k M D).2.2.1), c_P q0 q1 ((f_S_run (xs ((nI (6 * j)) + (1 : Int32)).toNatClampNeg) g r k M D).2.2.2.1), c_B q1 q2 q3 ((f_S_run (xs ((nI (6 * j)) + (1 : Int32)).toNatClampNeg) g r k M D).2.2.2.2.1), c_A q2 cM 1024 ((f_S_run (xs ((nI (6 * j)) + (1 : Int32)).toNatClampNeg) g r k M D).2.2.2.2.2.1), c_A q3 cD 256 ((f_S_run (xs ((nI (6 * j)) + (1 : Int32)).toNatClampNeg) g r k M D).2.2.2.2.2.2), c_X x0 x1 x2 x3 x4 ((f_X_run (xs ((nI (6 * j)) + (1 : Int32)).toNatClampNeg) ku m1 m2 m3 m4).2.1), c_A x1 c1 1024 ((f_X_run (xs ((nI (6 * j)) + (1 : Int32)).toNatClampNeg) ku m1 m2 m3 m4).2.2.1), c_A x2 c2 256 ((f_X_run (xs ((nI (6 * j)) + (1 : Int32)).toNatClampNeg) ku m1 m2 m3 m4).2.2.2.1), c_A x3 c3 9 ((f_X_run (xs ((nI (6 * j)) + (1 : Int32)).toNatClampNeg) ku m1 m2 m3 m4).2.2.2.2.1), c_A x4 c4 9 ((f_X_run (xs ((nI (6 * j)) + (1 : Int32)).toNatClampNeg) ku m1 m2 m3 m4).2.2.2.2.2), c_L qo cO u9] := hD.sub [0, 1, 2, 3, 4, 6, 7, 8, 9, 10, 5] (by decide) rfl
  refine lv_istore (lv' := [(6, .int ((f_X_run (xs ((nI (6 * j)) + (1 : Int32)).toNatClampNeg) ku m1 m2 m3 m4).1)), (5, .int (nI ((f_S_run (xs ((nI (6 * j)) + (1 : Int32)).toNatClampNeg) g r k M D).1))), (4, .int (nI (6 * j))), (0, .ref b), (1, .ref qs), (2, .ref x0), (3, .ref qo)]) hx hb d_L_law_516 hl (by decide) rfl (fun ls hl => ?_)
  refine lv_aload_n hx hb d_L_law_518 rfl (lv_at hl 5 rfl) ?_
  have hPc := hP.sub (ws' := [c_X x0 x1 x2 x3 x4 ((f_X_run (xs ((nI (6 * j)) + (1 : Int32)).toNatClampNeg) ku m1 m2 m3 m4).2.1)]) [5] rfl
  have hDc := hD.sub (ws' := [c_X x0 x1 x2 x3 x4 ((f_X_run (xs ((nI (6 * j)) + (1 : Int32)).toNatClampNeg) ku m1 m2 m3 m4).2.1)]) [5] (by decide) rfl
  have hKc := hK.sub (tys' := []) [] rfl
  have hFc := va_free (wc := [c_X x0 x1 x2 x3 x4 ((f_X_run (xs ((nI (6 * j)) + (1 : Int32)).toNatClampNeg) ku m1 m2 m3 m4).2.1)]) hD hS hA [5] rfl
  refine va_calli (va_runV (As := []) (rest := []) ⟨hx, hb, hml, hown, htB⟩ (c_X_thrown l dC dI z0 x0 x1 x2 x3 x4 H.size ((f_X_run (xs ((nI (6 * j)) + (1 : Int32)).toNatClampNeg) ku m1 m2 m3 m4).2.1)) (cwV 0 htB (gd_V mw_501 mw_502 mw_503 mw_4 mw_504) rfl rfl rfl (by decide +kernel) ⟨Nat.le_of_ble_eq_true rfl, Nat.le_of_ble_eq_true rfl⟩) (pcx_V (va_recv hKc hPc (ci := 3) (q0 := 0) rfl rfl) hPc hKc hDc hA0 hE hS) rfl rfl hl.1 rfl (lv_room (Nat.le_of_ble_eq_true rfl)) d_L_law_519 ⟨by show _ ≤ 1041; omega, by show _ ≤ 10842; omega⟩) hS (fun q _ h => hFc q h) hFc (fun r9 u t H1 locs ht hvm hw hB hz1 hk1 hS => ?_)
  subst hw
  obtain ⟨hP1, hK1, hD1⟩ := hB
  rw [ht] at hP1
  obtain ⟨hP, hD⟩ := va_join (wr := [c_S qs q0 q1 ((f_S_run (xs ((nI (6 * j)) + (1 : Int32)).toNatClampNeg) g r k M D).2.2.1), c_P q0 q1 ((f_S_run (xs ((nI (6 * j)) + (1 : Int32)).toNatClampNeg) g r k M D).2.2.2.1), c_B q1 q2 q3 ((f_S_run (xs ((nI (6 * j)) + (1 : Int32)).toNatClampNeg) g r k M D).2.2.2.2.1), c_A q2 cM 1024 ((f_S_run (xs ((nI (6 * j)) + (1 : Int32)).toNatClampNeg) g r k M D).2.2.2.2.2.1), c_A q3 cD 256 ((f_S_run (xs ((nI (6 * j)) + (1 : Int32)).toNatClampNeg) g r k M D).2.2.2.2.2.2), c_A x1 c1 1024 ((f_X_run (xs ((nI (6 * j)) + (1 : Int32)).toNatClampNeg) ku m1 m2 m3 m4).2.2.1), c_A x2 c2 256 ((f_X_run (xs ((nI (6 * j)) + (1 : Int32)).toNatClampNeg) ku m1 m2 m3 m4).2.2.2.1), c_A x3 c3 9 ((f_X_run (xs ((nI (6 * j)) + (1 : Int32)).toNatClampNeg) ku m1 m2 m3 m4).2.2.2.2.1), c_A x4 c4 9 ((f_X_run (xs ((nI (6 * j)) + (1 : Int32)).toNatClampNeg) ku m1 m2 m3 m4).2.2.2.2.2), c_L qo cO u9]) (w1 := [c_X x0 x1 x2 x3 x4 ((f_X_run (xs ((nI (6 * j)) + (1 : Int32)).toNatClampNeg) ku m1 m2 m3 m4).2.1)]) hP hD [5] [0, 1, 2, 3, 4, 6, 7, 8, 9, 10] rfl rfl (by decide) (by decide) hk1 hFc hP1 hD1
  generalize H1 = H at hP hS ⊢
  have hP : va_P (dC, dI) classes [c_S qs q0 q1 ((f_S_run (xs ((nI (6 * j)) + (1 : Int32)).toNatClampNeg) g r k M D).2.2.1), c_P q0 q1 ((f_S_run (xs ((nI (6 * j)) + (1 : Int32)).toNatClampNeg) g r k M D).2.2.2.1), c_B q1 q2 q3 ((f_S_run (xs ((nI (6 * j)) + (1 : Int32)).toNatClampNeg) g r k M D).2.2.2.2.1), c_A q2 cM 1024 ((f_S_run (xs ((nI (6 * j)) + (1 : Int32)).toNatClampNeg) g r k M D).2.2.2.2.2.1), c_A q3 cD 256 ((f_S_run (xs ((nI (6 * j)) + (1 : Int32)).toNatClampNeg) g r k M D).2.2.2.2.2.2), c_X x0 x1 x2 x3 x4 ((f_X_run (xs ((nI (6 * j)) + (1 : Int32)).toNatClampNeg) ku m1 m2 m3 m4).2.1), c_A x1 c1 1024 ((f_X_run (xs ((nI (6 * j)) + (1 : Int32)).toNatClampNeg) ku m1 m2 m3 m4).2.2.1), c_A x2 c2 256 ((f_X_run (xs ((nI (6 * j)) + (1 : Int32)).toNatClampNeg) ku m1 m2 m3 m4).2.2.2.1), c_A x3 c3 9 ((f_X_run (xs ((nI (6 * j)) + (1 : Int32)).toNatClampNeg) ku m1 m2 m3 m4).2.2.2.2.1), c_A x4 c4 9 ((f_X_run (xs ((nI (6 * j)) + (1 : Int32)).toNatClampNeg) ku m1 m2 m3 m4).2.2.2.2.2), c_L qo cO u9] H := hP.sub [0, 1, 2, 3, 4, 10, 5, 6, 7, 8, 9] rfl
  have hD : va_D A [c_S qs q0 q1 ((f_S_run (xs ((nI (6 * j)) + (1 : Int32)).toNatClampNeg) g r k M D).2.2.1), c_P q0 q1 ((f_S_run (xs ((nI (6 * j)) + (1 : Int32)).toNatClampNeg) g r k M D).2.2.2.1), c_B q1 q2 q3 ((f_S_run (xs ((nI (6 * j)) + (1 : Int32)).toNatClampNeg) g r k M D).2.2.2.2.1), c_A q2 cM 1024 ((f_S_run (xs ((nI (6 * j)) + (1 : Int32)).toNatClampNeg) g r k M D).2.2.2.2.2.1), c_A q3 cD 256 ((f_S_run (xs ((nI (6 * j)) + (1 : Int32)).toNatClampNeg) g r k M D).2.2.2.2.2.2), c_X x0 x1 x2 x3 x4 ((f_X_run (xs ((nI (6 * j)) + (1 : Int32)).toNatClampNeg) ku m1 m2 m3 m4).2.1), c_A x1 c1 1024 ((f_X_run (xs ((nI (6 * j)) + (1 : Int32)).toNatClampNeg) ku m1 m2 m3 m4).2.2.1), c_A x2 c2 256 ((f_X_run (xs ((nI (6 * j)) + (1 : Int32)).toNatClampNeg) ku m1 m2 m3 m4).2.2.2.1), c_A x3 c3 9 ((f_X_run (xs ((nI (6 * j)) + (1 : Int32)).toNatClampNeg) ku m1 m2 m3 m4).2.2.2.2.1), c_A x4 c4 9 ((f_X_run (xs ((nI (6 * j)) + (1 : Int32)).toNatClampNeg) ku m1 m2 m3 m4).2.2.2.2.2), c_L qo cO u9] := hD.sub [0, 1, 2, 3, 4, 10, 5, 6, 7, 8, 9] (by decide) rfl
  refine lv_iload hx hb d_L_law_522 (lv_at hl 1 rfl) ?_
  refine lv_icmp_eq (tgt := 529) hx hb d_L_law_524 (by decide) (fun _ => ?_) (fun c9 => absurd hR.2.2.1 c9)
  refine lv_iload hx hb d_L_law_529 (lv_at hl 1 rfl) ?_
  refine lv_if_ne (tgt := 546) hx hb d_L_law_531 (by decide) (fun c_1 => ?_) (fun c_1 => ?_)
  · refine lv_goto (tgt := 729) hx hb d_L_law_546 (by decide) ?_
    refine W.widen (k := 11 + 2 * (j + 1)) (n := 2614 + 12 * (j + 1)) (by omega) (by omega) ?_
    exact kk _ _ _ _ _ _ _ _ _ _ _ H _ ls hR.2.2.2.2 hP hD hS (lv_sub hl [2, 3, 4, 5, 6] rfl)
  · refine lv_aload_n hx hb d_L_law_534 rfl (lv_at hl 6 rfl) ?_
    refine lv_iconst (v := 0) hx hb d_L_law_535 (by decide) ?_
    refine va_lald hx hb hK hP 10 6 rfl rfl (show ¬ ((0 : Int32) < 0 ∨ 1 ≤ (0 : Int32).toNatClampNeg) from by decide) d_L_law_536 ?_
    refine lv_iload hx hb d_L_law_537 (lv_at hl 0 rfl) ?_
    refine lv_i2l hx hb d_L_law_539 rfl ?_
    refine W.lcmp hx hb d_L_law_540 ?_
    have f0 := cd_0 le_run c_1
    refine lv_if_eq (tgt := 546) hx hb d_L_law_541 (by decide) (fun _ => ?_) (fun c9 => absurd (lg_eq ((hw2 f0).trans (congrArg Int32.toInt64 (hR.2.2.2.1 f0).symm))) c9)
    refine lv_goto (tgt := 729) hx hb d_L_law_546 (by decide) ?_
    refine W.widen (k := 11 + 2 * (j + 1)) (n := 2614 + 12 * (j + 1)) (by omega) (by omega) ?_
    exact kk _ _ _ _ _ _ _ _ _ _ _ H _ ls hR.2.2.2.2 hP hD hS (lv_sub hl [2, 3, 4, 5, 6] rfl)

set_option maxHeartbeats 4000000 in
set_option maxRecDepth 100000 in
theorem LW_6 {p : Program} {l : Launch} (hl9 : l.stackTraces = false) {e : Env} {s : State} {m : MethodId} {below : List Frame} {meth : Method} {c : Code} {A : Nat → Prop} {z0 : Nat} {dC : Nat → ClassId} {dI : Nat → Nat → Nat} {qs : Nat} {q0 : Nat} {q1 : Nat} {q2 : Nat} {q3 : Nat} {cM : ClassId} {cD : ClassId} {x0 : Nat} {x1 : Nat} {x2 : Nat} {x3 : Nat} {x4 : Nat} {c1 : ClassId} {c2 : ClassId} {c3 : ClassId} {c4 : ClassId} {qo : Nat} {cO : ClassId} {b L : Nat} {xs : Nat → Int32} (hx : p.tables.exec = Jvm.exec) (hb : c.code = code) (hml : c.maxLocals = 7) (hown : s.vm.findClass R_law = some m.cls) (htB : ∀ w ∈ BIG, w.before #[Value.ref b] s = true) (hX : va_X b L xs s s.heap) (hbl : b < s.heap.size) (hbA : ¬ A b) (hA : ∀ q : Nat, s.heap.size ≤ q → A q) (hA0 : ∀ q, A q → z0 ≤ q) (hE : EN z0 s) (hK : va_K (dC, dI) classes [(cM, .int), (cD, .int), (c1, .int), (c2, .int), (c3, .int), (c4, .int), (cO, .long)] s) (hL : L ≤ 3072) {Q : State → Prop} {j : Nat} (hj : 6 * j + 6 ≤ L) (kk : ∀ (g r k M D ku m1 m2 m3 m4 : Nat → Int32) (o : Nat → Int64) (H : Heap) (locs : List Loc) (ls : Array Slot), Rel g r k M D ku m1 m2 m3 → va_P (dC, dI) classes [c_S qs q0 q1 g, c_P q0 q1 r, c_B q1 q2 q3 k, c_A q2 cM 1024 M, c_A q3 cD 256 D, c_X x0 x1 x2 x3 x4 ku, c_A x1 c1 1024 m1, c_A x2 c2 256 m2, c_A x3 c3 9 m3, c_A x4 c4 9 m4, c_L qo cO o] H → va_D A [c_S qs q0 q1 g, c_P q0 q1 r, c_B q1 q2 q3 k, c_A q2 cM 1024 M, c_A q3 cD 256 D, c_X x0 x1 x2 x3 x4 ku, c_A x1 c1 1024 m1, c_A x2 c2 256 m2, c_A x3 c3 9 m3, c_A x4 c4 9 m4, c_L qo cO o] → va_S A s.heap H locs → lv_has ls 7 [(4, .int (nI (6 * j))), (0, .ref b), (1, .ref qs), (2, .ref x0), (3, .ref qo)] → W p l e room_1 s m #[Value.ref b] below meth c H locs (11 + 2 * (j + 1)) (2614 + 12 * (j + 1)) Q (F0 m 729 ls [])) {g r k M D ku m1 m2 m3 m4 : Nat → Int32} {o : Nat → Int64} {H : Heap} {locs : List Loc} {ls : Array Slot} (hrel : Rel g r k M D ku m1 m2 m3) (hP : va_P (dC, dI) classes [c_S qs q0 q1 g, c_P q0 q1 r, c_B q1 q2 q3 k, c_A q2 cM 1024 M, c_A q3 cD 256 D, c_X x0 x1 x2 x3 x4 ku, c_A x1 c1 1024 m1, c_A x2 c2 256 m2, c_A x3 c3 9 m3, c_A x4 c4 9 m4, c_L qo cO o] H) (hD : va_D A [c_S qs q0 q1 g, c_P q0 q1 r, c_B q1 q2 q3 k, c_A q2 cM 1024 M, c_A q3 cD 256 D, c_X x0 x1 x2 x3 x4 ku, c_A x1 c1 1024 m1, c_A x2 c2 256 m2, c_A x3 c3 9 m3, c_A x4 c4 9 m4, c_L qo cO o]) (hS : va_S A s.heap H locs) (hl : lv_has ls 7 [(4, .int (nI (6 * j))), (0, .ref b), (1, .ref qs), (2, .ref x0), (3, .ref qo)]) : W p l e room_1 s m #[Value.ref b] below meth c H locs (11 + 2 * j) (2614 + 12 * j) Q (F0 m 549 ls []) := by
  have h_1 : vp_in (nI (6 * j) + (1 : Int32)) L := sx_in (k := 1) hj (by decide) hL
  have h_2 : vp_in (nI (6 * j) + (2 : Int32)) L := sx_in (k := 2) hj (by decide) hL
  have h_3 : vp_in (nI (6 * j) + (3 : Int32)) L := sx_in (k := 3) hj (by decide) hL
  have h_4 : vp_in (nI (6 * j) + (4 : Int32)) L := sx_in (k := 4) hj (by decide) hL
  have h_5 : vp_in (nI (6 * j) + (5 : Int32)) L := sx_in (k := 5) hj (by decide) hL
  refine lv_aload_n hx hb d_L_law_549 rfl (lv_at hl 2 rfl) ?_
  refine lv_aload_n hx hb d_L_law_550 rfl (lv_at hl 1 rfl) ?_
  refine lv_iload hx hb d_L_law_551 (lv_at hl 0 rfl) ?_
  refine lv_iconst (v := 1) hx hb d_L_law_553 (by decide) ?_
  refine lv_iadd hx hb d_L_law_554 ?_
  refine va_sld hx hb hX hbl hbA hS h_1 d_L_law_555 ?_
  refine lv_aload_n hx hb d_L_law_556 rfl (lv_at hl 4 rfl) ?_
  have hR := peek_rel (p1 := (xs ((nI (6 * j)) + (1 : Int32)).toNatClampNeg)) hrel
  have hPc := hP.sub (ws' := [c_S qs q0 q1 g, c_P q0 q1 r, c_B q1 q2 q3 k, c_A q2 cM 1024 M, c_A q3 cD 256 D, c_L qo cO o]) [0, 1, 2, 3, 4, 10] rfl
  have hDc := hD.sub (ws' := [c_S qs q0 q1 g, c_P q0 q1 r, c_B q1 q2 q3 k, c_A q2 cM 1024 M, c_A q3 cD 256 D, c_L qo cO o]) [0, 1, 2, 3, 4, 10] (by decide) rfl
  have hKc := hK.sub (tys' := [(cM, .int), (cD, .int), (cO, .long)]) [0, 1, 6] rfl
  have hFc := va_free (wc := [c_S qs q0 q1 g, c_P q0 q1 r, c_B q1 q2 q3 k, c_A q2 cM 1024 M, c_A q3 cD 256 D, c_L qo cO o]) hD hS hA [0, 1, 2, 3, 4, 10] rfl
  refine va_calli (vx_runSW (As := [.ref qs, .int (xs ((nI (6 * j)) + (1 : Int32)).toNatClampNeg), .ref qo]) (rest := []) ⟨hx, hb, hml, hown, htB⟩ (c_L_peek l hl9 dC dI z0 qs q0 q1 q2 q3 cM cD qo cO H.size (xs ((nI (6 * j)) + (1 : Int32)).toNatClampNeg) g r k M D o) (vx_cwSW 3 htB (gd_SW mw_434 mw_435 mw_0 mw_436) rfl rfl rfl (by decide +kernel) ⟨Nat.le_of_ble_eq_true rfl, Nat.le_of_ble_eq_true rfl⟩) (pcx_S hPc hKc hDc hA0 hE hS) rfl rfl hl.1 rfl (lv_room (Nat.le_of_ble_eq_true rfl)) d_L_law_557 ⟨by show _ ≤ 1041; omega, by show _ ≤ 10842; omega⟩) hS (fun q _ h => hFc q h) hFc (fun r9 u9 t H1 locs ht hvm hw hB hz1 hk1 hS => ?_)
  obtain ⟨hw1, hw2⟩ := hw
  subst hw1
  obtain ⟨hP1, hK1, hD1⟩ := hB
  rw [ht] at hP1
  obtain ⟨hP, hD⟩ := va_join (wr := [c_X x0 x1 x2 x3 x4 ku, c_A x1 c1 1024 m1, c_A x2 c2 256 m2, c_A x3 c3 9 m3, c_A x4 c4 9 m4]) (w1 := [c_S qs q0 q1 g, c_P q0 q1 r, c_B q1 q2 q3 k, c_A q2 cM 1024 M, c_A q3 cD 256 D, c_L qo cO u9]) hP hD [0, 1, 2, 3, 4, 10] [5, 6, 7, 8, 9] rfl rfl (by decide) (by decide) hk1 hFc hP1 hD1
  generalize H1 = H at hP hS ⊢
  have hP : va_P (dC, dI) classes [c_S qs q0 q1 g, c_P q0 q1 r, c_B q1 q2 q3 k, c_A q2 cM 1024 M, c_A q3 cD 256 D, c_X x0 x1 x2 x3 x4 ku, c_A x1 c1 1024 m1, c_A x2 c2 256 m2, c_A x3 c3 9 m3, c_A x4 c4 9 m4, c_L qo cO u9] H := hP.sub [5, 6, 7, 8, 9, 0, 1, 2, 3, 4, 10] rfl
  have hD : va_D A [c_S qs q0 q1 g, c_P q0 q1 r, c_B q1 q2 q3 k, c_A q2 cM 1024 M, c_A q3 cD 256 D, c_X x0 x1 x2 x3 x4 ku, c_A x1 c1 1024 m1, c_A x2 c2 256 m2, c_A x3 c3 9 m3, c_A x4 c4 9 m4, c_L qo cO u9] := hD.sub [5, 6, 7, 8, 9, 0, 1, 2, 3, 4, 10] (by decide) rfl
  refine lv_istore (lv' := [(5, .int (nI ((f_S_peek (xs ((nI (6 * j)) + (1 : Int32)).toNatClampNeg) g r k M D).1))), (4, .int (nI (6 * j))), (0, .ref b), (1, .ref qs), (2, .ref x0), (3, .ref qo)]) hx hb d_L_law_560 hl (by decide) rfl (fun ls hl => ?_)
  refine lv_aload_n hx hb d_L_law_562 rfl (lv_at hl 4 rfl) ?_
  refine lv_aload_n hx hb d_L_law_563 rfl (lv_at hl 2 rfl) ?_
  refine lv_iload hx hb d_L_law_564 (lv_at hl 1 rfl) ?_
  refine lv_iconst (v := 1) hx hb d_L_law_566 (by decide) ?_
  refine lv_iadd hx hb d_L_law_567 ?_
  refine va_sld hx hb hX hbl hbA hS h_1 d_L_law_568 ?_
  have hPc := hP.sub (ws' := [c_X x0 x1 x2 x3 x4 ku, c_A x1 c1 1024 m1]) [5, 6] rfl
  have hDc := hD.sub (ws' := [c_X x0 x1 x2 x3 x4 ku, c_A x1 c1 1024 m1]) [5, 6] (by decide) rfl
  have hKc := hK.sub (tys' := [(c1, .int)]) [2] rfl
  have hFc := va_free (wc := [c_X x0 x1 x2 x3 x4 ku, c_A x1 c1 1024 m1]) hD hS hA [5, 6] rfl
  refine va_calli (va_runV (As := [.int (xs ((nI (6 * j)) + (1 : Int32)).toNatClampNeg)]) (rest := []) ⟨hx, hb, hml, hown, htB⟩ (c_X_peek l dC dI z0 x0 x1 x2 x3 x4 c1 H.size (xs ((nI (6 * j)) + (1 : Int32)).toNatClampNeg) ku m1) (cwV 1 htB (gd_V mw_635 mw_636 mw_637 mw_4 mw_638) rfl rfl rfl (by decide +kernel) ⟨Nat.le_of_ble_eq_true rfl, Nat.le_of_ble_eq_true rfl⟩) (pcx_V (va_recv hKc hPc (ci := 3) (q0 := 0) rfl rfl) hPc hKc hDc hA0 hE hS) rfl rfl hl.1 rfl (lv_room (Nat.le_of_ble_eq_true rfl)) d_L_law_569 ⟨by show _ ≤ 1041; omega, by show _ ≤ 10842; omega⟩) hS (fun q _ h => hFc q h) hFc (fun r9 u t H1 locs ht hvm hw hB hz1 hk1 hS => ?_)
  subst hw
  obtain ⟨hP1, hK1, hD1⟩ := hB
  rw [ht] at hP1
  obtain ⟨hP, hD⟩ := va_join (wr := [c_S qs q0 q1 g, c_P q0 q1 r, c_B q1 q2 q3 k, c_A q2 cM 1024 M, c_A q3 cD 256 D, c_A x2 c2 256 m2, c_A x3 c3 9 m3, c_A x4 c4 9 m4, c_L qo cO u9]) (w1 := [c_X x0 x1 x2 x3 x4 ((f_X_peek (xs ((nI (6 * j)) + (1 : Int32)).toNatClampNeg) ku m1).2), c_A x1 c1 1024 m1]) hP hD [5, 6] [0, 1, 2, 3, 4, 7, 8, 9, 10] rfl rfl (by decide) (by decide) hk1 hFc hP1 hD1
  generalize H1 = H at hP hS ⊢
  have hP : va_P (dC, dI) classes [c_S qs q0 q1 g, c_P q0 q1 r, c_B q1 q2 q3 k, c_A q2 cM 1024 M, c_A q3 cD 256 D, c_X x0 x1 x2 x3 x4 ((f_X_peek (xs ((nI (6 * j)) + (1 : Int32)).toNatClampNeg) ku m1).2), c_A x1 c1 1024 m1, c_A x2 c2 256 m2, c_A x3 c3 9 m3, c_A x4 c4 9 m4, c_L qo cO u9] H := hP.sub [0, 1, 2, 3, 4, 9, 10, 5, 6, 7, 8] rfl
  have hD : va_D A [c_S qs q0 q1 g, c_P q0 q1 r, c_B q1 q2 q3 k, c_A q2 cM 1024 M, c_A q3 cD 256 D, c_X x0 x1 x2 x3 x4 ((f_X_peek (xs ((nI (6 * j)) + (1 : Int32)).toNatClampNeg) ku m1).2), c_A x1 c1 1024 m1, c_A x2 c2 256 m2, c_A x3 c3 9 m3, c_A x4 c4 9 m4, c_L qo cO u9] := hD.sub [0, 1, 2, 3, 4, 9, 10, 5, 6, 7, 8] (by decide) rfl
  refine lv_istore (lv' := [(6, .int ((f_X_peek (xs ((nI (6 * j)) + (1 : Int32)).toNatClampNeg) ku m1).1)), (5, .int (nI ((f_S_peek (xs ((nI (6 * j)) + (1 : Int32)).toNatClampNeg) g r k M D).1))), (4, .int (nI (6 * j))), (0, .ref b), (1, .ref qs), (2, .ref x0), (3, .ref qo)]) hx hb d_L_law_572 hl (by decide) rfl (fun ls hl => ?_)
  refine lv_aload_n hx hb d_L_law_574 rfl (lv_at hl 5 rfl) ?_
  have hPc := hP.sub (ws' := [c_X x0 x1 x2 x3 x4 ((f_X_peek (xs ((nI (6 * j)) + (1 : Int32)).toNatClampNeg) ku m1).2)]) [5] rfl
  have hDc := hD.sub (ws' := [c_X x0 x1 x2 x3 x4 ((f_X_peek (xs ((nI (6 * j)) + (1 : Int32)).toNatClampNeg) ku m1).2)]) [5] (by decide) rfl
  have hKc := hK.sub (tys' := []) [] rfl
  have hFc := va_free (wc := [c_X x0 x1 x2 x3 x4 ((f_X_peek (xs ((nI (6 * j)) + (1 : Int32)).toNatClampNeg) ku m1).2)]) hD hS hA [5] rfl
  refine va_calli (va_runV (As := []) (rest := []) ⟨hx, hb, hml, hown, htB⟩ (c_X_thrown l dC dI z0 x0 x1 x2 x3 x4 H.size ((f_X_peek (xs ((nI (6 * j)) + (1 : Int32)).toNatClampNeg) ku m1).2)) (cwV 0 htB (gd_V mw_501 mw_502 mw_503 mw_4 mw_504) rfl rfl rfl (by decide +kernel) ⟨Nat.le_of_ble_eq_true rfl, Nat.le_of_ble_eq_true rfl⟩) (pcx_V (va_recv hKc hPc (ci := 3) (q0 := 0) rfl rfl) hPc hKc hDc hA0 hE hS) rfl rfl hl.1 rfl (lv_room (Nat.le_of_ble_eq_true rfl)) d_L_law_575 ⟨by show _ ≤ 1041; omega, by show _ ≤ 10842; omega⟩) hS (fun q _ h => hFc q h) hFc (fun r9 u t H1 locs ht hvm hw hB hz1 hk1 hS => ?_)
  subst hw
  obtain ⟨hP1, hK1, hD1⟩ := hB
  rw [ht] at hP1
  obtain ⟨hP, hD⟩ := va_join (wr := [c_S qs q0 q1 g, c_P q0 q1 r, c_B q1 q2 q3 k, c_A q2 cM 1024 M, c_A q3 cD 256 D, c_A x1 c1 1024 m1, c_A x2 c2 256 m2, c_A x3 c3 9 m3, c_A x4 c4 9 m4, c_L qo cO u9]) (w1 := [c_X x0 x1 x2 x3 x4 ((f_X_peek (xs ((nI (6 * j)) + (1 : Int32)).toNatClampNeg) ku m1).2)]) hP hD [5] [0, 1, 2, 3, 4, 6, 7, 8, 9, 10] rfl rfl (by decide) (by decide) hk1 hFc hP1 hD1
  generalize H1 = H at hP hS ⊢
  have hP : va_P (dC, dI) classes [c_S qs q0 q1 g, c_P q0 q1 r, c_B q1 q2 q3 k, c_A q2 cM 1024 M, c_A q3 cD 256 D, c_X x0 x1 x2 x3 x4 ((f_X_peek (xs ((nI (6 * j)) + (1 : Int32)).toNatClampNeg) ku m1).2), c_A x1 c1 1024 m1, c_A x2 c2 256 m2, c_A x3 c3 9 m3, c_A x4 c4 9 m4, c_L qo cO u9] H := hP.sub [0, 1, 2, 3, 4, 10, 5, 6, 7, 8, 9] rfl
  have hD : va_D A [c_S qs q0 q1 g, c_P q0 q1 r, c_B q1 q2 q3 k, c_A q2 cM 1024 M, c_A q3 cD 256 D, c_X x0 x1 x2 x3 x4 ((f_X_peek (xs ((nI (6 * j)) + (1 : Int32)).toNatClampNeg) ku m1).2), c_A x1 c1 1024 m1, c_A x2 c2 256 m2, c_A x3 c3 9 m3, c_A x4 c4 9 m4, c_L qo cO u9] := hD.sub [0, 1, 2, 3, 4, 10, 5, 6, 7, 8, 9] (by decide) rfl
  refine lv_iload hx hb d_L_law_578 (lv_at hl 1 rfl) ?_
  refine lv_icmp_eq (tgt := 585) hx hb d_L_law_580 (by decide) (fun _ => ?_) (fun c9 => absurd hR.1 c9)
  refine lv_iload hx hb d_L_law_585 (lv_at hl 1 rfl) ?_
  refine lv_if_ne (tgt := 602) hx hb d_L_law_587 (by decide) (fun c_1 => ?_) (fun c_1 => ?_)
  · refine lv_goto (tgt := 729) hx hb d_L_law_602 (by decide) ?_
    refine W.widen (k := 11 + 2 * (j + 1)) (n := 2614 + 12 * (j + 1)) (by omega) (by omega) ?_
    exact kk _ _ _ _ _ _ _ _ _ _ _ H _ ls hR.2.2 hP hD hS (lv_sub hl [2, 3, 4, 5, 6] rfl)
  · refine lv_aload_n hx hb d_L_law_590 rfl (lv_at hl 6 rfl) ?_
    refine lv_iconst (v := 0) hx hb d_L_law_591 (by decide) ?_
    refine va_lald hx hb hK hP 10 6 rfl rfl (show ¬ ((0 : Int32) < 0 ∨ 1 ≤ (0 : Int32).toNatClampNeg) from by decide) d_L_law_592 ?_
    refine lv_iload hx hb d_L_law_593 (lv_at hl 0 rfl) ?_
    refine lv_i2l hx hb d_L_law_595 rfl ?_
    refine W.lcmp hx hb d_L_law_596 ?_
    have f0 := cd_0 le_peek c_1
    refine lv_if_eq (tgt := 602) hx hb d_L_law_597 (by decide) (fun _ => ?_) (fun c9 => absurd (lg_eq ((hw2 f0).trans (congrArg Int32.toInt64 (hR.2.1 f0).symm))) c9)
    refine lv_goto (tgt := 729) hx hb d_L_law_602 (by decide) ?_
    refine W.widen (k := 11 + 2 * (j + 1)) (n := 2614 + 12 * (j + 1)) (by omega) (by omega) ?_
    exact kk _ _ _ _ _ _ _ _ _ _ _ H _ ls hR.2.2 hP hD hS (lv_sub hl [2, 3, 4, 5, 6] rfl)

set_option maxHeartbeats 4000000 in
set_option maxRecDepth 100000 in
theorem LW_7 {p : Program} {l : Launch} (hl9 : l.stackTraces = false) {e : Env} {s : State} {m : MethodId} {below : List Frame} {meth : Method} {c : Code} {A : Nat → Prop} {z0 : Nat} {dC : Nat → ClassId} {dI : Nat → Nat → Nat} {qs : Nat} {q0 : Nat} {q1 : Nat} {q2 : Nat} {q3 : Nat} {cM : ClassId} {cD : ClassId} {x0 : Nat} {x1 : Nat} {x2 : Nat} {x3 : Nat} {x4 : Nat} {c1 : ClassId} {c2 : ClassId} {c3 : ClassId} {c4 : ClassId} {qo : Nat} {cO : ClassId} {b L : Nat} {xs : Nat → Int32} (hx : p.tables.exec = Jvm.exec) (hb : c.code = code) (hml : c.maxLocals = 7) (hown : s.vm.findClass R_law = some m.cls) (htB : ∀ w ∈ BIG, w.before #[Value.ref b] s = true) (hX : va_X b L xs s s.heap) (hbl : b < s.heap.size) (hbA : ¬ A b) (hA : ∀ q : Nat, s.heap.size ≤ q → A q) (hA0 : ∀ q, A q → z0 ≤ q) (hE : EN z0 s) (hK : va_K (dC, dI) classes [(cM, .int), (cD, .int), (c1, .int), (c2, .int), (c3, .int), (c4, .int), (cO, .long)] s) (hL : L ≤ 3072) {Q : State → Prop} {j : Nat} (hj : 6 * j + 6 ≤ L) (kk : ∀ (g r k M D ku m1 m2 m3 m4 : Nat → Int32) (o : Nat → Int64) (H : Heap) (locs : List Loc) (ls : Array Slot), Rel g r k M D ku m1 m2 m3 → va_P (dC, dI) classes [c_S qs q0 q1 g, c_P q0 q1 r, c_B q1 q2 q3 k, c_A q2 cM 1024 M, c_A q3 cD 256 D, c_X x0 x1 x2 x3 x4 ku, c_A x1 c1 1024 m1, c_A x2 c2 256 m2, c_A x3 c3 9 m3, c_A x4 c4 9 m4, c_L qo cO o] H → va_D A [c_S qs q0 q1 g, c_P q0 q1 r, c_B q1 q2 q3 k, c_A q2 cM 1024 M, c_A q3 cD 256 D, c_X x0 x1 x2 x3 x4 ku, c_A x1 c1 1024 m1, c_A x2 c2 256 m2, c_A x3 c3 9 m3, c_A x4 c4 9 m4, c_L qo cO o] → va_S A s.heap H locs → lv_has ls 7 [(4, .int (nI (6 * j))), (0, .ref b), (1, .ref qs), (2, .ref x0), (3, .ref qo)] → W p l e room_1 s m #[Value.ref b] below meth c H locs (11 + 2 * (j + 1)) (2614 + 12 * (j + 1)) Q (F0 m 729 ls [])) {g r k M D ku m1 m2 m3 m4 : Nat → Int32} {o : Nat → Int64} {H : Heap} {locs : List Loc} {ls : Array Slot} (hrel : Rel g r k M D ku m1 m2 m3) (hP : va_P (dC, dI) classes [c_S qs q0 q1 g, c_P q0 q1 r, c_B q1 q2 q3 k, c_A q2 cM 1024 M, c_A q3 cD 256 D, c_X x0 x1 x2 x3 x4 ku, c_A x1 c1 1024 m1, c_A x2 c2 256 m2, c_A x3 c3 9 m3, c_A x4 c4 9 m4, c_L qo cO o] H) (hD : va_D A [c_S qs q0 q1 g, c_P q0 q1 r, c_B q1 q2 q3 k, c_A q2 cM 1024 M, c_A q3 cD 256 D, c_X x0 x1 x2 x3 x4 ku, c_A x1 c1 1024 m1, c_A x2 c2 256 m2, c_A x3 c3 9 m3, c_A x4 c4 9 m4, c_L qo cO o]) (hS : va_S A s.heap H locs) (hl : lv_has ls 7 [(4, .int (nI (6 * j))), (0, .ref b), (1, .ref qs), (2, .ref x0), (3, .ref qo)]) : W p l e room_1 s m #[Value.ref b] below meth c H locs (11 + 2 * j) (2614 + 12 * j) Q (F0 m 605 ls []) := by
  have h_1 : vp_in (nI (6 * j) + (1 : Int32)) L := sx_in (k := 1) hj (by decide) hL
  have h_2 : vp_in (nI (6 * j) + (2 : Int32)) L := sx_in (k := 2) hj (by decide) hL
  have h_3 : vp_in (nI (6 * j) + (3 : Int32)) L := sx_in (k := 3) hj (by decide) hL
  have h_4 : vp_in (nI (6 * j) + (4 : Int32)) L := sx_in (k := 4) hj (by decide) hL
  have h_5 : vp_in (nI (6 * j) + (5 : Int32)) L := sx_in (k := 5) hj (by decide) hL
  refine lv_aload_n hx hb d_L_law_605 rfl (lv_at hl 2 rfl) ?_
  refine lv_aload_n hx hb d_L_law_606 rfl (lv_at hl 1 rfl) ?_
  refine lv_iload hx hb d_L_law_607 (lv_at hl 0 rfl) ?_
  refine lv_iconst (v := 1) hx hb d_L_law_609 (by decide) ?_
  refine lv_iadd hx hb d_L_law_610 ?_
  refine va_sld hx hb hX hbl hbA hS h_1 d_L_law_611 ?_
  refine lv_aload_n hx hb d_L_law_612 rfl (lv_at hl 4 rfl) ?_
  have hR := get_rel (p1 := (xs ((nI (6 * j)) + (1 : Int32)).toNatClampNeg)) hrel
  have hPc := hP.sub (ws' := [c_S qs q0 q1 g, c_P q0 q1 r, c_B q1 q2 q3 k, c_A q2 cM 1024 M, c_A q3 cD 256 D, c_L qo cO o]) [0, 1, 2, 3, 4, 10] rfl
  have hDc := hD.sub (ws' := [c_S qs q0 q1 g, c_P q0 q1 r, c_B q1 q2 q3 k, c_A q2 cM 1024 M, c_A q3 cD 256 D, c_L qo cO o]) [0, 1, 2, 3, 4, 10] (by decide) rfl
  have hKc := hK.sub (tys' := [(cM, .int), (cD, .int), (cO, .long)]) [0, 1, 6] rfl
  have hFc := va_free (wc := [c_S qs q0 q1 g, c_P q0 q1 r, c_B q1 q2 q3 k, c_A q2 cM 1024 M, c_A q3 cD 256 D, c_L qo cO o]) hD hS hA [0, 1, 2, 3, 4, 10] rfl
  refine va_calli (vx_runSW (As := [.ref qs, .int (xs ((nI (6 * j)) + (1 : Int32)).toNatClampNeg), .ref qo]) (rest := []) ⟨hx, hb, hml, hown, htB⟩ (c_L_get l hl9 dC dI z0 qs q0 q1 q2 q3 cM cD qo cO H.size (xs ((nI (6 * j)) + (1 : Int32)).toNatClampNeg) g r k M D o) (vx_cwSW 3 htB (gd_SW mw_441 mw_442 mw_0 mw_443) rfl rfl rfl (by decide +kernel) ⟨Nat.le_of_ble_eq_true rfl, Nat.le_of_ble_eq_true rfl⟩) (pcx_S hPc hKc hDc hA0 hE hS) rfl rfl hl.1 rfl (lv_room (Nat.le_of_ble_eq_true rfl)) d_L_law_613 ⟨by show _ ≤ 1041; omega, by show _ ≤ 10842; omega⟩) hS (fun q _ h => hFc q h) hFc (fun r9 u9 t H1 locs ht hvm hw hB hz1 hk1 hS => ?_)
  obtain ⟨hw1, hw2⟩ := hw
  subst hw1
  obtain ⟨hP1, hK1, hD1⟩ := hB
  rw [ht] at hP1
  obtain ⟨hP, hD⟩ := va_join (wr := [c_X x0 x1 x2 x3 x4 ku, c_A x1 c1 1024 m1, c_A x2 c2 256 m2, c_A x3 c3 9 m3, c_A x4 c4 9 m4]) (w1 := [c_S qs q0 q1 g, c_P q0 q1 r, c_B q1 q2 q3 k, c_A q2 cM 1024 M, c_A q3 cD 256 D, c_L qo cO u9]) hP hD [0, 1, 2, 3, 4, 10] [5, 6, 7, 8, 9] rfl rfl (by decide) (by decide) hk1 hFc hP1 hD1
  generalize H1 = H at hP hS ⊢
  have hP : va_P (dC, dI) classes [c_S qs q0 q1 g, c_P q0 q1 r, c_B q1 q2 q3 k, c_A q2 cM 1024 M, c_A q3 cD 256 D, c_X x0 x1 x2 x3 x4 ku, c_A x1 c1 1024 m1, c_A x2 c2 256 m2, c_A x3 c3 9 m3, c_A x4 c4 9 m4, c_L qo cO u9] H := hP.sub [5, 6, 7, 8, 9, 0, 1, 2, 3, 4, 10] rfl
  have hD : va_D A [c_S qs q0 q1 g, c_P q0 q1 r, c_B q1 q2 q3 k, c_A q2 cM 1024 M, c_A q3 cD 256 D, c_X x0 x1 x2 x3 x4 ku, c_A x1 c1 1024 m1, c_A x2 c2 256 m2, c_A x3 c3 9 m3, c_A x4 c4 9 m4, c_L qo cO u9] := hD.sub [5, 6, 7, 8, 9, 0, 1, 2, 3, 4, 10] (by decide) rfl
  refine lv_istore (lv' := [(5, .int (nI ((f_S_get (xs ((nI (6 * j)) + (1 : Int32)).toNatClampNeg) g r k M D).1))), (4, .int (nI (6 * j))), (0, .ref b), (1, .ref qs), (2, .ref x0), (3, .ref qo)]) hx hb d_L_law_616 hl (by decide) rfl (fun ls hl => ?_)
  refine lv_aload_n hx hb d_L_law_618 rfl (lv_at hl 4 rfl) ?_
  refine lv_aload_n hx hb d_L_law_619 rfl (lv_at hl 2 rfl) ?_
  refine lv_iload hx hb d_L_law_620 (lv_at hl 1 rfl) ?_
  refine lv_iconst (v := 1) hx hb d_L_law_622 (by decide) ?_
  refine lv_iadd hx hb d_L_law_623 ?_
  refine va_sld hx hb hX hbl hbA hS h_1 d_L_law_624 ?_
  have hPc := hP.sub (ws' := [c_X x0 x1 x2 x3 x4 ku, c_A x3 c3 9 m3]) [5, 8] rfl
  have hDc := hD.sub (ws' := [c_X x0 x1 x2 x3 x4 ku, c_A x3 c3 9 m3]) [5, 8] (by decide) rfl
  have hKc := hK.sub (tys' := [(c3, .int)]) [4] rfl
  have hFc := va_free (wc := [c_X x0 x1 x2 x3 x4 ku, c_A x3 c3 9 m3]) hD hS hA [5, 8] rfl
  refine va_calli (va_runV (As := [.int (xs ((nI (6 * j)) + (1 : Int32)).toNatClampNeg)]) (rest := []) ⟨hx, hb, hml, hown, htB⟩ (c_X_get l dC dI z0 x0 x1 x2 x3 x4 c3 H.size (xs ((nI (6 * j)) + (1 : Int32)).toNatClampNeg) ku m3) (cwV 1 htB (gd_V mw_639 mw_640 mw_641 mw_4 mw_642) rfl rfl rfl (by decide +kernel) ⟨Nat.le_of_ble_eq_true rfl, Nat.le_of_ble_eq_true rfl⟩) (pcx_V (va_recv hKc hPc (ci := 3) (q0 := 0) rfl rfl) hPc hKc hDc hA0 hE hS) rfl rfl hl.1 rfl (lv_room (Nat.le_of_ble_eq_true rfl)) d_L_law_625 ⟨by show _ ≤ 1041; omega, by show _ ≤ 10842; omega⟩) hS (fun q _ h => hFc q h) hFc (fun r9 u t H1 locs ht hvm hw hB hz1 hk1 hS => ?_)
  subst hw
  obtain ⟨hP1, hK1, hD1⟩ := hB
  rw [ht] at hP1
  obtain ⟨hP, hD⟩ := va_join (wr := [c_S qs q0 q1 g, c_P q0 q1 r, c_B q1 q2 q3 k, c_A q2 cM 1024 M, c_A q3 cD 256 D, c_A x1 c1 1024 m1, c_A x2 c2 256 m2, c_A x4 c4 9 m4, c_L qo cO u9]) (w1 := [c_X x0 x1 x2 x3 x4 ((f_X_get (xs ((nI (6 * j)) + (1 : Int32)).toNatClampNeg) ku m3).2), c_A x3 c3 9 m3]) hP hD [5, 8] [0, 1, 2, 3, 4, 6, 7, 9, 10] rfl rfl (by decide) (by decide) hk1 hFc hP1 hD1
  generalize H1 = H at hP hS ⊢
  have hP : va_P (dC, dI) classes [c_S qs q0 q1 g, c_P q0 q1 r, c_B q1 q2 q3 k, c_A q2 cM 1024 M, c_A q3 cD 256 D, c_X x0 x1 x2 x3 x4 ((f_X_get (xs ((nI (6 * j)) + (1 : Int32)).toNatClampNeg) ku m3).2), c_A x1 c1 1024 m1, c_A x2 c2 256 m2, c_A x3 c3 9 m3, c_A x4 c4 9 m4, c_L qo cO u9] H := hP.sub [0, 1, 2, 3, 4, 9, 5, 6, 10, 7, 8] rfl
  have hD : va_D A [c_S qs q0 q1 g, c_P q0 q1 r, c_B q1 q2 q3 k, c_A q2 cM 1024 M, c_A q3 cD 256 D, c_X x0 x1 x2 x3 x4 ((f_X_get (xs ((nI (6 * j)) + (1 : Int32)).toNatClampNeg) ku m3).2), c_A x1 c1 1024 m1, c_A x2 c2 256 m2, c_A x3 c3 9 m3, c_A x4 c4 9 m4, c_L qo cO u9] := hD.sub [0, 1, 2, 3, 4, 9, 5, 6, 10, 7, 8] (by decide) rfl
  refine lv_istore (lv' := [(6, .int ((f_X_get (xs ((nI (6 * j)) + (1 : Int32)).toNatClampNeg) ku m3).1)), (5, .int (nI ((f_S_get (xs ((nI (6 * j)) + (1 : Int32)).toNatClampNeg) g r k M D).1))), (4, .int (nI (6 * j))), (0, .ref b), (1, .ref qs), (2, .ref x0), (3, .ref qo)]) hx hb d_L_law_628 hl (by decide) rfl (fun ls hl => ?_)
  refine lv_aload_n hx hb d_L_law_630 rfl (lv_at hl 5 rfl) ?_
  have hPc := hP.sub (ws' := [c_X x0 x1 x2 x3 x4 ((f_X_get (xs ((nI (6 * j)) + (1 : Int32)).toNatClampNeg) ku m3).2)]) [5] rfl
  have hDc := hD.sub (ws' := [c_X x0 x1 x2 x3 x4 ((f_X_get (xs ((nI (6 * j)) + (1 : Int32)).toNatClampNeg) ku m3).2)]) [5] (by decide) rfl
  have hKc := hK.sub (tys' := []) [] rfl
  have hFc := va_free (wc := [c_X x0 x1 x2 x3 x4 ((f_X_get (xs ((nI (6 * j)) + (1 : Int32)).toNatClampNeg) ku m3).2)]) hD hS hA [5] rfl
  refine va_calli (va_runV (As := []) (rest := []) ⟨hx, hb, hml, hown, htB⟩ (c_X_thrown l dC dI z0 x0 x1 x2 x3 x4 H.size ((f_X_get (xs ((nI (6 * j)) + (1 : Int32)).toNatClampNeg) ku m3).2)) (cwV 0 htB (gd_V mw_501 mw_502 mw_503 mw_4 mw_504) rfl rfl rfl (by decide +kernel) ⟨Nat.le_of_ble_eq_true rfl, Nat.le_of_ble_eq_true rfl⟩) (pcx_V (va_recv hKc hPc (ci := 3) (q0 := 0) rfl rfl) hPc hKc hDc hA0 hE hS) rfl rfl hl.1 rfl (lv_room (Nat.le_of_ble_eq_true rfl)) d_L_law_631 ⟨by show _ ≤ 1041; omega, by show _ ≤ 10842; omega⟩) hS (fun q _ h => hFc q h) hFc (fun r9 u t H1 locs ht hvm hw hB hz1 hk1 hS => ?_)
  subst hw
  obtain ⟨hP1, hK1, hD1⟩ := hB
  rw [ht] at hP1
  obtain ⟨hP, hD⟩ := va_join (wr := [c_S qs q0 q1 g, c_P q0 q1 r, c_B q1 q2 q3 k, c_A q2 cM 1024 M, c_A q3 cD 256 D, c_A x1 c1 1024 m1, c_A x2 c2 256 m2, c_A x3 c3 9 m3, c_A x4 c4 9 m4, c_L qo cO u9]) (w1 := [c_X x0 x1 x2 x3 x4 ((f_X_get (xs ((nI (6 * j)) + (1 : Int32)).toNatClampNeg) ku m3).2)]) hP hD [5] [0, 1, 2, 3, 4, 6, 7, 8, 9, 10] rfl rfl (by decide) (by decide) hk1 hFc hP1 hD1
  generalize H1 = H at hP hS ⊢
  have hP : va_P (dC, dI) classes [c_S qs q0 q1 g, c_P q0 q1 r, c_B q1 q2 q3 k, c_A q2 cM 1024 M, c_A q3 cD 256 D, c_X x0 x1 x2 x3 x4 ((f_X_get (xs ((nI (6 * j)) + (1 : Int32)).toNatClampNeg) ku m3).2), c_A x1 c1 1024 m1, c_A x2 c2 256 m2, c_A x3 c3 9 m3, c_A x4 c4 9 m4, c_L qo cO u9] H := hP.sub [0, 1, 2, 3, 4, 10, 5, 6, 7, 8, 9] rfl
  have hD : va_D A [c_S qs q0 q1 g, c_P q0 q1 r, c_B q1 q2 q3 k, c_A q2 cM 1024 M, c_A q3 cD 256 D, c_X x0 x1 x2 x3 x4 ((f_X_get (xs ((nI (6 * j)) + (1 : Int32)).toNatClampNeg) ku m3).2), c_A x1 c1 1024 m1, c_A x2 c2 256 m2, c_A x3 c3 9 m3, c_A x4 c4 9 m4, c_L qo cO u9] := hD.sub [0, 1, 2, 3, 4, 10, 5, 6, 7, 8, 9] (by decide) rfl
  refine lv_iload hx hb d_L_law_634 (lv_at hl 1 rfl) ?_
  refine lv_icmp_eq (tgt := 641) hx hb d_L_law_636 (by decide) (fun _ => ?_) (fun c9 => absurd hR.1 c9)
  refine lv_iload hx hb d_L_law_641 (lv_at hl 1 rfl) ?_
  refine lv_if_ne (tgt := 658) hx hb d_L_law_643 (by decide) (fun c_1 => ?_) (fun c_1 => ?_)
  · refine lv_goto (tgt := 729) hx hb d_L_law_658 (by decide) ?_
    refine W.widen (k := 11 + 2 * (j + 1)) (n := 2614 + 12 * (j + 1)) (by omega) (by omega) ?_
    exact kk _ _ _ _ _ _ _ _ _ _ _ H _ ls hR.2.2 hP hD hS (lv_sub hl [2, 3, 4, 5, 6] rfl)
  · refine lv_aload_n hx hb d_L_law_646 rfl (lv_at hl 6 rfl) ?_
    refine lv_iconst (v := 0) hx hb d_L_law_647 (by decide) ?_
    refine va_lald hx hb hK hP 10 6 rfl rfl (show ¬ ((0 : Int32) < 0 ∨ 1 ≤ (0 : Int32).toNatClampNeg) from by decide) d_L_law_648 ?_
    refine lv_iload hx hb d_L_law_649 (lv_at hl 0 rfl) ?_
    refine lv_i2l hx hb d_L_law_651 rfl ?_
    refine W.lcmp hx hb d_L_law_652 ?_
    have f0 := cd_0 le_get c_1
    refine lv_if_eq (tgt := 658) hx hb d_L_law_653 (by decide) (fun _ => ?_) (fun c9 => absurd (lg_eq ((hw2 f0).trans (congrArg Int32.toInt64 (hR.2.1 f0).symm))) c9)
    refine lv_goto (tgt := 729) hx hb d_L_law_658 (by decide) ?_
    refine W.widen (k := 11 + 2 * (j + 1)) (n := 2614 + 12 * (j + 1)) (by omega) (by omega) ?_
    exact kk _ _ _ _ _ _ _ _ _ _ _ H _ ls hR.2.2 hP hD hS (lv_sub hl [2, 3, 4, 5, 6] rfl)

set_option maxHeartbeats 4000000 in
set_option maxRecDepth 100000 in
theorem LW_8 {p : Program} {l : Launch} (hl9 : l.stackTraces = false) {e : Env} {s : State} {m : MethodId} {below : List Frame} {meth : Method} {c : Code} {A : Nat → Prop} {z0 : Nat} {dC : Nat → ClassId} {dI : Nat → Nat → Nat} {qs : Nat} {q0 : Nat} {q1 : Nat} {q2 : Nat} {q3 : Nat} {cM : ClassId} {cD : ClassId} {x0 : Nat} {x1 : Nat} {x2 : Nat} {x3 : Nat} {x4 : Nat} {c1 : ClassId} {c2 : ClassId} {c3 : ClassId} {c4 : ClassId} {qo : Nat} {cO : ClassId} {b L : Nat} {xs : Nat → Int32} (hx : p.tables.exec = Jvm.exec) (hb : c.code = code) (hml : c.maxLocals = 7) (hown : s.vm.findClass R_law = some m.cls) (htB : ∀ w ∈ BIG, w.before #[Value.ref b] s = true) (hX : va_X b L xs s s.heap) (hbl : b < s.heap.size) (hbA : ¬ A b) (hA : ∀ q : Nat, s.heap.size ≤ q → A q) (hA0 : ∀ q, A q → z0 ≤ q) (hE : EN z0 s) (hK : va_K (dC, dI) classes [(cM, .int), (cD, .int), (c1, .int), (c2, .int), (c3, .int), (c4, .int), (cO, .long)] s) (hL : L ≤ 3072) {Q : State → Prop} {j : Nat} (hj : 6 * j + 6 ≤ L) (kk : ∀ (g r k M D ku m1 m2 m3 m4 : Nat → Int32) (o : Nat → Int64) (H : Heap) (locs : List Loc) (ls : Array Slot), Rel g r k M D ku m1 m2 m3 → va_P (dC, dI) classes [c_S qs q0 q1 g, c_P q0 q1 r, c_B q1 q2 q3 k, c_A q2 cM 1024 M, c_A q3 cD 256 D, c_X x0 x1 x2 x3 x4 ku, c_A x1 c1 1024 m1, c_A x2 c2 256 m2, c_A x3 c3 9 m3, c_A x4 c4 9 m4, c_L qo cO o] H → va_D A [c_S qs q0 q1 g, c_P q0 q1 r, c_B q1 q2 q3 k, c_A q2 cM 1024 M, c_A q3 cD 256 D, c_X x0 x1 x2 x3 x4 ku, c_A x1 c1 1024 m1, c_A x2 c2 256 m2, c_A x3 c3 9 m3, c_A x4 c4 9 m4, c_L qo cO o] → va_S A s.heap H locs → lv_has ls 7 [(4, .int (nI (6 * j))), (0, .ref b), (1, .ref qs), (2, .ref x0), (3, .ref qo)] → W p l e room_1 s m #[Value.ref b] below meth c H locs (11 + 2 * (j + 1)) (2614 + 12 * (j + 1)) Q (F0 m 729 ls [])) {g r k M D ku m1 m2 m3 m4 : Nat → Int32} {o : Nat → Int64} {H : Heap} {locs : List Loc} {ls : Array Slot} (hrel : Rel g r k M D ku m1 m2 m3) (hP : va_P (dC, dI) classes [c_S qs q0 q1 g, c_P q0 q1 r, c_B q1 q2 q3 k, c_A q2 cM 1024 M, c_A q3 cD 256 D, c_X x0 x1 x2 x3 x4 ku, c_A x1 c1 1024 m1, c_A x2 c2 256 m2, c_A x3 c3 9 m3, c_A x4 c4 9 m4, c_L qo cO o] H) (hD : va_D A [c_S qs q0 q1 g, c_P q0 q1 r, c_B q1 q2 q3 k, c_A q2 cM 1024 M, c_A q3 cD 256 D, c_X x0 x1 x2 x3 x4 ku, c_A x1 c1 1024 m1, c_A x2 c2 256 m2, c_A x3 c3 9 m3, c_A x4 c4 9 m4, c_L qo cO o]) (hS : va_S A s.heap H locs) (hl : lv_has ls 7 [(4, .int (nI (6 * j))), (0, .ref b), (1, .ref qs), (2, .ref x0), (3, .ref qo)]) : W p l e room_1 s m #[Value.ref b] below meth c H locs (11 + 2 * j) (2614 + 12 * j) Q (F0 m 661 ls []) := by
  have h_1 : vp_in (nI (6 * j) + (1 : Int32)) L := sx_in (k := 1) hj (by decide) hL
  have h_2 : vp_in (nI (6 * j) + (2 : Int32)) L := sx_in (k := 2) hj (by decide) hL
  have h_3 : vp_in (nI (6 * j) + (3 : Int32)) L := sx_in (k := 3) hj (by decide) hL
  have h_4 : vp_in (nI (6 * j) + (4 : Int32)) L := sx_in (k := 4) hj (by decide) hL
  have h_5 : vp_in (nI (6 * j) + (5 : Int32)) L := sx_in (k := 5) hj (by decide) hL
  refine lv_aload_n hx hb d_L_law_661 rfl (lv_at hl 2 rfl) ?_
  refine lv_aload_n hx hb d_L_law_662 rfl (lv_at hl 1 rfl) ?_
  refine lv_iload hx hb d_L_law_663 (lv_at hl 0 rfl) ?_
  refine lv_iconst (v := 1) hx hb d_L_law_665 (by decide) ?_
  refine lv_iadd hx hb d_L_law_666 ?_
  refine va_sld hx hb hX hbl hbA hS h_1 d_L_law_667 ?_
  refine lv_aload_n hx hb d_L_law_668 rfl (lv_at hl 1 rfl) ?_
  refine lv_iload hx hb d_L_law_669 (lv_at hl 0 rfl) ?_
  refine lv_iconst (v := 2) hx hb d_L_law_671 (by decide) ?_
  refine lv_iadd hx hb d_L_law_672 ?_
  refine va_sld hx hb hX hbl hbA hS h_2 d_L_law_673 ?_
  refine lv_aload_n hx hb d_L_law_674 rfl (lv_at hl 4 rfl) ?_
  have hR := sector_rel (p1 := (xs ((nI (6 * j)) + (1 : Int32)).toNatClampNeg)) (p2 := (xs ((nI (6 * j)) + (2 : Int32)).toNatClampNeg)) hrel
  have hPc := hP.sub (ws' := [c_S qs q0 q1 g, c_P q0 q1 r, c_B q1 q2 q3 k, c_A q2 cM 1024 M, c_A q3 cD 256 D, c_L qo cO o]) [0, 1, 2, 3, 4, 10] rfl
  have hDc := hD.sub (ws' := [c_S qs q0 q1 g, c_P q0 q1 r, c_B q1 q2 q3 k, c_A q2 cM 1024 M, c_A q3 cD 256 D, c_L qo cO o]) [0, 1, 2, 3, 4, 10] (by decide) rfl
  have hKc := hK.sub (tys' := [(cM, .int), (cD, .int), (cO, .long)]) [0, 1, 6] rfl
  have hFc := va_free (wc := [c_S qs q0 q1 g, c_P q0 q1 r, c_B q1 q2 q3 k, c_A q2 cM 1024 M, c_A q3 cD 256 D, c_L qo cO o]) hD hS hA [0, 1, 2, 3, 4, 10] rfl
  refine va_calli (vx_runSW (As := [.ref qs, .int (xs ((nI (6 * j)) + (1 : Int32)).toNatClampNeg), .int (xs ((nI (6 * j)) + (2 : Int32)).toNatClampNeg), .ref qo]) (rest := []) ⟨hx, hb, hml, hown, htB⟩ (c_L_sector l hl9 dC dI z0 qs q0 q1 q2 q3 cM cD qo cO H.size (xs ((nI (6 * j)) + (1 : Int32)).toNatClampNeg) (xs ((nI (6 * j)) + (2 : Int32)).toNatClampNeg) g r k M D o) (vx_cwSW 4 htB (gd_SW mw_448 mw_449 mw_0 mw_450) rfl rfl rfl (by decide +kernel) ⟨Nat.le_of_ble_eq_true rfl, Nat.le_of_ble_eq_true rfl⟩) (pcx_S hPc hKc hDc hA0 hE hS) rfl rfl hl.1 rfl (lv_room (Nat.le_of_ble_eq_true rfl)) d_L_law_675 ⟨by show _ ≤ 1041; omega, by show _ ≤ 10842; omega⟩) hS (fun q _ h => hFc q h) hFc (fun r9 u9 t H1 locs ht hvm hw hB hz1 hk1 hS => ?_)
  obtain ⟨hw1, hw2⟩ := hw
  subst hw1
  obtain ⟨hP1, hK1, hD1⟩ := hB
  rw [ht] at hP1
  obtain ⟨hP, hD⟩ := va_join (wr := [c_X x0 x1 x2 x3 x4 ku, c_A x1 c1 1024 m1, c_A x2 c2 256 m2, c_A x3 c3 9 m3, c_A x4 c4 9 m4]) (w1 := [c_S qs q0 q1 g, c_P q0 q1 r, c_B q1 q2 q3 k, c_A q2 cM 1024 M, c_A q3 cD 256 D, c_L qo cO u9]) hP hD [0, 1, 2, 3, 4, 10] [5, 6, 7, 8, 9] rfl rfl (by decide) (by decide) hk1 hFc hP1 hD1
  generalize H1 = H at hP hS ⊢
  have hP : va_P (dC, dI) classes [c_S qs q0 q1 g, c_P q0 q1 r, c_B q1 q2 q3 k, c_A q2 cM 1024 M, c_A q3 cD 256 D, c_X x0 x1 x2 x3 x4 ku, c_A x1 c1 1024 m1, c_A x2 c2 256 m2, c_A x3 c3 9 m3, c_A x4 c4 9 m4, c_L qo cO u9] H := hP.sub [5, 6, 7, 8, 9, 0, 1, 2, 3, 4, 10] rfl
  have hD : va_D A [c_S qs q0 q1 g, c_P q0 q1 r, c_B q1 q2 q3 k, c_A q2 cM 1024 M, c_A q3 cD 256 D, c_X x0 x1 x2 x3 x4 ku, c_A x1 c1 1024 m1, c_A x2 c2 256 m2, c_A x3 c3 9 m3, c_A x4 c4 9 m4, c_L qo cO u9] := hD.sub [5, 6, 7, 8, 9, 0, 1, 2, 3, 4, 10] (by decide) rfl
  refine lv_istore (lv' := [(5, .int (nI ((f_S_sector (xs ((nI (6 * j)) + (1 : Int32)).toNatClampNeg) (xs ((nI (6 * j)) + (2 : Int32)).toNatClampNeg) g r k M D).1))), (4, .int (nI (6 * j))), (0, .ref b), (1, .ref qs), (2, .ref x0), (3, .ref qo)]) hx hb d_L_law_678 hl (by decide) rfl (fun ls hl => ?_)
  refine lv_aload_n hx hb d_L_law_680 rfl (lv_at hl 4 rfl) ?_
  refine lv_aload_n hx hb d_L_law_681 rfl (lv_at hl 2 rfl) ?_
  refine lv_iload hx hb d_L_law_682 (lv_at hl 1 rfl) ?_
  refine lv_iconst (v := 1) hx hb d_L_law_684 (by decide) ?_
  refine lv_iadd hx hb d_L_law_685 ?_
  refine va_sld hx hb hX hbl hbA hS h_1 d_L_law_686 ?_
  refine lv_aload_n hx hb d_L_law_687 rfl (lv_at hl 2 rfl) ?_
  refine lv_iload hx hb d_L_law_688 (lv_at hl 1 rfl) ?_
  refine lv_iconst (v := 2) hx hb d_L_law_690 (by decide) ?_
  refine lv_iadd hx hb d_L_law_691 ?_
  refine va_sld hx hb hX hbl hbA hS h_2 d_L_law_692 ?_
  have hPc := hP.sub (ws' := [c_X x0 x1 x2 x3 x4 ku, c_A x2 c2 256 m2]) [5, 7] rfl
  have hDc := hD.sub (ws' := [c_X x0 x1 x2 x3 x4 ku, c_A x2 c2 256 m2]) [5, 7] (by decide) rfl
  have hKc := hK.sub (tys' := [(c2, .int)]) [3] rfl
  have hFc := va_free (wc := [c_X x0 x1 x2 x3 x4 ku, c_A x2 c2 256 m2]) hD hS hA [5, 7] rfl
  refine va_calli (va_runV (As := [.int (xs ((nI (6 * j)) + (1 : Int32)).toNatClampNeg), .int (xs ((nI (6 * j)) + (2 : Int32)).toNatClampNeg)]) (rest := []) ⟨hx, hb, hml, hown, htB⟩ (c_X_sector l dC dI z0 x0 x1 x2 x3 x4 c2 H.size (xs ((nI (6 * j)) + (1 : Int32)).toNatClampNeg) (xs ((nI (6 * j)) + (2 : Int32)).toNatClampNeg) ku m2) (cwV 2 htB (gd_V mw_643 mw_644 mw_645 mw_4 mw_646) rfl rfl rfl (by decide +kernel) ⟨Nat.le_of_ble_eq_true rfl, Nat.le_of_ble_eq_true rfl⟩) (pcx_V (va_recv hKc hPc (ci := 3) (q0 := 0) rfl rfl) hPc hKc hDc hA0 hE hS) rfl rfl hl.1 rfl (lv_room (Nat.le_of_ble_eq_true rfl)) d_L_law_693 ⟨by show _ ≤ 1041; omega, by show _ ≤ 10842; omega⟩) hS (fun q _ h => hFc q h) hFc (fun r9 u t H1 locs ht hvm hw hB hz1 hk1 hS => ?_)
  subst hw
  obtain ⟨hP1, hK1, hD1⟩ := hB
  rw [ht] at hP1
  obtain ⟨hP, hD⟩ := va_join (wr := [c_S qs q0 q1 g, c_P q0 q1 r, c_B q1 q2 q3 k, c_A q2 cM 1024 M, c_A q3 cD 256 D, c_A x1 c1 1024 m1, c_A x3 c3 9 m3, c_A x4 c4 9 m4, c_L qo cO u9]) (w1 := [c_X x0 x1 x2 x3 x4 ((f_X_sector (xs ((nI (6 * j)) + (1 : Int32)).toNatClampNeg) (xs ((nI (6 * j)) + (2 : Int32)).toNatClampNeg) ku m2).2), c_A x2 c2 256 m2]) hP hD [5, 7] [0, 1, 2, 3, 4, 6, 8, 9, 10] rfl rfl (by decide) (by decide) hk1 hFc hP1 hD1
  generalize H1 = H at hP hS ⊢
  have hP : va_P (dC, dI) classes [c_S qs q0 q1 g, c_P q0 q1 r, c_B q1 q2 q3 k, c_A q2 cM 1024 M, c_A q3 cD 256 D, c_X x0 x1 x2 x3 x4 ((f_X_sector (xs ((nI (6 * j)) + (1 : Int32)).toNatClampNeg) (xs ((nI (6 * j)) + (2 : Int32)).toNatClampNeg) ku m2).2), c_A x1 c1 1024 m1, c_A x2 c2 256 m2, c_A x3 c3 9 m3, c_A x4 c4 9 m4, c_L qo cO u9] H := hP.sub [0, 1, 2, 3, 4, 9, 5, 10, 6, 7, 8] rfl
  have hD : va_D A [c_S qs q0 q1 g, c_P q0 q1 r, c_B q1 q2 q3 k, c_A q2 cM 1024 M, c_A q3 cD 256 D, c_X x0 x1 x2 x3 x4 ((f_X_sector (xs ((nI (6 * j)) + (1 : Int32)).toNatClampNeg) (xs ((nI (6 * j)) + (2 : Int32)).toNatClampNeg) ku m2).2), c_A x1 c1 1024 m1, c_A x2 c2 256 m2, c_A x3 c3 9 m3, c_A x4 c4 9 m4, c_L qo cO u9] := hD.sub [0, 1, 2, 3, 4, 9, 5, 10, 6, 7, 8] (by decide) rfl
  refine lv_istore (lv' := [(6, .int ((f_X_sector (xs ((nI (6 * j)) + (1 : Int32)).toNatClampNeg) (xs ((nI (6 * j)) + (2 : Int32)).toNatClampNeg) ku m2).1)), (5, .int (nI ((f_S_sector (xs ((nI (6 * j)) + (1 : Int32)).toNatClampNeg) (xs ((nI (6 * j)) + (2 : Int32)).toNatClampNeg) g r k M D).1))), (4, .int (nI (6 * j))), (0, .ref b), (1, .ref qs), (2, .ref x0), (3, .ref qo)]) hx hb d_L_law_696 hl (by decide) rfl (fun ls hl => ?_)
  refine lv_aload_n hx hb d_L_law_698 rfl (lv_at hl 5 rfl) ?_
  have hPc := hP.sub (ws' := [c_X x0 x1 x2 x3 x4 ((f_X_sector (xs ((nI (6 * j)) + (1 : Int32)).toNatClampNeg) (xs ((nI (6 * j)) + (2 : Int32)).toNatClampNeg) ku m2).2)]) [5] rfl
  have hDc := hD.sub (ws' := [c_X x0 x1 x2 x3 x4 ((f_X_sector (xs ((nI (6 * j)) + (1 : Int32)).toNatClampNeg) (xs ((nI (6 * j)) + (2 : Int32)).toNatClampNeg) ku m2).2)]) [5] (by decide) rfl
  have hKc := hK.sub (tys' := []) [] rfl
  have hFc := va_free (wc := [c_X x0 x1 x2 x3 x4 ((f_X_sector (xs ((nI (6 * j)) + (1 : Int32)).toNatClampNeg) (xs ((nI (6 * j)) + (2 : Int32)).toNatClampNeg) ku m2).2)]) hD hS hA [5] rfl
  refine va_calli (va_runV (As := []) (rest := []) ⟨hx, hb, hml, hown, htB⟩ (c_X_thrown l dC dI z0 x0 x1 x2 x3 x4 H.size ((f_X_sector (xs ((nI (6 * j)) + (1 : Int32)).toNatClampNeg) (xs ((nI (6 * j)) + (2 : Int32)).toNatClampNeg) ku m2).2)) (cwV 0 htB (gd_V mw_501 mw_502 mw_503 mw_4 mw_504) rfl rfl rfl (by decide +kernel) ⟨Nat.le_of_ble_eq_true rfl, Nat.le_of_ble_eq_true rfl⟩) (pcx_V (va_recv hKc hPc (ci := 3) (q0 := 0) rfl rfl) hPc hKc hDc hA0 hE hS) rfl rfl hl.1 rfl (lv_room (Nat.le_of_ble_eq_true rfl)) d_L_law_699 ⟨by show _ ≤ 1041; omega, by show _ ≤ 10842; omega⟩) hS (fun q _ h => hFc q h) hFc (fun r9 u t H1 locs ht hvm hw hB hz1 hk1 hS => ?_)
  subst hw
  obtain ⟨hP1, hK1, hD1⟩ := hB
  rw [ht] at hP1
  obtain ⟨hP, hD⟩ := va_join (wr := [c_S qs q0 q1 g, c_P q0 q1 r, c_B q1 q2 q3 k, c_A q2 cM 1024 M, c_A q3 cD 256 D, c_A x1 c1 1024 m1, c_A x2 c2 256 m2, c_A x3 c3 9 m3, c_A x4 c4 9 m4, c_L qo cO u9]) (w1 := [c_X x0 x1 x2 x3 x4 ((f_X_sector (xs ((nI (6 * j)) + (1 : Int32)).toNatClampNeg) (xs ((nI (6 * j)) + (2 : Int32)).toNatClampNeg) ku m2).2)]) hP hD [5] [0, 1, 2, 3, 4, 6, 7, 8, 9, 10] rfl rfl (by decide) (by decide) hk1 hFc hP1 hD1
  generalize H1 = H at hP hS ⊢
  have hP : va_P (dC, dI) classes [c_S qs q0 q1 g, c_P q0 q1 r, c_B q1 q2 q3 k, c_A q2 cM 1024 M, c_A q3 cD 256 D, c_X x0 x1 x2 x3 x4 ((f_X_sector (xs ((nI (6 * j)) + (1 : Int32)).toNatClampNeg) (xs ((nI (6 * j)) + (2 : Int32)).toNatClampNeg) ku m2).2), c_A x1 c1 1024 m1, c_A x2 c2 256 m2, c_A x3 c3 9 m3, c_A x4 c4 9 m4, c_L qo cO u9] H := hP.sub [0, 1, 2, 3, 4, 10, 5, 6, 7, 8, 9] rfl
  have hD : va_D A [c_S qs q0 q1 g, c_P q0 q1 r, c_B q1 q2 q3 k, c_A q2 cM 1024 M, c_A q3 cD 256 D, c_X x0 x1 x2 x3 x4 ((f_X_sector (xs ((nI (6 * j)) + (1 : Int32)).toNatClampNeg) (xs ((nI (6 * j)) + (2 : Int32)).toNatClampNeg) ku m2).2), c_A x1 c1 1024 m1, c_A x2 c2 256 m2, c_A x3 c3 9 m3, c_A x4 c4 9 m4, c_L qo cO u9] := hD.sub [0, 1, 2, 3, 4, 10, 5, 6, 7, 8, 9] (by decide) rfl
  refine lv_iload hx hb d_L_law_702 (lv_at hl 1 rfl) ?_
  refine lv_icmp_eq (tgt := 709) hx hb d_L_law_704 (by decide) (fun _ => ?_) (fun c9 => absurd hR.1 c9)
  refine lv_iload hx hb d_L_law_709 (lv_at hl 1 rfl) ?_
  refine lv_if_ne (tgt := 726) hx hb d_L_law_711 (by decide) (fun c_1 => ?_) (fun c_1 => ?_)
  · refine lv_goto (tgt := 729) hx hb d_L_law_726 (by decide) ?_
    refine W.widen (k := 11 + 2 * (j + 1)) (n := 2614 + 12 * (j + 1)) (by omega) (by omega) ?_
    exact kk _ _ _ _ _ _ _ _ _ _ _ H _ ls hR.2.2 hP hD hS (lv_sub hl [2, 3, 4, 5, 6] rfl)
  · refine lv_aload_n hx hb d_L_law_714 rfl (lv_at hl 6 rfl) ?_
    refine lv_iconst (v := 0) hx hb d_L_law_715 (by decide) ?_
    refine va_lald hx hb hK hP 10 6 rfl rfl (show ¬ ((0 : Int32) < 0 ∨ 1 ≤ (0 : Int32).toNatClampNeg) from by decide) d_L_law_716 ?_
    refine lv_iload hx hb d_L_law_717 (lv_at hl 0 rfl) ?_
    refine lv_i2l hx hb d_L_law_719 rfl ?_
    refine W.lcmp hx hb d_L_law_720 ?_
    have f0 := cd_0 le_sector c_1
    refine lv_if_eq (tgt := 726) hx hb d_L_law_721 (by decide) (fun _ => ?_) (fun c9 => absurd (lg_eq ((hw2 f0).trans (congrArg Int32.toInt64 (hR.2.1 f0).symm))) c9)
    refine lv_goto (tgt := 729) hx hb d_L_law_726 (by decide) ?_
    refine W.widen (k := 11 + 2 * (j + 1)) (n := 2614 + 12 * (j + 1)) (by omega) (by omega) ?_
    exact kk _ _ _ _ _ _ _ _ _ _ _ H _ ls hR.2.2 hP hD hS (lv_sub hl [2, 3, 4, 5, 6] rfl)
