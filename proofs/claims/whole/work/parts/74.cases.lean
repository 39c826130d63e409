set_option maxHeartbeats 4000000 in
set_option maxRecDepth 100000 in
theorem LW_0 {p : Program} {l : Launch} (hl9 : l.stackTraces = false) {e : Env} {s : State} {m : MethodId} {below : List Frame} {meth : Method} {c : Code} {A : Nat → Prop} {z0 : Nat} {dC : Nat → ClassId} {dI : Nat → Nat → Nat} {qs : Nat} {q0 : Nat} {q1 : Nat} {q2 : Nat} {q3 : Nat} {cM : ClassId} {cD : ClassId} {x0 : Nat} {x1 : Nat} {x2 : Nat} {x3 : Nat} {x4 : Nat} {c1 : ClassId} {c2 : ClassId} {c3 : ClassId} {c4 : ClassId} {qo : Nat} {cO : ClassId} {b L : Nat} {xs : Nat → Int32} (hx : p.tables.exec = Jvm.exec) (hb : c.code = code) (hml : c.maxLocals = 7) (hown : s.vm.findClass R_law = some m.cls) (htB : ∀ w ∈ BIG, w.before #[Value.ref b] s = true) (hX : va_X b L xs s s.heap) (hbl : b < s.heap.size) (hbA : ¬ A b) (hA : ∀ q : Nat, s.heap.size ≤ q → A q) (hA0 : ∀ q, A q → z0 ≤ q) (hE : EN z0 s) (hK : va_K (dC, dI) classes [(cM, .int), (cD, .int), (c1, .int), (c2, .int), (c3, .int), (c4, .int), (cO, .long)] s) (hL : L ≤ 3072) {Q : State → Prop} {j : Nat} (hj : 6 * j + 6 ≤ L) (kk : ∀ (g r k M D ku m1 m2 m3 m4 : Nat → Int32) (o : Nat → Int64) (H : Heap) (locs : List Loc) (ls : Array Slot), Rel g r k M D ku m1 m2 m3 → va_P (dC, dI) classes [c_S qs q0 q1 g, c_P q0 q1 r, c_B q1 q2 q3 k, c_A q2 cM 1024 M, c_A q3 cD 256 D, c_X x0 x1 x2 x3 x4 ku, c_A x1 c1 1024 m1, c_A x2 c2 256 m2, c_A x3 c3 9 m3, c_A x4 c4 9 m4, c_L qo cO o] H → va_D A [c_S qs q0 q1 g, c_P q0 q1 r, c_B q1 q2 q3 k, c_A q2 cM 1024 M, c_A q3 cD 256 D, c_X x0 x1 x2 x3 x4 ku, c_A x1 c1 1024 m1, c_A x2 c2 256 m2, c_A x3 c3 9 m3, c_A x4 c4 9 m4, c_L qo cO o] → va_S A s.heap H locs → lv_has ls 7 [(4, .int (nI (6 * j))), (0, .ref b), (1, .ref qs), (2, .ref x0), (3, .ref qo)] → W p l e room_1 s m #[Value.ref b] below meth c H locs (11 + 2 * (j + 1)) (2614 + 12 * (j + 1)) Q (F0 m 729 ls [])) {g r k M D ku m1 m2 m3 m4 : Nat → Int32} {o : Nat → Int64} {H : Heap} {locs : List Loc} {ls : Array Slot} (hrel : Rel g r k M D ku m1 m2 m3) (hP : va_P (dC, dI) classes [c_S qs q0 q1 g, c_P q0 q1 r, c_B q1 q2 q3 k, c_A q2 cM 1024 M, c_A q3 cD 256 D, c_X x0 x1 x2 x3 x4 ku, c_A x1 c1 1024 m1, c_A x2 c2 256 m2, c_A x3 c3 9 m3, c_A x4 c4 9 m4, c_L qo cO o] H) (hD : va_D A [c_S qs q0 q1 g, c_P q0 q1 r, c_B q1 q2 q3 k, c_A q2 cM 1024 M, c_A q3 cD 256 D, c_X x0 x1 x2 x3 x4 ku, c_A x1 c1 1024 m1, c_A x2 c2 256 m2, c_A x3 c3 9 m3, c_A x4 c4 9 m4, c_L qo cO o]) (hS : va_S A s.heap H locs) (hl : lv_has ls 7 [(4, .int (nI (6 * j))), (0, .ref b), (1, .ref qs), (2, .ref x0), (3, .ref qo)]) : W p l e room_1 s m #[Value.ref b] below meth c H locs (11 + 2 * j) (2614 + 12 * j) Q (F0 m 92 ls []) := by
  have h_1 : vp_in (nI (6 * j) + (1 : Int32)) L := sx_in (k := 1) hj (by decide) hL
  have h_2 : vp_in (nI (6 * j) + (2 : Int32)) L := sx_in (k := 2) hj (by decide) hL
  have h_3 : vp_in (nI (6 * j) + (3 : Int32)) L := sx_in (k := 3) hj (by decide) hL
  have h_4 : vp_in (nI (6 * j) + (4 : Int32)) L := sx_in (k := 4) hj (by decide) hL
  have h_5 : vp_in (nI (6 * j) + (5 : Int32)) L := sx_in (k := 5) hj (by decide) hL
  refine lv_aload_n hx hb d_L_law_92 rfl (lv_at hl 2 rfl) ?_
  refine lv_aload_n hx hb d_L_law_93 rfl (lv_at hl 1 rfl) ?_
  refine lv_iload hx hb d_L_law_94 (lv_at hl 0 rfl) ?_
  refine lv_iconst (v := 1) hx hb d_L_law_96 (by decide) ?_
  refine lv_iadd hx hb d_L_law_97 ?_
  refine va_sld hx hb hX hbl hbA hS h_1 d_L_law_98 ?_
  refine lv_aload_n hx hb d_L_law_99 rfl (lv_at hl 1 rfl) ?_
  refine lv_iload hx hb d_L_law_100 (lv_at hl 0 rfl) ?_
  refine lv_iconst (v := 2) hx hb d_L_law_102 (by decide) ?_
  refine lv_iadd hx hb d_L_law_103 ?_
  refine va_sld hx hb hX hbl hbA hS h_2 d_L_law_104 ?_
  refine lv_i2l hx hb d_L_law_105 rfl ?_
  refine lv_bipush (v := 32) hx hb d_L_law_106 (by decide) ?_
  refine lv_lshl hx hb d_L_law_108 rfl ?_
  refine lv_aload_n hx hb d_L_law_109 rfl (lv_at hl 1 rfl) ?_
  refine lv_iload hx hb d_L_law_110 (lv_at hl 0 rfl) ?_
  refine lv_iconst (v := 3) hx hb d_L_law_112 (by decide) ?_
  refine lv_iadd hx hb d_L_law_113 ?_
  refine va_sld hx hb hX hbl hbA hS h_3 d_L_law_114 ?_
  refine lv_i2l hx hb d_L_law_115 rfl ?_
  refine lv_ldc2 hx hb hown (htB _ mw_647) d_L_law_116 ?_
  refine lv_land hx hb d_L_law_119 ?_
  refine lv_lor hx hb d_L_law_120 ?_
  refine lv_aload_n hx hb d_L_law_121 rfl (lv_at hl 1 rfl) ?_
  refine lv_iload hx hb d_L_law_122 (lv_at hl 0 rfl) ?_
  refine lv_iconst (v := 4) hx hb d_L_law_124 (by decide) ?_
  refine lv_iadd hx hb d_L_law_125 ?_
  refine va_sld hx hb hX hbl hbA hS h_4 d_L_law_126 ?_
  refine lv_aload_n hx hb d_L_law_127 rfl (lv_at hl 4 rfl) ?_
  have hR := load_rel (p1 := (xs ((nI (6 * j)) + (1 : Int32)).toNatClampNeg)) (p2 := ((((xs ((nI (6 * j)) + (2 : Int32)).toNatClampNeg).toInt64) <<< ((32 : Int32).toInt64 &&& 63)) ||| (((xs ((nI (6 * j)) + (3 : Int32)).toNatClampNeg).toInt64) &&& (4294967295 : Int64)))) (p3 := (xs ((nI (6 * j)) + (4 : Int32)).toNatClampNeg)) hrel
  have hPc := hP.sub (ws' := [c_S qs q0 q1 g, c_P q0 q1 r, c_B q1 q2 q3 k, c_A q2 cM 1024 M, c_A q3 cD 256 D, c_L qo cO o]) [0, 1, 2, 3, 4, 10] rfl
  have hDc := hD.sub (ws' := [c_S qs q0 q1 g, c_P q0 q1 r, c_B q1 q2 q3 k, c_A q2 cM 1024 M, c_A q3 cD 256 D, c_L qo cO o]) [0, 1, 2, 3, 4, 10] (by decide) rfl
  have hKc := hK.sub (tys' := [(cM, .int), (cD, .int), (cO, .long)]) [0, 1, 6] rfl
  have hFc := va_free (wc := [c_S qs q0 q1 g, c_P q0 q1 r, c_B q1 q2 q3 k, c_A q2 cM 1024 M, c_A q3 cD 256 D, c_L qo cO o]) hD hS hA [0, 1, 2, 3, 4, 10] rfl
  refine va_calli (vx_runSW (As := [.ref qs, .int (xs ((nI (6 * j)) + (1 : Int32)).toNatClampNeg), .long ((((xs ((nI (6 * j)) + (2 : Int32)).toNatClampNeg).toInt64) <<< ((32 : Int32).toInt64 &&& 63)) ||| (((xs ((nI (6 * j)) + (3 : Int32)).toNatClampNeg).toInt64) &&& (4294967295 : Int64))), .int (xs ((nI (6 * j)) + (4 : Int32)).toNatClampNeg), .ref qo]) (rest := []) ⟨hx, hb, hml, hown, htB⟩ (c_L_load l hl9 dC dI z0 qs q0 q1 q2 q3 cM cD qo cO H.size (xs ((nI (6 * j)) + (1 : Int32)).toNatClampNeg) ((((xs ((nI (6 * j)) + (2 : Int32)).toNatClampNeg).toInt64) <<< ((32 : Int32).toInt64 &&& 63)) ||| (((xs ((nI (6 * j)) + (3 : Int32)).toNatClampNeg).toInt64) &&& (4294967295 : Int64))) (xs ((nI (6 * j)) + (4 : Int32)).toNatClampNeg) g r k M D o) (vx_cwSW 5 htB (gd_SW mw_116 mw_117 mw_0 mw_118) rfl rfl rfl (by decide +kernel) ⟨Nat.le_of_ble_eq_true rfl, Nat.le_of_ble_eq_true rfl⟩) (pcx_S hPc hKc hDc hA0 hE hS) rfl rfl hl.1 rfl (lv_room (Nat.le_of_ble_eq_true rfl)) d_L_law_128 ⟨by show _ ≤ 1041; omega, by show _ ≤ 10842; omega⟩) hS (fun q _ h => hFc q h) hFc (fun r9 u9 t H1 locs ht hvm hw hB hz1 hk1 hS => ?_)
  obtain ⟨hw1, hw2⟩ := hw
  subst hw1
  obtain ⟨hP1, hK1, hD1⟩ := hB
  rw [ht] at hP1
  obtain ⟨hP, hD⟩ := va_join (wr := [c_X x0 x1 x2 x3 x4 ku, c_A x1 c1 1024 m1, c_A x2 c2 256 m2, c_A x3 c3 9 m3, c_A x4 c4 9 m4]) (w1 := [c_S qs q0 q1 g, c_P q0 q1 r, c_B q1 q2 q3 k, c_A q2 cM 1024 ((f_S_load (xs ((nI (6 * j)) + (1 : Int32)).toNatClampNeg) ((((xs ((nI (6 * j)) + (2 : Int32)).toNatClampNeg).toInt64) <<< ((32 : Int32).toInt64 &&& 63)) ||| (((xs ((nI (6 * j)) + (3 : Int32)).toNatClampNeg).toInt64) &&& (4294967295 : Int64))) (xs ((nI (6 * j)) + (4 : Int32)).toNatClampNeg) g r k M D).2.2), c_A q3 cD 256 D, c_L qo cO u9]) hP hD [0, 1, 2, 3, 4, 10] [5, 6, 7, 8, 9] rfl rfl (by decide) (by decide) hk1 hFc hP1 hD1
  generalize H1 = H at hP hS ⊢
  have hP : va_P (dC, dI) classes [c_S qs q0 q1 g, c_P q0 q1 r, c_B q1 q2 q3 k, c_A q2 cM 1024 ((f_S_load (xs ((nI (6 * j)) + (1 : Int32)).toNatClampNeg) ((((xs ((nI (6 * j)) + (2 : Int32)).toNatClampNeg).toInt64) <<< ((32 : Int32).toInt64 &&& 63)) ||| (((xs ((nI (6 * j)) + (3 : Int32)).toNatClampNeg).toInt64) &&& (4294967295 : Int64))) (xs ((nI (6 * j)) + (4 : Int32)).toNatClampNeg) g r k M D).2.2), c_A q3 cD 256 D, c_X x0 x1 x2 x3 x4 ku, c_A x1 c1 1024 m1, c_A x2 c2 256 m2, c_A x3 c3 9 m3, c_A x4 c4 9 m4, c_L qo cO u9] H := hP.sub [5, 6, 7, 8, 9, 0, 1, 2, 3, 4, 10] rfl
  have hD : va_D A [c_S qs q0 q1 g, c_P q0 q1 r, c_B q1 q2 q3 k, c_A q2 cM 1024 ((f_S_load (xs ((nI (6 * j)) + (1 : Int32)).toNatClampNeg) ((((xs ((nI (6 * j)) + (2 : Int32)).toNatClampNeg).toInt64) <<< ((32 : Int32).toInt64 &&& 63)) ||| (((xs ((nI (6 * j)) + (3 : Int32)).toNatClampNeg).toInt64) &&& (4294967295 : Int64))) (xs ((nI (6 * j)) + (4 : Int32)).toNatClampNeg) g r k M D).2.2), c_A q3 cD 256 D, c_X x0 x1 x2 x3 x4 ku, c_A x1 c1 1024 m1, c_A x2 c2 256 m2, c_A x3 c3 9 m3, c_A x4 c4 9 m4, c_L qo cO u9] := hD.sub [5, 6, 7, 8, 9, 0, 1, 2, 3, 4, 10] (by decide) rfl
  refine lv_istore (lv' := [(5, .int (nI ((f_S_load (xs ((nI (6 * j)) + (1 : Int32)).toNatClampNeg) ((((xs ((nI (6 * j)) + (2 : Int32)).toNatClampNeg).toInt64) <<< ((32 : Int32).toInt64 &&& 63)) ||| (((xs ((nI (6 * j)) + (3 : Int32)).toNatClampNeg).toInt64) &&& (4294967295 : Int64))) (xs ((nI (6 * j)) + (4 : Int32)).toNatClampNeg) g r k M D).1))), (4, .int (nI (6 * j))), (0, .ref b), (1, .ref qs), (2, .ref x0), (3, .ref qo)]) hx hb d_L_law_131 hl (by decide) rfl (fun ls hl => ?_)
  refine lv_aload_n hx hb d_L_law_133 rfl (lv_at hl 4 rfl) ?_
  refine lv_aload_n hx hb d_L_law_134 rfl (lv_at hl 2 rfl) ?_
  refine lv_iload hx hb d_L_law_135 (lv_at hl 1 rfl) ?_
  refine lv_iconst (v := 1) hx hb d_L_law_137 (by decide) ?_
  refine lv_iadd hx hb d_L_law_138 ?_
  refine va_sld hx hb hX hbl hbA hS h_1 d_L_law_139 ?_
  refine lv_aload_n hx hb d_L_law_140 rfl (lv_at hl 2 rfl) ?_
  refine lv_iload hx hb d_L_law_141 (lv_at hl 1 rfl) ?_
  refine lv_iconst (v := 2) hx hb d_L_law_143 (by decide) ?_
  refine lv_iadd hx hb d_L_law_144 ?_
  refine va_sld hx hb hX hbl hbA hS h_2 d_L_law_145 ?_
  refine lv_i2l hx hb d_L_law_146 rfl ?_
  refine lv_bipush (v := 32) hx hb d_L_law_147 (by decide) ?_
  refine lv_lshl hx hb d_L_law_149 rfl ?_
  refine lv_aload_n hx hb d_L_law_150 rfl (lv_at hl 2 rfl) ?_
  refine lv_iload hx hb d_L_law_151 (lv_at hl 1 rfl) ?_
  refine lv_iconst (v := 3) hx hb d_L_law_153 (by decide) ?_
  refine lv_iadd hx hb d_L_law_154 ?_
  refine va_sld hx hb hX hbl hbA hS h_3 d_L_law_155 ?_
  refine lv_i2l hx hb d_L_law_156 rfl ?_
  refine lv_ldc2 hx hb hown (htB _ mw_647) d_L_law_157 ?_
  refine lv_land hx hb d_L_law_160 ?_
  refine lv_lor hx hb d_L_law_161 ?_
  refine lv_aload_n hx hb d_L_law_162 rfl (lv_at hl 2 rfl) ?_
  refine lv_iload hx hb d_L_law_163 (lv_at hl 1 rfl) ?_
  refine lv_iconst (v := 4) hx hb d_L_law_165 (by decide) ?_
  refine lv_iadd hx hb d_L_law_166 ?_
  refine va_sld hx hb hX hbl hbA hS h_4 d_L_law_167 ?_
  have hPc := hP.sub (ws' := [c_X x0 x1 x2 x3 x4 ku, c_A x1 c1 1024 m1]) [5, 6] rfl
  have hDc := hD.sub (ws' := [c_X x0 x1 x2 x3 x4 ku, c_A x1 c1 1024 m1]) [5, 6] (by decide) rfl
  have hKc := hK.sub (tys' := [(c1, .int)]) [2] rfl
  have hFc := va_free (wc := [c_X x0 x1 x2 x3 x4 ku, c_A x1 c1 1024 m1]) hD hS hA [5, 6] rfl
  refine va_calli (va_runV (As := [.int (xs ((nI (6 * j)) + (1 : Int32)).toNatClampNeg), .long ((((xs ((nI (6 * j)) + (2 : Int32)).toNatClampNeg).toInt64) <<< ((32 : Int32).toInt64 &&& 63)) ||| (((xs ((nI (6 * j)) + (3 : Int32)).toNatClampNeg).toInt64) &&& (4294967295 : Int64))), .int (xs ((nI (6 * j)) + (4 : Int32)).toNatClampNeg)]) (rest := []) ⟨hx, hb, hml, hown, htB⟩ (c_X_load l dC dI z0 x0 x1 x2 x3 x4 c1 H.size (xs ((nI (6 * j)) + (1 : Int32)).toNatClampNeg) ((((xs ((nI (6 * j)) + (2 : Int32)).toNatClampNeg).toInt64) <<< ((32 : Int32).toInt64 &&& 63)) ||| (((xs ((nI (6 * j)) + (3 : Int32)).toNatClampNeg).toInt64) &&& (4294967295 : Int64))) (xs ((nI (6 * j)) + (4 : Int32)).toNatClampNeg) ku m1) (cwV 3 htB (gd_V mw_505 mw_506 mw_507 mw_4 mw_508) rfl rfl rfl (by decide +kernel) ⟨Nat.le_of_ble_eq_true rfl, Nat.le_of_ble_eq_true rfl⟩) (pcx_V (va_recv hKc hPc (ci := 3) (q0 := 0) rfl rfl) hPc hKc hDc hA0 hE hS) rfl rfl hl.1 rfl (lv_room (Nat.le_of_ble_eq_true rfl)) d_L_law_168 ⟨by show _ ≤ 1041; omega, by show _ ≤ 10842; omega⟩) hS (fun q _ h => hFc q h) hFc (fun r9 u t H1 locs ht hvm hw hB hz1 hk1 hS => ?_)
  subst hw
  obtain ⟨hP1, hK1, hD1⟩ := hB
  rw [ht] at hP1
  obtain ⟨hP, hD⟩ := va_join (wr := [c_S qs q0 q1 g, c_P q0 q1 r, c_B q1 q2 q3 k, c_A q2 cM 1024 ((f_S_load (xs ((nI (6 * j)) + (1 : Int32)).toNatClampNeg) ((((xs ((nI (6 * j)) + (2 : Int32)).toNatClampNeg).toInt64) <<< ((32 : Int32).toInt64 &&& 63)) ||| (((xs ((nI (6 * j)) + (3 : Int32)).toNatClampNeg).toInt64) &&& (4294967295 : Int64))) (xs ((nI (6 * j)) + (4 : Int32)).toNatClampNeg) g r k M D).2.2), c_A q3 cD 256 D, c_A x2 c2 256 m2, c_A x3 c3 9 m3, c_A x4 c4 9 m4, c_L qo cO u9]) (w1 := [c_X x0 x1 x2 x3 x4 ((f_X_load (xs ((nI (6 * j)) + (1 : Int32)).toNatClampNeg) ((((xs ((nI (6 * j)) + (2 : Int32)).toNatClampNeg).toInt64) <<< ((32 : Int32).toInt64 &&& 63)) ||| (((xs ((nI (6 * j)) + (3 : Int32)).toNatClampNeg).toInt64) &&& (4294967295 : Int64))) (xs ((nI (6 * j)) + (4 : Int32)).toNatClampNeg) ku m1).2.1), c_A x1 c1 1024 ((f_X_load (xs ((nI (6 * j)) + (1 : Int32)).toNatClampNeg) ((((xs ((nI (6 * j)) + (2 : Int32)).toNatClampNeg).toInt64) <<< ((32 : Int32).toInt64 &&& 63)) ||| (((xs ((nI (6 * j)) + (3 : Int32)).toNatClampNeg).toInt64) &&& (4294967295 : Int64))) (xs ((nI (6 * j)) + (4 : Int32)).toNatClampNeg) ku m1).2.2)]) hP hD [5, 6] [0, 1, 2, 3, 4, 7, 8, 9, 10] rfl rfl (by decide) (by decide) hk1 hFc hP1 hD1
  generalize H1 = H at hP hS ⊢
  have hP : va_P (dC, dI) classes [c_S qs q0 q1 g, c_P q0 q1 r, c_B q1 q2 q3 k, c_A q2 cM 1024 ((f_S_load (xs ((nI (6 * j)) + (1 : Int32)).toNatClampNeg) ((((xs ((nI (6 * j)) + (2 : Int32)).toNatClampNeg).toInt64) <<< ((32 : Int32).toInt64 &&& 63)) ||| (((xs ((nI (6 * j)) + (3 : Int32)).toNatClampNeg).toInt64) &&& (4294967295 : Int64))) (xs ((nI (6 * j)) + (4 : Int32)).toNatClampNeg) g r k M D).2.2), c_A q3 cD 256 D, c_X x0 x1 x2 x3 x4 ((f_X_load (xs ((nI (6 * j)) + (1 : Int32)).toNatClampNeg) ((((xs ((nI (6 * j)) + (2 : Int32)).toNatClampNeg).toInt64) <<< ((32 : Int32).toInt64 &&& 63)) ||| (((xs ((nI (6 * j)) + (3 : Int32)).toNatClampNeg).toInt64) &&& (4294967295 : Int64))) (xs ((nI (6 * j)) + (4 : Int32)).toNatClampNeg) ku m1).2.1), c_A x1 c1 1024 ((f_X_load (xs ((nI (6 * j)) + (1 : Int32)).toNatClampNeg) ((((xs ((nI (6 * j)) + (2 : Int32)).toNatClampNeg).toInt64) <<< ((32 : Int32).toInt64 &&& 63)) ||| (((xs ((nI (6 * j)) + (3 : Int32)).toNatClampNeg).toInt64) &&& (4294967295 : Int64))) (xs ((nI (6 * j)) + (4 : Int32)).toNatClampNeg) ku m1).2.2), c_A x2 c2 256 m2, c_A x3 c3 9 m3, c_A x4 c4 9 m4, c_L qo cO u9] H := hP.sub [0, 1, 2, 3, 4, 9, 10, 5, 6, 7, 8] rfl
  have hD : va_D A [c_S qs q0 q1 g, c_P q0 q1 r, c_B q1 q2 q3 k, c_A q2 cM 1024 ((f_S_load (xs ((nI (6 * j)) + (1 : Int32)).toNatClampNeg) ((((xs ((nI (6 * j)) + (2 : Int32)).toNatClampNeg).toInt64) <<< ((32 : Int32).toInt64 &&& 63)) ||| (((xs ((nI (6 * j)) + (3 : Int32)).toNatClampNeg).toInt64) &&& (4294967295 : Int64))) (xs ((nI (6 * j)) + (4 : Int32)).toNatClampNeg) g r k M D).2.2), c_A q3 cD 256 D, c_X x0 x1 x2 x3 x4 ((f_X_load (xs ((nI (6 * j)) + (1 : Int32)).toNatClampNeg) ((((xs ((nI (6 * j)) + (2 : Int32)).toNatClampNeg).toInt64) <<< ((32 : Int32).toInt64 &&& 63)) ||| (((xs ((nI (6 * j)) + (3 : Int32)).toNatClampNeg).toInt64) &&& (4294967295 : Int64))) (xs ((nI (6 * j)) + (4 : Int32)).toNatClampNeg) ku m1).2.1), c_A x1 c1 1024 ((f_X_load (xs ((nI (6 * j)) + (1 : Int32)).toNatClampNeg) ((((xs ((nI (6 * j)) + (2 : Int32)).toNatClampNeg).toInt64) <<< ((32 : Int32).toInt64 &&& 63)) ||| (((xs ((nI (6 * j)) + (3 : Int32)).toNatClampNeg).toInt64) &&& (4294967295 : Int64))) (xs ((nI (6 * j)) + (4 : Int32)).toNatClampNeg) ku m1).2.2), c_A x2 c2 256 m2, c_A x3 c3 9 m3, c_A x4 c4 9 m4, c_L qo cO u9] := hD.sub [0, 1, 2, 3, 4, 9, 10, 5, 6, 7, 8] (by decide) rfl
  refine lv_istore (lv' := [(6, .int ((f_X_load (xs ((nI (6 * j)) + (1 : Int32)).toNatClampNeg) ((((xs ((nI (6 * j)) + (2 : Int32)).toNatClampNeg).toInt64) <<< ((32 : Int32).toInt64 &&& 63)) ||| (((xs ((nI (6 * j)) + (3 : Int32)).toNatClampNeg).toInt64) &&& (4294967295 : Int64))) (xs ((nI (6 * j)) + (4 : Int32)).toNatClampNeg) ku m1).1)), (5, .int (nI ((f_S_load (xs ((nI (6 * j)) + (1 : Int32)).toNatClampNeg) ((((xs ((nI (6 * j)) + (2 : Int32)).toNatClampNeg).toInt64) <<< ((32 : Int32).toInt64 &&& 63)) ||| (((xs ((nI (6 * j)) + (3 : Int32)).toNatClampNeg).toInt64) &&& (4294967295 : Int64))) (xs ((nI (6 * j)) + (4 : Int32)).toNatClampNeg) g r k M D).1))), (4, .int (nI (6 * j))), (0, .ref b), (1, .ref qs), (2, .ref x0), (3, .ref qo)]) hx hb d_L_law_171 hl (by decide) rfl (fun ls hl => ?_)
  refine lv_aload_n hx hb d_L_law_173 rfl (lv_at hl 5 rfl) ?_
  have hPc := hP.sub (ws' := [c_X x0 x1 x2 x3 x4 ((f_X_load (xs ((nI (6 * j)) + (1 : Int32)).toNatClampNeg) ((((xs ((nI (6 * j)) + (2 : Int32)).toNatClampNeg).toInt64) <<< ((32 : Int32).toInt64 &&& 63)) ||| (((xs ((nI (6 * j)) + (3 : Int32)).toNatClampNeg).toInt64) &&& (4294967295 : Int64))) (xs ((nI (6 * j)) + (4 : Int32)).toNatClampNeg) ku m1).2.1)]) [5] rfl
  have hDc := hD.sub (ws' := [c_X x0 x1 x2 x3 x4 ((f_X_load (xs ((nI (6 * j)) + (1 : Int32)).toNatClampNeg) ((((xs ((nI (6 * j)) + (2 : Int32)).toNatClampNeg).toInt64) <<< ((32 : Int32).toInt64 &&& 63)) ||| (((xs ((nI (6 * j)) + (3 : Int32)).toNatClampNeg).toInt64) &&& (4294967295 : Int64))) (xs ((nI (6 * j)) + (4 : Int32)).toNatClampNeg) ku m1).2.1)]) [5] (by decide) rfl
  have hKc := hK.sub (tys' := []) [] rfl
  have hFc := va_free (wc := [c_X x0 x1 x2 x3 x4 ((f_X_load (xs ((nI (6 * j)) + (1 : Int32)).toNatClampNeg) ((((xs ((nI (6 * j)) + (2 : Int32)).toNatClampNeg).toInt64) <<< ((32 : Int32).toInt64 &&& 63)) ||| (((xs ((nI (6 * j)) + (3 : Int32)).toNatClampNeg).toInt64) &&& (4294967295 : Int64))) (xs ((nI (6 * j)) + (4 : Int32)).toNatClampNeg) ku m1).2.1)]) hD hS hA [5] rfl
  refine va_calli (va_runV (As := []) (rest := []) ⟨hx, hb, hml, hown, htB⟩ (c_X_thrown l dC dI z0 x0 x1 x2 x3 x4 H.size ((f_X_load (xs ((nI (6 * j)) + (1 : Int32)).toNatClampNeg) ((((xs ((nI (6 * j)) + (2 : Int32)).toNatClampNeg).toInt64) <<< ((32 : Int32).toInt64 &&& 63)) ||| (((xs ((nI (6 * j)) + (3 : Int32)).toNatClampNeg).toInt64) &&& (4294967295 : Int64))) (xs ((nI (6 * j)) + (4 : Int32)).toNatClampNeg) ku m1).2.1)) (cwV 0 htB (gd_V mw_501 mw_502 mw_503 mw_4 mw_504) rfl rfl rfl (by decide +kernel) ⟨Nat.le_of_ble_eq_true rfl, Nat.le_of_ble_eq_true rfl⟩) (pcx_V (va_recv hKc hPc (ci := 3) (q0 := 0) rfl rfl) hPc hKc hDc hA0 hE hS) rfl rfl hl.1 rfl (lv_room (Nat.le_of_ble_eq_true rfl)) d_L_law_174 ⟨by show _ ≤ 1041; omega, by show _ ≤ 10842; omega⟩) hS (fun q _ h => hFc q h) hFc (fun r9 u t H1 locs ht hvm hw hB hz1 hk1 hS => ?_)
  subst hw
  obtain ⟨hP1, hK1, hD1⟩ := hB
  rw [ht] at hP1
  obtain ⟨hP, hD⟩ := va_join (wr := [c_S qs q0 q1 g, c_P q0 q1 r, c_B q1 q2 q3 k, c_A q2 cM 1024 ((f_S_load (xs ((nI (6 * j)) + (1 : Int32)).toNatClampNeg) ((((xs ((nI (6 * j)) + (2 : Int32)).toNatClampNeg).toInt64) <<< ((32 : Int32).toInt64 &&& 63)) ||| (((xs ((nI (6 * j)) + (3 : Int32)).toNatClampNeg).toInt64) &&& (4294967295 : Int64))) (xs ((nI (6 * j)) + (4 : Int32)).toNatClampNeg) g r k M D).2.2), c_A q3 cD 256 D, c_A x1 c1 1024 ((f_X_load (xs ((nI (6 * j)) + (1 : Int32)).toNatClampNeg) ((((xs ((nI (6 * j)) + (2 : Int32)).toNatClampNeg).toInt64) <<< ((32 : Int32).toInt64 &&& 63)) ||| (((xs ((nI (6 * j)) + (3 : Int32)).toNatClampNeg).toInt64) &&& (4294967295 : Int64))) (xs ((nI (6 * j)) + (4 : Int32)).toNatClampNeg) ku m1).2.2), c_A x2 c2 256 m2, c_A x3 c3 9 m3, c_A x4 c4 9 m4, c_L qo cO u9]) (w1 := [c_X x0 x1 x2 x3 x4 ((f_X_load (xs ((nI (6 * j)) + (1 : Int32)).toNatClampNeg) ((((xs ((nI (6 * j)) + (2 : Int32)).toNatClampNeg).toInt64) <<< ((32 : Int32).toInt64 &&& 63)) ||| (((xs ((nI (6 * j)) + (3 : Int32)).toNatClampNeg).toInt64) &&& (4294967295 : Int64))) (xs ((nI (6 * j)) + (4 : Int32)).toNatClampNeg) ku m1).2.1)]) hP hD [5] [0, 1, 2, 3, 4, 6, 7, 8, 9, 10] rfl rfl (by decide) (by decide) hk1 hFc hP1 hD1
  generalize H1 = H at hP hS ⊢
  have hP : va_P (dC, dI) classes [c_S qs q0 q1 g, c_P q0 q1 r, c_B q1 q2 q3 k, c_A q2 cM 1024 ((f_S_load (xs ((nI (6 * j)) + (1 : Int32)).toNatClampNeg) ((((xs ((nI (6 * j)) + (2 : Int32)).toNatClampNeg).toInt64) <<< ((32 : Int32).toInt64 &&& 63)) ||| (((xs ((nI (6 * j)) + (3 : Int32)).toNatClampNeg).toInt64) &&& (4294967295 : Int64))) (xs ((nI (6 * j)) + (4 : Int32)).toNatClampNeg) g r k M D).2.2), c_A q3 cD 256 D, c_X x0 x1 x2 x3 x4 ((f_X_load (xs ((nI (6 * j)) + (1 : Int32)).toNatClampNeg) ((((xs ((nI (6 * j)) + (2 : Int32)).toNatClampNeg).toInt64) <<< ((32 : Int32).toInt64 &&& 63)) ||| (((xs ((nI (6 * j)) + (3 : Int32)).toNatClampNeg).toInt64) &&& (4294967295 : Int64))) (xs ((nI (6 * j)) + (4 : Int32)).toNatClampNeg) ku m1).2.1), c_A x1 c1 1024 ((f_X_load (xs ((nI (6 * j)) + (1 : Int32)).toNatClampNeg) ((((xs ((nI (6 * j)) + (2 : Int32)).toNatClampNeg).toInt64) <<< ((32 : Int32).toInt64 &&& 63)) ||| (((xs ((nI (6 * j)) + (3 : Int32)).toNatClampNeg).toInt64) &&& (4294967295 : Int64))) (xs ((nI (6 * j)) + (4 : Int32)).toNatClampNeg) ku m1).2.2), c_A x2 c2 256 m2, c_A x3 c3 9 m3, c_A x4 c4 9 m4, c_L qo cO u9] H := hP.sub [0, 1, 2, 3, 4, 10, 5, 6, 7, 8, 9] rfl
  have hD : va_D A [c_S qs q0 q1 g, c_P q0 q1 r, c_B q1 q2 q3 k, c_A q2 cM 1024 ((f_S_load (xs ((nI (6 * j)) + (1 : Int32)).toNatClampNeg) ((((xs ((nI (6 * j)) + (2 : Int32)).toNatClampNeg).toInt64) <<< ((32 : Int32).toInt64 &&& 63)) ||| (((xs ((nI (6 * j)) + (3 : Int32)).toNatClampNeg).toInt64) &&& (4294967295 : Int64))) (xs ((nI (6 * j)) + (4 : Int32)).toNatClampNeg) g r k M D).2.2), c_A q3 cD 256 D, c_X x0 x1 x2 x3 x4 ((f_X_load (xs ((nI (6 * j)) + (1 : Int32)).toNatClampNeg) ((((xs ((nI (6 * j)) + (2 : Int32)).toNatClampNeg).toInt64) <<< ((32 : Int32).toInt64 &&& 63)) ||| (((xs ((nI (6 * j)) + (3 : Int32)).toNatClampNeg).toInt64) &&& (4294967295 : Int64))) (xs ((nI (6 * j)) + (4 : Int32)).toNatClampNeg) ku m1).2.1), c_A x1 c1 1024 ((f_X_load (xs ((nI (6 * j)) + (1 : Int32)).toNatClampNeg) ((((xs ((nI (6 * j)) + (2 : Int32)).toNatClampNeg).toInt64) <<< ((32 : Int32).toInt64 &&& 63)) ||| (((xs ((nI (6 * j)) + (3 : Int32)).toNatClampNeg).toInt64) &&& (4294967295 : Int64))) (xs ((nI (6 * j)) + (4 : Int32)).toNatClampNeg) ku m1).2.2), c_A x2 c2 256 m2, c_A x3 c3 9 m3, c_A x4 c4 9 m4, c_L qo cO u9] := hD.sub [0, 1, 2, 3, 4, 10, 5, 6, 7, 8, 9] (by decide) rfl
  refine lv_iload hx hb d_L_law_177 (lv_at hl 1 rfl) ?_
  refine lv_icmp_eq (tgt := 184) hx hb d_L_law_179 (by decide) (fun _ => ?_) (fun c9 => absurd hR.1 c9)
  refine lv_iload hx hb d_L_law_184 (lv_at hl 1 rfl) ?_
  refine lv_if_ne (tgt := 201) hx hb d_L_law_186 (by decide) (fun c_1 => ?_) (fun c_1 => ?_)
  · refine lv_goto (tgt := 729) hx hb d_L_law_201 (by decide) ?_
    refine W.widen (k := 11 + 2 * (j + 1)) (n := 2614 + 12 * (j + 1)) (by omega) (by omega) ?_
    exact kk _ _ _ _ _ _ _ _ _ _ _ H _ ls hR.2.2 hP hD hS (lv_sub hl [2, 3, 4, 5, 6] rfl)
  · refine lv_aload_n hx hb d_L_law_189 rfl (lv_at hl 6 rfl) ?_
    refine lv_iconst (v := 0) hx hb d_L_law_190 (by decide) ?_
    refine va_lald hx hb hK hP 10 6 rfl rfl (show ¬ ((0 : Int32) < 0 ∨ 1 ≤ (0 : Int32).toNatClampNeg) from by decide) d_L_law_191 ?_
    refine lv_iload hx hb d_L_law_192 (lv_at hl 0 rfl) ?_
    refine lv_i2l hx hb d_L_law_194 rfl ?_
    refine W.lcmp hx hb d_L_law_195 ?_
    have f0 := cd_0 le_load c_1
    refine lv_if_eq (tgt := 201) hx hb d_L_law_196 (by decide) (fun _ => ?_) (fun c9 => absurd (lg_eq ((hw2 f0).trans (congrArg Int32.toInt64 (hR.2.1 f0).symm))) c9)
    refine lv_goto (tgt := 729) hx hb d_L_law_201 (by decide) ?_
    refine W.widen (k := 11 + 2 * (j + 1)) (n := 2614 + 12 * (j + 1)) (by omega) (by omega) ?_
    exact kk _ _ _ _ _ _ _ _ _ _ _ H _ ls hR.2.2 hP hD hS (lv_sub hl [2, 3, 4, 5, 6] rfl)

set_option maxHeartbeats 4000000 in
set_option maxRecDepth 100000 in
theorem LW_1 {p : Program} {l : Launch} (hl9 : l.stackTraces = false) {e : Env} {s : State} {m : MethodId} {below : List Frame} {meth : Method} {c : Code} {A : Nat → Prop} {z0 : Nat} {dC : Nat → ClassId} {dI : Nat → Nat → Nat} {qs : Nat} {q0 : Nat} {q1 : Nat} {q2 : Nat} {q3 : Nat} {cM : ClassId} {cD : ClassId} {x0 : Nat} {x1 : Nat} {x2 : Nat} {x3 : Nat} {x4 : Nat} {c1 : ClassId} {c2 : ClassId} {c3 : ClassId} {c4 : ClassId} {qo : Nat} {cO : ClassId} {b L : Nat} {xs : Nat → Int32} (hx : p.tables.exec = Jvm.exec) (hb : c.code = code) (hml : c.maxLocals = 7) (hown : s.vm.findClass R_law = some m.cls) (htB : ∀ w ∈ BIG, w.before #[Value.ref b] s = true) (hX : va_X b L xs s s.heap) (hbl : b < s.heap.size) (hbA : ¬ A b) (hA : ∀ q : Nat, s.heap.size ≤ q → A q) (hA0 : ∀ q, A q → z0 ≤ q) (hE : EN z0 s) (hK : va_K (dC, dI) classes [(cM, .int), (cD, .int), (c1, .int), (c2, .int), (c3, .int), (c4, .int), (cO, .long)] s) (hL : L ≤ 3072) {Q : State → Prop} {j : Nat} (hj : 6 * j + 6 ≤ L) (kk : ∀ (g r k M D ku m1 m2 m3 m4 : Nat → Int32) (o : Nat → Int64) (H : Heap) (locs : List Loc) (ls : Array Slot), Rel g r k M D ku m1 m2 m3 → va_P (dC, dI) classes [c_S qs q0 q1 g, c_P q0 q1 r, c_B q1 q2 q3 k, c_A q2 cM 1024 M, c_A q3 cD 256 D, c_X x0 x1 x2 x3 x4 ku, c_A x1 c1 1024 m1, c_A x2 c2 256 m2, c_A x3 c3 9 m3, c_A x4 c4 9 m4, c_L qo cO o] H → va_D A [c_S qs q0 q1 g, c_P q0 q1 r, c_B q1 q2 q3 k, c_A q2 cM 1024 M, c_A q3 cD 256 D, c_X x0 x1 x2 x3 x4 ku, c_A x1 c1 1024 m1, c_A x2 c2 256 m2, c_A x3 c3 9 m3, c_A x4 c4 9 m4, c_L qo cO o] → va_S A s.heap H locs → lv_has ls 7 [(4, .int (nI (6 * j))), (0, .ref b), (1, .ref qs), (2, .ref x0), (3, .ref qo)] → W p l e room_1 s m #[Value.ref b] below meth c H locs (11 + 2 * (j + 1)) (2614 + 12 * (j + 1)) Q (F0 m 729 ls [])) {g r k M D ku m1 m2 m3 m4 : Nat → Int32} {o : Nat → Int64} {H : Heap} {locs : List Loc} {ls : Array Slot} (hrel : Rel g r k M D ku m1 m2 m3) (hP : va_P (dC, dI) classes [c_S qs q0 q1 g, c_P q0 q1 r, c_B q1 q2 q3 k, c_A q2 cM 1024 M, c_A q3 cD 256 D, c_X x0 x1 x2 x3 x4 ku, c_A x1 c1 1024 m1, c_A x2 c2 256 m2, c_A x3 c3 9 m3, c_A x4 c4 9 m4, c_L qo cO o] H) (hD : va_D A [c_S qs q0 q1 g, c_P q0 q1 r, c_B q1 q2 q3 k, c_A q2 cM 1024 M, c_A q3 cD 256 D, c_X x0 x1 x2 x3 x4 ku, c_A x1 c1 1024 m1, c_A x2 c2 256 m2, c_A x3 c3 9 m3, c_A x4 c4 9 m4, c_L qo cO o]) (hS : va_S A s.heap H locs) (hl : lv_has ls 7 [(4, .int (nI (6 * j))), (0, .ref b), (1, .ref qs), (2, .ref x0), (3, .ref qo)]) : W p l e room_1 s m #[Value.ref b] below meth c H locs (11 + 2 * j) (2614 + 12 * j) Q (F0 m 204 ls []) := by
  have h_1 : vp_in (nI (6 * j) + (1 : Int32)) L := sx_in (k := 1) hj (by decide) hL
  have h_2 : vp_in (nI (6 * j) + (2 : Int32)) L := sx_in (k := 2) hj (by decide) hL
  have h_3 : vp_in (nI (6 * j) + (3 : Int32)) L := sx_in (k := 3) hj (by decide) hL
  have h_4 : vp_in (nI (6 * j) + (4 : Int32)) L := sx_in (k := 4) hj (by decide) hL
  have h_5 : vp_in (nI (6 * j) + (5 : Int32)) L := sx_in (k := 5) hj (by decide) hL
  refine lv_aload_n hx hb d_L_law_204 rfl (lv_at hl 2 rfl) ?_
  refine lv_aload_n hx hb d_L_law_205 rfl (lv_at hl 1 rfl) ?_
  refine lv_iload hx hb d_L_law_206 (lv_at hl 0 rfl) ?_
  refine lv_iconst (v := 1) hx hb d_L_law_208 (by decide) ?_
  refine lv_iadd hx hb d_L_law_209 ?_
  refine va_sld hx hb hX hbl hbA hS h_1 d_L_law_210 ?_
  refine lv_aload_n hx hb d_L_law_211 rfl (lv_at hl 1 rfl) ?_
  refine lv_iload hx hb d_L_law_212 (lv_at hl 0 rfl) ?_
  refine lv_iconst (v := 2) hx hb d_L_law_214 (by decide) ?_
  refine lv_iadd hx hb d_L_law_215 ?_
  refine va_sld hx hb hX hbl hbA hS h_2 d_L_law_216 ?_
  refine lv_aload_n hx hb d_L_law_217 rfl (lv_at hl 1 rfl) ?_
  refine lv_iload hx hb d_L_law_218 (lv_at hl 0 rfl) ?_
  refine lv_iconst (v := 3) hx hb d_L_law_220 (by decide) ?_
  refine lv_iadd hx hb d_L_law_221 ?_
  refine va_sld hx hb hX hbl hbA hS h_3 d_L_law_222 ?_
  refine lv_i2l hx hb d_L_law_223 rfl ?_
  refine lv_bipush (v := 32) hx hb d_L_law_224 (by decide) ?_
  refine lv_lshl hx hb d_L_law_226 rfl ?_
  refine lv_aload_n hx hb d_L_law_227 rfl (lv_at hl 1 rfl) ?_
  refine lv_iload hx hb d_L_law_228 (lv_at hl 0 rfl) ?_
  refine lv_iconst (v := 4) hx hb d_L_law_230 (by decide) ?_
  refine lv_iadd hx hb d_L_law_231 ?_
  refine va_sld hx hb hX hbl hbA hS h_4 d_L_law_232 ?_
  refine lv_i2l hx hb d_L_law_233 rfl ?_
  refine lv_ldc2 hx hb hown (htB _ mw_647) d_L_law_234 ?_
  refine lv_land hx hb d_L_law_237 ?_
  refine lv_lor hx hb d_L_law_238 ?_
  refine lv_aload_n hx hb d_L_law_239 rfl (lv_at hl 1 rfl) ?_
  refine lv_iload hx hb d_L_law_240 (lv_at hl 0 rfl) ?_
  refine lv_iconst (v := 5) hx hb d_L_law_242 (by decide) ?_
  refine lv_iadd hx hb d_L_law_243 ?_
  refine va_sld hx hb hX hbl hbA hS h_5 d_L_law_244 ?_
  refine lv_aload_n hx hb d_L_law_245 rfl (lv_at hl 4 rfl) ?_
  have hR := insert_rel (p1 := (xs ((nI (6 * j)) + (1 : Int32)).toNatClampNeg)) (p2 := (xs ((nI (6 * j)) + (2 : Int32)).toNatClampNeg)) (p3 := ((((xs ((nI (6 * j)) + (3 : Int32)).toNatClampNeg).toInt64) <<< ((32 : Int32).toInt64 &&& 63)) ||| (((xs ((nI (6 * j)) + (4 : Int32)).toNatClampNeg).toInt64) &&& (4294967295 : Int64)))) (p4 := (xs ((nI (6 * j)) + (5 : Int32)).toNatClampNeg)) hrel
  have hPc := hP.sub (ws' := [c_S qs q0 q1 g, c_P q0 q1 r, c_B q1 q2 q3 k, c_A q2 cM 1024 M, c_A q3 cD 256 D, c_L qo cO o]) [0, 1, 2, 3, 4, 10] rfl
  have hDc := hD.sub (ws' := [c_S qs q0 q1 g, c_P q0 q1 r, c_B q1 q2 q3 k, c_A q2 cM 1024 M, c_A q3 cD 256 D, c_L qo cO o]) [0, 1, 2, 3, 4, 10] (by decide) rfl
  have hKc := hK.sub (tys' := [(cM, .int), (cD, .int), (cO, .long)]) [0, 1, 6] rfl
  have hFc := va_free (wc := [c_S qs q0 q1 g, c_P q0 q1 r, c_B q1 q2 q3 k, c_A q2 cM 1024 M, c_A q3 cD 256 D, c_L qo cO o]) hD hS hA [0, 1, 2, 3, 4, 10] rfl
  refine va_calli (vx_runSW (As := [.ref qs, .int (xs ((nI (6 * j)) + (1 : Int32)).toNatClampNeg), .int (xs ((nI (6 * j)) + (2 : Int32)).toNatClampNeg), .long ((((xs ((nI (6 * j)) + (3 : Int32)).toNatClampNeg).toInt64) <<< ((32 : Int32).toInt64 &&& 63)) ||| (((xs ((nI (6 * j)) + (4 : Int32)).toNatClampNeg).toInt64) &&& (4294967295 : Int64))), .int (xs ((nI (6 * j)) + (5 : Int32)).toNatClampNeg), .ref qo]) (rest := []) ⟨hx, hb, hml, hown, htB⟩ (c_L_insert l hl9 dC dI z0 qs q0 q1 q2 q3 cM cD qo cO H.size (xs ((nI (6 * j)) + (1 : Int32)).toNatClampNeg) (xs ((nI (6 * j)) + (2 : Int32)).toNatClampNeg) ((((xs ((nI (6 * j)) + (3 : Int32)).toNatClampNeg).toInt64) <<< ((32 : Int32).toInt64 &&& 63)) ||| (((xs ((nI (6 * j)) + (4 : Int32)).toNatClampNeg).toInt64) &&& (4294967295 : Int64))) (xs ((nI (6 * j)) + (5 : Int32)).toNatClampNeg) g r k M D o) (vx_cwSW 6 htB (gd_SW mw_206 mw_207 mw_0 mw_208) rfl rfl rfl (by decide +kernel) ⟨Nat.le_of_ble_eq_true rfl, Nat.le_of_ble_eq_true rfl⟩) (pcx_S hPc hKc hDc hA0 hE hS) rfl rfl hl.1 rfl (lv_room (Nat.le_of_ble_eq_true rfl)) d_L_law_246 ⟨by show _ ≤ 1041; omega, by show _ ≤ 10842; omega⟩) hS (fun q _ h => hFc q h) hFc (fun r9 u9 t H1 locs ht hvm hw hB hz1 hk1 hS => ?_)
  obtain ⟨hw1, hw2⟩ := hw
  subst hw1
  obtain ⟨hP1, hK1, hD1⟩ := hB
  rw [ht] at hP1
  obtain ⟨hP, hD⟩ := va_join (wr := [c_X x0 x1 x2 x3 x4 ku, c_A x1 c1 1024 m1, c_A x2 c2 256 m2, c_A x3 c3 9 m3, c_A x4 c4 9 m4]) (w1 := [c_S qs q0 q1 g, c_P q0 q1 r, c_B q1 q2 q3 k, c_A q2 cM 1024 M, c_A q3 cD 256 ((f_S_insert (xs ((nI (6 * j)) + (1 : Int32)).toNatClampNeg) (xs ((nI (6 * j)) + (2 : Int32)).toNatClampNeg) ((((xs ((nI (6 * j)) + (3 : Int32)).toNatClampNeg).toInt64) <<< ((32 : Int32).toInt64 &&& 63)) ||| (((xs ((nI (6 * j)) + (4 : Int32)).toNatClampNeg).toInt64) &&& (4294967295 : Int64))) (xs ((nI (6 * j)) + (5 : Int32)).toNatClampNeg) g r k M D).2.2), c_L qo cO u9]) hP hD [0, 1, 2, 3, 4, 10] [5, 6, 7, 8, 9] rfl rfl (by decide) (by decide) hk1 hFc hP1 hD1
  generalize H1 = H at hP hS ⊢
  have hP : va_P (dC, dI) classes [c_S qs q0 q1 g, c_P q0 q1 r, c_B q1 q2 q3 k, c_A q2 cM 1024 M, c_A q3 cD 256 ((f_S_insert (xs ((nI (6 * j)) + (1 : Int32)).toNatClampNeg) (xs ((nI (6 * j)) + (2 : Int32)).toNatClampNeg) ((((xs ((nI (6 * j)) + (3 : Int32)).toNatClampNeg).toInt64) <<< ((32 : Int32).toInt64 &&& 63)) ||| (((xs ((nI (6 * j)) + (4 : Int32)).toNatClampNeg).toInt64) &&& (4294967295 : Int64))) (xs ((nI (6 * j)) + (5 : Int32)).toNatClampNeg) g r k M D).2.2), c_X x0 x1 x2 x3 x4 ku, c_A x1 c1 1024 m1, c_A x2 c2 256 m2, c_A x3 c3 9 m3, c_A x4 c4 9 m4, c_L qo cO u9] H := hP.sub [5, 6, 7, 8, 9, 0, 1, 2, 3, 4, 10] rfl
  have hD : va_D A [c_S qs q0 q1 g, c_P q0 q1 r, c_B q1 q2 q3 k, c_A q2 cM 1024 M, c_A q3 cD 256 ((f_S_insert (xs ((nI (6 * j)) + (1 : Int32)).toNatClampNeg) (xs ((nI (6 * j)) + (2 : Int32)).toNatClampNeg) ((((xs ((nI (6 * j)) + (3 : Int32)).toNatClampNeg).toInt64) <<< ((32 : Int32).toInt64 &&& 63)) ||| (((xs ((nI (6 * j)) + (4 : Int32)).toNatClampNeg).toInt64) &&& (4294967295 : Int64))) (xs ((nI (6 * j)) + (5 : Int32)).toNatClampNeg) g r k M D).2.2), c_X x0 x1 x2 x3 x4 ku, c_A x1 c1 1024 m1, c_A x2 c2 256 m2, c_A x3 c3 9 m3, c_A x4 c4 9 m4, c_L qo cO u9] := hD.sub [5, 6, 7, 8, 9, 0, 1, 2, 3, 4, 10] (by decide) rfl
  refine lv_istore (lv' := [(5, .int (nI ((f_S_insert (xs ((nI (6 * j)) + (1 : Int32)).toNatClampNeg) (xs ((nI (6 * j)) + (2 : Int32)).toNatClampNeg) ((((xs ((nI (6 * j)) + (3 : Int32)).toNatClampNeg).toInt64) <<< ((32 : Int32).toInt64 &&& 63)) ||| (((xs ((nI (6 * j)) + (4 : Int32)).toNatClampNeg).toInt64) &&& (4294967295 : Int64))) (xs ((nI (6 * j)) + (5 : Int32)).toNatClampNeg) g r k M D).1))), (4, .int (nI (6 * j))), (0, .ref b), (1, .ref qs), (2, .ref x0), (3, .ref qo)]) hx hb d_L_law_249 hl (by decide) rfl (fun ls hl => ?_)
  refine lv_aload_n hx hb d_L_law_251 rfl (lv_at hl 4 rfl) ?_
  refine lv_aload_n hx hb d_L_law_252 rfl (lv_at hl 2 rfl) ?_
  refine lv_iload hx hb d_L_law_253 (lv_at hl 1 rfl) ?_
  refine lv_iconst (v := 1) hx hb d_L_law_255 (by decide) ?_
  refine lv_iadd hx hb d_L_law_256 ?_
  refine va_sld hx hb hX hbl hbA hS h_1 d_L_law_257 ?_
  refine lv_aload_n hx hb d_L_law_258 rfl (lv_at hl 2 rfl) ?_
  refine lv_iload hx hb d_L_law_259 (lv_at hl 1 rfl) ?_
  refine lv_iconst (v := 2) hx hb d_L_law_261 (by decide) ?_
  refine lv_iadd hx hb d_L_law_262 ?_
  refine va_sld hx hb hX hbl hbA hS h_2 d_L_law_263 ?_
  refine lv_aload_n hx hb d_L_law_264 rfl (lv_at hl 2 rfl) ?_
  refine lv_iload hx hb d_L_law_265 (lv_at hl 1 rfl) ?_
  refine lv_iconst (v := 3) hx hb d_L_law_267 (by decide) ?_
  refine lv_iadd hx hb d_L_law_268 ?_
  refine va_sld hx hb hX hbl hbA hS h_3 d_L_law_269 ?_
  refine lv_i2l hx hb d_L_law_270 rfl ?_
  refine lv_bipush (v := 32) hx hb d_L_law_271 (by decide) ?_
  refine lv_lshl hx hb d_L_law_273 rfl ?_
  refine lv_aload_n hx hb d_L_law_274 rfl (lv_at hl 2 rfl) ?_
  refine lv_iload hx hb d_L_law_275 (lv_at hl 1 rfl) ?_
  refine lv_iconst (v := 4) hx hb d_L_law_277 (by decide) ?_
  refine lv_iadd hx hb d_L_law_278 ?_
  refine va_sld hx hb hX hbl hbA hS h_4 d_L_law_279 ?_
  refine lv_i2l hx hb d_L_law_280 rfl ?_
  refine lv_ldc2 hx hb hown (htB _ mw_647) d_L_law_281 ?_
  refine lv_land hx hb d_L_law_284 ?_
  refine lv_lor hx hb d_L_law_285 ?_
  refine lv_aload_n hx hb d_L_law_286 rfl (lv_at hl 2 rfl) ?_
  refine lv_iload hx hb d_L_law_287 (lv_at hl 1 rfl) ?_
  refine lv_iconst (v := 5) hx hb d_L_law_289 (by decide) ?_
  refine lv_iadd hx hb d_L_law_290 ?_
  refine va_sld hx hb hX hbl hbA hS h_5 d_L_law_291 ?_
  have hPc := hP.sub (ws' := [c_X x0 x1 x2 x3 x4 ku, c_A x2 c2 256 m2]) [5, 7] rfl
  have hDc := hD.sub (ws' := [c_X x0 x1 x2 x3 x4 ku, c_A x2 c2 256 m2]) [5, 7] (by decide) rfl
  have hKc := hK.sub (tys' := [(c2, .int)]) [3] rfl
  have hFc := va_free (wc := [c_X x0 x1 x2 x3 x4 ku, c_A x2 c2 256 m2]) hD hS hA [5, 7] rfl
  refine va_calli (va_runV (As := [.int (xs ((nI (6 * j)) + (1 : Int32)).toNatClampNeg), .int (xs ((nI (6 * j)) + (2 : Int32)).toNatClampNeg), .long ((((xs ((nI (6 * j)) + (3 : Int32)).toNatClampNeg).toInt64) <<< ((32 : Int32).toInt64 &&& 63)) ||| (((xs ((nI (6 * j)) + (4 : Int32)).toNatClampNeg).toInt64) &&& (4294967295 : Int64))), .int (xs ((nI (6 * j)) + (5 : Int32)).toNatClampNeg)]) (rest := []) ⟨hx, hb, hml, hown, htB⟩ (c_X_insert l dC dI z0 x0 x1 x2 x3 x4 c2 H.size (xs ((nI (6 * j)) + (1 : Int32)).toNatClampNeg) (xs ((nI (6 * j)) + (2 : Int32)).toNatClampNeg) ((((xs ((nI (6 * j)) + (3 : Int32)).toNatClampNeg).toInt64) <<< ((32 : Int32).toInt64 &&& 63)) ||| (((xs ((nI (6 * j)) + (4 : Int32)).toNatClampNeg).toInt64) &&& (4294967295 : Int64))) (xs ((nI (6 * j)) + (5 : Int32)).toNatClampNeg) ku m2) (cwV 4 htB (gd_V mw_516 mw_517 mw_518 mw_4 mw_519) rfl rfl rfl (by decide +kernel) ⟨Nat.le_of_ble_eq_true rfl, Nat.le_of_ble_eq_true rfl⟩) (pcx_V (va_recv hKc hPc (ci := 3) (q0 := 0) rfl rfl) hPc hKc hDc hA0 hE hS) rfl rfl hl.1 rfl (lv_room (Nat.le_of_ble_eq_true rfl)) d_L_law_292 ⟨by show _ ≤ 1041; omega, by show _ ≤ 10842; omega⟩) hS (fun q _ h => hFc q h) hFc (fun r9 u t H1 locs ht hvm hw hB hz1 hk1 hS => ?_)
  subst hw
  obtain ⟨hP1, hK1, hD1⟩ := hB
  rw [ht] at hP1
  obtain ⟨hP, hD⟩ := va_join (wr := [c_S qs q0 q1 g, c_P q0 q1 r, c_B q1 q2 q3 k, c_A q2 cM 1024 M, c_A q3 cD 256 ((f_S_insert (xs ((nI (6 * j)) + (1 : Int32)).toNatClampNeg) (xs ((nI (6 * j)) + (2 : Int32)).toNatClampNeg) ((((xs ((nI (6 * j)) + (3 : Int32)).toNatClampNeg).toInt64) <<< ((32 : Int32).toInt64 &&& 63)) ||| (((xs ((nI (6 * j)) + (4 : Int32)).toNatClampNeg).toInt64) &&& (4294967295 : Int64))) (xs ((nI (6 * j)) + (5 : Int32)).toNatClampNeg) g r k M D).2.2), c_A x1 c1 1024 m1, c_A x3 c3 9 m3, c_A x4 c4 9 m4, c_L qo cO u9]) (w1 := [c_X x0 x1 x2 x3 x4 ((f_X_insert (xs ((nI (6 * j)) + (1 : Int32)).toNatClampNeg) (xs ((nI (6 * j)) + (2 : Int32)).toNatClampNeg) ((((xs ((nI (6 * j)) + (3 : Int32)).toNatClampNeg).toInt64) <<< ((32 : Int32).toInt64 &&& 63)) ||| (((xs ((nI (6 * j)) + (4 : Int32)).toNatClampNeg).toInt64) &&& (4294967295 : Int64))) (xs ((nI (6 * j)) + (5 : Int32)).toNatClampNeg) ku m2).2.1), c_A x2 c2 256 ((f_X_insert (xs ((nI (6 * j)) + (1 : Int32)).toNatClampNeg) (xs ((nI (6 * j)) + (2 : Int32)).toNatClampNeg) ((((xs ((nI (6 * j)) + (3 : Int32)).toNatClampNeg).toInt64) <<< ((32 : Int32).toInt64 &&& 63)) ||| (((xs ((nI (6 * j)) + (4 : Int32)).toNatClampNeg).toInt64) &&& (4294967295 : Int64))) (xs ((nI (6 * j)) + (5 : Int32)).toNatClampNeg) ku m2).2.2)]) hP hD [5, 7] [0, 1, 2, 3, 4, 6, 8, 9, 10] rfl rfl (by decide) (by decide) hk1 hFc hP1 hD1
  generalize H1 = H at hP hS ⊢
  have hP : va_P (dC, dI) classes [c_S qs q0 q1 g, c_P q0 q1 r, c_B q1 q2 q3 k, c_A q2 cM 1024 M, c_A q3 cD 256 ((f_S_insert (xs ((nI (6 * j)) + (1 : Int32)).toNatClampNeg) (xs ((nI (6 * j)) + (2 : Int32)).toNatClampNeg) ((((xs ((nI (6 * j)) + (3 : Int32)).toNatClampNeg).toInt64) <<< ((32 : Int32).toInt64 &&& 63)) ||| (((xs ((nI (6 * j)) + (4 : Int32)).toNatClampNeg).toInt64) &&& (4294967295 : Int64))) (xs ((nI (6 * j)) + (5 : Int32)).toNatClampNeg) g r k M D).2.2), c_X x0 x1 x2 x3 x4 ((f_X_insert (xs ((nI (6 * j)) + (1 : Int32)).toNatClampNeg) (xs ((nI (6 * j)) + (2 : Int32)).toNatClampNeg) ((((xs ((nI (6 * j)) + (3 : Int32)).toNatClampNeg).toInt64) <<< ((32 : Int32).toInt64 &&& 63)) ||| (((xs ((nI (6 * j)) + (4 : Int32)).toNatClampNeg).toInt64) &&& (4294967295 : Int64))) (xs ((nI (6 * j)) + (5 : Int32)).toNatClampNeg) ku m2).2.1), c_A x1 c1 1024 m1, c_A x2 c2 256 ((f_X_insert (xs ((nI (6 * j)) + (1 : Int32)).toNatClampNeg) (xs ((nI (6 * j)) + (2 : Int32)).toNatClampNeg) ((((xs ((nI (6 * j)) + (3 : Int32)).toNatClampNeg).toInt64) <<< ((32 : Int32).toInt64 &&& 63)) ||| (((xs ((nI (6 * j)) + (4 : Int32)).toNatClampNeg).toInt64) &&& (4294967295 : Int64))) (xs ((nI (6 * j)) + (5 : Int32)).toNatClampNeg) ku m2).2.2), c_A x3 c3 9 m3, c_A x4 c4 9 m4, c_L qo cO u9] H := hP.sub [0, 1, 2, 3, 4, 9, 5, 10, 6, 7, 8] rfl
  have hD : va_D A [c_S qs q0 q1 g, c_P q0 q1 r, c_B q1 q2 q3 k, c_A q2 cM 1024 M, c_A q3 cD 256 ((f_S_insert (xs ((nI (6 * j)) + (1 : Int32)).toNatClampNeg) (xs ((nI (6 * j)) + (2 : Int32)).toNatClampNeg) ((((xs ((nI (6 * j)) + (3 : Int32)).toNatClampNeg).toInt64) <<< ((32 : Int32).toInt64 &&& 63)) ||| (((xs ((nI (6 * j)) + (4 : Int32)).toNatClampNeg).toInt64) &&& (4294967295 : Int64))) (xs ((nI (6 * j)) + (5 : Int32)).toNatClampNeg) g r k M D).2.2), c_X x0 x1 x2 x3 x4 ((f_X_insert (xs ((nI (6 * j)) + (1 : Int32)).toNatClampNeg) (xs ((nI (6 * j)) + (2 : Int32)).toNatClampNeg) ((((xs ((nI (6 * j)) + (3 : Int32)).toNatClampNeg).toInt64) <<< ((32 : Int32).toInt64 &&& 63)) ||| (((xs ((nI (6 * j)) + (4 : Int32)).toNatClampNeg).toInt64) &&& (4294967295 : Int64))) (xs ((nI (6 * j)) + (5 : Int32)).toNatClampNeg) ku m2).2.1), c_A x1 c1 1024 m1, c_A x2 c2 256 ((f_X_insert (xs ((nI (6 * j)) + (1 : Int32)).toNatClampNeg) (xs ((nI (6 * j)) + (2 : Int32)).toNatClampNeg) ((((xs ((nI (6 * j)) + (3 : Int32)).toNatClampNeg).toInt64) <<< ((32 : Int32).toInt64 &&& 63)) ||| (((xs ((nI (6 * j)) + (4 : Int32)).toNatClampNeg).toInt64) &&& (4294967295 : Int64))) (xs ((nI (6 * j)) + (5 : Int32)).toNatClampNeg) ku m2).2.2), c_A x3 c3 9 m3, c_A x4 c4 9 m4, c_L qo cO u9] := hD.sub [0, 1, 2, 3, 4, 9, 5, 10, 6, 7, 8] (by decide) rfl
  refine lv_istore (lv' := [(6, .int ((f_X_insert (xs ((nI (6 * j)) + (1 : Int32)).toNatClampNeg) (xs ((nI (6 * j)) + (2 : Int32)).toNatClampNeg) ((((xs ((nI (6 * j)) + (3 : Int32)).toNatClampNeg).toInt64) <<< ((32 : Int32).toInt64 &&& 63)) ||| (((xs ((nI (6 * j)) + (4 : Int32)).toNatClampNeg).toInt64) &&& (4294967295 : Int64))) (xs ((nI (6 * j)) + (5 : Int32)).toNatClampNeg) ku m2).1)), (5, .int (nI ((f_S_insert (xs ((nI (6 * j)) + (1 : Int32)).toNatClampNeg) (xs ((nI (6 * j)) + (2 : Int32)).toNatClampNeg) ((((xs ((nI (6 * j)) + (3 : Int32)).toNatClampNeg).toInt64) <<< ((32 : Int32).toInt64 &&& 63)) ||| (((xs ((nI (6 * j)) + (4 : Int32)).toNatClampNeg).toInt64) &&& (4294967295 : Int64))) (xs ((nI (6 * j)) + (5 : Int32)).toNatClampNeg) g r k M D).1))), (4, .int (nI (6 * j))), (0, .ref b), (1, .ref qs), (2, .ref x0), (3, .ref qo)]) hx hb d_L_law_295 hl (by decide) rfl (fun ls hl => ?_)
  refine lv_aload_n hx hb d_L_law_297 rfl (lv_at hl 5 rfl) ?_
  have hPc := hP.sub (ws' := [c_X x0 x1 x2 x3 x4 ((f_X_insert (xs ((nI (6 * j)) + (1 : Int32)).toNatClampNeg) (xs ((nI (6 * j)) + (2 : Int32)).toNatClampNeg) ((((xs ((nI (6 * j)) + (3 : Int32)).toNatClampNeg).toInt64) <<< ((32 : Int32).toInt64 &&& 63)) ||| (((xs ((nI (6 * j)) + (4 : Int32)).toNatClampNeg).toInt64) &&& (4294967295 : Int64))) (xs ((nI (6 * j)) + (5 : Int32)).toNatClampNeg) ku m2).2.1)]) [5] rfl
  have hDc := hD.sub (ws' := [c_X x0 x1 x2 x3 x4 ((f_X_insert (xs ((nI (6 * j)) + (1 : Int32)).toNatClampNeg) (xs ((nI (6 * j)) + (2 : Int32)).toNatClampNeg) ((((xs ((nI (6 * j)) + (3 : Int32)).toNatClampNeg).toInt64) <<< ((32 : Int32).toInt64 &&& 63)) ||| (((xs ((nI (6 * j)) + (4 : Int32)).toNatClampNeg).toInt64) &&& (4294967295 : Int64))) (xs ((nI (6 * j)) + (5 : Int32)).toNatClampNeg) ku m2).2.1)]) [5] (by decide) rfl
  have hKc := hK.sub (tys' := []) [] rfl
  have hFc := va_free (wc := [c_X x0 x1 x2 x3 x4 ((f_X_insert (xs ((nI (6 * j)) + (1 : Int32)).toNatClampNeg) (xs ((nI (6 * j)) + (2 : Int32)).toNatClampNeg) ((((xs ((nI (6 * j)) + (3 : Int32)).toNatClampNeg).toInt64) <<< ((32 : Int32).toInt64 &&& 63)) ||| (((xs ((nI (6 * j)) + (4 : Int32)).toNatClampNeg).toInt64) &&& (4294967295 : Int64))) (xs ((nI (6 * j)) + (5 : Int32)).toNatClampNeg) ku m2).2.1)]) hD hS hA [5] rfl
  refine va_calli (va_runV (As := []) (rest := []) ⟨hx, hb, hml, hown, htB⟩ (c_X_thrown l dC dI z0 x0 x1 x2 x3 x4 H.size ((f_X_insert (xs ((nI (6 * j)) + (1 : Int32)).toNatClampNeg) (xs ((nI (6 * j)) + (2 : Int32)).toNatClampNeg) ((((xs ((nI (6 * j)) + (3 : Int32)).toNatClampNeg).toInt64) <<< ((32 : Int32).toInt64 &&& 63)) ||| (((xs ((nI (6 * j)) + (4 : Int32)).toNatClampNeg).toInt64) &&& (4294967295 : Int64))) (xs ((nI (6 * j)) + (5 : Int32)).toNatClampNeg) ku m2).2.1)) (cwV 0 htB (gd_V mw_501 mw_502 mw_503 mw_4 mw_504) rfl rfl rfl (by decide +kernel) ⟨Nat.le_of_ble_eq_true rfl, Nat.le_of_ble_eq_true rfl⟩) (pcx_V (va_recv hKc hPc (ci := 3) (q0 := 0) rfl rfl) hPc hKc hDc hA0 hE hS) rfl rfl hl.1 rfl (lv_room (Nat.le_of_ble_eq_true rfl)) d_L_law_298 ⟨by show _ ≤ 1041; omega, by show _ ≤ 10842; omega⟩) hS (fun q _ h => hFc q h) hFc (fun r9 u t H1 locs ht hvm hw hB hz1 hk1 hS => ?_)
  subst hw
  obtain ⟨hP1, hK1, hD1⟩ := hB
  rw [ht] at hP1
  obtain ⟨hP, hD⟩ := va_join (wr := [c_S qs q0 q1 g, c_P q0 q1 r, c_B q1 q2 q3 k, c_A q2 cM 1024 M, c_A q3 cD 256 ((f_S_insert (xs ((nI (6 * j)) + (1 : Int32)).toNatClampNeg) (xs ((nI (6 * j)) + (2 : Int32)).toNatClampNeg) ((((xs ((nI (6 * j)) + (3 : Int32)).toNatClampNeg).toInt64) <<< ((32 : Int32).toInt64 &&& 63)) ||| (((xs ((nI (6 * j)) + (4 : Int32)).toNatClampNeg).toInt64) &&& (4294967295 : Int64))) (xs ((nI (6 * j)) + (5 : Int32)).toNatClampNeg) g r k M D).2.2), c_A x1 c1 1024 m1, c_A x2 c2 256 ((f_X_insert (xs ((nI (6 * j)) + (1 : Int32)).toNatClampNeg) (xs ((nI (6 * j)) + (2 : Int32)).toNatClampNeg) ((((xs ((nI (6 * j)) + (3 : Int32)).toNatClampNeg).toInt64) <<< ((32 : Int32).toInt64 &&& 63)) ||| (((xs ((nI (6 * j)) + (4 : Int32)).toNatClampNeg).toInt64) &&& (4294967295 : Int64))) (xs ((nI (6 * j)) + (5 : Int32)).toNatClampNeg) ku m2).2.2), c_A x3 c3 9 m3, c_A x4 c4 9 m4, c_L qo cO u9]) (w1 := [c_X x0 x1 x2 x3 x4 ((f_X_insert (xs ((nI (6 * j)) + (1 : Int32)).toNatClampNeg) (xs ((nI (6 * j)) + (2 : Int32)).toNatClampNeg) ((((xs ((nI (6 * j)) + (3 : Int32)).toNatClampNeg).toInt64) <<< ((32 : Int32).toInt64 &&& 63)) ||| (((xs ((nI (6 * j)) + (4 : Int32)).toNatClampNeg).toInt64) &&& (4294967295 : Int64))) (xs ((nI (6 * j)) + (5 : Int32)).toNatClampNeg) ku m2).2.1)]) hP hD [5] [0, 1, 2, 3, 4, 6, 7, 8, 9, 10] rfl rfl (by decide) (by decide) hk1 hFc hP1 hD1
  generalize H1 = H at hP hS ⊢
  have hP : va_P (dC, dI) classes [c_S qs q0 q1 g, c_P q0 q1 r, c_B q1 q2 q3 k, c_A q2 cM 1024 M, c_A q3 cD 256 ((f_S_insert (xs ((nI (6 * j)) + (1 : Int32)).toNatClampNeg) (xs ((nI (6 * j)) + (2 : Int32)).toNatClampNeg) ((((xs ((nI (6 * j)) + (3 : Int32)).toNatClampNeg).toInt64) <<< ((32 : Int32).toInt64 &&& 63)) ||| (((xs ((nI (6 * j)) + (4 : Int32)).toNatClampNeg).toInt64) &&& (4294967295 : Int64))) (xs ((nI (6 * j)) + (5 : Int32)).toNatClampNeg) g r k M D).2.2), c_X x0 x1 x2 x3 x4 ((f_X_insert (xs ((nI (6 * j)) + (1 : Int32)).toNatClampNeg) (xs ((nI (6 * j)) + (2 : Int32)).toNatClampNeg) ((((xs ((nI (6 * j)) + (3 : Int32)).toNatClampNeg).toInt64) <<< ((32 : Int32).toInt64 &&& 63)) ||| (((xs ((nI (6 * j)) + (4 : Int32)).toNatClampNeg).toInt64) &&& (4294967295 : Int64))) (xs ((nI (6 * j)) + (5 : Int32)).toNatClampNeg) ku m2).2.1), c_A x1 c1 1024 m1, c_A x2 c2 256 ((f_X_insert (xs ((nI (6 * j)) + (1 : Int32)).toNatClampNeg) (xs ((nI (6 * j)) + (2 : Int32)).toNatClampNeg) ((((xs ((nI (6 * j)) + (3 : Int32)).toNatClampNeg).toInt64) <<< ((32 : Int32).toInt64 &&& 63)) ||| (((xs ((nI (6 * j)) + (4 : Int32)).toNatClampNeg).toInt64) &&& (4294967295 : Int64))) (xs ((nI (6 * j)) + (5 : Int32)).toNatClampNeg) ku m2).2.2), c_A x3 c3 9 m3, c_A x4 c4 9 m4, c_L qo cO u9] H := hP.sub [0, 1, 2, 3, 4, 10, 5, 6, 7, 8, 9] rfl
  have hD : va_D A [c_S qs q0 q1 g, c_P q0 q1 r, c_B q1 q2 q3 k, c_A q2 cM 1024 M, c_A q3 cD 256 ((f_S_insert (xs ((nI (6 * j)) + (1 : Int32)).toNatClampNeg) (xs ((nI (6 * j)) + (2 : Int32)).toNatClampNeg) ((((xs ((nI (6 * j)) + (3 : Int32)).toNatClampNeg).toInt64) <<< ((32 : Int32).toInt64 &&& 63)) ||| (((xs ((nI (6 * j)) + (4 : Int32)).toNatClampNeg).toInt64) &&& (4294967295 : Int64))) (xs ((nI (6 * j)) + (5 : Int32)).toNatClampNeg) g r k M D).2.2), c_X x0 x1 x2 x3 x4 ((f_X_insert (xs ((nI (6 * j)) + (1 : Int32)).toNatClampNeg) (xs ((nI (6 * j)) + (2 : Int32)).toNatClampNeg) ((((xs ((nI (6 * j)) + (3 : Int32)).toNatClampNeg).toInt64) <<< ((32 : Int32).toInt64 &&& 63)) ||| (((xs ((nI (6 * j)) + (4 : Int32)).toNatClampNeg).toInt64) &&& (4294967295 : Int64))) (xs ((nI (6 * j)) + (5 : Int32)).toNatClampNeg) ku m2).2.1), c_A x1 c1 1024 m1, c_A x2 c2 256 ((f_X_insert (xs ((nI (6 * j)) + (1 : Int32)).toNatClampNeg) (xs ((nI (6 * j)) + (2 : Int32)).toNatClampNeg) ((((xs ((nI (6 * j)) + (3 : Int32)).toNatClampNeg).toInt64) <<< ((32 : Int32).toInt64 &&& 63)) ||| (((xs ((nI (6 * j)) + (4 : Int32)).toNatClampNeg).toInt64) &&& (4294967295 : Int64))) (xs ((nI (6 * j)) + (5 : Int32)).toNatClampNeg) ku m2).2.2), c_A x3 c3 9 m3, c_A x4 c4 9 m4, c_L qo cO u9] := hD.sub [0, 1, 2, 3, 4, 10, 5, 6, 7, 8, 9] (by decide) rfl
  refine lv_iload hx hb d_L_law_301 (lv_at hl 1 rfl) ?_
  refine lv_icmp_eq (tgt := 308) hx hb d_L_law_303 (by decide) (fun _ => ?_) (fun c9 => absurd hR.1 c9)
  refine lv_iload hx hb d_L_law_308 (lv_at hl 1 rfl) ?_
  refine lv_if_ne (tgt := 325) hx hb d_L_law_310 (by decide) (fun c_1 => ?_) (fun c_1 => ?_)
  · refine lv_goto (tgt := 729) hx hb d_L_law_325 (by decide) ?_
    refine W.widen (k := 11 + 2 * (j + 1)) (n := 2614 + 12 * (j + 1)) (by omega) (by omega) ?_
    exact kk _ _ _ _ _ _ _ _ _ _ _ H _ ls hR.2.2 hP hD hS (lv_sub hl [2, 3, 4, 5, 6] rfl)
  · refine lv_aload_n hx hb d_L_law_313 rfl (lv_at hl 6 rfl) ?_
    refine lv_iconst (v := 0) hx hb d_L_law_314 (by decide) ?_
    refine va_lald hx hb hK hP 10 6 rfl rfl (show ¬ ((0 : Int32) < 0 ∨ 1 ≤ (0 : Int32).toNatClampNeg) from by decide) d_L_law_315 ?_
    refine lv_iload hx hb d_L_law_316 (lv_at hl 0 rfl) ?_
    refine lv_i2l hx hb d_L_law_318 rfl ?_
    refine W.lcmp hx hb d_L_law_319 ?_
    have f0 := cd_0 le_insert c_1
    refine lv_if_eq (tgt := 325) hx hb d_L_law_320 (by decide) (fun _ => ?_) (fun c9 => absurd (lg_eq ((hw2 f0).trans (congrArg Int32.toInt64 (hR.2.1 f0).symm))) c9)
    refine lv_goto (tgt := 729) hx hb d_L_law_325 (by decide) ?_
    refine W.widen (k := 11 + 2 * (j + 1)) (n := 2614 + 12 * (j + 1)) (by omega) (by omega) ?_
    exact kk _ _ _ _ _ _ _ _ _ _ _ H _ ls hR.2.2 hP hD hS (lv_sub hl [2, 3, 4, 5, 6] rfl)

set_option maxHeartbeats 4000000 in
set_option maxRecDepth 100000 in
theorem LW_2 {p : Program} {l : Launch} (hl9 : l.stackTraces = false) {e : Env} {s : State} {m : MethodId} {below : List Frame} {meth : Method} {c : Code} {A : Nat → Prop} {z0 : Nat} {dC : Nat → ClassId} {dI : Nat → Nat → Nat} {qs : Nat} {q0 : Nat} {q1 : Nat} {q2 : Nat} {q3 : Nat} {cM : ClassId} {cD : ClassId} {x0 : Nat} {x1 : Nat} {x2 : Nat} {x3 : Nat} {x4 : Nat} {c1 : ClassId} {c2 : ClassId} {c3 : ClassId} {c4 : ClassId} {qo : Nat} {cO : ClassId} {b L : Nat} {xs : Nat → Int32} (hx : p.tables.exec = Jvm.exec) (hb : c.code = code) (hml : c.maxLocals = 7) (hown : s.vm.findClass R_law = some m.cls) (htB : ∀ w ∈ BIG, w.before #[Value.ref b] s = true) (hX : va_X b L xs s s.heap) (hbl : b < s.heap.size) (hbA : ¬ A b) (hA : ∀ q : Nat, s.heap.size ≤ q → A q) (hA0 : ∀ q, A q → z0 ≤ q) (hE : EN z0 s) (hK : va_K (dC, dI) classes [(cM, .int), (cD, .int), (c1, .int), (c2, .int), (c3, .int), (c4, .int), (cO, .long)] s) (hL : L ≤ 3072) {Q : State → Prop} {j : Nat} (hj : 6 * j + 6 ≤ L) (kk : ∀ (g r k M D ku m1 m2 m3 m4 : Nat → Int32) (o : Nat → Int64) (H : Heap) (locs : List Loc) (ls : Array Slot), Rel g r k M D ku m1 m2 m3 → va_P (dC, dI) classes [c_S qs q0 q1 g, c_P q0 q1 r, c_B q1 q2 q3 k, c_A q2 cM 1024 M, c_A q3 cD 256 D, c_X x0 x1 x2 x3 x4 ku, c_A x1 c1 1024 m1, c_A x2 c2 256 m2, c_A x3 c3 9 m3, c_A x4 c4 9 m4, c_L qo cO o] H → va_D A [c_S qs q0 q1 g, c_P q0 q1 r, c_B q1 q2 q3 k, c_A q2 cM 1024 M, c_A q3 cD 256 D, c_X x0 x1 x2 x3 x4 ku, c_A x1 c1 1024 m1, c_A x2 c2 256 m2, c_A x3 c3 9 m3, c_A x4 c4 9 m4, c_L qo cO o] → va_S A s.heap H locs → lv_has ls 7 [(4, .int (nI (6 * j))), (0, .ref b), (1, .ref qs), (2, .ref x0), (3, .ref qo)] → W p l e room_1 s m #[Value.ref b] below meth c H locs (11 + 2 * (j + 1)) (2614 + 12 * (j + 1)) Q (F0 m 729 ls [])) {g r k M D ku m1 m2 m3 m4 : Nat → Int32} {o : Nat → Int64} {H : Heap} {locs : List Loc} {ls : Array Slot} (hrel : Rel g r k M D ku m1 m2 m3) (hP : va_P (dC, dI) classes [c_S qs q0 q1 g, c_P q0 q1 r, c_B q1 q2 q3 k, c_A q2 cM 1024 M, c_A q3 cD 256 D, c_X x0 x1 x2 x3 x4 ku, c_A x1 c1 1024 m1, c_A x2 c2 256 m2, c_A x3 c3 9 m3, c_A x4 c4 9 m4, c_L qo cO o] H) (hD : va_D A [c_S qs q0 q1 g, c_P q0 q1 r, c_B q1 q2 q3 k, c_A q2 cM 1024 M, c_A q3 cD 256 D, c_X x0 x1 x2 x3 x4 ku, c_A x1 c1 1024 m1, c_A x2 c2 256 m2, c_A x3 c3 9 m3, c_A x4 c4 9 m4, c_L qo cO o]) (hS : va_S A s.heap H locs) (hl : lv_has ls 7 [(4, .int (nI (6 * j))), (0, .ref b), (1, .ref qs), (2, .ref x0), (3, .ref qo)]) : W p l e room_1 s m #[Value.ref b] below meth c H locs (11 + 2 * j) (2614 + 12 * j) Q (F0 m 328 ls []) := by
  have h_1 : vp_in (nI (6 * j) + (1 : Int32)) L := sx_in (k := 1) hj (by decide) hL
  have h_2 : vp_in (nI (6 * j) + (2 : Int32)) L := sx_in (k := 2) hj (by decide) hL
  have h_3 : vp_in (nI (6 * j) + (3 : Int32)) L := sx_in (k := 3) hj (by decide) hL
  have h_4 : vp_in (nI (6 * j) + (4 : Int32)) L := sx_in (k := 4) hj (by decide) hL
  have h_5 : vp_in (nI (6 * j) + (5 : Int32)) L := sx_in (k := 5) hj (by decide) hL
  refine lv_aload_n hx hb d_L_law_328 rfl (lv_at hl 2 rfl) ?_
  refine lv_aload_n hx hb d_L_law_329 rfl (lv_at hl 1 rfl) ?_
  refine lv_iload hx hb d_L_law_330 (lv_at hl 0 rfl) ?_
  refine lv_iconst (v := 1) hx hb d_L_law_332 (by decide) ?_
  refine lv_iadd hx hb d_L_law_333 ?_
  refine va_sld hx hb hX hbl hbA hS h_1 d_L_law_334 ?_
  refine lv_aload_n hx hb d_L_law_335 rfl (lv_at hl 1 rfl) ?_
  refine lv_iload hx hb d_L_law_336 (lv_at hl 0 rfl) ?_
  refine lv_iconst (v := 2) hx hb d_L_law_338 (by decide) ?_
  refine lv_iadd hx hb d_L_law_339 ?_
  refine va_sld hx hb hX hbl hbA hS h_2 d_L_law_340 ?_
  refine lv_aload_n hx hb d_L_law_341 rfl (lv_at hl 4 rfl) ?_
  have hR := put_rel (p1 := (xs ((nI (6 * j)) + (1 : Int32)).toNatClampNeg)) (p2 := (xs ((nI (6 * j)) + (2 : Int32)).toNatClampNeg)) hrel
  have hPc := hP.sub (ws' := [c_S qs q0 q1 g, c_P q0 q1 r, c_B q1 q2 q3 k, c_A q2 cM 1024 M, c_A q3 cD 256 D, c_L qo cO o]) [0, 1, 2, 3, 4, 10] rfl
  have hDc := hD.sub (ws' := [c_S qs q0 q1 g, c_P q0 q1 r, c_B q1 q2 q3 k, c_A q2 cM 1024 M, c_A q3 cD 256 D, c_L qo cO o]) [0, 1, 2, 3, 4, 10] (by decide) rfl
  have hKc := hK.sub (tys' := [(cM, .int), (cD, .int), (cO, .long)]) [0, 1, 6] rfl
  have hFc := va_free (wc := [c_S qs q0 q1 g, c_P q0 q1 r, c_B q1 q2 q3 k, c_A q2 cM 1024 M, c_A q3 cD 256 D, c_L qo cO o]) hD hS hA [0, 1, 2, 3, 4, 10] rfl
  refine va_calli (vx_runSW (As := [.ref qs, .int (xs ((nI (6 * j)) + (1 : Int32)).toNatClampNeg), .int (xs ((nI (6 * j)) + (2 : Int32)).toNatClampNeg), .ref qo]) (rest := []) ⟨hx, hb, hml, hown, htB⟩ (c_L_put l hl9 dC dI z0 qs q0 q1 q2 q3 cM cD qo cO H.size (xs ((nI (6 * j)) + (1 : Int32)).toNatClampNeg) (xs ((nI (6 * j)) + (2 : Int32)).toNatClampNeg) g r k M D o) (vx_cwSW 4 htB (gd_SW mw_213 mw_214 mw_0 mw_215) rfl rfl rfl (by decide +kernel) ⟨Nat.le_of_ble_eq_true rfl, Nat.le_of_ble_eq_true rfl⟩) (pcx_S hPc hKc hDc hA0 hE hS) rfl rfl hl.1 rfl (lv_room (Nat.le_of_ble_eq_true rfl)) d_L_law_342 ⟨by show _ ≤ 1041; omega, by show _ ≤ 10842; omega⟩) hS (fun q _ h => hFc q h) hFc (fun r9 u9 t H1 locs ht hvm hw hB hz1 hk1 hS => ?_)
  obtain ⟨hw1, hw2⟩ := hw
  subst hw1
  obtain ⟨hP1, hK1, hD1⟩ := hB
  rw [ht] at hP1
  obtain ⟨hP, hD⟩ := va_join (wr := [c_X x0 x1 x2 x3 x4 ku, c_A x1 c1 1024 m1, c_A x2 c2 256 m2, c_A x3 c3 9 m3, c_A x4 c4 9 m4]) (w1 := [c_S qs q0 q1 g, c_P q0 q1 ((f_S_put (xs ((nI (6 * j)) + (1 : Int32)).toNatClampNeg) (xs ((nI (6 * j)) + (2 : Int32)).toNatClampNeg) g r k M D).2.2), c_B q1 q2 q3 k, c_A q2 cM 1024 M, c_A q3 cD 256 D, c_L qo cO u9]) hP hD [0, 1, 2, 3, 4, 10] [5, 6, 7, 8, 9] rfl rfl (by decide) (by decide) hk1 hFc hP1 hD1
  generalize H1 = H at hP hS ⊢
  have hP : va_P (dC, dI) classes [c_S qs q0 q1 g, c_P q0 q1 ((f_S_put (xs ((nI (6 * j)) + (1 : Int32)).toNatClampNeg) (xs ((nI (6 * j)) + (2 : Int32)).toNatClampNeg) g r k M D).2.2), c_B q1 q2 q3 k, c_A q2 cM 1024 M, c_A q3 cD 256 D, c_X x0 x1 x2 x3 x4 ku, c_A x1 c1 1024 m1, c_A x2 c2 256 m2, c_A x3 c3 9 m3, c_A x4 c4 9 m4, c_L qo cO u9] H := hP.sub [5, 6, 7, 8, 9, 0, 1, 2, 3, 4, 10] rfl
  have hD : va_D A [c_S qs q0 q1 g, c_P q0 q1 ((f_S_put (xs ((nI (6 * j)) + (1 : Int32)).toNatClampNeg) (xs ((nI (6 * j)) + (2 : Int32)).toNatClampNeg) g r k M D).2.2), c_B q1 q2 q3 k, c_A q2 cM 1024 M, c_A q3 cD 256 D, c_X x0 x1 x2 x3 x4 ku, c_A x1 c1 1024 m1, c_A x2 c2 256 m2, c_A x3 c3 9 m3, c_A x4 c4 9 m4, c_L qo cO u9] := hD.sub [5, 6, 7, 8, 9, 0, 1, 2, 3, 4, 10] (by decide) rfl
  refine lv_istore (lv' := [(5, .int (nI ((f_S_put (xs ((nI (6 * j)) + (1 : Int32)).toNatClampNeg) (xs ((nI (6 * j)) + (2 : Int32)).toNatClampNeg) g r k M D).1))), (4, .int (nI (6 * j))), (0, .ref b), (1, .ref qs), (2, .ref x0), (3, .ref qo)]) hx hb d_L_law_345 hl (by decide) rfl (fun ls hl => ?_)
  refine lv_aload_n hx hb d_L_law_347 rfl (lv_at hl 4 rfl) ?_
  refine lv_aload_n hx hb d_L_law_348 rfl (lv_at hl 2 rfl) ?_
  refine lv_iload hx hb d_L_law_349 (lv_at hl 1 rfl) ?_
  refine lv_iconst (v := 1) hx hb d_L_law_351 (by decide) ?_
  refine lv_iadd hx hb d_L_law_352 ?_
  refine va_sld hx hb hX hbl hbA hS h_1 d_L_law_353 ?_
  refine lv_aload_n hx hb d_L_law_354 rfl (lv_at hl 2 rfl) ?_
  refine lv_iload hx hb d_L_law_355 (lv_at hl 1 rfl) ?_
  refine lv_iconst (v := 2) hx hb d_L_law_357 (by decide) ?_
  refine lv_iadd hx hb d_L_law_358 ?_
  refine va_sld hx hb hX hbl hbA hS h_2 d_L_law_359 ?_
  have hPc := hP.sub (ws' := [c_X x0 x1 x2 x3 x4 ku, c_A x3 c3 9 m3]) [5, 8] rfl
  have hDc := hD.sub (ws' := [c_X x0 x1 x2 x3 x4 ku, c_A x3 c3 9 m3]) [5, 8] (by decide) rfl
  have hKc := hK.sub (tys' := [(c3, .int)]) [4] rfl
  have hFc := va_free (wc := [c_X x0 x1 x2 x3 x4 ku, c_A x3 c3 9 m3]) hD hS hA [5, 8] rfl
  refine va_calli (va_runV (As := [.int (xs ((nI (6 * j)) + (1 : Int32)).toNatClampNeg), .int (xs ((nI (6 * j)) + (2 : Int32)).toNatClampNeg)]) (rest := []) ⟨hx, hb, hml, hown, htB⟩ (c_X_put l dC dI z0 x0 x1 x2 x3 x4 c3 H.size (xs ((nI (6 * j)) + (1 : Int32)).toNatClampNeg) (xs ((nI (6 * j)) + (2 : Int32)).toNatClampNeg) ku m3) (cwV 2 htB (gd_V mw_520 mw_521 mw_522 mw_4 mw_523) rfl rfl rfl (by decide +kernel) ⟨Nat.le_of_ble_eq_true rfl, Nat.le_of_ble_eq_true rfl⟩) (pcx_V (va_recv hKc hPc (ci := 3) (q0 := 0) rfl rfl) hPc hKc hDc hA0 hE hS) rfl rfl hl.1 rfl (lv_room (Nat.le_of_ble_eq_true rfl)) d_L_law_360 ⟨by show _ ≤ 1041; omega, by show _ ≤ 10842; omega⟩) hS (fun q _ h => hFc q h) hFc (fun r9 u t H1 locs ht hvm hw hB hz1 hk1 hS => ?_)
  subst hw
  obtain ⟨hP1, hK1, hD1⟩ := hB
  rw [ht] at hP1
  obtain ⟨hP, hD⟩ := va_join (wr := [c_S qs q0 q1 g, c_P q0 q1 ((f_S_put (xs ((nI (6 * j)) + (1 : Int32)).toNatClampNeg) (xs ((nI (6 * j)) + (2 : Int32)).toNatClampNeg) g r k M D).2.2), c_B q1 q2 q3 k, c_A q2 cM 1024 M, c_A q3 cD 256 D, c_A x1 c1 1024 m1, c_A x2 c2 256 m2, c_A x4 c4 9 m4, c_L qo cO u9]) (w1 := [c_X x0 x1 x2 x3 x4 ((f_X_put (xs ((nI (6 * j)) + (1 : Int32)).toNatClampNeg) (xs ((nI (6 * j)) + (2 : Int32)).toNatClampNeg) ku m3).2.1), c_A x3 c3 9 ((f_X_put (xs ((nI (6 * j)) + (1 : Int32)).toNatClampNeg) (xs ((nI (6 * j)) + (2 : Int32)).toNatClampNeg) ku m3).2.2)]) hP hD [5, 8] [0, 1, 2, 3, 4, 6, 7, 9, 10] rfl rfl (by decide) (by decide) hk1 hFc hP1 hD1
  generalize H1 = H at hP hS ⊢
  have hP : va_P (dC, dI) classes [c_S qs q0 q1 g, c_P q0 q1 ((f_S_put (xs ((nI (6 * j)) + (1 : Int32)).toNatClampNeg) (xs ((nI (6 * j)) + (2 : Int32)).toNatClampNeg) g r k M D).2.2), c_B q1 q2 q3 k, c_A q2 cM 1024 M, c_A q3 cD 256 D, c_X x0 x1 x2 x3 x4 ((f_X_put (xs ((nI (6 * j)) + (1 : Int32)).toNatClampNeg) (xs ((nI (6 * j)) + (2 : Int32)).toNatClampNeg) ku m3).2.1), c_A x1 c1 1024 m1, c_A x2 c2 256 m2, c_A x3 c3 9 ((f_X_put (xs ((nI (6 * j)) + (1 : Int32)).toNatClampNeg) (xs ((nI (6 * j)) + (2 : Int32)).toNatClampNeg) ku m3).2.2), c_A x4 c4 9 m4, c_L qo cO u9] H := hP.sub [0, 1, 2, 3, 4, 9, 5, 6, 10, 7, 8] rfl
  have hD : va_D A [c_S qs q0 q1 g, c_P q0 q1 ((f_S_put (xs ((nI (6 * j)) + (1 : Int32)).toNatClampNeg) (xs ((nI (6 * j)) + (2 : Int32)).toNatClampNeg) g r k M D).2.2), c_B q1 q2 q3 k, c_A q2 cM 1024 M, c_A q3 cD 256 D, c_X x0 x1 x2 x3 x4 ((f_X_put (xs ((nI (6 * j)) + (1 : Int32)).toNatClampNeg) (xs ((nI (6 * j)) + (2 : Int32)).toNatClampNeg) ku m3).2.1), c_A x1 c1 1024 m1, c_A x2 c2 256 m2, c_A x3 c3 9 ((f_X_put (xs ((nI (6 * j)) + (1 : Int32)).toNatClampNeg) (xs ((nI (6 * j)) + (2 : Int32)).toNatClampNeg) ku m3).2.2), c_A x4 c4 9 m4, c_L qo cO u9] := hD.sub [0, 1, 2, 3, 4, 9, 5, 6, 10, 7, 8] (by decide) rfl
  refine lv_istore (lv' := [(6, .int ((f_X_put (xs ((nI (6 * j)) + (1 : Int32)).toNatClampNeg) (xs ((nI (6 * j)) + (2 : Int32)).toNatClampNeg) ku m3).1)), (5, .int (nI ((f_S_put (xs ((nI (6 * j)) + (1 : Int32)).toNatClampNeg) (xs ((nI (6 * j)) + (2 : Int32)).toNatClampNeg) g r k M D).1))), (4, .int (nI (6 * j))), (0, .ref b), (1, .ref qs), (2, .ref x0), (3, .ref qo)]) hx hb d_L_law_363 hl (by decide) rfl (fun ls hl => ?_)
  refine lv_aload_n hx hb d_L_law_365 rfl (lv_at hl 5 rfl) ?_
  have hPc := hP.sub (ws' := [c_X x0 x1 x2 x3 x4 ((f_X_put (xs ((nI (6 * j)) + (1 : Int32)).toNatClampNeg) (xs ((nI (6 * j)) + (2 : Int32)).toNatClampNeg) ku m3).2.1)]) [5] rfl
  have hDc := hD.sub (ws' := [c_X x0 x1 x2 x3 x4 ((f_X_put (xs ((nI (6 * j)) + (1 : Int32)).toNatClampNeg) (xs ((nI (6 * j)) + (2 : Int32)).toNatClampNeg) ku m3).2.1)]) [5] (by decide) rfl
  have hKc := hK.sub (tys' := []) [] rfl
  have hFc := va_free (wc := [c_X x0 x1 x2 x3 x4 ((f_X_put (xs ((nI (6 * j)) + (1 : Int32)).toNatClampNeg) (xs ((nI (6 * j)) + (2 : Int32)).toNatClampNeg) ku m3).2.1)]) hD hS hA [5] rfl
  refine va_calli (va_runV (As := []) (rest := []) ⟨hx, hb, hml, hown, htB⟩ (c_X_thrown l dC dI z0 x0 x1 x2 x3 x4 H.size ((f_X_put (xs ((nI (6 * j)) + (1 : Int32)).toNatClampNeg) (xs ((nI (6 * j)) + (2 : Int32)).toNatClampNeg) ku m3).2.1)) (cwV 0 htB (gd_V mw_501 mw_502 mw_503 mw_4 mw_504) rfl rfl rfl (by decide +kernel) ⟨Nat.le_of_ble_eq_true rfl, Nat.le_of_ble_eq_true rfl⟩) (pcx_V (va_recv hKc hPc (ci := 3) (q0 := 0) rfl rfl) hPc hKc hDc hA0 hE hS) rfl rfl hl.1 rfl (lv_room (Nat.le_of_ble_eq_true rfl)) d_L_law_366 ⟨by show _ ≤ 1041; omega, by show _ ≤ 10842; omega⟩) hS (fun q _ h => hFc q h) hFc (fun r9 u t H1 locs ht hvm hw hB hz1 hk1 hS => ?_)
  subst hw
  obtain ⟨hP1, hK1, hD1⟩ := hB
  rw [ht] at hP1
  obtain ⟨hP, hD⟩ := va_join (wr := [c_S qs q0 q1 g, c_P q0 q1 ((f_S_put (xs ((nI (6 * j)) + (1 : Int32)).toNatClampNeg) (xs ((nI (6 * j)) + (2 : Int32)).toNatClampNeg) g r k M D).2.2), c_B q1 q2 q3 k, c_A q2 cM 1024 M, c_A q3 cD 256 D, c_A x1 c1 1024 m1, c_A x2 c2 256 m2, c_A x3 c3 9 ((f_X_put (xs ((nI (6 * j)) + (1 : Int32)).toNatClampNeg) (xs ((nI (6 * j)) + (2 : Int32)).toNatClampNeg) ku m3).2.2), c_A x4 c4 9 m4, c_L qo cO u9]) (w1 := [c_X x0 x1 x2 x3 x4 ((f_X_put (xs ((nI (6 * j)) + (1 : Int32)).toNatClampNeg) (xs ((nI (6 * j)) + (2 : Int32)).toNatClampNeg) ku m3).2.1)]) hP hD [5] [0, 1, 2, 3, 4, 6, 7, 8, 9, 10] rfl rfl (by decide) (by decide) hk1 hFc hP1 hD1
  generalize H1 = H at hP hS ⊢
  have hP : va_P (dC, dI) classes [c_S qs q0 q1 g, c_P q0 q1 ((f_S_put (xs ((nI (6 * j)) + (1 : Int32)).toNatClampNeg) (xs ((nI (6 * j)) + (2 : Int32)).toNatClampNeg) g r k M D).2.2), c_B q1 q2 q3 k, c_A q2 cM 1024 M, c_A q3 cD 256 D, c_X x0 x1 x2 x3 x4 ((f_X_put (xs ((nI (6 * j)) + (1 : Int32)).toNatClampNeg) (xs ((nI (6 * j)) + (2 : Int32)).toNatClampNeg) ku m3).2.1), c_A x1 c1 1024 m1, c_A x2 c2 256 m2, c_A x3 c3 9 ((f_X_put (xs ((nI (6 * j)) + (1 : Int32)).toNatClampNeg) (xs ((nI (6 * j)) + (2 : Int32)).toNatClampNeg) ku m3).2.2), c_A x4 c4 9 m4, c_L qo cO u9] H := hP.sub [0, 1, 2, 3, 4, 10, 5, 6, 7, 8, 9] rfl
  have hD : va_D A [c_S qs q0 q1 g, c_P q0 q1 ((f_S_put (xs ((nI (6 * j)) + (1 : Int32)).toNatClampNeg) (xs ((nI (6 * j)) + (2 : Int32)).toNatClampNeg) g r k M D).2.2), c_B q1 q2 q3 k, c_A q2 cM 1024 M, c_A q3 cD 256 D, c_X x0 x1 x2 x3 x4 ((f_X_put (xs ((nI (6 * j)) + (1 : Int32)).toNatClampNeg) (xs ((nI (6 * j)) + (2 : Int32)).toNatClampNeg) ku m3).2.1), c_A x1 c1 1024 m1, c_A x2 c2 256 m2, c_A x3 c3 9 ((f_X_put (xs ((nI (6 * j)) + (1 : Int32)).toNatClampNeg) (xs ((nI (6 * j)) + (2 : Int32)).toNatClampNeg) ku m3).2.2), c_A x4 c4 9 m4, c_L qo cO u9] := hD.sub [0, 1, 2, 3, 4, 10, 5, 6, 7, 8, 9] (by decide) rfl
  refine lv_iload hx hb d_L_law_369 (lv_at hl 1 rfl) ?_
  refine lv_icmp_eq (tgt := 376) hx hb d_L_law_371 (by decide) (fun _ => ?_) (fun c9 => absurd hR.1 c9)
  refine lv_iload hx hb d_L_law_376 (lv_at hl 1 rfl) ?_
  refine lv_if_ne (tgt := 393) hx hb d_L_law_378 (by decide) (fun c_1 => ?_) (fun c_1 => ?_)
  · refine lv_goto (tgt := 729) hx hb d_L_law_393 (by decide) ?_
    refine W.widen (k := 11 + 2 * (j + 1)) (n := 2614 + 12 * (j + 1)) (by omega) (by omega) ?_
    exact kk _ _ _ _ _ _ _ _ _ _ _ H _ ls hR.2.2 hP hD hS (lv_sub hl [2, 3, 4, 5, 6] rfl)
  · refine lv_aload_n hx hb d_L_law_381 rfl (lv_at hl 6 rfl) ?_
    refine lv_iconst (v := 0) hx hb d_L_law_382 (by decide) ?_
    refine va_lald hx hb hK hP 10 6 rfl rfl (show ¬ ((0 : Int32) < 0 ∨ 1 ≤ (0 : Int32).toNatClampNeg) from by decide) d_L_law_383 ?_
    refine lv_iload hx hb d_L_law_384 (lv_at hl 0 rfl) ?_
    refine lv_i2l hx hb d_L_law_386 rfl ?_
    refine W.lcmp hx hb d_L_law_387 ?_
    have f0 := cd_0 le_put c_1
    refine lv_if_eq (tgt := 393) hx hb d_L_law_388 (by decide) (fun _ => ?_) (fun c9 => absurd (lg_eq ((hw2 f0).trans (congrArg Int32.toInt64 (hR.2.1 f0).symm))) c9)
    refine lv_goto (tgt := 729) hx hb d_L_law_393 (by decide) ?_
    refine W.widen (k := 11 + 2 * (j + 1)) (n := 2614 + 12 * (j + 1)) (by omega) (by omega) ?_
    exact kk _ _ _ _ _ _ _ _ _ _ _ H _ ls hR.2.2 hP hD hS (lv_sub hl [2, 3, 4, 5, 6] rfl)

set_option maxHeartbeats 4000000 in
set_option maxRecDepth 100000 in
theorem LW_3 {p : Program} {l : Launch} (hl9 : l.stackTraces = false) {e : Env} {s : State} {m : MethodId} {below : List Frame} {meth : Method} {c : Code} {A : Nat → Prop} {z0 : Nat} {dC : Nat → ClassId} {dI : Nat → Nat → Nat} {qs : Nat} {q0 : Nat} {q1 : Nat} {q2 : Nat} {q3 : Nat} {cM : ClassId} {cD : ClassId} {x0 : Nat} {x1 : Nat} {x2 : Nat} {x3 : Nat} {x4 : Nat} {c1 : ClassId} {c2 : ClassId} {c3 : ClassId} {c4 : ClassId} {qo : Nat} {cO : ClassId} {b L : Nat} {xs : Nat → Int32} (hx : p.tables.exec = Jvm.exec) (hb : c.code = code) (hml : c.maxLocals = 7) (hown : s.vm.findClass R_law = some m.cls) (htB : ∀ w ∈ BIG, w.before #[Value.ref b] s = true) (hX : va_X b L xs s s.heap) (hbl : b < s.heap.size) (hbA : ¬ A b) (hA : ∀ q : Nat, s.heap.size ≤ q → A q) (hA0 : ∀ q, A q → z0 ≤ q) (hE : EN z0 s) (hK : va_K (dC, dI) classes [(cM, .int), (cD, .int), (c1, .int), (c2, .int), (c3, .int), (c4, .int), (cO, .long)] s) (hL : L ≤ 3072) {Q : State → Prop} {j : Nat} (hj : 6 * j + 6 ≤ L) (kk : ∀ (g r k M D ku m1 m2 m3 m4 : Nat → Int32) (o : Nat → Int64) (H : Heap) (locs : List Loc) (ls : Array Slot), Rel g r k M D ku m1 m2 m3 → va_P (dC, dI) classes [c_S qs q0 q1 g, c_P q0 q1 r, c_B q1 q2 q3 k, c_A q2 cM 1024 M, c_A q3 cD 256 D, c_X x0 x1 x2 x3 x4 ku, c_A x1 c1 1024 m1, c_A x2 c2 256 m2, c_A x3 c3 9 m3, c_A x4 c4 9 m4, c_L qo cO o] H → va_D A [c_S qs q0 q1 g, c_P q0 q1 r, c_B q1 q2 q3 k, c_A q2 cM 1024 M, c_A q3 cD 256 D, c_X x0 x1 x2 x3 x4 ku, c_A x1 c1 1024 m1, c_A x2 c2 256 m2, c_A x3 c3 9 m3, c_A x4 c4 9 m4, c_L qo cO o] → va_S A s.heap H locs → lv_has ls 7 [(4, .int (nI (6 * j))), (0, .ref b), (1, .ref qs), (2, .ref x0), (3, .ref qo)] → W p l e room_1 s m #[Value.ref b] below meth c H locs (11 + 2 * (j + 1)) (2614 + 12 * (j + 1)) Q (F0 m 729 ls [])) {g r k M D ku m1 m2 m3 m4 : Nat → Int32} {o : Nat → Int64} {H : Heap} {locs : List Loc} {ls : Array Slot} (hrel : Rel g r k M D ku m1 m2 m3) (hP : va_P (dC, dI) classes [c_S qs q0 q1 g, c_P q0 q1 r, c_B q1 q2 q3 k, c_A q2 cM 1024 M, c_A q3 cD 256 D, c_X x0 x1 x2 x3 x4 ku, c_A x1 c1 1024 m1, c_A x2 c2 256 m2, c_A x3 c3 9 m3, c_A x4 c4 9 m4, c_L qo cO o] H) (hD : va_D A [c_S qs q0 q1 g, c_P q0 q1 r, c_B q1 q2 q3 k, c_A q2 cM 1024 M, c_A q3 cD 256 D, c_X x0 x1 x2 x3 x4 ku, c_A x1 c1 1024 m1, c_A x2 c2 256 m2, c_A x3 c3 9 m3, c_A x4 c4 9 m4, c_L qo cO o]) (hS : va_S A s.heap H locs) (hl : lv_has ls 7 [(4, .int (nI (6 * j))), (0, .ref b), (1, .ref qs), (2, .ref x0), (3, .ref qo)]) : W p l e room_1 s m #[Value.ref b] below meth c H locs (11 + 2 * j) (2614 + 12 * j) Q (F0 m 396 ls []) := by
  have h_1 : vp_in (nI (6 * j) + (1 : Int32)) L := sx_in (k := 1) hj (by decide) hL
  have h_2 : vp_in (nI (6 * j) + (2 : Int32)) L := sx_in (k := 2) hj (by decide) hL
  have h_3 : vp_in (nI (6 * j) + (3 : Int32)) L := sx_in (k := 3) hj (by decide) hL
  have h_4 : vp_in (nI (6 * j) + (4 : Int32)) L := sx_in (k := 4) hj (by decide) hL
  have h_5 : vp_in (nI (6 * j) + (5 : Int32)) L := sx_in (k := 5) hj (by decide) hL
  refine lv_aload_n hx hb d_L_law_396 rfl (lv_at hl 2 rfl) ?_
  refine lv_aload_n hx hb d_L_law_397 rfl (lv_at hl 1 rfl) ?_
  refine lv_iload hx hb d_L_law_398 (lv_at hl 0 rfl) ?_
  refine lv_iconst (v := 1) hx hb d_L_law_400 (by decide) ?_
  refine lv_iadd hx hb d_L_law_401 ?_
  refine va_sld hx hb hX hbl hbA hS h_1 d_L_law_402 ?_
  refine lv_aload_n hx hb d_L_law_403 rfl (lv_at hl 4 rfl) ?_
  have hR := press_rel (p1 := (xs ((nI (6 * j)) + (1 : Int32)).toNatClampNeg)) hrel
  have hPc := hP.sub (ws' := [c_S qs q0 q1 g, c_P q0 q1 r, c_B q1 q2 q3 k, c_A q2 cM 1024 M, c_A q3 cD 256 D, c_L qo cO o]) [0, 1, 2, 3, 4, 10] rfl
  have hDc := hD.sub (ws' := [c_S qs q0 q1 g, c_P q0 q1 r, c_B q1 q2 q3 k, c_A q2 cM 1024 M, c_A q3 cD 256 D, c_L qo cO o]) [0, 1, 2, 3, 4, 10] (by decide) rfl
  have hKc := hK.sub (tys' := [(cM, .int), (cD, .int), (cO, .long)]) [0, 1, 6] rfl
  have hFc := va_free (wc := [c_S qs q0 q1 g, c_P q0 q1 r, c_B q1 q2 q3 k, c_A q2 cM 1024 M, c_A q3 cD 256 D, c_L qo cO o]) hD hS hA [0, 1, 2, 3, 4, 10] rfl
  refine va_calli (vx_runSW (As := [.ref qs, .int (xs ((nI (6 * j)) + (1 : Int32)).toNatClampNeg), .ref qo]) (rest := []) ⟨hx, hb, hml, hown, htB⟩ (c_L_press l hl9 dC dI z0 qs q0 q1 q2 q3 cM cD qo cO H.size (xs ((nI (6 * j)) + (1 : Int32)).toNatClampNeg) g r k M D o) (vx_cwSW 3 htB (gd_SW mw_236 mw_237 mw_0 mw_238) rfl rfl rfl (by decide +kernel) ⟨Nat.le_of_ble_eq_true rfl, Nat.le_of_ble_eq_true rfl⟩) (pcx_S hPc hKc hDc hA0 hE hS) rfl rfl hl.1 rfl (lv_room (Nat.le_of_ble_eq_true rfl)) d_L_law_404 ⟨by show _ ≤ 1041; omega, by show _ ≤ 10842; omega⟩) hS (fun q _ h => hFc q h) hFc (fun r9 u9 t H1 locs ht hvm hw hB hz1 hk1 hS => ?_)
  obtain ⟨hw1, hw2⟩ := hw
  subst hw1
  obtain ⟨hP1, hK1, hD1⟩ := hB
  rw [ht] at hP1
  obtain ⟨hP, hD⟩ := va_join (wr := [c_X x0 x1 x2 x3 x4 ku, c_A x1 c1 1024 m1, c_A x2 c2 256 m2, c_A x3 c3 9 m3, c_A x4 c4 9 m4]) (w1 := [c_S qs q0 q1 g, c_P q0 q1 r, c_B q1 q2 q3 ((f_S_press (xs ((nI (6 * j)) + (1 : Int32)).toNatClampNeg) g r k M D).2.2), c_A q2 cM 1024 M, c_A q3 cD 256 D, c_L qo cO u9]) hP hD [0, 1, 2, 3, 4, 10] [5, 6, 7, 8, 9] rfl rfl (by decide) (by decide) hk1 hFc hP1 hD1
  generalize H1 = H at hP hS ⊢
  have hP : va_P (dC, dI) classes [c_S qs q0 q1 g, c_P q0 q1 r, c_B q1 q2 q3 ((f_S_press (xs ((nI (6 * j)) + (1 : Int32)).toNatClampNeg) g r k M D).2.2), c_A q2 cM 1024 M, c_A q3 cD 256 D, c_X x0 x1 x2 x3 x4 ku, c_A x1 c1 1024 m1, c_A x2 c2 256 m2, c_A x3 c3 9 m3, c_A x4 c4 9 m4, c_L qo cO u9] H := hP.sub [5, 6, 7, 8, 9, 0, 1, 2, 3, 4, 10] rfl
  have hD : va_D A [c_S qs q0 q1 g, c_P q0 q1 r, c_B q1 q2 q3 ((f_S_press (xs ((nI (6 * j)) + (1 : Int32)).toNatClampNeg) g r k M D).2.2), c_A q2 cM 1024 M, c_A q3 cD 256 D, c_X x0 x1 x2 x3 x4 ku, c_A x1 c1 1024 m1, c_A x2 c2 256 m2, c_A x3 c3 9 m3, c_A x4 c4 9 m4, c_L qo cO u9] := hD.sub [5, 6, 7, 8, 9, 0, 1, 2, 3, 4, 10] (by decide) rfl
  refine lv_istore (lv' := [(5, .int (nI ((f_S_press (xs ((nI (6 * j)) + (1 : Int32)).toNatClampNeg) g r k M D).1))), (4, .int (nI (6 * j))), (0, .ref b), (1, .ref qs), (2, .ref x0), (3, .ref qo)]) hx hb d_L_law_407 hl (by decide) rfl (fun ls hl => ?_)
  refine lv_aload_n hx hb d_L_law_409 rfl (lv_at hl 4 rfl) ?_
  refine lv_aload_n hx hb d_L_law_410 rfl (lv_at hl 2 rfl) ?_
  refine lv_iload hx hb d_L_law_411 (lv_at hl 1 rfl) ?_
  refine lv_iconst (v := 1) hx hb d_L_law_413 (by decide) ?_
  refine lv_iadd hx hb d_L_law_414 ?_
  refine va_sld hx hb hX hbl hbA hS h_1 d_L_law_415 ?_
  have hPc := hP.sub (ws' := [c_X x0 x1 x2 x3 x4 ku]) [5] rfl
  have hDc := hD.sub (ws' := [c_X x0 x1 x2 x3 x4 ku]) [5] (by decide) rfl
  have hKc := hK.sub (tys' := []) [] rfl
  have hFc := va_free (wc := [c_X x0 x1 x2 x3 x4 ku]) hD hS hA [5] rfl
  refine va_calli (va_runV (As := [.int (xs ((nI (6 * j)) + (1 : Int32)).toNatClampNeg)]) (rest := []) ⟨hx, hb, hml, hown, htB⟩ (c_X_press l dC dI z0 x0 x1 x2 x3 x4 H.size (xs ((nI (6 * j)) + (1 : Int32)).toNatClampNeg) ku) (cwV 1 htB (gd_V mw_532 mw_533 mw_534 mw_4 mw_535) rfl rfl rfl (by decide +kernel) ⟨Nat.le_of_ble_eq_true rfl, Nat.le_of_ble_eq_true rfl⟩) (pcx_V (va_recv hKc hPc (ci := 3) (q0 := 0) rfl rfl) hPc hKc hDc hA0 hE hS) rfl rfl hl.1 rfl (lv_room (Nat.le_of_ble_eq_true rfl)) d_L_law_416 ⟨by show _ ≤ 1041; omega, by show _ ≤ 10842; omega⟩) hS (fun q _ h => hFc q h) hFc (fun r9 u t H1 locs ht hvm hw hB hz1 hk1 hS => ?_)
  subst hw
  obtain ⟨hP1, hK1, hD1⟩ := hB
  rw [ht] at hP1
  obtain ⟨hP, hD⟩ := va_join (wr := [c_S qs q0 q1 g, c_P q0 q1 r, c_B q1 q2 q3 ((f_S_press (xs ((nI (6 * j)) + (1 : Int32)).toNatClampNeg) g r k M D).2.2), c_A q2 cM 1024 M, c_A q3 cD 256 D, c_A x1 c1 1024 m1, c_A x2 c2 256 m2, c_A x3 c3 9 m3, c_A x4 c4 9 m4, c_L qo cO u9]) (w1 := [c_X x0 x1 x2 x3 x4 ((f_X_press (xs ((nI (6 * j)) + (1 : Int32)).toNatClampNeg) ku).2)]) hP hD [5] [0, 1, 2, 3, 4, 6, 7, 8, 9, 10] rfl rfl (by decide) (by decide) hk1 hFc hP1 hD1
  generalize H1 = H at hP hS ⊢
  have hP : va_P (dC, dI) classes [c_S qs q0 q1 g, c_P q0 q1 r, c_B q1 q2 q3 ((f_S_press (xs ((nI (6 * j)) + (1 : Int32)).toNatClampNeg) g r k M D).2.2), c_A q2 cM 1024 M, c_A q3 cD 256 D, c_X x0 x1 x2 x3 x4 ((f_X_press (xs ((nI (6 * j)) + (1 : Int32)).toNatClampNeg) ku).2), c_A x1 c1 1024 m1, c_A x2 c2 256 m2, c_A x3 c3 9 m3, c_A x4 c4 9 m4, c_L qo cO u9] H := hP.sub [0, 1, 2, 3, 4, 10, 5, 6, 7, 8, 9] rfl
  have hD : va_D A [c_S qs q0 q1 g, c_P q0 q1 r, c_B q1 q2 q3 ((f_S_press (xs ((nI (6 * j)) + (1 : Int32)).toNatClampNeg) g r k M D).2.2), c_A q2 cM 1024 M, c_A q3 cD 256 D, c_X x0 x1 x2 x3 x4 ((f_X_press (xs ((nI (6 * j)) + (1 : Int32)).toNatClampNeg) ku).2), c_A x1 c1 1024 m1, c_A x2 c2 256 m2, c_A x3 c3 9 m3, c_A x4 c4 9 m4, c_L qo cO u9] := hD.sub [0, 1, 2, 3, 4, 10, 5, 6, 7, 8, 9] (by decide) rfl
  refine lv_istore (lv' := [(6, .int ((f_X_press (xs ((nI (6 * j)) + (1 : Int32)).toNatClampNeg) ku).1)), (5, .int (nI ((f_S_press (xs ((nI (6 * j)) + (1 : Int32)).toNatClampNeg) g r k M D).1))), (4, .int (nI (6 * j))), (0, .ref b), (1, .ref qs), (2, .ref x0), (3, .ref qo)]) hx hb d_L_law_419 hl (by decide) rfl (fun ls hl => ?_)
  refine lv_aload_n hx hb d_L_law_421 rfl (lv_at hl 5 rfl) ?_
  have hPc := hP.sub (ws' := [c_X x0 x1 x2 x3 x4 ((f_X_press (xs ((nI (6 * j)) + (1 : Int32)).toNatClampNeg) ku).2)]) [5] rfl
  have hDc := hD.sub (ws' := [c_X x0 x1 x2 x3 x4 ((f_X_press (xs ((nI (6 * j)) + (1 : Int32)).toNatClampNeg) ku).2)]) [5] (by decide) rfl
  have hKc := hK.sub (tys' := []) [] rfl
  have hFc := va_free (wc := [c_X x0 x1 x2 x3 x4 ((f_X_press (xs ((nI (6 * j)) + (1 : Int32)).toNatClampNeg) ku).2)]) hD hS hA [5] rfl
  refine va_calli (va_runV (As := []) (rest := []) ⟨hx, hb, hml, hown, htB⟩ (c_X_thrown l dC dI z0 x0 x1 x2 x3 x4 H.size ((f_X_press (xs ((nI (6 * j)) + (1 : Int32)).toNatClampNeg) ku).2)) (cwV 0 htB (gd_V mw_501 mw_502 mw_503 mw_4 mw_504) rfl rfl rfl (by decide +kernel) ⟨Nat.le_of_ble_eq_true rfl, Nat.le_of_ble_eq_true rfl⟩) (pcx_V (va_recv hKc hPc (ci := 3) (q0 := 0) rfl rfl) hPc hKc hDc hA0 hE hS) rfl rfl hl.1 rfl (lv_room (Nat.le_of_ble_eq_true rfl)) d_L_law_422 ⟨by show _ ≤ 1041; omega, by show _ ≤ 10842; omega⟩) hS (fun q _ h => hFc q h) hFc (fun r9 u t H1 locs ht hvm hw hB hz1 hk1 hS => ?_)
  subst hw
  obtain ⟨hP1, hK1, hD1⟩ := hB
  rw [ht] at hP1
  obtain ⟨hP, hD⟩ := va_join (wr := [c_S qs q0 q1 g, c_P q0 q1 r, c_B q1 q2 q3 ((f_S_press (xs ((nI (6 * j)) + (1 : Int32)).toNatClampNeg) g r k M D).2.2), c_A q2 cM 1024 M, c_A q3 cD 256 D, c_A x1 c1 1024 m1, c_A x2 c2 256 m2, c_A x3 c3 9 m3, c_A x4 c4 9 m4, c_L qo cO u9]) (w1 := [c_X x0 x1 x2 x3 x4 ((f_X_press (xs ((nI (6 * j)) + (1 : Int32)).toNatClampNeg) ku).2)]) hP hD [5] [0, 1, 2, 3, 4, 6, 7, 8, 9, 10] rfl rfl (by decide) (by decide) hk1 hFc hP1 hD1
  generalize H1 = H at hP hS ⊢
  have hP : va_P (dC, dI) classes [c_S qs q0 q1 g, c_P q0 q1 r, c_B q1 q2 q3 ((f_S_press (xs ((nI (6 * j)) + (1 : Int32)).toNatClampNeg) g r k M D).2.2), c_A q2 cM 1024 M, c_A q3 cD 256 D, c_X x0 x1 x2 x3 x4 ((f_X_press (xs ((nI (6 * j)) + (1 : Int32)).toNatClampNeg) ku).2), c_A x1 c1 1024 m1, c_A x2 c2 256 m2, c_A x3 c3 9 m3, c_A x4 c4 9 m4, c_L qo cO u9] H := hP.sub [0, 1, 2, 3, 4, 10, 5, 6, 7, 8, 9] rfl
  have hD : va_D A [c_S qs q0 q1 g, c_P q0 q1 r, c_B q1 q2 q3 ((f_S_press (xs ((nI (6 * j)) + (1 : Int32)).toNatClampNeg) g r k M D).2.2), c_A q2 cM 1024 M, c_A q3 cD 256 D, c_X x0 x1 x2 x3 x4 ((f_X_press (xs ((nI (6 * j)) + (1 : Int32)).toNatClampNeg) ku).2), c_A x1 c1 1024 m1, c_A x2 c2 256 m2, c_A x3 c3 9 m3, c_A x4 c4 9 m4, c_L qo cO u9] := hD.sub [0, 1, 2, 3, 4, 10, 5, 6, 7, 8, 9] (by decide) rfl
  refine lv_iload hx hb d_L_law_425 (lv_at hl 1 rfl) ?_
  refine lv_icmp_eq (tgt := 432) hx hb d_L_law_427 (by decide) (fun _ => ?_) (fun c9 => absurd hR.1 c9)
  refine lv_iload hx hb d_L_law_432 (lv_at hl 1 rfl) ?_
  refine lv_if_ne (tgt := 449) hx hb d_L_law_434 (by decide) (fun c_1 => ?_) (fun c_1 => ?_)
  · refine lv_goto (tgt := 729) hx hb d_L_law_449 (by decide) ?_
    refine W.widen (k := 11 + 2 * (j + 1)) (n := 2614 + 12 * (j + 1)) (by omega) (by omega) ?_
    exact kk _ _ _ _ _ _ _ _ _ _ _ H _ ls hR.2.2 hP hD hS (lv_sub hl [2, 3, 4, 5, 6] rfl)
  · refine lv_aload_n hx hb d_L_law_437 rfl (lv_at hl 6 rfl) ?_
    refine lv_iconst (v := 0) hx hb d_L_law_438 (by decide) ?_
    refine va_lald hx hb hK hP 10 6 rfl rfl (show ¬ ((0 : Int32) < 0 ∨ 1 ≤ (0 : Int32).toNatClampNeg) from by decide) d_L_law_439 ?_
    refine lv_iload hx hb d_L_law_440 (lv_at hl 0 rfl) ?_
    refine lv_i2l hx hb d_L_law_442 rfl ?_
    refine W.lcmp hx hb d_L_law_443 ?_
    have f0 := cd_0 le_press c_1
    refine lv_if_eq (tgt := 449) hx hb d_L_law_444 (by decide) (fun _ => ?_) (fun c9 => absurd (lg_eq ((hw2 f0).trans (congrArg Int32.toInt64 (hR.2.1 f0).symm))) c9)
    refine lv_goto (tgt := 729) hx hb d_L_law_449 (by decide) ?_
    refine W.widen (k := 11 + 2 * (j + 1)) (n := 2614 + 12 * (j + 1)) (by omega) (by omega) ?_
    exact kk _ _ _ _ _ _ _ _ _ _ _ H _ ls hR.2.2 hP hD hS (lv_sub hl [2, 3, 4, 5, 6] rfl)
