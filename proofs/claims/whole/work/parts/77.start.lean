set_option maxHeartbeats 4000000 in
set_option maxRecDepth 100000 in
/-- THE LAW, from its entry -/
theorem whole_start {p : Program} {e : Env} {s : State} {m : MethodId} {below : List Frame} {meth : Method} {c : Code} (l : Launch) (hl9 : l.stackTraces = false) {b L : Nat} {xs : Nat → Int32} (hL : L ≤ 3072) (C0 : lw_At p s m meth c b L xs) : W p l e room_1 s m #[Value.ref b] below meth c s.heap [] 0 0 (lw_Z below #[Value.ref b] s) (entryFrame m ([Value.ref b] : List Value).toArray 7) := by
  obtain ⟨hx, hb, hr, hml, hown, hts, hX, hbl, hlocks, hgv⟩ := C0
  obtain ⟨z0, ez⟩ : ∃ z : Nat, z = s.heap.size := ⟨_, rfl⟩
  have hE : EN z0 s := by rw [ez]; exact en_start hts hgv
  have htB : ∀ w ∈ BIG, w.before #[Value.ref b] s = true := fun w h => hts w (big_tbl h)
  obtain ⟨A, eA⟩ : ∃ A : Nat → Prop, A = fun q : Nat => s.heap.size ≤ q := ⟨_, rfl⟩
  have hA : ∀ q : Nat, s.heap.size ≤ q → A q := fun q h => by rw [eA]; exact h
  have hA1 : ∀ q : Nat, A q → s.heap.size ≤ q := fun q h => by rw [eA] at h; exact h
  have hA0 : ∀ q : Nat, A q → z0 ≤ q := fun q h => by rw [ez]; exact hA1 q h
  have hbA : ¬ A b := fun h => absurd (hA1 b h) (Nat.not_le.mpr hbl)
  obtain ⟨k0, iS0, hKn0⟩ := u_known (C := R_S) (T := F_S) (N := 4) (n := 4) htB i_S (htB _ mw_15)
  obtain ⟨k1, iS1, hKn1⟩ := u_known (C := R_P) (T := F_P) (N := 13) (n := 13) htB i_P (htB _ mw_23)
  obtain ⟨k2, iS2, hKn2⟩ := u_known (C := R_B) (T := F_B) (N := 5) (n := 5) htB i_B (htB _ mw_29)
  obtain ⟨k3, iS3, hKn3⟩ := u_known (C := R_X) (T := F_X) (N := 13) (n := 13) htB i_X (htB _ mw_456)
  obtain ⟨dC, dI, hKc⟩ : ∃ (dC : Nat → ClassId) (dI : Nat → Nat → Nat), ∀ (k : Nat) (q : vw_C), classes[k]? = some q → u_Kn s q.1 q.2.1 q.2.2 (dC k) (dI k) := by
    refine ⟨fun k => if k = 0 then k0 else if k = 1 then k1 else if k = 2 then k2 else k3, fun k => if k = 0 then iS0 else if k = 1 then iS1 else if k = 2 then iS2 else iS3, ?_⟩
    intro k q hq
    match k, hq with
    | 0, hq => cases hq; exact hKn0
    | 1, hq => cases hq; exact hKn1
    | 2, hq => cases hq; exact hKn2
    | 3, hq => cases hq; exact hKn3
    | k + 4, hq => simp [classes] at hq
  have hS : va_S A s.heap s.heap [] := va_S.rf
  have hK : va_K (dC, dI) classes [] s := ⟨hKc, fun k q h => by simp at h⟩
  have hP : va_P (dC, dI) classes [] s.heap := fun k q h => by simp at h
  have hD : va_D A [] := ⟨fun i j p q h => by simp at h, fun k q h => by simp at h⟩
  have hl := lv_entry ([.ref b]) (n := 7) (Nat.le_of_ble_eq_true rfl)
  rw [lg_entry_eq]
  generalize (lg_sl ([.ref b]) ++ List.replicate (7 - (lg_sl ([.ref b])).length) Slot.unset).toArray = ls at hl ⊢
  have hl : lv_has ls 7 [(0, .ref b)] := hl
  refine va_new (ci := 0) (fs := [.null, .null, .int 0, .int 0]) (C := R_S) (T := F_S) (N := 4) hx hb htB i_S t_S t_S_ok hown (htB _ mw_14) (htB _ mw_15) (htB _ mw_1) hK hP hD hS hA rfl f_S_0 (Nat.le_of_ble_eq_true rfl) (Nat.le_of_ble_eq_true rfl) d_L_law_0 (fun qs H hP hD hS => ?_)
  have hP : va_P (dC, dI) classes [(qs, .inr (0, [.null, .null, .int 0, .int 0]))] H := hP
  have hD : va_D A [(qs, .inr (0, [.null, .null, .int 0, .int 0]))] := hD
  refine W.widen (k := 1) (n := 4) (Nat.le_of_ble_eq_true rfl) (Nat.le_of_ble_eq_true rfl) ?_
  refine lv_dup hx hb d_L_law_3 rfl ?_
  have hPc := hP.sub (ws' := [(qs, .inr (0, [.null, .null, .int 0, .int 0]))]) [0] rfl
  have hDc := hD.sub (ws' := [(qs, .inr (0, [.null, .null, .int 0, .int 0]))]) [0] (by decide) rfl
  have hKc := hK.sub (tys' := []) [] rfl
  have hFc := va_free (wc := [(qs, .inr (0, [.null, .null, .int 0, .int 0]))]) hD hS hA [0] rfl
  refine va_callv (va_runI (As := []) (rest := [.ref qs]) ⟨hx, hb, hml, hown, htB⟩ (c_S_init l dC dI z0 qs H.size) (cwI 0 htB (gd_c mw_18) rfl rfl rfl (htB _ mw_1) (htB _ mw_16) (htB _ mw_17) rfl (by decide +kernel) ⟨Nat.le_of_ble_eq_true rfl, Nat.le_of_ble_eq_true rfl⟩) (pcx_S hPc hKc hDc hA0 hE hS) rfl rfl hl.1 rfl (lv_room (Nat.le_of_ble_eq_true rfl)) d_L_law_4 ⟨Nat.le_of_ble_eq_true rfl, Nat.le_of_ble_eq_true rfl⟩) hS (fun q _ h => hFc q h) hFc (fun u t H1 locs ht hvm hw hB hz1 hk1 hS => ?_)
  obtain ⟨q0, q1, q2, q3, cM, cD⟩ := u
  obtain ⟨hP1, hK1, hD1⟩ := hB
  rw [ht] at hP1
  have hK1 := va_K.moved hvm.symm hK1
  obtain ⟨hP, hD⟩ := va_join (wr := []) (w1 := [c_S qs q0 q1 zf, c_P q0 q1 rf, c_B q1 q2 q3 zf, c_A q2 cM 1024 zf, c_A q3 cD 256 zf]) hP hD [0] [] rfl rfl (by decide) (by decide) hk1 hFc hP1 hD1
  have hK := hK.app hK1
  generalize H1 = H at hP hS ⊢
  have hP : va_P (dC, dI) classes [c_S qs q0 q1 zf, c_P q0 q1 rf, c_B q1 q2 q3 zf, c_A q2 cM 1024 zf, c_A q3 cD 256 zf] H := hP
  have hD : va_D A [c_S qs q0 q1 zf, c_P q0 q1 rf, c_B q1 q2 q3 zf, c_A q2 cM 1024 zf, c_A q3 cD 256 zf] := hD
  have hK : va_K (dC, dI) classes [(cM, .int), (cD, .int)] s := hK
  refine W.widen (k := 5) (n := 1302) (Nat.le_of_ble_eq_true rfl) (Nat.le_of_ble_eq_true rfl) ?_
  refine lv_astore_n (lv' := [(1, .ref qs), (0, .ref b)]) hx hb d_L_law_7 rfl hl (by decide) rfl (fun ls hl => ?_)
  refine va_new (ci := 3) (fs := [.null, .null, .null, .null, .int 0, .int 0, .int 0, .int 0, .int 0, .int 0, .int 0, .int 0, .int 0]) (C := R_X) (T := F_X) (N := 13) hx hb htB i_X t_X t_X_ok hown (htB _ mw_455) (htB _ mw_456) (htB _ mw_4) hK hP hD hS hA rfl f_X_0 (Nat.le_of_ble_eq_true rfl) (Nat.le_of_ble_eq_true rfl) d_L_law_8 (fun x0 H hP hD hS => ?_)
  have hP : va_P (dC, dI) classes [c_S qs q0 q1 zf, c_P q0 q1 rf, c_B q1 q2 q3 zf, c_A q2 cM 1024 zf, c_A q3 cD 256 zf, (x0, .inr (3, [.null, .null, .null, .null, .int 0, .int 0, .int 0, .int 0, .int 0, .int 0, .int 0, .int 0, .int 0]))] H := hP
  have hD : va_D A [c_S qs q0 q1 zf, c_P q0 q1 rf, c_B q1 q2 q3 zf, c_A q2 cM 1024 zf, c_A q3 cD 256 zf, (x0, .inr (3, [.null, .null, .null, .null, .int 0, .int 0, .int 0, .int 0, .int 0, .int 0, .int 0, .int 0, .int 0]))] := hD
  refine W.widen (k := 6) (n := 1315) (Nat.le_of_ble_eq_true rfl) (Nat.le_of_ble_eq_true rfl) ?_
  refine lv_dup hx hb d_L_law_11 rfl ?_
  have hPc := hP.sub (ws' := [(x0, .inr (3, [.null, .null, .null, .null, .int 0, .int 0, .int 0, .int 0, .int 0, .int 0, .int 0, .int 0, .int 0]))]) [5] rfl
  have hDc := hD.sub (ws' := [(x0, .inr (3, [.null, .null, .null, .null, .int 0, .int 0, .int 0, .int 0, .int 0, .int 0, .int 0, .int 0, .int 0]))]) [5] (by decide) rfl
  have hKc := hK.sub (tys' := []) [] rfl
  have hFc := va_free (wc := [(x0, .inr (3, [.null, .null, .null, .null, .int 0, .int 0, .int 0, .int 0, .int 0, .int 0, .int 0, .int 0, .int 0]))]) hD hS hA [5] rfl
  refine va_callv (va_runI (As := []) (rest := [.ref x0]) ⟨hx, hb, hml, hown, htB⟩ (c_X_init l dC dI z0 x0 H.size) (cwI 0 htB (gd_c mw_459) rfl rfl rfl (htB _ mw_4) (htB _ mw_457) (htB _ mw_458) rfl (by decide +kernel) ⟨Nat.le_of_ble_eq_true rfl, Nat.le_of_ble_eq_true rfl⟩) (pcx_S hPc hKc hDc hA0 hE hS) rfl rfl hl.1 rfl (lv_room (Nat.le_of_ble_eq_true rfl)) d_L_law_12 ⟨Nat.le_of_ble_eq_true rfl, Nat.le_of_ble_eq_true rfl⟩) hS (fun q _ h => hFc q h) hFc (fun u t H1 locs ht hvm hw hB hz1 hk1 hS => ?_)
  obtain ⟨x1, x2, x3, x4, c1, c2, c3, c4⟩ := u
  obtain ⟨hP1, hK1, hD1⟩ := hB
  rw [ht] at hP1
  have hK1 := va_K.moved hvm.symm hK1
  obtain ⟨hP, hD⟩ := va_join (wr := [c_S qs q0 q1 zf, c_P q0 q1 rf, c_B q1 q2 q3 zf, c_A q2 cM 1024 zf, c_A q3 cD 256 zf]) (w1 := [c_X x0 x1 x2 x3 x4 zf, c_A x1 c1 1024 zf, c_A x2 c2 256 zf, c_A x3 c3 9 rf, c_A x4 c4 9 zf]) hP hD [5] [0, 1, 2, 3, 4] rfl rfl (by decide) (by decide) hk1 hFc hP1 hD1
  have hK := hK.app hK1
  generalize H1 = H at hP hS ⊢
  have hP : va_P (dC, dI) classes [c_S qs q0 q1 zf, c_P q0 q1 rf, c_B q1 q2 q3 zf, c_A q2 cM 1024 zf, c_A q3 cD 256 zf, c_X x0 x1 x2 x3 x4 zf, c_A x1 c1 1024 zf, c_A x2 c2 256 zf, c_A x3 c3 9 rf, c_A x4 c4 9 zf] H := hP
  have hD : va_D A [c_S qs q0 q1 zf, c_P q0 q1 rf, c_B q1 q2 q3 zf, c_A q2 cM 1024 zf, c_A q3 cD 256 zf, c_X x0 x1 x2 x3 x4 zf, c_A x1 c1 1024 zf, c_A x2 c2 256 zf, c_A x3 c3 9 rf, c_A x4 c4 9 zf] := hD
  have hK : va_K (dC, dI) classes [(cM, .int), (cD, .int), (c1, .int), (c2, .int), (c3, .int), (c4, .int)] s := hK
  refine W.widen (k := 10) (n := 2613) (Nat.le_of_ble_eq_true rfl) (Nat.le_of_ble_eq_true rfl) ?_
  refine lv_astore_n (lv' := [(2, .ref x0), (1, .ref qs), (0, .ref b)]) hx hb d_L_law_15 rfl hl (by decide) rfl (fun ls hl => ?_)
  refine lv_iconst (v := 1) hx hb d_L_law_16 (by decide) ?_
  refine va_newa (atype := .long) hx hb (htB _ mw_648) (ty := .long) rfl hK hP hD hS hA (N' := 1) (a0 := (1, .inr (.inl (fun _ => 0)))) (fun _ => rfl) (show ¬ (1 : Int32) < 0 from by decide) (by decide) (by decide) (Nat.le_of_ble_eq_true rfl) (Nat.le_of_ble_eq_true rfl) d_L_law_17 (fun qo cO H hK hP hD hS => ?_)
  have hP : va_P (dC, dI) classes [c_S qs q0 q1 zf, c_P q0 q1 rf, c_B q1 q2 q3 zf, c_A q2 cM 1024 zf, c_A q3 cD 256 zf, c_X x0 x1 x2 x3 x4 zf, c_A x1 c1 1024 zf, c_A x2 c2 256 zf, c_A x3 c3 9 rf, c_A x4 c4 9 zf, c_L qo cO (fun _ => 0)] H := hP
  have hD : va_D A [c_S qs q0 q1 zf, c_P q0 q1 rf, c_B q1 q2 q3 zf, c_A q2 cM 1024 zf, c_A q3 cD 256 zf, c_X x0 x1 x2 x3 x4 zf, c_A x1 c1 1024 zf, c_A x2 c2 256 zf, c_A x3 c3 9 rf, c_A x4 c4 9 zf, c_L qo cO (fun _ => 0)] := hD
  have hK : va_K (dC, dI) classes [(cM, .int), (cD, .int), (c1, .int), (c2, .int), (c3, .int), (c4, .int), (cO, .long)] s := hK
  refine W.widen (k := 11) (n := 2614) (Nat.le_of_ble_eq_true rfl) (Nat.le_of_ble_eq_true rfl) ?_
  refine lv_astore_n (lv' := [(3, .ref qo), (2, .ref x0), (1, .ref qs), (0, .ref b)]) hx hb d_L_law_19 rfl hl (by decide) rfl (fun ls hl => ?_)
  refine lv_iconst (v := 0) hx hb d_L_law_20 (by decide) ?_
  refine lv_istore (lv' := [(4, .int (0 : Int32)), (3, .ref qo), (2, .ref x0), (1, .ref qs), (0, .ref b)]) hx hb d_L_law_21 hl (by decide) rfl (fun ls hl => ?_)
  have hl : lv_has ls 7 [(4, .int (nI (6 * 0))), (0, .ref b), (1, .ref qs), (2, .ref x0), (3, .ref qo)] := lv_sub hl [0, 4, 3, 2, 1] rfl
  exact law_loop hl9 hx hb hml hown htB hX hbl hbA hA hA0 hE hK hL hr hlocks hA1 (L + 1) 0 (by omega) (by omega) zf rf zf zf zf zf zf zf rf zf (fun _ => 0) H _ ls rel_0 hP hD hS hl
