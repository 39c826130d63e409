def f_S_raise (p1 : Int32)  : Nat :=
  if p1 = (1 : Int32) then
    2
  else
    if p1 = (2 : Int32) then
      3
    else
      if p1 = (3 : Int32) then
        4
      else
        5
abbrev Q_S_raise (dC : Nat → ClassId) (dI : Nat → Nat → Nat)  (p1 : Int32)  (A : Nat → Prop) : Array Value → State → Outcome → State → Prop := va_Qv (fun (_ : Unit) => (f_S_raise p1) = 0) (fun _ t => atW (dC, dI) classes A [] [] t) A
abbrev X_S_raise (dC : Nat → ClassId) (dI : Nat → Nat → Nat)  (p1 : Int32)  (A : Nat → Prop) : String → State → State → Prop := vx_X (fun (_ : Unit) => True) (fun E _ t => ¬ (f_S_raise p1) = 0 ∧ E = exN (f_S_raise p1) ∧ atW (dC, dI) classes A [] [] t) A
set_option maxHeartbeats 4000000 in
set_option maxRecDepth 100000 in
theorem c_S_raise (l : Launch) (hl9 : l.stackTraces = false) (dC : Nat → ClassId) (dI : Nat → Nat → Nat) (z0 : Nat)  (sz : Nat) (p1 : Int32)   : vx_Met l y_S_raise w_S_raise ({ frames := 6, cells := 1, slots := 6, locals := 90 }) (PcX (dC, dI) classes z0 [] [] sz [.int p1]) (Q_S_raise dC dI p1 (va_A [] sz)) (X_S_raise dC dI p1 (va_A [] sz)) 1 6 (va_A [] sz) := by
  refine hdXx (cc := b_S_raise) (maxL := 1) (ret := none) (C := R_S) (Qc := (Q_S_raise dC dI p1)) (XC := (X_S_raise dC dI p1)) (by decide) rfl ?_
  intro p e s m below meth c A H hx hb hr hlocks hEx hml hown hin htB hP hK hD hA hA0 hE hS
  have hl := lv_entry ([.int p1]) (n := 1) (Nat.le_of_ble_eq_true rfl)
  rw [lg_entry_eq]
  generalize (lg_sl ([.int p1]) ++ List.replicate (1 - (lg_sl ([.int p1])).length) Slot.unset).toArray = ls at hl ⊢
  have hl : lv_has ls 1 [(0, .int p1)] := hl
  refine lv_iload_n hx hb d_S_raise_0 rfl (lv_at hl 0 rfl) ?_
  by_cases c_1 : p1 = (1 : Int32)
  · refine lv_tableIn (tgt := 28) hx hb d_S_raise_1 (by rw [c_1]; decide) (by rw [c_1]; decide) (by rw [c_1]; rfl) (by decide) ?_
    have hf : f_S_raise p1 = 2 := by rw [f_S_raise, if_pos c_1]
    obtain ⟨sa, hsa⟩ := hE.2.2.2.1 ("SixtyFive", 94, "code 0") (by decide +kernel)
    exact vx_throwS (names := exS) hx hb hl9 hown (by decide +kernel) (by decide +kernel) (htB _ mw_244) (htB _ mw_9) hsa (vx_hat (fun w h => htB w (at_S_68_1 w h)) (fun w h => at_S_68_2 w h) (fun w h => va_Nw.use (enOK_tab (enW_ok w h)) (hE.2.1 w h))) at_S_68_3 (hE.2.2.2.2.2.2.1.narrow hA0) (hE.2.2.2.2.2.2.2.narrow hA0) hS (hl.1.trans hml.symm) d_S_raise_28 d_S_raise_31 d_S_raise_32 d_S_raise_34 d_S_raise_37 (fun x hx => (hEx x hx).elim) (Nat.le_of_ble_eq_true rfl) (Nat.le_of_ble_eq_true rfl) (Nat.le_of_ble_eq_true rfl) (Nat.le_of_ble_eq_true rfl) hlocks (fun t ha h1 h2 => by
      obtain ⟨g1, g2⟩ := thr_at hP hK hD hS ha h1 h2
      exact ⟨(), trivial, by rw [hf]; exact ⟨show ¬ (2 : Nat) = 0 from by decide, rfl, g1⟩, g2⟩) hS.2.2 (Nat.le_of_ble_eq_true rfl) (Nat.le_of_ble_eq_true rfl)
  · by_cases c_2 : p1 = (2 : Int32)
    · refine lv_tableIn (tgt := 38) hx hb d_S_raise_1 (by rw [c_2]; decide) (by rw [c_2]; decide) (by rw [c_2]; rfl) (by decide) ?_
      have hf : f_S_raise p1 = 3 := by rw [f_S_raise, if_neg c_1, if_pos c_2]
      obtain ⟨sa, hsa⟩ := hE.2.2.2.1 ("SixtyFive", 98, "a write into protected memory") (by decide +kernel)
      exact vx_throwS (names := exS) hx hb hl9 hown (by decide +kernel) (by decide +kernel) (htB _ mw_386) (htB _ mw_11) hsa (vx_hat (fun w h => htB w (at_S_100_1 w h)) (fun w h => at_S_100_2 w h) (fun w h => va_Nw.use (enOK_tab (enW_ok w h)) (hE.2.1 w h))) at_S_100_3 (hE.2.2.2.2.2.2.1.narrow hA0) (hE.2.2.2.2.2.2.2.narrow hA0) hS (hl.1.trans hml.symm) d_S_raise_38 d_S_raise_41 d_S_raise_42 d_S_raise_44 d_S_raise_47 (fun x hx => (hEx x hx).elim) (Nat.le_of_ble_eq_true rfl) (Nat.le_of_ble_eq_true rfl) (Nat.le_of_ble_eq_true rfl) (Nat.le_of_ble_eq_true rfl) hlocks (fun t ha h1 h2 => by
        obtain ⟨g1, g2⟩ := thr_at hP hK hD hS ha h1 h2
        exact ⟨(), trivial, by rw [hf]; exact ⟨show ¬ (3 : Nat) = 0 from by decide, rfl, g1⟩, g2⟩) hS.2.2 (Nat.le_of_ble_eq_true rfl) (Nat.le_of_ble_eq_true rfl)
    · by_cases c_3 : p1 = (3 : Int32)
      · refine lv_tableIn (tgt := 48) hx hb d_S_raise_1 (by rw [c_3]; decide) (by rw [c_3]; decide) (by rw [c_3]; rfl) (by decide) ?_
        have hf : f_S_raise p1 = 4 := by rw [f_S_raise, if_neg c_1, if_neg c_2, if_pos c_3]
        obtain ⟨sa, hsa⟩ := hE.2.2.2.1 ("SixtyFive", 103, "no such sector") (by decide +kernel)
        exact vx_throwS (names := exS) hx hb hl9 hown (by decide +kernel) (by decide +kernel) (htB _ mw_402) (htB _ mw_12) hsa (vx_hat (fun w h => htB w (at_S_105_1 w h)) (fun w h => at_S_105_2 w h) (fun w h => va_Nw.use (enOK_tab (enW_ok w h)) (hE.2.1 w h))) at_S_105_3 (hE.2.2.2.2.2.2.1.narrow hA0) (hE.2.2.2.2.2.2.2.narrow hA0) hS (hl.1.trans hml.symm) d_S_raise_48 d_S_raise_51 d_S_raise_52 d_S_raise_54 d_S_raise_57 (fun x hx => (hEx x hx).elim) (Nat.le_of_ble_eq_true rfl) (Nat.le_of_ble_eq_true rfl) (Nat.le_of_ble_eq_true rfl) (Nat.le_of_ble_eq_true rfl) hlocks (fun t ha h1 h2 => by
          obtain ⟨g1, g2⟩ := thr_at hP hK hD hS ha h1 h2
          exact ⟨(), trivial, by rw [hf]; exact ⟨show ¬ (4 : Nat) = 0 from by decide, rfl, g1⟩, g2⟩) hS.2.2 (Nat.le_of_ble_eq_true rfl) (Nat.le_of_ble_eq_true rfl)
      · refine lv_tableOut (tgt := 58) hx hb d_S_raise_1 (by have g_1 := lv_neT c_1 (show (1 : Int32).toInt = 1 from by decide); have g_2 := lv_neT c_2 (show (2 : Int32).toInt = 2 from by decide); have g_3 := lv_neT c_3 (show (3 : Int32).toInt = 3 from by decide); omega) (by decide) ?_
        have hf : f_S_raise p1 = 5 := by rw [f_S_raise, if_neg c_1, if_neg c_2, if_neg c_3]
        obtain ⟨sa, hsa⟩ := hE.2.2.2.1 ("SixtyFive", 108, "no such instruction") (by decide +kernel)
        exact ns_throw (SY := "java/lang/RuntimeException") (r := ["java/lang/Exception"]) (idx := 13) (bytes := prog_15_method_4_code) hx hb hl9 hown (by decide +kernel) (by decide +kernel) (by decide +kernel) (by decide +kernel) (by decide +kernel) (by decide +kernel) (by decide +kernel) (htB _ mw_418) (htB _ mw_13) hsa (vx_hat (fun w h => htB w (at_S_110_1 w h)) (fun w h => at_S_110_2 w h) (fun w h => va_Nw.use (enOK_tab (enW_ok w h)) (hE.2.1 w h))) at_S_110_3 (hE.2.2.2.2.2.2.1.narrow hA0) (hE.2.2.2.2.2.2.2.narrow hA0) hS (hl.1.trans hml.symm) d_S_raise_58 d_S_raise_61 d_S_raise_62 d_S_raise_64 d_S_raise_67 (fun x hx => (hEx x hx).elim) (Nat.le_of_ble_eq_true rfl) (Nat.le_of_ble_eq_true rfl) (Nat.le_of_ble_eq_true rfl) (Nat.le_of_ble_eq_true rfl) hlocks (fun t ha h1 h2 => by
          obtain ⟨g1, g2⟩ := thr_at hP hK hD hS ha h1 h2
          exact ⟨(), trivial, by rw [hf]; exact ⟨show ¬ (5 : Nat) = 0 from by decide, rfl, g1⟩, g2⟩) hS.2.2 (Nat.le_of_ble_eq_true rfl) (Nat.le_of_ble_eq_true rfl)
def xrun : Nat → (Nat → Int32) → (Nat → Int32) → (Nat → Int32) → (Nat → Int32) → (Nat → Int32) → Int32 × (Nat → Int32) × (Nat → Int32) × (Nat → Int32) × (Nat → Int32) × (Nat → Int32)
  | 0, ku, m1, m2, m3, m4 => (m3 4, ku, m1, m2, m3, m4)
  | n + 1, ku, m1, m2, m3, m4 => if (f_X_instruction ku m1 m2 m3 m4).1 4 = (0 : Int32) then xrun n (f_X_instruction ku m1 m2 m3 m4).1 (f_X_instruction ku m1 m2 m3 m4).2.1 (f_X_instruction ku m1 m2 m3 m4).2.2.1 (f_X_instruction ku m1 m2 m3 m4).2.2.2.1 (f_X_instruction ku m1 m2 m3 m4).2.2.2.2 else ((0 : Int32), upd (f_X_instruction ku m1 m2 m3 m4).1 8 ((f_X_instruction ku m1 m2 m3 m4).1 4 + (1 : Int32)), (f_X_instruction ku m1 m2 m3 m4).2.1, (f_X_instruction ku m1 m2 m3 m4).2.2.1, (f_X_instruction ku m1 m2 m3 m4).2.2.2.1, (f_X_instruction ku m1 m2 m3 m4).2.2.2.2)
def xrun_ok : Nat → (Nat → Int32) → (Nat → Int32) → (Nat → Int32) → (Nat → Int32) → (Nat → Int32) → Prop
  | 0, _, _, _, _, _ => True
  | n + 1, ku, m1, m2, m3, m4 => xs_ok ku ∧ ((f_X_instruction ku m1 m2 m3 m4).1 4 = (0 : Int32) → xrun_ok n (f_X_instruction ku m1 m2 m3 m4).1 (f_X_instruction ku m1 m2 m3 m4).2.1 (f_X_instruction ku m1 m2 m3 m4).2.2.1 (f_X_instruction ku m1 m2 m3 m4).2.2.2.1 (f_X_instruction ku m1 m2 m3 m4).2.2.2.2)
def crun : Nat → (Nat → Int32) → (Nat → Int32) → (Nat → Int32) → (Nat → Int32) → (Nat → Int32) → Nat × Int32 × (Nat → Int32) × (Nat → Int32) × (Nat → Int32) × (Nat → Int32) × (Nat → Int32)
  | 0, g, r, k, M, D => (0, r 4, g, r, k, M, D)
  | n + 1, g, r, k, M, D => if (f_P_step r k M D).1 = (0 : Int32) then crun n (upd g 0 (g 0 + (1 : Int32))) (f_P_step r k M D).2.1 (f_P_step r k M D).2.2.1 (f_P_step r k M D).2.2.2.1 (f_P_step r k M D).2.2.2.2 else (f_S_raise (f_P_step r k M D).1, (0 : Int32), upd g 1 (f_P_step r k M D).1, (f_P_step r k M D).2.1, (f_P_step r k M D).2.2.1, (f_P_step r k M D).2.2.2.1, (f_P_step r k M D).2.2.2.2)
def crun_ok : Nat → (Nat → Int32) → (Nat → Int32) → (Nat → Int32) → (Nat → Int32) → Prop
  | 0, _, _, _, _ => True
  | n + 1, r, k, M, D => sn_ok k ∧ mem_ok k M ∧ ((f_P_step r k M D).1 = (0 : Int32) → crun_ok n (f_P_step r k M D).2.1 (f_P_step r k M D).2.2.1 (f_P_step r k M D).2.2.2.1 (f_P_step r k M D).2.2.2.2)
theorem raise_nz (x : Int32) : ¬ f_S_raise x = 0 := by
  unfold f_S_raise
  repeat' split
  all_goals decide
def f_X_run (p1 : Int32) (ku m1 m2 m3 m4 : Nat → Int32) : Int32 × (Nat → Int32) × (Nat → Int32) × (Nat → Int32) × (Nat → Int32) × (Nat → Int32) :=
  if (f_X_in p1 (1 : Int32) (20 : Int32)) = (0 : Int32) then
    ((0 : Int32), (f_X_good (f_X_in p1 (1 : Int32) (20 : Int32)) (1 : Int32) ku).2, m1, m2, m3, m4)
  else
    xrun p1.toNatClampNeg ((f_X_good (f_X_in p1 (1 : Int32) (20 : Int32)) (1 : Int32) ku).2) m1 m2 m3 m4
abbrev Q_X_run (dC : Nat → ClassId) (dI : Nat → Nat → Nat) (x0 : Nat) (x1 : Nat) (x2 : Nat) (x3 : Nat) (x4 : Nat) (c1 : ClassId) (c2 : ClassId) (c3 : ClassId) (c4 : ClassId) (p1 : Int32) (ku m1 m2 m3 m4 : Nat → Int32) (A : Nat → Prop) : Array Value → State → Outcome → State → Prop := va_Qi (fun (r9 : Int32) (_ : Unit) => r9 = (f_X_run p1 ku m1 m2 m3 m4).1) (fun _ t => atW (dC, dI) classes A [c_X x0 x1 x2 x3 x4 ((f_X_run p1 ku m1 m2 m3 m4).2.1), c_A x1 c1 1024 ((f_X_run p1 ku m1 m2 m3 m4).2.2.1), c_A x2 c2 256 ((f_X_run p1 ku m1 m2 m3 m4).2.2.2.1), c_A x3 c3 9 ((f_X_run p1 ku m1 m2 m3 m4).2.2.2.2.1), c_A x4 c4 9 ((f_X_run p1 ku m1 m2 m3 m4).2.2.2.2.2)] [(c1, .int), (c2, .int), (c3, .int), (c4, .int)] t) A

set_option maxHeartbeats 4000000 in
set_option maxRecDepth 100000 in
theorem L_X_run {l : Launch} {dC : Nat → ClassId} {dI : Nat → Nat → Nat} {z0 : Nat} {x0 : Nat} {x1 : Nat} {x2 : Nat} {x3 : Nat} {x4 : Nat} {c1 : ClassId} {c2 : ClassId} {c3 : ClassId} {c4 : ClassId} {p : Program} {e : Env} {s : State} {m : MethodId} {below : List Frame} {meth : Method} {c : Code} {A : Nat → Prop} {p1 : Int32} {ku m1 m2 m3 m4 : Nat → Int32} (hx : p.tables.exec = Jvm.exec) (hb : c.code = b_X_run) (hr : meth.sig.returnType = (some .int)) (hlocks : meth.locks = false) (hml : c.maxLocals = 3) (hown : s.vm.findClass R_X = some m.cls) (htB : ∀ w ∈ BIG, w.before ([.ref x0, .int p1] : List Value).toArray s = true) (hK : va_K (dC, dI) classes [(c1, .int), (c2, .int), (c3, .int), (c4, .int)] s) (hA : ∀ q : Nat, s.heap.size ≤ q → A q) (hA0 : ∀ q, A q → z0 ≤ q) (hE : EN z0 s) {N : Nat} (hN : p1 = nI N) (hN2 : N < 2 ^ 30) :
    ∀ (n j : Nat), j + n = N → ∀ (kux m1x m2x m3x m4x : Nat → Int32), xrun_ok n kux m1x m2x m3x m4x → f_X_run p1 ku m1 m2 m3 m4 = xrun n kux m1x m2x m3x m4x → ∀ (H : Heap) (locs : List Loc) (ls : Array Slot), va_P (dC, dI) classes [c_X x0 x1 x2 x3 x4 kux, c_A x1 c1 1024 m1x, c_A x2 c2 256 m2x, c_A x3 c3 9 m3x, c_A x4 c4 9 m4x] H → va_D A [c_X x0 x1 x2 x3 x4 kux, c_A x1 c1 1024 m1x, c_A x2 c2 256 m2x, c_A x3 c3 9 m3x, c_A x4 c4 9 m4x] → va_S A s.heap H locs → lv_has ls 3 [(2, .int (nI j)), (0, .ref x0), (1, .int p1)] → W p l e (headSpec w_X_run ({ frames := 6, cells := 0, slots := 0, locals := 136 })).room s m ([.ref x0, .int p1] : List Value).toArray below meth c H locs 0 0 (MQ below (Q_X_run dC dI x0 x1 x2 x3 x4 c1 c2 c3 c4 p1 ku m1 m2 m3 m4 A) ([.ref x0, .int p1] : List Value).toArray s 0 0 A) (F0 m 19 ls []) := by
  intro n
  induction n with
  | zero =>
    intro j hj kux m1x m2x m3x m4x hok hJ H locs ls hP hD hS hl
    have k_1 : p1 ≤ nI j := by rw [hN, show j = N by omega]; exact Int32.le_refl _
    refine lv_iload_n hx hb d_X_run_19 rfl (lv_at hl 0 rfl) ?_
    refine lv_iload_n hx hb d_X_run_20 rfl (lv_at hl 2 rfl) ?_
    refine lv_icmp_ge (tgt := 53) hx hb d_X_run_21 (by decide) (fun _ => ?_) (fun c9 => absurd k_1 c9)
    refine lv_aload_n hx hb d_X_run_53 rfl (lv_at hl 1 rfl) ?_
    refine va_get (D := (dC, dI)) (ci := 3) (v := .ref x3) (C := R_X) (T := F_X) (N := 13) hx hb htB i_X hown hK hP 0 rfl rfl 2 (by decide) (htB _ mw_463) (fun _ h9 => h9) rfl d_X_run_54 ?_
    refine lv_iconst (v := 4) hx hb d_X_run_57 (by decide) ?_
    refine iald_at hx hb hK hP 3 2 rfl rfl (show ¬ ((4 : Int32) < 0 ∨ 9 ≤ (4 : Int32).toNatClampNeg) from by decide) (show (4 : Int32).toNatClampNeg = 4 from by decide) d_X_run_58 ?_
    have hf : f_X_run p1 ku m1 m2 m3 m4 = ((m3x 4), kux, m1x, m2x, m3x, m4x) := by rw [hJ, xrun]
    exact W.iret (v := (m3x 4)) hx hb hr (fun t ht hW => ⟨⟨(m3x 4), (), rfl, (congrArg (fun z => z.1) hf).symm, by rw [hf]; exact ⟨by rw [ht]; exact hP, va_K.moved hW.alike hK, hD⟩⟩, hS.F ht⟩) hS.2.2 d_X_run_59
  | succ n ih =>
    intro j hj kux m1x m2x m3x m4x hok hJ H locs ls hP hD hS hl
    have k_1 : ¬ p1 ≤ nI j := by rw [hN]; exact nI_ge (by omega) (by omega)
    refine lv_iload_n hx hb d_X_run_19 rfl (lv_at hl 0 rfl) ?_
    refine lv_iload_n hx hb d_X_run_20 rfl (lv_at hl 2 rfl) ?_
    refine lv_icmp_ge (tgt := 53) hx hb d_X_run_21 (by decide) (fun c9 => absurd c9 k_1) (fun _ => ?_)
    refine lv_aload_n hx hb d_X_run_24 rfl (lv_at hl 1 rfl) ?_
    have hPc := hP.sub (ws' := [c_X x0 x1 x2 x3 x4 kux, c_A x1 c1 1024 m1x, c_A x2 c2 256 m2x, c_A x3 c3 9 m3x, c_A x4 c4 9 m4x]) [0, 1, 2, 3, 4] rfl
    have hDc := hD.sub (ws' := [c_X x0 x1 x2 x3 x4 kux, c_A x1 c1 1024 m1x, c_A x2 c2 256 m2x, c_A x3 c3 9 m3x, c_A x4 c4 9 m4x]) [0, 1, 2, 3, 4] (by decide) rfl
    have hKc := hK.sub (tys' := [(c1, .int), (c2, .int), (c3, .int), (c4, .int)]) [0, 1, 2, 3] rfl
    have hFc := va_free (wc := [c_X x0 x1 x2 x3 x4 kux, c_A x1 c1 1024 m1x, c_A x2 c2 256 m2x, c_A x3 c3 9 m3x, c_A x4 c4 9 m4x]) hD hS hA [0, 1, 2, 3, 4] rfl
    refine va_callv (va_runV (As := []) (rest := []) ⟨hx, hb, hml, hown, htB⟩ (c_X_instruction l dC dI z0 x0 x1 x2 x3 x4 c1 c2 c3 c4 H.size kux m1x m2x m3x m4x hok.1) (cwV 0 htB (gd_V mw_544 mw_546 sw_X_instruction mw_4 mw_547) rfl rfl rfl (by decide +kernel) ⟨Nat.le_of_ble_eq_true rfl, Nat.le_of_ble_eq_true rfl⟩) (pcx_V (va_recv hKc hPc (ci := 3) (q0 := 0) rfl rfl) hPc hKc hDc hA0 hE hS) rfl rfl hl.1 rfl (lv_room (Nat.le_of_ble_eq_true rfl)) d_X_run_25 ⟨Nat.zero_le _, Nat.zero_le _⟩) hS (fun q _ h => hFc q h) hFc (fun u t H1 locs ht hvm hw hB hz1 hk1 hS => ?_)
    obtain ⟨hP1, hK1, hD1⟩ := hB
    rw [ht] at hP1
    obtain ⟨hP, hD⟩ := va_join (wr := []) (w1 := [c_X x0 x1 x2 x3 x4 ((f_X_instruction kux m1x m2x m3x m4x).1), c_A x1 c1 1024 ((f_X_instruction kux m1x m2x m3x m4x).2.1), c_A x2 c2 256 ((f_X_instruction kux m1x m2x m3x m4x).2.2.1), c_A x3 c3 9 ((f_X_instruction kux m1x m2x m3x m4x).2.2.2.1), c_A x4 c4 9 ((f_X_instruction kux m1x m2x m3x m4x).2.2.2.2)]) hP hD [0, 1, 2, 3, 4] [] rfl rfl (by decide) (by decide) hk1 hFc hP1 hD1
    generalize H1 = H at hP hS ⊢
    have hP : va_P (dC, dI) classes [c_X x0 x1 x2 x3 x4 ((f_X_instruction kux m1x m2x m3x m4x).1), c_A x1 c1 1024 ((f_X_instruction kux m1x m2x m3x m4x).2.1), c_A x2 c2 256 ((f_X_instruction kux m1x m2x m3x m4x).2.2.1), c_A x3 c3 9 ((f_X_instruction kux m1x m2x m3x m4x).2.2.2.1), c_A x4 c4 9 ((f_X_instruction kux m1x m2x m3x m4x).2.2.2.2)] H := hP.sub [0, 1, 2, 3, 4] rfl
    have hD : va_D A [c_X x0 x1 x2 x3 x4 ((f_X_instruction kux m1x m2x m3x m4x).1), c_A x1 c1 1024 ((f_X_instruction kux m1x m2x m3x m4x).2.1), c_A x2 c2 256 ((f_X_instruction kux m1x m2x m3x m4x).2.2.1), c_A x3 c3 9 ((f_X_instruction kux m1x m2x m3x m4x).2.2.2.1), c_A x4 c4 9 ((f_X_instruction kux m1x m2x m3x m4x).2.2.2.2)] := hD.sub [0, 1, 2, 3, 4] (by decide) rfl
    obtain ⟨z1, ez1⟩ : ∃ z, z = (f_X_instruction kux m1x m2x m3x m4x) := ⟨_, rfl⟩
    rw [← ez1] at hP hD
    refine lv_aload_n hx hb d_X_run_28 rfl (lv_at hl 1 rfl) ?_
    refine va_get (D := (dC, dI)) (ci := 3) (v := .int (z1.1 4)) (C := R_X) (T := F_X) (N := 13) hx hb htB i_X hown hK hP 0 rfl rfl 8 (by decide) (htB _ mw_469) (fun _ h9 => h9) rfl d_X_run_29 ?_
    refine lv_if_eq (tgt := 47) hx hb d_X_run_32 (by decide) (fun c_3 => ?_) (fun c_3 => ?_)
    · refine lv_iinc (v := ((nI j) + Int32.ofInt 1)) (lv' := [(2, .int ((nI j) + Int32.ofInt 1)), (0, .ref x0), (1, .int p1)]) hx hb d_X_run_47 hl (k := 0) rfl rfl (by decide) rfl (fun ls hl => ?_)
      refine lv_goto (tgt := 19) hx hb d_X_run_50 (by decide) ?_
      have e9 : nI j + Int32.ofInt 1 = nI (j + 1) := nI_1 j
      rw [e9] at hl
      exact ih (j + 1) (by omega) _ _ _ _ _ (by have q := hok.2; rw [← ez1] at q; exact q c_3) (by rw [hJ, xrun, ← ez1, if_pos c_3]) H _ ls hP hD hS (lv_sub hl [0, 1, 2] rfl)
    · refine lv_aload_n hx hb d_X_run_35 rfl (lv_at hl 1 rfl) ?_
      refine lv_aload_n hx hb d_X_run_36 rfl (lv_at hl 1 rfl) ?_
      refine va_get (D := (dC, dI)) (ci := 3) (v := .int (z1.1 4)) (C := R_X) (T := F_X) (N := 13) hx hb htB i_X hown hK hP 0 rfl rfl 8 (by decide) (htB _ mw_469) (fun _ h9 => h9) rfl d_X_run_37 ?_
      refine lv_iconst (v := 1) hx hb d_X_run_40 (by decide) ?_
      refine lv_iadd hx hb d_X_run_41 ?_
      refine va_put (D := (dC, dI)) (ci := 3) (v := .int ((z1.1 4) + (1 : Int32))) (ty := .int) (C := R_X) (T := F_X) (N := 13) hx hb htB i_X t_X t_X_ok n_X hown hK hP hD hS 0 rfl rfl 12 (by decide) (htB _ mw_473) (fun _ h9 => h9) rfl (by decide +kernel) rfl rfl (Nat.le_of_ble_eq_true rfl) d_X_run_42 (fun H locs hP hD hS => ?_)
      have hP : va_P (dC, dI) classes [c_X x0 x1 x2 x3 x4 (upd z1.1 8 ((z1.1 4) + (1 : Int32))), c_A x1 c1 1024 z1.2.1, c_A x2 c2 256 z1.2.2.1, c_A x3 c3 9 z1.2.2.2.1, c_A x4 c4 9 z1.2.2.2.2] H := hP
      have hD : va_D A [c_X x0 x1 x2 x3 x4 (upd z1.1 8 ((z1.1 4) + (1 : Int32))), c_A x1 c1 1024 z1.2.1, c_A x2 c2 256 z1.2.2.1, c_A x3 c3 9 z1.2.2.2.1, c_A x4 c4 9 z1.2.2.2.2] := hD
      refine lv_iconst (v := 0) hx hb d_X_run_45 (by decide) ?_
      have hf : f_X_run p1 ku m1 m2 m3 m4 = ((0 : Int32), (upd z1.1 8 ((z1.1 4) + (1 : Int32))), z1.2.1, z1.2.2.1, z1.2.2.2.1, z1.2.2.2.2) := by rw [hJ, xrun, ← ez1, if_neg c_3]
      exact W.iret (v := (0 : Int32)) hx hb hr (fun t ht hW => ⟨⟨(0 : Int32), (), rfl, (congrArg (fun z => z.1) hf).symm, by rw [hf]; exact ⟨by rw [ht]; exact hP, va_K.moved hW.alike hK, hD⟩⟩, hS.F ht⟩) hS.2.2 d_X_run_46

set_option maxHeartbeats 4000000 in
set_option maxRecDepth 100000 in
theorem c_X_run (l : Launch) (dC : Nat → ClassId) (dI : Nat → Nat → Nat) (z0 : Nat) (x0 : Nat) (x1 : Nat) (x2 : Nat) (x3 : Nat) (x4 : Nat) (c1 : ClassId) (c2 : ClassId) (c3 : ClassId) (c4 : ClassId) (sz : Nat) (p1 : Int32) (ku m1 m2 m3 m4 : Nat → Int32) (hok : ¬ (f_X_in p1 (1 : Int32) (20 : Int32)) = (0 : Int32) → xrun_ok p1.toNatClampNeg (f_X_good (f_X_in p1 (1 : Int32) (20 : Int32)) (1 : Int32) ku).2 m1 m2 m3 m4) : Met l y_X_run w_X_run ({ frames := 6, cells := 0, slots := 0, locals := 136 }) (PcX (dC, dI) classes z0 [c_X x0 x1 x2 x3 x4 ku, c_A x1 c1 1024 m1, c_A x2 c2 256 m2, c_A x3 c3 9 m3, c_A x4 c4 9 m4] [(c1, .int), (c2, .int), (c3, .int), (c4, .int)] sz [.ref x0, .int p1]) (Q_X_run dC dI x0 x1 x2 x3 x4 c1 c2 c3 c4 p1 ku m1 m2 m3 m4 (va_A [c_X x0 x1 x2 x3 x4 ku, c_A x1 c1 1024 m1, c_A x2 c2 256 m2, c_A x3 c3 9 m3, c_A x4 c4 9 m4] sz)) 0 0 (va_A [c_X x0 x1 x2 x3 x4 ku, c_A x1 c1 1024 m1, c_A x2 c2 256 m2, c_A x3 c3 9 m3, c_A x4 c4 9 m4] sz) := by
  refine hdX (cc := b_X_run) (maxL := 3) (ret := (some .int)) (C := R_X) (Qc := (Q_X_run dC dI x0 x1 x2 x3 x4 c1 c2 c3 c4 p1 ku m1 m2 m3 m4)) (by decide) rfl ?_
  intro p e s m below meth c A H hx hb hr hlocks hml hown hin htB hP hK hD hA hA0 hE hS
  have hl := lv_entry ([.ref x0, .int p1]) (n := 3) (Nat.le_of_ble_eq_true rfl)
  rw [lg_entry_eq]
  generalize (lg_sl ([.ref x0, .int p1]) ++ List.replicate (3 - (lg_sl ([.ref x0, .int p1])).length) Slot.unset).toArray = ls at hl ⊢
  have hl : lv_has ls 3 [(0, .ref x0), (1, .int p1)] := hl
  refine lv_aload_n hx hb d_X_run_0 rfl (lv_at hl 0 rfl) ?_
  refine lv_iload_n hx hb d_X_run_1 rfl (lv_at hl 1 rfl) ?_
  refine lv_iconst (v := 1) hx hb d_X_run_2 (by decide) ?_
  refine lv_bipush (v := 20) hx hb d_X_run_3 (by decide) ?_
  have hPc := hP.sub (ws' := []) [] rfl
  have hDc := hD.sub (ws' := []) [] (by decide) rfl
  have hKc := hK.sub (tys' := []) [] rfl
  have hFc := va_free (wc := []) hD hS hA [] rfl
  refine va_calli (va_runS (As := [.int p1, .int (1 : Int32), .int (20 : Int32)]) (rest := [.ref x0]) ⟨hx, hb, hml, hown, htB⟩ (c_X_in l dC dI z0  H.size p1 (1 : Int32) (20 : Int32)) (cwS 3 htB (gd_S mw_509 mw_510 mw_4 mw_511) rfl rfl rfl (by decide +kernel) ⟨Nat.le_of_ble_eq_true rfl, Nat.le_of_ble_eq_true rfl⟩) (pcx_S hPc hKc hDc hA0 hE hS) rfl rfl hl.1 rfl (lv_room (Nat.le_of_ble_eq_true rfl)) d_X_run_5 ⟨Nat.zero_le _, Nat.zero_le _⟩) hS (fun q _ h => hFc q h) hFc (fun r9 u t H1 locs ht hvm hw hB hz1 hk1 hS => ?_)
  subst hw
  obtain ⟨hP1, hK1, hD1⟩ := hB
  rw [ht] at hP1
  obtain ⟨hP, hD⟩ := va_join (wr := [c_X x0 x1 x2 x3 x4 ku, c_A x1 c1 1024 m1, c_A x2 c2 256 m2, c_A x3 c3 9 m3, c_A x4 c4 9 m4]) (w1 := []) hP hD [] [0, 1, 2, 3, 4] rfl rfl (by decide) (by decide) hk1 hFc hP1 hD1
  generalize H1 = H at hP hS ⊢
  have hP : va_P (dC, dI) classes [c_X x0 x1 x2 x3 x4 ku, c_A x1 c1 1024 m1, c_A x2 c2 256 m2, c_A x3 c3 9 m3, c_A x4 c4 9 m4] H := hP.sub [0, 1, 2, 3, 4] rfl
  have hD : va_D A [c_X x0 x1 x2 x3 x4 ku, c_A x1 c1 1024 m1, c_A x2 c2 256 m2, c_A x3 c3 9 m3, c_A x4 c4 9 m4] := hD.sub [0, 1, 2, 3, 4] (by decide) rfl
  refine lv_iconst (v := 1) hx hb d_X_run_8 (by decide) ?_
  have hPc := hP.sub (ws' := [c_X x0 x1 x2 x3 x4 ku]) [0] rfl
  have hDc := hD.sub (ws' := [c_X x0 x1 x2 x3 x4 ku]) [0] (by decide) rfl
  have hKc := hK.sub (tys' := []) [] rfl
  have hFc := va_free (wc := [c_X x0 x1 x2 x3 x4 ku]) hD hS hA [0] rfl
  refine va_calli (va_runV (As := [.int (f_X_in p1 (1 : Int32) (20 : Int32)), .int (1 : Int32)]) (rest := []) ⟨hx, hb, hml, hown, htB⟩ (c_X_good l dC dI z0 x0 x1 x2 x3 x4 H.size (f_X_in p1 (1 : Int32) (20 : Int32)) (1 : Int32) ku xin_01) (cwV 2 htB (gd_V mw_512 mw_514 sw_X_good mw_4 mw_515) rfl rfl rfl (by decide +kernel) ⟨Nat.le_of_ble_eq_true rfl, Nat.le_of_ble_eq_true rfl⟩) (pcx_V (va_recv hKc hPc (ci := 3) (q0 := 0) rfl rfl) hPc hKc hDc hA0 hE hS) rfl rfl hl.1 rfl (lv_room (Nat.le_of_ble_eq_true rfl)) d_X_run_9 ⟨Nat.zero_le _, Nat.zero_le _⟩) hS (fun q _ h => hFc q h) hFc (fun r9 u t H1 locs ht hvm hw hB hz1 hk1 hS => ?_)
  subst hw
  obtain ⟨hP1, hK1, hD1⟩ := hB
  rw [ht] at hP1
  obtain ⟨hP, hD⟩ := va_join (wr := [c_A x1 c1 1024 m1, c_A x2 c2 256 m2, c_A x3 c3 9 m3, c_A x4 c4 9 m4]) (w1 := [c_X x0 x1 x2 x3 x4 ((f_X_good (f_X_in p1 (1 : Int32) (20 : Int32)) (1 : Int32) ku).2)]) hP hD [0] [1, 2, 3, 4] rfl rfl (by decide) (by decide) hk1 hFc hP1 hD1
  generalize H1 = H at hP hS ⊢
  have hP : va_P (dC, dI) classes [c_X x0 x1 x2 x3 x4 ((f_X_good (f_X_in p1 (1 : Int32) (20 : Int32)) (1 : Int32) ku).2), c_A x1 c1 1024 m1, c_A x2 c2 256 m2, c_A x3 c3 9 m3, c_A x4 c4 9 m4] H := hP.sub [4, 0, 1, 2, 3] rfl
  have hD : va_D A [c_X x0 x1 x2 x3 x4 ((f_X_good (f_X_in p1 (1 : Int32) (20 : Int32)) (1 : Int32) ku).2), c_A x1 c1 1024 m1, c_A x2 c2 256 m2, c_A x3 c3 9 m3, c_A x4 c4 9 m4] := hD.sub [4, 0, 1, 2, 3] (by decide) rfl
  rw [good_ret]
  refine lv_if_ne (tgt := 17) hx hb d_X_run_12 (by decide) (fun c_1 => ?_) (fun c_1 => ?_)
  · refine lv_iconst (v := 0) hx hb d_X_run_17 (by decide) ?_
    refine lv_istore_n (lv' := [(2, .int (0 : Int32)), (0, .ref x0), (1, .int p1)]) hx hb d_X_run_18 rfl hl (by decide) rfl (fun ls hl => ?_)
    have hl := lv_sub hl [0, 1, 2] rfl
    rw [show (0 : Int32) = nI 0 from rfl] at hl
    exact L_X_run hx hb hr hlocks hml hown htB hK hA hA0 hE (xrun_nat c_1).1 (xrun_nat c_1).2 p1.toNatClampNeg 0 (Nat.zero_add _) ((f_X_good (f_X_in p1 (1 : Int32) (20 : Int32)) (1 : Int32) ku).2) m1 m2 m3 m4 (hok c_1) (by rw [f_X_run, if_neg c_1]) H _ ls hP hD hS hl
  · refine lv_iconst (v := 0) hx hb d_X_run_15 (by decide) ?_
    have hf : f_X_run p1 ku m1 m2 m3 m4 = ((0 : Int32), (f_X_good (f_X_in p1 (1 : Int32) (20 : Int32)) (1 : Int32) ku).2, m1, m2, m3, m4) := by rw [f_X_run, if_pos c_1]
    exact W.iret (v := (0 : Int32)) hx hb hr (fun t ht hW => ⟨⟨(0 : Int32), (), rfl, (congrArg (fun z => z.1) hf).symm, by rw [hf]; exact ⟨by rw [ht]; exact hP, va_K.moved hW.alike hK, hD⟩⟩, hS.F ht⟩) hS.2.2 d_X_run_16
def f_S_run (p1 : Int32) (g r k M D : Nat → Int32) : Nat × Int32 × (Nat → Int32) × (Nat → Int32) × (Nat → Int32) × (Nat → Int32) × (Nat → Int32) :=
  if p1 < (1 : Int32) then
    ((f_S_demand (0 : Int32)), (0 : Int32), g, r, k, M, D)
  else
    if (20 : Int32) < p1 then
      ((f_S_demand (0 : Int32)), (0 : Int32), g, r, k, M, D)
    else
      crun p1.toNatClampNeg g r k M D
abbrev Q_S_run (dC : Nat → ClassId) (dI : Nat → Nat → Nat) (qs : Nat) (q0 : Nat) (q1 : Nat) (q2 : Nat) (q3 : Nat) (cM : ClassId) (cD : ClassId) (p1 : Int32) (g r k M D : Nat → Int32) (A : Nat → Prop) : Array Value → State → Outcome → State → Prop := va_Qi (fun (r9 : Int32) (_ : Unit) => (f_S_run p1 g r k M D).1 = 0 ∧ r9 = (f_S_run p1 g r k M D).2.1) (fun _ t => atW (dC, dI) classes A [c_S qs q0 q1 ((f_S_run p1 g r k M D).2.2.1), c_P q0 q1 ((f_S_run p1 g r k M D).2.2.2.1), c_B q1 q2 q3 ((f_S_run p1 g r k M D).2.2.2.2.1), c_A q2 cM 1024 ((f_S_run p1 g r k M D).2.2.2.2.2.1), c_A q3 cD 256 ((f_S_run p1 g r k M D).2.2.2.2.2.2)] [(cM, .int), (cD, .int)] t) A
abbrev X_S_run (dC : Nat → ClassId) (dI : Nat → Nat → Nat) (qs : Nat) (q0 : Nat) (q1 : Nat) (q2 : Nat) (q3 : Nat) (cM : ClassId) (cD : ClassId) (p1 : Int32) (g r k M D : Nat → Int32) (A : Nat → Prop) : String → State → State → Prop := vx_X (fun (_ : Unit) => True) (fun E _ t => ¬ (f_S_run p1 g r k M D).1 = 0 ∧ E = exN (f_S_run p1 g r k M D).1 ∧ atW (dC, dI) classes A [c_S qs q0 q1 ((f_S_run p1 g r k M D).2.2.1), c_P q0 q1 ((f_S_run p1 g r k M D).2.2.2.1), c_B q1 q2 q3 ((f_S_run p1 g r k M D).2.2.2.2.1), c_A q2 cM 1024 ((f_S_run p1 g r k M D).2.2.2.2.2.1), c_A q3 cD 256 ((f_S_run p1 g r k M D).2.2.2.2.2.2)] [(cM, .int), (cD, .int)] t) A

set_option maxHeartbeats 4000000 in
set_option maxRecDepth 100000 in
theorem L_S_run {l : Launch} (hl9 : l.stackTraces = false) {dC : Nat → ClassId} {dI : Nat → Nat → Nat} {z0 : Nat} {qs : Nat} {q0 : Nat} {q1 : Nat} {q2 : Nat} {q3 : Nat} {cM : ClassId} {cD : ClassId} {p : Program} {e : Env} {s : State} {m : MethodId} {below : List Frame} {meth : Method} {c : Code} {A : Nat → Prop} {p1 : Int32} {g r k M D : Nat → Int32} (hx : p.tables.exec = Jvm.exec) (hb : c.code = b_S_run) (hr : meth.sig.returnType = (some .int)) (hlocks : meth.locks = false) (hEx : ∀ x ∈ c.exceptionTable.toList, False) (hml : c.maxLocals = 4) (hown : s.vm.findClass R_S = some m.cls) (htB : ∀ w ∈ BIG, w.before ([.ref qs, .int p1] : List Value).toArray s = true) (hK : va_K (dC, dI) classes [(cM, .int), (cD, .int)] s) (hA : ∀ q : Nat, s.heap.size ≤ q → A q) (hA0 : ∀ q, A q → z0 ≤ q) (hE : EN z0 s) {N : Nat} (hN : p1 = nI N) (hN2 : N < 2 ^ 30) :
    ∀ (n j : Nat), j + n = N → ∀ (gx rx kx Mx Dx : Nat → Int32), crun_ok n rx kx Mx Dx → f_S_run p1 g r k M D = crun n gx rx kx Mx Dx → ∀ (H : Heap) (locs : List Loc) (ls : Array Slot), va_P (dC, dI) classes [c_S qs q0 q1 gx, c_P q0 q1 rx, c_B q1 q2 q3 kx, c_A q2 cM 1024 Mx, c_A q3 cD 256 Dx] H → va_D A [c_S qs q0 q1 gx, c_P q0 q1 rx, c_B q1 q2 q3 kx, c_A q2 cM 1024 Mx, c_A q3 cD 256 Dx] → va_S A s.heap H locs → lv_has ls 4 [(2, .int (nI j)), (0, .ref qs), (1, .int p1)] → W p l e (headSpec w_S_run ({ frames := 7, cells := 2, slots := 12, locals := 174 })).room s m ([.ref qs, .int p1] : List Value).toArray below meth c H locs 1 6 (vx_MQ below (Q_S_run dC dI qs q0 q1 q2 q3 cM cD p1 g r k M D A) (X_S_run dC dI qs q0 q1 q2 q3 cM cD p1 g r k M D A) ([.ref qs, .int p1] : List Value).toArray s 2 12 A) (F0 m 21 ls []) := by
  intro n
  induction n with
  | zero =>
    intro j hj gx rx kx Mx Dx hok hJ H locs ls hP hD hS hl
    have k_1 : p1 ≤ nI j := by rw [hN, show j = N by omega]; exact Int32.le_refl _
    refine lv_iload_n hx hb d_S_run_21 rfl (lv_at hl 0 rfl) ?_
    refine lv_iload_n hx hb d_S_run_22 rfl (lv_at hl 2 rfl) ?_
    refine lv_icmp_ge (tgt := 63) hx hb d_S_run_23 (by decide) (fun _ => ?_) (fun c9 => absurd k_1 c9)
    refine lv_aload_n hx hb d_S_run_63 rfl (lv_at hl 1 rfl) ?_
    refine va_get (D := (dC, dI)) (ci := 0) (v := .ref q0) (C := R_S) (T := F_S) (N := 4) hx hb htB i_S hown hK hP 0 rfl rfl 0 (by decide) (htB _ mw_99) (fun _ h9 => h9) rfl d_S_run_64 ?_
    refine va_getN (D := (dC, dI)) (ci := 1) (v := .int (rx 4)) (C := R_P) (T := F_P) (N := 13) hx hb htB i_P hown hK hP 1 rfl rfl 5 (by decide) (va_Nw.use rfl (hE.2.1 _ ew_64)) (fun _ h9 => h9) rfl d_S_run_67 ?_
    have hf : f_S_run p1 g r k M D = (0, (rx 4), gx, rx, kx, Mx, Dx) := by rw [hJ, crun]
    refine W.widen (k := 2) (n := 12) (by decide) (by decide) ?_
    exact vx_ret (W.iret (v := (rx 4)) hx hb hr (fun t ht hW => ⟨⟨(rx 4), (), rfl, by rw [hf]; exact ⟨rfl, rfl⟩, by rw [hf]; exact ⟨by rw [ht]; exact hP, va_K.moved hW.alike hK, hD⟩⟩, hS.F ht⟩) hS.2.2 d_S_run_70)
  | succ n ih =>
    intro j hj gx rx kx Mx Dx hok hJ H locs ls hP hD hS hl
    have k_1 : ¬ p1 ≤ nI j := by rw [hN]; exact nI_ge (by omega) (by omega)
    refine lv_iload_n hx hb d_S_run_21 rfl (lv_at hl 0 rfl) ?_
    refine lv_iload_n hx hb d_S_run_22 rfl (lv_at hl 2 rfl) ?_
    refine lv_icmp_ge (tgt := 63) hx hb d_S_run_23 (by decide) (fun c9 => absurd c9 k_1) (fun _ => ?_)
    refine lv_aload_n hx hb d_S_run_26 rfl (lv_at hl 1 rfl) ?_
    refine va_get (D := (dC, dI)) (ci := 0) (v := .ref q0) (C := R_S) (T := F_S) (N := 4) hx hb htB i_S hown hK hP 0 rfl rfl 0 (by decide) (htB _ mw_99) (fun _ h9 => h9) rfl d_S_run_27 ?_
    have hPc := hP.sub (ws' := [c_P q0 q1 rx, c_B q1 q2 q3 kx, c_A q2 cM 1024 Mx, c_A q3 cD 256 Dx]) [1, 2, 3, 4] rfl
    have hDc := hD.sub (ws' := [c_P q0 q1 rx, c_B q1 q2 q3 kx, c_A q2 cM 1024 Mx, c_A q3 cD 256 Dx]) [1, 2, 3, 4] (by decide) rfl
    have hKc := hK.sub (tys' := [(cM, .int), (cD, .int)]) [0, 1] rfl
    have hFc := va_free (wc := [c_P q0 q1 rx, c_B q1 q2 q3 kx, c_A q2 cM 1024 Mx, c_A q3 cD 256 Dx]) hD hS hA [1, 2, 3, 4] rfl
    refine va_calli (va_runVN (As := []) (rest := []) ⟨hx, hb, hml, hown, htB⟩ (c_P_step l dC dI z0 q0 q1 q2 q3 cM cD H.size rx kx Mx Dx hok.1 hok.2.1) ⟨va_cnB 0 htB (gd_c mw_273) rfl rfl rfl (hE.2.1 _ ew_270) (htB _ mw_2) (by decide +kernel) ⟨Nat.le_of_ble_eq_true rfl, Nat.le_of_ble_eq_true rfl⟩, htB _ mw_272, htB _ sw_P_step⟩ (pcx_V (va_recv hKc hPc (ci := 1) (q0 := 0) rfl rfl) hPc hKc hDc hA0 hE hS) rfl rfl hl.1 rfl (lv_room (Nat.le_of_ble_eq_true rfl)) d_S_run_30 ⟨Nat.le_of_ble_eq_true rfl, Nat.le_of_ble_eq_true rfl⟩) hS (fun q _ h => hFc q h) hFc (fun r9 u t H1 locs ht hvm hw hB hz1 hk1 hS => ?_)
    subst hw
    obtain ⟨hP1, hK1, hD1⟩ := hB
    rw [ht] at hP1
    obtain ⟨hP, hD⟩ := va_join (wr := [c_S qs q0 q1 gx]) (w1 := [c_P q0 q1 ((f_P_step rx kx Mx Dx).2.1), c_B q1 q2 q3 ((f_P_step rx kx Mx Dx).2.2.1), c_A q2 cM 1024 ((f_P_step rx kx Mx Dx).2.2.2.1), c_A q3 cD 256 ((f_P_step rx kx Mx Dx).2.2.2.2)]) hP hD [1, 2, 3, 4] [0] rfl rfl (by decide) (by decide) hk1 hFc hP1 hD1
    generalize H1 = H at hP hS ⊢
    have hP : va_P (dC, dI) classes [c_S qs q0 q1 gx, c_P q0 q1 ((f_P_step rx kx Mx Dx).2.1), c_B q1 q2 q3 ((f_P_step rx kx Mx Dx).2.2.1), c_A q2 cM 1024 ((f_P_step rx kx Mx Dx).2.2.2.1), c_A q3 cD 256 ((f_P_step rx kx Mx Dx).2.2.2.2)] H := hP.sub [0, 1, 2, 3, 4] rfl
    have hD : va_D A [c_S qs q0 q1 gx, c_P q0 q1 ((f_P_step rx kx Mx Dx).2.1), c_B q1 q2 q3 ((f_P_step rx kx Mx Dx).2.2.1), c_A q2 cM 1024 ((f_P_step rx kx Mx Dx).2.2.2.1), c_A q3 cD 256 ((f_P_step rx kx Mx Dx).2.2.2.2)] := hD.sub [0, 1, 2, 3, 4] (by decide) rfl
    obtain ⟨z1, ez1⟩ : ∃ z, z = (f_P_step rx kx Mx Dx) := ⟨_, rfl⟩
    rw [← ez1] at hP hD ⊢
    refine lv_istore_n (lv' := [(3, .int z1.1), (2, .int (nI j)), (0, .ref qs), (1, .int p1)]) hx hb d_S_run_33 rfl hl (by decide) rfl (fun ls hl => ?_)
    refine lv_iload_n hx hb d_S_run_34 rfl (lv_at hl 0 rfl) ?_
    refine lv_if_eq (tgt := 47) hx hb d_S_run_35 (by decide) (fun c_3 => ?_) (fun c_3 => ?_)
    · refine lv_aload_n hx hb d_S_run_47 rfl (lv_at hl 2 rfl) ?_
      refine lv_dup hx hb d_S_run_48 rfl ?_
      refine va_get (D := (dC, dI)) (ci := 0) (v := .int (gx 0)) (C := R_S) (T := F_S) (N := 4) hx hb htB i_S hown hK hP 0 rfl rfl 2 (by decide) (htB _ mw_101) (fun _ h9 => h9) rfl d_S_run_49 ?_
      refine lv_iconst (v := 1) hx hb d_S_run_52 (by decide) ?_
      refine lv_iadd hx hb d_S_run_53 ?_
      refine va_put (D := (dC, dI)) (ci := 0) (v := .int ((gx 0) + (1 : Int32))) (ty := .int) (C := R_S) (T := F_S) (N := 4) hx hb htB i_S t_S t_S_ok n_S hown hK hP hD hS 0 rfl rfl 2 (by decide) (htB _ mw_101) (fun _ h9 => h9) rfl (by decide +kernel) rfl rfl (Nat.le_of_ble_eq_true rfl) d_S_run_54 (fun H locs hP hD hS => ?_)
      have hP : va_P (dC, dI) classes [c_S qs q0 q1 (upd gx 0 ((gx 0) + (1 : Int32))), c_P q0 q1 z1.2.1, c_B q1 q2 q3 z1.2.2.1, c_A q2 cM 1024 z1.2.2.2.1, c_A q3 cD 256 z1.2.2.2.2] H := hP
      have hD : va_D A [c_S qs q0 q1 (upd gx 0 ((gx 0) + (1 : Int32))), c_P q0 q1 z1.2.1, c_B q1 q2 q3 z1.2.2.1, c_A q2 cM 1024 z1.2.2.2.1, c_A q3 cD 256 z1.2.2.2.2] := hD
      refine lv_iinc (v := ((nI j) + Int32.ofInt 1)) (lv' := [(2, .int ((nI j) + Int32.ofInt 1)), (3, .int z1.1), (0, .ref qs), (1, .int p1)]) hx hb d_S_run_57 hl (k := 1) rfl rfl (by decide) rfl (fun ls hl => ?_)
      refine lv_goto (tgt := 21) hx hb d_S_run_60 (by decide) ?_
      have e9 : nI j + Int32.ofInt 1 = nI (j + 1) := nI_1 j
      rw [e9] at hl
      exact ih (j + 1) (by omega) _ _ _ _ _ (by have q := hok.2.2; rw [← ez1] at q; exact q c_3) (by rw [hJ, crun, ← ez1, if_pos c_3]) H _ ls hP hD hS (lv_sub hl [0, 2, 3] rfl)
    · refine lv_aload_n hx hb d_S_run_38 rfl (lv_at hl 2 rfl) ?_
      refine lv_iload_n hx hb d_S_run_39 rfl (lv_at hl 0 rfl) ?_
      refine va_put (D := (dC, dI)) (ci := 0) (v := .int z1.1) (ty := .int) (C := R_S) (T := F_S) (N := 4) hx hb htB i_S t_S t_S_ok n_S hown hK hP hD hS 0 rfl rfl 3 (by decide) (htB _ mw_102) (fun _ h9 => h9) rfl (by decide +kernel) rfl rfl (Nat.le_of_ble_eq_true rfl) d_S_run_40 (fun H locs hP hD hS => ?_)
      have hP : va_P (dC, dI) classes [c_S qs q0 q1 (upd gx 1 z1.1), c_P q0 q1 z1.2.1, c_B q1 q2 q3 z1.2.2.1, c_A q2 cM 1024 z1.2.2.2.1, c_A q3 cD 256 z1.2.2.2.2] H := hP
      have hD : va_D A [c_S qs q0 q1 (upd gx 1 z1.1), c_P q0 q1 z1.2.1, c_B q1 q2 q3 z1.2.2.1, c_A q2 cM 1024 z1.2.2.2.1, c_A q3 cD 256 z1.2.2.2.2] := hD
      refine lv_iload_n hx hb d_S_run_43 rfl (lv_at hl 0 rfl) ?_
      have hPc := hP.sub (ws' := []) [] rfl
      have hDc := hD.sub (ws' := []) [] (by decide) rfl
      have hKc := hK.sub (tys' := []) [] rfl
      have hFc := va_free (wc := []) hD hS hA [] rfl
      refine vx_callv (vx_runS (As := [.int z1.1]) (rest := []) ⟨hx, hb, hml, hown, htB⟩ (c_S_raise l hl9 dC dI z0  H.size z1.1) (cwS 1 htB (gd_S mw_382 mw_383 mw_1 mw_384) rfl rfl rfl (by decide +kernel) ⟨Nat.le_of_ble_eq_true rfl, Nat.le_of_ble_eq_true rfl⟩) (pcx_S hPc hKc hDc hA0 hE hS) rfl rfl hl.1 rfl (lv_room (Nat.le_of_ble_eq_true rfl)) d_S_run_44 ⟨Nat.le_of_ble_eq_true rfl, Nat.le_of_ble_eq_true rfl⟩) hS (fun q _ h => hFc q h) hFc (fun q _ h => hFc q h) (fun E9 ce q9 u t H1 locs ht hvm hw hB hz1 hk1 hS hce hcv hcl => ?_) (fun u t H1 locs ht hvm hw hB hz1 hk1 hS => ?_)
      · obtain ⟨c_4, rfl, hB⟩ := hB
        obtain ⟨hP1, hK1, hD1⟩ := hB
        rw [ht] at hP1
        obtain ⟨hP, hD⟩ := va_join (wr := [c_S qs q0 q1 (upd gx 1 z1.1), c_P q0 q1 z1.2.1, c_B q1 q2 q3 z1.2.2.1, c_A q2 cM 1024 z1.2.2.2.1, c_A q3 cD 256 z1.2.2.2.2]) (w1 := []) hP hD [] [0, 1, 2, 3, 4] rfl rfl (by decide) (by decide) hk1 hFc hP1 hD1
        generalize H1 = H at hP hS hce ⊢
        have hP : va_P (dC, dI) classes [c_S qs q0 q1 (upd gx 1 z1.1), c_P q0 q1 z1.2.1, c_B q1 q2 q3 z1.2.2.1, c_A q2 cM 1024 z1.2.2.2.1, c_A q3 cD 256 z1.2.2.2.2] H := hP.sub [0, 1, 2, 3, 4] rfl
        have hD : va_D A [c_S qs q0 q1 (upd gx 1 z1.1), c_P q0 q1 z1.2.1, c_B q1 q2 q3 z1.2.2.1, c_A q2 cM 1024 z1.2.2.2.1, c_A q3 cD 256 z1.2.2.2.2] := hD.sub [0, 1, 2, 3, 4] (by decide) rfl
        have hf : f_S_run p1 g r k M D = ((f_S_raise z1.1), (0 : Int32), (upd gx 1 z1.1), z1.2.1, z1.2.2.1, z1.2.2.2.1, z1.2.2.2.2) := by rw [hJ, crun, ← ez1, if_neg c_3]
        exact vx_widen (k := 2) (n := 12) (by decide) (by decide) (vx_out (E := _) (fun x hx => (hEx x hx).elim) hlocks hce hcv hcl (fun t ht ha => ⟨(), trivial, by rw [hf]; exact ⟨c_4, rfl, ⟨by rw [ht]; exact hP, va_K.moved ha hK, hD⟩⟩, hS.F ht⟩) hS.2.2 (Nat.le_refl _) (Nat.le_refl _))
      · exact absurd hw (raise_nz _)

set_option maxHeartbeats 4000000 in
set_option maxRecDepth 100000 in
theorem c_S_run (l : Launch) (hl9 : l.stackTraces = false) (dC : Nat → ClassId) (dI : Nat → Nat → Nat) (z0 : Nat) (qs : Nat) (q0 : Nat) (q1 : Nat) (q2 : Nat) (q3 : Nat) (cM : ClassId) (cD : ClassId) (sz : Nat) (p1 : Int32) (g r k M D : Nat → Int32) (hok : crun_ok p1.toNatClampNeg r k M D) : vx_Met l y_S_run w_S_run ({ frames := 7, cells := 2, slots := 12, locals := 174 }) (PcX (dC, dI) classes z0 [c_S qs q0 q1 g, c_P q0 q1 r, c_B q1 q2 q3 k, c_A q2 cM 1024 M, c_A q3 cD 256 D] [(cM, .int), (cD, .int)] sz [.ref qs, .int p1]) (Q_S_run dC dI qs q0 q1 q2 q3 cM cD p1 g r k M D (va_A [c_S qs q0 q1 g, c_P q0 q1 r, c_B q1 q2 q3 k, c_A q2 cM 1024 M, c_A q3 cD 256 D] sz)) (X_S_run dC dI qs q0 q1 q2 q3 cM cD p1 g r k M D (va_A [c_S qs q0 q1 g, c_P q0 q1 r, c_B q1 q2 q3 k, c_A q2 cM 1024 M, c_A q3 cD 256 D] sz)) 2 12 (va_A [c_S qs q0 q1 g, c_P q0 q1 r, c_B q1 q2 q3 k, c_A q2 cM 1024 M, c_A q3 cD 256 D] sz) := by
  refine hdXx (cc := b_S_run) (maxL := 4) (ret := (some .int)) (C := R_S) (Qc := (Q_S_run dC dI qs q0 q1 q2 q3 cM cD p1 g r k M D)) (XC := (X_S_run dC dI qs q0 q1 q2 q3 cM cD p1 g r k M D)) (by decide) rfl ?_
  intro p e s m below meth c A H hx hb hr hlocks hEx hml hown hin htB hP hK hD hA hA0 hE hS
  have hl := lv_entry ([.ref qs, .int p1]) (n := 4) (Nat.le_of_ble_eq_true rfl)
  rw [lg_entry_eq]
  generalize (lg_sl ([.ref qs, .int p1]) ++ List.replicate (4 - (lg_sl ([.ref qs, .int p1])).length) Slot.unset).toArray = ls at hl ⊢
  have hl : lv_has ls 4 [(0, .ref qs), (1, .int p1)] := hl
  refine lv_iload_n hx hb d_S_run_0 rfl (lv_at hl 1 rfl) ?_
  refine lv_iconst (v := 1) hx hb d_S_run_1 (by decide) ?_
  refine lv_icmp_lt (tgt := 15) hx hb d_S_run_2 (by decide) (fun c_1 => ?_) (fun c_1 => ?_)
  · refine lv_iconst (v := 0) hx hb d_S_run_15 (by decide) ?_
    have hPc := hP.sub (ws' := []) [] rfl
    have hDc := hD.sub (ws' := []) [] (by decide) rfl
    have hKc := hK.sub (tys' := []) [] rfl
    have hFc := va_free (wc := []) hD hS hA [] rfl
    refine vx_callv (vx_runS (As := [.int (0 : Int32)]) (rest := []) ⟨hx, hb, hml, hown, htB⟩ (c_S_demand l hl9 dC dI z0  H.size (0 : Int32)) (cwS 1 htB (gd_S mw_130 mw_131 mw_1 mw_132) rfl rfl rfl (by decide +kernel) ⟨Nat.le_of_ble_eq_true rfl, Nat.le_of_ble_eq_true rfl⟩) (pcx_S hPc hKc hDc hA0 hE hS) rfl rfl hl.1 rfl (lv_room (Nat.le_of_ble_eq_true rfl)) d_S_run_16 ⟨Nat.le_of_ble_eq_true rfl, Nat.le_of_ble_eq_true rfl⟩) hS (fun q _ h => hFc q h) hFc (fun q _ h => hFc q h) (fun E9 ce q9 u t H1 locs ht hvm hw hB hz1 hk1 hS hce hcv hcl => ?_) (fun u t H1 locs ht hvm hw hB hz1 hk1 hS => ?_)
    · obtain ⟨c_2, rfl, hB⟩ := hB
      obtain ⟨hP1, hK1, hD1⟩ := hB
      rw [ht] at hP1
      obtain ⟨hP, hD⟩ := va_join (wr := [c_S qs q0 q1 g, c_P q0 q1 r, c_B q1 q2 q3 k, c_A q2 cM 1024 M, c_A q3 cD 256 D]) (w1 := []) hP hD [] [0, 1, 2, 3, 4] rfl rfl (by decide) (by decide) hk1 hFc hP1 hD1
      generalize H1 = H at hP hS hce ⊢
      have hP : va_P (dC, dI) classes [c_S qs q0 q1 g, c_P q0 q1 r, c_B q1 q2 q3 k, c_A q2 cM 1024 M, c_A q3 cD 256 D] H := hP.sub [0, 1, 2, 3, 4] rfl
      have hD : va_D A [c_S qs q0 q1 g, c_P q0 q1 r, c_B q1 q2 q3 k, c_A q2 cM 1024 M, c_A q3 cD 256 D] := hD.sub [0, 1, 2, 3, 4] (by decide) rfl
      have hf : f_S_run p1 g r k M D = ((f_S_demand (0 : Int32)), (0 : Int32), g, r, k, M, D) := by rw [f_S_run, if_pos c_1]
      exact vx_widen (k := 2) (n := 12) (by decide) (by decide) (vx_out (E := _) (fun x hx => (hEx x hx).elim) hlocks hce hcv hcl (fun t ht ha => ⟨(), trivial, by rw [hf]; exact ⟨c_2, rfl, ⟨by rw [ht]; exact hP, va_K.moved ha hK, hD⟩⟩, hS.F ht⟩) hS.2.2 (Nat.le_refl _) (Nat.le_refl _))
    · exact absurd hw (show ¬ (f_S_demand (0 : Int32)) = 0 from by decide)
  · refine lv_iload_n hx hb d_S_run_5 rfl (lv_at hl 1 rfl) ?_
    refine lv_bipush (v := 20) hx hb d_S_run_6 (by decide) ?_
    refine lv_icmp_gt (tgt := 15) hx hb d_S_run_8 (by decide) (fun c_2 => ?_) (fun c_2 => ?_)
    · refine lv_iconst (v := 0) hx hb d_S_run_15 (by decide) ?_
      have hPc := hP.sub (ws' := []) [] rfl
      have hDc := hD.sub (ws' := []) [] (by decide) rfl
      have hKc := hK.sub (tys' := []) [] rfl
      have hFc := va_free (wc := []) hD hS hA [] rfl
      refine vx_callv (vx_runS (As := [.int (0 : Int32)]) (rest := []) ⟨hx, hb, hml, hown, htB⟩ (c_S_demand l hl9 dC dI z0  H.size (0 : Int32)) (cwS 1 htB (gd_S mw_130 mw_131 mw_1 mw_132) rfl rfl rfl (by decide +kernel) ⟨Nat.le_of_ble_eq_true rfl, Nat.le_of_ble_eq_true rfl⟩) (pcx_S hPc hKc hDc hA0 hE hS) rfl rfl hl.1 rfl (lv_room (Nat.le_of_ble_eq_true rfl)) d_S_run_16 ⟨Nat.le_of_ble_eq_true rfl, Nat.le_of_ble_eq_true rfl⟩) hS (fun q _ h => hFc q h) hFc (fun q _ h => hFc q h) (fun E9 ce q9 u t H1 locs ht hvm hw hB hz1 hk1 hS hce hcv hcl => ?_) (fun u t H1 locs ht hvm hw hB hz1 hk1 hS => ?_)
      · obtain ⟨c_3, rfl, hB⟩ := hB
        obtain ⟨hP1, hK1, hD1⟩ := hB
        rw [ht] at hP1
        obtain ⟨hP, hD⟩ := va_join (wr := [c_S qs q0 q1 g, c_P q0 q1 r, c_B q1 q2 q3 k, c_A q2 cM 1024 M, c_A q3 cD 256 D]) (w1 := []) hP hD [] [0, 1, 2, 3, 4] rfl rfl (by decide) (by decide) hk1 hFc hP1 hD1
        generalize H1 = H at hP hS hce ⊢
        have hP : va_P (dC, dI) classes [c_S qs q0 q1 g, c_P q0 q1 r, c_B q1 q2 q3 k, c_A q2 cM 1024 M, c_A q3 cD 256 D] H := hP.sub [0, 1, 2, 3, 4] rfl
        have hD : va_D A [c_S qs q0 q1 g, c_P q0 q1 r, c_B q1 q2 q3 k, c_A q2 cM 1024 M, c_A q3 cD 256 D] := hD.sub [0, 1, 2, 3, 4] (by decide) rfl
        have hf : f_S_run p1 g r k M D = ((f_S_demand (0 : Int32)), (0 : Int32), g, r, k, M, D) := by rw [f_S_run, if_neg c_1, if_pos c_2]
        exact vx_widen (k := 2) (n := 12) (by decide) (by decide) (vx_out (E := _) (fun x hx => (hEx x hx).elim) hlocks hce hcv hcl (fun t ht ha => ⟨(), trivial, by rw [hf]; exact ⟨c_3, rfl, ⟨by rw [ht]; exact hP, va_K.moved ha hK, hD⟩⟩, hS.F ht⟩) hS.2.2 (Nat.le_refl _) (Nat.le_refl _))
      · exact absurd hw (show ¬ (f_S_demand (0 : Int32)) = 0 from by decide)
    · refine lv_iconst (v := 1) hx hb d_S_run_11 (by decide) ?_
      refine lv_goto (tgt := 16) hx hb d_S_run_12 (by decide) ?_
      have hPc := hP.sub (ws' := []) [] rfl
      have hDc := hD.sub (ws' := []) [] (by decide) rfl
      have hKc := hK.sub (tys' := []) [] rfl
      have hFc := va_free (wc := []) hD hS hA [] rfl
      refine vx_callv (vx_runS (As := [.int (1 : Int32)]) (rest := []) ⟨hx, hb, hml, hown, htB⟩ (c_S_demand l hl9 dC dI z0  H.size (1 : Int32)) (cwS 1 htB (gd_S mw_130 mw_131 mw_1 mw_132) rfl rfl rfl (by decide +kernel) ⟨Nat.le_of_ble_eq_true rfl, Nat.le_of_ble_eq_true rfl⟩) (pcx_S hPc hKc hDc hA0 hE hS) rfl rfl hl.1 rfl (lv_room (Nat.le_of_ble_eq_true rfl)) d_S_run_16 ⟨Nat.le_of_ble_eq_true rfl, Nat.le_of_ble_eq_true rfl⟩) hS (fun q _ h => hFc q h) hFc (fun q _ h => hFc q h) (fun E9 ce q9 u t H1 locs ht hvm hw hB hz1 hk1 hS hce hcv hcl => ?_) (fun u t H1 locs ht hvm hw hB hz1 hk1 hS => ?_)
      · exact absurd (show (f_S_demand (1 : Int32)) = 0 from by decide) hB.1
      · have c_3 := hw
        obtain ⟨hP1, hK1, hD1⟩ := hB
        rw [ht] at hP1
        obtain ⟨hP, hD⟩ := va_join (wr := [c_S qs q0 q1 g, c_P q0 q1 r, c_B q1 q2 q3 k, c_A q2 cM 1024 M, c_A q3 cD 256 D]) (w1 := []) hP hD [] [0, 1, 2, 3, 4] rfl rfl (by decide) (by decide) hk1 hFc hP1 hD1
        generalize H1 = H at hP hS ⊢
        have hP : va_P (dC, dI) classes [c_S qs q0 q1 g, c_P q0 q1 r, c_B q1 q2 q3 k, c_A q2 cM 1024 M, c_A q3 cD 256 D] H := hP.sub [0, 1, 2, 3, 4] rfl
        have hD : va_D A [c_S qs q0 q1 g, c_P q0 q1 r, c_B q1 q2 q3 k, c_A q2 cM 1024 M, c_A q3 cD 256 D] := hD.sub [0, 1, 2, 3, 4] (by decide) rfl
        refine lv_iconst (v := 0) hx hb d_S_run_19 (by decide) ?_
        refine lv_istore_n (lv' := [(2, .int (0 : Int32)), (0, .ref qs), (1, .int p1)]) hx hb d_S_run_20 rfl hl (by decide) rfl (fun ls hl => ?_)
        have hl := lv_sub hl [0, 1, 2] rfl
        rw [show (0 : Int32) = nI 0 from rfl] at hl
        exact L_S_run hl9 hx hb hr hlocks hEx hml hown htB hK hA hA0 hE (run_nat c_1 c_2).1 (run_nat c_1 c_2).2 p1.toNatClampNeg 0 (Nat.zero_add _) g r k M D hok (by rw [f_S_run, if_neg c_1, if_neg c_2]) H _ ls hP hD hS hl
