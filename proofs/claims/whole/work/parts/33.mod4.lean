def f_X_sums_k11 (p1 : Int32) (p2 : Int32) (ku m1 m2 m3 : Nat → Int32) (z1 : Int32 × (Nat → Int32) × (Nat → Int32)) (z2 : (Nat → Int32) × (Nat → Int32) × (Nat → Int32)) : (Nat → Int32) × (Nat → Int32) × (Nat → Int32) × (Nat → Int32) :=
  (z2.1, z2.2.1, z2.2.2, z1.2.2)
def f_X_sums_k10 (p1 : Int32) (p2 : Int32) (ku m1 m2 m3 : Nat → Int32) (z1 : Int32 × (Nat → Int32) × (Nat → Int32)) : (Nat → Int32) × (Nat → Int32) × (Nat → Int32) × (Nat → Int32) :=
  f_X_sums_k11 p1 p2 ku m1 m2 m3 z1 (f_X_write z1.1 (z1.2.2 0) z1.2.1 m1 m2)
def f_X_sums_k9 (p1 : Int32) (p2 : Int32) (ku m1 m2 m3 : Nat → Int32) (z1 : Int32 × (Nat → Int32) × (Nat → Int32)) (z2 : Int32 × (Nat → Int32)) (z3 : (Nat → Int32)) : (Nat → Int32) × (Nat → Int32) × (Nat → Int32) × (Nat → Int32) :=
  (z2.2, m1, m2, z3)
def f_X_sums_k8 (p1 : Int32) (p2 : Int32) (ku m1 m2 m3 : Nat → Int32) (z1 : Int32 × (Nat → Int32) × (Nat → Int32)) (z2 : Int32 × (Nat → Int32)) (z3 : (Nat → Int32)) : (Nat → Int32) × (Nat → Int32) × (Nat → Int32) × (Nat → Int32) :=
  (z2.2, m1, m2, z3)
def f_X_sums_k7 (p1 : Int32) (p2 : Int32) (ku m1 m2 m3 : Nat → Int32) (z1 : Int32 × (Nat → Int32) × (Nat → Int32)) (z2 : Int32 × (Nat → Int32)) (z3 : (Nat → Int32)) : (Nat → Int32) × (Nat → Int32) × (Nat → Int32) × (Nat → Int32) :=
  (z2.2, m1, m2, z3)
def f_X_sums_k6 (p1 : Int32) (p2 : Int32) (ku m1 m2 m3 : Nat → Int32) (z1 : Int32 × (Nat → Int32) × (Nat → Int32)) (z2 : Int32 × (Nat → Int32)) (z3 : (Nat → Int32)) : (Nat → Int32) × (Nat → Int32) × (Nat → Int32) × (Nat → Int32) :=
  (z2.2, m1, m2, z3)
def f_X_sums_k5 (p1 : Int32) (p2 : Int32) (ku m1 m2 m3 : Nat → Int32) (z1 : Int32 × (Nat → Int32) × (Nat → Int32)) (z2 : Int32 × (Nat → Int32)) (z3 : (Nat → Int32)) : (Nat → Int32) × (Nat → Int32) × (Nat → Int32) × (Nat → Int32) :=
  (z2.2, m1, m2, z3)
def f_X_sums_k4 (p1 : Int32) (p2 : Int32) (ku m1 m2 m3 : Nat → Int32) (z1 : Int32 × (Nat → Int32) × (Nat → Int32)) (z2 : Int32 × (Nat → Int32)) (z3 : (Nat → Int32)) : (Nat → Int32) × (Nat → Int32) × (Nat → Int32) × (Nat → Int32) :=
  (z2.2, m1, m2, z3)
def f_X_sums_k3 (p1 : Int32) (p2 : Int32) (ku m1 m2 m3 : Nat → Int32) (z1 : Int32 × (Nat → Int32) × (Nat → Int32)) (z2 : Int32 × (Nat → Int32)) (z3 : (Nat → Int32)) : (Nat → Int32) × (Nat → Int32) × (Nat → Int32) × (Nat → Int32) :=
  (z2.2, m1, m2, z3)
def f_X_sums_k2 (p1 : Int32) (p2 : Int32) (ku m1 m2 m3 : Nat → Int32) (z1 : Int32 × (Nat → Int32) × (Nat → Int32)) (z2 : Int32 × (Nat → Int32)) : (Nat → Int32) × (Nat → Int32) × (Nat → Int32) × (Nat → Int32) :=
  if p1 = (0 : Int32) then
    f_X_sums_k9 p1 p2 ku m1 m2 m3 z1 z2 (f_X_put3 (0 : Int32) ((z1.2.2 0) ||| z2.1) (1 : Int32) z2.2 z1.2.2)
  else
    if p1 = (1 : Int32) then
      f_X_sums_k8 p1 p2 ku m1 m2 m3 z1 z2 (f_X_put3 (0 : Int32) ((z1.2.2 0) &&& z2.1) (1 : Int32) z2.2 z1.2.2)
    else
      if p1 = (2 : Int32) then
        f_X_sums_k7 p1 p2 ku m1 m2 m3 z1 z2 (f_X_put3 (0 : Int32) ((z1.2.2 0) ^^^ z2.1) (1 : Int32) z2.2 z1.2.2)
      else
        if p1 = (3 : Int32) then
          f_X_sums_k6 p1 p2 ku m1 m2 m3 z1 z2 (f_X_add z2.1 z2.2 z1.2.2)
        else
          if p1 = (5 : Int32) then
            f_X_sums_k5 p1 p2 ku m1 m2 m3 z1 z2 (f_X_put3 (0 : Int32) z2.1 (1 : Int32) z2.2 z1.2.2)
          else
            if p1 = (6 : Int32) then
              f_X_sums_k4 p1 p2 ku m1 m2 m3 z1 z2 (f_X_compare (z1.2.2 0) z2.1 z2.2 z1.2.2)
            else
              f_X_sums_k3 p1 p2 ku m1 m2 m3 z1 z2 (f_X_add ((255 : Int32) - z2.1) z2.2 z1.2.2)
def f_X_sums_k1 (p1 : Int32) (p2 : Int32) (ku m1 m2 m3 : Nat → Int32) (z1 : Int32 × (Nat → Int32) × (Nat → Int32)) : (Nat → Int32) × (Nat → Int32) × (Nat → Int32) × (Nat → Int32) :=
  f_X_sums_k2 p1 p2 ku m1 m2 m3 z1 (f_X_operand (f_X_mode1 p2) z1.1 z1.2.1 m1 z1.2.2)
def f_X_sums (p1 : Int32) (p2 : Int32) (ku m1 m2 m3 : Nat → Int32) : (Nat → Int32) × (Nat → Int32) × (Nat → Int32) × (Nat → Int32) :=
  if p1 = (4 : Int32) then
    if p2 = (2 : Int32) then
      ((upd ku 4 (4 : Int32)), m1, m2, m3)
    else
      f_X_sums_k10 p1 p2 ku m1 m2 m3 (f_X_address (f_X_mode1 p2) ku m1 m3)
  else
    f_X_sums_k1 p1 p2 ku m1 m2 m3 (f_X_address (f_X_mode1 p2) ku m1 m3)
abbrev Q_X_sums (dC : Nat → ClassId) (dI : Nat → Nat → Nat) (x0 : Nat) (x1 : Nat) (x2 : Nat) (x3 : Nat) (x4 : Nat) (c1 : ClassId) (c2 : ClassId) (c3 : ClassId) (p1 : Int32) (p2 : Int32) (ku m1 m2 m3 : Nat → Int32) (A : Nat → Prop) : Array Value → State → Outcome → State → Prop := va_Qv (fun (_ : Unit) => True) (fun _ t => atW (dC, dI) classes A [c_X x0 x1 x2 x3 x4 ((f_X_sums p1 p2 ku m1 m2 m3).1), c_A x1 c1 1024 ((f_X_sums p1 p2 ku m1 m2 m3).2.1), c_A x2 c2 256 ((f_X_sums p1 p2 ku m1 m2 m3).2.2.1), c_A x3 c3 9 ((f_X_sums p1 p2 ku m1 m2 m3).2.2.2)] [(c1, .int), (c2, .int), (c3, .int)] t) A
set_option maxHeartbeats 4000000 in
set_option maxRecDepth 100000 in
theorem c_X_sums (l : Launch) (dC : Nat → ClassId) (dI : Nat → Nat → Nat) (z0 : Nat) (x0 : Nat) (x1 : Nat) (x2 : Nat) (x3 : Nat) (x4 : Nat) (c1 : ClassId) (c2 : ClassId) (c3 : ClassId) (sz : Nat) (p1 : Int32) (p2 : Int32) (ku m1 m2 m3 : Nat → Int32) (hxs : xs_ok ku) : Met l y_X_sums w_X_sums ({ frames := 4, cells := 0, slots := 0, locals := 85 }) (PcX (dC, dI) classes z0 [c_X x0 x1 x2 x3 x4 ku, c_A x1 c1 1024 m1, c_A x2 c2 256 m2, c_A x3 c3 9 m3] [(c1, .int), (c2, .int), (c3, .int)] sz [.ref x0, .int p1, .int p2]) (Q_X_sums dC dI x0 x1 x2 x3 x4 c1 c2 c3 p1 p2 ku m1 m2 m3 (va_A [c_X x0 x1 x2 x3 x4 ku, c_A x1 c1 1024 m1, c_A x2 c2 256 m2, c_A x3 c3 9 m3] sz)) 0 0 (va_A [c_X x0 x1 x2 x3 x4 ku, c_A x1 c1 1024 m1, c_A x2 c2 256 m2, c_A x3 c3 9 m3] sz) := by
  refine hdX (cc := b_X_sums) (maxL := 6) (ret := none) (C := R_X) (Qc := (Q_X_sums dC dI x0 x1 x2 x3 x4 c1 c2 c3 p1 p2 ku m1 m2 m3)) (by decide) rfl ?_
  intro p e s m below meth c A H hx hb hr hlocks hml hown hin htB hP hK hD hA hA0 hE hS
  have hl := lv_entry ([.ref x0, .int p1, .int p2]) (n := 6) (Nat.le_of_ble_eq_true rfl)
  rw [lg_entry_eq]
  generalize (lg_sl ([.ref x0, .int p1, .int p2]) ++ List.replicate (6 - (lg_sl ([.ref x0, .int p1, .int p2])).length) Slot.unset).toArray = ls at hl ⊢
  have hl : lv_has ls 6 [(0, .ref x0), (1, .int p1), (2, .int p2)] := hl
  refine lv_iload_n hx hb d_X_sums_0 rfl (lv_at hl 1 rfl) ?_
  refine lv_iconst (v := 4) hx hb d_X_sums_1 (by decide) ?_
  refine lv_icmp_ne (tgt := 16) hx hb d_X_sums_2 (by decide) (fun c_1 => ?_) (fun c_1 => ?_)
  · refine lv_iload_n hx hb d_X_sums_16 rfl (lv_at hl 2 rfl) ?_
    have hPc := hP.sub (ws' := []) [] rfl
    have hDc := hD.sub (ws' := []) [] (by decide) rfl
    have hKc := hK.sub (tys' := []) [] rfl
    have hFc := va_free (wc := []) hD hS hA [] rfl
    refine va_calli (va_runS (As := [.int p2]) (rest := []) ⟨hx, hb, hml, hown, htB⟩ (c_X_mode1 l dC dI z0  H.size p2) (cwS 1 htB (gd_S mw_560 mw_561 mw_4 mw_562) rfl rfl rfl (by decide +kernel) ⟨Nat.le_of_ble_eq_true rfl, Nat.le_of_ble_eq_true rfl⟩) (pcx_S hPc hKc hDc hA0 hE hS) rfl rfl hl.1 rfl (lv_room (Nat.le_of_ble_eq_true rfl)) d_X_sums_17 ⟨Nat.zero_le _, Nat.zero_le _⟩) hS (fun q _ h => hFc q h) hFc (fun r9 u t H1 locs ht hvm hw hB hz1 hk1 hS => ?_)
    subst hw
    obtain ⟨hP1, hK1, hD1⟩ := hB
    rw [ht] at hP1
    obtain ⟨hP, hD⟩ := va_join (wr := [c_X x0 x1 x2 x3 x4 ku, c_A x1 c1 1024 m1, c_A x2 c2 256 m2, c_A x3 c3 9 m3]) (w1 := []) hP hD [] [0, 1, 2, 3] rfl rfl (by decide) (by decide) hk1 hFc hP1 hD1
    generalize H1 = H at hP hS ⊢
    have hP : va_P (dC, dI) classes [c_X x0 x1 x2 x3 x4 ku, c_A x1 c1 1024 m1, c_A x2 c2 256 m2, c_A x3 c3 9 m3] H := hP.sub [0, 1, 2, 3] rfl
    have hD : va_D A [c_X x0 x1 x2 x3 x4 ku, c_A x1 c1 1024 m1, c_A x2 c2 256 m2, c_A x3 c3 9 m3] := hD.sub [0, 1, 2, 3] (by decide) rfl
    refine lv_istore_n (lv' := [(3, .int (f_X_mode1 p2)), (0, .ref x0), (1, .int p1), (2, .int p2)]) hx hb d_X_sums_20 rfl hl (by decide) rfl (fun ls hl => ?_)
    refine lv_aload_n hx hb d_X_sums_21 rfl (lv_at hl 1 rfl) ?_
    refine lv_iload_n hx hb d_X_sums_22 rfl (lv_at hl 0 rfl) ?_
    have hPc := hP.sub (ws' := [c_X x0 x1 x2 x3 x4 ku, c_A x1 c1 1024 m1, c_A x3 c3 9 m3]) [0, 1, 3] rfl
    have hDc := hD.sub (ws' := [c_X x0 x1 x2 x3 x4 ku, c_A x1 c1 1024 m1, c_A x3 c3 9 m3]) [0, 1, 3] (by decide) rfl
    have hKc := hK.sub (tys' := [(c1, .int), (c3, .int)]) [0, 2] rfl
    have hFc := va_free (wc := [c_X x0 x1 x2 x3 x4 ku, c_A x1 c1 1024 m1, c_A x3 c3 9 m3]) hD hS hA [0, 1, 3] rfl
    refine va_calli (va_runV (As := [.int (f_X_mode1 p2)]) (rest := []) ⟨hx, hb, hml, hown, htB⟩ (c_X_address l dC dI z0 x0 x1 x2 x3 x4 c1 c3 H.size (f_X_mode1 p2) ku m1 m3) (cwV 1 htB (gd_V mw_563 mw_565 sw_X_address mw_4 mw_566) rfl rfl rfl (by decide +kernel) ⟨Nat.le_of_ble_eq_true rfl, Nat.le_of_ble_eq_true rfl⟩) (pcx_V (va_recv hKc hPc (ci := 3) (q0 := 0) rfl rfl) hPc hKc hDc hA0 hE hS) rfl rfl hl.1 rfl (lv_room (Nat.le_of_ble_eq_true rfl)) d_X_sums_23 ⟨Nat.zero_le _, Nat.zero_le _⟩) hS (fun q _ h => hFc q h) hFc (fun r9 u t H1 locs ht hvm hw hB hz1 hk1 hS => ?_)
    subst hw
    obtain ⟨hP1, hK1, hD1⟩ := hB
    rw [ht] at hP1
    obtain ⟨hP, hD⟩ := va_join (wr := [c_A x2 c2 256 m2]) (w1 := [c_X x0 x1 x2 x3 x4 ((f_X_address (f_X_mode1 p2) ku m1 m3).2.1), c_A x1 c1 1024 m1, c_A x3 c3 9 ((f_X_address (f_X_mode1 p2) ku m1 m3).2.2)]) hP hD [0, 1, 3] [2] rfl rfl (by decide) (by decide) hk1 hFc hP1 hD1
    generalize H1 = H at hP hS ⊢
    have hP : va_P (dC, dI) classes [c_X x0 x1 x2 x3 x4 ((f_X_address (f_X_mode1 p2) ku m1 m3).2.1), c_A x1 c1 1024 m1, c_A x2 c2 256 m2, c_A x3 c3 9 ((f_X_address (f_X_mode1 p2) ku m1 m3).2.2)] H := hP.sub [1, 2, 0, 3] rfl
    have hD : va_D A [c_X x0 x1 x2 x3 x4 ((f_X_address (f_X_mode1 p2) ku m1 m3).2.1), c_A x1 c1 1024 m1, c_A x2 c2 256 m2, c_A x3 c3 9 ((f_X_address (f_X_mode1 p2) ku m1 m3).2.2)] := hD.sub [1, 2, 0, 3] (by decide) rfl
    obtain ⟨z1, ez1⟩ : ∃ z, z = (f_X_address (f_X_mode1 p2) ku m1 m3) := ⟨_, rfl⟩
    rw [← ez1] at hP hD ⊢
    refine lv_istore (lv' := [(4, .int z1.1), (3, .int (f_X_mode1 p2)), (0, .ref x0), (1, .int p1), (2, .int p2)]) hx hb d_X_sums_26 hl (by decide) rfl (fun ls hl => ?_)
    refine lv_iload_n hx hb d_X_sums_28 rfl (lv_at hl 3 rfl) ?_
    refine lv_iconst (v := 4) hx hb d_X_sums_29 (by decide) ?_
    refine lv_icmp_ne (tgt := 46) hx hb d_X_sums_30 (by decide) (fun _ => ?_) (fun c9 => absurd c9 c_1)
    refine lv_aload_n hx hb d_X_sums_46 rfl (lv_at hl 2 rfl) ?_
    refine lv_iload_n hx hb d_X_sums_47 rfl (lv_at hl 1 rfl) ?_
    refine lv_iload hx hb d_X_sums_48 (lv_at hl 0 rfl) ?_
    have hPc := hP.sub (ws' := [c_X x0 x1 x2 x3 x4 z1.2.1, c_A x1 c1 1024 m1, c_A x3 c3 9 z1.2.2]) [0, 1, 3] rfl
    have hDc := hD.sub (ws' := [c_X x0 x1 x2 x3 x4 z1.2.1, c_A x1 c1 1024 m1, c_A x3 c3 9 z1.2.2]) [0, 1, 3] (by decide) rfl
    have hKc := hK.sub (tys' := [(c1, .int), (c3, .int)]) [0, 2] rfl
    have hFc := va_free (wc := [c_X x0 x1 x2 x3 x4 z1.2.1, c_A x1 c1 1024 m1, c_A x3 c3 9 z1.2.2]) hD hS hA [0, 1, 3] rfl
    refine va_calli (va_runV (As := [.int (f_X_mode1 p2), .int z1.1]) (rest := []) ⟨hx, hb, hml, hown, htB⟩ (c_X_operand l dC dI z0 x0 x1 x2 x3 x4 c1 c3 H.size (f_X_mode1 p2) z1.1 z1.2.1 m1 z1.2.2) (cwV 2 htB (gd_V mw_583 mw_585 sw_X_operand mw_4 mw_586) rfl rfl rfl (by decide +kernel) ⟨Nat.le_of_ble_eq_true rfl, Nat.le_of_ble_eq_true rfl⟩) (pcx_V (va_recv hKc hPc (ci := 3) (q0 := 0) rfl rfl) hPc hKc hDc hA0 hE hS) rfl rfl hl.1 rfl (lv_room (Nat.le_of_ble_eq_true rfl)) d_X_sums_50 ⟨Nat.zero_le _, Nat.zero_le _⟩) hS (fun q _ h => hFc q h) hFc (fun r9 u t H1 locs ht hvm hw hB hz1 hk1 hS => ?_)
    subst hw
    obtain ⟨hP1, hK1, hD1⟩ := hB
    rw [ht] at hP1
    obtain ⟨hP, hD⟩ := va_join (wr := [c_A x2 c2 256 m2]) (w1 := [c_X x0 x1 x2 x3 x4 ((f_X_operand (f_X_mode1 p2) z1.1 z1.2.1 m1 z1.2.2).2), c_A x1 c1 1024 m1, c_A x3 c3 9 z1.2.2]) hP hD [0, 1, 3] [2] rfl rfl (by decide) (by decide) hk1 hFc hP1 hD1
    generalize H1 = H at hP hS ⊢
    have hP : va_P (dC, dI) classes [c_X x0 x1 x2 x3 x4 ((f_X_operand (f_X_mode1 p2) z1.1 z1.2.1 m1 z1.2.2).2), c_A x1 c1 1024 m1, c_A x2 c2 256 m2, c_A x3 c3 9 z1.2.2] H := hP.sub [1, 2, 0, 3] rfl
    have hD : va_D A [c_X x0 x1 x2 x3 x4 ((f_X_operand (f_X_mode1 p2) z1.1 z1.2.1 m1 z1.2.2).2), c_A x1 c1 1024 m1, c_A x2 c2 256 m2, c_A x3 c3 9 z1.2.2] := hD.sub [1, 2, 0, 3] (by decide) rfl
    obtain ⟨z2, ez2⟩ : ∃ z, z = (f_X_operand (f_X_mode1 p2) z1.1 z1.2.1 m1 z1.2.2) := ⟨_, rfl⟩
    rw [← ez2] at hP hD ⊢
    refine lv_istore (lv' := [(5, .int z2.1), (4, .int z1.1), (3, .int (f_X_mode1 p2)), (0, .ref x0), (1, .int p1), (2, .int p2)]) hx hb d_X_sums_53 hl (by decide) rfl (fun ls hl => ?_)
    refine lv_iload_n hx hb d_X_sums_55 rfl (lv_at hl 4 rfl) ?_
    refine lv_if_ne (tgt := 77) hx hb d_X_sums_56 (by decide) (fun c_4 => ?_) (fun c_4 => ?_)
    · refine lv_iload_n hx hb d_X_sums_77 rfl (lv_at hl 4 rfl) ?_
      refine lv_iconst (v := 1) hx hb d_X_sums_78 (by decide) ?_
      refine lv_icmp_ne (tgt := 100) hx hb d_X_sums_79 (by decide) (fun c_5 => ?_) (fun c_5 => ?_)
      · refine lv_iload_n hx hb d_X_sums_100 rfl (lv_at hl 4 rfl) ?_
        refine lv_iconst (v := 2) hx hb d_X_sums_101 (by decide) ?_
        refine lv_icmp_ne (tgt := 123) hx hb d_X_sums_102 (by decide) (fun c_6 => ?_) (fun c_6 => ?_)
        · refine lv_iload_n hx hb d_X_sums_123 rfl (lv_at hl 4 rfl) ?_
          refine lv_iconst (v := 3) hx hb d_X_sums_124 (by decide) ?_
          refine lv_icmp_ne (tgt := 137) hx hb d_X_sums_125 (by decide) (fun c_7 => ?_) (fun c_7 => ?_)
          · refine lv_iload_n hx hb d_X_sums_137 rfl (lv_at hl 4 rfl) ?_
            refine lv_iconst (v := 5) hx hb d_X_sums_138 (by decide) ?_
            refine lv_icmp_ne (tgt := 153) hx hb d_X_sums_139 (by decide) (fun c_8 => ?_) (fun c_8 => ?_)
            · refine lv_iload_n hx hb d_X_sums_153 rfl (lv_at hl 4 rfl) ?_
              refine lv_bipush (v := 6) hx hb d_X_sums_154 (by decide) ?_
              refine lv_icmp_ne (tgt := 174) hx hb d_X_sums_156 (by decide) (fun c_9 => ?_) (fun c_9 => ?_)
              · refine lv_aload_n hx hb d_X_sums_174 rfl (lv_at hl 3 rfl) ?_
                refine lv_sipush (v := 255) hx hb d_X_sums_175 (by decide) ?_
                refine lv_iload hx hb d_X_sums_178 (lv_at hl 0 rfl) ?_
                refine lv_isub hx hb d_X_sums_180 ?_
                have hPc := hP.sub (ws' := [c_X x0 x1 x2 x3 x4 z2.2, c_A x3 c3 9 z1.2.2]) [0, 3] rfl
                have hDc := hD.sub (ws' := [c_X x0 x1 x2 x3 x4 z2.2, c_A x3 c3 9 z1.2.2]) [0, 3] (by decide) rfl
                have hKc := hK.sub (tys' := [(c3, .int)]) [2] rfl
                have hFc := va_free (wc := [c_X x0 x1 x2 x3 x4 z2.2, c_A x3 c3 9 z1.2.2]) hD hS hA [0, 3] rfl
                refine va_callv (va_runV (As := [.int ((255 : Int32) - z2.1)]) (rest := []) ⟨hx, hb, hml, hown, htB⟩ (c_X_add l dC dI z0 x0 x1 x2 x3 x4 c3 H.size ((255 : Int32) - z2.1) z2.2 z1.2.2) (cwV 1 htB (gd_V mw_595 mw_597 sw_X_add mw_4 mw_598) rfl rfl rfl (by decide +kernel) ⟨Nat.le_of_ble_eq_true rfl, Nat.le_of_ble_eq_true rfl⟩) (pcx_V (va_recv hKc hPc (ci := 3) (q0 := 0) rfl rfl) hPc hKc hDc hA0 hE hS) rfl rfl hl.1 rfl (lv_room (Nat.le_of_ble_eq_true rfl)) d_X_sums_181 ⟨Nat.zero_le _, Nat.zero_le _⟩) hS (fun q _ h => hFc q h) hFc (fun u t H1 locs ht hvm hw hB hz1 hk1 hS => ?_)
                obtain ⟨hP1, hK1, hD1⟩ := hB
                rw [ht] at hP1
                obtain ⟨hP, hD⟩ := va_join (wr := [c_A x1 c1 1024 m1, c_A x2 c2 256 m2]) (w1 := [c_X x0 x1 x2 x3 x4 z2.2, c_A x3 c3 9 (f_X_add ((255 : Int32) - z2.1) z2.2 z1.2.2)]) hP hD [0, 3] [1, 2] rfl rfl (by decide) (by decide) hk1 hFc hP1 hD1
                generalize H1 = H at hP hS ⊢
                have hP : va_P (dC, dI) classes [c_X x0 x1 x2 x3 x4 z2.2, c_A x1 c1 1024 m1, c_A x2 c2 256 m2, c_A x3 c3 9 (f_X_add ((255 : Int32) - z2.1) z2.2 z1.2.2)] H := hP.sub [2, 0, 1, 3] rfl
                have hD : va_D A [c_X x0 x1 x2 x3 x4 z2.2, c_A x1 c1 1024 m1, c_A x2 c2 256 m2, c_A x3 c3 9 (f_X_add ((255 : Int32) - z2.1) z2.2 z1.2.2)] := hD.sub [2, 0, 1, 3] (by decide) rfl
                obtain ⟨z3, ez3⟩ : ∃ z, z = (f_X_add ((255 : Int32) - z2.1) z2.2 z1.2.2) := ⟨_, rfl⟩
                rw [← ez3] at hP hD
                have hf : f_X_sums p1 p2 ku m1 m2 m3 = (z2.2, m1, m2, z3) := by rw [f_X_sums, if_neg c_1, ← ez1, f_X_sums_k1, ← ez2, f_X_sums_k2, if_neg c_4, if_neg c_5, if_neg c_6, if_neg c_7, if_neg c_8, if_neg c_9, ← ez3, f_X_sums_k3]
                exact W.vret hx hb hr (fun t ht hW => ⟨⟨(), rfl, trivial, by rw [hf]; exact ⟨by rw [ht]; exact hP, va_K.moved hW.alike hK, hD⟩⟩, hS.F ht⟩) hS.2.2 d_X_sums_184
              · refine lv_aload_n hx hb d_X_sums_159 rfl (lv_at hl 3 rfl) ?_
                refine lv_aload_n hx hb d_X_sums_160 rfl (lv_at hl 3 rfl) ?_
                refine va_get (D := (dC, dI)) (ci := 3) (v := .ref x3) (C := R_X) (T := F_X) (N := 13) hx hb htB i_X hown hK hP 0 rfl rfl 2 (by decide) (htB _ mw_463) (fun _ h9 => h9) rfl d_X_sums_161 ?_
                refine lv_iconst (v := 0) hx hb d_X_sums_164 (by decide) ?_
                refine iald_at hx hb hK hP 3 2 rfl rfl (show ¬ ((0 : Int32) < 0 ∨ 9 ≤ (0 : Int32).toNatClampNeg) from by decide) (show (0 : Int32).toNatClampNeg = 0 from by decide) d_X_sums_165 ?_
                refine lv_iload hx hb d_X_sums_166 (lv_at hl 0 rfl) ?_
                have hPc := hP.sub (ws' := [c_X x0 x1 x2 x3 x4 z2.2, c_A x3 c3 9 z1.2.2]) [0, 3] rfl
                have hDc := hD.sub (ws' := [c_X x0 x1 x2 x3 x4 z2.2, c_A x3 c3 9 z1.2.2]) [0, 3] (by decide) rfl
                have hKc := hK.sub (tys' := [(c3, .int)]) [2] rfl
                have hFc := va_free (wc := [c_X x0 x1 x2 x3 x4 z2.2, c_A x3 c3 9 z1.2.2]) hD hS hA [0, 3] rfl
                refine va_callv (va_runV (As := [.int (z1.2.2 0), .int z2.1]) (rest := []) ⟨hx, hb, hml, hown, htB⟩ (c_X_compare l dC dI z0 x0 x1 x2 x3 x4 c3 H.size (z1.2.2 0) z2.1 z2.2 z1.2.2) (cwV 2 htB (gd_V mw_599 mw_601 sw_X_compare mw_4 mw_602) rfl rfl rfl (by decide +kernel) ⟨Nat.le_of_ble_eq_true rfl, Nat.le_of_ble_eq_true rfl⟩) (pcx_V (va_recv hKc hPc (ci := 3) (q0 := 0) rfl rfl) hPc hKc hDc hA0 hE hS) rfl rfl hl.1 rfl (lv_room (Nat.le_of_ble_eq_true rfl)) d_X_sums_168 ⟨Nat.zero_le _, Nat.zero_le _⟩) hS (fun q _ h => hFc q h) hFc (fun u t H1 locs ht hvm hw hB hz1 hk1 hS => ?_)
                obtain ⟨hP1, hK1, hD1⟩ := hB
                rw [ht] at hP1
                obtain ⟨hP, hD⟩ := va_join (wr := [c_A x1 c1 1024 m1, c_A x2 c2 256 m2]) (w1 := [c_X x0 x1 x2 x3 x4 z2.2, c_A x3 c3 9 (f_X_compare (z1.2.2 0) z2.1 z2.2 z1.2.2)]) hP hD [0, 3] [1, 2] rfl rfl (by decide) (by decide) hk1 hFc hP1 hD1
                generalize H1 = H at hP hS ⊢
                have hP : va_P (dC, dI) classes [c_X x0 x1 x2 x3 x4 z2.2, c_A x1 c1 1024 m1, c_A x2 c2 256 m2, c_A x3 c3 9 (f_X_compare (z1.2.2 0) z2.1 z2.2 z1.2.2)] H := hP.sub [2, 0, 1, 3] rfl
                have hD : va_D A [c_X x0 x1 x2 x3 x4 z2.2, c_A x1 c1 1024 m1, c_A x2 c2 256 m2, c_A x3 c3 9 (f_X_compare (z1.2.2 0) z2.1 z2.2 z1.2.2)] := hD.sub [2, 0, 1, 3] (by decide) rfl
                obtain ⟨z3, ez3⟩ : ∃ z, z = (f_X_compare (z1.2.2 0) z2.1 z2.2 z1.2.2) := ⟨_, rfl⟩
                rw [← ez3] at hP hD
                refine lv_goto (tgt := 184) hx hb d_X_sums_171 (by decide) ?_
                have hf : f_X_sums p1 p2 ku m1 m2 m3 = (z2.2, m1, m2, z3) := by rw [f_X_sums, if_neg c_1, ← ez1, f_X_sums_k1, ← ez2, f_X_sums_k2, if_neg c_4, if_neg c_5, if_neg c_6, if_neg c_7, if_neg c_8, if_pos c_9, ← ez3, f_X_sums_k4]
                exact W.vret hx hb hr (fun t ht hW => ⟨⟨(), rfl, trivial, by rw [hf]; exact ⟨by rw [ht]; exact hP, va_K.moved hW.alike hK, hD⟩⟩, hS.F ht⟩) hS.2.2 d_X_sums_184
            · refine lv_aload_n hx hb d_X_sums_142 rfl (lv_at hl 3 rfl) ?_
              refine lv_iconst (v := 0) hx hb d_X_sums_143 (by decide) ?_
              refine lv_iload hx hb d_X_sums_144 (lv_at hl 0 rfl) ?_
              refine lv_iconst (v := 1) hx hb d_X_sums_146 (by decide) ?_
              have hPc := hP.sub (ws' := [c_X x0 x1 x2 x3 x4 z2.2, c_A x3 c3 9 z1.2.2]) [0, 3] rfl
              have hDc := hD.sub (ws' := [c_X x0 x1 x2 x3 x4 z2.2, c_A x3 c3 9 z1.2.2]) [0, 3] (by decide) rfl
              have hKc := hK.sub (tys' := [(c3, .int)]) [2] rfl
              have hFc := va_free (wc := [c_X x0 x1 x2 x3 x4 z2.2, c_A x3 c3 9 z1.2.2]) hD hS hA [0, 3] rfl
              refine va_callv (va_runV (As := [.int (0 : Int32), .int z2.1, .int (1 : Int32)]) (rest := []) ⟨hx, hb, hml, hown, htB⟩ (c_X_put3 l dC dI z0 x0 x1 x2 x3 x4 c3 H.size (0 : Int32) z2.1 (1 : Int32) z2.2 z1.2.2 (show ¬ ((0 : Int32) < 0 ∨ 9 ≤ (0 : Int32).toNatClampNeg) from by decide)) (cwV 3 htB (gd_V mw_587 mw_589 sw_X_put3 mw_4 mw_590) rfl rfl rfl (by decide +kernel) ⟨Nat.le_of_ble_eq_true rfl, Nat.le_of_ble_eq_true rfl⟩) (pcx_V (va_recv hKc hPc (ci := 3) (q0 := 0) rfl rfl) hPc hKc hDc hA0 hE hS) rfl rfl hl.1 rfl (lv_room (Nat.le_of_ble_eq_true rfl)) d_X_sums_147 ⟨Nat.zero_le _, Nat.zero_le _⟩) hS (fun q _ h => hFc q h) hFc (fun u t H1 locs ht hvm hw hB hz1 hk1 hS => ?_)
              obtain ⟨hP1, hK1, hD1⟩ := hB
              rw [ht] at hP1
              obtain ⟨hP, hD⟩ := va_join (wr := [c_A x1 c1 1024 m1, c_A x2 c2 256 m2]) (w1 := [c_X x0 x1 x2 x3 x4 z2.2, c_A x3 c3 9 (f_X_put3 (0 : Int32) z2.1 (1 : Int32) z2.2 z1.2.2)]) hP hD [0, 3] [1, 2] rfl rfl (by decide) (by decide) hk1 hFc hP1 hD1
              generalize H1 = H at hP hS ⊢
              have hP : va_P (dC, dI) classes [c_X x0 x1 x2 x3 x4 z2.2, c_A x1 c1 1024 m1, c_A x2 c2 256 m2, c_A x3 c3 9 (f_X_put3 (0 : Int32) z2.1 (1 : Int32) z2.2 z1.2.2)] H := hP.sub [2, 0, 1, 3] rfl
              have hD : va_D A [c_X x0 x1 x2 x3 x4 z2.2, c_A x1 c1 1024 m1, c_A x2 c2 256 m2, c_A x3 c3 9 (f_X_put3 (0 : Int32) z2.1 (1 : Int32) z2.2 z1.2.2)] := hD.sub [2, 0, 1, 3] (by decide) rfl
              obtain ⟨z3, ez3⟩ : ∃ z, z = (f_X_put3 (0 : Int32) z2.1 (1 : Int32) z2.2 z1.2.2) := ⟨_, rfl⟩
              rw [← ez3] at hP hD
              refine lv_goto (tgt := 184) hx hb d_X_sums_150 (by decide) ?_
              have hf : f_X_sums p1 p2 ku m1 m2 m3 = (z2.2, m1, m2, z3) := by rw [f_X_sums, if_neg c_1, ← ez1, f_X_sums_k1, ← ez2, f_X_sums_k2, if_neg c_4, if_neg c_5, if_neg c_6, if_neg c_7, if_pos c_8, ← ez3, f_X_sums_k5]
              exact W.vret hx hb hr (fun t ht hW => ⟨⟨(), rfl, trivial, by rw [hf]; exact ⟨by rw [ht]; exact hP, va_K.moved hW.alike hK, hD⟩⟩, hS.F ht⟩) hS.2.2 d_X_sums_184
          · refine lv_aload_n hx hb d_X_sums_128 rfl (lv_at hl 3 rfl) ?_
            refine lv_iload hx hb d_X_sums_129 (lv_at hl 0 rfl) ?_
            have hPc := hP.sub (ws' := [c_X x0 x1 x2 x3 x4 z2.2, c_A x3 c3 9 z1.2.2]) [0, 3] rfl
            have hDc := hD.sub (ws' := [c_X x0 x1 x2 x3 x4 z2.2, c_A x3 c3 9 z1.2.2]) [0, 3] (by decide) rfl
            have hKc := hK.sub (tys' := [(c3, .int)]) [2] rfl
            have hFc := va_free (wc := [c_X x0 x1 x2 x3 x4 z2.2, c_A x3 c3 9 z1.2.2]) hD hS hA [0, 3] rfl
            refine va_callv (va_runV (As := [.int z2.1]) (rest := []) ⟨hx, hb, hml, hown, htB⟩ (c_X_add l dC dI z0 x0 x1 x2 x3 x4 c3 H.size z2.1 z2.2 z1.2.2) (cwV 1 htB (gd_V mw_595 mw_597 sw_X_add mw_4 mw_598) rfl rfl rfl (by decide +kernel) ⟨Nat.le_of_ble_eq_true rfl, Nat.le_of_ble_eq_true rfl⟩) (pcx_V (va_recv hKc hPc (ci := 3) (q0 := 0) rfl rfl) hPc hKc hDc hA0 hE hS) rfl rfl hl.1 rfl (lv_room (Nat.le_of_ble_eq_true rfl)) d_X_sums_131 ⟨Nat.zero_le _, Nat.zero_le _⟩) hS (fun q _ h => hFc q h) hFc (fun u t H1 locs ht hvm hw hB hz1 hk1 hS => ?_)
            obtain ⟨hP1, hK1, hD1⟩ := hB
            rw [ht] at hP1
            obtain ⟨hP, hD⟩ := va_join (wr := [c_A x1 c1 1024 m1, c_A x2 c2 256 m2]) (w1 := [c_X x0 x1 x2 x3 x4 z2.2, c_A x3 c3 9 (f_X_add z2.1 z2.2 z1.2.2)]) hP hD [0, 3] [1, 2] rfl rfl (by decide) (by decide) hk1 hFc hP1 hD1
            generalize H1 = H at hP hS ⊢
            have hP : va_P (dC, dI) classes [c_X x0 x1 x2 x3 x4 z2.2, c_A x1 c1 1024 m1, c_A x2 c2 256 m2, c_A x3 c3 9 (f_X_add z2.1 z2.2 z1.2.2)] H := hP.sub [2, 0, 1, 3] rfl
            have hD : va_D A [c_X x0 x1 x2 x3 x4 z2.2, c_A x1 c1 1024 m1, c_A x2 c2 256 m2, c_A x3 c3 9 (f_X_add z2.1 z2.2 z1.2.2)] := hD.sub [2, 0, 1, 3] (by decide) rfl
            obtain ⟨z3, ez3⟩ : ∃ z, z = (f_X_add z2.1 z2.2 z1.2.2) := ⟨_, rfl⟩
            rw [← ez3] at hP hD
            refine lv_goto (tgt := 184) hx hb d_X_sums_134 (by decide) ?_
            have hf : f_X_sums p1 p2 ku m1 m2 m3 = (z2.2, m1, m2, z3) := by rw [f_X_sums, if_neg c_1, ← ez1, f_X_sums_k1, ← ez2, f_X_sums_k2, if_neg c_4, if_neg c_5, if_neg c_6, if_pos c_7, ← ez3, f_X_sums_k6]
            exact W.vret hx hb hr (fun t ht hW => ⟨⟨(), rfl, trivial, by rw [hf]; exact ⟨by rw [ht]; exact hP, va_K.moved hW.alike hK, hD⟩⟩, hS.F ht⟩) hS.2.2 d_X_sums_184
        · refine lv_aload_n hx hb d_X_sums_105 rfl (lv_at hl 3 rfl) ?_
          refine lv_iconst (v := 0) hx hb d_X_sums_106 (by decide) ?_
          refine lv_aload_n hx hb d_X_sums_107 rfl (lv_at hl 3 rfl) ?_
          refine va_get (D := (dC, dI)) (ci := 3) (v := .ref x3) (C := R_X) (T := F_X) (N := 13) hx hb htB i_X hown hK hP 0 rfl rfl 2 (by decide) (htB _ mw_463) (fun _ h9 => h9) rfl d_X_sums_108 ?_
          refine lv_iconst (v := 0) hx hb d_X_sums_111 (by decide) ?_
          refine iald_at hx hb hK hP 3 2 rfl rfl (show ¬ ((0 : Int32) < 0 ∨ 9 ≤ (0 : Int32).toNatClampNeg) from by decide) (show (0 : Int32).toNatClampNeg = 0 from by decide) d_X_sums_112 ?_
          refine lv_iload hx hb d_X_sums_113 (lv_at hl 0 rfl) ?_
          refine lv_ixor hx hb d_X_sums_115 ?_
          refine lv_iconst (v := 1) hx hb d_X_sums_116 (by decide) ?_
          have hPc := hP.sub (ws' := [c_X x0 x1 x2 x3 x4 z2.2, c_A x3 c3 9 z1.2.2]) [0, 3] rfl
          have hDc := hD.sub (ws' := [c_X x0 x1 x2 x3 x4 z2.2, c_A x3 c3 9 z1.2.2]) [0, 3] (by decide) rfl
          have hKc := hK.sub (tys' := [(c3, .int)]) [2] rfl
          have hFc := va_free (wc := [c_X x0 x1 x2 x3 x4 z2.2, c_A x3 c3 9 z1.2.2]) hD hS hA [0, 3] rfl
          refine va_callv (va_runV (As := [.int (0 : Int32), .int ((z1.2.2 0) ^^^ z2.1), .int (1 : Int32)]) (rest := []) ⟨hx, hb, hml, hown, htB⟩ (c_X_put3 l dC dI z0 x0 x1 x2 x3 x4 c3 H.size (0 : Int32) ((z1.2.2 0) ^^^ z2.1) (1 : Int32) z2.2 z1.2.2 (show ¬ ((0 : Int32) < 0 ∨ 9 ≤ (0 : Int32).toNatClampNeg) from by decide)) (cwV 3 htB (gd_V mw_587 mw_589 sw_X_put3 mw_4 mw_590) rfl rfl rfl (by decide +kernel) ⟨Nat.le_of_ble_eq_true rfl, Nat.le_of_ble_eq_true rfl⟩) (pcx_V (va_recv hKc hPc (ci := 3) (q0 := 0) rfl rfl) hPc hKc hDc hA0 hE hS) rfl rfl hl.1 rfl (lv_room (Nat.le_of_ble_eq_true rfl)) d_X_sums_117 ⟨Nat.zero_le _, Nat.zero_le _⟩) hS (fun q _ h => hFc q h) hFc (fun u t H1 locs ht hvm hw hB hz1 hk1 hS => ?_)
          obtain ⟨hP1, hK1, hD1⟩ := hB
          rw [ht] at hP1
          obtain ⟨hP, hD⟩ := va_join (wr := [c_A x1 c1 1024 m1, c_A x2 c2 256 m2]) (w1 := [c_X x0 x1 x2 x3 x4 z2.2, c_A x3 c3 9 (f_X_put3 (0 : Int32) ((z1.2.2 0) ^^^ z2.1) (1 : Int32) z2.2 z1.2.2)]) hP hD [0, 3] [1, 2] rfl rfl (by decide) (by decide) hk1 hFc hP1 hD1
          generalize H1 = H at hP hS ⊢
          have hP : va_P (dC, dI) classes [c_X x0 x1 x2 x3 x4 z2.2, c_A x1 c1 1024 m1, c_A x2 c2 256 m2, c_A x3 c3 9 (f_X_put3 (0 : Int32) ((z1.2.2 0) ^^^ z2.1) (1 : Int32) z2.2 z1.2.2)] H := hP.sub [2, 0, 1, 3] rfl
          have hD : va_D A [c_X x0 x1 x2 x3 x4 z2.2, c_A x1 c1 1024 m1, c_A x2 c2 256 m2, c_A x3 c3 9 (f_X_put3 (0 : Int32) ((z1.2.2 0) ^^^ z2.1) (1 : Int32) z2.2 z1.2.2)] := hD.sub [2, 0, 1, 3] (by decide) rfl
          obtain ⟨z3, ez3⟩ : ∃ z, z = (f_X_put3 (0 : Int32) ((z1.2.2 0) ^^^ z2.1) (1 : Int32) z2.2 z1.2.2) := ⟨_, rfl⟩
          rw [← ez3] at hP hD
          refine lv_goto (tgt := 184) hx hb d_X_sums_120 (by decide) ?_
          have hf : f_X_sums p1 p2 ku m1 m2 m3 = (z2.2, m1, m2, z3) := by rw [f_X_sums, if_neg c_1, ← ez1, f_X_sums_k1, ← ez2, f_X_sums_k2, if_neg c_4, if_neg c_5, if_pos c_6, ← ez3, f_X_sums_k7]
          exact W.vret hx hb hr (fun t ht hW => ⟨⟨(), rfl, trivial, by rw [hf]; exact ⟨by rw [ht]; exact hP, va_K.moved hW.alike hK, hD⟩⟩, hS.F ht⟩) hS.2.2 d_X_sums_184
      · refine lv_aload_n hx hb d_X_sums_82 rfl (lv_at hl 3 rfl) ?_
        refine lv_iconst (v := 0) hx hb d_X_sums_83 (by decide) ?_
        refine lv_aload_n hx hb d_X_sums_84 rfl (lv_at hl 3 rfl) ?_
        refine va_get (D := (dC, dI)) (ci := 3) (v := .ref x3) (C := R_X) (T := F_X) (N := 13) hx hb htB i_X hown hK hP 0 rfl rfl 2 (by decide) (htB _ mw_463) (fun _ h9 => h9) rfl d_X_sums_85 ?_
        refine lv_iconst (v := 0) hx hb d_X_sums_88 (by decide) ?_
        refine iald_at hx hb hK hP 3 2 rfl rfl (show ¬ ((0 : Int32) < 0 ∨ 9 ≤ (0 : Int32).toNatClampNeg) from by decide) (show (0 : Int32).toNatClampNeg = 0 from by decide) d_X_sums_89 ?_
        refine lv_iload hx hb d_X_sums_90 (lv_at hl 0 rfl) ?_
        refine lv_iand hx hb d_X_sums_92 ?_
        refine lv_iconst (v := 1) hx hb d_X_sums_93 (by decide) ?_
        have hPc := hP.sub (ws' := [c_X x0 x1 x2 x3 x4 z2.2, c_A x3 c3 9 z1.2.2]) [0, 3] rfl
        have hDc := hD.sub (ws' := [c_X x0 x1 x2 x3 x4 z2.2, c_A x3 c3 9 z1.2.2]) [0, 3] (by decide) rfl
        have hKc := hK.sub (tys' := [(c3, .int)]) [2] rfl
        have hFc := va_free (wc := [c_X x0 x1 x2 x3 x4 z2.2, c_A x3 c3 9 z1.2.2]) hD hS hA [0, 3] rfl
        refine va_callv (va_runV (As := [.int (0 : Int32), .int ((z1.2.2 0) &&& z2.1), .int (1 : Int32)]) (rest := []) ⟨hx, hb, hml, hown, htB⟩ (c_X_put3 l dC dI z0 x0 x1 x2 x3 x4 c3 H.size (0 : Int32) ((z1.2.2 0) &&& z2.1) (1 : Int32) z2.2 z1.2.2 (show ¬ ((0 : Int32) < 0 ∨ 9 ≤ (0 : Int32).toNatClampNeg) from by decide)) (cwV 3 htB (gd_V mw_587 mw_589 sw_X_put3 mw_4 mw_590) rfl rfl rfl (by decide +kernel) ⟨Nat.le_of_ble_eq_true rfl, Nat.le_of_ble_eq_true rfl⟩) (pcx_V (va_recv hKc hPc (ci := 3) (q0 := 0) rfl rfl) hPc hKc hDc hA0 hE hS) rfl rfl hl.1 rfl (lv_room (Nat.le_of_ble_eq_true rfl)) d_X_sums_94 ⟨Nat.zero_le _, Nat.zero_le _⟩) hS (fun q _ h => hFc q h) hFc (fun u t H1 locs ht hvm hw hB hz1 hk1 hS => ?_)
        obtain ⟨hP1, hK1, hD1⟩ := hB
        rw [ht] at hP1
        obtain ⟨hP, hD⟩ := va_join (wr := [c_A x1 c1 1024 m1, c_A x2 c2 256 m2]) (w1 := [c_X x0 x1 x2 x3 x4 z2.2, c_A x3 c3 9 (f_X_put3 (0 : Int32) ((z1.2.2 0) &&& z2.1) (1 : Int32) z2.2 z1.2.2)]) hP hD [0, 3] [1, 2] rfl rfl (by decide) (by decide) hk1 hFc hP1 hD1
        generalize H1 = H at hP hS ⊢
        have hP : va_P (dC, dI) classes [c_X x0 x1 x2 x3 x4 z2.2, c_A x1 c1 1024 m1, c_A x2 c2 256 m2, c_A x3 c3 9 (f_X_put3 (0 : Int32) ((z1.2.2 0) &&& z2.1) (1 : Int32) z2.2 z1.2.2)] H := hP.sub [2, 0, 1, 3] rfl
        have hD : va_D A [c_X x0 x1 x2 x3 x4 z2.2, c_A x1 c1 1024 m1, c_A x2 c2 256 m2, c_A x3 c3 9 (f_X_put3 (0 : Int32) ((z1.2.2 0) &&& z2.1) (1 : Int32) z2.2 z1.2.2)] := hD.sub [2, 0, 1, 3] (by decide) rfl
        obtain ⟨z3, ez3⟩ : ∃ z, z = (f_X_put3 (0 : Int32) ((z1.2.2 0) &&& z2.1) (1 : Int32) z2.2 z1.2.2) := ⟨_, rfl⟩
        rw [← ez3] at hP hD
        refine lv_goto (tgt := 184) hx hb d_X_sums_97 (by decide) ?_
        have hf : f_X_sums p1 p2 ku m1 m2 m3 = (z2.2, m1, m2, z3) := by rw [f_X_sums, if_neg c_1, ← ez1, f_X_sums_k1, ← ez2, f_X_sums_k2, if_neg c_4, if_pos c_5, ← ez3, f_X_sums_k8]
        exact W.vret hx hb hr (fun t ht hW => ⟨⟨(), rfl, trivial, by rw [hf]; exact ⟨by rw [ht]; exact hP, va_K.moved hW.alike hK, hD⟩⟩, hS.F ht⟩) hS.2.2 d_X_sums_184
    · refine lv_aload_n hx hb d_X_sums_59 rfl (lv_at hl 3 rfl) ?_
      refine lv_iconst (v := 0) hx hb d_X_sums_60 (by decide) ?_
      refine lv_aload_n hx hb d_X_sums_61 rfl (lv_at hl 3 rfl) ?_
      refine va_get (D := (dC, dI)) (ci := 3) (v := .ref x3) (C := R_X) (T := F_X) (N := 13) hx hb htB i_X hown hK hP 0 rfl rfl 2 (by decide) (htB _ mw_463) (fun _ h9 => h9) rfl d_X_sums_62 ?_
      refine lv_iconst (v := 0) hx hb d_X_sums_65 (by decide) ?_
      refine iald_at hx hb hK hP 3 2 rfl rfl (show ¬ ((0 : Int32) < 0 ∨ 9 ≤ (0 : Int32).toNatClampNeg) from by decide) (show (0 : Int32).toNatClampNeg = 0 from by decide) d_X_sums_66 ?_
      refine lv_iload hx hb d_X_sums_67 (lv_at hl 0 rfl) ?_
      refine lv_ior hx hb d_X_sums_69 ?_
      refine lv_iconst (v := 1) hx hb d_X_sums_70 (by decide) ?_
      have hPc := hP.sub (ws' := [c_X x0 x1 x2 x3 x4 z2.2, c_A x3 c3 9 z1.2.2]) [0, 3] rfl
      have hDc := hD.sub (ws' := [c_X x0 x1 x2 x3 x4 z2.2, c_A x3 c3 9 z1.2.2]) [0, 3] (by decide) rfl
      have hKc := hK.sub (tys' := [(c3, .int)]) [2] rfl
      have hFc := va_free (wc := [c_X x0 x1 x2 x3 x4 z2.2, c_A x3 c3 9 z1.2.2]) hD hS hA [0, 3] rfl
      refine va_callv (va_runV (As := [.int (0 : Int32), .int ((z1.2.2 0) ||| z2.1), .int (1 : Int32)]) (rest := []) ⟨hx, hb, hml, hown, htB⟩ (c_X_put3 l dC dI z0 x0 x1 x2 x3 x4 c3 H.size (0 : Int32) ((z1.2.2 0) ||| z2.1) (1 : Int32) z2.2 z1.2.2 (show ¬ ((0 : Int32) < 0 ∨ 9 ≤ (0 : Int32).toNatClampNeg) from by decide)) (cwV 3 htB (gd_V mw_587 mw_589 sw_X_put3 mw_4 mw_590) rfl rfl rfl (by decide +kernel) ⟨Nat.le_of_ble_eq_true rfl, Nat.le_of_ble_eq_true rfl⟩) (pcx_V (va_recv hKc hPc (ci := 3) (q0 := 0) rfl rfl) hPc hKc hDc hA0 hE hS) rfl rfl hl.1 rfl (lv_room (Nat.le_of_ble_eq_true rfl)) d_X_sums_71 ⟨Nat.zero_le _, Nat.zero_le _⟩) hS (fun q _ h => hFc q h) hFc (fun u t H1 locs ht hvm hw hB hz1 hk1 hS => ?_)
      obtain ⟨hP1, hK1, hD1⟩ := hB
      rw [ht] at hP1
      obtain ⟨hP, hD⟩ := va_join (wr := [c_A x1 c1 1024 m1, c_A x2 c2 256 m2]) (w1 := [c_X x0 x1 x2 x3 x4 z2.2, c_A x3 c3 9 (f_X_put3 (0 : Int32) ((z1.2.2 0) ||| z2.1) (1 : Int32) z2.2 z1.2.2)]) hP hD [0, 3] [1, 2] rfl rfl (by decide) (by decide) hk1 hFc hP1 hD1
      generalize H1 = H at hP hS ⊢
      have hP : va_P (dC, dI) classes [c_X x0 x1 x2 x3 x4 z2.2, c_A x1 c1 1024 m1, c_A x2 c2 256 m2, c_A x3 c3 9 (f_X_put3 (0 : Int32) ((z1.2.2 0) ||| z2.1) (1 : Int32) z2.2 z1.2.2)] H := hP.sub [2, 0, 1, 3] rfl
      have hD : va_D A [c_X x0 x1 x2 x3 x4 z2.2, c_A x1 c1 1024 m1, c_A x2 c2 256 m2, c_A x3 c3 9 (f_X_put3 (0 : Int32) ((z1.2.2 0) ||| z2.1) (1 : Int32) z2.2 z1.2.2)] := hD.sub [2, 0, 1, 3] (by decide) rfl
      obtain ⟨z3, ez3⟩ : ∃ z, z = (f_X_put3 (0 : Int32) ((z1.2.2 0) ||| z2.1) (1 : Int32) z2.2 z1.2.2) := ⟨_, rfl⟩
      rw [← ez3] at hP hD
      refine lv_goto (tgt := 184) hx hb d_X_sums_74 (by decide) ?_
      have hf : f_X_sums p1 p2 ku m1 m2 m3 = (z2.2, m1, m2, z3) := by rw [f_X_sums, if_neg c_1, ← ez1, f_X_sums_k1, ← ez2, f_X_sums_k2, if_pos c_4, ← ez3, f_X_sums_k9]
      exact W.vret hx hb hr (fun t ht hW => ⟨⟨(), rfl, trivial, by rw [hf]; exact ⟨by rw [ht]; exact hP, va_K.moved hW.alike hK, hD⟩⟩, hS.F ht⟩) hS.2.2 d_X_sums_184
  · refine lv_iload_n hx hb d_X_sums_5 rfl (lv_at hl 2 rfl) ?_
    refine lv_iconst (v := 2) hx hb d_X_sums_6 (by decide) ?_
    refine lv_icmp_ne (tgt := 16) hx hb d_X_sums_7 (by decide) (fun c_2 => ?_) (fun c_2 => ?_)
    · refine lv_iload_n hx hb d_X_sums_16 rfl (lv_at hl 2 rfl) ?_
      have hPc := hP.sub (ws' := []) [] rfl
      have hDc := hD.sub (ws' := []) [] (by decide) rfl
      have hKc := hK.sub (tys' := []) [] rfl
      have hFc := va_free (wc := []) hD hS hA [] rfl
      refine va_calli (va_runS (As := [.int p2]) (rest := []) ⟨hx, hb, hml, hown, htB⟩ (c_X_mode1 l dC dI z0  H.size p2) (cwS 1 htB (gd_S mw_560 mw_561 mw_4 mw_562) rfl rfl rfl (by decide +kernel) ⟨Nat.le_of_ble_eq_true rfl, Nat.le_of_ble_eq_true rfl⟩) (pcx_S hPc hKc hDc hA0 hE hS) rfl rfl hl.1 rfl (lv_room (Nat.le_of_ble_eq_true rfl)) d_X_sums_17 ⟨Nat.zero_le _, Nat.zero_le _⟩) hS (fun q _ h => hFc q h) hFc (fun r9 u t H1 locs ht hvm hw hB hz1 hk1 hS => ?_)
      subst hw
      obtain ⟨hP1, hK1, hD1⟩ := hB
      rw [ht] at hP1
      obtain ⟨hP, hD⟩ := va_join (wr := [c_X x0 x1 x2 x3 x4 ku, c_A x1 c1 1024 m1, c_A x2 c2 256 m2, c_A x3 c3 9 m3]) (w1 := []) hP hD [] [0, 1, 2, 3] rfl rfl (by decide) (by decide) hk1 hFc hP1 hD1
      generalize H1 = H at hP hS ⊢
      have hP : va_P (dC, dI) classes [c_X x0 x1 x2 x3 x4 ku, c_A x1 c1 1024 m1, c_A x2 c2 256 m2, c_A x3 c3 9 m3] H := hP.sub [0, 1, 2, 3] rfl
      have hD : va_D A [c_X x0 x1 x2 x3 x4 ku, c_A x1 c1 1024 m1, c_A x2 c2 256 m2, c_A x3 c3 9 m3] := hD.sub [0, 1, 2, 3] (by decide) rfl
      refine lv_istore_n (lv' := [(3, .int (f_X_mode1 p2)), (0, .ref x0), (1, .int p1), (2, .int p2)]) hx hb d_X_sums_20 rfl hl (by decide) rfl (fun ls hl => ?_)
      refine lv_aload_n hx hb d_X_sums_21 rfl (lv_at hl 1 rfl) ?_
      refine lv_iload_n hx hb d_X_sums_22 rfl (lv_at hl 0 rfl) ?_
      have hPc := hP.sub (ws' := [c_X x0 x1 x2 x3 x4 ku, c_A x1 c1 1024 m1, c_A x3 c3 9 m3]) [0, 1, 3] rfl
      have hDc := hD.sub (ws' := [c_X x0 x1 x2 x3 x4 ku, c_A x1 c1 1024 m1, c_A x3 c3 9 m3]) [0, 1, 3] (by decide) rfl
      have hKc := hK.sub (tys' := [(c1, .int), (c3, .int)]) [0, 2] rfl
      have hFc := va_free (wc := [c_X x0 x1 x2 x3 x4 ku, c_A x1 c1 1024 m1, c_A x3 c3 9 m3]) hD hS hA [0, 1, 3] rfl
      refine va_calli (va_runV (As := [.int (f_X_mode1 p2)]) (rest := []) ⟨hx, hb, hml, hown, htB⟩ (c_X_address l dC dI z0 x0 x1 x2 x3 x4 c1 c3 H.size (f_X_mode1 p2) ku m1 m3) (cwV 1 htB (gd_V mw_563 mw_565 sw_X_address mw_4 mw_566) rfl rfl rfl (by decide +kernel) ⟨Nat.le_of_ble_eq_true rfl, Nat.le_of_ble_eq_true rfl⟩) (pcx_V (va_recv hKc hPc (ci := 3) (q0 := 0) rfl rfl) hPc hKc hDc hA0 hE hS) rfl rfl hl.1 rfl (lv_room (Nat.le_of_ble_eq_true rfl)) d_X_sums_23 ⟨Nat.zero_le _, Nat.zero_le _⟩) hS (fun q _ h => hFc q h) hFc (fun r9 u t H1 locs ht hvm hw hB hz1 hk1 hS => ?_)
      subst hw
      obtain ⟨hP1, hK1, hD1⟩ := hB
      rw [ht] at hP1
      obtain ⟨hP, hD⟩ := va_join (wr := [c_A x2 c2 256 m2]) (w1 := [c_X x0 x1 x2 x3 x4 ((f_X_address (f_X_mode1 p2) ku m1 m3).2.1), c_A x1 c1 1024 m1, c_A x3 c3 9 ((f_X_address (f_X_mode1 p2) ku m1 m3).2.2)]) hP hD [0, 1, 3] [2] rfl rfl (by decide) (by decide) hk1 hFc hP1 hD1
      generalize H1 = H at hP hS ⊢
      have hP : va_P (dC, dI) classes [c_X x0 x1 x2 x3 x4 ((f_X_address (f_X_mode1 p2) ku m1 m3).2.1), c_A x1 c1 1024 m1, c_A x2 c2 256 m2, c_A x3 c3 9 ((f_X_address (f_X_mode1 p2) ku m1 m3).2.2)] H := hP.sub [1, 2, 0, 3] rfl
      have hD : va_D A [c_X x0 x1 x2 x3 x4 ((f_X_address (f_X_mode1 p2) ku m1 m3).2.1), c_A x1 c1 1024 m1, c_A x2 c2 256 m2, c_A x3 c3 9 ((f_X_address (f_X_mode1 p2) ku m1 m3).2.2)] := hD.sub [1, 2, 0, 3] (by decide) rfl
      obtain ⟨z1, ez1⟩ : ∃ z, z = (f_X_address (f_X_mode1 p2) ku m1 m3) := ⟨_, rfl⟩
      rw [← ez1] at hP hD ⊢
      refine lv_istore (lv' := [(4, .int z1.1), (3, .int (f_X_mode1 p2)), (0, .ref x0), (1, .int p1), (2, .int p2)]) hx hb d_X_sums_26 hl (by decide) rfl (fun ls hl => ?_)
      refine lv_iload_n hx hb d_X_sums_28 rfl (lv_at hl 3 rfl) ?_
      refine lv_iconst (v := 4) hx hb d_X_sums_29 (by decide) ?_
      refine lv_icmp_ne (tgt := 46) hx hb d_X_sums_30 (by decide) (fun c9 => absurd c_1 c9) (fun _ => ?_)
      refine lv_aload_n hx hb d_X_sums_33 rfl (lv_at hl 2 rfl) ?_
      refine lv_iload hx hb d_X_sums_34 (lv_at hl 0 rfl) ?_
      refine lv_aload_n hx hb d_X_sums_36 rfl (lv_at hl 2 rfl) ?_
      refine va_get (D := (dC, dI)) (ci := 3) (v := .ref x3) (C := R_X) (T := F_X) (N := 13) hx hb htB i_X hown hK hP 0 rfl rfl 2 (by decide) (htB _ mw_463) (fun _ h9 => h9) rfl d_X_sums_37 ?_
      refine lv_iconst (v := 0) hx hb d_X_sums_40 (by decide) ?_
      refine iald_at hx hb hK hP 3 2 rfl rfl (show ¬ ((0 : Int32) < 0 ∨ 9 ≤ (0 : Int32).toNatClampNeg) from by decide) (show (0 : Int32).toNatClampNeg = 0 from by decide) d_X_sums_41 ?_
      have hPc := hP.sub (ws' := [c_X x0 x1 x2 x3 x4 z1.2.1, c_A x1 c1 1024 m1, c_A x2 c2 256 m2]) [0, 1, 2] rfl
      have hDc := hD.sub (ws' := [c_X x0 x1 x2 x3 x4 z1.2.1, c_A x1 c1 1024 m1, c_A x2 c2 256 m2]) [0, 1, 2] (by decide) rfl
      have hKc := hK.sub (tys' := [(c1, .int), (c2, .int)]) [0, 1] rfl
      have hFc := va_free (wc := [c_X x0 x1 x2 x3 x4 z1.2.1, c_A x1 c1 1024 m1, c_A x2 c2 256 m2]) hD hS hA [0, 1, 2] rfl
      refine va_callv (va_runV (As := [.int z1.1, .int (z1.2.2 0)]) (rest := []) ⟨hx, hb, hml, hown, htB⟩ (c_X_write l dC dI z0 x0 x1 x2 x3 x4 c1 c2 H.size z1.1 (z1.2.2 0) z1.2.1 m1 m2 (by rw [ez1]; exact xs_address hxs)) (cwV 2 htB (gd_V mw_579 mw_581 sw_X_write mw_4 mw_582) rfl rfl rfl (by decide +kernel) ⟨Nat.le_of_ble_eq_true rfl, Nat.le_of_ble_eq_true rfl⟩) (pcx_V (va_recv hKc hPc (ci := 3) (q0 := 0) rfl rfl) hPc hKc hDc hA0 hE hS) rfl rfl hl.1 rfl (lv_room (Nat.le_of_ble_eq_true rfl)) d_X_sums_42 ⟨Nat.zero_le _, Nat.zero_le _⟩) hS (fun q _ h => hFc q h) hFc (fun u t H1 locs ht hvm hw hB hz1 hk1 hS => ?_)
      obtain ⟨hP1, hK1, hD1⟩ := hB
      rw [ht] at hP1
      obtain ⟨hP, hD⟩ := va_join (wr := [c_A x3 c3 9 z1.2.2]) (w1 := [c_X x0 x1 x2 x3 x4 ((f_X_write z1.1 (z1.2.2 0) z1.2.1 m1 m2).1), c_A x1 c1 1024 ((f_X_write z1.1 (z1.2.2 0) z1.2.1 m1 m2).2.1), c_A x2 c2 256 ((f_X_write z1.1 (z1.2.2 0) z1.2.1 m1 m2).2.2)]) hP hD [0, 1, 2] [3] rfl rfl (by decide) (by decide) hk1 hFc hP1 hD1
      generalize H1 = H at hP hS ⊢
      have hP : va_P (dC, dI) classes [c_X x0 x1 x2 x3 x4 ((f_X_write z1.1 (z1.2.2 0) z1.2.1 m1 m2).1), c_A x1 c1 1024 ((f_X_write z1.1 (z1.2.2 0) z1.2.1 m1 m2).2.1), c_A x2 c2 256 ((f_X_write z1.1 (z1.2.2 0) z1.2.1 m1 m2).2.2), c_A x3 c3 9 z1.2.2] H := hP.sub [1, 2, 3, 0] rfl
      have hD : va_D A [c_X x0 x1 x2 x3 x4 ((f_X_write z1.1 (z1.2.2 0) z1.2.1 m1 m2).1), c_A x1 c1 1024 ((f_X_write z1.1 (z1.2.2 0) z1.2.1 m1 m2).2.1), c_A x2 c2 256 ((f_X_write z1.1 (z1.2.2 0) z1.2.1 m1 m2).2.2), c_A x3 c3 9 z1.2.2] := hD.sub [1, 2, 3, 0] (by decide) rfl
      obtain ⟨z2, ez2⟩ : ∃ z, z = (f_X_write z1.1 (z1.2.2 0) z1.2.1 m1 m2) := ⟨_, rfl⟩
      rw [← ez2] at hP hD
      have hf : f_X_sums p1 p2 ku m1 m2 m3 = (z2.1, z2.2.1, z2.2.2, z1.2.2) := by rw [f_X_sums, if_pos c_1, if_neg c_2, ← ez1, f_X_sums_k10, ← ez2, f_X_sums_k11]
      exact W.vret hx hb hr (fun t ht hW => ⟨⟨(), rfl, trivial, by rw [hf]; exact ⟨by rw [ht]; exact hP, va_K.moved hW.alike hK, hD⟩⟩, hS.F ht⟩) hS.2.2 d_X_sums_45
    · refine lv_aload_n hx hb d_X_sums_10 rfl (lv_at hl 0 rfl) ?_
      refine lv_iconst (v := 4) hx hb d_X_sums_11 (by decide) ?_
      refine va_put (D := (dC, dI)) (ci := 3) (v := .int (4 : Int32)) (ty := .int) (C := R_X) (T := F_X) (N := 13) hx hb htB i_X t_X t_X_ok n_X hown hK hP hD hS 0 rfl rfl 8 (by decide) (htB _ mw_469) (fun _ h9 => h9) rfl (by decide +kernel) rfl rfl (Nat.le_of_ble_eq_true rfl) d_X_sums_12 (fun H locs hP hD hS => ?_)
      have hP : va_P (dC, dI) classes [c_X x0 x1 x2 x3 x4 (upd ku 4 (4 : Int32)), c_A x1 c1 1024 m1, c_A x2 c2 256 m2, c_A x3 c3 9 m3] H := hP
      have hD : va_D A [c_X x0 x1 x2 x3 x4 (upd ku 4 (4 : Int32)), c_A x1 c1 1024 m1, c_A x2 c2 256 m2, c_A x3 c3 9 m3] := hD
      have hf : f_X_sums p1 p2 ku m1 m2 m3 = ((upd ku 4 (4 : Int32)), m1, m2, m3) := by rw [f_X_sums, if_pos c_1, if_pos c_2]
      exact W.vret hx hb hr (fun t ht hW => ⟨⟨(), rfl, trivial, by rw [hf]; exact ⟨by rw [ht]; exact hP, va_K.moved hW.alike hK, hD⟩⟩, hS.F ht⟩) hS.2.2 d_X_sums_15

def f_X_changes_k29 (p1 : Int32) (p2 : Int32) (ku m1 m2 m3 : Nat → Int32) (z1 : Int32 × (Nat → Int32) × (Nat → Int32)) (z2 : Int32 × (Nat → Int32)) (z3 : Int32 × (Nat → Int32)) (z4 : (Nat → Int32) × (Nat → Int32) × (Nat → Int32)) (z5 : (Nat → Int32)) : (Nat → Int32) × (Nat → Int32) × (Nat → Int32) × (Nat → Int32) :=
  (z4.1, z4.2.1, z4.2.2, z5)
def f_X_changes_k28 (p1 : Int32) (p2 : Int32) (ku m1 m2 m3 : Nat → Int32) (z1 : Int32 × (Nat → Int32) × (Nat → Int32)) (z2 : Int32 × (Nat → Int32)) (z3 : Int32 × (Nat → Int32)) (z4 : (Nat → Int32) × (Nat → Int32) × (Nat → Int32)) : (Nat → Int32) × (Nat → Int32) × (Nat → Int32) × (Nat → Int32) :=
  f_X_changes_k29 p1 p2 ku m1 m2 m3 z1 z2 z3 z4 (f_X_set z3.1 z4.1 z3.2)
def f_X_changes_k27 (p1 : Int32) (p2 : Int32) (ku m1 m2 m3 : Nat → Int32) (z1 : Int32 × (Nat → Int32) × (Nat → Int32)) (z2 : Int32 × (Nat → Int32)) (z3 : Int32 × (Nat → Int32)) : (Nat → Int32) × (Nat → Int32) × (Nat → Int32) × (Nat → Int32) :=
  f_X_changes_k28 p1 p2 ku m1 m2 m3 z1 z2 z3 (f_X_write z1.1 z3.1 z2.2 m1 m2)
def f_X_changes_k26 (p1 : Int32) (p2 : Int32) (ku m1 m2 m3 : Nat → Int32) (z1 : Int32 × (Nat → Int32) × (Nat → Int32)) (z2 : Int32 × (Nat → Int32)) : (Nat → Int32) × (Nat → Int32) × (Nat → Int32) × (Nat → Int32) :=
  f_X_changes_k27 p1 p2 ku m1 m2 m3 z1 z2 (f_X_shifted p1 z2.1 z2.2 z1.2.2)
def f_X_changes_k25 (p1 : Int32) (p2 : Int32) (ku m1 m2 m3 : Nat → Int32) (z1 : Int32 × (Nat → Int32) × (Nat → Int32)) : (Nat → Int32) × (Nat → Int32) × (Nat → Int32) × (Nat → Int32) :=
  f_X_changes_k26 p1 p2 ku m1 m2 m3 z1 (f_X_operand (1 : Int32) z1.1 z1.2.1 m1 z1.2.2)
def f_X_changes_k24 (p1 : Int32) (p2 : Int32) (ku m1 m2 m3 : Nat → Int32) (z1 : Int32 × (Nat → Int32) × (Nat → Int32)) (z2 : Int32 × (Nat → Int32)) (z3 : Int32 × (Nat → Int32)) (z4 : (Nat → Int32)) : (Nat → Int32) × (Nat → Int32) × (Nat → Int32) × (Nat → Int32) :=
  (z2.2, m1, m2, z4)
def f_X_changes_k23 (p1 : Int32) (p2 : Int32) (ku m1 m2 m3 : Nat → Int32) (z1 : Int32 × (Nat → Int32) × (Nat → Int32)) (z2 : Int32 × (Nat → Int32)) (z3 : Int32 × (Nat → Int32)) : (Nat → Int32) × (Nat → Int32) × (Nat → Int32) × (Nat → Int32) :=
  f_X_changes_k24 p1 p2 ku m1 m2 m3 z1 z2 z3 (f_X_set z3.1 z2.2 (upd z3.2 0 z3.1))
def f_X_changes_k22 (p1 : Int32) (p2 : Int32) (ku m1 m2 m3 : Nat → Int32) (z1 : Int32 × (Nat → Int32) × (Nat → Int32)) (z2 : Int32 × (Nat → Int32)) : (Nat → Int32) × (Nat → Int32) × (Nat → Int32) × (Nat → Int32) :=
  f_X_changes_k23 p1 p2 ku m1 m2 m3 z1 z2 (f_X_shifted p1 z2.1 z2.2 z1.2.2)
def f_X_changes_k21 (p1 : Int32) (p2 : Int32) (ku m1 m2 m3 : Nat → Int32) (z1 : Int32 × (Nat → Int32) × (Nat → Int32)) : (Nat → Int32) × (Nat → Int32) × (Nat → Int32) × (Nat → Int32) :=
  f_X_changes_k22 p1 p2 ku m1 m2 m3 z1 (f_X_operand (9 : Int32) z1.1 z1.2.1 m1 z1.2.2)
def f_X_changes_k30 (p1 : Int32) (p2 : Int32) (ku m1 m2 m3 : Nat → Int32) (z1 : (Nat → Int32)) : (Nat → Int32) × (Nat → Int32) × (Nat → Int32) × (Nat → Int32) :=
  (ku, m1, m2, z1)
def f_X_changes_k20 (p1 : Int32) (p2 : Int32) (ku m1 m2 m3 : Nat → Int32) (z1 : Int32 × (Nat → Int32) × (Nat → Int32)) (z2 : Int32 × (Nat → Int32)) (z3 : Int32 × (Nat → Int32)) (z4 : (Nat → Int32) × (Nat → Int32) × (Nat → Int32)) (z5 : (Nat → Int32)) : (Nat → Int32) × (Nat → Int32) × (Nat → Int32) × (Nat → Int32) :=
  (z4.1, z4.2.1, z4.2.2, z5)
def f_X_changes_k19 (p1 : Int32) (p2 : Int32) (ku m1 m2 m3 : Nat → Int32) (z1 : Int32 × (Nat → Int32) × (Nat → Int32)) (z2 : Int32 × (Nat → Int32)) (z3 : Int32 × (Nat → Int32)) (z4 : (Nat → Int32) × (Nat → Int32) × (Nat → Int32)) : (Nat → Int32) × (Nat → Int32) × (Nat → Int32) × (Nat → Int32) :=
  f_X_changes_k20 p1 p2 ku m1 m2 m3 z1 z2 z3 z4 (f_X_set z3.1 z4.1 z3.2)
def f_X_changes_k18 (p1 : Int32) (p2 : Int32) (ku m1 m2 m3 : Nat → Int32) (z1 : Int32 × (Nat → Int32) × (Nat → Int32)) (z2 : Int32 × (Nat → Int32)) (z3 : Int32 × (Nat → Int32)) : (Nat → Int32) × (Nat → Int32) × (Nat → Int32) × (Nat → Int32) :=
  f_X_changes_k19 p1 p2 ku m1 m2 m3 z1 z2 z3 (f_X_write z1.1 z3.1 z2.2 m1 m2)
def f_X_changes_k17 (p1 : Int32) (p2 : Int32) (ku m1 m2 m3 : Nat → Int32) (z1 : Int32 × (Nat → Int32) × (Nat → Int32)) (z2 : Int32 × (Nat → Int32)) : (Nat → Int32) × (Nat → Int32) × (Nat → Int32) × (Nat → Int32) :=
  f_X_changes_k18 p1 p2 ku m1 m2 m3 z1 z2 (f_X_shifted p1 z2.1 z2.2 z1.2.2)
def f_X_changes_k16 (p1 : Int32) (p2 : Int32) (ku m1 m2 m3 : Nat → Int32) (z1 : Int32 × (Nat → Int32) × (Nat → Int32)) : (Nat → Int32) × (Nat → Int32) × (Nat → Int32) × (Nat → Int32) :=
  f_X_changes_k17 p1 p2 ku m1 m2 m3 z1 (f_X_operand (1 : Int32) z1.1 z1.2.1 m1 z1.2.2)
def f_X_changes_k15 (p1 : Int32) (p2 : Int32) (ku m1 m2 m3 : Nat → Int32) (z1 : Int32 × (Nat → Int32) × (Nat → Int32)) (z2 : Int32 × (Nat → Int32)) (z3 : Int32 × (Nat → Int32)) (z4 : (Nat → Int32) × (Nat → Int32) × (Nat → Int32)) (z5 : (Nat → Int32)) : (Nat → Int32) × (Nat → Int32) × (Nat → Int32) × (Nat → Int32) :=
  (z4.1, z4.2.1, z4.2.2, z5)
def f_X_changes_k14 (p1 : Int32) (p2 : Int32) (ku m1 m2 m3 : Nat → Int32) (z1 : Int32 × (Nat → Int32) × (Nat → Int32)) (z2 : Int32 × (Nat → Int32)) (z3 : Int32 × (Nat → Int32)) (z4 : (Nat → Int32) × (Nat → Int32) × (Nat → Int32)) : (Nat → Int32) × (Nat → Int32) × (Nat → Int32) × (Nat → Int32) :=
  f_X_changes_k15 p1 p2 ku m1 m2 m3 z1 z2 z3 z4 (f_X_set z3.1 z4.1 z3.2)
def f_X_changes_k13 (p1 : Int32) (p2 : Int32) (ku m1 m2 m3 : Nat → Int32) (z1 : Int32 × (Nat → Int32) × (Nat → Int32)) (z2 : Int32 × (Nat → Int32)) (z3 : Int32 × (Nat → Int32)) : (Nat → Int32) × (Nat → Int32) × (Nat → Int32) × (Nat → Int32) :=
  f_X_changes_k14 p1 p2 ku m1 m2 m3 z1 z2 z3 (f_X_write z1.1 z3.1 z2.2 m1 m2)
def f_X_changes_k12 (p1 : Int32) (p2 : Int32) (ku m1 m2 m3 : Nat → Int32) (z1 : Int32 × (Nat → Int32) × (Nat → Int32)) (z2 : Int32 × (Nat → Int32)) : (Nat → Int32) × (Nat → Int32) × (Nat → Int32) × (Nat → Int32) :=
  f_X_changes_k13 p1 p2 ku m1 m2 m3 z1 z2 (f_X_shifted p1 z2.1 z2.2 z1.2.2)
def f_X_changes_k11 (p1 : Int32) (p2 : Int32) (ku m1 m2 m3 : Nat → Int32) (z1 : Int32 × (Nat → Int32) × (Nat → Int32)) : (Nat → Int32) × (Nat → Int32) × (Nat → Int32) × (Nat → Int32) :=
  f_X_changes_k12 p1 p2 ku m1 m2 m3 z1 (f_X_operand (4 : Int32) z1.1 z1.2.1 m1 z1.2.2)
def f_X_changes_k10 (p1 : Int32) (p2 : Int32) (ku m1 m2 m3 : Nat → Int32) (z1 : Int32 × (Nat → Int32) × (Nat → Int32)) (z2 : Int32 × (Nat → Int32)) (z3 : Int32 × (Nat → Int32)) (z4 : (Nat → Int32) × (Nat → Int32) × (Nat → Int32)) (z5 : (Nat → Int32)) : (Nat → Int32) × (Nat → Int32) × (Nat → Int32) × (Nat → Int32) :=
  (z4.1, z4.2.1, z4.2.2, z5)
def f_X_changes_k9 (p1 : Int32) (p2 : Int32) (ku m1 m2 m3 : Nat → Int32) (z1 : Int32 × (Nat → Int32) × (Nat → Int32)) (z2 : Int32 × (Nat → Int32)) (z3 : Int32 × (Nat → Int32)) (z4 : (Nat → Int32) × (Nat → Int32) × (Nat → Int32)) : (Nat → Int32) × (Nat → Int32) × (Nat → Int32) × (Nat → Int32) :=
  f_X_changes_k10 p1 p2 ku m1 m2 m3 z1 z2 z3 z4 (f_X_set z3.1 z4.1 z3.2)
def f_X_changes_k8 (p1 : Int32) (p2 : Int32) (ku m1 m2 m3 : Nat → Int32) (z1 : Int32 × (Nat → Int32) × (Nat → Int32)) (z2 : Int32 × (Nat → Int32)) (z3 : Int32 × (Nat → Int32)) : (Nat → Int32) × (Nat → Int32) × (Nat → Int32) × (Nat → Int32) :=
  f_X_changes_k9 p1 p2 ku m1 m2 m3 z1 z2 z3 (f_X_write z1.1 z3.1 z2.2 m1 m2)
def f_X_changes_k7 (p1 : Int32) (p2 : Int32) (ku m1 m2 m3 : Nat → Int32) (z1 : Int32 × (Nat → Int32) × (Nat → Int32)) (z2 : Int32 × (Nat → Int32)) : (Nat → Int32) × (Nat → Int32) × (Nat → Int32) × (Nat → Int32) :=
  f_X_changes_k8 p1 p2 ku m1 m2 m3 z1 z2 (f_X_shifted p1 z2.1 z2.2 z1.2.2)
def f_X_changes_k6 (p1 : Int32) (p2 : Int32) (ku m1 m2 m3 : Nat → Int32) (z1 : Int32 × (Nat → Int32) × (Nat → Int32)) : (Nat → Int32) × (Nat → Int32) × (Nat → Int32) × (Nat → Int32) :=
  f_X_changes_k7 p1 p2 ku m1 m2 m3 z1 (f_X_operand (2 : Int32) z1.1 z1.2.1 m1 z1.2.2)
def f_X_changes_k5 (p1 : Int32) (p2 : Int32) (ku m1 m2 m3 : Nat → Int32) (z1 : Int32 × (Nat → Int32) × (Nat → Int32)) (z2 : Int32 × (Nat → Int32)) (z3 : Int32 × (Nat → Int32)) (z4 : (Nat → Int32) × (Nat → Int32) × (Nat → Int32)) (z5 : (Nat → Int32)) : (Nat → Int32) × (Nat → Int32) × (Nat → Int32) × (Nat → Int32) :=
  (z4.1, z4.2.1, z4.2.2, z5)
def f_X_changes_k4 (p1 : Int32) (p2 : Int32) (ku m1 m2 m3 : Nat → Int32) (z1 : Int32 × (Nat → Int32) × (Nat → Int32)) (z2 : Int32 × (Nat → Int32)) (z3 : Int32 × (Nat → Int32)) (z4 : (Nat → Int32) × (Nat → Int32) × (Nat → Int32)) : (Nat → Int32) × (Nat → Int32) × (Nat → Int32) × (Nat → Int32) :=
  f_X_changes_k5 p1 p2 ku m1 m2 m3 z1 z2 z3 z4 (f_X_set z3.1 z4.1 z3.2)
def f_X_changes_k3 (p1 : Int32) (p2 : Int32) (ku m1 m2 m3 : Nat → Int32) (z1 : Int32 × (Nat → Int32) × (Nat → Int32)) (z2 : Int32 × (Nat → Int32)) (z3 : Int32 × (Nat → Int32)) : (Nat → Int32) × (Nat → Int32) × (Nat → Int32) × (Nat → Int32) :=
  f_X_changes_k4 p1 p2 ku m1 m2 m3 z1 z2 z3 (f_X_write z1.1 z3.1 z2.2 m1 m2)
def f_X_changes_k2 (p1 : Int32) (p2 : Int32) (ku m1 m2 m3 : Nat → Int32) (z1 : Int32 × (Nat → Int32) × (Nat → Int32)) (z2 : Int32 × (Nat → Int32)) : (Nat → Int32) × (Nat → Int32) × (Nat → Int32) × (Nat → Int32) :=
  f_X_changes_k3 p1 p2 ku m1 m2 m3 z1 z2 (f_X_shifted p1 z2.1 z2.2 z1.2.2)
def f_X_changes_k1 (p1 : Int32) (p2 : Int32) (ku m1 m2 m3 : Nat → Int32) (z1 : Int32 × (Nat → Int32) × (Nat → Int32)) : (Nat → Int32) × (Nat → Int32) × (Nat → Int32) × (Nat → Int32) :=
  f_X_changes_k2 p1 p2 ku m1 m2 m3 z1 (f_X_operand (5 : Int32) z1.1 z1.2.1 m1 z1.2.2)
def f_X_changes (p1 : Int32) (p2 : Int32) (ku m1 m2 m3 : Nat → Int32) : (Nat → Int32) × (Nat → Int32) × (Nat → Int32) × (Nat → Int32) :=
  if p2 = (2 : Int32) then
    if p1 < (6 : Int32) then
      if p2 = (1 : Int32) then
        f_X_changes_k25 p1 p2 ku m1 m2 m3 (f_X_address (1 : Int32) ku m1 m3)
      else
        f_X_changes_k21 p1 p2 ku m1 m2 m3 (f_X_address (9 : Int32) ku m1 m3)
    else
      if p1 = (6 : Int32) then
        f_X_changes_k30 p1 p2 ku m1 m2 m3 (f_X_put3 (1 : Int32) ((m3 1) - (1 : Int32)) (1 : Int32) ku m3)
      else
        (ku, m1, m2, m3)
  else
    if p2 = (1 : Int32) then
      f_X_changes_k16 p1 p2 ku m1 m2 m3 (f_X_address (1 : Int32) ku m1 m3)
    else
      if p2 = (3 : Int32) then
        f_X_changes_k11 p1 p2 ku m1 m2 m3 (f_X_address (4 : Int32) ku m1 m3)
      else
        if p2 = (5 : Int32) then
          f_X_changes_k6 p1 p2 ku m1 m2 m3 (f_X_address (2 : Int32) ku m1 m3)
        else
          if p2 = (7 : Int32) then
            f_X_changes_k1 p1 p2 ku m1 m2 m3 (f_X_address (5 : Int32) ku m1 m3)
          else
            ((upd ku 4 (4 : Int32)), m1, m2, m3)
abbrev Q_X_changes (dC : Nat → ClassId) (dI : Nat → Nat → Nat) (x0 : Nat) (x1 : Nat) (x2 : Nat) (x3 : Nat) (x4 : Nat) (c1 : ClassId) (c2 : ClassId) (c3 : ClassId) (p1 : Int32) (p2 : Int32) (ku m1 m2 m3 : Nat → Int32) (A : Nat → Prop) : Array Value → State → Outcome → State → Prop := va_Qv (fun (_ : Unit) => True) (fun _ t => atW (dC, dI) classes A [c_X x0 x1 x2 x3 x4 ((f_X_changes p1 p2 ku m1 m2 m3).1), c_A x1 c1 1024 ((f_X_changes p1 p2 ku m1 m2 m3).2.1), c_A x2 c2 256 ((f_X_changes p1 p2 ku m1 m2 m3).2.2.1), c_A x3 c3 9 ((f_X_changes p1 p2 ku m1 m2 m3).2.2.2)] [(c1, .int), (c2, .int), (c3, .int)] t) A
set_option maxHeartbeats 4000000 in
set_option maxRecDepth 100000 in
theorem c_X_changes (l : Launch) (dC : Nat → ClassId) (dI : Nat → Nat → Nat) (z0 : Nat) (x0 : Nat) (x1 : Nat) (x2 : Nat) (x3 : Nat) (x4 : Nat) (c1 : ClassId) (c2 : ClassId) (c3 : ClassId) (sz : Nat) (p1 : Int32) (p2 : Int32) (ku m1 m2 m3 : Nat → Int32) (hxs : xs_ok ku) : Met l y_X_changes w_X_changes ({ frames := 4, cells := 0, slots := 0, locals := 85 }) (PcX (dC, dI) classes z0 [c_X x0 x1 x2 x3 x4 ku, c_A x1 c1 1024 m1, c_A x2 c2 256 m2, c_A x3 c3 9 m3] [(c1, .int), (c2, .int), (c3, .int)] sz [.ref x0, .int p1, .int p2]) (Q_X_changes dC dI x0 x1 x2 x3 x4 c1 c2 c3 p1 p2 ku m1 m2 m3 (va_A [c_X x0 x1 x2 x3 x4 ku, c_A x1 c1 1024 m1, c_A x2 c2 256 m2, c_A x3 c3 9 m3] sz)) 0 0 (va_A [c_X x0 x1 x2 x3 x4 ku, c_A x1 c1 1024 m1, c_A x2 c2 256 m2, c_A x3 c3 9 m3] sz) := by
  refine hdX (cc := b_X_changes) (maxL := 6) (ret := none) (C := R_X) (Qc := (Q_X_changes dC dI x0 x1 x2 x3 x4 c1 c2 c3 p1 p2 ku m1 m2 m3)) (by decide) rfl ?_
  intro p e s m below meth c A H hx hb hr hlocks hml hown hin htB hP hK hD hA hA0 hE hS
  have hl := lv_entry ([.ref x0, .int p1, .int p2]) (n := 6) (Nat.le_of_ble_eq_true rfl)
  rw [lg_entry_eq]
  generalize (lg_sl ([.ref x0, .int p1, .int p2]) ++ List.replicate (6 - (lg_sl ([.ref x0, .int p1, .int p2])).length) Slot.unset).toArray = ls at hl ⊢
  have hl : lv_has ls 6 [(0, .ref x0), (1, .int p1), (2, .int p2)] := hl
  refine lv_iload_n hx hb d_X_changes_0 rfl (lv_at hl 2 rfl) ?_
  refine lv_iconst (v := 2) hx hb d_X_changes_1 (by decide) ?_
  refine lv_icmp_ne (tgt := 32) hx hb d_X_changes_2 (by decide) (fun c_1 => ?_) (fun c_1 => ?_)
  · refine lv_iload_n hx hb d_X_changes_32 rfl (lv_at hl 2 rfl) ?_
    refine lv_iconst (v := 1) hx hb d_X_changes_33 (by decide) ?_
    refine lv_icmp_ne (tgt := 41) hx hb d_X_changes_34 (by decide) (fun c_2 => ?_) (fun c_2 => ?_)
    · refine lv_iload_n hx hb d_X_changes_41 rfl (lv_at hl 2 rfl) ?_
      refine lv_iconst (v := 2) hx hb d_X_changes_42 (by decide) ?_
      refine lv_icmp_ne (tgt := 51) hx hb d_X_changes_43 (by decide) (fun _ => ?_) (fun c9 => absurd c9 c_1)
      refine lv_iload_n hx hb d_X_changes_51 rfl (lv_at hl 2 rfl) ?_
      refine lv_iconst (v := 3) hx hb d_X_changes_52 (by decide) ?_
      refine lv_icmp_ne (tgt := 60) hx hb d_X_changes_53 (by decide) (fun c_3 => ?_) (fun c_3 => ?_)
      · refine lv_iload_n hx hb d_X_changes_60 rfl (lv_at hl 2 rfl) ?_
        refine lv_iconst (v := 5) hx hb d_X_changes_61 (by decide) ?_
        refine lv_icmp_ne (tgt := 69) hx hb d_X_changes_62 (by decide) (fun c_4 => ?_) (fun c_4 => ?_)
        · refine lv_iload_n hx hb d_X_changes_69 rfl (lv_at hl 2 rfl) ?_
          refine lv_bipush (v := 7) hx hb d_X_changes_70 (by decide) ?_
          refine lv_icmp_ne (tgt := 79) hx hb d_X_changes_72 (by decide) (fun c_5 => ?_) (fun c_5 => ?_)
          · refine lv_iconst (v := -1) hx hb d_X_changes_79 (by decide) ?_
            refine lv_istore_n (lv' := [(3, .int (-1 : Int32)), (0, .ref x0), (1, .int p1), (2, .int p2)]) hx hb d_X_changes_80 rfl hl (by decide) rfl (fun ls hl => ?_)
            refine lv_iload_n hx hb d_X_changes_81 rfl (lv_at hl 0 rfl) ?_
            refine lv_if_ge (tgt := 91) hx hb d_X_changes_82 (by decide) (fun c9 => absurd c9 (by decide)) (fun _ => ?_)
            refine lv_aload_n hx hb d_X_changes_85 rfl (lv_at hl 1 rfl) ?_
            refine lv_iconst (v := 4) hx hb d_X_changes_86 (by decide) ?_
            refine va_put (D := (dC, dI)) (ci := 3) (v := .int (4 : Int32)) (ty := .int) (C := R_X) (T := F_X) (N := 13) hx hb htB i_X t_X t_X_ok n_X hown hK hP hD hS 0 rfl rfl 8 (by decide) (htB _ mw_469) (fun _ h9 => h9) rfl (by decide +kernel) rfl rfl (Nat.le_of_ble_eq_true rfl) d_X_changes_87 (fun H locs hP hD hS => ?_)
            have hP : va_P (dC, dI) classes [c_X x0 x1 x2 x3 x4 (upd ku 4 (4 : Int32)), c_A x1 c1 1024 m1, c_A x2 c2 256 m2, c_A x3 c3 9 m3] H := hP
            have hD : va_D A [c_X x0 x1 x2 x3 x4 (upd ku 4 (4 : Int32)), c_A x1 c1 1024 m1, c_A x2 c2 256 m2, c_A x3 c3 9 m3] := hD
            have hf : f_X_changes p1 p2 ku m1 m2 m3 = ((upd ku 4 (4 : Int32)), m1, m2, m3) := by rw [f_X_changes, if_neg c_1, if_neg c_2, if_neg c_3, if_neg c_4, if_neg c_5]
            exact W.vret hx hb hr (fun t ht hW => ⟨⟨(), rfl, trivial, by rw [hf]; exact ⟨by rw [ht]; exact hP, va_K.moved hW.alike hK, hD⟩⟩, hS.F ht⟩) hS.2.2 d_X_changes_90
          · refine lv_iconst (v := 5) hx hb d_X_changes_75 (by decide) ?_
            refine lv_goto (tgt := 80) hx hb d_X_changes_76 (by decide) ?_
            refine lv_istore_n (lv' := [(3, .int (5 : Int32)), (0, .ref x0), (1, .int p1), (2, .int p2)]) hx hb d_X_changes_80 rfl hl (by decide) rfl (fun ls hl => ?_)
            refine lv_iload_n hx hb d_X_changes_81 rfl (lv_at hl 0 rfl) ?_
            refine lv_if_ge (tgt := 91) hx hb d_X_changes_82 (by decide) (fun _ => ?_) (fun c9 => absurd (show (0 : Int32) ≤ (5 : Int32) from by decide) c9)
            refine lv_aload_n hx hb d_X_changes_91 rfl (lv_at hl 1 rfl) ?_
            refine lv_iload_n hx hb d_X_changes_92 rfl (lv_at hl 0 rfl) ?_
            have hPc := hP.sub (ws' := [c_X x0 x1 x2 x3 x4 ku, c_A x1 c1 1024 m1, c_A x3 c3 9 m3]) [0, 1, 3] rfl
            have hDc := hD.sub (ws' := [c_X x0 x1 x2 x3 x4 ku, c_A x1 c1 1024 m1, c_A x3 c3 9 m3]) [0, 1, 3] (by decide) rfl
            have hKc := hK.sub (tys' := [(c1, .int), (c3, .int)]) [0, 2] rfl
            have hFc := va_free (wc := [c_X x0 x1 x2 x3 x4 ku, c_A x1 c1 1024 m1, c_A x3 c3 9 m3]) hD hS hA [0, 1, 3] rfl
            refine va_calli (va_runV (As := [.int (5 : Int32)]) (rest := []) ⟨hx, hb, hml, hown, htB⟩ (c_X_address l dC dI z0 x0 x1 x2 x3 x4 c1 c3 H.size (5 : Int32) ku m1 m3) (cwV 1 htB (gd_V mw_563 mw_565 sw_X_address mw_4 mw_566) rfl rfl rfl (by decide +kernel) ⟨Nat.le_of_ble_eq_true rfl, Nat.le_of_ble_eq_true rfl⟩) (pcx_V (va_recv hKc hPc (ci := 3) (q0 := 0) rfl rfl) hPc hKc hDc hA0 hE hS) rfl rfl hl.1 rfl (lv_room (Nat.le_of_ble_eq_true rfl)) d_X_changes_93 ⟨Nat.zero_le _, Nat.zero_le _⟩) hS (fun q _ h => hFc q h) hFc (fun r9 u t H1 locs ht hvm hw hB hz1 hk1 hS => ?_)
            subst hw
            obtain ⟨hP1, hK1, hD1⟩ := hB
            rw [ht] at hP1
            obtain ⟨hP, hD⟩ := va_join (wr := [c_A x2 c2 256 m2]) (w1 := [c_X x0 x1 x2 x3 x4 ((f_X_address (5 : Int32) ku m1 m3).2.1), c_A x1 c1 1024 m1, c_A x3 c3 9 ((f_X_address (5 : Int32) ku m1 m3).2.2)]) hP hD [0, 1, 3] [2] rfl rfl (by decide) (by decide) hk1 hFc hP1 hD1
            generalize H1 = H at hP hS ⊢
            have hP : va_P (dC, dI) classes [c_X x0 x1 x2 x3 x4 ((f_X_address (5 : Int32) ku m1 m3).2.1), c_A x1 c1 1024 m1, c_A x2 c2 256 m2, c_A x3 c3 9 ((f_X_address (5 : Int32) ku m1 m3).2.2)] H := hP.sub [1, 2, 0, 3] rfl
            have hD : va_D A [c_X x0 x1 x2 x3 x4 ((f_X_address (5 : Int32) ku m1 m3).2.1), c_A x1 c1 1024 m1, c_A x2 c2 256 m2, c_A x3 c3 9 ((f_X_address (5 : Int32) ku m1 m3).2.2)] := hD.sub [1, 2, 0, 3] (by decide) rfl
            obtain ⟨z1, ez1⟩ : ∃ z, z = (f_X_address (5 : Int32) ku m1 m3) := ⟨_, rfl⟩
            rw [← ez1] at hP hD ⊢
            refine lv_istore (lv' := [(4, .int z1.1), (3, .int (5 : Int32)), (0, .ref x0), (1, .int p1), (2, .int p2)]) hx hb d_X_changes_96 hl (by decide) rfl (fun ls hl => ?_)
            refine lv_aload_n hx hb d_X_changes_98 rfl (lv_at hl 2 rfl) ?_
            refine lv_iload_n hx hb d_X_changes_99 rfl (lv_at hl 3 rfl) ?_
            refine lv_aload_n hx hb d_X_changes_100 rfl (lv_at hl 2 rfl) ?_
            refine lv_iload_n hx hb d_X_changes_101 rfl (lv_at hl 1 rfl) ?_
            refine lv_iload hx hb d_X_changes_102 (lv_at hl 0 rfl) ?_
            have hPc := hP.sub (ws' := [c_X x0 x1 x2 x3 x4 z1.2.1, c_A x1 c1 1024 m1, c_A x3 c3 9 z1.2.2]) [0, 1, 3] rfl
            have hDc := hD.sub (ws' := [c_X x0 x1 x2 x3 x4 z1.2.1, c_A x1 c1 1024 m1, c_A x3 c3 9 z1.2.2]) [0, 1, 3] (by decide) rfl
            have hKc := hK.sub (tys' := [(c1, .int), (c3, .int)]) [0, 2] rfl
            have hFc := va_free (wc := [c_X x0 x1 x2 x3 x4 z1.2.1, c_A x1 c1 1024 m1, c_A x3 c3 9 z1.2.2]) hD hS hA [0, 1, 3] rfl
            refine va_calli (va_runV (As := [.int (5 : Int32), .int z1.1]) (rest := [.int p1, .ref x0]) ⟨hx, hb, hml, hown, htB⟩ (c_X_operand l dC dI z0 x0 x1 x2 x3 x4 c1 c3 H.size (5 : Int32) z1.1 z1.2.1 m1 z1.2.2) (cwV 2 htB (gd_V mw_583 mw_585 sw_X_operand mw_4 mw_586) rfl rfl rfl (by decide +kernel) ⟨Nat.le_of_ble_eq_true rfl, Nat.le_of_ble_eq_true rfl⟩) (pcx_V (va_recv hKc hPc (ci := 3) (q0 := 0) rfl rfl) hPc hKc hDc hA0 hE hS) rfl rfl hl.1 rfl (lv_room (Nat.le_of_ble_eq_true rfl)) d_X_changes_104 ⟨Nat.zero_le _, Nat.zero_le _⟩) hS (fun q _ h => hFc q h) hFc (fun r9 u t H1 locs ht hvm hw hB hz1 hk1 hS => ?_)
            subst hw
            obtain ⟨hP1, hK1, hD1⟩ := hB
            rw [ht] at hP1
            obtain ⟨hP, hD⟩ := va_join (wr := [c_A x2 c2 256 m2]) (w1 := [c_X x0 x1 x2 x3 x4 ((f_X_operand (5 : Int32) z1.1 z1.2.1 m1 z1.2.2).2), c_A x1 c1 1024 m1, c_A x3 c3 9 z1.2.2]) hP hD [0, 1, 3] [2] rfl rfl (by decide) (by decide) hk1 hFc hP1 hD1
            generalize H1 = H at hP hS ⊢
            have hP : va_P (dC, dI) classes [c_X x0 x1 x2 x3 x4 ((f_X_operand (5 : Int32) z1.1 z1.2.1 m1 z1.2.2).2), c_A x1 c1 1024 m1, c_A x2 c2 256 m2, c_A x3 c3 9 z1.2.2] H := hP.sub [1, 2, 0, 3] rfl
            have hD : va_D A [c_X x0 x1 x2 x3 x4 ((f_X_operand (5 : Int32) z1.1 z1.2.1 m1 z1.2.2).2), c_A x1 c1 1024 m1, c_A x2 c2 256 m2, c_A x3 c3 9 z1.2.2] := hD.sub [1, 2, 0, 3] (by decide) rfl
            obtain ⟨z2, ez2⟩ : ∃ z, z = (f_X_operand (5 : Int32) z1.1 z1.2.1 m1 z1.2.2) := ⟨_, rfl⟩
            rw [← ez2] at hP hD ⊢
            have hPc := hP.sub (ws' := [c_X x0 x1 x2 x3 x4 z2.2, c_A x3 c3 9 z1.2.2]) [0, 3] rfl
            have hDc := hD.sub (ws' := [c_X x0 x1 x2 x3 x4 z2.2, c_A x3 c3 9 z1.2.2]) [0, 3] (by decide) rfl
            have hKc := hK.sub (tys' := [(c3, .int)]) [2] rfl
            have hFc := va_free (wc := [c_X x0 x1 x2 x3 x4 z2.2, c_A x3 c3 9 z1.2.2]) hD hS hA [0, 3] rfl
            refine va_calli (va_runV (As := [.int p1, .int z2.1]) (rest := []) ⟨hx, hb, hml, hown, htB⟩ (c_X_shifted l dC dI z0 x0 x1 x2 x3 x4 c3 H.size p1 z2.1 z2.2 z1.2.2) (cwV 2 htB (gd_V mw_611 mw_613 sw_X_shifted mw_4 mw_614) rfl rfl rfl (by decide +kernel) ⟨Nat.le_of_ble_eq_true rfl, Nat.le_of_ble_eq_true rfl⟩) (pcx_V (va_recv hKc hPc (ci := 3) (q0 := 0) rfl rfl) hPc hKc hDc hA0 hE hS) rfl rfl hl.1 rfl (lv_room (Nat.le_of_ble_eq_true rfl)) d_X_changes_107 ⟨Nat.zero_le _, Nat.zero_le _⟩) hS (fun q _ h => hFc q h) hFc (fun r9 u t H1 locs ht hvm hw hB hz1 hk1 hS => ?_)
            subst hw
            obtain ⟨hP1, hK1, hD1⟩ := hB
            rw [ht] at hP1
            obtain ⟨hP, hD⟩ := va_join (wr := [c_A x1 c1 1024 m1, c_A x2 c2 256 m2]) (w1 := [c_X x0 x1 x2 x3 x4 z2.2, c_A x3 c3 9 ((f_X_shifted p1 z2.1 z2.2 z1.2.2).2)]) hP hD [0, 3] [1, 2] rfl rfl (by decide) (by decide) hk1 hFc hP1 hD1
            generalize H1 = H at hP hS ⊢
            have hP : va_P (dC, dI) classes [c_X x0 x1 x2 x3 x4 z2.2, c_A x1 c1 1024 m1, c_A x2 c2 256 m2, c_A x3 c3 9 ((f_X_shifted p1 z2.1 z2.2 z1.2.2).2)] H := hP.sub [2, 0, 1, 3] rfl
            have hD : va_D A [c_X x0 x1 x2 x3 x4 z2.2, c_A x1 c1 1024 m1, c_A x2 c2 256 m2, c_A x3 c3 9 ((f_X_shifted p1 z2.1 z2.2 z1.2.2).2)] := hD.sub [2, 0, 1, 3] (by decide) rfl
            obtain ⟨z3, ez3⟩ : ∃ z, z = (f_X_shifted p1 z2.1 z2.2 z1.2.2) := ⟨_, rfl⟩
            rw [← ez3] at hP hD ⊢
            refine lv_istore (lv' := [(5, .int z3.1), (4, .int z1.1), (3, .int (5 : Int32)), (0, .ref x0), (1, .int p1), (2, .int p2)]) hx hb d_X_changes_110 hl (by decide) rfl (fun ls hl => ?_)
            refine lv_iload_n hx hb d_X_changes_112 rfl (lv_at hl 2 rfl) ?_
            refine lv_bipush (v := 9) hx hb d_X_changes_113 (by decide) ?_
            refine lv_icmp_ne (tgt := 129) hx hb d_X_changes_115 (by decide) (fun _ => ?_) (fun c9 => absurd c9 (by decide))
            refine lv_aload_n hx hb d_X_changes_129 rfl (lv_at hl 3 rfl) ?_
            refine lv_iload hx hb d_X_changes_130 (lv_at hl 1 rfl) ?_
            refine lv_iload hx hb d_X_changes_132 (lv_at hl 0 rfl) ?_
            have hPc := hP.sub (ws' := [c_X x0 x1 x2 x3 x4 z2.2, c_A x1 c1 1024 m1, c_A x2 c2 256 m2]) [0, 1, 2] rfl
            have hDc := hD.sub (ws' := [c_X x0 x1 x2 x3 x4 z2.2, c_A x1 c1 1024 m1, c_A x2 c2 256 m2]) [0, 1, 2] (by decide) rfl
            have hKc := hK.sub (tys' := [(c1, .int), (c2, .int)]) [0, 1] rfl
            have hFc := va_free (wc := [c_X x0 x1 x2 x3 x4 z2.2, c_A x1 c1 1024 m1, c_A x2 c2 256 m2]) hD hS hA [0, 1, 2] rfl
            refine va_callv (va_runV (As := [.int z1.1, .int z3.1]) (rest := []) ⟨hx, hb, hml, hown, htB⟩ (c_X_write l dC dI z0 x0 x1 x2 x3 x4 c1 c2 H.size z1.1 z3.1 z2.2 m1 m2 (by rw [ez2]; exact xs_operand (by rw [ez1]; exact xs_address hxs))) (cwV 2 htB (gd_V mw_579 mw_581 sw_X_write mw_4 mw_582) rfl rfl rfl (by decide +kernel) ⟨Nat.le_of_ble_eq_true rfl, Nat.le_of_ble_eq_true rfl⟩) (pcx_V (va_recv hKc hPc (ci := 3) (q0 := 0) rfl rfl) hPc hKc hDc hA0 hE hS) rfl rfl hl.1 rfl (lv_room (Nat.le_of_ble_eq_true rfl)) d_X_changes_134 ⟨Nat.zero_le _, Nat.zero_le _⟩) hS (fun q _ h => hFc q h) hFc (fun u t H1 locs ht hvm hw hB hz1 hk1 hS => ?_)
            obtain ⟨hP1, hK1, hD1⟩ := hB
            rw [ht] at hP1
            obtain ⟨hP, hD⟩ := va_join (wr := [c_A x3 c3 9 z3.2]) (w1 := [c_X x0 x1 x2 x3 x4 ((f_X_write z1.1 z3.1 z2.2 m1 m2).1), c_A x1 c1 1024 ((f_X_write z1.1 z3.1 z2.2 m1 m2).2.1), c_A x2 c2 256 ((f_X_write z1.1 z3.1 z2.2 m1 m2).2.2)]) hP hD [0, 1, 2] [3] rfl rfl (by decide) (by decide) hk1 hFc hP1 hD1
            generalize H1 = H at hP hS ⊢
            have hP : va_P (dC, dI) classes [c_X x0 x1 x2 x3 x4 ((f_X_write z1.1 z3.1 z2.2 m1 m2).1), c_A x1 c1 1024 ((f_X_write z1.1 z3.1 z2.2 m1 m2).2.1), c_A x2 c2 256 ((f_X_write z1.1 z3.1 z2.2 m1 m2).2.2), c_A x3 c3 9 z3.2] H := hP.sub [1, 2, 3, 0] rfl
            have hD : va_D A [c_X x0 x1 x2 x3 x4 ((f_X_write z1.1 z3.1 z2.2 m1 m2).1), c_A x1 c1 1024 ((f_X_write z1.1 z3.1 z2.2 m1 m2).2.1), c_A x2 c2 256 ((f_X_write z1.1 z3.1 z2.2 m1 m2).2.2), c_A x3 c3 9 z3.2] := hD.sub [1, 2, 3, 0] (by decide) rfl
            obtain ⟨z4, ez4⟩ : ∃ z, z = (f_X_write z1.1 z3.1 z2.2 m1 m2) := ⟨_, rfl⟩
            rw [← ez4] at hP hD
            refine lv_aload_n hx hb d_X_changes_137 rfl (lv_at hl 3 rfl) ?_
            refine lv_iload hx hb d_X_changes_138 (lv_at hl 0 rfl) ?_
            have hPc := hP.sub (ws' := [c_X x0 x1 x2 x3 x4 z4.1, c_A x3 c3 9 z3.2]) [0, 3] rfl
            have hDc := hD.sub (ws' := [c_X x0 x1 x2 x3 x4 z4.1, c_A x3 c3 9 z3.2]) [0, 3] (by decide) rfl
            have hKc := hK.sub (tys' := [(c3, .int)]) [2] rfl
            have hFc := va_free (wc := [c_X x0 x1 x2 x3 x4 z4.1, c_A x3 c3 9 z3.2]) hD hS hA [0, 3] rfl
            refine va_callv (va_runV (As := [.int z3.1]) (rest := []) ⟨hx, hb, hml, hown, htB⟩ (c_X_set l dC dI z0 x0 x1 x2 x3 x4 c3 H.size z3.1 z4.1 z3.2) (cwV 1 htB (gd_V mw_591 mw_593 sw_X_set mw_4 mw_594) rfl rfl rfl (by decide +kernel) ⟨Nat.le_of_ble_eq_true rfl, Nat.le_of_ble_eq_true rfl⟩) (pcx_V (va_recv hKc hPc (ci := 3) (q0 := 0) rfl rfl) hPc hKc hDc hA0 hE hS) rfl rfl hl.1 rfl (lv_room (Nat.le_of_ble_eq_true rfl)) d_X_changes_140 ⟨Nat.zero_le _, Nat.zero_le _⟩) hS (fun q _ h => hFc q h) hFc (fun u t H1 locs ht hvm hw hB hz1 hk1 hS => ?_)
            obtain ⟨hP1, hK1, hD1⟩ := hB
            rw [ht] at hP1
            obtain ⟨hP, hD⟩ := va_join (wr := [c_A x1 c1 1024 z4.2.1, c_A x2 c2 256 z4.2.2]) (w1 := [c_X x0 x1 x2 x3 x4 z4.1, c_A x3 c3 9 (f_X_set z3.1 z4.1 z3.2)]) hP hD [0, 3] [1, 2] rfl rfl (by decide) (by decide) hk1 hFc hP1 hD1
            generalize H1 = H at hP hS ⊢
            have hP : va_P (dC, dI) classes [c_X x0 x1 x2 x3 x4 z4.1, c_A x1 c1 1024 z4.2.1, c_A x2 c2 256 z4.2.2, c_A x3 c3 9 (f_X_set z3.1 z4.1 z3.2)] H := hP.sub [2, 0, 1, 3] rfl
            have hD : va_D A [c_X x0 x1 x2 x3 x4 z4.1, c_A x1 c1 1024 z4.2.1, c_A x2 c2 256 z4.2.2, c_A x3 c3 9 (f_X_set z3.1 z4.1 z3.2)] := hD.sub [2, 0, 1, 3] (by decide) rfl
            obtain ⟨z5, ez5⟩ : ∃ z, z = (f_X_set z3.1 z4.1 z3.2) := ⟨_, rfl⟩
            rw [← ez5] at hP hD
            have hf : f_X_changes p1 p2 ku m1 m2 m3 = (z4.1, z4.2.1, z4.2.2, z5) := by rw [f_X_changes, if_neg c_1, if_neg c_2, if_neg c_3, if_neg c_4, if_pos c_5, ← ez1, f_X_changes_k1, ← ez2, f_X_changes_k2, ← ez3, f_X_changes_k3, ← ez4, f_X_changes_k4, ← ez5, f_X_changes_k5]
            exact W.vret hx hb hr (fun t ht hW => ⟨⟨(), rfl, trivial, by rw [hf]; exact ⟨by rw [ht]; exact hP, va_K.moved hW.alike hK, hD⟩⟩, hS.F ht⟩) hS.2.2 d_X_changes_143
        · refine lv_iconst (v := 2) hx hb d_X_changes_65 (by decide) ?_
          refine lv_goto (tgt := 80) hx hb d_X_changes_66 (by decide) ?_
          refine lv_istore_n (lv' := [(3, .int (2 : Int32)), (0, .ref x0), (1, .int p1), (2, .int p2)]) hx hb d_X_changes_80 rfl hl (by decide) rfl (fun ls hl => ?_)
          refine lv_iload_n hx hb d_X_changes_81 rfl (lv_at hl 0 rfl) ?_
          refine lv_if_ge (tgt := 91) hx hb d_X_changes_82 (by decide) (fun _ => ?_) (fun c9 => absurd (show (0 : Int32) ≤ (2 : Int32) from by decide) c9)
          refine lv_aload_n hx hb d_X_changes_91 rfl (lv_at hl 1 rfl) ?_
          refine lv_iload_n hx hb d_X_changes_92 rfl (lv_at hl 0 rfl) ?_
          have hPc := hP.sub (ws' := [c_X x0 x1 x2 x3 x4 ku, c_A x1 c1 1024 m1, c_A x3 c3 9 m3]) [0, 1, 3] rfl
          have hDc := hD.sub (ws' := [c_X x0 x1 x2 x3 x4 ku, c_A x1 c1 1024 m1, c_A x3 c3 9 m3]) [0, 1, 3] (by decide) rfl
          have hKc := hK.sub (tys' := [(c1, .int), (c3, .int)]) [0, 2] rfl
          have hFc := va_free (wc := [c_X x0 x1 x2 x3 x4 ku, c_A x1 c1 1024 m1, c_A x3 c3 9 m3]) hD hS hA [0, 1, 3] rfl
          refine va_calli (va_runV (As := [.int (2 : Int32)]) (rest := []) ⟨hx, hb, hml, hown, htB⟩ (c_X_address l dC dI z0 x0 x1 x2 x3 x4 c1 c3 H.size (2 : Int32) ku m1 m3) (cwV 1 htB (gd_V mw_563 mw_565 sw_X_address mw_4 mw_566) rfl rfl rfl (by decide +kernel) ⟨Nat.le_of_ble_eq_true rfl, Nat.le_of_ble_eq_true rfl⟩) (pcx_V (va_recv hKc hPc (ci := 3) (q0 := 0) rfl rfl) hPc hKc hDc hA0 hE hS) rfl rfl hl.1 rfl (lv_room (Nat.le_of_ble_eq_true rfl)) d_X_changes_93 ⟨Nat.zero_le _, Nat.zero_le _⟩) hS (fun q _ h => hFc q h) hFc (fun r9 u t H1 locs ht hvm hw hB hz1 hk1 hS => ?_)
          subst hw
          obtain ⟨hP1, hK1, hD1⟩ := hB
          rw [ht] at hP1
          obtain ⟨hP, hD⟩ := va_join (wr := [c_A x2 c2 256 m2]) (w1 := [c_X x0 x1 x2 x3 x4 ((f_X_address (2 : Int32) ku m1 m3).2.1), c_A x1 c1 1024 m1, c_A x3 c3 9 ((f_X_address (2 : Int32) ku m1 m3).2.2)]) hP hD [0, 1, 3] [2] rfl rfl (by decide) (by decide) hk1 hFc hP1 hD1
          generalize H1 = H at hP hS ⊢
          have hP : va_P (dC, dI) classes [c_X x0 x1 x2 x3 x4 ((f_X_address (2 : Int32) ku m1 m3).2.1), c_A x1 c1 1024 m1, c_A x2 c2 256 m2, c_A x3 c3 9 ((f_X_address (2 : Int32) ku m1 m3).2.2)] H := hP.sub [1, 2, 0, 3] rfl
          have hD : va_D A [c_X x0 x1 x2 x3 x4 ((f_X_address (2 : Int32) ku m1 m3).2.1), c_A x1 c1 1024 m1, c_A x2 c2 256 m2, c_A x3 c3 9 ((f_X_address (2 : Int32) ku m1 m3).2.2)] := hD.sub [1, 2, 0, 3] (by decide) rfl
          obtain ⟨z1, ez1⟩ : ∃ z, z = (f_X_address (2 : Int32) ku m1 m3) := ⟨_, rfl⟩
          rw [← ez1] at hP hD ⊢
          refine lv_istore (lv' := [(4, .int z1.1), (3, .int (2 : Int32)), (0, .ref x0), (1, .int p1), (2, .int p2)]) hx hb d_X_changes_96 hl (by decide) rfl (fun ls hl => ?_)
          refine lv_aload_n hx hb d_X_changes_98 rfl (lv_at hl 2 rfl) ?_
          refine lv_iload_n hx hb d_X_changes_99 rfl (lv_at hl 3 rfl) ?_
          refine lv_aload_n hx hb d_X_changes_100 rfl (lv_at hl 2 rfl) ?_
          refine lv_iload_n hx hb d_X_changes_101 rfl (lv_at hl 1 rfl) ?_
          refine lv_iload hx hb d_X_changes_102 (lv_at hl 0 rfl) ?_
          have hPc := hP.sub (ws' := [c_X x0 x1 x2 x3 x4 z1.2.1, c_A x1 c1 1024 m1, c_A x3 c3 9 z1.2.2]) [0, 1, 3] rfl
          have hDc := hD.sub (ws' := [c_X x0 x1 x2 x3 x4 z1.2.1, c_A x1 c1 1024 m1, c_A x3 c3 9 z1.2.2]) [0, 1, 3] (by decide) rfl
          have hKc := hK.sub (tys' := [(c1, .int), (c3, .int)]) [0, 2] rfl
          have hFc := va_free (wc := [c_X x0 x1 x2 x3 x4 z1.2.1, c_A x1 c1 1024 m1, c_A x3 c3 9 z1.2.2]) hD hS hA [0, 1, 3] rfl
          refine va_calli (va_runV (As := [.int (2 : Int32), .int z1.1]) (rest := [.int p1, .ref x0]) ⟨hx, hb, hml, hown, htB⟩ (c_X_operand l dC dI z0 x0 x1 x2 x3 x4 c1 c3 H.size (2 : Int32) z1.1 z1.2.1 m1 z1.2.2) (cwV 2 htB (gd_V mw_583 mw_585 sw_X_operand mw_4 mw_586) rfl rfl rfl (by decide +kernel) ⟨Nat.le_of_ble_eq_true rfl, Nat.le_of_ble_eq_true rfl⟩) (pcx_V (va_recv hKc hPc (ci := 3) (q0 := 0) rfl rfl) hPc hKc hDc hA0 hE hS) rfl rfl hl.1 rfl (lv_room (Nat.le_of_ble_eq_true rfl)) d_X_changes_104 ⟨Nat.zero_le _, Nat.zero_le _⟩) hS (fun q _ h => hFc q h) hFc (fun r9 u t H1 locs ht hvm hw hB hz1 hk1 hS => ?_)
          subst hw
          obtain ⟨hP1, hK1, hD1⟩ := hB
          rw [ht] at hP1
          obtain ⟨hP, hD⟩ := va_join (wr := [c_A x2 c2 256 m2]) (w1 := [c_X x0 x1 x2 x3 x4 ((f_X_operand (2 : Int32) z1.1 z1.2.1 m1 z1.2.2).2), c_A x1 c1 1024 m1, c_A x3 c3 9 z1.2.2]) hP hD [0, 1, 3] [2] rfl rfl (by decide) (by decide) hk1 hFc hP1 hD1
          generalize H1 = H at hP hS ⊢
          have hP : va_P (dC, dI) classes [c_X x0 x1 x2 x3 x4 ((f_X_operand (2 : Int32) z1.1 z1.2.1 m1 z1.2.2).2), c_A x1 c1 1024 m1, c_A x2 c2 256 m2, c_A x3 c3 9 z1.2.2] H := hP.sub [1, 2, 0, 3] rfl
          have hD : va_D A [c_X x0 x1 x2 x3 x4 ((f_X_operand (2 : Int32) z1.1 z1.2.1 m1 z1.2.2).2), c_A x1 c1 1024 m1, c_A x2 c2 256 m2, c_A x3 c3 9 z1.2.2] := hD.sub [1, 2, 0, 3] (by decide) rfl
          obtain ⟨z2, ez2⟩ : ∃ z, z = (f_X_operand (2 : Int32) z1.1 z1.2.1 m1 z1.2.2) := ⟨_, rfl⟩
          rw [← ez2] at hP hD ⊢
          have hPc := hP.sub (ws' := [c_X x0 x1 x2 x3 x4 z2.2, c_A x3 c3 9 z1.2.2]) [0, 3] rfl
          have hDc := hD.sub (ws' := [c_X x0 x1 x2 x3 x4 z2.2, c_A x3 c3 9 z1.2.2]) [0, 3] (by decide) rfl
          have hKc := hK.sub (tys' := [(c3, .int)]) [2] rfl
          have hFc := va_free (wc := [c_X x0 x1 x2 x3 x4 z2.2, c_A x3 c3 9 z1.2.2]) hD hS hA [0, 3] rfl
          refine va_calli (va_runV (As := [.int p1, .int z2.1]) (rest := []) ⟨hx, hb, hml, hown, htB⟩ (c_X_shifted l dC dI z0 x0 x1 x2 x3 x4 c3 H.size p1 z2.1 z2.2 z1.2.2) (cwV 2 htB (gd_V mw_611 mw_613 sw_X_shifted mw_4 mw_614) rfl rfl rfl (by decide +kernel) ⟨Nat.le_of_ble_eq_true rfl, Nat.le_of_ble_eq_true rfl⟩) (pcx_V (va_recv hKc hPc (ci := 3) (q0 := 0) rfl rfl) hPc hKc hDc hA0 hE hS) rfl rfl hl.1 rfl (lv_room (Nat.le_of_ble_eq_true rfl)) d_X_changes_107 ⟨Nat.zero_le _, Nat.zero_le _⟩) hS (fun q _ h => hFc q h) hFc (fun r9 u t H1 locs ht hvm hw hB hz1 hk1 hS => ?_)
          subst hw
          obtain ⟨hP1, hK1, hD1⟩ := hB
          rw [ht] at hP1
          obtain ⟨hP, hD⟩ := va_join (wr := [c_A x1 c1 1024 m1, c_A x2 c2 256 m2]) (w1 := [c_X x0 x1 x2 x3 x4 z2.2, c_A x3 c3 9 ((f_X_shifted p1 z2.1 z2.2 z1.2.2).2)]) hP hD [0, 3] [1, 2] rfl rfl (by decide) (by decide) hk1 hFc hP1 hD1
          generalize H1 = H at hP hS ⊢
          have hP : va_P (dC, dI) classes [c_X x0 x1 x2 x3 x4 z2.2, c_A x1 c1 1024 m1, c_A x2 c2 256 m2, c_A x3 c3 9 ((f_X_shifted p1 z2.1 z2.2 z1.2.2).2)] H := hP.sub [2, 0, 1, 3] rfl
          have hD : va_D A [c_X x0 x1 x2 x3 x4 z2.2, c_A x1 c1 1024 m1, c_A x2 c2 256 m2, c_A x3 c3 9 ((f_X_shifted p1 z2.1 z2.2 z1.2.2).2)] := hD.sub [2, 0, 1, 3] (by decide) rfl
          obtain ⟨z3, ez3⟩ : ∃ z, z = (f_X_shifted p1 z2.1 z2.2 z1.2.2) := ⟨_, rfl⟩
          rw [← ez3] at hP hD ⊢
          refine lv_istore (lv' := [(5, .int z3.1), (4, .int z1.1), (3, .int (2 : Int32)), (0, .ref x0), (1, .int p1), (2, .int p2)]) hx hb d_X_changes_110 hl (by decide) rfl (fun ls hl => ?_)
          refine lv_iload_n hx hb d_X_changes_112 rfl (lv_at hl 2 rfl) ?_
          refine lv_bipush (v := 9) hx hb d_X_changes_113 (by decide) ?_
          refine lv_icmp_ne (tgt := 129) hx hb d_X_changes_115 (by decide) (fun _ => ?_) (fun c9 => absurd c9 (by decide))
          refine lv_aload_n hx hb d_X_changes_129 rfl (lv_at hl 3 rfl) ?_
          refine lv_iload hx hb d_X_changes_130 (lv_at hl 1 rfl) ?_
          refine lv_iload hx hb d_X_changes_132 (lv_at hl 0 rfl) ?_
          have hPc := hP.sub (ws' := [c_X x0 x1 x2 x3 x4 z2.2, c_A x1 c1 1024 m1, c_A x2 c2 256 m2]) [0, 1, 2] rfl
          have hDc := hD.sub (ws' := [c_X x0 x1 x2 x3 x4 z2.2, c_A x1 c1 1024 m1, c_A x2 c2 256 m2]) [0, 1, 2] (by decide) rfl
          have hKc := hK.sub (tys' := [(c1, .int), (c2, .int)]) [0, 1] rfl
          have hFc := va_free (wc := [c_X x0 x1 x2 x3 x4 z2.2, c_A x1 c1 1024 m1, c_A x2 c2 256 m2]) hD hS hA [0, 1, 2] rfl
          refine va_callv (va_runV (As := [.int z1.1, .int z3.1]) (rest := []) ⟨hx, hb, hml, hown, htB⟩ (c_X_write l dC dI z0 x0 x1 x2 x3 x4 c1 c2 H.size z1.1 z3.1 z2.2 m1 m2 (by rw [ez2]; exact xs_operand (by rw [ez1]; exact xs_address hxs))) (cwV 2 htB (gd_V mw_579 mw_581 sw_X_write mw_4 mw_582) rfl rfl rfl (by decide +kernel) ⟨Nat.le_of_ble_eq_true rfl, Nat.le_of_ble_eq_true rfl⟩) (pcx_V (va_recv hKc hPc (ci := 3) (q0 := 0) rfl rfl) hPc hKc hDc hA0 hE hS) rfl rfl hl.1 rfl (lv_room (Nat.le_of_ble_eq_true rfl)) d_X_changes_134 ⟨Nat.zero_le _, Nat.zero_le _⟩) hS (fun q _ h => hFc q h) hFc (fun u t H1 locs ht hvm hw hB hz1 hk1 hS => ?_)
          obtain ⟨hP1, hK1, hD1⟩ := hB
          rw [ht] at hP1
          obtain ⟨hP, hD⟩ := va_join (wr := [c_A x3 c3 9 z3.2]) (w1 := [c_X x0 x1 x2 x3 x4 ((f_X_write z1.1 z3.1 z2.2 m1 m2).1), c_A x1 c1 1024 ((f_X_write z1.1 z3.1 z2.2 m1 m2).2.1), c_A x2 c2 256 ((f_X_write z1.1 z3.1 z2.2 m1 m2).2.2)]) hP hD [0, 1, 2] [3] rfl rfl (by decide) (by decide) hk1 hFc hP1 hD1
          generalize H1 = H at hP hS ⊢
          have hP : va_P (dC, dI) classes [c_X x0 x1 x2 x3 x4 ((f_X_write z1.1 z3.1 z2.2 m1 m2).1), c_A x1 c1 1024 ((f_X_write z1.1 z3.1 z2.2 m1 m2).2.1), c_A x2 c2 256 ((f_X_write z1.1 z3.1 z2.2 m1 m2).2.2), c_A x3 c3 9 z3.2] H := hP.sub [1, 2, 3, 0] rfl
          have hD : va_D A [c_X x0 x1 x2 x3 x4 ((f_X_write z1.1 z3.1 z2.2 m1 m2).1), c_A x1 c1 1024 ((f_X_write z1.1 z3.1 z2.2 m1 m2).2.1), c_A x2 c2 256 ((f_X_write z1.1 z3.1 z2.2 m1 m2).2.2), c_A x3 c3 9 z3.2] := hD.sub [1, 2, 3, 0] (by decide) rfl
          obtain ⟨z4, ez4⟩ : ∃ z, z = (f_X_write z1.1 z3.1 z2.2 m1 m2) := ⟨_, rfl⟩
          rw [← ez4] at hP hD
          refine lv_aload_n hx hb d_X_changes_137 rfl (lv_at hl 3 rfl) ?_
          refine lv_iload hx hb d_X_changes_138 (lv_at hl 0 rfl) ?_
          have hPc := hP.sub (ws' := [c_X x0 x1 x2 x3 x4 z4.1, c_A x3 c3 9 z3.2]) [0, 3] rfl
          have hDc := hD.sub (ws' := [c_X x0 x1 x2 x3 x4 z4.1, c_A x3 c3 9 z3.2]) [0, 3] (by decide) rfl
          have hKc := hK.sub (tys' := [(c3, .int)]) [2] rfl
          have hFc := va_free (wc := [c_X x0 x1 x2 x3 x4 z4.1, c_A x3 c3 9 z3.2]) hD hS hA [0, 3] rfl
          refine va_callv (va_runV (As := [.int z3.1]) (rest := []) ⟨hx, hb, hml, hown, htB⟩ (c_X_set l dC dI z0 x0 x1 x2 x3 x4 c3 H.size z3.1 z4.1 z3.2) (cwV 1 htB (gd_V mw_591 mw_593 sw_X_set mw_4 mw_594) rfl rfl rfl (by decide +kernel) ⟨Nat.le_of_ble_eq_true rfl, Nat.le_of_ble_eq_true rfl⟩) (pcx_V (va_recv hKc hPc (ci := 3) (q0 := 0) rfl rfl) hPc hKc hDc hA0 hE hS) rfl rfl hl.1 rfl (lv_room (Nat.le_of_ble_eq_true rfl)) d_X_changes_140 ⟨Nat.zero_le _, Nat.zero_le _⟩) hS (fun q _ h => hFc q h) hFc (fun u t H1 locs ht hvm hw hB hz1 hk1 hS => ?_)
          obtain ⟨hP1, hK1, hD1⟩ := hB
          rw [ht] at hP1
          obtain ⟨hP, hD⟩ := va_join (wr := [c_A x1 c1 1024 z4.2.1, c_A x2 c2 256 z4.2.2]) (w1 := [c_X x0 x1 x2 x3 x4 z4.1, c_A x3 c3 9 (f_X_set z3.1 z4.1 z3.2)]) hP hD [0, 3] [1, 2] rfl rfl (by decide) (by decide) hk1 hFc hP1 hD1
          generalize H1 = H at hP hS ⊢
          have hP : va_P (dC, dI) classes [c_X x0 x1 x2 x3 x4 z4.1, c_A x1 c1 1024 z4.2.1, c_A x2 c2 256 z4.2.2, c_A x3 c3 9 (f_X_set z3.1 z4.1 z3.2)] H := hP.sub [2, 0, 1, 3] rfl
          have hD : va_D A [c_X x0 x1 x2 x3 x4 z4.1, c_A x1 c1 1024 z4.2.1, c_A x2 c2 256 z4.2.2, c_A x3 c3 9 (f_X_set z3.1 z4.1 z3.2)] := hD.sub [2, 0, 1, 3] (by decide) rfl
          obtain ⟨z5, ez5⟩ : ∃ z, z = (f_X_set z3.1 z4.1 z3.2) := ⟨_, rfl⟩
          rw [← ez5] at hP hD
          have hf : f_X_changes p1 p2 ku m1 m2 m3 = (z4.1, z4.2.1, z4.2.2, z5) := by rw [f_X_changes, if_neg c_1, if_neg c_2, if_neg c_3, if_pos c_4, ← ez1, f_X_changes_k6, ← ez2, f_X_changes_k7, ← ez3, f_X_changes_k8, ← ez4, f_X_changes_k9, ← ez5, f_X_changes_k10]
          exact W.vret hx hb hr (fun t ht hW => ⟨⟨(), rfl, trivial, by rw [hf]; exact ⟨by rw [ht]; exact hP, va_K.moved hW.alike hK, hD⟩⟩, hS.F ht⟩) hS.2.2 d_X_changes_143
      · refine lv_iconst (v := 4) hx hb d_X_changes_56 (by decide) ?_
        refine lv_goto (tgt := 80) hx hb d_X_changes_57 (by decide) ?_
        refine lv_istore_n (lv' := [(3, .int (4 : Int32)), (0, .ref x0), (1, .int p1), (2, .int p2)]) hx hb d_X_changes_80 rfl hl (by decide) rfl (fun ls hl => ?_)
        refine lv_iload_n hx hb d_X_changes_81 rfl (lv_at hl 0 rfl) ?_
        refine lv_if_ge (tgt := 91) hx hb d_X_changes_82 (by decide) (fun _ => ?_) (fun c9 => absurd (show (0 : Int32) ≤ (4 : Int32) from by decide) c9)
        refine lv_aload_n hx hb d_X_changes_91 rfl (lv_at hl 1 rfl) ?_
        refine lv_iload_n hx hb d_X_changes_92 rfl (lv_at hl 0 rfl) ?_
        have hPc := hP.sub (ws' := [c_X x0 x1 x2 x3 x4 ku, c_A x1 c1 1024 m1, c_A x3 c3 9 m3]) [0, 1, 3] rfl
        have hDc := hD.sub (ws' := [c_X x0 x1 x2 x3 x4 ku, c_A x1 c1 1024 m1, c_A x3 c3 9 m3]) [0, 1, 3] (by decide) rfl
        have hKc := hK.sub (tys' := [(c1, .int), (c3, .int)]) [0, 2] rfl
        have hFc := va_free (wc := [c_X x0 x1 x2 x3 x4 ku, c_A x1 c1 1024 m1, c_A x3 c3 9 m3]) hD hS hA [0, 1, 3] rfl
        refine va_calli (va_runV (As := [.int (4 : Int32)]) (rest := []) ⟨hx, hb, hml, hown, htB⟩ (c_X_address l dC dI z0 x0 x1 x2 x3 x4 c1 c3 H.size (4 : Int32) ku m1 m3) (cwV 1 htB (gd_V mw_563 mw_565 sw_X_address mw_4 mw_566) rfl rfl rfl (by decide +kernel) ⟨Nat.le_of_ble_eq_true rfl, Nat.le_of_ble_eq_true rfl⟩) (pcx_V (va_recv hKc hPc (ci := 3) (q0 := 0) rfl rfl) hPc hKc hDc hA0 hE hS) rfl rfl hl.1 rfl (lv_room (Nat.le_of_ble_eq_true rfl)) d_X_changes_93 ⟨Nat.zero_le _, Nat.zero_le _⟩) hS (fun q _ h => hFc q h) hFc (fun r9 u t H1 locs ht hvm hw hB hz1 hk1 hS => ?_)
        subst hw
        obtain ⟨hP1, hK1, hD1⟩ := hB
        rw [ht] at hP1
        obtain ⟨hP, hD⟩ := va_join (wr := [c_A x2 c2 256 m2]) (w1 := [c_X x0 x1 x2 x3 x4 ((f_X_address (4 : Int32) ku m1 m3).2.1), c_A x1 c1 1024 m1, c_A x3 c3 9 ((f_X_address (4 : Int32) ku m1 m3).2.2)]) hP hD [0, 1, 3] [2] rfl rfl (by decide) (by decide) hk1 hFc hP1 hD1
        generalize H1 = H at hP hS ⊢
        have hP : va_P (dC, dI) classes [c_X x0 x1 x2 x3 x4 ((f_X_address (4 : Int32) ku m1 m3).2.1), c_A x1 c1 1024 m1, c_A x2 c2 256 m2, c_A x3 c3 9 ((f_X_address (4 : Int32) ku m1 m3).2.2)] H := hP.sub [1, 2, 0, 3] rfl
        have hD : va_D A [c_X x0 x1 x2 x3 x4 ((f_X_address (4 : Int32) ku m1 m3).2.1), c_A x1 c1 1024 m1, c_A x2 c2 256 m2, c_A x3 c3 9 ((f_X_address (4 : Int32) ku m1 m3).2.2)] := hD.sub [1, 2, 0, 3] (by decide) rfl
        obtain ⟨z1, ez1⟩ : ∃ z, z = (f_X_address (4 : Int32) ku m1 m3) := ⟨_, rfl⟩
        rw [← ez1] at hP hD ⊢
        refine lv_istore (lv' := [(4, .int z1.1), (3, .int (4 : Int32)), (0, .ref x0), (1, .int p1), (2, .int p2)]) hx hb d_X_changes_96 hl (by decide) rfl (fun ls hl => ?_)
        refine lv_aload_n hx hb d_X_changes_98 rfl (lv_at hl 2 rfl) ?_
        refine lv_iload_n hx hb d_X_changes_99 rfl (lv_at hl 3 rfl) ?_
        refine lv_aload_n hx hb d_X_changes_100 rfl (lv_at hl 2 rfl) ?_
        refine lv_iload_n hx hb d_X_changes_101 rfl (lv_at hl 1 rfl) ?_
        refine lv_iload hx hb d_X_changes_102 (lv_at hl 0 rfl) ?_
        have hPc := hP.sub (ws' := [c_X x0 x1 x2 x3 x4 z1.2.1, c_A x1 c1 1024 m1, c_A x3 c3 9 z1.2.2]) [0, 1, 3] rfl
        have hDc := hD.sub (ws' := [c_X x0 x1 x2 x3 x4 z1.2.1, c_A x1 c1 1024 m1, c_A x3 c3 9 z1.2.2]) [0, 1, 3] (by decide) rfl
        have hKc := hK.sub (tys' := [(c1, .int), (c3, .int)]) [0, 2] rfl
        have hFc := va_free (wc := [c_X x0 x1 x2 x3 x4 z1.2.1, c_A x1 c1 1024 m1, c_A x3 c3 9 z1.2.2]) hD hS hA [0, 1, 3] rfl
        refine va_calli (va_runV (As := [.int (4 : Int32), .int z1.1]) (rest := [.int p1, .ref x0]) ⟨hx, hb, hml, hown, htB⟩ (c_X_operand l dC dI z0 x0 x1 x2 x3 x4 c1 c3 H.size (4 : Int32) z1.1 z1.2.1 m1 z1.2.2) (cwV 2 htB (gd_V mw_583 mw_585 sw_X_operand mw_4 mw_586) rfl rfl rfl (by decide +kernel) ⟨Nat.le_of_ble_eq_true rfl, Nat.le_of_ble_eq_true rfl⟩) (pcx_V (va_recv hKc hPc (ci := 3) (q0 := 0) rfl rfl) hPc hKc hDc hA0 hE hS) rfl rfl hl.1 rfl (lv_room (Nat.le_of_ble_eq_true rfl)) d_X_changes_104 ⟨Nat.zero_le _, Nat.zero_le _⟩) hS (fun q _ h => hFc q h) hFc (fun r9 u t H1 locs ht hvm hw hB hz1 hk1 hS => ?_)
        subst hw
        obtain ⟨hP1, hK1, hD1⟩ := hB
        rw [ht] at hP1
        obtain ⟨hP, hD⟩ := va_join (wr := [c_A x2 c2 256 m2]) (w1 := [c_X x0 x1 x2 x3 x4 ((f_X_operand (4 : Int32) z1.1 z1.2.1 m1 z1.2.2).2), c_A x1 c1 1024 m1, c_A x3 c3 9 z1.2.2]) hP hD [0, 1, 3] [2] rfl rfl (by decide) (by decide) hk1 hFc hP1 hD1
        generalize H1 = H at hP hS ⊢
        have hP : va_P (dC, dI) classes [c_X x0 x1 x2 x3 x4 ((f_X_operand (4 : Int32) z1.1 z1.2.1 m1 z1.2.2).2), c_A x1 c1 1024 m1, c_A x2 c2 256 m2, c_A x3 c3 9 z1.2.2] H := hP.sub [1, 2, 0, 3] rfl
        have hD : va_D A [c_X x0 x1 x2 x3 x4 ((f_X_operand (4 : Int32) z1.1 z1.2.1 m1 z1.2.2).2), c_A x1 c1 1024 m1, c_A x2 c2 256 m2, c_A x3 c3 9 z1.2.2] := hD.sub [1, 2, 0, 3] (by decide) rfl
        obtain ⟨z2, ez2⟩ : ∃ z, z = (f_X_operand (4 : Int32) z1.1 z1.2.1 m1 z1.2.2) := ⟨_, rfl⟩
        rw [← ez2] at hP hD ⊢
        have hPc := hP.sub (ws' := [c_X x0 x1 x2 x3 x4 z2.2, c_A x3 c3 9 z1.2.2]) [0, 3] rfl
        have hDc := hD.sub (ws' := [c_X x0 x1 x2 x3 x4 z2.2, c_A x3 c3 9 z1.2.2]) [0, 3] (by decide) rfl
        have hKc := hK.sub (tys' := [(c3, .int)]) [2] rfl
        have hFc := va_free (wc := [c_X x0 x1 x2 x3 x4 z2.2, c_A x3 c3 9 z1.2.2]) hD hS hA [0, 3] rfl
        refine va_calli (va_runV (As := [.int p1, .int z2.1]) (rest := []) ⟨hx, hb, hml, hown, htB⟩ (c_X_shifted l dC dI z0 x0 x1 x2 x3 x4 c3 H.size p1 z2.1 z2.2 z1.2.2) (cwV 2 htB (gd_V mw_611 mw_613 sw_X_shifted mw_4 mw_614) rfl rfl rfl (by decide +kernel) ⟨Nat.le_of_ble_eq_true rfl, Nat.le_of_ble_eq_true rfl⟩) (pcx_V (va_recv hKc hPc (ci := 3) (q0 := 0) rfl rfl) hPc hKc hDc hA0 hE hS) rfl rfl hl.1 rfl (lv_room (Nat.le_of_ble_eq_true rfl)) d_X_changes_107 ⟨Nat.zero_le _, Nat.zero_le _⟩) hS (fun q _ h => hFc q h) hFc (fun r9 u t H1 locs ht hvm hw hB hz1 hk1 hS => ?_)
        subst hw
        obtain ⟨hP1, hK1, hD1⟩ := hB
        rw [ht] at hP1
        obtain ⟨hP, hD⟩ := va_join (wr := [c_A x1 c1 1024 m1, c_A x2 c2 256 m2]) (w1 := [c_X x0 x1 x2 x3 x4 z2.2, c_A x3 c3 9 ((f_X_shifted p1 z2.1 z2.2 z1.2.2).2)]) hP hD [0, 3] [1, 2] rfl rfl (by decide) (by decide) hk1 hFc hP1 hD1
        generalize H1 = H at hP hS ⊢
        have hP : va_P (dC, dI) classes [c_X x0 x1 x2 x3 x4 z2.2, c_A x1 c1 1024 m1, c_A x2 c2 256 m2, c_A x3 c3 9 ((f_X_shifted p1 z2.1 z2.2 z1.2.2).2)] H := hP.sub [2, 0, 1, 3] rfl
        have hD : va_D A [c_X x0 x1 x2 x3 x4 z2.2, c_A x1 c1 1024 m1, c_A x2 c2 256 m2, c_A x3 c3 9 ((f_X_shifted p1 z2.1 z2.2 z1.2.2).2)] := hD.sub [2, 0, 1, 3] (by decide) rfl
        obtain ⟨z3, ez3⟩ : ∃ z, z = (f_X_shifted p1 z2.1 z2.2 z1.2.2) := ⟨_, rfl⟩
        rw [← ez3] at hP hD ⊢
        refine lv_istore (lv' := [(5, .int z3.1), (4, .int z1.1), (3, .int (4 : Int32)), (0, .ref x0), (1, .int p1), (2, .int p2)]) hx hb d_X_changes_110 hl (by decide) rfl (fun ls hl => ?_)
        refine lv_iload_n hx hb d_X_changes_112 rfl (lv_at hl 2 rfl) ?_
        refine lv_bipush (v := 9) hx hb d_X_changes_113 (by decide) ?_
        refine lv_icmp_ne (tgt := 129) hx hb d_X_changes_115 (by decide) (fun _ => ?_) (fun c9 => absurd c9 (by decide))
        refine lv_aload_n hx hb d_X_changes_129 rfl (lv_at hl 3 rfl) ?_
        refine lv_iload hx hb d_X_changes_130 (lv_at hl 1 rfl) ?_
        refine lv_iload hx hb d_X_changes_132 (lv_at hl 0 rfl) ?_
        have hPc := hP.sub (ws' := [c_X x0 x1 x2 x3 x4 z2.2, c_A x1 c1 1024 m1, c_A x2 c2 256 m2]) [0, 1, 2] rfl
        have hDc := hD.sub (ws' := [c_X x0 x1 x2 x3 x4 z2.2, c_A x1 c1 1024 m1, c_A x2 c2 256 m2]) [0, 1, 2] (by decide) rfl
        have hKc := hK.sub (tys' := [(c1, .int), (c2, .int)]) [0, 1] rfl
        have hFc := va_free (wc := [c_X x0 x1 x2 x3 x4 z2.2, c_A x1 c1 1024 m1, c_A x2 c2 256 m2]) hD hS hA [0, 1, 2] rfl
        refine va_callv (va_runV (As := [.int z1.1, .int z3.1]) (rest := []) ⟨hx, hb, hml, hown, htB⟩ (c_X_write l dC dI z0 x0 x1 x2 x3 x4 c1 c2 H.size z1.1 z3.1 z2.2 m1 m2 (by rw [ez2]; exact xs_operand (by rw [ez1]; exact xs_address hxs))) (cwV 2 htB (gd_V mw_579 mw_581 sw_X_write mw_4 mw_582) rfl rfl rfl (by decide +kernel) ⟨Nat.le_of_ble_eq_true rfl, Nat.le_of_ble_eq_true rfl⟩) (pcx_V (va_recv hKc hPc (ci := 3) (q0 := 0) rfl rfl) hPc hKc hDc hA0 hE hS) rfl rfl hl.1 rfl (lv_room (Nat.le_of_ble_eq_true rfl)) d_X_changes_134 ⟨Nat.zero_le _, Nat.zero_le _⟩) hS (fun q _ h => hFc q h) hFc (fun u t H1 locs ht hvm hw hB hz1 hk1 hS => ?_)
        obtain ⟨hP1, hK1, hD1⟩ := hB
        rw [ht] at hP1
        obtain ⟨hP, hD⟩ := va_join (wr := [c_A x3 c3 9 z3.2]) (w1 := [c_X x0 x1 x2 x3 x4 ((f_X_write z1.1 z3.1 z2.2 m1 m2).1), c_A x1 c1 1024 ((f_X_write z1.1 z3.1 z2.2 m1 m2).2.1), c_A x2 c2 256 ((f_X_write z1.1 z3.1 z2.2 m1 m2).2.2)]) hP hD [0, 1, 2] [3] rfl rfl (by decide) (by decide) hk1 hFc hP1 hD1
        generalize H1 = H at hP hS ⊢
        have hP : va_P (dC, dI) classes [c_X x0 x1 x2 x3 x4 ((f_X_write z1.1 z3.1 z2.2 m1 m2).1), c_A x1 c1 1024 ((f_X_write z1.1 z3.1 z2.2 m1 m2).2.1), c_A x2 c2 256 ((f_X_write z1.1 z3.1 z2.2 m1 m2).2.2), c_A x3 c3 9 z3.2] H := hP.sub [1, 2, 3, 0] rfl
        have hD : va_D A [c_X x0 x1 x2 x3 x4 ((f_X_write z1.1 z3.1 z2.2 m1 m2).1), c_A x1 c1 1024 ((f_X_write z1.1 z3.1 z2.2 m1 m2).2.1), c_A x2 c2 256 ((f_X_write z1.1 z3.1 z2.2 m1 m2).2.2), c_A x3 c3 9 z3.2] := hD.sub [1, 2, 3, 0] (by decide) rfl
        obtain ⟨z4, ez4⟩ : ∃ z, z = (f_X_write z1.1 z3.1 z2.2 m1 m2) := ⟨_, rfl⟩
        rw [← ez4] at hP hD
        refine lv_aload_n hx hb d_X_changes_137 rfl (lv_at hl 3 rfl) ?_
        refine lv_iload hx hb d_X_changes_138 (lv_at hl 0 rfl) ?_
        have hPc := hP.sub (ws' := [c_X x0 x1 x2 x3 x4 z4.1, c_A x3 c3 9 z3.2]) [0, 3] rfl
        have hDc := hD.sub (ws' := [c_X x0 x1 x2 x3 x4 z4.1, c_A x3 c3 9 z3.2]) [0, 3] (by decide) rfl
        have hKc := hK.sub (tys' := [(c3, .int)]) [2] rfl
        have hFc := va_free (wc := [c_X x0 x1 x2 x3 x4 z4.1, c_A x3 c3 9 z3.2]) hD hS hA [0, 3] rfl
        refine va_callv (va_runV (As := [.int z3.1]) (rest := []) ⟨hx, hb, hml, hown, htB⟩ (c_X_set l dC dI z0 x0 x1 x2 x3 x4 c3 H.size z3.1 z4.1 z3.2) (cwV 1 htB (gd_V mw_591 mw_593 sw_X_set mw_4 mw_594) rfl rfl rfl (by decide +kernel) ⟨Nat.le_of_ble_eq_true rfl, Nat.le_of_ble_eq_true rfl⟩) (pcx_V (va_recv hKc hPc (ci := 3) (q0 := 0) rfl rfl) hPc hKc hDc hA0 hE hS) rfl rfl hl.1 rfl (lv_room (Nat.le_of_ble_eq_true rfl)) d_X_changes_140 ⟨Nat.zero_le _, Nat.zero_le _⟩) hS (fun q _ h => hFc q h) hFc (fun u t H1 locs ht hvm hw hB hz1 hk1 hS => ?_)
        obtain ⟨hP1, hK1, hD1⟩ := hB
        rw [ht] at hP1
        obtain ⟨hP, hD⟩ := va_join (wr := [c_A x1 c1 1024 z4.2.1, c_A x2 c2 256 z4.2.2]) (w1 := [c_X x0 x1 x2 x3 x4 z4.1, c_A x3 c3 9 (f_X_set z3.1 z4.1 z3.2)]) hP hD [0, 3] [1, 2] rfl rfl (by decide) (by decide) hk1 hFc hP1 hD1
        generalize H1 = H at hP hS ⊢
        have hP : va_P (dC, dI) classes [c_X x0 x1 x2 x3 x4 z4.1, c_A x1 c1 1024 z4.2.1, c_A x2 c2 256 z4.2.2, c_A x3 c3 9 (f_X_set z3.1 z4.1 z3.2)] H := hP.sub [2, 0, 1, 3] rfl
        have hD : va_D A [c_X x0 x1 x2 x3 x4 z4.1, c_A x1 c1 1024 z4.2.1, c_A x2 c2 256 z4.2.2, c_A x3 c3 9 (f_X_set z3.1 z4.1 z3.2)] := hD.sub [2, 0, 1, 3] (by decide) rfl
        obtain ⟨z5, ez5⟩ : ∃ z, z = (f_X_set z3.1 z4.1 z3.2) := ⟨_, rfl⟩
        rw [← ez5] at hP hD
        have hf : f_X_changes p1 p2 ku m1 m2 m3 = (z4.1, z4.2.1, z4.2.2, z5) := by rw [f_X_changes, if_neg c_1, if_neg c_2, if_pos c_3, ← ez1, f_X_changes_k11, ← ez2, f_X_changes_k12, ← ez3, f_X_changes_k13, ← ez4, f_X_changes_k14, ← ez5, f_X_changes_k15]
        exact W.vret hx hb hr (fun t ht hW => ⟨⟨(), rfl, trivial, by rw [hf]; exact ⟨by rw [ht]; exact hP, va_K.moved hW.alike hK, hD⟩⟩, hS.F ht⟩) hS.2.2 d_X_changes_143
    · refine lv_iconst (v := 1) hx hb d_X_changes_37 (by decide) ?_
      refine lv_goto (tgt := 80) hx hb d_X_changes_38 (by decide) ?_
      refine lv_istore_n (lv' := [(3, .int (1 : Int32)), (0, .ref x0), (1, .int p1), (2, .int p2)]) hx hb d_X_changes_80 rfl hl (by decide) rfl (fun ls hl => ?_)
      refine lv_iload_n hx hb d_X_changes_81 rfl (lv_at hl 0 rfl) ?_
      refine lv_if_ge (tgt := 91) hx hb d_X_changes_82 (by decide) (fun _ => ?_) (fun c9 => absurd (show (0 : Int32) ≤ (1 : Int32) from by decide) c9)
      refine lv_aload_n hx hb d_X_changes_91 rfl (lv_at hl 1 rfl) ?_
      refine lv_iload_n hx hb d_X_changes_92 rfl (lv_at hl 0 rfl) ?_
      have hPc := hP.sub (ws' := [c_X x0 x1 x2 x3 x4 ku, c_A x1 c1 1024 m1, c_A x3 c3 9 m3]) [0, 1, 3] rfl
      have hDc := hD.sub (ws' := [c_X x0 x1 x2 x3 x4 ku, c_A x1 c1 1024 m1, c_A x3 c3 9 m3]) [0, 1, 3] (by decide) rfl
      have hKc := hK.sub (tys' := [(c1, .int), (c3, .int)]) [0, 2] rfl
      have hFc := va_free (wc := [c_X x0 x1 x2 x3 x4 ku, c_A x1 c1 1024 m1, c_A x3 c3 9 m3]) hD hS hA [0, 1, 3] rfl
      refine va_calli (va_runV (As := [.int (1 : Int32)]) (rest := []) ⟨hx, hb, hml, hown, htB⟩ (c_X_address l dC dI z0 x0 x1 x2 x3 x4 c1 c3 H.size (1 : Int32) ku m1 m3) (cwV 1 htB (gd_V mw_563 mw_565 sw_X_address mw_4 mw_566) rfl rfl rfl (by decide +kernel) ⟨Nat.le_of_ble_eq_true rfl, Nat.le_of_ble_eq_true rfl⟩) (pcx_V (va_recv hKc hPc (ci := 3) (q0 := 0) rfl rfl) hPc hKc hDc hA0 hE hS) rfl rfl hl.1 rfl (lv_room (Nat.le_of_ble_eq_true rfl)) d_X_changes_93 ⟨Nat.zero_le _, Nat.zero_le _⟩) hS (fun q _ h => hFc q h) hFc (fun r9 u t H1 locs ht hvm hw hB hz1 hk1 hS => ?_)
      subst hw
      obtain ⟨hP1, hK1, hD1⟩ := hB
      rw [ht] at hP1
      obtain ⟨hP, hD⟩ := va_join (wr := [c_A x2 c2 256 m2]) (w1 := [c_X x0 x1 x2 x3 x4 ((f_X_address (1 : Int32) ku m1 m3).2.1), c_A x1 c1 1024 m1, c_A x3 c3 9 ((f_X_address (1 : Int32) ku m1 m3).2.2)]) hP hD [0, 1, 3] [2] rfl rfl (by decide) (by decide) hk1 hFc hP1 hD1
      generalize H1 = H at hP hS ⊢
      have hP : va_P (dC, dI) classes [c_X x0 x1 x2 x3 x4 ((f_X_address (1 : Int32) ku m1 m3).2.1), c_A x1 c1 1024 m1, c_A x2 c2 256 m2, c_A x3 c3 9 ((f_X_address (1 : Int32) ku m1 m3).2.2)] H := hP.sub [1, 2, 0, 3] rfl
      have hD : va_D A [c_X x0 x1 x2 x3 x4 ((f_X_address (1 : Int32) ku m1 m3).2.1), c_A x1 c1 1024 m1, c_A x2 c2 256 m2, c_A x3 c3 9 ((f_X_address (1 : Int32) ku m1 m3).2.2)] := hD.sub [1, 2, 0, 3] (by decide) rfl
      obtain ⟨z1, ez1⟩ : ∃ z, z = (f_X_address (1 : Int32) ku m1 m3) := ⟨_, rfl⟩
      rw [← ez1] at hP hD ⊢
      refine lv_istore (lv' := [(4, .int z1.1), (3, .int (1 : Int32)), (0, .ref x0), (1, .int p1), (2, .int p2)]) hx hb d_X_changes_96 hl (by decide) rfl (fun ls hl => ?_)
      refine lv_aload_n hx hb d_X_changes_98 rfl (lv_at hl 2 rfl) ?_
      refine lv_iload_n hx hb d_X_changes_99 rfl (lv_at hl 3 rfl) ?_
      refine lv_aload_n hx hb d_X_changes_100 rfl (lv_at hl 2 rfl) ?_
      refine lv_iload_n hx hb d_X_changes_101 rfl (lv_at hl 1 rfl) ?_
      refine lv_iload hx hb d_X_changes_102 (lv_at hl 0 rfl) ?_
      have hPc := hP.sub (ws' := [c_X x0 x1 x2 x3 x4 z1.2.1, c_A x1 c1 1024 m1, c_A x3 c3 9 z1.2.2]) [0, 1, 3] rfl
      have hDc := hD.sub (ws' := [c_X x0 x1 x2 x3 x4 z1.2.1, c_A x1 c1 1024 m1, c_A x3 c3 9 z1.2.2]) [0, 1, 3] (by decide) rfl
      have hKc := hK.sub (tys' := [(c1, .int), (c3, .int)]) [0, 2] rfl
      have hFc := va_free (wc := [c_X x0 x1 x2 x3 x4 z1.2.1, c_A x1 c1 1024 m1, c_A x3 c3 9 z1.2.2]) hD hS hA [0, 1, 3] rfl
      refine va_calli (va_runV (As := [.int (1 : Int32), .int z1.1]) (rest := [.int p1, .ref x0]) ⟨hx, hb, hml, hown, htB⟩ (c_X_operand l dC dI z0 x0 x1 x2 x3 x4 c1 c3 H.size (1 : Int32) z1.1 z1.2.1 m1 z1.2.2) (cwV 2 htB (gd_V mw_583 mw_585 sw_X_operand mw_4 mw_586) rfl rfl rfl (by decide +kernel) ⟨Nat.le_of_ble_eq_true rfl, Nat.le_of_ble_eq_true rfl⟩) (pcx_V (va_recv hKc hPc (ci := 3) (q0 := 0) rfl rfl) hPc hKc hDc hA0 hE hS) rfl rfl hl.1 rfl (lv_room (Nat.le_of_ble_eq_true rfl)) d_X_changes_104 ⟨Nat.zero_le _, Nat.zero_le _⟩) hS (fun q _ h => hFc q h) hFc (fun r9 u t H1 locs ht hvm hw hB hz1 hk1 hS => ?_)
      subst hw
      obtain ⟨hP1, hK1, hD1⟩ := hB
      rw [ht] at hP1
      obtain ⟨hP, hD⟩ := va_join (wr := [c_A x2 c2 256 m2]) (w1 := [c_X x0 x1 x2 x3 x4 ((f_X_operand (1 : Int32) z1.1 z1.2.1 m1 z1.2.2).2), c_A x1 c1 1024 m1, c_A x3 c3 9 z1.2.2]) hP hD [0, 1, 3] [2] rfl rfl (by decide) (by decide) hk1 hFc hP1 hD1
      generalize H1 = H at hP hS ⊢
      have hP : va_P (dC, dI) classes [c_X x0 x1 x2 x3 x4 ((f_X_operand (1 : Int32) z1.1 z1.2.1 m1 z1.2.2).2), c_A x1 c1 1024 m1, c_A x2 c2 256 m2, c_A x3 c3 9 z1.2.2] H := hP.sub [1, 2, 0, 3] rfl
      have hD : va_D A [c_X x0 x1 x2 x3 x4 ((f_X_operand (1 : Int32) z1.1 z1.2.1 m1 z1.2.2).2), c_A x1 c1 1024 m1, c_A x2 c2 256 m2, c_A x3 c3 9 z1.2.2] := hD.sub [1, 2, 0, 3] (by decide) rfl
      obtain ⟨z2, ez2⟩ : ∃ z, z = (f_X_operand (1 : Int32) z1.1 z1.2.1 m1 z1.2.2) := ⟨_, rfl⟩
      rw [← ez2] at hP hD ⊢
      have hPc := hP.sub (ws' := [c_X x0 x1 x2 x3 x4 z2.2, c_A x3 c3 9 z1.2.2]) [0, 3] rfl
      have hDc := hD.sub (ws' := [c_X x0 x1 x2 x3 x4 z2.2, c_A x3 c3 9 z1.2.2]) [0, 3] (by decide) rfl
      have hKc := hK.sub (tys' := [(c3, .int)]) [2] rfl
      have hFc := va_free (wc := [c_X x0 x1 x2 x3 x4 z2.2, c_A x3 c3 9 z1.2.2]) hD hS hA [0, 3] rfl
      refine va_calli (va_runV (As := [.int p1, .int z2.1]) (rest := []) ⟨hx, hb, hml, hown, htB⟩ (c_X_shifted l dC dI z0 x0 x1 x2 x3 x4 c3 H.size p1 z2.1 z2.2 z1.2.2) (cwV 2 htB (gd_V mw_611 mw_613 sw_X_shifted mw_4 mw_614) rfl rfl rfl (by decide +kernel) ⟨Nat.le_of_ble_eq_true rfl, Nat.le_of_ble_eq_true rfl⟩) (pcx_V (va_recv hKc hPc (ci := 3) (q0 := 0) rfl rfl) hPc hKc hDc hA0 hE hS) rfl rfl hl.1 rfl (lv_room (Nat.le_of_ble_eq_true rfl)) d_X_changes_107 ⟨Nat.zero_le _, Nat.zero_le _⟩) hS (fun q _ h => hFc q h) hFc (fun r9 u t H1 locs ht hvm hw hB hz1 hk1 hS => ?_)
      subst hw
      obtain ⟨hP1, hK1, hD1⟩ := hB
      rw [ht] at hP1
      obtain ⟨hP, hD⟩ := va_join (wr := [c_A x1 c1 1024 m1, c_A x2 c2 256 m2]) (w1 := [c_X x0 x1 x2 x3 x4 z2.2, c_A x3 c3 9 ((f_X_shifted p1 z2.1 z2.2 z1.2.2).2)]) hP hD [0, 3] [1, 2] rfl rfl (by decide) (by decide) hk1 hFc hP1 hD1
      generalize H1 = H at hP hS ⊢
      have hP : va_P (dC, dI) classes [c_X x0 x1 x2 x3 x4 z2.2, c_A x1 c1 1024 m1, c_A x2 c2 256 m2, c_A x3 c3 9 ((f_X_shifted p1 z2.1 z2.2 z1.2.2).2)] H := hP.sub [2, 0, 1, 3] rfl
      have hD : va_D A [c_X x0 x1 x2 x3 x4 z2.2, c_A x1 c1 1024 m1, c_A x2 c2 256 m2, c_A x3 c3 9 ((f_X_shifted p1 z2.1 z2.2 z1.2.2).2)] := hD.sub [2, 0, 1, 3] (by decide) rfl
      obtain ⟨z3, ez3⟩ : ∃ z, z = (f_X_shifted p1 z2.1 z2.2 z1.2.2) := ⟨_, rfl⟩
      rw [← ez3] at hP hD ⊢
      refine lv_istore (lv' := [(5, .int z3.1), (4, .int z1.1), (3, .int (1 : Int32)), (0, .ref x0), (1, .int p1), (2, .int p2)]) hx hb d_X_changes_110 hl (by decide) rfl (fun ls hl => ?_)
      refine lv_iload_n hx hb d_X_changes_112 rfl (lv_at hl 2 rfl) ?_
      refine lv_bipush (v := 9) hx hb d_X_changes_113 (by decide) ?_
      refine lv_icmp_ne (tgt := 129) hx hb d_X_changes_115 (by decide) (fun _ => ?_) (fun c9 => absurd c9 (by decide))
      refine lv_aload_n hx hb d_X_changes_129 rfl (lv_at hl 3 rfl) ?_
      refine lv_iload hx hb d_X_changes_130 (lv_at hl 1 rfl) ?_
      refine lv_iload hx hb d_X_changes_132 (lv_at hl 0 rfl) ?_
      have hPc := hP.sub (ws' := [c_X x0 x1 x2 x3 x4 z2.2, c_A x1 c1 1024 m1, c_A x2 c2 256 m2]) [0, 1, 2] rfl
      have hDc := hD.sub (ws' := [c_X x0 x1 x2 x3 x4 z2.2, c_A x1 c1 1024 m1, c_A x2 c2 256 m2]) [0, 1, 2] (by decide) rfl
      have hKc := hK.sub (tys' := [(c1, .int), (c2, .int)]) [0, 1] rfl
      have hFc := va_free (wc := [c_X x0 x1 x2 x3 x4 z2.2, c_A x1 c1 1024 m1, c_A x2 c2 256 m2]) hD hS hA [0, 1, 2] rfl
      refine va_callv (va_runV (As := [.int z1.1, .int z3.1]) (rest := []) ⟨hx, hb, hml, hown, htB⟩ (c_X_write l dC dI z0 x0 x1 x2 x3 x4 c1 c2 H.size z1.1 z3.1 z2.2 m1 m2 (by rw [ez2]; exact xs_operand (by rw [ez1]; exact xs_address hxs))) (cwV 2 htB (gd_V mw_579 mw_581 sw_X_write mw_4 mw_582) rfl rfl rfl (by decide +kernel) ⟨Nat.le_of_ble_eq_true rfl, Nat.le_of_ble_eq_true rfl⟩) (pcx_V (va_recv hKc hPc (ci := 3) (q0 := 0) rfl rfl) hPc hKc hDc hA0 hE hS) rfl rfl hl.1 rfl (lv_room (Nat.le_of_ble_eq_true rfl)) d_X_changes_134 ⟨Nat.zero_le _, Nat.zero_le _⟩) hS (fun q _ h => hFc q h) hFc (fun u t H1 locs ht hvm hw hB hz1 hk1 hS => ?_)
      obtain ⟨hP1, hK1, hD1⟩ := hB
      rw [ht] at hP1
      obtain ⟨hP, hD⟩ := va_join (wr := [c_A x3 c3 9 z3.2]) (w1 := [c_X x0 x1 x2 x3 x4 ((f_X_write z1.1 z3.1 z2.2 m1 m2).1), c_A x1 c1 1024 ((f_X_write z1.1 z3.1 z2.2 m1 m2).2.1), c_A x2 c2 256 ((f_X_write z1.1 z3.1 z2.2 m1 m2).2.2)]) hP hD [0, 1, 2] [3] rfl rfl (by decide) (by decide) hk1 hFc hP1 hD1
      generalize H1 = H at hP hS ⊢
      have hP : va_P (dC, dI) classes [c_X x0 x1 x2 x3 x4 ((f_X_write z1.1 z3.1 z2.2 m1 m2).1), c_A x1 c1 1024 ((f_X_write z1.1 z3.1 z2.2 m1 m2).2.1), c_A x2 c2 256 ((f_X_write z1.1 z3.1 z2.2 m1 m2).2.2), c_A x3 c3 9 z3.2] H := hP.sub [1, 2, 3, 0] rfl
      have hD : va_D A [c_X x0 x1 x2 x3 x4 ((f_X_write z1.1 z3.1 z2.2 m1 m2).1), c_A x1 c1 1024 ((f_X_write z1.1 z3.1 z2.2 m1 m2).2.1), c_A x2 c2 256 ((f_X_write z1.1 z3.1 z2.2 m1 m2).2.2), c_A x3 c3 9 z3.2] := hD.sub [1, 2, 3, 0] (by decide) rfl
      obtain ⟨z4, ez4⟩ : ∃ z, z = (f_X_write z1.1 z3.1 z2.2 m1 m2) := ⟨_, rfl⟩
      rw [← ez4] at hP hD
      refine lv_aload_n hx hb d_X_changes_137 rfl (lv_at hl 3 rfl) ?_
      refine lv_iload hx hb d_X_changes_138 (lv_at hl 0 rfl) ?_
      have hPc := hP.sub (ws' := [c_X x0 x1 x2 x3 x4 z4.1, c_A x3 c3 9 z3.2]) [0, 3] rfl
      have hDc := hD.sub (ws' := [c_X x0 x1 x2 x3 x4 z4.1, c_A x3 c3 9 z3.2]) [0, 3] (by decide) rfl
      have hKc := hK.sub (tys' := [(c3, .int)]) [2] rfl
      have hFc := va_free (wc := [c_X x0 x1 x2 x3 x4 z4.1, c_A x3 c3 9 z3.2]) hD hS hA [0, 3] rfl
      refine va_callv (va_runV (As := [.int z3.1]) (rest := []) ⟨hx, hb, hml, hown, htB⟩ (c_X_set l dC dI z0 x0 x1 x2 x3 x4 c3 H.size z3.1 z4.1 z3.2) (cwV 1 htB (gd_V mw_591 mw_593 sw_X_set mw_4 mw_594) rfl rfl rfl (by decide +kernel) ⟨Nat.le_of_ble_eq_true rfl, Nat.le_of_ble_eq_true rfl⟩) (pcx_V (va_recv hKc hPc (ci := 3) (q0 := 0) rfl rfl) hPc hKc hDc hA0 hE hS) rfl rfl hl.1 rfl (lv_room (Nat.le_of_ble_eq_true rfl)) d_X_changes_140 ⟨Nat.zero_le _, Nat.zero_le _⟩) hS (fun q _ h => hFc q h) hFc (fun u t H1 locs ht hvm hw hB hz1 hk1 hS => ?_)
      obtain ⟨hP1, hK1, hD1⟩ := hB
      rw [ht] at hP1
      obtain ⟨hP, hD⟩ := va_join (wr := [c_A x1 c1 1024 z4.2.1, c_A x2 c2 256 z4.2.2]) (w1 := [c_X x0 x1 x2 x3 x4 z4.1, c_A x3 c3 9 (f_X_set z3.1 z4.1 z3.2)]) hP hD [0, 3] [1, 2] rfl rfl (by decide) (by decide) hk1 hFc hP1 hD1
      generalize H1 = H at hP hS ⊢
      have hP : va_P (dC, dI) classes [c_X x0 x1 x2 x3 x4 z4.1, c_A x1 c1 1024 z4.2.1, c_A x2 c2 256 z4.2.2, c_A x3 c3 9 (f_X_set z3.1 z4.1 z3.2)] H := hP.sub [2, 0, 1, 3] rfl
      have hD : va_D A [c_X x0 x1 x2 x3 x4 z4.1, c_A x1 c1 1024 z4.2.1, c_A x2 c2 256 z4.2.2, c_A x3 c3 9 (f_X_set z3.1 z4.1 z3.2)] := hD.sub [2, 0, 1, 3] (by decide) rfl
      obtain ⟨z5, ez5⟩ : ∃ z, z = (f_X_set z3.1 z4.1 z3.2) := ⟨_, rfl⟩
      rw [← ez5] at hP hD
      have hf : f_X_changes p1 p2 ku m1 m2 m3 = (z4.1, z4.2.1, z4.2.2, z5) := by rw [f_X_changes, if_neg c_1, if_pos c_2, ← ez1, f_X_changes_k16, ← ez2, f_X_changes_k17, ← ez3, f_X_changes_k18, ← ez4, f_X_changes_k19, ← ez5, f_X_changes_k20]
      exact W.vret hx hb hr (fun t ht hW => ⟨⟨(), rfl, trivial, by rw [hf]; exact ⟨by rw [ht]; exact hP, va_K.moved hW.alike hK, hD⟩⟩, hS.F ht⟩) hS.2.2 d_X_changes_143
  · refine lv_iload_n hx hb d_X_changes_5 rfl (lv_at hl 1 rfl) ?_
    refine lv_bipush (v := 6) hx hb d_X_changes_6 (by decide) ?_
    refine lv_icmp_lt (tgt := 32) hx hb d_X_changes_8 (by decide) (fun c_2 => ?_) (fun c_2 => ?_)
    · refine lv_iload_n hx hb d_X_changes_32 rfl (lv_at hl 2 rfl) ?_
      refine lv_iconst (v := 1) hx hb d_X_changes_33 (by decide) ?_
      refine lv_icmp_ne (tgt := 41) hx hb d_X_changes_34 (by decide) (fun c_3 => ?_) (fun c_3 => ?_)
      · refine lv_iload_n hx hb d_X_changes_41 rfl (lv_at hl 2 rfl) ?_
        refine lv_iconst (v := 2) hx hb d_X_changes_42 (by decide) ?_
        refine lv_icmp_ne (tgt := 51) hx hb d_X_changes_43 (by decide) (fun c9 => absurd c_1 c9) (fun _ => ?_)
        refine lv_bipush (v := 9) hx hb d_X_changes_46 (by decide) ?_
        refine lv_goto (tgt := 80) hx hb d_X_changes_48 (by decide) ?_
        refine lv_istore_n (lv' := [(3, .int (9 : Int32)), (0, .ref x0), (1, .int p1), (2, .int p2)]) hx hb d_X_changes_80 rfl hl (by decide) rfl (fun ls hl => ?_)
        refine lv_iload_n hx hb d_X_changes_81 rfl (lv_at hl 0 rfl) ?_
        refine lv_if_ge (tgt := 91) hx hb d_X_changes_82 (by decide) (fun _ => ?_) (fun c9 => absurd (show (0 : Int32) ≤ (9 : Int32) from by decide) c9)
        refine lv_aload_n hx hb d_X_changes_91 rfl (lv_at hl 1 rfl) ?_
        refine lv_iload_n hx hb d_X_changes_92 rfl (lv_at hl 0 rfl) ?_
        have hPc := hP.sub (ws' := [c_X x0 x1 x2 x3 x4 ku, c_A x1 c1 1024 m1, c_A x3 c3 9 m3]) [0, 1, 3] rfl
        have hDc := hD.sub (ws' := [c_X x0 x1 x2 x3 x4 ku, c_A x1 c1 1024 m1, c_A x3 c3 9 m3]) [0, 1, 3] (by decide) rfl
        have hKc := hK.sub (tys' := [(c1, .int), (c3, .int)]) [0, 2] rfl
        have hFc := va_free (wc := [c_X x0 x1 x2 x3 x4 ku, c_A x1 c1 1024 m1, c_A x3 c3 9 m3]) hD hS hA [0, 1, 3] rfl
        refine va_calli (va_runV (As := [.int (9 : Int32)]) (rest := []) ⟨hx, hb, hml, hown, htB⟩ (c_X_address l dC dI z0 x0 x1 x2 x3 x4 c1 c3 H.size (9 : Int32) ku m1 m3) (cwV 1 htB (gd_V mw_563 mw_565 sw_X_address mw_4 mw_566) rfl rfl rfl (by decide +kernel) ⟨Nat.le_of_ble_eq_true rfl, Nat.le_of_ble_eq_true rfl⟩) (pcx_V (va_recv hKc hPc (ci := 3) (q0 := 0) rfl rfl) hPc hKc hDc hA0 hE hS) rfl rfl hl.1 rfl (lv_room (Nat.le_of_ble_eq_true rfl)) d_X_changes_93 ⟨Nat.zero_le _, Nat.zero_le _⟩) hS (fun q _ h => hFc q h) hFc (fun r9 u t H1 locs ht hvm hw hB hz1 hk1 hS => ?_)
        subst hw
        obtain ⟨hP1, hK1, hD1⟩ := hB
        rw [ht] at hP1
        obtain ⟨hP, hD⟩ := va_join (wr := [c_A x2 c2 256 m2]) (w1 := [c_X x0 x1 x2 x3 x4 ((f_X_address (9 : Int32) ku m1 m3).2.1), c_A x1 c1 1024 m1, c_A x3 c3 9 ((f_X_address (9 : Int32) ku m1 m3).2.2)]) hP hD [0, 1, 3] [2] rfl rfl (by decide) (by decide) hk1 hFc hP1 hD1
        generalize H1 = H at hP hS ⊢
        have hP : va_P (dC, dI) classes [c_X x0 x1 x2 x3 x4 ((f_X_address (9 : Int32) ku m1 m3).2.1), c_A x1 c1 1024 m1, c_A x2 c2 256 m2, c_A x3 c3 9 ((f_X_address (9 : Int32) ku m1 m3).2.2)] H := hP.sub [1, 2, 0, 3] rfl
        have hD : va_D A [c_X x0 x1 x2 x3 x4 ((f_X_address (9 : Int32) ku m1 m3).2.1), c_A x1 c1 1024 m1, c_A x2 c2 256 m2, c_A x3 c3 9 ((f_X_address (9 : Int32) ku m1 m3).2.2)] := hD.sub [1, 2, 0, 3] (by decide) rfl
        obtain ⟨z1, ez1⟩ : ∃ z, z = (f_X_address (9 : Int32) ku m1 m3) := ⟨_, rfl⟩
        rw [← ez1] at hP hD ⊢
        refine lv_istore (lv' := [(4, .int z1.1), (3, .int (9 : Int32)), (0, .ref x0), (1, .int p1), (2, .int p2)]) hx hb d_X_changes_96 hl (by decide) rfl (fun ls hl => ?_)
        refine lv_aload_n hx hb d_X_changes_98 rfl (lv_at hl 2 rfl) ?_
        refine lv_iload_n hx hb d_X_changes_99 rfl (lv_at hl 3 rfl) ?_
        refine lv_aload_n hx hb d_X_changes_100 rfl (lv_at hl 2 rfl) ?_
        refine lv_iload_n hx hb d_X_changes_101 rfl (lv_at hl 1 rfl) ?_
        refine lv_iload hx hb d_X_changes_102 (lv_at hl 0 rfl) ?_
        have hPc := hP.sub (ws' := [c_X x0 x1 x2 x3 x4 z1.2.1, c_A x1 c1 1024 m1, c_A x3 c3 9 z1.2.2]) [0, 1, 3] rfl
        have hDc := hD.sub (ws' := [c_X x0 x1 x2 x3 x4 z1.2.1, c_A x1 c1 1024 m1, c_A x3 c3 9 z1.2.2]) [0, 1, 3] (by decide) rfl
        have hKc := hK.sub (tys' := [(c1, .int), (c3, .int)]) [0, 2] rfl
        have hFc := va_free (wc := [c_X x0 x1 x2 x3 x4 z1.2.1, c_A x1 c1 1024 m1, c_A x3 c3 9 z1.2.2]) hD hS hA [0, 1, 3] rfl
        refine va_calli (va_runV (As := [.int (9 : Int32), .int z1.1]) (rest := [.int p1, .ref x0]) ⟨hx, hb, hml, hown, htB⟩ (c_X_operand l dC dI z0 x0 x1 x2 x3 x4 c1 c3 H.size (9 : Int32) z1.1 z1.2.1 m1 z1.2.2) (cwV 2 htB (gd_V mw_583 mw_585 sw_X_operand mw_4 mw_586) rfl rfl rfl (by decide +kernel) ⟨Nat.le_of_ble_eq_true rfl, Nat.le_of_ble_eq_true rfl⟩) (pcx_V (va_recv hKc hPc (ci := 3) (q0 := 0) rfl rfl) hPc hKc hDc hA0 hE hS) rfl rfl hl.1 rfl (lv_room (Nat.le_of_ble_eq_true rfl)) d_X_changes_104 ⟨Nat.zero_le _, Nat.zero_le _⟩) hS (fun q _ h => hFc q h) hFc (fun r9 u t H1 locs ht hvm hw hB hz1 hk1 hS => ?_)
        subst hw
        obtain ⟨hP1, hK1, hD1⟩ := hB
        rw [ht] at hP1
        obtain ⟨hP, hD⟩ := va_join (wr := [c_A x2 c2 256 m2]) (w1 := [c_X x0 x1 x2 x3 x4 ((f_X_operand (9 : Int32) z1.1 z1.2.1 m1 z1.2.2).2), c_A x1 c1 1024 m1, c_A x3 c3 9 z1.2.2]) hP hD [0, 1, 3] [2] rfl rfl (by decide) (by decide) hk1 hFc hP1 hD1
        generalize H1 = H at hP hS ⊢
        have hP : va_P (dC, dI) classes [c_X x0 x1 x2 x3 x4 ((f_X_operand (9 : Int32) z1.1 z1.2.1 m1 z1.2.2).2), c_A x1 c1 1024 m1, c_A x2 c2 256 m2, c_A x3 c3 9 z1.2.2] H := hP.sub [1, 2, 0, 3] rfl
        have hD : va_D A [c_X x0 x1 x2 x3 x4 ((f_X_operand (9 : Int32) z1.1 z1.2.1 m1 z1.2.2).2), c_A x1 c1 1024 m1, c_A x2 c2 256 m2, c_A x3 c3 9 z1.2.2] := hD.sub [1, 2, 0, 3] (by decide) rfl
        obtain ⟨z2, ez2⟩ : ∃ z, z = (f_X_operand (9 : Int32) z1.1 z1.2.1 m1 z1.2.2) := ⟨_, rfl⟩
        rw [← ez2] at hP hD ⊢
        have hPc := hP.sub (ws' := [c_X x0 x1 x2 x3 x4 z2.2, c_A x3 c3 9 z1.2.2]) [0, 3] rfl
        have hDc := hD.sub (ws' := [c_X x0 x1 x2 x3 x4 z2.2, c_A x3 c3 9 z1.2.2]) [0, 3] (by decide) rfl
        have hKc := hK.sub (tys' := [(c3, .int)]) [2] rfl
        have hFc := va_free (wc := [c_X x0 x1 x2 x3 x4 z2.2, c_A x3 c3 9 z1.2.2]) hD hS hA [0, 3] rfl
        refine va_calli (va_runV (As := [.int p1, .int z2.1]) (rest := []) ⟨hx, hb, hml, hown, htB⟩ (c_X_shifted l dC dI z0 x0 x1 x2 x3 x4 c3 H.size p1 z2.1 z2.2 z1.2.2) (cwV 2 htB (gd_V mw_611 mw_613 sw_X_shifted mw_4 mw_614) rfl rfl rfl (by decide +kernel) ⟨Nat.le_of_ble_eq_true rfl, Nat.le_of_ble_eq_true rfl⟩) (pcx_V (va_recv hKc hPc (ci := 3) (q0 := 0) rfl rfl) hPc hKc hDc hA0 hE hS) rfl rfl hl.1 rfl (lv_room (Nat.le_of_ble_eq_true rfl)) d_X_changes_107 ⟨Nat.zero_le _, Nat.zero_le _⟩) hS (fun q _ h => hFc q h) hFc (fun r9 u t H1 locs ht hvm hw hB hz1 hk1 hS => ?_)
        subst hw
        obtain ⟨hP1, hK1, hD1⟩ := hB
        rw [ht] at hP1
        obtain ⟨hP, hD⟩ := va_join (wr := [c_A x1 c1 1024 m1, c_A x2 c2 256 m2]) (w1 := [c_X x0 x1 x2 x3 x4 z2.2, c_A x3 c3 9 ((f_X_shifted p1 z2.1 z2.2 z1.2.2).2)]) hP hD [0, 3] [1, 2] rfl rfl (by decide) (by decide) hk1 hFc hP1 hD1
        generalize H1 = H at hP hS ⊢
        have hP : va_P (dC, dI) classes [c_X x0 x1 x2 x3 x4 z2.2, c_A x1 c1 1024 m1, c_A x2 c2 256 m2, c_A x3 c3 9 ((f_X_shifted p1 z2.1 z2.2 z1.2.2).2)] H := hP.sub [2, 0, 1, 3] rfl
        have hD : va_D A [c_X x0 x1 x2 x3 x4 z2.2, c_A x1 c1 1024 m1, c_A x2 c2 256 m2, c_A x3 c3 9 ((f_X_shifted p1 z2.1 z2.2 z1.2.2).2)] := hD.sub [2, 0, 1, 3] (by decide) rfl
        obtain ⟨z3, ez3⟩ : ∃ z, z = (f_X_shifted p1 z2.1 z2.2 z1.2.2) := ⟨_, rfl⟩
        rw [← ez3] at hP hD ⊢
        refine lv_istore (lv' := [(5, .int z3.1), (4, .int z1.1), (3, .int (9 : Int32)), (0, .ref x0), (1, .int p1), (2, .int p2)]) hx hb d_X_changes_110 hl (by decide) rfl (fun ls hl => ?_)
        refine lv_iload_n hx hb d_X_changes_112 rfl (lv_at hl 2 rfl) ?_
        refine lv_bipush (v := 9) hx hb d_X_changes_113 (by decide) ?_
        refine lv_icmp_ne (tgt := 129) hx hb d_X_changes_115 (by decide) (fun c9 => absurd (show (9 : Int32) = (9 : Int32) from by decide) c9) (fun _ => ?_)
        refine lv_aload_n hx hb d_X_changes_118 rfl (lv_at hl 3 rfl) ?_
        refine va_get (D := (dC, dI)) (ci := 3) (v := .ref x3) (C := R_X) (T := F_X) (N := 13) hx hb htB i_X hown hK hP 0 rfl rfl 2 (by decide) (htB _ mw_463) (fun _ h9 => h9) rfl d_X_changes_119 ?_
        refine lv_iconst (v := 0) hx hb d_X_changes_122 (by decide) ?_
        refine lv_iload hx hb d_X_changes_123 (lv_at hl 0 rfl) ?_
        refine iast_at hx hb hK hP hD hS 3 2 rfl rfl (show ¬ ((0 : Int32) < 0 ∨ 9 ≤ (0 : Int32).toNatClampNeg) from by decide) (show (0 : Int32).toNatClampNeg = 0 from by decide) d_X_changes_125 (fun H locs hP hD hS => ?_)
        have hP : va_P (dC, dI) classes [c_X x0 x1 x2 x3 x4 z2.2, c_A x1 c1 1024 m1, c_A x2 c2 256 m2, c_A x3 c3 9 (upd z3.2 0 z3.1)] H := hP
        have hD : va_D A [c_X x0 x1 x2 x3 x4 z2.2, c_A x1 c1 1024 m1, c_A x2 c2 256 m2, c_A x3 c3 9 (upd z3.2 0 z3.1)] := hD
        refine lv_goto (tgt := 137) hx hb d_X_changes_126 (by decide) ?_
        refine lv_aload_n hx hb d_X_changes_137 rfl (lv_at hl 3 rfl) ?_
        refine lv_iload hx hb d_X_changes_138 (lv_at hl 0 rfl) ?_
        have hPc := hP.sub (ws' := [c_X x0 x1 x2 x3 x4 z2.2, c_A x3 c3 9 (upd z3.2 0 z3.1)]) [0, 3] rfl
        have hDc := hD.sub (ws' := [c_X x0 x1 x2 x3 x4 z2.2, c_A x3 c3 9 (upd z3.2 0 z3.1)]) [0, 3] (by decide) rfl
        have hKc := hK.sub (tys' := [(c3, .int)]) [2] rfl
        have hFc := va_free (wc := [c_X x0 x1 x2 x3 x4 z2.2, c_A x3 c3 9 (upd z3.2 0 z3.1)]) hD hS hA [0, 3] rfl
        refine va_callv (va_runV (As := [.int z3.1]) (rest := []) ⟨hx, hb, hml, hown, htB⟩ (c_X_set l dC dI z0 x0 x1 x2 x3 x4 c3 H.size z3.1 z2.2 (upd z3.2 0 z3.1)) (cwV 1 htB (gd_V mw_591 mw_593 sw_X_set mw_4 mw_594) rfl rfl rfl (by decide +kernel) ⟨Nat.le_of_ble_eq_true rfl, Nat.le_of_ble_eq_true rfl⟩) (pcx_V (va_recv hKc hPc (ci := 3) (q0 := 0) rfl rfl) hPc hKc hDc hA0 hE hS) rfl rfl hl.1 rfl (lv_room (Nat.le_of_ble_eq_true rfl)) d_X_changes_140 ⟨Nat.zero_le _, Nat.zero_le _⟩) hS (fun q _ h => hFc q h) hFc (fun u t H1 locs ht hvm hw hB hz1 hk1 hS => ?_)
        obtain ⟨hP1, hK1, hD1⟩ := hB
        rw [ht] at hP1
        obtain ⟨hP, hD⟩ := va_join (wr := [c_A x1 c1 1024 m1, c_A x2 c2 256 m2]) (w1 := [c_X x0 x1 x2 x3 x4 z2.2, c_A x3 c3 9 (f_X_set z3.1 z2.2 (upd z3.2 0 z3.1))]) hP hD [0, 3] [1, 2] rfl rfl (by decide) (by decide) hk1 hFc hP1 hD1
        generalize H1 = H at hP hS ⊢
        have hP : va_P (dC, dI) classes [c_X x0 x1 x2 x3 x4 z2.2, c_A x1 c1 1024 m1, c_A x2 c2 256 m2, c_A x3 c3 9 (f_X_set z3.1 z2.2 (upd z3.2 0 z3.1))] H := hP.sub [2, 0, 1, 3] rfl
        have hD : va_D A [c_X x0 x1 x2 x3 x4 z2.2, c_A x1 c1 1024 m1, c_A x2 c2 256 m2, c_A x3 c3 9 (f_X_set z3.1 z2.2 (upd z3.2 0 z3.1))] := hD.sub [2, 0, 1, 3] (by decide) rfl
        obtain ⟨z4, ez4⟩ : ∃ z, z = (f_X_set z3.1 z2.2 (upd z3.2 0 z3.1)) := ⟨_, rfl⟩
        rw [← ez4] at hP hD
        have hf : f_X_changes p1 p2 ku m1 m2 m3 = (z2.2, m1, m2, z4) := by rw [f_X_changes, if_pos c_1, if_pos c_2, if_neg c_3, ← ez1, f_X_changes_k21, ← ez2, f_X_changes_k22, ← ez3, f_X_changes_k23, ← ez4, f_X_changes_k24]
        exact W.vret hx hb hr (fun t ht hW => ⟨⟨(), rfl, trivial, by rw [hf]; exact ⟨by rw [ht]; exact hP, va_K.moved hW.alike hK, hD⟩⟩, hS.F ht⟩) hS.2.2 d_X_changes_143
      · refine lv_iconst (v := 1) hx hb d_X_changes_37 (by decide) ?_
        refine lv_goto (tgt := 80) hx hb d_X_changes_38 (by decide) ?_
        refine lv_istore_n (lv' := [(3, .int (1 : Int32)), (0, .ref x0), (1, .int p1), (2, .int p2)]) hx hb d_X_changes_80 rfl hl (by decide) rfl (fun ls hl => ?_)
        refine lv_iload_n hx hb d_X_changes_81 rfl (lv_at hl 0 rfl) ?_
        refine lv_if_ge (tgt := 91) hx hb d_X_changes_82 (by decide) (fun _ => ?_) (fun c9 => absurd (show (0 : Int32) ≤ (1 : Int32) from by decide) c9)
        refine lv_aload_n hx hb d_X_changes_91 rfl (lv_at hl 1 rfl) ?_
        refine lv_iload_n hx hb d_X_changes_92 rfl (lv_at hl 0 rfl) ?_
        have hPc := hP.sub (ws' := [c_X x0 x1 x2 x3 x4 ku, c_A x1 c1 1024 m1, c_A x3 c3 9 m3]) [0, 1, 3] rfl
        have hDc := hD.sub (ws' := [c_X x0 x1 x2 x3 x4 ku, c_A x1 c1 1024 m1, c_A x3 c3 9 m3]) [0, 1, 3] (by decide) rfl
        have hKc := hK.sub (tys' := [(c1, .int), (c3, .int)]) [0, 2] rfl
        have hFc := va_free (wc := [c_X x0 x1 x2 x3 x4 ku, c_A x1 c1 1024 m1, c_A x3 c3 9 m3]) hD hS hA [0, 1, 3] rfl
        refine va_calli (va_runV (As := [.int (1 : Int32)]) (rest := []) ⟨hx, hb, hml, hown, htB⟩ (c_X_address l dC dI z0 x0 x1 x2 x3 x4 c1 c3 H.size (1 : Int32) ku m1 m3) (cwV 1 htB (gd_V mw_563 mw_565 sw_X_address mw_4 mw_566) rfl rfl rfl (by decide +kernel) ⟨Nat.le_of_ble_eq_true rfl, Nat.le_of_ble_eq_true rfl⟩) (pcx_V (va_recv hKc hPc (ci := 3) (q0 := 0) rfl rfl) hPc hKc hDc hA0 hE hS) rfl rfl hl.1 rfl (lv_room (Nat.le_of_ble_eq_true rfl)) d_X_changes_93 ⟨Nat.zero_le _, Nat.zero_le _⟩) hS (fun q _ h => hFc q h) hFc (fun r9 u t H1 locs ht hvm hw hB hz1 hk1 hS => ?_)
        subst hw
        obtain ⟨hP1, hK1, hD1⟩ := hB
        rw [ht] at hP1
        obtain ⟨hP, hD⟩ := va_join (wr := [c_A x2 c2 256 m2]) (w1 := [c_X x0 x1 x2 x3 x4 ((f_X_address (1 : Int32) ku m1 m3).2.1), c_A x1 c1 1024 m1, c_A x3 c3 9 ((f_X_address (1 : Int32) ku m1 m3).2.2)]) hP hD [0, 1, 3] [2] rfl rfl (by decide) (by decide) hk1 hFc hP1 hD1
        generalize H1 = H at hP hS ⊢
        have hP : va_P (dC, dI) classes [c_X x0 x1 x2 x3 x4 ((f_X_address (1 : Int32) ku m1 m3).2.1), c_A x1 c1 1024 m1, c_A x2 c2 256 m2, c_A x3 c3 9 ((f_X_address (1 : Int32) ku m1 m3).2.2)] H := hP.sub [1, 2, 0, 3] rfl
        have hD : va_D A [c_X x0 x1 x2 x3 x4 ((f_X_address (1 : Int32) ku m1 m3).2.1), c_A x1 c1 1024 m1, c_A x2 c2 256 m2, c_A x3 c3 9 ((f_X_address (1 : Int32) ku m1 m3).2.2)] := hD.sub [1, 2, 0, 3] (by decide) rfl
        obtain ⟨z1, ez1⟩ : ∃ z, z = (f_X_address (1 : Int32) ku m1 m3) := ⟨_, rfl⟩
        rw [← ez1] at hP hD ⊢
        refine lv_istore (lv' := [(4, .int z1.1), (3, .int (1 : Int32)), (0, .ref x0), (1, .int p1), (2, .int p2)]) hx hb d_X_changes_96 hl (by decide) rfl (fun ls hl => ?_)
        refine lv_aload_n hx hb d_X_changes_98 rfl (lv_at hl 2 rfl) ?_
        refine lv_iload_n hx hb d_X_changes_99 rfl (lv_at hl 3 rfl) ?_
        refine lv_aload_n hx hb d_X_changes_100 rfl (lv_at hl 2 rfl) ?_
        refine lv_iload_n hx hb d_X_changes_101 rfl (lv_at hl 1 rfl) ?_
        refine lv_iload hx hb d_X_changes_102 (lv_at hl 0 rfl) ?_
        have hPc := hP.sub (ws' := [c_X x0 x1 x2 x3 x4 z1.2.1, c_A x1 c1 1024 m1, c_A x3 c3 9 z1.2.2]) [0, 1, 3] rfl
        have hDc := hD.sub (ws' := [c_X x0 x1 x2 x3 x4 z1.2.1, c_A x1 c1 1024 m1, c_A x3 c3 9 z1.2.2]) [0, 1, 3] (by decide) rfl
        have hKc := hK.sub (tys' := [(c1, .int), (c3, .int)]) [0, 2] rfl
        have hFc := va_free (wc := [c_X x0 x1 x2 x3 x4 z1.2.1, c_A x1 c1 1024 m1, c_A x3 c3 9 z1.2.2]) hD hS hA [0, 1, 3] rfl
        refine va_calli (va_runV (As := [.int (1 : Int32), .int z1.1]) (rest := [.int p1, .ref x0]) ⟨hx, hb, hml, hown, htB⟩ (c_X_operand l dC dI z0 x0 x1 x2 x3 x4 c1 c3 H.size (1 : Int32) z1.1 z1.2.1 m1 z1.2.2) (cwV 2 htB (gd_V mw_583 mw_585 sw_X_operand mw_4 mw_586) rfl rfl rfl (by decide +kernel) ⟨Nat.le_of_ble_eq_true rfl, Nat.le_of_ble_eq_true rfl⟩) (pcx_V (va_recv hKc hPc (ci := 3) (q0 := 0) rfl rfl) hPc hKc hDc hA0 hE hS) rfl rfl hl.1 rfl (lv_room (Nat.le_of_ble_eq_true rfl)) d_X_changes_104 ⟨Nat.zero_le _, Nat.zero_le _⟩) hS (fun q _ h => hFc q h) hFc (fun r9 u t H1 locs ht hvm hw hB hz1 hk1 hS => ?_)
        subst hw
        obtain ⟨hP1, hK1, hD1⟩ := hB
        rw [ht] at hP1
        obtain ⟨hP, hD⟩ := va_join (wr := [c_A x2 c2 256 m2]) (w1 := [c_X x0 x1 x2 x3 x4 ((f_X_operand (1 : Int32) z1.1 z1.2.1 m1 z1.2.2).2), c_A x1 c1 1024 m1, c_A x3 c3 9 z1.2.2]) hP hD [0, 1, 3] [2] rfl rfl (by decide) (by decide) hk1 hFc hP1 hD1
        generalize H1 = H at hP hS ⊢
        have hP : va_P (dC, dI) classes [c_X x0 x1 x2 x3 x4 ((f_X_operand (1 : Int32) z1.1 z1.2.1 m1 z1.2.2).2), c_A x1 c1 1024 m1, c_A x2 c2 256 m2, c_A x3 c3 9 z1.2.2] H := hP.sub [1, 2, 0, 3] rfl
        have hD : va_D A [c_X x0 x1 x2 x3 x4 ((f_X_operand (1 : Int32) z1.1 z1.2.1 m1 z1.2.2).2), c_A x1 c1 1024 m1, c_A x2 c2 256 m2, c_A x3 c3 9 z1.2.2] := hD.sub [1, 2, 0, 3] (by decide) rfl
        obtain ⟨z2, ez2⟩ : ∃ z, z = (f_X_operand (1 : Int32) z1.1 z1.2.1 m1 z1.2.2) := ⟨_, rfl⟩
        rw [← ez2] at hP hD ⊢
        have hPc := hP.sub (ws' := [c_X x0 x1 x2 x3 x4 z2.2, c_A x3 c3 9 z1.2.2]) [0, 3] rfl
        have hDc := hD.sub (ws' := [c_X x0 x1 x2 x3 x4 z2.2, c_A x3 c3 9 z1.2.2]) [0, 3] (by decide) rfl
        have hKc := hK.sub (tys' := [(c3, .int)]) [2] rfl
        have hFc := va_free (wc := [c_X x0 x1 x2 x3 x4 z2.2, c_A x3 c3 9 z1.2.2]) hD hS hA [0, 3] rfl
        refine va_calli (va_runV (As := [.int p1, .int z2.1]) (rest := []) ⟨hx, hb, hml, hown, htB⟩ (c_X_shifted l dC dI z0 x0 x1 x2 x3 x4 c3 H.size p1 z2.1 z2.2 z1.2.2) (cwV 2 htB (gd_V mw_611 mw_613 sw_X_shifted mw_4 mw_614) rfl rfl rfl (by decide +kernel) ⟨Nat.le_of_ble_eq_true rfl, Nat.le_of_ble_eq_true rfl⟩) (pcx_V (va_recv hKc hPc (ci := 3) (q0 := 0) rfl rfl) hPc hKc hDc hA0 hE hS) rfl rfl hl.1 rfl (lv_room (Nat.le_of_ble_eq_true rfl)) d_X_changes_107 ⟨Nat.zero_le _, Nat.zero_le _⟩) hS (fun q _ h => hFc q h) hFc (fun r9 u t H1 locs ht hvm hw hB hz1 hk1 hS => ?_)
        subst hw
        obtain ⟨hP1, hK1, hD1⟩ := hB
        rw [ht] at hP1
        obtain ⟨hP, hD⟩ := va_join (wr := [c_A x1 c1 1024 m1, c_A x2 c2 256 m2]) (w1 := [c_X x0 x1 x2 x3 x4 z2.2, c_A x3 c3 9 ((f_X_shifted p1 z2.1 z2.2 z1.2.2).2)]) hP hD [0, 3] [1, 2] rfl rfl (by decide) (by decide) hk1 hFc hP1 hD1
        generalize H1 = H at hP hS ⊢
        have hP : va_P (dC, dI) classes [c_X x0 x1 x2 x3 x4 z2.2, c_A x1 c1 1024 m1, c_A x2 c2 256 m2, c_A x3 c3 9 ((f_X_shifted p1 z2.1 z2.2 z1.2.2).2)] H := hP.sub [2, 0, 1, 3] rfl
        have hD : va_D A [c_X x0 x1 x2 x3 x4 z2.2, c_A x1 c1 1024 m1, c_A x2 c2 256 m2, c_A x3 c3 9 ((f_X_shifted p1 z2.1 z2.2 z1.2.2).2)] := hD.sub [2, 0, 1, 3] (by decide) rfl
        obtain ⟨z3, ez3⟩ : ∃ z, z = (f_X_shifted p1 z2.1 z2.2 z1.2.2) := ⟨_, rfl⟩
        rw [← ez3] at hP hD ⊢
        refine lv_istore (lv' := [(5, .int z3.1), (4, .int z1.1), (3, .int (1 : Int32)), (0, .ref x0), (1, .int p1), (2, .int p2)]) hx hb d_X_changes_110 hl (by decide) rfl (fun ls hl => ?_)
        refine lv_iload_n hx hb d_X_changes_112 rfl (lv_at hl 2 rfl) ?_
        refine lv_bipush (v := 9) hx hb d_X_changes_113 (by decide) ?_
        refine lv_icmp_ne (tgt := 129) hx hb d_X_changes_115 (by decide) (fun _ => ?_) (fun c9 => absurd c9 (by decide))
        refine lv_aload_n hx hb d_X_changes_129 rfl (lv_at hl 3 rfl) ?_
        refine lv_iload hx hb d_X_changes_130 (lv_at hl 1 rfl) ?_
        refine lv_iload hx hb d_X_changes_132 (lv_at hl 0 rfl) ?_
        have hPc := hP.sub (ws' := [c_X x0 x1 x2 x3 x4 z2.2, c_A x1 c1 1024 m1, c_A x2 c2 256 m2]) [0, 1, 2] rfl
        have hDc := hD.sub (ws' := [c_X x0 x1 x2 x3 x4 z2.2, c_A x1 c1 1024 m1, c_A x2 c2 256 m2]) [0, 1, 2] (by decide) rfl
        have hKc := hK.sub (tys' := [(c1, .int), (c2, .int)]) [0, 1] rfl
        have hFc := va_free (wc := [c_X x0 x1 x2 x3 x4 z2.2, c_A x1 c1 1024 m1, c_A x2 c2 256 m2]) hD hS hA [0, 1, 2] rfl
        refine va_callv (va_runV (As := [.int z1.1, .int z3.1]) (rest := []) ⟨hx, hb, hml, hown, htB⟩ (c_X_write l dC dI z0 x0 x1 x2 x3 x4 c1 c2 H.size z1.1 z3.1 z2.2 m1 m2 (by rw [ez2]; exact xs_operand (by rw [ez1]; exact xs_address hxs))) (cwV 2 htB (gd_V mw_579 mw_581 sw_X_write mw_4 mw_582) rfl rfl rfl (by decide +kernel) ⟨Nat.le_of_ble_eq_true rfl, Nat.le_of_ble_eq_true rfl⟩) (pcx_V (va_recv hKc hPc (ci := 3) (q0 := 0) rfl rfl) hPc hKc hDc hA0 hE hS) rfl rfl hl.1 rfl (lv_room (Nat.le_of_ble_eq_true rfl)) d_X_changes_134 ⟨Nat.zero_le _, Nat.zero_le _⟩) hS (fun q _ h => hFc q h) hFc (fun u t H1 locs ht hvm hw hB hz1 hk1 hS => ?_)
        obtain ⟨hP1, hK1, hD1⟩ := hB
        rw [ht] at hP1
        obtain ⟨hP, hD⟩ := va_join (wr := [c_A x3 c3 9 z3.2]) (w1 := [c_X x0 x1 x2 x3 x4 ((f_X_write z1.1 z3.1 z2.2 m1 m2).1), c_A x1 c1 1024 ((f_X_write z1.1 z3.1 z2.2 m1 m2).2.1), c_A x2 c2 256 ((f_X_write z1.1 z3.1 z2.2 m1 m2).2.2)]) hP hD [0, 1, 2] [3] rfl rfl (by decide) (by decide) hk1 hFc hP1 hD1
        generalize H1 = H at hP hS ⊢
        have hP : va_P (dC, dI) classes [c_X x0 x1 x2 x3 x4 ((f_X_write z1.1 z3.1 z2.2 m1 m2).1), c_A x1 c1 1024 ((f_X_write z1.1 z3.1 z2.2 m1 m2).2.1), c_A x2 c2 256 ((f_X_write z1.1 z3.1 z2.2 m1 m2).2.2), c_A x3 c3 9 z3.2] H := hP.sub [1, 2, 3, 0] rfl
        have hD : va_D A [c_X x0 x1 x2 x3 x4 ((f_X_write z1.1 z3.1 z2.2 m1 m2).1), c_A x1 c1 1024 ((f_X_write z1.1 z3.1 z2.2 m1 m2).2.1), c_A x2 c2 256 ((f_X_write z1.1 z3.1 z2.2 m1 m2).2.2), c_A x3 c3 9 z3.2] := hD.sub [1, 2, 3, 0] (by decide) rfl
        obtain ⟨z4, ez4⟩ : ∃ z, z = (f_X_write z1.1 z3.1 z2.2 m1 m2) := ⟨_, rfl⟩
        rw [← ez4] at hP hD
        refine lv_aload_n hx hb d_X_changes_137 rfl (lv_at hl 3 rfl) ?_
        refine lv_iload hx hb d_X_changes_138 (lv_at hl 0 rfl) ?_
        have hPc := hP.sub (ws' := [c_X x0 x1 x2 x3 x4 z4.1, c_A x3 c3 9 z3.2]) [0, 3] rfl
        have hDc := hD.sub (ws' := [c_X x0 x1 x2 x3 x4 z4.1, c_A x3 c3 9 z3.2]) [0, 3] (by decide) rfl
        have hKc := hK.sub (tys' := [(c3, .int)]) [2] rfl
        have hFc := va_free (wc := [c_X x0 x1 x2 x3 x4 z4.1, c_A x3 c3 9 z3.2]) hD hS hA [0, 3] rfl
        refine va_callv (va_runV (As := [.int z3.1]) (rest := []) ⟨hx, hb, hml, hown, htB⟩ (c_X_set l dC dI z0 x0 x1 x2 x3 x4 c3 H.size z3.1 z4.1 z3.2) (cwV 1 htB (gd_V mw_591 mw_593 sw_X_set mw_4 mw_594) rfl rfl rfl (by decide +kernel) ⟨Nat.le_of_ble_eq_true rfl, Nat.le_of_ble_eq_true rfl⟩) (pcx_V (va_recv hKc hPc (ci := 3) (q0 := 0) rfl rfl) hPc hKc hDc hA0 hE hS) rfl rfl hl.1 rfl (lv_room (Nat.le_of_ble_eq_true rfl)) d_X_changes_140 ⟨Nat.zero_le _, Nat.zero_le _⟩) hS (fun q _ h => hFc q h) hFc (fun u t H1 locs ht hvm hw hB hz1 hk1 hS => ?_)
        obtain ⟨hP1, hK1, hD1⟩ := hB
        rw [ht] at hP1
        obtain ⟨hP, hD⟩ := va_join (wr := [c_A x1 c1 1024 z4.2.1, c_A x2 c2 256 z4.2.2]) (w1 := [c_X x0 x1 x2 x3 x4 z4.1, c_A x3 c3 9 (f_X_set z3.1 z4.1 z3.2)]) hP hD [0, 3] [1, 2] rfl rfl (by decide) (by decide) hk1 hFc hP1 hD1
        generalize H1 = H at hP hS ⊢
        have hP : va_P (dC, dI) classes [c_X x0 x1 x2 x3 x4 z4.1, c_A x1 c1 1024 z4.2.1, c_A x2 c2 256 z4.2.2, c_A x3 c3 9 (f_X_set z3.1 z4.1 z3.2)] H := hP.sub [2, 0, 1, 3] rfl
        have hD : va_D A [c_X x0 x1 x2 x3 x4 z4.1, c_A x1 c1 1024 z4.2.1, c_A x2 c2 256 z4.2.2, c_A x3 c3 9 (f_X_set z3.1 z4.1 z3.2)] := hD.sub [2, 0, 1, 3] (by decide) rfl
        obtain ⟨z5, ez5⟩ : ∃ z, z = (f_X_set z3.1 z4.1 z3.2) := ⟨_, rfl⟩
        rw [← ez5] at hP hD
        have hf : f_X_changes p1 p2 ku m1 m2 m3 = (z4.1, z4.2.1, z4.2.2, z5) := by rw [f_X_changes, if_pos c_1, if_pos c_2, if_pos c_3, ← ez1, f_X_changes_k25, ← ez2, f_X_changes_k26, ← ez3, f_X_changes_k27, ← ez4, f_X_changes_k28, ← ez5, f_X_changes_k29]
        exact W.vret hx hb hr (fun t ht hW => ⟨⟨(), rfl, trivial, by rw [hf]; exact ⟨by rw [ht]; exact hP, va_K.moved hW.alike hK, hD⟩⟩, hS.F ht⟩) hS.2.2 d_X_changes_143
    · refine lv_iload_n hx hb d_X_changes_11 rfl (lv_at hl 1 rfl) ?_
      refine lv_bipush (v := 6) hx hb d_X_changes_12 (by decide) ?_
      refine lv_icmp_ne (tgt := 31) hx hb d_X_changes_14 (by decide) (fun c_3 => ?_) (fun c_3 => ?_)
      · have hf : f_X_changes p1 p2 ku m1 m2 m3 = (ku, m1, m2, m3) := by rw [f_X_changes, if_pos c_1, if_neg c_2, if_neg c_3]
        exact W.vret hx hb hr (fun t ht hW => ⟨⟨(), rfl, trivial, by rw [hf]; exact ⟨by rw [ht]; exact hP, va_K.moved hW.alike hK, hD⟩⟩, hS.F ht⟩) hS.2.2 d_X_changes_31
      · refine lv_aload_n hx hb d_X_changes_17 rfl (lv_at hl 0 rfl) ?_
        refine lv_iconst (v := 1) hx hb d_X_changes_18 (by decide) ?_
        refine lv_aload_n hx hb d_X_changes_19 rfl (lv_at hl 0 rfl) ?_
        refine va_get (D := (dC, dI)) (ci := 3) (v := .ref x3) (C := R_X) (T := F_X) (N := 13) hx hb htB i_X hown hK hP 0 rfl rfl 2 (by decide) (htB _ mw_463) (fun _ h9 => h9) rfl d_X_changes_20 ?_
        refine lv_iconst (v := 1) hx hb d_X_changes_23 (by decide) ?_
        refine iald_at hx hb hK hP 3 2 rfl rfl (show ¬ ((1 : Int32) < 0 ∨ 9 ≤ (1 : Int32).toNatClampNeg) from by decide) (show (1 : Int32).toNatClampNeg = 1 from by decide) d_X_changes_24 ?_
        refine lv_iconst (v := 1) hx hb d_X_changes_25 (by decide) ?_
        refine lv_isub hx hb d_X_changes_26 ?_
        refine lv_iconst (v := 1) hx hb d_X_changes_27 (by decide) ?_
        have hPc := hP.sub (ws' := [c_X x0 x1 x2 x3 x4 ku, c_A x3 c3 9 m3]) [0, 3] rfl
        have hDc := hD.sub (ws' := [c_X x0 x1 x2 x3 x4 ku, c_A x3 c3 9 m3]) [0, 3] (by decide) rfl
        have hKc := hK.sub (tys' := [(c3, .int)]) [2] rfl
        have hFc := va_free (wc := [c_X x0 x1 x2 x3 x4 ku, c_A x3 c3 9 m3]) hD hS hA [0, 3] rfl
        refine va_callv (va_runV (As := [.int (1 : Int32), .int ((m3 1) - (1 : Int32)), .int (1 : Int32)]) (rest := []) ⟨hx, hb, hml, hown, htB⟩ (c_X_put3 l dC dI z0 x0 x1 x2 x3 x4 c3 H.size (1 : Int32) ((m3 1) - (1 : Int32)) (1 : Int32) ku m3 (show ¬ ((1 : Int32) < 0 ∨ 9 ≤ (1 : Int32).toNatClampNeg) from by decide)) (cwV 3 htB (gd_V mw_587 mw_589 sw_X_put3 mw_4 mw_590) rfl rfl rfl (by decide +kernel) ⟨Nat.le_of_ble_eq_true rfl, Nat.le_of_ble_eq_true rfl⟩) (pcx_V (va_recv hKc hPc (ci := 3) (q0 := 0) rfl rfl) hPc hKc hDc hA0 hE hS) rfl rfl hl.1 rfl (lv_room (Nat.le_of_ble_eq_true rfl)) d_X_changes_28 ⟨Nat.zero_le _, Nat.zero_le _⟩) hS (fun q _ h => hFc q h) hFc (fun u t H1 locs ht hvm hw hB hz1 hk1 hS => ?_)
        obtain ⟨hP1, hK1, hD1⟩ := hB
        rw [ht] at hP1
        obtain ⟨hP, hD⟩ := va_join (wr := [c_A x1 c1 1024 m1, c_A x2 c2 256 m2]) (w1 := [c_X x0 x1 x2 x3 x4 ku, c_A x3 c3 9 (f_X_put3 (1 : Int32) ((m3 1) - (1 : Int32)) (1 : Int32) ku m3)]) hP hD [0, 3] [1, 2] rfl rfl (by decide) (by decide) hk1 hFc hP1 hD1
        generalize H1 = H at hP hS ⊢
        have hP : va_P (dC, dI) classes [c_X x0 x1 x2 x3 x4 ku, c_A x1 c1 1024 m1, c_A x2 c2 256 m2, c_A x3 c3 9 (f_X_put3 (1 : Int32) ((m3 1) - (1 : Int32)) (1 : Int32) ku m3)] H := hP.sub [2, 0, 1, 3] rfl
        have hD : va_D A [c_X x0 x1 x2 x3 x4 ku, c_A x1 c1 1024 m1, c_A x2 c2 256 m2, c_A x3 c3 9 (f_X_put3 (1 : Int32) ((m3 1) - (1 : Int32)) (1 : Int32) ku m3)] := hD.sub [2, 0, 1, 3] (by decide) rfl
        obtain ⟨z1, ez1⟩ : ∃ z, z = (f_X_put3 (1 : Int32) ((m3 1) - (1 : Int32)) (1 : Int32) ku m3) := ⟨_, rfl⟩
        rw [← ez1] at hP hD
        have hf : f_X_changes p1 p2 ku m1 m2 m3 = (ku, m1, m2, z1) := by rw [f_X_changes, if_pos c_1, if_neg c_2, if_pos c_3, ← ez1, f_X_changes_k30]
        exact W.vret hx hb hr (fun t ht hW => ⟨⟨(), rfl, trivial, by rw [hf]; exact ⟨by rw [ht]; exact hP, va_K.moved hW.alike hK, hD⟩⟩, hS.F ht⟩) hS.2.2 d_X_changes_31

def f_X_moves_k25 (p1 : Int32) (p2 : Int32) (ku m1 m2 m3 : Nat → Int32) (z1 : (Nat → Int32)) : (Nat → Int32) × (Nat → Int32) × (Nat → Int32) × (Nat → Int32) :=
  (ku, m1, m2, z1)
def f_X_moves_k24 (p1 : Int32) (p2 : Int32) (ku m1 m2 m3 : Nat → Int32) (z1 : (Nat → Int32)) : (Nat → Int32) × (Nat → Int32) × (Nat → Int32) × (Nat → Int32) :=
  (ku, m1, m2, z1)
def f_X_moves_k23 (p1 : Int32) (p2 : Int32) (ku m1 m2 m3 : Nat → Int32) (z1 : (Nat → Int32)) : (Nat → Int32) × (Nat → Int32) × (Nat → Int32) × (Nat → Int32) :=
  (ku, m1, m2, z1)
def f_X_moves_k22 (p1 : Int32) (p2 : Int32) (ku m1 m2 m3 : Nat → Int32) (z1 : (Nat → Int32)) : (Nat → Int32) × (Nat → Int32) × (Nat → Int32) × (Nat → Int32) :=
  (ku, m1, m2, z1)
def f_X_moves_k21 (p1 : Int32) (p2 : Int32) (ku m1 m2 m3 : Nat → Int32) (z1 : Int32 × (Nat → Int32) × (Nat → Int32)) (z2 : Int32 × (Nat → Int32)) (z3 : (Nat → Int32)) : (Nat → Int32) × (Nat → Int32) × (Nat → Int32) × (Nat → Int32) :=
  (z2.2, m1, m2, z3)
def f_X_moves_k20 (p1 : Int32) (p2 : Int32) (ku m1 m2 m3 : Nat → Int32) (z1 : Int32 × (Nat → Int32) × (Nat → Int32)) (z2 : Int32 × (Nat → Int32)) : (Nat → Int32) × (Nat → Int32) × (Nat → Int32) × (Nat → Int32) :=
  f_X_moves_k21 p1 p2 ku m1 m2 m3 z1 z2 (f_X_put3 (1 : Int32) z2.1 (1 : Int32) z2.2 z1.2.2)
def f_X_moves_k19 (p1 : Int32) (p2 : Int32) (ku m1 m2 m3 : Nat → Int32) (z1 : Int32 × (Nat → Int32) × (Nat → Int32)) : (Nat → Int32) × (Nat → Int32) × (Nat → Int32) × (Nat → Int32) :=
  f_X_moves_k20 p1 p2 ku m1 m2 m3 z1 (f_X_operand (0 : Int32) z1.1 z1.2.1 m1 z1.2.2)
def f_X_moves_k18 (p1 : Int32) (p2 : Int32) (ku m1 m2 m3 : Nat → Int32) (z1 : Int32 × (Nat → Int32) × (Nat → Int32)) (z2 : (Nat → Int32) × (Nat → Int32) × (Nat → Int32)) : (Nat → Int32) × (Nat → Int32) × (Nat → Int32) × (Nat → Int32) :=
  (z2.1, z2.2.1, z2.2.2, z1.2.2)
def f_X_moves_k17 (p1 : Int32) (p2 : Int32) (ku m1 m2 m3 : Nat → Int32) (z1 : Int32 × (Nat → Int32) × (Nat → Int32)) : (Nat → Int32) × (Nat → Int32) × (Nat → Int32) × (Nat → Int32) :=
  f_X_moves_k18 p1 p2 ku m1 m2 m3 z1 (f_X_write z1.1 (z1.2.2 1) z1.2.1 m1 m2)
def f_X_moves_k16 (p1 : Int32) (p2 : Int32) (ku m1 m2 m3 : Nat → Int32) (z1 : Int32 × (Nat → Int32) × (Nat → Int32)) (z2 : Int32 × (Nat → Int32)) (z3 : (Nat → Int32)) : (Nat → Int32) × (Nat → Int32) × (Nat → Int32) × (Nat → Int32) :=
  (z2.2, m1, m2, z3)
def f_X_moves_k15 (p1 : Int32) (p2 : Int32) (ku m1 m2 m3 : Nat → Int32) (z1 : Int32 × (Nat → Int32) × (Nat → Int32)) (z2 : Int32 × (Nat → Int32)) : (Nat → Int32) × (Nat → Int32) × (Nat → Int32) × (Nat → Int32) :=
  f_X_moves_k16 p1 p2 ku m1 m2 m3 z1 z2 (f_X_put3 (1 : Int32) z2.1 (1 : Int32) z2.2 z1.2.2)
def f_X_moves_k14 (p1 : Int32) (p2 : Int32) (ku m1 m2 m3 : Nat → Int32) (z1 : Int32 × (Nat → Int32) × (Nat → Int32)) : (Nat → Int32) × (Nat → Int32) × (Nat → Int32) × (Nat → Int32) :=
  f_X_moves_k15 p1 p2 ku m1 m2 m3 z1 (f_X_operand (1 : Int32) z1.1 z1.2.1 m1 z1.2.2)
def f_X_moves_k13 (p1 : Int32) (p2 : Int32) (ku m1 m2 m3 : Nat → Int32) (z1 : Int32 × (Nat → Int32) × (Nat → Int32)) (z2 : (Nat → Int32) × (Nat → Int32) × (Nat → Int32)) : (Nat → Int32) × (Nat → Int32) × (Nat → Int32) × (Nat → Int32) :=
  (z2.1, z2.2.1, z2.2.2, z1.2.2)
def f_X_moves_k12 (p1 : Int32) (p2 : Int32) (ku m1 m2 m3 : Nat → Int32) (z1 : Int32 × (Nat → Int32) × (Nat → Int32)) : (Nat → Int32) × (Nat → Int32) × (Nat → Int32) × (Nat → Int32) :=
  f_X_moves_k13 p1 p2 ku m1 m2 m3 z1 (f_X_write z1.1 (z1.2.2 1) z1.2.1 m1 m2)
def f_X_moves_k11 (p1 : Int32) (p2 : Int32) (ku m1 m2 m3 : Nat → Int32) (z1 : Int32 × (Nat → Int32) × (Nat → Int32)) (z2 : Int32 × (Nat → Int32)) (z3 : (Nat → Int32)) : (Nat → Int32) × (Nat → Int32) × (Nat → Int32) × (Nat → Int32) :=
  (z2.2, m1, m2, z3)
def f_X_moves_k10 (p1 : Int32) (p2 : Int32) (ku m1 m2 m3 : Nat → Int32) (z1 : Int32 × (Nat → Int32) × (Nat → Int32)) (z2 : Int32 × (Nat → Int32)) : (Nat → Int32) × (Nat → Int32) × (Nat → Int32) × (Nat → Int32) :=
  f_X_moves_k11 p1 p2 ku m1 m2 m3 z1 z2 (f_X_put3 (1 : Int32) z2.1 (1 : Int32) z2.2 z1.2.2)
def f_X_moves_k9 (p1 : Int32) (p2 : Int32) (ku m1 m2 m3 : Nat → Int32) (z1 : Int32 × (Nat → Int32) × (Nat → Int32)) : (Nat → Int32) × (Nat → Int32) × (Nat → Int32) × (Nat → Int32) :=
  f_X_moves_k10 p1 p2 ku m1 m2 m3 z1 (f_X_operand (4 : Int32) z1.1 z1.2.1 m1 z1.2.2)
def f_X_moves_k8 (p1 : Int32) (p2 : Int32) (ku m1 m2 m3 : Nat → Int32) (z1 : Int32 × (Nat → Int32) × (Nat → Int32)) (z2 : (Nat → Int32) × (Nat → Int32) × (Nat → Int32)) : (Nat → Int32) × (Nat → Int32) × (Nat → Int32) × (Nat → Int32) :=
  (z2.1, z2.2.1, z2.2.2, z1.2.2)
def f_X_moves_k7 (p1 : Int32) (p2 : Int32) (ku m1 m2 m3 : Nat → Int32) (z1 : Int32 × (Nat → Int32) × (Nat → Int32)) : (Nat → Int32) × (Nat → Int32) × (Nat → Int32) × (Nat → Int32) :=
  f_X_moves_k8 p1 p2 ku m1 m2 m3 z1 (f_X_write z1.1 (z1.2.2 1) z1.2.1 m1 m2)
def f_X_moves_k6 (p1 : Int32) (p2 : Int32) (ku m1 m2 m3 : Nat → Int32) (z1 : Int32 × (Nat → Int32) × (Nat → Int32)) (z2 : Int32 × (Nat → Int32)) (z3 : (Nat → Int32)) : (Nat → Int32) × (Nat → Int32) × (Nat → Int32) × (Nat → Int32) :=
  (z2.2, m1, m2, z3)
def f_X_moves_k5 (p1 : Int32) (p2 : Int32) (ku m1 m2 m3 : Nat → Int32) (z1 : Int32 × (Nat → Int32) × (Nat → Int32)) (z2 : Int32 × (Nat → Int32)) : (Nat → Int32) × (Nat → Int32) × (Nat → Int32) × (Nat → Int32) :=
  f_X_moves_k6 p1 p2 ku m1 m2 m3 z1 z2 (f_X_put3 (1 : Int32) z2.1 (1 : Int32) z2.2 z1.2.2)
def f_X_moves_k4 (p1 : Int32) (p2 : Int32) (ku m1 m2 m3 : Nat → Int32) (z1 : Int32 × (Nat → Int32) × (Nat → Int32)) : (Nat → Int32) × (Nat → Int32) × (Nat → Int32) × (Nat → Int32) :=
  f_X_moves_k5 p1 p2 ku m1 m2 m3 z1 (f_X_operand (3 : Int32) z1.1 z1.2.1 m1 z1.2.2)
def f_X_moves_k3 (p1 : Int32) (p2 : Int32) (ku m1 m2 m3 : Nat → Int32) (z1 : Int32 × (Nat → Int32) × (Nat → Int32)) (z2 : Int32 × (Nat → Int32)) (z3 : (Nat → Int32)) : (Nat → Int32) × (Nat → Int32) × (Nat → Int32) × (Nat → Int32) :=
  (z2.2, m1, m2, z3)
def f_X_moves_k2 (p1 : Int32) (p2 : Int32) (ku m1 m2 m3 : Nat → Int32) (z1 : Int32 × (Nat → Int32) × (Nat → Int32)) (z2 : Int32 × (Nat → Int32)) : (Nat → Int32) × (Nat → Int32) × (Nat → Int32) × (Nat → Int32) :=
  f_X_moves_k3 p1 p2 ku m1 m2 m3 z1 z2 (f_X_put3 (1 : Int32) z2.1 (1 : Int32) z2.2 z1.2.2)
def f_X_moves_k1 (p1 : Int32) (p2 : Int32) (ku m1 m2 m3 : Nat → Int32) (z1 : Int32 × (Nat → Int32) × (Nat → Int32)) : (Nat → Int32) × (Nat → Int32) × (Nat → Int32) × (Nat → Int32) :=
  f_X_moves_k2 p1 p2 ku m1 m2 m3 z1 (f_X_operand (6 : Int32) z1.1 z1.2.1 m1 z1.2.2)
def f_X_moves (p1 : Int32) (p2 : Int32) (ku m1 m2 m3 : Nat → Int32) : (Nat → Int32) × (Nat → Int32) × (Nat → Int32) × (Nat → Int32) :=
  if p2 = (2 : Int32) then
    if p1 = (4 : Int32) then
      f_X_moves_k25 p1 p2 ku m1 m2 m3 (f_X_put3 (0 : Int32) (m3 1) (1 : Int32) ku m3)
    else
      f_X_moves_k24 p1 p2 ku m1 m2 m3 (f_X_put3 (1 : Int32) (m3 0) (1 : Int32) ku m3)
  else
    if p2 = (6 : Int32) then
      if p1 = (4 : Int32) then
        f_X_moves_k23 p1 p2 ku m1 m2 m3 (f_X_put3 (3 : Int32) (m3 1) (0 : Int32) ku m3)
      else
        f_X_moves_k22 p1 p2 ku m1 m2 m3 (f_X_put3 (1 : Int32) (m3 3) (1 : Int32) ku m3)
    else
      if p2 = (0 : Int32) then
        if p1 = (4 : Int32) then
          ((upd ku 4 (4 : Int32)), m1, m2, m3)
        else
          f_X_moves_k19 p1 p2 ku m1 m2 m3 (f_X_address (0 : Int32) ku m1 m3)
      else
        if p2 = (1 : Int32) then
          if p1 = (4 : Int32) then
            if p2 = (7 : Int32) then
              ((upd ku 4 (4 : Int32)), m1, m2, m3)
            else
              f_X_moves_k17 p1 p2 ku m1 m2 m3 (f_X_address (1 : Int32) ku m1 m3)
          else
            f_X_moves_k14 p1 p2 ku m1 m2 m3 (f_X_address (1 : Int32) ku m1 m3)
        else
          if p2 = (3 : Int32) then
            if p1 = (4 : Int32) then
              if p2 = (7 : Int32) then
                ((upd ku 4 (4 : Int32)), m1, m2, m3)
              else
                f_X_moves_k12 p1 p2 ku m1 m2 m3 (f_X_address (4 : Int32) ku m1 m3)
            else
              f_X_moves_k9 p1 p2 ku m1 m2 m3 (f_X_address (4 : Int32) ku m1 m3)
          else
            if p2 = (5 : Int32) then
              if p1 = (4 : Int32) then
                if p2 = (7 : Int32) then
                  ((upd ku 4 (4 : Int32)), m1, m2, m3)
                else
                  f_X_moves_k7 p1 p2 ku m1 m2 m3 (f_X_address (3 : Int32) ku m1 m3)
              else
                f_X_moves_k4 p1 p2 ku m1 m2 m3 (f_X_address (3 : Int32) ku m1 m3)
            else
              if p2 = (7 : Int32) then
                if p1 = (4 : Int32) then
                  ((upd ku 4 (4 : Int32)), m1, m2, m3)
                else
                  f_X_moves_k1 p1 p2 ku m1 m2 m3 (f_X_address (6 : Int32) ku m1 m3)
              else
                ((upd ku 4 (4 : Int32)), m1, m2, m3)
abbrev Q_X_moves (dC : Nat → ClassId) (dI : Nat → Nat → Nat) (x0 : Nat) (x1 : Nat) (x2 : Nat) (x3 : Nat) (x4 : Nat) (c1 : ClassId) (c2 : ClassId) (c3 : ClassId) (p1 : Int32) (p2 : Int32) (ku m1 m2 m3 : Nat → Int32) (A : Nat → Prop) : Array Value → State → Outcome → State → Prop := va_Qv (fun (_ : Unit) => True) (fun _ t => atW (dC, dI) classes A [c_X x0 x1 x2 x3 x4 ((f_X_moves p1 p2 ku m1 m2 m3).1), c_A x1 c1 1024 ((f_X_moves p1 p2 ku m1 m2 m3).2.1), c_A x2 c2 256 ((f_X_moves p1 p2 ku m1 m2 m3).2.2.1), c_A x3 c3 9 ((f_X_moves p1 p2 ku m1 m2 m3).2.2.2)] [(c1, .int), (c2, .int), (c3, .int)] t) A
set_option maxHeartbeats 4000000 in
set_option maxRecDepth 100000 in
theorem c_X_moves (l : Launch) (dC : Nat → ClassId) (dI : Nat → Nat → Nat) (z0 : Nat) (x0 : Nat) (x1 : Nat) (x2 : Nat) (x3 : Nat) (x4 : Nat) (c1 : ClassId) (c2 : ClassId) (c3 : ClassId) (sz : Nat) (p1 : Int32) (p2 : Int32) (ku m1 m2 m3 : Nat → Int32) (hxs : xs_ok ku) : Met l y_X_moves w_X_moves ({ frames := 4, cells := 0, slots := 0, locals := 85 }) (PcX (dC, dI) classes z0 [c_X x0 x1 x2 x3 x4 ku, c_A x1 c1 1024 m1, c_A x2 c2 256 m2, c_A x3 c3 9 m3] [(c1, .int), (c2, .int), (c3, .int)] sz [.ref x0, .int p1, .int p2]) (Q_X_moves dC dI x0 x1 x2 x3 x4 c1 c2 c3 p1 p2 ku m1 m2 m3 (va_A [c_X x0 x1 x2 x3 x4 ku, c_A x1 c1 1024 m1, c_A x2 c2 256 m2, c_A x3 c3 9 m3] sz)) 0 0 (va_A [c_X x0 x1 x2 x3 x4 ku, c_A x1 c1 1024 m1, c_A x2 c2 256 m2, c_A x3 c3 9 m3] sz) := by
  refine hdX (cc := b_X_moves) (maxL := 5) (ret := none) (C := R_X) (Qc := (Q_X_moves dC dI x0 x1 x2 x3 x4 c1 c2 c3 p1 p2 ku m1 m2 m3)) (by decide) rfl ?_
  intro p e s m below meth c A H hx hb hr hlocks hml hown hin htB hP hK hD hA hA0 hE hS
  have hl := lv_entry ([.ref x0, .int p1, .int p2]) (n := 5) (Nat.le_of_ble_eq_true rfl)
  rw [lg_entry_eq]
  generalize (lg_sl ([.ref x0, .int p1, .int p2]) ++ List.replicate (5 - (lg_sl ([.ref x0, .int p1, .int p2])).length) Slot.unset).toArray = ls at hl ⊢
  have hl : lv_has ls 5 [(0, .ref x0), (1, .int p1), (2, .int p2)] := hl
  refine lv_iload_n hx hb d_X_moves_0 rfl (lv_at hl 2 rfl) ?_
  refine lv_iconst (v := 2) hx hb d_X_moves_1 (by decide) ?_
  refine lv_icmp_ne (tgt := 40) hx hb d_X_moves_2 (by decide) (fun c_1 => ?_) (fun c_1 => ?_)
  · refine lv_iload_n hx hb d_X_moves_40 rfl (lv_at hl 2 rfl) ?_
    refine lv_bipush (v := 6) hx hb d_X_moves_41 (by decide) ?_
    refine lv_icmp_ne (tgt := 81) hx hb d_X_moves_43 (by decide) (fun c_2 => ?_) (fun c_2 => ?_)
    · refine lv_iload_n hx hb d_X_moves_81 rfl (lv_at hl 2 rfl) ?_
      refine lv_if_ne (tgt := 89) hx hb d_X_moves_82 (by decide) (fun c_3 => ?_) (fun c_3 => ?_)
      · refine lv_iload_n hx hb d_X_moves_89 rfl (lv_at hl 2 rfl) ?_
        refine lv_iconst (v := 1) hx hb d_X_moves_90 (by decide) ?_
        refine lv_icmp_ne (tgt := 98) hx hb d_X_moves_91 (by decide) (fun c_4 => ?_) (fun c_4 => ?_)
        · refine lv_iload_n hx hb d_X_moves_98 rfl (lv_at hl 2 rfl) ?_
          refine lv_iconst (v := 3) hx hb d_X_moves_99 (by decide) ?_
          refine lv_icmp_ne (tgt := 107) hx hb d_X_moves_100 (by decide) (fun c_5 => ?_) (fun c_5 => ?_)
          · refine lv_iload_n hx hb d_X_moves_107 rfl (lv_at hl 2 rfl) ?_
            refine lv_iconst (v := 5) hx hb d_X_moves_108 (by decide) ?_
            refine lv_icmp_ne (tgt := 116) hx hb d_X_moves_109 (by decide) (fun c_6 => ?_) (fun c_6 => ?_)
            · refine lv_iload_n hx hb d_X_moves_116 rfl (lv_at hl 2 rfl) ?_
              refine lv_bipush (v := 7) hx hb d_X_moves_117 (by decide) ?_
              refine lv_icmp_ne (tgt := 127) hx hb d_X_moves_119 (by decide) (fun c_7 => ?_) (fun c_7 => ?_)
              · refine lv_iconst (v := -1) hx hb d_X_moves_127 (by decide) ?_
                refine lv_istore_n (lv' := [(3, .int (-1 : Int32)), (0, .ref x0), (1, .int p1), (2, .int p2)]) hx hb d_X_moves_128 rfl hl (by decide) rfl (fun ls hl => ?_)
                refine lv_iload_n hx hb d_X_moves_129 rfl (lv_at hl 0 rfl) ?_
                refine lv_if_lt (tgt := 148) hx hb d_X_moves_130 (by decide) (fun _ => ?_) (fun c9 => absurd (show (-1 : Int32) < (0 : Int32) from by decide) c9)
                refine lv_aload_n hx hb d_X_moves_148 rfl (lv_at hl 1 rfl) ?_
                refine lv_iconst (v := 4) hx hb d_X_moves_149 (by decide) ?_
                refine va_put (D := (dC, dI)) (ci := 3) (v := .int (4 : Int32)) (ty := .int) (C := R_X) (T := F_X) (N := 13) hx hb htB i_X t_X t_X_ok n_X hown hK hP hD hS 0 rfl rfl 8 (by decide) (htB _ mw_469) (fun _ h9 => h9) rfl (by decide +kernel) rfl rfl (Nat.le_of_ble_eq_true rfl) d_X_moves_150 (fun H locs hP hD hS => ?_)
                have hP : va_P (dC, dI) classes [c_X x0 x1 x2 x3 x4 (upd ku 4 (4 : Int32)), c_A x1 c1 1024 m1, c_A x2 c2 256 m2, c_A x3 c3 9 m3] H := hP
                have hD : va_D A [c_X x0 x1 x2 x3 x4 (upd ku 4 (4 : Int32)), c_A x1 c1 1024 m1, c_A x2 c2 256 m2, c_A x3 c3 9 m3] := hD
                have hf : f_X_moves p1 p2 ku m1 m2 m3 = ((upd ku 4 (4 : Int32)), m1, m2, m3) := by rw [f_X_moves, if_neg c_1, if_neg c_2, if_neg c_3, if_neg c_4, if_neg c_5, if_neg c_6, if_neg c_7]
                exact W.vret hx hb hr (fun t ht hW => ⟨⟨(), rfl, trivial, by rw [hf]; exact ⟨by rw [ht]; exact hP, va_K.moved hW.alike hK, hD⟩⟩, hS.F ht⟩) hS.2.2 d_X_moves_153
              · refine lv_bipush (v := 6) hx hb d_X_moves_122 (by decide) ?_
                refine lv_goto (tgt := 128) hx hb d_X_moves_124 (by decide) ?_
                refine lv_istore_n (lv' := [(3, .int (6 : Int32)), (0, .ref x0), (1, .int p1), (2, .int p2)]) hx hb d_X_moves_128 rfl hl (by decide) rfl (fun ls hl => ?_)
                refine lv_iload_n hx hb d_X_moves_129 rfl (lv_at hl 0 rfl) ?_
                refine lv_if_lt (tgt := 148) hx hb d_X_moves_130 (by decide) (fun c9 => absurd c9 (by decide)) (fun _ => ?_)
                refine lv_iload_n hx hb d_X_moves_133 rfl (lv_at hl 2 rfl) ?_
                refine lv_iconst (v := 4) hx hb d_X_moves_134 (by decide) ?_
                refine lv_icmp_ne (tgt := 154) hx hb d_X_moves_135 (by decide) (fun c_8 => ?_) (fun c_8 => ?_)
                · refine lv_aload_n hx hb d_X_moves_154 rfl (lv_at hl 1 rfl) ?_
                  refine lv_iload_n hx hb d_X_moves_155 rfl (lv_at hl 0 rfl) ?_
                  have hPc := hP.sub (ws' := [c_X x0 x1 x2 x3 x4 ku, c_A x1 c1 1024 m1, c_A x3 c3 9 m3]) [0, 1, 3] rfl
                  have hDc := hD.sub (ws' := [c_X x0 x1 x2 x3 x4 ku, c_A x1 c1 1024 m1, c_A x3 c3 9 m3]) [0, 1, 3] (by decide) rfl
                  have hKc := hK.sub (tys' := [(c1, .int), (c3, .int)]) [0, 2] rfl
                  have hFc := va_free (wc := [c_X x0 x1 x2 x3 x4 ku, c_A x1 c1 1024 m1, c_A x3 c3 9 m3]) hD hS hA [0, 1, 3] rfl
                  refine va_calli (va_runV (As := [.int (6 : Int32)]) (rest := []) ⟨hx, hb, hml, hown, htB⟩ (c_X_address l dC dI z0 x0 x1 x2 x3 x4 c1 c3 H.size (6 : Int32) ku m1 m3) (cwV 1 htB (gd_V mw_563 mw_565 sw_X_address mw_4 mw_566) rfl rfl rfl (by decide +kernel) ⟨Nat.le_of_ble_eq_true rfl, Nat.le_of_ble_eq_true rfl⟩) (pcx_V (va_recv hKc hPc (ci := 3) (q0 := 0) rfl rfl) hPc hKc hDc hA0 hE hS) rfl rfl hl.1 rfl (lv_room (Nat.le_of_ble_eq_true rfl)) d_X_moves_156 ⟨Nat.zero_le _, Nat.zero_le _⟩) hS (fun q _ h => hFc q h) hFc (fun r9 u t H1 locs ht hvm hw hB hz1 hk1 hS => ?_)
                  subst hw
                  obtain ⟨hP1, hK1, hD1⟩ := hB
                  rw [ht] at hP1
                  obtain ⟨hP, hD⟩ := va_join (wr := [c_A x2 c2 256 m2]) (w1 := [c_X x0 x1 x2 x3 x4 ((f_X_address (6 : Int32) ku m1 m3).2.1), c_A x1 c1 1024 m1, c_A x3 c3 9 ((f_X_address (6 : Int32) ku m1 m3).2.2)]) hP hD [0, 1, 3] [2] rfl rfl (by decide) (by decide) hk1 hFc hP1 hD1
                  generalize H1 = H at hP hS ⊢
                  have hP : va_P (dC, dI) classes [c_X x0 x1 x2 x3 x4 ((f_X_address (6 : Int32) ku m1 m3).2.1), c_A x1 c1 1024 m1, c_A x2 c2 256 m2, c_A x3 c3 9 ((f_X_address (6 : Int32) ku m1 m3).2.2)] H := hP.sub [1, 2, 0, 3] rfl
                  have hD : va_D A [c_X x0 x1 x2 x3 x4 ((f_X_address (6 : Int32) ku m1 m3).2.1), c_A x1 c1 1024 m1, c_A x2 c2 256 m2, c_A x3 c3 9 ((f_X_address (6 : Int32) ku m1 m3).2.2)] := hD.sub [1, 2, 0, 3] (by decide) rfl
                  obtain ⟨z1, ez1⟩ : ∃ z, z = (f_X_address (6 : Int32) ku m1 m3) := ⟨_, rfl⟩
                  rw [← ez1] at hP hD ⊢
                  refine lv_istore (lv' := [(4, .int z1.1), (3, .int (6 : Int32)), (0, .ref x0), (1, .int p1), (2, .int p2)]) hx hb d_X_moves_159 hl (by decide) rfl (fun ls hl => ?_)
                  refine lv_iload_n hx hb d_X_moves_161 rfl (lv_at hl 3 rfl) ?_
                  refine lv_iconst (v := 4) hx hb d_X_moves_162 (by decide) ?_
                  refine lv_icmp_ne (tgt := 181) hx hb d_X_moves_163 (by decide) (fun _ => ?_) (fun c9 => absurd c9 c_8)
                  refine lv_aload_n hx hb d_X_moves_181 rfl (lv_at hl 2 rfl) ?_
                  refine lv_iconst (v := 1) hx hb d_X_moves_182 (by decide) ?_
                  refine lv_aload_n hx hb d_X_moves_183 rfl (lv_at hl 2 rfl) ?_
                  refine lv_iload_n hx hb d_X_moves_184 rfl (lv_at hl 1 rfl) ?_
                  refine lv_iload hx hb d_X_moves_185 (lv_at hl 0 rfl) ?_
                  have hPc := hP.sub (ws' := [c_X x0 x1 x2 x3 x4 z1.2.1, c_A x1 c1 1024 m1, c_A x3 c3 9 z1.2.2]) [0, 1, 3] rfl
                  have hDc := hD.sub (ws' := [c_X x0 x1 x2 x3 x4 z1.2.1, c_A x1 c1 1024 m1, c_A x3 c3 9 z1.2.2]) [0, 1, 3] (by decide) rfl
                  have hKc := hK.sub (tys' := [(c1, .int), (c3, .int)]) [0, 2] rfl
                  have hFc := va_free (wc := [c_X x0 x1 x2 x3 x4 z1.2.1, c_A x1 c1 1024 m1, c_A x3 c3 9 z1.2.2]) hD hS hA [0, 1, 3] rfl
                  refine va_calli (va_runV (As := [.int (6 : Int32), .int z1.1]) (rest := [.int (1 : Int32), .ref x0]) ⟨hx, hb, hml, hown, htB⟩ (c_X_operand l dC dI z0 x0 x1 x2 x3 x4 c1 c3 H.size (6 : Int32) z1.1 z1.2.1 m1 z1.2.2) (cwV 2 htB (gd_V mw_583 mw_585 sw_X_operand mw_4 mw_586) rfl rfl rfl (by decide +kernel) ⟨Nat.le_of_ble_eq_true rfl, Nat.le_of_ble_eq_true rfl⟩) (pcx_V (va_recv hKc hPc (ci := 3) (q0 := 0) rfl rfl) hPc hKc hDc hA0 hE hS) rfl rfl hl.1 rfl (lv_room (Nat.le_of_ble_eq_true rfl)) d_X_moves_187 ⟨Nat.zero_le _, Nat.zero_le _⟩) hS (fun q _ h => hFc q h) hFc (fun r9 u t H1 locs ht hvm hw hB hz1 hk1 hS => ?_)
                  subst hw
                  obtain ⟨hP1, hK1, hD1⟩ := hB
                  rw [ht] at hP1
                  obtain ⟨hP, hD⟩ := va_join (wr := [c_A x2 c2 256 m2]) (w1 := [c_X x0 x1 x2 x3 x4 ((f_X_operand (6 : Int32) z1.1 z1.2.1 m1 z1.2.2).2), c_A x1 c1 1024 m1, c_A x3 c3 9 z1.2.2]) hP hD [0, 1, 3] [2] rfl rfl (by decide) (by decide) hk1 hFc hP1 hD1
                  generalize H1 = H at hP hS ⊢
                  have hP : va_P (dC, dI) classes [c_X x0 x1 x2 x3 x4 ((f_X_operand (6 : Int32) z1.1 z1.2.1 m1 z1.2.2).2), c_A x1 c1 1024 m1, c_A x2 c2 256 m2, c_A x3 c3 9 z1.2.2] H := hP.sub [1, 2, 0, 3] rfl
                  have hD : va_D A [c_X x0 x1 x2 x3 x4 ((f_X_operand (6 : Int32) z1.1 z1.2.1 m1 z1.2.2).2), c_A x1 c1 1024 m1, c_A x2 c2 256 m2, c_A x3 c3 9 z1.2.2] := hD.sub [1, 2, 0, 3] (by decide) rfl
                  obtain ⟨z2, ez2⟩ : ∃ z, z = (f_X_operand (6 : Int32) z1.1 z1.2.1 m1 z1.2.2) := ⟨_, rfl⟩
                  rw [← ez2] at hP hD ⊢
                  refine lv_iconst (v := 1) hx hb d_X_moves_190 (by decide) ?_
                  have hPc := hP.sub (ws' := [c_X x0 x1 x2 x3 x4 z2.2, c_A x3 c3 9 z1.2.2]) [0, 3] rfl
                  have hDc := hD.sub (ws' := [c_X x0 x1 x2 x3 x4 z2.2, c_A x3 c3 9 z1.2.2]) [0, 3] (by decide) rfl
                  have hKc := hK.sub (tys' := [(c3, .int)]) [2] rfl
                  have hFc := va_free (wc := [c_X x0 x1 x2 x3 x4 z2.2, c_A x3 c3 9 z1.2.2]) hD hS hA [0, 3] rfl
                  refine va_callv (va_runV (As := [.int (1 : Int32), .int z2.1, .int (1 : Int32)]) (rest := []) ⟨hx, hb, hml, hown, htB⟩ (c_X_put3 l dC dI z0 x0 x1 x2 x3 x4 c3 H.size (1 : Int32) z2.1 (1 : Int32) z2.2 z1.2.2 (show ¬ ((1 : Int32) < 0 ∨ 9 ≤ (1 : Int32).toNatClampNeg) from by decide)) (cwV 3 htB (gd_V mw_587 mw_589 sw_X_put3 mw_4 mw_590) rfl rfl rfl (by decide +kernel) ⟨Nat.le_of_ble_eq_true rfl, Nat.le_of_ble_eq_true rfl⟩) (pcx_V (va_recv hKc hPc (ci := 3) (q0 := 0) rfl rfl) hPc hKc hDc hA0 hE hS) rfl rfl hl.1 rfl (lv_room (Nat.le_of_ble_eq_true rfl)) d_X_moves_191 ⟨Nat.zero_le _, Nat.zero_le _⟩) hS (fun q _ h => hFc q h) hFc (fun u t H1 locs ht hvm hw hB hz1 hk1 hS => ?_)
                  obtain ⟨hP1, hK1, hD1⟩ := hB
                  rw [ht] at hP1
                  obtain ⟨hP, hD⟩ := va_join (wr := [c_A x1 c1 1024 m1, c_A x2 c2 256 m2]) (w1 := [c_X x0 x1 x2 x3 x4 z2.2, c_A x3 c3 9 (f_X_put3 (1 : Int32) z2.1 (1 : Int32) z2.2 z1.2.2)]) hP hD [0, 3] [1, 2] rfl rfl (by decide) (by decide) hk1 hFc hP1 hD1
                  generalize H1 = H at hP hS ⊢
                  have hP : va_P (dC, dI) classes [c_X x0 x1 x2 x3 x4 z2.2, c_A x1 c1 1024 m1, c_A x2 c2 256 m2, c_A x3 c3 9 (f_X_put3 (1 : Int32) z2.1 (1 : Int32) z2.2 z1.2.2)] H := hP.sub [2, 0, 1, 3] rfl
                  have hD : va_D A [c_X x0 x1 x2 x3 x4 z2.2, c_A x1 c1 1024 m1, c_A x2 c2 256 m2, c_A x3 c3 9 (f_X_put3 (1 : Int32) z2.1 (1 : Int32) z2.2 z1.2.2)] := hD.sub [2, 0, 1, 3] (by decide) rfl
                  obtain ⟨z3, ez3⟩ : ∃ z, z = (f_X_put3 (1 : Int32) z2.1 (1 : Int32) z2.2 z1.2.2) := ⟨_, rfl⟩
                  rw [← ez3] at hP hD
                  have hf : f_X_moves p1 p2 ku m1 m2 m3 = (z2.2, m1, m2, z3) := by rw [f_X_moves, if_neg c_1, if_neg c_2, if_neg c_3, if_neg c_4, if_neg c_5, if_neg c_6, if_pos c_7, if_neg c_8, ← ez1, f_X_moves_k1, ← ez2, f_X_moves_k2, ← ez3, f_X_moves_k3]
                  exact W.vret hx hb hr (fun t ht hW => ⟨⟨(), rfl, trivial, by rw [hf]; exact ⟨by rw [ht]; exact hP, va_K.moved hW.alike hK, hD⟩⟩, hS.F ht⟩) hS.2.2 d_X_moves_194
                · refine lv_iload_n hx hb d_X_moves_138 rfl (lv_at hl 3 rfl) ?_
                  refine lv_if_eq (tgt := 148) hx hb d_X_moves_139 (by decide) (fun c9 => absurd c9 c_3) (fun _ => ?_)
                  refine lv_iload_n hx hb d_X_moves_142 rfl (lv_at hl 3 rfl) ?_
                  refine lv_bipush (v := 7) hx hb d_X_moves_143 (by decide) ?_
                  refine lv_icmp_ne (tgt := 154) hx hb d_X_moves_145 (by decide) (fun c9 => absurd c_7 c9) (fun _ => ?_)
                  refine lv_aload_n hx hb d_X_moves_148 rfl (lv_at hl 1 rfl) ?_
                  refine lv_iconst (v := 4) hx hb d_X_moves_149 (by decide) ?_
                  refine va_put (D := (dC, dI)) (ci := 3) (v := .int (4 : Int32)) (ty := .int) (C := R_X) (T := F_X) (N := 13) hx hb htB i_X t_X t_X_ok n_X hown hK hP hD hS 0 rfl rfl 8 (by decide) (htB _ mw_469) (fun _ h9 => h9) rfl (by decide +kernel) rfl rfl (Nat.le_of_ble_eq_true rfl) d_X_moves_150 (fun H locs hP hD hS => ?_)
                  have hP : va_P (dC, dI) classes [c_X x0 x1 x2 x3 x4 (upd ku 4 (4 : Int32)), c_A x1 c1 1024 m1, c_A x2 c2 256 m2, c_A x3 c3 9 m3] H := hP
                  have hD : va_D A [c_X x0 x1 x2 x3 x4 (upd ku 4 (4 : Int32)), c_A x1 c1 1024 m1, c_A x2 c2 256 m2, c_A x3 c3 9 m3] := hD
                  have hf : f_X_moves p1 p2 ku m1 m2 m3 = ((upd ku 4 (4 : Int32)), m1, m2, m3) := by rw [f_X_moves, if_neg c_1, if_neg c_2, if_neg c_3, if_neg c_4, if_neg c_5, if_neg c_6, if_pos c_7, if_pos c_8]
                  exact W.vret hx hb hr (fun t ht hW => ⟨⟨(), rfl, trivial, by rw [hf]; exact ⟨by rw [ht]; exact hP, va_K.moved hW.alike hK, hD⟩⟩, hS.F ht⟩) hS.2.2 d_X_moves_153
            · refine lv_iconst (v := 3) hx hb d_X_moves_112 (by decide) ?_
              refine lv_goto (tgt := 128) hx hb d_X_moves_113 (by decide) ?_
              refine lv_istore_n (lv' := [(3, .int (3 : Int32)), (0, .ref x0), (1, .int p1), (2, .int p2)]) hx hb d_X_moves_128 rfl hl (by decide) rfl (fun ls hl => ?_)
              refine lv_iload_n hx hb d_X_moves_129 rfl (lv_at hl 0 rfl) ?_
              refine lv_if_lt (tgt := 148) hx hb d_X_moves_130 (by decide) (fun c9 => absurd c9 (by decide)) (fun _ => ?_)
              refine lv_iload_n hx hb d_X_moves_133 rfl (lv_at hl 2 rfl) ?_
              refine lv_iconst (v := 4) hx hb d_X_moves_134 (by decide) ?_
              refine lv_icmp_ne (tgt := 154) hx hb d_X_moves_135 (by decide) (fun c_7 => ?_) (fun c_7 => ?_)
              · refine lv_aload_n hx hb d_X_moves_154 rfl (lv_at hl 1 rfl) ?_
                refine lv_iload_n hx hb d_X_moves_155 rfl (lv_at hl 0 rfl) ?_
                have hPc := hP.sub (ws' := [c_X x0 x1 x2 x3 x4 ku, c_A x1 c1 1024 m1, c_A x3 c3 9 m3]) [0, 1, 3] rfl
                have hDc := hD.sub (ws' := [c_X x0 x1 x2 x3 x4 ku, c_A x1 c1 1024 m1, c_A x3 c3 9 m3]) [0, 1, 3] (by decide) rfl
                have hKc := hK.sub (tys' := [(c1, .int), (c3, .int)]) [0, 2] rfl
                have hFc := va_free (wc := [c_X x0 x1 x2 x3 x4 ku, c_A x1 c1 1024 m1, c_A x3 c3 9 m3]) hD hS hA [0, 1, 3] rfl
                refine va_calli (va_runV (As := [.int (3 : Int32)]) (rest := []) ⟨hx, hb, hml, hown, htB⟩ (c_X_address l dC dI z0 x0 x1 x2 x3 x4 c1 c3 H.size (3 : Int32) ku m1 m3) (cwV 1 htB (gd_V mw_563 mw_565 sw_X_address mw_4 mw_566) rfl rfl rfl (by decide +kernel) ⟨Nat.le_of_ble_eq_true rfl, Nat.le_of_ble_eq_true rfl⟩) (pcx_V (va_recv hKc hPc (ci := 3) (q0 := 0) rfl rfl) hPc hKc hDc hA0 hE hS) rfl rfl hl.1 rfl (lv_room (Nat.le_of_ble_eq_true rfl)) d_X_moves_156 ⟨Nat.zero_le _, Nat.zero_le _⟩) hS (fun q _ h => hFc q h) hFc (fun r9 u t H1 locs ht hvm hw hB hz1 hk1 hS => ?_)
                subst hw
                obtain ⟨hP1, hK1, hD1⟩ := hB
                rw [ht] at hP1
                obtain ⟨hP, hD⟩ := va_join (wr := [c_A x2 c2 256 m2]) (w1 := [c_X x0 x1 x2 x3 x4 ((f_X_address (3 : Int32) ku m1 m3).2.1), c_A x1 c1 1024 m1, c_A x3 c3 9 ((f_X_address (3 : Int32) ku m1 m3).2.2)]) hP hD [0, 1, 3] [2] rfl rfl (by decide) (by decide) hk1 hFc hP1 hD1
                generalize H1 = H at hP hS ⊢
                have hP : va_P (dC, dI) classes [c_X x0 x1 x2 x3 x4 ((f_X_address (3 : Int32) ku m1 m3).2.1), c_A x1 c1 1024 m1, c_A x2 c2 256 m2, c_A x3 c3 9 ((f_X_address (3 : Int32) ku m1 m3).2.2)] H := hP.sub [1, 2, 0, 3] rfl
                have hD : va_D A [c_X x0 x1 x2 x3 x4 ((f_X_address (3 : Int32) ku m1 m3).2.1), c_A x1 c1 1024 m1, c_A x2 c2 256 m2, c_A x3 c3 9 ((f_X_address (3 : Int32) ku m1 m3).2.2)] := hD.sub [1, 2, 0, 3] (by decide) rfl
                obtain ⟨z1, ez1⟩ : ∃ z, z = (f_X_address (3 : Int32) ku m1 m3) := ⟨_, rfl⟩
                rw [← ez1] at hP hD ⊢
                refine lv_istore (lv' := [(4, .int z1.1), (3, .int (3 : Int32)), (0, .ref x0), (1, .int p1), (2, .int p2)]) hx hb d_X_moves_159 hl (by decide) rfl (fun ls hl => ?_)
                refine lv_iload_n hx hb d_X_moves_161 rfl (lv_at hl 3 rfl) ?_
                refine lv_iconst (v := 4) hx hb d_X_moves_162 (by decide) ?_
                refine lv_icmp_ne (tgt := 181) hx hb d_X_moves_163 (by decide) (fun _ => ?_) (fun c9 => absurd c9 c_7)
                refine lv_aload_n hx hb d_X_moves_181 rfl (lv_at hl 2 rfl) ?_
                refine lv_iconst (v := 1) hx hb d_X_moves_182 (by decide) ?_
                refine lv_aload_n hx hb d_X_moves_183 rfl (lv_at hl 2 rfl) ?_
                refine lv_iload_n hx hb d_X_moves_184 rfl (lv_at hl 1 rfl) ?_
                refine lv_iload hx hb d_X_moves_185 (lv_at hl 0 rfl) ?_
                have hPc := hP.sub (ws' := [c_X x0 x1 x2 x3 x4 z1.2.1, c_A x1 c1 1024 m1, c_A x3 c3 9 z1.2.2]) [0, 1, 3] rfl
                have hDc := hD.sub (ws' := [c_X x0 x1 x2 x3 x4 z1.2.1, c_A x1 c1 1024 m1, c_A x3 c3 9 z1.2.2]) [0, 1, 3] (by decide) rfl
                have hKc := hK.sub (tys' := [(c1, .int), (c3, .int)]) [0, 2] rfl
                have hFc := va_free (wc := [c_X x0 x1 x2 x3 x4 z1.2.1, c_A x1 c1 1024 m1, c_A x3 c3 9 z1.2.2]) hD hS hA [0, 1, 3] rfl
                refine va_calli (va_runV (As := [.int (3 : Int32), .int z1.1]) (rest := [.int (1 : Int32), .ref x0]) ⟨hx, hb, hml, hown, htB⟩ (c_X_operand l dC dI z0 x0 x1 x2 x3 x4 c1 c3 H.size (3 : Int32) z1.1 z1.2.1 m1 z1.2.2) (cwV 2 htB (gd_V mw_583 mw_585 sw_X_operand mw_4 mw_586) rfl rfl rfl (by decide +kernel) ⟨Nat.le_of_ble_eq_true rfl, Nat.le_of_ble_eq_true rfl⟩) (pcx_V (va_recv hKc hPc (ci := 3) (q0 := 0) rfl rfl) hPc hKc hDc hA0 hE hS) rfl rfl hl.1 rfl (lv_room (Nat.le_of_ble_eq_true rfl)) d_X_moves_187 ⟨Nat.zero_le _, Nat.zero_le _⟩) hS (fun q _ h => hFc q h) hFc (fun r9 u t H1 locs ht hvm hw hB hz1 hk1 hS => ?_)
                subst hw
                obtain ⟨hP1, hK1, hD1⟩ := hB
                rw [ht] at hP1
                obtain ⟨hP, hD⟩ := va_join (wr := [c_A x2 c2 256 m2]) (w1 := [c_X x0 x1 x2 x3 x4 ((f_X_operand (3 : Int32) z1.1 z1.2.1 m1 z1.2.2).2), c_A x1 c1 1024 m1, c_A x3 c3 9 z1.2.2]) hP hD [0, 1, 3] [2] rfl rfl (by decide) (by decide) hk1 hFc hP1 hD1
                generalize H1 = H at hP hS ⊢
                have hP : va_P (dC, dI) classes [c_X x0 x1 x2 x3 x4 ((f_X_operand (3 : Int32) z1.1 z1.2.1 m1 z1.2.2).2), c_A x1 c1 1024 m1, c_A x2 c2 256 m2, c_A x3 c3 9 z1.2.2] H := hP.sub [1, 2, 0, 3] rfl
                have hD : va_D A [c_X x0 x1 x2 x3 x4 ((f_X_operand (3 : Int32) z1.1 z1.2.1 m1 z1.2.2).2), c_A x1 c1 1024 m1, c_A x2 c2 256 m2, c_A x3 c3 9 z1.2.2] := hD.sub [1, 2, 0, 3] (by decide) rfl
                obtain ⟨z2, ez2⟩ : ∃ z, z = (f_X_operand (3 : Int32) z1.1 z1.2.1 m1 z1.2.2) := ⟨_, rfl⟩
                rw [← ez2] at hP hD ⊢
                refine lv_iconst (v := 1) hx hb d_X_moves_190 (by decide) ?_
                have hPc := hP.sub (ws' := [c_X x0 x1 x2 x3 x4 z2.2, c_A x3 c3 9 z1.2.2]) [0, 3] rfl
                have hDc := hD.sub (ws' := [c_X x0 x1 x2 x3 x4 z2.2, c_A x3 c3 9 z1.2.2]) [0, 3] (by decide) rfl
                have hKc := hK.sub (tys' := [(c3, .int)]) [2] rfl
                have hFc := va_free (wc := [c_X x0 x1 x2 x3 x4 z2.2, c_A x3 c3 9 z1.2.2]) hD hS hA [0, 3] rfl
                refine va_callv (va_runV (As := [.int (1 : Int32), .int z2.1, .int (1 : Int32)]) (rest := []) ⟨hx, hb, hml, hown, htB⟩ (c_X_put3 l dC dI z0 x0 x1 x2 x3 x4 c3 H.size (1 : Int32) z2.1 (1 : Int32) z2.2 z1.2.2 (show ¬ ((1 : Int32) < 0 ∨ 9 ≤ (1 : Int32).toNatClampNeg) from by decide)) (cwV 3 htB (gd_V mw_587 mw_589 sw_X_put3 mw_4 mw_590) rfl rfl rfl (by decide +kernel) ⟨Nat.le_of_ble_eq_true rfl, Nat.le_of_ble_eq_true rfl⟩) (pcx_V (va_recv hKc hPc (ci := 3) (q0 := 0) rfl rfl) hPc hKc hDc hA0 hE hS) rfl rfl hl.1 rfl (lv_room (Nat.le_of_ble_eq_true rfl)) d_X_moves_191 ⟨Nat.zero_le _, Nat.zero_le _⟩) hS (fun q _ h => hFc q h) hFc (fun u t H1 locs ht hvm hw hB hz1 hk1 hS => ?_)
                obtain ⟨hP1, hK1, hD1⟩ := hB
                rw [ht] at hP1
                obtain ⟨hP, hD⟩ := va_join (wr := [c_A x1 c1 1024 m1, c_A x2 c2 256 m2]) (w1 := [c_X x0 x1 x2 x3 x4 z2.2, c_A x3 c3 9 (f_X_put3 (1 : Int32) z2.1 (1 : Int32) z2.2 z1.2.2)]) hP hD [0, 3] [1, 2] rfl rfl (by decide) (by decide) hk1 hFc hP1 hD1
                generalize H1 = H at hP hS ⊢
                have hP : va_P (dC, dI) classes [c_X x0 x1 x2 x3 x4 z2.2, c_A x1 c1 1024 m1, c_A x2 c2 256 m2, c_A x3 c3 9 (f_X_put3 (1 : Int32) z2.1 (1 : Int32) z2.2 z1.2.2)] H := hP.sub [2, 0, 1, 3] rfl
                have hD : va_D A [c_X x0 x1 x2 x3 x4 z2.2, c_A x1 c1 1024 m1, c_A x2 c2 256 m2, c_A x3 c3 9 (f_X_put3 (1 : Int32) z2.1 (1 : Int32) z2.2 z1.2.2)] := hD.sub [2, 0, 1, 3] (by decide) rfl
                obtain ⟨z3, ez3⟩ : ∃ z, z = (f_X_put3 (1 : Int32) z2.1 (1 : Int32) z2.2 z1.2.2) := ⟨_, rfl⟩
                rw [← ez3] at hP hD
                have hf : f_X_moves p1 p2 ku m1 m2 m3 = (z2.2, m1, m2, z3) := by rw [f_X_moves, if_neg c_1, if_neg c_2, if_neg c_3, if_neg c_4, if_neg c_5, if_pos c_6, if_neg c_7, ← ez1, f_X_moves_k4, ← ez2, f_X_moves_k5, ← ez3, f_X_moves_k6]
                exact W.vret hx hb hr (fun t ht hW => ⟨⟨(), rfl, trivial, by rw [hf]; exact ⟨by rw [ht]; exact hP, va_K.moved hW.alike hK, hD⟩⟩, hS.F ht⟩) hS.2.2 d_X_moves_194
              · refine lv_iload_n hx hb d_X_moves_138 rfl (lv_at hl 3 rfl) ?_
                refine lv_if_eq (tgt := 148) hx hb d_X_moves_139 (by decide) (fun c9 => absurd c9 c_3) (fun _ => ?_)
                refine lv_iload_n hx hb d_X_moves_142 rfl (lv_at hl 3 rfl) ?_
                refine lv_bipush (v := 7) hx hb d_X_moves_143 (by decide) ?_
                refine lv_icmp_ne (tgt := 154) hx hb d_X_moves_145 (by decide) (fun c_8 => ?_) (fun c_8 => ?_)
                · refine lv_aload_n hx hb d_X_moves_154 rfl (lv_at hl 1 rfl) ?_
                  refine lv_iload_n hx hb d_X_moves_155 rfl (lv_at hl 0 rfl) ?_
                  have hPc := hP.sub (ws' := [c_X x0 x1 x2 x3 x4 ku, c_A x1 c1 1024 m1, c_A x3 c3 9 m3]) [0, 1, 3] rfl
                  have hDc := hD.sub (ws' := [c_X x0 x1 x2 x3 x4 ku, c_A x1 c1 1024 m1, c_A x3 c3 9 m3]) [0, 1, 3] (by decide) rfl
                  have hKc := hK.sub (tys' := [(c1, .int), (c3, .int)]) [0, 2] rfl
                  have hFc := va_free (wc := [c_X x0 x1 x2 x3 x4 ku, c_A x1 c1 1024 m1, c_A x3 c3 9 m3]) hD hS hA [0, 1, 3] rfl
                  refine va_calli (va_runV (As := [.int (3 : Int32)]) (rest := []) ⟨hx, hb, hml, hown, htB⟩ (c_X_address l dC dI z0 x0 x1 x2 x3 x4 c1 c3 H.size (3 : Int32) ku m1 m3) (cwV 1 htB (gd_V mw_563 mw_565 sw_X_address mw_4 mw_566) rfl rfl rfl (by decide +kernel) ⟨Nat.le_of_ble_eq_true rfl, Nat.le_of_ble_eq_true rfl⟩) (pcx_V (va_recv hKc hPc (ci := 3) (q0 := 0) rfl rfl) hPc hKc hDc hA0 hE hS) rfl rfl hl.1 rfl (lv_room (Nat.le_of_ble_eq_true rfl)) d_X_moves_156 ⟨Nat.zero_le _, Nat.zero_le _⟩) hS (fun q _ h => hFc q h) hFc (fun r9 u t H1 locs ht hvm hw hB hz1 hk1 hS => ?_)
                  subst hw
                  obtain ⟨hP1, hK1, hD1⟩ := hB
                  rw [ht] at hP1
                  obtain ⟨hP, hD⟩ := va_join (wr := [c_A x2 c2 256 m2]) (w1 := [c_X x0 x1 x2 x3 x4 ((f_X_address (3 : Int32) ku m1 m3).2.1), c_A x1 c1 1024 m1, c_A x3 c3 9 ((f_X_address (3 : Int32) ku m1 m3).2.2)]) hP hD [0, 1, 3] [2] rfl rfl (by decide) (by decide) hk1 hFc hP1 hD1
                  generalize H1 = H at hP hS ⊢
                  have hP : va_P (dC, dI) classes [c_X x0 x1 x2 x3 x4 ((f_X_address (3 : Int32) ku m1 m3).2.1), c_A x1 c1 1024 m1, c_A x2 c2 256 m2, c_A x3 c3 9 ((f_X_address (3 : Int32) ku m1 m3).2.2)] H := hP.sub [1, 2, 0, 3] rfl
                  have hD : va_D A [c_X x0 x1 x2 x3 x4 ((f_X_address (3 : Int32) ku m1 m3).2.1), c_A x1 c1 1024 m1, c_A x2 c2 256 m2, c_A x3 c3 9 ((f_X_address (3 : Int32) ku m1 m3).2.2)] := hD.sub [1, 2, 0, 3] (by decide) rfl
                  obtain ⟨z1, ez1⟩ : ∃ z, z = (f_X_address (3 : Int32) ku m1 m3) := ⟨_, rfl⟩
                  rw [← ez1] at hP hD ⊢
                  refine lv_istore (lv' := [(4, .int z1.1), (3, .int (3 : Int32)), (0, .ref x0), (1, .int p1), (2, .int p2)]) hx hb d_X_moves_159 hl (by decide) rfl (fun ls hl => ?_)
                  refine lv_iload_n hx hb d_X_moves_161 rfl (lv_at hl 3 rfl) ?_
                  refine lv_iconst (v := 4) hx hb d_X_moves_162 (by decide) ?_
                  refine lv_icmp_ne (tgt := 181) hx hb d_X_moves_163 (by decide) (fun c9 => absurd c_7 c9) (fun _ => ?_)
                  refine lv_aload_n hx hb d_X_moves_166 rfl (lv_at hl 2 rfl) ?_
                  refine lv_iload hx hb d_X_moves_167 (lv_at hl 0 rfl) ?_
                  refine lv_aload_n hx hb d_X_moves_169 rfl (lv_at hl 2 rfl) ?_
                  refine va_get (D := (dC, dI)) (ci := 3) (v := .ref x3) (C := R_X) (T := F_X) (N := 13) hx hb htB i_X hown hK hP 0 rfl rfl 2 (by decide) (htB _ mw_463) (fun _ h9 => h9) rfl d_X_moves_170 ?_
                  refine lv_iconst (v := 1) hx hb d_X_moves_173 (by decide) ?_
                  refine iald_at hx hb hK hP 3 2 rfl rfl (show ¬ ((1 : Int32) < 0 ∨ 9 ≤ (1 : Int32).toNatClampNeg) from by decide) (show (1 : Int32).toNatClampNeg = 1 from by decide) d_X_moves_174 ?_
                  have hPc := hP.sub (ws' := [c_X x0 x1 x2 x3 x4 z1.2.1, c_A x1 c1 1024 m1, c_A x2 c2 256 m2]) [0, 1, 2] rfl
                  have hDc := hD.sub (ws' := [c_X x0 x1 x2 x3 x4 z1.2.1, c_A x1 c1 1024 m1, c_A x2 c2 256 m2]) [0, 1, 2] (by decide) rfl
                  have hKc := hK.sub (tys' := [(c1, .int), (c2, .int)]) [0, 1] rfl
                  have hFc := va_free (wc := [c_X x0 x1 x2 x3 x4 z1.2.1, c_A x1 c1 1024 m1, c_A x2 c2 256 m2]) hD hS hA [0, 1, 2] rfl
                  refine va_callv (va_runV (As := [.int z1.1, .int (z1.2.2 1)]) (rest := []) ⟨hx, hb, hml, hown, htB⟩ (c_X_write l dC dI z0 x0 x1 x2 x3 x4 c1 c2 H.size z1.1 (z1.2.2 1) z1.2.1 m1 m2 (by rw [ez1]; exact xs_address hxs)) (cwV 2 htB (gd_V mw_579 mw_581 sw_X_write mw_4 mw_582) rfl rfl rfl (by decide +kernel) ⟨Nat.le_of_ble_eq_true rfl, Nat.le_of_ble_eq_true rfl⟩) (pcx_V (va_recv hKc hPc (ci := 3) (q0 := 0) rfl rfl) hPc hKc hDc hA0 hE hS) rfl rfl hl.1 rfl (lv_room (Nat.le_of_ble_eq_true rfl)) d_X_moves_175 ⟨Nat.zero_le _, Nat.zero_le _⟩) hS (fun q _ h => hFc q h) hFc (fun u t H1 locs ht hvm hw hB hz1 hk1 hS => ?_)
                  obtain ⟨hP1, hK1, hD1⟩ := hB
                  rw [ht] at hP1
                  obtain ⟨hP, hD⟩ := va_join (wr := [c_A x3 c3 9 z1.2.2]) (w1 := [c_X x0 x1 x2 x3 x4 ((f_X_write z1.1 (z1.2.2 1) z1.2.1 m1 m2).1), c_A x1 c1 1024 ((f_X_write z1.1 (z1.2.2 1) z1.2.1 m1 m2).2.1), c_A x2 c2 256 ((f_X_write z1.1 (z1.2.2 1) z1.2.1 m1 m2).2.2)]) hP hD [0, 1, 2] [3] rfl rfl (by decide) (by decide) hk1 hFc hP1 hD1
                  generalize H1 = H at hP hS ⊢
                  have hP : va_P (dC, dI) classes [c_X x0 x1 x2 x3 x4 ((f_X_write z1.1 (z1.2.2 1) z1.2.1 m1 m2).1), c_A x1 c1 1024 ((f_X_write z1.1 (z1.2.2 1) z1.2.1 m1 m2).2.1), c_A x2 c2 256 ((f_X_write z1.1 (z1.2.2 1) z1.2.1 m1 m2).2.2), c_A x3 c3 9 z1.2.2] H := hP.sub [1, 2, 3, 0] rfl
                  have hD : va_D A [c_X x0 x1 x2 x3 x4 ((f_X_write z1.1 (z1.2.2 1) z1.2.1 m1 m2).1), c_A x1 c1 1024 ((f_X_write z1.1 (z1.2.2 1) z1.2.1 m1 m2).2.1), c_A x2 c2 256 ((f_X_write z1.1 (z1.2.2 1) z1.2.1 m1 m2).2.2), c_A x3 c3 9 z1.2.2] := hD.sub [1, 2, 3, 0] (by decide) rfl
                  obtain ⟨z2, ez2⟩ : ∃ z, z = (f_X_write z1.1 (z1.2.2 1) z1.2.1 m1 m2) := ⟨_, rfl⟩
                  rw [← ez2] at hP hD
                  refine lv_goto (tgt := 194) hx hb d_X_moves_178 (by decide) ?_
                  have hf : f_X_moves p1 p2 ku m1 m2 m3 = (z2.1, z2.2.1, z2.2.2, z1.2.2) := by rw [f_X_moves, if_neg c_1, if_neg c_2, if_neg c_3, if_neg c_4, if_neg c_5, if_pos c_6, if_pos c_7, if_neg c_8, ← ez1, f_X_moves_k7, ← ez2, f_X_moves_k8]
                  exact W.vret hx hb hr (fun t ht hW => ⟨⟨(), rfl, trivial, by rw [hf]; exact ⟨by rw [ht]; exact hP, va_K.moved hW.alike hK, hD⟩⟩, hS.F ht⟩) hS.2.2 d_X_moves_194
                · refine lv_aload_n hx hb d_X_moves_148 rfl (lv_at hl 1 rfl) ?_
                  refine lv_iconst (v := 4) hx hb d_X_moves_149 (by decide) ?_
                  refine va_put (D := (dC, dI)) (ci := 3) (v := .int (4 : Int32)) (ty := .int) (C := R_X) (T := F_X) (N := 13) hx hb htB i_X t_X t_X_ok n_X hown hK hP hD hS 0 rfl rfl 8 (by decide) (htB _ mw_469) (fun _ h9 => h9) rfl (by decide +kernel) rfl rfl (Nat.le_of_ble_eq_true rfl) d_X_moves_150 (fun H locs hP hD hS => ?_)
                  have hP : va_P (dC, dI) classes [c_X x0 x1 x2 x3 x4 (upd ku 4 (4 : Int32)), c_A x1 c1 1024 m1, c_A x2 c2 256 m2, c_A x3 c3 9 m3] H := hP
                  have hD : va_D A [c_X x0 x1 x2 x3 x4 (upd ku 4 (4 : Int32)), c_A x1 c1 1024 m1, c_A x2 c2 256 m2, c_A x3 c3 9 m3] := hD
                  have hf : f_X_moves p1 p2 ku m1 m2 m3 = ((upd ku 4 (4 : Int32)), m1, m2, m3) := by rw [f_X_moves, if_neg c_1, if_neg c_2, if_neg c_3, if_neg c_4, if_neg c_5, if_pos c_6, if_pos c_7, if_pos c_8]
                  exact W.vret hx hb hr (fun t ht hW => ⟨⟨(), rfl, trivial, by rw [hf]; exact ⟨by rw [ht]; exact hP, va_K.moved hW.alike hK, hD⟩⟩, hS.F ht⟩) hS.2.2 d_X_moves_153
          · refine lv_iconst (v := 4) hx hb d_X_moves_103 (by decide) ?_
            refine lv_goto (tgt := 128) hx hb d_X_moves_104 (by decide) ?_
            refine lv_istore_n (lv' := [(3, .int (4 : Int32)), (0, .ref x0), (1, .int p1), (2, .int p2)]) hx hb d_X_moves_128 rfl hl (by decide) rfl (fun ls hl => ?_)
            refine lv_iload_n hx hb d_X_moves_129 rfl (lv_at hl 0 rfl) ?_
            refine lv_if_lt (tgt := 148) hx hb d_X_moves_130 (by decide) (fun c9 => absurd c9 (by decide)) (fun _ => ?_)
            refine lv_iload_n hx hb d_X_moves_133 rfl (lv_at hl 2 rfl) ?_
            refine lv_iconst (v := 4) hx hb d_X_moves_134 (by decide) ?_
            refine lv_icmp_ne (tgt := 154) hx hb d_X_moves_135 (by decide) (fun c_6 => ?_) (fun c_6 => ?_)
            · refine lv_aload_n hx hb d_X_moves_154 rfl (lv_at hl 1 rfl) ?_
              refine lv_iload_n hx hb d_X_moves_155 rfl (lv_at hl 0 rfl) ?_
              have hPc := hP.sub (ws' := [c_X x0 x1 x2 x3 x4 ku, c_A x1 c1 1024 m1, c_A x3 c3 9 m3]) [0, 1, 3] rfl
              have hDc := hD.sub (ws' := [c_X x0 x1 x2 x3 x4 ku, c_A x1 c1 1024 m1, c_A x3 c3 9 m3]) [0, 1, 3] (by decide) rfl
              have hKc := hK.sub (tys' := [(c1, .int), (c3, .int)]) [0, 2] rfl
              have hFc := va_free (wc := [c_X x0 x1 x2 x3 x4 ku, c_A x1 c1 1024 m1, c_A x3 c3 9 m3]) hD hS hA [0, 1, 3] rfl
              refine va_calli (va_runV (As := [.int (4 : Int32)]) (rest := []) ⟨hx, hb, hml, hown, htB⟩ (c_X_address l dC dI z0 x0 x1 x2 x3 x4 c1 c3 H.size (4 : Int32) ku m1 m3) (cwV 1 htB (gd_V mw_563 mw_565 sw_X_address mw_4 mw_566) rfl rfl rfl (by decide +kernel) ⟨Nat.le_of_ble_eq_true rfl, Nat.le_of_ble_eq_true rfl⟩) (pcx_V (va_recv hKc hPc (ci := 3) (q0 := 0) rfl rfl) hPc hKc hDc hA0 hE hS) rfl rfl hl.1 rfl (lv_room (Nat.le_of_ble_eq_true rfl)) d_X_moves_156 ⟨Nat.zero_le _, Nat.zero_le _⟩) hS (fun q _ h => hFc q h) hFc (fun r9 u t H1 locs ht hvm hw hB hz1 hk1 hS => ?_)
              subst hw
              obtain ⟨hP1, hK1, hD1⟩ := hB
              rw [ht] at hP1
              obtain ⟨hP, hD⟩ := va_join (wr := [c_A x2 c2 256 m2]) (w1 := [c_X x0 x1 x2 x3 x4 ((f_X_address (4 : Int32) ku m1 m3).2.1), c_A x1 c1 1024 m1, c_A x3 c3 9 ((f_X_address (4 : Int32) ku m1 m3).2.2)]) hP hD [0, 1, 3] [2] rfl rfl (by decide) (by decide) hk1 hFc hP1 hD1
              generalize H1 = H at hP hS ⊢
              have hP : va_P (dC, dI) classes [c_X x0 x1 x2 x3 x4 ((f_X_address (4 : Int32) ku m1 m3).2.1), c_A x1 c1 1024 m1, c_A x2 c2 256 m2, c_A x3 c3 9 ((f_X_address (4 : Int32) ku m1 m3).2.2)] H := hP.sub [1, 2, 0, 3] rfl
              have hD : va_D A [c_X x0 x1 x2 x3 x4 ((f_X_address (4 : Int32) ku m1 m3).2.1), c_A x1 c1 1024 m1, c_A x2 c2 256 m2, c_A x3 c3 9 ((f_X_address (4 : Int32) ku m1 m3).2.2)] := hD.sub [1, 2, 0, 3] (by decide) rfl
              obtain ⟨z1, ez1⟩ : ∃ z, z = (f_X_address (4 : Int32) ku m1 m3) := ⟨_, rfl⟩
              rw [← ez1] at hP hD ⊢
              refine lv_istore (lv' := [(4, .int z1.1), (3, .int (4 : Int32)), (0, .ref x0), (1, .int p1), (2, .int p2)]) hx hb d_X_moves_159 hl (by decide) rfl (fun ls hl => ?_)
              refine lv_iload_n hx hb d_X_moves_161 rfl (lv_at hl 3 rfl) ?_
              refine lv_iconst (v := 4) hx hb d_X_moves_162 (by decide) ?_
              refine lv_icmp_ne (tgt := 181) hx hb d_X_moves_163 (by decide) (fun _ => ?_) (fun c9 => absurd c9 c_6)
              refine lv_aload_n hx hb d_X_moves_181 rfl (lv_at hl 2 rfl) ?_
              refine lv_iconst (v := 1) hx hb d_X_moves_182 (by decide) ?_
              refine lv_aload_n hx hb d_X_moves_183 rfl (lv_at hl 2 rfl) ?_
              refine lv_iload_n hx hb d_X_moves_184 rfl (lv_at hl 1 rfl) ?_
              refine lv_iload hx hb d_X_moves_185 (lv_at hl 0 rfl) ?_
              have hPc := hP.sub (ws' := [c_X x0 x1 x2 x3 x4 z1.2.1, c_A x1 c1 1024 m1, c_A x3 c3 9 z1.2.2]) [0, 1, 3] rfl
              have hDc := hD.sub (ws' := [c_X x0 x1 x2 x3 x4 z1.2.1, c_A x1 c1 1024 m1, c_A x3 c3 9 z1.2.2]) [0, 1, 3] (by decide) rfl
              have hKc := hK.sub (tys' := [(c1, .int), (c3, .int)]) [0, 2] rfl
              have hFc := va_free (wc := [c_X x0 x1 x2 x3 x4 z1.2.1, c_A x1 c1 1024 m1, c_A x3 c3 9 z1.2.2]) hD hS hA [0, 1, 3] rfl
              refine va_calli (va_runV (As := [.int (4 : Int32), .int z1.1]) (rest := [.int (1 : Int32), .ref x0]) ⟨hx, hb, hml, hown, htB⟩ (c_X_operand l dC dI z0 x0 x1 x2 x3 x4 c1 c3 H.size (4 : Int32) z1.1 z1.2.1 m1 z1.2.2) (cwV 2 htB (gd_V mw_583 mw_585 sw_X_operand mw_4 mw_586) rfl rfl rfl (by decide +kernel) ⟨Nat.le_of_ble_eq_true rfl, Nat.le_of_ble_eq_true rfl⟩) (pcx_V (va_recv hKc hPc (ci := 3) (q0 := 0) rfl rfl) hPc hKc hDc hA0 hE hS) rfl rfl hl.1 rfl (lv_room (Nat.le_of_ble_eq_true rfl)) d_X_moves_187 ⟨Nat.zero_le _, Nat.zero_le _⟩) hS (fun q _ h => hFc q h) hFc (fun r9 u t H1 locs ht hvm hw hB hz1 hk1 hS => ?_)
              subst hw
              obtain ⟨hP1, hK1, hD1⟩ := hB
              rw [ht] at hP1
              obtain ⟨hP, hD⟩ := va_join (wr := [c_A x2 c2 256 m2]) (w1 := [c_X x0 x1 x2 x3 x4 ((f_X_operand (4 : Int32) z1.1 z1.2.1 m1 z1.2.2).2), c_A x1 c1 1024 m1, c_A x3 c3 9 z1.2.2]) hP hD [0, 1, 3] [2] rfl rfl (by decide) (by decide) hk1 hFc hP1 hD1
              generalize H1 = H at hP hS ⊢
              have hP : va_P (dC, dI) classes [c_X x0 x1 x2 x3 x4 ((f_X_operand (4 : Int32) z1.1 z1.2.1 m1 z1.2.2).2), c_A x1 c1 1024 m1, c_A x2 c2 256 m2, c_A x3 c3 9 z1.2.2] H := hP.sub [1, 2, 0, 3] rfl
              have hD : va_D A [c_X x0 x1 x2 x3 x4 ((f_X_operand (4 : Int32) z1.1 z1.2.1 m1 z1.2.2).2), c_A x1 c1 1024 m1, c_A x2 c2 256 m2, c_A x3 c3 9 z1.2.2] := hD.sub [1, 2, 0, 3] (by decide) rfl
              obtain ⟨z2, ez2⟩ : ∃ z, z = (f_X_operand (4 : Int32) z1.1 z1.2.1 m1 z1.2.2) := ⟨_, rfl⟩
              rw [← ez2] at hP hD ⊢
              refine lv_iconst (v := 1) hx hb d_X_moves_190 (by decide) ?_
              have hPc := hP.sub (ws' := [c_X x0 x1 x2 x3 x4 z2.2, c_A x3 c3 9 z1.2.2]) [0, 3] rfl
              have hDc := hD.sub (ws' := [c_X x0 x1 x2 x3 x4 z2.2, c_A x3 c3 9 z1.2.2]) [0, 3] (by decide) rfl
              have hKc := hK.sub (tys' := [(c3, .int)]) [2] rfl
              have hFc := va_free (wc := [c_X x0 x1 x2 x3 x4 z2.2, c_A x3 c3 9 z1.2.2]) hD hS hA [0, 3] rfl
              refine va_callv (va_runV (As := [.int (1 : Int32), .int z2.1, .int (1 : Int32)]) (rest := []) ⟨hx, hb, hml, hown, htB⟩ (c_X_put3 l dC dI z0 x0 x1 x2 x3 x4 c3 H.size (1 : Int32) z2.1 (1 : Int32) z2.2 z1.2.2 (show ¬ ((1 : Int32) < 0 ∨ 9 ≤ (1 : Int32).toNatClampNeg) from by decide)) (cwV 3 htB (gd_V mw_587 mw_589 sw_X_put3 mw_4 mw_590) rfl rfl rfl (by decide +kernel) ⟨Nat.le_of_ble_eq_true rfl, Nat.le_of_ble_eq_true rfl⟩) (pcx_V (va_recv hKc hPc (ci := 3) (q0 := 0) rfl rfl) hPc hKc hDc hA0 hE hS) rfl rfl hl.1 rfl (lv_room (Nat.le_of_ble_eq_true rfl)) d_X_moves_191 ⟨Nat.zero_le _, Nat.zero_le _⟩) hS (fun q _ h => hFc q h) hFc (fun u t H1 locs ht hvm hw hB hz1 hk1 hS => ?_)
              obtain ⟨hP1, hK1, hD1⟩ := hB
              rw [ht] at hP1
              obtain ⟨hP, hD⟩ := va_join (wr := [c_A x1 c1 1024 m1, c_A x2 c2 256 m2]) (w1 := [c_X x0 x1 x2 x3 x4 z2.2, c_A x3 c3 9 (f_X_put3 (1 : Int32) z2.1 (1 : Int32) z2.2 z1.2.2)]) hP hD [0, 3] [1, 2] rfl rfl (by decide) (by decide) hk1 hFc hP1 hD1
              generalize H1 = H at hP hS ⊢
              have hP : va_P (dC, dI) classes [c_X x0 x1 x2 x3 x4 z2.2, c_A x1 c1 1024 m1, c_A x2 c2 256 m2, c_A x3 c3 9 (f_X_put3 (1 : Int32) z2.1 (1 : Int32) z2.2 z1.2.2)] H := hP.sub [2, 0, 1, 3] rfl
              have hD : va_D A [c_X x0 x1 x2 x3 x4 z2.2, c_A x1 c1 1024 m1, c_A x2 c2 256 m2, c_A x3 c3 9 (f_X_put3 (1 : Int32) z2.1 (1 : Int32) z2.2 z1.2.2)] := hD.sub [2, 0, 1, 3] (by decide) rfl
              obtain ⟨z3, ez3⟩ : ∃ z, z = (f_X_put3 (1 : Int32) z2.1 (1 : Int32) z2.2 z1.2.2) := ⟨_, rfl⟩
              rw [← ez3] at hP hD
              have hf : f_X_moves p1 p2 ku m1 m2 m3 = (z2.2, m1, m2, z3) := by rw [f_X_moves, if_neg c_1, if_neg c_2, if_neg c_3, if_neg c_4, if_pos c_5, if_neg c_6, ← ez1, f_X_moves_k9, ← ez2, f_X_moves_k10, ← ez3, f_X_moves_k11]
              exact W.vret hx hb hr (fun t ht hW => ⟨⟨(), rfl, trivial, by rw [hf]; exact ⟨by rw [ht]; exact hP, va_K.moved hW.alike hK, hD⟩⟩, hS.F ht⟩) hS.2.2 d_X_moves_194
            · refine lv_iload_n hx hb d_X_moves_138 rfl (lv_at hl 3 rfl) ?_
              refine lv_if_eq (tgt := 148) hx hb d_X_moves_139 (by decide) (fun c9 => absurd c9 c_3) (fun _ => ?_)
              refine lv_iload_n hx hb d_X_moves_142 rfl (lv_at hl 3 rfl) ?_
              refine lv_bipush (v := 7) hx hb d_X_moves_143 (by decide) ?_
              refine lv_icmp_ne (tgt := 154) hx hb d_X_moves_145 (by decide) (fun c_7 => ?_) (fun c_7 => ?_)
              · refine lv_aload_n hx hb d_X_moves_154 rfl (lv_at hl 1 rfl) ?_
                refine lv_iload_n hx hb d_X_moves_155 rfl (lv_at hl 0 rfl) ?_
                have hPc := hP.sub (ws' := [c_X x0 x1 x2 x3 x4 ku, c_A x1 c1 1024 m1, c_A x3 c3 9 m3]) [0, 1, 3] rfl
                have hDc := hD.sub (ws' := [c_X x0 x1 x2 x3 x4 ku, c_A x1 c1 1024 m1, c_A x3 c3 9 m3]) [0, 1, 3] (by decide) rfl
                have hKc := hK.sub (tys' := [(c1, .int), (c3, .int)]) [0, 2] rfl
                have hFc := va_free (wc := [c_X x0 x1 x2 x3 x4 ku, c_A x1 c1 1024 m1, c_A x3 c3 9 m3]) hD hS hA [0, 1, 3] rfl
                refine va_calli (va_runV (As := [.int (4 : Int32)]) (rest := []) ⟨hx, hb, hml, hown, htB⟩ (c_X_address l dC dI z0 x0 x1 x2 x3 x4 c1 c3 H.size (4 : Int32) ku m1 m3) (cwV 1 htB (gd_V mw_563 mw_565 sw_X_address mw_4 mw_566) rfl rfl rfl (by decide +kernel) ⟨Nat.le_of_ble_eq_true rfl, Nat.le_of_ble_eq_true rfl⟩) (pcx_V (va_recv hKc hPc (ci := 3) (q0 := 0) rfl rfl) hPc hKc hDc hA0 hE hS) rfl rfl hl.1 rfl (lv_room (Nat.le_of_ble_eq_true rfl)) d_X_moves_156 ⟨Nat.zero_le _, Nat.zero_le _⟩) hS (fun q _ h => hFc q h) hFc (fun r9 u t H1 locs ht hvm hw hB hz1 hk1 hS => ?_)
                subst hw
                obtain ⟨hP1, hK1, hD1⟩ := hB
                rw [ht] at hP1
                obtain ⟨hP, hD⟩ := va_join (wr := [c_A x2 c2 256 m2]) (w1 := [c_X x0 x1 x2 x3 x4 ((f_X_address (4 : Int32) ku m1 m3).2.1), c_A x1 c1 1024 m1, c_A x3 c3 9 ((f_X_address (4 : Int32) ku m1 m3).2.2)]) hP hD [0, 1, 3] [2] rfl rfl (by decide) (by decide) hk1 hFc hP1 hD1
                generalize H1 = H at hP hS ⊢
                have hP : va_P (dC, dI) classes [c_X x0 x1 x2 x3 x4 ((f_X_address (4 : Int32) ku m1 m3).2.1), c_A x1 c1 1024 m1, c_A x2 c2 256 m2, c_A x3 c3 9 ((f_X_address (4 : Int32) ku m1 m3).2.2)] H := hP.sub [1, 2, 0, 3] rfl
                have hD : va_D A [c_X x0 x1 x2 x3 x4 ((f_X_address (4 : Int32) ku m1 m3).2.1), c_A x1 c1 1024 m1, c_A x2 c2 256 m2, c_A x3 c3 9 ((f_X_address (4 : Int32) ku m1 m3).2.2)] := hD.sub [1, 2, 0, 3] (by decide) rfl
                obtain ⟨z1, ez1⟩ : ∃ z, z = (f_X_address (4 : Int32) ku m1 m3) := ⟨_, rfl⟩
                rw [← ez1] at hP hD ⊢
                refine lv_istore (lv' := [(4, .int z1.1), (3, .int (4 : Int32)), (0, .ref x0), (1, .int p1), (2, .int p2)]) hx hb d_X_moves_159 hl (by decide) rfl (fun ls hl => ?_)
                refine lv_iload_n hx hb d_X_moves_161 rfl (lv_at hl 3 rfl) ?_
                refine lv_iconst (v := 4) hx hb d_X_moves_162 (by decide) ?_
                refine lv_icmp_ne (tgt := 181) hx hb d_X_moves_163 (by decide) (fun c9 => absurd c_6 c9) (fun _ => ?_)
                refine lv_aload_n hx hb d_X_moves_166 rfl (lv_at hl 2 rfl) ?_
                refine lv_iload hx hb d_X_moves_167 (lv_at hl 0 rfl) ?_
                refine lv_aload_n hx hb d_X_moves_169 rfl (lv_at hl 2 rfl) ?_
                refine va_get (D := (dC, dI)) (ci := 3) (v := .ref x3) (C := R_X) (T := F_X) (N := 13) hx hb htB i_X hown hK hP 0 rfl rfl 2 (by decide) (htB _ mw_463) (fun _ h9 => h9) rfl d_X_moves_170 ?_
                refine lv_iconst (v := 1) hx hb d_X_moves_173 (by decide) ?_
                refine iald_at hx hb hK hP 3 2 rfl rfl (show ¬ ((1 : Int32) < 0 ∨ 9 ≤ (1 : Int32).toNatClampNeg) from by decide) (show (1 : Int32).toNatClampNeg = 1 from by decide) d_X_moves_174 ?_
                have hPc := hP.sub (ws' := [c_X x0 x1 x2 x3 x4 z1.2.1, c_A x1 c1 1024 m1, c_A x2 c2 256 m2]) [0, 1, 2] rfl
                have hDc := hD.sub (ws' := [c_X x0 x1 x2 x3 x4 z1.2.1, c_A x1 c1 1024 m1, c_A x2 c2 256 m2]) [0, 1, 2] (by decide) rfl
                have hKc := hK.sub (tys' := [(c1, .int), (c2, .int)]) [0, 1] rfl
                have hFc := va_free (wc := [c_X x0 x1 x2 x3 x4 z1.2.1, c_A x1 c1 1024 m1, c_A x2 c2 256 m2]) hD hS hA [0, 1, 2] rfl
                refine va_callv (va_runV (As := [.int z1.1, .int (z1.2.2 1)]) (rest := []) ⟨hx, hb, hml, hown, htB⟩ (c_X_write l dC dI z0 x0 x1 x2 x3 x4 c1 c2 H.size z1.1 (z1.2.2 1) z1.2.1 m1 m2 (by rw [ez1]; exact xs_address hxs)) (cwV 2 htB (gd_V mw_579 mw_581 sw_X_write mw_4 mw_582) rfl rfl rfl (by decide +kernel) ⟨Nat.le_of_ble_eq_true rfl, Nat.le_of_ble_eq_true rfl⟩) (pcx_V (va_recv hKc hPc (ci := 3) (q0 := 0) rfl rfl) hPc hKc hDc hA0 hE hS) rfl rfl hl.1 rfl (lv_room (Nat.le_of_ble_eq_true rfl)) d_X_moves_175 ⟨Nat.zero_le _, Nat.zero_le _⟩) hS (fun q _ h => hFc q h) hFc (fun u t H1 locs ht hvm hw hB hz1 hk1 hS => ?_)
                obtain ⟨hP1, hK1, hD1⟩ := hB
                rw [ht] at hP1
                obtain ⟨hP, hD⟩ := va_join (wr := [c_A x3 c3 9 z1.2.2]) (w1 := [c_X x0 x1 x2 x3 x4 ((f_X_write z1.1 (z1.2.2 1) z1.2.1 m1 m2).1), c_A x1 c1 1024 ((f_X_write z1.1 (z1.2.2 1) z1.2.1 m1 m2).2.1), c_A x2 c2 256 ((f_X_write z1.1 (z1.2.2 1) z1.2.1 m1 m2).2.2)]) hP hD [0, 1, 2] [3] rfl rfl (by decide) (by decide) hk1 hFc hP1 hD1
                generalize H1 = H at hP hS ⊢
                have hP : va_P (dC, dI) classes [c_X x0 x1 x2 x3 x4 ((f_X_write z1.1 (z1.2.2 1) z1.2.1 m1 m2).1), c_A x1 c1 1024 ((f_X_write z1.1 (z1.2.2 1) z1.2.1 m1 m2).2.1), c_A x2 c2 256 ((f_X_write z1.1 (z1.2.2 1) z1.2.1 m1 m2).2.2), c_A x3 c3 9 z1.2.2] H := hP.sub [1, 2, 3, 0] rfl
                have hD : va_D A [c_X x0 x1 x2 x3 x4 ((f_X_write z1.1 (z1.2.2 1) z1.2.1 m1 m2).1), c_A x1 c1 1024 ((f_X_write z1.1 (z1.2.2 1) z1.2.1 m1 m2).2.1), c_A x2 c2 256 ((f_X_write z1.1 (z1.2.2 1) z1.2.1 m1 m2).2.2), c_A x3 c3 9 z1.2.2] := hD.sub [1, 2, 3, 0] (by decide) rfl
                obtain ⟨z2, ez2⟩ : ∃ z, z = (f_X_write z1.1 (z1.2.2 1) z1.2.1 m1 m2) := ⟨_, rfl⟩
                rw [← ez2] at hP hD
                refine lv_goto (tgt := 194) hx hb d_X_moves_178 (by decide) ?_
                have hf : f_X_moves p1 p2 ku m1 m2 m3 = (z2.1, z2.2.1, z2.2.2, z1.2.2) := by rw [f_X_moves, if_neg c_1, if_neg c_2, if_neg c_3, if_neg c_4, if_pos c_5, if_pos c_6, if_neg c_7, ← ez1, f_X_moves_k12, ← ez2, f_X_moves_k13]
                exact W.vret hx hb hr (fun t ht hW => ⟨⟨(), rfl, trivial, by rw [hf]; exact ⟨by rw [ht]; exact hP, va_K.moved hW.alike hK, hD⟩⟩, hS.F ht⟩) hS.2.2 d_X_moves_194
              · refine lv_aload_n hx hb d_X_moves_148 rfl (lv_at hl 1 rfl) ?_
                refine lv_iconst (v := 4) hx hb d_X_moves_149 (by decide) ?_
                refine va_put (D := (dC, dI)) (ci := 3) (v := .int (4 : Int32)) (ty := .int) (C := R_X) (T := F_X) (N := 13) hx hb htB i_X t_X t_X_ok n_X hown hK hP hD hS 0 rfl rfl 8 (by decide) (htB _ mw_469) (fun _ h9 => h9) rfl (by decide +kernel) rfl rfl (Nat.le_of_ble_eq_true rfl) d_X_moves_150 (fun H locs hP hD hS => ?_)
                have hP : va_P (dC, dI) classes [c_X x0 x1 x2 x3 x4 (upd ku 4 (4 : Int32)), c_A x1 c1 1024 m1, c_A x2 c2 256 m2, c_A x3 c3 9 m3] H := hP
                have hD : va_D A [c_X x0 x1 x2 x3 x4 (upd ku 4 (4 : Int32)), c_A x1 c1 1024 m1, c_A x2 c2 256 m2, c_A x3 c3 9 m3] := hD
                have hf : f_X_moves p1 p2 ku m1 m2 m3 = ((upd ku 4 (4 : Int32)), m1, m2, m3) := by rw [f_X_moves, if_neg c_1, if_neg c_2, if_neg c_3, if_neg c_4, if_pos c_5, if_pos c_6, if_pos c_7]
                exact W.vret hx hb hr (fun t ht hW => ⟨⟨(), rfl, trivial, by rw [hf]; exact ⟨by rw [ht]; exact hP, va_K.moved hW.alike hK, hD⟩⟩, hS.F ht⟩) hS.2.2 d_X_moves_153
        · refine lv_iconst (v := 1) hx hb d_X_moves_94 (by decide) ?_
          refine lv_goto (tgt := 128) hx hb d_X_moves_95 (by decide) ?_
          refine lv_istore_n (lv' := [(3, .int (1 : Int32)), (0, .ref x0), (1, .int p1), (2, .int p2)]) hx hb d_X_moves_128 rfl hl (by decide) rfl (fun ls hl => ?_)
          refine lv_iload_n hx hb d_X_moves_129 rfl (lv_at hl 0 rfl) ?_
          refine lv_if_lt (tgt := 148) hx hb d_X_moves_130 (by decide) (fun c9 => absurd c9 (by decide)) (fun _ => ?_)
          refine lv_iload_n hx hb d_X_moves_133 rfl (lv_at hl 2 rfl) ?_
          refine lv_iconst (v := 4) hx hb d_X_moves_134 (by decide) ?_
          refine lv_icmp_ne (tgt := 154) hx hb d_X_moves_135 (by decide) (fun c_5 => ?_) (fun c_5 => ?_)
          · refine lv_aload_n hx hb d_X_moves_154 rfl (lv_at hl 1 rfl) ?_
            refine lv_iload_n hx hb d_X_moves_155 rfl (lv_at hl 0 rfl) ?_
            have hPc := hP.sub (ws' := [c_X x0 x1 x2 x3 x4 ku, c_A x1 c1 1024 m1, c_A x3 c3 9 m3]) [0, 1, 3] rfl
            have hDc := hD.sub (ws' := [c_X x0 x1 x2 x3 x4 ku, c_A x1 c1 1024 m1, c_A x3 c3 9 m3]) [0, 1, 3] (by decide) rfl
            have hKc := hK.sub (tys' := [(c1, .int), (c3, .int)]) [0, 2] rfl
            have hFc := va_free (wc := [c_X x0 x1 x2 x3 x4 ku, c_A x1 c1 1024 m1, c_A x3 c3 9 m3]) hD hS hA [0, 1, 3] rfl
            refine va_calli (va_runV (As := [.int (1 : Int32)]) (rest := []) ⟨hx, hb, hml, hown, htB⟩ (c_X_address l dC dI z0 x0 x1 x2 x3 x4 c1 c3 H.size (1 : Int32) ku m1 m3) (cwV 1 htB (gd_V mw_563 mw_565 sw_X_address mw_4 mw_566) rfl rfl rfl (by decide +kernel) ⟨Nat.le_of_ble_eq_true rfl, Nat.le_of_ble_eq_true rfl⟩) (pcx_V (va_recv hKc hPc (ci := 3) (q0 := 0) rfl rfl) hPc hKc hDc hA0 hE hS) rfl rfl hl.1 rfl (lv_room (Nat.le_of_ble_eq_true rfl)) d_X_moves_156 ⟨Nat.zero_le _, Nat.zero_le _⟩) hS (fun q _ h => hFc q h) hFc (fun r9 u t H1 locs ht hvm hw hB hz1 hk1 hS => ?_)
            subst hw
            obtain ⟨hP1, hK1, hD1⟩ := hB
            rw [ht] at hP1
            obtain ⟨hP, hD⟩ := va_join (wr := [c_A x2 c2 256 m2]) (w1 := [c_X x0 x1 x2 x3 x4 ((f_X_address (1 : Int32) ku m1 m3).2.1), c_A x1 c1 1024 m1, c_A x3 c3 9 ((f_X_address (1 : Int32) ku m1 m3).2.2)]) hP hD [0, 1, 3] [2] rfl rfl (by decide) (by decide) hk1 hFc hP1 hD1
            generalize H1 = H at hP hS ⊢
            have hP : va_P (dC, dI) classes [c_X x0 x1 x2 x3 x4 ((f_X_address (1 : Int32) ku m1 m3).2.1), c_A x1 c1 1024 m1, c_A x2 c2 256 m2, c_A x3 c3 9 ((f_X_address (1 : Int32) ku m1 m3).2.2)] H := hP.sub [1, 2, 0, 3] rfl
            have hD : va_D A [c_X x0 x1 x2 x3 x4 ((f_X_address (1 : Int32) ku m1 m3).2.1), c_A x1 c1 1024 m1, c_A x2 c2 256 m2, c_A x3 c3 9 ((f_X_address (1 : Int32) ku m1 m3).2.2)] := hD.sub [1, 2, 0, 3] (by decide) rfl
            obtain ⟨z1, ez1⟩ : ∃ z, z = (f_X_address (1 : Int32) ku m1 m3) := ⟨_, rfl⟩
            rw [← ez1] at hP hD ⊢
            refine lv_istore (lv' := [(4, .int z1.1), (3, .int (1 : Int32)), (0, .ref x0), (1, .int p1), (2, .int p2)]) hx hb d_X_moves_159 hl (by decide) rfl (fun ls hl => ?_)
            refine lv_iload_n hx hb d_X_moves_161 rfl (lv_at hl 3 rfl) ?_
            refine lv_iconst (v := 4) hx hb d_X_moves_162 (by decide) ?_
            refine lv_icmp_ne (tgt := 181) hx hb d_X_moves_163 (by decide) (fun _ => ?_) (fun c9 => absurd c9 c_5)
            refine lv_aload_n hx hb d_X_moves_181 rfl (lv_at hl 2 rfl) ?_
            refine lv_iconst (v := 1) hx hb d_X_moves_182 (by decide) ?_
            refine lv_aload_n hx hb d_X_moves_183 rfl (lv_at hl 2 rfl) ?_
            refine lv_iload_n hx hb d_X_moves_184 rfl (lv_at hl 1 rfl) ?_
            refine lv_iload hx hb d_X_moves_185 (lv_at hl 0 rfl) ?_
            have hPc := hP.sub (ws' := [c_X x0 x1 x2 x3 x4 z1.2.1, c_A x1 c1 1024 m1, c_A x3 c3 9 z1.2.2]) [0, 1, 3] rfl
            have hDc := hD.sub (ws' := [c_X x0 x1 x2 x3 x4 z1.2.1, c_A x1 c1 1024 m1, c_A x3 c3 9 z1.2.2]) [0, 1, 3] (by decide) rfl
            have hKc := hK.sub (tys' := [(c1, .int), (c3, .int)]) [0, 2] rfl
            have hFc := va_free (wc := [c_X x0 x1 x2 x3 x4 z1.2.1, c_A x1 c1 1024 m1, c_A x3 c3 9 z1.2.2]) hD hS hA [0, 1, 3] rfl
            refine va_calli (va_runV (As := [.int (1 : Int32), .int z1.1]) (rest := [.int (1 : Int32), .ref x0]) ⟨hx, hb, hml, hown, htB⟩ (c_X_operand l dC dI z0 x0 x1 x2 x3 x4 c1 c3 H.size (1 : Int32) z1.1 z1.2.1 m1 z1.2.2) (cwV 2 htB (gd_V mw_583 mw_585 sw_X_operand mw_4 mw_586) rfl rfl rfl (by decide +kernel) ⟨Nat.le_of_ble_eq_true rfl, Nat.le_of_ble_eq_true rfl⟩) (pcx_V (va_recv hKc hPc (ci := 3) (q0 := 0) rfl rfl) hPc hKc hDc hA0 hE hS) rfl rfl hl.1 rfl (lv_room (Nat.le_of_ble_eq_true rfl)) d_X_moves_187 ⟨Nat.zero_le _, Nat.zero_le _⟩) hS (fun q _ h => hFc q h) hFc (fun r9 u t H1 locs ht hvm hw hB hz1 hk1 hS => ?_)
            subst hw
            obtain ⟨hP1, hK1, hD1⟩ := hB
            rw [ht] at hP1
            obtain ⟨hP, hD⟩ := va_join (wr := [c_A x2 c2 256 m2]) (w1 := [c_X x0 x1 x2 x3 x4 ((f_X_operand (1 : Int32) z1.1 z1.2.1 m1 z1.2.2).2), c_A x1 c1 1024 m1, c_A x3 c3 9 z1.2.2]) hP hD [0, 1, 3] [2] rfl rfl (by decide) (by decide) hk1 hFc hP1 hD1
            generalize H1 = H at hP hS ⊢
            have hP : va_P (dC, dI) classes [c_X x0 x1 x2 x3 x4 ((f_X_operand (1 : Int32) z1.1 z1.2.1 m1 z1.2.2).2), c_A x1 c1 1024 m1, c_A x2 c2 256 m2, c_A x3 c3 9 z1.2.2] H := hP.sub [1, 2, 0, 3] rfl
            have hD : va_D A [c_X x0 x1 x2 x3 x4 ((f_X_operand (1 : Int32) z1.1 z1.2.1 m1 z1.2.2).2), c_A x1 c1 1024 m1, c_A x2 c2 256 m2, c_A x3 c3 9 z1.2.2] := hD.sub [1, 2, 0, 3] (by decide) rfl
            obtain ⟨z2, ez2⟩ : ∃ z, z = (f_X_operand (1 : Int32) z1.1 z1.2.1 m1 z1.2.2) := ⟨_, rfl⟩
            rw [← ez2] at hP hD ⊢
            refine lv_iconst (v := 1) hx hb d_X_moves_190 (by decide) ?_
            have hPc := hP.sub (ws' := [c_X x0 x1 x2 x3 x4 z2.2, c_A x3 c3 9 z1.2.2]) [0, 3] rfl
            have hDc := hD.sub (ws' := [c_X x0 x1 x2 x3 x4 z2.2, c_A x3 c3 9 z1.2.2]) [0, 3] (by decide) rfl
            have hKc := hK.sub (tys' := [(c3, .int)]) [2] rfl
            have hFc := va_free (wc := [c_X x0 x1 x2 x3 x4 z2.2, c_A x3 c3 9 z1.2.2]) hD hS hA [0, 3] rfl
            refine va_callv (va_runV (As := [.int (1 : Int32), .int z2.1, .int (1 : Int32)]) (rest := []) ⟨hx, hb, hml, hown, htB⟩ (c_X_put3 l dC dI z0 x0 x1 x2 x3 x4 c3 H.size (1 : Int32) z2.1 (1 : Int32) z2.2 z1.2.2 (show ¬ ((1 : Int32) < 0 ∨ 9 ≤ (1 : Int32).toNatClampNeg) from by decide)) (cwV 3 htB (gd_V mw_587 mw_589 sw_X_put3 mw_4 mw_590) rfl rfl rfl (by decide +kernel) ⟨Nat.le_of_ble_eq_true rfl, Nat.le_of_ble_eq_true rfl⟩) (pcx_V (va_recv hKc hPc (ci := 3) (q0 := 0) rfl rfl) hPc hKc hDc hA0 hE hS) rfl rfl hl.1 rfl (lv_room (Nat.le_of_ble_eq_true rfl)) d_X_moves_191 ⟨Nat.zero_le _, Nat.zero_le _⟩) hS (fun q _ h => hFc q h) hFc (fun u t H1 locs ht hvm hw hB hz1 hk1 hS => ?_)
            obtain ⟨hP1, hK1, hD1⟩ := hB
            rw [ht] at hP1
            obtain ⟨hP, hD⟩ := va_join (wr := [c_A x1 c1 1024 m1, c_A x2 c2 256 m2]) (w1 := [c_X x0 x1 x2 x3 x4 z2.2, c_A x3 c3 9 (f_X_put3 (1 : Int32) z2.1 (1 : Int32) z2.2 z1.2.2)]) hP hD [0, 3] [1, 2] rfl rfl (by decide) (by decide) hk1 hFc hP1 hD1
            generalize H1 = H at hP hS ⊢
            have hP : va_P (dC, dI) classes [c_X x0 x1 x2 x3 x4 z2.2, c_A x1 c1 1024 m1, c_A x2 c2 256 m2, c_A x3 c3 9 (f_X_put3 (1 : Int32) z2.1 (1 : Int32) z2.2 z1.2.2)] H := hP.sub [2, 0, 1, 3] rfl
            have hD : va_D A [c_X x0 x1 x2 x3 x4 z2.2, c_A x1 c1 1024 m1, c_A x2 c2 256 m2, c_A x3 c3 9 (f_X_put3 (1 : Int32) z2.1 (1 : Int32) z2.2 z1.2.2)] := hD.sub [2, 0, 1, 3] (by decide) rfl
            obtain ⟨z3, ez3⟩ : ∃ z, z = (f_X_put3 (1 : Int32) z2.1 (1 : Int32) z2.2 z1.2.2) := ⟨_, rfl⟩
            rw [← ez3] at hP hD
            have hf : f_X_moves p1 p2 ku m1 m2 m3 = (z2.2, m1, m2, z3) := by rw [f_X_moves, if_neg c_1, if_neg c_2, if_neg c_3, if_pos c_4, if_neg c_5, ← ez1, f_X_moves_k14, ← ez2, f_X_moves_k15, ← ez3, f_X_moves_k16]
            exact W.vret hx hb hr (fun t ht hW => ⟨⟨(), rfl, trivial, by rw [hf]; exact ⟨by rw [ht]; exact hP, va_K.moved hW.alike hK, hD⟩⟩, hS.F ht⟩) hS.2.2 d_X_moves_194
          · refine lv_iload_n hx hb d_X_moves_138 rfl (lv_at hl 3 rfl) ?_
            refine lv_if_eq (tgt := 148) hx hb d_X_moves_139 (by decide) (fun c9 => absurd c9 c_3) (fun _ => ?_)
            refine lv_iload_n hx hb d_X_moves_142 rfl (lv_at hl 3 rfl) ?_
            refine lv_bipush (v := 7) hx hb d_X_moves_143 (by decide) ?_
            refine lv_icmp_ne (tgt := 154) hx hb d_X_moves_145 (by decide) (fun c_6 => ?_) (fun c_6 => ?_)
            · refine lv_aload_n hx hb d_X_moves_154 rfl (lv_at hl 1 rfl) ?_
              refine lv_iload_n hx hb d_X_moves_155 rfl (lv_at hl 0 rfl) ?_
              have hPc := hP.sub (ws' := [c_X x0 x1 x2 x3 x4 ku, c_A x1 c1 1024 m1, c_A x3 c3 9 m3]) [0, 1, 3] rfl
              have hDc := hD.sub (ws' := [c_X x0 x1 x2 x3 x4 ku, c_A x1 c1 1024 m1, c_A x3 c3 9 m3]) [0, 1, 3] (by decide) rfl
              have hKc := hK.sub (tys' := [(c1, .int), (c3, .int)]) [0, 2] rfl
              have hFc := va_free (wc := [c_X x0 x1 x2 x3 x4 ku, c_A x1 c1 1024 m1, c_A x3 c3 9 m3]) hD hS hA [0, 1, 3] rfl
              refine va_calli (va_runV (As := [.int (1 : Int32)]) (rest := []) ⟨hx, hb, hml, hown, htB⟩ (c_X_address l dC dI z0 x0 x1 x2 x3 x4 c1 c3 H.size (1 : Int32) ku m1 m3) (cwV 1 htB (gd_V mw_563 mw_565 sw_X_address mw_4 mw_566) rfl rfl rfl (by decide +kernel) ⟨Nat.le_of_ble_eq_true rfl, Nat.le_of_ble_eq_true rfl⟩) (pcx_V (va_recv hKc hPc (ci := 3) (q0 := 0) rfl rfl) hPc hKc hDc hA0 hE hS) rfl rfl hl.1 rfl (lv_room (Nat.le_of_ble_eq_true rfl)) d_X_moves_156 ⟨Nat.zero_le _, Nat.zero_le _⟩) hS (fun q _ h => hFc q h) hFc (fun r9 u t H1 locs ht hvm hw hB hz1 hk1 hS => ?_)
              subst hw
              obtain ⟨hP1, hK1, hD1⟩ := hB
              rw [ht] at hP1
              obtain ⟨hP, hD⟩ := va_join (wr := [c_A x2 c2 256 m2]) (w1 := [c_X x0 x1 x2 x3 x4 ((f_X_address (1 : Int32) ku m1 m3).2.1), c_A x1 c1 1024 m1, c_A x3 c3 9 ((f_X_address (1 : Int32) ku m1 m3).2.2)]) hP hD [0, 1, 3] [2] rfl rfl (by decide) (by decide) hk1 hFc hP1 hD1
              generalize H1 = H at hP hS ⊢
              have hP : va_P (dC, dI) classes [c_X x0 x1 x2 x3 x4 ((f_X_address (1 : Int32) ku m1 m3).2.1), c_A x1 c1 1024 m1, c_A x2 c2 256 m2, c_A x3 c3 9 ((f_X_address (1 : Int32) ku m1 m3).2.2)] H := hP.sub [1, 2, 0, 3] rfl
              have hD : va_D A [c_X x0 x1 x2 x3 x4 ((f_X_address (1 : Int32) ku m1 m3).2.1), c_A x1 c1 1024 m1, c_A x2 c2 256 m2, c_A x3 c3 9 ((f_X_address (1 : Int32) ku m1 m3).2.2)] := hD.sub [1, 2, 0, 3] (by decide) rfl
              obtain ⟨z1, ez1⟩ : ∃ z, z = (f_X_address (1 : Int32) ku m1 m3) := ⟨_, rfl⟩
              rw [← ez1] at hP hD ⊢
              refine lv_istore (lv' := [(4, .int z1.1), (3, .int (1 : Int32)), (0, .ref x0), (1, .int p1), (2, .int p2)]) hx hb d_X_moves_159 hl (by decide) rfl (fun ls hl => ?_)
              refine lv_iload_n hx hb d_X_moves_161 rfl (lv_at hl 3 rfl) ?_
              refine lv_iconst (v := 4) hx hb d_X_moves_162 (by decide) ?_
              refine lv_icmp_ne (tgt := 181) hx hb d_X_moves_163 (by decide) (fun c9 => absurd c_5 c9) (fun _ => ?_)
              refine lv_aload_n hx hb d_X_moves_166 rfl (lv_at hl 2 rfl) ?_
              refine lv_iload hx hb d_X_moves_167 (lv_at hl 0 rfl) ?_
              refine lv_aload_n hx hb d_X_moves_169 rfl (lv_at hl 2 rfl) ?_
              refine va_get (D := (dC, dI)) (ci := 3) (v := .ref x3) (C := R_X) (T := F_X) (N := 13) hx hb htB i_X hown hK hP 0 rfl rfl 2 (by decide) (htB _ mw_463) (fun _ h9 => h9) rfl d_X_moves_170 ?_
              refine lv_iconst (v := 1) hx hb d_X_moves_173 (by decide) ?_
              refine iald_at hx hb hK hP 3 2 rfl rfl (show ¬ ((1 : Int32) < 0 ∨ 9 ≤ (1 : Int32).toNatClampNeg) from by decide) (show (1 : Int32).toNatClampNeg = 1 from by decide) d_X_moves_174 ?_
              have hPc := hP.sub (ws' := [c_X x0 x1 x2 x3 x4 z1.2.1, c_A x1 c1 1024 m1, c_A x2 c2 256 m2]) [0, 1, 2] rfl
              have hDc := hD.sub (ws' := [c_X x0 x1 x2 x3 x4 z1.2.1, c_A x1 c1 1024 m1, c_A x2 c2 256 m2]) [0, 1, 2] (by decide) rfl
              have hKc := hK.sub (tys' := [(c1, .int), (c2, .int)]) [0, 1] rfl
              have hFc := va_free (wc := [c_X x0 x1 x2 x3 x4 z1.2.1, c_A x1 c1 1024 m1, c_A x2 c2 256 m2]) hD hS hA [0, 1, 2] rfl
              refine va_callv (va_runV (As := [.int z1.1, .int (z1.2.2 1)]) (rest := []) ⟨hx, hb, hml, hown, htB⟩ (c_X_write l dC dI z0 x0 x1 x2 x3 x4 c1 c2 H.size z1.1 (z1.2.2 1) z1.2.1 m1 m2 (by rw [ez1]; exact xs_address hxs)) (cwV 2 htB (gd_V mw_579 mw_581 sw_X_write mw_4 mw_582) rfl rfl rfl (by decide +kernel) ⟨Nat.le_of_ble_eq_true rfl, Nat.le_of_ble_eq_true rfl⟩) (pcx_V (va_recv hKc hPc (ci := 3) (q0 := 0) rfl rfl) hPc hKc hDc hA0 hE hS) rfl rfl hl.1 rfl (lv_room (Nat.le_of_ble_eq_true rfl)) d_X_moves_175 ⟨Nat.zero_le _, Nat.zero_le _⟩) hS (fun q _ h => hFc q h) hFc (fun u t H1 locs ht hvm hw hB hz1 hk1 hS => ?_)
              obtain ⟨hP1, hK1, hD1⟩ := hB
              rw [ht] at hP1
              obtain ⟨hP, hD⟩ := va_join (wr := [c_A x3 c3 9 z1.2.2]) (w1 := [c_X x0 x1 x2 x3 x4 ((f_X_write z1.1 (z1.2.2 1) z1.2.1 m1 m2).1), c_A x1 c1 1024 ((f_X_write z1.1 (z1.2.2 1) z1.2.1 m1 m2).2.1), c_A x2 c2 256 ((f_X_write z1.1 (z1.2.2 1) z1.2.1 m1 m2).2.2)]) hP hD [0, 1, 2] [3] rfl rfl (by decide) (by decide) hk1 hFc hP1 hD1
              generalize H1 = H at hP hS ⊢
              have hP : va_P (dC, dI) classes [c_X x0 x1 x2 x3 x4 ((f_X_write z1.1 (z1.2.2 1) z1.2.1 m1 m2).1), c_A x1 c1 1024 ((f_X_write z1.1 (z1.2.2 1) z1.2.1 m1 m2).2.1), c_A x2 c2 256 ((f_X_write z1.1 (z1.2.2 1) z1.2.1 m1 m2).2.2), c_A x3 c3 9 z1.2.2] H := hP.sub [1, 2, 3, 0] rfl
              have hD : va_D A [c_X x0 x1 x2 x3 x4 ((f_X_write z1.1 (z1.2.2 1) z1.2.1 m1 m2).1), c_A x1 c1 1024 ((f_X_write z1.1 (z1.2.2 1) z1.2.1 m1 m2).2.1), c_A x2 c2 256 ((f_X_write z1.1 (z1.2.2 1) z1.2.1 m1 m2).2.2), c_A x3 c3 9 z1.2.2] := hD.sub [1, 2, 3, 0] (by decide) rfl
              obtain ⟨z2, ez2⟩ : ∃ z, z = (f_X_write z1.1 (z1.2.2 1) z1.2.1 m1 m2) := ⟨_, rfl⟩
              rw [← ez2] at hP hD
              refine lv_goto (tgt := 194) hx hb d_X_moves_178 (by decide) ?_
              have hf : f_X_moves p1 p2 ku m1 m2 m3 = (z2.1, z2.2.1, z2.2.2, z1.2.2) := by rw [f_X_moves, if_neg c_1, if_neg c_2, if_neg c_3, if_pos c_4, if_pos c_5, if_neg c_6, ← ez1, f_X_moves_k17, ← ez2, f_X_moves_k18]
              exact W.vret hx hb hr (fun t ht hW => ⟨⟨(), rfl, trivial, by rw [hf]; exact ⟨by rw [ht]; exact hP, va_K.moved hW.alike hK, hD⟩⟩, hS.F ht⟩) hS.2.2 d_X_moves_194
            · refine lv_aload_n hx hb d_X_moves_148 rfl (lv_at hl 1 rfl) ?_
              refine lv_iconst (v := 4) hx hb d_X_moves_149 (by decide) ?_
              refine va_put (D := (dC, dI)) (ci := 3) (v := .int (4 : Int32)) (ty := .int) (C := R_X) (T := F_X) (N := 13) hx hb htB i_X t_X t_X_ok n_X hown hK hP hD hS 0 rfl rfl 8 (by decide) (htB _ mw_469) (fun _ h9 => h9) rfl (by decide +kernel) rfl rfl (Nat.le_of_ble_eq_true rfl) d_X_moves_150 (fun H locs hP hD hS => ?_)
              have hP : va_P (dC, dI) classes [c_X x0 x1 x2 x3 x4 (upd ku 4 (4 : Int32)), c_A x1 c1 1024 m1, c_A x2 c2 256 m2, c_A x3 c3 9 m3] H := hP
              have hD : va_D A [c_X x0 x1 x2 x3 x4 (upd ku 4 (4 : Int32)), c_A x1 c1 1024 m1, c_A x2 c2 256 m2, c_A x3 c3 9 m3] := hD
              have hf : f_X_moves p1 p2 ku m1 m2 m3 = ((upd ku 4 (4 : Int32)), m1, m2, m3) := by rw [f_X_moves, if_neg c_1, if_neg c_2, if_neg c_3, if_pos c_4, if_pos c_5, if_pos c_6]
              exact W.vret hx hb hr (fun t ht hW => ⟨⟨(), rfl, trivial, by rw [hf]; exact ⟨by rw [ht]; exact hP, va_K.moved hW.alike hK, hD⟩⟩, hS.F ht⟩) hS.2.2 d_X_moves_153
      · refine lv_iconst (v := 0) hx hb d_X_moves_85 (by decide) ?_
        refine lv_goto (tgt := 128) hx hb d_X_moves_86 (by decide) ?_
        refine lv_istore_n (lv' := [(3, .int (0 : Int32)), (0, .ref x0), (1, .int p1), (2, .int p2)]) hx hb d_X_moves_128 rfl hl (by decide) rfl (fun ls hl => ?_)
        refine lv_iload_n hx hb d_X_moves_129 rfl (lv_at hl 0 rfl) ?_
        refine lv_if_lt (tgt := 148) hx hb d_X_moves_130 (by decide) (fun c9 => absurd c9 (by decide)) (fun _ => ?_)
        refine lv_iload_n hx hb d_X_moves_133 rfl (lv_at hl 2 rfl) ?_
        refine lv_iconst (v := 4) hx hb d_X_moves_134 (by decide) ?_
        refine lv_icmp_ne (tgt := 154) hx hb d_X_moves_135 (by decide) (fun c_4 => ?_) (fun c_4 => ?_)
        · refine lv_aload_n hx hb d_X_moves_154 rfl (lv_at hl 1 rfl) ?_
          refine lv_iload_n hx hb d_X_moves_155 rfl (lv_at hl 0 rfl) ?_
          have hPc := hP.sub (ws' := [c_X x0 x1 x2 x3 x4 ku, c_A x1 c1 1024 m1, c_A x3 c3 9 m3]) [0, 1, 3] rfl
          have hDc := hD.sub (ws' := [c_X x0 x1 x2 x3 x4 ku, c_A x1 c1 1024 m1, c_A x3 c3 9 m3]) [0, 1, 3] (by decide) rfl
          have hKc := hK.sub (tys' := [(c1, .int), (c3, .int)]) [0, 2] rfl
          have hFc := va_free (wc := [c_X x0 x1 x2 x3 x4 ku, c_A x1 c1 1024 m1, c_A x3 c3 9 m3]) hD hS hA [0, 1, 3] rfl
          refine va_calli (va_runV (As := [.int (0 : Int32)]) (rest := []) ⟨hx, hb, hml, hown, htB⟩ (c_X_address l dC dI z0 x0 x1 x2 x3 x4 c1 c3 H.size (0 : Int32) ku m1 m3) (cwV 1 htB (gd_V mw_563 mw_565 sw_X_address mw_4 mw_566) rfl rfl rfl (by decide +kernel) ⟨Nat.le_of_ble_eq_true rfl, Nat.le_of_ble_eq_true rfl⟩) (pcx_V (va_recv hKc hPc (ci := 3) (q0 := 0) rfl rfl) hPc hKc hDc hA0 hE hS) rfl rfl hl.1 rfl (lv_room (Nat.le_of_ble_eq_true rfl)) d_X_moves_156 ⟨Nat.zero_le _, Nat.zero_le _⟩) hS (fun q _ h => hFc q h) hFc (fun r9 u t H1 locs ht hvm hw hB hz1 hk1 hS => ?_)
          subst hw
          obtain ⟨hP1, hK1, hD1⟩ := hB
          rw [ht] at hP1
          obtain ⟨hP, hD⟩ := va_join (wr := [c_A x2 c2 256 m2]) (w1 := [c_X x0 x1 x2 x3 x4 ((f_X_address (0 : Int32) ku m1 m3).2.1), c_A x1 c1 1024 m1, c_A x3 c3 9 ((f_X_address (0 : Int32) ku m1 m3).2.2)]) hP hD [0, 1, 3] [2] rfl rfl (by decide) (by decide) hk1 hFc hP1 hD1
          generalize H1 = H at hP hS ⊢
          have hP : va_P (dC, dI) classes [c_X x0 x1 x2 x3 x4 ((f_X_address (0 : Int32) ku m1 m3).2.1), c_A x1 c1 1024 m1, c_A x2 c2 256 m2, c_A x3 c3 9 ((f_X_address (0 : Int32) ku m1 m3).2.2)] H := hP.sub [1, 2, 0, 3] rfl
          have hD : va_D A [c_X x0 x1 x2 x3 x4 ((f_X_address (0 : Int32) ku m1 m3).2.1), c_A x1 c1 1024 m1, c_A x2 c2 256 m2, c_A x3 c3 9 ((f_X_address (0 : Int32) ku m1 m3).2.2)] := hD.sub [1, 2, 0, 3] (by decide) rfl
          obtain ⟨z1, ez1⟩ : ∃ z, z = (f_X_address (0 : Int32) ku m1 m3) := ⟨_, rfl⟩
          rw [← ez1] at hP hD ⊢
          refine lv_istore (lv' := [(4, .int z1.1), (3, .int (0 : Int32)), (0, .ref x0), (1, .int p1), (2, .int p2)]) hx hb d_X_moves_159 hl (by decide) rfl (fun ls hl => ?_)
          refine lv_iload_n hx hb d_X_moves_161 rfl (lv_at hl 3 rfl) ?_
          refine lv_iconst (v := 4) hx hb d_X_moves_162 (by decide) ?_
          refine lv_icmp_ne (tgt := 181) hx hb d_X_moves_163 (by decide) (fun _ => ?_) (fun c9 => absurd c9 c_4)
          refine lv_aload_n hx hb d_X_moves_181 rfl (lv_at hl 2 rfl) ?_
          refine lv_iconst (v := 1) hx hb d_X_moves_182 (by decide) ?_
          refine lv_aload_n hx hb d_X_moves_183 rfl (lv_at hl 2 rfl) ?_
          refine lv_iload_n hx hb d_X_moves_184 rfl (lv_at hl 1 rfl) ?_
          refine lv_iload hx hb d_X_moves_185 (lv_at hl 0 rfl) ?_
          have hPc := hP.sub (ws' := [c_X x0 x1 x2 x3 x4 z1.2.1, c_A x1 c1 1024 m1, c_A x3 c3 9 z1.2.2]) [0, 1, 3] rfl
          have hDc := hD.sub (ws' := [c_X x0 x1 x2 x3 x4 z1.2.1, c_A x1 c1 1024 m1, c_A x3 c3 9 z1.2.2]) [0, 1, 3] (by decide) rfl
          have hKc := hK.sub (tys' := [(c1, .int), (c3, .int)]) [0, 2] rfl
          have hFc := va_free (wc := [c_X x0 x1 x2 x3 x4 z1.2.1, c_A x1 c1 1024 m1, c_A x3 c3 9 z1.2.2]) hD hS hA [0, 1, 3] rfl
          refine va_calli (va_runV (As := [.int (0 : Int32), .int z1.1]) (rest := [.int (1 : Int32), .ref x0]) ⟨hx, hb, hml, hown, htB⟩ (c_X_operand l dC dI z0 x0 x1 x2 x3 x4 c1 c3 H.size (0 : Int32) z1.1 z1.2.1 m1 z1.2.2) (cwV 2 htB (gd_V mw_583 mw_585 sw_X_operand mw_4 mw_586) rfl rfl rfl (by decide +kernel) ⟨Nat.le_of_ble_eq_true rfl, Nat.le_of_ble_eq_true rfl⟩) (pcx_V (va_recv hKc hPc (ci := 3) (q0 := 0) rfl rfl) hPc hKc hDc hA0 hE hS) rfl rfl hl.1 rfl (lv_room (Nat.le_of_ble_eq_true rfl)) d_X_moves_187 ⟨Nat.zero_le _, Nat.zero_le _⟩) hS (fun q _ h => hFc q h) hFc (fun r9 u t H1 locs ht hvm hw hB hz1 hk1 hS => ?_)
          subst hw
          obtain ⟨hP1, hK1, hD1⟩ := hB
          rw [ht] at hP1
          obtain ⟨hP, hD⟩ := va_join (wr := [c_A x2 c2 256 m2]) (w1 := [c_X x0 x1 x2 x3 x4 ((f_X_operand (0 : Int32) z1.1 z1.2.1 m1 z1.2.2).2), c_A x1 c1 1024 m1, c_A x3 c3 9 z1.2.2]) hP hD [0, 1, 3] [2] rfl rfl (by decide) (by decide) hk1 hFc hP1 hD1
          generalize H1 = H at hP hS ⊢
          have hP : va_P (dC, dI) classes [c_X x0 x1 x2 x3 x4 ((f_X_operand (0 : Int32) z1.1 z1.2.1 m1 z1.2.2).2), c_A x1 c1 1024 m1, c_A x2 c2 256 m2, c_A x3 c3 9 z1.2.2] H := hP.sub [1, 2, 0, 3] rfl
          have hD : va_D A [c_X x0 x1 x2 x3 x4 ((f_X_operand (0 : Int32) z1.1 z1.2.1 m1 z1.2.2).2), c_A x1 c1 1024 m1, c_A x2 c2 256 m2, c_A x3 c3 9 z1.2.2] := hD.sub [1, 2, 0, 3] (by decide) rfl
          obtain ⟨z2, ez2⟩ : ∃ z, z = (f_X_operand (0 : Int32) z1.1 z1.2.1 m1 z1.2.2) := ⟨_, rfl⟩
          rw [← ez2] at hP hD ⊢
          refine lv_iconst (v := 1) hx hb d_X_moves_190 (by decide) ?_
          have hPc := hP.sub (ws' := [c_X x0 x1 x2 x3 x4 z2.2, c_A x3 c3 9 z1.2.2]) [0, 3] rfl
          have hDc := hD.sub (ws' := [c_X x0 x1 x2 x3 x4 z2.2, c_A x3 c3 9 z1.2.2]) [0, 3] (by decide) rfl
          have hKc := hK.sub (tys' := [(c3, .int)]) [2] rfl
          have hFc := va_free (wc := [c_X x0 x1 x2 x3 x4 z2.2, c_A x3 c3 9 z1.2.2]) hD hS hA [0, 3] rfl
          refine va_callv (va_runV (As := [.int (1 : Int32), .int z2.1, .int (1 : Int32)]) (rest := []) ⟨hx, hb, hml, hown, htB⟩ (c_X_put3 l dC dI z0 x0 x1 x2 x3 x4 c3 H.size (1 : Int32) z2.1 (1 : Int32) z2.2 z1.2.2 (show ¬ ((1 : Int32) < 0 ∨ 9 ≤ (1 : Int32).toNatClampNeg) from by decide)) (cwV 3 htB (gd_V mw_587 mw_589 sw_X_put3 mw_4 mw_590) rfl rfl rfl (by decide +kernel) ⟨Nat.le_of_ble_eq_true rfl, Nat.le_of_ble_eq_true rfl⟩) (pcx_V (va_recv hKc hPc (ci := 3) (q0 := 0) rfl rfl) hPc hKc hDc hA0 hE hS) rfl rfl hl.1 rfl (lv_room (Nat.le_of_ble_eq_true rfl)) d_X_moves_191 ⟨Nat.zero_le _, Nat.zero_le _⟩) hS (fun q _ h => hFc q h) hFc (fun u t H1 locs ht hvm hw hB hz1 hk1 hS => ?_)
          obtain ⟨hP1, hK1, hD1⟩ := hB
          rw [ht] at hP1
          obtain ⟨hP, hD⟩ := va_join (wr := [c_A x1 c1 1024 m1, c_A x2 c2 256 m2]) (w1 := [c_X x0 x1 x2 x3 x4 z2.2, c_A x3 c3 9 (f_X_put3 (1 : Int32) z2.1 (1 : Int32) z2.2 z1.2.2)]) hP hD [0, 3] [1, 2] rfl rfl (by decide) (by decide) hk1 hFc hP1 hD1
          generalize H1 = H at hP hS ⊢
          have hP : va_P (dC, dI) classes [c_X x0 x1 x2 x3 x4 z2.2, c_A x1 c1 1024 m1, c_A x2 c2 256 m2, c_A x3 c3 9 (f_X_put3 (1 : Int32) z2.1 (1 : Int32) z2.2 z1.2.2)] H := hP.sub [2, 0, 1, 3] rfl
          have hD : va_D A [c_X x0 x1 x2 x3 x4 z2.2, c_A x1 c1 1024 m1, c_A x2 c2 256 m2, c_A x3 c3 9 (f_X_put3 (1 : Int32) z2.1 (1 : Int32) z2.2 z1.2.2)] := hD.sub [2, 0, 1, 3] (by decide) rfl
          obtain ⟨z3, ez3⟩ : ∃ z, z = (f_X_put3 (1 : Int32) z2.1 (1 : Int32) z2.2 z1.2.2) := ⟨_, rfl⟩
          rw [← ez3] at hP hD
          have hf : f_X_moves p1 p2 ku m1 m2 m3 = (z2.2, m1, m2, z3) := by rw [f_X_moves, if_neg c_1, if_neg c_2, if_pos c_3, if_neg c_4, ← ez1, f_X_moves_k19, ← ez2, f_X_moves_k20, ← ez3, f_X_moves_k21]
          exact W.vret hx hb hr (fun t ht hW => ⟨⟨(), rfl, trivial, by rw [hf]; exact ⟨by rw [ht]; exact hP, va_K.moved hW.alike hK, hD⟩⟩, hS.F ht⟩) hS.2.2 d_X_moves_194
        · refine lv_iload_n hx hb d_X_moves_138 rfl (lv_at hl 3 rfl) ?_
          refine lv_if_eq (tgt := 148) hx hb d_X_moves_139 (by decide) (fun _ => ?_) (fun c9 => absurd c_3 c9)
          refine lv_aload_n hx hb d_X_moves_148 rfl (lv_at hl 1 rfl) ?_
          refine lv_iconst (v := 4) hx hb d_X_moves_149 (by decide) ?_
          refine va_put (D := (dC, dI)) (ci := 3) (v := .int (4 : Int32)) (ty := .int) (C := R_X) (T := F_X) (N := 13) hx hb htB i_X t_X t_X_ok n_X hown hK hP hD hS 0 rfl rfl 8 (by decide) (htB _ mw_469) (fun _ h9 => h9) rfl (by decide +kernel) rfl rfl (Nat.le_of_ble_eq_true rfl) d_X_moves_150 (fun H locs hP hD hS => ?_)
          have hP : va_P (dC, dI) classes [c_X x0 x1 x2 x3 x4 (upd ku 4 (4 : Int32)), c_A x1 c1 1024 m1, c_A x2 c2 256 m2, c_A x3 c3 9 m3] H := hP
          have hD : va_D A [c_X x0 x1 x2 x3 x4 (upd ku 4 (4 : Int32)), c_A x1 c1 1024 m1, c_A x2 c2 256 m2, c_A x3 c3 9 m3] := hD
          have hf : f_X_moves p1 p2 ku m1 m2 m3 = ((upd ku 4 (4 : Int32)), m1, m2, m3) := by rw [f_X_moves, if_neg c_1, if_neg c_2, if_pos c_3, if_pos c_4]
          exact W.vret hx hb hr (fun t ht hW => ⟨⟨(), rfl, trivial, by rw [hf]; exact ⟨by rw [ht]; exact hP, va_K.moved hW.alike hK, hD⟩⟩, hS.F ht⟩) hS.2.2 d_X_moves_153
    · refine lv_iload_n hx hb d_X_moves_46 rfl (lv_at hl 1 rfl) ?_
      refine lv_iconst (v := 4) hx hb d_X_moves_47 (by decide) ?_
      refine lv_icmp_ne (tgt := 66) hx hb d_X_moves_48 (by decide) (fun c_3 => ?_) (fun c_3 => ?_)
      · refine lv_aload_n hx hb d_X_moves_66 rfl (lv_at hl 0 rfl) ?_
        refine lv_iconst (v := 1) hx hb d_X_moves_67 (by decide) ?_
        refine lv_aload_n hx hb d_X_moves_68 rfl (lv_at hl 0 rfl) ?_
        refine va_get (D := (dC, dI)) (ci := 3) (v := .ref x3) (C := R_X) (T := F_X) (N := 13) hx hb htB i_X hown hK hP 0 rfl rfl 2 (by decide) (htB _ mw_463) (fun _ h9 => h9) rfl d_X_moves_69 ?_
        refine lv_iconst (v := 3) hx hb d_X_moves_72 (by decide) ?_
        refine iald_at hx hb hK hP 3 2 rfl rfl (show ¬ ((3 : Int32) < 0 ∨ 9 ≤ (3 : Int32).toNatClampNeg) from by decide) (show (3 : Int32).toNatClampNeg = 3 from by decide) d_X_moves_73 ?_
        refine lv_iconst (v := 1) hx hb d_X_moves_74 (by decide) ?_
        have hPc := hP.sub (ws' := [c_X x0 x1 x2 x3 x4 ku, c_A x3 c3 9 m3]) [0, 3] rfl
        have hDc := hD.sub (ws' := [c_X x0 x1 x2 x3 x4 ku, c_A x3 c3 9 m3]) [0, 3] (by decide) rfl
        have hKc := hK.sub (tys' := [(c3, .int)]) [2] rfl
        have hFc := va_free (wc := [c_X x0 x1 x2 x3 x4 ku, c_A x3 c3 9 m3]) hD hS hA [0, 3] rfl
        refine va_callv (va_runV (As := [.int (1 : Int32), .int (m3 3), .int (1 : Int32)]) (rest := []) ⟨hx, hb, hml, hown, htB⟩ (c_X_put3 l dC dI z0 x0 x1 x2 x3 x4 c3 H.size (1 : Int32) (m3 3) (1 : Int32) ku m3 (show ¬ ((1 : Int32) < 0 ∨ 9 ≤ (1 : Int32).toNatClampNeg) from by decide)) (cwV 3 htB (gd_V mw_587 mw_589 sw_X_put3 mw_4 mw_590) rfl rfl rfl (by decide +kernel) ⟨Nat.le_of_ble_eq_true rfl, Nat.le_of_ble_eq_true rfl⟩) (pcx_V (va_recv hKc hPc (ci := 3) (q0 := 0) rfl rfl) hPc hKc hDc hA0 hE hS) rfl rfl hl.1 rfl (lv_room (Nat.le_of_ble_eq_true rfl)) d_X_moves_75 ⟨Nat.zero_le _, Nat.zero_le _⟩) hS (fun q _ h => hFc q h) hFc (fun u t H1 locs ht hvm hw hB hz1 hk1 hS => ?_)
        obtain ⟨hP1, hK1, hD1⟩ := hB
        rw [ht] at hP1
        obtain ⟨hP, hD⟩ := va_join (wr := [c_A x1 c1 1024 m1, c_A x2 c2 256 m2]) (w1 := [c_X x0 x1 x2 x3 x4 ku, c_A x3 c3 9 (f_X_put3 (1 : Int32) (m3 3) (1 : Int32) ku m3)]) hP hD [0, 3] [1, 2] rfl rfl (by decide) (by decide) hk1 hFc hP1 hD1
        generalize H1 = H at hP hS ⊢
        have hP : va_P (dC, dI) classes [c_X x0 x1 x2 x3 x4 ku, c_A x1 c1 1024 m1, c_A x2 c2 256 m2, c_A x3 c3 9 (f_X_put3 (1 : Int32) (m3 3) (1 : Int32) ku m3)] H := hP.sub [2, 0, 1, 3] rfl
        have hD : va_D A [c_X x0 x1 x2 x3 x4 ku, c_A x1 c1 1024 m1, c_A x2 c2 256 m2, c_A x3 c3 9 (f_X_put3 (1 : Int32) (m3 3) (1 : Int32) ku m3)] := hD.sub [2, 0, 1, 3] (by decide) rfl
        obtain ⟨z1, ez1⟩ : ∃ z, z = (f_X_put3 (1 : Int32) (m3 3) (1 : Int32) ku m3) := ⟨_, rfl⟩
        rw [← ez1] at hP hD
        refine lv_goto (tgt := 194) hx hb d_X_moves_78 (by decide) ?_
        have hf : f_X_moves p1 p2 ku m1 m2 m3 = (ku, m1, m2, z1) := by rw [f_X_moves, if_neg c_1, if_pos c_2, if_neg c_3, ← ez1, f_X_moves_k22]
        exact W.vret hx hb hr (fun t ht hW => ⟨⟨(), rfl, trivial, by rw [hf]; exact ⟨by rw [ht]; exact hP, va_K.moved hW.alike hK, hD⟩⟩, hS.F ht⟩) hS.2.2 d_X_moves_194
      · refine lv_aload_n hx hb d_X_moves_51 rfl (lv_at hl 0 rfl) ?_
        refine lv_iconst (v := 3) hx hb d_X_moves_52 (by decide) ?_
        refine lv_aload_n hx hb d_X_moves_53 rfl (lv_at hl 0 rfl) ?_
        refine va_get (D := (dC, dI)) (ci := 3) (v := .ref x3) (C := R_X) (T := F_X) (N := 13) hx hb htB i_X hown hK hP 0 rfl rfl 2 (by decide) (htB _ mw_463) (fun _ h9 => h9) rfl d_X_moves_54 ?_
        refine lv_iconst (v := 1) hx hb d_X_moves_57 (by decide) ?_
        refine iald_at hx hb hK hP 3 2 rfl rfl (show ¬ ((1 : Int32) < 0 ∨ 9 ≤ (1 : Int32).toNatClampNeg) from by decide) (show (1 : Int32).toNatClampNeg = 1 from by decide) d_X_moves_58 ?_
        refine lv_iconst (v := 0) hx hb d_X_moves_59 (by decide) ?_
        have hPc := hP.sub (ws' := [c_X x0 x1 x2 x3 x4 ku, c_A x3 c3 9 m3]) [0, 3] rfl
        have hDc := hD.sub (ws' := [c_X x0 x1 x2 x3 x4 ku, c_A x3 c3 9 m3]) [0, 3] (by decide) rfl
        have hKc := hK.sub (tys' := [(c3, .int)]) [2] rfl
        have hFc := va_free (wc := [c_X x0 x1 x2 x3 x4 ku, c_A x3 c3 9 m3]) hD hS hA [0, 3] rfl
        refine va_callv (va_runV (As := [.int (3 : Int32), .int (m3 1), .int (0 : Int32)]) (rest := []) ⟨hx, hb, hml, hown, htB⟩ (c_X_put3 l dC dI z0 x0 x1 x2 x3 x4 c3 H.size (3 : Int32) (m3 1) (0 : Int32) ku m3 (show ¬ ((3 : Int32) < 0 ∨ 9 ≤ (3 : Int32).toNatClampNeg) from by decide)) (cwV 3 htB (gd_V mw_587 mw_589 sw_X_put3 mw_4 mw_590) rfl rfl rfl (by decide +kernel) ⟨Nat.le_of_ble_eq_true rfl, Nat.le_of_ble_eq_true rfl⟩) (pcx_V (va_recv hKc hPc (ci := 3) (q0 := 0) rfl rfl) hPc hKc hDc hA0 hE hS) rfl rfl hl.1 rfl (lv_room (Nat.le_of_ble_eq_true rfl)) d_X_moves_60 ⟨Nat.zero_le _, Nat.zero_le _⟩) hS (fun q _ h => hFc q h) hFc (fun u t H1 locs ht hvm hw hB hz1 hk1 hS => ?_)
        obtain ⟨hP1, hK1, hD1⟩ := hB
        rw [ht] at hP1
        obtain ⟨hP, hD⟩ := va_join (wr := [c_A x1 c1 1024 m1, c_A x2 c2 256 m2]) (w1 := [c_X x0 x1 x2 x3 x4 ku, c_A x3 c3 9 (f_X_put3 (3 : Int32) (m3 1) (0 : Int32) ku m3)]) hP hD [0, 3] [1, 2] rfl rfl (by decide) (by decide) hk1 hFc hP1 hD1
        generalize H1 = H at hP hS ⊢
        have hP : va_P (dC, dI) classes [c_X x0 x1 x2 x3 x4 ku, c_A x1 c1 1024 m1, c_A x2 c2 256 m2, c_A x3 c3 9 (f_X_put3 (3 : Int32) (m3 1) (0 : Int32) ku m3)] H := hP.sub [2, 0, 1, 3] rfl
        have hD : va_D A [c_X x0 x1 x2 x3 x4 ku, c_A x1 c1 1024 m1, c_A x2 c2 256 m2, c_A x3 c3 9 (f_X_put3 (3 : Int32) (m3 1) (0 : Int32) ku m3)] := hD.sub [2, 0, 1, 3] (by decide) rfl
        obtain ⟨z1, ez1⟩ : ∃ z, z = (f_X_put3 (3 : Int32) (m3 1) (0 : Int32) ku m3) := ⟨_, rfl⟩
        rw [← ez1] at hP hD
        refine lv_goto (tgt := 194) hx hb d_X_moves_63 (by decide) ?_
        have hf : f_X_moves p1 p2 ku m1 m2 m3 = (ku, m1, m2, z1) := by rw [f_X_moves, if_neg c_1, if_pos c_2, if_pos c_3, ← ez1, f_X_moves_k23]
        exact W.vret hx hb hr (fun t ht hW => ⟨⟨(), rfl, trivial, by rw [hf]; exact ⟨by rw [ht]; exact hP, va_K.moved hW.alike hK, hD⟩⟩, hS.F ht⟩) hS.2.2 d_X_moves_194
  · refine lv_iload_n hx hb d_X_moves_5 rfl (lv_at hl 1 rfl) ?_
    refine lv_iconst (v := 4) hx hb d_X_moves_6 (by decide) ?_
    refine lv_icmp_ne (tgt := 25) hx hb d_X_moves_7 (by decide) (fun c_2 => ?_) (fun c_2 => ?_)
    · refine lv_aload_n hx hb d_X_moves_25 rfl (lv_at hl 0 rfl) ?_
      refine lv_iconst (v := 1) hx hb d_X_moves_26 (by decide) ?_
      refine lv_aload_n hx hb d_X_moves_27 rfl (lv_at hl 0 rfl) ?_
      refine va_get (D := (dC, dI)) (ci := 3) (v := .ref x3) (C := R_X) (T := F_X) (N := 13) hx hb htB i_X hown hK hP 0 rfl rfl 2 (by decide) (htB _ mw_463) (fun _ h9 => h9) rfl d_X_moves_28 ?_
      refine lv_iconst (v := 0) hx hb d_X_moves_31 (by decide) ?_
      refine iald_at hx hb hK hP 3 2 rfl rfl (show ¬ ((0 : Int32) < 0 ∨ 9 ≤ (0 : Int32).toNatClampNeg) from by decide) (show (0 : Int32).toNatClampNeg = 0 from by decide) d_X_moves_32 ?_
      refine lv_iconst (v := 1) hx hb d_X_moves_33 (by decide) ?_
      have hPc := hP.sub (ws' := [c_X x0 x1 x2 x3 x4 ku, c_A x3 c3 9 m3]) [0, 3] rfl
      have hDc := hD.sub (ws' := [c_X x0 x1 x2 x3 x4 ku, c_A x3 c3 9 m3]) [0, 3] (by decide) rfl
      have hKc := hK.sub (tys' := [(c3, .int)]) [2] rfl
      have hFc := va_free (wc := [c_X x0 x1 x2 x3 x4 ku, c_A x3 c3 9 m3]) hD hS hA [0, 3] rfl
      refine va_callv (va_runV (As := [.int (1 : Int32), .int (m3 0), .int (1 : Int32)]) (rest := []) ⟨hx, hb, hml, hown, htB⟩ (c_X_put3 l dC dI z0 x0 x1 x2 x3 x4 c3 H.size (1 : Int32) (m3 0) (1 : Int32) ku m3 (show ¬ ((1 : Int32) < 0 ∨ 9 ≤ (1 : Int32).toNatClampNeg) from by decide)) (cwV 3 htB (gd_V mw_587 mw_589 sw_X_put3 mw_4 mw_590) rfl rfl rfl (by decide +kernel) ⟨Nat.le_of_ble_eq_true rfl, Nat.le_of_ble_eq_true rfl⟩) (pcx_V (va_recv hKc hPc (ci := 3) (q0 := 0) rfl rfl) hPc hKc hDc hA0 hE hS) rfl rfl hl.1 rfl (lv_room (Nat.le_of_ble_eq_true rfl)) d_X_moves_34 ⟨Nat.zero_le _, Nat.zero_le _⟩) hS (fun q _ h => hFc q h) hFc (fun u t H1 locs ht hvm hw hB hz1 hk1 hS => ?_)
      obtain ⟨hP1, hK1, hD1⟩ := hB
      rw [ht] at hP1
      obtain ⟨hP, hD⟩ := va_join (wr := [c_A x1 c1 1024 m1, c_A x2 c2 256 m2]) (w1 := [c_X x0 x1 x2 x3 x4 ku, c_A x3 c3 9 (f_X_put3 (1 : Int32) (m3 0) (1 : Int32) ku m3)]) hP hD [0, 3] [1, 2] rfl rfl (by decide) (by decide) hk1 hFc hP1 hD1
      generalize H1 = H at hP hS ⊢
      have hP : va_P (dC, dI) classes [c_X x0 x1 x2 x3 x4 ku, c_A x1 c1 1024 m1, c_A x2 c2 256 m2, c_A x3 c3 9 (f_X_put3 (1 : Int32) (m3 0) (1 : Int32) ku m3)] H := hP.sub [2, 0, 1, 3] rfl
      have hD : va_D A [c_X x0 x1 x2 x3 x4 ku, c_A x1 c1 1024 m1, c_A x2 c2 256 m2, c_A x3 c3 9 (f_X_put3 (1 : Int32) (m3 0) (1 : Int32) ku m3)] := hD.sub [2, 0, 1, 3] (by decide) rfl
      obtain ⟨z1, ez1⟩ : ∃ z, z = (f_X_put3 (1 : Int32) (m3 0) (1 : Int32) ku m3) := ⟨_, rfl⟩
      rw [← ez1] at hP hD
      refine lv_goto (tgt := 194) hx hb d_X_moves_37 (by decide) ?_
      have hf : f_X_moves p1 p2 ku m1 m2 m3 = (ku, m1, m2, z1) := by rw [f_X_moves, if_pos c_1, if_neg c_2, ← ez1, f_X_moves_k24]
      exact W.vret hx hb hr (fun t ht hW => ⟨⟨(), rfl, trivial, by rw [hf]; exact ⟨by rw [ht]; exact hP, va_K.moved hW.alike hK, hD⟩⟩, hS.F ht⟩) hS.2.2 d_X_moves_194
    · refine lv_aload_n hx hb d_X_moves_10 rfl (lv_at hl 0 rfl) ?_
      refine lv_iconst (v := 0) hx hb d_X_moves_11 (by decide) ?_
      refine lv_aload_n hx hb d_X_moves_12 rfl (lv_at hl 0 rfl) ?_
      refine va_get (D := (dC, dI)) (ci := 3) (v := .ref x3) (C := R_X) (T := F_X) (N := 13) hx hb htB i_X hown hK hP 0 rfl rfl 2 (by decide) (htB _ mw_463) (fun _ h9 => h9) rfl d_X_moves_13 ?_
      refine lv_iconst (v := 1) hx hb d_X_moves_16 (by decide) ?_
      refine iald_at hx hb hK hP 3 2 rfl rfl (show ¬ ((1 : Int32) < 0 ∨ 9 ≤ (1 : Int32).toNatClampNeg) from by decide) (show (1 : Int32).toNatClampNeg = 1 from by decide) d_X_moves_17 ?_
      refine lv_iconst (v := 1) hx hb d_X_moves_18 (by decide) ?_
      have hPc := hP.sub (ws' := [c_X x0 x1 x2 x3 x4 ku, c_A x3 c3 9 m3]) [0, 3] rfl
      have hDc := hD.sub (ws' := [c_X x0 x1 x2 x3 x4 ku, c_A x3 c3 9 m3]) [0, 3] (by decide) rfl
      have hKc := hK.sub (tys' := [(c3, .int)]) [2] rfl
      have hFc := va_free (wc := [c_X x0 x1 x2 x3 x4 ku, c_A x3 c3 9 m3]) hD hS hA [0, 3] rfl
      refine va_callv (va_runV (As := [.int (0 : Int32), .int (m3 1), .int (1 : Int32)]) (rest := []) ⟨hx, hb, hml, hown, htB⟩ (c_X_put3 l dC dI z0 x0 x1 x2 x3 x4 c3 H.size (0 : Int32) (m3 1) (1 : Int32) ku m3 (show ¬ ((0 : Int32) < 0 ∨ 9 ≤ (0 : Int32).toNatClampNeg) from by decide)) (cwV 3 htB (gd_V mw_587 mw_589 sw_X_put3 mw_4 mw_590) rfl rfl rfl (by decide +kernel) ⟨Nat.le_of_ble_eq_true rfl, Nat.le_of_ble_eq_true rfl⟩) (pcx_V (va_recv hKc hPc (ci := 3) (q0 := 0) rfl rfl) hPc hKc hDc hA0 hE hS) rfl rfl hl.1 rfl (lv_room (Nat.le_of_ble_eq_true rfl)) d_X_moves_19 ⟨Nat.zero_le _, Nat.zero_le _⟩) hS (fun q _ h => hFc q h) hFc (fun u t H1 locs ht hvm hw hB hz1 hk1 hS => ?_)
      obtain ⟨hP1, hK1, hD1⟩ := hB
      rw [ht] at hP1
      obtain ⟨hP, hD⟩ := va_join (wr := [c_A x1 c1 1024 m1, c_A x2 c2 256 m2]) (w1 := [c_X x0 x1 x2 x3 x4 ku, c_A x3 c3 9 (f_X_put3 (0 : Int32) (m3 1) (1 : Int32) ku m3)]) hP hD [0, 3] [1, 2] rfl rfl (by decide) (by decide) hk1 hFc hP1 hD1
      generalize H1 = H at hP hS ⊢
      have hP : va_P (dC, dI) classes [c_X x0 x1 x2 x3 x4 ku, c_A x1 c1 1024 m1, c_A x2 c2 256 m2, c_A x3 c3 9 (f_X_put3 (0 : Int32) (m3 1) (1 : Int32) ku m3)] H := hP.sub [2, 0, 1, 3] rfl
      have hD : va_D A [c_X x0 x1 x2 x3 x4 ku, c_A x1 c1 1024 m1, c_A x2 c2 256 m2, c_A x3 c3 9 (f_X_put3 (0 : Int32) (m3 1) (1 : Int32) ku m3)] := hD.sub [2, 0, 1, 3] (by decide) rfl
      obtain ⟨z1, ez1⟩ : ∃ z, z = (f_X_put3 (0 : Int32) (m3 1) (1 : Int32) ku m3) := ⟨_, rfl⟩
      rw [← ez1] at hP hD
      refine lv_goto (tgt := 194) hx hb d_X_moves_22 (by decide) ?_
      have hf : f_X_moves p1 p2 ku m1 m2 m3 = (ku, m1, m2, z1) := by rw [f_X_moves, if_pos c_1, if_pos c_2, ← ez1, f_X_moves_k25]
      exact W.vret hx hb hr (fun t ht hW => ⟨⟨(), rfl, trivial, by rw [hf]; exact ⟨by rw [ht]; exact hP, va_K.moved hW.alike hK, hD⟩⟩, hS.F ht⟩) hS.2.2 d_X_moves_194
