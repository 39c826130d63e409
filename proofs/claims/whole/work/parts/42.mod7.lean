set_option maxHeartbeats 4000000 in
set_option maxRecDepth 100000 in
theorem L_X_instruction_a {p : Program} {l : Launch} {e : Env} {R : Room} {s : State} {m : MethodId} {args : Array Value} {below : List Frame} {meth : Method} {c : Code} {Q : State → Prop} {dC : Nat → ClassId} {dI : Nat → Nat → Nat} {A : Nat → Prop} {H0 : Heap} {cells slots : Nat} {x0 : Nat} {x1 : Nat} {x2 : Nat} {x3 : Nat} {x4 : Nat} {c1 : ClassId} {c2 : ClassId} {c3 : ClassId} {c4 : ClassId} (hx : p.tables.exec = Jvm.exec) (hb : c.code = b_X_instruction) (hml : c.maxLocals = 5) (hown : s.vm.findClass R_X = some m.cls) (htB : ∀ w ∈ BIG, w.before args s = true) (hK : va_K (dC, dI) classes [(c1, .int), (c2, .int), (c3, .int), (c4, .int)] s) {ku m1 m2 m3 m4 : Nat → Int32} 
    (K : ∀ (H : Heap) (locs : List Loc) (ls : Array Slot), va_P (dC, dI) classes [c_X x0 x1 x2 x3 x4 ku, c_A x1 c1 1024 m1, c_A x2 c2 256 m2, c_A x3 c3 9 m3, c_A x4 c4 9 (va_cpy m3 m4 0 0 9)] H → va_D A [c_X x0 x1 x2 x3 x4 ku, c_A x1 c1 1024 m1, c_A x2 c2 256 m2, c_A x3 c3 9 m3, c_A x4 c4 9 (va_cpy m3 m4 0 0 9)] → va_S A H0 H locs → lv_has ls 5 [(0, .ref x0)] → W p l e R s m args below meth c H locs cells slots Q (F0 m 26 ls [])) :
    ∀ (n j : Nat), j ≤ 9 → 10 ≤ j + n → ∀ (y9 : Nat → Int32), y9 = va_cpy m3 m4 0 0 j → ∀ (H : Heap) (locs : List Loc) (ls : Array Slot), va_P (dC, dI) classes [c_X x0 x1 x2 x3 x4 ku, c_A x1 c1 1024 m1, c_A x2 c2 256 m2, c_A x3 c3 9 m3, c_A x4 c4 9 y9] H → va_D A [c_X x0 x1 x2 x3 x4 ku, c_A x1 c1 1024 m1, c_A x2 c2 256 m2, c_A x3 c3 9 m3, c_A x4 c4 9 y9] → va_S A H0 H locs → lv_has ls 5 [(1, .int (nI j)), (0, .ref x0)] → W p l e R s m args below meth c H locs cells slots Q (F0 m 2 ls []) := by
  intro n
  induction n with
  | zero =>
    intro j h1 h2
    exact absurd h2 (by omega)
  | succ n ih =>
    intro j hj hjn y9 e1 H locs ls hP hD hS hl
    refine lv_iload_n hx hb d_X_instruction_2 rfl (lv_at hl 0 rfl) ?_
    refine lv_bipush (v := 9) hx hb d_X_instruction_3 (by decide) ?_
    refine lv_icmp_ge (tgt := 26) hx hb d_X_instruction_5 (by decide) (fun c_1 => ?_) (fun c_1 => ?_)
    · have hjN : j = 9 := Nat.le_antisymm hj (Nat.le_of_not_lt (fun q => absurd c_1 (nI_ge (b := 9) q (by omega))))
      subst hjN
      subst e1
      exact K H _ ls hP hD hS (lv_sub hl [1] rfl)
    · refine lv_aload_n hx hb d_X_instruction_8 rfl (lv_at hl 1 rfl) ?_
      refine va_get (D := (dC, dI)) (ci := 3) (v := .ref x4) (C := R_X) (T := F_X) (N := 13) hx hb htB i_X hown hK hP 0 rfl rfl 3 (by decide) (htB _ mw_464) (fun _ h9 => h9) rfl d_X_instruction_9 ?_
      refine lv_iload_n hx hb d_X_instruction_12 rfl (lv_at hl 0 rfl) ?_
      refine lv_aload_n hx hb d_X_instruction_13 rfl (lv_at hl 1 rfl) ?_
      refine va_get (D := (dC, dI)) (ci := 3) (v := .ref x3) (C := R_X) (T := F_X) (N := 13) hx hb htB i_X hown hK hP 0 rfl rfl 2 (by decide) (htB _ mw_463) (fun _ h9 => h9) rfl d_X_instruction_14 ?_
      refine lv_iload_n hx hb d_X_instruction_17 rfl (lv_at hl 0 rfl) ?_
      refine va_iald hx hb hK hP 3 2 rfl rfl (vp_in_nI (lt_ofN rfl c_1 hj (by decide)) (by decide)) d_X_instruction_18 ?_
      refine va_iast hx hb hK hP hD hS 4 3 rfl rfl (vp_in_nI (lt_ofN rfl c_1 hj (by decide)) (by decide)) d_X_instruction_19 (fun H locs hP hD hS => ?_)
      have hP : va_P (dC, dI) classes [c_X x0 x1 x2 x3 x4 ku, c_A x1 c1 1024 m1, c_A x2 c2 256 m2, c_A x3 c3 9 m3, c_A x4 c4 9 (upd y9 ((nI j).toNatClampNeg) (m3 ((nI j).toNatClampNeg)))] H := hP
      have hD : va_D A [c_X x0 x1 x2 x3 x4 ku, c_A x1 c1 1024 m1, c_A x2 c2 256 m2, c_A x3 c3 9 m3, c_A x4 c4 9 (upd y9 ((nI j).toNatClampNeg) (m3 ((nI j).toNatClampNeg)))] := hD
      refine lv_iinc (v := ((nI j) + Int32.ofInt 1)) (lv' := [(1, .int ((nI j) + Int32.ofInt 1)), (0, .ref x0)]) hx hb d_X_instruction_20 hl (k := 0) rfl rfl (by decide) rfl (fun ls hl => ?_)
      refine lv_goto (tgt := 2) hx hb d_X_instruction_23 (by decide) ?_
      have e9 : nI j + Int32.ofInt 1 = nI (j + 1) := nI_1 j
      rw [e9] at hl
      have hjl : j < 9 := lt_ofN rfl c_1 hj (by decide)
      exact ih (j + 1) hjl (by omega) _ (by rw [e1, nI_clamp (by omega), cpy_s, Nat.zero_add]) H _ ls hP hD hS (lv_sub hl [0, 1] rfl)
set_option maxHeartbeats 4000000 in
set_option maxRecDepth 100000 in
theorem L_X_instruction_b {p : Program} {l : Launch} {e : Env} {R : Room} {s : State} {m : MethodId} {args : Array Value} {below : List Frame} {meth : Method} {c : Code} {Q : State → Prop} {dC : Nat → ClassId} {dI : Nat → Nat → Nat} {A : Nat → Prop} {H0 : Heap} {cells slots : Nat} {x0 : Nat} {x1 : Nat} {x2 : Nat} {x3 : Nat} {x4 : Nat} {c1 : ClassId} {c2 : ClassId} {c3 : ClassId} {c4 : ClassId} (hx : p.tables.exec = Jvm.exec) (hb : c.code = b_X_instruction) (hml : c.maxLocals = 5) (hown : s.vm.findClass R_X = some m.cls) (htB : ∀ w ∈ BIG, w.before args s = true) (hK : va_K (dC, dI) classes [(c1, .int), (c2, .int), (c3, .int), (c4, .int)] s) {ku m1 m2 m3 m4 : Nat → Int32} 
    (K : ∀ (H : Heap) (locs : List Loc) (ls : Array Slot), va_P (dC, dI) classes [c_X x0 x1 x2 x3 x4 ku, c_A x1 c1 1024 m1, c_A x2 c2 256 m2, c_A x3 c3 9 (va_cpy m4 m3 0 0 9), c_A x4 c4 9 m4] H → va_D A [c_X x0 x1 x2 x3 x4 ku, c_A x1 c1 1024 m1, c_A x2 c2 256 m2, c_A x3 c3 9 (va_cpy m4 m3 0 0 9), c_A x4 c4 9 m4] → va_S A H0 H locs → lv_has ls 5 [(0, .ref x0)] → W p l e R s m args below meth c H locs cells slots Q (F0 m 183 ls [])) :
    ∀ (n j : Nat), j ≤ 9 → 10 ≤ j + n → ∀ (y9 : Nat → Int32), y9 = va_cpy m4 m3 0 0 j → ∀ (H : Heap) (locs : List Loc) (ls : Array Slot), va_P (dC, dI) classes [c_X x0 x1 x2 x3 x4 ku, c_A x1 c1 1024 m1, c_A x2 c2 256 m2, c_A x3 c3 9 y9, c_A x4 c4 9 m4] H → va_D A [c_X x0 x1 x2 x3 x4 ku, c_A x1 c1 1024 m1, c_A x2 c2 256 m2, c_A x3 c3 9 y9, c_A x4 c4 9 m4] → va_S A H0 H locs → lv_has ls 5 [(4, .int (nI j)), (0, .ref x0)] → W p l e R s m args below meth c H locs cells slots Q (F0 m 156 ls []) := by
  intro n
  induction n with
  | zero =>
    intro j h1 h2
    exact absurd h2 (by omega)
  | succ n ih =>
    intro j hj hjn y9 e1 H locs ls hP hD hS hl
    refine lv_iload hx hb d_X_instruction_156 (lv_at hl 0 rfl) ?_
    refine lv_bipush (v := 9) hx hb d_X_instruction_158 (by decide) ?_
    refine lv_icmp_ge (tgt := 183) hx hb d_X_instruction_160 (by decide) (fun c_1 => ?_) (fun c_1 => ?_)
    · have hjN : j = 9 := Nat.le_antisymm hj (Nat.le_of_not_lt (fun q => absurd c_1 (nI_ge (b := 9) q (by omega))))
      subst hjN
      subst e1
      exact K H _ ls hP hD hS (lv_sub hl [1] rfl)
    · refine lv_aload_n hx hb d_X_instruction_163 rfl (lv_at hl 1 rfl) ?_
      refine va_get (D := (dC, dI)) (ci := 3) (v := .ref x3) (C := R_X) (T := F_X) (N := 13) hx hb htB i_X hown hK hP 0 rfl rfl 2 (by decide) (htB _ mw_463) (fun _ h9 => h9) rfl d_X_instruction_164 ?_
      refine lv_iload hx hb d_X_instruction_167 (lv_at hl 0 rfl) ?_
      refine lv_aload_n hx hb d_X_instruction_169 rfl (lv_at hl 1 rfl) ?_
      refine va_get (D := (dC, dI)) (ci := 3) (v := .ref x4) (C := R_X) (T := F_X) (N := 13) hx hb htB i_X hown hK hP 0 rfl rfl 3 (by decide) (htB _ mw_464) (fun _ h9 => h9) rfl d_X_instruction_170 ?_
      refine lv_iload hx hb d_X_instruction_173 (lv_at hl 0 rfl) ?_
      refine va_iald hx hb hK hP 4 3 rfl rfl (vp_in_nI (lt_ofN rfl c_1 hj (by decide)) (by decide)) d_X_instruction_175 ?_
      refine va_iast hx hb hK hP hD hS 3 2 rfl rfl (vp_in_nI (lt_ofN rfl c_1 hj (by decide)) (by decide)) d_X_instruction_176 (fun H locs hP hD hS => ?_)
      have hP : va_P (dC, dI) classes [c_X x0 x1 x2 x3 x4 ku, c_A x1 c1 1024 m1, c_A x2 c2 256 m2, c_A x3 c3 9 (upd y9 ((nI j).toNatClampNeg) (m4 ((nI j).toNatClampNeg))), c_A x4 c4 9 m4] H := hP
      have hD : va_D A [c_X x0 x1 x2 x3 x4 ku, c_A x1 c1 1024 m1, c_A x2 c2 256 m2, c_A x3 c3 9 (upd y9 ((nI j).toNatClampNeg) (m4 ((nI j).toNatClampNeg))), c_A x4 c4 9 m4] := hD
      refine lv_iinc (v := ((nI j) + Int32.ofInt 1)) (lv' := [(4, .int ((nI j) + Int32.ofInt 1)), (0, .ref x0)]) hx hb d_X_instruction_177 hl (k := 0) rfl rfl (by decide) rfl (fun ls hl => ?_)
      refine lv_goto (tgt := 156) hx hb d_X_instruction_180 (by decide) ?_
      have e9 : nI j + Int32.ofInt 1 = nI (j + 1) := nI_1 j
      rw [e9] at hl
      have hjl : j < 9 := lt_ofN rfl c_1 hj (by decide)
      exact ih (j + 1) hjl (by omega) _ (by rw [e1, nI_clamp (by omega), cpy_s, Nat.zero_add]) H _ ls hP hD hS (lv_sub hl [0, 1] rfl)
def f_X_instruction_k6  (ku m1 m2 m3 m4 : Nat → Int32) (z1 : Int32 × (Nat → Int32) × (Nat → Int32)) (z2 : (Nat → Int32) × (Nat → Int32) × (Nat → Int32) × (Nat → Int32)) : (Nat → Int32) × (Nat → Int32) × (Nat → Int32) × (Nat → Int32) × (Nat → Int32) :=
  if (z2.1 4) = (0 : Int32) then
    ((upd z2.1 3 ((z2.1 3) + (1 : Int32))), z2.2.1, z2.2.2.1, z2.2.2.2, (va_cpy m3 m4 0 0 9))
  else
    ((upd z2.1 5 (z2.1 4)), z2.2.1, z2.2.2.1, (va_cpy (va_cpy m3 m4 0 0 9) z2.2.2.2 0 0 9), (va_cpy m3 m4 0 0 9))
def f_X_instruction_k3  (ku m1 m2 m3 m4 : Nat → Int32) (z1 : Int32 × (Nat → Int32) × (Nat → Int32)) (z2 : (Nat → Int32) × (Nat → Int32) × (Nat → Int32) × (Nat → Int32)) : (Nat → Int32) × (Nat → Int32) × (Nat → Int32) × (Nat → Int32) × (Nat → Int32) :=
  if (z2.1 4) = (0 : Int32) then
    ((upd z2.1 3 ((z2.1 3) + (1 : Int32))), z2.2.1, z2.2.2.1, z2.2.2.2, (va_cpy m3 m4 0 0 9))
  else
    ((upd z2.1 5 (z2.1 4)), z2.2.1, z2.2.2.1, (va_cpy (va_cpy m3 m4 0 0 9) z2.2.2.2 0 0 9), (va_cpy m3 m4 0 0 9))
def f_X_instruction_k5  (ku m1 m2 m3 m4 : Nat → Int32) (z1 : Int32 × (Nat → Int32) × (Nat → Int32)) (z2 : (Nat → Int32) × (Nat → Int32) × (Nat → Int32) × (Nat → Int32)) : (Nat → Int32) × (Nat → Int32) × (Nat → Int32) × (Nat → Int32) × (Nat → Int32) :=
  if (z2.1 4) = (0 : Int32) then
    ((upd z2.1 3 ((z2.1 3) + (1 : Int32))), z2.2.1, z2.2.2.1, z2.2.2.2, (va_cpy m3 m4 0 0 9))
  else
    ((upd z2.1 5 (z2.1 4)), z2.2.1, z2.2.2.1, (va_cpy (va_cpy m3 m4 0 0 9) z2.2.2.2 0 0 9), (va_cpy m3 m4 0 0 9))
def f_X_instruction_k4  (ku m1 m2 m3 m4 : Nat → Int32) (z1 : Int32 × (Nat → Int32) × (Nat → Int32)) (z2 : (Nat → Int32) × (Nat → Int32) × (Nat → Int32) × (Nat → Int32)) : (Nat → Int32) × (Nat → Int32) × (Nat → Int32) × (Nat → Int32) × (Nat → Int32) :=
  if (z2.1 4) = (0 : Int32) then
    ((upd z2.1 3 ((z2.1 3) + (1 : Int32))), z2.2.1, z2.2.2.1, z2.2.2.2, (va_cpy m3 m4 0 0 9))
  else
    ((upd z2.1 5 (z2.1 4)), z2.2.1, z2.2.2.1, (va_cpy (va_cpy m3 m4 0 0 9) z2.2.2.2 0 0 9), (va_cpy m3 m4 0 0 9))
def f_X_instruction_k2  (ku m1 m2 m3 m4 : Nat → Int32) (z1 : Int32 × (Nat → Int32) × (Nat → Int32)) (z2 : (Nat → Int32) × (Nat → Int32) × (Nat → Int32) × (Nat → Int32)) : (Nat → Int32) × (Nat → Int32) × (Nat → Int32) × (Nat → Int32) × (Nat → Int32) :=
  if (z2.1 4) = (0 : Int32) then
    ((upd z2.1 3 ((z2.1 3) + (1 : Int32))), z2.2.1, z2.2.2.1, z2.2.2.2, (va_cpy m3 m4 0 0 9))
  else
    ((upd z2.1 5 (z2.1 4)), z2.2.1, z2.2.2.1, (va_cpy (va_cpy m3 m4 0 0 9) z2.2.2.2 0 0 9), (va_cpy m3 m4 0 0 9))
def f_X_instruction_k1  (ku m1 m2 m3 m4 : Nat → Int32) (z1 : Int32 × (Nat → Int32) × (Nat → Int32)) : (Nat → Int32) × (Nat → Int32) × (Nat → Int32) × (Nat → Int32) × (Nat → Int32) :=
  if (z1.1 - z1.1 / (4 : Int32) * (4 : Int32)) = (1 : Int32) then
    f_X_instruction_k6 ku m1 m2 m3 m4 z1 (f_X_sums (z1.1 / (32 : Int32)) ((z1.1 / (4 : Int32)) - (z1.1 / (4 : Int32)) / (8 : Int32) * (8 : Int32)) z1.2.1 m1 m2 z1.2.2)
  else
    if (z1.1 - z1.1 / (4 : Int32) * (4 : Int32)) = (2 : Int32) then
      if (z1.1 / (32 : Int32)) = (4 : Int32) then
        f_X_instruction_k3 ku m1 m2 m3 m4 z1 (f_X_moves (z1.1 / (32 : Int32)) ((z1.1 / (4 : Int32)) - (z1.1 / (4 : Int32)) / (8 : Int32) * (8 : Int32)) z1.2.1 m1 m2 z1.2.2)
      else
        if (z1.1 / (32 : Int32)) = (5 : Int32) then
          f_X_instruction_k5 ku m1 m2 m3 m4 z1 (f_X_moves (z1.1 / (32 : Int32)) ((z1.1 / (4 : Int32)) - (z1.1 / (4 : Int32)) / (8 : Int32) * (8 : Int32)) z1.2.1 m1 m2 z1.2.2)
        else
          f_X_instruction_k4 ku m1 m2 m3 m4 z1 (f_X_changes (z1.1 / (32 : Int32)) ((z1.1 / (4 : Int32)) - (z1.1 / (4 : Int32)) / (8 : Int32) * (8 : Int32)) z1.2.1 m1 m2 z1.2.2)
    else
      if (z1.1 - z1.1 / (4 : Int32) * (4 : Int32)) = (0 : Int32) then
        f_X_instruction_k2 ku m1 m2 m3 m4 z1 (f_X_tests (z1.1 / (32 : Int32)) ((z1.1 / (4 : Int32)) - (z1.1 / (4 : Int32)) / (8 : Int32) * (8 : Int32)) z1.1 z1.2.1 m1 m2 z1.2.2)
      else
        ((upd (upd z1.2.1 4 (4 : Int32)) 5 (4 : Int32)), m1, m2, (va_cpy (va_cpy m3 m4 0 0 9) z1.2.2 0 0 9), (va_cpy m3 m4 0 0 9))
def f_X_instruction  (ku m1 m2 m3 m4 : Nat → Int32) : (Nat → Int32) × (Nat → Int32) × (Nat → Int32) × (Nat → Int32) × (Nat → Int32) :=
  f_X_instruction_k1 ku m1 m2 m3 m4 (f_X_fetch (upd ku 4 (0 : Int32)) m1 m3)
abbrev Q_X_instruction (dC : Nat → ClassId) (dI : Nat → Nat → Nat) (x0 : Nat) (x1 : Nat) (x2 : Nat) (x3 : Nat) (x4 : Nat) (c1 : ClassId) (c2 : ClassId) (c3 : ClassId) (c4 : ClassId)  (ku m1 m2 m3 m4 : Nat → Int32) (A : Nat → Prop) : Array Value → State → Outcome → State → Prop := va_Qv (fun (_ : Unit) => True) (fun _ t => atW (dC, dI) classes A [c_X x0 x1 x2 x3 x4 ((f_X_instruction ku m1 m2 m3 m4).1), c_A x1 c1 1024 ((f_X_instruction ku m1 m2 m3 m4).2.1), c_A x2 c2 256 ((f_X_instruction ku m1 m2 m3 m4).2.2.1), c_A x3 c3 9 ((f_X_instruction ku m1 m2 m3 m4).2.2.2.1), c_A x4 c4 9 ((f_X_instruction ku m1 m2 m3 m4).2.2.2.2)] [(c1, .int), (c2, .int), (c3, .int), (c4, .int)] t) A
set_option maxHeartbeats 4000000 in
set_option maxRecDepth 100000 in
theorem c_X_instruction (l : Launch) (dC : Nat → ClassId) (dI : Nat → Nat → Nat) (z0 : Nat) (x0 : Nat) (x1 : Nat) (x2 : Nat) (x3 : Nat) (x4 : Nat) (c1 : ClassId) (c2 : ClassId) (c3 : ClassId) (c4 : ClassId) (sz : Nat)  (ku m1 m2 m3 m4 : Nat → Int32) (hxs : xs_ok ku) : Met l y_X_instruction w_X_instruction ({ frames := 5, cells := 0, slots := 0, locals := 112 }) (PcX (dC, dI) classes z0 [c_X x0 x1 x2 x3 x4 ku, c_A x1 c1 1024 m1, c_A x2 c2 256 m2, c_A x3 c3 9 m3, c_A x4 c4 9 m4] [(c1, .int), (c2, .int), (c3, .int), (c4, .int)] sz [.ref x0]) (Q_X_instruction dC dI x0 x1 x2 x3 x4 c1 c2 c3 c4 ku m1 m2 m3 m4 (va_A [c_X x0 x1 x2 x3 x4 ku, c_A x1 c1 1024 m1, c_A x2 c2 256 m2, c_A x3 c3 9 m3, c_A x4 c4 9 m4] sz)) 0 0 (va_A [c_X x0 x1 x2 x3 x4 ku, c_A x1 c1 1024 m1, c_A x2 c2 256 m2, c_A x3 c3 9 m3, c_A x4 c4 9 m4] sz) := by
  refine hdX (cc := b_X_instruction) (maxL := 5) (ret := none) (C := R_X) (Qc := (Q_X_instruction dC dI x0 x1 x2 x3 x4 c1 c2 c3 c4 ku m1 m2 m3 m4)) (by decide) rfl ?_
  intro p e s m below meth c A H hx hb hr hlocks hml hown hin htB hP hK hD hA hA0 hE hS
  have hl := lv_entry ([.ref x0]) (n := 5) (Nat.le_of_ble_eq_true rfl)
  rw [lg_entry_eq]
  generalize (lg_sl ([.ref x0]) ++ List.replicate (5 - (lg_sl ([.ref x0])).length) Slot.unset).toArray = ls at hl ⊢
  have hl : lv_has ls 5 [(0, .ref x0)] := hl
  refine lv_iconst (v := 0) hx hb d_X_instruction_0 (by decide) ?_
  refine lv_istore_n (lv' := [(1, .int (0 : Int32)), (0, .ref x0)]) hx hb d_X_instruction_1 rfl hl (by decide) rfl (fun ls hl => ?_)
  have hl := lv_sub hl [0, 1] rfl
  rw [show (0 : Int32) = nI 0 from rfl] at hl
  refine L_X_instruction_a (ku := ku) (m1 := m1) (m2 := m2) (m3 := m3) (m4 := m4) hx hb hml hown htB hK (fun H locs ls hP hD hS hl => ?_) 10 0 (by decide) (by decide) _ cpy_0.symm H _ ls hP hD hS hl
  refine lv_aload_n hx hb d_X_instruction_26 rfl (lv_at hl 0 rfl) ?_
  refine lv_iconst (v := 0) hx hb d_X_instruction_27 (by decide) ?_
  refine va_put (D := (dC, dI)) (ci := 3) (v := .int (0 : Int32)) (ty := .int) (C := R_X) (T := F_X) (N := 13) hx hb htB i_X t_X t_X_ok n_X hown hK hP hD hS 0 rfl rfl 8 (by decide) (htB _ mw_469) (fun _ h9 => h9) rfl (by decide +kernel) rfl rfl (Nat.le_of_ble_eq_true rfl) d_X_instruction_28 (fun H locs hP hD hS => ?_)
  have hP : va_P (dC, dI) classes [c_X x0 x1 x2 x3 x4 (upd ku 4 (0 : Int32)), c_A x1 c1 1024 m1, c_A x2 c2 256 m2, c_A x3 c3 9 m3, c_A x4 c4 9 (va_cpy m3 m4 0 0 9)] H := hP
  have hD : va_D A [c_X x0 x1 x2 x3 x4 (upd ku 4 (0 : Int32)), c_A x1 c1 1024 m1, c_A x2 c2 256 m2, c_A x3 c3 9 m3, c_A x4 c4 9 (va_cpy m3 m4 0 0 9)] := hD
  refine lv_aload_n hx hb d_X_instruction_31 rfl (lv_at hl 0 rfl) ?_
  have hPc := hP.sub (ws' := [c_X x0 x1 x2 x3 x4 (upd ku 4 (0 : Int32)), c_A x1 c1 1024 m1, c_A x3 c3 9 m3]) [0, 1, 3] rfl
  have hDc := hD.sub (ws' := [c_X x0 x1 x2 x3 x4 (upd ku 4 (0 : Int32)), c_A x1 c1 1024 m1, c_A x3 c3 9 m3]) [0, 1, 3] (by decide) rfl
  have hKc := hK.sub (tys' := [(c1, .int), (c3, .int)]) [0, 2] rfl
  have hFc := va_free (wc := [c_X x0 x1 x2 x3 x4 (upd ku 4 (0 : Int32)), c_A x1 c1 1024 m1, c_A x3 c3 9 m3]) hD hS hA [0, 1, 3] rfl
  refine va_calli (va_runV (As := []) (rest := []) ⟨hx, hb, hml, hown, htB⟩ (c_X_fetch l dC dI z0 x0 x1 x2 x3 x4 c1 c3 H.size (upd ku 4 (0 : Int32)) m1 m3) (cwV 0 htB (gd_V mw_548 mw_550 sw_X_fetch mw_4 mw_551) rfl rfl rfl (by decide +kernel) ⟨Nat.le_of_ble_eq_true rfl, Nat.le_of_ble_eq_true rfl⟩) (pcx_V (va_recv hKc hPc (ci := 3) (q0 := 0) rfl rfl) hPc hKc hDc hA0 hE hS) rfl rfl hl.1 rfl (lv_room (Nat.le_of_ble_eq_true rfl)) d_X_instruction_32 ⟨Nat.zero_le _, Nat.zero_le _⟩) hS (fun q _ h => hFc q h) hFc (fun r9 u t H1 locs ht hvm hw hB hz1 hk1 hS => ?_)
  subst hw
  obtain ⟨hP1, hK1, hD1⟩ := hB
  rw [ht] at hP1
  obtain ⟨hP, hD⟩ := va_join (wr := [c_A x2 c2 256 m2, c_A x4 c4 9 (va_cpy m3 m4 0 0 9)]) (w1 := [c_X x0 x1 x2 x3 x4 ((f_X_fetch (upd ku 4 (0 : Int32)) m1 m3).2.1), c_A x1 c1 1024 m1, c_A x3 c3 9 ((f_X_fetch (upd ku 4 (0 : Int32)) m1 m3).2.2)]) hP hD [0, 1, 3] [2, 4] rfl rfl (by decide) (by decide) hk1 hFc hP1 hD1
  generalize H1 = H at hP hS ⊢
  have hP : va_P (dC, dI) classes [c_X x0 x1 x2 x3 x4 ((f_X_fetch (upd ku 4 (0 : Int32)) m1 m3).2.1), c_A x1 c1 1024 m1, c_A x2 c2 256 m2, c_A x3 c3 9 ((f_X_fetch (upd ku 4 (0 : Int32)) m1 m3).2.2), c_A x4 c4 9 (va_cpy m3 m4 0 0 9)] H := hP.sub [2, 3, 0, 4, 1] rfl
  have hD : va_D A [c_X x0 x1 x2 x3 x4 ((f_X_fetch (upd ku 4 (0 : Int32)) m1 m3).2.1), c_A x1 c1 1024 m1, c_A x2 c2 256 m2, c_A x3 c3 9 ((f_X_fetch (upd ku 4 (0 : Int32)) m1 m3).2.2), c_A x4 c4 9 (va_cpy m3 m4 0 0 9)] := hD.sub [2, 3, 0, 4, 1] (by decide) rfl
  obtain ⟨z1, ez1⟩ : ∃ z, z = (f_X_fetch (upd ku 4 (0 : Int32)) m1 m3) := ⟨_, rfl⟩
  rw [← ez1] at hP hD ⊢
  refine lv_istore_n (lv' := [(1, .int z1.1), (0, .ref x0)]) hx hb d_X_instruction_35 rfl hl (by decide) rfl (fun ls hl => ?_)
  refine lv_iload_n hx hb d_X_instruction_36 rfl (lv_at hl 0 rfl) ?_
  refine lv_bipush (v := 32) hx hb d_X_instruction_37 (by decide) ?_
  refine lv_idiv hx hb d_X_instruction_39 (by decide) ?_
  refine lv_istore_n (lv' := [(2, .int (z1.1 / (32 : Int32))), (1, .int z1.1), (0, .ref x0)]) hx hb d_X_instruction_40 rfl hl (by decide) rfl (fun ls hl => ?_)
  refine lv_iload_n hx hb d_X_instruction_41 rfl (lv_at hl 1 rfl) ?_
  refine lv_iconst (v := 4) hx hb d_X_instruction_42 (by decide) ?_
  refine lv_idiv hx hb d_X_instruction_43 (by decide) ?_
  refine lv_bipush (v := 8) hx hb d_X_instruction_44 (by decide) ?_
  refine lv_irem hx hb d_X_instruction_46 (by decide) ?_
  refine lv_istore_n (lv' := [(3, .int ((z1.1 / (4 : Int32)) - (z1.1 / (4 : Int32)) / (8 : Int32) * (8 : Int32))), (2, .int (z1.1 / (32 : Int32))), (1, .int z1.1), (0, .ref x0)]) hx hb d_X_instruction_47 rfl hl (by decide) rfl (fun ls hl => ?_)
  refine lv_iload_n hx hb d_X_instruction_48 rfl (lv_at hl 2 rfl) ?_
  refine lv_iconst (v := 4) hx hb d_X_instruction_49 (by decide) ?_
  refine lv_irem hx hb d_X_instruction_50 (by decide) ?_
  refine lv_iconst (v := 1) hx hb d_X_instruction_51 (by decide) ?_
  refine lv_icmp_ne (tgt := 64) hx hb d_X_instruction_52 (by decide) (fun c_2 => ?_) (fun c_2 => ?_)
  · refine lv_iload_n hx hb d_X_instruction_64 rfl (lv_at hl 2 rfl) ?_
    refine lv_iconst (v := 4) hx hb d_X_instruction_65 (by decide) ?_
    refine lv_irem hx hb d_X_instruction_66 (by decide) ?_
    refine lv_iconst (v := 2) hx hb d_X_instruction_67 (by decide) ?_
    refine lv_icmp_ne (tgt := 90) hx hb d_X_instruction_68 (by decide) (fun c_3 => ?_) (fun c_3 => ?_)
    · refine lv_iload_n hx hb d_X_instruction_90 rfl (lv_at hl 2 rfl) ?_
      refine lv_iconst (v := 4) hx hb d_X_instruction_91 (by decide) ?_
      refine lv_irem hx hb d_X_instruction_92 (by decide) ?_
      refine lv_iconst (v := 2) hx hb d_X_instruction_93 (by decide) ?_
      refine lv_icmp_ne (tgt := 106) hx hb d_X_instruction_94 (by decide) (fun _ => ?_) (fun c9 => absurd c9 c_3)
      refine lv_iload_n hx hb d_X_instruction_106 rfl (lv_at hl 2 rfl) ?_
      refine lv_iconst (v := 4) hx hb d_X_instruction_107 (by decide) ?_
      refine lv_irem hx hb d_X_instruction_108 (by decide) ?_
      refine lv_if_ne (tgt := 122) hx hb d_X_instruction_109 (by decide) (fun c_4 => ?_) (fun c_4 => ?_)
      · refine lv_aload_n hx hb d_X_instruction_122 rfl (lv_at hl 3 rfl) ?_
        refine lv_iconst (v := 4) hx hb d_X_instruction_123 (by decide) ?_
        refine va_put (D := (dC, dI)) (ci := 3) (v := .int (4 : Int32)) (ty := .int) (C := R_X) (T := F_X) (N := 13) hx hb htB i_X t_X t_X_ok n_X hown hK hP hD hS 0 rfl rfl 8 (by decide) (htB _ mw_469) (fun _ h9 => h9) rfl (by decide +kernel) rfl rfl (Nat.le_of_ble_eq_true rfl) d_X_instruction_124 (fun H locs hP hD hS => ?_)
        have hP : va_P (dC, dI) classes [c_X x0 x1 x2 x3 x4 (upd z1.2.1 4 (4 : Int32)), c_A x1 c1 1024 m1, c_A x2 c2 256 m2, c_A x3 c3 9 z1.2.2, c_A x4 c4 9 (va_cpy m3 m4 0 0 9)] H := hP
        have hD : va_D A [c_X x0 x1 x2 x3 x4 (upd z1.2.1 4 (4 : Int32)), c_A x1 c1 1024 m1, c_A x2 c2 256 m2, c_A x3 c3 9 z1.2.2, c_A x4 c4 9 (va_cpy m3 m4 0 0 9)] := hD
        refine lv_aload_n hx hb d_X_instruction_127 rfl (lv_at hl 3 rfl) ?_
        refine va_get (D := (dC, dI)) (ci := 3) (v := .int (4 : Int32)) (C := R_X) (T := F_X) (N := 13) hx hb htB i_X hown hK hP 0 rfl rfl 8 (by decide) (htB _ mw_469) (fun _ h9 => h9) rfl d_X_instruction_128 ?_
        refine lv_if_ne (tgt := 145) hx hb d_X_instruction_131 (by decide) (fun _ => ?_) (fun c9 => absurd c9 (by decide))
        refine lv_aload_n hx hb d_X_instruction_145 rfl (lv_at hl 3 rfl) ?_
        refine lv_aload_n hx hb d_X_instruction_146 rfl (lv_at hl 3 rfl) ?_
        refine va_get (D := (dC, dI)) (ci := 3) (v := .int (4 : Int32)) (C := R_X) (T := F_X) (N := 13) hx hb htB i_X hown hK hP 0 rfl rfl 8 (by decide) (htB _ mw_469) (fun _ h9 => h9) rfl d_X_instruction_147 ?_
        refine va_put (D := (dC, dI)) (ci := 3) (v := .int (4 : Int32)) (ty := .int) (C := R_X) (T := F_X) (N := 13) hx hb htB i_X t_X t_X_ok n_X hown hK hP hD hS 0 rfl rfl 9 (by decide) (htB _ mw_470) (fun _ h9 => h9) rfl (by decide +kernel) rfl rfl (Nat.le_of_ble_eq_true rfl) d_X_instruction_150 (fun H locs hP hD hS => ?_)
        have hP : va_P (dC, dI) classes [c_X x0 x1 x2 x3 x4 (upd (upd z1.2.1 4 (4 : Int32)) 5 (4 : Int32)), c_A x1 c1 1024 m1, c_A x2 c2 256 m2, c_A x3 c3 9 z1.2.2, c_A x4 c4 9 (va_cpy m3 m4 0 0 9)] H := hP
        have hD : va_D A [c_X x0 x1 x2 x3 x4 (upd (upd z1.2.1 4 (4 : Int32)) 5 (4 : Int32)), c_A x1 c1 1024 m1, c_A x2 c2 256 m2, c_A x3 c3 9 z1.2.2, c_A x4 c4 9 (va_cpy m3 m4 0 0 9)] := hD
        refine lv_iconst (v := 0) hx hb d_X_instruction_153 (by decide) ?_
        refine lv_istore (lv' := [(4, .int (0 : Int32)), (3, .int ((z1.1 / (4 : Int32)) - (z1.1 / (4 : Int32)) / (8 : Int32) * (8 : Int32))), (2, .int (z1.1 / (32 : Int32))), (1, .int z1.1), (0, .ref x0)]) hx hb d_X_instruction_154 hl (by decide) rfl (fun ls hl => ?_)
        have hl := lv_sub hl [0, 4] rfl
        rw [show (0 : Int32) = nI 0 from rfl] at hl
        refine L_X_instruction_b (ku := (upd (upd z1.2.1 4 (4 : Int32)) 5 (4 : Int32))) (m1 := m1) (m2 := m2) (m3 := z1.2.2) (m4 := (va_cpy m3 m4 0 0 9)) hx hb hml hown htB hK (fun H locs ls hP hD hS hl => ?_) 10 0 (by decide) (by decide) _ cpy_0.symm H _ ls hP hD hS hl
        have hf : f_X_instruction ku m1 m2 m3 m4 = ((upd (upd z1.2.1 4 (4 : Int32)) 5 (4 : Int32)), m1, m2, (va_cpy (va_cpy m3 m4 0 0 9) z1.2.2 0 0 9), (va_cpy m3 m4 0 0 9)) := by rw [f_X_instruction, ← ez1, f_X_instruction_k1, if_neg c_2, if_neg c_3, if_neg c_4]
        exact W.vret hx hb hr (fun t ht hW => ⟨⟨(), rfl, trivial, by rw [hf]; exact ⟨by rw [ht]; exact hP, va_K.moved hW.alike hK, hD⟩⟩, hS.F ht⟩) hS.2.2 d_X_instruction_183
      · refine lv_aload_n hx hb d_X_instruction_112 rfl (lv_at hl 3 rfl) ?_
        refine lv_iload_n hx hb d_X_instruction_113 rfl (lv_at hl 1 rfl) ?_
        refine lv_iload_n hx hb d_X_instruction_114 rfl (lv_at hl 0 rfl) ?_
        refine lv_iload_n hx hb d_X_instruction_115 rfl (lv_at hl 2 rfl) ?_
        have hPc := hP.sub (ws' := [c_X x0 x1 x2 x3 x4 z1.2.1, c_A x1 c1 1024 m1, c_A x2 c2 256 m2, c_A x3 c3 9 z1.2.2]) [0, 1, 2, 3] rfl
        have hDc := hD.sub (ws' := [c_X x0 x1 x2 x3 x4 z1.2.1, c_A x1 c1 1024 m1, c_A x2 c2 256 m2, c_A x3 c3 9 z1.2.2]) [0, 1, 2, 3] (by decide) rfl
        have hKc := hK.sub (tys' := [(c1, .int), (c2, .int), (c3, .int)]) [0, 1, 2] rfl
        have hFc := va_free (wc := [c_X x0 x1 x2 x3 x4 z1.2.1, c_A x1 c1 1024 m1, c_A x2 c2 256 m2, c_A x3 c3 9 z1.2.2]) hD hS hA [0, 1, 2, 3] rfl
        refine va_callv (va_runV (As := [.int (z1.1 / (32 : Int32)), .int ((z1.1 / (4 : Int32)) - (z1.1 / (4 : Int32)) / (8 : Int32) * (8 : Int32)), .int z1.1]) (rest := []) ⟨hx, hb, hml, hown, htB⟩ (c_X_tests l dC dI z0 x0 x1 x2 x3 x4 c1 c2 c3 H.size (z1.1 / (32 : Int32)) ((z1.1 / (4 : Int32)) - (z1.1 / (4 : Int32)) / (8 : Int32) * (8 : Int32)) z1.1 z1.2.1 m1 m2 z1.2.2 (by rw [ez1]; exact xs_fetch hxs)) (cwV 3 htB (gd_V mw_615 mw_617 sw_X_tests mw_4 mw_618) rfl rfl rfl (by decide +kernel) ⟨Nat.le_of_ble_eq_true rfl, Nat.le_of_ble_eq_true rfl⟩) (pcx_V (va_recv hKc hPc (ci := 3) (q0 := 0) rfl rfl) hPc hKc hDc hA0 hE hS) rfl rfl hl.1 rfl (lv_room (Nat.le_of_ble_eq_true rfl)) d_X_instruction_116 ⟨Nat.zero_le _, Nat.zero_le _⟩) hS (fun q _ h => hFc q h) hFc (fun u t H1 locs ht hvm hw hB hz1 hk1 hS => ?_)
        obtain ⟨hP1, hK1, hD1⟩ := hB
        rw [ht] at hP1
        obtain ⟨hP, hD⟩ := va_join (wr := [c_A x4 c4 9 (va_cpy m3 m4 0 0 9)]) (w1 := [c_X x0 x1 x2 x3 x4 ((f_X_tests (z1.1 / (32 : Int32)) ((z1.1 / (4 : Int32)) - (z1.1 / (4 : Int32)) / (8 : Int32) * (8 : Int32)) z1.1 z1.2.1 m1 m2 z1.2.2).1), c_A x1 c1 1024 ((f_X_tests (z1.1 / (32 : Int32)) ((z1.1 / (4 : Int32)) - (z1.1 / (4 : Int32)) / (8 : Int32) * (8 : Int32)) z1.1 z1.2.1 m1 m2 z1.2.2).2.1), c_A x2 c2 256 ((f_X_tests (z1.1 / (32 : Int32)) ((z1.1 / (4 : Int32)) - (z1.1 / (4 : Int32)) / (8 : Int32) * (8 : Int32)) z1.1 z1.2.1 m1 m2 z1.2.2).2.2.1), c_A x3 c3 9 ((f_X_tests (z1.1 / (32 : Int32)) ((z1.1 / (4 : Int32)) - (z1.1 / (4 : Int32)) / (8 : Int32) * (8 : Int32)) z1.1 z1.2.1 m1 m2 z1.2.2).2.2.2)]) hP hD [0, 1, 2, 3] [4] rfl rfl (by decide) (by decide) hk1 hFc hP1 hD1
        generalize H1 = H at hP hS ⊢
        have hP : va_P (dC, dI) classes [c_X x0 x1 x2 x3 x4 ((f_X_tests (z1.1 / (32 : Int32)) ((z1.1 / (4 : Int32)) - (z1.1 / (4 : Int32)) / (8 : Int32) * (8 : Int32)) z1.1 z1.2.1 m1 m2 z1.2.2).1), c_A x1 c1 1024 ((f_X_tests (z1.1 / (32 : Int32)) ((z1.1 / (4 : Int32)) - (z1.1 / (4 : Int32)) / (8 : Int32) * (8 : Int32)) z1.1 z1.2.1 m1 m2 z1.2.2).2.1), c_A x2 c2 256 ((f_X_tests (z1.1 / (32 : Int32)) ((z1.1 / (4 : Int32)) - (z1.1 / (4 : Int32)) / (8 : Int32) * (8 : Int32)) z1.1 z1.2.1 m1 m2 z1.2.2).2.2.1), c_A x3 c3 9 ((f_X_tests (z1.1 / (32 : Int32)) ((z1.1 / (4 : Int32)) - (z1.1 / (4 : Int32)) / (8 : Int32) * (8 : Int32)) z1.1 z1.2.1 m1 m2 z1.2.2).2.2.2), c_A x4 c4 9 (va_cpy m3 m4 0 0 9)] H := hP.sub [1, 2, 3, 4, 0] rfl
        have hD : va_D A [c_X x0 x1 x2 x3 x4 ((f_X_tests (z1.1 / (32 : Int32)) ((z1.1 / (4 : Int32)) - (z1.1 / (4 : Int32)) / (8 : Int32) * (8 : Int32)) z1.1 z1.2.1 m1 m2 z1.2.2).1), c_A x1 c1 1024 ((f_X_tests (z1.1 / (32 : Int32)) ((z1.1 / (4 : Int32)) - (z1.1 / (4 : Int32)) / (8 : Int32) * (8 : Int32)) z1.1 z1.2.1 m1 m2 z1.2.2).2.1), c_A x2 c2 256 ((f_X_tests (z1.1 / (32 : Int32)) ((z1.1 / (4 : Int32)) - (z1.1 / (4 : Int32)) / (8 : Int32) * (8 : Int32)) z1.1 z1.2.1 m1 m2 z1.2.2).2.2.1), c_A x3 c3 9 ((f_X_tests (z1.1 / (32 : Int32)) ((z1.1 / (4 : Int32)) - (z1.1 / (4 : Int32)) / (8 : Int32) * (8 : Int32)) z1.1 z1.2.1 m1 m2 z1.2.2).2.2.2), c_A x4 c4 9 (va_cpy m3 m4 0 0 9)] := hD.sub [1, 2, 3, 4, 0] (by decide) rfl
        obtain ⟨z2, ez2⟩ : ∃ z, z = (f_X_tests (z1.1 / (32 : Int32)) ((z1.1 / (4 : Int32)) - (z1.1 / (4 : Int32)) / (8 : Int32) * (8 : Int32)) z1.1 z1.2.1 m1 m2 z1.2.2) := ⟨_, rfl⟩
        rw [← ez2] at hP hD
        refine lv_goto (tgt := 127) hx hb d_X_instruction_119 (by decide) ?_
        refine lv_aload_n hx hb d_X_instruction_127 rfl (lv_at hl 3 rfl) ?_
        refine va_get (D := (dC, dI)) (ci := 3) (v := .int (z2.1 4)) (C := R_X) (T := F_X) (N := 13) hx hb htB i_X hown hK hP 0 rfl rfl 8 (by decide) (htB _ mw_469) (fun _ h9 => h9) rfl d_X_instruction_128 ?_
        refine lv_if_ne (tgt := 145) hx hb d_X_instruction_131 (by decide) (fun c_6 => ?_) (fun c_6 => ?_)
        · refine lv_aload_n hx hb d_X_instruction_145 rfl (lv_at hl 3 rfl) ?_
          refine lv_aload_n hx hb d_X_instruction_146 rfl (lv_at hl 3 rfl) ?_
          refine va_get (D := (dC, dI)) (ci := 3) (v := .int (z2.1 4)) (C := R_X) (T := F_X) (N := 13) hx hb htB i_X hown hK hP 0 rfl rfl 8 (by decide) (htB _ mw_469) (fun _ h9 => h9) rfl d_X_instruction_147 ?_
          refine va_put (D := (dC, dI)) (ci := 3) (v := .int (z2.1 4)) (ty := .int) (C := R_X) (T := F_X) (N := 13) hx hb htB i_X t_X t_X_ok n_X hown hK hP hD hS 0 rfl rfl 9 (by decide) (htB _ mw_470) (fun _ h9 => h9) rfl (by decide +kernel) rfl rfl (Nat.le_of_ble_eq_true rfl) d_X_instruction_150 (fun H locs hP hD hS => ?_)
          have hP : va_P (dC, dI) classes [c_X x0 x1 x2 x3 x4 (upd z2.1 5 (z2.1 4)), c_A x1 c1 1024 z2.2.1, c_A x2 c2 256 z2.2.2.1, c_A x3 c3 9 z2.2.2.2, c_A x4 c4 9 (va_cpy m3 m4 0 0 9)] H := hP
          have hD : va_D A [c_X x0 x1 x2 x3 x4 (upd z2.1 5 (z2.1 4)), c_A x1 c1 1024 z2.2.1, c_A x2 c2 256 z2.2.2.1, c_A x3 c3 9 z2.2.2.2, c_A x4 c4 9 (va_cpy m3 m4 0 0 9)] := hD
          refine lv_iconst (v := 0) hx hb d_X_instruction_153 (by decide) ?_
          refine lv_istore (lv' := [(4, .int (0 : Int32)), (3, .int ((z1.1 / (4 : Int32)) - (z1.1 / (4 : Int32)) / (8 : Int32) * (8 : Int32))), (2, .int (z1.1 / (32 : Int32))), (1, .int z1.1), (0, .ref x0)]) hx hb d_X_instruction_154 hl (by decide) rfl (fun ls hl => ?_)
          have hl := lv_sub hl [0, 4] rfl
          rw [show (0 : Int32) = nI 0 from rfl] at hl
          refine L_X_instruction_b (ku := (upd z2.1 5 (z2.1 4))) (m1 := z2.2.1) (m2 := z2.2.2.1) (m3 := z2.2.2.2) (m4 := (va_cpy m3 m4 0 0 9)) hx hb hml hown htB hK (fun H locs ls hP hD hS hl => ?_) 10 0 (by decide) (by decide) _ cpy_0.symm H _ ls hP hD hS hl
          have hf : f_X_instruction ku m1 m2 m3 m4 = ((upd z2.1 5 (z2.1 4)), z2.2.1, z2.2.2.1, (va_cpy (va_cpy m3 m4 0 0 9) z2.2.2.2 0 0 9), (va_cpy m3 m4 0 0 9)) := by rw [f_X_instruction, ← ez1, f_X_instruction_k1, if_neg c_2, if_neg c_3, if_pos c_4, ← ez2, f_X_instruction_k2, if_neg c_6]
          exact W.vret hx hb hr (fun t ht hW => ⟨⟨(), rfl, trivial, by rw [hf]; exact ⟨by rw [ht]; exact hP, va_K.moved hW.alike hK, hD⟩⟩, hS.F ht⟩) hS.2.2 d_X_instruction_183
        · refine lv_aload_n hx hb d_X_instruction_134 rfl (lv_at hl 3 rfl) ?_
          refine lv_dup hx hb d_X_instruction_135 rfl ?_
          refine va_get (D := (dC, dI)) (ci := 3) (v := .int (z2.1 3)) (C := R_X) (T := F_X) (N := 13) hx hb htB i_X hown hK hP 0 rfl rfl 7 (by decide) (htB _ mw_468) (fun _ h9 => h9) rfl d_X_instruction_136 ?_
          refine lv_iconst (v := 1) hx hb d_X_instruction_139 (by decide) ?_
          refine lv_iadd hx hb d_X_instruction_140 ?_
          refine va_put (D := (dC, dI)) (ci := 3) (v := .int ((z2.1 3) + (1 : Int32))) (ty := .int) (C := R_X) (T := F_X) (N := 13) hx hb htB i_X t_X t_X_ok n_X hown hK hP hD hS 0 rfl rfl 7 (by decide) (htB _ mw_468) (fun _ h9 => h9) rfl (by decide +kernel) rfl rfl (Nat.le_of_ble_eq_true rfl) d_X_instruction_141 (fun H locs hP hD hS => ?_)
          have hP : va_P (dC, dI) classes [c_X x0 x1 x2 x3 x4 (upd z2.1 3 ((z2.1 3) + (1 : Int32))), c_A x1 c1 1024 z2.2.1, c_A x2 c2 256 z2.2.2.1, c_A x3 c3 9 z2.2.2.2, c_A x4 c4 9 (va_cpy m3 m4 0 0 9)] H := hP
          have hD : va_D A [c_X x0 x1 x2 x3 x4 (upd z2.1 3 ((z2.1 3) + (1 : Int32))), c_A x1 c1 1024 z2.2.1, c_A x2 c2 256 z2.2.2.1, c_A x3 c3 9 z2.2.2.2, c_A x4 c4 9 (va_cpy m3 m4 0 0 9)] := hD
          have hf : f_X_instruction ku m1 m2 m3 m4 = ((upd z2.1 3 ((z2.1 3) + (1 : Int32))), z2.2.1, z2.2.2.1, z2.2.2.2, (va_cpy m3 m4 0 0 9)) := by rw [f_X_instruction, ← ez1, f_X_instruction_k1, if_neg c_2, if_neg c_3, if_pos c_4, ← ez2, f_X_instruction_k2, if_pos c_6]
          exact W.vret hx hb hr (fun t ht hW => ⟨⟨(), rfl, trivial, by rw [hf]; exact ⟨by rw [ht]; exact hP, va_K.moved hW.alike hK, hD⟩⟩, hS.F ht⟩) hS.2.2 d_X_instruction_144
    · refine lv_iload_n hx hb d_X_instruction_71 rfl (lv_at hl 1 rfl) ?_
      refine lv_iconst (v := 4) hx hb d_X_instruction_72 (by decide) ?_
      refine lv_icmp_eq (tgt := 81) hx hb d_X_instruction_73 (by decide) (fun c_4 => ?_) (fun c_4 => ?_)
      · refine lv_aload_n hx hb d_X_instruction_81 rfl (lv_at hl 3 rfl) ?_
        refine lv_iload_n hx hb d_X_instruction_82 rfl (lv_at hl 1 rfl) ?_
        refine lv_iload_n hx hb d_X_instruction_83 rfl (lv_at hl 0 rfl) ?_
        have hPc := hP.sub (ws' := [c_X x0 x1 x2 x3 x4 z1.2.1, c_A x1 c1 1024 m1, c_A x2 c2 256 m2, c_A x3 c3 9 z1.2.2]) [0, 1, 2, 3] rfl
        have hDc := hD.sub (ws' := [c_X x0 x1 x2 x3 x4 z1.2.1, c_A x1 c1 1024 m1, c_A x2 c2 256 m2, c_A x3 c3 9 z1.2.2]) [0, 1, 2, 3] (by decide) rfl
        have hKc := hK.sub (tys' := [(c1, .int), (c2, .int), (c3, .int)]) [0, 1, 2] rfl
        have hFc := va_free (wc := [c_X x0 x1 x2 x3 x4 z1.2.1, c_A x1 c1 1024 m1, c_A x2 c2 256 m2, c_A x3 c3 9 z1.2.2]) hD hS hA [0, 1, 2, 3] rfl
        refine va_callv (va_runV (As := [.int (z1.1 / (32 : Int32)), .int ((z1.1 / (4 : Int32)) - (z1.1 / (4 : Int32)) / (8 : Int32) * (8 : Int32))]) (rest := []) ⟨hx, hb, hml, hown, htB⟩ (c_X_moves l dC dI z0 x0 x1 x2 x3 x4 c1 c2 c3 H.size (z1.1 / (32 : Int32)) ((z1.1 / (4 : Int32)) - (z1.1 / (4 : Int32)) / (8 : Int32) * (8 : Int32)) z1.2.1 m1 m2 z1.2.2 (by rw [ez1]; exact xs_fetch hxs)) (cwV 2 htB (gd_V mw_603 mw_605 sw_X_moves mw_4 mw_606) rfl rfl rfl (by decide +kernel) ⟨Nat.le_of_ble_eq_true rfl, Nat.le_of_ble_eq_true rfl⟩) (pcx_V (va_recv hKc hPc (ci := 3) (q0 := 0) rfl rfl) hPc hKc hDc hA0 hE hS) rfl rfl hl.1 rfl (lv_room (Nat.le_of_ble_eq_true rfl)) d_X_instruction_84 ⟨Nat.zero_le _, Nat.zero_le _⟩) hS (fun q _ h => hFc q h) hFc (fun u t H1 locs ht hvm hw hB hz1 hk1 hS => ?_)
        obtain ⟨hP1, hK1, hD1⟩ := hB
        rw [ht] at hP1
        obtain ⟨hP, hD⟩ := va_join (wr := [c_A x4 c4 9 (va_cpy m3 m4 0 0 9)]) (w1 := [c_X x0 x1 x2 x3 x4 ((f_X_moves (z1.1 / (32 : Int32)) ((z1.1 / (4 : Int32)) - (z1.1 / (4 : Int32)) / (8 : Int32) * (8 : Int32)) z1.2.1 m1 m2 z1.2.2).1), c_A x1 c1 1024 ((f_X_moves (z1.1 / (32 : Int32)) ((z1.1 / (4 : Int32)) - (z1.1 / (4 : Int32)) / (8 : Int32) * (8 : Int32)) z1.2.1 m1 m2 z1.2.2).2.1), c_A x2 c2 256 ((f_X_moves (z1.1 / (32 : Int32)) ((z1.1 / (4 : Int32)) - (z1.1 / (4 : Int32)) / (8 : Int32) * (8 : Int32)) z1.2.1 m1 m2 z1.2.2).2.2.1), c_A x3 c3 9 ((f_X_moves (z1.1 / (32 : Int32)) ((z1.1 / (4 : Int32)) - (z1.1 / (4 : Int32)) / (8 : Int32) * (8 : Int32)) z1.2.1 m1 m2 z1.2.2).2.2.2)]) hP hD [0, 1, 2, 3] [4] rfl rfl (by decide) (by decide) hk1 hFc hP1 hD1
        generalize H1 = H at hP hS ⊢
        have hP : va_P (dC, dI) classes [c_X x0 x1 x2 x3 x4 ((f_X_moves (z1.1 / (32 : Int32)) ((z1.1 / (4 : Int32)) - (z1.1 / (4 : Int32)) / (8 : Int32) * (8 : Int32)) z1.2.1 m1 m2 z1.2.2).1), c_A x1 c1 1024 ((f_X_moves (z1.1 / (32 : Int32)) ((z1.1 / (4 : Int32)) - (z1.1 / (4 : Int32)) / (8 : Int32) * (8 : Int32)) z1.2.1 m1 m2 z1.2.2).2.1), c_A x2 c2 256 ((f_X_moves (z1.1 / (32 : Int32)) ((z1.1 / (4 : Int32)) - (z1.1 / (4 : Int32)) / (8 : Int32) * (8 : Int32)) z1.2.1 m1 m2 z1.2.2).2.2.1), c_A x3 c3 9 ((f_X_moves (z1.1 / (32 : Int32)) ((z1.1 / (4 : Int32)) - (z1.1 / (4 : Int32)) / (8 : Int32) * (8 : Int32)) z1.2.1 m1 m2 z1.2.2).2.2.2), c_A x4 c4 9 (va_cpy m3 m4 0 0 9)] H := hP.sub [1, 2, 3, 4, 0] rfl
        have hD : va_D A [c_X x0 x1 x2 x3 x4 ((f_X_moves (z1.1 / (32 : Int32)) ((z1.1 / (4 : Int32)) - (z1.1 / (4 : Int32)) / (8 : Int32) * (8 : Int32)) z1.2.1 m1 m2 z1.2.2).1), c_A x1 c1 1024 ((f_X_moves (z1.1 / (32 : Int32)) ((z1.1 / (4 : Int32)) - (z1.1 / (4 : Int32)) / (8 : Int32) * (8 : Int32)) z1.2.1 m1 m2 z1.2.2).2.1), c_A x2 c2 256 ((f_X_moves (z1.1 / (32 : Int32)) ((z1.1 / (4 : Int32)) - (z1.1 / (4 : Int32)) / (8 : Int32) * (8 : Int32)) z1.2.1 m1 m2 z1.2.2).2.2.1), c_A x3 c3 9 ((f_X_moves (z1.1 / (32 : Int32)) ((z1.1 / (4 : Int32)) - (z1.1 / (4 : Int32)) / (8 : Int32) * (8 : Int32)) z1.2.1 m1 m2 z1.2.2).2.2.2), c_A x4 c4 9 (va_cpy m3 m4 0 0 9)] := hD.sub [1, 2, 3, 4, 0] (by decide) rfl
        obtain ⟨z2, ez2⟩ : ∃ z, z = (f_X_moves (z1.1 / (32 : Int32)) ((z1.1 / (4 : Int32)) - (z1.1 / (4 : Int32)) / (8 : Int32) * (8 : Int32)) z1.2.1 m1 m2 z1.2.2) := ⟨_, rfl⟩
        rw [← ez2] at hP hD
        refine lv_goto (tgt := 127) hx hb d_X_instruction_87 (by decide) ?_
        refine lv_aload_n hx hb d_X_instruction_127 rfl (lv_at hl 3 rfl) ?_
        refine va_get (D := (dC, dI)) (ci := 3) (v := .int (z2.1 4)) (C := R_X) (T := F_X) (N := 13) hx hb htB i_X hown hK hP 0 rfl rfl 8 (by decide) (htB _ mw_469) (fun _ h9 => h9) rfl d_X_instruction_128 ?_
        refine lv_if_ne (tgt := 145) hx hb d_X_instruction_131 (by decide) (fun c_6 => ?_) (fun c_6 => ?_)
        · refine lv_aload_n hx hb d_X_instruction_145 rfl (lv_at hl 3 rfl) ?_
          refine lv_aload_n hx hb d_X_instruction_146 rfl (lv_at hl 3 rfl) ?_
          refine va_get (D := (dC, dI)) (ci := 3) (v := .int (z2.1 4)) (C := R_X) (T := F_X) (N := 13) hx hb htB i_X hown hK hP 0 rfl rfl 8 (by decide) (htB _ mw_469) (fun _ h9 => h9) rfl d_X_instruction_147 ?_
          refine va_put (D := (dC, dI)) (ci := 3) (v := .int (z2.1 4)) (ty := .int) (C := R_X) (T := F_X) (N := 13) hx hb htB i_X t_X t_X_ok n_X hown hK hP hD hS 0 rfl rfl 9 (by decide) (htB _ mw_470) (fun _ h9 => h9) rfl (by decide +kernel) rfl rfl (Nat.le_of_ble_eq_true rfl) d_X_instruction_150 (fun H locs hP hD hS => ?_)
          have hP : va_P (dC, dI) classes [c_X x0 x1 x2 x3 x4 (upd z2.1 5 (z2.1 4)), c_A x1 c1 1024 z2.2.1, c_A x2 c2 256 z2.2.2.1, c_A x3 c3 9 z2.2.2.2, c_A x4 c4 9 (va_cpy m3 m4 0 0 9)] H := hP
          have hD : va_D A [c_X x0 x1 x2 x3 x4 (upd z2.1 5 (z2.1 4)), c_A x1 c1 1024 z2.2.1, c_A x2 c2 256 z2.2.2.1, c_A x3 c3 9 z2.2.2.2, c_A x4 c4 9 (va_cpy m3 m4 0 0 9)] := hD
          refine lv_iconst (v := 0) hx hb d_X_instruction_153 (by decide) ?_
          refine lv_istore (lv' := [(4, .int (0 : Int32)), (3, .int ((z1.1 / (4 : Int32)) - (z1.1 / (4 : Int32)) / (8 : Int32) * (8 : Int32))), (2, .int (z1.1 / (32 : Int32))), (1, .int z1.1), (0, .ref x0)]) hx hb d_X_instruction_154 hl (by decide) rfl (fun ls hl => ?_)
          have hl := lv_sub hl [0, 4] rfl
          rw [show (0 : Int32) = nI 0 from rfl] at hl
          refine L_X_instruction_b (ku := (upd z2.1 5 (z2.1 4))) (m1 := z2.2.1) (m2 := z2.2.2.1) (m3 := z2.2.2.2) (m4 := (va_cpy m3 m4 0 0 9)) hx hb hml hown htB hK (fun H locs ls hP hD hS hl => ?_) 10 0 (by decide) (by decide) _ cpy_0.symm H _ ls hP hD hS hl
          have hf : f_X_instruction ku m1 m2 m3 m4 = ((upd z2.1 5 (z2.1 4)), z2.2.1, z2.2.2.1, (va_cpy (va_cpy m3 m4 0 0 9) z2.2.2.2 0 0 9), (va_cpy m3 m4 0 0 9)) := by rw [f_X_instruction, ← ez1, f_X_instruction_k1, if_neg c_2, if_pos c_3, if_pos c_4, ← ez2, f_X_instruction_k3, if_neg c_6]
          exact W.vret hx hb hr (fun t ht hW => ⟨⟨(), rfl, trivial, by rw [hf]; exact ⟨by rw [ht]; exact hP, va_K.moved hW.alike hK, hD⟩⟩, hS.F ht⟩) hS.2.2 d_X_instruction_183
        · refine lv_aload_n hx hb d_X_instruction_134 rfl (lv_at hl 3 rfl) ?_
          refine lv_dup hx hb d_X_instruction_135 rfl ?_
          refine va_get (D := (dC, dI)) (ci := 3) (v := .int (z2.1 3)) (C := R_X) (T := F_X) (N := 13) hx hb htB i_X hown hK hP 0 rfl rfl 7 (by decide) (htB _ mw_468) (fun _ h9 => h9) rfl d_X_instruction_136 ?_
          refine lv_iconst (v := 1) hx hb d_X_instruction_139 (by decide) ?_
          refine lv_iadd hx hb d_X_instruction_140 ?_
          refine va_put (D := (dC, dI)) (ci := 3) (v := .int ((z2.1 3) + (1 : Int32))) (ty := .int) (C := R_X) (T := F_X) (N := 13) hx hb htB i_X t_X t_X_ok n_X hown hK hP hD hS 0 rfl rfl 7 (by decide) (htB _ mw_468) (fun _ h9 => h9) rfl (by decide +kernel) rfl rfl (Nat.le_of_ble_eq_true rfl) d_X_instruction_141 (fun H locs hP hD hS => ?_)
          have hP : va_P (dC, dI) classes [c_X x0 x1 x2 x3 x4 (upd z2.1 3 ((z2.1 3) + (1 : Int32))), c_A x1 c1 1024 z2.2.1, c_A x2 c2 256 z2.2.2.1, c_A x3 c3 9 z2.2.2.2, c_A x4 c4 9 (va_cpy m3 m4 0 0 9)] H := hP
          have hD : va_D A [c_X x0 x1 x2 x3 x4 (upd z2.1 3 ((z2.1 3) + (1 : Int32))), c_A x1 c1 1024 z2.2.1, c_A x2 c2 256 z2.2.2.1, c_A x3 c3 9 z2.2.2.2, c_A x4 c4 9 (va_cpy m3 m4 0 0 9)] := hD
          have hf : f_X_instruction ku m1 m2 m3 m4 = ((upd z2.1 3 ((z2.1 3) + (1 : Int32))), z2.2.1, z2.2.2.1, z2.2.2.2, (va_cpy m3 m4 0 0 9)) := by rw [f_X_instruction, ← ez1, f_X_instruction_k1, if_neg c_2, if_pos c_3, if_pos c_4, ← ez2, f_X_instruction_k3, if_pos c_6]
          exact W.vret hx hb hr (fun t ht hW => ⟨⟨(), rfl, trivial, by rw [hf]; exact ⟨by rw [ht]; exact hP, va_K.moved hW.alike hK, hD⟩⟩, hS.F ht⟩) hS.2.2 d_X_instruction_144
      · refine lv_iload_n hx hb d_X_instruction_76 rfl (lv_at hl 1 rfl) ?_
        refine lv_iconst (v := 5) hx hb d_X_instruction_77 (by decide) ?_
        refine lv_icmp_ne (tgt := 90) hx hb d_X_instruction_78 (by decide) (fun c_5 => ?_) (fun c_5 => ?_)
        · refine lv_iload_n hx hb d_X_instruction_90 rfl (lv_at hl 2 rfl) ?_
          refine lv_iconst (v := 4) hx hb d_X_instruction_91 (by decide) ?_
          refine lv_irem hx hb d_X_instruction_92 (by decide) ?_
          refine lv_iconst (v := 2) hx hb d_X_instruction_93 (by decide) ?_
          refine lv_icmp_ne (tgt := 106) hx hb d_X_instruction_94 (by decide) (fun c9 => absurd c_3 c9) (fun _ => ?_)
          refine lv_aload_n hx hb d_X_instruction_97 rfl (lv_at hl 3 rfl) ?_
          refine lv_iload_n hx hb d_X_instruction_98 rfl (lv_at hl 1 rfl) ?_
          refine lv_iload_n hx hb d_X_instruction_99 rfl (lv_at hl 0 rfl) ?_
          have hPc := hP.sub (ws' := [c_X x0 x1 x2 x3 x4 z1.2.1, c_A x1 c1 1024 m1, c_A x2 c2 256 m2, c_A x3 c3 9 z1.2.2]) [0, 1, 2, 3] rfl
          have hDc := hD.sub (ws' := [c_X x0 x1 x2 x3 x4 z1.2.1, c_A x1 c1 1024 m1, c_A x2 c2 256 m2, c_A x3 c3 9 z1.2.2]) [0, 1, 2, 3] (by decide) rfl
          have hKc := hK.sub (tys' := [(c1, .int), (c2, .int), (c3, .int)]) [0, 1, 2] rfl
          have hFc := va_free (wc := [c_X x0 x1 x2 x3 x4 z1.2.1, c_A x1 c1 1024 m1, c_A x2 c2 256 m2, c_A x3 c3 9 z1.2.2]) hD hS hA [0, 1, 2, 3] rfl
          refine va_callv (va_runV (As := [.int (z1.1 / (32 : Int32)), .int ((z1.1 / (4 : Int32)) - (z1.1 / (4 : Int32)) / (8 : Int32) * (8 : Int32))]) (rest := []) ⟨hx, hb, hml, hown, htB⟩ (c_X_changes l dC dI z0 x0 x1 x2 x3 x4 c1 c2 c3 H.size (z1.1 / (32 : Int32)) ((z1.1 / (4 : Int32)) - (z1.1 / (4 : Int32)) / (8 : Int32) * (8 : Int32)) z1.2.1 m1 m2 z1.2.2 (by rw [ez1]; exact xs_fetch hxs)) (cwV 2 htB (gd_V mw_607 mw_609 sw_X_changes mw_4 mw_610) rfl rfl rfl (by decide +kernel) ⟨Nat.le_of_ble_eq_true rfl, Nat.le_of_ble_eq_true rfl⟩) (pcx_V (va_recv hKc hPc (ci := 3) (q0 := 0) rfl rfl) hPc hKc hDc hA0 hE hS) rfl rfl hl.1 rfl (lv_room (Nat.le_of_ble_eq_true rfl)) d_X_instruction_100 ⟨Nat.zero_le _, Nat.zero_le _⟩) hS (fun q _ h => hFc q h) hFc (fun u t H1 locs ht hvm hw hB hz1 hk1 hS => ?_)
          obtain ⟨hP1, hK1, hD1⟩ := hB
          rw [ht] at hP1
          obtain ⟨hP, hD⟩ := va_join (wr := [c_A x4 c4 9 (va_cpy m3 m4 0 0 9)]) (w1 := [c_X x0 x1 x2 x3 x4 ((f_X_changes (z1.1 / (32 : Int32)) ((z1.1 / (4 : Int32)) - (z1.1 / (4 : Int32)) / (8 : Int32) * (8 : Int32)) z1.2.1 m1 m2 z1.2.2).1), c_A x1 c1 1024 ((f_X_changes (z1.1 / (32 : Int32)) ((z1.1 / (4 : Int32)) - (z1.1 / (4 : Int32)) / (8 : Int32) * (8 : Int32)) z1.2.1 m1 m2 z1.2.2).2.1), c_A x2 c2 256 ((f_X_changes (z1.1 / (32 : Int32)) ((z1.1 / (4 : Int32)) - (z1.1 / (4 : Int32)) / (8 : Int32) * (8 : Int32)) z1.2.1 m1 m2 z1.2.2).2.2.1), c_A x3 c3 9 ((f_X_changes (z1.1 / (32 : Int32)) ((z1.1 / (4 : Int32)) - (z1.1 / (4 : Int32)) / (8 : Int32) * (8 : Int32)) z1.2.1 m1 m2 z1.2.2).2.2.2)]) hP hD [0, 1, 2, 3] [4] rfl rfl (by decide) (by decide) hk1 hFc hP1 hD1
          generalize H1 = H at hP hS ⊢
          have hP : va_P (dC, dI) classes [c_X x0 x1 x2 x3 x4 ((f_X_changes (z1.1 / (32 : Int32)) ((z1.1 / (4 : Int32)) - (z1.1 / (4 : Int32)) / (8 : Int32) * (8 : Int32)) z1.2.1 m1 m2 z1.2.2).1), c_A x1 c1 1024 ((f_X_changes (z1.1 / (32 : Int32)) ((z1.1 / (4 : Int32)) - (z1.1 / (4 : Int32)) / (8 : Int32) * (8 : Int32)) z1.2.1 m1 m2 z1.2.2).2.1), c_A x2 c2 256 ((f_X_changes (z1.1 / (32 : Int32)) ((z1.1 / (4 : Int32)) - (z1.1 / (4 : Int32)) / (8 : Int32) * (8 : Int32)) z1.2.1 m1 m2 z1.2.2).2.2.1), c_A x3 c3 9 ((f_X_changes (z1.1 / (32 : Int32)) ((z1.1 / (4 : Int32)) - (z1.1 / (4 : Int32)) / (8 : Int32) * (8 : Int32)) z1.2.1 m1 m2 z1.2.2).2.2.2), c_A x4 c4 9 (va_cpy m3 m4 0 0 9)] H := hP.sub [1, 2, 3, 4, 0] rfl
          have hD : va_D A [c_X x0 x1 x2 x3 x4 ((f_X_changes (z1.1 / (32 : Int32)) ((z1.1 / (4 : Int32)) - (z1.1 / (4 : Int32)) / (8 : Int32) * (8 : Int32)) z1.2.1 m1 m2 z1.2.2).1), c_A x1 c1 1024 ((f_X_changes (z1.1 / (32 : Int32)) ((z1.1 / (4 : Int32)) - (z1.1 / (4 : Int32)) / (8 : Int32) * (8 : Int32)) z1.2.1 m1 m2 z1.2.2).2.1), c_A x2 c2 256 ((f_X_changes (z1.1 / (32 : Int32)) ((z1.1 / (4 : Int32)) - (z1.1 / (4 : Int32)) / (8 : Int32) * (8 : Int32)) z1.2.1 m1 m2 z1.2.2).2.2.1), c_A x3 c3 9 ((f_X_changes (z1.1 / (32 : Int32)) ((z1.1 / (4 : Int32)) - (z1.1 / (4 : Int32)) / (8 : Int32) * (8 : Int32)) z1.2.1 m1 m2 z1.2.2).2.2.2), c_A x4 c4 9 (va_cpy m3 m4 0 0 9)] := hD.sub [1, 2, 3, 4, 0] (by decide) rfl
          obtain ⟨z2, ez2⟩ : ∃ z, z = (f_X_changes (z1.1 / (32 : Int32)) ((z1.1 / (4 : Int32)) - (z1.1 / (4 : Int32)) / (8 : Int32) * (8 : Int32)) z1.2.1 m1 m2 z1.2.2) := ⟨_, rfl⟩
          rw [← ez2] at hP hD
          refine lv_goto (tgt := 127) hx hb d_X_instruction_103 (by decide) ?_
          refine lv_aload_n hx hb d_X_instruction_127 rfl (lv_at hl 3 rfl) ?_
          refine va_get (D := (dC, dI)) (ci := 3) (v := .int (z2.1 4)) (C := R_X) (T := F_X) (N := 13) hx hb htB i_X hown hK hP 0 rfl rfl 8 (by decide) (htB _ mw_469) (fun _ h9 => h9) rfl d_X_instruction_128 ?_
          refine lv_if_ne (tgt := 145) hx hb d_X_instruction_131 (by decide) (fun c_7 => ?_) (fun c_7 => ?_)
          · refine lv_aload_n hx hb d_X_instruction_145 rfl (lv_at hl 3 rfl) ?_
            refine lv_aload_n hx hb d_X_instruction_146 rfl (lv_at hl 3 rfl) ?_
            refine va_get (D := (dC, dI)) (ci := 3) (v := .int (z2.1 4)) (C := R_X) (T := F_X) (N := 13) hx hb htB i_X hown hK hP 0 rfl rfl 8 (by decide) (htB _ mw_469) (fun _ h9 => h9) rfl d_X_instruction_147 ?_
            refine va_put (D := (dC, dI)) (ci := 3) (v := .int (z2.1 4)) (ty := .int) (C := R_X) (T := F_X) (N := 13) hx hb htB i_X t_X t_X_ok n_X hown hK hP hD hS 0 rfl rfl 9 (by decide) (htB _ mw_470) (fun _ h9 => h9) rfl (by decide +kernel) rfl rfl (Nat.le_of_ble_eq_true rfl) d_X_instruction_150 (fun H locs hP hD hS => ?_)
            have hP : va_P (dC, dI) classes [c_X x0 x1 x2 x3 x4 (upd z2.1 5 (z2.1 4)), c_A x1 c1 1024 z2.2.1, c_A x2 c2 256 z2.2.2.1, c_A x3 c3 9 z2.2.2.2, c_A x4 c4 9 (va_cpy m3 m4 0 0 9)] H := hP
            have hD : va_D A [c_X x0 x1 x2 x3 x4 (upd z2.1 5 (z2.1 4)), c_A x1 c1 1024 z2.2.1, c_A x2 c2 256 z2.2.2.1, c_A x3 c3 9 z2.2.2.2, c_A x4 c4 9 (va_cpy m3 m4 0 0 9)] := hD
            refine lv_iconst (v := 0) hx hb d_X_instruction_153 (by decide) ?_
            refine lv_istore (lv' := [(4, .int (0 : Int32)), (3, .int ((z1.1 / (4 : Int32)) - (z1.1 / (4 : Int32)) / (8 : Int32) * (8 : Int32))), (2, .int (z1.1 / (32 : Int32))), (1, .int z1.1), (0, .ref x0)]) hx hb d_X_instruction_154 hl (by decide) rfl (fun ls hl => ?_)
            have hl := lv_sub hl [0, 4] rfl
            rw [show (0 : Int32) = nI 0 from rfl] at hl
            refine L_X_instruction_b (ku := (upd z2.1 5 (z2.1 4))) (m1 := z2.2.1) (m2 := z2.2.2.1) (m3 := z2.2.2.2) (m4 := (va_cpy m3 m4 0 0 9)) hx hb hml hown htB hK (fun H locs ls hP hD hS hl => ?_) 10 0 (by decide) (by decide) _ cpy_0.symm H _ ls hP hD hS hl
            have hf : f_X_instruction ku m1 m2 m3 m4 = ((upd z2.1 5 (z2.1 4)), z2.2.1, z2.2.2.1, (va_cpy (va_cpy m3 m4 0 0 9) z2.2.2.2 0 0 9), (va_cpy m3 m4 0 0 9)) := by rw [f_X_instruction, ← ez1, f_X_instruction_k1, if_neg c_2, if_pos c_3, if_neg c_4, if_neg c_5, ← ez2, f_X_instruction_k4, if_neg c_7]
            exact W.vret hx hb hr (fun t ht hW => ⟨⟨(), rfl, trivial, by rw [hf]; exact ⟨by rw [ht]; exact hP, va_K.moved hW.alike hK, hD⟩⟩, hS.F ht⟩) hS.2.2 d_X_instruction_183
          · refine lv_aload_n hx hb d_X_instruction_134 rfl (lv_at hl 3 rfl) ?_
            refine lv_dup hx hb d_X_instruction_135 rfl ?_
            refine va_get (D := (dC, dI)) (ci := 3) (v := .int (z2.1 3)) (C := R_X) (T := F_X) (N := 13) hx hb htB i_X hown hK hP 0 rfl rfl 7 (by decide) (htB _ mw_468) (fun _ h9 => h9) rfl d_X_instruction_136 ?_
            refine lv_iconst (v := 1) hx hb d_X_instruction_139 (by decide) ?_
            refine lv_iadd hx hb d_X_instruction_140 ?_
            refine va_put (D := (dC, dI)) (ci := 3) (v := .int ((z2.1 3) + (1 : Int32))) (ty := .int) (C := R_X) (T := F_X) (N := 13) hx hb htB i_X t_X t_X_ok n_X hown hK hP hD hS 0 rfl rfl 7 (by decide) (htB _ mw_468) (fun _ h9 => h9) rfl (by decide +kernel) rfl rfl (Nat.le_of_ble_eq_true rfl) d_X_instruction_141 (fun H locs hP hD hS => ?_)
            have hP : va_P (dC, dI) classes [c_X x0 x1 x2 x3 x4 (upd z2.1 3 ((z2.1 3) + (1 : Int32))), c_A x1 c1 1024 z2.2.1, c_A x2 c2 256 z2.2.2.1, c_A x3 c3 9 z2.2.2.2, c_A x4 c4 9 (va_cpy m3 m4 0 0 9)] H := hP
            have hD : va_D A [c_X x0 x1 x2 x3 x4 (upd z2.1 3 ((z2.1 3) + (1 : Int32))), c_A x1 c1 1024 z2.2.1, c_A x2 c2 256 z2.2.2.1, c_A x3 c3 9 z2.2.2.2, c_A x4 c4 9 (va_cpy m3 m4 0 0 9)] := hD
            have hf : f_X_instruction ku m1 m2 m3 m4 = ((upd z2.1 3 ((z2.1 3) + (1 : Int32))), z2.2.1, z2.2.2.1, z2.2.2.2, (va_cpy m3 m4 0 0 9)) := by rw [f_X_instruction, ← ez1, f_X_instruction_k1, if_neg c_2, if_pos c_3, if_neg c_4, if_neg c_5, ← ez2, f_X_instruction_k4, if_pos c_7]
            exact W.vret hx hb hr (fun t ht hW => ⟨⟨(), rfl, trivial, by rw [hf]; exact ⟨by rw [ht]; exact hP, va_K.moved hW.alike hK, hD⟩⟩, hS.F ht⟩) hS.2.2 d_X_instruction_144
        · refine lv_aload_n hx hb d_X_instruction_81 rfl (lv_at hl 3 rfl) ?_
          refine lv_iload_n hx hb d_X_instruction_82 rfl (lv_at hl 1 rfl) ?_
          refine lv_iload_n hx hb d_X_instruction_83 rfl (lv_at hl 0 rfl) ?_
          have hPc := hP.sub (ws' := [c_X x0 x1 x2 x3 x4 z1.2.1, c_A x1 c1 1024 m1, c_A x2 c2 256 m2, c_A x3 c3 9 z1.2.2]) [0, 1, 2, 3] rfl
          have hDc := hD.sub (ws' := [c_X x0 x1 x2 x3 x4 z1.2.1, c_A x1 c1 1024 m1, c_A x2 c2 256 m2, c_A x3 c3 9 z1.2.2]) [0, 1, 2, 3] (by decide) rfl
          have hKc := hK.sub (tys' := [(c1, .int), (c2, .int), (c3, .int)]) [0, 1, 2] rfl
          have hFc := va_free (wc := [c_X x0 x1 x2 x3 x4 z1.2.1, c_A x1 c1 1024 m1, c_A x2 c2 256 m2, c_A x3 c3 9 z1.2.2]) hD hS hA [0, 1, 2, 3] rfl
          refine va_callv (va_runV (As := [.int (z1.1 / (32 : Int32)), .int ((z1.1 / (4 : Int32)) - (z1.1 / (4 : Int32)) / (8 : Int32) * (8 : Int32))]) (rest := []) ⟨hx, hb, hml, hown, htB⟩ (c_X_moves l dC dI z0 x0 x1 x2 x3 x4 c1 c2 c3 H.size (z1.1 / (32 : Int32)) ((z1.1 / (4 : Int32)) - (z1.1 / (4 : Int32)) / (8 : Int32) * (8 : Int32)) z1.2.1 m1 m2 z1.2.2 (by rw [ez1]; exact xs_fetch hxs)) (cwV 2 htB (gd_V mw_603 mw_605 sw_X_moves mw_4 mw_606) rfl rfl rfl (by decide +kernel) ⟨Nat.le_of_ble_eq_true rfl, Nat.le_of_ble_eq_true rfl⟩) (pcx_V (va_recv hKc hPc (ci := 3) (q0 := 0) rfl rfl) hPc hKc hDc hA0 hE hS) rfl rfl hl.1 rfl (lv_room (Nat.le_of_ble_eq_true rfl)) d_X_instruction_84 ⟨Nat.zero_le _, Nat.zero_le _⟩) hS (fun q _ h => hFc q h) hFc (fun u t H1 locs ht hvm hw hB hz1 hk1 hS => ?_)
          obtain ⟨hP1, hK1, hD1⟩ := hB
          rw [ht] at hP1
          obtain ⟨hP, hD⟩ := va_join (wr := [c_A x4 c4 9 (va_cpy m3 m4 0 0 9)]) (w1 := [c_X x0 x1 x2 x3 x4 ((f_X_moves (z1.1 / (32 : Int32)) ((z1.1 / (4 : Int32)) - (z1.1 / (4 : Int32)) / (8 : Int32) * (8 : Int32)) z1.2.1 m1 m2 z1.2.2).1), c_A x1 c1 1024 ((f_X_moves (z1.1 / (32 : Int32)) ((z1.1 / (4 : Int32)) - (z1.1 / (4 : Int32)) / (8 : Int32) * (8 : Int32)) z1.2.1 m1 m2 z1.2.2).2.1), c_A x2 c2 256 ((f_X_moves (z1.1 / (32 : Int32)) ((z1.1 / (4 : Int32)) - (z1.1 / (4 : Int32)) / (8 : Int32) * (8 : Int32)) z1.2.1 m1 m2 z1.2.2).2.2.1), c_A x3 c3 9 ((f_X_moves (z1.1 / (32 : Int32)) ((z1.1 / (4 : Int32)) - (z1.1 / (4 : Int32)) / (8 : Int32) * (8 : Int32)) z1.2.1 m1 m2 z1.2.2).2.2.2)]) hP hD [0, 1, 2, 3] [4] rfl rfl (by decide) (by decide) hk1 hFc hP1 hD1
          generalize H1 = H at hP hS ⊢
          have hP : va_P (dC, dI) classes [c_X x0 x1 x2 x3 x4 ((f_X_moves (z1.1 / (32 : Int32)) ((z1.1 / (4 : Int32)) - (z1.1 / (4 : Int32)) / (8 : Int32) * (8 : Int32)) z1.2.1 m1 m2 z1.2.2).1), c_A x1 c1 1024 ((f_X_moves (z1.1 / (32 : Int32)) ((z1.1 / (4 : Int32)) - (z1.1 / (4 : Int32)) / (8 : Int32) * (8 : Int32)) z1.2.1 m1 m2 z1.2.2).2.1), c_A x2 c2 256 ((f_X_moves (z1.1 / (32 : Int32)) ((z1.1 / (4 : Int32)) - (z1.1 / (4 : Int32)) / (8 : Int32) * (8 : Int32)) z1.2.1 m1 m2 z1.2.2).2.2.1), c_A x3 c3 9 ((f_X_moves (z1.1 / (32 : Int32)) ((z1.1 / (4 : Int32)) - (z1.1 / (4 : Int32)) / (8 : Int32) * (8 : Int32)) z1.2.1 m1 m2 z1.2.2).2.2.2), c_A x4 c4 9 (va_cpy m3 m4 0 0 9)] H := hP.sub [1, 2, 3, 4, 0] rfl
          have hD : va_D A [c_X x0 x1 x2 x3 x4 ((f_X_moves (z1.1 / (32 : Int32)) ((z1.1 / (4 : Int32)) - (z1.1 / (4 : Int32)) / (8 : Int32) * (8 : Int32)) z1.2.1 m1 m2 z1.2.2).1), c_A x1 c1 1024 ((f_X_moves (z1.1 / (32 : Int32)) ((z1.1 / (4 : Int32)) - (z1.1 / (4 : Int32)) / (8 : Int32) * (8 : Int32)) z1.2.1 m1 m2 z1.2.2).2.1), c_A x2 c2 256 ((f_X_moves (z1.1 / (32 : Int32)) ((z1.1 / (4 : Int32)) - (z1.1 / (4 : Int32)) / (8 : Int32) * (8 : Int32)) z1.2.1 m1 m2 z1.2.2).2.2.1), c_A x3 c3 9 ((f_X_moves (z1.1 / (32 : Int32)) ((z1.1 / (4 : Int32)) - (z1.1 / (4 : Int32)) / (8 : Int32) * (8 : Int32)) z1.2.1 m1 m2 z1.2.2).2.2.2), c_A x4 c4 9 (va_cpy m3 m4 0 0 9)] := hD.sub [1, 2, 3, 4, 0] (by decide) rfl
          obtain ⟨z2, ez2⟩ : ∃ z, z = (f_X_moves (z1.1 / (32 : Int32)) ((z1.1 / (4 : Int32)) - (z1.1 / (4 : Int32)) / (8 : Int32) * (8 : Int32)) z1.2.1 m1 m2 z1.2.2) := ⟨_, rfl⟩
          rw [← ez2] at hP hD
          refine lv_goto (tgt := 127) hx hb d_X_instruction_87 (by decide) ?_
          refine lv_aload_n hx hb d_X_instruction_127 rfl (lv_at hl 3 rfl) ?_
          refine va_get (D := (dC, dI)) (ci := 3) (v := .int (z2.1 4)) (C := R_X) (T := F_X) (N := 13) hx hb htB i_X hown hK hP 0 rfl rfl 8 (by decide) (htB _ mw_469) (fun _ h9 => h9) rfl d_X_instruction_128 ?_
          refine lv_if_ne (tgt := 145) hx hb d_X_instruction_131 (by decide) (fun c_7 => ?_) (fun c_7 => ?_)
          · refine lv_aload_n hx hb d_X_instruction_145 rfl (lv_at hl 3 rfl) ?_
            refine lv_aload_n hx hb d_X_instruction_146 rfl (lv_at hl 3 rfl) ?_
            refine va_get (D := (dC, dI)) (ci := 3) (v := .int (z2.1 4)) (C := R_X) (T := F_X) (N := 13) hx hb htB i_X hown hK hP 0 rfl rfl 8 (by decide) (htB _ mw_469) (fun _ h9 => h9) rfl d_X_instruction_147 ?_
            refine va_put (D := (dC, dI)) (ci := 3) (v := .int (z2.1 4)) (ty := .int) (C := R_X) (T := F_X) (N := 13) hx hb htB i_X t_X t_X_ok n_X hown hK hP hD hS 0 rfl rfl 9 (by decide) (htB _ mw_470) (fun _ h9 => h9) rfl (by decide +kernel) rfl rfl (Nat.le_of_ble_eq_true rfl) d_X_instruction_150 (fun H locs hP hD hS => ?_)
            have hP : va_P (dC, dI) classes [c_X x0 x1 x2 x3 x4 (upd z2.1 5 (z2.1 4)), c_A x1 c1 1024 z2.2.1, c_A x2 c2 256 z2.2.2.1, c_A x3 c3 9 z2.2.2.2, c_A x4 c4 9 (va_cpy m3 m4 0 0 9)] H := hP
            have hD : va_D A [c_X x0 x1 x2 x3 x4 (upd z2.1 5 (z2.1 4)), c_A x1 c1 1024 z2.2.1, c_A x2 c2 256 z2.2.2.1, c_A x3 c3 9 z2.2.2.2, c_A x4 c4 9 (va_cpy m3 m4 0 0 9)] := hD
            refine lv_iconst (v := 0) hx hb d_X_instruction_153 (by decide) ?_
            refine lv_istore (lv' := [(4, .int (0 : Int32)), (3, .int ((z1.1 / (4 : Int32)) - (z1.1 / (4 : Int32)) / (8 : Int32) * (8 : Int32))), (2, .int (z1.1 / (32 : Int32))), (1, .int z1.1), (0, .ref x0)]) hx hb d_X_instruction_154 hl (by decide) rfl (fun ls hl => ?_)
            have hl := lv_sub hl [0, 4] rfl
            rw [show (0 : Int32) = nI 0 from rfl] at hl
            refine L_X_instruction_b (ku := (upd z2.1 5 (z2.1 4))) (m1 := z2.2.1) (m2 := z2.2.2.1) (m3 := z2.2.2.2) (m4 := (va_cpy m3 m4 0 0 9)) hx hb hml hown htB hK (fun H locs ls hP hD hS hl => ?_) 10 0 (by decide) (by decide) _ cpy_0.symm H _ ls hP hD hS hl
            have hf : f_X_instruction ku m1 m2 m3 m4 = ((upd z2.1 5 (z2.1 4)), z2.2.1, z2.2.2.1, (va_cpy (va_cpy m3 m4 0 0 9) z2.2.2.2 0 0 9), (va_cpy m3 m4 0 0 9)) := by rw [f_X_instruction, ← ez1, f_X_instruction_k1, if_neg c_2, if_pos c_3, if_neg c_4, if_pos c_5, ← ez2, f_X_instruction_k5, if_neg c_7]
            exact W.vret hx hb hr (fun t ht hW => ⟨⟨(), rfl, trivial, by rw [hf]; exact ⟨by rw [ht]; exact hP, va_K.moved hW.alike hK, hD⟩⟩, hS.F ht⟩) hS.2.2 d_X_instruction_183
          · refine lv_aload_n hx hb d_X_instruction_134 rfl (lv_at hl 3 rfl) ?_
            refine lv_dup hx hb d_X_instruction_135 rfl ?_
            refine va_get (D := (dC, dI)) (ci := 3) (v := .int (z2.1 3)) (C := R_X) (T := F_X) (N := 13) hx hb htB i_X hown hK hP 0 rfl rfl 7 (by decide) (htB _ mw_468) (fun _ h9 => h9) rfl d_X_instruction_136 ?_
            refine lv_iconst (v := 1) hx hb d_X_instruction_139 (by decide) ?_
            refine lv_iadd hx hb d_X_instruction_140 ?_
            refine va_put (D := (dC, dI)) (ci := 3) (v := .int ((z2.1 3) + (1 : Int32))) (ty := .int) (C := R_X) (T := F_X) (N := 13) hx hb htB i_X t_X t_X_ok n_X hown hK hP hD hS 0 rfl rfl 7 (by decide) (htB _ mw_468) (fun _ h9 => h9) rfl (by decide +kernel) rfl rfl (Nat.le_of_ble_eq_true rfl) d_X_instruction_141 (fun H locs hP hD hS => ?_)
            have hP : va_P (dC, dI) classes [c_X x0 x1 x2 x3 x4 (upd z2.1 3 ((z2.1 3) + (1 : Int32))), c_A x1 c1 1024 z2.2.1, c_A x2 c2 256 z2.2.2.1, c_A x3 c3 9 z2.2.2.2, c_A x4 c4 9 (va_cpy m3 m4 0 0 9)] H := hP
            have hD : va_D A [c_X x0 x1 x2 x3 x4 (upd z2.1 3 ((z2.1 3) + (1 : Int32))), c_A x1 c1 1024 z2.2.1, c_A x2 c2 256 z2.2.2.1, c_A x3 c3 9 z2.2.2.2, c_A x4 c4 9 (va_cpy m3 m4 0 0 9)] := hD
            have hf : f_X_instruction ku m1 m2 m3 m4 = ((upd z2.1 3 ((z2.1 3) + (1 : Int32))), z2.2.1, z2.2.2.1, z2.2.2.2, (va_cpy m3 m4 0 0 9)) := by rw [f_X_instruction, ← ez1, f_X_instruction_k1, if_neg c_2, if_pos c_3, if_neg c_4, if_pos c_5, ← ez2, f_X_instruction_k5, if_pos c_7]
            exact W.vret hx hb hr (fun t ht hW => ⟨⟨(), rfl, trivial, by rw [hf]; exact ⟨by rw [ht]; exact hP, va_K.moved hW.alike hK, hD⟩⟩, hS.F ht⟩) hS.2.2 d_X_instruction_144
  · refine lv_aload_n hx hb d_X_instruction_55 rfl (lv_at hl 3 rfl) ?_
    refine lv_iload_n hx hb d_X_instruction_56 rfl (lv_at hl 1 rfl) ?_
    refine lv_iload_n hx hb d_X_instruction_57 rfl (lv_at hl 0 rfl) ?_
    have hPc := hP.sub (ws' := [c_X x0 x1 x2 x3 x4 z1.2.1, c_A x1 c1 1024 m1, c_A x2 c2 256 m2, c_A x3 c3 9 z1.2.2]) [0, 1, 2, 3] rfl
    have hDc := hD.sub (ws' := [c_X x0 x1 x2 x3 x4 z1.2.1, c_A x1 c1 1024 m1, c_A x2 c2 256 m2, c_A x3 c3 9 z1.2.2]) [0, 1, 2, 3] (by decide) rfl
    have hKc := hK.sub (tys' := [(c1, .int), (c2, .int), (c3, .int)]) [0, 1, 2] rfl
    have hFc := va_free (wc := [c_X x0 x1 x2 x3 x4 z1.2.1, c_A x1 c1 1024 m1, c_A x2 c2 256 m2, c_A x3 c3 9 z1.2.2]) hD hS hA [0, 1, 2, 3] rfl
    refine va_callv (va_runV (As := [.int (z1.1 / (32 : Int32)), .int ((z1.1 / (4 : Int32)) - (z1.1 / (4 : Int32)) / (8 : Int32) * (8 : Int32))]) (rest := []) ⟨hx, hb, hml, hown, htB⟩ (c_X_sums l dC dI z0 x0 x1 x2 x3 x4 c1 c2 c3 H.size (z1.1 / (32 : Int32)) ((z1.1 / (4 : Int32)) - (z1.1 / (4 : Int32)) / (8 : Int32) * (8 : Int32)) z1.2.1 m1 m2 z1.2.2 (by rw [ez1]; exact xs_fetch hxs)) (cwV 2 htB (gd_V mw_556 mw_558 sw_X_sums mw_4 mw_559) rfl rfl rfl (by decide +kernel) ⟨Nat.le_of_ble_eq_true rfl, Nat.le_of_ble_eq_true rfl⟩) (pcx_V (va_recv hKc hPc (ci := 3) (q0 := 0) rfl rfl) hPc hKc hDc hA0 hE hS) rfl rfl hl.1 rfl (lv_room (Nat.le_of_ble_eq_true rfl)) d_X_instruction_58 ⟨Nat.zero_le _, Nat.zero_le _⟩) hS (fun q _ h => hFc q h) hFc (fun u t H1 locs ht hvm hw hB hz1 hk1 hS => ?_)
    obtain ⟨hP1, hK1, hD1⟩ := hB
    rw [ht] at hP1
    obtain ⟨hP, hD⟩ := va_join (wr := [c_A x4 c4 9 (va_cpy m3 m4 0 0 9)]) (w1 := [c_X x0 x1 x2 x3 x4 ((f_X_sums (z1.1 / (32 : Int32)) ((z1.1 / (4 : Int32)) - (z1.1 / (4 : Int32)) / (8 : Int32) * (8 : Int32)) z1.2.1 m1 m2 z1.2.2).1), c_A x1 c1 1024 ((f_X_sums (z1.1 / (32 : Int32)) ((z1.1 / (4 : Int32)) - (z1.1 / (4 : Int32)) / (8 : Int32) * (8 : Int32)) z1.2.1 m1 m2 z1.2.2).2.1), c_A x2 c2 256 ((f_X_sums (z1.1 / (32 : Int32)) ((z1.1 / (4 : Int32)) - (z1.1 / (4 : Int32)) / (8 : Int32) * (8 : Int32)) z1.2.1 m1 m2 z1.2.2).2.2.1), c_A x3 c3 9 ((f_X_sums (z1.1 / (32 : Int32)) ((z1.1 / (4 : Int32)) - (z1.1 / (4 : Int32)) / (8 : Int32) * (8 : Int32)) z1.2.1 m1 m2 z1.2.2).2.2.2)]) hP hD [0, 1, 2, 3] [4] rfl rfl (by decide) (by decide) hk1 hFc hP1 hD1
    generalize H1 = H at hP hS ⊢
    have hP : va_P (dC, dI) classes [c_X x0 x1 x2 x3 x4 ((f_X_sums (z1.1 / (32 : Int32)) ((z1.1 / (4 : Int32)) - (z1.1 / (4 : Int32)) / (8 : Int32) * (8 : Int32)) z1.2.1 m1 m2 z1.2.2).1), c_A x1 c1 1024 ((f_X_sums (z1.1 / (32 : Int32)) ((z1.1 / (4 : Int32)) - (z1.1 / (4 : Int32)) / (8 : Int32) * (8 : Int32)) z1.2.1 m1 m2 z1.2.2).2.1), c_A x2 c2 256 ((f_X_sums (z1.1 / (32 : Int32)) ((z1.1 / (4 : Int32)) - (z1.1 / (4 : Int32)) / (8 : Int32) * (8 : Int32)) z1.2.1 m1 m2 z1.2.2).2.2.1), c_A x3 c3 9 ((f_X_sums (z1.1 / (32 : Int32)) ((z1.1 / (4 : Int32)) - (z1.1 / (4 : Int32)) / (8 : Int32) * (8 : Int32)) z1.2.1 m1 m2 z1.2.2).2.2.2), c_A x4 c4 9 (va_cpy m3 m4 0 0 9)] H := hP.sub [1, 2, 3, 4, 0] rfl
    have hD : va_D A [c_X x0 x1 x2 x3 x4 ((f_X_sums (z1.1 / (32 : Int32)) ((z1.1 / (4 : Int32)) - (z1.1 / (4 : Int32)) / (8 : Int32) * (8 : Int32)) z1.2.1 m1 m2 z1.2.2).1), c_A x1 c1 1024 ((f_X_sums (z1.1 / (32 : Int32)) ((z1.1 / (4 : Int32)) - (z1.1 / (4 : Int32)) / (8 : Int32) * (8 : Int32)) z1.2.1 m1 m2 z1.2.2).2.1), c_A x2 c2 256 ((f_X_sums (z1.1 / (32 : Int32)) ((z1.1 / (4 : Int32)) - (z1.1 / (4 : Int32)) / (8 : Int32) * (8 : Int32)) z1.2.1 m1 m2 z1.2.2).2.2.1), c_A x3 c3 9 ((f_X_sums (z1.1 / (32 : Int32)) ((z1.1 / (4 : Int32)) - (z1.1 / (4 : Int32)) / (8 : Int32) * (8 : Int32)) z1.2.1 m1 m2 z1.2.2).2.2.2), c_A x4 c4 9 (va_cpy m3 m4 0 0 9)] := hD.sub [1, 2, 3, 4, 0] (by decide) rfl
    obtain ⟨z2, ez2⟩ : ∃ z, z = (f_X_sums (z1.1 / (32 : Int32)) ((z1.1 / (4 : Int32)) - (z1.1 / (4 : Int32)) / (8 : Int32) * (8 : Int32)) z1.2.1 m1 m2 z1.2.2) := ⟨_, rfl⟩
    rw [← ez2] at hP hD
    refine lv_goto (tgt := 127) hx hb d_X_instruction_61 (by decide) ?_
    refine lv_aload_n hx hb d_X_instruction_127 rfl (lv_at hl 3 rfl) ?_
    refine va_get (D := (dC, dI)) (ci := 3) (v := .int (z2.1 4)) (C := R_X) (T := F_X) (N := 13) hx hb htB i_X hown hK hP 0 rfl rfl 8 (by decide) (htB _ mw_469) (fun _ h9 => h9) rfl d_X_instruction_128 ?_
    refine lv_if_ne (tgt := 145) hx hb d_X_instruction_131 (by decide) (fun c_4 => ?_) (fun c_4 => ?_)
    · refine lv_aload_n hx hb d_X_instruction_145 rfl (lv_at hl 3 rfl) ?_
      refine lv_aload_n hx hb d_X_instruction_146 rfl (lv_at hl 3 rfl) ?_
      refine va_get (D := (dC, dI)) (ci := 3) (v := .int (z2.1 4)) (C := R_X) (T := F_X) (N := 13) hx hb htB i_X hown hK hP 0 rfl rfl 8 (by decide) (htB _ mw_469) (fun _ h9 => h9) rfl d_X_instruction_147 ?_
      refine va_put (D := (dC, dI)) (ci := 3) (v := .int (z2.1 4)) (ty := .int) (C := R_X) (T := F_X) (N := 13) hx hb htB i_X t_X t_X_ok n_X hown hK hP hD hS 0 rfl rfl 9 (by decide) (htB _ mw_470) (fun _ h9 => h9) rfl (by decide +kernel) rfl rfl (Nat.le_of_ble_eq_true rfl) d_X_instruction_150 (fun H locs hP hD hS => ?_)
      have hP : va_P (dC, dI) classes [c_X x0 x1 x2 x3 x4 (upd z2.1 5 (z2.1 4)), c_A x1 c1 1024 z2.2.1, c_A x2 c2 256 z2.2.2.1, c_A x3 c3 9 z2.2.2.2, c_A x4 c4 9 (va_cpy m3 m4 0 0 9)] H := hP
      have hD : va_D A [c_X x0 x1 x2 x3 x4 (upd z2.1 5 (z2.1 4)), c_A x1 c1 1024 z2.2.1, c_A x2 c2 256 z2.2.2.1, c_A x3 c3 9 z2.2.2.2, c_A x4 c4 9 (va_cpy m3 m4 0 0 9)] := hD
      refine lv_iconst (v := 0) hx hb d_X_instruction_153 (by decide) ?_
      refine lv_istore (lv' := [(4, .int (0 : Int32)), (3, .int ((z1.1 / (4 : Int32)) - (z1.1 / (4 : Int32)) / (8 : Int32) * (8 : Int32))), (2, .int (z1.1 / (32 : Int32))), (1, .int z1.1), (0, .ref x0)]) hx hb d_X_instruction_154 hl (by decide) rfl (fun ls hl => ?_)
      have hl := lv_sub hl [0, 4] rfl
      rw [show (0 : Int32) = nI 0 from rfl] at hl
      refine L_X_instruction_b (ku := (upd z2.1 5 (z2.1 4))) (m1 := z2.2.1) (m2 := z2.2.2.1) (m3 := z2.2.2.2) (m4 := (va_cpy m3 m4 0 0 9)) hx hb hml hown htB hK (fun H locs ls hP hD hS hl => ?_) 10 0 (by decide) (by decide) _ cpy_0.symm H _ ls hP hD hS hl
      have hf : f_X_instruction ku m1 m2 m3 m4 = ((upd z2.1 5 (z2.1 4)), z2.2.1, z2.2.2.1, (va_cpy (va_cpy m3 m4 0 0 9) z2.2.2.2 0 0 9), (va_cpy m3 m4 0 0 9)) := by rw [f_X_instruction, ← ez1, f_X_instruction_k1, if_pos c_2, ← ez2, f_X_instruction_k6, if_neg c_4]
      exact W.vret hx hb hr (fun t ht hW => ⟨⟨(), rfl, trivial, by rw [hf]; exact ⟨by rw [ht]; exact hP, va_K.moved hW.alike hK, hD⟩⟩, hS.F ht⟩) hS.2.2 d_X_instruction_183
    · refine lv_aload_n hx hb d_X_instruction_134 rfl (lv_at hl 3 rfl) ?_
      refine lv_dup hx hb d_X_instruction_135 rfl ?_
      refine va_get (D := (dC, dI)) (ci := 3) (v := .int (z2.1 3)) (C := R_X) (T := F_X) (N := 13) hx hb htB i_X hown hK hP 0 rfl rfl 7 (by decide) (htB _ mw_468) (fun _ h9 => h9) rfl d_X_instruction_136 ?_
      refine lv_iconst (v := 1) hx hb d_X_instruction_139 (by decide) ?_
      refine lv_iadd hx hb d_X_instruction_140 ?_
      refine va_put (D := (dC, dI)) (ci := 3) (v := .int ((z2.1 3) + (1 : Int32))) (ty := .int) (C := R_X) (T := F_X) (N := 13) hx hb htB i_X t_X t_X_ok n_X hown hK hP hD hS 0 rfl rfl 7 (by decide) (htB _ mw_468) (fun _ h9 => h9) rfl (by decide +kernel) rfl rfl (Nat.le_of_ble_eq_true rfl) d_X_instruction_141 (fun H locs hP hD hS => ?_)
      have hP : va_P (dC, dI) classes [c_X x0 x1 x2 x3 x4 (upd z2.1 3 ((z2.1 3) + (1 : Int32))), c_A x1 c1 1024 z2.2.1, c_A x2 c2 256 z2.2.2.1, c_A x3 c3 9 z2.2.2.2, c_A x4 c4 9 (va_cpy m3 m4 0 0 9)] H := hP
      have hD : va_D A [c_X x0 x1 x2 x3 x4 (upd z2.1 3 ((z2.1 3) + (1 : Int32))), c_A x1 c1 1024 z2.2.1, c_A x2 c2 256 z2.2.2.1, c_A x3 c3 9 z2.2.2.2, c_A x4 c4 9 (va_cpy m3 m4 0 0 9)] := hD
      have hf : f_X_instruction ku m1 m2 m3 m4 = ((upd z2.1 3 ((z2.1 3) + (1 : Int32))), z2.2.1, z2.2.2.1, z2.2.2.2, (va_cpy m3 m4 0 0 9)) := by rw [f_X_instruction, ← ez1, f_X_instruction_k1, if_pos c_2, ← ez2, f_X_instruction_k6, if_pos c_4]
      exact W.vret hx hb hr (fun t ht hW => ⟨⟨(), rfl, trivial, by rw [hf]; exact ⟨by rw [ht]; exact hP, va_K.moved hW.alike hK, hD⟩⟩, hS.F ht⟩) hS.2.2 d_X_instruction_144
