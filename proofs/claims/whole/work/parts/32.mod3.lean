set_option maxHeartbeats 4000000 in
set_option maxRecDepth 100000 in
theorem L_X_write {p : Program} {l : Launch} {e : Env} {R : Room} {s : State} {m : MethodId} {args : Array Value} {below : List Frame} {meth : Method} {c : Code} {Q : State → Prop} {dC : Nat → ClassId} {dI : Nat → Nat → Nat} {A : Nat → Prop} {H0 : Heap} {cells slots : Nat} {x0 x1 x2 x3 x4 : Nat} {c1 c2 : ClassId} (hx : p.tables.exec = Jvm.exec) (hb : c.code = b_X_write) (hml : c.maxLocals = 5) (hown : s.vm.findClass R_X = some m.cls) (htB : ∀ w ∈ BIG, w.before args s = true) (hK : va_K (dC, dI) classes [(c1, .int), (c2, .int)] s) {a p1 p2 : Int32} {u m1 m2 : Nat → Int32} (hxs : a = (1011 : Int32) ∨ a = (1012 : Int32) → xs_ok u)
    (K : ∀ (H : Heap) (locs : List Loc) (ls : Array Slot), va_P (dC, dI) classes [c_X x0 x1 x2 x3 x4 u, c_A x1 c1 1024 (wi1 a u m1 m2 32), c_A x2 c2 256 (wi2 a u m1 m2 32)] H → va_D A [c_X x0 x1 x2 x3 x4 u, c_A x1 c1 1024 (wi1 a u m1 m2 32), c_A x2 c2 256 (wi2 a u m1 m2 32)] → va_S A H0 H locs → lv_has ls 5 [(0, .ref x0)] → W p l e R s m args below meth c H locs cells slots Q (F0 m 168 ls [])) :
    ∀ (n j : Nat), j ≤ 32 → 33 ≤ j + n → ∀ (y1 y2 : Nat → Int32), y1 = wi1 a u m1 m2 j → y2 = wi2 a u m1 m2 j → ∀ (H : Heap) (locs : List Loc) (ls : Array Slot), va_P (dC, dI) classes [c_X x0 x1 x2 x3 x4 u, c_A x1 c1 1024 (y1), c_A x2 c2 256 (y2)] H → va_D A [c_X x0 x1 x2 x3 x4 u, c_A x1 c1 1024 (y1), c_A x2 c2 256 (y2)] → va_S A H0 H locs → lv_has ls 5 [(4, .int (nI j)), (3, .int a), (0, .ref x0), (1, .int p1), (2, .int p2)] → W p l e R s m args below meth c H locs cells slots Q (F0 m 79 ls []) := by
  intro n
  induction n with
  | zero =>
    intro j h1 h2
    exact absurd h2 (by omega)
  | succ n ih =>
    intro j hj hjn y1 y2 e1 e2 H locs ls hP hD hS hl
    refine lv_iload hx hb d_X_write_79 (lv_at hl 0 rfl) ?_
    refine lv_bipush (v := 32) hx hb d_X_write_81 (by decide) ?_
    refine lv_icmp_ge (tgt := 168) hx hb d_X_write_83 (by decide) (fun c_1 => ?_) (fun c_1 => ?_)
    · have hj32 : j = 32 := Nat.le_antisymm hj (Nat.le_of_not_lt (fun q => absurd c_1 (nI_ge (b := 32) q (by omega))))
      subst hj32
      subst e1
      subst e2
      exact K H locs ls hP hD hS (lv_sub hl [2] rfl)
    · refine lv_iload_n hx hb d_X_write_86 rfl (lv_at hl 1 rfl) ?_
      refine lv_sipush (v := 1011) hx hb d_X_write_87 (by decide) ?_
      refine lv_icmp_eq (tgt := 100) hx hb d_X_write_90 (by decide) (fun c_2 => ?_) (fun c_2 => ?_)
      · refine lv_iload_n hx hb d_X_write_100 rfl (lv_at hl 1 rfl) ?_
        refine lv_sipush (v := 1011) hx hb d_X_write_101 (by decide) ?_
        refine lv_icmp_ne (tgt := 136) hx hb d_X_write_104 (by decide) (fun c9 => absurd c_2 c9) (fun _ => ?_)
        refine lv_aload_n hx hb d_X_write_107 rfl (lv_at hl 2 rfl) ?_
        refine va_get (D := (dC, dI)) (ci := 3) (v := .ref x1) (C := R_X) (T := F_X) (N := 13) hx hb htB i_X hown hK hP 0 rfl rfl 0 (by decide) (htB _ mw_461) (fun _ h9 => h9) rfl d_X_write_108 ?_
        refine lv_sipush (v := 768) hx hb d_X_write_111 (by decide) ?_
        refine lv_iload hx hb d_X_write_114 (lv_at hl 0 rfl) ?_
        refine lv_iadd hx hb d_X_write_116 ?_
        refine lv_aload_n hx hb d_X_write_117 rfl (lv_at hl 2 rfl) ?_
        refine va_get (D := (dC, dI)) (ci := 3) (v := .ref x2) (C := R_X) (T := F_X) (N := 13) hx hb htB i_X hown hK hP 0 rfl rfl 1 (by decide) (htB _ mw_462) (fun _ h9 => h9) rfl d_X_write_118 ?_
        refine lv_bipush (v := 32) hx hb d_X_write_121 (by decide) ?_
        refine lv_aload_n hx hb d_X_write_123 rfl (lv_at hl 2 rfl) ?_
        refine va_get (D := (dC, dI)) (ci := 3) (v := .int (u 1)) (C := R_X) (T := F_X) (N := 13) hx hb htB i_X hown hK hP 0 rfl rfl 5 (by decide) (htB _ mw_466) (fun _ h9 => h9) rfl d_X_write_124 ?_
        refine lv_imul hx hb d_X_write_127 ?_
        refine lv_iload hx hb d_X_write_128 (lv_at hl 0 rfl) ?_
        refine lv_iadd hx hb d_X_write_130 ?_
        refine va_iald hx hb hK hP 2 1 rfl rfl (wr_in1 (hxs (Or.inl c_2)) (lt_of32 c_1 hj)) d_X_write_131 ?_
        refine va_iast hx hb hK hP hD hS 1 0 rfl rfl (wr_in2 (lt_of32 c_1 hj)) d_X_write_132 (fun H locs hP hD hS => ?_)
        have hP : va_P (dC, dI) classes [c_X x0 x1 x2 x3 x4 u, c_A x1 c1 1024 (upd y1 (((768 : Int32) + (nI j)).toNatClampNeg) (y2 ((((32 : Int32) * (u 1)) + (nI j)).toNatClampNeg))), c_A x2 c2 256 y2] H := hP
        have hD : va_D A [c_X x0 x1 x2 x3 x4 u, c_A x1 c1 1024 (upd y1 (((768 : Int32) + (nI j)).toNatClampNeg) (y2 ((((32 : Int32) * (u 1)) + (nI j)).toNatClampNeg))), c_A x2 c2 256 y2] := hD
        refine lv_goto (tgt := 162) hx hb d_X_write_133 (by decide) ?_
        refine lv_iinc (v := ((nI j) + Int32.ofInt 1)) (lv' := [(4, .int ((nI j) + Int32.ofInt 1)), (3, .int a), (0, .ref x0), (1, .int p1), (2, .int p2)]) hx hb d_X_write_162 hl (k := 0) rfl rfl (by decide) rfl (fun ls hl => ?_)
        refine lv_goto (tgt := 79) hx hb d_X_write_165 (by decide) ?_
        have e9 : nI j + Int32.ofInt 1 = nI (j + 1) := nI_1 j
        rw [e9] at hl
        exact ih (j + 1) (lt_of32 c_1 hj) (by omega) _ _ (wi1_s c_2 (hxs (Or.inl c_2)) (lt_of32 c_1 hj) e1 e2) (e2.trans (wi2_n (by rw [c_2]; decide) u m1 m2 j (j + 1))) H locs ls hP hD hS (lv_sub hl [0, 1, 2, 3, 4] rfl)
      · refine lv_iload_n hx hb d_X_write_93 rfl (lv_at hl 1 rfl) ?_
        refine lv_sipush (v := 1012) hx hb d_X_write_94 (by decide) ?_
        refine lv_icmp_ne (tgt := 168) hx hb d_X_write_97 (by decide) (fun c_3 => ?_) (fun c_3 => ?_)
        · rw [e1, wi1_n c_2 u m1 m2 j 32, e2, wi2_n c_3 u m1 m2 j 32] at hP hD
          exact K H locs ls hP hD hS (lv_sub hl [2] rfl)
        · refine lv_iload_n hx hb d_X_write_100 rfl (lv_at hl 1 rfl) ?_
          refine lv_sipush (v := 1011) hx hb d_X_write_101 (by decide) ?_
          refine lv_icmp_ne (tgt := 136) hx hb d_X_write_104 (by decide) (fun _ => ?_) (fun c9 => absurd c9 c_2)
          refine lv_aload_n hx hb d_X_write_136 rfl (lv_at hl 2 rfl) ?_
          refine va_get (D := (dC, dI)) (ci := 3) (v := .ref x2) (C := R_X) (T := F_X) (N := 13) hx hb htB i_X hown hK hP 0 rfl rfl 1 (by decide) (htB _ mw_462) (fun _ h9 => h9) rfl d_X_write_137 ?_
          refine lv_bipush (v := 32) hx hb d_X_write_140 (by decide) ?_
          refine lv_aload_n hx hb d_X_write_142 rfl (lv_at hl 2 rfl) ?_
          refine va_get (D := (dC, dI)) (ci := 3) (v := .int (u 1)) (C := R_X) (T := F_X) (N := 13) hx hb htB i_X hown hK hP 0 rfl rfl 5 (by decide) (htB _ mw_466) (fun _ h9 => h9) rfl d_X_write_143 ?_
          refine lv_imul hx hb d_X_write_146 ?_
          refine lv_iload hx hb d_X_write_147 (lv_at hl 0 rfl) ?_
          refine lv_iadd hx hb d_X_write_149 ?_
          refine lv_aload_n hx hb d_X_write_150 rfl (lv_at hl 2 rfl) ?_
          refine va_get (D := (dC, dI)) (ci := 3) (v := .ref x1) (C := R_X) (T := F_X) (N := 13) hx hb htB i_X hown hK hP 0 rfl rfl 0 (by decide) (htB _ mw_461) (fun _ h9 => h9) rfl d_X_write_151 ?_
          refine lv_sipush (v := 768) hx hb d_X_write_154 (by decide) ?_
          refine lv_iload hx hb d_X_write_157 (lv_at hl 0 rfl) ?_
          refine lv_iadd hx hb d_X_write_159 ?_
          refine va_iald hx hb hK hP 1 0 rfl rfl (wr_in2 (lt_of32 c_1 hj)) d_X_write_160 ?_
          refine va_iast hx hb hK hP hD hS 2 1 rfl rfl (wr_in1 (hxs (Or.inr c_3)) (lt_of32 c_1 hj)) d_X_write_161 (fun H locs hP hD hS => ?_)
          have hP : va_P (dC, dI) classes [c_X x0 x1 x2 x3 x4 u, c_A x1 c1 1024 y1, c_A x2 c2 256 (upd y2 ((((32 : Int32) * (u 1)) + (nI j)).toNatClampNeg) (y1 (((768 : Int32) + (nI j)).toNatClampNeg)))] H := hP
          have hD : va_D A [c_X x0 x1 x2 x3 x4 u, c_A x1 c1 1024 y1, c_A x2 c2 256 (upd y2 ((((32 : Int32) * (u 1)) + (nI j)).toNatClampNeg) (y1 (((768 : Int32) + (nI j)).toNatClampNeg)))] := hD
          refine lv_iinc (v := ((nI j) + Int32.ofInt 1)) (lv' := [(4, .int ((nI j) + Int32.ofInt 1)), (3, .int a), (0, .ref x0), (1, .int p1), (2, .int p2)]) hx hb d_X_write_162 hl (k := 0) rfl rfl (by decide) rfl (fun ls hl => ?_)
          refine lv_goto (tgt := 79) hx hb d_X_write_165 (by decide) ?_
          have e9 : nI j + Int32.ofInt 1 = nI (j + 1) := nI_1 j
          rw [e9] at hl
          exact ih (j + 1) (lt_of32 c_1 hj) (by omega) _ _ (e1.trans (wi1_n c_2 u m1 m2 j (j + 1))) (wi2_s c_3 (hxs (Or.inr c_3)) (lt_of32 c_1 hj) e1 e2) H locs ls hP hD hS (lv_sub hl [0, 1, 2, 3, 4] rfl)
def f_X_write (p1 : Int32) (p2 : Int32) (ku m1 m2 : Nat → Int32) : (Nat → Int32) × (Nat → Int32) × (Nat → Int32) :=
  if (ku 4) = (0 : Int32) then
    if (1008 : Int32) ≤ (p1 &&& (1023 : Int32)) then
      if (p1 &&& (1023 : Int32)) = (1010 : Int32) then
        if p2 ≤ (7 : Int32) then
          ((upd ku 1 p2), (wi1 (p1 &&& (1023 : Int32)) (upd ku 1 p2) m1 m2 32), (wi2 (p1 &&& (1023 : Int32)) (upd ku 1 p2) m1 m2 32))
        else
          ((upd ku 4 (3 : Int32)), (wi1 (p1 &&& (1023 : Int32)) (upd ku 4 (3 : Int32)) m1 m2 32), (wi2 (p1 &&& (1023 : Int32)) (upd ku 4 (3 : Int32)) m1 m2 32))
      else
        (ku, (wi1 (p1 &&& (1023 : Int32)) ku m1 m2 32), (wi2 (p1 &&& (1023 : Int32)) ku m1 m2 32))
    else
      if (ku 2) = (0 : Int32) then
        if (p1 &&& (1023 : Int32)) = (1010 : Int32) then
          if p2 ≤ (7 : Int32) then
            ((upd ku 1 p2), (wi1 (p1 &&& (1023 : Int32)) (upd ku 1 p2) (upd m1 ((p1 &&& (1023 : Int32)).toNatClampNeg) p2) m2 32), (wi2 (p1 &&& (1023 : Int32)) (upd ku 1 p2) (upd m1 ((p1 &&& (1023 : Int32)).toNatClampNeg) p2) m2 32))
          else
            ((upd ku 4 (3 : Int32)), (wi1 (p1 &&& (1023 : Int32)) (upd ku 4 (3 : Int32)) (upd m1 ((p1 &&& (1023 : Int32)).toNatClampNeg) p2) m2 32), (wi2 (p1 &&& (1023 : Int32)) (upd ku 4 (3 : Int32)) (upd m1 ((p1 &&& (1023 : Int32)).toNatClampNeg) p2) m2 32))
        else
          (ku, (wi1 (p1 &&& (1023 : Int32)) ku (upd m1 ((p1 &&& (1023 : Int32)).toNatClampNeg) p2) m2 32), (wi2 (p1 &&& (1023 : Int32)) ku (upd m1 ((p1 &&& (1023 : Int32)).toNatClampNeg) p2) m2 32))
      else
        if (p1 &&& (1023 : Int32)) < (960 : Int32) then
          if (p1 &&& (1023 : Int32)) = (1010 : Int32) then
            if p2 ≤ (7 : Int32) then
              ((upd ku 1 p2), (wi1 (p1 &&& (1023 : Int32)) (upd ku 1 p2) (upd m1 ((p1 &&& (1023 : Int32)).toNatClampNeg) p2) m2 32), (wi2 (p1 &&& (1023 : Int32)) (upd ku 1 p2) (upd m1 ((p1 &&& (1023 : Int32)).toNatClampNeg) p2) m2 32))
            else
              ((upd ku 4 (3 : Int32)), (wi1 (p1 &&& (1023 : Int32)) (upd ku 4 (3 : Int32)) (upd m1 ((p1 &&& (1023 : Int32)).toNatClampNeg) p2) m2 32), (wi2 (p1 &&& (1023 : Int32)) (upd ku 4 (3 : Int32)) (upd m1 ((p1 &&& (1023 : Int32)).toNatClampNeg) p2) m2 32))
          else
            (ku, (wi1 (p1 &&& (1023 : Int32)) ku (upd m1 ((p1 &&& (1023 : Int32)).toNatClampNeg) p2) m2 32), (wi2 (p1 &&& (1023 : Int32)) ku (upd m1 ((p1 &&& (1023 : Int32)).toNatClampNeg) p2) m2 32))
        else
          if (p1 &&& (1023 : Int32)) = (1010 : Int32) then
            if p2 ≤ (7 : Int32) then
              ((upd (upd ku 4 (2 : Int32)) 1 p2), (wi1 (p1 &&& (1023 : Int32)) (upd (upd ku 4 (2 : Int32)) 1 p2) m1 m2 32), (wi2 (p1 &&& (1023 : Int32)) (upd (upd ku 4 (2 : Int32)) 1 p2) m1 m2 32))
            else
              ((upd (upd ku 4 (2 : Int32)) 4 (3 : Int32)), (wi1 (p1 &&& (1023 : Int32)) (upd (upd ku 4 (2 : Int32)) 4 (3 : Int32)) m1 m2 32), (wi2 (p1 &&& (1023 : Int32)) (upd (upd ku 4 (2 : Int32)) 4 (3 : Int32)) m1 m2 32))
          else
            ((upd ku 4 (2 : Int32)), (wi1 (p1 &&& (1023 : Int32)) (upd ku 4 (2 : Int32)) m1 m2 32), (wi2 (p1 &&& (1023 : Int32)) (upd ku 4 (2 : Int32)) m1 m2 32))
  else
    (ku, m1, m2)
abbrev Q_X_write (dC : Nat → ClassId) (dI : Nat → Nat → Nat) (x0 : Nat) (x1 : Nat) (x2 : Nat) (x3 : Nat) (x4 : Nat) (c1 : ClassId) (c2 : ClassId) (p1 : Int32) (p2 : Int32) (ku m1 m2 : Nat → Int32) (A : Nat → Prop) : Array Value → State → Outcome → State → Prop := va_Qv (fun (_ : Unit) => True) (fun _ t => atW (dC, dI) classes A [c_X x0 x1 x2 x3 x4 ((f_X_write p1 p2 ku m1 m2).1), c_A x1 c1 1024 ((f_X_write p1 p2 ku m1 m2).2.1), c_A x2 c2 256 ((f_X_write p1 p2 ku m1 m2).2.2)] [(c1, .int), (c2, .int)] t) A
set_option maxHeartbeats 4000000 in
set_option maxRecDepth 100000 in
theorem c_X_write (l : Launch) (dC : Nat → ClassId) (dI : Nat → Nat → Nat) (z0 : Nat) (x0 : Nat) (x1 : Nat) (x2 : Nat) (x3 : Nat) (x4 : Nat) (c1 : ClassId) (c2 : ClassId) (sz : Nat) (p1 : Int32) (p2 : Int32) (ku m1 m2 : Nat → Int32) (hxs : xs_ok ku) : Met l y_X_write w_X_write ({ frames := 0, cells := 0, slots := 0, locals := 0 }) (PcX (dC, dI) classes z0 [c_X x0 x1 x2 x3 x4 ku, c_A x1 c1 1024 m1, c_A x2 c2 256 m2] [(c1, .int), (c2, .int)] sz [.ref x0, .int p1, .int p2]) (Q_X_write dC dI x0 x1 x2 x3 x4 c1 c2 p1 p2 ku m1 m2 (va_A [c_X x0 x1 x2 x3 x4 ku, c_A x1 c1 1024 m1, c_A x2 c2 256 m2] sz)) 0 0 (va_A [c_X x0 x1 x2 x3 x4 ku, c_A x1 c1 1024 m1, c_A x2 c2 256 m2] sz) := by
  refine hdX (cc := b_X_write) (maxL := 5) (ret := none) (C := R_X) (Qc := (Q_X_write dC dI x0 x1 x2 x3 x4 c1 c2 p1 p2 ku m1 m2)) (by decide) rfl ?_
  intro p e s m below meth c A H hx hb hr hlocks hml hown hin htB hP hK hD hA hA0 hE hS
  have hl := lv_entry ([.ref x0, .int p1, .int p2]) (n := 5) (Nat.le_of_ble_eq_true rfl)
  rw [lg_entry_eq]
  generalize (lg_sl ([.ref x0, .int p1, .int p2]) ++ List.replicate (5 - (lg_sl ([.ref x0, .int p1, .int p2])).length) Slot.unset).toArray = ls at hl ⊢
  have hl : lv_has ls 5 [(0, .ref x0), (1, .int p1), (2, .int p2)] := hl
  refine lv_iload_n hx hb d_X_write_0 rfl (lv_at hl 1 rfl) ?_
  refine lv_sipush (v := 1023) hx hb d_X_write_1 (by decide) ?_
  refine lv_iand hx hb d_X_write_4 ?_
  refine lv_istore_n (lv' := [(3, .int (p1 &&& (1023 : Int32))), (0, .ref x0), (1, .int p1), (2, .int p2)]) hx hb d_X_write_5 rfl hl (by decide) rfl (fun ls hl => ?_)
  refine lv_aload_n hx hb d_X_write_6 rfl (lv_at hl 1 rfl) ?_
  refine va_get (D := (dC, dI)) (ci := 3) (v := .int (ku 4)) (C := R_X) (T := F_X) (N := 13) hx hb htB i_X hown hK hP 0 rfl rfl 8 (by decide) (htB _ mw_469) (fun _ h9 => h9) rfl d_X_write_7 ?_
  refine lv_if_eq (tgt := 14) hx hb d_X_write_10 (by decide) (fun c_1 => ?_) (fun c_1 => ?_)
  · refine lv_iload_n hx hb d_X_write_14 rfl (lv_at hl 0 rfl) ?_
    refine lv_sipush (v := 1008) hx hb d_X_write_15 (by decide) ?_
    refine lv_icmp_ge (tgt := 50) hx hb d_X_write_18 (by decide) (fun c_2 => ?_) (fun c_2 => ?_)
    · refine lv_iload_n hx hb d_X_write_50 rfl (lv_at hl 0 rfl) ?_
      refine lv_sipush (v := 1010) hx hb d_X_write_51 (by decide) ?_
      refine lv_icmp_ne (tgt := 76) hx hb d_X_write_54 (by decide) (fun c_3 => ?_) (fun c_3 => ?_)
      · refine lv_iconst (v := 0) hx hb d_X_write_76 (by decide) ?_
        refine lv_istore (lv' := [(4, .int (0 : Int32)), (3, .int (p1 &&& (1023 : Int32))), (0, .ref x0), (1, .int p1), (2, .int p2)]) hx hb d_X_write_77 hl (by decide) rfl (fun ls hl => ?_)
        have hl := lv_sub hl [0, 1, 2, 3, 4] rfl
        rw [show (0 : Int32) = nI 0 from rfl] at hl
        refine L_X_write (a := (p1 &&& (1023 : Int32))) (p1 := p1) (p2 := p2) (u := ku) (m1 := m1) (m2 := m2) hx hb hml hown htB hK (fun _ => hxs) (fun H locs ls hP hD hS hl => ?_) 33 0 (by decide) (by decide) _ _ (wi1_0 _ _ _ _).symm (wi2_0 _ _ _ _).symm H _ ls hP hD hS hl
        have hf : f_X_write p1 p2 ku m1 m2 = (ku, (wi1 (p1 &&& (1023 : Int32)) ku m1 m2 32), (wi2 (p1 &&& (1023 : Int32)) ku m1 m2 32)) := by rw [f_X_write, if_pos c_1, if_pos c_2, if_neg c_3]
        exact W.vret hx hb hr (fun t ht hW => ⟨⟨(), rfl, trivial, by rw [hf]; exact ⟨by rw [ht]; exact hP, va_K.moved hW.alike hK, hD⟩⟩, hS.F ht⟩) hS.2.2 d_X_write_168
      · refine lv_iload_n hx hb d_X_write_57 rfl (lv_at hl 3 rfl) ?_
        refine lv_bipush (v := 7) hx hb d_X_write_58 (by decide) ?_
        refine lv_icmp_le (tgt := 71) hx hb d_X_write_60 (by decide) (fun c_4 => ?_) (fun c_4 => ?_)
        · refine lv_aload_n hx hb d_X_write_71 rfl (lv_at hl 1 rfl) ?_
          refine lv_iload_n hx hb d_X_write_72 rfl (lv_at hl 3 rfl) ?_
          refine va_put (D := (dC, dI)) (ci := 3) (v := .int p2) (ty := .int) (C := R_X) (T := F_X) (N := 13) hx hb htB i_X t_X t_X_ok n_X hown hK hP hD hS 0 rfl rfl 5 (by decide) (htB _ mw_466) (fun _ h9 => h9) rfl (by decide +kernel) rfl rfl (Nat.le_of_ble_eq_true rfl) d_X_write_73 (fun H locs hP hD hS => ?_)
          have hP : va_P (dC, dI) classes [c_X x0 x1 x2 x3 x4 (upd ku 1 p2), c_A x1 c1 1024 m1, c_A x2 c2 256 m2] H := hP
          have hD : va_D A [c_X x0 x1 x2 x3 x4 (upd ku 1 p2), c_A x1 c1 1024 m1, c_A x2 c2 256 m2] := hD
          refine lv_iconst (v := 0) hx hb d_X_write_76 (by decide) ?_
          refine lv_istore (lv' := [(4, .int (0 : Int32)), (3, .int (p1 &&& (1023 : Int32))), (0, .ref x0), (1, .int p1), (2, .int p2)]) hx hb d_X_write_77 hl (by decide) rfl (fun ls hl => ?_)
          have hl := lv_sub hl [0, 1, 2, 3, 4] rfl
          rw [show (0 : Int32) = nI 0 from rfl] at hl
          refine L_X_write (a := (p1 &&& (1023 : Int32))) (p1 := p1) (p2 := p2) (u := (upd ku 1 p2)) (m1 := m1) (m2 := m2) hx hb hml hown htB hK (fun h9 => h9.elim (fun q => absurd (c_3.symm.trans q) (by decide)) (fun q => absurd (c_3.symm.trans q) (by decide))) (fun H locs ls hP hD hS hl => ?_) 33 0 (by decide) (by decide) _ _ (wi1_0 _ _ _ _).symm (wi2_0 _ _ _ _).symm H _ ls hP hD hS hl
          have hf : f_X_write p1 p2 ku m1 m2 = ((upd ku 1 p2), (wi1 (p1 &&& (1023 : Int32)) (upd ku 1 p2) m1 m2 32), (wi2 (p1 &&& (1023 : Int32)) (upd ku 1 p2) m1 m2 32)) := by rw [f_X_write, if_pos c_1, if_pos c_2, if_pos c_3, if_pos c_4]
          exact W.vret hx hb hr (fun t ht hW => ⟨⟨(), rfl, trivial, by rw [hf]; exact ⟨by rw [ht]; exact hP, va_K.moved hW.alike hK, hD⟩⟩, hS.F ht⟩) hS.2.2 d_X_write_168
        · refine lv_aload_n hx hb d_X_write_63 rfl (lv_at hl 1 rfl) ?_
          refine lv_iconst (v := 3) hx hb d_X_write_64 (by decide) ?_
          refine va_put (D := (dC, dI)) (ci := 3) (v := .int (3 : Int32)) (ty := .int) (C := R_X) (T := F_X) (N := 13) hx hb htB i_X t_X t_X_ok n_X hown hK hP hD hS 0 rfl rfl 8 (by decide) (htB _ mw_469) (fun _ h9 => h9) rfl (by decide +kernel) rfl rfl (Nat.le_of_ble_eq_true rfl) d_X_write_65 (fun H locs hP hD hS => ?_)
          have hP : va_P (dC, dI) classes [c_X x0 x1 x2 x3 x4 (upd ku 4 (3 : Int32)), c_A x1 c1 1024 m1, c_A x2 c2 256 m2] H := hP
          have hD : va_D A [c_X x0 x1 x2 x3 x4 (upd ku 4 (3 : Int32)), c_A x1 c1 1024 m1, c_A x2 c2 256 m2] := hD
          refine lv_goto (tgt := 76) hx hb d_X_write_68 (by decide) ?_
          refine lv_iconst (v := 0) hx hb d_X_write_76 (by decide) ?_
          refine lv_istore (lv' := [(4, .int (0 : Int32)), (3, .int (p1 &&& (1023 : Int32))), (0, .ref x0), (1, .int p1), (2, .int p2)]) hx hb d_X_write_77 hl (by decide) rfl (fun ls hl => ?_)
          have hl := lv_sub hl [0, 1, 2, 3, 4] rfl
          rw [show (0 : Int32) = nI 0 from rfl] at hl
          refine L_X_write (a := (p1 &&& (1023 : Int32))) (p1 := p1) (p2 := p2) (u := (upd ku 4 (3 : Int32))) (m1 := m1) (m2 := m2) hx hb hml hown htB hK (fun _ => hxs) (fun H locs ls hP hD hS hl => ?_) 33 0 (by decide) (by decide) _ _ (wi1_0 _ _ _ _).symm (wi2_0 _ _ _ _).symm H _ ls hP hD hS hl
          have hf : f_X_write p1 p2 ku m1 m2 = ((upd ku 4 (3 : Int32)), (wi1 (p1 &&& (1023 : Int32)) (upd ku 4 (3 : Int32)) m1 m2 32), (wi2 (p1 &&& (1023 : Int32)) (upd ku 4 (3 : Int32)) m1 m2 32)) := by rw [f_X_write, if_pos c_1, if_pos c_2, if_pos c_3, if_neg c_4]
          exact W.vret hx hb hr (fun t ht hW => ⟨⟨(), rfl, trivial, by rw [hf]; exact ⟨by rw [ht]; exact hP, va_K.moved hW.alike hK, hD⟩⟩, hS.F ht⟩) hS.2.2 d_X_write_168
    · refine lv_aload_n hx hb d_X_write_21 rfl (lv_at hl 1 rfl) ?_
      refine va_get (D := (dC, dI)) (ci := 3) (v := .int (ku 2)) (C := R_X) (T := F_X) (N := 13) hx hb htB i_X hown hK hP 0 rfl rfl 6 (by decide) (htB _ mw_467) (fun _ h9 => h9) rfl d_X_write_22 ?_
      refine lv_if_eq (tgt := 43) hx hb d_X_write_25 (by decide) (fun c_3 => ?_) (fun c_3 => ?_)
      · refine lv_aload_n hx hb d_X_write_43 rfl (lv_at hl 1 rfl) ?_
        refine va_get (D := (dC, dI)) (ci := 3) (v := .ref x1) (C := R_X) (T := F_X) (N := 13) hx hb htB i_X hown hK hP 0 rfl rfl 0 (by decide) (htB _ mw_461) (fun _ h9 => h9) rfl d_X_write_44 ?_
        refine lv_iload_n hx hb d_X_write_47 rfl (lv_at hl 0 rfl) ?_
        refine lv_iload_n hx hb d_X_write_48 rfl (lv_at hl 3 rfl) ?_
        refine va_iast hx hb hK hP hD hS 1 0 rfl rfl (in_and1023 _) d_X_write_49 (fun H locs hP hD hS => ?_)
        have hP : va_P (dC, dI) classes [c_X x0 x1 x2 x3 x4 ku, c_A x1 c1 1024 (upd m1 ((p1 &&& (1023 : Int32)).toNatClampNeg) p2), c_A x2 c2 256 m2] H := hP
        have hD : va_D A [c_X x0 x1 x2 x3 x4 ku, c_A x1 c1 1024 (upd m1 ((p1 &&& (1023 : Int32)).toNatClampNeg) p2), c_A x2 c2 256 m2] := hD
        refine lv_iload_n hx hb d_X_write_50 rfl (lv_at hl 0 rfl) ?_
        refine lv_sipush (v := 1010) hx hb d_X_write_51 (by decide) ?_
        refine lv_icmp_ne (tgt := 76) hx hb d_X_write_54 (by decide) (fun c_4 => ?_) (fun c_4 => ?_)
        · refine lv_iconst (v := 0) hx hb d_X_write_76 (by decide) ?_
          refine lv_istore (lv' := [(4, .int (0 : Int32)), (3, .int (p1 &&& (1023 : Int32))), (0, .ref x0), (1, .int p1), (2, .int p2)]) hx hb d_X_write_77 hl (by decide) rfl (fun ls hl => ?_)
          have hl := lv_sub hl [0, 1, 2, 3, 4] rfl
          rw [show (0 : Int32) = nI 0 from rfl] at hl
          refine L_X_write (a := (p1 &&& (1023 : Int32))) (p1 := p1) (p2 := p2) (u := ku) (m1 := (upd m1 ((p1 &&& (1023 : Int32)).toNatClampNeg) p2)) (m2 := m2) hx hb hml hown htB hK (fun _ => hxs) (fun H locs ls hP hD hS hl => ?_) 33 0 (by decide) (by decide) _ _ (wi1_0 _ _ _ _).symm (wi2_0 _ _ _ _).symm H _ ls hP hD hS hl
          have hf : f_X_write p1 p2 ku m1 m2 = (ku, (wi1 (p1 &&& (1023 : Int32)) ku (upd m1 ((p1 &&& (1023 : Int32)).toNatClampNeg) p2) m2 32), (wi2 (p1 &&& (1023 : Int32)) ku (upd m1 ((p1 &&& (1023 : Int32)).toNatClampNeg) p2) m2 32)) := by rw [f_X_write, if_pos c_1, if_neg c_2, if_pos c_3, if_neg c_4]
          exact W.vret hx hb hr (fun t ht hW => ⟨⟨(), rfl, trivial, by rw [hf]; exact ⟨by rw [ht]; exact hP, va_K.moved hW.alike hK, hD⟩⟩, hS.F ht⟩) hS.2.2 d_X_write_168
        · refine lv_iload_n hx hb d_X_write_57 rfl (lv_at hl 3 rfl) ?_
          refine lv_bipush (v := 7) hx hb d_X_write_58 (by decide) ?_
          refine lv_icmp_le (tgt := 71) hx hb d_X_write_60 (by decide) (fun c_5 => ?_) (fun c_5 => ?_)
          · refine lv_aload_n hx hb d_X_write_71 rfl (lv_at hl 1 rfl) ?_
            refine lv_iload_n hx hb d_X_write_72 rfl (lv_at hl 3 rfl) ?_
            refine va_put (D := (dC, dI)) (ci := 3) (v := .int p2) (ty := .int) (C := R_X) (T := F_X) (N := 13) hx hb htB i_X t_X t_X_ok n_X hown hK hP hD hS 0 rfl rfl 5 (by decide) (htB _ mw_466) (fun _ h9 => h9) rfl (by decide +kernel) rfl rfl (Nat.le_of_ble_eq_true rfl) d_X_write_73 (fun H locs hP hD hS => ?_)
            have hP : va_P (dC, dI) classes [c_X x0 x1 x2 x3 x4 (upd ku 1 p2), c_A x1 c1 1024 (upd m1 ((p1 &&& (1023 : Int32)).toNatClampNeg) p2), c_A x2 c2 256 m2] H := hP
            have hD : va_D A [c_X x0 x1 x2 x3 x4 (upd ku 1 p2), c_A x1 c1 1024 (upd m1 ((p1 &&& (1023 : Int32)).toNatClampNeg) p2), c_A x2 c2 256 m2] := hD
            refine lv_iconst (v := 0) hx hb d_X_write_76 (by decide) ?_
            refine lv_istore (lv' := [(4, .int (0 : Int32)), (3, .int (p1 &&& (1023 : Int32))), (0, .ref x0), (1, .int p1), (2, .int p2)]) hx hb d_X_write_77 hl (by decide) rfl (fun ls hl => ?_)
            have hl := lv_sub hl [0, 1, 2, 3, 4] rfl
            rw [show (0 : Int32) = nI 0 from rfl] at hl
            refine L_X_write (a := (p1 &&& (1023 : Int32))) (p1 := p1) (p2 := p2) (u := (upd ku 1 p2)) (m1 := (upd m1 ((p1 &&& (1023 : Int32)).toNatClampNeg) p2)) (m2 := m2) hx hb hml hown htB hK (fun h9 => h9.elim (fun q => absurd (c_4.symm.trans q) (by decide)) (fun q => absurd (c_4.symm.trans q) (by decide))) (fun H locs ls hP hD hS hl => ?_) 33 0 (by decide) (by decide) _ _ (wi1_0 _ _ _ _).symm (wi2_0 _ _ _ _).symm H _ ls hP hD hS hl
            have hf : f_X_write p1 p2 ku m1 m2 = ((upd ku 1 p2), (wi1 (p1 &&& (1023 : Int32)) (upd ku 1 p2) (upd m1 ((p1 &&& (1023 : Int32)).toNatClampNeg) p2) m2 32), (wi2 (p1 &&& (1023 : Int32)) (upd ku 1 p2) (upd m1 ((p1 &&& (1023 : Int32)).toNatClampNeg) p2) m2 32)) := by rw [f_X_write, if_pos c_1, if_neg c_2, if_pos c_3, if_pos c_4, if_pos c_5]
            exact W.vret hx hb hr (fun t ht hW => ⟨⟨(), rfl, trivial, by rw [hf]; exact ⟨by rw [ht]; exact hP, va_K.moved hW.alike hK, hD⟩⟩, hS.F ht⟩) hS.2.2 d_X_write_168
          · refine lv_aload_n hx hb d_X_write_63 rfl (lv_at hl 1 rfl) ?_
            refine lv_iconst (v := 3) hx hb d_X_write_64 (by decide) ?_
            refine va_put (D := (dC, dI)) (ci := 3) (v := .int (3 : Int32)) (ty := .int) (C := R_X) (T := F_X) (N := 13) hx hb htB i_X t_X t_X_ok n_X hown hK hP hD hS 0 rfl rfl 8 (by decide) (htB _ mw_469) (fun _ h9 => h9) rfl (by decide +kernel) rfl rfl (Nat.le_of_ble_eq_true rfl) d_X_write_65 (fun H locs hP hD hS => ?_)
            have hP : va_P (dC, dI) classes [c_X x0 x1 x2 x3 x4 (upd ku 4 (3 : Int32)), c_A x1 c1 1024 (upd m1 ((p1 &&& (1023 : Int32)).toNatClampNeg) p2), c_A x2 c2 256 m2] H := hP
            have hD : va_D A [c_X x0 x1 x2 x3 x4 (upd ku 4 (3 : Int32)), c_A x1 c1 1024 (upd m1 ((p1 &&& (1023 : Int32)).toNatClampNeg) p2), c_A x2 c2 256 m2] := hD
            refine lv_goto (tgt := 76) hx hb d_X_write_68 (by decide) ?_
            refine lv_iconst (v := 0) hx hb d_X_write_76 (by decide) ?_
            refine lv_istore (lv' := [(4, .int (0 : Int32)), (3, .int (p1 &&& (1023 : Int32))), (0, .ref x0), (1, .int p1), (2, .int p2)]) hx hb d_X_write_77 hl (by decide) rfl (fun ls hl => ?_)
            have hl := lv_sub hl [0, 1, 2, 3, 4] rfl
            rw [show (0 : Int32) = nI 0 from rfl] at hl
            refine L_X_write (a := (p1 &&& (1023 : Int32))) (p1 := p1) (p2 := p2) (u := (upd ku 4 (3 : Int32))) (m1 := (upd m1 ((p1 &&& (1023 : Int32)).toNatClampNeg) p2)) (m2 := m2) hx hb hml hown htB hK (fun _ => hxs) (fun H locs ls hP hD hS hl => ?_) 33 0 (by decide) (by decide) _ _ (wi1_0 _ _ _ _).symm (wi2_0 _ _ _ _).symm H _ ls hP hD hS hl
            have hf : f_X_write p1 p2 ku m1 m2 = ((upd ku 4 (3 : Int32)), (wi1 (p1 &&& (1023 : Int32)) (upd ku 4 (3 : Int32)) (upd m1 ((p1 &&& (1023 : Int32)).toNatClampNeg) p2) m2 32), (wi2 (p1 &&& (1023 : Int32)) (upd ku 4 (3 : Int32)) (upd m1 ((p1 &&& (1023 : Int32)).toNatClampNeg) p2) m2 32)) := by rw [f_X_write, if_pos c_1, if_neg c_2, if_pos c_3, if_pos c_4, if_neg c_5]
            exact W.vret hx hb hr (fun t ht hW => ⟨⟨(), rfl, trivial, by rw [hf]; exact ⟨by rw [ht]; exact hP, va_K.moved hW.alike hK, hD⟩⟩, hS.F ht⟩) hS.2.2 d_X_write_168
      · refine lv_iload_n hx hb d_X_write_28 rfl (lv_at hl 0 rfl) ?_
        refine lv_sipush (v := 960) hx hb d_X_write_29 (by decide) ?_
        refine lv_icmp_lt (tgt := 43) hx hb d_X_write_32 (by decide) (fun c_4 => ?_) (fun c_4 => ?_)
        · refine lv_aload_n hx hb d_X_write_43 rfl (lv_at hl 1 rfl) ?_
          refine va_get (D := (dC, dI)) (ci := 3) (v := .ref x1) (C := R_X) (T := F_X) (N := 13) hx hb htB i_X hown hK hP 0 rfl rfl 0 (by decide) (htB _ mw_461) (fun _ h9 => h9) rfl d_X_write_44 ?_
          refine lv_iload_n hx hb d_X_write_47 rfl (lv_at hl 0 rfl) ?_
          refine lv_iload_n hx hb d_X_write_48 rfl (lv_at hl 3 rfl) ?_
          refine va_iast hx hb hK hP hD hS 1 0 rfl rfl (in_and1023 _) d_X_write_49 (fun H locs hP hD hS => ?_)
          have hP : va_P (dC, dI) classes [c_X x0 x1 x2 x3 x4 ku, c_A x1 c1 1024 (upd m1 ((p1 &&& (1023 : Int32)).toNatClampNeg) p2), c_A x2 c2 256 m2] H := hP
          have hD : va_D A [c_X x0 x1 x2 x3 x4 ku, c_A x1 c1 1024 (upd m1 ((p1 &&& (1023 : Int32)).toNatClampNeg) p2), c_A x2 c2 256 m2] := hD
          refine lv_iload_n hx hb d_X_write_50 rfl (lv_at hl 0 rfl) ?_
          refine lv_sipush (v := 1010) hx hb d_X_write_51 (by decide) ?_
          refine lv_icmp_ne (tgt := 76) hx hb d_X_write_54 (by decide) (fun c_5 => ?_) (fun c_5 => ?_)
          · refine lv_iconst (v := 0) hx hb d_X_write_76 (by decide) ?_
            refine lv_istore (lv' := [(4, .int (0 : Int32)), (3, .int (p1 &&& (1023 : Int32))), (0, .ref x0), (1, .int p1), (2, .int p2)]) hx hb d_X_write_77 hl (by decide) rfl (fun ls hl => ?_)
            have hl := lv_sub hl [0, 1, 2, 3, 4] rfl
            rw [show (0 : Int32) = nI 0 from rfl] at hl
            refine L_X_write (a := (p1 &&& (1023 : Int32))) (p1 := p1) (p2 := p2) (u := ku) (m1 := (upd m1 ((p1 &&& (1023 : Int32)).toNatClampNeg) p2)) (m2 := m2) hx hb hml hown htB hK (fun _ => hxs) (fun H locs ls hP hD hS hl => ?_) 33 0 (by decide) (by decide) _ _ (wi1_0 _ _ _ _).symm (wi2_0 _ _ _ _).symm H _ ls hP hD hS hl
            have hf : f_X_write p1 p2 ku m1 m2 = (ku, (wi1 (p1 &&& (1023 : Int32)) ku (upd m1 ((p1 &&& (1023 : Int32)).toNatClampNeg) p2) m2 32), (wi2 (p1 &&& (1023 : Int32)) ku (upd m1 ((p1 &&& (1023 : Int32)).toNatClampNeg) p2) m2 32)) := by rw [f_X_write, if_pos c_1, if_neg c_2, if_neg c_3, if_pos c_4, if_neg c_5]
            exact W.vret hx hb hr (fun t ht hW => ⟨⟨(), rfl, trivial, by rw [hf]; exact ⟨by rw [ht]; exact hP, va_K.moved hW.alike hK, hD⟩⟩, hS.F ht⟩) hS.2.2 d_X_write_168
          · refine lv_iload_n hx hb d_X_write_57 rfl (lv_at hl 3 rfl) ?_
            refine lv_bipush (v := 7) hx hb d_X_write_58 (by decide) ?_
            refine lv_icmp_le (tgt := 71) hx hb d_X_write_60 (by decide) (fun c_6 => ?_) (fun c_6 => ?_)
            · refine lv_aload_n hx hb d_X_write_71 rfl (lv_at hl 1 rfl) ?_
              refine lv_iload_n hx hb d_X_write_72 rfl (lv_at hl 3 rfl) ?_
              refine va_put (D := (dC, dI)) (ci := 3) (v := .int p2) (ty := .int) (C := R_X) (T := F_X) (N := 13) hx hb htB i_X t_X t_X_ok n_X hown hK hP hD hS 0 rfl rfl 5 (by decide) (htB _ mw_466) (fun _ h9 => h9) rfl (by decide +kernel) rfl rfl (Nat.le_of_ble_eq_true rfl) d_X_write_73 (fun H locs hP hD hS => ?_)
              have hP : va_P (dC, dI) classes [c_X x0 x1 x2 x3 x4 (upd ku 1 p2), c_A x1 c1 1024 (upd m1 ((p1 &&& (1023 : Int32)).toNatClampNeg) p2), c_A x2 c2 256 m2] H := hP
              have hD : va_D A [c_X x0 x1 x2 x3 x4 (upd ku 1 p2), c_A x1 c1 1024 (upd m1 ((p1 &&& (1023 : Int32)).toNatClampNeg) p2), c_A x2 c2 256 m2] := hD
              refine lv_iconst (v := 0) hx hb d_X_write_76 (by decide) ?_
              refine lv_istore (lv' := [(4, .int (0 : Int32)), (3, .int (p1 &&& (1023 : Int32))), (0, .ref x0), (1, .int p1), (2, .int p2)]) hx hb d_X_write_77 hl (by decide) rfl (fun ls hl => ?_)
              have hl := lv_sub hl [0, 1, 2, 3, 4] rfl
              rw [show (0 : Int32) = nI 0 from rfl] at hl
              refine L_X_write (a := (p1 &&& (1023 : Int32))) (p1 := p1) (p2 := p2) (u := (upd ku 1 p2)) (m1 := (upd m1 ((p1 &&& (1023 : Int32)).toNatClampNeg) p2)) (m2 := m2) hx hb hml hown htB hK (fun h9 => h9.elim (fun q => absurd (c_5.symm.trans q) (by decide)) (fun q => absurd (c_5.symm.trans q) (by decide))) (fun H locs ls hP hD hS hl => ?_) 33 0 (by decide) (by decide) _ _ (wi1_0 _ _ _ _).symm (wi2_0 _ _ _ _).symm H _ ls hP hD hS hl
              have hf : f_X_write p1 p2 ku m1 m2 = ((upd ku 1 p2), (wi1 (p1 &&& (1023 : Int32)) (upd ku 1 p2) (upd m1 ((p1 &&& (1023 : Int32)).toNatClampNeg) p2) m2 32), (wi2 (p1 &&& (1023 : Int32)) (upd ku 1 p2) (upd m1 ((p1 &&& (1023 : Int32)).toNatClampNeg) p2) m2 32)) := by rw [f_X_write, if_pos c_1, if_neg c_2, if_neg c_3, if_pos c_4, if_pos c_5, if_pos c_6]
              exact W.vret hx hb hr (fun t ht hW => ⟨⟨(), rfl, trivial, by rw [hf]; exact ⟨by rw [ht]; exact hP, va_K.moved hW.alike hK, hD⟩⟩, hS.F ht⟩) hS.2.2 d_X_write_168
            · refine lv_aload_n hx hb d_X_write_63 rfl (lv_at hl 1 rfl) ?_
              refine lv_iconst (v := 3) hx hb d_X_write_64 (by decide) ?_
              refine va_put (D := (dC, dI)) (ci := 3) (v := .int (3 : Int32)) (ty := .int) (C := R_X) (T := F_X) (N := 13) hx hb htB i_X t_X t_X_ok n_X hown hK hP hD hS 0 rfl rfl 8 (by decide) (htB _ mw_469) (fun _ h9 => h9) rfl (by decide +kernel) rfl rfl (Nat.le_of_ble_eq_true rfl) d_X_write_65 (fun H locs hP hD hS => ?_)
              have hP : va_P (dC, dI) classes [c_X x0 x1 x2 x3 x4 (upd ku 4 (3 : Int32)), c_A x1 c1 1024 (upd m1 ((p1 &&& (1023 : Int32)).toNatClampNeg) p2), c_A x2 c2 256 m2] H := hP
              have hD : va_D A [c_X x0 x1 x2 x3 x4 (upd ku 4 (3 : Int32)), c_A x1 c1 1024 (upd m1 ((p1 &&& (1023 : Int32)).toNatClampNeg) p2), c_A x2 c2 256 m2] := hD
              refine lv_goto (tgt := 76) hx hb d_X_write_68 (by decide) ?_
              refine lv_iconst (v := 0) hx hb d_X_write_76 (by decide) ?_
              refine lv_istore (lv' := [(4, .int (0 : Int32)), (3, .int (p1 &&& (1023 : Int32))), (0, .ref x0), (1, .int p1), (2, .int p2)]) hx hb d_X_write_77 hl (by decide) rfl (fun ls hl => ?_)
              have hl := lv_sub hl [0, 1, 2, 3, 4] rfl
              rw [show (0 : Int32) = nI 0 from rfl] at hl
              refine L_X_write (a := (p1 &&& (1023 : Int32))) (p1 := p1) (p2 := p2) (u := (upd ku 4 (3 : Int32))) (m1 := (upd m1 ((p1 &&& (1023 : Int32)).toNatClampNeg) p2)) (m2 := m2) hx hb hml hown htB hK (fun _ => hxs) (fun H locs ls hP hD hS hl => ?_) 33 0 (by decide) (by decide) _ _ (wi1_0 _ _ _ _).symm (wi2_0 _ _ _ _).symm H _ ls hP hD hS hl
              have hf : f_X_write p1 p2 ku m1 m2 = ((upd ku 4 (3 : Int32)), (wi1 (p1 &&& (1023 : Int32)) (upd ku 4 (3 : Int32)) (upd m1 ((p1 &&& (1023 : Int32)).toNatClampNeg) p2) m2 32), (wi2 (p1 &&& (1023 : Int32)) (upd ku 4 (3 : Int32)) (upd m1 ((p1 &&& (1023 : Int32)).toNatClampNeg) p2) m2 32)) := by rw [f_X_write, if_pos c_1, if_neg c_2, if_neg c_3, if_pos c_4, if_pos c_5, if_neg c_6]
              exact W.vret hx hb hr (fun t ht hW => ⟨⟨(), rfl, trivial, by rw [hf]; exact ⟨by rw [ht]; exact hP, va_K.moved hW.alike hK, hD⟩⟩, hS.F ht⟩) hS.2.2 d_X_write_168
        · refine lv_aload_n hx hb d_X_write_35 rfl (lv_at hl 1 rfl) ?_
          refine lv_iconst (v := 2) hx hb d_X_write_36 (by decide) ?_
          refine va_put (D := (dC, dI)) (ci := 3) (v := .int (2 : Int32)) (ty := .int) (C := R_X) (T := F_X) (N := 13) hx hb htB i_X t_X t_X_ok n_X hown hK hP hD hS 0 rfl rfl 8 (by decide) (htB _ mw_469) (fun _ h9 => h9) rfl (by decide +kernel) rfl rfl (Nat.le_of_ble_eq_true rfl) d_X_write_37 (fun H locs hP hD hS => ?_)
          have hP : va_P (dC, dI) classes [c_X x0 x1 x2 x3 x4 (upd ku 4 (2 : Int32)), c_A x1 c1 1024 m1, c_A x2 c2 256 m2] H := hP
          have hD : va_D A [c_X x0 x1 x2 x3 x4 (upd ku 4 (2 : Int32)), c_A x1 c1 1024 m1, c_A x2 c2 256 m2] := hD
          refine lv_goto (tgt := 50) hx hb d_X_write_40 (by decide) ?_
          refine lv_iload_n hx hb d_X_write_50 rfl (lv_at hl 0 rfl) ?_
          refine lv_sipush (v := 1010) hx hb d_X_write_51 (by decide) ?_
          refine lv_icmp_ne (tgt := 76) hx hb d_X_write_54 (by decide) (fun c_5 => ?_) (fun c_5 => ?_)
          · refine lv_iconst (v := 0) hx hb d_X_write_76 (by decide) ?_
            refine lv_istore (lv' := [(4, .int (0 : Int32)), (3, .int (p1 &&& (1023 : Int32))), (0, .ref x0), (1, .int p1), (2, .int p2)]) hx hb d_X_write_77 hl (by decide) rfl (fun ls hl => ?_)
            have hl := lv_sub hl [0, 1, 2, 3, 4] rfl
            rw [show (0 : Int32) = nI 0 from rfl] at hl
            refine L_X_write (a := (p1 &&& (1023 : Int32))) (p1 := p1) (p2 := p2) (u := (upd ku 4 (2 : Int32))) (m1 := m1) (m2 := m2) hx hb hml hown htB hK (fun _ => hxs) (fun H locs ls hP hD hS hl => ?_) 33 0 (by decide) (by decide) _ _ (wi1_0 _ _ _ _).symm (wi2_0 _ _ _ _).symm H _ ls hP hD hS hl
            have hf : f_X_write p1 p2 ku m1 m2 = ((upd ku 4 (2 : Int32)), (wi1 (p1 &&& (1023 : Int32)) (upd ku 4 (2 : Int32)) m1 m2 32), (wi2 (p1 &&& (1023 : Int32)) (upd ku 4 (2 : Int32)) m1 m2 32)) := by rw [f_X_write, if_pos c_1, if_neg c_2, if_neg c_3, if_neg c_4, if_neg c_5]
            exact W.vret hx hb hr (fun t ht hW => ⟨⟨(), rfl, trivial, by rw [hf]; exact ⟨by rw [ht]; exact hP, va_K.moved hW.alike hK, hD⟩⟩, hS.F ht⟩) hS.2.2 d_X_write_168
          · refine lv_iload_n hx hb d_X_write_57 rfl (lv_at hl 3 rfl) ?_
            refine lv_bipush (v := 7) hx hb d_X_write_58 (by decide) ?_
            refine lv_icmp_le (tgt := 71) hx hb d_X_write_60 (by decide) (fun c_6 => ?_) (fun c_6 => ?_)
            · refine lv_aload_n hx hb d_X_write_71 rfl (lv_at hl 1 rfl) ?_
              refine lv_iload_n hx hb d_X_write_72 rfl (lv_at hl 3 rfl) ?_
              refine va_put (D := (dC, dI)) (ci := 3) (v := .int p2) (ty := .int) (C := R_X) (T := F_X) (N := 13) hx hb htB i_X t_X t_X_ok n_X hown hK hP hD hS 0 rfl rfl 5 (by decide) (htB _ mw_466) (fun _ h9 => h9) rfl (by decide +kernel) rfl rfl (Nat.le_of_ble_eq_true rfl) d_X_write_73 (fun H locs hP hD hS => ?_)
              have hP : va_P (dC, dI) classes [c_X x0 x1 x2 x3 x4 (upd (upd ku 4 (2 : Int32)) 1 p2), c_A x1 c1 1024 m1, c_A x2 c2 256 m2] H := hP
              have hD : va_D A [c_X x0 x1 x2 x3 x4 (upd (upd ku 4 (2 : Int32)) 1 p2), c_A x1 c1 1024 m1, c_A x2 c2 256 m2] := hD
              refine lv_iconst (v := 0) hx hb d_X_write_76 (by decide) ?_
              refine lv_istore (lv' := [(4, .int (0 : Int32)), (3, .int (p1 &&& (1023 : Int32))), (0, .ref x0), (1, .int p1), (2, .int p2)]) hx hb d_X_write_77 hl (by decide) rfl (fun ls hl => ?_)
              have hl := lv_sub hl [0, 1, 2, 3, 4] rfl
              rw [show (0 : Int32) = nI 0 from rfl] at hl
              refine L_X_write (a := (p1 &&& (1023 : Int32))) (p1 := p1) (p2 := p2) (u := (upd (upd ku 4 (2 : Int32)) 1 p2)) (m1 := m1) (m2 := m2) hx hb hml hown htB hK (fun h9 => h9.elim (fun q => absurd (c_5.symm.trans q) (by decide)) (fun q => absurd (c_5.symm.trans q) (by decide))) (fun H locs ls hP hD hS hl => ?_) 33 0 (by decide) (by decide) _ _ (wi1_0 _ _ _ _).symm (wi2_0 _ _ _ _).symm H _ ls hP hD hS hl
              have hf : f_X_write p1 p2 ku m1 m2 = ((upd (upd ku 4 (2 : Int32)) 1 p2), (wi1 (p1 &&& (1023 : Int32)) (upd (upd ku 4 (2 : Int32)) 1 p2) m1 m2 32), (wi2 (p1 &&& (1023 : Int32)) (upd (upd ku 4 (2 : Int32)) 1 p2) m1 m2 32)) := by rw [f_X_write, if_pos c_1, if_neg c_2, if_neg c_3, if_neg c_4, if_pos c_5, if_pos c_6]
              exact W.vret hx hb hr (fun t ht hW => ⟨⟨(), rfl, trivial, by rw [hf]; exact ⟨by rw [ht]; exact hP, va_K.moved hW.alike hK, hD⟩⟩, hS.F ht⟩) hS.2.2 d_X_write_168
            · refine lv_aload_n hx hb d_X_write_63 rfl (lv_at hl 1 rfl) ?_
              refine lv_iconst (v := 3) hx hb d_X_write_64 (by decide) ?_
              refine va_put (D := (dC, dI)) (ci := 3) (v := .int (3 : Int32)) (ty := .int) (C := R_X) (T := F_X) (N := 13) hx hb htB i_X t_X t_X_ok n_X hown hK hP hD hS 0 rfl rfl 8 (by decide) (htB _ mw_469) (fun _ h9 => h9) rfl (by decide +kernel) rfl rfl (Nat.le_of_ble_eq_true rfl) d_X_write_65 (fun H locs hP hD hS => ?_)
              have hP : va_P (dC, dI) classes [c_X x0 x1 x2 x3 x4 (upd (upd ku 4 (2 : Int32)) 4 (3 : Int32)), c_A x1 c1 1024 m1, c_A x2 c2 256 m2] H := hP
              have hD : va_D A [c_X x0 x1 x2 x3 x4 (upd (upd ku 4 (2 : Int32)) 4 (3 : Int32)), c_A x1 c1 1024 m1, c_A x2 c2 256 m2] := hD
              refine lv_goto (tgt := 76) hx hb d_X_write_68 (by decide) ?_
              refine lv_iconst (v := 0) hx hb d_X_write_76 (by decide) ?_
              refine lv_istore (lv' := [(4, .int (0 : Int32)), (3, .int (p1 &&& (1023 : Int32))), (0, .ref x0), (1, .int p1), (2, .int p2)]) hx hb d_X_write_77 hl (by decide) rfl (fun ls hl => ?_)
              have hl := lv_sub hl [0, 1, 2, 3, 4] rfl
              rw [show (0 : Int32) = nI 0 from rfl] at hl
              refine L_X_write (a := (p1 &&& (1023 : Int32))) (p1 := p1) (p2 := p2) (u := (upd (upd ku 4 (2 : Int32)) 4 (3 : Int32))) (m1 := m1) (m2 := m2) hx hb hml hown htB hK (fun _ => hxs) (fun H locs ls hP hD hS hl => ?_) 33 0 (by decide) (by decide) _ _ (wi1_0 _ _ _ _).symm (wi2_0 _ _ _ _).symm H _ ls hP hD hS hl
              have hf : f_X_write p1 p2 ku m1 m2 = ((upd (upd ku 4 (2 : Int32)) 4 (3 : Int32)), (wi1 (p1 &&& (1023 : Int32)) (upd (upd ku 4 (2 : Int32)) 4 (3 : Int32)) m1 m2 32), (wi2 (p1 &&& (1023 : Int32)) (upd (upd ku 4 (2 : Int32)) 4 (3 : Int32)) m1 m2 32)) := by rw [f_X_write, if_pos c_1, if_neg c_2, if_neg c_3, if_neg c_4, if_pos c_5, if_neg c_6]
              exact W.vret hx hb hr (fun t ht hW => ⟨⟨(), rfl, trivial, by rw [hf]; exact ⟨by rw [ht]; exact hP, va_K.moved hW.alike hK, hD⟩⟩, hS.F ht⟩) hS.2.2 d_X_write_168
  · have hf : f_X_write p1 p2 ku m1 m2 = (ku, m1, m2) := by rw [f_X_write, if_neg c_1]
    exact W.vret hx hb hr (fun t ht hW => ⟨⟨(), rfl, trivial, by rw [hf]; exact ⟨by rw [ht]; exact hP, va_K.moved hW.alike hK, hD⟩⟩, hS.F ht⟩) hS.2.2 d_X_write_13

theorem xs_lt {ku : Nat → Int32} {v : Int32} (h0 : ¬ v < 0) (h : v ≤ (7 : Int32)) : xs_ok (upd ku 1 v) := by
  obtain ⟨j, hj, e⟩ := nI_of2 (M := 7) (n := 7) (by decide) h0 h
  exact ⟨j, by omega, e⟩
theorem xs_write {p1 p2 : Int32} {ku m1 m2 : Nat → Int32} (hv : ¬ p2 < 0) (h : xs_ok ku) : xs_ok (f_X_write p1 p2 ku m1 m2).1 := by
  unfold f_X_write
  repeat' split
  all_goals first | exact h | exact xs_lt hv (by assumption)
theorem and_div_nn (x : Int32) : ¬ ((x &&& (1023 : Int32)) / (256 : Int32)) < 0 := by
  rw [pk_and x (m := 1023) 10 (by decide), show (256 : Int32) = nI 256 from rfl, pk_div (by omega) (by decide) (by decide)]
  exact nI_pos (by omega)

def f_X_push_k1 (p1 : Int32) (ku m1 m2 m3 : Nat → Int32) (z1 : (Nat → Int32) × (Nat → Int32) × (Nat → Int32)) : (Nat → Int32) × (Nat → Int32) × (Nat → Int32) × (Nat → Int32) :=
  (z1.1, z1.2.1, z1.2.2, (upd m3 3 (((m3 3) - (1 : Int32)) &&& (255 : Int32))))
def f_X_push (p1 : Int32) (ku m1 m2 m3 : Nat → Int32) : (Nat → Int32) × (Nat → Int32) × (Nat → Int32) × (Nat → Int32) :=
  f_X_push_k1 p1 ku m1 m2 m3 (f_X_write ((256 : Int32) + (m3 3)) p1 ku m1 m2)
abbrev Q_X_push (dC : Nat → ClassId) (dI : Nat → Nat → Nat) (x0 : Nat) (x1 : Nat) (x2 : Nat) (x3 : Nat) (x4 : Nat) (c1 : ClassId) (c2 : ClassId) (c3 : ClassId) (p1 : Int32) (ku m1 m2 m3 : Nat → Int32) (A : Nat → Prop) : Array Value → State → Outcome → State → Prop := va_Qv (fun (_ : Unit) => True) (fun _ t => atW (dC, dI) classes A [c_X x0 x1 x2 x3 x4 ((f_X_push p1 ku m1 m2 m3).1), c_A x1 c1 1024 ((f_X_push p1 ku m1 m2 m3).2.1), c_A x2 c2 256 ((f_X_push p1 ku m1 m2 m3).2.2.1), c_A x3 c3 9 ((f_X_push p1 ku m1 m2 m3).2.2.2)] [(c1, .int), (c2, .int), (c3, .int)] t) A
set_option maxHeartbeats 4000000 in
set_option maxRecDepth 100000 in
theorem c_X_push (l : Launch) (dC : Nat → ClassId) (dI : Nat → Nat → Nat) (z0 : Nat) (x0 : Nat) (x1 : Nat) (x2 : Nat) (x3 : Nat) (x4 : Nat) (c1 : ClassId) (c2 : ClassId) (c3 : ClassId) (sz : Nat) (p1 : Int32) (ku m1 m2 m3 : Nat → Int32) (hxs : xs_ok ku) : Met l y_X_push w_X_push ({ frames := 1, cells := 0, slots := 0, locals := 24 }) (PcX (dC, dI) classes z0 [c_X x0 x1 x2 x3 x4 ku, c_A x1 c1 1024 m1, c_A x2 c2 256 m2, c_A x3 c3 9 m3] [(c1, .int), (c2, .int), (c3, .int)] sz [.ref x0, .int p1]) (Q_X_push dC dI x0 x1 x2 x3 x4 c1 c2 c3 p1 ku m1 m2 m3 (va_A [c_X x0 x1 x2 x3 x4 ku, c_A x1 c1 1024 m1, c_A x2 c2 256 m2, c_A x3 c3 9 m3] sz)) 0 0 (va_A [c_X x0 x1 x2 x3 x4 ku, c_A x1 c1 1024 m1, c_A x2 c2 256 m2, c_A x3 c3 9 m3] sz) := by
  refine hdX (cc := b_X_push) (maxL := 2) (ret := none) (C := R_X) (Qc := (Q_X_push dC dI x0 x1 x2 x3 x4 c1 c2 c3 p1 ku m1 m2 m3)) (by decide) rfl ?_
  intro p e s m below meth c A H hx hb hr hlocks hml hown hin htB hP hK hD hA hA0 hE hS
  have hl := lv_entry ([.ref x0, .int p1]) (n := 2) (Nat.le_of_ble_eq_true rfl)
  rw [lg_entry_eq]
  generalize (lg_sl ([.ref x0, .int p1]) ++ List.replicate (2 - (lg_sl ([.ref x0, .int p1])).length) Slot.unset).toArray = ls at hl ⊢
  have hl : lv_has ls 2 [(0, .ref x0), (1, .int p1)] := hl
  refine lv_aload_n hx hb d_X_push_0 rfl (lv_at hl 0 rfl) ?_
  refine lv_sipush (v := 256) hx hb d_X_push_1 (by decide) ?_
  refine lv_aload_n hx hb d_X_push_4 rfl (lv_at hl 0 rfl) ?_
  refine va_get (D := (dC, dI)) (ci := 3) (v := .ref x3) (C := R_X) (T := F_X) (N := 13) hx hb htB i_X hown hK hP 0 rfl rfl 2 (by decide) (htB _ mw_463) (fun _ h9 => h9) rfl d_X_push_5 ?_
  refine lv_iconst (v := 3) hx hb d_X_push_8 (by decide) ?_
  refine iald_at hx hb hK hP 3 2 rfl rfl (show ¬ ((3 : Int32) < 0 ∨ 9 ≤ (3 : Int32).toNatClampNeg) from by decide) (show (3 : Int32).toNatClampNeg = 3 from by decide) d_X_push_9 ?_
  refine lv_iadd hx hb d_X_push_10 ?_
  refine lv_iload_n hx hb d_X_push_11 rfl (lv_at hl 1 rfl) ?_
  have hPc := hP.sub (ws' := [c_X x0 x1 x2 x3 x4 ku, c_A x1 c1 1024 m1, c_A x2 c2 256 m2]) [0, 1, 2] rfl
  have hDc := hD.sub (ws' := [c_X x0 x1 x2 x3 x4 ku, c_A x1 c1 1024 m1, c_A x2 c2 256 m2]) [0, 1, 2] (by decide) rfl
  have hKc := hK.sub (tys' := [(c1, .int), (c2, .int)]) [0, 1] rfl
  have hFc := va_free (wc := [c_X x0 x1 x2 x3 x4 ku, c_A x1 c1 1024 m1, c_A x2 c2 256 m2]) hD hS hA [0, 1, 2] rfl
  refine va_callv (va_runV (As := [.int ((256 : Int32) + (m3 3)), .int p1]) (rest := []) ⟨hx, hb, hml, hown, htB⟩ (c_X_write l dC dI z0 x0 x1 x2 x3 x4 c1 c2 H.size ((256 : Int32) + (m3 3)) p1 ku m1 m2 hxs) (cwV 2 htB (gd_V mw_579 mw_581 sw_X_write mw_4 mw_582) rfl rfl rfl (by decide +kernel) ⟨Nat.le_of_ble_eq_true rfl, Nat.le_of_ble_eq_true rfl⟩) (pcx_V (va_recv hKc hPc (ci := 3) (q0 := 0) rfl rfl) hPc hKc hDc hA0 hE hS) rfl rfl hl.1 rfl (lv_room (Nat.le_of_ble_eq_true rfl)) d_X_push_12 ⟨Nat.zero_le _, Nat.zero_le _⟩) hS (fun q _ h => hFc q h) hFc (fun u t H1 locs ht hvm hw hB hz1 hk1 hS => ?_)
  obtain ⟨hP1, hK1, hD1⟩ := hB
  rw [ht] at hP1
  obtain ⟨hP, hD⟩ := va_join (wr := [c_A x3 c3 9 m3]) (w1 := [c_X x0 x1 x2 x3 x4 ((f_X_write ((256 : Int32) + (m3 3)) p1 ku m1 m2).1), c_A x1 c1 1024 ((f_X_write ((256 : Int32) + (m3 3)) p1 ku m1 m2).2.1), c_A x2 c2 256 ((f_X_write ((256 : Int32) + (m3 3)) p1 ku m1 m2).2.2)]) hP hD [0, 1, 2] [3] rfl rfl (by decide) (by decide) hk1 hFc hP1 hD1
  generalize H1 = H at hP hS ⊢
  have hP : va_P (dC, dI) classes [c_X x0 x1 x2 x3 x4 ((f_X_write ((256 : Int32) + (m3 3)) p1 ku m1 m2).1), c_A x1 c1 1024 ((f_X_write ((256 : Int32) + (m3 3)) p1 ku m1 m2).2.1), c_A x2 c2 256 ((f_X_write ((256 : Int32) + (m3 3)) p1 ku m1 m2).2.2), c_A x3 c3 9 m3] H := hP.sub [1, 2, 3, 0] rfl
  have hD : va_D A [c_X x0 x1 x2 x3 x4 ((f_X_write ((256 : Int32) + (m3 3)) p1 ku m1 m2).1), c_A x1 c1 1024 ((f_X_write ((256 : Int32) + (m3 3)) p1 ku m1 m2).2.1), c_A x2 c2 256 ((f_X_write ((256 : Int32) + (m3 3)) p1 ku m1 m2).2.2), c_A x3 c3 9 m3] := hD.sub [1, 2, 3, 0] (by decide) rfl
  obtain ⟨z1, ez1⟩ : ∃ z, z = (f_X_write ((256 : Int32) + (m3 3)) p1 ku m1 m2) := ⟨_, rfl⟩
  rw [← ez1] at hP hD
  refine lv_aload_n hx hb d_X_push_15 rfl (lv_at hl 0 rfl) ?_
  refine va_get (D := (dC, dI)) (ci := 3) (v := .ref x3) (C := R_X) (T := F_X) (N := 13) hx hb htB i_X hown hK hP 0 rfl rfl 2 (by decide) (htB _ mw_463) (fun _ h9 => h9) rfl d_X_push_16 ?_
  refine lv_iconst (v := 3) hx hb d_X_push_19 (by decide) ?_
  refine lv_aload_n hx hb d_X_push_20 rfl (lv_at hl 0 rfl) ?_
  refine va_get (D := (dC, dI)) (ci := 3) (v := .ref x3) (C := R_X) (T := F_X) (N := 13) hx hb htB i_X hown hK hP 0 rfl rfl 2 (by decide) (htB _ mw_463) (fun _ h9 => h9) rfl d_X_push_21 ?_
  refine lv_iconst (v := 3) hx hb d_X_push_24 (by decide) ?_
  refine iald_at hx hb hK hP 3 2 rfl rfl (show ¬ ((3 : Int32) < 0 ∨ 9 ≤ (3 : Int32).toNatClampNeg) from by decide) (show (3 : Int32).toNatClampNeg = 3 from by decide) d_X_push_25 ?_
  refine lv_iconst (v := 1) hx hb d_X_push_26 (by decide) ?_
  refine lv_isub hx hb d_X_push_27 ?_
  refine lv_sipush (v := 255) hx hb d_X_push_28 (by decide) ?_
  refine lv_iand hx hb d_X_push_31 ?_
  refine iast_at hx hb hK hP hD hS 3 2 rfl rfl (show ¬ ((3 : Int32) < 0 ∨ 9 ≤ (3 : Int32).toNatClampNeg) from by decide) (show (3 : Int32).toNatClampNeg = 3 from by decide) d_X_push_32 (fun H locs hP hD hS => ?_)
  have hP : va_P (dC, dI) classes [c_X x0 x1 x2 x3 x4 z1.1, c_A x1 c1 1024 z1.2.1, c_A x2 c2 256 z1.2.2, c_A x3 c3 9 (upd m3 3 (((m3 3) - (1 : Int32)) &&& (255 : Int32)))] H := hP
  have hD : va_D A [c_X x0 x1 x2 x3 x4 z1.1, c_A x1 c1 1024 z1.2.1, c_A x2 c2 256 z1.2.2, c_A x3 c3 9 (upd m3 3 (((m3 3) - (1 : Int32)) &&& (255 : Int32)))] := hD
  have hf : f_X_push p1 ku m1 m2 m3 = (z1.1, z1.2.1, z1.2.2, (upd m3 3 (((m3 3) - (1 : Int32)) &&& (255 : Int32)))) := by rw [f_X_push, ← ez1, f_X_push_k1]
  exact W.vret hx hb hr (fun t ht hW => ⟨⟨(), rfl, trivial, by rw [hf]; exact ⟨by rw [ht]; exact hP, va_K.moved hW.alike hK, hD⟩⟩, hS.F ht⟩) hS.2.2 d_X_push_33

theorem xs_push {p1 : Int32} {ku m1 m2 m3 : Nat → Int32} (hv : ¬ p1 < 0) (h : xs_ok ku) : xs_ok (f_X_push p1 ku m1 m2 m3).1 := xs_write hv h
