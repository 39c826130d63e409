/-- places ix 0, ix 1, .. get v 0, v 1, .. -/
def spr (ix : Nat → Nat) (v : Nat → Int32) : Nat → (Nat → Int32) → (Nat → Int32)
  | 0, f => f
  | j + 1, f => upd (spr ix v j f) (ix j) (v j)
set_option maxHeartbeats 4000000 in
set_option maxRecDepth 100000 in
theorem L_S_spread {p : Program} {l : Launch} {e : Env} {R : Room} {s : State} {m : MethodId} {args : Array Value} {below : List Frame} {meth : Method} {c : Code} {Q : State → Prop} {dC : Nat → ClassId} {dI : Nat → Nat → Nat} {A : Nat → Prop} {H0 : Heap} {cells slots : Nat} {qa : Nat} {cX : ClassId} {nX : Nat} (hx : p.tables.exec = Jvm.exec) (hb : c.code = b_S_spread) (hml : c.maxLocals = 6) (hown : s.vm.findClass R_S = some m.cls) (htB : ∀ w ∈ BIG, w.before args s = true) (hK : va_K (dC, dI) classes [(cX, .int)] s) {p2 : Int32} {p3 : Int64} {p4 : Int32} {F : Nat → Int32} (hN : p4 = nI p4.toNatClampNeg) (hN2 : p4.toNatClampNeg < 2 ^ 30) (hin9 : ∀ j : Nat, j < p4.toNatClampNeg → vp_in (p2 + (nI j)) nX)
    (K : ∀ (H : Heap) (locs : List Loc) (ls : Array Slot), va_P (dC, dI) classes [c_A qa cX nX (spr (fun j : Nat => (p2 + (nI j)).toNatClampNeg) (fun j : Nat => ((((p3.toUInt64 >>> (((8 : Int32) * ((p4 - (1 : Int32)) - (nI j))).toInt64.toUInt64 &&& Int64.toUInt64 63)).toInt64).toInt32) &&& (255 : Int32))) p4.toNatClampNeg F)] H → va_D A [c_A qa cX nX (spr (fun j : Nat => (p2 + (nI j)).toNatClampNeg) (fun j : Nat => ((((p3.toUInt64 >>> (((8 : Int32) * ((p4 - (1 : Int32)) - (nI j))).toInt64.toUInt64 &&& Int64.toUInt64 63)).toInt64).toInt32) &&& (255 : Int32))) p4.toNatClampNeg F)] → va_S A H0 H locs → lv_has ls 6 [(0, .ref qa), (1, .int p2), (2, .long p3), (4, .int p4)] → W p l e R s m args below meth c H locs cells slots Q (F0 m 39 ls [])) :
    ∀ (n j : Nat), j ≤ p4.toNatClampNeg → p4.toNatClampNeg + 1 ≤ j + n → ∀ (y9 : Nat → Int32), y9 = spr (fun j : Nat => (p2 + (nI j)).toNatClampNeg) (fun j : Nat => ((((p3.toUInt64 >>> (((8 : Int32) * ((p4 - (1 : Int32)) - (nI j))).toInt64.toUInt64 &&& Int64.toUInt64 63)).toInt64).toInt32) &&& (255 : Int32))) j F → ∀ (H : Heap) (locs : List Loc) (ls : Array Slot), va_P (dC, dI) classes [c_A qa cX nX y9] H → va_D A [c_A qa cX nX y9] → va_S A H0 H locs → lv_has ls 6 [(5, .int (nI j)), (0, .ref qa), (1, .int p2), (2, .long p3), (4, .int p4)] → W p l e R s m args below meth c H locs cells slots Q (F0 m 3 ls []) := by
  intro n
  induction n with
  | zero =>
    intro j h1 h2
    exact absurd h2 (by omega)
  | succ n ih =>
    intro j hj hjn y9 e1 H locs ls hP hD hS hl
    refine lv_iload hx hb d_S_spread_3 (lv_at hl 0 rfl) ?_
    refine lv_iload hx hb d_S_spread_5 (lv_at hl 4 rfl) ?_
    refine lv_icmp_ge (tgt := 39) hx hb d_S_spread_7 (by decide) (fun c_1 => ?_) (fun c_1 => ?_)
    · have hjN : j = p4.toNatClampNeg := by
        rcases Nat.lt_or_ge j p4.toNatClampNeg with q | q
        · exact absurd (hN ▸ c_1) (nI_ge q (by omega))
        · exact Nat.le_antisymm hj q
      rw [hjN] at e1
      subst e1
      exact K H _ ls hP hD hS (lv_sub hl [1, 2, 3, 4] rfl)
    · refine lv_aload_n hx hb d_S_spread_10 rfl (lv_at hl 1 rfl) ?_
      refine lv_iload_n hx hb d_S_spread_11 rfl (lv_at hl 2 rfl) ?_
      refine lv_iload hx hb d_S_spread_12 (lv_at hl 0 rfl) ?_
      refine lv_iadd hx hb d_S_spread_14 ?_
      refine lv_lload_n hx hb d_S_spread_15 rfl (lv_at hl 3 rfl) ?_
      refine lv_bipush (v := 8) hx hb d_S_spread_16 (by decide) ?_
      refine lv_iload hx hb d_S_spread_18 (lv_at hl 4 rfl) ?_
      refine lv_iconst (v := 1) hx hb d_S_spread_20 (by decide) ?_
      refine lv_isub hx hb d_S_spread_21 ?_
      refine lv_iload hx hb d_S_spread_22 (lv_at hl 0 rfl) ?_
      refine lv_isub hx hb d_S_spread_24 ?_
      refine lv_imul hx hb d_S_spread_25 ?_
      refine lv_lushr hx hb d_S_spread_26 rfl ?_
      refine lv_l2i hx hb d_S_spread_27 rfl ?_
      refine lv_sipush (v := 255) hx hb d_S_spread_28 (by decide) ?_
      refine lv_iand hx hb d_S_spread_31 ?_
      refine va_iast hx hb hK hP hD hS 0 0 rfl rfl (hin9 j (lt_ofN hN c_1 hj hN2)) d_S_spread_32 (fun H locs hP hD hS => ?_)
      have hP : va_P (dC, dI) classes [c_A qa cX nX (upd y9 ((p2 + (nI j)).toNatClampNeg) ((((p3.toUInt64 >>> (((8 : Int32) * ((p4 - (1 : Int32)) - (nI j))).toInt64.toUInt64 &&& Int64.toUInt64 63)).toInt64).toInt32) &&& (255 : Int32)))] H := hP
      have hD : va_D A [c_A qa cX nX (upd y9 ((p2 + (nI j)).toNatClampNeg) ((((p3.toUInt64 >>> (((8 : Int32) * ((p4 - (1 : Int32)) - (nI j))).toInt64.toUInt64 &&& Int64.toUInt64 63)).toInt64).toInt32) &&& (255 : Int32)))] := hD
      refine lv_iinc (v := ((nI j) + Int32.ofInt 1)) (lv' := [(5, .int ((nI j) + Int32.ofInt 1)), (0, .ref qa), (1, .int p2), (2, .long p3), (4, .int p4)]) hx hb d_S_spread_33 hl (k := 0) rfl rfl (by decide) rfl (fun ls hl => ?_)
      refine lv_goto (tgt := 3) hx hb d_S_spread_36 (by decide) ?_
      have e9 : nI j + Int32.ofInt 1 = nI (j + 1) := nI_1 j
      rw [e9] at hl
      have hjl := lt_ofN hN c_1 hj hN2
      exact ih (j + 1) hjl (by omega) _ (by rw [e1]; rfl) H _ ls hP hD hS (lv_sub hl [0, 1, 2, 3, 4] rfl)
def f_S_spread (p2 : Int32) (p3 : Int64) (p4 : Int32) (F : Nat → Int32) : (Nat → Int32) :=
  (spr (fun j : Nat => (p2 + (nI j)).toNatClampNeg) (fun j : Nat => ((((p3.toUInt64 >>> (((8 : Int32) * ((p4 - (1 : Int32)) - (nI j))).toInt64.toUInt64 &&& Int64.toUInt64 63)).toInt64).toInt32) &&& (255 : Int32))) p4.toNatClampNeg F)
abbrev Q_S_spread (dC : Nat → ClassId) (dI : Nat → Nat → Nat) (qa : Nat) (cX : ClassId) (nX : Nat) (p2 : Int32) (p3 : Int64) (p4 : Int32) (F : Nat → Int32) (A : Nat → Prop) : Array Value → State → Outcome → State → Prop := va_Qv (fun (_ : Unit) => True) (fun _ t => atW (dC, dI) classes A [c_A qa cX nX (f_S_spread p2 p3 p4 F)] [(cX, .int)] t) A
set_option maxHeartbeats 4000000 in
set_option maxRecDepth 100000 in
theorem c_S_spread (l : Launch) (dC : Nat → ClassId) (dI : Nat → Nat → Nat) (z0 : Nat) (qa : Nat) (cX : ClassId) (nX : Nat) (sz : Nat) (p2 : Int32) (p3 : Int64) (p4 : Int32) (F : Nat → Int32) (hN : p4 = nI p4.toNatClampNeg) (hN2 : p4.toNatClampNeg < 2 ^ 30) (hin9 : ∀ j : Nat, j < p4.toNatClampNeg → vp_in (p2 + nI j) nX) : Met l y_S_spread w_S_spread ({ frames := 0, cells := 0, slots := 0, locals := 0 }) (PcX (dC, dI) classes z0 [c_A qa cX nX F] [(cX, .int)] sz [.ref qa, .int p2, .long p3, .int p4]) (Q_S_spread dC dI qa cX nX p2 p3 p4 F (va_A [c_A qa cX nX F] sz)) 0 0 (va_A [c_A qa cX nX F] sz) := by
  refine hdX (cc := b_S_spread) (maxL := 6) (ret := none) (C := R_S) (Qc := (Q_S_spread dC dI qa cX nX p2 p3 p4 F)) (by decide) rfl ?_
  intro p e s m below meth c A H hx hb hr hlocks hml hown hin htB hP hK hD hA hA0 hE hS
  have hl := lv_entry ([.ref qa, .int p2, .long p3, .int p4]) (n := 6) (Nat.le_of_ble_eq_true rfl)
  rw [lg_entry_eq]
  generalize (lg_sl ([.ref qa, .int p2, .long p3, .int p4]) ++ List.replicate (6 - (lg_sl ([.ref qa, .int p2, .long p3, .int p4])).length) Slot.unset).toArray = ls at hl ⊢
  have hl : lv_has ls 6 [(0, .ref qa), (1, .int p2), (2, .long p3), (4, .int p4)] := hl
  refine lv_iconst (v := 0) hx hb d_S_spread_0 (by decide) ?_
  refine lv_istore (lv' := [(5, .int (0 : Int32)), (0, .ref qa), (1, .int p2), (2, .long p3), (4, .int p4)]) hx hb d_S_spread_1 hl (by decide) rfl (fun ls hl => ?_)
  have hl := lv_sub hl [0, 1, 2, 3, 4] rfl
  rw [show (0 : Int32) = nI 0 from rfl] at hl
  refine L_S_spread (F := F) hx hb hml hown htB hK hN hN2 hin9 (fun H locs ls hP hD hS hl => ?_) (p4.toNatClampNeg + 1) 0 (Nat.zero_le _) (by omega) _ rfl H _ ls hP hD hS hl
  have hf : f_S_spread p2 p3 p4 F = (spr (fun j : Nat => (p2 + (nI j)).toNatClampNeg) (fun j : Nat => ((((p3.toUInt64 >>> (((8 : Int32) * ((p4 - (1 : Int32)) - (nI j))).toInt64.toUInt64 &&& Int64.toUInt64 63)).toInt64).toInt32) &&& (255 : Int32))) p4.toNatClampNeg F) := by rw [f_S_spread]
  exact W.vret hx hb hr (fun t ht hW => ⟨⟨(), rfl, trivial, by rw [hf]; exact ⟨by rw [ht]; exact hP, va_K.moved hW.alike hK, hD⟩⟩, hS.F ht⟩) hS.2.2 d_S_spread_39

set_option maxHeartbeats 4000000 in
set_option maxRecDepth 100000 in
theorem L_X_load {p : Program} {l : Launch} {e : Env} {R : Room} {s : State} {m : MethodId} {args : Array Value} {below : List Frame} {meth : Method} {c : Code} {Q : State → Prop} {dC : Nat → ClassId} {dI : Nat → Nat → Nat} {A : Nat → Prop} {H0 : Heap} {cells slots : Nat} {x0 : Nat} {x1 : Nat} {x2 : Nat} {x3 : Nat} {x4 : Nat} {c1 : ClassId} (hx : p.tables.exec = Jvm.exec) (hb : c.code = b_X_load) (hml : c.maxLocals = 6) (hown : s.vm.findClass R_X = some m.cls) (htB : ∀ w ∈ BIG, w.before args s = true) (hK : va_K (dC, dI) classes [(c1, .int)] s) {p1 : Int32} {p2 : Int64} {p3 : Int32} {ku m1 : Nat → Int32} (hN : p3 = nI p3.toNatClampNeg) (hN2 : p3.toNatClampNeg < 2 ^ 30) (hin9 : ∀ j : Nat, j < p3.toNatClampNeg → vp_in (p1 + (nI j)) 1024)
    (K : ∀ (H : Heap) (locs : List Loc) (ls : Array Slot), va_P (dC, dI) classes [c_X x0 x1 x2 x3 x4 ku, c_A x1 c1 1024 (spr (fun j : Nat => (p1 + (nI j)).toNatClampNeg) (fun j : Nat => (((p2 >>> (((8 : Int32) * ((p3 - (1 : Int32)) - (nI j))).toInt64 &&& 63)).toInt32) &&& (255 : Int32))) p3.toNatClampNeg m1)] H → va_D A [c_X x0 x1 x2 x3 x4 ku, c_A x1 c1 1024 (spr (fun j : Nat => (p1 + (nI j)).toNatClampNeg) (fun j : Nat => (((p2 >>> (((8 : Int32) * ((p3 - (1 : Int32)) - (nI j))).toInt64 &&& 63)).toInt32) &&& (255 : Int32))) p3.toNatClampNeg m1)] → va_S A H0 H locs → lv_has ls 6 [(0, .ref x0), (1, .int p1), (2, .long p2), (4, .int p3)] → W p l e R s m args below meth c H locs cells slots Q (F0 m 89 ls [])) :
    ∀ (n j : Nat), j ≤ p3.toNatClampNeg → p3.toNatClampNeg + 1 ≤ j + n → ∀ (y9 : Nat → Int32), y9 = spr (fun j : Nat => (p1 + (nI j)).toNatClampNeg) (fun j : Nat => (((p2 >>> (((8 : Int32) * ((p3 - (1 : Int32)) - (nI j))).toInt64 &&& 63)).toInt32) &&& (255 : Int32))) j m1 → ∀ (H : Heap) (locs : List Loc) (ls : Array Slot), va_P (dC, dI) classes [c_X x0 x1 x2 x3 x4 ku, c_A x1 c1 1024 y9] H → va_D A [c_X x0 x1 x2 x3 x4 ku, c_A x1 c1 1024 y9] → va_S A H0 H locs → lv_has ls 6 [(5, .int (nI j)), (0, .ref x0), (1, .int p1), (2, .long p2), (4, .int p3)] → W p l e R s m args below meth c H locs cells slots Q (F0 m 50 ls []) := by
  intro n
  induction n with
  | zero =>
    intro j h1 h2
    exact absurd h2 (by omega)
  | succ n ih =>
    intro j hj hjn y9 e1 H locs ls hP hD hS hl
    refine lv_iload hx hb d_X_load_50 (lv_at hl 0 rfl) ?_
    refine lv_iload hx hb d_X_load_52 (lv_at hl 4 rfl) ?_
    refine lv_icmp_ge (tgt := 89) hx hb d_X_load_54 (by decide) (fun c_1 => ?_) (fun c_1 => ?_)
    · have hjN : j = p3.toNatClampNeg := by
        rcases Nat.lt_or_ge j p3.toNatClampNeg with q | q
        · exact absurd (hN ▸ c_1) (nI_ge q (by omega))
        · exact Nat.le_antisymm hj q
      rw [hjN] at e1
      subst e1
      exact K H _ ls hP hD hS (lv_sub hl [1, 2, 3, 4] rfl)
    · refine lv_aload_n hx hb d_X_load_57 rfl (lv_at hl 1 rfl) ?_
      refine va_get (D := (dC, dI)) (ci := 3) (v := .ref x1) (C := R_X) (T := F_X) (N := 13) hx hb htB i_X hown hK hP 0 rfl rfl 0 (by decide) (htB _ mw_461) (fun _ h9 => h9) rfl d_X_load_58 ?_
      refine lv_iload_n hx hb d_X_load_61 rfl (lv_at hl 2 rfl) ?_
      refine lv_iload hx hb d_X_load_62 (lv_at hl 0 rfl) ?_
      refine lv_iadd hx hb d_X_load_64 ?_
      refine lv_lload_n hx hb d_X_load_65 rfl (lv_at hl 3 rfl) ?_
      refine lv_bipush (v := 8) hx hb d_X_load_66 (by decide) ?_
      refine lv_iload hx hb d_X_load_68 (lv_at hl 4 rfl) ?_
      refine lv_iconst (v := 1) hx hb d_X_load_70 (by decide) ?_
      refine lv_isub hx hb d_X_load_71 ?_
      refine lv_iload hx hb d_X_load_72 (lv_at hl 0 rfl) ?_
      refine lv_isub hx hb d_X_load_74 ?_
      refine lv_imul hx hb d_X_load_75 ?_
      refine lv_lshr hx hb d_X_load_76 rfl ?_
      refine lv_l2i hx hb d_X_load_77 rfl ?_
      refine lv_sipush (v := 255) hx hb d_X_load_78 (by decide) ?_
      refine lv_iand hx hb d_X_load_81 ?_
      refine va_iast hx hb hK hP hD hS 1 0 rfl rfl (hin9 j (lt_ofN hN c_1 hj hN2)) d_X_load_82 (fun H locs hP hD hS => ?_)
      have hP : va_P (dC, dI) classes [c_X x0 x1 x2 x3 x4 ku, c_A x1 c1 1024 (upd y9 ((p1 + (nI j)).toNatClampNeg) (((p2 >>> (((8 : Int32) * ((p3 - (1 : Int32)) - (nI j))).toInt64 &&& 63)).toInt32) &&& (255 : Int32)))] H := hP
      have hD : va_D A [c_X x0 x1 x2 x3 x4 ku, c_A x1 c1 1024 (upd y9 ((p1 + (nI j)).toNatClampNeg) (((p2 >>> (((8 : Int32) * ((p3 - (1 : Int32)) - (nI j))).toInt64 &&& 63)).toInt32) &&& (255 : Int32)))] := hD
      refine lv_iinc (v := ((nI j) + Int32.ofInt 1)) (lv' := [(5, .int ((nI j) + Int32.ofInt 1)), (0, .ref x0), (1, .int p1), (2, .long p2), (4, .int p3)]) hx hb d_X_load_83 hl (k := 0) rfl rfl (by decide) rfl (fun ls hl => ?_)
      refine lv_goto (tgt := 50) hx hb d_X_load_86 (by decide) ?_
      have e9 : nI j + Int32.ofInt 1 = nI (j + 1) := nI_1 j
      rw [e9] at hl
      have hjl := lt_ofN hN c_1 hj hN2
      exact ih (j + 1) hjl (by omega) _ (by rw [e1]; rfl) H _ ls hP hD hS (lv_sub hl [0, 1, 2, 3, 4] rfl)
def f_X_load (p1 : Int32) (p2 : Int64) (p3 : Int32) (ku m1 : Nat → Int32) : Int32 × (Nat → Int32) × (Nat → Int32) :=
  if (f_X_in p1 (0 : Int32) (1007 : Int32)) = (0 : Int32) then
    ((0 : Int32), (f_X_good (0 : Int32) (1 : Int32) ku).2, m1)
  else
    if (f_X_in p3 (1 : Int32) (8 : Int32)) = (0 : Int32) then
      ((0 : Int32), (f_X_good (0 : Int32) (1 : Int32) ku).2, m1)
    else
      if (1008 : Int32) < (p1 + p3) then
        ((0 : Int32), (f_X_good (0 : Int32) (1 : Int32) ku).2, m1)
      else
        ((p1 + p3), (f_X_good (1 : Int32) (1 : Int32) ku).2, (spr (fun j : Nat => (p1 + (nI j)).toNatClampNeg) (fun j : Nat => (((p2 >>> (((8 : Int32) * ((p3 - (1 : Int32)) - (nI j))).toInt64 &&& 63)).toInt32) &&& (255 : Int32))) p3.toNatClampNeg m1))
abbrev Q_X_load (dC : Nat → ClassId) (dI : Nat → Nat → Nat) (x0 : Nat) (x1 : Nat) (x2 : Nat) (x3 : Nat) (x4 : Nat) (c1 : ClassId) (p1 : Int32) (p2 : Int64) (p3 : Int32) (ku m1 : Nat → Int32) (A : Nat → Prop) : Array Value → State → Outcome → State → Prop := va_Qi (fun (r9 : Int32) (_ : Unit) => r9 = (f_X_load p1 p2 p3 ku m1).1) (fun _ t => atW (dC, dI) classes A [c_X x0 x1 x2 x3 x4 ((f_X_load p1 p2 p3 ku m1).2.1), c_A x1 c1 1024 ((f_X_load p1 p2 p3 ku m1).2.2)] [(c1, .int)] t) A
set_option maxHeartbeats 4000000 in
set_option maxRecDepth 100000 in
theorem c_X_load (l : Launch) (dC : Nat → ClassId) (dI : Nat → Nat → Nat) (z0 : Nat) (x0 : Nat) (x1 : Nat) (x2 : Nat) (x3 : Nat) (x4 : Nat) (c1 : ClassId) (sz : Nat) (p1 : Int32) (p2 : Int64) (p3 : Int32) (ku m1 : Nat → Int32)  : Met l y_X_load w_X_load ({ frames := 1, cells := 0, slots := 0, locals := 22 }) (PcX (dC, dI) classes z0 [c_X x0 x1 x2 x3 x4 ku, c_A x1 c1 1024 m1] [(c1, .int)] sz [.ref x0, .int p1, .long p2, .int p3]) (Q_X_load dC dI x0 x1 x2 x3 x4 c1 p1 p2 p3 ku m1 (va_A [c_X x0 x1 x2 x3 x4 ku, c_A x1 c1 1024 m1] sz)) 0 0 (va_A [c_X x0 x1 x2 x3 x4 ku, c_A x1 c1 1024 m1] sz) := by
  refine hdX (cc := b_X_load) (maxL := 6) (ret := (some .int)) (C := R_X) (Qc := (Q_X_load dC dI x0 x1 x2 x3 x4 c1 p1 p2 p3 ku m1)) (by decide) rfl ?_
  intro p e s m below meth c A H hx hb hr hlocks hml hown hin htB hP hK hD hA hA0 hE hS
  have hl := lv_entry ([.ref x0, .int p1, .long p2, .int p3]) (n := 6) (Nat.le_of_ble_eq_true rfl)
  rw [lg_entry_eq]
  generalize (lg_sl ([.ref x0, .int p1, .long p2, .int p3]) ++ List.replicate (6 - (lg_sl ([.ref x0, .int p1, .long p2, .int p3])).length) Slot.unset).toArray = ls at hl ⊢
  have hl : lv_has ls 6 [(0, .ref x0), (1, .int p1), (2, .long p2), (4, .int p3)] := hl
  refine lv_aload_n hx hb d_X_load_0 rfl (lv_at hl 0 rfl) ?_
  refine lv_iload_n hx hb d_X_load_1 rfl (lv_at hl 1 rfl) ?_
  refine lv_iconst (v := 0) hx hb d_X_load_2 (by decide) ?_
  refine lv_sipush (v := 1007) hx hb d_X_load_3 (by decide) ?_
  have hPc := hP.sub (ws' := []) [] rfl
  have hDc := hD.sub (ws' := []) [] (by decide) rfl
  have hKc := hK.sub (tys' := []) [] rfl
  have hFc := va_free (wc := []) hD hS hA [] rfl
  refine va_calli (va_runS (As := [.int p1, .int (0 : Int32), .int (1007 : Int32)]) (rest := [.ref x0]) ⟨hx, hb, hml, hown, htB⟩ (c_X_in l dC dI z0  H.size p1 (0 : Int32) (1007 : Int32)) (cwS 3 htB (gd_S mw_509 mw_510 mw_4 mw_511) rfl rfl rfl (by decide +kernel) ⟨Nat.le_of_ble_eq_true rfl, Nat.le_of_ble_eq_true rfl⟩) (pcx_S hPc hKc hDc hA0 hE hS) rfl rfl hl.1 rfl (lv_room (Nat.le_of_ble_eq_true rfl)) d_X_load_6 ⟨Nat.zero_le _, Nat.zero_le _⟩) hS (fun q _ h => hFc q h) hFc (fun r9 u t H1 locs ht hvm hw hB hz1 hk1 hS => ?_)
  subst hw
  obtain ⟨hP1, hK1, hD1⟩ := hB
  rw [ht] at hP1
  obtain ⟨hP, hD⟩ := va_join (wr := [c_X x0 x1 x2 x3 x4 ku, c_A x1 c1 1024 m1]) (w1 := []) hP hD [] [0, 1] rfl rfl (by decide) (by decide) hk1 hFc hP1 hD1
  generalize H1 = H at hP hS ⊢
  have hP : va_P (dC, dI) classes [c_X x0 x1 x2 x3 x4 ku, c_A x1 c1 1024 m1] H := hP.sub [0, 1] rfl
  have hD : va_D A [c_X x0 x1 x2 x3 x4 ku, c_A x1 c1 1024 m1] := hD.sub [0, 1] (by decide) rfl
  refine lv_if_eq (tgt := 37) hx hb d_X_load_9 (by decide) (fun c_1 => ?_) (fun c_1 => ?_)
  · refine lv_iconst (v := 0) hx hb d_X_load_37 (by decide) ?_
    refine lv_iconst (v := 1) hx hb d_X_load_38 (by decide) ?_
    have hPc := hP.sub (ws' := [c_X x0 x1 x2 x3 x4 ku]) [0] rfl
    have hDc := hD.sub (ws' := [c_X x0 x1 x2 x3 x4 ku]) [0] (by decide) rfl
    have hKc := hK.sub (tys' := []) [] rfl
    have hFc := va_free (wc := [c_X x0 x1 x2 x3 x4 ku]) hD hS hA [0] rfl
    refine va_calli (va_runV (As := [.int (0 : Int32), .int (1 : Int32)]) (rest := []) ⟨hx, hb, hml, hown, htB⟩ (c_X_good l dC dI z0 x0 x1 x2 x3 x4 H.size (0 : Int32) (1 : Int32) ku (Or.inl rfl)) (cwV 2 htB (gd_V mw_512 mw_514 sw_X_good mw_4 mw_515) rfl rfl rfl (by decide +kernel) ⟨Nat.le_of_ble_eq_true rfl, Nat.le_of_ble_eq_true rfl⟩) (pcx_V (va_recv hKc hPc (ci := 3) (q0 := 0) rfl rfl) hPc hKc hDc hA0 hE hS) rfl rfl hl.1 rfl (lv_room (Nat.le_of_ble_eq_true rfl)) d_X_load_39 ⟨Nat.zero_le _, Nat.zero_le _⟩) hS (fun q _ h => hFc q h) hFc (fun r9 u t H1 locs ht hvm hw hB hz1 hk1 hS => ?_)
    subst hw
    obtain ⟨hP1, hK1, hD1⟩ := hB
    rw [ht] at hP1
    obtain ⟨hP, hD⟩ := va_join (wr := [c_A x1 c1 1024 m1]) (w1 := [c_X x0 x1 x2 x3 x4 ((f_X_good (0 : Int32) (1 : Int32) ku).2)]) hP hD [0] [1] rfl rfl (by decide) (by decide) hk1 hFc hP1 hD1
    generalize H1 = H at hP hS ⊢
    have hP : va_P (dC, dI) classes [c_X x0 x1 x2 x3 x4 ((f_X_good (0 : Int32) (1 : Int32) ku).2), c_A x1 c1 1024 m1] H := hP.sub [1, 0] rfl
    have hD : va_D A [c_X x0 x1 x2 x3 x4 ((f_X_good (0 : Int32) (1 : Int32) ku).2), c_A x1 c1 1024 m1] := hD.sub [1, 0] (by decide) rfl
    rw [good_ret]
    refine lv_if_ne (tgt := 47) hx hb d_X_load_42 (by decide) (fun c9 => absurd (show (0 : Int32) = (0 : Int32) from by decide) c9) (fun _ => ?_)
    refine lv_iconst (v := 0) hx hb d_X_load_45 (by decide) ?_
    have hf : f_X_load p1 p2 p3 ku m1 = ((0 : Int32), (f_X_good (0 : Int32) (1 : Int32) ku).2, m1) := by rw [f_X_load, if_pos c_1]
    exact W.iret (v := (0 : Int32)) hx hb hr (fun t ht hW => ⟨⟨(0 : Int32), (), rfl, (congrArg (fun z => z.1) hf).symm, by rw [hf]; exact ⟨by rw [ht]; exact hP, va_K.moved hW.alike hK, hD⟩⟩, hS.F ht⟩) hS.2.2 d_X_load_46
  · refine lv_iload hx hb d_X_load_12 (lv_at hl 3 rfl) ?_
    refine lv_iconst (v := 1) hx hb d_X_load_14 (by decide) ?_
    refine lv_bipush (v := 8) hx hb d_X_load_15 (by decide) ?_
    have hPc := hP.sub (ws' := []) [] rfl
    have hDc := hD.sub (ws' := []) [] (by decide) rfl
    have hKc := hK.sub (tys' := []) [] rfl
    have hFc := va_free (wc := []) hD hS hA [] rfl
    refine va_calli (va_runS (As := [.int p3, .int (1 : Int32), .int (8 : Int32)]) (rest := [.ref x0]) ⟨hx, hb, hml, hown, htB⟩ (c_X_in l dC dI z0  H.size p3 (1 : Int32) (8 : Int32)) (cwS 3 htB (gd_S mw_509 mw_510 mw_4 mw_511) rfl rfl rfl (by decide +kernel) ⟨Nat.le_of_ble_eq_true rfl, Nat.le_of_ble_eq_true rfl⟩) (pcx_S hPc hKc hDc hA0 hE hS) rfl rfl hl.1 rfl (lv_room (Nat.le_of_ble_eq_true rfl)) d_X_load_17 ⟨Nat.zero_le _, Nat.zero_le _⟩) hS (fun q _ h => hFc q h) hFc (fun r9 u t H1 locs ht hvm hw hB hz1 hk1 hS => ?_)
    subst hw
    obtain ⟨hP1, hK1, hD1⟩ := hB
    rw [ht] at hP1
    obtain ⟨hP, hD⟩ := va_join (wr := [c_X x0 x1 x2 x3 x4 ku, c_A x1 c1 1024 m1]) (w1 := []) hP hD [] [0, 1] rfl rfl (by decide) (by decide) hk1 hFc hP1 hD1
    generalize H1 = H at hP hS ⊢
    have hP : va_P (dC, dI) classes [c_X x0 x1 x2 x3 x4 ku, c_A x1 c1 1024 m1] H := hP.sub [0, 1] rfl
    have hD : va_D A [c_X x0 x1 x2 x3 x4 ku, c_A x1 c1 1024 m1] := hD.sub [0, 1] (by decide) rfl
    refine lv_if_eq (tgt := 37) hx hb d_X_load_20 (by decide) (fun c_2 => ?_) (fun c_2 => ?_)
    · refine lv_iconst (v := 0) hx hb d_X_load_37 (by decide) ?_
      refine lv_iconst (v := 1) hx hb d_X_load_38 (by decide) ?_
      have hPc := hP.sub (ws' := [c_X x0 x1 x2 x3 x4 ku]) [0] rfl
      have hDc := hD.sub (ws' := [c_X x0 x1 x2 x3 x4 ku]) [0] (by decide) rfl
      have hKc := hK.sub (tys' := []) [] rfl
      have hFc := va_free (wc := [c_X x0 x1 x2 x3 x4 ku]) hD hS hA [0] rfl
      refine va_calli (va_runV (As := [.int (0 : Int32), .int (1 : Int32)]) (rest := []) ⟨hx, hb, hml, hown, htB⟩ (c_X_good l dC dI z0 x0 x1 x2 x3 x4 H.size (0 : Int32) (1 : Int32) ku (Or.inl rfl)) (cwV 2 htB (gd_V mw_512 mw_514 sw_X_good mw_4 mw_515) rfl rfl rfl (by decide +kernel) ⟨Nat.le_of_ble_eq_true rfl, Nat.le_of_ble_eq_true rfl⟩) (pcx_V (va_recv hKc hPc (ci := 3) (q0 := 0) rfl rfl) hPc hKc hDc hA0 hE hS) rfl rfl hl.1 rfl (lv_room (Nat.le_of_ble_eq_true rfl)) d_X_load_39 ⟨Nat.zero_le _, Nat.zero_le _⟩) hS (fun q _ h => hFc q h) hFc (fun r9 u t H1 locs ht hvm hw hB hz1 hk1 hS => ?_)
      subst hw
      obtain ⟨hP1, hK1, hD1⟩ := hB
      rw [ht] at hP1
      obtain ⟨hP, hD⟩ := va_join (wr := [c_A x1 c1 1024 m1]) (w1 := [c_X x0 x1 x2 x3 x4 ((f_X_good (0 : Int32) (1 : Int32) ku).2)]) hP hD [0] [1] rfl rfl (by decide) (by decide) hk1 hFc hP1 hD1
      generalize H1 = H at hP hS ⊢
      have hP : va_P (dC, dI) classes [c_X x0 x1 x2 x3 x4 ((f_X_good (0 : Int32) (1 : Int32) ku).2), c_A x1 c1 1024 m1] H := hP.sub [1, 0] rfl
      have hD : va_D A [c_X x0 x1 x2 x3 x4 ((f_X_good (0 : Int32) (1 : Int32) ku).2), c_A x1 c1 1024 m1] := hD.sub [1, 0] (by decide) rfl
      rw [good_ret]
      refine lv_if_ne (tgt := 47) hx hb d_X_load_42 (by decide) (fun c9 => absurd (show (0 : Int32) = (0 : Int32) from by decide) c9) (fun _ => ?_)
      refine lv_iconst (v := 0) hx hb d_X_load_45 (by decide) ?_
      have hf : f_X_load p1 p2 p3 ku m1 = ((0 : Int32), (f_X_good (0 : Int32) (1 : Int32) ku).2, m1) := by rw [f_X_load, if_neg c_1, if_pos c_2]
      exact W.iret (v := (0 : Int32)) hx hb hr (fun t ht hW => ⟨⟨(0 : Int32), (), rfl, (congrArg (fun z => z.1) hf).symm, by rw [hf]; exact ⟨by rw [ht]; exact hP, va_K.moved hW.alike hK, hD⟩⟩, hS.F ht⟩) hS.2.2 d_X_load_46
    · refine lv_iload_n hx hb d_X_load_23 rfl (lv_at hl 1 rfl) ?_
      refine lv_iload hx hb d_X_load_24 (lv_at hl 3 rfl) ?_
      refine lv_iadd hx hb d_X_load_26 ?_
      refine lv_sipush (v := 1008) hx hb d_X_load_27 (by decide) ?_
      refine lv_icmp_gt (tgt := 37) hx hb d_X_load_30 (by decide) (fun c_3 => ?_) (fun c_3 => ?_)
      · refine lv_iconst (v := 0) hx hb d_X_load_37 (by decide) ?_
        refine lv_iconst (v := 1) hx hb d_X_load_38 (by decide) ?_
        have hPc := hP.sub (ws' := [c_X x0 x1 x2 x3 x4 ku]) [0] rfl
        have hDc := hD.sub (ws' := [c_X x0 x1 x2 x3 x4 ku]) [0] (by decide) rfl
        have hKc := hK.sub (tys' := []) [] rfl
        have hFc := va_free (wc := [c_X x0 x1 x2 x3 x4 ku]) hD hS hA [0] rfl
        refine va_calli (va_runV (As := [.int (0 : Int32), .int (1 : Int32)]) (rest := []) ⟨hx, hb, hml, hown, htB⟩ (c_X_good l dC dI z0 x0 x1 x2 x3 x4 H.size (0 : Int32) (1 : Int32) ku (Or.inl rfl)) (cwV 2 htB (gd_V mw_512 mw_514 sw_X_good mw_4 mw_515) rfl rfl rfl (by decide +kernel) ⟨Nat.le_of_ble_eq_true rfl, Nat.le_of_ble_eq_true rfl⟩) (pcx_V (va_recv hKc hPc (ci := 3) (q0 := 0) rfl rfl) hPc hKc hDc hA0 hE hS) rfl rfl hl.1 rfl (lv_room (Nat.le_of_ble_eq_true rfl)) d_X_load_39 ⟨Nat.zero_le _, Nat.zero_le _⟩) hS (fun q _ h => hFc q h) hFc (fun r9 u t H1 locs ht hvm hw hB hz1 hk1 hS => ?_)
        subst hw
        obtain ⟨hP1, hK1, hD1⟩ := hB
        rw [ht] at hP1
        obtain ⟨hP, hD⟩ := va_join (wr := [c_A x1 c1 1024 m1]) (w1 := [c_X x0 x1 x2 x3 x4 ((f_X_good (0 : Int32) (1 : Int32) ku).2)]) hP hD [0] [1] rfl rfl (by decide) (by decide) hk1 hFc hP1 hD1
        generalize H1 = H at hP hS ⊢
        have hP : va_P (dC, dI) classes [c_X x0 x1 x2 x3 x4 ((f_X_good (0 : Int32) (1 : Int32) ku).2), c_A x1 c1 1024 m1] H := hP.sub [1, 0] rfl
        have hD : va_D A [c_X x0 x1 x2 x3 x4 ((f_X_good (0 : Int32) (1 : Int32) ku).2), c_A x1 c1 1024 m1] := hD.sub [1, 0] (by decide) rfl
        rw [good_ret]
        refine lv_if_ne (tgt := 47) hx hb d_X_load_42 (by decide) (fun c9 => absurd (show (0 : Int32) = (0 : Int32) from by decide) c9) (fun _ => ?_)
        refine lv_iconst (v := 0) hx hb d_X_load_45 (by decide) ?_
        have hf : f_X_load p1 p2 p3 ku m1 = ((0 : Int32), (f_X_good (0 : Int32) (1 : Int32) ku).2, m1) := by rw [f_X_load, if_neg c_1, if_neg c_2, if_pos c_3]
        exact W.iret (v := (0 : Int32)) hx hb hr (fun t ht hW => ⟨⟨(0 : Int32), (), rfl, (congrArg (fun z => z.1) hf).symm, by rw [hf]; exact ⟨by rw [ht]; exact hP, va_K.moved hW.alike hK, hD⟩⟩, hS.F ht⟩) hS.2.2 d_X_load_46
      · refine lv_iconst (v := 1) hx hb d_X_load_33 (by decide) ?_
        refine lv_goto (tgt := 38) hx hb d_X_load_34 (by decide) ?_
        refine lv_iconst (v := 1) hx hb d_X_load_38 (by decide) ?_
        have hPc := hP.sub (ws' := [c_X x0 x1 x2 x3 x4 ku]) [0] rfl
        have hDc := hD.sub (ws' := [c_X x0 x1 x2 x3 x4 ku]) [0] (by decide) rfl
        have hKc := hK.sub (tys' := []) [] rfl
        have hFc := va_free (wc := [c_X x0 x1 x2 x3 x4 ku]) hD hS hA [0] rfl
        refine va_calli (va_runV (As := [.int (1 : Int32), .int (1 : Int32)]) (rest := []) ⟨hx, hb, hml, hown, htB⟩ (c_X_good l dC dI z0 x0 x1 x2 x3 x4 H.size (1 : Int32) (1 : Int32) ku (Or.inr rfl)) (cwV 2 htB (gd_V mw_512 mw_514 sw_X_good mw_4 mw_515) rfl rfl rfl (by decide +kernel) ⟨Nat.le_of_ble_eq_true rfl, Nat.le_of_ble_eq_true rfl⟩) (pcx_V (va_recv hKc hPc (ci := 3) (q0 := 0) rfl rfl) hPc hKc hDc hA0 hE hS) rfl rfl hl.1 rfl (lv_room (Nat.le_of_ble_eq_true rfl)) d_X_load_39 ⟨Nat.zero_le _, Nat.zero_le _⟩) hS (fun q _ h => hFc q h) hFc (fun r9 u t H1 locs ht hvm hw hB hz1 hk1 hS => ?_)
        subst hw
        obtain ⟨hP1, hK1, hD1⟩ := hB
        rw [ht] at hP1
        obtain ⟨hP, hD⟩ := va_join (wr := [c_A x1 c1 1024 m1]) (w1 := [c_X x0 x1 x2 x3 x4 ((f_X_good (1 : Int32) (1 : Int32) ku).2)]) hP hD [0] [1] rfl rfl (by decide) (by decide) hk1 hFc hP1 hD1
        generalize H1 = H at hP hS ⊢
        have hP : va_P (dC, dI) classes [c_X x0 x1 x2 x3 x4 ((f_X_good (1 : Int32) (1 : Int32) ku).2), c_A x1 c1 1024 m1] H := hP.sub [1, 0] rfl
        have hD : va_D A [c_X x0 x1 x2 x3 x4 ((f_X_good (1 : Int32) (1 : Int32) ku).2), c_A x1 c1 1024 m1] := hD.sub [1, 0] (by decide) rfl
        rw [good_ret]
        refine lv_if_ne (tgt := 47) hx hb d_X_load_42 (by decide) (fun _ => ?_) (fun c9 => absurd c9 (by decide))
        refine lv_iconst (v := 0) hx hb d_X_load_47 (by decide) ?_
        refine lv_istore (lv' := [(5, .int (0 : Int32)), (0, .ref x0), (1, .int p1), (2, .long p2), (4, .int p3)]) hx hb d_X_load_48 hl (by decide) rfl (fun ls hl => ?_)
        have hl := lv_sub hl [0, 1, 2, 3, 4] rfl
        rw [show (0 : Int32) = nI 0 from rfl] at hl
        refine L_X_load (ku := (f_X_good (1 : Int32) (1 : Int32) ku).2) (m1 := m1) hx hb hml hown htB hK (xl_ok c_1 c_2 c_3).1 (xl_ok c_1 c_2 c_3).2.1 (xl_ok c_1 c_2 c_3).2.2 (fun H locs ls hP hD hS hl => ?_) (p3.toNatClampNeg + 1) 0 (Nat.zero_le _) (by omega) _ rfl H _ ls hP hD hS hl
        refine lv_iload_n hx hb d_X_load_89 rfl (lv_at hl 1 rfl) ?_
        refine lv_iload hx hb d_X_load_90 (lv_at hl 3 rfl) ?_
        refine lv_iadd hx hb d_X_load_92 ?_
        have hf : f_X_load p1 p2 p3 ku m1 = ((p1 + p3), (f_X_good (1 : Int32) (1 : Int32) ku).2, (spr (fun j : Nat => (p1 + (nI j)).toNatClampNeg) (fun j : Nat => (((p2 >>> (((8 : Int32) * ((p3 - (1 : Int32)) - (nI j))).toInt64 &&& 63)).toInt32) &&& (255 : Int32))) p3.toNatClampNeg m1)) := by rw [f_X_load, if_neg c_1, if_neg c_2, if_neg c_3]
        exact W.iret (v := (p1 + p3)) hx hb hr (fun t ht hW => ⟨⟨(p1 + p3), (), rfl, (congrArg (fun z => z.1) hf).symm, by rw [hf]; exact ⟨by rw [ht]; exact hP, va_K.moved hW.alike hK, hD⟩⟩, hS.F ht⟩) hS.2.2 d_X_load_93

set_option maxHeartbeats 4000000 in
set_option maxRecDepth 100000 in
theorem L_X_insert {p : Program} {l : Launch} {e : Env} {R : Room} {s : State} {m : MethodId} {args : Array Value} {below : List Frame} {meth : Method} {c : Code} {Q : State → Prop} {dC : Nat → ClassId} {dI : Nat → Nat → Nat} {A : Nat → Prop} {H0 : Heap} {cells slots : Nat} {x0 : Nat} {x1 : Nat} {x2 : Nat} {x3 : Nat} {x4 : Nat} {c2 : ClassId} (hx : p.tables.exec = Jvm.exec) (hb : c.code = b_X_insert) (hml : c.maxLocals = 7) (hown : s.vm.findClass R_X = some m.cls) (htB : ∀ w ∈ BIG, w.before args s = true) (hK : va_K (dC, dI) classes [(c2, .int)] s) {p1 : Int32} {p2 : Int32} {p3 : Int64} {p4 : Int32} {ku m2 : Nat → Int32} (hN : p4 = nI p4.toNatClampNeg) (hN2 : p4.toNatClampNeg < 2 ^ 30) (hin9 : ∀ j : Nat, j < p4.toNatClampNeg → vp_in ((((32 : Int32) * p1) + p2) + (nI j)) 256)
    (K : ∀ (H : Heap) (locs : List Loc) (ls : Array Slot), va_P (dC, dI) classes [c_X x0 x1 x2 x3 x4 ku, c_A x2 c2 256 (spr (fun j : Nat => ((((32 : Int32) * p1) + p2) + (nI j)).toNatClampNeg) (fun j : Nat => (((p3 >>> (((8 : Int32) * ((p4 - (1 : Int32)) - (nI j))).toInt64 &&& 63)).toInt32) &&& (255 : Int32))) p4.toNatClampNeg m2)] H → va_D A [c_X x0 x1 x2 x3 x4 ku, c_A x2 c2 256 (spr (fun j : Nat => ((((32 : Int32) * p1) + p2) + (nI j)).toNatClampNeg) (fun j : Nat => (((p3 >>> (((8 : Int32) * ((p4 - (1 : Int32)) - (nI j))).toInt64 &&& 63)).toInt32) &&& (255 : Int32))) p4.toNatClampNeg m2)] → va_S A H0 H locs → lv_has ls 7 [(0, .ref x0), (1, .int p1), (2, .int p2), (3, .long p3), (5, .int p4)] → W p l e R s m args below meth c H locs cells slots Q (F0 m 102 ls [])) :
    ∀ (n j : Nat), j ≤ p4.toNatClampNeg → p4.toNatClampNeg + 1 ≤ j + n → ∀ (y9 : Nat → Int32), y9 = spr (fun j : Nat => ((((32 : Int32) * p1) + p2) + (nI j)).toNatClampNeg) (fun j : Nat => (((p3 >>> (((8 : Int32) * ((p4 - (1 : Int32)) - (nI j))).toInt64 &&& 63)).toInt32) &&& (255 : Int32))) j m2 → ∀ (H : Heap) (locs : List Loc) (ls : Array Slot), va_P (dC, dI) classes [c_X x0 x1 x2 x3 x4 ku, c_A x2 c2 256 y9] H → va_D A [c_X x0 x1 x2 x3 x4 ku, c_A x2 c2 256 y9] → va_S A H0 H locs → lv_has ls 7 [(6, .int (nI j)), (0, .ref x0), (1, .int p1), (2, .int p2), (3, .long p3), (5, .int p4)] → W p l e R s m args below meth c H locs cells slots Q (F0 m 58 ls []) := by
  intro n
  induction n with
  | zero =>
    intro j h1 h2
    exact absurd h2 (by omega)
  | succ n ih =>
    intro j hj hjn y9 e1 H locs ls hP hD hS hl
    refine lv_iload hx hb d_X_insert_58 (lv_at hl 0 rfl) ?_
    refine lv_iload hx hb d_X_insert_60 (lv_at hl 5 rfl) ?_
    refine lv_icmp_ge (tgt := 102) hx hb d_X_insert_62 (by decide) (fun c_1 => ?_) (fun c_1 => ?_)
    · have hjN : j = p4.toNatClampNeg := by
        rcases Nat.lt_or_ge j p4.toNatClampNeg with q | q
        · exact absurd (hN ▸ c_1) (nI_ge q (by omega))
        · exact Nat.le_antisymm hj q
      rw [hjN] at e1
      subst e1
      exact K H _ ls hP hD hS (lv_sub hl [1, 2, 3, 4, 5] rfl)
    · refine lv_aload_n hx hb d_X_insert_65 rfl (lv_at hl 1 rfl) ?_
      refine va_get (D := (dC, dI)) (ci := 3) (v := .ref x2) (C := R_X) (T := F_X) (N := 13) hx hb htB i_X hown hK hP 0 rfl rfl 1 (by decide) (htB _ mw_462) (fun _ h9 => h9) rfl d_X_insert_66 ?_
      refine lv_bipush (v := 32) hx hb d_X_insert_69 (by decide) ?_
      refine lv_iload_n hx hb d_X_insert_71 rfl (lv_at hl 2 rfl) ?_
      refine lv_imul hx hb d_X_insert_72 ?_
      refine lv_iload_n hx hb d_X_insert_73 rfl (lv_at hl 3 rfl) ?_
      refine lv_iadd hx hb d_X_insert_74 ?_
      refine lv_iload hx hb d_X_insert_75 (lv_at hl 0 rfl) ?_
      refine lv_iadd hx hb d_X_insert_77 ?_
      refine lv_lload_n hx hb d_X_insert_78 rfl (lv_at hl 4 rfl) ?_
      refine lv_bipush (v := 8) hx hb d_X_insert_79 (by decide) ?_
      refine lv_iload hx hb d_X_insert_81 (lv_at hl 5 rfl) ?_
      refine lv_iconst (v := 1) hx hb d_X_insert_83 (by decide) ?_
      refine lv_isub hx hb d_X_insert_84 ?_
      refine lv_iload hx hb d_X_insert_85 (lv_at hl 0 rfl) ?_
      refine lv_isub hx hb d_X_insert_87 ?_
      refine lv_imul hx hb d_X_insert_88 ?_
      refine lv_lshr hx hb d_X_insert_89 rfl ?_
      refine lv_l2i hx hb d_X_insert_90 rfl ?_
      refine lv_sipush (v := 255) hx hb d_X_insert_91 (by decide) ?_
      refine lv_iand hx hb d_X_insert_94 ?_
      refine va_iast hx hb hK hP hD hS 1 0 rfl rfl (hin9 j (lt_ofN hN c_1 hj hN2)) d_X_insert_95 (fun H locs hP hD hS => ?_)
      have hP : va_P (dC, dI) classes [c_X x0 x1 x2 x3 x4 ku, c_A x2 c2 256 (upd y9 (((((32 : Int32) * p1) + p2) + (nI j)).toNatClampNeg) (((p3 >>> (((8 : Int32) * ((p4 - (1 : Int32)) - (nI j))).toInt64 &&& 63)).toInt32) &&& (255 : Int32)))] H := hP
      have hD : va_D A [c_X x0 x1 x2 x3 x4 ku, c_A x2 c2 256 (upd y9 (((((32 : Int32) * p1) + p2) + (nI j)).toNatClampNeg) (((p3 >>> (((8 : Int32) * ((p4 - (1 : Int32)) - (nI j))).toInt64 &&& 63)).toInt32) &&& (255 : Int32)))] := hD
      refine lv_iinc (v := ((nI j) + Int32.ofInt 1)) (lv' := [(6, .int ((nI j) + Int32.ofInt 1)), (0, .ref x0), (1, .int p1), (2, .int p2), (3, .long p3), (5, .int p4)]) hx hb d_X_insert_96 hl (k := 0) rfl rfl (by decide) rfl (fun ls hl => ?_)
      refine lv_goto (tgt := 58) hx hb d_X_insert_99 (by decide) ?_
      have e9 : nI j + Int32.ofInt 1 = nI (j + 1) := nI_1 j
      rw [e9] at hl
      have hjl := lt_ofN hN c_1 hj hN2
      exact ih (j + 1) hjl (by omega) _ (by rw [e1]; rfl) H _ ls hP hD hS (lv_sub hl [0, 1, 2, 3, 4, 5] rfl)
def f_X_insert (p1 : Int32) (p2 : Int32) (p3 : Int64) (p4 : Int32) (ku m2 : Nat → Int32) : Int32 × (Nat → Int32) × (Nat → Int32) :=
  if (f_X_in p1 (0 : Int32) (7 : Int32)) = (0 : Int32) then
    ((0 : Int32), (f_X_good (0 : Int32) (1 : Int32) ku).2, m2)
  else
    if (f_X_in p2 (0 : Int32) (31 : Int32)) = (0 : Int32) then
      ((0 : Int32), (f_X_good (0 : Int32) (1 : Int32) ku).2, m2)
    else
      if (f_X_in p4 (1 : Int32) (8 : Int32)) = (0 : Int32) then
        ((0 : Int32), (f_X_good (0 : Int32) (1 : Int32) ku).2, m2)
      else
        if (32 : Int32) < (p2 + p4) then
          ((0 : Int32), (f_X_good (0 : Int32) (1 : Int32) ku).2, m2)
        else
          ((p2 + p4), (f_X_good (1 : Int32) (1 : Int32) ku).2, (spr (fun j : Nat => ((((32 : Int32) * p1) + p2) + (nI j)).toNatClampNeg) (fun j : Nat => (((p3 >>> (((8 : Int32) * ((p4 - (1 : Int32)) - (nI j))).toInt64 &&& 63)).toInt32) &&& (255 : Int32))) p4.toNatClampNeg m2))
abbrev Q_X_insert (dC : Nat → ClassId) (dI : Nat → Nat → Nat) (x0 : Nat) (x1 : Nat) (x2 : Nat) (x3 : Nat) (x4 : Nat) (c2 : ClassId) (p1 : Int32) (p2 : Int32) (p3 : Int64) (p4 : Int32) (ku m2 : Nat → Int32) (A : Nat → Prop) : Array Value → State → Outcome → State → Prop := va_Qi (fun (r9 : Int32) (_ : Unit) => r9 = (f_X_insert p1 p2 p3 p4 ku m2).1) (fun _ t => atW (dC, dI) classes A [c_X x0 x1 x2 x3 x4 ((f_X_insert p1 p2 p3 p4 ku m2).2.1), c_A x2 c2 256 ((f_X_insert p1 p2 p3 p4 ku m2).2.2)] [(c2, .int)] t) A
set_option maxHeartbeats 4000000 in
set_option maxRecDepth 100000 in
theorem c_X_insert (l : Launch) (dC : Nat → ClassId) (dI : Nat → Nat → Nat) (z0 : Nat) (x0 : Nat) (x1 : Nat) (x2 : Nat) (x3 : Nat) (x4 : Nat) (c2 : ClassId) (sz : Nat) (p1 : Int32) (p2 : Int32) (p3 : Int64) (p4 : Int32) (ku m2 : Nat → Int32)  : Met l y_X_insert w_X_insert ({ frames := 1, cells := 0, slots := 0, locals := 22 }) (PcX (dC, dI) classes z0 [c_X x0 x1 x2 x3 x4 ku, c_A x2 c2 256 m2] [(c2, .int)] sz [.ref x0, .int p1, .int p2, .long p3, .int p4]) (Q_X_insert dC dI x0 x1 x2 x3 x4 c2 p1 p2 p3 p4 ku m2 (va_A [c_X x0 x1 x2 x3 x4 ku, c_A x2 c2 256 m2] sz)) 0 0 (va_A [c_X x0 x1 x2 x3 x4 ku, c_A x2 c2 256 m2] sz) := by
  refine hdX (cc := b_X_insert) (maxL := 7) (ret := (some .int)) (C := R_X) (Qc := (Q_X_insert dC dI x0 x1 x2 x3 x4 c2 p1 p2 p3 p4 ku m2)) (by decide) rfl ?_
  intro p e s m below meth c A H hx hb hr hlocks hml hown hin htB hP hK hD hA hA0 hE hS
  have hl := lv_entry ([.ref x0, .int p1, .int p2, .long p3, .int p4]) (n := 7) (Nat.le_of_ble_eq_true rfl)
  rw [lg_entry_eq]
  generalize (lg_sl ([.ref x0, .int p1, .int p2, .long p3, .int p4]) ++ List.replicate (7 - (lg_sl ([.ref x0, .int p1, .int p2, .long p3, .int p4])).length) Slot.unset).toArray = ls at hl ⊢
  have hl : lv_has ls 7 [(0, .ref x0), (1, .int p1), (2, .int p2), (3, .long p3), (5, .int p4)] := hl
  refine lv_aload_n hx hb d_X_insert_0 rfl (lv_at hl 0 rfl) ?_
  refine lv_iload_n hx hb d_X_insert_1 rfl (lv_at hl 1 rfl) ?_
  refine lv_iconst (v := 0) hx hb d_X_insert_2 (by decide) ?_
  refine lv_bipush (v := 7) hx hb d_X_insert_3 (by decide) ?_
  have hPc := hP.sub (ws' := []) [] rfl
  have hDc := hD.sub (ws' := []) [] (by decide) rfl
  have hKc := hK.sub (tys' := []) [] rfl
  have hFc := va_free (wc := []) hD hS hA [] rfl
  refine va_calli (va_runS (As := [.int p1, .int (0 : Int32), .int (7 : Int32)]) (rest := [.ref x0]) ⟨hx, hb, hml, hown, htB⟩ (c_X_in l dC dI z0  H.size p1 (0 : Int32) (7 : Int32)) (cwS 3 htB (gd_S mw_509 mw_510 mw_4 mw_511) rfl rfl rfl (by decide +kernel) ⟨Nat.le_of_ble_eq_true rfl, Nat.le_of_ble_eq_true rfl⟩) (pcx_S hPc hKc hDc hA0 hE hS) rfl rfl hl.1 rfl (lv_room (Nat.le_of_ble_eq_true rfl)) d_X_insert_5 ⟨Nat.zero_le _, Nat.zero_le _⟩) hS (fun q _ h => hFc q h) hFc (fun r9 u t H1 locs ht hvm hw hB hz1 hk1 hS => ?_)
  subst hw
  obtain ⟨hP1, hK1, hD1⟩ := hB
  rw [ht] at hP1
  obtain ⟨hP, hD⟩ := va_join (wr := [c_X x0 x1 x2 x3 x4 ku, c_A x2 c2 256 m2]) (w1 := []) hP hD [] [0, 1] rfl rfl (by decide) (by decide) hk1 hFc hP1 hD1
  generalize H1 = H at hP hS ⊢
  have hP : va_P (dC, dI) classes [c_X x0 x1 x2 x3 x4 ku, c_A x2 c2 256 m2] H := hP.sub [0, 1] rfl
  have hD : va_D A [c_X x0 x1 x2 x3 x4 ku, c_A x2 c2 256 m2] := hD.sub [0, 1] (by decide) rfl
  refine lv_if_eq (tgt := 45) hx hb d_X_insert_8 (by decide) (fun c_1 => ?_) (fun c_1 => ?_)
  · refine lv_iconst (v := 0) hx hb d_X_insert_45 (by decide) ?_
    refine lv_iconst (v := 1) hx hb d_X_insert_46 (by decide) ?_
    have hPc := hP.sub (ws' := [c_X x0 x1 x2 x3 x4 ku]) [0] rfl
    have hDc := hD.sub (ws' := [c_X x0 x1 x2 x3 x4 ku]) [0] (by decide) rfl
    have hKc := hK.sub (tys' := []) [] rfl
    have hFc := va_free (wc := [c_X x0 x1 x2 x3 x4 ku]) hD hS hA [0] rfl
    refine va_calli (va_runV (As := [.int (0 : Int32), .int (1 : Int32)]) (rest := []) ⟨hx, hb, hml, hown, htB⟩ (c_X_good l dC dI z0 x0 x1 x2 x3 x4 H.size (0 : Int32) (1 : Int32) ku (Or.inl rfl)) (cwV 2 htB (gd_V mw_512 mw_514 sw_X_good mw_4 mw_515) rfl rfl rfl (by decide +kernel) ⟨Nat.le_of_ble_eq_true rfl, Nat.le_of_ble_eq_true rfl⟩) (pcx_V (va_recv hKc hPc (ci := 3) (q0 := 0) rfl rfl) hPc hKc hDc hA0 hE hS) rfl rfl hl.1 rfl (lv_room (Nat.le_of_ble_eq_true rfl)) d_X_insert_47 ⟨Nat.zero_le _, Nat.zero_le _⟩) hS (fun q _ h => hFc q h) hFc (fun r9 u t H1 locs ht hvm hw hB hz1 hk1 hS => ?_)
    subst hw
    obtain ⟨hP1, hK1, hD1⟩ := hB
    rw [ht] at hP1
    obtain ⟨hP, hD⟩ := va_join (wr := [c_A x2 c2 256 m2]) (w1 := [c_X x0 x1 x2 x3 x4 ((f_X_good (0 : Int32) (1 : Int32) ku).2)]) hP hD [0] [1] rfl rfl (by decide) (by decide) hk1 hFc hP1 hD1
    generalize H1 = H at hP hS ⊢
    have hP : va_P (dC, dI) classes [c_X x0 x1 x2 x3 x4 ((f_X_good (0 : Int32) (1 : Int32) ku).2), c_A x2 c2 256 m2] H := hP.sub [1, 0] rfl
    have hD : va_D A [c_X x0 x1 x2 x3 x4 ((f_X_good (0 : Int32) (1 : Int32) ku).2), c_A x2 c2 256 m2] := hD.sub [1, 0] (by decide) rfl
    rw [good_ret]
    refine lv_if_ne (tgt := 55) hx hb d_X_insert_50 (by decide) (fun c9 => absurd (show (0 : Int32) = (0 : Int32) from by decide) c9) (fun _ => ?_)
    refine lv_iconst (v := 0) hx hb d_X_insert_53 (by decide) ?_
    have hf : f_X_insert p1 p2 p3 p4 ku m2 = ((0 : Int32), (f_X_good (0 : Int32) (1 : Int32) ku).2, m2) := by rw [f_X_insert, if_pos c_1]
    exact W.iret (v := (0 : Int32)) hx hb hr (fun t ht hW => ⟨⟨(0 : Int32), (), rfl, (congrArg (fun z => z.1) hf).symm, by rw [hf]; exact ⟨by rw [ht]; exact hP, va_K.moved hW.alike hK, hD⟩⟩, hS.F ht⟩) hS.2.2 d_X_insert_54
  · refine lv_iload_n hx hb d_X_insert_11 rfl (lv_at hl 2 rfl) ?_
    refine lv_iconst (v := 0) hx hb d_X_insert_12 (by decide) ?_
    refine lv_bipush (v := 31) hx hb d_X_insert_13 (by decide) ?_
    have hPc := hP.sub (ws' := []) [] rfl
    have hDc := hD.sub (ws' := []) [] (by decide) rfl
    have hKc := hK.sub (tys' := []) [] rfl
    have hFc := va_free (wc := []) hD hS hA [] rfl
    refine va_calli (va_runS (As := [.int p2, .int (0 : Int32), .int (31 : Int32)]) (rest := [.ref x0]) ⟨hx, hb, hml, hown, htB⟩ (c_X_in l dC dI z0  H.size p2 (0 : Int32) (31 : Int32)) (cwS 3 htB (gd_S mw_509 mw_510 mw_4 mw_511) rfl rfl rfl (by decide +kernel) ⟨Nat.le_of_ble_eq_true rfl, Nat.le_of_ble_eq_true rfl⟩) (pcx_S hPc hKc hDc hA0 hE hS) rfl rfl hl.1 rfl (lv_room (Nat.le_of_ble_eq_true rfl)) d_X_insert_15 ⟨Nat.zero_le _, Nat.zero_le _⟩) hS (fun q _ h => hFc q h) hFc (fun r9 u t H1 locs ht hvm hw hB hz1 hk1 hS => ?_)
    subst hw
    obtain ⟨hP1, hK1, hD1⟩ := hB
    rw [ht] at hP1
    obtain ⟨hP, hD⟩ := va_join (wr := [c_X x0 x1 x2 x3 x4 ku, c_A x2 c2 256 m2]) (w1 := []) hP hD [] [0, 1] rfl rfl (by decide) (by decide) hk1 hFc hP1 hD1
    generalize H1 = H at hP hS ⊢
    have hP : va_P (dC, dI) classes [c_X x0 x1 x2 x3 x4 ku, c_A x2 c2 256 m2] H := hP.sub [0, 1] rfl
    have hD : va_D A [c_X x0 x1 x2 x3 x4 ku, c_A x2 c2 256 m2] := hD.sub [0, 1] (by decide) rfl
    refine lv_if_eq (tgt := 45) hx hb d_X_insert_18 (by decide) (fun c_2 => ?_) (fun c_2 => ?_)
    · refine lv_iconst (v := 0) hx hb d_X_insert_45 (by decide) ?_
      refine lv_iconst (v := 1) hx hb d_X_insert_46 (by decide) ?_
      have hPc := hP.sub (ws' := [c_X x0 x1 x2 x3 x4 ku]) [0] rfl
      have hDc := hD.sub (ws' := [c_X x0 x1 x2 x3 x4 ku]) [0] (by decide) rfl
      have hKc := hK.sub (tys' := []) [] rfl
      have hFc := va_free (wc := [c_X x0 x1 x2 x3 x4 ku]) hD hS hA [0] rfl
      refine va_calli (va_runV (As := [.int (0 : Int32), .int (1 : Int32)]) (rest := []) ⟨hx, hb, hml, hown, htB⟩ (c_X_good l dC dI z0 x0 x1 x2 x3 x4 H.size (0 : Int32) (1 : Int32) ku (Or.inl rfl)) (cwV 2 htB (gd_V mw_512 mw_514 sw_X_good mw_4 mw_515) rfl rfl rfl (by decide +kernel) ⟨Nat.le_of_ble_eq_true rfl, Nat.le_of_ble_eq_true rfl⟩) (pcx_V (va_recv hKc hPc (ci := 3) (q0 := 0) rfl rfl) hPc hKc hDc hA0 hE hS) rfl rfl hl.1 rfl (lv_room (Nat.le_of_ble_eq_true rfl)) d_X_insert_47 ⟨Nat.zero_le _, Nat.zero_le _⟩) hS (fun q _ h => hFc q h) hFc (fun r9 u t H1 locs ht hvm hw hB hz1 hk1 hS => ?_)
      subst hw
      obtain ⟨hP1, hK1, hD1⟩ := hB
      rw [ht] at hP1
      obtain ⟨hP, hD⟩ := va_join (wr := [c_A x2 c2 256 m2]) (w1 := [c_X x0 x1 x2 x3 x4 ((f_X_good (0 : Int32) (1 : Int32) ku).2)]) hP hD [0] [1] rfl rfl (by decide) (by decide) hk1 hFc hP1 hD1
      generalize H1 = H at hP hS ⊢
      have hP : va_P (dC, dI) classes [c_X x0 x1 x2 x3 x4 ((f_X_good (0 : Int32) (1 : Int32) ku).2), c_A x2 c2 256 m2] H := hP.sub [1, 0] rfl
      have hD : va_D A [c_X x0 x1 x2 x3 x4 ((f_X_good (0 : Int32) (1 : Int32) ku).2), c_A x2 c2 256 m2] := hD.sub [1, 0] (by decide) rfl
      rw [good_ret]
      refine lv_if_ne (tgt := 55) hx hb d_X_insert_50 (by decide) (fun c9 => absurd (show (0 : Int32) = (0 : Int32) from by decide) c9) (fun _ => ?_)
      refine lv_iconst (v := 0) hx hb d_X_insert_53 (by decide) ?_
      have hf : f_X_insert p1 p2 p3 p4 ku m2 = ((0 : Int32), (f_X_good (0 : Int32) (1 : Int32) ku).2, m2) := by rw [f_X_insert, if_neg c_1, if_pos c_2]
      exact W.iret (v := (0 : Int32)) hx hb hr (fun t ht hW => ⟨⟨(0 : Int32), (), rfl, (congrArg (fun z => z.1) hf).symm, by rw [hf]; exact ⟨by rw [ht]; exact hP, va_K.moved hW.alike hK, hD⟩⟩, hS.F ht⟩) hS.2.2 d_X_insert_54
    · refine lv_iload hx hb d_X_insert_21 (lv_at hl 4 rfl) ?_
      refine lv_iconst (v := 1) hx hb d_X_insert_23 (by decide) ?_
      refine lv_bipush (v := 8) hx hb d_X_insert_24 (by decide) ?_
      have hPc := hP.sub (ws' := []) [] rfl
      have hDc := hD.sub (ws' := []) [] (by decide) rfl
      have hKc := hK.sub (tys' := []) [] rfl
      have hFc := va_free (wc := []) hD hS hA [] rfl
      refine va_calli (va_runS (As := [.int p4, .int (1 : Int32), .int (8 : Int32)]) (rest := [.ref x0]) ⟨hx, hb, hml, hown, htB⟩ (c_X_in l dC dI z0  H.size p4 (1 : Int32) (8 : Int32)) (cwS 3 htB (gd_S mw_509 mw_510 mw_4 mw_511) rfl rfl rfl (by decide +kernel) ⟨Nat.le_of_ble_eq_true rfl, Nat.le_of_ble_eq_true rfl⟩) (pcx_S hPc hKc hDc hA0 hE hS) rfl rfl hl.1 rfl (lv_room (Nat.le_of_ble_eq_true rfl)) d_X_insert_26 ⟨Nat.zero_le _, Nat.zero_le _⟩) hS (fun q _ h => hFc q h) hFc (fun r9 u t H1 locs ht hvm hw hB hz1 hk1 hS => ?_)
      subst hw
      obtain ⟨hP1, hK1, hD1⟩ := hB
      rw [ht] at hP1
      obtain ⟨hP, hD⟩ := va_join (wr := [c_X x0 x1 x2 x3 x4 ku, c_A x2 c2 256 m2]) (w1 := []) hP hD [] [0, 1] rfl rfl (by decide) (by decide) hk1 hFc hP1 hD1
      generalize H1 = H at hP hS ⊢
      have hP : va_P (dC, dI) classes [c_X x0 x1 x2 x3 x4 ku, c_A x2 c2 256 m2] H := hP.sub [0, 1] rfl
      have hD : va_D A [c_X x0 x1 x2 x3 x4 ku, c_A x2 c2 256 m2] := hD.sub [0, 1] (by decide) rfl
      refine lv_if_eq (tgt := 45) hx hb d_X_insert_29 (by decide) (fun c_3 => ?_) (fun c_3 => ?_)
      · refine lv_iconst (v := 0) hx hb d_X_insert_45 (by decide) ?_
        refine lv_iconst (v := 1) hx hb d_X_insert_46 (by decide) ?_
        have hPc := hP.sub (ws' := [c_X x0 x1 x2 x3 x4 ku]) [0] rfl
        have hDc := hD.sub (ws' := [c_X x0 x1 x2 x3 x4 ku]) [0] (by decide) rfl
        have hKc := hK.sub (tys' := []) [] rfl
        have hFc := va_free (wc := [c_X x0 x1 x2 x3 x4 ku]) hD hS hA [0] rfl
        refine va_calli (va_runV (As := [.int (0 : Int32), .int (1 : Int32)]) (rest := []) ⟨hx, hb, hml, hown, htB⟩ (c_X_good l dC dI z0 x0 x1 x2 x3 x4 H.size (0 : Int32) (1 : Int32) ku (Or.inl rfl)) (cwV 2 htB (gd_V mw_512 mw_514 sw_X_good mw_4 mw_515) rfl rfl rfl (by decide +kernel) ⟨Nat.le_of_ble_eq_true rfl, Nat.le_of_ble_eq_true rfl⟩) (pcx_V (va_recv hKc hPc (ci := 3) (q0 := 0) rfl rfl) hPc hKc hDc hA0 hE hS) rfl rfl hl.1 rfl (lv_room (Nat.le_of_ble_eq_true rfl)) d_X_insert_47 ⟨Nat.zero_le _, Nat.zero_le _⟩) hS (fun q _ h => hFc q h) hFc (fun r9 u t H1 locs ht hvm hw hB hz1 hk1 hS => ?_)
        subst hw
        obtain ⟨hP1, hK1, hD1⟩ := hB
        rw [ht] at hP1
        obtain ⟨hP, hD⟩ := va_join (wr := [c_A x2 c2 256 m2]) (w1 := [c_X x0 x1 x2 x3 x4 ((f_X_good (0 : Int32) (1 : Int32) ku).2)]) hP hD [0] [1] rfl rfl (by decide) (by decide) hk1 hFc hP1 hD1
        generalize H1 = H at hP hS ⊢
        have hP : va_P (dC, dI) classes [c_X x0 x1 x2 x3 x4 ((f_X_good (0 : Int32) (1 : Int32) ku).2), c_A x2 c2 256 m2] H := hP.sub [1, 0] rfl
        have hD : va_D A [c_X x0 x1 x2 x3 x4 ((f_X_good (0 : Int32) (1 : Int32) ku).2), c_A x2 c2 256 m2] := hD.sub [1, 0] (by decide) rfl
        rw [good_ret]
        refine lv_if_ne (tgt := 55) hx hb d_X_insert_50 (by decide) (fun c9 => absurd (show (0 : Int32) = (0 : Int32) from by decide) c9) (fun _ => ?_)
        refine lv_iconst (v := 0) hx hb d_X_insert_53 (by decide) ?_
        have hf : f_X_insert p1 p2 p3 p4 ku m2 = ((0 : Int32), (f_X_good (0 : Int32) (1 : Int32) ku).2, m2) := by rw [f_X_insert, if_neg c_1, if_neg c_2, if_pos c_3]
        exact W.iret (v := (0 : Int32)) hx hb hr (fun t ht hW => ⟨⟨(0 : Int32), (), rfl, (congrArg (fun z => z.1) hf).symm, by rw [hf]; exact ⟨by rw [ht]; exact hP, va_K.moved hW.alike hK, hD⟩⟩, hS.F ht⟩) hS.2.2 d_X_insert_54
      · refine lv_iload_n hx hb d_X_insert_32 rfl (lv_at hl 2 rfl) ?_
        refine lv_iload hx hb d_X_insert_33 (lv_at hl 4 rfl) ?_
        refine lv_iadd hx hb d_X_insert_35 ?_
        refine lv_bipush (v := 32) hx hb d_X_insert_36 (by decide) ?_
        refine lv_icmp_gt (tgt := 45) hx hb d_X_insert_38 (by decide) (fun c_4 => ?_) (fun c_4 => ?_)
        · refine lv_iconst (v := 0) hx hb d_X_insert_45 (by decide) ?_
          refine lv_iconst (v := 1) hx hb d_X_insert_46 (by decide) ?_
          have hPc := hP.sub (ws' := [c_X x0 x1 x2 x3 x4 ku]) [0] rfl
          have hDc := hD.sub (ws' := [c_X x0 x1 x2 x3 x4 ku]) [0] (by decide) rfl
          have hKc := hK.sub (tys' := []) [] rfl
          have hFc := va_free (wc := [c_X x0 x1 x2 x3 x4 ku]) hD hS hA [0] rfl
          refine va_calli (va_runV (As := [.int (0 : Int32), .int (1 : Int32)]) (rest := []) ⟨hx, hb, hml, hown, htB⟩ (c_X_good l dC dI z0 x0 x1 x2 x3 x4 H.size (0 : Int32) (1 : Int32) ku (Or.inl rfl)) (cwV 2 htB (gd_V mw_512 mw_514 sw_X_good mw_4 mw_515) rfl rfl rfl (by decide +kernel) ⟨Nat.le_of_ble_eq_true rfl, Nat.le_of_ble_eq_true rfl⟩) (pcx_V (va_recv hKc hPc (ci := 3) (q0 := 0) rfl rfl) hPc hKc hDc hA0 hE hS) rfl rfl hl.1 rfl (lv_room (Nat.le_of_ble_eq_true rfl)) d_X_insert_47 ⟨Nat.zero_le _, Nat.zero_le _⟩) hS (fun q _ h => hFc q h) hFc (fun r9 u t H1 locs ht hvm hw hB hz1 hk1 hS => ?_)
          subst hw
          obtain ⟨hP1, hK1, hD1⟩ := hB
          rw [ht] at hP1
          obtain ⟨hP, hD⟩ := va_join (wr := [c_A x2 c2 256 m2]) (w1 := [c_X x0 x1 x2 x3 x4 ((f_X_good (0 : Int32) (1 : Int32) ku).2)]) hP hD [0] [1] rfl rfl (by decide) (by decide) hk1 hFc hP1 hD1
          generalize H1 = H at hP hS ⊢
          have hP : va_P (dC, dI) classes [c_X x0 x1 x2 x3 x4 ((f_X_good (0 : Int32) (1 : Int32) ku).2), c_A x2 c2 256 m2] H := hP.sub [1, 0] rfl
          have hD : va_D A [c_X x0 x1 x2 x3 x4 ((f_X_good (0 : Int32) (1 : Int32) ku).2), c_A x2 c2 256 m2] := hD.sub [1, 0] (by decide) rfl
          rw [good_ret]
          refine lv_if_ne (tgt := 55) hx hb d_X_insert_50 (by decide) (fun c9 => absurd (show (0 : Int32) = (0 : Int32) from by decide) c9) (fun _ => ?_)
          refine lv_iconst (v := 0) hx hb d_X_insert_53 (by decide) ?_
          have hf : f_X_insert p1 p2 p3 p4 ku m2 = ((0 : Int32), (f_X_good (0 : Int32) (1 : Int32) ku).2, m2) := by rw [f_X_insert, if_neg c_1, if_neg c_2, if_neg c_3, if_pos c_4]
          exact W.iret (v := (0 : Int32)) hx hb hr (fun t ht hW => ⟨⟨(0 : Int32), (), rfl, (congrArg (fun z => z.1) hf).symm, by rw [hf]; exact ⟨by rw [ht]; exact hP, va_K.moved hW.alike hK, hD⟩⟩, hS.F ht⟩) hS.2.2 d_X_insert_54
        · refine lv_iconst (v := 1) hx hb d_X_insert_41 (by decide) ?_
          refine lv_goto (tgt := 46) hx hb d_X_insert_42 (by decide) ?_
          refine lv_iconst (v := 1) hx hb d_X_insert_46 (by decide) ?_
          have hPc := hP.sub (ws' := [c_X x0 x1 x2 x3 x4 ku]) [0] rfl
          have hDc := hD.sub (ws' := [c_X x0 x1 x2 x3 x4 ku]) [0] (by decide) rfl
          have hKc := hK.sub (tys' := []) [] rfl
          have hFc := va_free (wc := [c_X x0 x1 x2 x3 x4 ku]) hD hS hA [0] rfl
          refine va_calli (va_runV (As := [.int (1 : Int32), .int (1 : Int32)]) (rest := []) ⟨hx, hb, hml, hown, htB⟩ (c_X_good l dC dI z0 x0 x1 x2 x3 x4 H.size (1 : Int32) (1 : Int32) ku (Or.inr rfl)) (cwV 2 htB (gd_V mw_512 mw_514 sw_X_good mw_4 mw_515) rfl rfl rfl (by decide +kernel) ⟨Nat.le_of_ble_eq_true rfl, Nat.le_of_ble_eq_true rfl⟩) (pcx_V (va_recv hKc hPc (ci := 3) (q0 := 0) rfl rfl) hPc hKc hDc hA0 hE hS) rfl rfl hl.1 rfl (lv_room (Nat.le_of_ble_eq_true rfl)) d_X_insert_47 ⟨Nat.zero_le _, Nat.zero_le _⟩) hS (fun q _ h => hFc q h) hFc (fun r9 u t H1 locs ht hvm hw hB hz1 hk1 hS => ?_)
          subst hw
          obtain ⟨hP1, hK1, hD1⟩ := hB
          rw [ht] at hP1
          obtain ⟨hP, hD⟩ := va_join (wr := [c_A x2 c2 256 m2]) (w1 := [c_X x0 x1 x2 x3 x4 ((f_X_good (1 : Int32) (1 : Int32) ku).2)]) hP hD [0] [1] rfl rfl (by decide) (by decide) hk1 hFc hP1 hD1
          generalize H1 = H at hP hS ⊢
          have hP : va_P (dC, dI) classes [c_X x0 x1 x2 x3 x4 ((f_X_good (1 : Int32) (1 : Int32) ku).2), c_A x2 c2 256 m2] H := hP.sub [1, 0] rfl
          have hD : va_D A [c_X x0 x1 x2 x3 x4 ((f_X_good (1 : Int32) (1 : Int32) ku).2), c_A x2 c2 256 m2] := hD.sub [1, 0] (by decide) rfl
          rw [good_ret]
          refine lv_if_ne (tgt := 55) hx hb d_X_insert_50 (by decide) (fun _ => ?_) (fun c9 => absurd c9 (by decide))
          refine lv_iconst (v := 0) hx hb d_X_insert_55 (by decide) ?_
          refine lv_istore (lv' := [(6, .int (0 : Int32)), (0, .ref x0), (1, .int p1), (2, .int p2), (3, .long p3), (5, .int p4)]) hx hb d_X_insert_56 hl (by decide) rfl (fun ls hl => ?_)
          have hl := lv_sub hl [0, 1, 2, 3, 4, 5] rfl
          rw [show (0 : Int32) = nI 0 from rfl] at hl
          refine L_X_insert (ku := (f_X_good (1 : Int32) (1 : Int32) ku).2) (m2 := m2) hx hb hml hown htB hK (xi_ok c_1 c_2 c_3 c_4).1 (xi_ok c_1 c_2 c_3 c_4).2.1 (xi_ok c_1 c_2 c_3 c_4).2.2 (fun H locs ls hP hD hS hl => ?_) (p4.toNatClampNeg + 1) 0 (Nat.zero_le _) (by omega) _ rfl H _ ls hP hD hS hl
          refine lv_iload_n hx hb d_X_insert_102 rfl (lv_at hl 2 rfl) ?_
          refine lv_iload hx hb d_X_insert_103 (lv_at hl 4 rfl) ?_
          refine lv_iadd hx hb d_X_insert_105 ?_
          have hf : f_X_insert p1 p2 p3 p4 ku m2 = ((p2 + p4), (f_X_good (1 : Int32) (1 : Int32) ku).2, (spr (fun j : Nat => ((((32 : Int32) * p1) + p2) + (nI j)).toNatClampNeg) (fun j : Nat => (((p3 >>> (((8 : Int32) * ((p4 - (1 : Int32)) - (nI j))).toInt64 &&& 63)).toInt32) &&& (255 : Int32))) p4.toNatClampNeg m2)) := by rw [f_X_insert, if_neg c_1, if_neg c_2, if_neg c_3, if_neg c_4]
          exact W.iret (v := (p2 + p4)) hx hb hr (fun t ht hW => ⟨⟨(p2 + p4), (), rfl, (congrArg (fun z => z.1) hf).symm, by rw [hf]; exact ⟨by rw [ht]; exact hP, va_K.moved hW.alike hK, hD⟩⟩, hS.F ht⟩) hS.2.2 d_X_insert_106

def f_S_load (p1 : Int32) (p2 : Int64) (p3 : Int32) (g r k M D : Nat → Int32) : Nat × Int32 × (Nat → Int32) :=
  if (f_S_demand (f_S_isSpan p1 p3 (1008 : Int32))) = 0 then
    (0, (p1 + p3), (f_S_spread p1 p2 p3 M))
  else
    ((f_S_demand (f_S_isSpan p1 p3 (1008 : Int32))), (0 : Int32), M)
abbrev Q_S_load (dC : Nat → ClassId) (dI : Nat → Nat → Nat) (qs : Nat) (q0 : Nat) (q1 : Nat) (q2 : Nat) (q3 : Nat) (cM : ClassId) (cD : ClassId) (p1 : Int32) (p2 : Int64) (p3 : Int32) (g r k M D : Nat → Int32) (A : Nat → Prop) : Array Value → State → Outcome → State → Prop := va_Qi (fun (r9 : Int32) (_ : Unit) => (f_S_load p1 p2 p3 g r k M D).1 = 0 ∧ r9 = (f_S_load p1 p2 p3 g r k M D).2.1) (fun _ t => atW (dC, dI) classes A [c_S qs q0 q1 g, c_P q0 q1 r, c_B q1 q2 q3 k, c_A q2 cM 1024 ((f_S_load p1 p2 p3 g r k M D).2.2), c_A q3 cD 256 D] [(cM, .int), (cD, .int)] t) A
abbrev X_S_load (dC : Nat → ClassId) (dI : Nat → Nat → Nat) (qs : Nat) (q0 : Nat) (q1 : Nat) (q2 : Nat) (q3 : Nat) (cM : ClassId) (cD : ClassId) (p1 : Int32) (p2 : Int64) (p3 : Int32) (g r k M D : Nat → Int32) (A : Nat → Prop) : String → State → State → Prop := vx_X (fun (_ : Unit) => True) (fun E _ t => ¬ (f_S_load p1 p2 p3 g r k M D).1 = 0 ∧ E = exN (f_S_load p1 p2 p3 g r k M D).1 ∧ atW (dC, dI) classes A [c_S qs q0 q1 g, c_P q0 q1 r, c_B q1 q2 q3 k, c_A q2 cM 1024 ((f_S_load p1 p2 p3 g r k M D).2.2), c_A q3 cD 256 D] [(cM, .int), (cD, .int)] t) A
set_option maxHeartbeats 4000000 in
set_option maxRecDepth 100000 in
theorem c_S_load (l : Launch) (hl9 : l.stackTraces = false) (dC : Nat → ClassId) (dI : Nat → Nat → Nat) (z0 : Nat) (qs : Nat) (q0 : Nat) (q1 : Nat) (q2 : Nat) (q3 : Nat) (cM : ClassId) (cD : ClassId) (sz : Nat) (p1 : Int32) (p2 : Int64) (p3 : Int32) (g r k M D : Nat → Int32)  : vx_Met l y_S_load w_S_load ({ frames := 7, cells := 1, slots := 6, locals := 110 }) (PcX (dC, dI) classes z0 [c_S qs q0 q1 g, c_P q0 q1 r, c_B q1 q2 q3 k, c_A q2 cM 1024 M, c_A q3 cD 256 D] [(cM, .int), (cD, .int)] sz [.ref qs, .int p1, .long p2, .int p3]) (Q_S_load dC dI qs q0 q1 q2 q3 cM cD p1 p2 p3 g r k M D (va_A [c_S qs q0 q1 g, c_P q0 q1 r, c_B q1 q2 q3 k, c_A q2 cM 1024 M, c_A q3 cD 256 D] sz)) (X_S_load dC dI qs q0 q1 q2 q3 cM cD p1 p2 p3 g r k M D (va_A [c_S qs q0 q1 g, c_P q0 q1 r, c_B q1 q2 q3 k, c_A q2 cM 1024 M, c_A q3 cD 256 D] sz)) 1 6 (va_A [c_S qs q0 q1 g, c_P q0 q1 r, c_B q1 q2 q3 k, c_A q2 cM 1024 M, c_A q3 cD 256 D] sz) := by
  refine hdXx (cc := b_S_load) (maxL := 5) (ret := (some .int)) (C := R_S) (Qc := (Q_S_load dC dI qs q0 q1 q2 q3 cM cD p1 p2 p3 g r k M D)) (XC := (X_S_load dC dI qs q0 q1 q2 q3 cM cD p1 p2 p3 g r k M D)) (by decide) rfl ?_
  intro p e s m below meth c A H hx hb hr hlocks hEx hml hown hin htB hP hK hD hA hA0 hE hS
  have hl := lv_entry ([.ref qs, .int p1, .long p2, .int p3]) (n := 5) (Nat.le_of_ble_eq_true rfl)
  rw [lg_entry_eq]
  generalize (lg_sl ([.ref qs, .int p1, .long p2, .int p3]) ++ List.replicate (5 - (lg_sl ([.ref qs, .int p1, .long p2, .int p3])).length) Slot.unset).toArray = ls at hl ⊢
  have hl : lv_has ls 5 [(0, .ref qs), (1, .int p1), (2, .long p2), (4, .int p3)] := hl
  refine lv_iload_n hx hb d_S_load_0 rfl (lv_at hl 1 rfl) ?_
  refine lv_iload hx hb d_S_load_1 (lv_at hl 3 rfl) ?_
  refine lv_sipush (v := 1008) hx hb d_S_load_3 (by decide) ?_
  have hPc := hP.sub (ws' := []) [] rfl
  have hDc := hD.sub (ws' := []) [] (by decide) rfl
  have hKc := hK.sub (tys' := []) [] rfl
  have hFc := va_free (wc := []) hD hS hA [] rfl
  refine va_calli (va_runS (As := [.int p1, .int p3, .int (1008 : Int32)]) (rest := []) ⟨hx, hb, hml, hown, htB⟩ (c_S_isSpan l dC dI z0  H.size p1 p3 (1008 : Int32)) (cwS 3 htB (gd_S mw_124 mw_125 mw_1 mw_126) rfl rfl rfl (by decide +kernel) ⟨Nat.le_of_ble_eq_true rfl, Nat.le_of_ble_eq_true rfl⟩) (pcx_S hPc hKc hDc hA0 hE hS) rfl rfl hl.1 rfl (lv_room (Nat.le_of_ble_eq_true rfl)) d_S_load_6 ⟨Nat.le_of_ble_eq_true rfl, Nat.le_of_ble_eq_true rfl⟩) hS (fun q _ h => hFc q h) hFc (fun r9 u t H1 locs ht hvm hw hB hz1 hk1 hS => ?_)
  subst hw
  obtain ⟨hP1, hK1, hD1⟩ := hB
  rw [ht] at hP1
  obtain ⟨hP, hD⟩ := va_join (wr := [c_S qs q0 q1 g, c_P q0 q1 r, c_B q1 q2 q3 k, c_A q2 cM 1024 M, c_A q3 cD 256 D]) (w1 := []) hP hD [] [0, 1, 2, 3, 4] rfl rfl (by decide) (by decide) hk1 hFc hP1 hD1
  generalize H1 = H at hP hS ⊢
  have hP : va_P (dC, dI) classes [c_S qs q0 q1 g, c_P q0 q1 r, c_B q1 q2 q3 k, c_A q2 cM 1024 M, c_A q3 cD 256 D] H := hP.sub [0, 1, 2, 3, 4] rfl
  have hD : va_D A [c_S qs q0 q1 g, c_P q0 q1 r, c_B q1 q2 q3 k, c_A q2 cM 1024 M, c_A q3 cD 256 D] := hD.sub [0, 1, 2, 3, 4] (by decide) rfl
  have hPc := hP.sub (ws' := []) [] rfl
  have hDc := hD.sub (ws' := []) [] (by decide) rfl
  have hKc := hK.sub (tys' := []) [] rfl
  have hFc := va_free (wc := []) hD hS hA [] rfl
  refine vx_callv (vx_runS (As := [.int (f_S_isSpan p1 p3 (1008 : Int32))]) (rest := []) ⟨hx, hb, hml, hown, htB⟩ (c_S_demand l hl9 dC dI z0  H.size (f_S_isSpan p1 p3 (1008 : Int32))) (cwS 1 htB (gd_S mw_130 mw_131 mw_1 mw_132) rfl rfl rfl (by decide +kernel) ⟨Nat.le_of_ble_eq_true rfl, Nat.le_of_ble_eq_true rfl⟩) (pcx_S hPc hKc hDc hA0 hE hS) rfl rfl hl.1 rfl (lv_room (Nat.le_of_ble_eq_true rfl)) d_S_load_9 ⟨Nat.le_of_ble_eq_true rfl, Nat.le_of_ble_eq_true rfl⟩) hS (fun q _ h => hFc q h) hFc (fun q _ h => hFc q h) (fun E9 ce q9 u t H1 locs ht hvm hw hB hz1 hk1 hS hce hcv hcl => ?_) (fun u t H1 locs ht hvm hw hB hz1 hk1 hS => ?_)
  · obtain ⟨c_1, rfl, hB⟩ := hB
    obtain ⟨hP1, hK1, hD1⟩ := hB
    rw [ht] at hP1
    obtain ⟨hP, hD⟩ := va_join (wr := [c_S qs q0 q1 g, c_P q0 q1 r, c_B q1 q2 q3 k, c_A q2 cM 1024 M, c_A q3 cD 256 D]) (w1 := []) hP hD [] [0, 1, 2, 3, 4] rfl rfl (by decide) (by decide) hk1 hFc hP1 hD1
    generalize H1 = H at hP hS hce ⊢
    have hP : va_P (dC, dI) classes [c_S qs q0 q1 g, c_P q0 q1 r, c_B q1 q2 q3 k, c_A q2 cM 1024 M, c_A q3 cD 256 D] H := hP.sub [0, 1, 2, 3, 4] rfl
    have hD : va_D A [c_S qs q0 q1 g, c_P q0 q1 r, c_B q1 q2 q3 k, c_A q2 cM 1024 M, c_A q3 cD 256 D] := hD.sub [0, 1, 2, 3, 4] (by decide) rfl
    have hf : f_S_load p1 p2 p3 g r k M D = ((f_S_demand (f_S_isSpan p1 p3 (1008 : Int32))), (0 : Int32), M) := by rw [f_S_load, if_neg c_1]
    exact vx_widen (k := 1) (n := 6) (by decide) (by decide) (vx_out (E := _) (fun x hx => (hEx x hx).elim) hlocks hce hcv hcl (fun t ht ha => ⟨(), trivial, by rw [hf]; exact ⟨c_1, rfl, ⟨by rw [ht]; exact hP, va_K.moved ha hK, hD⟩⟩, hS.F ht⟩) hS.2.2 (Nat.le_refl _) (Nat.le_refl _))
  · have c_1 := hw
    obtain ⟨hP1, hK1, hD1⟩ := hB
    rw [ht] at hP1
    obtain ⟨hP, hD⟩ := va_join (wr := [c_S qs q0 q1 g, c_P q0 q1 r, c_B q1 q2 q3 k, c_A q2 cM 1024 M, c_A q3 cD 256 D]) (w1 := []) hP hD [] [0, 1, 2, 3, 4] rfl rfl (by decide) (by decide) hk1 hFc hP1 hD1
    generalize H1 = H at hP hS ⊢
    have hP : va_P (dC, dI) classes [c_S qs q0 q1 g, c_P q0 q1 r, c_B q1 q2 q3 k, c_A q2 cM 1024 M, c_A q3 cD 256 D] H := hP.sub [0, 1, 2, 3, 4] rfl
    have hD : va_D A [c_S qs q0 q1 g, c_P q0 q1 r, c_B q1 q2 q3 k, c_A q2 cM 1024 M, c_A q3 cD 256 D] := hD.sub [0, 1, 2, 3, 4] (by decide) rfl
    refine lv_aload_n hx hb d_S_load_12 rfl (lv_at hl 0 rfl) ?_
    refine va_get (D := (dC, dI)) (ci := 0) (v := .ref q1) (C := R_S) (T := F_S) (N := 4) hx hb htB i_S hown hK hP 0 rfl rfl 1 (by decide) (htB _ mw_100) (fun _ h9 => h9) rfl d_S_load_13 ?_
    refine va_getN (D := (dC, dI)) (ci := 2) (v := .ref q2) (C := R_B) (T := F_B) (N := 5) hx hb htB i_B hown hK hP 2 rfl rfl 0 (by decide) (va_Nw.use rfl (hE.2.1 _ ew_35)) (fun _ h9 => h9) rfl d_S_load_16 ?_
    refine lv_iload_n hx hb d_S_load_19 rfl (lv_at hl 1 rfl) ?_
    refine lv_lload_n hx hb d_S_load_20 rfl (lv_at hl 2 rfl) ?_
    refine lv_iload hx hb d_S_load_21 (lv_at hl 3 rfl) ?_
    have hPc := hP.sub (ws' := [c_A q2 cM 1024 M]) [3] rfl
    have hDc := hD.sub (ws' := [c_A q2 cM 1024 M]) [3] (by decide) rfl
    have hKc := hK.sub (tys' := [(cM, .int)]) [0] rfl
    have hFc := va_free (wc := [c_A q2 cM 1024 M]) hD hS hA [3] rfl
    refine va_callv (va_runS (As := [.ref q2, .int p1, .long p2, .int p3]) (rest := []) ⟨hx, hb, hml, hown, htB⟩ (c_S_spread l dC dI z0 q2 cM 1024 H.size p1 p2 p3 M ((sl_ok c_1).1) ((sl_ok c_1).2.1) ((sl_ok c_1).2.2)) (cwS 4 htB (gd_S mw_203 mw_204 mw_1 mw_205) rfl rfl rfl (by decide +kernel) ⟨Nat.le_of_ble_eq_true rfl, Nat.le_of_ble_eq_true rfl⟩) (pcx_S hPc hKc hDc hA0 hE hS) rfl rfl hl.1 rfl (lv_room (Nat.le_of_ble_eq_true rfl)) d_S_load_23 ⟨Nat.le_of_ble_eq_true rfl, Nat.le_of_ble_eq_true rfl⟩) hS (fun q _ h => hFc q h) hFc (fun u t H1 locs ht hvm hw hB hz1 hk1 hS => ?_)
    obtain ⟨hP1, hK1, hD1⟩ := hB
    rw [ht] at hP1
    obtain ⟨hP, hD⟩ := va_join (wr := [c_S qs q0 q1 g, c_P q0 q1 r, c_B q1 q2 q3 k, c_A q3 cD 256 D]) (w1 := [c_A q2 cM 1024 (f_S_spread p1 p2 p3 M)]) hP hD [3] [0, 1, 2, 4] rfl rfl (by decide) (by decide) hk1 hFc hP1 hD1
    generalize H1 = H at hP hS ⊢
    have hP : va_P (dC, dI) classes [c_S qs q0 q1 g, c_P q0 q1 r, c_B q1 q2 q3 k, c_A q2 cM 1024 (f_S_spread p1 p2 p3 M), c_A q3 cD 256 D] H := hP.sub [0, 1, 2, 4, 3] rfl
    have hD : va_D A [c_S qs q0 q1 g, c_P q0 q1 r, c_B q1 q2 q3 k, c_A q2 cM 1024 (f_S_spread p1 p2 p3 M), c_A q3 cD 256 D] := hD.sub [0, 1, 2, 4, 3] (by decide) rfl
    refine lv_iload_n hx hb d_S_load_26 rfl (lv_at hl 1 rfl) ?_
    refine lv_iload hx hb d_S_load_27 (lv_at hl 3 rfl) ?_
    refine lv_iadd hx hb d_S_load_29 ?_
    have hf : f_S_load p1 p2 p3 g r k M D = (0, (p1 + p3), (f_S_spread p1 p2 p3 M)) := by rw [f_S_load, if_pos c_1]
    refine W.widen (k := 1) (n := 6) (by decide) (by decide) ?_
    exact vx_ret (W.iret (v := (p1 + p3)) hx hb hr (fun t ht hW => ⟨⟨(p1 + p3), (), rfl, by rw [hf]; exact ⟨rfl, rfl⟩, by rw [hf]; exact ⟨by rw [ht]; exact hP, va_K.moved hW.alike hK, hD⟩⟩, hS.F ht⟩) hS.2.2 d_S_load_30)

def f_S_insert (p1 : Int32) (p2 : Int32) (p3 : Int64) (p4 : Int32) (g r k M D : Nat → Int32) : Nat × Int32 × (Nat → Int32) :=
  if (f_S_isWithin p1 (7 : Int32)) = (0 : Int32) then
    ((f_S_demand (0 : Int32)), (0 : Int32), D)
  else
    if (f_S_isSpan p2 p4 (32 : Int32)) = (0 : Int32) then
      ((f_S_demand (0 : Int32)), (0 : Int32), D)
    else
      (0, (p2 + p4), (f_S_spread ((p1 * (32 : Int32)) + p2) p3 p4 D))
abbrev Q_S_insert (dC : Nat → ClassId) (dI : Nat → Nat → Nat) (qs : Nat) (q0 : Nat) (q1 : Nat) (q2 : Nat) (q3 : Nat) (cM : ClassId) (cD : ClassId) (p1 : Int32) (p2 : Int32) (p3 : Int64) (p4 : Int32) (g r k M D : Nat → Int32) (A : Nat → Prop) : Array Value → State → Outcome → State → Prop := va_Qi (fun (r9 : Int32) (_ : Unit) => (f_S_insert p1 p2 p3 p4 g r k M D).1 = 0 ∧ r9 = (f_S_insert p1 p2 p3 p4 g r k M D).2.1) (fun _ t => atW (dC, dI) classes A [c_S qs q0 q1 g, c_P q0 q1 r, c_B q1 q2 q3 k, c_A q2 cM 1024 M, c_A q3 cD 256 ((f_S_insert p1 p2 p3 p4 g r k M D).2.2)] [(cM, .int), (cD, .int)] t) A
abbrev X_S_insert (dC : Nat → ClassId) (dI : Nat → Nat → Nat) (qs : Nat) (q0 : Nat) (q1 : Nat) (q2 : Nat) (q3 : Nat) (cM : ClassId) (cD : ClassId) (p1 : Int32) (p2 : Int32) (p3 : Int64) (p4 : Int32) (g r k M D : Nat → Int32) (A : Nat → Prop) : String → State → State → Prop := vx_X (fun (_ : Unit) => True) (fun E _ t => ¬ (f_S_insert p1 p2 p3 p4 g r k M D).1 = 0 ∧ E = exN (f_S_insert p1 p2 p3 p4 g r k M D).1 ∧ atW (dC, dI) classes A [c_S qs q0 q1 g, c_P q0 q1 r, c_B q1 q2 q3 k, c_A q2 cM 1024 M, c_A q3 cD 256 ((f_S_insert p1 p2 p3 p4 g r k M D).2.2)] [(cM, .int), (cD, .int)] t) A
set_option maxHeartbeats 4000000 in
set_option maxRecDepth 100000 in
theorem c_S_insert (l : Launch) (hl9 : l.stackTraces = false) (dC : Nat → ClassId) (dI : Nat → Nat → Nat) (z0 : Nat) (qs : Nat) (q0 : Nat) (q1 : Nat) (q2 : Nat) (q3 : Nat) (cM : ClassId) (cD : ClassId) (sz : Nat) (p1 : Int32) (p2 : Int32) (p3 : Int64) (p4 : Int32) (g r k M D : Nat → Int32)  : vx_Met l y_S_insert w_S_insert ({ frames := 7, cells := 1, slots := 6, locals := 110 }) (PcX (dC, dI) classes z0 [c_S qs q0 q1 g, c_P q0 q1 r, c_B q1 q2 q3 k, c_A q2 cM 1024 M, c_A q3 cD 256 D] [(cM, .int), (cD, .int)] sz [.ref qs, .int p1, .int p2, .long p3, .int p4]) (Q_S_insert dC dI qs q0 q1 q2 q3 cM cD p1 p2 p3 p4 g r k M D (va_A [c_S qs q0 q1 g, c_P q0 q1 r, c_B q1 q2 q3 k, c_A q2 cM 1024 M, c_A q3 cD 256 D] sz)) (X_S_insert dC dI qs q0 q1 q2 q3 cM cD p1 p2 p3 p4 g r k M D (va_A [c_S qs q0 q1 g, c_P q0 q1 r, c_B q1 q2 q3 k, c_A q2 cM 1024 M, c_A q3 cD 256 D] sz)) 1 6 (va_A [c_S qs q0 q1 g, c_P q0 q1 r, c_B q1 q2 q3 k, c_A q2 cM 1024 M, c_A q3 cD 256 D] sz) := by
  refine hdXx (cc := b_S_insert) (maxL := 6) (ret := (some .int)) (C := R_S) (Qc := (Q_S_insert dC dI qs q0 q1 q2 q3 cM cD p1 p2 p3 p4 g r k M D)) (XC := (X_S_insert dC dI qs q0 q1 q2 q3 cM cD p1 p2 p3 p4 g r k M D)) (by decide) rfl ?_
  intro p e s m below meth c A H hx hb hr hlocks hEx hml hown hin htB hP hK hD hA hA0 hE hS
  have hl := lv_entry ([.ref qs, .int p1, .int p2, .long p3, .int p4]) (n := 6) (Nat.le_of_ble_eq_true rfl)
  rw [lg_entry_eq]
  generalize (lg_sl ([.ref qs, .int p1, .int p2, .long p3, .int p4]) ++ List.replicate (6 - (lg_sl ([.ref qs, .int p1, .int p2, .long p3, .int p4])).length) Slot.unset).toArray = ls at hl ⊢
  have hl : lv_has ls 6 [(0, .ref qs), (1, .int p1), (2, .int p2), (3, .long p3), (5, .int p4)] := hl
  refine lv_iload_n hx hb d_S_insert_0 rfl (lv_at hl 1 rfl) ?_
  refine lv_bipush (v := 7) hx hb d_S_insert_1 (by decide) ?_
  have hPc := hP.sub (ws' := []) [] rfl
  have hDc := hD.sub (ws' := []) [] (by decide) rfl
  have hKc := hK.sub (tys' := []) [] rfl
  have hFc := va_free (wc := []) hD hS hA [] rfl
  refine va_calli (va_runS (As := [.int p1, .int (7 : Int32)]) (rest := []) ⟨hx, hb, hml, hown, htB⟩ (c_S_isWithin l dC dI z0  H.size p1 (7 : Int32)) (cwS 2 htB (gd_S mw_127 mw_128 mw_1 mw_129) rfl rfl rfl (by decide +kernel) ⟨Nat.le_of_ble_eq_true rfl, Nat.le_of_ble_eq_true rfl⟩) (pcx_S hPc hKc hDc hA0 hE hS) rfl rfl hl.1 rfl (lv_room (Nat.le_of_ble_eq_true rfl)) d_S_insert_3 ⟨Nat.le_of_ble_eq_true rfl, Nat.le_of_ble_eq_true rfl⟩) hS (fun q _ h => hFc q h) hFc (fun r9 u t H1 locs ht hvm hw hB hz1 hk1 hS => ?_)
  subst hw
  obtain ⟨hP1, hK1, hD1⟩ := hB
  rw [ht] at hP1
  obtain ⟨hP, hD⟩ := va_join (wr := [c_S qs q0 q1 g, c_P q0 q1 r, c_B q1 q2 q3 k, c_A q2 cM 1024 M, c_A q3 cD 256 D]) (w1 := []) hP hD [] [0, 1, 2, 3, 4] rfl rfl (by decide) (by decide) hk1 hFc hP1 hD1
  generalize H1 = H at hP hS ⊢
  have hP : va_P (dC, dI) classes [c_S qs q0 q1 g, c_P q0 q1 r, c_B q1 q2 q3 k, c_A q2 cM 1024 M, c_A q3 cD 256 D] H := hP.sub [0, 1, 2, 3, 4] rfl
  have hD : va_D A [c_S qs q0 q1 g, c_P q0 q1 r, c_B q1 q2 q3 k, c_A q2 cM 1024 M, c_A q3 cD 256 D] := hD.sub [0, 1, 2, 3, 4] (by decide) rfl
  refine lv_if_eq (tgt := 24) hx hb d_S_insert_6 (by decide) (fun c_1 => ?_) (fun c_1 => ?_)
  · refine lv_iconst (v := 0) hx hb d_S_insert_24 (by decide) ?_
    have hPc := hP.sub (ws' := []) [] rfl
    have hDc := hD.sub (ws' := []) [] (by decide) rfl
    have hKc := hK.sub (tys' := []) [] rfl
    have hFc := va_free (wc := []) hD hS hA [] rfl
    refine vx_callv (vx_runS (As := [.int (0 : Int32)]) (rest := []) ⟨hx, hb, hml, hown, htB⟩ (c_S_demand l hl9 dC dI z0  H.size (0 : Int32)) (cwS 1 htB (gd_S mw_130 mw_131 mw_1 mw_132) rfl rfl rfl (by decide +kernel) ⟨Nat.le_of_ble_eq_true rfl, Nat.le_of_ble_eq_true rfl⟩) (pcx_S hPc hKc hDc hA0 hE hS) rfl rfl hl.1 rfl (lv_room (Nat.le_of_ble_eq_true rfl)) d_S_insert_25 ⟨Nat.le_of_ble_eq_true rfl, Nat.le_of_ble_eq_true rfl⟩) hS (fun q _ h => hFc q h) hFc (fun q _ h => hFc q h) (fun E9 ce q9 u t H1 locs ht hvm hw hB hz1 hk1 hS hce hcv hcl => ?_) (fun u t H1 locs ht hvm hw hB hz1 hk1 hS => ?_)
    · obtain ⟨c_2, rfl, hB⟩ := hB
      obtain ⟨hP1, hK1, hD1⟩ := hB
      rw [ht] at hP1
      obtain ⟨hP, hD⟩ := va_join (wr := [c_S qs q0 q1 g, c_P q0 q1 r, c_B q1 q2 q3 k, c_A q2 cM 1024 M, c_A q3 cD 256 D]) (w1 := []) hP hD [] [0, 1, 2, 3, 4] rfl rfl (by decide) (by decide) hk1 hFc hP1 hD1
      generalize H1 = H at hP hS hce ⊢
      have hP : va_P (dC, dI) classes [c_S qs q0 q1 g, c_P q0 q1 r, c_B q1 q2 q3 k, c_A q2 cM 1024 M, c_A q3 cD 256 D] H := hP.sub [0, 1, 2, 3, 4] rfl
      have hD : va_D A [c_S qs q0 q1 g, c_P q0 q1 r, c_B q1 q2 q3 k, c_A q2 cM 1024 M, c_A q3 cD 256 D] := hD.sub [0, 1, 2, 3, 4] (by decide) rfl
      have hf : f_S_insert p1 p2 p3 p4 g r k M D = ((f_S_demand (0 : Int32)), (0 : Int32), D) := by rw [f_S_insert, if_pos c_1]
      exact vx_widen (k := 1) (n := 6) (by decide) (by decide) (vx_out (E := _) (fun x hx => (hEx x hx).elim) hlocks hce hcv hcl (fun t ht ha => ⟨(), trivial, by rw [hf]; exact ⟨c_2, rfl, ⟨by rw [ht]; exact hP, va_K.moved ha hK, hD⟩⟩, hS.F ht⟩) hS.2.2 (Nat.le_refl _) (Nat.le_refl _))
    · exact absurd hw (show ¬ (f_S_demand (0 : Int32)) = 0 from by decide)
  · refine lv_iload_n hx hb d_S_insert_9 rfl (lv_at hl 2 rfl) ?_
    refine lv_iload hx hb d_S_insert_10 (lv_at hl 4 rfl) ?_
    refine lv_bipush (v := 32) hx hb d_S_insert_12 (by decide) ?_
    have hPc := hP.sub (ws' := []) [] rfl
    have hDc := hD.sub (ws' := []) [] (by decide) rfl
    have hKc := hK.sub (tys' := []) [] rfl
    have hFc := va_free (wc := []) hD hS hA [] rfl
    refine va_calli (va_runS (As := [.int p2, .int p4, .int (32 : Int32)]) (rest := []) ⟨hx, hb, hml, hown, htB⟩ (c_S_isSpan l dC dI z0  H.size p2 p4 (32 : Int32)) (cwS 3 htB (gd_S mw_124 mw_125 mw_1 mw_126) rfl rfl rfl (by decide +kernel) ⟨Nat.le_of_ble_eq_true rfl, Nat.le_of_ble_eq_true rfl⟩) (pcx_S hPc hKc hDc hA0 hE hS) rfl rfl hl.1 rfl (lv_room (Nat.le_of_ble_eq_true rfl)) d_S_insert_14 ⟨Nat.le_of_ble_eq_true rfl, Nat.le_of_ble_eq_true rfl⟩) hS (fun q _ h => hFc q h) hFc (fun r9 u t H1 locs ht hvm hw hB hz1 hk1 hS => ?_)
    subst hw
    obtain ⟨hP1, hK1, hD1⟩ := hB
    rw [ht] at hP1
    obtain ⟨hP, hD⟩ := va_join (wr := [c_S qs q0 q1 g, c_P q0 q1 r, c_B q1 q2 q3 k, c_A q2 cM 1024 M, c_A q3 cD 256 D]) (w1 := []) hP hD [] [0, 1, 2, 3, 4] rfl rfl (by decide) (by decide) hk1 hFc hP1 hD1
    generalize H1 = H at hP hS ⊢
    have hP : va_P (dC, dI) classes [c_S qs q0 q1 g, c_P q0 q1 r, c_B q1 q2 q3 k, c_A q2 cM 1024 M, c_A q3 cD 256 D] H := hP.sub [0, 1, 2, 3, 4] rfl
    have hD : va_D A [c_S qs q0 q1 g, c_P q0 q1 r, c_B q1 q2 q3 k, c_A q2 cM 1024 M, c_A q3 cD 256 D] := hD.sub [0, 1, 2, 3, 4] (by decide) rfl
    refine lv_if_eq (tgt := 24) hx hb d_S_insert_17 (by decide) (fun c_2 => ?_) (fun c_2 => ?_)
    · refine lv_iconst (v := 0) hx hb d_S_insert_24 (by decide) ?_
      have hPc := hP.sub (ws' := []) [] rfl
      have hDc := hD.sub (ws' := []) [] (by decide) rfl
      have hKc := hK.sub (tys' := []) [] rfl
      have hFc := va_free (wc := []) hD hS hA [] rfl
      refine vx_callv (vx_runS (As := [.int (0 : Int32)]) (rest := []) ⟨hx, hb, hml, hown, htB⟩ (c_S_demand l hl9 dC dI z0  H.size (0 : Int32)) (cwS 1 htB (gd_S mw_130 mw_131 mw_1 mw_132) rfl rfl rfl (by decide +kernel) ⟨Nat.le_of_ble_eq_true rfl, Nat.le_of_ble_eq_true rfl⟩) (pcx_S hPc hKc hDc hA0 hE hS) rfl rfl hl.1 rfl (lv_room (Nat.le_of_ble_eq_true rfl)) d_S_insert_25 ⟨Nat.le_of_ble_eq_true rfl, Nat.le_of_ble_eq_true rfl⟩) hS (fun q _ h => hFc q h) hFc (fun q _ h => hFc q h) (fun E9 ce q9 u t H1 locs ht hvm hw hB hz1 hk1 hS hce hcv hcl => ?_) (fun u t H1 locs ht hvm hw hB hz1 hk1 hS => ?_)
      · obtain ⟨c_3, rfl, hB⟩ := hB
        obtain ⟨hP1, hK1, hD1⟩ := hB
        rw [ht] at hP1
        obtain ⟨hP, hD⟩ := va_join (wr := [c_S qs q0 q1 g, c_P q0 q1 r, c_B q1 q2 q3 k, c_A q2 cM 1024 M, c_A q3 cD 256 D]) (w1 := []) hP hD [] [0, 1, 2, 3, 4] rfl rfl (by decide) (by decide) hk1 hFc hP1 hD1
        generalize H1 = H at hP hS hce ⊢
        have hP : va_P (dC, dI) classes [c_S qs q0 q1 g, c_P q0 q1 r, c_B q1 q2 q3 k, c_A q2 cM 1024 M, c_A q3 cD 256 D] H := hP.sub [0, 1, 2, 3, 4] rfl
        have hD : va_D A [c_S qs q0 q1 g, c_P q0 q1 r, c_B q1 q2 q3 k, c_A q2 cM 1024 M, c_A q3 cD 256 D] := hD.sub [0, 1, 2, 3, 4] (by decide) rfl
        have hf : f_S_insert p1 p2 p3 p4 g r k M D = ((f_S_demand (0 : Int32)), (0 : Int32), D) := by rw [f_S_insert, if_neg c_1, if_pos c_2]
        exact vx_widen (k := 1) (n := 6) (by decide) (by decide) (vx_out (E := _) (fun x hx => (hEx x hx).elim) hlocks hce hcv hcl (fun t ht ha => ⟨(), trivial, by rw [hf]; exact ⟨c_3, rfl, ⟨by rw [ht]; exact hP, va_K.moved ha hK, hD⟩⟩, hS.F ht⟩) hS.2.2 (Nat.le_refl _) (Nat.le_refl _))
      · exact absurd hw (show ¬ (f_S_demand (0 : Int32)) = 0 from by decide)
    · refine lv_iconst (v := 1) hx hb d_S_insert_20 (by decide) ?_
      refine lv_goto (tgt := 25) hx hb d_S_insert_21 (by decide) ?_
      have hPc := hP.sub (ws' := []) [] rfl
      have hDc := hD.sub (ws' := []) [] (by decide) rfl
      have hKc := hK.sub (tys' := []) [] rfl
      have hFc := va_free (wc := []) hD hS hA [] rfl
      refine vx_callv (vx_runS (As := [.int (1 : Int32)]) (rest := []) ⟨hx, hb, hml, hown, htB⟩ (c_S_demand l hl9 dC dI z0  H.size (1 : Int32)) (cwS 1 htB (gd_S mw_130 mw_131 mw_1 mw_132) rfl rfl rfl (by decide +kernel) ⟨Nat.le_of_ble_eq_true rfl, Nat.le_of_ble_eq_true rfl⟩) (pcx_S hPc hKc hDc hA0 hE hS) rfl rfl hl.1 rfl (lv_room (Nat.le_of_ble_eq_true rfl)) d_S_insert_25 ⟨Nat.le_of_ble_eq_true rfl, Nat.le_of_ble_eq_true rfl⟩) hS (fun q _ h => hFc q h) hFc (fun q _ h => hFc q h) (fun E9 ce q9 u t H1 locs ht hvm hw hB hz1 hk1 hS hce hcv hcl => ?_) (fun u t H1 locs ht hvm hw hB hz1 hk1 hS => ?_)
      · exact absurd (show (f_S_demand (1 : Int32)) = 0 from by decide) hB.1
      · have c_3 := hw
        obtain ⟨hP1, hK1, hD1⟩ := hB
        rw [ht] at hP1
        obtain ⟨hP, hD⟩ := va_join (wr := [c_S qs q0 q1 g, c_P q0 q1 r, c_B q1 q2 q3 k, c_A q2 cM 1024 M, c_A q3 cD 256 D]) (w1 := []) hP hD [] [0, 1, 2, 3, 4] rfl rfl (by decide) (by decide) hk1 hFc hP1 hD1
        generalize H1 = H at hP hS ⊢
        have hP : va_P (dC, dI) classes [c_S qs q0 q1 g, c_P q0 q1 r, c_B q1 q2 q3 k, c_A q2 cM 1024 M, c_A q3 cD 256 D] H := hP.sub [0, 1, 2, 3, 4] rfl
        have hD : va_D A [c_S qs q0 q1 g, c_P q0 q1 r, c_B q1 q2 q3 k, c_A q2 cM 1024 M, c_A q3 cD 256 D] := hD.sub [0, 1, 2, 3, 4] (by decide) rfl
        refine lv_aload_n hx hb d_S_insert_28 rfl (lv_at hl 0 rfl) ?_
        refine va_get (D := (dC, dI)) (ci := 0) (v := .ref q1) (C := R_S) (T := F_S) (N := 4) hx hb htB i_S hown hK hP 0 rfl rfl 1 (by decide) (htB _ mw_100) (fun _ h9 => h9) rfl d_S_insert_29 ?_
        refine va_getN (D := (dC, dI)) (ci := 2) (v := .ref q3) (C := R_B) (T := F_B) (N := 5) hx hb htB i_B hown hK hP 2 rfl rfl 1 (by decide) (va_Nw.use rfl (hE.2.1 _ ew_38)) (fun _ h9 => h9) rfl d_S_insert_32 ?_
        refine lv_iload_n hx hb d_S_insert_35 rfl (lv_at hl 1 rfl) ?_
        refine lv_bipush (v := 32) hx hb d_S_insert_36 (by decide) ?_
        refine lv_imul hx hb d_S_insert_38 ?_
        refine lv_iload_n hx hb d_S_insert_39 rfl (lv_at hl 2 rfl) ?_
        refine lv_iadd hx hb d_S_insert_40 ?_
        refine lv_lload_n hx hb d_S_insert_41 rfl (lv_at hl 3 rfl) ?_
        refine lv_iload hx hb d_S_insert_42 (lv_at hl 4 rfl) ?_
        have hPc := hP.sub (ws' := [c_A q3 cD 256 D]) [4] rfl
        have hDc := hD.sub (ws' := [c_A q3 cD 256 D]) [4] (by decide) rfl
        have hKc := hK.sub (tys' := [(cD, .int)]) [1] rfl
        have hFc := va_free (wc := [c_A q3 cD 256 D]) hD hS hA [4] rfl
        refine va_callv (va_runS (As := [.ref q3, .int ((p1 * (32 : Int32)) + p2), .long p3, .int p4]) (rest := []) ⟨hx, hb, hml, hown, htB⟩ (c_S_spread l dC dI z0 q3 cD 256 H.size ((p1 * (32 : Int32)) + p2) p3 p4 D ((si_ok c_1 c_2).1) ((si_ok c_1 c_2).2.1) ((si_ok c_1 c_2).2.2)) (cwS 4 htB (gd_S mw_203 mw_204 mw_1 mw_205) rfl rfl rfl (by decide +kernel) ⟨Nat.le_of_ble_eq_true rfl, Nat.le_of_ble_eq_true rfl⟩) (pcx_S hPc hKc hDc hA0 hE hS) rfl rfl hl.1 rfl (lv_room (Nat.le_of_ble_eq_true rfl)) d_S_insert_44 ⟨Nat.le_of_ble_eq_true rfl, Nat.le_of_ble_eq_true rfl⟩) hS (fun q _ h => hFc q h) hFc (fun u t H1 locs ht hvm hw hB hz1 hk1 hS => ?_)
        obtain ⟨hP1, hK1, hD1⟩ := hB
        rw [ht] at hP1
        obtain ⟨hP, hD⟩ := va_join (wr := [c_S qs q0 q1 g, c_P q0 q1 r, c_B q1 q2 q3 k, c_A q2 cM 1024 M]) (w1 := [c_A q3 cD 256 (f_S_spread ((p1 * (32 : Int32)) + p2) p3 p4 D)]) hP hD [4] [0, 1, 2, 3] rfl rfl (by decide) (by decide) hk1 hFc hP1 hD1
        generalize H1 = H at hP hS ⊢
        have hP : va_P (dC, dI) classes [c_S qs q0 q1 g, c_P q0 q1 r, c_B q1 q2 q3 k, c_A q2 cM 1024 M, c_A q3 cD 256 (f_S_spread ((p1 * (32 : Int32)) + p2) p3 p4 D)] H := hP.sub [0, 1, 2, 3, 4] rfl
        have hD : va_D A [c_S qs q0 q1 g, c_P q0 q1 r, c_B q1 q2 q3 k, c_A q2 cM 1024 M, c_A q3 cD 256 (f_S_spread ((p1 * (32 : Int32)) + p2) p3 p4 D)] := hD.sub [0, 1, 2, 3, 4] (by decide) rfl
        refine lv_iload_n hx hb d_S_insert_47 rfl (lv_at hl 2 rfl) ?_
        refine lv_iload hx hb d_S_insert_48 (lv_at hl 4 rfl) ?_
        refine lv_iadd hx hb d_S_insert_50 ?_
        have hf : f_S_insert p1 p2 p3 p4 g r k M D = (0, (p2 + p4), (f_S_spread ((p1 * (32 : Int32)) + p2) p3 p4 D)) := by rw [f_S_insert, if_neg c_1, if_neg c_2]
        refine W.widen (k := 1) (n := 6) (by decide) (by decide) ?_
        exact vx_ret (W.iret (v := (p2 + p4)) hx hb hr (fun t ht hW => ⟨⟨(p2 + p4), (), rfl, by rw [hf]; exact ⟨rfl, rfl⟩, by rw [hf]; exact ⟨by rw [ht]; exact hP, va_K.moved hW.alike hK, hD⟩⟩, hS.F ht⟩) hS.2.2 d_S_insert_51)
