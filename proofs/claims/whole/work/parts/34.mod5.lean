def f_X_single_k17 (p1 : Int32) (ku m1 m2 m3 : Nat → Int32) (z1 : (Nat → Int32) × (Nat → Int32)) (z2 : (Nat → Int32) × (Nat → Int32) × (Nat → Int32) × (Nat → Int32)) (z3 : (Nat → Int32) × (Nat → Int32) × (Nat → Int32) × (Nat → Int32)) : (Nat → Int32) × (Nat → Int32) × (Nat → Int32) × (Nat → Int32) :=
  (z3.1, z3.2.1, z3.2.2.1, (upd z3.2.2.2 4 ((z3.1 7) &&& (1023 : Int32))))
def f_X_single_k16 (p1 : Int32) (ku m1 m2 m3 : Nat → Int32) (z1 : (Nat → Int32) × (Nat → Int32)) (z2 : (Nat → Int32) × (Nat → Int32) × (Nat → Int32) × (Nat → Int32)) : (Nat → Int32) × (Nat → Int32) × (Nat → Int32) × (Nat → Int32) :=
  f_X_single_k17 p1 ku m1 m2 m3 z1 z2 (f_X_push ((((z1.2 4) - (1 : Int32)) &&& (1023 : Int32)) - (((z1.2 4) - (1 : Int32)) &&& (1023 : Int32)) / (256 : Int32) * (256 : Int32)) z2.1 z2.2.1 z2.2.2.1 z2.2.2.2)
def f_X_single_k15 (p1 : Int32) (ku m1 m2 m3 : Nat → Int32) (z1 : (Nat → Int32) × (Nat → Int32)) : (Nat → Int32) × (Nat → Int32) × (Nat → Int32) × (Nat → Int32) :=
  f_X_single_k16 p1 ku m1 m2 m3 z1 (f_X_push ((((z1.2 4) - (1 : Int32)) &&& (1023 : Int32)) / (256 : Int32)) z1.1 m1 m2 z1.2)
def f_X_single_k14 (p1 : Int32) (ku m1 m2 m3 : Nat → Int32) (z1 : Int32 × (Nat → Int32) × (Nat → Int32)) (z2 : Int32 × (Nat → Int32) × (Nat → Int32)) : (Nat → Int32) × (Nat → Int32) × (Nat → Int32) × (Nat → Int32) :=
  (z2.2.1, m1, m2, (upd z2.2.2 4 (((z1.1 + ((256 : Int32) * z2.1)) + (1 : Int32)) &&& (1023 : Int32))))
def f_X_single_k13 (p1 : Int32) (ku m1 m2 m3 : Nat → Int32) (z1 : Int32 × (Nat → Int32) × (Nat → Int32)) : (Nat → Int32) × (Nat → Int32) × (Nat → Int32) × (Nat → Int32) :=
  f_X_single_k14 p1 ku m1 m2 m3 z1 (f_X_pull z1.2.1 m1 z1.2.2)
def f_X_single_k12 (p1 : Int32) (ku m1 m2 m3 : Nat → Int32) (z1 : Int32) (z2 : (Nat → Int32) × (Nat → Int32) × (Nat → Int32) × (Nat → Int32)) : (Nat → Int32) × (Nat → Int32) × (Nat → Int32) × (Nat → Int32) :=
  (z2.1, z2.2.1, z2.2.2.1, z2.2.2.2)
def f_X_single_k11 (p1 : Int32) (ku m1 m2 m3 : Nat → Int32) (z1 : Int32) : (Nat → Int32) × (Nat → Int32) × (Nat → Int32) × (Nat → Int32) :=
  f_X_single_k12 p1 ku m1 m2 m3 z1 (f_X_push z1 ku m1 m2 m3)
def f_X_single_k10 (p1 : Int32) (ku m1 m2 m3 : Nat → Int32) (z1 : Int32 × (Nat → Int32) × (Nat → Int32)) (z2 : (Nat → Int32)) : (Nat → Int32) × (Nat → Int32) × (Nat → Int32) × (Nat → Int32) :=
  (z1.2.1, m1, m2, z2)
def f_X_single_k9 (p1 : Int32) (ku m1 m2 m3 : Nat → Int32) (z1 : Int32 × (Nat → Int32) × (Nat → Int32)) : (Nat → Int32) × (Nat → Int32) × (Nat → Int32) × (Nat → Int32) :=
  f_X_single_k10 p1 ku m1 m2 m3 z1 (f_X_setStatus z1.1 z1.2.1 z1.2.2)
def f_X_single_k8 (p1 : Int32) (ku m1 m2 m3 : Nat → Int32) (z1 : (Nat → Int32) × (Nat → Int32) × (Nat → Int32) × (Nat → Int32)) : (Nat → Int32) × (Nat → Int32) × (Nat → Int32) × (Nat → Int32) :=
  (z1.1, z1.2.1, z1.2.2.1, z1.2.2.2)
def f_X_single_k7 (p1 : Int32) (ku m1 m2 m3 : Nat → Int32) (z1 : Int32 × (Nat → Int32) × (Nat → Int32)) (z2 : (Nat → Int32)) : (Nat → Int32) × (Nat → Int32) × (Nat → Int32) × (Nat → Int32) :=
  (z1.2.1, m1, m2, z2)
def f_X_single_k6 (p1 : Int32) (ku m1 m2 m3 : Nat → Int32) (z1 : Int32 × (Nat → Int32) × (Nat → Int32)) : (Nat → Int32) × (Nat → Int32) × (Nat → Int32) × (Nat → Int32) :=
  f_X_single_k7 p1 ku m1 m2 m3 z1 (f_X_put3 (0 : Int32) z1.1 (1 : Int32) z1.2.1 z1.2.2)
def f_X_single_k5 (p1 : Int32) (ku m1 m2 m3 : Nat → Int32) (z1 : (Nat → Int32)) : (Nat → Int32) × (Nat → Int32) × (Nat → Int32) × (Nat → Int32) :=
  (ku, m1, m2, z1)
def f_X_single_k4 (p1 : Int32) (ku m1 m2 m3 : Nat → Int32) (z1 : (Nat → Int32)) : (Nat → Int32) × (Nat → Int32) × (Nat → Int32) × (Nat → Int32) :=
  (ku, m1, m2, z1)
def f_X_single_k3 (p1 : Int32) (ku m1 m2 m3 : Nat → Int32) (z1 : (Nat → Int32)) : (Nat → Int32) × (Nat → Int32) × (Nat → Int32) × (Nat → Int32) :=
  (ku, m1, m2, z1)
def f_X_single_k2 (p1 : Int32) (ku m1 m2 m3 : Nat → Int32) (z1 : (Nat → Int32)) : (Nat → Int32) × (Nat → Int32) × (Nat → Int32) × (Nat → Int32) :=
  (ku, m1, m2, z1)
def f_X_single_k1 (p1 : Int32) (ku m1 m2 m3 : Nat → Int32) (z1 : (Nat → Int32)) : (Nat → Int32) × (Nat → Int32) × (Nat → Int32) × (Nat → Int32) :=
  (ku, m1, m2, z1)
def f_X_single (p1 : Int32) (ku m1 m2 m3 : Nat → Int32) : (Nat → Int32) × (Nat → Int32) × (Nat → Int32) × (Nat → Int32) :=
  if p1 = (0 : Int32) then
    ((upd ku 4 (1 : Int32)), m1, m2, m3)
  else
    if p1 = (32 : Int32) then
      f_X_single_k15 p1 ku m1 m2 m3 (f_X_two ku m1 m3)
    else
      if p1 = (96 : Int32) then
        f_X_single_k13 p1 ku m1 m2 m3 (f_X_pull ku m1 m3)
      else
        if p1 = (8 : Int32) then
          f_X_single_k11 p1 ku m1 m2 m3 (f_X_status ku m3)
        else
          if p1 = (40 : Int32) then
            f_X_single_k9 p1 ku m1 m2 m3 (f_X_pull ku m1 m3)
          else
            if p1 = (72 : Int32) then
              f_X_single_k8 p1 ku m1 m2 m3 (f_X_push (m3 0) ku m1 m2 m3)
            else
              if p1 = (104 : Int32) then
                f_X_single_k6 p1 ku m1 m2 m3 (f_X_pull ku m1 m3)
              else
                if p1 = (136 : Int32) then
                  f_X_single_k5 p1 ku m1 m2 m3 (f_X_put3 (2 : Int32) ((m3 2) - (1 : Int32)) (1 : Int32) ku m3)
                else
                  if p1 = (168 : Int32) then
                    f_X_single_k4 p1 ku m1 m2 m3 (f_X_put3 (2 : Int32) (m3 0) (1 : Int32) ku m3)
                  else
                    if p1 = (200 : Int32) then
                      f_X_single_k3 p1 ku m1 m2 m3 (f_X_put3 (2 : Int32) ((m3 2) + (1 : Int32)) (1 : Int32) ku m3)
                    else
                      if p1 = (232 : Int32) then
                        f_X_single_k2 p1 ku m1 m2 m3 (f_X_put3 (1 : Int32) ((m3 1) + (1 : Int32)) (1 : Int32) ku m3)
                      else
                        if p1 = (24 : Int32) then
                          (ku, m1, m2, (upd m3 8 (p1 / (32 : Int32))))
                        else
                          if p1 = (56 : Int32) then
                            (ku, m1, m2, (upd m3 8 (p1 / (32 : Int32))))
                          else
                            if p1 = (184 : Int32) then
                              (ku, m1, m2, (upd m3 6 (0 : Int32)))
                            else
                              if p1 = (152 : Int32) then
                                f_X_single_k1 p1 ku m1 m2 m3 (f_X_put3 (0 : Int32) (m3 2) (1 : Int32) ku m3)
                              else
                                ((upd ku 4 (4 : Int32)), m1, m2, m3)
abbrev Q_X_single (dC : Nat → ClassId) (dI : Nat → Nat → Nat) (x0 : Nat) (x1 : Nat) (x2 : Nat) (x3 : Nat) (x4 : Nat) (c1 : ClassId) (c2 : ClassId) (c3 : ClassId) (p1 : Int32) (ku m1 m2 m3 : Nat → Int32) (A : Nat → Prop) : Array Value → State → Outcome → State → Prop := va_Qv (fun (_ : Unit) => True) (fun _ t => atW (dC, dI) classes A [c_X x0 x1 x2 x3 x4 ((f_X_single p1 ku m1 m2 m3).1), c_A x1 c1 1024 ((f_X_single p1 ku m1 m2 m3).2.1), c_A x2 c2 256 ((f_X_single p1 ku m1 m2 m3).2.2.1), c_A x3 c3 9 ((f_X_single p1 ku m1 m2 m3).2.2.2)] [(c1, .int), (c2, .int), (c3, .int)] t) A
set_option maxHeartbeats 4000000 in
set_option maxRecDepth 100000 in
theorem c_X_single (l : Launch) (dC : Nat → ClassId) (dI : Nat → Nat → Nat) (z0 : Nat) (x0 : Nat) (x1 : Nat) (x2 : Nat) (x3 : Nat) (x4 : Nat) (c1 : ClassId) (c2 : ClassId) (c3 : ClassId) (sz : Nat) (p1 : Int32) (ku m1 m2 m3 : Nat → Int32) (hxs : xs_ok ku) : Met l y_X_single w_X_single ({ frames := 3, cells := 0, slots := 0, locals := 64 }) (PcX (dC, dI) classes z0 [c_X x0 x1 x2 x3 x4 ku, c_A x1 c1 1024 m1, c_A x2 c2 256 m2, c_A x3 c3 9 m3] [(c1, .int), (c2, .int), (c3, .int)] sz [.ref x0, .int p1]) (Q_X_single dC dI x0 x1 x2 x3 x4 c1 c2 c3 p1 ku m1 m2 m3 (va_A [c_X x0 x1 x2 x3 x4 ku, c_A x1 c1 1024 m1, c_A x2 c2 256 m2, c_A x3 c3 9 m3] sz)) 0 0 (va_A [c_X x0 x1 x2 x3 x4 ku, c_A x1 c1 1024 m1, c_A x2 c2 256 m2, c_A x3 c3 9 m3] sz) := by
  refine hdX (cc := b_X_single) (maxL := 3) (ret := none) (C := R_X) (Qc := (Q_X_single dC dI x0 x1 x2 x3 x4 c1 c2 c3 p1 ku m1 m2 m3)) (by decide) rfl ?_
  intro p e s m below meth c A H hx hb hr hlocks hml hown hin htB hP hK hD hA hA0 hE hS
  have hl := lv_entry ([.ref x0, .int p1]) (n := 3) (Nat.le_of_ble_eq_true rfl)
  rw [lg_entry_eq]
  generalize (lg_sl ([.ref x0, .int p1]) ++ List.replicate (3 - (lg_sl ([.ref x0, .int p1])).length) Slot.unset).toArray = ls at hl ⊢
  have hl : lv_has ls 3 [(0, .ref x0), (1, .int p1)] := hl
  refine lv_iload_n hx hb d_X_single_0 rfl (lv_at hl 1 rfl) ?_
  refine lv_if_ne (tgt := 12) hx hb d_X_single_1 (by decide) (fun c_1 => ?_) (fun c_1 => ?_)
  · refine lv_iload_n hx hb d_X_single_12 rfl (lv_at hl 1 rfl) ?_
    refine lv_bipush (v := 32) hx hb d_X_single_13 (by decide) ?_
    refine lv_icmp_ne (tgt := 70) hx hb d_X_single_15 (by decide) (fun c_2 => ?_) (fun c_2 => ?_)
    · refine lv_iload_n hx hb d_X_single_70 rfl (lv_at hl 1 rfl) ?_
      refine lv_bipush (v := 96) hx hb d_X_single_71 (by decide) ?_
      refine lv_icmp_ne (tgt := 106) hx hb d_X_single_73 (by decide) (fun c_3 => ?_) (fun c_3 => ?_)
      · refine lv_iload_n hx hb d_X_single_106 rfl (lv_at hl 1 rfl) ?_
        refine lv_bipush (v := 8) hx hb d_X_single_107 (by decide) ?_
        refine lv_icmp_ne (tgt := 123) hx hb d_X_single_109 (by decide) (fun c_4 => ?_) (fun c_4 => ?_)
        · refine lv_iload_n hx hb d_X_single_123 rfl (lv_at hl 1 rfl) ?_
          refine lv_bipush (v := 40) hx hb d_X_single_124 (by decide) ?_
          refine lv_icmp_ne (tgt := 140) hx hb d_X_single_126 (by decide) (fun c_5 => ?_) (fun c_5 => ?_)
          · refine lv_iload_n hx hb d_X_single_140 rfl (lv_at hl 1 rfl) ?_
            refine lv_bipush (v := 72) hx hb d_X_single_141 (by decide) ?_
            refine lv_icmp_ne (tgt := 159) hx hb d_X_single_143 (by decide) (fun c_6 => ?_) (fun c_6 => ?_)
            · refine lv_iload_n hx hb d_X_single_159 rfl (lv_at hl 1 rfl) ?_
              refine lv_bipush (v := 104) hx hb d_X_single_160 (by decide) ?_
              refine lv_icmp_ne (tgt := 178) hx hb d_X_single_162 (by decide) (fun c_7 => ?_) (fun c_7 => ?_)
              · refine lv_iload_n hx hb d_X_single_178 rfl (lv_at hl 1 rfl) ?_
                refine lv_sipush (v := 136) hx hb d_X_single_179 (by decide) ?_
                refine lv_icmp_ne (tgt := 202) hx hb d_X_single_182 (by decide) (fun c_8 => ?_) (fun c_8 => ?_)
                · refine lv_iload_n hx hb d_X_single_202 rfl (lv_at hl 1 rfl) ?_
                  refine lv_sipush (v := 168) hx hb d_X_single_203 (by decide) ?_
                  refine lv_icmp_ne (tgt := 224) hx hb d_X_single_206 (by decide) (fun c_9 => ?_) (fun c_9 => ?_)
                  · refine lv_iload_n hx hb d_X_single_224 rfl (lv_at hl 1 rfl) ?_
                    refine lv_sipush (v := 200) hx hb d_X_single_225 (by decide) ?_
                    refine lv_icmp_ne (tgt := 248) hx hb d_X_single_228 (by decide) (fun c_10 => ?_) (fun c_10 => ?_)
                    · refine lv_iload_n hx hb d_X_single_248 rfl (lv_at hl 1 rfl) ?_
                      refine lv_sipush (v := 232) hx hb d_X_single_249 (by decide) ?_
                      refine lv_icmp_ne (tgt := 272) hx hb d_X_single_252 (by decide) (fun c_11 => ?_) (fun c_11 => ?_)
                      · refine lv_iload_n hx hb d_X_single_272 rfl (lv_at hl 1 rfl) ?_
                        refine lv_bipush (v := 24) hx hb d_X_single_273 (by decide) ?_
                        refine lv_icmp_eq (tgt := 284) hx hb d_X_single_275 (by decide) (fun c_12 => ?_) (fun c_12 => ?_)
                        · refine lv_aload_n hx hb d_X_single_284 rfl (lv_at hl 0 rfl) ?_
                          refine va_get (D := (dC, dI)) (ci := 3) (v := .ref x3) (C := R_X) (T := F_X) (N := 13) hx hb htB i_X hown hK hP 0 rfl rfl 2 (by decide) (htB _ mw_463) (fun _ h9 => h9) rfl d_X_single_285 ?_
                          refine lv_bipush (v := 8) hx hb d_X_single_288 (by decide) ?_
                          refine lv_iload_n hx hb d_X_single_290 rfl (lv_at hl 1 rfl) ?_
                          refine lv_bipush (v := 32) hx hb d_X_single_291 (by decide) ?_
                          refine lv_idiv hx hb d_X_single_293 (by decide) ?_
                          refine iast_at hx hb hK hP hD hS 3 2 rfl rfl (show ¬ ((8 : Int32) < 0 ∨ 9 ≤ (8 : Int32).toNatClampNeg) from by decide) (show (8 : Int32).toNatClampNeg = 8 from by decide) d_X_single_294 (fun H locs hP hD hS => ?_)
                          have hP : va_P (dC, dI) classes [c_X x0 x1 x2 x3 x4 ku, c_A x1 c1 1024 m1, c_A x2 c2 256 m2, c_A x3 c3 9 (upd m3 8 (p1 / (32 : Int32)))] H := hP
                          have hD : va_D A [c_X x0 x1 x2 x3 x4 ku, c_A x1 c1 1024 m1, c_A x2 c2 256 m2, c_A x3 c3 9 (upd m3 8 (p1 / (32 : Int32)))] := hD
                          refine lv_goto (tgt := 343) hx hb d_X_single_295 (by decide) ?_
                          have hf : f_X_single p1 ku m1 m2 m3 = (ku, m1, m2, (upd m3 8 (p1 / (32 : Int32)))) := by rw [f_X_single, if_neg c_1, if_neg c_2, if_neg c_3, if_neg c_4, if_neg c_5, if_neg c_6, if_neg c_7, if_neg c_8, if_neg c_9, if_neg c_10, if_neg c_11, if_pos c_12]
                          exact W.vret hx hb hr (fun t ht hW => ⟨⟨(), rfl, trivial, by rw [hf]; exact ⟨by rw [ht]; exact hP, va_K.moved hW.alike hK, hD⟩⟩, hS.F ht⟩) hS.2.2 d_X_single_343
                        · refine lv_iload_n hx hb d_X_single_278 rfl (lv_at hl 1 rfl) ?_
                          refine lv_bipush (v := 56) hx hb d_X_single_279 (by decide) ?_
                          refine lv_icmp_ne (tgt := 298) hx hb d_X_single_281 (by decide) (fun c_13 => ?_) (fun c_13 => ?_)
                          · refine lv_iload_n hx hb d_X_single_298 rfl (lv_at hl 1 rfl) ?_
                            refine lv_sipush (v := 184) hx hb d_X_single_299 (by decide) ?_
                            refine lv_icmp_ne (tgt := 316) hx hb d_X_single_302 (by decide) (fun c_14 => ?_) (fun c_14 => ?_)
                            · refine lv_iload_n hx hb d_X_single_316 rfl (lv_at hl 1 rfl) ?_
                              refine lv_sipush (v := 152) hx hb d_X_single_317 (by decide) ?_
                              refine lv_icmp_ne (tgt := 338) hx hb d_X_single_320 (by decide) (fun c_15 => ?_) (fun c_15 => ?_)
                              · refine lv_aload_n hx hb d_X_single_338 rfl (lv_at hl 0 rfl) ?_
                                refine lv_iconst (v := 4) hx hb d_X_single_339 (by decide) ?_
                                refine va_put (D := (dC, dI)) (ci := 3) (v := .int (4 : Int32)) (ty := .int) (C := R_X) (T := F_X) (N := 13) hx hb htB i_X t_X t_X_ok n_X hown hK hP hD hS 0 rfl rfl 8 (by decide) (htB _ mw_469) (fun _ h9 => h9) rfl (by decide +kernel) rfl rfl (Nat.le_of_ble_eq_true rfl) d_X_single_340 (fun H locs hP hD hS => ?_)
                                have hP : va_P (dC, dI) classes [c_X x0 x1 x2 x3 x4 (upd ku 4 (4 : Int32)), c_A x1 c1 1024 m1, c_A x2 c2 256 m2, c_A x3 c3 9 m3] H := hP
                                have hD : va_D A [c_X x0 x1 x2 x3 x4 (upd ku 4 (4 : Int32)), c_A x1 c1 1024 m1, c_A x2 c2 256 m2, c_A x3 c3 9 m3] := hD
                                have hf : f_X_single p1 ku m1 m2 m3 = ((upd ku 4 (4 : Int32)), m1, m2, m3) := by rw [f_X_single, if_neg c_1, if_neg c_2, if_neg c_3, if_neg c_4, if_neg c_5, if_neg c_6, if_neg c_7, if_neg c_8, if_neg c_9, if_neg c_10, if_neg c_11, if_neg c_12, if_neg c_13, if_neg c_14, if_neg c_15]
                                exact W.vret hx hb hr (fun t ht hW => ⟨⟨(), rfl, trivial, by rw [hf]; exact ⟨by rw [ht]; exact hP, va_K.moved hW.alike hK, hD⟩⟩, hS.F ht⟩) hS.2.2 d_X_single_343
                              · refine lv_aload_n hx hb d_X_single_323 rfl (lv_at hl 0 rfl) ?_
                                refine lv_iconst (v := 0) hx hb d_X_single_324 (by decide) ?_
                                refine lv_aload_n hx hb d_X_single_325 rfl (lv_at hl 0 rfl) ?_
                                refine va_get (D := (dC, dI)) (ci := 3) (v := .ref x3) (C := R_X) (T := F_X) (N := 13) hx hb htB i_X hown hK hP 0 rfl rfl 2 (by decide) (htB _ mw_463) (fun _ h9 => h9) rfl d_X_single_326 ?_
                                refine lv_iconst (v := 2) hx hb d_X_single_329 (by decide) ?_
                                refine iald_at hx hb hK hP 3 2 rfl rfl (show ¬ ((2 : Int32) < 0 ∨ 9 ≤ (2 : Int32).toNatClampNeg) from by decide) (show (2 : Int32).toNatClampNeg = 2 from by decide) d_X_single_330 ?_
                                refine lv_iconst (v := 1) hx hb d_X_single_331 (by decide) ?_
                                have hPc := hP.sub (ws' := [c_X x0 x1 x2 x3 x4 ku, c_A x3 c3 9 m3]) [0, 3] rfl
                                have hDc := hD.sub (ws' := [c_X x0 x1 x2 x3 x4 ku, c_A x3 c3 9 m3]) [0, 3] (by decide) rfl
                                have hKc := hK.sub (tys' := [(c3, .int)]) [2] rfl
                                have hFc := va_free (wc := [c_X x0 x1 x2 x3 x4 ku, c_A x3 c3 9 m3]) hD hS hA [0, 3] rfl
                                refine va_callv (va_runV (As := [.int (0 : Int32), .int (m3 2), .int (1 : Int32)]) (rest := []) ⟨hx, hb, hml, hown, htB⟩ (c_X_put3 l dC dI z0 x0 x1 x2 x3 x4 c3 H.size (0 : Int32) (m3 2) (1 : Int32) ku m3 (show ¬ ((0 : Int32) < 0 ∨ 9 ≤ (0 : Int32).toNatClampNeg) from by decide)) (cwV 3 htB (gd_V mw_587 mw_589 sw_X_put3 mw_4 mw_590) rfl rfl rfl (by decide +kernel) ⟨Nat.le_of_ble_eq_true rfl, Nat.le_of_ble_eq_true rfl⟩) (pcx_V (va_recv hKc hPc (ci := 3) (q0 := 0) rfl rfl) hPc hKc hDc hA0 hE hS) rfl rfl hl.1 rfl (lv_room (Nat.le_of_ble_eq_true rfl)) d_X_single_332 ⟨Nat.zero_le _, Nat.zero_le _⟩) hS (fun q _ h => hFc q h) hFc (fun u t H1 locs ht hvm hw hB hz1 hk1 hS => ?_)
                                obtain ⟨hP1, hK1, hD1⟩ := hB
                                rw [ht] at hP1
                                obtain ⟨hP, hD⟩ := va_join (wr := [c_A x1 c1 1024 m1, c_A x2 c2 256 m2]) (w1 := [c_X x0 x1 x2 x3 x4 ku, c_A x3 c3 9 (f_X_put3 (0 : Int32) (m3 2) (1 : Int32) ku m3)]) hP hD [0, 3] [1, 2] rfl rfl (by decide) (by decide) hk1 hFc hP1 hD1
                                generalize H1 = H at hP hS ⊢
                                have hP : va_P (dC, dI) classes [c_X x0 x1 x2 x3 x4 ku, c_A x1 c1 1024 m1, c_A x2 c2 256 m2, c_A x3 c3 9 (f_X_put3 (0 : Int32) (m3 2) (1 : Int32) ku m3)] H := hP.sub [2, 0, 1, 3] rfl
                                have hD : va_D A [c_X x0 x1 x2 x3 x4 ku, c_A x1 c1 1024 m1, c_A x2 c2 256 m2, c_A x3 c3 9 (f_X_put3 (0 : Int32) (m3 2) (1 : Int32) ku m3)] := hD.sub [2, 0, 1, 3] (by decide) rfl
                                obtain ⟨z1, ez1⟩ : ∃ z, z = (f_X_put3 (0 : Int32) (m3 2) (1 : Int32) ku m3) := ⟨_, rfl⟩
                                rw [← ez1] at hP hD
                                refine lv_goto (tgt := 343) hx hb d_X_single_335 (by decide) ?_
                                have hf : f_X_single p1 ku m1 m2 m3 = (ku, m1, m2, z1) := by rw [f_X_single, if_neg c_1, if_neg c_2, if_neg c_3, if_neg c_4, if_neg c_5, if_neg c_6, if_neg c_7, if_neg c_8, if_neg c_9, if_neg c_10, if_neg c_11, if_neg c_12, if_neg c_13, if_neg c_14, if_pos c_15, ← ez1, f_X_single_k1]
                                exact W.vret hx hb hr (fun t ht hW => ⟨⟨(), rfl, trivial, by rw [hf]; exact ⟨by rw [ht]; exact hP, va_K.moved hW.alike hK, hD⟩⟩, hS.F ht⟩) hS.2.2 d_X_single_343
                            · refine lv_aload_n hx hb d_X_single_305 rfl (lv_at hl 0 rfl) ?_
                              refine va_get (D := (dC, dI)) (ci := 3) (v := .ref x3) (C := R_X) (T := F_X) (N := 13) hx hb htB i_X hown hK hP 0 rfl rfl 2 (by decide) (htB _ mw_463) (fun _ h9 => h9) rfl d_X_single_306 ?_
                              refine lv_bipush (v := 6) hx hb d_X_single_309 (by decide) ?_
                              refine lv_iconst (v := 0) hx hb d_X_single_311 (by decide) ?_
                              refine iast_at hx hb hK hP hD hS 3 2 rfl rfl (show ¬ ((6 : Int32) < 0 ∨ 9 ≤ (6 : Int32).toNatClampNeg) from by decide) (show (6 : Int32).toNatClampNeg = 6 from by decide) d_X_single_312 (fun H locs hP hD hS => ?_)
                              have hP : va_P (dC, dI) classes [c_X x0 x1 x2 x3 x4 ku, c_A x1 c1 1024 m1, c_A x2 c2 256 m2, c_A x3 c3 9 (upd m3 6 (0 : Int32))] H := hP
                              have hD : va_D A [c_X x0 x1 x2 x3 x4 ku, c_A x1 c1 1024 m1, c_A x2 c2 256 m2, c_A x3 c3 9 (upd m3 6 (0 : Int32))] := hD
                              refine lv_goto (tgt := 343) hx hb d_X_single_313 (by decide) ?_
                              have hf : f_X_single p1 ku m1 m2 m3 = (ku, m1, m2, (upd m3 6 (0 : Int32))) := by rw [f_X_single, if_neg c_1, if_neg c_2, if_neg c_3, if_neg c_4, if_neg c_5, if_neg c_6, if_neg c_7, if_neg c_8, if_neg c_9, if_neg c_10, if_neg c_11, if_neg c_12, if_neg c_13, if_pos c_14]
                              exact W.vret hx hb hr (fun t ht hW => ⟨⟨(), rfl, trivial, by rw [hf]; exact ⟨by rw [ht]; exact hP, va_K.moved hW.alike hK, hD⟩⟩, hS.F ht⟩) hS.2.2 d_X_single_343
                          · refine lv_aload_n hx hb d_X_single_284 rfl (lv_at hl 0 rfl) ?_
                            refine va_get (D := (dC, dI)) (ci := 3) (v := .ref x3) (C := R_X) (T := F_X) (N := 13) hx hb htB i_X hown hK hP 0 rfl rfl 2 (by decide) (htB _ mw_463) (fun _ h9 => h9) rfl d_X_single_285 ?_
                            refine lv_bipush (v := 8) hx hb d_X_single_288 (by decide) ?_
                            refine lv_iload_n hx hb d_X_single_290 rfl (lv_at hl 1 rfl) ?_
                            refine lv_bipush (v := 32) hx hb d_X_single_291 (by decide) ?_
                            refine lv_idiv hx hb d_X_single_293 (by decide) ?_
                            refine iast_at hx hb hK hP hD hS 3 2 rfl rfl (show ¬ ((8 : Int32) < 0 ∨ 9 ≤ (8 : Int32).toNatClampNeg) from by decide) (show (8 : Int32).toNatClampNeg = 8 from by decide) d_X_single_294 (fun H locs hP hD hS => ?_)
                            have hP : va_P (dC, dI) classes [c_X x0 x1 x2 x3 x4 ku, c_A x1 c1 1024 m1, c_A x2 c2 256 m2, c_A x3 c3 9 (upd m3 8 (p1 / (32 : Int32)))] H := hP
                            have hD : va_D A [c_X x0 x1 x2 x3 x4 ku, c_A x1 c1 1024 m1, c_A x2 c2 256 m2, c_A x3 c3 9 (upd m3 8 (p1 / (32 : Int32)))] := hD
                            refine lv_goto (tgt := 343) hx hb d_X_single_295 (by decide) ?_
                            have hf : f_X_single p1 ku m1 m2 m3 = (ku, m1, m2, (upd m3 8 (p1 / (32 : Int32)))) := by rw [f_X_single, if_neg c_1, if_neg c_2, if_neg c_3, if_neg c_4, if_neg c_5, if_neg c_6, if_neg c_7, if_neg c_8, if_neg c_9, if_neg c_10, if_neg c_11, if_neg c_12, if_pos c_13]
                            exact W.vret hx hb hr (fun t ht hW => ⟨⟨(), rfl, trivial, by rw [hf]; exact ⟨by rw [ht]; exact hP, va_K.moved hW.alike hK, hD⟩⟩, hS.F ht⟩) hS.2.2 d_X_single_343
                      · refine lv_aload_n hx hb d_X_single_255 rfl (lv_at hl 0 rfl) ?_
                        refine lv_iconst (v := 1) hx hb d_X_single_256 (by decide) ?_
                        refine lv_aload_n hx hb d_X_single_257 rfl (lv_at hl 0 rfl) ?_
                        refine va_get (D := (dC, dI)) (ci := 3) (v := .ref x3) (C := R_X) (T := F_X) (N := 13) hx hb htB i_X hown hK hP 0 rfl rfl 2 (by decide) (htB _ mw_463) (fun _ h9 => h9) rfl d_X_single_258 ?_
                        refine lv_iconst (v := 1) hx hb d_X_single_261 (by decide) ?_
                        refine iald_at hx hb hK hP 3 2 rfl rfl (show ¬ ((1 : Int32) < 0 ∨ 9 ≤ (1 : Int32).toNatClampNeg) from by decide) (show (1 : Int32).toNatClampNeg = 1 from by decide) d_X_single_262 ?_
                        refine lv_iconst (v := 1) hx hb d_X_single_263 (by decide) ?_
                        refine lv_iadd hx hb d_X_single_264 ?_
                        refine lv_iconst (v := 1) hx hb d_X_single_265 (by decide) ?_
                        have hPc := hP.sub (ws' := [c_X x0 x1 x2 x3 x4 ku, c_A x3 c3 9 m3]) [0, 3] rfl
                        have hDc := hD.sub (ws' := [c_X x0 x1 x2 x3 x4 ku, c_A x3 c3 9 m3]) [0, 3] (by decide) rfl
                        have hKc := hK.sub (tys' := [(c3, .int)]) [2] rfl
                        have hFc := va_free (wc := [c_X x0 x1 x2 x3 x4 ku, c_A x3 c3 9 m3]) hD hS hA [0, 3] rfl
                        refine va_callv (va_runV (As := [.int (1 : Int32), .int ((m3 1) + (1 : Int32)), .int (1 : Int32)]) (rest := []) ⟨hx, hb, hml, hown, htB⟩ (c_X_put3 l dC dI z0 x0 x1 x2 x3 x4 c3 H.size (1 : Int32) ((m3 1) + (1 : Int32)) (1 : Int32) ku m3 (show ¬ ((1 : Int32) < 0 ∨ 9 ≤ (1 : Int32).toNatClampNeg) from by decide)) (cwV 3 htB (gd_V mw_587 mw_589 sw_X_put3 mw_4 mw_590) rfl rfl rfl (by decide +kernel) ⟨Nat.le_of_ble_eq_true rfl, Nat.le_of_ble_eq_true rfl⟩) (pcx_V (va_recv hKc hPc (ci := 3) (q0 := 0) rfl rfl) hPc hKc hDc hA0 hE hS) rfl rfl hl.1 rfl (lv_room (Nat.le_of_ble_eq_true rfl)) d_X_single_266 ⟨Nat.zero_le _, Nat.zero_le _⟩) hS (fun q _ h => hFc q h) hFc (fun u t H1 locs ht hvm hw hB hz1 hk1 hS => ?_)
                        obtain ⟨hP1, hK1, hD1⟩ := hB
                        rw [ht] at hP1
                        obtain ⟨hP, hD⟩ := va_join (wr := [c_A x1 c1 1024 m1, c_A x2 c2 256 m2]) (w1 := [c_X x0 x1 x2 x3 x4 ku, c_A x3 c3 9 (f_X_put3 (1 : Int32) ((m3 1) + (1 : Int32)) (1 : Int32) ku m3)]) hP hD [0, 3] [1, 2] rfl rfl (by decide) (by decide) hk1 hFc hP1 hD1
                        generalize H1 = H at hP hS ⊢
                        have hP : va_P (dC, dI) classes [c_X x0 x1 x2 x3 x4 ku, c_A x1 c1 1024 m1, c_A x2 c2 256 m2, c_A x3 c3 9 (f_X_put3 (1 : Int32) ((m3 1) + (1 : Int32)) (1 : Int32) ku m3)] H := hP.sub [2, 0, 1, 3] rfl
                        have hD : va_D A [c_X x0 x1 x2 x3 x4 ku, c_A x1 c1 1024 m1, c_A x2 c2 256 m2, c_A x3 c3 9 (f_X_put3 (1 : Int32) ((m3 1) + (1 : Int32)) (1 : Int32) ku m3)] := hD.sub [2, 0, 1, 3] (by decide) rfl
                        obtain ⟨z1, ez1⟩ : ∃ z, z = (f_X_put3 (1 : Int32) ((m3 1) + (1 : Int32)) (1 : Int32) ku m3) := ⟨_, rfl⟩
                        rw [← ez1] at hP hD
                        refine lv_goto (tgt := 343) hx hb d_X_single_269 (by decide) ?_
                        have hf : f_X_single p1 ku m1 m2 m3 = (ku, m1, m2, z1) := by rw [f_X_single, if_neg c_1, if_neg c_2, if_neg c_3, if_neg c_4, if_neg c_5, if_neg c_6, if_neg c_7, if_neg c_8, if_neg c_9, if_neg c_10, if_pos c_11, ← ez1, f_X_single_k2]
                        exact W.vret hx hb hr (fun t ht hW => ⟨⟨(), rfl, trivial, by rw [hf]; exact ⟨by rw [ht]; exact hP, va_K.moved hW.alike hK, hD⟩⟩, hS.F ht⟩) hS.2.2 d_X_single_343
                    · refine lv_aload_n hx hb d_X_single_231 rfl (lv_at hl 0 rfl) ?_
                      refine lv_iconst (v := 2) hx hb d_X_single_232 (by decide) ?_
                      refine lv_aload_n hx hb d_X_single_233 rfl (lv_at hl 0 rfl) ?_
                      refine va_get (D := (dC, dI)) (ci := 3) (v := .ref x3) (C := R_X) (T := F_X) (N := 13) hx hb htB i_X hown hK hP 0 rfl rfl 2 (by decide) (htB _ mw_463) (fun _ h9 => h9) rfl d_X_single_234 ?_
                      refine lv_iconst (v := 2) hx hb d_X_single_237 (by decide) ?_
                      refine iald_at hx hb hK hP 3 2 rfl rfl (show ¬ ((2 : Int32) < 0 ∨ 9 ≤ (2 : Int32).toNatClampNeg) from by decide) (show (2 : Int32).toNatClampNeg = 2 from by decide) d_X_single_238 ?_
                      refine lv_iconst (v := 1) hx hb d_X_single_239 (by decide) ?_
                      refine lv_iadd hx hb d_X_single_240 ?_
                      refine lv_iconst (v := 1) hx hb d_X_single_241 (by decide) ?_
                      have hPc := hP.sub (ws' := [c_X x0 x1 x2 x3 x4 ku, c_A x3 c3 9 m3]) [0, 3] rfl
                      have hDc := hD.sub (ws' := [c_X x0 x1 x2 x3 x4 ku, c_A x3 c3 9 m3]) [0, 3] (by decide) rfl
                      have hKc := hK.sub (tys' := [(c3, .int)]) [2] rfl
                      have hFc := va_free (wc := [c_X x0 x1 x2 x3 x4 ku, c_A x3 c3 9 m3]) hD hS hA [0, 3] rfl
                      refine va_callv (va_runV (As := [.int (2 : Int32), .int ((m3 2) + (1 : Int32)), .int (1 : Int32)]) (rest := []) ⟨hx, hb, hml, hown, htB⟩ (c_X_put3 l dC dI z0 x0 x1 x2 x3 x4 c3 H.size (2 : Int32) ((m3 2) + (1 : Int32)) (1 : Int32) ku m3 (show ¬ ((2 : Int32) < 0 ∨ 9 ≤ (2 : Int32).toNatClampNeg) from by decide)) (cwV 3 htB (gd_V mw_587 mw_589 sw_X_put3 mw_4 mw_590) rfl rfl rfl (by decide +kernel) ⟨Nat.le_of_ble_eq_true rfl, Nat.le_of_ble_eq_true rfl⟩) (pcx_V (va_recv hKc hPc (ci := 3) (q0 := 0) rfl rfl) hPc hKc hDc hA0 hE hS) rfl rfl hl.1 rfl (lv_room (Nat.le_of_ble_eq_true rfl)) d_X_single_242 ⟨Nat.zero_le _, Nat.zero_le _⟩) hS (fun q _ h => hFc q h) hFc (fun u t H1 locs ht hvm hw hB hz1 hk1 hS => ?_)
                      obtain ⟨hP1, hK1, hD1⟩ := hB
                      rw [ht] at hP1
                      obtain ⟨hP, hD⟩ := va_join (wr := [c_A x1 c1 1024 m1, c_A x2 c2 256 m2]) (w1 := [c_X x0 x1 x2 x3 x4 ku, c_A x3 c3 9 (f_X_put3 (2 : Int32) ((m3 2) + (1 : Int32)) (1 : Int32) ku m3)]) hP hD [0, 3] [1, 2] rfl rfl (by decide) (by decide) hk1 hFc hP1 hD1
                      generalize H1 = H at hP hS ⊢
                      have hP : va_P (dC, dI) classes [c_X x0 x1 x2 x3 x4 ku, c_A x1 c1 1024 m1, c_A x2 c2 256 m2, c_A x3 c3 9 (f_X_put3 (2 : Int32) ((m3 2) + (1 : Int32)) (1 : Int32) ku m3)] H := hP.sub [2, 0, 1, 3] rfl
                      have hD : va_D A [c_X x0 x1 x2 x3 x4 ku, c_A x1 c1 1024 m1, c_A x2 c2 256 m2, c_A x3 c3 9 (f_X_put3 (2 : Int32) ((m3 2) + (1 : Int32)) (1 : Int32) ku m3)] := hD.sub [2, 0, 1, 3] (by decide) rfl
                      obtain ⟨z1, ez1⟩ : ∃ z, z = (f_X_put3 (2 : Int32) ((m3 2) + (1 : Int32)) (1 : Int32) ku m3) := ⟨_, rfl⟩
                      rw [← ez1] at hP hD
                      refine lv_goto (tgt := 343) hx hb d_X_single_245 (by decide) ?_
                      have hf : f_X_single p1 ku m1 m2 m3 = (ku, m1, m2, z1) := by rw [f_X_single, if_neg c_1, if_neg c_2, if_neg c_3, if_neg c_4, if_neg c_5, if_neg c_6, if_neg c_7, if_neg c_8, if_neg c_9, if_pos c_10, ← ez1, f_X_single_k3]
                      exact W.vret hx hb hr (fun t ht hW => ⟨⟨(), rfl, trivial, by rw [hf]; exact ⟨by rw [ht]; exact hP, va_K.moved hW.alike hK, hD⟩⟩, hS.F ht⟩) hS.2.2 d_X_single_343
                  · refine lv_aload_n hx hb d_X_single_209 rfl (lv_at hl 0 rfl) ?_
                    refine lv_iconst (v := 2) hx hb d_X_single_210 (by decide) ?_
                    refine lv_aload_n hx hb d_X_single_211 rfl (lv_at hl 0 rfl) ?_
                    refine va_get (D := (dC, dI)) (ci := 3) (v := .ref x3) (C := R_X) (T := F_X) (N := 13) hx hb htB i_X hown hK hP 0 rfl rfl 2 (by decide) (htB _ mw_463) (fun _ h9 => h9) rfl d_X_single_212 ?_
                    refine lv_iconst (v := 0) hx hb d_X_single_215 (by decide) ?_
                    refine iald_at hx hb hK hP 3 2 rfl rfl (show ¬ ((0 : Int32) < 0 ∨ 9 ≤ (0 : Int32).toNatClampNeg) from by decide) (show (0 : Int32).toNatClampNeg = 0 from by decide) d_X_single_216 ?_
                    refine lv_iconst (v := 1) hx hb d_X_single_217 (by decide) ?_
                    have hPc := hP.sub (ws' := [c_X x0 x1 x2 x3 x4 ku, c_A x3 c3 9 m3]) [0, 3] rfl
                    have hDc := hD.sub (ws' := [c_X x0 x1 x2 x3 x4 ku, c_A x3 c3 9 m3]) [0, 3] (by decide) rfl
                    have hKc := hK.sub (tys' := [(c3, .int)]) [2] rfl
                    have hFc := va_free (wc := [c_X x0 x1 x2 x3 x4 ku, c_A x3 c3 9 m3]) hD hS hA [0, 3] rfl
                    refine va_callv (va_runV (As := [.int (2 : Int32), .int (m3 0), .int (1 : Int32)]) (rest := []) ⟨hx, hb, hml, hown, htB⟩ (c_X_put3 l dC dI z0 x0 x1 x2 x3 x4 c3 H.size (2 : Int32) (m3 0) (1 : Int32) ku m3 (show ¬ ((2 : Int32) < 0 ∨ 9 ≤ (2 : Int32).toNatClampNeg) from by decide)) (cwV 3 htB (gd_V mw_587 mw_589 sw_X_put3 mw_4 mw_590) rfl rfl rfl (by decide +kernel) ⟨Nat.le_of_ble_eq_true rfl, Nat.le_of_ble_eq_true rfl⟩) (pcx_V (va_recv hKc hPc (ci := 3) (q0 := 0) rfl rfl) hPc hKc hDc hA0 hE hS) rfl rfl hl.1 rfl (lv_room (Nat.le_of_ble_eq_true rfl)) d_X_single_218 ⟨Nat.zero_le _, Nat.zero_le _⟩) hS (fun q _ h => hFc q h) hFc (fun u t H1 locs ht hvm hw hB hz1 hk1 hS => ?_)
                    obtain ⟨hP1, hK1, hD1⟩ := hB
                    rw [ht] at hP1
                    obtain ⟨hP, hD⟩ := va_join (wr := [c_A x1 c1 1024 m1, c_A x2 c2 256 m2]) (w1 := [c_X x0 x1 x2 x3 x4 ku, c_A x3 c3 9 (f_X_put3 (2 : Int32) (m3 0) (1 : Int32) ku m3)]) hP hD [0, 3] [1, 2] rfl rfl (by decide) (by decide) hk1 hFc hP1 hD1
                    generalize H1 = H at hP hS ⊢
                    have hP : va_P (dC, dI) classes [c_X x0 x1 x2 x3 x4 ku, c_A x1 c1 1024 m1, c_A x2 c2 256 m2, c_A x3 c3 9 (f_X_put3 (2 : Int32) (m3 0) (1 : Int32) ku m3)] H := hP.sub [2, 0, 1, 3] rfl
                    have hD : va_D A [c_X x0 x1 x2 x3 x4 ku, c_A x1 c1 1024 m1, c_A x2 c2 256 m2, c_A x3 c3 9 (f_X_put3 (2 : Int32) (m3 0) (1 : Int32) ku m3)] := hD.sub [2, 0, 1, 3] (by decide) rfl
                    obtain ⟨z1, ez1⟩ : ∃ z, z = (f_X_put3 (2 : Int32) (m3 0) (1 : Int32) ku m3) := ⟨_, rfl⟩
                    rw [← ez1] at hP hD
                    refine lv_goto (tgt := 343) hx hb d_X_single_221 (by decide) ?_
                    have hf : f_X_single p1 ku m1 m2 m3 = (ku, m1, m2, z1) := by rw [f_X_single, if_neg c_1, if_neg c_2, if_neg c_3, if_neg c_4, if_neg c_5, if_neg c_6, if_neg c_7, if_neg c_8, if_pos c_9, ← ez1, f_X_single_k4]
                    exact W.vret hx hb hr (fun t ht hW => ⟨⟨(), rfl, trivial, by rw [hf]; exact ⟨by rw [ht]; exact hP, va_K.moved hW.alike hK, hD⟩⟩, hS.F ht⟩) hS.2.2 d_X_single_343
                · refine lv_aload_n hx hb d_X_single_185 rfl (lv_at hl 0 rfl) ?_
                  refine lv_iconst (v := 2) hx hb d_X_single_186 (by decide) ?_
                  refine lv_aload_n hx hb d_X_single_187 rfl (lv_at hl 0 rfl) ?_
                  refine va_get (D := (dC, dI)) (ci := 3) (v := .ref x3) (C := R_X) (T := F_X) (N := 13) hx hb htB i_X hown hK hP 0 rfl rfl 2 (by decide) (htB _ mw_463) (fun _ h9 => h9) rfl d_X_single_188 ?_
                  refine lv_iconst (v := 2) hx hb d_X_single_191 (by decide) ?_
                  refine iald_at hx hb hK hP 3 2 rfl rfl (show ¬ ((2 : Int32) < 0 ∨ 9 ≤ (2 : Int32).toNatClampNeg) from by decide) (show (2 : Int32).toNatClampNeg = 2 from by decide) d_X_single_192 ?_
                  refine lv_iconst (v := 1) hx hb d_X_single_193 (by decide) ?_
                  refine lv_isub hx hb d_X_single_194 ?_
                  refine lv_iconst (v := 1) hx hb d_X_single_195 (by decide) ?_
                  have hPc := hP.sub (ws' := [c_X x0 x1 x2 x3 x4 ku, c_A x3 c3 9 m3]) [0, 3] rfl
                  have hDc := hD.sub (ws' := [c_X x0 x1 x2 x3 x4 ku, c_A x3 c3 9 m3]) [0, 3] (by decide) rfl
                  have hKc := hK.sub (tys' := [(c3, .int)]) [2] rfl
                  have hFc := va_free (wc := [c_X x0 x1 x2 x3 x4 ku, c_A x3 c3 9 m3]) hD hS hA [0, 3] rfl
                  refine va_callv (va_runV (As := [.int (2 : Int32), .int ((m3 2) - (1 : Int32)), .int (1 : Int32)]) (rest := []) ⟨hx, hb, hml, hown, htB⟩ (c_X_put3 l dC dI z0 x0 x1 x2 x3 x4 c3 H.size (2 : Int32) ((m3 2) - (1 : Int32)) (1 : Int32) ku m3 (show ¬ ((2 : Int32) < 0 ∨ 9 ≤ (2 : Int32).toNatClampNeg) from by decide)) (cwV 3 htB (gd_V mw_587 mw_589 sw_X_put3 mw_4 mw_590) rfl rfl rfl (by decide +kernel) ⟨Nat.le_of_ble_eq_true rfl, Nat.le_of_ble_eq_true rfl⟩) (pcx_V (va_recv hKc hPc (ci := 3) (q0 := 0) rfl rfl) hPc hKc hDc hA0 hE hS) rfl rfl hl.1 rfl (lv_room (Nat.le_of_ble_eq_true rfl)) d_X_single_196 ⟨Nat.zero_le _, Nat.zero_le _⟩) hS (fun q _ h => hFc q h) hFc (fun u t H1 locs ht hvm hw hB hz1 hk1 hS => ?_)
                  obtain ⟨hP1, hK1, hD1⟩ := hB
                  rw [ht] at hP1
                  obtain ⟨hP, hD⟩ := va_join (wr := [c_A x1 c1 1024 m1, c_A x2 c2 256 m2]) (w1 := [c_X x0 x1 x2 x3 x4 ku, c_A x3 c3 9 (f_X_put3 (2 : Int32) ((m3 2) - (1 : Int32)) (1 : Int32) ku m3)]) hP hD [0, 3] [1, 2] rfl rfl (by decide) (by decide) hk1 hFc hP1 hD1
                  generalize H1 = H at hP hS ⊢
                  have hP : va_P (dC, dI) classes [c_X x0 x1 x2 x3 x4 ku, c_A x1 c1 1024 m1, c_A x2 c2 256 m2, c_A x3 c3 9 (f_X_put3 (2 : Int32) ((m3 2) - (1 : Int32)) (1 : Int32) ku m3)] H := hP.sub [2, 0, 1, 3] rfl
                  have hD : va_D A [c_X x0 x1 x2 x3 x4 ku, c_A x1 c1 1024 m1, c_A x2 c2 256 m2, c_A x3 c3 9 (f_X_put3 (2 : Int32) ((m3 2) - (1 : Int32)) (1 : Int32) ku m3)] := hD.sub [2, 0, 1, 3] (by decide) rfl
                  obtain ⟨z1, ez1⟩ : ∃ z, z = (f_X_put3 (2 : Int32) ((m3 2) - (1 : Int32)) (1 : Int32) ku m3) := ⟨_, rfl⟩
                  rw [← ez1] at hP hD
                  refine lv_goto (tgt := 343) hx hb d_X_single_199 (by decide) ?_
                  have hf : f_X_single p1 ku m1 m2 m3 = (ku, m1, m2, z1) := by rw [f_X_single, if_neg c_1, if_neg c_2, if_neg c_3, if_neg c_4, if_neg c_5, if_neg c_6, if_neg c_7, if_pos c_8, ← ez1, f_X_single_k5]
                  exact W.vret hx hb hr (fun t ht hW => ⟨⟨(), rfl, trivial, by rw [hf]; exact ⟨by rw [ht]; exact hP, va_K.moved hW.alike hK, hD⟩⟩, hS.F ht⟩) hS.2.2 d_X_single_343
              · refine lv_aload_n hx hb d_X_single_165 rfl (lv_at hl 0 rfl) ?_
                refine lv_iconst (v := 0) hx hb d_X_single_166 (by decide) ?_
                refine lv_aload_n hx hb d_X_single_167 rfl (lv_at hl 0 rfl) ?_
                have hPc := hP.sub (ws' := [c_X x0 x1 x2 x3 x4 ku, c_A x1 c1 1024 m1, c_A x3 c3 9 m3]) [0, 1, 3] rfl
                have hDc := hD.sub (ws' := [c_X x0 x1 x2 x3 x4 ku, c_A x1 c1 1024 m1, c_A x3 c3 9 m3]) [0, 1, 3] (by decide) rfl
                have hKc := hK.sub (tys' := [(c1, .int), (c3, .int)]) [0, 2] rfl
                have hFc := va_free (wc := [c_X x0 x1 x2 x3 x4 ku, c_A x1 c1 1024 m1, c_A x3 c3 9 m3]) hD hS hA [0, 1, 3] rfl
                refine va_calli (va_runV (As := []) (rest := [.int (0 : Int32), .ref x0]) ⟨hx, hb, hml, hown, htB⟩ (c_X_pull l dC dI z0 x0 x1 x2 x3 x4 c1 c3 H.size ku m1 m3) (cwV 0 htB (gd_V mw_631 mw_633 sw_X_pull mw_4 mw_634) rfl rfl rfl (by decide +kernel) ⟨Nat.le_of_ble_eq_true rfl, Nat.le_of_ble_eq_true rfl⟩) (pcx_V (va_recv hKc hPc (ci := 3) (q0 := 0) rfl rfl) hPc hKc hDc hA0 hE hS) rfl rfl hl.1 rfl (lv_room (Nat.le_of_ble_eq_true rfl)) d_X_single_168 ⟨Nat.zero_le _, Nat.zero_le _⟩) hS (fun q _ h => hFc q h) hFc (fun r9 u t H1 locs ht hvm hw hB hz1 hk1 hS => ?_)
                subst hw
                obtain ⟨hP1, hK1, hD1⟩ := hB
                rw [ht] at hP1
                obtain ⟨hP, hD⟩ := va_join (wr := [c_A x2 c2 256 m2]) (w1 := [c_X x0 x1 x2 x3 x4 ((f_X_pull ku m1 m3).2.1), c_A x1 c1 1024 m1, c_A x3 c3 9 ((f_X_pull ku m1 m3).2.2)]) hP hD [0, 1, 3] [2] rfl rfl (by decide) (by decide) hk1 hFc hP1 hD1
                generalize H1 = H at hP hS ⊢
                have hP : va_P (dC, dI) classes [c_X x0 x1 x2 x3 x4 ((f_X_pull ku m1 m3).2.1), c_A x1 c1 1024 m1, c_A x2 c2 256 m2, c_A x3 c3 9 ((f_X_pull ku m1 m3).2.2)] H := hP.sub [1, 2, 0, 3] rfl
                have hD : va_D A [c_X x0 x1 x2 x3 x4 ((f_X_pull ku m1 m3).2.1), c_A x1 c1 1024 m1, c_A x2 c2 256 m2, c_A x3 c3 9 ((f_X_pull ku m1 m3).2.2)] := hD.sub [1, 2, 0, 3] (by decide) rfl
                obtain ⟨z1, ez1⟩ : ∃ z, z = (f_X_pull ku m1 m3) := ⟨_, rfl⟩
                rw [← ez1] at hP hD ⊢
                refine lv_iconst (v := 1) hx hb d_X_single_171 (by decide) ?_
                have hPc := hP.sub (ws' := [c_X x0 x1 x2 x3 x4 z1.2.1, c_A x3 c3 9 z1.2.2]) [0, 3] rfl
                have hDc := hD.sub (ws' := [c_X x0 x1 x2 x3 x4 z1.2.1, c_A x3 c3 9 z1.2.2]) [0, 3] (by decide) rfl
                have hKc := hK.sub (tys' := [(c3, .int)]) [2] rfl
                have hFc := va_free (wc := [c_X x0 x1 x2 x3 x4 z1.2.1, c_A x3 c3 9 z1.2.2]) hD hS hA [0, 3] rfl
                refine va_callv (va_runV (As := [.int (0 : Int32), .int z1.1, .int (1 : Int32)]) (rest := []) ⟨hx, hb, hml, hown, htB⟩ (c_X_put3 l dC dI z0 x0 x1 x2 x3 x4 c3 H.size (0 : Int32) z1.1 (1 : Int32) z1.2.1 z1.2.2 (show ¬ ((0 : Int32) < 0 ∨ 9 ≤ (0 : Int32).toNatClampNeg) from by decide)) (cwV 3 htB (gd_V mw_587 mw_589 sw_X_put3 mw_4 mw_590) rfl rfl rfl (by decide +kernel) ⟨Nat.le_of_ble_eq_true rfl, Nat.le_of_ble_eq_true rfl⟩) (pcx_V (va_recv hKc hPc (ci := 3) (q0 := 0) rfl rfl) hPc hKc hDc hA0 hE hS) rfl rfl hl.1 rfl (lv_room (Nat.le_of_ble_eq_true rfl)) d_X_single_172 ⟨Nat.zero_le _, Nat.zero_le _⟩) hS (fun q _ h => hFc q h) hFc (fun u t H1 locs ht hvm hw hB hz1 hk1 hS => ?_)
                obtain ⟨hP1, hK1, hD1⟩ := hB
                rw [ht] at hP1
                obtain ⟨hP, hD⟩ := va_join (wr := [c_A x1 c1 1024 m1, c_A x2 c2 256 m2]) (w1 := [c_X x0 x1 x2 x3 x4 z1.2.1, c_A x3 c3 9 (f_X_put3 (0 : Int32) z1.1 (1 : Int32) z1.2.1 z1.2.2)]) hP hD [0, 3] [1, 2] rfl rfl (by decide) (by decide) hk1 hFc hP1 hD1
                generalize H1 = H at hP hS ⊢
                have hP : va_P (dC, dI) classes [c_X x0 x1 x2 x3 x4 z1.2.1, c_A x1 c1 1024 m1, c_A x2 c2 256 m2, c_A x3 c3 9 (f_X_put3 (0 : Int32) z1.1 (1 : Int32) z1.2.1 z1.2.2)] H := hP.sub [2, 0, 1, 3] rfl
                have hD : va_D A [c_X x0 x1 x2 x3 x4 z1.2.1, c_A x1 c1 1024 m1, c_A x2 c2 256 m2, c_A x3 c3 9 (f_X_put3 (0 : Int32) z1.1 (1 : Int32) z1.2.1 z1.2.2)] := hD.sub [2, 0, 1, 3] (by decide) rfl
                obtain ⟨z2, ez2⟩ : ∃ z, z = (f_X_put3 (0 : Int32) z1.1 (1 : Int32) z1.2.1 z1.2.2) := ⟨_, rfl⟩
                rw [← ez2] at hP hD
                refine lv_goto (tgt := 343) hx hb d_X_single_175 (by decide) ?_
                have hf : f_X_single p1 ku m1 m2 m3 = (z1.2.1, m1, m2, z2) := by rw [f_X_single, if_neg c_1, if_neg c_2, if_neg c_3, if_neg c_4, if_neg c_5, if_neg c_6, if_pos c_7, ← ez1, f_X_single_k6, ← ez2, f_X_single_k7]
                exact W.vret hx hb hr (fun t ht hW => ⟨⟨(), rfl, trivial, by rw [hf]; exact ⟨by rw [ht]; exact hP, va_K.moved hW.alike hK, hD⟩⟩, hS.F ht⟩) hS.2.2 d_X_single_343
            · refine lv_aload_n hx hb d_X_single_146 rfl (lv_at hl 0 rfl) ?_
              refine lv_aload_n hx hb d_X_single_147 rfl (lv_at hl 0 rfl) ?_
              refine va_get (D := (dC, dI)) (ci := 3) (v := .ref x3) (C := R_X) (T := F_X) (N := 13) hx hb htB i_X hown hK hP 0 rfl rfl 2 (by decide) (htB _ mw_463) (fun _ h9 => h9) rfl d_X_single_148 ?_
              refine lv_iconst (v := 0) hx hb d_X_single_151 (by decide) ?_
              refine iald_at hx hb hK hP 3 2 rfl rfl (show ¬ ((0 : Int32) < 0 ∨ 9 ≤ (0 : Int32).toNatClampNeg) from by decide) (show (0 : Int32).toNatClampNeg = 0 from by decide) d_X_single_152 ?_
              have hPc := hP.sub (ws' := [c_X x0 x1 x2 x3 x4 ku, c_A x1 c1 1024 m1, c_A x2 c2 256 m2, c_A x3 c3 9 m3]) [0, 1, 2, 3] rfl
              have hDc := hD.sub (ws' := [c_X x0 x1 x2 x3 x4 ku, c_A x1 c1 1024 m1, c_A x2 c2 256 m2, c_A x3 c3 9 m3]) [0, 1, 2, 3] (by decide) rfl
              have hKc := hK.sub (tys' := [(c1, .int), (c2, .int), (c3, .int)]) [0, 1, 2] rfl
              have hFc := va_free (wc := [c_X x0 x1 x2 x3 x4 ku, c_A x1 c1 1024 m1, c_A x2 c2 256 m2, c_A x3 c3 9 m3]) hD hS hA [0, 1, 2, 3] rfl
              refine va_callv (va_runV (As := [.int (m3 0)]) (rest := []) ⟨hx, hb, hml, hown, htB⟩ (c_X_push l dC dI z0 x0 x1 x2 x3 x4 c1 c2 c3 H.size (m3 0) ku m1 m2 m3 hxs) (cwV 1 htB (gd_V mw_627 mw_629 sw_X_push mw_4 mw_630) rfl rfl rfl (by decide +kernel) ⟨Nat.le_of_ble_eq_true rfl, Nat.le_of_ble_eq_true rfl⟩) (pcx_V (va_recv hKc hPc (ci := 3) (q0 := 0) rfl rfl) hPc hKc hDc hA0 hE hS) rfl rfl hl.1 rfl (lv_room (Nat.le_of_ble_eq_true rfl)) d_X_single_153 ⟨Nat.zero_le _, Nat.zero_le _⟩) hS (fun q _ h => hFc q h) hFc (fun u t H1 locs ht hvm hw hB hz1 hk1 hS => ?_)
              obtain ⟨hP1, hK1, hD1⟩ := hB
              rw [ht] at hP1
              obtain ⟨hP, hD⟩ := va_join (wr := []) (w1 := [c_X x0 x1 x2 x3 x4 ((f_X_push (m3 0) ku m1 m2 m3).1), c_A x1 c1 1024 ((f_X_push (m3 0) ku m1 m2 m3).2.1), c_A x2 c2 256 ((f_X_push (m3 0) ku m1 m2 m3).2.2.1), c_A x3 c3 9 ((f_X_push (m3 0) ku m1 m2 m3).2.2.2)]) hP hD [0, 1, 2, 3] [] rfl rfl (by decide) (by decide) hk1 hFc hP1 hD1
              generalize H1 = H at hP hS ⊢
              have hP : va_P (dC, dI) classes [c_X x0 x1 x2 x3 x4 ((f_X_push (m3 0) ku m1 m2 m3).1), c_A x1 c1 1024 ((f_X_push (m3 0) ku m1 m2 m3).2.1), c_A x2 c2 256 ((f_X_push (m3 0) ku m1 m2 m3).2.2.1), c_A x3 c3 9 ((f_X_push (m3 0) ku m1 m2 m3).2.2.2)] H := hP.sub [0, 1, 2, 3] rfl
              have hD : va_D A [c_X x0 x1 x2 x3 x4 ((f_X_push (m3 0) ku m1 m2 m3).1), c_A x1 c1 1024 ((f_X_push (m3 0) ku m1 m2 m3).2.1), c_A x2 c2 256 ((f_X_push (m3 0) ku m1 m2 m3).2.2.1), c_A x3 c3 9 ((f_X_push (m3 0) ku m1 m2 m3).2.2.2)] := hD.sub [0, 1, 2, 3] (by decide) rfl
              obtain ⟨z1, ez1⟩ : ∃ z, z = (f_X_push (m3 0) ku m1 m2 m3) := ⟨_, rfl⟩
              rw [← ez1] at hP hD
              refine lv_goto (tgt := 343) hx hb d_X_single_156 (by decide) ?_
              have hf : f_X_single p1 ku m1 m2 m3 = (z1.1, z1.2.1, z1.2.2.1, z1.2.2.2) := by rw [f_X_single, if_neg c_1, if_neg c_2, if_neg c_3, if_neg c_4, if_neg c_5, if_pos c_6, ← ez1, f_X_single_k8]
              exact W.vret hx hb hr (fun t ht hW => ⟨⟨(), rfl, trivial, by rw [hf]; exact ⟨by rw [ht]; exact hP, va_K.moved hW.alike hK, hD⟩⟩, hS.F ht⟩) hS.2.2 d_X_single_343
          · refine lv_aload_n hx hb d_X_single_129 rfl (lv_at hl 0 rfl) ?_
            refine lv_aload_n hx hb d_X_single_130 rfl (lv_at hl 0 rfl) ?_
            have hPc := hP.sub (ws' := [c_X x0 x1 x2 x3 x4 ku, c_A x1 c1 1024 m1, c_A x3 c3 9 m3]) [0, 1, 3] rfl
            have hDc := hD.sub (ws' := [c_X x0 x1 x2 x3 x4 ku, c_A x1 c1 1024 m1, c_A x3 c3 9 m3]) [0, 1, 3] (by decide) rfl
            have hKc := hK.sub (tys' := [(c1, .int), (c3, .int)]) [0, 2] rfl
            have hFc := va_free (wc := [c_X x0 x1 x2 x3 x4 ku, c_A x1 c1 1024 m1, c_A x3 c3 9 m3]) hD hS hA [0, 1, 3] rfl
            refine va_calli (va_runV (As := []) (rest := [.ref x0]) ⟨hx, hb, hml, hown, htB⟩ (c_X_pull l dC dI z0 x0 x1 x2 x3 x4 c1 c3 H.size ku m1 m3) (cwV 0 htB (gd_V mw_631 mw_633 sw_X_pull mw_4 mw_634) rfl rfl rfl (by decide +kernel) ⟨Nat.le_of_ble_eq_true rfl, Nat.le_of_ble_eq_true rfl⟩) (pcx_V (va_recv hKc hPc (ci := 3) (q0 := 0) rfl rfl) hPc hKc hDc hA0 hE hS) rfl rfl hl.1 rfl (lv_room (Nat.le_of_ble_eq_true rfl)) d_X_single_131 ⟨Nat.zero_le _, Nat.zero_le _⟩) hS (fun q _ h => hFc q h) hFc (fun r9 u t H1 locs ht hvm hw hB hz1 hk1 hS => ?_)
            subst hw
            obtain ⟨hP1, hK1, hD1⟩ := hB
            rw [ht] at hP1
            obtain ⟨hP, hD⟩ := va_join (wr := [c_A x2 c2 256 m2]) (w1 := [c_X x0 x1 x2 x3 x4 ((f_X_pull ku m1 m3).2.1), c_A x1 c1 1024 m1, c_A x3 c3 9 ((f_X_pull ku m1 m3).2.2)]) hP hD [0, 1, 3] [2] rfl rfl (by decide) (by decide) hk1 hFc hP1 hD1
            generalize H1 = H at hP hS ⊢
            have hP : va_P (dC, dI) classes [c_X x0 x1 x2 x3 x4 ((f_X_pull ku m1 m3).2.1), c_A x1 c1 1024 m1, c_A x2 c2 256 m2, c_A x3 c3 9 ((f_X_pull ku m1 m3).2.2)] H := hP.sub [1, 2, 0, 3] rfl
            have hD : va_D A [c_X x0 x1 x2 x3 x4 ((f_X_pull ku m1 m3).2.1), c_A x1 c1 1024 m1, c_A x2 c2 256 m2, c_A x3 c3 9 ((f_X_pull ku m1 m3).2.2)] := hD.sub [1, 2, 0, 3] (by decide) rfl
            obtain ⟨z1, ez1⟩ : ∃ z, z = (f_X_pull ku m1 m3) := ⟨_, rfl⟩
            rw [← ez1] at hP hD ⊢
            have hPc := hP.sub (ws' := [c_X x0 x1 x2 x3 x4 z1.2.1, c_A x3 c3 9 z1.2.2]) [0, 3] rfl
            have hDc := hD.sub (ws' := [c_X x0 x1 x2 x3 x4 z1.2.1, c_A x3 c3 9 z1.2.2]) [0, 3] (by decide) rfl
            have hKc := hK.sub (tys' := [(c3, .int)]) [2] rfl
            have hFc := va_free (wc := [c_X x0 x1 x2 x3 x4 z1.2.1, c_A x3 c3 9 z1.2.2]) hD hS hA [0, 3] rfl
            refine va_callv (va_runV (As := [.int z1.1]) (rest := []) ⟨hx, hb, hml, hown, htB⟩ (c_X_setStatus l dC dI z0 x0 x1 x2 x3 x4 c3 H.size z1.1 z1.2.1 z1.2.2) (cwV 1 htB (gd_V mw_528 mw_530 sw_X_setStatus mw_4 mw_531) rfl rfl rfl (by decide +kernel) ⟨Nat.le_of_ble_eq_true rfl, Nat.le_of_ble_eq_true rfl⟩) (pcx_V (va_recv hKc hPc (ci := 3) (q0 := 0) rfl rfl) hPc hKc hDc hA0 hE hS) rfl rfl hl.1 rfl (lv_room (Nat.le_of_ble_eq_true rfl)) d_X_single_134 ⟨Nat.zero_le _, Nat.zero_le _⟩) hS (fun q _ h => hFc q h) hFc (fun u t H1 locs ht hvm hw hB hz1 hk1 hS => ?_)
            obtain ⟨hP1, hK1, hD1⟩ := hB
            rw [ht] at hP1
            obtain ⟨hP, hD⟩ := va_join (wr := [c_A x1 c1 1024 m1, c_A x2 c2 256 m2]) (w1 := [c_X x0 x1 x2 x3 x4 z1.2.1, c_A x3 c3 9 (f_X_setStatus z1.1 z1.2.1 z1.2.2)]) hP hD [0, 3] [1, 2] rfl rfl (by decide) (by decide) hk1 hFc hP1 hD1
            generalize H1 = H at hP hS ⊢
            have hP : va_P (dC, dI) classes [c_X x0 x1 x2 x3 x4 z1.2.1, c_A x1 c1 1024 m1, c_A x2 c2 256 m2, c_A x3 c3 9 (f_X_setStatus z1.1 z1.2.1 z1.2.2)] H := hP.sub [2, 0, 1, 3] rfl
            have hD : va_D A [c_X x0 x1 x2 x3 x4 z1.2.1, c_A x1 c1 1024 m1, c_A x2 c2 256 m2, c_A x3 c3 9 (f_X_setStatus z1.1 z1.2.1 z1.2.2)] := hD.sub [2, 0, 1, 3] (by decide) rfl
            obtain ⟨z2, ez2⟩ : ∃ z, z = (f_X_setStatus z1.1 z1.2.1 z1.2.2) := ⟨_, rfl⟩
            rw [← ez2] at hP hD
            refine lv_goto (tgt := 343) hx hb d_X_single_137 (by decide) ?_
            have hf : f_X_single p1 ku m1 m2 m3 = (z1.2.1, m1, m2, z2) := by rw [f_X_single, if_neg c_1, if_neg c_2, if_neg c_3, if_neg c_4, if_pos c_5, ← ez1, f_X_single_k9, ← ez2, f_X_single_k10]
            exact W.vret hx hb hr (fun t ht hW => ⟨⟨(), rfl, trivial, by rw [hf]; exact ⟨by rw [ht]; exact hP, va_K.moved hW.alike hK, hD⟩⟩, hS.F ht⟩) hS.2.2 d_X_single_343
        · refine lv_aload_n hx hb d_X_single_112 rfl (lv_at hl 0 rfl) ?_
          refine lv_aload_n hx hb d_X_single_113 rfl (lv_at hl 0 rfl) ?_
          have hPc := hP.sub (ws' := [c_X x0 x1 x2 x3 x4 ku, c_A x3 c3 9 m3]) [0, 3] rfl
          have hDc := hD.sub (ws' := [c_X x0 x1 x2 x3 x4 ku, c_A x3 c3 9 m3]) [0, 3] (by decide) rfl
          have hKc := hK.sub (tys' := [(c3, .int)]) [2] rfl
          have hFc := va_free (wc := [c_X x0 x1 x2 x3 x4 ku, c_A x3 c3 9 m3]) hD hS hA [0, 3] rfl
          refine va_calli (va_runV (As := []) (rest := [.ref x0]) ⟨hx, hb, hml, hown, htB⟩ (c_X_status l dC dI z0 x0 x1 x2 x3 x4 c3 H.size ku m3) (cwV 0 htB (gd_V mw_524 mw_526 sw_X_status mw_4 mw_527) rfl rfl rfl (by decide +kernel) ⟨Nat.le_of_ble_eq_true rfl, Nat.le_of_ble_eq_true rfl⟩) (pcx_V (va_recv hKc hPc (ci := 3) (q0 := 0) rfl rfl) hPc hKc hDc hA0 hE hS) rfl rfl hl.1 rfl (lv_room (Nat.le_of_ble_eq_true rfl)) d_X_single_114 ⟨Nat.zero_le _, Nat.zero_le _⟩) hS (fun q _ h => hFc q h) hFc (fun r9 u t H1 locs ht hvm hw hB hz1 hk1 hS => ?_)
          subst hw
          obtain ⟨hP1, hK1, hD1⟩ := hB
          rw [ht] at hP1
          obtain ⟨hP, hD⟩ := va_join (wr := [c_A x1 c1 1024 m1, c_A x2 c2 256 m2]) (w1 := [c_X x0 x1 x2 x3 x4 ku, c_A x3 c3 9 m3]) hP hD [0, 3] [1, 2] rfl rfl (by decide) (by decide) hk1 hFc hP1 hD1
          generalize H1 = H at hP hS ⊢
          have hP : va_P (dC, dI) classes [c_X x0 x1 x2 x3 x4 ku, c_A x1 c1 1024 m1, c_A x2 c2 256 m2, c_A x3 c3 9 m3] H := hP.sub [2, 0, 1, 3] rfl
          have hD : va_D A [c_X x0 x1 x2 x3 x4 ku, c_A x1 c1 1024 m1, c_A x2 c2 256 m2, c_A x3 c3 9 m3] := hD.sub [2, 0, 1, 3] (by decide) rfl
          obtain ⟨z1, ez1⟩ : ∃ z, z = (f_X_status ku m3) := ⟨_, rfl⟩
          rw [← ez1] at  ⊢
          have hPc := hP.sub (ws' := [c_X x0 x1 x2 x3 x4 ku, c_A x1 c1 1024 m1, c_A x2 c2 256 m2, c_A x3 c3 9 m3]) [0, 1, 2, 3] rfl
          have hDc := hD.sub (ws' := [c_X x0 x1 x2 x3 x4 ku, c_A x1 c1 1024 m1, c_A x2 c2 256 m2, c_A x3 c3 9 m3]) [0, 1, 2, 3] (by decide) rfl
          have hKc := hK.sub (tys' := [(c1, .int), (c2, .int), (c3, .int)]) [0, 1, 2] rfl
          have hFc := va_free (wc := [c_X x0 x1 x2 x3 x4 ku, c_A x1 c1 1024 m1, c_A x2 c2 256 m2, c_A x3 c3 9 m3]) hD hS hA [0, 1, 2, 3] rfl
          refine va_callv (va_runV (As := [.int z1]) (rest := []) ⟨hx, hb, hml, hown, htB⟩ (c_X_push l dC dI z0 x0 x1 x2 x3 x4 c1 c2 c3 H.size z1 ku m1 m2 m3 hxs) (cwV 1 htB (gd_V mw_627 mw_629 sw_X_push mw_4 mw_630) rfl rfl rfl (by decide +kernel) ⟨Nat.le_of_ble_eq_true rfl, Nat.le_of_ble_eq_true rfl⟩) (pcx_V (va_recv hKc hPc (ci := 3) (q0 := 0) rfl rfl) hPc hKc hDc hA0 hE hS) rfl rfl hl.1 rfl (lv_room (Nat.le_of_ble_eq_true rfl)) d_X_single_117 ⟨Nat.zero_le _, Nat.zero_le _⟩) hS (fun q _ h => hFc q h) hFc (fun u t H1 locs ht hvm hw hB hz1 hk1 hS => ?_)
          obtain ⟨hP1, hK1, hD1⟩ := hB
          rw [ht] at hP1
          obtain ⟨hP, hD⟩ := va_join (wr := []) (w1 := [c_X x0 x1 x2 x3 x4 ((f_X_push z1 ku m1 m2 m3).1), c_A x1 c1 1024 ((f_X_push z1 ku m1 m2 m3).2.1), c_A x2 c2 256 ((f_X_push z1 ku m1 m2 m3).2.2.1), c_A x3 c3 9 ((f_X_push z1 ku m1 m2 m3).2.2.2)]) hP hD [0, 1, 2, 3] [] rfl rfl (by decide) (by decide) hk1 hFc hP1 hD1
          generalize H1 = H at hP hS ⊢
          have hP : va_P (dC, dI) classes [c_X x0 x1 x2 x3 x4 ((f_X_push z1 ku m1 m2 m3).1), c_A x1 c1 1024 ((f_X_push z1 ku m1 m2 m3).2.1), c_A x2 c2 256 ((f_X_push z1 ku m1 m2 m3).2.2.1), c_A x3 c3 9 ((f_X_push z1 ku m1 m2 m3).2.2.2)] H := hP.sub [0, 1, 2, 3] rfl
          have hD : va_D A [c_X x0 x1 x2 x3 x4 ((f_X_push z1 ku m1 m2 m3).1), c_A x1 c1 1024 ((f_X_push z1 ku m1 m2 m3).2.1), c_A x2 c2 256 ((f_X_push z1 ku m1 m2 m3).2.2.1), c_A x3 c3 9 ((f_X_push z1 ku m1 m2 m3).2.2.2)] := hD.sub [0, 1, 2, 3] (by decide) rfl
          obtain ⟨z2, ez2⟩ : ∃ z, z = (f_X_push z1 ku m1 m2 m3) := ⟨_, rfl⟩
          rw [← ez2] at hP hD
          refine lv_goto (tgt := 343) hx hb d_X_single_120 (by decide) ?_
          have hf : f_X_single p1 ku m1 m2 m3 = (z2.1, z2.2.1, z2.2.2.1, z2.2.2.2) := by rw [f_X_single, if_neg c_1, if_neg c_2, if_neg c_3, if_pos c_4, ← ez1, f_X_single_k11, ← ez2, f_X_single_k12]
          exact W.vret hx hb hr (fun t ht hW => ⟨⟨(), rfl, trivial, by rw [hf]; exact ⟨by rw [ht]; exact hP, va_K.moved hW.alike hK, hD⟩⟩, hS.F ht⟩) hS.2.2 d_X_single_343
      · refine lv_aload_n hx hb d_X_single_76 rfl (lv_at hl 0 rfl) ?_
        have hPc := hP.sub (ws' := [c_X x0 x1 x2 x3 x4 ku, c_A x1 c1 1024 m1, c_A x3 c3 9 m3]) [0, 1, 3] rfl
        have hDc := hD.sub (ws' := [c_X x0 x1 x2 x3 x4 ku, c_A x1 c1 1024 m1, c_A x3 c3 9 m3]) [0, 1, 3] (by decide) rfl
        have hKc := hK.sub (tys' := [(c1, .int), (c3, .int)]) [0, 2] rfl
        have hFc := va_free (wc := [c_X x0 x1 x2 x3 x4 ku, c_A x1 c1 1024 m1, c_A x3 c3 9 m3]) hD hS hA [0, 1, 3] rfl
        refine va_calli (va_runV (As := []) (rest := []) ⟨hx, hb, hml, hown, htB⟩ (c_X_pull l dC dI z0 x0 x1 x2 x3 x4 c1 c3 H.size ku m1 m3) (cwV 0 htB (gd_V mw_631 mw_633 sw_X_pull mw_4 mw_634) rfl rfl rfl (by decide +kernel) ⟨Nat.le_of_ble_eq_true rfl, Nat.le_of_ble_eq_true rfl⟩) (pcx_V (va_recv hKc hPc (ci := 3) (q0 := 0) rfl rfl) hPc hKc hDc hA0 hE hS) rfl rfl hl.1 rfl (lv_room (Nat.le_of_ble_eq_true rfl)) d_X_single_77 ⟨Nat.zero_le _, Nat.zero_le _⟩) hS (fun q _ h => hFc q h) hFc (fun r9 u t H1 locs ht hvm hw hB hz1 hk1 hS => ?_)
        subst hw
        obtain ⟨hP1, hK1, hD1⟩ := hB
        rw [ht] at hP1
        obtain ⟨hP, hD⟩ := va_join (wr := [c_A x2 c2 256 m2]) (w1 := [c_X x0 x1 x2 x3 x4 ((f_X_pull ku m1 m3).2.1), c_A x1 c1 1024 m1, c_A x3 c3 9 ((f_X_pull ku m1 m3).2.2)]) hP hD [0, 1, 3] [2] rfl rfl (by decide) (by decide) hk1 hFc hP1 hD1
        generalize H1 = H at hP hS ⊢
        have hP : va_P (dC, dI) classes [c_X x0 x1 x2 x3 x4 ((f_X_pull ku m1 m3).2.1), c_A x1 c1 1024 m1, c_A x2 c2 256 m2, c_A x3 c3 9 ((f_X_pull ku m1 m3).2.2)] H := hP.sub [1, 2, 0, 3] rfl
        have hD : va_D A [c_X x0 x1 x2 x3 x4 ((f_X_pull ku m1 m3).2.1), c_A x1 c1 1024 m1, c_A x2 c2 256 m2, c_A x3 c3 9 ((f_X_pull ku m1 m3).2.2)] := hD.sub [1, 2, 0, 3] (by decide) rfl
        obtain ⟨z1, ez1⟩ : ∃ z, z = (f_X_pull ku m1 m3) := ⟨_, rfl⟩
        rw [← ez1] at hP hD ⊢
        refine lv_istore_n (lv' := [(2, .int z1.1), (0, .ref x0), (1, .int p1)]) hx hb d_X_single_80 rfl hl (by decide) rfl (fun ls hl => ?_)
        refine lv_aload_n hx hb d_X_single_81 rfl (lv_at hl 1 rfl) ?_
        refine va_get (D := (dC, dI)) (ci := 3) (v := .ref x3) (C := R_X) (T := F_X) (N := 13) hx hb htB i_X hown hK hP 0 rfl rfl 2 (by decide) (htB _ mw_463) (fun _ h9 => h9) rfl d_X_single_82 ?_
        refine lv_iconst (v := 4) hx hb d_X_single_85 (by decide) ?_
        refine lv_iload_n hx hb d_X_single_86 rfl (lv_at hl 0 rfl) ?_
        refine lv_sipush (v := 256) hx hb d_X_single_87 (by decide) ?_
        refine lv_aload_n hx hb d_X_single_90 rfl (lv_at hl 1 rfl) ?_
        have hPc := hP.sub (ws' := [c_X x0 x1 x2 x3 x4 z1.2.1, c_A x1 c1 1024 m1, c_A x3 c3 9 z1.2.2]) [0, 1, 3] rfl
        have hDc := hD.sub (ws' := [c_X x0 x1 x2 x3 x4 z1.2.1, c_A x1 c1 1024 m1, c_A x3 c3 9 z1.2.2]) [0, 1, 3] (by decide) rfl
        have hKc := hK.sub (tys' := [(c1, .int), (c3, .int)]) [0, 2] rfl
        have hFc := va_free (wc := [c_X x0 x1 x2 x3 x4 z1.2.1, c_A x1 c1 1024 m1, c_A x3 c3 9 z1.2.2]) hD hS hA [0, 1, 3] rfl
        refine va_calli (va_runV (As := []) (rest := [.int (256 : Int32), .int z1.1, .int (4 : Int32), .ref x3]) ⟨hx, hb, hml, hown, htB⟩ (c_X_pull l dC dI z0 x0 x1 x2 x3 x4 c1 c3 H.size z1.2.1 m1 z1.2.2) (cwV 0 htB (gd_V mw_631 mw_633 sw_X_pull mw_4 mw_634) rfl rfl rfl (by decide +kernel) ⟨Nat.le_of_ble_eq_true rfl, Nat.le_of_ble_eq_true rfl⟩) (pcx_V (va_recv hKc hPc (ci := 3) (q0 := 0) rfl rfl) hPc hKc hDc hA0 hE hS) rfl rfl hl.1 rfl (lv_room (Nat.le_of_ble_eq_true rfl)) d_X_single_91 ⟨Nat.zero_le _, Nat.zero_le _⟩) hS (fun q _ h => hFc q h) hFc (fun r9 u t H1 locs ht hvm hw hB hz1 hk1 hS => ?_)
        subst hw
        obtain ⟨hP1, hK1, hD1⟩ := hB
        rw [ht] at hP1
        obtain ⟨hP, hD⟩ := va_join (wr := [c_A x2 c2 256 m2]) (w1 := [c_X x0 x1 x2 x3 x4 ((f_X_pull z1.2.1 m1 z1.2.2).2.1), c_A x1 c1 1024 m1, c_A x3 c3 9 ((f_X_pull z1.2.1 m1 z1.2.2).2.2)]) hP hD [0, 1, 3] [2] rfl rfl (by decide) (by decide) hk1 hFc hP1 hD1
        generalize H1 = H at hP hS ⊢
        have hP : va_P (dC, dI) classes [c_X x0 x1 x2 x3 x4 ((f_X_pull z1.2.1 m1 z1.2.2).2.1), c_A x1 c1 1024 m1, c_A x2 c2 256 m2, c_A x3 c3 9 ((f_X_pull z1.2.1 m1 z1.2.2).2.2)] H := hP.sub [1, 2, 0, 3] rfl
        have hD : va_D A [c_X x0 x1 x2 x3 x4 ((f_X_pull z1.2.1 m1 z1.2.2).2.1), c_A x1 c1 1024 m1, c_A x2 c2 256 m2, c_A x3 c3 9 ((f_X_pull z1.2.1 m1 z1.2.2).2.2)] := hD.sub [1, 2, 0, 3] (by decide) rfl
        obtain ⟨z2, ez2⟩ : ∃ z, z = (f_X_pull z1.2.1 m1 z1.2.2) := ⟨_, rfl⟩
        rw [← ez2] at hP hD ⊢
        refine lv_imul hx hb d_X_single_94 ?_
        refine lv_iadd hx hb d_X_single_95 ?_
        refine lv_iconst (v := 1) hx hb d_X_single_96 (by decide) ?_
        refine lv_iadd hx hb d_X_single_97 ?_
        refine lv_sipush (v := 1023) hx hb d_X_single_98 (by decide) ?_
        refine lv_iand hx hb d_X_single_101 ?_
        refine iast_at hx hb hK hP hD hS 3 2 rfl rfl (show ¬ ((4 : Int32) < 0 ∨ 9 ≤ (4 : Int32).toNatClampNeg) from by decide) (show (4 : Int32).toNatClampNeg = 4 from by decide) d_X_single_102 (fun H locs hP hD hS => ?_)
        have hP : va_P (dC, dI) classes [c_X x0 x1 x2 x3 x4 z2.2.1, c_A x1 c1 1024 m1, c_A x2 c2 256 m2, c_A x3 c3 9 (upd z2.2.2 4 (((z1.1 + ((256 : Int32) * z2.1)) + (1 : Int32)) &&& (1023 : Int32)))] H := hP
        have hD : va_D A [c_X x0 x1 x2 x3 x4 z2.2.1, c_A x1 c1 1024 m1, c_A x2 c2 256 m2, c_A x3 c3 9 (upd z2.2.2 4 (((z1.1 + ((256 : Int32) * z2.1)) + (1 : Int32)) &&& (1023 : Int32)))] := hD
        refine lv_goto (tgt := 343) hx hb d_X_single_103 (by decide) ?_
        have hf : f_X_single p1 ku m1 m2 m3 = (z2.2.1, m1, m2, (upd z2.2.2 4 (((z1.1 + ((256 : Int32) * z2.1)) + (1 : Int32)) &&& (1023 : Int32)))) := by rw [f_X_single, if_neg c_1, if_neg c_2, if_pos c_3, ← ez1, f_X_single_k13, ← ez2, f_X_single_k14]
        exact W.vret hx hb hr (fun t ht hW => ⟨⟨(), rfl, trivial, by rw [hf]; exact ⟨by rw [ht]; exact hP, va_K.moved hW.alike hK, hD⟩⟩, hS.F ht⟩) hS.2.2 d_X_single_343
    · refine lv_aload_n hx hb d_X_single_18 rfl (lv_at hl 0 rfl) ?_
      have hPc := hP.sub (ws' := [c_X x0 x1 x2 x3 x4 ku, c_A x1 c1 1024 m1, c_A x3 c3 9 m3]) [0, 1, 3] rfl
      have hDc := hD.sub (ws' := [c_X x0 x1 x2 x3 x4 ku, c_A x1 c1 1024 m1, c_A x3 c3 9 m3]) [0, 1, 3] (by decide) rfl
      have hKc := hK.sub (tys' := [(c1, .int), (c3, .int)]) [0, 2] rfl
      have hFc := va_free (wc := [c_X x0 x1 x2 x3 x4 ku, c_A x1 c1 1024 m1, c_A x3 c3 9 m3]) hD hS hA [0, 1, 3] rfl
      refine va_callv (va_runV (As := []) (rest := []) ⟨hx, hb, hml, hown, htB⟩ (c_X_two l dC dI z0 x0 x1 x2 x3 x4 c1 c3 H.size ku m1 m3) (cwV 0 htB (gd_V mw_567 mw_569 sw_X_two mw_4 mw_570) rfl rfl rfl (by decide +kernel) ⟨Nat.le_of_ble_eq_true rfl, Nat.le_of_ble_eq_true rfl⟩) (pcx_V (va_recv hKc hPc (ci := 3) (q0 := 0) rfl rfl) hPc hKc hDc hA0 hE hS) rfl rfl hl.1 rfl (lv_room (Nat.le_of_ble_eq_true rfl)) d_X_single_19 ⟨Nat.zero_le _, Nat.zero_le _⟩) hS (fun q _ h => hFc q h) hFc (fun u t H1 locs ht hvm hw hB hz1 hk1 hS => ?_)
      obtain ⟨hP1, hK1, hD1⟩ := hB
      rw [ht] at hP1
      obtain ⟨hP, hD⟩ := va_join (wr := [c_A x2 c2 256 m2]) (w1 := [c_X x0 x1 x2 x3 x4 ((f_X_two ku m1 m3).1), c_A x1 c1 1024 m1, c_A x3 c3 9 ((f_X_two ku m1 m3).2)]) hP hD [0, 1, 3] [2] rfl rfl (by decide) (by decide) hk1 hFc hP1 hD1
      generalize H1 = H at hP hS ⊢
      have hP : va_P (dC, dI) classes [c_X x0 x1 x2 x3 x4 ((f_X_two ku m1 m3).1), c_A x1 c1 1024 m1, c_A x2 c2 256 m2, c_A x3 c3 9 ((f_X_two ku m1 m3).2)] H := hP.sub [1, 2, 0, 3] rfl
      have hD : va_D A [c_X x0 x1 x2 x3 x4 ((f_X_two ku m1 m3).1), c_A x1 c1 1024 m1, c_A x2 c2 256 m2, c_A x3 c3 9 ((f_X_two ku m1 m3).2)] := hD.sub [1, 2, 0, 3] (by decide) rfl
      obtain ⟨z1, ez1⟩ : ∃ z, z = (f_X_two ku m1 m3) := ⟨_, rfl⟩
      rw [← ez1] at hP hD
      refine lv_aload_n hx hb d_X_single_22 rfl (lv_at hl 0 rfl) ?_
      refine va_get (D := (dC, dI)) (ci := 3) (v := .ref x3) (C := R_X) (T := F_X) (N := 13) hx hb htB i_X hown hK hP 0 rfl rfl 2 (by decide) (htB _ mw_463) (fun _ h9 => h9) rfl d_X_single_23 ?_
      refine lv_iconst (v := 4) hx hb d_X_single_26 (by decide) ?_
      refine iald_at hx hb hK hP 3 2 rfl rfl (show ¬ ((4 : Int32) < 0 ∨ 9 ≤ (4 : Int32).toNatClampNeg) from by decide) (show (4 : Int32).toNatClampNeg = 4 from by decide) d_X_single_27 ?_
      refine lv_iconst (v := 1) hx hb d_X_single_28 (by decide) ?_
      refine lv_isub hx hb d_X_single_29 ?_
      refine lv_sipush (v := 1023) hx hb d_X_single_30 (by decide) ?_
      refine lv_iand hx hb d_X_single_33 ?_
      refine lv_istore_n (lv' := [(2, .int (((z1.2 4) - (1 : Int32)) &&& (1023 : Int32))), (0, .ref x0), (1, .int p1)]) hx hb d_X_single_34 rfl hl (by decide) rfl (fun ls hl => ?_)
      refine lv_aload_n hx hb d_X_single_35 rfl (lv_at hl 1 rfl) ?_
      refine lv_iload_n hx hb d_X_single_36 rfl (lv_at hl 0 rfl) ?_
      refine lv_sipush (v := 256) hx hb d_X_single_37 (by decide) ?_
      refine lv_idiv hx hb d_X_single_40 (by decide) ?_
      have hPc := hP.sub (ws' := [c_X x0 x1 x2 x3 x4 z1.1, c_A x1 c1 1024 m1, c_A x2 c2 256 m2, c_A x3 c3 9 z1.2]) [0, 1, 2, 3] rfl
      have hDc := hD.sub (ws' := [c_X x0 x1 x2 x3 x4 z1.1, c_A x1 c1 1024 m1, c_A x2 c2 256 m2, c_A x3 c3 9 z1.2]) [0, 1, 2, 3] (by decide) rfl
      have hKc := hK.sub (tys' := [(c1, .int), (c2, .int), (c3, .int)]) [0, 1, 2] rfl
      have hFc := va_free (wc := [c_X x0 x1 x2 x3 x4 z1.1, c_A x1 c1 1024 m1, c_A x2 c2 256 m2, c_A x3 c3 9 z1.2]) hD hS hA [0, 1, 2, 3] rfl
      refine va_callv (va_runV (As := [.int ((((z1.2 4) - (1 : Int32)) &&& (1023 : Int32)) / (256 : Int32))]) (rest := []) ⟨hx, hb, hml, hown, htB⟩ (c_X_push l dC dI z0 x0 x1 x2 x3 x4 c1 c2 c3 H.size ((((z1.2 4) - (1 : Int32)) &&& (1023 : Int32)) / (256 : Int32)) z1.1 m1 m2 z1.2 (by rw [ez1]; exact xs_two hxs)) (cwV 1 htB (gd_V mw_627 mw_629 sw_X_push mw_4 mw_630) rfl rfl rfl (by decide +kernel) ⟨Nat.le_of_ble_eq_true rfl, Nat.le_of_ble_eq_true rfl⟩) (pcx_V (va_recv hKc hPc (ci := 3) (q0 := 0) rfl rfl) hPc hKc hDc hA0 hE hS) rfl rfl hl.1 rfl (lv_room (Nat.le_of_ble_eq_true rfl)) d_X_single_41 ⟨Nat.zero_le _, Nat.zero_le _⟩) hS (fun q _ h => hFc q h) hFc (fun u t H1 locs ht hvm hw hB hz1 hk1 hS => ?_)
      obtain ⟨hP1, hK1, hD1⟩ := hB
      rw [ht] at hP1
      obtain ⟨hP, hD⟩ := va_join (wr := []) (w1 := [c_X x0 x1 x2 x3 x4 ((f_X_push ((((z1.2 4) - (1 : Int32)) &&& (1023 : Int32)) / (256 : Int32)) z1.1 m1 m2 z1.2).1), c_A x1 c1 1024 ((f_X_push ((((z1.2 4) - (1 : Int32)) &&& (1023 : Int32)) / (256 : Int32)) z1.1 m1 m2 z1.2).2.1), c_A x2 c2 256 ((f_X_push ((((z1.2 4) - (1 : Int32)) &&& (1023 : Int32)) / (256 : Int32)) z1.1 m1 m2 z1.2).2.2.1), c_A x3 c3 9 ((f_X_push ((((z1.2 4) - (1 : Int32)) &&& (1023 : Int32)) / (256 : Int32)) z1.1 m1 m2 z1.2).2.2.2)]) hP hD [0, 1, 2, 3] [] rfl rfl (by decide) (by decide) hk1 hFc hP1 hD1
      generalize H1 = H at hP hS ⊢
      have hP : va_P (dC, dI) classes [c_X x0 x1 x2 x3 x4 ((f_X_push ((((z1.2 4) - (1 : Int32)) &&& (1023 : Int32)) / (256 : Int32)) z1.1 m1 m2 z1.2).1), c_A x1 c1 1024 ((f_X_push ((((z1.2 4) - (1 : Int32)) &&& (1023 : Int32)) / (256 : Int32)) z1.1 m1 m2 z1.2).2.1), c_A x2 c2 256 ((f_X_push ((((z1.2 4) - (1 : Int32)) &&& (1023 : Int32)) / (256 : Int32)) z1.1 m1 m2 z1.2).2.2.1), c_A x3 c3 9 ((f_X_push ((((z1.2 4) - (1 : Int32)) &&& (1023 : Int32)) / (256 : Int32)) z1.1 m1 m2 z1.2).2.2.2)] H := hP.sub [0, 1, 2, 3] rfl
      have hD : va_D A [c_X x0 x1 x2 x3 x4 ((f_X_push ((((z1.2 4) - (1 : Int32)) &&& (1023 : Int32)) / (256 : Int32)) z1.1 m1 m2 z1.2).1), c_A x1 c1 1024 ((f_X_push ((((z1.2 4) - (1 : Int32)) &&& (1023 : Int32)) / (256 : Int32)) z1.1 m1 m2 z1.2).2.1), c_A x2 c2 256 ((f_X_push ((((z1.2 4) - (1 : Int32)) &&& (1023 : Int32)) / (256 : Int32)) z1.1 m1 m2 z1.2).2.2.1), c_A x3 c3 9 ((f_X_push ((((z1.2 4) - (1 : Int32)) &&& (1023 : Int32)) / (256 : Int32)) z1.1 m1 m2 z1.2).2.2.2)] := hD.sub [0, 1, 2, 3] (by decide) rfl
      obtain ⟨z2, ez2⟩ : ∃ z, z = (f_X_push ((((z1.2 4) - (1 : Int32)) &&& (1023 : Int32)) / (256 : Int32)) z1.1 m1 m2 z1.2) := ⟨_, rfl⟩
      rw [← ez2] at hP hD
      refine lv_aload_n hx hb d_X_single_44 rfl (lv_at hl 1 rfl) ?_
      refine lv_iload_n hx hb d_X_single_45 rfl (lv_at hl 0 rfl) ?_
      refine lv_sipush (v := 256) hx hb d_X_single_46 (by decide) ?_
      refine lv_irem hx hb d_X_single_49 (by decide) ?_
      have hPc := hP.sub (ws' := [c_X x0 x1 x2 x3 x4 z2.1, c_A x1 c1 1024 z2.2.1, c_A x2 c2 256 z2.2.2.1, c_A x3 c3 9 z2.2.2.2]) [0, 1, 2, 3] rfl
      have hDc := hD.sub (ws' := [c_X x0 x1 x2 x3 x4 z2.1, c_A x1 c1 1024 z2.2.1, c_A x2 c2 256 z2.2.2.1, c_A x3 c3 9 z2.2.2.2]) [0, 1, 2, 3] (by decide) rfl
      have hKc := hK.sub (tys' := [(c1, .int), (c2, .int), (c3, .int)]) [0, 1, 2] rfl
      have hFc := va_free (wc := [c_X x0 x1 x2 x3 x4 z2.1, c_A x1 c1 1024 z2.2.1, c_A x2 c2 256 z2.2.2.1, c_A x3 c3 9 z2.2.2.2]) hD hS hA [0, 1, 2, 3] rfl
      refine va_callv (va_runV (As := [.int ((((z1.2 4) - (1 : Int32)) &&& (1023 : Int32)) - (((z1.2 4) - (1 : Int32)) &&& (1023 : Int32)) / (256 : Int32) * (256 : Int32))]) (rest := []) ⟨hx, hb, hml, hown, htB⟩ (c_X_push l dC dI z0 x0 x1 x2 x3 x4 c1 c2 c3 H.size ((((z1.2 4) - (1 : Int32)) &&& (1023 : Int32)) - (((z1.2 4) - (1 : Int32)) &&& (1023 : Int32)) / (256 : Int32) * (256 : Int32)) z2.1 z2.2.1 z2.2.2.1 z2.2.2.2 (by rw [ez2]; exact xs_push (and_div_nn _) (by rw [ez1]; exact xs_two hxs))) (cwV 1 htB (gd_V mw_627 mw_629 sw_X_push mw_4 mw_630) rfl rfl rfl (by decide +kernel) ⟨Nat.le_of_ble_eq_true rfl, Nat.le_of_ble_eq_true rfl⟩) (pcx_V (va_recv hKc hPc (ci := 3) (q0 := 0) rfl rfl) hPc hKc hDc hA0 hE hS) rfl rfl hl.1 rfl (lv_room (Nat.le_of_ble_eq_true rfl)) d_X_single_50 ⟨Nat.zero_le _, Nat.zero_le _⟩) hS (fun q _ h => hFc q h) hFc (fun u t H1 locs ht hvm hw hB hz1 hk1 hS => ?_)
      obtain ⟨hP1, hK1, hD1⟩ := hB
      rw [ht] at hP1
      obtain ⟨hP, hD⟩ := va_join (wr := []) (w1 := [c_X x0 x1 x2 x3 x4 ((f_X_push ((((z1.2 4) - (1 : Int32)) &&& (1023 : Int32)) - (((z1.2 4) - (1 : Int32)) &&& (1023 : Int32)) / (256 : Int32) * (256 : Int32)) z2.1 z2.2.1 z2.2.2.1 z2.2.2.2).1), c_A x1 c1 1024 ((f_X_push ((((z1.2 4) - (1 : Int32)) &&& (1023 : Int32)) - (((z1.2 4) - (1 : Int32)) &&& (1023 : Int32)) / (256 : Int32) * (256 : Int32)) z2.1 z2.2.1 z2.2.2.1 z2.2.2.2).2.1), c_A x2 c2 256 ((f_X_push ((((z1.2 4) - (1 : Int32)) &&& (1023 : Int32)) - (((z1.2 4) - (1 : Int32)) &&& (1023 : Int32)) / (256 : Int32) * (256 : Int32)) z2.1 z2.2.1 z2.2.2.1 z2.2.2.2).2.2.1), c_A x3 c3 9 ((f_X_push ((((z1.2 4) - (1 : Int32)) &&& (1023 : Int32)) - (((z1.2 4) - (1 : Int32)) &&& (1023 : Int32)) / (256 : Int32) * (256 : Int32)) z2.1 z2.2.1 z2.2.2.1 z2.2.2.2).2.2.2)]) hP hD [0, 1, 2, 3] [] rfl rfl (by decide) (by decide) hk1 hFc hP1 hD1
      generalize H1 = H at hP hS ⊢
      have hP : va_P (dC, dI) classes [c_X x0 x1 x2 x3 x4 ((f_X_push ((((z1.2 4) - (1 : Int32)) &&& (1023 : Int32)) - (((z1.2 4) - (1 : Int32)) &&& (1023 : Int32)) / (256 : Int32) * (256 : Int32)) z2.1 z2.2.1 z2.2.2.1 z2.2.2.2).1), c_A x1 c1 1024 ((f_X_push ((((z1.2 4) - (1 : Int32)) &&& (1023 : Int32)) - (((z1.2 4) - (1 : Int32)) &&& (1023 : Int32)) / (256 : Int32) * (256 : Int32)) z2.1 z2.2.1 z2.2.2.1 z2.2.2.2).2.1), c_A x2 c2 256 ((f_X_push ((((z1.2 4) - (1 : Int32)) &&& (1023 : Int32)) - (((z1.2 4) - (1 : Int32)) &&& (1023 : Int32)) / (256 : Int32) * (256 : Int32)) z2.1 z2.2.1 z2.2.2.1 z2.2.2.2).2.2.1), c_A x3 c3 9 ((f_X_push ((((z1.2 4) - (1 : Int32)) &&& (1023 : Int32)) - (((z1.2 4) - (1 : Int32)) &&& (1023 : Int32)) / (256 : Int32) * (256 : Int32)) z2.1 z2.2.1 z2.2.2.1 z2.2.2.2).2.2.2)] H := hP.sub [0, 1, 2, 3] rfl
      have hD : va_D A [c_X x0 x1 x2 x3 x4 ((f_X_push ((((z1.2 4) - (1 : Int32)) &&& (1023 : Int32)) - (((z1.2 4) - (1 : Int32)) &&& (1023 : Int32)) / (256 : Int32) * (256 : Int32)) z2.1 z2.2.1 z2.2.2.1 z2.2.2.2).1), c_A x1 c1 1024 ((f_X_push ((((z1.2 4) - (1 : Int32)) &&& (1023 : Int32)) - (((z1.2 4) - (1 : Int32)) &&& (1023 : Int32)) / (256 : Int32) * (256 : Int32)) z2.1 z2.2.1 z2.2.2.1 z2.2.2.2).2.1), c_A x2 c2 256 ((f_X_push ((((z1.2 4) - (1 : Int32)) &&& (1023 : Int32)) - (((z1.2 4) - (1 : Int32)) &&& (1023 : Int32)) / (256 : Int32) * (256 : Int32)) z2.1 z2.2.1 z2.2.2.1 z2.2.2.2).2.2.1), c_A x3 c3 9 ((f_X_push ((((z1.2 4) - (1 : Int32)) &&& (1023 : Int32)) - (((z1.2 4) - (1 : Int32)) &&& (1023 : Int32)) / (256 : Int32) * (256 : Int32)) z2.1 z2.2.1 z2.2.2.1 z2.2.2.2).2.2.2)] := hD.sub [0, 1, 2, 3] (by decide) rfl
      obtain ⟨z3, ez3⟩ : ∃ z, z = (f_X_push ((((z1.2 4) - (1 : Int32)) &&& (1023 : Int32)) - (((z1.2 4) - (1 : Int32)) &&& (1023 : Int32)) / (256 : Int32) * (256 : Int32)) z2.1 z2.2.1 z2.2.2.1 z2.2.2.2) := ⟨_, rfl⟩
      rw [← ez3] at hP hD
      refine lv_aload_n hx hb d_X_single_53 rfl (lv_at hl 1 rfl) ?_
      refine va_get (D := (dC, dI)) (ci := 3) (v := .ref x3) (C := R_X) (T := F_X) (N := 13) hx hb htB i_X hown hK hP 0 rfl rfl 2 (by decide) (htB _ mw_463) (fun _ h9 => h9) rfl d_X_single_54 ?_
      refine lv_iconst (v := 4) hx hb d_X_single_57 (by decide) ?_
      refine lv_aload_n hx hb d_X_single_58 rfl (lv_at hl 1 rfl) ?_
      refine va_get (D := (dC, dI)) (ci := 3) (v := .int (z3.1 7)) (C := R_X) (T := F_X) (N := 13) hx hb htB i_X hown hK hP 0 rfl rfl 11 (by decide) (htB _ mw_472) (fun _ h9 => h9) rfl d_X_single_59 ?_
      refine lv_sipush (v := 1023) hx hb d_X_single_62 (by decide) ?_
      refine lv_iand hx hb d_X_single_65 ?_
      refine iast_at hx hb hK hP hD hS 3 2 rfl rfl (show ¬ ((4 : Int32) < 0 ∨ 9 ≤ (4 : Int32).toNatClampNeg) from by decide) (show (4 : Int32).toNatClampNeg = 4 from by decide) d_X_single_66 (fun H locs hP hD hS => ?_)
      have hP : va_P (dC, dI) classes [c_X x0 x1 x2 x3 x4 z3.1, c_A x1 c1 1024 z3.2.1, c_A x2 c2 256 z3.2.2.1, c_A x3 c3 9 (upd z3.2.2.2 4 ((z3.1 7) &&& (1023 : Int32)))] H := hP
      have hD : va_D A [c_X x0 x1 x2 x3 x4 z3.1, c_A x1 c1 1024 z3.2.1, c_A x2 c2 256 z3.2.2.1, c_A x3 c3 9 (upd z3.2.2.2 4 ((z3.1 7) &&& (1023 : Int32)))] := hD
      refine lv_goto (tgt := 343) hx hb d_X_single_67 (by decide) ?_
      have hf : f_X_single p1 ku m1 m2 m3 = (z3.1, z3.2.1, z3.2.2.1, (upd z3.2.2.2 4 ((z3.1 7) &&& (1023 : Int32)))) := by rw [f_X_single, if_neg c_1, if_pos c_2, ← ez1, f_X_single_k15, ← ez2, f_X_single_k16, ← ez3, f_X_single_k17]
      exact W.vret hx hb hr (fun t ht hW => ⟨⟨(), rfl, trivial, by rw [hf]; exact ⟨by rw [ht]; exact hP, va_K.moved hW.alike hK, hD⟩⟩, hS.F ht⟩) hS.2.2 d_X_single_343
  · refine lv_aload_n hx hb d_X_single_4 rfl (lv_at hl 0 rfl) ?_
    refine lv_iconst (v := 1) hx hb d_X_single_5 (by decide) ?_
    refine va_put (D := (dC, dI)) (ci := 3) (v := .int (1 : Int32)) (ty := .int) (C := R_X) (T := F_X) (N := 13) hx hb htB i_X t_X t_X_ok n_X hown hK hP hD hS 0 rfl rfl 8 (by decide) (htB _ mw_469) (fun _ h9 => h9) rfl (by decide +kernel) rfl rfl (Nat.le_of_ble_eq_true rfl) d_X_single_6 (fun H locs hP hD hS => ?_)
    have hP : va_P (dC, dI) classes [c_X x0 x1 x2 x3 x4 (upd ku 4 (1 : Int32)), c_A x1 c1 1024 m1, c_A x2 c2 256 m2, c_A x3 c3 9 m3] H := hP
    have hD : va_D A [c_X x0 x1 x2 x3 x4 (upd ku 4 (1 : Int32)), c_A x1 c1 1024 m1, c_A x2 c2 256 m2, c_A x3 c3 9 m3] := hD
    refine lv_goto (tgt := 343) hx hb d_X_single_9 (by decide) ?_
    have hf : f_X_single p1 ku m1 m2 m3 = ((upd ku 4 (1 : Int32)), m1, m2, m3) := by rw [f_X_single, if_pos c_1]
    exact W.vret hx hb hr (fun t ht hW => ⟨⟨(), rfl, trivial, by rw [hf]; exact ⟨by rw [ht]; exact hP, va_K.moved hW.alike hK, hD⟩⟩, hS.F ht⟩) hS.2.2 d_X_single_343

def f_X_tests_k1 (p1 : Int32) (p2 : Int32) (p3 : Int32) (ku m1 m2 m3 : Nat → Int32) (v4 : Int32) (v5 : Int32) (z3 : (Nat → Int32) × (Nat → Int32) × (Nat → Int32) × (Nat → Int32)) : (Nat → Int32) × (Nat → Int32) × (Nat → Int32) × (Nat → Int32) :=
  (z3.1, z3.2.1, z3.2.2.1, z3.2.2.2)
def f_X_tests_j357 (p1 : Int32) (p2 : Int32) (p3 : Int32) (ku m1 m2 m3 : Nat → Int32) (v4 v5 : Int32) : (Nat → Int32) × (Nat → Int32) × (Nat → Int32) × (Nat → Int32) :=
  f_X_tests_k1 p1 p2 p3 ku m1 m2 m3 v4 v5 (f_X_single p3 ku m1 m2 m3)
def f_X_tests_k6 (p1 : Int32) (p2 : Int32) (p3 : Int32) (ku m1 m2 m3 : Nat → Int32) (v4 : Int32) (v5 : Int32) (z3 : Int32 × (Nat → Int32) × (Nat → Int32)) (z4 : Int32 × (Nat → Int32)) (z5 : (Nat → Int32)) : (Nat → Int32) × (Nat → Int32) × (Nat → Int32) × (Nat → Int32) :=
  (z4.2, m1, m2, z5)
def f_X_tests_k5 (p1 : Int32) (p2 : Int32) (p3 : Int32) (ku m1 m2 m3 : Nat → Int32) (v4 : Int32) (v5 : Int32) (z3 : Int32 × (Nat → Int32) × (Nat → Int32)) (z4 : Int32 × (Nat → Int32)) : (Nat → Int32) × (Nat → Int32) × (Nat → Int32) × (Nat → Int32) :=
  f_X_tests_k6 p1 p2 p3 ku m1 m2 m3 v4 v5 z3 z4 (f_X_compare (z3.2.2 2) z4.1 z4.2 z3.2.2)
def f_X_tests_k4 (p1 : Int32) (p2 : Int32) (p3 : Int32) (ku m1 m2 m3 : Nat → Int32) (v4 : Int32) (v5 : Int32) (z3 : Int32 × (Nat → Int32) × (Nat → Int32)) (z4 : Int32 × (Nat → Int32)) (z5 : (Nat → Int32)) : (Nat → Int32) × (Nat → Int32) × (Nat → Int32) × (Nat → Int32) :=
  (z4.2, m1, m2, z5)
def f_X_tests_k3 (p1 : Int32) (p2 : Int32) (p3 : Int32) (ku m1 m2 m3 : Nat → Int32) (v4 : Int32) (v5 : Int32) (z3 : Int32 × (Nat → Int32) × (Nat → Int32)) (z4 : Int32 × (Nat → Int32)) : (Nat → Int32) × (Nat → Int32) × (Nat → Int32) × (Nat → Int32) :=
  f_X_tests_k4 p1 p2 p3 ku m1 m2 m3 v4 v5 z3 z4 (f_X_compare (z3.2.2 1) z4.1 z4.2 z3.2.2)
def f_X_tests_k2 (p1 : Int32) (p2 : Int32) (p3 : Int32) (ku m1 m2 m3 : Nat → Int32) (v4 : Int32) (v5 : Int32) (z3 : Int32 × (Nat → Int32) × (Nat → Int32)) : (Nat → Int32) × (Nat → Int32) × (Nat → Int32) × (Nat → Int32) :=
  if p1 = (6 : Int32) then
    f_X_tests_k5 p1 p2 p3 ku m1 m2 m3 v4 v5 z3 (f_X_operand v5 z3.1 z3.2.1 m1 z3.2.2)
  else
    f_X_tests_k3 p1 p2 p3 ku m1 m2 m3 v4 v5 z3 (f_X_operand v5 z3.1 z3.2.1 m1 z3.2.2)
def f_X_tests_j313 (p1 : Int32) (p2 : Int32) (p3 : Int32) (ku m1 m2 m3 : Nat → Int32) (v4 v5 : Int32) : (Nat → Int32) × (Nat → Int32) × (Nat → Int32) × (Nat → Int32) :=
  f_X_tests_k2 p1 p2 p3 ku m1 m2 m3 v4 v5 (f_X_address v5 ku m1 m3)
def f_X_tests_j299 (p1 : Int32) (p2 : Int32) (p3 : Int32) (ku m1 m2 m3 : Nat → Int32) (v4 v5 : Int32) : (Nat → Int32) × (Nat → Int32) × (Nat → Int32) × (Nat → Int32) :=
  if p1 ≤ (5 : Int32) then
    f_X_tests_j357 p1 p2 p3 ku m1 m2 m3 v4 v5
  else
    if v4 = (0 : Int32) then
      if p2 = (0 : Int32) then
        f_X_tests_j313 p1 p2 p3 ku m1 m2 m3 v4 v5
      else
        f_X_tests_j357 p1 p2 p3 ku m1 m2 m3 v4 v5
    else
      f_X_tests_j313 p1 p2 p3 ku m1 m2 m3 v4 v5
def f_X_tests_k9 (p1 : Int32) (p2 : Int32) (p3 : Int32) (ku m1 m2 m3 : Nat → Int32) (v4 : Int32) (v5 : Int32) (z3 : Int32 × (Nat → Int32) × (Nat → Int32)) (z4 : Int32 × (Nat → Int32)) (z5 : (Nat → Int32)) : (Nat → Int32) × (Nat → Int32) × (Nat → Int32) × (Nat → Int32) :=
  (z4.2, m1, m2, z5)
def f_X_tests_k8 (p1 : Int32) (p2 : Int32) (p3 : Int32) (ku m1 m2 m3 : Nat → Int32) (v4 : Int32) (v5 : Int32) (z3 : Int32 × (Nat → Int32) × (Nat → Int32)) (z4 : Int32 × (Nat → Int32)) : (Nat → Int32) × (Nat → Int32) × (Nat → Int32) × (Nat → Int32) :=
  f_X_tests_k9 p1 p2 p3 ku m1 m2 m3 v4 v5 z3 z4 (f_X_put3 (2 : Int32) z4.1 (1 : Int32) z4.2 z3.2.2)
def f_X_tests_k7 (p1 : Int32) (p2 : Int32) (p3 : Int32) (ku m1 m2 m3 : Nat → Int32) (v4 : Int32) (v5 : Int32) (z3 : Int32 × (Nat → Int32) × (Nat → Int32)) : (Nat → Int32) × (Nat → Int32) × (Nat → Int32) × (Nat → Int32) :=
  f_X_tests_k8 p1 p2 p3 ku m1 m2 m3 v4 v5 z3 (f_X_operand v5 z3.1 z3.2.1 m1 z3.2.2)
def f_X_tests_j274 (p1 : Int32) (p2 : Int32) (p3 : Int32) (ku m1 m2 m3 : Nat → Int32) (v4 v5 : Int32) : (Nat → Int32) × (Nat → Int32) × (Nat → Int32) × (Nat → Int32) :=
  f_X_tests_k7 p1 p2 p3 ku m1 m2 m3 v4 v5 (f_X_address v5 ku m1 m3)
def f_X_tests_j249 (p1 : Int32) (p2 : Int32) (p3 : Int32) (ku m1 m2 m3 : Nat → Int32) (v4 v5 : Int32) : (Nat → Int32) × (Nat → Int32) × (Nat → Int32) × (Nat → Int32) :=
  if p1 = (5 : Int32) then
    if v4 = (0 : Int32) then
      if p2 = (0 : Int32) then
        f_X_tests_j274 p1 p2 p3 ku m1 m2 m3 v4 v5
      else
        if p2 = (5 : Int32) then
          f_X_tests_j274 p1 p2 p3 ku m1 m2 m3 v4 v5
        else
          if p2 = (7 : Int32) then
            f_X_tests_j274 p1 p2 p3 ku m1 m2 m3 v4 v5
          else
            f_X_tests_j299 p1 p2 p3 ku m1 m2 m3 v4 v5
    else
      f_X_tests_j274 p1 p2 p3 ku m1 m2 m3 v4 v5
  else
    f_X_tests_j299 p1 p2 p3 ku m1 m2 m3 v4 v5
def f_X_tests_k11 (p1 : Int32) (p2 : Int32) (p3 : Int32) (ku m1 m2 m3 : Nat → Int32) (v4 : Int32) (v5 : Int32) (z3 : Int32 × (Nat → Int32) × (Nat → Int32)) (z4 : (Nat → Int32) × (Nat → Int32) × (Nat → Int32)) : (Nat → Int32) × (Nat → Int32) × (Nat → Int32) × (Nat → Int32) :=
  (z4.1, z4.2.1, z4.2.2, z3.2.2)
def f_X_tests_k10 (p1 : Int32) (p2 : Int32) (p3 : Int32) (ku m1 m2 m3 : Nat → Int32) (v4 : Int32) (v5 : Int32) (z3 : Int32 × (Nat → Int32) × (Nat → Int32)) : (Nat → Int32) × (Nat → Int32) × (Nat → Int32) × (Nat → Int32) :=
  f_X_tests_k11 p1 p2 p3 ku m1 m2 m3 v4 v5 z3 (f_X_write z3.1 (z3.2.2 2) z3.2.1 m1 m2)
def f_X_tests_j226 (p1 : Int32) (p2 : Int32) (p3 : Int32) (ku m1 m2 m3 : Nat → Int32) (v4 v5 : Int32) : (Nat → Int32) × (Nat → Int32) × (Nat → Int32) × (Nat → Int32) :=
  f_X_tests_k10 p1 p2 p3 ku m1 m2 m3 v4 v5 (f_X_address v5 ku m1 m3)
def f_X_tests_j211 (p1 : Int32) (p2 : Int32) (p3 : Int32) (ku m1 m2 m3 : Nat → Int32) (v4 v5 : Int32) : (Nat → Int32) × (Nat → Int32) × (Nat → Int32) × (Nat → Int32) :=
  if p1 = (4 : Int32) then
    if v4 = (0 : Int32) then
      if p2 = (5 : Int32) then
        f_X_tests_j226 p1 p2 p3 ku m1 m2 m3 v4 v5
      else
        f_X_tests_j249 p1 p2 p3 ku m1 m2 m3 v4 v5
    else
      f_X_tests_j226 p1 p2 p3 ku m1 m2 m3 v4 v5
  else
    f_X_tests_j249 p1 p2 p3 ku m1 m2 m3 v4 v5
def f_X_tests_k12 (p1 : Int32) (p2 : Int32) (p3 : Int32) (ku m1 m2 m3 : Nat → Int32) (v4 : Int32) (v5 : Int32) (z3 : (Nat → Int32) × (Nat → Int32)) : (Nat → Int32) × (Nat → Int32) × (Nat → Int32) × (Nat → Int32) :=
  (z3.1, m1, m2, (upd z3.2 4 ((z3.1 7) &&& (1023 : Int32))))
def f_X_tests_k15 (p1 : Int32) (p2 : Int32) (p3 : Int32) (ku m1 m2 m3 : Nat → Int32) (v4 : Int32) (v5 : Int32) (z3 : (Nat → Int32) × (Nat → Int32)) (z4 : Int32 × (Nat → Int32)) (z5 : Int32 × (Nat → Int32)) : (Nat → Int32) × (Nat → Int32) × (Nat → Int32) × (Nat → Int32) :=
  (z5.2, m1, m2, (upd z3.2 4 ((z4.1 + ((256 : Int32) * z5.1)) &&& (1023 : Int32))))
def f_X_tests_k14 (p1 : Int32) (p2 : Int32) (p3 : Int32) (ku m1 m2 m3 : Nat → Int32) (v4 : Int32) (v5 : Int32) (z3 : (Nat → Int32) × (Nat → Int32)) (z4 : Int32 × (Nat → Int32)) : (Nat → Int32) × (Nat → Int32) × (Nat → Int32) × (Nat → Int32) :=
  f_X_tests_k15 p1 p2 p3 ku m1 m2 m3 v4 v5 z3 z4 (f_X_read ((z4.2 7) + (1 : Int32)) z4.2 m1)
def f_X_tests_k13 (p1 : Int32) (p2 : Int32) (p3 : Int32) (ku m1 m2 m3 : Nat → Int32) (v4 : Int32) (v5 : Int32) (z3 : (Nat → Int32) × (Nat → Int32)) : (Nat → Int32) × (Nat → Int32) × (Nat → Int32) × (Nat → Int32) :=
  f_X_tests_k14 p1 p2 p3 ku m1 m2 m3 v4 v5 z3 (f_X_read (z3.1 7) z3.1 m1)
def f_X_tests_j140 (p1 : Int32) (p2 : Int32) (p3 : Int32) (ku m1 m2 m3 : Nat → Int32) (v4 v5 : Int32) : (Nat → Int32) × (Nat → Int32) × (Nat → Int32) × (Nat → Int32) :=
  if p1 = (2 : Int32) then
    if p2 = (3 : Int32) then
      f_X_tests_k12 p1 p2 p3 ku m1 m2 m3 v4 v5 (f_X_two ku m1 m3)
    else
      f_X_tests_j211 p1 p2 p3 ku m1 m2 m3 v4 v5
  else
    if p1 = (3 : Int32) then
      if p2 = (3 : Int32) then
        f_X_tests_k13 p1 p2 p3 ku m1 m2 m3 v4 v5 (f_X_two ku m1 m3)
      else
        f_X_tests_j211 p1 p2 p3 ku m1 m2 m3 v4 v5
    else
      f_X_tests_j211 p1 p2 p3 ku m1 m2 m3 v4 v5
def f_X_tests_k17 (p1 : Int32) (p2 : Int32) (p3 : Int32) (ku m1 m2 m3 : Nat → Int32) (v4 : Int32) (v5 : Int32) (z3 : Int32 × (Nat → Int32) × (Nat → Int32)) (z4 : Int32 × (Nat → Int32)) : (Nat → Int32) × (Nat → Int32) × (Nat → Int32) × (Nat → Int32) :=
  if ((z3.2.2 0) &&& z4.1) = (0 : Int32) then
    (z4.2, m1, m2, (upd (upd (upd z3.2.2 7 (1 : Int32)) 5 (z4.1 >>> ((7 : Int32) &&& 31))) 6 ((z4.1 >>> ((6 : Int32) &&& 31)) &&& (1 : Int32))))
  else
    (z4.2, m1, m2, (upd (upd (upd z3.2.2 7 (0 : Int32)) 5 (z4.1 >>> ((7 : Int32) &&& 31))) 6 ((z4.1 >>> ((6 : Int32) &&& 31)) &&& (1 : Int32))))
def f_X_tests_k16 (p1 : Int32) (p2 : Int32) (p3 : Int32) (ku m1 m2 m3 : Nat → Int32) (v4 : Int32) (v5 : Int32) (z3 : Int32 × (Nat → Int32) × (Nat → Int32)) : (Nat → Int32) × (Nat → Int32) × (Nat → Int32) × (Nat → Int32) :=
  f_X_tests_k17 p1 p2 p3 ku m1 m2 m3 v4 v5 z3 (f_X_read z3.1 z3.2.1 m1)
def f_X_tests_j66 (p1 : Int32) (p2 : Int32) (p3 : Int32) (ku m1 m2 m3 : Nat → Int32) (v4 v5 : Int32) : (Nat → Int32) × (Nat → Int32) × (Nat → Int32) × (Nat → Int32) :=
  if p1 = (1 : Int32) then
    if v4 = (0 : Int32) then
      f_X_tests_j140 p1 p2 p3 ku m1 m2 m3 v4 v5
    else
      f_X_tests_k16 p1 p2 p3 ku m1 m2 m3 v4 v5 (f_X_address v5 ku m1 m3)
  else
    f_X_tests_j140 p1 p2 p3 ku m1 m2 m3 v4 v5
def f_X_tests_k18 (p1 : Int32) (p2 : Int32) (p3 : Int32) (ku m1 m2 m3 : Nat → Int32) (z1 : (Nat → Int32) × (Nat → Int32)) : (Nat → Int32) × (Nat → Int32) × (Nat → Int32) × (Nat → Int32) :=
  (z1.1, m1, m2, z1.2)
def f_X_tests (p1 : Int32) (p2 : Int32) (p3 : Int32) (ku m1 m2 m3 : Nat → Int32) : (Nat → Int32) × (Nat → Int32) × (Nat → Int32) × (Nat → Int32) :=
  if p2 = (4 : Int32) then
    f_X_tests_k18 p1 p2 p3 ku m1 m2 m3 (f_X_branch p1 ku m1 m3)
  else
    if p2 = (1 : Int32) then
      if p2 = (0 : Int32) then
        f_X_tests_j66 p1 p2 p3 ku m1 m2 m3 (1 : Int32) (0 : Int32)
      else
        f_X_tests_j66 p1 p2 p3 ku m1 m2 m3 (1 : Int32) (1 : Int32)
    else
      if p2 = (3 : Int32) then
        if p2 = (0 : Int32) then
          f_X_tests_j66 p1 p2 p3 ku m1 m2 m3 (1 : Int32) (0 : Int32)
        else
          f_X_tests_j66 p1 p2 p3 ku m1 m2 m3 (1 : Int32) (4 : Int32)
      else
        if p2 = (0 : Int32) then
          f_X_tests_j66 p1 p2 p3 ku m1 m2 m3 (0 : Int32) (0 : Int32)
        else
          if p2 = (5 : Int32) then
            f_X_tests_j66 p1 p2 p3 ku m1 m2 m3 (0 : Int32) (2 : Int32)
          else
            f_X_tests_j66 p1 p2 p3 ku m1 m2 m3 (0 : Int32) (5 : Int32)
abbrev Q_X_tests (dC : Nat → ClassId) (dI : Nat → Nat → Nat) (x0 : Nat) (x1 : Nat) (x2 : Nat) (x3 : Nat) (x4 : Nat) (c1 : ClassId) (c2 : ClassId) (c3 : ClassId) (p1 : Int32) (p2 : Int32) (p3 : Int32) (ku m1 m2 m3 : Nat → Int32) (A : Nat → Prop) : Array Value → State → Outcome → State → Prop := va_Qv (fun (_ : Unit) => True) (fun _ t => atW (dC, dI) classes A [c_X x0 x1 x2 x3 x4 ((f_X_tests p1 p2 p3 ku m1 m2 m3).1), c_A x1 c1 1024 ((f_X_tests p1 p2 p3 ku m1 m2 m3).2.1), c_A x2 c2 256 ((f_X_tests p1 p2 p3 ku m1 m2 m3).2.2.1), c_A x3 c3 9 ((f_X_tests p1 p2 p3 ku m1 m2 m3).2.2.2)] [(c1, .int), (c2, .int), (c3, .int)] t) A
set_option maxHeartbeats 4000000 in
set_option maxRecDepth 100000 in
theorem J_X_tests_357 {l : Launch} {dC : Nat → ClassId} {dI : Nat → Nat → Nat} {z0 : Nat} {x0 : Nat} {x1 : Nat} {x2 : Nat} {x3 : Nat} {x4 : Nat} {c1 : ClassId} {c2 : ClassId} {c3 : ClassId} {p : Program} {e : Env} {s : State} {m : MethodId} {below : List Frame} {meth : Method} {c : Code} {A : Nat → Prop} {p1 : Int32} {p2 : Int32} {p3 : Int32} {ku m1 m2 m3 : Nat → Int32} (hx : p.tables.exec = Jvm.exec) (hb : c.code = b_X_tests) (hr : meth.sig.returnType = none) (hlocks : meth.locks = false) (hml : c.maxLocals = 7) (hown : s.vm.findClass R_X = some m.cls) (htB : ∀ w ∈ BIG, w.before ([.ref x0, .int p1, .int p2, .int p3] : List Value).toArray s = true) (hK : va_K (dC, dI) classes [(c1, .int), (c2, .int), (c3, .int)] s) (hA : ∀ q : Nat, s.heap.size ≤ q → A q) (hA0 : ∀ q, A q → z0 ≤ q) (hE : EN z0 s) (hxs : xs_ok ku) {v4 v5 : Int32} (hJ : f_X_tests p1 p2 p3 ku m1 m2 m3 = f_X_tests_j357 p1 p2 p3 ku m1 m2 m3 v4 v5) (H : Heap) (locs : List Loc) (ls : Array Slot) (hP : va_P (dC, dI) classes [c_X x0 x1 x2 x3 x4 ku, c_A x1 c1 1024 m1, c_A x2 c2 256 m2, c_A x3 c3 9 m3] H) (hD : va_D A [c_X x0 x1 x2 x3 x4 ku, c_A x1 c1 1024 m1, c_A x2 c2 256 m2, c_A x3 c3 9 m3]) (hS : va_S A s.heap H locs) (hl : lv_has ls 7 [(4, .int v4), (5, .int v5), (0, .ref x0), (1, .int p1), (2, .int p2), (3, .int p3)]) : W p l e (headSpec w_X_tests ({ frames := 4, cells := 0, slots := 0, locals := 86 })).room s m ([.ref x0, .int p1, .int p2, .int p3] : List Value).toArray below meth c H locs 0 0 (MQ below (Q_X_tests dC dI x0 x1 x2 x3 x4 c1 c2 c3 p1 p2 p3 ku m1 m2 m3 A) ([.ref x0, .int p1, .int p2, .int p3] : List Value).toArray s 0 0 A) (F0 m 357 ls []) := by
  refine lv_aload_n hx hb d_X_tests_357 rfl (lv_at hl 2 rfl) ?_
  refine lv_iload_n hx hb d_X_tests_358 rfl (lv_at hl 5 rfl) ?_
  have hPc := hP.sub (ws' := [c_X x0 x1 x2 x3 x4 ku, c_A x1 c1 1024 m1, c_A x2 c2 256 m2, c_A x3 c3 9 m3]) [0, 1, 2, 3] rfl
  have hDc := hD.sub (ws' := [c_X x0 x1 x2 x3 x4 ku, c_A x1 c1 1024 m1, c_A x2 c2 256 m2, c_A x3 c3 9 m3]) [0, 1, 2, 3] (by decide) rfl
  have hKc := hK.sub (tys' := [(c1, .int), (c2, .int), (c3, .int)]) [0, 1, 2] rfl
  have hFc := va_free (wc := [c_X x0 x1 x2 x3 x4 ku, c_A x1 c1 1024 m1, c_A x2 c2 256 m2, c_A x3 c3 9 m3]) hD hS hA [0, 1, 2, 3] rfl
  refine va_callv (va_runV (As := [.int p3]) (rest := []) ⟨hx, hb, hml, hown, htB⟩ (c_X_single l dC dI z0 x0 x1 x2 x3 x4 c1 c2 c3 H.size p3 ku m1 m2 m3 hxs) (cwV 1 htB (gd_V mw_623 mw_625 sw_X_single mw_4 mw_626) rfl rfl rfl (by decide +kernel) ⟨Nat.le_of_ble_eq_true rfl, Nat.le_of_ble_eq_true rfl⟩) (pcx_V (va_recv hKc hPc (ci := 3) (q0 := 0) rfl rfl) hPc hKc hDc hA0 hE hS) rfl rfl hl.1 rfl (lv_room (Nat.le_of_ble_eq_true rfl)) d_X_tests_359 ⟨Nat.zero_le _, Nat.zero_le _⟩) hS (fun q _ h => hFc q h) hFc (fun u t H1 locs ht hvm hw hB hz1 hk1 hS => ?_)
  obtain ⟨hP1, hK1, hD1⟩ := hB
  rw [ht] at hP1
  obtain ⟨hP, hD⟩ := va_join (wr := []) (w1 := [c_X x0 x1 x2 x3 x4 ((f_X_single p3 ku m1 m2 m3).1), c_A x1 c1 1024 ((f_X_single p3 ku m1 m2 m3).2.1), c_A x2 c2 256 ((f_X_single p3 ku m1 m2 m3).2.2.1), c_A x3 c3 9 ((f_X_single p3 ku m1 m2 m3).2.2.2)]) hP hD [0, 1, 2, 3] [] rfl rfl (by decide) (by decide) hk1 hFc hP1 hD1
  generalize H1 = H at hP hS ⊢
  have hP : va_P (dC, dI) classes [c_X x0 x1 x2 x3 x4 ((f_X_single p3 ku m1 m2 m3).1), c_A x1 c1 1024 ((f_X_single p3 ku m1 m2 m3).2.1), c_A x2 c2 256 ((f_X_single p3 ku m1 m2 m3).2.2.1), c_A x3 c3 9 ((f_X_single p3 ku m1 m2 m3).2.2.2)] H := hP.sub [0, 1, 2, 3] rfl
  have hD : va_D A [c_X x0 x1 x2 x3 x4 ((f_X_single p3 ku m1 m2 m3).1), c_A x1 c1 1024 ((f_X_single p3 ku m1 m2 m3).2.1), c_A x2 c2 256 ((f_X_single p3 ku m1 m2 m3).2.2.1), c_A x3 c3 9 ((f_X_single p3 ku m1 m2 m3).2.2.2)] := hD.sub [0, 1, 2, 3] (by decide) rfl
  obtain ⟨z3, ez3⟩ : ∃ z, z = (f_X_single p3 ku m1 m2 m3) := ⟨_, rfl⟩
  rw [← ez3] at hP hD
  have hf : f_X_tests p1 p2 p3 ku m1 m2 m3 = (z3.1, z3.2.1, z3.2.2.1, z3.2.2.2) := by rw [hJ, f_X_tests_j357, ← ez3, f_X_tests_k1]
  exact W.vret hx hb hr (fun t ht hW => ⟨⟨(), rfl, trivial, by rw [hf]; exact ⟨by rw [ht]; exact hP, va_K.moved hW.alike hK, hD⟩⟩, hS.F ht⟩) hS.2.2 d_X_tests_362
set_option maxHeartbeats 4000000 in
set_option maxRecDepth 100000 in
theorem J_X_tests_313 {l : Launch} {dC : Nat → ClassId} {dI : Nat → Nat → Nat} {z0 : Nat} {x0 : Nat} {x1 : Nat} {x2 : Nat} {x3 : Nat} {x4 : Nat} {c1 : ClassId} {c2 : ClassId} {c3 : ClassId} {p : Program} {e : Env} {s : State} {m : MethodId} {below : List Frame} {meth : Method} {c : Code} {A : Nat → Prop} {p1 : Int32} {p2 : Int32} {p3 : Int32} {ku m1 m2 m3 : Nat → Int32} (hx : p.tables.exec = Jvm.exec) (hb : c.code = b_X_tests) (hr : meth.sig.returnType = none) (hlocks : meth.locks = false) (hml : c.maxLocals = 7) (hown : s.vm.findClass R_X = some m.cls) (htB : ∀ w ∈ BIG, w.before ([.ref x0, .int p1, .int p2, .int p3] : List Value).toArray s = true) (hK : va_K (dC, dI) classes [(c1, .int), (c2, .int), (c3, .int)] s) (hA : ∀ q : Nat, s.heap.size ≤ q → A q) (hA0 : ∀ q, A q → z0 ≤ q) (hE : EN z0 s) (hxs : xs_ok ku) {v4 v5 : Int32} (hJ : f_X_tests p1 p2 p3 ku m1 m2 m3 = f_X_tests_j313 p1 p2 p3 ku m1 m2 m3 v4 v5) (H : Heap) (locs : List Loc) (ls : Array Slot) (hP : va_P (dC, dI) classes [c_X x0 x1 x2 x3 x4 ku, c_A x1 c1 1024 m1, c_A x2 c2 256 m2, c_A x3 c3 9 m3] H) (hD : va_D A [c_X x0 x1 x2 x3 x4 ku, c_A x1 c1 1024 m1, c_A x2 c2 256 m2, c_A x3 c3 9 m3]) (hS : va_S A s.heap H locs) (hl : lv_has ls 7 [(4, .int v4), (5, .int v5), (0, .ref x0), (1, .int p1), (2, .int p2), (3, .int p3)]) : W p l e (headSpec w_X_tests ({ frames := 4, cells := 0, slots := 0, locals := 86 })).room s m ([.ref x0, .int p1, .int p2, .int p3] : List Value).toArray below meth c H locs 0 0 (MQ below (Q_X_tests dC dI x0 x1 x2 x3 x4 c1 c2 c3 p1 p2 p3 ku m1 m2 m3 A) ([.ref x0, .int p1, .int p2, .int p3] : List Value).toArray s 0 0 A) (F0 m 313 ls []) := by
  refine lv_aload_n hx hb d_X_tests_313 rfl (lv_at hl 2 rfl) ?_
  refine lv_iload hx hb d_X_tests_314 (lv_at hl 1 rfl) ?_
  have hPc := hP.sub (ws' := [c_X x0 x1 x2 x3 x4 ku, c_A x1 c1 1024 m1, c_A x3 c3 9 m3]) [0, 1, 3] rfl
  have hDc := hD.sub (ws' := [c_X x0 x1 x2 x3 x4 ku, c_A x1 c1 1024 m1, c_A x3 c3 9 m3]) [0, 1, 3] (by decide) rfl
  have hKc := hK.sub (tys' := [(c1, .int), (c3, .int)]) [0, 2] rfl
  have hFc := va_free (wc := [c_X x0 x1 x2 x3 x4 ku, c_A x1 c1 1024 m1, c_A x3 c3 9 m3]) hD hS hA [0, 1, 3] rfl
  refine va_calli (va_runV (As := [.int v5]) (rest := []) ⟨hx, hb, hml, hown, htB⟩ (c_X_address l dC dI z0 x0 x1 x2 x3 x4 c1 c3 H.size v5 ku m1 m3) (cwV 1 htB (gd_V mw_563 mw_565 sw_X_address mw_4 mw_566) rfl rfl rfl (by decide +kernel) ⟨Nat.le_of_ble_eq_true rfl, Nat.le_of_ble_eq_true rfl⟩) (pcx_V (va_recv hKc hPc (ci := 3) (q0 := 0) rfl rfl) hPc hKc hDc hA0 hE hS) rfl rfl hl.1 rfl (lv_room (Nat.le_of_ble_eq_true rfl)) d_X_tests_316 ⟨Nat.zero_le _, Nat.zero_le _⟩) hS (fun q _ h => hFc q h) hFc (fun r9 u t H1 locs ht hvm hw hB hz1 hk1 hS => ?_)
  subst hw
  obtain ⟨hP1, hK1, hD1⟩ := hB
  rw [ht] at hP1
  obtain ⟨hP, hD⟩ := va_join (wr := [c_A x2 c2 256 m2]) (w1 := [c_X x0 x1 x2 x3 x4 ((f_X_address v5 ku m1 m3).2.1), c_A x1 c1 1024 m1, c_A x3 c3 9 ((f_X_address v5 ku m1 m3).2.2)]) hP hD [0, 1, 3] [2] rfl rfl (by decide) (by decide) hk1 hFc hP1 hD1
  generalize H1 = H at hP hS ⊢
  have hP : va_P (dC, dI) classes [c_X x0 x1 x2 x3 x4 ((f_X_address v5 ku m1 m3).2.1), c_A x1 c1 1024 m1, c_A x2 c2 256 m2, c_A x3 c3 9 ((f_X_address v5 ku m1 m3).2.2)] H := hP.sub [1, 2, 0, 3] rfl
  have hD : va_D A [c_X x0 x1 x2 x3 x4 ((f_X_address v5 ku m1 m3).2.1), c_A x1 c1 1024 m1, c_A x2 c2 256 m2, c_A x3 c3 9 ((f_X_address v5 ku m1 m3).2.2)] := hD.sub [1, 2, 0, 3] (by decide) rfl
  obtain ⟨z3, ez3⟩ : ∃ z, z = (f_X_address v5 ku m1 m3) := ⟨_, rfl⟩
  rw [← ez3] at hP hD ⊢
  refine lv_istore (lv' := [(6, .int z3.1), (4, .int v4), (5, .int v5), (0, .ref x0), (1, .int p1), (2, .int p2), (3, .int p3)]) hx hb d_X_tests_319 hl (by decide) rfl (fun ls hl => ?_)
  refine lv_aload_n hx hb d_X_tests_321 rfl (lv_at hl 3 rfl) ?_
  refine lv_iload_n hx hb d_X_tests_322 rfl (lv_at hl 4 rfl) ?_
  refine lv_bipush (v := 6) hx hb d_X_tests_323 (by decide) ?_
  refine lv_icmp_ne (tgt := 337) hx hb d_X_tests_325 (by decide) (fun c_2 => ?_) (fun c_2 => ?_)
  · refine lv_aload_n hx hb d_X_tests_337 rfl (lv_at hl 3 rfl) ?_
    refine va_get (D := (dC, dI)) (ci := 3) (v := .ref x3) (C := R_X) (T := F_X) (N := 13) hx hb htB i_X hown hK hP 0 rfl rfl 2 (by decide) (htB _ mw_463) (fun _ h9 => h9) rfl d_X_tests_338 ?_
    refine lv_iconst (v := 1) hx hb d_X_tests_341 (by decide) ?_
    refine iald_at hx hb hK hP 3 2 rfl rfl (show ¬ ((1 : Int32) < 0 ∨ 9 ≤ (1 : Int32).toNatClampNeg) from by decide) (show (1 : Int32).toNatClampNeg = 1 from by decide) d_X_tests_342 ?_
    refine lv_aload_n hx hb d_X_tests_343 rfl (lv_at hl 3 rfl) ?_
    refine lv_iload hx hb d_X_tests_344 (lv_at hl 2 rfl) ?_
    refine lv_iload hx hb d_X_tests_346 (lv_at hl 0 rfl) ?_
    have hPc := hP.sub (ws' := [c_X x0 x1 x2 x3 x4 z3.2.1, c_A x1 c1 1024 m1, c_A x3 c3 9 z3.2.2]) [0, 1, 3] rfl
    have hDc := hD.sub (ws' := [c_X x0 x1 x2 x3 x4 z3.2.1, c_A x1 c1 1024 m1, c_A x3 c3 9 z3.2.2]) [0, 1, 3] (by decide) rfl
    have hKc := hK.sub (tys' := [(c1, .int), (c3, .int)]) [0, 2] rfl
    have hFc := va_free (wc := [c_X x0 x1 x2 x3 x4 z3.2.1, c_A x1 c1 1024 m1, c_A x3 c3 9 z3.2.2]) hD hS hA [0, 1, 3] rfl
    refine va_calli (va_runV (As := [.int v5, .int z3.1]) (rest := [.int (z3.2.2 1), .ref x0]) ⟨hx, hb, hml, hown, htB⟩ (c_X_operand l dC dI z0 x0 x1 x2 x3 x4 c1 c3 H.size v5 z3.1 z3.2.1 m1 z3.2.2) (cwV 2 htB (gd_V mw_583 mw_585 sw_X_operand mw_4 mw_586) rfl rfl rfl (by decide +kernel) ⟨Nat.le_of_ble_eq_true rfl, Nat.le_of_ble_eq_true rfl⟩) (pcx_V (va_recv hKc hPc (ci := 3) (q0 := 0) rfl rfl) hPc hKc hDc hA0 hE hS) rfl rfl hl.1 rfl (lv_room (Nat.le_of_ble_eq_true rfl)) d_X_tests_348 ⟨Nat.zero_le _, Nat.zero_le _⟩) hS (fun q _ h => hFc q h) hFc (fun r9 u t H1 locs ht hvm hw hB hz1 hk1 hS => ?_)
    subst hw
    obtain ⟨hP1, hK1, hD1⟩ := hB
    rw [ht] at hP1
    obtain ⟨hP, hD⟩ := va_join (wr := [c_A x2 c2 256 m2]) (w1 := [c_X x0 x1 x2 x3 x4 ((f_X_operand v5 z3.1 z3.2.1 m1 z3.2.2).2), c_A x1 c1 1024 m1, c_A x3 c3 9 z3.2.2]) hP hD [0, 1, 3] [2] rfl rfl (by decide) (by decide) hk1 hFc hP1 hD1
    generalize H1 = H at hP hS ⊢
    have hP : va_P (dC, dI) classes [c_X x0 x1 x2 x3 x4 ((f_X_operand v5 z3.1 z3.2.1 m1 z3.2.2).2), c_A x1 c1 1024 m1, c_A x2 c2 256 m2, c_A x3 c3 9 z3.2.2] H := hP.sub [1, 2, 0, 3] rfl
    have hD : va_D A [c_X x0 x1 x2 x3 x4 ((f_X_operand v5 z3.1 z3.2.1 m1 z3.2.2).2), c_A x1 c1 1024 m1, c_A x2 c2 256 m2, c_A x3 c3 9 z3.2.2] := hD.sub [1, 2, 0, 3] (by decide) rfl
    obtain ⟨z4, ez4⟩ : ∃ z, z = (f_X_operand v5 z3.1 z3.2.1 m1 z3.2.2) := ⟨_, rfl⟩
    rw [← ez4] at hP hD ⊢
    have hPc := hP.sub (ws' := [c_X x0 x1 x2 x3 x4 z4.2, c_A x3 c3 9 z3.2.2]) [0, 3] rfl
    have hDc := hD.sub (ws' := [c_X x0 x1 x2 x3 x4 z4.2, c_A x3 c3 9 z3.2.2]) [0, 3] (by decide) rfl
    have hKc := hK.sub (tys' := [(c3, .int)]) [2] rfl
    have hFc := va_free (wc := [c_X x0 x1 x2 x3 x4 z4.2, c_A x3 c3 9 z3.2.2]) hD hS hA [0, 3] rfl
    refine va_callv (va_runV (As := [.int (z3.2.2 1), .int z4.1]) (rest := []) ⟨hx, hb, hml, hown, htB⟩ (c_X_compare l dC dI z0 x0 x1 x2 x3 x4 c3 H.size (z3.2.2 1) z4.1 z4.2 z3.2.2) (cwV 2 htB (gd_V mw_599 mw_601 sw_X_compare mw_4 mw_602) rfl rfl rfl (by decide +kernel) ⟨Nat.le_of_ble_eq_true rfl, Nat.le_of_ble_eq_true rfl⟩) (pcx_V (va_recv hKc hPc (ci := 3) (q0 := 0) rfl rfl) hPc hKc hDc hA0 hE hS) rfl rfl hl.1 rfl (lv_room (Nat.le_of_ble_eq_true rfl)) d_X_tests_351 ⟨Nat.zero_le _, Nat.zero_le _⟩) hS (fun q _ h => hFc q h) hFc (fun u t H1 locs ht hvm hw hB hz1 hk1 hS => ?_)
    obtain ⟨hP1, hK1, hD1⟩ := hB
    rw [ht] at hP1
    obtain ⟨hP, hD⟩ := va_join (wr := [c_A x1 c1 1024 m1, c_A x2 c2 256 m2]) (w1 := [c_X x0 x1 x2 x3 x4 z4.2, c_A x3 c3 9 (f_X_compare (z3.2.2 1) z4.1 z4.2 z3.2.2)]) hP hD [0, 3] [1, 2] rfl rfl (by decide) (by decide) hk1 hFc hP1 hD1
    generalize H1 = H at hP hS ⊢
    have hP : va_P (dC, dI) classes [c_X x0 x1 x2 x3 x4 z4.2, c_A x1 c1 1024 m1, c_A x2 c2 256 m2, c_A x3 c3 9 (f_X_compare (z3.2.2 1) z4.1 z4.2 z3.2.2)] H := hP.sub [2, 0, 1, 3] rfl
    have hD : va_D A [c_X x0 x1 x2 x3 x4 z4.2, c_A x1 c1 1024 m1, c_A x2 c2 256 m2, c_A x3 c3 9 (f_X_compare (z3.2.2 1) z4.1 z4.2 z3.2.2)] := hD.sub [2, 0, 1, 3] (by decide) rfl
    obtain ⟨z5, ez5⟩ : ∃ z, z = (f_X_compare (z3.2.2 1) z4.1 z4.2 z3.2.2) := ⟨_, rfl⟩
    rw [← ez5] at hP hD
    refine lv_goto (tgt := 362) hx hb d_X_tests_354 (by decide) ?_
    have hf : f_X_tests p1 p2 p3 ku m1 m2 m3 = (z4.2, m1, m2, z5) := by rw [hJ, f_X_tests_j313, ← ez3, f_X_tests_k2, if_neg c_2, ← ez4, f_X_tests_k3, ← ez5, f_X_tests_k4]
    exact W.vret hx hb hr (fun t ht hW => ⟨⟨(), rfl, trivial, by rw [hf]; exact ⟨by rw [ht]; exact hP, va_K.moved hW.alike hK, hD⟩⟩, hS.F ht⟩) hS.2.2 d_X_tests_362
  · refine lv_aload_n hx hb d_X_tests_328 rfl (lv_at hl 3 rfl) ?_
    refine va_get (D := (dC, dI)) (ci := 3) (v := .ref x3) (C := R_X) (T := F_X) (N := 13) hx hb htB i_X hown hK hP 0 rfl rfl 2 (by decide) (htB _ mw_463) (fun _ h9 => h9) rfl d_X_tests_329 ?_
    refine lv_iconst (v := 2) hx hb d_X_tests_332 (by decide) ?_
    refine iald_at hx hb hK hP 3 2 rfl rfl (show ¬ ((2 : Int32) < 0 ∨ 9 ≤ (2 : Int32).toNatClampNeg) from by decide) (show (2 : Int32).toNatClampNeg = 2 from by decide) d_X_tests_333 ?_
    refine lv_goto (tgt := 343) hx hb d_X_tests_334 (by decide) ?_
    refine lv_aload_n hx hb d_X_tests_343 rfl (lv_at hl 3 rfl) ?_
    refine lv_iload hx hb d_X_tests_344 (lv_at hl 2 rfl) ?_
    refine lv_iload hx hb d_X_tests_346 (lv_at hl 0 rfl) ?_
    have hPc := hP.sub (ws' := [c_X x0 x1 x2 x3 x4 z3.2.1, c_A x1 c1 1024 m1, c_A x3 c3 9 z3.2.2]) [0, 1, 3] rfl
    have hDc := hD.sub (ws' := [c_X x0 x1 x2 x3 x4 z3.2.1, c_A x1 c1 1024 m1, c_A x3 c3 9 z3.2.2]) [0, 1, 3] (by decide) rfl
    have hKc := hK.sub (tys' := [(c1, .int), (c3, .int)]) [0, 2] rfl
    have hFc := va_free (wc := [c_X x0 x1 x2 x3 x4 z3.2.1, c_A x1 c1 1024 m1, c_A x3 c3 9 z3.2.2]) hD hS hA [0, 1, 3] rfl
    refine va_calli (va_runV (As := [.int v5, .int z3.1]) (rest := [.int (z3.2.2 2), .ref x0]) ⟨hx, hb, hml, hown, htB⟩ (c_X_operand l dC dI z0 x0 x1 x2 x3 x4 c1 c3 H.size v5 z3.1 z3.2.1 m1 z3.2.2) (cwV 2 htB (gd_V mw_583 mw_585 sw_X_operand mw_4 mw_586) rfl rfl rfl (by decide +kernel) ⟨Nat.le_of_ble_eq_true rfl, Nat.le_of_ble_eq_true rfl⟩) (pcx_V (va_recv hKc hPc (ci := 3) (q0 := 0) rfl rfl) hPc hKc hDc hA0 hE hS) rfl rfl hl.1 rfl (lv_room (Nat.le_of_ble_eq_true rfl)) d_X_tests_348 ⟨Nat.zero_le _, Nat.zero_le _⟩) hS (fun q _ h => hFc q h) hFc (fun r9 u t H1 locs ht hvm hw hB hz1 hk1 hS => ?_)
    subst hw
    obtain ⟨hP1, hK1, hD1⟩ := hB
    rw [ht] at hP1
    obtain ⟨hP, hD⟩ := va_join (wr := [c_A x2 c2 256 m2]) (w1 := [c_X x0 x1 x2 x3 x4 ((f_X_operand v5 z3.1 z3.2.1 m1 z3.2.2).2), c_A x1 c1 1024 m1, c_A x3 c3 9 z3.2.2]) hP hD [0, 1, 3] [2] rfl rfl (by decide) (by decide) hk1 hFc hP1 hD1
    generalize H1 = H at hP hS ⊢
    have hP : va_P (dC, dI) classes [c_X x0 x1 x2 x3 x4 ((f_X_operand v5 z3.1 z3.2.1 m1 z3.2.2).2), c_A x1 c1 1024 m1, c_A x2 c2 256 m2, c_A x3 c3 9 z3.2.2] H := hP.sub [1, 2, 0, 3] rfl
    have hD : va_D A [c_X x0 x1 x2 x3 x4 ((f_X_operand v5 z3.1 z3.2.1 m1 z3.2.2).2), c_A x1 c1 1024 m1, c_A x2 c2 256 m2, c_A x3 c3 9 z3.2.2] := hD.sub [1, 2, 0, 3] (by decide) rfl
    obtain ⟨z4, ez4⟩ : ∃ z, z = (f_X_operand v5 z3.1 z3.2.1 m1 z3.2.2) := ⟨_, rfl⟩
    rw [← ez4] at hP hD ⊢
    have hPc := hP.sub (ws' := [c_X x0 x1 x2 x3 x4 z4.2, c_A x3 c3 9 z3.2.2]) [0, 3] rfl
    have hDc := hD.sub (ws' := [c_X x0 x1 x2 x3 x4 z4.2, c_A x3 c3 9 z3.2.2]) [0, 3] (by decide) rfl
    have hKc := hK.sub (tys' := [(c3, .int)]) [2] rfl
    have hFc := va_free (wc := [c_X x0 x1 x2 x3 x4 z4.2, c_A x3 c3 9 z3.2.2]) hD hS hA [0, 3] rfl
    refine va_callv (va_runV (As := [.int (z3.2.2 2), .int z4.1]) (rest := []) ⟨hx, hb, hml, hown, htB⟩ (c_X_compare l dC dI z0 x0 x1 x2 x3 x4 c3 H.size (z3.2.2 2) z4.1 z4.2 z3.2.2) (cwV 2 htB (gd_V mw_599 mw_601 sw_X_compare mw_4 mw_602) rfl rfl rfl (by decide +kernel) ⟨Nat.le_of_ble_eq_true rfl, Nat.le_of_ble_eq_true rfl⟩) (pcx_V (va_recv hKc hPc (ci := 3) (q0 := 0) rfl rfl) hPc hKc hDc hA0 hE hS) rfl rfl hl.1 rfl (lv_room (Nat.le_of_ble_eq_true rfl)) d_X_tests_351 ⟨Nat.zero_le _, Nat.zero_le _⟩) hS (fun q _ h => hFc q h) hFc (fun u t H1 locs ht hvm hw hB hz1 hk1 hS => ?_)
    obtain ⟨hP1, hK1, hD1⟩ := hB
    rw [ht] at hP1
    obtain ⟨hP, hD⟩ := va_join (wr := [c_A x1 c1 1024 m1, c_A x2 c2 256 m2]) (w1 := [c_X x0 x1 x2 x3 x4 z4.2, c_A x3 c3 9 (f_X_compare (z3.2.2 2) z4.1 z4.2 z3.2.2)]) hP hD [0, 3] [1, 2] rfl rfl (by decide) (by decide) hk1 hFc hP1 hD1
    generalize H1 = H at hP hS ⊢
    have hP : va_P (dC, dI) classes [c_X x0 x1 x2 x3 x4 z4.2, c_A x1 c1 1024 m1, c_A x2 c2 256 m2, c_A x3 c3 9 (f_X_compare (z3.2.2 2) z4.1 z4.2 z3.2.2)] H := hP.sub [2, 0, 1, 3] rfl
    have hD : va_D A [c_X x0 x1 x2 x3 x4 z4.2, c_A x1 c1 1024 m1, c_A x2 c2 256 m2, c_A x3 c3 9 (f_X_compare (z3.2.2 2) z4.1 z4.2 z3.2.2)] := hD.sub [2, 0, 1, 3] (by decide) rfl
    obtain ⟨z5, ez5⟩ : ∃ z, z = (f_X_compare (z3.2.2 2) z4.1 z4.2 z3.2.2) := ⟨_, rfl⟩
    rw [← ez5] at hP hD
    refine lv_goto (tgt := 362) hx hb d_X_tests_354 (by decide) ?_
    have hf : f_X_tests p1 p2 p3 ku m1 m2 m3 = (z4.2, m1, m2, z5) := by rw [hJ, f_X_tests_j313, ← ez3, f_X_tests_k2, if_pos c_2, ← ez4, f_X_tests_k5, ← ez5, f_X_tests_k6]
    exact W.vret hx hb hr (fun t ht hW => ⟨⟨(), rfl, trivial, by rw [hf]; exact ⟨by rw [ht]; exact hP, va_K.moved hW.alike hK, hD⟩⟩, hS.F ht⟩) hS.2.2 d_X_tests_362
set_option maxHeartbeats 4000000 in
set_option maxRecDepth 100000 in
theorem J_X_tests_299 {l : Launch} {dC : Nat → ClassId} {dI : Nat → Nat → Nat} {z0 : Nat} {x0 : Nat} {x1 : Nat} {x2 : Nat} {x3 : Nat} {x4 : Nat} {c1 : ClassId} {c2 : ClassId} {c3 : ClassId} {p : Program} {e : Env} {s : State} {m : MethodId} {below : List Frame} {meth : Method} {c : Code} {A : Nat → Prop} {p1 : Int32} {p2 : Int32} {p3 : Int32} {ku m1 m2 m3 : Nat → Int32} (hx : p.tables.exec = Jvm.exec) (hb : c.code = b_X_tests) (hr : meth.sig.returnType = none) (hlocks : meth.locks = false) (hml : c.maxLocals = 7) (hown : s.vm.findClass R_X = some m.cls) (htB : ∀ w ∈ BIG, w.before ([.ref x0, .int p1, .int p2, .int p3] : List Value).toArray s = true) (hK : va_K (dC, dI) classes [(c1, .int), (c2, .int), (c3, .int)] s) (hA : ∀ q : Nat, s.heap.size ≤ q → A q) (hA0 : ∀ q, A q → z0 ≤ q) (hE : EN z0 s) (hxs : xs_ok ku) {v4 v5 : Int32} (hJ : f_X_tests p1 p2 p3 ku m1 m2 m3 = f_X_tests_j299 p1 p2 p3 ku m1 m2 m3 v4 v5) (H : Heap) (locs : List Loc) (ls : Array Slot) (hP : va_P (dC, dI) classes [c_X x0 x1 x2 x3 x4 ku, c_A x1 c1 1024 m1, c_A x2 c2 256 m2, c_A x3 c3 9 m3] H) (hD : va_D A [c_X x0 x1 x2 x3 x4 ku, c_A x1 c1 1024 m1, c_A x2 c2 256 m2, c_A x3 c3 9 m3]) (hS : va_S A s.heap H locs) (hl : lv_has ls 7 [(4, .int v4), (5, .int v5), (0, .ref x0), (1, .int p1), (2, .int p2), (3, .int p3)]) : W p l e (headSpec w_X_tests ({ frames := 4, cells := 0, slots := 0, locals := 86 })).room s m ([.ref x0, .int p1, .int p2, .int p3] : List Value).toArray below meth c H locs 0 0 (MQ below (Q_X_tests dC dI x0 x1 x2 x3 x4 c1 c2 c3 p1 p2 p3 ku m1 m2 m3 A) ([.ref x0, .int p1, .int p2, .int p3] : List Value).toArray s 0 0 A) (F0 m 299 ls []) := by
  refine lv_iload_n hx hb d_X_tests_299 rfl (lv_at hl 3 rfl) ?_
  refine lv_iconst (v := 5) hx hb d_X_tests_300 (by decide) ?_
  refine lv_icmp_le (tgt := 357) hx hb d_X_tests_301 (by decide) (fun c_1 => ?_) (fun c_1 => ?_)
  · exact J_X_tests_357 hx hb hr hlocks hml hown htB hK hA hA0 hE hxs (by rw [hJ, f_X_tests_j299, if_pos c_1]) H _ ls hP hD hS (lv_sub hl [0, 1, 2, 3, 4, 5] rfl)
  · refine lv_iload hx hb d_X_tests_304 (lv_at hl 0 rfl) ?_
    refine lv_if_ne (tgt := 313) hx hb d_X_tests_306 (by decide) (fun c_2 => ?_) (fun c_2 => ?_)
    · exact J_X_tests_313 hx hb hr hlocks hml hown htB hK hA hA0 hE hxs (by rw [hJ, f_X_tests_j299, if_neg c_1, if_neg c_2]) H _ ls hP hD hS (lv_sub hl [0, 1, 2, 3, 4, 5] rfl)
    · refine lv_iload_n hx hb d_X_tests_309 rfl (lv_at hl 4 rfl) ?_
      refine lv_if_ne (tgt := 357) hx hb d_X_tests_310 (by decide) (fun c_3 => ?_) (fun c_3 => ?_)
      · exact J_X_tests_357 hx hb hr hlocks hml hown htB hK hA hA0 hE hxs (by rw [hJ, f_X_tests_j299, if_neg c_1, if_pos c_2, if_neg c_3]) H _ ls hP hD hS (lv_sub hl [0, 1, 2, 3, 4, 5] rfl)
      · exact J_X_tests_313 hx hb hr hlocks hml hown htB hK hA hA0 hE hxs (by rw [hJ, f_X_tests_j299, if_neg c_1, if_pos c_2, if_pos c_3]) H _ ls hP hD hS (lv_sub hl [0, 1, 2, 3, 4, 5] rfl)
set_option maxHeartbeats 4000000 in
set_option maxRecDepth 100000 in
theorem J_X_tests_274 {l : Launch} {dC : Nat → ClassId} {dI : Nat → Nat → Nat} {z0 : Nat} {x0 : Nat} {x1 : Nat} {x2 : Nat} {x3 : Nat} {x4 : Nat} {c1 : ClassId} {c2 : ClassId} {c3 : ClassId} {p : Program} {e : Env} {s : State} {m : MethodId} {below : List Frame} {meth : Method} {c : Code} {A : Nat → Prop} {p1 : Int32} {p2 : Int32} {p3 : Int32} {ku m1 m2 m3 : Nat → Int32} (hx : p.tables.exec = Jvm.exec) (hb : c.code = b_X_tests) (hr : meth.sig.returnType = none) (hlocks : meth.locks = false) (hml : c.maxLocals = 7) (hown : s.vm.findClass R_X = some m.cls) (htB : ∀ w ∈ BIG, w.before ([.ref x0, .int p1, .int p2, .int p3] : List Value).toArray s = true) (hK : va_K (dC, dI) classes [(c1, .int), (c2, .int), (c3, .int)] s) (hA : ∀ q : Nat, s.heap.size ≤ q → A q) (hA0 : ∀ q, A q → z0 ≤ q) (hE : EN z0 s) (hxs : xs_ok ku) {v4 v5 : Int32} (hJ : f_X_tests p1 p2 p3 ku m1 m2 m3 = f_X_tests_j274 p1 p2 p3 ku m1 m2 m3 v4 v5) (H : Heap) (locs : List Loc) (ls : Array Slot) (hP : va_P (dC, dI) classes [c_X x0 x1 x2 x3 x4 ku, c_A x1 c1 1024 m1, c_A x2 c2 256 m2, c_A x3 c3 9 m3] H) (hD : va_D A [c_X x0 x1 x2 x3 x4 ku, c_A x1 c1 1024 m1, c_A x2 c2 256 m2, c_A x3 c3 9 m3]) (hS : va_S A s.heap H locs) (hl : lv_has ls 7 [(4, .int v4), (5, .int v5), (0, .ref x0), (1, .int p1), (2, .int p2), (3, .int p3)]) : W p l e (headSpec w_X_tests ({ frames := 4, cells := 0, slots := 0, locals := 86 })).room s m ([.ref x0, .int p1, .int p2, .int p3] : List Value).toArray below meth c H locs 0 0 (MQ below (Q_X_tests dC dI x0 x1 x2 x3 x4 c1 c2 c3 p1 p2 p3 ku m1 m2 m3 A) ([.ref x0, .int p1, .int p2, .int p3] : List Value).toArray s 0 0 A) (F0 m 274 ls []) := by
  refine lv_aload_n hx hb d_X_tests_274 rfl (lv_at hl 2 rfl) ?_
  refine lv_iload hx hb d_X_tests_275 (lv_at hl 1 rfl) ?_
  have hPc := hP.sub (ws' := [c_X x0 x1 x2 x3 x4 ku, c_A x1 c1 1024 m1, c_A x3 c3 9 m3]) [0, 1, 3] rfl
  have hDc := hD.sub (ws' := [c_X x0 x1 x2 x3 x4 ku, c_A x1 c1 1024 m1, c_A x3 c3 9 m3]) [0, 1, 3] (by decide) rfl
  have hKc := hK.sub (tys' := [(c1, .int), (c3, .int)]) [0, 2] rfl
  have hFc := va_free (wc := [c_X x0 x1 x2 x3 x4 ku, c_A x1 c1 1024 m1, c_A x3 c3 9 m3]) hD hS hA [0, 1, 3] rfl
  refine va_calli (va_runV (As := [.int v5]) (rest := []) ⟨hx, hb, hml, hown, htB⟩ (c_X_address l dC dI z0 x0 x1 x2 x3 x4 c1 c3 H.size v5 ku m1 m3) (cwV 1 htB (gd_V mw_563 mw_565 sw_X_address mw_4 mw_566) rfl rfl rfl (by decide +kernel) ⟨Nat.le_of_ble_eq_true rfl, Nat.le_of_ble_eq_true rfl⟩) (pcx_V (va_recv hKc hPc (ci := 3) (q0 := 0) rfl rfl) hPc hKc hDc hA0 hE hS) rfl rfl hl.1 rfl (lv_room (Nat.le_of_ble_eq_true rfl)) d_X_tests_277 ⟨Nat.zero_le _, Nat.zero_le _⟩) hS (fun q _ h => hFc q h) hFc (fun r9 u t H1 locs ht hvm hw hB hz1 hk1 hS => ?_)
  subst hw
  obtain ⟨hP1, hK1, hD1⟩ := hB
  rw [ht] at hP1
  obtain ⟨hP, hD⟩ := va_join (wr := [c_A x2 c2 256 m2]) (w1 := [c_X x0 x1 x2 x3 x4 ((f_X_address v5 ku m1 m3).2.1), c_A x1 c1 1024 m1, c_A x3 c3 9 ((f_X_address v5 ku m1 m3).2.2)]) hP hD [0, 1, 3] [2] rfl rfl (by decide) (by decide) hk1 hFc hP1 hD1
  generalize H1 = H at hP hS ⊢
  have hP : va_P (dC, dI) classes [c_X x0 x1 x2 x3 x4 ((f_X_address v5 ku m1 m3).2.1), c_A x1 c1 1024 m1, c_A x2 c2 256 m2, c_A x3 c3 9 ((f_X_address v5 ku m1 m3).2.2)] H := hP.sub [1, 2, 0, 3] rfl
  have hD : va_D A [c_X x0 x1 x2 x3 x4 ((f_X_address v5 ku m1 m3).2.1), c_A x1 c1 1024 m1, c_A x2 c2 256 m2, c_A x3 c3 9 ((f_X_address v5 ku m1 m3).2.2)] := hD.sub [1, 2, 0, 3] (by decide) rfl
  obtain ⟨z3, ez3⟩ : ∃ z, z = (f_X_address v5 ku m1 m3) := ⟨_, rfl⟩
  rw [← ez3] at hP hD ⊢
  refine lv_istore (lv' := [(6, .int z3.1), (4, .int v4), (5, .int v5), (0, .ref x0), (1, .int p1), (2, .int p2), (3, .int p3)]) hx hb d_X_tests_280 hl (by decide) rfl (fun ls hl => ?_)
  refine lv_aload_n hx hb d_X_tests_282 rfl (lv_at hl 3 rfl) ?_
  refine lv_iconst (v := 2) hx hb d_X_tests_283 (by decide) ?_
  refine lv_aload_n hx hb d_X_tests_284 rfl (lv_at hl 3 rfl) ?_
  refine lv_iload hx hb d_X_tests_285 (lv_at hl 2 rfl) ?_
  refine lv_iload hx hb d_X_tests_287 (lv_at hl 0 rfl) ?_
  have hPc := hP.sub (ws' := [c_X x0 x1 x2 x3 x4 z3.2.1, c_A x1 c1 1024 m1, c_A x3 c3 9 z3.2.2]) [0, 1, 3] rfl
  have hDc := hD.sub (ws' := [c_X x0 x1 x2 x3 x4 z3.2.1, c_A x1 c1 1024 m1, c_A x3 c3 9 z3.2.2]) [0, 1, 3] (by decide) rfl
  have hKc := hK.sub (tys' := [(c1, .int), (c3, .int)]) [0, 2] rfl
  have hFc := va_free (wc := [c_X x0 x1 x2 x3 x4 z3.2.1, c_A x1 c1 1024 m1, c_A x3 c3 9 z3.2.2]) hD hS hA [0, 1, 3] rfl
  refine va_calli (va_runV (As := [.int v5, .int z3.1]) (rest := [.int (2 : Int32), .ref x0]) ⟨hx, hb, hml, hown, htB⟩ (c_X_operand l dC dI z0 x0 x1 x2 x3 x4 c1 c3 H.size v5 z3.1 z3.2.1 m1 z3.2.2) (cwV 2 htB (gd_V mw_583 mw_585 sw_X_operand mw_4 mw_586) rfl rfl rfl (by decide +kernel) ⟨Nat.le_of_ble_eq_true rfl, Nat.le_of_ble_eq_true rfl⟩) (pcx_V (va_recv hKc hPc (ci := 3) (q0 := 0) rfl rfl) hPc hKc hDc hA0 hE hS) rfl rfl hl.1 rfl (lv_room (Nat.le_of_ble_eq_true rfl)) d_X_tests_289 ⟨Nat.zero_le _, Nat.zero_le _⟩) hS (fun q _ h => hFc q h) hFc (fun r9 u t H1 locs ht hvm hw hB hz1 hk1 hS => ?_)
  subst hw
  obtain ⟨hP1, hK1, hD1⟩ := hB
  rw [ht] at hP1
  obtain ⟨hP, hD⟩ := va_join (wr := [c_A x2 c2 256 m2]) (w1 := [c_X x0 x1 x2 x3 x4 ((f_X_operand v5 z3.1 z3.2.1 m1 z3.2.2).2), c_A x1 c1 1024 m1, c_A x3 c3 9 z3.2.2]) hP hD [0, 1, 3] [2] rfl rfl (by decide) (by decide) hk1 hFc hP1 hD1
  generalize H1 = H at hP hS ⊢
  have hP : va_P (dC, dI) classes [c_X x0 x1 x2 x3 x4 ((f_X_operand v5 z3.1 z3.2.1 m1 z3.2.2).2), c_A x1 c1 1024 m1, c_A x2 c2 256 m2, c_A x3 c3 9 z3.2.2] H := hP.sub [1, 2, 0, 3] rfl
  have hD : va_D A [c_X x0 x1 x2 x3 x4 ((f_X_operand v5 z3.1 z3.2.1 m1 z3.2.2).2), c_A x1 c1 1024 m1, c_A x2 c2 256 m2, c_A x3 c3 9 z3.2.2] := hD.sub [1, 2, 0, 3] (by decide) rfl
  obtain ⟨z4, ez4⟩ : ∃ z, z = (f_X_operand v5 z3.1 z3.2.1 m1 z3.2.2) := ⟨_, rfl⟩
  rw [← ez4] at hP hD ⊢
  refine lv_iconst (v := 1) hx hb d_X_tests_292 (by decide) ?_
  have hPc := hP.sub (ws' := [c_X x0 x1 x2 x3 x4 z4.2, c_A x3 c3 9 z3.2.2]) [0, 3] rfl
  have hDc := hD.sub (ws' := [c_X x0 x1 x2 x3 x4 z4.2, c_A x3 c3 9 z3.2.2]) [0, 3] (by decide) rfl
  have hKc := hK.sub (tys' := [(c3, .int)]) [2] rfl
  have hFc := va_free (wc := [c_X x0 x1 x2 x3 x4 z4.2, c_A x3 c3 9 z3.2.2]) hD hS hA [0, 3] rfl
  refine va_callv (va_runV (As := [.int (2 : Int32), .int z4.1, .int (1 : Int32)]) (rest := []) ⟨hx, hb, hml, hown, htB⟩ (c_X_put3 l dC dI z0 x0 x1 x2 x3 x4 c3 H.size (2 : Int32) z4.1 (1 : Int32) z4.2 z3.2.2 (show ¬ ((2 : Int32) < 0 ∨ 9 ≤ (2 : Int32).toNatClampNeg) from by decide)) (cwV 3 htB (gd_V mw_587 mw_589 sw_X_put3 mw_4 mw_590) rfl rfl rfl (by decide +kernel) ⟨Nat.le_of_ble_eq_true rfl, Nat.le_of_ble_eq_true rfl⟩) (pcx_V (va_recv hKc hPc (ci := 3) (q0 := 0) rfl rfl) hPc hKc hDc hA0 hE hS) rfl rfl hl.1 rfl (lv_room (Nat.le_of_ble_eq_true rfl)) d_X_tests_293 ⟨Nat.zero_le _, Nat.zero_le _⟩) hS (fun q _ h => hFc q h) hFc (fun u t H1 locs ht hvm hw hB hz1 hk1 hS => ?_)
  obtain ⟨hP1, hK1, hD1⟩ := hB
  rw [ht] at hP1
  obtain ⟨hP, hD⟩ := va_join (wr := [c_A x1 c1 1024 m1, c_A x2 c2 256 m2]) (w1 := [c_X x0 x1 x2 x3 x4 z4.2, c_A x3 c3 9 (f_X_put3 (2 : Int32) z4.1 (1 : Int32) z4.2 z3.2.2)]) hP hD [0, 3] [1, 2] rfl rfl (by decide) (by decide) hk1 hFc hP1 hD1
  generalize H1 = H at hP hS ⊢
  have hP : va_P (dC, dI) classes [c_X x0 x1 x2 x3 x4 z4.2, c_A x1 c1 1024 m1, c_A x2 c2 256 m2, c_A x3 c3 9 (f_X_put3 (2 : Int32) z4.1 (1 : Int32) z4.2 z3.2.2)] H := hP.sub [2, 0, 1, 3] rfl
  have hD : va_D A [c_X x0 x1 x2 x3 x4 z4.2, c_A x1 c1 1024 m1, c_A x2 c2 256 m2, c_A x3 c3 9 (f_X_put3 (2 : Int32) z4.1 (1 : Int32) z4.2 z3.2.2)] := hD.sub [2, 0, 1, 3] (by decide) rfl
  obtain ⟨z5, ez5⟩ : ∃ z, z = (f_X_put3 (2 : Int32) z4.1 (1 : Int32) z4.2 z3.2.2) := ⟨_, rfl⟩
  rw [← ez5] at hP hD
  refine lv_goto (tgt := 362) hx hb d_X_tests_296 (by decide) ?_
  have hf : f_X_tests p1 p2 p3 ku m1 m2 m3 = (z4.2, m1, m2, z5) := by rw [hJ, f_X_tests_j274, ← ez3, f_X_tests_k7, ← ez4, f_X_tests_k8, ← ez5, f_X_tests_k9]
  exact W.vret hx hb hr (fun t ht hW => ⟨⟨(), rfl, trivial, by rw [hf]; exact ⟨by rw [ht]; exact hP, va_K.moved hW.alike hK, hD⟩⟩, hS.F ht⟩) hS.2.2 d_X_tests_362
set_option maxHeartbeats 4000000 in
set_option maxRecDepth 100000 in
theorem J_X_tests_249 {l : Launch} {dC : Nat → ClassId} {dI : Nat → Nat → Nat} {z0 : Nat} {x0 : Nat} {x1 : Nat} {x2 : Nat} {x3 : Nat} {x4 : Nat} {c1 : ClassId} {c2 : ClassId} {c3 : ClassId} {p : Program} {e : Env} {s : State} {m : MethodId} {below : List Frame} {meth : Method} {c : Code} {A : Nat → Prop} {p1 : Int32} {p2 : Int32} {p3 : Int32} {ku m1 m2 m3 : Nat → Int32} (hx : p.tables.exec = Jvm.exec) (hb : c.code = b_X_tests) (hr : meth.sig.returnType = none) (hlocks : meth.locks = false) (hml : c.maxLocals = 7) (hown : s.vm.findClass R_X = some m.cls) (htB : ∀ w ∈ BIG, w.before ([.ref x0, .int p1, .int p2, .int p3] : List Value).toArray s = true) (hK : va_K (dC, dI) classes [(c1, .int), (c2, .int), (c3, .int)] s) (hA : ∀ q : Nat, s.heap.size ≤ q → A q) (hA0 : ∀ q, A q → z0 ≤ q) (hE : EN z0 s) (hxs : xs_ok ku) {v4 v5 : Int32} (hJ : f_X_tests p1 p2 p3 ku m1 m2 m3 = f_X_tests_j249 p1 p2 p3 ku m1 m2 m3 v4 v5) (H : Heap) (locs : List Loc) (ls : Array Slot) (hP : va_P (dC, dI) classes [c_X x0 x1 x2 x3 x4 ku, c_A x1 c1 1024 m1, c_A x2 c2 256 m2, c_A x3 c3 9 m3] H) (hD : va_D A [c_X x0 x1 x2 x3 x4 ku, c_A x1 c1 1024 m1, c_A x2 c2 256 m2, c_A x3 c3 9 m3]) (hS : va_S A s.heap H locs) (hl : lv_has ls 7 [(4, .int v4), (5, .int v5), (0, .ref x0), (1, .int p1), (2, .int p2), (3, .int p3)]) : W p l e (headSpec w_X_tests ({ frames := 4, cells := 0, slots := 0, locals := 86 })).room s m ([.ref x0, .int p1, .int p2, .int p3] : List Value).toArray below meth c H locs 0 0 (MQ below (Q_X_tests dC dI x0 x1 x2 x3 x4 c1 c2 c3 p1 p2 p3 ku m1 m2 m3 A) ([.ref x0, .int p1, .int p2, .int p3] : List Value).toArray s 0 0 A) (F0 m 249 ls []) := by
  refine lv_iload_n hx hb d_X_tests_249 rfl (lv_at hl 3 rfl) ?_
  refine lv_iconst (v := 5) hx hb d_X_tests_250 (by decide) ?_
  refine lv_icmp_ne (tgt := 299) hx hb d_X_tests_251 (by decide) (fun c_1 => ?_) (fun c_1 => ?_)
  · exact J_X_tests_299 hx hb hr hlocks hml hown htB hK hA hA0 hE hxs (by rw [hJ, f_X_tests_j249, if_neg c_1]) H _ ls hP hD hS (lv_sub hl [0, 1, 2, 3, 4, 5] rfl)
  · refine lv_iload hx hb d_X_tests_254 (lv_at hl 0 rfl) ?_
    refine lv_if_ne (tgt := 274) hx hb d_X_tests_256 (by decide) (fun c_2 => ?_) (fun c_2 => ?_)
    · exact J_X_tests_274 hx hb hr hlocks hml hown htB hK hA hA0 hE hxs (by rw [hJ, f_X_tests_j249, if_pos c_1, if_neg c_2]) H _ ls hP hD hS (lv_sub hl [0, 1, 2, 3, 4, 5] rfl)
    · refine lv_iload_n hx hb d_X_tests_259 rfl (lv_at hl 4 rfl) ?_
      refine lv_if_eq (tgt := 274) hx hb d_X_tests_260 (by decide) (fun c_3 => ?_) (fun c_3 => ?_)
      · exact J_X_tests_274 hx hb hr hlocks hml hown htB hK hA hA0 hE hxs (by rw [hJ, f_X_tests_j249, if_pos c_1, if_pos c_2, if_pos c_3]) H _ ls hP hD hS (lv_sub hl [0, 1, 2, 3, 4, 5] rfl)
      · refine lv_iload_n hx hb d_X_tests_263 rfl (lv_at hl 4 rfl) ?_
        refine lv_iconst (v := 5) hx hb d_X_tests_264 (by decide) ?_
        refine lv_icmp_eq (tgt := 274) hx hb d_X_tests_265 (by decide) (fun c_4 => ?_) (fun c_4 => ?_)
        · exact J_X_tests_274 hx hb hr hlocks hml hown htB hK hA hA0 hE hxs (by rw [hJ, f_X_tests_j249, if_pos c_1, if_pos c_2, if_neg c_3, if_pos c_4]) H _ ls hP hD hS (lv_sub hl [0, 1, 2, 3, 4, 5] rfl)
        · refine lv_iload_n hx hb d_X_tests_268 rfl (lv_at hl 4 rfl) ?_
          refine lv_bipush (v := 7) hx hb d_X_tests_269 (by decide) ?_
          refine lv_icmp_ne (tgt := 299) hx hb d_X_tests_271 (by decide) (fun c_5 => ?_) (fun c_5 => ?_)
          · exact J_X_tests_299 hx hb hr hlocks hml hown htB hK hA hA0 hE hxs (by rw [hJ, f_X_tests_j249, if_pos c_1, if_pos c_2, if_neg c_3, if_neg c_4, if_neg c_5]) H _ ls hP hD hS (lv_sub hl [0, 1, 2, 3, 4, 5] rfl)
          · exact J_X_tests_274 hx hb hr hlocks hml hown htB hK hA hA0 hE hxs (by rw [hJ, f_X_tests_j249, if_pos c_1, if_pos c_2, if_neg c_3, if_neg c_4, if_pos c_5]) H _ ls hP hD hS (lv_sub hl [0, 1, 2, 3, 4, 5] rfl)
set_option maxHeartbeats 4000000 in
set_option maxRecDepth 100000 in
theorem J_X_tests_226 {l : Launch} {dC : Nat → ClassId} {dI : Nat → Nat → Nat} {z0 : Nat} {x0 : Nat} {x1 : Nat} {x2 : Nat} {x3 : Nat} {x4 : Nat} {c1 : ClassId} {c2 : ClassId} {c3 : ClassId} {p : Program} {e : Env} {s : State} {m : MethodId} {below : List Frame} {meth : Method} {c : Code} {A : Nat → Prop} {p1 : Int32} {p2 : Int32} {p3 : Int32} {ku m1 m2 m3 : Nat → Int32} (hx : p.tables.exec = Jvm.exec) (hb : c.code = b_X_tests) (hr : meth.sig.returnType = none) (hlocks : meth.locks = false) (hml : c.maxLocals = 7) (hown : s.vm.findClass R_X = some m.cls) (htB : ∀ w ∈ BIG, w.before ([.ref x0, .int p1, .int p2, .int p3] : List Value).toArray s = true) (hK : va_K (dC, dI) classes [(c1, .int), (c2, .int), (c3, .int)] s) (hA : ∀ q : Nat, s.heap.size ≤ q → A q) (hA0 : ∀ q, A q → z0 ≤ q) (hE : EN z0 s) (hxs : xs_ok ku) {v4 v5 : Int32} (hJ : f_X_tests p1 p2 p3 ku m1 m2 m3 = f_X_tests_j226 p1 p2 p3 ku m1 m2 m3 v4 v5) (H : Heap) (locs : List Loc) (ls : Array Slot) (hP : va_P (dC, dI) classes [c_X x0 x1 x2 x3 x4 ku, c_A x1 c1 1024 m1, c_A x2 c2 256 m2, c_A x3 c3 9 m3] H) (hD : va_D A [c_X x0 x1 x2 x3 x4 ku, c_A x1 c1 1024 m1, c_A x2 c2 256 m2, c_A x3 c3 9 m3]) (hS : va_S A s.heap H locs) (hl : lv_has ls 7 [(4, .int v4), (5, .int v5), (0, .ref x0), (1, .int p1), (2, .int p2), (3, .int p3)]) : W p l e (headSpec w_X_tests ({ frames := 4, cells := 0, slots := 0, locals := 86 })).room s m ([.ref x0, .int p1, .int p2, .int p3] : List Value).toArray below meth c H locs 0 0 (MQ below (Q_X_tests dC dI x0 x1 x2 x3 x4 c1 c2 c3 p1 p2 p3 ku m1 m2 m3 A) ([.ref x0, .int p1, .int p2, .int p3] : List Value).toArray s 0 0 A) (F0 m 226 ls []) := by
  refine lv_aload_n hx hb d_X_tests_226 rfl (lv_at hl 2 rfl) ?_
  refine lv_iload hx hb d_X_tests_227 (lv_at hl 1 rfl) ?_
  have hPc := hP.sub (ws' := [c_X x0 x1 x2 x3 x4 ku, c_A x1 c1 1024 m1, c_A x3 c3 9 m3]) [0, 1, 3] rfl
  have hDc := hD.sub (ws' := [c_X x0 x1 x2 x3 x4 ku, c_A x1 c1 1024 m1, c_A x3 c3 9 m3]) [0, 1, 3] (by decide) rfl
  have hKc := hK.sub (tys' := [(c1, .int), (c3, .int)]) [0, 2] rfl
  have hFc := va_free (wc := [c_X x0 x1 x2 x3 x4 ku, c_A x1 c1 1024 m1, c_A x3 c3 9 m3]) hD hS hA [0, 1, 3] rfl
  refine va_calli (va_runV (As := [.int v5]) (rest := []) ⟨hx, hb, hml, hown, htB⟩ (c_X_address l dC dI z0 x0 x1 x2 x3 x4 c1 c3 H.size v5 ku m1 m3) (cwV 1 htB (gd_V mw_563 mw_565 sw_X_address mw_4 mw_566) rfl rfl rfl (by decide +kernel) ⟨Nat.le_of_ble_eq_true rfl, Nat.le_of_ble_eq_true rfl⟩) (pcx_V (va_recv hKc hPc (ci := 3) (q0 := 0) rfl rfl) hPc hKc hDc hA0 hE hS) rfl rfl hl.1 rfl (lv_room (Nat.le_of_ble_eq_true rfl)) d_X_tests_229 ⟨Nat.zero_le _, Nat.zero_le _⟩) hS (fun q _ h => hFc q h) hFc (fun r9 u t H1 locs ht hvm hw hB hz1 hk1 hS => ?_)
  subst hw
  obtain ⟨hP1, hK1, hD1⟩ := hB
  rw [ht] at hP1
  obtain ⟨hP, hD⟩ := va_join (wr := [c_A x2 c2 256 m2]) (w1 := [c_X x0 x1 x2 x3 x4 ((f_X_address v5 ku m1 m3).2.1), c_A x1 c1 1024 m1, c_A x3 c3 9 ((f_X_address v5 ku m1 m3).2.2)]) hP hD [0, 1, 3] [2] rfl rfl (by decide) (by decide) hk1 hFc hP1 hD1
  generalize H1 = H at hP hS ⊢
  have hP : va_P (dC, dI) classes [c_X x0 x1 x2 x3 x4 ((f_X_address v5 ku m1 m3).2.1), c_A x1 c1 1024 m1, c_A x2 c2 256 m2, c_A x3 c3 9 ((f_X_address v5 ku m1 m3).2.2)] H := hP.sub [1, 2, 0, 3] rfl
  have hD : va_D A [c_X x0 x1 x2 x3 x4 ((f_X_address v5 ku m1 m3).2.1), c_A x1 c1 1024 m1, c_A x2 c2 256 m2, c_A x3 c3 9 ((f_X_address v5 ku m1 m3).2.2)] := hD.sub [1, 2, 0, 3] (by decide) rfl
  obtain ⟨z3, ez3⟩ : ∃ z, z = (f_X_address v5 ku m1 m3) := ⟨_, rfl⟩
  rw [← ez3] at hP hD ⊢
  refine lv_istore (lv' := [(6, .int z3.1), (4, .int v4), (5, .int v5), (0, .ref x0), (1, .int p1), (2, .int p2), (3, .int p3)]) hx hb d_X_tests_232 hl (by decide) rfl (fun ls hl => ?_)
  refine lv_aload_n hx hb d_X_tests_234 rfl (lv_at hl 3 rfl) ?_
  refine lv_iload hx hb d_X_tests_235 (lv_at hl 0 rfl) ?_
  refine lv_aload_n hx hb d_X_tests_237 rfl (lv_at hl 3 rfl) ?_
  refine va_get (D := (dC, dI)) (ci := 3) (v := .ref x3) (C := R_X) (T := F_X) (N := 13) hx hb htB i_X hown hK hP 0 rfl rfl 2 (by decide) (htB _ mw_463) (fun _ h9 => h9) rfl d_X_tests_238 ?_
  refine lv_iconst (v := 2) hx hb d_X_tests_241 (by decide) ?_
  refine iald_at hx hb hK hP 3 2 rfl rfl (show ¬ ((2 : Int32) < 0 ∨ 9 ≤ (2 : Int32).toNatClampNeg) from by decide) (show (2 : Int32).toNatClampNeg = 2 from by decide) d_X_tests_242 ?_
  have hPc := hP.sub (ws' := [c_X x0 x1 x2 x3 x4 z3.2.1, c_A x1 c1 1024 m1, c_A x2 c2 256 m2]) [0, 1, 2] rfl
  have hDc := hD.sub (ws' := [c_X x0 x1 x2 x3 x4 z3.2.1, c_A x1 c1 1024 m1, c_A x2 c2 256 m2]) [0, 1, 2] (by decide) rfl
  have hKc := hK.sub (tys' := [(c1, .int), (c2, .int)]) [0, 1] rfl
  have hFc := va_free (wc := [c_X x0 x1 x2 x3 x4 z3.2.1, c_A x1 c1 1024 m1, c_A x2 c2 256 m2]) hD hS hA [0, 1, 2] rfl
  refine va_callv (va_runV (As := [.int z3.1, .int (z3.2.2 2)]) (rest := []) ⟨hx, hb, hml, hown, htB⟩ (c_X_write l dC dI z0 x0 x1 x2 x3 x4 c1 c2 H.size z3.1 (z3.2.2 2) z3.2.1 m1 m2 (by rw [ez3]; exact xs_address hxs)) (cwV 2 htB (gd_V mw_579 mw_581 sw_X_write mw_4 mw_582) rfl rfl rfl (by decide +kernel) ⟨Nat.le_of_ble_eq_true rfl, Nat.le_of_ble_eq_true rfl⟩) (pcx_V (va_recv hKc hPc (ci := 3) (q0 := 0) rfl rfl) hPc hKc hDc hA0 hE hS) rfl rfl hl.1 rfl (lv_room (Nat.le_of_ble_eq_true rfl)) d_X_tests_243 ⟨Nat.zero_le _, Nat.zero_le _⟩) hS (fun q _ h => hFc q h) hFc (fun u t H1 locs ht hvm hw hB hz1 hk1 hS => ?_)
  obtain ⟨hP1, hK1, hD1⟩ := hB
  rw [ht] at hP1
  obtain ⟨hP, hD⟩ := va_join (wr := [c_A x3 c3 9 z3.2.2]) (w1 := [c_X x0 x1 x2 x3 x4 ((f_X_write z3.1 (z3.2.2 2) z3.2.1 m1 m2).1), c_A x1 c1 1024 ((f_X_write z3.1 (z3.2.2 2) z3.2.1 m1 m2).2.1), c_A x2 c2 256 ((f_X_write z3.1 (z3.2.2 2) z3.2.1 m1 m2).2.2)]) hP hD [0, 1, 2] [3] rfl rfl (by decide) (by decide) hk1 hFc hP1 hD1
  generalize H1 = H at hP hS ⊢
  have hP : va_P (dC, dI) classes [c_X x0 x1 x2 x3 x4 ((f_X_write z3.1 (z3.2.2 2) z3.2.1 m1 m2).1), c_A x1 c1 1024 ((f_X_write z3.1 (z3.2.2 2) z3.2.1 m1 m2).2.1), c_A x2 c2 256 ((f_X_write z3.1 (z3.2.2 2) z3.2.1 m1 m2).2.2), c_A x3 c3 9 z3.2.2] H := hP.sub [1, 2, 3, 0] rfl
  have hD : va_D A [c_X x0 x1 x2 x3 x4 ((f_X_write z3.1 (z3.2.2 2) z3.2.1 m1 m2).1), c_A x1 c1 1024 ((f_X_write z3.1 (z3.2.2 2) z3.2.1 m1 m2).2.1), c_A x2 c2 256 ((f_X_write z3.1 (z3.2.2 2) z3.2.1 m1 m2).2.2), c_A x3 c3 9 z3.2.2] := hD.sub [1, 2, 3, 0] (by decide) rfl
  obtain ⟨z4, ez4⟩ : ∃ z, z = (f_X_write z3.1 (z3.2.2 2) z3.2.1 m1 m2) := ⟨_, rfl⟩
  rw [← ez4] at hP hD
  refine lv_goto (tgt := 362) hx hb d_X_tests_246 (by decide) ?_
  have hf : f_X_tests p1 p2 p3 ku m1 m2 m3 = (z4.1, z4.2.1, z4.2.2, z3.2.2) := by rw [hJ, f_X_tests_j226, ← ez3, f_X_tests_k10, ← ez4, f_X_tests_k11]
  exact W.vret hx hb hr (fun t ht hW => ⟨⟨(), rfl, trivial, by rw [hf]; exact ⟨by rw [ht]; exact hP, va_K.moved hW.alike hK, hD⟩⟩, hS.F ht⟩) hS.2.2 d_X_tests_362
set_option maxHeartbeats 4000000 in
set_option maxRecDepth 100000 in
theorem J_X_tests_211 {l : Launch} {dC : Nat → ClassId} {dI : Nat → Nat → Nat} {z0 : Nat} {x0 : Nat} {x1 : Nat} {x2 : Nat} {x3 : Nat} {x4 : Nat} {c1 : ClassId} {c2 : ClassId} {c3 : ClassId} {p : Program} {e : Env} {s : State} {m : MethodId} {below : List Frame} {meth : Method} {c : Code} {A : Nat → Prop} {p1 : Int32} {p2 : Int32} {p3 : Int32} {ku m1 m2 m3 : Nat → Int32} (hx : p.tables.exec = Jvm.exec) (hb : c.code = b_X_tests) (hr : meth.sig.returnType = none) (hlocks : meth.locks = false) (hml : c.maxLocals = 7) (hown : s.vm.findClass R_X = some m.cls) (htB : ∀ w ∈ BIG, w.before ([.ref x0, .int p1, .int p2, .int p3] : List Value).toArray s = true) (hK : va_K (dC, dI) classes [(c1, .int), (c2, .int), (c3, .int)] s) (hA : ∀ q : Nat, s.heap.size ≤ q → A q) (hA0 : ∀ q, A q → z0 ≤ q) (hE : EN z0 s) (hxs : xs_ok ku) {v4 v5 : Int32} (hJ : f_X_tests p1 p2 p3 ku m1 m2 m3 = f_X_tests_j211 p1 p2 p3 ku m1 m2 m3 v4 v5) (H : Heap) (locs : List Loc) (ls : Array Slot) (hP : va_P (dC, dI) classes [c_X x0 x1 x2 x3 x4 ku, c_A x1 c1 1024 m1, c_A x2 c2 256 m2, c_A x3 c3 9 m3] H) (hD : va_D A [c_X x0 x1 x2 x3 x4 ku, c_A x1 c1 1024 m1, c_A x2 c2 256 m2, c_A x3 c3 9 m3]) (hS : va_S A s.heap H locs) (hl : lv_has ls 7 [(4, .int v4), (5, .int v5), (0, .ref x0), (1, .int p1), (2, .int p2), (3, .int p3)]) : W p l e (headSpec w_X_tests ({ frames := 4, cells := 0, slots := 0, locals := 86 })).room s m ([.ref x0, .int p1, .int p2, .int p3] : List Value).toArray below meth c H locs 0 0 (MQ below (Q_X_tests dC dI x0 x1 x2 x3 x4 c1 c2 c3 p1 p2 p3 ku m1 m2 m3 A) ([.ref x0, .int p1, .int p2, .int p3] : List Value).toArray s 0 0 A) (F0 m 211 ls []) := by
  refine lv_iload_n hx hb d_X_tests_211 rfl (lv_at hl 3 rfl) ?_
  refine lv_iconst (v := 4) hx hb d_X_tests_212 (by decide) ?_
  refine lv_icmp_ne (tgt := 249) hx hb d_X_tests_213 (by decide) (fun c_1 => ?_) (fun c_1 => ?_)
  · exact J_X_tests_249 hx hb hr hlocks hml hown htB hK hA hA0 hE hxs (by rw [hJ, f_X_tests_j211, if_neg c_1]) H _ ls hP hD hS (lv_sub hl [0, 1, 2, 3, 4, 5] rfl)
  · refine lv_iload hx hb d_X_tests_216 (lv_at hl 0 rfl) ?_
    refine lv_if_ne (tgt := 226) hx hb d_X_tests_218 (by decide) (fun c_2 => ?_) (fun c_2 => ?_)
    · exact J_X_tests_226 hx hb hr hlocks hml hown htB hK hA hA0 hE hxs (by rw [hJ, f_X_tests_j211, if_pos c_1, if_neg c_2]) H _ ls hP hD hS (lv_sub hl [0, 1, 2, 3, 4, 5] rfl)
    · refine lv_iload_n hx hb d_X_tests_221 rfl (lv_at hl 4 rfl) ?_
      refine lv_iconst (v := 5) hx hb d_X_tests_222 (by decide) ?_
      refine lv_icmp_ne (tgt := 249) hx hb d_X_tests_223 (by decide) (fun c_3 => ?_) (fun c_3 => ?_)
      · exact J_X_tests_249 hx hb hr hlocks hml hown htB hK hA hA0 hE hxs (by rw [hJ, f_X_tests_j211, if_pos c_1, if_pos c_2, if_neg c_3]) H _ ls hP hD hS (lv_sub hl [0, 1, 2, 3, 4, 5] rfl)
      · exact J_X_tests_226 hx hb hr hlocks hml hown htB hK hA hA0 hE hxs (by rw [hJ, f_X_tests_j211, if_pos c_1, if_pos c_2, if_pos c_3]) H _ ls hP hD hS (lv_sub hl [0, 1, 2, 3, 4, 5] rfl)
set_option maxHeartbeats 4000000 in
set_option maxRecDepth 100000 in
theorem J_X_tests_140 {l : Launch} {dC : Nat → ClassId} {dI : Nat → Nat → Nat} {z0 : Nat} {x0 : Nat} {x1 : Nat} {x2 : Nat} {x3 : Nat} {x4 : Nat} {c1 : ClassId} {c2 : ClassId} {c3 : ClassId} {p : Program} {e : Env} {s : State} {m : MethodId} {below : List Frame} {meth : Method} {c : Code} {A : Nat → Prop} {p1 : Int32} {p2 : Int32} {p3 : Int32} {ku m1 m2 m3 : Nat → Int32} (hx : p.tables.exec = Jvm.exec) (hb : c.code = b_X_tests) (hr : meth.sig.returnType = none) (hlocks : meth.locks = false) (hml : c.maxLocals = 7) (hown : s.vm.findClass R_X = some m.cls) (htB : ∀ w ∈ BIG, w.before ([.ref x0, .int p1, .int p2, .int p3] : List Value).toArray s = true) (hK : va_K (dC, dI) classes [(c1, .int), (c2, .int), (c3, .int)] s) (hA : ∀ q : Nat, s.heap.size ≤ q → A q) (hA0 : ∀ q, A q → z0 ≤ q) (hE : EN z0 s) (hxs : xs_ok ku) {v4 v5 : Int32} (hJ : f_X_tests p1 p2 p3 ku m1 m2 m3 = f_X_tests_j140 p1 p2 p3 ku m1 m2 m3 v4 v5) (H : Heap) (locs : List Loc) (ls : Array Slot) (hP : va_P (dC, dI) classes [c_X x0 x1 x2 x3 x4 ku, c_A x1 c1 1024 m1, c_A x2 c2 256 m2, c_A x3 c3 9 m3] H) (hD : va_D A [c_X x0 x1 x2 x3 x4 ku, c_A x1 c1 1024 m1, c_A x2 c2 256 m2, c_A x3 c3 9 m3]) (hS : va_S A s.heap H locs) (hl : lv_has ls 7 [(4, .int v4), (5, .int v5), (0, .ref x0), (1, .int p1), (2, .int p2), (3, .int p3)]) : W p l e (headSpec w_X_tests ({ frames := 4, cells := 0, slots := 0, locals := 86 })).room s m ([.ref x0, .int p1, .int p2, .int p3] : List Value).toArray below meth c H locs 0 0 (MQ below (Q_X_tests dC dI x0 x1 x2 x3 x4 c1 c2 c3 p1 p2 p3 ku m1 m2 m3 A) ([.ref x0, .int p1, .int p2, .int p3] : List Value).toArray s 0 0 A) (F0 m 140 ls []) := by
  refine lv_iload_n hx hb d_X_tests_140 rfl (lv_at hl 3 rfl) ?_
  refine lv_iconst (v := 2) hx hb d_X_tests_141 (by decide) ?_
  refine lv_icmp_eq (tgt := 150) hx hb d_X_tests_142 (by decide) (fun c_1 => ?_) (fun c_1 => ?_)
  · refine lv_iload_n hx hb d_X_tests_150 rfl (lv_at hl 4 rfl) ?_
    refine lv_iconst (v := 3) hx hb d_X_tests_151 (by decide) ?_
    refine lv_icmp_ne (tgt := 211) hx hb d_X_tests_152 (by decide) (fun c_2 => ?_) (fun c_2 => ?_)
    · exact J_X_tests_211 hx hb hr hlocks hml hown htB hK hA hA0 hE hxs (by rw [hJ, f_X_tests_j140, if_pos c_1, if_neg c_2]) H _ ls hP hD hS (lv_sub hl [0, 1, 2, 3, 4, 5] rfl)
    · refine lv_aload_n hx hb d_X_tests_155 rfl (lv_at hl 2 rfl) ?_
      have hPc := hP.sub (ws' := [c_X x0 x1 x2 x3 x4 ku, c_A x1 c1 1024 m1, c_A x3 c3 9 m3]) [0, 1, 3] rfl
      have hDc := hD.sub (ws' := [c_X x0 x1 x2 x3 x4 ku, c_A x1 c1 1024 m1, c_A x3 c3 9 m3]) [0, 1, 3] (by decide) rfl
      have hKc := hK.sub (tys' := [(c1, .int), (c3, .int)]) [0, 2] rfl
      have hFc := va_free (wc := [c_X x0 x1 x2 x3 x4 ku, c_A x1 c1 1024 m1, c_A x3 c3 9 m3]) hD hS hA [0, 1, 3] rfl
      refine va_callv (va_runV (As := []) (rest := []) ⟨hx, hb, hml, hown, htB⟩ (c_X_two l dC dI z0 x0 x1 x2 x3 x4 c1 c3 H.size ku m1 m3) (cwV 0 htB (gd_V mw_567 mw_569 sw_X_two mw_4 mw_570) rfl rfl rfl (by decide +kernel) ⟨Nat.le_of_ble_eq_true rfl, Nat.le_of_ble_eq_true rfl⟩) (pcx_V (va_recv hKc hPc (ci := 3) (q0 := 0) rfl rfl) hPc hKc hDc hA0 hE hS) rfl rfl hl.1 rfl (lv_room (Nat.le_of_ble_eq_true rfl)) d_X_tests_156 ⟨Nat.zero_le _, Nat.zero_le _⟩) hS (fun q _ h => hFc q h) hFc (fun u t H1 locs ht hvm hw hB hz1 hk1 hS => ?_)
      obtain ⟨hP1, hK1, hD1⟩ := hB
      rw [ht] at hP1
      obtain ⟨hP, hD⟩ := va_join (wr := [c_A x2 c2 256 m2]) (w1 := [c_X x0 x1 x2 x3 x4 ((f_X_two ku m1 m3).1), c_A x1 c1 1024 m1, c_A x3 c3 9 ((f_X_two ku m1 m3).2)]) hP hD [0, 1, 3] [2] rfl rfl (by decide) (by decide) hk1 hFc hP1 hD1
      generalize H1 = H at hP hS ⊢
      have hP : va_P (dC, dI) classes [c_X x0 x1 x2 x3 x4 ((f_X_two ku m1 m3).1), c_A x1 c1 1024 m1, c_A x2 c2 256 m2, c_A x3 c3 9 ((f_X_two ku m1 m3).2)] H := hP.sub [1, 2, 0, 3] rfl
      have hD : va_D A [c_X x0 x1 x2 x3 x4 ((f_X_two ku m1 m3).1), c_A x1 c1 1024 m1, c_A x2 c2 256 m2, c_A x3 c3 9 ((f_X_two ku m1 m3).2)] := hD.sub [1, 2, 0, 3] (by decide) rfl
      obtain ⟨z3, ez3⟩ : ∃ z, z = (f_X_two ku m1 m3) := ⟨_, rfl⟩
      rw [← ez3] at hP hD
      refine lv_aload_n hx hb d_X_tests_159 rfl (lv_at hl 2 rfl) ?_
      refine va_get (D := (dC, dI)) (ci := 3) (v := .ref x3) (C := R_X) (T := F_X) (N := 13) hx hb htB i_X hown hK hP 0 rfl rfl 2 (by decide) (htB _ mw_463) (fun _ h9 => h9) rfl d_X_tests_160 ?_
      refine lv_iconst (v := 4) hx hb d_X_tests_163 (by decide) ?_
      refine lv_iload_n hx hb d_X_tests_164 rfl (lv_at hl 3 rfl) ?_
      refine lv_iconst (v := 2) hx hb d_X_tests_165 (by decide) ?_
      refine lv_icmp_ne (tgt := 180) hx hb d_X_tests_166 (by decide) (fun c9 => absurd c_1 c9) (fun _ => ?_)
      refine lv_aload_n hx hb d_X_tests_169 rfl (lv_at hl 2 rfl) ?_
      refine va_get (D := (dC, dI)) (ci := 3) (v := .int (z3.1 7)) (C := R_X) (T := F_X) (N := 13) hx hb htB i_X hown hK hP 0 rfl rfl 11 (by decide) (htB _ mw_472) (fun _ h9 => h9) rfl d_X_tests_170 ?_
      refine lv_sipush (v := 1023) hx hb d_X_tests_173 (by decide) ?_
      refine lv_iand hx hb d_X_tests_176 ?_
      refine lv_goto (tgt := 207) hx hb d_X_tests_177 (by decide) ?_
      refine iast_at hx hb hK hP hD hS 3 2 rfl rfl (show ¬ ((4 : Int32) < 0 ∨ 9 ≤ (4 : Int32).toNatClampNeg) from by decide) (show (4 : Int32).toNatClampNeg = 4 from by decide) d_X_tests_207 (fun H locs hP hD hS => ?_)
      have hP : va_P (dC, dI) classes [c_X x0 x1 x2 x3 x4 z3.1, c_A x1 c1 1024 m1, c_A x2 c2 256 m2, c_A x3 c3 9 (upd z3.2 4 ((z3.1 7) &&& (1023 : Int32)))] H := hP
      have hD : va_D A [c_X x0 x1 x2 x3 x4 z3.1, c_A x1 c1 1024 m1, c_A x2 c2 256 m2, c_A x3 c3 9 (upd z3.2 4 ((z3.1 7) &&& (1023 : Int32)))] := hD
      refine lv_goto (tgt := 362) hx hb d_X_tests_208 (by decide) ?_
      have hf : f_X_tests p1 p2 p3 ku m1 m2 m3 = (z3.1, m1, m2, (upd z3.2 4 ((z3.1 7) &&& (1023 : Int32)))) := by rw [hJ, f_X_tests_j140, if_pos c_1, if_pos c_2, ← ez3, f_X_tests_k12]
      exact W.vret hx hb hr (fun t ht hW => ⟨⟨(), rfl, trivial, by rw [hf]; exact ⟨by rw [ht]; exact hP, va_K.moved hW.alike hK, hD⟩⟩, hS.F ht⟩) hS.2.2 d_X_tests_362
  · refine lv_iload_n hx hb d_X_tests_145 rfl (lv_at hl 3 rfl) ?_
    refine lv_iconst (v := 3) hx hb d_X_tests_146 (by decide) ?_
    refine lv_icmp_ne (tgt := 211) hx hb d_X_tests_147 (by decide) (fun c_2 => ?_) (fun c_2 => ?_)
    · exact J_X_tests_211 hx hb hr hlocks hml hown htB hK hA hA0 hE hxs (by rw [hJ, f_X_tests_j140, if_neg c_1, if_neg c_2]) H _ ls hP hD hS (lv_sub hl [0, 1, 2, 3, 4, 5] rfl)
    · refine lv_iload_n hx hb d_X_tests_150 rfl (lv_at hl 4 rfl) ?_
      refine lv_iconst (v := 3) hx hb d_X_tests_151 (by decide) ?_
      refine lv_icmp_ne (tgt := 211) hx hb d_X_tests_152 (by decide) (fun c_3 => ?_) (fun c_3 => ?_)
      · exact J_X_tests_211 hx hb hr hlocks hml hown htB hK hA hA0 hE hxs (by rw [hJ, f_X_tests_j140, if_neg c_1, if_pos c_2, if_neg c_3]) H _ ls hP hD hS (lv_sub hl [0, 1, 2, 3, 4, 5] rfl)
      · refine lv_aload_n hx hb d_X_tests_155 rfl (lv_at hl 2 rfl) ?_
        have hPc := hP.sub (ws' := [c_X x0 x1 x2 x3 x4 ku, c_A x1 c1 1024 m1, c_A x3 c3 9 m3]) [0, 1, 3] rfl
        have hDc := hD.sub (ws' := [c_X x0 x1 x2 x3 x4 ku, c_A x1 c1 1024 m1, c_A x3 c3 9 m3]) [0, 1, 3] (by decide) rfl
        have hKc := hK.sub (tys' := [(c1, .int), (c3, .int)]) [0, 2] rfl
        have hFc := va_free (wc := [c_X x0 x1 x2 x3 x4 ku, c_A x1 c1 1024 m1, c_A x3 c3 9 m3]) hD hS hA [0, 1, 3] rfl
        refine va_callv (va_runV (As := []) (rest := []) ⟨hx, hb, hml, hown, htB⟩ (c_X_two l dC dI z0 x0 x1 x2 x3 x4 c1 c3 H.size ku m1 m3) (cwV 0 htB (gd_V mw_567 mw_569 sw_X_two mw_4 mw_570) rfl rfl rfl (by decide +kernel) ⟨Nat.le_of_ble_eq_true rfl, Nat.le_of_ble_eq_true rfl⟩) (pcx_V (va_recv hKc hPc (ci := 3) (q0 := 0) rfl rfl) hPc hKc hDc hA0 hE hS) rfl rfl hl.1 rfl (lv_room (Nat.le_of_ble_eq_true rfl)) d_X_tests_156 ⟨Nat.zero_le _, Nat.zero_le _⟩) hS (fun q _ h => hFc q h) hFc (fun u t H1 locs ht hvm hw hB hz1 hk1 hS => ?_)
        obtain ⟨hP1, hK1, hD1⟩ := hB
        rw [ht] at hP1
        obtain ⟨hP, hD⟩ := va_join (wr := [c_A x2 c2 256 m2]) (w1 := [c_X x0 x1 x2 x3 x4 ((f_X_two ku m1 m3).1), c_A x1 c1 1024 m1, c_A x3 c3 9 ((f_X_two ku m1 m3).2)]) hP hD [0, 1, 3] [2] rfl rfl (by decide) (by decide) hk1 hFc hP1 hD1
        generalize H1 = H at hP hS ⊢
        have hP : va_P (dC, dI) classes [c_X x0 x1 x2 x3 x4 ((f_X_two ku m1 m3).1), c_A x1 c1 1024 m1, c_A x2 c2 256 m2, c_A x3 c3 9 ((f_X_two ku m1 m3).2)] H := hP.sub [1, 2, 0, 3] rfl
        have hD : va_D A [c_X x0 x1 x2 x3 x4 ((f_X_two ku m1 m3).1), c_A x1 c1 1024 m1, c_A x2 c2 256 m2, c_A x3 c3 9 ((f_X_two ku m1 m3).2)] := hD.sub [1, 2, 0, 3] (by decide) rfl
        obtain ⟨z3, ez3⟩ : ∃ z, z = (f_X_two ku m1 m3) := ⟨_, rfl⟩
        rw [← ez3] at hP hD
        refine lv_aload_n hx hb d_X_tests_159 rfl (lv_at hl 2 rfl) ?_
        refine va_get (D := (dC, dI)) (ci := 3) (v := .ref x3) (C := R_X) (T := F_X) (N := 13) hx hb htB i_X hown hK hP 0 rfl rfl 2 (by decide) (htB _ mw_463) (fun _ h9 => h9) rfl d_X_tests_160 ?_
        refine lv_iconst (v := 4) hx hb d_X_tests_163 (by decide) ?_
        refine lv_iload_n hx hb d_X_tests_164 rfl (lv_at hl 3 rfl) ?_
        refine lv_iconst (v := 2) hx hb d_X_tests_165 (by decide) ?_
        refine lv_icmp_ne (tgt := 180) hx hb d_X_tests_166 (by decide) (fun _ => ?_) (fun c9 => absurd c9 c_1)
        refine lv_aload_n hx hb d_X_tests_180 rfl (lv_at hl 2 rfl) ?_
        refine lv_aload_n hx hb d_X_tests_181 rfl (lv_at hl 2 rfl) ?_
        refine va_get (D := (dC, dI)) (ci := 3) (v := .int (z3.1 7)) (C := R_X) (T := F_X) (N := 13) hx hb htB i_X hown hK hP 0 rfl rfl 11 (by decide) (htB _ mw_472) (fun _ h9 => h9) rfl d_X_tests_182 ?_
        have hPc := hP.sub (ws' := [c_X x0 x1 x2 x3 x4 z3.1, c_A x1 c1 1024 m1]) [0, 1] rfl
        have hDc := hD.sub (ws' := [c_X x0 x1 x2 x3 x4 z3.1, c_A x1 c1 1024 m1]) [0, 1] (by decide) rfl
        have hKc := hK.sub (tys' := [(c1, .int)]) [0] rfl
        have hFc := va_free (wc := [c_X x0 x1 x2 x3 x4 z3.1, c_A x1 c1 1024 m1]) hD hS hA [0, 1] rfl
        refine va_calli (va_runV (As := [.int (z3.1 7)]) (rest := [.int (4 : Int32), .ref x3]) ⟨hx, hb, hml, hown, htB⟩ (c_X_read l dC dI z0 x0 x1 x2 x3 x4 c1 H.size (z3.1 7) z3.1 m1) (cwV 1 htB (gd_V mw_552 mw_554 sw_X_read mw_4 mw_555) rfl rfl rfl (by decide +kernel) ⟨Nat.le_of_ble_eq_true rfl, Nat.le_of_ble_eq_true rfl⟩) (pcx_V (va_recv hKc hPc (ci := 3) (q0 := 0) rfl rfl) hPc hKc hDc hA0 hE hS) rfl rfl hl.1 rfl (lv_room (Nat.le_of_ble_eq_true rfl)) d_X_tests_185 ⟨Nat.zero_le _, Nat.zero_le _⟩) hS (fun q _ h => hFc q h) hFc (fun r9 u t H1 locs ht hvm hw hB hz1 hk1 hS => ?_)
        subst hw
        obtain ⟨hP1, hK1, hD1⟩ := hB
        rw [ht] at hP1
        obtain ⟨hP, hD⟩ := va_join (wr := [c_A x2 c2 256 m2, c_A x3 c3 9 z3.2]) (w1 := [c_X x0 x1 x2 x3 x4 ((f_X_read (z3.1 7) z3.1 m1).2), c_A x1 c1 1024 m1]) hP hD [0, 1] [2, 3] rfl rfl (by decide) (by decide) hk1 hFc hP1 hD1
        generalize H1 = H at hP hS ⊢
        have hP : va_P (dC, dI) classes [c_X x0 x1 x2 x3 x4 ((f_X_read (z3.1 7) z3.1 m1).2), c_A x1 c1 1024 m1, c_A x2 c2 256 m2, c_A x3 c3 9 z3.2] H := hP.sub [2, 3, 0, 1] rfl
        have hD : va_D A [c_X x0 x1 x2 x3 x4 ((f_X_read (z3.1 7) z3.1 m1).2), c_A x1 c1 1024 m1, c_A x2 c2 256 m2, c_A x3 c3 9 z3.2] := hD.sub [2, 3, 0, 1] (by decide) rfl
        obtain ⟨z4, ez4⟩ : ∃ z, z = (f_X_read (z3.1 7) z3.1 m1) := ⟨_, rfl⟩
        rw [← ez4] at hP hD ⊢
        refine lv_sipush (v := 256) hx hb d_X_tests_188 (by decide) ?_
        refine lv_aload_n hx hb d_X_tests_191 rfl (lv_at hl 2 rfl) ?_
        refine lv_aload_n hx hb d_X_tests_192 rfl (lv_at hl 2 rfl) ?_
        refine va_get (D := (dC, dI)) (ci := 3) (v := .int (z4.2 7)) (C := R_X) (T := F_X) (N := 13) hx hb htB i_X hown hK hP 0 rfl rfl 11 (by decide) (htB _ mw_472) (fun _ h9 => h9) rfl d_X_tests_193 ?_
        refine lv_iconst (v := 1) hx hb d_X_tests_196 (by decide) ?_
        refine lv_iadd hx hb d_X_tests_197 ?_
        have hPc := hP.sub (ws' := [c_X x0 x1 x2 x3 x4 z4.2, c_A x1 c1 1024 m1]) [0, 1] rfl
        have hDc := hD.sub (ws' := [c_X x0 x1 x2 x3 x4 z4.2, c_A x1 c1 1024 m1]) [0, 1] (by decide) rfl
        have hKc := hK.sub (tys' := [(c1, .int)]) [0] rfl
        have hFc := va_free (wc := [c_X x0 x1 x2 x3 x4 z4.2, c_A x1 c1 1024 m1]) hD hS hA [0, 1] rfl
        refine va_calli (va_runV (As := [.int ((z4.2 7) + (1 : Int32))]) (rest := [.int (256 : Int32), .int z4.1, .int (4 : Int32), .ref x3]) ⟨hx, hb, hml, hown, htB⟩ (c_X_read l dC dI z0 x0 x1 x2 x3 x4 c1 H.size ((z4.2 7) + (1 : Int32)) z4.2 m1) (cwV 1 htB (gd_V mw_552 mw_554 sw_X_read mw_4 mw_555) rfl rfl rfl (by decide +kernel) ⟨Nat.le_of_ble_eq_true rfl, Nat.le_of_ble_eq_true rfl⟩) (pcx_V (va_recv hKc hPc (ci := 3) (q0 := 0) rfl rfl) hPc hKc hDc hA0 hE hS) rfl rfl hl.1 rfl (lv_room (Nat.le_of_ble_eq_true rfl)) d_X_tests_198 ⟨Nat.zero_le _, Nat.zero_le _⟩) hS (fun q _ h => hFc q h) hFc (fun r9 u t H1 locs ht hvm hw hB hz1 hk1 hS => ?_)
        subst hw
        obtain ⟨hP1, hK1, hD1⟩ := hB
        rw [ht] at hP1
        obtain ⟨hP, hD⟩ := va_join (wr := [c_A x2 c2 256 m2, c_A x3 c3 9 z3.2]) (w1 := [c_X x0 x1 x2 x3 x4 ((f_X_read ((z4.2 7) + (1 : Int32)) z4.2 m1).2), c_A x1 c1 1024 m1]) hP hD [0, 1] [2, 3] rfl rfl (by decide) (by decide) hk1 hFc hP1 hD1
        generalize H1 = H at hP hS ⊢
        have hP : va_P (dC, dI) classes [c_X x0 x1 x2 x3 x4 ((f_X_read ((z4.2 7) + (1 : Int32)) z4.2 m1).2), c_A x1 c1 1024 m1, c_A x2 c2 256 m2, c_A x3 c3 9 z3.2] H := hP.sub [2, 3, 0, 1] rfl
        have hD : va_D A [c_X x0 x1 x2 x3 x4 ((f_X_read ((z4.2 7) + (1 : Int32)) z4.2 m1).2), c_A x1 c1 1024 m1, c_A x2 c2 256 m2, c_A x3 c3 9 z3.2] := hD.sub [2, 3, 0, 1] (by decide) rfl
        obtain ⟨z5, ez5⟩ : ∃ z, z = (f_X_read ((z4.2 7) + (1 : Int32)) z4.2 m1) := ⟨_, rfl⟩
        rw [← ez5] at hP hD ⊢
        refine lv_imul hx hb d_X_tests_201 ?_
        refine lv_iadd hx hb d_X_tests_202 ?_
        refine lv_sipush (v := 1023) hx hb d_X_tests_203 (by decide) ?_
        refine lv_iand hx hb d_X_tests_206 ?_
        refine iast_at hx hb hK hP hD hS 3 2 rfl rfl (show ¬ ((4 : Int32) < 0 ∨ 9 ≤ (4 : Int32).toNatClampNeg) from by decide) (show (4 : Int32).toNatClampNeg = 4 from by decide) d_X_tests_207 (fun H locs hP hD hS => ?_)
        have hP : va_P (dC, dI) classes [c_X x0 x1 x2 x3 x4 z5.2, c_A x1 c1 1024 m1, c_A x2 c2 256 m2, c_A x3 c3 9 (upd z3.2 4 ((z4.1 + ((256 : Int32) * z5.1)) &&& (1023 : Int32)))] H := hP
        have hD : va_D A [c_X x0 x1 x2 x3 x4 z5.2, c_A x1 c1 1024 m1, c_A x2 c2 256 m2, c_A x3 c3 9 (upd z3.2 4 ((z4.1 + ((256 : Int32) * z5.1)) &&& (1023 : Int32)))] := hD
        refine lv_goto (tgt := 362) hx hb d_X_tests_208 (by decide) ?_
        have hf : f_X_tests p1 p2 p3 ku m1 m2 m3 = (z5.2, m1, m2, (upd z3.2 4 ((z4.1 + ((256 : Int32) * z5.1)) &&& (1023 : Int32)))) := by rw [hJ, f_X_tests_j140, if_neg c_1, if_pos c_2, if_pos c_3, ← ez3, f_X_tests_k13, ← ez4, f_X_tests_k14, ← ez5, f_X_tests_k15]
        exact W.vret hx hb hr (fun t ht hW => ⟨⟨(), rfl, trivial, by rw [hf]; exact ⟨by rw [ht]; exact hP, va_K.moved hW.alike hK, hD⟩⟩, hS.F ht⟩) hS.2.2 d_X_tests_362
set_option maxHeartbeats 4000000 in
set_option maxRecDepth 100000 in
theorem J_X_tests_66 {l : Launch} {dC : Nat → ClassId} {dI : Nat → Nat → Nat} {z0 : Nat} {x0 : Nat} {x1 : Nat} {x2 : Nat} {x3 : Nat} {x4 : Nat} {c1 : ClassId} {c2 : ClassId} {c3 : ClassId} {p : Program} {e : Env} {s : State} {m : MethodId} {below : List Frame} {meth : Method} {c : Code} {A : Nat → Prop} {p1 : Int32} {p2 : Int32} {p3 : Int32} {ku m1 m2 m3 : Nat → Int32} (hx : p.tables.exec = Jvm.exec) (hb : c.code = b_X_tests) (hr : meth.sig.returnType = none) (hlocks : meth.locks = false) (hml : c.maxLocals = 7) (hown : s.vm.findClass R_X = some m.cls) (htB : ∀ w ∈ BIG, w.before ([.ref x0, .int p1, .int p2, .int p3] : List Value).toArray s = true) (hK : va_K (dC, dI) classes [(c1, .int), (c2, .int), (c3, .int)] s) (hA : ∀ q : Nat, s.heap.size ≤ q → A q) (hA0 : ∀ q, A q → z0 ≤ q) (hE : EN z0 s) (hxs : xs_ok ku) {v4 v5 : Int32} (hJ : f_X_tests p1 p2 p3 ku m1 m2 m3 = f_X_tests_j66 p1 p2 p3 ku m1 m2 m3 v4 v5) (H : Heap) (locs : List Loc) (ls : Array Slot) (hP : va_P (dC, dI) classes [c_X x0 x1 x2 x3 x4 ku, c_A x1 c1 1024 m1, c_A x2 c2 256 m2, c_A x3 c3 9 m3] H) (hD : va_D A [c_X x0 x1 x2 x3 x4 ku, c_A x1 c1 1024 m1, c_A x2 c2 256 m2, c_A x3 c3 9 m3]) (hS : va_S A s.heap H locs) (hl : lv_has ls 7 [(4, .int v4), (5, .int v5), (0, .ref x0), (1, .int p1), (2, .int p2), (3, .int p3)]) : W p l e (headSpec w_X_tests ({ frames := 4, cells := 0, slots := 0, locals := 86 })).room s m ([.ref x0, .int p1, .int p2, .int p3] : List Value).toArray below meth c H locs 0 0 (MQ below (Q_X_tests dC dI x0 x1 x2 x3 x4 c1 c2 c3 p1 p2 p3 ku m1 m2 m3 A) ([.ref x0, .int p1, .int p2, .int p3] : List Value).toArray s 0 0 A) (F0 m 66 ls []) := by
  refine lv_iload_n hx hb d_X_tests_66 rfl (lv_at hl 3 rfl) ?_
  refine lv_iconst (v := 1) hx hb d_X_tests_67 (by decide) ?_
  refine lv_icmp_ne (tgt := 140) hx hb d_X_tests_68 (by decide) (fun c_1 => ?_) (fun c_1 => ?_)
  · exact J_X_tests_140 hx hb hr hlocks hml hown htB hK hA hA0 hE hxs (by rw [hJ, f_X_tests_j66, if_neg c_1]) H _ ls hP hD hS (lv_sub hl [0, 1, 2, 3, 4, 5] rfl)
  · refine lv_iload hx hb d_X_tests_71 (lv_at hl 0 rfl) ?_
    refine lv_if_eq (tgt := 140) hx hb d_X_tests_73 (by decide) (fun c_2 => ?_) (fun c_2 => ?_)
    · exact J_X_tests_140 hx hb hr hlocks hml hown htB hK hA hA0 hE hxs (by rw [hJ, f_X_tests_j66, if_pos c_1, if_pos c_2]) H _ ls hP hD hS (lv_sub hl [0, 1, 2, 3, 4, 5] rfl)
    · refine lv_aload_n hx hb d_X_tests_76 rfl (lv_at hl 2 rfl) ?_
      refine lv_aload_n hx hb d_X_tests_77 rfl (lv_at hl 2 rfl) ?_
      refine lv_iload hx hb d_X_tests_78 (lv_at hl 1 rfl) ?_
      have hPc := hP.sub (ws' := [c_X x0 x1 x2 x3 x4 ku, c_A x1 c1 1024 m1, c_A x3 c3 9 m3]) [0, 1, 3] rfl
      have hDc := hD.sub (ws' := [c_X x0 x1 x2 x3 x4 ku, c_A x1 c1 1024 m1, c_A x3 c3 9 m3]) [0, 1, 3] (by decide) rfl
      have hKc := hK.sub (tys' := [(c1, .int), (c3, .int)]) [0, 2] rfl
      have hFc := va_free (wc := [c_X x0 x1 x2 x3 x4 ku, c_A x1 c1 1024 m1, c_A x3 c3 9 m3]) hD hS hA [0, 1, 3] rfl
      refine va_calli (va_runV (As := [.int v5]) (rest := [.ref x0]) ⟨hx, hb, hml, hown, htB⟩ (c_X_address l dC dI z0 x0 x1 x2 x3 x4 c1 c3 H.size v5 ku m1 m3) (cwV 1 htB (gd_V mw_563 mw_565 sw_X_address mw_4 mw_566) rfl rfl rfl (by decide +kernel) ⟨Nat.le_of_ble_eq_true rfl, Nat.le_of_ble_eq_true rfl⟩) (pcx_V (va_recv hKc hPc (ci := 3) (q0 := 0) rfl rfl) hPc hKc hDc hA0 hE hS) rfl rfl hl.1 rfl (lv_room (Nat.le_of_ble_eq_true rfl)) d_X_tests_80 ⟨Nat.zero_le _, Nat.zero_le _⟩) hS (fun q _ h => hFc q h) hFc (fun r9 u t H1 locs ht hvm hw hB hz1 hk1 hS => ?_)
      subst hw
      obtain ⟨hP1, hK1, hD1⟩ := hB
      rw [ht] at hP1
      obtain ⟨hP, hD⟩ := va_join (wr := [c_A x2 c2 256 m2]) (w1 := [c_X x0 x1 x2 x3 x4 ((f_X_address v5 ku m1 m3).2.1), c_A x1 c1 1024 m1, c_A x3 c3 9 ((f_X_address v5 ku m1 m3).2.2)]) hP hD [0, 1, 3] [2] rfl rfl (by decide) (by decide) hk1 hFc hP1 hD1
      generalize H1 = H at hP hS ⊢
      have hP : va_P (dC, dI) classes [c_X x0 x1 x2 x3 x4 ((f_X_address v5 ku m1 m3).2.1), c_A x1 c1 1024 m1, c_A x2 c2 256 m2, c_A x3 c3 9 ((f_X_address v5 ku m1 m3).2.2)] H := hP.sub [1, 2, 0, 3] rfl
      have hD : va_D A [c_X x0 x1 x2 x3 x4 ((f_X_address v5 ku m1 m3).2.1), c_A x1 c1 1024 m1, c_A x2 c2 256 m2, c_A x3 c3 9 ((f_X_address v5 ku m1 m3).2.2)] := hD.sub [1, 2, 0, 3] (by decide) rfl
      obtain ⟨z3, ez3⟩ : ∃ z, z = (f_X_address v5 ku m1 m3) := ⟨_, rfl⟩
      rw [← ez3] at hP hD ⊢
      have hPc := hP.sub (ws' := [c_X x0 x1 x2 x3 x4 z3.2.1, c_A x1 c1 1024 m1]) [0, 1] rfl
      have hDc := hD.sub (ws' := [c_X x0 x1 x2 x3 x4 z3.2.1, c_A x1 c1 1024 m1]) [0, 1] (by decide) rfl
      have hKc := hK.sub (tys' := [(c1, .int)]) [0] rfl
      have hFc := va_free (wc := [c_X x0 x1 x2 x3 x4 z3.2.1, c_A x1 c1 1024 m1]) hD hS hA [0, 1] rfl
      refine va_calli (va_runV (As := [.int z3.1]) (rest := []) ⟨hx, hb, hml, hown, htB⟩ (c_X_read l dC dI z0 x0 x1 x2 x3 x4 c1 H.size z3.1 z3.2.1 m1) (cwV 1 htB (gd_V mw_552 mw_554 sw_X_read mw_4 mw_555) rfl rfl rfl (by decide +kernel) ⟨Nat.le_of_ble_eq_true rfl, Nat.le_of_ble_eq_true rfl⟩) (pcx_V (va_recv hKc hPc (ci := 3) (q0 := 0) rfl rfl) hPc hKc hDc hA0 hE hS) rfl rfl hl.1 rfl (lv_room (Nat.le_of_ble_eq_true rfl)) d_X_tests_83 ⟨Nat.zero_le _, Nat.zero_le _⟩) hS (fun q _ h => hFc q h) hFc (fun r9 u t H1 locs ht hvm hw hB hz1 hk1 hS => ?_)
      subst hw
      obtain ⟨hP1, hK1, hD1⟩ := hB
      rw [ht] at hP1
      obtain ⟨hP, hD⟩ := va_join (wr := [c_A x2 c2 256 m2, c_A x3 c3 9 z3.2.2]) (w1 := [c_X x0 x1 x2 x3 x4 ((f_X_read z3.1 z3.2.1 m1).2), c_A x1 c1 1024 m1]) hP hD [0, 1] [2, 3] rfl rfl (by decide) (by decide) hk1 hFc hP1 hD1
      generalize H1 = H at hP hS ⊢
      have hP : va_P (dC, dI) classes [c_X x0 x1 x2 x3 x4 ((f_X_read z3.1 z3.2.1 m1).2), c_A x1 c1 1024 m1, c_A x2 c2 256 m2, c_A x3 c3 9 z3.2.2] H := hP.sub [2, 3, 0, 1] rfl
      have hD : va_D A [c_X x0 x1 x2 x3 x4 ((f_X_read z3.1 z3.2.1 m1).2), c_A x1 c1 1024 m1, c_A x2 c2 256 m2, c_A x3 c3 9 z3.2.2] := hD.sub [2, 3, 0, 1] (by decide) rfl
      obtain ⟨z4, ez4⟩ : ∃ z, z = (f_X_read z3.1 z3.2.1 m1) := ⟨_, rfl⟩
      rw [← ez4] at hP hD ⊢
      refine lv_istore (lv' := [(6, .int z4.1), (4, .int v4), (5, .int v5), (0, .ref x0), (1, .int p1), (2, .int p2), (3, .int p3)]) hx hb d_X_tests_86 hl (by decide) rfl (fun ls hl => ?_)
      refine lv_aload_n hx hb d_X_tests_88 rfl (lv_at hl 3 rfl) ?_
      refine va_get (D := (dC, dI)) (ci := 3) (v := .ref x3) (C := R_X) (T := F_X) (N := 13) hx hb htB i_X hown hK hP 0 rfl rfl 2 (by decide) (htB _ mw_463) (fun _ h9 => h9) rfl d_X_tests_89 ?_
      refine lv_bipush (v := 7) hx hb d_X_tests_92 (by decide) ?_
      refine lv_aload_n hx hb d_X_tests_94 rfl (lv_at hl 3 rfl) ?_
      refine va_get (D := (dC, dI)) (ci := 3) (v := .ref x3) (C := R_X) (T := F_X) (N := 13) hx hb htB i_X hown hK hP 0 rfl rfl 2 (by decide) (htB _ mw_463) (fun _ h9 => h9) rfl d_X_tests_95 ?_
      refine lv_iconst (v := 0) hx hb d_X_tests_98 (by decide) ?_
      refine iald_at hx hb hK hP 3 2 rfl rfl (show ¬ ((0 : Int32) < 0 ∨ 9 ≤ (0 : Int32).toNatClampNeg) from by decide) (show (0 : Int32).toNatClampNeg = 0 from by decide) d_X_tests_99 ?_
      refine lv_iload hx hb d_X_tests_100 (lv_at hl 0 rfl) ?_
      refine lv_iand hx hb d_X_tests_102 ?_
      refine lv_if_ne (tgt := 110) hx hb d_X_tests_103 (by decide) (fun c_5 => ?_) (fun c_5 => ?_)
      · refine lv_iconst (v := 0) hx hb d_X_tests_110 (by decide) ?_
        refine iast_at hx hb hK hP hD hS 3 2 rfl rfl (show ¬ ((7 : Int32) < 0 ∨ 9 ≤ (7 : Int32).toNatClampNeg) from by decide) (show (7 : Int32).toNatClampNeg = 7 from by decide) d_X_tests_111 (fun H locs hP hD hS => ?_)
        have hP : va_P (dC, dI) classes [c_X x0 x1 x2 x3 x4 z4.2, c_A x1 c1 1024 m1, c_A x2 c2 256 m2, c_A x3 c3 9 (upd z3.2.2 7 (0 : Int32))] H := hP
        have hD : va_D A [c_X x0 x1 x2 x3 x4 z4.2, c_A x1 c1 1024 m1, c_A x2 c2 256 m2, c_A x3 c3 9 (upd z3.2.2 7 (0 : Int32))] := hD
        refine lv_aload_n hx hb d_X_tests_112 rfl (lv_at hl 3 rfl) ?_
        refine va_get (D := (dC, dI)) (ci := 3) (v := .ref x3) (C := R_X) (T := F_X) (N := 13) hx hb htB i_X hown hK hP 0 rfl rfl 2 (by decide) (htB _ mw_463) (fun _ h9 => h9) rfl d_X_tests_113 ?_
        refine lv_iconst (v := 5) hx hb d_X_tests_116 (by decide) ?_
        refine lv_iload hx hb d_X_tests_117 (lv_at hl 0 rfl) ?_
        refine lv_bipush (v := 7) hx hb d_X_tests_119 (by decide) ?_
        refine lv_ishr hx hb d_X_tests_121 ?_
        refine iast_at hx hb hK hP hD hS 3 2 rfl rfl (show ¬ ((5 : Int32) < 0 ∨ 9 ≤ (5 : Int32).toNatClampNeg) from by decide) (show (5 : Int32).toNatClampNeg = 5 from by decide) d_X_tests_122 (fun H locs hP hD hS => ?_)
        have hP : va_P (dC, dI) classes [c_X x0 x1 x2 x3 x4 z4.2, c_A x1 c1 1024 m1, c_A x2 c2 256 m2, c_A x3 c3 9 (upd (upd z3.2.2 7 (0 : Int32)) 5 (z4.1 >>> ((7 : Int32) &&& 31)))] H := hP
        have hD : va_D A [c_X x0 x1 x2 x3 x4 z4.2, c_A x1 c1 1024 m1, c_A x2 c2 256 m2, c_A x3 c3 9 (upd (upd z3.2.2 7 (0 : Int32)) 5 (z4.1 >>> ((7 : Int32) &&& 31)))] := hD
        refine lv_aload_n hx hb d_X_tests_123 rfl (lv_at hl 3 rfl) ?_
        refine va_get (D := (dC, dI)) (ci := 3) (v := .ref x3) (C := R_X) (T := F_X) (N := 13) hx hb htB i_X hown hK hP 0 rfl rfl 2 (by decide) (htB _ mw_463) (fun _ h9 => h9) rfl d_X_tests_124 ?_
        refine lv_bipush (v := 6) hx hb d_X_tests_127 (by decide) ?_
        refine lv_iload hx hb d_X_tests_129 (lv_at hl 0 rfl) ?_
        refine lv_bipush (v := 6) hx hb d_X_tests_131 (by decide) ?_
        refine lv_ishr hx hb d_X_tests_133 ?_
        refine lv_iconst (v := 1) hx hb d_X_tests_134 (by decide) ?_
        refine lv_iand hx hb d_X_tests_135 ?_
        refine iast_at hx hb hK hP hD hS 3 2 rfl rfl (show ¬ ((6 : Int32) < 0 ∨ 9 ≤ (6 : Int32).toNatClampNeg) from by decide) (show (6 : Int32).toNatClampNeg = 6 from by decide) d_X_tests_136 (fun H locs hP hD hS => ?_)
        have hP : va_P (dC, dI) classes [c_X x0 x1 x2 x3 x4 z4.2, c_A x1 c1 1024 m1, c_A x2 c2 256 m2, c_A x3 c3 9 (upd (upd (upd z3.2.2 7 (0 : Int32)) 5 (z4.1 >>> ((7 : Int32) &&& 31))) 6 ((z4.1 >>> ((6 : Int32) &&& 31)) &&& (1 : Int32)))] H := hP
        have hD : va_D A [c_X x0 x1 x2 x3 x4 z4.2, c_A x1 c1 1024 m1, c_A x2 c2 256 m2, c_A x3 c3 9 (upd (upd (upd z3.2.2 7 (0 : Int32)) 5 (z4.1 >>> ((7 : Int32) &&& 31))) 6 ((z4.1 >>> ((6 : Int32) &&& 31)) &&& (1 : Int32)))] := hD
        refine lv_goto (tgt := 362) hx hb d_X_tests_137 (by decide) ?_
        have hf : f_X_tests p1 p2 p3 ku m1 m2 m3 = (z4.2, m1, m2, (upd (upd (upd z3.2.2 7 (0 : Int32)) 5 (z4.1 >>> ((7 : Int32) &&& 31))) 6 ((z4.1 >>> ((6 : Int32) &&& 31)) &&& (1 : Int32)))) := by rw [hJ, f_X_tests_j66, if_pos c_1, if_neg c_2, ← ez3, f_X_tests_k16, ← ez4, f_X_tests_k17, if_neg c_5]
        exact W.vret hx hb hr (fun t ht hW => ⟨⟨(), rfl, trivial, by rw [hf]; exact ⟨by rw [ht]; exact hP, va_K.moved hW.alike hK, hD⟩⟩, hS.F ht⟩) hS.2.2 d_X_tests_362
      · refine lv_iconst (v := 1) hx hb d_X_tests_106 (by decide) ?_
        refine lv_goto (tgt := 111) hx hb d_X_tests_107 (by decide) ?_
        refine iast_at hx hb hK hP hD hS 3 2 rfl rfl (show ¬ ((7 : Int32) < 0 ∨ 9 ≤ (7 : Int32).toNatClampNeg) from by decide) (show (7 : Int32).toNatClampNeg = 7 from by decide) d_X_tests_111 (fun H locs hP hD hS => ?_)
        have hP : va_P (dC, dI) classes [c_X x0 x1 x2 x3 x4 z4.2, c_A x1 c1 1024 m1, c_A x2 c2 256 m2, c_A x3 c3 9 (upd z3.2.2 7 (1 : Int32))] H := hP
        have hD : va_D A [c_X x0 x1 x2 x3 x4 z4.2, c_A x1 c1 1024 m1, c_A x2 c2 256 m2, c_A x3 c3 9 (upd z3.2.2 7 (1 : Int32))] := hD
        refine lv_aload_n hx hb d_X_tests_112 rfl (lv_at hl 3 rfl) ?_
        refine va_get (D := (dC, dI)) (ci := 3) (v := .ref x3) (C := R_X) (T := F_X) (N := 13) hx hb htB i_X hown hK hP 0 rfl rfl 2 (by decide) (htB _ mw_463) (fun _ h9 => h9) rfl d_X_tests_113 ?_
        refine lv_iconst (v := 5) hx hb d_X_tests_116 (by decide) ?_
        refine lv_iload hx hb d_X_tests_117 (lv_at hl 0 rfl) ?_
        refine lv_bipush (v := 7) hx hb d_X_tests_119 (by decide) ?_
        refine lv_ishr hx hb d_X_tests_121 ?_
        refine iast_at hx hb hK hP hD hS 3 2 rfl rfl (show ¬ ((5 : Int32) < 0 ∨ 9 ≤ (5 : Int32).toNatClampNeg) from by decide) (show (5 : Int32).toNatClampNeg = 5 from by decide) d_X_tests_122 (fun H locs hP hD hS => ?_)
        have hP : va_P (dC, dI) classes [c_X x0 x1 x2 x3 x4 z4.2, c_A x1 c1 1024 m1, c_A x2 c2 256 m2, c_A x3 c3 9 (upd (upd z3.2.2 7 (1 : Int32)) 5 (z4.1 >>> ((7 : Int32) &&& 31)))] H := hP
        have hD : va_D A [c_X x0 x1 x2 x3 x4 z4.2, c_A x1 c1 1024 m1, c_A x2 c2 256 m2, c_A x3 c3 9 (upd (upd z3.2.2 7 (1 : Int32)) 5 (z4.1 >>> ((7 : Int32) &&& 31)))] := hD
        refine lv_aload_n hx hb d_X_tests_123 rfl (lv_at hl 3 rfl) ?_
        refine va_get (D := (dC, dI)) (ci := 3) (v := .ref x3) (C := R_X) (T := F_X) (N := 13) hx hb htB i_X hown hK hP 0 rfl rfl 2 (by decide) (htB _ mw_463) (fun _ h9 => h9) rfl d_X_tests_124 ?_
        refine lv_bipush (v := 6) hx hb d_X_tests_127 (by decide) ?_
        refine lv_iload hx hb d_X_tests_129 (lv_at hl 0 rfl) ?_
        refine lv_bipush (v := 6) hx hb d_X_tests_131 (by decide) ?_
        refine lv_ishr hx hb d_X_tests_133 ?_
        refine lv_iconst (v := 1) hx hb d_X_tests_134 (by decide) ?_
        refine lv_iand hx hb d_X_tests_135 ?_
        refine iast_at hx hb hK hP hD hS 3 2 rfl rfl (show ¬ ((6 : Int32) < 0 ∨ 9 ≤ (6 : Int32).toNatClampNeg) from by decide) (show (6 : Int32).toNatClampNeg = 6 from by decide) d_X_tests_136 (fun H locs hP hD hS => ?_)
        have hP : va_P (dC, dI) classes [c_X x0 x1 x2 x3 x4 z4.2, c_A x1 c1 1024 m1, c_A x2 c2 256 m2, c_A x3 c3 9 (upd (upd (upd z3.2.2 7 (1 : Int32)) 5 (z4.1 >>> ((7 : Int32) &&& 31))) 6 ((z4.1 >>> ((6 : Int32) &&& 31)) &&& (1 : Int32)))] H := hP
        have hD : va_D A [c_X x0 x1 x2 x3 x4 z4.2, c_A x1 c1 1024 m1, c_A x2 c2 256 m2, c_A x3 c3 9 (upd (upd (upd z3.2.2 7 (1 : Int32)) 5 (z4.1 >>> ((7 : Int32) &&& 31))) 6 ((z4.1 >>> ((6 : Int32) &&& 31)) &&& (1 : Int32)))] := hD
        refine lv_goto (tgt := 362) hx hb d_X_tests_137 (by decide) ?_
        have hf : f_X_tests p1 p2 p3 ku m1 m2 m3 = (z4.2, m1, m2, (upd (upd (upd z3.2.2 7 (1 : Int32)) 5 (z4.1 >>> ((7 : Int32) &&& 31))) 6 ((z4.1 >>> ((6 : Int32) &&& 31)) &&& (1 : Int32)))) := by rw [hJ, f_X_tests_j66, if_pos c_1, if_neg c_2, ← ez3, f_X_tests_k16, ← ez4, f_X_tests_k17, if_pos c_5]
        exact W.vret hx hb hr (fun t ht hW => ⟨⟨(), rfl, trivial, by rw [hf]; exact ⟨by rw [ht]; exact hP, va_K.moved hW.alike hK, hD⟩⟩, hS.F ht⟩) hS.2.2 d_X_tests_362
set_option maxHeartbeats 4000000 in
set_option maxRecDepth 100000 in
theorem c_X_tests (l : Launch) (dC : Nat → ClassId) (dI : Nat → Nat → Nat) (z0 : Nat) (x0 : Nat) (x1 : Nat) (x2 : Nat) (x3 : Nat) (x4 : Nat) (c1 : ClassId) (c2 : ClassId) (c3 : ClassId) (sz : Nat) (p1 : Int32) (p2 : Int32) (p3 : Int32) (ku m1 m2 m3 : Nat → Int32) (hxs : xs_ok ku) : Met l y_X_tests w_X_tests ({ frames := 4, cells := 0, slots := 0, locals := 86 }) (PcX (dC, dI) classes z0 [c_X x0 x1 x2 x3 x4 ku, c_A x1 c1 1024 m1, c_A x2 c2 256 m2, c_A x3 c3 9 m3] [(c1, .int), (c2, .int), (c3, .int)] sz [.ref x0, .int p1, .int p2, .int p3]) (Q_X_tests dC dI x0 x1 x2 x3 x4 c1 c2 c3 p1 p2 p3 ku m1 m2 m3 (va_A [c_X x0 x1 x2 x3 x4 ku, c_A x1 c1 1024 m1, c_A x2 c2 256 m2, c_A x3 c3 9 m3] sz)) 0 0 (va_A [c_X x0 x1 x2 x3 x4 ku, c_A x1 c1 1024 m1, c_A x2 c2 256 m2, c_A x3 c3 9 m3] sz) := by
  refine hdX (cc := b_X_tests) (maxL := 7) (ret := none) (C := R_X) (Qc := (Q_X_tests dC dI x0 x1 x2 x3 x4 c1 c2 c3 p1 p2 p3 ku m1 m2 m3)) (by decide) rfl ?_
  intro p e s m below meth c A H hx hb hr hlocks hml hown hin htB hP hK hD hA hA0 hE hS
  have hl := lv_entry ([.ref x0, .int p1, .int p2, .int p3]) (n := 7) (Nat.le_of_ble_eq_true rfl)
  rw [lg_entry_eq]
  generalize (lg_sl ([.ref x0, .int p1, .int p2, .int p3]) ++ List.replicate (7 - (lg_sl ([.ref x0, .int p1, .int p2, .int p3])).length) Slot.unset).toArray = ls at hl ⊢
  have hl : lv_has ls 7 [(0, .ref x0), (1, .int p1), (2, .int p2), (3, .int p3)] := hl
  refine lv_iload_n hx hb d_X_tests_0 rfl (lv_at hl 2 rfl) ?_
  refine lv_iconst (v := 4) hx hb d_X_tests_1 (by decide) ?_
  refine lv_icmp_ne (tgt := 11) hx hb d_X_tests_2 (by decide) (fun c_1 => ?_) (fun c_1 => ?_)
  · refine lv_iload_n hx hb d_X_tests_11 rfl (lv_at hl 2 rfl) ?_
    refine lv_iconst (v := 1) hx hb d_X_tests_12 (by decide) ?_
    refine lv_icmp_eq (tgt := 21) hx hb d_X_tests_13 (by decide) (fun c_2 => ?_) (fun c_2 => ?_)
    · refine lv_iconst (v := 1) hx hb d_X_tests_21 (by decide) ?_
      refine lv_goto (tgt := 26) hx hb d_X_tests_22 (by decide) ?_
      refine lv_istore (lv' := [(4, .int (1 : Int32)), (0, .ref x0), (1, .int p1), (2, .int p2), (3, .int p3)]) hx hb d_X_tests_26 hl (by decide) rfl (fun ls hl => ?_)
      refine lv_iload_n hx hb d_X_tests_28 rfl (lv_at hl 3 rfl) ?_
      refine lv_if_ne (tgt := 36) hx hb d_X_tests_29 (by decide) (fun c_3 => ?_) (fun c_3 => ?_)
      · refine lv_iload_n hx hb d_X_tests_36 rfl (lv_at hl 3 rfl) ?_
        refine lv_iconst (v := 1) hx hb d_X_tests_37 (by decide) ?_
        refine lv_icmp_ne (tgt := 45) hx hb d_X_tests_38 (by decide) (fun c9 => absurd c_2 c9) (fun _ => ?_)
        refine lv_iconst (v := 1) hx hb d_X_tests_41 (by decide) ?_
        refine lv_goto (tgt := 64) hx hb d_X_tests_42 (by decide) ?_
        refine lv_istore (lv' := [(5, .int (1 : Int32)), (4, .int (1 : Int32)), (0, .ref x0), (1, .int p1), (2, .int p2), (3, .int p3)]) hx hb d_X_tests_64 hl (by decide) rfl (fun ls hl => ?_)
        exact J_X_tests_66 hx hb hr hlocks hml hown htB hK hA hA0 hE hxs (by rw [f_X_tests, if_neg c_1, if_pos c_2, if_neg c_3]) H _ ls hP hD hS (lv_sub hl [1, 0, 2, 3, 4, 5] rfl)
      · refine lv_iconst (v := 0) hx hb d_X_tests_32 (by decide) ?_
        refine lv_goto (tgt := 64) hx hb d_X_tests_33 (by decide) ?_
        refine lv_istore (lv' := [(5, .int (0 : Int32)), (4, .int (1 : Int32)), (0, .ref x0), (1, .int p1), (2, .int p2), (3, .int p3)]) hx hb d_X_tests_64 hl (by decide) rfl (fun ls hl => ?_)
        exact J_X_tests_66 hx hb hr hlocks hml hown htB hK hA hA0 hE hxs (by rw [f_X_tests, if_neg c_1, if_pos c_2, if_pos c_3]) H _ ls hP hD hS (lv_sub hl [1, 0, 2, 3, 4, 5] rfl)
    · refine lv_iload_n hx hb d_X_tests_16 rfl (lv_at hl 2 rfl) ?_
      refine lv_iconst (v := 3) hx hb d_X_tests_17 (by decide) ?_
      refine lv_icmp_ne (tgt := 25) hx hb d_X_tests_18 (by decide) (fun c_3 => ?_) (fun c_3 => ?_)
      · refine lv_iconst (v := 0) hx hb d_X_tests_25 (by decide) ?_
        refine lv_istore (lv' := [(4, .int (0 : Int32)), (0, .ref x0), (1, .int p1), (2, .int p2), (3, .int p3)]) hx hb d_X_tests_26 hl (by decide) rfl (fun ls hl => ?_)
        refine lv_iload_n hx hb d_X_tests_28 rfl (lv_at hl 3 rfl) ?_
        refine lv_if_ne (tgt := 36) hx hb d_X_tests_29 (by decide) (fun c_4 => ?_) (fun c_4 => ?_)
        · refine lv_iload_n hx hb d_X_tests_36 rfl (lv_at hl 3 rfl) ?_
          refine lv_iconst (v := 1) hx hb d_X_tests_37 (by decide) ?_
          refine lv_icmp_ne (tgt := 45) hx hb d_X_tests_38 (by decide) (fun _ => ?_) (fun c9 => absurd c9 c_2)
          refine lv_iload_n hx hb d_X_tests_45 rfl (lv_at hl 3 rfl) ?_
          refine lv_iconst (v := 3) hx hb d_X_tests_46 (by decide) ?_
          refine lv_icmp_ne (tgt := 54) hx hb d_X_tests_47 (by decide) (fun _ => ?_) (fun c9 => absurd c9 c_3)
          refine lv_iload_n hx hb d_X_tests_54 rfl (lv_at hl 3 rfl) ?_
          refine lv_iconst (v := 5) hx hb d_X_tests_55 (by decide) ?_
          refine lv_icmp_ne (tgt := 63) hx hb d_X_tests_56 (by decide) (fun c_5 => ?_) (fun c_5 => ?_)
          · refine lv_iconst (v := 5) hx hb d_X_tests_63 (by decide) ?_
            refine lv_istore (lv' := [(5, .int (5 : Int32)), (4, .int (0 : Int32)), (0, .ref x0), (1, .int p1), (2, .int p2), (3, .int p3)]) hx hb d_X_tests_64 hl (by decide) rfl (fun ls hl => ?_)
            exact J_X_tests_66 hx hb hr hlocks hml hown htB hK hA hA0 hE hxs (by rw [f_X_tests, if_neg c_1, if_neg c_2, if_neg c_3, if_neg c_4, if_neg c_5]) H _ ls hP hD hS (lv_sub hl [1, 0, 2, 3, 4, 5] rfl)
          · refine lv_iconst (v := 2) hx hb d_X_tests_59 (by decide) ?_
            refine lv_goto (tgt := 64) hx hb d_X_tests_60 (by decide) ?_
            refine lv_istore (lv' := [(5, .int (2 : Int32)), (4, .int (0 : Int32)), (0, .ref x0), (1, .int p1), (2, .int p2), (3, .int p3)]) hx hb d_X_tests_64 hl (by decide) rfl (fun ls hl => ?_)
            exact J_X_tests_66 hx hb hr hlocks hml hown htB hK hA hA0 hE hxs (by rw [f_X_tests, if_neg c_1, if_neg c_2, if_neg c_3, if_neg c_4, if_pos c_5]) H _ ls hP hD hS (lv_sub hl [1, 0, 2, 3, 4, 5] rfl)
        · refine lv_iconst (v := 0) hx hb d_X_tests_32 (by decide) ?_
          refine lv_goto (tgt := 64) hx hb d_X_tests_33 (by decide) ?_
          refine lv_istore (lv' := [(5, .int (0 : Int32)), (4, .int (0 : Int32)), (0, .ref x0), (1, .int p1), (2, .int p2), (3, .int p3)]) hx hb d_X_tests_64 hl (by decide) rfl (fun ls hl => ?_)
          exact J_X_tests_66 hx hb hr hlocks hml hown htB hK hA hA0 hE hxs (by rw [f_X_tests, if_neg c_1, if_neg c_2, if_neg c_3, if_pos c_4]) H _ ls hP hD hS (lv_sub hl [1, 0, 2, 3, 4, 5] rfl)
      · refine lv_iconst (v := 1) hx hb d_X_tests_21 (by decide) ?_
        refine lv_goto (tgt := 26) hx hb d_X_tests_22 (by decide) ?_
        refine lv_istore (lv' := [(4, .int (1 : Int32)), (0, .ref x0), (1, .int p1), (2, .int p2), (3, .int p3)]) hx hb d_X_tests_26 hl (by decide) rfl (fun ls hl => ?_)
        refine lv_iload_n hx hb d_X_tests_28 rfl (lv_at hl 3 rfl) ?_
        refine lv_if_ne (tgt := 36) hx hb d_X_tests_29 (by decide) (fun c_4 => ?_) (fun c_4 => ?_)
        · refine lv_iload_n hx hb d_X_tests_36 rfl (lv_at hl 3 rfl) ?_
          refine lv_iconst (v := 1) hx hb d_X_tests_37 (by decide) ?_
          refine lv_icmp_ne (tgt := 45) hx hb d_X_tests_38 (by decide) (fun _ => ?_) (fun c9 => absurd c9 c_2)
          refine lv_iload_n hx hb d_X_tests_45 rfl (lv_at hl 3 rfl) ?_
          refine lv_iconst (v := 3) hx hb d_X_tests_46 (by decide) ?_
          refine lv_icmp_ne (tgt := 54) hx hb d_X_tests_47 (by decide) (fun c9 => absurd c_3 c9) (fun _ => ?_)
          refine lv_iconst (v := 4) hx hb d_X_tests_50 (by decide) ?_
          refine lv_goto (tgt := 64) hx hb d_X_tests_51 (by decide) ?_
          refine lv_istore (lv' := [(5, .int (4 : Int32)), (4, .int (1 : Int32)), (0, .ref x0), (1, .int p1), (2, .int p2), (3, .int p3)]) hx hb d_X_tests_64 hl (by decide) rfl (fun ls hl => ?_)
          exact J_X_tests_66 hx hb hr hlocks hml hown htB hK hA hA0 hE hxs (by rw [f_X_tests, if_neg c_1, if_neg c_2, if_pos c_3, if_neg c_4]) H _ ls hP hD hS (lv_sub hl [1, 0, 2, 3, 4, 5] rfl)
        · refine lv_iconst (v := 0) hx hb d_X_tests_32 (by decide) ?_
          refine lv_goto (tgt := 64) hx hb d_X_tests_33 (by decide) ?_
          refine lv_istore (lv' := [(5, .int (0 : Int32)), (4, .int (1 : Int32)), (0, .ref x0), (1, .int p1), (2, .int p2), (3, .int p3)]) hx hb d_X_tests_64 hl (by decide) rfl (fun ls hl => ?_)
          exact J_X_tests_66 hx hb hr hlocks hml hown htB hK hA hA0 hE hxs (by rw [f_X_tests, if_neg c_1, if_neg c_2, if_pos c_3, if_pos c_4]) H _ ls hP hD hS (lv_sub hl [1, 0, 2, 3, 4, 5] rfl)
  · refine lv_aload_n hx hb d_X_tests_5 rfl (lv_at hl 0 rfl) ?_
    refine lv_iload_n hx hb d_X_tests_6 rfl (lv_at hl 1 rfl) ?_
    have hPc := hP.sub (ws' := [c_X x0 x1 x2 x3 x4 ku, c_A x1 c1 1024 m1, c_A x3 c3 9 m3]) [0, 1, 3] rfl
    have hDc := hD.sub (ws' := [c_X x0 x1 x2 x3 x4 ku, c_A x1 c1 1024 m1, c_A x3 c3 9 m3]) [0, 1, 3] (by decide) rfl
    have hKc := hK.sub (tys' := [(c1, .int), (c3, .int)]) [0, 2] rfl
    have hFc := va_free (wc := [c_X x0 x1 x2 x3 x4 ku, c_A x1 c1 1024 m1, c_A x3 c3 9 m3]) hD hS hA [0, 1, 3] rfl
    refine va_callv (va_runV (As := [.int p1]) (rest := []) ⟨hx, hb, hml, hown, htB⟩ (c_X_branch l dC dI z0 x0 x1 x2 x3 x4 c1 c3 H.size p1 ku m1 m3) (cwV 1 htB (gd_V mw_619 mw_621 sw_X_branch mw_4 mw_622) rfl rfl rfl (by decide +kernel) ⟨Nat.le_of_ble_eq_true rfl, Nat.le_of_ble_eq_true rfl⟩) (pcx_V (va_recv hKc hPc (ci := 3) (q0 := 0) rfl rfl) hPc hKc hDc hA0 hE hS) rfl rfl hl.1 rfl (lv_room (Nat.le_of_ble_eq_true rfl)) d_X_tests_7 ⟨Nat.zero_le _, Nat.zero_le _⟩) hS (fun q _ h => hFc q h) hFc (fun u t H1 locs ht hvm hw hB hz1 hk1 hS => ?_)
    obtain ⟨hP1, hK1, hD1⟩ := hB
    rw [ht] at hP1
    obtain ⟨hP, hD⟩ := va_join (wr := [c_A x2 c2 256 m2]) (w1 := [c_X x0 x1 x2 x3 x4 ((f_X_branch p1 ku m1 m3).1), c_A x1 c1 1024 m1, c_A x3 c3 9 ((f_X_branch p1 ku m1 m3).2)]) hP hD [0, 1, 3] [2] rfl rfl (by decide) (by decide) hk1 hFc hP1 hD1
    generalize H1 = H at hP hS ⊢
    have hP : va_P (dC, dI) classes [c_X x0 x1 x2 x3 x4 ((f_X_branch p1 ku m1 m3).1), c_A x1 c1 1024 m1, c_A x2 c2 256 m2, c_A x3 c3 9 ((f_X_branch p1 ku m1 m3).2)] H := hP.sub [1, 2, 0, 3] rfl
    have hD : va_D A [c_X x0 x1 x2 x3 x4 ((f_X_branch p1 ku m1 m3).1), c_A x1 c1 1024 m1, c_A x2 c2 256 m2, c_A x3 c3 9 ((f_X_branch p1 ku m1 m3).2)] := hD.sub [1, 2, 0, 3] (by decide) rfl
    obtain ⟨z1, ez1⟩ : ∃ z, z = (f_X_branch p1 ku m1 m3) := ⟨_, rfl⟩
    rw [← ez1] at hP hD
    have hf : f_X_tests p1 p2 p3 ku m1 m2 m3 = (z1.1, m1, m2, z1.2) := by rw [f_X_tests, if_pos c_1, ← ez1, f_X_tests_k18]
    exact W.vret hx hb hr (fun t ht hW => ⟨⟨(), rfl, trivial, by rw [hf]; exact ⟨by rw [ht]; exact hP, va_K.moved hW.alike hK, hD⟩⟩, hS.F ht⟩) hS.2.2 d_X_tests_10
