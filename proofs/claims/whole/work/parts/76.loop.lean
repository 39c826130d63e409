/-! THE CLAIM OUT OF ONE WALK OF THE LAW'S BODY. Your part is whole_start (and what it stands on); all else here is the same for every law, but numbers. -/
def lw_P (b : Addr) (xs : List Int32) (args : Array Value) (s : State) : Prop := args = #[.ref b] ∧ s.IntsAt b xs ∧ xs.length ≤ 3072 ∧ (Jvm.Cond.and given_1 narrow_1).before args s = true
def lw_Q (_ : Array Value) (s : State) (o : Outcome) (t : State) : Prop := o = .returned (some (.int 1)) ∧ Framed s o t [] 1041 10842
def lw_Z (below : List Frame) (a : Array Value) (s : State) : State → Prop := fun t => ∃ o, t.status = .running ∧ Ended t below o ∧ lw_Q a s o t
/-- the law's own end, with 1 on the stack, nothing written that was there before, its room as the claim has it -/
theorem lw_ret {p : Program} {l : Launch} {e : Env} {s : State} {m : MethodId} {below : List Frame} {meth : Method} {c : Code} {b : Nat} (hx : p.tables.exec = Jvm.exec) (hb : c.code = code) (hr : meth.sig.returnType = ret) (hlocks : meth.locks = false) {pc : Nat} {H : Heap} {ls : Array Slot} (hdg : decode code pc = .ok (.ireturn, 1)) : W p l e room_1 s m #[Value.ref b] below meth c H [] 1041 10842 (lw_Z below #[Value.ref b] s) (F0 m pc ls [.int 1]) := by
  intro T hT X
  obtain ⟨fs, hret, hrun, hended, hW, hframe⟩ := X.leave (v := some (.int 1)) (hlocks := hlocks) (fun h => by rw [hr] at h; cases h)
  have hmeth' : T.vm.method? m = some meth := X.method'
  refine ⟨T.setFrames fs, ?_, .returned (some (.int 1)), hrun, hended, rfl, ⟨_, rfl⟩, hW, hframe⟩
  jvm_step X.here [X.here.top, hx, hb, hdg, hmeth', hr, ret, narrow_b1]
  (try refine ⟨rfl, ?_⟩); (try refine ⟨rfl, ?_⟩)
  first | (intro acts; rw [hret _ acts rfl rfl rfl]) | rw [hret _ _ rfl rfl rfl]
  exact Steps.refl _
/-- what holds at the law's entry: the machine, the code, the tables' words (any of lw_tbl by 'hts w (by decide +kernel)'), the script of L ints xs at the cell b, what the Statement gives of the start (any of its parts by flat_of_before) -/
def lw_At (p : Program) (s : State) (m : MethodId) (meth : Method) (c : Code) (b L : Nat) (xs : Nat → Int32) : Prop :=
  p.tables.exec = Jvm.exec ∧ c.code = code ∧ meth.sig.returnType = ret ∧ c.maxLocals = 7 ∧ s.vm.findClass R_law = some m.cls ∧ (∀ w ∈ lw_tbl, w.before #[Value.ref b] s = true) ∧ va_X b L xs s s.heap ∧ b < s.heap.size ∧ meth.locks = false ∧ (Jvm.Cond.and given_1 narrow_1).before #[Value.ref b] s = true
set_option maxHeartbeats 4000000 in
set_option maxRecDepth 100000 in
/-- THE LAW'S LOOP: at its head, with j calls through, class and reference agree -/
theorem law_loop {p : Program} {l : Launch} (hl9 : l.stackTraces = false) {e : Env} {s : State} {m : MethodId} {below : List Frame} {meth : Method} {c : Code} {A : Nat → Prop} {z0 : Nat} {dC : Nat → ClassId} {dI : Nat → Nat → Nat} {qs : Nat} {q0 : Nat} {q1 : Nat} {q2 : Nat} {q3 : Nat} {cM : ClassId} {cD : ClassId} {x0 : Nat} {x1 : Nat} {x2 : Nat} {x3 : Nat} {x4 : Nat} {c1 : ClassId} {c2 : ClassId} {c3 : ClassId} {c4 : ClassId} {qo : Nat} {cO : ClassId} {b L : Nat} {xs : Nat → Int32} (hx : p.tables.exec = Jvm.exec) (hb : c.code = code) (hml : c.maxLocals = 7) (hown : s.vm.findClass R_law = some m.cls) (htB : ∀ w ∈ BIG, w.before #[Value.ref b] s = true) (hX : va_X b L xs s s.heap) (hbl : b < s.heap.size) (hbA : ¬ A b) (hA : ∀ q : Nat, s.heap.size ≤ q → A q) (hA0 : ∀ q, A q → z0 ≤ q) (hE : EN z0 s) (hK : va_K (dC, dI) classes [(cM, .int), (cD, .int), (c1, .int), (c2, .int), (c3, .int), (c4, .int), (cO, .long)] s) (hL : L ≤ 3072) (hr : meth.sig.returnType = ret) (hlocks : meth.locks = false) (hA1 : ∀ q, A q → s.heap.size ≤ q) : ∀ (n j : Nat), 6 * j ≤ L → L < 6 * (j + n) → ∀ (g r k M D ku m1 m2 m3 m4 : Nat → Int32) (o : Nat → Int64) (H : Heap) (locs : List Loc) (ls : Array Slot), Rel g r k M D ku m1 m2 m3 → va_P (dC, dI) classes [c_S qs q0 q1 g, c_P q0 q1 r, c_B q1 q2 q3 k, c_A q2 cM 1024 M, c_A q3 cD 256 D, c_X x0 x1 x2 x3 x4 ku, c_A x1 c1 1024 m1, c_A x2 c2 256 m2, c_A x3 c3 9 m3, c_A x4 c4 9 m4, c_L qo cO o] H → va_D A [c_S qs q0 q1 g, c_P q0 q1 r, c_B q1 q2 q3 k, c_A q2 cM 1024 M, c_A q3 cD 256 D, c_X x0 x1 x2 x3 x4 ku, c_A x1 c1 1024 m1, c_A x2 c2 256 m2, c_A x3 c3 9 m3, c_A x4 c4 9 m4, c_L qo cO o] → va_S A s.heap H locs → lv_has ls 7 [(4, .int (nI (6 * j))), (0, .ref b), (1, .ref qs), (2, .ref x0), (3, .ref qo)] → W p l e room_1 s m #[Value.ref b] below meth c H locs (11 + 2 * j) (2614 + 12 * j) (lw_Z below #[Value.ref b] s) (F0 m 23 ls []) := by
  intro n
  induction n with
  | zero =>
    intro j h1 h2
    exact absurd h2 (by omega)
  | succ n ih =>
    intro j hj0 hjn g r k M D ku m1 m2 m3 m4 o H locs ls hrel hP hD hS hl
    refine lv_iload hx hb d_L_law_23 (lv_at hl 0 rfl) ?_
    refine lv_aload_n hx hb d_L_law_25 rfl (lv_at hl 1 rfl) ?_
    refine va_slen hx hb hX hbl hbA hS d_L_law_26 ?_
    refine lv_bipush (v := 6) hx hb d_L_law_27 (by decide) ?_
    refine lv_isub hx hb d_L_law_29 ?_
    refine lv_icmp_gt (tgt := 735) hx hb d_L_law_30 (by decide) (fun c_1 => ?_) (fun c_1 => ?_)
    · refine lv_iconst (v := 1) hx hb d_L_law_735 (by decide) ?_
      refine va_forget (fun q hq => hA1 _ (hS.2.2 q hq)) ?_
      refine W.widen (k := 1041) (n := 10842) (by omega) (by omega) ?_
      exact lw_ret hx hb hr hlocks d_L_law_736
    · have hj := lp_ge hj0 hL c_1
      have h_0 : vp_in (nI (6 * j)) L := vp_in_nI (by omega) (by omega)
      have kk : ∀ (g r k M D ku m1 m2 m3 m4 : Nat → Int32) (o : Nat → Int64) (H : Heap) (locs : List Loc) (ls : Array Slot), Rel g r k M D ku m1 m2 m3 → va_P (dC, dI) classes [c_S qs q0 q1 g, c_P q0 q1 r, c_B q1 q2 q3 k, c_A q2 cM 1024 M, c_A q3 cD 256 D, c_X x0 x1 x2 x3 x4 ku, c_A x1 c1 1024 m1, c_A x2 c2 256 m2, c_A x3 c3 9 m3, c_A x4 c4 9 m4, c_L qo cO o] H → va_D A [c_S qs q0 q1 g, c_P q0 q1 r, c_B q1 q2 q3 k, c_A q2 cM 1024 M, c_A q3 cD 256 D, c_X x0 x1 x2 x3 x4 ku, c_A x1 c1 1024 m1, c_A x2 c2 256 m2, c_A x3 c3 9 m3, c_A x4 c4 9 m4, c_L qo cO o] → va_S A s.heap H locs → lv_has ls 7 [(4, .int (nI (6 * j))), (0, .ref b), (1, .ref qs), (2, .ref x0), (3, .ref qo)] → W p l e room_1 s m #[Value.ref b] below meth c H locs (11 + 2 * (j + 1)) (2614 + 12 * (j + 1)) (lw_Z below #[Value.ref b] s) (F0 m 729 ls []) := by
        intro g r k M D ku m1 m2 m3 m4 o H locs ls hrel hP hD hS hl
        refine lv_iinc (v := nI (6 * (j + 1))) (lv' := [(4, .int (nI (6 * (j + 1)))), (0, .ref b), (1, .ref qs), (2, .ref x0), (3, .ref qo)]) hx hb d_L_law_729 hl (k := 0) rfl (inc6 j) (by decide) rfl (fun ls hl => ?_)
        refine lv_goto (tgt := 23) hx hb d_L_law_732 (by decide) ?_
        exact ih (j + 1) (by omega) (by omega) g r k M D ku m1 m2 m3 m4 o H locs ls hrel hP hD hS hl
      refine lv_aload_n hx hb d_L_law_33 rfl (lv_at hl 1 rfl) ?_
      refine lv_iload hx hb d_L_law_34 (lv_at hl 0 rfl) ?_
      refine va_sld hx hb hX hbl hbA hS h_0 d_L_law_36 ?_
      refine lv_bipush (v := 15) hx hb d_L_law_37 (by decide) ?_
      refine lv_iand hx hb d_L_law_39 ?_
      by_cases c_2 : ((xs (nI (6 * j)).toNatClampNeg) &&& (15 : Int32)) = (0 : Int32)
      · refine lv_tableIn (tgt := 92) hx hb d_L_law_40 (by rw [c_2]; decide) (by rw [c_2]; decide) (by rw [c_2]; rfl) (by decide) ?_
        exact LW_0 hl9 hx hb hml hown htB hX hbl hbA hA hA0 hE hK hL hj kk hrel hP hD hS (lv_sub hl [0, 1, 2, 3, 4] rfl)
      · by_cases c_3 : ((xs (nI (6 * j)).toNatClampNeg) &&& (15 : Int32)) = (1 : Int32)
        · refine lv_tableIn (tgt := 204) hx hb d_L_law_40 (by rw [c_3]; decide) (by rw [c_3]; decide) (by rw [c_3]; rfl) (by decide) ?_
          exact LW_1 hl9 hx hb hml hown htB hX hbl hbA hA hA0 hE hK hL hj kk hrel hP hD hS (lv_sub hl [0, 1, 2, 3, 4] rfl)
        · by_cases c_4 : ((xs (nI (6 * j)).toNatClampNeg) &&& (15 : Int32)) = (2 : Int32)
          · refine lv_tableIn (tgt := 328) hx hb d_L_law_40 (by rw [c_4]; decide) (by rw [c_4]; decide) (by rw [c_4]; rfl) (by decide) ?_
            exact LW_2 hl9 hx hb hml hown htB hX hbl hbA hA hA0 hE hK hL hj kk hrel hP hD hS (lv_sub hl [0, 1, 2, 3, 4] rfl)
          · by_cases c_5 : ((xs (nI (6 * j)).toNatClampNeg) &&& (15 : Int32)) = (3 : Int32)
            · refine lv_tableIn (tgt := 396) hx hb d_L_law_40 (by rw [c_5]; decide) (by rw [c_5]; decide) (by rw [c_5]; rfl) (by decide) ?_
              exact LW_3 hl9 hx hb hml hown htB hX hbl hbA hA hA0 hE hK hL hj kk hrel hP hD hS (lv_sub hl [0, 1, 2, 3, 4] rfl)
            · by_cases c_6 : ((xs (nI (6 * j)).toNatClampNeg) &&& (15 : Int32)) = (4 : Int32)
              · refine lv_tableIn (tgt := 452) hx hb d_L_law_40 (by rw [c_6]; decide) (by rw [c_6]; decide) (by rw [c_6]; rfl) (by decide) ?_
                exact LW_4 hl9 hx hb hml hown htB hX hbl hbA hA hA0 hE hK hL hj kk hrel hP hD hS (lv_sub hl [0, 1, 2, 3, 4] rfl)
              · by_cases c_7 : ((xs (nI (6 * j)).toNatClampNeg) &&& (15 : Int32)) = (5 : Int32)
                · refine lv_tableIn (tgt := 493) hx hb d_L_law_40 (by rw [c_7]; decide) (by rw [c_7]; decide) (by rw [c_7]; rfl) (by decide) ?_
                  exact LW_5 hl9 hx hb hml hown htB hX hbl hbA hA hA0 hE hK hL hj kk hrel hP hD hS (lv_sub hl [0, 1, 2, 3, 4] rfl)
                · by_cases c_8 : ((xs (nI (6 * j)).toNatClampNeg) &&& (15 : Int32)) = (6 : Int32)
                  · refine lv_tableIn (tgt := 549) hx hb d_L_law_40 (by rw [c_8]; decide) (by rw [c_8]; decide) (by rw [c_8]; rfl) (by decide) ?_
                    exact LW_6 hl9 hx hb hml hown htB hX hbl hbA hA hA0 hE hK hL hj kk hrel hP hD hS (lv_sub hl [0, 1, 2, 3, 4] rfl)
                  · by_cases c_9 : ((xs (nI (6 * j)).toNatClampNeg) &&& (15 : Int32)) = (7 : Int32)
                    · refine lv_tableIn (tgt := 605) hx hb d_L_law_40 (by rw [c_9]; decide) (by rw [c_9]; decide) (by rw [c_9]; rfl) (by decide) ?_
                      exact LW_7 hl9 hx hb hml hown htB hX hbl hbA hA hA0 hE hK hL hj kk hrel hP hD hS (lv_sub hl [0, 1, 2, 3, 4] rfl)
                    · by_cases c_10 : ((xs (nI (6 * j)).toNatClampNeg) &&& (15 : Int32)) = (8 : Int32)
                      · refine lv_tableIn (tgt := 661) hx hb d_L_law_40 (by rw [c_10]; decide) (by rw [c_10]; decide) (by rw [c_10]; rfl) (by decide) ?_
                        exact LW_8 hl9 hx hb hml hown htB hX hbl hbA hA hA0 hE hK hL hj kk hrel hP hD hS (lv_sub hl [0, 1, 2, 3, 4] rfl)
                      · refine lv_tableOut (tgt := 729) hx hb d_L_law_40 (by have g_0 := lv_neT c_2 (show (0 : Int32).toInt = 0 from by decide); have g_1 := lv_neT c_3 (show (1 : Int32).toInt = 1 from by decide); have g_2 := lv_neT c_4 (show (2 : Int32).toInt = 2 from by decide); have g_3 := lv_neT c_5 (show (3 : Int32).toInt = 3 from by decide); have g_4 := lv_neT c_6 (show (4 : Int32).toInt = 4 from by decide); have g_5 := lv_neT c_7 (show (5 : Int32).toInt = 5 from by decide); have g_6 := lv_neT c_8 (show (6 : Int32).toInt = 6 from by decide); have g_7 := lv_neT c_9 (show (7 : Int32).toInt = 7 from by decide); have g_8 := lv_neT c_10 (show (8 : Int32).toInt = 8 from by decide); omega) (by decide) ?_
                        refine W.widen (k := 11 + 2 * (j + 1)) (n := 2614 + 12 * (j + 1)) (by omega) (by omega) ?_
                        exact kk g r k M D ku m1 m2 m3 m4 o H _ ls hrel hP hD hS (lv_sub hl [0, 1, 2, 3, 4] rfl)
