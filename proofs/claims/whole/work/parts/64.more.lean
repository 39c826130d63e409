section
variable {r k u M D m : Nat → Int32} {d t : Int32}
theorem er_ill {c : Int32} (hM : AllB M) (hD : AllB D) (hK : OkK k) (h : RK k u d 0 t) (hc : flt c) : ER r d t (c, r, k, M, D) (upd u 4 c, M, D, m) := ⟨rfl, rfl, ⟨h.1, h.2.1, h.2.2.1, h.2.2.2.1, rfl, h.2.2.2.2.2⟩, hK, hM, hD, Or.inr ⟨hc, EqF.rf r, rfl⟩⟩
/-- a load into x or y -/
theorem ld_rel1 {cm xm : Int32} {F : (Nat → Int32) × (Nat → Int32)} {z : Int32 × (Nat → Int32) × (Nat → Int32)} (ho : OkF r) (hM : AllB M) (hD : AllB D) (hm : MM cm xm) (h : FRel cm r F z d 0 t) : ER r d t (0, upd (f_P_set (f_P_operand cm F.1 F.2 M D).1 F.1).2 1 (f_P_set (f_P_operand cm F.1 F.2 M D).1 F.1).1, (f_P_operand cm F.1 F.2 M D).2, M, D) ((f_X_operand xm z.1 z.2.1 M z.2.2).2, M, D, f_X_put3 1 (f_X_operand xm z.1 z.2.1 M z.2.2).1 1 (f_X_operand xm z.1 z.2.1 M z.2.2).2 z.2.2) := by
  obtain ⟨a1, a2, a3, a4⟩ := opr_rel (D := D) ho hM hm h
  refine ER.plain hM hD a4 a3 (put_rel1 (h.rr ho) ?_)
  rw [a1]; exact isB_and a2
theorem ld_rel2 {cm xm : Int32} {F : (Nat → Int32) × (Nat → Int32)} {z : Int32 × (Nat → Int32) × (Nat → Int32)} (ho : OkF r) (hM : AllB M) (hD : AllB D) (hm : MM cm xm) (h : FRel cm r F z d 0 t) : ER r d t (0, upd (f_P_set (f_P_operand cm F.1 F.2 M D).1 F.1).2 2 (f_P_set (f_P_operand cm F.1 F.2 M D).1 F.1).1, (f_P_operand cm F.1 F.2 M D).2, M, D) ((f_X_operand xm z.1 z.2.1 M z.2.2).2, M, D, f_X_put3 2 (f_X_operand xm z.1 z.2.1 M z.2.2).1 1 (f_X_operand xm z.1 z.2.1 M z.2.2).2 z.2.2) := by
  obtain ⟨a1, a2, a3, a4⟩ := opr_rel (D := D) ho hM hm h
  refine ER.plain hM hD a4 a3 (put_rel2 (h.rr ho) ?_)
  rw [a1]; exact isB_and a2
/-- a compare of x or y -/
theorem cp_rel {cm xm p p' : Int32} {F : (Nat → Int32) × (Nat → Int32)} {z : Int32 × (Nat → Int32) × (Nat → Int32)} (ho : OkF r) (hM : AllB M) (hD : AllB D) (hm : MM cm xm) (h : FRel cm r F z d 0 t) (e : p' = p) : ER r d t (0, f_P_compare p (f_P_operand cm F.1 F.2 M D).1 F.1, (f_P_operand cm F.1 F.2 M D).2, M, D) ((f_X_operand xm z.1 z.2.1 M z.2.2).2, M, D, f_X_compare p' (f_X_operand xm z.1 z.2.1 M z.2.2).1 (f_X_operand xm z.1 z.2.1 M z.2.2).2 z.2.2) := by
  obtain ⟨a1, a2, a3, a4⟩ := opr_rel (D := D) ho hM hm h
  refine ER.plain hM hD a4 a3 ?_
  rw [a1, e]
  exact cmp_rel (h.rr ho)
/-- a store of x or y -/
theorem st_rel1 {cm : Int32} {F : (Nat → Int32) × (Nat → Int32)} {z : Int32 × (Nat → Int32) × (Nat → Int32)} {v v' : Int32} (ho : OkF r) (hM : AllB M) (hD : AllB D) (hc : ¬ cm = 2) (h : FRel cm r F z d 0 t) (e : v' = v) (hv : isB v) : ER r d t ((f_B_writeByte (F.1 10) v F.2 M D).1, F.1, (f_B_writeByte (F.1 10) v F.2 M D).2.1, (f_B_writeByte (F.1 10) v F.2 M D).2.2.1, (f_B_writeByte (F.1 10) v F.2 M D).2.2.2) ((f_X_write z.1 v' z.2.1 M D).1, (f_X_write z.1 v' z.2.1 M D).2.1, (f_X_write z.1 v' z.2.1 M D).2.2, z.2.2) := by
  have hR := h.rr ho
  obtain ⟨h1, h2, h3, h4, h5, h6, h7, h8, h9⟩ := h
  rw [h8 hc, wb_and1, e]
  exact ER.write hM hD h6 h7 hv hR h1 h2
/-- the two flags out of a byte of memory -/
theorem bit_rel {cm : Int32} {F : (Nat → Int32) × (Nat → Int32)} {z : Int32 × (Nat → Int32) × (Nat → Int32)} (ho : OkF r) (hM : AllB M) (hD : AllB D) (hc : ¬ cm = 2 ∧ ¬ cm = 9) (h : FRel cm r F z d 0 t) {p1 p2 p3 v4 v5 : Int32} : ER r d t (0, f_P_executeOperandG0 1 (f_P_operand cm F.1 F.2 M D).1 F.1, (f_P_operand cm F.1 F.2 M D).2, M, D) (f_X_tests_k16 p1 p2 p3 u M D m v4 v5 z) := by
  have hR := h.rr ho
  obtain ⟨a1, a2, a3, a4⟩ := opr_rel (D := D) (xm := 1) ho hM (Or.inr (Or.inr ⟨hc.1, hc.2, by decide, by decide⟩)) h
  have a1 : (f_X_read z.1 z.2.1 M).1 = (f_P_operand cm F.1 F.2 M D).1 := a1
  have a4 : RK (f_P_operand cm F.1 F.2 M D).2 (f_X_read z.1 z.2.1 M).2 d 0 t := a4
  unfold f_X_tests_k16 f_X_tests_k17
  obtain ⟨q, eq⟩ : ∃ q, q = (f_P_operand cm F.1 F.2 M D).1 := ⟨_, rfl⟩
  rw [← eq] at a1 a2 ⊢
  rw [a1, hR.1.1]
  have hn : (q >>> ((7 : Int32) &&& 31)) &&& 1 = q >>> ((7 : Int32) &&& 31) := and1_01 (shr7 a2)
  have e : f_P_executeOperandG0 1 q F.1 = if (F.1 0 &&& q) = 0 then upd (upd (upd F.1 7 1) 5 (q >>> ((7 : Int32) &&& 31))) 6 ((q >>> ((6 : Int32) &&& 31)) &&& 1) else upd (upd (upd F.1 7 0) 5 (q >>> ((7 : Int32) &&& 31))) 6 ((q >>> ((6 : Int32) &&& 31)) &&& 1) := by
    rw [← hn]
    rfl
  rw [e]
  obtain ⟨⟨h0, h1, h2, h3, h5, h6, h7, h8⟩, ⟨o0, o1, o2, o3, o5, o6, o7, o8⟩, h4, hA⟩ := hR
  by_cases c : (F.1 0 &&& q) = 0
  · rw [if_pos c, if_pos c]
    exact ER.plain hM hD a4 a3 ⟨⟨h0, h1, h2, h3, rfl, rfl, rfl, h8⟩, ⟨o0, o1, o2, o3, shr7 a2, is01_and _, Or.inr rfl, o8⟩, h4, hA⟩
  · rw [if_neg c, if_neg c]
    exact ER.plain hM hD a4 a3 ⟨⟨h0, h1, h2, h3, rfl, rfl, rfl, h8⟩, ⟨o0, o1, o2, o3, shr7 a2, is01_and _, Or.inl rfl, o8⟩, h4, hA⟩
theorem rb_cong {p q : Int32} (h : p &&& 1023 = q &&& 1023) (k M D : Nat → Int32) : f_B_readByte p k M D = f_B_readByte q k M D := by
  rw [← rb_and p, h, rb_and]
theorem wb_stack {s v : Int32} (h : isB s) (k M D : Nat → Int32) : (f_B_writeByte (256 + s) v k M D).1 = 0 := by
  obtain ⟨n, hn, rfl⟩ := h
  have e : ((256 : Int32) + nI n) &&& 1023 = nI (256 + n) := by
    rw [show (256 : Int32) = nI 256 from rfl, nI_add]
    exact isA_and ⟨256 + n, by omega, rfl⟩
  have c1 : nI (256 + n) < (1008 : Int32) := nI_lt (b := 1008) (by omega) (by decide)
  have c2 : nI (256 + n) < (960 : Int32) := nI_lt (b := 960) (by omega) (by decide)
  unfold f_B_writeByte
  rw [e, if_pos c1]
  by_cases c : k 2 = 0
  · rw [if_pos c]
  · rw [if_neg c, if_pos c2]
theorem push_rel {v : Int32} (hR : RR r m) (hM : AllB M) (hD : AllB D) (hK : OkK k) (hv : isB v) (h : RK k u d 0 t) : (f_X_push v u M D m).2.1 = (f_P_push v r k M D).2.2.1 ∧ (f_X_push v u M D m).2.2.1 = (f_P_push v r k M D).2.2.2 ∧ RK (f_P_push v r k M D).2.1 (f_X_push v u M D m).1 d 0 t ∧ OkK (f_P_push v r k M D).2.1 ∧ AllB (f_P_push v r k M D).2.2.1 ∧ AllB (f_P_push v r k M D).2.2.2 ∧ RR (f_P_push v r k M D).1 (f_X_push v u M D m).2.2.2 ∧ (f_X_push v u M D m).1 7 = u 7 ∧ (f_P_push v r k M D).1 10 = r 10 := by
  have e3 : m 3 = r 3 := hR.1.2.2.2.1
  obtain ⟨a1, a2, a3, a4, a5, a6, a7, a8⟩ := write_rel (p := 256 + r 3) hK hM hD hv h
  rw [wb_stack hR.2.1.2.2.2.1] at a3
  unfold f_X_push f_X_push_k1 f_P_push
  rw [e3]
  exact ⟨a1, a2, a3, a4, a5, a6, rr_u3 hR (and_isB _), a8, rfl⟩
theorem pull_rel (hR : RR r m) (hM : AllB M) (hK : OkK k) {f : Int32} (h : RK k u d f t) : (f_X_pull u M m).1 = (f_P_pull r k M D).1 ∧ isB (f_P_pull r k M D).1 ∧ OkK (f_P_pull r k M D).2.2 ∧ RK (f_P_pull r k M D).2.2 (f_X_pull u M m).2.1 d f t ∧ RR (f_P_pull r k M D).2.1 (f_X_pull u M m).2.2 := by
  have e3 : m 3 = r 3 := hR.1.2.2.2.1
  unfold f_X_pull f_P_pull
  rw [e3]
  obtain ⟨a1, a2, a3, a4, -⟩ := read_rel (p := 256 + ((r 3 + 1) &&& 255)) (D := D) hK hM h
  exact ⟨a1, a2, a3, a4, rr_u3 hR (and_isB _)⟩
/-- where a branch leads -/
theorem br_in (hR : RR r m) {b : Int32} (e : b = r 9) : RR (if (128 : Int32) ≤ r 9 then upd r 11 (f_P_address (r 11 + (r 9 - 256))) else upd r 11 (f_P_address (r 11 + r 9))) (if (128 : Int32) ≤ b then upd m 4 ((m 4 + (b - 256)) &&& 1023) else upd m 4 ((m 4 + b) &&& 1023)) := by
  rw [e, hR.2.2.1]
  split
  · exact rr_u4 hR (and_isA _)
  · exact rr_u4 hR (and_isA _)
theorem br_rel {p : Int32} {F : (Nat → Int32) × (Nat → Int32)} (ho : OkF r) (hM : AllB M) (hD : AllB D) (h : FRel 2 r F ((0 : Int32), (f_X_one u M m).1, (f_X_one u M m).2) d 0 t) (hp : p = 0 ∨ p = 1 ∨ p = 2 ∨ p = 3 ∨ p = 4 ∨ p = 5 ∨ p = 6 ∨ p = 7) {p1 p2 p3 : Int32} : ER r d t (0, f_P_branch p F.1, F.2, M, D) (f_X_tests_k18 p1 p2 p3 u M D m (f_X_branch p u M m)) := by
  have hR := h.rr ho
  obtain ⟨h1, h2, h3, h4, h5, h6, h7, h8, h9⟩ := h
  obtain ⟨b1, b2⟩ := h9 (by decide)
  have e5 := hR.1.2.2.2.2.1
  have e6 := hR.1.2.2.2.2.2.1
  have e7 := hR.1.2.2.2.2.2.2.1
  have e8 := hR.1.2.2.2.2.2.2.2
  dsimp only at hR b1 e5 e6 e7 e8 h6
  have key : ∀ (j : Nat) (c : Int32), (f_X_one u M m).2 j = F.1 j → f_P_branch p F.1 = (if F.1 j = c then (if (128 : Int32) ≤ F.1 9 then upd F.1 11 (f_P_address (F.1 11 + (F.1 9 - 256))) else upd F.1 11 (f_P_address (F.1 11 + F.1 9))) else F.1) → f_X_branch p u M m = (if (f_X_one u M m).2 j = c then (if (128 : Int32) ≤ (f_X_one u M m).1 6 then ((f_X_one u M m).1, upd (f_X_one u M m).2 4 (((f_X_one u M m).2 4 + ((f_X_one u M m).1 6 - 256)) &&& 1023)) else ((f_X_one u M m).1, upd (f_X_one u M m).2 4 (((f_X_one u M m).2 4 + (f_X_one u M m).1 6) &&& 1023))) else ((f_X_one u M m).1, (f_X_one u M m).2)) → ER r d t (0, f_P_branch p F.1, F.2, M, D) (f_X_tests_k18 p1 p2 p3 u M D m (f_X_branch p u M m)) := by
    intro j c ej q1 q2
    have q3 := br_in hR b1
    rw [q1, q2, ej]
    unfold f_X_tests_k18
    by_cases c1 : F.1 j = c
    · rw [if_pos c1, if_pos c1]
      by_cases c2 : (128 : Int32) ≤ (f_X_one u M m).1 6
      · rw [if_pos c2] at q3 ⊢
        exact ER.plain hM hD h6 h7 q3
      · rw [if_neg c2] at q3 ⊢
        exact ER.plain hM hD h6 h7 q3
    · rw [if_neg c1, if_neg c1]
      exact ER.plain hM hD h6 h7 hR
  rcases hp with rfl | rfl | rfl | rfl | rfl | rfl | rfl | rfl
  · exact key 5 0 e5 rfl rfl
  · exact key 5 1 e5 rfl rfl
  · exact key 6 0 e6 rfl rfl
  · exact key 6 1 e6 rfl rfl
  · exact key 8 0 e8 rfl rfl
  · exact key 8 1 e8 rfl rfl
  · exact key 7 0 e7 rfl rfl
  · exact key 7 1 e7 rfl rfl
/-- jump -/
theorem jmp_rel {F : (Nat → Int32) × (Nat → Int32)} (ho : OkF r) (hM : AllB M) (hD : AllB D) (h : FRel 3 r F ((f_X_two u M m).1 7, (f_X_two u M m).1, (f_X_two u M m).2) d 0 t) {p1 p2 p3 v4 v5 : Int32} : ER r d t (0, upd F.1 11 (F.1 10), F.2, M, D) (f_X_tests_k12 p1 p2 p3 u M D m v4 v5 (f_X_two u M m)) := by
  have hR := h.rr ho
  obtain ⟨h1, h2, h3, h4, h5, h6, h7, h8, h9⟩ := h
  unfold f_X_tests_k12
  refine ER.plain hM hD h6 h7 ?_
  rw [h8 (by decide)]
  exact rr_u4 hR (and_isA _)
/-- jump through a word -/
theorem jmi_rel {F : (Nat → Int32) × (Nat → Int32)} (ho : OkF r) (hM : AllB M) (hD : AllB D) (h : FRel 3 r F ((f_X_two u M m).1 7, (f_X_two u M m).1, (f_X_two u M m).2) d 0 t) {p1 p2 p3 v4 v5 : Int32} : ER r d t (0, (f_P_jump 108 F.1 F.2 M D).1, (f_P_jump 108 F.1 F.2 M D).2.1, (f_P_jump 108 F.1 F.2 M D).2.2.1, (f_P_jump 108 F.1 F.2 M D).2.2.2) (f_X_tests_k13 p1 p2 p3 u M D m v4 v5 (f_X_two u M m)) := by
  have hR := h.rr ho
  obtain ⟨h1, h2, h3, h4, h5, h6, h7, h8, h9⟩ := h
  have h8 := h8 (by decide)
  dsimp only at hR h6 h8
  obtain ⟨a1, a2, a3, a4, a5, a6, a7⟩ := read_rel (p := (f_X_two u M m).1 7) (D := D) h7 hM h6
  obtain ⟨b1, b2, b3, b4, -⟩ := read_rel (p := (f_X_two u M m).1 7 + 1) (D := D) a3 hM a4
  unfold f_X_tests_k13 f_X_tests_k14 f_X_tests_k15
  rw [a6, a1, b1]
  have e : f_P_jump 108 F.1 F.2 M D = (upd F.1 11 (f_P_address ((f_B_readByte (F.1 10) F.2 M D).1 + 256 * (f_B_readByte (F.1 10 + 1) (f_B_readByte (F.1 10) F.2 M D).2 M D).1)), (f_B_readByte (F.1 10 + 1) (f_B_readByte (F.1 10) F.2 M D).2 M D).2, M, D) := rfl
  rw [e, h8, rb_and, rb_cong (and_add_1023 _ _)]
  exact ER.plain hM hD b4 b3 (rr_u4 hR (and_isA _))
theorem at_B (x : Int32) : isB (f_P_address x / 256) ∧ isB (f_P_address x - f_P_address x / 256 * 256) := by
  obtain ⟨n, hn, e⟩ := and_isA x
  unfold f_P_address
  rw [e, show (256 : Int32) = nI 256 from rfl, pk_rem (by omega) (by decide) (by decide), pk_div (by omega) (by decide) (by decide)]
  exact ⟨⟨_, by omega, rfl⟩, ⟨_, by omega, rfl⟩⟩
/-- call -/
theorem jsr_rel {F : (Nat → Int32) × (Nat → Int32)} (ho : OkF r) (hM : AllB M) (hD : AllB D) (h : FRel 3 r F ((f_X_two u M m).1 7, (f_X_two u M m).1, (f_X_two u M m).2) d 0 t) (ht : (f_X_two u M m).2 4 = (r 4 + 1 + 2) &&& 1023) {p1 : Int32} : ER r d t (0, (f_P_jump 32 F.1 F.2 M D).1, (f_P_jump 32 F.1 F.2 M D).2.1, (f_P_jump 32 F.1 F.2 M D).2.2.1, (f_P_jump 32 F.1 F.2 M D).2.2.2) (f_X_single_k15 p1 u M D m (f_X_two u M m)) := by
  have hR := h.rr ho
  obtain ⟨h1, h2, h3, h4, h5, h6, h7, h8, h9⟩ := h
  have h8 := h8 (by decide)
  dsimp only at hR h6 h8
  have ea : ((f_X_two u M m).2 4 - 1) &&& 1023 = f_P_address (F.1 4 + 2) := by
    rw [ht, h2, Int32.sub_eq_add_neg, and_add_1023, Int32.add_assoc, Int32.add_assoc]
    rfl
  obtain ⟨A, eA⟩ : ∃ A, A = f_P_address (F.1 4 + 2) := ⟨_, rfl⟩
  obtain ⟨q1, q2⟩ := at_B (F.1 4 + 2)
  rw [← eA] at ea q1 q2
  unfold f_X_single_k15 f_X_single_k16 f_X_single_k17
  rw [ea]
  have e : f_P_jump 32 F.1 F.2 M D = (upd (f_P_push (A - A / 256 * 256) (f_P_push (A / 256) F.1 F.2 M D).1 (f_P_push (A / 256) F.1 F.2 M D).2.1 (f_P_push (A / 256) F.1 F.2 M D).2.2.1 (f_P_push (A / 256) F.1 F.2 M D).2.2.2).1 11 ((f_P_push (A - A / 256 * 256) (f_P_push (A / 256) F.1 F.2 M D).1 (f_P_push (A / 256) F.1 F.2 M D).2.1 (f_P_push (A / 256) F.1 F.2 M D).2.2.1 (f_P_push (A / 256) F.1 F.2 M D).2.2.2).1 10), (f_P_push (A - A / 256 * 256) (f_P_push (A / 256) F.1 F.2 M D).1 (f_P_push (A / 256) F.1 F.2 M D).2.1 (f_P_push (A / 256) F.1 F.2 M D).2.2.1 (f_P_push (A / 256) F.1 F.2 M D).2.2.2).2.1, (f_P_push (A - A / 256 * 256) (f_P_push (A / 256) F.1 F.2 M D).1 (f_P_push (A / 256) F.1 F.2 M D).2.1 (f_P_push (A / 256) F.1 F.2 M D).2.2.1 (f_P_push (A / 256) F.1 F.2 M D).2.2.2).2.2.1, (f_P_push (A - A / 256 * 256) (f_P_push (A / 256) F.1 F.2 M D).1 (f_P_push (A / 256) F.1 F.2 M D).2.1 (f_P_push (A / 256) F.1 F.2 M D).2.2.1 (f_P_push (A / 256) F.1 F.2 M D).2.2.2).2.2.2) := by
    rw [eA]; rfl
  rw [e]
  obtain ⟨a1, a2, a3, a4, a5, a6, a7, a8, a9⟩ := push_rel hR hM hD h7 q1 h6
  obtain ⟨X1, eX1⟩ : ∃ X, X = f_X_push (A / 256) (f_X_two u M m).1 M D (f_X_two u M m).2 := ⟨_, rfl⟩
  obtain ⟨P1, eP1⟩ : ∃ X, X = f_P_push (A / 256) F.1 F.2 M D := ⟨_, rfl⟩
  rw [← eX1, ← eP1] at a1 a2 a3 a7
  rw [← eX1] at a8 ⊢
  rw [← eP1] at a4 a5 a6 a9 ⊢
  obtain ⟨b1, b2, b3, b4, b5, b6, b7, b8, b9⟩ := push_rel a7 a5 a6 a4 q2 a3
  rw [a1, a2]
  refine ⟨b1, b2, b3, b4, b5, b6, Or.inl ⟨rfl, ?_⟩⟩
  show RR (upd _ 11 _) (upd _ 4 _)
  rw [b9, a9, h8, b8, a8]
  exact rr_u4 b7 (and_isA _)
/-- come back -/
theorem rts_rel {F : Nat → Int32} (hM : AllB M) (hD : AllB D) (hR : RR F m) (hK : OkK k) (h : RK k u d 0 t) {p1 : Int32} : ER r d t (0, (f_P_comeBack F k M D).1, (f_P_comeBack F k M D).2, M, D) (f_X_single_k13 p1 u M D m (f_X_pull u M m)) := by
  obtain ⟨a1, a2, a3, a4, a5⟩ := pull_rel (D := D) hR hM hK h
  obtain ⟨b1, b2, b3, b4, b5⟩ := pull_rel (D := D) a5 hM a3 a4
  unfold f_X_single_k13 f_X_single_k14 f_P_comeBack
  rw [a1, b1]
  exact ER.plain hM hD b4 b3 (rr_u4 b5 (and_isA _))
end
