/-! THE INSTRUCTIONS, ON BOTH SIDES -/
/-- a fault's number -/
def flt (x : Int32) : Prop := x = 1 ∨ x = 2 ∨ x = 3 ∨ x = 4
theorem flt_23 {x : Int32} (h : x = 2 ∨ x = 3) : flt x := h.elim (fun q => Or.inr (Or.inl q)) (fun q => Or.inr (Or.inr (Or.inl q)))
/-- what an instruction's work leaves: the same board and memory; without a fault the same registers, with one the class's as they were -/
def ER (r : Nat → Int32) (d t : Int32) (z : Int32 × (Nat → Int32) × (Nat → Int32) × (Nat → Int32) × (Nat → Int32)) (w : (Nat → Int32) × (Nat → Int32) × (Nat → Int32) × (Nat → Int32)) : Prop := w.2.1 = z.2.2.2.1 ∧ w.2.2.1 = z.2.2.2.2 ∧ RK z.2.2.1 w.1 d z.1 t ∧ OkK z.2.2.1 ∧ AllB z.2.2.2.1 ∧ AllB z.2.2.2.2 ∧ ((z.1 = 0 ∧ RR z.2.1 w.2.2.2) ∨ (flt z.1 ∧ EqF r z.2.1 ∧ z.2.1 4 = r 4))
section
variable {r k u M D m : Nat → Int32} {d t : Int32}
theorem ER.plain {r' k' u' m' : Nat → Int32} (hM : AllB M) (hD : AllB D) (h : RK k' u' d 0 t) (hK : OkK k') (hR : RR r' m') : ER r d t (0, r', k', M, D) (u', M, D, m') := ⟨rfl, rfl, h, hK, hM, hD, Or.inl ⟨rfl, hR⟩⟩
theorem ER.write {r' k' u' m' : Nat → Int32} {p v : Int32} (hM : AllB M) (hD : AllB D) (h : RK k' u' d 0 t) (hK : OkK k') (hv : isB v) (hR : RR r' m') (he : EqF r r') (h4 : r' 4 = r 4) : ER r d t ((f_B_writeByte p v k' M D).1, r', (f_B_writeByte p v k' M D).2.1, (f_B_writeByte p v k' M D).2.2.1, (f_B_writeByte p v k' M D).2.2.2) ((f_X_write p v u' M D).1, (f_X_write p v u' M D).2.1, (f_X_write p v u' M D).2.2, m') := by
  obtain ⟨a1, a2, a3, a4, a5, a6, a7, -⟩ := write_rel (p := p) hK hM hD hv h
  exact ⟨a1, a2, a3, a4, a5, a6, a7.imp (fun q => ⟨q, hR⟩) (fun q => ⟨flt_23 q, he, h4⟩)⟩
/-- which modes are which -/
def MM (cm xm : Int32) : Prop := (cm = 2 ∧ xm = 0) ∨ (cm = 9 ∧ xm = 9) ∨ (¬ cm = 2 ∧ ¬ cm = 9 ∧ ¬ xm = 0 ∧ ¬ xm = 9)
theorem opr_rel {cm xm f : Int32} {F : (Nat → Int32) × (Nat → Int32)} {z : Int32 × (Nat → Int32) × (Nat → Int32)} (ho : OkF r) (hM : AllB M) (hm : MM cm xm) (h : FRel cm r F z d f t) : (f_X_operand xm z.1 z.2.1 M z.2.2).1 = (f_P_operand cm F.1 F.2 M D).1 ∧ isB (f_P_operand cm F.1 F.2 M D).1 ∧ OkK (f_P_operand cm F.1 F.2 M D).2 ∧ RK (f_P_operand cm F.1 F.2 M D).2 (f_X_operand xm z.1 z.2.1 M z.2.2).2 d f t := by
  have hR := h.rr ho
  obtain ⟨h1, h2, h3, h4, h5, h6, h7, h8, h9⟩ := h
  unfold f_X_operand f_P_operand
  rcases hm with ⟨rfl, rfl⟩ | ⟨rfl, rfl⟩ | ⟨c1, c2, c3, c4⟩
  · obtain ⟨a, b⟩ := h9 (by decide)
    exact ⟨a, b, h7, h6⟩
  · exact ⟨hR.1.1, hR.2.1.1, h7, h6⟩
  · rw [if_neg c1, if_neg c2, if_neg c3, if_neg c4]
    obtain ⟨a1, a2, a3, a4, -⟩ := read_rel (p := z.1) (D := D) h7 hM h6
    rw [h8 c1, rb_and]
    exact ⟨a1, a2, a3, a4⟩
/-- G 1 -/
theorem g1_rel {p cm xm : Int32} {F : (Nat → Int32) × (Nat → Int32)} {z : Int32 × (Nat → Int32) × (Nat → Int32)} {p2 : Int32} (ho : OkF r) (hM : AllB M) (hD : AllB D) (hm : MM cm xm) (hx : f_X_mode1 p2 = xm) (h : FRel cm r F z d 0 t) (hp : p = 0 ∨ p = 1 ∨ p = 2 ∨ p = 3 ∨ p = 5 ∨ p = 6 ∨ p = 7) : ER r d t (f_P_executeG1 p cm F.1 F.2 M D) (f_X_sums_k1 p p2 u M D m z) := by
  have hR := h.rr ho
  obtain ⟨a1, a2, a3, a4⟩ := opr_rel (D := D) ho hM hm h
  unfold f_X_sums_k1
  rw [hx]
  obtain ⟨Q, eQ⟩ : ∃ Q, Q = f_P_operand cm F.1 F.2 M D := ⟨_, rfl⟩
  obtain ⟨q, q'⟩ := Q
  obtain ⟨X, eX⟩ : ∃ X, X = f_X_operand xm z.1 z.2.1 M z.2.2 := ⟨_, rfl⟩
  obtain ⟨x, x'⟩ := X
  rw [← eQ, ← eX] at a1 a4
  rw [← eQ] at a2 a3
  unfold f_P_executeG1
  rw [← eQ, ← eX]
  dsimp only at a1 a2 a3 a4 ⊢
  subst a1
  have hB := hR.2.1.1
  have e0 := hR.1.1
  rcases hp with rfl | rfl | rfl | rfl | rfl | rfl | rfl
  · refine ER.plain hM hD a4 a3 (put_rel0 hR ?_)
    rw [e0]; exact isB_and (isB_or hB a2)
  · refine ER.plain hM hD a4 a3 (put_rel0 hR ?_)
    rw [e0]; exact isB_and (isB_and2 hB a2)
  · refine ER.plain hM hD a4 a3 (put_rel0 hR ?_)
    rw [e0]; exact isB_and (isB_xor hB a2)
  · exact ER.plain hM hD a4 a3 (add_rel hR a2)
  · exact ER.plain hM hD a4 a3 (put_rel0 hR (isB_and a2))
  · refine ER.plain hM hD a4 a3 ?_
    rw [e0]
    exact cmp_rel hR
  · exact ER.plain hM hD a4 a3 (add_rel hR (inv255 a2))
/-- .. the store -/
theorem g1_st {cm p2 : Int32} {F : (Nat → Int32) × (Nat → Int32)} {z : Int32 × (Nat → Int32) × (Nat → Int32)} (ho : OkF r) (hM : AllB M) (hD : AllB D) (hc : ¬ cm = 2) (h : FRel cm r F z d 0 t) : ER r d t (f_P_executeG1 4 cm F.1 F.2 M D) (f_X_sums_k10 4 p2 u M D m z) := by
  have hR := h.rr ho
  obtain ⟨h1, h2, h3, h4, h5, h6, h7, h8, h9⟩ := h
  unfold f_X_sums_k10 f_X_sums_k11
  rw [hR.1.1]
  show ER r d t ((f_B_writeByte (F.1 10) (F.1 0) F.2 M D).1, F.1, (f_B_writeByte (F.1 10) (F.1 0) F.2 M D).2.1, (f_B_writeByte (F.1 10) (F.1 0) F.2 M D).2.2.1, (f_B_writeByte (F.1 10) (F.1 0) F.2 M D).2.2.2) _
  rw [h8 hc, wb_and1]
  exact ER.write hM hD h6 h7 hR.2.1.1 hR h1 h2
/-- a change in memory -/
theorem chg_rel {p cm xm : Int32} {F : (Nat → Int32) × (Nat → Int32)} {z : Int32 × (Nat → Int32) × (Nat → Int32)} (ho : OkF r) (hM : AllB M) (hD : AllB D) (hc : ¬ cm = 2 ∧ ¬ cm = 9 ∧ ¬ xm = 0 ∧ ¬ xm = 9) (h : FRel cm r F z d 0 t) (hp : p = 0 ∨ p = 1 ∨ p = 2 ∨ p = 3 ∨ p = 6 ∨ p = 7) {w : (Nat → Int32) × (Nat → Int32) × (Nat → Int32) × (Nat → Int32)}
    (hw : w = ((f_X_write z.1 (f_X_shifted p (f_X_operand xm z.1 z.2.1 M z.2.2).1 (f_X_operand xm z.1 z.2.1 M z.2.2).2 z.2.2).1 (f_X_operand xm z.1 z.2.1 M z.2.2).2 M D).1, (f_X_write z.1 (f_X_shifted p (f_X_operand xm z.1 z.2.1 M z.2.2).1 (f_X_operand xm z.1 z.2.1 M z.2.2).2 z.2.2).1 (f_X_operand xm z.1 z.2.1 M z.2.2).2 M D).2.1, (f_X_write z.1 (f_X_shifted p (f_X_operand xm z.1 z.2.1 M z.2.2).1 (f_X_operand xm z.1 z.2.1 M z.2.2).2 z.2.2).1 (f_X_operand xm z.1 z.2.1 M z.2.2).2 M D).2.2, f_X_set (f_X_shifted p (f_X_operand xm z.1 z.2.1 M z.2.2).1 (f_X_operand xm z.1 z.2.1 M z.2.2).2 z.2.2).1 (f_X_write z.1 (f_X_shifted p (f_X_operand xm z.1 z.2.1 M z.2.2).1 (f_X_operand xm z.1 z.2.1 M z.2.2).2 z.2.2).1 (f_X_operand xm z.1 z.2.1 M z.2.2).2 M D).1 (f_X_shifted p (f_X_operand xm z.1 z.2.1 M z.2.2).1 (f_X_operand xm z.1 z.2.1 M z.2.2).2 z.2.2).2)) :
    ER r d t (f_P_change p cm F.1 F.2 M D) w := by
  have hR := h.rr ho
  obtain ⟨a1, a2, a3, a4⟩ := opr_rel (D := D) ho hM (Or.inr (Or.inr hc)) h
  obtain ⟨h1, h2, h3, h4, h5, h6, h7, h8, h9⟩ := h
  subst hw
  obtain ⟨Q, eQ⟩ : ∃ Q, Q = f_P_operand cm F.1 F.2 M D := ⟨_, rfl⟩
  obtain ⟨q, q'⟩ := Q
  obtain ⟨X, eX⟩ : ∃ X, X = f_X_operand xm z.1 z.2.1 M z.2.2 := ⟨_, rfl⟩
  obtain ⟨x, x'⟩ := X
  rw [← eQ, ← eX] at a1 a4
  rw [← eQ] at a2 a3
  unfold f_P_change
  rw [← eQ, ← eX, if_neg hc.2.1]
  dsimp only at a1 a2 a3 a4 ⊢
  subst a1
  obtain ⟨b1, b2, b3⟩ := shf_rel (u := x') hR a2 hp
  rw [b1, b3, h8 hc.1, wb_and1]
  obtain ⟨V, eV⟩ : ∃ V, V = f_P_changed p x F.1 := ⟨_, rfl⟩
  rw [← eV] at b2 ⊢
  obtain ⟨c1, c2, c3, c4, c5, c6, c7, -⟩ := write_rel (p := z.1) a3 hM hD b2 a4
  by_cases hz : (f_B_writeByte z.1 V q' M D).1 = 0
  · rw [if_pos hz]
    rw [hz] at c3
    by_cases g1 : (1 : Int32) < p
    · rw [if_pos g1, if_pos g1]
      by_cases g3 : (3 : Int32) < p
      · rw [if_pos g3, if_pos g3]
        exact ⟨c1, c2, c3, c4, c5, c6, Or.inl ⟨rfl, (set_rel (u := (f_X_write z.1 V x' M D).1) hR b2).1⟩⟩
      · rw [if_neg g3, if_neg g3]
        exact ⟨c1, c2, c3, c4, c5, c6, Or.inl ⟨rfl, (set_rel (u := (f_X_write z.1 V x' M D).1) (rr_u8 hR (is01_and _)) b2).1⟩⟩
    · rw [if_neg g1, if_neg g1]
      exact ⟨c1, c2, c3, c4, c5, c6, Or.inl ⟨rfl, (set_rel (u := (f_X_write z.1 V x' M D).1) (rr_u8 hR (shr7 a2)) b2).1⟩⟩
  · rw [if_neg hz]
    exact ⟨c1, c2, c3, c4, c5, c6, Or.inr ⟨flt_23 (c7.resolve_left hz), h1, h2⟩⟩
theorem upd_08 {f : Nat → Int32} {x y : Int32} : upd (upd f 8 y) 0 x = upd (upd f 0 x) 8 y := by
  funext j
  unfold upd
  by_cases h0 : j = 0
  · subst h0; rfl
  · rw [if_neg h0]
    by_cases h8 : j = 8
    · rw [if_pos h8, if_pos h8]
    · rw [if_neg h8, if_neg h8, if_neg h0]
/-- a change of a -/
theorem self_rel {p : Int32} {F : (Nat → Int32) × (Nat → Int32)} {z : Int32 × (Nat → Int32) × (Nat → Int32)} (ho : OkF r) (hM : AllB M) (hD : AllB D) (h : FRel 9 r F z d 0 t) (hp : p = 0 ∨ p = 1 ∨ p = 2 ∨ p = 3 ∨ p = 6 ∨ p = 7) {p2 : Int32} : ER r d t (f_P_change p 9 F.1 F.2 M D) (f_X_changes_k21 p p2 u M D m z) := by
  have hR := h.rr ho
  obtain ⟨a1, a2, a3, a4⟩ := opr_rel (D := D) ho hM (Or.inr (Or.inl ⟨rfl, rfl⟩)) h
  unfold f_X_changes_k21 f_X_changes_k22 f_X_changes_k23 f_X_changes_k24
  obtain ⟨Q, eQ⟩ : ∃ Q, Q = f_P_operand 9 F.1 F.2 M D := ⟨_, rfl⟩
  obtain ⟨q, q'⟩ := Q
  obtain ⟨X, eX⟩ : ∃ X, X = f_X_operand 9 z.1 z.2.1 M z.2.2 := ⟨_, rfl⟩
  obtain ⟨x, x'⟩ := X
  rw [← eQ, ← eX] at a1 a4
  rw [← eQ] at a2 a3
  unfold f_P_change
  rw [← eQ, ← eX, if_pos rfl]
  dsimp only at a1 a2 a3 a4 ⊢
  subst a1
  obtain ⟨b1, b2, b3⟩ := shf_rel (u := x') hR a2 hp
  rw [b1, b3]
  obtain ⟨V, eV⟩ : ∃ V, V = f_P_changed p x F.1 := ⟨_, rfl⟩
  rw [← eV] at b2 ⊢
  by_cases g1 : (1 : Int32) < p
  · rw [if_pos g1, if_pos g1]
    by_cases g3 : (3 : Int32) < p
    · rw [if_pos g3, if_pos g3]
      exact ER.plain hM hD a4 a3 (set_rel (u := x') (rr_u0 hR b2) b2).1
    · rw [if_neg g3, if_neg g3, upd_08]
      exact ER.plain hM hD a4 a3 (set_rel (u := x') (rr_u8 (rr_u0 hR b2) (is01_and _)) b2).1
  · rw [if_neg g1, if_neg g1, upd_08]
    exact ER.plain hM hD a4 a3 (set_rel (u := x') (rr_u8 (rr_u0 hR b2) (shr7 a2)) b2).1
end
