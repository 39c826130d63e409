/-- the class's work behind the read of a code, and the reference's -/
def pz (c : Int32) (r k M D : Nat → Int32) : Int32 × (Nat → Int32) × (Nat → Int32) × (Nat → Int32) × (Nat → Int32) := if c = 0 then (1, r, k, M, D) else if f_P_modeOf c = 11 then (4, r, k, M, D) else if c - c / 4 * 4 = 1 then f_P_executeG1 (c / 32) (f_P_modeOf c) (f_P_fetch (f_P_modeOf c) r k M D).1 (f_P_fetch (f_P_modeOf c) r k M D).2 M D else if c - c / 4 * 4 = 2 then f_P_executeG2 (c / 32) (f_P_modeOf c) (f_P_fetch (f_P_modeOf c) r k M D).1 (f_P_fetch (f_P_modeOf c) r k M D).2 M D else f_P_executeG0 c (f_P_modeOf c) (f_P_fetch (f_P_modeOf c) r k M D).1 (f_P_fetch (f_P_modeOf c) r k M D).2 M D
def px (c : Int32) (u M D m : Nat → Int32) : (Nat → Int32) × (Nat → Int32) × (Nat → Int32) × (Nat → Int32) := if c - c / 4 * 4 = 1 then f_X_sums (c / 32) (c / 4 - c / 4 / 8 * 8) u M D m else if c - c / 4 * 4 = 2 then (if c / 32 = 4 then f_X_moves (c / 32) (c / 4 - c / 4 / 8 * 8) u M D m else if c / 32 = 5 then f_X_moves (c / 32) (c / 4 - c / 4 / 8 * 8) u M D m else f_X_changes (c / 32) (c / 4 - c / 4 / 8 * 8) u M D m) else if c - c / 4 * 4 = 0 then f_X_tests (c / 32) (c / 4 - c / 4 / 8 * 8) c u M D m else (upd u 4 4, M, D, m)
theorem rr_SELF {r k M D m : Nat → Int32} (he : EqF r m) (ho : OkF r) (hm : m 4 = (r 4 + 1) &&& 1023) : RR (f_P_fetch 9 r k M D).1 m := by
  refine ⟨he, ho, ?_, and_isA _⟩
  show m 4 = (r 4 + 1 + 0) &&& 1023
  rw [hm, Int32.add_zero]
def CR (c : Int32) : Prop := ∀ (r k u M D m : Nat → Int32) (d t : Int32), OkF r → EqF r m → m 4 = (r 4 + 1) &&& 1023 → OkK k → AllB M → AllB D → RK k u d 0 t → ER r d t (pz c r k M D) (px c u M D m)
theorem cr_0 : CR 0 := by
  intro r k u M D m d t ho he hm hK hM hD h
  have e1 : pz 0 r k M D = (1, r, k, M, D) := by
    unfold pz; rw [if_pos rfl]
  have e2 : px 0 u M D m = f_X_tests 0 0 0 u M D m := by
    unfold px; rw [if_neg (by decide), if_neg (by decide), if_pos (by decide), show (0 : Int32) / 32 = 0 from by decide, show (0 : Int32) / 4 - 0 / 4 / 8 * 8 = 0 from by decide]
  rw [e1, e2]
  show ER r d t ((1, r, k, M, D)) ((upd u 4 1, M, D, m))
  exact er_ill hM hD hK h (Or.inl rfl)
theorem cr_1 : CR 1 := by
  intro r k u M D m d t ho he hm hK hM hD h
  have e1 : pz 1 r k M D = f_P_executeG1 0 0 (f_P_fetch 0 r k M D).1 (f_P_fetch 0 r k M D).2 M D := by
    unfold pz; rw [if_neg (by decide), if_neg (by decide), if_pos (by decide), show (1 : Int32) / 32 = 0 from by decide, show f_P_modeOf 1 = 0 from by decide]
  have e2 : px 1 u M D m = f_X_sums_k1 0 0 u M D m (f_X_address 7 u M m) := by
    unfold px; rw [if_pos (by decide), show (1 : Int32) / 32 = 0 from by decide, show (1 : Int32) / 4 - 1 / 4 / 8 * 8 = 0 from by decide]; unfold f_X_sums; rw [if_neg (by decide), show f_X_mode1 0 = 7 from by decide]
  rw [e1, e2]
  show ER r d t (f_P_executeG1 0 0 (f_P_fetch 0 r k M D).1 (f_P_fetch 0 r k M D).2 M D) (f_X_sums_k1 0 0 u M D m (f_X_address 7 u M m))
  exact g1_rel (xm := 7) ho hM hD (Or.inr (Or.inr ⟨by decide, by decide, by decide, by decide⟩)) (by decide) (fr_INX he hK hM h hm) (Or.inl rfl)
theorem cr_2 : CR 2 := by
  intro r k u M D m d t ho he hm hK hM hD h
  have e1 : pz 2 r k M D = (4, r, k, M, D) := by
    unfold pz; rw [if_neg (by decide), if_pos (by decide)]
  have e2 : px 2 u M D m = f_X_changes 0 0 u M D m := by
    unfold px; rw [if_neg (by decide), if_pos (by decide), if_neg (by decide), if_neg (by decide), show (2 : Int32) / 32 = 0 from by decide, show (2 : Int32) / 4 - 2 / 4 / 8 * 8 = 0 from by decide]
  rw [e1, e2]
  show ER r d t ((4, r, k, M, D)) ((upd u 4 4, M, D, m))
  exact er_ill hM hD hK h (Or.inr (Or.inr (Or.inr rfl)))
theorem cr_3 : CR 3 := by
  intro r k u M D m d t ho he hm hK hM hD h
  have e1 : pz 3 r k M D = (4, r, k, M, D) := by
    unfold pz; rw [if_neg (by decide), if_pos (by decide)]
  have e2 : px 3 u M D m = (upd u 4 4, M, D, m) := by
    unfold px; rw [if_neg (by decide), if_neg (by decide), if_neg (by decide)]
  rw [e1, e2]
  show ER r d t ((4, r, k, M, D)) ((upd u 4 4, M, D, m))
  exact er_ill hM hD hK h (Or.inr (Or.inr (Or.inr rfl)))
theorem cr_4 : CR 4 := by
  intro r k u M D m d t ho he hm hK hM hD h
  have e1 : pz 4 r k M D = (4, r, k, M, D) := by
    unfold pz; rw [if_neg (by decide), if_pos (by decide)]
  have e2 : px 4 u M D m = f_X_tests 0 1 4 u M D m := by
    unfold px; rw [if_neg (by decide), if_neg (by decide), if_pos (by decide), show (4 : Int32) / 32 = 0 from by decide, show (4 : Int32) / 4 - 4 / 4 / 8 * 8 = 1 from by decide]
  rw [e1, e2]
  show ER r d t ((4, r, k, M, D)) ((upd u 4 4, M, D, m))
  exact er_ill hM hD hK h (Or.inr (Or.inr (Or.inr rfl)))
theorem cr_5 : CR 5 := by
  intro r k u M D m d t ho he hm hK hM hD h
  have e1 : pz 5 r k M D = f_P_executeG1 0 1 (f_P_fetch 1 r k M D).1 (f_P_fetch 1 r k M D).2 M D := by
    unfold pz; rw [if_neg (by decide), if_neg (by decide), if_pos (by decide), show (5 : Int32) / 32 = 0 from by decide, show f_P_modeOf 5 = 1 from by decide]
  have e2 : px 5 u M D m = f_X_sums_k1 0 1 u M D m (f_X_address 1 u M m) := by
    unfold px; rw [if_pos (by decide), show (5 : Int32) / 32 = 0 from by decide, show (5 : Int32) / 4 - 5 / 4 / 8 * 8 = 1 from by decide]; unfold f_X_sums; rw [if_neg (by decide), show f_X_mode1 1 = 1 from by decide]
  rw [e1, e2]
  show ER r d t (f_P_executeG1 0 1 (f_P_fetch 1 r k M D).1 (f_P_fetch 1 r k M D).2 M D) (f_X_sums_k1 0 1 u M D m (f_X_address 1 u M m))
  exact g1_rel (xm := 1) ho hM hD (Or.inr (Or.inr ⟨by decide, by decide, by decide, by decide⟩)) (by decide) (fr_ZERO he hK hM h hm) (Or.inl rfl)
theorem cr_6 : CR 6 := by
  intro r k u M D m d t ho he hm hK hM hD h
  have e1 : pz 6 r k M D = f_P_executeG2 0 1 (f_P_fetch 1 r k M D).1 (f_P_fetch 1 r k M D).2 M D := by
    unfold pz; rw [if_neg (by decide), if_neg (by decide), if_neg (by decide), if_pos (by decide), show (6 : Int32) / 32 = 0 from by decide, show f_P_modeOf 6 = 1 from by decide]
  have e2 : px 6 u M D m = f_X_changes 0 1 u M D m := by
    unfold px; rw [if_neg (by decide), if_pos (by decide), if_neg (by decide), if_neg (by decide), show (6 : Int32) / 32 = 0 from by decide, show (6 : Int32) / 4 - 6 / 4 / 8 * 8 = 1 from by decide]
  rw [e1, e2]
  show ER r d t (f_P_change 0 1 (f_P_fetch 1 r k M D).1 (f_P_fetch 1 r k M D).2 M D) (f_X_changes_k16 0 1 u M D m (f_X_address 1 u M m))
  exact chg_rel ho hM hD (xm := 1) ⟨by decide, by decide, by decide, by decide⟩ (fr_ZERO he hK hM h hm) (Or.inl rfl) rfl
theorem cr_7 : CR 7 := by
  intro r k u M D m d t ho he hm hK hM hD h
  have e1 : pz 7 r k M D = (4, r, k, M, D) := by
    unfold pz; rw [if_neg (by decide), if_pos (by decide)]
  have e2 : px 7 u M D m = (upd u 4 4, M, D, m) := by
    unfold px; rw [if_neg (by decide), if_neg (by decide), if_neg (by decide)]
  rw [e1, e2]
  show ER r d t ((4, r, k, M, D)) ((upd u 4 4, M, D, m))
  exact er_ill hM hD hK h (Or.inr (Or.inr (Or.inr rfl)))
theorem cr_8 : CR 8 := by
  intro r k u M D m d t ho he hm hK hM hD h
  have e1 : pz 8 r k M D = f_P_executeG0 8 10 (f_P_fetch 10 r k M D).1 (f_P_fetch 10 r k M D).2 M D := by
    unfold pz; rw [if_neg (by decide), if_neg (by decide), if_neg (by decide), if_neg (by decide), show f_P_modeOf 8 = 10 from by decide]
  have e2 : px 8 u M D m = f_X_tests 0 2 8 u M D m := by
    unfold px; rw [if_neg (by decide), if_neg (by decide), if_pos (by decide), show (8 : Int32) / 32 = 0 from by decide, show (8 : Int32) / 4 - 8 / 4 / 8 * 8 = 2 from by decide]
  rw [e1, e2]
  show ER r d t ((0, (f_P_push (f_P_flags (f_P_fetch 10 r k M D).1) (f_P_fetch 10 r k M D).1 (f_P_fetch 10 r k M D).2 M D).1, (f_P_push (f_P_flags (f_P_fetch 10 r k M D).1) (f_P_fetch 10 r k M D).1 (f_P_fetch 10 r k M D).2 M D).2.1, (f_P_push (f_P_flags (f_P_fetch 10 r k M D).1) (f_P_fetch 10 r k M D).1 (f_P_fetch 10 r k M D).2 M D).2.2.1, (f_P_push (f_P_flags (f_P_fetch 10 r k M D).1) (f_P_fetch 10 r k M D).1 (f_P_fetch 10 r k M D).2 M D).2.2.2)) (((f_X_push (f_X_status u m) u M D m).1, (f_X_push (f_X_status u m) u M D m).2.1, (f_X_push (f_X_status u m) u M D m).2.2.1, (f_X_push (f_X_status u m) u M D m).2.2.2))
  exact by
    rw [(st_rel (u := u) (rr_ALONE he ho hm).1).1]
    obtain ⟨a1, a2, a3, a4, a5, a6, a7, -⟩ := push_rel (k := (f_P_fetch 10 r k M D).2) (rr_ALONE he ho hm).1 hM hD hK (st_rel (u := u) (rr_ALONE he ho hm).1).2 h
    exact ⟨a1, a2, a3, a4, a5, a6, Or.inl ⟨rfl, a7⟩⟩
theorem cr_9 : CR 9 := by
  intro r k u M D m d t ho he hm hK hM hD h
  have e1 : pz 9 r k M D = f_P_executeG1 0 2 (f_P_fetch 2 r k M D).1 (f_P_fetch 2 r k M D).2 M D := by
    unfold pz; rw [if_neg (by decide), if_neg (by decide), if_pos (by decide), show (9 : Int32) / 32 = 0 from by decide, show f_P_modeOf 9 = 2 from by decide]
  have e2 : px 9 u M D m = f_X_sums_k1 0 2 u M D m (f_X_address 0 u M m) := by
    unfold px; rw [if_pos (by decide), show (9 : Int32) / 32 = 0 from by decide, show (9 : Int32) / 4 - 9 / 4 / 8 * 8 = 2 from by decide]; unfold f_X_sums; rw [if_neg (by decide), show f_X_mode1 2 = 0 from by decide]
  rw [e1, e2]
  show ER r d t (f_P_executeG1 0 2 (f_P_fetch 2 r k M D).1 (f_P_fetch 2 r k M D).2 M D) (f_X_sums_k1 0 2 u M D m (f_X_address 0 u M m))
  exact g1_rel (xm := 0) ho hM hD (Or.inl ⟨rfl, rfl⟩) (by decide) (fr_NEXT he hK hM h hm) (Or.inl rfl)
theorem cr_10 : CR 10 := by
  intro r k u M D m d t ho he hm hK hM hD h
  have e1 : pz 10 r k M D = f_P_executeG2 0 9 (f_P_fetch 9 r k M D).1 (f_P_fetch 9 r k M D).2 M D := by
    unfold pz; rw [if_neg (by decide), if_neg (by decide), if_neg (by decide), if_pos (by decide), show (10 : Int32) / 32 = 0 from by decide, show f_P_modeOf 10 = 9 from by decide]
  have e2 : px 10 u M D m = f_X_changes 0 2 u M D m := by
    unfold px; rw [if_neg (by decide), if_pos (by decide), if_neg (by decide), if_neg (by decide), show (10 : Int32) / 32 = 0 from by decide, show (10 : Int32) / 4 - 10 / 4 / 8 * 8 = 2 from by decide]
  rw [e1, e2]
  show ER r d t (f_P_change 0 9 (f_P_fetch 9 r k M D).1 (f_P_fetch 9 r k M D).2 M D) (f_X_changes_k21 0 2 u M D m (f_X_address 9 u M m))
  exact self_rel ho hM hD (fr_SELF he hK h hm) (Or.inl rfl)
theorem cr_11 : CR 11 := by
  intro r k u M D m d t ho he hm hK hM hD h
  have e1 : pz 11 r k M D = (4, r, k, M, D) := by
    unfold pz; rw [if_neg (by decide), if_pos (by decide)]
  have e2 : px 11 u M D m = (upd u 4 4, M, D, m) := by
    unfold px; rw [if_neg (by decide), if_neg (by decide), if_neg (by decide)]
  rw [e1, e2]
  show ER r d t ((4, r, k, M, D)) ((upd u 4 4, M, D, m))
  exact er_ill hM hD hK h (Or.inr (Or.inr (Or.inr rfl)))
theorem cr_12 : CR 12 := by
  intro r k u M D m d t ho he hm hK hM hD h
  have e1 : pz 12 r k M D = (4, r, k, M, D) := by
    unfold pz; rw [if_neg (by decide), if_pos (by decide)]
  have e2 : px 12 u M D m = f_X_tests 0 3 12 u M D m := by
    unfold px; rw [if_neg (by decide), if_neg (by decide), if_pos (by decide), show (12 : Int32) / 32 = 0 from by decide, show (12 : Int32) / 4 - 12 / 4 / 8 * 8 = 3 from by decide]
  rw [e1, e2]
  show ER r d t ((4, r, k, M, D)) ((upd u 4 4, M, D, m))
  exact er_ill hM hD hK h (Or.inr (Or.inr (Or.inr rfl)))
theorem cr_13 : CR 13 := by
  intro r k u M D m d t ho he hm hK hM hD h
  have e1 : pz 13 r k M D = f_P_executeG1 0 3 (f_P_fetch 3 r k M D).1 (f_P_fetch 3 r k M D).2 M D := by
    unfold pz; rw [if_neg (by decide), if_neg (by decide), if_pos (by decide), show (13 : Int32) / 32 = 0 from by decide, show f_P_modeOf 13 = 3 from by decide]
  have e2 : px 13 u M D m = f_X_sums_k1 0 3 u M D m (f_X_address 4 u M m) := by
    unfold px; rw [if_pos (by decide), show (13 : Int32) / 32 = 0 from by decide, show (13 : Int32) / 4 - 13 / 4 / 8 * 8 = 3 from by decide]; unfold f_X_sums; rw [if_neg (by decide), show f_X_mode1 3 = 4 from by decide]
  rw [e1, e2]
  show ER r d t (f_P_executeG1 0 3 (f_P_fetch 3 r k M D).1 (f_P_fetch 3 r k M D).2 M D) (f_X_sums_k1 0 3 u M D m (f_X_address 4 u M m))
  exact g1_rel (xm := 4) ho hM hD (Or.inr (Or.inr ⟨by decide, by decide, by decide, by decide⟩)) (by decide) (fr_WIDE he hK hM h hm) (Or.inl rfl)
theorem cr_14 : CR 14 := by
  intro r k u M D m d t ho he hm hK hM hD h
  have e1 : pz 14 r k M D = f_P_executeG2 0 3 (f_P_fetch 3 r k M D).1 (f_P_fetch 3 r k M D).2 M D := by
    unfold pz; rw [if_neg (by decide), if_neg (by decide), if_neg (by decide), if_pos (by decide), show (14 : Int32) / 32 = 0 from by decide, show f_P_modeOf 14 = 3 from by decide]
  have e2 : px 14 u M D m = f_X_changes 0 3 u M D m := by
    unfold px; rw [if_neg (by decide), if_pos (by decide), if_neg (by decide), if_neg (by decide), show (14 : Int32) / 32 = 0 from by decide, show (14 : Int32) / 4 - 14 / 4 / 8 * 8 = 3 from by decide]
  rw [e1, e2]
  show ER r d t (f_P_change 0 3 (f_P_fetch 3 r k M D).1 (f_P_fetch 3 r k M D).2 M D) (f_X_changes_k11 0 3 u M D m (f_X_address 4 u M m))
  exact chg_rel ho hM hD (xm := 4) ⟨by decide, by decide, by decide, by decide⟩ (fr_WIDE he hK hM h hm) (Or.inl rfl) rfl
theorem cr_15 : CR 15 := by
  intro r k u M D m d t ho he hm hK hM hD h
  have e1 : pz 15 r k M D = (4, r, k, M, D) := by
    unfold pz; rw [if_neg (by decide), if_pos (by decide)]
  have e2 : px 15 u M D m = (upd u 4 4, M, D, m) := by
    unfold px; rw [if_neg (by decide), if_neg (by decide), if_neg (by decide)]
  rw [e1, e2]
  show ER r d t ((4, r, k, M, D)) ((upd u 4 4, M, D, m))
  exact er_ill hM hD hK h (Or.inr (Or.inr (Or.inr rfl)))
theorem cr_16 : CR 16 := by
  intro r k u M D m d t ho he hm hK hM hD h
  have e1 : pz 16 r k M D = f_P_executeG0 16 2 (f_P_fetch 2 r k M D).1 (f_P_fetch 2 r k M D).2 M D := by
    unfold pz; rw [if_neg (by decide), if_neg (by decide), if_neg (by decide), if_neg (by decide), show f_P_modeOf 16 = 2 from by decide]
  have e2 : px 16 u M D m = f_X_tests 0 4 16 u M D m := by
    unfold px; rw [if_neg (by decide), if_neg (by decide), if_pos (by decide), show (16 : Int32) / 32 = 0 from by decide, show (16 : Int32) / 4 - 16 / 4 / 8 * 8 = 4 from by decide]
  rw [e1, e2]
  show ER r d t ((0, f_P_branch 0 (f_P_fetch 2 r k M D).1, (f_P_fetch 2 r k M D).2, M, D)) (f_X_tests_k18 0 4 16 u M D m (f_X_branch 0 u M m))
  exact br_rel ho hM hD (fr_NEXT he hK hM h hm) (Or.inl rfl)
theorem cr_17 : CR 17 := by
  intro r k u M D m d t ho he hm hK hM hD h
  have e1 : pz 17 r k M D = f_P_executeG1 0 4 (f_P_fetch 4 r k M D).1 (f_P_fetch 4 r k M D).2 M D := by
    unfold pz; rw [if_neg (by decide), if_neg (by decide), if_pos (by decide), show (17 : Int32) / 32 = 0 from by decide, show f_P_modeOf 17 = 4 from by decide]
  have e2 : px 17 u M D m = f_X_sums_k1 0 4 u M D m (f_X_address 8 u M m) := by
    unfold px; rw [if_pos (by decide), show (17 : Int32) / 32 = 0 from by decide, show (17 : Int32) / 4 - 17 / 4 / 8 * 8 = 4 from by decide]; unfold f_X_sums; rw [if_neg (by decide), show f_X_mode1 4 = 8 from by decide]
  rw [e1, e2]
  show ER r d t (f_P_executeG1 0 4 (f_P_fetch 4 r k M D).1 (f_P_fetch 4 r k M D).2 M D) (f_X_sums_k1 0 4 u M D m (f_X_address 8 u M m))
  exact g1_rel (xm := 8) ho hM hD (Or.inr (Or.inr ⟨by decide, by decide, by decide, by decide⟩)) (by decide) (fr_INY he hK hM h hm) (Or.inl rfl)
theorem cr_18 : CR 18 := by
  intro r k u M D m d t ho he hm hK hM hD h
  have e1 : pz 18 r k M D = (4, r, k, M, D) := by
    unfold pz; rw [if_neg (by decide), if_pos (by decide)]
  have e2 : px 18 u M D m = f_X_changes 0 4 u M D m := by
    unfold px; rw [if_neg (by decide), if_pos (by decide), if_neg (by decide), if_neg (by decide), show (18 : Int32) / 32 = 0 from by decide, show (18 : Int32) / 4 - 18 / 4 / 8 * 8 = 4 from by decide]
  rw [e1, e2]
  show ER r d t ((4, r, k, M, D)) ((upd u 4 4, M, D, m))
  exact er_ill hM hD hK h (Or.inr (Or.inr (Or.inr rfl)))
theorem cr_19 : CR 19 := by
  intro r k u M D m d t ho he hm hK hM hD h
  have e1 : pz 19 r k M D = (4, r, k, M, D) := by
    unfold pz; rw [if_neg (by decide), if_pos (by decide)]
  have e2 : px 19 u M D m = (upd u 4 4, M, D, m) := by
    unfold px; rw [if_neg (by decide), if_neg (by decide), if_neg (by decide)]
  rw [e1, e2]
  show ER r d t ((4, r, k, M, D)) ((upd u 4 4, M, D, m))
  exact er_ill hM hD hK h (Or.inr (Or.inr (Or.inr rfl)))
theorem cr_20 : CR 20 := by
  intro r k u M D m d t ho he hm hK hM hD h
  have e1 : pz 20 r k M D = (4, r, k, M, D) := by
    unfold pz; rw [if_neg (by decide), if_pos (by decide)]
  have e2 : px 20 u M D m = f_X_tests 0 5 20 u M D m := by
    unfold px; rw [if_neg (by decide), if_neg (by decide), if_pos (by decide), show (20 : Int32) / 32 = 0 from by decide, show (20 : Int32) / 4 - 20 / 4 / 8 * 8 = 5 from by decide]
  rw [e1, e2]
  show ER r d t ((4, r, k, M, D)) ((upd u 4 4, M, D, m))
  exact er_ill hM hD hK h (Or.inr (Or.inr (Or.inr rfl)))
theorem cr_21 : CR 21 := by
  intro r k u M D m d t ho he hm hK hM hD h
  have e1 : pz 21 r k M D = f_P_executeG1 0 5 (f_P_fetch 5 r k M D).1 (f_P_fetch 5 r k M D).2 M D := by
    unfold pz; rw [if_neg (by decide), if_neg (by decide), if_pos (by decide), show (21 : Int32) / 32 = 0 from by decide, show f_P_modeOf 21 = 5 from by decide]
  have e2 : px 21 u M D m = f_X_sums_k1 0 5 u M D m (f_X_address 2 u M m) := by
    unfold px; rw [if_pos (by decide), show (21 : Int32) / 32 = 0 from by decide, show (21 : Int32) / 4 - 21 / 4 / 8 * 8 = 5 from by decide]; unfold f_X_sums; rw [if_neg (by decide), show f_X_mode1 5 = 2 from by decide]
  rw [e1, e2]
  show ER r d t (f_P_executeG1 0 5 (f_P_fetch 5 r k M D).1 (f_P_fetch 5 r k M D).2 M D) (f_X_sums_k1 0 5 u M D m (f_X_address 2 u M m))
  exact g1_rel (xm := 2) ho hM hD (Or.inr (Or.inr ⟨by decide, by decide, by decide, by decide⟩)) (by decide) (fr_ZEROX he hK hM h hm) (Or.inl rfl)
theorem cr_22 : CR 22 := by
  intro r k u M D m d t ho he hm hK hM hD h
  have e1 : pz 22 r k M D = f_P_executeG2 0 5 (f_P_fetch 5 r k M D).1 (f_P_fetch 5 r k M D).2 M D := by
    unfold pz; rw [if_neg (by decide), if_neg (by decide), if_neg (by decide), if_pos (by decide), show (22 : Int32) / 32 = 0 from by decide, show f_P_modeOf 22 = 5 from by decide]
  have e2 : px 22 u M D m = f_X_changes 0 5 u M D m := by
    unfold px; rw [if_neg (by decide), if_pos (by decide), if_neg (by decide), if_neg (by decide), show (22 : Int32) / 32 = 0 from by decide, show (22 : Int32) / 4 - 22 / 4 / 8 * 8 = 5 from by decide]
  rw [e1, e2]
  show ER r d t (f_P_change 0 5 (f_P_fetch 5 r k M D).1 (f_P_fetch 5 r k M D).2 M D) (f_X_changes_k6 0 5 u M D m (f_X_address 2 u M m))
  exact chg_rel ho hM hD (xm := 2) ⟨by decide, by decide, by decide, by decide⟩ (fr_ZEROX he hK hM h hm) (Or.inl rfl) rfl
theorem cr_23 : CR 23 := by
  intro r k u M D m d t ho he hm hK hM hD h
  have e1 : pz 23 r k M D = (4, r, k, M, D) := by
    unfold pz; rw [if_neg (by decide), if_pos (by decide)]
  have e2 : px 23 u M D m = (upd u 4 4, M, D, m) := by
    unfold px; rw [if_neg (by decide), if_neg (by decide), if_neg (by decide)]
  rw [e1, e2]
  show ER r d t ((4, r, k, M, D)) ((upd u 4 4, M, D, m))
  exact er_ill hM hD hK h (Or.inr (Or.inr (Or.inr rfl)))
theorem cr_24 : CR 24 := by
  intro r k u M D m d t ho he hm hK hM hD h
  have e1 : pz 24 r k M D = f_P_executeG0 24 10 (f_P_fetch 10 r k M D).1 (f_P_fetch 10 r k M D).2 M D := by
    unfold pz; rw [if_neg (by decide), if_neg (by decide), if_neg (by decide), if_neg (by decide), show f_P_modeOf 24 = 10 from by decide]
  have e2 : px 24 u M D m = f_X_tests 0 6 24 u M D m := by
    unfold px; rw [if_neg (by decide), if_neg (by decide), if_pos (by decide), show (24 : Int32) / 32 = 0 from by decide, show (24 : Int32) / 4 - 24 / 4 / 8 * 8 = 6 from by decide]
  rw [e1, e2]
  show ER r d t ((0, upd (f_P_fetch 10 r k M D).1 8 0, (f_P_fetch 10 r k M D).2, M, D)) ((u, M, D, upd m 8 0))
  exact ER.plain hM hD h hK (rr_u8 (rr_ALONE he ho hm).1 (Or.inl rfl))
theorem cr_25 : CR 25 := by
  intro r k u M D m d t ho he hm hK hM hD h
  have e1 : pz 25 r k M D = f_P_executeG1 0 6 (f_P_fetch 6 r k M D).1 (f_P_fetch 6 r k M D).2 M D := by
    unfold pz; rw [if_neg (by decide), if_neg (by decide), if_pos (by decide), show (25 : Int32) / 32 = 0 from by decide, show f_P_modeOf 25 = 6 from by decide]
  have e2 : px 25 u M D m = f_X_sums_k1 0 6 u M D m (f_X_address 6 u M m) := by
    unfold px; rw [if_pos (by decide), show (25 : Int32) / 32 = 0 from by decide, show (25 : Int32) / 4 - 25 / 4 / 8 * 8 = 6 from by decide]; unfold f_X_sums; rw [if_neg (by decide), show f_X_mode1 6 = 6 from by decide]
  rw [e1, e2]
  show ER r d t (f_P_executeG1 0 6 (f_P_fetch 6 r k M D).1 (f_P_fetch 6 r k M D).2 M D) (f_X_sums_k1 0 6 u M D m (f_X_address 6 u M m))
  exact g1_rel (xm := 6) ho hM hD (Or.inr (Or.inr ⟨by decide, by decide, by decide, by decide⟩)) (by decide) (fr_WIDEY he hK hM h hm) (Or.inl rfl)
theorem cr_26 : CR 26 := by
  intro r k u M D m d t ho he hm hK hM hD h
  have e1 : pz 26 r k M D = (4, r, k, M, D) := by
    unfold pz; rw [if_neg (by decide), if_pos (by decide)]
  have e2 : px 26 u M D m = f_X_changes 0 6 u M D m := by
    unfold px; rw [if_neg (by decide), if_pos (by decide), if_neg (by decide), if_neg (by decide), show (26 : Int32) / 32 = 0 from by decide, show (26 : Int32) / 4 - 26 / 4 / 8 * 8 = 6 from by decide]
  rw [e1, e2]
  show ER r d t ((4, r, k, M, D)) ((upd u 4 4, M, D, m))
  exact er_ill hM hD hK h (Or.inr (Or.inr (Or.inr rfl)))
theorem cr_27 : CR 27 := by
  intro r k u M D m d t ho he hm hK hM hD h
  have e1 : pz 27 r k M D = (4, r, k, M, D) := by
    unfold pz; rw [if_neg (by decide), if_pos (by decide)]
  have e2 : px 27 u M D m = (upd u 4 4, M, D, m) := by
    unfold px; rw [if_neg (by decide), if_neg (by decide), if_neg (by decide)]
  rw [e1, e2]
  show ER r d t ((4, r, k, M, D)) ((upd u 4 4, M, D, m))
  exact er_ill hM hD hK h (Or.inr (Or.inr (Or.inr rfl)))
theorem cr_28 : CR 28 := by
  intro r k u M D m d t ho he hm hK hM hD h
  have e1 : pz 28 r k M D = (4, r, k, M, D) := by
    unfold pz; rw [if_neg (by decide), if_pos (by decide)]
  have e2 : px 28 u M D m = f_X_tests 0 7 28 u M D m := by
    unfold px; rw [if_neg (by decide), if_neg (by decide), if_pos (by decide), show (28 : Int32) / 32 = 0 from by decide, show (28 : Int32) / 4 - 28 / 4 / 8 * 8 = 7 from by decide]
  rw [e1, e2]
  show ER r d t ((4, r, k, M, D)) ((upd u 4 4, M, D, m))
  exact er_ill hM hD hK h (Or.inr (Or.inr (Or.inr rfl)))
theorem cr_29 : CR 29 := by
  intro r k u M D m d t ho he hm hK hM hD h
  have e1 : pz 29 r k M D = f_P_executeG1 0 7 (f_P_fetch 7 r k M D).1 (f_P_fetch 7 r k M D).2 M D := by
    unfold pz; rw [if_neg (by decide), if_neg (by decide), if_pos (by decide), show (29 : Int32) / 32 = 0 from by decide, show f_P_modeOf 29 = 7 from by decide]
  have e2 : px 29 u M D m = f_X_sums_k1 0 7 u M D m (f_X_address 5 u M m) := by
    unfold px; rw [if_pos (by decide), show (29 : Int32) / 32 = 0 from by decide, show (29 : Int32) / 4 - 29 / 4 / 8 * 8 = 7 from by decide]; unfold f_X_sums; rw [if_neg (by decide), show f_X_mode1 7 = 5 from by decide]
  rw [e1, e2]
  show ER r d t (f_P_executeG1 0 7 (f_P_fetch 7 r k M D).1 (f_P_fetch 7 r k M D).2 M D) (f_X_sums_k1 0 7 u M D m (f_X_address 5 u M m))
  exact g1_rel (xm := 5) ho hM hD (Or.inr (Or.inr ⟨by decide, by decide, by decide, by decide⟩)) (by decide) (fr_WIDEX he hK hM h hm) (Or.inl rfl)
theorem cr_30 : CR 30 := by
  intro r k u M D m d t ho he hm hK hM hD h
  have e1 : pz 30 r k M D = f_P_executeG2 0 7 (f_P_fetch 7 r k M D).1 (f_P_fetch 7 r k M D).2 M D := by
    unfold pz; rw [if_neg (by decide), if_neg (by decide), if_neg (by decide), if_pos (by decide), show (30 : Int32) / 32 = 0 from by decide, show f_P_modeOf 30 = 7 from by decide]
  have e2 : px 30 u M D m = f_X_changes 0 7 u M D m := by
    unfold px; rw [if_neg (by decide), if_pos (by decide), if_neg (by decide), if_neg (by decide), show (30 : Int32) / 32 = 0 from by decide, show (30 : Int32) / 4 - 30 / 4 / 8 * 8 = 7 from by decide]
  rw [e1, e2]
  show ER r d t (f_P_change 0 7 (f_P_fetch 7 r k M D).1 (f_P_fetch 7 r k M D).2 M D) (f_X_changes_k1 0 7 u M D m (f_X_address 5 u M m))
  exact chg_rel ho hM hD (xm := 5) ⟨by decide, by decide, by decide, by decide⟩ (fr_WIDEX he hK hM h hm) (Or.inl rfl) rfl
theorem cr_31 : CR 31 := by
  intro r k u M D m d t ho he hm hK hM hD h
  have e1 : pz 31 r k M D = (4, r, k, M, D) := by
    unfold pz; rw [if_neg (by decide), if_pos (by decide)]
  have e2 : px 31 u M D m = (upd u 4 4, M, D, m) := by
    unfold px; rw [if_neg (by decide), if_neg (by decide), if_neg (by decide)]
  rw [e1, e2]
  show ER r d t ((4, r, k, M, D)) ((upd u 4 4, M, D, m))
  exact er_ill hM hD hK h (Or.inr (Or.inr (Or.inr rfl)))
theorem cr_32 : CR 32 := by
  intro r k u M D m d t ho he hm hK hM hD h
  have e1 : pz 32 r k M D = f_P_executeG0 32 3 (f_P_fetch 3 r k M D).1 (f_P_fetch 3 r k M D).2 M D := by
    unfold pz; rw [if_neg (by decide), if_neg (by decide), if_neg (by decide), if_neg (by decide), show f_P_modeOf 32 = 3 from by decide]
  have e2 : px 32 u M D m = f_X_tests 1 0 32 u M D m := by
    unfold px; rw [if_neg (by decide), if_neg (by decide), if_pos (by decide), show (32 : Int32) / 32 = 1 from by decide, show (32 : Int32) / 4 - 32 / 4 / 8 * 8 = 0 from by decide]
  rw [e1, e2]
  show ER r d t ((0, (f_P_jump 32 (f_P_fetch 3 r k M D).1 (f_P_fetch 3 r k M D).2 M D).1, (f_P_jump 32 (f_P_fetch 3 r k M D).1 (f_P_fetch 3 r k M D).2 M D).2.1, (f_P_jump 32 (f_P_fetch 3 r k M D).1 (f_P_fetch 3 r k M D).2 M D).2.2.1, (f_P_jump 32 (f_P_fetch 3 r k M D).1 (f_P_fetch 3 r k M D).2 M D).2.2.2)) (f_X_single_k15 32 u M D m (f_X_two u M m))
  exact jsr_rel ho hM hD (fr_WIDE he hK hM h hm) (by rw [(two_rel (D := D) hK hM h hm).2.2.2.2.2]; rfl)
theorem cr_33 : CR 33 := by
  intro r k u M D m d t ho he hm hK hM hD h
  have e1 : pz 33 r k M D = f_P_executeG1 1 0 (f_P_fetch 0 r k M D).1 (f_P_fetch 0 r k M D).2 M D := by
    unfold pz; rw [if_neg (by decide), if_neg (by decide), if_pos (by decide), show (33 : Int32) / 32 = 1 from by decide, show f_P_modeOf 33 = 0 from by decide]
  have e2 : px 33 u M D m = f_X_sums_k1 1 0 u M D m (f_X_address 7 u M m) := by
    unfold px; rw [if_pos (by decide), show (33 : Int32) / 32 = 1 from by decide, show (33 : Int32) / 4 - 33 / 4 / 8 * 8 = 0 from by decide]; unfold f_X_sums; rw [if_neg (by decide), show f_X_mode1 0 = 7 from by decide]
  rw [e1, e2]
  show ER r d t (f_P_executeG1 1 0 (f_P_fetch 0 r k M D).1 (f_P_fetch 0 r k M D).2 M D) (f_X_sums_k1 1 0 u M D m (f_X_address 7 u M m))
  exact g1_rel (xm := 7) ho hM hD (Or.inr (Or.inr ⟨by decide, by decide, by decide, by decide⟩)) (by decide) (fr_INX he hK hM h hm) (Or.inr (Or.inl rfl))
theorem cr_34 : CR 34 := by
  intro r k u M D m d t ho he hm hK hM hD h
  have e1 : pz 34 r k M D = (4, r, k, M, D) := by
    unfold pz; rw [if_neg (by decide), if_pos (by decide)]
  have e2 : px 34 u M D m = f_X_changes 1 0 u M D m := by
    unfold px; rw [if_neg (by decide), if_pos (by decide), if_neg (by decide), if_neg (by decide), show (34 : Int32) / 32 = 1 from by decide, show (34 : Int32) / 4 - 34 / 4 / 8 * 8 = 0 from by decide]
  rw [e1, e2]
  show ER r d t ((4, r, k, M, D)) ((upd u 4 4, M, D, m))
  exact er_ill hM hD hK h (Or.inr (Or.inr (Or.inr rfl)))
theorem cr_35 : CR 35 := by
  intro r k u M D m d t ho he hm hK hM hD h
  have e1 : pz 35 r k M D = (4, r, k, M, D) := by
    unfold pz; rw [if_neg (by decide), if_pos (by decide)]
  have e2 : px 35 u M D m = (upd u 4 4, M, D, m) := by
    unfold px; rw [if_neg (by decide), if_neg (by decide), if_neg (by decide)]
  rw [e1, e2]
  show ER r d t ((4, r, k, M, D)) ((upd u 4 4, M, D, m))
  exact er_ill hM hD hK h (Or.inr (Or.inr (Or.inr rfl)))
theorem cr_36 : CR 36 := by
  intro r k u M D m d t ho he hm hK hM hD h
  have e1 : pz 36 r k M D = f_P_executeG0 36 1 (f_P_fetch 1 r k M D).1 (f_P_fetch 1 r k M D).2 M D := by
    unfold pz; rw [if_neg (by decide), if_neg (by decide), if_neg (by decide), if_neg (by decide), show f_P_modeOf 36 = 1 from by decide]
  have e2 : px 36 u M D m = f_X_tests 1 1 36 u M D m := by
    unfold px; rw [if_neg (by decide), if_neg (by decide), if_pos (by decide), show (36 : Int32) / 32 = 1 from by decide, show (36 : Int32) / 4 - 36 / 4 / 8 * 8 = 1 from by decide]
  rw [e1, e2]
  show ER r d t ((0, f_P_executeOperandG0 1 (f_P_operand 1 (f_P_fetch 1 r k M D).1 (f_P_fetch 1 r k M D).2 M D).1 (f_P_fetch 1 r k M D).1, (f_P_operand 1 (f_P_fetch 1 r k M D).1 (f_P_fetch 1 r k M D).2 M D).2, M, D)) (f_X_tests_k16 1 1 36 u M D m 1 1 (f_X_address 1 u M m))
  exact bit_rel ho hM hD ⟨by decide, by decide⟩ (fr_ZERO he hK hM h hm)
theorem cr_37 : CR 37 := by
  intro r k u M D m d t ho he hm hK hM hD h
  have e1 : pz 37 r k M D = f_P_executeG1 1 1 (f_P_fetch 1 r k M D).1 (f_P_fetch 1 r k M D).2 M D := by
    unfold pz; rw [if_neg (by decide), if_neg (by decide), if_pos (by decide), show (37 : Int32) / 32 = 1 from by decide, show f_P_modeOf 37 = 1 from by decide]
  have e2 : px 37 u M D m = f_X_sums_k1 1 1 u M D m (f_X_address 1 u M m) := by
    unfold px; rw [if_pos (by decide), show (37 : Int32) / 32 = 1 from by decide, show (37 : Int32) / 4 - 37 / 4 / 8 * 8 = 1 from by decide]; unfold f_X_sums; rw [if_neg (by decide), show f_X_mode1 1 = 1 from by decide]
  rw [e1, e2]
  show ER r d t (f_P_executeG1 1 1 (f_P_fetch 1 r k M D).1 (f_P_fetch 1 r k M D).2 M D) (f_X_sums_k1 1 1 u M D m (f_X_address 1 u M m))
  exact g1_rel (xm := 1) ho hM hD (Or.inr (Or.inr ⟨by decide, by decide, by decide, by decide⟩)) (by decide) (fr_ZERO he hK hM h hm) (Or.inr (Or.inl rfl))
theorem cr_38 : CR 38 := by
  intro r k u M D m d t ho he hm hK hM hD h
  have e1 : pz 38 r k M D = f_P_executeG2 1 1 (f_P_fetch 1 r k M D).1 (f_P_fetch 1 r k M D).2 M D := by
    unfold pz; rw [if_neg (by decide), if_neg (by decide), if_neg (by decide), if_pos (by decide), show (38 : Int32) / 32 = 1 from by decide, show f_P_modeOf 38 = 1 from by decide]
  have e2 : px 38 u M D m = f_X_changes 1 1 u M D m := by
    unfold px; rw [if_neg (by decide), if_pos (by decide), if_neg (by decide), if_neg (by decide), show (38 : Int32) / 32 = 1 from by decide, show (38 : Int32) / 4 - 38 / 4 / 8 * 8 = 1 from by decide]
  rw [e1, e2]
  show ER r d t (f_P_change 1 1 (f_P_fetch 1 r k M D).1 (f_P_fetch 1 r k M D).2 M D) (f_X_changes_k16 1 1 u M D m (f_X_address 1 u M m))
  exact chg_rel ho hM hD (xm := 1) ⟨by decide, by decide, by decide, by decide⟩ (fr_ZERO he hK hM h hm) (Or.inr (Or.inl rfl)) rfl
theorem cr_39 : CR 39 := by
  intro r k u M D m d t ho he hm hK hM hD h
  have e1 : pz 39 r k M D = (4, r, k, M, D) := by
    unfold pz; rw [if_neg (by decide), if_pos (by decide)]
  have e2 : px 39 u M D m = (upd u 4 4, M, D, m) := by
    unfold px; rw [if_neg (by decide), if_neg (by decide), if_neg (by decide)]
  rw [e1, e2]
  show ER r d t ((4, r, k, M, D)) ((upd u 4 4, M, D, m))
  exact er_ill hM hD hK h (Or.inr (Or.inr (Or.inr rfl)))
theorem cr_40 : CR 40 := by
  intro r k u M D m d t ho he hm hK hM hD h
  have e1 : pz 40 r k M D = f_P_executeG0 40 10 (f_P_fetch 10 r k M D).1 (f_P_fetch 10 r k M D).2 M D := by
    unfold pz; rw [if_neg (by decide), if_neg (by decide), if_neg (by decide), if_neg (by decide), show f_P_modeOf 40 = 10 from by decide]
  have e2 : px 40 u M D m = f_X_tests 1 2 40 u M D m := by
    unfold px; rw [if_neg (by decide), if_neg (by decide), if_pos (by decide), show (40 : Int32) / 32 = 1 from by decide, show (40 : Int32) / 4 - 40 / 4 / 8 * 8 = 2 from by decide]
  rw [e1, e2]
  show ER r d t ((0, f_P_setFlags (f_P_pull (f_P_fetch 10 r k M D).1 (f_P_fetch 10 r k M D).2 M D).1 (f_P_pull (f_P_fetch 10 r k M D).1 (f_P_fetch 10 r k M D).2 M D).2.1, (f_P_pull (f_P_fetch 10 r k M D).1 (f_P_fetch 10 r k M D).2 M D).2.2, M, D)) (((f_X_pull u M m).2.1, M, D, f_X_setStatus (f_X_pull u M m).1 (f_X_pull u M m).2.1 (f_X_pull u M m).2.2))
  exact by
    obtain ⟨a1, a2, a3, a4, a5⟩ := pull_rel (D := D) (rr_ALONE he ho hm).1 hM hK h
    rw [a1]
    exact ER.plain hM hD a4 a3 (ss_rel a5)
theorem cr_41 : CR 41 := by
  intro r k u M D m d t ho he hm hK hM hD h
  have e1 : pz 41 r k M D = f_P_executeG1 1 2 (f_P_fetch 2 r k M D).1 (f_P_fetch 2 r k M D).2 M D := by
    unfold pz; rw [if_neg (by decide), if_neg (by decide), if_pos (by decide), show (41 : Int32) / 32 = 1 from by decide, show f_P_modeOf 41 = 2 from by decide]
  have e2 : px 41 u M D m = f_X_sums_k1 1 2 u M D m (f_X_address 0 u M m) := by
    unfold px; rw [if_pos (by decide), show (41 : Int32) / 32 = 1 from by decide, show (41 : Int32) / 4 - 41 / 4 / 8 * 8 = 2 from by decide]; unfold f_X_sums; rw [if_neg (by decide), show f_X_mode1 2 = 0 from by decide]
  rw [e1, e2]
  show ER r d t (f_P_executeG1 1 2 (f_P_fetch 2 r k M D).1 (f_P_fetch 2 r k M D).2 M D) (f_X_sums_k1 1 2 u M D m (f_X_address 0 u M m))
  exact g1_rel (xm := 0) ho hM hD (Or.inl ⟨rfl, rfl⟩) (by decide) (fr_NEXT he hK hM h hm) (Or.inr (Or.inl rfl))
theorem cr_42 : CR 42 := by
  intro r k u M D m d t ho he hm hK hM hD h
  have e1 : pz 42 r k M D = f_P_executeG2 1 9 (f_P_fetch 9 r k M D).1 (f_P_fetch 9 r k M D).2 M D := by
    unfold pz; rw [if_neg (by decide), if_neg (by decide), if_neg (by decide), if_pos (by decide), show (42 : Int32) / 32 = 1 from by decide, show f_P_modeOf 42 = 9 from by decide]
  have e2 : px 42 u M D m = f_X_changes 1 2 u M D m := by
    unfold px; rw [if_neg (by decide), if_pos (by decide), if_neg (by decide), if_neg (by decide), show (42 : Int32) / 32 = 1 from by decide, show (42 : Int32) / 4 - 42 / 4 / 8 * 8 = 2 from by decide]
  rw [e1, e2]
  show ER r d t (f_P_change 1 9 (f_P_fetch 9 r k M D).1 (f_P_fetch 9 r k M D).2 M D) (f_X_changes_k21 1 2 u M D m (f_X_address 9 u M m))
  exact self_rel ho hM hD (fr_SELF he hK h hm) (Or.inr (Or.inl rfl))
theorem cr_43 : CR 43 := by
  intro r k u M D m d t ho he hm hK hM hD h
  have e1 : pz 43 r k M D = (4, r, k, M, D) := by
    unfold pz; rw [if_neg (by decide), if_pos (by decide)]
  have e2 : px 43 u M D m = (upd u 4 4, M, D, m) := by
    unfold px; rw [if_neg (by decide), if_neg (by decide), if_neg (by decide)]
  rw [e1, e2]
  show ER r d t ((4, r, k, M, D)) ((upd u 4 4, M, D, m))
  exact er_ill hM hD hK h (Or.inr (Or.inr (Or.inr rfl)))
theorem cr_44 : CR 44 := by
  intro r k u M D m d t ho he hm hK hM hD h
  have e1 : pz 44 r k M D = f_P_executeG0 44 3 (f_P_fetch 3 r k M D).1 (f_P_fetch 3 r k M D).2 M D := by
    unfold pz; rw [if_neg (by decide), if_neg (by decide), if_neg (by decide), if_neg (by decide), show f_P_modeOf 44 = 3 from by decide]
  have e2 : px 44 u M D m = f_X_tests 1 3 44 u M D m := by
    unfold px; rw [if_neg (by decide), if_neg (by decide), if_pos (by decide), show (44 : Int32) / 32 = 1 from by decide, show (44 : Int32) / 4 - 44 / 4 / 8 * 8 = 3 from by decide]
  rw [e1, e2]
  show ER r d t ((0, f_P_executeOperandG0 1 (f_P_operand 3 (f_P_fetch 3 r k M D).1 (f_P_fetch 3 r k M D).2 M D).1 (f_P_fetch 3 r k M D).1, (f_P_operand 3 (f_P_fetch 3 r k M D).1 (f_P_fetch 3 r k M D).2 M D).2, M, D)) (f_X_tests_k16 1 3 44 u M D m 1 4 (f_X_address 4 u M m))
  exact bit_rel ho hM hD ⟨by decide, by decide⟩ (fr_WIDE he hK hM h hm)
theorem cr_45 : CR 45 := by
  intro r k u M D m d t ho he hm hK hM hD h
  have e1 : pz 45 r k M D = f_P_executeG1 1 3 (f_P_fetch 3 r k M D).1 (f_P_fetch 3 r k M D).2 M D := by
    unfold pz; rw [if_neg (by decide), if_neg (by decide), if_pos (by decide), show (45 : Int32) / 32 = 1 from by decide, show f_P_modeOf 45 = 3 from by decide]
  have e2 : px 45 u M D m = f_X_sums_k1 1 3 u M D m (f_X_address 4 u M m) := by
    unfold px; rw [if_pos (by decide), show (45 : Int32) / 32 = 1 from by decide, show (45 : Int32) / 4 - 45 / 4 / 8 * 8 = 3 from by decide]; unfold f_X_sums; rw [if_neg (by decide), show f_X_mode1 3 = 4 from by decide]
  rw [e1, e2]
  show ER r d t (f_P_executeG1 1 3 (f_P_fetch 3 r k M D).1 (f_P_fetch 3 r k M D).2 M D) (f_X_sums_k1 1 3 u M D m (f_X_address 4 u M m))
  exact g1_rel (xm := 4) ho hM hD (Or.inr (Or.inr ⟨by decide, by decide, by decide, by decide⟩)) (by decide) (fr_WIDE he hK hM h hm) (Or.inr (Or.inl rfl))
theorem cr_46 : CR 46 := by
  intro r k u M D m d t ho he hm hK hM hD h
  have e1 : pz 46 r k M D = f_P_executeG2 1 3 (f_P_fetch 3 r k M D).1 (f_P_fetch 3 r k M D).2 M D := by
    unfold pz; rw [if_neg (by decide), if_neg (by decide), if_neg (by decide), if_pos (by decide), show (46 : Int32) / 32 = 1 from by decide, show f_P_modeOf 46 = 3 from by decide]
  have e2 : px 46 u M D m = f_X_changes 1 3 u M D m := by
    unfold px; rw [if_neg (by decide), if_pos (by decide), if_neg (by decide), if_neg (by decide), show (46 : Int32) / 32 = 1 from by decide, show (46 : Int32) / 4 - 46 / 4 / 8 * 8 = 3 from by decide]
  rw [e1, e2]
  show ER r d t (f_P_change 1 3 (f_P_fetch 3 r k M D).1 (f_P_fetch 3 r k M D).2 M D) (f_X_changes_k11 1 3 u M D m (f_X_address 4 u M m))
  exact chg_rel ho hM hD (xm := 4) ⟨by decide, by decide, by decide, by decide⟩ (fr_WIDE he hK hM h hm) (Or.inr (Or.inl rfl)) rfl
theorem cr_47 : CR 47 := by
  intro r k u M D m d t ho he hm hK hM hD h
  have e1 : pz 47 r k M D = (4, r, k, M, D) := by
    unfold pz; rw [if_neg (by decide), if_pos (by decide)]
  have e2 : px 47 u M D m = (upd u 4 4, M, D, m) := by
    unfold px; rw [if_neg (by decide), if_neg (by decide), if_neg (by decide)]
  rw [e1, e2]
  show ER r d t ((4, r, k, M, D)) ((upd u 4 4, M, D, m))
  exact er_ill hM hD hK h (Or.inr (Or.inr (Or.inr rfl)))
theorem cr_48 : CR 48 := by
  intro r k u M D m d t ho he hm hK hM hD h
  have e1 : pz 48 r k M D = f_P_executeG0 48 2 (f_P_fetch 2 r k M D).1 (f_P_fetch 2 r k M D).2 M D := by
    unfold pz; rw [if_neg (by decide), if_neg (by decide), if_neg (by decide), if_neg (by decide), show f_P_modeOf 48 = 2 from by decide]
  have e2 : px 48 u M D m = f_X_tests 1 4 48 u M D m := by
    unfold px; rw [if_neg (by decide), if_neg (by decide), if_pos (by decide), show (48 : Int32) / 32 = 1 from by decide, show (48 : Int32) / 4 - 48 / 4 / 8 * 8 = 4 from by decide]
  rw [e1, e2]
  show ER r d t ((0, f_P_branch 1 (f_P_fetch 2 r k M D).1, (f_P_fetch 2 r k M D).2, M, D)) (f_X_tests_k18 1 4 48 u M D m (f_X_branch 1 u M m))
  exact br_rel ho hM hD (fr_NEXT he hK hM h hm) (Or.inr (Or.inl rfl))
theorem cr_49 : CR 49 := by
  intro r k u M D m d t ho he hm hK hM hD h
  have e1 : pz 49 r k M D = f_P_executeG1 1 4 (f_P_fetch 4 r k M D).1 (f_P_fetch 4 r k M D).2 M D := by
    unfold pz; rw [if_neg (by decide), if_neg (by decide), if_pos (by decide), show (49 : Int32) / 32 = 1 from by decide, show f_P_modeOf 49 = 4 from by decide]
  have e2 : px 49 u M D m = f_X_sums_k1 1 4 u M D m (f_X_address 8 u M m) := by
    unfold px; rw [if_pos (by decide), show (49 : Int32) / 32 = 1 from by decide, show (49 : Int32) / 4 - 49 / 4 / 8 * 8 = 4 from by decide]; unfold f_X_sums; rw [if_neg (by decide), show f_X_mode1 4 = 8 from by decide]
  rw [e1, e2]
  show ER r d t (f_P_executeG1 1 4 (f_P_fetch 4 r k M D).1 (f_P_fetch 4 r k M D).2 M D) (f_X_sums_k1 1 4 u M D m (f_X_address 8 u M m))
  exact g1_rel (xm := 8) ho hM hD (Or.inr (Or.inr ⟨by decide, by decide, by decide, by decide⟩)) (by decide) (fr_INY he hK hM h hm) (Or.inr (Or.inl rfl))
theorem cr_50 : CR 50 := by
  intro r k u M D m d t ho he hm hK hM hD h
  have e1 : pz 50 r k M D = (4, r, k, M, D) := by
    unfold pz; rw [if_neg (by decide), if_pos (by decide)]
  have e2 : px 50 u M D m = f_X_changes 1 4 u M D m := by
    unfold px; rw [if_neg (by decide), if_pos (by decide), if_neg (by decide), if_neg (by decide), show (50 : Int32) / 32 = 1 from by decide, show (50 : Int32) / 4 - 50 / 4 / 8 * 8 = 4 from by decide]
  rw [e1, e2]
  show ER r d t ((4, r, k, M, D)) ((upd u 4 4, M, D, m))
  exact er_ill hM hD hK h (Or.inr (Or.inr (Or.inr rfl)))
theorem cr_51 : CR 51 := by
  intro r k u M D m d t ho he hm hK hM hD h
  have e1 : pz 51 r k M D = (4, r, k, M, D) := by
    unfold pz; rw [if_neg (by decide), if_pos (by decide)]
  have e2 : px 51 u M D m = (upd u 4 4, M, D, m) := by
    unfold px; rw [if_neg (by decide), if_neg (by decide), if_neg (by decide)]
  rw [e1, e2]
  show ER r d t ((4, r, k, M, D)) ((upd u 4 4, M, D, m))
  exact er_ill hM hD hK h (Or.inr (Or.inr (Or.inr rfl)))
theorem cr_52 : CR 52 := by
  intro r k u M D m d t ho he hm hK hM hD h
  have e1 : pz 52 r k M D = (4, r, k, M, D) := by
    unfold pz; rw [if_neg (by decide), if_pos (by decide)]
  have e2 : px 52 u M D m = f_X_tests 1 5 52 u M D m := by
    unfold px; rw [if_neg (by decide), if_neg (by decide), if_pos (by decide), show (52 : Int32) / 32 = 1 from by decide, show (52 : Int32) / 4 - 52 / 4 / 8 * 8 = 5 from by decide]
  rw [e1, e2]
  show ER r d t ((4, r, k, M, D)) ((upd u 4 4, M, D, m))
  exact er_ill hM hD hK h (Or.inr (Or.inr (Or.inr rfl)))
theorem cr_53 : CR 53 := by
  intro r k u M D m d t ho he hm hK hM hD h
  have e1 : pz 53 r k M D = f_P_executeG1 1 5 (f_P_fetch 5 r k M D).1 (f_P_fetch 5 r k M D).2 M D := by
    unfold pz; rw [if_neg (by decide), if_neg (by decide), if_pos (by decide), show (53 : Int32) / 32 = 1 from by decide, show f_P_modeOf 53 = 5 from by decide]
  have e2 : px 53 u M D m = f_X_sums_k1 1 5 u M D m (f_X_address 2 u M m) := by
    unfold px; rw [if_pos (by decide), show (53 : Int32) / 32 = 1 from by decide, show (53 : Int32) / 4 - 53 / 4 / 8 * 8 = 5 from by decide]; unfold f_X_sums; rw [if_neg (by decide), show f_X_mode1 5 = 2 from by decide]
  rw [e1, e2]
  show ER r d t (f_P_executeG1 1 5 (f_P_fetch 5 r k M D).1 (f_P_fetch 5 r k M D).2 M D) (f_X_sums_k1 1 5 u M D m (f_X_address 2 u M m))
  exact g1_rel (xm := 2) ho hM hD (Or.inr (Or.inr ⟨by decide, by decide, by decide, by decide⟩)) (by decide) (fr_ZEROX he hK hM h hm) (Or.inr (Or.inl rfl))
theorem cr_54 : CR 54 := by
  intro r k u M D m d t ho he hm hK hM hD h
  have e1 : pz 54 r k M D = f_P_executeG2 1 5 (f_P_fetch 5 r k M D).1 (f_P_fetch 5 r k M D).2 M D := by
    unfold pz; rw [if_neg (by decide), if_neg (by decide), if_neg (by decide), if_pos (by decide), show (54 : Int32) / 32 = 1 from by decide, show f_P_modeOf 54 = 5 from by decide]
  have e2 : px 54 u M D m = f_X_changes 1 5 u M D m := by
    unfold px; rw [if_neg (by decide), if_pos (by decide), if_neg (by decide), if_neg (by decide), show (54 : Int32) / 32 = 1 from by decide, show (54 : Int32) / 4 - 54 / 4 / 8 * 8 = 5 from by decide]
  rw [e1, e2]
  show ER r d t (f_P_change 1 5 (f_P_fetch 5 r k M D).1 (f_P_fetch 5 r k M D).2 M D) (f_X_changes_k6 1 5 u M D m (f_X_address 2 u M m))
  exact chg_rel ho hM hD (xm := 2) ⟨by decide, by decide, by decide, by decide⟩ (fr_ZEROX he hK hM h hm) (Or.inr (Or.inl rfl)) rfl
theorem cr_55 : CR 55 := by
  intro r k u M D m d t ho he hm hK hM hD h
  have e1 : pz 55 r k M D = (4, r, k, M, D) := by
    unfold pz; rw [if_neg (by decide), if_pos (by decide)]
  have e2 : px 55 u M D m = (upd u 4 4, M, D, m) := by
    unfold px; rw [if_neg (by decide), if_neg (by decide), if_neg (by decide)]
  rw [e1, e2]
  show ER r d t ((4, r, k, M, D)) ((upd u 4 4, M, D, m))
  exact er_ill hM hD hK h (Or.inr (Or.inr (Or.inr rfl)))
theorem cr_56 : CR 56 := by
  intro r k u M D m d t ho he hm hK hM hD h
  have e1 : pz 56 r k M D = f_P_executeG0 56 10 (f_P_fetch 10 r k M D).1 (f_P_fetch 10 r k M D).2 M D := by
    unfold pz; rw [if_neg (by decide), if_neg (by decide), if_neg (by decide), if_neg (by decide), show f_P_modeOf 56 = 10 from by decide]
  have e2 : px 56 u M D m = f_X_tests 1 6 56 u M D m := by
    unfold px; rw [if_neg (by decide), if_neg (by decide), if_pos (by decide), show (56 : Int32) / 32 = 1 from by decide, show (56 : Int32) / 4 - 56 / 4 / 8 * 8 = 6 from by decide]
  rw [e1, e2]
  show ER r d t ((0, upd (f_P_fetch 10 r k M D).1 8 1, (f_P_fetch 10 r k M D).2, M, D)) ((u, M, D, upd m 8 1))
  exact ER.plain hM hD h hK (rr_u8 (rr_ALONE he ho hm).1 (Or.inr rfl))
theorem cr_57 : CR 57 := by
  intro r k u M D m d t ho he hm hK hM hD h
  have e1 : pz 57 r k M D = f_P_executeG1 1 6 (f_P_fetch 6 r k M D).1 (f_P_fetch 6 r k M D).2 M D := by
    unfold pz; rw [if_neg (by decide), if_neg (by decide), if_pos (by decide), show (57 : Int32) / 32 = 1 from by decide, show f_P_modeOf 57 = 6 from by decide]
  have e2 : px 57 u M D m = f_X_sums_k1 1 6 u M D m (f_X_address 6 u M m) := by
    unfold px; rw [if_pos (by decide), show (57 : Int32) / 32 = 1 from by decide, show (57 : Int32) / 4 - 57 / 4 / 8 * 8 = 6 from by decide]; unfold f_X_sums; rw [if_neg (by decide), show f_X_mode1 6 = 6 from by decide]
  rw [e1, e2]
  show ER r d t (f_P_executeG1 1 6 (f_P_fetch 6 r k M D).1 (f_P_fetch 6 r k M D).2 M D) (f_X_sums_k1 1 6 u M D m (f_X_address 6 u M m))
  exact g1_rel (xm := 6) ho hM hD (Or.inr (Or.inr ⟨by decide, by decide, by decide, by decide⟩)) (by decide) (fr_WIDEY he hK hM h hm) (Or.inr (Or.inl rfl))
theorem cr_58 : CR 58 := by
  intro r k u M D m d t ho he hm hK hM hD h
  have e1 : pz 58 r k M D = (4, r, k, M, D) := by
    unfold pz; rw [if_neg (by decide), if_pos (by decide)]
  have e2 : px 58 u M D m = f_X_changes 1 6 u M D m := by
    unfold px; rw [if_neg (by decide), if_pos (by decide), if_neg (by decide), if_neg (by decide), show (58 : Int32) / 32 = 1 from by decide, show (58 : Int32) / 4 - 58 / 4 / 8 * 8 = 6 from by decide]
  rw [e1, e2]
  show ER r d t ((4, r, k, M, D)) ((upd u 4 4, M, D, m))
  exact er_ill hM hD hK h (Or.inr (Or.inr (Or.inr rfl)))
theorem cr_59 : CR 59 := by
  intro r k u M D m d t ho he hm hK hM hD h
  have e1 : pz 59 r k M D = (4, r, k, M, D) := by
    unfold pz; rw [if_neg (by decide), if_pos (by decide)]
  have e2 : px 59 u M D m = (upd u 4 4, M, D, m) := by
    unfold px; rw [if_neg (by decide), if_neg (by decide), if_neg (by decide)]
  rw [e1, e2]
  show ER r d t ((4, r, k, M, D)) ((upd u 4 4, M, D, m))
  exact er_ill hM hD hK h (Or.inr (Or.inr (Or.inr rfl)))
theorem cr_60 : CR 60 := by
  intro r k u M D m d t ho he hm hK hM hD h
  have e1 : pz 60 r k M D = (4, r, k, M, D) := by
    unfold pz; rw [if_neg (by decide), if_pos (by decide)]
  have e2 : px 60 u M D m = f_X_tests 1 7 60 u M D m := by
    unfold px; rw [if_neg (by decide), if_neg (by decide), if_pos (by decide), show (60 : Int32) / 32 = 1 from by decide, show (60 : Int32) / 4 - 60 / 4 / 8 * 8 = 7 from by decide]
  rw [e1, e2]
  show ER r d t ((4, r, k, M, D)) ((upd u 4 4, M, D, m))
  exact er_ill hM hD hK h (Or.inr (Or.inr (Or.inr rfl)))
theorem cr_61 : CR 61 := by
  intro r k u M D m d t ho he hm hK hM hD h
  have e1 : pz 61 r k M D = f_P_executeG1 1 7 (f_P_fetch 7 r k M D).1 (f_P_fetch 7 r k M D).2 M D := by
    unfold pz; rw [if_neg (by decide), if_neg (by decide), if_pos (by decide), show (61 : Int32) / 32 = 1 from by decide, show f_P_modeOf 61 = 7 from by decide]
  have e2 : px 61 u M D m = f_X_sums_k1 1 7 u M D m (f_X_address 5 u M m) := by
    unfold px; rw [if_pos (by decide), show (61 : Int32) / 32 = 1 from by decide, show (61 : Int32) / 4 - 61 / 4 / 8 * 8 = 7 from by decide]; unfold f_X_sums; rw [if_neg (by decide), show f_X_mode1 7 = 5 from by decide]
  rw [e1, e2]
  show ER r d t (f_P_executeG1 1 7 (f_P_fetch 7 r k M D).1 (f_P_fetch 7 r k M D).2 M D) (f_X_sums_k1 1 7 u M D m (f_X_address 5 u M m))
  exact g1_rel (xm := 5) ho hM hD (Or.inr (Or.inr ⟨by decide, by decide, by decide, by decide⟩)) (by decide) (fr_WIDEX he hK hM h hm) (Or.inr (Or.inl rfl))
theorem cr_62 : CR 62 := by
  intro r k u M D m d t ho he hm hK hM hD h
  have e1 : pz 62 r k M D = f_P_executeG2 1 7 (f_P_fetch 7 r k M D).1 (f_P_fetch 7 r k M D).2 M D := by
    unfold pz; rw [if_neg (by decide), if_neg (by decide), if_neg (by decide), if_pos (by decide), show (62 : Int32) / 32 = 1 from by decide, show f_P_modeOf 62 = 7 from by decide]
  have e2 : px 62 u M D m = f_X_changes 1 7 u M D m := by
    unfold px; rw [if_neg (by decide), if_pos (by decide), if_neg (by decide), if_neg (by decide), show (62 : Int32) / 32 = 1 from by decide, show (62 : Int32) / 4 - 62 / 4 / 8 * 8 = 7 from by decide]
  rw [e1, e2]
  show ER r d t (f_P_change 1 7 (f_P_fetch 7 r k M D).1 (f_P_fetch 7 r k M D).2 M D) (f_X_changes_k1 1 7 u M D m (f_X_address 5 u M m))
  exact chg_rel ho hM hD (xm := 5) ⟨by decide, by decide, by decide, by decide⟩ (fr_WIDEX he hK hM h hm) (Or.inr (Or.inl rfl)) rfl
theorem cr_63 : CR 63 := by
  intro r k u M D m d t ho he hm hK hM hD h
  have e1 : pz 63 r k M D = (4, r, k, M, D) := by
    unfold pz; rw [if_neg (by decide), if_pos (by decide)]
  have e2 : px 63 u M D m = (upd u 4 4, M, D, m) := by
    unfold px; rw [if_neg (by decide), if_neg (by decide), if_neg (by decide)]
  rw [e1, e2]
  show ER r d t ((4, r, k, M, D)) ((upd u 4 4, M, D, m))
  exact er_ill hM hD hK h (Or.inr (Or.inr (Or.inr rfl)))
theorem cr_64 : CR 64 := by
  intro r k u M D m d t ho he hm hK hM hD h
  have e1 : pz 64 r k M D = (4, r, k, M, D) := by
    unfold pz; rw [if_neg (by decide), if_pos (by decide)]
  have e2 : px 64 u M D m = f_X_tests 2 0 64 u M D m := by
    unfold px; rw [if_neg (by decide), if_neg (by decide), if_pos (by decide), show (64 : Int32) / 32 = 2 from by decide, show (64 : Int32) / 4 - 64 / 4 / 8 * 8 = 0 from by decide]
  rw [e1, e2]
  show ER r d t ((4, r, k, M, D)) ((upd u 4 4, M, D, m))
  exact er_ill hM hD hK h (Or.inr (Or.inr (Or.inr rfl)))
theorem cr_65 : CR 65 := by
  intro r k u M D m d t ho he hm hK hM hD h
  have e1 : pz 65 r k M D = f_P_executeG1 2 0 (f_P_fetch 0 r k M D).1 (f_P_fetch 0 r k M D).2 M D := by
    unfold pz; rw [if_neg (by decide), if_neg (by decide), if_pos (by decide), show (65 : Int32) / 32 = 2 from by decide, show f_P_modeOf 65 = 0 from by decide]
  have e2 : px 65 u M D m = f_X_sums_k1 2 0 u M D m (f_X_address 7 u M m) := by
    unfold px; rw [if_pos (by decide), show (65 : Int32) / 32 = 2 from by decide, show (65 : Int32) / 4 - 65 / 4 / 8 * 8 = 0 from by decide]; unfold f_X_sums; rw [if_neg (by decide), show f_X_mode1 0 = 7 from by decide]
  rw [e1, e2]
  show ER r d t (f_P_executeG1 2 0 (f_P_fetch 0 r k M D).1 (f_P_fetch 0 r k M D).2 M D) (f_X_sums_k1 2 0 u M D m (f_X_address 7 u M m))
  exact g1_rel (xm := 7) ho hM hD (Or.inr (Or.inr ⟨by decide, by decide, by decide, by decide⟩)) (by decide) (fr_INX he hK hM h hm) (Or.inr (Or.inr (Or.inl rfl)))
theorem cr_66 : CR 66 := by
  intro r k u M D m d t ho he hm hK hM hD h
  have e1 : pz 66 r k M D = (4, r, k, M, D) := by
    unfold pz; rw [if_neg (by decide), if_pos (by decide)]
  have e2 : px 66 u M D m = f_X_changes 2 0 u M D m := by
    unfold px; rw [if_neg (by decide), if_pos (by decide), if_neg (by decide), if_neg (by decide), show (66 : Int32) / 32 = 2 from by decide, show (66 : Int32) / 4 - 66 / 4 / 8 * 8 = 0 from by decide]
  rw [e1, e2]
  show ER r d t ((4, r, k, M, D)) ((upd u 4 4, M, D, m))
  exact er_ill hM hD hK h (Or.inr (Or.inr (Or.inr rfl)))
theorem cr_67 : CR 67 := by
  intro r k u M D m d t ho he hm hK hM hD h
  have e1 : pz 67 r k M D = (4, r, k, M, D) := by
    unfold pz; rw [if_neg (by decide), if_pos (by decide)]
  have e2 : px 67 u M D m = (upd u 4 4, M, D, m) := by
    unfold px; rw [if_neg (by decide), if_neg (by decide), if_neg (by decide)]
  rw [e1, e2]
  show ER r d t ((4, r, k, M, D)) ((upd u 4 4, M, D, m))
  exact er_ill hM hD hK h (Or.inr (Or.inr (Or.inr rfl)))
theorem cr_68 : CR 68 := by
  intro r k u M D m d t ho he hm hK hM hD h
  have e1 : pz 68 r k M D = (4, r, k, M, D) := by
    unfold pz; rw [if_neg (by decide), if_pos (by decide)]
  have e2 : px 68 u M D m = f_X_tests 2 1 68 u M D m := by
    unfold px; rw [if_neg (by decide), if_neg (by decide), if_pos (by decide), show (68 : Int32) / 32 = 2 from by decide, show (68 : Int32) / 4 - 68 / 4 / 8 * 8 = 1 from by decide]
  rw [e1, e2]
  show ER r d t ((4, r, k, M, D)) ((upd u 4 4, M, D, m))
  exact er_ill hM hD hK h (Or.inr (Or.inr (Or.inr rfl)))
theorem cr_69 : CR 69 := by
  intro r k u M D m d t ho he hm hK hM hD h
  have e1 : pz 69 r k M D = f_P_executeG1 2 1 (f_P_fetch 1 r k M D).1 (f_P_fetch 1 r k M D).2 M D := by
    unfold pz; rw [if_neg (by decide), if_neg (by decide), if_pos (by decide), show (69 : Int32) / 32 = 2 from by decide, show f_P_modeOf 69 = 1 from by decide]
  have e2 : px 69 u M D m = f_X_sums_k1 2 1 u M D m (f_X_address 1 u M m) := by
    unfold px; rw [if_pos (by decide), show (69 : Int32) / 32 = 2 from by decide, show (69 : Int32) / 4 - 69 / 4 / 8 * 8 = 1 from by decide]; unfold f_X_sums; rw [if_neg (by decide), show f_X_mode1 1 = 1 from by decide]
  rw [e1, e2]
  show ER r d t (f_P_executeG1 2 1 (f_P_fetch 1 r k M D).1 (f_P_fetch 1 r k M D).2 M D) (f_X_sums_k1 2 1 u M D m (f_X_address 1 u M m))
  exact g1_rel (xm := 1) ho hM hD (Or.inr (Or.inr ⟨by decide, by decide, by decide, by decide⟩)) (by decide) (fr_ZERO he hK hM h hm) (Or.inr (Or.inr (Or.inl rfl)))
theorem cr_70 : CR 70 := by
  intro r k u M D m d t ho he hm hK hM hD h
  have e1 : pz 70 r k M D = f_P_executeG2 2 1 (f_P_fetch 1 r k M D).1 (f_P_fetch 1 r k M D).2 M D := by
    unfold pz; rw [if_neg (by decide), if_neg (by decide), if_neg (by decide), if_pos (by decide), show (70 : Int32) / 32 = 2 from by decide, show f_P_modeOf 70 = 1 from by decide]
  have e2 : px 70 u M D m = f_X_changes 2 1 u M D m := by
    unfold px; rw [if_neg (by decide), if_pos (by decide), if_neg (by decide), if_neg (by decide), show (70 : Int32) / 32 = 2 from by decide, show (70 : Int32) / 4 - 70 / 4 / 8 * 8 = 1 from by decide]
  rw [e1, e2]
  show ER r d t (f_P_change 2 1 (f_P_fetch 1 r k M D).1 (f_P_fetch 1 r k M D).2 M D) (f_X_changes_k16 2 1 u M D m (f_X_address 1 u M m))
  exact chg_rel ho hM hD (xm := 1) ⟨by decide, by decide, by decide, by decide⟩ (fr_ZERO he hK hM h hm) (Or.inr (Or.inr (Or.inl rfl))) rfl
theorem cr_71 : CR 71 := by
  intro r k u M D m d t ho he hm hK hM hD h
  have e1 : pz 71 r k M D = (4, r, k, M, D) := by
    unfold pz; rw [if_neg (by decide), if_pos (by decide)]
  have e2 : px 71 u M D m = (upd u 4 4, M, D, m) := by
    unfold px; rw [if_neg (by decide), if_neg (by decide), if_neg (by decide)]
  rw [e1, e2]
  show ER r d t ((4, r, k, M, D)) ((upd u 4 4, M, D, m))
  exact er_ill hM hD hK h (Or.inr (Or.inr (Or.inr rfl)))
theorem cr_72 : CR 72 := by
  intro r k u M D m d t ho he hm hK hM hD h
  have e1 : pz 72 r k M D = f_P_executeG0 72 10 (f_P_fetch 10 r k M D).1 (f_P_fetch 10 r k M D).2 M D := by
    unfold pz; rw [if_neg (by decide), if_neg (by decide), if_neg (by decide), if_neg (by decide), show f_P_modeOf 72 = 10 from by decide]
  have e2 : px 72 u M D m = f_X_tests 2 2 72 u M D m := by
    unfold px; rw [if_neg (by decide), if_neg (by decide), if_pos (by decide), show (72 : Int32) / 32 = 2 from by decide, show (72 : Int32) / 4 - 72 / 4 / 8 * 8 = 2 from by decide]
  rw [e1, e2]
  show ER r d t ((0, (f_P_push ((f_P_fetch 10 r k M D).1 0) (f_P_fetch 10 r k M D).1 (f_P_fetch 10 r k M D).2 M D).1, (f_P_push ((f_P_fetch 10 r k M D).1 0) (f_P_fetch 10 r k M D).1 (f_P_fetch 10 r k M D).2 M D).2.1, (f_P_push ((f_P_fetch 10 r k M D).1 0) (f_P_fetch 10 r k M D).1 (f_P_fetch 10 r k M D).2 M D).2.2.1, (f_P_push ((f_P_fetch 10 r k M D).1 0) (f_P_fetch 10 r k M D).1 (f_P_fetch 10 r k M D).2 M D).2.2.2)) (((f_X_push (m 0) u M D m).1, (f_X_push (m 0) u M D m).2.1, (f_X_push (m 0) u M D m).2.2.1, (f_X_push (m 0) u M D m).2.2.2))
  exact by
    rw [(rr_ALONE he ho hm).1.1.1]
    obtain ⟨a1, a2, a3, a4, a5, a6, a7, -⟩ := push_rel (k := (f_P_fetch 10 r k M D).2) (rr_ALONE he ho hm).1 hM hD hK (rr_ALONE he ho hm).1.2.1.1 h
    exact ⟨a1, a2, a3, a4, a5, a6, Or.inl ⟨rfl, a7⟩⟩
theorem cr_73 : CR 73 := by
  intro r k u M D m d t ho he hm hK hM hD h
  have e1 : pz 73 r k M D = f_P_executeG1 2 2 (f_P_fetch 2 r k M D).1 (f_P_fetch 2 r k M D).2 M D := by
    unfold pz; rw [if_neg (by decide), if_neg (by decide), if_pos (by decide), show (73 : Int32) / 32 = 2 from by decide, show f_P_modeOf 73 = 2 from by decide]
  have e2 : px 73 u M D m = f_X_sums_k1 2 2 u M D m (f_X_address 0 u M m) := by
    unfold px; rw [if_pos (by decide), show (73 : Int32) / 32 = 2 from by decide, show (73 : Int32) / 4 - 73 / 4 / 8 * 8 = 2 from by decide]; unfold f_X_sums; rw [if_neg (by decide), show f_X_mode1 2 = 0 from by decide]
  rw [e1, e2]
  show ER r d t (f_P_executeG1 2 2 (f_P_fetch 2 r k M D).1 (f_P_fetch 2 r k M D).2 M D) (f_X_sums_k1 2 2 u M D m (f_X_address 0 u M m))
  exact g1_rel (xm := 0) ho hM hD (Or.inl ⟨rfl, rfl⟩) (by decide) (fr_NEXT he hK hM h hm) (Or.inr (Or.inr (Or.inl rfl)))
theorem cr_74 : CR 74 := by
  intro r k u M D m d t ho he hm hK hM hD h
  have e1 : pz 74 r k M D = f_P_executeG2 2 9 (f_P_fetch 9 r k M D).1 (f_P_fetch 9 r k M D).2 M D := by
    unfold pz; rw [if_neg (by decide), if_neg (by decide), if_neg (by decide), if_pos (by decide), show (74 : Int32) / 32 = 2 from by decide, show f_P_modeOf 74 = 9 from by decide]
  have e2 : px 74 u M D m = f_X_changes 2 2 u M D m := by
    unfold px; rw [if_neg (by decide), if_pos (by decide), if_neg (by decide), if_neg (by decide), show (74 : Int32) / 32 = 2 from by decide, show (74 : Int32) / 4 - 74 / 4 / 8 * 8 = 2 from by decide]
  rw [e1, e2]
  show ER r d t (f_P_change 2 9 (f_P_fetch 9 r k M D).1 (f_P_fetch 9 r k M D).2 M D) (f_X_changes_k21 2 2 u M D m (f_X_address 9 u M m))
  exact self_rel ho hM hD (fr_SELF he hK h hm) (Or.inr (Or.inr (Or.inl rfl)))
theorem cr_75 : CR 75 := by
  intro r k u M D m d t ho he hm hK hM hD h
  have e1 : pz 75 r k M D = (4, r, k, M, D) := by
    unfold pz; rw [if_neg (by decide), if_pos (by decide)]
  have e2 : px 75 u M D m = (upd u 4 4, M, D, m) := by
    unfold px; rw [if_neg (by decide), if_neg (by decide), if_neg (by decide)]
  rw [e1, e2]
  show ER r d t ((4, r, k, M, D)) ((upd u 4 4, M, D, m))
  exact er_ill hM hD hK h (Or.inr (Or.inr (Or.inr rfl)))
theorem cr_76 : CR 76 := by
  intro r k u M D m d t ho he hm hK hM hD h
  have e1 : pz 76 r k M D = f_P_executeG0 76 3 (f_P_fetch 3 r k M D).1 (f_P_fetch 3 r k M D).2 M D := by
    unfold pz; rw [if_neg (by decide), if_neg (by decide), if_neg (by decide), if_neg (by decide), show f_P_modeOf 76 = 3 from by decide]
  have e2 : px 76 u M D m = f_X_tests 2 3 76 u M D m := by
    unfold px; rw [if_neg (by decide), if_neg (by decide), if_pos (by decide), show (76 : Int32) / 32 = 2 from by decide, show (76 : Int32) / 4 - 76 / 4 / 8 * 8 = 3 from by decide]
  rw [e1, e2]
  show ER r d t ((0, upd (f_P_fetch 3 r k M D).1 11 ((f_P_fetch 3 r k M D).1 10), (f_P_fetch 3 r k M D).2, M, D)) (f_X_tests_k12 2 3 76 u M D m 1 4 (f_X_two u M m))
  exact jmp_rel ho hM hD (fr_WIDE he hK hM h hm)
theorem cr_77 : CR 77 := by
  intro r k u M D m d t ho he hm hK hM hD h
  have e1 : pz 77 r k M D = f_P_executeG1 2 3 (f_P_fetch 3 r k M D).1 (f_P_fetch 3 r k M D).2 M D := by
    unfold pz; rw [if_neg (by decide), if_neg (by decide), if_pos (by decide), show (77 : Int32) / 32 = 2 from by decide, show f_P_modeOf 77 = 3 from by decide]
  have e2 : px 77 u M D m = f_X_sums_k1 2 3 u M D m (f_X_address 4 u M m) := by
    unfold px; rw [if_pos (by decide), show (77 : Int32) / 32 = 2 from by decide, show (77 : Int32) / 4 - 77 / 4 / 8 * 8 = 3 from by decide]; unfold f_X_sums; rw [if_neg (by decide), show f_X_mode1 3 = 4 from by decide]
  rw [e1, e2]
  show ER r d t (f_P_executeG1 2 3 (f_P_fetch 3 r k M D).1 (f_P_fetch 3 r k M D).2 M D) (f_X_sums_k1 2 3 u M D m (f_X_address 4 u M m))
  exact g1_rel (xm := 4) ho hM hD (Or.inr (Or.inr ⟨by decide, by decide, by decide, by decide⟩)) (by decide) (fr_WIDE he hK hM h hm) (Or.inr (Or.inr (Or.inl rfl)))
theorem cr_78 : CR 78 := by
  intro r k u M D m d t ho he hm hK hM hD h
  have e1 : pz 78 r k M D = f_P_executeG2 2 3 (f_P_fetch 3 r k M D).1 (f_P_fetch 3 r k M D).2 M D := by
    unfold pz; rw [if_neg (by decide), if_neg (by decide), if_neg (by decide), if_pos (by decide), show (78 : Int32) / 32 = 2 from by decide, show f_P_modeOf 78 = 3 from by decide]
  have e2 : px 78 u M D m = f_X_changes 2 3 u M D m := by
    unfold px; rw [if_neg (by decide), if_pos (by decide), if_neg (by decide), if_neg (by decide), show (78 : Int32) / 32 = 2 from by decide, show (78 : Int32) / 4 - 78 / 4 / 8 * 8 = 3 from by decide]
  rw [e1, e2]
  show ER r d t (f_P_change 2 3 (f_P_fetch 3 r k M D).1 (f_P_fetch 3 r k M D).2 M D) (f_X_changes_k11 2 3 u M D m (f_X_address 4 u M m))
  exact chg_rel ho hM hD (xm := 4) ⟨by decide, by decide, by decide, by decide⟩ (fr_WIDE he hK hM h hm) (Or.inr (Or.inr (Or.inl rfl))) rfl
theorem cr_79 : CR 79 := by
  intro r k u M D m d t ho he hm hK hM hD h
  have e1 : pz 79 r k M D = (4, r, k, M, D) := by
    unfold pz; rw [if_neg (by decide), if_pos (by decide)]
  have e2 : px 79 u M D m = (upd u 4 4, M, D, m) := by
    unfold px; rw [if_neg (by decide), if_neg (by decide), if_neg (by decide)]
  rw [e1, e2]
  show ER r d t ((4, r, k, M, D)) ((upd u 4 4, M, D, m))
  exact er_ill hM hD hK h (Or.inr (Or.inr (Or.inr rfl)))
theorem cr_80 : CR 80 := by
  intro r k u M D m d t ho he hm hK hM hD h
  have e1 : pz 80 r k M D = f_P_executeG0 80 2 (f_P_fetch 2 r k M D).1 (f_P_fetch 2 r k M D).2 M D := by
    unfold pz; rw [if_neg (by decide), if_neg (by decide), if_neg (by decide), if_neg (by decide), show f_P_modeOf 80 = 2 from by decide]
  have e2 : px 80 u M D m = f_X_tests 2 4 80 u M D m := by
    unfold px; rw [if_neg (by decide), if_neg (by decide), if_pos (by decide), show (80 : Int32) / 32 = 2 from by decide, show (80 : Int32) / 4 - 80 / 4 / 8 * 8 = 4 from by decide]
  rw [e1, e2]
  show ER r d t ((0, f_P_branch 2 (f_P_fetch 2 r k M D).1, (f_P_fetch 2 r k M D).2, M, D)) (f_X_tests_k18 2 4 80 u M D m (f_X_branch 2 u M m))
  exact br_rel ho hM hD (fr_NEXT he hK hM h hm) (Or.inr (Or.inr (Or.inl rfl)))
theorem cr_81 : CR 81 := by
  intro r k u M D m d t ho he hm hK hM hD h
  have e1 : pz 81 r k M D = f_P_executeG1 2 4 (f_P_fetch 4 r k M D).1 (f_P_fetch 4 r k M D).2 M D := by
    unfold pz; rw [if_neg (by decide), if_neg (by decide), if_pos (by decide), show (81 : Int32) / 32 = 2 from by decide, show f_P_modeOf 81 = 4 from by decide]
  have e2 : px 81 u M D m = f_X_sums_k1 2 4 u M D m (f_X_address 8 u M m) := by
    unfold px; rw [if_pos (by decide), show (81 : Int32) / 32 = 2 from by decide, show (81 : Int32) / 4 - 81 / 4 / 8 * 8 = 4 from by decide]; unfold f_X_sums; rw [if_neg (by decide), show f_X_mode1 4 = 8 from by decide]
  rw [e1, e2]
  show ER r d t (f_P_executeG1 2 4 (f_P_fetch 4 r k M D).1 (f_P_fetch 4 r k M D).2 M D) (f_X_sums_k1 2 4 u M D m (f_X_address 8 u M m))
  exact g1_rel (xm := 8) ho hM hD (Or.inr (Or.inr ⟨by decide, by decide, by decide, by decide⟩)) (by decide) (fr_INY he hK hM h hm) (Or.inr (Or.inr (Or.inl rfl)))
theorem cr_82 : CR 82 := by
  intro r k u M D m d t ho he hm hK hM hD h
  have e1 : pz 82 r k M D = (4, r, k, M, D) := by
    unfold pz; rw [if_neg (by decide), if_pos (by decide)]
  have e2 : px 82 u M D m = f_X_changes 2 4 u M D m := by
    unfold px; rw [if_neg (by decide), if_pos (by decide), if_neg (by decide), if_neg (by decide), show (82 : Int32) / 32 = 2 from by decide, show (82 : Int32) / 4 - 82 / 4 / 8 * 8 = 4 from by decide]
  rw [e1, e2]
  show ER r d t ((4, r, k, M, D)) ((upd u 4 4, M, D, m))
  exact er_ill hM hD hK h (Or.inr (Or.inr (Or.inr rfl)))
theorem cr_83 : CR 83 := by
  intro r k u M D m d t ho he hm hK hM hD h
  have e1 : pz 83 r k M D = (4, r, k, M, D) := by
    unfold pz; rw [if_neg (by decide), if_pos (by decide)]
  have e2 : px 83 u M D m = (upd u 4 4, M, D, m) := by
    unfold px; rw [if_neg (by decide), if_neg (by decide), if_neg (by decide)]
  rw [e1, e2]
  show ER r d t ((4, r, k, M, D)) ((upd u 4 4, M, D, m))
  exact er_ill hM hD hK h (Or.inr (Or.inr (Or.inr rfl)))
theorem cr_84 : CR 84 := by
  intro r k u M D m d t ho he hm hK hM hD h
  have e1 : pz 84 r k M D = (4, r, k, M, D) := by
    unfold pz; rw [if_neg (by decide), if_pos (by decide)]
  have e2 : px 84 u M D m = f_X_tests 2 5 84 u M D m := by
    unfold px; rw [if_neg (by decide), if_neg (by decide), if_pos (by decide), show (84 : Int32) / 32 = 2 from by decide, show (84 : Int32) / 4 - 84 / 4 / 8 * 8 = 5 from by decide]
  rw [e1, e2]
  show ER r d t ((4, r, k, M, D)) ((upd u 4 4, M, D, m))
  exact er_ill hM hD hK h (Or.inr (Or.inr (Or.inr rfl)))
theorem cr_85 : CR 85 := by
  intro r k u M D m d t ho he hm hK hM hD h
  have e1 : pz 85 r k M D = f_P_executeG1 2 5 (f_P_fetch 5 r k M D).1 (f_P_fetch 5 r k M D).2 M D := by
    unfold pz; rw [if_neg (by decide), if_neg (by decide), if_pos (by decide), show (85 : Int32) / 32 = 2 from by decide, show f_P_modeOf 85 = 5 from by decide]
  have e2 : px 85 u M D m = f_X_sums_k1 2 5 u M D m (f_X_address 2 u M m) := by
    unfold px; rw [if_pos (by decide), show (85 : Int32) / 32 = 2 from by decide, show (85 : Int32) / 4 - 85 / 4 / 8 * 8 = 5 from by decide]; unfold f_X_sums; rw [if_neg (by decide), show f_X_mode1 5 = 2 from by decide]
  rw [e1, e2]
  show ER r d t (f_P_executeG1 2 5 (f_P_fetch 5 r k M D).1 (f_P_fetch 5 r k M D).2 M D) (f_X_sums_k1 2 5 u M D m (f_X_address 2 u M m))
  exact g1_rel (xm := 2) ho hM hD (Or.inr (Or.inr ⟨by decide, by decide, by decide, by decide⟩)) (by decide) (fr_ZEROX he hK hM h hm) (Or.inr (Or.inr (Or.inl rfl)))
