theorem cr_86 : CR 86 := by
  intro r k u M D m d t ho he hm hK hM hD h
  have e1 : pz 86 r k M D = f_P_executeG2 2 5 (f_P_fetch 5 r k M D).1 (f_P_fetch 5 r k M D).2 M D := by
    unfold pz; rw [if_neg (by decide), if_neg (by decide), if_neg (by decide), if_pos (by decide), show (86 : Int32) / 32 = 2 from by decide, show f_P_modeOf 86 = 5 from by decide]
  have e2 : px 86 u M D m = f_X_changes 2 5 u M D m := by
    unfold px; rw [if_neg (by decide), if_pos (by decide), if_neg (by decide), if_neg (by decide), show (86 : Int32) / 32 = 2 from by decide, show (86 : Int32) / 4 - 86 / 4 / 8 * 8 = 5 from by decide]
  rw [e1, e2]
  show ER r d t (f_P_change 2 5 (f_P_fetch 5 r k M D).1 (f_P_fetch 5 r k M D).2 M D) (f_X_changes_k6 2 5 u M D m (f_X_address 2 u M m))
  exact chg_rel ho hM hD (xm := 2) ⟨by decide, by decide, by decide, by decide⟩ (fr_ZEROX he hK hM h hm) (Or.inr (Or.inr (Or.inl rfl))) rfl
theorem cr_87 : CR 87 := by
  intro r k u M D m d t ho he hm hK hM hD h
  have e1 : pz 87 r k M D = (4, r, k, M, D) := by
    unfold pz; rw [if_neg (by decide), if_pos (by decide)]
  have e2 : px 87 u M D m = (upd u 4 4, M, D, m) := by
    unfold px; rw [if_neg (by decide), if_neg (by decide), if_neg (by decide)]
  rw [e1, e2]
  show ER r d t ((4, r, k, M, D)) ((upd u 4 4, M, D, m))
  exact er_ill hM hD hK h (Or.inr (Or.inr (Or.inr rfl)))
theorem cr_88 : CR 88 := by
  intro r k u M D m d t ho he hm hK hM hD h
  have e1 : pz 88 r k M D = (4, r, k, M, D) := by
    unfold pz; rw [if_neg (by decide), if_pos (by decide)]
  have e2 : px 88 u M D m = f_X_tests 2 6 88 u M D m := by
    unfold px; rw [if_neg (by decide), if_neg (by decide), if_pos (by decide), show (88 : Int32) / 32 = 2 from by decide, show (88 : Int32) / 4 - 88 / 4 / 8 * 8 = 6 from by decide]
  rw [e1, e2]
  show ER r d t ((4, r, k, M, D)) ((upd u 4 4, M, D, m))
  exact er_ill hM hD hK h (Or.inr (Or.inr (Or.inr rfl)))
theorem cr_89 : CR 89 := by
  intro r k u M D m d t ho he hm hK hM hD h
  have e1 : pz 89 r k M D = f_P_executeG1 2 6 (f_P_fetch 6 r k M D).1 (f_P_fetch 6 r k M D).2 M D := by
    unfold pz; rw [if_neg (by decide), if_neg (by decide), if_pos (by decide), show (89 : Int32) / 32 = 2 from by decide, show f_P_modeOf 89 = 6 from by decide]
  have e2 : px 89 u M D m = f_X_sums_k1 2 6 u M D m (f_X_address 6 u M m) := by
    unfold px; rw [if_pos (by decide), show (89 : Int32) / 32 = 2 from by decide, show (89 : Int32) / 4 - 89 / 4 / 8 * 8 = 6 from by decide]; unfold f_X_sums; rw [if_neg (by decide), show f_X_mode1 6 = 6 from by decide]
  rw [e1, e2]
  show ER r d t (f_P_executeG1 2 6 (f_P_fetch 6 r k M D).1 (f_P_fetch 6 r k M D).2 M D) (f_X_sums_k1 2 6 u M D m (f_X_address 6 u M m))
  exact g1_rel (xm := 6) ho hM hD (Or.inr (Or.inr ⟨by decide, by decide, by decide, by decide⟩)) (by decide) (fr_WIDEY he hK hM h hm) (Or.inr (Or.inr (Or.inl rfl)))
theorem cr_90 : CR 90 := by
  intro r k u M D m d t ho he hm hK hM hD h
  have e1 : pz 90 r k M D = (4, r, k, M, D) := by
    unfold pz; rw [if_neg (by decide), if_pos (by decide)]
  have e2 : px 90 u M D m = f_X_changes 2 6 u M D m := by
    unfold px; rw [if_neg (by decide), if_pos (by decide), if_neg (by decide), if_neg (by decide), show (90 : Int32) / 32 = 2 from by decide, show (90 : Int32) / 4 - 90 / 4 / 8 * 8 = 6 from by decide]
  rw [e1, e2]
  show ER r d t ((4, r, k, M, D)) ((upd u 4 4, M, D, m))
  exact er_ill hM hD hK h (Or.inr (Or.inr (Or.inr rfl)))
theorem cr_91 : CR 91 := by
  intro r k u M D m d t ho he hm hK hM hD h
  have e1 : pz 91 r k M D = (4, r, k, M, D) := by
    unfold pz; rw [if_neg (by decide), if_pos (by decide)]
  have e2 : px 91 u M D m = (upd u 4 4, M, D, m) := by
    unfold px; rw [if_neg (by decide), if_neg (by decide), if_neg (by decide)]
  rw [e1, e2]
  show ER r d t ((4, r, k, M, D)) ((upd u 4 4, M, D, m))
  exact er_ill hM hD hK h (Or.inr (Or.inr (Or.inr rfl)))
theorem cr_92 : CR 92 := by
  intro r k u M D m d t ho he hm hK hM hD h
  have e1 : pz 92 r k M D = (4, r, k, M, D) := by
    unfold pz; rw [if_neg (by decide), if_pos (by decide)]
  have e2 : px 92 u M D m = f_X_tests 2 7 92 u M D m := by
    unfold px; rw [if_neg (by decide), if_neg (by decide), if_pos (by decide), show (92 : Int32) / 32 = 2 from by decide, show (92 : Int32) / 4 - 92 / 4 / 8 * 8 = 7 from by decide]
  rw [e1, e2]
  show ER r d t ((4, r, k, M, D)) ((upd u 4 4, M, D, m))
  exact er_ill hM hD hK h (Or.inr (Or.inr (Or.inr rfl)))
theorem cr_93 : CR 93 := by
  intro r k u M D m d t ho he hm hK hM hD h
  have e1 : pz 93 r k M D = f_P_executeG1 2 7 (f_P_fetch 7 r k M D).1 (f_P_fetch 7 r k M D).2 M D := by
    unfold pz; rw [if_neg (by decide), if_neg (by decide), if_pos (by decide), show (93 : Int32) / 32 = 2 from by decide, show f_P_modeOf 93 = 7 from by decide]
  have e2 : px 93 u M D m = f_X_sums_k1 2 7 u M D m (f_X_address 5 u M m) := by
    unfold px; rw [if_pos (by decide), show (93 : Int32) / 32 = 2 from by decide, show (93 : Int32) / 4 - 93 / 4 / 8 * 8 = 7 from by decide]; unfold f_X_sums; rw [if_neg (by decide), show f_X_mode1 7 = 5 from by decide]
  rw [e1, e2]
  show ER r d t (f_P_executeG1 2 7 (f_P_fetch 7 r k M D).1 (f_P_fetch 7 r k M D).2 M D) (f_X_sums_k1 2 7 u M D m (f_X_address 5 u M m))
  exact g1_rel (xm := 5) ho hM hD (Or.inr (Or.inr ⟨by decide, by decide, by decide, by decide⟩)) (by decide) (fr_WIDEX he hK hM h hm) (Or.inr (Or.inr (Or.inl rfl)))
theorem cr_94 : CR 94 := by
  intro r k u M D m d t ho he hm hK hM hD h
  have e1 : pz 94 r k M D = f_P_executeG2 2 7 (f_P_fetch 7 r k M D).1 (f_P_fetch 7 r k M D).2 M D := by
    unfold pz; rw [if_neg (by decide), if_neg (by decide), if_neg (by decide), if_pos (by decide), show (94 : Int32) / 32 = 2 from by decide, show f_P_modeOf 94 = 7 from by decide]
  have e2 : px 94 u M D m = f_X_changes 2 7 u M D m := by
    unfold px; rw [if_neg (by decide), if_pos (by decide), if_neg (by decide), if_neg (by decide), show (94 : Int32) / 32 = 2 from by decide, show (94 : Int32) / 4 - 94 / 4 / 8 * 8 = 7 from by decide]
  rw [e1, e2]
  show ER r d t (f_P_change 2 7 (f_P_fetch 7 r k M D).1 (f_P_fetch 7 r k M D).2 M D) (f_X_changes_k1 2 7 u M D m (f_X_address 5 u M m))
  exact chg_rel ho hM hD (xm := 5) ⟨by decide, by decide, by decide, by decide⟩ (fr_WIDEX he hK hM h hm) (Or.inr (Or.inr (Or.inl rfl))) rfl
theorem cr_95 : CR 95 := by
  intro r k u M D m d t ho he hm hK hM hD h
  have e1 : pz 95 r k M D = (4, r, k, M, D) := by
    unfold pz; rw [if_neg (by decide), if_pos (by decide)]
  have e2 : px 95 u M D m = (upd u 4 4, M, D, m) := by
    unfold px; rw [if_neg (by decide), if_neg (by decide), if_neg (by decide)]
  rw [e1, e2]
  show ER r d t ((4, r, k, M, D)) ((upd u 4 4, M, D, m))
  exact er_ill hM hD hK h (Or.inr (Or.inr (Or.inr rfl)))
theorem cr_96 : CR 96 := by
  intro r k u M D m d t ho he hm hK hM hD h
  have e1 : pz 96 r k M D = f_P_executeG0 96 10 (f_P_fetch 10 r k M D).1 (f_P_fetch 10 r k M D).2 M D := by
    unfold pz; rw [if_neg (by decide), if_neg (by decide), if_neg (by decide), if_neg (by decide), show f_P_modeOf 96 = 10 from by decide]
  have e2 : px 96 u M D m = f_X_tests 3 0 96 u M D m := by
    unfold px; rw [if_neg (by decide), if_neg (by decide), if_pos (by decide), show (96 : Int32) / 32 = 3 from by decide, show (96 : Int32) / 4 - 96 / 4 / 8 * 8 = 0 from by decide]
  rw [e1, e2]
  show ER r d t ((0, (f_P_comeBack (f_P_fetch 10 r k M D).1 (f_P_fetch 10 r k M D).2 M D).1, (f_P_comeBack (f_P_fetch 10 r k M D).1 (f_P_fetch 10 r k M D).2 M D).2, M, D)) (f_X_single_k13 96 u M D m (f_X_pull u M m))
  exact rts_rel hM hD (rr_ALONE he ho hm).1 hK h
theorem cr_97 : CR 97 := by
  intro r k u M D m d t ho he hm hK hM hD h
  have e1 : pz 97 r k M D = f_P_executeG1 3 0 (f_P_fetch 0 r k M D).1 (f_P_fetch 0 r k M D).2 M D := by
    unfold pz; rw [if_neg (by decide), if_neg (by decide), if_pos (by decide), show (97 : Int32) / 32 = 3 from by decide, show f_P_modeOf 97 = 0 from by decide]
  have e2 : px 97 u M D m = f_X_sums_k1 3 0 u M D m (f_X_address 7 u M m) := by
    unfold px; rw [if_pos (by decide), show (97 : Int32) / 32 = 3 from by decide, show (97 : Int32) / 4 - 97 / 4 / 8 * 8 = 0 from by decide]; unfold f_X_sums; rw [if_neg (by decide), show f_X_mode1 0 = 7 from by decide]
  rw [e1, e2]
  show ER r d t (f_P_executeG1 3 0 (f_P_fetch 0 r k M D).1 (f_P_fetch 0 r k M D).2 M D) (f_X_sums_k1 3 0 u M D m (f_X_address 7 u M m))
  exact g1_rel (xm := 7) ho hM hD (Or.inr (Or.inr ⟨by decide, by decide, by decide, by decide⟩)) (by decide) (fr_INX he hK hM h hm) (Or.inr (Or.inr (Or.inr (Or.inl rfl))))
theorem cr_98 : CR 98 := by
  intro r k u M D m d t ho he hm hK hM hD h
  have e1 : pz 98 r k M D = (4, r, k, M, D) := by
    unfold pz; rw [if_neg (by decide), if_pos (by decide)]
  have e2 : px 98 u M D m = f_X_changes 3 0 u M D m := by
    unfold px; rw [if_neg (by decide), if_pos (by decide), if_neg (by decide), if_neg (by decide), show (98 : Int32) / 32 = 3 from by decide, show (98 : Int32) / 4 - 98 / 4 / 8 * 8 = 0 from by decide]
  rw [e1, e2]
  show ER r d t ((4, r, k, M, D)) ((upd u 4 4, M, D, m))
  exact er_ill hM hD hK h (Or.inr (Or.inr (Or.inr rfl)))
theorem cr_99 : CR 99 := by
  intro r k u M D m d t ho he hm hK hM hD h
  have e1 : pz 99 r k M D = (4, r, k, M, D) := by
    unfold pz; rw [if_neg (by decide), if_pos (by decide)]
  have e2 : px 99 u M D m = (upd u 4 4, M, D, m) := by
    unfold px; rw [if_neg (by decide), if_neg (by decide), if_neg (by decide)]
  rw [e1, e2]
  show ER r d t ((4, r, k, M, D)) ((upd u 4 4, M, D, m))
  exact er_ill hM hD hK h (Or.inr (Or.inr (Or.inr rfl)))
theorem cr_100 : CR 100 := by
  intro r k u M D m d t ho he hm hK hM hD h
  have e1 : pz 100 r k M D = (4, r, k, M, D) := by
    unfold pz; rw [if_neg (by decide), if_pos (by decide)]
  have e2 : px 100 u M D m = f_X_tests 3 1 100 u M D m := by
    unfold px; rw [if_neg (by decide), if_neg (by decide), if_pos (by decide), show (100 : Int32) / 32 = 3 from by decide, show (100 : Int32) / 4 - 100 / 4 / 8 * 8 = 1 from by decide]
  rw [e1, e2]
  show ER r d t ((4, r, k, M, D)) ((upd u 4 4, M, D, m))
  exact er_ill hM hD hK h (Or.inr (Or.inr (Or.inr rfl)))
theorem cr_101 : CR 101 := by
  intro r k u M D m d t ho he hm hK hM hD h
  have e1 : pz 101 r k M D = f_P_executeG1 3 1 (f_P_fetch 1 r k M D).1 (f_P_fetch 1 r k M D).2 M D := by
    unfold pz; rw [if_neg (by decide), if_neg (by decide), if_pos (by decide), show (101 : Int32) / 32 = 3 from by decide, show f_P_modeOf 101 = 1 from by decide]
  have e2 : px 101 u M D m = f_X_sums_k1 3 1 u M D m (f_X_address 1 u M m) := by
    unfold px; rw [if_pos (by decide), show (101 : Int32) / 32 = 3 from by decide, show (101 : Int32) / 4 - 101 / 4 / 8 * 8 = 1 from by decide]; unfold f_X_sums; rw [if_neg (by decide), show f_X_mode1 1 = 1 from by decide]
  rw [e1, e2]
  show ER r d t (f_P_executeG1 3 1 (f_P_fetch 1 r k M D).1 (f_P_fetch 1 r k M D).2 M D) (f_X_sums_k1 3 1 u M D m (f_X_address 1 u M m))
  exact g1_rel (xm := 1) ho hM hD (Or.inr (Or.inr ⟨by decide, by decide, by decide, by decide⟩)) (by decide) (fr_ZERO he hK hM h hm) (Or.inr (Or.inr (Or.inr (Or.inl rfl))))
theorem cr_102 : CR 102 := by
  intro r k u M D m d t ho he hm hK hM hD h
  have e1 : pz 102 r k M D = f_P_executeG2 3 1 (f_P_fetch 1 r k M D).1 (f_P_fetch 1 r k M D).2 M D := by
    unfold pz; rw [if_neg (by decide), if_neg (by decide), if_neg (by decide), if_pos (by decide), show (102 : Int32) / 32 = 3 from by decide, show f_P_modeOf 102 = 1 from by decide]
  have e2 : px 102 u M D m = f_X_changes 3 1 u M D m := by
    unfold px; rw [if_neg (by decide), if_pos (by decide), if_neg (by decide), if_neg (by decide), show (102 : Int32) / 32 = 3 from by decide, show (102 : Int32) / 4 - 102 / 4 / 8 * 8 = 1 from by decide]
  rw [e1, e2]
  show ER r d t (f_P_change 3 1 (f_P_fetch 1 r k M D).1 (f_P_fetch 1 r k M D).2 M D) (f_X_changes_k16 3 1 u M D m (f_X_address 1 u M m))
  exact chg_rel ho hM hD (xm := 1) ⟨by decide, by decide, by decide, by decide⟩ (fr_ZERO he hK hM h hm) (Or.inr (Or.inr (Or.inr (Or.inl rfl)))) rfl
theorem cr_103 : CR 103 := by
  intro r k u M D m d t ho he hm hK hM hD h
  have e1 : pz 103 r k M D = (4, r, k, M, D) := by
    unfold pz; rw [if_neg (by decide), if_pos (by decide)]
  have e2 : px 103 u M D m = (upd u 4 4, M, D, m) := by
    unfold px; rw [if_neg (by decide), if_neg (by decide), if_neg (by decide)]
  rw [e1, e2]
  show ER r d t ((4, r, k, M, D)) ((upd u 4 4, M, D, m))
  exact er_ill hM hD hK h (Or.inr (Or.inr (Or.inr rfl)))
theorem cr_104 : CR 104 := by
  intro r k u M D m d t ho he hm hK hM hD h
  have e1 : pz 104 r k M D = f_P_executeG0 104 10 (f_P_fetch 10 r k M D).1 (f_P_fetch 10 r k M D).2 M D := by
    unfold pz; rw [if_neg (by decide), if_neg (by decide), if_neg (by decide), if_neg (by decide), show f_P_modeOf 104 = 10 from by decide]
  have e2 : px 104 u M D m = f_X_tests 3 2 104 u M D m := by
    unfold px; rw [if_neg (by decide), if_neg (by decide), if_pos (by decide), show (104 : Int32) / 32 = 3 from by decide, show (104 : Int32) / 4 - 104 / 4 / 8 * 8 = 2 from by decide]
  rw [e1, e2]
  show ER r d t ((0, upd (f_P_set (f_P_pull (f_P_fetch 10 r k M D).1 (f_P_fetch 10 r k M D).2 M D).1 (f_P_pull (f_P_fetch 10 r k M D).1 (f_P_fetch 10 r k M D).2 M D).2.1).2 0 (f_P_set (f_P_pull (f_P_fetch 10 r k M D).1 (f_P_fetch 10 r k M D).2 M D).1 (f_P_pull (f_P_fetch 10 r k M D).1 (f_P_fetch 10 r k M D).2 M D).2.1).1, (f_P_pull (f_P_fetch 10 r k M D).1 (f_P_fetch 10 r k M D).2 M D).2.2, M, D)) (((f_X_pull u M m).2.1, M, D, f_X_put3 0 (f_X_pull u M m).1 1 (f_X_pull u M m).2.1 (f_X_pull u M m).2.2))
  exact by
    obtain ⟨a1, a2, a3, a4, a5⟩ := pull_rel (D := D) (rr_ALONE he ho hm).1 hM hK h
    exact ER.plain hM hD a4 a3 (put_rel0 a5 (by rw [a1]; exact isB_and a2))
theorem cr_105 : CR 105 := by
  intro r k u M D m d t ho he hm hK hM hD h
  have e1 : pz 105 r k M D = f_P_executeG1 3 2 (f_P_fetch 2 r k M D).1 (f_P_fetch 2 r k M D).2 M D := by
    unfold pz; rw [if_neg (by decide), if_neg (by decide), if_pos (by decide), show (105 : Int32) / 32 = 3 from by decide, show f_P_modeOf 105 = 2 from by decide]
  have e2 : px 105 u M D m = f_X_sums_k1 3 2 u M D m (f_X_address 0 u M m) := by
    unfold px; rw [if_pos (by decide), show (105 : Int32) / 32 = 3 from by decide, show (105 : Int32) / 4 - 105 / 4 / 8 * 8 = 2 from by decide]; unfold f_X_sums; rw [if_neg (by decide), show f_X_mode1 2 = 0 from by decide]
  rw [e1, e2]
  show ER r d t (f_P_executeG1 3 2 (f_P_fetch 2 r k M D).1 (f_P_fetch 2 r k M D).2 M D) (f_X_sums_k1 3 2 u M D m (f_X_address 0 u M m))
  exact g1_rel (xm := 0) ho hM hD (Or.inl ⟨rfl, rfl⟩) (by decide) (fr_NEXT he hK hM h hm) (Or.inr (Or.inr (Or.inr (Or.inl rfl))))
theorem cr_106 : CR 106 := by
  intro r k u M D m d t ho he hm hK hM hD h
  have e1 : pz 106 r k M D = f_P_executeG2 3 9 (f_P_fetch 9 r k M D).1 (f_P_fetch 9 r k M D).2 M D := by
    unfold pz; rw [if_neg (by decide), if_neg (by decide), if_neg (by decide), if_pos (by decide), show (106 : Int32) / 32 = 3 from by decide, show f_P_modeOf 106 = 9 from by decide]
  have e2 : px 106 u M D m = f_X_changes 3 2 u M D m := by
    unfold px; rw [if_neg (by decide), if_pos (by decide), if_neg (by decide), if_neg (by decide), show (106 : Int32) / 32 = 3 from by decide, show (106 : Int32) / 4 - 106 / 4 / 8 * 8 = 2 from by decide]
  rw [e1, e2]
  show ER r d t (f_P_change 3 9 (f_P_fetch 9 r k M D).1 (f_P_fetch 9 r k M D).2 M D) (f_X_changes_k21 3 2 u M D m (f_X_address 9 u M m))
  exact self_rel ho hM hD (fr_SELF he hK h hm) (Or.inr (Or.inr (Or.inr (Or.inl rfl))))
theorem cr_107 : CR 107 := by
  intro r k u M D m d t ho he hm hK hM hD h
  have e1 : pz 107 r k M D = (4, r, k, M, D) := by
    unfold pz; rw [if_neg (by decide), if_pos (by decide)]
  have e2 : px 107 u M D m = (upd u 4 4, M, D, m) := by
    unfold px; rw [if_neg (by decide), if_neg (by decide), if_neg (by decide)]
  rw [e1, e2]
  show ER r d t ((4, r, k, M, D)) ((upd u 4 4, M, D, m))
  exact er_ill hM hD hK h (Or.inr (Or.inr (Or.inr rfl)))
theorem cr_108 : CR 108 := by
  intro r k u M D m d t ho he hm hK hM hD h
  have e1 : pz 108 r k M D = f_P_executeG0 108 3 (f_P_fetch 3 r k M D).1 (f_P_fetch 3 r k M D).2 M D := by
    unfold pz; rw [if_neg (by decide), if_neg (by decide), if_neg (by decide), if_neg (by decide), show f_P_modeOf 108 = 3 from by decide]
  have e2 : px 108 u M D m = f_X_tests 3 3 108 u M D m := by
    unfold px; rw [if_neg (by decide), if_neg (by decide), if_pos (by decide), show (108 : Int32) / 32 = 3 from by decide, show (108 : Int32) / 4 - 108 / 4 / 8 * 8 = 3 from by decide]
  rw [e1, e2]
  show ER r d t ((0, (f_P_jump 108 (f_P_fetch 3 r k M D).1 (f_P_fetch 3 r k M D).2 M D).1, (f_P_jump 108 (f_P_fetch 3 r k M D).1 (f_P_fetch 3 r k M D).2 M D).2.1, (f_P_jump 108 (f_P_fetch 3 r k M D).1 (f_P_fetch 3 r k M D).2 M D).2.2.1, (f_P_jump 108 (f_P_fetch 3 r k M D).1 (f_P_fetch 3 r k M D).2 M D).2.2.2)) (f_X_tests_k13 3 3 108 u M D m 1 4 (f_X_two u M m))
  exact jmi_rel ho hM hD (fr_WIDE he hK hM h hm)
theorem cr_109 : CR 109 := by
  intro r k u M D m d t ho he hm hK hM hD h
  have e1 : pz 109 r k M D = f_P_executeG1 3 3 (f_P_fetch 3 r k M D).1 (f_P_fetch 3 r k M D).2 M D := by
    unfold pz; rw [if_neg (by decide), if_neg (by decide), if_pos (by decide), show (109 : Int32) / 32 = 3 from by decide, show f_P_modeOf 109 = 3 from by decide]
  have e2 : px 109 u M D m = f_X_sums_k1 3 3 u M D m (f_X_address 4 u M m) := by
    unfold px; rw [if_pos (by decide), show (109 : Int32) / 32 = 3 from by decide, show (109 : Int32) / 4 - 109 / 4 / 8 * 8 = 3 from by decide]; unfold f_X_sums; rw [if_neg (by decide), show f_X_mode1 3 = 4 from by decide]
  rw [e1, e2]
  show ER r d t (f_P_executeG1 3 3 (f_P_fetch 3 r k M D).1 (f_P_fetch 3 r k M D).2 M D) (f_X_sums_k1 3 3 u M D m (f_X_address 4 u M m))
  exact g1_rel (xm := 4) ho hM hD (Or.inr (Or.inr ⟨by decide, by decide, by decide, by decide⟩)) (by decide) (fr_WIDE he hK hM h hm) (Or.inr (Or.inr (Or.inr (Or.inl rfl))))
theorem cr_110 : CR 110 := by
  intro r k u M D m d t ho he hm hK hM hD h
  have e1 : pz 110 r k M D = f_P_executeG2 3 3 (f_P_fetch 3 r k M D).1 (f_P_fetch 3 r k M D).2 M D := by
    unfold pz; rw [if_neg (by decide), if_neg (by decide), if_neg (by decide), if_pos (by decide), show (110 : Int32) / 32 = 3 from by decide, show f_P_modeOf 110 = 3 from by decide]
  have e2 : px 110 u M D m = f_X_changes 3 3 u M D m := by
    unfold px; rw [if_neg (by decide), if_pos (by decide), if_neg (by decide), if_neg (by decide), show (110 : Int32) / 32 = 3 from by decide, show (110 : Int32) / 4 - 110 / 4 / 8 * 8 = 3 from by decide]
  rw [e1, e2]
  show ER r d t (f_P_change 3 3 (f_P_fetch 3 r k M D).1 (f_P_fetch 3 r k M D).2 M D) (f_X_changes_k11 3 3 u M D m (f_X_address 4 u M m))
  exact chg_rel ho hM hD (xm := 4) ⟨by decide, by decide, by decide, by decide⟩ (fr_WIDE he hK hM h hm) (Or.inr (Or.inr (Or.inr (Or.inl rfl)))) rfl
theorem cr_111 : CR 111 := by
  intro r k u M D m d t ho he hm hK hM hD h
  have e1 : pz 111 r k M D = (4, r, k, M, D) := by
    unfold pz; rw [if_neg (by decide), if_pos (by decide)]
  have e2 : px 111 u M D m = (upd u 4 4, M, D, m) := by
    unfold px; rw [if_neg (by decide), if_neg (by decide), if_neg (by decide)]
  rw [e1, e2]
  show ER r d t ((4, r, k, M, D)) ((upd u 4 4, M, D, m))
  exact er_ill hM hD hK h (Or.inr (Or.inr (Or.inr rfl)))
theorem cr_112 : CR 112 := by
  intro r k u M D m d t ho he hm hK hM hD h
  have e1 : pz 112 r k M D = f_P_executeG0 112 2 (f_P_fetch 2 r k M D).1 (f_P_fetch 2 r k M D).2 M D := by
    unfold pz; rw [if_neg (by decide), if_neg (by decide), if_neg (by decide), if_neg (by decide), show f_P_modeOf 112 = 2 from by decide]
  have e2 : px 112 u M D m = f_X_tests 3 4 112 u M D m := by
    unfold px; rw [if_neg (by decide), if_neg (by decide), if_pos (by decide), show (112 : Int32) / 32 = 3 from by decide, show (112 : Int32) / 4 - 112 / 4 / 8 * 8 = 4 from by decide]
  rw [e1, e2]
  show ER r d t ((0, f_P_branch 3 (f_P_fetch 2 r k M D).1, (f_P_fetch 2 r k M D).2, M, D)) (f_X_tests_k18 3 4 112 u M D m (f_X_branch 3 u M m))
  exact br_rel ho hM hD (fr_NEXT he hK hM h hm) (Or.inr (Or.inr (Or.inr (Or.inl rfl))))
theorem cr_113 : CR 113 := by
  intro r k u M D m d t ho he hm hK hM hD h
  have e1 : pz 113 r k M D = f_P_executeG1 3 4 (f_P_fetch 4 r k M D).1 (f_P_fetch 4 r k M D).2 M D := by
    unfold pz; rw [if_neg (by decide), if_neg (by decide), if_pos (by decide), show (113 : Int32) / 32 = 3 from by decide, show f_P_modeOf 113 = 4 from by decide]
  have e2 : px 113 u M D m = f_X_sums_k1 3 4 u M D m (f_X_address 8 u M m) := by
    unfold px; rw [if_pos (by decide), show (113 : Int32) / 32 = 3 from by decide, show (113 : Int32) / 4 - 113 / 4 / 8 * 8 = 4 from by decide]; unfold f_X_sums; rw [if_neg (by decide), show f_X_mode1 4 = 8 from by decide]
  rw [e1, e2]
  show ER r d t (f_P_executeG1 3 4 (f_P_fetch 4 r k M D).1 (f_P_fetch 4 r k M D).2 M D) (f_X_sums_k1 3 4 u M D m (f_X_address 8 u M m))
  exact g1_rel (xm := 8) ho hM hD (Or.inr (Or.inr ⟨by decide, by decide, by decide, by decide⟩)) (by decide) (fr_INY he hK hM h hm) (Or.inr (Or.inr (Or.inr (Or.inl rfl))))
theorem cr_114 : CR 114 := by
  intro r k u M D m d t ho he hm hK hM hD h
  have e1 : pz 114 r k M D = (4, r, k, M, D) := by
    unfold pz; rw [if_neg (by decide), if_pos (by decide)]
  have e2 : px 114 u M D m = f_X_changes 3 4 u M D m := by
    unfold px; rw [if_neg (by decide), if_pos (by decide), if_neg (by decide), if_neg (by decide), show (114 : Int32) / 32 = 3 from by decide, show (114 : Int32) / 4 - 114 / 4 / 8 * 8 = 4 from by decide]
  rw [e1, e2]
  show ER r d t ((4, r, k, M, D)) ((upd u 4 4, M, D, m))
  exact er_ill hM hD hK h (Or.inr (Or.inr (Or.inr rfl)))
theorem cr_115 : CR 115 := by
  intro r k u M D m d t ho he hm hK hM hD h
  have e1 : pz 115 r k M D = (4, r, k, M, D) := by
    unfold pz; rw [if_neg (by decide), if_pos (by decide)]
  have e2 : px 115 u M D m = (upd u 4 4, M, D, m) := by
    unfold px; rw [if_neg (by decide), if_neg (by decide), if_neg (by decide)]
  rw [e1, e2]
  show ER r d t ((4, r, k, M, D)) ((upd u 4 4, M, D, m))
  exact er_ill hM hD hK h (Or.inr (Or.inr (Or.inr rfl)))
theorem cr_116 : CR 116 := by
  intro r k u M D m d t ho he hm hK hM hD h
  have e1 : pz 116 r k M D = (4, r, k, M, D) := by
    unfold pz; rw [if_neg (by decide), if_pos (by decide)]
  have e2 : px 116 u M D m = f_X_tests 3 5 116 u M D m := by
    unfold px; rw [if_neg (by decide), if_neg (by decide), if_pos (by decide), show (116 : Int32) / 32 = 3 from by decide, show (116 : Int32) / 4 - 116 / 4 / 8 * 8 = 5 from by decide]
  rw [e1, e2]
  show ER r d t ((4, r, k, M, D)) ((upd u 4 4, M, D, m))
  exact er_ill hM hD hK h (Or.inr (Or.inr (Or.inr rfl)))
theorem cr_117 : CR 117 := by
  intro r k u M D m d t ho he hm hK hM hD h
  have e1 : pz 117 r k M D = f_P_executeG1 3 5 (f_P_fetch 5 r k M D).1 (f_P_fetch 5 r k M D).2 M D := by
    unfold pz; rw [if_neg (by decide), if_neg (by decide), if_pos (by decide), show (117 : Int32) / 32 = 3 from by decide, show f_P_modeOf 117 = 5 from by decide]
  have e2 : px 117 u M D m = f_X_sums_k1 3 5 u M D m (f_X_address 2 u M m) := by
    unfold px; rw [if_pos (by decide), show (117 : Int32) / 32 = 3 from by decide, show (117 : Int32) / 4 - 117 / 4 / 8 * 8 = 5 from by decide]; unfold f_X_sums; rw [if_neg (by decide), show f_X_mode1 5 = 2 from by decide]
  rw [e1, e2]
  show ER r d t (f_P_executeG1 3 5 (f_P_fetch 5 r k M D).1 (f_P_fetch 5 r k M D).2 M D) (f_X_sums_k1 3 5 u M D m (f_X_address 2 u M m))
  exact g1_rel (xm := 2) ho hM hD (Or.inr (Or.inr ⟨by decide, by decide, by decide, by decide⟩)) (by decide) (fr_ZEROX he hK hM h hm) (Or.inr (Or.inr (Or.inr (Or.inl rfl))))
theorem cr_118 : CR 118 := by
  intro r k u M D m d t ho he hm hK hM hD h
  have e1 : pz 118 r k M D = f_P_executeG2 3 5 (f_P_fetch 5 r k M D).1 (f_P_fetch 5 r k M D).2 M D := by
    unfold pz; rw [if_neg (by decide), if_neg (by decide), if_neg (by decide), if_pos (by decide), show (118 : Int32) / 32 = 3 from by decide, show f_P_modeOf 118 = 5 from by decide]
  have e2 : px 118 u M D m = f_X_changes 3 5 u M D m := by
    unfold px; rw [if_neg (by decide), if_pos (by decide), if_neg (by decide), if_neg (by decide), show (118 : Int32) / 32 = 3 from by decide, show (118 : Int32) / 4 - 118 / 4 / 8 * 8 = 5 from by decide]
  rw [e1, e2]
  show ER r d t (f_P_change 3 5 (f_P_fetch 5 r k M D).1 (f_P_fetch 5 r k M D).2 M D) (f_X_changes_k6 3 5 u M D m (f_X_address 2 u M m))
  exact chg_rel ho hM hD (xm := 2) ⟨by decide, by decide, by decide, by decide⟩ (fr_ZEROX he hK hM h hm) (Or.inr (Or.inr (Or.inr (Or.inl rfl)))) rfl
theorem cr_119 : CR 119 := by
  intro r k u M D m d t ho he hm hK hM hD h
  have e1 : pz 119 r k M D = (4, r, k, M, D) := by
    unfold pz; rw [if_neg (by decide), if_pos (by decide)]
  have e2 : px 119 u M D m = (upd u 4 4, M, D, m) := by
    unfold px; rw [if_neg (by decide), if_neg (by decide), if_neg (by decide)]
  rw [e1, e2]
  show ER r d t ((4, r, k, M, D)) ((upd u 4 4, M, D, m))
  exact er_ill hM hD hK h (Or.inr (Or.inr (Or.inr rfl)))
theorem cr_120 : CR 120 := by
  intro r k u M D m d t ho he hm hK hM hD h
  have e1 : pz 120 r k M D = (4, r, k, M, D) := by
    unfold pz; rw [if_neg (by decide), if_pos (by decide)]
  have e2 : px 120 u M D m = f_X_tests 3 6 120 u M D m := by
    unfold px; rw [if_neg (by decide), if_neg (by decide), if_pos (by decide), show (120 : Int32) / 32 = 3 from by decide, show (120 : Int32) / 4 - 120 / 4 / 8 * 8 = 6 from by decide]
  rw [e1, e2]
  show ER r d t ((4, r, k, M, D)) ((upd u 4 4, M, D, m))
  exact er_ill hM hD hK h (Or.inr (Or.inr (Or.inr rfl)))
theorem cr_121 : CR 121 := by
  intro r k u M D m d t ho he hm hK hM hD h
  have e1 : pz 121 r k M D = f_P_executeG1 3 6 (f_P_fetch 6 r k M D).1 (f_P_fetch 6 r k M D).2 M D := by
    unfold pz; rw [if_neg (by decide), if_neg (by decide), if_pos (by decide), show (121 : Int32) / 32 = 3 from by decide, show f_P_modeOf 121 = 6 from by decide]
  have e2 : px 121 u M D m = f_X_sums_k1 3 6 u M D m (f_X_address 6 u M m) := by
    unfold px; rw [if_pos (by decide), show (121 : Int32) / 32 = 3 from by decide, show (121 : Int32) / 4 - 121 / 4 / 8 * 8 = 6 from by decide]; unfold f_X_sums; rw [if_neg (by decide), show f_X_mode1 6 = 6 from by decide]
  rw [e1, e2]
  show ER r d t (f_P_executeG1 3 6 (f_P_fetch 6 r k M D).1 (f_P_fetch 6 r k M D).2 M D) (f_X_sums_k1 3 6 u M D m (f_X_address 6 u M m))
  exact g1_rel (xm := 6) ho hM hD (Or.inr (Or.inr ⟨by decide, by decide, by decide, by decide⟩)) (by decide) (fr_WIDEY he hK hM h hm) (Or.inr (Or.inr (Or.inr (Or.inl rfl))))
theorem cr_122 : CR 122 := by
  intro r k u M D m d t ho he hm hK hM hD h
  have e1 : pz 122 r k M D = (4, r, k, M, D) := by
    unfold pz; rw [if_neg (by decide), if_pos (by decide)]
  have e2 : px 122 u M D m = f_X_changes 3 6 u M D m := by
    unfold px; rw [if_neg (by decide), if_pos (by decide), if_neg (by decide), if_neg (by decide), show (122 : Int32) / 32 = 3 from by decide, show (122 : Int32) / 4 - 122 / 4 / 8 * 8 = 6 from by decide]
  rw [e1, e2]
  show ER r d t ((4, r, k, M, D)) ((upd u 4 4, M, D, m))
  exact er_ill hM hD hK h (Or.inr (Or.inr (Or.inr rfl)))
theorem cr_123 : CR 123 := by
  intro r k u M D m d t ho he hm hK hM hD h
  have e1 : pz 123 r k M D = (4, r, k, M, D) := by
    unfold pz; rw [if_neg (by decide), if_pos (by decide)]
  have e2 : px 123 u M D m = (upd u 4 4, M, D, m) := by
    unfold px; rw [if_neg (by decide), if_neg (by decide), if_neg (by decide)]
  rw [e1, e2]
  show ER r d t ((4, r, k, M, D)) ((upd u 4 4, M, D, m))
  exact er_ill hM hD hK h (Or.inr (Or.inr (Or.inr rfl)))
theorem cr_124 : CR 124 := by
  intro r k u M D m d t ho he hm hK hM hD h
  have e1 : pz 124 r k M D = (4, r, k, M, D) := by
    unfold pz; rw [if_neg (by decide), if_pos (by decide)]
  have e2 : px 124 u M D m = f_X_tests 3 7 124 u M D m := by
    unfold px; rw [if_neg (by decide), if_neg (by decide), if_pos (by decide), show (124 : Int32) / 32 = 3 from by decide, show (124 : Int32) / 4 - 124 / 4 / 8 * 8 = 7 from by decide]
  rw [e1, e2]
  show ER r d t ((4, r, k, M, D)) ((upd u 4 4, M, D, m))
  exact er_ill hM hD hK h (Or.inr (Or.inr (Or.inr rfl)))
theorem cr_125 : CR 125 := by
  intro r k u M D m d t ho he hm hK hM hD h
  have e1 : pz 125 r k M D = f_P_executeG1 3 7 (f_P_fetch 7 r k M D).1 (f_P_fetch 7 r k M D).2 M D := by
    unfold pz; rw [if_neg (by decide), if_neg (by decide), if_pos (by decide), show (125 : Int32) / 32 = 3 from by decide, show f_P_modeOf 125 = 7 from by decide]
  have e2 : px 125 u M D m = f_X_sums_k1 3 7 u M D m (f_X_address 5 u M m) := by
    unfold px; rw [if_pos (by decide), show (125 : Int32) / 32 = 3 from by decide, show (125 : Int32) / 4 - 125 / 4 / 8 * 8 = 7 from by decide]; unfold f_X_sums; rw [if_neg (by decide), show f_X_mode1 7 = 5 from by decide]
  rw [e1, e2]
  show ER r d t (f_P_executeG1 3 7 (f_P_fetch 7 r k M D).1 (f_P_fetch 7 r k M D).2 M D) (f_X_sums_k1 3 7 u M D m (f_X_address 5 u M m))
  exact g1_rel (xm := 5) ho hM hD (Or.inr (Or.inr ⟨by decide, by decide, by decide, by decide⟩)) (by decide) (fr_WIDEX he hK hM h hm) (Or.inr (Or.inr (Or.inr (Or.inl rfl))))
theorem cr_126 : CR 126 := by
  intro r k u M D m d t ho he hm hK hM hD h
  have e1 : pz 126 r k M D = f_P_executeG2 3 7 (f_P_fetch 7 r k M D).1 (f_P_fetch 7 r k M D).2 M D := by
    unfold pz; rw [if_neg (by decide), if_neg (by decide), if_neg (by decide), if_pos (by decide), show (126 : Int32) / 32 = 3 from by decide, show f_P_modeOf 126 = 7 from by decide]
  have e2 : px 126 u M D m = f_X_changes 3 7 u M D m := by
    unfold px; rw [if_neg (by decide), if_pos (by decide), if_neg (by decide), if_neg (by decide), show (126 : Int32) / 32 = 3 from by decide, show (126 : Int32) / 4 - 126 / 4 / 8 * 8 = 7 from by decide]
  rw [e1, e2]
  show ER r d t (f_P_change 3 7 (f_P_fetch 7 r k M D).1 (f_P_fetch 7 r k M D).2 M D) (f_X_changes_k1 3 7 u M D m (f_X_address 5 u M m))
  exact chg_rel ho hM hD (xm := 5) ⟨by decide, by decide, by decide, by decide⟩ (fr_WIDEX he hK hM h hm) (Or.inr (Or.inr (Or.inr (Or.inl rfl)))) rfl
theorem cr_127 : CR 127 := by
  intro r k u M D m d t ho he hm hK hM hD h
  have e1 : pz 127 r k M D = (4, r, k, M, D) := by
    unfold pz; rw [if_neg (by decide), if_pos (by decide)]
  have e2 : px 127 u M D m = (upd u 4 4, M, D, m) := by
    unfold px; rw [if_neg (by decide), if_neg (by decide), if_neg (by decide)]
  rw [e1, e2]
  show ER r d t ((4, r, k, M, D)) ((upd u 4 4, M, D, m))
  exact er_ill hM hD hK h (Or.inr (Or.inr (Or.inr rfl)))
theorem cr_128 : CR 128 := by
  intro r k u M D m d t ho he hm hK hM hD h
  have e1 : pz 128 r k M D = (4, r, k, M, D) := by
    unfold pz; rw [if_neg (by decide), if_pos (by decide)]
  have e2 : px 128 u M D m = f_X_tests 4 0 128 u M D m := by
    unfold px; rw [if_neg (by decide), if_neg (by decide), if_pos (by decide), show (128 : Int32) / 32 = 4 from by decide, show (128 : Int32) / 4 - 128 / 4 / 8 * 8 = 0 from by decide]
  rw [e1, e2]
  show ER r d t ((4, r, k, M, D)) ((upd u 4 4, M, D, m))
  exact er_ill hM hD hK h (Or.inr (Or.inr (Or.inr rfl)))
theorem cr_129 : CR 129 := by
  intro r k u M D m d t ho he hm hK hM hD h
  have e1 : pz 129 r k M D = f_P_executeG1 4 0 (f_P_fetch 0 r k M D).1 (f_P_fetch 0 r k M D).2 M D := by
    unfold pz; rw [if_neg (by decide), if_neg (by decide), if_pos (by decide), show (129 : Int32) / 32 = 4 from by decide, show f_P_modeOf 129 = 0 from by decide]
  have e2 : px 129 u M D m = f_X_sums_k10 4 0 u M D m (f_X_address 7 u M m) := by
    unfold px; rw [if_pos (by decide), show (129 : Int32) / 32 = 4 from by decide, show (129 : Int32) / 4 - 129 / 4 / 8 * 8 = 0 from by decide]; unfold f_X_sums; rw [if_pos rfl, if_neg (by decide), show f_X_mode1 0 = 7 from by decide]
  rw [e1, e2]
  show ER r d t (f_P_executeG1 4 0 (f_P_fetch 0 r k M D).1 (f_P_fetch 0 r k M D).2 M D) (f_X_sums_k10 4 0 u M D m (f_X_address 7 u M m))
  exact g1_st ho hM hD (by decide) (fr_INX he hK hM h hm)
theorem cr_130 : CR 130 := by
  intro r k u M D m d t ho he hm hK hM hD h
  have e1 : pz 130 r k M D = (4, r, k, M, D) := by
    unfold pz; rw [if_neg (by decide), if_pos (by decide)]
  have e2 : px 130 u M D m = f_X_moves 4 0 u M D m := by
    unfold px; rw [if_neg (by decide), if_pos (by decide), if_pos (by decide), show (130 : Int32) / 32 = 4 from by decide, show (130 : Int32) / 4 - 130 / 4 / 8 * 8 = 0 from by decide]
  rw [e1, e2]
  show ER r d t ((4, r, k, M, D)) ((upd u 4 4, M, D, m))
  exact er_ill hM hD hK h (Or.inr (Or.inr (Or.inr rfl)))
theorem cr_131 : CR 131 := by
  intro r k u M D m d t ho he hm hK hM hD h
  have e1 : pz 131 r k M D = (4, r, k, M, D) := by
    unfold pz; rw [if_neg (by decide), if_pos (by decide)]
  have e2 : px 131 u M D m = (upd u 4 4, M, D, m) := by
    unfold px; rw [if_neg (by decide), if_neg (by decide), if_neg (by decide)]
  rw [e1, e2]
  show ER r d t ((4, r, k, M, D)) ((upd u 4 4, M, D, m))
  exact er_ill hM hD hK h (Or.inr (Or.inr (Or.inr rfl)))
theorem cr_132 : CR 132 := by
  intro r k u M D m d t ho he hm hK hM hD h
  have e1 : pz 132 r k M D = f_P_executeG0 132 1 (f_P_fetch 1 r k M D).1 (f_P_fetch 1 r k M D).2 M D := by
    unfold pz; rw [if_neg (by decide), if_neg (by decide), if_neg (by decide), if_neg (by decide), show f_P_modeOf 132 = 1 from by decide]
  have e2 : px 132 u M D m = f_X_tests 4 1 132 u M D m := by
    unfold px; rw [if_neg (by decide), if_neg (by decide), if_pos (by decide), show (132 : Int32) / 32 = 4 from by decide, show (132 : Int32) / 4 - 132 / 4 / 8 * 8 = 1 from by decide]
  rw [e1, e2]
  show ER r d t (((f_B_writeByte ((f_P_fetch 1 r k M D).1 10) ((f_P_fetch 1 r k M D).1 2) (f_P_fetch 1 r k M D).2 M D).1, (f_P_fetch 1 r k M D).1, (f_B_writeByte ((f_P_fetch 1 r k M D).1 10) ((f_P_fetch 1 r k M D).1 2) (f_P_fetch 1 r k M D).2 M D).2.1, (f_B_writeByte ((f_P_fetch 1 r k M D).1 10) ((f_P_fetch 1 r k M D).1 2) (f_P_fetch 1 r k M D).2 M D).2.2.1, (f_B_writeByte ((f_P_fetch 1 r k M D).1 10) ((f_P_fetch 1 r k M D).1 2) (f_P_fetch 1 r k M D).2 M D).2.2.2)) (((f_X_write (f_X_address 1 u M m).1 ((f_X_address 1 u M m).2.2 2) (f_X_address 1 u M m).2.1 M D).1, (f_X_write (f_X_address 1 u M m).1 ((f_X_address 1 u M m).2.2 2) (f_X_address 1 u M m).2.1 M D).2.1, (f_X_write (f_X_address 1 u M m).1 ((f_X_address 1 u M m).2.2 2) (f_X_address 1 u M m).2.1 M D).2.2, (f_X_address 1 u M m).2.2))
  exact st_rel1 ho hM hD (by decide) (fr_ZERO he hK hM h hm) ((fr_ZERO he hK hM h hm).rr ho).1.2.2.1 ((fr_ZERO he hK hM h hm).rr ho).2.1.2.2.1
theorem cr_133 : CR 133 := by
  intro r k u M D m d t ho he hm hK hM hD h
  have e1 : pz 133 r k M D = f_P_executeG1 4 1 (f_P_fetch 1 r k M D).1 (f_P_fetch 1 r k M D).2 M D := by
    unfold pz; rw [if_neg (by decide), if_neg (by decide), if_pos (by decide), show (133 : Int32) / 32 = 4 from by decide, show f_P_modeOf 133 = 1 from by decide]
  have e2 : px 133 u M D m = f_X_sums_k10 4 1 u M D m (f_X_address 1 u M m) := by
    unfold px; rw [if_pos (by decide), show (133 : Int32) / 32 = 4 from by decide, show (133 : Int32) / 4 - 133 / 4 / 8 * 8 = 1 from by decide]; unfold f_X_sums; rw [if_pos rfl, if_neg (by decide), show f_X_mode1 1 = 1 from by decide]
  rw [e1, e2]
  show ER r d t (f_P_executeG1 4 1 (f_P_fetch 1 r k M D).1 (f_P_fetch 1 r k M D).2 M D) (f_X_sums_k10 4 1 u M D m (f_X_address 1 u M m))
  exact g1_st ho hM hD (by decide) (fr_ZERO he hK hM h hm)
theorem cr_134 : CR 134 := by
  intro r k u M D m d t ho he hm hK hM hD h
  have e1 : pz 134 r k M D = f_P_executeG2 4 1 (f_P_fetch 1 r k M D).1 (f_P_fetch 1 r k M D).2 M D := by
    unfold pz; rw [if_neg (by decide), if_neg (by decide), if_neg (by decide), if_pos (by decide), show (134 : Int32) / 32 = 4 from by decide, show f_P_modeOf 134 = 1 from by decide]
  have e2 : px 134 u M D m = f_X_moves 4 1 u M D m := by
    unfold px; rw [if_neg (by decide), if_pos (by decide), if_pos (by decide), show (134 : Int32) / 32 = 4 from by decide, show (134 : Int32) / 4 - 134 / 4 / 8 * 8 = 1 from by decide]
  rw [e1, e2]
  show ER r d t (((f_B_writeByte ((f_P_fetch 1 r k M D).1 10) ((f_P_fetch 1 r k M D).1 1) (f_P_fetch 1 r k M D).2 M D).1, (f_P_fetch 1 r k M D).1, (f_B_writeByte ((f_P_fetch 1 r k M D).1 10) ((f_P_fetch 1 r k M D).1 1) (f_P_fetch 1 r k M D).2 M D).2.1, (f_B_writeByte ((f_P_fetch 1 r k M D).1 10) ((f_P_fetch 1 r k M D).1 1) (f_P_fetch 1 r k M D).2 M D).2.2.1, (f_B_writeByte ((f_P_fetch 1 r k M D).1 10) ((f_P_fetch 1 r k M D).1 1) (f_P_fetch 1 r k M D).2 M D).2.2.2)) (((f_X_write (f_X_address 1 u M m).1 ((f_X_address 1 u M m).2.2 1) (f_X_address 1 u M m).2.1 M D).1, (f_X_write (f_X_address 1 u M m).1 ((f_X_address 1 u M m).2.2 1) (f_X_address 1 u M m).2.1 M D).2.1, (f_X_write (f_X_address 1 u M m).1 ((f_X_address 1 u M m).2.2 1) (f_X_address 1 u M m).2.1 M D).2.2, (f_X_address 1 u M m).2.2))
  exact st_rel1 ho hM hD (by decide) (fr_ZERO he hK hM h hm) ((fr_ZERO he hK hM h hm).rr ho).1.2.1 ((fr_ZERO he hK hM h hm).rr ho).2.1.2.1
theorem cr_135 : CR 135 := by
  intro r k u M D m d t ho he hm hK hM hD h
  have e1 : pz 135 r k M D = (4, r, k, M, D) := by
    unfold pz; rw [if_neg (by decide), if_pos (by decide)]
  have e2 : px 135 u M D m = (upd u 4 4, M, D, m) := by
    unfold px; rw [if_neg (by decide), if_neg (by decide), if_neg (by decide)]
  rw [e1, e2]
  show ER r d t ((4, r, k, M, D)) ((upd u 4 4, M, D, m))
  exact er_ill hM hD hK h (Or.inr (Or.inr (Or.inr rfl)))
theorem cr_136 : CR 136 := by
  intro r k u M D m d t ho he hm hK hM hD h
  have e1 : pz 136 r k M D = f_P_executeG0 136 10 (f_P_fetch 10 r k M D).1 (f_P_fetch 10 r k M D).2 M D := by
    unfold pz; rw [if_neg (by decide), if_neg (by decide), if_neg (by decide), if_neg (by decide), show f_P_modeOf 136 = 10 from by decide]
  have e2 : px 136 u M D m = f_X_tests 4 2 136 u M D m := by
    unfold px; rw [if_neg (by decide), if_neg (by decide), if_pos (by decide), show (136 : Int32) / 32 = 4 from by decide, show (136 : Int32) / 4 - 136 / 4 / 8 * 8 = 2 from by decide]
  rw [e1, e2]
  show ER r d t ((0, upd (f_P_set (((f_P_fetch 10 r k M D).1 2 - 1) &&& 255) (f_P_fetch 10 r k M D).1).2 2 (f_P_set (((f_P_fetch 10 r k M D).1 2 - 1) &&& 255) (f_P_fetch 10 r k M D).1).1, (f_P_fetch 10 r k M D).2, M, D)) ((u, M, D, f_X_put3 2 (m 2 - 1) 1 u m))
  exact ER.plain hM hD h hK (put_rel2 (rr_ALONE he ho hm).1 (by rw [(rr_ALONE he ho hm).1.1.2.2.1]))
theorem cr_137 : CR 137 := by
  intro r k u M D m d t ho he hm hK hM hD h
  have e1 : pz 137 r k M D = (4, r, k, M, D) := by
    unfold pz; rw [if_neg (by decide), if_pos (by decide)]
  have e2 : px 137 u M D m = f_X_sums 4 2 u M D m := by
    unfold px; rw [if_pos (by decide), show (137 : Int32) / 32 = 4 from by decide, show (137 : Int32) / 4 - 137 / 4 / 8 * 8 = 2 from by decide]
  rw [e1, e2]
  show ER r d t ((4, r, k, M, D)) ((upd u 4 4, M, D, m))
  exact er_ill hM hD hK h (Or.inr (Or.inr (Or.inr rfl)))
theorem cr_138 : CR 138 := by
  intro r k u M D m d t ho he hm hK hM hD h
  have e1 : pz 138 r k M D = f_P_executeG2 4 9 (f_P_fetch 9 r k M D).1 (f_P_fetch 9 r k M D).2 M D := by
    unfold pz; rw [if_neg (by decide), if_neg (by decide), if_neg (by decide), if_pos (by decide), show (138 : Int32) / 32 = 4 from by decide, show f_P_modeOf 138 = 9 from by decide]
  have e2 : px 138 u M D m = f_X_moves 4 2 u M D m := by
    unfold px; rw [if_neg (by decide), if_pos (by decide), if_pos (by decide), show (138 : Int32) / 32 = 4 from by decide, show (138 : Int32) / 4 - 138 / 4 / 8 * 8 = 2 from by decide]
  rw [e1, e2]
  show ER r d t ((0, upd (f_P_set ((f_P_fetch 9 r k M D).1 1) (f_P_fetch 9 r k M D).1).2 0 (f_P_set ((f_P_fetch 9 r k M D).1 1) (f_P_fetch 9 r k M D).1).1, (f_P_fetch 9 r k M D).2, M, D)) ((u, M, D, f_X_put3 0 (m 1) 1 u m))
  exact ER.plain hM hD h hK (put_rel0 (rr_SELF he ho hm) (by rw [(rr_SELF he ho hm).1.2.1]; exact isB_and (rr_SELF he ho hm).2.1.2.1))
theorem cr_139 : CR 139 := by
  intro r k u M D m d t ho he hm hK hM hD h
  have e1 : pz 139 r k M D = (4, r, k, M, D) := by
    unfold pz; rw [if_neg (by decide), if_pos (by decide)]
  have e2 : px 139 u M D m = (upd u 4 4, M, D, m) := by
    unfold px; rw [if_neg (by decide), if_neg (by decide), if_neg (by decide)]
  rw [e1, e2]
  show ER r d t ((4, r, k, M, D)) ((upd u 4 4, M, D, m))
  exact er_ill hM hD hK h (Or.inr (Or.inr (Or.inr rfl)))
theorem cr_140 : CR 140 := by
  intro r k u M D m d t ho he hm hK hM hD h
  have e1 : pz 140 r k M D = f_P_executeG0 140 3 (f_P_fetch 3 r k M D).1 (f_P_fetch 3 r k M D).2 M D := by
    unfold pz; rw [if_neg (by decide), if_neg (by decide), if_neg (by decide), if_neg (by decide), show f_P_modeOf 140 = 3 from by decide]
  have e2 : px 140 u M D m = f_X_tests 4 3 140 u M D m := by
    unfold px; rw [if_neg (by decide), if_neg (by decide), if_pos (by decide), show (140 : Int32) / 32 = 4 from by decide, show (140 : Int32) / 4 - 140 / 4 / 8 * 8 = 3 from by decide]
  rw [e1, e2]
  show ER r d t (((f_B_writeByte ((f_P_fetch 3 r k M D).1 10) ((f_P_fetch 3 r k M D).1 2) (f_P_fetch 3 r k M D).2 M D).1, (f_P_fetch 3 r k M D).1, (f_B_writeByte ((f_P_fetch 3 r k M D).1 10) ((f_P_fetch 3 r k M D).1 2) (f_P_fetch 3 r k M D).2 M D).2.1, (f_B_writeByte ((f_P_fetch 3 r k M D).1 10) ((f_P_fetch 3 r k M D).1 2) (f_P_fetch 3 r k M D).2 M D).2.2.1, (f_B_writeByte ((f_P_fetch 3 r k M D).1 10) ((f_P_fetch 3 r k M D).1 2) (f_P_fetch 3 r k M D).2 M D).2.2.2)) (((f_X_write (f_X_address 4 u M m).1 ((f_X_address 4 u M m).2.2 2) (f_X_address 4 u M m).2.1 M D).1, (f_X_write (f_X_address 4 u M m).1 ((f_X_address 4 u M m).2.2 2) (f_X_address 4 u M m).2.1 M D).2.1, (f_X_write (f_X_address 4 u M m).1 ((f_X_address 4 u M m).2.2 2) (f_X_address 4 u M m).2.1 M D).2.2, (f_X_address 4 u M m).2.2))
  exact st_rel1 ho hM hD (by decide) (fr_WIDE he hK hM h hm) ((fr_WIDE he hK hM h hm).rr ho).1.2.2.1 ((fr_WIDE he hK hM h hm).rr ho).2.1.2.2.1
theorem cr_141 : CR 141 := by
  intro r k u M D m d t ho he hm hK hM hD h
  have e1 : pz 141 r k M D = f_P_executeG1 4 3 (f_P_fetch 3 r k M D).1 (f_P_fetch 3 r k M D).2 M D := by
    unfold pz; rw [if_neg (by decide), if_neg (by decide), if_pos (by decide), show (141 : Int32) / 32 = 4 from by decide, show f_P_modeOf 141 = 3 from by decide]
  have e2 : px 141 u M D m = f_X_sums_k10 4 3 u M D m (f_X_address 4 u M m) := by
    unfold px; rw [if_pos (by decide), show (141 : Int32) / 32 = 4 from by decide, show (141 : Int32) / 4 - 141 / 4 / 8 * 8 = 3 from by decide]; unfold f_X_sums; rw [if_pos rfl, if_neg (by decide), show f_X_mode1 3 = 4 from by decide]
  rw [e1, e2]
  show ER r d t (f_P_executeG1 4 3 (f_P_fetch 3 r k M D).1 (f_P_fetch 3 r k M D).2 M D) (f_X_sums_k10 4 3 u M D m (f_X_address 4 u M m))
  exact g1_st ho hM hD (by decide) (fr_WIDE he hK hM h hm)
theorem cr_142 : CR 142 := by
  intro r k u M D m d t ho he hm hK hM hD h
  have e1 : pz 142 r k M D = f_P_executeG2 4 3 (f_P_fetch 3 r k M D).1 (f_P_fetch 3 r k M D).2 M D := by
    unfold pz; rw [if_neg (by decide), if_neg (by decide), if_neg (by decide), if_pos (by decide), show (142 : Int32) / 32 = 4 from by decide, show f_P_modeOf 142 = 3 from by decide]
  have e2 : px 142 u M D m = f_X_moves 4 3 u M D m := by
    unfold px; rw [if_neg (by decide), if_pos (by decide), if_pos (by decide), show (142 : Int32) / 32 = 4 from by decide, show (142 : Int32) / 4 - 142 / 4 / 8 * 8 = 3 from by decide]
  rw [e1, e2]
  show ER r d t (((f_B_writeByte ((f_P_fetch 3 r k M D).1 10) ((f_P_fetch 3 r k M D).1 1) (f_P_fetch 3 r k M D).2 M D).1, (f_P_fetch 3 r k M D).1, (f_B_writeByte ((f_P_fetch 3 r k M D).1 10) ((f_P_fetch 3 r k M D).1 1) (f_P_fetch 3 r k M D).2 M D).2.1, (f_B_writeByte ((f_P_fetch 3 r k M D).1 10) ((f_P_fetch 3 r k M D).1 1) (f_P_fetch 3 r k M D).2 M D).2.2.1, (f_B_writeByte ((f_P_fetch 3 r k M D).1 10) ((f_P_fetch 3 r k M D).1 1) (f_P_fetch 3 r k M D).2 M D).2.2.2)) (((f_X_write (f_X_address 4 u M m).1 ((f_X_address 4 u M m).2.2 1) (f_X_address 4 u M m).2.1 M D).1, (f_X_write (f_X_address 4 u M m).1 ((f_X_address 4 u M m).2.2 1) (f_X_address 4 u M m).2.1 M D).2.1, (f_X_write (f_X_address 4 u M m).1 ((f_X_address 4 u M m).2.2 1) (f_X_address 4 u M m).2.1 M D).2.2, (f_X_address 4 u M m).2.2))
  exact st_rel1 ho hM hD (by decide) (fr_WIDE he hK hM h hm) ((fr_WIDE he hK hM h hm).rr ho).1.2.1 ((fr_WIDE he hK hM h hm).rr ho).2.1.2.1
theorem cr_143 : CR 143 := by
  intro r k u M D m d t ho he hm hK hM hD h
  have e1 : pz 143 r k M D = (4, r, k, M, D) := by
    unfold pz; rw [if_neg (by decide), if_pos (by decide)]
  have e2 : px 143 u M D m = (upd u 4 4, M, D, m) := by
    unfold px; rw [if_neg (by decide), if_neg (by decide), if_neg (by decide)]
  rw [e1, e2]
  show ER r d t ((4, r, k, M, D)) ((upd u 4 4, M, D, m))
  exact er_ill hM hD hK h (Or.inr (Or.inr (Or.inr rfl)))
theorem cr_144 : CR 144 := by
  intro r k u M D m d t ho he hm hK hM hD h
  have e1 : pz 144 r k M D = f_P_executeG0 144 2 (f_P_fetch 2 r k M D).1 (f_P_fetch 2 r k M D).2 M D := by
    unfold pz; rw [if_neg (by decide), if_neg (by decide), if_neg (by decide), if_neg (by decide), show f_P_modeOf 144 = 2 from by decide]
  have e2 : px 144 u M D m = f_X_tests 4 4 144 u M D m := by
    unfold px; rw [if_neg (by decide), if_neg (by decide), if_pos (by decide), show (144 : Int32) / 32 = 4 from by decide, show (144 : Int32) / 4 - 144 / 4 / 8 * 8 = 4 from by decide]
  rw [e1, e2]
  show ER r d t ((0, f_P_branch 4 (f_P_fetch 2 r k M D).1, (f_P_fetch 2 r k M D).2, M, D)) (f_X_tests_k18 4 4 144 u M D m (f_X_branch 4 u M m))
  exact br_rel ho hM hD (fr_NEXT he hK hM h hm) (Or.inr (Or.inr (Or.inr (Or.inr (Or.inl rfl)))))
theorem cr_145 : CR 145 := by
  intro r k u M D m d t ho he hm hK hM hD h
  have e1 : pz 145 r k M D = f_P_executeG1 4 4 (f_P_fetch 4 r k M D).1 (f_P_fetch 4 r k M D).2 M D := by
    unfold pz; rw [if_neg (by decide), if_neg (by decide), if_pos (by decide), show (145 : Int32) / 32 = 4 from by decide, show f_P_modeOf 145 = 4 from by decide]
  have e2 : px 145 u M D m = f_X_sums_k10 4 4 u M D m (f_X_address 8 u M m) := by
    unfold px; rw [if_pos (by decide), show (145 : Int32) / 32 = 4 from by decide, show (145 : Int32) / 4 - 145 / 4 / 8 * 8 = 4 from by decide]; unfold f_X_sums; rw [if_pos rfl, if_neg (by decide), show f_X_mode1 4 = 8 from by decide]
  rw [e1, e2]
  show ER r d t (f_P_executeG1 4 4 (f_P_fetch 4 r k M D).1 (f_P_fetch 4 r k M D).2 M D) (f_X_sums_k10 4 4 u M D m (f_X_address 8 u M m))
  exact g1_st ho hM hD (by decide) (fr_INY he hK hM h hm)
theorem cr_146 : CR 146 := by
  intro r k u M D m d t ho he hm hK hM hD h
  have e1 : pz 146 r k M D = (4, r, k, M, D) := by
    unfold pz; rw [if_neg (by decide), if_pos (by decide)]
  have e2 : px 146 u M D m = f_X_moves 4 4 u M D m := by
    unfold px; rw [if_neg (by decide), if_pos (by decide), if_pos (by decide), show (146 : Int32) / 32 = 4 from by decide, show (146 : Int32) / 4 - 146 / 4 / 8 * 8 = 4 from by decide]
  rw [e1, e2]
  show ER r d t ((4, r, k, M, D)) ((upd u 4 4, M, D, m))
  exact er_ill hM hD hK h (Or.inr (Or.inr (Or.inr rfl)))
theorem cr_147 : CR 147 := by
  intro r k u M D m d t ho he hm hK hM hD h
  have e1 : pz 147 r k M D = (4, r, k, M, D) := by
    unfold pz; rw [if_neg (by decide), if_pos (by decide)]
  have e2 : px 147 u M D m = (upd u 4 4, M, D, m) := by
    unfold px; rw [if_neg (by decide), if_neg (by decide), if_neg (by decide)]
  rw [e1, e2]
  show ER r d t ((4, r, k, M, D)) ((upd u 4 4, M, D, m))
  exact er_ill hM hD hK h (Or.inr (Or.inr (Or.inr rfl)))
theorem cr_148 : CR 148 := by
  intro r k u M D m d t ho he hm hK hM hD h
  have e1 : pz 148 r k M D = f_P_executeG0 148 5 (f_P_fetch 5 r k M D).1 (f_P_fetch 5 r k M D).2 M D := by
    unfold pz; rw [if_neg (by decide), if_neg (by decide), if_neg (by decide), if_neg (by decide), show f_P_modeOf 148 = 5 from by decide]
  have e2 : px 148 u M D m = f_X_tests 4 5 148 u M D m := by
    unfold px; rw [if_neg (by decide), if_neg (by decide), if_pos (by decide), show (148 : Int32) / 32 = 4 from by decide, show (148 : Int32) / 4 - 148 / 4 / 8 * 8 = 5 from by decide]
  rw [e1, e2]
  show ER r d t (((f_B_writeByte ((f_P_fetch 5 r k M D).1 10) ((f_P_fetch 5 r k M D).1 2) (f_P_fetch 5 r k M D).2 M D).1, (f_P_fetch 5 r k M D).1, (f_B_writeByte ((f_P_fetch 5 r k M D).1 10) ((f_P_fetch 5 r k M D).1 2) (f_P_fetch 5 r k M D).2 M D).2.1, (f_B_writeByte ((f_P_fetch 5 r k M D).1 10) ((f_P_fetch 5 r k M D).1 2) (f_P_fetch 5 r k M D).2 M D).2.2.1, (f_B_writeByte ((f_P_fetch 5 r k M D).1 10) ((f_P_fetch 5 r k M D).1 2) (f_P_fetch 5 r k M D).2 M D).2.2.2)) (((f_X_write (f_X_address 2 u M m).1 ((f_X_address 2 u M m).2.2 2) (f_X_address 2 u M m).2.1 M D).1, (f_X_write (f_X_address 2 u M m).1 ((f_X_address 2 u M m).2.2 2) (f_X_address 2 u M m).2.1 M D).2.1, (f_X_write (f_X_address 2 u M m).1 ((f_X_address 2 u M m).2.2 2) (f_X_address 2 u M m).2.1 M D).2.2, (f_X_address 2 u M m).2.2))
  exact st_rel1 ho hM hD (by decide) (fr_ZEROX he hK hM h hm) ((fr_ZEROX he hK hM h hm).rr ho).1.2.2.1 ((fr_ZEROX he hK hM h hm).rr ho).2.1.2.2.1
theorem cr_149 : CR 149 := by
  intro r k u M D m d t ho he hm hK hM hD h
  have e1 : pz 149 r k M D = f_P_executeG1 4 5 (f_P_fetch 5 r k M D).1 (f_P_fetch 5 r k M D).2 M D := by
    unfold pz; rw [if_neg (by decide), if_neg (by decide), if_pos (by decide), show (149 : Int32) / 32 = 4 from by decide, show f_P_modeOf 149 = 5 from by decide]
  have e2 : px 149 u M D m = f_X_sums_k10 4 5 u M D m (f_X_address 2 u M m) := by
    unfold px; rw [if_pos (by decide), show (149 : Int32) / 32 = 4 from by decide, show (149 : Int32) / 4 - 149 / 4 / 8 * 8 = 5 from by decide]; unfold f_X_sums; rw [if_pos rfl, if_neg (by decide), show f_X_mode1 5 = 2 from by decide]
  rw [e1, e2]
  show ER r d t (f_P_executeG1 4 5 (f_P_fetch 5 r k M D).1 (f_P_fetch 5 r k M D).2 M D) (f_X_sums_k10 4 5 u M D m (f_X_address 2 u M m))
  exact g1_st ho hM hD (by decide) (fr_ZEROX he hK hM h hm)
theorem cr_150 : CR 150 := by
  intro r k u M D m d t ho he hm hK hM hD h
  have e1 : pz 150 r k M D = f_P_executeG2 4 8 (f_P_fetch 8 r k M D).1 (f_P_fetch 8 r k M D).2 M D := by
    unfold pz; rw [if_neg (by decide), if_neg (by decide), if_neg (by decide), if_pos (by decide), show (150 : Int32) / 32 = 4 from by decide, show f_P_modeOf 150 = 8 from by decide]
  have e2 : px 150 u M D m = f_X_moves 4 5 u M D m := by
    unfold px; rw [if_neg (by decide), if_pos (by decide), if_pos (by decide), show (150 : Int32) / 32 = 4 from by decide, show (150 : Int32) / 4 - 150 / 4 / 8 * 8 = 5 from by decide]
  rw [e1, e2]
  show ER r d t (((f_B_writeByte ((f_P_fetch 8 r k M D).1 10) ((f_P_fetch 8 r k M D).1 1) (f_P_fetch 8 r k M D).2 M D).1, (f_P_fetch 8 r k M D).1, (f_B_writeByte ((f_P_fetch 8 r k M D).1 10) ((f_P_fetch 8 r k M D).1 1) (f_P_fetch 8 r k M D).2 M D).2.1, (f_B_writeByte ((f_P_fetch 8 r k M D).1 10) ((f_P_fetch 8 r k M D).1 1) (f_P_fetch 8 r k M D).2 M D).2.2.1, (f_B_writeByte ((f_P_fetch 8 r k M D).1 10) ((f_P_fetch 8 r k M D).1 1) (f_P_fetch 8 r k M D).2 M D).2.2.2)) (((f_X_write (f_X_address 3 u M m).1 ((f_X_address 3 u M m).2.2 1) (f_X_address 3 u M m).2.1 M D).1, (f_X_write (f_X_address 3 u M m).1 ((f_X_address 3 u M m).2.2 1) (f_X_address 3 u M m).2.1 M D).2.1, (f_X_write (f_X_address 3 u M m).1 ((f_X_address 3 u M m).2.2 1) (f_X_address 3 u M m).2.1 M D).2.2, (f_X_address 3 u M m).2.2))
  exact st_rel1 ho hM hD (by decide) (fr_ZEROY he hK hM h hm) ((fr_ZEROY he hK hM h hm).rr ho).1.2.1 ((fr_ZEROY he hK hM h hm).rr ho).2.1.2.1
theorem cr_151 : CR 151 := by
  intro r k u M D m d t ho he hm hK hM hD h
  have e1 : pz 151 r k M D = (4, r, k, M, D) := by
    unfold pz; rw [if_neg (by decide), if_pos (by decide)]
  have e2 : px 151 u M D m = (upd u 4 4, M, D, m) := by
    unfold px; rw [if_neg (by decide), if_neg (by decide), if_neg (by decide)]
  rw [e1, e2]
  show ER r d t ((4, r, k, M, D)) ((upd u 4 4, M, D, m))
  exact er_ill hM hD hK h (Or.inr (Or.inr (Or.inr rfl)))
theorem cr_152 : CR 152 := by
  intro r k u M D m d t ho he hm hK hM hD h
  have e1 : pz 152 r k M D = f_P_executeG0 152 10 (f_P_fetch 10 r k M D).1 (f_P_fetch 10 r k M D).2 M D := by
    unfold pz; rw [if_neg (by decide), if_neg (by decide), if_neg (by decide), if_neg (by decide), show f_P_modeOf 152 = 10 from by decide]
  have e2 : px 152 u M D m = f_X_tests 4 6 152 u M D m := by
    unfold px; rw [if_neg (by decide), if_neg (by decide), if_pos (by decide), show (152 : Int32) / 32 = 4 from by decide, show (152 : Int32) / 4 - 152 / 4 / 8 * 8 = 6 from by decide]
  rw [e1, e2]
  show ER r d t ((0, upd (f_P_set ((f_P_fetch 10 r k M D).1 2) (f_P_fetch 10 r k M D).1).2 0 (f_P_set ((f_P_fetch 10 r k M D).1 2) (f_P_fetch 10 r k M D).1).1, (f_P_fetch 10 r k M D).2, M, D)) ((u, M, D, f_X_put3 0 (m 2) 1 u m))
  exact ER.plain hM hD h hK (put_rel0 (rr_ALONE he ho hm).1 (by rw [(rr_ALONE he ho hm).1.1.2.2.1]; exact isB_and (rr_ALONE he ho hm).1.2.1.2.2.1))
theorem cr_153 : CR 153 := by
  intro r k u M D m d t ho he hm hK hM hD h
  have e1 : pz 153 r k M D = f_P_executeG1 4 6 (f_P_fetch 6 r k M D).1 (f_P_fetch 6 r k M D).2 M D := by
    unfold pz; rw [if_neg (by decide), if_neg (by decide), if_pos (by decide), show (153 : Int32) / 32 = 4 from by decide, show f_P_modeOf 153 = 6 from by decide]
  have e2 : px 153 u M D m = f_X_sums_k10 4 6 u M D m (f_X_address 6 u M m) := by
    unfold px; rw [if_pos (by decide), show (153 : Int32) / 32 = 4 from by decide, show (153 : Int32) / 4 - 153 / 4 / 8 * 8 = 6 from by decide]; unfold f_X_sums; rw [if_pos rfl, if_neg (by decide), show f_X_mode1 6 = 6 from by decide]
  rw [e1, e2]
  show ER r d t (f_P_executeG1 4 6 (f_P_fetch 6 r k M D).1 (f_P_fetch 6 r k M D).2 M D) (f_X_sums_k10 4 6 u M D m (f_X_address 6 u M m))
  exact g1_st ho hM hD (by decide) (fr_WIDEY he hK hM h hm)
theorem cr_154 : CR 154 := by
  intro r k u M D m d t ho he hm hK hM hD h
  have e1 : pz 154 r k M D = f_P_executeG2 4 10 (f_P_fetch 10 r k M D).1 (f_P_fetch 10 r k M D).2 M D := by
    unfold pz; rw [if_neg (by decide), if_neg (by decide), if_neg (by decide), if_pos (by decide), show (154 : Int32) / 32 = 4 from by decide, show f_P_modeOf 154 = 10 from by decide]
  have e2 : px 154 u M D m = f_X_moves 4 6 u M D m := by
    unfold px; rw [if_neg (by decide), if_pos (by decide), if_pos (by decide), show (154 : Int32) / 32 = 4 from by decide, show (154 : Int32) / 4 - 154 / 4 / 8 * 8 = 6 from by decide]
  rw [e1, e2]
  show ER r d t ((0, upd (f_P_fetch 10 r k M D).1 3 ((f_P_fetch 10 r k M D).1 1), (f_P_fetch 10 r k M D).2, M, D)) ((u, M, D, upd m 3 (m 1 &&& 255)))
  exact ER.plain hM hD h hK (by rw [(rr_ALONE he ho hm).1.1.2.1, isB_and (rr_ALONE he ho hm).1.2.1.2.1]; exact rr_u3 (rr_ALONE he ho hm).1 (rr_ALONE he ho hm).1.2.1.2.1)
theorem cr_155 : CR 155 := by
  intro r k u M D m d t ho he hm hK hM hD h
  have e1 : pz 155 r k M D = (4, r, k, M, D) := by
    unfold pz; rw [if_neg (by decide), if_pos (by decide)]
  have e2 : px 155 u M D m = (upd u 4 4, M, D, m) := by
    unfold px; rw [if_neg (by decide), if_neg (by decide), if_neg (by decide)]
  rw [e1, e2]
  show ER r d t ((4, r, k, M, D)) ((upd u 4 4, M, D, m))
  exact er_ill hM hD hK h (Or.inr (Or.inr (Or.inr rfl)))
theorem cr_156 : CR 156 := by
  intro r k u M D m d t ho he hm hK hM hD h
  have e1 : pz 156 r k M D = (4, r, k, M, D) := by
    unfold pz; rw [if_neg (by decide), if_pos (by decide)]
  have e2 : px 156 u M D m = f_X_tests 4 7 156 u M D m := by
    unfold px; rw [if_neg (by decide), if_neg (by decide), if_pos (by decide), show (156 : Int32) / 32 = 4 from by decide, show (156 : Int32) / 4 - 156 / 4 / 8 * 8 = 7 from by decide]
  rw [e1, e2]
  show ER r d t ((4, r, k, M, D)) ((upd u 4 4, M, D, m))
  exact er_ill hM hD hK h (Or.inr (Or.inr (Or.inr rfl)))
theorem cr_157 : CR 157 := by
  intro r k u M D m d t ho he hm hK hM hD h
  have e1 : pz 157 r k M D = f_P_executeG1 4 7 (f_P_fetch 7 r k M D).1 (f_P_fetch 7 r k M D).2 M D := by
    unfold pz; rw [if_neg (by decide), if_neg (by decide), if_pos (by decide), show (157 : Int32) / 32 = 4 from by decide, show f_P_modeOf 157 = 7 from by decide]
  have e2 : px 157 u M D m = f_X_sums_k10 4 7 u M D m (f_X_address 5 u M m) := by
    unfold px; rw [if_pos (by decide), show (157 : Int32) / 32 = 4 from by decide, show (157 : Int32) / 4 - 157 / 4 / 8 * 8 = 7 from by decide]; unfold f_X_sums; rw [if_pos rfl, if_neg (by decide), show f_X_mode1 7 = 5 from by decide]
  rw [e1, e2]
  show ER r d t (f_P_executeG1 4 7 (f_P_fetch 7 r k M D).1 (f_P_fetch 7 r k M D).2 M D) (f_X_sums_k10 4 7 u M D m (f_X_address 5 u M m))
  exact g1_st ho hM hD (by decide) (fr_WIDEX he hK hM h hm)
theorem cr_158 : CR 158 := by
  intro r k u M D m d t ho he hm hK hM hD h
  have e1 : pz 158 r k M D = (4, r, k, M, D) := by
    unfold pz; rw [if_neg (by decide), if_pos (by decide)]
  have e2 : px 158 u M D m = f_X_moves 4 7 u M D m := by
    unfold px; rw [if_neg (by decide), if_pos (by decide), if_pos (by decide), show (158 : Int32) / 32 = 4 from by decide, show (158 : Int32) / 4 - 158 / 4 / 8 * 8 = 7 from by decide]
  rw [e1, e2]
  show ER r d t ((4, r, k, M, D)) ((upd u 4 4, M, D, m))
  exact er_ill hM hD hK h (Or.inr (Or.inr (Or.inr rfl)))
theorem cr_159 : CR 159 := by
  intro r k u M D m d t ho he hm hK hM hD h
  have e1 : pz 159 r k M D = (4, r, k, M, D) := by
    unfold pz; rw [if_neg (by decide), if_pos (by decide)]
  have e2 : px 159 u M D m = (upd u 4 4, M, D, m) := by
    unfold px; rw [if_neg (by decide), if_neg (by decide), if_neg (by decide)]
  rw [e1, e2]
  show ER r d t ((4, r, k, M, D)) ((upd u 4 4, M, D, m))
  exact er_ill hM hD hK h (Or.inr (Or.inr (Or.inr rfl)))
theorem cr_160 : CR 160 := by
  intro r k u M D m d t ho he hm hK hM hD h
  have e1 : pz 160 r k M D = f_P_executeG0 160 2 (f_P_fetch 2 r k M D).1 (f_P_fetch 2 r k M D).2 M D := by
    unfold pz; rw [if_neg (by decide), if_neg (by decide), if_neg (by decide), if_neg (by decide), show f_P_modeOf 160 = 2 from by decide]
  have e2 : px 160 u M D m = f_X_tests 5 0 160 u M D m := by
    unfold px; rw [if_neg (by decide), if_neg (by decide), if_pos (by decide), show (160 : Int32) / 32 = 5 from by decide, show (160 : Int32) / 4 - 160 / 4 / 8 * 8 = 0 from by decide]
  rw [e1, e2]
  show ER r d t ((0, upd (f_P_set (f_P_operand 2 (f_P_fetch 2 r k M D).1 (f_P_fetch 2 r k M D).2 M D).1 (f_P_fetch 2 r k M D).1).2 2 (f_P_set (f_P_operand 2 (f_P_fetch 2 r k M D).1 (f_P_fetch 2 r k M D).2 M D).1 (f_P_fetch 2 r k M D).1).1, (f_P_operand 2 (f_P_fetch 2 r k M D).1 (f_P_fetch 2 r k M D).2 M D).2, M, D)) (((f_X_operand 0 (f_X_address 0 u M m).1 (f_X_address 0 u M m).2.1 M (f_X_address 0 u M m).2.2).2, M, D, f_X_put3 2 (f_X_operand 0 (f_X_address 0 u M m).1 (f_X_address 0 u M m).2.1 M (f_X_address 0 u M m).2.2).1 1 (f_X_operand 0 (f_X_address 0 u M m).1 (f_X_address 0 u M m).2.1 M (f_X_address 0 u M m).2.2).2 (f_X_address 0 u M m).2.2))
  exact ld_rel2 ho hM hD (Or.inl ⟨rfl, rfl⟩) (fr_NEXT he hK hM h hm)
theorem cr_161 : CR 161 := by
  intro r k u M D m d t ho he hm hK hM hD h
  have e1 : pz 161 r k M D = f_P_executeG1 5 0 (f_P_fetch 0 r k M D).1 (f_P_fetch 0 r k M D).2 M D := by
    unfold pz; rw [if_neg (by decide), if_neg (by decide), if_pos (by decide), show (161 : Int32) / 32 = 5 from by decide, show f_P_modeOf 161 = 0 from by decide]
  have e2 : px 161 u M D m = f_X_sums_k1 5 0 u M D m (f_X_address 7 u M m) := by
    unfold px; rw [if_pos (by decide), show (161 : Int32) / 32 = 5 from by decide, show (161 : Int32) / 4 - 161 / 4 / 8 * 8 = 0 from by decide]; unfold f_X_sums; rw [if_neg (by decide), show f_X_mode1 0 = 7 from by decide]
  rw [e1, e2]
  show ER r d t (f_P_executeG1 5 0 (f_P_fetch 0 r k M D).1 (f_P_fetch 0 r k M D).2 M D) (f_X_sums_k1 5 0 u M D m (f_X_address 7 u M m))
  exact g1_rel (xm := 7) ho hM hD (Or.inr (Or.inr ⟨by decide, by decide, by decide, by decide⟩)) (by decide) (fr_INX he hK hM h hm) (Or.inr (Or.inr (Or.inr (Or.inr (Or.inl rfl)))))
theorem cr_162 : CR 162 := by
  intro r k u M D m d t ho he hm hK hM hD h
  have e1 : pz 162 r k M D = f_P_executeG2 5 2 (f_P_fetch 2 r k M D).1 (f_P_fetch 2 r k M D).2 M D := by
    unfold pz; rw [if_neg (by decide), if_neg (by decide), if_neg (by decide), if_pos (by decide), show (162 : Int32) / 32 = 5 from by decide, show f_P_modeOf 162 = 2 from by decide]
  have e2 : px 162 u M D m = f_X_moves 5 0 u M D m := by
    unfold px; rw [if_neg (by decide), if_pos (by decide), if_neg (by decide), if_pos (by decide), show (162 : Int32) / 32 = 5 from by decide, show (162 : Int32) / 4 - 162 / 4 / 8 * 8 = 0 from by decide]
  rw [e1, e2]
  show ER r d t ((0, upd (f_P_set (f_P_operand 2 (f_P_fetch 2 r k M D).1 (f_P_fetch 2 r k M D).2 M D).1 (f_P_fetch 2 r k M D).1).2 1 (f_P_set (f_P_operand 2 (f_P_fetch 2 r k M D).1 (f_P_fetch 2 r k M D).2 M D).1 (f_P_fetch 2 r k M D).1).1, (f_P_operand 2 (f_P_fetch 2 r k M D).1 (f_P_fetch 2 r k M D).2 M D).2, M, D)) (((f_X_operand 0 (f_X_address 0 u M m).1 (f_X_address 0 u M m).2.1 M (f_X_address 0 u M m).2.2).2, M, D, f_X_put3 1 (f_X_operand 0 (f_X_address 0 u M m).1 (f_X_address 0 u M m).2.1 M (f_X_address 0 u M m).2.2).1 1 (f_X_operand 0 (f_X_address 0 u M m).1 (f_X_address 0 u M m).2.1 M (f_X_address 0 u M m).2.2).2 (f_X_address 0 u M m).2.2))
  exact ld_rel1 ho hM hD (Or.inl ⟨rfl, rfl⟩) (fr_NEXT he hK hM h hm)
theorem cr_163 : CR 163 := by
  intro r k u M D m d t ho he hm hK hM hD h
  have e1 : pz 163 r k M D = (4, r, k, M, D) := by
    unfold pz; rw [if_neg (by decide), if_pos (by decide)]
  have e2 : px 163 u M D m = (upd u 4 4, M, D, m) := by
    unfold px; rw [if_neg (by decide), if_neg (by decide), if_neg (by decide)]
  rw [e1, e2]
  show ER r d t ((4, r, k, M, D)) ((upd u 4 4, M, D, m))
  exact er_ill hM hD hK h (Or.inr (Or.inr (Or.inr rfl)))
theorem cr_164 : CR 164 := by
  intro r k u M D m d t ho he hm hK hM hD h
  have e1 : pz 164 r k M D = f_P_executeG0 164 1 (f_P_fetch 1 r k M D).1 (f_P_fetch 1 r k M D).2 M D := by
    unfold pz; rw [if_neg (by decide), if_neg (by decide), if_neg (by decide), if_neg (by decide), show f_P_modeOf 164 = 1 from by decide]
  have e2 : px 164 u M D m = f_X_tests 5 1 164 u M D m := by
    unfold px; rw [if_neg (by decide), if_neg (by decide), if_pos (by decide), show (164 : Int32) / 32 = 5 from by decide, show (164 : Int32) / 4 - 164 / 4 / 8 * 8 = 1 from by decide]
  rw [e1, e2]
  show ER r d t ((0, upd (f_P_set (f_P_operand 1 (f_P_fetch 1 r k M D).1 (f_P_fetch 1 r k M D).2 M D).1 (f_P_fetch 1 r k M D).1).2 2 (f_P_set (f_P_operand 1 (f_P_fetch 1 r k M D).1 (f_P_fetch 1 r k M D).2 M D).1 (f_P_fetch 1 r k M D).1).1, (f_P_operand 1 (f_P_fetch 1 r k M D).1 (f_P_fetch 1 r k M D).2 M D).2, M, D)) (((f_X_operand 1 (f_X_address 1 u M m).1 (f_X_address 1 u M m).2.1 M (f_X_address 1 u M m).2.2).2, M, D, f_X_put3 2 (f_X_operand 1 (f_X_address 1 u M m).1 (f_X_address 1 u M m).2.1 M (f_X_address 1 u M m).2.2).1 1 (f_X_operand 1 (f_X_address 1 u M m).1 (f_X_address 1 u M m).2.1 M (f_X_address 1 u M m).2.2).2 (f_X_address 1 u M m).2.2))
  exact ld_rel2 ho hM hD (Or.inr (Or.inr ⟨by decide, by decide, by decide, by decide⟩)) (fr_ZERO he hK hM h hm)
theorem cr_165 : CR 165 := by
  intro r k u M D m d t ho he hm hK hM hD h
  have e1 : pz 165 r k M D = f_P_executeG1 5 1 (f_P_fetch 1 r k M D).1 (f_P_fetch 1 r k M D).2 M D := by
    unfold pz; rw [if_neg (by decide), if_neg (by decide), if_pos (by decide), show (165 : Int32) / 32 = 5 from by decide, show f_P_modeOf 165 = 1 from by decide]
  have e2 : px 165 u M D m = f_X_sums_k1 5 1 u M D m (f_X_address 1 u M m) := by
    unfold px; rw [if_pos (by decide), show (165 : Int32) / 32 = 5 from by decide, show (165 : Int32) / 4 - 165 / 4 / 8 * 8 = 1 from by decide]; unfold f_X_sums; rw [if_neg (by decide), show f_X_mode1 1 = 1 from by decide]
  rw [e1, e2]
  show ER r d t (f_P_executeG1 5 1 (f_P_fetch 1 r k M D).1 (f_P_fetch 1 r k M D).2 M D) (f_X_sums_k1 5 1 u M D m (f_X_address 1 u M m))
  exact g1_rel (xm := 1) ho hM hD (Or.inr (Or.inr ⟨by decide, by decide, by decide, by decide⟩)) (by decide) (fr_ZERO he hK hM h hm) (Or.inr (Or.inr (Or.inr (Or.inr (Or.inl rfl)))))
theorem cr_166 : CR 166 := by
  intro r k u M D m d t ho he hm hK hM hD h
  have e1 : pz 166 r k M D = f_P_executeG2 5 1 (f_P_fetch 1 r k M D).1 (f_P_fetch 1 r k M D).2 M D := by
    unfold pz; rw [if_neg (by decide), if_neg (by decide), if_neg (by decide), if_pos (by decide), show (166 : Int32) / 32 = 5 from by decide, show f_P_modeOf 166 = 1 from by decide]
  have e2 : px 166 u M D m = f_X_moves 5 1 u M D m := by
    unfold px; rw [if_neg (by decide), if_pos (by decide), if_neg (by decide), if_pos (by decide), show (166 : Int32) / 32 = 5 from by decide, show (166 : Int32) / 4 - 166 / 4 / 8 * 8 = 1 from by decide]
  rw [e1, e2]
  show ER r d t ((0, upd (f_P_set (f_P_operand 1 (f_P_fetch 1 r k M D).1 (f_P_fetch 1 r k M D).2 M D).1 (f_P_fetch 1 r k M D).1).2 1 (f_P_set (f_P_operand 1 (f_P_fetch 1 r k M D).1 (f_P_fetch 1 r k M D).2 M D).1 (f_P_fetch 1 r k M D).1).1, (f_P_operand 1 (f_P_fetch 1 r k M D).1 (f_P_fetch 1 r k M D).2 M D).2, M, D)) (((f_X_operand 1 (f_X_address 1 u M m).1 (f_X_address 1 u M m).2.1 M (f_X_address 1 u M m).2.2).2, M, D, f_X_put3 1 (f_X_operand 1 (f_X_address 1 u M m).1 (f_X_address 1 u M m).2.1 M (f_X_address 1 u M m).2.2).1 1 (f_X_operand 1 (f_X_address 1 u M m).1 (f_X_address 1 u M m).2.1 M (f_X_address 1 u M m).2.2).2 (f_X_address 1 u M m).2.2))
  exact ld_rel1 ho hM hD (Or.inr (Or.inr ⟨by decide, by decide, by decide, by decide⟩)) (fr_ZERO he hK hM h hm)
theorem cr_167 : CR 167 := by
  intro r k u M D m d t ho he hm hK hM hD h
  have e1 : pz 167 r k M D = (4, r, k, M, D) := by
    unfold pz; rw [if_neg (by decide), if_pos (by decide)]
  have e2 : px 167 u M D m = (upd u 4 4, M, D, m) := by
    unfold px; rw [if_neg (by decide), if_neg (by decide), if_neg (by decide)]
  rw [e1, e2]
  show ER r d t ((4, r, k, M, D)) ((upd u 4 4, M, D, m))
  exact er_ill hM hD hK h (Or.inr (Or.inr (Or.inr rfl)))
theorem cr_168 : CR 168 := by
  intro r k u M D m d t ho he hm hK hM hD h
  have e1 : pz 168 r k M D = f_P_executeG0 168 10 (f_P_fetch 10 r k M D).1 (f_P_fetch 10 r k M D).2 M D := by
    unfold pz; rw [if_neg (by decide), if_neg (by decide), if_neg (by decide), if_neg (by decide), show f_P_modeOf 168 = 10 from by decide]
  have e2 : px 168 u M D m = f_X_tests 5 2 168 u M D m := by
    unfold px; rw [if_neg (by decide), if_neg (by decide), if_pos (by decide), show (168 : Int32) / 32 = 5 from by decide, show (168 : Int32) / 4 - 168 / 4 / 8 * 8 = 2 from by decide]
  rw [e1, e2]
  show ER r d t ((0, upd (f_P_set ((f_P_fetch 10 r k M D).1 0) (f_P_fetch 10 r k M D).1).2 2 (f_P_set ((f_P_fetch 10 r k M D).1 0) (f_P_fetch 10 r k M D).1).1, (f_P_fetch 10 r k M D).2, M, D)) ((u, M, D, f_X_put3 2 (m 0) 1 u m))
  exact ER.plain hM hD h hK (put_rel2 (rr_ALONE he ho hm).1 (by rw [(rr_ALONE he ho hm).1.1.1]; exact isB_and (rr_ALONE he ho hm).1.2.1.1))
theorem cr_169 : CR 169 := by
  intro r k u M D m d t ho he hm hK hM hD h
  have e1 : pz 169 r k M D = f_P_executeG1 5 2 (f_P_fetch 2 r k M D).1 (f_P_fetch 2 r k M D).2 M D := by
    unfold pz; rw [if_neg (by decide), if_neg (by decide), if_pos (by decide), show (169 : Int32) / 32 = 5 from by decide, show f_P_modeOf 169 = 2 from by decide]
  have e2 : px 169 u M D m = f_X_sums_k1 5 2 u M D m (f_X_address 0 u M m) := by
    unfold px; rw [if_pos (by decide), show (169 : Int32) / 32 = 5 from by decide, show (169 : Int32) / 4 - 169 / 4 / 8 * 8 = 2 from by decide]; unfold f_X_sums; rw [if_neg (by decide), show f_X_mode1 2 = 0 from by decide]
  rw [e1, e2]
  show ER r d t (f_P_executeG1 5 2 (f_P_fetch 2 r k M D).1 (f_P_fetch 2 r k M D).2 M D) (f_X_sums_k1 5 2 u M D m (f_X_address 0 u M m))
  exact g1_rel (xm := 0) ho hM hD (Or.inl ⟨rfl, rfl⟩) (by decide) (fr_NEXT he hK hM h hm) (Or.inr (Or.inr (Or.inr (Or.inr (Or.inl rfl)))))
theorem cr_170 : CR 170 := by
  intro r k u M D m d t ho he hm hK hM hD h
  have e1 : pz 170 r k M D = f_P_executeG2 5 9 (f_P_fetch 9 r k M D).1 (f_P_fetch 9 r k M D).2 M D := by
    unfold pz; rw [if_neg (by decide), if_neg (by decide), if_neg (by decide), if_pos (by decide), show (170 : Int32) / 32 = 5 from by decide, show f_P_modeOf 170 = 9 from by decide]
  have e2 : px 170 u M D m = f_X_moves 5 2 u M D m := by
    unfold px; rw [if_neg (by decide), if_pos (by decide), if_neg (by decide), if_pos (by decide), show (170 : Int32) / 32 = 5 from by decide, show (170 : Int32) / 4 - 170 / 4 / 8 * 8 = 2 from by decide]
  rw [e1, e2]
  show ER r d t ((0, upd (f_P_set ((f_P_fetch 9 r k M D).1 0) (f_P_fetch 9 r k M D).1).2 1 (f_P_set ((f_P_fetch 9 r k M D).1 0) (f_P_fetch 9 r k M D).1).1, (f_P_fetch 9 r k M D).2, M, D)) ((u, M, D, f_X_put3 1 (m 0) 1 u m))
  exact ER.plain hM hD h hK (put_rel1 (rr_SELF he ho hm) (by rw [(rr_SELF he ho hm).1.1]; exact isB_and (rr_SELF he ho hm).2.1.1))
